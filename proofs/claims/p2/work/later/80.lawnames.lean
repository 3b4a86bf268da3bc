def RL : String := "HiredEnemyLaw"
abbrev cL_siege : ByteArray := method_3_code
def yL_siege : MethodName := ⟨RL, "siege", "(LHiredEnemy;I[J)I"⟩
abbrev cL_contract : ByteArray := method_4_code
def yL_contract : MethodName := ⟨RL, "contract", "(LHiredEnemy;I[J)I"⟩
abbrev cL_told : ByteArray := method_5_code
def yL_told : MethodName := ⟨RL, "told", "(LHiredEnemy;I[J)I"⟩
abbrev cL_wall : ByteArray := method_6_code
def yL_wall : MethodName := ⟨RL, "wall", "(LHiredEnemy;II[J)I"⟩
abbrev cL_rule : ByteArray := method_7_code
def yL_rule : MethodName := ⟨RL, "rule", "(LHiredEnemy;II[J)I"⟩
abbrev cL_wants : ByteArray := method_8_code
def yL_wants : MethodName := ⟨RL, "wants", "(LHiredEnemy;II[J)I"⟩
abbrev cL_sign : ByteArray := method_9_code
def yL_sign : MethodName := ⟨RL, "sign", "(LHiredEnemy;I[J)I"⟩
abbrev cL_months : ByteArray := method_10_code
def yL_months : MethodName := ⟨RL, "months", "(LHiredEnemy;I[J)I"⟩
abbrev cL_undo : ByteArray := method_11_code
def yL_undo : MethodName := ⟨RL, "undo", "(LHiredEnemy;I[J)I"⟩
abbrev cL_sums : ByteArray := method_12_code
def yL_sums : MethodName := ⟨RL, "sums", "(LHiredEnemy;I[J)I"⟩
abbrev cL_corks : ByteArray := method_13_code
def yL_corks : MethodName := ⟨RL, "corks", "(LHiredEnemy;II[J)I"⟩
abbrev cL_would : ByteArray := method_14_code
def yL_would : MethodName := ⟨RL, "would", "(LHiredEnemy;III[J)I"⟩
abbrev cL_best : ByteArray := method_15_code
def yL_best : MethodName := ⟨RL, "best", "(LHiredEnemy;II[J)I"⟩
abbrev cL_offer : ByteArray := method_16_code
def yL_offer : MethodName := ⟨RL, "offer", "(LHiredEnemy;II[J)I"⟩
abbrev cL_nearest : ByteArray := method_17_code
def yL_nearest : MethodName := ⟨RL, "nearest", "(LHiredEnemy;II[J)I"⟩
abbrev cL_stop : ByteArray := method_18_code
def yL_stop : MethodName := ⟨RL, "stop", "(LHiredEnemy;II[J)I"⟩
abbrev cL_odds : ByteArray := method_19_code
def yL_odds : MethodName := ⟨RL, "odds", "(LHiredEnemy;II)I"⟩
abbrev cL_kind : ByteArray := method_20_code
def yL_kind : MethodName := ⟨RL, "kind", "(LHiredEnemy;III)I"⟩
abbrev cL_seen : ByteArray := method_21_code
def yL_seen : MethodName := ⟨RL, "seen", "(LHiredEnemy;I[J)I"⟩
abbrev cL_spy : ByteArray := method_22_code
def yL_spy : MethodName := ⟨RL, "spy", "(LHiredEnemy;ZI[J)I"⟩
abbrev cL_believed : ByteArray := method_23_code
def yL_believed : MethodName := ⟨RL, "believed", "(LHiredEnemy;I[J)I"⟩
abbrev cL_earnest : ByteArray := method_24_code
def yL_earnest : MethodName := ⟨RL, "earnest", "(LHiredEnemy;III[J)I"⟩
abbrev cL_stands : ByteArray := method_25_code
def yL_stands : MethodName := ⟨RL, "stands", "(LHiredEnemy;II[J)I"⟩
abbrev cL_show : ByteArray := method_26_code
def yL_show : MethodName := ⟨RL, "show", "(LHiredEnemy;II[J)I"⟩
abbrev cL_offers : ByteArray := method_27_code
def yL_offers : MethodName := ⟨RL, "offers", "(LHiredEnemy;III[J)I"⟩
abbrev cL_serves : ByteArray := method_28_code
def yL_serves : MethodName := ⟨RL, "serves", "(LHiredEnemy;I[J)I"⟩
abbrev cL_law : ByteArray := code
def yL_law : MethodName := ⟨RL, "law", "([I)Z"⟩
def wsL_siege_r1 : List Cond := [Cond.classLink RL 13 "java/lang/IllegalArgumentException", Cond.methodLink RL 7 yX10_siege, Cond.instanceMethod yX10_siege, Cond.selects RX10 yX10_siege yX10_siege, Cond.initialized RX10, Cond.code yX10_siege cX10_siege 4 (some .int), Cond.fieldLink RX10 73 "HiredEnemy" "taped" "I", Cond.fieldLink RX10 27 "HiredEnemy" "draft" "LHiredEnemy$Plan;", Cond.fieldLink RX10 16 "HiredEnemy" "reader" "LHiredEnemy$Reader;", Cond.fieldLink RX10 9 "HiredEnemy" "tape" "[B", Cond.fieldLink RX10 23 "HiredEnemy" "plan" "LHiredEnemy$Plan;", Cond.fieldLink RX10 92 "HiredEnemy" "pactsTold" "I", Cond.fieldLink RX10 95 "HiredEnemy" "imagesKept" "I", Cond.fieldLink RX10 39 "HiredEnemy" "scene" "LHiredEnemy$Scene;", Cond.fieldLink RX10 99 "HiredEnemy$Plan" "walls" "I", Cond.methodLink RX10 81 yX10_demand, Cond.instanceMethod yX10_demand, Cond.selects RX10 yX10_demand yX10_demand, Cond.code yX10_demand cX10_demand 2 none, Cond.classLink RX10 251 "java/lang/IllegalArgumentException", Cond.initialized "java/lang/IllegalArgumentException", Cond.fieldLink RX10 61 "HiredEnemy" "refused" "[I", Cond.methodLink RX10 85 yX6_clear, Cond.instanceMethod yX6_clear]
def wsL_siege_r2 : List Cond := [Cond.selects RX6 yX6_clear yX6_clear, Cond.initialized RX6, Cond.code yX6_clear cX6_clear 2 none, Cond.fieldLink RX6 30 "HiredEnemy$Plan" "walls" "I", Cond.fieldLink RX6 15 "HiredEnemy$Plan" "said" "[I", Cond.fieldLink RX6 9 "HiredEnemy$Plan" "UNTOLD" "[I", Cond.fieldLink RX6 18 "HiredEnemy$Plan" "fearByNear" "[I", Cond.methodLink RX10 88 yX7_read, Cond.instanceMethod yX7_read, Cond.selects RX7 yX7_read yX7_read, Cond.initialized RX7, Cond.code yX7_read cX7_read 5 (some .int), Cond.fieldLink RX7 9 "HiredEnemy$Reader" "bytes" "[B", Cond.methodLink RX7 23 Lib.Math.min.name, Cond.static Lib.Math.min.name, Cond.initialized "java/lang/Math", Cond.code Lib.Math.min.name Lib.Math.min.code 2 (some .int), Cond.fieldLink RX7 29 "HiredEnemy$Reader" "length" "I", Cond.fieldLink RX7 32 "HiredEnemy$Reader" "at" "I", Cond.fieldLink RX7 35 "HiredEnemy$Reader" "fault" "I", Cond.fieldLink RX7 15 "HiredEnemy$Reader" "place" "I", Cond.methodLink RX7 38 ⟨"HiredEnemy$Telling", "mostParts", "()I"⟩, Cond.sameMethod "HiredEnemy$Telling" "HiredEnemy$Telling" "mostParts" "()I", Cond.selects RX5 ⟨"HiredEnemy$Telling", "mostParts", "()I"⟩ yX5_mostParts]
def wsL_siege_r3 : List Cond := [Cond.instanceMethod yX5_mostParts, Cond.initialized RX5, Cond.code yX5_mostParts cX5_mostParts 1 (some .int), Cond.selects RX6 ⟨"HiredEnemy$Telling", "mostParts", "()I"⟩ yX6_mostParts, Cond.instanceMethod yX6_mostParts, Cond.code yX6_mostParts cX6_mostParts 1 (some .int), Cond.methodLink RX7 44 yX7_skipBlanks, Cond.instanceMethod yX7_skipBlanks, Cond.selects RX7 yX7_skipBlanks yX7_skipBlanks, Cond.code yX7_skipBlanks cX7_skipBlanks 1 none, Cond.methodLink RX7 47 yX7_readPart, Cond.instanceMethod yX7_readPart, Cond.selects RX7 yX7_readPart yX7_readPart, Cond.code yX7_readPart cX7_readPart 7 (some .boolean), Cond.fieldLink RX7 19 "HiredEnemy$Reader" "numbers" "[I", Cond.methodLink RX7 51 yX7_skipLetters, Cond.instanceMethod yX7_skipLetters, Cond.selects RX7 yX7_skipLetters yX7_skipLetters, Cond.code yX7_skipLetters cX7_skipLetters 1 none, Cond.methodLink RX7 54 ⟨"HiredEnemy$Telling", "words", "()Ljava/lang/String;"⟩, Cond.sameMethod "HiredEnemy$Telling" "HiredEnemy$Telling" "words" "()Ljava/lang/String;", Cond.selects RX5 ⟨"HiredEnemy$Telling", "words", "()Ljava/lang/String;"⟩ yX5_words, Cond.instanceMethod yX5_words, Cond.code yX5_words cX5_words 1 (some (.object "java/lang/String"))]
def wsL_siege_r4 : List Cond := [Cond.selects RX6 ⟨"HiredEnemy$Telling", "words", "()Ljava/lang/String;"⟩ yX6_words, Cond.instanceMethod yX6_words, Cond.code yX6_words cX6_words 1 (some (.object "java/lang/String")), Cond.methodLink RX7 58 yX7_kindOf, Cond.instanceMethod yX7_kindOf, Cond.selects RX7 yX7_kindOf yX7_kindOf, Cond.code yX7_kindOf cX7_kindOf 6 (some .int), Cond.methodLink RX7 91 yJ0_length_8abf5, Cond.instanceMethod yJ0_length_8abf5, Cond.selects RJ0 yJ0_length_8abf5 yJ0_length_8abf5, Cond.initialized RJ0, Cond.code yJ0_length_8abf5 cJ0_length_8abf5 1 (some .int), Cond.fieldLink RJ0 9 "java/lang/String" "value" "[B", Cond.methodLink RJ0 335 yJ0_coder_7d493, Cond.instanceMethod yJ0_coder_7d493, Cond.selects RJ0 yJ0_coder_7d493 yJ0_coder_7d493, Cond.code yJ0_coder_7d493 cJ0_coder_7d493 1 (some .byte), Cond.fieldLink RJ0 38 "java/lang/String" "COMPACT_STRINGS" "Z", Cond.fieldLink RJ0 15 "java/lang/String" "coder" "B", Cond.methodLink RX7 95 yJ0_charAt_5068e, Cond.instanceMethod yJ0_charAt_5068e, Cond.selects RJ0 yJ0_charAt_5068e yJ0_charAt_5068e, Cond.code yJ0_charAt_5068e cJ0_charAt_5068e 2 (some .char), Cond.methodLink RJ0 492 yJ0_isLatin1_aae02]
def wsL_siege_r5 : List Cond := [Cond.instanceMethod yJ0_isLatin1_aae02, Cond.selects RJ0 yJ0_isLatin1_aae02 yJ0_isLatin1_aae02, Cond.code yJ0_isLatin1_aae02 cJ0_isLatin1_aae02 1 (some .boolean), Cond.methodLink RJ0 495 yJ1_charAt_3b067, Cond.static yJ1_charAt_3b067, Cond.initialized RJ1, Cond.code yJ1_charAt_3b067 cJ1_charAt_3b067 2 (some .char), Cond.methodLink RJ1 9 yJ0_checkIndex_df160, Cond.static yJ0_checkIndex_df160, Cond.code yJ0_checkIndex_df160 cJ0_checkIndex_df160 2 none, Cond.fieldLink RJ0 1053 "jdk/internal/util/Preconditions" "SIOOBE_FORMATTER" "Ljava/util/function/BiFunction;", Cond.methodLink RJ0 1059 yJ3_checkIndex_8e157, Cond.static yJ3_checkIndex_8e157, Cond.initialized RJ3, Cond.code yJ3_checkIndex_8e157 cJ3_checkIndex_8e157 3 (some .int), Cond.methodLink RJ0 498 yJ2_charAt_3b067, Cond.static yJ2_charAt_3b067, Cond.initialized RJ2, Cond.code yJ2_charAt_3b067 cJ2_charAt_3b067 2 (some .char), Cond.methodLink RJ2 67 yJ2_checkIndex_2214a, Cond.static yJ2_checkIndex_2214a, Cond.code yJ2_checkIndex_2214a cJ2_checkIndex_2214a 2 none, Cond.methodLink RJ2 48 yJ2_length_9d52b, Cond.static yJ2_length_9d52b]
def wsL_siege_r6 : List Cond := [Cond.code yJ2_length_9d52b cJ2_length_9d52b 1 (some .int), Cond.methodLink RJ2 414 yJ0_checkIndex_df160, Cond.methodLink RJ2 71 yJ2_getChar_3b067, Cond.static yJ2_getChar_3b067, Cond.code yJ2_getChar_3b067 cJ2_getChar_3b067 2 (some .char), Cond.fieldLink RJ2 44 "java/lang/StringUTF16" "$assertionsDisabled" "Z", Cond.fieldLink RJ2 59 "java/lang/StringUTF16" "HI_BYTE_SHIFT" "I", Cond.fieldLink RJ2 63 "java/lang/StringUTF16" "LO_BYTE_SHIFT" "I", Cond.methodLink RX7 99 yX7_isSame, Cond.instanceMethod yX7_isSame, Cond.selects RX7 yX7_isSame yX7_isSame, Cond.code yX7_isSame cX7_isSame 6 (some .boolean), Cond.methodLink RX7 62 yX7_fail, Cond.instanceMethod yX7_fail, Cond.selects RX7 yX7_fail yX7_fail, Cond.code yX7_fail cX7_fail 3 (some .boolean), Cond.methodLink RX7 66 ⟨"HiredEnemy$Telling", "isFull", "(I)Z"⟩, Cond.sameMethod "HiredEnemy$Telling" "HiredEnemy$Telling" "isFull" "(I)Z", Cond.selects RX5 ⟨"HiredEnemy$Telling", "isFull", "(I)Z"⟩ yX5_isFull, Cond.instanceMethod yX5_isFull, Cond.code yX5_isFull cX5_isFull 2 (some .boolean), Cond.selects RX6 ⟨"HiredEnemy$Telling", "isFull", "(I)Z"⟩ yX6_isFull, Cond.instanceMethod yX6_isFull, Cond.code yX6_isFull cX6_isFull 2 (some .boolean)]
def wsL_siege_r7 : List Cond := [Cond.methodLink RX7 70 ⟨"HiredEnemy$Telling", "numbers", "(I)I"⟩, Cond.sameMethod "HiredEnemy$Telling" "HiredEnemy$Telling" "numbers" "(I)I", Cond.selects RX5 ⟨"HiredEnemy$Telling", "numbers", "(I)I"⟩ yX5_numbers, Cond.instanceMethod yX5_numbers, Cond.code yX5_numbers cX5_numbers 2 (some .int), Cond.selects RX6 ⟨"HiredEnemy$Telling", "numbers", "(I)I"⟩ yX6_numbers, Cond.instanceMethod yX6_numbers, Cond.code yX6_numbers cX6_numbers 2 (some .int), Cond.fieldLink RX6 36 "HiredEnemy$Plan" "NUMBERS" "[I", Cond.static yX10_within, Cond.code yX10_within cX10_within 3 (some .boolean), Cond.methodLink RX7 73 ⟨"HiredEnemy$Telling", "low", "(II)I"⟩, Cond.sameMethod "HiredEnemy$Telling" "HiredEnemy$Telling" "low" "(II)I", Cond.selects RX5 ⟨"HiredEnemy$Telling", "low", "(II)I"⟩ yX5_low, Cond.instanceMethod yX5_low, Cond.code yX5_low cX5_low 3 (some .int), Cond.selects RX6 ⟨"HiredEnemy$Telling", "low", "(II)I"⟩ yX6_low, Cond.instanceMethod yX6_low, Cond.code yX6_low cX6_low 3 (some .int), Cond.methodLink RX7 76 ⟨"HiredEnemy$Telling", "high", "(II)I"⟩, Cond.sameMethod "HiredEnemy$Telling" "HiredEnemy$Telling" "high" "(II)I", Cond.selects RX5 ⟨"HiredEnemy$Telling", "high", "(II)I"⟩ yX5_high, Cond.instanceMethod yX5_high, Cond.code yX5_high cX5_high 3 (some .int)]
def wsL_siege_r8 : List Cond := [Cond.fieldLink RX5 18 "HiredEnemy$Pact" "walls" "I", Cond.fieldLink RX5 34 "HiredEnemy$Pact" "HIGH" "[I", Cond.selects RX6 ⟨"HiredEnemy$Telling", "high", "(II)I"⟩ yX6_high, Cond.instanceMethod yX6_high, Cond.code yX6_high cX6_high 4 (some .int), Cond.fieldLink RX6 43 "HiredEnemy$Plan" "HIGH" "[I", Cond.methodLink RX7 79 yX7_readNumber, Cond.instanceMethod yX7_readNumber, Cond.selects RX7 yX7_readNumber yX7_readNumber, Cond.code yX7_readNumber cX7_readNumber 6 (some .boolean), Cond.constant RX7 87 (100000), Cond.methodLink RX7 83 ⟨"HiredEnemy$Telling", "store", "(I[I)V"⟩, Cond.sameMethod "HiredEnemy$Telling" "HiredEnemy$Telling" "store" "(I[I)V", Cond.selects RX5 ⟨"HiredEnemy$Telling", "store", "(I[I)V"⟩ yX5_store, Cond.instanceMethod yX5_store, Cond.code yX5_store cX5_store 3 none, Cond.fieldLink RX5 15 "HiredEnemy$Pact" "wallByMonth" "[I", Cond.fieldLink RX5 11 "HiredEnemy$Pact" "said" "[I", Cond.selects RX6 ⟨"HiredEnemy$Telling", "store", "(I[I)V"⟩ yX6_store, Cond.instanceMethod yX6_store, Cond.code yX6_store cX6_store 4 none, Cond.methodLink RX6 46 yX6_addWall, Cond.instanceMethod yX6_addWall, Cond.selects RX6 yX6_addWall yX6_addWall]
def wsL_siege_r9 : List Cond := [Cond.code yX6_addWall cX6_addWall 3 none, Cond.fieldLink RX6 21 "HiredEnemy$Plan" "strength" "[I", Cond.fieldLink RX6 24 "HiredEnemy$Plan" "mended" "[I", Cond.methodLink RX6 50 yX6_numbers, Cond.selects RX6 yX6_numbers yX6_numbers, Cond.methodLink RX10 98 yX8_begin, Cond.instanceMethod yX8_begin, Cond.selects RX8 yX8_begin yX8_begin, Cond.initialized RX8, Cond.code yX8_begin cX8_begin 2 none, Cond.fieldLink RX8 10 "HiredEnemy$Scene" "course" "LHiredEnemy$Course;", Cond.fieldLink RX8 26 "HiredEnemy$Scene" "belief" "LHiredEnemy$Belief;", Cond.fieldLink RX8 33 "HiredEnemy$Scene" "bids" "LHiredEnemy$Bids;", Cond.methodLink RX8 37 yX4_begin, Cond.instanceMethod yX4_begin, Cond.selects RX4 yX4_begin yX4_begin, Cond.initialized RX4, Cond.code yX4_begin cX4_begin 3 none, Cond.fieldLink RX4 18 "HiredEnemy$Course" "month" "I", Cond.fieldLink RX4 9 "HiredEnemy$Course" "now" "[I", Cond.fieldLink RX4 28 "HiredEnemy$Plan" "said" "[I", Cond.fieldLink RX4 33 "HiredEnemy$Plan" "walls" "I", Cond.fieldLink RX4 36 "HiredEnemy$Plan" "strength" "[I", Cond.methodLink RX4 22 yJ7_fill_53178]
def wsL_siege_r10 : List Cond := [Cond.static yJ7_fill_53178, Cond.initialized RJ7, Cond.code yJ7_fill_53178 cJ7_fill_53178 4 none, Cond.methodLink RX8 41 yX2_forget, Cond.instanceMethod yX2_forget, Cond.selects RX2 yX2_forget yX2_forget, Cond.initialized RX2, Cond.code yX2_forget cX2_forget 1 none, Cond.fieldLink RX2 16 "HiredEnemy$Belief" "firstReal" "I", Cond.fieldLink RX2 23 "HiredEnemy$Belief" "real" "J", Cond.fieldLink RX2 20 "HiredEnemy$Belief" "firstHired" "I", Cond.fieldLink RX2 27 "HiredEnemy$Belief" "hired" "J", Cond.fieldLink RX2 33 "HiredEnemy$Belief" "things" "I", Cond.methodLink RX8 44 yX3_clear, Cond.instanceMethod yX3_clear, Cond.selects RX3 yX3_clear yX3_clear, Cond.initialized RX3, Cond.code yX3_clear cX3_clear 1 none, Cond.fieldLink RX3 9 "HiredEnemy$Bids" "coins" "[I", Cond.methodLink RX3 16 yJ7_fill_53178]
def wsL_siege : List Cond := .codeWith yL_siege cL_siege 4 (some .int) [(0, 9, 12, 13)] :: ((wsL_siege_r1 ++ (wsL_siege_r2 ++ (wsL_siege_r3 ++ (wsL_siege_r4 ++ (wsL_siege_r5 ++ (wsL_siege_r6 ++ (wsL_siege_r7 ++ (wsL_siege_r8 ++ (wsL_siege_r9 ++ wsL_siege_r10))))))))) ++ wsX100 ++ wsX60 ++ wsX70 ++ wsX50 ++ wsX80 ++ wsX40 ++ wsX20 ++ wsX30 ++ (vx_atS RX10 255 "java/lang/IllegalArgumentException" ["java/lang/RuntimeException", "java/lang/Exception"]).filter goodWord)
def wsL_contract_r1 : List Cond := [Cond.classLink RL 13 "java/lang/IllegalArgumentException", Cond.methodLink RL 15 yX10_contract, Cond.instanceMethod yX10_contract, Cond.selects RX10 yX10_contract yX10_contract, Cond.initialized RX10, Cond.code yX10_contract cX10_contract 4 (some .int), Cond.fieldLink RX10 73 "HiredEnemy" "taped" "I", Cond.fieldLink RX10 92 "HiredEnemy" "pactsTold" "I", Cond.fieldLink RX10 16 "HiredEnemy" "reader" "LHiredEnemy$Reader;", Cond.fieldLink RX10 102 "HiredEnemy$Reader" "place" "I", Cond.fieldLink RX10 32 "HiredEnemy" "pacts" "[LHiredEnemy$Pact;", Cond.fieldLink RX10 23 "HiredEnemy" "plan" "LHiredEnemy$Plan;", Cond.fieldLink RX10 99 "HiredEnemy$Plan" "walls" "I", Cond.fieldLink RX10 9 "HiredEnemy" "tape" "[B", Cond.methodLink RX10 81 yX10_demand, Cond.instanceMethod yX10_demand, Cond.selects RX10 yX10_demand yX10_demand, Cond.code yX10_demand cX10_demand 2 none, Cond.classLink RX10 251 "java/lang/IllegalArgumentException", Cond.initialized "java/lang/IllegalArgumentException", Cond.fieldLink RX10 61 "HiredEnemy" "refused" "[I", Cond.methodLink RX10 105 yX5_clear, Cond.instanceMethod yX5_clear, Cond.selects RX5 yX5_clear yX5_clear]
def wsL_contract_r2 : List Cond := [Cond.initialized RX5, Cond.code yX5_clear cX5_clear 2 none, Cond.fieldLink RX5 18 "HiredEnemy$Pact" "walls" "I", Cond.fieldLink RX5 11 "HiredEnemy$Pact" "said" "[I", Cond.fieldLink RX5 15 "HiredEnemy$Pact" "wallByMonth" "[I", Cond.methodLink RX5 22 yJ7_fill_53178, Cond.static yJ7_fill_53178, Cond.initialized RJ7, Cond.code yJ7_fill_53178 cJ7_fill_53178 4 none, Cond.methodLink RX10 88 yX7_read, Cond.instanceMethod yX7_read, Cond.selects RX7 yX7_read yX7_read, Cond.initialized RX7, Cond.code yX7_read cX7_read 5 (some .int), Cond.fieldLink RX7 9 "HiredEnemy$Reader" "bytes" "[B", Cond.methodLink RX7 23 Lib.Math.min.name, Cond.static Lib.Math.min.name, Cond.initialized "java/lang/Math", Cond.code Lib.Math.min.name Lib.Math.min.code 2 (some .int), Cond.fieldLink RX7 29 "HiredEnemy$Reader" "length" "I", Cond.fieldLink RX7 32 "HiredEnemy$Reader" "at" "I", Cond.fieldLink RX7 35 "HiredEnemy$Reader" "fault" "I", Cond.fieldLink RX7 15 "HiredEnemy$Reader" "place" "I", Cond.methodLink RX7 38 ⟨"HiredEnemy$Telling", "mostParts", "()I"⟩]
def wsL_contract_r3 : List Cond := [Cond.sameMethod "HiredEnemy$Telling" "HiredEnemy$Telling" "mostParts" "()I", Cond.selects RX5 ⟨"HiredEnemy$Telling", "mostParts", "()I"⟩ yX5_mostParts, Cond.instanceMethod yX5_mostParts, Cond.code yX5_mostParts cX5_mostParts 1 (some .int), Cond.selects RX6 ⟨"HiredEnemy$Telling", "mostParts", "()I"⟩ yX6_mostParts, Cond.instanceMethod yX6_mostParts, Cond.initialized RX6, Cond.code yX6_mostParts cX6_mostParts 1 (some .int), Cond.methodLink RX7 44 yX7_skipBlanks, Cond.instanceMethod yX7_skipBlanks, Cond.selects RX7 yX7_skipBlanks yX7_skipBlanks, Cond.code yX7_skipBlanks cX7_skipBlanks 1 none, Cond.methodLink RX7 47 yX7_readPart, Cond.instanceMethod yX7_readPart, Cond.selects RX7 yX7_readPart yX7_readPart, Cond.code yX7_readPart cX7_readPart 7 (some .boolean), Cond.fieldLink RX7 19 "HiredEnemy$Reader" "numbers" "[I", Cond.methodLink RX7 51 yX7_skipLetters, Cond.instanceMethod yX7_skipLetters, Cond.selects RX7 yX7_skipLetters yX7_skipLetters, Cond.code yX7_skipLetters cX7_skipLetters 1 none, Cond.methodLink RX7 54 ⟨"HiredEnemy$Telling", "words", "()Ljava/lang/String;"⟩, Cond.sameMethod "HiredEnemy$Telling" "HiredEnemy$Telling" "words" "()Ljava/lang/String;", Cond.selects RX5 ⟨"HiredEnemy$Telling", "words", "()Ljava/lang/String;"⟩ yX5_words]
def wsL_contract_r4 : List Cond := [Cond.instanceMethod yX5_words, Cond.code yX5_words cX5_words 1 (some (.object "java/lang/String")), Cond.selects RX6 ⟨"HiredEnemy$Telling", "words", "()Ljava/lang/String;"⟩ yX6_words, Cond.instanceMethod yX6_words, Cond.code yX6_words cX6_words 1 (some (.object "java/lang/String")), Cond.methodLink RX7 58 yX7_kindOf, Cond.instanceMethod yX7_kindOf, Cond.selects RX7 yX7_kindOf yX7_kindOf, Cond.code yX7_kindOf cX7_kindOf 6 (some .int), Cond.methodLink RX7 91 yJ0_length_8abf5, Cond.instanceMethod yJ0_length_8abf5, Cond.selects RJ0 yJ0_length_8abf5 yJ0_length_8abf5, Cond.initialized RJ0, Cond.code yJ0_length_8abf5 cJ0_length_8abf5 1 (some .int), Cond.fieldLink RJ0 9 "java/lang/String" "value" "[B", Cond.methodLink RJ0 335 yJ0_coder_7d493, Cond.instanceMethod yJ0_coder_7d493, Cond.selects RJ0 yJ0_coder_7d493 yJ0_coder_7d493, Cond.code yJ0_coder_7d493 cJ0_coder_7d493 1 (some .byte), Cond.fieldLink RJ0 38 "java/lang/String" "COMPACT_STRINGS" "Z", Cond.fieldLink RJ0 15 "java/lang/String" "coder" "B", Cond.methodLink RX7 95 yJ0_charAt_5068e, Cond.instanceMethod yJ0_charAt_5068e, Cond.selects RJ0 yJ0_charAt_5068e yJ0_charAt_5068e]
def wsL_contract_r5 : List Cond := [Cond.code yJ0_charAt_5068e cJ0_charAt_5068e 2 (some .char), Cond.methodLink RJ0 492 yJ0_isLatin1_aae02, Cond.instanceMethod yJ0_isLatin1_aae02, Cond.selects RJ0 yJ0_isLatin1_aae02 yJ0_isLatin1_aae02, Cond.code yJ0_isLatin1_aae02 cJ0_isLatin1_aae02 1 (some .boolean), Cond.methodLink RJ0 495 yJ1_charAt_3b067, Cond.static yJ1_charAt_3b067, Cond.initialized RJ1, Cond.code yJ1_charAt_3b067 cJ1_charAt_3b067 2 (some .char), Cond.methodLink RJ1 9 yJ0_checkIndex_df160, Cond.static yJ0_checkIndex_df160, Cond.code yJ0_checkIndex_df160 cJ0_checkIndex_df160 2 none, Cond.fieldLink RJ0 1053 "jdk/internal/util/Preconditions" "SIOOBE_FORMATTER" "Ljava/util/function/BiFunction;", Cond.methodLink RJ0 1059 yJ3_checkIndex_8e157, Cond.static yJ3_checkIndex_8e157, Cond.initialized RJ3, Cond.code yJ3_checkIndex_8e157 cJ3_checkIndex_8e157 3 (some .int), Cond.methodLink RJ0 498 yJ2_charAt_3b067, Cond.static yJ2_charAt_3b067, Cond.initialized RJ2, Cond.code yJ2_charAt_3b067 cJ2_charAt_3b067 2 (some .char), Cond.methodLink RJ2 67 yJ2_checkIndex_2214a, Cond.static yJ2_checkIndex_2214a, Cond.code yJ2_checkIndex_2214a cJ2_checkIndex_2214a 2 none]
def wsL_contract_r6 : List Cond := [Cond.methodLink RJ2 48 yJ2_length_9d52b, Cond.static yJ2_length_9d52b, Cond.code yJ2_length_9d52b cJ2_length_9d52b 1 (some .int), Cond.methodLink RJ2 414 yJ0_checkIndex_df160, Cond.methodLink RJ2 71 yJ2_getChar_3b067, Cond.static yJ2_getChar_3b067, Cond.code yJ2_getChar_3b067 cJ2_getChar_3b067 2 (some .char), Cond.fieldLink RJ2 44 "java/lang/StringUTF16" "$assertionsDisabled" "Z", Cond.fieldLink RJ2 59 "java/lang/StringUTF16" "HI_BYTE_SHIFT" "I", Cond.fieldLink RJ2 63 "java/lang/StringUTF16" "LO_BYTE_SHIFT" "I", Cond.methodLink RX7 99 yX7_isSame, Cond.instanceMethod yX7_isSame, Cond.selects RX7 yX7_isSame yX7_isSame, Cond.code yX7_isSame cX7_isSame 6 (some .boolean), Cond.methodLink RX7 62 yX7_fail, Cond.instanceMethod yX7_fail, Cond.selects RX7 yX7_fail yX7_fail, Cond.code yX7_fail cX7_fail 3 (some .boolean), Cond.methodLink RX7 66 ⟨"HiredEnemy$Telling", "isFull", "(I)Z"⟩, Cond.sameMethod "HiredEnemy$Telling" "HiredEnemy$Telling" "isFull" "(I)Z", Cond.selects RX5 ⟨"HiredEnemy$Telling", "isFull", "(I)Z"⟩ yX5_isFull, Cond.instanceMethod yX5_isFull, Cond.code yX5_isFull cX5_isFull 2 (some .boolean), Cond.selects RX6 ⟨"HiredEnemy$Telling", "isFull", "(I)Z"⟩ yX6_isFull]
def wsL_contract_r7 : List Cond := [Cond.instanceMethod yX6_isFull, Cond.code yX6_isFull cX6_isFull 2 (some .boolean), Cond.fieldLink RX6 30 "HiredEnemy$Plan" "walls" "I", Cond.methodLink RX7 70 ⟨"HiredEnemy$Telling", "numbers", "(I)I"⟩, Cond.sameMethod "HiredEnemy$Telling" "HiredEnemy$Telling" "numbers" "(I)I", Cond.selects RX5 ⟨"HiredEnemy$Telling", "numbers", "(I)I"⟩ yX5_numbers, Cond.instanceMethod yX5_numbers, Cond.code yX5_numbers cX5_numbers 2 (some .int), Cond.selects RX6 ⟨"HiredEnemy$Telling", "numbers", "(I)I"⟩ yX6_numbers, Cond.instanceMethod yX6_numbers, Cond.code yX6_numbers cX6_numbers 2 (some .int), Cond.fieldLink RX6 36 "HiredEnemy$Plan" "NUMBERS" "[I", Cond.static yX10_within, Cond.code yX10_within cX10_within 3 (some .boolean), Cond.methodLink RX7 73 ⟨"HiredEnemy$Telling", "low", "(II)I"⟩, Cond.sameMethod "HiredEnemy$Telling" "HiredEnemy$Telling" "low" "(II)I", Cond.selects RX5 ⟨"HiredEnemy$Telling", "low", "(II)I"⟩ yX5_low, Cond.instanceMethod yX5_low, Cond.code yX5_low cX5_low 3 (some .int), Cond.selects RX6 ⟨"HiredEnemy$Telling", "low", "(II)I"⟩ yX6_low, Cond.instanceMethod yX6_low, Cond.code yX6_low cX6_low 3 (some .int), Cond.methodLink RX7 76 ⟨"HiredEnemy$Telling", "high", "(II)I"⟩, Cond.sameMethod "HiredEnemy$Telling" "HiredEnemy$Telling" "high" "(II)I"]
def wsL_contract_r8 : List Cond := [Cond.selects RX5 ⟨"HiredEnemy$Telling", "high", "(II)I"⟩ yX5_high, Cond.instanceMethod yX5_high, Cond.code yX5_high cX5_high 3 (some .int), Cond.fieldLink RX5 34 "HiredEnemy$Pact" "HIGH" "[I", Cond.selects RX6 ⟨"HiredEnemy$Telling", "high", "(II)I"⟩ yX6_high, Cond.instanceMethod yX6_high, Cond.code yX6_high cX6_high 4 (some .int), Cond.fieldLink RX6 43 "HiredEnemy$Plan" "HIGH" "[I", Cond.methodLink RX7 79 yX7_readNumber, Cond.instanceMethod yX7_readNumber, Cond.selects RX7 yX7_readNumber yX7_readNumber, Cond.code yX7_readNumber cX7_readNumber 6 (some .boolean), Cond.constant RX7 87 (100000), Cond.methodLink RX7 83 ⟨"HiredEnemy$Telling", "store", "(I[I)V"⟩, Cond.sameMethod "HiredEnemy$Telling" "HiredEnemy$Telling" "store" "(I[I)V", Cond.selects RX5 ⟨"HiredEnemy$Telling", "store", "(I[I)V"⟩ yX5_store, Cond.instanceMethod yX5_store, Cond.code yX5_store cX5_store 3 none, Cond.selects RX6 ⟨"HiredEnemy$Telling", "store", "(I[I)V"⟩ yX6_store, Cond.instanceMethod yX6_store, Cond.code yX6_store cX6_store 4 none, Cond.fieldLink RX6 18 "HiredEnemy$Plan" "fearByNear" "[I", Cond.fieldLink RX6 15 "HiredEnemy$Plan" "said" "[I", Cond.methodLink RX6 46 yX6_addWall]
def wsL_contract_r9 : List Cond := [Cond.instanceMethod yX6_addWall, Cond.selects RX6 yX6_addWall yX6_addWall, Cond.code yX6_addWall cX6_addWall 3 none, Cond.fieldLink RX6 21 "HiredEnemy$Plan" "strength" "[I", Cond.fieldLink RX6 24 "HiredEnemy$Plan" "mended" "[I", Cond.methodLink RX6 50 yX6_numbers, Cond.selects RX6 yX6_numbers yX6_numbers]
def wsL_contract : List Cond := .codeWith yL_contract cL_contract 4 (some .int) [(0, 9, 12, 13)] :: ((wsL_contract_r1 ++ (wsL_contract_r2 ++ (wsL_contract_r3 ++ (wsL_contract_r4 ++ (wsL_contract_r5 ++ (wsL_contract_r6 ++ (wsL_contract_r7 ++ (wsL_contract_r8 ++ wsL_contract_r9)))))))) ++ wsX100 ++ wsX70 ++ wsX60 ++ wsX50 ++ (vx_atS RX10 255 "java/lang/IllegalArgumentException" ["java/lang/RuntimeException", "java/lang/Exception"]).filter goodWord)
def wsL_told : List Cond := .codeWith yL_told cL_told 4 (some .int) [(0, 9, 12, 13)] :: ([.classLink RL 13 "java/lang/IllegalArgumentException", .methodLink RL 18 yX10_told, .instanceMethod yX10_told, .selects RX10 yX10_told yX10_told, .initialized RX10, .code yX10_told cX10_told 4 (some .int), .fieldLink RX10 39 "HiredEnemy" "scene" "LHiredEnemy$Scene;", .fieldLink RX10 66 "HiredEnemy$Scene" "course" "LHiredEnemy$Course;", .fieldLink RX10 111 "HiredEnemy$Course" "now" "[I", .fieldLink RX10 23 "HiredEnemy" "plan" "LHiredEnemy$Plan;", .fieldLink RX10 99 "HiredEnemy$Plan" "walls" "I", .fieldLink RX10 92 "HiredEnemy" "pactsTold" "I", .fieldLink RX10 114 "HiredEnemy$Course" "month" "I", .methodLink RX10 107 yX10_within, .static yX10_within, .code yX10_within cX10_within 3 (some .boolean), .methodLink RX10 81 yX10_demand, .instanceMethod yX10_demand, .selects RX10 yX10_demand yX10_demand, .code yX10_demand cX10_demand 2 none, .classLink RX10 251 "java/lang/IllegalArgumentException", .initialized "java/lang/IllegalArgumentException", .fieldLink RX10 61 "HiredEnemy" "refused" "[I"] ++ wsX100 ++ wsX80 ++ wsX40 ++ wsX60 ++ (vx_atS RX10 255 "java/lang/IllegalArgumentException" ["java/lang/RuntimeException", "java/lang/Exception"]).filter goodWord)
def wsL_wall_r1 : List Cond := [Cond.classLink RL 25 "java/lang/IndexOutOfBoundsException", Cond.classLink RL 13 "java/lang/IllegalArgumentException", Cond.methodLink RL 21 yX10_wall, Cond.instanceMethod yX10_wall, Cond.selects RX10 yX10_wall yX10_wall, Cond.initialized RX10, Cond.code yX10_wall cX10_wall 3 (some .int), Cond.fieldLink RX10 23 "HiredEnemy" "plan" "LHiredEnemy$Plan;", Cond.fieldLink RX10 120 "HiredEnemy$Plan" "strength" "[I", Cond.fieldLink RX10 39 "HiredEnemy" "scene" "LHiredEnemy$Scene;", Cond.fieldLink RX10 66 "HiredEnemy$Scene" "course" "LHiredEnemy$Course;", Cond.fieldLink RX10 111 "HiredEnemy$Course" "now" "[I", Cond.fieldLink RX10 123 "HiredEnemy$Plan" "mended" "[I", Cond.methodLink RX10 117 yX10_demandWall, Cond.instanceMethod yX10_demandWall, Cond.selects RX10 yX10_demandWall yX10_demandWall, Cond.code yX10_demandWall cX10_demandWall 2 none, Cond.classLink RX10 258 "java/lang/IndexOutOfBoundsException", Cond.initialized "java/lang/IndexOutOfBoundsException", Cond.fieldLink RX10 99 "HiredEnemy$Plan" "walls" "I", Cond.fieldLink RX10 61 "HiredEnemy" "refused" "[I", Cond.methodLink RX10 107 yX10_within, Cond.static yX10_within, Cond.code yX10_within cX10_within 3 (some .boolean)]
def wsL_wall_r2 : List Cond := [Cond.methodLink RX10 81 yX10_demand, Cond.instanceMethod yX10_demand, Cond.selects RX10 yX10_demand yX10_demand, Cond.code yX10_demand cX10_demand 2 none, Cond.classLink RX10 251 "java/lang/IllegalArgumentException", Cond.initialized "java/lang/IllegalArgumentException"]
def wsL_wall : List Cond := .codeWith yL_wall cL_wall 5 (some .int) [(0, 10, 13, 25), (0, 10, 17, 13)] :: ((wsL_wall_r1 ++ wsL_wall_r2) ++ wsX100 ++ wsX60 ++ wsX80 ++ wsX40 ++ (vx_atS RX10 262 "java/lang/IndexOutOfBoundsException" ["java/lang/RuntimeException", "java/lang/Exception"]).filter goodWord ++ (vx_atS RX10 255 "java/lang/IllegalArgumentException" ["java/lang/RuntimeException", "java/lang/Exception"]).filter goodWord)
def wsL_rule_r1 : List Cond := [Cond.classLink RL 30 "java/util/NoSuchElementException", Cond.classLink RL 13 "java/lang/IllegalArgumentException", Cond.methodLink RL 27 yX10_rule, Cond.instanceMethod yX10_rule, Cond.selects RX10 yX10_rule yX10_rule, Cond.initialized RX10, Cond.code yX10_rule cX10_rule 3 (some .int), Cond.fieldLink RX10 32 "HiredEnemy" "pacts" "[LHiredEnemy$Pact;", Cond.methodLink RX10 126 yX10_demandContract, Cond.instanceMethod yX10_demandContract, Cond.selects RX10 yX10_demandContract yX10_demandContract, Cond.code yX10_demandContract cX10_demandContract 2 none, Cond.classLink RX10 263 "java/util/NoSuchElementException", Cond.initialized "java/util/NoSuchElementException", Cond.fieldLink RX10 92 "HiredEnemy" "pactsTold" "I", Cond.fieldLink RX10 61 "HiredEnemy" "refused" "[I", Cond.methodLink RX10 107 yX10_within, Cond.static yX10_within, Cond.code yX10_within cX10_within 3 (some .boolean), Cond.methodLink RX10 81 yX10_demand, Cond.instanceMethod yX10_demand, Cond.selects RX10 yX10_demand yX10_demand, Cond.code yX10_demand cX10_demand 2 none, Cond.classLink RX10 251 "java/lang/IllegalArgumentException"]
def wsL_rule_r2 : List Cond := [Cond.initialized "java/lang/IllegalArgumentException", Cond.methodLink RX10 129 yX5_answer, Cond.instanceMethod yX5_answer, Cond.selects RX5 yX5_answer yX5_answer, Cond.initialized RX5, Cond.code yX5_answer cX5_answer 2 (some .int), Cond.fieldLink RX5 11 "HiredEnemy$Pact" "said" "[I", Cond.methodLink RX5 41 yX5_breachesTold, Cond.instanceMethod yX5_breachesTold, Cond.selects RX5 yX5_breachesTold yX5_breachesTold, Cond.code yX5_breachesTold cX5_breachesTold 6 (some .int), Cond.fieldLink RX5 15 "HiredEnemy$Pact" "wallByMonth" "[I", Cond.methodLink RX5 45 yX5_winterPay, Cond.instanceMethod yX5_winterPay, Cond.selects RX5 yX5_winterPay yX5_winterPay, Cond.code yX5_winterPay cX5_winterPay 1 (some .int)]
def wsL_rule : List Cond := .codeWith yL_rule cL_rule 5 (some .int) [(0, 10, 13, 30), (0, 10, 17, 13)] :: ((wsL_rule_r1 ++ wsL_rule_r2) ++ wsX100 ++ wsX50 ++ (vx_atS RX10 267 "java/util/NoSuchElementException" ["java/lang/RuntimeException", "java/lang/Exception"]).filter goodWord ++ (vx_atS RX10 255 "java/lang/IllegalArgumentException" ["java/lang/RuntimeException", "java/lang/Exception"]).filter goodWord)
def wsL_wants : List Cond := .codeWith yL_wants cL_wants 5 (some .int) [(0, 10, 13, 13)] :: ([.classLink RL 13 "java/lang/IllegalArgumentException", .methodLink RL 32 yX10_wants, .instanceMethod yX10_wants, .selects RX10 yX10_wants yX10_wants, .initialized RX10, .code yX10_wants cX10_wants 3 (some .int), .fieldLink RX10 23 "HiredEnemy" "plan" "LHiredEnemy$Plan;", .methodLink RX10 107 yX10_within, .static yX10_within, .code yX10_within cX10_within 3 (some .boolean), .methodLink RX10 81 yX10_demand, .instanceMethod yX10_demand, .selects RX10 yX10_demand yX10_demand, .code yX10_demand cX10_demand 2 none, .classLink RX10 251 "java/lang/IllegalArgumentException", .initialized "java/lang/IllegalArgumentException", .fieldLink RX10 61 "HiredEnemy" "refused" "[I", .methodLink RX10 133 yX6_wanted, .instanceMethod yX6_wanted, .selects RX6 yX6_wanted yX6_wanted, .initialized RX6, .code yX6_wanted cX6_wanted 3 (some .int), .fieldLink RX6 15 "HiredEnemy$Plan" "said" "[I"] ++ wsX100 ++ wsX60 ++ (vx_atS RX10 255 "java/lang/IllegalArgumentException" ["java/lang/RuntimeException", "java/lang/Exception"]).filter goodWord)
def wsL_sign_r1 : List Cond := [Cond.classLink RL 30 "java/util/NoSuchElementException", Cond.methodLink RL 35 yX10_sign, Cond.instanceMethod yX10_sign, Cond.selects RX10 yX10_sign yX10_sign, Cond.initialized RX10, Cond.code yX10_sign cX10_sign 3 (some .int), Cond.fieldLink RX10 39 "HiredEnemy" "scene" "LHiredEnemy$Scene;", Cond.fieldLink RX10 66 "HiredEnemy$Scene" "course" "LHiredEnemy$Course;", Cond.fieldLink RX10 111 "HiredEnemy$Course" "now" "[I", Cond.methodLink RX10 137 yX10_demandContractOrNone, Cond.instanceMethod yX10_demandContractOrNone, Cond.selects RX10 yX10_demandContractOrNone yX10_demandContractOrNone, Cond.code yX10_demandContractOrNone cX10_demandContractOrNone 2 none, Cond.methodLink RX10 126 yX10_demandContract, Cond.instanceMethod yX10_demandContract, Cond.selects RX10 yX10_demandContract yX10_demandContract, Cond.code yX10_demandContract cX10_demandContract 2 none, Cond.classLink RX10 263 "java/util/NoSuchElementException", Cond.initialized "java/util/NoSuchElementException", Cond.fieldLink RX10 92 "HiredEnemy" "pactsTold" "I", Cond.fieldLink RX10 61 "HiredEnemy" "refused" "[I", Cond.methodLink RX10 107 yX10_within, Cond.static yX10_within, Cond.code yX10_within cX10_within 3 (some .boolean)]
def wsL_sign_r2 : List Cond := [Cond.methodLink RX10 140 yX4_pledge, Cond.instanceMethod yX4_pledge, Cond.selects RX4 yX4_pledge yX4_pledge, Cond.initialized RX4, Cond.code yX4_pledge cX4_pledge 2 none, Cond.fieldLink RX4 9 "HiredEnemy$Course" "now" "[I", Cond.fieldLink RX4 18 "HiredEnemy$Course" "month" "I"]
def wsL_sign : List Cond := .codeWith yL_sign cL_sign 4 (some .int) [(0, 9, 12, 30)] :: ((wsL_sign_r1 ++ wsL_sign_r2) ++ wsX100 ++ wsX80 ++ wsX40 ++ (vx_atS RX10 267 "java/util/NoSuchElementException" ["java/lang/RuntimeException", "java/lang/Exception"]).filter goodWord)
def wsL_months_r1 : List Cond := [Cond.classLink RL 13 "java/lang/IllegalArgumentException", Cond.methodLink RL 38 yX10_months, Cond.instanceMethod yX10_months, Cond.selects RX10 yX10_months yX10_months, Cond.initialized RX10, Cond.code yX10_months cX10_months 3 (some .int), Cond.fieldLink RX10 39 "HiredEnemy" "scene" "LHiredEnemy$Scene;", Cond.fieldLink RX10 66 "HiredEnemy$Scene" "course" "LHiredEnemy$Course;", Cond.fieldLink RX10 114 "HiredEnemy$Course" "month" "I", Cond.fieldLink RX10 143 "HiredEnemy$Scene" "annals" "LHiredEnemy$Annals;", Cond.fieldLink RX10 23 "HiredEnemy" "plan" "LHiredEnemy$Plan;", Cond.methodLink RX10 107 yX10_within, Cond.static yX10_within, Cond.code yX10_within cX10_within 3 (some .boolean), Cond.methodLink RX10 81 yX10_demand, Cond.instanceMethod yX10_demand, Cond.selects RX10 yX10_demand yX10_demand, Cond.code yX10_demand cX10_demand 2 none, Cond.classLink RX10 251 "java/lang/IllegalArgumentException", Cond.initialized "java/lang/IllegalArgumentException", Cond.fieldLink RX10 61 "HiredEnemy" "refused" "[I", Cond.methodLink RX10 147 yX0_keep, Cond.instanceMethod yX0_keep, Cond.selects RX0 yX0_keep yX0_keep]
def wsL_months_r2 : List Cond := [Cond.initialized RX0, Cond.code yX0_keep cX0_keep 2 none, Cond.fieldLink RX0 15 "HiredEnemy$Course" "month" "I", Cond.fieldLink RX0 25 "HiredEnemy$Course" "now" "[I", Cond.fieldLink RX0 11 "HiredEnemy$Annals" "lines" "[I", Cond.methodLink RX0 28 arraycopyName, Cond.native arraycopyName, Cond.static arraycopyName, Cond.initialized "java/lang/System", Cond.methodLink RX10 153 yX10_inForce, Cond.instanceMethod yX10_inForce, Cond.selects RX10 yX10_inForce yX10_inForce, Cond.code yX10_inForce cX10_inForce 3 (some (.object "HiredEnemy$Pact")), Cond.fieldLink RX10 111 "HiredEnemy$Course" "now" "[I", Cond.fieldLink RX10 32 "HiredEnemy" "pacts" "[LHiredEnemy$Pact;", Cond.methodLink RX10 157 yX4_pass, Cond.instanceMethod yX4_pass, Cond.selects RX4 yX4_pass yX4_pass, Cond.initialized RX4, Cond.code yX4_pass cX4_pass 3 none, Cond.fieldLink RX4 15 "HiredEnemy$Course" "shot" "[I", Cond.fieldLink RX4 9 "HiredEnemy$Course" "now" "[I", Cond.fieldLink RX4 28 "HiredEnemy$Plan" "said" "[I", Cond.fieldLink RX4 57 "HiredEnemy$Pact" "said" "[I"]
def wsL_months_r3 : List Cond := [Cond.methodLink RX4 68 Lib.Math.max.name, Cond.static Lib.Math.max.name, Cond.initialized "java/lang/Math", Cond.code Lib.Math.max.name Lib.Math.max.code 2 (some .int), Cond.fieldLink RX4 18 "HiredEnemy$Course" "month" "I", Cond.methodLink RX4 22 yJ7_fill_53178, Cond.static yJ7_fill_53178, Cond.initialized RJ7, Cond.code yJ7_fill_53178 cJ7_fill_53178 4 none, Cond.methodLink RX4 45 yX4_move, Cond.instanceMethod yX4_move, Cond.selects RX4 yX4_move yX4_move, Cond.code yX4_move cX4_move 5 none, Cond.methodLink RX4 81 Lib.Math.min.name, Cond.static Lib.Math.min.name, Cond.code Lib.Math.min.name Lib.Math.min.code 2 (some .int), Cond.methodLink RX4 49 yX4_isPaid, Cond.instanceMethod yX4_isPaid, Cond.selects RX4 yX4_isPaid yX4_isPaid, Cond.code yX4_isPaid cX4_isPaid 3 (some .boolean), Cond.methodLink RX4 84 yX5_payIn, Cond.instanceMethod yX5_payIn, Cond.selects RX5 yX5_payIn yX5_payIn, Cond.initialized RX5]
def wsL_months_r4 : List Cond := [Cond.code yX5_payIn cX5_payIn 3 (some .int), Cond.fieldLink RX5 11 "HiredEnemy$Pact" "said" "[I", Cond.methodLink RX5 45 yX5_winterPay, Cond.instanceMethod yX5_winterPay, Cond.selects RX5 yX5_winterPay yX5_winterPay, Cond.code yX5_winterPay cX5_winterPay 1 (some .int), Cond.methodLink RX4 53 yX4_shoot, Cond.instanceMethod yX4_shoot, Cond.selects RX4 yX4_shoot yX4_shoot, Cond.code yX4_shoot cX4_shoot 9 none, Cond.fieldLink RX4 33 "HiredEnemy$Plan" "walls" "I", Cond.methodLink RX4 87 yX5_wallDue, Cond.instanceMethod yX5_wallDue, Cond.selects RX5 yX5_wallDue yX5_wallDue, Cond.code yX5_wallDue cX5_wallDue 4 (some .int), Cond.fieldLink RX5 15 "HiredEnemy$Pact" "wallByMonth" "[I", Cond.methodLink RX4 90 yX4_weakest, Cond.instanceMethod yX4_weakest, Cond.selects RX4 yX4_weakest yX4_weakest, Cond.code yX4_weakest cX4_weakest 4 (some .int), Cond.methodLink RX4 93 yX4_breach, Cond.instanceMethod yX4_breach, Cond.selects RX4 yX4_breach yX4_breach, Cond.code yX4_breach cX4_breach 4 none]
def wsL_months_r5 : List Cond := [Cond.fieldLink RX4 36 "HiredEnemy$Plan" "strength" "[I", Cond.methodLink RX4 64 yX4_frighten, Cond.instanceMethod yX4_frighten, Cond.selects RX4 yX4_frighten yX4_frighten, Cond.code yX4_frighten cX4_frighten 2 none, Cond.methodLink RX4 60 yX6_fearAt, Cond.instanceMethod yX6_fearAt, Cond.selects RX6 yX6_fearAt yX6_fearAt, Cond.initialized RX6, Cond.code yX6_fearAt cX6_fearAt 2 (some .int), Cond.fieldLink RX6 18 "HiredEnemy$Plan" "fearByNear" "[I", Cond.methodLink RX4 74 yX4_mend, Cond.instanceMethod yX4_mend, Cond.selects RX4 yX4_mend yX4_mend, Cond.code yX4_mend cX4_mend 5 none, Cond.fieldLink RX4 97 "HiredEnemy$Plan" "mended" "[I", Cond.methodLink RX4 78 yX4_desert, Cond.instanceMethod yX4_desert, Cond.selects RX4 yX4_desert yX4_desert, Cond.code yX4_desert cX4_desert 5 none, Cond.methodLink RX4 100 Lib.Math.abs.name, Cond.static Lib.Math.abs.name, Cond.code Lib.Math.abs.name Lib.Math.abs.code 1 (some .int), Cond.methodLink RX10 161 yX0_lead]
def wsL_months_r6 : List Cond := [Cond.instanceMethod yX0_lead, Cond.selects RX0 yX0_lead yX0_lead, Cond.code yX0_lead cX0_lead 2 none, Cond.fieldLink RX0 34 "HiredEnemy$Course" "shot" "[I"]
def wsL_months : List Cond := .codeWith yL_months cL_months 4 (some .int) [(0, 9, 12, 13)] :: ((wsL_months_r1 ++ (wsL_months_r2 ++ (wsL_months_r3 ++ (wsL_months_r4 ++ (wsL_months_r5 ++ wsL_months_r6))))) ++ wsX100 ++ wsX80 ++ wsX40 ++ wsX00 ++ wsX60 ++ wsX50 ++ (vx_atS RX10 255 "java/lang/IllegalArgumentException" ["java/lang/RuntimeException", "java/lang/Exception"]).filter goodWord)
def wsL_undo_r1 : List Cond := [Cond.classLink RL 13 "java/lang/IllegalArgumentException", Cond.methodLink RL 41 yX10_undo, Cond.instanceMethod yX10_undo, Cond.selects RX10 yX10_undo yX10_undo, Cond.initialized RX10, Cond.code yX10_undo cX10_undo 3 (some .int), Cond.fieldLink RX10 39 "HiredEnemy" "scene" "LHiredEnemy$Scene;", Cond.fieldLink RX10 66 "HiredEnemy$Scene" "course" "LHiredEnemy$Course;", Cond.fieldLink RX10 114 "HiredEnemy$Course" "month" "I", Cond.methodLink RX10 164 Lib.Math.min.name, Cond.static Lib.Math.min.name, Cond.initialized "java/lang/Math", Cond.code Lib.Math.min.name Lib.Math.min.code 2 (some .int), Cond.fieldLink RX10 143 "HiredEnemy$Scene" "annals" "LHiredEnemy$Annals;", Cond.methodLink RX10 107 yX10_within, Cond.static yX10_within, Cond.code yX10_within cX10_within 3 (some .boolean), Cond.methodLink RX10 81 yX10_demand, Cond.instanceMethod yX10_demand, Cond.selects RX10 yX10_demand yX10_demand, Cond.code yX10_demand cX10_demand 2 none, Cond.classLink RX10 251 "java/lang/IllegalArgumentException", Cond.initialized "java/lang/IllegalArgumentException", Cond.fieldLink RX10 61 "HiredEnemy" "refused" "[I"]
def wsL_undo_r2 : List Cond := [Cond.methodLink RX10 169 yX0_giveBack, Cond.instanceMethod yX0_giveBack, Cond.selects RX0 yX0_giveBack yX0_giveBack, Cond.initialized RX0, Cond.code yX0_giveBack cX0_giveBack 3 none, Cond.fieldLink RX0 11 "HiredEnemy$Annals" "lines" "[I", Cond.fieldLink RX0 25 "HiredEnemy$Course" "now" "[I", Cond.methodLink RX0 28 arraycopyName, Cond.native arraycopyName, Cond.static arraycopyName, Cond.initialized "java/lang/System", Cond.fieldLink RX0 15 "HiredEnemy$Course" "month" "I"]
def wsL_undo : List Cond := .codeWith yL_undo cL_undo 4 (some .int) [(0, 9, 12, 13)] :: ((wsL_undo_r1 ++ wsL_undo_r2) ++ wsX100 ++ wsX80 ++ wsX40 ++ wsX00 ++ (vx_atS RX10 255 "java/lang/IllegalArgumentException" ["java/lang/RuntimeException", "java/lang/Exception"]).filter goodWord)
def wsL_sums : List Cond := .codeWith yL_sums cL_sums 4 (some .int) [(0, 9, 12, 13)] :: ([.classLink RL 13 "java/lang/IllegalArgumentException", .methodLink RL 44 yX10_sums, .instanceMethod yX10_sums, .selects RX10 yX10_sums yX10_sums, .initialized RX10, .code yX10_sums cX10_sums 2 (some .int), .fieldLink RX10 39 "HiredEnemy" "scene" "LHiredEnemy$Scene;", .fieldLink RX10 66 "HiredEnemy$Scene" "course" "LHiredEnemy$Course;", .fieldLink RX10 111 "HiredEnemy$Course" "now" "[I", .methodLink RX10 107 yX10_within, .static yX10_within, .code yX10_within cX10_within 3 (some .boolean), .methodLink RX10 81 yX10_demand, .instanceMethod yX10_demand, .selects RX10 yX10_demand yX10_demand, .code yX10_demand cX10_demand 2 none, .classLink RX10 251 "java/lang/IllegalArgumentException", .initialized "java/lang/IllegalArgumentException", .fieldLink RX10 61 "HiredEnemy" "refused" "[I"] ++ wsX100 ++ wsX80 ++ wsX40 ++ (vx_atS RX10 255 "java/lang/IllegalArgumentException" ["java/lang/RuntimeException", "java/lang/Exception"]).filter goodWord)
def wsL_corks_r1 : List Cond := [Cond.classLink RL 25 "java/lang/IndexOutOfBoundsException", Cond.classLink RL 13 "java/lang/IllegalArgumentException", Cond.methodLink RL 47 yX10_corks, Cond.instanceMethod yX10_corks, Cond.selects RX10 yX10_corks yX10_corks, Cond.initialized RX10, Cond.code yX10_corks cX10_corks 3 (some .int), Cond.fieldLink RX10 39 "HiredEnemy" "scene" "LHiredEnemy$Scene;", Cond.fieldLink RX10 66 "HiredEnemy$Scene" "course" "LHiredEnemy$Course;", Cond.fieldLink RX10 114 "HiredEnemy$Course" "month" "I", Cond.fieldLink RX10 143 "HiredEnemy$Scene" "annals" "LHiredEnemy$Annals;", Cond.methodLink RX10 117 yX10_demandWall, Cond.instanceMethod yX10_demandWall, Cond.selects RX10 yX10_demandWall yX10_demandWall, Cond.code yX10_demandWall cX10_demandWall 2 none, Cond.classLink RX10 258 "java/lang/IndexOutOfBoundsException", Cond.initialized "java/lang/IndexOutOfBoundsException", Cond.fieldLink RX10 23 "HiredEnemy" "plan" "LHiredEnemy$Plan;", Cond.fieldLink RX10 99 "HiredEnemy$Plan" "walls" "I", Cond.fieldLink RX10 61 "HiredEnemy" "refused" "[I", Cond.methodLink RX10 107 yX10_within, Cond.static yX10_within, Cond.code yX10_within cX10_within 3 (some .boolean), Cond.methodLink RX10 81 yX10_demand]
def wsL_corks_r2 : List Cond := [Cond.instanceMethod yX10_demand, Cond.selects RX10 yX10_demand yX10_demand, Cond.code yX10_demand cX10_demand 2 none, Cond.classLink RX10 251 "java/lang/IllegalArgumentException", Cond.initialized "java/lang/IllegalArgumentException", Cond.methodLink RX10 173 yX0_shotAt, Cond.instanceMethod yX0_shotAt, Cond.selects RX0 yX0_shotAt yX0_shotAt, Cond.initialized RX0, Cond.code yX0_shotAt cX0_shotAt 3 (some .int), Cond.fieldLink RX0 11 "HiredEnemy$Annals" "lines" "[I"]
def wsL_corks : List Cond := .codeWith yL_corks cL_corks 5 (some .int) [(0, 10, 13, 25), (0, 10, 17, 13)] :: ((wsL_corks_r1 ++ wsL_corks_r2) ++ wsX100 ++ wsX80 ++ wsX40 ++ wsX60 ++ wsX00 ++ (vx_atS RX10 262 "java/lang/IndexOutOfBoundsException" ["java/lang/RuntimeException", "java/lang/Exception"]).filter goodWord ++ (vx_atS RX10 255 "java/lang/IllegalArgumentException" ["java/lang/RuntimeException", "java/lang/Exception"]).filter goodWord)
def wsL_would_r1 : List Cond := [Cond.classLink RL 30 "java/util/NoSuchElementException", Cond.classLink RL 13 "java/lang/IllegalArgumentException", Cond.methodLink RL 50 yX10_would, Cond.instanceMethod yX10_would, Cond.selects RX10 yX10_would yX10_would, Cond.initialized RX10, Cond.code yX10_would cX10_would 4 (some .int), Cond.fieldLink RX10 50 "HiredEnemy" "trial" "LHiredEnemy$Course;", Cond.fieldLink RX10 111 "HiredEnemy$Course" "now" "[I", Cond.methodLink RX10 137 yX10_demandContractOrNone, Cond.instanceMethod yX10_demandContractOrNone, Cond.selects RX10 yX10_demandContractOrNone yX10_demandContractOrNone, Cond.code yX10_demandContractOrNone cX10_demandContractOrNone 2 none, Cond.methodLink RX10 126 yX10_demandContract, Cond.instanceMethod yX10_demandContract, Cond.selects RX10 yX10_demandContract yX10_demandContract, Cond.code yX10_demandContract cX10_demandContract 2 none, Cond.classLink RX10 263 "java/util/NoSuchElementException", Cond.initialized "java/util/NoSuchElementException", Cond.fieldLink RX10 92 "HiredEnemy" "pactsTold" "I", Cond.fieldLink RX10 61 "HiredEnemy" "refused" "[I", Cond.methodLink RX10 107 yX10_within, Cond.static yX10_within, Cond.code yX10_within cX10_within 3 (some .boolean)]
def wsL_would_r2 : List Cond := [Cond.methodLink RX10 81 yX10_demand, Cond.instanceMethod yX10_demand, Cond.selects RX10 yX10_demand yX10_demand, Cond.code yX10_demand cX10_demand 2 none, Cond.classLink RX10 251 "java/lang/IllegalArgumentException", Cond.initialized "java/lang/IllegalArgumentException", Cond.methodLink RX10 176 yX10_trySigned, Cond.instanceMethod yX10_trySigned, Cond.selects RX10 yX10_trySigned yX10_trySigned, Cond.code yX10_trySigned cX10_trySigned 3 (some .int), Cond.fieldLink RX10 39 "HiredEnemy" "scene" "LHiredEnemy$Scene;", Cond.fieldLink RX10 66 "HiredEnemy$Scene" "course" "LHiredEnemy$Course;", Cond.methodLink RX10 183 yX4_take, Cond.instanceMethod yX4_take, Cond.selects RX4 yX4_take yX4_take, Cond.initialized RX4, Cond.code yX4_take cX4_take 2 none, Cond.fieldLink RX4 9 "HiredEnemy$Course" "now" "[I", Cond.methodLink RX4 39 arraycopyName, Cond.native arraycopyName, Cond.static arraycopyName, Cond.initialized "java/lang/System", Cond.fieldLink RX4 18 "HiredEnemy$Course" "month" "I", Cond.methodLink RX10 140 yX4_pledge]
def wsL_would_r3 : List Cond := [Cond.instanceMethod yX4_pledge, Cond.selects RX4 yX4_pledge yX4_pledge, Cond.code yX4_pledge cX4_pledge 2 none, Cond.methodLink RX10 186 yX10_passTried, Cond.instanceMethod yX10_passTried, Cond.selects RX10 yX10_passTried yX10_passTried, Cond.code yX10_passTried cX10_passTried 3 none, Cond.fieldLink RX10 114 "HiredEnemy$Course" "month" "I", Cond.fieldLink RX10 23 "HiredEnemy" "plan" "LHiredEnemy$Plan;", Cond.methodLink RX10 153 yX10_inForce, Cond.instanceMethod yX10_inForce, Cond.selects RX10 yX10_inForce yX10_inForce, Cond.code yX10_inForce cX10_inForce 3 (some (.object "HiredEnemy$Pact")), Cond.fieldLink RX10 32 "HiredEnemy" "pacts" "[LHiredEnemy$Pact;", Cond.methodLink RX10 157 yX4_pass, Cond.instanceMethod yX4_pass, Cond.selects RX4 yX4_pass yX4_pass, Cond.code yX4_pass cX4_pass 3 none, Cond.fieldLink RX4 15 "HiredEnemy$Course" "shot" "[I", Cond.fieldLink RX4 28 "HiredEnemy$Plan" "said" "[I", Cond.fieldLink RX4 57 "HiredEnemy$Pact" "said" "[I", Cond.methodLink RX4 68 Lib.Math.max.name, Cond.static Lib.Math.max.name, Cond.initialized "java/lang/Math"]
def wsL_would_r4 : List Cond := [Cond.code Lib.Math.max.name Lib.Math.max.code 2 (some .int), Cond.methodLink RX4 22 yJ7_fill_53178, Cond.static yJ7_fill_53178, Cond.initialized RJ7, Cond.code yJ7_fill_53178 cJ7_fill_53178 4 none, Cond.methodLink RX4 45 yX4_move, Cond.instanceMethod yX4_move, Cond.selects RX4 yX4_move yX4_move, Cond.code yX4_move cX4_move 5 none, Cond.methodLink RX4 81 Lib.Math.min.name, Cond.static Lib.Math.min.name, Cond.code Lib.Math.min.name Lib.Math.min.code 2 (some .int), Cond.methodLink RX4 49 yX4_isPaid, Cond.instanceMethod yX4_isPaid, Cond.selects RX4 yX4_isPaid yX4_isPaid, Cond.code yX4_isPaid cX4_isPaid 3 (some .boolean), Cond.methodLink RX4 84 yX5_payIn, Cond.instanceMethod yX5_payIn, Cond.selects RX5 yX5_payIn yX5_payIn, Cond.initialized RX5, Cond.code yX5_payIn cX5_payIn 3 (some .int), Cond.fieldLink RX5 11 "HiredEnemy$Pact" "said" "[I", Cond.methodLink RX5 45 yX5_winterPay, Cond.instanceMethod yX5_winterPay]
def wsL_would_r5 : List Cond := [Cond.selects RX5 yX5_winterPay yX5_winterPay, Cond.code yX5_winterPay cX5_winterPay 1 (some .int), Cond.methodLink RX4 53 yX4_shoot, Cond.instanceMethod yX4_shoot, Cond.selects RX4 yX4_shoot yX4_shoot, Cond.code yX4_shoot cX4_shoot 9 none, Cond.fieldLink RX4 33 "HiredEnemy$Plan" "walls" "I", Cond.methodLink RX4 87 yX5_wallDue, Cond.instanceMethod yX5_wallDue, Cond.selects RX5 yX5_wallDue yX5_wallDue, Cond.code yX5_wallDue cX5_wallDue 4 (some .int), Cond.fieldLink RX5 15 "HiredEnemy$Pact" "wallByMonth" "[I", Cond.methodLink RX4 90 yX4_weakest, Cond.instanceMethod yX4_weakest, Cond.selects RX4 yX4_weakest yX4_weakest, Cond.code yX4_weakest cX4_weakest 4 (some .int), Cond.methodLink RX4 93 yX4_breach, Cond.instanceMethod yX4_breach, Cond.selects RX4 yX4_breach yX4_breach, Cond.code yX4_breach cX4_breach 4 none, Cond.fieldLink RX4 36 "HiredEnemy$Plan" "strength" "[I", Cond.methodLink RX4 64 yX4_frighten, Cond.instanceMethod yX4_frighten, Cond.selects RX4 yX4_frighten yX4_frighten]
def wsL_would_r6 : List Cond := [Cond.code yX4_frighten cX4_frighten 2 none, Cond.methodLink RX4 60 yX6_fearAt, Cond.instanceMethod yX6_fearAt, Cond.selects RX6 yX6_fearAt yX6_fearAt, Cond.initialized RX6, Cond.code yX6_fearAt cX6_fearAt 2 (some .int), Cond.fieldLink RX6 18 "HiredEnemy$Plan" "fearByNear" "[I", Cond.methodLink RX4 74 yX4_mend, Cond.instanceMethod yX4_mend, Cond.selects RX4 yX4_mend yX4_mend, Cond.code yX4_mend cX4_mend 5 none, Cond.fieldLink RX4 97 "HiredEnemy$Plan" "mended" "[I", Cond.methodLink RX4 78 yX4_desert, Cond.instanceMethod yX4_desert, Cond.selects RX4 yX4_desert yX4_desert, Cond.code yX4_desert cX4_desert 5 none, Cond.methodLink RX4 100 Lib.Math.abs.name, Cond.static Lib.Math.abs.name, Cond.code Lib.Math.abs.name Lib.Math.abs.code 1 (some .int)]
def wsL_would : List Cond := .codeWith yL_would cL_would 6 (some .int) [(0, 12, 15, 30), (0, 12, 19, 13)] :: ((wsL_would_r1 ++ (wsL_would_r2 ++ (wsL_would_r3 ++ (wsL_would_r4 ++ (wsL_would_r5 ++ wsL_would_r6))))) ++ wsX100 ++ wsX40 ++ wsX80 ++ wsX60 ++ wsX50 ++ (vx_atS RX10 267 "java/util/NoSuchElementException" ["java/lang/RuntimeException", "java/lang/Exception"]).filter goodWord ++ (vx_atS RX10 255 "java/lang/IllegalArgumentException" ["java/lang/RuntimeException", "java/lang/Exception"]).filter goodWord)
def wsL_best_r1 : List Cond := [Cond.classLink RL 13 "java/lang/IllegalArgumentException", Cond.methodLink RL 54 yX10_best, Cond.instanceMethod yX10_best, Cond.selects RX10 yX10_best yX10_best, Cond.initialized RX10, Cond.code yX10_best cX10_best 7 (some .int), Cond.fieldLink RX10 92 "HiredEnemy" "pactsTold" "I", Cond.methodLink RX10 107 yX10_within, Cond.static yX10_within, Cond.code yX10_within cX10_within 3 (some .boolean), Cond.methodLink RX10 81 yX10_demand, Cond.instanceMethod yX10_demand, Cond.selects RX10 yX10_demand yX10_demand, Cond.code yX10_demand cX10_demand 2 none, Cond.classLink RX10 251 "java/lang/IllegalArgumentException", Cond.initialized "java/lang/IllegalArgumentException", Cond.fieldLink RX10 61 "HiredEnemy" "refused" "[I", Cond.methodLink RX10 176 yX10_trySigned, Cond.instanceMethod yX10_trySigned, Cond.selects RX10 yX10_trySigned yX10_trySigned, Cond.code yX10_trySigned cX10_trySigned 3 (some .int), Cond.fieldLink RX10 50 "HiredEnemy" "trial" "LHiredEnemy$Course;", Cond.fieldLink RX10 39 "HiredEnemy" "scene" "LHiredEnemy$Scene;", Cond.fieldLink RX10 66 "HiredEnemy$Scene" "course" "LHiredEnemy$Course;"]
def wsL_best_r2 : List Cond := [Cond.fieldLink RX10 111 "HiredEnemy$Course" "now" "[I", Cond.methodLink RX10 183 yX4_take, Cond.instanceMethod yX4_take, Cond.selects RX4 yX4_take yX4_take, Cond.initialized RX4, Cond.code yX4_take cX4_take 2 none, Cond.fieldLink RX4 9 "HiredEnemy$Course" "now" "[I", Cond.methodLink RX4 39 arraycopyName, Cond.native arraycopyName, Cond.static arraycopyName, Cond.initialized "java/lang/System", Cond.fieldLink RX4 18 "HiredEnemy$Course" "month" "I", Cond.methodLink RX10 140 yX4_pledge, Cond.instanceMethod yX4_pledge, Cond.selects RX4 yX4_pledge yX4_pledge, Cond.code yX4_pledge cX4_pledge 2 none, Cond.methodLink RX10 186 yX10_passTried, Cond.instanceMethod yX10_passTried, Cond.selects RX10 yX10_passTried yX10_passTried, Cond.code yX10_passTried cX10_passTried 3 none, Cond.fieldLink RX10 114 "HiredEnemy$Course" "month" "I", Cond.fieldLink RX10 23 "HiredEnemy" "plan" "LHiredEnemy$Plan;", Cond.methodLink RX10 153 yX10_inForce, Cond.instanceMethod yX10_inForce]
def wsL_best_r3 : List Cond := [Cond.selects RX10 yX10_inForce yX10_inForce, Cond.code yX10_inForce cX10_inForce 3 (some (.object "HiredEnemy$Pact")), Cond.fieldLink RX10 32 "HiredEnemy" "pacts" "[LHiredEnemy$Pact;", Cond.methodLink RX10 157 yX4_pass, Cond.instanceMethod yX4_pass, Cond.selects RX4 yX4_pass yX4_pass, Cond.code yX4_pass cX4_pass 3 none, Cond.fieldLink RX4 15 "HiredEnemy$Course" "shot" "[I", Cond.fieldLink RX4 28 "HiredEnemy$Plan" "said" "[I", Cond.fieldLink RX4 57 "HiredEnemy$Pact" "said" "[I", Cond.methodLink RX4 68 Lib.Math.max.name, Cond.static Lib.Math.max.name, Cond.initialized "java/lang/Math", Cond.code Lib.Math.max.name Lib.Math.max.code 2 (some .int), Cond.methodLink RX4 22 yJ7_fill_53178, Cond.static yJ7_fill_53178, Cond.initialized RJ7, Cond.code yJ7_fill_53178 cJ7_fill_53178 4 none, Cond.methodLink RX4 45 yX4_move, Cond.instanceMethod yX4_move, Cond.selects RX4 yX4_move yX4_move, Cond.code yX4_move cX4_move 5 none, Cond.methodLink RX4 81 Lib.Math.min.name, Cond.static Lib.Math.min.name]
def wsL_best_r4 : List Cond := [Cond.code Lib.Math.min.name Lib.Math.min.code 2 (some .int), Cond.methodLink RX4 49 yX4_isPaid, Cond.instanceMethod yX4_isPaid, Cond.selects RX4 yX4_isPaid yX4_isPaid, Cond.code yX4_isPaid cX4_isPaid 3 (some .boolean), Cond.methodLink RX4 84 yX5_payIn, Cond.instanceMethod yX5_payIn, Cond.selects RX5 yX5_payIn yX5_payIn, Cond.initialized RX5, Cond.code yX5_payIn cX5_payIn 3 (some .int), Cond.fieldLink RX5 11 "HiredEnemy$Pact" "said" "[I", Cond.methodLink RX5 45 yX5_winterPay, Cond.instanceMethod yX5_winterPay, Cond.selects RX5 yX5_winterPay yX5_winterPay, Cond.code yX5_winterPay cX5_winterPay 1 (some .int), Cond.methodLink RX4 53 yX4_shoot, Cond.instanceMethod yX4_shoot, Cond.selects RX4 yX4_shoot yX4_shoot, Cond.code yX4_shoot cX4_shoot 9 none, Cond.fieldLink RX4 33 "HiredEnemy$Plan" "walls" "I", Cond.methodLink RX4 87 yX5_wallDue, Cond.instanceMethod yX5_wallDue, Cond.selects RX5 yX5_wallDue yX5_wallDue, Cond.code yX5_wallDue cX5_wallDue 4 (some .int)]
def wsL_best_r5 : List Cond := [Cond.fieldLink RX5 15 "HiredEnemy$Pact" "wallByMonth" "[I", Cond.methodLink RX4 90 yX4_weakest, Cond.instanceMethod yX4_weakest, Cond.selects RX4 yX4_weakest yX4_weakest, Cond.code yX4_weakest cX4_weakest 4 (some .int), Cond.methodLink RX4 93 yX4_breach, Cond.instanceMethod yX4_breach, Cond.selects RX4 yX4_breach yX4_breach, Cond.code yX4_breach cX4_breach 4 none, Cond.fieldLink RX4 36 "HiredEnemy$Plan" "strength" "[I", Cond.methodLink RX4 64 yX4_frighten, Cond.instanceMethod yX4_frighten, Cond.selects RX4 yX4_frighten yX4_frighten, Cond.code yX4_frighten cX4_frighten 2 none, Cond.methodLink RX4 60 yX6_fearAt, Cond.instanceMethod yX6_fearAt, Cond.selects RX6 yX6_fearAt yX6_fearAt, Cond.initialized RX6, Cond.code yX6_fearAt cX6_fearAt 2 (some .int), Cond.fieldLink RX6 18 "HiredEnemy$Plan" "fearByNear" "[I", Cond.methodLink RX4 74 yX4_mend, Cond.instanceMethod yX4_mend, Cond.selects RX4 yX4_mend yX4_mend, Cond.code yX4_mend cX4_mend 5 none]
def wsL_best_r6 : List Cond := [Cond.fieldLink RX4 97 "HiredEnemy$Plan" "mended" "[I", Cond.methodLink RX4 78 yX4_desert, Cond.instanceMethod yX4_desert, Cond.selects RX4 yX4_desert yX4_desert, Cond.code yX4_desert cX4_desert 5 none, Cond.methodLink RX4 100 Lib.Math.abs.name, Cond.static Lib.Math.abs.name, Cond.code Lib.Math.abs.name Lib.Math.abs.code 1 (some .int)]
def wsL_best : List Cond := .codeWith yL_best cL_best 5 (some .int) [(0, 10, 13, 13)] :: ((wsL_best_r1 ++ (wsL_best_r2 ++ (wsL_best_r3 ++ (wsL_best_r4 ++ (wsL_best_r5 ++ wsL_best_r6))))) ++ wsX100 ++ wsX80 ++ wsX40 ++ wsX60 ++ wsX50 ++ (vx_atS RX10 255 "java/lang/IllegalArgumentException" ["java/lang/RuntimeException", "java/lang/Exception"]).filter goodWord)
def wsL_offer_r1 : List Cond := [Cond.classLink RL 13 "java/lang/IllegalArgumentException", Cond.methodLink RL 57 yX10_offer, Cond.instanceMethod yX10_offer, Cond.selects RX10 yX10_offer yX10_offer, Cond.initialized RX10, Cond.code yX10_offer cX10_offer 9 (some .int), Cond.fieldLink RX10 32 "HiredEnemy" "pacts" "[LHiredEnemy$Pact;", Cond.fieldLink RX10 23 "HiredEnemy" "plan" "LHiredEnemy$Plan;", Cond.methodLink RX10 107 yX10_within, Cond.static yX10_within, Cond.code yX10_within cX10_within 3 (some .boolean), Cond.methodLink RX10 81 yX10_demand, Cond.instanceMethod yX10_demand, Cond.selects RX10 yX10_demand yX10_demand, Cond.code yX10_demand cX10_demand 2 none, Cond.classLink RX10 251 "java/lang/IllegalArgumentException", Cond.initialized "java/lang/IllegalArgumentException", Cond.fieldLink RX10 61 "HiredEnemy" "refused" "[I", Cond.methodLink RX10 133 yX6_wanted, Cond.instanceMethod yX6_wanted, Cond.selects RX6 yX6_wanted yX6_wanted, Cond.initialized RX6, Cond.code yX6_wanted cX6_wanted 3 (some .int), Cond.fieldLink RX6 15 "HiredEnemy$Plan" "said" "[I"]
def wsL_offer_r2 : List Cond := [Cond.methodLink RX10 179 yX5_propose, Cond.instanceMethod yX5_propose, Cond.selects RX5 yX5_propose yX5_propose, Cond.initialized RX5, Cond.code yX5_propose cX5_propose 5 none, Cond.fieldLink RX5 11 "HiredEnemy$Pact" "said" "[I", Cond.methodLink RX5 28 yX5_clear, Cond.instanceMethod yX5_clear, Cond.selects RX5 yX5_clear yX5_clear, Cond.code yX5_clear cX5_clear 2 none, Cond.fieldLink RX5 18 "HiredEnemy$Pact" "walls" "I", Cond.fieldLink RX5 15 "HiredEnemy$Pact" "wallByMonth" "[I", Cond.methodLink RX5 22 yJ7_fill_53178, Cond.static yJ7_fill_53178, Cond.initialized RJ7, Cond.code yJ7_fill_53178 cJ7_fill_53178 4 none, Cond.methodLink RX10 176 yX10_trySigned, Cond.instanceMethod yX10_trySigned, Cond.selects RX10 yX10_trySigned yX10_trySigned, Cond.code yX10_trySigned cX10_trySigned 3 (some .int), Cond.fieldLink RX10 50 "HiredEnemy" "trial" "LHiredEnemy$Course;", Cond.fieldLink RX10 39 "HiredEnemy" "scene" "LHiredEnemy$Scene;", Cond.fieldLink RX10 66 "HiredEnemy$Scene" "course" "LHiredEnemy$Course;", Cond.fieldLink RX10 111 "HiredEnemy$Course" "now" "[I"]
def wsL_offer_r3 : List Cond := [Cond.methodLink RX10 183 yX4_take, Cond.instanceMethod yX4_take, Cond.selects RX4 yX4_take yX4_take, Cond.initialized RX4, Cond.code yX4_take cX4_take 2 none, Cond.fieldLink RX4 9 "HiredEnemy$Course" "now" "[I", Cond.methodLink RX4 39 arraycopyName, Cond.native arraycopyName, Cond.static arraycopyName, Cond.initialized "java/lang/System", Cond.fieldLink RX4 18 "HiredEnemy$Course" "month" "I", Cond.methodLink RX10 140 yX4_pledge, Cond.instanceMethod yX4_pledge, Cond.selects RX4 yX4_pledge yX4_pledge, Cond.code yX4_pledge cX4_pledge 2 none, Cond.methodLink RX10 186 yX10_passTried, Cond.instanceMethod yX10_passTried, Cond.selects RX10 yX10_passTried yX10_passTried, Cond.code yX10_passTried cX10_passTried 3 none, Cond.fieldLink RX10 114 "HiredEnemy$Course" "month" "I", Cond.methodLink RX10 153 yX10_inForce, Cond.instanceMethod yX10_inForce, Cond.selects RX10 yX10_inForce yX10_inForce, Cond.code yX10_inForce cX10_inForce 3 (some (.object "HiredEnemy$Pact"))]
def wsL_offer_r4 : List Cond := [Cond.methodLink RX10 157 yX4_pass, Cond.instanceMethod yX4_pass, Cond.selects RX4 yX4_pass yX4_pass, Cond.code yX4_pass cX4_pass 3 none, Cond.fieldLink RX4 15 "HiredEnemy$Course" "shot" "[I", Cond.fieldLink RX4 28 "HiredEnemy$Plan" "said" "[I", Cond.fieldLink RX4 57 "HiredEnemy$Pact" "said" "[I", Cond.methodLink RX4 68 Lib.Math.max.name, Cond.static Lib.Math.max.name, Cond.initialized "java/lang/Math", Cond.code Lib.Math.max.name Lib.Math.max.code 2 (some .int), Cond.methodLink RX4 22 yJ7_fill_53178, Cond.methodLink RX4 45 yX4_move, Cond.instanceMethod yX4_move, Cond.selects RX4 yX4_move yX4_move, Cond.code yX4_move cX4_move 5 none, Cond.methodLink RX4 81 Lib.Math.min.name, Cond.static Lib.Math.min.name, Cond.code Lib.Math.min.name Lib.Math.min.code 2 (some .int), Cond.methodLink RX4 49 yX4_isPaid, Cond.instanceMethod yX4_isPaid, Cond.selects RX4 yX4_isPaid yX4_isPaid, Cond.code yX4_isPaid cX4_isPaid 3 (some .boolean), Cond.methodLink RX4 84 yX5_payIn]
def wsL_offer_r5 : List Cond := [Cond.instanceMethod yX5_payIn, Cond.selects RX5 yX5_payIn yX5_payIn, Cond.code yX5_payIn cX5_payIn 3 (some .int), Cond.methodLink RX5 45 yX5_winterPay, Cond.instanceMethod yX5_winterPay, Cond.selects RX5 yX5_winterPay yX5_winterPay, Cond.code yX5_winterPay cX5_winterPay 1 (some .int), Cond.methodLink RX4 53 yX4_shoot, Cond.instanceMethod yX4_shoot, Cond.selects RX4 yX4_shoot yX4_shoot, Cond.code yX4_shoot cX4_shoot 9 none, Cond.fieldLink RX4 33 "HiredEnemy$Plan" "walls" "I", Cond.methodLink RX4 87 yX5_wallDue, Cond.instanceMethod yX5_wallDue, Cond.selects RX5 yX5_wallDue yX5_wallDue, Cond.code yX5_wallDue cX5_wallDue 4 (some .int), Cond.methodLink RX4 90 yX4_weakest, Cond.instanceMethod yX4_weakest, Cond.selects RX4 yX4_weakest yX4_weakest, Cond.code yX4_weakest cX4_weakest 4 (some .int), Cond.methodLink RX4 93 yX4_breach, Cond.instanceMethod yX4_breach, Cond.selects RX4 yX4_breach yX4_breach, Cond.code yX4_breach cX4_breach 4 none]
def wsL_offer_r6 : List Cond := [Cond.fieldLink RX4 36 "HiredEnemy$Plan" "strength" "[I", Cond.methodLink RX4 64 yX4_frighten, Cond.instanceMethod yX4_frighten, Cond.selects RX4 yX4_frighten yX4_frighten, Cond.code yX4_frighten cX4_frighten 2 none, Cond.methodLink RX4 60 yX6_fearAt, Cond.instanceMethod yX6_fearAt, Cond.selects RX6 yX6_fearAt yX6_fearAt, Cond.code yX6_fearAt cX6_fearAt 2 (some .int), Cond.fieldLink RX6 18 "HiredEnemy$Plan" "fearByNear" "[I", Cond.methodLink RX4 74 yX4_mend, Cond.instanceMethod yX4_mend, Cond.selects RX4 yX4_mend yX4_mend, Cond.code yX4_mend cX4_mend 5 none, Cond.fieldLink RX4 97 "HiredEnemy$Plan" "mended" "[I", Cond.methodLink RX4 78 yX4_desert, Cond.instanceMethod yX4_desert, Cond.selects RX4 yX4_desert yX4_desert, Cond.code yX4_desert cX4_desert 5 none, Cond.methodLink RX4 100 Lib.Math.abs.name, Cond.static Lib.Math.abs.name, Cond.code Lib.Math.abs.name Lib.Math.abs.code 1 (some .int)]
def wsL_offer : List Cond := .codeWith yL_offer cL_offer 5 (some .int) [(0, 10, 13, 13)] :: ((wsL_offer_r1 ++ (wsL_offer_r2 ++ (wsL_offer_r3 ++ (wsL_offer_r4 ++ (wsL_offer_r5 ++ wsL_offer_r6))))) ++ wsX100 ++ wsX60 ++ wsX50 ++ wsX80 ++ wsX40 ++ (vx_atS RX10 255 "java/lang/IllegalArgumentException" ["java/lang/RuntimeException", "java/lang/Exception"]).filter goodWord)
def wsL_nearest : List Cond := .codeWith yL_nearest cL_nearest 5 (some .int) [(0, 10, 13, 13)] :: ([.classLink RL 13 "java/lang/IllegalArgumentException", .methodLink RL 60 yX10_nearest, .instanceMethod yX10_nearest, .selects RX10 yX10_nearest yX10_nearest, .initialized RX10, .code yX10_nearest cX10_nearest 4 (some .int), .fieldLink RX10 23 "HiredEnemy" "plan" "LHiredEnemy$Plan;", .methodLink RX10 107 yX10_within, .static yX10_within, .code yX10_within cX10_within 3 (some .boolean), .methodLink RX10 81 yX10_demand, .instanceMethod yX10_demand, .selects RX10 yX10_demand yX10_demand, .code yX10_demand cX10_demand 2 none, .classLink RX10 251 "java/lang/IllegalArgumentException", .initialized "java/lang/IllegalArgumentException", .fieldLink RX10 61 "HiredEnemy" "refused" "[I", .methodLink RX10 133 yX6_wanted, .instanceMethod yX6_wanted, .selects RX6 yX6_wanted yX6_wanted, .initialized RX6, .code yX6_wanted cX6_wanted 3 (some .int), .fieldLink RX6 15 "HiredEnemy$Plan" "said" "[I"] ++ wsX100 ++ wsX60 ++ (vx_atS RX10 255 "java/lang/IllegalArgumentException" ["java/lang/RuntimeException", "java/lang/Exception"]).filter goodWord)
def wsL_stop_r1 : List Cond := [Cond.classLink RL 13 "java/lang/IllegalArgumentException", Cond.methodLink RL 63 yX10_stop, Cond.instanceMethod yX10_stop, Cond.selects RX10 yX10_stop yX10_stop, Cond.initialized RX10, Cond.code yX10_stop cX10_stop 6 (some .int), Cond.fieldLink RX10 50 "HiredEnemy" "trial" "LHiredEnemy$Course;", Cond.fieldLink RX10 39 "HiredEnemy" "scene" "LHiredEnemy$Scene;", Cond.fieldLink RX10 66 "HiredEnemy$Scene" "course" "LHiredEnemy$Course;", Cond.fieldLink RX10 111 "HiredEnemy$Course" "now" "[I", Cond.methodLink RX10 107 yX10_within, Cond.static yX10_within, Cond.code yX10_within cX10_within 3 (some .boolean), Cond.methodLink RX10 81 yX10_demand, Cond.instanceMethod yX10_demand, Cond.selects RX10 yX10_demand yX10_demand, Cond.code yX10_demand cX10_demand 2 none, Cond.classLink RX10 251 "java/lang/IllegalArgumentException", Cond.initialized "java/lang/IllegalArgumentException", Cond.fieldLink RX10 61 "HiredEnemy" "refused" "[I", Cond.methodLink RX10 183 yX4_take, Cond.instanceMethod yX4_take, Cond.selects RX4 yX4_take yX4_take, Cond.initialized RX4]
def wsL_stop_r2 : List Cond := [Cond.code yX4_take cX4_take 2 none, Cond.fieldLink RX4 9 "HiredEnemy$Course" "now" "[I", Cond.methodLink RX4 39 arraycopyName, Cond.native arraycopyName, Cond.static arraycopyName, Cond.initialized "java/lang/System", Cond.fieldLink RX4 18 "HiredEnemy$Course" "month" "I", Cond.methodLink RX10 186 yX10_passTried, Cond.instanceMethod yX10_passTried, Cond.selects RX10 yX10_passTried yX10_passTried, Cond.code yX10_passTried cX10_passTried 3 none, Cond.fieldLink RX10 114 "HiredEnemy$Course" "month" "I", Cond.fieldLink RX10 23 "HiredEnemy" "plan" "LHiredEnemy$Plan;", Cond.methodLink RX10 153 yX10_inForce, Cond.instanceMethod yX10_inForce, Cond.selects RX10 yX10_inForce yX10_inForce, Cond.code yX10_inForce cX10_inForce 3 (some (.object "HiredEnemy$Pact")), Cond.fieldLink RX10 32 "HiredEnemy" "pacts" "[LHiredEnemy$Pact;", Cond.methodLink RX10 157 yX4_pass, Cond.instanceMethod yX4_pass, Cond.selects RX4 yX4_pass yX4_pass, Cond.code yX4_pass cX4_pass 3 none, Cond.fieldLink RX4 15 "HiredEnemy$Course" "shot" "[I", Cond.fieldLink RX4 28 "HiredEnemy$Plan" "said" "[I"]
def wsL_stop_r3 : List Cond := [Cond.fieldLink RX4 57 "HiredEnemy$Pact" "said" "[I", Cond.methodLink RX4 68 Lib.Math.max.name, Cond.static Lib.Math.max.name, Cond.initialized "java/lang/Math", Cond.code Lib.Math.max.name Lib.Math.max.code 2 (some .int), Cond.methodLink RX4 22 yJ7_fill_53178, Cond.static yJ7_fill_53178, Cond.initialized RJ7, Cond.code yJ7_fill_53178 cJ7_fill_53178 4 none, Cond.methodLink RX4 45 yX4_move, Cond.instanceMethod yX4_move, Cond.selects RX4 yX4_move yX4_move, Cond.code yX4_move cX4_move 5 none, Cond.methodLink RX4 81 Lib.Math.min.name, Cond.static Lib.Math.min.name, Cond.code Lib.Math.min.name Lib.Math.min.code 2 (some .int), Cond.methodLink RX4 49 yX4_isPaid, Cond.instanceMethod yX4_isPaid, Cond.selects RX4 yX4_isPaid yX4_isPaid, Cond.code yX4_isPaid cX4_isPaid 3 (some .boolean), Cond.methodLink RX4 84 yX5_payIn, Cond.instanceMethod yX5_payIn, Cond.selects RX5 yX5_payIn yX5_payIn, Cond.initialized RX5]
def wsL_stop_r4 : List Cond := [Cond.code yX5_payIn cX5_payIn 3 (some .int), Cond.fieldLink RX5 11 "HiredEnemy$Pact" "said" "[I", Cond.methodLink RX5 45 yX5_winterPay, Cond.instanceMethod yX5_winterPay, Cond.selects RX5 yX5_winterPay yX5_winterPay, Cond.code yX5_winterPay cX5_winterPay 1 (some .int), Cond.methodLink RX4 53 yX4_shoot, Cond.instanceMethod yX4_shoot, Cond.selects RX4 yX4_shoot yX4_shoot, Cond.code yX4_shoot cX4_shoot 9 none, Cond.fieldLink RX4 33 "HiredEnemy$Plan" "walls" "I", Cond.methodLink RX4 87 yX5_wallDue, Cond.instanceMethod yX5_wallDue, Cond.selects RX5 yX5_wallDue yX5_wallDue, Cond.code yX5_wallDue cX5_wallDue 4 (some .int), Cond.fieldLink RX5 15 "HiredEnemy$Pact" "wallByMonth" "[I", Cond.methodLink RX4 90 yX4_weakest, Cond.instanceMethod yX4_weakest, Cond.selects RX4 yX4_weakest yX4_weakest, Cond.code yX4_weakest cX4_weakest 4 (some .int), Cond.methodLink RX4 93 yX4_breach, Cond.instanceMethod yX4_breach, Cond.selects RX4 yX4_breach yX4_breach, Cond.code yX4_breach cX4_breach 4 none]
def wsL_stop_r5 : List Cond := [Cond.fieldLink RX4 36 "HiredEnemy$Plan" "strength" "[I", Cond.methodLink RX4 64 yX4_frighten, Cond.instanceMethod yX4_frighten, Cond.selects RX4 yX4_frighten yX4_frighten, Cond.code yX4_frighten cX4_frighten 2 none, Cond.methodLink RX4 60 yX6_fearAt, Cond.instanceMethod yX6_fearAt, Cond.selects RX6 yX6_fearAt yX6_fearAt, Cond.initialized RX6, Cond.code yX6_fearAt cX6_fearAt 2 (some .int), Cond.fieldLink RX6 18 "HiredEnemy$Plan" "fearByNear" "[I", Cond.methodLink RX4 74 yX4_mend, Cond.instanceMethod yX4_mend, Cond.selects RX4 yX4_mend yX4_mend, Cond.code yX4_mend cX4_mend 5 none, Cond.fieldLink RX4 97 "HiredEnemy$Plan" "mended" "[I", Cond.methodLink RX4 78 yX4_desert, Cond.instanceMethod yX4_desert, Cond.selects RX4 yX4_desert yX4_desert, Cond.code yX4_desert cX4_desert 5 none, Cond.methodLink RX4 100 Lib.Math.abs.name, Cond.static Lib.Math.abs.name, Cond.code Lib.Math.abs.name Lib.Math.abs.code 1 (some .int), Cond.methodLink RX10 140 yX4_pledge]
def wsL_stop_r6 : List Cond := [Cond.instanceMethod yX4_pledge, Cond.selects RX4 yX4_pledge yX4_pledge, Cond.code yX4_pledge cX4_pledge 2 none]
def wsL_stop : List Cond := .codeWith yL_stop cL_stop 5 (some .int) [(0, 10, 13, 13)] :: ((wsL_stop_r1 ++ (wsL_stop_r2 ++ (wsL_stop_r3 ++ (wsL_stop_r4 ++ (wsL_stop_r5 ++ wsL_stop_r6))))) ++ wsX100 ++ wsX80 ++ wsX40 ++ wsX60 ++ wsX50 ++ (vx_atS RX10 255 "java/lang/IllegalArgumentException" ["java/lang/RuntimeException", "java/lang/Exception"]).filter goodWord)
def wsL_odds_r1 : List Cond := [Cond.classLink RL 13 "java/lang/IllegalArgumentException", Cond.methodLink RL 66 yX10_odds, Cond.instanceMethod yX10_odds, Cond.selects RX10 yX10_odds yX10_odds, Cond.initialized RX10, Cond.code yX10_odds cX10_odds 3 none, Cond.fieldLink RX10 39 "HiredEnemy" "scene" "LHiredEnemy$Scene;", Cond.fieldLink RX10 189 "HiredEnemy$Scene" "belief" "LHiredEnemy$Belief;", Cond.methodLink RX10 107 yX10_within, Cond.static yX10_within, Cond.code yX10_within cX10_within 3 (some .boolean), Cond.methodLink RX10 81 yX10_demand, Cond.instanceMethod yX10_demand, Cond.selects RX10 yX10_demand yX10_demand, Cond.code yX10_demand cX10_demand 2 none, Cond.classLink RX10 251 "java/lang/IllegalArgumentException", Cond.initialized "java/lang/IllegalArgumentException", Cond.fieldLink RX10 61 "HiredEnemy" "refused" "[I", Cond.methodLink RX10 193 yX2_start, Cond.instanceMethod yX2_start, Cond.selects RX2 yX2_start yX2_start, Cond.initialized RX2, Cond.code yX2_start cX2_start 3 none, Cond.fieldLink RX2 16 "HiredEnemy$Belief" "firstReal" "I"]
def wsL_odds_r2 : List Cond := [Cond.fieldLink RX2 20 "HiredEnemy$Belief" "firstHired" "I", Cond.methodLink RX2 30 yX2_forget, Cond.instanceMethod yX2_forget, Cond.selects RX2 yX2_forget yX2_forget, Cond.code yX2_forget cX2_forget 1 none, Cond.fieldLink RX2 23 "HiredEnemy$Belief" "real" "J", Cond.fieldLink RX2 27 "HiredEnemy$Belief" "hired" "J", Cond.fieldLink RX2 33 "HiredEnemy$Belief" "things" "I"]
def wsL_odds : List Cond := .codeWith yL_odds cL_odds 4 (some .int) [(0, 6, 9, 13)] :: ((wsL_odds_r1 ++ wsL_odds_r2) ++ wsX100 ++ wsX80 ++ wsX20 ++ (vx_atS RX10 255 "java/lang/IllegalArgumentException" ["java/lang/RuntimeException", "java/lang/Exception"]).filter goodWord)
def wsL_kind : List Cond := .codeWith yL_kind cL_kind 5 (some .int) [(0, 7, 10, 13)] :: ([.classLink RL 13 "java/lang/IllegalArgumentException", .methodLink RL 70 yX10_kind, .instanceMethod yX10_kind, .selects RX10 yX10_kind yX10_kind, .initialized RX10, .code yX10_kind cX10_kind 4 none, .fieldLink RX10 39 "HiredEnemy" "scene" "LHiredEnemy$Scene;", .fieldLink RX10 189 "HiredEnemy$Scene" "belief" "LHiredEnemy$Belief;", .fieldLink RX10 199 "HiredEnemy$Belief" "ifReal" "[I", .fieldLink RX10 202 "HiredEnemy$Belief" "ifHired" "[I", .methodLink RX10 107 yX10_within, .static yX10_within, .code yX10_within cX10_within 3 (some .boolean), .methodLink RX10 81 yX10_demand, .instanceMethod yX10_demand, .selects RX10 yX10_demand yX10_demand, .code yX10_demand cX10_demand 2 none, .classLink RX10 251 "java/lang/IllegalArgumentException", .initialized "java/lang/IllegalArgumentException", .fieldLink RX10 61 "HiredEnemy" "refused" "[I"] ++ wsX100 ++ wsX80 ++ wsX20 ++ (vx_atS RX10 255 "java/lang/IllegalArgumentException" ["java/lang/RuntimeException", "java/lang/Exception"]).filter goodWord)
def wsL_seen_r1 : List Cond := [Cond.classLink RL 13 "java/lang/IllegalArgumentException", Cond.methodLink RL 74 yX10_seen, Cond.instanceMethod yX10_seen, Cond.selects RX10 yX10_seen yX10_seen, Cond.initialized RX10, Cond.code yX10_seen cX10_seen 3 (some .int), Cond.fieldLink RX10 39 "HiredEnemy" "scene" "LHiredEnemy$Scene;", Cond.fieldLink RX10 189 "HiredEnemy$Scene" "belief" "LHiredEnemy$Belief;", Cond.fieldLink RX10 199 "HiredEnemy$Belief" "ifReal" "[I", Cond.fieldLink RX10 202 "HiredEnemy$Belief" "ifHired" "[I", Cond.methodLink RX10 107 yX10_within, Cond.static yX10_within, Cond.code yX10_within cX10_within 3 (some .boolean), Cond.methodLink RX10 81 yX10_demand, Cond.instanceMethod yX10_demand, Cond.selects RX10 yX10_demand yX10_demand, Cond.code yX10_demand cX10_demand 2 none, Cond.classLink RX10 251 "java/lang/IllegalArgumentException", Cond.initialized "java/lang/IllegalArgumentException", Cond.fieldLink RX10 61 "HiredEnemy" "refused" "[I", Cond.methodLink RX10 205 yX2_add, Cond.instanceMethod yX2_add, Cond.selects RX2 yX2_add yX2_add, Cond.initialized RX2]
def wsL_seen_r2 : List Cond := [Cond.code yX2_add cX2_add 3 (some .int), Cond.fieldLink RX2 33 "HiredEnemy$Belief" "things" "I", Cond.fieldLink RX2 23 "HiredEnemy$Belief" "real" "J", Cond.fieldLink RX2 27 "HiredEnemy$Belief" "hired" "J"]
def wsL_seen : List Cond := .codeWith yL_seen cL_seen 4 (some .int) [(0, 9, 12, 13)] :: ((wsL_seen_r1 ++ wsL_seen_r2) ++ wsX100 ++ wsX80 ++ wsX20 ++ (vx_atS RX10 255 "java/lang/IllegalArgumentException" ["java/lang/RuntimeException", "java/lang/Exception"]).filter goodWord)
def wsL_spy_r1 : List Cond := [Cond.classLink RL 13 "java/lang/IllegalArgumentException", Cond.methodLink RL 77 yX10_spy, Cond.instanceMethod yX10_spy, Cond.selects RX10 yX10_spy yX10_spy, Cond.initialized RX10, Cond.code yX10_spy cX10_spy 4 (some .int), Cond.fieldLink RX10 39 "HiredEnemy" "scene" "LHiredEnemy$Scene;", Cond.fieldLink RX10 189 "HiredEnemy$Scene" "belief" "LHiredEnemy$Belief;", Cond.methodLink RX10 107 yX10_within, Cond.static yX10_within, Cond.code yX10_within cX10_within 3 (some .boolean), Cond.methodLink RX10 81 yX10_demand, Cond.instanceMethod yX10_demand, Cond.selects RX10 yX10_demand yX10_demand, Cond.code yX10_demand cX10_demand 2 none, Cond.classLink RX10 251 "java/lang/IllegalArgumentException", Cond.initialized "java/lang/IllegalArgumentException", Cond.fieldLink RX10 61 "HiredEnemy" "refused" "[I", Cond.methodLink RX10 205 yX2_add, Cond.instanceMethod yX2_add, Cond.selects RX2 yX2_add yX2_add, Cond.initialized RX2, Cond.code yX2_add cX2_add 3 (some .int), Cond.fieldLink RX2 33 "HiredEnemy$Belief" "things" "I"]
def wsL_spy_r2 : List Cond := [Cond.fieldLink RX2 23 "HiredEnemy$Belief" "real" "J", Cond.fieldLink RX2 27 "HiredEnemy$Belief" "hired" "J"]
def wsL_spy : List Cond := .codeWith yL_spy cL_spy 5 (some .int) [(0, 10, 13, 13)] :: ((wsL_spy_r1 ++ wsL_spy_r2) ++ wsX100 ++ wsX80 ++ wsX20 ++ (vx_atS RX10 255 "java/lang/IllegalArgumentException" ["java/lang/RuntimeException", "java/lang/Exception"]).filter goodWord)
def wsL_believed_r1 : List Cond := [Cond.classLink RL 13 "java/lang/IllegalArgumentException", Cond.methodLink RL 81 yX10_believed, Cond.instanceMethod yX10_believed, Cond.selects RX10 yX10_believed yX10_believed, Cond.initialized RX10, Cond.code yX10_believed cX10_believed 2 (some .long), Cond.fieldLink RX10 39 "HiredEnemy" "scene" "LHiredEnemy$Scene;", Cond.fieldLink RX10 189 "HiredEnemy$Scene" "belief" "LHiredEnemy$Belief;", Cond.methodLink RX10 107 yX10_within, Cond.static yX10_within, Cond.code yX10_within cX10_within 3 (some .boolean), Cond.methodLink RX10 81 yX10_demand, Cond.instanceMethod yX10_demand, Cond.selects RX10 yX10_demand yX10_demand, Cond.code yX10_demand cX10_demand 2 none, Cond.classLink RX10 251 "java/lang/IllegalArgumentException", Cond.initialized "java/lang/IllegalArgumentException", Cond.fieldLink RX10 61 "HiredEnemy" "refused" "[I", Cond.methodLink RX10 208 yX2_leastTerm, Cond.instanceMethod yX2_leastTerm, Cond.selects RX2 yX2_leastTerm yX2_leastTerm, Cond.initialized RX2, Cond.code yX2_leastTerm cX2_leastTerm 9 (some .long), Cond.fieldLink RX2 23 "HiredEnemy$Belief" "real" "J"]
def wsL_believed_r2 : List Cond := [Cond.fieldLink RX2 27 "HiredEnemy$Belief" "hired" "J"]
def wsL_believed : List Cond := .codeWith yL_believed cL_believed 4 (some .int) [(0, 8, 11, 13)] :: ((wsL_believed_r1 ++ wsL_believed_r2) ++ wsX100 ++ wsX80 ++ wsX20 ++ (vx_atS RX10 255 "java/lang/IllegalArgumentException" ["java/lang/RuntimeException", "java/lang/Exception"]).filter goodWord)
def wsL_earnest_r1 : List Cond := [Cond.classLink RL 13 "java/lang/IllegalArgumentException", Cond.methodLink RL 85 yX10_earnest, Cond.instanceMethod yX10_earnest, Cond.selects RX10 yX10_earnest yX10_earnest, Cond.initialized RX10, Cond.code yX10_earnest cX10_earnest 4 (some .int), Cond.fieldLink RX10 57 "HiredEnemy" "battle" "LHiredEnemy$Battle;", Cond.fieldLink RX10 23 "HiredEnemy" "plan" "LHiredEnemy$Plan;", Cond.methodLink RX10 107 yX10_within, Cond.static yX10_within, Cond.code yX10_within cX10_within 3 (some .boolean), Cond.methodLink RX10 81 yX10_demand, Cond.instanceMethod yX10_demand, Cond.selects RX10 yX10_demand yX10_demand, Cond.code yX10_demand cX10_demand 2 none, Cond.classLink RX10 251 "java/lang/IllegalArgumentException", Cond.initialized "java/lang/IllegalArgumentException", Cond.fieldLink RX10 61 "HiredEnemy" "refused" "[I", Cond.methodLink RX10 212 yX1_prepare, Cond.instanceMethod yX1_prepare, Cond.selects RX1 yX1_prepare yX1_prepare, Cond.initialized RX1, Cond.code yX1_prepare cX1_prepare 3 none, Cond.fieldLink RX1 21 "HiredEnemy$Plan" "walls" "I"]
def wsL_earnest_r2 : List Cond := [Cond.methodLink RX1 27 Lib.Math.min.name, Cond.static Lib.Math.min.name, Cond.initialized "java/lang/Math", Cond.code Lib.Math.min.name Lib.Math.min.code 2 (some .int), Cond.fieldLink RX1 33 "HiredEnemy$Battle" "walls" "I", Cond.fieldLink RX1 11 "HiredEnemy$Battle" "worth" "[I", Cond.fieldLink RX1 34 "HiredEnemy$Plan" "strength" "[I", Cond.fieldLink RX1 15 "HiredEnemy$Battle" "held" "[I", Cond.methodLink RX10 215 yX1_all, Cond.instanceMethod yX1_all, Cond.selects RX1 yX1_all yX1_all, Cond.code yX1_all cX1_all 1 (some .int), Cond.methodLink RX10 219 yX1_safe, Cond.instanceMethod yX1_safe, Cond.selects RX1 yX1_safe yX1_safe, Cond.code yX1_safe cX1_safe 8 (some .int), Cond.fieldLink RX1 37 "HiredEnemy$Battle" "safeDigits" "I", Cond.methodLink RX1 51 Lib.Math.max.name, Cond.static Lib.Math.max.name, Cond.code Lib.Math.max.name Lib.Math.max.code 2 (some .int), Cond.methodLink RX1 40 yX1_place, Cond.instanceMethod yX1_place, Cond.selects RX1 yX1_place yX1_place, Cond.code yX1_place cX1_place 6 (some .boolean)]
def wsL_earnest_r3 : List Cond := [Cond.fieldLink RX1 18 "HiredEnemy$Battle" "put" "[I", Cond.methodLink RX1 44 yX1_mostFelled, Cond.instanceMethod yX1_mostFelled, Cond.selects RX1 yX1_mostFelled yX1_mostFelled, Cond.code yX1_mostFelled cX1_mostFelled 5 (some .int), Cond.methodLink RX1 61 yX1_menToFell, Cond.instanceMethod yX1_menToFell, Cond.selects RX1 yX1_menToFell yX1_menToFell, Cond.code yX1_menToFell cX1_menToFell 4 (some .int), Cond.methodLink RX1 64 yX1_worthOf, Cond.instanceMethod yX1_worthOf, Cond.selects RX1 yX1_worthOf yX1_worthOf, Cond.code yX1_worthOf cX1_worthOf 4 (some .int), Cond.methodLink RX1 47 yX1_digits, Cond.instanceMethod yX1_digits, Cond.selects RX1 yX1_digits yX1_digits, Cond.code yX1_digits cX1_digits 3 (some .int), Cond.methodLink RX10 223 yX1_sure, Cond.instanceMethod yX1_sure, Cond.selects RX1 yX1_sure yX1_sure, Cond.code yX1_sure cX1_sure 6 (some .int), Cond.methodLink RX1 54 yX1_all, Cond.methodLink RX1 57 yX1_leastFelled, Cond.instanceMethod yX1_leastFelled]
def wsL_earnest_r4 : List Cond := [Cond.selects RX1 yX1_leastFelled yX1_leastFelled, Cond.code yX1_leastFelled cX1_leastFelled 4 (some .int), Cond.methodLink RX1 67 yX1_menToHold, Cond.instanceMethod yX1_menToHold, Cond.selects RX1 yX1_menToHold yX1_menToHold, Cond.code yX1_menToHold cX1_menToHold 4 (some .int)]
def wsL_earnest : List Cond := .codeWith yL_earnest cL_earnest 6 (some .int) [(0, 12, 15, 13)] :: ((wsL_earnest_r1 ++ (wsL_earnest_r2 ++ (wsL_earnest_r3 ++ wsL_earnest_r4))) ++ wsX100 ++ wsX60 ++ wsX10 ++ (vx_atS RX10 255 "java/lang/IllegalArgumentException" ["java/lang/RuntimeException", "java/lang/Exception"]).filter goodWord)
def wsL_stands_r1 : List Cond := [Cond.classLink RL 13 "java/lang/IllegalArgumentException", Cond.methodLink RL 88 yX10_stands, Cond.instanceMethod yX10_stands, Cond.selects RX10 yX10_stands yX10_stands, Cond.initialized RX10, Cond.code yX10_stands cX10_stands 3 (some .int), Cond.fieldLink RX10 57 "HiredEnemy" "battle" "LHiredEnemy$Battle;", Cond.fieldLink RX10 23 "HiredEnemy" "plan" "LHiredEnemy$Plan;", Cond.fieldLink RX10 226 "HiredEnemy$Battle" "safeDigits" "I", Cond.methodLink RX10 107 yX10_within, Cond.static yX10_within, Cond.code yX10_within cX10_within 3 (some .boolean), Cond.methodLink RX10 81 yX10_demand, Cond.instanceMethod yX10_demand, Cond.selects RX10 yX10_demand yX10_demand, Cond.code yX10_demand cX10_demand 2 none, Cond.classLink RX10 251 "java/lang/IllegalArgumentException", Cond.initialized "java/lang/IllegalArgumentException", Cond.fieldLink RX10 61 "HiredEnemy" "refused" "[I", Cond.methodLink RX10 212 yX1_prepare, Cond.instanceMethod yX1_prepare, Cond.selects RX1 yX1_prepare yX1_prepare, Cond.initialized RX1, Cond.code yX1_prepare cX1_prepare 3 none]
def wsL_stands_r2 : List Cond := [Cond.fieldLink RX1 21 "HiredEnemy$Plan" "walls" "I", Cond.methodLink RX1 27 Lib.Math.min.name, Cond.static Lib.Math.min.name, Cond.initialized "java/lang/Math", Cond.code Lib.Math.min.name Lib.Math.min.code 2 (some .int), Cond.fieldLink RX1 33 "HiredEnemy$Battle" "walls" "I", Cond.fieldLink RX1 11 "HiredEnemy$Battle" "worth" "[I", Cond.fieldLink RX1 34 "HiredEnemy$Plan" "strength" "[I", Cond.fieldLink RX1 15 "HiredEnemy$Battle" "held" "[I", Cond.methodLink RX10 215 yX1_all, Cond.instanceMethod yX1_all, Cond.selects RX1 yX1_all yX1_all, Cond.code yX1_all cX1_all 1 (some .int), Cond.methodLink RX10 219 yX1_safe, Cond.instanceMethod yX1_safe, Cond.selects RX1 yX1_safe yX1_safe, Cond.code yX1_safe cX1_safe 8 (some .int), Cond.fieldLink RX1 37 "HiredEnemy$Battle" "safeDigits" "I", Cond.methodLink RX1 51 Lib.Math.max.name, Cond.static Lib.Math.max.name, Cond.code Lib.Math.max.name Lib.Math.max.code 2 (some .int), Cond.methodLink RX1 40 yX1_place, Cond.instanceMethod yX1_place, Cond.selects RX1 yX1_place yX1_place]
def wsL_stands_r3 : List Cond := [Cond.code yX1_place cX1_place 6 (some .boolean), Cond.fieldLink RX1 18 "HiredEnemy$Battle" "put" "[I", Cond.methodLink RX1 44 yX1_mostFelled, Cond.instanceMethod yX1_mostFelled, Cond.selects RX1 yX1_mostFelled yX1_mostFelled, Cond.code yX1_mostFelled cX1_mostFelled 5 (some .int), Cond.methodLink RX1 61 yX1_menToFell, Cond.instanceMethod yX1_menToFell, Cond.selects RX1 yX1_menToFell yX1_menToFell, Cond.code yX1_menToFell cX1_menToFell 4 (some .int), Cond.methodLink RX1 64 yX1_worthOf, Cond.instanceMethod yX1_worthOf, Cond.selects RX1 yX1_worthOf yX1_worthOf, Cond.code yX1_worthOf cX1_worthOf 4 (some .int), Cond.methodLink RX1 47 yX1_digits, Cond.instanceMethod yX1_digits, Cond.selects RX1 yX1_digits yX1_digits, Cond.code yX1_digits cX1_digits 3 (some .int)]
def wsL_stands : List Cond := .codeWith yL_stands cL_stands 5 (some .int) [(0, 10, 13, 13)] :: ((wsL_stands_r1 ++ (wsL_stands_r2 ++ wsL_stands_r3)) ++ wsX100 ++ wsX10 ++ wsX60 ++ (vx_atS RX10 255 "java/lang/IllegalArgumentException" ["java/lang/RuntimeException", "java/lang/Exception"]).filter goodWord)
def wsL_show_r1 : List Cond := [Cond.classLink RL 13 "java/lang/IllegalArgumentException", Cond.methodLink RL 91 yX10_show, Cond.instanceMethod yX10_show, Cond.selects RX10 yX10_show yX10_show, Cond.initialized RX10, Cond.code yX10_show cX10_show 7 (some .int), Cond.fieldLink RX10 57 "HiredEnemy" "battle" "LHiredEnemy$Battle;", Cond.fieldLink RX10 23 "HiredEnemy" "plan" "LHiredEnemy$Plan;", Cond.fieldLink RX10 229 "HiredEnemy$Battle" "walls" "I", Cond.methodLink RX10 107 yX10_within, Cond.static yX10_within, Cond.code yX10_within cX10_within 3 (some .boolean), Cond.methodLink RX10 81 yX10_demand, Cond.instanceMethod yX10_demand, Cond.selects RX10 yX10_demand yX10_demand, Cond.code yX10_demand cX10_demand 2 none, Cond.classLink RX10 251 "java/lang/IllegalArgumentException", Cond.initialized "java/lang/IllegalArgumentException", Cond.fieldLink RX10 61 "HiredEnemy" "refused" "[I", Cond.methodLink RX10 212 yX1_prepare, Cond.instanceMethod yX1_prepare, Cond.selects RX1 yX1_prepare yX1_prepare, Cond.initialized RX1, Cond.code yX1_prepare cX1_prepare 3 none]
def wsL_show_r2 : List Cond := [Cond.fieldLink RX1 21 "HiredEnemy$Plan" "walls" "I", Cond.methodLink RX1 27 Lib.Math.min.name, Cond.static Lib.Math.min.name, Cond.initialized "java/lang/Math", Cond.code Lib.Math.min.name Lib.Math.min.code 2 (some .int), Cond.fieldLink RX1 33 "HiredEnemy$Battle" "walls" "I", Cond.fieldLink RX1 11 "HiredEnemy$Battle" "worth" "[I", Cond.fieldLink RX1 34 "HiredEnemy$Plan" "strength" "[I", Cond.fieldLink RX1 15 "HiredEnemy$Battle" "held" "[I", Cond.methodLink RX10 215 yX1_all, Cond.instanceMethod yX1_all, Cond.selects RX1 yX1_all yX1_all, Cond.code yX1_all cX1_all 1 (some .int), Cond.methodLink RX10 219 yX1_safe, Cond.instanceMethod yX1_safe, Cond.selects RX1 yX1_safe yX1_safe, Cond.code yX1_safe cX1_safe 8 (some .int), Cond.fieldLink RX1 37 "HiredEnemy$Battle" "safeDigits" "I", Cond.methodLink RX1 51 Lib.Math.max.name, Cond.static Lib.Math.max.name, Cond.code Lib.Math.max.name Lib.Math.max.code 2 (some .int), Cond.methodLink RX1 40 yX1_place, Cond.instanceMethod yX1_place, Cond.selects RX1 yX1_place yX1_place]
def wsL_show_r3 : List Cond := [Cond.code yX1_place cX1_place 6 (some .boolean), Cond.fieldLink RX1 18 "HiredEnemy$Battle" "put" "[I", Cond.methodLink RX1 44 yX1_mostFelled, Cond.instanceMethod yX1_mostFelled, Cond.selects RX1 yX1_mostFelled yX1_mostFelled, Cond.code yX1_mostFelled cX1_mostFelled 5 (some .int), Cond.methodLink RX1 61 yX1_menToFell, Cond.instanceMethod yX1_menToFell, Cond.selects RX1 yX1_menToFell yX1_menToFell, Cond.code yX1_menToFell cX1_menToFell 4 (some .int), Cond.methodLink RX1 64 yX1_worthOf, Cond.instanceMethod yX1_worthOf, Cond.selects RX1 yX1_worthOf yX1_worthOf, Cond.code yX1_worthOf cX1_worthOf 4 (some .int), Cond.methodLink RX1 47 yX1_digits, Cond.instanceMethod yX1_digits, Cond.selects RX1 yX1_digits yX1_digits, Cond.code yX1_digits cX1_digits 3 (some .int)]
def wsL_show : List Cond := .codeWith yL_show cL_show 5 (some .int) [(0, 10, 13, 13)] :: ((wsL_show_r1 ++ (wsL_show_r2 ++ wsL_show_r3)) ++ wsX100 ++ wsX10 ++ wsX60 ++ (vx_atS RX10 255 "java/lang/IllegalArgumentException" ["java/lang/RuntimeException", "java/lang/Exception"]).filter goodWord)
def wsL_offers : List Cond := .codeWith yL_offers cL_offers 6 (some .int) [(0, 12, 15, 13)] :: ([.classLink RL 13 "java/lang/IllegalArgumentException", .methodLink RL 94 yX10_offers, .instanceMethod yX10_offers, .selects RX10 yX10_offers yX10_offers, .initialized RX10, .code yX10_offers cX10_offers 4 (some .int), .fieldLink RX10 39 "HiredEnemy" "scene" "LHiredEnemy$Scene;", .fieldLink RX10 232 "HiredEnemy$Scene" "bids" "LHiredEnemy$Bids;", .methodLink RX10 107 yX10_within, .static yX10_within, .code yX10_within cX10_within 3 (some .boolean), .methodLink RX10 81 yX10_demand, .instanceMethod yX10_demand, .selects RX10 yX10_demand yX10_demand, .code yX10_demand cX10_demand 2 none, .classLink RX10 251 "java/lang/IllegalArgumentException", .initialized "java/lang/IllegalArgumentException", .fieldLink RX10 61 "HiredEnemy" "refused" "[I", .methodLink RX10 236 yX3_bid, .instanceMethod yX3_bid, .selects RX3 yX3_bid yX3_bid, .initialized RX3, .code yX3_bid cX3_bid 6 (some .int), .fieldLink RX3 9 "HiredEnemy$Bids" "coins" "[I"] ++ wsX100 ++ wsX80 ++ wsX30 ++ (vx_atS RX10 255 "java/lang/IllegalArgumentException" ["java/lang/RuntimeException", "java/lang/Exception"]).filter goodWord)
def wsL_serves_r1 : List Cond := [Cond.classLink RL 13 "java/lang/IllegalArgumentException", Cond.methodLink RL 97 yX10_serves, Cond.instanceMethod yX10_serves, Cond.selects RX10 yX10_serves yX10_serves, Cond.initialized RX10, Cond.code yX10_serves cX10_serves 2 (some .int), Cond.fieldLink RX10 39 "HiredEnemy" "scene" "LHiredEnemy$Scene;", Cond.fieldLink RX10 232 "HiredEnemy$Scene" "bids" "LHiredEnemy$Bids;", Cond.methodLink RX10 107 yX10_within, Cond.static yX10_within, Cond.code yX10_within cX10_within 3 (some .boolean), Cond.methodLink RX10 81 yX10_demand, Cond.instanceMethod yX10_demand, Cond.selects RX10 yX10_demand yX10_demand, Cond.code yX10_demand cX10_demand 2 none, Cond.classLink RX10 251 "java/lang/IllegalArgumentException", Cond.initialized "java/lang/IllegalArgumentException", Cond.fieldLink RX10 61 "HiredEnemy" "refused" "[I", Cond.methodLink RX10 242 yX3_served, Cond.instanceMethod yX3_served, Cond.selects RX3 yX3_served yX3_served, Cond.initialized RX3, Cond.code yX3_served cX3_served 4 (some .int), Cond.methodLink RX3 38 yX3_mostCoin]
def wsL_serves_r2 : List Cond := [Cond.instanceMethod yX3_mostCoin, Cond.selects RX3 yX3_mostCoin yX3_mostCoin, Cond.code yX3_mostCoin cX3_mostCoin 3 (some .int), Cond.fieldLink RX3 13 "HiredEnemy$Bids" "rest" "[I", Cond.methodLink RX3 22 yX3_mostFrom, Cond.instanceMethod yX3_mostFrom, Cond.selects RX3 yX3_mostFrom yX3_mostFrom, Cond.code yX3_mostFrom cX3_mostFrom 5 (some .int), Cond.methodLink RX3 33 Lib.Math.max.name, Cond.static Lib.Math.max.name, Cond.initialized "java/lang/Math", Cond.code Lib.Math.max.name Lib.Math.max.code 2 (some .int), Cond.methodLink RX3 26 yX3_mayFollow, Cond.static yX3_mayFollow, Cond.code yX3_mayFollow cX3_mayFollow 2 (some .boolean), Cond.methodLink RX3 30 yX3_through, Cond.instanceMethod yX3_through, Cond.selects RX3 yX3_through yX3_through, Cond.code yX3_through cX3_through 3 (some .int), Cond.fieldLink RX3 9 "HiredEnemy$Bids" "coins" "[I", Cond.methodLink RX3 42 yX3_firstWay, Cond.instanceMethod yX3_firstWay, Cond.selects RX3 yX3_firstWay yX3_firstWay, Cond.code yX3_firstWay cX3_firstWay 4 (some .int)]
def wsL_serves : List Cond := .codeWith yL_serves cL_serves 4 (some .int) [(0, 9, 12, 13)] :: ((wsL_serves_r1 ++ wsL_serves_r2) ++ wsX100 ++ wsX80 ++ wsX30 ++ (vx_atS RX10 255 "java/lang/IllegalArgumentException" ["java/lang/RuntimeException", "java/lang/Exception"]).filter goodWord)
def wsL_law0_r1 : List Cond := [Cond.classLink RL 8 RX10, Cond.instantiable RX10 13, Cond.initialized RX10, Cond.classLink RL 101 RX11, Cond.instantiable RX11 35, Cond.initialized RX11, Cond.arrayClass .long, Cond.methodLink RL 100 yX10_init, Cond.instanceMethod yX10_init, Cond.code yX10_init cX10_init 2 none, Cond.methodLink RX10 3 objectInit, Cond.instanceMethod objectInit, Cond.code objectInit ⟨#[0xb1]⟩ 1 none, Cond.arrayClass .byte, Cond.fieldLink RX10 9 "HiredEnemy" "tape" "[B", Cond.classLink RX10 13 RX7, Cond.instantiable RX7 6, Cond.initialized RX7, Cond.fieldLink RX10 16 "HiredEnemy" "reader" "LHiredEnemy$Reader;", Cond.classLink RX10 20 RX6, Cond.instantiable RX6 5, Cond.initialized RX6, Cond.fieldLink RX10 23 "HiredEnemy" "plan" "LHiredEnemy$Plan;", Cond.fieldLink RX10 27 "HiredEnemy" "draft" "LHiredEnemy$Plan;"]
def wsL_law0_r2 : List Cond := [Cond.classLink RX10 30 RX5, Cond.fieldLink RX10 32 "HiredEnemy" "pacts" "[LHiredEnemy$Pact;", Cond.classLink RX10 36 RX8, Cond.instantiable RX8 4, Cond.initialized RX8, Cond.fieldLink RX10 39 "HiredEnemy" "scene" "LHiredEnemy$Scene;", Cond.fieldLink RX10 43 "HiredEnemy" "images" "[LHiredEnemy$Scene;", Cond.classLink RX10 47 RX4, Cond.instantiable RX4 3, Cond.initialized RX4, Cond.fieldLink RX10 50 "HiredEnemy" "trial" "LHiredEnemy$Course;", Cond.classLink RX10 54 RX1, Cond.instantiable RX1 5, Cond.initialized RX1, Cond.fieldLink RX10 57 "HiredEnemy" "battle" "LHiredEnemy$Battle;", Cond.arrayClass .int, Cond.fieldLink RX10 61 "HiredEnemy" "refused" "[I", Cond.instantiable RX5 3, Cond.initialized RX5, Cond.fieldLink RX10 66 "HiredEnemy$Scene" "course" "LHiredEnemy$Course;", Cond.instanceMethod yX7_init, Cond.code yX7_init cX7_init 1 none, Cond.methodLink RX7 3 objectInit, Cond.fieldLink RX7 9 "HiredEnemy$Reader" "bytes" "[B"]
def wsL_law0_r3 : List Cond := [Cond.fieldLink RX7 15 "HiredEnemy$Reader" "place" "I", Cond.fieldLink RX7 19 "HiredEnemy$Reader" "numbers" "[I", Cond.methodLink RX10 22 yX6_init, Cond.instanceMethod yX6_init, Cond.code yX6_init cX6_init 1 none, Cond.fieldLink RX6 9 "HiredEnemy$Plan" "UNTOLD" "[I", Cond.fieldLink RX6 15 "HiredEnemy$Plan" "said" "[I", Cond.fieldLink RX6 18 "HiredEnemy$Plan" "fearByNear" "[I", Cond.fieldLink RX6 21 "HiredEnemy$Plan" "strength" "[I", Cond.fieldLink RX6 24 "HiredEnemy$Plan" "mended" "[I", Cond.instanceMethod yX9_init, Cond.initialized RX9, Cond.code yX9_init cX9_init 1 none, Cond.methodLink RX9 1 objectInit, Cond.methodLink RX6 27 yX6_clear, Cond.instanceMethod yX6_clear, Cond.selects RX6 yX6_clear yX6_clear, Cond.code yX6_clear cX6_clear 2 none, Cond.fieldLink RX6 30 "HiredEnemy$Plan" "walls" "I", Cond.instanceMethod yX8_init, Cond.code yX8_init cX8_init 1 none, Cond.methodLink RX8 1 objectInit, Cond.classLink RX8 7 RX4, Cond.fieldLink RX8 10 "HiredEnemy$Scene" "course" "LHiredEnemy$Course;"]
def wsL_law0_r4 : List Cond := [Cond.classLink RX8 16 RX0, Cond.instantiable RX0 1, Cond.initialized RX0, Cond.fieldLink RX8 19 "HiredEnemy$Scene" "annals" "LHiredEnemy$Annals;", Cond.classLink RX8 23 RX2, Cond.instantiable RX2 7, Cond.initialized RX2, Cond.fieldLink RX8 26 "HiredEnemy$Scene" "belief" "LHiredEnemy$Belief;", Cond.classLink RX8 30 RX3, Cond.instantiable RX3 2, Cond.initialized RX3, Cond.fieldLink RX8 33 "HiredEnemy$Scene" "bids" "LHiredEnemy$Bids;", Cond.instanceMethod yX4_init, Cond.code yX4_init cX4_init 1 none, Cond.methodLink RX4 3 objectInit, Cond.fieldLink RX4 9 "HiredEnemy$Course" "now" "[I", Cond.fieldLink RX4 15 "HiredEnemy$Course" "shot" "[I", Cond.instanceMethod yX0_init, Cond.code yX0_init cX0_init 1 none, Cond.methodLink RX0 3 objectInit, Cond.fieldLink RX0 11 "HiredEnemy$Annals" "lines" "[I", Cond.instanceMethod yX2_init, Cond.code yX2_init cX2_init 1 none, Cond.methodLink RX2 1 objectInit]
def wsL_law0_r5 : List Cond := [Cond.fieldLink RX2 7 "HiredEnemy$Belief" "ifReal" "[I", Cond.fieldLink RX2 13 "HiredEnemy$Belief" "ifHired" "[I", Cond.fieldLink RX2 16 "HiredEnemy$Belief" "firstReal" "I", Cond.fieldLink RX2 20 "HiredEnemy$Belief" "firstHired" "I", Cond.fieldLink RX2 23 "HiredEnemy$Belief" "real" "J", Cond.fieldLink RX2 27 "HiredEnemy$Belief" "hired" "J", Cond.instanceMethod yX3_init, Cond.code yX3_init cX3_init 1 none, Cond.methodLink RX3 1 objectInit, Cond.fieldLink RX3 9 "HiredEnemy$Bids" "coins" "[I", Cond.fieldLink RX3 13 "HiredEnemy$Bids" "rest" "[I", Cond.instanceMethod yX1_init, Cond.code yX1_init cX1_init 1 none, Cond.methodLink RX1 5 objectInit, Cond.fieldLink RX1 11 "HiredEnemy$Battle" "worth" "[I", Cond.fieldLink RX1 15 "HiredEnemy$Battle" "held" "[I", Cond.fieldLink RX1 18 "HiredEnemy$Battle" "put" "[I", Cond.instanceMethod yX5_init, Cond.code yX5_init cX5_init 1 none, Cond.fieldLink RX5 11 "HiredEnemy$Pact" "said" "[I", Cond.fieldLink RX5 15 "HiredEnemy$Pact" "wallByMonth" "[I", Cond.methodLink RX10 69 yX4_begin, Cond.instanceMethod yX4_begin, Cond.selects RX4 yX4_begin yX4_begin]
def wsL_law0_r6 : List Cond := [Cond.code yX4_begin cX4_begin 3 none, Cond.fieldLink RX4 18 "HiredEnemy$Course" "month" "I", Cond.fieldLink RX4 28 "HiredEnemy$Plan" "said" "[I", Cond.fieldLink RX4 33 "HiredEnemy$Plan" "walls" "I", Cond.fieldLink RX4 36 "HiredEnemy$Plan" "strength" "[I", Cond.methodLink RX4 22 yJ7_fill_53178, Cond.static yJ7_fill_53178, Cond.initialized RJ7, Cond.code yJ7_fill_53178 cJ7_fill_53178 4 none, Cond.methodLink RL 103 yX11_init, Cond.instanceMethod yX11_init, Cond.code yX11_init cX11_init 1 none, Cond.methodLink RX11 1 objectInit, Cond.fieldLink RX11 9 "HiredEnemyModel" "place" "I", Cond.fieldLink RX11 13 "HiredEnemyModel" "fed" "[I", Cond.fieldLink RX11 17 "HiredEnemyModel" "refused" "[I", Cond.fieldLink RX11 20 "HiredEnemyModel" "readTold" "[I", Cond.fieldLink RX11 23 "HiredEnemyModel" "told" "[I", Cond.classLink RX11 26 "[[I", Cond.fieldLink RX11 28 "HiredEnemyModel" "readWall" "[[I", Cond.fieldLink RX11 31 "HiredEnemyModel" "wall" "[[I", Cond.fieldLink RX11 34 "HiredEnemyModel" "readContract" "[I", Cond.fieldLink RX11 37 "HiredEnemyModel" "readBreach" "[I", Cond.fieldLink RX11 40 "HiredEnemyModel" "contract" "[[I"]
def wsL_law0_r7 : List Cond := [Cond.fieldLink RX11 43 "HiredEnemyModel" "breach" "[[I", Cond.fieldLink RX11 46 "HiredEnemyModel" "s" "[I", Cond.fieldLink RX11 49 "HiredEnemyModel" "aside" "[I", Cond.fieldLink RX11 52 "HiredEnemyModel" "gone" "[[I", Cond.fieldLink RX11 55 "HiredEnemyModel" "shot" "[[I", Cond.fieldLink RX11 58 "HiredEnemyModel" "oddsA" "I", Cond.fieldLink RX11 61 "HiredEnemyModel" "oddsB" "I", Cond.fieldLink RX11 64 "HiredEnemyModel" "kind" "[[I", Cond.fieldLink RX11 67 "HiredEnemyModel" "thing" "[[I", Cond.fieldLink RX11 70 "HiredEnemyModel" "offered" "[[I", Cond.fieldLink RX11 73 "HiredEnemyModel" "kept" "[[I", Cond.fieldLink RX11 76 "HiredEnemyModel" "rest" "[[I", Cond.methodLink RX11 79 yX11_tellsNothing, Cond.instanceMethod yX11_tellsNothing, Cond.selects RX11 yX11_tellsNothing yX11_tellsNothing, Cond.code yX11_tellsNothing cX11_tellsNothing 3 none, Cond.methodLink RX11 82 yX11_stands0, Cond.instanceMethod yX11_stands0, Cond.selects RX11 yX11_stands0 yX11_stands0, Cond.code yX11_stands0 cX11_stands0 3 none, Cond.fieldLink RX11 162 "HiredEnemyModel" "contracts" "I", Cond.fieldLink RX11 165 "HiredEnemyModel" "things" "I", Cond.fieldLink RX11 168 "HiredEnemyModel" "images" "I", Cond.methodLink RL 104 yX10_feed]
def wsL_law0_r8 : List Cond := [Cond.instanceMethod yX10_feed, Cond.selects RX10 yX10_feed yX10_feed, Cond.code yX10_feed cX10_feed 6 (some .int), Cond.fieldLink RX10 73 "HiredEnemy" "taped" "I", Cond.methodLink RX10 77 yX10_putOnTape, Cond.instanceMethod yX10_putOnTape, Cond.selects RX10 yX10_putOnTape yX10_putOnTape, Cond.code yX10_putOnTape cX10_putOnTape 3 none, Cond.methodLink RL 108 yX11_feed, Cond.instanceMethod yX11_feed, Cond.selects RX11 yX11_feed yX11_feed, Cond.code yX11_feed cX11_feed 8 (some .int), Cond.fieldLink RX11 85 "HiredEnemyModel" "thrown" "I", Cond.fieldLink RX11 88 "HiredEnemyModel" "tape" "I", Cond.methodLink RL 109 yL_siege, Cond.static yL_siege, Cond.initialized RL, Cond.codeWith yL_siege cL_siege 4 (some .int) [(0, 9, 12, 13)], Cond.classLink RL 13 "java/lang/IllegalArgumentException", Cond.methodLink RL 7 yX10_siege, Cond.instanceMethod yX10_siege, Cond.selects RX10 yX10_siege yX10_siege, Cond.code yX10_siege cX10_siege 4 (some .int), Cond.fieldLink RX10 92 "HiredEnemy" "pactsTold" "I"]
def wsL_law0_r9 : List Cond := [Cond.fieldLink RX10 95 "HiredEnemy" "imagesKept" "I", Cond.fieldLink RX10 99 "HiredEnemy$Plan" "walls" "I", Cond.methodLink RX10 81 yX10_demand, Cond.instanceMethod yX10_demand, Cond.selects RX10 yX10_demand yX10_demand, Cond.code yX10_demand cX10_demand 2 none, Cond.classLink RX10 251 "java/lang/IllegalArgumentException", Cond.initialized "java/lang/IllegalArgumentException", Cond.methodLink RX10 85 yX6_clear, Cond.methodLink RX10 88 yX7_read, Cond.instanceMethod yX7_read, Cond.selects RX7 yX7_read yX7_read, Cond.code yX7_read cX7_read 5 (some .int), Cond.methodLink RX7 23 Lib.Math.min.name, Cond.static Lib.Math.min.name, Cond.initialized "java/lang/Math", Cond.code Lib.Math.min.name Lib.Math.min.code 2 (some .int), Cond.fieldLink RX7 29 "HiredEnemy$Reader" "length" "I", Cond.fieldLink RX7 32 "HiredEnemy$Reader" "at" "I", Cond.fieldLink RX7 35 "HiredEnemy$Reader" "fault" "I", Cond.methodLink RX7 38 ⟨"HiredEnemy$Telling", "mostParts", "()I"⟩, Cond.sameMethod "HiredEnemy$Telling" "HiredEnemy$Telling" "mostParts" "()I", Cond.selects RX5 ⟨"HiredEnemy$Telling", "mostParts", "()I"⟩ yX5_mostParts, Cond.instanceMethod yX5_mostParts]
def wsL_law0_r10 : List Cond := [Cond.code yX5_mostParts cX5_mostParts 1 (some .int), Cond.selects RX6 ⟨"HiredEnemy$Telling", "mostParts", "()I"⟩ yX6_mostParts, Cond.instanceMethod yX6_mostParts, Cond.code yX6_mostParts cX6_mostParts 1 (some .int), Cond.methodLink RX7 44 yX7_skipBlanks, Cond.instanceMethod yX7_skipBlanks, Cond.selects RX7 yX7_skipBlanks yX7_skipBlanks, Cond.code yX7_skipBlanks cX7_skipBlanks 1 none, Cond.methodLink RX7 47 yX7_readPart, Cond.instanceMethod yX7_readPart, Cond.selects RX7 yX7_readPart yX7_readPart, Cond.code yX7_readPart cX7_readPart 7 (some .boolean), Cond.methodLink RX7 51 yX7_skipLetters, Cond.instanceMethod yX7_skipLetters, Cond.selects RX7 yX7_skipLetters yX7_skipLetters, Cond.code yX7_skipLetters cX7_skipLetters 1 none, Cond.methodLink RX7 54 ⟨"HiredEnemy$Telling", "words", "()Ljava/lang/String;"⟩, Cond.sameMethod "HiredEnemy$Telling" "HiredEnemy$Telling" "words" "()Ljava/lang/String;", Cond.selects RX5 ⟨"HiredEnemy$Telling", "words", "()Ljava/lang/String;"⟩ yX5_words, Cond.instanceMethod yX5_words, Cond.code yX5_words cX5_words 1 (some (.object "java/lang/String")), Cond.selects RX6 ⟨"HiredEnemy$Telling", "words", "()Ljava/lang/String;"⟩ yX6_words, Cond.instanceMethod yX6_words, Cond.code yX6_words cX6_words 1 (some (.object "java/lang/String"))]
def wsL_law0_r11 : List Cond := [Cond.methodLink RX7 58 yX7_kindOf, Cond.instanceMethod yX7_kindOf, Cond.selects RX7 yX7_kindOf yX7_kindOf, Cond.code yX7_kindOf cX7_kindOf 6 (some .int), Cond.methodLink RX7 91 yJ0_length_8abf5, Cond.instanceMethod yJ0_length_8abf5, Cond.selects RJ0 yJ0_length_8abf5 yJ0_length_8abf5, Cond.initialized RJ0, Cond.code yJ0_length_8abf5 cJ0_length_8abf5 1 (some .int), Cond.fieldLink RJ0 9 "java/lang/String" "value" "[B", Cond.methodLink RJ0 335 yJ0_coder_7d493, Cond.instanceMethod yJ0_coder_7d493, Cond.selects RJ0 yJ0_coder_7d493 yJ0_coder_7d493, Cond.code yJ0_coder_7d493 cJ0_coder_7d493 1 (some .byte), Cond.fieldLink RJ0 38 "java/lang/String" "COMPACT_STRINGS" "Z", Cond.fieldLink RJ0 15 "java/lang/String" "coder" "B", Cond.methodLink RX7 95 yJ0_charAt_5068e, Cond.instanceMethod yJ0_charAt_5068e, Cond.selects RJ0 yJ0_charAt_5068e yJ0_charAt_5068e, Cond.code yJ0_charAt_5068e cJ0_charAt_5068e 2 (some .char), Cond.methodLink RJ0 492 yJ0_isLatin1_aae02, Cond.instanceMethod yJ0_isLatin1_aae02, Cond.selects RJ0 yJ0_isLatin1_aae02 yJ0_isLatin1_aae02, Cond.code yJ0_isLatin1_aae02 cJ0_isLatin1_aae02 1 (some .boolean)]
def wsL_law0_r12 : List Cond := [Cond.methodLink RJ0 495 yJ1_charAt_3b067, Cond.static yJ1_charAt_3b067, Cond.initialized RJ1, Cond.code yJ1_charAt_3b067 cJ1_charAt_3b067 2 (some .char), Cond.methodLink RJ1 9 yJ0_checkIndex_df160, Cond.static yJ0_checkIndex_df160, Cond.code yJ0_checkIndex_df160 cJ0_checkIndex_df160 2 none, Cond.fieldLink RJ0 1053 "jdk/internal/util/Preconditions" "SIOOBE_FORMATTER" "Ljava/util/function/BiFunction;", Cond.methodLink RJ0 1059 yJ3_checkIndex_8e157, Cond.static yJ3_checkIndex_8e157, Cond.initialized RJ3, Cond.code yJ3_checkIndex_8e157 cJ3_checkIndex_8e157 3 (some .int), Cond.methodLink RJ0 498 yJ2_charAt_3b067, Cond.static yJ2_charAt_3b067, Cond.initialized RJ2, Cond.code yJ2_charAt_3b067 cJ2_charAt_3b067 2 (some .char), Cond.methodLink RJ2 67 yJ2_checkIndex_2214a, Cond.static yJ2_checkIndex_2214a, Cond.code yJ2_checkIndex_2214a cJ2_checkIndex_2214a 2 none, Cond.methodLink RJ2 48 yJ2_length_9d52b, Cond.static yJ2_length_9d52b, Cond.code yJ2_length_9d52b cJ2_length_9d52b 1 (some .int), Cond.methodLink RJ2 414 yJ0_checkIndex_df160, Cond.methodLink RJ2 71 yJ2_getChar_3b067]
def wsL_law0_r13 : List Cond := [Cond.static yJ2_getChar_3b067, Cond.code yJ2_getChar_3b067 cJ2_getChar_3b067 2 (some .char), Cond.fieldLink RJ2 44 "java/lang/StringUTF16" "$assertionsDisabled" "Z", Cond.fieldLink RJ2 59 "java/lang/StringUTF16" "HI_BYTE_SHIFT" "I", Cond.fieldLink RJ2 63 "java/lang/StringUTF16" "LO_BYTE_SHIFT" "I", Cond.methodLink RX7 99 yX7_isSame, Cond.instanceMethod yX7_isSame, Cond.selects RX7 yX7_isSame yX7_isSame, Cond.code yX7_isSame cX7_isSame 6 (some .boolean), Cond.methodLink RX7 62 yX7_fail, Cond.instanceMethod yX7_fail, Cond.selects RX7 yX7_fail yX7_fail, Cond.code yX7_fail cX7_fail 3 (some .boolean), Cond.methodLink RX7 66 ⟨"HiredEnemy$Telling", "isFull", "(I)Z"⟩, Cond.sameMethod "HiredEnemy$Telling" "HiredEnemy$Telling" "isFull" "(I)Z", Cond.selects RX5 ⟨"HiredEnemy$Telling", "isFull", "(I)Z"⟩ yX5_isFull, Cond.instanceMethod yX5_isFull, Cond.code yX5_isFull cX5_isFull 2 (some .boolean), Cond.selects RX6 ⟨"HiredEnemy$Telling", "isFull", "(I)Z"⟩ yX6_isFull, Cond.instanceMethod yX6_isFull, Cond.code yX6_isFull cX6_isFull 2 (some .boolean), Cond.methodLink RX7 70 ⟨"HiredEnemy$Telling", "numbers", "(I)I"⟩, Cond.sameMethod "HiredEnemy$Telling" "HiredEnemy$Telling" "numbers" "(I)I", Cond.selects RX5 ⟨"HiredEnemy$Telling", "numbers", "(I)I"⟩ yX5_numbers]
def wsL_law0_r14 : List Cond := [Cond.instanceMethod yX5_numbers, Cond.code yX5_numbers cX5_numbers 2 (some .int), Cond.selects RX6 ⟨"HiredEnemy$Telling", "numbers", "(I)I"⟩ yX6_numbers, Cond.instanceMethod yX6_numbers, Cond.code yX6_numbers cX6_numbers 2 (some .int), Cond.fieldLink RX6 36 "HiredEnemy$Plan" "NUMBERS" "[I", Cond.static yX10_within, Cond.code yX10_within cX10_within 3 (some .boolean), Cond.methodLink RX7 73 ⟨"HiredEnemy$Telling", "low", "(II)I"⟩, Cond.sameMethod "HiredEnemy$Telling" "HiredEnemy$Telling" "low" "(II)I", Cond.selects RX5 ⟨"HiredEnemy$Telling", "low", "(II)I"⟩ yX5_low, Cond.instanceMethod yX5_low, Cond.code yX5_low cX5_low 3 (some .int), Cond.selects RX6 ⟨"HiredEnemy$Telling", "low", "(II)I"⟩ yX6_low, Cond.instanceMethod yX6_low, Cond.code yX6_low cX6_low 3 (some .int), Cond.methodLink RX7 76 ⟨"HiredEnemy$Telling", "high", "(II)I"⟩, Cond.sameMethod "HiredEnemy$Telling" "HiredEnemy$Telling" "high" "(II)I", Cond.selects RX5 ⟨"HiredEnemy$Telling", "high", "(II)I"⟩ yX5_high, Cond.instanceMethod yX5_high, Cond.code yX5_high cX5_high 3 (some .int), Cond.fieldLink RX5 18 "HiredEnemy$Pact" "walls" "I", Cond.fieldLink RX5 34 "HiredEnemy$Pact" "HIGH" "[I", Cond.selects RX6 ⟨"HiredEnemy$Telling", "high", "(II)I"⟩ yX6_high]
def wsL_law0_r15 : List Cond := [Cond.instanceMethod yX6_high, Cond.code yX6_high cX6_high 4 (some .int), Cond.fieldLink RX6 43 "HiredEnemy$Plan" "HIGH" "[I", Cond.methodLink RX7 79 yX7_readNumber, Cond.instanceMethod yX7_readNumber, Cond.selects RX7 yX7_readNumber yX7_readNumber, Cond.code yX7_readNumber cX7_readNumber 6 (some .boolean), Cond.constant RX7 87 (100000), Cond.methodLink RX7 83 ⟨"HiredEnemy$Telling", "store", "(I[I)V"⟩, Cond.sameMethod "HiredEnemy$Telling" "HiredEnemy$Telling" "store" "(I[I)V", Cond.selects RX5 ⟨"HiredEnemy$Telling", "store", "(I[I)V"⟩ yX5_store, Cond.instanceMethod yX5_store, Cond.code yX5_store cX5_store 3 none, Cond.selects RX6 ⟨"HiredEnemy$Telling", "store", "(I[I)V"⟩ yX6_store, Cond.instanceMethod yX6_store, Cond.code yX6_store cX6_store 4 none, Cond.methodLink RX6 46 yX6_addWall, Cond.instanceMethod yX6_addWall, Cond.selects RX6 yX6_addWall yX6_addWall, Cond.code yX6_addWall cX6_addWall 3 none, Cond.methodLink RX6 50 yX6_numbers, Cond.selects RX6 yX6_numbers yX6_numbers, Cond.methodLink RX10 98 yX8_begin, Cond.instanceMethod yX8_begin]
def wsL_law0_r16 : List Cond := [Cond.selects RX8 yX8_begin yX8_begin, Cond.code yX8_begin cX8_begin 2 none, Cond.methodLink RX8 37 yX4_begin, Cond.methodLink RX8 41 yX2_forget, Cond.instanceMethod yX2_forget, Cond.selects RX2 yX2_forget yX2_forget, Cond.code yX2_forget cX2_forget 1 none, Cond.fieldLink RX2 33 "HiredEnemy$Belief" "things" "I", Cond.methodLink RX8 44 yX3_clear, Cond.instanceMethod yX3_clear, Cond.selects RX3 yX3_clear yX3_clear, Cond.code yX3_clear cX3_clear 1 none, Cond.methodLink RX3 16 yJ7_fill_53178, Cond.methodLink RL 114 yX11_siege, Cond.instanceMethod yX11_siege, Cond.selects RX11 yX11_siege yX11_siege, Cond.code yX11_siege cX11_siege 2 (some .int), Cond.fieldLink RX11 101 "HiredEnemyModel" "fault" "I", Cond.fieldLink RX11 94 "HiredEnemyModel" "at" "I", Cond.fieldLink RX11 91 "HiredEnemyModel" "size" "I", Cond.fieldLink RX11 104 "HiredEnemyModel" "faultAt" "I", Cond.methodLink RX11 119 yX11_in, Cond.static yX11_in, Cond.code yX11_in cX11_in 3 (some .boolean)]
def wsL_law0_r17 : List Cond := [Cond.methodLink RX11 151 yX11_bad, Cond.instanceMethod yX11_bad, Cond.selects RX11 yX11_bad yX11_bad, Cond.code yX11_bad cX11_bad 4 (some .boolean), Cond.methodLink RX11 155 yX11_starts, Cond.instanceMethod yX11_starts, Cond.selects RX11 yX11_starts yX11_starts, Cond.code yX11_starts cX11_starts 2 none, Cond.fieldLink RX11 131 "HiredEnemyModel" "clauses" "I", Cond.methodLink RX11 107 yX11_blanks, Cond.instanceMethod yX11_blanks, Cond.selects RX11 yX11_blanks yX11_blanks, Cond.code yX11_blanks cX11_blanks 1 none, Cond.methodLink RX11 97 yX11_byteAt, Cond.instanceMethod yX11_byteAt, Cond.selects RX11 yX11_byteAt yX11_byteAt, Cond.code yX11_byteAt cX11_byteAt 2 (some .int), Cond.methodLink RX11 159 yX11_clause, Cond.instanceMethod yX11_clause, Cond.selects RX11 yX11_clause yX11_clause, Cond.code yX11_clause cX11_clause 3 none, Cond.methodLink RX11 138 yX11_kindHere, Cond.instanceMethod yX11_kindHere, Cond.selects RX11 yX11_kindHere yX11_kindHere]
def wsL_law0_r18 : List Cond := [Cond.code yX11_kindHere cX11_kindHere 1 (some .int), Cond.methodLink RX11 134 yX11_isWord, Cond.instanceMethod yX11_isWord, Cond.selects RX11 yX11_isWord yX11_isWord, Cond.code yX11_isWord cX11_isWord 7 (some .boolean), Cond.methodLink RX11 123 yX11_wordHere, Cond.instanceMethod yX11_wordHere, Cond.selects RX11 yX11_wordHere yX11_wordHere, Cond.code yX11_wordHere cX11_wordHere 3 (some .int), Cond.methodLink RX11 127 yX11_six, Cond.static yX11_six, Cond.code yX11_six cX11_six 7 (some .int), Cond.methodLink RX11 114 yX11_wrong, Cond.instanceMethod yX11_wrong, Cond.selects RX11 yX11_wrong yX11_wrong, Cond.code yX11_wrong cX11_wrong 3 none, Cond.methodLink RX11 141 yX11_skipWord, Cond.instanceMethod yX11_skipWord, Cond.selects RX11 yX11_skipWord yX11_skipWord, Cond.code yX11_skipWord cX11_skipWord 1 none, Cond.methodLink RX11 144 yX11_number, Cond.instanceMethod yX11_number, Cond.selects RX11 yX11_number yX11_number, Cond.code yX11_number cX11_number 5 (some .int)]
def wsL_law0_r19 : List Cond := [Cond.constant RX11 118 (100000), Cond.methodLink RX11 110 yX11_isDigit, Cond.static yX11_isDigit, Cond.code yX11_isDigit cX11_isDigit 1 (some .boolean), Cond.methodLink RX11 148 yX11_closes, Cond.instanceMethod yX11_closes, Cond.selects RX11 yX11_closes yX11_closes, Cond.code yX11_closes cX11_closes 1 none, Cond.methodLink RL 115 yL_contract, Cond.static yL_contract, Cond.codeWith yL_contract cL_contract 4 (some .int) [(0, 9, 12, 13)], Cond.methodLink RL 15 yX10_contract, Cond.instanceMethod yX10_contract, Cond.selects RX10 yX10_contract yX10_contract, Cond.code yX10_contract cX10_contract 4 (some .int), Cond.fieldLink RX10 102 "HiredEnemy$Reader" "place" "I", Cond.methodLink RX10 105 yX5_clear, Cond.instanceMethod yX5_clear, Cond.selects RX5 yX5_clear yX5_clear, Cond.code yX5_clear cX5_clear 2 none, Cond.methodLink RX5 22 yJ7_fill_53178, Cond.methodLink RL 117 yX11_contract, Cond.instanceMethod yX11_contract, Cond.selects RX11 yX11_contract yX11_contract]
def wsL_law0_r20 : List Cond := [Cond.code yX11_contract cX11_contract 3 (some .int), Cond.methodLink RX11 171 yX11_rules, Cond.instanceMethod yX11_rules, Cond.selects RX11 yX11_rules yX11_rules, Cond.code yX11_rules cX11_rules 4 none, Cond.methodLink RL 118 yX10_fault, Cond.instanceMethod yX10_fault, Cond.selects RX10 yX10_fault yX10_fault, Cond.code yX10_fault cX10_fault 1 (some .int), Cond.methodLink RL 122 yX11_fault, Cond.instanceMethod yX11_fault, Cond.selects RX11 yX11_fault yX11_fault, Cond.code yX11_fault cX11_fault 1 (some .int), Cond.methodLink RL 123 yL_told, Cond.static yL_told, Cond.codeWith yL_told cL_told 4 (some .int) [(0, 9, 12, 13)], Cond.methodLink RL 18 yX10_told, Cond.instanceMethod yX10_told, Cond.selects RX10 yX10_told yX10_told, Cond.code yX10_told cX10_told 4 (some .int), Cond.fieldLink RX10 111 "HiredEnemy$Course" "now" "[I", Cond.fieldLink RX10 114 "HiredEnemy$Course" "month" "I", Cond.methodLink RX10 107 yX10_within, Cond.methodLink RL 125 yX11_told]
def wsL_law0_r21 : List Cond := [Cond.instanceMethod yX11_told, Cond.selects RX11 yX11_told yX11_told, Cond.code yX11_told cX11_told 2 (some .int), Cond.methodLink RL 126 yL_wall, Cond.static yL_wall, Cond.codeWith yL_wall cL_wall 5 (some .int) [(0, 10, 13, 25), (0, 10, 17, 13)], Cond.classLink RL 25 "java/lang/IndexOutOfBoundsException", Cond.methodLink RL 21 yX10_wall, Cond.instanceMethod yX10_wall, Cond.selects RX10 yX10_wall yX10_wall, Cond.code yX10_wall cX10_wall 3 (some .int), Cond.fieldLink RX10 120 "HiredEnemy$Plan" "strength" "[I", Cond.fieldLink RX10 123 "HiredEnemy$Plan" "mended" "[I", Cond.methodLink RX10 117 yX10_demandWall, Cond.instanceMethod yX10_demandWall, Cond.selects RX10 yX10_demandWall yX10_demandWall, Cond.code yX10_demandWall cX10_demandWall 2 none, Cond.classLink RX10 258 "java/lang/IndexOutOfBoundsException", Cond.initialized "java/lang/IndexOutOfBoundsException", Cond.methodLink RL 129 yX11_wall, Cond.instanceMethod yX11_wall, Cond.selects RX11 yX11_wall yX11_wall, Cond.code yX11_wall cX11_wall 3 (some .int), Cond.methodLink RX11 174 yX11_isWall]
def wsL_law0_r22 : List Cond := [Cond.instanceMethod yX11_isWall, Cond.selects RX11 yX11_isWall yX11_isWall, Cond.code yX11_isWall cX11_isWall 2 (some .boolean), Cond.methodLink RL 130 yL_rule, Cond.static yL_rule, Cond.codeWith yL_rule cL_rule 5 (some .int) [(0, 10, 13, 30), (0, 10, 17, 13)], Cond.classLink RL 30 "java/util/NoSuchElementException", Cond.methodLink RL 27 yX10_rule, Cond.instanceMethod yX10_rule, Cond.selects RX10 yX10_rule yX10_rule, Cond.code yX10_rule cX10_rule 3 (some .int), Cond.methodLink RX10 126 yX10_demandContract, Cond.instanceMethod yX10_demandContract, Cond.selects RX10 yX10_demandContract yX10_demandContract, Cond.code yX10_demandContract cX10_demandContract 2 none, Cond.classLink RX10 263 "java/util/NoSuchElementException", Cond.initialized "java/util/NoSuchElementException", Cond.methodLink RX10 129 yX5_answer, Cond.instanceMethod yX5_answer, Cond.selects RX5 yX5_answer yX5_answer, Cond.code yX5_answer cX5_answer 2 (some .int), Cond.methodLink RX5 41 yX5_breachesTold, Cond.instanceMethod yX5_breachesTold, Cond.selects RX5 yX5_breachesTold yX5_breachesTold]
def wsL_law0_r23 : List Cond := [Cond.code yX5_breachesTold cX5_breachesTold 6 (some .int), Cond.methodLink RX5 45 yX5_winterPay, Cond.instanceMethod yX5_winterPay, Cond.selects RX5 yX5_winterPay yX5_winterPay, Cond.code yX5_winterPay cX5_winterPay 1 (some .int), Cond.methodLink RL 132 yX11_rule, Cond.instanceMethod yX11_rule, Cond.selects RX11 yX11_rule yX11_rule, Cond.code yX11_rule cX11_rule 3 (some .int), Cond.methodLink RX11 177 yX11_isContract, Cond.instanceMethod yX11_isContract, Cond.selects RX11 yX11_isContract yX11_isContract, Cond.code yX11_isContract cX11_isContract 2 (some .boolean), Cond.methodLink RL 133 yL_wants, Cond.static yL_wants, Cond.codeWith yL_wants cL_wants 5 (some .int) [(0, 10, 13, 13)], Cond.methodLink RL 32 yX10_wants, Cond.instanceMethod yX10_wants, Cond.selects RX10 yX10_wants yX10_wants, Cond.code yX10_wants cX10_wants 3 (some .int), Cond.methodLink RX10 133 yX6_wanted, Cond.instanceMethod yX6_wanted, Cond.selects RX6 yX6_wanted yX6_wanted, Cond.code yX6_wanted cX6_wanted 3 (some .int)]
def wsL_law0_r24 : List Cond := [Cond.methodLink RL 135 yX11_wants, Cond.instanceMethod yX11_wants, Cond.selects RX11 yX11_wants yX11_wants, Cond.code yX11_wants cX11_wants 3 (some .int), Cond.methodLink RX11 180 yX11_wantsFor, Cond.instanceMethod yX11_wantsFor, Cond.selects RX11 yX11_wantsFor yX11_wantsFor, Cond.code yX11_wantsFor cX11_wantsFor 3 (some .int), Cond.methodLink RL 136 yL_sign, Cond.static yL_sign, Cond.codeWith yL_sign cL_sign 4 (some .int) [(0, 9, 12, 30)], Cond.methodLink RL 35 yX10_sign, Cond.instanceMethod yX10_sign, Cond.selects RX10 yX10_sign yX10_sign, Cond.code yX10_sign cX10_sign 3 (some .int), Cond.methodLink RX10 137 yX10_demandContractOrNone, Cond.instanceMethod yX10_demandContractOrNone, Cond.selects RX10 yX10_demandContractOrNone yX10_demandContractOrNone, Cond.code yX10_demandContractOrNone cX10_demandContractOrNone 2 none, Cond.methodLink RX10 140 yX4_pledge, Cond.instanceMethod yX4_pledge, Cond.selects RX4 yX4_pledge yX4_pledge, Cond.code yX4_pledge cX4_pledge 2 none, Cond.methodLink RL 138 yX11_sign]
def wsL_law0_r25 : List Cond := [Cond.instanceMethod yX11_sign, Cond.selects RX11 yX11_sign yX11_sign, Cond.code yX11_sign cX11_sign 3 (some .int), Cond.methodLink RX11 183 yX11_signs, Cond.instanceMethod yX11_signs, Cond.selects RX11 yX11_signs yX11_signs, Cond.code yX11_signs cX11_signs 2 none, Cond.methodLink RL 139 yL_months, Cond.static yL_months, Cond.codeWith yL_months cL_months 4 (some .int) [(0, 9, 12, 13)], Cond.methodLink RL 38 yX10_months, Cond.instanceMethod yX10_months, Cond.selects RX10 yX10_months yX10_months, Cond.code yX10_months cX10_months 3 (some .int), Cond.fieldLink RX10 143 "HiredEnemy$Scene" "annals" "LHiredEnemy$Annals;", Cond.methodLink RX10 147 yX0_keep, Cond.instanceMethod yX0_keep, Cond.selects RX0 yX0_keep yX0_keep, Cond.code yX0_keep cX0_keep 2 none, Cond.fieldLink RX0 15 "HiredEnemy$Course" "month" "I", Cond.fieldLink RX0 25 "HiredEnemy$Course" "now" "[I", Cond.methodLink RX0 28 arraycopyName, Cond.native arraycopyName, Cond.static arraycopyName]
def wsL_law0_r26 : List Cond := [Cond.initialized "java/lang/System", Cond.methodLink RX10 153 yX10_inForce, Cond.instanceMethod yX10_inForce, Cond.selects RX10 yX10_inForce yX10_inForce, Cond.code yX10_inForce cX10_inForce 3 (some (.object "HiredEnemy$Pact")), Cond.methodLink RX10 157 yX4_pass, Cond.instanceMethod yX4_pass, Cond.selects RX4 yX4_pass yX4_pass, Cond.code yX4_pass cX4_pass 3 none, Cond.fieldLink RX4 57 "HiredEnemy$Pact" "said" "[I", Cond.methodLink RX4 68 Lib.Math.max.name, Cond.static Lib.Math.max.name, Cond.code Lib.Math.max.name Lib.Math.max.code 2 (some .int), Cond.methodLink RX4 45 yX4_move, Cond.instanceMethod yX4_move, Cond.selects RX4 yX4_move yX4_move, Cond.code yX4_move cX4_move 5 none, Cond.methodLink RX4 81 Lib.Math.min.name, Cond.methodLink RX4 49 yX4_isPaid, Cond.instanceMethod yX4_isPaid, Cond.selects RX4 yX4_isPaid yX4_isPaid, Cond.code yX4_isPaid cX4_isPaid 3 (some .boolean), Cond.methodLink RX4 84 yX5_payIn, Cond.instanceMethod yX5_payIn]
def wsL_law0_r27 : List Cond := [Cond.selects RX5 yX5_payIn yX5_payIn, Cond.code yX5_payIn cX5_payIn 3 (some .int), Cond.methodLink RX4 53 yX4_shoot, Cond.instanceMethod yX4_shoot, Cond.selects RX4 yX4_shoot yX4_shoot, Cond.code yX4_shoot cX4_shoot 9 none, Cond.methodLink RX4 87 yX5_wallDue, Cond.instanceMethod yX5_wallDue, Cond.selects RX5 yX5_wallDue yX5_wallDue, Cond.code yX5_wallDue cX5_wallDue 4 (some .int), Cond.methodLink RX4 90 yX4_weakest, Cond.instanceMethod yX4_weakest, Cond.selects RX4 yX4_weakest yX4_weakest, Cond.code yX4_weakest cX4_weakest 4 (some .int), Cond.methodLink RX4 93 yX4_breach, Cond.instanceMethod yX4_breach, Cond.selects RX4 yX4_breach yX4_breach, Cond.code yX4_breach cX4_breach 4 none, Cond.methodLink RX4 64 yX4_frighten, Cond.instanceMethod yX4_frighten, Cond.selects RX4 yX4_frighten yX4_frighten, Cond.code yX4_frighten cX4_frighten 2 none, Cond.methodLink RX4 60 yX6_fearAt, Cond.instanceMethod yX6_fearAt]
def wsL_law0_r28 : List Cond := [Cond.selects RX6 yX6_fearAt yX6_fearAt, Cond.code yX6_fearAt cX6_fearAt 2 (some .int), Cond.methodLink RX4 74 yX4_mend, Cond.instanceMethod yX4_mend, Cond.selects RX4 yX4_mend yX4_mend, Cond.code yX4_mend cX4_mend 5 none, Cond.fieldLink RX4 97 "HiredEnemy$Plan" "mended" "[I", Cond.methodLink RX4 78 yX4_desert, Cond.instanceMethod yX4_desert, Cond.selects RX4 yX4_desert yX4_desert, Cond.code yX4_desert cX4_desert 5 none, Cond.methodLink RX4 100 Lib.Math.abs.name, Cond.static Lib.Math.abs.name, Cond.code Lib.Math.abs.name Lib.Math.abs.code 1 (some .int), Cond.methodLink RX10 161 yX0_lead, Cond.instanceMethod yX0_lead, Cond.selects RX0 yX0_lead yX0_lead, Cond.code yX0_lead cX0_lead 2 none, Cond.fieldLink RX0 34 "HiredEnemy$Course" "shot" "[I", Cond.methodLink RL 141 yX11_months, Cond.instanceMethod yX11_months, Cond.selects RX11 yX11_months yX11_months, Cond.code yX11_months cX11_months 5 (some .int), Cond.fieldLink RX11 192 "HiredEnemyModel" "isReal" "Z"]
def wsL_law0_r29 : List Cond := [Cond.methodLink RX11 216 yX11_monthGoes, Cond.instanceMethod yX11_monthGoes, Cond.selects RX11 yX11_monthGoes yX11_monthGoes, Cond.code yX11_monthGoes cX11_monthGoes 1 none, Cond.methodLink RX11 199 yX11_pays, Cond.instanceMethod yX11_pays, Cond.selects RX11 yX11_pays yX11_pays, Cond.code yX11_pays cX11_pays 5 none, Cond.methodLink RX11 186 yX11_less, Cond.static yX11_less, Cond.code yX11_less cX11_less 2 (some .int), Cond.methodLink RX11 207 yX11_underContract, Cond.instanceMethod yX11_underContract, Cond.selects RX11 yX11_underContract yX11_underContract, Cond.code yX11_underContract cX11_underContract 4 none, Cond.methodLink RX11 203 yX11_shoots, Cond.instanceMethod yX11_shoots, Cond.selects RX11 yX11_shoots yX11_shoots, Cond.code yX11_shoots cX11_shoots 7 none, Cond.methodLink RX11 189 yX11_weakest, Cond.instanceMethod yX11_weakest, Cond.selects RX11 yX11_weakest yX11_weakest, Cond.code yX11_weakest cX11_weakest 3 (some .int), Cond.methodLink RX11 196 yX11_fears]
def wsL_law0_r30 : List Cond := [Cond.instanceMethod yX11_fears, Cond.selects RX11 yX11_fears yX11_fears, Cond.code yX11_fears cX11_fears 2 none, Cond.methodLink RX11 210 yX11_mends, Cond.instanceMethod yX11_mends, Cond.selects RX11 yX11_mends yX11_mends, Cond.code yX11_mends cX11_mends 4 none, Cond.methodLink RX11 213 yX11_deserts, Cond.instanceMethod yX11_deserts, Cond.selects RX11 yX11_deserts yX11_deserts, Cond.code yX11_deserts cX11_deserts 4 none, Cond.methodLink RL 142 yL_undo, Cond.static yL_undo, Cond.codeWith yL_undo cL_undo 4 (some .int) [(0, 9, 12, 13)], Cond.methodLink RL 41 yX10_undo, Cond.instanceMethod yX10_undo, Cond.selects RX10 yX10_undo yX10_undo, Cond.code yX10_undo cX10_undo 3 (some .int), Cond.methodLink RX10 164 Lib.Math.min.name, Cond.methodLink RX10 169 yX0_giveBack, Cond.instanceMethod yX0_giveBack, Cond.selects RX0 yX0_giveBack yX0_giveBack, Cond.code yX0_giveBack cX0_giveBack 3 none, Cond.methodLink RL 144 yX11_undo]
def wsL_law0_r31 : List Cond := [Cond.instanceMethod yX11_undo, Cond.selects RX11 yX11_undo yX11_undo, Cond.code yX11_undo cX11_undo 5 (some .int), Cond.methodLink RL 145 yL_sums, Cond.static yL_sums, Cond.codeWith yL_sums cL_sums 4 (some .int) [(0, 9, 12, 13)], Cond.methodLink RL 44 yX10_sums, Cond.instanceMethod yX10_sums, Cond.selects RX10 yX10_sums yX10_sums, Cond.code yX10_sums cX10_sums 2 (some .int), Cond.methodLink RL 147 yX11_sums, Cond.instanceMethod yX11_sums, Cond.selects RX11 yX11_sums yX11_sums, Cond.code yX11_sums cX11_sums 2 (some .int), Cond.methodLink RL 148 yL_corks, Cond.static yL_corks, Cond.codeWith yL_corks cL_corks 5 (some .int) [(0, 10, 13, 25), (0, 10, 17, 13)], Cond.methodLink RL 47 yX10_corks, Cond.instanceMethod yX10_corks, Cond.selects RX10 yX10_corks yX10_corks, Cond.code yX10_corks cX10_corks 3 (some .int), Cond.methodLink RX10 173 yX0_shotAt, Cond.instanceMethod yX0_shotAt, Cond.selects RX0 yX0_shotAt yX0_shotAt]
def wsL_law0_r32 : List Cond := [Cond.code yX0_shotAt cX0_shotAt 3 (some .int), Cond.methodLink RL 150 yX11_corks, Cond.instanceMethod yX11_corks, Cond.selects RX11 yX11_corks yX11_corks, Cond.code yX11_corks cX11_corks 3 (some .int), Cond.methodLink RL 151 yL_would, Cond.static yL_would, Cond.codeWith yL_would cL_would 6 (some .int) [(0, 12, 15, 30), (0, 12, 19, 13)], Cond.methodLink RL 50 yX10_would, Cond.instanceMethod yX10_would, Cond.selects RX10 yX10_would yX10_would, Cond.code yX10_would cX10_would 4 (some .int), Cond.methodLink RX10 176 yX10_trySigned, Cond.instanceMethod yX10_trySigned, Cond.selects RX10 yX10_trySigned yX10_trySigned, Cond.code yX10_trySigned cX10_trySigned 3 (some .int), Cond.methodLink RX10 183 yX4_take, Cond.instanceMethod yX4_take, Cond.selects RX4 yX4_take yX4_take, Cond.code yX4_take cX4_take 2 none, Cond.methodLink RX4 39 arraycopyName, Cond.methodLink RX10 186 yX10_passTried, Cond.instanceMethod yX10_passTried, Cond.selects RX10 yX10_passTried yX10_passTried]
def wsL_law0_r33 : List Cond := [Cond.code yX10_passTried cX10_passTried 3 none, Cond.methodLink RL 154 yX11_would, Cond.instanceMethod yX11_would, Cond.selects RX11 yX11_would yX11_would, Cond.code yX11_would cX11_would 4 (some .int), Cond.methodLink RX11 228 yX11_areMonths, Cond.static yX11_areMonths, Cond.code yX11_areMonths cX11_areMonths 1 (some .boolean), Cond.methodLink RX11 231 yX11_by, Cond.instanceMethod yX11_by, Cond.selects RX11 yX11_by yX11_by, Cond.code yX11_by cX11_by 5 (some .int), Cond.methodLink RX11 219 yX11_puts, Cond.instanceMethod yX11_puts, Cond.selects RX11 yX11_puts yX11_puts, Cond.code yX11_puts cX11_puts 2 none, Cond.methodLink RX11 222 yX11_goesOn, Cond.instanceMethod yX11_goesOn, Cond.selects RX11 yX11_goesOn yX11_goesOn, Cond.code yX11_goesOn cX11_goesOn 3 none, Cond.methodLink RX11 225 yX11_takes, Cond.instanceMethod yX11_takes, Cond.selects RX11 yX11_takes yX11_takes, Cond.code yX11_takes cX11_takes 2 none]
def wsL_law0_r34 : List Cond := [Cond.methodLink RL 155 yL_best, Cond.static yL_best, Cond.codeWith yL_best cL_best 5 (some .int) [(0, 10, 13, 13)], Cond.methodLink RL 54 yX10_best, Cond.instanceMethod yX10_best, Cond.selects RX10 yX10_best yX10_best, Cond.code yX10_best cX10_best 7 (some .int), Cond.methodLink RL 157 yX11_best, Cond.instanceMethod yX11_best, Cond.selects RX11 yX11_best yX11_best, Cond.code yX11_best cX11_best 7 (some .int), Cond.methodLink RL 158 yL_offer, Cond.static yL_offer, Cond.codeWith yL_offer cL_offer 5 (some .int) [(0, 10, 13, 13)], Cond.methodLink RL 57 yX10_offer, Cond.instanceMethod yX10_offer, Cond.selects RX10 yX10_offer yX10_offer, Cond.code yX10_offer cX10_offer 9 (some .int), Cond.methodLink RX10 179 yX5_propose, Cond.instanceMethod yX5_propose, Cond.selects RX5 yX5_propose yX5_propose, Cond.code yX5_propose cX5_propose 5 none, Cond.methodLink RX5 28 yX5_clear, Cond.methodLink RL 160 yX11_offer]
def wsL_law0_r35 : List Cond := [Cond.instanceMethod yX11_offer, Cond.selects RX11 yX11_offer yX11_offer, Cond.code yX11_offer cX11_offer 10 (some .int), Cond.methodLink RX11 235 yX11_byOffer, Cond.instanceMethod yX11_byOffer, Cond.selects RX11 yX11_byOffer yX11_byOffer, Cond.code yX11_byOffer cX11_byOffer 3 (some .int), Cond.methodLink RL 161 yL_nearest, Cond.static yL_nearest, Cond.codeWith yL_nearest cL_nearest 5 (some .int) [(0, 10, 13, 13)], Cond.methodLink RL 60 yX10_nearest, Cond.instanceMethod yX10_nearest, Cond.selects RX10 yX10_nearest yX10_nearest, Cond.code yX10_nearest cX10_nearest 4 (some .int), Cond.methodLink RL 163 yX11_nearest, Cond.instanceMethod yX11_nearest, Cond.selects RX11 yX11_nearest yX11_nearest, Cond.code yX11_nearest cX11_nearest 4 (some .int), Cond.methodLink RL 164 yL_stop, Cond.static yL_stop, Cond.codeWith yL_stop cL_stop 5 (some .int) [(0, 10, 13, 13)], Cond.methodLink RL 63 yX10_stop, Cond.instanceMethod yX10_stop, Cond.selects RX10 yX10_stop yX10_stop]
def wsL_law0_r36 : List Cond := [Cond.code yX10_stop cX10_stop 6 (some .int), Cond.methodLink RL 166 yX11_stop, Cond.instanceMethod yX11_stop, Cond.selects RX11 yX11_stop yX11_stop, Cond.code yX11_stop cX11_stop 7 (some .int), Cond.methodLink RL 167 yL_odds, Cond.static yL_odds, Cond.codeWith yL_odds cL_odds 4 (some .int) [(0, 6, 9, 13)], Cond.methodLink RL 66 yX10_odds, Cond.instanceMethod yX10_odds, Cond.selects RX10 yX10_odds yX10_odds, Cond.code yX10_odds cX10_odds 3 none, Cond.fieldLink RX10 189 "HiredEnemy$Scene" "belief" "LHiredEnemy$Belief;", Cond.methodLink RX10 193 yX2_start, Cond.instanceMethod yX2_start, Cond.selects RX2 yX2_start yX2_start, Cond.code yX2_start cX2_start 3 none, Cond.methodLink RX2 30 yX2_forget, Cond.methodLink RL 170 yX11_odds, Cond.instanceMethod yX11_odds, Cond.selects RX11 yX11_odds yX11_odds, Cond.code yX11_odds cX11_odds 3 none, Cond.methodLink RL 171 yL_kind, Cond.static yL_kind]
def wsL_law0_r37 : List Cond := [Cond.codeWith yL_kind cL_kind 5 (some .int) [(0, 7, 10, 13)], Cond.methodLink RL 70 yX10_kind, Cond.instanceMethod yX10_kind, Cond.selects RX10 yX10_kind yX10_kind, Cond.code yX10_kind cX10_kind 4 none, Cond.fieldLink RX10 199 "HiredEnemy$Belief" "ifReal" "[I", Cond.fieldLink RX10 202 "HiredEnemy$Belief" "ifHired" "[I", Cond.methodLink RL 174 yX11_kind, Cond.instanceMethod yX11_kind, Cond.selects RX11 yX11_kind yX11_kind, Cond.code yX11_kind cX11_kind 4 none, Cond.methodLink RL 175 yL_seen, Cond.static yL_seen, Cond.codeWith yL_seen cL_seen 4 (some .int) [(0, 9, 12, 13)], Cond.methodLink RL 74 yX10_seen, Cond.instanceMethod yX10_seen, Cond.selects RX10 yX10_seen yX10_seen, Cond.code yX10_seen cX10_seen 3 (some .int), Cond.methodLink RX10 205 yX2_add, Cond.instanceMethod yX2_add, Cond.selects RX2 yX2_add yX2_add, Cond.code yX2_add cX2_add 3 (some .int), Cond.methodLink RL 177 yX11_seen, Cond.instanceMethod yX11_seen]
def wsL_law0_r38 : List Cond := [Cond.selects RX11 yX11_seen yX11_seen, Cond.code yX11_seen cX11_seen 2 (some .int), Cond.methodLink RX11 238 yX11_isSeen, Cond.instanceMethod yX11_isSeen, Cond.selects RX11 yX11_isSeen yX11_isSeen, Cond.code yX11_isSeen cX11_isSeen 3 (some .int), Cond.methodLink RL 178 yL_spy, Cond.static yL_spy, Cond.codeWith yL_spy cL_spy 5 (some .int) [(0, 10, 13, 13)], Cond.methodLink RL 77 yX10_spy, Cond.instanceMethod yX10_spy, Cond.selects RX10 yX10_spy yX10_spy, Cond.code yX10_spy cX10_spy 4 (some .int), Cond.methodLink RL 181 yX11_spy, Cond.instanceMethod yX11_spy, Cond.selects RX11 yX11_spy yX11_spy, Cond.code yX11_spy cX11_spy 3 (some .int), Cond.methodLink RL 182 yL_believed, Cond.static yL_believed, Cond.codeWith yL_believed cL_believed 4 (some .int) [(0, 8, 11, 13)], Cond.methodLink RL 81 yX10_believed, Cond.instanceMethod yX10_believed, Cond.selects RX10 yX10_believed yX10_believed, Cond.code yX10_believed cX10_believed 2 (some .long)]
def wsL_law0_r39 : List Cond := [Cond.methodLink RX10 208 yX2_leastTerm, Cond.instanceMethod yX2_leastTerm, Cond.selects RX2 yX2_leastTerm yX2_leastTerm, Cond.code yX2_leastTerm cX2_leastTerm 9 (some .long), Cond.methodLink RL 184 yX11_believed, Cond.instanceMethod yX11_believed, Cond.selects RX11 yX11_believed yX11_believed, Cond.code yX11_believed cX11_believed 12 (some .long), Cond.methodLink RL 185 yL_earnest, Cond.static yL_earnest, Cond.codeWith yL_earnest cL_earnest 6 (some .int) [(0, 12, 15, 13)], Cond.methodLink RL 85 yX10_earnest, Cond.instanceMethod yX10_earnest, Cond.selects RX10 yX10_earnest yX10_earnest, Cond.code yX10_earnest cX10_earnest 4 (some .int), Cond.methodLink RX10 212 yX1_prepare, Cond.instanceMethod yX1_prepare, Cond.selects RX1 yX1_prepare yX1_prepare, Cond.code yX1_prepare cX1_prepare 3 none, Cond.fieldLink RX1 21 "HiredEnemy$Plan" "walls" "I", Cond.methodLink RX1 27 Lib.Math.min.name, Cond.fieldLink RX1 33 "HiredEnemy$Battle" "walls" "I", Cond.fieldLink RX1 34 "HiredEnemy$Plan" "strength" "[I", Cond.methodLink RX10 215 yX1_all]
def wsL_law0_r40 : List Cond := [Cond.instanceMethod yX1_all, Cond.selects RX1 yX1_all yX1_all, Cond.code yX1_all cX1_all 1 (some .int), Cond.methodLink RX10 219 yX1_safe, Cond.instanceMethod yX1_safe, Cond.selects RX1 yX1_safe yX1_safe, Cond.code yX1_safe cX1_safe 8 (some .int), Cond.fieldLink RX1 37 "HiredEnemy$Battle" "safeDigits" "I", Cond.methodLink RX1 51 Lib.Math.max.name, Cond.methodLink RX1 40 yX1_place, Cond.instanceMethod yX1_place, Cond.selects RX1 yX1_place yX1_place, Cond.code yX1_place cX1_place 6 (some .boolean), Cond.methodLink RX1 44 yX1_mostFelled, Cond.instanceMethod yX1_mostFelled, Cond.selects RX1 yX1_mostFelled yX1_mostFelled, Cond.code yX1_mostFelled cX1_mostFelled 5 (some .int), Cond.methodLink RX1 61 yX1_menToFell, Cond.instanceMethod yX1_menToFell, Cond.selects RX1 yX1_menToFell yX1_menToFell, Cond.code yX1_menToFell cX1_menToFell 4 (some .int), Cond.methodLink RX1 64 yX1_worthOf, Cond.instanceMethod yX1_worthOf, Cond.selects RX1 yX1_worthOf yX1_worthOf]
def wsL_law0_r41 : List Cond := [Cond.code yX1_worthOf cX1_worthOf 4 (some .int), Cond.methodLink RX1 47 yX1_digits, Cond.instanceMethod yX1_digits, Cond.selects RX1 yX1_digits yX1_digits, Cond.code yX1_digits cX1_digits 3 (some .int), Cond.methodLink RX10 223 yX1_sure, Cond.instanceMethod yX1_sure, Cond.selects RX1 yX1_sure yX1_sure, Cond.code yX1_sure cX1_sure 6 (some .int), Cond.methodLink RX1 54 yX1_all, Cond.methodLink RX1 57 yX1_leastFelled, Cond.instanceMethod yX1_leastFelled, Cond.selects RX1 yX1_leastFelled yX1_leastFelled, Cond.code yX1_leastFelled cX1_leastFelled 4 (some .int), Cond.methodLink RX1 67 yX1_menToHold, Cond.instanceMethod yX1_menToHold, Cond.selects RX1 yX1_menToHold yX1_menToHold, Cond.code yX1_menToHold cX1_menToHold 4 (some .int), Cond.methodLink RL 187 yX11_earnest, Cond.instanceMethod yX11_earnest, Cond.selects RX11 yX11_earnest yX11_earnest, Cond.code yX11_earnest cX11_earnest 4 (some .int), Cond.methodLink RX11 253 yX11_areTens, Cond.static yX11_areTens]
def wsL_law0_r42 : List Cond := [Cond.code yX11_areTens cX11_areTens 2 (some .boolean), Cond.methodLink RX11 257 yX11_firstWalls, Cond.instanceMethod yX11_firstWalls, Cond.selects RX11 yX11_firstWalls yX11_firstWalls, Cond.code yX11_firstWalls cX11_firstWalls 1 (some .int), Cond.methodLink RX11 260 yX11_safeBy, Cond.instanceMethod yX11_safeBy, Cond.selects RX11 yX11_safeBy yX11_safeBy, Cond.code yX11_safeBy cX11_safeBy 8 (some .int), Cond.fieldLink RX11 244 "HiredEnemyModel" "safeRow" "I", Cond.methodLink RX11 247 yX11_puts0, Cond.static yX11_puts0, Cond.code yX11_puts0 cX11_puts0 5 (some .boolean), Cond.methodLink RX11 241 yX11_digit, Cond.static yX11_digit, Cond.code yX11_digit cX11_digit 2 (some .int), Cond.methodLink RX11 250 yX11_falls, Cond.instanceMethod yX11_falls, Cond.selects RX11 yX11_falls yX11_falls, Cond.code yX11_falls cX11_falls 6 (some .int), Cond.methodLink RX11 263 yX11_sureBy, Cond.instanceMethod yX11_sureBy, Cond.selects RX11 yX11_sureBy yX11_sureBy, Cond.code yX11_sureBy cX11_sureBy 8 (some .int)]
def wsL_law0_r43 : List Cond := [Cond.methodLink RL 188 yL_stands, Cond.static yL_stands, Cond.codeWith yL_stands cL_stands 5 (some .int) [(0, 10, 13, 13)], Cond.methodLink RL 88 yX10_stands, Cond.instanceMethod yX10_stands, Cond.selects RX10 yX10_stands yX10_stands, Cond.code yX10_stands cX10_stands 3 (some .int), Cond.fieldLink RX10 226 "HiredEnemy$Battle" "safeDigits" "I", Cond.methodLink RL 190 yX11_stands, Cond.instanceMethod yX11_stands, Cond.selects RX11 yX11_stands yX11_stands, Cond.code yX11_stands cX11_stands 5 (some .int), Cond.methodLink RL 191 yL_show, Cond.static yL_show, Cond.codeWith yL_show cL_show 5 (some .int) [(0, 10, 13, 13)], Cond.methodLink RL 91 yX10_show, Cond.instanceMethod yX10_show, Cond.selects RX10 yX10_show yX10_show, Cond.code yX10_show cX10_show 7 (some .int), Cond.fieldLink RX10 229 "HiredEnemy$Battle" "walls" "I", Cond.methodLink RL 193 yX11_show, Cond.instanceMethod yX11_show, Cond.selects RX11 yX11_show yX11_show, Cond.code yX11_show cX11_show 7 (some .int)]
def wsL_law0_r44 : List Cond := [Cond.methodLink RL 194 yL_offers, Cond.static yL_offers, Cond.codeWith yL_offers cL_offers 6 (some .int) [(0, 12, 15, 13)], Cond.methodLink RL 94 yX10_offers, Cond.instanceMethod yX10_offers, Cond.selects RX10 yX10_offers yX10_offers, Cond.code yX10_offers cX10_offers 4 (some .int), Cond.fieldLink RX10 232 "HiredEnemy$Scene" "bids" "LHiredEnemy$Bids;", Cond.methodLink RX10 236 yX3_bid, Cond.instanceMethod yX3_bid, Cond.selects RX3 yX3_bid yX3_bid, Cond.code yX3_bid cX3_bid 6 (some .int), Cond.methodLink RL 196 yX11_offers, Cond.instanceMethod yX11_offers, Cond.selects RX11 yX11_offers yX11_offers, Cond.code yX11_offers cX11_offers 5 (some .int), Cond.methodLink RL 197 yX10_most, Cond.instanceMethod yX10_most, Cond.selects RX10 yX10_most yX10_most, Cond.code yX10_most cX10_most 1 (some .int), Cond.methodLink RX10 239 yX3_mostCoin, Cond.instanceMethod yX3_mostCoin, Cond.selects RX3 yX3_mostCoin yX3_mostCoin, Cond.code yX3_mostCoin cX3_mostCoin 3 (some .int)]
def wsL_law0_r45 : List Cond := [Cond.methodLink RX3 22 yX3_mostFrom, Cond.instanceMethod yX3_mostFrom, Cond.selects RX3 yX3_mostFrom yX3_mostFrom, Cond.code yX3_mostFrom cX3_mostFrom 5 (some .int), Cond.methodLink RX3 33 Lib.Math.max.name, Cond.methodLink RX3 26 yX3_mayFollow, Cond.static yX3_mayFollow, Cond.code yX3_mayFollow cX3_mayFollow 2 (some .boolean), Cond.methodLink RX3 30 yX3_through, Cond.instanceMethod yX3_through, Cond.selects RX3 yX3_through yX3_through, Cond.code yX3_through cX3_through 3 (some .int), Cond.methodLink RL 200 yX11_most, Cond.instanceMethod yX11_most, Cond.selects RX11 yX11_most yX11_most, Cond.code yX11_most cX11_most 1 (some .int), Cond.methodLink RX11 272 yX11_mostNow, Cond.instanceMethod yX11_mostNow, Cond.selects RX11 yX11_mostNow yX11_mostNow, Cond.code yX11_mostNow cX11_mostNow 3 (some .int), Cond.methodLink RX11 269 yX11_laysRest, Cond.instanceMethod yX11_laysRest, Cond.selects RX11 yX11_laysRest yX11_laysRest, Cond.code yX11_laysRest cX11_laysRest 5 none]
def wsL_law0_r46 : List Cond := [Cond.methodLink RX11 266 yX11_mayServe, Cond.static yX11_mayServe, Cond.code yX11_mayServe cX11_mayServe 2 (some .boolean), Cond.methodLink RL 201 yL_serves, Cond.static yL_serves, Cond.codeWith yL_serves cL_serves 4 (some .int) [(0, 9, 12, 13)], Cond.methodLink RL 97 yX10_serves, Cond.instanceMethod yX10_serves, Cond.selects RX10 yX10_serves yX10_serves, Cond.code yX10_serves cX10_serves 2 (some .int), Cond.methodLink RX10 242 yX3_served, Cond.instanceMethod yX3_served, Cond.selects RX3 yX3_served yX3_served, Cond.code yX3_served cX3_served 4 (some .int), Cond.methodLink RX3 38 yX3_mostCoin, Cond.methodLink RX3 42 yX3_firstWay, Cond.instanceMethod yX3_firstWay, Cond.selects RX3 yX3_firstWay yX3_firstWay, Cond.code yX3_firstWay cX3_firstWay 4 (some .int), Cond.methodLink RL 203 yX11_serves, Cond.instanceMethod yX11_serves, Cond.selects RX11 yX11_serves yX11_serves, Cond.code yX11_serves cX11_serves 6 (some .int), Cond.methodLink RL 204 yX10_image]
def wsL_law0_r47 : List Cond := [Cond.instanceMethod yX10_image, Cond.selects RX10 yX10_image yX10_image, Cond.code yX10_image cX10_image 1 (some .int), Cond.methodLink RX10 245 yX8_take, Cond.instanceMethod yX8_take, Cond.selects RX8 yX8_take yX8_take, Cond.code yX8_take cX8_take 2 none, Cond.fieldLink RX8 51 "HiredEnemy$Course" "month" "I", Cond.methodLink RX8 47 yX4_take, Cond.methodLink RX8 55 yX0_take, Cond.instanceMethod yX0_take, Cond.selects RX0 yX0_take yX0_take, Cond.code yX0_take cX0_take 3 none, Cond.methodLink RX8 58 yX2_take, Cond.instanceMethod yX2_take, Cond.selects RX2 yX2_take yX2_take, Cond.code yX2_take cX2_take 2 none, Cond.methodLink RX2 36 arraycopyName, Cond.methodLink RX8 61 yX3_take, Cond.instanceMethod yX3_take, Cond.selects RX3 yX3_take yX3_take, Cond.code yX3_take cX3_take 2 none, Cond.methodLink RX3 45 arraycopyName, Cond.methodLink RL 207 yX11_image]
def wsL_law0_r48 : List Cond := [Cond.instanceMethod yX11_image, Cond.selects RX11 yX11_image yX11_image, Cond.code yX11_image cX11_image 1 (some .int), Cond.methodLink RX11 282 yX11_movesAll, Cond.instanceMethod yX11_movesAll, Cond.selects RX11 yX11_movesAll yX11_movesAll, Cond.code yX11_movesAll cX11_movesAll 5 none, Cond.fieldLink RX11 275 "HiredEnemyModel" "spot" "I", Cond.methodLink RX11 278 yX11_moves, Cond.instanceMethod yX11_moves, Cond.selects RX11 yX11_moves yX11_moves, Cond.code yX11_moves cX11_moves 4 (some .int), Cond.methodLink RL 208 yX10_restore, Cond.instanceMethod yX10_restore, Cond.selects RX10 yX10_restore yX10_restore, Cond.code yX10_restore cX10_restore 1 (some .int), Cond.methodLink RL 211 yX11_restore, Cond.instanceMethod yX11_restore, Cond.selects RX11 yX11_restore yX11_restore, Cond.code yX11_restore cX11_restore 1 (some .int), Cond.methodLink RL 212 yX10_status, Cond.instanceMethod yX10_status, Cond.selects RX10 yX10_status yX10_status, Cond.code yX10_status cX10_status 2 (some .int)]
def wsL_law0_r49 : List Cond := [Cond.methodLink RL 215 yX11_status, Cond.instanceMethod yX11_status, Cond.selects RX11 yX11_status yX11_status, Cond.code yX11_status cX11_status 2 (some .int), Cond.methodLink RL 216 yX10_count, Cond.instanceMethod yX10_count, Cond.selects RX10 yX10_count yX10_count, Cond.code yX10_count cX10_count 2 (some .int), Cond.fieldLink RX10 248 "HiredEnemy$Belief" "things" "I", Cond.methodLink RL 219 yX11_count, Cond.instanceMethod yX11_count, Cond.selects RX11 yX11_count yX11_count, Cond.code yX11_count cX11_count 2 (some .int)]
def wsL_law0 : List Cond := (wsL_law0_r1 ++ (wsL_law0_r2 ++ (wsL_law0_r3 ++ (wsL_law0_r4 ++ (wsL_law0_r5 ++ (wsL_law0_r6 ++ (wsL_law0_r7 ++ (wsL_law0_r8 ++ (wsL_law0_r9 ++ (wsL_law0_r10 ++ (wsL_law0_r11 ++ (wsL_law0_r12 ++ (wsL_law0_r13 ++ (wsL_law0_r14 ++ (wsL_law0_r15 ++ (wsL_law0_r16 ++ (wsL_law0_r17 ++ (wsL_law0_r18 ++ (wsL_law0_r19 ++ (wsL_law0_r20 ++ (wsL_law0_r21 ++ (wsL_law0_r22 ++ (wsL_law0_r23 ++ (wsL_law0_r24 ++ (wsL_law0_r25 ++ (wsL_law0_r26 ++ (wsL_law0_r27 ++ (wsL_law0_r28 ++ (wsL_law0_r29 ++ (wsL_law0_r30 ++ (wsL_law0_r31 ++ (wsL_law0_r32 ++ (wsL_law0_r33 ++ (wsL_law0_r34 ++ (wsL_law0_r35 ++ (wsL_law0_r36 ++ (wsL_law0_r37 ++ (wsL_law0_r38 ++ (wsL_law0_r39 ++ (wsL_law0_r40 ++ (wsL_law0_r41 ++ (wsL_law0_r42 ++ (wsL_law0_r43 ++ (wsL_law0_r44 ++ (wsL_law0_r45 ++ (wsL_law0_r46 ++ (wsL_law0_r47 ++ (wsL_law0_r48 ++ wsL_law0_r49)))))))))))))))))))))))))))))))))))))))))))))))) ++ wsX100 ++ wsX110 ++ wsX70 ++ wsX60 ++ wsX80 ++ wsX40 ++ wsX10 ++ wsX50 ++ wsX00 ++ wsX20 ++ wsX30 ++ ([] : List Cond)
def wsL_law : List Cond := wsL_law0 ++ (vx_atS RX10 255 "java/lang/IllegalArgumentException" ["java/lang/RuntimeException", "java/lang/Exception"]).filter goodWord ++ (vx_atS RX10 262 "java/lang/IndexOutOfBoundsException" ["java/lang/RuntimeException", "java/lang/Exception"]).filter goodWord ++ (vx_atS RX10 267 "java/util/NoSuchElementException" ["java/lang/RuntimeException", "java/lang/Exception"]).filter goodWord
set_option maxRecDepth 20000 in
theorem wsL_law_in0 : ∀ w ∈ wsL_law0, w ∈ lw_tbl := fun w h => (goodIn_p wsL_law0 [108, 111, 116, 144, 147, 154, 186, 192, 214, 224, 255, 288, 311, 327, 330, 1119, 1126, 1130, 374, 378, 1240, 458, 462, 534, 537, 543, 546, 550, 554, 558, 564, 568, 573, 577, 581, 587, 591, 594, 597, 602, 605, 608, 611, 615, 625, 629, 635, 638, 644, 647, 426, 656, 659, 665, 671, 677, 685, 688, 692, 697, 702, 706, 1244, 1247, 1251, 1255, 1259, 1263, 1267, 1271, 1275, 1279, 1282, 1286, 1290, 1294, 1297, 1302, 714, 718, 1306, 1310, 382, 1314, 726, 1318, 734, 738, 1322, 1326, 762, 766, 786, 790, 794, 1330, 1334, 801, 805, 1338, 1342, 812, 816, 820, 1346, 1350, 827, 831, 835, 839, 404, 843, 848, 852, 856, 860, 864, 868, 872, 876, 881, 885, 888, 892, 1354, 1358, 1362, 1365, 1369, 1373, 1377, 1381, 1385, 1389, 899, 904, 1393, 911, 1397, 918, 922, 1401, 929, 933, 416, 938, 1405, 1408, 1412, 1416, 1420, 1424, 945, 1428, 952, 956, 1432, 1436, 964, 1440, 971, 1444, 978, 982, 1448, 990, 1452, 997, 1001, 1456, 1460, 1008, 1464, 1015, 1019, 1468, 1026, 1030, 1035, 1039, 1043, 1047, 1051, 1055, 1060, 1064, 1069, 1073, 1472, 1475, 1479, 1483, 1486, 1489, 1493, 1497, 1080, 1501, 1087, 1505, 1094, 1098, 1509, 386, 390, 394, 397, 401, 1513, 1517, 1521, 1524, 1105, 1109, 1114, 1528, 408, 412, 423, 431, 436, 1532, 1536, 1540, 441, 1544, 445, 1548, 450, 1552] (by decide +kernel) (by decide +kernel) w h).1
theorem wsL_law_x0 : ∀ w ∈ (vx_atS RX10 255 "java/lang/IllegalArgumentException" ["java/lang/RuntimeException", "java/lang/Exception"]).filter goodWord, w ∈ lw_tbl := by decide +kernel
theorem wsL_law_x1 : ∀ w ∈ (vx_atS RX10 262 "java/lang/IndexOutOfBoundsException" ["java/lang/RuntimeException", "java/lang/Exception"]).filter goodWord, w ∈ lw_tbl := by decide +kernel
theorem wsL_law_x2 : ∀ w ∈ (vx_atS RX10 267 "java/util/NoSuchElementException" ["java/lang/RuntimeException", "java/lang/Exception"]).filter goodWord, w ∈ lw_tbl := by decide +kernel
theorem wsL_law_in : ∀ w ∈ wsL_law, w ∈ lw_tbl := fun w h => (List.mem_append.mp h).elim (fun h => (List.mem_append.mp h).elim (fun h => (List.mem_append.mp h).elim (fun h => wsL_law_in0 w h) (fun h => wsL_law_x0 w h)) (fun h => wsL_law_x1 w h)) (fun h => wsL_law_x2 w h)
theorem inlX0 : ∀ w ∈ wsX00, w ∈ wsL_law := fun _ h => List.mem_append_left _ (List.mem_append_left _ (List.mem_append_left _ (List.mem_append_left _ (List.mem_append_left _ (List.mem_append_left _ (List.mem_append_right _ h))))))
theorem inX0 : ∀ w ∈ wsX00, w ∈ lw_tbl := fun w h => wsL_law_in w (inlX0 w h)
theorem inlX1 : ∀ w ∈ wsX10, w ∈ wsL_law := fun _ h => List.mem_append_left _ (List.mem_append_left _ (List.mem_append_left _ (List.mem_append_left _ (List.mem_append_left _ (List.mem_append_left _ (List.mem_append_left _ (List.mem_append_left _ (List.mem_append_right _ h))))))))
theorem inX1 : ∀ w ∈ wsX10, w ∈ lw_tbl := fun w h => wsL_law_in w (inlX1 w h)
theorem inlX2 : ∀ w ∈ wsX20, w ∈ wsL_law := fun _ h => List.mem_append_left _ (List.mem_append_left _ (List.mem_append_left _ (List.mem_append_left _ (List.mem_append_left _ (List.mem_append_right _ h)))))
theorem inX2 : ∀ w ∈ wsX20, w ∈ lw_tbl := fun w h => wsL_law_in w (inlX2 w h)
theorem inlX3 : ∀ w ∈ wsX30, w ∈ wsL_law := fun _ h => List.mem_append_left _ (List.mem_append_left _ (List.mem_append_left _ (List.mem_append_left _ (List.mem_append_right _ h))))
theorem inX3 : ∀ w ∈ wsX30, w ∈ lw_tbl := fun w h => wsL_law_in w (inlX3 w h)
theorem inlX4 : ∀ w ∈ wsX40, w ∈ wsL_law := fun _ h => List.mem_append_left _ (List.mem_append_left _ (List.mem_append_left _ (List.mem_append_left _ (List.mem_append_left _ (List.mem_append_left _ (List.mem_append_left _ (List.mem_append_left _ (List.mem_append_left _ (List.mem_append_right _ h)))))))))
theorem inX4 : ∀ w ∈ wsX40, w ∈ lw_tbl := fun w h => wsL_law_in w (inlX4 w h)
theorem inlX5 : ∀ w ∈ wsX50, w ∈ wsL_law := fun _ h => List.mem_append_left _ (List.mem_append_left _ (List.mem_append_left _ (List.mem_append_left _ (List.mem_append_left _ (List.mem_append_left _ (List.mem_append_left _ (List.mem_append_right _ h)))))))
theorem inX5 : ∀ w ∈ wsX50, w ∈ lw_tbl := fun w h => wsL_law_in w (inlX5 w h)
theorem inlX6 : ∀ w ∈ wsX60, w ∈ wsL_law := fun _ h => List.mem_append_left _ (List.mem_append_left _ (List.mem_append_left _ (List.mem_append_left _ (List.mem_append_left _ (List.mem_append_left _ (List.mem_append_left _ (List.mem_append_left _ (List.mem_append_left _ (List.mem_append_left _ (List.mem_append_left _ (List.mem_append_right _ h)))))))))))
theorem inX6 : ∀ w ∈ wsX60, w ∈ lw_tbl := fun w h => wsL_law_in w (inlX6 w h)
theorem inlX7 : ∀ w ∈ wsX70, w ∈ wsL_law := fun _ h => List.mem_append_left _ (List.mem_append_left _ (List.mem_append_left _ (List.mem_append_left _ (List.mem_append_left _ (List.mem_append_left _ (List.mem_append_left _ (List.mem_append_left _ (List.mem_append_left _ (List.mem_append_left _ (List.mem_append_left _ (List.mem_append_left _ (List.mem_append_right _ h))))))))))))
theorem inX7 : ∀ w ∈ wsX70, w ∈ lw_tbl := fun w h => wsL_law_in w (inlX7 w h)
theorem inlX8 : ∀ w ∈ wsX80, w ∈ wsL_law := fun _ h => List.mem_append_left _ (List.mem_append_left _ (List.mem_append_left _ (List.mem_append_left _ (List.mem_append_left _ (List.mem_append_left _ (List.mem_append_left _ (List.mem_append_left _ (List.mem_append_left _ (List.mem_append_left _ (List.mem_append_right _ h))))))))))
theorem inX8 : ∀ w ∈ wsX80, w ∈ lw_tbl := fun w h => wsL_law_in w (inlX8 w h)
theorem inX9 : ∀ w ∈ wsX90, w ∈ lw_tbl := by decide +kernel
theorem inlX10 : ∀ w ∈ wsX100, w ∈ wsL_law := fun _ h => List.mem_append_left _ (List.mem_append_left _ (List.mem_append_left _ (List.mem_append_left _ (List.mem_append_left _ (List.mem_append_left _ (List.mem_append_left _ (List.mem_append_left _ (List.mem_append_left _ (List.mem_append_left _ (List.mem_append_left _ (List.mem_append_left _ (List.mem_append_left _ (List.mem_append_left _ (List.mem_append_right _ h))))))))))))))
theorem inX10 : ∀ w ∈ wsX100, w ∈ lw_tbl := fun w h => wsL_law_in w (inlX10 w h)
theorem inlX11 : ∀ w ∈ wsX110, w ∈ wsL_law := fun _ h => List.mem_append_left _ (List.mem_append_left _ (List.mem_append_left _ (List.mem_append_left _ (List.mem_append_left _ (List.mem_append_left _ (List.mem_append_left _ (List.mem_append_left _ (List.mem_append_left _ (List.mem_append_left _ (List.mem_append_left _ (List.mem_append_left _ (List.mem_append_left _ (List.mem_append_right _ h)))))))))))))
theorem inX11 : ∀ w ∈ wsX110, w ∈ lw_tbl := fun w h => wsL_law_in w (inlX11 w h)
theorem inJx145de : ∀ w ∈ wsJx145de0, w ∈ lw_tbl := by decide +kernel
theorem inJx9f9b0 : ∀ w ∈ wsJx9f9b00, w ∈ lw_tbl := by decide +kernel
theorem inJxb160c : ∀ w ∈ wsJxb160c0, w ∈ lw_tbl := by decide +kernel
theorem inJ9 : ∀ w ∈ wsJ90, w ∈ lw_tbl := by decide +kernel
theorem inJ0 : ∀ w ∈ wsJ00, w ∈ lw_tbl := by decide +kernel
theorem inJ1 : ∀ w ∈ wsJ10, w ∈ lw_tbl := by decide +kernel
theorem inJ2 : ∀ w ∈ wsJ20, w ∈ lw_tbl := by decide +kernel
theorem inJ10 : ∀ w ∈ wsJ100, w ∈ lw_tbl := by decide +kernel
theorem inJxfd54e : ∀ w ∈ wsJxfd54e0, w ∈ lw_tbl := by decide +kernel
theorem inJx3cf43 : ∀ w ∈ wsJx3cf430, w ∈ lw_tbl := by decide +kernel
theorem inJ7 : ∀ w ∈ wsJ70, w ∈ lw_tbl := by decide +kernel
theorem inJ3 : ∀ w ∈ wsJ30, w ∈ lw_tbl := by decide +kernel
set_option maxRecDepth 20000 in
theorem ggL_siege_X10_siege : GoodIn wsL_siege wsX10_siege := goodIn_ca (goodIn_r _ [6, 7, 8, 9, 10, 11, 12, 13, 14, 15, 16, 17, 18, 5, 19, 20, 21, 22, 23, 24, 25, 26, 27, 28, 29, 30, 31, 32, 33, 34, 35, 36, 37, 38, 39, 40, 41, 42, 43, 44, 45, 46, 47, 48, 49, 50, 51, 52, 53, 54, 55, 56, 57, 58, 59, 60, 61, 62, 63, 64, 65, 66, 67, 68, 69, 70, 71, 72, 73, 74, 75, 76, 77, 78, 79, 80, 81, 82, 83, 84, 85, 86, 87, 88, 89, 90, 91, 92, 93, 94, 95, 96, 97, 98, 99, 100, 101, 102, 103, 104, 105, 106, 107, 108, 109, 110, 111, 112, 113, 114, 115, 116, 117, 118, 119, 120, 121, 122, 123, 124, 125, 126, 127, 128, 129, 130, 131, 132, 133, 134, 135, 136, 137, 138, 139, 140, 141, 142, 143, 144, 145, 146, 147, 148, 149, 150, 151, 152, 153, 154, 155, 156, 157, 158, 159, 160, 161, 162, 163, 164, 165, 166, 167, 168, 169, 170, 171, 172, 173, 174, 175, 176, 177, 178, 179, 180, 181, 182, 183, 184, 185, 186, 187, 188, 189, 190, 191, 192, 193, 194, 195, 196, 197, 198, 199, 200, 201, 202, 203, 204, 205, 206, 207, 208, 209, 210, 211, 212, 213, 214, 215, 216, 217, 218, 219, 220, 221, 222, 223, 224, 225, 226, 227, 228, 229, 230, 231, 232, 233, 234, 235, 236, 237, 238, 239, 240, 241, 242, 243, 244, 245, 246, 247, 248, 249, 250, 251, 252, 253, 254, 255, 256, 257, 258, 259, 260, 261, 262, 263, 264, 265, 266, 267, 268, 269, 270, 271, 272, 273, 274, 275, 276, 277, 278, 279] (by decide +kernel) (by decide +kernel)) (goodIn_sub (fun _ h => List.mem_cons_of_mem _ (List.mem_append_right _ h)) (by decide +kernel))
set_option maxRecDepth 20000 in
theorem gL_siege_X10_siege : GoodIn wsL_siege (wsV RL 7 RX10 yX10_siege wsX10_siege) := goodIn_app (goodIn_of _ (by decide +kernel)) ggL_siege_X10_siege
theorem dL_siege_0 : decode cL_siege 0 = .ok (.aload_n 2, 1) := by decide +kernel
theorem dL_siege_1 : decode cL_siege 1 = .ok (.iconst 0, 1) := by decide +kernel
theorem dL_siege_2 : decode cL_siege 2 = .ok (.aload_n 0, 1) := by decide +kernel
theorem dL_siege_3 : decode cL_siege 3 = .ok (.iload_n 1, 1) := by decide +kernel
theorem dL_siege_4 : decode cL_siege 4 = .ok (.invokevirtual 7, 3) := by decide +kernel
theorem dL_siege_7 : decode cL_siege 7 = .ok (.i2l, 1) := by decide +kernel
theorem dL_siege_8 : decode cL_siege 8 = .ok (.lastore, 1) := by decide +kernel
theorem dL_siege_9 : decode cL_siege 9 = .ok (.goto 6, 3) := by decide +kernel
theorem dL_siege_12 : decode cL_siege 12 = .ok (.astore_n 3, 1) := by decide +kernel
theorem dL_siege_13 : decode cL_siege 13 = .ok (.iconst 1, 1) := by decide +kernel
theorem dL_siege_14 : decode cL_siege 14 = .ok (.ireturn, 1) := by decide +kernel
theorem dL_siege_15 : decode cL_siege 15 = .ok (.iconst 0, 1) := by decide +kernel
theorem dL_siege_16 : decode cL_siege 16 = .ok (.ireturn, 1) := by decide +kernel
set_option maxRecDepth 20000 in
theorem ggL_contract_X10_contract : GoodIn wsL_contract wsX10_contract := goodIn_ca (goodIn_r _ [6, 7, 8, 9, 10, 11, 12, 13, 14, 15, 16, 17, 5, 18, 19, 20, 21, 22, 23, 24, 25, 26, 27, 28, 29, 30, 31, 32, 33, 34, 35, 36, 37, 38, 39, 40, 41, 42, 43, 44, 45, 46, 47, 48, 49, 50, 51, 52, 53, 54, 55, 56, 57, 58, 59, 60, 61, 62, 63, 64, 65, 66, 67, 68, 69, 70, 71, 72, 73, 74, 75, 76, 77, 78, 79, 80, 81, 82, 83, 84, 85, 86, 87, 88, 89, 90, 91, 92, 93, 94, 95, 96, 97, 98, 99, 100, 101, 102, 103, 104, 105, 106, 107, 108, 109, 110, 111, 112, 113, 114, 115, 116, 117, 118, 119, 120, 121, 122, 123, 124, 125, 126, 127, 128, 129, 130, 131, 132, 133, 134, 135, 136, 137, 138, 139, 140, 141, 142, 143, 144, 145, 146, 147, 148, 149, 150, 151, 152, 153, 154, 155, 156, 157, 158, 159, 160, 161, 162, 163, 164, 165, 166, 167, 168, 169, 170, 171, 172, 173, 174, 175, 176, 177, 178, 179, 180, 181, 182, 183, 184, 185, 186, 187, 188, 189, 190, 191, 192, 193, 194, 195, 196, 197, 198, 199, 200, 201, 202, 203, 204, 205, 206, 207, 208, 209, 210, 211, 212, 213, 214, 215, 216, 217, 218, 219, 220, 221, 222, 223, 224, 225, 226] (by decide +kernel) (by decide +kernel)) (goodIn_sub (fun _ h => List.mem_cons_of_mem _ (List.mem_append_right _ h)) (by decide +kernel))
set_option maxRecDepth 20000 in
theorem gL_contract_X10_contract : GoodIn wsL_contract (wsV RL 15 RX10 yX10_contract wsX10_contract) := goodIn_app (goodIn_of _ (by decide +kernel)) ggL_contract_X10_contract
theorem dL_contract_0 : decode cL_contract 0 = .ok (.aload_n 2, 1) := by decide +kernel
theorem dL_contract_1 : decode cL_contract 1 = .ok (.iconst 0, 1) := by decide +kernel
theorem dL_contract_2 : decode cL_contract 2 = .ok (.aload_n 0, 1) := by decide +kernel
theorem dL_contract_3 : decode cL_contract 3 = .ok (.iload_n 1, 1) := by decide +kernel
theorem dL_contract_4 : decode cL_contract 4 = .ok (.invokevirtual 15, 3) := by decide +kernel
theorem dL_contract_7 : decode cL_contract 7 = .ok (.i2l, 1) := by decide +kernel
theorem dL_contract_8 : decode cL_contract 8 = .ok (.lastore, 1) := by decide +kernel
theorem dL_contract_9 : decode cL_contract 9 = .ok (.goto 6, 3) := by decide +kernel
theorem dL_contract_12 : decode cL_contract 12 = .ok (.astore_n 3, 1) := by decide +kernel
theorem dL_contract_13 : decode cL_contract 13 = .ok (.iconst 1, 1) := by decide +kernel
theorem dL_contract_14 : decode cL_contract 14 = .ok (.ireturn, 1) := by decide +kernel
theorem dL_contract_15 : decode cL_contract 15 = .ok (.iconst 0, 1) := by decide +kernel
theorem dL_contract_16 : decode cL_contract 16 = .ok (.ireturn, 1) := by decide +kernel
set_option maxRecDepth 20000 in
theorem ggL_told_X10_told : GoodIn wsL_told wsX10_told := goodIn_ca (goodIn_r _ [6, 7, 8, 9, 10, 11, 12, 13, 14, 15, 5, 16, 17, 18, 19, 20, 21, 22, 23, 24, 25, 26, 27, 28, 29, 30, 31, 32, 33, 34, 35, 36, 37, 38, 39, 40, 41, 42, 43, 44, 45, 46, 47, 48] (by decide +kernel) (by decide +kernel)) (goodIn_sub (fun _ h => List.mem_cons_of_mem _ (List.mem_append_right _ h)) (by decide +kernel))
set_option maxRecDepth 20000 in
theorem gL_told_X10_told : GoodIn wsL_told (wsV RL 18 RX10 yX10_told wsX10_told) := goodIn_app (goodIn_of _ (by decide +kernel)) ggL_told_X10_told
theorem dL_told_0 : decode cL_told 0 = .ok (.aload_n 2, 1) := by decide +kernel
theorem dL_told_1 : decode cL_told 1 = .ok (.iconst 0, 1) := by decide +kernel
theorem dL_told_2 : decode cL_told 2 = .ok (.aload_n 0, 1) := by decide +kernel
theorem dL_told_3 : decode cL_told 3 = .ok (.iload_n 1, 1) := by decide +kernel
theorem dL_told_4 : decode cL_told 4 = .ok (.invokevirtual 18, 3) := by decide +kernel
theorem dL_told_7 : decode cL_told 7 = .ok (.i2l, 1) := by decide +kernel
theorem dL_told_8 : decode cL_told 8 = .ok (.lastore, 1) := by decide +kernel
theorem dL_told_9 : decode cL_told 9 = .ok (.goto 6, 3) := by decide +kernel
theorem dL_told_12 : decode cL_told 12 = .ok (.astore_n 3, 1) := by decide +kernel
theorem dL_told_13 : decode cL_told 13 = .ok (.iconst 1, 1) := by decide +kernel
theorem dL_told_14 : decode cL_told 14 = .ok (.ireturn, 1) := by decide +kernel
theorem dL_told_15 : decode cL_told 15 = .ok (.iconst 0, 1) := by decide +kernel
theorem dL_told_16 : decode cL_told 16 = .ok (.ireturn, 1) := by decide +kernel
set_option maxRecDepth 20000 in
theorem ggL_wall_X10_wall : GoodIn wsL_wall wsX10_wall := goodIn_ca (goodIn_ca (goodIn_r _ [7, 8, 9, 10, 11, 12, 13, 14, 15, 16, 6, 17, 18, 19, 20, 21, 22, 23, 24, 25, 26, 27, 28, 29, 30, 31, 32, 33, 34, 35, 36, 37, 38, 39, 40, 41, 42, 43, 44, 45, 46, 47, 48, 49, 50, 51, 52, 53, 54, 55] (by decide +kernel) (by decide +kernel)) (goodIn_sub (fun _ h => List.mem_cons_of_mem _ (List.mem_append_left _ (List.mem_append_right _ h))) (by decide +kernel))) (goodIn_sub (fun _ h => List.mem_cons_of_mem _ (List.mem_append_right _ h)) (by decide +kernel))
set_option maxRecDepth 20000 in
theorem gL_wall_X10_wall : GoodIn wsL_wall (wsV RL 21 RX10 yX10_wall wsX10_wall) := goodIn_app (goodIn_of _ (by decide +kernel)) ggL_wall_X10_wall
theorem dL_wall_0 : decode cL_wall 0 = .ok (.aload_n 3, 1) := by decide +kernel
theorem dL_wall_1 : decode cL_wall 1 = .ok (.iconst 0, 1) := by decide +kernel
theorem dL_wall_2 : decode cL_wall 2 = .ok (.aload_n 0, 1) := by decide +kernel
theorem dL_wall_3 : decode cL_wall 3 = .ok (.iload_n 1, 1) := by decide +kernel
theorem dL_wall_4 : decode cL_wall 4 = .ok (.iload_n 2, 1) := by decide +kernel
theorem dL_wall_5 : decode cL_wall 5 = .ok (.invokevirtual 21, 3) := by decide +kernel
theorem dL_wall_8 : decode cL_wall 8 = .ok (.i2l, 1) := by decide +kernel
theorem dL_wall_9 : decode cL_wall 9 = .ok (.lastore, 1) := by decide +kernel
theorem dL_wall_10 : decode cL_wall 10 = .ok (.goto 11, 3) := by decide +kernel
theorem dL_wall_13 : decode cL_wall 13 = .ok (.astore 4, 2) := by decide +kernel
theorem dL_wall_15 : decode cL_wall 15 = .ok (.iconst 1, 1) := by decide +kernel
theorem dL_wall_16 : decode cL_wall 16 = .ok (.ireturn, 1) := by decide +kernel
theorem dL_wall_17 : decode cL_wall 17 = .ok (.astore 4, 2) := by decide +kernel
theorem dL_wall_19 : decode cL_wall 19 = .ok (.iconst 2, 1) := by decide +kernel
theorem dL_wall_20 : decode cL_wall 20 = .ok (.ireturn, 1) := by decide +kernel
theorem dL_wall_21 : decode cL_wall 21 = .ok (.iconst 0, 1) := by decide +kernel
theorem dL_wall_22 : decode cL_wall 22 = .ok (.ireturn, 1) := by decide +kernel
set_option maxRecDepth 20000 in
theorem ggL_rule_X10_rule : GoodIn wsL_rule wsX10_rule := goodIn_ca (goodIn_ca (goodIn_r _ [7, 8, 9, 10, 11, 6, 12, 13, 14, 15, 16, 17, 18, 19, 20, 21, 22, 23, 24, 25, 26, 27, 28, 29, 30, 31, 32, 33, 34, 35, 36, 37, 38, 39, 40, 41, 42, 43, 44, 45, 46, 47, 48, 49, 50, 51, 52, 53, 54, 55, 56] (by decide +kernel) (by decide +kernel)) (goodIn_sub (fun _ h => List.mem_cons_of_mem _ (List.mem_append_left _ (List.mem_append_right _ h))) (by decide +kernel))) (goodIn_sub (fun _ h => List.mem_cons_of_mem _ (List.mem_append_right _ h)) (by decide +kernel))
set_option maxRecDepth 20000 in
theorem gL_rule_X10_rule : GoodIn wsL_rule (wsV RL 27 RX10 yX10_rule wsX10_rule) := goodIn_app (goodIn_of _ (by decide +kernel)) ggL_rule_X10_rule
theorem dL_rule_0 : decode cL_rule 0 = .ok (.aload_n 3, 1) := by decide +kernel
theorem dL_rule_1 : decode cL_rule 1 = .ok (.iconst 0, 1) := by decide +kernel
theorem dL_rule_2 : decode cL_rule 2 = .ok (.aload_n 0, 1) := by decide +kernel
theorem dL_rule_3 : decode cL_rule 3 = .ok (.iload_n 1, 1) := by decide +kernel
theorem dL_rule_4 : decode cL_rule 4 = .ok (.iload_n 2, 1) := by decide +kernel
theorem dL_rule_5 : decode cL_rule 5 = .ok (.invokevirtual 27, 3) := by decide +kernel
theorem dL_rule_8 : decode cL_rule 8 = .ok (.i2l, 1) := by decide +kernel
theorem dL_rule_9 : decode cL_rule 9 = .ok (.lastore, 1) := by decide +kernel
theorem dL_rule_10 : decode cL_rule 10 = .ok (.goto 11, 3) := by decide +kernel
theorem dL_rule_13 : decode cL_rule 13 = .ok (.astore 4, 2) := by decide +kernel
theorem dL_rule_15 : decode cL_rule 15 = .ok (.iconst 1, 1) := by decide +kernel
theorem dL_rule_16 : decode cL_rule 16 = .ok (.ireturn, 1) := by decide +kernel
theorem dL_rule_17 : decode cL_rule 17 = .ok (.astore 4, 2) := by decide +kernel
theorem dL_rule_19 : decode cL_rule 19 = .ok (.iconst 2, 1) := by decide +kernel
theorem dL_rule_20 : decode cL_rule 20 = .ok (.ireturn, 1) := by decide +kernel
theorem dL_rule_21 : decode cL_rule 21 = .ok (.iconst 0, 1) := by decide +kernel
theorem dL_rule_22 : decode cL_rule 22 = .ok (.ireturn, 1) := by decide +kernel
set_option maxRecDepth 20000 in
theorem ggL_wants_X10_wants : GoodIn wsL_wants wsX10_wants := goodIn_ca (goodIn_r _ [6, 7, 8, 9, 5, 10, 11, 12, 13, 14, 15, 16, 17, 18, 19, 20, 21, 22, 23, 24, 25, 26, 27, 28, 29, 30, 31, 32, 33, 34, 35, 36, 37, 38, 39, 40, 41] (by decide +kernel) (by decide +kernel)) (goodIn_sub (fun _ h => List.mem_cons_of_mem _ (List.mem_append_right _ h)) (by decide +kernel))
set_option maxRecDepth 20000 in
theorem gL_wants_X10_wants : GoodIn wsL_wants (wsV RL 32 RX10 yX10_wants wsX10_wants) := goodIn_app (goodIn_of _ (by decide +kernel)) ggL_wants_X10_wants
theorem dL_wants_0 : decode cL_wants 0 = .ok (.aload_n 3, 1) := by decide +kernel
theorem dL_wants_1 : decode cL_wants 1 = .ok (.iconst 0, 1) := by decide +kernel
theorem dL_wants_2 : decode cL_wants 2 = .ok (.aload_n 0, 1) := by decide +kernel
theorem dL_wants_3 : decode cL_wants 3 = .ok (.iload_n 1, 1) := by decide +kernel
theorem dL_wants_4 : decode cL_wants 4 = .ok (.iload_n 2, 1) := by decide +kernel
theorem dL_wants_5 : decode cL_wants 5 = .ok (.invokevirtual 32, 3) := by decide +kernel
theorem dL_wants_8 : decode cL_wants 8 = .ok (.i2l, 1) := by decide +kernel
theorem dL_wants_9 : decode cL_wants 9 = .ok (.lastore, 1) := by decide +kernel
theorem dL_wants_10 : decode cL_wants 10 = .ok (.goto 7, 3) := by decide +kernel
theorem dL_wants_13 : decode cL_wants 13 = .ok (.astore 4, 2) := by decide +kernel
theorem dL_wants_15 : decode cL_wants 15 = .ok (.iconst 1, 1) := by decide +kernel
theorem dL_wants_16 : decode cL_wants 16 = .ok (.ireturn, 1) := by decide +kernel
theorem dL_wants_17 : decode cL_wants 17 = .ok (.iconst 0, 1) := by decide +kernel
theorem dL_wants_18 : decode cL_wants 18 = .ok (.ireturn, 1) := by decide +kernel
set_option maxRecDepth 20000 in
theorem ggL_sign_X10_sign : GoodIn wsL_sign wsX10_sign := goodIn_ca (goodIn_r _ [6, 7, 8, 9, 10, 11, 12, 5, 13, 14, 15, 16, 17, 18, 19, 20, 21, 22, 23, 24, 25, 26, 27, 28, 29, 30, 31, 32, 33, 34, 35, 36, 37, 38, 39, 40, 41, 42, 43, 44, 45, 46, 47, 48, 49, 50, 51] (by decide +kernel) (by decide +kernel)) (goodIn_sub (fun _ h => List.mem_cons_of_mem _ (List.mem_append_right _ h)) (by decide +kernel))
set_option maxRecDepth 20000 in
theorem gL_sign_X10_sign : GoodIn wsL_sign (wsV RL 35 RX10 yX10_sign wsX10_sign) := goodIn_app (goodIn_of _ (by decide +kernel)) ggL_sign_X10_sign
theorem dL_sign_0 : decode cL_sign 0 = .ok (.aload_n 2, 1) := by decide +kernel
theorem dL_sign_1 : decode cL_sign 1 = .ok (.iconst 0, 1) := by decide +kernel
theorem dL_sign_2 : decode cL_sign 2 = .ok (.aload_n 0, 1) := by decide +kernel
theorem dL_sign_3 : decode cL_sign 3 = .ok (.iload_n 1, 1) := by decide +kernel
theorem dL_sign_4 : decode cL_sign 4 = .ok (.invokevirtual 35, 3) := by decide +kernel
theorem dL_sign_7 : decode cL_sign 7 = .ok (.i2l, 1) := by decide +kernel
theorem dL_sign_8 : decode cL_sign 8 = .ok (.lastore, 1) := by decide +kernel
theorem dL_sign_9 : decode cL_sign 9 = .ok (.goto 6, 3) := by decide +kernel
theorem dL_sign_12 : decode cL_sign 12 = .ok (.astore_n 3, 1) := by decide +kernel
theorem dL_sign_13 : decode cL_sign 13 = .ok (.iconst 1, 1) := by decide +kernel
theorem dL_sign_14 : decode cL_sign 14 = .ok (.ireturn, 1) := by decide +kernel
theorem dL_sign_15 : decode cL_sign 15 = .ok (.iconst 0, 1) := by decide +kernel
theorem dL_sign_16 : decode cL_sign 16 = .ok (.ireturn, 1) := by decide +kernel
set_option maxRecDepth 20000 in
theorem ggL_months_X10_months : GoodIn wsL_months wsX10_months := goodIn_ca (goodIn_r _ [6, 7, 8, 9, 10, 11, 12, 13, 5, 14, 15, 16, 17, 18, 19, 20, 21, 22, 23, 24, 25, 26, 27, 28, 29, 30, 31, 32, 33, 34, 35, 36, 37, 38, 39, 40, 41, 42, 43, 44, 45, 46, 47, 48, 49, 50, 51, 52, 53, 54, 55, 56, 57, 58, 59, 60, 61, 62, 63, 64, 65, 66, 67, 68, 69, 70, 71, 72, 73, 74, 75, 76, 77, 78, 79, 80, 81, 82, 83, 84, 85, 86, 87, 88, 89, 90, 91, 92, 93, 94, 95, 96, 97, 98, 99, 100, 101, 102, 103, 104, 105, 106, 107, 108, 109, 110, 111, 112, 113, 114, 115, 116, 117, 118, 119, 120, 121, 122, 123, 124, 125, 126, 127, 128, 129, 130, 131, 132, 133, 134, 135, 136, 137, 138, 139, 140, 141, 142, 143, 144, 145, 146, 147, 148, 149, 150, 151, 152, 153] (by decide +kernel) (by decide +kernel)) (goodIn_sub (fun _ h => List.mem_cons_of_mem _ (List.mem_append_right _ h)) (by decide +kernel))
set_option maxRecDepth 20000 in
theorem gL_months_X10_months : GoodIn wsL_months (wsV RL 38 RX10 yX10_months wsX10_months) := goodIn_app (goodIn_of _ (by decide +kernel)) ggL_months_X10_months
theorem dL_months_0 : decode cL_months 0 = .ok (.aload_n 2, 1) := by decide +kernel
theorem dL_months_1 : decode cL_months 1 = .ok (.iconst 0, 1) := by decide +kernel
theorem dL_months_2 : decode cL_months 2 = .ok (.aload_n 0, 1) := by decide +kernel
theorem dL_months_3 : decode cL_months 3 = .ok (.iload_n 1, 1) := by decide +kernel
theorem dL_months_4 : decode cL_months 4 = .ok (.invokevirtual 38, 3) := by decide +kernel
theorem dL_months_7 : decode cL_months 7 = .ok (.i2l, 1) := by decide +kernel
theorem dL_months_8 : decode cL_months 8 = .ok (.lastore, 1) := by decide +kernel
theorem dL_months_9 : decode cL_months 9 = .ok (.goto 6, 3) := by decide +kernel
theorem dL_months_12 : decode cL_months 12 = .ok (.astore_n 3, 1) := by decide +kernel
theorem dL_months_13 : decode cL_months 13 = .ok (.iconst 1, 1) := by decide +kernel
theorem dL_months_14 : decode cL_months 14 = .ok (.ireturn, 1) := by decide +kernel
theorem dL_months_15 : decode cL_months 15 = .ok (.iconst 0, 1) := by decide +kernel
theorem dL_months_16 : decode cL_months 16 = .ok (.ireturn, 1) := by decide +kernel
set_option maxRecDepth 20000 in
theorem ggL_undo_X10_undo : GoodIn wsL_undo wsX10_undo := goodIn_ca (goodIn_r _ [6, 7, 8, 9, 10, 11, 12, 13, 14, 15, 16, 5, 17, 18, 19, 20, 21, 22, 23, 24, 25, 26, 27, 28, 29, 30, 31, 32, 33, 34, 35, 36, 37, 38, 39, 40, 41, 42, 43, 44, 45, 46, 47, 48, 49, 50, 51, 52, 53, 54, 55, 56, 57] (by decide +kernel) (by decide +kernel)) (goodIn_sub (fun _ h => List.mem_cons_of_mem _ (List.mem_append_right _ h)) (by decide +kernel))
set_option maxRecDepth 20000 in
theorem gL_undo_X10_undo : GoodIn wsL_undo (wsV RL 41 RX10 yX10_undo wsX10_undo) := goodIn_app (goodIn_of _ (by decide +kernel)) ggL_undo_X10_undo
theorem dL_undo_0 : decode cL_undo 0 = .ok (.aload_n 2, 1) := by decide +kernel
theorem dL_undo_1 : decode cL_undo 1 = .ok (.iconst 0, 1) := by decide +kernel
theorem dL_undo_2 : decode cL_undo 2 = .ok (.aload_n 0, 1) := by decide +kernel
theorem dL_undo_3 : decode cL_undo 3 = .ok (.iload_n 1, 1) := by decide +kernel
theorem dL_undo_4 : decode cL_undo 4 = .ok (.invokevirtual 41, 3) := by decide +kernel
theorem dL_undo_7 : decode cL_undo 7 = .ok (.i2l, 1) := by decide +kernel
theorem dL_undo_8 : decode cL_undo 8 = .ok (.lastore, 1) := by decide +kernel
theorem dL_undo_9 : decode cL_undo 9 = .ok (.goto 6, 3) := by decide +kernel
theorem dL_undo_12 : decode cL_undo 12 = .ok (.astore_n 3, 1) := by decide +kernel
theorem dL_undo_13 : decode cL_undo 13 = .ok (.iconst 1, 1) := by decide +kernel
theorem dL_undo_14 : decode cL_undo 14 = .ok (.ireturn, 1) := by decide +kernel
theorem dL_undo_15 : decode cL_undo 15 = .ok (.iconst 0, 1) := by decide +kernel
theorem dL_undo_16 : decode cL_undo 16 = .ok (.ireturn, 1) := by decide +kernel
set_option maxRecDepth 20000 in
theorem ggL_sums_X10_sums : GoodIn wsL_sums wsX10_sums := goodIn_ca (goodIn_r _ [6, 7, 8, 9, 10, 11, 5, 12, 13, 14, 15, 16, 17, 18, 19, 20, 21, 22, 23, 24, 25, 26, 27, 28, 29, 30, 31, 32, 33, 34, 35, 36, 37, 38, 39] (by decide +kernel) (by decide +kernel)) (goodIn_sub (fun _ h => List.mem_cons_of_mem _ (List.mem_append_right _ h)) (by decide +kernel))
set_option maxRecDepth 20000 in
theorem gL_sums_X10_sums : GoodIn wsL_sums (wsV RL 44 RX10 yX10_sums wsX10_sums) := goodIn_app (goodIn_of _ (by decide +kernel)) ggL_sums_X10_sums
theorem dL_sums_0 : decode cL_sums 0 = .ok (.aload_n 2, 1) := by decide +kernel
theorem dL_sums_1 : decode cL_sums 1 = .ok (.iconst 0, 1) := by decide +kernel
theorem dL_sums_2 : decode cL_sums 2 = .ok (.aload_n 0, 1) := by decide +kernel
theorem dL_sums_3 : decode cL_sums 3 = .ok (.iload_n 1, 1) := by decide +kernel
theorem dL_sums_4 : decode cL_sums 4 = .ok (.invokevirtual 44, 3) := by decide +kernel
theorem dL_sums_7 : decode cL_sums 7 = .ok (.i2l, 1) := by decide +kernel
theorem dL_sums_8 : decode cL_sums 8 = .ok (.lastore, 1) := by decide +kernel
theorem dL_sums_9 : decode cL_sums 9 = .ok (.goto 6, 3) := by decide +kernel
theorem dL_sums_12 : decode cL_sums 12 = .ok (.astore_n 3, 1) := by decide +kernel
theorem dL_sums_13 : decode cL_sums 13 = .ok (.iconst 1, 1) := by decide +kernel
theorem dL_sums_14 : decode cL_sums 14 = .ok (.ireturn, 1) := by decide +kernel
theorem dL_sums_15 : decode cL_sums 15 = .ok (.iconst 0, 1) := by decide +kernel
theorem dL_sums_16 : decode cL_sums 16 = .ok (.ireturn, 1) := by decide +kernel
set_option maxRecDepth 20000 in
theorem ggL_corks_X10_corks : GoodIn wsL_corks wsX10_corks := goodIn_ca (goodIn_ca (goodIn_r _ [7, 8, 9, 10, 11, 12, 13, 14, 6, 15, 16, 17, 18, 19, 20, 21, 22, 23, 24, 25, 26, 27, 28, 29, 30, 31, 32, 33, 34, 35, 36, 37, 38, 39, 40, 41, 42, 43, 44, 45, 46, 47, 48, 49, 50, 51, 52, 53, 54, 55, 56, 57, 58, 59, 60, 61] (by decide +kernel) (by decide +kernel)) (goodIn_sub (fun _ h => List.mem_cons_of_mem _ (List.mem_append_left _ (List.mem_append_right _ h))) (by decide +kernel))) (goodIn_sub (fun _ h => List.mem_cons_of_mem _ (List.mem_append_right _ h)) (by decide +kernel))
set_option maxRecDepth 20000 in
theorem gL_corks_X10_corks : GoodIn wsL_corks (wsV RL 47 RX10 yX10_corks wsX10_corks) := goodIn_app (goodIn_of _ (by decide +kernel)) ggL_corks_X10_corks
theorem dL_corks_0 : decode cL_corks 0 = .ok (.aload_n 3, 1) := by decide +kernel
theorem dL_corks_1 : decode cL_corks 1 = .ok (.iconst 0, 1) := by decide +kernel
theorem dL_corks_2 : decode cL_corks 2 = .ok (.aload_n 0, 1) := by decide +kernel
theorem dL_corks_3 : decode cL_corks 3 = .ok (.iload_n 1, 1) := by decide +kernel
theorem dL_corks_4 : decode cL_corks 4 = .ok (.iload_n 2, 1) := by decide +kernel
theorem dL_corks_5 : decode cL_corks 5 = .ok (.invokevirtual 47, 3) := by decide +kernel
theorem dL_corks_8 : decode cL_corks 8 = .ok (.i2l, 1) := by decide +kernel
theorem dL_corks_9 : decode cL_corks 9 = .ok (.lastore, 1) := by decide +kernel
theorem dL_corks_10 : decode cL_corks 10 = .ok (.goto 11, 3) := by decide +kernel
theorem dL_corks_13 : decode cL_corks 13 = .ok (.astore 4, 2) := by decide +kernel
theorem dL_corks_15 : decode cL_corks 15 = .ok (.iconst 1, 1) := by decide +kernel
theorem dL_corks_16 : decode cL_corks 16 = .ok (.ireturn, 1) := by decide +kernel
theorem dL_corks_17 : decode cL_corks 17 = .ok (.astore 4, 2) := by decide +kernel
theorem dL_corks_19 : decode cL_corks 19 = .ok (.iconst 2, 1) := by decide +kernel
theorem dL_corks_20 : decode cL_corks 20 = .ok (.ireturn, 1) := by decide +kernel
theorem dL_corks_21 : decode cL_corks 21 = .ok (.iconst 0, 1) := by decide +kernel
theorem dL_corks_22 : decode cL_corks 22 = .ok (.ireturn, 1) := by decide +kernel
set_option maxRecDepth 20000 in
theorem ggL_would_X10_would : GoodIn wsL_would wsX10_would := goodIn_ca (goodIn_ca (goodIn_r _ [7, 8, 9, 10, 11, 12, 6, 13, 14, 15, 16, 17, 18, 19, 20, 21, 22, 23, 24, 25, 26, 27, 28, 29, 30, 31, 32, 33, 34, 35, 36, 37, 38, 39, 40, 41, 42, 43, 44, 45, 46, 47, 48, 49, 50, 51, 52, 53, 54, 55, 56, 57, 58, 59, 60, 61, 62, 63, 64, 65, 66, 67, 68, 69, 70, 71, 72, 73, 74, 75, 76, 77, 78, 79, 80, 81, 82, 83, 84, 85, 86, 87, 88, 89, 90, 91, 92, 93, 94, 95, 96, 97, 98, 99, 100, 101, 102, 103, 104, 105, 106, 107, 108, 109, 110, 111, 112, 113, 114, 115, 116, 117, 118, 119, 120, 121, 122, 123, 124, 125, 126, 127, 128, 129, 130, 131, 132, 133, 134, 135, 136, 137, 138, 139, 140, 141, 142, 143, 144, 145, 146, 147, 148, 149, 150, 151, 152, 153, 154, 155, 156, 157, 158, 159, 160, 161, 162, 163, 164, 165, 166, 167] (by decide +kernel) (by decide +kernel)) (goodIn_sub (fun _ h => List.mem_cons_of_mem _ (List.mem_append_left _ (List.mem_append_right _ h))) (by decide +kernel))) (goodIn_sub (fun _ h => List.mem_cons_of_mem _ (List.mem_append_right _ h)) (by decide +kernel))
set_option maxRecDepth 20000 in
theorem gL_would_X10_would : GoodIn wsL_would (wsV RL 50 RX10 yX10_would wsX10_would) := goodIn_app (goodIn_of _ (by decide +kernel)) ggL_would_X10_would
theorem dL_would_0 : decode cL_would 0 = .ok (.aload 4, 2) := by decide +kernel
theorem dL_would_2 : decode cL_would 2 = .ok (.iconst 0, 1) := by decide +kernel
theorem dL_would_3 : decode cL_would 3 = .ok (.aload_n 0, 1) := by decide +kernel
theorem dL_would_4 : decode cL_would 4 = .ok (.iload_n 1, 1) := by decide +kernel
theorem dL_would_5 : decode cL_would 5 = .ok (.iload_n 2, 1) := by decide +kernel
theorem dL_would_6 : decode cL_would 6 = .ok (.iload_n 3, 1) := by decide +kernel
theorem dL_would_7 : decode cL_would 7 = .ok (.invokevirtual 50, 3) := by decide +kernel
theorem dL_would_10 : decode cL_would 10 = .ok (.i2l, 1) := by decide +kernel
theorem dL_would_11 : decode cL_would 11 = .ok (.lastore, 1) := by decide +kernel
theorem dL_would_12 : decode cL_would 12 = .ok (.goto 11, 3) := by decide +kernel
theorem dL_would_15 : decode cL_would 15 = .ok (.astore 5, 2) := by decide +kernel
theorem dL_would_17 : decode cL_would 17 = .ok (.iconst 1, 1) := by decide +kernel
theorem dL_would_18 : decode cL_would 18 = .ok (.ireturn, 1) := by decide +kernel
theorem dL_would_19 : decode cL_would 19 = .ok (.astore 5, 2) := by decide +kernel
theorem dL_would_21 : decode cL_would 21 = .ok (.iconst 2, 1) := by decide +kernel
theorem dL_would_22 : decode cL_would 22 = .ok (.ireturn, 1) := by decide +kernel
theorem dL_would_23 : decode cL_would 23 = .ok (.iconst 0, 1) := by decide +kernel
theorem dL_would_24 : decode cL_would 24 = .ok (.ireturn, 1) := by decide +kernel
set_option maxRecDepth 20000 in
theorem ggL_best_X10_best : GoodIn wsL_best wsX10_best := goodIn_ca (goodIn_r _ [6, 7, 8, 9, 5, 10, 11, 12, 13, 14, 15, 16, 17, 18, 19, 20, 21, 22, 23, 24, 25, 26, 27, 28, 29, 30, 31, 32, 33, 34, 35, 36, 37, 38, 39, 40, 41, 42, 43, 44, 45, 46, 47, 48, 49, 50, 51, 52, 53, 54, 55, 56, 57, 58, 59, 60, 61, 62, 63, 64, 65, 66, 67, 68, 69, 70, 71, 72, 73, 74, 75, 76, 77, 78, 79, 80, 81, 82, 83, 84, 85, 86, 87, 88, 89, 90, 91, 92, 93, 94, 95, 96, 97, 98, 99, 100, 101, 102, 103, 104, 105, 106, 107, 108, 109, 110, 111, 112, 113, 114, 115, 116, 117, 118, 119, 120, 121, 122, 123, 124, 125, 126, 127, 128, 129, 130, 131, 132, 133, 134, 135, 136, 137, 138, 139, 140, 141, 142, 143, 144, 145, 146, 147, 148, 149, 150, 151, 152, 153, 154, 155, 156] (by decide +kernel) (by decide +kernel)) (goodIn_sub (fun _ h => List.mem_cons_of_mem _ (List.mem_append_right _ h)) (by decide +kernel))
set_option maxRecDepth 20000 in
theorem gL_best_X10_best : GoodIn wsL_best (wsV RL 54 RX10 yX10_best wsX10_best) := goodIn_app (goodIn_of _ (by decide +kernel)) ggL_best_X10_best
theorem dL_best_0 : decode cL_best 0 = .ok (.aload_n 3, 1) := by decide +kernel
theorem dL_best_1 : decode cL_best 1 = .ok (.iconst 0, 1) := by decide +kernel
theorem dL_best_2 : decode cL_best 2 = .ok (.aload_n 0, 1) := by decide +kernel
theorem dL_best_3 : decode cL_best 3 = .ok (.iload_n 1, 1) := by decide +kernel
theorem dL_best_4 : decode cL_best 4 = .ok (.iload_n 2, 1) := by decide +kernel
theorem dL_best_5 : decode cL_best 5 = .ok (.invokevirtual 54, 3) := by decide +kernel
theorem dL_best_8 : decode cL_best 8 = .ok (.i2l, 1) := by decide +kernel
theorem dL_best_9 : decode cL_best 9 = .ok (.lastore, 1) := by decide +kernel
theorem dL_best_10 : decode cL_best 10 = .ok (.goto 7, 3) := by decide +kernel
theorem dL_best_13 : decode cL_best 13 = .ok (.astore 4, 2) := by decide +kernel
theorem dL_best_15 : decode cL_best 15 = .ok (.iconst 1, 1) := by decide +kernel
theorem dL_best_16 : decode cL_best 16 = .ok (.ireturn, 1) := by decide +kernel
theorem dL_best_17 : decode cL_best 17 = .ok (.iconst 0, 1) := by decide +kernel
theorem dL_best_18 : decode cL_best 18 = .ok (.ireturn, 1) := by decide +kernel
set_option maxRecDepth 20000 in
theorem ggL_offer_X10_offer : GoodIn wsL_offer wsX10_offer := goodIn_ca (goodIn_r _ [6, 7, 8, 9, 10, 5, 11, 12, 13, 14, 15, 16, 17, 18, 19, 20, 21, 22, 23, 24, 25, 26, 27, 28, 29, 30, 31, 32, 33, 34, 35, 36, 37, 38, 39, 40, 41, 42, 43, 44, 45, 46, 47, 48, 49, 50, 51, 52, 53, 54, 55, 56, 57, 58, 59, 60, 61, 62, 63, 64, 65, 66, 67, 68, 69, 70, 71, 72, 73, 74, 75, 76, 77, 78, 79, 80, 81, 82, 83, 84, 85, 86, 87, 88, 89, 90, 91, 92, 93, 94, 95, 96, 97, 98, 99, 100, 101, 102, 103, 104, 105, 106, 107, 108, 109, 110, 111, 112, 113, 114, 115, 116, 117, 118, 119, 120, 121, 122, 123, 124, 125, 126, 127, 128, 129, 130, 131, 132, 133, 134, 135, 136, 137, 138, 139, 140, 141, 142, 143, 144, 145, 146, 147, 148, 149, 150, 151, 152, 153, 154, 155, 156, 157, 158, 159, 160, 161, 162, 163, 164, 165, 166, 167, 168, 169, 170] (by decide +kernel) (by decide +kernel)) (goodIn_sub (fun _ h => List.mem_cons_of_mem _ (List.mem_append_right _ h)) (by decide +kernel))
set_option maxRecDepth 20000 in
theorem gL_offer_X10_offer : GoodIn wsL_offer (wsV RL 57 RX10 yX10_offer wsX10_offer) := goodIn_app (goodIn_of _ (by decide +kernel)) ggL_offer_X10_offer
theorem dL_offer_0 : decode cL_offer 0 = .ok (.aload_n 3, 1) := by decide +kernel
theorem dL_offer_1 : decode cL_offer 1 = .ok (.iconst 0, 1) := by decide +kernel
theorem dL_offer_2 : decode cL_offer 2 = .ok (.aload_n 0, 1) := by decide +kernel
theorem dL_offer_3 : decode cL_offer 3 = .ok (.iload_n 1, 1) := by decide +kernel
theorem dL_offer_4 : decode cL_offer 4 = .ok (.iload_n 2, 1) := by decide +kernel
theorem dL_offer_5 : decode cL_offer 5 = .ok (.invokevirtual 57, 3) := by decide +kernel
theorem dL_offer_8 : decode cL_offer 8 = .ok (.i2l, 1) := by decide +kernel
theorem dL_offer_9 : decode cL_offer 9 = .ok (.lastore, 1) := by decide +kernel
theorem dL_offer_10 : decode cL_offer 10 = .ok (.goto 7, 3) := by decide +kernel
theorem dL_offer_13 : decode cL_offer 13 = .ok (.astore 4, 2) := by decide +kernel
theorem dL_offer_15 : decode cL_offer 15 = .ok (.iconst 1, 1) := by decide +kernel
theorem dL_offer_16 : decode cL_offer 16 = .ok (.ireturn, 1) := by decide +kernel
theorem dL_offer_17 : decode cL_offer 17 = .ok (.iconst 0, 1) := by decide +kernel
theorem dL_offer_18 : decode cL_offer 18 = .ok (.ireturn, 1) := by decide +kernel
set_option maxRecDepth 20000 in
theorem ggL_nearest_X10_nearest : GoodIn wsL_nearest wsX10_nearest := goodIn_ca (goodIn_r _ [6, 7, 8, 9, 5, 10, 11, 12, 13, 14, 15, 16, 17, 18, 19, 20, 21, 22, 23, 24, 25, 26, 27, 28, 29, 30, 31, 32, 33, 34, 35, 36, 37, 38, 39, 40, 41] (by decide +kernel) (by decide +kernel)) (goodIn_sub (fun _ h => List.mem_cons_of_mem _ (List.mem_append_right _ h)) (by decide +kernel))
set_option maxRecDepth 20000 in
theorem gL_nearest_X10_nearest : GoodIn wsL_nearest (wsV RL 60 RX10 yX10_nearest wsX10_nearest) := goodIn_app (goodIn_of _ (by decide +kernel)) ggL_nearest_X10_nearest
theorem dL_nearest_0 : decode cL_nearest 0 = .ok (.aload_n 3, 1) := by decide +kernel
theorem dL_nearest_1 : decode cL_nearest 1 = .ok (.iconst 0, 1) := by decide +kernel
theorem dL_nearest_2 : decode cL_nearest 2 = .ok (.aload_n 0, 1) := by decide +kernel
theorem dL_nearest_3 : decode cL_nearest 3 = .ok (.iload_n 1, 1) := by decide +kernel
theorem dL_nearest_4 : decode cL_nearest 4 = .ok (.iload_n 2, 1) := by decide +kernel
theorem dL_nearest_5 : decode cL_nearest 5 = .ok (.invokevirtual 60, 3) := by decide +kernel
theorem dL_nearest_8 : decode cL_nearest 8 = .ok (.i2l, 1) := by decide +kernel
theorem dL_nearest_9 : decode cL_nearest 9 = .ok (.lastore, 1) := by decide +kernel
theorem dL_nearest_10 : decode cL_nearest 10 = .ok (.goto 7, 3) := by decide +kernel
theorem dL_nearest_13 : decode cL_nearest 13 = .ok (.astore 4, 2) := by decide +kernel
theorem dL_nearest_15 : decode cL_nearest 15 = .ok (.iconst 1, 1) := by decide +kernel
theorem dL_nearest_16 : decode cL_nearest 16 = .ok (.ireturn, 1) := by decide +kernel
theorem dL_nearest_17 : decode cL_nearest 17 = .ok (.iconst 0, 1) := by decide +kernel
theorem dL_nearest_18 : decode cL_nearest 18 = .ok (.ireturn, 1) := by decide +kernel
set_option maxRecDepth 20000 in
theorem ggL_stop_X10_stop : GoodIn wsL_stop wsX10_stop := goodIn_ca (goodIn_r _ [6, 7, 8, 9, 10, 11, 12, 5, 13, 14, 15, 16, 17, 18, 19, 20, 21, 22, 23, 24, 25, 26, 27, 28, 29, 30, 31, 32, 33, 34, 35, 36, 37, 38, 39, 40, 41, 42, 43, 44, 45, 46, 47, 48, 49, 50, 51, 52, 53, 54, 55, 56, 57, 58, 59, 60, 61, 62, 63, 64, 65, 66, 67, 68, 69, 70, 71, 72, 73, 74, 75, 76, 77, 78, 79, 80, 81, 82, 83, 84, 85, 86, 87, 88, 89, 90, 91, 92, 93, 94, 95, 96, 97, 98, 99, 100, 101, 102, 103, 104, 105, 106, 107, 108, 109, 110, 111, 112, 113, 114, 115, 116, 117, 118, 119, 120, 121, 122, 123, 124, 125, 126, 127, 128, 129, 130, 131, 132, 133, 134, 135, 136, 137, 138, 139, 140, 141, 142, 143, 144, 145, 146, 147, 148, 149, 150, 151] (by decide +kernel) (by decide +kernel)) (goodIn_sub (fun _ h => List.mem_cons_of_mem _ (List.mem_append_right _ h)) (by decide +kernel))
set_option maxRecDepth 20000 in
theorem gL_stop_X10_stop : GoodIn wsL_stop (wsV RL 63 RX10 yX10_stop wsX10_stop) := goodIn_app (goodIn_of _ (by decide +kernel)) ggL_stop_X10_stop
theorem dL_stop_0 : decode cL_stop 0 = .ok (.aload_n 3, 1) := by decide +kernel
theorem dL_stop_1 : decode cL_stop 1 = .ok (.iconst 0, 1) := by decide +kernel
theorem dL_stop_2 : decode cL_stop 2 = .ok (.aload_n 0, 1) := by decide +kernel
theorem dL_stop_3 : decode cL_stop 3 = .ok (.iload_n 1, 1) := by decide +kernel
theorem dL_stop_4 : decode cL_stop 4 = .ok (.iload_n 2, 1) := by decide +kernel
theorem dL_stop_5 : decode cL_stop 5 = .ok (.invokevirtual 63, 3) := by decide +kernel
theorem dL_stop_8 : decode cL_stop 8 = .ok (.i2l, 1) := by decide +kernel
theorem dL_stop_9 : decode cL_stop 9 = .ok (.lastore, 1) := by decide +kernel
theorem dL_stop_10 : decode cL_stop 10 = .ok (.goto 7, 3) := by decide +kernel
theorem dL_stop_13 : decode cL_stop 13 = .ok (.astore 4, 2) := by decide +kernel
theorem dL_stop_15 : decode cL_stop 15 = .ok (.iconst 1, 1) := by decide +kernel
theorem dL_stop_16 : decode cL_stop 16 = .ok (.ireturn, 1) := by decide +kernel
theorem dL_stop_17 : decode cL_stop 17 = .ok (.iconst 0, 1) := by decide +kernel
theorem dL_stop_18 : decode cL_stop 18 = .ok (.ireturn, 1) := by decide +kernel
set_option maxRecDepth 20000 in
theorem ggL_odds_X10_odds : GoodIn wsL_odds wsX10_odds := goodIn_ca (goodIn_r _ [6, 7, 8, 9, 10, 5, 11, 12, 13, 14, 15, 16, 17, 18, 19, 20, 21, 22, 23, 24, 25, 26, 27, 28, 29, 30, 31, 32, 33, 34, 35, 36, 37, 38, 39, 40, 41, 42, 43, 44, 45, 46, 47, 48, 49, 50, 51, 52, 53, 54, 55, 56] (by decide +kernel) (by decide +kernel)) (goodIn_sub (fun _ h => List.mem_cons_of_mem _ (List.mem_append_right _ h)) (by decide +kernel))
set_option maxRecDepth 20000 in
theorem gL_odds_X10_odds : GoodIn wsL_odds (wsV RL 66 RX10 yX10_odds wsX10_odds) := goodIn_app (goodIn_of _ (by decide +kernel)) ggL_odds_X10_odds
theorem dL_odds_0 : decode cL_odds 0 = .ok (.aload_n 0, 1) := by decide +kernel
theorem dL_odds_1 : decode cL_odds 1 = .ok (.iload_n 1, 1) := by decide +kernel
theorem dL_odds_2 : decode cL_odds 2 = .ok (.iload_n 2, 1) := by decide +kernel
theorem dL_odds_3 : decode cL_odds 3 = .ok (.invokevirtual 66, 3) := by decide +kernel
theorem dL_odds_6 : decode cL_odds 6 = .ok (.goto 6, 3) := by decide +kernel
theorem dL_odds_9 : decode cL_odds 9 = .ok (.astore_n 3, 1) := by decide +kernel
theorem dL_odds_10 : decode cL_odds 10 = .ok (.iconst 1, 1) := by decide +kernel
theorem dL_odds_11 : decode cL_odds 11 = .ok (.ireturn, 1) := by decide +kernel
theorem dL_odds_12 : decode cL_odds 12 = .ok (.iconst 0, 1) := by decide +kernel
theorem dL_odds_13 : decode cL_odds 13 = .ok (.ireturn, 1) := by decide +kernel
set_option maxRecDepth 20000 in
theorem ggL_kind_X10_kind : GoodIn wsL_kind wsX10_kind := goodIn_ca (goodIn_r _ [6, 7, 8, 9, 10, 11, 12, 5, 13, 14, 15, 16, 17, 18, 19, 20, 21, 22, 23, 24, 25, 26, 27, 28, 29, 30, 31, 32, 33, 34, 35, 36, 37, 38, 39, 40, 41, 42, 43, 44] (by decide +kernel) (by decide +kernel)) (goodIn_sub (fun _ h => List.mem_cons_of_mem _ (List.mem_append_right _ h)) (by decide +kernel))
set_option maxRecDepth 20000 in
theorem gL_kind_X10_kind : GoodIn wsL_kind (wsV RL 70 RX10 yX10_kind wsX10_kind) := goodIn_app (goodIn_of _ (by decide +kernel)) ggL_kind_X10_kind
theorem dL_kind_0 : decode cL_kind 0 = .ok (.aload_n 0, 1) := by decide +kernel
theorem dL_kind_1 : decode cL_kind 1 = .ok (.iload_n 1, 1) := by decide +kernel
theorem dL_kind_2 : decode cL_kind 2 = .ok (.iload_n 2, 1) := by decide +kernel
theorem dL_kind_3 : decode cL_kind 3 = .ok (.iload_n 3, 1) := by decide +kernel
theorem dL_kind_4 : decode cL_kind 4 = .ok (.invokevirtual 70, 3) := by decide +kernel
theorem dL_kind_7 : decode cL_kind 7 = .ok (.goto 7, 3) := by decide +kernel
theorem dL_kind_10 : decode cL_kind 10 = .ok (.astore 4, 2) := by decide +kernel
theorem dL_kind_12 : decode cL_kind 12 = .ok (.iconst 1, 1) := by decide +kernel
theorem dL_kind_13 : decode cL_kind 13 = .ok (.ireturn, 1) := by decide +kernel
theorem dL_kind_14 : decode cL_kind 14 = .ok (.iconst 0, 1) := by decide +kernel
theorem dL_kind_15 : decode cL_kind 15 = .ok (.ireturn, 1) := by decide +kernel
set_option maxRecDepth 20000 in
theorem ggL_seen_X10_seen : GoodIn wsL_seen wsX10_seen := goodIn_ca (goodIn_r _ [6, 7, 8, 9, 10, 11, 12, 5, 13, 14, 15, 16, 17, 18, 19, 20, 21, 22, 23, 24, 25, 26, 27, 28, 29, 30, 31, 32, 33, 34, 35, 36, 37, 38, 39, 40, 41, 42, 43, 44, 45, 46, 47, 48, 49, 50, 51, 52] (by decide +kernel) (by decide +kernel)) (goodIn_sub (fun _ h => List.mem_cons_of_mem _ (List.mem_append_right _ h)) (by decide +kernel))
set_option maxRecDepth 20000 in
theorem gL_seen_X10_seen : GoodIn wsL_seen (wsV RL 74 RX10 yX10_seen wsX10_seen) := goodIn_app (goodIn_of _ (by decide +kernel)) ggL_seen_X10_seen
theorem dL_seen_0 : decode cL_seen 0 = .ok (.aload_n 2, 1) := by decide +kernel
theorem dL_seen_1 : decode cL_seen 1 = .ok (.iconst 0, 1) := by decide +kernel
theorem dL_seen_2 : decode cL_seen 2 = .ok (.aload_n 0, 1) := by decide +kernel
theorem dL_seen_3 : decode cL_seen 3 = .ok (.iload_n 1, 1) := by decide +kernel
theorem dL_seen_4 : decode cL_seen 4 = .ok (.invokevirtual 74, 3) := by decide +kernel
theorem dL_seen_7 : decode cL_seen 7 = .ok (.i2l, 1) := by decide +kernel
theorem dL_seen_8 : decode cL_seen 8 = .ok (.lastore, 1) := by decide +kernel
theorem dL_seen_9 : decode cL_seen 9 = .ok (.goto 6, 3) := by decide +kernel
theorem dL_seen_12 : decode cL_seen 12 = .ok (.astore_n 3, 1) := by decide +kernel
theorem dL_seen_13 : decode cL_seen 13 = .ok (.iconst 1, 1) := by decide +kernel
theorem dL_seen_14 : decode cL_seen 14 = .ok (.ireturn, 1) := by decide +kernel
theorem dL_seen_15 : decode cL_seen 15 = .ok (.iconst 0, 1) := by decide +kernel
theorem dL_seen_16 : decode cL_seen 16 = .ok (.ireturn, 1) := by decide +kernel
set_option maxRecDepth 20000 in
theorem ggL_spy_X10_spy : GoodIn wsL_spy wsX10_spy := goodIn_ca (goodIn_r _ [6, 7, 8, 9, 10, 5, 11, 12, 13, 14, 15, 16, 17, 18, 19, 20, 21, 22, 23, 24, 25, 26, 27, 28, 29, 30, 31, 32, 33, 34, 35, 36, 37, 38, 39, 40, 41, 42, 43, 44, 45, 46, 47, 48, 49, 50] (by decide +kernel) (by decide +kernel)) (goodIn_sub (fun _ h => List.mem_cons_of_mem _ (List.mem_append_right _ h)) (by decide +kernel))
set_option maxRecDepth 20000 in
theorem gL_spy_X10_spy : GoodIn wsL_spy (wsV RL 77 RX10 yX10_spy wsX10_spy) := goodIn_app (goodIn_of _ (by decide +kernel)) ggL_spy_X10_spy
theorem dL_spy_0 : decode cL_spy 0 = .ok (.aload_n 3, 1) := by decide +kernel
theorem dL_spy_1 : decode cL_spy 1 = .ok (.iconst 0, 1) := by decide +kernel
theorem dL_spy_2 : decode cL_spy 2 = .ok (.aload_n 0, 1) := by decide +kernel
theorem dL_spy_3 : decode cL_spy 3 = .ok (.iload_n 1, 1) := by decide +kernel
theorem dL_spy_4 : decode cL_spy 4 = .ok (.iload_n 2, 1) := by decide +kernel
theorem dL_spy_5 : decode cL_spy 5 = .ok (.invokevirtual 77, 3) := by decide +kernel
theorem dL_spy_8 : decode cL_spy 8 = .ok (.i2l, 1) := by decide +kernel
theorem dL_spy_9 : decode cL_spy 9 = .ok (.lastore, 1) := by decide +kernel
theorem dL_spy_10 : decode cL_spy 10 = .ok (.goto 7, 3) := by decide +kernel
theorem dL_spy_13 : decode cL_spy 13 = .ok (.astore 4, 2) := by decide +kernel
theorem dL_spy_15 : decode cL_spy 15 = .ok (.iconst 1, 1) := by decide +kernel
theorem dL_spy_16 : decode cL_spy 16 = .ok (.ireturn, 1) := by decide +kernel
theorem dL_spy_17 : decode cL_spy 17 = .ok (.iconst 0, 1) := by decide +kernel
theorem dL_spy_18 : decode cL_spy 18 = .ok (.ireturn, 1) := by decide +kernel
set_option maxRecDepth 20000 in
theorem ggL_believed_X10_believed : GoodIn wsL_believed wsX10_believed := goodIn_ca (goodIn_r _ [6, 7, 8, 9, 10, 5, 11, 12, 13, 14, 15, 16, 17, 18, 19, 20, 21, 22, 23, 24, 25, 26, 27, 28, 29, 30, 31, 32, 33, 34, 35, 36, 37, 38, 39, 40, 41, 42, 43, 44, 45, 46, 47, 48, 49] (by decide +kernel) (by decide +kernel)) (goodIn_sub (fun _ h => List.mem_cons_of_mem _ (List.mem_append_right _ h)) (by decide +kernel))
set_option maxRecDepth 20000 in
theorem gL_believed_X10_believed : GoodIn wsL_believed (wsV RL 81 RX10 yX10_believed wsX10_believed) := goodIn_app (goodIn_of _ (by decide +kernel)) ggL_believed_X10_believed
theorem dL_believed_0 : decode cL_believed 0 = .ok (.aload_n 2, 1) := by decide +kernel
theorem dL_believed_1 : decode cL_believed 1 = .ok (.iconst 0, 1) := by decide +kernel
theorem dL_believed_2 : decode cL_believed 2 = .ok (.aload_n 0, 1) := by decide +kernel
theorem dL_believed_3 : decode cL_believed 3 = .ok (.iload_n 1, 1) := by decide +kernel
theorem dL_believed_4 : decode cL_believed 4 = .ok (.invokevirtual 81, 3) := by decide +kernel
theorem dL_believed_7 : decode cL_believed 7 = .ok (.lastore, 1) := by decide +kernel
theorem dL_believed_8 : decode cL_believed 8 = .ok (.goto 6, 3) := by decide +kernel
theorem dL_believed_11 : decode cL_believed 11 = .ok (.astore_n 3, 1) := by decide +kernel
theorem dL_believed_12 : decode cL_believed 12 = .ok (.iconst 1, 1) := by decide +kernel
theorem dL_believed_13 : decode cL_believed 13 = .ok (.ireturn, 1) := by decide +kernel
theorem dL_believed_14 : decode cL_believed 14 = .ok (.iconst 0, 1) := by decide +kernel
theorem dL_believed_15 : decode cL_believed 15 = .ok (.ireturn, 1) := by decide +kernel
set_option maxRecDepth 20000 in
theorem ggL_earnest_X10_earnest : GoodIn wsL_earnest wsX10_earnest := goodIn_ca (goodIn_r _ [6, 7, 8, 9, 10, 5, 11, 12, 13, 14, 15, 16, 17, 18, 19, 20, 21, 22, 23, 24, 25, 26, 27, 28, 29, 30, 31, 32, 33, 34, 35, 36, 37, 38, 39, 40, 41, 42, 43, 44, 45, 46, 47, 48, 49, 50, 51, 52, 53, 54, 55, 56, 57, 58, 59, 60, 61, 62, 63, 64, 65, 66, 67, 68, 69, 70, 71, 72, 73, 74, 75, 76, 77, 78, 79, 80, 81, 82, 83, 84, 85, 86, 87, 88, 89, 90, 91, 92, 93, 94, 95, 96, 97, 98, 99, 100, 101] (by decide +kernel) (by decide +kernel)) (goodIn_sub (fun _ h => List.mem_cons_of_mem _ (List.mem_append_right _ h)) (by decide +kernel))
set_option maxRecDepth 20000 in
theorem gL_earnest_X10_earnest : GoodIn wsL_earnest (wsV RL 85 RX10 yX10_earnest wsX10_earnest) := goodIn_app (goodIn_of _ (by decide +kernel)) ggL_earnest_X10_earnest
theorem dL_earnest_0 : decode cL_earnest 0 = .ok (.aload 4, 2) := by decide +kernel
theorem dL_earnest_2 : decode cL_earnest 2 = .ok (.iconst 0, 1) := by decide +kernel
theorem dL_earnest_3 : decode cL_earnest 3 = .ok (.aload_n 0, 1) := by decide +kernel
theorem dL_earnest_4 : decode cL_earnest 4 = .ok (.iload_n 1, 1) := by decide +kernel
theorem dL_earnest_5 : decode cL_earnest 5 = .ok (.iload_n 2, 1) := by decide +kernel
theorem dL_earnest_6 : decode cL_earnest 6 = .ok (.iload_n 3, 1) := by decide +kernel
theorem dL_earnest_7 : decode cL_earnest 7 = .ok (.invokevirtual 85, 3) := by decide +kernel
theorem dL_earnest_10 : decode cL_earnest 10 = .ok (.i2l, 1) := by decide +kernel
theorem dL_earnest_11 : decode cL_earnest 11 = .ok (.lastore, 1) := by decide +kernel
theorem dL_earnest_12 : decode cL_earnest 12 = .ok (.goto 7, 3) := by decide +kernel
theorem dL_earnest_15 : decode cL_earnest 15 = .ok (.astore 5, 2) := by decide +kernel
theorem dL_earnest_17 : decode cL_earnest 17 = .ok (.iconst 1, 1) := by decide +kernel
theorem dL_earnest_18 : decode cL_earnest 18 = .ok (.ireturn, 1) := by decide +kernel
theorem dL_earnest_19 : decode cL_earnest 19 = .ok (.iconst 0, 1) := by decide +kernel
theorem dL_earnest_20 : decode cL_earnest 20 = .ok (.ireturn, 1) := by decide +kernel
set_option maxRecDepth 20000 in
theorem ggL_stands_X10_stands : GoodIn wsL_stands wsX10_stands := goodIn_ca (goodIn_r _ [6, 7, 8, 9, 10, 11, 5, 12, 13, 14, 15, 16, 17, 18, 19, 20, 21, 22, 23, 24, 25, 26, 27, 28, 29, 30, 31, 32, 33, 34, 35, 36, 37, 38, 39, 40, 41, 42, 43, 44, 45, 46, 47, 48, 49, 50, 51, 52, 53, 54, 55, 56, 57, 58, 59, 60, 61, 62, 63, 64, 65, 66, 67, 68, 69, 70, 71, 72, 73, 74, 75, 76, 77, 78, 79, 80, 81, 82, 83, 84, 85, 86, 87, 88, 89] (by decide +kernel) (by decide +kernel)) (goodIn_sub (fun _ h => List.mem_cons_of_mem _ (List.mem_append_right _ h)) (by decide +kernel))
set_option maxRecDepth 20000 in
theorem gL_stands_X10_stands : GoodIn wsL_stands (wsV RL 88 RX10 yX10_stands wsX10_stands) := goodIn_app (goodIn_of _ (by decide +kernel)) ggL_stands_X10_stands
theorem dL_stands_0 : decode cL_stands 0 = .ok (.aload_n 3, 1) := by decide +kernel
theorem dL_stands_1 : decode cL_stands 1 = .ok (.iconst 0, 1) := by decide +kernel
theorem dL_stands_2 : decode cL_stands 2 = .ok (.aload_n 0, 1) := by decide +kernel
theorem dL_stands_3 : decode cL_stands 3 = .ok (.iload_n 1, 1) := by decide +kernel
theorem dL_stands_4 : decode cL_stands 4 = .ok (.iload_n 2, 1) := by decide +kernel
theorem dL_stands_5 : decode cL_stands 5 = .ok (.invokevirtual 88, 3) := by decide +kernel
theorem dL_stands_8 : decode cL_stands 8 = .ok (.i2l, 1) := by decide +kernel
theorem dL_stands_9 : decode cL_stands 9 = .ok (.lastore, 1) := by decide +kernel
theorem dL_stands_10 : decode cL_stands 10 = .ok (.goto 7, 3) := by decide +kernel
theorem dL_stands_13 : decode cL_stands 13 = .ok (.astore 4, 2) := by decide +kernel
theorem dL_stands_15 : decode cL_stands 15 = .ok (.iconst 1, 1) := by decide +kernel
theorem dL_stands_16 : decode cL_stands 16 = .ok (.ireturn, 1) := by decide +kernel
theorem dL_stands_17 : decode cL_stands 17 = .ok (.iconst 0, 1) := by decide +kernel
theorem dL_stands_18 : decode cL_stands 18 = .ok (.ireturn, 1) := by decide +kernel
set_option maxRecDepth 20000 in
theorem ggL_show_X10_show : GoodIn wsL_show wsX10_show := goodIn_ca (goodIn_r _ [6, 7, 8, 9, 10, 11, 5, 12, 13, 14, 15, 16, 17, 18, 19, 20, 21, 22, 23, 24, 25, 26, 27, 28, 29, 30, 31, 32, 33, 34, 35, 36, 37, 38, 39, 40, 41, 42, 43, 44, 45, 46, 47, 48, 49, 50, 51, 52, 53, 54, 55, 56, 57, 58, 59, 60, 61, 62, 63, 64, 65, 66, 67, 68, 69, 70, 71, 72, 73, 74, 75, 76, 77, 78, 79, 80, 81, 82, 83, 84, 85, 86, 87, 88, 89] (by decide +kernel) (by decide +kernel)) (goodIn_sub (fun _ h => List.mem_cons_of_mem _ (List.mem_append_right _ h)) (by decide +kernel))
set_option maxRecDepth 20000 in
theorem gL_show_X10_show : GoodIn wsL_show (wsV RL 91 RX10 yX10_show wsX10_show) := goodIn_app (goodIn_of _ (by decide +kernel)) ggL_show_X10_show
theorem dL_show_0 : decode cL_show 0 = .ok (.aload_n 3, 1) := by decide +kernel
theorem dL_show_1 : decode cL_show 1 = .ok (.iconst 0, 1) := by decide +kernel
theorem dL_show_2 : decode cL_show 2 = .ok (.aload_n 0, 1) := by decide +kernel
theorem dL_show_3 : decode cL_show 3 = .ok (.iload_n 1, 1) := by decide +kernel
theorem dL_show_4 : decode cL_show 4 = .ok (.iload_n 2, 1) := by decide +kernel
theorem dL_show_5 : decode cL_show 5 = .ok (.invokevirtual 91, 3) := by decide +kernel
theorem dL_show_8 : decode cL_show 8 = .ok (.i2l, 1) := by decide +kernel
theorem dL_show_9 : decode cL_show 9 = .ok (.lastore, 1) := by decide +kernel
theorem dL_show_10 : decode cL_show 10 = .ok (.goto 7, 3) := by decide +kernel
theorem dL_show_13 : decode cL_show 13 = .ok (.astore 4, 2) := by decide +kernel
theorem dL_show_15 : decode cL_show 15 = .ok (.iconst 1, 1) := by decide +kernel
theorem dL_show_16 : decode cL_show 16 = .ok (.ireturn, 1) := by decide +kernel
theorem dL_show_17 : decode cL_show 17 = .ok (.iconst 0, 1) := by decide +kernel
theorem dL_show_18 : decode cL_show 18 = .ok (.ireturn, 1) := by decide +kernel
set_option maxRecDepth 20000 in
theorem ggL_offers_X10_offers : GoodIn wsL_offers wsX10_offers := goodIn_ca (goodIn_r _ [6, 7, 8, 9, 10, 5, 11, 12, 13, 14, 15, 16, 17, 18, 19, 20, 21, 22, 23, 24, 25, 26, 27, 28, 29, 30, 31, 32, 33, 34, 35, 36, 37, 38, 39, 40, 41, 42, 43] (by decide +kernel) (by decide +kernel)) (goodIn_sub (fun _ h => List.mem_cons_of_mem _ (List.mem_append_right _ h)) (by decide +kernel))
set_option maxRecDepth 20000 in
theorem gL_offers_X10_offers : GoodIn wsL_offers (wsV RL 94 RX10 yX10_offers wsX10_offers) := goodIn_app (goodIn_of _ (by decide +kernel)) ggL_offers_X10_offers
theorem dL_offers_0 : decode cL_offers 0 = .ok (.aload 4, 2) := by decide +kernel
theorem dL_offers_2 : decode cL_offers 2 = .ok (.iconst 0, 1) := by decide +kernel
theorem dL_offers_3 : decode cL_offers 3 = .ok (.aload_n 0, 1) := by decide +kernel
theorem dL_offers_4 : decode cL_offers 4 = .ok (.iload_n 1, 1) := by decide +kernel
theorem dL_offers_5 : decode cL_offers 5 = .ok (.iload_n 2, 1) := by decide +kernel
theorem dL_offers_6 : decode cL_offers 6 = .ok (.iload_n 3, 1) := by decide +kernel
theorem dL_offers_7 : decode cL_offers 7 = .ok (.invokevirtual 94, 3) := by decide +kernel
theorem dL_offers_10 : decode cL_offers 10 = .ok (.i2l, 1) := by decide +kernel
theorem dL_offers_11 : decode cL_offers 11 = .ok (.lastore, 1) := by decide +kernel
theorem dL_offers_12 : decode cL_offers 12 = .ok (.goto 7, 3) := by decide +kernel
theorem dL_offers_15 : decode cL_offers 15 = .ok (.astore 5, 2) := by decide +kernel
theorem dL_offers_17 : decode cL_offers 17 = .ok (.iconst 1, 1) := by decide +kernel
theorem dL_offers_18 : decode cL_offers 18 = .ok (.ireturn, 1) := by decide +kernel
theorem dL_offers_19 : decode cL_offers 19 = .ok (.iconst 0, 1) := by decide +kernel
theorem dL_offers_20 : decode cL_offers 20 = .ok (.ireturn, 1) := by decide +kernel
set_option maxRecDepth 20000 in
theorem ggL_serves_X10_serves : GoodIn wsL_serves wsX10_serves := goodIn_ca (goodIn_r _ [6, 7, 8, 9, 10, 5, 11, 12, 13, 14, 15, 16, 17, 18, 19, 20, 21, 22, 23, 24, 25, 26, 27, 28, 29, 30, 31, 32, 33, 34, 35, 36, 37, 38, 39, 40, 41, 42, 43, 44, 45, 46, 47, 48, 49, 50, 51, 52, 53, 54, 55, 56, 57, 58, 59, 60, 61, 62, 63, 64, 65, 66, 67] (by decide +kernel) (by decide +kernel)) (goodIn_sub (fun _ h => List.mem_cons_of_mem _ (List.mem_append_right _ h)) (by decide +kernel))
set_option maxRecDepth 20000 in
theorem gL_serves_X10_serves : GoodIn wsL_serves (wsV RL 97 RX10 yX10_serves wsX10_serves) := goodIn_app (goodIn_of _ (by decide +kernel)) ggL_serves_X10_serves
theorem dL_serves_0 : decode cL_serves 0 = .ok (.aload_n 2, 1) := by decide +kernel
theorem dL_serves_1 : decode cL_serves 1 = .ok (.iconst 0, 1) := by decide +kernel
theorem dL_serves_2 : decode cL_serves 2 = .ok (.aload_n 0, 1) := by decide +kernel
theorem dL_serves_3 : decode cL_serves 3 = .ok (.iload_n 1, 1) := by decide +kernel
theorem dL_serves_4 : decode cL_serves 4 = .ok (.invokevirtual 97, 3) := by decide +kernel
theorem dL_serves_7 : decode cL_serves 7 = .ok (.i2l, 1) := by decide +kernel
theorem dL_serves_8 : decode cL_serves 8 = .ok (.lastore, 1) := by decide +kernel
theorem dL_serves_9 : decode cL_serves 9 = .ok (.goto 6, 3) := by decide +kernel
theorem dL_serves_12 : decode cL_serves 12 = .ok (.astore_n 3, 1) := by decide +kernel
theorem dL_serves_13 : decode cL_serves 13 = .ok (.iconst 1, 1) := by decide +kernel
theorem dL_serves_14 : decode cL_serves 14 = .ok (.ireturn, 1) := by decide +kernel
theorem dL_serves_15 : decode cL_serves 15 = .ok (.iconst 0, 1) := by decide +kernel
theorem dL_serves_16 : decode cL_serves 16 = .ok (.ireturn, 1) := by decide +kernel
set_option maxRecDepth 20000 in
theorem ggL_law_X10_init : GoodIn wsL_law wsX10_init := goodIn_r _ [9, 10, 11, 12, 13, 14, 15, 16, 17, 18, 19, 20, 21, 22, 23, 24, 25, 26, 27, 28, 29, 30, 31, 32, 33, 34, 35, 36, 37, 38, 39, 40, 41, 42, 43, 44, 45, 46, 47, 48, 49, 50, 51, 52, 53, 54, 55, 56, 57, 58, 59, 60, 61, 62, 63, 64, 65, 66, 67, 68, 69, 70, 71, 72, 73, 74, 75, 76, 77, 78, 79, 80, 81, 82, 83, 84, 85, 86, 87, 88, 89, 90, 91, 92, 93, 94, 95, 96, 97, 98, 99, 100, 101, 102, 103, 104, 105, 106, 107, 108, 109, 110, 111, 112, 113, 114, 115, 116, 117, 118, 119, 120, 121, 122, 123, 124, 125, 126, 127, 128, 1165, 1166, 1167, 1168, 1169, 1170, 1171, 1172, 1173, 1174, 1175, 1176, 1177, 1213, 1214, 1215, 1216, 1217, 1218, 1219, 1220, 1221, 1222, 1223, 1224, 1225, 1226, 1227, 1228, 1229, 1230, 1231, 1232, 1233, 1234, 1235, 1236, 1237, 1238, 1239, 1240, 1241, 1242, 1243, 1244, 1245, 1246, 1247, 1248] (by decide +kernel) (by decide +kernel)
set_option maxRecDepth 20000 in
theorem gL_law_X10_init : GoodIn wsL_law (wsX10_init) := ggL_law_X10_init
set_option maxRecDepth 20000 in
theorem ggL_law_X11_init : GoodIn wsL_law wsX11_init := goodIn_r _ [131, 132, 11, 12, 133, 39, 134, 135, 136, 137, 138, 139, 140, 141, 142, 143, 144, 145, 146, 147, 148, 149, 150, 151, 152, 153, 154, 155, 156, 157, 158, 5, 159, 160, 161, 162, 163, 164, 165, 166, 1178, 1179, 1180, 1181, 1182, 1183, 1184, 1185, 1186, 1187, 1188, 1189, 1190, 1191, 1192, 1193, 1194, 1195, 1196, 1197, 1198, 1199, 1200, 1201, 1202, 1203, 1204, 1205, 1206, 1207, 1208, 1209, 1210, 1211, 1212] (by decide +kernel) (by decide +kernel)
set_option maxRecDepth 20000 in
theorem gL_law_X11_init : GoodIn wsL_law (wsX11_init) := ggL_law_X11_init
set_option maxRecDepth 20000 in
theorem ggL_law_X10_feed : GoodIn wsL_law wsX10_feed := goodIn_r _ [170, 171, 172, 173, 174, 2, 175, 14, 1165, 1166, 1167, 1168, 1169, 1170, 1171, 1172, 1173, 1174, 1175, 1176, 1177] (by decide +kernel) (by decide +kernel)
set_option maxRecDepth 20000 in
theorem gL_law_X10_feed : GoodIn wsL_law (wsV RL 104 RX10 yX10_feed wsX10_feed) := goodIn_app (goodIn_of _ (by decide +kernel)) ggL_law_X10_feed
set_option maxRecDepth 20000 in
theorem ggL_law_X11_feed : GoodIn wsL_law wsX11_feed := goodIn_r _ [179, 180, 181, 134, 1178, 1179, 1180, 1181, 1182, 1183, 1184, 1185, 1186, 1187, 1188, 1189, 1190, 1191, 1192, 1193, 1194, 1195, 1196, 1197, 1198, 1199, 1200, 1201, 1202, 1203, 1204, 1205, 1206, 1207, 1208, 1209, 1210, 1211, 1212] (by decide +kernel) (by decide +kernel)
set_option maxRecDepth 20000 in
theorem gL_law_X11_feed : GoodIn wsL_law (wsV RL 108 RX11 yX11_feed wsX11_feed) := goodIn_app (goodIn_of _ (by decide +kernel)) ggL_law_X11_feed
set_option maxRecDepth 20000 in
theorem ggL_law_L_siege : GoodIn wsL_law wsL_siege := goodIn_ca (goodIn_r _ [185, 186, 187, 188, 189, 2, 190, 171, 23, 18, 14, 22, 191, 192, 29, 193, 194, 195, 196, 197, 198, 199, 40, 200, 63, 64, 21, 65, 66, 54, 53, 55, 201, 202, 203, 17, 204, 47, 205, 206, 207, 208, 209, 210, 211, 48, 212, 213, 214, 215, 42, 216, 217, 218, 219, 220, 221, 222, 223, 224, 225, 226, 227, 49, 228, 229, 230, 231, 232, 233, 234, 235, 236, 237, 238, 239, 240, 241, 242, 243, 244, 245, 246, 247, 248, 249, 250, 251, 252, 253, 254, 255, 256, 257, 258, 259, 260, 261, 262, 263, 264, 265, 266, 267, 268, 269, 270, 271, 272, 273, 274, 275, 276, 277, 278, 279, 280, 281, 282, 283, 284, 285, 286, 287, 288, 289, 290, 291, 292, 293, 294, 295, 296, 297, 298, 299, 300, 301, 302, 303, 304, 305, 306, 307, 308, 309, 310, 311, 312, 313, 314, 315, 316, 317, 318, 319, 320, 321, 322, 323, 324, 325, 326, 327, 328, 329, 330, 331, 332, 333, 334, 335, 336, 337, 338, 339, 340, 341, 342, 343, 344, 345, 346, 347, 348, 116, 115, 349, 350, 351, 352, 353, 354, 355, 56, 57, 356, 357, 358, 359, 360, 28, 361, 71, 79, 83, 362, 118, 119, 33, 120, 121, 87, 122, 123, 124, 125, 126, 127, 128, 363, 364, 365, 78, 366, 98, 100, 99, 101, 367, 368, 369, 370, 82, 371, 105, 372, 1165, 1166, 1167, 1168, 1169, 1170, 1171, 1172, 1173, 1174, 1175, 1176, 1177, 1219, 1220, 1221, 1222, 1223, 1213, 1214, 1215, 1216, 1217, 1218, 1236, 1237, 1238, 1224, 1225, 1226, 1227, 1228, 1229, 1230, 1240, 1241, 1242, 1243, 1244, 1245, 1246, 1247, 1248] (by decide +kernel) (by decide +kernel)) (goodIn_sub (fun _ h => List.mem_append_left _ (List.mem_append_left _ (List.mem_append_right _ h))) (by decide +kernel))
set_option maxRecDepth 20000 in
theorem gL_law_L_siege : GoodIn wsL_law (va_wsS RL 109 yL_siege wsL_siege) := goodIn_app (goodIn_of _ (by decide +kernel)) ggL_law_L_siege
set_option maxRecDepth 20000 in
theorem ggL_law_X11_siege : GoodIn wsL_law wsX11_siege := goodIn_r _ [376, 180, 181, 377, 378, 379, 380, 133, 137, 381, 382, 5, 383, 384, 385, 386, 387, 135, 388, 389, 390, 391, 392, 393, 394, 395, 396, 397, 398, 399, 400, 134, 156, 157, 158, 159, 39, 136, 401, 402, 403, 404, 139, 405, 406, 407, 408, 409, 410, 411, 412, 413, 414, 415, 416, 417, 418, 419, 420, 421, 422, 423, 424, 425, 426, 427, 428, 429, 430, 431, 432, 433, 434, 435, 436, 437, 438, 439, 160, 161, 162, 163, 145, 140, 148, 151, 153, 164, 149, 150, 165, 166, 1178, 1179, 1180, 1181, 1182, 1183, 1184, 1185, 1186, 1187, 1188, 1189, 1190, 1191, 1192, 1193, 1194, 1195, 1196, 1197, 1198, 1199, 1200, 1201, 1202, 1203, 1204, 1205, 1206, 1207, 1208, 1209, 1210, 1211, 1212] (by decide +kernel) (by decide +kernel)
set_option maxRecDepth 20000 in
theorem gL_law_X11_siege : GoodIn wsL_law (wsV RL 114 RX11 yX11_siege wsX11_siege) := goodIn_app (goodIn_of _ (by decide +kernel)) ggL_law_X11_siege
set_option maxRecDepth 20000 in
theorem ggL_law_L_contract : GoodIn wsL_law wsL_contract := goodIn_ca (goodIn_r _ [442, 186, 443, 444, 445, 2, 446, 171, 191, 18, 447, 25, 22, 193, 14, 194, 195, 196, 197, 198, 199, 40, 448, 449, 450, 42, 451, 333, 115, 116, 452, 126, 127, 128, 201, 202, 203, 17, 204, 47, 205, 206, 207, 208, 209, 210, 211, 48, 212, 213, 214, 215, 216, 217, 218, 21, 219, 220, 221, 222, 223, 224, 225, 226, 227, 49, 228, 229, 230, 231, 232, 233, 234, 235, 236, 237, 238, 239, 240, 241, 242, 243, 244, 245, 246, 247, 248, 249, 250, 251, 252, 253, 254, 255, 256, 257, 258, 259, 260, 261, 262, 263, 264, 265, 266, 267, 268, 269, 270, 271, 272, 273, 274, 275, 276, 277, 278, 279, 280, 281, 282, 283, 284, 285, 286, 287, 288, 289, 290, 291, 292, 293, 294, 295, 296, 297, 298, 299, 300, 301, 302, 303, 304, 305, 306, 307, 308, 66, 309, 310, 311, 312, 313, 314, 315, 316, 317, 318, 319, 320, 321, 322, 323, 324, 325, 326, 327, 328, 329, 330, 331, 332, 334, 335, 336, 337, 338, 339, 340, 341, 342, 343, 344, 345, 346, 347, 348, 349, 350, 351, 55, 54, 352, 353, 354, 355, 56, 57, 356, 357, 1165, 1166, 1167, 1168, 1169, 1170, 1171, 1172, 1173, 1174, 1175, 1176, 1177, 1213, 1214, 1215, 1216, 1217, 1218, 1219, 1220, 1221, 1222, 1223, 1236, 1237, 1238] (by decide +kernel) (by decide +kernel)) (goodIn_sub (fun _ h => List.mem_append_left _ (List.mem_append_left _ (List.mem_append_right _ h))) (by decide +kernel))
set_option maxRecDepth 20000 in
theorem gL_law_L_contract : GoodIn wsL_law (va_wsS RL 115 yL_contract wsL_contract) := goodIn_app (goodIn_of _ (by decide +kernel)) ggL_law_L_contract
set_option maxRecDepth 20000 in
theorem ggL_law_X11_contract : GoodIn wsL_law wsX11_contract := goodIn_r _ [456, 180, 181, 133, 164, 141, 142, 377, 378, 379, 380, 144, 143, 381, 382, 5, 383, 384, 385, 386, 387, 135, 388, 389, 390, 391, 392, 393, 394, 395, 396, 397, 398, 399, 400, 134, 457, 458, 459, 460, 137, 409, 410, 411, 412, 413, 414, 415, 416, 417, 418, 419, 420, 421, 422, 423, 424, 425, 426, 427, 428, 429, 430, 431, 432, 433, 434, 435, 436, 437, 438, 439, 1178, 1179, 1180, 1181, 1182, 1183, 1184, 1185, 1186, 1187, 1188, 1189, 1190, 1191, 1192, 1193, 1194, 1195, 1196, 1197, 1198, 1199, 1200, 1201, 1202, 1203, 1204, 1205, 1206, 1207, 1208, 1209, 1210, 1211, 1212] (by decide +kernel) (by decide +kernel)
set_option maxRecDepth 20000 in
theorem gL_law_X11_contract : GoodIn wsL_law (wsV RL 117 RX11 yX11_contract wsX11_contract) := goodIn_app (goodIn_of _ (by decide +kernel)) ggL_law_X11_contract
set_option maxRecDepth 20000 in
theorem ggL_law_X10_fault : GoodIn wsL_law wsX10_fault := goodIn_r _ [464, 18, 447, 1165, 1166, 1167, 1168, 1169, 1170, 1171, 1172, 1173, 1174, 1175, 1176, 1177, 1213, 1214, 1215, 1216, 1217, 1218] (by decide +kernel) (by decide +kernel)
set_option maxRecDepth 20000 in
theorem gL_law_X10_fault : GoodIn wsL_law (wsV RL 118 RX10 yX10_fault wsX10_fault) := goodIn_app (goodIn_of _ (by decide +kernel)) ggL_law_X10_fault
set_option maxRecDepth 20000 in
theorem ggL_law_X11_fault : GoodIn wsL_law wsX11_fault := goodIn_r _ [468, 180, 133, 1178, 1179, 1180, 1181, 1182, 1183, 1184, 1185, 1186, 1187, 1188, 1189, 1190, 1191, 1192, 1193, 1194, 1195, 1196, 1197, 1198, 1199, 1200, 1201, 1202, 1203, 1204, 1205, 1206, 1207, 1208, 1209, 1210, 1211, 1212] (by decide +kernel) (by decide +kernel)
set_option maxRecDepth 20000 in
theorem gL_law_X11_fault : GoodIn wsL_law (wsV RL 122 RX11 yX11_fault wsX11_fault) := goodIn_app (goodIn_of _ (by decide +kernel)) ggL_law_X11_fault
set_option maxRecDepth 20000 in
theorem ggL_law_L_told : GoodIn wsL_law wsL_told := goodIn_ca (goodIn_r _ [471, 186, 472, 473, 474, 2, 475, 29, 43, 476, 22, 193, 191, 477, 478, 318, 319, 194, 195, 196, 197, 198, 199, 40, 1165, 1166, 1167, 1168, 1169, 1170, 1171, 1172, 1173, 1174, 1175, 1176, 1177, 1224, 1225, 1226, 1227, 1228, 1229, 1230, 1219, 1220, 1221, 1222, 1223] (by decide +kernel) (by decide +kernel)) (goodIn_sub (fun _ h => List.mem_append_left _ (List.mem_append_left _ (List.mem_append_right _ h))) (by decide +kernel))
set_option maxRecDepth 20000 in
theorem gL_law_L_told : GoodIn wsL_law (va_wsS RL 123 yL_told wsL_told) := goodIn_app (goodIn_of _ (by decide +kernel)) ggL_law_L_told
set_option maxRecDepth 20000 in
theorem ggL_law_X11_told : GoodIn wsL_law wsX11_told := goodIn_r _ [482, 180, 137, 164, 145, 381, 382, 5, 383, 384, 385, 386, 387, 135, 1178, 1179, 1180, 1181, 1182, 1183, 1184, 1185, 1186, 1187, 1188, 1189, 1190, 1191, 1192, 1193, 1194, 1195, 1196, 1197, 1198, 1199, 1200, 1201, 1202, 1203, 1204, 1205, 1206, 1207, 1208, 1209, 1210, 1211, 1212] (by decide +kernel) (by decide +kernel)
set_option maxRecDepth 20000 in
theorem gL_law_X11_told : GoodIn wsL_law (wsV RL 125 RX11 yX11_told wsX11_told) := goodIn_app (goodIn_of _ (by decide +kernel)) ggL_law_X11_told
set_option maxRecDepth 20000 in
theorem ggL_law_L_wall : GoodIn wsL_law wsL_wall := goodIn_ca (goodIn_ca (goodIn_r _ [485, 486, 186, 487, 488, 489, 2, 490, 22, 491, 29, 43, 476, 492, 493, 494, 495, 496, 497, 498, 193, 40, 478, 318, 319, 194, 195, 196, 197, 198, 199, 1165, 1166, 1167, 1168, 1169, 1170, 1171, 1172, 1173, 1174, 1175, 1176, 1177, 1219, 1220, 1221, 1222, 1223, 1224, 1225, 1226, 1227, 1228, 1229, 1230] (by decide +kernel) (by decide +kernel)) (goodIn_sub (fun _ h => List.mem_append_left _ (List.mem_append_right _ h)) (by decide +kernel))) (goodIn_sub (fun _ h => List.mem_append_left _ (List.mem_append_left _ (List.mem_append_right _ h))) (by decide +kernel))
set_option maxRecDepth 20000 in
theorem gL_law_L_wall : GoodIn wsL_law (va_wsS RL 126 yL_wall wsL_wall) := goodIn_app (goodIn_of _ (by decide +kernel)) ggL_law_L_wall
set_option maxRecDepth 20000 in
theorem ggL_law_X11_wall : GoodIn wsL_law wsX11_wall := goodIn_r _ [502, 180, 140, 145, 503, 504, 505, 5, 506, 137, 381, 382, 383, 384, 385, 386, 387, 135, 1178, 1179, 1180, 1181, 1182, 1183, 1184, 1185, 1186, 1187, 1188, 1189, 1190, 1191, 1192, 1193, 1194, 1195, 1196, 1197, 1198, 1199, 1200, 1201, 1202, 1203, 1204, 1205, 1206, 1207, 1208, 1209, 1210, 1211, 1212] (by decide +kernel) (by decide +kernel)
set_option maxRecDepth 20000 in
theorem gL_law_X11_wall : GoodIn wsL_law (wsV RL 129 RX11 yX11_wall wsX11_wall) := goodIn_app (goodIn_of _ (by decide +kernel)) ggL_law_X11_wall
set_option maxRecDepth 20000 in
theorem ggL_law_L_rule : GoodIn wsL_law wsL_rule := goodIn_ca (goodIn_ca (goodIn_r _ [509, 510, 186, 511, 512, 513, 2, 514, 25, 515, 516, 517, 518, 519, 520, 191, 40, 478, 318, 319, 194, 195, 196, 197, 198, 199, 521, 522, 523, 42, 524, 115, 525, 526, 527, 528, 116, 529, 530, 531, 532, 1165, 1166, 1167, 1168, 1169, 1170, 1171, 1172, 1173, 1174, 1175, 1176, 1177, 1236, 1237, 1238] (by decide +kernel) (by decide +kernel)) (goodIn_sub (fun _ h => List.mem_append_right _ h) (by decide +kernel))) (goodIn_sub (fun _ h => List.mem_append_left _ (List.mem_append_left _ (List.mem_append_right _ h))) (by decide +kernel))
set_option maxRecDepth 20000 in
theorem gL_law_L_rule : GoodIn wsL_law (va_wsS RL 130 yL_rule wsL_rule) := goodIn_app (goodIn_of _ (by decide +kernel)) ggL_law_L_rule
set_option maxRecDepth 20000 in
theorem ggL_law_X11_rule : GoodIn wsL_law wsX11_rule := goodIn_r _ [536, 180, 143, 537, 538, 539, 5, 540, 164, 381, 382, 383, 384, 385, 386, 387, 135, 1178, 1179, 1180, 1181, 1182, 1183, 1184, 1185, 1186, 1187, 1188, 1189, 1190, 1191, 1192, 1193, 1194, 1195, 1196, 1197, 1198, 1199, 1200, 1201, 1202, 1203, 1204, 1205, 1206, 1207, 1208, 1209, 1210, 1211, 1212] (by decide +kernel) (by decide +kernel)
set_option maxRecDepth 20000 in
theorem gL_law_X11_rule : GoodIn wsL_law (wsV RL 132 RX11 yX11_rule wsX11_rule) := goodIn_app (goodIn_of _ (by decide +kernel)) ggL_law_X11_rule
set_option maxRecDepth 20000 in
theorem ggL_law_L_wants : GoodIn wsL_law wsL_wants := goodIn_ca (goodIn_r _ [543, 186, 544, 545, 546, 2, 547, 22, 478, 318, 319, 194, 195, 196, 197, 198, 199, 40, 548, 549, 550, 21, 551, 54, 1165, 1166, 1167, 1168, 1169, 1170, 1171, 1172, 1173, 1174, 1175, 1176, 1177, 1219, 1220, 1221, 1222, 1223] (by decide +kernel) (by decide +kernel)) (goodIn_sub (fun _ h => List.mem_append_left _ (List.mem_append_left _ (List.mem_append_right _ h))) (by decide +kernel))
set_option maxRecDepth 20000 in
theorem gL_law_L_wants : GoodIn wsL_law (va_wsS RL 133 yL_wants wsL_wants) := goodIn_app (goodIn_of _ (by decide +kernel)) ggL_law_L_wants
set_option maxRecDepth 20000 in
theorem ggL_law_X11_wants : GoodIn wsL_law wsX11_wants := goodIn_r _ [555, 180, 381, 382, 5, 383, 384, 385, 386, 387, 135, 556, 557, 558, 559, 137, 1178, 1179, 1180, 1181, 1182, 1183, 1184, 1185, 1186, 1187, 1188, 1189, 1190, 1191, 1192, 1193, 1194, 1195, 1196, 1197, 1198, 1199, 1200, 1201, 1202, 1203, 1204, 1205, 1206, 1207, 1208, 1209, 1210, 1211, 1212] (by decide +kernel) (by decide +kernel)
set_option maxRecDepth 20000 in
theorem gL_law_X11_wants : GoodIn wsL_law (wsV RL 135 RX11 yX11_wants wsX11_wants) := goodIn_app (goodIn_of _ (by decide +kernel)) ggL_law_X11_wants
set_option maxRecDepth 20000 in
theorem ggL_law_L_sign : GoodIn wsL_law wsL_sign := goodIn_ca (goodIn_r _ [562, 510, 563, 564, 565, 2, 566, 29, 43, 476, 567, 568, 569, 570, 515, 516, 517, 518, 519, 520, 191, 40, 478, 318, 319, 571, 572, 573, 33, 574, 87, 121, 1165, 1166, 1167, 1168, 1169, 1170, 1171, 1172, 1173, 1174, 1175, 1176, 1177, 1224, 1225, 1226, 1227, 1228, 1229, 1230] (by decide +kernel) (by decide +kernel)) (goodIn_sub (fun _ h => List.mem_append_right _ h) (by decide +kernel))
set_option maxRecDepth 20000 in
theorem gL_law_L_sign : GoodIn wsL_law (va_wsS RL 136 yL_sign wsL_sign) := goodIn_app (goodIn_of _ (by decide +kernel)) ggL_law_L_sign
set_option maxRecDepth 20000 in
theorem ggL_law_X11_sign : GoodIn wsL_law wsX11_sign := goodIn_r _ [578, 180, 145, 537, 538, 539, 5, 540, 164, 381, 382, 383, 384, 385, 386, 387, 135, 579, 580, 581, 582, 1178, 1179, 1180, 1181, 1182, 1183, 1184, 1185, 1186, 1187, 1188, 1189, 1190, 1191, 1192, 1193, 1194, 1195, 1196, 1197, 1198, 1199, 1200, 1201, 1202, 1203, 1204, 1205, 1206, 1207, 1208, 1209, 1210, 1211, 1212] (by decide +kernel) (by decide +kernel)
set_option maxRecDepth 20000 in
theorem gL_law_X11_sign : GoodIn wsL_law (wsV RL 138 RX11 yX11_sign wsX11_sign) := goodIn_app (goodIn_of _ (by decide +kernel)) ggL_law_X11_sign
set_option maxRecDepth 20000 in
theorem ggL_law_L_months : GoodIn wsL_law wsL_months := goodIn_ca (goodIn_r _ [585, 186, 586, 587, 588, 2, 589, 29, 43, 477, 590, 22, 478, 318, 319, 194, 195, 196, 197, 198, 199, 40, 591, 592, 593, 74, 594, 595, 596, 92, 597, 598, 599, 600, 601, 602, 603, 604, 476, 25, 605, 606, 607, 33, 608, 88, 87, 122, 609, 610, 611, 207, 612, 121, 125, 126, 127, 128, 613, 614, 615, 616, 617, 206, 208, 618, 619, 620, 621, 622, 623, 624, 42, 625, 115, 529, 530, 531, 532, 626, 627, 628, 629, 123, 630, 631, 632, 633, 116, 634, 635, 636, 637, 638, 639, 640, 641, 124, 642, 643, 644, 645, 646, 647, 648, 21, 649, 55, 650, 651, 652, 653, 654, 655, 656, 657, 658, 659, 660, 661, 662, 663, 664, 665, 666, 1165, 1166, 1167, 1168, 1169, 1170, 1171, 1172, 1173, 1174, 1175, 1176, 1177, 1224, 1225, 1226, 1227, 1228, 1229, 1230, 1239, 1219, 1220, 1221, 1222, 1223, 1236, 1237, 1238] (by decide +kernel) (by decide +kernel)) (goodIn_sub (fun _ h => List.mem_append_left _ (List.mem_append_left _ (List.mem_append_right _ h))) (by decide +kernel))
set_option maxRecDepth 20000 in
theorem gL_law_L_months : GoodIn wsL_law (va_wsS RL 139 yL_months wsL_months) := goodIn_app (goodIn_of _ (by decide +kernel)) ggL_law_L_months
set_option maxRecDepth 20000 in
theorem ggL_law_X11_months : GoodIn wsL_law wsX11_months := goodIn_r _ [670, 180, 671, 145, 147, 148, 381, 382, 5, 383, 384, 385, 386, 387, 135, 672, 673, 674, 675, 137, 143, 676, 677, 678, 679, 680, 681, 682, 683, 684, 685, 686, 144, 579, 580, 581, 582, 687, 688, 689, 690, 140, 691, 692, 693, 694, 695, 696, 697, 698, 699, 700, 701, 702, 703, 704, 705, 706, 1178, 1179, 1180, 1181, 1182, 1183, 1184, 1185, 1186, 1187, 1188, 1189, 1190, 1191, 1192, 1193, 1194, 1195, 1196, 1197, 1198, 1199, 1200, 1201, 1202, 1203, 1204, 1205, 1206, 1207, 1208, 1209, 1210, 1211, 1212] (by decide +kernel) (by decide +kernel)
set_option maxRecDepth 20000 in
theorem gL_law_X11_months : GoodIn wsL_law (wsV RL 141 RX11 yX11_months wsX11_months) := goodIn_app (goodIn_of _ (by decide +kernel)) ggL_law_X11_months
set_option maxRecDepth 20000 in
theorem ggL_law_L_undo : GoodIn wsL_law wsL_undo := goodIn_ca (goodIn_r _ [709, 186, 710, 711, 712, 2, 713, 29, 43, 477, 714, 206, 207, 208, 590, 478, 318, 319, 194, 195, 196, 197, 198, 199, 40, 715, 716, 717, 74, 718, 92, 596, 597, 598, 599, 600, 595, 1165, 1166, 1167, 1168, 1169, 1170, 1171, 1172, 1173, 1174, 1175, 1176, 1177, 1224, 1225, 1226, 1227, 1228, 1229, 1230, 1239] (by decide +kernel) (by decide +kernel)) (goodIn_sub (fun _ h => List.mem_append_left _ (List.mem_append_left _ (List.mem_append_right _ h))) (by decide +kernel))
set_option maxRecDepth 20000 in
theorem gL_law_L_undo : GoodIn wsL_law (va_wsS RL 142 yL_undo wsL_undo) := goodIn_app (goodIn_of _ (by decide +kernel)) ggL_law_L_undo
set_option maxRecDepth 20000 in
theorem ggL_law_X11_undo : GoodIn wsL_law wsX11_undo := goodIn_r _ [722, 180, 145, 147, 381, 382, 5, 383, 384, 385, 386, 387, 135, 680, 681, 682, 1178, 1179, 1180, 1181, 1182, 1183, 1184, 1185, 1186, 1187, 1188, 1189, 1190, 1191, 1192, 1193, 1194, 1195, 1196, 1197, 1198, 1199, 1200, 1201, 1202, 1203, 1204, 1205, 1206, 1207, 1208, 1209, 1210, 1211, 1212] (by decide +kernel) (by decide +kernel)
set_option maxRecDepth 20000 in
theorem gL_law_X11_undo : GoodIn wsL_law (wsV RL 144 RX11 yX11_undo wsX11_undo) := goodIn_app (goodIn_of _ (by decide +kernel)) ggL_law_X11_undo
set_option maxRecDepth 20000 in
theorem ggL_law_L_sums : GoodIn wsL_law wsL_sums := goodIn_ca (goodIn_r _ [725, 186, 726, 727, 728, 2, 729, 29, 43, 476, 478, 318, 319, 194, 195, 196, 197, 198, 199, 40, 1165, 1166, 1167, 1168, 1169, 1170, 1171, 1172, 1173, 1174, 1175, 1176, 1177, 1224, 1225, 1226, 1227, 1228, 1229, 1230] (by decide +kernel) (by decide +kernel)) (goodIn_sub (fun _ h => List.mem_append_left _ (List.mem_append_left _ (List.mem_append_right _ h))) (by decide +kernel))
set_option maxRecDepth 20000 in
theorem gL_law_L_sums : GoodIn wsL_law (va_wsS RL 145 yL_sums wsL_sums) := goodIn_app (goodIn_of _ (by decide +kernel)) ggL_law_L_sums
set_option maxRecDepth 20000 in
theorem ggL_law_X11_sums : GoodIn wsL_law wsX11_sums := goodIn_r _ [733, 180, 145, 381, 382, 5, 383, 384, 385, 386, 387, 135, 1178, 1179, 1180, 1181, 1182, 1183, 1184, 1185, 1186, 1187, 1188, 1189, 1190, 1191, 1192, 1193, 1194, 1195, 1196, 1197, 1198, 1199, 1200, 1201, 1202, 1203, 1204, 1205, 1206, 1207, 1208, 1209, 1210, 1211, 1212] (by decide +kernel) (by decide +kernel)
set_option maxRecDepth 20000 in
theorem gL_law_X11_sums : GoodIn wsL_law (wsV RL 147 RX11 yX11_sums wsX11_sums) := goodIn_app (goodIn_of _ (by decide +kernel)) ggL_law_X11_sums
set_option maxRecDepth 20000 in
theorem ggL_law_L_corks : GoodIn wsL_law wsL_corks := goodIn_ca (goodIn_ca (goodIn_r _ [736, 486, 186, 737, 738, 739, 2, 740, 29, 43, 477, 590, 493, 494, 495, 496, 497, 498, 22, 193, 40, 478, 318, 319, 194, 195, 196, 197, 198, 199, 741, 742, 743, 74, 744, 92, 1165, 1166, 1167, 1168, 1169, 1170, 1171, 1172, 1173, 1174, 1175, 1176, 1177, 1224, 1225, 1226, 1227, 1228, 1229, 1230, 1219, 1220, 1221, 1222, 1223, 1239] (by decide +kernel) (by decide +kernel)) (goodIn_sub (fun _ h => List.mem_append_left _ (List.mem_append_right _ h)) (by decide +kernel))) (goodIn_sub (fun _ h => List.mem_append_left _ (List.mem_append_left _ (List.mem_append_right _ h))) (by decide +kernel))
set_option maxRecDepth 20000 in
theorem gL_law_L_corks : GoodIn wsL_law (va_wsS RL 148 yL_corks wsL_corks) := goodIn_app (goodIn_of _ (by decide +kernel)) ggL_law_L_corks
set_option maxRecDepth 20000 in
theorem ggL_law_X11_corks : GoodIn wsL_law wsX11_corks := goodIn_r _ [748, 180, 145, 148, 503, 504, 505, 5, 506, 137, 381, 382, 383, 384, 385, 386, 387, 135, 1178, 1179, 1180, 1181, 1182, 1183, 1184, 1185, 1186, 1187, 1188, 1189, 1190, 1191, 1192, 1193, 1194, 1195, 1196, 1197, 1198, 1199, 1200, 1201, 1202, 1203, 1204, 1205, 1206, 1207, 1208, 1209, 1210, 1211, 1212] (by decide +kernel) (by decide +kernel)
set_option maxRecDepth 20000 in
theorem gL_law_X11_corks : GoodIn wsL_law (wsV RL 150 RX11 yX11_corks wsX11_corks) := goodIn_app (goodIn_of _ (by decide +kernel)) ggL_law_X11_corks
set_option maxRecDepth 20000 in
theorem ggL_law_L_would : GoodIn wsL_law wsL_would := goodIn_ca (goodIn_ca (goodIn_r _ [751, 510, 186, 752, 753, 754, 2, 755, 34, 476, 567, 568, 569, 570, 515, 516, 517, 518, 519, 520, 191, 40, 478, 318, 319, 194, 195, 196, 197, 198, 199, 756, 757, 758, 759, 29, 43, 760, 761, 762, 33, 763, 87, 764, 598, 599, 600, 121, 571, 572, 573, 574, 765, 766, 767, 768, 477, 22, 601, 602, 603, 604, 25, 605, 606, 607, 608, 88, 122, 609, 610, 611, 207, 612, 125, 126, 127, 128, 613, 614, 615, 616, 617, 206, 208, 618, 619, 620, 621, 622, 623, 624, 42, 625, 115, 529, 530, 531, 532, 626, 627, 628, 629, 123, 630, 631, 632, 633, 116, 634, 635, 636, 637, 638, 639, 640, 641, 124, 642, 643, 644, 645, 646, 647, 648, 21, 649, 55, 650, 651, 652, 653, 654, 655, 656, 657, 658, 659, 660, 661, 1165, 1166, 1167, 1168, 1169, 1170, 1171, 1172, 1173, 1174, 1175, 1176, 1177, 1228, 1229, 1230, 1224, 1225, 1226, 1227, 1219, 1220, 1221, 1222, 1223, 1236, 1237, 1238] (by decide +kernel) (by decide +kernel)) (goodIn_sub (fun _ h => List.mem_append_right _ h) (by decide +kernel))) (goodIn_sub (fun _ h => List.mem_append_left _ (List.mem_append_left _ (List.mem_append_right _ h))) (by decide +kernel))
set_option maxRecDepth 20000 in
theorem gL_law_L_would : GoodIn wsL_law (va_wsS RL 151 yL_would wsL_would) := goodIn_app (goodIn_of _ (by decide +kernel)) ggL_law_L_would
set_option maxRecDepth 20000 in
theorem ggL_law_X11_would : GoodIn wsL_law wsX11_would := goodIn_r _ [772, 180, 537, 538, 539, 5, 540, 164, 381, 382, 383, 384, 385, 386, 387, 135, 773, 774, 775, 776, 777, 778, 779, 145, 780, 781, 782, 783, 146, 579, 580, 581, 582, 784, 785, 786, 787, 672, 673, 674, 675, 137, 143, 676, 677, 678, 679, 680, 681, 682, 683, 684, 685, 686, 144, 687, 688, 689, 690, 671, 148, 140, 691, 692, 693, 694, 695, 696, 697, 698, 699, 700, 701, 702, 703, 704, 705, 706, 788, 789, 790, 791, 1178, 1179, 1180, 1181, 1182, 1183, 1184, 1185, 1186, 1187, 1188, 1189, 1190, 1191, 1192, 1193, 1194, 1195, 1196, 1197, 1198, 1199, 1200, 1201, 1202, 1203, 1204, 1205, 1206, 1207, 1208, 1209, 1210, 1211, 1212] (by decide +kernel) (by decide +kernel)
set_option maxRecDepth 20000 in
theorem gL_law_X11_would : GoodIn wsL_law (wsV RL 154 RX11 yX11_would wsX11_would) := goodIn_app (goodIn_of _ (by decide +kernel)) ggL_law_X11_would
set_option maxRecDepth 20000 in
theorem ggL_law_L_best : GoodIn wsL_law wsL_best := goodIn_ca (goodIn_r _ [794, 186, 795, 796, 797, 2, 798, 191, 478, 318, 319, 194, 195, 196, 197, 198, 199, 40, 756, 757, 758, 759, 34, 29, 43, 476, 760, 761, 762, 33, 763, 87, 764, 598, 599, 600, 121, 571, 572, 573, 574, 765, 766, 767, 768, 477, 22, 601, 602, 603, 604, 25, 605, 606, 607, 608, 88, 122, 609, 610, 611, 207, 612, 125, 126, 127, 128, 613, 614, 615, 616, 617, 206, 208, 618, 619, 620, 621, 622, 623, 624, 42, 625, 115, 529, 530, 531, 532, 626, 627, 628, 629, 123, 630, 631, 632, 633, 116, 634, 635, 636, 637, 638, 639, 640, 641, 124, 642, 643, 644, 645, 646, 647, 648, 21, 649, 55, 650, 651, 652, 653, 654, 655, 656, 657, 658, 659, 660, 661, 1165, 1166, 1167, 1168, 1169, 1170, 1171, 1172, 1173, 1174, 1175, 1176, 1177, 1224, 1225, 1226, 1227, 1228, 1229, 1230, 1219, 1220, 1221, 1222, 1223, 1236, 1237, 1238] (by decide +kernel) (by decide +kernel)) (goodIn_sub (fun _ h => List.mem_append_left _ (List.mem_append_left _ (List.mem_append_right _ h))) (by decide +kernel))
set_option maxRecDepth 20000 in
theorem gL_law_L_best : GoodIn wsL_law (va_wsS RL 155 yL_best wsL_best) := goodIn_app (goodIn_of _ (by decide +kernel)) ggL_law_L_best
set_option maxRecDepth 20000 in
theorem ggL_law_X11_best : GoodIn wsL_law wsX11_best := goodIn_r _ [802, 180, 164, 773, 774, 5, 775, 381, 382, 383, 384, 385, 386, 387, 135, 776, 777, 778, 779, 145, 780, 781, 782, 783, 146, 579, 580, 581, 582, 784, 785, 786, 787, 672, 673, 674, 675, 137, 143, 676, 677, 678, 679, 680, 681, 682, 683, 684, 685, 686, 144, 687, 688, 689, 690, 671, 148, 140, 691, 692, 693, 694, 695, 696, 697, 698, 699, 700, 701, 702, 703, 704, 705, 706, 788, 789, 790, 791, 1178, 1179, 1180, 1181, 1182, 1183, 1184, 1185, 1186, 1187, 1188, 1189, 1190, 1191, 1192, 1193, 1194, 1195, 1196, 1197, 1198, 1199, 1200, 1201, 1202, 1203, 1204, 1205, 1206, 1207, 1208, 1209, 1210, 1211, 1212] (by decide +kernel) (by decide +kernel)
set_option maxRecDepth 20000 in
theorem gL_law_X11_best : GoodIn wsL_law (wsV RL 157 RX11 yX11_best wsX11_best) := goodIn_app (goodIn_of _ (by decide +kernel)) ggL_law_X11_best
set_option maxRecDepth 20000 in
theorem ggL_law_L_offer : GoodIn wsL_law wsL_offer := goodIn_ca (goodIn_r _ [805, 186, 806, 807, 808, 2, 809, 25, 22, 478, 318, 319, 194, 195, 196, 197, 198, 199, 40, 548, 549, 550, 21, 551, 54, 810, 811, 812, 42, 813, 115, 814, 449, 450, 451, 333, 116, 452, 126, 127, 128, 756, 757, 758, 759, 34, 29, 43, 476, 760, 761, 762, 33, 763, 87, 764, 598, 599, 600, 121, 571, 572, 573, 574, 765, 766, 767, 768, 477, 601, 602, 603, 604, 605, 606, 607, 608, 88, 122, 609, 610, 611, 207, 612, 125, 613, 614, 615, 616, 617, 206, 208, 618, 619, 620, 621, 622, 623, 624, 625, 529, 530, 531, 532, 626, 627, 628, 629, 123, 630, 631, 632, 633, 634, 635, 636, 637, 638, 639, 640, 641, 124, 642, 643, 644, 645, 646, 647, 648, 649, 55, 650, 651, 652, 653, 654, 655, 656, 657, 658, 659, 660, 661, 1165, 1166, 1167, 1168, 1169, 1170, 1171, 1172, 1173, 1174, 1175, 1176, 1177, 1219, 1220, 1221, 1222, 1223, 1236, 1237, 1238, 1224, 1225, 1226, 1227, 1228, 1229, 1230] (by decide +kernel) (by decide +kernel)) (goodIn_sub (fun _ h => List.mem_append_left _ (List.mem_append_left _ (List.mem_append_right _ h))) (by decide +kernel))
set_option maxRecDepth 20000 in
theorem gL_law_L_offer : GoodIn wsL_law (va_wsS RL 158 yL_offer wsL_offer) := goodIn_app (goodIn_of _ (by decide +kernel)) ggL_law_L_offer
set_option maxRecDepth 20000 in
theorem ggL_law_X11_offer : GoodIn wsL_law wsX11_offer := goodIn_r _ [818, 180, 143, 144, 773, 774, 5, 775, 381, 382, 383, 384, 385, 386, 387, 135, 556, 557, 558, 559, 137, 819, 820, 821, 822, 145, 780, 781, 782, 783, 146, 579, 580, 581, 582, 672, 673, 674, 675, 676, 677, 678, 679, 680, 681, 682, 683, 684, 685, 686, 687, 688, 689, 690, 671, 148, 140, 691, 692, 693, 694, 695, 696, 697, 698, 699, 700, 701, 702, 703, 704, 705, 706, 788, 789, 790, 791, 1178, 1179, 1180, 1181, 1182, 1183, 1184, 1185, 1186, 1187, 1188, 1189, 1190, 1191, 1192, 1193, 1194, 1195, 1196, 1197, 1198, 1199, 1200, 1201, 1202, 1203, 1204, 1205, 1206, 1207, 1208, 1209, 1210, 1211, 1212] (by decide +kernel) (by decide +kernel)
set_option maxRecDepth 20000 in
theorem gL_law_X11_offer : GoodIn wsL_law (wsV RL 160 RX11 yX11_offer wsX11_offer) := goodIn_app (goodIn_of _ (by decide +kernel)) ggL_law_X11_offer
set_option maxRecDepth 20000 in
theorem ggL_law_L_nearest : GoodIn wsL_law wsL_nearest := goodIn_ca (goodIn_r _ [825, 186, 826, 827, 828, 2, 829, 22, 478, 318, 319, 194, 195, 196, 197, 198, 199, 40, 548, 549, 550, 21, 551, 54, 1165, 1166, 1167, 1168, 1169, 1170, 1171, 1172, 1173, 1174, 1175, 1176, 1177, 1219, 1220, 1221, 1222, 1223] (by decide +kernel) (by decide +kernel)) (goodIn_sub (fun _ h => List.mem_append_left _ (List.mem_append_left _ (List.mem_append_right _ h))) (by decide +kernel))
set_option maxRecDepth 20000 in
theorem gL_law_L_nearest : GoodIn wsL_law (va_wsS RL 161 yL_nearest wsL_nearest) := goodIn_app (goodIn_of _ (by decide +kernel)) ggL_law_L_nearest
set_option maxRecDepth 20000 in
theorem ggL_law_X11_nearest : GoodIn wsL_law wsX11_nearest := goodIn_r _ [833, 180, 381, 382, 5, 383, 384, 385, 386, 387, 135, 556, 557, 558, 559, 137, 1178, 1179, 1180, 1181, 1182, 1183, 1184, 1185, 1186, 1187, 1188, 1189, 1190, 1191, 1192, 1193, 1194, 1195, 1196, 1197, 1198, 1199, 1200, 1201, 1202, 1203, 1204, 1205, 1206, 1207, 1208, 1209, 1210, 1211, 1212] (by decide +kernel) (by decide +kernel)
set_option maxRecDepth 20000 in
theorem gL_law_X11_nearest : GoodIn wsL_law (wsV RL 163 RX11 yX11_nearest wsX11_nearest) := goodIn_app (goodIn_of _ (by decide +kernel)) ggL_law_X11_nearest
set_option maxRecDepth 20000 in
theorem ggL_law_L_stop : GoodIn wsL_law wsL_stop := goodIn_ca (goodIn_r _ [836, 186, 837, 838, 839, 2, 840, 34, 29, 43, 476, 478, 318, 319, 194, 195, 196, 197, 198, 199, 40, 760, 761, 762, 33, 763, 87, 764, 598, 599, 600, 121, 765, 766, 767, 768, 477, 22, 601, 602, 603, 604, 25, 605, 606, 607, 608, 88, 122, 609, 610, 611, 207, 612, 125, 126, 127, 128, 613, 614, 615, 616, 617, 206, 208, 618, 619, 620, 621, 622, 623, 624, 42, 625, 115, 529, 530, 531, 532, 626, 627, 628, 629, 123, 630, 631, 632, 633, 116, 634, 635, 636, 637, 638, 639, 640, 641, 124, 642, 643, 644, 645, 646, 647, 648, 21, 649, 55, 650, 651, 652, 653, 654, 655, 656, 657, 658, 659, 660, 661, 571, 572, 573, 574, 1165, 1166, 1167, 1168, 1169, 1170, 1171, 1172, 1173, 1174, 1175, 1176, 1177, 1224, 1225, 1226, 1227, 1228, 1229, 1230, 1219, 1220, 1221, 1222, 1223, 1236, 1237, 1238] (by decide +kernel) (by decide +kernel)) (goodIn_sub (fun _ h => List.mem_append_left _ (List.mem_append_left _ (List.mem_append_right _ h))) (by decide +kernel))
set_option maxRecDepth 20000 in
theorem gL_law_L_stop : GoodIn wsL_law (va_wsS RL 164 yL_stop wsL_stop) := goodIn_app (goodIn_of _ (by decide +kernel)) ggL_law_L_stop
set_option maxRecDepth 20000 in
theorem ggL_law_X11_stop : GoodIn wsL_law wsX11_stop := goodIn_r _ [844, 180, 145, 773, 774, 5, 775, 381, 382, 383, 384, 385, 386, 387, 135, 780, 781, 782, 783, 146, 784, 785, 786, 787, 672, 673, 674, 675, 137, 143, 676, 677, 678, 679, 680, 681, 682, 683, 684, 685, 686, 144, 579, 580, 581, 582, 687, 688, 689, 690, 671, 148, 140, 691, 692, 693, 694, 695, 696, 697, 698, 699, 700, 701, 702, 703, 704, 705, 706, 788, 789, 790, 791, 1178, 1179, 1180, 1181, 1182, 1183, 1184, 1185, 1186, 1187, 1188, 1189, 1190, 1191, 1192, 1193, 1194, 1195, 1196, 1197, 1198, 1199, 1200, 1201, 1202, 1203, 1204, 1205, 1206, 1207, 1208, 1209, 1210, 1211, 1212] (by decide +kernel) (by decide +kernel)
set_option maxRecDepth 20000 in
theorem gL_law_X11_stop : GoodIn wsL_law (wsV RL 166 RX11 yX11_stop wsX11_stop) := goodIn_app (goodIn_of _ (by decide +kernel)) ggL_law_X11_stop
set_option maxRecDepth 20000 in
theorem ggL_law_L_odds : GoodIn wsL_law wsL_odds := goodIn_ca (goodIn_r _ [847, 186, 848, 849, 850, 2, 851, 29, 852, 478, 318, 319, 194, 195, 196, 197, 198, 199, 40, 853, 854, 855, 78, 856, 98, 99, 857, 364, 365, 366, 100, 101, 367, 1165, 1166, 1167, 1168, 1169, 1170, 1171, 1172, 1173, 1174, 1175, 1176, 1177, 1224, 1225, 1226, 1227, 1240, 1241, 1242, 1243, 1244, 1245, 1246] (by decide +kernel) (by decide +kernel)) (goodIn_sub (fun _ h => List.mem_append_left _ (List.mem_append_left _ (List.mem_append_right _ h))) (by decide +kernel))
set_option maxRecDepth 20000 in
theorem gL_law_L_odds : GoodIn wsL_law (va_wsS RL 167 yL_odds wsL_odds) := goodIn_app (goodIn_of _ (by decide +kernel)) ggL_law_L_odds
set_option maxRecDepth 20000 in
theorem ggL_law_X11_odds : GoodIn wsL_law wsX11_odds := goodIn_r _ [861, 180, 149, 150, 165, 381, 382, 5, 383, 384, 385, 386, 387, 135, 1178, 1179, 1180, 1181, 1182, 1183, 1184, 1185, 1186, 1187, 1188, 1189, 1190, 1191, 1192, 1193, 1194, 1195, 1196, 1197, 1198, 1199, 1200, 1201, 1202, 1203, 1204, 1205, 1206, 1207, 1208, 1209, 1210, 1211, 1212] (by decide +kernel) (by decide +kernel)
set_option maxRecDepth 20000 in
theorem gL_law_X11_odds : GoodIn wsL_law (wsV RL 170 RX11 yX11_odds wsX11_odds) := goodIn_app (goodIn_of _ (by decide +kernel)) ggL_law_X11_odds
set_option maxRecDepth 20000 in
theorem ggL_law_L_kind : GoodIn wsL_law wsL_kind := goodIn_ca (goodIn_r _ [864, 186, 865, 866, 867, 2, 868, 29, 852, 869, 870, 478, 318, 319, 194, 195, 196, 197, 198, 199, 40, 1165, 1166, 1167, 1168, 1169, 1170, 1171, 1172, 1173, 1174, 1175, 1176, 1177, 1224, 1225, 1226, 1227, 1240, 1241, 1242, 1243, 1244, 1245, 1246] (by decide +kernel) (by decide +kernel)) (goodIn_sub (fun _ h => List.mem_append_left _ (List.mem_append_left _ (List.mem_append_right _ h))) (by decide +kernel))
set_option maxRecDepth 20000 in
theorem gL_law_L_kind : GoodIn wsL_law (va_wsS RL 171 yL_kind wsL_kind) := goodIn_app (goodIn_of _ (by decide +kernel)) ggL_law_L_kind
set_option maxRecDepth 20000 in
theorem ggL_law_X11_kind : GoodIn wsL_law wsX11_kind := goodIn_r _ [874, 180, 151, 381, 382, 5, 383, 384, 385, 386, 387, 135, 1178, 1179, 1180, 1181, 1182, 1183, 1184, 1185, 1186, 1187, 1188, 1189, 1190, 1191, 1192, 1193, 1194, 1195, 1196, 1197, 1198, 1199, 1200, 1201, 1202, 1203, 1204, 1205, 1206, 1207, 1208, 1209, 1210, 1211, 1212] (by decide +kernel) (by decide +kernel)
set_option maxRecDepth 20000 in
theorem gL_law_X11_kind : GoodIn wsL_law (wsV RL 174 RX11 yX11_kind wsX11_kind) := goodIn_app (goodIn_of _ (by decide +kernel)) ggL_law_X11_kind
set_option maxRecDepth 20000 in
theorem ggL_law_L_seen : GoodIn wsL_law wsL_seen := goodIn_ca (goodIn_r _ [877, 186, 878, 879, 880, 2, 881, 29, 852, 869, 870, 478, 318, 319, 194, 195, 196, 197, 198, 199, 40, 882, 883, 884, 78, 885, 367, 100, 101, 1165, 1166, 1167, 1168, 1169, 1170, 1171, 1172, 1173, 1174, 1175, 1176, 1177, 1224, 1225, 1226, 1227, 1240, 1241, 1242, 1243, 1244, 1245, 1246] (by decide +kernel) (by decide +kernel)) (goodIn_sub (fun _ h => List.mem_append_left _ (List.mem_append_left _ (List.mem_append_right _ h))) (by decide +kernel))
set_option maxRecDepth 20000 in
theorem gL_law_L_seen : GoodIn wsL_law (va_wsS RL 175 yL_seen wsL_seen) := goodIn_app (goodIn_of _ (by decide +kernel)) ggL_law_L_seen
set_option maxRecDepth 20000 in
theorem ggL_law_X11_seen : GoodIn wsL_law wsX11_seen := goodIn_r _ [889, 180, 151, 381, 382, 5, 383, 384, 385, 386, 387, 135, 890, 891, 892, 893, 165, 152, 1178, 1179, 1180, 1181, 1182, 1183, 1184, 1185, 1186, 1187, 1188, 1189, 1190, 1191, 1192, 1193, 1194, 1195, 1196, 1197, 1198, 1199, 1200, 1201, 1202, 1203, 1204, 1205, 1206, 1207, 1208, 1209, 1210, 1211, 1212] (by decide +kernel) (by decide +kernel)
set_option maxRecDepth 20000 in
theorem gL_law_X11_seen : GoodIn wsL_law (wsV RL 177 RX11 yX11_seen wsX11_seen) := goodIn_app (goodIn_of _ (by decide +kernel)) ggL_law_X11_seen
set_option maxRecDepth 20000 in
theorem ggL_law_L_spy : GoodIn wsL_law wsL_spy := goodIn_ca (goodIn_r _ [896, 186, 897, 898, 899, 2, 900, 29, 852, 478, 318, 319, 194, 195, 196, 197, 198, 199, 40, 882, 883, 884, 78, 885, 367, 100, 101, 1165, 1166, 1167, 1168, 1169, 1170, 1171, 1172, 1173, 1174, 1175, 1176, 1177, 1224, 1225, 1226, 1227, 1240, 1241, 1242, 1243, 1244, 1245, 1246] (by decide +kernel) (by decide +kernel)) (goodIn_sub (fun _ h => List.mem_append_left _ (List.mem_append_left _ (List.mem_append_right _ h))) (by decide +kernel))
set_option maxRecDepth 20000 in
theorem gL_law_L_spy : GoodIn wsL_law (va_wsS RL 178 yL_spy wsL_spy) := goodIn_app (goodIn_of _ (by decide +kernel)) ggL_law_L_spy
set_option maxRecDepth 20000 in
theorem ggL_law_X11_spy : GoodIn wsL_law wsX11_spy := goodIn_r _ [904, 180, 381, 382, 5, 383, 384, 385, 386, 387, 135, 890, 891, 892, 893, 165, 152, 1178, 1179, 1180, 1181, 1182, 1183, 1184, 1185, 1186, 1187, 1188, 1189, 1190, 1191, 1192, 1193, 1194, 1195, 1196, 1197, 1198, 1199, 1200, 1201, 1202, 1203, 1204, 1205, 1206, 1207, 1208, 1209, 1210, 1211, 1212] (by decide +kernel) (by decide +kernel)
set_option maxRecDepth 20000 in
theorem gL_law_X11_spy : GoodIn wsL_law (wsV RL 181 RX11 yX11_spy wsX11_spy) := goodIn_app (goodIn_of _ (by decide +kernel)) ggL_law_X11_spy
set_option maxRecDepth 20000 in
theorem ggL_law_L_believed : GoodIn wsL_law wsL_believed := goodIn_ca (goodIn_r _ [907, 186, 908, 909, 910, 2, 911, 29, 852, 478, 318, 319, 194, 195, 196, 197, 198, 199, 40, 912, 913, 914, 78, 915, 100, 101, 1165, 1166, 1167, 1168, 1169, 1170, 1171, 1172, 1173, 1174, 1175, 1176, 1177, 1224, 1225, 1226, 1227, 1240, 1241, 1242, 1243, 1244, 1245, 1246] (by decide +kernel) (by decide +kernel)) (goodIn_sub (fun _ h => List.mem_append_left _ (List.mem_append_left _ (List.mem_append_right _ h))) (by decide +kernel))
set_option maxRecDepth 20000 in
theorem gL_law_L_believed : GoodIn wsL_law (va_wsS RL 182 yL_believed wsL_believed) := goodIn_app (goodIn_of _ (by decide +kernel)) ggL_law_L_believed
set_option maxRecDepth 20000 in
theorem ggL_law_X11_believed : GoodIn wsL_law wsX11_believed := goodIn_r _ [919, 180, 149, 150, 165, 152, 381, 382, 5, 383, 384, 385, 386, 387, 135, 1178, 1179, 1180, 1181, 1182, 1183, 1184, 1185, 1186, 1187, 1188, 1189, 1190, 1191, 1192, 1193, 1194, 1195, 1196, 1197, 1198, 1199, 1200, 1201, 1202, 1203, 1204, 1205, 1206, 1207, 1208, 1209, 1210, 1211, 1212] (by decide +kernel) (by decide +kernel)
set_option maxRecDepth 20000 in
theorem gL_law_X11_believed : GoodIn wsL_law (wsV RL 184 RX11 yX11_believed wsX11_believed) := goodIn_app (goodIn_of _ (by decide +kernel)) ggL_law_X11_believed
set_option maxRecDepth 20000 in
theorem ggL_law_L_earnest : GoodIn wsL_law wsL_earnest := goodIn_ca (goodIn_r _ [922, 186, 923, 924, 925, 2, 926, 38, 22, 478, 318, 319, 194, 195, 196, 197, 198, 199, 40, 927, 928, 929, 37, 930, 931, 932, 206, 207, 208, 933, 110, 934, 111, 935, 936, 937, 938, 939, 940, 941, 942, 943, 944, 611, 612, 945, 946, 947, 948, 112, 949, 950, 951, 952, 953, 954, 955, 956, 957, 958, 959, 960, 961, 962, 963, 964, 965, 966, 967, 968, 969, 970, 971, 972, 973, 974, 975, 976, 977, 1165, 1166, 1167, 1168, 1169, 1170, 1171, 1172, 1173, 1174, 1175, 1176, 1177, 1219, 1220, 1221, 1222, 1223, 1231, 1232, 1233, 1234, 1235] (by decide +kernel) (by decide +kernel)) (goodIn_sub (fun _ h => List.mem_append_left _ (List.mem_append_left _ (List.mem_append_right _ h))) (by decide +kernel))
set_option maxRecDepth 20000 in
theorem gL_law_L_earnest : GoodIn wsL_law (va_wsS RL 185 yL_earnest wsL_earnest) := goodIn_app (goodIn_of _ (by decide +kernel)) ggL_law_L_earnest
set_option maxRecDepth 20000 in
theorem ggL_law_X11_earnest : GoodIn wsL_law wsX11_earnest := goodIn_r _ [981, 180, 982, 983, 5, 984, 381, 382, 383, 384, 385, 386, 387, 135, 985, 986, 987, 988, 137, 680, 681, 682, 989, 990, 991, 992, 993, 994, 995, 996, 997, 998, 999, 1000, 1001, 1002, 1003, 140, 1004, 1005, 1006, 1007, 1178, 1179, 1180, 1181, 1182, 1183, 1184, 1185, 1186, 1187, 1188, 1189, 1190, 1191, 1192, 1193, 1194, 1195, 1196, 1197, 1198, 1199, 1200, 1201, 1202, 1203, 1204, 1205, 1206, 1207, 1208, 1209, 1210, 1211, 1212] (by decide +kernel) (by decide +kernel)
set_option maxRecDepth 20000 in
theorem gL_law_X11_earnest : GoodIn wsL_law (wsV RL 187 RX11 yX11_earnest wsX11_earnest) := goodIn_app (goodIn_of _ (by decide +kernel)) ggL_law_X11_earnest
set_option maxRecDepth 20000 in
theorem ggL_law_L_stands : GoodIn wsL_law wsL_stands := goodIn_ca (goodIn_r _ [1010, 186, 1011, 1012, 1013, 2, 1014, 38, 22, 1015, 478, 318, 319, 194, 195, 196, 197, 198, 199, 40, 927, 928, 929, 37, 930, 931, 932, 206, 207, 208, 933, 110, 934, 111, 935, 936, 937, 938, 939, 940, 941, 942, 943, 944, 611, 612, 945, 946, 947, 948, 112, 949, 950, 951, 952, 953, 954, 955, 956, 957, 958, 959, 960, 961, 962, 963, 964, 1165, 1166, 1167, 1168, 1169, 1170, 1171, 1172, 1173, 1174, 1175, 1176, 1177, 1231, 1232, 1233, 1234, 1235, 1219, 1220, 1221, 1222, 1223] (by decide +kernel) (by decide +kernel)) (goodIn_sub (fun _ h => List.mem_append_left _ (List.mem_append_left _ (List.mem_append_right _ h))) (by decide +kernel))
set_option maxRecDepth 20000 in
theorem gL_law_L_stands : GoodIn wsL_law (va_wsS RL 188 yL_stands wsL_stands) := goodIn_app (goodIn_of _ (by decide +kernel)) ggL_law_L_stands
set_option maxRecDepth 20000 in
theorem ggL_law_X11_stands : GoodIn wsL_law wsX11_stands := goodIn_r _ [1019, 180, 137, 993, 982, 983, 5, 984, 381, 382, 383, 384, 385, 386, 387, 135, 985, 986, 987, 988, 680, 681, 682, 989, 990, 991, 992, 994, 995, 996, 997, 998, 999, 1000, 1001, 1002, 1003, 140, 1178, 1179, 1180, 1181, 1182, 1183, 1184, 1185, 1186, 1187, 1188, 1189, 1190, 1191, 1192, 1193, 1194, 1195, 1196, 1197, 1198, 1199, 1200, 1201, 1202, 1203, 1204, 1205, 1206, 1207, 1208, 1209, 1210, 1211, 1212] (by decide +kernel) (by decide +kernel)
set_option maxRecDepth 20000 in
theorem gL_law_X11_stands : GoodIn wsL_law (wsV RL 190 RX11 yX11_stands wsX11_stands) := goodIn_app (goodIn_of _ (by decide +kernel)) ggL_law_X11_stands
set_option maxRecDepth 20000 in
theorem ggL_law_L_show : GoodIn wsL_law wsL_show := goodIn_ca (goodIn_r _ [1022, 186, 1023, 1024, 1025, 2, 1026, 38, 22, 1027, 478, 318, 319, 194, 195, 196, 197, 198, 199, 40, 927, 928, 929, 37, 930, 931, 932, 206, 207, 208, 933, 110, 934, 111, 935, 936, 937, 938, 939, 940, 941, 942, 943, 944, 611, 612, 945, 946, 947, 948, 112, 949, 950, 951, 952, 953, 954, 955, 956, 957, 958, 959, 960, 961, 962, 963, 964, 1165, 1166, 1167, 1168, 1169, 1170, 1171, 1172, 1173, 1174, 1175, 1176, 1177, 1231, 1232, 1233, 1234, 1235, 1219, 1220, 1221, 1222, 1223] (by decide +kernel) (by decide +kernel)) (goodIn_sub (fun _ h => List.mem_append_left _ (List.mem_append_left _ (List.mem_append_right _ h))) (by decide +kernel))
set_option maxRecDepth 20000 in
theorem gL_law_L_show : GoodIn wsL_law (va_wsS RL 191 yL_show wsL_show) := goodIn_app (goodIn_of _ (by decide +kernel)) ggL_law_L_show
set_option maxRecDepth 20000 in
theorem ggL_law_X11_show : GoodIn wsL_law wsX11_show := goodIn_r _ [1031, 180, 982, 983, 5, 984, 381, 382, 383, 384, 385, 386, 387, 135, 985, 986, 987, 988, 137, 680, 681, 682, 989, 990, 991, 992, 993, 994, 995, 996, 997, 998, 999, 1000, 1001, 1002, 1003, 140, 1178, 1179, 1180, 1181, 1182, 1183, 1184, 1185, 1186, 1187, 1188, 1189, 1190, 1191, 1192, 1193, 1194, 1195, 1196, 1197, 1198, 1199, 1200, 1201, 1202, 1203, 1204, 1205, 1206, 1207, 1208, 1209, 1210, 1211, 1212] (by decide +kernel) (by decide +kernel)
set_option maxRecDepth 20000 in
theorem gL_law_X11_show : GoodIn wsL_law (wsV RL 193 RX11 yX11_show wsX11_show) := goodIn_app (goodIn_of _ (by decide +kernel)) ggL_law_X11_show
set_option maxRecDepth 20000 in
theorem ggL_law_L_offers : GoodIn wsL_law wsL_offers := goodIn_ca (goodIn_r _ [1034, 186, 1035, 1036, 1037, 2, 1038, 29, 1039, 478, 318, 319, 194, 195, 196, 197, 198, 199, 40, 1040, 1041, 1042, 82, 1043, 105, 1165, 1166, 1167, 1168, 1169, 1170, 1171, 1172, 1173, 1174, 1175, 1176, 1177, 1224, 1225, 1226, 1227, 1247, 1248] (by decide +kernel) (by decide +kernel)) (goodIn_sub (fun _ h => List.mem_append_left _ (List.mem_append_left _ (List.mem_append_right _ h))) (by decide +kernel))
set_option maxRecDepth 20000 in
theorem gL_law_L_offers : GoodIn wsL_law (va_wsS RL 194 yL_offers wsL_offers) := goodIn_app (goodIn_of _ (by decide +kernel)) ggL_law_L_offers
set_option maxRecDepth 20000 in
theorem ggL_law_X11_offers : GoodIn wsL_law wsX11_offers := goodIn_r _ [1047, 180, 153, 381, 382, 5, 383, 384, 385, 386, 387, 135, 1178, 1179, 1180, 1181, 1182, 1183, 1184, 1185, 1186, 1187, 1188, 1189, 1190, 1191, 1192, 1193, 1194, 1195, 1196, 1197, 1198, 1199, 1200, 1201, 1202, 1203, 1204, 1205, 1206, 1207, 1208, 1209, 1210, 1211, 1212] (by decide +kernel) (by decide +kernel)
set_option maxRecDepth 20000 in
theorem gL_law_X11_offers : GoodIn wsL_law (wsV RL 196 RX11 yX11_offers wsX11_offers) := goodIn_app (goodIn_of _ (by decide +kernel)) ggL_law_X11_offers
set_option maxRecDepth 20000 in
theorem ggL_law_X10_most : GoodIn wsL_law wsX10_most := goodIn_r _ [1051, 29, 1039, 1052, 1053, 1054, 82, 1055, 106, 1056, 1057, 1058, 1059, 1060, 611, 207, 612, 1061, 1062, 1063, 1064, 1065, 1066, 1067, 105, 1165, 1166, 1167, 1168, 1169, 1170, 1171, 1172, 1173, 1174, 1175, 1176, 1177, 1224, 1225, 1226, 1227, 1247, 1248] (by decide +kernel) (by decide +kernel)
set_option maxRecDepth 20000 in
theorem gL_law_X10_most : GoodIn wsL_law (wsV RL 197 RX10 yX10_most wsX10_most) := goodIn_app (goodIn_of _ (by decide +kernel)) ggL_law_X10_most
set_option maxRecDepth 20000 in
theorem ggL_law_X11_most : GoodIn wsL_law wsX11_most := goodIn_r _ [1071, 180, 1072, 1073, 1074, 5, 1075, 155, 1076, 1077, 1078, 1079, 153, 1080, 1081, 1082, 1178, 1179, 1180, 1181, 1182, 1183, 1184, 1185, 1186, 1187, 1188, 1189, 1190, 1191, 1192, 1193, 1194, 1195, 1196, 1197, 1198, 1199, 1200, 1201, 1202, 1203, 1204, 1205, 1206, 1207, 1208, 1209, 1210, 1211, 1212] (by decide +kernel) (by decide +kernel)
set_option maxRecDepth 20000 in
theorem gL_law_X11_most : GoodIn wsL_law (wsV RL 200 RX11 yX11_most wsX11_most) := goodIn_app (goodIn_of _ (by decide +kernel)) ggL_law_X11_most
set_option maxRecDepth 20000 in
theorem ggL_law_L_serves : GoodIn wsL_law wsL_serves := goodIn_ca (goodIn_r _ [1085, 186, 1086, 1087, 1088, 2, 1089, 29, 1039, 478, 318, 319, 194, 195, 196, 197, 198, 199, 40, 1090, 1091, 1092, 82, 1093, 1094, 1053, 1054, 1055, 106, 1056, 1057, 1058, 1059, 1060, 611, 207, 612, 1061, 1062, 1063, 1064, 1065, 1066, 1067, 105, 1095, 1096, 1097, 1098, 1165, 1166, 1167, 1168, 1169, 1170, 1171, 1172, 1173, 1174, 1175, 1176, 1177, 1224, 1225, 1226, 1227, 1247, 1248] (by decide +kernel) (by decide +kernel)) (goodIn_sub (fun _ h => List.mem_append_left _ (List.mem_append_left _ (List.mem_append_right _ h))) (by decide +kernel))
set_option maxRecDepth 20000 in
theorem gL_law_L_serves : GoodIn wsL_law (va_wsS RL 201 yL_serves wsL_serves) := goodIn_app (goodIn_of _ (by decide +kernel)) ggL_law_L_serves
set_option maxRecDepth 20000 in
theorem ggL_law_X11_serves : GoodIn wsL_law wsX11_serves := goodIn_r _ [1102, 180, 155, 153, 381, 382, 5, 383, 384, 385, 386, 387, 135, 1072, 1073, 1074, 1075, 1076, 1077, 1078, 1079, 1080, 1081, 1082, 1178, 1179, 1180, 1181, 1182, 1183, 1184, 1185, 1186, 1187, 1188, 1189, 1190, 1191, 1192, 1193, 1194, 1195, 1196, 1197, 1198, 1199, 1200, 1201, 1202, 1203, 1204, 1205, 1206, 1207, 1208, 1209, 1210, 1211, 1212] (by decide +kernel) (by decide +kernel)
set_option maxRecDepth 20000 in
theorem gL_law_X11_serves : GoodIn wsL_law (wsV RL 203 RX11 yX11_serves wsX11_serves) := goodIn_app (goodIn_of _ (by decide +kernel)) ggL_law_X11_serves
set_option maxRecDepth 20000 in
theorem ggL_law_X10_image : GoodIn wsL_law wsX10_image := goodIn_r _ [1106, 192, 30, 26, 27, 28, 29, 67, 68, 69, 11, 12, 70, 32, 33, 71, 72, 73, 74, 75, 76, 77, 78, 79, 80, 81, 82, 83, 84, 85, 86, 39, 87, 88, 89, 90, 91, 92, 93, 94, 95, 96, 97, 98, 99, 100, 101, 102, 103, 104, 105, 106, 1107, 1108, 1109, 1110, 1111, 1112, 761, 762, 763, 764, 598, 599, 600, 121, 1113, 1114, 1115, 1116, 597, 318, 2, 319, 1117, 1118, 1119, 1120, 1121, 367, 1122, 1123, 1124, 1125, 1126, 1165, 1166, 1167, 1168, 1169, 1170, 1171, 1172, 1173, 1174, 1175, 1176, 1177, 1224, 1225, 1226, 1227, 1228, 1229, 1230, 1239, 1240, 1241, 1242, 1243, 1244, 1245, 1246, 1247, 1248] (by decide +kernel) (by decide +kernel)
set_option maxRecDepth 20000 in
theorem gL_law_X10_image : GoodIn wsL_law (wsV RL 204 RX10 yX10_image wsX10_image) := goodIn_app (goodIn_of _ (by decide +kernel)) ggL_law_X10_image
set_option maxRecDepth 20000 in
theorem ggL_law_X11_image : GoodIn wsL_law wsX11_image := goodIn_r _ [1130, 180, 166, 154, 1131, 1132, 1133, 5, 1134, 1135, 149, 150, 165, 151, 152, 153, 145, 147, 148, 1136, 1137, 1138, 1139, 1178, 1179, 1180, 1181, 1182, 1183, 1184, 1185, 1186, 1187, 1188, 1189, 1190, 1191, 1192, 1193, 1194, 1195, 1196, 1197, 1198, 1199, 1200, 1201, 1202, 1203, 1204, 1205, 1206, 1207, 1208, 1209, 1210, 1211, 1212] (by decide +kernel) (by decide +kernel)
set_option maxRecDepth 20000 in
theorem gL_law_X11_image : GoodIn wsL_law (wsV RL 207 RX11 yX11_image wsX11_image) := goodIn_app (goodIn_of _ (by decide +kernel)) ggL_law_X11_image
set_option maxRecDepth 20000 in
theorem ggL_law_X10_restore : GoodIn wsL_law wsX10_restore := goodIn_r _ [1143, 192, 30, 29, 1107, 1108, 1109, 28, 1110, 71, 75, 1111, 79, 83, 1112, 761, 762, 33, 763, 87, 764, 598, 599, 600, 121, 1113, 1114, 1115, 74, 1116, 92, 597, 318, 2, 319, 1117, 1118, 1119, 78, 1120, 96, 1121, 97, 98, 99, 100, 101, 367, 1122, 1123, 1124, 82, 1125, 105, 1126, 1165, 1166, 1167, 1168, 1169, 1170, 1171, 1172, 1173, 1174, 1175, 1176, 1177, 1224, 1225, 1226, 1227, 1228, 1229, 1230, 1239, 1240, 1241, 1242, 1243, 1244, 1245, 1246, 1247, 1248] (by decide +kernel) (by decide +kernel)
set_option maxRecDepth 20000 in
theorem gL_law_X10_restore : GoodIn wsL_law (wsV RL 208 RX10 yX10_restore wsX10_restore) := goodIn_app (goodIn_of _ (by decide +kernel)) ggL_law_X10_restore
set_option maxRecDepth 20000 in
theorem ggL_law_X11_restore : GoodIn wsL_law wsX11_restore := goodIn_r _ [1147, 180, 166, 154, 1131, 1132, 1133, 5, 1134, 1135, 149, 150, 165, 151, 152, 153, 145, 147, 148, 1136, 1137, 1138, 1139, 1178, 1179, 1180, 1181, 1182, 1183, 1184, 1185, 1186, 1187, 1188, 1189, 1190, 1191, 1192, 1193, 1194, 1195, 1196, 1197, 1198, 1199, 1200, 1201, 1202, 1203, 1204, 1205, 1206, 1207, 1208, 1209, 1210, 1211, 1212] (by decide +kernel) (by decide +kernel)
set_option maxRecDepth 20000 in
theorem gL_law_X11_restore : GoodIn wsL_law (wsV RL 211 RX11 yX11_restore wsX11_restore) := goodIn_app (goodIn_of _ (by decide +kernel)) ggL_law_X11_restore
set_option maxRecDepth 20000 in
theorem ggL_law_X10_status : GoodIn wsL_law wsX10_status := goodIn_r _ [1151, 40, 478, 318, 2, 319, 1165, 1166, 1167, 1168, 1169, 1170, 1171, 1172, 1173, 1174, 1175, 1176, 1177] (by decide +kernel) (by decide +kernel)
set_option maxRecDepth 20000 in
theorem gL_law_X10_status : GoodIn wsL_law (wsV RL 212 RX10 yX10_status wsX10_status) := goodIn_app (goodIn_of _ (by decide +kernel)) ggL_law_X10_status
set_option maxRecDepth 20000 in
theorem ggL_law_X11_status : GoodIn wsL_law wsX11_status := goodIn_r _ [1155, 180, 135, 381, 382, 5, 383, 1178, 1179, 1180, 1181, 1182, 1183, 1184, 1185, 1186, 1187, 1188, 1189, 1190, 1191, 1192, 1193, 1194, 1195, 1196, 1197, 1198, 1199, 1200, 1201, 1202, 1203, 1204, 1205, 1206, 1207, 1208, 1209, 1210, 1211, 1212] (by decide +kernel) (by decide +kernel)
set_option maxRecDepth 20000 in
theorem gL_law_X11_status : GoodIn wsL_law (wsV RL 215 RX11 yX11_status wsX11_status) := goodIn_app (goodIn_of _ (by decide +kernel)) ggL_law_X11_status
set_option maxRecDepth 20000 in
theorem ggL_law_X10_count : GoodIn wsL_law wsX10_count := goodIn_r _ [1159, 192, 171, 29, 852, 1160, 1165, 1166, 1167, 1168, 1169, 1170, 1171, 1172, 1173, 1174, 1175, 1176, 1177, 1224, 1225, 1226, 1227, 1240, 1241, 1242, 1243, 1244, 1245, 1246] (by decide +kernel) (by decide +kernel)
set_option maxRecDepth 20000 in
theorem gL_law_X10_count : GoodIn wsL_law (wsV RL 216 RX10 yX10_count wsX10_count) := goodIn_app (goodIn_of _ (by decide +kernel)) ggL_law_X10_count
set_option maxRecDepth 20000 in
theorem ggL_law_X11_count : GoodIn wsL_law wsX11_count := goodIn_r _ [1164, 180, 166, 181, 165, 1178, 1179, 1180, 1181, 1182, 1183, 1184, 1185, 1186, 1187, 1188, 1189, 1190, 1191, 1192, 1193, 1194, 1195, 1196, 1197, 1198, 1199, 1200, 1201, 1202, 1203, 1204, 1205, 1206, 1207, 1208, 1209, 1210, 1211, 1212] (by decide +kernel) (by decide +kernel)
set_option maxRecDepth 20000 in
theorem gL_law_X11_count : GoodIn wsL_law (wsV RL 219 RX11 yX11_count wsX11_count) := goodIn_app (goodIn_of _ (by decide +kernel)) ggL_law_X11_count
theorem dL_law_0 : decode cL_law 0 = .ok (.new 8, 3) := by decide +kernel
theorem dL_law_3 : decode cL_law 3 = .ok (.dup, 1) := by decide +kernel
theorem dL_law_4 : decode cL_law 4 = .ok (.invokespecial 100, 3) := by decide +kernel
theorem dL_law_7 : decode cL_law 7 = .ok (.astore_n 1, 1) := by decide +kernel
theorem dL_law_8 : decode cL_law 8 = .ok (.new 101, 3) := by decide +kernel
theorem dL_law_11 : decode cL_law 11 = .ok (.dup, 1) := by decide +kernel
theorem dL_law_12 : decode cL_law 12 = .ok (.invokespecial 103, 3) := by decide +kernel
theorem dL_law_15 : decode cL_law 15 = .ok (.astore_n 2, 1) := by decide +kernel
theorem dL_law_16 : decode cL_law 16 = .ok (.iconst 1, 1) := by decide +kernel
theorem dL_law_17 : decode cL_law 17 = .ok (.newarray .long, 2) := by decide +kernel
theorem dL_law_19 : decode cL_law 19 = .ok (.astore_n 3, 1) := by decide +kernel
theorem dL_law_20 : decode cL_law 20 = .ok (.iconst 0, 1) := by decide +kernel
theorem dL_law_21 : decode cL_law 21 = .ok (.istore 4, 2) := by decide +kernel
theorem dL_law_23 : decode cL_law 23 = .ok (.iload 4, 2) := by decide +kernel
theorem dL_law_25 : decode cL_law 25 = .ok (.aload_n 0, 1) := by decide +kernel
theorem dL_law_26 : decode cL_law 26 = .ok (.arraylength, 1) := by decide +kernel
theorem dL_law_27 : decode cL_law 27 = .ok (.bipush 6, 2) := by decide +kernel
theorem dL_law_29 : decode cL_law 29 = .ok (.isub, 1) := by decide +kernel
theorem dL_law_30 : decode cL_law 30 = .ok (.if_icmp .gt 1317, 3) := by decide +kernel
theorem dL_law_33 : decode cL_law 33 = .ok (.aload_n 0, 1) := by decide +kernel
theorem dL_law_34 : decode cL_law 34 = .ok (.iload 4, 2) := by decide +kernel
theorem dL_law_36 : decode cL_law 36 = .ok (.iaload, 1) := by decide +kernel
theorem dL_law_37 : decode cL_law 37 = .ok (.bipush 63, 2) := by decide +kernel
theorem dL_law_39 : decode cL_law 39 = .ok (.iand, 1) := by decide +kernel
theorem dL_law_40 : decode cL_law 40 = .ok (.tableswitch 1301 0 32 #[148, 221, 249, 277, 290, 318, 358, 398, 438, 466, 494, 522, 550, 590, 642, 682, 722, 762, 802, 839, 888, 916, 972, 1000, 1052, 1092, 1132, 1184, 1197, 1225, 1238, 1251, 1276], 148) := by decide +kernel
theorem dL_law_188 : decode cL_law 188 = .ok (.aload_n 1, 1) := by decide +kernel
theorem dL_law_189 : decode cL_law 189 = .ok (.aload_n 0, 1) := by decide +kernel
theorem dL_law_190 : decode cL_law 190 = .ok (.iload 4, 2) := by decide +kernel
theorem dL_law_192 : decode cL_law 192 = .ok (.iconst 1, 1) := by decide +kernel
theorem dL_law_193 : decode cL_law 193 = .ok (.iadd, 1) := by decide +kernel
theorem dL_law_194 : decode cL_law 194 = .ok (.iaload, 1) := by decide +kernel
theorem dL_law_195 : decode cL_law 195 = .ok (.aload_n 0, 1) := by decide +kernel
theorem dL_law_196 : decode cL_law 196 = .ok (.iload 4, 2) := by decide +kernel
theorem dL_law_198 : decode cL_law 198 = .ok (.iconst 2, 1) := by decide +kernel
theorem dL_law_199 : decode cL_law 199 = .ok (.iadd, 1) := by decide +kernel
theorem dL_law_200 : decode cL_law 200 = .ok (.iaload, 1) := by decide +kernel
theorem dL_law_201 : decode cL_law 201 = .ok (.aload_n 0, 1) := by decide +kernel
theorem dL_law_202 : decode cL_law 202 = .ok (.iload 4, 2) := by decide +kernel
theorem dL_law_204 : decode cL_law 204 = .ok (.iconst 3, 1) := by decide +kernel
theorem dL_law_205 : decode cL_law 205 = .ok (.iadd, 1) := by decide +kernel
theorem dL_law_206 : decode cL_law 206 = .ok (.iaload, 1) := by decide +kernel
theorem dL_law_207 : decode cL_law 207 = .ok (.aload_n 0, 1) := by decide +kernel
theorem dL_law_208 : decode cL_law 208 = .ok (.iload 4, 2) := by decide +kernel
theorem dL_law_210 : decode cL_law 210 = .ok (.iconst 4, 1) := by decide +kernel
theorem dL_law_211 : decode cL_law 211 = .ok (.iadd, 1) := by decide +kernel
theorem dL_law_212 : decode cL_law 212 = .ok (.iaload, 1) := by decide +kernel
theorem dL_law_213 : decode cL_law 213 = .ok (.aload_n 0, 1) := by decide +kernel
theorem dL_law_214 : decode cL_law 214 = .ok (.iload 4, 2) := by decide +kernel
theorem dL_law_216 : decode cL_law 216 = .ok (.iconst 5, 1) := by decide +kernel
theorem dL_law_217 : decode cL_law 217 = .ok (.iadd, 1) := by decide +kernel
theorem dL_law_218 : decode cL_law 218 = .ok (.iaload, 1) := by decide +kernel
theorem dL_law_219 : decode cL_law 219 = .ok (.invokevirtual 104, 3) := by decide +kernel
theorem dL_law_222 : decode cL_law 222 = .ok (.aload_n 2, 1) := by decide +kernel
theorem dL_law_223 : decode cL_law 223 = .ok (.aload_n 0, 1) := by decide +kernel
theorem dL_law_224 : decode cL_law 224 = .ok (.iload 4, 2) := by decide +kernel
theorem dL_law_226 : decode cL_law 226 = .ok (.iconst 1, 1) := by decide +kernel
theorem dL_law_227 : decode cL_law 227 = .ok (.iadd, 1) := by decide +kernel
theorem dL_law_228 : decode cL_law 228 = .ok (.iaload, 1) := by decide +kernel
theorem dL_law_229 : decode cL_law 229 = .ok (.aload_n 0, 1) := by decide +kernel
theorem dL_law_230 : decode cL_law 230 = .ok (.iload 4, 2) := by decide +kernel
theorem dL_law_232 : decode cL_law 232 = .ok (.iconst 2, 1) := by decide +kernel
theorem dL_law_233 : decode cL_law 233 = .ok (.iadd, 1) := by decide +kernel
theorem dL_law_234 : decode cL_law 234 = .ok (.iaload, 1) := by decide +kernel
theorem dL_law_235 : decode cL_law 235 = .ok (.aload_n 0, 1) := by decide +kernel
theorem dL_law_236 : decode cL_law 236 = .ok (.iload 4, 2) := by decide +kernel
theorem dL_law_238 : decode cL_law 238 = .ok (.iconst 3, 1) := by decide +kernel
theorem dL_law_239 : decode cL_law 239 = .ok (.iadd, 1) := by decide +kernel
theorem dL_law_240 : decode cL_law 240 = .ok (.iaload, 1) := by decide +kernel
theorem dL_law_241 : decode cL_law 241 = .ok (.aload_n 0, 1) := by decide +kernel
theorem dL_law_242 : decode cL_law 242 = .ok (.iload 4, 2) := by decide +kernel
theorem dL_law_244 : decode cL_law 244 = .ok (.iconst 4, 1) := by decide +kernel
theorem dL_law_245 : decode cL_law 245 = .ok (.iadd, 1) := by decide +kernel
theorem dL_law_246 : decode cL_law 246 = .ok (.iaload, 1) := by decide +kernel
theorem dL_law_247 : decode cL_law 247 = .ok (.aload_n 0, 1) := by decide +kernel
theorem dL_law_248 : decode cL_law 248 = .ok (.iload 4, 2) := by decide +kernel
theorem dL_law_250 : decode cL_law 250 = .ok (.iconst 5, 1) := by decide +kernel
theorem dL_law_251 : decode cL_law 251 = .ok (.iadd, 1) := by decide +kernel
theorem dL_law_252 : decode cL_law 252 = .ok (.iaload, 1) := by decide +kernel
theorem dL_law_253 : decode cL_law 253 = .ok (.invokevirtual 108, 3) := by decide +kernel
theorem dL_law_256 : decode cL_law 256 = .ok (.if_icmp .eq 1085, 3) := by decide +kernel
theorem dL_law_259 : decode cL_law 259 = .ok (.iconst 0, 1) := by decide +kernel
theorem dL_law_260 : decode cL_law 260 = .ok (.ireturn, 1) := by decide +kernel
theorem dL_law_261 : decode cL_law 261 = .ok (.aload_n 1, 1) := by decide +kernel
theorem dL_law_262 : decode cL_law 262 = .ok (.aload_n 0, 1) := by decide +kernel
theorem dL_law_263 : decode cL_law 263 = .ok (.iload 4, 2) := by decide +kernel
theorem dL_law_265 : decode cL_law 265 = .ok (.iconst 1, 1) := by decide +kernel
theorem dL_law_266 : decode cL_law 266 = .ok (.iadd, 1) := by decide +kernel
theorem dL_law_267 : decode cL_law 267 = .ok (.iaload, 1) := by decide +kernel
theorem dL_law_268 : decode cL_law 268 = .ok (.aload_n 3, 1) := by decide +kernel
theorem dL_law_269 : decode cL_law 269 = .ok (.invokestatic 109, 3) := by decide +kernel
theorem dL_law_272 : decode cL_law 272 = .ok (.istore 5, 2) := by decide +kernel
theorem dL_law_274 : decode cL_law 274 = .ok (.aload_n 2, 1) := by decide +kernel
theorem dL_law_275 : decode cL_law 275 = .ok (.aload_n 0, 1) := by decide +kernel
theorem dL_law_276 : decode cL_law 276 = .ok (.iload 4, 2) := by decide +kernel
theorem dL_law_278 : decode cL_law 278 = .ok (.iconst 1, 1) := by decide +kernel
theorem dL_law_279 : decode cL_law 279 = .ok (.iadd, 1) := by decide +kernel
theorem dL_law_280 : decode cL_law 280 = .ok (.iaload, 1) := by decide +kernel
theorem dL_law_281 : decode cL_law 281 = .ok (.invokevirtual 114, 3) := by decide +kernel
theorem dL_law_284 : decode cL_law 284 = .ok (.istore 6, 2) := by decide +kernel
theorem dL_law_286 : decode cL_law 286 = .ok (.goto 1055, 3) := by decide +kernel
theorem dL_law_289 : decode cL_law 289 = .ok (.aload_n 1, 1) := by decide +kernel
theorem dL_law_290 : decode cL_law 290 = .ok (.aload_n 0, 1) := by decide +kernel
theorem dL_law_291 : decode cL_law 291 = .ok (.iload 4, 2) := by decide +kernel
theorem dL_law_293 : decode cL_law 293 = .ok (.iconst 1, 1) := by decide +kernel
theorem dL_law_294 : decode cL_law 294 = .ok (.iadd, 1) := by decide +kernel
theorem dL_law_295 : decode cL_law 295 = .ok (.iaload, 1) := by decide +kernel
theorem dL_law_296 : decode cL_law 296 = .ok (.aload_n 3, 1) := by decide +kernel
theorem dL_law_297 : decode cL_law 297 = .ok (.invokestatic 115, 3) := by decide +kernel
theorem dL_law_300 : decode cL_law 300 = .ok (.istore 5, 2) := by decide +kernel
theorem dL_law_302 : decode cL_law 302 = .ok (.aload_n 2, 1) := by decide +kernel
theorem dL_law_303 : decode cL_law 303 = .ok (.aload_n 0, 1) := by decide +kernel
theorem dL_law_304 : decode cL_law 304 = .ok (.iload 4, 2) := by decide +kernel
theorem dL_law_306 : decode cL_law 306 = .ok (.iconst 1, 1) := by decide +kernel
theorem dL_law_307 : decode cL_law 307 = .ok (.iadd, 1) := by decide +kernel
theorem dL_law_308 : decode cL_law 308 = .ok (.iaload, 1) := by decide +kernel
theorem dL_law_309 : decode cL_law 309 = .ok (.invokevirtual 117, 3) := by decide +kernel
theorem dL_law_312 : decode cL_law 312 = .ok (.istore 6, 2) := by decide +kernel
theorem dL_law_314 : decode cL_law 314 = .ok (.goto 1027, 3) := by decide +kernel
theorem dL_law_317 : decode cL_law 317 = .ok (.aload_n 1, 1) := by decide +kernel
theorem dL_law_318 : decode cL_law 318 = .ok (.invokevirtual 118, 3) := by decide +kernel
theorem dL_law_321 : decode cL_law 321 = .ok (.pop, 1) := by decide +kernel
theorem dL_law_322 : decode cL_law 322 = .ok (.aload_n 2, 1) := by decide +kernel
theorem dL_law_323 : decode cL_law 323 = .ok (.invokevirtual 122, 3) := by decide +kernel
theorem dL_law_326 : decode cL_law 326 = .ok (.pop, 1) := by decide +kernel
theorem dL_law_327 : decode cL_law 327 = .ok (.goto 1014, 3) := by decide +kernel
theorem dL_law_330 : decode cL_law 330 = .ok (.aload_n 1, 1) := by decide +kernel
theorem dL_law_331 : decode cL_law 331 = .ok (.aload_n 0, 1) := by decide +kernel
theorem dL_law_332 : decode cL_law 332 = .ok (.iload 4, 2) := by decide +kernel
theorem dL_law_334 : decode cL_law 334 = .ok (.iconst 1, 1) := by decide +kernel
theorem dL_law_335 : decode cL_law 335 = .ok (.iadd, 1) := by decide +kernel
theorem dL_law_336 : decode cL_law 336 = .ok (.iaload, 1) := by decide +kernel
theorem dL_law_337 : decode cL_law 337 = .ok (.aload_n 3, 1) := by decide +kernel
theorem dL_law_338 : decode cL_law 338 = .ok (.invokestatic 123, 3) := by decide +kernel
theorem dL_law_341 : decode cL_law 341 = .ok (.istore 5, 2) := by decide +kernel
theorem dL_law_343 : decode cL_law 343 = .ok (.aload_n 2, 1) := by decide +kernel
theorem dL_law_344 : decode cL_law 344 = .ok (.aload_n 0, 1) := by decide +kernel
theorem dL_law_345 : decode cL_law 345 = .ok (.iload 4, 2) := by decide +kernel
theorem dL_law_347 : decode cL_law 347 = .ok (.iconst 1, 1) := by decide +kernel
theorem dL_law_348 : decode cL_law 348 = .ok (.iadd, 1) := by decide +kernel
theorem dL_law_349 : decode cL_law 349 = .ok (.iaload, 1) := by decide +kernel
theorem dL_law_350 : decode cL_law 350 = .ok (.invokevirtual 125, 3) := by decide +kernel
theorem dL_law_353 : decode cL_law 353 = .ok (.istore 6, 2) := by decide +kernel
theorem dL_law_355 : decode cL_law 355 = .ok (.goto 986, 3) := by decide +kernel
theorem dL_law_358 : decode cL_law 358 = .ok (.aload_n 1, 1) := by decide +kernel
theorem dL_law_359 : decode cL_law 359 = .ok (.aload_n 0, 1) := by decide +kernel
theorem dL_law_360 : decode cL_law 360 = .ok (.iload 4, 2) := by decide +kernel
theorem dL_law_362 : decode cL_law 362 = .ok (.iconst 1, 1) := by decide +kernel
theorem dL_law_363 : decode cL_law 363 = .ok (.iadd, 1) := by decide +kernel
theorem dL_law_364 : decode cL_law 364 = .ok (.iaload, 1) := by decide +kernel
theorem dL_law_365 : decode cL_law 365 = .ok (.aload_n 0, 1) := by decide +kernel
theorem dL_law_366 : decode cL_law 366 = .ok (.iload 4, 2) := by decide +kernel
theorem dL_law_368 : decode cL_law 368 = .ok (.iconst 2, 1) := by decide +kernel
theorem dL_law_369 : decode cL_law 369 = .ok (.iadd, 1) := by decide +kernel
theorem dL_law_370 : decode cL_law 370 = .ok (.iaload, 1) := by decide +kernel
theorem dL_law_371 : decode cL_law 371 = .ok (.aload_n 3, 1) := by decide +kernel
theorem dL_law_372 : decode cL_law 372 = .ok (.invokestatic 126, 3) := by decide +kernel
theorem dL_law_375 : decode cL_law 375 = .ok (.istore 5, 2) := by decide +kernel
theorem dL_law_377 : decode cL_law 377 = .ok (.aload_n 2, 1) := by decide +kernel
theorem dL_law_378 : decode cL_law 378 = .ok (.aload_n 0, 1) := by decide +kernel
theorem dL_law_379 : decode cL_law 379 = .ok (.iload 4, 2) := by decide +kernel
theorem dL_law_381 : decode cL_law 381 = .ok (.iconst 1, 1) := by decide +kernel
theorem dL_law_382 : decode cL_law 382 = .ok (.iadd, 1) := by decide +kernel
theorem dL_law_383 : decode cL_law 383 = .ok (.iaload, 1) := by decide +kernel
theorem dL_law_384 : decode cL_law 384 = .ok (.aload_n 0, 1) := by decide +kernel
theorem dL_law_385 : decode cL_law 385 = .ok (.iload 4, 2) := by decide +kernel
theorem dL_law_387 : decode cL_law 387 = .ok (.iconst 2, 1) := by decide +kernel
theorem dL_law_388 : decode cL_law 388 = .ok (.iadd, 1) := by decide +kernel
theorem dL_law_389 : decode cL_law 389 = .ok (.iaload, 1) := by decide +kernel
theorem dL_law_390 : decode cL_law 390 = .ok (.invokevirtual 129, 3) := by decide +kernel
theorem dL_law_393 : decode cL_law 393 = .ok (.istore 6, 2) := by decide +kernel
theorem dL_law_395 : decode cL_law 395 = .ok (.goto 946, 3) := by decide +kernel
theorem dL_law_398 : decode cL_law 398 = .ok (.aload_n 1, 1) := by decide +kernel
theorem dL_law_399 : decode cL_law 399 = .ok (.aload_n 0, 1) := by decide +kernel
theorem dL_law_400 : decode cL_law 400 = .ok (.iload 4, 2) := by decide +kernel
theorem dL_law_402 : decode cL_law 402 = .ok (.iconst 1, 1) := by decide +kernel
theorem dL_law_403 : decode cL_law 403 = .ok (.iadd, 1) := by decide +kernel
theorem dL_law_404 : decode cL_law 404 = .ok (.iaload, 1) := by decide +kernel
theorem dL_law_405 : decode cL_law 405 = .ok (.aload_n 0, 1) := by decide +kernel
theorem dL_law_406 : decode cL_law 406 = .ok (.iload 4, 2) := by decide +kernel
theorem dL_law_408 : decode cL_law 408 = .ok (.iconst 2, 1) := by decide +kernel
theorem dL_law_409 : decode cL_law 409 = .ok (.iadd, 1) := by decide +kernel
theorem dL_law_410 : decode cL_law 410 = .ok (.iaload, 1) := by decide +kernel
theorem dL_law_411 : decode cL_law 411 = .ok (.aload_n 3, 1) := by decide +kernel
theorem dL_law_412 : decode cL_law 412 = .ok (.invokestatic 130, 3) := by decide +kernel
theorem dL_law_415 : decode cL_law 415 = .ok (.istore 5, 2) := by decide +kernel
theorem dL_law_417 : decode cL_law 417 = .ok (.aload_n 2, 1) := by decide +kernel
theorem dL_law_418 : decode cL_law 418 = .ok (.aload_n 0, 1) := by decide +kernel
theorem dL_law_419 : decode cL_law 419 = .ok (.iload 4, 2) := by decide +kernel
theorem dL_law_421 : decode cL_law 421 = .ok (.iconst 1, 1) := by decide +kernel
theorem dL_law_422 : decode cL_law 422 = .ok (.iadd, 1) := by decide +kernel
theorem dL_law_423 : decode cL_law 423 = .ok (.iaload, 1) := by decide +kernel
theorem dL_law_424 : decode cL_law 424 = .ok (.aload_n 0, 1) := by decide +kernel
theorem dL_law_425 : decode cL_law 425 = .ok (.iload 4, 2) := by decide +kernel
theorem dL_law_427 : decode cL_law 427 = .ok (.iconst 2, 1) := by decide +kernel
theorem dL_law_428 : decode cL_law 428 = .ok (.iadd, 1) := by decide +kernel
theorem dL_law_429 : decode cL_law 429 = .ok (.iaload, 1) := by decide +kernel
theorem dL_law_430 : decode cL_law 430 = .ok (.invokevirtual 132, 3) := by decide +kernel
theorem dL_law_433 : decode cL_law 433 = .ok (.istore 6, 2) := by decide +kernel
theorem dL_law_435 : decode cL_law 435 = .ok (.goto 906, 3) := by decide +kernel
theorem dL_law_438 : decode cL_law 438 = .ok (.aload_n 1, 1) := by decide +kernel
theorem dL_law_439 : decode cL_law 439 = .ok (.aload_n 0, 1) := by decide +kernel
theorem dL_law_440 : decode cL_law 440 = .ok (.iload 4, 2) := by decide +kernel
theorem dL_law_442 : decode cL_law 442 = .ok (.iconst 1, 1) := by decide +kernel
theorem dL_law_443 : decode cL_law 443 = .ok (.iadd, 1) := by decide +kernel
theorem dL_law_444 : decode cL_law 444 = .ok (.iaload, 1) := by decide +kernel
theorem dL_law_445 : decode cL_law 445 = .ok (.aload_n 0, 1) := by decide +kernel
theorem dL_law_446 : decode cL_law 446 = .ok (.iload 4, 2) := by decide +kernel
theorem dL_law_448 : decode cL_law 448 = .ok (.iconst 2, 1) := by decide +kernel
theorem dL_law_449 : decode cL_law 449 = .ok (.iadd, 1) := by decide +kernel
theorem dL_law_450 : decode cL_law 450 = .ok (.iaload, 1) := by decide +kernel
theorem dL_law_451 : decode cL_law 451 = .ok (.aload_n 3, 1) := by decide +kernel
theorem dL_law_452 : decode cL_law 452 = .ok (.invokestatic 133, 3) := by decide +kernel
theorem dL_law_455 : decode cL_law 455 = .ok (.istore 5, 2) := by decide +kernel
theorem dL_law_457 : decode cL_law 457 = .ok (.aload_n 2, 1) := by decide +kernel
theorem dL_law_458 : decode cL_law 458 = .ok (.aload_n 0, 1) := by decide +kernel
theorem dL_law_459 : decode cL_law 459 = .ok (.iload 4, 2) := by decide +kernel
theorem dL_law_461 : decode cL_law 461 = .ok (.iconst 1, 1) := by decide +kernel
theorem dL_law_462 : decode cL_law 462 = .ok (.iadd, 1) := by decide +kernel
theorem dL_law_463 : decode cL_law 463 = .ok (.iaload, 1) := by decide +kernel
theorem dL_law_464 : decode cL_law 464 = .ok (.aload_n 0, 1) := by decide +kernel
theorem dL_law_465 : decode cL_law 465 = .ok (.iload 4, 2) := by decide +kernel
theorem dL_law_467 : decode cL_law 467 = .ok (.iconst 2, 1) := by decide +kernel
theorem dL_law_468 : decode cL_law 468 = .ok (.iadd, 1) := by decide +kernel
theorem dL_law_469 : decode cL_law 469 = .ok (.iaload, 1) := by decide +kernel
theorem dL_law_470 : decode cL_law 470 = .ok (.invokevirtual 135, 3) := by decide +kernel
theorem dL_law_473 : decode cL_law 473 = .ok (.istore 6, 2) := by decide +kernel
theorem dL_law_475 : decode cL_law 475 = .ok (.goto 866, 3) := by decide +kernel
theorem dL_law_478 : decode cL_law 478 = .ok (.aload_n 1, 1) := by decide +kernel
theorem dL_law_479 : decode cL_law 479 = .ok (.aload_n 0, 1) := by decide +kernel
theorem dL_law_480 : decode cL_law 480 = .ok (.iload 4, 2) := by decide +kernel
theorem dL_law_482 : decode cL_law 482 = .ok (.iconst 1, 1) := by decide +kernel
theorem dL_law_483 : decode cL_law 483 = .ok (.iadd, 1) := by decide +kernel
theorem dL_law_484 : decode cL_law 484 = .ok (.iaload, 1) := by decide +kernel
theorem dL_law_485 : decode cL_law 485 = .ok (.aload_n 3, 1) := by decide +kernel
theorem dL_law_486 : decode cL_law 486 = .ok (.invokestatic 136, 3) := by decide +kernel
theorem dL_law_489 : decode cL_law 489 = .ok (.istore 5, 2) := by decide +kernel
theorem dL_law_491 : decode cL_law 491 = .ok (.aload_n 2, 1) := by decide +kernel
theorem dL_law_492 : decode cL_law 492 = .ok (.aload_n 0, 1) := by decide +kernel
theorem dL_law_493 : decode cL_law 493 = .ok (.iload 4, 2) := by decide +kernel
theorem dL_law_495 : decode cL_law 495 = .ok (.iconst 1, 1) := by decide +kernel
theorem dL_law_496 : decode cL_law 496 = .ok (.iadd, 1) := by decide +kernel
theorem dL_law_497 : decode cL_law 497 = .ok (.iaload, 1) := by decide +kernel
theorem dL_law_498 : decode cL_law 498 = .ok (.invokevirtual 138, 3) := by decide +kernel
theorem dL_law_501 : decode cL_law 501 = .ok (.istore 6, 2) := by decide +kernel
theorem dL_law_503 : decode cL_law 503 = .ok (.goto 838, 3) := by decide +kernel
theorem dL_law_506 : decode cL_law 506 = .ok (.aload_n 1, 1) := by decide +kernel
theorem dL_law_507 : decode cL_law 507 = .ok (.aload_n 0, 1) := by decide +kernel
theorem dL_law_508 : decode cL_law 508 = .ok (.iload 4, 2) := by decide +kernel
theorem dL_law_510 : decode cL_law 510 = .ok (.iconst 1, 1) := by decide +kernel
theorem dL_law_511 : decode cL_law 511 = .ok (.iadd, 1) := by decide +kernel
theorem dL_law_512 : decode cL_law 512 = .ok (.iaload, 1) := by decide +kernel
theorem dL_law_513 : decode cL_law 513 = .ok (.aload_n 3, 1) := by decide +kernel
theorem dL_law_514 : decode cL_law 514 = .ok (.invokestatic 139, 3) := by decide +kernel
theorem dL_law_517 : decode cL_law 517 = .ok (.istore 5, 2) := by decide +kernel
theorem dL_law_519 : decode cL_law 519 = .ok (.aload_n 2, 1) := by decide +kernel
theorem dL_law_520 : decode cL_law 520 = .ok (.aload_n 0, 1) := by decide +kernel
theorem dL_law_521 : decode cL_law 521 = .ok (.iload 4, 2) := by decide +kernel
theorem dL_law_523 : decode cL_law 523 = .ok (.iconst 1, 1) := by decide +kernel
theorem dL_law_524 : decode cL_law 524 = .ok (.iadd, 1) := by decide +kernel
theorem dL_law_525 : decode cL_law 525 = .ok (.iaload, 1) := by decide +kernel
theorem dL_law_526 : decode cL_law 526 = .ok (.invokevirtual 141, 3) := by decide +kernel
theorem dL_law_529 : decode cL_law 529 = .ok (.istore 6, 2) := by decide +kernel
theorem dL_law_531 : decode cL_law 531 = .ok (.goto 810, 3) := by decide +kernel
theorem dL_law_534 : decode cL_law 534 = .ok (.aload_n 1, 1) := by decide +kernel
theorem dL_law_535 : decode cL_law 535 = .ok (.aload_n 0, 1) := by decide +kernel
theorem dL_law_536 : decode cL_law 536 = .ok (.iload 4, 2) := by decide +kernel
theorem dL_law_538 : decode cL_law 538 = .ok (.iconst 1, 1) := by decide +kernel
theorem dL_law_539 : decode cL_law 539 = .ok (.iadd, 1) := by decide +kernel
theorem dL_law_540 : decode cL_law 540 = .ok (.iaload, 1) := by decide +kernel
theorem dL_law_541 : decode cL_law 541 = .ok (.aload_n 3, 1) := by decide +kernel
theorem dL_law_542 : decode cL_law 542 = .ok (.invokestatic 142, 3) := by decide +kernel
theorem dL_law_545 : decode cL_law 545 = .ok (.istore 5, 2) := by decide +kernel
theorem dL_law_547 : decode cL_law 547 = .ok (.aload_n 2, 1) := by decide +kernel
theorem dL_law_548 : decode cL_law 548 = .ok (.aload_n 0, 1) := by decide +kernel
theorem dL_law_549 : decode cL_law 549 = .ok (.iload 4, 2) := by decide +kernel
theorem dL_law_551 : decode cL_law 551 = .ok (.iconst 1, 1) := by decide +kernel
theorem dL_law_552 : decode cL_law 552 = .ok (.iadd, 1) := by decide +kernel
theorem dL_law_553 : decode cL_law 553 = .ok (.iaload, 1) := by decide +kernel
theorem dL_law_554 : decode cL_law 554 = .ok (.invokevirtual 144, 3) := by decide +kernel
theorem dL_law_557 : decode cL_law 557 = .ok (.istore 6, 2) := by decide +kernel
theorem dL_law_559 : decode cL_law 559 = .ok (.goto 782, 3) := by decide +kernel
theorem dL_law_562 : decode cL_law 562 = .ok (.aload_n 1, 1) := by decide +kernel
theorem dL_law_563 : decode cL_law 563 = .ok (.aload_n 0, 1) := by decide +kernel
theorem dL_law_564 : decode cL_law 564 = .ok (.iload 4, 2) := by decide +kernel
theorem dL_law_566 : decode cL_law 566 = .ok (.iconst 1, 1) := by decide +kernel
theorem dL_law_567 : decode cL_law 567 = .ok (.iadd, 1) := by decide +kernel
theorem dL_law_568 : decode cL_law 568 = .ok (.iaload, 1) := by decide +kernel
theorem dL_law_569 : decode cL_law 569 = .ok (.aload_n 3, 1) := by decide +kernel
theorem dL_law_570 : decode cL_law 570 = .ok (.invokestatic 145, 3) := by decide +kernel
theorem dL_law_573 : decode cL_law 573 = .ok (.istore 5, 2) := by decide +kernel
theorem dL_law_575 : decode cL_law 575 = .ok (.aload_n 2, 1) := by decide +kernel
theorem dL_law_576 : decode cL_law 576 = .ok (.aload_n 0, 1) := by decide +kernel
theorem dL_law_577 : decode cL_law 577 = .ok (.iload 4, 2) := by decide +kernel
theorem dL_law_579 : decode cL_law 579 = .ok (.iconst 1, 1) := by decide +kernel
theorem dL_law_580 : decode cL_law 580 = .ok (.iadd, 1) := by decide +kernel
theorem dL_law_581 : decode cL_law 581 = .ok (.iaload, 1) := by decide +kernel
theorem dL_law_582 : decode cL_law 582 = .ok (.invokevirtual 147, 3) := by decide +kernel
theorem dL_law_585 : decode cL_law 585 = .ok (.istore 6, 2) := by decide +kernel
theorem dL_law_587 : decode cL_law 587 = .ok (.goto 754, 3) := by decide +kernel
theorem dL_law_590 : decode cL_law 590 = .ok (.aload_n 1, 1) := by decide +kernel
theorem dL_law_591 : decode cL_law 591 = .ok (.aload_n 0, 1) := by decide +kernel
theorem dL_law_592 : decode cL_law 592 = .ok (.iload 4, 2) := by decide +kernel
theorem dL_law_594 : decode cL_law 594 = .ok (.iconst 1, 1) := by decide +kernel
theorem dL_law_595 : decode cL_law 595 = .ok (.iadd, 1) := by decide +kernel
theorem dL_law_596 : decode cL_law 596 = .ok (.iaload, 1) := by decide +kernel
theorem dL_law_597 : decode cL_law 597 = .ok (.aload_n 0, 1) := by decide +kernel
theorem dL_law_598 : decode cL_law 598 = .ok (.iload 4, 2) := by decide +kernel
theorem dL_law_600 : decode cL_law 600 = .ok (.iconst 2, 1) := by decide +kernel
theorem dL_law_601 : decode cL_law 601 = .ok (.iadd, 1) := by decide +kernel
theorem dL_law_602 : decode cL_law 602 = .ok (.iaload, 1) := by decide +kernel
theorem dL_law_603 : decode cL_law 603 = .ok (.aload_n 3, 1) := by decide +kernel
theorem dL_law_604 : decode cL_law 604 = .ok (.invokestatic 148, 3) := by decide +kernel
theorem dL_law_607 : decode cL_law 607 = .ok (.istore 5, 2) := by decide +kernel
theorem dL_law_609 : decode cL_law 609 = .ok (.aload_n 2, 1) := by decide +kernel
theorem dL_law_610 : decode cL_law 610 = .ok (.aload_n 0, 1) := by decide +kernel
theorem dL_law_611 : decode cL_law 611 = .ok (.iload 4, 2) := by decide +kernel
theorem dL_law_613 : decode cL_law 613 = .ok (.iconst 1, 1) := by decide +kernel
theorem dL_law_614 : decode cL_law 614 = .ok (.iadd, 1) := by decide +kernel
theorem dL_law_615 : decode cL_law 615 = .ok (.iaload, 1) := by decide +kernel
theorem dL_law_616 : decode cL_law 616 = .ok (.aload_n 0, 1) := by decide +kernel
theorem dL_law_617 : decode cL_law 617 = .ok (.iload 4, 2) := by decide +kernel
theorem dL_law_619 : decode cL_law 619 = .ok (.iconst 2, 1) := by decide +kernel
theorem dL_law_620 : decode cL_law 620 = .ok (.iadd, 1) := by decide +kernel
theorem dL_law_621 : decode cL_law 621 = .ok (.iaload, 1) := by decide +kernel
theorem dL_law_622 : decode cL_law 622 = .ok (.invokevirtual 150, 3) := by decide +kernel
theorem dL_law_625 : decode cL_law 625 = .ok (.istore 6, 2) := by decide +kernel
theorem dL_law_627 : decode cL_law 627 = .ok (.goto 714, 3) := by decide +kernel
theorem dL_law_630 : decode cL_law 630 = .ok (.aload_n 1, 1) := by decide +kernel
theorem dL_law_631 : decode cL_law 631 = .ok (.aload_n 0, 1) := by decide +kernel
theorem dL_law_632 : decode cL_law 632 = .ok (.iload 4, 2) := by decide +kernel
theorem dL_law_634 : decode cL_law 634 = .ok (.iconst 1, 1) := by decide +kernel
theorem dL_law_635 : decode cL_law 635 = .ok (.iadd, 1) := by decide +kernel
theorem dL_law_636 : decode cL_law 636 = .ok (.iaload, 1) := by decide +kernel
theorem dL_law_637 : decode cL_law 637 = .ok (.aload_n 0, 1) := by decide +kernel
theorem dL_law_638 : decode cL_law 638 = .ok (.iload 4, 2) := by decide +kernel
theorem dL_law_640 : decode cL_law 640 = .ok (.iconst 2, 1) := by decide +kernel
theorem dL_law_641 : decode cL_law 641 = .ok (.iadd, 1) := by decide +kernel
theorem dL_law_642 : decode cL_law 642 = .ok (.iaload, 1) := by decide +kernel
theorem dL_law_643 : decode cL_law 643 = .ok (.aload_n 0, 1) := by decide +kernel
theorem dL_law_644 : decode cL_law 644 = .ok (.iload 4, 2) := by decide +kernel
theorem dL_law_646 : decode cL_law 646 = .ok (.iconst 3, 1) := by decide +kernel
theorem dL_law_647 : decode cL_law 647 = .ok (.iadd, 1) := by decide +kernel
theorem dL_law_648 : decode cL_law 648 = .ok (.iaload, 1) := by decide +kernel
theorem dL_law_649 : decode cL_law 649 = .ok (.aload_n 3, 1) := by decide +kernel
theorem dL_law_650 : decode cL_law 650 = .ok (.invokestatic 151, 3) := by decide +kernel
theorem dL_law_653 : decode cL_law 653 = .ok (.istore 5, 2) := by decide +kernel
theorem dL_law_655 : decode cL_law 655 = .ok (.aload_n 2, 1) := by decide +kernel
theorem dL_law_656 : decode cL_law 656 = .ok (.aload_n 0, 1) := by decide +kernel
theorem dL_law_657 : decode cL_law 657 = .ok (.iload 4, 2) := by decide +kernel
theorem dL_law_659 : decode cL_law 659 = .ok (.iconst 1, 1) := by decide +kernel
theorem dL_law_660 : decode cL_law 660 = .ok (.iadd, 1) := by decide +kernel
theorem dL_law_661 : decode cL_law 661 = .ok (.iaload, 1) := by decide +kernel
theorem dL_law_662 : decode cL_law 662 = .ok (.aload_n 0, 1) := by decide +kernel
theorem dL_law_663 : decode cL_law 663 = .ok (.iload 4, 2) := by decide +kernel
theorem dL_law_665 : decode cL_law 665 = .ok (.iconst 2, 1) := by decide +kernel
theorem dL_law_666 : decode cL_law 666 = .ok (.iadd, 1) := by decide +kernel
theorem dL_law_667 : decode cL_law 667 = .ok (.iaload, 1) := by decide +kernel
theorem dL_law_668 : decode cL_law 668 = .ok (.aload_n 0, 1) := by decide +kernel
theorem dL_law_669 : decode cL_law 669 = .ok (.iload 4, 2) := by decide +kernel
theorem dL_law_671 : decode cL_law 671 = .ok (.iconst 3, 1) := by decide +kernel
theorem dL_law_672 : decode cL_law 672 = .ok (.iadd, 1) := by decide +kernel
theorem dL_law_673 : decode cL_law 673 = .ok (.iaload, 1) := by decide +kernel
theorem dL_law_674 : decode cL_law 674 = .ok (.invokevirtual 154, 3) := by decide +kernel
theorem dL_law_677 : decode cL_law 677 = .ok (.istore 6, 2) := by decide +kernel
theorem dL_law_679 : decode cL_law 679 = .ok (.goto 662, 3) := by decide +kernel
theorem dL_law_682 : decode cL_law 682 = .ok (.aload_n 1, 1) := by decide +kernel
theorem dL_law_683 : decode cL_law 683 = .ok (.aload_n 0, 1) := by decide +kernel
theorem dL_law_684 : decode cL_law 684 = .ok (.iload 4, 2) := by decide +kernel
theorem dL_law_686 : decode cL_law 686 = .ok (.iconst 1, 1) := by decide +kernel
theorem dL_law_687 : decode cL_law 687 = .ok (.iadd, 1) := by decide +kernel
theorem dL_law_688 : decode cL_law 688 = .ok (.iaload, 1) := by decide +kernel
theorem dL_law_689 : decode cL_law 689 = .ok (.aload_n 0, 1) := by decide +kernel
theorem dL_law_690 : decode cL_law 690 = .ok (.iload 4, 2) := by decide +kernel
theorem dL_law_692 : decode cL_law 692 = .ok (.iconst 2, 1) := by decide +kernel
theorem dL_law_693 : decode cL_law 693 = .ok (.iadd, 1) := by decide +kernel
theorem dL_law_694 : decode cL_law 694 = .ok (.iaload, 1) := by decide +kernel
theorem dL_law_695 : decode cL_law 695 = .ok (.aload_n 3, 1) := by decide +kernel
theorem dL_law_696 : decode cL_law 696 = .ok (.invokestatic 155, 3) := by decide +kernel
theorem dL_law_699 : decode cL_law 699 = .ok (.istore 5, 2) := by decide +kernel
theorem dL_law_701 : decode cL_law 701 = .ok (.aload_n 2, 1) := by decide +kernel
theorem dL_law_702 : decode cL_law 702 = .ok (.aload_n 0, 1) := by decide +kernel
theorem dL_law_703 : decode cL_law 703 = .ok (.iload 4, 2) := by decide +kernel
theorem dL_law_705 : decode cL_law 705 = .ok (.iconst 1, 1) := by decide +kernel
theorem dL_law_706 : decode cL_law 706 = .ok (.iadd, 1) := by decide +kernel
theorem dL_law_707 : decode cL_law 707 = .ok (.iaload, 1) := by decide +kernel
theorem dL_law_708 : decode cL_law 708 = .ok (.aload_n 0, 1) := by decide +kernel
theorem dL_law_709 : decode cL_law 709 = .ok (.iload 4, 2) := by decide +kernel
theorem dL_law_711 : decode cL_law 711 = .ok (.iconst 2, 1) := by decide +kernel
theorem dL_law_712 : decode cL_law 712 = .ok (.iadd, 1) := by decide +kernel
theorem dL_law_713 : decode cL_law 713 = .ok (.iaload, 1) := by decide +kernel
theorem dL_law_714 : decode cL_law 714 = .ok (.invokevirtual 157, 3) := by decide +kernel
theorem dL_law_717 : decode cL_law 717 = .ok (.istore 6, 2) := by decide +kernel
theorem dL_law_719 : decode cL_law 719 = .ok (.goto 622, 3) := by decide +kernel
theorem dL_law_722 : decode cL_law 722 = .ok (.aload_n 1, 1) := by decide +kernel
theorem dL_law_723 : decode cL_law 723 = .ok (.aload_n 0, 1) := by decide +kernel
theorem dL_law_724 : decode cL_law 724 = .ok (.iload 4, 2) := by decide +kernel
theorem dL_law_726 : decode cL_law 726 = .ok (.iconst 1, 1) := by decide +kernel
theorem dL_law_727 : decode cL_law 727 = .ok (.iadd, 1) := by decide +kernel
theorem dL_law_728 : decode cL_law 728 = .ok (.iaload, 1) := by decide +kernel
theorem dL_law_729 : decode cL_law 729 = .ok (.aload_n 0, 1) := by decide +kernel
theorem dL_law_730 : decode cL_law 730 = .ok (.iload 4, 2) := by decide +kernel
theorem dL_law_732 : decode cL_law 732 = .ok (.iconst 2, 1) := by decide +kernel
theorem dL_law_733 : decode cL_law 733 = .ok (.iadd, 1) := by decide +kernel
theorem dL_law_734 : decode cL_law 734 = .ok (.iaload, 1) := by decide +kernel
theorem dL_law_735 : decode cL_law 735 = .ok (.aload_n 3, 1) := by decide +kernel
theorem dL_law_736 : decode cL_law 736 = .ok (.invokestatic 158, 3) := by decide +kernel
theorem dL_law_739 : decode cL_law 739 = .ok (.istore 5, 2) := by decide +kernel
theorem dL_law_741 : decode cL_law 741 = .ok (.aload_n 2, 1) := by decide +kernel
theorem dL_law_742 : decode cL_law 742 = .ok (.aload_n 0, 1) := by decide +kernel
theorem dL_law_743 : decode cL_law 743 = .ok (.iload 4, 2) := by decide +kernel
theorem dL_law_745 : decode cL_law 745 = .ok (.iconst 1, 1) := by decide +kernel
theorem dL_law_746 : decode cL_law 746 = .ok (.iadd, 1) := by decide +kernel
theorem dL_law_747 : decode cL_law 747 = .ok (.iaload, 1) := by decide +kernel
theorem dL_law_748 : decode cL_law 748 = .ok (.aload_n 0, 1) := by decide +kernel
theorem dL_law_749 : decode cL_law 749 = .ok (.iload 4, 2) := by decide +kernel
theorem dL_law_751 : decode cL_law 751 = .ok (.iconst 2, 1) := by decide +kernel
theorem dL_law_752 : decode cL_law 752 = .ok (.iadd, 1) := by decide +kernel
theorem dL_law_753 : decode cL_law 753 = .ok (.iaload, 1) := by decide +kernel
theorem dL_law_754 : decode cL_law 754 = .ok (.invokevirtual 160, 3) := by decide +kernel
theorem dL_law_757 : decode cL_law 757 = .ok (.istore 6, 2) := by decide +kernel
theorem dL_law_759 : decode cL_law 759 = .ok (.goto 582, 3) := by decide +kernel
theorem dL_law_762 : decode cL_law 762 = .ok (.aload_n 1, 1) := by decide +kernel
theorem dL_law_763 : decode cL_law 763 = .ok (.aload_n 0, 1) := by decide +kernel
theorem dL_law_764 : decode cL_law 764 = .ok (.iload 4, 2) := by decide +kernel
theorem dL_law_766 : decode cL_law 766 = .ok (.iconst 1, 1) := by decide +kernel
theorem dL_law_767 : decode cL_law 767 = .ok (.iadd, 1) := by decide +kernel
theorem dL_law_768 : decode cL_law 768 = .ok (.iaload, 1) := by decide +kernel
theorem dL_law_769 : decode cL_law 769 = .ok (.aload_n 0, 1) := by decide +kernel
theorem dL_law_770 : decode cL_law 770 = .ok (.iload 4, 2) := by decide +kernel
theorem dL_law_772 : decode cL_law 772 = .ok (.iconst 2, 1) := by decide +kernel
theorem dL_law_773 : decode cL_law 773 = .ok (.iadd, 1) := by decide +kernel
theorem dL_law_774 : decode cL_law 774 = .ok (.iaload, 1) := by decide +kernel
theorem dL_law_775 : decode cL_law 775 = .ok (.aload_n 3, 1) := by decide +kernel
theorem dL_law_776 : decode cL_law 776 = .ok (.invokestatic 161, 3) := by decide +kernel
theorem dL_law_779 : decode cL_law 779 = .ok (.istore 5, 2) := by decide +kernel
theorem dL_law_781 : decode cL_law 781 = .ok (.aload_n 2, 1) := by decide +kernel
theorem dL_law_782 : decode cL_law 782 = .ok (.aload_n 0, 1) := by decide +kernel
theorem dL_law_783 : decode cL_law 783 = .ok (.iload 4, 2) := by decide +kernel
theorem dL_law_785 : decode cL_law 785 = .ok (.iconst 1, 1) := by decide +kernel
theorem dL_law_786 : decode cL_law 786 = .ok (.iadd, 1) := by decide +kernel
theorem dL_law_787 : decode cL_law 787 = .ok (.iaload, 1) := by decide +kernel
theorem dL_law_788 : decode cL_law 788 = .ok (.aload_n 0, 1) := by decide +kernel
theorem dL_law_789 : decode cL_law 789 = .ok (.iload 4, 2) := by decide +kernel
theorem dL_law_791 : decode cL_law 791 = .ok (.iconst 2, 1) := by decide +kernel
theorem dL_law_792 : decode cL_law 792 = .ok (.iadd, 1) := by decide +kernel
theorem dL_law_793 : decode cL_law 793 = .ok (.iaload, 1) := by decide +kernel
theorem dL_law_794 : decode cL_law 794 = .ok (.invokevirtual 163, 3) := by decide +kernel
theorem dL_law_797 : decode cL_law 797 = .ok (.istore 6, 2) := by decide +kernel
theorem dL_law_799 : decode cL_law 799 = .ok (.goto 542, 3) := by decide +kernel
theorem dL_law_802 : decode cL_law 802 = .ok (.aload_n 1, 1) := by decide +kernel
theorem dL_law_803 : decode cL_law 803 = .ok (.aload_n 0, 1) := by decide +kernel
theorem dL_law_804 : decode cL_law 804 = .ok (.iload 4, 2) := by decide +kernel
theorem dL_law_806 : decode cL_law 806 = .ok (.iconst 1, 1) := by decide +kernel
theorem dL_law_807 : decode cL_law 807 = .ok (.iadd, 1) := by decide +kernel
theorem dL_law_808 : decode cL_law 808 = .ok (.iaload, 1) := by decide +kernel
theorem dL_law_809 : decode cL_law 809 = .ok (.aload_n 0, 1) := by decide +kernel
theorem dL_law_810 : decode cL_law 810 = .ok (.iload 4, 2) := by decide +kernel
theorem dL_law_812 : decode cL_law 812 = .ok (.iconst 2, 1) := by decide +kernel
theorem dL_law_813 : decode cL_law 813 = .ok (.iadd, 1) := by decide +kernel
theorem dL_law_814 : decode cL_law 814 = .ok (.iaload, 1) := by decide +kernel
theorem dL_law_815 : decode cL_law 815 = .ok (.aload_n 3, 1) := by decide +kernel
theorem dL_law_816 : decode cL_law 816 = .ok (.invokestatic 164, 3) := by decide +kernel
theorem dL_law_819 : decode cL_law 819 = .ok (.istore 5, 2) := by decide +kernel
theorem dL_law_821 : decode cL_law 821 = .ok (.aload_n 2, 1) := by decide +kernel
theorem dL_law_822 : decode cL_law 822 = .ok (.aload_n 0, 1) := by decide +kernel
theorem dL_law_823 : decode cL_law 823 = .ok (.iload 4, 2) := by decide +kernel
theorem dL_law_825 : decode cL_law 825 = .ok (.iconst 1, 1) := by decide +kernel
theorem dL_law_826 : decode cL_law 826 = .ok (.iadd, 1) := by decide +kernel
theorem dL_law_827 : decode cL_law 827 = .ok (.iaload, 1) := by decide +kernel
theorem dL_law_828 : decode cL_law 828 = .ok (.aload_n 0, 1) := by decide +kernel
theorem dL_law_829 : decode cL_law 829 = .ok (.iload 4, 2) := by decide +kernel
theorem dL_law_831 : decode cL_law 831 = .ok (.iconst 2, 1) := by decide +kernel
theorem dL_law_832 : decode cL_law 832 = .ok (.iadd, 1) := by decide +kernel
theorem dL_law_833 : decode cL_law 833 = .ok (.iaload, 1) := by decide +kernel
theorem dL_law_834 : decode cL_law 834 = .ok (.invokevirtual 166, 3) := by decide +kernel
theorem dL_law_837 : decode cL_law 837 = .ok (.istore 6, 2) := by decide +kernel
theorem dL_law_839 : decode cL_law 839 = .ok (.goto 502, 3) := by decide +kernel
theorem dL_law_842 : decode cL_law 842 = .ok (.aload_n 1, 1) := by decide +kernel
theorem dL_law_843 : decode cL_law 843 = .ok (.aload_n 0, 1) := by decide +kernel
theorem dL_law_844 : decode cL_law 844 = .ok (.iload 4, 2) := by decide +kernel
theorem dL_law_846 : decode cL_law 846 = .ok (.iconst 1, 1) := by decide +kernel
theorem dL_law_847 : decode cL_law 847 = .ok (.iadd, 1) := by decide +kernel
theorem dL_law_848 : decode cL_law 848 = .ok (.iaload, 1) := by decide +kernel
theorem dL_law_849 : decode cL_law 849 = .ok (.aload_n 0, 1) := by decide +kernel
theorem dL_law_850 : decode cL_law 850 = .ok (.iload 4, 2) := by decide +kernel
theorem dL_law_852 : decode cL_law 852 = .ok (.iconst 2, 1) := by decide +kernel
theorem dL_law_853 : decode cL_law 853 = .ok (.iadd, 1) := by decide +kernel
theorem dL_law_854 : decode cL_law 854 = .ok (.iaload, 1) := by decide +kernel
theorem dL_law_855 : decode cL_law 855 = .ok (.invokestatic 167, 3) := by decide +kernel
theorem dL_law_858 : decode cL_law 858 = .ok (.istore 5, 2) := by decide +kernel
theorem dL_law_860 : decode cL_law 860 = .ok (.aload_n 2, 1) := by decide +kernel
theorem dL_law_861 : decode cL_law 861 = .ok (.aload_n 0, 1) := by decide +kernel
theorem dL_law_862 : decode cL_law 862 = .ok (.iload 4, 2) := by decide +kernel
theorem dL_law_864 : decode cL_law 864 = .ok (.iconst 1, 1) := by decide +kernel
theorem dL_law_865 : decode cL_law 865 = .ok (.iadd, 1) := by decide +kernel
theorem dL_law_866 : decode cL_law 866 = .ok (.iaload, 1) := by decide +kernel
theorem dL_law_867 : decode cL_law 867 = .ok (.aload_n 0, 1) := by decide +kernel
theorem dL_law_868 : decode cL_law 868 = .ok (.iload 4, 2) := by decide +kernel
theorem dL_law_870 : decode cL_law 870 = .ok (.iconst 2, 1) := by decide +kernel
theorem dL_law_871 : decode cL_law 871 = .ok (.iadd, 1) := by decide +kernel
theorem dL_law_872 : decode cL_law 872 = .ok (.iaload, 1) := by decide +kernel
theorem dL_law_873 : decode cL_law 873 = .ok (.invokevirtual 170, 3) := by decide +kernel
theorem dL_law_876 : decode cL_law 876 = .ok (.goto 465, 3) := by decide +kernel
theorem dL_law_879 : decode cL_law 879 = .ok (.aload_n 1, 1) := by decide +kernel
theorem dL_law_880 : decode cL_law 880 = .ok (.aload_n 0, 1) := by decide +kernel
theorem dL_law_881 : decode cL_law 881 = .ok (.iload 4, 2) := by decide +kernel
theorem dL_law_883 : decode cL_law 883 = .ok (.iconst 1, 1) := by decide +kernel
theorem dL_law_884 : decode cL_law 884 = .ok (.iadd, 1) := by decide +kernel
theorem dL_law_885 : decode cL_law 885 = .ok (.iaload, 1) := by decide +kernel
theorem dL_law_886 : decode cL_law 886 = .ok (.aload_n 0, 1) := by decide +kernel
theorem dL_law_887 : decode cL_law 887 = .ok (.iload 4, 2) := by decide +kernel
theorem dL_law_889 : decode cL_law 889 = .ok (.iconst 2, 1) := by decide +kernel
theorem dL_law_890 : decode cL_law 890 = .ok (.iadd, 1) := by decide +kernel
theorem dL_law_891 : decode cL_law 891 = .ok (.iaload, 1) := by decide +kernel
theorem dL_law_892 : decode cL_law 892 = .ok (.aload_n 0, 1) := by decide +kernel
theorem dL_law_893 : decode cL_law 893 = .ok (.iload 4, 2) := by decide +kernel
theorem dL_law_895 : decode cL_law 895 = .ok (.iconst 3, 1) := by decide +kernel
theorem dL_law_896 : decode cL_law 896 = .ok (.iadd, 1) := by decide +kernel
theorem dL_law_897 : decode cL_law 897 = .ok (.iaload, 1) := by decide +kernel
theorem dL_law_898 : decode cL_law 898 = .ok (.invokestatic 171, 3) := by decide +kernel
theorem dL_law_901 : decode cL_law 901 = .ok (.istore 5, 2) := by decide +kernel
theorem dL_law_903 : decode cL_law 903 = .ok (.aload_n 2, 1) := by decide +kernel
theorem dL_law_904 : decode cL_law 904 = .ok (.aload_n 0, 1) := by decide +kernel
theorem dL_law_905 : decode cL_law 905 = .ok (.iload 4, 2) := by decide +kernel
theorem dL_law_907 : decode cL_law 907 = .ok (.iconst 1, 1) := by decide +kernel
theorem dL_law_908 : decode cL_law 908 = .ok (.iadd, 1) := by decide +kernel
theorem dL_law_909 : decode cL_law 909 = .ok (.iaload, 1) := by decide +kernel
theorem dL_law_910 : decode cL_law 910 = .ok (.aload_n 0, 1) := by decide +kernel
theorem dL_law_911 : decode cL_law 911 = .ok (.iload 4, 2) := by decide +kernel
theorem dL_law_913 : decode cL_law 913 = .ok (.iconst 2, 1) := by decide +kernel
theorem dL_law_914 : decode cL_law 914 = .ok (.iadd, 1) := by decide +kernel
theorem dL_law_915 : decode cL_law 915 = .ok (.iaload, 1) := by decide +kernel
theorem dL_law_916 : decode cL_law 916 = .ok (.aload_n 0, 1) := by decide +kernel
theorem dL_law_917 : decode cL_law 917 = .ok (.iload 4, 2) := by decide +kernel
theorem dL_law_919 : decode cL_law 919 = .ok (.iconst 3, 1) := by decide +kernel
theorem dL_law_920 : decode cL_law 920 = .ok (.iadd, 1) := by decide +kernel
theorem dL_law_921 : decode cL_law 921 = .ok (.iaload, 1) := by decide +kernel
theorem dL_law_922 : decode cL_law 922 = .ok (.invokevirtual 174, 3) := by decide +kernel
theorem dL_law_925 : decode cL_law 925 = .ok (.goto 416, 3) := by decide +kernel
theorem dL_law_928 : decode cL_law 928 = .ok (.aload_n 1, 1) := by decide +kernel
theorem dL_law_929 : decode cL_law 929 = .ok (.aload_n 0, 1) := by decide +kernel
theorem dL_law_930 : decode cL_law 930 = .ok (.iload 4, 2) := by decide +kernel
theorem dL_law_932 : decode cL_law 932 = .ok (.iconst 1, 1) := by decide +kernel
theorem dL_law_933 : decode cL_law 933 = .ok (.iadd, 1) := by decide +kernel
theorem dL_law_934 : decode cL_law 934 = .ok (.iaload, 1) := by decide +kernel
theorem dL_law_935 : decode cL_law 935 = .ok (.aload_n 3, 1) := by decide +kernel
theorem dL_law_936 : decode cL_law 936 = .ok (.invokestatic 175, 3) := by decide +kernel
theorem dL_law_939 : decode cL_law 939 = .ok (.istore 5, 2) := by decide +kernel
theorem dL_law_941 : decode cL_law 941 = .ok (.aload_n 2, 1) := by decide +kernel
theorem dL_law_942 : decode cL_law 942 = .ok (.aload_n 0, 1) := by decide +kernel
theorem dL_law_943 : decode cL_law 943 = .ok (.iload 4, 2) := by decide +kernel
theorem dL_law_945 : decode cL_law 945 = .ok (.iconst 1, 1) := by decide +kernel
theorem dL_law_946 : decode cL_law 946 = .ok (.iadd, 1) := by decide +kernel
theorem dL_law_947 : decode cL_law 947 = .ok (.iaload, 1) := by decide +kernel
theorem dL_law_948 : decode cL_law 948 = .ok (.invokevirtual 177, 3) := by decide +kernel
theorem dL_law_951 : decode cL_law 951 = .ok (.istore 6, 2) := by decide +kernel
theorem dL_law_953 : decode cL_law 953 = .ok (.goto 388, 3) := by decide +kernel
theorem dL_law_956 : decode cL_law 956 = .ok (.aload_n 1, 1) := by decide +kernel
theorem dL_law_957 : decode cL_law 957 = .ok (.aload_n 0, 1) := by decide +kernel
theorem dL_law_958 : decode cL_law 958 = .ok (.iload 4, 2) := by decide +kernel
theorem dL_law_960 : decode cL_law 960 = .ok (.iconst 1, 1) := by decide +kernel
theorem dL_law_961 : decode cL_law 961 = .ok (.iadd, 1) := by decide +kernel
theorem dL_law_962 : decode cL_law 962 = .ok (.iaload, 1) := by decide +kernel
theorem dL_law_963 : decode cL_law 963 = .ok (.ifCond .eq 7, 3) := by decide +kernel
theorem dL_law_966 : decode cL_law 966 = .ok (.iconst 1, 1) := by decide +kernel
theorem dL_law_967 : decode cL_law 967 = .ok (.goto 4, 3) := by decide +kernel
theorem dL_law_970 : decode cL_law 970 = .ok (.iconst 0, 1) := by decide +kernel
theorem dL_law_971 : decode cL_law 971 = .ok (.aload_n 0, 1) := by decide +kernel
theorem dL_law_972 : decode cL_law 972 = .ok (.iload 4, 2) := by decide +kernel
theorem dL_law_974 : decode cL_law 974 = .ok (.iconst 2, 1) := by decide +kernel
theorem dL_law_975 : decode cL_law 975 = .ok (.iadd, 1) := by decide +kernel
theorem dL_law_976 : decode cL_law 976 = .ok (.iaload, 1) := by decide +kernel
theorem dL_law_977 : decode cL_law 977 = .ok (.aload_n 3, 1) := by decide +kernel
theorem dL_law_978 : decode cL_law 978 = .ok (.invokestatic 178, 3) := by decide +kernel
theorem dL_law_981 : decode cL_law 981 = .ok (.istore 5, 2) := by decide +kernel
theorem dL_law_983 : decode cL_law 983 = .ok (.aload_n 2, 1) := by decide +kernel
theorem dL_law_984 : decode cL_law 984 = .ok (.aload_n 0, 1) := by decide +kernel
theorem dL_law_985 : decode cL_law 985 = .ok (.iload 4, 2) := by decide +kernel
theorem dL_law_987 : decode cL_law 987 = .ok (.iconst 1, 1) := by decide +kernel
theorem dL_law_988 : decode cL_law 988 = .ok (.iadd, 1) := by decide +kernel
theorem dL_law_989 : decode cL_law 989 = .ok (.iaload, 1) := by decide +kernel
theorem dL_law_990 : decode cL_law 990 = .ok (.ifCond .eq 7, 3) := by decide +kernel
theorem dL_law_993 : decode cL_law 993 = .ok (.iconst 1, 1) := by decide +kernel
theorem dL_law_994 : decode cL_law 994 = .ok (.goto 4, 3) := by decide +kernel
theorem dL_law_997 : decode cL_law 997 = .ok (.iconst 0, 1) := by decide +kernel
theorem dL_law_998 : decode cL_law 998 = .ok (.aload_n 0, 1) := by decide +kernel
theorem dL_law_999 : decode cL_law 999 = .ok (.iload 4, 2) := by decide +kernel
theorem dL_law_1001 : decode cL_law 1001 = .ok (.iconst 2, 1) := by decide +kernel
theorem dL_law_1002 : decode cL_law 1002 = .ok (.iadd, 1) := by decide +kernel
theorem dL_law_1003 : decode cL_law 1003 = .ok (.iaload, 1) := by decide +kernel
theorem dL_law_1004 : decode cL_law 1004 = .ok (.invokevirtual 181, 3) := by decide +kernel
theorem dL_law_1007 : decode cL_law 1007 = .ok (.istore 6, 2) := by decide +kernel
theorem dL_law_1009 : decode cL_law 1009 = .ok (.goto 332, 3) := by decide +kernel
theorem dL_law_1012 : decode cL_law 1012 = .ok (.aload_n 1, 1) := by decide +kernel
theorem dL_law_1013 : decode cL_law 1013 = .ok (.aload_n 0, 1) := by decide +kernel
theorem dL_law_1014 : decode cL_law 1014 = .ok (.iload 4, 2) := by decide +kernel
theorem dL_law_1016 : decode cL_law 1016 = .ok (.iconst 1, 1) := by decide +kernel
theorem dL_law_1017 : decode cL_law 1017 = .ok (.iadd, 1) := by decide +kernel
theorem dL_law_1018 : decode cL_law 1018 = .ok (.iaload, 1) := by decide +kernel
theorem dL_law_1019 : decode cL_law 1019 = .ok (.aload_n 3, 1) := by decide +kernel
theorem dL_law_1020 : decode cL_law 1020 = .ok (.invokestatic 182, 3) := by decide +kernel
theorem dL_law_1023 : decode cL_law 1023 = .ok (.istore 5, 2) := by decide +kernel
theorem dL_law_1025 : decode cL_law 1025 = .ok (.aload_n 2, 1) := by decide +kernel
theorem dL_law_1026 : decode cL_law 1026 = .ok (.aload_n 0, 1) := by decide +kernel
theorem dL_law_1027 : decode cL_law 1027 = .ok (.iload 4, 2) := by decide +kernel
theorem dL_law_1029 : decode cL_law 1029 = .ok (.iconst 1, 1) := by decide +kernel
theorem dL_law_1030 : decode cL_law 1030 = .ok (.iadd, 1) := by decide +kernel
theorem dL_law_1031 : decode cL_law 1031 = .ok (.iaload, 1) := by decide +kernel
theorem dL_law_1032 : decode cL_law 1032 = .ok (.invokevirtual 184, 3) := by decide +kernel
theorem dL_law_1035 : decode cL_law 1035 = .ok (.lstore 6, 2) := by decide +kernel
theorem dL_law_1037 : decode cL_law 1037 = .ok (.goto 304, 3) := by decide +kernel
theorem dL_law_1040 : decode cL_law 1040 = .ok (.aload_n 1, 1) := by decide +kernel
theorem dL_law_1041 : decode cL_law 1041 = .ok (.aload_n 0, 1) := by decide +kernel
theorem dL_law_1042 : decode cL_law 1042 = .ok (.iload 4, 2) := by decide +kernel
theorem dL_law_1044 : decode cL_law 1044 = .ok (.iconst 1, 1) := by decide +kernel
theorem dL_law_1045 : decode cL_law 1045 = .ok (.iadd, 1) := by decide +kernel
theorem dL_law_1046 : decode cL_law 1046 = .ok (.iaload, 1) := by decide +kernel
theorem dL_law_1047 : decode cL_law 1047 = .ok (.aload_n 0, 1) := by decide +kernel
theorem dL_law_1048 : decode cL_law 1048 = .ok (.iload 4, 2) := by decide +kernel
theorem dL_law_1050 : decode cL_law 1050 = .ok (.iconst 2, 1) := by decide +kernel
theorem dL_law_1051 : decode cL_law 1051 = .ok (.iadd, 1) := by decide +kernel
theorem dL_law_1052 : decode cL_law 1052 = .ok (.iaload, 1) := by decide +kernel
theorem dL_law_1053 : decode cL_law 1053 = .ok (.aload_n 0, 1) := by decide +kernel
theorem dL_law_1054 : decode cL_law 1054 = .ok (.iload 4, 2) := by decide +kernel
theorem dL_law_1056 : decode cL_law 1056 = .ok (.iconst 3, 1) := by decide +kernel
theorem dL_law_1057 : decode cL_law 1057 = .ok (.iadd, 1) := by decide +kernel
theorem dL_law_1058 : decode cL_law 1058 = .ok (.iaload, 1) := by decide +kernel
theorem dL_law_1059 : decode cL_law 1059 = .ok (.aload_n 3, 1) := by decide +kernel
theorem dL_law_1060 : decode cL_law 1060 = .ok (.invokestatic 185, 3) := by decide +kernel
theorem dL_law_1063 : decode cL_law 1063 = .ok (.istore 5, 2) := by decide +kernel
theorem dL_law_1065 : decode cL_law 1065 = .ok (.aload_n 2, 1) := by decide +kernel
theorem dL_law_1066 : decode cL_law 1066 = .ok (.aload_n 0, 1) := by decide +kernel
theorem dL_law_1067 : decode cL_law 1067 = .ok (.iload 4, 2) := by decide +kernel
theorem dL_law_1069 : decode cL_law 1069 = .ok (.iconst 1, 1) := by decide +kernel
theorem dL_law_1070 : decode cL_law 1070 = .ok (.iadd, 1) := by decide +kernel
theorem dL_law_1071 : decode cL_law 1071 = .ok (.iaload, 1) := by decide +kernel
theorem dL_law_1072 : decode cL_law 1072 = .ok (.aload_n 0, 1) := by decide +kernel
theorem dL_law_1073 : decode cL_law 1073 = .ok (.iload 4, 2) := by decide +kernel
theorem dL_law_1075 : decode cL_law 1075 = .ok (.iconst 2, 1) := by decide +kernel
theorem dL_law_1076 : decode cL_law 1076 = .ok (.iadd, 1) := by decide +kernel
theorem dL_law_1077 : decode cL_law 1077 = .ok (.iaload, 1) := by decide +kernel
theorem dL_law_1078 : decode cL_law 1078 = .ok (.aload_n 0, 1) := by decide +kernel
theorem dL_law_1079 : decode cL_law 1079 = .ok (.iload 4, 2) := by decide +kernel
theorem dL_law_1081 : decode cL_law 1081 = .ok (.iconst 3, 1) := by decide +kernel
theorem dL_law_1082 : decode cL_law 1082 = .ok (.iadd, 1) := by decide +kernel
theorem dL_law_1083 : decode cL_law 1083 = .ok (.iaload, 1) := by decide +kernel
theorem dL_law_1084 : decode cL_law 1084 = .ok (.invokevirtual 187, 3) := by decide +kernel
theorem dL_law_1087 : decode cL_law 1087 = .ok (.istore 6, 2) := by decide +kernel
theorem dL_law_1089 : decode cL_law 1089 = .ok (.goto 252, 3) := by decide +kernel
theorem dL_law_1092 : decode cL_law 1092 = .ok (.aload_n 1, 1) := by decide +kernel
theorem dL_law_1093 : decode cL_law 1093 = .ok (.aload_n 0, 1) := by decide +kernel
theorem dL_law_1094 : decode cL_law 1094 = .ok (.iload 4, 2) := by decide +kernel
theorem dL_law_1096 : decode cL_law 1096 = .ok (.iconst 1, 1) := by decide +kernel
theorem dL_law_1097 : decode cL_law 1097 = .ok (.iadd, 1) := by decide +kernel
theorem dL_law_1098 : decode cL_law 1098 = .ok (.iaload, 1) := by decide +kernel
theorem dL_law_1099 : decode cL_law 1099 = .ok (.aload_n 0, 1) := by decide +kernel
theorem dL_law_1100 : decode cL_law 1100 = .ok (.iload 4, 2) := by decide +kernel
theorem dL_law_1102 : decode cL_law 1102 = .ok (.iconst 2, 1) := by decide +kernel
theorem dL_law_1103 : decode cL_law 1103 = .ok (.iadd, 1) := by decide +kernel
theorem dL_law_1104 : decode cL_law 1104 = .ok (.iaload, 1) := by decide +kernel
theorem dL_law_1105 : decode cL_law 1105 = .ok (.aload_n 3, 1) := by decide +kernel
theorem dL_law_1106 : decode cL_law 1106 = .ok (.invokestatic 188, 3) := by decide +kernel
theorem dL_law_1109 : decode cL_law 1109 = .ok (.istore 5, 2) := by decide +kernel
theorem dL_law_1111 : decode cL_law 1111 = .ok (.aload_n 2, 1) := by decide +kernel
theorem dL_law_1112 : decode cL_law 1112 = .ok (.aload_n 0, 1) := by decide +kernel
theorem dL_law_1113 : decode cL_law 1113 = .ok (.iload 4, 2) := by decide +kernel
theorem dL_law_1115 : decode cL_law 1115 = .ok (.iconst 1, 1) := by decide +kernel
theorem dL_law_1116 : decode cL_law 1116 = .ok (.iadd, 1) := by decide +kernel
theorem dL_law_1117 : decode cL_law 1117 = .ok (.iaload, 1) := by decide +kernel
theorem dL_law_1118 : decode cL_law 1118 = .ok (.aload_n 0, 1) := by decide +kernel
theorem dL_law_1119 : decode cL_law 1119 = .ok (.iload 4, 2) := by decide +kernel
theorem dL_law_1121 : decode cL_law 1121 = .ok (.iconst 2, 1) := by decide +kernel
theorem dL_law_1122 : decode cL_law 1122 = .ok (.iadd, 1) := by decide +kernel
theorem dL_law_1123 : decode cL_law 1123 = .ok (.iaload, 1) := by decide +kernel
theorem dL_law_1124 : decode cL_law 1124 = .ok (.invokevirtual 190, 3) := by decide +kernel
theorem dL_law_1127 : decode cL_law 1127 = .ok (.istore 6, 2) := by decide +kernel
theorem dL_law_1129 : decode cL_law 1129 = .ok (.goto 212, 3) := by decide +kernel
theorem dL_law_1132 : decode cL_law 1132 = .ok (.aload_n 1, 1) := by decide +kernel
theorem dL_law_1133 : decode cL_law 1133 = .ok (.aload_n 0, 1) := by decide +kernel
theorem dL_law_1134 : decode cL_law 1134 = .ok (.iload 4, 2) := by decide +kernel
theorem dL_law_1136 : decode cL_law 1136 = .ok (.iconst 1, 1) := by decide +kernel
theorem dL_law_1137 : decode cL_law 1137 = .ok (.iadd, 1) := by decide +kernel
theorem dL_law_1138 : decode cL_law 1138 = .ok (.iaload, 1) := by decide +kernel
theorem dL_law_1139 : decode cL_law 1139 = .ok (.aload_n 0, 1) := by decide +kernel
theorem dL_law_1140 : decode cL_law 1140 = .ok (.iload 4, 2) := by decide +kernel
theorem dL_law_1142 : decode cL_law 1142 = .ok (.iconst 2, 1) := by decide +kernel
theorem dL_law_1143 : decode cL_law 1143 = .ok (.iadd, 1) := by decide +kernel
theorem dL_law_1144 : decode cL_law 1144 = .ok (.iaload, 1) := by decide +kernel
theorem dL_law_1145 : decode cL_law 1145 = .ok (.aload_n 3, 1) := by decide +kernel
theorem dL_law_1146 : decode cL_law 1146 = .ok (.invokestatic 191, 3) := by decide +kernel
theorem dL_law_1149 : decode cL_law 1149 = .ok (.istore 5, 2) := by decide +kernel
theorem dL_law_1151 : decode cL_law 1151 = .ok (.aload_n 2, 1) := by decide +kernel
theorem dL_law_1152 : decode cL_law 1152 = .ok (.aload_n 0, 1) := by decide +kernel
theorem dL_law_1153 : decode cL_law 1153 = .ok (.iload 4, 2) := by decide +kernel
theorem dL_law_1155 : decode cL_law 1155 = .ok (.iconst 1, 1) := by decide +kernel
theorem dL_law_1156 : decode cL_law 1156 = .ok (.iadd, 1) := by decide +kernel
theorem dL_law_1157 : decode cL_law 1157 = .ok (.iaload, 1) := by decide +kernel
theorem dL_law_1158 : decode cL_law 1158 = .ok (.aload_n 0, 1) := by decide +kernel
theorem dL_law_1159 : decode cL_law 1159 = .ok (.iload 4, 2) := by decide +kernel
theorem dL_law_1161 : decode cL_law 1161 = .ok (.iconst 2, 1) := by decide +kernel
theorem dL_law_1162 : decode cL_law 1162 = .ok (.iadd, 1) := by decide +kernel
theorem dL_law_1163 : decode cL_law 1163 = .ok (.iaload, 1) := by decide +kernel
theorem dL_law_1164 : decode cL_law 1164 = .ok (.invokevirtual 193, 3) := by decide +kernel
theorem dL_law_1167 : decode cL_law 1167 = .ok (.istore 6, 2) := by decide +kernel
theorem dL_law_1169 : decode cL_law 1169 = .ok (.goto 172, 3) := by decide +kernel
theorem dL_law_1172 : decode cL_law 1172 = .ok (.aload_n 1, 1) := by decide +kernel
theorem dL_law_1173 : decode cL_law 1173 = .ok (.aload_n 0, 1) := by decide +kernel
theorem dL_law_1174 : decode cL_law 1174 = .ok (.iload 4, 2) := by decide +kernel
theorem dL_law_1176 : decode cL_law 1176 = .ok (.iconst 1, 1) := by decide +kernel
theorem dL_law_1177 : decode cL_law 1177 = .ok (.iadd, 1) := by decide +kernel
theorem dL_law_1178 : decode cL_law 1178 = .ok (.iaload, 1) := by decide +kernel
theorem dL_law_1179 : decode cL_law 1179 = .ok (.aload_n 0, 1) := by decide +kernel
theorem dL_law_1180 : decode cL_law 1180 = .ok (.iload 4, 2) := by decide +kernel
theorem dL_law_1182 : decode cL_law 1182 = .ok (.iconst 2, 1) := by decide +kernel
theorem dL_law_1183 : decode cL_law 1183 = .ok (.iadd, 1) := by decide +kernel
theorem dL_law_1184 : decode cL_law 1184 = .ok (.iaload, 1) := by decide +kernel
theorem dL_law_1185 : decode cL_law 1185 = .ok (.aload_n 0, 1) := by decide +kernel
theorem dL_law_1186 : decode cL_law 1186 = .ok (.iload 4, 2) := by decide +kernel
theorem dL_law_1188 : decode cL_law 1188 = .ok (.iconst 3, 1) := by decide +kernel
theorem dL_law_1189 : decode cL_law 1189 = .ok (.iadd, 1) := by decide +kernel
theorem dL_law_1190 : decode cL_law 1190 = .ok (.iaload, 1) := by decide +kernel
theorem dL_law_1191 : decode cL_law 1191 = .ok (.aload_n 3, 1) := by decide +kernel
theorem dL_law_1192 : decode cL_law 1192 = .ok (.invokestatic 194, 3) := by decide +kernel
theorem dL_law_1195 : decode cL_law 1195 = .ok (.istore 5, 2) := by decide +kernel
theorem dL_law_1197 : decode cL_law 1197 = .ok (.aload_n 2, 1) := by decide +kernel
theorem dL_law_1198 : decode cL_law 1198 = .ok (.aload_n 0, 1) := by decide +kernel
theorem dL_law_1199 : decode cL_law 1199 = .ok (.iload 4, 2) := by decide +kernel
theorem dL_law_1201 : decode cL_law 1201 = .ok (.iconst 1, 1) := by decide +kernel
theorem dL_law_1202 : decode cL_law 1202 = .ok (.iadd, 1) := by decide +kernel
theorem dL_law_1203 : decode cL_law 1203 = .ok (.iaload, 1) := by decide +kernel
theorem dL_law_1204 : decode cL_law 1204 = .ok (.aload_n 0, 1) := by decide +kernel
theorem dL_law_1205 : decode cL_law 1205 = .ok (.iload 4, 2) := by decide +kernel
theorem dL_law_1207 : decode cL_law 1207 = .ok (.iconst 2, 1) := by decide +kernel
theorem dL_law_1208 : decode cL_law 1208 = .ok (.iadd, 1) := by decide +kernel
theorem dL_law_1209 : decode cL_law 1209 = .ok (.iaload, 1) := by decide +kernel
theorem dL_law_1210 : decode cL_law 1210 = .ok (.aload_n 0, 1) := by decide +kernel
theorem dL_law_1211 : decode cL_law 1211 = .ok (.iload 4, 2) := by decide +kernel
theorem dL_law_1213 : decode cL_law 1213 = .ok (.iconst 3, 1) := by decide +kernel
theorem dL_law_1214 : decode cL_law 1214 = .ok (.iadd, 1) := by decide +kernel
theorem dL_law_1215 : decode cL_law 1215 = .ok (.iaload, 1) := by decide +kernel
theorem dL_law_1216 : decode cL_law 1216 = .ok (.invokevirtual 196, 3) := by decide +kernel
theorem dL_law_1219 : decode cL_law 1219 = .ok (.istore 6, 2) := by decide +kernel
theorem dL_law_1221 : decode cL_law 1221 = .ok (.goto 120, 3) := by decide +kernel
theorem dL_law_1224 : decode cL_law 1224 = .ok (.aload_n 1, 1) := by decide +kernel
theorem dL_law_1225 : decode cL_law 1225 = .ok (.invokevirtual 197, 3) := by decide +kernel
theorem dL_law_1228 : decode cL_law 1228 = .ok (.pop, 1) := by decide +kernel
theorem dL_law_1229 : decode cL_law 1229 = .ok (.aload_n 2, 1) := by decide +kernel
theorem dL_law_1230 : decode cL_law 1230 = .ok (.invokevirtual 200, 3) := by decide +kernel
theorem dL_law_1233 : decode cL_law 1233 = .ok (.pop, 1) := by decide +kernel
theorem dL_law_1234 : decode cL_law 1234 = .ok (.goto 107, 3) := by decide +kernel
theorem dL_law_1237 : decode cL_law 1237 = .ok (.aload_n 1, 1) := by decide +kernel
theorem dL_law_1238 : decode cL_law 1238 = .ok (.aload_n 0, 1) := by decide +kernel
theorem dL_law_1239 : decode cL_law 1239 = .ok (.iload 4, 2) := by decide +kernel
theorem dL_law_1241 : decode cL_law 1241 = .ok (.iconst 1, 1) := by decide +kernel
theorem dL_law_1242 : decode cL_law 1242 = .ok (.iadd, 1) := by decide +kernel
theorem dL_law_1243 : decode cL_law 1243 = .ok (.iaload, 1) := by decide +kernel
theorem dL_law_1244 : decode cL_law 1244 = .ok (.aload_n 3, 1) := by decide +kernel
theorem dL_law_1245 : decode cL_law 1245 = .ok (.invokestatic 201, 3) := by decide +kernel
theorem dL_law_1248 : decode cL_law 1248 = .ok (.istore 5, 2) := by decide +kernel
theorem dL_law_1250 : decode cL_law 1250 = .ok (.aload_n 2, 1) := by decide +kernel
theorem dL_law_1251 : decode cL_law 1251 = .ok (.aload_n 0, 1) := by decide +kernel
theorem dL_law_1252 : decode cL_law 1252 = .ok (.iload 4, 2) := by decide +kernel
theorem dL_law_1254 : decode cL_law 1254 = .ok (.iconst 1, 1) := by decide +kernel
theorem dL_law_1255 : decode cL_law 1255 = .ok (.iadd, 1) := by decide +kernel
theorem dL_law_1256 : decode cL_law 1256 = .ok (.iaload, 1) := by decide +kernel
theorem dL_law_1257 : decode cL_law 1257 = .ok (.invokevirtual 203, 3) := by decide +kernel
theorem dL_law_1260 : decode cL_law 1260 = .ok (.istore 6, 2) := by decide +kernel
theorem dL_law_1262 : decode cL_law 1262 = .ok (.goto 79, 3) := by decide +kernel
theorem dL_law_1265 : decode cL_law 1265 = .ok (.aload_n 1, 1) := by decide +kernel
theorem dL_law_1266 : decode cL_law 1266 = .ok (.invokevirtual 204, 3) := by decide +kernel
theorem dL_law_1269 : decode cL_law 1269 = .ok (.pop, 1) := by decide +kernel
theorem dL_law_1270 : decode cL_law 1270 = .ok (.aload_n 2, 1) := by decide +kernel
theorem dL_law_1271 : decode cL_law 1271 = .ok (.invokevirtual 207, 3) := by decide +kernel
theorem dL_law_1274 : decode cL_law 1274 = .ok (.pop, 1) := by decide +kernel
theorem dL_law_1275 : decode cL_law 1275 = .ok (.goto 66, 3) := by decide +kernel
theorem dL_law_1278 : decode cL_law 1278 = .ok (.aload_n 1, 1) := by decide +kernel
theorem dL_law_1279 : decode cL_law 1279 = .ok (.invokevirtual 208, 3) := by decide +kernel
theorem dL_law_1282 : decode cL_law 1282 = .ok (.pop, 1) := by decide +kernel
theorem dL_law_1283 : decode cL_law 1283 = .ok (.aload_n 2, 1) := by decide +kernel
theorem dL_law_1284 : decode cL_law 1284 = .ok (.invokevirtual 211, 3) := by decide +kernel
theorem dL_law_1287 : decode cL_law 1287 = .ok (.pop, 1) := by decide +kernel
theorem dL_law_1288 : decode cL_law 1288 = .ok (.goto 53, 3) := by decide +kernel
theorem dL_law_1291 : decode cL_law 1291 = .ok (.aload_n 1, 1) := by decide +kernel
theorem dL_law_1292 : decode cL_law 1292 = .ok (.aload_n 0, 1) := by decide +kernel
theorem dL_law_1293 : decode cL_law 1293 = .ok (.iload 4, 2) := by decide +kernel
theorem dL_law_1295 : decode cL_law 1295 = .ok (.iconst 1, 1) := by decide +kernel
theorem dL_law_1296 : decode cL_law 1296 = .ok (.iadd, 1) := by decide +kernel
theorem dL_law_1297 : decode cL_law 1297 = .ok (.iaload, 1) := by decide +kernel
theorem dL_law_1298 : decode cL_law 1298 = .ok (.invokevirtual 212, 3) := by decide +kernel
theorem dL_law_1301 : decode cL_law 1301 = .ok (.pop, 1) := by decide +kernel
theorem dL_law_1302 : decode cL_law 1302 = .ok (.aload_n 2, 1) := by decide +kernel
theorem dL_law_1303 : decode cL_law 1303 = .ok (.aload_n 0, 1) := by decide +kernel
theorem dL_law_1304 : decode cL_law 1304 = .ok (.iload 4, 2) := by decide +kernel
theorem dL_law_1306 : decode cL_law 1306 = .ok (.iconst 1, 1) := by decide +kernel
theorem dL_law_1307 : decode cL_law 1307 = .ok (.iadd, 1) := by decide +kernel
theorem dL_law_1308 : decode cL_law 1308 = .ok (.iaload, 1) := by decide +kernel
theorem dL_law_1309 : decode cL_law 1309 = .ok (.invokevirtual 215, 3) := by decide +kernel
theorem dL_law_1312 : decode cL_law 1312 = .ok (.pop, 1) := by decide +kernel
theorem dL_law_1313 : decode cL_law 1313 = .ok (.goto 28, 3) := by decide +kernel
theorem dL_law_1316 : decode cL_law 1316 = .ok (.aload_n 1, 1) := by decide +kernel
theorem dL_law_1317 : decode cL_law 1317 = .ok (.aload_n 0, 1) := by decide +kernel
theorem dL_law_1318 : decode cL_law 1318 = .ok (.iload 4, 2) := by decide +kernel
theorem dL_law_1320 : decode cL_law 1320 = .ok (.iconst 1, 1) := by decide +kernel
theorem dL_law_1321 : decode cL_law 1321 = .ok (.iadd, 1) := by decide +kernel
theorem dL_law_1322 : decode cL_law 1322 = .ok (.iaload, 1) := by decide +kernel
theorem dL_law_1323 : decode cL_law 1323 = .ok (.invokevirtual 216, 3) := by decide +kernel
theorem dL_law_1326 : decode cL_law 1326 = .ok (.pop, 1) := by decide +kernel
theorem dL_law_1327 : decode cL_law 1327 = .ok (.aload_n 2, 1) := by decide +kernel
theorem dL_law_1328 : decode cL_law 1328 = .ok (.aload_n 0, 1) := by decide +kernel
theorem dL_law_1329 : decode cL_law 1329 = .ok (.iload 4, 2) := by decide +kernel
theorem dL_law_1331 : decode cL_law 1331 = .ok (.iconst 1, 1) := by decide +kernel
theorem dL_law_1332 : decode cL_law 1332 = .ok (.iadd, 1) := by decide +kernel
theorem dL_law_1333 : decode cL_law 1333 = .ok (.iaload, 1) := by decide +kernel
theorem dL_law_1334 : decode cL_law 1334 = .ok (.invokevirtual 219, 3) := by decide +kernel
theorem dL_law_1337 : decode cL_law 1337 = .ok (.pop, 1) := by decide +kernel
theorem dL_law_1338 : decode cL_law 1338 = .ok (.goto 3, 3) := by decide +kernel
theorem dL_law_1341 : decode cL_law 1341 = .ok (.iinc 4 6, 3) := by decide +kernel
theorem dL_law_1344 : decode cL_law 1344 = .ok (.goto (-1321), 3) := by decide +kernel
theorem dL_law_1347 : decode cL_law 1347 = .ok (.iconst 1, 1) := by decide +kernel
theorem dL_law_1348 : decode cL_law 1348 = .ok (.ireturn, 1) := by decide +kernel
