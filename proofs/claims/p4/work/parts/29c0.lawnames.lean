def RL : String := "HiredEnemyLaw"
abbrev cL_siege : ByteArray := method_3_code
def yL_siege : MethodName := ⟨RL, "siege", "(LHiredEnemy;I[J)I"⟩
abbrev cL_contract : ByteArray := method_4_code
def yL_contract : MethodName := ⟨RL, "contract", "(LHiredEnemy;I[J)I"⟩
abbrev cL_told : ByteArray := method_5_code
def yL_told : MethodName := ⟨RL, "told", "(LHiredEnemy;I[J)I"⟩
abbrev cL_wall : ByteArray := method_6_code
def yL_wall : MethodName := ⟨RL, "wall", "(LHiredEnemy;II[J)I"⟩
abbrev cL_rule : ByteArray := method_7_code
def yL_rule : MethodName := ⟨RL, "rule", "(LHiredEnemy;II[J)I"⟩
abbrev cL_wants : ByteArray := method_8_code
def yL_wants : MethodName := ⟨RL, "wants", "(LHiredEnemy;II[J)I"⟩
abbrev cL_sign : ByteArray := method_9_code
def yL_sign : MethodName := ⟨RL, "sign", "(LHiredEnemy;I[J)I"⟩
abbrev cL_months : ByteArray := method_10_code
def yL_months : MethodName := ⟨RL, "months", "(LHiredEnemy;I[J)I"⟩
abbrev cL_undo : ByteArray := method_11_code
def yL_undo : MethodName := ⟨RL, "undo", "(LHiredEnemy;I[J)I"⟩
abbrev cL_sums : ByteArray := method_12_code
def yL_sums : MethodName := ⟨RL, "sums", "(LHiredEnemy;I[J)I"⟩
abbrev cL_corks : ByteArray := method_13_code
def yL_corks : MethodName := ⟨RL, "corks", "(LHiredEnemy;II[J)I"⟩
abbrev cL_would : ByteArray := method_14_code
def yL_would : MethodName := ⟨RL, "would", "(LHiredEnemy;III[J)I"⟩
abbrev cL_best : ByteArray := method_15_code
def yL_best : MethodName := ⟨RL, "best", "(LHiredEnemy;II[J)I"⟩
abbrev cL_offer : ByteArray := method_16_code
def yL_offer : MethodName := ⟨RL, "offer", "(LHiredEnemy;II[J)I"⟩
abbrev cL_nearest : ByteArray := method_17_code
def yL_nearest : MethodName := ⟨RL, "nearest", "(LHiredEnemy;II[J)I"⟩
abbrev cL_stop : ByteArray := method_18_code
def yL_stop : MethodName := ⟨RL, "stop", "(LHiredEnemy;II[J)I"⟩
abbrev cL_odds : ByteArray := method_19_code
def yL_odds : MethodName := ⟨RL, "odds", "(LHiredEnemy;II)I"⟩
abbrev cL_kind : ByteArray := method_20_code
def yL_kind : MethodName := ⟨RL, "kind", "(LHiredEnemy;III)I"⟩
abbrev cL_seen : ByteArray := method_21_code
def yL_seen : MethodName := ⟨RL, "seen", "(LHiredEnemy;I[J)I"⟩
abbrev cL_spy : ByteArray := method_22_code
def yL_spy : MethodName := ⟨RL, "spy", "(LHiredEnemy;ZI[J)I"⟩
abbrev cL_believed : ByteArray := method_23_code
def yL_believed : MethodName := ⟨RL, "believed", "(LHiredEnemy;I[J)I"⟩
abbrev cL_earnest : ByteArray := method_24_code
def yL_earnest : MethodName := ⟨RL, "earnest", "(LHiredEnemy;III[J)I"⟩
abbrev cL_stands : ByteArray := method_25_code
def yL_stands : MethodName := ⟨RL, "stands", "(LHiredEnemy;II[J)I"⟩
abbrev cL_show : ByteArray := method_26_code
def yL_show : MethodName := ⟨RL, "show", "(LHiredEnemy;II[J)I"⟩
abbrev cL_offers : ByteArray := method_27_code
def yL_offers : MethodName := ⟨RL, "offers", "(LHiredEnemy;III[J)I"⟩
abbrev cL_serves : ByteArray := method_28_code
def yL_serves : MethodName := ⟨RL, "serves", "(LHiredEnemy;I[J)I"⟩
abbrev cL_law : ByteArray := code
def yL_law : MethodName := ⟨RL, "law", "([I)Z"⟩
def woL_siege : List Cond := [Cond.classLink RL 13 "java/lang/IllegalArgumentException", Cond.methodLink RL 7 yX10_siege, Cond.instanceMethod yX10_siege, Cond.selects RX10 yX10_siege yX10_siege, Cond.initialized RX10, Cond.initialized "java/lang/IllegalArgumentException", Cond.initialized RX6, Cond.initialized RX7, Cond.static Lib.Math.min.name, Cond.initialized "java/lang/Math", Cond.sameMethod "HiredEnemy$Telling" "HiredEnemy$Telling" "mostParts" "()I", Cond.initialized RX5, Cond.sameMethod "HiredEnemy$Telling" "HiredEnemy$Telling" "words" "()Ljava/lang/String;", Cond.initialized RJ0, Cond.initialized RJ1, Cond.initialized RJ3, Cond.initialized RJ2, Cond.sameMethod "HiredEnemy$Telling" "HiredEnemy$Telling" "isFull" "(I)Z", Cond.sameMethod "HiredEnemy$Telling" "HiredEnemy$Telling" "numbers" "(I)I", Cond.sameMethod "HiredEnemy$Telling" "HiredEnemy$Telling" "low" "(II)I", Cond.sameMethod "HiredEnemy$Telling" "HiredEnemy$Telling" "high" "(II)I", Cond.sameMethod "HiredEnemy$Telling" "HiredEnemy$Telling" "store" "(I[I)V", Cond.initialized RX8, Cond.initialized RX4, Cond.initialized RJ7, Cond.initialized RX2, Cond.initialized RX3]
def wsL_siege : List Cond := .codeWith yL_siege cL_siege 4 (some .int) [(0, 9, 12, 13)] :: (woL_siege ++ (wsX100 ++ (wsX60 ++ (wsX70 ++ (wsX50 ++ (wsX80 ++ (wsX40 ++ (wsX20 ++ (wsX30 ++ (wsX10_siege))))))))))
theorem gwoL_siege : gW woL_siege := gW_of (by decide +kernel)
theorem gwL_siege : gW wsL_siege := gW_cons (by decide) (gW_app gwoL_siege (gW_app gwn_9 (gW_app gwn_3 (gW_app gwn_7 (gW_app gwn_6 (gW_app gwn_8 (gW_app gwn_1 (gW_app gwn_4 (gW_app gwn_5 gwX10_siege)))))))))
def woL_contract : List Cond := [Cond.classLink RL 13 "java/lang/IllegalArgumentException", Cond.methodLink RL 15 yX10_contract, Cond.instanceMethod yX10_contract, Cond.selects RX10 yX10_contract yX10_contract, Cond.initialized RX10, Cond.initialized "java/lang/IllegalArgumentException", Cond.initialized RX5, Cond.initialized RJ7, Cond.initialized RX7, Cond.static Lib.Math.min.name, Cond.initialized "java/lang/Math", Cond.sameMethod "HiredEnemy$Telling" "HiredEnemy$Telling" "mostParts" "()I", Cond.initialized RX6, Cond.sameMethod "HiredEnemy$Telling" "HiredEnemy$Telling" "words" "()Ljava/lang/String;", Cond.initialized RJ0, Cond.initialized RJ1, Cond.initialized RJ3, Cond.initialized RJ2, Cond.sameMethod "HiredEnemy$Telling" "HiredEnemy$Telling" "isFull" "(I)Z", Cond.sameMethod "HiredEnemy$Telling" "HiredEnemy$Telling" "numbers" "(I)I", Cond.sameMethod "HiredEnemy$Telling" "HiredEnemy$Telling" "low" "(II)I", Cond.sameMethod "HiredEnemy$Telling" "HiredEnemy$Telling" "high" "(II)I", Cond.sameMethod "HiredEnemy$Telling" "HiredEnemy$Telling" "store" "(I[I)V"]
def wsL_contract : List Cond := .codeWith yL_contract cL_contract 4 (some .int) [(0, 9, 12, 13)] :: (woL_contract ++ (wsX100 ++ (wsX70 ++ (wsX60 ++ (wsX50 ++ (wsX10_contract))))))
theorem gwoL_contract : gW woL_contract := gW_of (by decide +kernel)
theorem gwL_contract : gW wsL_contract := gW_cons (by decide) (gW_app gwoL_contract (gW_app gwn_9 (gW_app gwn_7 (gW_app gwn_3 (gW_app gwn_6 gwX10_contract)))))
def woL_told : List Cond := [Cond.classLink RL 13 "java/lang/IllegalArgumentException", Cond.methodLink RL 18 yX10_told, Cond.instanceMethod yX10_told, Cond.selects RX10 yX10_told yX10_told, Cond.initialized RX10, Cond.initialized "java/lang/IllegalArgumentException"]
def wsL_told : List Cond := .codeWith yL_told cL_told 4 (some .int) [(0, 9, 12, 13)] :: (woL_told ++ (wsX100 ++ (wsX80 ++ (wsX40 ++ (wsX60 ++ (wsX10_told))))))
theorem gwoL_told : gW woL_told := gW_of (by decide +kernel)
theorem gwL_told : gW wsL_told := gW_cons (by decide) (gW_app gwoL_told (gW_app gwn_9 (gW_app gwn_8 (gW_app gwn_1 (gW_app gwn_3 gwX10_told)))))
def woL_wall : List Cond := [Cond.classLink RL 25 "java/lang/IndexOutOfBoundsException", Cond.classLink RL 13 "java/lang/IllegalArgumentException", Cond.methodLink RL 21 yX10_wall, Cond.instanceMethod yX10_wall, Cond.selects RX10 yX10_wall yX10_wall, Cond.initialized RX10, Cond.initialized "java/lang/IndexOutOfBoundsException", Cond.initialized "java/lang/IllegalArgumentException"]
def wsL_wall : List Cond := .codeWith yL_wall cL_wall 5 (some .int) [(0, 10, 13, 25), (0, 10, 17, 13)] :: (woL_wall ++ (wsX100 ++ (wsX60 ++ (wsX80 ++ (wsX40 ++ (wsX10_wall))))))
theorem gwoL_wall : gW woL_wall := gW_of (by decide +kernel)
theorem gwL_wall : gW wsL_wall := gW_cons (by decide) (gW_app gwoL_wall (gW_app gwn_9 (gW_app gwn_3 (gW_app gwn_8 (gW_app gwn_1 gwX10_wall)))))
def woL_rule : List Cond := [Cond.classLink RL 30 "java/util/NoSuchElementException", Cond.classLink RL 13 "java/lang/IllegalArgumentException", Cond.methodLink RL 27 yX10_rule, Cond.instanceMethod yX10_rule, Cond.selects RX10 yX10_rule yX10_rule, Cond.initialized RX10, Cond.initialized "java/util/NoSuchElementException", Cond.initialized "java/lang/IllegalArgumentException", Cond.initialized RX5]
def wsL_rule : List Cond := .codeWith yL_rule cL_rule 5 (some .int) [(0, 10, 13, 30), (0, 10, 17, 13)] :: (woL_rule ++ (wsX100 ++ (wsX50 ++ (wsX10_rule))))
theorem gwoL_rule : gW woL_rule := gW_of (by decide +kernel)
theorem gwL_rule : gW wsL_rule := gW_cons (by decide) (gW_app gwoL_rule (gW_app gwn_9 (gW_app gwn_6 gwX10_rule)))
def woL_wants : List Cond := [Cond.classLink RL 13 "java/lang/IllegalArgumentException", Cond.methodLink RL 32 yX10_wants, Cond.instanceMethod yX10_wants, Cond.selects RX10 yX10_wants yX10_wants, Cond.initialized RX10, Cond.initialized "java/lang/IllegalArgumentException", Cond.initialized RX6]
def wsL_wants : List Cond := .codeWith yL_wants cL_wants 5 (some .int) [(0, 10, 13, 13)] :: (woL_wants ++ (wsX100 ++ (wsX60 ++ (wsX10_wants))))
theorem gwoL_wants : gW woL_wants := gW_of (by decide +kernel)
theorem gwL_wants : gW wsL_wants := gW_cons (by decide) (gW_app gwoL_wants (gW_app gwn_9 (gW_app gwn_3 gwX10_wants)))
def woL_sign : List Cond := [Cond.classLink RL 30 "java/util/NoSuchElementException", Cond.methodLink RL 35 yX10_sign, Cond.instanceMethod yX10_sign, Cond.selects RX10 yX10_sign yX10_sign, Cond.initialized RX10, Cond.initialized "java/util/NoSuchElementException", Cond.initialized RX4]
def wsL_sign : List Cond := .codeWith yL_sign cL_sign 4 (some .int) [(0, 9, 12, 30)] :: (woL_sign ++ (wsX100 ++ (wsX80 ++ (wsX40 ++ (wsX10_sign)))))
theorem gwoL_sign : gW woL_sign := gW_of (by decide +kernel)
theorem gwL_sign : gW wsL_sign := gW_cons (by decide) (gW_app gwoL_sign (gW_app gwn_9 (gW_app gwn_8 (gW_app gwn_1 gwX10_sign))))
def woL_months : List Cond := [Cond.classLink RL 13 "java/lang/IllegalArgumentException", Cond.methodLink RL 38 yX10_months, Cond.instanceMethod yX10_months, Cond.selects RX10 yX10_months yX10_months, Cond.initialized RX10, Cond.initialized "java/lang/IllegalArgumentException", Cond.initialized RX0, Cond.native arraycopyName, Cond.static arraycopyName, Cond.initialized "java/lang/System", Cond.initialized RX4, Cond.static Lib.Math.max.name, Cond.initialized "java/lang/Math", Cond.initialized RJ7, Cond.static Lib.Math.min.name, Cond.initialized RX5, Cond.initialized RX6, Cond.static Lib.Math.abs.name]
def wsL_months : List Cond := .codeWith yL_months cL_months 4 (some .int) [(0, 9, 12, 13)] :: (woL_months ++ (wsX100 ++ (wsX80 ++ (wsX40 ++ (wsX00 ++ (wsX60 ++ (wsX50 ++ (wsX10_months))))))))
theorem gwoL_months : gW woL_months := gW_of (by decide +kernel)
theorem gwL_months : gW wsL_months := gW_cons (by decide) (gW_app gwoL_months (gW_app gwn_9 (gW_app gwn_8 (gW_app gwn_1 (gW_app gwn_0 (gW_app gwn_3 (gW_app gwn_6 gwX10_months)))))))
def woL_undo : List Cond := [Cond.classLink RL 13 "java/lang/IllegalArgumentException", Cond.methodLink RL 41 yX10_undo, Cond.instanceMethod yX10_undo, Cond.selects RX10 yX10_undo yX10_undo, Cond.initialized RX10, Cond.static Lib.Math.min.name, Cond.initialized "java/lang/Math", Cond.initialized "java/lang/IllegalArgumentException", Cond.initialized RX0, Cond.native arraycopyName, Cond.static arraycopyName, Cond.initialized "java/lang/System"]
def wsL_undo : List Cond := .codeWith yL_undo cL_undo 4 (some .int) [(0, 9, 12, 13)] :: (woL_undo ++ (wsX100 ++ (wsX80 ++ (wsX40 ++ (wsX00 ++ (wsX10_undo))))))
theorem gwoL_undo : gW woL_undo := gW_of (by decide +kernel)
theorem gwL_undo : gW wsL_undo := gW_cons (by decide) (gW_app gwoL_undo (gW_app gwn_9 (gW_app gwn_8 (gW_app gwn_1 (gW_app gwn_0 gwX10_undo)))))
def woL_sums : List Cond := [Cond.classLink RL 13 "java/lang/IllegalArgumentException", Cond.methodLink RL 44 yX10_sums, Cond.instanceMethod yX10_sums, Cond.selects RX10 yX10_sums yX10_sums, Cond.initialized RX10, Cond.initialized "java/lang/IllegalArgumentException"]
def wsL_sums : List Cond := .codeWith yL_sums cL_sums 4 (some .int) [(0, 9, 12, 13)] :: (woL_sums ++ (wsX100 ++ (wsX80 ++ (wsX40 ++ (wsX10_sums)))))
theorem gwoL_sums : gW woL_sums := gW_of (by decide +kernel)
theorem gwL_sums : gW wsL_sums := gW_cons (by decide) (gW_app gwoL_sums (gW_app gwn_9 (gW_app gwn_8 (gW_app gwn_1 gwX10_sums))))
def woL_corks : List Cond := [Cond.classLink RL 25 "java/lang/IndexOutOfBoundsException", Cond.classLink RL 13 "java/lang/IllegalArgumentException", Cond.methodLink RL 47 yX10_corks, Cond.instanceMethod yX10_corks, Cond.selects RX10 yX10_corks yX10_corks, Cond.initialized RX10, Cond.initialized "java/lang/IndexOutOfBoundsException", Cond.initialized "java/lang/IllegalArgumentException", Cond.initialized RX0]
def wsL_corks : List Cond := .codeWith yL_corks cL_corks 5 (some .int) [(0, 10, 13, 25), (0, 10, 17, 13)] :: (woL_corks ++ (wsX100 ++ (wsX80 ++ (wsX40 ++ (wsX60 ++ (wsX00 ++ (wsX10_corks)))))))
theorem gwoL_corks : gW woL_corks := gW_of (by decide +kernel)
theorem gwL_corks : gW wsL_corks := gW_cons (by decide) (gW_app gwoL_corks (gW_app gwn_9 (gW_app gwn_8 (gW_app gwn_1 (gW_app gwn_3 (gW_app gwn_0 gwX10_corks))))))
def woL_would : List Cond := [Cond.classLink RL 30 "java/util/NoSuchElementException", Cond.classLink RL 13 "java/lang/IllegalArgumentException", Cond.methodLink RL 50 yX10_would, Cond.instanceMethod yX10_would, Cond.selects RX10 yX10_would yX10_would, Cond.initialized RX10, Cond.initialized "java/util/NoSuchElementException", Cond.initialized "java/lang/IllegalArgumentException", Cond.initialized RX4, Cond.native arraycopyName, Cond.static arraycopyName, Cond.initialized "java/lang/System", Cond.static Lib.Math.max.name, Cond.initialized "java/lang/Math", Cond.initialized RJ7, Cond.static Lib.Math.min.name, Cond.initialized RX5, Cond.initialized RX6, Cond.static Lib.Math.abs.name]
def wsL_would : List Cond := .codeWith yL_would cL_would 6 (some .int) [(0, 12, 15, 30), (0, 12, 19, 13)] :: (woL_would ++ (wsX100 ++ (wsX40 ++ (wsX80 ++ (wsX60 ++ (wsX50 ++ (wsX10_would)))))))
theorem gwoL_would : gW woL_would := gW_of (by decide +kernel)
theorem gwL_would : gW wsL_would := gW_cons (by decide) (gW_app gwoL_would (gW_app gwn_9 (gW_app gwn_1 (gW_app gwn_8 (gW_app gwn_3 (gW_app gwn_6 gwX10_would))))))
def woL_best : List Cond := [Cond.classLink RL 13 "java/lang/IllegalArgumentException", Cond.methodLink RL 54 yX10_best, Cond.instanceMethod yX10_best, Cond.selects RX10 yX10_best yX10_best, Cond.initialized RX10, Cond.initialized "java/lang/IllegalArgumentException", Cond.initialized RX4, Cond.native arraycopyName, Cond.static arraycopyName, Cond.initialized "java/lang/System", Cond.static Lib.Math.max.name, Cond.initialized "java/lang/Math", Cond.initialized RJ7, Cond.static Lib.Math.min.name, Cond.initialized RX5, Cond.initialized RX6, Cond.static Lib.Math.abs.name]
def wsL_best : List Cond := .codeWith yL_best cL_best 5 (some .int) [(0, 10, 13, 13)] :: (woL_best ++ (wsX100 ++ (wsX80 ++ (wsX40 ++ (wsX60 ++ (wsX50 ++ (wsX10_best)))))))
theorem gwoL_best : gW woL_best := gW_of (by decide +kernel)
theorem gwL_best : gW wsL_best := gW_cons (by decide) (gW_app gwoL_best (gW_app gwn_9 (gW_app gwn_8 (gW_app gwn_1 (gW_app gwn_3 (gW_app gwn_6 gwX10_best))))))
def woL_offer : List Cond := [Cond.classLink RL 13 "java/lang/IllegalArgumentException", Cond.methodLink RL 57 yX10_offer, Cond.instanceMethod yX10_offer, Cond.selects RX10 yX10_offer yX10_offer, Cond.initialized RX10, Cond.initialized "java/lang/IllegalArgumentException", Cond.initialized RX6, Cond.initialized RX5, Cond.initialized RJ7, Cond.initialized RX4, Cond.native arraycopyName, Cond.static arraycopyName, Cond.initialized "java/lang/System", Cond.static Lib.Math.max.name, Cond.initialized "java/lang/Math", Cond.static Lib.Math.min.name, Cond.static Lib.Math.abs.name]
def wsL_offer : List Cond := .codeWith yL_offer cL_offer 5 (some .int) [(0, 10, 13, 13)] :: (woL_offer ++ (wsX100 ++ (wsX60 ++ (wsX50 ++ (wsX80 ++ (wsX40 ++ (wsX10_offer)))))))
theorem gwoL_offer : gW woL_offer := gW_of (by decide +kernel)
theorem gwL_offer : gW wsL_offer := gW_cons (by decide) (gW_app gwoL_offer (gW_app gwn_9 (gW_app gwn_3 (gW_app gwn_6 (gW_app gwn_8 (gW_app gwn_1 gwX10_offer))))))
def woL_nearest : List Cond := [Cond.classLink RL 13 "java/lang/IllegalArgumentException", Cond.methodLink RL 60 yX10_nearest, Cond.instanceMethod yX10_nearest, Cond.selects RX10 yX10_nearest yX10_nearest, Cond.initialized RX10, Cond.initialized "java/lang/IllegalArgumentException", Cond.initialized RX6]
def wsL_nearest : List Cond := .codeWith yL_nearest cL_nearest 5 (some .int) [(0, 10, 13, 13)] :: (woL_nearest ++ (wsX100 ++ (wsX60 ++ (wsX10_nearest))))
theorem gwoL_nearest : gW woL_nearest := gW_of (by decide +kernel)
theorem gwL_nearest : gW wsL_nearest := gW_cons (by decide) (gW_app gwoL_nearest (gW_app gwn_9 (gW_app gwn_3 gwX10_nearest)))
def woL_stop : List Cond := [Cond.classLink RL 13 "java/lang/IllegalArgumentException", Cond.methodLink RL 63 yX10_stop, Cond.instanceMethod yX10_stop, Cond.selects RX10 yX10_stop yX10_stop, Cond.initialized RX10, Cond.initialized "java/lang/IllegalArgumentException", Cond.initialized RX4, Cond.native arraycopyName, Cond.static arraycopyName, Cond.initialized "java/lang/System", Cond.static Lib.Math.max.name, Cond.initialized "java/lang/Math", Cond.initialized RJ7, Cond.static Lib.Math.min.name, Cond.initialized RX5, Cond.initialized RX6, Cond.static Lib.Math.abs.name]
def wsL_stop : List Cond := .codeWith yL_stop cL_stop 5 (some .int) [(0, 10, 13, 13)] :: (woL_stop ++ (wsX100 ++ (wsX80 ++ (wsX40 ++ (wsX60 ++ (wsX50 ++ (wsX10_stop)))))))
theorem gwoL_stop : gW woL_stop := gW_of (by decide +kernel)
theorem gwL_stop : gW wsL_stop := gW_cons (by decide) (gW_app gwoL_stop (gW_app gwn_9 (gW_app gwn_8 (gW_app gwn_1 (gW_app gwn_3 (gW_app gwn_6 gwX10_stop))))))
def woL_odds : List Cond := [Cond.classLink RL 13 "java/lang/IllegalArgumentException", Cond.methodLink RL 66 yX10_odds, Cond.instanceMethod yX10_odds, Cond.selects RX10 yX10_odds yX10_odds, Cond.initialized RX10, Cond.initialized "java/lang/IllegalArgumentException", Cond.initialized RX2]
def wsL_odds : List Cond := .codeWith yL_odds cL_odds 4 (some .int) [(0, 6, 9, 13)] :: (woL_odds ++ (wsX100 ++ (wsX80 ++ (wsX20 ++ (wsX10_odds)))))
theorem gwoL_odds : gW woL_odds := gW_of (by decide +kernel)
theorem gwL_odds : gW wsL_odds := gW_cons (by decide) (gW_app gwoL_odds (gW_app gwn_9 (gW_app gwn_8 (gW_app gwn_4 gwX10_odds))))
def woL_kind : List Cond := [Cond.classLink RL 13 "java/lang/IllegalArgumentException", Cond.methodLink RL 70 yX10_kind, Cond.instanceMethod yX10_kind, Cond.selects RX10 yX10_kind yX10_kind, Cond.initialized RX10, Cond.initialized "java/lang/IllegalArgumentException"]
def wsL_kind : List Cond := .codeWith yL_kind cL_kind 5 (some .int) [(0, 7, 10, 13)] :: (woL_kind ++ (wsX100 ++ (wsX80 ++ (wsX20 ++ (wsX10_kind)))))
theorem gwoL_kind : gW woL_kind := gW_of (by decide +kernel)
theorem gwL_kind : gW wsL_kind := gW_cons (by decide) (gW_app gwoL_kind (gW_app gwn_9 (gW_app gwn_8 (gW_app gwn_4 gwX10_kind))))
def woL_seen : List Cond := [Cond.classLink RL 13 "java/lang/IllegalArgumentException", Cond.methodLink RL 74 yX10_seen, Cond.instanceMethod yX10_seen, Cond.selects RX10 yX10_seen yX10_seen, Cond.initialized RX10, Cond.initialized "java/lang/IllegalArgumentException", Cond.initialized RX2]
def wsL_seen : List Cond := .codeWith yL_seen cL_seen 4 (some .int) [(0, 9, 12, 13)] :: (woL_seen ++ (wsX100 ++ (wsX80 ++ (wsX20 ++ (wsX10_seen)))))
theorem gwoL_seen : gW woL_seen := gW_of (by decide +kernel)
theorem gwL_seen : gW wsL_seen := gW_cons (by decide) (gW_app gwoL_seen (gW_app gwn_9 (gW_app gwn_8 (gW_app gwn_4 gwX10_seen))))
def woL_spy : List Cond := [Cond.classLink RL 13 "java/lang/IllegalArgumentException", Cond.methodLink RL 77 yX10_spy, Cond.instanceMethod yX10_spy, Cond.selects RX10 yX10_spy yX10_spy, Cond.initialized RX10, Cond.initialized "java/lang/IllegalArgumentException", Cond.initialized RX2]
def wsL_spy : List Cond := .codeWith yL_spy cL_spy 5 (some .int) [(0, 10, 13, 13)] :: (woL_spy ++ (wsX100 ++ (wsX80 ++ (wsX20 ++ (wsX10_spy)))))
theorem gwoL_spy : gW woL_spy := gW_of (by decide +kernel)
theorem gwL_spy : gW wsL_spy := gW_cons (by decide) (gW_app gwoL_spy (gW_app gwn_9 (gW_app gwn_8 (gW_app gwn_4 gwX10_spy))))
def woL_believed : List Cond := [Cond.classLink RL 13 "java/lang/IllegalArgumentException", Cond.methodLink RL 81 yX10_believed, Cond.instanceMethod yX10_believed, Cond.selects RX10 yX10_believed yX10_believed, Cond.initialized RX10, Cond.initialized "java/lang/IllegalArgumentException", Cond.initialized RX2]
def wsL_believed : List Cond := .codeWith yL_believed cL_believed 4 (some .int) [(0, 8, 11, 13)] :: (woL_believed ++ (wsX100 ++ (wsX80 ++ (wsX20 ++ (wsX10_believed)))))
theorem gwoL_believed : gW woL_believed := gW_of (by decide +kernel)
theorem gwL_believed : gW wsL_believed := gW_cons (by decide) (gW_app gwoL_believed (gW_app gwn_9 (gW_app gwn_8 (gW_app gwn_4 gwX10_believed))))
def woL_earnest : List Cond := [Cond.classLink RL 13 "java/lang/IllegalArgumentException", Cond.methodLink RL 85 yX10_earnest, Cond.instanceMethod yX10_earnest, Cond.selects RX10 yX10_earnest yX10_earnest, Cond.initialized RX10, Cond.initialized "java/lang/IllegalArgumentException", Cond.initialized RX1, Cond.static Lib.Math.min.name, Cond.initialized "java/lang/Math", Cond.static Lib.Math.max.name]
def wsL_earnest : List Cond := .codeWith yL_earnest cL_earnest 6 (some .int) [(0, 12, 15, 13)] :: (woL_earnest ++ (wsX100 ++ (wsX60 ++ (wsX10 ++ (wsX10_earnest)))))
theorem gwoL_earnest : gW woL_earnest := gW_of (by decide +kernel)
theorem gwL_earnest : gW wsL_earnest := gW_cons (by decide) (gW_app gwoL_earnest (gW_app gwn_9 (gW_app gwn_3 (gW_app gwn_2 gwX10_earnest))))
def woL_stands : List Cond := [Cond.classLink RL 13 "java/lang/IllegalArgumentException", Cond.methodLink RL 88 yX10_stands, Cond.instanceMethod yX10_stands, Cond.selects RX10 yX10_stands yX10_stands, Cond.initialized RX10, Cond.initialized "java/lang/IllegalArgumentException", Cond.initialized RX1, Cond.static Lib.Math.min.name, Cond.initialized "java/lang/Math", Cond.static Lib.Math.max.name]
def wsL_stands : List Cond := .codeWith yL_stands cL_stands 5 (some .int) [(0, 10, 13, 13)] :: (woL_stands ++ (wsX100 ++ (wsX10 ++ (wsX60 ++ (wsX10_stands)))))
theorem gwoL_stands : gW woL_stands := gW_of (by decide +kernel)
theorem gwL_stands : gW wsL_stands := gW_cons (by decide) (gW_app gwoL_stands (gW_app gwn_9 (gW_app gwn_2 (gW_app gwn_3 gwX10_stands))))
def woL_show : List Cond := [Cond.classLink RL 13 "java/lang/IllegalArgumentException", Cond.methodLink RL 91 yX10_show, Cond.instanceMethod yX10_show, Cond.selects RX10 yX10_show yX10_show, Cond.initialized RX10, Cond.initialized "java/lang/IllegalArgumentException", Cond.initialized RX1, Cond.static Lib.Math.min.name, Cond.initialized "java/lang/Math", Cond.static Lib.Math.max.name]
def wsL_show : List Cond := .codeWith yL_show cL_show 5 (some .int) [(0, 10, 13, 13)] :: (woL_show ++ (wsX100 ++ (wsX10 ++ (wsX60 ++ (wsX10_show)))))
theorem gwoL_show : gW woL_show := gW_of (by decide +kernel)
theorem gwL_show : gW wsL_show := gW_cons (by decide) (gW_app gwoL_show (gW_app gwn_9 (gW_app gwn_2 (gW_app gwn_3 gwX10_show))))
def woL_offers : List Cond := [Cond.classLink RL 13 "java/lang/IllegalArgumentException", Cond.methodLink RL 94 yX10_offers, Cond.instanceMethod yX10_offers, Cond.selects RX10 yX10_offers yX10_offers, Cond.initialized RX10, Cond.initialized "java/lang/IllegalArgumentException", Cond.initialized RX3]
def wsL_offers : List Cond := .codeWith yL_offers cL_offers 6 (some .int) [(0, 12, 15, 13)] :: (woL_offers ++ (wsX100 ++ (wsX80 ++ (wsX30 ++ (wsX10_offers)))))
theorem gwoL_offers : gW woL_offers := gW_of (by decide +kernel)
theorem gwL_offers : gW wsL_offers := gW_cons (by decide) (gW_app gwoL_offers (gW_app gwn_9 (gW_app gwn_8 (gW_app gwn_5 gwX10_offers))))
def woL_serves : List Cond := [Cond.classLink RL 13 "java/lang/IllegalArgumentException", Cond.methodLink RL 97 yX10_serves, Cond.instanceMethod yX10_serves, Cond.selects RX10 yX10_serves yX10_serves, Cond.initialized RX10, Cond.initialized "java/lang/IllegalArgumentException", Cond.initialized RX3, Cond.static Lib.Math.max.name, Cond.initialized "java/lang/Math"]
def wsL_serves : List Cond := .codeWith yL_serves cL_serves 4 (some .int) [(0, 9, 12, 13)] :: (woL_serves ++ (wsX100 ++ (wsX80 ++ (wsX30 ++ (wsX10_serves)))))
theorem gwoL_serves : gW woL_serves := gW_of (by decide +kernel)
theorem gwL_serves : gW wsL_serves := gW_cons (by decide) (gW_app gwoL_serves (gW_app gwn_9 (gW_app gwn_8 (gW_app gwn_5 gwX10_serves))))
def woL_law : List Cond := [Cond.classLink RL 8 RX10, Cond.instantiable RX10 13, Cond.initialized RX10, Cond.classLink RL 101 RX11, Cond.instantiable RX11 35, Cond.initialized RX11, Cond.arrayClass .long, Cond.methodLink RL 100 yX10_init, Cond.instanceMethod yX10_init, Cond.instanceMethod objectInit, Cond.arrayClass .byte, Cond.instantiable RX7 6, Cond.initialized RX7, Cond.instantiable RX6 5, Cond.initialized RX6, Cond.instantiable RX8 4, Cond.initialized RX8, Cond.instantiable RX4 3, Cond.initialized RX4, Cond.instantiable RX1 5, Cond.initialized RX1, Cond.arrayClass .int, Cond.instantiable RX5 3, Cond.initialized RX5, Cond.initialized RX9, Cond.instantiable RX0 1, Cond.initialized RX0, Cond.instantiable RX2 7, Cond.initialized RX2, Cond.instantiable RX3 2, Cond.initialized RX3, Cond.initialized RJ7, Cond.methodLink RL 103 yX11_init, Cond.instanceMethod yX11_init, Cond.methodLink RL 104 yX10_feed, Cond.instanceMethod yX10_feed, Cond.selects RX10 yX10_feed yX10_feed, Cond.methodLink RL 108 yX11_feed, Cond.instanceMethod yX11_feed, Cond.selects RX11 yX11_feed yX11_feed, Cond.methodLink RL 109 yL_siege, Cond.static yL_siege, Cond.initialized RL, Cond.classLink RL 13 "java/lang/IllegalArgumentException", Cond.methodLink RL 7 yX10_siege, Cond.initialized "java/lang/IllegalArgumentException", Cond.static Lib.Math.min.name, Cond.initialized "java/lang/Math", Cond.sameMethod "HiredEnemy$Telling" "HiredEnemy$Telling" "mostParts" "()I", Cond.sameMethod "HiredEnemy$Telling" "HiredEnemy$Telling" "words" "()Ljava/lang/String;", Cond.initialized RJ0, Cond.initialized RJ1, Cond.initialized RJ3, Cond.initialized RJ2, Cond.sameMethod "HiredEnemy$Telling" "HiredEnemy$Telling" "isFull" "(I)Z", Cond.sameMethod "HiredEnemy$Telling" "HiredEnemy$Telling" "numbers" "(I)I", Cond.sameMethod "HiredEnemy$Telling" "HiredEnemy$Telling" "low" "(II)I", Cond.sameMethod "HiredEnemy$Telling" "HiredEnemy$Telling" "high" "(II)I", Cond.sameMethod "HiredEnemy$Telling" "HiredEnemy$Telling" "store" "(I[I)V", Cond.methodLink RL 114 yX11_siege, Cond.instanceMethod yX11_siege, Cond.selects RX11 yX11_siege yX11_siege, Cond.methodLink RL 115 yL_contract, Cond.static yL_contract, Cond.methodLink RL 15 yX10_contract, Cond.methodLink RL 117 yX11_contract, Cond.instanceMethod yX11_contract, Cond.selects RX11 yX11_contract yX11_contract, Cond.methodLink RL 118 yX11_thrown, Cond.instanceMethod yX11_thrown, Cond.selects RX11 yX11_thrown yX11_thrown, Cond.methodLink RL 122 yX10_fault, Cond.instanceMethod yX10_fault, Cond.selects RX10 yX10_fault yX10_fault, Cond.methodLink RL 125 yX11_fault, Cond.instanceMethod yX11_fault, Cond.selects RX11 yX11_fault yX11_fault, Cond.methodLink RL 126 yL_told, Cond.static yL_told, Cond.methodLink RL 18 yX10_told, Cond.methodLink RL 128 yX11_told, Cond.instanceMethod yX11_told, Cond.selects RX11 yX11_told yX11_told, Cond.methodLink RL 129 yL_wall, Cond.static yL_wall, Cond.classLink RL 25 "java/lang/IndexOutOfBoundsException", Cond.methodLink RL 21 yX10_wall, Cond.initialized "java/lang/IndexOutOfBoundsException", Cond.methodLink RL 132 yX11_wall, Cond.instanceMethod yX11_wall, Cond.selects RX11 yX11_wall yX11_wall, Cond.methodLink RL 133 yL_rule, Cond.static yL_rule, Cond.classLink RL 30 "java/util/NoSuchElementException", Cond.methodLink RL 27 yX10_rule, Cond.initialized "java/util/NoSuchElementException", Cond.methodLink RL 135 yX11_rule, Cond.instanceMethod yX11_rule, Cond.selects RX11 yX11_rule yX11_rule, Cond.methodLink RL 136 yL_wants, Cond.static yL_wants, Cond.methodLink RL 32 yX10_wants, Cond.methodLink RL 138 yX11_wants, Cond.instanceMethod yX11_wants, Cond.selects RX11 yX11_wants yX11_wants, Cond.methodLink RL 139 yL_sign, Cond.static yL_sign, Cond.methodLink RL 35 yX10_sign, Cond.methodLink RL 141 yX11_sign, Cond.instanceMethod yX11_sign, Cond.selects RX11 yX11_sign yX11_sign, Cond.methodLink RL 142 yL_months, Cond.static yL_months, Cond.methodLink RL 38 yX10_months, Cond.native arraycopyName, Cond.static arraycopyName, Cond.initialized "java/lang/System", Cond.static Lib.Math.max.name, Cond.static Lib.Math.abs.name, Cond.methodLink RL 144 yX11_months, Cond.instanceMethod yX11_months, Cond.selects RX11 yX11_months yX11_months, Cond.methodLink RL 145 yL_undo, Cond.static yL_undo, Cond.methodLink RL 41 yX10_undo, Cond.methodLink RL 147 yX11_undo, Cond.instanceMethod yX11_undo, Cond.selects RX11 yX11_undo yX11_undo, Cond.methodLink RL 148 yL_sums, Cond.static yL_sums, Cond.methodLink RL 44 yX10_sums, Cond.methodLink RL 150 yX11_sums, Cond.instanceMethod yX11_sums, Cond.selects RX11 yX11_sums yX11_sums, Cond.methodLink RL 151 yL_corks, Cond.static yL_corks, Cond.methodLink RL 47 yX10_corks, Cond.methodLink RL 153 yX11_corks, Cond.instanceMethod yX11_corks, Cond.selects RX11 yX11_corks yX11_corks, Cond.methodLink RL 154 yL_would, Cond.static yL_would, Cond.methodLink RL 50 yX10_would, Cond.methodLink RL 157 yX11_would, Cond.instanceMethod yX11_would, Cond.selects RX11 yX11_would yX11_would, Cond.methodLink RL 158 yL_best, Cond.static yL_best, Cond.methodLink RL 54 yX10_best, Cond.methodLink RL 160 yX11_best, Cond.instanceMethod yX11_best, Cond.selects RX11 yX11_best yX11_best, Cond.methodLink RL 161 yL_offer, Cond.static yL_offer, Cond.methodLink RL 57 yX10_offer, Cond.methodLink RL 163 yX11_offer, Cond.instanceMethod yX11_offer, Cond.selects RX11 yX11_offer yX11_offer, Cond.methodLink RL 164 yL_nearest, Cond.static yL_nearest, Cond.methodLink RL 60 yX10_nearest, Cond.methodLink RL 166 yX11_nearest, Cond.instanceMethod yX11_nearest, Cond.selects RX11 yX11_nearest yX11_nearest, Cond.methodLink RL 167 yL_stop, Cond.static yL_stop, Cond.methodLink RL 63 yX10_stop, Cond.methodLink RL 169 yX11_stop, Cond.instanceMethod yX11_stop, Cond.selects RX11 yX11_stop yX11_stop, Cond.methodLink RL 170 yL_odds, Cond.static yL_odds, Cond.methodLink RL 66 yX10_odds, Cond.methodLink RL 173 yX11_odds, Cond.instanceMethod yX11_odds, Cond.selects RX11 yX11_odds yX11_odds, Cond.methodLink RL 174 yL_kind, Cond.static yL_kind, Cond.methodLink RL 70 yX10_kind, Cond.methodLink RL 177 yX11_kind, Cond.instanceMethod yX11_kind, Cond.selects RX11 yX11_kind yX11_kind, Cond.methodLink RL 178 yL_seen, Cond.static yL_seen, Cond.methodLink RL 74 yX10_seen, Cond.methodLink RL 180 yX11_seen, Cond.instanceMethod yX11_seen, Cond.selects RX11 yX11_seen yX11_seen, Cond.methodLink RL 181 yL_spy, Cond.static yL_spy, Cond.methodLink RL 77 yX10_spy, Cond.methodLink RL 184 yX11_spy, Cond.instanceMethod yX11_spy, Cond.selects RX11 yX11_spy yX11_spy, Cond.methodLink RL 185 yL_believed, Cond.static yL_believed, Cond.methodLink RL 81 yX10_believed, Cond.methodLink RL 187 yX11_believed, Cond.instanceMethod yX11_believed, Cond.selects RX11 yX11_believed yX11_believed, Cond.methodLink RL 188 yL_earnest, Cond.static yL_earnest, Cond.methodLink RL 85 yX10_earnest, Cond.methodLink RL 190 yX11_earnest, Cond.instanceMethod yX11_earnest, Cond.selects RX11 yX11_earnest yX11_earnest, Cond.methodLink RL 191 yL_stands, Cond.static yL_stands, Cond.methodLink RL 88 yX10_stands, Cond.methodLink RL 193 yX11_stands, Cond.instanceMethod yX11_stands, Cond.selects RX11 yX11_stands yX11_stands, Cond.methodLink RL 194 yL_show, Cond.static yL_show, Cond.methodLink RL 91 yX10_show, Cond.methodLink RL 196 yX11_show, Cond.instanceMethod yX11_show, Cond.selects RX11 yX11_show yX11_show, Cond.methodLink RL 197 yL_offers, Cond.static yL_offers, Cond.methodLink RL 94 yX10_offers, Cond.methodLink RL 199 yX11_offers, Cond.instanceMethod yX11_offers, Cond.selects RX11 yX11_offers yX11_offers, Cond.methodLink RL 200 yX10_most, Cond.instanceMethod yX10_most, Cond.selects RX10 yX10_most yX10_most, Cond.methodLink RL 203 yX11_most, Cond.instanceMethod yX11_most, Cond.selects RX11 yX11_most yX11_most, Cond.methodLink RL 204 yL_serves, Cond.static yL_serves, Cond.methodLink RL 97 yX10_serves, Cond.methodLink RL 206 yX11_serves, Cond.instanceMethod yX11_serves, Cond.selects RX11 yX11_serves yX11_serves, Cond.methodLink RL 207 yX10_image, Cond.instanceMethod yX10_image, Cond.selects RX10 yX10_image yX10_image, Cond.methodLink RL 210 yX11_image, Cond.instanceMethod yX11_image, Cond.selects RX11 yX11_image yX11_image, Cond.methodLink RL 211 yX10_restore, Cond.instanceMethod yX10_restore, Cond.selects RX10 yX10_restore yX10_restore, Cond.methodLink RL 214 yX11_restore, Cond.instanceMethod yX11_restore, Cond.selects RX11 yX11_restore yX11_restore, Cond.methodLink RL 215 yX10_status, Cond.instanceMethod yX10_status, Cond.selects RX10 yX10_status yX10_status, Cond.methodLink RL 218 yX11_status, Cond.instanceMethod yX11_status, Cond.selects RX11 yX11_status yX11_status, Cond.methodLink RL 219 yX10_count, Cond.instanceMethod yX10_count, Cond.selects RX10 yX10_count yX10_count, Cond.methodLink RL 222 yX11_count, Cond.instanceMethod yX11_count, Cond.selects RX11 yX11_count yX11_count]
def wsL_law : List Cond := woL_law ++ (wsX100 ++ (wsX110 ++ (wsX70 ++ (wsX60 ++ (wsX80 ++ (wsX40 ++ (wsX10 ++ (wsX50 ++ (wsX00 ++ (wsX20 ++ (wsX30 ++ ((vx_atS RX10 255 "java/lang/IllegalArgumentException" ["java/lang/RuntimeException", "java/lang/Exception"]).filter goodWord ++ ((vx_atS RX10 262 "java/lang/IndexOutOfBoundsException" ["java/lang/RuntimeException", "java/lang/Exception"]).filter goodWord ++ ((nz_at RX10 267).filter goodWord ++ (wsX10_init ++ (wsX11_init ++ (wsX10_feed ++ (wsX11_feed ++ (wsL_siege ++ (wsX11_siege ++ (wsL_contract ++ (wsX11_contract ++ (wsX11_thrown ++ (wsX10_fault ++ (wsX11_fault ++ (wsL_told ++ (wsX11_told ++ (wsL_wall ++ (wsX11_wall ++ (wsL_rule ++ (wsX11_rule ++ (wsL_wants ++ (wsX11_wants ++ (wsL_sign ++ (wsX11_sign ++ (wsL_months ++ (wsX11_months ++ (wsL_undo ++ (wsX11_undo ++ (wsL_sums ++ (wsX11_sums ++ (wsL_corks ++ (wsX11_corks ++ (wsL_would ++ (wsX11_would ++ (wsL_best ++ (wsX11_best ++ (wsL_offer ++ (wsX11_offer ++ (wsL_nearest ++ (wsX11_nearest ++ (wsL_stop ++ (wsX11_stop ++ (wsL_odds ++ (wsX11_odds ++ (wsL_kind ++ (wsX11_kind ++ (wsL_seen ++ (wsX11_seen ++ (wsL_spy ++ (wsX11_spy ++ (wsL_believed ++ (wsX11_believed ++ (wsL_earnest ++ (wsX11_earnest ++ (wsL_stands ++ (wsX11_stands ++ (wsL_show ++ (wsX11_show ++ (wsL_offers ++ (wsX11_offers ++ (wsX10_most ++ (wsX11_most ++ (wsL_serves ++ (wsX11_serves ++ (wsX10_image ++ (wsX11_image ++ (wsX10_restore ++ (wsX11_restore ++ (wsX10_status ++ (wsX11_status ++ (wsX10_count ++ (wsX11_count)))))))))))))))))))))))))))))))))))))))))))))))))))))))))))))))))))))))))))))))))))
def tbC : Nat → List Cond
  | 0 => tables_1_1
  | 1 => tables_1_2
  | 2 => tables_1_3
  | 3 => tables_1_4
  | 4 => tables_1_5
  | 5 => tables_1_6
  | 6 => tables_1_7
  | 7 => k2_sels lw_privs
  | _ => []
theorem tbC_in : ∀ (k : Nat) (w : Cond), w ∈ tbC k → w ∈ lw_tbl := by
  intro k w h
  match k, h with
  | 0, h => exact List.mem_append_right _ (show w ∈ tables_1 from List.mem_append_left _ h)
  | 1, h => exact List.mem_append_right _ (show w ∈ tables_1 from List.mem_append_right _ (List.mem_append_left _ h))
  | 2, h => exact List.mem_append_right _ (show w ∈ tables_1 from List.mem_append_right _ (List.mem_append_right _ (List.mem_append_left _ h)))
  | 3, h => exact List.mem_append_right _ (show w ∈ tables_1 from List.mem_append_right _ (List.mem_append_right _ (List.mem_append_right _ (List.mem_append_left _ h))))
  | 4, h => exact List.mem_append_right _ (show w ∈ tables_1 from List.mem_append_right _ (List.mem_append_right _ (List.mem_append_right _ (List.mem_append_right _ (List.mem_append_left _ h)))))
  | 5, h => exact List.mem_append_right _ (show w ∈ tables_1 from List.mem_append_right _ (List.mem_append_right _ (List.mem_append_right _ (List.mem_append_right _ (List.mem_append_right _ (List.mem_append_left _ h))))))
  | 6, h => exact List.mem_append_right _ (show w ∈ tables_1 from List.mem_append_right _ (List.mem_append_right _ (List.mem_append_right _ (List.mem_append_right _ (List.mem_append_right _ (List.mem_append_right _ (h)))))))
  | 7, h => exact List.mem_append_left _ h
  | _ + 8, h => exact absurd h List.not_mem_nil
theorem lw_mem3 (ws : List Cond) (ps : List (Nat × Nat)) (hp : ws = ps.filterMap (fun q => (tbC q.1)[q.2]?)) : ∀ w ∈ ws, w ∈ lw_tbl := by
  intro w hw
  rw [hp] at hw
  obtain ⟨q, -, hq⟩ := List.mem_filterMap.mp hw
  exact tbC_in q.1 w (List.mem_of_getElem? hq)
theorem lw_mem {big : List Cond} (ws : List Cond) (ps : List Nat) (hp : ws = ps.filterMap (fun i => big[i]?)) : ∀ w ∈ ws, w ∈ big := by
  intro w hw
  rw [hp] at hw
  obtain ⟨i, -, hi⟩ := List.mem_filterMap.mp hw
  exact List.mem_of_getElem? hi
theorem tb_nil : ∀ w ∈ ([] : List Cond), w ∈ lw_tbl := fun _ h => nomatch h
theorem tb_app {a b : List Cond} (ha : ∀ w ∈ a, w ∈ lw_tbl) (hb : ∀ w ∈ b, w ∈ lw_tbl) : ∀ w ∈ a ++ b, w ∈ lw_tbl := fun w h => (List.mem_append.mp h).elim (ha w) (hb w)
theorem tb_cons {c : Cond} {a : List Cond} (hc : c ∈ lw_tbl) (ha : ∀ w ∈ a, w ∈ lw_tbl) : ∀ w ∈ c :: a, w ∈ lw_tbl := fun w h => (List.mem_cons.mp h).elim (fun e => e ▸ hc) (ha w)
set_option maxRecDepth 20000 in
theorem tboX7_init : ∀ w ∈ woX7_init, w ∈ lw_tbl := lw_mem3 woX7_init [(0, 39), (0, 32), (0, 33), (0, 60), (0, 40), (0, 44), (0, 61), (0, 46)] (by decide +kernel)
set_option maxRecDepth 20000 in
theorem tbn_0 : ∀ w ∈ wsX70, w ∈ lw_tbl := lw_mem3 wsX70 [(0, 47), (0, 49), (0, 51), (0, 53), (0, 55), (0, 57)] (by decide +kernel)
theorem tbX7_init : ∀ w ∈ wsX7_init, w ∈ lw_tbl := tb_cons (tbC_in 0 _ (List.mem_of_getElem? (i := 38) (by decide +kernel))) (tb_app tboX7_init tbn_0)
set_option maxRecDepth 20000 in
theorem tboX9_init : ∀ w ∈ woX9_init, w ∈ lw_tbl := lw_mem3 woX9_init [(0, 70), (0, 32), (0, 33)] (by decide +kernel)
theorem tbX9_init : ∀ w ∈ wsX9_init, w ∈ lw_tbl := tb_cons (tbC_in 0 _ (List.mem_of_getElem? (i := 69) (by decide +kernel))) tboX9_init
set_option maxRecDepth 20000 in
theorem tboX6_clear : ∀ w ∈ woX6_clear, w ∈ lw_tbl := lw_mem3 woX6_clear [(0, 87), (0, 77), (0, 71), (0, 79)] (by decide +kernel)
set_option maxRecDepth 20000 in
theorem tbn_1 : ∀ w ∈ wsX60, w ∈ lw_tbl := lw_mem3 wsX60 [(0, 91), (0, 93), (0, 95), (0, 97), (0, 99)] (by decide +kernel)
theorem tbX6_clear : ∀ w ∈ wsX6_clear, w ∈ lw_tbl := tb_cons (tbC_in 0 _ (List.mem_of_getElem? (i := 76) (by decide +kernel))) (tb_app tboX6_clear tbn_1)
set_option maxRecDepth 20000 in
theorem tboX6_init : ∀ w ∈ woX6_init, w ∈ lw_tbl := lw_mem3 woX6_init [(0, 71), (0, 61), (0, 77), (0, 79), (0, 80), (0, 84), (0, 68), (0, 3), (0, 32), (0, 73), (0, 74), (0, 75), (0, 4)] (by decide +kernel)
theorem tbX6_init : ∀ w ∈ wsX6_init, w ∈ lw_tbl := tb_cons (tbC_in 0 _ (List.mem_of_getElem? (i := 66) (by decide +kernel))) (tb_app tboX6_init (tb_app tbn_1 (tb_app tbX9_init tbX6_clear)))
set_option maxRecDepth 20000 in
theorem tboX4_init : ∀ w ∈ woX4_init, w ∈ lw_tbl := lw_mem3 woX4_init [(0, 115), (0, 32), (0, 33), (0, 61), (0, 116), (0, 119)] (by decide +kernel)
set_option maxRecDepth 20000 in
theorem tbn_2 : ∀ w ∈ wsX40, w ∈ lw_tbl := lw_mem3 wsX40 [(0, 125), (0, 127), (0, 129)] (by decide +kernel)
theorem tbX4_init : ∀ w ∈ wsX4_init, w ∈ lw_tbl := tb_cons (tbC_in 0 _ (List.mem_of_getElem? (i := 114) (by decide +kernel))) (tb_app tboX4_init tbn_2)
set_option maxRecDepth 20000 in
theorem tboX0_init : ∀ w ∈ woX0_init, w ∈ lw_tbl := lw_mem3 woX0_init [(0, 137), (0, 32), (0, 33), (0, 61), (0, 138)] (by decide +kernel)
set_option maxRecDepth 20000 in
theorem tbn_3 : ∀ w ∈ wsX00, w ∈ lw_tbl := lw_mem3 wsX00 [(0, 139)] (by decide +kernel)
theorem tbX0_init : ∀ w ∈ wsX0_init, w ∈ lw_tbl := tb_cons (tbC_in 0 _ (List.mem_of_getElem? (i := 136) (by decide +kernel))) (tb_app tboX0_init tbn_3)
set_option maxRecDepth 20000 in
theorem tboX2_init : ∀ w ∈ woX2_init, w ∈ lw_tbl := lw_mem3 woX2_init [(0, 147), (0, 32), (0, 33), (0, 61), (0, 148), (0, 150), (0, 152), (0, 153), (0, 154), (0, 155)] (by decide +kernel)
set_option maxRecDepth 20000 in
theorem tbn_4 : ∀ w ∈ wsX20, w ∈ lw_tbl := lw_mem3 wsX20 [(0, 158), (0, 160), (0, 162), (0, 164), (0, 166), (0, 168), (0, 170)] (by decide +kernel)
theorem tbX2_init : ∀ w ∈ wsX2_init, w ∈ lw_tbl := tb_cons (tbC_in 0 _ (List.mem_of_getElem? (i := 146) (by decide +kernel))) (tb_app tboX2_init tbn_4)
set_option maxRecDepth 20000 in
theorem tboX3_init : ∀ w ∈ woX3_init, w ∈ lw_tbl := lw_mem3 woX3_init [(0, 178), (0, 32), (0, 33), (0, 61), (0, 179), (0, 180)] (by decide +kernel)
set_option maxRecDepth 20000 in
theorem tbn_5 : ∀ w ∈ wsX30, w ∈ lw_tbl := lw_mem3 wsX30 [(0, 181), (0, 183)] (by decide +kernel)
theorem tbX3_init : ∀ w ∈ wsX3_init, w ∈ lw_tbl := tb_cons (tbC_in 0 _ (List.mem_of_getElem? (i := 177) (by decide +kernel))) (tb_app tboX3_init tbn_5)
set_option maxRecDepth 20000 in
theorem tboX8_init : ∀ w ∈ woX8_init, w ∈ lw_tbl := lw_mem3 woX8_init [(0, 109), (0, 32), (0, 110), (0, 111), (0, 6), (0, 186), (0, 132), (0, 133), (0, 7), (0, 188), (0, 142), (0, 143), (0, 8), (0, 190), (0, 173), (0, 174), (0, 9), (0, 192), (0, 113), (0, 61), (0, 135), (0, 145), (0, 176)] (by decide +kernel)
set_option maxRecDepth 20000 in
theorem tbn_6 : ∀ w ∈ wsX80, w ∈ lw_tbl := lw_mem3 wsX80 [(0, 194), (0, 196), (0, 198), (0, 200)] (by decide +kernel)
theorem tbX8_init : ∀ w ∈ wsX8_init, w ∈ lw_tbl := tb_cons (tbC_in 0 _ (List.mem_of_getElem? (i := 108) (by decide +kernel))) (tb_app tboX8_init (tb_app tbn_2 (tb_app tbn_6 (tb_app tbn_3 (tb_app tbn_4 (tb_app tbn_5 (tb_app tbX4_init (tb_app tbX0_init (tb_app tbX2_init tbX3_init)))))))))
set_option maxRecDepth 20000 in
theorem tboX1_init : ∀ w ∈ woX1_init, w ∈ lw_tbl := lw_mem3 woX1_init [(0, 211), (0, 32), (0, 33), (0, 61), (0, 212), (0, 213), (0, 214)] (by decide +kernel)
set_option maxRecDepth 20000 in
theorem tbn_7 : ∀ w ∈ wsX10, w ∈ lw_tbl := lw_mem3 wsX10 [(0, 219), (0, 221), (0, 223), (0, 225), (0, 227)] (by decide +kernel)
theorem tbX1_init : ∀ w ∈ wsX1_init, w ∈ lw_tbl := tb_cons (tbC_in 0 _ (List.mem_of_getElem? (i := 210) (by decide +kernel))) (tb_app tboX1_init tbn_7)
set_option maxRecDepth 20000 in
theorem tboX5_init : ∀ w ∈ woX5_init, w ∈ lw_tbl := lw_mem3 woX5_init [(0, 61), (0, 235), (0, 237), (0, 68), (0, 3), (0, 32)] (by decide +kernel)
set_option maxRecDepth 20000 in
theorem tbn_8 : ∀ w ∈ wsX50, w ∈ lw_tbl := lw_mem3 wsX50 [(0, 239), (1, 1), (1, 3)] (by decide +kernel)
theorem tbX5_init : ∀ w ∈ wsX5_init, w ∈ lw_tbl := tb_cons (tbC_in 0 _ (List.mem_of_getElem? (i := 233) (by decide +kernel))) (tb_app tboX5_init (tb_app tbn_8 tbX9_init))
theorem tbJ7_fill_53178 : ∀ w ∈ wsJ7_fill_53178, w ∈ lw_tbl := tb_cons (tbC_in 1 _ (List.mem_of_getElem? (i := 12) (by decide +kernel))) tb_nil
set_option maxRecDepth 20000 in
theorem tboX4_begin : ∀ w ∈ woX4_begin, w ∈ lw_tbl := lw_mem3 woX4_begin [(0, 122), (0, 116), (0, 78), (0, 89), (0, 82), (1, 10), (1, 11), (0, 12)] (by decide +kernel)
theorem tbX4_begin : ∀ w ∈ wsX4_begin, w ∈ lw_tbl := tb_cons (tbC_in 1 _ (List.mem_of_getElem? (i := 9) (by decide +kernel))) (tb_app tboX4_begin (tb_app tbn_2 (tb_app tbn_1 tbJ7_fill_53178)))
set_option maxRecDepth 20000 in
theorem tboX10_init : ∀ w ∈ woX10_init, w ∈ lw_tbl := lw_mem3 woX10_init [(0, 31), (0, 32), (0, 60), (1, 13), (0, 34), (0, 35), (0, 2), (1, 15), (0, 62), (0, 63), (0, 4), (1, 16), (1, 17), (0, 102), (1, 18), (0, 104), (0, 105), (0, 5), (1, 20), (1, 21), (0, 204), (0, 111), (0, 6), (1, 23), (0, 206), (0, 207), (0, 10), (1, 24), (0, 61), (1, 25), (0, 230), (0, 11), (0, 187), (0, 37), (0, 64), (0, 65), (0, 3), (0, 107), (0, 133), (0, 7), (0, 143), (0, 8), (0, 174), (0, 9), (0, 113), (0, 209), (0, 232), (1, 6), (1, 7), (1, 8), (0, 12)] (by decide +kernel)
set_option maxRecDepth 20000 in
theorem tbn_9 : ∀ w ∈ wsX100, w ∈ lw_tbl := lw_mem3 wsX100 [(1, 26), (1, 28), (1, 30), (1, 32), (1, 34), (1, 36), (1, 38), (1, 40), (1, 42), (1, 44), (1, 46), (1, 48), (1, 50)] (by decide +kernel)
theorem tbX10_init : ∀ w ∈ wsX10_init, w ∈ lw_tbl := tb_cons (tbC_in 0 _ (List.mem_of_getElem? (i := 30) (by decide +kernel))) (tb_app tboX10_init (tb_app tbn_9 (tb_app tbn_0 (tb_app tbn_1 (tb_app tbn_6 (tb_app tbn_2 (tb_app tbn_7 (tb_app tbn_8 (tb_app tbn_3 (tb_app tbn_4 (tb_app tbn_5 (tb_app tbX7_init (tb_app tbX6_init (tb_app tbX8_init (tb_app tbX4_init (tb_app tbX1_init (tb_app tbX5_init tbX4_begin)))))))))))))))))
set_option maxRecDepth 20000 in
theorem tboX11_tellsNothing : ∀ w ∈ woX11_tellsNothing, w ∈ lw_tbl := lw_mem3 woX11_tellsNothing [(0, 61), (4, 103)] (by decide +kernel)
set_option maxRecDepth 20000 in
theorem tbn_10 : ∀ w ∈ wsX110, w ∈ lw_tbl := lw_mem3 wsX110 [(4, 128), (4, 130), (4, 132), (4, 134), (4, 136), (4, 138), (4, 140), (4, 142), (4, 144), (4, 146), (4, 148), (4, 150), (4, 152), (4, 154), (4, 156), (4, 158), (4, 160), (4, 162), (4, 164), (4, 166), (4, 168), (4, 170), (4, 172), (4, 174), (4, 176), (4, 178), (4, 180), (4, 182), (4, 184), (4, 186), (4, 188), (4, 190), (4, 192), (4, 194), (4, 196)] (by decide +kernel)
theorem tbX11_tellsNothing : ∀ w ∈ wsX11_tellsNothing, w ∈ lw_tbl := tb_cons (tbC_in 4 _ (List.mem_of_getElem? (i := 88) (by decide +kernel))) (tb_app tboX11_tellsNothing tbn_10)
set_option maxRecDepth 20000 in
theorem tboX11_stands0 : ∀ w ∈ woX11_stands0, w ∈ lw_tbl := lw_mem3 woX11_stands0 [(4, 104), (4, 103), (4, 112), (4, 106), (4, 105), (4, 115), (4, 122), (4, 124), (4, 107), (4, 117), (4, 118), (4, 119), (4, 120)] (by decide +kernel)
theorem tbX11_stands0 : ∀ w ∈ wsX11_stands0, w ∈ lw_tbl := tb_cons (tbC_in 4 _ (List.mem_of_getElem? (i := 92) (by decide +kernel))) (tb_app tboX11_stands0 tbn_10)
set_option maxRecDepth 20000 in
theorem tboX11_init : ∀ w ∈ woX11_init, w ∈ lw_tbl := lw_mem3 woX11_init [(4, 82), (0, 32), (0, 33), (4, 96), (0, 61), (4, 101), (4, 102), (4, 103), (4, 104), (4, 83), (4, 105), (4, 106), (4, 108), (4, 109), (4, 110), (4, 111), (4, 112), (4, 113), (4, 114), (4, 115), (4, 117), (4, 118), (4, 122), (4, 123), (4, 124), (4, 125), (4, 127), (4, 85), (4, 87), (7, 37), (0, 13), (4, 89), (4, 91), (7, 38)] (by decide +kernel)
theorem tbX11_init : ∀ w ∈ wsX11_init, w ∈ lw_tbl := tb_cons (tbC_in 4 _ (List.mem_of_getElem? (i := 81) (by decide +kernel))) (tb_app tboX11_init (tb_app tbn_10 (tb_app tbX11_tellsNothing tbX11_stands0)))
set_option maxRecDepth 20000 in
theorem tboX10_putOnTape : ∀ w ∈ woX10_putOnTape, w ∈ lw_tbl := lw_mem3 woX10_putOnTape [(1, 14), (1, 13)] (by decide +kernel)
theorem tbX10_putOnTape : ∀ w ∈ wsX10_putOnTape, w ∈ lw_tbl := tb_cons (tbC_in 1 _ (List.mem_of_getElem? (i := 60) (by decide +kernel))) (tb_app tboX10_putOnTape tbn_9)
set_option maxRecDepth 20000 in
theorem tboX10_feed : ∀ w ∈ woX10_feed, w ∈ lw_tbl := lw_mem3 woX10_feed [(1, 14), (1, 57), (1, 59), (7, 0), (0, 1)] (by decide +kernel)
theorem tbX10_feed : ∀ w ∈ wsX10_feed, w ∈ lw_tbl := tb_cons (tbC_in 1 _ (List.mem_of_getElem? (i := 56) (by decide +kernel))) (tb_app tboX10_feed (tb_app tbn_9 tbX10_putOnTape))
set_option maxRecDepth 20000 in
theorem tboX11_feed : ∀ w ∈ woX11_feed, w ∈ lw_tbl := lw_mem3 woX11_feed [(4, 93), (4, 94), (4, 101)] (by decide +kernel)
theorem tbX11_feed : ∀ w ∈ wsX11_feed, w ∈ lw_tbl := tb_cons (tbC_in 4 _ (List.mem_of_getElem? (i := 206) (by decide +kernel))) (tb_app tboX11_feed tbn_10)
set_option maxRecDepth 20000 in
theorem tboX10_demand : ∀ w ∈ woX10_demand, w ∈ lw_tbl := lw_mem3 woX10_demand [(1, 145), (0, 17), (1, 25)] (by decide +kernel)
def tbS_11 : List Cond := ([(7, 4), (0, 14), (0, 15), (0, 16), (0, 17), (0, 31), (0, 32), (0, 33), (0, 39), (0, 59), (0, 70), (0, 109), (0, 115), (0, 131), (0, 137), (0, 141), (0, 147), (0, 172), (0, 178), (0, 185), (0, 202), (0, 211), (0, 229), (1, 52), (1, 99), (1, 100), (1, 101), (1, 109), (1, 114), (1, 119), (1, 136), (1, 145), (1, 146), (1, 147), (1, 148), (1, 149), (1, 150), (1, 151), (1, 152), (1, 153), (1, 154), (1, 155), (1, 156), (1, 157), (1, 158), (1, 159), (1, 160), (1, 161), (1, 162), (1, 163), (1, 164), (1, 165), (1, 166), (1, 167), (1, 168), (1, 169), (1, 170), (1, 171), (1, 172), (1, 173), (1, 174), (1, 175), (1, 176), (1, 177), (1, 180), (1, 181), (1, 182), (1, 183), (1, 184), (1, 185), (1, 187), (1, 188), (1, 189), (1, 190), (1, 191), (1, 192), (1, 193), (1, 194), (1, 195), (1, 196), (1, 197), (1, 198), (1, 200), (1, 201), (1, 202), (1, 203), (1, 204), (1, 205), (1, 206), (1, 207), (1, 208), (1, 209), (1, 210), (1, 211), (4, 82), (4, 198), (6, 40), (6, 42), (6, 43), (6, 44), (6, 45), (6, 46), (6, 47), (6, 48), (6, 49), (6, 50), (6, 51), (6, 52), (6, 53), (6, 56), (6, 57)] : List (Nat × Nat)).filterMap (fun q => (tbC q.1)[q.2]?)
theorem tbS_11_in : ∀ w ∈ tbS_11, w ∈ lw_tbl := lw_mem3 tbS_11 [(7, 4), (0, 14), (0, 15), (0, 16), (0, 17), (0, 31), (0, 32), (0, 33), (0, 39), (0, 59), (0, 70), (0, 109), (0, 115), (0, 131), (0, 137), (0, 141), (0, 147), (0, 172), (0, 178), (0, 185), (0, 202), (0, 211), (0, 229), (1, 52), (1, 99), (1, 100), (1, 101), (1, 109), (1, 114), (1, 119), (1, 136), (1, 145), (1, 146), (1, 147), (1, 148), (1, 149), (1, 150), (1, 151), (1, 152), (1, 153), (1, 154), (1, 155), (1, 156), (1, 157), (1, 158), (1, 159), (1, 160), (1, 161), (1, 162), (1, 163), (1, 164), (1, 165), (1, 166), (1, 167), (1, 168), (1, 169), (1, 170), (1, 171), (1, 172), (1, 173), (1, 174), (1, 175), (1, 176), (1, 177), (1, 180), (1, 181), (1, 182), (1, 183), (1, 184), (1, 185), (1, 187), (1, 188), (1, 189), (1, 190), (1, 191), (1, 192), (1, 193), (1, 194), (1, 195), (1, 196), (1, 197), (1, 198), (1, 200), (1, 201), (1, 202), (1, 203), (1, 204), (1, 205), (1, 206), (1, 207), (1, 208), (1, 209), (1, 210), (1, 211), (4, 82), (4, 198), (6, 40), (6, 42), (6, 43), (6, 44), (6, 45), (6, 46), (6, 47), (6, 48), (6, 49), (6, 50), (6, 51), (6, 52), (6, 53), (6, 56), (6, 57)] rfl
set_option maxRecDepth 20000 in
theorem tbI_11 : ∀ w ∈ (vx_atS RX10 255 "java/lang/IllegalArgumentException" ["java/lang/RuntimeException", "java/lang/Exception"]).filter goodWord, w ∈ tbS_11 := by decide +kernel
theorem tbn_11 : ∀ w ∈ (vx_atS RX10 255 "java/lang/IllegalArgumentException" ["java/lang/RuntimeException", "java/lang/Exception"]).filter goodWord, w ∈ lw_tbl := fun w h => tbS_11_in w (tbI_11 w h)
theorem tbX10_demand : ∀ w ∈ wsX10_demand, w ∈ lw_tbl := tb_cons (tbC_in 1 _ (List.mem_of_getElem? (i := 144) (by decide +kernel))) (tb_app tboX10_demand (tb_app tbn_9 tbn_11))
theorem tbX5_mostParts : ∀ w ∈ wsX5_mostParts, w ∈ lw_tbl := tb_cons (tbC_in 1 _ (List.mem_of_getElem? (i := 225) (by decide +kernel))) tb_nil
theorem tbX6_mostParts : ∀ w ∈ wsX6_mostParts, w ∈ lw_tbl := tb_cons (tbC_in 1 _ (List.mem_of_getElem? (i := 228) (by decide +kernel))) tb_nil
set_option maxRecDepth 20000 in
theorem tboX7_skipBlanks : ∀ w ∈ woX7_skipBlanks, w ∈ lw_tbl := lw_mem3 woX7_skipBlanks [(0, 42), (0, 41), (0, 40)] (by decide +kernel)
theorem tbX7_skipBlanks : ∀ w ∈ wsX7_skipBlanks, w ∈ lw_tbl := tb_cons (tbC_in 1 _ (List.mem_of_getElem? (i := 232) (by decide +kernel))) (tb_app tboX7_skipBlanks tbn_0)
set_option maxRecDepth 20000 in
theorem tboX7_skipLetters : ∀ w ∈ woX7_skipLetters, w ∈ lw_tbl := lw_mem3 woX7_skipLetters [(0, 42), (0, 41), (0, 40)] (by decide +kernel)
theorem tbX7_skipLetters : ∀ w ∈ wsX7_skipLetters, w ∈ lw_tbl := tb_cons (tbC_in 2 _ (List.mem_of_getElem? (i := 0) (by decide +kernel))) (tb_app tboX7_skipLetters tbn_0)
theorem tbX5_words : ∀ w ∈ wsX5_words, w ∈ lw_tbl := tb_cons (tbC_in 2 _ (List.mem_of_getElem? (i := 6) (by decide +kernel))) tb_nil
theorem tbX6_words : ∀ w ∈ wsX6_words, w ∈ lw_tbl := tb_cons (tbC_in 2 _ (List.mem_of_getElem? (i := 10) (by decide +kernel))) tb_nil
set_option maxRecDepth 20000 in
theorem tboJ0_coder_7d493 : ∀ w ∈ woJ0_coder_7d493, w ∈ lw_tbl := lw_mem3 woJ0_coder_7d493 [(2, 24), (6, 59)] (by decide +kernel)
theorem tbJ0_coder_7d493 : ∀ w ∈ wsJ0_coder_7d493, w ∈ lw_tbl := tb_cons (tbC_in 2 _ (List.mem_of_getElem? (i := 23) (by decide +kernel))) tboJ0_coder_7d493
set_option maxRecDepth 20000 in
theorem tboJ0_length_8abf5 : ∀ w ∈ woJ0_length_8abf5, w ∈ lw_tbl := lw_mem3 woJ0_length_8abf5 [(6, 58), (2, 20), (2, 21), (2, 22), (0, 19)] (by decide +kernel)
theorem tbJ0_length_8abf5 : ∀ w ∈ wsJ0_length_8abf5, w ∈ lw_tbl := tb_cons (tbC_in 2 _ (List.mem_of_getElem? (i := 19) (by decide +kernel))) (tb_app tboJ0_length_8abf5 tbJ0_coder_7d493)
set_option maxRecDepth 20000 in
theorem tboJ0_isLatin1_aae02 : ∀ w ∈ woJ0_isLatin1_aae02, w ∈ lw_tbl := lw_mem3 woJ0_isLatin1_aae02 [(2, 24), (6, 59)] (by decide +kernel)
theorem tbJ0_isLatin1_aae02 : ∀ w ∈ wsJ0_isLatin1_aae02, w ∈ lw_tbl := tb_cons (tbC_in 2 _ (List.mem_of_getElem? (i := 33) (by decide +kernel))) tboJ0_isLatin1_aae02
theorem tbJ3_checkIndex_8e157 : ∀ w ∈ wsJ3_checkIndex_8e157, w ∈ lw_tbl := tb_cons (tbC_in 2 _ (List.mem_of_getElem? (i := 44) (by decide +kernel))) tb_nil
set_option maxRecDepth 20000 in
theorem tboJ0_checkIndex_df160 : ∀ w ∈ woJ0_checkIndex_df160, w ∈ lw_tbl := lw_mem3 woJ0_checkIndex_df160 [(2, 40), (2, 42), (2, 43), (0, 21)] (by decide +kernel)
theorem tbJ0_checkIndex_df160 : ∀ w ∈ wsJ0_checkIndex_df160, w ∈ lw_tbl := tb_cons (tbC_in 2 _ (List.mem_of_getElem? (i := 39) (by decide +kernel))) (tb_app tboJ0_checkIndex_df160 tbJ3_checkIndex_8e157)
set_option maxRecDepth 20000 in
theorem tboJ1_charAt_3b067 : ∀ w ∈ woJ1_charAt_3b067, w ∈ lw_tbl := lw_mem3 woJ1_charAt_3b067 [(2, 37), (2, 38), (0, 19), (0, 21)] (by decide +kernel)
theorem tbJ1_charAt_3b067 : ∀ w ∈ wsJ1_charAt_3b067, w ∈ lw_tbl := tb_cons (tbC_in 2 _ (List.mem_of_getElem? (i := 36) (by decide +kernel))) (tb_app tboJ1_charAt_3b067 tbJ0_checkIndex_df160)
theorem tbJ2_length_9d52b : ∀ w ∈ wsJ2_length_9d52b, w ∈ lw_tbl := tb_cons (tbC_in 2 _ (List.mem_of_getElem? (i := 53) (by decide +kernel))) tb_nil
set_option maxRecDepth 20000 in
theorem tboJ2_checkIndex_2214a : ∀ w ∈ woJ2_checkIndex_2214a, w ∈ lw_tbl := lw_mem3 woJ2_checkIndex_2214a [(2, 51), (2, 52), (0, 22), (2, 54), (2, 38), (0, 19), (0, 21)] (by decide +kernel)
theorem tbJ2_checkIndex_2214a : ∀ w ∈ wsJ2_checkIndex_2214a, w ∈ lw_tbl := tb_cons (tbC_in 2 _ (List.mem_of_getElem? (i := 50) (by decide +kernel))) (tb_app tboJ2_checkIndex_2214a (tb_app tbJ2_length_9d52b tbJ0_checkIndex_df160))
set_option maxRecDepth 20000 in
theorem tboJ2_getChar_3b067 : ∀ w ∈ woJ2_getChar_3b067, w ∈ lw_tbl := lw_mem3 woJ2_getChar_3b067 [(2, 58), (2, 60), (2, 62), (2, 51), (2, 52), (0, 22)] (by decide +kernel)
theorem tbJ2_getChar_3b067 : ∀ w ∈ wsJ2_getChar_3b067, w ∈ lw_tbl := tb_cons (tbC_in 2 _ (List.mem_of_getElem? (i := 57) (by decide +kernel))) (tb_app tboJ2_getChar_3b067 tbJ2_length_9d52b)
set_option maxRecDepth 20000 in
theorem tboJ2_charAt_3b067 : ∀ w ∈ woJ2_charAt_3b067, w ∈ lw_tbl := lw_mem3 woJ2_charAt_3b067 [(2, 48), (2, 49), (0, 22), (0, 19), (0, 21), (2, 55), (2, 56)] (by decide +kernel)
theorem tbJ2_charAt_3b067 : ∀ w ∈ wsJ2_charAt_3b067, w ∈ lw_tbl := tb_cons (tbC_in 2 _ (List.mem_of_getElem? (i := 47) (by decide +kernel))) (tb_app tboJ2_charAt_3b067 (tb_app tbJ2_checkIndex_2214a tbJ2_getChar_3b067))
set_option maxRecDepth 20000 in
theorem tboJ0_charAt_5068e : ∀ w ∈ woJ0_charAt_5068e, w ∈ lw_tbl := lw_mem3 woJ0_charAt_5068e [(6, 58), (2, 30), (2, 31), (2, 32), (0, 19), (2, 34), (2, 35), (0, 20), (0, 21), (2, 45), (2, 46), (0, 22)] (by decide +kernel)
theorem tbJ0_charAt_5068e : ∀ w ∈ wsJ0_charAt_5068e, w ∈ lw_tbl := tb_cons (tbC_in 2 _ (List.mem_of_getElem? (i := 29) (by decide +kernel))) (tb_app tboJ0_charAt_5068e (tb_app tbJ0_isLatin1_aae02 (tb_app tbJ1_charAt_3b067 tbJ2_charAt_3b067)))
set_option maxRecDepth 20000 in
theorem tboX7_isSame : ∀ w ∈ woX7_isSame, w ∈ lw_tbl := lw_mem3 woX7_isSame [(0, 42), (0, 40), (2, 26), (2, 27), (2, 28), (0, 19), (0, 20), (0, 21), (0, 22)] (by decide +kernel)
theorem tbX7_isSame : ∀ w ∈ wsX7_isSame, w ∈ lw_tbl := tb_cons (tbC_in 2 _ (List.mem_of_getElem? (i := 67) (by decide +kernel))) (tb_app tboX7_isSame (tb_app tbn_0 tbJ0_charAt_5068e))
set_option maxRecDepth 20000 in
theorem tboX7_kindOf : ∀ w ∈ woX7_kindOf, w ∈ lw_tbl := lw_mem3 woX7_kindOf [(2, 16), (2, 17), (2, 18), (0, 19), (2, 26), (2, 27), (2, 28), (0, 20), (0, 21), (0, 22), (2, 64), (2, 66), (7, 9), (0, 2)] (by decide +kernel)
theorem tbX7_kindOf : ∀ w ∈ wsX7_kindOf, w ∈ lw_tbl := tb_cons (tbC_in 2 _ (List.mem_of_getElem? (i := 15) (by decide +kernel))) (tb_app tboX7_kindOf (tb_app tbn_0 (tb_app tbJ0_length_8abf5 (tb_app tbJ0_charAt_5068e tbX7_isSame))))
set_option maxRecDepth 20000 in
theorem tboX7_fail : ∀ w ∈ woX7_fail, w ∈ lw_tbl := lw_mem3 woX7_fail [(0, 43), (0, 44)] (by decide +kernel)
theorem tbX7_fail : ∀ w ∈ wsX7_fail, w ∈ lw_tbl := tb_cons (tbC_in 2 _ (List.mem_of_getElem? (i := 71) (by decide +kernel))) (tb_app tboX7_fail tbn_0)
theorem tbX5_isFull : ∀ w ∈ wsX5_isFull, w ∈ lw_tbl := tb_cons (tbC_in 2 _ (List.mem_of_getElem? (i := 77) (by decide +kernel))) tb_nil
set_option maxRecDepth 20000 in
theorem tboX6_isFull : ∀ w ∈ woX6_isFull, w ∈ lw_tbl := lw_mem3 woX6_isFull [(0, 87)] (by decide +kernel)
theorem tbX6_isFull : ∀ w ∈ wsX6_isFull, w ∈ lw_tbl := tb_cons (tbC_in 2 _ (List.mem_of_getElem? (i := 80) (by decide +kernel))) (tb_app tboX6_isFull tbn_1)
theorem tbX5_numbers : ∀ w ∈ wsX5_numbers, w ∈ lw_tbl := tb_cons (tbC_in 2 _ (List.mem_of_getElem? (i := 86) (by decide +kernel))) tb_nil
theorem tbX10_within : ∀ w ∈ wsX10_within, w ∈ lw_tbl := tb_cons (tbC_in 1 _ (List.mem_of_getElem? (i := 108) (by decide +kernel))) tb_nil
set_option maxRecDepth 20000 in
theorem tboX6_numbers : ∀ w ∈ woX6_numbers, w ∈ lw_tbl := lw_mem3 woX6_numbers [(2, 90), (1, 107), (0, 1)] (by decide +kernel)
theorem tbX6_numbers : ∀ w ∈ wsX6_numbers, w ∈ lw_tbl := tb_cons (tbC_in 2 _ (List.mem_of_getElem? (i := 89) (by decide +kernel))) (tb_app tboX6_numbers tbX10_within)
theorem tbX5_low : ∀ w ∈ wsX5_low, w ∈ lw_tbl := tb_cons (tbC_in 2 _ (List.mem_of_getElem? (i := 98) (by decide +kernel))) tb_nil
theorem tbX6_low : ∀ w ∈ wsX6_low, w ∈ lw_tbl := tb_cons (tbC_in 2 _ (List.mem_of_getElem? (i := 101) (by decide +kernel))) tb_nil
set_option maxRecDepth 20000 in
theorem tboX5_high : ∀ w ∈ woX5_high, w ∈ lw_tbl := lw_mem3 woX5_high [(0, 238), (2, 108), (1, 107), (0, 1)] (by decide +kernel)
theorem tbX5_high : ∀ w ∈ wsX5_high, w ∈ lw_tbl := tb_cons (tbC_in 2 _ (List.mem_of_getElem? (i := 107) (by decide +kernel))) (tb_app tboX5_high (tb_app tbn_8 tbX10_within))
set_option maxRecDepth 20000 in
theorem tboX6_high : ∀ w ∈ woX6_high, w ∈ lw_tbl := lw_mem3 woX6_high [(2, 114), (1, 107), (0, 1)] (by decide +kernel)
theorem tbX6_high : ∀ w ∈ wsX6_high, w ∈ lw_tbl := tb_cons (tbC_in 2 _ (List.mem_of_getElem? (i := 113) (by decide +kernel))) (tb_app tboX6_high tbX10_within)
set_option maxRecDepth 20000 in
theorem tboX7_readNumber : ∀ w ∈ woX7_readNumber, w ∈ lw_tbl := lw_mem3 woX7_readNumber [(0, 42), (0, 41), (0, 40), (2, 120), (1, 217), (1, 218), (0, 18), (1, 219), (0, 46), (1, 229), (1, 231), (7, 5), (0, 2), (2, 68), (2, 70), (7, 10), (1, 107), (0, 1)] (by decide +kernel)
theorem tbX7_readNumber : ∀ w ∈ wsX7_readNumber, w ∈ lw_tbl := tb_cons (tbC_in 2 _ (List.mem_of_getElem? (i := 119) (by decide +kernel))) (tb_app tboX7_readNumber (tb_app tbn_0 (tb_app tbX7_skipBlanks (tb_app tbX7_fail tbX10_within))))
set_option maxRecDepth 20000 in
theorem tboX5_store : ∀ w ∈ woX5_store, w ∈ lw_tbl := lw_mem3 woX5_store [(0, 237), (0, 235), (1, 107), (0, 1)] (by decide +kernel)
theorem tbX5_store : ∀ w ∈ wsX5_store, w ∈ lw_tbl := tb_cons (tbC_in 2 _ (List.mem_of_getElem? (i := 127) (by decide +kernel))) (tb_app tboX5_store (tb_app tbn_8 tbX10_within))
set_option maxRecDepth 20000 in
theorem tboX6_addWall : ∀ w ∈ woX6_addWall, w ∈ lw_tbl := lw_mem3 woX6_addWall [(0, 87), (0, 80), (0, 84)] (by decide +kernel)
theorem tbX6_addWall : ∀ w ∈ wsX6_addWall, w ∈ lw_tbl := tb_cons (tbC_in 2 _ (List.mem_of_getElem? (i := 134) (by decide +kernel))) (tb_app tboX6_addWall tbn_1)
set_option maxRecDepth 20000 in
theorem tboX6_store : ∀ w ∈ woX6_store, w ∈ lw_tbl := lw_mem3 woX6_store [(0, 79), (0, 77), (2, 131), (2, 133), (7, 12), (0, 4), (1, 107), (0, 1), (2, 135), (2, 88), (6, 41)] (by decide +kernel)
theorem tbX6_store : ∀ w ∈ wsX6_store, w ∈ lw_tbl := tb_cons (tbC_in 2 _ (List.mem_of_getElem? (i := 130) (by decide +kernel))) (tb_app tboX6_store (tb_app tbn_1 (tb_app tbX6_addWall (tb_app tbX10_within tbX6_numbers))))
set_option maxRecDepth 20000 in
theorem tboX7_readPart : ∀ w ∈ woX7_readPart, w ∈ lw_tbl := lw_mem3 woX7_readPart [(0, 42), (0, 46), (1, 217), (1, 218), (0, 18), (0, 41), (0, 40), (1, 237), (1, 239), (7, 7), (0, 2), (2, 1), (2, 3), (2, 4), (2, 5), (0, 11), (2, 8), (2, 9), (0, 4), (2, 12), (2, 14), (7, 8), (0, 19), (0, 20), (0, 21), (0, 22), (2, 68), (2, 70), (7, 10), (1, 220), (1, 222), (1, 223), (1, 224), (1, 226), (1, 227), (2, 72), (2, 74), (2, 75), (2, 76), (2, 78), (2, 79), (2, 81), (2, 83), (2, 84), (2, 85), (2, 87), (2, 88), (0, 1), (2, 93), (2, 95), (2, 96), (2, 97), (2, 99), (2, 100), (2, 102), (2, 104), (2, 105), (2, 106), (2, 111), (2, 112), (2, 116), (2, 118), (7, 11), (1, 229), (1, 231), (7, 5), (2, 122), (2, 124), (2, 125), (2, 126), (2, 128), (2, 129), (6, 41)] (by decide +kernel)
theorem tbX7_readPart : ∀ w ∈ wsX7_readPart, w ∈ lw_tbl := tb_cons (tbC_in 1 _ (List.mem_of_getElem? (i := 236) (by decide +kernel))) (tb_app tboX7_readPart (tb_app tbn_0 (tb_app tbn_1 (tb_app tbn_8 (tb_app tbX7_skipLetters (tb_app tbX5_words (tb_app tbX6_words (tb_app tbX7_kindOf (tb_app tbX7_fail (tb_app tbX5_mostParts (tb_app tbX6_mostParts (tb_app tbX5_isFull (tb_app tbX6_isFull (tb_app tbX5_numbers (tb_app tbX6_numbers (tb_app tbX5_low (tb_app tbX6_low (tb_app tbX5_high (tb_app tbX6_high (tb_app tbX7_readNumber (tb_app tbX7_skipBlanks (tb_app tbX5_store tbX6_store))))))))))))))))))))))
set_option maxRecDepth 20000 in
theorem tboX7_read : ∀ w ∈ woX7_read, w ∈ lw_tbl := lw_mem3 woX7_read [(0, 40), (1, 217), (1, 218), (0, 18), (0, 41), (0, 42), (0, 43), (0, 44), (1, 220), (1, 222), (1, 223), (1, 224), (0, 11), (1, 226), (1, 227), (0, 4), (1, 229), (1, 231), (7, 5), (0, 2), (1, 233), (1, 235), (7, 6), (2, 3), (0, 19), (0, 20), (0, 21), (0, 22), (2, 74), (2, 83), (0, 1), (2, 95), (2, 104), (2, 124)] (by decide +kernel)
theorem tbX7_read : ∀ w ∈ wsX7_read, w ∈ lw_tbl := tb_cons (tbC_in 1 _ (List.mem_of_getElem? (i := 216) (by decide +kernel))) (tb_app tboX7_read (tb_app tbn_0 (tb_app tbn_1 (tb_app tbn_8 (tb_app tbX5_mostParts (tb_app tbX6_mostParts (tb_app tbX7_skipBlanks tbX7_readPart)))))))
set_option maxRecDepth 20000 in
theorem tboX2_forget : ∀ w ∈ woX2_forget, w ∈ lw_tbl := lw_mem3 woX2_forget [(0, 152), (0, 154), (0, 153), (0, 155), (0, 156)] (by decide +kernel)
theorem tbX2_forget : ∀ w ∈ wsX2_forget, w ∈ lw_tbl := tb_cons (tbC_in 2 _ (List.mem_of_getElem? (i := 144) (by decide +kernel))) (tb_app tboX2_forget tbn_4)
set_option maxRecDepth 20000 in
theorem tboX3_clear : ∀ w ∈ woX3_clear, w ∈ lw_tbl := lw_mem3 woX3_clear [(0, 179), (2, 149), (1, 11), (0, 12)] (by decide +kernel)
theorem tbX3_clear : ∀ w ∈ wsX3_clear, w ∈ lw_tbl := tb_cons (tbC_in 2 _ (List.mem_of_getElem? (i := 148) (by decide +kernel))) (tb_app tboX3_clear (tb_app tbn_5 tbJ7_fill_53178))
set_option maxRecDepth 20000 in
theorem tboX8_begin : ∀ w ∈ woX8_begin, w ∈ lw_tbl := lw_mem3 woX8_begin [(0, 186), (0, 190), (0, 192), (2, 140), (1, 7), (1, 8), (0, 6), (0, 12), (2, 141), (2, 142), (2, 143), (0, 8), (2, 145), (2, 146), (2, 147), (0, 9)] (by decide +kernel)
theorem tbX8_begin : ∀ w ∈ wsX8_begin, w ∈ lw_tbl := tb_cons (tbC_in 2 _ (List.mem_of_getElem? (i := 139) (by decide +kernel))) (tb_app tboX8_begin (tb_app tbn_6 (tb_app tbn_2 (tb_app tbn_1 (tb_app tbn_4 (tb_app tbn_5 (tb_app tbX4_begin (tb_app tbX2_forget tbX3_clear))))))))
set_option maxRecDepth 20000 in
theorem tboX10_siege : ∀ w ∈ woX10_siege, w ∈ lw_tbl := lw_mem3 woX10_siege [(1, 14), (1, 17), (1, 15), (1, 13), (1, 16), (1, 19), (1, 22), (1, 20), (0, 90), (1, 141), (1, 143), (7, 3), (0, 1), (0, 17), (1, 212), (0, 74), (0, 75), (0, 4), (1, 213), (1, 214), (1, 215), (0, 2), (1, 218), (0, 18), (1, 222), (0, 11), (2, 3), (0, 19), (0, 20), (0, 21), (0, 22), (2, 74), (2, 83), (2, 95), (2, 104), (2, 124), (2, 136), (2, 137), (2, 138), (0, 5), (0, 6), (0, 12), (0, 8), (0, 9)] (by decide +kernel)
theorem tbX10_siege : ∀ w ∈ wsX10_siege, w ∈ lw_tbl := tb_cons (tbC_in 1 _ (List.mem_of_getElem? (i := 140) (by decide +kernel))) (tb_app tboX10_siege (tb_app tbn_9 (tb_app tbn_1 (tb_app tbn_0 (tb_app tbn_8 (tb_app tbn_6 (tb_app tbn_2 (tb_app tbn_4 (tb_app tbn_5 (tb_app tbX10_demand (tb_app tbX6_clear (tb_app tbX7_read tbX8_begin))))))))))))
set_option maxRecDepth 20000 in
theorem tboL_siege : ∀ w ∈ woL_siege, w ∈ lw_tbl := lw_mem3 woL_siege [(1, 136), (1, 137), (1, 138), (1, 139), (0, 1), (0, 17), (0, 4), (0, 2), (1, 218), (0, 18), (1, 222), (0, 11), (2, 3), (0, 19), (0, 20), (0, 21), (0, 22), (2, 74), (2, 83), (2, 95), (2, 104), (2, 124), (0, 5), (0, 6), (0, 12), (0, 8), (0, 9)] (by decide +kernel)
theorem tbL_siege : ∀ w ∈ wsL_siege, w ∈ lw_tbl := tb_cons (tbC_in 1 _ (List.mem_of_getElem? (i := 135) (by decide +kernel))) (tb_app tboL_siege (tb_app tbn_9 (tb_app tbn_1 (tb_app tbn_0 (tb_app tbn_8 (tb_app tbn_6 (tb_app tbn_2 (tb_app tbn_4 (tb_app tbn_5 tbX10_siege)))))))))
theorem tbX11_in : ∀ w ∈ wsX11_in, w ∈ lw_tbl := tb_cons (tbC_in 4 _ (List.mem_of_getElem? (i := 213) (by decide +kernel))) tb_nil
set_option maxRecDepth 20000 in
theorem tboX11_bad : ∀ w ∈ woX11_bad, w ∈ lw_tbl := lw_mem3 woX11_bad [(4, 93), (4, 102)] (by decide +kernel)
theorem tbX11_bad : ∀ w ∈ wsX11_bad, w ∈ lw_tbl := tb_cons (tbC_in 4 _ (List.mem_of_getElem? (i := 217) (by decide +kernel))) (tb_app tboX11_bad tbn_10)
set_option maxRecDepth 20000 in
theorem tboX11_byteAt : ∀ w ∈ woX11_byteAt, w ∈ lw_tbl := lw_mem3 woX11_byteAt [(4, 95), (4, 101)] (by decide +kernel)
theorem tbX11_byteAt : ∀ w ∈ wsX11_byteAt, w ∈ lw_tbl := tb_cons (tbC_in 4 _ (List.mem_of_getElem? (i := 229) (by decide +kernel))) (tb_app tboX11_byteAt tbn_10)
set_option maxRecDepth 20000 in
theorem tboX11_blanks : ∀ w ∈ woX11_blanks, w ∈ lw_tbl := lw_mem3 woX11_blanks [(4, 97), (4, 226), (4, 228), (7, 42), (0, 13)] (by decide +kernel)
theorem tbX11_blanks : ∀ w ∈ wsX11_blanks, w ∈ lw_tbl := tb_cons (tbC_in 4 _ (List.mem_of_getElem? (i := 225) (by decide +kernel))) (tb_app tboX11_blanks (tb_app tbn_10 tbX11_byteAt))
set_option maxRecDepth 20000 in
theorem tboX11_starts : ∀ w ∈ woX11_starts, w ∈ lw_tbl := lw_mem3 woX11_starts [(4, 94), (4, 95), (4, 97), (4, 98), (4, 99), (4, 100), (4, 222), (4, 224), (7, 41), (0, 13)] (by decide +kernel)
theorem tbX11_starts : ∀ w ∈ wsX11_starts, w ∈ lw_tbl := tb_cons (tbC_in 4 _ (List.mem_of_getElem? (i := 221) (by decide +kernel))) (tb_app tboX11_starts (tb_app tbn_10 tbX11_blanks))
set_option maxRecDepth 20000 in
theorem tboX11_wordHere : ∀ w ∈ woX11_wordHere, w ∈ lw_tbl := lw_mem3 woX11_wordHere [(4, 97), (4, 222), (4, 224), (7, 41), (0, 13), (4, 226), (4, 228), (7, 42)] (by decide +kernel)
theorem tbX11_wordHere : ∀ w ∈ wsX11_wordHere, w ∈ lw_tbl := tb_cons (tbC_in 5 _ (List.mem_of_getElem? (i := 5) (by decide +kernel))) (tb_app tboX11_wordHere (tb_app tbn_10 (tb_app tbX11_blanks tbX11_byteAt)))
theorem tbX11_six : ∀ w ∈ wsX11_six, w ∈ lw_tbl := tb_cons (tbC_in 5 _ (List.mem_of_getElem? (i := 8) (by decide +kernel))) tb_nil
set_option maxRecDepth 20000 in
theorem tboX11_isWord : ∀ w ∈ woX11_isWord, w ∈ lw_tbl := lw_mem3 woX11_isWord [(4, 98), (5, 2), (5, 4), (7, 46), (0, 13), (5, 6), (5, 7)] (by decide +kernel)
theorem tbX11_isWord : ∀ w ∈ wsX11_isWord, w ∈ lw_tbl := tb_cons (tbC_in 5 _ (List.mem_of_getElem? (i := 1) (by decide +kernel))) (tb_app tboX11_isWord (tb_app tbn_10 (tb_app tbX11_wordHere tbX11_six)))
set_option maxRecDepth 20000 in
theorem tboX11_kindHere : ∀ w ∈ woX11_kindHere, w ∈ lw_tbl := lw_mem3 woX11_kindHere [(4, 238), (5, 0), (7, 45), (0, 13)] (by decide +kernel)
theorem tbX11_kindHere : ∀ w ∈ wsX11_kindHere, w ∈ lw_tbl := tb_cons (tbC_in 4 _ (List.mem_of_getElem? (i := 237) (by decide +kernel))) (tb_app tboX11_kindHere (tb_app tbn_10 tbX11_isWord))
set_option maxRecDepth 20000 in
theorem tboX11_wrong : ∀ w ∈ woX11_wrong, w ∈ lw_tbl := lw_mem3 woX11_wrong [(4, 98), (4, 99)] (by decide +kernel)
theorem tbX11_wrong : ∀ w ∈ wsX11_wrong, w ∈ lw_tbl := tb_cons (tbC_in 5 _ (List.mem_of_getElem? (i := 12) (by decide +kernel))) (tb_app tboX11_wrong tbn_10)
set_option maxRecDepth 20000 in
theorem tboX11_skipWord : ∀ w ∈ woX11_skipWord, w ∈ lw_tbl := lw_mem3 woX11_skipWord [(4, 97), (4, 226), (4, 228), (7, 42), (0, 13)] (by decide +kernel)
theorem tbX11_skipWord : ∀ w ∈ wsX11_skipWord, w ∈ lw_tbl := tb_cons (tbC_in 5 _ (List.mem_of_getElem? (i := 16) (by decide +kernel))) (tb_app tboX11_skipWord (tb_app tbn_10 tbX11_byteAt))
theorem tbX11_isDigit : ∀ w ∈ wsX11_isDigit, w ∈ lw_tbl := tb_cons (tbC_in 5 _ (List.mem_of_getElem? (i := 23) (by decide +kernel))) tb_nil
set_option maxRecDepth 20000 in
theorem tboX11_number : ∀ w ∈ woX11_number, w ∈ lw_tbl := lw_mem3 woX11_number [(4, 98), (4, 97), (5, 24), (4, 222), (4, 224), (7, 41), (0, 13), (4, 226), (4, 228), (7, 42), (5, 21), (5, 22), (5, 9), (5, 11), (7, 47), (4, 211), (4, 212)] (by decide +kernel)
theorem tbX11_number : ∀ w ∈ wsX11_number, w ∈ lw_tbl := tb_cons (tbC_in 5 _ (List.mem_of_getElem? (i := 20) (by decide +kernel))) (tb_app tboX11_number (tb_app tbn_10 (tb_app tbX11_blanks (tb_app tbX11_byteAt (tb_app tbX11_isDigit (tb_app tbX11_wrong tbX11_in))))))
set_option maxRecDepth 20000 in
theorem tboX11_closes : ∀ w ∈ woX11_closes, w ∈ lw_tbl := lw_mem3 woX11_closes [(4, 98), (4, 97), (4, 222), (4, 224), (7, 41), (0, 13), (4, 226), (4, 228), (7, 42), (5, 9), (5, 11), (7, 47)] (by decide +kernel)
theorem tbX11_closes : ∀ w ∈ wsX11_closes, w ∈ lw_tbl := tb_cons (tbC_in 5 _ (List.mem_of_getElem? (i := 28) (by decide +kernel))) (tb_app tboX11_closes (tb_app tbn_10 (tb_app tbX11_blanks (tb_app tbX11_byteAt tbX11_wrong))))
set_option maxRecDepth 20000 in
theorem tboX11_clause : ∀ w ∈ woX11_clause, w ∈ lw_tbl := lw_mem3 woX11_clause [(4, 97), (4, 100), (4, 103), (4, 98), (4, 105), (4, 234), (4, 236), (7, 44), (0, 13), (5, 9), (5, 11), (7, 47), (5, 13), (5, 15), (7, 48), (5, 17), (5, 19), (7, 49), (5, 25), (5, 27), (7, 50)] (by decide +kernel)
