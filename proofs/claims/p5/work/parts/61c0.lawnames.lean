def RL : String := "HiredEnemyLaw"
abbrev cL_siege : ByteArray := method_3_code
def yL_siege : MethodName := ⟨RL, "siege", "(LHiredEnemy;I[J)I"⟩
abbrev cL_contract : ByteArray := method_4_code
def yL_contract : MethodName := ⟨RL, "contract", "(LHiredEnemy;I[J)I"⟩
abbrev cL_told : ByteArray := method_5_code
def yL_told : MethodName := ⟨RL, "told", "(LHiredEnemy;I[J)I"⟩
abbrev cL_wall : ByteArray := method_6_code
def yL_wall : MethodName := ⟨RL, "wall", "(LHiredEnemy;II[J)I"⟩
abbrev cL_rule : ByteArray := method_7_code
def yL_rule : MethodName := ⟨RL, "rule", "(LHiredEnemy;II[J)I"⟩
abbrev cL_wants : ByteArray := method_8_code
def yL_wants : MethodName := ⟨RL, "wants", "(LHiredEnemy;II[J)I"⟩
abbrev cL_sign : ByteArray := method_9_code
def yL_sign : MethodName := ⟨RL, "sign", "(LHiredEnemy;I[J)I"⟩
abbrev cL_months : ByteArray := method_10_code
def yL_months : MethodName := ⟨RL, "months", "(LHiredEnemy;I[J)I"⟩
abbrev cL_undo : ByteArray := method_11_code
def yL_undo : MethodName := ⟨RL, "undo", "(LHiredEnemy;I[J)I"⟩
abbrev cL_sums : ByteArray := method_12_code
def yL_sums : MethodName := ⟨RL, "sums", "(LHiredEnemy;I[J)I"⟩
abbrev cL_corks : ByteArray := method_13_code
def yL_corks : MethodName := ⟨RL, "corks", "(LHiredEnemy;II[J)I"⟩
abbrev cL_would : ByteArray := method_14_code
def yL_would : MethodName := ⟨RL, "would", "(LHiredEnemy;III[J)I"⟩
abbrev cL_best : ByteArray := method_15_code
def yL_best : MethodName := ⟨RL, "best", "(LHiredEnemy;II[J)I"⟩
abbrev cL_offer : ByteArray := method_16_code
def yL_offer : MethodName := ⟨RL, "offer", "(LHiredEnemy;II[J)I"⟩
abbrev cL_nearest : ByteArray := method_17_code
def yL_nearest : MethodName := ⟨RL, "nearest", "(LHiredEnemy;II[J)I"⟩
abbrev cL_stop : ByteArray := method_18_code
def yL_stop : MethodName := ⟨RL, "stop", "(LHiredEnemy;II[J)I"⟩
abbrev cL_odds : ByteArray := method_19_code
def yL_odds : MethodName := ⟨RL, "odds", "(LHiredEnemy;II)I"⟩
abbrev cL_kind : ByteArray := method_20_code
def yL_kind : MethodName := ⟨RL, "kind", "(LHiredEnemy;III)I"⟩
abbrev cL_seen : ByteArray := method_21_code
def yL_seen : MethodName := ⟨RL, "seen", "(LHiredEnemy;I[J)I"⟩
abbrev cL_spy : ByteArray := method_22_code
def yL_spy : MethodName := ⟨RL, "spy", "(LHiredEnemy;ZI[J)I"⟩
abbrev cL_believed : ByteArray := method_23_code
def yL_believed : MethodName := ⟨RL, "believed", "(LHiredEnemy;I[J)I"⟩
abbrev cL_earnest : ByteArray := method_24_code
def yL_earnest : MethodName := ⟨RL, "earnest", "(LHiredEnemy;III[J)I"⟩
abbrev cL_stands : ByteArray := method_25_code
def yL_stands : MethodName := ⟨RL, "stands", "(LHiredEnemy;II[J)I"⟩
abbrev cL_show : ByteArray := method_26_code
def yL_show : MethodName := ⟨RL, "show", "(LHiredEnemy;II[J)I"⟩
abbrev cL_offers : ByteArray := method_27_code
def yL_offers : MethodName := ⟨RL, "offers", "(LHiredEnemy;III[J)I"⟩
abbrev cL_serves : ByteArray := method_28_code
def yL_serves : MethodName := ⟨RL, "serves", "(LHiredEnemy;I[J)I"⟩
abbrev cL_law : ByteArray := code
def yL_law : MethodName := ⟨RL, "law", "([I)Z"⟩
def woL_siege : List Cond := [Cond.classLink RL 13 "java/lang/IllegalArgumentException", Cond.methodLink RL 7 yX10_siege, Cond.instanceMethod yX10_siege, Cond.selects RX10 yX10_siege yX10_siege, Cond.initialized RX10, Cond.initialized "java/lang/IllegalArgumentException", Cond.initialized RX6, Cond.initialized RX7, Cond.static Lib.Math.min.name, Cond.initialized "java/lang/Math", Cond.sameMethod "HiredEnemy$Telling" "HiredEnemy$Telling" "mostParts" "()I", Cond.initialized RX5, Cond.sameMethod "HiredEnemy$Telling" "HiredEnemy$Telling" "words" "()Ljava/lang/String;", Cond.initialized RJ0, Cond.initialized RJ1, Cond.initialized RJ3, Cond.initialized RJ2, Cond.sameMethod "HiredEnemy$Telling" "HiredEnemy$Telling" "isFull" "(I)Z", Cond.sameMethod "HiredEnemy$Telling" "HiredEnemy$Telling" "numbers" "(I)I", Cond.sameMethod "HiredEnemy$Telling" "HiredEnemy$Telling" "low" "(II)I", Cond.sameMethod "HiredEnemy$Telling" "HiredEnemy$Telling" "high" "(II)I", Cond.sameMethod "HiredEnemy$Telling" "HiredEnemy$Telling" "store" "(I[I)V", Cond.initialized RX8, Cond.initialized RX4, Cond.initialized RJ7, Cond.initialized RX2, Cond.initialized RX3]
def wsL_siege : List Cond := .codeWith yL_siege cL_siege 4 (some .int) [(0, 9, 12, 13)] :: (woL_siege ++ (wsX100 ++ (wsX60 ++ (wsX70 ++ (wsX50 ++ (wsX80 ++ (wsX40 ++ (wsX20 ++ (wsX30 ++ (wsX10_siege))))))))))
theorem gwoL_siege : gW woL_siege := gW_of (by decide +kernel)
theorem gwL_siege : gW wsL_siege := gW_cons (by decide) (gW_app gwoL_siege (gW_app gwn_9 (gW_app gwn_3 (gW_app gwn_7 (gW_app gwn_6 (gW_app gwn_8 (gW_app gwn_1 (gW_app gwn_4 (gW_app gwn_5 gwX10_siege)))))))))
def woL_contract : List Cond := [Cond.classLink RL 13 "java/lang/IllegalArgumentException", Cond.methodLink RL 15 yX10_contract, Cond.instanceMethod yX10_contract, Cond.selects RX10 yX10_contract yX10_contract, Cond.initialized RX10, Cond.initialized "java/lang/IllegalArgumentException", Cond.initialized RX5, Cond.initialized RJ7, Cond.initialized RX7, Cond.static Lib.Math.min.name, Cond.initialized "java/lang/Math", Cond.sameMethod "HiredEnemy$Telling" "HiredEnemy$Telling" "mostParts" "()I", Cond.initialized RX6, Cond.sameMethod "HiredEnemy$Telling" "HiredEnemy$Telling" "words" "()Ljava/lang/String;", Cond.initialized RJ0, Cond.initialized RJ1, Cond.initialized RJ3, Cond.initialized RJ2, Cond.sameMethod "HiredEnemy$Telling" "HiredEnemy$Telling" "isFull" "(I)Z", Cond.sameMethod "HiredEnemy$Telling" "HiredEnemy$Telling" "numbers" "(I)I", Cond.sameMethod "HiredEnemy$Telling" "HiredEnemy$Telling" "low" "(II)I", Cond.sameMethod "HiredEnemy$Telling" "HiredEnemy$Telling" "high" "(II)I", Cond.sameMethod "HiredEnemy$Telling" "HiredEnemy$Telling" "store" "(I[I)V"]
def wsL_contract : List Cond := .codeWith yL_contract cL_contract 4 (some .int) [(0, 9, 12, 13)] :: (woL_contract ++ (wsX100 ++ (wsX70 ++ (wsX60 ++ (wsX50 ++ (wsX10_contract))))))
theorem gwoL_contract : gW woL_contract := gW_of (by decide +kernel)
theorem gwL_contract : gW wsL_contract := gW_cons (by decide) (gW_app gwoL_contract (gW_app gwn_9 (gW_app gwn_7 (gW_app gwn_3 (gW_app gwn_6 gwX10_contract)))))
def woL_told : List Cond := [Cond.classLink RL 13 "java/lang/IllegalArgumentException", Cond.methodLink RL 18 yX10_told, Cond.instanceMethod yX10_told, Cond.selects RX10 yX10_told yX10_told, Cond.initialized RX10, Cond.initialized "java/lang/IllegalArgumentException"]
def wsL_told : List Cond := .codeWith yL_told cL_told 4 (some .int) [(0, 9, 12, 13)] :: (woL_told ++ (wsX100 ++ (wsX80 ++ (wsX40 ++ (wsX60 ++ (wsX10_told))))))
theorem gwoL_told : gW woL_told := gW_of (by decide +kernel)
theorem gwL_told : gW wsL_told := gW_cons (by decide) (gW_app gwoL_told (gW_app gwn_9 (gW_app gwn_8 (gW_app gwn_1 (gW_app gwn_3 gwX10_told)))))
def woL_wall : List Cond := [Cond.classLink RL 25 "java/lang/IndexOutOfBoundsException", Cond.classLink RL 13 "java/lang/IllegalArgumentException", Cond.methodLink RL 21 yX10_wall, Cond.instanceMethod yX10_wall, Cond.selects RX10 yX10_wall yX10_wall, Cond.initialized RX10, Cond.initialized "java/lang/IndexOutOfBoundsException", Cond.initialized "java/lang/IllegalArgumentException"]
def wsL_wall : List Cond := .codeWith yL_wall cL_wall 5 (some .int) [(0, 10, 13, 25), (0, 10, 17, 13)] :: (woL_wall ++ (wsX100 ++ (wsX60 ++ (wsX80 ++ (wsX40 ++ (wsX10_wall))))))
theorem gwoL_wall : gW woL_wall := gW_of (by decide +kernel)
theorem gwL_wall : gW wsL_wall := gW_cons (by decide) (gW_app gwoL_wall (gW_app gwn_9 (gW_app gwn_3 (gW_app gwn_8 (gW_app gwn_1 gwX10_wall)))))
def woL_rule : List Cond := [Cond.classLink RL 30 "java/util/NoSuchElementException", Cond.classLink RL 13 "java/lang/IllegalArgumentException", Cond.methodLink RL 27 yX10_rule, Cond.instanceMethod yX10_rule, Cond.selects RX10 yX10_rule yX10_rule, Cond.initialized RX10, Cond.initialized "java/util/NoSuchElementException", Cond.initialized "java/lang/IllegalArgumentException", Cond.initialized RX5]
def wsL_rule : List Cond := .codeWith yL_rule cL_rule 5 (some .int) [(0, 10, 13, 30), (0, 10, 17, 13)] :: (woL_rule ++ (wsX100 ++ (wsX50 ++ (wsX10_rule))))
theorem gwoL_rule : gW woL_rule := gW_of (by decide +kernel)
theorem gwL_rule : gW wsL_rule := gW_cons (by decide) (gW_app gwoL_rule (gW_app gwn_9 (gW_app gwn_6 gwX10_rule)))
def woL_wants : List Cond := [Cond.classLink RL 13 "java/lang/IllegalArgumentException", Cond.methodLink RL 32 yX10_wants, Cond.instanceMethod yX10_wants, Cond.selects RX10 yX10_wants yX10_wants, Cond.initialized RX10, Cond.initialized "java/lang/IllegalArgumentException", Cond.initialized RX6]
def wsL_wants : List Cond := .codeWith yL_wants cL_wants 5 (some .int) [(0, 10, 13, 13)] :: (woL_wants ++ (wsX100 ++ (wsX60 ++ (wsX10_wants))))
theorem gwoL_wants : gW woL_wants := gW_of (by decide +kernel)
theorem gwL_wants : gW wsL_wants := gW_cons (by decide) (gW_app gwoL_wants (gW_app gwn_9 (gW_app gwn_3 gwX10_wants)))
def woL_sign : List Cond := [Cond.classLink RL 30 "java/util/NoSuchElementException", Cond.methodLink RL 35 yX10_sign, Cond.instanceMethod yX10_sign, Cond.selects RX10 yX10_sign yX10_sign, Cond.initialized RX10, Cond.initialized "java/util/NoSuchElementException", Cond.initialized RX4]
def wsL_sign : List Cond := .codeWith yL_sign cL_sign 4 (some .int) [(0, 9, 12, 30)] :: (woL_sign ++ (wsX100 ++ (wsX80 ++ (wsX40 ++ (wsX10_sign)))))
theorem gwoL_sign : gW woL_sign := gW_of (by decide +kernel)
theorem gwL_sign : gW wsL_sign := gW_cons (by decide) (gW_app gwoL_sign (gW_app gwn_9 (gW_app gwn_8 (gW_app gwn_1 gwX10_sign))))
def woL_months : List Cond := [Cond.classLink RL 13 "java/lang/IllegalArgumentException", Cond.methodLink RL 38 yX10_months, Cond.instanceMethod yX10_months, Cond.selects RX10 yX10_months yX10_months, Cond.initialized RX10, Cond.initialized "java/lang/IllegalArgumentException", Cond.initialized RX0, Cond.native arraycopyName, Cond.static arraycopyName, Cond.initialized "java/lang/System", Cond.initialized RX4, Cond.static Lib.Math.max.name, Cond.initialized "java/lang/Math", Cond.initialized RJ7, Cond.static Lib.Math.min.name, Cond.initialized RX5, Cond.initialized RX6, Cond.static Lib.Math.abs.name]
def wsL_months : List Cond := .codeWith yL_months cL_months 4 (some .int) [(0, 9, 12, 13)] :: (woL_months ++ (wsX100 ++ (wsX80 ++ (wsX40 ++ (wsX00 ++ (wsX60 ++ (wsX50 ++ (wsX10_months))))))))
theorem gwoL_months : gW woL_months := gW_of (by decide +kernel)
theorem gwL_months : gW wsL_months := gW_cons (by decide) (gW_app gwoL_months (gW_app gwn_9 (gW_app gwn_8 (gW_app gwn_1 (gW_app gwn_0 (gW_app gwn_3 (gW_app gwn_6 gwX10_months)))))))
def woL_undo : List Cond := [Cond.classLink RL 13 "java/lang/IllegalArgumentException", Cond.methodLink RL 41 yX10_undo, Cond.instanceMethod yX10_undo, Cond.selects RX10 yX10_undo yX10_undo, Cond.initialized RX10, Cond.static Lib.Math.min.name, Cond.initialized "java/lang/Math", Cond.initialized "java/lang/IllegalArgumentException", Cond.initialized RX0, Cond.native arraycopyName, Cond.static arraycopyName, Cond.initialized "java/lang/System"]
def wsL_undo : List Cond := .codeWith yL_undo cL_undo 4 (some .int) [(0, 9, 12, 13)] :: (woL_undo ++ (wsX100 ++ (wsX80 ++ (wsX40 ++ (wsX00 ++ (wsX10_undo))))))
theorem gwoL_undo : gW woL_undo := gW_of (by decide +kernel)
theorem gwL_undo : gW wsL_undo := gW_cons (by decide) (gW_app gwoL_undo (gW_app gwn_9 (gW_app gwn_8 (gW_app gwn_1 (gW_app gwn_0 gwX10_undo)))))
def woL_sums : List Cond := [Cond.classLink RL 13 "java/lang/IllegalArgumentException", Cond.methodLink RL 44 yX10_sums, Cond.instanceMethod yX10_sums, Cond.selects RX10 yX10_sums yX10_sums, Cond.initialized RX10, Cond.initialized "java/lang/IllegalArgumentException"]
def wsL_sums : List Cond := .codeWith yL_sums cL_sums 4 (some .int) [(0, 9, 12, 13)] :: (woL_sums ++ (wsX100 ++ (wsX80 ++ (wsX40 ++ (wsX10_sums)))))
theorem gwoL_sums : gW woL_sums := gW_of (by decide +kernel)
theorem gwL_sums : gW wsL_sums := gW_cons (by decide) (gW_app gwoL_sums (gW_app gwn_9 (gW_app gwn_8 (gW_app gwn_1 gwX10_sums))))
def woL_corks : List Cond := [Cond.classLink RL 25 "java/lang/IndexOutOfBoundsException", Cond.classLink RL 13 "java/lang/IllegalArgumentException", Cond.methodLink RL 47 yX10_corks, Cond.instanceMethod yX10_corks, Cond.selects RX10 yX10_corks yX10_corks, Cond.initialized RX10, Cond.initialized "java/lang/IndexOutOfBoundsException", Cond.initialized "java/lang/IllegalArgumentException", Cond.initialized RX0]
def wsL_corks : List Cond := .codeWith yL_corks cL_corks 5 (some .int) [(0, 10, 13, 25), (0, 10, 17, 13)] :: (woL_corks ++ (wsX100 ++ (wsX80 ++ (wsX40 ++ (wsX60 ++ (wsX00 ++ (wsX10_corks)))))))
theorem gwoL_corks : gW woL_corks := gW_of (by decide +kernel)
theorem gwL_corks : gW wsL_corks := gW_cons (by decide) (gW_app gwoL_corks (gW_app gwn_9 (gW_app gwn_8 (gW_app gwn_1 (gW_app gwn_3 (gW_app gwn_0 gwX10_corks))))))
def woL_would : List Cond := [Cond.classLink RL 30 "java/util/NoSuchElementException", Cond.classLink RL 13 "java/lang/IllegalArgumentException", Cond.methodLink RL 50 yX10_would, Cond.instanceMethod yX10_would, Cond.selects RX10 yX10_would yX10_would, Cond.initialized RX10, Cond.initialized "java/util/NoSuchElementException", Cond.initialized "java/lang/IllegalArgumentException", Cond.initialized RX4, Cond.native arraycopyName, Cond.static arraycopyName, Cond.initialized "java/lang/System", Cond.static Lib.Math.max.name, Cond.initialized "java/lang/Math", Cond.initialized RJ7, Cond.static Lib.Math.min.name, Cond.initialized RX5, Cond.initialized RX6, Cond.static Lib.Math.abs.name]
def wsL_would : List Cond := .codeWith yL_would cL_would 6 (some .int) [(0, 12, 15, 30), (0, 12, 19, 13)] :: (woL_would ++ (wsX100 ++ (wsX40 ++ (wsX80 ++ (wsX60 ++ (wsX50 ++ (wsX10_would)))))))
theorem gwoL_would : gW woL_would := gW_of (by decide +kernel)
theorem gwL_would : gW wsL_would := gW_cons (by decide) (gW_app gwoL_would (gW_app gwn_9 (gW_app gwn_1 (gW_app gwn_8 (gW_app gwn_3 (gW_app gwn_6 gwX10_would))))))
def woL_best : List Cond := [Cond.classLink RL 13 "java/lang/IllegalArgumentException", Cond.methodLink RL 54 yX10_best, Cond.instanceMethod yX10_best, Cond.selects RX10 yX10_best yX10_best, Cond.initialized RX10, Cond.initialized "java/lang/IllegalArgumentException", Cond.initialized RX4, Cond.native arraycopyName, Cond.static arraycopyName, Cond.initialized "java/lang/System", Cond.static Lib.Math.max.name, Cond.initialized "java/lang/Math", Cond.initialized RJ7, Cond.static Lib.Math.min.name, Cond.initialized RX5, Cond.initialized RX6, Cond.static Lib.Math.abs.name]
def wsL_best : List Cond := .codeWith yL_best cL_best 5 (some .int) [(0, 10, 13, 13)] :: (woL_best ++ (wsX100 ++ (wsX80 ++ (wsX40 ++ (wsX60 ++ (wsX50 ++ (wsX10_best)))))))
theorem gwoL_best : gW woL_best := gW_of (by decide +kernel)
theorem gwL_best : gW wsL_best := gW_cons (by decide) (gW_app gwoL_best (gW_app gwn_9 (gW_app gwn_8 (gW_app gwn_1 (gW_app gwn_3 (gW_app gwn_6 gwX10_best))))))
def woL_offer : List Cond := [Cond.classLink RL 13 "java/lang/IllegalArgumentException", Cond.methodLink RL 57 yX10_offer, Cond.instanceMethod yX10_offer, Cond.selects RX10 yX10_offer yX10_offer, Cond.initialized RX10, Cond.initialized "java/lang/IllegalArgumentException", Cond.initialized RX6, Cond.initialized RX5, Cond.initialized RJ7, Cond.initialized RX4, Cond.native arraycopyName, Cond.static arraycopyName, Cond.initialized "java/lang/System", Cond.static Lib.Math.max.name, Cond.initialized "java/lang/Math", Cond.static Lib.Math.min.name, Cond.static Lib.Math.abs.name]
def wsL_offer : List Cond := .codeWith yL_offer cL_offer 5 (some .int) [(0, 10, 13, 13)] :: (woL_offer ++ (wsX100 ++ (wsX60 ++ (wsX50 ++ (wsX80 ++ (wsX40 ++ (wsX10_offer)))))))
theorem gwoL_offer : gW woL_offer := gW_of (by decide +kernel)
theorem gwL_offer : gW wsL_offer := gW_cons (by decide) (gW_app gwoL_offer (gW_app gwn_9 (gW_app gwn_3 (gW_app gwn_6 (gW_app gwn_8 (gW_app gwn_1 gwX10_offer))))))
def woL_nearest : List Cond := [Cond.classLink RL 13 "java/lang/IllegalArgumentException", Cond.methodLink RL 60 yX10_nearest, Cond.instanceMethod yX10_nearest, Cond.selects RX10 yX10_nearest yX10_nearest, Cond.initialized RX10, Cond.initialized "java/lang/IllegalArgumentException", Cond.initialized RX6]
def wsL_nearest : List Cond := .codeWith yL_nearest cL_nearest 5 (some .int) [(0, 10, 13, 13)] :: (woL_nearest ++ (wsX100 ++ (wsX60 ++ (wsX10_nearest))))
theorem gwoL_nearest : gW woL_nearest := gW_of (by decide +kernel)
theorem gwL_nearest : gW wsL_nearest := gW_cons (by decide) (gW_app gwoL_nearest (gW_app gwn_9 (gW_app gwn_3 gwX10_nearest)))
def woL_stop : List Cond := [Cond.classLink RL 13 "java/lang/IllegalArgumentException", Cond.methodLink RL 63 yX10_stop, Cond.instanceMethod yX10_stop, Cond.selects RX10 yX10_stop yX10_stop, Cond.initialized RX10, Cond.initialized "java/lang/IllegalArgumentException", Cond.initialized RX4, Cond.native arraycopyName, Cond.static arraycopyName, Cond.initialized "java/lang/System", Cond.static Lib.Math.max.name, Cond.initialized "java/lang/Math", Cond.initialized RJ7, Cond.static Lib.Math.min.name, Cond.initialized RX5, Cond.initialized RX6, Cond.static Lib.Math.abs.name]
def wsL_stop : List Cond := .codeWith yL_stop cL_stop 5 (some .int) [(0, 10, 13, 13)] :: (woL_stop ++ (wsX100 ++ (wsX80 ++ (wsX40 ++ (wsX60 ++ (wsX50 ++ (wsX10_stop)))))))
theorem gwoL_stop : gW woL_stop := gW_of (by decide +kernel)
theorem gwL_stop : gW wsL_stop := gW_cons (by decide) (gW_app gwoL_stop (gW_app gwn_9 (gW_app gwn_8 (gW_app gwn_1 (gW_app gwn_3 (gW_app gwn_6 gwX10_stop))))))
def woL_odds : List Cond := [Cond.classLink RL 13 "java/lang/IllegalArgumentException", Cond.methodLink RL 66 yX10_odds, Cond.instanceMethod yX10_odds, Cond.selects RX10 yX10_odds yX10_odds, Cond.initialized RX10, Cond.initialized "java/lang/IllegalArgumentException", Cond.initialized RX2]
def wsL_odds : List Cond := .codeWith yL_odds cL_odds 4 (some .int) [(0, 6, 9, 13)] :: (woL_odds ++ (wsX100 ++ (wsX80 ++ (wsX20 ++ (wsX10_odds)))))
theorem gwoL_odds : gW woL_odds := gW_of (by decide +kernel)
theorem gwL_odds : gW wsL_odds := gW_cons (by decide) (gW_app gwoL_odds (gW_app gwn_9 (gW_app gwn_8 (gW_app gwn_4 gwX10_odds))))
def woL_kind : List Cond := [Cond.classLink RL 13 "java/lang/IllegalArgumentException", Cond.methodLink RL 70 yX10_kind, Cond.instanceMethod yX10_kind, Cond.selects RX10 yX10_kind yX10_kind, Cond.initialized RX10, Cond.initialized "java/lang/IllegalArgumentException"]
def wsL_kind : List Cond := .codeWith yL_kind cL_kind 5 (some .int) [(0, 7, 10, 13)] :: (woL_kind ++ (wsX100 ++ (wsX80 ++ (wsX20 ++ (wsX10_kind)))))
theorem gwoL_kind : gW woL_kind := gW_of (by decide +kernel)
theorem gwL_kind : gW wsL_kind := gW_cons (by decide) (gW_app gwoL_kind (gW_app gwn_9 (gW_app gwn_8 (gW_app gwn_4 gwX10_kind))))
def woL_seen : List Cond := [Cond.classLink RL 13 "java/lang/IllegalArgumentException", Cond.methodLink RL 74 yX10_seen, Cond.instanceMethod yX10_seen, Cond.selects RX10 yX10_seen yX10_seen, Cond.initialized RX10, Cond.initialized "java/lang/IllegalArgumentException", Cond.initialized RX2]
def wsL_seen : List Cond := .codeWith yL_seen cL_seen 4 (some .int) [(0, 9, 12, 13)] :: (woL_seen ++ (wsX100 ++ (wsX80 ++ (wsX20 ++ (wsX10_seen)))))
theorem gwoL_seen : gW woL_seen := gW_of (by decide +kernel)
theorem gwL_seen : gW wsL_seen := gW_cons (by decide) (gW_app gwoL_seen (gW_app gwn_9 (gW_app gwn_8 (gW_app gwn_4 gwX10_seen))))
def woL_spy : List Cond := [Cond.classLink RL 13 "java/lang/IllegalArgumentException", Cond.methodLink RL 77 yX10_spy, Cond.instanceMethod yX10_spy, Cond.selects RX10 yX10_spy yX10_spy, Cond.initialized RX10, Cond.initialized "java/lang/IllegalArgumentException", Cond.initialized RX2]
def wsL_spy : List Cond := .codeWith yL_spy cL_spy 5 (some .int) [(0, 10, 13, 13)] :: (woL_spy ++ (wsX100 ++ (wsX80 ++ (wsX20 ++ (wsX10_spy)))))
theorem gwoL_spy : gW woL_spy := gW_of (by decide +kernel)
theorem gwL_spy : gW wsL_spy := gW_cons (by decide) (gW_app gwoL_spy (gW_app gwn_9 (gW_app gwn_8 (gW_app gwn_4 gwX10_spy))))
def woL_believed : List Cond := [Cond.classLink RL 13 "java/lang/IllegalArgumentException", Cond.methodLink RL 81 yX10_believed, Cond.instanceMethod yX10_believed, Cond.selects RX10 yX10_believed yX10_believed, Cond.initialized RX10, Cond.initialized "java/lang/IllegalArgumentException", Cond.initialized RX2]
def wsL_believed : List Cond := .codeWith yL_believed cL_believed 4 (some .int) [(0, 8, 11, 13)] :: (woL_believed ++ (wsX100 ++ (wsX80 ++ (wsX20 ++ (wsX10_believed)))))
theorem gwoL_believed : gW woL_believed := gW_of (by decide +kernel)
theorem gwL_believed : gW wsL_believed := gW_cons (by decide) (gW_app gwoL_believed (gW_app gwn_9 (gW_app gwn_8 (gW_app gwn_4 gwX10_believed))))
def woL_earnest : List Cond := [Cond.classLink RL 13 "java/lang/IllegalArgumentException", Cond.methodLink RL 85 yX10_earnest, Cond.instanceMethod yX10_earnest, Cond.selects RX10 yX10_earnest yX10_earnest, Cond.initialized RX10, Cond.initialized "java/lang/IllegalArgumentException", Cond.initialized RX1, Cond.static Lib.Math.min.name, Cond.initialized "java/lang/Math", Cond.static Lib.Math.max.name]
def wsL_earnest : List Cond := .codeWith yL_earnest cL_earnest 6 (some .int) [(0, 12, 15, 13)] :: (woL_earnest ++ (wsX100 ++ (wsX60 ++ (wsX10 ++ (wsX10_earnest)))))
theorem gwoL_earnest : gW woL_earnest := gW_of (by decide +kernel)
theorem gwL_earnest : gW wsL_earnest := gW_cons (by decide) (gW_app gwoL_earnest (gW_app gwn_9 (gW_app gwn_3 (gW_app gwn_2 gwX10_earnest))))
def woL_stands : List Cond := [Cond.classLink RL 13 "java/lang/IllegalArgumentException", Cond.methodLink RL 88 yX10_stands, Cond.instanceMethod yX10_stands, Cond.selects RX10 yX10_stands yX10_stands, Cond.initialized RX10, Cond.initialized "java/lang/IllegalArgumentException", Cond.initialized RX1, Cond.static Lib.Math.min.name, Cond.initialized "java/lang/Math", Cond.static Lib.Math.max.name]
def wsL_stands : List Cond := .codeWith yL_stands cL_stands 5 (some .int) [(0, 10, 13, 13)] :: (woL_stands ++ (wsX100 ++ (wsX10 ++ (wsX60 ++ (wsX10_stands)))))
theorem gwoL_stands : gW woL_stands := gW_of (by decide +kernel)
theorem gwL_stands : gW wsL_stands := gW_cons (by decide) (gW_app gwoL_stands (gW_app gwn_9 (gW_app gwn_2 (gW_app gwn_3 gwX10_stands))))
def woL_show : List Cond := [Cond.classLink RL 13 "java/lang/IllegalArgumentException", Cond.methodLink RL 91 yX10_show, Cond.instanceMethod yX10_show, Cond.selects RX10 yX10_show yX10_show, Cond.initialized RX10, Cond.initialized "java/lang/IllegalArgumentException", Cond.initialized RX1, Cond.static Lib.Math.min.name, Cond.initialized "java/lang/Math", Cond.static Lib.Math.max.name]
def wsL_show : List Cond := .codeWith yL_show cL_show 5 (some .int) [(0, 10, 13, 13)] :: (woL_show ++ (wsX100 ++ (wsX10 ++ (wsX60 ++ (wsX10_show)))))
theorem gwoL_show : gW woL_show := gW_of (by decide +kernel)
theorem gwL_show : gW wsL_show := gW_cons (by decide) (gW_app gwoL_show (gW_app gwn_9 (gW_app gwn_2 (gW_app gwn_3 gwX10_show))))
def woL_offers : List Cond := [Cond.classLink RL 13 "java/lang/IllegalArgumentException", Cond.methodLink RL 94 yX10_offers, Cond.instanceMethod yX10_offers, Cond.selects RX10 yX10_offers yX10_offers, Cond.initialized RX10, Cond.initialized "java/lang/IllegalArgumentException", Cond.initialized RX3]
def wsL_offers : List Cond := .codeWith yL_offers cL_offers 6 (some .int) [(0, 12, 15, 13)] :: (woL_offers ++ (wsX100 ++ (wsX80 ++ (wsX30 ++ (wsX10_offers)))))
theorem gwoL_offers : gW woL_offers := gW_of (by decide +kernel)
theorem gwL_offers : gW wsL_offers := gW_cons (by decide) (gW_app gwoL_offers (gW_app gwn_9 (gW_app gwn_8 (gW_app gwn_5 gwX10_offers))))
def woL_serves : List Cond := [Cond.classLink RL 13 "java/lang/IllegalArgumentException", Cond.methodLink RL 97 yX10_serves, Cond.instanceMethod yX10_serves, Cond.selects RX10 yX10_serves yX10_serves, Cond.initialized RX10, Cond.initialized "java/lang/IllegalArgumentException", Cond.initialized RX3, Cond.static Lib.Math.max.name, Cond.initialized "java/lang/Math"]
def wsL_serves : List Cond := .codeWith yL_serves cL_serves 4 (some .int) [(0, 9, 12, 13)] :: (woL_serves ++ (wsX100 ++ (wsX80 ++ (wsX30 ++ (wsX10_serves)))))
theorem gwoL_serves : gW woL_serves := gW_of (by decide +kernel)
theorem gwL_serves : gW wsL_serves := gW_cons (by decide) (gW_app gwoL_serves (gW_app gwn_9 (gW_app gwn_8 (gW_app gwn_5 gwX10_serves))))
def woL_law : List Cond := [Cond.classLink RL 8 RX10, Cond.instantiable RX10 13, Cond.initialized RX10, Cond.classLink RL 101 RX11, Cond.instantiable RX11 35, Cond.initialized RX11, Cond.arrayClass .long, Cond.methodLink RL 100 yX10_init, Cond.instanceMethod yX10_init, Cond.instanceMethod objectInit, Cond.arrayClass .byte, Cond.instantiable RX7 6, Cond.initialized RX7, Cond.instantiable RX6 5, Cond.initialized RX6, Cond.instantiable RX8 4, Cond.initialized RX8, Cond.instantiable RX4 3, Cond.initialized RX4, Cond.instantiable RX1 5, Cond.initialized RX1, Cond.arrayClass .int, Cond.instantiable RX5 3, Cond.initialized RX5, Cond.initialized RX9, Cond.instantiable RX0 1, Cond.initialized RX0, Cond.instantiable RX2 7, Cond.initialized RX2, Cond.instantiable RX3 2, Cond.initialized RX3, Cond.initialized RJ7, Cond.methodLink RL 103 yX11_init, Cond.instanceMethod yX11_init, Cond.methodLink RL 104 yX10_feed, Cond.instanceMethod yX10_feed, Cond.selects RX10 yX10_feed yX10_feed, Cond.methodLink RL 108 yX11_feed, Cond.instanceMethod yX11_feed, Cond.selects RX11 yX11_feed yX11_feed, Cond.methodLink RL 109 yL_siege, Cond.static yL_siege, Cond.initialized RL, Cond.classLink RL 13 "java/lang/IllegalArgumentException", Cond.methodLink RL 7 yX10_siege, Cond.initialized "java/lang/IllegalArgumentException", Cond.static Lib.Math.min.name, Cond.initialized "java/lang/Math", Cond.sameMethod "HiredEnemy$Telling" "HiredEnemy$Telling" "mostParts" "()I", Cond.sameMethod "HiredEnemy$Telling" "HiredEnemy$Telling" "words" "()Ljava/lang/String;", Cond.initialized RJ0, Cond.initialized RJ1, Cond.initialized RJ3, Cond.initialized RJ2, Cond.sameMethod "HiredEnemy$Telling" "HiredEnemy$Telling" "isFull" "(I)Z", Cond.sameMethod "HiredEnemy$Telling" "HiredEnemy$Telling" "numbers" "(I)I", Cond.sameMethod "HiredEnemy$Telling" "HiredEnemy$Telling" "low" "(II)I", Cond.sameMethod "HiredEnemy$Telling" "HiredEnemy$Telling" "high" "(II)I", Cond.sameMethod "HiredEnemy$Telling" "HiredEnemy$Telling" "store" "(I[I)V", Cond.methodLink RL 114 yX11_siege, Cond.instanceMethod yX11_siege, Cond.selects RX11 yX11_siege yX11_siege, Cond.methodLink RL 115 yL_contract, Cond.static yL_contract, Cond.methodLink RL 15 yX10_contract, Cond.methodLink RL 117 yX11_contract, Cond.instanceMethod yX11_contract, Cond.selects RX11 yX11_contract yX11_contract, Cond.methodLink RL 118 yX10_fault, Cond.instanceMethod yX10_fault, Cond.selects RX10 yX10_fault yX10_fault, Cond.methodLink RL 122 yX11_fault, Cond.instanceMethod yX11_fault, Cond.selects RX11 yX11_fault yX11_fault, Cond.methodLink RL 123 yL_told, Cond.static yL_told, Cond.methodLink RL 18 yX10_told, Cond.methodLink RL 125 yX11_told, Cond.instanceMethod yX11_told, Cond.selects RX11 yX11_told yX11_told, Cond.methodLink RL 126 yL_wall, Cond.static yL_wall, Cond.classLink RL 25 "java/lang/IndexOutOfBoundsException", Cond.methodLink RL 21 yX10_wall, Cond.initialized "java/lang/IndexOutOfBoundsException", Cond.methodLink RL 129 yX11_wall, Cond.instanceMethod yX11_wall, Cond.selects RX11 yX11_wall yX11_wall, Cond.methodLink RL 130 yL_rule, Cond.static yL_rule, Cond.classLink RL 30 "java/util/NoSuchElementException", Cond.methodLink RL 27 yX10_rule, Cond.initialized "java/util/NoSuchElementException", Cond.methodLink RL 132 yX11_rule, Cond.instanceMethod yX11_rule, Cond.selects RX11 yX11_rule yX11_rule, Cond.methodLink RL 133 yL_wants, Cond.static yL_wants, Cond.methodLink RL 32 yX10_wants, Cond.methodLink RL 135 yX11_wants, Cond.instanceMethod yX11_wants, Cond.selects RX11 yX11_wants yX11_wants, Cond.methodLink RL 136 yL_sign, Cond.static yL_sign, Cond.methodLink RL 35 yX10_sign, Cond.methodLink RL 138 yX11_sign, Cond.instanceMethod yX11_sign, Cond.selects RX11 yX11_sign yX11_sign, Cond.methodLink RL 139 yL_months, Cond.static yL_months, Cond.methodLink RL 38 yX10_months, Cond.native arraycopyName, Cond.static arraycopyName, Cond.initialized "java/lang/System", Cond.static Lib.Math.max.name, Cond.static Lib.Math.abs.name, Cond.methodLink RL 141 yX11_months, Cond.instanceMethod yX11_months, Cond.selects RX11 yX11_months yX11_months, Cond.methodLink RL 142 yL_undo, Cond.static yL_undo, Cond.methodLink RL 41 yX10_undo, Cond.methodLink RL 144 yX11_undo, Cond.instanceMethod yX11_undo, Cond.selects RX11 yX11_undo yX11_undo, Cond.methodLink RL 145 yL_sums, Cond.static yL_sums, Cond.methodLink RL 44 yX10_sums, Cond.methodLink RL 147 yX11_sums, Cond.instanceMethod yX11_sums, Cond.selects RX11 yX11_sums yX11_sums, Cond.methodLink RL 148 yL_corks, Cond.static yL_corks, Cond.methodLink RL 47 yX10_corks, Cond.methodLink RL 150 yX11_corks, Cond.instanceMethod yX11_corks, Cond.selects RX11 yX11_corks yX11_corks, Cond.methodLink RL 151 yL_would, Cond.static yL_would, Cond.methodLink RL 50 yX10_would, Cond.methodLink RL 154 yX11_would, Cond.instanceMethod yX11_would, Cond.selects RX11 yX11_would yX11_would, Cond.methodLink RL 155 yL_best, Cond.static yL_best, Cond.methodLink RL 54 yX10_best, Cond.methodLink RL 157 yX11_best, Cond.instanceMethod yX11_best, Cond.selects RX11 yX11_best yX11_best, Cond.methodLink RL 158 yL_offer, Cond.static yL_offer, Cond.methodLink RL 57 yX10_offer, Cond.methodLink RL 160 yX11_offer, Cond.instanceMethod yX11_offer, Cond.selects RX11 yX11_offer yX11_offer, Cond.methodLink RL 161 yL_nearest, Cond.static yL_nearest, Cond.methodLink RL 60 yX10_nearest, Cond.methodLink RL 163 yX11_nearest, Cond.instanceMethod yX11_nearest, Cond.selects RX11 yX11_nearest yX11_nearest, Cond.methodLink RL 164 yL_stop, Cond.static yL_stop, Cond.methodLink RL 63 yX10_stop, Cond.methodLink RL 166 yX11_stop, Cond.instanceMethod yX11_stop, Cond.selects RX11 yX11_stop yX11_stop, Cond.methodLink RL 167 yL_odds, Cond.static yL_odds, Cond.methodLink RL 66 yX10_odds, Cond.methodLink RL 170 yX11_odds, Cond.instanceMethod yX11_odds, Cond.selects RX11 yX11_odds yX11_odds, Cond.methodLink RL 171 yL_kind, Cond.static yL_kind, Cond.methodLink RL 70 yX10_kind, Cond.methodLink RL 174 yX11_kind, Cond.instanceMethod yX11_kind, Cond.selects RX11 yX11_kind yX11_kind, Cond.methodLink RL 175 yL_seen, Cond.static yL_seen, Cond.methodLink RL 74 yX10_seen, Cond.methodLink RL 177 yX11_seen, Cond.instanceMethod yX11_seen, Cond.selects RX11 yX11_seen yX11_seen, Cond.methodLink RL 178 yL_spy, Cond.static yL_spy, Cond.methodLink RL 77 yX10_spy, Cond.methodLink RL 181 yX11_spy, Cond.instanceMethod yX11_spy, Cond.selects RX11 yX11_spy yX11_spy, Cond.methodLink RL 182 yL_believed, Cond.static yL_believed, Cond.methodLink RL 81 yX10_believed, Cond.methodLink RL 184 yX11_believed, Cond.instanceMethod yX11_believed, Cond.selects RX11 yX11_believed yX11_believed, Cond.methodLink RL 185 yL_earnest, Cond.static yL_earnest, Cond.methodLink RL 85 yX10_earnest, Cond.methodLink RL 187 yX11_earnest, Cond.instanceMethod yX11_earnest, Cond.selects RX11 yX11_earnest yX11_earnest, Cond.methodLink RL 188 yL_stands, Cond.static yL_stands, Cond.methodLink RL 88 yX10_stands, Cond.methodLink RL 190 yX11_stands, Cond.instanceMethod yX11_stands, Cond.selects RX11 yX11_stands yX11_stands, Cond.methodLink RL 191 yL_show, Cond.static yL_show, Cond.methodLink RL 91 yX10_show, Cond.methodLink RL 193 yX11_show, Cond.instanceMethod yX11_show, Cond.selects RX11 yX11_show yX11_show, Cond.methodLink RL 194 yL_offers, Cond.static yL_offers, Cond.methodLink RL 94 yX10_offers, Cond.methodLink RL 196 yX11_offers, Cond.instanceMethod yX11_offers, Cond.selects RX11 yX11_offers yX11_offers, Cond.methodLink RL 197 yX10_most, Cond.instanceMethod yX10_most, Cond.selects RX10 yX10_most yX10_most, Cond.methodLink RL 200 yX11_most, Cond.instanceMethod yX11_most, Cond.selects RX11 yX11_most yX11_most, Cond.methodLink RL 201 yL_serves, Cond.static yL_serves, Cond.methodLink RL 97 yX10_serves, Cond.methodLink RL 203 yX11_serves, Cond.instanceMethod yX11_serves, Cond.selects RX11 yX11_serves yX11_serves, Cond.methodLink RL 204 yX10_image, Cond.instanceMethod yX10_image, Cond.selects RX10 yX10_image yX10_image, Cond.methodLink RL 207 yX11_image, Cond.instanceMethod yX11_image, Cond.selects RX11 yX11_image yX11_image, Cond.methodLink RL 208 yX10_restore, Cond.instanceMethod yX10_restore, Cond.selects RX10 yX10_restore yX10_restore, Cond.methodLink RL 211 yX11_restore, Cond.instanceMethod yX11_restore, Cond.selects RX11 yX11_restore yX11_restore, Cond.methodLink RL 212 yX10_status, Cond.instanceMethod yX10_status, Cond.selects RX10 yX10_status yX10_status, Cond.methodLink RL 215 yX11_status, Cond.instanceMethod yX11_status, Cond.selects RX11 yX11_status yX11_status, Cond.methodLink RL 216 yX10_count, Cond.instanceMethod yX10_count, Cond.selects RX10 yX10_count yX10_count, Cond.methodLink RL 219 yX11_count, Cond.instanceMethod yX11_count, Cond.selects RX11 yX11_count yX11_count]
def wsL_law : List Cond := woL_law ++ (wsX100 ++ (wsX110 ++ (wsX70 ++ (wsX60 ++ (wsX80 ++ (wsX40 ++ (wsX10 ++ (wsX50 ++ (wsX00 ++ (wsX20 ++ (wsX30 ++ ((vx_atS RX10 255 "java/lang/IllegalArgumentException" ["java/lang/RuntimeException", "java/lang/Exception"]).filter goodWord ++ ((vx_atS RX10 262 "java/lang/IndexOutOfBoundsException" ["java/lang/RuntimeException", "java/lang/Exception"]).filter goodWord ++ ((nz_at RX10 267).filter goodWord ++ (wsX10_init ++ (wsX11_init ++ (wsX10_feed ++ (wsX11_feed ++ (wsL_siege ++ (wsX11_siege ++ (wsL_contract ++ (wsX11_contract ++ (wsX10_fault ++ (wsX11_fault ++ (wsL_told ++ (wsX11_told ++ (wsL_wall ++ (wsX11_wall ++ (wsL_rule ++ (wsX11_rule ++ (wsL_wants ++ (wsX11_wants ++ (wsL_sign ++ (wsX11_sign ++ (wsL_months ++ (wsX11_months ++ (wsL_undo ++ (wsX11_undo ++ (wsL_sums ++ (wsX11_sums ++ (wsL_corks ++ (wsX11_corks ++ (wsL_would ++ (wsX11_would ++ (wsL_best ++ (wsX11_best ++ (wsL_offer ++ (wsX11_offer ++ (wsL_nearest ++ (wsX11_nearest ++ (wsL_stop ++ (wsX11_stop ++ (wsL_odds ++ (wsX11_odds ++ (wsL_kind ++ (wsX11_kind ++ (wsL_seen ++ (wsX11_seen ++ (wsL_spy ++ (wsX11_spy ++ (wsL_believed ++ (wsX11_believed ++ (wsL_earnest ++ (wsX11_earnest ++ (wsL_stands ++ (wsX11_stands ++ (wsL_show ++ (wsX11_show ++ (wsL_offers ++ (wsX11_offers ++ (wsX10_most ++ (wsX11_most ++ (wsL_serves ++ (wsX11_serves ++ (wsX10_image ++ (wsX11_image ++ (wsX10_restore ++ (wsX11_restore ++ (wsX10_status ++ (wsX11_status ++ (wsX10_count ++ (wsX11_count))))))))))))))))))))))))))))))))))))))))))))))))))))))))))))))))))))))))))))))))))
def tbC : Nat → List Cond
  | 0 => tables_1_1
  | 1 => tables_1_2
  | 2 => tables_1_3
  | 3 => tables_1_4
  | 4 => tables_1_5
  | 5 => tables_1_6
  | 6 => tables_1_7
  | 7 => k2_sels lw_privs
  | _ => []
theorem tbC_in : ∀ (k : Nat) (w : Cond), w ∈ tbC k → w ∈ lw_tbl := by
  intro k w h
  match k, h with
  | 0, h => exact List.mem_append_right _ (show w ∈ tables_1 from List.mem_append_left _ h)
  | 1, h => exact List.mem_append_right _ (show w ∈ tables_1 from List.mem_append_right _ (List.mem_append_left _ h))
  | 2, h => exact List.mem_append_right _ (show w ∈ tables_1 from List.mem_append_right _ (List.mem_append_right _ (List.mem_append_left _ h)))
  | 3, h => exact List.mem_append_right _ (show w ∈ tables_1 from List.mem_append_right _ (List.mem_append_right _ (List.mem_append_right _ (List.mem_append_left _ h))))
  | 4, h => exact List.mem_append_right _ (show w ∈ tables_1 from List.mem_append_right _ (List.mem_append_right _ (List.mem_append_right _ (List.mem_append_right _ (List.mem_append_left _ h)))))
  | 5, h => exact List.mem_append_right _ (show w ∈ tables_1 from List.mem_append_right _ (List.mem_append_right _ (List.mem_append_right _ (List.mem_append_right _ (List.mem_append_right _ (List.mem_append_left _ h))))))
  | 6, h => exact List.mem_append_right _ (show w ∈ tables_1 from List.mem_append_right _ (List.mem_append_right _ (List.mem_append_right _ (List.mem_append_right _ (List.mem_append_right _ (List.mem_append_right _ (h)))))))
  | 7, h => exact List.mem_append_left _ h
  | _ + 8, h => exact absurd h List.not_mem_nil
theorem lw_mem3 (ws : List Cond) (ps : List (Nat × Nat)) (hp : ws = ps.filterMap (fun q => (tbC q.1)[q.2]?)) : ∀ w ∈ ws, w ∈ lw_tbl := by
  intro w hw
  rw [hp] at hw
  obtain ⟨q, -, hq⟩ := List.mem_filterMap.mp hw
  exact tbC_in q.1 w (List.mem_of_getElem? hq)
theorem lw_mem {big : List Cond} (ws : List Cond) (ps : List Nat) (hp : ws = ps.filterMap (fun i => big[i]?)) : ∀ w ∈ ws, w ∈ big := by
  intro w hw
  rw [hp] at hw
  obtain ⟨i, -, hi⟩ := List.mem_filterMap.mp hw
  exact List.mem_of_getElem? hi
theorem tb_nil : ∀ w ∈ ([] : List Cond), w ∈ lw_tbl := fun _ h => nomatch h
theorem tb_app {a b : List Cond} (ha : ∀ w ∈ a, w ∈ lw_tbl) (hb : ∀ w ∈ b, w ∈ lw_tbl) : ∀ w ∈ a ++ b, w ∈ lw_tbl := fun w h => (List.mem_append.mp h).elim (ha w) (hb w)
theorem tb_cons {c : Cond} {a : List Cond} (hc : c ∈ lw_tbl) (ha : ∀ w ∈ a, w ∈ lw_tbl) : ∀ w ∈ c :: a, w ∈ lw_tbl := fun w h => (List.mem_cons.mp h).elim (fun e => e ▸ hc) (ha w)
theorem tp_117 : (Cond.methodLink RX7 3 objectInit) ∈ lw_tbl := tbC_in 0 _ (List.mem_of_getElem? (i := 39) rfl)
theorem tp_110 : (Cond.instanceMethod objectInit) ∈ lw_tbl := tbC_in 0 _ (List.mem_of_getElem? (i := 32) rfl)
theorem tp_111 : (Cond.code objectInit ⟨#[0xb1]⟩ 1 none) ∈ lw_tbl := tbC_in 0 _ (List.mem_of_getElem? (i := 33) rfl)
theorem tp_138 : (Cond.arrayClass .byte) ∈ lw_tbl := tbC_in 0 _ (List.mem_of_getElem? (i := 60) rfl)
theorem tp_118 : (Cond.fieldLink RX7 9 "HiredEnemy$Reader" "bytes" "[B") ∈ lw_tbl := tbC_in 0 _ (List.mem_of_getElem? (i := 40) rfl)
theorem tp_122 : (Cond.fieldLink RX7 15 "HiredEnemy$Reader" "place" "I") ∈ lw_tbl := tbC_in 0 _ (List.mem_of_getElem? (i := 44) rfl)
theorem tp_139 : (Cond.arrayClass .int) ∈ lw_tbl := tbC_in 0 _ (List.mem_of_getElem? (i := 61) rfl)
theorem tp_124 : (Cond.fieldLink RX7 19 "HiredEnemy$Reader" "numbers" "[I") ∈ lw_tbl := tbC_in 0 _ (List.mem_of_getElem? (i := 46) rfl)
set_option maxRecDepth 20000 in
theorem tboX7_init : ∀ w ∈ woX7_init, w ∈ lw_tbl := (tb_cons tp_117 (tb_cons tp_110 (tb_cons tp_111 (tb_cons tp_138 (tb_cons tp_118 (tb_cons tp_122 (tb_cons tp_139 (tb_cons tp_124 tb_nil))))))))
set_option maxRecDepth 20000 in
theorem tbn_0 : ∀ w ∈ wsX70, w ∈ lw_tbl := lw_mem3 wsX70 [(0, 47), (0, 49), (0, 51), (0, 53), (0, 55), (0, 57)] (by decide +kernel)
theorem tp_116 : (Cond.code yX7_init cX7_init 1 none) ∈ lw_tbl := tbC_in 0 _ (List.mem_of_getElem? (i := 38) rfl)
theorem tbX7_init : ∀ w ∈ wsX7_init, w ∈ lw_tbl := tb_cons tp_116 (tb_app tboX7_init tbn_0)
theorem tp_148 : (Cond.methodLink RX9 1 objectInit) ∈ lw_tbl := tbC_in 0 _ (List.mem_of_getElem? (i := 70) rfl)
set_option maxRecDepth 20000 in
theorem tboX9_init : ∀ w ∈ woX9_init, w ∈ lw_tbl := (tb_cons tp_148 (tb_cons tp_110 (tb_cons tp_111 tb_nil)))
theorem tp_147 : (Cond.code yX9_init cX9_init 1 none) ∈ lw_tbl := tbC_in 0 _ (List.mem_of_getElem? (i := 69) rfl)
theorem tbX9_init : ∀ w ∈ wsX9_init, w ∈ lw_tbl := tb_cons tp_147 tboX9_init
theorem tp_165 : (Cond.fieldLink RX6 30 "HiredEnemy$Plan" "walls" "I") ∈ lw_tbl := tbC_in 0 _ (List.mem_of_getElem? (i := 87) rfl)
theorem tp_155 : (Cond.fieldLink RX6 15 "HiredEnemy$Plan" "said" "[I") ∈ lw_tbl := tbC_in 0 _ (List.mem_of_getElem? (i := 77) rfl)
theorem tp_149 : (Cond.fieldLink RX6 9 "HiredEnemy$Plan" "UNTOLD" "[I") ∈ lw_tbl := tbC_in 0 _ (List.mem_of_getElem? (i := 71) rfl)
theorem tp_157 : (Cond.fieldLink RX6 18 "HiredEnemy$Plan" "fearByNear" "[I") ∈ lw_tbl := tbC_in 0 _ (List.mem_of_getElem? (i := 79) rfl)
set_option maxRecDepth 20000 in
theorem tboX6_clear : ∀ w ∈ woX6_clear, w ∈ lw_tbl := (tb_cons tp_165 (tb_cons tp_155 (tb_cons tp_149 (tb_cons tp_157 tb_nil))))
set_option maxRecDepth 20000 in
theorem tbn_1 : ∀ w ∈ wsX60, w ∈ lw_tbl := lw_mem3 wsX60 [(0, 91), (0, 93), (0, 95), (0, 97), (0, 99)] (by decide +kernel)
theorem tp_154 : (Cond.code yX6_clear cX6_clear 2 none) ∈ lw_tbl := tbC_in 0 _ (List.mem_of_getElem? (i := 76) rfl)
theorem tbX6_clear : ∀ w ∈ wsX6_clear, w ∈ lw_tbl := tb_cons tp_154 (tb_app tboX6_clear tbn_1)
theorem tp_158 : (Cond.fieldLink RX6 21 "HiredEnemy$Plan" "strength" "[I") ∈ lw_tbl := tbC_in 0 _ (List.mem_of_getElem? (i := 80) rfl)
theorem tp_162 : (Cond.fieldLink RX6 24 "HiredEnemy$Plan" "mended" "[I") ∈ lw_tbl := tbC_in 0 _ (List.mem_of_getElem? (i := 84) rfl)
theorem tp_146 : (Cond.instanceMethod yX9_init) ∈ lw_tbl := tbC_in 0 _ (List.mem_of_getElem? (i := 68) rfl)
theorem tp_81 : (Cond.initialized RX9) ∈ lw_tbl := tbC_in 0 _ (List.mem_of_getElem? (i := 3) rfl)
theorem tp_151 : (Cond.methodLink RX6 27 yX6_clear) ∈ lw_tbl := tbC_in 0 _ (List.mem_of_getElem? (i := 73) rfl)
theorem tp_152 : (Cond.instanceMethod yX6_clear) ∈ lw_tbl := tbC_in 0 _ (List.mem_of_getElem? (i := 74) rfl)
theorem tp_153 : (Cond.selects RX6 yX6_clear yX6_clear) ∈ lw_tbl := tbC_in 0 _ (List.mem_of_getElem? (i := 75) rfl)
theorem tp_82 : (Cond.initialized RX6) ∈ lw_tbl := tbC_in 0 _ (List.mem_of_getElem? (i := 4) rfl)
set_option maxRecDepth 20000 in
theorem tboX6_init : ∀ w ∈ woX6_init, w ∈ lw_tbl := (tb_cons tp_149 (tb_cons tp_139 (tb_cons tp_155 (tb_cons tp_157 (tb_cons tp_158 (tb_cons tp_162 (tb_cons tp_146 (tb_cons tp_81 (tb_cons tp_110 (tb_cons tp_151 (tb_cons tp_152 (tb_cons tp_153 (tb_cons tp_82 tb_nil)))))))))))))
theorem tp_144 : (Cond.code yX6_init cX6_init 1 none) ∈ lw_tbl := tbC_in 0 _ (List.mem_of_getElem? (i := 66) rfl)
theorem tbX6_init : ∀ w ∈ wsX6_init, w ∈ lw_tbl := tb_cons tp_144 (tb_app tboX6_init (tb_app tbn_1 (tb_app tbX9_init tbX6_clear)))
theorem tp_193 : (Cond.methodLink RX4 3 objectInit) ∈ lw_tbl := tbC_in 0 _ (List.mem_of_getElem? (i := 115) rfl)
theorem tp_194 : (Cond.fieldLink RX4 9 "HiredEnemy$Course" "now" "[I") ∈ lw_tbl := tbC_in 0 _ (List.mem_of_getElem? (i := 116) rfl)
theorem tp_197 : (Cond.fieldLink RX4 15 "HiredEnemy$Course" "shot" "[I") ∈ lw_tbl := tbC_in 0 _ (List.mem_of_getElem? (i := 119) rfl)
set_option maxRecDepth 20000 in
theorem tboX4_init : ∀ w ∈ woX4_init, w ∈ lw_tbl := (tb_cons tp_193 (tb_cons tp_110 (tb_cons tp_111 (tb_cons tp_139 (tb_cons tp_194 (tb_cons tp_197 tb_nil))))))
set_option maxRecDepth 20000 in
theorem tbn_2 : ∀ w ∈ wsX40, w ∈ lw_tbl := lw_mem3 wsX40 [(0, 125), (0, 127), (0, 129)] (by decide +kernel)
theorem tp_192 : (Cond.code yX4_init cX4_init 1 none) ∈ lw_tbl := tbC_in 0 _ (List.mem_of_getElem? (i := 114) rfl)
theorem tbX4_init : ∀ w ∈ wsX4_init, w ∈ lw_tbl := tb_cons tp_192 (tb_app tboX4_init tbn_2)
theorem tp_215 : (Cond.methodLink RX0 3 objectInit) ∈ lw_tbl := tbC_in 0 _ (List.mem_of_getElem? (i := 137) rfl)
theorem tp_216 : (Cond.fieldLink RX0 11 "HiredEnemy$Annals" "lines" "[I") ∈ lw_tbl := tbC_in 0 _ (List.mem_of_getElem? (i := 138) rfl)
set_option maxRecDepth 20000 in
theorem tboX0_init : ∀ w ∈ woX0_init, w ∈ lw_tbl := (tb_cons tp_215 (tb_cons tp_110 (tb_cons tp_111 (tb_cons tp_139 (tb_cons tp_216 tb_nil)))))
set_option maxRecDepth 20000 in
theorem tbn_3 : ∀ w ∈ wsX00, w ∈ lw_tbl := lw_mem3 wsX00 [(0, 139)] (by decide +kernel)
theorem tp_214 : (Cond.code yX0_init cX0_init 1 none) ∈ lw_tbl := tbC_in 0 _ (List.mem_of_getElem? (i := 136) rfl)
theorem tbX0_init : ∀ w ∈ wsX0_init, w ∈ lw_tbl := tb_cons tp_214 (tb_app tboX0_init tbn_3)
theorem tp_225 : (Cond.methodLink RX2 1 objectInit) ∈ lw_tbl := tbC_in 0 _ (List.mem_of_getElem? (i := 147) rfl)
theorem tp_226 : (Cond.fieldLink RX2 7 "HiredEnemy$Belief" "ifReal" "[I") ∈ lw_tbl := tbC_in 0 _ (List.mem_of_getElem? (i := 148) rfl)
theorem tp_228 : (Cond.fieldLink RX2 13 "HiredEnemy$Belief" "ifHired" "[I") ∈ lw_tbl := tbC_in 0 _ (List.mem_of_getElem? (i := 150) rfl)
theorem tp_230 : (Cond.fieldLink RX2 16 "HiredEnemy$Belief" "firstReal" "I") ∈ lw_tbl := tbC_in 0 _ (List.mem_of_getElem? (i := 152) rfl)
theorem tp_231 : (Cond.fieldLink RX2 20 "HiredEnemy$Belief" "firstHired" "I") ∈ lw_tbl := tbC_in 0 _ (List.mem_of_getElem? (i := 153) rfl)
theorem tp_232 : (Cond.fieldLink RX2 23 "HiredEnemy$Belief" "real" "J") ∈ lw_tbl := tbC_in 0 _ (List.mem_of_getElem? (i := 154) rfl)
theorem tp_233 : (Cond.fieldLink RX2 27 "HiredEnemy$Belief" "hired" "J") ∈ lw_tbl := tbC_in 0 _ (List.mem_of_getElem? (i := 155) rfl)
set_option maxRecDepth 20000 in
theorem tboX2_init : ∀ w ∈ woX2_init, w ∈ lw_tbl := (tb_cons tp_225 (tb_cons tp_110 (tb_cons tp_111 (tb_cons tp_139 (tb_cons tp_226 (tb_cons tp_228 (tb_cons tp_230 (tb_cons tp_231 (tb_cons tp_232 (tb_cons tp_233 tb_nil))))))))))
set_option maxRecDepth 20000 in
theorem tbn_4 : ∀ w ∈ wsX20, w ∈ lw_tbl := lw_mem3 wsX20 [(0, 158), (0, 160), (0, 162), (0, 164), (0, 166), (0, 168), (0, 170)] (by decide +kernel)
theorem tp_224 : (Cond.code yX2_init cX2_init 1 none) ∈ lw_tbl := tbC_in 0 _ (List.mem_of_getElem? (i := 146) rfl)
theorem tbX2_init : ∀ w ∈ wsX2_init, w ∈ lw_tbl := tb_cons tp_224 (tb_app tboX2_init tbn_4)
theorem tp_256 : (Cond.methodLink RX3 1 objectInit) ∈ lw_tbl := tbC_in 0 _ (List.mem_of_getElem? (i := 178) rfl)
theorem tp_257 : (Cond.fieldLink RX3 9 "HiredEnemy$Bids" "coins" "[I") ∈ lw_tbl := tbC_in 0 _ (List.mem_of_getElem? (i := 179) rfl)
theorem tp_258 : (Cond.fieldLink RX3 13 "HiredEnemy$Bids" "rest" "[I") ∈ lw_tbl := tbC_in 0 _ (List.mem_of_getElem? (i := 180) rfl)
set_option maxRecDepth 20000 in
theorem tboX3_init : ∀ w ∈ woX3_init, w ∈ lw_tbl := (tb_cons tp_256 (tb_cons tp_110 (tb_cons tp_111 (tb_cons tp_139 (tb_cons tp_257 (tb_cons tp_258 tb_nil))))))
set_option maxRecDepth 20000 in
theorem tbn_5 : ∀ w ∈ wsX30, w ∈ lw_tbl := lw_mem3 wsX30 [(0, 181), (0, 183)] (by decide +kernel)
theorem tp_255 : (Cond.code yX3_init cX3_init 1 none) ∈ lw_tbl := tbC_in 0 _ (List.mem_of_getElem? (i := 177) rfl)
theorem tbX3_init : ∀ w ∈ wsX3_init, w ∈ lw_tbl := tb_cons tp_255 (tb_app tboX3_init tbn_5)
theorem tp_187 : (Cond.methodLink RX8 1 objectInit) ∈ lw_tbl := tbC_in 0 _ (List.mem_of_getElem? (i := 109) rfl)
theorem tp_188 : (Cond.classLink RX8 7 RX4) ∈ lw_tbl := tbC_in 0 _ (List.mem_of_getElem? (i := 110) rfl)
theorem tp_189 : (Cond.instantiable RX4 3) ∈ lw_tbl := tbC_in 0 _ (List.mem_of_getElem? (i := 111) rfl)
theorem tp_84 : (Cond.initialized RX4) ∈ lw_tbl := tbC_in 0 _ (List.mem_of_getElem? (i := 6) rfl)
theorem tp_264 : (Cond.fieldLink RX8 10 "HiredEnemy$Scene" "course" "LHiredEnemy$Course;") ∈ lw_tbl := tbC_in 0 _ (List.mem_of_getElem? (i := 186) rfl)
theorem tp_210 : (Cond.classLink RX8 16 RX0) ∈ lw_tbl := tbC_in 0 _ (List.mem_of_getElem? (i := 132) rfl)
theorem tp_211 : (Cond.instantiable RX0 1) ∈ lw_tbl := tbC_in 0 _ (List.mem_of_getElem? (i := 133) rfl)
theorem tp_85 : (Cond.initialized RX0) ∈ lw_tbl := tbC_in 0 _ (List.mem_of_getElem? (i := 7) rfl)
theorem tp_266 : (Cond.fieldLink RX8 19 "HiredEnemy$Scene" "annals" "LHiredEnemy$Annals;") ∈ lw_tbl := tbC_in 0 _ (List.mem_of_getElem? (i := 188) rfl)
theorem tp_220 : (Cond.classLink RX8 23 RX2) ∈ lw_tbl := tbC_in 0 _ (List.mem_of_getElem? (i := 142) rfl)
theorem tp_221 : (Cond.instantiable RX2 7) ∈ lw_tbl := tbC_in 0 _ (List.mem_of_getElem? (i := 143) rfl)
theorem tp_86 : (Cond.initialized RX2) ∈ lw_tbl := tbC_in 0 _ (List.mem_of_getElem? (i := 8) rfl)
theorem tp_268 : (Cond.fieldLink RX8 26 "HiredEnemy$Scene" "belief" "LHiredEnemy$Belief;") ∈ lw_tbl := tbC_in 0 _ (List.mem_of_getElem? (i := 190) rfl)
theorem tp_251 : (Cond.classLink RX8 30 RX3) ∈ lw_tbl := tbC_in 0 _ (List.mem_of_getElem? (i := 173) rfl)
theorem tp_252 : (Cond.instantiable RX3 2) ∈ lw_tbl := tbC_in 0 _ (List.mem_of_getElem? (i := 174) rfl)
theorem tp_87 : (Cond.initialized RX3) ∈ lw_tbl := tbC_in 0 _ (List.mem_of_getElem? (i := 9) rfl)
theorem tp_270 : (Cond.fieldLink RX8 33 "HiredEnemy$Scene" "bids" "LHiredEnemy$Bids;") ∈ lw_tbl := tbC_in 0 _ (List.mem_of_getElem? (i := 192) rfl)
theorem tp_191 : (Cond.instanceMethod yX4_init) ∈ lw_tbl := tbC_in 0 _ (List.mem_of_getElem? (i := 113) rfl)
theorem tp_213 : (Cond.instanceMethod yX0_init) ∈ lw_tbl := tbC_in 0 _ (List.mem_of_getElem? (i := 135) rfl)
theorem tp_223 : (Cond.instanceMethod yX2_init) ∈ lw_tbl := tbC_in 0 _ (List.mem_of_getElem? (i := 145) rfl)
theorem tp_254 : (Cond.instanceMethod yX3_init) ∈ lw_tbl := tbC_in 0 _ (List.mem_of_getElem? (i := 176) rfl)
set_option maxRecDepth 20000 in
theorem tboX8_init : ∀ w ∈ woX8_init, w ∈ lw_tbl := (tb_cons tp_187 (tb_cons tp_110 (tb_cons tp_188 (tb_cons tp_189 (tb_cons tp_84 (tb_cons tp_264 (tb_cons tp_210 (tb_cons tp_211 (tb_cons tp_85 (tb_cons tp_266 (tb_cons tp_220 (tb_cons tp_221 (tb_cons tp_86 (tb_cons tp_268 (tb_cons tp_251 (tb_cons tp_252 (tb_cons tp_87 (tb_cons tp_270 (tb_cons tp_191 (tb_cons tp_139 (tb_cons tp_213 (tb_cons tp_223 (tb_cons tp_254 tb_nil)))))))))))))))))))))))
set_option maxRecDepth 20000 in
theorem tbn_6 : ∀ w ∈ wsX80, w ∈ lw_tbl := lw_mem3 wsX80 [(0, 194), (0, 196), (0, 198), (0, 200)] (by decide +kernel)
theorem tp_186 : (Cond.code yX8_init cX8_init 1 none) ∈ lw_tbl := tbC_in 0 _ (List.mem_of_getElem? (i := 108) rfl)
theorem tbX8_init : ∀ w ∈ wsX8_init, w ∈ lw_tbl := tb_cons tp_186 (tb_app tboX8_init (tb_app tbn_2 (tb_app tbn_6 (tb_app tbn_3 (tb_app tbn_4 (tb_app tbn_5 (tb_app tbX4_init (tb_app tbX0_init (tb_app tbX2_init tbX3_init)))))))))
theorem tp_289 : (Cond.methodLink RX1 5 objectInit) ∈ lw_tbl := tbC_in 0 _ (List.mem_of_getElem? (i := 211) rfl)
theorem tp_290 : (Cond.fieldLink RX1 11 "HiredEnemy$Battle" "worth" "[I") ∈ lw_tbl := tbC_in 0 _ (List.mem_of_getElem? (i := 212) rfl)
theorem tp_291 : (Cond.fieldLink RX1 15 "HiredEnemy$Battle" "held" "[I") ∈ lw_tbl := tbC_in 0 _ (List.mem_of_getElem? (i := 213) rfl)
theorem tp_292 : (Cond.fieldLink RX1 18 "HiredEnemy$Battle" "put" "[I") ∈ lw_tbl := tbC_in 0 _ (List.mem_of_getElem? (i := 214) rfl)
set_option maxRecDepth 20000 in
theorem tboX1_init : ∀ w ∈ woX1_init, w ∈ lw_tbl := (tb_cons tp_289 (tb_cons tp_110 (tb_cons tp_111 (tb_cons tp_139 (tb_cons tp_290 (tb_cons tp_291 (tb_cons tp_292 tb_nil)))))))
set_option maxRecDepth 20000 in
theorem tbn_7 : ∀ w ∈ wsX10, w ∈ lw_tbl := lw_mem3 wsX10 [(0, 219), (0, 221), (0, 223), (0, 225), (0, 227)] (by decide +kernel)
theorem tp_288 : (Cond.code yX1_init cX1_init 1 none) ∈ lw_tbl := tbC_in 0 _ (List.mem_of_getElem? (i := 210) rfl)
theorem tbX1_init : ∀ w ∈ wsX1_init, w ∈ lw_tbl := tb_cons tp_288 (tb_app tboX1_init tbn_7)
theorem tp_313 : (Cond.fieldLink RX5 11 "HiredEnemy$Pact" "said" "[I") ∈ lw_tbl := tbC_in 0 _ (List.mem_of_getElem? (i := 235) rfl)
theorem tp_315 : (Cond.fieldLink RX5 15 "HiredEnemy$Pact" "wallByMonth" "[I") ∈ lw_tbl := tbC_in 0 _ (List.mem_of_getElem? (i := 237) rfl)
set_option maxRecDepth 20000 in
theorem tboX5_init : ∀ w ∈ woX5_init, w ∈ lw_tbl := (tb_cons tp_139 (tb_cons tp_313 (tb_cons tp_315 (tb_cons tp_146 (tb_cons tp_81 (tb_cons tp_110 tb_nil))))))
set_option maxRecDepth 20000 in
theorem tbn_8 : ∀ w ∈ wsX50, w ∈ lw_tbl := lw_mem3 wsX50 [(0, 239), (1, 1), (1, 3)] (by decide +kernel)
theorem tp_311 : (Cond.code yX5_init cX5_init 1 none) ∈ lw_tbl := tbC_in 0 _ (List.mem_of_getElem? (i := 233) rfl)
theorem tbX5_init : ∀ w ∈ wsX5_init, w ∈ lw_tbl := tb_cons tp_311 (tb_app tboX5_init (tb_app tbn_8 tbX9_init))
theorem tp_330 : (Cond.code yJ7_fill_53178 cJ7_fill_53178 4 none) ∈ lw_tbl := tbC_in 1 _ (List.mem_of_getElem? (i := 12) rfl)
theorem tbJ7_fill_53178 : ∀ w ∈ wsJ7_fill_53178, w ∈ lw_tbl := tb_cons tp_330 tb_nil
theorem tp_200 : (Cond.fieldLink RX4 18 "HiredEnemy$Course" "month" "I") ∈ lw_tbl := tbC_in 0 _ (List.mem_of_getElem? (i := 122) rfl)
theorem tp_156 : (Cond.fieldLink RX4 28 "HiredEnemy$Plan" "said" "[I") ∈ lw_tbl := tbC_in 0 _ (List.mem_of_getElem? (i := 78) rfl)
theorem tp_167 : (Cond.fieldLink RX4 33 "HiredEnemy$Plan" "walls" "I") ∈ lw_tbl := tbC_in 0 _ (List.mem_of_getElem? (i := 89) rfl)
theorem tp_160 : (Cond.fieldLink RX4 36 "HiredEnemy$Plan" "strength" "[I") ∈ lw_tbl := tbC_in 0 _ (List.mem_of_getElem? (i := 82) rfl)
theorem tp_328 : (Cond.methodLink RX4 22 yJ7_fill_53178) ∈ lw_tbl := tbC_in 1 _ (List.mem_of_getElem? (i := 10) rfl)
theorem tp_329 : (Cond.static yJ7_fill_53178) ∈ lw_tbl := tbC_in 1 _ (List.mem_of_getElem? (i := 11) rfl)
theorem tp_90 : (Cond.initialized RJ7) ∈ lw_tbl := tbC_in 0 _ (List.mem_of_getElem? (i := 12) rfl)
set_option maxRecDepth 20000 in
theorem tboX4_begin : ∀ w ∈ woX4_begin, w ∈ lw_tbl := (tb_cons tp_200 (tb_cons tp_194 (tb_cons tp_156 (tb_cons tp_167 (tb_cons tp_160 (tb_cons tp_328 (tb_cons tp_329 (tb_cons tp_90 tb_nil))))))))
theorem tp_327 : (Cond.code yX4_begin cX4_begin 3 none) ∈ lw_tbl := tbC_in 1 _ (List.mem_of_getElem? (i := 9) rfl)
theorem tbX4_begin : ∀ w ∈ wsX4_begin, w ∈ lw_tbl := tb_cons tp_327 (tb_app tboX4_begin (tb_app tbn_2 (tb_app tbn_1 tbJ7_fill_53178)))
theorem tp_109 : (Cond.methodLink RX10 3 objectInit) ∈ lw_tbl := tbC_in 0 _ (List.mem_of_getElem? (i := 31) rfl)
theorem tp_331 : (Cond.fieldLink RX10 9 "HiredEnemy" "tape" "[B") ∈ lw_tbl := tbC_in 1 _ (List.mem_of_getElem? (i := 13) rfl)
theorem tp_112 : (Cond.classLink RX10 13 RX7) ∈ lw_tbl := tbC_in 0 _ (List.mem_of_getElem? (i := 34) rfl)
theorem tp_113 : (Cond.instantiable RX7 6) ∈ lw_tbl := tbC_in 0 _ (List.mem_of_getElem? (i := 35) rfl)
theorem tp_80 : (Cond.initialized RX7) ∈ lw_tbl := tbC_in 0 _ (List.mem_of_getElem? (i := 2) rfl)
theorem tp_333 : (Cond.fieldLink RX10 16 "HiredEnemy" "reader" "LHiredEnemy$Reader;") ∈ lw_tbl := tbC_in 1 _ (List.mem_of_getElem? (i := 15) rfl)
theorem tp_140 : (Cond.classLink RX10 20 RX6) ∈ lw_tbl := tbC_in 0 _ (List.mem_of_getElem? (i := 62) rfl)
theorem tp_141 : (Cond.instantiable RX6 5) ∈ lw_tbl := tbC_in 0 _ (List.mem_of_getElem? (i := 63) rfl)
theorem tp_334 : (Cond.fieldLink RX10 23 "HiredEnemy" "plan" "LHiredEnemy$Plan;") ∈ lw_tbl := tbC_in 1 _ (List.mem_of_getElem? (i := 16) rfl)
theorem tp_335 : (Cond.fieldLink RX10 27 "HiredEnemy" "draft" "LHiredEnemy$Plan;") ∈ lw_tbl := tbC_in 1 _ (List.mem_of_getElem? (i := 17) rfl)
theorem tp_180 : (Cond.classLink RX10 30 RX5) ∈ lw_tbl := tbC_in 0 _ (List.mem_of_getElem? (i := 102) rfl)
theorem tp_336 : (Cond.fieldLink RX10 32 "HiredEnemy" "pacts" "[LHiredEnemy$Pact;") ∈ lw_tbl := tbC_in 1 _ (List.mem_of_getElem? (i := 18) rfl)
theorem tp_182 : (Cond.classLink RX10 36 RX8) ∈ lw_tbl := tbC_in 0 _ (List.mem_of_getElem? (i := 104) rfl)
theorem tp_183 : (Cond.instantiable RX8 4) ∈ lw_tbl := tbC_in 0 _ (List.mem_of_getElem? (i := 105) rfl)
theorem tp_83 : (Cond.initialized RX8) ∈ lw_tbl := tbC_in 0 _ (List.mem_of_getElem? (i := 5) rfl)
theorem tp_338 : (Cond.fieldLink RX10 39 "HiredEnemy" "scene" "LHiredEnemy$Scene;") ∈ lw_tbl := tbC_in 1 _ (List.mem_of_getElem? (i := 20) rfl)
theorem tp_339 : (Cond.fieldLink RX10 43 "HiredEnemy" "images" "[LHiredEnemy$Scene;") ∈ lw_tbl := tbC_in 1 _ (List.mem_of_getElem? (i := 21) rfl)
theorem tp_282 : (Cond.classLink RX10 47 RX4) ∈ lw_tbl := tbC_in 0 _ (List.mem_of_getElem? (i := 204) rfl)
theorem tp_341 : (Cond.fieldLink RX10 50 "HiredEnemy" "trial" "LHiredEnemy$Course;") ∈ lw_tbl := tbC_in 1 _ (List.mem_of_getElem? (i := 23) rfl)
theorem tp_284 : (Cond.classLink RX10 54 RX1) ∈ lw_tbl := tbC_in 0 _ (List.mem_of_getElem? (i := 206) rfl)
theorem tp_285 : (Cond.instantiable RX1 5) ∈ lw_tbl := tbC_in 0 _ (List.mem_of_getElem? (i := 207) rfl)
theorem tp_88 : (Cond.initialized RX1) ∈ lw_tbl := tbC_in 0 _ (List.mem_of_getElem? (i := 10) rfl)
theorem tp_342 : (Cond.fieldLink RX10 57 "HiredEnemy" "battle" "LHiredEnemy$Battle;") ∈ lw_tbl := tbC_in 1 _ (List.mem_of_getElem? (i := 24) rfl)
theorem tp_343 : (Cond.fieldLink RX10 61 "HiredEnemy" "refused" "[I") ∈ lw_tbl := tbC_in 1 _ (List.mem_of_getElem? (i := 25) rfl)
theorem tp_308 : (Cond.instantiable RX5 3) ∈ lw_tbl := tbC_in 0 _ (List.mem_of_getElem? (i := 230) rfl)
theorem tp_89 : (Cond.initialized RX5) ∈ lw_tbl := tbC_in 0 _ (List.mem_of_getElem? (i := 11) rfl)
theorem tp_265 : (Cond.fieldLink RX10 66 "HiredEnemy$Scene" "course" "LHiredEnemy$Course;") ∈ lw_tbl := tbC_in 0 _ (List.mem_of_getElem? (i := 187) rfl)
theorem tp_115 : (Cond.instanceMethod yX7_init) ∈ lw_tbl := tbC_in 0 _ (List.mem_of_getElem? (i := 37) rfl)
theorem tp_142 : (Cond.methodLink RX10 22 yX6_init) ∈ lw_tbl := tbC_in 0 _ (List.mem_of_getElem? (i := 64) rfl)
theorem tp_143 : (Cond.instanceMethod yX6_init) ∈ lw_tbl := tbC_in 0 _ (List.mem_of_getElem? (i := 65) rfl)
theorem tp_185 : (Cond.instanceMethod yX8_init) ∈ lw_tbl := tbC_in 0 _ (List.mem_of_getElem? (i := 107) rfl)
theorem tp_287 : (Cond.instanceMethod yX1_init) ∈ lw_tbl := tbC_in 0 _ (List.mem_of_getElem? (i := 209) rfl)
theorem tp_310 : (Cond.instanceMethod yX5_init) ∈ lw_tbl := tbC_in 0 _ (List.mem_of_getElem? (i := 232) rfl)
theorem tp_324 : (Cond.methodLink RX10 69 yX4_begin) ∈ lw_tbl := tbC_in 1 _ (List.mem_of_getElem? (i := 6) rfl)
theorem tp_325 : (Cond.instanceMethod yX4_begin) ∈ lw_tbl := tbC_in 1 _ (List.mem_of_getElem? (i := 7) rfl)
theorem tp_326 : (Cond.selects RX4 yX4_begin yX4_begin) ∈ lw_tbl := tbC_in 1 _ (List.mem_of_getElem? (i := 8) rfl)
set_option maxRecDepth 20000 in
theorem tboX10_init : ∀ w ∈ woX10_init, w ∈ lw_tbl := (tb_cons tp_109 (tb_cons tp_110 (tb_cons tp_138 (tb_cons tp_331 (tb_cons tp_112 (tb_cons tp_113 (tb_cons tp_80 (tb_cons tp_333 (tb_cons tp_140 (tb_cons tp_141 (tb_cons tp_82 (tb_cons tp_334 (tb_cons tp_335 (tb_cons tp_180 (tb_cons tp_336 (tb_cons tp_182 (tb_cons tp_183 (tb_cons tp_83 (tb_cons tp_338 (tb_cons tp_339 (tb_cons tp_282 (tb_cons tp_189 (tb_cons tp_84 (tb_cons tp_341 (tb_cons tp_284 (tb_cons tp_285 (tb_cons tp_88 (tb_cons tp_342 (tb_cons tp_139 (tb_cons tp_343 (tb_cons tp_308 (tb_cons tp_89 (tb_cons tp_265 (tb_cons tp_115 (tb_cons tp_142 (tb_cons tp_143 (tb_cons tp_81 (tb_cons tp_185 (tb_cons tp_211 (tb_cons tp_85 (tb_cons tp_221 (tb_cons tp_86 (tb_cons tp_252 (tb_cons tp_87 (tb_cons tp_191 (tb_cons tp_287 (tb_cons tp_310 (tb_cons tp_324 (tb_cons tp_325 (tb_cons tp_326 (tb_cons tp_90 tb_nil)))))))))))))))))))))))))))))))))))))))))))))))))))
set_option maxRecDepth 20000 in
theorem tbn_9 : ∀ w ∈ wsX100, w ∈ lw_tbl := lw_mem3 wsX100 [(1, 26), (1, 28), (1, 30), (1, 32), (1, 34), (1, 36), (1, 38), (1, 40), (1, 42), (1, 44), (1, 46), (1, 48), (1, 50)] (by decide +kernel)
theorem tp_108 : (Cond.code yX10_init cX10_init 2 none) ∈ lw_tbl := tbC_in 0 _ (List.mem_of_getElem? (i := 30) rfl)
theorem tbX10_init : ∀ w ∈ wsX10_init, w ∈ lw_tbl := tb_cons tp_108 (tb_app tboX10_init (tb_app tbn_9 (tb_app tbn_0 (tb_app tbn_1 (tb_app tbn_6 (tb_app tbn_2 (tb_app tbn_7 (tb_app tbn_8 (tb_app tbn_3 (tb_app tbn_4 (tb_app tbn_5 (tb_app tbX7_init (tb_app tbX6_init (tb_app tbX8_init (tb_app tbX4_init (tb_app tbX1_init (tb_app tbX5_init tbX4_begin)))))))))))))))))
theorem tp_1141 : (Cond.fieldLink RX11 20 "HiredEnemyModel" "readTold" "[I") ∈ lw_tbl := tbC_in 4 _ (List.mem_of_getElem? (i := 103) rfl)
set_option maxRecDepth 20000 in
theorem tboX11_tellsNothing : ∀ w ∈ woX11_tellsNothing, w ∈ lw_tbl := (tb_cons tp_139 (tb_cons tp_1141 tb_nil))
set_option maxRecDepth 20000 in
theorem tbn_10 : ∀ w ∈ wsX110, w ∈ lw_tbl := lw_mem3 wsX110 [(4, 128), (4, 130), (4, 132), (4, 134), (4, 136), (4, 138), (4, 140), (4, 142), (4, 144), (4, 146), (4, 148), (4, 150), (4, 152), (4, 154), (4, 156), (4, 158), (4, 160), (4, 162), (4, 164), (4, 166), (4, 168), (4, 170), (4, 172), (4, 174), (4, 176), (4, 178), (4, 180), (4, 182), (4, 184), (4, 186), (4, 188), (4, 190), (4, 192), (4, 194), (4, 196)] (by decide +kernel)
theorem tp_1126 : (Cond.code yX11_tellsNothing cX11_tellsNothing 3 none) ∈ lw_tbl := tbC_in 4 _ (List.mem_of_getElem? (i := 88) rfl)
theorem tbX11_tellsNothing : ∀ w ∈ wsX11_tellsNothing, w ∈ lw_tbl := tb_cons tp_1126 (tb_app tboX11_tellsNothing tbn_10)
theorem tp_1142 : (Cond.fieldLink RX11 23 "HiredEnemyModel" "told" "[I") ∈ lw_tbl := tbC_in 4 _ (List.mem_of_getElem? (i := 104) rfl)
theorem tp_1150 : (Cond.fieldLink RX11 46 "HiredEnemyModel" "s" "[I") ∈ lw_tbl := tbC_in 4 _ (List.mem_of_getElem? (i := 112) rfl)
theorem tp_1144 : (Cond.fieldLink RX11 31 "HiredEnemyModel" "wall" "[[I") ∈ lw_tbl := tbC_in 4 _ (List.mem_of_getElem? (i := 106) rfl)
theorem tp_1143 : (Cond.fieldLink RX11 28 "HiredEnemyModel" "readWall" "[[I") ∈ lw_tbl := tbC_in 4 _ (List.mem_of_getElem? (i := 105) rfl)
theorem tp_1153 : (Cond.fieldLink RX11 55 "HiredEnemyModel" "shot" "[[I") ∈ lw_tbl := tbC_in 4 _ (List.mem_of_getElem? (i := 115) rfl)
theorem tp_1160 : (Cond.fieldLink RX11 64 "HiredEnemyModel" "kind" "[[I") ∈ lw_tbl := tbC_in 4 _ (List.mem_of_getElem? (i := 122) rfl)
theorem tp_1162 : (Cond.fieldLink RX11 70 "HiredEnemyModel" "offered" "[[I") ∈ lw_tbl := tbC_in 4 _ (List.mem_of_getElem? (i := 124) rfl)
theorem tp_1145 : (Cond.fieldLink RX11 162 "HiredEnemyModel" "contracts" "I") ∈ lw_tbl := tbC_in 4 _ (List.mem_of_getElem? (i := 107) rfl)
theorem tp_1155 : (Cond.fieldLink RX11 58 "HiredEnemyModel" "oddsA" "I") ∈ lw_tbl := tbC_in 4 _ (List.mem_of_getElem? (i := 117) rfl)
theorem tp_1156 : (Cond.fieldLink RX11 61 "HiredEnemyModel" "oddsB" "I") ∈ lw_tbl := tbC_in 4 _ (List.mem_of_getElem? (i := 118) rfl)
theorem tp_1157 : (Cond.fieldLink RX11 165 "HiredEnemyModel" "things" "I") ∈ lw_tbl := tbC_in 4 _ (List.mem_of_getElem? (i := 119) rfl)
theorem tp_1158 : (Cond.fieldLink RX11 168 "HiredEnemyModel" "images" "I") ∈ lw_tbl := tbC_in 4 _ (List.mem_of_getElem? (i := 120) rfl)
set_option maxRecDepth 20000 in
theorem tboX11_stands0 : ∀ w ∈ woX11_stands0, w ∈ lw_tbl := (tb_cons tp_1142 (tb_cons tp_1141 (tb_cons tp_1150 (tb_cons tp_1144 (tb_cons tp_1143 (tb_cons tp_1153 (tb_cons tp_1160 (tb_cons tp_1162 (tb_cons tp_1145 (tb_cons tp_1155 (tb_cons tp_1156 (tb_cons tp_1157 (tb_cons tp_1158 tb_nil)))))))))))))
theorem tp_1130 : (Cond.code yX11_stands0 cX11_stands0 3 none) ∈ lw_tbl := tbC_in 4 _ (List.mem_of_getElem? (i := 92) rfl)
theorem tbX11_stands0 : ∀ w ∈ wsX11_stands0, w ∈ lw_tbl := tb_cons tp_1130 (tb_app tboX11_stands0 tbn_10)
theorem tp_1120 : (Cond.methodLink RX11 1 objectInit) ∈ lw_tbl := tbC_in 4 _ (List.mem_of_getElem? (i := 82) rfl)
theorem tp_1134 : (Cond.fieldLink RX11 9 "HiredEnemyModel" "place" "I") ∈ lw_tbl := tbC_in 4 _ (List.mem_of_getElem? (i := 96) rfl)
theorem tp_1139 : (Cond.fieldLink RX11 13 "HiredEnemyModel" "fed" "[I") ∈ lw_tbl := tbC_in 4 _ (List.mem_of_getElem? (i := 101) rfl)
theorem tp_1140 : (Cond.fieldLink RX11 17 "HiredEnemyModel" "refused" "[I") ∈ lw_tbl := tbC_in 4 _ (List.mem_of_getElem? (i := 102) rfl)
theorem tp_1121 : (Cond.classLink RX11 26 "[[I") ∈ lw_tbl := tbC_in 4 _ (List.mem_of_getElem? (i := 83) rfl)
theorem tp_1146 : (Cond.fieldLink RX11 34 "HiredEnemyModel" "readContract" "[I") ∈ lw_tbl := tbC_in 4 _ (List.mem_of_getElem? (i := 108) rfl)
theorem tp_1147 : (Cond.fieldLink RX11 37 "HiredEnemyModel" "readBreach" "[I") ∈ lw_tbl := tbC_in 4 _ (List.mem_of_getElem? (i := 109) rfl)
theorem tp_1148 : (Cond.fieldLink RX11 40 "HiredEnemyModel" "contract" "[[I") ∈ lw_tbl := tbC_in 4 _ (List.mem_of_getElem? (i := 110) rfl)
theorem tp_1149 : (Cond.fieldLink RX11 43 "HiredEnemyModel" "breach" "[[I") ∈ lw_tbl := tbC_in 4 _ (List.mem_of_getElem? (i := 111) rfl)
theorem tp_1151 : (Cond.fieldLink RX11 49 "HiredEnemyModel" "aside" "[I") ∈ lw_tbl := tbC_in 4 _ (List.mem_of_getElem? (i := 113) rfl)
theorem tp_1152 : (Cond.fieldLink RX11 52 "HiredEnemyModel" "gone" "[[I") ∈ lw_tbl := tbC_in 4 _ (List.mem_of_getElem? (i := 114) rfl)
theorem tp_1161 : (Cond.fieldLink RX11 67 "HiredEnemyModel" "thing" "[[I") ∈ lw_tbl := tbC_in 4 _ (List.mem_of_getElem? (i := 123) rfl)
theorem tp_1163 : (Cond.fieldLink RX11 73 "HiredEnemyModel" "kept" "[[I") ∈ lw_tbl := tbC_in 4 _ (List.mem_of_getElem? (i := 125) rfl)
theorem tp_1165 : (Cond.fieldLink RX11 76 "HiredEnemyModel" "rest" "[[I") ∈ lw_tbl := tbC_in 4 _ (List.mem_of_getElem? (i := 127) rfl)
theorem tp_1123 : (Cond.methodLink RX11 79 yX11_tellsNothing) ∈ lw_tbl := tbC_in 4 _ (List.mem_of_getElem? (i := 85) rfl)
theorem tp_1125 : (Cond.instanceMethod yX11_tellsNothing) ∈ lw_tbl := tbC_in 4 _ (List.mem_of_getElem? (i := 87) rfl)
theorem tp_37 : (Cond.selects RX11 yX11_tellsNothing yX11_tellsNothing) ∈ lw_tbl := tbC_in 7 _ (List.mem_of_getElem? (i := 37) rfl)
theorem tp_91 : (Cond.initialized RX11) ∈ lw_tbl := tbC_in 0 _ (List.mem_of_getElem? (i := 13) rfl)
theorem tp_1127 : (Cond.methodLink RX11 82 yX11_stands0) ∈ lw_tbl := tbC_in 4 _ (List.mem_of_getElem? (i := 89) rfl)
theorem tp_1129 : (Cond.instanceMethod yX11_stands0) ∈ lw_tbl := tbC_in 4 _ (List.mem_of_getElem? (i := 91) rfl)
theorem tp_38 : (Cond.selects RX11 yX11_stands0 yX11_stands0) ∈ lw_tbl := tbC_in 7 _ (List.mem_of_getElem? (i := 38) rfl)
