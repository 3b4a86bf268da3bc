def woX10_demand : List Cond := [Cond.classLink RX10 251 "java/lang/IllegalArgumentException", Cond.initialized "java/lang/IllegalArgumentException", Cond.fieldLink RX10 61 "HiredEnemy" "refused" "[I"]
def wsX10_demand : List Cond := .code yX10_demand cX10_demand 2 none :: (woX10_demand ++ (wsX100 ++ ((vx_atS RX10 255 "java/lang/IllegalArgumentException" ["java/lang/RuntimeException", "java/lang/Exception"]).filter goodWord)))
theorem gwoX10_demand : gW woX10_demand := gW_of (by decide +kernel)
theorem gwn_10 : gW ((vx_atS RX10 255 "java/lang/IllegalArgumentException" ["java/lang/RuntimeException", "java/lang/Exception"]).filter goodWord) := gW_of (by decide +kernel)
theorem gwX10_demand : gW wsX10_demand := gW_cons (by decide) (gW_app gwoX10_demand (gW_app gwn_9 gwn_10))
theorem ihtX10_demand : ∀ w ∈ (vx_atS RX10 255 "java/lang/IllegalArgumentException" ["java/lang/RuntimeException", "java/lang/Exception"]).filter goodWord, w ∈ wsX10_demand := fun _ h => List.mem_cons_of_mem _ (List.mem_append_right _ (List.mem_append_right _ (h)))
def woX10_siege : List Cond := [Cond.fieldLink RX10 73 "HiredEnemy" "taped" "I", Cond.fieldLink RX10 27 "HiredEnemy" "draft" "LHiredEnemy$Plan;", Cond.fieldLink RX10 16 "HiredEnemy" "reader" "LHiredEnemy$Reader;", Cond.fieldLink RX10 9 "HiredEnemy" "tape" "[B", Cond.fieldLink RX10 23 "HiredEnemy" "plan" "LHiredEnemy$Plan;", Cond.fieldLink RX10 92 "HiredEnemy" "pactsTold" "I", Cond.fieldLink RX10 95 "HiredEnemy" "imagesKept" "I", Cond.fieldLink RX10 39 "HiredEnemy" "scene" "LHiredEnemy$Scene;", Cond.fieldLink RX10 99 "HiredEnemy$Plan" "walls" "I", Cond.methodLink RX10 81 yX10_demand, Cond.instanceMethod yX10_demand, Cond.selects RX10 yX10_demand yX10_demand, Cond.initialized RX10, Cond.initialized "java/lang/IllegalArgumentException", Cond.methodLink RX10 85 yX6_clear, Cond.instanceMethod yX6_clear, Cond.selects RX6 yX6_clear yX6_clear, Cond.initialized RX6, Cond.methodLink RX10 88 yX7_read, Cond.instanceMethod yX7_read, Cond.selects RX7 yX7_read yX7_read, Cond.initialized RX7, Cond.static Lib.Math.min.name, Cond.initialized "java/lang/Math", Cond.sameMethod "HiredEnemy$Telling" "HiredEnemy$Telling" "mostParts" "()I", Cond.initialized RX5, Cond.sameMethod "HiredEnemy$Telling" "HiredEnemy$Telling" "words" "()Ljava/lang/String;", Cond.initialized RJ0, Cond.initialized RJ1, Cond.initialized RJ3, Cond.initialized RJ2, Cond.sameMethod "HiredEnemy$Telling" "HiredEnemy$Telling" "isFull" "(I)Z", Cond.sameMethod "HiredEnemy$Telling" "HiredEnemy$Telling" "numbers" "(I)I", Cond.sameMethod "HiredEnemy$Telling" "HiredEnemy$Telling" "low" "(II)I", Cond.sameMethod "HiredEnemy$Telling" "HiredEnemy$Telling" "high" "(II)I", Cond.sameMethod "HiredEnemy$Telling" "HiredEnemy$Telling" "store" "(I[I)V", Cond.methodLink RX10 98 yX8_begin, Cond.instanceMethod yX8_begin, Cond.selects RX8 yX8_begin yX8_begin, Cond.initialized RX8, Cond.initialized RX4, Cond.initialized RJ7, Cond.initialized RX2, Cond.initialized RX3]
def wsX10_siege : List Cond := .code yX10_siege cX10_siege 4 (some .int) :: (woX10_siege ++ (wsX100 ++ (wsX60 ++ (wsX70 ++ (wsX50 ++ (wsX80 ++ (wsX40 ++ (wsX20 ++ (wsX30 ++ (wsX10_demand ++ (wsX6_clear ++ (wsX7_read ++ (wsX8_begin)))))))))))))
theorem gwoX10_siege : gW woX10_siege := gW_of (by decide +kernel)
theorem gwX10_siege : gW wsX10_siege := gW_cons (by decide) (gW_app gwoX10_siege (gW_app gwn_9 (gW_app gwn_3 (gW_app gwn_7 (gW_app gwn_6 (gW_app gwn_8 (gW_app gwn_1 (gW_app gwn_4 (gW_app gwn_5 (gW_app gwX10_demand (gW_app gwX6_clear (gW_app gwX7_read gwX8_begin))))))))))))
def woX10_contract : List Cond := [Cond.fieldLink RX10 73 "HiredEnemy" "taped" "I", Cond.fieldLink RX10 92 "HiredEnemy" "pactsTold" "I", Cond.fieldLink RX10 16 "HiredEnemy" "reader" "LHiredEnemy$Reader;", Cond.fieldLink RX10 102 "HiredEnemy$Reader" "place" "I", Cond.fieldLink RX10 32 "HiredEnemy" "pacts" "[LHiredEnemy$Pact;", Cond.fieldLink RX10 23 "HiredEnemy" "plan" "LHiredEnemy$Plan;", Cond.fieldLink RX10 99 "HiredEnemy$Plan" "walls" "I", Cond.fieldLink RX10 9 "HiredEnemy" "tape" "[B", Cond.methodLink RX10 81 yX10_demand, Cond.instanceMethod yX10_demand, Cond.selects RX10 yX10_demand yX10_demand, Cond.initialized RX10, Cond.initialized "java/lang/IllegalArgumentException", Cond.methodLink RX10 105 yX5_clear, Cond.instanceMethod yX5_clear, Cond.selects RX5 yX5_clear yX5_clear, Cond.initialized RX5, Cond.initialized RJ7, Cond.methodLink RX10 88 yX7_read, Cond.instanceMethod yX7_read, Cond.selects RX7 yX7_read yX7_read, Cond.initialized RX7, Cond.static Lib.Math.min.name, Cond.initialized "java/lang/Math", Cond.sameMethod "HiredEnemy$Telling" "HiredEnemy$Telling" "mostParts" "()I", Cond.initialized RX6, Cond.sameMethod "HiredEnemy$Telling" "HiredEnemy$Telling" "words" "()Ljava/lang/String;", Cond.initialized RJ0, Cond.initialized RJ1, Cond.initialized RJ3, Cond.initialized RJ2, Cond.sameMethod "HiredEnemy$Telling" "HiredEnemy$Telling" "isFull" "(I)Z", Cond.sameMethod "HiredEnemy$Telling" "HiredEnemy$Telling" "numbers" "(I)I", Cond.sameMethod "HiredEnemy$Telling" "HiredEnemy$Telling" "low" "(II)I", Cond.sameMethod "HiredEnemy$Telling" "HiredEnemy$Telling" "high" "(II)I", Cond.sameMethod "HiredEnemy$Telling" "HiredEnemy$Telling" "store" "(I[I)V"]
def wsX10_contract : List Cond := .code yX10_contract cX10_contract 4 (some .int) :: (woX10_contract ++ (wsX100 ++ (wsX70 ++ (wsX60 ++ (wsX50 ++ (wsX10_demand ++ (wsX5_clear ++ (wsX7_read))))))))
theorem gwoX10_contract : gW woX10_contract := gW_of (by decide +kernel)
theorem gwX10_contract : gW wsX10_contract := gW_cons (by decide) (gW_app gwoX10_contract (gW_app gwn_9 (gW_app gwn_7 (gW_app gwn_3 (gW_app gwn_6 (gW_app gwX10_demand (gW_app gwX5_clear gwX7_read)))))))
def woX10_fault : List Cond := [Cond.fieldLink RX10 16 "HiredEnemy" "reader" "LHiredEnemy$Reader;", Cond.fieldLink RX10 102 "HiredEnemy$Reader" "place" "I"]
def wsX10_fault : List Cond := .code yX10_fault cX10_fault 1 (some .int) :: (woX10_fault ++ (wsX100 ++ (wsX70)))
theorem gwoX10_fault : gW woX10_fault := gW_of (by decide +kernel)
theorem gwX10_fault : gW wsX10_fault := gW_cons (by decide) (gW_app gwoX10_fault (gW_app gwn_9 gwn_7))
def woX10_told : List Cond := [Cond.fieldLink RX10 39 "HiredEnemy" "scene" "LHiredEnemy$Scene;", Cond.fieldLink RX10 66 "HiredEnemy$Scene" "course" "LHiredEnemy$Course;", Cond.fieldLink RX10 111 "HiredEnemy$Course" "now" "[I", Cond.fieldLink RX10 23 "HiredEnemy" "plan" "LHiredEnemy$Plan;", Cond.fieldLink RX10 99 "HiredEnemy$Plan" "walls" "I", Cond.fieldLink RX10 92 "HiredEnemy" "pactsTold" "I", Cond.fieldLink RX10 114 "HiredEnemy$Course" "month" "I", Cond.methodLink RX10 107 yX10_within, Cond.static yX10_within, Cond.initialized RX10, Cond.methodLink RX10 81 yX10_demand, Cond.instanceMethod yX10_demand, Cond.selects RX10 yX10_demand yX10_demand, Cond.initialized "java/lang/IllegalArgumentException"]
def wsX10_told : List Cond := .code yX10_told cX10_told 4 (some .int) :: (woX10_told ++ (wsX100 ++ (wsX80 ++ (wsX40 ++ (wsX60 ++ (wsX10_within ++ (wsX10_demand)))))))
theorem gwoX10_told : gW woX10_told := gW_of (by decide +kernel)
theorem gwX10_told : gW wsX10_told := gW_cons (by decide) (gW_app gwoX10_told (gW_app gwn_9 (gW_app gwn_8 (gW_app gwn_1 (gW_app gwn_3 (gW_app gwX10_within gwX10_demand))))))
def woX10_demandWall : List Cond := [Cond.classLink RX10 258 "java/lang/IndexOutOfBoundsException", Cond.initialized "java/lang/IndexOutOfBoundsException", Cond.fieldLink RX10 23 "HiredEnemy" "plan" "LHiredEnemy$Plan;", Cond.fieldLink RX10 99 "HiredEnemy$Plan" "walls" "I", Cond.fieldLink RX10 61 "HiredEnemy" "refused" "[I", Cond.methodLink RX10 107 yX10_within, Cond.static yX10_within, Cond.initialized RX10]
def wsX10_demandWall : List Cond := .code yX10_demandWall cX10_demandWall 2 none :: (woX10_demandWall ++ (wsX100 ++ (wsX60 ++ ((vx_atS RX10 262 "java/lang/IndexOutOfBoundsException" ["java/lang/RuntimeException", "java/lang/Exception"]).filter goodWord ++ (wsX10_within)))))
theorem gwoX10_demandWall : gW woX10_demandWall := gW_of (by decide +kernel)
theorem gwn_11 : gW ((vx_atS RX10 262 "java/lang/IndexOutOfBoundsException" ["java/lang/RuntimeException", "java/lang/Exception"]).filter goodWord) := gW_of (by decide +kernel)
theorem gwX10_demandWall : gW wsX10_demandWall := gW_cons (by decide) (gW_app gwoX10_demandWall (gW_app gwn_9 (gW_app gwn_3 (gW_app gwn_11 gwX10_within))))
theorem ihtX10_demandWall : ∀ w ∈ (vx_atS RX10 262 "java/lang/IndexOutOfBoundsException" ["java/lang/RuntimeException", "java/lang/Exception"]).filter goodWord, w ∈ wsX10_demandWall := fun _ h => List.mem_cons_of_mem _ (List.mem_append_right _ (List.mem_append_right _ (List.mem_append_right _ (List.mem_append_left _ h))))
def woX10_wall : List Cond := [Cond.fieldLink RX10 23 "HiredEnemy" "plan" "LHiredEnemy$Plan;", Cond.fieldLink RX10 120 "HiredEnemy$Plan" "strength" "[I", Cond.fieldLink RX10 39 "HiredEnemy" "scene" "LHiredEnemy$Scene;", Cond.fieldLink RX10 66 "HiredEnemy$Scene" "course" "LHiredEnemy$Course;", Cond.fieldLink RX10 111 "HiredEnemy$Course" "now" "[I", Cond.fieldLink RX10 123 "HiredEnemy$Plan" "mended" "[I", Cond.methodLink RX10 117 yX10_demandWall, Cond.instanceMethod yX10_demandWall, Cond.selects RX10 yX10_demandWall yX10_demandWall, Cond.initialized RX10, Cond.initialized "java/lang/IndexOutOfBoundsException", Cond.methodLink RX10 107 yX10_within, Cond.static yX10_within, Cond.methodLink RX10 81 yX10_demand, Cond.instanceMethod yX10_demand, Cond.selects RX10 yX10_demand yX10_demand, Cond.initialized "java/lang/IllegalArgumentException"]
def wsX10_wall : List Cond := .code yX10_wall cX10_wall 3 (some .int) :: (woX10_wall ++ (wsX100 ++ (wsX60 ++ (wsX80 ++ (wsX40 ++ (wsX10_demandWall ++ (wsX10_within ++ (wsX10_demand))))))))
theorem gwoX10_wall : gW woX10_wall := gW_of (by decide +kernel)
theorem gwX10_wall : gW wsX10_wall := gW_cons (by decide) (gW_app gwoX10_wall (gW_app gwn_9 (gW_app gwn_3 (gW_app gwn_8 (gW_app gwn_1 (gW_app gwX10_demandWall (gW_app gwX10_within gwX10_demand)))))))
def woX10_demandContract : List Cond := [Cond.classLink RX10 263 "java/util/NoSuchElementException", Cond.initialized "java/util/NoSuchElementException", Cond.fieldLink RX10 92 "HiredEnemy" "pactsTold" "I", Cond.fieldLink RX10 61 "HiredEnemy" "refused" "[I", Cond.methodLink RX10 107 yX10_within, Cond.static yX10_within, Cond.initialized RX10]
def wsX10_demandContract : List Cond := .code yX10_demandContract cX10_demandContract 2 none :: (woX10_demandContract ++ (wsX100 ++ ((nz_at RX10 267).filter goodWord ++ (wsX10_within))))
theorem gwoX10_demandContract : gW woX10_demandContract := gW_of (by decide +kernel)
theorem gwn_12 : gW ((nz_at RX10 267).filter goodWord) := gW_of (by decide +kernel)
theorem gwX10_demandContract : gW wsX10_demandContract := gW_cons (by decide) (gW_app gwoX10_demandContract (gW_app gwn_9 (gW_app gwn_12 gwX10_within)))
theorem ihtX10_demandContract : ∀ w ∈ (nz_at RX10 267).filter goodWord, w ∈ wsX10_demandContract := fun _ h => List.mem_cons_of_mem _ (List.mem_append_right _ (List.mem_append_right _ (List.mem_append_left _ h)))
def woX10_rule : List Cond := [Cond.fieldLink RX10 32 "HiredEnemy" "pacts" "[LHiredEnemy$Pact;", Cond.methodLink RX10 126 yX10_demandContract, Cond.instanceMethod yX10_demandContract, Cond.selects RX10 yX10_demandContract yX10_demandContract, Cond.initialized RX10, Cond.initialized "java/util/NoSuchElementException", Cond.methodLink RX10 107 yX10_within, Cond.static yX10_within, Cond.methodLink RX10 81 yX10_demand, Cond.instanceMethod yX10_demand, Cond.selects RX10 yX10_demand yX10_demand, Cond.initialized "java/lang/IllegalArgumentException", Cond.methodLink RX10 129 yX5_answer, Cond.instanceMethod yX5_answer, Cond.selects RX5 yX5_answer yX5_answer, Cond.initialized RX5]
def wsX10_rule : List Cond := .code yX10_rule cX10_rule 3 (some .int) :: (woX10_rule ++ (wsX100 ++ (wsX50 ++ (wsX10_demandContract ++ (wsX10_within ++ (wsX10_demand ++ (wsX5_answer)))))))
theorem gwoX10_rule : gW woX10_rule := gW_of (by decide +kernel)
theorem gwX10_rule : gW wsX10_rule := gW_cons (by decide) (gW_app gwoX10_rule (gW_app gwn_9 (gW_app gwn_6 (gW_app gwX10_demandContract (gW_app gwX10_within (gW_app gwX10_demand gwX5_answer))))))
def woX10_wants : List Cond := [Cond.fieldLink RX10 23 "HiredEnemy" "plan" "LHiredEnemy$Plan;", Cond.methodLink RX10 107 yX10_within, Cond.static yX10_within, Cond.initialized RX10, Cond.methodLink RX10 81 yX10_demand, Cond.instanceMethod yX10_demand, Cond.selects RX10 yX10_demand yX10_demand, Cond.initialized "java/lang/IllegalArgumentException", Cond.methodLink RX10 133 yX6_wanted, Cond.instanceMethod yX6_wanted, Cond.selects RX6 yX6_wanted yX6_wanted, Cond.initialized RX6]
def wsX10_wants : List Cond := .code yX10_wants cX10_wants 3 (some .int) :: (woX10_wants ++ (wsX100 ++ (wsX60 ++ (wsX10_within ++ (wsX10_demand ++ (wsX6_wanted))))))
theorem gwoX10_wants : gW woX10_wants := gW_of (by decide +kernel)
theorem gwX10_wants : gW wsX10_wants := gW_cons (by decide) (gW_app gwoX10_wants (gW_app gwn_9 (gW_app gwn_3 (gW_app gwX10_within (gW_app gwX10_demand gwX6_wanted)))))
def woX10_demandContractOrNone : List Cond := [Cond.methodLink RX10 126 yX10_demandContract, Cond.instanceMethod yX10_demandContract, Cond.selects RX10 yX10_demandContract yX10_demandContract, Cond.initialized RX10, Cond.initialized "java/util/NoSuchElementException"]
def wsX10_demandContractOrNone : List Cond := .code yX10_demandContractOrNone cX10_demandContractOrNone 2 none :: (woX10_demandContractOrNone ++ (wsX100 ++ (wsX10_demandContract)))
theorem gwoX10_demandContractOrNone : gW woX10_demandContractOrNone := gW_of (by decide +kernel)
theorem gwX10_demandContractOrNone : gW wsX10_demandContractOrNone := gW_cons (by decide) (gW_app gwoX10_demandContractOrNone (gW_app gwn_9 gwX10_demandContract))
def woX10_sign : List Cond := [Cond.fieldLink RX10 39 "HiredEnemy" "scene" "LHiredEnemy$Scene;", Cond.fieldLink RX10 66 "HiredEnemy$Scene" "course" "LHiredEnemy$Course;", Cond.fieldLink RX10 111 "HiredEnemy$Course" "now" "[I", Cond.methodLink RX10 137 yX10_demandContractOrNone, Cond.instanceMethod yX10_demandContractOrNone, Cond.selects RX10 yX10_demandContractOrNone yX10_demandContractOrNone, Cond.initialized RX10, Cond.initialized "java/util/NoSuchElementException", Cond.methodLink RX10 140 yX4_pledge, Cond.instanceMethod yX4_pledge, Cond.selects RX4 yX4_pledge yX4_pledge, Cond.initialized RX4]
def wsX10_sign : List Cond := .code yX10_sign cX10_sign 3 (some .int) :: (woX10_sign ++ (wsX100 ++ (wsX80 ++ (wsX40 ++ (wsX10_demandContractOrNone ++ (wsX4_pledge))))))
theorem gwoX10_sign : gW woX10_sign := gW_of (by decide +kernel)
theorem gwX10_sign : gW wsX10_sign := gW_cons (by decide) (gW_app gwoX10_sign (gW_app gwn_9 (gW_app gwn_8 (gW_app gwn_1 (gW_app gwX10_demandContractOrNone gwX4_pledge)))))
def woX10_inForce : List Cond := [Cond.fieldLink RX10 111 "HiredEnemy$Course" "now" "[I", Cond.fieldLink RX10 32 "HiredEnemy" "pacts" "[LHiredEnemy$Pact;", Cond.methodLink RX10 107 yX10_within, Cond.static yX10_within, Cond.initialized RX10]
def wsX10_inForce : List Cond := .code yX10_inForce cX10_inForce 3 (some (.object "HiredEnemy$Pact")) :: (woX10_inForce ++ (wsX40 ++ (wsX100 ++ (wsX10_within))))
theorem gwoX10_inForce : gW woX10_inForce := gW_of (by decide +kernel)
theorem gwX10_inForce : gW wsX10_inForce := gW_cons (by decide) (gW_app gwoX10_inForce (gW_app gwn_1 (gW_app gwn_9 gwX10_within)))
def woX10_months : List Cond := [Cond.fieldLink RX10 39 "HiredEnemy" "scene" "LHiredEnemy$Scene;", Cond.fieldLink RX10 66 "HiredEnemy$Scene" "course" "LHiredEnemy$Course;", Cond.fieldLink RX10 114 "HiredEnemy$Course" "month" "I", Cond.fieldLink RX10 143 "HiredEnemy$Scene" "annals" "LHiredEnemy$Annals;", Cond.fieldLink RX10 23 "HiredEnemy" "plan" "LHiredEnemy$Plan;", Cond.methodLink RX10 107 yX10_within, Cond.static yX10_within, Cond.initialized RX10, Cond.methodLink RX10 81 yX10_demand, Cond.instanceMethod yX10_demand, Cond.selects RX10 yX10_demand yX10_demand, Cond.initialized "java/lang/IllegalArgumentException", Cond.methodLink RX10 147 yX0_keep, Cond.instanceMethod yX0_keep, Cond.selects RX0 yX0_keep yX0_keep, Cond.initialized RX0, Cond.native arraycopyName, Cond.static arraycopyName, Cond.initialized "java/lang/System", Cond.methodLink RX10 153 yX10_inForce, Cond.instanceMethod yX10_inForce, Cond.selects RX10 yX10_inForce yX10_inForce, Cond.methodLink RX10 157 yX4_pass, Cond.instanceMethod yX4_pass, Cond.selects RX4 yX4_pass yX4_pass, Cond.initialized RX4, Cond.static Lib.Math.max.name, Cond.initialized "java/lang/Math", Cond.initialized RJ7, Cond.static Lib.Math.min.name, Cond.initialized RX5, Cond.initialized RX6, Cond.static Lib.Math.abs.name, Cond.methodLink RX10 161 yX0_lead, Cond.instanceMethod yX0_lead, Cond.selects RX0 yX0_lead yX0_lead]
def wsX10_months : List Cond := .code yX10_months cX10_months 3 (some .int) :: (woX10_months ++ (wsX100 ++ (wsX80 ++ (wsX40 ++ (wsX00 ++ (wsX60 ++ (wsX50 ++ (wsX10_within ++ (wsX10_demand ++ (wsX0_keep ++ (wsX10_inForce ++ (wsX4_pass ++ (wsX0_lead)))))))))))))
theorem gwoX10_months : gW woX10_months := gW_of (by decide +kernel)
theorem gwX10_months : gW wsX10_months := gW_cons (by decide) (gW_app gwoX10_months (gW_app gwn_9 (gW_app gwn_8 (gW_app gwn_1 (gW_app gwn_0 (gW_app gwn_3 (gW_app gwn_6 (gW_app gwX10_within (gW_app gwX10_demand (gW_app gwX0_keep (gW_app gwX10_inForce (gW_app gwX4_pass gwX0_lead))))))))))))
def woX10_undo : List Cond := [Cond.fieldLink RX10 39 "HiredEnemy" "scene" "LHiredEnemy$Scene;", Cond.fieldLink RX10 66 "HiredEnemy$Scene" "course" "LHiredEnemy$Course;", Cond.fieldLink RX10 114 "HiredEnemy$Course" "month" "I", Cond.methodLink RX10 164 Lib.Math.min.name, Cond.static Lib.Math.min.name, Cond.initialized "java/lang/Math", Cond.code Lib.Math.min.name Lib.Math.min.code 2 (some .int), Cond.fieldLink RX10 143 "HiredEnemy$Scene" "annals" "LHiredEnemy$Annals;", Cond.methodLink RX10 107 yX10_within, Cond.static yX10_within, Cond.initialized RX10, Cond.methodLink RX10 81 yX10_demand, Cond.instanceMethod yX10_demand, Cond.selects RX10 yX10_demand yX10_demand, Cond.initialized "java/lang/IllegalArgumentException", Cond.methodLink RX10 169 yX0_giveBack, Cond.instanceMethod yX0_giveBack, Cond.selects RX0 yX0_giveBack yX0_giveBack, Cond.initialized RX0, Cond.native arraycopyName, Cond.static arraycopyName, Cond.initialized "java/lang/System"]
def wsX10_undo : List Cond := .code yX10_undo cX10_undo 3 (some .int) :: (woX10_undo ++ (wsX100 ++ (wsX80 ++ (wsX40 ++ (wsX00 ++ (wsX10_within ++ (wsX10_demand ++ (wsX0_giveBack))))))))
theorem gwoX10_undo : gW woX10_undo := gW_of (by decide +kernel)
theorem gwX10_undo : gW wsX10_undo := gW_cons (by decide) (gW_app gwoX10_undo (gW_app gwn_9 (gW_app gwn_8 (gW_app gwn_1 (gW_app gwn_0 (gW_app gwX10_within (gW_app gwX10_demand gwX0_giveBack)))))))
def woX10_sums : List Cond := [Cond.fieldLink RX10 39 "HiredEnemy" "scene" "LHiredEnemy$Scene;", Cond.fieldLink RX10 66 "HiredEnemy$Scene" "course" "LHiredEnemy$Course;", Cond.fieldLink RX10 111 "HiredEnemy$Course" "now" "[I", Cond.methodLink RX10 107 yX10_within, Cond.static yX10_within, Cond.initialized RX10, Cond.methodLink RX10 81 yX10_demand, Cond.instanceMethod yX10_demand, Cond.selects RX10 yX10_demand yX10_demand, Cond.initialized "java/lang/IllegalArgumentException"]
def wsX10_sums : List Cond := .code yX10_sums cX10_sums 2 (some .int) :: (woX10_sums ++ (wsX100 ++ (wsX80 ++ (wsX40 ++ (wsX10_within ++ (wsX10_demand))))))
theorem gwoX10_sums : gW woX10_sums := gW_of (by decide +kernel)
theorem gwX10_sums : gW wsX10_sums := gW_cons (by decide) (gW_app gwoX10_sums (gW_app gwn_9 (gW_app gwn_8 (gW_app gwn_1 (gW_app gwX10_within gwX10_demand)))))
def woX10_corks : List Cond := [Cond.fieldLink RX10 39 "HiredEnemy" "scene" "LHiredEnemy$Scene;", Cond.fieldLink RX10 66 "HiredEnemy$Scene" "course" "LHiredEnemy$Course;", Cond.fieldLink RX10 114 "HiredEnemy$Course" "month" "I", Cond.fieldLink RX10 143 "HiredEnemy$Scene" "annals" "LHiredEnemy$Annals;", Cond.methodLink RX10 117 yX10_demandWall, Cond.instanceMethod yX10_demandWall, Cond.selects RX10 yX10_demandWall yX10_demandWall, Cond.initialized RX10, Cond.initialized "java/lang/IndexOutOfBoundsException", Cond.methodLink RX10 107 yX10_within, Cond.static yX10_within, Cond.methodLink RX10 81 yX10_demand, Cond.instanceMethod yX10_demand, Cond.selects RX10 yX10_demand yX10_demand, Cond.initialized "java/lang/IllegalArgumentException", Cond.methodLink RX10 173 yX0_shotAt, Cond.instanceMethod yX0_shotAt, Cond.selects RX0 yX0_shotAt yX0_shotAt, Cond.initialized RX0]
def wsX10_corks : List Cond := .code yX10_corks cX10_corks 3 (some .int) :: (woX10_corks ++ (wsX100 ++ (wsX80 ++ (wsX40 ++ (wsX60 ++ (wsX00 ++ (wsX10_demandWall ++ (wsX10_within ++ (wsX10_demand ++ (wsX0_shotAt))))))))))
theorem gwoX10_corks : gW woX10_corks := gW_of (by decide +kernel)
theorem gwX10_corks : gW wsX10_corks := gW_cons (by decide) (gW_app gwoX10_corks (gW_app gwn_9 (gW_app gwn_8 (gW_app gwn_1 (gW_app gwn_3 (gW_app gwn_0 (gW_app gwX10_demandWall (gW_app gwX10_within (gW_app gwX10_demand gwX0_shotAt)))))))))
def woX10_passTried : List Cond := [Cond.fieldLink RX10 50 "HiredEnemy" "trial" "LHiredEnemy$Course;", Cond.fieldLink RX10 114 "HiredEnemy$Course" "month" "I", Cond.fieldLink RX10 23 "HiredEnemy" "plan" "LHiredEnemy$Plan;", Cond.methodLink RX10 153 yX10_inForce, Cond.instanceMethod yX10_inForce, Cond.selects RX10 yX10_inForce yX10_inForce, Cond.initialized RX10, Cond.methodLink RX10 157 yX4_pass, Cond.instanceMethod yX4_pass, Cond.selects RX4 yX4_pass yX4_pass, Cond.initialized RX4, Cond.static Lib.Math.max.name, Cond.initialized "java/lang/Math", Cond.initialized RJ7, Cond.static Lib.Math.min.name, Cond.initialized RX5, Cond.initialized RX6, Cond.static Lib.Math.abs.name]
def wsX10_passTried : List Cond := .code yX10_passTried cX10_passTried 3 none :: (woX10_passTried ++ (wsX100 ++ (wsX40 ++ (wsX60 ++ (wsX50 ++ (wsX10_inForce ++ (wsX4_pass)))))))
theorem gwoX10_passTried : gW woX10_passTried := gW_of (by decide +kernel)
theorem gwX10_passTried : gW wsX10_passTried := gW_cons (by decide) (gW_app gwoX10_passTried (gW_app gwn_9 (gW_app gwn_1 (gW_app gwn_3 (gW_app gwn_6 (gW_app gwX10_inForce gwX4_pass))))))
def woX10_trySigned : List Cond := [Cond.fieldLink RX10 50 "HiredEnemy" "trial" "LHiredEnemy$Course;", Cond.fieldLink RX10 39 "HiredEnemy" "scene" "LHiredEnemy$Scene;", Cond.fieldLink RX10 66 "HiredEnemy$Scene" "course" "LHiredEnemy$Course;", Cond.fieldLink RX10 111 "HiredEnemy$Course" "now" "[I", Cond.methodLink RX10 183 yX4_take, Cond.instanceMethod yX4_take, Cond.selects RX4 yX4_take yX4_take, Cond.initialized RX4, Cond.native arraycopyName, Cond.static arraycopyName, Cond.initialized "java/lang/System", Cond.methodLink RX10 140 yX4_pledge, Cond.instanceMethod yX4_pledge, Cond.selects RX4 yX4_pledge yX4_pledge, Cond.methodLink RX10 186 yX10_passTried, Cond.instanceMethod yX10_passTried, Cond.selects RX10 yX10_passTried yX10_passTried, Cond.initialized RX10, Cond.static Lib.Math.max.name, Cond.initialized "java/lang/Math", Cond.initialized RJ7, Cond.static Lib.Math.min.name, Cond.initialized RX5, Cond.initialized RX6, Cond.static Lib.Math.abs.name]
def wsX10_trySigned : List Cond := .code yX10_trySigned cX10_trySigned 3 (some .int) :: (woX10_trySigned ++ (wsX100 ++ (wsX80 ++ (wsX40 ++ (wsX60 ++ (wsX50 ++ (wsX4_take ++ (wsX4_pledge ++ (wsX10_passTried)))))))))
theorem gwoX10_trySigned : gW woX10_trySigned := gW_of (by decide +kernel)
theorem gwX10_trySigned : gW wsX10_trySigned := gW_cons (by decide) (gW_app gwoX10_trySigned (gW_app gwn_9 (gW_app gwn_8 (gW_app gwn_1 (gW_app gwn_3 (gW_app gwn_6 (gW_app gwX4_take (gW_app gwX4_pledge gwX10_passTried))))))))
def woX10_would : List Cond := [Cond.fieldLink RX10 50 "HiredEnemy" "trial" "LHiredEnemy$Course;", Cond.fieldLink RX10 111 "HiredEnemy$Course" "now" "[I", Cond.methodLink RX10 137 yX10_demandContractOrNone, Cond.instanceMethod yX10_demandContractOrNone, Cond.selects RX10 yX10_demandContractOrNone yX10_demandContractOrNone, Cond.initialized RX10, Cond.initialized "java/util/NoSuchElementException", Cond.methodLink RX10 107 yX10_within, Cond.static yX10_within, Cond.methodLink RX10 81 yX10_demand, Cond.instanceMethod yX10_demand, Cond.selects RX10 yX10_demand yX10_demand, Cond.initialized "java/lang/IllegalArgumentException", Cond.methodLink RX10 176 yX10_trySigned, Cond.instanceMethod yX10_trySigned, Cond.selects RX10 yX10_trySigned yX10_trySigned, Cond.initialized RX4, Cond.native arraycopyName, Cond.static arraycopyName, Cond.initialized "java/lang/System", Cond.static Lib.Math.max.name, Cond.initialized "java/lang/Math", Cond.initialized RJ7, Cond.static Lib.Math.min.name, Cond.initialized RX5, Cond.initialized RX6, Cond.static Lib.Math.abs.name]
def wsX10_would : List Cond := .code yX10_would cX10_would 4 (some .int) :: (woX10_would ++ (wsX100 ++ (wsX40 ++ (wsX80 ++ (wsX60 ++ (wsX50 ++ (wsX10_demandContractOrNone ++ (wsX10_within ++ (wsX10_demand ++ (wsX10_trySigned))))))))))
theorem gwoX10_would : gW woX10_would := gW_of (by decide +kernel)
theorem gwX10_would : gW wsX10_would := gW_cons (by decide) (gW_app gwoX10_would (gW_app gwn_9 (gW_app gwn_1 (gW_app gwn_8 (gW_app gwn_3 (gW_app gwn_6 (gW_app gwX10_demandContractOrNone (gW_app gwX10_within (gW_app gwX10_demand gwX10_trySigned)))))))))
def woX10_best : List Cond := [Cond.fieldLink RX10 92 "HiredEnemy" "pactsTold" "I", Cond.methodLink RX10 107 yX10_within, Cond.static yX10_within, Cond.initialized RX10, Cond.methodLink RX10 81 yX10_demand, Cond.instanceMethod yX10_demand, Cond.selects RX10 yX10_demand yX10_demand, Cond.initialized "java/lang/IllegalArgumentException", Cond.methodLink RX10 176 yX10_trySigned, Cond.instanceMethod yX10_trySigned, Cond.selects RX10 yX10_trySigned yX10_trySigned, Cond.initialized RX4, Cond.native arraycopyName, Cond.static arraycopyName, Cond.initialized "java/lang/System", Cond.static Lib.Math.max.name, Cond.initialized "java/lang/Math", Cond.initialized RJ7, Cond.static Lib.Math.min.name, Cond.initialized RX5, Cond.initialized RX6, Cond.static Lib.Math.abs.name]
def wsX10_best : List Cond := .code yX10_best cX10_best 7 (some .int) :: (woX10_best ++ (wsX100 ++ (wsX80 ++ (wsX40 ++ (wsX60 ++ (wsX50 ++ (wsX10_within ++ (wsX10_demand ++ (wsX10_trySigned)))))))))
theorem gwoX10_best : gW woX10_best := gW_of (by decide +kernel)
theorem gwX10_best : gW wsX10_best := gW_cons (by decide) (gW_app gwoX10_best (gW_app gwn_9 (gW_app gwn_8 (gW_app gwn_1 (gW_app gwn_3 (gW_app gwn_6 (gW_app gwX10_within (gW_app gwX10_demand gwX10_trySigned))))))))
def woX10_offer : List Cond := [Cond.fieldLink RX10 32 "HiredEnemy" "pacts" "[LHiredEnemy$Pact;", Cond.fieldLink RX10 23 "HiredEnemy" "plan" "LHiredEnemy$Plan;", Cond.methodLink RX10 107 yX10_within, Cond.static yX10_within, Cond.initialized RX10, Cond.methodLink RX10 81 yX10_demand, Cond.instanceMethod yX10_demand, Cond.selects RX10 yX10_demand yX10_demand, Cond.initialized "java/lang/IllegalArgumentException", Cond.methodLink RX10 133 yX6_wanted, Cond.instanceMethod yX6_wanted, Cond.selects RX6 yX6_wanted yX6_wanted, Cond.initialized RX6, Cond.methodLink RX10 179 yX5_propose, Cond.instanceMethod yX5_propose, Cond.selects RX5 yX5_propose yX5_propose, Cond.initialized RX5, Cond.initialized RJ7, Cond.methodLink RX10 176 yX10_trySigned, Cond.instanceMethod yX10_trySigned, Cond.selects RX10 yX10_trySigned yX10_trySigned, Cond.initialized RX4, Cond.native arraycopyName, Cond.static arraycopyName, Cond.initialized "java/lang/System", Cond.static Lib.Math.max.name, Cond.initialized "java/lang/Math", Cond.static Lib.Math.min.name, Cond.static Lib.Math.abs.name]
def wsX10_offer : List Cond := .code yX10_offer cX10_offer 9 (some .int) :: (woX10_offer ++ (wsX100 ++ (wsX60 ++ (wsX50 ++ (wsX80 ++ (wsX40 ++ (wsX10_within ++ (wsX10_demand ++ (wsX6_wanted ++ (wsX5_propose ++ (wsX10_trySigned)))))))))))
theorem gwoX10_offer : gW woX10_offer := gW_of (by decide +kernel)
theorem gwX10_offer : gW wsX10_offer := gW_cons (by decide) (gW_app gwoX10_offer (gW_app gwn_9 (gW_app gwn_3 (gW_app gwn_6 (gW_app gwn_8 (gW_app gwn_1 (gW_app gwX10_within (gW_app gwX10_demand (gW_app gwX6_wanted (gW_app gwX5_propose gwX10_trySigned))))))))))
def woX10_nearest : List Cond := [Cond.fieldLink RX10 23 "HiredEnemy" "plan" "LHiredEnemy$Plan;", Cond.methodLink RX10 107 yX10_within, Cond.static yX10_within, Cond.initialized RX10, Cond.methodLink RX10 81 yX10_demand, Cond.instanceMethod yX10_demand, Cond.selects RX10 yX10_demand yX10_demand, Cond.initialized "java/lang/IllegalArgumentException", Cond.methodLink RX10 133 yX6_wanted, Cond.instanceMethod yX6_wanted, Cond.selects RX6 yX6_wanted yX6_wanted, Cond.initialized RX6]
def wsX10_nearest : List Cond := .code yX10_nearest cX10_nearest 4 (some .int) :: (woX10_nearest ++ (wsX100 ++ (wsX60 ++ (wsX10_within ++ (wsX10_demand ++ (wsX6_wanted))))))
theorem gwoX10_nearest : gW woX10_nearest := gW_of (by decide +kernel)
theorem gwX10_nearest : gW wsX10_nearest := gW_cons (by decide) (gW_app gwoX10_nearest (gW_app gwn_9 (gW_app gwn_3 (gW_app gwX10_within (gW_app gwX10_demand gwX6_wanted)))))
def woX10_stop : List Cond := [Cond.fieldLink RX10 50 "HiredEnemy" "trial" "LHiredEnemy$Course;", Cond.fieldLink RX10 39 "HiredEnemy" "scene" "LHiredEnemy$Scene;", Cond.fieldLink RX10 66 "HiredEnemy$Scene" "course" "LHiredEnemy$Course;", Cond.fieldLink RX10 111 "HiredEnemy$Course" "now" "[I", Cond.methodLink RX10 107 yX10_within, Cond.static yX10_within, Cond.initialized RX10, Cond.methodLink RX10 81 yX10_demand, Cond.instanceMethod yX10_demand, Cond.selects RX10 yX10_demand yX10_demand, Cond.initialized "java/lang/IllegalArgumentException", Cond.methodLink RX10 183 yX4_take, Cond.instanceMethod yX4_take, Cond.selects RX4 yX4_take yX4_take, Cond.initialized RX4, Cond.native arraycopyName, Cond.static arraycopyName, Cond.initialized "java/lang/System", Cond.methodLink RX10 186 yX10_passTried, Cond.instanceMethod yX10_passTried, Cond.selects RX10 yX10_passTried yX10_passTried, Cond.static Lib.Math.max.name, Cond.initialized "java/lang/Math", Cond.initialized RJ7, Cond.static Lib.Math.min.name, Cond.initialized RX5, Cond.initialized RX6, Cond.static Lib.Math.abs.name, Cond.methodLink RX10 140 yX4_pledge, Cond.instanceMethod yX4_pledge, Cond.selects RX4 yX4_pledge yX4_pledge]
def wsX10_stop : List Cond := .code yX10_stop cX10_stop 6 (some .int) :: (woX10_stop ++ (wsX100 ++ (wsX80 ++ (wsX40 ++ (wsX60 ++ (wsX50 ++ (wsX10_within ++ (wsX10_demand ++ (wsX4_take ++ (wsX10_passTried ++ (wsX4_pledge)))))))))))
theorem gwoX10_stop : gW woX10_stop := gW_of (by decide +kernel)
theorem gwX10_stop : gW wsX10_stop := gW_cons (by decide) (gW_app gwoX10_stop (gW_app gwn_9 (gW_app gwn_8 (gW_app gwn_1 (gW_app gwn_3 (gW_app gwn_6 (gW_app gwX10_within (gW_app gwX10_demand (gW_app gwX4_take (gW_app gwX10_passTried gwX4_pledge))))))))))
def woX10_odds : List Cond := [Cond.fieldLink RX10 39 "HiredEnemy" "scene" "LHiredEnemy$Scene;", Cond.fieldLink RX10 189 "HiredEnemy$Scene" "belief" "LHiredEnemy$Belief;", Cond.methodLink RX10 107 yX10_within, Cond.static yX10_within, Cond.initialized RX10, Cond.methodLink RX10 81 yX10_demand, Cond.instanceMethod yX10_demand, Cond.selects RX10 yX10_demand yX10_demand, Cond.initialized "java/lang/IllegalArgumentException", Cond.methodLink RX10 193 yX2_start, Cond.instanceMethod yX2_start, Cond.selects RX2 yX2_start yX2_start, Cond.initialized RX2]
def wsX10_odds : List Cond := .code yX10_odds cX10_odds 3 none :: (woX10_odds ++ (wsX100 ++ (wsX80 ++ (wsX20 ++ (wsX10_within ++ (wsX10_demand ++ (wsX2_start)))))))
theorem gwoX10_odds : gW woX10_odds := gW_of (by decide +kernel)
theorem gwX10_odds : gW wsX10_odds := gW_cons (by decide) (gW_app gwoX10_odds (gW_app gwn_9 (gW_app gwn_8 (gW_app gwn_4 (gW_app gwX10_within (gW_app gwX10_demand gwX2_start))))))
def woX10_kind : List Cond := [Cond.fieldLink RX10 39 "HiredEnemy" "scene" "LHiredEnemy$Scene;", Cond.fieldLink RX10 189 "HiredEnemy$Scene" "belief" "LHiredEnemy$Belief;", Cond.fieldLink RX10 199 "HiredEnemy$Belief" "ifReal" "[I", Cond.fieldLink RX10 202 "HiredEnemy$Belief" "ifHired" "[I", Cond.methodLink RX10 107 yX10_within, Cond.static yX10_within, Cond.initialized RX10, Cond.methodLink RX10 81 yX10_demand, Cond.instanceMethod yX10_demand, Cond.selects RX10 yX10_demand yX10_demand, Cond.initialized "java/lang/IllegalArgumentException"]
def wsX10_kind : List Cond := .code yX10_kind cX10_kind 4 none :: (woX10_kind ++ (wsX100 ++ (wsX80 ++ (wsX20 ++ (wsX10_within ++ (wsX10_demand))))))
theorem gwoX10_kind : gW woX10_kind := gW_of (by decide +kernel)
theorem gwX10_kind : gW wsX10_kind := gW_cons (by decide) (gW_app gwoX10_kind (gW_app gwn_9 (gW_app gwn_8 (gW_app gwn_4 (gW_app gwX10_within gwX10_demand)))))
def woX10_seen : List Cond := [Cond.fieldLink RX10 39 "HiredEnemy" "scene" "LHiredEnemy$Scene;", Cond.fieldLink RX10 189 "HiredEnemy$Scene" "belief" "LHiredEnemy$Belief;", Cond.fieldLink RX10 199 "HiredEnemy$Belief" "ifReal" "[I", Cond.fieldLink RX10 202 "HiredEnemy$Belief" "ifHired" "[I", Cond.methodLink RX10 107 yX10_within, Cond.static yX10_within, Cond.initialized RX10, Cond.methodLink RX10 81 yX10_demand, Cond.instanceMethod yX10_demand, Cond.selects RX10 yX10_demand yX10_demand, Cond.initialized "java/lang/IllegalArgumentException", Cond.methodLink RX10 205 yX2_add, Cond.instanceMethod yX2_add, Cond.selects RX2 yX2_add yX2_add, Cond.initialized RX2]
def wsX10_seen : List Cond := .code yX10_seen cX10_seen 3 (some .int) :: (woX10_seen ++ (wsX100 ++ (wsX80 ++ (wsX20 ++ (wsX10_within ++ (wsX10_demand ++ (wsX2_add)))))))
theorem gwoX10_seen : gW woX10_seen := gW_of (by decide +kernel)
theorem gwX10_seen : gW wsX10_seen := gW_cons (by decide) (gW_app gwoX10_seen (gW_app gwn_9 (gW_app gwn_8 (gW_app gwn_4 (gW_app gwX10_within (gW_app gwX10_demand gwX2_add))))))
def woX10_spy : List Cond := [Cond.fieldLink RX10 39 "HiredEnemy" "scene" "LHiredEnemy$Scene;", Cond.fieldLink RX10 189 "HiredEnemy$Scene" "belief" "LHiredEnemy$Belief;", Cond.methodLink RX10 107 yX10_within, Cond.static yX10_within, Cond.initialized RX10, Cond.methodLink RX10 81 yX10_demand, Cond.instanceMethod yX10_demand, Cond.selects RX10 yX10_demand yX10_demand, Cond.initialized "java/lang/IllegalArgumentException", Cond.methodLink RX10 205 yX2_add, Cond.instanceMethod yX2_add, Cond.selects RX2 yX2_add yX2_add, Cond.initialized RX2]
def wsX10_spy : List Cond := .code yX10_spy cX10_spy 4 (some .int) :: (woX10_spy ++ (wsX100 ++ (wsX80 ++ (wsX20 ++ (wsX10_within ++ (wsX10_demand ++ (wsX2_add)))))))
theorem gwoX10_spy : gW woX10_spy := gW_of (by decide +kernel)
theorem gwX10_spy : gW wsX10_spy := gW_cons (by decide) (gW_app gwoX10_spy (gW_app gwn_9 (gW_app gwn_8 (gW_app gwn_4 (gW_app gwX10_within (gW_app gwX10_demand gwX2_add))))))
def woX10_believed : List Cond := [Cond.fieldLink RX10 39 "HiredEnemy" "scene" "LHiredEnemy$Scene;", Cond.fieldLink RX10 189 "HiredEnemy$Scene" "belief" "LHiredEnemy$Belief;", Cond.methodLink RX10 107 yX10_within, Cond.static yX10_within, Cond.initialized RX10, Cond.methodLink RX10 81 yX10_demand, Cond.instanceMethod yX10_demand, Cond.selects RX10 yX10_demand yX10_demand, Cond.initialized "java/lang/IllegalArgumentException", Cond.methodLink RX10 208 yX2_leastTerm, Cond.instanceMethod yX2_leastTerm, Cond.selects RX2 yX2_leastTerm yX2_leastTerm, Cond.initialized RX2]
def wsX10_believed : List Cond := .code yX10_believed cX10_believed 2 (some .long) :: (woX10_believed ++ (wsX100 ++ (wsX80 ++ (wsX20 ++ (wsX10_within ++ (wsX10_demand ++ (wsX2_leastTerm)))))))
theorem gwoX10_believed : gW woX10_believed := gW_of (by decide +kernel)
theorem gwX10_believed : gW wsX10_believed := gW_cons (by decide) (gW_app gwoX10_believed (gW_app gwn_9 (gW_app gwn_8 (gW_app gwn_4 (gW_app gwX10_within (gW_app gwX10_demand gwX2_leastTerm))))))
def woX10_earnest : List Cond := [Cond.fieldLink RX10 57 "HiredEnemy" "battle" "LHiredEnemy$Battle;", Cond.fieldLink RX10 23 "HiredEnemy" "plan" "LHiredEnemy$Plan;", Cond.methodLink RX10 107 yX10_within, Cond.static yX10_within, Cond.initialized RX10, Cond.methodLink RX10 81 yX10_demand, Cond.instanceMethod yX10_demand, Cond.selects RX10 yX10_demand yX10_demand, Cond.initialized "java/lang/IllegalArgumentException", Cond.methodLink RX10 212 yX1_prepare, Cond.instanceMethod yX1_prepare, Cond.selects RX1 yX1_prepare yX1_prepare, Cond.initialized RX1, Cond.static Lib.Math.min.name, Cond.initialized "java/lang/Math", Cond.methodLink RX10 215 yX1_all, Cond.instanceMethod yX1_all, Cond.selects RX1 yX1_all yX1_all, Cond.methodLink RX10 219 yX1_safe, Cond.instanceMethod yX1_safe, Cond.selects RX1 yX1_safe yX1_safe, Cond.static Lib.Math.max.name, Cond.methodLink RX10 223 yX1_sure, Cond.instanceMethod yX1_sure, Cond.selects RX1 yX1_sure yX1_sure]
def wsX10_earnest : List Cond := .code yX10_earnest cX10_earnest 4 (some .int) :: (woX10_earnest ++ (wsX100 ++ (wsX60 ++ (wsX10 ++ (wsX10_within ++ (wsX10_demand ++ (wsX1_prepare ++ (wsX1_all ++ (wsX1_safe ++ (wsX1_sure))))))))))
theorem gwoX10_earnest : gW woX10_earnest := gW_of (by decide +kernel)
theorem gwX10_earnest : gW wsX10_earnest := gW_cons (by decide) (gW_app gwoX10_earnest (gW_app gwn_9 (gW_app gwn_3 (gW_app gwn_2 (gW_app gwX10_within (gW_app gwX10_demand (gW_app gwX1_prepare (gW_app gwX1_all (gW_app gwX1_safe gwX1_sure)))))))))
def woX10_stands : List Cond := [Cond.fieldLink RX10 57 "HiredEnemy" "battle" "LHiredEnemy$Battle;", Cond.fieldLink RX10 23 "HiredEnemy" "plan" "LHiredEnemy$Plan;", Cond.fieldLink RX10 226 "HiredEnemy$Battle" "safeDigits" "I", Cond.methodLink RX10 107 yX10_within, Cond.static yX10_within, Cond.initialized RX10, Cond.methodLink RX10 81 yX10_demand, Cond.instanceMethod yX10_demand, Cond.selects RX10 yX10_demand yX10_demand, Cond.initialized "java/lang/IllegalArgumentException", Cond.methodLink RX10 212 yX1_prepare, Cond.instanceMethod yX1_prepare, Cond.selects RX1 yX1_prepare yX1_prepare, Cond.initialized RX1, Cond.static Lib.Math.min.name, Cond.initialized "java/lang/Math", Cond.methodLink RX10 215 yX1_all, Cond.instanceMethod yX1_all, Cond.selects RX1 yX1_all yX1_all, Cond.methodLink RX10 219 yX1_safe, Cond.instanceMethod yX1_safe, Cond.selects RX1 yX1_safe yX1_safe, Cond.static Lib.Math.max.name]
def wsX10_stands : List Cond := .code yX10_stands cX10_stands 3 (some .int) :: (woX10_stands ++ (wsX100 ++ (wsX10 ++ (wsX60 ++ (wsX10_within ++ (wsX10_demand ++ (wsX1_prepare ++ (wsX1_all ++ (wsX1_safe)))))))))
theorem gwoX10_stands : gW woX10_stands := gW_of (by decide +kernel)
theorem gwX10_stands : gW wsX10_stands := gW_cons (by decide) (gW_app gwoX10_stands (gW_app gwn_9 (gW_app gwn_2 (gW_app gwn_3 (gW_app gwX10_within (gW_app gwX10_demand (gW_app gwX1_prepare (gW_app gwX1_all gwX1_safe))))))))
def woX10_show : List Cond := [Cond.fieldLink RX10 57 "HiredEnemy" "battle" "LHiredEnemy$Battle;", Cond.fieldLink RX10 23 "HiredEnemy" "plan" "LHiredEnemy$Plan;", Cond.fieldLink RX10 229 "HiredEnemy$Battle" "walls" "I", Cond.methodLink RX10 107 yX10_within, Cond.static yX10_within, Cond.initialized RX10, Cond.methodLink RX10 81 yX10_demand, Cond.instanceMethod yX10_demand, Cond.selects RX10 yX10_demand yX10_demand, Cond.initialized "java/lang/IllegalArgumentException", Cond.methodLink RX10 212 yX1_prepare, Cond.instanceMethod yX1_prepare, Cond.selects RX1 yX1_prepare yX1_prepare, Cond.initialized RX1, Cond.static Lib.Math.min.name, Cond.initialized "java/lang/Math", Cond.methodLink RX10 215 yX1_all, Cond.instanceMethod yX1_all, Cond.selects RX1 yX1_all yX1_all, Cond.methodLink RX10 219 yX1_safe, Cond.instanceMethod yX1_safe, Cond.selects RX1 yX1_safe yX1_safe, Cond.static Lib.Math.max.name]
def wsX10_show : List Cond := .code yX10_show cX10_show 7 (some .int) :: (woX10_show ++ (wsX100 ++ (wsX10 ++ (wsX60 ++ (wsX10_within ++ (wsX10_demand ++ (wsX1_prepare ++ (wsX1_all ++ (wsX1_safe)))))))))
theorem gwoX10_show : gW woX10_show := gW_of (by decide +kernel)
theorem gwX10_show : gW wsX10_show := gW_cons (by decide) (gW_app gwoX10_show (gW_app gwn_9 (gW_app gwn_2 (gW_app gwn_3 (gW_app gwX10_within (gW_app gwX10_demand (gW_app gwX1_prepare (gW_app gwX1_all gwX1_safe))))))))
def woX10_offers : List Cond := [Cond.fieldLink RX10 39 "HiredEnemy" "scene" "LHiredEnemy$Scene;", Cond.fieldLink RX10 232 "HiredEnemy$Scene" "bids" "LHiredEnemy$Bids;", Cond.methodLink RX10 107 yX10_within, Cond.static yX10_within, Cond.initialized RX10, Cond.methodLink RX10 81 yX10_demand, Cond.instanceMethod yX10_demand, Cond.selects RX10 yX10_demand yX10_demand, Cond.initialized "java/lang/IllegalArgumentException", Cond.methodLink RX10 236 yX3_bid, Cond.instanceMethod yX3_bid, Cond.selects RX3 yX3_bid yX3_bid, Cond.initialized RX3]
def wsX10_offers : List Cond := .code yX10_offers cX10_offers 4 (some .int) :: (woX10_offers ++ (wsX100 ++ (wsX80 ++ (wsX30 ++ (wsX10_within ++ (wsX10_demand ++ (wsX3_bid)))))))
theorem gwoX10_offers : gW woX10_offers := gW_of (by decide +kernel)
theorem gwX10_offers : gW wsX10_offers := gW_cons (by decide) (gW_app gwoX10_offers (gW_app gwn_9 (gW_app gwn_8 (gW_app gwn_5 (gW_app gwX10_within (gW_app gwX10_demand gwX3_bid))))))
def woX10_most : List Cond := [Cond.fieldLink RX10 39 "HiredEnemy" "scene" "LHiredEnemy$Scene;", Cond.fieldLink RX10 232 "HiredEnemy$Scene" "bids" "LHiredEnemy$Bids;", Cond.methodLink RX10 239 yX3_mostCoin, Cond.instanceMethod yX3_mostCoin, Cond.selects RX3 yX3_mostCoin yX3_mostCoin, Cond.initialized RX3, Cond.static Lib.Math.max.name, Cond.initialized "java/lang/Math"]
def wsX10_most : List Cond := .code yX10_most cX10_most 1 (some .int) :: (woX10_most ++ (wsX100 ++ (wsX80 ++ (wsX30 ++ (wsX3_mostCoin)))))
theorem gwoX10_most : gW woX10_most := gW_of (by decide +kernel)
theorem gwX10_most : gW wsX10_most := gW_cons (by decide) (gW_app gwoX10_most (gW_app gwn_9 (gW_app gwn_8 (gW_app gwn_5 gwX3_mostCoin))))
def woX10_serves : List Cond := [Cond.fieldLink RX10 39 "HiredEnemy" "scene" "LHiredEnemy$Scene;", Cond.fieldLink RX10 232 "HiredEnemy$Scene" "bids" "LHiredEnemy$Bids;", Cond.methodLink RX10 107 yX10_within, Cond.static yX10_within, Cond.initialized RX10, Cond.methodLink RX10 81 yX10_demand, Cond.instanceMethod yX10_demand, Cond.selects RX10 yX10_demand yX10_demand, Cond.initialized "java/lang/IllegalArgumentException", Cond.methodLink RX10 242 yX3_served, Cond.instanceMethod yX3_served, Cond.selects RX3 yX3_served yX3_served, Cond.initialized RX3, Cond.static Lib.Math.max.name, Cond.initialized "java/lang/Math"]
def wsX10_serves : List Cond := .code yX10_serves cX10_serves 2 (some .int) :: (woX10_serves ++ (wsX100 ++ (wsX80 ++ (wsX30 ++ (wsX10_within ++ (wsX10_demand ++ (wsX3_served)))))))
theorem gwoX10_serves : gW woX10_serves := gW_of (by decide +kernel)
theorem gwX10_serves : gW wsX10_serves := gW_cons (by decide) (gW_app gwoX10_serves (gW_app gwn_9 (gW_app gwn_8 (gW_app gwn_5 (gW_app gwX10_within (gW_app gwX10_demand gwX3_served))))))
def woX10_image : List Cond := [Cond.fieldLink RX10 95 "HiredEnemy" "imagesKept" "I", Cond.fieldLink RX10 43 "HiredEnemy" "images" "[LHiredEnemy$Scene;", Cond.classLink RX10 36 RX8, Cond.instantiable RX8 4, Cond.initialized RX8, Cond.fieldLink RX10 39 "HiredEnemy" "scene" "LHiredEnemy$Scene;", Cond.instanceMethod yX8_init, Cond.instanceMethod objectInit, Cond.instantiable RX4 3, Cond.initialized RX4, Cond.instantiable RX0 1, Cond.initialized RX0, Cond.instantiable RX2 7, Cond.initialized RX2, Cond.instantiable RX3 2, Cond.initialized RX3, Cond.arrayClass .int, Cond.methodLink RX10 245 yX8_take, Cond.instanceMethod yX8_take, Cond.selects RX8 yX8_take yX8_take, Cond.native arraycopyName, Cond.static arraycopyName, Cond.initialized "java/lang/System", Cond.initialized RX10]
def wsX10_image : List Cond := .code yX10_image cX10_image 1 (some .int) :: (woX10_image ++ (wsX100 ++ (wsX80 ++ (wsX40 ++ (wsX00 ++ (wsX20 ++ (wsX30 ++ (wsX8_init ++ (wsX8_take)))))))))
theorem gwoX10_image : gW woX10_image := gW_of (by decide +kernel)
theorem gwX10_image : gW wsX10_image := gW_cons (by decide) (gW_app gwoX10_image (gW_app gwn_9 (gW_app gwn_8 (gW_app gwn_1 (gW_app gwn_0 (gW_app gwn_4 (gW_app gwn_5 (gW_app gwX8_init gwX8_take))))))))
def woX10_restore : List Cond := [Cond.fieldLink RX10 95 "HiredEnemy" "imagesKept" "I", Cond.fieldLink RX10 43 "HiredEnemy" "images" "[LHiredEnemy$Scene;", Cond.fieldLink RX10 39 "HiredEnemy" "scene" "LHiredEnemy$Scene;", Cond.methodLink RX10 245 yX8_take, Cond.instanceMethod yX8_take, Cond.selects RX8 yX8_take yX8_take, Cond.initialized RX8, Cond.initialized RX4, Cond.native arraycopyName, Cond.static arraycopyName, Cond.initialized "java/lang/System", Cond.initialized RX0, Cond.initialized RX10, Cond.initialized RX2, Cond.initialized RX3]
def wsX10_restore : List Cond := .code yX10_restore cX10_restore 1 (some .int) :: (woX10_restore ++ (wsX100 ++ (wsX80 ++ (wsX40 ++ (wsX00 ++ (wsX20 ++ (wsX30 ++ (wsX8_take))))))))
theorem gwoX10_restore : gW woX10_restore := gW_of (by decide +kernel)
theorem gwX10_restore : gW wsX10_restore := gW_cons (by decide) (gW_app gwoX10_restore (gW_app gwn_9 (gW_app gwn_8 (gW_app gwn_1 (gW_app gwn_0 (gW_app gwn_4 (gW_app gwn_5 gwX8_take)))))))
def woX10_status : List Cond := [Cond.fieldLink RX10 61 "HiredEnemy" "refused" "[I", Cond.methodLink RX10 107 yX10_within, Cond.static yX10_within, Cond.initialized RX10]
def wsX10_status : List Cond := .code yX10_status cX10_status 2 (some .int) :: (woX10_status ++ (wsX100 ++ (wsX10_within)))
theorem gwoX10_status : gW woX10_status := gW_of (by decide +kernel)
theorem gwX10_status : gW wsX10_status := gW_cons (by decide) (gW_app gwoX10_status (gW_app gwn_9 gwX10_within))
def woX10_count : List Cond := [Cond.fieldLink RX10 95 "HiredEnemy" "imagesKept" "I", Cond.fieldLink RX10 73 "HiredEnemy" "taped" "I", Cond.fieldLink RX10 39 "HiredEnemy" "scene" "LHiredEnemy$Scene;", Cond.fieldLink RX10 189 "HiredEnemy$Scene" "belief" "LHiredEnemy$Belief;", Cond.fieldLink RX10 248 "HiredEnemy$Belief" "things" "I"]
def wsX10_count : List Cond := .code yX10_count cX10_count 2 (some .int) :: (woX10_count ++ (wsX100 ++ (wsX80 ++ (wsX20))))
theorem gwoX10_count : gW woX10_count := gW_of (by decide +kernel)
theorem gwX10_count : gW wsX10_count := gW_cons (by decide) (gW_app gwoX10_count (gW_app gwn_9 (gW_app gwn_8 gwn_4)))
def woX11_tellsNothing : List Cond := [Cond.arrayClass .int, Cond.fieldLink RX11 20 "HiredEnemyModel" "readTold" "[I"]
def wsX11_tellsNothing : List Cond := .code yX11_tellsNothing cX11_tellsNothing 3 none :: (woX11_tellsNothing ++ (wsX110))
theorem gwoX11_tellsNothing : gW woX11_tellsNothing := gW_of (by decide +kernel)
theorem gwn_13 : gW wsX110 := gW_of (by decide +kernel)
theorem gwX11_tellsNothing : gW wsX11_tellsNothing := gW_cons (by decide) (gW_app gwoX11_tellsNothing gwn_13)
def woX11_stands0 : List Cond := [Cond.fieldLink RX11 23 "HiredEnemyModel" "told" "[I", Cond.fieldLink RX11 20 "HiredEnemyModel" "readTold" "[I", Cond.fieldLink RX11 46 "HiredEnemyModel" "s" "[I", Cond.fieldLink RX11 31 "HiredEnemyModel" "wall" "[[I", Cond.fieldLink RX11 28 "HiredEnemyModel" "readWall" "[[I", Cond.fieldLink RX11 55 "HiredEnemyModel" "shot" "[[I", Cond.fieldLink RX11 64 "HiredEnemyModel" "kind" "[[I", Cond.fieldLink RX11 70 "HiredEnemyModel" "offered" "[[I", Cond.fieldLink RX11 162 "HiredEnemyModel" "contracts" "I", Cond.fieldLink RX11 58 "HiredEnemyModel" "oddsA" "I", Cond.fieldLink RX11 61 "HiredEnemyModel" "oddsB" "I", Cond.fieldLink RX11 165 "HiredEnemyModel" "things" "I", Cond.fieldLink RX11 168 "HiredEnemyModel" "images" "I"]
def wsX11_stands0 : List Cond := .code yX11_stands0 cX11_stands0 3 none :: (woX11_stands0 ++ (wsX110))
theorem gwoX11_stands0 : gW woX11_stands0 := gW_of (by decide +kernel)
theorem gwX11_stands0 : gW wsX11_stands0 := gW_cons (by decide) (gW_app gwoX11_stands0 gwn_13)
def woX11_init : List Cond := [Cond.methodLink RX11 1 objectInit, Cond.instanceMethod objectInit, Cond.code objectInit ⟨#[0xb1]⟩ 1 none, Cond.fieldLink RX11 9 "HiredEnemyModel" "place" "I", Cond.arrayClass .int, Cond.fieldLink RX11 13 "HiredEnemyModel" "fed" "[I", Cond.fieldLink RX11 17 "HiredEnemyModel" "refused" "[I", Cond.fieldLink RX11 20 "HiredEnemyModel" "readTold" "[I", Cond.fieldLink RX11 23 "HiredEnemyModel" "told" "[I", Cond.classLink RX11 26 "[[I", Cond.fieldLink RX11 28 "HiredEnemyModel" "readWall" "[[I", Cond.fieldLink RX11 31 "HiredEnemyModel" "wall" "[[I", Cond.fieldLink RX11 34 "HiredEnemyModel" "readContract" "[I", Cond.fieldLink RX11 37 "HiredEnemyModel" "readBreach" "[I", Cond.fieldLink RX11 40 "HiredEnemyModel" "contract" "[[I", Cond.fieldLink RX11 43 "HiredEnemyModel" "breach" "[[I", Cond.fieldLink RX11 46 "HiredEnemyModel" "s" "[I", Cond.fieldLink RX11 49 "HiredEnemyModel" "aside" "[I", Cond.fieldLink RX11 52 "HiredEnemyModel" "gone" "[[I", Cond.fieldLink RX11 55 "HiredEnemyModel" "shot" "[[I", Cond.fieldLink RX11 58 "HiredEnemyModel" "oddsA" "I", Cond.fieldLink RX11 61 "HiredEnemyModel" "oddsB" "I", Cond.fieldLink RX11 64 "HiredEnemyModel" "kind" "[[I", Cond.fieldLink RX11 67 "HiredEnemyModel" "thing" "[[I", Cond.fieldLink RX11 70 "HiredEnemyModel" "offered" "[[I", Cond.fieldLink RX11 73 "HiredEnemyModel" "kept" "[[I", Cond.fieldLink RX11 76 "HiredEnemyModel" "rest" "[[I", Cond.methodLink RX11 79 yX11_tellsNothing, Cond.instanceMethod yX11_tellsNothing, Cond.selects RX11 yX11_tellsNothing yX11_tellsNothing, Cond.initialized RX11, Cond.methodLink RX11 82 yX11_stands0, Cond.instanceMethod yX11_stands0, Cond.selects RX11 yX11_stands0 yX11_stands0]
def wsX11_init : List Cond := .code yX11_init cX11_init 1 none :: (woX11_init ++ (wsX110 ++ (wsX11_tellsNothing ++ (wsX11_stands0))))
theorem gwoX11_init : gW woX11_init := gW_of (by decide +kernel)
theorem gwX11_init : gW wsX11_init := gW_cons (by decide) (gW_app gwoX11_init (gW_app gwn_13 (gW_app gwX11_tellsNothing gwX11_stands0)))
def woX11_bad : List Cond := [Cond.fieldLink RX11 85 "HiredEnemyModel" "thrown" "I", Cond.fieldLink RX11 17 "HiredEnemyModel" "refused" "[I"]
def wsX11_bad : List Cond := .code yX11_bad cX11_bad 4 (some .boolean) :: (woX11_bad ++ (wsX110))
theorem gwoX11_bad : gW woX11_bad := gW_of (by decide +kernel)
theorem gwX11_bad : gW wsX11_bad := gW_cons (by decide) (gW_app gwoX11_bad gwn_13)
def wsX11_in : List Cond := .code yX11_in cX11_in 3 (some .boolean) :: ([])
theorem gwX11_in : gW wsX11_in := gW_cons (by decide) gW_nil
def woX11_feed : List Cond := [Cond.fieldLink RX11 85 "HiredEnemyModel" "thrown" "I", Cond.fieldLink RX11 88 "HiredEnemyModel" "tape" "I", Cond.fieldLink RX11 13 "HiredEnemyModel" "fed" "[I"]
def wsX11_feed : List Cond := .code yX11_feed cX11_feed 8 (some .int) :: (woX11_feed ++ (wsX110))
theorem gwoX11_feed : gW woX11_feed := gW_of (by decide +kernel)
theorem gwX11_feed : gW wsX11_feed := gW_cons (by decide) (gW_app gwoX11_feed gwn_13)
def woX11_byteAt : List Cond := [Cond.fieldLink RX11 91 "HiredEnemyModel" "size" "I", Cond.fieldLink RX11 13 "HiredEnemyModel" "fed" "[I"]
def wsX11_byteAt : List Cond := .code yX11_byteAt cX11_byteAt 2 (some .int) :: (woX11_byteAt ++ (wsX110))
theorem gwoX11_byteAt : gW woX11_byteAt := gW_of (by decide +kernel)
theorem gwX11_byteAt : gW wsX11_byteAt := gW_cons (by decide) (gW_app gwoX11_byteAt gwn_13)
def woX11_blanks : List Cond := [Cond.fieldLink RX11 94 "HiredEnemyModel" "at" "I", Cond.methodLink RX11 97 yX11_byteAt, Cond.instanceMethod yX11_byteAt, Cond.selects RX11 yX11_byteAt yX11_byteAt, Cond.initialized RX11]
def wsX11_blanks : List Cond := .code yX11_blanks cX11_blanks 1 none :: (woX11_blanks ++ (wsX110 ++ (wsX11_byteAt)))
theorem gwoX11_blanks : gW woX11_blanks := gW_of (by decide +kernel)
theorem gwX11_blanks : gW wsX11_blanks := gW_cons (by decide) (gW_app gwoX11_blanks (gW_app gwn_13 gwX11_byteAt))
def woX11_wrong : List Cond := [Cond.fieldLink RX11 101 "HiredEnemyModel" "fault" "I", Cond.fieldLink RX11 104 "HiredEnemyModel" "faultAt" "I"]
def wsX11_wrong : List Cond := .code yX11_wrong cX11_wrong 3 none :: (woX11_wrong ++ (wsX110))
theorem gwoX11_wrong : gW woX11_wrong := gW_of (by decide +kernel)
theorem gwX11_wrong : gW wsX11_wrong := gW_cons (by decide) (gW_app gwoX11_wrong gwn_13)
def wsX11_isDigit : List Cond := .code yX11_isDigit cX11_isDigit 1 (some .boolean) :: ([])
theorem gwX11_isDigit : gW wsX11_isDigit := gW_cons (by decide) gW_nil
def woX11_number : List Cond := [Cond.fieldLink RX11 101 "HiredEnemyModel" "fault" "I", Cond.fieldLink RX11 94 "HiredEnemyModel" "at" "I", Cond.constant RX11 118 (100000), Cond.methodLink RX11 107 yX11_blanks, Cond.instanceMethod yX11_blanks, Cond.selects RX11 yX11_blanks yX11_blanks, Cond.initialized RX11, Cond.methodLink RX11 97 yX11_byteAt, Cond.instanceMethod yX11_byteAt, Cond.selects RX11 yX11_byteAt yX11_byteAt, Cond.methodLink RX11 110 yX11_isDigit, Cond.static yX11_isDigit, Cond.methodLink RX11 114 yX11_wrong, Cond.instanceMethod yX11_wrong, Cond.selects RX11 yX11_wrong yX11_wrong, Cond.methodLink RX11 119 yX11_in, Cond.static yX11_in]
def wsX11_number : List Cond := .code yX11_number cX11_number 5 (some .int) :: (woX11_number ++ (wsX110 ++ (wsX11_blanks ++ (wsX11_byteAt ++ (wsX11_isDigit ++ (wsX11_wrong ++ (wsX11_in)))))))
theorem gwoX11_number : gW woX11_number := gW_of (by decide +kernel)
theorem gwX11_number : gW wsX11_number := gW_cons (by decide) (gW_app gwoX11_number (gW_app gwn_13 (gW_app gwX11_blanks (gW_app gwX11_byteAt (gW_app gwX11_isDigit (gW_app gwX11_wrong gwX11_in))))))
def woX11_wordHere : List Cond := [Cond.fieldLink RX11 94 "HiredEnemyModel" "at" "I", Cond.methodLink RX11 107 yX11_blanks, Cond.instanceMethod yX11_blanks, Cond.selects RX11 yX11_blanks yX11_blanks, Cond.initialized RX11, Cond.methodLink RX11 97 yX11_byteAt, Cond.instanceMethod yX11_byteAt, Cond.selects RX11 yX11_byteAt yX11_byteAt]
def wsX11_wordHere : List Cond := .code yX11_wordHere cX11_wordHere 3 (some .int) :: (woX11_wordHere ++ (wsX110 ++ (wsX11_blanks ++ (wsX11_byteAt))))
theorem gwoX11_wordHere : gW woX11_wordHere := gW_of (by decide +kernel)
theorem gwX11_wordHere : gW wsX11_wordHere := gW_cons (by decide) (gW_app gwoX11_wordHere (gW_app gwn_13 (gW_app gwX11_blanks gwX11_byteAt)))
def wsX11_six : List Cond := .code yX11_six cX11_six 7 (some .int) :: ([])
theorem gwX11_six : gW wsX11_six := gW_cons (by decide) gW_nil
def woX11_isWord : List Cond := [Cond.fieldLink RX11 101 "HiredEnemyModel" "fault" "I", Cond.methodLink RX11 123 yX11_wordHere, Cond.instanceMethod yX11_wordHere, Cond.selects RX11 yX11_wordHere yX11_wordHere, Cond.initialized RX11, Cond.methodLink RX11 127 yX11_six, Cond.static yX11_six]
def wsX11_isWord : List Cond := .code yX11_isWord cX11_isWord 7 (some .boolean) :: (woX11_isWord ++ (wsX110 ++ (wsX11_wordHere ++ (wsX11_six))))
theorem gwoX11_isWord : gW woX11_isWord := gW_of (by decide +kernel)
theorem gwX11_isWord : gW wsX11_isWord := gW_cons (by decide) (gW_app gwoX11_isWord (gW_app gwn_13 (gW_app gwX11_wordHere gwX11_six)))
def woX11_skipWord : List Cond := [Cond.fieldLink RX11 94 "HiredEnemyModel" "at" "I", Cond.methodLink RX11 97 yX11_byteAt, Cond.instanceMethod yX11_byteAt, Cond.selects RX11 yX11_byteAt yX11_byteAt, Cond.initialized RX11]
def wsX11_skipWord : List Cond := .code yX11_skipWord cX11_skipWord 1 none :: (woX11_skipWord ++ (wsX110 ++ (wsX11_byteAt)))
theorem gwoX11_skipWord : gW woX11_skipWord := gW_of (by decide +kernel)
theorem gwX11_skipWord : gW wsX11_skipWord := gW_cons (by decide) (gW_app gwoX11_skipWord (gW_app gwn_13 gwX11_byteAt))
def woX11_closes : List Cond := [Cond.fieldLink RX11 101 "HiredEnemyModel" "fault" "I", Cond.fieldLink RX11 94 "HiredEnemyModel" "at" "I", Cond.methodLink RX11 107 yX11_blanks, Cond.instanceMethod yX11_blanks, Cond.selects RX11 yX11_blanks yX11_blanks, Cond.initialized RX11, Cond.methodLink RX11 97 yX11_byteAt, Cond.instanceMethod yX11_byteAt, Cond.selects RX11 yX11_byteAt yX11_byteAt, Cond.methodLink RX11 114 yX11_wrong, Cond.instanceMethod yX11_wrong, Cond.selects RX11 yX11_wrong yX11_wrong]
def wsX11_closes : List Cond := .code yX11_closes cX11_closes 1 none :: (woX11_closes ++ (wsX110 ++ (wsX11_blanks ++ (wsX11_byteAt ++ (wsX11_wrong)))))
theorem gwoX11_closes : gW woX11_closes := gW_of (by decide +kernel)
theorem gwX11_closes : gW wsX11_closes := gW_cons (by decide) (gW_app gwoX11_closes (gW_app gwn_13 (gW_app gwX11_blanks (gW_app gwX11_byteAt gwX11_wrong))))
def woX11_starts : List Cond := [Cond.fieldLink RX11 88 "HiredEnemyModel" "tape" "I", Cond.fieldLink RX11 91 "HiredEnemyModel" "size" "I", Cond.fieldLink RX11 94 "HiredEnemyModel" "at" "I", Cond.fieldLink RX11 101 "HiredEnemyModel" "fault" "I", Cond.fieldLink RX11 104 "HiredEnemyModel" "faultAt" "I", Cond.fieldLink RX11 131 "HiredEnemyModel" "clauses" "I", Cond.methodLink RX11 107 yX11_blanks, Cond.instanceMethod yX11_blanks, Cond.selects RX11 yX11_blanks yX11_blanks, Cond.initialized RX11]
def wsX11_starts : List Cond := .code yX11_starts cX11_starts 2 none :: (woX11_starts ++ (wsX110 ++ (wsX11_blanks)))
theorem gwoX11_starts : gW woX11_starts := gW_of (by decide +kernel)
theorem gwX11_starts : gW wsX11_starts := gW_cons (by decide) (gW_app gwoX11_starts (gW_app gwn_13 gwX11_blanks))
def woX11_kindHere : List Cond := [Cond.methodLink RX11 134 yX11_isWord, Cond.instanceMethod yX11_isWord, Cond.selects RX11 yX11_isWord yX11_isWord, Cond.initialized RX11]
def wsX11_kindHere : List Cond := .code yX11_kindHere cX11_kindHere 1 (some .int) :: (woX11_kindHere ++ (wsX110 ++ (wsX11_isWord)))
theorem gwoX11_kindHere : gW woX11_kindHere := gW_of (by decide +kernel)
theorem gwX11_kindHere : gW wsX11_kindHere := gW_cons (by decide) (gW_app gwoX11_kindHere (gW_app gwn_13 gwX11_isWord))
def woX11_clause : List Cond := [Cond.fieldLink RX11 94 "HiredEnemyModel" "at" "I", Cond.fieldLink RX11 131 "HiredEnemyModel" "clauses" "I", Cond.fieldLink RX11 20 "HiredEnemyModel" "readTold" "[I", Cond.fieldLink RX11 101 "HiredEnemyModel" "fault" "I", Cond.fieldLink RX11 28 "HiredEnemyModel" "readWall" "[[I", Cond.methodLink RX11 138 yX11_kindHere, Cond.instanceMethod yX11_kindHere, Cond.selects RX11 yX11_kindHere yX11_kindHere, Cond.initialized RX11, Cond.methodLink RX11 114 yX11_wrong, Cond.instanceMethod yX11_wrong, Cond.selects RX11 yX11_wrong yX11_wrong, Cond.methodLink RX11 141 yX11_skipWord, Cond.instanceMethod yX11_skipWord, Cond.selects RX11 yX11_skipWord yX11_skipWord, Cond.methodLink RX11 144 yX11_number, Cond.instanceMethod yX11_number, Cond.selects RX11 yX11_number yX11_number, Cond.methodLink RX11 148 yX11_closes, Cond.instanceMethod yX11_closes, Cond.selects RX11 yX11_closes yX11_closes]
def wsX11_clause : List Cond := .code yX11_clause cX11_clause 3 none :: (woX11_clause ++ (wsX110 ++ (wsX11_kindHere ++ (wsX11_wrong ++ (wsX11_skipWord ++ (wsX11_number ++ (wsX11_closes)))))))
theorem gwoX11_clause : gW woX11_clause := gW_of (by decide +kernel)
theorem gwX11_clause : gW wsX11_clause := gW_cons (by decide) (gW_app gwoX11_clause (gW_app gwn_13 (gW_app gwX11_kindHere (gW_app gwX11_wrong (gW_app gwX11_skipWord (gW_app gwX11_number gwX11_closes))))))
def woX11_siege : List Cond := [Cond.fieldLink RX11 85 "HiredEnemyModel" "thrown" "I", Cond.fieldLink RX11 88 "HiredEnemyModel" "tape" "I", Cond.fieldLink RX11 101 "HiredEnemyModel" "fault" "I", Cond.fieldLink RX11 94 "HiredEnemyModel" "at" "I", Cond.fieldLink RX11 91 "HiredEnemyModel" "size" "I", Cond.fieldLink RX11 104 "HiredEnemyModel" "faultAt" "I", Cond.fieldLink RX11 9 "HiredEnemyModel" "place" "I", Cond.fieldLink RX11 23 "HiredEnemyModel" "told" "[I", Cond.methodLink RX11 119 yX11_in, Cond.static yX11_in, Cond.initialized RX11, Cond.methodLink RX11 151 yX11_bad, Cond.instanceMethod yX11_bad, Cond.selects RX11 yX11_bad yX11_bad, Cond.methodLink RX11 155 yX11_starts, Cond.instanceMethod yX11_starts, Cond.selects RX11 yX11_starts yX11_starts, Cond.methodLink RX11 107 yX11_blanks, Cond.instanceMethod yX11_blanks, Cond.selects RX11 yX11_blanks yX11_blanks, Cond.methodLink RX11 79 yX11_tellsNothing, Cond.instanceMethod yX11_tellsNothing, Cond.selects RX11 yX11_tellsNothing yX11_tellsNothing, Cond.arrayClass .int, Cond.methodLink RX11 159 yX11_clause, Cond.instanceMethod yX11_clause, Cond.selects RX11 yX11_clause yX11_clause, Cond.methodLink RX11 82 yX11_stands0, Cond.instanceMethod yX11_stands0, Cond.selects RX11 yX11_stands0 yX11_stands0]
def wsX11_siege : List Cond := .code yX11_siege cX11_siege 2 (some .int) :: (woX11_siege ++ (wsX110 ++ (wsX11_in ++ (wsX11_bad ++ (wsX11_starts ++ (wsX11_tellsNothing ++ (wsX11_clause ++ (wsX11_blanks ++ (wsX11_stands0)))))))))
theorem gwoX11_siege : gW woX11_siege := gW_of (by decide +kernel)
theorem gwX11_siege : gW wsX11_siege := gW_cons (by decide) (gW_app gwoX11_siege (gW_app gwn_13 (gW_app gwX11_in (gW_app gwX11_bad (gW_app gwX11_starts (gW_app gwX11_tellsNothing (gW_app gwX11_clause (gW_app gwX11_blanks gwX11_stands0))))))))
def woX11_rules : List Cond := [Cond.fieldLink RX11 94 "HiredEnemyModel" "at" "I", Cond.fieldLink RX11 131 "HiredEnemyModel" "clauses" "I", Cond.fieldLink RX11 101 "HiredEnemyModel" "fault" "I", Cond.fieldLink RX11 23 "HiredEnemyModel" "told" "[I", Cond.fieldLink RX11 37 "HiredEnemyModel" "readBreach" "[I", Cond.fieldLink RX11 34 "HiredEnemyModel" "readContract" "[I", Cond.methodLink RX11 134 yX11_isWord, Cond.instanceMethod yX11_isWord, Cond.selects RX11 yX11_isWord yX11_isWord, Cond.initialized RX11, Cond.methodLink RX11 114 yX11_wrong, Cond.instanceMethod yX11_wrong, Cond.selects RX11 yX11_wrong yX11_wrong, Cond.methodLink RX11 141 yX11_skipWord, Cond.instanceMethod yX11_skipWord, Cond.selects RX11 yX11_skipWord yX11_skipWord, Cond.methodLink RX11 144 yX11_number, Cond.instanceMethod yX11_number, Cond.selects RX11 yX11_number yX11_number, Cond.methodLink RX11 148 yX11_closes, Cond.instanceMethod yX11_closes, Cond.selects RX11 yX11_closes yX11_closes]
def wsX11_rules : List Cond := .code yX11_rules cX11_rules 4 none :: (woX11_rules ++ (wsX110 ++ (wsX11_isWord ++ (wsX11_wrong ++ (wsX11_skipWord ++ (wsX11_number ++ (wsX11_closes)))))))
theorem gwoX11_rules : gW woX11_rules := gW_of (by decide +kernel)
theorem gwX11_rules : gW wsX11_rules := gW_cons (by decide) (gW_app gwoX11_rules (gW_app gwn_13 (gW_app gwX11_isWord (gW_app gwX11_wrong (gW_app gwX11_skipWord (gW_app gwX11_number gwX11_closes))))))
def woX11_contract : List Cond := [Cond.fieldLink RX11 85 "HiredEnemyModel" "thrown" "I", Cond.fieldLink RX11 88 "HiredEnemyModel" "tape" "I", Cond.fieldLink RX11 9 "HiredEnemyModel" "place" "I", Cond.fieldLink RX11 162 "HiredEnemyModel" "contracts" "I", Cond.fieldLink RX11 34 "HiredEnemyModel" "readContract" "[I", Cond.fieldLink RX11 37 "HiredEnemyModel" "readBreach" "[I", Cond.fieldLink RX11 101 "HiredEnemyModel" "fault" "I", Cond.fieldLink RX11 94 "HiredEnemyModel" "at" "I", Cond.fieldLink RX11 91 "HiredEnemyModel" "size" "I", Cond.fieldLink RX11 104 "HiredEnemyModel" "faultAt" "I", Cond.fieldLink RX11 43 "HiredEnemyModel" "breach" "[[I", Cond.fieldLink RX11 40 "HiredEnemyModel" "contract" "[[I", Cond.methodLink RX11 119 yX11_in, Cond.static yX11_in, Cond.initialized RX11, Cond.methodLink RX11 151 yX11_bad, Cond.instanceMethod yX11_bad, Cond.selects RX11 yX11_bad yX11_bad, Cond.methodLink RX11 155 yX11_starts, Cond.instanceMethod yX11_starts, Cond.selects RX11 yX11_starts yX11_starts, Cond.methodLink RX11 107 yX11_blanks, Cond.instanceMethod yX11_blanks, Cond.selects RX11 yX11_blanks yX11_blanks, Cond.methodLink RX11 171 yX11_rules, Cond.instanceMethod yX11_rules, Cond.selects RX11 yX11_rules yX11_rules]
def wsX11_contract : List Cond := .code yX11_contract cX11_contract 3 (some .int) :: (woX11_contract ++ (wsX110 ++ (wsX11_in ++ (wsX11_bad ++ (wsX11_starts ++ (wsX11_rules ++ (wsX11_blanks)))))))
theorem gwoX11_contract : gW woX11_contract := gW_of (by decide +kernel)
theorem gwX11_contract : gW wsX11_contract := gW_cons (by decide) (gW_app gwoX11_contract (gW_app gwn_13 (gW_app gwX11_in (gW_app gwX11_bad (gW_app gwX11_starts (gW_app gwX11_rules gwX11_blanks))))))
def woX11_fault : List Cond := [Cond.fieldLink RX11 85 "HiredEnemyModel" "thrown" "I", Cond.fieldLink RX11 9 "HiredEnemyModel" "place" "I"]
def wsX11_fault : List Cond := .code yX11_fault cX11_fault 1 (some .int) :: (woX11_fault ++ (wsX110))
theorem gwoX11_fault : gW woX11_fault := gW_of (by decide +kernel)
theorem gwX11_fault : gW wsX11_fault := gW_cons (by decide) (gW_app gwoX11_fault gwn_13)
def woX11_told : List Cond := [Cond.fieldLink RX11 85 "HiredEnemyModel" "thrown" "I", Cond.fieldLink RX11 23 "HiredEnemyModel" "told" "[I", Cond.fieldLink RX11 162 "HiredEnemyModel" "contracts" "I", Cond.fieldLink RX11 46 "HiredEnemyModel" "s" "[I", Cond.methodLink RX11 119 yX11_in, Cond.static yX11_in, Cond.initialized RX11, Cond.methodLink RX11 151 yX11_bad, Cond.instanceMethod yX11_bad, Cond.selects RX11 yX11_bad yX11_bad]
def wsX11_told : List Cond := .code yX11_told cX11_told 2 (some .int) :: (woX11_told ++ (wsX110 ++ (wsX11_in ++ (wsX11_bad))))
theorem gwoX11_told : gW woX11_told := gW_of (by decide +kernel)
theorem gwX11_told : gW wsX11_told := gW_cons (by decide) (gW_app gwoX11_told (gW_app gwn_13 (gW_app gwX11_in gwX11_bad)))
def woX11_isWall : List Cond := [Cond.fieldLink RX11 23 "HiredEnemyModel" "told" "[I", Cond.methodLink RX11 119 yX11_in, Cond.static yX11_in, Cond.initialized RX11]
def wsX11_isWall : List Cond := .code yX11_isWall cX11_isWall 2 (some .boolean) :: (woX11_isWall ++ (wsX110 ++ (wsX11_in)))
theorem gwoX11_isWall : gW woX11_isWall := gW_of (by decide +kernel)
theorem gwX11_isWall : gW wsX11_isWall := gW_cons (by decide) (gW_app gwoX11_isWall (gW_app gwn_13 gwX11_in))
def woX11_wall : List Cond := [Cond.fieldLink RX11 85 "HiredEnemyModel" "thrown" "I", Cond.fieldLink RX11 31 "HiredEnemyModel" "wall" "[[I", Cond.fieldLink RX11 46 "HiredEnemyModel" "s" "[I", Cond.methodLink RX11 174 yX11_isWall, Cond.instanceMethod yX11_isWall, Cond.selects RX11 yX11_isWall yX11_isWall, Cond.initialized RX11, Cond.methodLink RX11 119 yX11_in, Cond.static yX11_in, Cond.methodLink RX11 151 yX11_bad, Cond.instanceMethod yX11_bad, Cond.selects RX11 yX11_bad yX11_bad]
def wsX11_wall : List Cond := .code yX11_wall cX11_wall 3 (some .int) :: (woX11_wall ++ (wsX110 ++ (wsX11_isWall ++ (wsX11_bad ++ (wsX11_in)))))
theorem gwoX11_wall : gW woX11_wall := gW_of (by decide +kernel)
theorem gwX11_wall : gW wsX11_wall := gW_cons (by decide) (gW_app gwoX11_wall (gW_app gwn_13 (gW_app gwX11_isWall (gW_app gwX11_bad gwX11_in))))
def woX11_isContract : List Cond := [Cond.fieldLink RX11 162 "HiredEnemyModel" "contracts" "I", Cond.methodLink RX11 119 yX11_in, Cond.static yX11_in, Cond.initialized RX11]
def wsX11_isContract : List Cond := .code yX11_isContract cX11_isContract 2 (some .boolean) :: (woX11_isContract ++ (wsX110 ++ (wsX11_in)))
theorem gwoX11_isContract : gW woX11_isContract := gW_of (by decide +kernel)
theorem gwX11_isContract : gW wsX11_isContract := gW_cons (by decide) (gW_app gwoX11_isContract (gW_app gwn_13 gwX11_in))
def woX11_rule : List Cond := [Cond.fieldLink RX11 85 "HiredEnemyModel" "thrown" "I", Cond.fieldLink RX11 40 "HiredEnemyModel" "contract" "[[I", Cond.methodLink RX11 177 yX11_isContract, Cond.instanceMethod yX11_isContract, Cond.selects RX11 yX11_isContract yX11_isContract, Cond.initialized RX11, Cond.methodLink RX11 119 yX11_in, Cond.static yX11_in, Cond.methodLink RX11 151 yX11_bad, Cond.instanceMethod yX11_bad, Cond.selects RX11 yX11_bad yX11_bad]
def wsX11_rule : List Cond := .code yX11_rule cX11_rule 3 (some .int) :: (woX11_rule ++ (wsX110 ++ (wsX11_isContract ++ (wsX11_bad ++ (wsX11_in)))))
theorem gwoX11_rule : gW woX11_rule := gW_of (by decide +kernel)
theorem gwX11_rule : gW wsX11_rule := gW_cons (by decide) (gW_app gwoX11_rule (gW_app gwn_13 (gW_app gwX11_isContract (gW_app gwX11_bad gwX11_in))))
def woX11_wantsFor : List Cond := [Cond.fieldLink RX11 23 "HiredEnemyModel" "told" "[I"]
def wsX11_wantsFor : List Cond := .code yX11_wantsFor cX11_wantsFor 3 (some .int) :: (woX11_wantsFor ++ (wsX110))
theorem gwoX11_wantsFor : gW woX11_wantsFor := gW_of (by decide +kernel)
theorem gwX11_wantsFor : gW wsX11_wantsFor := gW_cons (by decide) (gW_app gwoX11_wantsFor gwn_13)
def woX11_wants : List Cond := [Cond.fieldLink RX11 85 "HiredEnemyModel" "thrown" "I", Cond.methodLink RX11 119 yX11_in, Cond.static yX11_in, Cond.initialized RX11, Cond.methodLink RX11 151 yX11_bad, Cond.instanceMethod yX11_bad, Cond.selects RX11 yX11_bad yX11_bad, Cond.methodLink RX11 180 yX11_wantsFor, Cond.instanceMethod yX11_wantsFor, Cond.selects RX11 yX11_wantsFor yX11_wantsFor]
def wsX11_wants : List Cond := .code yX11_wants cX11_wants 3 (some .int) :: (woX11_wants ++ (wsX110 ++ (wsX11_in ++ (wsX11_bad ++ (wsX11_wantsFor)))))
theorem gwoX11_wants : gW woX11_wants := gW_of (by decide +kernel)
theorem gwX11_wants : gW wsX11_wants := gW_cons (by decide) (gW_app gwoX11_wants (gW_app gwn_13 (gW_app gwX11_in (gW_app gwX11_bad gwX11_wantsFor))))
def woX11_signs : List Cond := [Cond.fieldLink RX11 46 "HiredEnemyModel" "s" "[I"]
def wsX11_signs : List Cond := .code yX11_signs cX11_signs 2 none :: (woX11_signs ++ (wsX110))
theorem gwoX11_signs : gW woX11_signs := gW_of (by decide +kernel)
theorem gwX11_signs : gW wsX11_signs := gW_cons (by decide) (gW_app gwoX11_signs gwn_13)
def woX11_sign : List Cond := [Cond.fieldLink RX11 85 "HiredEnemyModel" "thrown" "I", Cond.fieldLink RX11 46 "HiredEnemyModel" "s" "[I", Cond.methodLink RX11 177 yX11_isContract, Cond.instanceMethod yX11_isContract, Cond.selects RX11 yX11_isContract yX11_isContract, Cond.initialized RX11, Cond.methodLink RX11 151 yX11_bad, Cond.instanceMethod yX11_bad, Cond.selects RX11 yX11_bad yX11_bad, Cond.methodLink RX11 183 yX11_signs, Cond.instanceMethod yX11_signs, Cond.selects RX11 yX11_signs yX11_signs]
def wsX11_sign : List Cond := .code yX11_sign cX11_sign 3 (some .int) :: (woX11_sign ++ (wsX110 ++ (wsX11_isContract ++ (wsX11_bad ++ (wsX11_signs)))))
theorem gwoX11_sign : gW woX11_sign := gW_of (by decide +kernel)
theorem gwX11_sign : gW wsX11_sign := gW_cons (by decide) (gW_app gwoX11_sign (gW_app gwn_13 (gW_app gwX11_isContract (gW_app gwX11_bad gwX11_signs))))
def wsX11_less : List Cond := .code yX11_less cX11_less 2 (some .int) :: ([])
theorem gwX11_less : gW wsX11_less := gW_cons (by decide) gW_nil
def woX11_pays : List Cond := [Cond.fieldLink RX11 46 "HiredEnemyModel" "s" "[I", Cond.methodLink RX11 186 yX11_less, Cond.static yX11_less, Cond.initialized RX11]
def wsX11_pays : List Cond := .code yX11_pays cX11_pays 5 none :: (woX11_pays ++ (wsX110 ++ (wsX11_less)))
theorem gwoX11_pays : gW woX11_pays := gW_of (by decide +kernel)
theorem gwX11_pays : gW wsX11_pays := gW_cons (by decide) (gW_app gwoX11_pays (gW_app gwn_13 gwX11_less))
def woX11_fears : List Cond := [Cond.fieldLink RX11 46 "HiredEnemyModel" "s" "[I", Cond.methodLink RX11 186 yX11_less, Cond.static yX11_less, Cond.initialized RX11]
def wsX11_fears : List Cond := .code yX11_fears cX11_fears 2 none :: (woX11_fears ++ (wsX110 ++ (wsX11_less)))
theorem gwoX11_fears : gW woX11_fears := gW_of (by decide +kernel)
theorem gwX11_fears : gW wsX11_fears := gW_cons (by decide) (gW_app gwoX11_fears (gW_app gwn_13 gwX11_less))
def woX11_weakest : List Cond := [Cond.fieldLink RX11 23 "HiredEnemyModel" "told" "[I", Cond.fieldLink RX11 46 "HiredEnemyModel" "s" "[I"]
def wsX11_weakest : List Cond := .code yX11_weakest cX11_weakest 3 (some .int) :: (woX11_weakest ++ (wsX110))
theorem gwoX11_weakest : gW woX11_weakest := gW_of (by decide +kernel)
theorem gwX11_weakest : gW wsX11_weakest := gW_cons (by decide) (gW_app gwoX11_weakest gwn_13)
def woX11_shoots : List Cond := [Cond.fieldLink RX11 46 "HiredEnemyModel" "s" "[I", Cond.fieldLink RX11 23 "HiredEnemyModel" "told" "[I", Cond.fieldLink RX11 192 "HiredEnemyModel" "isReal" "Z", Cond.fieldLink RX11 55 "HiredEnemyModel" "shot" "[[I", Cond.fieldLink RX11 31 "HiredEnemyModel" "wall" "[[I", Cond.methodLink RX11 189 yX11_weakest, Cond.instanceMethod yX11_weakest, Cond.selects RX11 yX11_weakest yX11_weakest, Cond.initialized RX11, Cond.methodLink RX11 196 yX11_fears, Cond.instanceMethod yX11_fears, Cond.selects RX11 yX11_fears yX11_fears, Cond.methodLink RX11 199 yX11_pays, Cond.instanceMethod yX11_pays, Cond.selects RX11 yX11_pays yX11_pays]
def wsX11_shoots : List Cond := .code yX11_shoots cX11_shoots 7 none :: (woX11_shoots ++ (wsX110 ++ (wsX11_weakest ++ (wsX11_fears ++ (wsX11_pays)))))
theorem gwoX11_shoots : gW woX11_shoots := gW_of (by decide +kernel)
theorem gwX11_shoots : gW wsX11_shoots := gW_cons (by decide) (gW_app gwoX11_shoots (gW_app gwn_13 (gW_app gwX11_weakest (gW_app gwX11_fears gwX11_pays))))
def woX11_underContract : List Cond := [Cond.fieldLink RX11 40 "HiredEnemyModel" "contract" "[[I", Cond.fieldLink RX11 46 "HiredEnemyModel" "s" "[I", Cond.fieldLink RX11 43 "HiredEnemyModel" "breach" "[[I", Cond.methodLink RX11 183 yX11_signs, Cond.instanceMethod yX11_signs, Cond.selects RX11 yX11_signs yX11_signs, Cond.initialized RX11, Cond.methodLink RX11 199 yX11_pays, Cond.instanceMethod yX11_pays, Cond.selects RX11 yX11_pays yX11_pays, Cond.methodLink RX11 203 yX11_shoots, Cond.instanceMethod yX11_shoots, Cond.selects RX11 yX11_shoots yX11_shoots]
def wsX11_underContract : List Cond := .code yX11_underContract cX11_underContract 4 none :: (woX11_underContract ++ (wsX110 ++ (wsX11_signs ++ (wsX11_pays ++ (wsX11_shoots)))))
theorem gwoX11_underContract : gW woX11_underContract := gW_of (by decide +kernel)
theorem gwX11_underContract : gW wsX11_underContract := gW_cons (by decide) (gW_app gwoX11_underContract (gW_app gwn_13 (gW_app gwX11_signs (gW_app gwX11_pays gwX11_shoots))))
def woX11_mends : List Cond := [Cond.fieldLink RX11 23 "HiredEnemyModel" "told" "[I", Cond.fieldLink RX11 31 "HiredEnemyModel" "wall" "[[I", Cond.fieldLink RX11 46 "HiredEnemyModel" "s" "[I", Cond.methodLink RX11 186 yX11_less, Cond.static yX11_less, Cond.initialized RX11, Cond.methodLink RX11 199 yX11_pays, Cond.instanceMethod yX11_pays, Cond.selects RX11 yX11_pays yX11_pays]
def wsX11_mends : List Cond := .code yX11_mends cX11_mends 4 none :: (woX11_mends ++ (wsX110 ++ (wsX11_less ++ (wsX11_pays))))
theorem gwoX11_mends : gW woX11_mends := gW_of (by decide +kernel)
theorem gwX11_mends : gW wsX11_mends := gW_cons (by decide) (gW_app gwoX11_mends (gW_app gwn_13 (gW_app gwX11_less gwX11_pays)))
def woX11_deserts : List Cond := [Cond.fieldLink RX11 23 "HiredEnemyModel" "told" "[I", Cond.fieldLink RX11 46 "HiredEnemyModel" "s" "[I"]
def wsX11_deserts : List Cond := .code yX11_deserts cX11_deserts 4 none :: (woX11_deserts ++ (wsX110))
theorem gwoX11_deserts : gW woX11_deserts := gW_of (by decide +kernel)
theorem gwX11_deserts : gW wsX11_deserts := gW_cons (by decide) (gW_app gwoX11_deserts gwn_13)
def woX11_monthGoes : List Cond := [Cond.fieldLink RX11 46 "HiredEnemyModel" "s" "[I", Cond.fieldLink RX11 23 "HiredEnemyModel" "told" "[I", Cond.fieldLink RX11 40 "HiredEnemyModel" "contract" "[[I", Cond.methodLink RX11 199 yX11_pays, Cond.instanceMethod yX11_pays, Cond.selects RX11 yX11_pays yX11_pays, Cond.initialized RX11, Cond.methodLink RX11 207 yX11_underContract, Cond.instanceMethod yX11_underContract, Cond.selects RX11 yX11_underContract yX11_underContract, Cond.methodLink RX11 183 yX11_signs, Cond.instanceMethod yX11_signs, Cond.selects RX11 yX11_signs yX11_signs, Cond.methodLink RX11 210 yX11_mends, Cond.instanceMethod yX11_mends, Cond.selects RX11 yX11_mends yX11_mends, Cond.methodLink RX11 213 yX11_deserts, Cond.instanceMethod yX11_deserts, Cond.selects RX11 yX11_deserts yX11_deserts]
def wsX11_monthGoes : List Cond := .code yX11_monthGoes cX11_monthGoes 1 none :: (woX11_monthGoes ++ (wsX110 ++ (wsX11_pays ++ (wsX11_underContract ++ (wsX11_mends ++ (wsX11_deserts ++ (wsX11_signs)))))))
theorem gwoX11_monthGoes : gW woX11_monthGoes := gW_of (by decide +kernel)
theorem gwX11_monthGoes : gW wsX11_monthGoes := gW_cons (by decide) (gW_app gwoX11_monthGoes (gW_app gwn_13 (gW_app gwX11_pays (gW_app gwX11_underContract (gW_app gwX11_mends (gW_app gwX11_deserts gwX11_signs))))))
def woX11_puts : List Cond := [Cond.fieldLink RX11 49 "HiredEnemyModel" "aside" "[I", Cond.fieldLink RX11 46 "HiredEnemyModel" "s" "[I"]
def wsX11_puts : List Cond := .code yX11_puts cX11_puts 2 none :: (woX11_puts ++ (wsX110))
theorem gwoX11_puts : gW woX11_puts := gW_of (by decide +kernel)
theorem gwX11_puts : gW wsX11_puts := gW_cons (by decide) (gW_app gwoX11_puts gwn_13)
def woX11_takes : List Cond := [Cond.fieldLink RX11 46 "HiredEnemyModel" "s" "[I", Cond.fieldLink RX11 49 "HiredEnemyModel" "aside" "[I"]
def wsX11_takes : List Cond := .code yX11_takes cX11_takes 2 none :: (woX11_takes ++ (wsX110))
theorem gwoX11_takes : gW woX11_takes := gW_of (by decide +kernel)
theorem gwX11_takes : gW wsX11_takes := gW_cons (by decide) (gW_app gwoX11_takes gwn_13)
def woX11_goesOn : List Cond := [Cond.methodLink RX11 216 yX11_monthGoes, Cond.instanceMethod yX11_monthGoes, Cond.selects RX11 yX11_monthGoes yX11_monthGoes, Cond.initialized RX11]
def wsX11_goesOn : List Cond := .code yX11_goesOn cX11_goesOn 3 none :: (woX11_goesOn ++ (wsX110 ++ (wsX11_monthGoes)))
theorem gwoX11_goesOn : gW woX11_goesOn := gW_of (by decide +kernel)
theorem gwX11_goesOn : gW wsX11_goesOn := gW_cons (by decide) (gW_app gwoX11_goesOn (gW_app gwn_13 gwX11_monthGoes))
def woX11_months : List Cond := [Cond.fieldLink RX11 85 "HiredEnemyModel" "thrown" "I", Cond.fieldLink RX11 192 "HiredEnemyModel" "isReal" "Z", Cond.fieldLink RX11 46 "HiredEnemyModel" "s" "[I", Cond.fieldLink RX11 52 "HiredEnemyModel" "gone" "[[I", Cond.fieldLink RX11 55 "HiredEnemyModel" "shot" "[[I", Cond.methodLink RX11 119 yX11_in, Cond.static yX11_in, Cond.initialized RX11, Cond.methodLink RX11 151 yX11_bad, Cond.instanceMethod yX11_bad, Cond.selects RX11 yX11_bad yX11_bad, Cond.methodLink RX11 216 yX11_monthGoes, Cond.instanceMethod yX11_monthGoes, Cond.selects RX11 yX11_monthGoes yX11_monthGoes]
def wsX11_months : List Cond := .code yX11_months cX11_months 5 (some .int) :: (woX11_months ++ (wsX110 ++ (wsX11_in ++ (wsX11_bad ++ (wsX11_monthGoes)))))
theorem gwoX11_months : gW woX11_months := gW_of (by decide +kernel)
theorem gwX11_months : gW wsX11_months := gW_cons (by decide) (gW_app gwoX11_months (gW_app gwn_13 (gW_app gwX11_in (gW_app gwX11_bad gwX11_monthGoes))))
def woX11_undo : List Cond := [Cond.fieldLink RX11 85 "HiredEnemyModel" "thrown" "I", Cond.fieldLink RX11 46 "HiredEnemyModel" "s" "[I", Cond.fieldLink RX11 52 "HiredEnemyModel" "gone" "[[I", Cond.methodLink RX11 119 yX11_in, Cond.static yX11_in, Cond.initialized RX11, Cond.methodLink RX11 151 yX11_bad, Cond.instanceMethod yX11_bad, Cond.selects RX11 yX11_bad yX11_bad, Cond.methodLink RX11 186 yX11_less, Cond.static yX11_less]
def wsX11_undo : List Cond := .code yX11_undo cX11_undo 5 (some .int) :: (woX11_undo ++ (wsX110 ++ (wsX11_in ++ (wsX11_bad ++ (wsX11_less)))))
theorem gwoX11_undo : gW woX11_undo := gW_of (by decide +kernel)
theorem gwX11_undo : gW wsX11_undo := gW_cons (by decide) (gW_app gwoX11_undo (gW_app gwn_13 (gW_app gwX11_in (gW_app gwX11_bad gwX11_less))))
def woX11_sums : List Cond := [Cond.fieldLink RX11 85 "HiredEnemyModel" "thrown" "I", Cond.fieldLink RX11 46 "HiredEnemyModel" "s" "[I", Cond.methodLink RX11 119 yX11_in, Cond.static yX11_in, Cond.initialized RX11, Cond.methodLink RX11 151 yX11_bad, Cond.instanceMethod yX11_bad, Cond.selects RX11 yX11_bad yX11_bad]
def wsX11_sums : List Cond := .code yX11_sums cX11_sums 2 (some .int) :: (woX11_sums ++ (wsX110 ++ (wsX11_in ++ (wsX11_bad))))
theorem gwoX11_sums : gW woX11_sums := gW_of (by decide +kernel)
theorem gwX11_sums : gW wsX11_sums := gW_cons (by decide) (gW_app gwoX11_sums (gW_app gwn_13 (gW_app gwX11_in gwX11_bad)))
def woX11_corks : List Cond := [Cond.fieldLink RX11 85 "HiredEnemyModel" "thrown" "I", Cond.fieldLink RX11 46 "HiredEnemyModel" "s" "[I", Cond.fieldLink RX11 55 "HiredEnemyModel" "shot" "[[I", Cond.methodLink RX11 174 yX11_isWall, Cond.instanceMethod yX11_isWall, Cond.selects RX11 yX11_isWall yX11_isWall, Cond.initialized RX11, Cond.methodLink RX11 119 yX11_in, Cond.static yX11_in, Cond.methodLink RX11 151 yX11_bad, Cond.instanceMethod yX11_bad, Cond.selects RX11 yX11_bad yX11_bad]
def wsX11_corks : List Cond := .code yX11_corks cX11_corks 3 (some .int) :: (woX11_corks ++ (wsX110 ++ (wsX11_isWall ++ (wsX11_bad ++ (wsX11_in)))))
theorem gwoX11_corks : gW woX11_corks := gW_of (by decide +kernel)
theorem gwX11_corks : gW wsX11_corks := gW_cons (by decide) (gW_app gwoX11_corks (gW_app gwn_13 (gW_app gwX11_isWall (gW_app gwX11_bad gwX11_in))))
def woX11_areMonths : List Cond := [Cond.methodLink RX11 119 yX11_in, Cond.static yX11_in, Cond.initialized RX11]
def wsX11_areMonths : List Cond := .code yX11_areMonths cX11_areMonths 1 (some .boolean) :: (woX11_areMonths ++ (wsX11_in))
theorem gwoX11_areMonths : gW woX11_areMonths := gW_of (by decide +kernel)
theorem gwX11_areMonths : gW wsX11_areMonths := gW_cons (by decide) (gW_app gwoX11_areMonths gwX11_in)
def woX11_by : List Cond := [Cond.fieldLink RX11 46 "HiredEnemyModel" "s" "[I", Cond.methodLink RX11 219 yX11_puts, Cond.instanceMethod yX11_puts, Cond.selects RX11 yX11_puts yX11_puts, Cond.initialized RX11, Cond.methodLink RX11 183 yX11_signs, Cond.instanceMethod yX11_signs, Cond.selects RX11 yX11_signs yX11_signs, Cond.methodLink RX11 222 yX11_goesOn, Cond.instanceMethod yX11_goesOn, Cond.selects RX11 yX11_goesOn yX11_goesOn, Cond.methodLink RX11 225 yX11_takes, Cond.instanceMethod yX11_takes, Cond.selects RX11 yX11_takes yX11_takes]
def wsX11_by : List Cond := .code yX11_by cX11_by 5 (some .int) :: (woX11_by ++ (wsX110 ++ (wsX11_puts ++ (wsX11_signs ++ (wsX11_goesOn ++ (wsX11_takes))))))
theorem gwoX11_by : gW woX11_by := gW_of (by decide +kernel)
theorem gwX11_by : gW wsX11_by := gW_cons (by decide) (gW_app gwoX11_by (gW_app gwn_13 (gW_app gwX11_puts (gW_app gwX11_signs (gW_app gwX11_goesOn gwX11_takes)))))
def woX11_would : List Cond := [Cond.fieldLink RX11 85 "HiredEnemyModel" "thrown" "I", Cond.methodLink RX11 177 yX11_isContract, Cond.instanceMethod yX11_isContract, Cond.selects RX11 yX11_isContract yX11_isContract, Cond.initialized RX11, Cond.methodLink RX11 119 yX11_in, Cond.static yX11_in, Cond.methodLink RX11 151 yX11_bad, Cond.instanceMethod yX11_bad, Cond.selects RX11 yX11_bad yX11_bad, Cond.methodLink RX11 228 yX11_areMonths, Cond.static yX11_areMonths, Cond.methodLink RX11 231 yX11_by, Cond.instanceMethod yX11_by, Cond.selects RX11 yX11_by yX11_by]
def wsX11_would : List Cond := .code yX11_would cX11_would 4 (some .int) :: (woX11_would ++ (wsX110 ++ (wsX11_isContract ++ (wsX11_bad ++ (wsX11_areMonths ++ (wsX11_in ++ (wsX11_by)))))))
theorem gwoX11_would : gW woX11_would := gW_of (by decide +kernel)
theorem gwX11_would : gW wsX11_would := gW_cons (by decide) (gW_app gwoX11_would (gW_app gwn_13 (gW_app gwX11_isContract (gW_app gwX11_bad (gW_app gwX11_areMonths (gW_app gwX11_in gwX11_by))))))
def woX11_best : List Cond := [Cond.fieldLink RX11 85 "HiredEnemyModel" "thrown" "I", Cond.fieldLink RX11 162 "HiredEnemyModel" "contracts" "I", Cond.methodLink RX11 228 yX11_areMonths, Cond.static yX11_areMonths, Cond.initialized RX11, Cond.methodLink RX11 119 yX11_in, Cond.static yX11_in, Cond.methodLink RX11 151 yX11_bad, Cond.instanceMethod yX11_bad, Cond.selects RX11 yX11_bad yX11_bad, Cond.methodLink RX11 231 yX11_by, Cond.instanceMethod yX11_by, Cond.selects RX11 yX11_by yX11_by]
def wsX11_best : List Cond := .code yX11_best cX11_best 7 (some .int) :: (woX11_best ++ (wsX110 ++ (wsX11_areMonths ++ (wsX11_in ++ (wsX11_bad ++ (wsX11_by))))))
theorem gwoX11_best : gW woX11_best := gW_of (by decide +kernel)
theorem gwX11_best : gW wsX11_best := gW_cons (by decide) (gW_app gwoX11_best (gW_app gwn_13 (gW_app gwX11_areMonths (gW_app gwX11_in (gW_app gwX11_bad gwX11_by)))))
def woX11_byOffer : List Cond := [Cond.fieldLink RX11 46 "HiredEnemyModel" "s" "[I", Cond.methodLink RX11 219 yX11_puts, Cond.instanceMethod yX11_puts, Cond.selects RX11 yX11_puts yX11_puts, Cond.initialized RX11, Cond.methodLink RX11 183 yX11_signs, Cond.instanceMethod yX11_signs, Cond.selects RX11 yX11_signs yX11_signs, Cond.methodLink RX11 216 yX11_monthGoes, Cond.instanceMethod yX11_monthGoes, Cond.selects RX11 yX11_monthGoes yX11_monthGoes, Cond.methodLink RX11 225 yX11_takes, Cond.instanceMethod yX11_takes, Cond.selects RX11 yX11_takes yX11_takes]
def wsX11_byOffer : List Cond := .code yX11_byOffer cX11_byOffer 3 (some .int) :: (woX11_byOffer ++ (wsX110 ++ (wsX11_puts ++ (wsX11_signs ++ (wsX11_monthGoes ++ (wsX11_takes))))))
theorem gwoX11_byOffer : gW woX11_byOffer := gW_of (by decide +kernel)
theorem gwX11_byOffer : gW wsX11_byOffer := gW_cons (by decide) (gW_app gwoX11_byOffer (gW_app gwn_13 (gW_app gwX11_puts (gW_app gwX11_signs (gW_app gwX11_monthGoes gwX11_takes)))))
def woX11_offer : List Cond := [Cond.fieldLink RX11 85 "HiredEnemyModel" "thrown" "I", Cond.fieldLink RX11 40 "HiredEnemyModel" "contract" "[[I", Cond.fieldLink RX11 43 "HiredEnemyModel" "breach" "[[I", Cond.methodLink RX11 228 yX11_areMonths, Cond.static yX11_areMonths, Cond.initialized RX11, Cond.methodLink RX11 119 yX11_in, Cond.static yX11_in, Cond.methodLink RX11 151 yX11_bad, Cond.instanceMethod yX11_bad, Cond.selects RX11 yX11_bad yX11_bad, Cond.methodLink RX11 180 yX11_wantsFor, Cond.instanceMethod yX11_wantsFor, Cond.selects RX11 yX11_wantsFor yX11_wantsFor, Cond.methodLink RX11 235 yX11_byOffer, Cond.instanceMethod yX11_byOffer, Cond.selects RX11 yX11_byOffer yX11_byOffer]
def wsX11_offer : List Cond := .code yX11_offer cX11_offer 10 (some .int) :: (woX11_offer ++ (wsX110 ++ (wsX11_areMonths ++ (wsX11_in ++ (wsX11_bad ++ (wsX11_wantsFor ++ (wsX11_byOffer)))))))
theorem gwoX11_offer : gW woX11_offer := gW_of (by decide +kernel)
theorem gwX11_offer : gW wsX11_offer := gW_cons (by decide) (gW_app gwoX11_offer (gW_app gwn_13 (gW_app gwX11_areMonths (gW_app gwX11_in (gW_app gwX11_bad (gW_app gwX11_wantsFor gwX11_byOffer))))))
def woX11_nearest : List Cond := [Cond.fieldLink RX11 85 "HiredEnemyModel" "thrown" "I", Cond.methodLink RX11 119 yX11_in, Cond.static yX11_in, Cond.initialized RX11, Cond.methodLink RX11 151 yX11_bad, Cond.instanceMethod yX11_bad, Cond.selects RX11 yX11_bad yX11_bad, Cond.methodLink RX11 180 yX11_wantsFor, Cond.instanceMethod yX11_wantsFor, Cond.selects RX11 yX11_wantsFor yX11_wantsFor]
def wsX11_nearest : List Cond := .code yX11_nearest cX11_nearest 4 (some .int) :: (woX11_nearest ++ (wsX110 ++ (wsX11_in ++ (wsX11_bad ++ (wsX11_wantsFor)))))
theorem gwoX11_nearest : gW woX11_nearest := gW_of (by decide +kernel)
theorem gwX11_nearest : gW wsX11_nearest := gW_cons (by decide) (gW_app gwoX11_nearest (gW_app gwn_13 (gW_app gwX11_in (gW_app gwX11_bad gwX11_wantsFor))))
def woX11_stop : List Cond := [Cond.fieldLink RX11 85 "HiredEnemyModel" "thrown" "I", Cond.fieldLink RX11 46 "HiredEnemyModel" "s" "[I", Cond.methodLink RX11 228 yX11_areMonths, Cond.static yX11_areMonths, Cond.initialized RX11, Cond.methodLink RX11 119 yX11_in, Cond.static yX11_in, Cond.methodLink RX11 151 yX11_bad, Cond.instanceMethod yX11_bad, Cond.selects RX11 yX11_bad yX11_bad, Cond.methodLink RX11 219 yX11_puts, Cond.instanceMethod yX11_puts, Cond.selects RX11 yX11_puts yX11_puts, Cond.methodLink RX11 222 yX11_goesOn, Cond.instanceMethod yX11_goesOn, Cond.selects RX11 yX11_goesOn yX11_goesOn, Cond.methodLink RX11 183 yX11_signs, Cond.instanceMethod yX11_signs, Cond.selects RX11 yX11_signs yX11_signs, Cond.methodLink RX11 225 yX11_takes, Cond.instanceMethod yX11_takes, Cond.selects RX11 yX11_takes yX11_takes]
def wsX11_stop : List Cond := .code yX11_stop cX11_stop 7 (some .int) :: (woX11_stop ++ (wsX110 ++ (wsX11_areMonths ++ (wsX11_in ++ (wsX11_bad ++ (wsX11_puts ++ (wsX11_goesOn ++ (wsX11_signs ++ (wsX11_takes)))))))))
theorem gwoX11_stop : gW woX11_stop := gW_of (by decide +kernel)
theorem gwX11_stop : gW wsX11_stop := gW_cons (by decide) (gW_app gwoX11_stop (gW_app gwn_13 (gW_app gwX11_areMonths (gW_app gwX11_in (gW_app gwX11_bad (gW_app gwX11_puts (gW_app gwX11_goesOn (gW_app gwX11_signs gwX11_takes))))))))
def woX11_odds : List Cond := [Cond.fieldLink RX11 85 "HiredEnemyModel" "thrown" "I", Cond.fieldLink RX11 58 "HiredEnemyModel" "oddsA" "I", Cond.fieldLink RX11 61 "HiredEnemyModel" "oddsB" "I", Cond.fieldLink RX11 165 "HiredEnemyModel" "things" "I", Cond.methodLink RX11 119 yX11_in, Cond.static yX11_in, Cond.initialized RX11, Cond.methodLink RX11 151 yX11_bad, Cond.instanceMethod yX11_bad, Cond.selects RX11 yX11_bad yX11_bad]
def wsX11_odds : List Cond := .code yX11_odds cX11_odds 3 none :: (woX11_odds ++ (wsX110 ++ (wsX11_in ++ (wsX11_bad))))
theorem gwoX11_odds : gW woX11_odds := gW_of (by decide +kernel)
theorem gwX11_odds : gW wsX11_odds := gW_cons (by decide) (gW_app gwoX11_odds (gW_app gwn_13 (gW_app gwX11_in gwX11_bad)))
def woX11_kind : List Cond := [Cond.fieldLink RX11 85 "HiredEnemyModel" "thrown" "I", Cond.fieldLink RX11 64 "HiredEnemyModel" "kind" "[[I", Cond.methodLink RX11 119 yX11_in, Cond.static yX11_in, Cond.initialized RX11, Cond.methodLink RX11 151 yX11_bad, Cond.instanceMethod yX11_bad, Cond.selects RX11 yX11_bad yX11_bad]
def wsX11_kind : List Cond := .code yX11_kind cX11_kind 4 none :: (woX11_kind ++ (wsX110 ++ (wsX11_in ++ (wsX11_bad))))
theorem gwoX11_kind : gW woX11_kind := gW_of (by decide +kernel)
theorem gwX11_kind : gW wsX11_kind := gW_cons (by decide) (gW_app gwoX11_kind (gW_app gwn_13 (gW_app gwX11_in gwX11_bad)))
def woX11_isSeen : List Cond := [Cond.fieldLink RX11 165 "HiredEnemyModel" "things" "I", Cond.fieldLink RX11 67 "HiredEnemyModel" "thing" "[[I"]
def wsX11_isSeen : List Cond := .code yX11_isSeen cX11_isSeen 3 (some .int) :: (woX11_isSeen ++ (wsX110))
theorem gwoX11_isSeen : gW woX11_isSeen := gW_of (by decide +kernel)
theorem gwX11_isSeen : gW wsX11_isSeen := gW_cons (by decide) (gW_app gwoX11_isSeen gwn_13)
def woX11_seen : List Cond := [Cond.fieldLink RX11 85 "HiredEnemyModel" "thrown" "I", Cond.fieldLink RX11 64 "HiredEnemyModel" "kind" "[[I", Cond.methodLink RX11 119 yX11_in, Cond.static yX11_in, Cond.initialized RX11, Cond.methodLink RX11 151 yX11_bad, Cond.instanceMethod yX11_bad, Cond.selects RX11 yX11_bad yX11_bad, Cond.methodLink RX11 238 yX11_isSeen, Cond.instanceMethod yX11_isSeen, Cond.selects RX11 yX11_isSeen yX11_isSeen]
def wsX11_seen : List Cond := .code yX11_seen cX11_seen 2 (some .int) :: (woX11_seen ++ (wsX110 ++ (wsX11_in ++ (wsX11_bad ++ (wsX11_isSeen)))))
theorem gwoX11_seen : gW woX11_seen := gW_of (by decide +kernel)
theorem gwX11_seen : gW wsX11_seen := gW_cons (by decide) (gW_app gwoX11_seen (gW_app gwn_13 (gW_app gwX11_in (gW_app gwX11_bad gwX11_isSeen))))
def woX11_spy : List Cond := [Cond.fieldLink RX11 85 "HiredEnemyModel" "thrown" "I", Cond.methodLink RX11 119 yX11_in, Cond.static yX11_in, Cond.initialized RX11, Cond.methodLink RX11 151 yX11_bad, Cond.instanceMethod yX11_bad, Cond.selects RX11 yX11_bad yX11_bad, Cond.methodLink RX11 238 yX11_isSeen, Cond.instanceMethod yX11_isSeen, Cond.selects RX11 yX11_isSeen yX11_isSeen]
def wsX11_spy : List Cond := .code yX11_spy cX11_spy 3 (some .int) :: (woX11_spy ++ (wsX110 ++ (wsX11_in ++ (wsX11_bad ++ (wsX11_isSeen)))))
theorem gwoX11_spy : gW woX11_spy := gW_of (by decide +kernel)
theorem gwX11_spy : gW wsX11_spy := gW_cons (by decide) (gW_app gwoX11_spy (gW_app gwn_13 (gW_app gwX11_in (gW_app gwX11_bad gwX11_isSeen))))
def woX11_believed : List Cond := [Cond.fieldLink RX11 85 "HiredEnemyModel" "thrown" "I", Cond.fieldLink RX11 58 "HiredEnemyModel" "oddsA" "I", Cond.fieldLink RX11 61 "HiredEnemyModel" "oddsB" "I", Cond.fieldLink RX11 165 "HiredEnemyModel" "things" "I", Cond.fieldLink RX11 67 "HiredEnemyModel" "thing" "[[I", Cond.methodLink RX11 119 yX11_in, Cond.static yX11_in, Cond.initialized RX11, Cond.methodLink RX11 151 yX11_bad, Cond.instanceMethod yX11_bad, Cond.selects RX11 yX11_bad yX11_bad]
def wsX11_believed : List Cond := .code yX11_believed cX11_believed 12 (some .long) :: (woX11_believed ++ (wsX110 ++ (wsX11_in ++ (wsX11_bad))))
theorem gwoX11_believed : gW woX11_believed := gW_of (by decide +kernel)
theorem gwX11_believed : gW wsX11_believed := gW_cons (by decide) (gW_app gwoX11_believed (gW_app gwn_13 (gW_app gwX11_in gwX11_bad)))
def wsX11_digit : List Cond := .code yX11_digit cX11_digit 2 (some .int) :: ([])
theorem gwX11_digit : gW wsX11_digit := gW_cons (by decide) gW_nil
def woX11_puts0 : List Cond := [Cond.methodLink RX11 241 yX11_digit, Cond.static yX11_digit, Cond.initialized RX11]
def wsX11_puts0 : List Cond := .code yX11_puts0 cX11_puts0 5 (some .boolean) :: (woX11_puts0 ++ (wsX11_digit))
theorem gwoX11_puts0 : gW woX11_puts0 := gW_of (by decide +kernel)
theorem gwX11_puts0 : gW wsX11_puts0 := gW_cons (by decide) (gW_app gwoX11_puts0 gwX11_digit)
def woX11_falls : List Cond := [Cond.fieldLink RX11 31 "HiredEnemyModel" "wall" "[[I", Cond.methodLink RX11 241 yX11_digit, Cond.static yX11_digit, Cond.initialized RX11]
def wsX11_falls : List Cond := .code yX11_falls cX11_falls 6 (some .int) :: (woX11_falls ++ (wsX110 ++ (wsX11_digit)))
theorem gwoX11_falls : gW woX11_falls := gW_of (by decide +kernel)
theorem gwX11_falls : gW wsX11_falls := gW_cons (by decide) (gW_app gwoX11_falls (gW_app gwn_13 gwX11_digit))
def woX11_firstWalls : List Cond := [Cond.fieldLink RX11 23 "HiredEnemyModel" "told" "[I", Cond.methodLink RX11 186 yX11_less, Cond.static yX11_less, Cond.initialized RX11]
def wsX11_firstWalls : List Cond := .code yX11_firstWalls cX11_firstWalls 1 (some .int) :: (woX11_firstWalls ++ (wsX110 ++ (wsX11_less)))
theorem gwoX11_firstWalls : gW woX11_firstWalls := gW_of (by decide +kernel)
theorem gwX11_firstWalls : gW wsX11_firstWalls := gW_cons (by decide) (gW_app gwoX11_firstWalls (gW_app gwn_13 gwX11_less))
def woX11_safeBy : List Cond := [Cond.fieldLink RX11 244 "HiredEnemyModel" "safeRow" "I", Cond.methodLink RX11 247 yX11_puts0, Cond.static yX11_puts0, Cond.initialized RX11, Cond.methodLink RX11 250 yX11_falls, Cond.instanceMethod yX11_falls, Cond.selects RX11 yX11_falls yX11_falls]
def wsX11_safeBy : List Cond := .code yX11_safeBy cX11_safeBy 8 (some .int) :: (woX11_safeBy ++ (wsX110 ++ (wsX11_puts0 ++ (wsX11_falls))))
theorem gwoX11_safeBy : gW woX11_safeBy := gW_of (by decide +kernel)
theorem gwX11_safeBy : gW wsX11_safeBy := gW_cons (by decide) (gW_app gwoX11_safeBy (gW_app gwn_13 (gW_app gwX11_puts0 gwX11_falls)))
def woX11_sureBy : List Cond := [Cond.methodLink RX11 247 yX11_puts0, Cond.static yX11_puts0, Cond.initialized RX11, Cond.methodLink RX11 250 yX11_falls, Cond.instanceMethod yX11_falls, Cond.selects RX11 yX11_falls yX11_falls]
def wsX11_sureBy : List Cond := .code yX11_sureBy cX11_sureBy 8 (some .int) :: (woX11_sureBy ++ (wsX110 ++ (wsX11_puts0 ++ (wsX11_falls))))
theorem gwoX11_sureBy : gW woX11_sureBy := gW_of (by decide +kernel)
theorem gwX11_sureBy : gW wsX11_sureBy := gW_cons (by decide) (gW_app gwoX11_sureBy (gW_app gwn_13 (gW_app gwX11_puts0 gwX11_falls)))
def woX11_areTens : List Cond := [Cond.methodLink RX11 119 yX11_in, Cond.static yX11_in, Cond.initialized RX11]
def wsX11_areTens : List Cond := .code yX11_areTens cX11_areTens 2 (some .boolean) :: (woX11_areTens ++ (wsX11_in))
theorem gwoX11_areTens : gW woX11_areTens := gW_of (by decide +kernel)
theorem gwX11_areTens : gW wsX11_areTens := gW_cons (by decide) (gW_app gwoX11_areTens gwX11_in)
def woX11_earnest : List Cond := [Cond.fieldLink RX11 85 "HiredEnemyModel" "thrown" "I", Cond.methodLink RX11 253 yX11_areTens, Cond.static yX11_areTens, Cond.initialized RX11, Cond.methodLink RX11 119 yX11_in, Cond.static yX11_in, Cond.methodLink RX11 151 yX11_bad, Cond.instanceMethod yX11_bad, Cond.selects RX11 yX11_bad yX11_bad, Cond.methodLink RX11 257 yX11_firstWalls, Cond.instanceMethod yX11_firstWalls, Cond.selects RX11 yX11_firstWalls yX11_firstWalls, Cond.methodLink RX11 260 yX11_safeBy, Cond.instanceMethod yX11_safeBy, Cond.selects RX11 yX11_safeBy yX11_safeBy, Cond.methodLink RX11 263 yX11_sureBy, Cond.instanceMethod yX11_sureBy, Cond.selects RX11 yX11_sureBy yX11_sureBy]
def wsX11_earnest : List Cond := .code yX11_earnest cX11_earnest 4 (some .int) :: (woX11_earnest ++ (wsX110 ++ (wsX11_areTens ++ (wsX11_in ++ (wsX11_bad ++ (wsX11_firstWalls ++ (wsX11_safeBy ++ (wsX11_sureBy))))))))
theorem gwoX11_earnest : gW woX11_earnest := gW_of (by decide +kernel)
theorem gwX11_earnest : gW wsX11_earnest := gW_cons (by decide) (gW_app gwoX11_earnest (gW_app gwn_13 (gW_app gwX11_areTens (gW_app gwX11_in (gW_app gwX11_bad (gW_app gwX11_firstWalls (gW_app gwX11_safeBy gwX11_sureBy)))))))
def woX11_stands : List Cond := [Cond.fieldLink RX11 85 "HiredEnemyModel" "thrown" "I", Cond.fieldLink RX11 23 "HiredEnemyModel" "told" "[I", Cond.fieldLink RX11 244 "HiredEnemyModel" "safeRow" "I", Cond.methodLink RX11 253 yX11_areTens, Cond.static yX11_areTens, Cond.initialized RX11, Cond.methodLink RX11 151 yX11_bad, Cond.instanceMethod yX11_bad, Cond.selects RX11 yX11_bad yX11_bad, Cond.methodLink RX11 257 yX11_firstWalls, Cond.instanceMethod yX11_firstWalls, Cond.selects RX11 yX11_firstWalls yX11_firstWalls, Cond.methodLink RX11 186 yX11_less, Cond.static yX11_less, Cond.methodLink RX11 260 yX11_safeBy, Cond.instanceMethod yX11_safeBy, Cond.selects RX11 yX11_safeBy yX11_safeBy, Cond.methodLink RX11 241 yX11_digit, Cond.static yX11_digit]
def wsX11_stands : List Cond := .code yX11_stands cX11_stands 5 (some .int) :: (woX11_stands ++ (wsX110 ++ (wsX11_areTens ++ (wsX11_bad ++ (wsX11_firstWalls ++ (wsX11_safeBy ++ (wsX11_less ++ (wsX11_digit))))))))
theorem gwoX11_stands : gW woX11_stands := gW_of (by decide +kernel)
theorem gwX11_stands : gW wsX11_stands := gW_cons (by decide) (gW_app gwoX11_stands (gW_app gwn_13 (gW_app gwX11_areTens (gW_app gwX11_bad (gW_app gwX11_firstWalls (gW_app gwX11_safeBy (gW_app gwX11_less gwX11_digit)))))))
def woX11_show : List Cond := [Cond.fieldLink RX11 85 "HiredEnemyModel" "thrown" "I", Cond.methodLink RX11 253 yX11_areTens, Cond.static yX11_areTens, Cond.initialized RX11, Cond.methodLink RX11 151 yX11_bad, Cond.instanceMethod yX11_bad, Cond.selects RX11 yX11_bad yX11_bad, Cond.methodLink RX11 257 yX11_firstWalls, Cond.instanceMethod yX11_firstWalls, Cond.selects RX11 yX11_firstWalls yX11_firstWalls, Cond.methodLink RX11 260 yX11_safeBy, Cond.instanceMethod yX11_safeBy, Cond.selects RX11 yX11_safeBy yX11_safeBy]
def wsX11_show : List Cond := .code yX11_show cX11_show 7 (some .int) :: (woX11_show ++ (wsX110 ++ (wsX11_areTens ++ (wsX11_bad ++ (wsX11_firstWalls ++ (wsX11_safeBy))))))
theorem gwoX11_show : gW woX11_show := gW_of (by decide +kernel)
theorem gwX11_show : gW wsX11_show := gW_cons (by decide) (gW_app gwoX11_show (gW_app gwn_13 (gW_app gwX11_areTens (gW_app gwX11_bad (gW_app gwX11_firstWalls gwX11_safeBy)))))
def woX11_offers : List Cond := [Cond.fieldLink RX11 85 "HiredEnemyModel" "thrown" "I", Cond.fieldLink RX11 70 "HiredEnemyModel" "offered" "[[I", Cond.methodLink RX11 119 yX11_in, Cond.static yX11_in, Cond.initialized RX11, Cond.methodLink RX11 151 yX11_bad, Cond.instanceMethod yX11_bad, Cond.selects RX11 yX11_bad yX11_bad]
def wsX11_offers : List Cond := .code yX11_offers cX11_offers 5 (some .int) :: (woX11_offers ++ (wsX110 ++ (wsX11_in ++ (wsX11_bad))))
theorem gwoX11_offers : gW woX11_offers := gW_of (by decide +kernel)
theorem gwX11_offers : gW wsX11_offers := gW_cons (by decide) (gW_app gwoX11_offers (gW_app gwn_13 (gW_app gwX11_in gwX11_bad)))
def wsX11_mayServe : List Cond := .code yX11_mayServe cX11_mayServe 2 (some .boolean) :: ([])
theorem gwX11_mayServe : gW wsX11_mayServe := gW_cons (by decide) gW_nil
def woX11_laysRest : List Cond := [Cond.fieldLink RX11 76 "HiredEnemyModel" "rest" "[[I", Cond.fieldLink RX11 70 "HiredEnemyModel" "offered" "[[I", Cond.methodLink RX11 266 yX11_mayServe, Cond.static yX11_mayServe, Cond.initialized RX11]
def wsX11_laysRest : List Cond := .code yX11_laysRest cX11_laysRest 5 none :: (woX11_laysRest ++ (wsX110 ++ (wsX11_mayServe)))
theorem gwoX11_laysRest : gW woX11_laysRest := gW_of (by decide +kernel)
theorem gwX11_laysRest : gW wsX11_laysRest := gW_cons (by decide) (gW_app gwoX11_laysRest (gW_app gwn_13 gwX11_mayServe))
def woX11_mostNow : List Cond := [Cond.fieldLink RX11 76 "HiredEnemyModel" "rest" "[[I", Cond.methodLink RX11 269 yX11_laysRest, Cond.instanceMethod yX11_laysRest, Cond.selects RX11 yX11_laysRest yX11_laysRest, Cond.initialized RX11]
def wsX11_mostNow : List Cond := .code yX11_mostNow cX11_mostNow 3 (some .int) :: (woX11_mostNow ++ (wsX110 ++ (wsX11_laysRest)))
theorem gwoX11_mostNow : gW woX11_mostNow := gW_of (by decide +kernel)
theorem gwX11_mostNow : gW wsX11_mostNow := gW_cons (by decide) (gW_app gwoX11_mostNow (gW_app gwn_13 gwX11_laysRest))
def woX11_most : List Cond := [Cond.fieldLink RX11 85 "HiredEnemyModel" "thrown" "I", Cond.methodLink RX11 272 yX11_mostNow, Cond.instanceMethod yX11_mostNow, Cond.selects RX11 yX11_mostNow yX11_mostNow, Cond.initialized RX11]
def wsX11_most : List Cond := .code yX11_most cX11_most 1 (some .int) :: (woX11_most ++ (wsX110 ++ (wsX11_mostNow)))
theorem gwoX11_most : gW woX11_most := gW_of (by decide +kernel)
theorem gwX11_most : gW wsX11_most := gW_cons (by decide) (gW_app gwoX11_most (gW_app gwn_13 gwX11_mostNow))
def woX11_serves : List Cond := [Cond.fieldLink RX11 85 "HiredEnemyModel" "thrown" "I", Cond.fieldLink RX11 76 "HiredEnemyModel" "rest" "[[I", Cond.fieldLink RX11 70 "HiredEnemyModel" "offered" "[[I", Cond.methodLink RX11 119 yX11_in, Cond.static yX11_in, Cond.initialized RX11, Cond.methodLink RX11 151 yX11_bad, Cond.instanceMethod yX11_bad, Cond.selects RX11 yX11_bad yX11_bad, Cond.methodLink RX11 272 yX11_mostNow, Cond.instanceMethod yX11_mostNow, Cond.selects RX11 yX11_mostNow yX11_mostNow, Cond.methodLink RX11 266 yX11_mayServe, Cond.static yX11_mayServe]
def wsX11_serves : List Cond := .code yX11_serves cX11_serves 6 (some .int) :: (woX11_serves ++ (wsX110 ++ (wsX11_in ++ (wsX11_bad ++ (wsX11_mostNow ++ (wsX11_mayServe))))))
theorem gwoX11_serves : gW woX11_serves := gW_of (by decide +kernel)
theorem gwX11_serves : gW wsX11_serves := gW_cons (by decide) (gW_app gwoX11_serves (gW_app gwn_13 (gW_app gwX11_in (gW_app gwX11_bad (gW_app gwX11_mostNow gwX11_mayServe)))))
def woX11_moves : List Cond := [Cond.fieldLink RX11 275 "HiredEnemyModel" "spot" "I"]
def wsX11_moves : List Cond := .code yX11_moves cX11_moves 4 (some .int) :: (woX11_moves ++ (wsX110))
theorem gwoX11_moves : gW woX11_moves := gW_of (by decide +kernel)
theorem gwX11_moves : gW wsX11_moves := gW_cons (by decide) (gW_app gwoX11_moves gwn_13)
def woX11_movesAll : List Cond := [Cond.fieldLink RX11 275 "HiredEnemyModel" "spot" "I", Cond.fieldLink RX11 58 "HiredEnemyModel" "oddsA" "I", Cond.fieldLink RX11 61 "HiredEnemyModel" "oddsB" "I", Cond.fieldLink RX11 165 "HiredEnemyModel" "things" "I", Cond.fieldLink RX11 64 "HiredEnemyModel" "kind" "[[I", Cond.fieldLink RX11 67 "HiredEnemyModel" "thing" "[[I", Cond.fieldLink RX11 70 "HiredEnemyModel" "offered" "[[I", Cond.fieldLink RX11 46 "HiredEnemyModel" "s" "[I", Cond.fieldLink RX11 52 "HiredEnemyModel" "gone" "[[I", Cond.fieldLink RX11 55 "HiredEnemyModel" "shot" "[[I", Cond.methodLink RX11 278 yX11_moves, Cond.instanceMethod yX11_moves, Cond.selects RX11 yX11_moves yX11_moves, Cond.initialized RX11]
def wsX11_movesAll : List Cond := .code yX11_movesAll cX11_movesAll 5 none :: (woX11_movesAll ++ (wsX110 ++ (wsX11_moves)))
theorem gwoX11_movesAll : gW woX11_movesAll := gW_of (by decide +kernel)
theorem gwX11_movesAll : gW wsX11_movesAll := gW_cons (by decide) (gW_app gwoX11_movesAll (gW_app gwn_13 gwX11_moves))
def woX11_image : List Cond := [Cond.fieldLink RX11 85 "HiredEnemyModel" "thrown" "I", Cond.fieldLink RX11 168 "HiredEnemyModel" "images" "I", Cond.fieldLink RX11 73 "HiredEnemyModel" "kept" "[[I", Cond.methodLink RX11 282 yX11_movesAll, Cond.instanceMethod yX11_movesAll, Cond.selects RX11 yX11_movesAll yX11_movesAll, Cond.initialized RX11]
def wsX11_image : List Cond := .code yX11_image cX11_image 1 (some .int) :: (woX11_image ++ (wsX110 ++ (wsX11_movesAll)))
theorem gwoX11_image : gW woX11_image := gW_of (by decide +kernel)
theorem gwX11_image : gW wsX11_image := gW_cons (by decide) (gW_app gwoX11_image (gW_app gwn_13 gwX11_movesAll))
def woX11_restore : List Cond := [Cond.fieldLink RX11 85 "HiredEnemyModel" "thrown" "I", Cond.fieldLink RX11 168 "HiredEnemyModel" "images" "I", Cond.fieldLink RX11 73 "HiredEnemyModel" "kept" "[[I", Cond.methodLink RX11 282 yX11_movesAll, Cond.instanceMethod yX11_movesAll, Cond.selects RX11 yX11_movesAll yX11_movesAll, Cond.initialized RX11]
def wsX11_restore : List Cond := .code yX11_restore cX11_restore 1 (some .int) :: (woX11_restore ++ (wsX110 ++ (wsX11_movesAll)))
theorem gwoX11_restore : gW woX11_restore := gW_of (by decide +kernel)
theorem gwX11_restore : gW wsX11_restore := gW_cons (by decide) (gW_app gwoX11_restore (gW_app gwn_13 gwX11_movesAll))
def woX11_status : List Cond := [Cond.fieldLink RX11 85 "HiredEnemyModel" "thrown" "I", Cond.fieldLink RX11 17 "HiredEnemyModel" "refused" "[I", Cond.methodLink RX11 119 yX11_in, Cond.static yX11_in, Cond.initialized RX11]
def wsX11_status : List Cond := .code yX11_status cX11_status 2 (some .int) :: (woX11_status ++ (wsX110 ++ (wsX11_in)))
theorem gwoX11_status : gW woX11_status := gW_of (by decide +kernel)
theorem gwX11_status : gW wsX11_status := gW_cons (by decide) (gW_app gwoX11_status (gW_app gwn_13 gwX11_in))
def woX11_count : List Cond := [Cond.fieldLink RX11 85 "HiredEnemyModel" "thrown" "I", Cond.fieldLink RX11 168 "HiredEnemyModel" "images" "I", Cond.fieldLink RX11 88 "HiredEnemyModel" "tape" "I", Cond.fieldLink RX11 165 "HiredEnemyModel" "things" "I"]
def wsX11_count : List Cond := .code yX11_count cX11_count 2 (some .int) :: (woX11_count ++ (wsX110))
theorem gwoX11_count : gW woX11_count := gW_of (by decide +kernel)
theorem gwX11_count : gW wsX11_count := gW_cons (by decide) (gW_app gwoX11_count gwn_13)
def wsJ9_abs_0f7a4 : List Cond := .code yJ9_abs_0f7a4 cJ9_abs_0f7a4 1 (some .int) :: ([])
theorem gwJ9_abs_0f7a4 : gW wsJ9_abs_0f7a4 := gW_cons (by decide) gW_nil
def wsJ9_max_7cf53 : List Cond := .code yJ9_max_7cf53 cJ9_max_7cf53 2 (some .int) :: ([])
theorem gwJ9_max_7cf53 : gW wsJ9_max_7cf53 := gW_cons (by decide) gW_nil
def wsJ9_min_7cf53 : List Cond := .code yJ9_min_7cf53 cJ9_min_7cf53 2 (some .int) :: ([])
theorem gwJ9_min_7cf53 : gW wsJ9_min_7cf53 := gW_cons (by decide) gW_nil
theorem dX0_init_0 : decode cX0_init 0 = .ok (.aload_n 0, 1) := by decide +kernel
theorem dX0_init_1 : decode cX0_init 1 = .ok (.invokespecial 3, 3) := by decide +kernel
theorem dX0_init_4 : decode cX0_init 4 = .ok (.aload_n 0, 1) := by decide +kernel
theorem dX0_init_5 : decode cX0_init 5 = .ok (.sipush 3600, 3) := by decide +kernel
theorem dX0_init_8 : decode cX0_init 8 = .ok (.newarray .int, 2) := by decide +kernel
theorem dX0_init_10 : decode cX0_init 10 = .ok (.putfield 11, 3) := by decide +kernel
theorem dX0_init_13 : decode cX0_init 13 = .ok (.return_, 1) := by decide +kernel
theorem ggX0_keep_X10_within : GoodIn wsX0_keep wsX10_within := gW_in gwX10_within (fun _ h => List.mem_cons_of_mem _ (List.mem_append_right _ (List.mem_append_right _ (List.mem_append_right _ (h)))))
set_option maxRecDepth 20000 in
theorem gX0_keep_X10_within_n21 : GoodIn wsX0_keep (wsX10_within) := ggX0_keep_X10_within
theorem dX0_keep_0 : decode cX0_keep 0 = .ok (.aload_n 1, 1) := by decide +kernel
theorem dX0_keep_1 : decode cX0_keep 1 = .ok (.getfield 15, 3) := by decide +kernel
theorem dX0_keep_4 : decode cX0_keep 4 = .ok (.iconst 0, 1) := by decide +kernel
theorem dX0_keep_5 : decode cX0_keep 5 = .ok (.bipush 119, 2) := by decide +kernel
theorem dX0_keep_7 : decode cX0_keep 7 = .ok (.invokestatic 21, 3) := by decide +kernel
theorem dX0_keep_10 : decode cX0_keep 10 = .ok (.ifCond .eq 24, 3) := by decide +kernel
theorem dX0_keep_13 : decode cX0_keep 13 = .ok (.aload_n 1, 1) := by decide +kernel
theorem dX0_keep_14 : decode cX0_keep 14 = .ok (.getfield 25, 3) := by decide +kernel
theorem dX0_keep_17 : decode cX0_keep 17 = .ok (.iconst 0, 1) := by decide +kernel
theorem dX0_keep_18 : decode cX0_keep 18 = .ok (.aload_n 0, 1) := by decide +kernel
theorem dX0_keep_19 : decode cX0_keep 19 = .ok (.getfield 11, 3) := by decide +kernel
theorem dX0_keep_22 : decode cX0_keep 22 = .ok (.aload_n 1, 1) := by decide +kernel
theorem dX0_keep_23 : decode cX0_keep 23 = .ok (.getfield 15, 3) := by decide +kernel
theorem dX0_keep_26 : decode cX0_keep 26 = .ok (.bipush 30, 2) := by decide +kernel
theorem dX0_keep_28 : decode cX0_keep 28 = .ok (.imul, 1) := by decide +kernel
theorem dX0_keep_29 : decode cX0_keep 29 = .ok (.bipush 24, 2) := by decide +kernel
theorem dX0_keep_31 : decode cX0_keep 31 = .ok (.invokestatic 28, 3) := by decide +kernel
theorem dX0_keep_34 : decode cX0_keep 34 = .ok (.return_, 1) := by decide +kernel
theorem ggX0_lead_X10_within : GoodIn wsX0_lead wsX10_within := gW_in gwX10_within (fun _ h => List.mem_cons_of_mem _ (List.mem_append_right _ (List.mem_append_right _ (List.mem_append_right _ (h)))))
set_option maxRecDepth 20000 in
theorem gX0_lead_X10_within_n21 : GoodIn wsX0_lead (wsX10_within) := ggX0_lead_X10_within
theorem dX0_lead_0 : decode cX0_lead 0 = .ok (.aload_n 1, 1) := by decide +kernel
theorem dX0_lead_1 : decode cX0_lead 1 = .ok (.getfield 15, 3) := by decide +kernel
theorem dX0_lead_4 : decode cX0_lead 4 = .ok (.iconst 1, 1) := by decide +kernel
theorem dX0_lead_5 : decode cX0_lead 5 = .ok (.bipush 120, 2) := by decide +kernel
theorem dX0_lead_7 : decode cX0_lead 7 = .ok (.invokestatic 21, 3) := by decide +kernel
theorem dX0_lead_10 : decode cX0_lead 10 = .ok (.ifCond .eq 29, 3) := by decide +kernel
theorem dX0_lead_13 : decode cX0_lead 13 = .ok (.aload_n 1, 1) := by decide +kernel
theorem dX0_lead_14 : decode cX0_lead 14 = .ok (.getfield 34, 3) := by decide +kernel
theorem dX0_lead_17 : decode cX0_lead 17 = .ok (.iconst 0, 1) := by decide +kernel
theorem dX0_lead_18 : decode cX0_lead 18 = .ok (.aload_n 0, 1) := by decide +kernel
theorem dX0_lead_19 : decode cX0_lead 19 = .ok (.getfield 11, 3) := by decide +kernel
theorem dX0_lead_22 : decode cX0_lead 22 = .ok (.aload_n 1, 1) := by decide +kernel
theorem dX0_lead_23 : decode cX0_lead 23 = .ok (.getfield 15, 3) := by decide +kernel
theorem dX0_lead_26 : decode cX0_lead 26 = .ok (.iconst 1, 1) := by decide +kernel
theorem dX0_lead_27 : decode cX0_lead 27 = .ok (.isub, 1) := by decide +kernel
theorem dX0_lead_28 : decode cX0_lead 28 = .ok (.bipush 30, 2) := by decide +kernel
theorem dX0_lead_30 : decode cX0_lead 30 = .ok (.imul, 1) := by decide +kernel
theorem dX0_lead_31 : decode cX0_lead 31 = .ok (.bipush 24, 2) := by decide +kernel
theorem dX0_lead_33 : decode cX0_lead 33 = .ok (.iadd, 1) := by decide +kernel
theorem dX0_lead_34 : decode cX0_lead 34 = .ok (.bipush 6, 2) := by decide +kernel
theorem dX0_lead_36 : decode cX0_lead 36 = .ok (.invokestatic 28, 3) := by decide +kernel
theorem dX0_lead_39 : decode cX0_lead 39 = .ok (.return_, 1) := by decide +kernel
theorem ggX0_giveBack_X10_within : GoodIn wsX0_giveBack wsX10_within := gW_in gwX10_within (fun _ h => List.mem_cons_of_mem _ (List.mem_append_right _ (List.mem_append_right _ (List.mem_append_right _ (h)))))
set_option maxRecDepth 20000 in
theorem gX0_giveBack_X10_within_n21 : GoodIn wsX0_giveBack (wsX10_within) := ggX0_giveBack_X10_within
theorem dX0_giveBack_0 : decode cX0_giveBack 0 = .ok (.iload_n 2, 1) := by decide +kernel
theorem dX0_giveBack_1 : decode cX0_giveBack 1 = .ok (.iconst 0, 1) := by decide +kernel
theorem dX0_giveBack_2 : decode cX0_giveBack 2 = .ok (.bipush 119, 2) := by decide +kernel
theorem dX0_giveBack_4 : decode cX0_giveBack 4 = .ok (.invokestatic 21, 3) := by decide +kernel
theorem dX0_giveBack_7 : decode cX0_giveBack 7 = .ok (.ifCond .eq 26, 3) := by decide +kernel
theorem dX0_giveBack_10 : decode cX0_giveBack 10 = .ok (.aload_n 0, 1) := by decide +kernel
theorem dX0_giveBack_11 : decode cX0_giveBack 11 = .ok (.getfield 11, 3) := by decide +kernel
theorem dX0_giveBack_14 : decode cX0_giveBack 14 = .ok (.iload_n 2, 1) := by decide +kernel
theorem dX0_giveBack_15 : decode cX0_giveBack 15 = .ok (.bipush 30, 2) := by decide +kernel
theorem dX0_giveBack_17 : decode cX0_giveBack 17 = .ok (.imul, 1) := by decide +kernel
theorem dX0_giveBack_18 : decode cX0_giveBack 18 = .ok (.aload_n 1, 1) := by decide +kernel
theorem dX0_giveBack_19 : decode cX0_giveBack 19 = .ok (.getfield 25, 3) := by decide +kernel
theorem dX0_giveBack_22 : decode cX0_giveBack 22 = .ok (.iconst 0, 1) := by decide +kernel
theorem dX0_giveBack_23 : decode cX0_giveBack 23 = .ok (.bipush 24, 2) := by decide +kernel
theorem dX0_giveBack_25 : decode cX0_giveBack 25 = .ok (.invokestatic 28, 3) := by decide +kernel
theorem dX0_giveBack_28 : decode cX0_giveBack 28 = .ok (.aload_n 1, 1) := by decide +kernel
theorem dX0_giveBack_29 : decode cX0_giveBack 29 = .ok (.iload_n 2, 1) := by decide +kernel
theorem dX0_giveBack_30 : decode cX0_giveBack 30 = .ok (.putfield 15, 3) := by decide +kernel
theorem dX0_giveBack_33 : decode cX0_giveBack 33 = .ok (.return_, 1) := by decide +kernel
theorem dX0_shotAt_0 : decode cX0_shotAt 0 = .ok (.aload_n 0, 1) := by decide +kernel
theorem dX0_shotAt_1 : decode cX0_shotAt 1 = .ok (.getfield 11, 3) := by decide +kernel
theorem dX0_shotAt_4 : decode cX0_shotAt 4 = .ok (.iload_n 1, 1) := by decide +kernel
theorem dX0_shotAt_5 : decode cX0_shotAt 5 = .ok (.bipush 30, 2) := by decide +kernel
theorem dX0_shotAt_7 : decode cX0_shotAt 7 = .ok (.imul, 1) := by decide +kernel
theorem dX0_shotAt_8 : decode cX0_shotAt 8 = .ok (.bipush 24, 2) := by decide +kernel
theorem dX0_shotAt_10 : decode cX0_shotAt 10 = .ok (.iadd, 1) := by decide +kernel
theorem dX0_shotAt_11 : decode cX0_shotAt 11 = .ok (.iload_n 2, 1) := by decide +kernel
theorem dX0_shotAt_12 : decode cX0_shotAt 12 = .ok (.iadd, 1) := by decide +kernel
theorem dX0_shotAt_13 : decode cX0_shotAt 13 = .ok (.iaload, 1) := by decide +kernel
theorem dX0_shotAt_14 : decode cX0_shotAt 14 = .ok (.ireturn, 1) := by decide +kernel
theorem ggX0_take_X10_within : GoodIn wsX0_take wsX10_within := gW_in gwX10_within (fun _ h => List.mem_cons_of_mem _ (List.mem_append_right _ (List.mem_append_right _ (h))))
set_option maxRecDepth 20000 in
theorem gX0_take_X10_within_n21 : GoodIn wsX0_take (wsX10_within) := ggX0_take_X10_within
theorem dX0_take_0 : decode cX0_take 0 = .ok (.iload_n 2, 1) := by decide +kernel
theorem dX0_take_1 : decode cX0_take 1 = .ok (.iconst 0, 1) := by decide +kernel
theorem dX0_take_2 : decode cX0_take 2 = .ok (.bipush 120, 2) := by decide +kernel
theorem dX0_take_4 : decode cX0_take 4 = .ok (.invokestatic 21, 3) := by decide +kernel
theorem dX0_take_7 : decode cX0_take 7 = .ok (.ifCond .eq 20, 3) := by decide +kernel
theorem dX0_take_10 : decode cX0_take 10 = .ok (.aload_n 1, 1) := by decide +kernel
theorem dX0_take_11 : decode cX0_take 11 = .ok (.getfield 11, 3) := by decide +kernel
theorem dX0_take_14 : decode cX0_take 14 = .ok (.iconst 0, 1) := by decide +kernel
theorem dX0_take_15 : decode cX0_take 15 = .ok (.aload_n 0, 1) := by decide +kernel
theorem dX0_take_16 : decode cX0_take 16 = .ok (.getfield 11, 3) := by decide +kernel
theorem dX0_take_19 : decode cX0_take 19 = .ok (.iconst 0, 1) := by decide +kernel
theorem dX0_take_20 : decode cX0_take 20 = .ok (.iload_n 2, 1) := by decide +kernel
theorem dX0_take_21 : decode cX0_take 21 = .ok (.bipush 30, 2) := by decide +kernel
theorem dX0_take_23 : decode cX0_take 23 = .ok (.imul, 1) := by decide +kernel
theorem dX0_take_24 : decode cX0_take 24 = .ok (.invokestatic 28, 3) := by decide +kernel
theorem dX0_take_27 : decode cX0_take 27 = .ok (.return_, 1) := by decide +kernel
theorem dX1_init_0 : decode cX1_init 0 = .ok (.aload_n 0, 1) := by decide +kernel
theorem dX1_init_1 : decode cX1_init 1 = .ok (.invokespecial 5, 3) := by decide +kernel
theorem dX1_init_4 : decode cX1_init 4 = .ok (.aload_n 0, 1) := by decide +kernel
theorem dX1_init_5 : decode cX1_init 5 = .ok (.iconst 3, 1) := by decide +kernel
theorem dX1_init_6 : decode cX1_init 6 = .ok (.newarray .int, 2) := by decide +kernel
theorem dX1_init_8 : decode cX1_init 8 = .ok (.putfield 11, 3) := by decide +kernel
theorem dX1_init_11 : decode cX1_init 11 = .ok (.aload_n 0, 1) := by decide +kernel
theorem dX1_init_12 : decode cX1_init 12 = .ok (.iconst 3, 1) := by decide +kernel
theorem dX1_init_13 : decode cX1_init 13 = .ok (.newarray .int, 2) := by decide +kernel
theorem dX1_init_15 : decode cX1_init 15 = .ok (.putfield 15, 3) := by decide +kernel
theorem dX1_init_18 : decode cX1_init 18 = .ok (.aload_n 0, 1) := by decide +kernel
theorem dX1_init_19 : decode cX1_init 19 = .ok (.iconst 3, 1) := by decide +kernel
theorem dX1_init_20 : decode cX1_init 20 = .ok (.newarray .int, 2) := by decide +kernel
theorem dX1_init_22 : decode cX1_init 22 = .ok (.putfield 18, 3) := by decide +kernel
theorem dX1_init_25 : decode cX1_init 25 = .ok (.return_, 1) := by decide +kernel
theorem dX1_prepare_0 : decode cX1_prepare 0 = .ok (.aload_n 0, 1) := by decide +kernel
theorem dX1_prepare_1 : decode cX1_prepare 1 = .ok (.aload_n 1, 1) := by decide +kernel
theorem dX1_prepare_2 : decode cX1_prepare 2 = .ok (.getfield 21, 3) := by decide +kernel
theorem dX1_prepare_5 : decode cX1_prepare 5 = .ok (.iconst 3, 1) := by decide +kernel
theorem dX1_prepare_6 : decode cX1_prepare 6 = .ok (.invokestatic 27, 3) := by decide +kernel
theorem dX1_prepare_9 : decode cX1_prepare 9 = .ok (.putfield 33, 3) := by decide +kernel
theorem dX1_prepare_12 : decode cX1_prepare 12 = .ok (.iconst 0, 1) := by decide +kernel
theorem dX1_prepare_13 : decode cX1_prepare 13 = .ok (.istore_n 2, 1) := by decide +kernel
theorem dX1_prepare_14 : decode cX1_prepare 14 = .ok (.iload_n 2, 1) := by decide +kernel
theorem dX1_prepare_15 : decode cX1_prepare 15 = .ok (.aload_n 0, 1) := by decide +kernel
theorem dX1_prepare_16 : decode cX1_prepare 16 = .ok (.getfield 33, 3) := by decide +kernel
theorem dX1_prepare_19 : decode cX1_prepare 19 = .ok (.if_icmp .ge 36, 3) := by decide +kernel
theorem dX1_prepare_22 : decode cX1_prepare 22 = .ok (.aload_n 0, 1) := by decide +kernel
theorem dX1_prepare_23 : decode cX1_prepare 23 = .ok (.getfield 11, 3) := by decide +kernel
theorem dX1_prepare_26 : decode cX1_prepare 26 = .ok (.iload_n 2, 1) := by decide +kernel
theorem dX1_prepare_27 : decode cX1_prepare 27 = .ok (.aload_n 1, 1) := by decide +kernel
theorem dX1_prepare_28 : decode cX1_prepare 28 = .ok (.getfield 34, 3) := by decide +kernel
theorem dX1_prepare_31 : decode cX1_prepare 31 = .ok (.iload_n 2, 1) := by decide +kernel
theorem dX1_prepare_32 : decode cX1_prepare 32 = .ok (.iaload, 1) := by decide +kernel
theorem dX1_prepare_33 : decode cX1_prepare 33 = .ok (.iastore, 1) := by decide +kernel
theorem dX1_prepare_34 : decode cX1_prepare 34 = .ok (.aload_n 0, 1) := by decide +kernel
theorem dX1_prepare_35 : decode cX1_prepare 35 = .ok (.getfield 15, 3) := by decide +kernel
theorem dX1_prepare_38 : decode cX1_prepare 38 = .ok (.iload_n 2, 1) := by decide +kernel
theorem dX1_prepare_39 : decode cX1_prepare 39 = .ok (.aload_n 1, 1) := by decide +kernel
theorem dX1_prepare_40 : decode cX1_prepare 40 = .ok (.getfield 34, 3) := by decide +kernel
theorem dX1_prepare_43 : decode cX1_prepare 43 = .ok (.iload_n 2, 1) := by decide +kernel
theorem dX1_prepare_44 : decode cX1_prepare 44 = .ok (.iaload, 1) := by decide +kernel
theorem dX1_prepare_45 : decode cX1_prepare 45 = .ok (.bipush 25, 2) := by decide +kernel
theorem dX1_prepare_47 : decode cX1_prepare 47 = .ok (.idiv, 1) := by decide +kernel
theorem dX1_prepare_48 : decode cX1_prepare 48 = .ok (.iastore, 1) := by decide +kernel
theorem dX1_prepare_49 : decode cX1_prepare 49 = .ok (.iinc 2 1, 3) := by decide +kernel
theorem dX1_prepare_52 : decode cX1_prepare 52 = .ok (.goto (-38), 3) := by decide +kernel
theorem dX1_prepare_55 : decode cX1_prepare 55 = .ok (.return_, 1) := by decide +kernel
theorem dX1_all_0 : decode cX1_all 0 = .ok (.iconst 1, 1) := by decide +kernel
theorem dX1_all_1 : decode cX1_all 1 = .ok (.aload_n 0, 1) := by decide +kernel
theorem dX1_all_2 : decode cX1_all 2 = .ok (.getfield 33, 3) := by decide +kernel
theorem dX1_all_5 : decode cX1_all 5 = .ok (.ishl, 1) := by decide +kernel
theorem dX1_all_6 : decode cX1_all 6 = .ok (.iconst 1, 1) := by decide +kernel
theorem dX1_all_7 : decode cX1_all 7 = .ok (.isub, 1) := by decide +kernel
theorem dX1_all_8 : decode cX1_all 8 = .ok (.ireturn, 1) := by decide +kernel
theorem ggX1_safe_X1_place : GoodIn wsX1_safe wsX1_place := gW_in gwX1_place (fun _ h => List.mem_cons_of_mem _ (List.mem_append_right _ (List.mem_append_right _ (List.mem_append_left _ h))))
set_option maxRecDepth 20000 in
theorem gX1_safe_X1_place : GoodIn wsX1_safe (wsV RX1 40 RX1 yX1_place wsX1_place) := goodIn_app (goodIn_of _ (by decide +kernel)) ggX1_safe_X1_place
theorem ggX1_safe_X1_mostFelled : GoodIn wsX1_safe wsX1_mostFelled := gW_in gwX1_mostFelled (fun _ h => List.mem_cons_of_mem _ (List.mem_append_right _ (List.mem_append_right _ (List.mem_append_right _ (List.mem_append_left _ h)))))
set_option maxRecDepth 20000 in
theorem gX1_safe_X1_mostFelled : GoodIn wsX1_safe (wsV RX1 44 RX1 yX1_mostFelled wsX1_mostFelled) := goodIn_app (goodIn_of _ (by decide +kernel)) ggX1_safe_X1_mostFelled
theorem ggX1_safe_X1_digits : GoodIn wsX1_safe wsX1_digits := gW_in gwX1_digits (fun _ h => List.mem_cons_of_mem _ (List.mem_append_right _ (List.mem_append_right _ (List.mem_append_right _ (List.mem_append_right _ (h))))))
set_option maxRecDepth 20000 in
theorem gX1_safe_X1_digits : GoodIn wsX1_safe (wsV RX1 47 RX1 yX1_digits wsX1_digits) := goodIn_app (goodIn_of _ (by decide +kernel)) ggX1_safe_X1_digits
theorem dX1_safe_0 : decode cX1_safe 0 = .ok (.iconst (-1), 1) := by decide +kernel
theorem dX1_safe_1 : decode cX1_safe 1 = .ok (.istore 4, 2) := by decide +kernel
theorem dX1_safe_3 : decode cX1_safe 3 = .ok (.aload_n 0, 1) := by decide +kernel
theorem dX1_safe_4 : decode cX1_safe 4 = .ok (.iconst 0, 1) := by decide +kernel
theorem dX1_safe_5 : decode cX1_safe 5 = .ok (.putfield 37, 3) := by decide +kernel
theorem dX1_safe_8 : decode cX1_safe 8 = .ok (.iconst 0, 1) := by decide +kernel
theorem dX1_safe_9 : decode cX1_safe 9 = .ok (.istore 5, 2) := by decide +kernel
theorem dX1_safe_11 : decode cX1_safe 11 = .ok (.iload 5, 2) := by decide +kernel
theorem dX1_safe_13 : decode cX1_safe 13 = .ok (.iload_n 3, 1) := by decide +kernel
theorem dX1_safe_14 : decode cX1_safe 14 = .ok (.if_icmp .gt 82, 3) := by decide +kernel
theorem dX1_safe_17 : decode cX1_safe 17 = .ok (.iconst 0, 1) := by decide +kernel
theorem dX1_safe_18 : decode cX1_safe 18 = .ok (.istore 6, 2) := by decide +kernel
theorem dX1_safe_20 : decode cX1_safe 20 = .ok (.iload 6, 2) := by decide +kernel
theorem dX1_safe_22 : decode cX1_safe 22 = .ok (.iload_n 3, 1) := by decide +kernel
theorem dX1_safe_23 : decode cX1_safe 23 = .ok (.iload 5, 2) := by decide +kernel
theorem dX1_safe_25 : decode cX1_safe 25 = .ok (.isub, 1) := by decide +kernel
theorem dX1_safe_26 : decode cX1_safe 26 = .ok (.if_icmp .gt 64, 3) := by decide +kernel
theorem dX1_safe_29 : decode cX1_safe 29 = .ok (.aload_n 0, 1) := by decide +kernel
theorem dX1_safe_30 : decode cX1_safe 30 = .ok (.iload_n 1, 1) := by decide +kernel
theorem dX1_safe_31 : decode cX1_safe 31 = .ok (.iload 5, 2) := by decide +kernel
theorem dX1_safe_33 : decode cX1_safe 33 = .ok (.iload 6, 2) := by decide +kernel
theorem dX1_safe_35 : decode cX1_safe 35 = .ok (.iload_n 3, 1) := by decide +kernel
theorem dX1_safe_36 : decode cX1_safe 36 = .ok (.iload 5, 2) := by decide +kernel
theorem dX1_safe_38 : decode cX1_safe 38 = .ok (.isub, 1) := by decide +kernel
theorem dX1_safe_39 : decode cX1_safe 39 = .ok (.iload 6, 2) := by decide +kernel
theorem dX1_safe_41 : decode cX1_safe 41 = .ok (.isub, 1) := by decide +kernel
theorem dX1_safe_42 : decode cX1_safe 42 = .ok (.invokevirtual 40, 3) := by decide +kernel
theorem dX1_safe_45 : decode cX1_safe 45 = .ok (.ifCond .ne 6, 3) := by decide +kernel
theorem dX1_safe_48 : decode cX1_safe 48 = .ok (.goto 36, 3) := by decide +kernel
theorem dX1_safe_51 : decode cX1_safe 51 = .ok (.aload_n 0, 1) := by decide +kernel
theorem dX1_safe_52 : decode cX1_safe 52 = .ok (.iload_n 1, 1) := by decide +kernel
theorem dX1_safe_53 : decode cX1_safe 53 = .ok (.iload_n 2, 1) := by decide +kernel
theorem dX1_safe_54 : decode cX1_safe 54 = .ok (.invokevirtual 44, 3) := by decide +kernel
theorem dX1_safe_57 : decode cX1_safe 57 = .ok (.istore 7, 2) := by decide +kernel
theorem dX1_safe_59 : decode cX1_safe 59 = .ok (.iload 4, 2) := by decide +kernel
theorem dX1_safe_61 : decode cX1_safe 61 = .ok (.iconst (-1), 1) := by decide +kernel
theorem dX1_safe_62 : decode cX1_safe 62 = .ok (.if_icmp .eq 10, 3) := by decide +kernel
theorem dX1_safe_65 : decode cX1_safe 65 = .ok (.iload 7, 2) := by decide +kernel
theorem dX1_safe_67 : decode cX1_safe 67 = .ok (.iload 4, 2) := by decide +kernel
theorem dX1_safe_69 : decode cX1_safe 69 = .ok (.if_icmp .ge 15, 3) := by decide +kernel
theorem dX1_safe_72 : decode cX1_safe 72 = .ok (.iload 7, 2) := by decide +kernel
theorem dX1_safe_74 : decode cX1_safe 74 = .ok (.istore 4, 2) := by decide +kernel
theorem dX1_safe_76 : decode cX1_safe 76 = .ok (.aload_n 0, 1) := by decide +kernel
theorem dX1_safe_77 : decode cX1_safe 77 = .ok (.aload_n 0, 1) := by decide +kernel
theorem dX1_safe_78 : decode cX1_safe 78 = .ok (.invokevirtual 47, 3) := by decide +kernel
theorem dX1_safe_81 : decode cX1_safe 81 = .ok (.putfield 37, 3) := by decide +kernel
theorem dX1_safe_84 : decode cX1_safe 84 = .ok (.iinc 6 1, 3) := by decide +kernel
theorem dX1_safe_87 : decode cX1_safe 87 = .ok (.goto (-67), 3) := by decide +kernel
theorem dX1_safe_90 : decode cX1_safe 90 = .ok (.iinc 5 1, 3) := by decide +kernel
theorem dX1_safe_93 : decode cX1_safe 93 = .ok (.goto (-82), 3) := by decide +kernel
theorem dX1_safe_96 : decode cX1_safe 96 = .ok (.iload 4, 2) := by decide +kernel
theorem dX1_safe_98 : decode cX1_safe 98 = .ok (.iconst 0, 1) := by decide +kernel
theorem dX1_safe_99 : decode cX1_safe 99 = .ok (.invokestatic 51, 3) := by decide +kernel
theorem dX1_safe_102 : decode cX1_safe 102 = .ok (.ireturn, 1) := by decide +kernel
theorem ggX1_sure_X1_all : GoodIn wsX1_sure wsX1_all := gW_in gwX1_all (fun _ h => List.mem_cons_of_mem _ (List.mem_append_right _ (List.mem_append_right _ (List.mem_append_left _ h))))
set_option maxRecDepth 20000 in
theorem gX1_sure_X1_all : GoodIn wsX1_sure (wsV RX1 54 RX1 yX1_all wsX1_all) := goodIn_app (goodIn_of _ (by decide +kernel)) ggX1_sure_X1_all
theorem ggX1_sure_X1_place : GoodIn wsX1_sure wsX1_place := gW_in gwX1_place (fun _ h => List.mem_cons_of_mem _ (List.mem_append_right _ (List.mem_append_right _ (List.mem_append_right _ (List.mem_append_left _ h)))))
set_option maxRecDepth 20000 in
theorem gX1_sure_X1_place : GoodIn wsX1_sure (wsV RX1 40 RX1 yX1_place wsX1_place) := goodIn_app (goodIn_of _ (by decide +kernel)) ggX1_sure_X1_place
theorem ggX1_sure_X1_leastFelled : GoodIn wsX1_sure wsX1_leastFelled := gW_in gwX1_leastFelled (fun _ h => List.mem_cons_of_mem _ (List.mem_append_right _ (List.mem_append_right _ (List.mem_append_right _ (List.mem_append_right _ (h))))))
set_option maxRecDepth 20000 in
theorem gX1_sure_X1_leastFelled : GoodIn wsX1_sure (wsV RX1 57 RX1 yX1_leastFelled wsX1_leastFelled) := goodIn_app (goodIn_of _ (by decide +kernel)) ggX1_sure_X1_leastFelled
theorem dX1_sure_0 : decode cX1_sure 0 = .ok (.iconst 0, 1) := by decide +kernel
theorem dX1_sure_1 : decode cX1_sure 1 = .ok (.istore_n 3, 1) := by decide +kernel
theorem dX1_sure_2 : decode cX1_sure 2 = .ok (.iconst 0, 1) := by decide +kernel
theorem dX1_sure_3 : decode cX1_sure 3 = .ok (.istore 4, 2) := by decide +kernel
theorem dX1_sure_5 : decode cX1_sure 5 = .ok (.iload 4, 2) := by decide +kernel
theorem dX1_sure_7 : decode cX1_sure 7 = .ok (.iload_n 1, 1) := by decide +kernel
theorem dX1_sure_8 : decode cX1_sure 8 = .ok (.if_icmp .gt 59, 3) := by decide +kernel
theorem dX1_sure_11 : decode cX1_sure 11 = .ok (.iconst 0, 1) := by decide +kernel
theorem dX1_sure_12 : decode cX1_sure 12 = .ok (.istore 5, 2) := by decide +kernel
theorem dX1_sure_14 : decode cX1_sure 14 = .ok (.iload 5, 2) := by decide +kernel
theorem dX1_sure_16 : decode cX1_sure 16 = .ok (.iload_n 1, 1) := by decide +kernel
theorem dX1_sure_17 : decode cX1_sure 17 = .ok (.iload 4, 2) := by decide +kernel
theorem dX1_sure_19 : decode cX1_sure 19 = .ok (.isub, 1) := by decide +kernel
theorem dX1_sure_20 : decode cX1_sure 20 = .ok (.if_icmp .gt 41, 3) := by decide +kernel
theorem dX1_sure_23 : decode cX1_sure 23 = .ok (.aload_n 0, 1) := by decide +kernel
theorem dX1_sure_24 : decode cX1_sure 24 = .ok (.aload_n 0, 1) := by decide +kernel
theorem dX1_sure_25 : decode cX1_sure 25 = .ok (.invokevirtual 54, 3) := by decide +kernel
theorem dX1_sure_28 : decode cX1_sure 28 = .ok (.iload 4, 2) := by decide +kernel
theorem dX1_sure_30 : decode cX1_sure 30 = .ok (.iload 5, 2) := by decide +kernel
theorem dX1_sure_32 : decode cX1_sure 32 = .ok (.iload_n 1, 1) := by decide +kernel
theorem dX1_sure_33 : decode cX1_sure 33 = .ok (.iload 4, 2) := by decide +kernel
theorem dX1_sure_35 : decode cX1_sure 35 = .ok (.isub, 1) := by decide +kernel
theorem dX1_sure_36 : decode cX1_sure 36 = .ok (.iload 5, 2) := by decide +kernel
theorem dX1_sure_38 : decode cX1_sure 38 = .ok (.isub, 1) := by decide +kernel
theorem dX1_sure_39 : decode cX1_sure 39 = .ok (.invokevirtual 40, 3) := by decide +kernel
theorem dX1_sure_42 : decode cX1_sure 42 = .ok (.ifCond .eq 13, 3) := by decide +kernel
theorem dX1_sure_45 : decode cX1_sure 45 = .ok (.iload_n 3, 1) := by decide +kernel
theorem dX1_sure_46 : decode cX1_sure 46 = .ok (.aload_n 0, 1) := by decide +kernel
theorem dX1_sure_47 : decode cX1_sure 47 = .ok (.iload_n 2, 1) := by decide +kernel
theorem dX1_sure_48 : decode cX1_sure 48 = .ok (.invokevirtual 57, 3) := by decide +kernel
theorem dX1_sure_51 : decode cX1_sure 51 = .ok (.invokestatic 51, 3) := by decide +kernel
theorem dX1_sure_54 : decode cX1_sure 54 = .ok (.istore_n 3, 1) := by decide +kernel
theorem dX1_sure_55 : decode cX1_sure 55 = .ok (.iinc 5 1, 3) := by decide +kernel
theorem dX1_sure_58 : decode cX1_sure 58 = .ok (.goto (-44), 3) := by decide +kernel
theorem dX1_sure_61 : decode cX1_sure 61 = .ok (.iinc 4 1, 3) := by decide +kernel
theorem dX1_sure_64 : decode cX1_sure 64 = .ok (.goto (-59), 3) := by decide +kernel
theorem dX1_sure_67 : decode cX1_sure 67 = .ok (.iload_n 3, 1) := by decide +kernel
theorem dX1_sure_68 : decode cX1_sure 68 = .ok (.ireturn, 1) := by decide +kernel
theorem dX1_place_0 : decode cX1_place 0 = .ok (.aload_n 0, 1) := by decide +kernel
theorem dX1_place_1 : decode cX1_place 1 = .ok (.getfield 18, 3) := by decide +kernel
theorem dX1_place_4 : decode cX1_place 4 = .ok (.iconst 0, 1) := by decide +kernel
theorem dX1_place_5 : decode cX1_place 5 = .ok (.iload_n 2, 1) := by decide +kernel
theorem dX1_place_6 : decode cX1_place 6 = .ok (.iastore, 1) := by decide +kernel
theorem dX1_place_7 : decode cX1_place 7 = .ok (.aload_n 0, 1) := by decide +kernel
theorem dX1_place_8 : decode cX1_place 8 = .ok (.getfield 18, 3) := by decide +kernel
theorem dX1_place_11 : decode cX1_place 11 = .ok (.iconst 1, 1) := by decide +kernel
theorem dX1_place_12 : decode cX1_place 12 = .ok (.iload_n 3, 1) := by decide +kernel
theorem dX1_place_13 : decode cX1_place 13 = .ok (.iastore, 1) := by decide +kernel
theorem dX1_place_14 : decode cX1_place 14 = .ok (.aload_n 0, 1) := by decide +kernel
theorem dX1_place_15 : decode cX1_place 15 = .ok (.getfield 18, 3) := by decide +kernel
theorem dX1_place_18 : decode cX1_place 18 = .ok (.iconst 2, 1) := by decide +kernel
theorem dX1_place_19 : decode cX1_place 19 = .ok (.iload 4, 2) := by decide +kernel
theorem dX1_place_21 : decode cX1_place 21 = .ok (.iastore, 1) := by decide +kernel
theorem dX1_place_22 : decode cX1_place 22 = .ok (.iconst 0, 1) := by decide +kernel
theorem dX1_place_23 : decode cX1_place 23 = .ok (.istore 5, 2) := by decide +kernel
theorem dX1_place_25 : decode cX1_place 25 = .ok (.iload 5, 2) := by decide +kernel
theorem dX1_place_27 : decode cX1_place 27 = .ok (.iconst 3, 1) := by decide +kernel
theorem dX1_place_28 : decode cX1_place 28 = .ok (.if_icmp .ge 30, 3) := by decide +kernel
theorem dX1_place_31 : decode cX1_place 31 = .ok (.aload_n 0, 1) := by decide +kernel
theorem dX1_place_32 : decode cX1_place 32 = .ok (.getfield 18, 3) := by decide +kernel
theorem dX1_place_35 : decode cX1_place 35 = .ok (.iload 5, 2) := by decide +kernel
theorem dX1_place_37 : decode cX1_place 37 = .ok (.iaload, 1) := by decide +kernel
theorem dX1_place_38 : decode cX1_place 38 = .ok (.ifCond .le 14, 3) := by decide +kernel
theorem dX1_place_41 : decode cX1_place 41 = .ok (.iload_n 1, 1) := by decide +kernel
theorem dX1_place_42 : decode cX1_place 42 = .ok (.iload 5, 2) := by decide +kernel
theorem dX1_place_44 : decode cX1_place 44 = .ok (.ishr, 1) := by decide +kernel
theorem dX1_place_45 : decode cX1_place 45 = .ok (.iconst 1, 1) := by decide +kernel
theorem dX1_place_46 : decode cX1_place 46 = .ok (.iand, 1) := by decide +kernel
theorem dX1_place_47 : decode cX1_place 47 = .ok (.ifCond .ne 5, 3) := by decide +kernel
theorem dX1_place_50 : decode cX1_place 50 = .ok (.iconst 0, 1) := by decide +kernel
theorem dX1_place_51 : decode cX1_place 51 = .ok (.ireturn, 1) := by decide +kernel
theorem dX1_place_52 : decode cX1_place 52 = .ok (.iinc 5 1, 3) := by decide +kernel
theorem dX1_place_55 : decode cX1_place 55 = .ok (.goto (-30), 3) := by decide +kernel
theorem dX1_place_58 : decode cX1_place 58 = .ok (.iconst 1, 1) := by decide +kernel
theorem dX1_place_59 : decode cX1_place 59 = .ok (.ireturn, 1) := by decide +kernel
theorem dX1_digits_0 : decode cX1_digits 0 = .ok (.iconst 0, 1) := by decide +kernel
theorem dX1_digits_1 : decode cX1_digits 1 = .ok (.istore_n 1, 1) := by decide +kernel
theorem dX1_digits_2 : decode cX1_digits 2 = .ok (.iconst 0, 1) := by decide +kernel
theorem dX1_digits_3 : decode cX1_digits 3 = .ok (.istore_n 2, 1) := by decide +kernel
theorem dX1_digits_4 : decode cX1_digits 4 = .ok (.iload_n 2, 1) := by decide +kernel
theorem dX1_digits_5 : decode cX1_digits 5 = .ok (.aload_n 0, 1) := by decide +kernel
theorem dX1_digits_6 : decode cX1_digits 6 = .ok (.getfield 33, 3) := by decide +kernel
theorem dX1_digits_9 : decode cX1_digits 9 = .ok (.if_icmp .ge 21, 3) := by decide +kernel
theorem dX1_digits_12 : decode cX1_digits 12 = .ok (.iload_n 1, 1) := by decide +kernel
theorem dX1_digits_13 : decode cX1_digits 13 = .ok (.bipush 10, 2) := by decide +kernel
theorem dX1_digits_15 : decode cX1_digits 15 = .ok (.imul, 1) := by decide +kernel
theorem dX1_digits_16 : decode cX1_digits 16 = .ok (.aload_n 0, 1) := by decide +kernel
theorem dX1_digits_17 : decode cX1_digits 17 = .ok (.getfield 18, 3) := by decide +kernel
theorem dX1_digits_20 : decode cX1_digits 20 = .ok (.iload_n 2, 1) := by decide +kernel
theorem dX1_digits_21 : decode cX1_digits 21 = .ok (.iaload, 1) := by decide +kernel
theorem dX1_digits_22 : decode cX1_digits 22 = .ok (.iadd, 1) := by decide +kernel
theorem dX1_digits_23 : decode cX1_digits 23 = .ok (.istore_n 1, 1) := by decide +kernel
theorem dX1_digits_24 : decode cX1_digits 24 = .ok (.iinc 2 1, 3) := by decide +kernel
theorem dX1_digits_27 : decode cX1_digits 27 = .ok (.goto (-23), 3) := by decide +kernel
theorem dX1_digits_30 : decode cX1_digits 30 = .ok (.iload_n 1, 1) := by decide +kernel
theorem dX1_digits_31 : decode cX1_digits 31 = .ok (.ireturn, 1) := by decide +kernel
theorem ggX1_mostFelled_X1_menToFell : GoodIn wsX1_mostFelled wsX1_menToFell := gW_in gwX1_menToFell (fun _ h => List.mem_cons_of_mem _ (List.mem_append_right _ (List.mem_append_right _ (List.mem_append_left _ h))))
set_option maxRecDepth 20000 in
theorem gX1_mostFelled_X1_menToFell : GoodIn wsX1_mostFelled (wsV RX1 61 RX1 yX1_menToFell wsX1_menToFell) := goodIn_app (goodIn_of _ (by decide +kernel)) ggX1_mostFelled_X1_menToFell
theorem ggX1_mostFelled_X1_worthOf : GoodIn wsX1_mostFelled wsX1_worthOf := gW_in gwX1_worthOf (fun _ h => List.mem_cons_of_mem _ (List.mem_append_right _ (List.mem_append_right _ (List.mem_append_right _ (h)))))
set_option maxRecDepth 20000 in
theorem gX1_mostFelled_X1_worthOf : GoodIn wsX1_mostFelled (wsV RX1 64 RX1 yX1_worthOf wsX1_worthOf) := goodIn_app (goodIn_of _ (by decide +kernel)) ggX1_mostFelled_X1_worthOf
theorem dX1_mostFelled_0 : decode cX1_mostFelled 0 = .ok (.iconst 0, 1) := by decide +kernel
theorem dX1_mostFelled_1 : decode cX1_mostFelled 1 = .ok (.istore_n 3, 1) := by decide +kernel
theorem dX1_mostFelled_2 : decode cX1_mostFelled 2 = .ok (.iconst 0, 1) := by decide +kernel
theorem dX1_mostFelled_3 : decode cX1_mostFelled 3 = .ok (.istore 4, 2) := by decide +kernel
theorem dX1_mostFelled_5 : decode cX1_mostFelled 5 = .ok (.iload 4, 2) := by decide +kernel
theorem dX1_mostFelled_7 : decode cX1_mostFelled 7 = .ok (.bipush 8, 2) := by decide +kernel
theorem dX1_mostFelled_9 : decode cX1_mostFelled 9 = .ok (.if_icmp .ge 39, 3) := by decide +kernel
theorem dX1_mostFelled_12 : decode cX1_mostFelled 12 = .ok (.iload 4, 2) := by decide +kernel
theorem dX1_mostFelled_14 : decode cX1_mostFelled 14 = .ok (.iload_n 1, 1) := by decide +kernel
theorem dX1_mostFelled_15 : decode cX1_mostFelled 15 = .ok (.iconst (-1), 1) := by decide +kernel
theorem dX1_mostFelled_16 : decode cX1_mostFelled 16 = .ok (.ixor, 1) := by decide +kernel
theorem dX1_mostFelled_17 : decode cX1_mostFelled 17 = .ok (.iand, 1) := by decide +kernel
theorem dX1_mostFelled_18 : decode cX1_mostFelled 18 = .ok (.ifCond .ne 24, 3) := by decide +kernel
theorem dX1_mostFelled_21 : decode cX1_mostFelled 21 = .ok (.aload_n 0, 1) := by decide +kernel
theorem dX1_mostFelled_22 : decode cX1_mostFelled 22 = .ok (.iload 4, 2) := by decide +kernel
theorem dX1_mostFelled_24 : decode cX1_mostFelled 24 = .ok (.invokevirtual 61, 3) := by decide +kernel
theorem dX1_mostFelled_27 : decode cX1_mostFelled 27 = .ok (.iload_n 2, 1) := by decide +kernel
theorem dX1_mostFelled_28 : decode cX1_mostFelled 28 = .ok (.if_icmp .gt 14, 3) := by decide +kernel
theorem dX1_mostFelled_31 : decode cX1_mostFelled 31 = .ok (.iload_n 3, 1) := by decide +kernel
theorem dX1_mostFelled_32 : decode cX1_mostFelled 32 = .ok (.aload_n 0, 1) := by decide +kernel
theorem dX1_mostFelled_33 : decode cX1_mostFelled 33 = .ok (.iload 4, 2) := by decide +kernel
theorem dX1_mostFelled_35 : decode cX1_mostFelled 35 = .ok (.invokevirtual 64, 3) := by decide +kernel
theorem dX1_mostFelled_38 : decode cX1_mostFelled 38 = .ok (.invokestatic 51, 3) := by decide +kernel
theorem dX1_mostFelled_41 : decode cX1_mostFelled 41 = .ok (.istore_n 3, 1) := by decide +kernel
theorem dX1_mostFelled_42 : decode cX1_mostFelled 42 = .ok (.iinc 4 1, 3) := by decide +kernel
theorem dX1_mostFelled_45 : decode cX1_mostFelled 45 = .ok (.goto (-40), 3) := by decide +kernel
theorem dX1_mostFelled_48 : decode cX1_mostFelled 48 = .ok (.iload_n 3, 1) := by decide +kernel
theorem dX1_mostFelled_49 : decode cX1_mostFelled 49 = .ok (.ireturn, 1) := by decide +kernel
theorem ggX1_leastFelled_X1_all : GoodIn wsX1_leastFelled wsX1_all := gW_in gwX1_all (fun _ h => List.mem_cons_of_mem _ (List.mem_append_right _ (List.mem_append_right _ (List.mem_append_left _ h))))
set_option maxRecDepth 20000 in
theorem gX1_leastFelled_X1_all : GoodIn wsX1_leastFelled (wsV RX1 54 RX1 yX1_all wsX1_all) := goodIn_app (goodIn_of _ (by decide +kernel)) ggX1_leastFelled_X1_all
theorem ggX1_leastFelled_X1_menToHold : GoodIn wsX1_leastFelled wsX1_menToHold := gW_in gwX1_menToHold (fun _ h => List.mem_cons_of_mem _ (List.mem_append_right _ (List.mem_append_right _ (List.mem_append_right _ (List.mem_append_left _ h)))))
set_option maxRecDepth 20000 in
theorem gX1_leastFelled_X1_menToHold : GoodIn wsX1_leastFelled (wsV RX1 67 RX1 yX1_menToHold wsX1_menToHold) := goodIn_app (goodIn_of _ (by decide +kernel)) ggX1_leastFelled_X1_menToHold
theorem ggX1_leastFelled_X1_worthOf : GoodIn wsX1_leastFelled wsX1_worthOf := gW_in gwX1_worthOf (fun _ h => List.mem_cons_of_mem _ (List.mem_append_right _ (List.mem_append_right _ (List.mem_append_right _ (List.mem_append_right _ (h))))))
set_option maxRecDepth 20000 in
theorem gX1_leastFelled_X1_worthOf : GoodIn wsX1_leastFelled (wsV RX1 64 RX1 yX1_worthOf wsX1_worthOf) := goodIn_app (goodIn_of _ (by decide +kernel)) ggX1_leastFelled_X1_worthOf
theorem dX1_leastFelled_0 : decode cX1_leastFelled 0 = .ok (.iconst 0, 1) := by decide +kernel
theorem dX1_leastFelled_1 : decode cX1_leastFelled 1 = .ok (.istore_n 2, 1) := by decide +kernel
theorem dX1_leastFelled_2 : decode cX1_leastFelled 2 = .ok (.iconst 0, 1) := by decide +kernel
theorem dX1_leastFelled_3 : decode cX1_leastFelled 3 = .ok (.istore_n 3, 1) := by decide +kernel
theorem dX1_leastFelled_4 : decode cX1_leastFelled 4 = .ok (.iload_n 3, 1) := by decide +kernel
theorem dX1_leastFelled_5 : decode cX1_leastFelled 5 = .ok (.aload_n 0, 1) := by decide +kernel
theorem dX1_leastFelled_6 : decode cX1_leastFelled 6 = .ok (.invokevirtual 54, 3) := by decide +kernel
theorem dX1_leastFelled_9 : decode cX1_leastFelled 9 = .ok (.if_icmp .gt 28, 3) := by decide +kernel
theorem dX1_leastFelled_12 : decode cX1_leastFelled 12 = .ok (.aload_n 0, 1) := by decide +kernel
theorem dX1_leastFelled_13 : decode cX1_leastFelled 13 = .ok (.iload_n 3, 1) := by decide +kernel
theorem dX1_leastFelled_14 : decode cX1_leastFelled 14 = .ok (.invokevirtual 67, 3) := by decide +kernel
theorem dX1_leastFelled_17 : decode cX1_leastFelled 17 = .ok (.iload_n 1, 1) := by decide +kernel
theorem dX1_leastFelled_18 : decode cX1_leastFelled 18 = .ok (.if_icmp .gt 13, 3) := by decide +kernel
theorem dX1_leastFelled_21 : decode cX1_leastFelled 21 = .ok (.iload_n 2, 1) := by decide +kernel
theorem dX1_leastFelled_22 : decode cX1_leastFelled 22 = .ok (.aload_n 0, 1) := by decide +kernel
theorem dX1_leastFelled_23 : decode cX1_leastFelled 23 = .ok (.iload_n 3, 1) := by decide +kernel
theorem dX1_leastFelled_24 : decode cX1_leastFelled 24 = .ok (.invokevirtual 64, 3) := by decide +kernel
theorem dX1_leastFelled_27 : decode cX1_leastFelled 27 = .ok (.invokestatic 51, 3) := by decide +kernel
theorem dX1_leastFelled_30 : decode cX1_leastFelled 30 = .ok (.istore_n 2, 1) := by decide +kernel
theorem dX1_leastFelled_31 : decode cX1_leastFelled 31 = .ok (.iinc 3 1, 3) := by decide +kernel
theorem dX1_leastFelled_34 : decode cX1_leastFelled 34 = .ok (.goto (-30), 3) := by decide +kernel
theorem dX1_leastFelled_37 : decode cX1_leastFelled 37 = .ok (.aload_n 0, 1) := by decide +kernel
theorem dX1_leastFelled_38 : decode cX1_leastFelled 38 = .ok (.aload_n 0, 1) := by decide +kernel
theorem dX1_leastFelled_39 : decode cX1_leastFelled 39 = .ok (.invokevirtual 54, 3) := by decide +kernel
theorem dX1_leastFelled_42 : decode cX1_leastFelled 42 = .ok (.invokevirtual 64, 3) := by decide +kernel
theorem dX1_leastFelled_45 : decode cX1_leastFelled 45 = .ok (.iload_n 2, 1) := by decide +kernel
theorem dX1_leastFelled_46 : decode cX1_leastFelled 46 = .ok (.isub, 1) := by decide +kernel
theorem dX1_leastFelled_47 : decode cX1_leastFelled 47 = .ok (.ireturn, 1) := by decide +kernel
theorem dX1_menToFell_0 : decode cX1_menToFell 0 = .ok (.iconst 0, 1) := by decide +kernel
theorem dX1_menToFell_1 : decode cX1_menToFell 1 = .ok (.istore_n 2, 1) := by decide +kernel
theorem dX1_menToFell_2 : decode cX1_menToFell 2 = .ok (.iconst 0, 1) := by decide +kernel
theorem dX1_menToFell_3 : decode cX1_menToFell 3 = .ok (.istore_n 3, 1) := by decide +kernel
theorem dX1_menToFell_4 : decode cX1_menToFell 4 = .ok (.iload_n 3, 1) := by decide +kernel
theorem dX1_menToFell_5 : decode cX1_menToFell 5 = .ok (.iconst 3, 1) := by decide +kernel
theorem dX1_menToFell_6 : decode cX1_menToFell 6 = .ok (.if_icmp .ge 36, 3) := by decide +kernel
theorem dX1_menToFell_9 : decode cX1_menToFell 9 = .ok (.iload_n 1, 1) := by decide +kernel
theorem dX1_menToFell_10 : decode cX1_menToFell 10 = .ok (.iload_n 3, 1) := by decide +kernel
theorem dX1_menToFell_11 : decode cX1_menToFell 11 = .ok (.ishr, 1) := by decide +kernel
theorem dX1_menToFell_12 : decode cX1_menToFell 12 = .ok (.iconst 1, 1) := by decide +kernel
theorem dX1_menToFell_13 : decode cX1_menToFell 13 = .ok (.iand, 1) := by decide +kernel
theorem dX1_menToFell_14 : decode cX1_menToFell 14 = .ok (.iconst 1, 1) := by decide +kernel
theorem dX1_menToFell_15 : decode cX1_menToFell 15 = .ok (.if_icmp .ne 21, 3) := by decide +kernel
theorem dX1_menToFell_18 : decode cX1_menToFell 18 = .ok (.iload_n 2, 1) := by decide +kernel
theorem dX1_menToFell_19 : decode cX1_menToFell 19 = .ok (.aload_n 0, 1) := by decide +kernel
theorem dX1_menToFell_20 : decode cX1_menToFell 20 = .ok (.getfield 18, 3) := by decide +kernel
theorem dX1_menToFell_23 : decode cX1_menToFell 23 = .ok (.iload_n 3, 1) := by decide +kernel
theorem dX1_menToFell_24 : decode cX1_menToFell 24 = .ok (.iaload, 1) := by decide +kernel
theorem dX1_menToFell_25 : decode cX1_menToFell 25 = .ok (.aload_n 0, 1) := by decide +kernel
theorem dX1_menToFell_26 : decode cX1_menToFell 26 = .ok (.getfield 15, 3) := by decide +kernel
theorem dX1_menToFell_29 : decode cX1_menToFell 29 = .ok (.iload_n 3, 1) := by decide +kernel
theorem dX1_menToFell_30 : decode cX1_menToFell 30 = .ok (.iaload, 1) := by decide +kernel
theorem dX1_menToFell_31 : decode cX1_menToFell 31 = .ok (.iadd, 1) := by decide +kernel
theorem dX1_menToFell_32 : decode cX1_menToFell 32 = .ok (.iconst 1, 1) := by decide +kernel
theorem dX1_menToFell_33 : decode cX1_menToFell 33 = .ok (.iadd, 1) := by decide +kernel
theorem dX1_menToFell_34 : decode cX1_menToFell 34 = .ok (.iadd, 1) := by decide +kernel
theorem dX1_menToFell_35 : decode cX1_menToFell 35 = .ok (.istore_n 2, 1) := by decide +kernel
theorem dX1_menToFell_36 : decode cX1_menToFell 36 = .ok (.iinc 3 1, 3) := by decide +kernel
theorem dX1_menToFell_39 : decode cX1_menToFell 39 = .ok (.goto (-35), 3) := by decide +kernel
theorem dX1_menToFell_42 : decode cX1_menToFell 42 = .ok (.iload_n 2, 1) := by decide +kernel
theorem dX1_menToFell_43 : decode cX1_menToFell 43 = .ok (.ireturn, 1) := by decide +kernel
theorem dX1_menToHold_0 : decode cX1_menToHold 0 = .ok (.iconst 0, 1) := by decide +kernel
theorem dX1_menToHold_1 : decode cX1_menToHold 1 = .ok (.istore_n 2, 1) := by decide +kernel
theorem dX1_menToHold_2 : decode cX1_menToHold 2 = .ok (.iconst 0, 1) := by decide +kernel
theorem dX1_menToHold_3 : decode cX1_menToHold 3 = .ok (.istore_n 3, 1) := by decide +kernel
theorem dX1_menToHold_4 : decode cX1_menToHold 4 = .ok (.iload_n 3, 1) := by decide +kernel
theorem dX1_menToHold_5 : decode cX1_menToHold 5 = .ok (.iconst 3, 1) := by decide +kernel
theorem dX1_menToHold_6 : decode cX1_menToHold 6 = .ok (.if_icmp .ge 38, 3) := by decide +kernel
theorem dX1_menToHold_9 : decode cX1_menToHold 9 = .ok (.iload_n 1, 1) := by decide +kernel
theorem dX1_menToHold_10 : decode cX1_menToHold 10 = .ok (.iload_n 3, 1) := by decide +kernel
theorem dX1_menToHold_11 : decode cX1_menToHold 11 = .ok (.ishr, 1) := by decide +kernel
theorem dX1_menToHold_12 : decode cX1_menToHold 12 = .ok (.iconst 1, 1) := by decide +kernel
theorem dX1_menToHold_13 : decode cX1_menToHold 13 = .ok (.iand, 1) := by decide +kernel
theorem dX1_menToHold_14 : decode cX1_menToHold 14 = .ok (.iconst 1, 1) := by decide +kernel
theorem dX1_menToHold_15 : decode cX1_menToHold 15 = .ok (.if_icmp .ne 23, 3) := by decide +kernel
theorem dX1_menToHold_18 : decode cX1_menToHold 18 = .ok (.iload_n 2, 1) := by decide +kernel
theorem dX1_menToHold_19 : decode cX1_menToHold 19 = .ok (.iconst 0, 1) := by decide +kernel
theorem dX1_menToHold_20 : decode cX1_menToHold 20 = .ok (.aload_n 0, 1) := by decide +kernel
theorem dX1_menToHold_21 : decode cX1_menToHold 21 = .ok (.getfield 18, 3) := by decide +kernel
theorem dX1_menToHold_24 : decode cX1_menToHold 24 = .ok (.iload_n 3, 1) := by decide +kernel
theorem dX1_menToHold_25 : decode cX1_menToHold 25 = .ok (.iaload, 1) := by decide +kernel
theorem dX1_menToHold_26 : decode cX1_menToHold 26 = .ok (.aload_n 0, 1) := by decide +kernel
theorem dX1_menToHold_27 : decode cX1_menToHold 27 = .ok (.getfield 15, 3) := by decide +kernel
theorem dX1_menToHold_30 : decode cX1_menToHold 30 = .ok (.iload_n 3, 1) := by decide +kernel
theorem dX1_menToHold_31 : decode cX1_menToHold 31 = .ok (.iaload, 1) := by decide +kernel
theorem dX1_menToHold_32 : decode cX1_menToHold 32 = .ok (.isub, 1) := by decide +kernel
theorem dX1_menToHold_33 : decode cX1_menToHold 33 = .ok (.invokestatic 51, 3) := by decide +kernel
theorem dX1_menToHold_36 : decode cX1_menToHold 36 = .ok (.iadd, 1) := by decide +kernel
theorem dX1_menToHold_37 : decode cX1_menToHold 37 = .ok (.istore_n 2, 1) := by decide +kernel
theorem dX1_menToHold_38 : decode cX1_menToHold 38 = .ok (.iinc 3 1, 3) := by decide +kernel
theorem dX1_menToHold_41 : decode cX1_menToHold 41 = .ok (.goto (-37), 3) := by decide +kernel
theorem dX1_menToHold_44 : decode cX1_menToHold 44 = .ok (.iload_n 2, 1) := by decide +kernel
theorem dX1_menToHold_45 : decode cX1_menToHold 45 = .ok (.ireturn, 1) := by decide +kernel
theorem dX1_worthOf_0 : decode cX1_worthOf 0 = .ok (.iconst 0, 1) := by decide +kernel
theorem dX1_worthOf_1 : decode cX1_worthOf 1 = .ok (.istore_n 2, 1) := by decide +kernel
theorem dX1_worthOf_2 : decode cX1_worthOf 2 = .ok (.iconst 0, 1) := by decide +kernel
theorem dX1_worthOf_3 : decode cX1_worthOf 3 = .ok (.istore_n 3, 1) := by decide +kernel
theorem dX1_worthOf_4 : decode cX1_worthOf 4 = .ok (.iload_n 3, 1) := by decide +kernel
theorem dX1_worthOf_5 : decode cX1_worthOf 5 = .ok (.iconst 3, 1) := by decide +kernel
theorem dX1_worthOf_6 : decode cX1_worthOf 6 = .ok (.if_icmp .ge 27, 3) := by decide +kernel
theorem dX1_worthOf_9 : decode cX1_worthOf 9 = .ok (.iload_n 1, 1) := by decide +kernel
theorem dX1_worthOf_10 : decode cX1_worthOf 10 = .ok (.iload_n 3, 1) := by decide +kernel
theorem dX1_worthOf_11 : decode cX1_worthOf 11 = .ok (.ishr, 1) := by decide +kernel
theorem dX1_worthOf_12 : decode cX1_worthOf 12 = .ok (.iconst 1, 1) := by decide +kernel
theorem dX1_worthOf_13 : decode cX1_worthOf 13 = .ok (.iand, 1) := by decide +kernel
theorem dX1_worthOf_14 : decode cX1_worthOf 14 = .ok (.iconst 1, 1) := by decide +kernel
theorem dX1_worthOf_15 : decode cX1_worthOf 15 = .ok (.if_icmp .ne 12, 3) := by decide +kernel
theorem dX1_worthOf_18 : decode cX1_worthOf 18 = .ok (.iload_n 2, 1) := by decide +kernel
theorem dX1_worthOf_19 : decode cX1_worthOf 19 = .ok (.aload_n 0, 1) := by decide +kernel
theorem dX1_worthOf_20 : decode cX1_worthOf 20 = .ok (.getfield 11, 3) := by decide +kernel
theorem dX1_worthOf_23 : decode cX1_worthOf 23 = .ok (.iload_n 3, 1) := by decide +kernel
theorem dX1_worthOf_24 : decode cX1_worthOf 24 = .ok (.iaload, 1) := by decide +kernel
theorem dX1_worthOf_25 : decode cX1_worthOf 25 = .ok (.iadd, 1) := by decide +kernel
theorem dX1_worthOf_26 : decode cX1_worthOf 26 = .ok (.istore_n 2, 1) := by decide +kernel
theorem dX1_worthOf_27 : decode cX1_worthOf 27 = .ok (.iinc 3 1, 3) := by decide +kernel
theorem dX1_worthOf_30 : decode cX1_worthOf 30 = .ok (.goto (-26), 3) := by decide +kernel
theorem dX1_worthOf_33 : decode cX1_worthOf 33 = .ok (.iload_n 2, 1) := by decide +kernel
theorem dX1_worthOf_34 : decode cX1_worthOf 34 = .ok (.ireturn, 1) := by decide +kernel
theorem dX2_init_0 : decode cX2_init 0 = .ok (.aload_n 0, 1) := by decide +kernel
theorem dX2_init_1 : decode cX2_init 1 = .ok (.invokespecial 1, 3) := by decide +kernel
theorem dX2_init_4 : decode cX2_init 4 = .ok (.aload_n 0, 1) := by decide +kernel
theorem dX2_init_5 : decode cX2_init 5 = .ok (.iconst 4, 1) := by decide +kernel
theorem dX2_init_6 : decode cX2_init 6 = .ok (.newarray .int, 2) := by decide +kernel
theorem dX2_init_8 : decode cX2_init 8 = .ok (.dup, 1) := by decide +kernel
theorem dX2_init_9 : decode cX2_init 9 = .ok (.iconst 0, 1) := by decide +kernel
theorem dX2_init_10 : decode cX2_init 10 = .ok (.bipush 8, 2) := by decide +kernel
theorem dX2_init_12 : decode cX2_init 12 = .ok (.iastore, 1) := by decide +kernel
theorem dX2_init_13 : decode cX2_init 13 = .ok (.dup, 1) := by decide +kernel
theorem dX2_init_14 : decode cX2_init 14 = .ok (.iconst 1, 1) := by decide +kernel
theorem dX2_init_15 : decode cX2_init 15 = .ok (.bipush 8, 2) := by decide +kernel
theorem dX2_init_17 : decode cX2_init 17 = .ok (.iastore, 1) := by decide +kernel
theorem dX2_init_18 : decode cX2_init 18 = .ok (.dup, 1) := by decide +kernel
theorem dX2_init_19 : decode cX2_init 19 = .ok (.iconst 2, 1) := by decide +kernel
theorem dX2_init_20 : decode cX2_init 20 = .ok (.bipush 8, 2) := by decide +kernel
theorem dX2_init_22 : decode cX2_init 22 = .ok (.iastore, 1) := by decide +kernel
theorem dX2_init_23 : decode cX2_init 23 = .ok (.dup, 1) := by decide +kernel
theorem dX2_init_24 : decode cX2_init 24 = .ok (.iconst 3, 1) := by decide +kernel
theorem dX2_init_25 : decode cX2_init 25 = .ok (.bipush 8, 2) := by decide +kernel
theorem dX2_init_27 : decode cX2_init 27 = .ok (.iastore, 1) := by decide +kernel
theorem dX2_init_28 : decode cX2_init 28 = .ok (.putfield 7, 3) := by decide +kernel
theorem dX2_init_31 : decode cX2_init 31 = .ok (.aload_n 0, 1) := by decide +kernel
theorem dX2_init_32 : decode cX2_init 32 = .ok (.iconst 4, 1) := by decide +kernel
theorem dX2_init_33 : decode cX2_init 33 = .ok (.newarray .int, 2) := by decide +kernel
theorem dX2_init_35 : decode cX2_init 35 = .ok (.dup, 1) := by decide +kernel
theorem dX2_init_36 : decode cX2_init 36 = .ok (.iconst 0, 1) := by decide +kernel
theorem dX2_init_37 : decode cX2_init 37 = .ok (.bipush 8, 2) := by decide +kernel
theorem dX2_init_39 : decode cX2_init 39 = .ok (.iastore, 1) := by decide +kernel
theorem dX2_init_40 : decode cX2_init 40 = .ok (.dup, 1) := by decide +kernel
theorem dX2_init_41 : decode cX2_init 41 = .ok (.iconst 1, 1) := by decide +kernel
theorem dX2_init_42 : decode cX2_init 42 = .ok (.bipush 8, 2) := by decide +kernel
theorem dX2_init_44 : decode cX2_init 44 = .ok (.iastore, 1) := by decide +kernel
theorem dX2_init_45 : decode cX2_init 45 = .ok (.dup, 1) := by decide +kernel
theorem dX2_init_46 : decode cX2_init 46 = .ok (.iconst 2, 1) := by decide +kernel
theorem dX2_init_47 : decode cX2_init 47 = .ok (.bipush 8, 2) := by decide +kernel
theorem dX2_init_49 : decode cX2_init 49 = .ok (.iastore, 1) := by decide +kernel
theorem dX2_init_50 : decode cX2_init 50 = .ok (.dup, 1) := by decide +kernel
theorem dX2_init_51 : decode cX2_init 51 = .ok (.iconst 3, 1) := by decide +kernel
theorem dX2_init_52 : decode cX2_init 52 = .ok (.bipush 8, 2) := by decide +kernel
theorem dX2_init_54 : decode cX2_init 54 = .ok (.iastore, 1) := by decide +kernel
theorem dX2_init_55 : decode cX2_init 55 = .ok (.putfield 13, 3) := by decide +kernel
theorem dX2_init_58 : decode cX2_init 58 = .ok (.aload_n 0, 1) := by decide +kernel
theorem dX2_init_59 : decode cX2_init 59 = .ok (.iconst 1, 1) := by decide +kernel
theorem dX2_init_60 : decode cX2_init 60 = .ok (.putfield 16, 3) := by decide +kernel
theorem dX2_init_63 : decode cX2_init 63 = .ok (.aload_n 0, 1) := by decide +kernel
theorem dX2_init_64 : decode cX2_init 64 = .ok (.iconst 1, 1) := by decide +kernel
theorem dX2_init_65 : decode cX2_init 65 = .ok (.putfield 20, 3) := by decide +kernel
theorem dX2_init_68 : decode cX2_init 68 = .ok (.aload_n 0, 1) := by decide +kernel
theorem dX2_init_69 : decode cX2_init 69 = .ok (.lconst 1, 1) := by decide +kernel
theorem dX2_init_70 : decode cX2_init 70 = .ok (.putfield 23, 3) := by decide +kernel
theorem dX2_init_73 : decode cX2_init 73 = .ok (.aload_n 0, 1) := by decide +kernel
theorem dX2_init_74 : decode cX2_init 74 = .ok (.lconst 1, 1) := by decide +kernel
theorem dX2_init_75 : decode cX2_init 75 = .ok (.putfield 27, 3) := by decide +kernel
theorem dX2_init_78 : decode cX2_init 78 = .ok (.return_, 1) := by decide +kernel
theorem ggX2_start_X2_forget : GoodIn wsX2_start wsX2_forget := gW_in gwX2_forget (fun _ h => List.mem_cons_of_mem _ (List.mem_append_right _ (List.mem_append_right _ (h))))
set_option maxRecDepth 20000 in
theorem gX2_start_X2_forget : GoodIn wsX2_start (wsV RX2 30 RX2 yX2_forget wsX2_forget) := goodIn_app (goodIn_of _ (by decide +kernel)) ggX2_start_X2_forget
theorem dX2_start_0 : decode cX2_start 0 = .ok (.aload_n 0, 1) := by decide +kernel
theorem dX2_start_1 : decode cX2_start 1 = .ok (.iload_n 1, 1) := by decide +kernel
theorem dX2_start_2 : decode cX2_start 2 = .ok (.putfield 16, 3) := by decide +kernel
theorem dX2_start_5 : decode cX2_start 5 = .ok (.aload_n 0, 1) := by decide +kernel
theorem dX2_start_6 : decode cX2_start 6 = .ok (.iload_n 2, 1) := by decide +kernel
theorem dX2_start_7 : decode cX2_start 7 = .ok (.putfield 20, 3) := by decide +kernel
theorem dX2_start_10 : decode cX2_start 10 = .ok (.aload_n 0, 1) := by decide +kernel
theorem dX2_start_11 : decode cX2_start 11 = .ok (.invokevirtual 30, 3) := by decide +kernel
theorem dX2_start_14 : decode cX2_start 14 = .ok (.return_, 1) := by decide +kernel
theorem dX2_forget_0 : decode cX2_forget 0 = .ok (.aload_n 0, 1) := by decide +kernel
theorem dX2_forget_1 : decode cX2_forget 1 = .ok (.aload_n 0, 1) := by decide +kernel
theorem dX2_forget_2 : decode cX2_forget 2 = .ok (.getfield 16, 3) := by decide +kernel
theorem dX2_forget_5 : decode cX2_forget 5 = .ok (.i2l, 1) := by decide +kernel
theorem dX2_forget_6 : decode cX2_forget 6 = .ok (.putfield 23, 3) := by decide +kernel
theorem dX2_forget_9 : decode cX2_forget 9 = .ok (.aload_n 0, 1) := by decide +kernel
theorem dX2_forget_10 : decode cX2_forget 10 = .ok (.aload_n 0, 1) := by decide +kernel
theorem dX2_forget_11 : decode cX2_forget 11 = .ok (.getfield 20, 3) := by decide +kernel
theorem dX2_forget_14 : decode cX2_forget 14 = .ok (.i2l, 1) := by decide +kernel
theorem dX2_forget_15 : decode cX2_forget 15 = .ok (.putfield 27, 3) := by decide +kernel
theorem dX2_forget_18 : decode cX2_forget 18 = .ok (.aload_n 0, 1) := by decide +kernel
theorem dX2_forget_19 : decode cX2_forget 19 = .ok (.iconst 0, 1) := by decide +kernel
theorem dX2_forget_20 : decode cX2_forget 20 = .ok (.putfield 33, 3) := by decide +kernel
theorem dX2_forget_23 : decode cX2_forget 23 = .ok (.return_, 1) := by decide +kernel
theorem dX2_add_0 : decode cX2_add 0 = .ok (.aload_n 0, 1) := by decide +kernel
theorem dX2_add_1 : decode cX2_add 1 = .ok (.getfield 33, 3) := by decide +kernel
theorem dX2_add_4 : decode cX2_add 4 = .ok (.bipush 12, 2) := by decide +kernel
theorem dX2_add_6 : decode cX2_add 6 = .ok (.if_icmp .lt 5, 3) := by decide +kernel
theorem dX2_add_9 : decode cX2_add 9 = .ok (.iconst (-1), 1) := by decide +kernel
theorem dX2_add_10 : decode cX2_add 10 = .ok (.ireturn, 1) := by decide +kernel
theorem dX2_add_11 : decode cX2_add 11 = .ok (.aload_n 0, 1) := by decide +kernel
theorem dX2_add_12 : decode cX2_add 12 = .ok (.dup, 1) := by decide +kernel
theorem dX2_add_13 : decode cX2_add 13 = .ok (.getfield 23, 3) := by decide +kernel
theorem dX2_add_16 : decode cX2_add 16 = .ok (.iload_n 1, 1) := by decide +kernel
theorem dX2_add_17 : decode cX2_add 17 = .ok (.i2l, 1) := by decide +kernel
theorem dX2_add_18 : decode cX2_add 18 = .ok (.lmul, 1) := by decide +kernel
theorem dX2_add_19 : decode cX2_add 19 = .ok (.putfield 23, 3) := by decide +kernel
theorem dX2_add_22 : decode cX2_add 22 = .ok (.aload_n 0, 1) := by decide +kernel
theorem dX2_add_23 : decode cX2_add 23 = .ok (.dup, 1) := by decide +kernel
theorem dX2_add_24 : decode cX2_add 24 = .ok (.getfield 27, 3) := by decide +kernel
theorem dX2_add_27 : decode cX2_add 27 = .ok (.iload_n 2, 1) := by decide +kernel
theorem dX2_add_28 : decode cX2_add 28 = .ok (.i2l, 1) := by decide +kernel
theorem dX2_add_29 : decode cX2_add 29 = .ok (.lmul, 1) := by decide +kernel
theorem dX2_add_30 : decode cX2_add 30 = .ok (.putfield 27, 3) := by decide +kernel
theorem dX2_add_33 : decode cX2_add 33 = .ok (.aload_n 0, 1) := by decide +kernel
theorem dX2_add_34 : decode cX2_add 34 = .ok (.dup, 1) := by decide +kernel
theorem dX2_add_35 : decode cX2_add 35 = .ok (.getfield 33, 3) := by decide +kernel
theorem dX2_add_38 : decode cX2_add 38 = .ok (.iconst 1, 1) := by decide +kernel
theorem dX2_add_39 : decode cX2_add 39 = .ok (.iadd, 1) := by decide +kernel
theorem dX2_add_40 : decode cX2_add 40 = .ok (.putfield 33, 3) := by decide +kernel
theorem dX2_add_43 : decode cX2_add 43 = .ok (.aload_n 0, 1) := by decide +kernel
theorem dX2_add_44 : decode cX2_add 44 = .ok (.getfield 33, 3) := by decide +kernel
theorem dX2_add_47 : decode cX2_add 47 = .ok (.ireturn, 1) := by decide +kernel
theorem dX2_leastTerm_0 : decode cX2_leastTerm 0 = .ok (.aload_n 0, 1) := by decide +kernel
theorem dX2_leastTerm_1 : decode cX2_leastTerm 1 = .ok (.getfield 23, 3) := by decide +kernel
theorem dX2_leastTerm_4 : decode cX2_leastTerm 4 = .ok (.lstore_n 2, 1) := by decide +kernel
theorem dX2_leastTerm_5 : decode cX2_leastTerm 5 = .ok (.aload_n 0, 1) := by decide +kernel
theorem dX2_leastTerm_6 : decode cX2_leastTerm 6 = .ok (.getfield 27, 3) := by decide +kernel
theorem dX2_leastTerm_9 : decode cX2_leastTerm 9 = .ok (.lstore 4, 2) := by decide +kernel
theorem dX2_leastTerm_11 : decode cX2_leastTerm 11 = .ok (.iconst 0, 1) := by decide +kernel
theorem dX2_leastTerm_12 : decode cX2_leastTerm 12 = .ok (.istore 6, 2) := by decide +kernel
theorem dX2_leastTerm_14 : decode cX2_leastTerm 14 = .ok (.iload 6, 2) := by decide +kernel
theorem dX2_leastTerm_16 : decode cX2_leastTerm 16 = .ok (.sipush 200, 3) := by decide +kernel
theorem dX2_leastTerm_19 : decode cX2_leastTerm 19 = .ok (.if_icmp .ge 29, 3) := by decide +kernel
theorem dX2_leastTerm_22 : decode cX2_leastTerm 22 = .ok (.lload 4, 2) := by decide +kernel
theorem dX2_leastTerm_24 : decode cX2_leastTerm 24 = .ok (.lconst 0, 1) := by decide +kernel
theorem dX2_leastTerm_25 : decode cX2_leastTerm 25 = .ok (.lcmp, 1) := by decide +kernel
theorem dX2_leastTerm_26 : decode cX2_leastTerm 26 = .ok (.ifCond .eq 22, 3) := by decide +kernel
theorem dX2_leastTerm_29 : decode cX2_leastTerm 29 = .ok (.lload_n 2, 1) := by decide +kernel
theorem dX2_leastTerm_30 : decode cX2_leastTerm 30 = .ok (.lload 4, 2) := by decide +kernel
theorem dX2_leastTerm_32 : decode cX2_leastTerm 32 = .ok (.lrem, 1) := by decide +kernel
theorem dX2_leastTerm_33 : decode cX2_leastTerm 33 = .ok (.lstore 7, 2) := by decide +kernel
theorem dX2_leastTerm_35 : decode cX2_leastTerm 35 = .ok (.lload 4, 2) := by decide +kernel
theorem dX2_leastTerm_37 : decode cX2_leastTerm 37 = .ok (.lstore_n 2, 1) := by decide +kernel
theorem dX2_leastTerm_38 : decode cX2_leastTerm 38 = .ok (.lload 7, 2) := by decide +kernel
theorem dX2_leastTerm_40 : decode cX2_leastTerm 40 = .ok (.lstore 4, 2) := by decide +kernel
theorem dX2_leastTerm_42 : decode cX2_leastTerm 42 = .ok (.iinc 6 1, 3) := by decide +kernel
theorem dX2_leastTerm_45 : decode cX2_leastTerm 45 = .ok (.goto (-31), 3) := by decide +kernel
theorem dX2_leastTerm_48 : decode cX2_leastTerm 48 = .ok (.iload_n 1, 1) := by decide +kernel
theorem dX2_leastTerm_49 : decode cX2_leastTerm 49 = .ok (.ifCond .eq 10, 3) := by decide +kernel
theorem dX2_leastTerm_52 : decode cX2_leastTerm 52 = .ok (.aload_n 0, 1) := by decide +kernel
theorem dX2_leastTerm_53 : decode cX2_leastTerm 53 = .ok (.getfield 23, 3) := by decide +kernel
theorem dX2_leastTerm_56 : decode cX2_leastTerm 56 = .ok (.goto 7, 3) := by decide +kernel
theorem dX2_leastTerm_59 : decode cX2_leastTerm 59 = .ok (.aload_n 0, 1) := by decide +kernel
theorem dX2_leastTerm_60 : decode cX2_leastTerm 60 = .ok (.getfield 27, 3) := by decide +kernel
theorem dX2_leastTerm_63 : decode cX2_leastTerm 63 = .ok (.lstore 6, 2) := by decide +kernel
theorem dX2_leastTerm_65 : decode cX2_leastTerm 65 = .ok (.lload_n 2, 1) := by decide +kernel
theorem dX2_leastTerm_66 : decode cX2_leastTerm 66 = .ok (.lconst 0, 1) := by decide +kernel
theorem dX2_leastTerm_67 : decode cX2_leastTerm 67 = .ok (.lcmp, 1) := by decide +kernel
theorem dX2_leastTerm_68 : decode cX2_leastTerm 68 = .ok (.ifCond .le 10, 3) := by decide +kernel
theorem dX2_leastTerm_71 : decode cX2_leastTerm 71 = .ok (.lload 6, 2) := by decide +kernel
theorem dX2_leastTerm_73 : decode cX2_leastTerm 73 = .ok (.lload_n 2, 1) := by decide +kernel
theorem dX2_leastTerm_74 : decode cX2_leastTerm 74 = .ok (.ldiv, 1) := by decide +kernel
theorem dX2_leastTerm_75 : decode cX2_leastTerm 75 = .ok (.goto 5, 3) := by decide +kernel
theorem dX2_leastTerm_78 : decode cX2_leastTerm 78 = .ok (.lload 6, 2) := by decide +kernel
theorem dX2_leastTerm_80 : decode cX2_leastTerm 80 = .ok (.lreturn, 1) := by decide +kernel
theorem dX2_take_0 : decode cX2_take 0 = .ok (.aload_n 1, 1) := by decide +kernel
theorem dX2_take_1 : decode cX2_take 1 = .ok (.getfield 7, 3) := by decide +kernel
theorem dX2_take_4 : decode cX2_take 4 = .ok (.iconst 0, 1) := by decide +kernel
theorem dX2_take_5 : decode cX2_take 5 = .ok (.aload_n 0, 1) := by decide +kernel
theorem dX2_take_6 : decode cX2_take 6 = .ok (.getfield 7, 3) := by decide +kernel
theorem dX2_take_9 : decode cX2_take 9 = .ok (.iconst 0, 1) := by decide +kernel
theorem dX2_take_10 : decode cX2_take 10 = .ok (.iconst 4, 1) := by decide +kernel
theorem dX2_take_11 : decode cX2_take 11 = .ok (.invokestatic 36, 3) := by decide +kernel
theorem dX2_take_14 : decode cX2_take 14 = .ok (.aload_n 1, 1) := by decide +kernel
theorem dX2_take_15 : decode cX2_take 15 = .ok (.getfield 13, 3) := by decide +kernel
theorem dX2_take_18 : decode cX2_take 18 = .ok (.iconst 0, 1) := by decide +kernel
theorem dX2_take_19 : decode cX2_take 19 = .ok (.aload_n 0, 1) := by decide +kernel
theorem dX2_take_20 : decode cX2_take 20 = .ok (.getfield 13, 3) := by decide +kernel
theorem dX2_take_23 : decode cX2_take 23 = .ok (.iconst 0, 1) := by decide +kernel
theorem dX2_take_24 : decode cX2_take 24 = .ok (.iconst 4, 1) := by decide +kernel
theorem dX2_take_25 : decode cX2_take 25 = .ok (.invokestatic 36, 3) := by decide +kernel
theorem dX2_take_28 : decode cX2_take 28 = .ok (.aload_n 0, 1) := by decide +kernel
theorem dX2_take_29 : decode cX2_take 29 = .ok (.aload_n 1, 1) := by decide +kernel
theorem dX2_take_30 : decode cX2_take 30 = .ok (.getfield 16, 3) := by decide +kernel
theorem dX2_take_33 : decode cX2_take 33 = .ok (.putfield 16, 3) := by decide +kernel
theorem dX2_take_36 : decode cX2_take 36 = .ok (.aload_n 0, 1) := by decide +kernel
theorem dX2_take_37 : decode cX2_take 37 = .ok (.aload_n 1, 1) := by decide +kernel
theorem dX2_take_38 : decode cX2_take 38 = .ok (.getfield 20, 3) := by decide +kernel
theorem dX2_take_41 : decode cX2_take 41 = .ok (.putfield 20, 3) := by decide +kernel
theorem dX2_take_44 : decode cX2_take 44 = .ok (.aload_n 0, 1) := by decide +kernel
theorem dX2_take_45 : decode cX2_take 45 = .ok (.aload_n 1, 1) := by decide +kernel
theorem dX2_take_46 : decode cX2_take 46 = .ok (.getfield 23, 3) := by decide +kernel
theorem dX2_take_49 : decode cX2_take 49 = .ok (.putfield 23, 3) := by decide +kernel
theorem dX2_take_52 : decode cX2_take 52 = .ok (.aload_n 0, 1) := by decide +kernel
theorem dX2_take_53 : decode cX2_take 53 = .ok (.aload_n 1, 1) := by decide +kernel
theorem dX2_take_54 : decode cX2_take 54 = .ok (.getfield 27, 3) := by decide +kernel
theorem dX2_take_57 : decode cX2_take 57 = .ok (.putfield 27, 3) := by decide +kernel
theorem dX2_take_60 : decode cX2_take 60 = .ok (.aload_n 0, 1) := by decide +kernel
theorem dX2_take_61 : decode cX2_take 61 = .ok (.aload_n 1, 1) := by decide +kernel
theorem dX2_take_62 : decode cX2_take 62 = .ok (.getfield 33, 3) := by decide +kernel
theorem dX2_take_65 : decode cX2_take 65 = .ok (.putfield 33, 3) := by decide +kernel
theorem dX2_take_68 : decode cX2_take 68 = .ok (.return_, 1) := by decide +kernel
theorem dX3_init_0 : decode cX3_init 0 = .ok (.aload_n 0, 1) := by decide +kernel
theorem dX3_init_1 : decode cX3_init 1 = .ok (.invokespecial 1, 3) := by decide +kernel
theorem dX3_init_4 : decode cX3_init 4 = .ok (.aload_n 0, 1) := by decide +kernel
theorem dX3_init_5 : decode cX3_init 5 = .ok (.bipush 36, 2) := by decide +kernel
theorem dX3_init_7 : decode cX3_init 7 = .ok (.newarray .int, 2) := by decide +kernel
theorem dX3_init_9 : decode cX3_init 9 = .ok (.putfield 9, 3) := by decide +kernel
theorem dX3_init_12 : decode cX3_init 12 = .ok (.aload_n 0, 1) := by decide +kernel
theorem dX3_init_13 : decode cX3_init 13 = .ok (.bipush 39, 2) := by decide +kernel
theorem dX3_init_15 : decode cX3_init 15 = .ok (.newarray .int, 2) := by decide +kernel
theorem dX3_init_17 : decode cX3_init 17 = .ok (.putfield 13, 3) := by decide +kernel
theorem dX3_init_20 : decode cX3_init 20 = .ok (.return_, 1) := by decide +kernel
theorem ggX3_clear_J7_fill_53178 : GoodIn wsX3_clear wsJ7_fill_53178 := gW_in gwJ7_fill_53178 (fun _ h => List.mem_cons_of_mem _ (List.mem_append_right _ (List.mem_append_right _ (h))))
set_option maxRecDepth 20000 in
theorem gX3_clear_J7_fill_53178 : GoodIn wsX3_clear (va_wsS RX3 16 yJ7_fill_53178 wsJ7_fill_53178) := goodIn_app (goodIn_of _ (by decide +kernel)) ggX3_clear_J7_fill_53178
theorem dX3_clear_0 : decode cX3_clear 0 = .ok (.aload_n 0, 1) := by decide +kernel
theorem dX3_clear_1 : decode cX3_clear 1 = .ok (.getfield 9, 3) := by decide +kernel
theorem dX3_clear_4 : decode cX3_clear 4 = .ok (.iconst 0, 1) := by decide +kernel
theorem dX3_clear_5 : decode cX3_clear 5 = .ok (.invokestatic 16, 3) := by decide +kernel
theorem dX3_clear_8 : decode cX3_clear 8 = .ok (.return_, 1) := by decide +kernel
theorem dX3_bid_0 : decode cX3_bid 0 = .ok (.iload_n 2, 1) := by decide +kernel
theorem dX3_bid_1 : decode cX3_bid 1 = .ok (.iconst 3, 1) := by decide +kernel
theorem dX3_bid_2 : decode cX3_bid 2 = .ok (.imul, 1) := by decide +kernel
theorem dX3_bid_3 : decode cX3_bid 3 = .ok (.iload_n 1, 1) := by decide +kernel
theorem dX3_bid_4 : decode cX3_bid 4 = .ok (.iadd, 1) := by decide +kernel
theorem dX3_bid_5 : decode cX3_bid 5 = .ok (.istore 4, 2) := by decide +kernel
theorem dX3_bid_7 : decode cX3_bid 7 = .ok (.aload_n 0, 1) := by decide +kernel
theorem dX3_bid_8 : decode cX3_bid 8 = .ok (.getfield 9, 3) := by decide +kernel
theorem dX3_bid_11 : decode cX3_bid 11 = .ok (.iload 4, 2) := by decide +kernel
theorem dX3_bid_13 : decode cX3_bid 13 = .ok (.iaload, 1) := by decide +kernel
