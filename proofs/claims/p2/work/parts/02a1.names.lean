def wsX11_most : List Cond := .code yX11_most cX11_most 1 (some .int) :: ([.fieldLink RX11 85 "HiredEnemyModel" "thrown" "I", .methodLink RX11 272 yX11_mostNow, .instanceMethod yX11_mostNow, .selects RX11 yX11_mostNow yX11_mostNow, .initialized RX11, .code yX11_mostNow cX11_mostNow 3 (some .int), .fieldLink RX11 76 "HiredEnemyModel" "rest" "[[I", .methodLink RX11 269 yX11_laysRest, .instanceMethod yX11_laysRest, .selects RX11 yX11_laysRest yX11_laysRest, .code yX11_laysRest cX11_laysRest 5 none, .fieldLink RX11 70 "HiredEnemyModel" "offered" "[[I", .methodLink RX11 266 yX11_mayServe, .static yX11_mayServe, .code yX11_mayServe cX11_mayServe 2 (some .boolean)] ++ wsX110)
def wsX11_serves : List Cond := .code yX11_serves cX11_serves 6 (some .int) :: ([.fieldLink RX11 85 "HiredEnemyModel" "thrown" "I", .fieldLink RX11 76 "HiredEnemyModel" "rest" "[[I", .fieldLink RX11 70 "HiredEnemyModel" "offered" "[[I", .methodLink RX11 119 yX11_in, .static yX11_in, .initialized RX11, .code yX11_in cX11_in 3 (some .boolean), .methodLink RX11 151 yX11_bad, .instanceMethod yX11_bad, .selects RX11 yX11_bad yX11_bad, .code yX11_bad cX11_bad 4 (some .boolean), .fieldLink RX11 17 "HiredEnemyModel" "refused" "[I", .methodLink RX11 272 yX11_mostNow, .instanceMethod yX11_mostNow, .selects RX11 yX11_mostNow yX11_mostNow, .code yX11_mostNow cX11_mostNow 3 (some .int), .methodLink RX11 269 yX11_laysRest, .instanceMethod yX11_laysRest, .selects RX11 yX11_laysRest yX11_laysRest, .code yX11_laysRest cX11_laysRest 5 none, .methodLink RX11 266 yX11_mayServe, .static yX11_mayServe, .code yX11_mayServe cX11_mayServe 2 (some .boolean)] ++ wsX110)
def wsX11_moves : List Cond := .code yX11_moves cX11_moves 4 (some .int) :: ([.fieldLink RX11 275 "HiredEnemyModel" "spot" "I"] ++ wsX110)
def wsX11_movesAll : List Cond := .code yX11_movesAll cX11_movesAll 5 none :: ([.fieldLink RX11 275 "HiredEnemyModel" "spot" "I", .fieldLink RX11 58 "HiredEnemyModel" "oddsA" "I", .fieldLink RX11 61 "HiredEnemyModel" "oddsB" "I", .fieldLink RX11 165 "HiredEnemyModel" "things" "I", .fieldLink RX11 64 "HiredEnemyModel" "kind" "[[I", .fieldLink RX11 67 "HiredEnemyModel" "thing" "[[I", .fieldLink RX11 70 "HiredEnemyModel" "offered" "[[I", .fieldLink RX11 46 "HiredEnemyModel" "s" "[I", .fieldLink RX11 52 "HiredEnemyModel" "gone" "[[I", .fieldLink RX11 55 "HiredEnemyModel" "shot" "[[I", .methodLink RX11 278 yX11_moves, .instanceMethod yX11_moves, .selects RX11 yX11_moves yX11_moves, .initialized RX11, .code yX11_moves cX11_moves 4 (some .int)] ++ wsX110)
def wsX11_image : List Cond := .code yX11_image cX11_image 1 (some .int) :: ([.fieldLink RX11 85 "HiredEnemyModel" "thrown" "I", .fieldLink RX11 168 "HiredEnemyModel" "images" "I", .fieldLink RX11 73 "HiredEnemyModel" "kept" "[[I", .methodLink RX11 282 yX11_movesAll, .instanceMethod yX11_movesAll, .selects RX11 yX11_movesAll yX11_movesAll, .initialized RX11, .code yX11_movesAll cX11_movesAll 5 none, .fieldLink RX11 275 "HiredEnemyModel" "spot" "I", .fieldLink RX11 58 "HiredEnemyModel" "oddsA" "I", .fieldLink RX11 61 "HiredEnemyModel" "oddsB" "I", .fieldLink RX11 165 "HiredEnemyModel" "things" "I", .fieldLink RX11 64 "HiredEnemyModel" "kind" "[[I", .fieldLink RX11 67 "HiredEnemyModel" "thing" "[[I", .fieldLink RX11 70 "HiredEnemyModel" "offered" "[[I", .fieldLink RX11 46 "HiredEnemyModel" "s" "[I", .fieldLink RX11 52 "HiredEnemyModel" "gone" "[[I", .fieldLink RX11 55 "HiredEnemyModel" "shot" "[[I", .methodLink RX11 278 yX11_moves, .instanceMethod yX11_moves, .selects RX11 yX11_moves yX11_moves, .code yX11_moves cX11_moves 4 (some .int)] ++ wsX110)
def wsX11_restore : List Cond := .code yX11_restore cX11_restore 1 (some .int) :: ([.fieldLink RX11 85 "HiredEnemyModel" "thrown" "I", .fieldLink RX11 168 "HiredEnemyModel" "images" "I", .fieldLink RX11 73 "HiredEnemyModel" "kept" "[[I", .methodLink RX11 282 yX11_movesAll, .instanceMethod yX11_movesAll, .selects RX11 yX11_movesAll yX11_movesAll, .initialized RX11, .code yX11_movesAll cX11_movesAll 5 none, .fieldLink RX11 275 "HiredEnemyModel" "spot" "I", .fieldLink RX11 58 "HiredEnemyModel" "oddsA" "I", .fieldLink RX11 61 "HiredEnemyModel" "oddsB" "I", .fieldLink RX11 165 "HiredEnemyModel" "things" "I", .fieldLink RX11 64 "HiredEnemyModel" "kind" "[[I", .fieldLink RX11 67 "HiredEnemyModel" "thing" "[[I", .fieldLink RX11 70 "HiredEnemyModel" "offered" "[[I", .fieldLink RX11 46 "HiredEnemyModel" "s" "[I", .fieldLink RX11 52 "HiredEnemyModel" "gone" "[[I", .fieldLink RX11 55 "HiredEnemyModel" "shot" "[[I", .methodLink RX11 278 yX11_moves, .instanceMethod yX11_moves, .selects RX11 yX11_moves yX11_moves, .code yX11_moves cX11_moves 4 (some .int)] ++ wsX110)
def wsX11_status : List Cond := .code yX11_status cX11_status 2 (some .int) :: ([.fieldLink RX11 85 "HiredEnemyModel" "thrown" "I", .fieldLink RX11 17 "HiredEnemyModel" "refused" "[I", .methodLink RX11 119 yX11_in, .static yX11_in, .initialized RX11, .code yX11_in cX11_in 3 (some .boolean)] ++ wsX110)
def wsX11_count : List Cond := .code yX11_count cX11_count 2 (some .int) :: ([.fieldLink RX11 85 "HiredEnemyModel" "thrown" "I", .fieldLink RX11 168 "HiredEnemyModel" "images" "I", .fieldLink RX11 88 "HiredEnemyModel" "tape" "I", .fieldLink RX11 165 "HiredEnemyModel" "things" "I"] ++ wsX110)
def wsJ9_abs_0f7a4 : List Cond := .code yJ9_abs_0f7a4 cJ9_abs_0f7a4 1 (some .int) :: ([])
def wsJ9_max_7cf53 : List Cond := .code yJ9_max_7cf53 cJ9_max_7cf53 2 (some .int) :: ([])
def wsJ9_min_7cf53 : List Cond := .code yJ9_min_7cf53 cJ9_min_7cf53 2 (some .int) :: ([])
theorem dX0_init_0 : decode cX0_init 0 = .ok (.aload_n 0, 1) := by decide +kernel
theorem dX0_init_1 : decode cX0_init 1 = .ok (.invokespecial 3, 3) := by decide +kernel
theorem dX0_init_4 : decode cX0_init 4 = .ok (.aload_n 0, 1) := by decide +kernel
theorem dX0_init_5 : decode cX0_init 5 = .ok (.sipush 3600, 3) := by decide +kernel
theorem dX0_init_8 : decode cX0_init 8 = .ok (.newarray .int, 2) := by decide +kernel
theorem dX0_init_10 : decode cX0_init 10 = .ok (.putfield 11, 3) := by decide +kernel
theorem dX0_init_13 : decode cX0_init 13 = .ok (.return_, 1) := by decide +kernel
set_option maxRecDepth 20000 in
theorem ggX0_keep_X10_within : GoodIn wsX0_keep wsX10_within := goodIn_r _ [10] (by decide +kernel) (by decide +kernel)
set_option maxRecDepth 20000 in
theorem gX0_keep_X10_within_n21 : GoodIn wsX0_keep (wsX10_within) := ggX0_keep_X10_within
theorem dX0_keep_0 : decode cX0_keep 0 = .ok (.aload_n 1, 1) := by decide +kernel
theorem dX0_keep_1 : decode cX0_keep 1 = .ok (.getfield 15, 3) := by decide +kernel
theorem dX0_keep_4 : decode cX0_keep 4 = .ok (.iconst 0, 1) := by decide +kernel
theorem dX0_keep_5 : decode cX0_keep 5 = .ok (.bipush 119, 2) := by decide +kernel
theorem dX0_keep_7 : decode cX0_keep 7 = .ok (.invokestatic 21, 3) := by decide +kernel
theorem dX0_keep_10 : decode cX0_keep 10 = .ok (.ifCond .eq 24, 3) := by decide +kernel
theorem dX0_keep_13 : decode cX0_keep 13 = .ok (.aload_n 1, 1) := by decide +kernel
theorem dX0_keep_14 : decode cX0_keep 14 = .ok (.getfield 25, 3) := by decide +kernel
theorem dX0_keep_17 : decode cX0_keep 17 = .ok (.iconst 0, 1) := by decide +kernel
theorem dX0_keep_18 : decode cX0_keep 18 = .ok (.aload_n 0, 1) := by decide +kernel
theorem dX0_keep_19 : decode cX0_keep 19 = .ok (.getfield 11, 3) := by decide +kernel
theorem dX0_keep_22 : decode cX0_keep 22 = .ok (.aload_n 1, 1) := by decide +kernel
theorem dX0_keep_23 : decode cX0_keep 23 = .ok (.getfield 15, 3) := by decide +kernel
theorem dX0_keep_26 : decode cX0_keep 26 = .ok (.bipush 30, 2) := by decide +kernel
theorem dX0_keep_28 : decode cX0_keep 28 = .ok (.imul, 1) := by decide +kernel
theorem dX0_keep_29 : decode cX0_keep 29 = .ok (.bipush 24, 2) := by decide +kernel
theorem dX0_keep_31 : decode cX0_keep 31 = .ok (.invokestatic 28, 3) := by decide +kernel
theorem dX0_keep_34 : decode cX0_keep 34 = .ok (.return_, 1) := by decide +kernel
set_option maxRecDepth 20000 in
theorem ggX0_lead_X10_within : GoodIn wsX0_lead wsX10_within := goodIn_r _ [10] (by decide +kernel) (by decide +kernel)
set_option maxRecDepth 20000 in
theorem gX0_lead_X10_within_n21 : GoodIn wsX0_lead (wsX10_within) := ggX0_lead_X10_within
theorem dX0_lead_0 : decode cX0_lead 0 = .ok (.aload_n 1, 1) := by decide +kernel
theorem dX0_lead_1 : decode cX0_lead 1 = .ok (.getfield 15, 3) := by decide +kernel
theorem dX0_lead_4 : decode cX0_lead 4 = .ok (.iconst 1, 1) := by decide +kernel
theorem dX0_lead_5 : decode cX0_lead 5 = .ok (.bipush 120, 2) := by decide +kernel
theorem dX0_lead_7 : decode cX0_lead 7 = .ok (.invokestatic 21, 3) := by decide +kernel
theorem dX0_lead_10 : decode cX0_lead 10 = .ok (.ifCond .eq 29, 3) := by decide +kernel
theorem dX0_lead_13 : decode cX0_lead 13 = .ok (.aload_n 1, 1) := by decide +kernel
theorem dX0_lead_14 : decode cX0_lead 14 = .ok (.getfield 34, 3) := by decide +kernel
theorem dX0_lead_17 : decode cX0_lead 17 = .ok (.iconst 0, 1) := by decide +kernel
theorem dX0_lead_18 : decode cX0_lead 18 = .ok (.aload_n 0, 1) := by decide +kernel
theorem dX0_lead_19 : decode cX0_lead 19 = .ok (.getfield 11, 3) := by decide +kernel
theorem dX0_lead_22 : decode cX0_lead 22 = .ok (.aload_n 1, 1) := by decide +kernel
theorem dX0_lead_23 : decode cX0_lead 23 = .ok (.getfield 15, 3) := by decide +kernel
theorem dX0_lead_26 : decode cX0_lead 26 = .ok (.iconst 1, 1) := by decide +kernel
theorem dX0_lead_27 : decode cX0_lead 27 = .ok (.isub, 1) := by decide +kernel
theorem dX0_lead_28 : decode cX0_lead 28 = .ok (.bipush 30, 2) := by decide +kernel
theorem dX0_lead_30 : decode cX0_lead 30 = .ok (.imul, 1) := by decide +kernel
theorem dX0_lead_31 : decode cX0_lead 31 = .ok (.bipush 24, 2) := by decide +kernel
theorem dX0_lead_33 : decode cX0_lead 33 = .ok (.iadd, 1) := by decide +kernel
theorem dX0_lead_34 : decode cX0_lead 34 = .ok (.bipush 6, 2) := by decide +kernel
theorem dX0_lead_36 : decode cX0_lead 36 = .ok (.invokestatic 28, 3) := by decide +kernel
theorem dX0_lead_39 : decode cX0_lead 39 = .ok (.return_, 1) := by decide +kernel
set_option maxRecDepth 20000 in
theorem ggX0_giveBack_X10_within : GoodIn wsX0_giveBack wsX10_within := goodIn_r _ [10] (by decide +kernel) (by decide +kernel)
set_option maxRecDepth 20000 in
theorem gX0_giveBack_X10_within_n21 : GoodIn wsX0_giveBack (wsX10_within) := ggX0_giveBack_X10_within
theorem dX0_giveBack_0 : decode cX0_giveBack 0 = .ok (.iload_n 2, 1) := by decide +kernel
theorem dX0_giveBack_1 : decode cX0_giveBack 1 = .ok (.iconst 0, 1) := by decide +kernel
theorem dX0_giveBack_2 : decode cX0_giveBack 2 = .ok (.bipush 119, 2) := by decide +kernel
theorem dX0_giveBack_4 : decode cX0_giveBack 4 = .ok (.invokestatic 21, 3) := by decide +kernel
theorem dX0_giveBack_7 : decode cX0_giveBack 7 = .ok (.ifCond .eq 26, 3) := by decide +kernel
theorem dX0_giveBack_10 : decode cX0_giveBack 10 = .ok (.aload_n 0, 1) := by decide +kernel
theorem dX0_giveBack_11 : decode cX0_giveBack 11 = .ok (.getfield 11, 3) := by decide +kernel
theorem dX0_giveBack_14 : decode cX0_giveBack 14 = .ok (.iload_n 2, 1) := by decide +kernel
theorem dX0_giveBack_15 : decode cX0_giveBack 15 = .ok (.bipush 30, 2) := by decide +kernel
theorem dX0_giveBack_17 : decode cX0_giveBack 17 = .ok (.imul, 1) := by decide +kernel
theorem dX0_giveBack_18 : decode cX0_giveBack 18 = .ok (.aload_n 1, 1) := by decide +kernel
theorem dX0_giveBack_19 : decode cX0_giveBack 19 = .ok (.getfield 25, 3) := by decide +kernel
theorem dX0_giveBack_22 : decode cX0_giveBack 22 = .ok (.iconst 0, 1) := by decide +kernel
theorem dX0_giveBack_23 : decode cX0_giveBack 23 = .ok (.bipush 24, 2) := by decide +kernel
theorem dX0_giveBack_25 : decode cX0_giveBack 25 = .ok (.invokestatic 28, 3) := by decide +kernel
theorem dX0_giveBack_28 : decode cX0_giveBack 28 = .ok (.aload_n 1, 1) := by decide +kernel
theorem dX0_giveBack_29 : decode cX0_giveBack 29 = .ok (.iload_n 2, 1) := by decide +kernel
theorem dX0_giveBack_30 : decode cX0_giveBack 30 = .ok (.putfield 15, 3) := by decide +kernel
theorem dX0_giveBack_33 : decode cX0_giveBack 33 = .ok (.return_, 1) := by decide +kernel
theorem dX0_shotAt_0 : decode cX0_shotAt 0 = .ok (.aload_n 0, 1) := by decide +kernel
theorem dX0_shotAt_1 : decode cX0_shotAt 1 = .ok (.getfield 11, 3) := by decide +kernel
theorem dX0_shotAt_4 : decode cX0_shotAt 4 = .ok (.iload_n 1, 1) := by decide +kernel
theorem dX0_shotAt_5 : decode cX0_shotAt 5 = .ok (.bipush 30, 2) := by decide +kernel
theorem dX0_shotAt_7 : decode cX0_shotAt 7 = .ok (.imul, 1) := by decide +kernel
theorem dX0_shotAt_8 : decode cX0_shotAt 8 = .ok (.bipush 24, 2) := by decide +kernel
theorem dX0_shotAt_10 : decode cX0_shotAt 10 = .ok (.iadd, 1) := by decide +kernel
theorem dX0_shotAt_11 : decode cX0_shotAt 11 = .ok (.iload_n 2, 1) := by decide +kernel
theorem dX0_shotAt_12 : decode cX0_shotAt 12 = .ok (.iadd, 1) := by decide +kernel
theorem dX0_shotAt_13 : decode cX0_shotAt 13 = .ok (.iaload, 1) := by decide +kernel
theorem dX0_shotAt_14 : decode cX0_shotAt 14 = .ok (.ireturn, 1) := by decide +kernel
set_option maxRecDepth 20000 in
theorem ggX0_take_X10_within : GoodIn wsX0_take wsX10_within := goodIn_r _ [8] (by decide +kernel) (by decide +kernel)
set_option maxRecDepth 20000 in
theorem gX0_take_X10_within_n21 : GoodIn wsX0_take (wsX10_within) := ggX0_take_X10_within
theorem dX0_take_0 : decode cX0_take 0 = .ok (.iload_n 2, 1) := by decide +kernel
theorem dX0_take_1 : decode cX0_take 1 = .ok (.iconst 0, 1) := by decide +kernel
theorem dX0_take_2 : decode cX0_take 2 = .ok (.bipush 120, 2) := by decide +kernel
theorem dX0_take_4 : decode cX0_take 4 = .ok (.invokestatic 21, 3) := by decide +kernel
theorem dX0_take_7 : decode cX0_take 7 = .ok (.ifCond .eq 20, 3) := by decide +kernel
theorem dX0_take_10 : decode cX0_take 10 = .ok (.aload_n 1, 1) := by decide +kernel
theorem dX0_take_11 : decode cX0_take 11 = .ok (.getfield 11, 3) := by decide +kernel
theorem dX0_take_14 : decode cX0_take 14 = .ok (.iconst 0, 1) := by decide +kernel
theorem dX0_take_15 : decode cX0_take 15 = .ok (.aload_n 0, 1) := by decide +kernel
theorem dX0_take_16 : decode cX0_take 16 = .ok (.getfield 11, 3) := by decide +kernel
theorem dX0_take_19 : decode cX0_take 19 = .ok (.iconst 0, 1) := by decide +kernel
theorem dX0_take_20 : decode cX0_take 20 = .ok (.iload_n 2, 1) := by decide +kernel
theorem dX0_take_21 : decode cX0_take 21 = .ok (.bipush 30, 2) := by decide +kernel
theorem dX0_take_23 : decode cX0_take 23 = .ok (.imul, 1) := by decide +kernel
theorem dX0_take_24 : decode cX0_take 24 = .ok (.invokestatic 28, 3) := by decide +kernel
theorem dX0_take_27 : decode cX0_take 27 = .ok (.return_, 1) := by decide +kernel
theorem dX1_init_0 : decode cX1_init 0 = .ok (.aload_n 0, 1) := by decide +kernel
theorem dX1_init_1 : decode cX1_init 1 = .ok (.invokespecial 5, 3) := by decide +kernel
theorem dX1_init_4 : decode cX1_init 4 = .ok (.aload_n 0, 1) := by decide +kernel
theorem dX1_init_5 : decode cX1_init 5 = .ok (.iconst 3, 1) := by decide +kernel
theorem dX1_init_6 : decode cX1_init 6 = .ok (.newarray .int, 2) := by decide +kernel
theorem dX1_init_8 : decode cX1_init 8 = .ok (.putfield 11, 3) := by decide +kernel
theorem dX1_init_11 : decode cX1_init 11 = .ok (.aload_n 0, 1) := by decide +kernel
theorem dX1_init_12 : decode cX1_init 12 = .ok (.iconst 3, 1) := by decide +kernel
theorem dX1_init_13 : decode cX1_init 13 = .ok (.newarray .int, 2) := by decide +kernel
theorem dX1_init_15 : decode cX1_init 15 = .ok (.putfield 15, 3) := by decide +kernel
theorem dX1_init_18 : decode cX1_init 18 = .ok (.aload_n 0, 1) := by decide +kernel
theorem dX1_init_19 : decode cX1_init 19 = .ok (.iconst 3, 1) := by decide +kernel
theorem dX1_init_20 : decode cX1_init 20 = .ok (.newarray .int, 2) := by decide +kernel
theorem dX1_init_22 : decode cX1_init 22 = .ok (.putfield 18, 3) := by decide +kernel
theorem dX1_init_25 : decode cX1_init 25 = .ok (.return_, 1) := by decide +kernel
theorem dX1_prepare_0 : decode cX1_prepare 0 = .ok (.aload_n 0, 1) := by decide +kernel
theorem dX1_prepare_1 : decode cX1_prepare 1 = .ok (.aload_n 1, 1) := by decide +kernel
theorem dX1_prepare_2 : decode cX1_prepare 2 = .ok (.getfield 21, 3) := by decide +kernel
theorem dX1_prepare_5 : decode cX1_prepare 5 = .ok (.iconst 3, 1) := by decide +kernel
theorem dX1_prepare_6 : decode cX1_prepare 6 = .ok (.invokestatic 27, 3) := by decide +kernel
theorem dX1_prepare_9 : decode cX1_prepare 9 = .ok (.putfield 33, 3) := by decide +kernel
theorem dX1_prepare_12 : decode cX1_prepare 12 = .ok (.iconst 0, 1) := by decide +kernel
theorem dX1_prepare_13 : decode cX1_prepare 13 = .ok (.istore_n 2, 1) := by decide +kernel
theorem dX1_prepare_14 : decode cX1_prepare 14 = .ok (.iload_n 2, 1) := by decide +kernel
theorem dX1_prepare_15 : decode cX1_prepare 15 = .ok (.aload_n 0, 1) := by decide +kernel
theorem dX1_prepare_16 : decode cX1_prepare 16 = .ok (.getfield 33, 3) := by decide +kernel
theorem dX1_prepare_19 : decode cX1_prepare 19 = .ok (.if_icmp .ge 36, 3) := by decide +kernel
theorem dX1_prepare_22 : decode cX1_prepare 22 = .ok (.aload_n 0, 1) := by decide +kernel
theorem dX1_prepare_23 : decode cX1_prepare 23 = .ok (.getfield 11, 3) := by decide +kernel
theorem dX1_prepare_26 : decode cX1_prepare 26 = .ok (.iload_n 2, 1) := by decide +kernel
theorem dX1_prepare_27 : decode cX1_prepare 27 = .ok (.aload_n 1, 1) := by decide +kernel
theorem dX1_prepare_28 : decode cX1_prepare 28 = .ok (.getfield 34, 3) := by decide +kernel
theorem dX1_prepare_31 : decode cX1_prepare 31 = .ok (.iload_n 2, 1) := by decide +kernel
theorem dX1_prepare_32 : decode cX1_prepare 32 = .ok (.iaload, 1) := by decide +kernel
theorem dX1_prepare_33 : decode cX1_prepare 33 = .ok (.iastore, 1) := by decide +kernel
theorem dX1_prepare_34 : decode cX1_prepare 34 = .ok (.aload_n 0, 1) := by decide +kernel
theorem dX1_prepare_35 : decode cX1_prepare 35 = .ok (.getfield 15, 3) := by decide +kernel
theorem dX1_prepare_38 : decode cX1_prepare 38 = .ok (.iload_n 2, 1) := by decide +kernel
theorem dX1_prepare_39 : decode cX1_prepare 39 = .ok (.aload_n 1, 1) := by decide +kernel
theorem dX1_prepare_40 : decode cX1_prepare 40 = .ok (.getfield 34, 3) := by decide +kernel
theorem dX1_prepare_43 : decode cX1_prepare 43 = .ok (.iload_n 2, 1) := by decide +kernel
theorem dX1_prepare_44 : decode cX1_prepare 44 = .ok (.iaload, 1) := by decide +kernel
theorem dX1_prepare_45 : decode cX1_prepare 45 = .ok (.bipush 25, 2) := by decide +kernel
theorem dX1_prepare_47 : decode cX1_prepare 47 = .ok (.idiv, 1) := by decide +kernel
theorem dX1_prepare_48 : decode cX1_prepare 48 = .ok (.iastore, 1) := by decide +kernel
theorem dX1_prepare_49 : decode cX1_prepare 49 = .ok (.iinc 2 1, 3) := by decide +kernel
theorem dX1_prepare_52 : decode cX1_prepare 52 = .ok (.goto (-38), 3) := by decide +kernel
theorem dX1_prepare_55 : decode cX1_prepare 55 = .ok (.return_, 1) := by decide +kernel
theorem dX1_all_0 : decode cX1_all 0 = .ok (.iconst 1, 1) := by decide +kernel
theorem dX1_all_1 : decode cX1_all 1 = .ok (.aload_n 0, 1) := by decide +kernel
theorem dX1_all_2 : decode cX1_all 2 = .ok (.getfield 33, 3) := by decide +kernel
theorem dX1_all_5 : decode cX1_all 5 = .ok (.ishl, 1) := by decide +kernel
theorem dX1_all_6 : decode cX1_all 6 = .ok (.iconst 1, 1) := by decide +kernel
theorem dX1_all_7 : decode cX1_all 7 = .ok (.isub, 1) := by decide +kernel
theorem dX1_all_8 : decode cX1_all 8 = .ok (.ireturn, 1) := by decide +kernel
set_option maxRecDepth 20000 in
theorem ggX1_safe_X1_place : GoodIn wsX1_safe wsX1_place := goodIn_r _ [10, 11, 31, 32, 33, 34, 35] (by decide +kernel) (by decide +kernel)
set_option maxRecDepth 20000 in
theorem gX1_safe_X1_place : GoodIn wsX1_safe (wsV RX1 40 RX1 yX1_place wsX1_place) := goodIn_app (goodIn_of _ (by decide +kernel)) ggX1_safe_X1_place
set_option maxRecDepth 20000 in
theorem ggX1_safe_X1_mostFelled : GoodIn wsX1_safe wsX1_mostFelled := goodIn_r _ [15, 2, 3, 4, 5, 16, 17, 18, 9, 19, 11, 20, 21, 22, 23, 24, 25, 31, 32, 33, 34, 35] (by decide +kernel) (by decide +kernel)
set_option maxRecDepth 20000 in
theorem gX1_safe_X1_mostFelled : GoodIn wsX1_safe (wsV RX1 44 RX1 yX1_mostFelled wsX1_mostFelled) := goodIn_app (goodIn_of _ (by decide +kernel)) ggX1_safe_X1_mostFelled
set_option maxRecDepth 20000 in
theorem ggX1_safe_X1_digits : GoodIn wsX1_safe wsX1_digits := goodIn_r _ [29, 30, 11, 31, 32, 33, 34, 35] (by decide +kernel) (by decide +kernel)
set_option maxRecDepth 20000 in
theorem gX1_safe_X1_digits : GoodIn wsX1_safe (wsV RX1 47 RX1 yX1_digits wsX1_digits) := goodIn_app (goodIn_of _ (by decide +kernel)) ggX1_safe_X1_digits
theorem dX1_safe_0 : decode cX1_safe 0 = .ok (.iconst (-1), 1) := by decide +kernel
theorem dX1_safe_1 : decode cX1_safe 1 = .ok (.istore 4, 2) := by decide +kernel
theorem dX1_safe_3 : decode cX1_safe 3 = .ok (.aload_n 0, 1) := by decide +kernel
theorem dX1_safe_4 : decode cX1_safe 4 = .ok (.iconst 0, 1) := by decide +kernel
theorem dX1_safe_5 : decode cX1_safe 5 = .ok (.putfield 37, 3) := by decide +kernel
theorem dX1_safe_8 : decode cX1_safe 8 = .ok (.iconst 0, 1) := by decide +kernel
theorem dX1_safe_9 : decode cX1_safe 9 = .ok (.istore 5, 2) := by decide +kernel
theorem dX1_safe_11 : decode cX1_safe 11 = .ok (.iload 5, 2) := by decide +kernel
theorem dX1_safe_13 : decode cX1_safe 13 = .ok (.iload_n 3, 1) := by decide +kernel
theorem dX1_safe_14 : decode cX1_safe 14 = .ok (.if_icmp .gt 82, 3) := by decide +kernel
theorem dX1_safe_17 : decode cX1_safe 17 = .ok (.iconst 0, 1) := by decide +kernel
theorem dX1_safe_18 : decode cX1_safe 18 = .ok (.istore 6, 2) := by decide +kernel
theorem dX1_safe_20 : decode cX1_safe 20 = .ok (.iload 6, 2) := by decide +kernel
theorem dX1_safe_22 : decode cX1_safe 22 = .ok (.iload_n 3, 1) := by decide +kernel
theorem dX1_safe_23 : decode cX1_safe 23 = .ok (.iload 5, 2) := by decide +kernel
theorem dX1_safe_25 : decode cX1_safe 25 = .ok (.isub, 1) := by decide +kernel
theorem dX1_safe_26 : decode cX1_safe 26 = .ok (.if_icmp .gt 64, 3) := by decide +kernel
theorem dX1_safe_29 : decode cX1_safe 29 = .ok (.aload_n 0, 1) := by decide +kernel
theorem dX1_safe_30 : decode cX1_safe 30 = .ok (.iload_n 1, 1) := by decide +kernel
theorem dX1_safe_31 : decode cX1_safe 31 = .ok (.iload 5, 2) := by decide +kernel
theorem dX1_safe_33 : decode cX1_safe 33 = .ok (.iload 6, 2) := by decide +kernel
theorem dX1_safe_35 : decode cX1_safe 35 = .ok (.iload_n 3, 1) := by decide +kernel
theorem dX1_safe_36 : decode cX1_safe 36 = .ok (.iload 5, 2) := by decide +kernel
theorem dX1_safe_38 : decode cX1_safe 38 = .ok (.isub, 1) := by decide +kernel
theorem dX1_safe_39 : decode cX1_safe 39 = .ok (.iload 6, 2) := by decide +kernel
theorem dX1_safe_41 : decode cX1_safe 41 = .ok (.isub, 1) := by decide +kernel
theorem dX1_safe_42 : decode cX1_safe 42 = .ok (.invokevirtual 40, 3) := by decide +kernel
theorem dX1_safe_45 : decode cX1_safe 45 = .ok (.ifCond .ne 6, 3) := by decide +kernel
theorem dX1_safe_48 : decode cX1_safe 48 = .ok (.goto 36, 3) := by decide +kernel
theorem dX1_safe_51 : decode cX1_safe 51 = .ok (.aload_n 0, 1) := by decide +kernel
theorem dX1_safe_52 : decode cX1_safe 52 = .ok (.iload_n 1, 1) := by decide +kernel
theorem dX1_safe_53 : decode cX1_safe 53 = .ok (.iload_n 2, 1) := by decide +kernel
theorem dX1_safe_54 : decode cX1_safe 54 = .ok (.invokevirtual 44, 3) := by decide +kernel
theorem dX1_safe_57 : decode cX1_safe 57 = .ok (.istore 7, 2) := by decide +kernel
theorem dX1_safe_59 : decode cX1_safe 59 = .ok (.iload 4, 2) := by decide +kernel
theorem dX1_safe_61 : decode cX1_safe 61 = .ok (.iconst (-1), 1) := by decide +kernel
theorem dX1_safe_62 : decode cX1_safe 62 = .ok (.if_icmp .eq 10, 3) := by decide +kernel
theorem dX1_safe_65 : decode cX1_safe 65 = .ok (.iload 7, 2) := by decide +kernel
theorem dX1_safe_67 : decode cX1_safe 67 = .ok (.iload 4, 2) := by decide +kernel
theorem dX1_safe_69 : decode cX1_safe 69 = .ok (.if_icmp .ge 15, 3) := by decide +kernel
theorem dX1_safe_72 : decode cX1_safe 72 = .ok (.iload 7, 2) := by decide +kernel
theorem dX1_safe_74 : decode cX1_safe 74 = .ok (.istore 4, 2) := by decide +kernel
theorem dX1_safe_76 : decode cX1_safe 76 = .ok (.aload_n 0, 1) := by decide +kernel
theorem dX1_safe_77 : decode cX1_safe 77 = .ok (.aload_n 0, 1) := by decide +kernel
theorem dX1_safe_78 : decode cX1_safe 78 = .ok (.invokevirtual 47, 3) := by decide +kernel
theorem dX1_safe_81 : decode cX1_safe 81 = .ok (.putfield 37, 3) := by decide +kernel
theorem dX1_safe_84 : decode cX1_safe 84 = .ok (.iinc 6 1, 3) := by decide +kernel
theorem dX1_safe_87 : decode cX1_safe 87 = .ok (.goto (-67), 3) := by decide +kernel
theorem dX1_safe_90 : decode cX1_safe 90 = .ok (.iinc 5 1, 3) := by decide +kernel
theorem dX1_safe_93 : decode cX1_safe 93 = .ok (.goto (-82), 3) := by decide +kernel
theorem dX1_safe_96 : decode cX1_safe 96 = .ok (.iload 4, 2) := by decide +kernel
theorem dX1_safe_98 : decode cX1_safe 98 = .ok (.iconst 0, 1) := by decide +kernel
theorem dX1_safe_99 : decode cX1_safe 99 = .ok (.invokestatic 51, 3) := by decide +kernel
theorem dX1_safe_102 : decode cX1_safe 102 = .ok (.ireturn, 1) := by decide +kernel
set_option maxRecDepth 20000 in
theorem ggX1_sure_X1_all : GoodIn wsX1_sure wsX1_all := goodIn_r _ [9, 10, 30, 31, 32, 33, 34] (by decide +kernel) (by decide +kernel)
set_option maxRecDepth 20000 in
theorem gX1_sure_X1_all : GoodIn wsX1_sure (wsV RX1 54 RX1 yX1_all wsX1_all) := goodIn_app (goodIn_of _ (by decide +kernel)) ggX1_sure_X1_all
set_option maxRecDepth 20000 in
theorem ggX1_sure_X1_place : GoodIn wsX1_sure wsX1_place := goodIn_r _ [14, 15, 30, 31, 32, 33, 34] (by decide +kernel) (by decide +kernel)
set_option maxRecDepth 20000 in
theorem gX1_sure_X1_place : GoodIn wsX1_sure (wsV RX1 40 RX1 yX1_place wsX1_place) := goodIn_app (goodIn_of _ (by decide +kernel)) ggX1_sure_X1_place
set_option maxRecDepth 20000 in
theorem ggX1_sure_X1_leastFelled : GoodIn wsX1_sure wsX1_leastFelled := goodIn_r _ [19, 1, 2, 3, 4, 5, 6, 7, 8, 9, 10, 20, 21, 22, 23, 15, 24, 25, 26, 27, 28, 29, 30, 31, 32, 33, 34] (by decide +kernel) (by decide +kernel)
set_option maxRecDepth 20000 in
theorem gX1_sure_X1_leastFelled : GoodIn wsX1_sure (wsV RX1 57 RX1 yX1_leastFelled wsX1_leastFelled) := goodIn_app (goodIn_of _ (by decide +kernel)) ggX1_sure_X1_leastFelled
theorem dX1_sure_0 : decode cX1_sure 0 = .ok (.iconst 0, 1) := by decide +kernel
theorem dX1_sure_1 : decode cX1_sure 1 = .ok (.istore_n 3, 1) := by decide +kernel
theorem dX1_sure_2 : decode cX1_sure 2 = .ok (.iconst 0, 1) := by decide +kernel
theorem dX1_sure_3 : decode cX1_sure 3 = .ok (.istore 4, 2) := by decide +kernel
theorem dX1_sure_5 : decode cX1_sure 5 = .ok (.iload 4, 2) := by decide +kernel
theorem dX1_sure_7 : decode cX1_sure 7 = .ok (.iload_n 1, 1) := by decide +kernel
theorem dX1_sure_8 : decode cX1_sure 8 = .ok (.if_icmp .gt 59, 3) := by decide +kernel
theorem dX1_sure_11 : decode cX1_sure 11 = .ok (.iconst 0, 1) := by decide +kernel
theorem dX1_sure_12 : decode cX1_sure 12 = .ok (.istore 5, 2) := by decide +kernel
theorem dX1_sure_14 : decode cX1_sure 14 = .ok (.iload 5, 2) := by decide +kernel
theorem dX1_sure_16 : decode cX1_sure 16 = .ok (.iload_n 1, 1) := by decide +kernel
theorem dX1_sure_17 : decode cX1_sure 17 = .ok (.iload 4, 2) := by decide +kernel
theorem dX1_sure_19 : decode cX1_sure 19 = .ok (.isub, 1) := by decide +kernel
theorem dX1_sure_20 : decode cX1_sure 20 = .ok (.if_icmp .gt 41, 3) := by decide +kernel
theorem dX1_sure_23 : decode cX1_sure 23 = .ok (.aload_n 0, 1) := by decide +kernel
theorem dX1_sure_24 : decode cX1_sure 24 = .ok (.aload_n 0, 1) := by decide +kernel
theorem dX1_sure_25 : decode cX1_sure 25 = .ok (.invokevirtual 54, 3) := by decide +kernel
theorem dX1_sure_28 : decode cX1_sure 28 = .ok (.iload 4, 2) := by decide +kernel
theorem dX1_sure_30 : decode cX1_sure 30 = .ok (.iload 5, 2) := by decide +kernel
theorem dX1_sure_32 : decode cX1_sure 32 = .ok (.iload_n 1, 1) := by decide +kernel
theorem dX1_sure_33 : decode cX1_sure 33 = .ok (.iload 4, 2) := by decide +kernel
theorem dX1_sure_35 : decode cX1_sure 35 = .ok (.isub, 1) := by decide +kernel
theorem dX1_sure_36 : decode cX1_sure 36 = .ok (.iload 5, 2) := by decide +kernel
theorem dX1_sure_38 : decode cX1_sure 38 = .ok (.isub, 1) := by decide +kernel
theorem dX1_sure_39 : decode cX1_sure 39 = .ok (.invokevirtual 40, 3) := by decide +kernel
theorem dX1_sure_42 : decode cX1_sure 42 = .ok (.ifCond .eq 13, 3) := by decide +kernel
theorem dX1_sure_45 : decode cX1_sure 45 = .ok (.iload_n 3, 1) := by decide +kernel
theorem dX1_sure_46 : decode cX1_sure 46 = .ok (.aload_n 0, 1) := by decide +kernel
theorem dX1_sure_47 : decode cX1_sure 47 = .ok (.iload_n 2, 1) := by decide +kernel
theorem dX1_sure_48 : decode cX1_sure 48 = .ok (.invokevirtual 57, 3) := by decide +kernel
theorem dX1_sure_51 : decode cX1_sure 51 = .ok (.invokestatic 51, 3) := by decide +kernel
theorem dX1_sure_54 : decode cX1_sure 54 = .ok (.istore_n 3, 1) := by decide +kernel
theorem dX1_sure_55 : decode cX1_sure 55 = .ok (.iinc 5 1, 3) := by decide +kernel
theorem dX1_sure_58 : decode cX1_sure 58 = .ok (.goto (-44), 3) := by decide +kernel
theorem dX1_sure_61 : decode cX1_sure 61 = .ok (.iinc 4 1, 3) := by decide +kernel
theorem dX1_sure_64 : decode cX1_sure 64 = .ok (.goto (-59), 3) := by decide +kernel
theorem dX1_sure_67 : decode cX1_sure 67 = .ok (.iload_n 3, 1) := by decide +kernel
theorem dX1_sure_68 : decode cX1_sure 68 = .ok (.ireturn, 1) := by decide +kernel
theorem dX1_place_0 : decode cX1_place 0 = .ok (.aload_n 0, 1) := by decide +kernel
theorem dX1_place_1 : decode cX1_place 1 = .ok (.getfield 18, 3) := by decide +kernel
theorem dX1_place_4 : decode cX1_place 4 = .ok (.iconst 0, 1) := by decide +kernel
theorem dX1_place_5 : decode cX1_place 5 = .ok (.iload_n 2, 1) := by decide +kernel
theorem dX1_place_6 : decode cX1_place 6 = .ok (.iastore, 1) := by decide +kernel
theorem dX1_place_7 : decode cX1_place 7 = .ok (.aload_n 0, 1) := by decide +kernel
theorem dX1_place_8 : decode cX1_place 8 = .ok (.getfield 18, 3) := by decide +kernel
theorem dX1_place_11 : decode cX1_place 11 = .ok (.iconst 1, 1) := by decide +kernel
theorem dX1_place_12 : decode cX1_place 12 = .ok (.iload_n 3, 1) := by decide +kernel
theorem dX1_place_13 : decode cX1_place 13 = .ok (.iastore, 1) := by decide +kernel
theorem dX1_place_14 : decode cX1_place 14 = .ok (.aload_n 0, 1) := by decide +kernel
theorem dX1_place_15 : decode cX1_place 15 = .ok (.getfield 18, 3) := by decide +kernel
theorem dX1_place_18 : decode cX1_place 18 = .ok (.iconst 2, 1) := by decide +kernel
theorem dX1_place_19 : decode cX1_place 19 = .ok (.iload 4, 2) := by decide +kernel
theorem dX1_place_21 : decode cX1_place 21 = .ok (.iastore, 1) := by decide +kernel
theorem dX1_place_22 : decode cX1_place 22 = .ok (.iconst 0, 1) := by decide +kernel
theorem dX1_place_23 : decode cX1_place 23 = .ok (.istore 5, 2) := by decide +kernel
theorem dX1_place_25 : decode cX1_place 25 = .ok (.iload 5, 2) := by decide +kernel
theorem dX1_place_27 : decode cX1_place 27 = .ok (.iconst 3, 1) := by decide +kernel
theorem dX1_place_28 : decode cX1_place 28 = .ok (.if_icmp .ge 30, 3) := by decide +kernel
theorem dX1_place_31 : decode cX1_place 31 = .ok (.aload_n 0, 1) := by decide +kernel
theorem dX1_place_32 : decode cX1_place 32 = .ok (.getfield 18, 3) := by decide +kernel
theorem dX1_place_35 : decode cX1_place 35 = .ok (.iload 5, 2) := by decide +kernel
theorem dX1_place_37 : decode cX1_place 37 = .ok (.iaload, 1) := by decide +kernel
theorem dX1_place_38 : decode cX1_place 38 = .ok (.ifCond .le 14, 3) := by decide +kernel
theorem dX1_place_41 : decode cX1_place 41 = .ok (.iload_n 1, 1) := by decide +kernel
theorem dX1_place_42 : decode cX1_place 42 = .ok (.iload 5, 2) := by decide +kernel
theorem dX1_place_44 : decode cX1_place 44 = .ok (.ishr, 1) := by decide +kernel
theorem dX1_place_45 : decode cX1_place 45 = .ok (.iconst 1, 1) := by decide +kernel
theorem dX1_place_46 : decode cX1_place 46 = .ok (.iand, 1) := by decide +kernel
theorem dX1_place_47 : decode cX1_place 47 = .ok (.ifCond .ne 5, 3) := by decide +kernel
theorem dX1_place_50 : decode cX1_place 50 = .ok (.iconst 0, 1) := by decide +kernel
theorem dX1_place_51 : decode cX1_place 51 = .ok (.ireturn, 1) := by decide +kernel
theorem dX1_place_52 : decode cX1_place 52 = .ok (.iinc 5 1, 3) := by decide +kernel
theorem dX1_place_55 : decode cX1_place 55 = .ok (.goto (-30), 3) := by decide +kernel
theorem dX1_place_58 : decode cX1_place 58 = .ok (.iconst 1, 1) := by decide +kernel
theorem dX1_place_59 : decode cX1_place 59 = .ok (.ireturn, 1) := by decide +kernel
theorem dX1_digits_0 : decode cX1_digits 0 = .ok (.iconst 0, 1) := by decide +kernel
theorem dX1_digits_1 : decode cX1_digits 1 = .ok (.istore_n 1, 1) := by decide +kernel
theorem dX1_digits_2 : decode cX1_digits 2 = .ok (.iconst 0, 1) := by decide +kernel
theorem dX1_digits_3 : decode cX1_digits 3 = .ok (.istore_n 2, 1) := by decide +kernel
theorem dX1_digits_4 : decode cX1_digits 4 = .ok (.iload_n 2, 1) := by decide +kernel
theorem dX1_digits_5 : decode cX1_digits 5 = .ok (.aload_n 0, 1) := by decide +kernel
theorem dX1_digits_6 : decode cX1_digits 6 = .ok (.getfield 33, 3) := by decide +kernel
theorem dX1_digits_9 : decode cX1_digits 9 = .ok (.if_icmp .ge 21, 3) := by decide +kernel
theorem dX1_digits_12 : decode cX1_digits 12 = .ok (.iload_n 1, 1) := by decide +kernel
theorem dX1_digits_13 : decode cX1_digits 13 = .ok (.bipush 10, 2) := by decide +kernel
theorem dX1_digits_15 : decode cX1_digits 15 = .ok (.imul, 1) := by decide +kernel
theorem dX1_digits_16 : decode cX1_digits 16 = .ok (.aload_n 0, 1) := by decide +kernel
theorem dX1_digits_17 : decode cX1_digits 17 = .ok (.getfield 18, 3) := by decide +kernel
theorem dX1_digits_20 : decode cX1_digits 20 = .ok (.iload_n 2, 1) := by decide +kernel
theorem dX1_digits_21 : decode cX1_digits 21 = .ok (.iaload, 1) := by decide +kernel
theorem dX1_digits_22 : decode cX1_digits 22 = .ok (.iadd, 1) := by decide +kernel
theorem dX1_digits_23 : decode cX1_digits 23 = .ok (.istore_n 1, 1) := by decide +kernel
theorem dX1_digits_24 : decode cX1_digits 24 = .ok (.iinc 2 1, 3) := by decide +kernel
theorem dX1_digits_27 : decode cX1_digits 27 = .ok (.goto (-23), 3) := by decide +kernel
theorem dX1_digits_30 : decode cX1_digits 30 = .ok (.iload_n 1, 1) := by decide +kernel
theorem dX1_digits_31 : decode cX1_digits 31 = .ok (.ireturn, 1) := by decide +kernel
set_option maxRecDepth 20000 in
theorem ggX1_mostFelled_X1_menToFell : GoodIn wsX1_mostFelled wsX1_menToFell := goodIn_r _ [9, 10, 11, 17, 18, 19, 20, 21] (by decide +kernel) (by decide +kernel)
set_option maxRecDepth 20000 in
theorem gX1_mostFelled_X1_menToFell : GoodIn wsX1_mostFelled (wsV RX1 61 RX1 yX1_menToFell wsX1_menToFell) := goodIn_app (goodIn_of _ (by decide +kernel)) ggX1_mostFelled_X1_menToFell
set_option maxRecDepth 20000 in
theorem ggX1_mostFelled_X1_worthOf : GoodIn wsX1_mostFelled wsX1_worthOf := goodIn_r _ [15, 16, 17, 18, 19, 20, 21] (by decide +kernel) (by decide +kernel)
set_option maxRecDepth 20000 in
theorem gX1_mostFelled_X1_worthOf : GoodIn wsX1_mostFelled (wsV RX1 64 RX1 yX1_worthOf wsX1_worthOf) := goodIn_app (goodIn_of _ (by decide +kernel)) ggX1_mostFelled_X1_worthOf
theorem dX1_mostFelled_0 : decode cX1_mostFelled 0 = .ok (.iconst 0, 1) := by decide +kernel
theorem dX1_mostFelled_1 : decode cX1_mostFelled 1 = .ok (.istore_n 3, 1) := by decide +kernel
theorem dX1_mostFelled_2 : decode cX1_mostFelled 2 = .ok (.iconst 0, 1) := by decide +kernel
theorem dX1_mostFelled_3 : decode cX1_mostFelled 3 = .ok (.istore 4, 2) := by decide +kernel
theorem dX1_mostFelled_5 : decode cX1_mostFelled 5 = .ok (.iload 4, 2) := by decide +kernel
theorem dX1_mostFelled_7 : decode cX1_mostFelled 7 = .ok (.bipush 8, 2) := by decide +kernel
theorem dX1_mostFelled_9 : decode cX1_mostFelled 9 = .ok (.if_icmp .ge 39, 3) := by decide +kernel
theorem dX1_mostFelled_12 : decode cX1_mostFelled 12 = .ok (.iload 4, 2) := by decide +kernel
theorem dX1_mostFelled_14 : decode cX1_mostFelled 14 = .ok (.iload_n 1, 1) := by decide +kernel
theorem dX1_mostFelled_15 : decode cX1_mostFelled 15 = .ok (.iconst (-1), 1) := by decide +kernel
theorem dX1_mostFelled_16 : decode cX1_mostFelled 16 = .ok (.ixor, 1) := by decide +kernel
theorem dX1_mostFelled_17 : decode cX1_mostFelled 17 = .ok (.iand, 1) := by decide +kernel
theorem dX1_mostFelled_18 : decode cX1_mostFelled 18 = .ok (.ifCond .ne 24, 3) := by decide +kernel
theorem dX1_mostFelled_21 : decode cX1_mostFelled 21 = .ok (.aload_n 0, 1) := by decide +kernel
theorem dX1_mostFelled_22 : decode cX1_mostFelled 22 = .ok (.iload 4, 2) := by decide +kernel
theorem dX1_mostFelled_24 : decode cX1_mostFelled 24 = .ok (.invokevirtual 61, 3) := by decide +kernel
theorem dX1_mostFelled_27 : decode cX1_mostFelled 27 = .ok (.iload_n 2, 1) := by decide +kernel
theorem dX1_mostFelled_28 : decode cX1_mostFelled 28 = .ok (.if_icmp .gt 14, 3) := by decide +kernel
theorem dX1_mostFelled_31 : decode cX1_mostFelled 31 = .ok (.iload_n 3, 1) := by decide +kernel
theorem dX1_mostFelled_32 : decode cX1_mostFelled 32 = .ok (.aload_n 0, 1) := by decide +kernel
theorem dX1_mostFelled_33 : decode cX1_mostFelled 33 = .ok (.iload 4, 2) := by decide +kernel
theorem dX1_mostFelled_35 : decode cX1_mostFelled 35 = .ok (.invokevirtual 64, 3) := by decide +kernel
theorem dX1_mostFelled_38 : decode cX1_mostFelled 38 = .ok (.invokestatic 51, 3) := by decide +kernel
theorem dX1_mostFelled_41 : decode cX1_mostFelled 41 = .ok (.istore_n 3, 1) := by decide +kernel
theorem dX1_mostFelled_42 : decode cX1_mostFelled 42 = .ok (.iinc 4 1, 3) := by decide +kernel
theorem dX1_mostFelled_45 : decode cX1_mostFelled 45 = .ok (.goto (-40), 3) := by decide +kernel
theorem dX1_mostFelled_48 : decode cX1_mostFelled 48 = .ok (.iload_n 3, 1) := by decide +kernel
theorem dX1_mostFelled_49 : decode cX1_mostFelled 49 = .ok (.ireturn, 1) := by decide +kernel
set_option maxRecDepth 20000 in
theorem ggX1_leastFelled_X1_all : GoodIn wsX1_leastFelled wsX1_all := goodIn_r _ [9, 10, 22, 23, 24, 25, 26] (by decide +kernel) (by decide +kernel)
set_option maxRecDepth 20000 in
theorem gX1_leastFelled_X1_all : GoodIn wsX1_leastFelled (wsV RX1 54 RX1 yX1_all wsX1_all) := goodIn_app (goodIn_of _ (by decide +kernel)) ggX1_leastFelled_X1_all
set_option maxRecDepth 20000 in
theorem ggX1_leastFelled_X1_menToHold : GoodIn wsX1_leastFelled wsX1_menToHold := goodIn_r _ [14, 15, 16, 1, 2, 3, 4, 22, 23, 24, 25, 26] (by decide +kernel) (by decide +kernel)
set_option maxRecDepth 20000 in
theorem gX1_leastFelled_X1_menToHold : GoodIn wsX1_leastFelled (wsV RX1 67 RX1 yX1_menToHold wsX1_menToHold) := goodIn_app (goodIn_of _ (by decide +kernel)) ggX1_leastFelled_X1_menToHold
set_option maxRecDepth 20000 in
theorem ggX1_leastFelled_X1_worthOf : GoodIn wsX1_leastFelled wsX1_worthOf := goodIn_r _ [20, 21, 22, 23, 24, 25, 26] (by decide +kernel) (by decide +kernel)
set_option maxRecDepth 20000 in
theorem gX1_leastFelled_X1_worthOf : GoodIn wsX1_leastFelled (wsV RX1 64 RX1 yX1_worthOf wsX1_worthOf) := goodIn_app (goodIn_of _ (by decide +kernel)) ggX1_leastFelled_X1_worthOf
theorem dX1_leastFelled_0 : decode cX1_leastFelled 0 = .ok (.iconst 0, 1) := by decide +kernel
theorem dX1_leastFelled_1 : decode cX1_leastFelled 1 = .ok (.istore_n 2, 1) := by decide +kernel
theorem dX1_leastFelled_2 : decode cX1_leastFelled 2 = .ok (.iconst 0, 1) := by decide +kernel
theorem dX1_leastFelled_3 : decode cX1_leastFelled 3 = .ok (.istore_n 3, 1) := by decide +kernel
theorem dX1_leastFelled_4 : decode cX1_leastFelled 4 = .ok (.iload_n 3, 1) := by decide +kernel
theorem dX1_leastFelled_5 : decode cX1_leastFelled 5 = .ok (.aload_n 0, 1) := by decide +kernel
theorem dX1_leastFelled_6 : decode cX1_leastFelled 6 = .ok (.invokevirtual 54, 3) := by decide +kernel
theorem dX1_leastFelled_9 : decode cX1_leastFelled 9 = .ok (.if_icmp .gt 28, 3) := by decide +kernel
theorem dX1_leastFelled_12 : decode cX1_leastFelled 12 = .ok (.aload_n 0, 1) := by decide +kernel
theorem dX1_leastFelled_13 : decode cX1_leastFelled 13 = .ok (.iload_n 3, 1) := by decide +kernel
theorem dX1_leastFelled_14 : decode cX1_leastFelled 14 = .ok (.invokevirtual 67, 3) := by decide +kernel
theorem dX1_leastFelled_17 : decode cX1_leastFelled 17 = .ok (.iload_n 1, 1) := by decide +kernel
theorem dX1_leastFelled_18 : decode cX1_leastFelled 18 = .ok (.if_icmp .gt 13, 3) := by decide +kernel
theorem dX1_leastFelled_21 : decode cX1_leastFelled 21 = .ok (.iload_n 2, 1) := by decide +kernel
theorem dX1_leastFelled_22 : decode cX1_leastFelled 22 = .ok (.aload_n 0, 1) := by decide +kernel
theorem dX1_leastFelled_23 : decode cX1_leastFelled 23 = .ok (.iload_n 3, 1) := by decide +kernel
theorem dX1_leastFelled_24 : decode cX1_leastFelled 24 = .ok (.invokevirtual 64, 3) := by decide +kernel
theorem dX1_leastFelled_27 : decode cX1_leastFelled 27 = .ok (.invokestatic 51, 3) := by decide +kernel
theorem dX1_leastFelled_30 : decode cX1_leastFelled 30 = .ok (.istore_n 2, 1) := by decide +kernel
theorem dX1_leastFelled_31 : decode cX1_leastFelled 31 = .ok (.iinc 3 1, 3) := by decide +kernel
theorem dX1_leastFelled_34 : decode cX1_leastFelled 34 = .ok (.goto (-30), 3) := by decide +kernel
theorem dX1_leastFelled_37 : decode cX1_leastFelled 37 = .ok (.aload_n 0, 1) := by decide +kernel
theorem dX1_leastFelled_38 : decode cX1_leastFelled 38 = .ok (.aload_n 0, 1) := by decide +kernel
theorem dX1_leastFelled_39 : decode cX1_leastFelled 39 = .ok (.invokevirtual 54, 3) := by decide +kernel
theorem dX1_leastFelled_42 : decode cX1_leastFelled 42 = .ok (.invokevirtual 64, 3) := by decide +kernel
theorem dX1_leastFelled_45 : decode cX1_leastFelled 45 = .ok (.iload_n 2, 1) := by decide +kernel
theorem dX1_leastFelled_46 : decode cX1_leastFelled 46 = .ok (.isub, 1) := by decide +kernel
theorem dX1_leastFelled_47 : decode cX1_leastFelled 47 = .ok (.ireturn, 1) := by decide +kernel
theorem dX1_menToFell_0 : decode cX1_menToFell 0 = .ok (.iconst 0, 1) := by decide +kernel
theorem dX1_menToFell_1 : decode cX1_menToFell 1 = .ok (.istore_n 2, 1) := by decide +kernel
theorem dX1_menToFell_2 : decode cX1_menToFell 2 = .ok (.iconst 0, 1) := by decide +kernel
theorem dX1_menToFell_3 : decode cX1_menToFell 3 = .ok (.istore_n 3, 1) := by decide +kernel
theorem dX1_menToFell_4 : decode cX1_menToFell 4 = .ok (.iload_n 3, 1) := by decide +kernel
theorem dX1_menToFell_5 : decode cX1_menToFell 5 = .ok (.iconst 3, 1) := by decide +kernel
theorem dX1_menToFell_6 : decode cX1_menToFell 6 = .ok (.if_icmp .ge 36, 3) := by decide +kernel
theorem dX1_menToFell_9 : decode cX1_menToFell 9 = .ok (.iload_n 1, 1) := by decide +kernel
theorem dX1_menToFell_10 : decode cX1_menToFell 10 = .ok (.iload_n 3, 1) := by decide +kernel
theorem dX1_menToFell_11 : decode cX1_menToFell 11 = .ok (.ishr, 1) := by decide +kernel
theorem dX1_menToFell_12 : decode cX1_menToFell 12 = .ok (.iconst 1, 1) := by decide +kernel
theorem dX1_menToFell_13 : decode cX1_menToFell 13 = .ok (.iand, 1) := by decide +kernel
theorem dX1_menToFell_14 : decode cX1_menToFell 14 = .ok (.iconst 1, 1) := by decide +kernel
theorem dX1_menToFell_15 : decode cX1_menToFell 15 = .ok (.if_icmp .ne 21, 3) := by decide +kernel
theorem dX1_menToFell_18 : decode cX1_menToFell 18 = .ok (.iload_n 2, 1) := by decide +kernel
theorem dX1_menToFell_19 : decode cX1_menToFell 19 = .ok (.aload_n 0, 1) := by decide +kernel
theorem dX1_menToFell_20 : decode cX1_menToFell 20 = .ok (.getfield 18, 3) := by decide +kernel
theorem dX1_menToFell_23 : decode cX1_menToFell 23 = .ok (.iload_n 3, 1) := by decide +kernel
theorem dX1_menToFell_24 : decode cX1_menToFell 24 = .ok (.iaload, 1) := by decide +kernel
theorem dX1_menToFell_25 : decode cX1_menToFell 25 = .ok (.aload_n 0, 1) := by decide +kernel
theorem dX1_menToFell_26 : decode cX1_menToFell 26 = .ok (.getfield 15, 3) := by decide +kernel
theorem dX1_menToFell_29 : decode cX1_menToFell 29 = .ok (.iload_n 3, 1) := by decide +kernel
theorem dX1_menToFell_30 : decode cX1_menToFell 30 = .ok (.iaload, 1) := by decide +kernel
theorem dX1_menToFell_31 : decode cX1_menToFell 31 = .ok (.iadd, 1) := by decide +kernel
theorem dX1_menToFell_32 : decode cX1_menToFell 32 = .ok (.iconst 1, 1) := by decide +kernel
theorem dX1_menToFell_33 : decode cX1_menToFell 33 = .ok (.iadd, 1) := by decide +kernel
theorem dX1_menToFell_34 : decode cX1_menToFell 34 = .ok (.iadd, 1) := by decide +kernel
theorem dX1_menToFell_35 : decode cX1_menToFell 35 = .ok (.istore_n 2, 1) := by decide +kernel
theorem dX1_menToFell_36 : decode cX1_menToFell 36 = .ok (.iinc 3 1, 3) := by decide +kernel
theorem dX1_menToFell_39 : decode cX1_menToFell 39 = .ok (.goto (-35), 3) := by decide +kernel
theorem dX1_menToFell_42 : decode cX1_menToFell 42 = .ok (.iload_n 2, 1) := by decide +kernel
theorem dX1_menToFell_43 : decode cX1_menToFell 43 = .ok (.ireturn, 1) := by decide +kernel
theorem dX1_menToHold_0 : decode cX1_menToHold 0 = .ok (.iconst 0, 1) := by decide +kernel
theorem dX1_menToHold_1 : decode cX1_menToHold 1 = .ok (.istore_n 2, 1) := by decide +kernel
theorem dX1_menToHold_2 : decode cX1_menToHold 2 = .ok (.iconst 0, 1) := by decide +kernel
theorem dX1_menToHold_3 : decode cX1_menToHold 3 = .ok (.istore_n 3, 1) := by decide +kernel
theorem dX1_menToHold_4 : decode cX1_menToHold 4 = .ok (.iload_n 3, 1) := by decide +kernel
theorem dX1_menToHold_5 : decode cX1_menToHold 5 = .ok (.iconst 3, 1) := by decide +kernel
theorem dX1_menToHold_6 : decode cX1_menToHold 6 = .ok (.if_icmp .ge 38, 3) := by decide +kernel
theorem dX1_menToHold_9 : decode cX1_menToHold 9 = .ok (.iload_n 1, 1) := by decide +kernel
theorem dX1_menToHold_10 : decode cX1_menToHold 10 = .ok (.iload_n 3, 1) := by decide +kernel
theorem dX1_menToHold_11 : decode cX1_menToHold 11 = .ok (.ishr, 1) := by decide +kernel
theorem dX1_menToHold_12 : decode cX1_menToHold 12 = .ok (.iconst 1, 1) := by decide +kernel
theorem dX1_menToHold_13 : decode cX1_menToHold 13 = .ok (.iand, 1) := by decide +kernel
theorem dX1_menToHold_14 : decode cX1_menToHold 14 = .ok (.iconst 1, 1) := by decide +kernel
theorem dX1_menToHold_15 : decode cX1_menToHold 15 = .ok (.if_icmp .ne 23, 3) := by decide +kernel
theorem dX1_menToHold_18 : decode cX1_menToHold 18 = .ok (.iload_n 2, 1) := by decide +kernel
theorem dX1_menToHold_19 : decode cX1_menToHold 19 = .ok (.iconst 0, 1) := by decide +kernel
theorem dX1_menToHold_20 : decode cX1_menToHold 20 = .ok (.aload_n 0, 1) := by decide +kernel
theorem dX1_menToHold_21 : decode cX1_menToHold 21 = .ok (.getfield 18, 3) := by decide +kernel
theorem dX1_menToHold_24 : decode cX1_menToHold 24 = .ok (.iload_n 3, 1) := by decide +kernel
theorem dX1_menToHold_25 : decode cX1_menToHold 25 = .ok (.iaload, 1) := by decide +kernel
theorem dX1_menToHold_26 : decode cX1_menToHold 26 = .ok (.aload_n 0, 1) := by decide +kernel
theorem dX1_menToHold_27 : decode cX1_menToHold 27 = .ok (.getfield 15, 3) := by decide +kernel
theorem dX1_menToHold_30 : decode cX1_menToHold 30 = .ok (.iload_n 3, 1) := by decide +kernel
theorem dX1_menToHold_31 : decode cX1_menToHold 31 = .ok (.iaload, 1) := by decide +kernel
theorem dX1_menToHold_32 : decode cX1_menToHold 32 = .ok (.isub, 1) := by decide +kernel
theorem dX1_menToHold_33 : decode cX1_menToHold 33 = .ok (.invokestatic 51, 3) := by decide +kernel
theorem dX1_menToHold_36 : decode cX1_menToHold 36 = .ok (.iadd, 1) := by decide +kernel
theorem dX1_menToHold_37 : decode cX1_menToHold 37 = .ok (.istore_n 2, 1) := by decide +kernel
theorem dX1_menToHold_38 : decode cX1_menToHold 38 = .ok (.iinc 3 1, 3) := by decide +kernel
theorem dX1_menToHold_41 : decode cX1_menToHold 41 = .ok (.goto (-37), 3) := by decide +kernel
theorem dX1_menToHold_44 : decode cX1_menToHold 44 = .ok (.iload_n 2, 1) := by decide +kernel
theorem dX1_menToHold_45 : decode cX1_menToHold 45 = .ok (.ireturn, 1) := by decide +kernel
theorem dX1_worthOf_0 : decode cX1_worthOf 0 = .ok (.iconst 0, 1) := by decide +kernel
theorem dX1_worthOf_1 : decode cX1_worthOf 1 = .ok (.istore_n 2, 1) := by decide +kernel
theorem dX1_worthOf_2 : decode cX1_worthOf 2 = .ok (.iconst 0, 1) := by decide +kernel
theorem dX1_worthOf_3 : decode cX1_worthOf 3 = .ok (.istore_n 3, 1) := by decide +kernel
theorem dX1_worthOf_4 : decode cX1_worthOf 4 = .ok (.iload_n 3, 1) := by decide +kernel
theorem dX1_worthOf_5 : decode cX1_worthOf 5 = .ok (.iconst 3, 1) := by decide +kernel
theorem dX1_worthOf_6 : decode cX1_worthOf 6 = .ok (.if_icmp .ge 27, 3) := by decide +kernel
theorem dX1_worthOf_9 : decode cX1_worthOf 9 = .ok (.iload_n 1, 1) := by decide +kernel
theorem dX1_worthOf_10 : decode cX1_worthOf 10 = .ok (.iload_n 3, 1) := by decide +kernel
theorem dX1_worthOf_11 : decode cX1_worthOf 11 = .ok (.ishr, 1) := by decide +kernel
theorem dX1_worthOf_12 : decode cX1_worthOf 12 = .ok (.iconst 1, 1) := by decide +kernel
theorem dX1_worthOf_13 : decode cX1_worthOf 13 = .ok (.iand, 1) := by decide +kernel
theorem dX1_worthOf_14 : decode cX1_worthOf 14 = .ok (.iconst 1, 1) := by decide +kernel
theorem dX1_worthOf_15 : decode cX1_worthOf 15 = .ok (.if_icmp .ne 12, 3) := by decide +kernel
theorem dX1_worthOf_18 : decode cX1_worthOf 18 = .ok (.iload_n 2, 1) := by decide +kernel
theorem dX1_worthOf_19 : decode cX1_worthOf 19 = .ok (.aload_n 0, 1) := by decide +kernel
theorem dX1_worthOf_20 : decode cX1_worthOf 20 = .ok (.getfield 11, 3) := by decide +kernel
theorem dX1_worthOf_23 : decode cX1_worthOf 23 = .ok (.iload_n 3, 1) := by decide +kernel
theorem dX1_worthOf_24 : decode cX1_worthOf 24 = .ok (.iaload, 1) := by decide +kernel
theorem dX1_worthOf_25 : decode cX1_worthOf 25 = .ok (.iadd, 1) := by decide +kernel
theorem dX1_worthOf_26 : decode cX1_worthOf 26 = .ok (.istore_n 2, 1) := by decide +kernel
theorem dX1_worthOf_27 : decode cX1_worthOf 27 = .ok (.iinc 3 1, 3) := by decide +kernel
theorem dX1_worthOf_30 : decode cX1_worthOf 30 = .ok (.goto (-26), 3) := by decide +kernel
theorem dX1_worthOf_33 : decode cX1_worthOf 33 = .ok (.iload_n 2, 1) := by decide +kernel
theorem dX1_worthOf_34 : decode cX1_worthOf 34 = .ok (.ireturn, 1) := by decide +kernel
theorem dX2_init_0 : decode cX2_init 0 = .ok (.aload_n 0, 1) := by decide +kernel
theorem dX2_init_1 : decode cX2_init 1 = .ok (.invokespecial 1, 3) := by decide +kernel
theorem dX2_init_4 : decode cX2_init 4 = .ok (.aload_n 0, 1) := by decide +kernel
theorem dX2_init_5 : decode cX2_init 5 = .ok (.iconst 4, 1) := by decide +kernel
theorem dX2_init_6 : decode cX2_init 6 = .ok (.newarray .int, 2) := by decide +kernel
theorem dX2_init_8 : decode cX2_init 8 = .ok (.dup, 1) := by decide +kernel
theorem dX2_init_9 : decode cX2_init 9 = .ok (.iconst 0, 1) := by decide +kernel
theorem dX2_init_10 : decode cX2_init 10 = .ok (.bipush 8, 2) := by decide +kernel
theorem dX2_init_12 : decode cX2_init 12 = .ok (.iastore, 1) := by decide +kernel
theorem dX2_init_13 : decode cX2_init 13 = .ok (.dup, 1) := by decide +kernel
theorem dX2_init_14 : decode cX2_init 14 = .ok (.iconst 1, 1) := by decide +kernel
theorem dX2_init_15 : decode cX2_init 15 = .ok (.bipush 8, 2) := by decide +kernel
theorem dX2_init_17 : decode cX2_init 17 = .ok (.iastore, 1) := by decide +kernel
theorem dX2_init_18 : decode cX2_init 18 = .ok (.dup, 1) := by decide +kernel
theorem dX2_init_19 : decode cX2_init 19 = .ok (.iconst 2, 1) := by decide +kernel
theorem dX2_init_20 : decode cX2_init 20 = .ok (.bipush 8, 2) := by decide +kernel
theorem dX2_init_22 : decode cX2_init 22 = .ok (.iastore, 1) := by decide +kernel
theorem dX2_init_23 : decode cX2_init 23 = .ok (.dup, 1) := by decide +kernel
theorem dX2_init_24 : decode cX2_init 24 = .ok (.iconst 3, 1) := by decide +kernel
theorem dX2_init_25 : decode cX2_init 25 = .ok (.bipush 8, 2) := by decide +kernel
theorem dX2_init_27 : decode cX2_init 27 = .ok (.iastore, 1) := by decide +kernel
theorem dX2_init_28 : decode cX2_init 28 = .ok (.putfield 7, 3) := by decide +kernel
theorem dX2_init_31 : decode cX2_init 31 = .ok (.aload_n 0, 1) := by decide +kernel
theorem dX2_init_32 : decode cX2_init 32 = .ok (.iconst 4, 1) := by decide +kernel
theorem dX2_init_33 : decode cX2_init 33 = .ok (.newarray .int, 2) := by decide +kernel
theorem dX2_init_35 : decode cX2_init 35 = .ok (.dup, 1) := by decide +kernel
theorem dX2_init_36 : decode cX2_init 36 = .ok (.iconst 0, 1) := by decide +kernel
theorem dX2_init_37 : decode cX2_init 37 = .ok (.bipush 8, 2) := by decide +kernel
theorem dX2_init_39 : decode cX2_init 39 = .ok (.iastore, 1) := by decide +kernel
theorem dX2_init_40 : decode cX2_init 40 = .ok (.dup, 1) := by decide +kernel
theorem dX2_init_41 : decode cX2_init 41 = .ok (.iconst 1, 1) := by decide +kernel
theorem dX2_init_42 : decode cX2_init 42 = .ok (.bipush 8, 2) := by decide +kernel
theorem dX2_init_44 : decode cX2_init 44 = .ok (.iastore, 1) := by decide +kernel
theorem dX2_init_45 : decode cX2_init 45 = .ok (.dup, 1) := by decide +kernel
theorem dX2_init_46 : decode cX2_init 46 = .ok (.iconst 2, 1) := by decide +kernel
theorem dX2_init_47 : decode cX2_init 47 = .ok (.bipush 8, 2) := by decide +kernel
theorem dX2_init_49 : decode cX2_init 49 = .ok (.iastore, 1) := by decide +kernel
theorem dX2_init_50 : decode cX2_init 50 = .ok (.dup, 1) := by decide +kernel
theorem dX2_init_51 : decode cX2_init 51 = .ok (.iconst 3, 1) := by decide +kernel
theorem dX2_init_52 : decode cX2_init 52 = .ok (.bipush 8, 2) := by decide +kernel
theorem dX2_init_54 : decode cX2_init 54 = .ok (.iastore, 1) := by decide +kernel
theorem dX2_init_55 : decode cX2_init 55 = .ok (.putfield 13, 3) := by decide +kernel
theorem dX2_init_58 : decode cX2_init 58 = .ok (.aload_n 0, 1) := by decide +kernel
theorem dX2_init_59 : decode cX2_init 59 = .ok (.iconst 1, 1) := by decide +kernel
theorem dX2_init_60 : decode cX2_init 60 = .ok (.putfield 16, 3) := by decide +kernel
theorem dX2_init_63 : decode cX2_init 63 = .ok (.aload_n 0, 1) := by decide +kernel
theorem dX2_init_64 : decode cX2_init 64 = .ok (.iconst 1, 1) := by decide +kernel
theorem dX2_init_65 : decode cX2_init 65 = .ok (.putfield 20, 3) := by decide +kernel
theorem dX2_init_68 : decode cX2_init 68 = .ok (.aload_n 0, 1) := by decide +kernel
theorem dX2_init_69 : decode cX2_init 69 = .ok (.lconst 1, 1) := by decide +kernel
theorem dX2_init_70 : decode cX2_init 70 = .ok (.putfield 23, 3) := by decide +kernel
theorem dX2_init_73 : decode cX2_init 73 = .ok (.aload_n 0, 1) := by decide +kernel
theorem dX2_init_74 : decode cX2_init 74 = .ok (.lconst 1, 1) := by decide +kernel
theorem dX2_init_75 : decode cX2_init 75 = .ok (.putfield 27, 3) := by decide +kernel
theorem dX2_init_78 : decode cX2_init 78 = .ok (.return_, 1) := by decide +kernel
set_option maxRecDepth 20000 in
theorem ggX2_start_X2_forget : GoodIn wsX2_start wsX2_forget := goodIn_r _ [7, 1, 8, 2, 9, 10, 11, 12, 13, 14, 15, 16, 17] (by decide +kernel) (by decide +kernel)
set_option maxRecDepth 20000 in
theorem gX2_start_X2_forget : GoodIn wsX2_start (wsV RX2 30 RX2 yX2_forget wsX2_forget) := goodIn_app (goodIn_of _ (by decide +kernel)) ggX2_start_X2_forget
theorem dX2_start_0 : decode cX2_start 0 = .ok (.aload_n 0, 1) := by decide +kernel
theorem dX2_start_1 : decode cX2_start 1 = .ok (.iload_n 1, 1) := by decide +kernel
theorem dX2_start_2 : decode cX2_start 2 = .ok (.putfield 16, 3) := by decide +kernel
theorem dX2_start_5 : decode cX2_start 5 = .ok (.aload_n 0, 1) := by decide +kernel
theorem dX2_start_6 : decode cX2_start 6 = .ok (.iload_n 2, 1) := by decide +kernel
theorem dX2_start_7 : decode cX2_start 7 = .ok (.putfield 20, 3) := by decide +kernel
theorem dX2_start_10 : decode cX2_start 10 = .ok (.aload_n 0, 1) := by decide +kernel
theorem dX2_start_11 : decode cX2_start 11 = .ok (.invokevirtual 30, 3) := by decide +kernel
theorem dX2_start_14 : decode cX2_start 14 = .ok (.return_, 1) := by decide +kernel
theorem dX2_forget_0 : decode cX2_forget 0 = .ok (.aload_n 0, 1) := by decide +kernel
theorem dX2_forget_1 : decode cX2_forget 1 = .ok (.aload_n 0, 1) := by decide +kernel
theorem dX2_forget_2 : decode cX2_forget 2 = .ok (.getfield 16, 3) := by decide +kernel
theorem dX2_forget_5 : decode cX2_forget 5 = .ok (.i2l, 1) := by decide +kernel
theorem dX2_forget_6 : decode cX2_forget 6 = .ok (.putfield 23, 3) := by decide +kernel
theorem dX2_forget_9 : decode cX2_forget 9 = .ok (.aload_n 0, 1) := by decide +kernel
theorem dX2_forget_10 : decode cX2_forget 10 = .ok (.aload_n 0, 1) := by decide +kernel
theorem dX2_forget_11 : decode cX2_forget 11 = .ok (.getfield 20, 3) := by decide +kernel
theorem dX2_forget_14 : decode cX2_forget 14 = .ok (.i2l, 1) := by decide +kernel
theorem dX2_forget_15 : decode cX2_forget 15 = .ok (.putfield 27, 3) := by decide +kernel
theorem dX2_forget_18 : decode cX2_forget 18 = .ok (.aload_n 0, 1) := by decide +kernel
theorem dX2_forget_19 : decode cX2_forget 19 = .ok (.iconst 0, 1) := by decide +kernel
theorem dX2_forget_20 : decode cX2_forget 20 = .ok (.putfield 33, 3) := by decide +kernel
theorem dX2_forget_23 : decode cX2_forget 23 = .ok (.return_, 1) := by decide +kernel
theorem dX2_add_0 : decode cX2_add 0 = .ok (.aload_n 0, 1) := by decide +kernel
theorem dX2_add_1 : decode cX2_add 1 = .ok (.getfield 33, 3) := by decide +kernel
theorem dX2_add_4 : decode cX2_add 4 = .ok (.bipush 12, 2) := by decide +kernel
theorem dX2_add_6 : decode cX2_add 6 = .ok (.if_icmp .lt 5, 3) := by decide +kernel
theorem dX2_add_9 : decode cX2_add 9 = .ok (.iconst (-1), 1) := by decide +kernel
theorem dX2_add_10 : decode cX2_add 10 = .ok (.ireturn, 1) := by decide +kernel
theorem dX2_add_11 : decode cX2_add 11 = .ok (.aload_n 0, 1) := by decide +kernel
theorem dX2_add_12 : decode cX2_add 12 = .ok (.dup, 1) := by decide +kernel
theorem dX2_add_13 : decode cX2_add 13 = .ok (.getfield 23, 3) := by decide +kernel
theorem dX2_add_16 : decode cX2_add 16 = .ok (.iload_n 1, 1) := by decide +kernel
theorem dX2_add_17 : decode cX2_add 17 = .ok (.i2l, 1) := by decide +kernel
theorem dX2_add_18 : decode cX2_add 18 = .ok (.lmul, 1) := by decide +kernel
theorem dX2_add_19 : decode cX2_add 19 = .ok (.putfield 23, 3) := by decide +kernel
theorem dX2_add_22 : decode cX2_add 22 = .ok (.aload_n 0, 1) := by decide +kernel
theorem dX2_add_23 : decode cX2_add 23 = .ok (.dup, 1) := by decide +kernel
theorem dX2_add_24 : decode cX2_add 24 = .ok (.getfield 27, 3) := by decide +kernel
theorem dX2_add_27 : decode cX2_add 27 = .ok (.iload_n 2, 1) := by decide +kernel
theorem dX2_add_28 : decode cX2_add 28 = .ok (.i2l, 1) := by decide +kernel
theorem dX2_add_29 : decode cX2_add 29 = .ok (.lmul, 1) := by decide +kernel
theorem dX2_add_30 : decode cX2_add 30 = .ok (.putfield 27, 3) := by decide +kernel
theorem dX2_add_33 : decode cX2_add 33 = .ok (.aload_n 0, 1) := by decide +kernel
theorem dX2_add_34 : decode cX2_add 34 = .ok (.dup, 1) := by decide +kernel
theorem dX2_add_35 : decode cX2_add 35 = .ok (.getfield 33, 3) := by decide +kernel
theorem dX2_add_38 : decode cX2_add 38 = .ok (.iconst 1, 1) := by decide +kernel
theorem dX2_add_39 : decode cX2_add 39 = .ok (.iadd, 1) := by decide +kernel
theorem dX2_add_40 : decode cX2_add 40 = .ok (.putfield 33, 3) := by decide +kernel
theorem dX2_add_43 : decode cX2_add 43 = .ok (.aload_n 0, 1) := by decide +kernel
theorem dX2_add_44 : decode cX2_add 44 = .ok (.getfield 33, 3) := by decide +kernel
theorem dX2_add_47 : decode cX2_add 47 = .ok (.ireturn, 1) := by decide +kernel
theorem dX2_leastTerm_0 : decode cX2_leastTerm 0 = .ok (.aload_n 0, 1) := by decide +kernel
theorem dX2_leastTerm_1 : decode cX2_leastTerm 1 = .ok (.getfield 23, 3) := by decide +kernel
theorem dX2_leastTerm_4 : decode cX2_leastTerm 4 = .ok (.lstore_n 2, 1) := by decide +kernel
theorem dX2_leastTerm_5 : decode cX2_leastTerm 5 = .ok (.aload_n 0, 1) := by decide +kernel
theorem dX2_leastTerm_6 : decode cX2_leastTerm 6 = .ok (.getfield 27, 3) := by decide +kernel
theorem dX2_leastTerm_9 : decode cX2_leastTerm 9 = .ok (.lstore 4, 2) := by decide +kernel
theorem dX2_leastTerm_11 : decode cX2_leastTerm 11 = .ok (.iconst 0, 1) := by decide +kernel
theorem dX2_leastTerm_12 : decode cX2_leastTerm 12 = .ok (.istore 6, 2) := by decide +kernel
theorem dX2_leastTerm_14 : decode cX2_leastTerm 14 = .ok (.iload 6, 2) := by decide +kernel
theorem dX2_leastTerm_16 : decode cX2_leastTerm 16 = .ok (.sipush 200, 3) := by decide +kernel
theorem dX2_leastTerm_19 : decode cX2_leastTerm 19 = .ok (.if_icmp .ge 29, 3) := by decide +kernel
theorem dX2_leastTerm_22 : decode cX2_leastTerm 22 = .ok (.lload 4, 2) := by decide +kernel
theorem dX2_leastTerm_24 : decode cX2_leastTerm 24 = .ok (.lconst 0, 1) := by decide +kernel
theorem dX2_leastTerm_25 : decode cX2_leastTerm 25 = .ok (.lcmp, 1) := by decide +kernel
theorem dX2_leastTerm_26 : decode cX2_leastTerm 26 = .ok (.ifCond .eq 22, 3) := by decide +kernel
theorem dX2_leastTerm_29 : decode cX2_leastTerm 29 = .ok (.lload_n 2, 1) := by decide +kernel
theorem dX2_leastTerm_30 : decode cX2_leastTerm 30 = .ok (.lload 4, 2) := by decide +kernel
theorem dX2_leastTerm_32 : decode cX2_leastTerm 32 = .ok (.lrem, 1) := by decide +kernel
theorem dX2_leastTerm_33 : decode cX2_leastTerm 33 = .ok (.lstore 7, 2) := by decide +kernel
theorem dX2_leastTerm_35 : decode cX2_leastTerm 35 = .ok (.lload 4, 2) := by decide +kernel
theorem dX2_leastTerm_37 : decode cX2_leastTerm 37 = .ok (.lstore_n 2, 1) := by decide +kernel
theorem dX2_leastTerm_38 : decode cX2_leastTerm 38 = .ok (.lload 7, 2) := by decide +kernel
theorem dX2_leastTerm_40 : decode cX2_leastTerm 40 = .ok (.lstore 4, 2) := by decide +kernel
theorem dX2_leastTerm_42 : decode cX2_leastTerm 42 = .ok (.iinc 6 1, 3) := by decide +kernel
theorem dX2_leastTerm_45 : decode cX2_leastTerm 45 = .ok (.goto (-31), 3) := by decide +kernel
theorem dX2_leastTerm_48 : decode cX2_leastTerm 48 = .ok (.iload_n 1, 1) := by decide +kernel
theorem dX2_leastTerm_49 : decode cX2_leastTerm 49 = .ok (.ifCond .eq 10, 3) := by decide +kernel
theorem dX2_leastTerm_52 : decode cX2_leastTerm 52 = .ok (.aload_n 0, 1) := by decide +kernel
theorem dX2_leastTerm_53 : decode cX2_leastTerm 53 = .ok (.getfield 23, 3) := by decide +kernel
theorem dX2_leastTerm_56 : decode cX2_leastTerm 56 = .ok (.goto 7, 3) := by decide +kernel
theorem dX2_leastTerm_59 : decode cX2_leastTerm 59 = .ok (.aload_n 0, 1) := by decide +kernel
theorem dX2_leastTerm_60 : decode cX2_leastTerm 60 = .ok (.getfield 27, 3) := by decide +kernel
theorem dX2_leastTerm_63 : decode cX2_leastTerm 63 = .ok (.lstore 6, 2) := by decide +kernel
theorem dX2_leastTerm_65 : decode cX2_leastTerm 65 = .ok (.lload_n 2, 1) := by decide +kernel
theorem dX2_leastTerm_66 : decode cX2_leastTerm 66 = .ok (.lconst 0, 1) := by decide +kernel
theorem dX2_leastTerm_67 : decode cX2_leastTerm 67 = .ok (.lcmp, 1) := by decide +kernel
theorem dX2_leastTerm_68 : decode cX2_leastTerm 68 = .ok (.ifCond .le 10, 3) := by decide +kernel
theorem dX2_leastTerm_71 : decode cX2_leastTerm 71 = .ok (.lload 6, 2) := by decide +kernel
theorem dX2_leastTerm_73 : decode cX2_leastTerm 73 = .ok (.lload_n 2, 1) := by decide +kernel
theorem dX2_leastTerm_74 : decode cX2_leastTerm 74 = .ok (.ldiv, 1) := by decide +kernel
theorem dX2_leastTerm_75 : decode cX2_leastTerm 75 = .ok (.goto 5, 3) := by decide +kernel
theorem dX2_leastTerm_78 : decode cX2_leastTerm 78 = .ok (.lload 6, 2) := by decide +kernel
theorem dX2_leastTerm_80 : decode cX2_leastTerm 80 = .ok (.lreturn, 1) := by decide +kernel
theorem dX2_take_0 : decode cX2_take 0 = .ok (.aload_n 1, 1) := by decide +kernel
theorem dX2_take_1 : decode cX2_take 1 = .ok (.getfield 7, 3) := by decide +kernel
theorem dX2_take_4 : decode cX2_take 4 = .ok (.iconst 0, 1) := by decide +kernel
theorem dX2_take_5 : decode cX2_take 5 = .ok (.aload_n 0, 1) := by decide +kernel
theorem dX2_take_6 : decode cX2_take 6 = .ok (.getfield 7, 3) := by decide +kernel
theorem dX2_take_9 : decode cX2_take 9 = .ok (.iconst 0, 1) := by decide +kernel
theorem dX2_take_10 : decode cX2_take 10 = .ok (.iconst 4, 1) := by decide +kernel
theorem dX2_take_11 : decode cX2_take 11 = .ok (.invokestatic 36, 3) := by decide +kernel
theorem dX2_take_14 : decode cX2_take 14 = .ok (.aload_n 1, 1) := by decide +kernel
theorem dX2_take_15 : decode cX2_take 15 = .ok (.getfield 13, 3) := by decide +kernel
theorem dX2_take_18 : decode cX2_take 18 = .ok (.iconst 0, 1) := by decide +kernel
theorem dX2_take_19 : decode cX2_take 19 = .ok (.aload_n 0, 1) := by decide +kernel
theorem dX2_take_20 : decode cX2_take 20 = .ok (.getfield 13, 3) := by decide +kernel
theorem dX2_take_23 : decode cX2_take 23 = .ok (.iconst 0, 1) := by decide +kernel
theorem dX2_take_24 : decode cX2_take 24 = .ok (.iconst 4, 1) := by decide +kernel
theorem dX2_take_25 : decode cX2_take 25 = .ok (.invokestatic 36, 3) := by decide +kernel
theorem dX2_take_28 : decode cX2_take 28 = .ok (.aload_n 0, 1) := by decide +kernel
theorem dX2_take_29 : decode cX2_take 29 = .ok (.aload_n 1, 1) := by decide +kernel
theorem dX2_take_30 : decode cX2_take 30 = .ok (.getfield 16, 3) := by decide +kernel
theorem dX2_take_33 : decode cX2_take 33 = .ok (.putfield 16, 3) := by decide +kernel
theorem dX2_take_36 : decode cX2_take 36 = .ok (.aload_n 0, 1) := by decide +kernel
theorem dX2_take_37 : decode cX2_take 37 = .ok (.aload_n 1, 1) := by decide +kernel
theorem dX2_take_38 : decode cX2_take 38 = .ok (.getfield 20, 3) := by decide +kernel
theorem dX2_take_41 : decode cX2_take 41 = .ok (.putfield 20, 3) := by decide +kernel
theorem dX2_take_44 : decode cX2_take 44 = .ok (.aload_n 0, 1) := by decide +kernel
theorem dX2_take_45 : decode cX2_take 45 = .ok (.aload_n 1, 1) := by decide +kernel
theorem dX2_take_46 : decode cX2_take 46 = .ok (.getfield 23, 3) := by decide +kernel
theorem dX2_take_49 : decode cX2_take 49 = .ok (.putfield 23, 3) := by decide +kernel
theorem dX2_take_52 : decode cX2_take 52 = .ok (.aload_n 0, 1) := by decide +kernel
theorem dX2_take_53 : decode cX2_take 53 = .ok (.aload_n 1, 1) := by decide +kernel
theorem dX2_take_54 : decode cX2_take 54 = .ok (.getfield 27, 3) := by decide +kernel
theorem dX2_take_57 : decode cX2_take 57 = .ok (.putfield 27, 3) := by decide +kernel
theorem dX2_take_60 : decode cX2_take 60 = .ok (.aload_n 0, 1) := by decide +kernel
theorem dX2_take_61 : decode cX2_take 61 = .ok (.aload_n 1, 1) := by decide +kernel
theorem dX2_take_62 : decode cX2_take 62 = .ok (.getfield 33, 3) := by decide +kernel
theorem dX2_take_65 : decode cX2_take 65 = .ok (.putfield 33, 3) := by decide +kernel
theorem dX2_take_68 : decode cX2_take 68 = .ok (.return_, 1) := by decide +kernel
theorem dX3_init_0 : decode cX3_init 0 = .ok (.aload_n 0, 1) := by decide +kernel
theorem dX3_init_1 : decode cX3_init 1 = .ok (.invokespecial 1, 3) := by decide +kernel
theorem dX3_init_4 : decode cX3_init 4 = .ok (.aload_n 0, 1) := by decide +kernel
theorem dX3_init_5 : decode cX3_init 5 = .ok (.bipush 36, 2) := by decide +kernel
theorem dX3_init_7 : decode cX3_init 7 = .ok (.newarray .int, 2) := by decide +kernel
theorem dX3_init_9 : decode cX3_init 9 = .ok (.putfield 9, 3) := by decide +kernel
theorem dX3_init_12 : decode cX3_init 12 = .ok (.aload_n 0, 1) := by decide +kernel
theorem dX3_init_13 : decode cX3_init 13 = .ok (.bipush 39, 2) := by decide +kernel
theorem dX3_init_15 : decode cX3_init 15 = .ok (.newarray .int, 2) := by decide +kernel
theorem dX3_init_17 : decode cX3_init 17 = .ok (.putfield 13, 3) := by decide +kernel
theorem dX3_init_20 : decode cX3_init 20 = .ok (.return_, 1) := by decide +kernel
set_option maxRecDepth 20000 in
theorem ggX3_clear_J7_fill_53178 : GoodIn wsX3_clear wsJ7_fill_53178 := goodIn_r _ [5] (by decide +kernel) (by decide +kernel)
set_option maxRecDepth 20000 in
theorem gX3_clear_J7_fill_53178 : GoodIn wsX3_clear (va_wsS RX3 16 yJ7_fill_53178 wsJ7_fill_53178) := goodIn_app (goodIn_of _ (by decide +kernel)) ggX3_clear_J7_fill_53178
theorem dX3_clear_0 : decode cX3_clear 0 = .ok (.aload_n 0, 1) := by decide +kernel
theorem dX3_clear_1 : decode cX3_clear 1 = .ok (.getfield 9, 3) := by decide +kernel
theorem dX3_clear_4 : decode cX3_clear 4 = .ok (.iconst 0, 1) := by decide +kernel
theorem dX3_clear_5 : decode cX3_clear 5 = .ok (.invokestatic 16, 3) := by decide +kernel
theorem dX3_clear_8 : decode cX3_clear 8 = .ok (.return_, 1) := by decide +kernel
theorem dX3_bid_0 : decode cX3_bid 0 = .ok (.iload_n 2, 1) := by decide +kernel
theorem dX3_bid_1 : decode cX3_bid 1 = .ok (.iconst 3, 1) := by decide +kernel
theorem dX3_bid_2 : decode cX3_bid 2 = .ok (.imul, 1) := by decide +kernel
theorem dX3_bid_3 : decode cX3_bid 3 = .ok (.iload_n 1, 1) := by decide +kernel
theorem dX3_bid_4 : decode cX3_bid 4 = .ok (.iadd, 1) := by decide +kernel
theorem dX3_bid_5 : decode cX3_bid 5 = .ok (.istore 4, 2) := by decide +kernel
theorem dX3_bid_7 : decode cX3_bid 7 = .ok (.aload_n 0, 1) := by decide +kernel
theorem dX3_bid_8 : decode cX3_bid 8 = .ok (.getfield 9, 3) := by decide +kernel
theorem dX3_bid_11 : decode cX3_bid 11 = .ok (.iload 4, 2) := by decide +kernel
theorem dX3_bid_13 : decode cX3_bid 13 = .ok (.iaload, 1) := by decide +kernel
theorem dX3_bid_14 : decode cX3_bid 14 = .ok (.istore 5, 2) := by decide +kernel
theorem dX3_bid_16 : decode cX3_bid 16 = .ok (.aload_n 0, 1) := by decide +kernel
theorem dX3_bid_17 : decode cX3_bid 17 = .ok (.getfield 9, 3) := by decide +kernel
theorem dX3_bid_20 : decode cX3_bid 20 = .ok (.iload 4, 2) := by decide +kernel
theorem dX3_bid_22 : decode cX3_bid 22 = .ok (.iload_n 3, 1) := by decide +kernel
theorem dX3_bid_23 : decode cX3_bid 23 = .ok (.iastore, 1) := by decide +kernel
theorem dX3_bid_24 : decode cX3_bid 24 = .ok (.iload 5, 2) := by decide +kernel
theorem dX3_bid_26 : decode cX3_bid 26 = .ok (.ireturn, 1) := by decide +kernel
set_option maxRecDepth 20000 in
theorem ggX3_mostCoin_X3_mostFrom : GoodIn wsX3_mostCoin wsX3_mostFrom := goodIn_r _ [6, 7, 8, 9, 10, 11, 12, 5, 13, 14, 15, 16, 17, 18, 1, 19, 20] (by decide +kernel) (by decide +kernel)
set_option maxRecDepth 20000 in
theorem gX3_mostCoin_X3_mostFrom : GoodIn wsX3_mostCoin (wsV RX3 22 RX3 yX3_mostFrom wsX3_mostFrom) := goodIn_app (goodIn_of _ (by decide +kernel)) ggX3_mostCoin_X3_mostFrom
theorem dX3_mostCoin_0 : decode cX3_mostCoin 0 = .ok (.bipush 11, 2) := by decide +kernel
theorem dX3_mostCoin_2 : decode cX3_mostCoin 2 = .ok (.istore_n 1, 1) := by decide +kernel
theorem dX3_mostCoin_3 : decode cX3_mostCoin 3 = .ok (.iload_n 1, 1) := by decide +kernel
theorem dX3_mostCoin_4 : decode cX3_mostCoin 4 = .ok (.ifCond .lt 38, 3) := by decide +kernel
theorem dX3_mostCoin_7 : decode cX3_mostCoin 7 = .ok (.iconst 0, 1) := by decide +kernel
theorem dX3_mostCoin_8 : decode cX3_mostCoin 8 = .ok (.istore_n 2, 1) := by decide +kernel
theorem dX3_mostCoin_9 : decode cX3_mostCoin 9 = .ok (.iload_n 2, 1) := by decide +kernel
theorem dX3_mostCoin_10 : decode cX3_mostCoin 10 = .ok (.iconst 3, 1) := by decide +kernel
theorem dX3_mostCoin_11 : decode cX3_mostCoin 11 = .ok (.if_icmp .ge 25, 3) := by decide +kernel
theorem dX3_mostCoin_14 : decode cX3_mostCoin 14 = .ok (.aload_n 0, 1) := by decide +kernel
theorem dX3_mostCoin_15 : decode cX3_mostCoin 15 = .ok (.getfield 13, 3) := by decide +kernel
theorem dX3_mostCoin_18 : decode cX3_mostCoin 18 = .ok (.iload_n 1, 1) := by decide +kernel
theorem dX3_mostCoin_19 : decode cX3_mostCoin 19 = .ok (.iconst 3, 1) := by decide +kernel
theorem dX3_mostCoin_20 : decode cX3_mostCoin 20 = .ok (.imul, 1) := by decide +kernel
theorem dX3_mostCoin_21 : decode cX3_mostCoin 21 = .ok (.iload_n 2, 1) := by decide +kernel
theorem dX3_mostCoin_22 : decode cX3_mostCoin 22 = .ok (.iadd, 1) := by decide +kernel
theorem dX3_mostCoin_23 : decode cX3_mostCoin 23 = .ok (.aload_n 0, 1) := by decide +kernel
theorem dX3_mostCoin_24 : decode cX3_mostCoin 24 = .ok (.iload_n 1, 1) := by decide +kernel
theorem dX3_mostCoin_25 : decode cX3_mostCoin 25 = .ok (.iload_n 2, 1) := by decide +kernel
theorem dX3_mostCoin_26 : decode cX3_mostCoin 26 = .ok (.invokevirtual 22, 3) := by decide +kernel
theorem dX3_mostCoin_29 : decode cX3_mostCoin 29 = .ok (.iastore, 1) := by decide +kernel
theorem dX3_mostCoin_30 : decode cX3_mostCoin 30 = .ok (.iinc 2 1, 3) := by decide +kernel
theorem dX3_mostCoin_33 : decode cX3_mostCoin 33 = .ok (.goto (-24), 3) := by decide +kernel
theorem dX3_mostCoin_36 : decode cX3_mostCoin 36 = .ok (.iinc 1 (-1), 3) := by decide +kernel
theorem dX3_mostCoin_39 : decode cX3_mostCoin 39 = .ok (.goto (-36), 3) := by decide +kernel
theorem dX3_mostCoin_42 : decode cX3_mostCoin 42 = .ok (.aload_n 0, 1) := by decide +kernel
theorem dX3_mostCoin_43 : decode cX3_mostCoin 43 = .ok (.getfield 13, 3) := by decide +kernel
theorem dX3_mostCoin_46 : decode cX3_mostCoin 46 = .ok (.iconst 0, 1) := by decide +kernel
theorem dX3_mostCoin_47 : decode cX3_mostCoin 47 = .ok (.iaload, 1) := by decide +kernel
theorem dX3_mostCoin_48 : decode cX3_mostCoin 48 = .ok (.ireturn, 1) := by decide +kernel
set_option maxRecDepth 20000 in
theorem ggX3_mostFrom_X3_mayFollow : GoodIn wsX3_mostFrom wsX3_mayFollow := goodIn_r _ [8] (by decide +kernel) (by decide +kernel)
set_option maxRecDepth 20000 in
theorem gX3_mostFrom_X3_mayFollow : GoodIn wsX3_mostFrom (va_wsS RX3 26 yX3_mayFollow wsX3_mayFollow) := goodIn_app (goodIn_of _ (by decide +kernel)) ggX3_mostFrom_X3_mayFollow
set_option maxRecDepth 20000 in
theorem ggX3_mostFrom_X3_through : GoodIn wsX3_mostFrom wsX3_through := goodIn_r _ [12, 13, 14, 15, 16] (by decide +kernel) (by decide +kernel)
set_option maxRecDepth 20000 in
theorem gX3_mostFrom_X3_through : GoodIn wsX3_mostFrom (wsV RX3 30 RX3 yX3_through wsX3_through) := goodIn_app (goodIn_of _ (by decide +kernel)) ggX3_mostFrom_X3_through
theorem dX3_mostFrom_0 : decode cX3_mostFrom 0 = .ok (.iconst 0, 1) := by decide +kernel
theorem dX3_mostFrom_1 : decode cX3_mostFrom 1 = .ok (.istore_n 3, 1) := by decide +kernel
theorem dX3_mostFrom_2 : decode cX3_mostFrom 2 = .ok (.iconst 0, 1) := by decide +kernel
theorem dX3_mostFrom_3 : decode cX3_mostFrom 3 = .ok (.istore 4, 2) := by decide +kernel
theorem dX3_mostFrom_5 : decode cX3_mostFrom 5 = .ok (.iload 4, 2) := by decide +kernel
theorem dX3_mostFrom_7 : decode cX3_mostFrom 7 = .ok (.iconst 3, 1) := by decide +kernel
theorem dX3_mostFrom_8 : decode cX3_mostFrom 8 = .ok (.if_icmp .ge 30, 3) := by decide +kernel
theorem dX3_mostFrom_11 : decode cX3_mostFrom 11 = .ok (.iload_n 2, 1) := by decide +kernel
theorem dX3_mostFrom_12 : decode cX3_mostFrom 12 = .ok (.iload 4, 2) := by decide +kernel
theorem dX3_mostFrom_14 : decode cX3_mostFrom 14 = .ok (.invokestatic 26, 3) := by decide +kernel
theorem dX3_mostFrom_17 : decode cX3_mostFrom 17 = .ok (.ifCond .eq 15, 3) := by decide +kernel
theorem dX3_mostFrom_20 : decode cX3_mostFrom 20 = .ok (.iload_n 3, 1) := by decide +kernel
theorem dX3_mostFrom_21 : decode cX3_mostFrom 21 = .ok (.aload_n 0, 1) := by decide +kernel
theorem dX3_mostFrom_22 : decode cX3_mostFrom 22 = .ok (.iload_n 1, 1) := by decide +kernel
theorem dX3_mostFrom_23 : decode cX3_mostFrom 23 = .ok (.iload 4, 2) := by decide +kernel
theorem dX3_mostFrom_25 : decode cX3_mostFrom 25 = .ok (.invokevirtual 30, 3) := by decide +kernel
theorem dX3_mostFrom_28 : decode cX3_mostFrom 28 = .ok (.invokestatic 33, 3) := by decide +kernel
theorem dX3_mostFrom_31 : decode cX3_mostFrom 31 = .ok (.istore_n 3, 1) := by decide +kernel
theorem dX3_mostFrom_32 : decode cX3_mostFrom 32 = .ok (.iinc 4 1, 3) := by decide +kernel
theorem dX3_mostFrom_35 : decode cX3_mostFrom 35 = .ok (.goto (-30), 3) := by decide +kernel
theorem dX3_mostFrom_38 : decode cX3_mostFrom 38 = .ok (.iload_n 3, 1) := by decide +kernel
theorem dX3_mostFrom_39 : decode cX3_mostFrom 39 = .ok (.ireturn, 1) := by decide +kernel
theorem dX3_through_0 : decode cX3_through 0 = .ok (.aload_n 0, 1) := by decide +kernel
theorem dX3_through_1 : decode cX3_through 1 = .ok (.getfield 9, 3) := by decide +kernel
theorem dX3_through_4 : decode cX3_through 4 = .ok (.iload_n 1, 1) := by decide +kernel
theorem dX3_through_5 : decode cX3_through 5 = .ok (.iconst 3, 1) := by decide +kernel
theorem dX3_through_6 : decode cX3_through 6 = .ok (.imul, 1) := by decide +kernel
theorem dX3_through_7 : decode cX3_through 7 = .ok (.iload_n 2, 1) := by decide +kernel
theorem dX3_through_8 : decode cX3_through 8 = .ok (.iadd, 1) := by decide +kernel
theorem dX3_through_9 : decode cX3_through 9 = .ok (.iaload, 1) := by decide +kernel
theorem dX3_through_10 : decode cX3_through 10 = .ok (.aload_n 0, 1) := by decide +kernel
theorem dX3_through_11 : decode cX3_through 11 = .ok (.getfield 13, 3) := by decide +kernel
theorem dX3_through_14 : decode cX3_through 14 = .ok (.iload_n 1, 1) := by decide +kernel
theorem dX3_through_15 : decode cX3_through 15 = .ok (.iconst 1, 1) := by decide +kernel
theorem dX3_through_16 : decode cX3_through 16 = .ok (.iadd, 1) := by decide +kernel
theorem dX3_through_17 : decode cX3_through 17 = .ok (.iconst 3, 1) := by decide +kernel
theorem dX3_through_18 : decode cX3_through 18 = .ok (.imul, 1) := by decide +kernel
theorem dX3_through_19 : decode cX3_through 19 = .ok (.iload_n 2, 1) := by decide +kernel
theorem dX3_through_20 : decode cX3_through 20 = .ok (.iadd, 1) := by decide +kernel
theorem dX3_through_21 : decode cX3_through 21 = .ok (.iaload, 1) := by decide +kernel
theorem dX3_through_22 : decode cX3_through 22 = .ok (.iadd, 1) := by decide +kernel
theorem dX3_through_23 : decode cX3_through 23 = .ok (.ireturn, 1) := by decide +kernel
theorem dX3_mayFollow_0 : decode cX3_mayFollow 0 = .ok (.iload_n 0, 1) := by decide +kernel
theorem dX3_mayFollow_1 : decode cX3_mayFollow 1 = .ok (.ifCond .eq 12, 3) := by decide +kernel
theorem dX3_mayFollow_4 : decode cX3_mayFollow 4 = .ok (.iload_n 1, 1) := by decide +kernel
theorem dX3_mayFollow_5 : decode cX3_mayFollow 5 = .ok (.ifCond .eq 8, 3) := by decide +kernel
theorem dX3_mayFollow_8 : decode cX3_mayFollow 8 = .ok (.iload_n 0, 1) := by decide +kernel
theorem dX3_mayFollow_9 : decode cX3_mayFollow 9 = .ok (.iload_n 1, 1) := by decide +kernel
theorem dX3_mayFollow_10 : decode cX3_mayFollow 10 = .ok (.if_icmp .ne 7, 3) := by decide +kernel
theorem dX3_mayFollow_13 : decode cX3_mayFollow 13 = .ok (.iconst 1, 1) := by decide +kernel
theorem dX3_mayFollow_14 : decode cX3_mayFollow 14 = .ok (.goto 4, 3) := by decide +kernel
theorem dX3_mayFollow_17 : decode cX3_mayFollow 17 = .ok (.iconst 0, 1) := by decide +kernel
theorem dX3_mayFollow_18 : decode cX3_mayFollow 18 = .ok (.ireturn, 1) := by decide +kernel
set_option maxRecDepth 20000 in
theorem ggX3_served_X3_mostCoin : GoodIn wsX3_served wsX3_mostCoin := goodIn_r _ [5, 6, 7, 8, 9, 4, 10, 11, 12, 13, 14, 15, 16, 17, 18, 19, 20, 21, 22, 27, 28] (by decide +kernel) (by decide +kernel)
set_option maxRecDepth 20000 in
theorem gX3_served_X3_mostCoin : GoodIn wsX3_served (wsV RX3 38 RX3 yX3_mostCoin wsX3_mostCoin) := goodIn_app (goodIn_of _ (by decide +kernel)) ggX3_served_X3_mostCoin
set_option maxRecDepth 20000 in
theorem ggX3_served_X3_firstWay : GoodIn wsX3_served wsX3_firstWay := goodIn_r _ [26, 6, 15, 16, 4, 17, 18, 19, 20, 21, 22, 27, 28] (by decide +kernel) (by decide +kernel)
set_option maxRecDepth 20000 in
theorem gX3_served_X3_firstWay : GoodIn wsX3_served (wsV RX3 42 RX3 yX3_firstWay wsX3_firstWay) := goodIn_app (goodIn_of _ (by decide +kernel)) ggX3_served_X3_firstWay
theorem dX3_served_0 : decode cX3_served 0 = .ok (.aload_n 0, 1) := by decide +kernel
theorem dX3_served_1 : decode cX3_served 1 = .ok (.invokevirtual 38, 3) := by decide +kernel
theorem dX3_served_4 : decode cX3_served 4 = .ok (.pop, 1) := by decide +kernel
theorem dX3_served_5 : decode cX3_served 5 = .ok (.iconst 0, 1) := by decide +kernel
theorem dX3_served_6 : decode cX3_served 6 = .ok (.istore_n 2, 1) := by decide +kernel
theorem dX3_served_7 : decode cX3_served 7 = .ok (.iconst 0, 1) := by decide +kernel
theorem dX3_served_8 : decode cX3_served 8 = .ok (.istore_n 3, 1) := by decide +kernel
theorem dX3_served_9 : decode cX3_served 9 = .ok (.iload_n 3, 1) := by decide +kernel
theorem dX3_served_10 : decode cX3_served 10 = .ok (.iload_n 1, 1) := by decide +kernel
theorem dX3_served_11 : decode cX3_served 11 = .ok (.if_icmp .gt 22, 3) := by decide +kernel
theorem dX3_served_14 : decode cX3_served 14 = .ok (.iload_n 3, 1) := by decide +kernel
theorem dX3_served_15 : decode cX3_served 15 = .ok (.bipush 12, 2) := by decide +kernel
theorem dX3_served_17 : decode cX3_served 17 = .ok (.if_icmp .ge 16, 3) := by decide +kernel
theorem dX3_served_20 : decode cX3_served 20 = .ok (.aload_n 0, 1) := by decide +kernel
theorem dX3_served_21 : decode cX3_served 21 = .ok (.iload_n 3, 1) := by decide +kernel
theorem dX3_served_22 : decode cX3_served 22 = .ok (.iload_n 2, 1) := by decide +kernel
theorem dX3_served_23 : decode cX3_served 23 = .ok (.invokevirtual 42, 3) := by decide +kernel
theorem dX3_served_26 : decode cX3_served 26 = .ok (.istore_n 2, 1) := by decide +kernel
theorem dX3_served_27 : decode cX3_served 27 = .ok (.iinc 3 1, 3) := by decide +kernel
theorem dX3_served_30 : decode cX3_served 30 = .ok (.goto (-21), 3) := by decide +kernel
theorem dX3_served_33 : decode cX3_served 33 = .ok (.iload_n 2, 1) := by decide +kernel
theorem dX3_served_34 : decode cX3_served 34 = .ok (.ireturn, 1) := by decide +kernel
set_option maxRecDepth 20000 in
theorem ggX3_firstWay_X3_mayFollow : GoodIn wsX3_firstWay wsX3_mayFollow := goodIn_r _ [5] (by decide +kernel) (by decide +kernel)
set_option maxRecDepth 20000 in
theorem gX3_firstWay_X3_mayFollow : GoodIn wsX3_firstWay (va_wsS RX3 26 yX3_mayFollow wsX3_mayFollow) := goodIn_app (goodIn_of _ (by decide +kernel)) ggX3_firstWay_X3_mayFollow
set_option maxRecDepth 20000 in
theorem ggX3_firstWay_X3_through : GoodIn wsX3_firstWay wsX3_through := goodIn_r _ [9, 10, 1, 11, 12] (by decide +kernel) (by decide +kernel)
set_option maxRecDepth 20000 in
theorem gX3_firstWay_X3_through : GoodIn wsX3_firstWay (wsV RX3 30 RX3 yX3_through wsX3_through) := goodIn_app (goodIn_of _ (by decide +kernel)) ggX3_firstWay_X3_through
theorem dX3_firstWay_0 : decode cX3_firstWay 0 = .ok (.iconst 0, 1) := by decide +kernel
theorem dX3_firstWay_1 : decode cX3_firstWay 1 = .ok (.istore_n 3, 1) := by decide +kernel
theorem dX3_firstWay_2 : decode cX3_firstWay 2 = .ok (.iload_n 3, 1) := by decide +kernel
theorem dX3_firstWay_3 : decode cX3_firstWay 3 = .ok (.iconst 3, 1) := by decide +kernel
theorem dX3_firstWay_4 : decode cX3_firstWay 4 = .ok (.if_icmp .ge 38, 3) := by decide +kernel
theorem dX3_firstWay_7 : decode cX3_firstWay 7 = .ok (.iload_n 2, 1) := by decide +kernel
theorem dX3_firstWay_8 : decode cX3_firstWay 8 = .ok (.iload_n 3, 1) := by decide +kernel
theorem dX3_firstWay_9 : decode cX3_firstWay 9 = .ok (.invokestatic 26, 3) := by decide +kernel
theorem dX3_firstWay_12 : decode cX3_firstWay 12 = .ok (.ifCond .eq 24, 3) := by decide +kernel
theorem dX3_firstWay_15 : decode cX3_firstWay 15 = .ok (.aload_n 0, 1) := by decide +kernel
theorem dX3_firstWay_16 : decode cX3_firstWay 16 = .ok (.iload_n 1, 1) := by decide +kernel
theorem dX3_firstWay_17 : decode cX3_firstWay 17 = .ok (.iload_n 3, 1) := by decide +kernel
theorem dX3_firstWay_18 : decode cX3_firstWay 18 = .ok (.invokevirtual 30, 3) := by decide +kernel
theorem dX3_firstWay_21 : decode cX3_firstWay 21 = .ok (.aload_n 0, 1) := by decide +kernel
theorem dX3_firstWay_22 : decode cX3_firstWay 22 = .ok (.getfield 13, 3) := by decide +kernel
theorem dX3_firstWay_25 : decode cX3_firstWay 25 = .ok (.iload_n 1, 1) := by decide +kernel
theorem dX3_firstWay_26 : decode cX3_firstWay 26 = .ok (.iconst 3, 1) := by decide +kernel
theorem dX3_firstWay_27 : decode cX3_firstWay 27 = .ok (.imul, 1) := by decide +kernel
theorem dX3_firstWay_28 : decode cX3_firstWay 28 = .ok (.iload_n 2, 1) := by decide +kernel
theorem dX3_firstWay_29 : decode cX3_firstWay 29 = .ok (.iadd, 1) := by decide +kernel
theorem dX3_firstWay_30 : decode cX3_firstWay 30 = .ok (.iaload, 1) := by decide +kernel
theorem dX3_firstWay_31 : decode cX3_firstWay 31 = .ok (.if_icmp .ne 5, 3) := by decide +kernel
theorem dX3_firstWay_34 : decode cX3_firstWay 34 = .ok (.iload_n 3, 1) := by decide +kernel
theorem dX3_firstWay_35 : decode cX3_firstWay 35 = .ok (.ireturn, 1) := by decide +kernel
theorem dX3_firstWay_36 : decode cX3_firstWay 36 = .ok (.iinc 3 1, 3) := by decide +kernel
theorem dX3_firstWay_39 : decode cX3_firstWay 39 = .ok (.goto (-37), 3) := by decide +kernel
theorem dX3_firstWay_42 : decode cX3_firstWay 42 = .ok (.iconst 0, 1) := by decide +kernel
theorem dX3_firstWay_43 : decode cX3_firstWay 43 = .ok (.ireturn, 1) := by decide +kernel
theorem dX3_take_0 : decode cX3_take 0 = .ok (.aload_n 1, 1) := by decide +kernel
theorem dX3_take_1 : decode cX3_take 1 = .ok (.getfield 9, 3) := by decide +kernel
theorem dX3_take_4 : decode cX3_take 4 = .ok (.iconst 0, 1) := by decide +kernel
theorem dX3_take_5 : decode cX3_take 5 = .ok (.aload_n 0, 1) := by decide +kernel
theorem dX3_take_6 : decode cX3_take 6 = .ok (.getfield 9, 3) := by decide +kernel
theorem dX3_take_9 : decode cX3_take 9 = .ok (.iconst 0, 1) := by decide +kernel
theorem dX3_take_10 : decode cX3_take 10 = .ok (.aload_n 0, 1) := by decide +kernel
theorem dX3_take_11 : decode cX3_take 11 = .ok (.getfield 9, 3) := by decide +kernel
theorem dX3_take_14 : decode cX3_take 14 = .ok (.arraylength, 1) := by decide +kernel
theorem dX3_take_15 : decode cX3_take 15 = .ok (.invokestatic 45, 3) := by decide +kernel
theorem dX3_take_18 : decode cX3_take 18 = .ok (.return_, 1) := by decide +kernel
theorem dX4_init_0 : decode cX4_init 0 = .ok (.aload_n 0, 1) := by decide +kernel
theorem dX4_init_1 : decode cX4_init 1 = .ok (.invokespecial 3, 3) := by decide +kernel
theorem dX4_init_4 : decode cX4_init 4 = .ok (.aload_n 0, 1) := by decide +kernel
theorem dX4_init_5 : decode cX4_init 5 = .ok (.bipush 24, 2) := by decide +kernel
theorem dX4_init_7 : decode cX4_init 7 = .ok (.newarray .int, 2) := by decide +kernel
theorem dX4_init_9 : decode cX4_init 9 = .ok (.putfield 9, 3) := by decide +kernel
theorem dX4_init_12 : decode cX4_init 12 = .ok (.aload_n 0, 1) := by decide +kernel
theorem dX4_init_13 : decode cX4_init 13 = .ok (.bipush 6, 2) := by decide +kernel
theorem dX4_init_15 : decode cX4_init 15 = .ok (.newarray .int, 2) := by decide +kernel
theorem dX4_init_17 : decode cX4_init 17 = .ok (.putfield 15, 3) := by decide +kernel
theorem dX4_init_20 : decode cX4_init 20 = .ok (.return_, 1) := by decide +kernel
set_option maxRecDepth 20000 in
theorem ggX4_begin_J7_fill_53178 : GoodIn wsX4_begin wsJ7_fill_53178 := goodIn_r _ [9] (by decide +kernel) (by decide +kernel)
set_option maxRecDepth 20000 in
theorem gX4_begin_J7_fill_53178 : GoodIn wsX4_begin (va_wsS RX4 22 yJ7_fill_53178 wsJ7_fill_53178) := goodIn_app (goodIn_of _ (by decide +kernel)) ggX4_begin_J7_fill_53178
theorem dX4_begin_0 : decode cX4_begin 0 = .ok (.aload_n 0, 1) := by decide +kernel
theorem dX4_begin_1 : decode cX4_begin 1 = .ok (.iconst 0, 1) := by decide +kernel
theorem dX4_begin_2 : decode cX4_begin 2 = .ok (.putfield 18, 3) := by decide +kernel
theorem dX4_begin_5 : decode cX4_begin 5 = .ok (.aload_n 0, 1) := by decide +kernel
theorem dX4_begin_6 : decode cX4_begin 6 = .ok (.getfield 9, 3) := by decide +kernel
theorem dX4_begin_9 : decode cX4_begin 9 = .ok (.iconst 0, 1) := by decide +kernel
theorem dX4_begin_10 : decode cX4_begin 10 = .ok (.invokestatic 22, 3) := by decide +kernel
theorem dX4_begin_13 : decode cX4_begin 13 = .ok (.aload_n 0, 1) := by decide +kernel
theorem dX4_begin_14 : decode cX4_begin 14 = .ok (.getfield 9, 3) := by decide +kernel
theorem dX4_begin_17 : decode cX4_begin 17 = .ok (.iconst 0, 1) := by decide +kernel
theorem dX4_begin_18 : decode cX4_begin 18 = .ok (.aload_n 1, 1) := by decide +kernel
theorem dX4_begin_19 : decode cX4_begin 19 = .ok (.getfield 28, 3) := by decide +kernel
theorem dX4_begin_22 : decode cX4_begin 22 = .ok (.iconst 3, 1) := by decide +kernel
theorem dX4_begin_23 : decode cX4_begin 23 = .ok (.iaload, 1) := by decide +kernel
theorem dX4_begin_24 : decode cX4_begin 24 = .ok (.iastore, 1) := by decide +kernel
theorem dX4_begin_25 : decode cX4_begin 25 = .ok (.aload_n 0, 1) := by decide +kernel
theorem dX4_begin_26 : decode cX4_begin 26 = .ok (.getfield 9, 3) := by decide +kernel
theorem dX4_begin_29 : decode cX4_begin 29 = .ok (.iconst 3, 1) := by decide +kernel
theorem dX4_begin_30 : decode cX4_begin 30 = .ok (.aload_n 1, 1) := by decide +kernel
theorem dX4_begin_31 : decode cX4_begin 31 = .ok (.getfield 28, 3) := by decide +kernel
theorem dX4_begin_34 : decode cX4_begin 34 = .ok (.iconst 4, 1) := by decide +kernel
theorem dX4_begin_35 : decode cX4_begin 35 = .ok (.iaload, 1) := by decide +kernel
theorem dX4_begin_36 : decode cX4_begin 36 = .ok (.iastore, 1) := by decide +kernel
theorem dX4_begin_37 : decode cX4_begin 37 = .ok (.aload_n 0, 1) := by decide +kernel
theorem dX4_begin_38 : decode cX4_begin 38 = .ok (.getfield 9, 3) := by decide +kernel
theorem dX4_begin_41 : decode cX4_begin 41 = .ok (.iconst 1, 1) := by decide +kernel
theorem dX4_begin_42 : decode cX4_begin 42 = .ok (.aload_n 1, 1) := by decide +kernel
theorem dX4_begin_43 : decode cX4_begin 43 = .ok (.getfield 28, 3) := by decide +kernel
theorem dX4_begin_46 : decode cX4_begin 46 = .ok (.bipush 6, 2) := by decide +kernel
theorem dX4_begin_48 : decode cX4_begin 48 = .ok (.iaload, 1) := by decide +kernel
theorem dX4_begin_49 : decode cX4_begin 49 = .ok (.iastore, 1) := by decide +kernel
theorem dX4_begin_50 : decode cX4_begin 50 = .ok (.aload_n 0, 1) := by decide +kernel
theorem dX4_begin_51 : decode cX4_begin 51 = .ok (.getfield 9, 3) := by decide +kernel
theorem dX4_begin_54 : decode cX4_begin 54 = .ok (.iconst 4, 1) := by decide +kernel
theorem dX4_begin_55 : decode cX4_begin 55 = .ok (.aload_n 1, 1) := by decide +kernel
theorem dX4_begin_56 : decode cX4_begin 56 = .ok (.getfield 28, 3) := by decide +kernel
theorem dX4_begin_59 : decode cX4_begin 59 = .ok (.bipush 7, 2) := by decide +kernel
theorem dX4_begin_61 : decode cX4_begin 61 = .ok (.iaload, 1) := by decide +kernel
theorem dX4_begin_62 : decode cX4_begin 62 = .ok (.iastore, 1) := by decide +kernel
theorem dX4_begin_63 : decode cX4_begin 63 = .ok (.aload_n 0, 1) := by decide +kernel
theorem dX4_begin_64 : decode cX4_begin 64 = .ok (.getfield 9, 3) := by decide +kernel
theorem dX4_begin_67 : decode cX4_begin 67 = .ok (.iconst 2, 1) := by decide +kernel
theorem dX4_begin_68 : decode cX4_begin 68 = .ok (.aload_n 1, 1) := by decide +kernel
theorem dX4_begin_69 : decode cX4_begin 69 = .ok (.getfield 28, 3) := by decide +kernel
theorem dX4_begin_72 : decode cX4_begin 72 = .ok (.bipush 9, 2) := by decide +kernel
theorem dX4_begin_74 : decode cX4_begin 74 = .ok (.iaload, 1) := by decide +kernel
theorem dX4_begin_75 : decode cX4_begin 75 = .ok (.iastore, 1) := by decide +kernel
theorem dX4_begin_76 : decode cX4_begin 76 = .ok (.aload_n 0, 1) := by decide +kernel
theorem dX4_begin_77 : decode cX4_begin 77 = .ok (.getfield 9, 3) := by decide +kernel
theorem dX4_begin_80 : decode cX4_begin 80 = .ok (.iconst 5, 1) := by decide +kernel
theorem dX4_begin_81 : decode cX4_begin 81 = .ok (.aload_n 1, 1) := by decide +kernel
theorem dX4_begin_82 : decode cX4_begin 82 = .ok (.getfield 28, 3) := by decide +kernel
theorem dX4_begin_85 : decode cX4_begin 85 = .ok (.bipush 12, 2) := by decide +kernel
theorem dX4_begin_87 : decode cX4_begin 87 = .ok (.iaload, 1) := by decide +kernel
theorem dX4_begin_88 : decode cX4_begin 88 = .ok (.iastore, 1) := by decide +kernel
theorem dX4_begin_89 : decode cX4_begin 89 = .ok (.aload_n 0, 1) := by decide +kernel
theorem dX4_begin_90 : decode cX4_begin 90 = .ok (.getfield 9, 3) := by decide +kernel
theorem dX4_begin_93 : decode cX4_begin 93 = .ok (.bipush 10, 2) := by decide +kernel
theorem dX4_begin_95 : decode cX4_begin 95 = .ok (.iconst (-1), 1) := by decide +kernel
theorem dX4_begin_96 : decode cX4_begin 96 = .ok (.iastore, 1) := by decide +kernel
theorem dX4_begin_97 : decode cX4_begin 97 = .ok (.iconst 0, 1) := by decide +kernel
theorem dX4_begin_98 : decode cX4_begin 98 = .ok (.istore_n 2, 1) := by decide +kernel
theorem dX4_begin_99 : decode cX4_begin 99 = .ok (.iload_n 2, 1) := by decide +kernel
theorem dX4_begin_100 : decode cX4_begin 100 = .ok (.aload_n 1, 1) := by decide +kernel
theorem dX4_begin_101 : decode cX4_begin 101 = .ok (.getfield 33, 3) := by decide +kernel
theorem dX4_begin_104 : decode cX4_begin 104 = .ok (.if_icmp .ge 24, 3) := by decide +kernel
theorem dX4_begin_107 : decode cX4_begin 107 = .ok (.aload_n 0, 1) := by decide +kernel
theorem dX4_begin_108 : decode cX4_begin 108 = .ok (.getfield 9, 3) := by decide +kernel
theorem dX4_begin_111 : decode cX4_begin 111 = .ok (.bipush 12, 2) := by decide +kernel
theorem dX4_begin_113 : decode cX4_begin 113 = .ok (.iload_n 2, 1) := by decide +kernel
theorem dX4_begin_114 : decode cX4_begin 114 = .ok (.iadd, 1) := by decide +kernel
theorem dX4_begin_115 : decode cX4_begin 115 = .ok (.aload_n 1, 1) := by decide +kernel
theorem dX4_begin_116 : decode cX4_begin 116 = .ok (.getfield 36, 3) := by decide +kernel
theorem dX4_begin_119 : decode cX4_begin 119 = .ok (.iload_n 2, 1) := by decide +kernel
theorem dX4_begin_120 : decode cX4_begin 120 = .ok (.iaload, 1) := by decide +kernel
theorem dX4_begin_121 : decode cX4_begin 121 = .ok (.iastore, 1) := by decide +kernel
theorem dX4_begin_122 : decode cX4_begin 122 = .ok (.iinc 2 1, 3) := by decide +kernel
theorem dX4_begin_125 : decode cX4_begin 125 = .ok (.goto (-26), 3) := by decide +kernel
theorem dX4_begin_128 : decode cX4_begin 128 = .ok (.return_, 1) := by decide +kernel
theorem dX4_take_0 : decode cX4_take 0 = .ok (.aload_n 1, 1) := by decide +kernel
theorem dX4_take_1 : decode cX4_take 1 = .ok (.getfield 9, 3) := by decide +kernel
theorem dX4_take_4 : decode cX4_take 4 = .ok (.iconst 0, 1) := by decide +kernel
theorem dX4_take_5 : decode cX4_take 5 = .ok (.aload_n 0, 1) := by decide +kernel
theorem dX4_take_6 : decode cX4_take 6 = .ok (.getfield 9, 3) := by decide +kernel
theorem dX4_take_9 : decode cX4_take 9 = .ok (.iconst 0, 1) := by decide +kernel
theorem dX4_take_10 : decode cX4_take 10 = .ok (.bipush 24, 2) := by decide +kernel
theorem dX4_take_12 : decode cX4_take 12 = .ok (.invokestatic 39, 3) := by decide +kernel
theorem dX4_take_15 : decode cX4_take 15 = .ok (.aload_n 0, 1) := by decide +kernel
theorem dX4_take_16 : decode cX4_take 16 = .ok (.aload_n 1, 1) := by decide +kernel
theorem dX4_take_17 : decode cX4_take 17 = .ok (.getfield 18, 3) := by decide +kernel
theorem dX4_take_20 : decode cX4_take 20 = .ok (.putfield 18, 3) := by decide +kernel
theorem dX4_take_23 : decode cX4_take 23 = .ok (.return_, 1) := by decide +kernel
theorem dX4_pledge_0 : decode cX4_pledge 0 = .ok (.aload_n 0, 1) := by decide +kernel
theorem dX4_pledge_1 : decode cX4_pledge 1 = .ok (.getfield 9, 3) := by decide +kernel
theorem dX4_pledge_4 : decode cX4_pledge 4 = .ok (.bipush 10, 2) := by decide +kernel
theorem dX4_pledge_6 : decode cX4_pledge 6 = .ok (.iload_n 1, 1) := by decide +kernel
theorem dX4_pledge_7 : decode cX4_pledge 7 = .ok (.iastore, 1) := by decide +kernel
theorem dX4_pledge_8 : decode cX4_pledge 8 = .ok (.aload_n 0, 1) := by decide +kernel
theorem dX4_pledge_9 : decode cX4_pledge 9 = .ok (.getfield 9, 3) := by decide +kernel
theorem dX4_pledge_12 : decode cX4_pledge 12 = .ok (.bipush 11, 2) := by decide +kernel
theorem dX4_pledge_14 : decode cX4_pledge 14 = .ok (.aload_n 0, 1) := by decide +kernel
theorem dX4_pledge_15 : decode cX4_pledge 15 = .ok (.getfield 18, 3) := by decide +kernel
theorem dX4_pledge_18 : decode cX4_pledge 18 = .ok (.iastore, 1) := by decide +kernel
theorem dX4_pledge_19 : decode cX4_pledge 19 = .ok (.return_, 1) := by decide +kernel
set_option maxRecDepth 20000 in
theorem ggX4_pass_J7_fill_53178 : GoodIn wsX4_pass wsJ7_fill_53178 := goodIn_r _ [13] (by decide +kernel) (by decide +kernel)
set_option maxRecDepth 20000 in
theorem gX4_pass_J7_fill_53178 : GoodIn wsX4_pass (va_wsS RX4 22 yJ7_fill_53178 wsJ7_fill_53178) := goodIn_app (goodIn_of _ (by decide +kernel)) ggX4_pass_J7_fill_53178
set_option maxRecDepth 20000 in
theorem ggX4_pass_X4_move : GoodIn wsX4_pass wsX4_move := goodIn_r _ [18, 2, 19, 20, 7, 21, 80, 81, 82] (by decide +kernel) (by decide +kernel)
set_option maxRecDepth 20000 in
theorem gX4_pass_X4_move : GoodIn wsX4_pass (wsV RX4 45 RX4 yX4_move wsX4_move) := goodIn_app (goodIn_of _ (by decide +kernel)) ggX4_pass_X4_move
set_option maxRecDepth 20000 in
theorem ggX4_pass_X4_isPaid : GoodIn wsX4_pass wsX4_isPaid := goodIn_r _ [25, 9, 2, 26, 27, 28, 29, 30, 31, 32, 33, 34, 35, 14, 15, 16, 17, 18, 19, 20, 7, 21, 80, 81, 82, 88, 89, 90] (by decide +kernel) (by decide +kernel)
set_option maxRecDepth 20000 in
theorem gX4_pass_X4_isPaid : GoodIn wsX4_pass (wsV RX4 49 RX4 yX4_isPaid wsX4_isPaid) := goodIn_app (goodIn_of _ (by decide +kernel)) ggX4_pass_X4_isPaid
set_option maxRecDepth 20000 in
theorem ggX4_pass_X4_shoot : GoodIn wsX4_pass wsX4_shoot := goodIn_r _ [39, 9, 2, 40, 4, 1, 41, 42, 43, 29, 44, 45, 46, 47, 48, 49, 50, 51, 17, 52, 53, 54, 55, 56, 57, 3, 58, 59, 60, 61, 19, 20, 7, 21, 14, 15, 16, 18, 80, 81, 82, 83, 84, 85, 86, 87, 88, 89, 90] (by decide +kernel) (by decide +kernel)
set_option maxRecDepth 20000 in
theorem gX4_pass_X4_shoot : GoodIn wsX4_pass (wsV RX4 53 RX4 yX4_shoot wsX4_shoot) := goodIn_app (goodIn_of _ (by decide +kernel)) ggX4_pass_X4_shoot
set_option maxRecDepth 20000 in
theorem ggX4_pass_X6_fearAt : GoodIn wsX4_pass wsX6_fearAt := goodIn_r _ [66, 67, 46, 47, 48, 83, 84, 85, 86, 87] (by decide +kernel) (by decide +kernel)
set_option maxRecDepth 20000 in
theorem gX4_pass_X6_fearAt : GoodIn wsX4_pass (wsV RX4 60 RX6 yX6_fearAt wsX6_fearAt) := goodIn_app (goodIn_of _ (by decide +kernel)) ggX4_pass_X6_fearAt
set_option maxRecDepth 20000 in
theorem ggX4_pass_X4_frighten : GoodIn wsX4_pass wsX4_frighten := goodIn_r _ [61, 2, 19, 20, 7, 21, 80, 81, 82] (by decide +kernel) (by decide +kernel)
set_option maxRecDepth 20000 in
theorem gX4_pass_X4_frighten : GoodIn wsX4_pass (wsV RX4 64 RX4 yX4_frighten wsX4_frighten) := goodIn_app (goodIn_of _ (by decide +kernel)) ggX4_pass_X4_frighten
set_option maxRecDepth 20000 in
theorem ggX4_pass_X4_mend : GoodIn wsX4_pass wsX4_mend := goodIn_r _ [71, 3, 40, 72, 57, 2, 19, 20, 7, 21, 14, 15, 16, 17, 18, 83, 84, 85, 86, 87, 80, 81, 82] (by decide +kernel) (by decide +kernel)
set_option maxRecDepth 20000 in
theorem gX4_pass_X4_mend : GoodIn wsX4_pass (wsV RX4 74 RX4 yX4_mend wsX4_mend) := goodIn_app (goodIn_of _ (by decide +kernel)) ggX4_pass_X4_mend
set_option maxRecDepth 20000 in
theorem ggX4_pass_X4_desert : GoodIn wsX4_pass wsX4_desert := goodIn_r _ [76, 2, 77, 78, 7, 79, 80, 81, 82] (by decide +kernel) (by decide +kernel)
set_option maxRecDepth 20000 in
theorem gX4_pass_X4_desert : GoodIn wsX4_pass (wsV RX4 78 RX4 yX4_desert wsX4_desert) := goodIn_app (goodIn_of _ (by decide +kernel)) ggX4_pass_X4_desert
theorem dX4_pass_0 : decode cX4_pass 0 = .ok (.aload_n 0, 1) := by decide +kernel
theorem dX4_pass_1 : decode cX4_pass 1 = .ok (.getfield 15, 3) := by decide +kernel
theorem dX4_pass_4 : decode cX4_pass 4 = .ok (.iconst 0, 1) := by decide +kernel
theorem dX4_pass_5 : decode cX4_pass 5 = .ok (.invokestatic 22, 3) := by decide +kernel
theorem dX4_pass_8 : decode cX4_pass 8 = .ok (.aload_n 0, 1) := by decide +kernel
theorem dX4_pass_9 : decode cX4_pass 9 = .ok (.iconst 2, 1) := by decide +kernel
theorem dX4_pass_10 : decode cX4_pass 10 = .ok (.iconst 0, 1) := by decide +kernel
theorem dX4_pass_11 : decode cX4_pass 11 = .ok (.aload_n 0, 1) := by decide +kernel
theorem dX4_pass_12 : decode cX4_pass 12 = .ok (.getfield 9, 3) := by decide +kernel
theorem dX4_pass_15 : decode cX4_pass 15 = .ok (.iconst 3, 1) := by decide +kernel
theorem dX4_pass_16 : decode cX4_pass 16 = .ok (.iaload, 1) := by decide +kernel
theorem dX4_pass_17 : decode cX4_pass 17 = .ok (.aload_n 1, 1) := by decide +kernel
theorem dX4_pass_18 : decode cX4_pass 18 = .ok (.getfield 28, 3) := by decide +kernel
theorem dX4_pass_21 : decode cX4_pass 21 = .ok (.bipush 10, 2) := by decide +kernel
theorem dX4_pass_23 : decode cX4_pass 23 = .ok (.iaload, 1) := by decide +kernel
theorem dX4_pass_24 : decode cX4_pass 24 = .ok (.imul, 1) := by decide +kernel
theorem dX4_pass_25 : decode cX4_pass 25 = .ok (.aload_n 0, 1) := by decide +kernel
theorem dX4_pass_26 : decode cX4_pass 26 = .ok (.getfield 9, 3) := by decide +kernel
theorem dX4_pass_29 : decode cX4_pass 29 = .ok (.iconst 5, 1) := by decide +kernel
theorem dX4_pass_30 : decode cX4_pass 30 = .ok (.iaload, 1) := by decide +kernel
theorem dX4_pass_31 : decode cX4_pass 31 = .ok (.imul, 1) := by decide +kernel
theorem dX4_pass_32 : decode cX4_pass 32 = .ok (.sipush 10000, 3) := by decide +kernel
theorem dX4_pass_35 : decode cX4_pass 35 = .ok (.idiv, 1) := by decide +kernel
theorem dX4_pass_36 : decode cX4_pass 36 = .ok (.invokevirtual 45, 3) := by decide +kernel
theorem dX4_pass_39 : decode cX4_pass 39 = .ok (.aload_n 2, 1) := by decide +kernel
theorem dX4_pass_40 : decode cX4_pass 40 = .ok (.ifnull 31, 3) := by decide +kernel
theorem dX4_pass_43 : decode cX4_pass 43 = .ok (.aload_n 0, 1) := by decide +kernel
theorem dX4_pass_44 : decode cX4_pass 44 = .ok (.aload_n 2, 1) := by decide +kernel
theorem dX4_pass_45 : decode cX4_pass 45 = .ok (.invokevirtual 49, 3) := by decide +kernel
theorem dX4_pass_48 : decode cX4_pass 48 = .ok (.ifCond .eq 23, 3) := by decide +kernel
theorem dX4_pass_51 : decode cX4_pass 51 = .ok (.aload_n 0, 1) := by decide +kernel
theorem dX4_pass_52 : decode cX4_pass 52 = .ok (.aload_n 1, 1) := by decide +kernel
theorem dX4_pass_53 : decode cX4_pass 53 = .ok (.aload_n 2, 1) := by decide +kernel
theorem dX4_pass_54 : decode cX4_pass 54 = .ok (.invokevirtual 53, 3) := by decide +kernel
theorem dX4_pass_57 : decode cX4_pass 57 = .ok (.aload_n 0, 1) := by decide +kernel
theorem dX4_pass_58 : decode cX4_pass 58 = .ok (.aload_n 1, 1) := by decide +kernel
theorem dX4_pass_59 : decode cX4_pass 59 = .ok (.aload_n 2, 1) := by decide +kernel
theorem dX4_pass_60 : decode cX4_pass 60 = .ok (.getfield 57, 3) := by decide +kernel
theorem dX4_pass_63 : decode cX4_pass 63 = .ok (.iconst 2, 1) := by decide +kernel
theorem dX4_pass_64 : decode cX4_pass 64 = .ok (.iaload, 1) := by decide +kernel
theorem dX4_pass_65 : decode cX4_pass 65 = .ok (.invokevirtual 60, 3) := by decide +kernel
theorem dX4_pass_68 : decode cX4_pass 68 = .ok (.invokevirtual 64, 3) := by decide +kernel
theorem dX4_pass_71 : decode cX4_pass 71 = .ok (.aload_n 0, 1) := by decide +kernel
theorem dX4_pass_72 : decode cX4_pass 72 = .ok (.getfield 9, 3) := by decide +kernel
theorem dX4_pass_75 : decode cX4_pass 75 = .ok (.iconst 5, 1) := by decide +kernel
theorem dX4_pass_76 : decode cX4_pass 76 = .ok (.iconst 0, 1) := by decide +kernel
theorem dX4_pass_77 : decode cX4_pass 77 = .ok (.aload_n 0, 1) := by decide +kernel
theorem dX4_pass_78 : decode cX4_pass 78 = .ok (.getfield 9, 3) := by decide +kernel
theorem dX4_pass_81 : decode cX4_pass 81 = .ok (.iconst 5, 1) := by decide +kernel
theorem dX4_pass_82 : decode cX4_pass 82 = .ok (.iaload, 1) := by decide +kernel
theorem dX4_pass_83 : decode cX4_pass 83 = .ok (.aload_n 1, 1) := by decide +kernel
theorem dX4_pass_84 : decode cX4_pass 84 = .ok (.getfield 28, 3) := by decide +kernel
theorem dX4_pass_87 : decode cX4_pass 87 = .ok (.bipush 14, 2) := by decide +kernel
theorem dX4_pass_89 : decode cX4_pass 89 = .ok (.iaload, 1) := by decide +kernel
theorem dX4_pass_90 : decode cX4_pass 90 = .ok (.isub, 1) := by decide +kernel
theorem dX4_pass_91 : decode cX4_pass 91 = .ok (.invokestatic 68, 3) := by decide +kernel
theorem dX4_pass_94 : decode cX4_pass 94 = .ok (.iastore, 1) := by decide +kernel
theorem dX4_pass_95 : decode cX4_pass 95 = .ok (.aload_n 0, 1) := by decide +kernel
theorem dX4_pass_96 : decode cX4_pass 96 = .ok (.aload_n 1, 1) := by decide +kernel
theorem dX4_pass_97 : decode cX4_pass 97 = .ok (.invokevirtual 74, 3) := by decide +kernel
theorem dX4_pass_100 : decode cX4_pass 100 = .ok (.aload_n 0, 1) := by decide +kernel
theorem dX4_pass_101 : decode cX4_pass 101 = .ok (.iconst 0, 1) := by decide +kernel
theorem dX4_pass_102 : decode cX4_pass 102 = .ok (.iconst 2, 1) := by decide +kernel
theorem dX4_pass_103 : decode cX4_pass 103 = .ok (.aload_n 1, 1) := by decide +kernel
theorem dX4_pass_104 : decode cX4_pass 104 = .ok (.getfield 28, 3) := by decide +kernel
theorem dX4_pass_107 : decode cX4_pass 107 = .ok (.iconst 5, 1) := by decide +kernel
theorem dX4_pass_108 : decode cX4_pass 108 = .ok (.iaload, 1) := by decide +kernel
theorem dX4_pass_109 : decode cX4_pass 109 = .ok (.aload_n 0, 1) := by decide +kernel
theorem dX4_pass_110 : decode cX4_pass 110 = .ok (.getfield 9, 3) := by decide +kernel
theorem dX4_pass_113 : decode cX4_pass 113 = .ok (.iconst 3, 1) := by decide +kernel
theorem dX4_pass_114 : decode cX4_pass 114 = .ok (.iaload, 1) := by decide +kernel
theorem dX4_pass_115 : decode cX4_pass 115 = .ok (.bipush 10, 2) := by decide +kernel
theorem dX4_pass_117 : decode cX4_pass 117 = .ok (.idiv, 1) := by decide +kernel
theorem dX4_pass_118 : decode cX4_pass 118 = .ok (.imul, 1) := by decide +kernel
theorem dX4_pass_119 : decode cX4_pass 119 = .ok (.invokevirtual 45, 3) := by decide +kernel
theorem dX4_pass_122 : decode cX4_pass 122 = .ok (.aload_n 0, 1) := by decide +kernel
theorem dX4_pass_123 : decode cX4_pass 123 = .ok (.iconst 1, 1) := by decide +kernel
theorem dX4_pass_124 : decode cX4_pass 124 = .ok (.iconst 2, 1) := by decide +kernel
theorem dX4_pass_125 : decode cX4_pass 125 = .ok (.aload_n 1, 1) := by decide +kernel
theorem dX4_pass_126 : decode cX4_pass 126 = .ok (.getfield 28, 3) := by decide +kernel
theorem dX4_pass_129 : decode cX4_pass 129 = .ok (.bipush 8, 2) := by decide +kernel
theorem dX4_pass_131 : decode cX4_pass 131 = .ok (.iaload, 1) := by decide +kernel
theorem dX4_pass_132 : decode cX4_pass 132 = .ok (.aload_n 0, 1) := by decide +kernel
theorem dX4_pass_133 : decode cX4_pass 133 = .ok (.getfield 9, 3) := by decide +kernel
theorem dX4_pass_136 : decode cX4_pass 136 = .ok (.iconst 4, 1) := by decide +kernel
theorem dX4_pass_137 : decode cX4_pass 137 = .ok (.iaload, 1) := by decide +kernel
theorem dX4_pass_138 : decode cX4_pass 138 = .ok (.bipush 10, 2) := by decide +kernel
theorem dX4_pass_140 : decode cX4_pass 140 = .ok (.idiv, 1) := by decide +kernel
theorem dX4_pass_141 : decode cX4_pass 141 = .ok (.imul, 1) := by decide +kernel
theorem dX4_pass_142 : decode cX4_pass 142 = .ok (.invokevirtual 45, 3) := by decide +kernel
theorem dX4_pass_145 : decode cX4_pass 145 = .ok (.aload_n 0, 1) := by decide +kernel
theorem dX4_pass_146 : decode cX4_pass 146 = .ok (.aload_n 1, 1) := by decide +kernel
theorem dX4_pass_147 : decode cX4_pass 147 = .ok (.getfield 28, 3) := by decide +kernel
theorem dX4_pass_150 : decode cX4_pass 150 = .ok (.bipush 8, 2) := by decide +kernel
theorem dX4_pass_152 : decode cX4_pass 152 = .ok (.iaload, 1) := by decide +kernel
theorem dX4_pass_153 : decode cX4_pass 153 = .ok (.aload_n 1, 1) := by decide +kernel
theorem dX4_pass_154 : decode cX4_pass 154 = .ok (.getfield 28, 3) := by decide +kernel
theorem dX4_pass_157 : decode cX4_pass 157 = .ok (.iconst 5, 1) := by decide +kernel
theorem dX4_pass_158 : decode cX4_pass 158 = .ok (.iaload, 1) := by decide +kernel
theorem dX4_pass_159 : decode cX4_pass 159 = .ok (.isub, 1) := by decide +kernel
theorem dX4_pass_160 : decode cX4_pass 160 = .ok (.invokevirtual 78, 3) := by decide +kernel
theorem dX4_pass_163 : decode cX4_pass 163 = .ok (.aload_n 0, 1) := by decide +kernel
theorem dX4_pass_164 : decode cX4_pass 164 = .ok (.dup, 1) := by decide +kernel
theorem dX4_pass_165 : decode cX4_pass 165 = .ok (.getfield 18, 3) := by decide +kernel
theorem dX4_pass_168 : decode cX4_pass 168 = .ok (.iconst 1, 1) := by decide +kernel
theorem dX4_pass_169 : decode cX4_pass 169 = .ok (.iadd, 1) := by decide +kernel
theorem dX4_pass_170 : decode cX4_pass 170 = .ok (.putfield 18, 3) := by decide +kernel
theorem dX4_pass_173 : decode cX4_pass 173 = .ok (.aload_n 2, 1) := by decide +kernel
theorem dX4_pass_174 : decode cX4_pass 174 = .ok (.ifnull 32, 3) := by decide +kernel
theorem dX4_pass_177 : decode cX4_pass 177 = .ok (.aload_n 0, 1) := by decide +kernel
theorem dX4_pass_178 : decode cX4_pass 178 = .ok (.getfield 18, 3) := by decide +kernel
theorem dX4_pass_181 : decode cX4_pass 181 = .ok (.aload_n 0, 1) := by decide +kernel
theorem dX4_pass_182 : decode cX4_pass 182 = .ok (.getfield 9, 3) := by decide +kernel
theorem dX4_pass_185 : decode cX4_pass 185 = .ok (.bipush 11, 2) := by decide +kernel
theorem dX4_pass_187 : decode cX4_pass 187 = .ok (.iaload, 1) := by decide +kernel
theorem dX4_pass_188 : decode cX4_pass 188 = .ok (.isub, 1) := by decide +kernel
theorem dX4_pass_189 : decode cX4_pass 189 = .ok (.aload_n 2, 1) := by decide +kernel
theorem dX4_pass_190 : decode cX4_pass 190 = .ok (.getfield 57, 3) := by decide +kernel
theorem dX4_pass_193 : decode cX4_pass 193 = .ok (.iconst 5, 1) := by decide +kernel
theorem dX4_pass_194 : decode cX4_pass 194 = .ok (.iaload, 1) := by decide +kernel
theorem dX4_pass_195 : decode cX4_pass 195 = .ok (.if_icmp .lt 11, 3) := by decide +kernel
theorem dX4_pass_198 : decode cX4_pass 198 = .ok (.aload_n 0, 1) := by decide +kernel
theorem dX4_pass_199 : decode cX4_pass 199 = .ok (.getfield 9, 3) := by decide +kernel
theorem dX4_pass_202 : decode cX4_pass 202 = .ok (.bipush 10, 2) := by decide +kernel
theorem dX4_pass_204 : decode cX4_pass 204 = .ok (.iconst (-1), 1) := by decide +kernel
theorem dX4_pass_205 : decode cX4_pass 205 = .ok (.iastore, 1) := by decide +kernel
theorem dX4_pass_206 : decode cX4_pass 206 = .ok (.return_, 1) := by decide +kernel
theorem dX4_move_0 : decode cX4_move 0 = .ok (.iload_n 3, 1) := by decide +kernel
theorem dX4_move_1 : decode cX4_move 1 = .ok (.aload_n 0, 1) := by decide +kernel
theorem dX4_move_2 : decode cX4_move 2 = .ok (.getfield 9, 3) := by decide +kernel
theorem dX4_move_5 : decode cX4_move 5 = .ok (.iload_n 1, 1) := by decide +kernel
theorem dX4_move_6 : decode cX4_move 6 = .ok (.iaload, 1) := by decide +kernel
theorem dX4_move_7 : decode cX4_move 7 = .ok (.invokestatic 81, 3) := by decide +kernel
theorem dX4_move_10 : decode cX4_move 10 = .ok (.istore 4, 2) := by decide +kernel
