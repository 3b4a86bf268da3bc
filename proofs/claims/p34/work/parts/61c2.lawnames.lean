section
theorem tp_1244 : (Cond.code yX11_siege cX11_siege 2 (some .int)) ∈ lw_tbl := tbC_in 4 _ (List.mem_of_getElem? (i := 206) rfl)
theorem tbX11_siege : ∀ w ∈ wsX11_siege, w ∈ lw_tbl := tb_cons tp_1244 (tb_app tboX11_siege (tb_app tbn_10 (tb_app tbX11_in (tb_app tbX11_bad (tb_app tbX11_starts (tb_app tbX11_tellsNothing (tb_app tbX11_clause (tb_app tbX11_blanks tbX11_stands0))))))))
theorem tp_719 : (Cond.methodLink RX5 22 yJ7_fill_53178) ∈ lw_tbl := tbC_in 2 _ (List.mem_of_getElem? (i := 161) rfl)
set_option maxRecDepth 20000 in
theorem tboX5_clear : ∀ w ∈ woX5_clear, w ∈ lw_tbl := (tb_cons tp_316 (tb_cons tp_313 (tb_cons tp_315 (tb_cons tp_719 (tb_cons tp_329 (tb_cons tp_90 tb_nil))))))
theorem tp_718 : (Cond.code yX5_clear cX5_clear 2 none) ∈ lw_tbl := tbC_in 2 _ (List.mem_of_getElem? (i := 160) rfl)
theorem tbX5_clear : ∀ w ∈ wsX5_clear, w ∈ lw_tbl := tb_cons tp_718 (tb_app tboX5_clear (tb_app tbn_8 tbJ7_fill_53178))
theorem tp_123 : (Cond.fieldLink RX10 102 "HiredEnemy$Reader" "place" "I") ∈ lw_tbl := tbC_in 0 _ (List.mem_of_getElem? (i := 45) rfl)
theorem tp_715 : (Cond.methodLink RX10 105 yX5_clear) ∈ lw_tbl := tbC_in 2 _ (List.mem_of_getElem? (i := 157) rfl)
theorem tp_716 : (Cond.instanceMethod yX5_clear) ∈ lw_tbl := tbC_in 2 _ (List.mem_of_getElem? (i := 158) rfl)
theorem tp_717 : (Cond.selects RX5 yX5_clear yX5_clear) ∈ lw_tbl := tbC_in 2 _ (List.mem_of_getElem? (i := 159) rfl)
set_option maxRecDepth 20000 in
theorem tboX10_contract : ∀ w ∈ woX10_contract, w ∈ lw_tbl := (tb_cons tp_332 (tb_cons tp_337 (tb_cons tp_333 (tb_cons tp_123 (tb_cons tp_336 (tb_cons tp_334 (tb_cons tp_168 (tb_cons tp_331 (tb_cons tp_459 (tb_cons tp_461 (tb_cons tp_3 (tb_cons tp_79 (tb_cons tp_95 (tb_cons tp_715 (tb_cons tp_716 (tb_cons tp_717 (tb_cons tp_89 (tb_cons tp_90 (tb_cons tp_531 (tb_cons tp_532 (tb_cons tp_533 (tb_cons tp_80 (tb_cons tp_536 (tb_cons tp_96 (tb_cons tp_540 (tb_cons tp_82 (tb_cons tp_561 (tb_cons tp_97 (tb_cons tp_98 (tb_cons tp_99 (tb_cons tp_100 (tb_cons tp_632 (tb_cons tp_641 (tb_cons tp_653 (tb_cons tp_662 (tb_cons tp_682 tb_nil))))))))))))))))))))))))))))))))))))
theorem tp_714 : (Cond.code yX10_contract cX10_contract 4 (some .int)) ∈ lw_tbl := tbC_in 2 _ (List.mem_of_getElem? (i := 156) rfl)
theorem tbX10_contract : ∀ w ∈ wsX10_contract, w ∈ lw_tbl := tb_cons tp_714 (tb_app tboX10_contract (tb_app tbn_9 (tb_app tbn_0 (tb_app tbn_1 (tb_app tbn_8 (tb_app tbX10_demand (tb_app tbX5_clear tbX7_read)))))))
theorem tp_711 : (Cond.methodLink RL 15 yX10_contract) ∈ lw_tbl := tbC_in 2 _ (List.mem_of_getElem? (i := 153) rfl)
theorem tp_712 : (Cond.instanceMethod yX10_contract) ∈ lw_tbl := tbC_in 2 _ (List.mem_of_getElem? (i := 154) rfl)
theorem tp_713 : (Cond.selects RX10 yX10_contract yX10_contract) ∈ lw_tbl := tbC_in 2 _ (List.mem_of_getElem? (i := 155) rfl)
set_option maxRecDepth 20000 in
theorem tboL_contract : ∀ w ∈ woL_contract, w ∈ lw_tbl := (tb_cons tp_454 (tb_cons tp_711 (tb_cons tp_712 (tb_cons tp_713 (tb_cons tp_79 (tb_cons tp_95 (tb_cons tp_89 (tb_cons tp_90 (tb_cons tp_80 (tb_cons tp_536 (tb_cons tp_96 (tb_cons tp_540 (tb_cons tp_82 (tb_cons tp_561 (tb_cons tp_97 (tb_cons tp_98 (tb_cons tp_99 (tb_cons tp_100 (tb_cons tp_632 (tb_cons tp_641 (tb_cons tp_653 (tb_cons tp_662 (tb_cons tp_682 tb_nil)))))))))))))))))))))))
theorem tp_710 : (Cond.codeWith yL_contract cL_contract 4 (some .int) [(0, 9, 12, 13)]) ∈ lw_tbl := tbC_in 2 _ (List.mem_of_getElem? (i := 152) rfl)
theorem tbL_contract : ∀ w ∈ wsL_contract, w ∈ lw_tbl := tb_cons tp_710 (tb_app tboL_contract (tb_app tbn_9 (tb_app tbn_0 (tb_app tbn_1 (tb_app tbn_8 tbX10_contract)))))
set_option maxRecDepth 20000 in
theorem tboX11_rules : ∀ w ∈ woX11_rules, w ∈ lw_tbl := (tb_cons tp_1135 (tb_cons tp_1138 (tb_cons tp_1136 (tb_cons tp_1142 (tb_cons tp_1147 (tb_cons tp_1146 (tb_cons tp_1272 (tb_cons tp_1274 (tb_cons tp_45 (tb_cons tp_91 (tb_cons tp_1283 (tb_cons tp_1285 (tb_cons tp_47 (tb_cons tp_1287 (tb_cons tp_1289 (tb_cons tp_48 (tb_cons tp_1291 (tb_cons tp_1293 (tb_cons tp_49 (tb_cons tp_1299 (tb_cons tp_1301 (tb_cons tp_50 tb_nil))))))))))))))))))))))
theorem tp_1310 : (Cond.code yX11_rules cX11_rules 4 none) ∈ lw_tbl := tbC_in 5 _ (List.mem_of_getElem? (i := 32) rfl)
theorem tbX11_rules : ∀ w ∈ wsX11_rules, w ∈ lw_tbl := tb_cons tp_1310 (tb_app tboX11_rules (tb_app tbn_10 (tb_app tbX11_isWord (tb_app tbX11_wrong (tb_app tbX11_skipWord (tb_app tbX11_number tbX11_closes))))))
theorem tp_1307 : (Cond.methodLink RX11 171 yX11_rules) ∈ lw_tbl := tbC_in 5 _ (List.mem_of_getElem? (i := 29) rfl)
theorem tp_1309 : (Cond.instanceMethod yX11_rules) ∈ lw_tbl := tbC_in 5 _ (List.mem_of_getElem? (i := 31) rfl)
theorem tp_51 : (Cond.selects RX11 yX11_rules yX11_rules) ∈ lw_tbl := tbC_in 7 _ (List.mem_of_getElem? (i := 51) rfl)
set_option maxRecDepth 20000 in
theorem tboX11_contract : ∀ w ∈ woX11_contract, w ∈ lw_tbl := (tb_cons tp_1131 (tb_cons tp_1132 (tb_cons tp_1134 (tb_cons tp_1145 (tb_cons tp_1146 (tb_cons tp_1147 (tb_cons tp_1136 (tb_cons tp_1135 (tb_cons tp_1133 (tb_cons tp_1137 (tb_cons tp_1149 (tb_cons tp_1148 (tb_cons tp_1245 (tb_cons tp_1246 (tb_cons tp_91 (tb_cons tp_1248 (tb_cons tp_1250 (tb_cons tp_39 (tb_cons tp_1252 (tb_cons tp_1254 (tb_cons tp_40 (tb_cons tp_1256 (tb_cons tp_1258 (tb_cons tp_41 (tb_cons tp_1307 (tb_cons tp_1309 (tb_cons tp_51 tb_nil)))))))))))))))))))))))))))
theorem tp_1306 : (Cond.code yX11_contract cX11_contract 3 (some .int)) ∈ lw_tbl := tbC_in 5 _ (List.mem_of_getElem? (i := 28) rfl)
theorem tbX11_contract : ∀ w ∈ wsX11_contract, w ∈ lw_tbl := tb_cons tp_1306 (tb_app tboX11_contract (tb_app tbn_10 (tb_app tbX11_in (tb_app tbX11_bad (tb_app tbX11_starts (tb_app tbX11_rules tbX11_blanks))))))
set_option maxRecDepth 20000 in
theorem tboX10_fault : ∀ w ∈ woX10_fault, w ∈ lw_tbl := (tb_cons tp_333 (tb_cons tp_123 tb_nil))
theorem tp_382 : (Cond.code yX10_fault cX10_fault 1 (some .int)) ∈ lw_tbl := tbC_in 1 _ (List.mem_of_getElem? (i := 64) rfl)
theorem tbX10_fault : ∀ w ∈ wsX10_fault, w ∈ lw_tbl := tb_cons tp_382 (tb_app tboX10_fault (tb_app tbn_9 tbn_0))
set_option maxRecDepth 20000 in
theorem tboX11_fault : ∀ w ∈ woX11_fault, w ∈ lw_tbl := (tb_cons tp_1131 (tb_cons tp_1134 tb_nil))
theorem tp_1314 : (Cond.code yX11_fault cX11_fault 1 (some .int)) ∈ lw_tbl := tbC_in 5 _ (List.mem_of_getElem? (i := 36) rfl)
theorem tbX11_fault : ∀ w ∈ wsX11_fault, w ∈ lw_tbl := tb_cons tp_1314 (tb_app tboX11_fault tbn_10)
theorem tp_196 : (Cond.fieldLink RX10 111 "HiredEnemy$Course" "now" "[I") ∈ lw_tbl := tbC_in 0 _ (List.mem_of_getElem? (i := 118) rfl)
theorem tp_202 : (Cond.fieldLink RX10 114 "HiredEnemy$Course" "month" "I") ∈ lw_tbl := tbC_in 0 _ (List.mem_of_getElem? (i := 124) rfl)
theorem tp_446 : (Cond.methodLink RX10 107 yX10_within) ∈ lw_tbl := tbC_in 1 _ (List.mem_of_getElem? (i := 128) rfl)
set_option maxRecDepth 20000 in
theorem tboX10_told : ∀ w ∈ woX10_told, w ∈ lw_tbl := (tb_cons tp_338 (tb_cons tp_265 (tb_cons tp_196 (tb_cons tp_334 (tb_cons tp_168 (tb_cons tp_337 (tb_cons tp_202 (tb_cons tp_446 (tb_cons tp_425 (tb_cons tp_79 (tb_cons tp_459 (tb_cons tp_461 (tb_cons tp_3 (tb_cons tp_95 tb_nil))))))))))))))
theorem tp_726 : (Cond.code yX10_told cX10_told 4 (some .int)) ∈ lw_tbl := tbC_in 2 _ (List.mem_of_getElem? (i := 168) rfl)
theorem tbX10_told : ∀ w ∈ wsX10_told, w ∈ lw_tbl := tb_cons tp_726 (tb_app tboX10_told (tb_app tbn_9 (tb_app tbn_6 (tb_app tbn_2 (tb_app tbn_1 (tb_app tbX10_within tbX10_demand))))))
theorem tp_723 : (Cond.methodLink RL 18 yX10_told) ∈ lw_tbl := tbC_in 2 _ (List.mem_of_getElem? (i := 165) rfl)
theorem tp_724 : (Cond.instanceMethod yX10_told) ∈ lw_tbl := tbC_in 2 _ (List.mem_of_getElem? (i := 166) rfl)
theorem tp_725 : (Cond.selects RX10 yX10_told yX10_told) ∈ lw_tbl := tbC_in 2 _ (List.mem_of_getElem? (i := 167) rfl)
set_option maxRecDepth 20000 in
theorem tboL_told : ∀ w ∈ woL_told, w ∈ lw_tbl := (tb_cons tp_454 (tb_cons tp_723 (tb_cons tp_724 (tb_cons tp_725 (tb_cons tp_79 (tb_cons tp_95 tb_nil))))))
theorem tp_722 : (Cond.codeWith yL_told cL_told 4 (some .int) [(0, 9, 12, 13)]) ∈ lw_tbl := tbC_in 2 _ (List.mem_of_getElem? (i := 164) rfl)
theorem tbL_told : ∀ w ∈ wsL_told, w ∈ lw_tbl := tb_cons tp_722 (tb_app tboL_told (tb_app tbn_9 (tb_app tbn_6 (tb_app tbn_2 (tb_app tbn_1 tbX10_told)))))
set_option maxRecDepth 20000 in
theorem tboX11_told : ∀ w ∈ woX11_told, w ∈ lw_tbl := (tb_cons tp_1131 (tb_cons tp_1142 (tb_cons tp_1145 (tb_cons tp_1150 (tb_cons tp_1245 (tb_cons tp_1246 (tb_cons tp_91 (tb_cons tp_1248 (tb_cons tp_1250 (tb_cons tp_39 tb_nil))))))))))
theorem tp_1318 : (Cond.code yX11_told cX11_told 2 (some .int)) ∈ lw_tbl := tbC_in 5 _ (List.mem_of_getElem? (i := 40) rfl)
theorem tbX11_told : ∀ w ∈ wsX11_told, w ∈ lw_tbl := tb_cons tp_1318 (tb_app tboX11_told (tb_app tbn_10 (tb_app tbX11_in tbX11_bad)))
theorem tp_739 : (Cond.classLink RX10 258 "java/lang/IndexOutOfBoundsException") ∈ lw_tbl := tbC_in 2 _ (List.mem_of_getElem? (i := 181) rfl)
theorem tp_101 : (Cond.initialized "java/lang/IndexOutOfBoundsException") ∈ lw_tbl := tbC_in 0 _ (List.mem_of_getElem? (i := 23) rfl)
set_option maxRecDepth 20000 in
theorem tboX10_demandWall : ∀ w ∈ woX10_demandWall, w ∈ lw_tbl := (tb_cons tp_739 (tb_cons tp_101 (tb_cons tp_334 (tb_cons tp_168 (tb_cons tp_343 (tb_cons tp_446 (tb_cons tp_425 (tb_cons tp_79 tb_nil))))))))
def tbS_12 : List Cond := ([(7, 4), (0, 14), (0, 15), (0, 16), (0, 23), (0, 31), (0, 32), (0, 33), (0, 39), (0, 59), (0, 70), (0, 109), (0, 115), (0, 131), (0, 137), (0, 141), (0, 147), (0, 172), (0, 178), (0, 185), (0, 202), (0, 211), (0, 229), (1, 52), (1, 99), (1, 100), (1, 101), (1, 109), (1, 114), (1, 119), (1, 148), (1, 149), (1, 150), (1, 151), (1, 152), (1, 153), (1, 157), (1, 159), (1, 161), (1, 163), (1, 165), (1, 166), (1, 167), (1, 168), (1, 169), (1, 170), (1, 171), (1, 172), (1, 173), (1, 174), (1, 175), (1, 176), (1, 177), (1, 178), (1, 180), (1, 181), (1, 182), (1, 183), (1, 184), (1, 185), (1, 191), (1, 192), (1, 193), (1, 194), (1, 195), (1, 196), (1, 197), (1, 198), (1, 200), (1, 201), (1, 202), (1, 203), (1, 204), (1, 205), (1, 206), (1, 207), (1, 209), (1, 210), (2, 172), (2, 181), (2, 182), (2, 183), (2, 184), (2, 185), (2, 186), (2, 187), (2, 188), (2, 189), (2, 191), (2, 192), (2, 193), (2, 194), (2, 195), (2, 196), (4, 82), (4, 198), (6, 36), (6, 38), (6, 39), (6, 40), (6, 41), (6, 42), (6, 43), (6, 44), (6, 45), (6, 46), (6, 47), (6, 48), (6, 50), (6, 52), (6, 53)] : List (Nat × Nat)).filterMap (fun q => (tbC q.1)[q.2]?)
theorem tbS_12_in : ∀ w ∈ tbS_12, w ∈ lw_tbl := lw_mem3 tbS_12 [(7, 4), (0, 14), (0, 15), (0, 16), (0, 23), (0, 31), (0, 32), (0, 33), (0, 39), (0, 59), (0, 70), (0, 109), (0, 115), (0, 131), (0, 137), (0, 141), (0, 147), (0, 172), (0, 178), (0, 185), (0, 202), (0, 211), (0, 229), (1, 52), (1, 99), (1, 100), (1, 101), (1, 109), (1, 114), (1, 119), (1, 148), (1, 149), (1, 150), (1, 151), (1, 152), (1, 153), (1, 157), (1, 159), (1, 161), (1, 163), (1, 165), (1, 166), (1, 167), (1, 168), (1, 169), (1, 170), (1, 171), (1, 172), (1, 173), (1, 174), (1, 175), (1, 176), (1, 177), (1, 178), (1, 180), (1, 181), (1, 182), (1, 183), (1, 184), (1, 185), (1, 191), (1, 192), (1, 193), (1, 194), (1, 195), (1, 196), (1, 197), (1, 198), (1, 200), (1, 201), (1, 202), (1, 203), (1, 204), (1, 205), (1, 206), (1, 207), (1, 209), (1, 210), (2, 172), (2, 181), (2, 182), (2, 183), (2, 184), (2, 185), (2, 186), (2, 187), (2, 188), (2, 189), (2, 191), (2, 192), (2, 193), (2, 194), (2, 195), (2, 196), (4, 82), (4, 198), (6, 36), (6, 38), (6, 39), (6, 40), (6, 41), (6, 42), (6, 43), (6, 44), (6, 45), (6, 46), (6, 47), (6, 48), (6, 50), (6, 52), (6, 53)] rfl
set_option maxRecDepth 20000 in
theorem tbI_12 : ∀ w ∈ (vx_atS RX10 262 "java/lang/IndexOutOfBoundsException" ["java/lang/RuntimeException", "java/lang/Exception"]).filter goodWord, w ∈ tbS_12 := by decide +kernel
theorem tbn_12 : ∀ w ∈ (vx_atS RX10 262 "java/lang/IndexOutOfBoundsException" ["java/lang/RuntimeException", "java/lang/Exception"]).filter goodWord, w ∈ lw_tbl := fun w h => tbS_12_in w (tbI_12 w h)
theorem tp_738 : (Cond.code yX10_demandWall cX10_demandWall 2 none) ∈ lw_tbl := tbC_in 2 _ (List.mem_of_getElem? (i := 180) rfl)
theorem tbX10_demandWall : ∀ w ∈ wsX10_demandWall, w ∈ lw_tbl := tb_cons tp_738 (tb_app tboX10_demandWall (tb_app tbn_9 (tb_app tbn_1 (tb_app tbn_12 tbX10_within))))
theorem tp_161 : (Cond.fieldLink RX10 120 "HiredEnemy$Plan" "strength" "[I") ∈ lw_tbl := tbC_in 0 _ (List.mem_of_getElem? (i := 83) rfl)
theorem tp_163 : (Cond.fieldLink RX10 123 "HiredEnemy$Plan" "mended" "[I") ∈ lw_tbl := tbC_in 0 _ (List.mem_of_getElem? (i := 85) rfl)
theorem tp_735 : (Cond.methodLink RX10 117 yX10_demandWall) ∈ lw_tbl := tbC_in 2 _ (List.mem_of_getElem? (i := 177) rfl)
theorem tp_737 : (Cond.instanceMethod yX10_demandWall) ∈ lw_tbl := tbC_in 2 _ (List.mem_of_getElem? (i := 179) rfl)
theorem tp_13 : (Cond.selects RX10 yX10_demandWall yX10_demandWall) ∈ lw_tbl := tbC_in 7 _ (List.mem_of_getElem? (i := 13) rfl)
set_option maxRecDepth 20000 in
theorem tboX10_wall : ∀ w ∈ woX10_wall, w ∈ lw_tbl := (tb_cons tp_334 (tb_cons tp_161 (tb_cons tp_338 (tb_cons tp_265 (tb_cons tp_196 (tb_cons tp_163 (tb_cons tp_735 (tb_cons tp_737 (tb_cons tp_13 (tb_cons tp_79 (tb_cons tp_101 (tb_cons tp_446 (tb_cons tp_425 (tb_cons tp_459 (tb_cons tp_461 (tb_cons tp_3 (tb_cons tp_95 tb_nil)))))))))))))))))
theorem tp_734 : (Cond.code yX10_wall cX10_wall 3 (some .int)) ∈ lw_tbl := tbC_in 2 _ (List.mem_of_getElem? (i := 176) rfl)
theorem tbX10_wall : ∀ w ∈ wsX10_wall, w ∈ lw_tbl := tb_cons tp_734 (tb_app tboX10_wall (tb_app tbn_9 (tb_app tbn_1 (tb_app tbn_6 (tb_app tbn_2 (tb_app tbX10_demandWall (tb_app tbX10_within tbX10_demand)))))))
theorem tp_730 : (Cond.classLink RL 25 "java/lang/IndexOutOfBoundsException") ∈ lw_tbl := tbC_in 2 _ (List.mem_of_getElem? (i := 172) rfl)
theorem tp_731 : (Cond.methodLink RL 21 yX10_wall) ∈ lw_tbl := tbC_in 2 _ (List.mem_of_getElem? (i := 173) rfl)
theorem tp_732 : (Cond.instanceMethod yX10_wall) ∈ lw_tbl := tbC_in 2 _ (List.mem_of_getElem? (i := 174) rfl)
theorem tp_733 : (Cond.selects RX10 yX10_wall yX10_wall) ∈ lw_tbl := tbC_in 2 _ (List.mem_of_getElem? (i := 175) rfl)
set_option maxRecDepth 20000 in
theorem tboL_wall : ∀ w ∈ woL_wall, w ∈ lw_tbl := (tb_cons tp_730 (tb_cons tp_454 (tb_cons tp_731 (tb_cons tp_732 (tb_cons tp_733 (tb_cons tp_79 (tb_cons tp_101 (tb_cons tp_95 tb_nil))))))))
theorem tp_729 : (Cond.codeWith yL_wall cL_wall 5 (some .int) [(0, 10, 13, 25), (0, 10, 17, 13)]) ∈ lw_tbl := tbC_in 2 _ (List.mem_of_getElem? (i := 171) rfl)
theorem tbL_wall : ∀ w ∈ wsL_wall, w ∈ lw_tbl := tb_cons tp_729 (tb_app tboL_wall (tb_app tbn_9 (tb_app tbn_1 (tb_app tbn_6 (tb_app tbn_2 tbX10_wall)))))
set_option maxRecDepth 20000 in
theorem tboX11_isWall : ∀ w ∈ woX11_isWall, w ∈ lw_tbl := (tb_cons tp_1142 (tb_cons tp_1245 (tb_cons tp_1246 (tb_cons tp_91 tb_nil))))
theorem tp_1326 : (Cond.code yX11_isWall cX11_isWall 2 (some .boolean)) ∈ lw_tbl := tbC_in 5 _ (List.mem_of_getElem? (i := 48) rfl)
theorem tbX11_isWall : ∀ w ∈ wsX11_isWall, w ∈ lw_tbl := tb_cons tp_1326 (tb_app tboX11_isWall (tb_app tbn_10 tbX11_in))
theorem tp_1323 : (Cond.methodLink RX11 174 yX11_isWall) ∈ lw_tbl := tbC_in 5 _ (List.mem_of_getElem? (i := 45) rfl)
theorem tp_1325 : (Cond.instanceMethod yX11_isWall) ∈ lw_tbl := tbC_in 5 _ (List.mem_of_getElem? (i := 47) rfl)
theorem tp_52 : (Cond.selects RX11 yX11_isWall yX11_isWall) ∈ lw_tbl := tbC_in 7 _ (List.mem_of_getElem? (i := 52) rfl)
set_option maxRecDepth 20000 in
theorem tboX11_wall : ∀ w ∈ woX11_wall, w ∈ lw_tbl := (tb_cons tp_1131 (tb_cons tp_1144 (tb_cons tp_1150 (tb_cons tp_1323 (tb_cons tp_1325 (tb_cons tp_52 (tb_cons tp_91 (tb_cons tp_1245 (tb_cons tp_1246 (tb_cons tp_1248 (tb_cons tp_1250 (tb_cons tp_39 tb_nil))))))))))))
theorem tp_1322 : (Cond.code yX11_wall cX11_wall 3 (some .int)) ∈ lw_tbl := tbC_in 5 _ (List.mem_of_getElem? (i := 44) rfl)
theorem tbX11_wall : ∀ w ∈ wsX11_wall, w ∈ lw_tbl := tb_cons tp_1322 (tb_app tboX11_wall (tb_app tbn_10 (tb_app tbX11_isWall (tb_app tbX11_bad tbX11_in))))
theorem tp_767 : (Cond.classLink RX10 263 "java/util/NoSuchElementException") ∈ lw_tbl := tbC_in 2 _ (List.mem_of_getElem? (i := 209) rfl)
theorem tp_102 : (Cond.initialized "java/util/NoSuchElementException") ∈ lw_tbl := tbC_in 0 _ (List.mem_of_getElem? (i := 24) rfl)
set_option maxRecDepth 20000 in
theorem tboX10_demandContract : ∀ w ∈ woX10_demandContract, w ∈ lw_tbl := (tb_cons tp_767 (tb_cons tp_102 (tb_cons tp_337 (tb_cons tp_343 (tb_cons tp_446 (tb_cons tp_425 (tb_cons tp_79 tb_nil)))))))
def tbS_13 : List Cond := ([(7, 4), (0, 14), (0, 15), (0, 16), (0, 24), (0, 31), (0, 32), (0, 33), (0, 39), (0, 59), (0, 70), (0, 109), (0, 115), (0, 131), (0, 137), (0, 141), (0, 147), (0, 172), (0, 178), (0, 185), (0, 202), (0, 211), (0, 229), (1, 52), (1, 99), (1, 100), (1, 101), (1, 109), (1, 114), (1, 119), (1, 148), (1, 149), (1, 150), (1, 151), (1, 152), (1, 153), (1, 157), (1, 159), (1, 161), (1, 163), (1, 165), (1, 166), (1, 167), (1, 168), (1, 169), (1, 170), (1, 171), (1, 172), (1, 173), (1, 174), (1, 175), (1, 176), (1, 177), (1, 179), (1, 180), (1, 181), (1, 182), (1, 183), (1, 184), (1, 185), (1, 191), (1, 192), (1, 193), (1, 194), (1, 195), (1, 196), (1, 197), (1, 198), (1, 200), (1, 201), (1, 202), (1, 203), (1, 204), (1, 205), (1, 206), (1, 207), (1, 209), (1, 210), (2, 200), (2, 209), (2, 210), (2, 211), (2, 212), (2, 213), (2, 214), (2, 215), (2, 216), (2, 217), (2, 219), (2, 220), (2, 221), (2, 222), (2, 223), (2, 224), (4, 82), (4, 198), (6, 36), (6, 38), (6, 39), (6, 40), (6, 41), (6, 42), (6, 43), (6, 44), (6, 45), (6, 46), (6, 47), (6, 48), (6, 51), (6, 52), (6, 53)] : List (Nat × Nat)).filterMap (fun q => (tbC q.1)[q.2]?)
theorem tbS_13_in : ∀ w ∈ tbS_13, w ∈ lw_tbl := lw_mem3 tbS_13 [(7, 4), (0, 14), (0, 15), (0, 16), (0, 24), (0, 31), (0, 32), (0, 33), (0, 39), (0, 59), (0, 70), (0, 109), (0, 115), (0, 131), (0, 137), (0, 141), (0, 147), (0, 172), (0, 178), (0, 185), (0, 202), (0, 211), (0, 229), (1, 52), (1, 99), (1, 100), (1, 101), (1, 109), (1, 114), (1, 119), (1, 148), (1, 149), (1, 150), (1, 151), (1, 152), (1, 153), (1, 157), (1, 159), (1, 161), (1, 163), (1, 165), (1, 166), (1, 167), (1, 168), (1, 169), (1, 170), (1, 171), (1, 172), (1, 173), (1, 174), (1, 175), (1, 176), (1, 177), (1, 179), (1, 180), (1, 181), (1, 182), (1, 183), (1, 184), (1, 185), (1, 191), (1, 192), (1, 193), (1, 194), (1, 195), (1, 196), (1, 197), (1, 198), (1, 200), (1, 201), (1, 202), (1, 203), (1, 204), (1, 205), (1, 206), (1, 207), (1, 209), (1, 210), (2, 200), (2, 209), (2, 210), (2, 211), (2, 212), (2, 213), (2, 214), (2, 215), (2, 216), (2, 217), (2, 219), (2, 220), (2, 221), (2, 222), (2, 223), (2, 224), (4, 82), (4, 198), (6, 36), (6, 38), (6, 39), (6, 40), (6, 41), (6, 42), (6, 43), (6, 44), (6, 45), (6, 46), (6, 47), (6, 48), (6, 51), (6, 52), (6, 53)] rfl
set_option maxRecDepth 20000 in
theorem tbI_13 : ∀ w ∈ (nz_at RX10 267).filter goodWord, w ∈ tbS_13 := by decide +kernel
theorem tbn_13 : ∀ w ∈ (nz_at RX10 267).filter goodWord, w ∈ lw_tbl := fun w h => tbS_13_in w (tbI_13 w h)
theorem tp_766 : (Cond.code yX10_demandContract cX10_demandContract 2 none) ∈ lw_tbl := tbC_in 2 _ (List.mem_of_getElem? (i := 208) rfl)
theorem tbX10_demandContract : ∀ w ∈ wsX10_demandContract, w ∈ lw_tbl := tb_cons tp_766 (tb_app tboX10_demandContract (tb_app tbn_9 (tb_app tbn_13 tbX10_within)))
set_option maxRecDepth 20000 in
theorem tboX5_breachesTold : ∀ w ∈ woX5_breachesTold, w ∈ lw_tbl := (tb_cons tp_315 tb_nil)
theorem tp_790 : (Cond.code yX5_breachesTold cX5_breachesTold 6 (some .int)) ∈ lw_tbl := tbC_in 2 _ (List.mem_of_getElem? (i := 232) rfl)
theorem tbX5_breachesTold : ∀ w ∈ wsX5_breachesTold, w ∈ lw_tbl := tb_cons tp_790 (tb_app tboX5_breachesTold tbn_8)
set_option maxRecDepth 20000 in
theorem tboX5_winterPay : ∀ w ∈ woX5_winterPay, w ∈ lw_tbl := (tb_cons tp_313 tb_nil)
theorem tp_794 : (Cond.code yX5_winterPay cX5_winterPay 1 (some .int)) ∈ lw_tbl := tbC_in 2 _ (List.mem_of_getElem? (i := 236) rfl)
theorem tbX5_winterPay : ∀ w ∈ wsX5_winterPay, w ∈ lw_tbl := tb_cons tp_794 (tb_app tboX5_winterPay tbn_8)
theorem tp_787 : (Cond.methodLink RX5 41 yX5_breachesTold) ∈ lw_tbl := tbC_in 2 _ (List.mem_of_getElem? (i := 229) rfl)
theorem tp_789 : (Cond.instanceMethod yX5_breachesTold) ∈ lw_tbl := tbC_in 2 _ (List.mem_of_getElem? (i := 231) rfl)
theorem tp_15 : (Cond.selects RX5 yX5_breachesTold yX5_breachesTold) ∈ lw_tbl := tbC_in 7 _ (List.mem_of_getElem? (i := 15) rfl)
theorem tp_791 : (Cond.methodLink RX5 45 yX5_winterPay) ∈ lw_tbl := tbC_in 2 _ (List.mem_of_getElem? (i := 233) rfl)
theorem tp_793 : (Cond.instanceMethod yX5_winterPay) ∈ lw_tbl := tbC_in 2 _ (List.mem_of_getElem? (i := 235) rfl)
theorem tp_16 : (Cond.selects RX5 yX5_winterPay yX5_winterPay) ∈ lw_tbl := tbC_in 7 _ (List.mem_of_getElem? (i := 16) rfl)
set_option maxRecDepth 20000 in
theorem tboX5_answer : ∀ w ∈ woX5_answer, w ∈ lw_tbl := (tb_cons tp_313 (tb_cons tp_787 (tb_cons tp_789 (tb_cons tp_15 (tb_cons tp_89 (tb_cons tp_791 (tb_cons tp_793 (tb_cons tp_16 tb_nil))))))))
theorem tp_786 : (Cond.code yX5_answer cX5_answer 2 (some .int)) ∈ lw_tbl := tbC_in 2 _ (List.mem_of_getElem? (i := 228) rfl)
theorem tbX5_answer : ∀ w ∈ wsX5_answer, w ∈ lw_tbl := tb_cons tp_786 (tb_app tboX5_answer (tb_app tbn_8 (tb_app tbX5_breachesTold tbX5_winterPay)))
theorem tp_763 : (Cond.methodLink RX10 126 yX10_demandContract) ∈ lw_tbl := tbC_in 2 _ (List.mem_of_getElem? (i := 205) rfl)
theorem tp_765 : (Cond.instanceMethod yX10_demandContract) ∈ lw_tbl := tbC_in 2 _ (List.mem_of_getElem? (i := 207) rfl)
theorem tp_14 : (Cond.selects RX10 yX10_demandContract yX10_demandContract) ∈ lw_tbl := tbC_in 7 _ (List.mem_of_getElem? (i := 14) rfl)
theorem tp_783 : (Cond.methodLink RX10 129 yX5_answer) ∈ lw_tbl := tbC_in 2 _ (List.mem_of_getElem? (i := 225) rfl)
theorem tp_784 : (Cond.instanceMethod yX5_answer) ∈ lw_tbl := tbC_in 2 _ (List.mem_of_getElem? (i := 226) rfl)
theorem tp_785 : (Cond.selects RX5 yX5_answer yX5_answer) ∈ lw_tbl := tbC_in 2 _ (List.mem_of_getElem? (i := 227) rfl)
set_option maxRecDepth 20000 in
theorem tboX10_rule : ∀ w ∈ woX10_rule, w ∈ lw_tbl := (tb_cons tp_336 (tb_cons tp_763 (tb_cons tp_765 (tb_cons tp_14 (tb_cons tp_79 (tb_cons tp_102 (tb_cons tp_446 (tb_cons tp_425 (tb_cons tp_459 (tb_cons tp_461 (tb_cons tp_3 (tb_cons tp_95 (tb_cons tp_783 (tb_cons tp_784 (tb_cons tp_785 (tb_cons tp_89 tb_nil))))))))))))))))
theorem tp_762 : (Cond.code yX10_rule cX10_rule 3 (some .int)) ∈ lw_tbl := tbC_in 2 _ (List.mem_of_getElem? (i := 204) rfl)
theorem tbX10_rule : ∀ w ∈ wsX10_rule, w ∈ lw_tbl := tb_cons tp_762 (tb_app tboX10_rule (tb_app tbn_9 (tb_app tbn_8 (tb_app tbX10_demandContract (tb_app tbX10_within (tb_app tbX10_demand tbX5_answer))))))
theorem tp_758 : (Cond.classLink RL 30 "java/util/NoSuchElementException") ∈ lw_tbl := tbC_in 2 _ (List.mem_of_getElem? (i := 200) rfl)
theorem tp_759 : (Cond.methodLink RL 27 yX10_rule) ∈ lw_tbl := tbC_in 2 _ (List.mem_of_getElem? (i := 201) rfl)
theorem tp_760 : (Cond.instanceMethod yX10_rule) ∈ lw_tbl := tbC_in 2 _ (List.mem_of_getElem? (i := 202) rfl)
theorem tp_761 : (Cond.selects RX10 yX10_rule yX10_rule) ∈ lw_tbl := tbC_in 2 _ (List.mem_of_getElem? (i := 203) rfl)
set_option maxRecDepth 20000 in
theorem tboL_rule : ∀ w ∈ woL_rule, w ∈ lw_tbl := (tb_cons tp_758 (tb_cons tp_454 (tb_cons tp_759 (tb_cons tp_760 (tb_cons tp_761 (tb_cons tp_79 (tb_cons tp_102 (tb_cons tp_95 (tb_cons tp_89 tb_nil)))))))))
theorem tp_757 : (Cond.codeWith yL_rule cL_rule 5 (some .int) [(0, 10, 13, 30), (0, 10, 17, 13)]) ∈ lw_tbl := tbC_in 2 _ (List.mem_of_getElem? (i := 199) rfl)
theorem tbL_rule : ∀ w ∈ wsL_rule, w ∈ lw_tbl := tb_cons tp_757 (tb_app tboL_rule (tb_app tbn_9 (tb_app tbn_8 tbX10_rule)))
set_option maxRecDepth 20000 in
theorem tboX11_isContract : ∀ w ∈ woX11_isContract, w ∈ lw_tbl := (tb_cons tp_1145 (tb_cons tp_1245 (tb_cons tp_1246 (tb_cons tp_91 tb_nil))))
theorem tp_1334 : (Cond.code yX11_isContract cX11_isContract 2 (some .boolean)) ∈ lw_tbl := tbC_in 5 _ (List.mem_of_getElem? (i := 56) rfl)
theorem tbX11_isContract : ∀ w ∈ wsX11_isContract, w ∈ lw_tbl := tb_cons tp_1334 (tb_app tboX11_isContract (tb_app tbn_10 tbX11_in))
theorem tp_1331 : (Cond.methodLink RX11 177 yX11_isContract) ∈ lw_tbl := tbC_in 5 _ (List.mem_of_getElem? (i := 53) rfl)
theorem tp_1333 : (Cond.instanceMethod yX11_isContract) ∈ lw_tbl := tbC_in 5 _ (List.mem_of_getElem? (i := 55) rfl)
theorem tp_53 : (Cond.selects RX11 yX11_isContract yX11_isContract) ∈ lw_tbl := tbC_in 7 _ (List.mem_of_getElem? (i := 53) rfl)
set_option maxRecDepth 20000 in
theorem tboX11_rule : ∀ w ∈ woX11_rule, w ∈ lw_tbl := (tb_cons tp_1131 (tb_cons tp_1148 (tb_cons tp_1331 (tb_cons tp_1333 (tb_cons tp_53 (tb_cons tp_91 (tb_cons tp_1245 (tb_cons tp_1246 (tb_cons tp_1248 (tb_cons tp_1250 (tb_cons tp_39 tb_nil)))))))))))
theorem tp_1330 : (Cond.code yX11_rule cX11_rule 3 (some .int)) ∈ lw_tbl := tbC_in 5 _ (List.mem_of_getElem? (i := 52) rfl)
theorem tbX11_rule : ∀ w ∈ wsX11_rule, w ∈ lw_tbl := tb_cons tp_1330 (tb_app tboX11_rule (tb_app tbn_10 (tb_app tbX11_isContract (tb_app tbX11_bad tbX11_in))))
set_option maxRecDepth 20000 in
theorem tboX6_wanted : ∀ w ∈ woX6_wanted, w ∈ lw_tbl := (tb_cons tp_155 tb_nil)
theorem tp_805 : (Cond.code yX6_wanted cX6_wanted 3 (some .int)) ∈ lw_tbl := tbC_in 3 _ (List.mem_of_getElem? (i := 7) rfl)
theorem tbX6_wanted : ∀ w ∈ wsX6_wanted, w ∈ lw_tbl := tb_cons tp_805 (tb_app tboX6_wanted tbn_1)
theorem tp_802 : (Cond.methodLink RX10 133 yX6_wanted) ∈ lw_tbl := tbC_in 3 _ (List.mem_of_getElem? (i := 4) rfl)
theorem tp_803 : (Cond.instanceMethod yX6_wanted) ∈ lw_tbl := tbC_in 3 _ (List.mem_of_getElem? (i := 5) rfl)
theorem tp_804 : (Cond.selects RX6 yX6_wanted yX6_wanted) ∈ lw_tbl := tbC_in 3 _ (List.mem_of_getElem? (i := 6) rfl)
set_option maxRecDepth 20000 in
theorem tboX10_wants : ∀ w ∈ woX10_wants, w ∈ lw_tbl := (tb_cons tp_334 (tb_cons tp_446 (tb_cons tp_425 (tb_cons tp_79 (tb_cons tp_459 (tb_cons tp_461 (tb_cons tp_3 (tb_cons tp_95 (tb_cons tp_802 (tb_cons tp_803 (tb_cons tp_804 (tb_cons tp_82 tb_nil))))))))))))
theorem tp_801 : (Cond.code yX10_wants cX10_wants 3 (some .int)) ∈ lw_tbl := tbC_in 3 _ (List.mem_of_getElem? (i := 3) rfl)
theorem tbX10_wants : ∀ w ∈ wsX10_wants, w ∈ lw_tbl := tb_cons tp_801 (tb_app tboX10_wants (tb_app tbn_9 (tb_app tbn_1 (tb_app tbX10_within (tb_app tbX10_demand tbX6_wanted)))))
theorem tp_798 : (Cond.methodLink RL 32 yX10_wants) ∈ lw_tbl := tbC_in 3 _ (List.mem_of_getElem? (i := 0) rfl)
theorem tp_799 : (Cond.instanceMethod yX10_wants) ∈ lw_tbl := tbC_in 3 _ (List.mem_of_getElem? (i := 1) rfl)
theorem tp_800 : (Cond.selects RX10 yX10_wants yX10_wants) ∈ lw_tbl := tbC_in 3 _ (List.mem_of_getElem? (i := 2) rfl)
set_option maxRecDepth 20000 in
theorem tboL_wants : ∀ w ∈ woL_wants, w ∈ lw_tbl := (tb_cons tp_454 (tb_cons tp_798 (tb_cons tp_799 (tb_cons tp_800 (tb_cons tp_79 (tb_cons tp_95 (tb_cons tp_82 tb_nil)))))))
theorem tp_797 : (Cond.codeWith yL_wants cL_wants 5 (some .int) [(0, 10, 13, 13)]) ∈ lw_tbl := tbC_in 2 _ (List.mem_of_getElem? (i := 239) rfl)
theorem tbL_wants : ∀ w ∈ wsL_wants, w ∈ lw_tbl := tb_cons tp_797 (tb_app tboL_wants (tb_app tbn_9 (tb_app tbn_1 tbX10_wants)))
set_option maxRecDepth 20000 in
theorem tboX11_wantsFor : ∀ w ∈ woX11_wantsFor, w ∈ lw_tbl := (tb_cons tp_1142 tb_nil)
theorem tp_1342 : (Cond.code yX11_wantsFor cX11_wantsFor 3 (some .int)) ∈ lw_tbl := tbC_in 5 _ (List.mem_of_getElem? (i := 64) rfl)
theorem tbX11_wantsFor : ∀ w ∈ wsX11_wantsFor, w ∈ lw_tbl := tb_cons tp_1342 (tb_app tboX11_wantsFor tbn_10)
theorem tp_1339 : (Cond.methodLink RX11 180 yX11_wantsFor) ∈ lw_tbl := tbC_in 5 _ (List.mem_of_getElem? (i := 61) rfl)
theorem tp_1341 : (Cond.instanceMethod yX11_wantsFor) ∈ lw_tbl := tbC_in 5 _ (List.mem_of_getElem? (i := 63) rfl)
theorem tp_54 : (Cond.selects RX11 yX11_wantsFor yX11_wantsFor) ∈ lw_tbl := tbC_in 7 _ (List.mem_of_getElem? (i := 54) rfl)
set_option maxRecDepth 20000 in
theorem tboX11_wants : ∀ w ∈ woX11_wants, w ∈ lw_tbl := (tb_cons tp_1131 (tb_cons tp_1245 (tb_cons tp_1246 (tb_cons tp_91 (tb_cons tp_1248 (tb_cons tp_1250 (tb_cons tp_39 (tb_cons tp_1339 (tb_cons tp_1341 (tb_cons tp_54 tb_nil))))))))))
theorem tp_1338 : (Cond.code yX11_wants cX11_wants 3 (some .int)) ∈ lw_tbl := tbC_in 5 _ (List.mem_of_getElem? (i := 60) rfl)
theorem tbX11_wants : ∀ w ∈ wsX11_wants, w ∈ lw_tbl := tb_cons tp_1338 (tb_app tboX11_wants (tb_app tbn_10 (tb_app tbX11_in (tb_app tbX11_bad tbX11_wantsFor))))
set_option maxRecDepth 20000 in
theorem tboX10_demandContractOrNone : ∀ w ∈ woX10_demandContractOrNone, w ∈ lw_tbl := (tb_cons tp_763 (tb_cons tp_765 (tb_cons tp_14 (tb_cons tp_79 (tb_cons tp_102 tb_nil)))))
theorem tp_816 : (Cond.code yX10_demandContractOrNone cX10_demandContractOrNone 2 none) ∈ lw_tbl := tbC_in 3 _ (List.mem_of_getElem? (i := 18) rfl)
theorem tbX10_demandContractOrNone : ∀ w ∈ wsX10_demandContractOrNone, w ∈ lw_tbl := tb_cons tp_816 (tb_app tboX10_demandContractOrNone (tb_app tbn_9 tbX10_demandContract))
set_option maxRecDepth 20000 in
theorem tboX4_pledge : ∀ w ∈ woX4_pledge, w ∈ lw_tbl := (tb_cons tp_194 (tb_cons tp_200 tb_nil))
theorem tp_820 : (Cond.code yX4_pledge cX4_pledge 2 none) ∈ lw_tbl := tbC_in 3 _ (List.mem_of_getElem? (i := 22) rfl)
theorem tbX4_pledge : ∀ w ∈ wsX4_pledge, w ∈ lw_tbl := tb_cons tp_820 (tb_app tboX4_pledge tbn_2)
theorem tp_813 : (Cond.methodLink RX10 137 yX10_demandContractOrNone) ∈ lw_tbl := tbC_in 3 _ (List.mem_of_getElem? (i := 15) rfl)
theorem tp_815 : (Cond.instanceMethod yX10_demandContractOrNone) ∈ lw_tbl := tbC_in 3 _ (List.mem_of_getElem? (i := 17) rfl)
theorem tp_17 : (Cond.selects RX10 yX10_demandContractOrNone yX10_demandContractOrNone) ∈ lw_tbl := tbC_in 7 _ (List.mem_of_getElem? (i := 17) rfl)
theorem tp_817 : (Cond.methodLink RX10 140 yX4_pledge) ∈ lw_tbl := tbC_in 3 _ (List.mem_of_getElem? (i := 19) rfl)
theorem tp_818 : (Cond.instanceMethod yX4_pledge) ∈ lw_tbl := tbC_in 3 _ (List.mem_of_getElem? (i := 20) rfl)
theorem tp_819 : (Cond.selects RX4 yX4_pledge yX4_pledge) ∈ lw_tbl := tbC_in 3 _ (List.mem_of_getElem? (i := 21) rfl)
set_option maxRecDepth 20000 in
theorem tboX10_sign : ∀ w ∈ woX10_sign, w ∈ lw_tbl := (tb_cons tp_338 (tb_cons tp_265 (tb_cons tp_196 (tb_cons tp_813 (tb_cons tp_815 (tb_cons tp_17 (tb_cons tp_79 (tb_cons tp_102 (tb_cons tp_817 (tb_cons tp_818 (tb_cons tp_819 (tb_cons tp_84 tb_nil))))))))))))
theorem tp_812 : (Cond.code yX10_sign cX10_sign 3 (some .int)) ∈ lw_tbl := tbC_in 3 _ (List.mem_of_getElem? (i := 14) rfl)
theorem tbX10_sign : ∀ w ∈ wsX10_sign, w ∈ lw_tbl := tb_cons tp_812 (tb_app tboX10_sign (tb_app tbn_9 (tb_app tbn_6 (tb_app tbn_2 (tb_app tbX10_demandContractOrNone tbX4_pledge)))))
theorem tp_809 : (Cond.methodLink RL 35 yX10_sign) ∈ lw_tbl := tbC_in 3 _ (List.mem_of_getElem? (i := 11) rfl)
theorem tp_810 : (Cond.instanceMethod yX10_sign) ∈ lw_tbl := tbC_in 3 _ (List.mem_of_getElem? (i := 12) rfl)
theorem tp_811 : (Cond.selects RX10 yX10_sign yX10_sign) ∈ lw_tbl := tbC_in 3 _ (List.mem_of_getElem? (i := 13) rfl)
set_option maxRecDepth 20000 in
theorem tboL_sign : ∀ w ∈ woL_sign, w ∈ lw_tbl := (tb_cons tp_758 (tb_cons tp_809 (tb_cons tp_810 (tb_cons tp_811 (tb_cons tp_79 (tb_cons tp_102 (tb_cons tp_84 tb_nil)))))))
theorem tp_808 : (Cond.codeWith yL_sign cL_sign 4 (some .int) [(0, 9, 12, 30)]) ∈ lw_tbl := tbC_in 3 _ (List.mem_of_getElem? (i := 10) rfl)
theorem tbL_sign : ∀ w ∈ wsL_sign, w ∈ lw_tbl := tb_cons tp_808 (tb_app tboL_sign (tb_app tbn_9 (tb_app tbn_6 (tb_app tbn_2 tbX10_sign))))
set_option maxRecDepth 20000 in
theorem tboX11_signs : ∀ w ∈ woX11_signs, w ∈ lw_tbl := (tb_cons tp_1150 tb_nil)
theorem tp_1350 : (Cond.code yX11_signs cX11_signs 2 none) ∈ lw_tbl := tbC_in 5 _ (List.mem_of_getElem? (i := 72) rfl)
theorem tbX11_signs : ∀ w ∈ wsX11_signs, w ∈ lw_tbl := tb_cons tp_1350 (tb_app tboX11_signs tbn_10)
theorem tp_1347 : (Cond.methodLink RX11 183 yX11_signs) ∈ lw_tbl := tbC_in 5 _ (List.mem_of_getElem? (i := 69) rfl)
theorem tp_1349 : (Cond.instanceMethod yX11_signs) ∈ lw_tbl := tbC_in 5 _ (List.mem_of_getElem? (i := 71) rfl)
theorem tp_55 : (Cond.selects RX11 yX11_signs yX11_signs) ∈ lw_tbl := tbC_in 7 _ (List.mem_of_getElem? (i := 55) rfl)
set_option maxRecDepth 20000 in
theorem tboX11_sign : ∀ w ∈ woX11_sign, w ∈ lw_tbl := (tb_cons tp_1131 (tb_cons tp_1150 (tb_cons tp_1331 (tb_cons tp_1333 (tb_cons tp_53 (tb_cons tp_91 (tb_cons tp_1248 (tb_cons tp_1250 (tb_cons tp_39 (tb_cons tp_1347 (tb_cons tp_1349 (tb_cons tp_55 tb_nil))))))))))))
theorem tp_1346 : (Cond.code yX11_sign cX11_sign 3 (some .int)) ∈ lw_tbl := tbC_in 5 _ (List.mem_of_getElem? (i := 68) rfl)
theorem tbX11_sign : ∀ w ∈ wsX11_sign, w ∈ lw_tbl := tb_cons tp_1346 (tb_app tboX11_sign (tb_app tbn_10 (tb_app tbX11_isContract (tb_app tbX11_bad tbX11_signs))))
theorem tp_199 : (Cond.fieldLink RX0 15 "HiredEnemy$Course" "month" "I") ∈ lw_tbl := tbC_in 0 _ (List.mem_of_getElem? (i := 121) rfl)
theorem tp_195 : (Cond.fieldLink RX0 25 "HiredEnemy$Course" "now" "[I") ∈ lw_tbl := tbC_in 0 _ (List.mem_of_getElem? (i := 117) rfl)
theorem tp_427 : (Cond.methodLink RX0 28 arraycopyName) ∈ lw_tbl := tbC_in 1 _ (List.mem_of_getElem? (i := 109) rfl)
theorem tp_419 : (Cond.native arraycopyName) ∈ lw_tbl := tbC_in 1 _ (List.mem_of_getElem? (i := 101) rfl)
theorem tp_418 : (Cond.static arraycopyName) ∈ lw_tbl := tbC_in 1 _ (List.mem_of_getElem? (i := 100) rfl)
theorem tp_103 : (Cond.initialized "java/lang/System") ∈ lw_tbl := tbC_in 0 _ (List.mem_of_getElem? (i := 25) rfl)
set_option maxRecDepth 20000 in
theorem tboX0_keep : ∀ w ∈ woX0_keep, w ∈ lw_tbl := (tb_cons tp_199 (tb_cons tp_195 (tb_cons tp_216 (tb_cons tp_427 (tb_cons tp_419 (tb_cons tp_418 (tb_cons tp_103 (tb_cons tp_425 (tb_cons tp_79 tb_nil)))))))))
theorem tp_831 : (Cond.code yX0_keep cX0_keep 2 none) ∈ lw_tbl := tbC_in 3 _ (List.mem_of_getElem? (i := 33) rfl)
theorem tbX0_keep : ∀ w ∈ wsX0_keep, w ∈ lw_tbl := tb_cons tp_831 (tb_app tboX0_keep (tb_app tbn_2 (tb_app tbn_3 tbX10_within)))
set_option maxRecDepth 20000 in
theorem tboX10_inForce : ∀ w ∈ woX10_inForce, w ∈ lw_tbl := (tb_cons tp_196 (tb_cons tp_336 (tb_cons tp_446 (tb_cons tp_425 (tb_cons tp_79 tb_nil)))))
theorem tp_835 : (Cond.code yX10_inForce cX10_inForce 3 (some (.object "HiredEnemy$Pact"))) ∈ lw_tbl := tbC_in 3 _ (List.mem_of_getElem? (i := 37) rfl)
theorem tbX10_inForce : ∀ w ∈ wsX10_inForce, w ∈ lw_tbl := tb_cons tp_835 (tb_app tboX10_inForce (tb_app tbn_2 (tb_app tbn_9 tbX10_within)))
theorem tp_844 : (Cond.methodLink RX4 81 Lib.Math.min.name) ∈ lw_tbl := tbC_in 3 _ (List.mem_of_getElem? (i := 46) rfl)
set_option maxRecDepth 20000 in
theorem tboX4_move : ∀ w ∈ woX4_move, w ∈ lw_tbl := (tb_cons tp_194 (tb_cons tp_844 (tb_cons tp_536 (tb_cons tp_96 (tb_cons tp_537 tb_nil)))))
theorem tp_843 : (Cond.code yX4_move cX4_move 5 none) ∈ lw_tbl := tbC_in 3 _ (List.mem_of_getElem? (i := 45) rfl)
theorem tbX4_move : ∀ w ∈ wsX4_move, w ∈ lw_tbl := tb_cons tp_843 (tb_app tboX4_move tbn_2)
set_option maxRecDepth 20000 in
theorem tboX5_payIn : ∀ w ∈ woX5_payIn, w ∈ lw_tbl := (tb_cons tp_313 (tb_cons tp_791 (tb_cons tp_793 (tb_cons tp_16 (tb_cons tp_89 tb_nil)))))
theorem tp_852 : (Cond.code yX5_payIn cX5_payIn 3 (some .int)) ∈ lw_tbl := tbC_in 3 _ (List.mem_of_getElem? (i := 54) rfl)
theorem tbX5_payIn : ∀ w ∈ wsX5_payIn, w ∈ lw_tbl := tb_cons tp_852 (tb_app tboX5_payIn (tb_app tbn_8 tbX5_winterPay))
theorem tp_849 : (Cond.methodLink RX4 84 yX5_payIn) ∈ lw_tbl := tbC_in 3 _ (List.mem_of_getElem? (i := 51) rfl)
theorem tp_850 : (Cond.instanceMethod yX5_payIn) ∈ lw_tbl := tbC_in 3 _ (List.mem_of_getElem? (i := 52) rfl)
theorem tp_851 : (Cond.selects RX5 yX5_payIn yX5_payIn) ∈ lw_tbl := tbC_in 3 _ (List.mem_of_getElem? (i := 53) rfl)
theorem tp_840 : (Cond.methodLink RX4 45 yX4_move) ∈ lw_tbl := tbC_in 3 _ (List.mem_of_getElem? (i := 42) rfl)
theorem tp_842 : (Cond.instanceMethod yX4_move) ∈ lw_tbl := tbC_in 3 _ (List.mem_of_getElem? (i := 44) rfl)
theorem tp_19 : (Cond.selects RX4 yX4_move yX4_move) ∈ lw_tbl := tbC_in 7 _ (List.mem_of_getElem? (i := 19) rfl)
set_option maxRecDepth 20000 in
theorem tboX4_isPaid : ∀ w ∈ woX4_isPaid, w ∈ lw_tbl := (tb_cons tp_200 (tb_cons tp_194 (tb_cons tp_849 (tb_cons tp_850 (tb_cons tp_851 (tb_cons tp_89 (tb_cons tp_840 (tb_cons tp_842 (tb_cons tp_19 (tb_cons tp_84 (tb_cons tp_536 (tb_cons tp_96 tb_nil))))))))))))
theorem tp_848 : (Cond.code yX4_isPaid cX4_isPaid 3 (some .boolean)) ∈ lw_tbl := tbC_in 3 _ (List.mem_of_getElem? (i := 50) rfl)
theorem tbX4_isPaid : ∀ w ∈ wsX4_isPaid, w ∈ lw_tbl := tb_cons tp_848 (tb_app tboX4_isPaid (tb_app tbn_2 (tb_app tbn_8 (tb_app tbX5_payIn tbX4_move))))
set_option maxRecDepth 20000 in
theorem tboX5_wallDue : ∀ w ∈ woX5_wallDue, w ∈ lw_tbl := (tb_cons tp_315 (tb_cons tp_425 (tb_cons tp_79 tb_nil)))
theorem tp_860 : (Cond.code yX5_wallDue cX5_wallDue 4 (some .int)) ∈ lw_tbl := tbC_in 3 _ (List.mem_of_getElem? (i := 62) rfl)
theorem tbX5_wallDue : ∀ w ∈ wsX5_wallDue, w ∈ lw_tbl := tb_cons tp_860 (tb_app tboX5_wallDue (tb_app tbn_8 tbX10_within))
set_option maxRecDepth 20000 in
theorem tboX4_weakest : ∀ w ∈ woX4_weakest, w ∈ lw_tbl := (tb_cons tp_194 tb_nil)
theorem tp_864 : (Cond.code yX4_weakest cX4_weakest 4 (some .int)) ∈ lw_tbl := tbC_in 3 _ (List.mem_of_getElem? (i := 66) rfl)
theorem tbX4_weakest : ∀ w ∈ wsX4_weakest, w ∈ lw_tbl := tb_cons tp_864 (tb_app tboX4_weakest tbn_2)
set_option maxRecDepth 20000 in
theorem tboX4_frighten : ∀ w ∈ woX4_frighten, w ∈ lw_tbl := (tb_cons tp_194 (tb_cons tp_844 (tb_cons tp_536 (tb_cons tp_96 (tb_cons tp_537 tb_nil)))))
theorem tp_872 : (Cond.code yX4_frighten cX4_frighten 2 none) ∈ lw_tbl := tbC_in 3 _ (List.mem_of_getElem? (i := 74) rfl)
theorem tbX4_frighten : ∀ w ∈ wsX4_frighten, w ∈ lw_tbl := tb_cons tp_872 (tb_app tboX4_frighten tbn_2)
theorem tp_314 : (Cond.fieldLink RX4 57 "HiredEnemy$Pact" "said" "[I") ∈ lw_tbl := tbC_in 0 _ (List.mem_of_getElem? (i := 236) rfl)
theorem tp_869 : (Cond.methodLink RX4 64 yX4_frighten) ∈ lw_tbl := tbC_in 3 _ (List.mem_of_getElem? (i := 71) rfl)
theorem tp_871 : (Cond.instanceMethod yX4_frighten) ∈ lw_tbl := tbC_in 3 _ (List.mem_of_getElem? (i := 73) rfl)
theorem tp_24 : (Cond.selects RX4 yX4_frighten yX4_frighten) ∈ lw_tbl := tbC_in 7 _ (List.mem_of_getElem? (i := 24) rfl)
set_option maxRecDepth 20000 in
theorem tboX4_breach : ∀ w ∈ woX4_breach, w ∈ lw_tbl := (tb_cons tp_194 (tb_cons tp_160 (tb_cons tp_156 (tb_cons tp_314 (tb_cons tp_869 (tb_cons tp_871 (tb_cons tp_24 (tb_cons tp_84 (tb_cons tp_536 (tb_cons tp_96 (tb_cons tp_840 (tb_cons tp_842 (tb_cons tp_19 tb_nil)))))))))))))
theorem tp_868 : (Cond.code yX4_breach cX4_breach 4 none) ∈ lw_tbl := tbC_in 3 _ (List.mem_of_getElem? (i := 70) rfl)
theorem tbX4_breach : ∀ w ∈ wsX4_breach, w ∈ lw_tbl := tb_cons tp_868 (tb_app tboX4_breach (tb_app tbn_2 (tb_app tbn_1 (tb_app tbn_8 (tb_app tbX4_frighten tbX4_move)))))
theorem tp_857 : (Cond.methodLink RX4 87 yX5_wallDue) ∈ lw_tbl := tbC_in 3 _ (List.mem_of_getElem? (i := 59) rfl)
theorem tp_858 : (Cond.instanceMethod yX5_wallDue) ∈ lw_tbl := tbC_in 3 _ (List.mem_of_getElem? (i := 60) rfl)
theorem tp_859 : (Cond.selects RX5 yX5_wallDue yX5_wallDue) ∈ lw_tbl := tbC_in 3 _ (List.mem_of_getElem? (i := 61) rfl)
theorem tp_861 : (Cond.methodLink RX4 90 yX4_weakest) ∈ lw_tbl := tbC_in 3 _ (List.mem_of_getElem? (i := 63) rfl)
theorem tp_863 : (Cond.instanceMethod yX4_weakest) ∈ lw_tbl := tbC_in 3 _ (List.mem_of_getElem? (i := 65) rfl)
theorem tp_22 : (Cond.selects RX4 yX4_weakest yX4_weakest) ∈ lw_tbl := tbC_in 7 _ (List.mem_of_getElem? (i := 22) rfl)
theorem tp_865 : (Cond.methodLink RX4 93 yX4_breach) ∈ lw_tbl := tbC_in 3 _ (List.mem_of_getElem? (i := 67) rfl)
theorem tp_867 : (Cond.instanceMethod yX4_breach) ∈ lw_tbl := tbC_in 3 _ (List.mem_of_getElem? (i := 69) rfl)
theorem tp_23 : (Cond.selects RX4 yX4_breach yX4_breach) ∈ lw_tbl := tbC_in 7 _ (List.mem_of_getElem? (i := 23) rfl)
set_option maxRecDepth 20000 in
theorem tboX4_shoot : ∀ w ∈ woX4_shoot, w ∈ lw_tbl := (tb_cons tp_200 (tb_cons tp_194 (tb_cons tp_167 (tb_cons tp_314 (tb_cons tp_197 (tb_cons tp_857 (tb_cons tp_858 (tb_cons tp_859 (tb_cons tp_89 (tb_cons tp_79 (tb_cons tp_861 (tb_cons tp_863 (tb_cons tp_22 (tb_cons tp_84 (tb_cons tp_865 (tb_cons tp_867 (tb_cons tp_23 (tb_cons tp_536 (tb_cons tp_96 tb_nil)))))))))))))))))))
theorem tp_856 : (Cond.code yX4_shoot cX4_shoot 9 none) ∈ lw_tbl := tbC_in 3 _ (List.mem_of_getElem? (i := 58) rfl)
theorem tbX4_shoot : ∀ w ∈ wsX4_shoot, w ∈ lw_tbl := tb_cons tp_856 (tb_app tboX4_shoot (tb_app tbn_2 (tb_app tbn_1 (tb_app tbn_8 (tb_app tbX5_wallDue (tb_app tbX4_weakest tbX4_breach))))))
set_option maxRecDepth 20000 in
theorem tboX6_fearAt : ∀ w ∈ woX6_fearAt, w ∈ lw_tbl := (tb_cons tp_157 (tb_cons tp_425 (tb_cons tp_79 tb_nil)))
theorem tp_876 : (Cond.code yX6_fearAt cX6_fearAt 2 (some .int)) ∈ lw_tbl := tbC_in 3 _ (List.mem_of_getElem? (i := 78) rfl)
theorem tbX6_fearAt : ∀ w ∈ wsX6_fearAt, w ∈ lw_tbl := tb_cons tp_876 (tb_app tboX6_fearAt (tb_app tbn_1 tbX10_within))
theorem tp_164 : (Cond.fieldLink RX4 97 "HiredEnemy$Plan" "mended" "[I") ∈ lw_tbl := tbC_in 0 _ (List.mem_of_getElem? (i := 86) rfl)
set_option maxRecDepth 20000 in
theorem tboX4_mend : ∀ w ∈ woX4_mend, w ∈ lw_tbl := (tb_cons tp_156 (tb_cons tp_167 (tb_cons tp_164 (tb_cons tp_160 (tb_cons tp_194 (tb_cons tp_844 (tb_cons tp_536 (tb_cons tp_96 (tb_cons tp_840 (tb_cons tp_842 (tb_cons tp_19 (tb_cons tp_84 tb_nil))))))))))))
theorem tp_881 : (Cond.code yX4_mend cX4_mend 5 none) ∈ lw_tbl := tbC_in 3 _ (List.mem_of_getElem? (i := 83) rfl)
theorem tbX4_mend : ∀ w ∈ wsX4_mend, w ∈ lw_tbl := tb_cons tp_881 (tb_app tboX4_mend (tb_app tbn_1 (tb_app tbn_2 tbX4_move)))
theorem tp_886 : (Cond.methodLink RX4 100 Lib.Math.abs.name) ∈ lw_tbl := tbC_in 3 _ (List.mem_of_getElem? (i := 88) rfl)
theorem tp_887 : (Cond.static Lib.Math.abs.name) ∈ lw_tbl := tbC_in 3 _ (List.mem_of_getElem? (i := 89) rfl)
theorem tp_888 : (Cond.code Lib.Math.abs.name Lib.Math.abs.code 1 (some .int)) ∈ lw_tbl := tbC_in 3 _ (List.mem_of_getElem? (i := 90) rfl)
set_option maxRecDepth 20000 in
theorem tboX4_desert : ∀ w ∈ woX4_desert, w ∈ lw_tbl := (tb_cons tp_194 (tb_cons tp_886 (tb_cons tp_887 (tb_cons tp_96 (tb_cons tp_888 tb_nil)))))
theorem tp_885 : (Cond.code yX4_desert cX4_desert 5 none) ∈ lw_tbl := tbC_in 3 _ (List.mem_of_getElem? (i := 87) rfl)
theorem tbX4_desert : ∀ w ∈ wsX4_desert, w ∈ lw_tbl := tb_cons tp_885 (tb_app tboX4_desert tbn_2)
theorem tp_877 : (Cond.methodLink RX4 68 Lib.Math.max.name) ∈ lw_tbl := tbC_in 3 _ (List.mem_of_getElem? (i := 79) rfl)
theorem tp_403 : (Cond.static Lib.Math.max.name) ∈ lw_tbl := tbC_in 1 _ (List.mem_of_getElem? (i := 85) rfl)
theorem tp_404 : (Cond.code Lib.Math.max.name Lib.Math.max.code 2 (some .int)) ∈ lw_tbl := tbC_in 1 _ (List.mem_of_getElem? (i := 86) rfl)
theorem tp_845 : (Cond.methodLink RX4 49 yX4_isPaid) ∈ lw_tbl := tbC_in 3 _ (List.mem_of_getElem? (i := 47) rfl)
theorem tp_847 : (Cond.instanceMethod yX4_isPaid) ∈ lw_tbl := tbC_in 3 _ (List.mem_of_getElem? (i := 49) rfl)
theorem tp_20 : (Cond.selects RX4 yX4_isPaid yX4_isPaid) ∈ lw_tbl := tbC_in 7 _ (List.mem_of_getElem? (i := 20) rfl)
theorem tp_853 : (Cond.methodLink RX4 53 yX4_shoot) ∈ lw_tbl := tbC_in 3 _ (List.mem_of_getElem? (i := 55) rfl)
theorem tp_855 : (Cond.instanceMethod yX4_shoot) ∈ lw_tbl := tbC_in 3 _ (List.mem_of_getElem? (i := 57) rfl)
theorem tp_21 : (Cond.selects RX4 yX4_shoot yX4_shoot) ∈ lw_tbl := tbC_in 7 _ (List.mem_of_getElem? (i := 21) rfl)
theorem tp_873 : (Cond.methodLink RX4 60 yX6_fearAt) ∈ lw_tbl := tbC_in 3 _ (List.mem_of_getElem? (i := 75) rfl)
theorem tp_874 : (Cond.instanceMethod yX6_fearAt) ∈ lw_tbl := tbC_in 3 _ (List.mem_of_getElem? (i := 76) rfl)
theorem tp_875 : (Cond.selects RX6 yX6_fearAt yX6_fearAt) ∈ lw_tbl := tbC_in 3 _ (List.mem_of_getElem? (i := 77) rfl)
theorem tp_878 : (Cond.methodLink RX4 74 yX4_mend) ∈ lw_tbl := tbC_in 3 _ (List.mem_of_getElem? (i := 80) rfl)
theorem tp_880 : (Cond.instanceMethod yX4_mend) ∈ lw_tbl := tbC_in 3 _ (List.mem_of_getElem? (i := 82) rfl)
theorem tp_25 : (Cond.selects RX4 yX4_mend yX4_mend) ∈ lw_tbl := tbC_in 7 _ (List.mem_of_getElem? (i := 25) rfl)
theorem tp_882 : (Cond.methodLink RX4 78 yX4_desert) ∈ lw_tbl := tbC_in 3 _ (List.mem_of_getElem? (i := 84) rfl)
theorem tp_884 : (Cond.instanceMethod yX4_desert) ∈ lw_tbl := tbC_in 3 _ (List.mem_of_getElem? (i := 86) rfl)
theorem tp_26 : (Cond.selects RX4 yX4_desert yX4_desert) ∈ lw_tbl := tbC_in 7 _ (List.mem_of_getElem? (i := 26) rfl)
set_option maxRecDepth 20000 in
theorem tboX4_pass : ∀ w ∈ woX4_pass, w ∈ lw_tbl := (tb_cons tp_197 (tb_cons tp_194 (tb_cons tp_156 (tb_cons tp_314 (tb_cons tp_877 (tb_cons tp_403 (tb_cons tp_96 (tb_cons tp_404 (tb_cons tp_200 (tb_cons tp_328 (tb_cons tp_329 (tb_cons tp_90 (tb_cons tp_840 (tb_cons tp_842 (tb_cons tp_19 (tb_cons tp_84 (tb_cons tp_536 (tb_cons tp_845 (tb_cons tp_847 (tb_cons tp_20 (tb_cons tp_89 (tb_cons tp_853 (tb_cons tp_855 (tb_cons tp_21 (tb_cons tp_79 (tb_cons tp_869 (tb_cons tp_871 (tb_cons tp_24 (tb_cons tp_873 (tb_cons tp_874 (tb_cons tp_875 (tb_cons tp_82 (tb_cons tp_878 (tb_cons tp_880 (tb_cons tp_25 (tb_cons tp_882 (tb_cons tp_884 (tb_cons tp_26 (tb_cons tp_887 tb_nil)))))))))))))))))))))))))))))))))))))))
theorem tp_839 : (Cond.code yX4_pass cX4_pass 3 none) ∈ lw_tbl := tbC_in 3 _ (List.mem_of_getElem? (i := 41) rfl)
theorem tbX4_pass : ∀ w ∈ wsX4_pass, w ∈ lw_tbl := tb_cons tp_839 (tb_app tboX4_pass (tb_app tbn_2 (tb_app tbn_1 (tb_app tbn_8 (tb_app tbJ7_fill_53178 (tb_app tbX4_move (tb_app tbX4_isPaid (tb_app tbX4_shoot (tb_app tbX6_fearAt (tb_app tbX4_frighten (tb_app tbX4_mend tbX4_desert)))))))))))
theorem tp_198 : (Cond.fieldLink RX0 34 "HiredEnemy$Course" "shot" "[I") ∈ lw_tbl := tbC_in 0 _ (List.mem_of_getElem? (i := 120) rfl)
set_option maxRecDepth 20000 in
theorem tboX0_lead : ∀ w ∈ woX0_lead, w ∈ lw_tbl := (tb_cons tp_199 (tb_cons tp_198 (tb_cons tp_216 (tb_cons tp_427 (tb_cons tp_419 (tb_cons tp_418 (tb_cons tp_103 (tb_cons tp_425 (tb_cons tp_79 tb_nil)))))))))
theorem tp_892 : (Cond.code yX0_lead cX0_lead 2 none) ∈ lw_tbl := tbC_in 3 _ (List.mem_of_getElem? (i := 94) rfl)
theorem tbX0_lead : ∀ w ∈ wsX0_lead, w ∈ lw_tbl := tb_cons tp_892 (tb_app tboX0_lead (tb_app tbn_2 (tb_app tbn_3 tbX10_within)))
theorem tp_267 : (Cond.fieldLink RX10 143 "HiredEnemy$Scene" "annals" "LHiredEnemy$Annals;") ∈ lw_tbl := tbC_in 0 _ (List.mem_of_getElem? (i := 189) rfl)
theorem tp_828 : (Cond.methodLink RX10 147 yX0_keep) ∈ lw_tbl := tbC_in 3 _ (List.mem_of_getElem? (i := 30) rfl)
theorem tp_829 : (Cond.instanceMethod yX0_keep) ∈ lw_tbl := tbC_in 3 _ (List.mem_of_getElem? (i := 31) rfl)
theorem tp_830 : (Cond.selects RX0 yX0_keep yX0_keep) ∈ lw_tbl := tbC_in 3 _ (List.mem_of_getElem? (i := 32) rfl)
theorem tp_832 : (Cond.methodLink RX10 153 yX10_inForce) ∈ lw_tbl := tbC_in 3 _ (List.mem_of_getElem? (i := 34) rfl)
theorem tp_834 : (Cond.instanceMethod yX10_inForce) ∈ lw_tbl := tbC_in 3 _ (List.mem_of_getElem? (i := 36) rfl)
theorem tp_18 : (Cond.selects RX10 yX10_inForce yX10_inForce) ∈ lw_tbl := tbC_in 7 _ (List.mem_of_getElem? (i := 18) rfl)
theorem tp_836 : (Cond.methodLink RX10 157 yX4_pass) ∈ lw_tbl := tbC_in 3 _ (List.mem_of_getElem? (i := 38) rfl)
theorem tp_837 : (Cond.instanceMethod yX4_pass) ∈ lw_tbl := tbC_in 3 _ (List.mem_of_getElem? (i := 39) rfl)
theorem tp_838 : (Cond.selects RX4 yX4_pass yX4_pass) ∈ lw_tbl := tbC_in 3 _ (List.mem_of_getElem? (i := 40) rfl)
theorem tp_889 : (Cond.methodLink RX10 161 yX0_lead) ∈ lw_tbl := tbC_in 3 _ (List.mem_of_getElem? (i := 91) rfl)
theorem tp_890 : (Cond.instanceMethod yX0_lead) ∈ lw_tbl := tbC_in 3 _ (List.mem_of_getElem? (i := 92) rfl)
theorem tp_891 : (Cond.selects RX0 yX0_lead yX0_lead) ∈ lw_tbl := tbC_in 3 _ (List.mem_of_getElem? (i := 93) rfl)
set_option maxRecDepth 20000 in
theorem tboX10_months : ∀ w ∈ woX10_months, w ∈ lw_tbl := (tb_cons tp_338 (tb_cons tp_265 (tb_cons tp_202 (tb_cons tp_267 (tb_cons tp_334 (tb_cons tp_446 (tb_cons tp_425 (tb_cons tp_79 (tb_cons tp_459 (tb_cons tp_461 (tb_cons tp_3 (tb_cons tp_95 (tb_cons tp_828 (tb_cons tp_829 (tb_cons tp_830 (tb_cons tp_85 (tb_cons tp_419 (tb_cons tp_418 (tb_cons tp_103 (tb_cons tp_832 (tb_cons tp_834 (tb_cons tp_18 (tb_cons tp_836 (tb_cons tp_837 (tb_cons tp_838 (tb_cons tp_84 (tb_cons tp_403 (tb_cons tp_96 (tb_cons tp_90 (tb_cons tp_536 (tb_cons tp_89 (tb_cons tp_82 (tb_cons tp_887 (tb_cons tp_889 (tb_cons tp_890 (tb_cons tp_891 tb_nil))))))))))))))))))))))))))))))))))))
theorem tp_827 : (Cond.code yX10_months cX10_months 3 (some .int)) ∈ lw_tbl := tbC_in 3 _ (List.mem_of_getElem? (i := 29) rfl)
theorem tbX10_months : ∀ w ∈ wsX10_months, w ∈ lw_tbl := tb_cons tp_827 (tb_app tboX10_months (tb_app tbn_9 (tb_app tbn_6 (tb_app tbn_2 (tb_app tbn_3 (tb_app tbn_1 (tb_app tbn_8 (tb_app tbX10_within (tb_app tbX10_demand (tb_app tbX0_keep (tb_app tbX10_inForce (tb_app tbX4_pass tbX0_lead))))))))))))
theorem tp_824 : (Cond.methodLink RL 38 yX10_months) ∈ lw_tbl := tbC_in 3 _ (List.mem_of_getElem? (i := 26) rfl)
theorem tp_825 : (Cond.instanceMethod yX10_months) ∈ lw_tbl := tbC_in 3 _ (List.mem_of_getElem? (i := 27) rfl)
theorem tp_826 : (Cond.selects RX10 yX10_months yX10_months) ∈ lw_tbl := tbC_in 3 _ (List.mem_of_getElem? (i := 28) rfl)
set_option maxRecDepth 20000 in
theorem tboL_months : ∀ w ∈ woL_months, w ∈ lw_tbl := (tb_cons tp_454 (tb_cons tp_824 (tb_cons tp_825 (tb_cons tp_826 (tb_cons tp_79 (tb_cons tp_95 (tb_cons tp_85 (tb_cons tp_419 (tb_cons tp_418 (tb_cons tp_103 (tb_cons tp_84 (tb_cons tp_403 (tb_cons tp_96 (tb_cons tp_90 (tb_cons tp_536 (tb_cons tp_89 (tb_cons tp_82 (tb_cons tp_887 tb_nil))))))))))))))))))
theorem tp_823 : (Cond.codeWith yL_months cL_months 4 (some .int) [(0, 9, 12, 13)]) ∈ lw_tbl := tbC_in 3 _ (List.mem_of_getElem? (i := 25) rfl)
theorem tbL_months : ∀ w ∈ wsL_months, w ∈ lw_tbl := tb_cons tp_823 (tb_app tboL_months (tb_app tbn_9 (tb_app tbn_6 (tb_app tbn_2 (tb_app tbn_3 (tb_app tbn_1 (tb_app tbn_8 tbX10_months)))))))
theorem tp_1365 : (Cond.code yX11_less cX11_less 2 (some .int)) ∈ lw_tbl := tbC_in 5 _ (List.mem_of_getElem? (i := 87) rfl)
theorem tbX11_less : ∀ w ∈ wsX11_less, w ∈ lw_tbl := tb_cons tp_1365 tb_nil
theorem tp_1363 : (Cond.methodLink RX11 186 yX11_less) ∈ lw_tbl := tbC_in 5 _ (List.mem_of_getElem? (i := 85) rfl)
theorem tp_1364 : (Cond.static yX11_less) ∈ lw_tbl := tbC_in 5 _ (List.mem_of_getElem? (i := 86) rfl)
set_option maxRecDepth 20000 in
theorem tboX11_pays : ∀ w ∈ woX11_pays, w ∈ lw_tbl := (tb_cons tp_1150 (tb_cons tp_1363 (tb_cons tp_1364 (tb_cons tp_91 tb_nil))))
theorem tp_1362 : (Cond.code yX11_pays cX11_pays 5 none) ∈ lw_tbl := tbC_in 5 _ (List.mem_of_getElem? (i := 84) rfl)
theorem tbX11_pays : ∀ w ∈ wsX11_pays, w ∈ lw_tbl := tb_cons tp_1362 (tb_app tboX11_pays (tb_app tbn_10 tbX11_less))
set_option maxRecDepth 20000 in
theorem tboX11_weakest : ∀ w ∈ woX11_weakest, w ∈ lw_tbl := (tb_cons tp_1142 (tb_cons tp_1150 tb_nil))
theorem tp_1377 : (Cond.code yX11_weakest cX11_weakest 3 (some .int)) ∈ lw_tbl := tbC_in 5 _ (List.mem_of_getElem? (i := 99) rfl)
theorem tbX11_weakest : ∀ w ∈ wsX11_weakest, w ∈ lw_tbl := tb_cons tp_1377 (tb_app tboX11_weakest tbn_10)
set_option maxRecDepth 20000 in
theorem tboX11_fears : ∀ w ∈ woX11_fears, w ∈ lw_tbl := (tb_cons tp_1150 (tb_cons tp_1363 (tb_cons tp_1364 (tb_cons tp_91 tb_nil))))
theorem tp_1381 : (Cond.code yX11_fears cX11_fears 2 none) ∈ lw_tbl := tbC_in 5 _ (List.mem_of_getElem? (i := 103) rfl)
theorem tbX11_fears : ∀ w ∈ wsX11_fears, w ∈ lw_tbl := tb_cons tp_1381 (tb_app tboX11_fears (tb_app tbn_10 tbX11_less))
theorem tp_1154 : (Cond.fieldLink RX11 192 "HiredEnemyModel" "isReal" "Z") ∈ lw_tbl := tbC_in 4 _ (List.mem_of_getElem? (i := 116) rfl)
theorem tp_1374 : (Cond.methodLink RX11 189 yX11_weakest) ∈ lw_tbl := tbC_in 5 _ (List.mem_of_getElem? (i := 96) rfl)
theorem tp_1376 : (Cond.instanceMethod yX11_weakest) ∈ lw_tbl := tbC_in 5 _ (List.mem_of_getElem? (i := 98) rfl)
theorem tp_60 : (Cond.selects RX11 yX11_weakest yX11_weakest) ∈ lw_tbl := tbC_in 7 _ (List.mem_of_getElem? (i := 60) rfl)
theorem tp_1378 : (Cond.methodLink RX11 196 yX11_fears) ∈ lw_tbl := tbC_in 5 _ (List.mem_of_getElem? (i := 100) rfl)
theorem tp_1380 : (Cond.instanceMethod yX11_fears) ∈ lw_tbl := tbC_in 5 _ (List.mem_of_getElem? (i := 102) rfl)
theorem tp_61 : (Cond.selects RX11 yX11_fears yX11_fears) ∈ lw_tbl := tbC_in 7 _ (List.mem_of_getElem? (i := 61) rfl)
theorem tp_1359 : (Cond.methodLink RX11 199 yX11_pays) ∈ lw_tbl := tbC_in 5 _ (List.mem_of_getElem? (i := 81) rfl)
theorem tp_1361 : (Cond.instanceMethod yX11_pays) ∈ lw_tbl := tbC_in 5 _ (List.mem_of_getElem? (i := 83) rfl)
theorem tp_57 : (Cond.selects RX11 yX11_pays yX11_pays) ∈ lw_tbl := tbC_in 7 _ (List.mem_of_getElem? (i := 57) rfl)
set_option maxRecDepth 20000 in
theorem tboX11_shoots : ∀ w ∈ woX11_shoots, w ∈ lw_tbl := (tb_cons tp_1150 (tb_cons tp_1142 (tb_cons tp_1154 (tb_cons tp_1153 (tb_cons tp_1144 (tb_cons tp_1374 (tb_cons tp_1376 (tb_cons tp_60 (tb_cons tp_91 (tb_cons tp_1378 (tb_cons tp_1380 (tb_cons tp_61 (tb_cons tp_1359 (tb_cons tp_1361 (tb_cons tp_57 tb_nil)))))))))))))))
theorem tp_1373 : (Cond.code yX11_shoots cX11_shoots 7 none) ∈ lw_tbl := tbC_in 5 _ (List.mem_of_getElem? (i := 95) rfl)
theorem tbX11_shoots : ∀ w ∈ wsX11_shoots, w ∈ lw_tbl := tb_cons tp_1373 (tb_app tboX11_shoots (tb_app tbn_10 (tb_app tbX11_weakest (tb_app tbX11_fears tbX11_pays))))
theorem tp_1370 : (Cond.methodLink RX11 203 yX11_shoots) ∈ lw_tbl := tbC_in 5 _ (List.mem_of_getElem? (i := 92) rfl)
theorem tp_1372 : (Cond.instanceMethod yX11_shoots) ∈ lw_tbl := tbC_in 5 _ (List.mem_of_getElem? (i := 94) rfl)
theorem tp_59 : (Cond.selects RX11 yX11_shoots yX11_shoots) ∈ lw_tbl := tbC_in 7 _ (List.mem_of_getElem? (i := 59) rfl)
set_option maxRecDepth 20000 in
theorem tboX11_underContract : ∀ w ∈ woX11_underContract, w ∈ lw_tbl := (tb_cons tp_1148 (tb_cons tp_1150 (tb_cons tp_1149 (tb_cons tp_1347 (tb_cons tp_1349 (tb_cons tp_55 (tb_cons tp_91 (tb_cons tp_1359 (tb_cons tp_1361 (tb_cons tp_57 (tb_cons tp_1370 (tb_cons tp_1372 (tb_cons tp_59 tb_nil)))))))))))))
theorem tp_1369 : (Cond.code yX11_underContract cX11_underContract 4 none) ∈ lw_tbl := tbC_in 5 _ (List.mem_of_getElem? (i := 91) rfl)
theorem tbX11_underContract : ∀ w ∈ wsX11_underContract, w ∈ lw_tbl := tb_cons tp_1369 (tb_app tboX11_underContract (tb_app tbn_10 (tb_app tbX11_signs (tb_app tbX11_pays tbX11_shoots))))
set_option maxRecDepth 20000 in
theorem tboX11_mends : ∀ w ∈ woX11_mends, w ∈ lw_tbl := (tb_cons tp_1142 (tb_cons tp_1144 (tb_cons tp_1150 (tb_cons tp_1363 (tb_cons tp_1364 (tb_cons tp_91 (tb_cons tp_1359 (tb_cons tp_1361 (tb_cons tp_57 tb_nil)))))))))
theorem tp_1385 : (Cond.code yX11_mends cX11_mends 4 none) ∈ lw_tbl := tbC_in 5 _ (List.mem_of_getElem? (i := 107) rfl)
theorem tbX11_mends : ∀ w ∈ wsX11_mends, w ∈ lw_tbl := tb_cons tp_1385 (tb_app tboX11_mends (tb_app tbn_10 (tb_app tbX11_less tbX11_pays)))
set_option maxRecDepth 20000 in
theorem tboX11_deserts : ∀ w ∈ woX11_deserts, w ∈ lw_tbl := (tb_cons tp_1142 (tb_cons tp_1150 tb_nil))
theorem tp_1389 : (Cond.code yX11_deserts cX11_deserts 4 none) ∈ lw_tbl := tbC_in 5 _ (List.mem_of_getElem? (i := 111) rfl)
theorem tbX11_deserts : ∀ w ∈ wsX11_deserts, w ∈ lw_tbl := tb_cons tp_1389 (tb_app tboX11_deserts tbn_10)
theorem tp_1366 : (Cond.methodLink RX11 207 yX11_underContract) ∈ lw_tbl := tbC_in 5 _ (List.mem_of_getElem? (i := 88) rfl)
theorem tp_1368 : (Cond.instanceMethod yX11_underContract) ∈ lw_tbl := tbC_in 5 _ (List.mem_of_getElem? (i := 90) rfl)
theorem tp_58 : (Cond.selects RX11 yX11_underContract yX11_underContract) ∈ lw_tbl := tbC_in 7 _ (List.mem_of_getElem? (i := 58) rfl)
theorem tp_1382 : (Cond.methodLink RX11 210 yX11_mends) ∈ lw_tbl := tbC_in 5 _ (List.mem_of_getElem? (i := 104) rfl)
theorem tp_1384 : (Cond.instanceMethod yX11_mends) ∈ lw_tbl := tbC_in 5 _ (List.mem_of_getElem? (i := 106) rfl)
theorem tp_62 : (Cond.selects RX11 yX11_mends yX11_mends) ∈ lw_tbl := tbC_in 7 _ (List.mem_of_getElem? (i := 62) rfl)
theorem tp_1386 : (Cond.methodLink RX11 213 yX11_deserts) ∈ lw_tbl := tbC_in 5 _ (List.mem_of_getElem? (i := 108) rfl)
theorem tp_1388 : (Cond.instanceMethod yX11_deserts) ∈ lw_tbl := tbC_in 5 _ (List.mem_of_getElem? (i := 110) rfl)
theorem tp_63 : (Cond.selects RX11 yX11_deserts yX11_deserts) ∈ lw_tbl := tbC_in 7 _ (List.mem_of_getElem? (i := 63) rfl)
set_option maxRecDepth 20000 in
theorem tboX11_monthGoes : ∀ w ∈ woX11_monthGoes, w ∈ lw_tbl := (tb_cons tp_1150 (tb_cons tp_1142 (tb_cons tp_1148 (tb_cons tp_1359 (tb_cons tp_1361 (tb_cons tp_57 (tb_cons tp_91 (tb_cons tp_1366 (tb_cons tp_1368 (tb_cons tp_58 (tb_cons tp_1347 (tb_cons tp_1349 (tb_cons tp_55 (tb_cons tp_1382 (tb_cons tp_1384 (tb_cons tp_62 (tb_cons tp_1386 (tb_cons tp_1388 (tb_cons tp_63 tb_nil)))))))))))))))))))
theorem tp_1358 : (Cond.code yX11_monthGoes cX11_monthGoes 1 none) ∈ lw_tbl := tbC_in 5 _ (List.mem_of_getElem? (i := 80) rfl)
theorem tbX11_monthGoes : ∀ w ∈ wsX11_monthGoes, w ∈ lw_tbl := tb_cons tp_1358 (tb_app tboX11_monthGoes (tb_app tbn_10 (tb_app tbX11_pays (tb_app tbX11_underContract (tb_app tbX11_mends (tb_app tbX11_deserts tbX11_signs))))))
theorem tp_1355 : (Cond.methodLink RX11 216 yX11_monthGoes) ∈ lw_tbl := tbC_in 5 _ (List.mem_of_getElem? (i := 77) rfl)
theorem tp_1357 : (Cond.instanceMethod yX11_monthGoes) ∈ lw_tbl := tbC_in 5 _ (List.mem_of_getElem? (i := 79) rfl)
theorem tp_56 : (Cond.selects RX11 yX11_monthGoes yX11_monthGoes) ∈ lw_tbl := tbC_in 7 _ (List.mem_of_getElem? (i := 56) rfl)
set_option maxRecDepth 20000 in
theorem tboX11_months : ∀ w ∈ woX11_months, w ∈ lw_tbl := (tb_cons tp_1131 (tb_cons tp_1154 (tb_cons tp_1150 (tb_cons tp_1152 (tb_cons tp_1153 (tb_cons tp_1245 (tb_cons tp_1246 (tb_cons tp_91 (tb_cons tp_1248 (tb_cons tp_1250 (tb_cons tp_39 (tb_cons tp_1355 (tb_cons tp_1357 (tb_cons tp_56 tb_nil))))))))))))))
theorem tp_1354 : (Cond.code yX11_months cX11_months 5 (some .int)) ∈ lw_tbl := tbC_in 5 _ (List.mem_of_getElem? (i := 76) rfl)
theorem tbX11_months : ∀ w ∈ wsX11_months, w ∈ lw_tbl := tb_cons tp_1354 (tb_app tboX11_months (tb_app tbn_10 (tb_app tbX11_in (tb_app tbX11_bad tbX11_monthGoes))))
set_option maxRecDepth 20000 in
theorem tboX0_giveBack : ∀ w ∈ woX0_giveBack, w ∈ lw_tbl := (tb_cons tp_216 (tb_cons tp_195 (tb_cons tp_427 (tb_cons tp_419 (tb_cons tp_418 (tb_cons tp_103 (tb_cons tp_199 (tb_cons tp_425 (tb_cons tp_79 tb_nil)))))))))
end
section
theorem tp_904 : (Cond.code yX0_giveBack cX0_giveBack 3 none) ∈ lw_tbl := tbC_in 3 _ (List.mem_of_getElem? (i := 106) rfl)
theorem tbX0_giveBack : ∀ w ∈ wsX0_giveBack, w ∈ lw_tbl := tb_cons tp_904 (tb_app tboX0_giveBack (tb_app tbn_3 (tb_app tbn_2 tbX10_within)))
theorem tp_900 : (Cond.methodLink RX10 164 Lib.Math.min.name) ∈ lw_tbl := tbC_in 3 _ (List.mem_of_getElem? (i := 102) rfl)
theorem tp_901 : (Cond.methodLink RX10 169 yX0_giveBack) ∈ lw_tbl := tbC_in 3 _ (List.mem_of_getElem? (i := 103) rfl)
theorem tp_902 : (Cond.instanceMethod yX0_giveBack) ∈ lw_tbl := tbC_in 3 _ (List.mem_of_getElem? (i := 104) rfl)
theorem tp_903 : (Cond.selects RX0 yX0_giveBack yX0_giveBack) ∈ lw_tbl := tbC_in 3 _ (List.mem_of_getElem? (i := 105) rfl)
set_option maxRecDepth 20000 in
theorem tboX10_undo : ∀ w ∈ woX10_undo, w ∈ lw_tbl := (tb_cons tp_338 (tb_cons tp_265 (tb_cons tp_202 (tb_cons tp_900 (tb_cons tp_536 (tb_cons tp_96 (tb_cons tp_537 (tb_cons tp_267 (tb_cons tp_446 (tb_cons tp_425 (tb_cons tp_79 (tb_cons tp_459 (tb_cons tp_461 (tb_cons tp_3 (tb_cons tp_95 (tb_cons tp_901 (tb_cons tp_902 (tb_cons tp_903 (tb_cons tp_85 (tb_cons tp_419 (tb_cons tp_418 (tb_cons tp_103 tb_nil))))))))))))))))))))))
theorem tp_899 : (Cond.code yX10_undo cX10_undo 3 (some .int)) ∈ lw_tbl := tbC_in 3 _ (List.mem_of_getElem? (i := 101) rfl)
theorem tbX10_undo : ∀ w ∈ wsX10_undo, w ∈ lw_tbl := tb_cons tp_899 (tb_app tboX10_undo (tb_app tbn_9 (tb_app tbn_6 (tb_app tbn_2 (tb_app tbn_3 (tb_app tbX10_within (tb_app tbX10_demand tbX0_giveBack)))))))
theorem tp_896 : (Cond.methodLink RL 41 yX10_undo) ∈ lw_tbl := tbC_in 3 _ (List.mem_of_getElem? (i := 98) rfl)
theorem tp_897 : (Cond.instanceMethod yX10_undo) ∈ lw_tbl := tbC_in 3 _ (List.mem_of_getElem? (i := 99) rfl)
theorem tp_898 : (Cond.selects RX10 yX10_undo yX10_undo) ∈ lw_tbl := tbC_in 3 _ (List.mem_of_getElem? (i := 100) rfl)
set_option maxRecDepth 20000 in
theorem tboL_undo : ∀ w ∈ woL_undo, w ∈ lw_tbl := (tb_cons tp_454 (tb_cons tp_896 (tb_cons tp_897 (tb_cons tp_898 (tb_cons tp_79 (tb_cons tp_536 (tb_cons tp_96 (tb_cons tp_95 (tb_cons tp_85 (tb_cons tp_419 (tb_cons tp_418 (tb_cons tp_103 tb_nil))))))))))))
theorem tp_895 : (Cond.codeWith yL_undo cL_undo 4 (some .int) [(0, 9, 12, 13)]) ∈ lw_tbl := tbC_in 3 _ (List.mem_of_getElem? (i := 97) rfl)
theorem tbL_undo : ∀ w ∈ wsL_undo, w ∈ lw_tbl := tb_cons tp_895 (tb_app tboL_undo (tb_app tbn_9 (tb_app tbn_6 (tb_app tbn_2 (tb_app tbn_3 tbX10_undo)))))
set_option maxRecDepth 20000 in
theorem tboX11_undo : ∀ w ∈ woX11_undo, w ∈ lw_tbl := (tb_cons tp_1131 (tb_cons tp_1150 (tb_cons tp_1152 (tb_cons tp_1245 (tb_cons tp_1246 (tb_cons tp_91 (tb_cons tp_1248 (tb_cons tp_1250 (tb_cons tp_39 (tb_cons tp_1363 (tb_cons tp_1364 tb_nil)))))))))))
theorem tp_1393 : (Cond.code yX11_undo cX11_undo 5 (some .int)) ∈ lw_tbl := tbC_in 5 _ (List.mem_of_getElem? (i := 115) rfl)
theorem tbX11_undo : ∀ w ∈ wsX11_undo, w ∈ lw_tbl := tb_cons tp_1393 (tb_app tboX11_undo (tb_app tbn_10 (tb_app tbX11_in (tb_app tbX11_bad tbX11_less))))
set_option maxRecDepth 20000 in
theorem tboX10_sums : ∀ w ∈ woX10_sums, w ∈ lw_tbl := (tb_cons tp_338 (tb_cons tp_265 (tb_cons tp_196 (tb_cons tp_446 (tb_cons tp_425 (tb_cons tp_79 (tb_cons tp_459 (tb_cons tp_461 (tb_cons tp_3 (tb_cons tp_95 tb_nil))))))))))
theorem tp_911 : (Cond.code yX10_sums cX10_sums 2 (some .int)) ∈ lw_tbl := tbC_in 3 _ (List.mem_of_getElem? (i := 113) rfl)
theorem tbX10_sums : ∀ w ∈ wsX10_sums, w ∈ lw_tbl := tb_cons tp_911 (tb_app tboX10_sums (tb_app tbn_9 (tb_app tbn_6 (tb_app tbn_2 (tb_app tbX10_within tbX10_demand)))))
theorem tp_908 : (Cond.methodLink RL 44 yX10_sums) ∈ lw_tbl := tbC_in 3 _ (List.mem_of_getElem? (i := 110) rfl)
theorem tp_909 : (Cond.instanceMethod yX10_sums) ∈ lw_tbl := tbC_in 3 _ (List.mem_of_getElem? (i := 111) rfl)
theorem tp_910 : (Cond.selects RX10 yX10_sums yX10_sums) ∈ lw_tbl := tbC_in 3 _ (List.mem_of_getElem? (i := 112) rfl)
set_option maxRecDepth 20000 in
theorem tboL_sums : ∀ w ∈ woL_sums, w ∈ lw_tbl := (tb_cons tp_454 (tb_cons tp_908 (tb_cons tp_909 (tb_cons tp_910 (tb_cons tp_79 (tb_cons tp_95 tb_nil))))))
theorem tp_907 : (Cond.codeWith yL_sums cL_sums 4 (some .int) [(0, 9, 12, 13)]) ∈ lw_tbl := tbC_in 3 _ (List.mem_of_getElem? (i := 109) rfl)
theorem tbL_sums : ∀ w ∈ wsL_sums, w ∈ lw_tbl := tb_cons tp_907 (tb_app tboL_sums (tb_app tbn_9 (tb_app tbn_6 (tb_app tbn_2 tbX10_sums))))
set_option maxRecDepth 20000 in
theorem tboX11_sums : ∀ w ∈ woX11_sums, w ∈ lw_tbl := (tb_cons tp_1131 (tb_cons tp_1150 (tb_cons tp_1245 (tb_cons tp_1246 (tb_cons tp_91 (tb_cons tp_1248 (tb_cons tp_1250 (tb_cons tp_39 tb_nil))))))))
theorem tp_1397 : (Cond.code yX11_sums cX11_sums 2 (some .int)) ∈ lw_tbl := tbC_in 5 _ (List.mem_of_getElem? (i := 119) rfl)
theorem tbX11_sums : ∀ w ∈ wsX11_sums, w ∈ lw_tbl := tb_cons tp_1397 (tb_app tboX11_sums (tb_app tbn_10 (tb_app tbX11_in tbX11_bad)))
set_option maxRecDepth 20000 in
theorem tboX0_shotAt : ∀ w ∈ woX0_shotAt, w ∈ lw_tbl := (tb_cons tp_216 tb_nil)
theorem tp_922 : (Cond.code yX0_shotAt cX0_shotAt 3 (some .int)) ∈ lw_tbl := tbC_in 3 _ (List.mem_of_getElem? (i := 124) rfl)
theorem tbX0_shotAt : ∀ w ∈ wsX0_shotAt, w ∈ lw_tbl := tb_cons tp_922 (tb_app tboX0_shotAt tbn_3)
theorem tp_919 : (Cond.methodLink RX10 173 yX0_shotAt) ∈ lw_tbl := tbC_in 3 _ (List.mem_of_getElem? (i := 121) rfl)
theorem tp_920 : (Cond.instanceMethod yX0_shotAt) ∈ lw_tbl := tbC_in 3 _ (List.mem_of_getElem? (i := 122) rfl)
theorem tp_921 : (Cond.selects RX0 yX0_shotAt yX0_shotAt) ∈ lw_tbl := tbC_in 3 _ (List.mem_of_getElem? (i := 123) rfl)
set_option maxRecDepth 20000 in
theorem tboX10_corks : ∀ w ∈ woX10_corks, w ∈ lw_tbl := (tb_cons tp_338 (tb_cons tp_265 (tb_cons tp_202 (tb_cons tp_267 (tb_cons tp_735 (tb_cons tp_737 (tb_cons tp_13 (tb_cons tp_79 (tb_cons tp_101 (tb_cons tp_446 (tb_cons tp_425 (tb_cons tp_459 (tb_cons tp_461 (tb_cons tp_3 (tb_cons tp_95 (tb_cons tp_919 (tb_cons tp_920 (tb_cons tp_921 (tb_cons tp_85 tb_nil)))))))))))))))))))
theorem tp_918 : (Cond.code yX10_corks cX10_corks 3 (some .int)) ∈ lw_tbl := tbC_in 3 _ (List.mem_of_getElem? (i := 120) rfl)
theorem tbX10_corks : ∀ w ∈ wsX10_corks, w ∈ lw_tbl := tb_cons tp_918 (tb_app tboX10_corks (tb_app tbn_9 (tb_app tbn_6 (tb_app tbn_2 (tb_app tbn_1 (tb_app tbn_3 (tb_app tbX10_demandWall (tb_app tbX10_within (tb_app tbX10_demand tbX0_shotAt)))))))))
theorem tp_915 : (Cond.methodLink RL 47 yX10_corks) ∈ lw_tbl := tbC_in 3 _ (List.mem_of_getElem? (i := 117) rfl)
theorem tp_916 : (Cond.instanceMethod yX10_corks) ∈ lw_tbl := tbC_in 3 _ (List.mem_of_getElem? (i := 118) rfl)
theorem tp_917 : (Cond.selects RX10 yX10_corks yX10_corks) ∈ lw_tbl := tbC_in 3 _ (List.mem_of_getElem? (i := 119) rfl)
set_option maxRecDepth 20000 in
theorem tboL_corks : ∀ w ∈ woL_corks, w ∈ lw_tbl := (tb_cons tp_730 (tb_cons tp_454 (tb_cons tp_915 (tb_cons tp_916 (tb_cons tp_917 (tb_cons tp_79 (tb_cons tp_101 (tb_cons tp_95 (tb_cons tp_85 tb_nil)))))))))
theorem tp_914 : (Cond.codeWith yL_corks cL_corks 5 (some .int) [(0, 10, 13, 25), (0, 10, 17, 13)]) ∈ lw_tbl := tbC_in 3 _ (List.mem_of_getElem? (i := 116) rfl)
theorem tbL_corks : ∀ w ∈ wsL_corks, w ∈ lw_tbl := tb_cons tp_914 (tb_app tboL_corks (tb_app tbn_9 (tb_app tbn_6 (tb_app tbn_2 (tb_app tbn_1 (tb_app tbn_3 tbX10_corks))))))
set_option maxRecDepth 20000 in
theorem tboX11_corks : ∀ w ∈ woX11_corks, w ∈ lw_tbl := (tb_cons tp_1131 (tb_cons tp_1150 (tb_cons tp_1153 (tb_cons tp_1323 (tb_cons tp_1325 (tb_cons tp_52 (tb_cons tp_91 (tb_cons tp_1245 (tb_cons tp_1246 (tb_cons tp_1248 (tb_cons tp_1250 (tb_cons tp_39 tb_nil))))))))))))
theorem tp_1401 : (Cond.code yX11_corks cX11_corks 3 (some .int)) ∈ lw_tbl := tbC_in 5 _ (List.mem_of_getElem? (i := 123) rfl)
theorem tbX11_corks : ∀ w ∈ wsX11_corks, w ∈ lw_tbl := tb_cons tp_1401 (tb_app tboX11_corks (tb_app tbn_10 (tb_app tbX11_isWall (tb_app tbX11_bad tbX11_in))))
theorem tp_417 : (Cond.methodLink RX4 39 arraycopyName) ∈ lw_tbl := tbC_in 1 _ (List.mem_of_getElem? (i := 99) rfl)
set_option maxRecDepth 20000 in
theorem tboX4_take : ∀ w ∈ woX4_take, w ∈ lw_tbl := (tb_cons tp_194 (tb_cons tp_417 (tb_cons tp_419 (tb_cons tp_418 (tb_cons tp_103 (tb_cons tp_200 tb_nil))))))
theorem tp_416 : (Cond.code yX4_take cX4_take 2 none) ∈ lw_tbl := tbC_in 1 _ (List.mem_of_getElem? (i := 98) rfl)
theorem tbX4_take : ∀ w ∈ wsX4_take, w ∈ lw_tbl := tb_cons tp_416 (tb_app tboX4_take tbn_2)
set_option maxRecDepth 20000 in
theorem tboX10_passTried : ∀ w ∈ woX10_passTried, w ∈ lw_tbl := (tb_cons tp_341 (tb_cons tp_202 (tb_cons tp_334 (tb_cons tp_832 (tb_cons tp_834 (tb_cons tp_18 (tb_cons tp_79 (tb_cons tp_836 (tb_cons tp_837 (tb_cons tp_838 (tb_cons tp_84 (tb_cons tp_403 (tb_cons tp_96 (tb_cons tp_90 (tb_cons tp_536 (tb_cons tp_89 (tb_cons tp_82 (tb_cons tp_887 tb_nil))))))))))))))))))
theorem tp_938 : (Cond.code yX10_passTried cX10_passTried 3 none) ∈ lw_tbl := tbC_in 3 _ (List.mem_of_getElem? (i := 140) rfl)
theorem tbX10_passTried : ∀ w ∈ wsX10_passTried, w ∈ lw_tbl := tb_cons tp_938 (tb_app tboX10_passTried (tb_app tbn_9 (tb_app tbn_2 (tb_app tbn_1 (tb_app tbn_8 (tb_app tbX10_inForce tbX4_pass))))))
theorem tp_934 : (Cond.methodLink RX10 183 yX4_take) ∈ lw_tbl := tbC_in 3 _ (List.mem_of_getElem? (i := 136) rfl)
theorem tp_414 : (Cond.instanceMethod yX4_take) ∈ lw_tbl := tbC_in 1 _ (List.mem_of_getElem? (i := 96) rfl)
theorem tp_415 : (Cond.selects RX4 yX4_take yX4_take) ∈ lw_tbl := tbC_in 1 _ (List.mem_of_getElem? (i := 97) rfl)
theorem tp_935 : (Cond.methodLink RX10 186 yX10_passTried) ∈ lw_tbl := tbC_in 3 _ (List.mem_of_getElem? (i := 137) rfl)
theorem tp_937 : (Cond.instanceMethod yX10_passTried) ∈ lw_tbl := tbC_in 3 _ (List.mem_of_getElem? (i := 139) rfl)
theorem tp_28 : (Cond.selects RX10 yX10_passTried yX10_passTried) ∈ lw_tbl := tbC_in 7 _ (List.mem_of_getElem? (i := 28) rfl)
set_option maxRecDepth 20000 in
theorem tboX10_trySigned : ∀ w ∈ woX10_trySigned, w ∈ lw_tbl := (tb_cons tp_341 (tb_cons tp_338 (tb_cons tp_265 (tb_cons tp_196 (tb_cons tp_934 (tb_cons tp_414 (tb_cons tp_415 (tb_cons tp_84 (tb_cons tp_419 (tb_cons tp_418 (tb_cons tp_103 (tb_cons tp_817 (tb_cons tp_818 (tb_cons tp_819 (tb_cons tp_935 (tb_cons tp_937 (tb_cons tp_28 (tb_cons tp_79 (tb_cons tp_403 (tb_cons tp_96 (tb_cons tp_90 (tb_cons tp_536 (tb_cons tp_89 (tb_cons tp_82 (tb_cons tp_887 tb_nil)))))))))))))))))))))))))
theorem tp_933 : (Cond.code yX10_trySigned cX10_trySigned 3 (some .int)) ∈ lw_tbl := tbC_in 3 _ (List.mem_of_getElem? (i := 135) rfl)
theorem tbX10_trySigned : ∀ w ∈ wsX10_trySigned, w ∈ lw_tbl := tb_cons tp_933 (tb_app tboX10_trySigned (tb_app tbn_9 (tb_app tbn_6 (tb_app tbn_2 (tb_app tbn_1 (tb_app tbn_8 (tb_app tbX4_take (tb_app tbX4_pledge tbX10_passTried))))))))
theorem tp_930 : (Cond.methodLink RX10 176 yX10_trySigned) ∈ lw_tbl := tbC_in 3 _ (List.mem_of_getElem? (i := 132) rfl)
theorem tp_932 : (Cond.instanceMethod yX10_trySigned) ∈ lw_tbl := tbC_in 3 _ (List.mem_of_getElem? (i := 134) rfl)
theorem tp_27 : (Cond.selects RX10 yX10_trySigned yX10_trySigned) ∈ lw_tbl := tbC_in 7 _ (List.mem_of_getElem? (i := 27) rfl)
set_option maxRecDepth 20000 in
theorem tboX10_would : ∀ w ∈ woX10_would, w ∈ lw_tbl := (tb_cons tp_341 (tb_cons tp_196 (tb_cons tp_813 (tb_cons tp_815 (tb_cons tp_17 (tb_cons tp_79 (tb_cons tp_102 (tb_cons tp_446 (tb_cons tp_425 (tb_cons tp_459 (tb_cons tp_461 (tb_cons tp_3 (tb_cons tp_95 (tb_cons tp_930 (tb_cons tp_932 (tb_cons tp_27 (tb_cons tp_84 (tb_cons tp_419 (tb_cons tp_418 (tb_cons tp_103 (tb_cons tp_403 (tb_cons tp_96 (tb_cons tp_90 (tb_cons tp_536 (tb_cons tp_89 (tb_cons tp_82 (tb_cons tp_887 tb_nil)))))))))))))))))))))))))))
theorem tp_929 : (Cond.code yX10_would cX10_would 4 (some .int)) ∈ lw_tbl := tbC_in 3 _ (List.mem_of_getElem? (i := 131) rfl)
theorem tbX10_would : ∀ w ∈ wsX10_would, w ∈ lw_tbl := tb_cons tp_929 (tb_app tboX10_would (tb_app tbn_9 (tb_app tbn_2 (tb_app tbn_6 (tb_app tbn_1 (tb_app tbn_8 (tb_app tbX10_demandContractOrNone (tb_app tbX10_within (tb_app tbX10_demand tbX10_trySigned)))))))))
theorem tp_926 : (Cond.methodLink RL 50 yX10_would) ∈ lw_tbl := tbC_in 3 _ (List.mem_of_getElem? (i := 128) rfl)
theorem tp_927 : (Cond.instanceMethod yX10_would) ∈ lw_tbl := tbC_in 3 _ (List.mem_of_getElem? (i := 129) rfl)
theorem tp_928 : (Cond.selects RX10 yX10_would yX10_would) ∈ lw_tbl := tbC_in 3 _ (List.mem_of_getElem? (i := 130) rfl)
set_option maxRecDepth 20000 in
theorem tboL_would : ∀ w ∈ woL_would, w ∈ lw_tbl := (tb_cons tp_758 (tb_cons tp_454 (tb_cons tp_926 (tb_cons tp_927 (tb_cons tp_928 (tb_cons tp_79 (tb_cons tp_102 (tb_cons tp_95 (tb_cons tp_84 (tb_cons tp_419 (tb_cons tp_418 (tb_cons tp_103 (tb_cons tp_403 (tb_cons tp_96 (tb_cons tp_90 (tb_cons tp_536 (tb_cons tp_89 (tb_cons tp_82 (tb_cons tp_887 tb_nil)))))))))))))))))))
theorem tp_925 : (Cond.codeWith yL_would cL_would 6 (some .int) [(0, 12, 15, 30), (0, 12, 19, 13)]) ∈ lw_tbl := tbC_in 3 _ (List.mem_of_getElem? (i := 127) rfl)
theorem tbL_would : ∀ w ∈ wsL_would, w ∈ lw_tbl := tb_cons tp_925 (tb_app tboL_would (tb_app tbn_9 (tb_app tbn_2 (tb_app tbn_6 (tb_app tbn_1 (tb_app tbn_8 tbX10_would))))))
set_option maxRecDepth 20000 in
theorem tboX11_areMonths : ∀ w ∈ woX11_areMonths, w ∈ lw_tbl := (tb_cons tp_1245 (tb_cons tp_1246 (tb_cons tp_91 tb_nil)))
theorem tp_1408 : (Cond.code yX11_areMonths cX11_areMonths 1 (some .boolean)) ∈ lw_tbl := tbC_in 5 _ (List.mem_of_getElem? (i := 130) rfl)
theorem tbX11_areMonths : ∀ w ∈ wsX11_areMonths, w ∈ lw_tbl := tb_cons tp_1408 (tb_app tboX11_areMonths tbX11_in)
set_option maxRecDepth 20000 in
theorem tboX11_puts : ∀ w ∈ woX11_puts, w ∈ lw_tbl := (tb_cons tp_1151 (tb_cons tp_1150 tb_nil))
theorem tp_1416 : (Cond.code yX11_puts cX11_puts 2 none) ∈ lw_tbl := tbC_in 5 _ (List.mem_of_getElem? (i := 138) rfl)
theorem tbX11_puts : ∀ w ∈ wsX11_puts, w ∈ lw_tbl := tb_cons tp_1416 (tb_app tboX11_puts tbn_10)
set_option maxRecDepth 20000 in
theorem tboX11_goesOn : ∀ w ∈ woX11_goesOn, w ∈ lw_tbl := (tb_cons tp_1355 (tb_cons tp_1357 (tb_cons tp_56 (tb_cons tp_91 tb_nil))))
theorem tp_1420 : (Cond.code yX11_goesOn cX11_goesOn 3 none) ∈ lw_tbl := tbC_in 5 _ (List.mem_of_getElem? (i := 142) rfl)
theorem tbX11_goesOn : ∀ w ∈ wsX11_goesOn, w ∈ lw_tbl := tb_cons tp_1420 (tb_app tboX11_goesOn (tb_app tbn_10 tbX11_monthGoes))
set_option maxRecDepth 20000 in
theorem tboX11_takes : ∀ w ∈ woX11_takes, w ∈ lw_tbl := (tb_cons tp_1150 (tb_cons tp_1151 tb_nil))
theorem tp_1424 : (Cond.code yX11_takes cX11_takes 2 none) ∈ lw_tbl := tbC_in 5 _ (List.mem_of_getElem? (i := 146) rfl)
theorem tbX11_takes : ∀ w ∈ wsX11_takes, w ∈ lw_tbl := tb_cons tp_1424 (tb_app tboX11_takes tbn_10)
theorem tp_1413 : (Cond.methodLink RX11 219 yX11_puts) ∈ lw_tbl := tbC_in 5 _ (List.mem_of_getElem? (i := 135) rfl)
theorem tp_1415 : (Cond.instanceMethod yX11_puts) ∈ lw_tbl := tbC_in 5 _ (List.mem_of_getElem? (i := 137) rfl)
theorem tp_65 : (Cond.selects RX11 yX11_puts yX11_puts) ∈ lw_tbl := tbC_in 7 _ (List.mem_of_getElem? (i := 65) rfl)
theorem tp_1417 : (Cond.methodLink RX11 222 yX11_goesOn) ∈ lw_tbl := tbC_in 5 _ (List.mem_of_getElem? (i := 139) rfl)
theorem tp_1419 : (Cond.instanceMethod yX11_goesOn) ∈ lw_tbl := tbC_in 5 _ (List.mem_of_getElem? (i := 141) rfl)
theorem tp_66 : (Cond.selects RX11 yX11_goesOn yX11_goesOn) ∈ lw_tbl := tbC_in 7 _ (List.mem_of_getElem? (i := 66) rfl)
theorem tp_1421 : (Cond.methodLink RX11 225 yX11_takes) ∈ lw_tbl := tbC_in 5 _ (List.mem_of_getElem? (i := 143) rfl)
theorem tp_1423 : (Cond.instanceMethod yX11_takes) ∈ lw_tbl := tbC_in 5 _ (List.mem_of_getElem? (i := 145) rfl)
theorem tp_67 : (Cond.selects RX11 yX11_takes yX11_takes) ∈ lw_tbl := tbC_in 7 _ (List.mem_of_getElem? (i := 67) rfl)
set_option maxRecDepth 20000 in
theorem tboX11_by : ∀ w ∈ woX11_by, w ∈ lw_tbl := (tb_cons tp_1150 (tb_cons tp_1413 (tb_cons tp_1415 (tb_cons tp_65 (tb_cons tp_91 (tb_cons tp_1347 (tb_cons tp_1349 (tb_cons tp_55 (tb_cons tp_1417 (tb_cons tp_1419 (tb_cons tp_66 (tb_cons tp_1421 (tb_cons tp_1423 (tb_cons tp_67 tb_nil))))))))))))))
theorem tp_1412 : (Cond.code yX11_by cX11_by 5 (some .int)) ∈ lw_tbl := tbC_in 5 _ (List.mem_of_getElem? (i := 134) rfl)
theorem tbX11_by : ∀ w ∈ wsX11_by, w ∈ lw_tbl := tb_cons tp_1412 (tb_app tboX11_by (tb_app tbn_10 (tb_app tbX11_puts (tb_app tbX11_signs (tb_app tbX11_goesOn tbX11_takes)))))
theorem tp_1406 : (Cond.methodLink RX11 228 yX11_areMonths) ∈ lw_tbl := tbC_in 5 _ (List.mem_of_getElem? (i := 128) rfl)
theorem tp_1407 : (Cond.static yX11_areMonths) ∈ lw_tbl := tbC_in 5 _ (List.mem_of_getElem? (i := 129) rfl)
theorem tp_1409 : (Cond.methodLink RX11 231 yX11_by) ∈ lw_tbl := tbC_in 5 _ (List.mem_of_getElem? (i := 131) rfl)
theorem tp_1411 : (Cond.instanceMethod yX11_by) ∈ lw_tbl := tbC_in 5 _ (List.mem_of_getElem? (i := 133) rfl)
theorem tp_64 : (Cond.selects RX11 yX11_by yX11_by) ∈ lw_tbl := tbC_in 7 _ (List.mem_of_getElem? (i := 64) rfl)
set_option maxRecDepth 20000 in
theorem tboX11_would : ∀ w ∈ woX11_would, w ∈ lw_tbl := (tb_cons tp_1131 (tb_cons tp_1331 (tb_cons tp_1333 (tb_cons tp_53 (tb_cons tp_91 (tb_cons tp_1245 (tb_cons tp_1246 (tb_cons tp_1248 (tb_cons tp_1250 (tb_cons tp_39 (tb_cons tp_1406 (tb_cons tp_1407 (tb_cons tp_1409 (tb_cons tp_1411 (tb_cons tp_64 tb_nil)))))))))))))))
theorem tp_1405 : (Cond.code yX11_would cX11_would 4 (some .int)) ∈ lw_tbl := tbC_in 5 _ (List.mem_of_getElem? (i := 127) rfl)
theorem tbX11_would : ∀ w ∈ wsX11_would, w ∈ lw_tbl := tb_cons tp_1405 (tb_app tboX11_would (tb_app tbn_10 (tb_app tbX11_isContract (tb_app tbX11_bad (tb_app tbX11_areMonths (tb_app tbX11_in tbX11_by))))))
set_option maxRecDepth 20000 in
theorem tboX10_best : ∀ w ∈ woX10_best, w ∈ lw_tbl := (tb_cons tp_337 (tb_cons tp_446 (tb_cons tp_425 (tb_cons tp_79 (tb_cons tp_459 (tb_cons tp_461 (tb_cons tp_3 (tb_cons tp_95 (tb_cons tp_930 (tb_cons tp_932 (tb_cons tp_27 (tb_cons tp_84 (tb_cons tp_419 (tb_cons tp_418 (tb_cons tp_103 (tb_cons tp_403 (tb_cons tp_96 (tb_cons tp_90 (tb_cons tp_536 (tb_cons tp_89 (tb_cons tp_82 (tb_cons tp_887 tb_nil))))))))))))))))))))))
theorem tp_945 : (Cond.code yX10_best cX10_best 7 (some .int)) ∈ lw_tbl := tbC_in 3 _ (List.mem_of_getElem? (i := 147) rfl)
theorem tbX10_best : ∀ w ∈ wsX10_best, w ∈ lw_tbl := tb_cons tp_945 (tb_app tboX10_best (tb_app tbn_9 (tb_app tbn_6 (tb_app tbn_2 (tb_app tbn_1 (tb_app tbn_8 (tb_app tbX10_within (tb_app tbX10_demand tbX10_trySigned))))))))
theorem tp_942 : (Cond.methodLink RL 54 yX10_best) ∈ lw_tbl := tbC_in 3 _ (List.mem_of_getElem? (i := 144) rfl)
theorem tp_943 : (Cond.instanceMethod yX10_best) ∈ lw_tbl := tbC_in 3 _ (List.mem_of_getElem? (i := 145) rfl)
theorem tp_944 : (Cond.selects RX10 yX10_best yX10_best) ∈ lw_tbl := tbC_in 3 _ (List.mem_of_getElem? (i := 146) rfl)
set_option maxRecDepth 20000 in
theorem tboL_best : ∀ w ∈ woL_best, w ∈ lw_tbl := (tb_cons tp_454 (tb_cons tp_942 (tb_cons tp_943 (tb_cons tp_944 (tb_cons tp_79 (tb_cons tp_95 (tb_cons tp_84 (tb_cons tp_419 (tb_cons tp_418 (tb_cons tp_103 (tb_cons tp_403 (tb_cons tp_96 (tb_cons tp_90 (tb_cons tp_536 (tb_cons tp_89 (tb_cons tp_82 (tb_cons tp_887 tb_nil)))))))))))))))))
theorem tp_941 : (Cond.codeWith yL_best cL_best 5 (some .int) [(0, 10, 13, 13)]) ∈ lw_tbl := tbC_in 3 _ (List.mem_of_getElem? (i := 143) rfl)
theorem tbL_best : ∀ w ∈ wsL_best, w ∈ lw_tbl := tb_cons tp_941 (tb_app tboL_best (tb_app tbn_9 (tb_app tbn_6 (tb_app tbn_2 (tb_app tbn_1 (tb_app tbn_8 tbX10_best))))))
set_option maxRecDepth 20000 in
theorem tboX11_best : ∀ w ∈ woX11_best, w ∈ lw_tbl := (tb_cons tp_1131 (tb_cons tp_1145 (tb_cons tp_1406 (tb_cons tp_1407 (tb_cons tp_91 (tb_cons tp_1245 (tb_cons tp_1246 (tb_cons tp_1248 (tb_cons tp_1250 (tb_cons tp_39 (tb_cons tp_1409 (tb_cons tp_1411 (tb_cons tp_64 tb_nil)))))))))))))
theorem tp_1428 : (Cond.code yX11_best cX11_best 7 (some .int)) ∈ lw_tbl := tbC_in 5 _ (List.mem_of_getElem? (i := 150) rfl)
theorem tbX11_best : ∀ w ∈ wsX11_best, w ∈ lw_tbl := tb_cons tp_1428 (tb_app tboX11_best (tb_app tbn_10 (tb_app tbX11_areMonths (tb_app tbX11_in (tb_app tbX11_bad tbX11_by)))))
theorem tp_957 : (Cond.methodLink RX5 28 yX5_clear) ∈ lw_tbl := tbC_in 3 _ (List.mem_of_getElem? (i := 159) rfl)
set_option maxRecDepth 20000 in
theorem tboX5_propose : ∀ w ∈ woX5_propose, w ∈ lw_tbl := (tb_cons tp_313 (tb_cons tp_957 (tb_cons tp_716 (tb_cons tp_717 (tb_cons tp_89 (tb_cons tp_90 tb_nil))))))
theorem tp_956 : (Cond.code yX5_propose cX5_propose 5 none) ∈ lw_tbl := tbC_in 3 _ (List.mem_of_getElem? (i := 158) rfl)
theorem tbX5_propose : ∀ w ∈ wsX5_propose, w ∈ lw_tbl := tb_cons tp_956 (tb_app tboX5_propose (tb_app tbn_8 tbX5_clear))
theorem tp_953 : (Cond.methodLink RX10 179 yX5_propose) ∈ lw_tbl := tbC_in 3 _ (List.mem_of_getElem? (i := 155) rfl)
theorem tp_954 : (Cond.instanceMethod yX5_propose) ∈ lw_tbl := tbC_in 3 _ (List.mem_of_getElem? (i := 156) rfl)
theorem tp_955 : (Cond.selects RX5 yX5_propose yX5_propose) ∈ lw_tbl := tbC_in 3 _ (List.mem_of_getElem? (i := 157) rfl)
set_option maxRecDepth 20000 in
theorem tboX10_offer : ∀ w ∈ woX10_offer, w ∈ lw_tbl := (tb_cons tp_336 (tb_cons tp_334 (tb_cons tp_446 (tb_cons tp_425 (tb_cons tp_79 (tb_cons tp_459 (tb_cons tp_461 (tb_cons tp_3 (tb_cons tp_95 (tb_cons tp_802 (tb_cons tp_803 (tb_cons tp_804 (tb_cons tp_82 (tb_cons tp_953 (tb_cons tp_954 (tb_cons tp_955 (tb_cons tp_89 (tb_cons tp_90 (tb_cons tp_930 (tb_cons tp_932 (tb_cons tp_27 (tb_cons tp_84 (tb_cons tp_419 (tb_cons tp_418 (tb_cons tp_103 (tb_cons tp_403 (tb_cons tp_96 (tb_cons tp_536 (tb_cons tp_887 tb_nil)))))))))))))))))))))))))))))
theorem tp_952 : (Cond.code yX10_offer cX10_offer 9 (some .int)) ∈ lw_tbl := tbC_in 3 _ (List.mem_of_getElem? (i := 154) rfl)
theorem tbX10_offer : ∀ w ∈ wsX10_offer, w ∈ lw_tbl := tb_cons tp_952 (tb_app tboX10_offer (tb_app tbn_9 (tb_app tbn_1 (tb_app tbn_8 (tb_app tbn_6 (tb_app tbn_2 (tb_app tbX10_within (tb_app tbX10_demand (tb_app tbX6_wanted (tb_app tbX5_propose tbX10_trySigned))))))))))
theorem tp_949 : (Cond.methodLink RL 57 yX10_offer) ∈ lw_tbl := tbC_in 3 _ (List.mem_of_getElem? (i := 151) rfl)
theorem tp_950 : (Cond.instanceMethod yX10_offer) ∈ lw_tbl := tbC_in 3 _ (List.mem_of_getElem? (i := 152) rfl)
theorem tp_951 : (Cond.selects RX10 yX10_offer yX10_offer) ∈ lw_tbl := tbC_in 3 _ (List.mem_of_getElem? (i := 153) rfl)
set_option maxRecDepth 20000 in
theorem tboL_offer : ∀ w ∈ woL_offer, w ∈ lw_tbl := (tb_cons tp_454 (tb_cons tp_949 (tb_cons tp_950 (tb_cons tp_951 (tb_cons tp_79 (tb_cons tp_95 (tb_cons tp_82 (tb_cons tp_89 (tb_cons tp_90 (tb_cons tp_84 (tb_cons tp_419 (tb_cons tp_418 (tb_cons tp_103 (tb_cons tp_403 (tb_cons tp_96 (tb_cons tp_536 (tb_cons tp_887 tb_nil)))))))))))))))))
theorem tp_948 : (Cond.codeWith yL_offer cL_offer 5 (some .int) [(0, 10, 13, 13)]) ∈ lw_tbl := tbC_in 3 _ (List.mem_of_getElem? (i := 150) rfl)
theorem tbL_offer : ∀ w ∈ wsL_offer, w ∈ lw_tbl := tb_cons tp_948 (tb_app tboL_offer (tb_app tbn_9 (tb_app tbn_1 (tb_app tbn_8 (tb_app tbn_6 (tb_app tbn_2 tbX10_offer))))))
set_option maxRecDepth 20000 in
theorem tboX11_byOffer : ∀ w ∈ woX11_byOffer, w ∈ lw_tbl := (tb_cons tp_1150 (tb_cons tp_1413 (tb_cons tp_1415 (tb_cons tp_65 (tb_cons tp_91 (tb_cons tp_1347 (tb_cons tp_1349 (tb_cons tp_55 (tb_cons tp_1355 (tb_cons tp_1357 (tb_cons tp_56 (tb_cons tp_1421 (tb_cons tp_1423 (tb_cons tp_67 tb_nil))))))))))))))
theorem tp_1436 : (Cond.code yX11_byOffer cX11_byOffer 3 (some .int)) ∈ lw_tbl := tbC_in 5 _ (List.mem_of_getElem? (i := 158) rfl)
theorem tbX11_byOffer : ∀ w ∈ wsX11_byOffer, w ∈ lw_tbl := tb_cons tp_1436 (tb_app tboX11_byOffer (tb_app tbn_10 (tb_app tbX11_puts (tb_app tbX11_signs (tb_app tbX11_monthGoes tbX11_takes)))))
theorem tp_1433 : (Cond.methodLink RX11 235 yX11_byOffer) ∈ lw_tbl := tbC_in 5 _ (List.mem_of_getElem? (i := 155) rfl)
theorem tp_1435 : (Cond.instanceMethod yX11_byOffer) ∈ lw_tbl := tbC_in 5 _ (List.mem_of_getElem? (i := 157) rfl)
theorem tp_68 : (Cond.selects RX11 yX11_byOffer yX11_byOffer) ∈ lw_tbl := tbC_in 7 _ (List.mem_of_getElem? (i := 68) rfl)
set_option maxRecDepth 20000 in
theorem tboX11_offer : ∀ w ∈ woX11_offer, w ∈ lw_tbl := (tb_cons tp_1131 (tb_cons tp_1148 (tb_cons tp_1149 (tb_cons tp_1406 (tb_cons tp_1407 (tb_cons tp_91 (tb_cons tp_1245 (tb_cons tp_1246 (tb_cons tp_1248 (tb_cons tp_1250 (tb_cons tp_39 (tb_cons tp_1339 (tb_cons tp_1341 (tb_cons tp_54 (tb_cons tp_1433 (tb_cons tp_1435 (tb_cons tp_68 tb_nil)))))))))))))))))
theorem tp_1432 : (Cond.code yX11_offer cX11_offer 10 (some .int)) ∈ lw_tbl := tbC_in 5 _ (List.mem_of_getElem? (i := 154) rfl)
theorem tbX11_offer : ∀ w ∈ wsX11_offer, w ∈ lw_tbl := tb_cons tp_1432 (tb_app tboX11_offer (tb_app tbn_10 (tb_app tbX11_areMonths (tb_app tbX11_in (tb_app tbX11_bad (tb_app tbX11_wantsFor tbX11_byOffer))))))
set_option maxRecDepth 20000 in
theorem tboX10_nearest : ∀ w ∈ woX10_nearest, w ∈ lw_tbl := (tb_cons tp_334 (tb_cons tp_446 (tb_cons tp_425 (tb_cons tp_79 (tb_cons tp_459 (tb_cons tp_461 (tb_cons tp_3 (tb_cons tp_95 (tb_cons tp_802 (tb_cons tp_803 (tb_cons tp_804 (tb_cons tp_82 tb_nil))))))))))))
theorem tp_964 : (Cond.code yX10_nearest cX10_nearest 4 (some .int)) ∈ lw_tbl := tbC_in 3 _ (List.mem_of_getElem? (i := 166) rfl)
theorem tbX10_nearest : ∀ w ∈ wsX10_nearest, w ∈ lw_tbl := tb_cons tp_964 (tb_app tboX10_nearest (tb_app tbn_9 (tb_app tbn_1 (tb_app tbX10_within (tb_app tbX10_demand tbX6_wanted)))))
theorem tp_961 : (Cond.methodLink RL 60 yX10_nearest) ∈ lw_tbl := tbC_in 3 _ (List.mem_of_getElem? (i := 163) rfl)
theorem tp_962 : (Cond.instanceMethod yX10_nearest) ∈ lw_tbl := tbC_in 3 _ (List.mem_of_getElem? (i := 164) rfl)
theorem tp_963 : (Cond.selects RX10 yX10_nearest yX10_nearest) ∈ lw_tbl := tbC_in 3 _ (List.mem_of_getElem? (i := 165) rfl)
set_option maxRecDepth 20000 in
theorem tboL_nearest : ∀ w ∈ woL_nearest, w ∈ lw_tbl := (tb_cons tp_454 (tb_cons tp_961 (tb_cons tp_962 (tb_cons tp_963 (tb_cons tp_79 (tb_cons tp_95 (tb_cons tp_82 tb_nil)))))))
theorem tp_960 : (Cond.codeWith yL_nearest cL_nearest 5 (some .int) [(0, 10, 13, 13)]) ∈ lw_tbl := tbC_in 3 _ (List.mem_of_getElem? (i := 162) rfl)
theorem tbL_nearest : ∀ w ∈ wsL_nearest, w ∈ lw_tbl := tb_cons tp_960 (tb_app tboL_nearest (tb_app tbn_9 (tb_app tbn_1 tbX10_nearest)))
set_option maxRecDepth 20000 in
theorem tboX11_nearest : ∀ w ∈ woX11_nearest, w ∈ lw_tbl := (tb_cons tp_1131 (tb_cons tp_1245 (tb_cons tp_1246 (tb_cons tp_91 (tb_cons tp_1248 (tb_cons tp_1250 (tb_cons tp_39 (tb_cons tp_1339 (tb_cons tp_1341 (tb_cons tp_54 tb_nil))))))))))
theorem tp_1440 : (Cond.code yX11_nearest cX11_nearest 4 (some .int)) ∈ lw_tbl := tbC_in 5 _ (List.mem_of_getElem? (i := 162) rfl)
theorem tbX11_nearest : ∀ w ∈ wsX11_nearest, w ∈ lw_tbl := tb_cons tp_1440 (tb_app tboX11_nearest (tb_app tbn_10 (tb_app tbX11_in (tb_app tbX11_bad tbX11_wantsFor))))
set_option maxRecDepth 20000 in
theorem tboX10_stop : ∀ w ∈ woX10_stop, w ∈ lw_tbl := (tb_cons tp_341 (tb_cons tp_338 (tb_cons tp_265 (tb_cons tp_196 (tb_cons tp_446 (tb_cons tp_425 (tb_cons tp_79 (tb_cons tp_459 (tb_cons tp_461 (tb_cons tp_3 (tb_cons tp_95 (tb_cons tp_934 (tb_cons tp_414 (tb_cons tp_415 (tb_cons tp_84 (tb_cons tp_419 (tb_cons tp_418 (tb_cons tp_103 (tb_cons tp_935 (tb_cons tp_937 (tb_cons tp_28 (tb_cons tp_403 (tb_cons tp_96 (tb_cons tp_90 (tb_cons tp_536 (tb_cons tp_89 (tb_cons tp_82 (tb_cons tp_887 (tb_cons tp_817 (tb_cons tp_818 (tb_cons tp_819 tb_nil)))))))))))))))))))))))))))))))
theorem tp_971 : (Cond.code yX10_stop cX10_stop 6 (some .int)) ∈ lw_tbl := tbC_in 3 _ (List.mem_of_getElem? (i := 173) rfl)
theorem tbX10_stop : ∀ w ∈ wsX10_stop, w ∈ lw_tbl := tb_cons tp_971 (tb_app tboX10_stop (tb_app tbn_9 (tb_app tbn_6 (tb_app tbn_2 (tb_app tbn_1 (tb_app tbn_8 (tb_app tbX10_within (tb_app tbX10_demand (tb_app tbX4_take (tb_app tbX10_passTried tbX4_pledge))))))))))
theorem tp_968 : (Cond.methodLink RL 63 yX10_stop) ∈ lw_tbl := tbC_in 3 _ (List.mem_of_getElem? (i := 170) rfl)
theorem tp_969 : (Cond.instanceMethod yX10_stop) ∈ lw_tbl := tbC_in 3 _ (List.mem_of_getElem? (i := 171) rfl)
theorem tp_970 : (Cond.selects RX10 yX10_stop yX10_stop) ∈ lw_tbl := tbC_in 3 _ (List.mem_of_getElem? (i := 172) rfl)
set_option maxRecDepth 20000 in
theorem tboL_stop : ∀ w ∈ woL_stop, w ∈ lw_tbl := (tb_cons tp_454 (tb_cons tp_968 (tb_cons tp_969 (tb_cons tp_970 (tb_cons tp_79 (tb_cons tp_95 (tb_cons tp_84 (tb_cons tp_419 (tb_cons tp_418 (tb_cons tp_103 (tb_cons tp_403 (tb_cons tp_96 (tb_cons tp_90 (tb_cons tp_536 (tb_cons tp_89 (tb_cons tp_82 (tb_cons tp_887 tb_nil)))))))))))))))))
theorem tp_967 : (Cond.codeWith yL_stop cL_stop 5 (some .int) [(0, 10, 13, 13)]) ∈ lw_tbl := tbC_in 3 _ (List.mem_of_getElem? (i := 169) rfl)
theorem tbL_stop : ∀ w ∈ wsL_stop, w ∈ lw_tbl := tb_cons tp_967 (tb_app tboL_stop (tb_app tbn_9 (tb_app tbn_6 (tb_app tbn_2 (tb_app tbn_1 (tb_app tbn_8 tbX10_stop))))))
set_option maxRecDepth 20000 in
theorem tboX11_stop : ∀ w ∈ woX11_stop, w ∈ lw_tbl := (tb_cons tp_1131 (tb_cons tp_1150 (tb_cons tp_1406 (tb_cons tp_1407 (tb_cons tp_91 (tb_cons tp_1245 (tb_cons tp_1246 (tb_cons tp_1248 (tb_cons tp_1250 (tb_cons tp_39 (tb_cons tp_1413 (tb_cons tp_1415 (tb_cons tp_65 (tb_cons tp_1417 (tb_cons tp_1419 (tb_cons tp_66 (tb_cons tp_1347 (tb_cons tp_1349 (tb_cons tp_55 (tb_cons tp_1421 (tb_cons tp_1423 (tb_cons tp_67 tb_nil))))))))))))))))))))))
theorem tp_1444 : (Cond.code yX11_stop cX11_stop 7 (some .int)) ∈ lw_tbl := tbC_in 5 _ (List.mem_of_getElem? (i := 166) rfl)
theorem tbX11_stop : ∀ w ∈ wsX11_stop, w ∈ lw_tbl := tb_cons tp_1444 (tb_app tboX11_stop (tb_app tbn_10 (tb_app tbX11_areMonths (tb_app tbX11_in (tb_app tbX11_bad (tb_app tbX11_puts (tb_app tbX11_goesOn (tb_app tbX11_signs tbX11_takes))))))))
theorem tp_983 : (Cond.methodLink RX2 30 yX2_forget) ∈ lw_tbl := tbC_in 3 _ (List.mem_of_getElem? (i := 185) rfl)
set_option maxRecDepth 20000 in
theorem tboX2_start : ∀ w ∈ woX2_start, w ∈ lw_tbl := (tb_cons tp_230 (tb_cons tp_231 (tb_cons tp_983 (tb_cons tp_700 (tb_cons tp_701 (tb_cons tp_86 tb_nil))))))
theorem tp_982 : (Cond.code yX2_start cX2_start 3 none) ∈ lw_tbl := tbC_in 3 _ (List.mem_of_getElem? (i := 184) rfl)
theorem tbX2_start : ∀ w ∈ wsX2_start, w ∈ lw_tbl := tb_cons tp_982 (tb_app tboX2_start (tb_app tbn_4 tbX2_forget))
theorem tp_269 : (Cond.fieldLink RX10 189 "HiredEnemy$Scene" "belief" "LHiredEnemy$Belief;") ∈ lw_tbl := tbC_in 0 _ (List.mem_of_getElem? (i := 191) rfl)
theorem tp_979 : (Cond.methodLink RX10 193 yX2_start) ∈ lw_tbl := tbC_in 3 _ (List.mem_of_getElem? (i := 181) rfl)
theorem tp_980 : (Cond.instanceMethod yX2_start) ∈ lw_tbl := tbC_in 3 _ (List.mem_of_getElem? (i := 182) rfl)
theorem tp_981 : (Cond.selects RX2 yX2_start yX2_start) ∈ lw_tbl := tbC_in 3 _ (List.mem_of_getElem? (i := 183) rfl)
set_option maxRecDepth 20000 in
theorem tboX10_odds : ∀ w ∈ woX10_odds, w ∈ lw_tbl := (tb_cons tp_338 (tb_cons tp_269 (tb_cons tp_446 (tb_cons tp_425 (tb_cons tp_79 (tb_cons tp_459 (tb_cons tp_461 (tb_cons tp_3 (tb_cons tp_95 (tb_cons tp_979 (tb_cons tp_980 (tb_cons tp_981 (tb_cons tp_86 tb_nil)))))))))))))
theorem tp_978 : (Cond.code yX10_odds cX10_odds 3 none) ∈ lw_tbl := tbC_in 3 _ (List.mem_of_getElem? (i := 180) rfl)
theorem tbX10_odds : ∀ w ∈ wsX10_odds, w ∈ lw_tbl := tb_cons tp_978 (tb_app tboX10_odds (tb_app tbn_9 (tb_app tbn_6 (tb_app tbn_4 (tb_app tbX10_within (tb_app tbX10_demand tbX2_start))))))
theorem tp_975 : (Cond.methodLink RL 66 yX10_odds) ∈ lw_tbl := tbC_in 3 _ (List.mem_of_getElem? (i := 177) rfl)
theorem tp_976 : (Cond.instanceMethod yX10_odds) ∈ lw_tbl := tbC_in 3 _ (List.mem_of_getElem? (i := 178) rfl)
theorem tp_977 : (Cond.selects RX10 yX10_odds yX10_odds) ∈ lw_tbl := tbC_in 3 _ (List.mem_of_getElem? (i := 179) rfl)
set_option maxRecDepth 20000 in
theorem tboL_odds : ∀ w ∈ woL_odds, w ∈ lw_tbl := (tb_cons tp_454 (tb_cons tp_975 (tb_cons tp_976 (tb_cons tp_977 (tb_cons tp_79 (tb_cons tp_95 (tb_cons tp_86 tb_nil)))))))
theorem tp_974 : (Cond.codeWith yL_odds cL_odds 4 (some .int) [(0, 6, 9, 13)]) ∈ lw_tbl := tbC_in 3 _ (List.mem_of_getElem? (i := 176) rfl)
theorem tbL_odds : ∀ w ∈ wsL_odds, w ∈ lw_tbl := tb_cons tp_974 (tb_app tboL_odds (tb_app tbn_9 (tb_app tbn_6 (tb_app tbn_4 tbX10_odds))))
set_option maxRecDepth 20000 in
theorem tboX11_odds : ∀ w ∈ woX11_odds, w ∈ lw_tbl := (tb_cons tp_1131 (tb_cons tp_1155 (tb_cons tp_1156 (tb_cons tp_1157 (tb_cons tp_1245 (tb_cons tp_1246 (tb_cons tp_91 (tb_cons tp_1248 (tb_cons tp_1250 (tb_cons tp_39 tb_nil))))))))))
theorem tp_1448 : (Cond.code yX11_odds cX11_odds 3 none) ∈ lw_tbl := tbC_in 5 _ (List.mem_of_getElem? (i := 170) rfl)
theorem tbX11_odds : ∀ w ∈ wsX11_odds, w ∈ lw_tbl := tb_cons tp_1448 (tb_app tboX11_odds (tb_app tbn_10 (tb_app tbX11_in tbX11_bad)))
theorem tp_227 : (Cond.fieldLink RX10 199 "HiredEnemy$Belief" "ifReal" "[I") ∈ lw_tbl := tbC_in 0 _ (List.mem_of_getElem? (i := 149) rfl)
theorem tp_229 : (Cond.fieldLink RX10 202 "HiredEnemy$Belief" "ifHired" "[I") ∈ lw_tbl := tbC_in 0 _ (List.mem_of_getElem? (i := 151) rfl)
set_option maxRecDepth 20000 in
theorem tboX10_kind : ∀ w ∈ woX10_kind, w ∈ lw_tbl := (tb_cons tp_338 (tb_cons tp_269 (tb_cons tp_227 (tb_cons tp_229 (tb_cons tp_446 (tb_cons tp_425 (tb_cons tp_79 (tb_cons tp_459 (tb_cons tp_461 (tb_cons tp_3 (tb_cons tp_95 tb_nil)))))))))))
theorem tp_990 : (Cond.code yX10_kind cX10_kind 4 none) ∈ lw_tbl := tbC_in 3 _ (List.mem_of_getElem? (i := 192) rfl)
theorem tbX10_kind : ∀ w ∈ wsX10_kind, w ∈ lw_tbl := tb_cons tp_990 (tb_app tboX10_kind (tb_app tbn_9 (tb_app tbn_6 (tb_app tbn_4 (tb_app tbX10_within tbX10_demand)))))
theorem tp_987 : (Cond.methodLink RL 70 yX10_kind) ∈ lw_tbl := tbC_in 3 _ (List.mem_of_getElem? (i := 189) rfl)
theorem tp_988 : (Cond.instanceMethod yX10_kind) ∈ lw_tbl := tbC_in 3 _ (List.mem_of_getElem? (i := 190) rfl)
theorem tp_989 : (Cond.selects RX10 yX10_kind yX10_kind) ∈ lw_tbl := tbC_in 3 _ (List.mem_of_getElem? (i := 191) rfl)
set_option maxRecDepth 20000 in
theorem tboL_kind : ∀ w ∈ woL_kind, w ∈ lw_tbl := (tb_cons tp_454 (tb_cons tp_987 (tb_cons tp_988 (tb_cons tp_989 (tb_cons tp_79 (tb_cons tp_95 tb_nil))))))
theorem tp_986 : (Cond.codeWith yL_kind cL_kind 5 (some .int) [(0, 7, 10, 13)]) ∈ lw_tbl := tbC_in 3 _ (List.mem_of_getElem? (i := 188) rfl)
theorem tbL_kind : ∀ w ∈ wsL_kind, w ∈ lw_tbl := tb_cons tp_986 (tb_app tboL_kind (tb_app tbn_9 (tb_app tbn_6 (tb_app tbn_4 tbX10_kind))))
set_option maxRecDepth 20000 in
theorem tboX11_kind : ∀ w ∈ woX11_kind, w ∈ lw_tbl := (tb_cons tp_1131 (tb_cons tp_1160 (tb_cons tp_1245 (tb_cons tp_1246 (tb_cons tp_91 (tb_cons tp_1248 (tb_cons tp_1250 (tb_cons tp_39 tb_nil))))))))
theorem tp_1452 : (Cond.code yX11_kind cX11_kind 4 none) ∈ lw_tbl := tbC_in 5 _ (List.mem_of_getElem? (i := 174) rfl)
theorem tbX11_kind : ∀ w ∈ wsX11_kind, w ∈ lw_tbl := tb_cons tp_1452 (tb_app tboX11_kind (tb_app tbn_10 (tb_app tbX11_in tbX11_bad)))
set_option maxRecDepth 20000 in
theorem tboX2_add : ∀ w ∈ woX2_add, w ∈ lw_tbl := (tb_cons tp_234 (tb_cons tp_232 (tb_cons tp_233 tb_nil)))
theorem tp_1001 : (Cond.code yX2_add cX2_add 3 (some .int)) ∈ lw_tbl := tbC_in 3 _ (List.mem_of_getElem? (i := 203) rfl)
theorem tbX2_add : ∀ w ∈ wsX2_add, w ∈ lw_tbl := tb_cons tp_1001 (tb_app tboX2_add tbn_4)
theorem tp_998 : (Cond.methodLink RX10 205 yX2_add) ∈ lw_tbl := tbC_in 3 _ (List.mem_of_getElem? (i := 200) rfl)
theorem tp_999 : (Cond.instanceMethod yX2_add) ∈ lw_tbl := tbC_in 3 _ (List.mem_of_getElem? (i := 201) rfl)
theorem tp_1000 : (Cond.selects RX2 yX2_add yX2_add) ∈ lw_tbl := tbC_in 3 _ (List.mem_of_getElem? (i := 202) rfl)
set_option maxRecDepth 20000 in
theorem tboX10_seen : ∀ w ∈ woX10_seen, w ∈ lw_tbl := (tb_cons tp_338 (tb_cons tp_269 (tb_cons tp_227 (tb_cons tp_229 (tb_cons tp_446 (tb_cons tp_425 (tb_cons tp_79 (tb_cons tp_459 (tb_cons tp_461 (tb_cons tp_3 (tb_cons tp_95 (tb_cons tp_998 (tb_cons tp_999 (tb_cons tp_1000 (tb_cons tp_86 tb_nil)))))))))))))))
theorem tp_997 : (Cond.code yX10_seen cX10_seen 3 (some .int)) ∈ lw_tbl := tbC_in 3 _ (List.mem_of_getElem? (i := 199) rfl)
theorem tbX10_seen : ∀ w ∈ wsX10_seen, w ∈ lw_tbl := tb_cons tp_997 (tb_app tboX10_seen (tb_app tbn_9 (tb_app tbn_6 (tb_app tbn_4 (tb_app tbX10_within (tb_app tbX10_demand tbX2_add))))))
theorem tp_994 : (Cond.methodLink RL 74 yX10_seen) ∈ lw_tbl := tbC_in 3 _ (List.mem_of_getElem? (i := 196) rfl)
theorem tp_995 : (Cond.instanceMethod yX10_seen) ∈ lw_tbl := tbC_in 3 _ (List.mem_of_getElem? (i := 197) rfl)
theorem tp_996 : (Cond.selects RX10 yX10_seen yX10_seen) ∈ lw_tbl := tbC_in 3 _ (List.mem_of_getElem? (i := 198) rfl)
set_option maxRecDepth 20000 in
theorem tboL_seen : ∀ w ∈ woL_seen, w ∈ lw_tbl := (tb_cons tp_454 (tb_cons tp_994 (tb_cons tp_995 (tb_cons tp_996 (tb_cons tp_79 (tb_cons tp_95 (tb_cons tp_86 tb_nil)))))))
theorem tp_993 : (Cond.codeWith yL_seen cL_seen 4 (some .int) [(0, 9, 12, 13)]) ∈ lw_tbl := tbC_in 3 _ (List.mem_of_getElem? (i := 195) rfl)
theorem tbL_seen : ∀ w ∈ wsL_seen, w ∈ lw_tbl := tb_cons tp_993 (tb_app tboL_seen (tb_app tbn_9 (tb_app tbn_6 (tb_app tbn_4 tbX10_seen))))
set_option maxRecDepth 20000 in
theorem tboX11_isSeen : ∀ w ∈ woX11_isSeen, w ∈ lw_tbl := (tb_cons tp_1157 (tb_cons tp_1161 tb_nil))
theorem tp_1460 : (Cond.code yX11_isSeen cX11_isSeen 3 (some .int)) ∈ lw_tbl := tbC_in 5 _ (List.mem_of_getElem? (i := 182) rfl)
theorem tbX11_isSeen : ∀ w ∈ wsX11_isSeen, w ∈ lw_tbl := tb_cons tp_1460 (tb_app tboX11_isSeen tbn_10)
theorem tp_1457 : (Cond.methodLink RX11 238 yX11_isSeen) ∈ lw_tbl := tbC_in 5 _ (List.mem_of_getElem? (i := 179) rfl)
theorem tp_1459 : (Cond.instanceMethod yX11_isSeen) ∈ lw_tbl := tbC_in 5 _ (List.mem_of_getElem? (i := 181) rfl)
theorem tp_69 : (Cond.selects RX11 yX11_isSeen yX11_isSeen) ∈ lw_tbl := tbC_in 7 _ (List.mem_of_getElem? (i := 69) rfl)
set_option maxRecDepth 20000 in
theorem tboX11_seen : ∀ w ∈ woX11_seen, w ∈ lw_tbl := (tb_cons tp_1131 (tb_cons tp_1160 (tb_cons tp_1245 (tb_cons tp_1246 (tb_cons tp_91 (tb_cons tp_1248 (tb_cons tp_1250 (tb_cons tp_39 (tb_cons tp_1457 (tb_cons tp_1459 (tb_cons tp_69 tb_nil)))))))))))
theorem tp_1456 : (Cond.code yX11_seen cX11_seen 2 (some .int)) ∈ lw_tbl := tbC_in 5 _ (List.mem_of_getElem? (i := 178) rfl)
theorem tbX11_seen : ∀ w ∈ wsX11_seen, w ∈ lw_tbl := tb_cons tp_1456 (tb_app tboX11_seen (tb_app tbn_10 (tb_app tbX11_in (tb_app tbX11_bad tbX11_isSeen))))
set_option maxRecDepth 20000 in
theorem tboX10_spy : ∀ w ∈ woX10_spy, w ∈ lw_tbl := (tb_cons tp_338 (tb_cons tp_269 (tb_cons tp_446 (tb_cons tp_425 (tb_cons tp_79 (tb_cons tp_459 (tb_cons tp_461 (tb_cons tp_3 (tb_cons tp_95 (tb_cons tp_998 (tb_cons tp_999 (tb_cons tp_1000 (tb_cons tp_86 tb_nil)))))))))))))
theorem tp_1008 : (Cond.code yX10_spy cX10_spy 4 (some .int)) ∈ lw_tbl := tbC_in 3 _ (List.mem_of_getElem? (i := 210) rfl)
theorem tbX10_spy : ∀ w ∈ wsX10_spy, w ∈ lw_tbl := tb_cons tp_1008 (tb_app tboX10_spy (tb_app tbn_9 (tb_app tbn_6 (tb_app tbn_4 (tb_app tbX10_within (tb_app tbX10_demand tbX2_add))))))
theorem tp_1005 : (Cond.methodLink RL 77 yX10_spy) ∈ lw_tbl := tbC_in 3 _ (List.mem_of_getElem? (i := 207) rfl)
theorem tp_1006 : (Cond.instanceMethod yX10_spy) ∈ lw_tbl := tbC_in 3 _ (List.mem_of_getElem? (i := 208) rfl)
theorem tp_1007 : (Cond.selects RX10 yX10_spy yX10_spy) ∈ lw_tbl := tbC_in 3 _ (List.mem_of_getElem? (i := 209) rfl)
set_option maxRecDepth 20000 in
theorem tboL_spy : ∀ w ∈ woL_spy, w ∈ lw_tbl := (tb_cons tp_454 (tb_cons tp_1005 (tb_cons tp_1006 (tb_cons tp_1007 (tb_cons tp_79 (tb_cons tp_95 (tb_cons tp_86 tb_nil)))))))
theorem tp_1004 : (Cond.codeWith yL_spy cL_spy 5 (some .int) [(0, 10, 13, 13)]) ∈ lw_tbl := tbC_in 3 _ (List.mem_of_getElem? (i := 206) rfl)
theorem tbL_spy : ∀ w ∈ wsL_spy, w ∈ lw_tbl := tb_cons tp_1004 (tb_app tboL_spy (tb_app tbn_9 (tb_app tbn_6 (tb_app tbn_4 tbX10_spy))))
set_option maxRecDepth 20000 in
theorem tboX11_spy : ∀ w ∈ woX11_spy, w ∈ lw_tbl := (tb_cons tp_1131 (tb_cons tp_1245 (tb_cons tp_1246 (tb_cons tp_91 (tb_cons tp_1248 (tb_cons tp_1250 (tb_cons tp_39 (tb_cons tp_1457 (tb_cons tp_1459 (tb_cons tp_69 tb_nil))))))))))
theorem tp_1464 : (Cond.code yX11_spy cX11_spy 3 (some .int)) ∈ lw_tbl := tbC_in 5 _ (List.mem_of_getElem? (i := 186) rfl)
theorem tbX11_spy : ∀ w ∈ wsX11_spy, w ∈ lw_tbl := tb_cons tp_1464 (tb_app tboX11_spy (tb_app tbn_10 (tb_app tbX11_in (tb_app tbX11_bad tbX11_isSeen))))
set_option maxRecDepth 20000 in
theorem tboX2_leastTerm : ∀ w ∈ woX2_leastTerm, w ∈ lw_tbl := (tb_cons tp_232 (tb_cons tp_233 tb_nil))
theorem tp_1019 : (Cond.code yX2_leastTerm cX2_leastTerm 9 (some .long)) ∈ lw_tbl := tbC_in 3 _ (List.mem_of_getElem? (i := 221) rfl)
theorem tbX2_leastTerm : ∀ w ∈ wsX2_leastTerm, w ∈ lw_tbl := tb_cons tp_1019 (tb_app tboX2_leastTerm tbn_4)
theorem tp_1016 : (Cond.methodLink RX10 208 yX2_leastTerm) ∈ lw_tbl := tbC_in 3 _ (List.mem_of_getElem? (i := 218) rfl)
theorem tp_1017 : (Cond.instanceMethod yX2_leastTerm) ∈ lw_tbl := tbC_in 3 _ (List.mem_of_getElem? (i := 219) rfl)
theorem tp_1018 : (Cond.selects RX2 yX2_leastTerm yX2_leastTerm) ∈ lw_tbl := tbC_in 3 _ (List.mem_of_getElem? (i := 220) rfl)
set_option maxRecDepth 20000 in
theorem tboX10_believed : ∀ w ∈ woX10_believed, w ∈ lw_tbl := (tb_cons tp_338 (tb_cons tp_269 (tb_cons tp_446 (tb_cons tp_425 (tb_cons tp_79 (tb_cons tp_459 (tb_cons tp_461 (tb_cons tp_3 (tb_cons tp_95 (tb_cons tp_1016 (tb_cons tp_1017 (tb_cons tp_1018 (tb_cons tp_86 tb_nil)))))))))))))
theorem tp_1015 : (Cond.code yX10_believed cX10_believed 2 (some .long)) ∈ lw_tbl := tbC_in 3 _ (List.mem_of_getElem? (i := 217) rfl)
theorem tbX10_believed : ∀ w ∈ wsX10_believed, w ∈ lw_tbl := tb_cons tp_1015 (tb_app tboX10_believed (tb_app tbn_9 (tb_app tbn_6 (tb_app tbn_4 (tb_app tbX10_within (tb_app tbX10_demand tbX2_leastTerm))))))
theorem tp_1012 : (Cond.methodLink RL 81 yX10_believed) ∈ lw_tbl := tbC_in 3 _ (List.mem_of_getElem? (i := 214) rfl)
theorem tp_1013 : (Cond.instanceMethod yX10_believed) ∈ lw_tbl := tbC_in 3 _ (List.mem_of_getElem? (i := 215) rfl)
theorem tp_1014 : (Cond.selects RX10 yX10_believed yX10_believed) ∈ lw_tbl := tbC_in 3 _ (List.mem_of_getElem? (i := 216) rfl)
set_option maxRecDepth 20000 in
theorem tboL_believed : ∀ w ∈ woL_believed, w ∈ lw_tbl := (tb_cons tp_454 (tb_cons tp_1012 (tb_cons tp_1013 (tb_cons tp_1014 (tb_cons tp_79 (tb_cons tp_95 (tb_cons tp_86 tb_nil)))))))
theorem tp_1011 : (Cond.codeWith yL_believed cL_believed 4 (some .int) [(0, 8, 11, 13)]) ∈ lw_tbl := tbC_in 3 _ (List.mem_of_getElem? (i := 213) rfl)
theorem tbL_believed : ∀ w ∈ wsL_believed, w ∈ lw_tbl := tb_cons tp_1011 (tb_app tboL_believed (tb_app tbn_9 (tb_app tbn_6 (tb_app tbn_4 tbX10_believed))))
set_option maxRecDepth 20000 in
theorem tboX11_believed : ∀ w ∈ woX11_believed, w ∈ lw_tbl := (tb_cons tp_1131 (tb_cons tp_1155 (tb_cons tp_1156 (tb_cons tp_1157 (tb_cons tp_1161 (tb_cons tp_1245 (tb_cons tp_1246 (tb_cons tp_91 (tb_cons tp_1248 (tb_cons tp_1250 (tb_cons tp_39 tb_nil)))))))))))
theorem tp_1468 : (Cond.code yX11_believed cX11_believed 12 (some .long)) ∈ lw_tbl := tbC_in 5 _ (List.mem_of_getElem? (i := 190) rfl)
theorem tbX11_believed : ∀ w ∈ wsX11_believed, w ∈ lw_tbl := tb_cons tp_1468 (tb_app tboX11_believed (tb_app tbn_10 (tb_app tbX11_in tbX11_bad)))
theorem tp_166 : (Cond.fieldLink RX1 21 "HiredEnemy$Plan" "walls" "I") ∈ lw_tbl := tbC_in 0 _ (List.mem_of_getElem? (i := 88) rfl)
theorem tp_1031 : (Cond.methodLink RX1 27 Lib.Math.min.name) ∈ lw_tbl := tbC_in 3 _ (List.mem_of_getElem? (i := 233) rfl)
theorem tp_293 : (Cond.fieldLink RX1 33 "HiredEnemy$Battle" "walls" "I") ∈ lw_tbl := tbC_in 0 _ (List.mem_of_getElem? (i := 215) rfl)
theorem tp_159 : (Cond.fieldLink RX1 34 "HiredEnemy$Plan" "strength" "[I") ∈ lw_tbl := tbC_in 0 _ (List.mem_of_getElem? (i := 81) rfl)
set_option maxRecDepth 20000 in
theorem tboX1_prepare : ∀ w ∈ woX1_prepare, w ∈ lw_tbl := (tb_cons tp_166 (tb_cons tp_1031 (tb_cons tp_536 (tb_cons tp_96 (tb_cons tp_537 (tb_cons tp_293 (tb_cons tp_290 (tb_cons tp_159 (tb_cons tp_291 tb_nil)))))))))
theorem tp_1030 : (Cond.code yX1_prepare cX1_prepare 3 none) ∈ lw_tbl := tbC_in 3 _ (List.mem_of_getElem? (i := 232) rfl)
theorem tbX1_prepare : ∀ w ∈ wsX1_prepare, w ∈ lw_tbl := tb_cons tp_1030 (tb_app tboX1_prepare (tb_app tbn_1 tbn_7))
set_option maxRecDepth 20000 in
theorem tboX1_all : ∀ w ∈ woX1_all, w ∈ lw_tbl := (tb_cons tp_293 tb_nil)
theorem tp_1035 : (Cond.code yX1_all cX1_all 1 (some .int)) ∈ lw_tbl := tbC_in 3 _ (List.mem_of_getElem? (i := 237) rfl)
theorem tbX1_all : ∀ w ∈ wsX1_all, w ∈ lw_tbl := tb_cons tp_1035 (tb_app tboX1_all tbn_7)
set_option maxRecDepth 20000 in
theorem tboX1_place : ∀ w ∈ woX1_place, w ∈ lw_tbl := (tb_cons tp_292 tb_nil)
theorem tp_1043 : (Cond.code yX1_place cX1_place 6 (some .boolean)) ∈ lw_tbl := tbC_in 4 _ (List.mem_of_getElem? (i := 5) rfl)
theorem tbX1_place : ∀ w ∈ wsX1_place, w ∈ lw_tbl := tb_cons tp_1043 (tb_app tboX1_place tbn_7)
set_option maxRecDepth 20000 in
theorem tboX1_menToFell : ∀ w ∈ woX1_menToFell, w ∈ lw_tbl := (tb_cons tp_292 (tb_cons tp_291 tb_nil))
theorem tp_1051 : (Cond.code yX1_menToFell cX1_menToFell 4 (some .int)) ∈ lw_tbl := tbC_in 4 _ (List.mem_of_getElem? (i := 13) rfl)
theorem tbX1_menToFell : ∀ w ∈ wsX1_menToFell, w ∈ lw_tbl := tb_cons tp_1051 (tb_app tboX1_menToFell tbn_7)
set_option maxRecDepth 20000 in
theorem tboX1_worthOf : ∀ w ∈ woX1_worthOf, w ∈ lw_tbl := (tb_cons tp_290 tb_nil)
theorem tp_1055 : (Cond.code yX1_worthOf cX1_worthOf 4 (some .int)) ∈ lw_tbl := tbC_in 4 _ (List.mem_of_getElem? (i := 17) rfl)
theorem tbX1_worthOf : ∀ w ∈ wsX1_worthOf, w ∈ lw_tbl := tb_cons tp_1055 (tb_app tboX1_worthOf tbn_7)
theorem tp_1056 : (Cond.methodLink RX1 51 Lib.Math.max.name) ∈ lw_tbl := tbC_in 4 _ (List.mem_of_getElem? (i := 18) rfl)
theorem tp_1048 : (Cond.methodLink RX1 61 yX1_menToFell) ∈ lw_tbl := tbC_in 4 _ (List.mem_of_getElem? (i := 10) rfl)
theorem tp_1050 : (Cond.instanceMethod yX1_menToFell) ∈ lw_tbl := tbC_in 4 _ (List.mem_of_getElem? (i := 12) rfl)
theorem tp_31 : (Cond.selects RX1 yX1_menToFell yX1_menToFell) ∈ lw_tbl := tbC_in 7 _ (List.mem_of_getElem? (i := 31) rfl)
theorem tp_1052 : (Cond.methodLink RX1 64 yX1_worthOf) ∈ lw_tbl := tbC_in 4 _ (List.mem_of_getElem? (i := 14) rfl)
theorem tp_1054 : (Cond.instanceMethod yX1_worthOf) ∈ lw_tbl := tbC_in 4 _ (List.mem_of_getElem? (i := 16) rfl)
theorem tp_32 : (Cond.selects RX1 yX1_worthOf yX1_worthOf) ∈ lw_tbl := tbC_in 7 _ (List.mem_of_getElem? (i := 32) rfl)
set_option maxRecDepth 20000 in
theorem tboX1_mostFelled : ∀ w ∈ woX1_mostFelled, w ∈ lw_tbl := (tb_cons tp_1056 (tb_cons tp_403 (tb_cons tp_96 (tb_cons tp_404 (tb_cons tp_1048 (tb_cons tp_1050 (tb_cons tp_31 (tb_cons tp_88 (tb_cons tp_1052 (tb_cons tp_1054 (tb_cons tp_32 tb_nil)))))))))))
theorem tp_1047 : (Cond.code yX1_mostFelled cX1_mostFelled 5 (some .int)) ∈ lw_tbl := tbC_in 4 _ (List.mem_of_getElem? (i := 9) rfl)
theorem tbX1_mostFelled : ∀ w ∈ wsX1_mostFelled, w ∈ lw_tbl := tb_cons tp_1047 (tb_app tboX1_mostFelled (tb_app tbn_7 (tb_app tbX1_menToFell tbX1_worthOf)))
set_option maxRecDepth 20000 in
theorem tboX1_digits : ∀ w ∈ woX1_digits, w ∈ lw_tbl := (tb_cons tp_293 (tb_cons tp_292 tb_nil))
theorem tp_1060 : (Cond.code yX1_digits cX1_digits 3 (some .int)) ∈ lw_tbl := tbC_in 4 _ (List.mem_of_getElem? (i := 22) rfl)
theorem tbX1_digits : ∀ w ∈ wsX1_digits, w ∈ lw_tbl := tb_cons tp_1060 (tb_app tboX1_digits tbn_7)
theorem tp_295 : (Cond.fieldLink RX1 37 "HiredEnemy$Battle" "safeDigits" "I") ∈ lw_tbl := tbC_in 0 _ (List.mem_of_getElem? (i := 217) rfl)
theorem tp_1040 : (Cond.methodLink RX1 40 yX1_place) ∈ lw_tbl := tbC_in 4 _ (List.mem_of_getElem? (i := 2) rfl)
theorem tp_1042 : (Cond.instanceMethod yX1_place) ∈ lw_tbl := tbC_in 4 _ (List.mem_of_getElem? (i := 4) rfl)
theorem tp_29 : (Cond.selects RX1 yX1_place yX1_place) ∈ lw_tbl := tbC_in 7 _ (List.mem_of_getElem? (i := 29) rfl)
theorem tp_1044 : (Cond.methodLink RX1 44 yX1_mostFelled) ∈ lw_tbl := tbC_in 4 _ (List.mem_of_getElem? (i := 6) rfl)
theorem tp_1046 : (Cond.instanceMethod yX1_mostFelled) ∈ lw_tbl := tbC_in 4 _ (List.mem_of_getElem? (i := 8) rfl)
theorem tp_30 : (Cond.selects RX1 yX1_mostFelled yX1_mostFelled) ∈ lw_tbl := tbC_in 7 _ (List.mem_of_getElem? (i := 30) rfl)
theorem tp_1057 : (Cond.methodLink RX1 47 yX1_digits) ∈ lw_tbl := tbC_in 4 _ (List.mem_of_getElem? (i := 19) rfl)
theorem tp_1059 : (Cond.instanceMethod yX1_digits) ∈ lw_tbl := tbC_in 4 _ (List.mem_of_getElem? (i := 21) rfl)
theorem tp_33 : (Cond.selects RX1 yX1_digits yX1_digits) ∈ lw_tbl := tbC_in 7 _ (List.mem_of_getElem? (i := 33) rfl)
set_option maxRecDepth 20000 in
theorem tboX1_safe : ∀ w ∈ woX1_safe, w ∈ lw_tbl := (tb_cons tp_295 (tb_cons tp_1056 (tb_cons tp_403 (tb_cons tp_96 (tb_cons tp_1040 (tb_cons tp_1042 (tb_cons tp_29 (tb_cons tp_88 (tb_cons tp_1044 (tb_cons tp_1046 (tb_cons tp_30 (tb_cons tp_1057 (tb_cons tp_1059 (tb_cons tp_33 tb_nil))))))))))))))
theorem tp_1039 : (Cond.code yX1_safe cX1_safe 8 (some .int)) ∈ lw_tbl := tbC_in 4 _ (List.mem_of_getElem? (i := 1) rfl)
theorem tbX1_safe : ∀ w ∈ wsX1_safe, w ∈ lw_tbl := tb_cons tp_1039 (tb_app tboX1_safe (tb_app tbn_7 (tb_app tbX1_place (tb_app tbX1_mostFelled tbX1_digits))))
set_option maxRecDepth 20000 in
theorem tboX1_menToHold : ∀ w ∈ woX1_menToHold, w ∈ lw_tbl := (tb_cons tp_292 (tb_cons tp_291 (tb_cons tp_1056 (tb_cons tp_403 (tb_cons tp_96 (tb_cons tp_404 tb_nil))))))
theorem tp_1073 : (Cond.code yX1_menToHold cX1_menToHold 4 (some .int)) ∈ lw_tbl := tbC_in 4 _ (List.mem_of_getElem? (i := 35) rfl)
theorem tbX1_menToHold : ∀ w ∈ wsX1_menToHold, w ∈ lw_tbl := tb_cons tp_1073 (tb_app tboX1_menToHold tbn_7)
theorem tp_1065 : (Cond.methodLink RX1 54 yX1_all) ∈ lw_tbl := tbC_in 4 _ (List.mem_of_getElem? (i := 27) rfl)
theorem tp_1033 : (Cond.instanceMethod yX1_all) ∈ lw_tbl := tbC_in 3 _ (List.mem_of_getElem? (i := 235) rfl)
theorem tp_1034 : (Cond.selects RX1 yX1_all yX1_all) ∈ lw_tbl := tbC_in 3 _ (List.mem_of_getElem? (i := 236) rfl)
theorem tp_1070 : (Cond.methodLink RX1 67 yX1_menToHold) ∈ lw_tbl := tbC_in 4 _ (List.mem_of_getElem? (i := 32) rfl)
theorem tp_1072 : (Cond.instanceMethod yX1_menToHold) ∈ lw_tbl := tbC_in 4 _ (List.mem_of_getElem? (i := 34) rfl)
theorem tp_35 : (Cond.selects RX1 yX1_menToHold yX1_menToHold) ∈ lw_tbl := tbC_in 7 _ (List.mem_of_getElem? (i := 35) rfl)
set_option maxRecDepth 20000 in
theorem tboX1_leastFelled : ∀ w ∈ woX1_leastFelled, w ∈ lw_tbl := (tb_cons tp_1056 (tb_cons tp_403 (tb_cons tp_96 (tb_cons tp_1065 (tb_cons tp_1033 (tb_cons tp_1034 (tb_cons tp_88 (tb_cons tp_1070 (tb_cons tp_1072 (tb_cons tp_35 (tb_cons tp_1052 (tb_cons tp_1054 (tb_cons tp_32 tb_nil)))))))))))))
theorem tp_1069 : (Cond.code yX1_leastFelled cX1_leastFelled 4 (some .int)) ∈ lw_tbl := tbC_in 4 _ (List.mem_of_getElem? (i := 31) rfl)
theorem tbX1_leastFelled : ∀ w ∈ wsX1_leastFelled, w ∈ lw_tbl := tb_cons tp_1069 (tb_app tboX1_leastFelled (tb_app tbn_7 (tb_app tbX1_all (tb_app tbX1_menToHold tbX1_worthOf))))
theorem tp_1066 : (Cond.methodLink RX1 57 yX1_leastFelled) ∈ lw_tbl := tbC_in 4 _ (List.mem_of_getElem? (i := 28) rfl)
theorem tp_1068 : (Cond.instanceMethod yX1_leastFelled) ∈ lw_tbl := tbC_in 4 _ (List.mem_of_getElem? (i := 30) rfl)
theorem tp_34 : (Cond.selects RX1 yX1_leastFelled yX1_leastFelled) ∈ lw_tbl := tbC_in 7 _ (List.mem_of_getElem? (i := 34) rfl)
set_option maxRecDepth 20000 in
theorem tboX1_sure : ∀ w ∈ woX1_sure, w ∈ lw_tbl := (tb_cons tp_1056 (tb_cons tp_403 (tb_cons tp_96 (tb_cons tp_1065 (tb_cons tp_1033 (tb_cons tp_1034 (tb_cons tp_88 (tb_cons tp_1040 (tb_cons tp_1042 (tb_cons tp_29 (tb_cons tp_1066 (tb_cons tp_1068 (tb_cons tp_34 tb_nil)))))))))))))
theorem tp_1064 : (Cond.code yX1_sure cX1_sure 6 (some .int)) ∈ lw_tbl := tbC_in 4 _ (List.mem_of_getElem? (i := 26) rfl)
theorem tbX1_sure : ∀ w ∈ wsX1_sure, w ∈ lw_tbl := tb_cons tp_1064 (tb_app tboX1_sure (tb_app tbn_7 (tb_app tbX1_all (tb_app tbX1_place tbX1_leastFelled))))
theorem tp_1027 : (Cond.methodLink RX10 212 yX1_prepare) ∈ lw_tbl := tbC_in 3 _ (List.mem_of_getElem? (i := 229) rfl)
theorem tp_1028 : (Cond.instanceMethod yX1_prepare) ∈ lw_tbl := tbC_in 3 _ (List.mem_of_getElem? (i := 230) rfl)
theorem tp_1029 : (Cond.selects RX1 yX1_prepare yX1_prepare) ∈ lw_tbl := tbC_in 3 _ (List.mem_of_getElem? (i := 231) rfl)
theorem tp_1032 : (Cond.methodLink RX10 215 yX1_all) ∈ lw_tbl := tbC_in 3 _ (List.mem_of_getElem? (i := 234) rfl)
theorem tp_1036 : (Cond.methodLink RX10 219 yX1_safe) ∈ lw_tbl := tbC_in 3 _ (List.mem_of_getElem? (i := 238) rfl)
theorem tp_1037 : (Cond.instanceMethod yX1_safe) ∈ lw_tbl := tbC_in 3 _ (List.mem_of_getElem? (i := 239) rfl)
theorem tp_1038 : (Cond.selects RX1 yX1_safe yX1_safe) ∈ lw_tbl := tbC_in 4 _ (List.mem_of_getElem? (i := 0) rfl)
theorem tp_1061 : (Cond.methodLink RX10 223 yX1_sure) ∈ lw_tbl := tbC_in 4 _ (List.mem_of_getElem? (i := 23) rfl)
theorem tp_1062 : (Cond.instanceMethod yX1_sure) ∈ lw_tbl := tbC_in 4 _ (List.mem_of_getElem? (i := 24) rfl)
theorem tp_1063 : (Cond.selects RX1 yX1_sure yX1_sure) ∈ lw_tbl := tbC_in 4 _ (List.mem_of_getElem? (i := 25) rfl)
set_option maxRecDepth 20000 in
theorem tboX10_earnest : ∀ w ∈ woX10_earnest, w ∈ lw_tbl := (tb_cons tp_342 (tb_cons tp_334 (tb_cons tp_446 (tb_cons tp_425 (tb_cons tp_79 (tb_cons tp_459 (tb_cons tp_461 (tb_cons tp_3 (tb_cons tp_95 (tb_cons tp_1027 (tb_cons tp_1028 (tb_cons tp_1029 (tb_cons tp_88 (tb_cons tp_536 (tb_cons tp_96 (tb_cons tp_1032 (tb_cons tp_1033 (tb_cons tp_1034 (tb_cons tp_1036 (tb_cons tp_1037 (tb_cons tp_1038 (tb_cons tp_403 (tb_cons tp_1061 (tb_cons tp_1062 (tb_cons tp_1063 tb_nil)))))))))))))))))))))))))
theorem tp_1026 : (Cond.code yX10_earnest cX10_earnest 4 (some .int)) ∈ lw_tbl := tbC_in 3 _ (List.mem_of_getElem? (i := 228) rfl)
theorem tbX10_earnest : ∀ w ∈ wsX10_earnest, w ∈ lw_tbl := tb_cons tp_1026 (tb_app tboX10_earnest (tb_app tbn_9 (tb_app tbn_1 (tb_app tbn_7 (tb_app tbX10_within (tb_app tbX10_demand (tb_app tbX1_prepare (tb_app tbX1_all (tb_app tbX1_safe tbX1_sure)))))))))
theorem tp_1023 : (Cond.methodLink RL 85 yX10_earnest) ∈ lw_tbl := tbC_in 3 _ (List.mem_of_getElem? (i := 225) rfl)
theorem tp_1024 : (Cond.instanceMethod yX10_earnest) ∈ lw_tbl := tbC_in 3 _ (List.mem_of_getElem? (i := 226) rfl)
theorem tp_1025 : (Cond.selects RX10 yX10_earnest yX10_earnest) ∈ lw_tbl := tbC_in 3 _ (List.mem_of_getElem? (i := 227) rfl)
set_option maxRecDepth 20000 in
theorem tboL_earnest : ∀ w ∈ woL_earnest, w ∈ lw_tbl := (tb_cons tp_454 (tb_cons tp_1023 (tb_cons tp_1024 (tb_cons tp_1025 (tb_cons tp_79 (tb_cons tp_95 (tb_cons tp_88 (tb_cons tp_536 (tb_cons tp_96 (tb_cons tp_403 tb_nil))))))))))
theorem tp_1022 : (Cond.codeWith yL_earnest cL_earnest 6 (some .int) [(0, 12, 15, 13)]) ∈ lw_tbl := tbC_in 3 _ (List.mem_of_getElem? (i := 224) rfl)
theorem tbL_earnest : ∀ w ∈ wsL_earnest, w ∈ lw_tbl := tb_cons tp_1022 (tb_app tboL_earnest (tb_app tbn_9 (tb_app tbn_1 (tb_app tbn_7 tbX10_earnest))))
set_option maxRecDepth 20000 in
theorem tboX11_areTens : ∀ w ∈ woX11_areTens, w ∈ lw_tbl := (tb_cons tp_1245 (tb_cons tp_1246 (tb_cons tp_91 tb_nil)))
theorem tp_1475 : (Cond.code yX11_areTens cX11_areTens 2 (some .boolean)) ∈ lw_tbl := tbC_in 5 _ (List.mem_of_getElem? (i := 197) rfl)
theorem tbX11_areTens : ∀ w ∈ wsX11_areTens, w ∈ lw_tbl := tb_cons tp_1475 (tb_app tboX11_areTens tbX11_in)
set_option maxRecDepth 20000 in
theorem tboX11_firstWalls : ∀ w ∈ woX11_firstWalls, w ∈ lw_tbl := (tb_cons tp_1142 (tb_cons tp_1363 (tb_cons tp_1364 (tb_cons tp_91 tb_nil))))
theorem tp_1479 : (Cond.code yX11_firstWalls cX11_firstWalls 1 (some .int)) ∈ lw_tbl := tbC_in 5 _ (List.mem_of_getElem? (i := 201) rfl)
theorem tbX11_firstWalls : ∀ w ∈ wsX11_firstWalls, w ∈ lw_tbl := tb_cons tp_1479 (tb_app tboX11_firstWalls (tb_app tbn_10 tbX11_less))
theorem tp_1489 : (Cond.code yX11_digit cX11_digit 2 (some .int)) ∈ lw_tbl := tbC_in 5 _ (List.mem_of_getElem? (i := 211) rfl)
theorem tbX11_digit : ∀ w ∈ wsX11_digit, w ∈ lw_tbl := tb_cons tp_1489 tb_nil
theorem tp_1487 : (Cond.methodLink RX11 241 yX11_digit) ∈ lw_tbl := tbC_in 5 _ (List.mem_of_getElem? (i := 209) rfl)
theorem tp_1488 : (Cond.static yX11_digit) ∈ lw_tbl := tbC_in 5 _ (List.mem_of_getElem? (i := 210) rfl)
set_option maxRecDepth 20000 in
theorem tboX11_puts0 : ∀ w ∈ woX11_puts0, w ∈ lw_tbl := (tb_cons tp_1487 (tb_cons tp_1488 (tb_cons tp_91 tb_nil)))
end
section
theorem tp_1486 : (Cond.code yX11_puts0 cX11_puts0 5 (some .boolean)) ∈ lw_tbl := tbC_in 5 _ (List.mem_of_getElem? (i := 208) rfl)
theorem tbX11_puts0 : ∀ w ∈ wsX11_puts0, w ∈ lw_tbl := tb_cons tp_1486 (tb_app tboX11_puts0 tbX11_digit)
set_option maxRecDepth 20000 in
theorem tboX11_falls : ∀ w ∈ woX11_falls, w ∈ lw_tbl := (tb_cons tp_1144 (tb_cons tp_1487 (tb_cons tp_1488 (tb_cons tp_91 tb_nil))))
theorem tp_1493 : (Cond.code yX11_falls cX11_falls 6 (some .int)) ∈ lw_tbl := tbC_in 5 _ (List.mem_of_getElem? (i := 215) rfl)
theorem tbX11_falls : ∀ w ∈ wsX11_falls, w ∈ lw_tbl := tb_cons tp_1493 (tb_app tboX11_falls (tb_app tbn_10 tbX11_digit))
theorem tp_1164 : (Cond.fieldLink RX11 244 "HiredEnemyModel" "safeRow" "I") ∈ lw_tbl := tbC_in 4 _ (List.mem_of_getElem? (i := 126) rfl)
theorem tp_1484 : (Cond.methodLink RX11 247 yX11_puts0) ∈ lw_tbl := tbC_in 5 _ (List.mem_of_getElem? (i := 206) rfl)
theorem tp_1485 : (Cond.static yX11_puts0) ∈ lw_tbl := tbC_in 5 _ (List.mem_of_getElem? (i := 207) rfl)
theorem tp_1490 : (Cond.methodLink RX11 250 yX11_falls) ∈ lw_tbl := tbC_in 5 _ (List.mem_of_getElem? (i := 212) rfl)
theorem tp_1492 : (Cond.instanceMethod yX11_falls) ∈ lw_tbl := tbC_in 5 _ (List.mem_of_getElem? (i := 214) rfl)
theorem tp_72 : (Cond.selects RX11 yX11_falls yX11_falls) ∈ lw_tbl := tbC_in 7 _ (List.mem_of_getElem? (i := 72) rfl)
set_option maxRecDepth 20000 in
theorem tboX11_safeBy : ∀ w ∈ woX11_safeBy, w ∈ lw_tbl := (tb_cons tp_1164 (tb_cons tp_1484 (tb_cons tp_1485 (tb_cons tp_91 (tb_cons tp_1490 (tb_cons tp_1492 (tb_cons tp_72 tb_nil)))))))
theorem tp_1483 : (Cond.code yX11_safeBy cX11_safeBy 8 (some .int)) ∈ lw_tbl := tbC_in 5 _ (List.mem_of_getElem? (i := 205) rfl)
theorem tbX11_safeBy : ∀ w ∈ wsX11_safeBy, w ∈ lw_tbl := tb_cons tp_1483 (tb_app tboX11_safeBy (tb_app tbn_10 (tb_app tbX11_puts0 tbX11_falls)))
set_option maxRecDepth 20000 in
theorem tboX11_sureBy : ∀ w ∈ woX11_sureBy, w ∈ lw_tbl := (tb_cons tp_1484 (tb_cons tp_1485 (tb_cons tp_91 (tb_cons tp_1490 (tb_cons tp_1492 (tb_cons tp_72 tb_nil))))))
theorem tp_1497 : (Cond.code yX11_sureBy cX11_sureBy 8 (some .int)) ∈ lw_tbl := tbC_in 5 _ (List.mem_of_getElem? (i := 219) rfl)
theorem tbX11_sureBy : ∀ w ∈ wsX11_sureBy, w ∈ lw_tbl := tb_cons tp_1497 (tb_app tboX11_sureBy (tb_app tbn_10 (tb_app tbX11_puts0 tbX11_falls)))
theorem tp_1473 : (Cond.methodLink RX11 253 yX11_areTens) ∈ lw_tbl := tbC_in 5 _ (List.mem_of_getElem? (i := 195) rfl)
theorem tp_1474 : (Cond.static yX11_areTens) ∈ lw_tbl := tbC_in 5 _ (List.mem_of_getElem? (i := 196) rfl)
theorem tp_1476 : (Cond.methodLink RX11 257 yX11_firstWalls) ∈ lw_tbl := tbC_in 5 _ (List.mem_of_getElem? (i := 198) rfl)
theorem tp_1478 : (Cond.instanceMethod yX11_firstWalls) ∈ lw_tbl := tbC_in 5 _ (List.mem_of_getElem? (i := 200) rfl)
theorem tp_70 : (Cond.selects RX11 yX11_firstWalls yX11_firstWalls) ∈ lw_tbl := tbC_in 7 _ (List.mem_of_getElem? (i := 70) rfl)
theorem tp_1480 : (Cond.methodLink RX11 260 yX11_safeBy) ∈ lw_tbl := tbC_in 5 _ (List.mem_of_getElem? (i := 202) rfl)
theorem tp_1482 : (Cond.instanceMethod yX11_safeBy) ∈ lw_tbl := tbC_in 5 _ (List.mem_of_getElem? (i := 204) rfl)
theorem tp_71 : (Cond.selects RX11 yX11_safeBy yX11_safeBy) ∈ lw_tbl := tbC_in 7 _ (List.mem_of_getElem? (i := 71) rfl)
theorem tp_1494 : (Cond.methodLink RX11 263 yX11_sureBy) ∈ lw_tbl := tbC_in 5 _ (List.mem_of_getElem? (i := 216) rfl)
theorem tp_1496 : (Cond.instanceMethod yX11_sureBy) ∈ lw_tbl := tbC_in 5 _ (List.mem_of_getElem? (i := 218) rfl)
theorem tp_73 : (Cond.selects RX11 yX11_sureBy yX11_sureBy) ∈ lw_tbl := tbC_in 7 _ (List.mem_of_getElem? (i := 73) rfl)
set_option maxRecDepth 20000 in
theorem tboX11_earnest : ∀ w ∈ woX11_earnest, w ∈ lw_tbl := (tb_cons tp_1131 (tb_cons tp_1473 (tb_cons tp_1474 (tb_cons tp_91 (tb_cons tp_1245 (tb_cons tp_1246 (tb_cons tp_1248 (tb_cons tp_1250 (tb_cons tp_39 (tb_cons tp_1476 (tb_cons tp_1478 (tb_cons tp_70 (tb_cons tp_1480 (tb_cons tp_1482 (tb_cons tp_71 (tb_cons tp_1494 (tb_cons tp_1496 (tb_cons tp_73 tb_nil))))))))))))))))))
theorem tp_1472 : (Cond.code yX11_earnest cX11_earnest 4 (some .int)) ∈ lw_tbl := tbC_in 5 _ (List.mem_of_getElem? (i := 194) rfl)
theorem tbX11_earnest : ∀ w ∈ wsX11_earnest, w ∈ lw_tbl := tb_cons tp_1472 (tb_app tboX11_earnest (tb_app tbn_10 (tb_app tbX11_areTens (tb_app tbX11_in (tb_app tbX11_bad (tb_app tbX11_firstWalls (tb_app tbX11_safeBy tbX11_sureBy)))))))
theorem tp_296 : (Cond.fieldLink RX10 226 "HiredEnemy$Battle" "safeDigits" "I") ∈ lw_tbl := tbC_in 0 _ (List.mem_of_getElem? (i := 218) rfl)
set_option maxRecDepth 20000 in
theorem tboX10_stands : ∀ w ∈ woX10_stands, w ∈ lw_tbl := (tb_cons tp_342 (tb_cons tp_334 (tb_cons tp_296 (tb_cons tp_446 (tb_cons tp_425 (tb_cons tp_79 (tb_cons tp_459 (tb_cons tp_461 (tb_cons tp_3 (tb_cons tp_95 (tb_cons tp_1027 (tb_cons tp_1028 (tb_cons tp_1029 (tb_cons tp_88 (tb_cons tp_536 (tb_cons tp_96 (tb_cons tp_1032 (tb_cons tp_1033 (tb_cons tp_1034 (tb_cons tp_1036 (tb_cons tp_1037 (tb_cons tp_1038 (tb_cons tp_403 tb_nil)))))))))))))))))))))))
theorem tp_1080 : (Cond.code yX10_stands cX10_stands 3 (some .int)) ∈ lw_tbl := tbC_in 4 _ (List.mem_of_getElem? (i := 42) rfl)
theorem tbX10_stands : ∀ w ∈ wsX10_stands, w ∈ lw_tbl := tb_cons tp_1080 (tb_app tboX10_stands (tb_app tbn_9 (tb_app tbn_7 (tb_app tbn_1 (tb_app tbX10_within (tb_app tbX10_demand (tb_app tbX1_prepare (tb_app tbX1_all tbX1_safe))))))))
theorem tp_1077 : (Cond.methodLink RL 88 yX10_stands) ∈ lw_tbl := tbC_in 4 _ (List.mem_of_getElem? (i := 39) rfl)
theorem tp_1078 : (Cond.instanceMethod yX10_stands) ∈ lw_tbl := tbC_in 4 _ (List.mem_of_getElem? (i := 40) rfl)
theorem tp_1079 : (Cond.selects RX10 yX10_stands yX10_stands) ∈ lw_tbl := tbC_in 4 _ (List.mem_of_getElem? (i := 41) rfl)
set_option maxRecDepth 20000 in
theorem tboL_stands : ∀ w ∈ woL_stands, w ∈ lw_tbl := (tb_cons tp_454 (tb_cons tp_1077 (tb_cons tp_1078 (tb_cons tp_1079 (tb_cons tp_79 (tb_cons tp_95 (tb_cons tp_88 (tb_cons tp_536 (tb_cons tp_96 (tb_cons tp_403 tb_nil))))))))))
theorem tp_1076 : (Cond.codeWith yL_stands cL_stands 5 (some .int) [(0, 10, 13, 13)]) ∈ lw_tbl := tbC_in 4 _ (List.mem_of_getElem? (i := 38) rfl)
theorem tbL_stands : ∀ w ∈ wsL_stands, w ∈ lw_tbl := tb_cons tp_1076 (tb_app tboL_stands (tb_app tbn_9 (tb_app tbn_7 (tb_app tbn_1 tbX10_stands))))
set_option maxRecDepth 20000 in
theorem tboX11_stands : ∀ w ∈ woX11_stands, w ∈ lw_tbl := (tb_cons tp_1131 (tb_cons tp_1142 (tb_cons tp_1164 (tb_cons tp_1473 (tb_cons tp_1474 (tb_cons tp_91 (tb_cons tp_1248 (tb_cons tp_1250 (tb_cons tp_39 (tb_cons tp_1476 (tb_cons tp_1478 (tb_cons tp_70 (tb_cons tp_1363 (tb_cons tp_1364 (tb_cons tp_1480 (tb_cons tp_1482 (tb_cons tp_71 (tb_cons tp_1487 (tb_cons tp_1488 tb_nil)))))))))))))))))))
theorem tp_1501 : (Cond.code yX11_stands cX11_stands 5 (some .int)) ∈ lw_tbl := tbC_in 5 _ (List.mem_of_getElem? (i := 223) rfl)
theorem tbX11_stands : ∀ w ∈ wsX11_stands, w ∈ lw_tbl := tb_cons tp_1501 (tb_app tboX11_stands (tb_app tbn_10 (tb_app tbX11_areTens (tb_app tbX11_bad (tb_app tbX11_firstWalls (tb_app tbX11_safeBy (tb_app tbX11_less tbX11_digit)))))))
theorem tp_294 : (Cond.fieldLink RX10 229 "HiredEnemy$Battle" "walls" "I") ∈ lw_tbl := tbC_in 0 _ (List.mem_of_getElem? (i := 216) rfl)
set_option maxRecDepth 20000 in
theorem tboX10_show : ∀ w ∈ woX10_show, w ∈ lw_tbl := (tb_cons tp_342 (tb_cons tp_334 (tb_cons tp_294 (tb_cons tp_446 (tb_cons tp_425 (tb_cons tp_79 (tb_cons tp_459 (tb_cons tp_461 (tb_cons tp_3 (tb_cons tp_95 (tb_cons tp_1027 (tb_cons tp_1028 (tb_cons tp_1029 (tb_cons tp_88 (tb_cons tp_536 (tb_cons tp_96 (tb_cons tp_1032 (tb_cons tp_1033 (tb_cons tp_1034 (tb_cons tp_1036 (tb_cons tp_1037 (tb_cons tp_1038 (tb_cons tp_403 tb_nil)))))))))))))))))))))))
theorem tp_1087 : (Cond.code yX10_show cX10_show 7 (some .int)) ∈ lw_tbl := tbC_in 4 _ (List.mem_of_getElem? (i := 49) rfl)
theorem tbX10_show : ∀ w ∈ wsX10_show, w ∈ lw_tbl := tb_cons tp_1087 (tb_app tboX10_show (tb_app tbn_9 (tb_app tbn_7 (tb_app tbn_1 (tb_app tbX10_within (tb_app tbX10_demand (tb_app tbX1_prepare (tb_app tbX1_all tbX1_safe))))))))
theorem tp_1084 : (Cond.methodLink RL 91 yX10_show) ∈ lw_tbl := tbC_in 4 _ (List.mem_of_getElem? (i := 46) rfl)
theorem tp_1085 : (Cond.instanceMethod yX10_show) ∈ lw_tbl := tbC_in 4 _ (List.mem_of_getElem? (i := 47) rfl)
theorem tp_1086 : (Cond.selects RX10 yX10_show yX10_show) ∈ lw_tbl := tbC_in 4 _ (List.mem_of_getElem? (i := 48) rfl)
set_option maxRecDepth 20000 in
theorem tboL_show : ∀ w ∈ woL_show, w ∈ lw_tbl := (tb_cons tp_454 (tb_cons tp_1084 (tb_cons tp_1085 (tb_cons tp_1086 (tb_cons tp_79 (tb_cons tp_95 (tb_cons tp_88 (tb_cons tp_536 (tb_cons tp_96 (tb_cons tp_403 tb_nil))))))))))
theorem tp_1083 : (Cond.codeWith yL_show cL_show 5 (some .int) [(0, 10, 13, 13)]) ∈ lw_tbl := tbC_in 4 _ (List.mem_of_getElem? (i := 45) rfl)
theorem tbL_show : ∀ w ∈ wsL_show, w ∈ lw_tbl := tb_cons tp_1083 (tb_app tboL_show (tb_app tbn_9 (tb_app tbn_7 (tb_app tbn_1 tbX10_show))))
set_option maxRecDepth 20000 in
theorem tboX11_show : ∀ w ∈ woX11_show, w ∈ lw_tbl := (tb_cons tp_1131 (tb_cons tp_1473 (tb_cons tp_1474 (tb_cons tp_91 (tb_cons tp_1248 (tb_cons tp_1250 (tb_cons tp_39 (tb_cons tp_1476 (tb_cons tp_1478 (tb_cons tp_70 (tb_cons tp_1480 (tb_cons tp_1482 (tb_cons tp_71 tb_nil)))))))))))))
theorem tp_1505 : (Cond.code yX11_show cX11_show 7 (some .int)) ∈ lw_tbl := tbC_in 5 _ (List.mem_of_getElem? (i := 227) rfl)
theorem tbX11_show : ∀ w ∈ wsX11_show, w ∈ lw_tbl := tb_cons tp_1505 (tb_app tboX11_show (tb_app tbn_10 (tb_app tbX11_areTens (tb_app tbX11_bad (tb_app tbX11_firstWalls tbX11_safeBy)))))
set_option maxRecDepth 20000 in
theorem tboX3_bid : ∀ w ∈ woX3_bid, w ∈ lw_tbl := (tb_cons tp_257 tb_nil)
theorem tp_1098 : (Cond.code yX3_bid cX3_bid 6 (some .int)) ∈ lw_tbl := tbC_in 4 _ (List.mem_of_getElem? (i := 60) rfl)
theorem tbX3_bid : ∀ w ∈ wsX3_bid, w ∈ lw_tbl := tb_cons tp_1098 (tb_app tboX3_bid tbn_5)
theorem tp_271 : (Cond.fieldLink RX10 232 "HiredEnemy$Scene" "bids" "LHiredEnemy$Bids;") ∈ lw_tbl := tbC_in 0 _ (List.mem_of_getElem? (i := 193) rfl)
theorem tp_1095 : (Cond.methodLink RX10 236 yX3_bid) ∈ lw_tbl := tbC_in 4 _ (List.mem_of_getElem? (i := 57) rfl)
theorem tp_1096 : (Cond.instanceMethod yX3_bid) ∈ lw_tbl := tbC_in 4 _ (List.mem_of_getElem? (i := 58) rfl)
theorem tp_1097 : (Cond.selects RX3 yX3_bid yX3_bid) ∈ lw_tbl := tbC_in 4 _ (List.mem_of_getElem? (i := 59) rfl)
set_option maxRecDepth 20000 in
theorem tboX10_offers : ∀ w ∈ woX10_offers, w ∈ lw_tbl := (tb_cons tp_338 (tb_cons tp_271 (tb_cons tp_446 (tb_cons tp_425 (tb_cons tp_79 (tb_cons tp_459 (tb_cons tp_461 (tb_cons tp_3 (tb_cons tp_95 (tb_cons tp_1095 (tb_cons tp_1096 (tb_cons tp_1097 (tb_cons tp_87 tb_nil)))))))))))))
theorem tp_1094 : (Cond.code yX10_offers cX10_offers 4 (some .int)) ∈ lw_tbl := tbC_in 4 _ (List.mem_of_getElem? (i := 56) rfl)
theorem tbX10_offers : ∀ w ∈ wsX10_offers, w ∈ lw_tbl := tb_cons tp_1094 (tb_app tboX10_offers (tb_app tbn_9 (tb_app tbn_6 (tb_app tbn_5 (tb_app tbX10_within (tb_app tbX10_demand tbX3_bid))))))
theorem tp_1091 : (Cond.methodLink RL 94 yX10_offers) ∈ lw_tbl := tbC_in 4 _ (List.mem_of_getElem? (i := 53) rfl)
theorem tp_1092 : (Cond.instanceMethod yX10_offers) ∈ lw_tbl := tbC_in 4 _ (List.mem_of_getElem? (i := 54) rfl)
theorem tp_1093 : (Cond.selects RX10 yX10_offers yX10_offers) ∈ lw_tbl := tbC_in 4 _ (List.mem_of_getElem? (i := 55) rfl)
set_option maxRecDepth 20000 in
theorem tboL_offers : ∀ w ∈ woL_offers, w ∈ lw_tbl := (tb_cons tp_454 (tb_cons tp_1091 (tb_cons tp_1092 (tb_cons tp_1093 (tb_cons tp_79 (tb_cons tp_95 (tb_cons tp_87 tb_nil)))))))
theorem tp_1090 : (Cond.codeWith yL_offers cL_offers 6 (some .int) [(0, 12, 15, 13)]) ∈ lw_tbl := tbC_in 4 _ (List.mem_of_getElem? (i := 52) rfl)
theorem tbL_offers : ∀ w ∈ wsL_offers, w ∈ lw_tbl := tb_cons tp_1090 (tb_app tboL_offers (tb_app tbn_9 (tb_app tbn_6 (tb_app tbn_5 tbX10_offers))))
set_option maxRecDepth 20000 in
theorem tboX11_offers : ∀ w ∈ woX11_offers, w ∈ lw_tbl := (tb_cons tp_1131 (tb_cons tp_1162 (tb_cons tp_1245 (tb_cons tp_1246 (tb_cons tp_91 (tb_cons tp_1248 (tb_cons tp_1250 (tb_cons tp_39 tb_nil))))))))
theorem tp_1509 : (Cond.code yX11_offers cX11_offers 5 (some .int)) ∈ lw_tbl := tbC_in 5 _ (List.mem_of_getElem? (i := 231) rfl)
theorem tbX11_offers : ∀ w ∈ wsX11_offers, w ∈ lw_tbl := tb_cons tp_1509 (tb_app tboX11_offers (tb_app tbn_10 (tb_app tbX11_in tbX11_bad)))
theorem tp_397 : (Cond.code yX3_mayFollow cX3_mayFollow 2 (some .boolean)) ∈ lw_tbl := tbC_in 1 _ (List.mem_of_getElem? (i := 79) rfl)
theorem tbX3_mayFollow : ∀ w ∈ wsX3_mayFollow, w ∈ lw_tbl := tb_cons tp_397 tb_nil
set_option maxRecDepth 20000 in
theorem tboX3_through : ∀ w ∈ woX3_through, w ∈ lw_tbl := (tb_cons tp_257 (tb_cons tp_258 tb_nil))
theorem tp_401 : (Cond.code yX3_through cX3_through 3 (some .int)) ∈ lw_tbl := tbC_in 1 _ (List.mem_of_getElem? (i := 83) rfl)
theorem tbX3_through : ∀ w ∈ wsX3_through, w ∈ lw_tbl := tb_cons tp_401 (tb_app tboX3_through tbn_5)
theorem tp_402 : (Cond.methodLink RX3 33 Lib.Math.max.name) ∈ lw_tbl := tbC_in 1 _ (List.mem_of_getElem? (i := 84) rfl)
theorem tp_395 : (Cond.methodLink RX3 26 yX3_mayFollow) ∈ lw_tbl := tbC_in 1 _ (List.mem_of_getElem? (i := 77) rfl)
theorem tp_396 : (Cond.static yX3_mayFollow) ∈ lw_tbl := tbC_in 1 _ (List.mem_of_getElem? (i := 78) rfl)
theorem tp_398 : (Cond.methodLink RX3 30 yX3_through) ∈ lw_tbl := tbC_in 1 _ (List.mem_of_getElem? (i := 80) rfl)
theorem tp_400 : (Cond.instanceMethod yX3_through) ∈ lw_tbl := tbC_in 1 _ (List.mem_of_getElem? (i := 82) rfl)
theorem tp_2 : (Cond.selects RX3 yX3_through yX3_through) ∈ lw_tbl := tbC_in 7 _ (List.mem_of_getElem? (i := 2) rfl)
set_option maxRecDepth 20000 in
theorem tboX3_mostFrom : ∀ w ∈ woX3_mostFrom, w ∈ lw_tbl := (tb_cons tp_402 (tb_cons tp_403 (tb_cons tp_96 (tb_cons tp_404 (tb_cons tp_395 (tb_cons tp_396 (tb_cons tp_87 (tb_cons tp_398 (tb_cons tp_400 (tb_cons tp_2 tb_nil))))))))))
theorem tp_394 : (Cond.code yX3_mostFrom cX3_mostFrom 5 (some .int)) ∈ lw_tbl := tbC_in 1 _ (List.mem_of_getElem? (i := 76) rfl)
theorem tbX3_mostFrom : ∀ w ∈ wsX3_mostFrom, w ∈ lw_tbl := tb_cons tp_394 (tb_app tboX3_mostFrom (tb_app tbn_5 (tb_app tbX3_mayFollow tbX3_through)))
theorem tp_391 : (Cond.methodLink RX3 22 yX3_mostFrom) ∈ lw_tbl := tbC_in 1 _ (List.mem_of_getElem? (i := 73) rfl)
theorem tp_393 : (Cond.instanceMethod yX3_mostFrom) ∈ lw_tbl := tbC_in 1 _ (List.mem_of_getElem? (i := 75) rfl)
theorem tp_1 : (Cond.selects RX3 yX3_mostFrom yX3_mostFrom) ∈ lw_tbl := tbC_in 7 _ (List.mem_of_getElem? (i := 1) rfl)
set_option maxRecDepth 20000 in
theorem tboX3_mostCoin : ∀ w ∈ woX3_mostCoin, w ∈ lw_tbl := (tb_cons tp_258 (tb_cons tp_391 (tb_cons tp_393 (tb_cons tp_1 (tb_cons tp_87 (tb_cons tp_403 (tb_cons tp_96 tb_nil)))))))
theorem tp_390 : (Cond.code yX3_mostCoin cX3_mostCoin 3 (some .int)) ∈ lw_tbl := tbC_in 1 _ (List.mem_of_getElem? (i := 72) rfl)
theorem tbX3_mostCoin : ∀ w ∈ wsX3_mostCoin, w ∈ lw_tbl := tb_cons tp_390 (tb_app tboX3_mostCoin (tb_app tbn_5 tbX3_mostFrom))
theorem tp_387 : (Cond.methodLink RX10 239 yX3_mostCoin) ∈ lw_tbl := tbC_in 1 _ (List.mem_of_getElem? (i := 69) rfl)
theorem tp_388 : (Cond.instanceMethod yX3_mostCoin) ∈ lw_tbl := tbC_in 1 _ (List.mem_of_getElem? (i := 70) rfl)
theorem tp_389 : (Cond.selects RX3 yX3_mostCoin yX3_mostCoin) ∈ lw_tbl := tbC_in 1 _ (List.mem_of_getElem? (i := 71) rfl)
set_option maxRecDepth 20000 in
theorem tboX10_most : ∀ w ∈ woX10_most, w ∈ lw_tbl := (tb_cons tp_338 (tb_cons tp_271 (tb_cons tp_387 (tb_cons tp_388 (tb_cons tp_389 (tb_cons tp_87 (tb_cons tp_403 (tb_cons tp_96 tb_nil))))))))
theorem tp_386 : (Cond.code yX10_most cX10_most 1 (some .int)) ∈ lw_tbl := tbC_in 1 _ (List.mem_of_getElem? (i := 68) rfl)
theorem tbX10_most : ∀ w ∈ wsX10_most, w ∈ lw_tbl := tb_cons tp_386 (tb_app tboX10_most (tb_app tbn_9 (tb_app tbn_6 (tb_app tbn_5 tbX3_mostCoin))))
theorem tp_1524 : (Cond.code yX11_mayServe cX11_mayServe 2 (some .boolean)) ∈ lw_tbl := tbC_in 6 _ (List.mem_of_getElem? (i := 6) rfl)
theorem tbX11_mayServe : ∀ w ∈ wsX11_mayServe, w ∈ lw_tbl := tb_cons tp_1524 tb_nil
theorem tp_1522 : (Cond.methodLink RX11 266 yX11_mayServe) ∈ lw_tbl := tbC_in 6 _ (List.mem_of_getElem? (i := 4) rfl)
theorem tp_1523 : (Cond.static yX11_mayServe) ∈ lw_tbl := tbC_in 6 _ (List.mem_of_getElem? (i := 5) rfl)
set_option maxRecDepth 20000 in
theorem tboX11_laysRest : ∀ w ∈ woX11_laysRest, w ∈ lw_tbl := (tb_cons tp_1165 (tb_cons tp_1162 (tb_cons tp_1522 (tb_cons tp_1523 (tb_cons tp_91 tb_nil)))))
theorem tp_1521 : (Cond.code yX11_laysRest cX11_laysRest 5 none) ∈ lw_tbl := tbC_in 6 _ (List.mem_of_getElem? (i := 3) rfl)
theorem tbX11_laysRest : ∀ w ∈ wsX11_laysRest, w ∈ lw_tbl := tb_cons tp_1521 (tb_app tboX11_laysRest (tb_app tbn_10 tbX11_mayServe))
theorem tp_1518 : (Cond.methodLink RX11 269 yX11_laysRest) ∈ lw_tbl := tbC_in 6 _ (List.mem_of_getElem? (i := 0) rfl)
theorem tp_1520 : (Cond.instanceMethod yX11_laysRest) ∈ lw_tbl := tbC_in 6 _ (List.mem_of_getElem? (i := 2) rfl)
theorem tp_75 : (Cond.selects RX11 yX11_laysRest yX11_laysRest) ∈ lw_tbl := tbC_in 7 _ (List.mem_of_getElem? (i := 75) rfl)
set_option maxRecDepth 20000 in
theorem tboX11_mostNow : ∀ w ∈ woX11_mostNow, w ∈ lw_tbl := (tb_cons tp_1165 (tb_cons tp_1518 (tb_cons tp_1520 (tb_cons tp_75 (tb_cons tp_91 tb_nil)))))
theorem tp_1517 : (Cond.code yX11_mostNow cX11_mostNow 3 (some .int)) ∈ lw_tbl := tbC_in 5 _ (List.mem_of_getElem? (i := 239) rfl)
theorem tbX11_mostNow : ∀ w ∈ wsX11_mostNow, w ∈ lw_tbl := tb_cons tp_1517 (tb_app tboX11_mostNow (tb_app tbn_10 tbX11_laysRest))
theorem tp_1514 : (Cond.methodLink RX11 272 yX11_mostNow) ∈ lw_tbl := tbC_in 5 _ (List.mem_of_getElem? (i := 236) rfl)
theorem tp_1516 : (Cond.instanceMethod yX11_mostNow) ∈ lw_tbl := tbC_in 5 _ (List.mem_of_getElem? (i := 238) rfl)
theorem tp_74 : (Cond.selects RX11 yX11_mostNow yX11_mostNow) ∈ lw_tbl := tbC_in 7 _ (List.mem_of_getElem? (i := 74) rfl)
set_option maxRecDepth 20000 in
theorem tboX11_most : ∀ w ∈ woX11_most, w ∈ lw_tbl := (tb_cons tp_1131 (tb_cons tp_1514 (tb_cons tp_1516 (tb_cons tp_74 (tb_cons tp_91 tb_nil)))))
theorem tp_1513 : (Cond.code yX11_most cX11_most 1 (some .int)) ∈ lw_tbl := tbC_in 5 _ (List.mem_of_getElem? (i := 235) rfl)
theorem tbX11_most : ∀ w ∈ wsX11_most, w ∈ lw_tbl := tb_cons tp_1513 (tb_app tboX11_most (tb_app tbn_10 tbX11_mostNow))
set_option maxRecDepth 20000 in
theorem tboX3_firstWay : ∀ w ∈ woX3_firstWay, w ∈ lw_tbl := (tb_cons tp_258 (tb_cons tp_395 (tb_cons tp_396 (tb_cons tp_87 (tb_cons tp_398 (tb_cons tp_400 (tb_cons tp_2 tb_nil)))))))
theorem tp_1114 : (Cond.code yX3_firstWay cX3_firstWay 4 (some .int)) ∈ lw_tbl := tbC_in 4 _ (List.mem_of_getElem? (i := 76) rfl)
theorem tbX3_firstWay : ∀ w ∈ wsX3_firstWay, w ∈ lw_tbl := tb_cons tp_1114 (tb_app tboX3_firstWay (tb_app tbn_5 (tb_app tbX3_mayFollow tbX3_through)))
theorem tp_1110 : (Cond.methodLink RX3 38 yX3_mostCoin) ∈ lw_tbl := tbC_in 4 _ (List.mem_of_getElem? (i := 72) rfl)
theorem tp_1111 : (Cond.methodLink RX3 42 yX3_firstWay) ∈ lw_tbl := tbC_in 4 _ (List.mem_of_getElem? (i := 73) rfl)
theorem tp_1113 : (Cond.instanceMethod yX3_firstWay) ∈ lw_tbl := tbC_in 4 _ (List.mem_of_getElem? (i := 75) rfl)
theorem tp_36 : (Cond.selects RX3 yX3_firstWay yX3_firstWay) ∈ lw_tbl := tbC_in 7 _ (List.mem_of_getElem? (i := 36) rfl)
set_option maxRecDepth 20000 in
theorem tboX3_served : ∀ w ∈ woX3_served, w ∈ lw_tbl := (tb_cons tp_1110 (tb_cons tp_388 (tb_cons tp_389 (tb_cons tp_87 (tb_cons tp_403 (tb_cons tp_96 (tb_cons tp_1111 (tb_cons tp_1113 (tb_cons tp_36 tb_nil)))))))))
theorem tp_1109 : (Cond.code yX3_served cX3_served 4 (some .int)) ∈ lw_tbl := tbC_in 4 _ (List.mem_of_getElem? (i := 71) rfl)
theorem tbX3_served : ∀ w ∈ wsX3_served, w ∈ lw_tbl := tb_cons tp_1109 (tb_app tboX3_served (tb_app tbn_5 (tb_app tbX3_mostCoin tbX3_firstWay)))
theorem tp_1106 : (Cond.methodLink RX10 242 yX3_served) ∈ lw_tbl := tbC_in 4 _ (List.mem_of_getElem? (i := 68) rfl)
theorem tp_1107 : (Cond.instanceMethod yX3_served) ∈ lw_tbl := tbC_in 4 _ (List.mem_of_getElem? (i := 69) rfl)
theorem tp_1108 : (Cond.selects RX3 yX3_served yX3_served) ∈ lw_tbl := tbC_in 4 _ (List.mem_of_getElem? (i := 70) rfl)
set_option maxRecDepth 20000 in
theorem tboX10_serves : ∀ w ∈ woX10_serves, w ∈ lw_tbl := (tb_cons tp_338 (tb_cons tp_271 (tb_cons tp_446 (tb_cons tp_425 (tb_cons tp_79 (tb_cons tp_459 (tb_cons tp_461 (tb_cons tp_3 (tb_cons tp_95 (tb_cons tp_1106 (tb_cons tp_1107 (tb_cons tp_1108 (tb_cons tp_87 (tb_cons tp_403 (tb_cons tp_96 tb_nil)))))))))))))))
theorem tp_1105 : (Cond.code yX10_serves cX10_serves 2 (some .int)) ∈ lw_tbl := tbC_in 4 _ (List.mem_of_getElem? (i := 67) rfl)
theorem tbX10_serves : ∀ w ∈ wsX10_serves, w ∈ lw_tbl := tb_cons tp_1105 (tb_app tboX10_serves (tb_app tbn_9 (tb_app tbn_6 (tb_app tbn_5 (tb_app tbX10_within (tb_app tbX10_demand tbX3_served))))))
theorem tp_1102 : (Cond.methodLink RL 97 yX10_serves) ∈ lw_tbl := tbC_in 4 _ (List.mem_of_getElem? (i := 64) rfl)
theorem tp_1103 : (Cond.instanceMethod yX10_serves) ∈ lw_tbl := tbC_in 4 _ (List.mem_of_getElem? (i := 65) rfl)
theorem tp_1104 : (Cond.selects RX10 yX10_serves yX10_serves) ∈ lw_tbl := tbC_in 4 _ (List.mem_of_getElem? (i := 66) rfl)
set_option maxRecDepth 20000 in
theorem tboL_serves : ∀ w ∈ woL_serves, w ∈ lw_tbl := (tb_cons tp_454 (tb_cons tp_1102 (tb_cons tp_1103 (tb_cons tp_1104 (tb_cons tp_79 (tb_cons tp_95 (tb_cons tp_87 (tb_cons tp_403 (tb_cons tp_96 tb_nil)))))))))
theorem tp_1101 : (Cond.codeWith yL_serves cL_serves 4 (some .int) [(0, 9, 12, 13)]) ∈ lw_tbl := tbC_in 4 _ (List.mem_of_getElem? (i := 63) rfl)
theorem tbL_serves : ∀ w ∈ wsL_serves, w ∈ lw_tbl := tb_cons tp_1101 (tb_app tboL_serves (tb_app tbn_9 (tb_app tbn_6 (tb_app tbn_5 tbX10_serves))))
set_option maxRecDepth 20000 in
theorem tboX11_serves : ∀ w ∈ woX11_serves, w ∈ lw_tbl := (tb_cons tp_1131 (tb_cons tp_1165 (tb_cons tp_1162 (tb_cons tp_1245 (tb_cons tp_1246 (tb_cons tp_91 (tb_cons tp_1248 (tb_cons tp_1250 (tb_cons tp_39 (tb_cons tp_1514 (tb_cons tp_1516 (tb_cons tp_74 (tb_cons tp_1522 (tb_cons tp_1523 tb_nil))))))))))))))
theorem tp_1528 : (Cond.code yX11_serves cX11_serves 6 (some .int)) ∈ lw_tbl := tbC_in 6 _ (List.mem_of_getElem? (i := 10) rfl)
theorem tbX11_serves : ∀ w ∈ wsX11_serves, w ∈ lw_tbl := tb_cons tp_1528 (tb_app tboX11_serves (tb_app tbn_10 (tb_app tbX11_in (tb_app tbX11_bad (tb_app tbX11_mostNow tbX11_mayServe)))))
set_option maxRecDepth 20000 in
theorem tboX0_take : ∀ w ∈ woX0_take, w ∈ lw_tbl := (tb_cons tp_216 (tb_cons tp_427 (tb_cons tp_419 (tb_cons tp_418 (tb_cons tp_103 (tb_cons tp_425 (tb_cons tp_79 tb_nil)))))))
theorem tp_423 : (Cond.code yX0_take cX0_take 3 none) ∈ lw_tbl := tbC_in 1 _ (List.mem_of_getElem? (i := 105) rfl)
theorem tbX0_take : ∀ w ∈ wsX0_take, w ∈ lw_tbl := tb_cons tp_423 (tb_app tboX0_take (tb_app tbn_3 tbX10_within))
theorem tp_432 : (Cond.methodLink RX2 36 arraycopyName) ∈ lw_tbl := tbC_in 1 _ (List.mem_of_getElem? (i := 114) rfl)
set_option maxRecDepth 20000 in
theorem tboX2_take : ∀ w ∈ woX2_take, w ∈ lw_tbl := (tb_cons tp_226 (tb_cons tp_432 (tb_cons tp_419 (tb_cons tp_418 (tb_cons tp_103 (tb_cons tp_228 (tb_cons tp_230 (tb_cons tp_231 (tb_cons tp_232 (tb_cons tp_233 (tb_cons tp_234 tb_nil)))))))))))
theorem tp_431 : (Cond.code yX2_take cX2_take 2 none) ∈ lw_tbl := tbC_in 1 _ (List.mem_of_getElem? (i := 113) rfl)
theorem tbX2_take : ∀ w ∈ wsX2_take, w ∈ lw_tbl := tb_cons tp_431 (tb_app tboX2_take tbn_4)
theorem tp_437 : (Cond.methodLink RX3 45 arraycopyName) ∈ lw_tbl := tbC_in 1 _ (List.mem_of_getElem? (i := 119) rfl)
set_option maxRecDepth 20000 in
theorem tboX3_take : ∀ w ∈ woX3_take, w ∈ lw_tbl := (tb_cons tp_257 (tb_cons tp_437 (tb_cons tp_419 (tb_cons tp_418 (tb_cons tp_103 tb_nil)))))
theorem tp_436 : (Cond.code yX3_take cX3_take 2 none) ∈ lw_tbl := tbC_in 1 _ (List.mem_of_getElem? (i := 118) rfl)
theorem tbX3_take : ∀ w ∈ wsX3_take, w ∈ lw_tbl := tb_cons tp_436 (tb_app tboX3_take tbn_5)
theorem tp_201 : (Cond.fieldLink RX8 51 "HiredEnemy$Course" "month" "I") ∈ lw_tbl := tbC_in 0 _ (List.mem_of_getElem? (i := 123) rfl)
theorem tp_413 : (Cond.methodLink RX8 47 yX4_take) ∈ lw_tbl := tbC_in 1 _ (List.mem_of_getElem? (i := 95) rfl)
theorem tp_420 : (Cond.methodLink RX8 55 yX0_take) ∈ lw_tbl := tbC_in 1 _ (List.mem_of_getElem? (i := 102) rfl)
theorem tp_421 : (Cond.instanceMethod yX0_take) ∈ lw_tbl := tbC_in 1 _ (List.mem_of_getElem? (i := 103) rfl)
theorem tp_422 : (Cond.selects RX0 yX0_take yX0_take) ∈ lw_tbl := tbC_in 1 _ (List.mem_of_getElem? (i := 104) rfl)
theorem tp_428 : (Cond.methodLink RX8 58 yX2_take) ∈ lw_tbl := tbC_in 1 _ (List.mem_of_getElem? (i := 110) rfl)
theorem tp_429 : (Cond.instanceMethod yX2_take) ∈ lw_tbl := tbC_in 1 _ (List.mem_of_getElem? (i := 111) rfl)
theorem tp_430 : (Cond.selects RX2 yX2_take yX2_take) ∈ lw_tbl := tbC_in 1 _ (List.mem_of_getElem? (i := 112) rfl)
theorem tp_433 : (Cond.methodLink RX8 61 yX3_take) ∈ lw_tbl := tbC_in 1 _ (List.mem_of_getElem? (i := 115) rfl)
theorem tp_434 : (Cond.instanceMethod yX3_take) ∈ lw_tbl := tbC_in 1 _ (List.mem_of_getElem? (i := 116) rfl)
theorem tp_435 : (Cond.selects RX3 yX3_take yX3_take) ∈ lw_tbl := tbC_in 1 _ (List.mem_of_getElem? (i := 117) rfl)
set_option maxRecDepth 20000 in
theorem tboX8_take : ∀ w ∈ woX8_take, w ∈ lw_tbl := (tb_cons tp_264 (tb_cons tp_266 (tb_cons tp_201 (tb_cons tp_268 (tb_cons tp_270 (tb_cons tp_413 (tb_cons tp_414 (tb_cons tp_415 (tb_cons tp_84 (tb_cons tp_419 (tb_cons tp_418 (tb_cons tp_103 (tb_cons tp_420 (tb_cons tp_421 (tb_cons tp_422 (tb_cons tp_85 (tb_cons tp_79 (tb_cons tp_428 (tb_cons tp_429 (tb_cons tp_430 (tb_cons tp_86 (tb_cons tp_433 (tb_cons tp_434 (tb_cons tp_435 (tb_cons tp_87 tb_nil)))))))))))))))))))))))))
theorem tp_412 : (Cond.code yX8_take cX8_take 2 none) ∈ lw_tbl := tbC_in 1 _ (List.mem_of_getElem? (i := 94) rfl)
theorem tbX8_take : ∀ w ∈ wsX8_take, w ∈ lw_tbl := tb_cons tp_412 (tb_app tboX8_take (tb_app tbn_6 (tb_app tbn_2 (tb_app tbn_3 (tb_app tbn_4 (tb_app tbn_5 (tb_app tbX4_take (tb_app tbX0_take (tb_app tbX2_take tbX3_take)))))))))
theorem tp_409 : (Cond.methodLink RX10 245 yX8_take) ∈ lw_tbl := tbC_in 1 _ (List.mem_of_getElem? (i := 91) rfl)
theorem tp_410 : (Cond.instanceMethod yX8_take) ∈ lw_tbl := tbC_in 1 _ (List.mem_of_getElem? (i := 92) rfl)
theorem tp_411 : (Cond.selects RX8 yX8_take yX8_take) ∈ lw_tbl := tbC_in 1 _ (List.mem_of_getElem? (i := 93) rfl)
set_option maxRecDepth 20000 in
theorem tboX10_image : ∀ w ∈ woX10_image, w ∈ lw_tbl := (tb_cons tp_340 (tb_cons tp_339 (tb_cons tp_182 (tb_cons tp_183 (tb_cons tp_83 (tb_cons tp_338 (tb_cons tp_185 (tb_cons tp_110 (tb_cons tp_189 (tb_cons tp_84 (tb_cons tp_211 (tb_cons tp_85 (tb_cons tp_221 (tb_cons tp_86 (tb_cons tp_252 (tb_cons tp_87 (tb_cons tp_139 (tb_cons tp_409 (tb_cons tp_410 (tb_cons tp_411 (tb_cons tp_419 (tb_cons tp_418 (tb_cons tp_103 (tb_cons tp_79 tb_nil))))))))))))))))))))))))
theorem tp_408 : (Cond.code yX10_image cX10_image 1 (some .int)) ∈ lw_tbl := tbC_in 1 _ (List.mem_of_getElem? (i := 90) rfl)
theorem tbX10_image : ∀ w ∈ wsX10_image, w ∈ lw_tbl := tb_cons tp_408 (tb_app tboX10_image (tb_app tbn_9 (tb_app tbn_6 (tb_app tbn_2 (tb_app tbn_3 (tb_app tbn_4 (tb_app tbn_5 (tb_app tbX8_init tbX8_take))))))))
theorem tp_1159 : (Cond.fieldLink RX11 275 "HiredEnemyModel" "spot" "I") ∈ lw_tbl := tbC_in 4 _ (List.mem_of_getElem? (i := 121) rfl)
set_option maxRecDepth 20000 in
theorem tboX11_moves : ∀ w ∈ woX11_moves, w ∈ lw_tbl := (tb_cons tp_1159 tb_nil)
theorem tp_1540 : (Cond.code yX11_moves cX11_moves 4 (some .int)) ∈ lw_tbl := tbC_in 6 _ (List.mem_of_getElem? (i := 22) rfl)
theorem tbX11_moves : ∀ w ∈ wsX11_moves, w ∈ lw_tbl := tb_cons tp_1540 (tb_app tboX11_moves tbn_10)
theorem tp_1537 : (Cond.methodLink RX11 278 yX11_moves) ∈ lw_tbl := tbC_in 6 _ (List.mem_of_getElem? (i := 19) rfl)
theorem tp_1539 : (Cond.instanceMethod yX11_moves) ∈ lw_tbl := tbC_in 6 _ (List.mem_of_getElem? (i := 21) rfl)
theorem tp_77 : (Cond.selects RX11 yX11_moves yX11_moves) ∈ lw_tbl := tbC_in 7 _ (List.mem_of_getElem? (i := 77) rfl)
set_option maxRecDepth 20000 in
theorem tboX11_movesAll : ∀ w ∈ woX11_movesAll, w ∈ lw_tbl := (tb_cons tp_1159 (tb_cons tp_1155 (tb_cons tp_1156 (tb_cons tp_1157 (tb_cons tp_1160 (tb_cons tp_1161 (tb_cons tp_1162 (tb_cons tp_1150 (tb_cons tp_1152 (tb_cons tp_1153 (tb_cons tp_1537 (tb_cons tp_1539 (tb_cons tp_77 (tb_cons tp_91 tb_nil))))))))))))))
theorem tp_1536 : (Cond.code yX11_movesAll cX11_movesAll 5 none) ∈ lw_tbl := tbC_in 6 _ (List.mem_of_getElem? (i := 18) rfl)
theorem tbX11_movesAll : ∀ w ∈ wsX11_movesAll, w ∈ lw_tbl := tb_cons tp_1536 (tb_app tboX11_movesAll (tb_app tbn_10 tbX11_moves))
theorem tp_1533 : (Cond.methodLink RX11 282 yX11_movesAll) ∈ lw_tbl := tbC_in 6 _ (List.mem_of_getElem? (i := 15) rfl)
theorem tp_1535 : (Cond.instanceMethod yX11_movesAll) ∈ lw_tbl := tbC_in 6 _ (List.mem_of_getElem? (i := 17) rfl)
theorem tp_76 : (Cond.selects RX11 yX11_movesAll yX11_movesAll) ∈ lw_tbl := tbC_in 7 _ (List.mem_of_getElem? (i := 76) rfl)
set_option maxRecDepth 20000 in
theorem tboX11_image : ∀ w ∈ woX11_image, w ∈ lw_tbl := (tb_cons tp_1131 (tb_cons tp_1158 (tb_cons tp_1163 (tb_cons tp_1533 (tb_cons tp_1535 (tb_cons tp_76 (tb_cons tp_91 tb_nil)))))))
theorem tp_1532 : (Cond.code yX11_image cX11_image 1 (some .int)) ∈ lw_tbl := tbC_in 6 _ (List.mem_of_getElem? (i := 14) rfl)
theorem tbX11_image : ∀ w ∈ wsX11_image, w ∈ lw_tbl := tb_cons tp_1532 (tb_app tboX11_image (tb_app tbn_10 tbX11_movesAll))
set_option maxRecDepth 20000 in
theorem tboX10_restore : ∀ w ∈ woX10_restore, w ∈ lw_tbl := (tb_cons tp_340 (tb_cons tp_339 (tb_cons tp_338 (tb_cons tp_409 (tb_cons tp_410 (tb_cons tp_411 (tb_cons tp_83 (tb_cons tp_84 (tb_cons tp_419 (tb_cons tp_418 (tb_cons tp_103 (tb_cons tp_85 (tb_cons tp_79 (tb_cons tp_86 (tb_cons tp_87 tb_nil)))))))))))))))
theorem tp_441 : (Cond.code yX10_restore cX10_restore 1 (some .int)) ∈ lw_tbl := tbC_in 1 _ (List.mem_of_getElem? (i := 123) rfl)
theorem tbX10_restore : ∀ w ∈ wsX10_restore, w ∈ lw_tbl := tb_cons tp_441 (tb_app tboX10_restore (tb_app tbn_9 (tb_app tbn_6 (tb_app tbn_2 (tb_app tbn_3 (tb_app tbn_4 (tb_app tbn_5 tbX8_take)))))))
set_option maxRecDepth 20000 in
theorem tboX11_restore : ∀ w ∈ woX11_restore, w ∈ lw_tbl := (tb_cons tp_1131 (tb_cons tp_1158 (tb_cons tp_1163 (tb_cons tp_1533 (tb_cons tp_1535 (tb_cons tp_76 (tb_cons tp_91 tb_nil)))))))
theorem tp_1544 : (Cond.code yX11_restore cX11_restore 1 (some .int)) ∈ lw_tbl := tbC_in 6 _ (List.mem_of_getElem? (i := 26) rfl)
theorem tbX11_restore : ∀ w ∈ wsX11_restore, w ∈ lw_tbl := tb_cons tp_1544 (tb_app tboX11_restore (tb_app tbn_10 tbX11_movesAll))
set_option maxRecDepth 20000 in
theorem tboX10_status : ∀ w ∈ woX10_status, w ∈ lw_tbl := (tb_cons tp_343 (tb_cons tp_446 (tb_cons tp_425 (tb_cons tp_79 tb_nil))))
theorem tp_445 : (Cond.code yX10_status cX10_status 2 (some .int)) ∈ lw_tbl := tbC_in 1 _ (List.mem_of_getElem? (i := 127) rfl)
theorem tbX10_status : ∀ w ∈ wsX10_status, w ∈ lw_tbl := tb_cons tp_445 (tb_app tboX10_status (tb_app tbn_9 tbX10_within))
set_option maxRecDepth 20000 in
theorem tboX11_status : ∀ w ∈ woX11_status, w ∈ lw_tbl := (tb_cons tp_1131 (tb_cons tp_1140 (tb_cons tp_1245 (tb_cons tp_1246 (tb_cons tp_91 tb_nil)))))
theorem tp_1548 : (Cond.code yX11_status cX11_status 2 (some .int)) ∈ lw_tbl := tbC_in 6 _ (List.mem_of_getElem? (i := 30) rfl)
theorem tbX11_status : ∀ w ∈ wsX11_status, w ∈ lw_tbl := tb_cons tp_1548 (tb_app tboX11_status (tb_app tbn_10 tbX11_in))
theorem tp_235 : (Cond.fieldLink RX10 248 "HiredEnemy$Belief" "things" "I") ∈ lw_tbl := tbC_in 0 _ (List.mem_of_getElem? (i := 157) rfl)
set_option maxRecDepth 20000 in
theorem tboX10_count : ∀ w ∈ woX10_count, w ∈ lw_tbl := (tb_cons tp_340 (tb_cons tp_332 (tb_cons tp_338 (tb_cons tp_269 (tb_cons tp_235 tb_nil)))))
theorem tp_450 : (Cond.code yX10_count cX10_count 2 (some .int)) ∈ lw_tbl := tbC_in 1 _ (List.mem_of_getElem? (i := 132) rfl)
theorem tbX10_count : ∀ w ∈ wsX10_count, w ∈ lw_tbl := tb_cons tp_450 (tb_app tboX10_count (tb_app tbn_9 (tb_app tbn_6 tbn_4)))
set_option maxRecDepth 20000 in
theorem tboX11_count : ∀ w ∈ woX11_count, w ∈ lw_tbl := (tb_cons tp_1131 (tb_cons tp_1158 (tb_cons tp_1132 (tb_cons tp_1157 tb_nil))))
theorem tp_1552 : (Cond.code yX11_count cX11_count 2 (some .int)) ∈ lw_tbl := tbC_in 6 _ (List.mem_of_getElem? (i := 34) rfl)
theorem tbX11_count : ∀ w ∈ wsX11_count, w ∈ lw_tbl := tb_cons tp_1552 (tb_app tboX11_count tbn_10)
theorem tp_104 : (Cond.classLink RL 8 RX10) ∈ lw_tbl := tbC_in 0 _ (List.mem_of_getElem? (i := 26) rfl)
theorem tp_105 : (Cond.instantiable RX10 13) ∈ lw_tbl := tbC_in 0 _ (List.mem_of_getElem? (i := 27) rfl)
theorem tp_1115 : (Cond.classLink RL 101 RX11) ∈ lw_tbl := tbC_in 4 _ (List.mem_of_getElem? (i := 77) rfl)
theorem tp_1116 : (Cond.instantiable RX11 35) ∈ lw_tbl := tbC_in 4 _ (List.mem_of_getElem? (i := 78) rfl)
theorem tp_1553 : (Cond.arrayClass .long) ∈ lw_tbl := tbC_in 6 _ (List.mem_of_getElem? (i := 35) rfl)
theorem tp_106 : (Cond.methodLink RL 100 yX10_init) ∈ lw_tbl := tbC_in 0 _ (List.mem_of_getElem? (i := 28) rfl)
theorem tp_107 : (Cond.instanceMethod yX10_init) ∈ lw_tbl := tbC_in 0 _ (List.mem_of_getElem? (i := 29) rfl)
theorem tp_1117 : (Cond.methodLink RL 103 yX11_init) ∈ lw_tbl := tbC_in 4 _ (List.mem_of_getElem? (i := 79) rfl)
theorem tp_1118 : (Cond.instanceMethod yX11_init) ∈ lw_tbl := tbC_in 4 _ (List.mem_of_getElem? (i := 80) rfl)
theorem tp_371 : (Cond.methodLink RL 104 yX10_feed) ∈ lw_tbl := tbC_in 1 _ (List.mem_of_getElem? (i := 53) rfl)
theorem tp_372 : (Cond.instanceMethod yX10_feed) ∈ lw_tbl := tbC_in 1 _ (List.mem_of_getElem? (i := 54) rfl)
theorem tp_373 : (Cond.selects RX10 yX10_feed yX10_feed) ∈ lw_tbl := tbC_in 1 _ (List.mem_of_getElem? (i := 55) rfl)
theorem tp_1237 : (Cond.methodLink RL 108 yX11_feed) ∈ lw_tbl := tbC_in 4 _ (List.mem_of_getElem? (i := 199) rfl)
theorem tp_1238 : (Cond.instanceMethod yX11_feed) ∈ lw_tbl := tbC_in 4 _ (List.mem_of_getElem? (i := 200) rfl)
theorem tp_1239 : (Cond.selects RX11 yX11_feed yX11_feed) ∈ lw_tbl := tbC_in 4 _ (List.mem_of_getElem? (i := 201) rfl)
theorem tp_451 : (Cond.methodLink RL 109 yL_siege) ∈ lw_tbl := tbC_in 1 _ (List.mem_of_getElem? (i := 133) rfl)
theorem tp_452 : (Cond.static yL_siege) ∈ lw_tbl := tbC_in 1 _ (List.mem_of_getElem? (i := 134) rfl)
theorem tp_78 : (Cond.initialized RL) ∈ lw_tbl := tbC_in 0 _ (List.mem_of_getElem? (i := 0) rfl)
theorem tp_1241 : (Cond.methodLink RL 114 yX11_siege) ∈ lw_tbl := tbC_in 4 _ (List.mem_of_getElem? (i := 203) rfl)
theorem tp_1242 : (Cond.instanceMethod yX11_siege) ∈ lw_tbl := tbC_in 4 _ (List.mem_of_getElem? (i := 204) rfl)
theorem tp_1243 : (Cond.selects RX11 yX11_siege yX11_siege) ∈ lw_tbl := tbC_in 4 _ (List.mem_of_getElem? (i := 205) rfl)
theorem tp_708 : (Cond.methodLink RL 115 yL_contract) ∈ lw_tbl := tbC_in 2 _ (List.mem_of_getElem? (i := 150) rfl)
theorem tp_709 : (Cond.static yL_contract) ∈ lw_tbl := tbC_in 2 _ (List.mem_of_getElem? (i := 151) rfl)
theorem tp_1303 : (Cond.methodLink RL 117 yX11_contract) ∈ lw_tbl := tbC_in 5 _ (List.mem_of_getElem? (i := 25) rfl)
theorem tp_1304 : (Cond.instanceMethod yX11_contract) ∈ lw_tbl := tbC_in 5 _ (List.mem_of_getElem? (i := 26) rfl)
theorem tp_1305 : (Cond.selects RX11 yX11_contract yX11_contract) ∈ lw_tbl := tbC_in 5 _ (List.mem_of_getElem? (i := 27) rfl)
theorem tp_379 : (Cond.methodLink RL 118 yX10_fault) ∈ lw_tbl := tbC_in 1 _ (List.mem_of_getElem? (i := 61) rfl)
theorem tp_380 : (Cond.instanceMethod yX10_fault) ∈ lw_tbl := tbC_in 1 _ (List.mem_of_getElem? (i := 62) rfl)
theorem tp_381 : (Cond.selects RX10 yX10_fault yX10_fault) ∈ lw_tbl := tbC_in 1 _ (List.mem_of_getElem? (i := 63) rfl)
theorem tp_1311 : (Cond.methodLink RL 122 yX11_fault) ∈ lw_tbl := tbC_in 5 _ (List.mem_of_getElem? (i := 33) rfl)
theorem tp_1312 : (Cond.instanceMethod yX11_fault) ∈ lw_tbl := tbC_in 5 _ (List.mem_of_getElem? (i := 34) rfl)
theorem tp_1313 : (Cond.selects RX11 yX11_fault yX11_fault) ∈ lw_tbl := tbC_in 5 _ (List.mem_of_getElem? (i := 35) rfl)
theorem tp_720 : (Cond.methodLink RL 123 yL_told) ∈ lw_tbl := tbC_in 2 _ (List.mem_of_getElem? (i := 162) rfl)
theorem tp_721 : (Cond.static yL_told) ∈ lw_tbl := tbC_in 2 _ (List.mem_of_getElem? (i := 163) rfl)
theorem tp_1315 : (Cond.methodLink RL 125 yX11_told) ∈ lw_tbl := tbC_in 5 _ (List.mem_of_getElem? (i := 37) rfl)
theorem tp_1316 : (Cond.instanceMethod yX11_told) ∈ lw_tbl := tbC_in 5 _ (List.mem_of_getElem? (i := 38) rfl)
theorem tp_1317 : (Cond.selects RX11 yX11_told yX11_told) ∈ lw_tbl := tbC_in 5 _ (List.mem_of_getElem? (i := 39) rfl)
theorem tp_727 : (Cond.methodLink RL 126 yL_wall) ∈ lw_tbl := tbC_in 2 _ (List.mem_of_getElem? (i := 169) rfl)
theorem tp_728 : (Cond.static yL_wall) ∈ lw_tbl := tbC_in 2 _ (List.mem_of_getElem? (i := 170) rfl)
theorem tp_1319 : (Cond.methodLink RL 129 yX11_wall) ∈ lw_tbl := tbC_in 5 _ (List.mem_of_getElem? (i := 41) rfl)
theorem tp_1320 : (Cond.instanceMethod yX11_wall) ∈ lw_tbl := tbC_in 5 _ (List.mem_of_getElem? (i := 42) rfl)
theorem tp_1321 : (Cond.selects RX11 yX11_wall yX11_wall) ∈ lw_tbl := tbC_in 5 _ (List.mem_of_getElem? (i := 43) rfl)
theorem tp_755 : (Cond.methodLink RL 130 yL_rule) ∈ lw_tbl := tbC_in 2 _ (List.mem_of_getElem? (i := 197) rfl)
theorem tp_756 : (Cond.static yL_rule) ∈ lw_tbl := tbC_in 2 _ (List.mem_of_getElem? (i := 198) rfl)
theorem tp_1327 : (Cond.methodLink RL 132 yX11_rule) ∈ lw_tbl := tbC_in 5 _ (List.mem_of_getElem? (i := 49) rfl)
theorem tp_1328 : (Cond.instanceMethod yX11_rule) ∈ lw_tbl := tbC_in 5 _ (List.mem_of_getElem? (i := 50) rfl)
theorem tp_1329 : (Cond.selects RX11 yX11_rule yX11_rule) ∈ lw_tbl := tbC_in 5 _ (List.mem_of_getElem? (i := 51) rfl)
theorem tp_795 : (Cond.methodLink RL 133 yL_wants) ∈ lw_tbl := tbC_in 2 _ (List.mem_of_getElem? (i := 237) rfl)
theorem tp_796 : (Cond.static yL_wants) ∈ lw_tbl := tbC_in 2 _ (List.mem_of_getElem? (i := 238) rfl)
theorem tp_1335 : (Cond.methodLink RL 135 yX11_wants) ∈ lw_tbl := tbC_in 5 _ (List.mem_of_getElem? (i := 57) rfl)
theorem tp_1336 : (Cond.instanceMethod yX11_wants) ∈ lw_tbl := tbC_in 5 _ (List.mem_of_getElem? (i := 58) rfl)
theorem tp_1337 : (Cond.selects RX11 yX11_wants yX11_wants) ∈ lw_tbl := tbC_in 5 _ (List.mem_of_getElem? (i := 59) rfl)
theorem tp_806 : (Cond.methodLink RL 136 yL_sign) ∈ lw_tbl := tbC_in 3 _ (List.mem_of_getElem? (i := 8) rfl)
theorem tp_807 : (Cond.static yL_sign) ∈ lw_tbl := tbC_in 3 _ (List.mem_of_getElem? (i := 9) rfl)
theorem tp_1343 : (Cond.methodLink RL 138 yX11_sign) ∈ lw_tbl := tbC_in 5 _ (List.mem_of_getElem? (i := 65) rfl)
theorem tp_1344 : (Cond.instanceMethod yX11_sign) ∈ lw_tbl := tbC_in 5 _ (List.mem_of_getElem? (i := 66) rfl)
theorem tp_1345 : (Cond.selects RX11 yX11_sign yX11_sign) ∈ lw_tbl := tbC_in 5 _ (List.mem_of_getElem? (i := 67) rfl)
theorem tp_821 : (Cond.methodLink RL 139 yL_months) ∈ lw_tbl := tbC_in 3 _ (List.mem_of_getElem? (i := 23) rfl)
theorem tp_822 : (Cond.static yL_months) ∈ lw_tbl := tbC_in 3 _ (List.mem_of_getElem? (i := 24) rfl)
theorem tp_1351 : (Cond.methodLink RL 141 yX11_months) ∈ lw_tbl := tbC_in 5 _ (List.mem_of_getElem? (i := 73) rfl)
theorem tp_1352 : (Cond.instanceMethod yX11_months) ∈ lw_tbl := tbC_in 5 _ (List.mem_of_getElem? (i := 74) rfl)
theorem tp_1353 : (Cond.selects RX11 yX11_months yX11_months) ∈ lw_tbl := tbC_in 5 _ (List.mem_of_getElem? (i := 75) rfl)
theorem tp_893 : (Cond.methodLink RL 142 yL_undo) ∈ lw_tbl := tbC_in 3 _ (List.mem_of_getElem? (i := 95) rfl)
theorem tp_894 : (Cond.static yL_undo) ∈ lw_tbl := tbC_in 3 _ (List.mem_of_getElem? (i := 96) rfl)
theorem tp_1390 : (Cond.methodLink RL 144 yX11_undo) ∈ lw_tbl := tbC_in 5 _ (List.mem_of_getElem? (i := 112) rfl)
theorem tp_1391 : (Cond.instanceMethod yX11_undo) ∈ lw_tbl := tbC_in 5 _ (List.mem_of_getElem? (i := 113) rfl)
theorem tp_1392 : (Cond.selects RX11 yX11_undo yX11_undo) ∈ lw_tbl := tbC_in 5 _ (List.mem_of_getElem? (i := 114) rfl)
theorem tp_905 : (Cond.methodLink RL 145 yL_sums) ∈ lw_tbl := tbC_in 3 _ (List.mem_of_getElem? (i := 107) rfl)
theorem tp_906 : (Cond.static yL_sums) ∈ lw_tbl := tbC_in 3 _ (List.mem_of_getElem? (i := 108) rfl)
theorem tp_1394 : (Cond.methodLink RL 147 yX11_sums) ∈ lw_tbl := tbC_in 5 _ (List.mem_of_getElem? (i := 116) rfl)
theorem tp_1395 : (Cond.instanceMethod yX11_sums) ∈ lw_tbl := tbC_in 5 _ (List.mem_of_getElem? (i := 117) rfl)
theorem tp_1396 : (Cond.selects RX11 yX11_sums yX11_sums) ∈ lw_tbl := tbC_in 5 _ (List.mem_of_getElem? (i := 118) rfl)
theorem tp_912 : (Cond.methodLink RL 148 yL_corks) ∈ lw_tbl := tbC_in 3 _ (List.mem_of_getElem? (i := 114) rfl)
theorem tp_913 : (Cond.static yL_corks) ∈ lw_tbl := tbC_in 3 _ (List.mem_of_getElem? (i := 115) rfl)
theorem tp_1398 : (Cond.methodLink RL 150 yX11_corks) ∈ lw_tbl := tbC_in 5 _ (List.mem_of_getElem? (i := 120) rfl)
theorem tp_1399 : (Cond.instanceMethod yX11_corks) ∈ lw_tbl := tbC_in 5 _ (List.mem_of_getElem? (i := 121) rfl)
theorem tp_1400 : (Cond.selects RX11 yX11_corks yX11_corks) ∈ lw_tbl := tbC_in 5 _ (List.mem_of_getElem? (i := 122) rfl)
theorem tp_923 : (Cond.methodLink RL 151 yL_would) ∈ lw_tbl := tbC_in 3 _ (List.mem_of_getElem? (i := 125) rfl)
theorem tp_924 : (Cond.static yL_would) ∈ lw_tbl := tbC_in 3 _ (List.mem_of_getElem? (i := 126) rfl)
theorem tp_1402 : (Cond.methodLink RL 154 yX11_would) ∈ lw_tbl := tbC_in 5 _ (List.mem_of_getElem? (i := 124) rfl)
theorem tp_1403 : (Cond.instanceMethod yX11_would) ∈ lw_tbl := tbC_in 5 _ (List.mem_of_getElem? (i := 125) rfl)
theorem tp_1404 : (Cond.selects RX11 yX11_would yX11_would) ∈ lw_tbl := tbC_in 5 _ (List.mem_of_getElem? (i := 126) rfl)
theorem tp_939 : (Cond.methodLink RL 155 yL_best) ∈ lw_tbl := tbC_in 3 _ (List.mem_of_getElem? (i := 141) rfl)
theorem tp_940 : (Cond.static yL_best) ∈ lw_tbl := tbC_in 3 _ (List.mem_of_getElem? (i := 142) rfl)
theorem tp_1425 : (Cond.methodLink RL 157 yX11_best) ∈ lw_tbl := tbC_in 5 _ (List.mem_of_getElem? (i := 147) rfl)
theorem tp_1426 : (Cond.instanceMethod yX11_best) ∈ lw_tbl := tbC_in 5 _ (List.mem_of_getElem? (i := 148) rfl)
theorem tp_1427 : (Cond.selects RX11 yX11_best yX11_best) ∈ lw_tbl := tbC_in 5 _ (List.mem_of_getElem? (i := 149) rfl)
theorem tp_946 : (Cond.methodLink RL 158 yL_offer) ∈ lw_tbl := tbC_in 3 _ (List.mem_of_getElem? (i := 148) rfl)
theorem tp_947 : (Cond.static yL_offer) ∈ lw_tbl := tbC_in 3 _ (List.mem_of_getElem? (i := 149) rfl)
theorem tp_1429 : (Cond.methodLink RL 160 yX11_offer) ∈ lw_tbl := tbC_in 5 _ (List.mem_of_getElem? (i := 151) rfl)
theorem tp_1430 : (Cond.instanceMethod yX11_offer) ∈ lw_tbl := tbC_in 5 _ (List.mem_of_getElem? (i := 152) rfl)
theorem tp_1431 : (Cond.selects RX11 yX11_offer yX11_offer) ∈ lw_tbl := tbC_in 5 _ (List.mem_of_getElem? (i := 153) rfl)
theorem tp_958 : (Cond.methodLink RL 161 yL_nearest) ∈ lw_tbl := tbC_in 3 _ (List.mem_of_getElem? (i := 160) rfl)
theorem tp_959 : (Cond.static yL_nearest) ∈ lw_tbl := tbC_in 3 _ (List.mem_of_getElem? (i := 161) rfl)
theorem tp_1437 : (Cond.methodLink RL 163 yX11_nearest) ∈ lw_tbl := tbC_in 5 _ (List.mem_of_getElem? (i := 159) rfl)
theorem tp_1438 : (Cond.instanceMethod yX11_nearest) ∈ lw_tbl := tbC_in 5 _ (List.mem_of_getElem? (i := 160) rfl)
theorem tp_1439 : (Cond.selects RX11 yX11_nearest yX11_nearest) ∈ lw_tbl := tbC_in 5 _ (List.mem_of_getElem? (i := 161) rfl)
theorem tp_965 : (Cond.methodLink RL 164 yL_stop) ∈ lw_tbl := tbC_in 3 _ (List.mem_of_getElem? (i := 167) rfl)
theorem tp_966 : (Cond.static yL_stop) ∈ lw_tbl := tbC_in 3 _ (List.mem_of_getElem? (i := 168) rfl)
theorem tp_1441 : (Cond.methodLink RL 166 yX11_stop) ∈ lw_tbl := tbC_in 5 _ (List.mem_of_getElem? (i := 163) rfl)
theorem tp_1442 : (Cond.instanceMethod yX11_stop) ∈ lw_tbl := tbC_in 5 _ (List.mem_of_getElem? (i := 164) rfl)
theorem tp_1443 : (Cond.selects RX11 yX11_stop yX11_stop) ∈ lw_tbl := tbC_in 5 _ (List.mem_of_getElem? (i := 165) rfl)
theorem tp_972 : (Cond.methodLink RL 167 yL_odds) ∈ lw_tbl := tbC_in 3 _ (List.mem_of_getElem? (i := 174) rfl)
theorem tp_973 : (Cond.static yL_odds) ∈ lw_tbl := tbC_in 3 _ (List.mem_of_getElem? (i := 175) rfl)
theorem tp_1445 : (Cond.methodLink RL 170 yX11_odds) ∈ lw_tbl := tbC_in 5 _ (List.mem_of_getElem? (i := 167) rfl)
theorem tp_1446 : (Cond.instanceMethod yX11_odds) ∈ lw_tbl := tbC_in 5 _ (List.mem_of_getElem? (i := 168) rfl)
theorem tp_1447 : (Cond.selects RX11 yX11_odds yX11_odds) ∈ lw_tbl := tbC_in 5 _ (List.mem_of_getElem? (i := 169) rfl)
theorem tp_984 : (Cond.methodLink RL 171 yL_kind) ∈ lw_tbl := tbC_in 3 _ (List.mem_of_getElem? (i := 186) rfl)
theorem tp_985 : (Cond.static yL_kind) ∈ lw_tbl := tbC_in 3 _ (List.mem_of_getElem? (i := 187) rfl)
theorem tp_1449 : (Cond.methodLink RL 174 yX11_kind) ∈ lw_tbl := tbC_in 5 _ (List.mem_of_getElem? (i := 171) rfl)
theorem tp_1450 : (Cond.instanceMethod yX11_kind) ∈ lw_tbl := tbC_in 5 _ (List.mem_of_getElem? (i := 172) rfl)
theorem tp_1451 : (Cond.selects RX11 yX11_kind yX11_kind) ∈ lw_tbl := tbC_in 5 _ (List.mem_of_getElem? (i := 173) rfl)
theorem tp_991 : (Cond.methodLink RL 175 yL_seen) ∈ lw_tbl := tbC_in 3 _ (List.mem_of_getElem? (i := 193) rfl)
theorem tp_992 : (Cond.static yL_seen) ∈ lw_tbl := tbC_in 3 _ (List.mem_of_getElem? (i := 194) rfl)
theorem tp_1453 : (Cond.methodLink RL 177 yX11_seen) ∈ lw_tbl := tbC_in 5 _ (List.mem_of_getElem? (i := 175) rfl)
theorem tp_1454 : (Cond.instanceMethod yX11_seen) ∈ lw_tbl := tbC_in 5 _ (List.mem_of_getElem? (i := 176) rfl)
theorem tp_1455 : (Cond.selects RX11 yX11_seen yX11_seen) ∈ lw_tbl := tbC_in 5 _ (List.mem_of_getElem? (i := 177) rfl)
theorem tp_1002 : (Cond.methodLink RL 178 yL_spy) ∈ lw_tbl := tbC_in 3 _ (List.mem_of_getElem? (i := 204) rfl)
theorem tp_1003 : (Cond.static yL_spy) ∈ lw_tbl := tbC_in 3 _ (List.mem_of_getElem? (i := 205) rfl)
theorem tp_1461 : (Cond.methodLink RL 181 yX11_spy) ∈ lw_tbl := tbC_in 5 _ (List.mem_of_getElem? (i := 183) rfl)
theorem tp_1462 : (Cond.instanceMethod yX11_spy) ∈ lw_tbl := tbC_in 5 _ (List.mem_of_getElem? (i := 184) rfl)
theorem tp_1463 : (Cond.selects RX11 yX11_spy yX11_spy) ∈ lw_tbl := tbC_in 5 _ (List.mem_of_getElem? (i := 185) rfl)
theorem tp_1009 : (Cond.methodLink RL 182 yL_believed) ∈ lw_tbl := tbC_in 3 _ (List.mem_of_getElem? (i := 211) rfl)
theorem tp_1010 : (Cond.static yL_believed) ∈ lw_tbl := tbC_in 3 _ (List.mem_of_getElem? (i := 212) rfl)
theorem tp_1465 : (Cond.methodLink RL 184 yX11_believed) ∈ lw_tbl := tbC_in 5 _ (List.mem_of_getElem? (i := 187) rfl)
theorem tp_1466 : (Cond.instanceMethod yX11_believed) ∈ lw_tbl := tbC_in 5 _ (List.mem_of_getElem? (i := 188) rfl)
theorem tp_1467 : (Cond.selects RX11 yX11_believed yX11_believed) ∈ lw_tbl := tbC_in 5 _ (List.mem_of_getElem? (i := 189) rfl)
theorem tp_1020 : (Cond.methodLink RL 185 yL_earnest) ∈ lw_tbl := tbC_in 3 _ (List.mem_of_getElem? (i := 222) rfl)
theorem tp_1021 : (Cond.static yL_earnest) ∈ lw_tbl := tbC_in 3 _ (List.mem_of_getElem? (i := 223) rfl)
theorem tp_1469 : (Cond.methodLink RL 187 yX11_earnest) ∈ lw_tbl := tbC_in 5 _ (List.mem_of_getElem? (i := 191) rfl)
theorem tp_1470 : (Cond.instanceMethod yX11_earnest) ∈ lw_tbl := tbC_in 5 _ (List.mem_of_getElem? (i := 192) rfl)
theorem tp_1471 : (Cond.selects RX11 yX11_earnest yX11_earnest) ∈ lw_tbl := tbC_in 5 _ (List.mem_of_getElem? (i := 193) rfl)
theorem tp_1074 : (Cond.methodLink RL 188 yL_stands) ∈ lw_tbl := tbC_in 4 _ (List.mem_of_getElem? (i := 36) rfl)
theorem tp_1075 : (Cond.static yL_stands) ∈ lw_tbl := tbC_in 4 _ (List.mem_of_getElem? (i := 37) rfl)
theorem tp_1498 : (Cond.methodLink RL 190 yX11_stands) ∈ lw_tbl := tbC_in 5 _ (List.mem_of_getElem? (i := 220) rfl)
theorem tp_1499 : (Cond.instanceMethod yX11_stands) ∈ lw_tbl := tbC_in 5 _ (List.mem_of_getElem? (i := 221) rfl)
theorem tp_1500 : (Cond.selects RX11 yX11_stands yX11_stands) ∈ lw_tbl := tbC_in 5 _ (List.mem_of_getElem? (i := 222) rfl)
theorem tp_1081 : (Cond.methodLink RL 191 yL_show) ∈ lw_tbl := tbC_in 4 _ (List.mem_of_getElem? (i := 43) rfl)
theorem tp_1082 : (Cond.static yL_show) ∈ lw_tbl := tbC_in 4 _ (List.mem_of_getElem? (i := 44) rfl)
theorem tp_1502 : (Cond.methodLink RL 193 yX11_show) ∈ lw_tbl := tbC_in 5 _ (List.mem_of_getElem? (i := 224) rfl)
theorem tp_1503 : (Cond.instanceMethod yX11_show) ∈ lw_tbl := tbC_in 5 _ (List.mem_of_getElem? (i := 225) rfl)
theorem tp_1504 : (Cond.selects RX11 yX11_show yX11_show) ∈ lw_tbl := tbC_in 5 _ (List.mem_of_getElem? (i := 226) rfl)
theorem tp_1088 : (Cond.methodLink RL 194 yL_offers) ∈ lw_tbl := tbC_in 4 _ (List.mem_of_getElem? (i := 50) rfl)
theorem tp_1089 : (Cond.static yL_offers) ∈ lw_tbl := tbC_in 4 _ (List.mem_of_getElem? (i := 51) rfl)
theorem tp_1506 : (Cond.methodLink RL 196 yX11_offers) ∈ lw_tbl := tbC_in 5 _ (List.mem_of_getElem? (i := 228) rfl)
theorem tp_1507 : (Cond.instanceMethod yX11_offers) ∈ lw_tbl := tbC_in 5 _ (List.mem_of_getElem? (i := 229) rfl)
theorem tp_1508 : (Cond.selects RX11 yX11_offers yX11_offers) ∈ lw_tbl := tbC_in 5 _ (List.mem_of_getElem? (i := 230) rfl)
theorem tp_383 : (Cond.methodLink RL 197 yX10_most) ∈ lw_tbl := tbC_in 1 _ (List.mem_of_getElem? (i := 65) rfl)
theorem tp_384 : (Cond.instanceMethod yX10_most) ∈ lw_tbl := tbC_in 1 _ (List.mem_of_getElem? (i := 66) rfl)
theorem tp_385 : (Cond.selects RX10 yX10_most yX10_most) ∈ lw_tbl := tbC_in 1 _ (List.mem_of_getElem? (i := 67) rfl)
theorem tp_1510 : (Cond.methodLink RL 200 yX11_most) ∈ lw_tbl := tbC_in 5 _ (List.mem_of_getElem? (i := 232) rfl)
theorem tp_1511 : (Cond.instanceMethod yX11_most) ∈ lw_tbl := tbC_in 5 _ (List.mem_of_getElem? (i := 233) rfl)
theorem tp_1512 : (Cond.selects RX11 yX11_most yX11_most) ∈ lw_tbl := tbC_in 5 _ (List.mem_of_getElem? (i := 234) rfl)
theorem tp_1099 : (Cond.methodLink RL 201 yL_serves) ∈ lw_tbl := tbC_in 4 _ (List.mem_of_getElem? (i := 61) rfl)
theorem tp_1100 : (Cond.static yL_serves) ∈ lw_tbl := tbC_in 4 _ (List.mem_of_getElem? (i := 62) rfl)
theorem tp_1525 : (Cond.methodLink RL 203 yX11_serves) ∈ lw_tbl := tbC_in 6 _ (List.mem_of_getElem? (i := 7) rfl)
theorem tp_1526 : (Cond.instanceMethod yX11_serves) ∈ lw_tbl := tbC_in 6 _ (List.mem_of_getElem? (i := 8) rfl)
theorem tp_1527 : (Cond.selects RX11 yX11_serves yX11_serves) ∈ lw_tbl := tbC_in 6 _ (List.mem_of_getElem? (i := 9) rfl)
theorem tp_405 : (Cond.methodLink RL 204 yX10_image) ∈ lw_tbl := tbC_in 1 _ (List.mem_of_getElem? (i := 87) rfl)
theorem tp_406 : (Cond.instanceMethod yX10_image) ∈ lw_tbl := tbC_in 1 _ (List.mem_of_getElem? (i := 88) rfl)
theorem tp_407 : (Cond.selects RX10 yX10_image yX10_image) ∈ lw_tbl := tbC_in 1 _ (List.mem_of_getElem? (i := 89) rfl)
theorem tp_1529 : (Cond.methodLink RL 207 yX11_image) ∈ lw_tbl := tbC_in 6 _ (List.mem_of_getElem? (i := 11) rfl)
theorem tp_1530 : (Cond.instanceMethod yX11_image) ∈ lw_tbl := tbC_in 6 _ (List.mem_of_getElem? (i := 12) rfl)
theorem tp_1531 : (Cond.selects RX11 yX11_image yX11_image) ∈ lw_tbl := tbC_in 6 _ (List.mem_of_getElem? (i := 13) rfl)
theorem tp_438 : (Cond.methodLink RL 208 yX10_restore) ∈ lw_tbl := tbC_in 1 _ (List.mem_of_getElem? (i := 120) rfl)
theorem tp_439 : (Cond.instanceMethod yX10_restore) ∈ lw_tbl := tbC_in 1 _ (List.mem_of_getElem? (i := 121) rfl)
theorem tp_440 : (Cond.selects RX10 yX10_restore yX10_restore) ∈ lw_tbl := tbC_in 1 _ (List.mem_of_getElem? (i := 122) rfl)
theorem tp_1541 : (Cond.methodLink RL 211 yX11_restore) ∈ lw_tbl := tbC_in 6 _ (List.mem_of_getElem? (i := 23) rfl)
end
section
theorem tp_1542 : (Cond.instanceMethod yX11_restore) ∈ lw_tbl := tbC_in 6 _ (List.mem_of_getElem? (i := 24) rfl)
theorem tp_1543 : (Cond.selects RX11 yX11_restore yX11_restore) ∈ lw_tbl := tbC_in 6 _ (List.mem_of_getElem? (i := 25) rfl)
theorem tp_442 : (Cond.methodLink RL 212 yX10_status) ∈ lw_tbl := tbC_in 1 _ (List.mem_of_getElem? (i := 124) rfl)
theorem tp_443 : (Cond.instanceMethod yX10_status) ∈ lw_tbl := tbC_in 1 _ (List.mem_of_getElem? (i := 125) rfl)
theorem tp_444 : (Cond.selects RX10 yX10_status yX10_status) ∈ lw_tbl := tbC_in 1 _ (List.mem_of_getElem? (i := 126) rfl)
theorem tp_1545 : (Cond.methodLink RL 215 yX11_status) ∈ lw_tbl := tbC_in 6 _ (List.mem_of_getElem? (i := 27) rfl)
theorem tp_1546 : (Cond.instanceMethod yX11_status) ∈ lw_tbl := tbC_in 6 _ (List.mem_of_getElem? (i := 28) rfl)
theorem tp_1547 : (Cond.selects RX11 yX11_status yX11_status) ∈ lw_tbl := tbC_in 6 _ (List.mem_of_getElem? (i := 29) rfl)
theorem tp_447 : (Cond.methodLink RL 216 yX10_count) ∈ lw_tbl := tbC_in 1 _ (List.mem_of_getElem? (i := 129) rfl)
theorem tp_448 : (Cond.instanceMethod yX10_count) ∈ lw_tbl := tbC_in 1 _ (List.mem_of_getElem? (i := 130) rfl)
theorem tp_449 : (Cond.selects RX10 yX10_count yX10_count) ∈ lw_tbl := tbC_in 1 _ (List.mem_of_getElem? (i := 131) rfl)
theorem tp_1549 : (Cond.methodLink RL 219 yX11_count) ∈ lw_tbl := tbC_in 6 _ (List.mem_of_getElem? (i := 31) rfl)
theorem tp_1550 : (Cond.instanceMethod yX11_count) ∈ lw_tbl := tbC_in 6 _ (List.mem_of_getElem? (i := 32) rfl)
theorem tp_1551 : (Cond.selects RX11 yX11_count yX11_count) ∈ lw_tbl := tbC_in 6 _ (List.mem_of_getElem? (i := 33) rfl)
set_option maxRecDepth 20000 in
theorem tboL_law : ∀ w ∈ woL_law, w ∈ lw_tbl := (tb_cons tp_104 (tb_cons tp_105 (tb_cons tp_79 (tb_cons tp_1115 (tb_cons tp_1116 (tb_cons tp_91 (tb_cons tp_1553 (tb_cons tp_106 (tb_cons tp_107 (tb_cons tp_110 (tb_cons tp_138 (tb_cons tp_113 (tb_cons tp_80 (tb_cons tp_141 (tb_cons tp_82 (tb_cons tp_183 (tb_cons tp_83 (tb_cons tp_189 (tb_cons tp_84 (tb_cons tp_285 (tb_cons tp_88 (tb_cons tp_139 (tb_cons tp_308 (tb_cons tp_89 (tb_cons tp_81 (tb_cons tp_211 (tb_cons tp_85 (tb_cons tp_221 (tb_cons tp_86 (tb_cons tp_252 (tb_cons tp_87 (tb_cons tp_90 (tb_cons tp_1117 (tb_cons tp_1118 (tb_cons tp_371 (tb_cons tp_372 (tb_cons tp_373 (tb_cons tp_1237 (tb_cons tp_1238 (tb_cons tp_1239 (tb_cons tp_451 (tb_cons tp_452 (tb_cons tp_78 (tb_cons tp_454 (tb_cons tp_455 (tb_cons tp_95 (tb_cons tp_536 (tb_cons tp_96 (tb_cons tp_540 (tb_cons tp_561 (tb_cons tp_97 (tb_cons tp_98 (tb_cons tp_99 (tb_cons tp_100 (tb_cons tp_632 (tb_cons tp_641 (tb_cons tp_653 (tb_cons tp_662 (tb_cons tp_682 (tb_cons tp_1241 (tb_cons tp_1242 (tb_cons tp_1243 (tb_cons tp_708 (tb_cons tp_709 (tb_cons tp_711 (tb_cons tp_1303 (tb_cons tp_1304 (tb_cons tp_1305 (tb_cons tp_379 (tb_cons tp_380 (tb_cons tp_381 (tb_cons tp_1311 (tb_cons tp_1312 (tb_cons tp_1313 (tb_cons tp_720 (tb_cons tp_721 (tb_cons tp_723 (tb_cons tp_1315 (tb_cons tp_1316 (tb_cons tp_1317 (tb_cons tp_727 (tb_cons tp_728 (tb_cons tp_730 (tb_cons tp_731 (tb_cons tp_101 (tb_cons tp_1319 (tb_cons tp_1320 (tb_cons tp_1321 (tb_cons tp_755 (tb_cons tp_756 (tb_cons tp_758 (tb_cons tp_759 (tb_cons tp_102 (tb_cons tp_1327 (tb_cons tp_1328 (tb_cons tp_1329 (tb_cons tp_795 (tb_cons tp_796 (tb_cons tp_798 (tb_cons tp_1335 (tb_cons tp_1336 (tb_cons tp_1337 (tb_cons tp_806 (tb_cons tp_807 (tb_cons tp_809 (tb_cons tp_1343 (tb_cons tp_1344 (tb_cons tp_1345 (tb_cons tp_821 (tb_cons tp_822 (tb_cons tp_824 (tb_cons tp_419 (tb_cons tp_418 (tb_cons tp_103 (tb_cons tp_403 (tb_cons tp_887 (tb_cons tp_1351 (tb_cons tp_1352 (tb_cons tp_1353 (tb_cons tp_893 (tb_cons tp_894 (tb_cons tp_896 (tb_cons tp_1390 (tb_cons tp_1391 (tb_cons tp_1392 (tb_cons tp_905 (tb_cons tp_906 (tb_cons tp_908 (tb_cons tp_1394 (tb_cons tp_1395 (tb_cons tp_1396 (tb_cons tp_912 (tb_cons tp_913 (tb_cons tp_915 (tb_cons tp_1398 (tb_cons tp_1399 (tb_cons tp_1400 (tb_cons tp_923 (tb_cons tp_924 (tb_cons tp_926 (tb_cons tp_1402 (tb_cons tp_1403 (tb_cons tp_1404 (tb_cons tp_939 (tb_cons tp_940 (tb_cons tp_942 (tb_cons tp_1425 (tb_cons tp_1426 (tb_cons tp_1427 (tb_cons tp_946 (tb_cons tp_947 (tb_cons tp_949 (tb_cons tp_1429 (tb_cons tp_1430 (tb_cons tp_1431 (tb_cons tp_958 (tb_cons tp_959 (tb_cons tp_961 (tb_cons tp_1437 (tb_cons tp_1438 (tb_cons tp_1439 (tb_cons tp_965 (tb_cons tp_966 (tb_cons tp_968 (tb_cons tp_1441 (tb_cons tp_1442 (tb_cons tp_1443 (tb_cons tp_972 (tb_cons tp_973 (tb_cons tp_975 (tb_cons tp_1445 (tb_cons tp_1446 (tb_cons tp_1447 (tb_cons tp_984 (tb_cons tp_985 (tb_cons tp_987 (tb_cons tp_1449 (tb_cons tp_1450 (tb_cons tp_1451 (tb_cons tp_991 (tb_cons tp_992 (tb_cons tp_994 (tb_cons tp_1453 (tb_cons tp_1454 (tb_cons tp_1455 (tb_cons tp_1002 (tb_cons tp_1003 (tb_cons tp_1005 (tb_cons tp_1461 (tb_cons tp_1462 (tb_cons tp_1463 (tb_cons tp_1009 (tb_cons tp_1010 (tb_cons tp_1012 (tb_cons tp_1465 (tb_cons tp_1466 (tb_cons tp_1467 (tb_cons tp_1020 (tb_cons tp_1021 (tb_cons tp_1023 (tb_cons tp_1469 (tb_cons tp_1470 (tb_cons tp_1471 (tb_cons tp_1074 (tb_cons tp_1075 (tb_cons tp_1077 (tb_cons tp_1498 (tb_cons tp_1499 (tb_cons tp_1500 (tb_cons tp_1081 (tb_cons tp_1082 (tb_cons tp_1084 (tb_cons tp_1502 (tb_cons tp_1503 (tb_cons tp_1504 (tb_cons tp_1088 (tb_cons tp_1089 (tb_cons tp_1091 (tb_cons tp_1506 (tb_cons tp_1507 (tb_cons tp_1508 (tb_cons tp_383 (tb_cons tp_384 (tb_cons tp_385 (tb_cons tp_1510 (tb_cons tp_1511 (tb_cons tp_1512 (tb_cons tp_1099 (tb_cons tp_1100 (tb_cons tp_1102 (tb_cons tp_1525 (tb_cons tp_1526 (tb_cons tp_1527 (tb_cons tp_405 (tb_cons tp_406 (tb_cons tp_407 (tb_cons tp_1529 (tb_cons tp_1530 (tb_cons tp_1531 (tb_cons tp_438 (tb_cons tp_439 (tb_cons tp_440 (tb_cons tp_1541 (tb_cons tp_1542 (tb_cons tp_1543 (tb_cons tp_442 (tb_cons tp_443 (tb_cons tp_444 (tb_cons tp_1545 (tb_cons tp_1546 (tb_cons tp_1547 (tb_cons tp_447 (tb_cons tp_448 (tb_cons tp_449 (tb_cons tp_1549 (tb_cons tp_1550 (tb_cons tp_1551 tb_nil)))))))))))))))))))))))))))))))))))))))))))))))))))))))))))))))))))))))))))))))))))))))))))))))))))))))))))))))))))))))))))))))))))))))))))))))))))))))))))))))))))))))))))))))))))))))))))))))))))))))))))))))))))))))))))))))))))))))))))))))))))))))))))))))))
theorem wsL_law_in : ∀ w ∈ wsL_law, w ∈ lw_tbl := (tb_app tboL_law (tb_app tbn_9 (tb_app tbn_10 (tb_app tbn_0 (tb_app tbn_1 (tb_app tbn_6 (tb_app tbn_2 (tb_app tbn_7 (tb_app tbn_8 (tb_app tbn_3 (tb_app tbn_4 (tb_app tbn_5 (tb_app tbn_11 (tb_app tbn_12 (tb_app tbn_13 (tb_app tbX10_init (tb_app tbX11_init (tb_app tbX10_feed (tb_app tbX11_feed (tb_app tbL_siege (tb_app tbX11_siege (tb_app tbL_contract (tb_app tbX11_contract (tb_app tbX10_fault (tb_app tbX11_fault (tb_app tbL_told (tb_app tbX11_told (tb_app tbL_wall (tb_app tbX11_wall (tb_app tbL_rule (tb_app tbX11_rule (tb_app tbL_wants (tb_app tbX11_wants (tb_app tbL_sign (tb_app tbX11_sign (tb_app tbL_months (tb_app tbX11_months (tb_app tbL_undo (tb_app tbX11_undo (tb_app tbL_sums (tb_app tbX11_sums (tb_app tbL_corks (tb_app tbX11_corks (tb_app tbL_would (tb_app tbX11_would (tb_app tbL_best (tb_app tbX11_best (tb_app tbL_offer (tb_app tbX11_offer (tb_app tbL_nearest (tb_app tbX11_nearest (tb_app tbL_stop (tb_app tbX11_stop (tb_app tbL_odds (tb_app tbX11_odds (tb_app tbL_kind (tb_app tbX11_kind (tb_app tbL_seen (tb_app tbX11_seen (tb_app tbL_spy (tb_app tbX11_spy (tb_app tbL_believed (tb_app tbX11_believed (tb_app tbL_earnest (tb_app tbX11_earnest (tb_app tbL_stands (tb_app tbX11_stands (tb_app tbL_show (tb_app tbX11_show (tb_app tbL_offers (tb_app tbX11_offers (tb_app tbX10_most (tb_app tbX11_most (tb_app tbL_serves (tb_app tbX11_serves (tb_app tbX10_image (tb_app tbX11_image (tb_app tbX10_restore (tb_app tbX11_restore (tb_app tbX10_status (tb_app tbX11_status (tb_app tbX10_count tbX11_count))))))))))))))))))))))))))))))))))))))))))))))))))))))))))))))))))))))))))))))))))
theorem inlX0 : ∀ w ∈ wsX00, w ∈ wsL_law := fun _ h => List.mem_append_right _ (List.mem_append_right _ (List.mem_append_right _ (List.mem_append_right _ (List.mem_append_right _ (List.mem_append_right _ (List.mem_append_right _ (List.mem_append_right _ (List.mem_append_right _ (List.mem_append_left _ h)))))))))
theorem inX0 : ∀ w ∈ wsX00, w ∈ lw_tbl := fun w h => wsL_law_in w (inlX0 w h)
theorem inlX1 : ∀ w ∈ wsX10, w ∈ wsL_law := fun _ h => List.mem_append_right _ (List.mem_append_right _ (List.mem_append_right _ (List.mem_append_right _ (List.mem_append_right _ (List.mem_append_right _ (List.mem_append_right _ (List.mem_append_left _ h)))))))
theorem inX1 : ∀ w ∈ wsX10, w ∈ lw_tbl := fun w h => wsL_law_in w (inlX1 w h)
theorem inlX2 : ∀ w ∈ wsX20, w ∈ wsL_law := fun _ h => List.mem_append_right _ (List.mem_append_right _ (List.mem_append_right _ (List.mem_append_right _ (List.mem_append_right _ (List.mem_append_right _ (List.mem_append_right _ (List.mem_append_right _ (List.mem_append_right _ (List.mem_append_right _ (List.mem_append_left _ h))))))))))
theorem inX2 : ∀ w ∈ wsX20, w ∈ lw_tbl := fun w h => wsL_law_in w (inlX2 w h)
theorem inlX3 : ∀ w ∈ wsX30, w ∈ wsL_law := fun _ h => List.mem_append_right _ (List.mem_append_right _ (List.mem_append_right _ (List.mem_append_right _ (List.mem_append_right _ (List.mem_append_right _ (List.mem_append_right _ (List.mem_append_right _ (List.mem_append_right _ (List.mem_append_right _ (List.mem_append_right _ (List.mem_append_left _ h)))))))))))
theorem inX3 : ∀ w ∈ wsX30, w ∈ lw_tbl := fun w h => wsL_law_in w (inlX3 w h)
theorem inlX4 : ∀ w ∈ wsX40, w ∈ wsL_law := fun _ h => List.mem_append_right _ (List.mem_append_right _ (List.mem_append_right _ (List.mem_append_right _ (List.mem_append_right _ (List.mem_append_right _ (List.mem_append_left _ h))))))
theorem inX4 : ∀ w ∈ wsX40, w ∈ lw_tbl := fun w h => wsL_law_in w (inlX4 w h)
theorem inlX5 : ∀ w ∈ wsX50, w ∈ wsL_law := fun _ h => List.mem_append_right _ (List.mem_append_right _ (List.mem_append_right _ (List.mem_append_right _ (List.mem_append_right _ (List.mem_append_right _ (List.mem_append_right _ (List.mem_append_right _ (List.mem_append_left _ h))))))))
theorem inX5 : ∀ w ∈ wsX50, w ∈ lw_tbl := fun w h => wsL_law_in w (inlX5 w h)
theorem inlX6 : ∀ w ∈ wsX60, w ∈ wsL_law := fun _ h => List.mem_append_right _ (List.mem_append_right _ (List.mem_append_right _ (List.mem_append_right _ (List.mem_append_left _ h))))
theorem inX6 : ∀ w ∈ wsX60, w ∈ lw_tbl := fun w h => wsL_law_in w (inlX6 w h)
theorem inlX7 : ∀ w ∈ wsX70, w ∈ wsL_law := fun _ h => List.mem_append_right _ (List.mem_append_right _ (List.mem_append_right _ (List.mem_append_left _ h)))
theorem inX7 : ∀ w ∈ wsX70, w ∈ lw_tbl := fun w h => wsL_law_in w (inlX7 w h)
theorem inlX8 : ∀ w ∈ wsX80, w ∈ wsL_law := fun _ h => List.mem_append_right _ (List.mem_append_right _ (List.mem_append_right _ (List.mem_append_right _ (List.mem_append_right _ (List.mem_append_left _ h)))))
theorem inX8 : ∀ w ∈ wsX80, w ∈ lw_tbl := fun w h => wsL_law_in w (inlX8 w h)
theorem inlX10 : ∀ w ∈ wsX100, w ∈ wsL_law := fun _ h => List.mem_append_right _ (List.mem_append_left _ h)
theorem inX10 : ∀ w ∈ wsX100, w ∈ lw_tbl := fun w h => wsL_law_in w (inlX10 w h)
theorem inlX11 : ∀ w ∈ wsX110, w ∈ wsL_law := fun _ h => List.mem_append_right _ (List.mem_append_right _ (List.mem_append_left _ h))
theorem inX11 : ∀ w ∈ wsX110, w ∈ lw_tbl := fun w h => wsL_law_in w (inlX11 w h)
theorem ggL_siege_X10_siege : GoodIn wsL_siege wsX10_siege := gW_in gwX10_siege (fun _ h => List.mem_cons_of_mem _ (List.mem_append_right _ (List.mem_append_right _ (List.mem_append_right _ (List.mem_append_right _ (List.mem_append_right _ (List.mem_append_right _ (List.mem_append_right _ (List.mem_append_right _ (List.mem_append_right _ (h)))))))))))
set_option maxRecDepth 20000 in
theorem gL_siege_X10_siege : GoodIn wsL_siege (wsV RL 7 RX10 yX10_siege wsX10_siege) := goodIn_app (goodIn_of _ (by decide +kernel)) ggL_siege_X10_siege
theorem bL_siege_0 : fac cL_siege [(0, .aload_n 2, 1), (1, .iconst 0, 1), (2, .aload_n 0, 1), (3, .iload_n 1, 1), (4, .invokevirtual 7, 3), (7, .i2l, 1), (8, .lastore, 1), (9, .goto 6, 3), (12, .astore_n 3, 1), (13, .iconst 1, 1), (14, .ireturn, 1), (15, .iconst 0, 1), (16, .ireturn, 1)] := fac_all 0 _ (by decide +kernel)
def dL_siege_0 := bL_siege_0.1
def dL_siege_1 := bL_siege_0.2.1
def dL_siege_2 := bL_siege_0.2.2.1
def dL_siege_3 := bL_siege_0.2.2.2.1
def dL_siege_4 := bL_siege_0.2.2.2.2.1
def dL_siege_7 := bL_siege_0.2.2.2.2.2.1
def dL_siege_8 := bL_siege_0.2.2.2.2.2.2.1
def dL_siege_9 := bL_siege_0.2.2.2.2.2.2.2.1
def dL_siege_12 := bL_siege_0.2.2.2.2.2.2.2.2.1
def dL_siege_13 := bL_siege_0.2.2.2.2.2.2.2.2.2.1
def dL_siege_14 := bL_siege_0.2.2.2.2.2.2.2.2.2.2.1
def dL_siege_15 := bL_siege_0.2.2.2.2.2.2.2.2.2.2.2.1
def dL_siege_16 := bL_siege_0.2.2.2.2.2.2.2.2.2.2.2.2.1
theorem ggL_contract_X10_contract : GoodIn wsL_contract wsX10_contract := gW_in gwX10_contract (fun _ h => List.mem_cons_of_mem _ (List.mem_append_right _ (List.mem_append_right _ (List.mem_append_right _ (List.mem_append_right _ (List.mem_append_right _ (h)))))))
set_option maxRecDepth 20000 in
theorem gL_contract_X10_contract : GoodIn wsL_contract (wsV RL 15 RX10 yX10_contract wsX10_contract) := goodIn_app (goodIn_of _ (by decide +kernel)) ggL_contract_X10_contract
theorem bL_contract_0 : fac cL_contract [(0, .aload_n 2, 1), (1, .iconst 0, 1), (2, .aload_n 0, 1), (3, .iload_n 1, 1), (4, .invokevirtual 15, 3), (7, .i2l, 1), (8, .lastore, 1), (9, .goto 6, 3), (12, .astore_n 3, 1), (13, .iconst 1, 1), (14, .ireturn, 1), (15, .iconst 0, 1), (16, .ireturn, 1)] := fac_all 0 _ (by decide +kernel)
def dL_contract_0 := bL_contract_0.1
def dL_contract_1 := bL_contract_0.2.1
def dL_contract_2 := bL_contract_0.2.2.1
def dL_contract_3 := bL_contract_0.2.2.2.1
def dL_contract_4 := bL_contract_0.2.2.2.2.1
def dL_contract_7 := bL_contract_0.2.2.2.2.2.1
def dL_contract_8 := bL_contract_0.2.2.2.2.2.2.1
def dL_contract_9 := bL_contract_0.2.2.2.2.2.2.2.1
def dL_contract_12 := bL_contract_0.2.2.2.2.2.2.2.2.1
def dL_contract_13 := bL_contract_0.2.2.2.2.2.2.2.2.2.1
def dL_contract_14 := bL_contract_0.2.2.2.2.2.2.2.2.2.2.1
def dL_contract_15 := bL_contract_0.2.2.2.2.2.2.2.2.2.2.2.1
def dL_contract_16 := bL_contract_0.2.2.2.2.2.2.2.2.2.2.2.2.1
theorem ggL_told_X10_told : GoodIn wsL_told wsX10_told := gW_in gwX10_told (fun _ h => List.mem_cons_of_mem _ (List.mem_append_right _ (List.mem_append_right _ (List.mem_append_right _ (List.mem_append_right _ (List.mem_append_right _ (h)))))))
set_option maxRecDepth 20000 in
theorem gL_told_X10_told : GoodIn wsL_told (wsV RL 18 RX10 yX10_told wsX10_told) := goodIn_app (goodIn_of _ (by decide +kernel)) ggL_told_X10_told
theorem bL_told_0 : fac cL_told [(0, .aload_n 2, 1), (1, .iconst 0, 1), (2, .aload_n 0, 1), (3, .iload_n 1, 1), (4, .invokevirtual 18, 3), (7, .i2l, 1), (8, .lastore, 1), (9, .goto 6, 3), (12, .astore_n 3, 1), (13, .iconst 1, 1), (14, .ireturn, 1), (15, .iconst 0, 1), (16, .ireturn, 1)] := fac_all 0 _ (by decide +kernel)
def dL_told_0 := bL_told_0.1
def dL_told_1 := bL_told_0.2.1
def dL_told_2 := bL_told_0.2.2.1
def dL_told_3 := bL_told_0.2.2.2.1
def dL_told_4 := bL_told_0.2.2.2.2.1
def dL_told_7 := bL_told_0.2.2.2.2.2.1
def dL_told_8 := bL_told_0.2.2.2.2.2.2.1
def dL_told_9 := bL_told_0.2.2.2.2.2.2.2.1
def dL_told_12 := bL_told_0.2.2.2.2.2.2.2.2.1
def dL_told_13 := bL_told_0.2.2.2.2.2.2.2.2.2.1
def dL_told_14 := bL_told_0.2.2.2.2.2.2.2.2.2.2.1
def dL_told_15 := bL_told_0.2.2.2.2.2.2.2.2.2.2.2.1
def dL_told_16 := bL_told_0.2.2.2.2.2.2.2.2.2.2.2.2.1
theorem ggL_wall_X10_wall : GoodIn wsL_wall wsX10_wall := gW_in gwX10_wall (fun _ h => List.mem_cons_of_mem _ (List.mem_append_right _ (List.mem_append_right _ (List.mem_append_right _ (List.mem_append_right _ (List.mem_append_right _ (h)))))))
set_option maxRecDepth 20000 in
theorem gL_wall_X10_wall : GoodIn wsL_wall (wsV RL 21 RX10 yX10_wall wsX10_wall) := goodIn_app (goodIn_of _ (by decide +kernel)) ggL_wall_X10_wall
theorem bL_wall_0 : fac cL_wall [(0, .aload_n 3, 1), (1, .iconst 0, 1), (2, .aload_n 0, 1), (3, .iload_n 1, 1), (4, .iload_n 2, 1), (5, .invokevirtual 21, 3), (8, .i2l, 1), (9, .lastore, 1), (10, .goto 11, 3), (13, .astore 4, 2), (15, .iconst 1, 1), (16, .ireturn, 1), (17, .astore 4, 2), (19, .iconst 2, 1), (20, .ireturn, 1), (21, .iconst 0, 1)] := fac_all 0 _ (by decide +kernel)
def dL_wall_0 := bL_wall_0.1
def dL_wall_1 := bL_wall_0.2.1
def dL_wall_2 := bL_wall_0.2.2.1
def dL_wall_3 := bL_wall_0.2.2.2.1
def dL_wall_4 := bL_wall_0.2.2.2.2.1
def dL_wall_5 := bL_wall_0.2.2.2.2.2.1
def dL_wall_8 := bL_wall_0.2.2.2.2.2.2.1
def dL_wall_9 := bL_wall_0.2.2.2.2.2.2.2.1
def dL_wall_10 := bL_wall_0.2.2.2.2.2.2.2.2.1
def dL_wall_13 := bL_wall_0.2.2.2.2.2.2.2.2.2.1
def dL_wall_15 := bL_wall_0.2.2.2.2.2.2.2.2.2.2.1
def dL_wall_16 := bL_wall_0.2.2.2.2.2.2.2.2.2.2.2.1
def dL_wall_17 := bL_wall_0.2.2.2.2.2.2.2.2.2.2.2.2.1
def dL_wall_19 := bL_wall_0.2.2.2.2.2.2.2.2.2.2.2.2.2.1
def dL_wall_20 := bL_wall_0.2.2.2.2.2.2.2.2.2.2.2.2.2.2.1
def dL_wall_21 := bL_wall_0.2.2.2.2.2.2.2.2.2.2.2.2.2.2.2.1
theorem dL_wall_22 : decode cL_wall 22 = .ok (.ireturn, 1) := by decide +kernel
theorem ggL_rule_X10_rule : GoodIn wsL_rule wsX10_rule := gW_in gwX10_rule (fun _ h => List.mem_cons_of_mem _ (List.mem_append_right _ (List.mem_append_right _ (List.mem_append_right _ (h)))))
set_option maxRecDepth 20000 in
theorem gL_rule_X10_rule : GoodIn wsL_rule (wsV RL 27 RX10 yX10_rule wsX10_rule) := goodIn_app (goodIn_of _ (by decide +kernel)) ggL_rule_X10_rule
theorem bL_rule_0 : fac cL_rule [(0, .aload_n 3, 1), (1, .iconst 0, 1), (2, .aload_n 0, 1), (3, .iload_n 1, 1), (4, .iload_n 2, 1), (5, .invokevirtual 27, 3), (8, .i2l, 1), (9, .lastore, 1), (10, .goto 11, 3), (13, .astore 4, 2), (15, .iconst 1, 1), (16, .ireturn, 1), (17, .astore 4, 2), (19, .iconst 2, 1), (20, .ireturn, 1), (21, .iconst 0, 1)] := fac_all 0 _ (by decide +kernel)
def dL_rule_0 := bL_rule_0.1
def dL_rule_1 := bL_rule_0.2.1
def dL_rule_2 := bL_rule_0.2.2.1
def dL_rule_3 := bL_rule_0.2.2.2.1
def dL_rule_4 := bL_rule_0.2.2.2.2.1
def dL_rule_5 := bL_rule_0.2.2.2.2.2.1
def dL_rule_8 := bL_rule_0.2.2.2.2.2.2.1
def dL_rule_9 := bL_rule_0.2.2.2.2.2.2.2.1
def dL_rule_10 := bL_rule_0.2.2.2.2.2.2.2.2.1
def dL_rule_13 := bL_rule_0.2.2.2.2.2.2.2.2.2.1
def dL_rule_15 := bL_rule_0.2.2.2.2.2.2.2.2.2.2.1
def dL_rule_16 := bL_rule_0.2.2.2.2.2.2.2.2.2.2.2.1
def dL_rule_17 := bL_rule_0.2.2.2.2.2.2.2.2.2.2.2.2.1
def dL_rule_19 := bL_rule_0.2.2.2.2.2.2.2.2.2.2.2.2.2.1
def dL_rule_20 := bL_rule_0.2.2.2.2.2.2.2.2.2.2.2.2.2.2.1
def dL_rule_21 := bL_rule_0.2.2.2.2.2.2.2.2.2.2.2.2.2.2.2.1
theorem dL_rule_22 : decode cL_rule 22 = .ok (.ireturn, 1) := by decide +kernel
theorem ggL_wants_X10_wants : GoodIn wsL_wants wsX10_wants := gW_in gwX10_wants (fun _ h => List.mem_cons_of_mem _ (List.mem_append_right _ (List.mem_append_right _ (List.mem_append_right _ (h)))))
set_option maxRecDepth 20000 in
theorem gL_wants_X10_wants : GoodIn wsL_wants (wsV RL 32 RX10 yX10_wants wsX10_wants) := goodIn_app (goodIn_of _ (by decide +kernel)) ggL_wants_X10_wants
theorem bL_wants_0 : fac cL_wants [(0, .aload_n 3, 1), (1, .iconst 0, 1), (2, .aload_n 0, 1), (3, .iload_n 1, 1), (4, .iload_n 2, 1), (5, .invokevirtual 32, 3), (8, .i2l, 1), (9, .lastore, 1), (10, .goto 7, 3), (13, .astore 4, 2), (15, .iconst 1, 1), (16, .ireturn, 1), (17, .iconst 0, 1), (18, .ireturn, 1)] := fac_all 0 _ (by decide +kernel)
def dL_wants_0 := bL_wants_0.1
def dL_wants_1 := bL_wants_0.2.1
def dL_wants_2 := bL_wants_0.2.2.1
def dL_wants_3 := bL_wants_0.2.2.2.1
def dL_wants_4 := bL_wants_0.2.2.2.2.1
def dL_wants_5 := bL_wants_0.2.2.2.2.2.1
def dL_wants_8 := bL_wants_0.2.2.2.2.2.2.1
def dL_wants_9 := bL_wants_0.2.2.2.2.2.2.2.1
def dL_wants_10 := bL_wants_0.2.2.2.2.2.2.2.2.1
def dL_wants_13 := bL_wants_0.2.2.2.2.2.2.2.2.2.1
def dL_wants_15 := bL_wants_0.2.2.2.2.2.2.2.2.2.2.1
def dL_wants_16 := bL_wants_0.2.2.2.2.2.2.2.2.2.2.2.1
def dL_wants_17 := bL_wants_0.2.2.2.2.2.2.2.2.2.2.2.2.1
def dL_wants_18 := bL_wants_0.2.2.2.2.2.2.2.2.2.2.2.2.2.1
theorem ggL_sign_X10_sign : GoodIn wsL_sign wsX10_sign := gW_in gwX10_sign (fun _ h => List.mem_cons_of_mem _ (List.mem_append_right _ (List.mem_append_right _ (List.mem_append_right _ (List.mem_append_right _ (h))))))
set_option maxRecDepth 20000 in
theorem gL_sign_X10_sign : GoodIn wsL_sign (wsV RL 35 RX10 yX10_sign wsX10_sign) := goodIn_app (goodIn_of _ (by decide +kernel)) ggL_sign_X10_sign
theorem bL_sign_0 : fac cL_sign [(0, .aload_n 2, 1), (1, .iconst 0, 1), (2, .aload_n 0, 1), (3, .iload_n 1, 1), (4, .invokevirtual 35, 3), (7, .i2l, 1), (8, .lastore, 1), (9, .goto 6, 3), (12, .astore_n 3, 1), (13, .iconst 1, 1), (14, .ireturn, 1), (15, .iconst 0, 1), (16, .ireturn, 1)] := fac_all 0 _ (by decide +kernel)
def dL_sign_0 := bL_sign_0.1
def dL_sign_1 := bL_sign_0.2.1
def dL_sign_2 := bL_sign_0.2.2.1
def dL_sign_3 := bL_sign_0.2.2.2.1
def dL_sign_4 := bL_sign_0.2.2.2.2.1
def dL_sign_7 := bL_sign_0.2.2.2.2.2.1
def dL_sign_8 := bL_sign_0.2.2.2.2.2.2.1
def dL_sign_9 := bL_sign_0.2.2.2.2.2.2.2.1
def dL_sign_12 := bL_sign_0.2.2.2.2.2.2.2.2.1
def dL_sign_13 := bL_sign_0.2.2.2.2.2.2.2.2.2.1
def dL_sign_14 := bL_sign_0.2.2.2.2.2.2.2.2.2.2.1
def dL_sign_15 := bL_sign_0.2.2.2.2.2.2.2.2.2.2.2.1
def dL_sign_16 := bL_sign_0.2.2.2.2.2.2.2.2.2.2.2.2.1
theorem ggL_months_X10_months : GoodIn wsL_months wsX10_months := gW_in gwX10_months (fun _ h => List.mem_cons_of_mem _ (List.mem_append_right _ (List.mem_append_right _ (List.mem_append_right _ (List.mem_append_right _ (List.mem_append_right _ (List.mem_append_right _ (List.mem_append_right _ (h)))))))))
set_option maxRecDepth 20000 in
theorem gL_months_X10_months : GoodIn wsL_months (wsV RL 38 RX10 yX10_months wsX10_months) := goodIn_app (goodIn_of _ (by decide +kernel)) ggL_months_X10_months
theorem bL_months_0 : fac cL_months [(0, .aload_n 2, 1), (1, .iconst 0, 1), (2, .aload_n 0, 1), (3, .iload_n 1, 1), (4, .invokevirtual 38, 3), (7, .i2l, 1), (8, .lastore, 1), (9, .goto 6, 3), (12, .astore_n 3, 1), (13, .iconst 1, 1), (14, .ireturn, 1), (15, .iconst 0, 1), (16, .ireturn, 1)] := fac_all 0 _ (by decide +kernel)
def dL_months_0 := bL_months_0.1
def dL_months_1 := bL_months_0.2.1
def dL_months_2 := bL_months_0.2.2.1
def dL_months_3 := bL_months_0.2.2.2.1
def dL_months_4 := bL_months_0.2.2.2.2.1
def dL_months_7 := bL_months_0.2.2.2.2.2.1
def dL_months_8 := bL_months_0.2.2.2.2.2.2.1
def dL_months_9 := bL_months_0.2.2.2.2.2.2.2.1
def dL_months_12 := bL_months_0.2.2.2.2.2.2.2.2.1
def dL_months_13 := bL_months_0.2.2.2.2.2.2.2.2.2.1
def dL_months_14 := bL_months_0.2.2.2.2.2.2.2.2.2.2.1
def dL_months_15 := bL_months_0.2.2.2.2.2.2.2.2.2.2.2.1
def dL_months_16 := bL_months_0.2.2.2.2.2.2.2.2.2.2.2.2.1
theorem ggL_undo_X10_undo : GoodIn wsL_undo wsX10_undo := gW_in gwX10_undo (fun _ h => List.mem_cons_of_mem _ (List.mem_append_right _ (List.mem_append_right _ (List.mem_append_right _ (List.mem_append_right _ (List.mem_append_right _ (h)))))))
set_option maxRecDepth 20000 in
theorem gL_undo_X10_undo : GoodIn wsL_undo (wsV RL 41 RX10 yX10_undo wsX10_undo) := goodIn_app (goodIn_of _ (by decide +kernel)) ggL_undo_X10_undo
theorem bL_undo_0 : fac cL_undo [(0, .aload_n 2, 1), (1, .iconst 0, 1), (2, .aload_n 0, 1), (3, .iload_n 1, 1), (4, .invokevirtual 41, 3), (7, .i2l, 1), (8, .lastore, 1), (9, .goto 6, 3), (12, .astore_n 3, 1), (13, .iconst 1, 1), (14, .ireturn, 1), (15, .iconst 0, 1), (16, .ireturn, 1)] := fac_all 0 _ (by decide +kernel)
def dL_undo_0 := bL_undo_0.1
def dL_undo_1 := bL_undo_0.2.1
def dL_undo_2 := bL_undo_0.2.2.1
def dL_undo_3 := bL_undo_0.2.2.2.1
def dL_undo_4 := bL_undo_0.2.2.2.2.1
def dL_undo_7 := bL_undo_0.2.2.2.2.2.1
def dL_undo_8 := bL_undo_0.2.2.2.2.2.2.1
def dL_undo_9 := bL_undo_0.2.2.2.2.2.2.2.1
def dL_undo_12 := bL_undo_0.2.2.2.2.2.2.2.2.1
def dL_undo_13 := bL_undo_0.2.2.2.2.2.2.2.2.2.1
def dL_undo_14 := bL_undo_0.2.2.2.2.2.2.2.2.2.2.1
def dL_undo_15 := bL_undo_0.2.2.2.2.2.2.2.2.2.2.2.1
def dL_undo_16 := bL_undo_0.2.2.2.2.2.2.2.2.2.2.2.2.1
theorem ggL_sums_X10_sums : GoodIn wsL_sums wsX10_sums := gW_in gwX10_sums (fun _ h => List.mem_cons_of_mem _ (List.mem_append_right _ (List.mem_append_right _ (List.mem_append_right _ (List.mem_append_right _ (h))))))
set_option maxRecDepth 20000 in
theorem gL_sums_X10_sums : GoodIn wsL_sums (wsV RL 44 RX10 yX10_sums wsX10_sums) := goodIn_app (goodIn_of _ (by decide +kernel)) ggL_sums_X10_sums
theorem bL_sums_0 : fac cL_sums [(0, .aload_n 2, 1), (1, .iconst 0, 1), (2, .aload_n 0, 1), (3, .iload_n 1, 1), (4, .invokevirtual 44, 3), (7, .i2l, 1), (8, .lastore, 1), (9, .goto 6, 3), (12, .astore_n 3, 1), (13, .iconst 1, 1), (14, .ireturn, 1), (15, .iconst 0, 1), (16, .ireturn, 1)] := fac_all 0 _ (by decide +kernel)
def dL_sums_0 := bL_sums_0.1
def dL_sums_1 := bL_sums_0.2.1
def dL_sums_2 := bL_sums_0.2.2.1
def dL_sums_3 := bL_sums_0.2.2.2.1
def dL_sums_4 := bL_sums_0.2.2.2.2.1
def dL_sums_7 := bL_sums_0.2.2.2.2.2.1
def dL_sums_8 := bL_sums_0.2.2.2.2.2.2.1
def dL_sums_9 := bL_sums_0.2.2.2.2.2.2.2.1
def dL_sums_12 := bL_sums_0.2.2.2.2.2.2.2.2.1
def dL_sums_13 := bL_sums_0.2.2.2.2.2.2.2.2.2.1
def dL_sums_14 := bL_sums_0.2.2.2.2.2.2.2.2.2.2.1
def dL_sums_15 := bL_sums_0.2.2.2.2.2.2.2.2.2.2.2.1
def dL_sums_16 := bL_sums_0.2.2.2.2.2.2.2.2.2.2.2.2.1
theorem ggL_corks_X10_corks : GoodIn wsL_corks wsX10_corks := gW_in gwX10_corks (fun _ h => List.mem_cons_of_mem _ (List.mem_append_right _ (List.mem_append_right _ (List.mem_append_right _ (List.mem_append_right _ (List.mem_append_right _ (List.mem_append_right _ (h))))))))
set_option maxRecDepth 20000 in
theorem gL_corks_X10_corks : GoodIn wsL_corks (wsV RL 47 RX10 yX10_corks wsX10_corks) := goodIn_app (goodIn_of _ (by decide +kernel)) ggL_corks_X10_corks
theorem bL_corks_0 : fac cL_corks [(0, .aload_n 3, 1), (1, .iconst 0, 1), (2, .aload_n 0, 1), (3, .iload_n 1, 1), (4, .iload_n 2, 1), (5, .invokevirtual 47, 3), (8, .i2l, 1), (9, .lastore, 1), (10, .goto 11, 3), (13, .astore 4, 2), (15, .iconst 1, 1), (16, .ireturn, 1), (17, .astore 4, 2), (19, .iconst 2, 1), (20, .ireturn, 1), (21, .iconst 0, 1)] := fac_all 0 _ (by decide +kernel)
def dL_corks_0 := bL_corks_0.1
def dL_corks_1 := bL_corks_0.2.1
def dL_corks_2 := bL_corks_0.2.2.1
def dL_corks_3 := bL_corks_0.2.2.2.1
def dL_corks_4 := bL_corks_0.2.2.2.2.1
def dL_corks_5 := bL_corks_0.2.2.2.2.2.1
def dL_corks_8 := bL_corks_0.2.2.2.2.2.2.1
def dL_corks_9 := bL_corks_0.2.2.2.2.2.2.2.1
def dL_corks_10 := bL_corks_0.2.2.2.2.2.2.2.2.1
def dL_corks_13 := bL_corks_0.2.2.2.2.2.2.2.2.2.1
def dL_corks_15 := bL_corks_0.2.2.2.2.2.2.2.2.2.2.1
def dL_corks_16 := bL_corks_0.2.2.2.2.2.2.2.2.2.2.2.1
def dL_corks_17 := bL_corks_0.2.2.2.2.2.2.2.2.2.2.2.2.1
def dL_corks_19 := bL_corks_0.2.2.2.2.2.2.2.2.2.2.2.2.2.1
def dL_corks_20 := bL_corks_0.2.2.2.2.2.2.2.2.2.2.2.2.2.2.1
def dL_corks_21 := bL_corks_0.2.2.2.2.2.2.2.2.2.2.2.2.2.2.2.1
theorem dL_corks_22 : decode cL_corks 22 = .ok (.ireturn, 1) := by decide +kernel
theorem ggL_would_X10_would : GoodIn wsL_would wsX10_would := gW_in gwX10_would (fun _ h => List.mem_cons_of_mem _ (List.mem_append_right _ (List.mem_append_right _ (List.mem_append_right _ (List.mem_append_right _ (List.mem_append_right _ (List.mem_append_right _ (h))))))))
set_option maxRecDepth 20000 in
theorem gL_would_X10_would : GoodIn wsL_would (wsV RL 50 RX10 yX10_would wsX10_would) := goodIn_app (goodIn_of _ (by decide +kernel)) ggL_would_X10_would
theorem bL_would_0 : fac cL_would [(0, .aload 4, 2), (2, .iconst 0, 1), (3, .aload_n 0, 1), (4, .iload_n 1, 1), (5, .iload_n 2, 1), (6, .iload_n 3, 1), (7, .invokevirtual 50, 3), (10, .i2l, 1), (11, .lastore, 1), (12, .goto 11, 3), (15, .astore 5, 2), (17, .iconst 1, 1), (18, .ireturn, 1), (19, .astore 5, 2), (21, .iconst 2, 1), (22, .ireturn, 1)] := fac_all 0 _ (by decide +kernel)
def dL_would_0 := bL_would_0.1
def dL_would_2 := bL_would_0.2.1
def dL_would_3 := bL_would_0.2.2.1
def dL_would_4 := bL_would_0.2.2.2.1
def dL_would_5 := bL_would_0.2.2.2.2.1
def dL_would_6 := bL_would_0.2.2.2.2.2.1
def dL_would_7 := bL_would_0.2.2.2.2.2.2.1
def dL_would_10 := bL_would_0.2.2.2.2.2.2.2.1
def dL_would_11 := bL_would_0.2.2.2.2.2.2.2.2.1
def dL_would_12 := bL_would_0.2.2.2.2.2.2.2.2.2.1
def dL_would_15 := bL_would_0.2.2.2.2.2.2.2.2.2.2.1
def dL_would_17 := bL_would_0.2.2.2.2.2.2.2.2.2.2.2.1
def dL_would_18 := bL_would_0.2.2.2.2.2.2.2.2.2.2.2.2.1
def dL_would_19 := bL_would_0.2.2.2.2.2.2.2.2.2.2.2.2.2.1
def dL_would_21 := bL_would_0.2.2.2.2.2.2.2.2.2.2.2.2.2.2.1
def dL_would_22 := bL_would_0.2.2.2.2.2.2.2.2.2.2.2.2.2.2.2.1
theorem bL_would_23 : fac cL_would [(23, .iconst 0, 1), (24, .ireturn, 1)] := fac_all 23 _ (by decide +kernel)
def dL_would_23 := bL_would_23.1
def dL_would_24 := bL_would_23.2.1
theorem ggL_best_X10_best : GoodIn wsL_best wsX10_best := gW_in gwX10_best (fun _ h => List.mem_cons_of_mem _ (List.mem_append_right _ (List.mem_append_right _ (List.mem_append_right _ (List.mem_append_right _ (List.mem_append_right _ (List.mem_append_right _ (h))))))))
set_option maxRecDepth 20000 in
theorem gL_best_X10_best : GoodIn wsL_best (wsV RL 54 RX10 yX10_best wsX10_best) := goodIn_app (goodIn_of _ (by decide +kernel)) ggL_best_X10_best
theorem bL_best_0 : fac cL_best [(0, .aload_n 3, 1), (1, .iconst 0, 1), (2, .aload_n 0, 1), (3, .iload_n 1, 1), (4, .iload_n 2, 1), (5, .invokevirtual 54, 3), (8, .i2l, 1), (9, .lastore, 1), (10, .goto 7, 3), (13, .astore 4, 2), (15, .iconst 1, 1), (16, .ireturn, 1), (17, .iconst 0, 1), (18, .ireturn, 1)] := fac_all 0 _ (by decide +kernel)
def dL_best_0 := bL_best_0.1
def dL_best_1 := bL_best_0.2.1
def dL_best_2 := bL_best_0.2.2.1
def dL_best_3 := bL_best_0.2.2.2.1
def dL_best_4 := bL_best_0.2.2.2.2.1
def dL_best_5 := bL_best_0.2.2.2.2.2.1
def dL_best_8 := bL_best_0.2.2.2.2.2.2.1
def dL_best_9 := bL_best_0.2.2.2.2.2.2.2.1
def dL_best_10 := bL_best_0.2.2.2.2.2.2.2.2.1
def dL_best_13 := bL_best_0.2.2.2.2.2.2.2.2.2.1
def dL_best_15 := bL_best_0.2.2.2.2.2.2.2.2.2.2.1
def dL_best_16 := bL_best_0.2.2.2.2.2.2.2.2.2.2.2.1
def dL_best_17 := bL_best_0.2.2.2.2.2.2.2.2.2.2.2.2.1
def dL_best_18 := bL_best_0.2.2.2.2.2.2.2.2.2.2.2.2.2.1
theorem ggL_offer_X10_offer : GoodIn wsL_offer wsX10_offer := gW_in gwX10_offer (fun _ h => List.mem_cons_of_mem _ (List.mem_append_right _ (List.mem_append_right _ (List.mem_append_right _ (List.mem_append_right _ (List.mem_append_right _ (List.mem_append_right _ (h))))))))
set_option maxRecDepth 20000 in
theorem gL_offer_X10_offer : GoodIn wsL_offer (wsV RL 57 RX10 yX10_offer wsX10_offer) := goodIn_app (goodIn_of _ (by decide +kernel)) ggL_offer_X10_offer
theorem bL_offer_0 : fac cL_offer [(0, .aload_n 3, 1), (1, .iconst 0, 1), (2, .aload_n 0, 1), (3, .iload_n 1, 1), (4, .iload_n 2, 1), (5, .invokevirtual 57, 3), (8, .i2l, 1), (9, .lastore, 1), (10, .goto 7, 3), (13, .astore 4, 2), (15, .iconst 1, 1), (16, .ireturn, 1), (17, .iconst 0, 1), (18, .ireturn, 1)] := fac_all 0 _ (by decide +kernel)
def dL_offer_0 := bL_offer_0.1
def dL_offer_1 := bL_offer_0.2.1
def dL_offer_2 := bL_offer_0.2.2.1
def dL_offer_3 := bL_offer_0.2.2.2.1
def dL_offer_4 := bL_offer_0.2.2.2.2.1
def dL_offer_5 := bL_offer_0.2.2.2.2.2.1
def dL_offer_8 := bL_offer_0.2.2.2.2.2.2.1
def dL_offer_9 := bL_offer_0.2.2.2.2.2.2.2.1
def dL_offer_10 := bL_offer_0.2.2.2.2.2.2.2.2.1
def dL_offer_13 := bL_offer_0.2.2.2.2.2.2.2.2.2.1
def dL_offer_15 := bL_offer_0.2.2.2.2.2.2.2.2.2.2.1
def dL_offer_16 := bL_offer_0.2.2.2.2.2.2.2.2.2.2.2.1
def dL_offer_17 := bL_offer_0.2.2.2.2.2.2.2.2.2.2.2.2.1
def dL_offer_18 := bL_offer_0.2.2.2.2.2.2.2.2.2.2.2.2.2.1
theorem ggL_nearest_X10_nearest : GoodIn wsL_nearest wsX10_nearest := gW_in gwX10_nearest (fun _ h => List.mem_cons_of_mem _ (List.mem_append_right _ (List.mem_append_right _ (List.mem_append_right _ (h)))))
set_option maxRecDepth 20000 in
theorem gL_nearest_X10_nearest : GoodIn wsL_nearest (wsV RL 60 RX10 yX10_nearest wsX10_nearest) := goodIn_app (goodIn_of _ (by decide +kernel)) ggL_nearest_X10_nearest
theorem bL_nearest_0 : fac cL_nearest [(0, .aload_n 3, 1), (1, .iconst 0, 1), (2, .aload_n 0, 1), (3, .iload_n 1, 1), (4, .iload_n 2, 1), (5, .invokevirtual 60, 3), (8, .i2l, 1), (9, .lastore, 1), (10, .goto 7, 3), (13, .astore 4, 2), (15, .iconst 1, 1), (16, .ireturn, 1), (17, .iconst 0, 1), (18, .ireturn, 1)] := fac_all 0 _ (by decide +kernel)
def dL_nearest_0 := bL_nearest_0.1
def dL_nearest_1 := bL_nearest_0.2.1
def dL_nearest_2 := bL_nearest_0.2.2.1
def dL_nearest_3 := bL_nearest_0.2.2.2.1
def dL_nearest_4 := bL_nearest_0.2.2.2.2.1
def dL_nearest_5 := bL_nearest_0.2.2.2.2.2.1
def dL_nearest_8 := bL_nearest_0.2.2.2.2.2.2.1
def dL_nearest_9 := bL_nearest_0.2.2.2.2.2.2.2.1
def dL_nearest_10 := bL_nearest_0.2.2.2.2.2.2.2.2.1
def dL_nearest_13 := bL_nearest_0.2.2.2.2.2.2.2.2.2.1
def dL_nearest_15 := bL_nearest_0.2.2.2.2.2.2.2.2.2.2.1
def dL_nearest_16 := bL_nearest_0.2.2.2.2.2.2.2.2.2.2.2.1
def dL_nearest_17 := bL_nearest_0.2.2.2.2.2.2.2.2.2.2.2.2.1
def dL_nearest_18 := bL_nearest_0.2.2.2.2.2.2.2.2.2.2.2.2.2.1
theorem ggL_stop_X10_stop : GoodIn wsL_stop wsX10_stop := gW_in gwX10_stop (fun _ h => List.mem_cons_of_mem _ (List.mem_append_right _ (List.mem_append_right _ (List.mem_append_right _ (List.mem_append_right _ (List.mem_append_right _ (List.mem_append_right _ (h))))))))
set_option maxRecDepth 20000 in
theorem gL_stop_X10_stop : GoodIn wsL_stop (wsV RL 63 RX10 yX10_stop wsX10_stop) := goodIn_app (goodIn_of _ (by decide +kernel)) ggL_stop_X10_stop
theorem bL_stop_0 : fac cL_stop [(0, .aload_n 3, 1), (1, .iconst 0, 1), (2, .aload_n 0, 1), (3, .iload_n 1, 1), (4, .iload_n 2, 1), (5, .invokevirtual 63, 3), (8, .i2l, 1), (9, .lastore, 1), (10, .goto 7, 3), (13, .astore 4, 2), (15, .iconst 1, 1), (16, .ireturn, 1), (17, .iconst 0, 1), (18, .ireturn, 1)] := fac_all 0 _ (by decide +kernel)
def dL_stop_0 := bL_stop_0.1
def dL_stop_1 := bL_stop_0.2.1
def dL_stop_2 := bL_stop_0.2.2.1
def dL_stop_3 := bL_stop_0.2.2.2.1
def dL_stop_4 := bL_stop_0.2.2.2.2.1
def dL_stop_5 := bL_stop_0.2.2.2.2.2.1
def dL_stop_8 := bL_stop_0.2.2.2.2.2.2.1
def dL_stop_9 := bL_stop_0.2.2.2.2.2.2.2.1
def dL_stop_10 := bL_stop_0.2.2.2.2.2.2.2.2.1
def dL_stop_13 := bL_stop_0.2.2.2.2.2.2.2.2.2.1
def dL_stop_15 := bL_stop_0.2.2.2.2.2.2.2.2.2.2.1
def dL_stop_16 := bL_stop_0.2.2.2.2.2.2.2.2.2.2.2.1
def dL_stop_17 := bL_stop_0.2.2.2.2.2.2.2.2.2.2.2.2.1
def dL_stop_18 := bL_stop_0.2.2.2.2.2.2.2.2.2.2.2.2.2.1
theorem ggL_odds_X10_odds : GoodIn wsL_odds wsX10_odds := gW_in gwX10_odds (fun _ h => List.mem_cons_of_mem _ (List.mem_append_right _ (List.mem_append_right _ (List.mem_append_right _ (List.mem_append_right _ (h))))))
set_option maxRecDepth 20000 in
theorem gL_odds_X10_odds : GoodIn wsL_odds (wsV RL 66 RX10 yX10_odds wsX10_odds) := goodIn_app (goodIn_of _ (by decide +kernel)) ggL_odds_X10_odds
theorem bL_odds_0 : fac cL_odds [(0, .aload_n 0, 1), (1, .iload_n 1, 1), (2, .iload_n 2, 1), (3, .invokevirtual 66, 3), (6, .goto 6, 3), (9, .astore_n 3, 1), (10, .iconst 1, 1), (11, .ireturn, 1), (12, .iconst 0, 1), (13, .ireturn, 1)] := fac_all 0 _ (by decide +kernel)
def dL_odds_0 := bL_odds_0.1
def dL_odds_1 := bL_odds_0.2.1
def dL_odds_2 := bL_odds_0.2.2.1
def dL_odds_3 := bL_odds_0.2.2.2.1
def dL_odds_6 := bL_odds_0.2.2.2.2.1
def dL_odds_9 := bL_odds_0.2.2.2.2.2.1
def dL_odds_10 := bL_odds_0.2.2.2.2.2.2.1
def dL_odds_11 := bL_odds_0.2.2.2.2.2.2.2.1
def dL_odds_12 := bL_odds_0.2.2.2.2.2.2.2.2.1
def dL_odds_13 := bL_odds_0.2.2.2.2.2.2.2.2.2.1
theorem ggL_kind_X10_kind : GoodIn wsL_kind wsX10_kind := gW_in gwX10_kind (fun _ h => List.mem_cons_of_mem _ (List.mem_append_right _ (List.mem_append_right _ (List.mem_append_right _ (List.mem_append_right _ (h))))))
set_option maxRecDepth 20000 in
theorem gL_kind_X10_kind : GoodIn wsL_kind (wsV RL 70 RX10 yX10_kind wsX10_kind) := goodIn_app (goodIn_of _ (by decide +kernel)) ggL_kind_X10_kind
theorem bL_kind_0 : fac cL_kind [(0, .aload_n 0, 1), (1, .iload_n 1, 1), (2, .iload_n 2, 1), (3, .iload_n 3, 1), (4, .invokevirtual 70, 3), (7, .goto 7, 3), (10, .astore 4, 2), (12, .iconst 1, 1), (13, .ireturn, 1), (14, .iconst 0, 1), (15, .ireturn, 1)] := fac_all 0 _ (by decide +kernel)
def dL_kind_0 := bL_kind_0.1
def dL_kind_1 := bL_kind_0.2.1
def dL_kind_2 := bL_kind_0.2.2.1
def dL_kind_3 := bL_kind_0.2.2.2.1
def dL_kind_4 := bL_kind_0.2.2.2.2.1
def dL_kind_7 := bL_kind_0.2.2.2.2.2.1
def dL_kind_10 := bL_kind_0.2.2.2.2.2.2.1
def dL_kind_12 := bL_kind_0.2.2.2.2.2.2.2.1
def dL_kind_13 := bL_kind_0.2.2.2.2.2.2.2.2.1
def dL_kind_14 := bL_kind_0.2.2.2.2.2.2.2.2.2.1
def dL_kind_15 := bL_kind_0.2.2.2.2.2.2.2.2.2.2.1
theorem ggL_seen_X10_seen : GoodIn wsL_seen wsX10_seen := gW_in gwX10_seen (fun _ h => List.mem_cons_of_mem _ (List.mem_append_right _ (List.mem_append_right _ (List.mem_append_right _ (List.mem_append_right _ (h))))))
set_option maxRecDepth 20000 in
theorem gL_seen_X10_seen : GoodIn wsL_seen (wsV RL 74 RX10 yX10_seen wsX10_seen) := goodIn_app (goodIn_of _ (by decide +kernel)) ggL_seen_X10_seen
theorem bL_seen_0 : fac cL_seen [(0, .aload_n 2, 1), (1, .iconst 0, 1), (2, .aload_n 0, 1), (3, .iload_n 1, 1), (4, .invokevirtual 74, 3), (7, .i2l, 1), (8, .lastore, 1), (9, .goto 6, 3), (12, .astore_n 3, 1), (13, .iconst 1, 1), (14, .ireturn, 1), (15, .iconst 0, 1), (16, .ireturn, 1)] := fac_all 0 _ (by decide +kernel)
def dL_seen_0 := bL_seen_0.1
def dL_seen_1 := bL_seen_0.2.1
def dL_seen_2 := bL_seen_0.2.2.1
def dL_seen_3 := bL_seen_0.2.2.2.1
def dL_seen_4 := bL_seen_0.2.2.2.2.1
def dL_seen_7 := bL_seen_0.2.2.2.2.2.1
def dL_seen_8 := bL_seen_0.2.2.2.2.2.2.1
def dL_seen_9 := bL_seen_0.2.2.2.2.2.2.2.1
def dL_seen_12 := bL_seen_0.2.2.2.2.2.2.2.2.1
def dL_seen_13 := bL_seen_0.2.2.2.2.2.2.2.2.2.1
def dL_seen_14 := bL_seen_0.2.2.2.2.2.2.2.2.2.2.1
def dL_seen_15 := bL_seen_0.2.2.2.2.2.2.2.2.2.2.2.1
def dL_seen_16 := bL_seen_0.2.2.2.2.2.2.2.2.2.2.2.2.1
theorem ggL_spy_X10_spy : GoodIn wsL_spy wsX10_spy := gW_in gwX10_spy (fun _ h => List.mem_cons_of_mem _ (List.mem_append_right _ (List.mem_append_right _ (List.mem_append_right _ (List.mem_append_right _ (h))))))
set_option maxRecDepth 20000 in
theorem gL_spy_X10_spy : GoodIn wsL_spy (wsV RL 77 RX10 yX10_spy wsX10_spy) := goodIn_app (goodIn_of _ (by decide +kernel)) ggL_spy_X10_spy
theorem bL_spy_0 : fac cL_spy [(0, .aload_n 3, 1), (1, .iconst 0, 1), (2, .aload_n 0, 1), (3, .iload_n 1, 1), (4, .iload_n 2, 1), (5, .invokevirtual 77, 3), (8, .i2l, 1), (9, .lastore, 1), (10, .goto 7, 3), (13, .astore 4, 2), (15, .iconst 1, 1), (16, .ireturn, 1), (17, .iconst 0, 1), (18, .ireturn, 1)] := fac_all 0 _ (by decide +kernel)
def dL_spy_0 := bL_spy_0.1
def dL_spy_1 := bL_spy_0.2.1
def dL_spy_2 := bL_spy_0.2.2.1
def dL_spy_3 := bL_spy_0.2.2.2.1
def dL_spy_4 := bL_spy_0.2.2.2.2.1
def dL_spy_5 := bL_spy_0.2.2.2.2.2.1
def dL_spy_8 := bL_spy_0.2.2.2.2.2.2.1
def dL_spy_9 := bL_spy_0.2.2.2.2.2.2.2.1
def dL_spy_10 := bL_spy_0.2.2.2.2.2.2.2.2.1
def dL_spy_13 := bL_spy_0.2.2.2.2.2.2.2.2.2.1
def dL_spy_15 := bL_spy_0.2.2.2.2.2.2.2.2.2.2.1
def dL_spy_16 := bL_spy_0.2.2.2.2.2.2.2.2.2.2.2.1
def dL_spy_17 := bL_spy_0.2.2.2.2.2.2.2.2.2.2.2.2.1
def dL_spy_18 := bL_spy_0.2.2.2.2.2.2.2.2.2.2.2.2.2.1
theorem ggL_believed_X10_believed : GoodIn wsL_believed wsX10_believed := gW_in gwX10_believed (fun _ h => List.mem_cons_of_mem _ (List.mem_append_right _ (List.mem_append_right _ (List.mem_append_right _ (List.mem_append_right _ (h))))))
set_option maxRecDepth 20000 in
theorem gL_believed_X10_believed : GoodIn wsL_believed (wsV RL 81 RX10 yX10_believed wsX10_believed) := goodIn_app (goodIn_of _ (by decide +kernel)) ggL_believed_X10_believed
theorem bL_believed_0 : fac cL_believed [(0, .aload_n 2, 1), (1, .iconst 0, 1), (2, .aload_n 0, 1), (3, .iload_n 1, 1), (4, .invokevirtual 81, 3), (7, .lastore, 1), (8, .goto 6, 3), (11, .astore_n 3, 1), (12, .iconst 1, 1), (13, .ireturn, 1), (14, .iconst 0, 1), (15, .ireturn, 1)] := fac_all 0 _ (by decide +kernel)
def dL_believed_0 := bL_believed_0.1
def dL_believed_1 := bL_believed_0.2.1
def dL_believed_2 := bL_believed_0.2.2.1
def dL_believed_3 := bL_believed_0.2.2.2.1
def dL_believed_4 := bL_believed_0.2.2.2.2.1
end
section
def dL_believed_7 := bL_believed_0.2.2.2.2.2.1
def dL_believed_8 := bL_believed_0.2.2.2.2.2.2.1
def dL_believed_11 := bL_believed_0.2.2.2.2.2.2.2.1
def dL_believed_12 := bL_believed_0.2.2.2.2.2.2.2.2.1
def dL_believed_13 := bL_believed_0.2.2.2.2.2.2.2.2.2.1
def dL_believed_14 := bL_believed_0.2.2.2.2.2.2.2.2.2.2.1
def dL_believed_15 := bL_believed_0.2.2.2.2.2.2.2.2.2.2.2.1
theorem ggL_earnest_X10_earnest : GoodIn wsL_earnest wsX10_earnest := gW_in gwX10_earnest (fun _ h => List.mem_cons_of_mem _ (List.mem_append_right _ (List.mem_append_right _ (List.mem_append_right _ (List.mem_append_right _ (h))))))
set_option maxRecDepth 20000 in
theorem gL_earnest_X10_earnest : GoodIn wsL_earnest (wsV RL 85 RX10 yX10_earnest wsX10_earnest) := goodIn_app (goodIn_of _ (by decide +kernel)) ggL_earnest_X10_earnest
theorem bL_earnest_0 : fac cL_earnest [(0, .aload 4, 2), (2, .iconst 0, 1), (3, .aload_n 0, 1), (4, .iload_n 1, 1), (5, .iload_n 2, 1), (6, .iload_n 3, 1), (7, .invokevirtual 85, 3), (10, .i2l, 1), (11, .lastore, 1), (12, .goto 7, 3), (15, .astore 5, 2), (17, .iconst 1, 1), (18, .ireturn, 1), (19, .iconst 0, 1), (20, .ireturn, 1)] := fac_all 0 _ (by decide +kernel)
def dL_earnest_0 := bL_earnest_0.1
def dL_earnest_2 := bL_earnest_0.2.1
def dL_earnest_3 := bL_earnest_0.2.2.1
def dL_earnest_4 := bL_earnest_0.2.2.2.1
def dL_earnest_5 := bL_earnest_0.2.2.2.2.1
def dL_earnest_6 := bL_earnest_0.2.2.2.2.2.1
def dL_earnest_7 := bL_earnest_0.2.2.2.2.2.2.1
def dL_earnest_10 := bL_earnest_0.2.2.2.2.2.2.2.1
def dL_earnest_11 := bL_earnest_0.2.2.2.2.2.2.2.2.1
def dL_earnest_12 := bL_earnest_0.2.2.2.2.2.2.2.2.2.1
def dL_earnest_15 := bL_earnest_0.2.2.2.2.2.2.2.2.2.2.1
def dL_earnest_17 := bL_earnest_0.2.2.2.2.2.2.2.2.2.2.2.1
def dL_earnest_18 := bL_earnest_0.2.2.2.2.2.2.2.2.2.2.2.2.1
def dL_earnest_19 := bL_earnest_0.2.2.2.2.2.2.2.2.2.2.2.2.2.1
def dL_earnest_20 := bL_earnest_0.2.2.2.2.2.2.2.2.2.2.2.2.2.2.1
theorem ggL_stands_X10_stands : GoodIn wsL_stands wsX10_stands := gW_in gwX10_stands (fun _ h => List.mem_cons_of_mem _ (List.mem_append_right _ (List.mem_append_right _ (List.mem_append_right _ (List.mem_append_right _ (h))))))
set_option maxRecDepth 20000 in
theorem gL_stands_X10_stands : GoodIn wsL_stands (wsV RL 88 RX10 yX10_stands wsX10_stands) := goodIn_app (goodIn_of _ (by decide +kernel)) ggL_stands_X10_stands
theorem bL_stands_0 : fac cL_stands [(0, .aload_n 3, 1), (1, .iconst 0, 1), (2, .aload_n 0, 1), (3, .iload_n 1, 1), (4, .iload_n 2, 1), (5, .invokevirtual 88, 3), (8, .i2l, 1), (9, .lastore, 1), (10, .goto 7, 3), (13, .astore 4, 2), (15, .iconst 1, 1), (16, .ireturn, 1), (17, .iconst 0, 1), (18, .ireturn, 1)] := fac_all 0 _ (by decide +kernel)
def dL_stands_0 := bL_stands_0.1
def dL_stands_1 := bL_stands_0.2.1
def dL_stands_2 := bL_stands_0.2.2.1
def dL_stands_3 := bL_stands_0.2.2.2.1
def dL_stands_4 := bL_stands_0.2.2.2.2.1
def dL_stands_5 := bL_stands_0.2.2.2.2.2.1
def dL_stands_8 := bL_stands_0.2.2.2.2.2.2.1
def dL_stands_9 := bL_stands_0.2.2.2.2.2.2.2.1
def dL_stands_10 := bL_stands_0.2.2.2.2.2.2.2.2.1
def dL_stands_13 := bL_stands_0.2.2.2.2.2.2.2.2.2.1
def dL_stands_15 := bL_stands_0.2.2.2.2.2.2.2.2.2.2.1
def dL_stands_16 := bL_stands_0.2.2.2.2.2.2.2.2.2.2.2.1
def dL_stands_17 := bL_stands_0.2.2.2.2.2.2.2.2.2.2.2.2.1
def dL_stands_18 := bL_stands_0.2.2.2.2.2.2.2.2.2.2.2.2.2.1
theorem ggL_show_X10_show : GoodIn wsL_show wsX10_show := gW_in gwX10_show (fun _ h => List.mem_cons_of_mem _ (List.mem_append_right _ (List.mem_append_right _ (List.mem_append_right _ (List.mem_append_right _ (h))))))
set_option maxRecDepth 20000 in
theorem gL_show_X10_show : GoodIn wsL_show (wsV RL 91 RX10 yX10_show wsX10_show) := goodIn_app (goodIn_of _ (by decide +kernel)) ggL_show_X10_show
theorem bL_show_0 : fac cL_show [(0, .aload_n 3, 1), (1, .iconst 0, 1), (2, .aload_n 0, 1), (3, .iload_n 1, 1), (4, .iload_n 2, 1), (5, .invokevirtual 91, 3), (8, .i2l, 1), (9, .lastore, 1), (10, .goto 7, 3), (13, .astore 4, 2), (15, .iconst 1, 1), (16, .ireturn, 1), (17, .iconst 0, 1), (18, .ireturn, 1)] := fac_all 0 _ (by decide +kernel)
def dL_show_0 := bL_show_0.1
def dL_show_1 := bL_show_0.2.1
def dL_show_2 := bL_show_0.2.2.1
def dL_show_3 := bL_show_0.2.2.2.1
def dL_show_4 := bL_show_0.2.2.2.2.1
def dL_show_5 := bL_show_0.2.2.2.2.2.1
def dL_show_8 := bL_show_0.2.2.2.2.2.2.1
def dL_show_9 := bL_show_0.2.2.2.2.2.2.2.1
def dL_show_10 := bL_show_0.2.2.2.2.2.2.2.2.1
def dL_show_13 := bL_show_0.2.2.2.2.2.2.2.2.2.1
def dL_show_15 := bL_show_0.2.2.2.2.2.2.2.2.2.2.1
def dL_show_16 := bL_show_0.2.2.2.2.2.2.2.2.2.2.2.1
def dL_show_17 := bL_show_0.2.2.2.2.2.2.2.2.2.2.2.2.1
def dL_show_18 := bL_show_0.2.2.2.2.2.2.2.2.2.2.2.2.2.1
theorem ggL_offers_X10_offers : GoodIn wsL_offers wsX10_offers := gW_in gwX10_offers (fun _ h => List.mem_cons_of_mem _ (List.mem_append_right _ (List.mem_append_right _ (List.mem_append_right _ (List.mem_append_right _ (h))))))
set_option maxRecDepth 20000 in
theorem gL_offers_X10_offers : GoodIn wsL_offers (wsV RL 94 RX10 yX10_offers wsX10_offers) := goodIn_app (goodIn_of _ (by decide +kernel)) ggL_offers_X10_offers
theorem bL_offers_0 : fac cL_offers [(0, .aload 4, 2), (2, .iconst 0, 1), (3, .aload_n 0, 1), (4, .iload_n 1, 1), (5, .iload_n 2, 1), (6, .iload_n 3, 1), (7, .invokevirtual 94, 3), (10, .i2l, 1), (11, .lastore, 1), (12, .goto 7, 3), (15, .astore 5, 2), (17, .iconst 1, 1), (18, .ireturn, 1), (19, .iconst 0, 1), (20, .ireturn, 1)] := fac_all 0 _ (by decide +kernel)
def dL_offers_0 := bL_offers_0.1
def dL_offers_2 := bL_offers_0.2.1
def dL_offers_3 := bL_offers_0.2.2.1
def dL_offers_4 := bL_offers_0.2.2.2.1
def dL_offers_5 := bL_offers_0.2.2.2.2.1
def dL_offers_6 := bL_offers_0.2.2.2.2.2.1
def dL_offers_7 := bL_offers_0.2.2.2.2.2.2.1
def dL_offers_10 := bL_offers_0.2.2.2.2.2.2.2.1
def dL_offers_11 := bL_offers_0.2.2.2.2.2.2.2.2.1
def dL_offers_12 := bL_offers_0.2.2.2.2.2.2.2.2.2.1
def dL_offers_15 := bL_offers_0.2.2.2.2.2.2.2.2.2.2.1
def dL_offers_17 := bL_offers_0.2.2.2.2.2.2.2.2.2.2.2.1
def dL_offers_18 := bL_offers_0.2.2.2.2.2.2.2.2.2.2.2.2.1
def dL_offers_19 := bL_offers_0.2.2.2.2.2.2.2.2.2.2.2.2.2.1
def dL_offers_20 := bL_offers_0.2.2.2.2.2.2.2.2.2.2.2.2.2.2.1
theorem ggL_serves_X10_serves : GoodIn wsL_serves wsX10_serves := gW_in gwX10_serves (fun _ h => List.mem_cons_of_mem _ (List.mem_append_right _ (List.mem_append_right _ (List.mem_append_right _ (List.mem_append_right _ (h))))))
set_option maxRecDepth 20000 in
theorem gL_serves_X10_serves : GoodIn wsL_serves (wsV RL 97 RX10 yX10_serves wsX10_serves) := goodIn_app (goodIn_of _ (by decide +kernel)) ggL_serves_X10_serves
theorem bL_serves_0 : fac cL_serves [(0, .aload_n 2, 1), (1, .iconst 0, 1), (2, .aload_n 0, 1), (3, .iload_n 1, 1), (4, .invokevirtual 97, 3), (7, .i2l, 1), (8, .lastore, 1), (9, .goto 6, 3), (12, .astore_n 3, 1), (13, .iconst 1, 1), (14, .ireturn, 1), (15, .iconst 0, 1), (16, .ireturn, 1)] := fac_all 0 _ (by decide +kernel)
def dL_serves_0 := bL_serves_0.1
def dL_serves_1 := bL_serves_0.2.1
def dL_serves_2 := bL_serves_0.2.2.1
def dL_serves_3 := bL_serves_0.2.2.2.1
def dL_serves_4 := bL_serves_0.2.2.2.2.1
def dL_serves_7 := bL_serves_0.2.2.2.2.2.1
def dL_serves_8 := bL_serves_0.2.2.2.2.2.2.1
def dL_serves_9 := bL_serves_0.2.2.2.2.2.2.2.1
def dL_serves_12 := bL_serves_0.2.2.2.2.2.2.2.2.1
def dL_serves_13 := bL_serves_0.2.2.2.2.2.2.2.2.2.1
def dL_serves_14 := bL_serves_0.2.2.2.2.2.2.2.2.2.2.1
def dL_serves_15 := bL_serves_0.2.2.2.2.2.2.2.2.2.2.2.1
def dL_serves_16 := bL_serves_0.2.2.2.2.2.2.2.2.2.2.2.2.1
theorem ggL_law_X10_init : GoodIn wsL_law wsX10_init := gW_in gwX10_init (fun _ h => List.mem_append_right _ (List.mem_append_right _ (List.mem_append_right _ (List.mem_append_right _ (List.mem_append_right _ (List.mem_append_right _ (List.mem_append_right _ (List.mem_append_right _ (List.mem_append_right _ (List.mem_append_right _ (List.mem_append_right _ (List.mem_append_right _ (List.mem_append_right _ (List.mem_append_right _ (List.mem_append_right _ (List.mem_append_left _ h))))))))))))))))
set_option maxRecDepth 20000 in
theorem gL_law_X10_init : GoodIn wsL_law (wsX10_init) := ggL_law_X10_init
theorem ggL_law_X11_init : GoodIn wsL_law wsX11_init := gW_in gwX11_init (fun _ h => List.mem_append_right _ (List.mem_append_right _ (List.mem_append_right _ (List.mem_append_right _ (List.mem_append_right _ (List.mem_append_right _ (List.mem_append_right _ (List.mem_append_right _ (List.mem_append_right _ (List.mem_append_right _ (List.mem_append_right _ (List.mem_append_right _ (List.mem_append_right _ (List.mem_append_right _ (List.mem_append_right _ (List.mem_append_right _ (List.mem_append_left _ h)))))))))))))))))
set_option maxRecDepth 20000 in
theorem gL_law_X11_init : GoodIn wsL_law (wsX11_init) := ggL_law_X11_init
theorem ggL_law_X10_feed : GoodIn wsL_law wsX10_feed := gW_in gwX10_feed (fun _ h => List.mem_append_right _ (List.mem_append_right _ (List.mem_append_right _ (List.mem_append_right _ (List.mem_append_right _ (List.mem_append_right _ (List.mem_append_right _ (List.mem_append_right _ (List.mem_append_right _ (List.mem_append_right _ (List.mem_append_right _ (List.mem_append_right _ (List.mem_append_right _ (List.mem_append_right _ (List.mem_append_right _ (List.mem_append_right _ (List.mem_append_right _ (List.mem_append_left _ h))))))))))))))))))
set_option maxRecDepth 20000 in
theorem gL_law_X10_feed : GoodIn wsL_law (wsV RL 104 RX10 yX10_feed wsX10_feed) := goodIn_app (goodIn_of _ (by decide +kernel)) ggL_law_X10_feed
theorem ggL_law_X11_feed : GoodIn wsL_law wsX11_feed := gW_in gwX11_feed (fun _ h => List.mem_append_right _ (List.mem_append_right _ (List.mem_append_right _ (List.mem_append_right _ (List.mem_append_right _ (List.mem_append_right _ (List.mem_append_right _ (List.mem_append_right _ (List.mem_append_right _ (List.mem_append_right _ (List.mem_append_right _ (List.mem_append_right _ (List.mem_append_right _ (List.mem_append_right _ (List.mem_append_right _ (List.mem_append_right _ (List.mem_append_right _ (List.mem_append_right _ (List.mem_append_left _ h)))))))))))))))))))
set_option maxRecDepth 20000 in
theorem gL_law_X11_feed : GoodIn wsL_law (wsV RL 108 RX11 yX11_feed wsX11_feed) := goodIn_app (goodIn_of _ (by decide +kernel)) ggL_law_X11_feed
theorem ggL_law_L_siege : GoodIn wsL_law wsL_siege := gW_in gwL_siege (fun _ h => List.mem_append_right _ (List.mem_append_right _ (List.mem_append_right _ (List.mem_append_right _ (List.mem_append_right _ (List.mem_append_right _ (List.mem_append_right _ (List.mem_append_right _ (List.mem_append_right _ (List.mem_append_right _ (List.mem_append_right _ (List.mem_append_right _ (List.mem_append_right _ (List.mem_append_right _ (List.mem_append_right _ (List.mem_append_right _ (List.mem_append_right _ (List.mem_append_right _ (List.mem_append_right _ (List.mem_append_left _ h))))))))))))))))))))
set_option maxRecDepth 20000 in
theorem gL_law_L_siege : GoodIn wsL_law (va_wsS RL 109 yL_siege wsL_siege) := goodIn_app (goodIn_of _ (by decide +kernel)) ggL_law_L_siege
theorem ggL_law_X11_siege : GoodIn wsL_law wsX11_siege := gW_in gwX11_siege (fun _ h => List.mem_append_right _ (List.mem_append_right _ (List.mem_append_right _ (List.mem_append_right _ (List.mem_append_right _ (List.mem_append_right _ (List.mem_append_right _ (List.mem_append_right _ (List.mem_append_right _ (List.mem_append_right _ (List.mem_append_right _ (List.mem_append_right _ (List.mem_append_right _ (List.mem_append_right _ (List.mem_append_right _ (List.mem_append_right _ (List.mem_append_right _ (List.mem_append_right _ (List.mem_append_right _ (List.mem_append_right _ (List.mem_append_left _ h)))))))))))))))))))))
set_option maxRecDepth 20000 in
theorem gL_law_X11_siege : GoodIn wsL_law (wsV RL 114 RX11 yX11_siege wsX11_siege) := goodIn_app (goodIn_of _ (by decide +kernel)) ggL_law_X11_siege
theorem ggL_law_L_contract : GoodIn wsL_law wsL_contract := gW_in gwL_contract (fun _ h => List.mem_append_right _ (List.mem_append_right _ (List.mem_append_right _ (List.mem_append_right _ (List.mem_append_right _ (List.mem_append_right _ (List.mem_append_right _ (List.mem_append_right _ (List.mem_append_right _ (List.mem_append_right _ (List.mem_append_right _ (List.mem_append_right _ (List.mem_append_right _ (List.mem_append_right _ (List.mem_append_right _ (List.mem_append_right _ (List.mem_append_right _ (List.mem_append_right _ (List.mem_append_right _ (List.mem_append_right _ (List.mem_append_right _ (List.mem_append_left _ h))))))))))))))))))))))
set_option maxRecDepth 20000 in
theorem gL_law_L_contract : GoodIn wsL_law (va_wsS RL 115 yL_contract wsL_contract) := goodIn_app (goodIn_of _ (by decide +kernel)) ggL_law_L_contract
theorem ggL_law_X11_contract : GoodIn wsL_law wsX11_contract := gW_in gwX11_contract (fun _ h => List.mem_append_right _ (List.mem_append_right _ (List.mem_append_right _ (List.mem_append_right _ (List.mem_append_right _ (List.mem_append_right _ (List.mem_append_right _ (List.mem_append_right _ (List.mem_append_right _ (List.mem_append_right _ (List.mem_append_right _ (List.mem_append_right _ (List.mem_append_right _ (List.mem_append_right _ (List.mem_append_right _ (List.mem_append_right _ (List.mem_append_right _ (List.mem_append_right _ (List.mem_append_right _ (List.mem_append_right _ (List.mem_append_right _ (List.mem_append_right _ (List.mem_append_left _ h)))))))))))))))))))))))
set_option maxRecDepth 20000 in
theorem gL_law_X11_contract : GoodIn wsL_law (wsV RL 117 RX11 yX11_contract wsX11_contract) := goodIn_app (goodIn_of _ (by decide +kernel)) ggL_law_X11_contract
theorem ggL_law_X10_fault : GoodIn wsL_law wsX10_fault := gW_in gwX10_fault (fun _ h => List.mem_append_right _ (List.mem_append_right _ (List.mem_append_right _ (List.mem_append_right _ (List.mem_append_right _ (List.mem_append_right _ (List.mem_append_right _ (List.mem_append_right _ (List.mem_append_right _ (List.mem_append_right _ (List.mem_append_right _ (List.mem_append_right _ (List.mem_append_right _ (List.mem_append_right _ (List.mem_append_right _ (List.mem_append_right _ (List.mem_append_right _ (List.mem_append_right _ (List.mem_append_right _ (List.mem_append_right _ (List.mem_append_right _ (List.mem_append_right _ (List.mem_append_right _ (List.mem_append_left _ h))))))))))))))))))))))))
set_option maxRecDepth 20000 in
theorem gL_law_X10_fault : GoodIn wsL_law (wsV RL 118 RX10 yX10_fault wsX10_fault) := goodIn_app (goodIn_of _ (by decide +kernel)) ggL_law_X10_fault
theorem ggL_law_X11_fault : GoodIn wsL_law wsX11_fault := gW_in gwX11_fault (fun _ h => List.mem_append_right _ (List.mem_append_right _ (List.mem_append_right _ (List.mem_append_right _ (List.mem_append_right _ (List.mem_append_right _ (List.mem_append_right _ (List.mem_append_right _ (List.mem_append_right _ (List.mem_append_right _ (List.mem_append_right _ (List.mem_append_right _ (List.mem_append_right _ (List.mem_append_right _ (List.mem_append_right _ (List.mem_append_right _ (List.mem_append_right _ (List.mem_append_right _ (List.mem_append_right _ (List.mem_append_right _ (List.mem_append_right _ (List.mem_append_right _ (List.mem_append_right _ (List.mem_append_right _ (List.mem_append_left _ h)))))))))))))))))))))))))
set_option maxRecDepth 20000 in
theorem gL_law_X11_fault : GoodIn wsL_law (wsV RL 122 RX11 yX11_fault wsX11_fault) := goodIn_app (goodIn_of _ (by decide +kernel)) ggL_law_X11_fault
theorem ggL_law_L_told : GoodIn wsL_law wsL_told := gW_in gwL_told (fun _ h => List.mem_append_right _ (List.mem_append_right _ (List.mem_append_right _ (List.mem_append_right _ (List.mem_append_right _ (List.mem_append_right _ (List.mem_append_right _ (List.mem_append_right _ (List.mem_append_right _ (List.mem_append_right _ (List.mem_append_right _ (List.mem_append_right _ (List.mem_append_right _ (List.mem_append_right _ (List.mem_append_right _ (List.mem_append_right _ (List.mem_append_right _ (List.mem_append_right _ (List.mem_append_right _ (List.mem_append_right _ (List.mem_append_right _ (List.mem_append_right _ (List.mem_append_right _ (List.mem_append_right _ (List.mem_append_right _ (List.mem_append_left _ h))))))))))))))))))))))))))
set_option maxRecDepth 20000 in
theorem gL_law_L_told : GoodIn wsL_law (va_wsS RL 123 yL_told wsL_told) := goodIn_app (goodIn_of _ (by decide +kernel)) ggL_law_L_told
theorem ggL_law_X11_told : GoodIn wsL_law wsX11_told := gW_in gwX11_told (fun _ h => List.mem_append_right _ (List.mem_append_right _ (List.mem_append_right _ (List.mem_append_right _ (List.mem_append_right _ (List.mem_append_right _ (List.mem_append_right _ (List.mem_append_right _ (List.mem_append_right _ (List.mem_append_right _ (List.mem_append_right _ (List.mem_append_right _ (List.mem_append_right _ (List.mem_append_right _ (List.mem_append_right _ (List.mem_append_right _ (List.mem_append_right _ (List.mem_append_right _ (List.mem_append_right _ (List.mem_append_right _ (List.mem_append_right _ (List.mem_append_right _ (List.mem_append_right _ (List.mem_append_right _ (List.mem_append_right _ (List.mem_append_right _ (List.mem_append_left _ h)))))))))))))))))))))))))))
set_option maxRecDepth 20000 in
theorem gL_law_X11_told : GoodIn wsL_law (wsV RL 125 RX11 yX11_told wsX11_told) := goodIn_app (goodIn_of _ (by decide +kernel)) ggL_law_X11_told
theorem ggL_law_L_wall : GoodIn wsL_law wsL_wall := gW_in gwL_wall (fun _ h => List.mem_append_right _ (List.mem_append_right _ (List.mem_append_right _ (List.mem_append_right _ (List.mem_append_right _ (List.mem_append_right _ (List.mem_append_right _ (List.mem_append_right _ (List.mem_append_right _ (List.mem_append_right _ (List.mem_append_right _ (List.mem_append_right _ (List.mem_append_right _ (List.mem_append_right _ (List.mem_append_right _ (List.mem_append_right _ (List.mem_append_right _ (List.mem_append_right _ (List.mem_append_right _ (List.mem_append_right _ (List.mem_append_right _ (List.mem_append_right _ (List.mem_append_right _ (List.mem_append_right _ (List.mem_append_right _ (List.mem_append_right _ (List.mem_append_right _ (List.mem_append_left _ h))))))))))))))))))))))))))))
set_option maxRecDepth 20000 in
theorem gL_law_L_wall : GoodIn wsL_law (va_wsS RL 126 yL_wall wsL_wall) := goodIn_app (goodIn_of _ (by decide +kernel)) ggL_law_L_wall
theorem ggL_law_X11_wall : GoodIn wsL_law wsX11_wall := gW_in gwX11_wall (fun _ h => List.mem_append_right _ (List.mem_append_right _ (List.mem_append_right _ (List.mem_append_right _ (List.mem_append_right _ (List.mem_append_right _ (List.mem_append_right _ (List.mem_append_right _ (List.mem_append_right _ (List.mem_append_right _ (List.mem_append_right _ (List.mem_append_right _ (List.mem_append_right _ (List.mem_append_right _ (List.mem_append_right _ (List.mem_append_right _ (List.mem_append_right _ (List.mem_append_right _ (List.mem_append_right _ (List.mem_append_right _ (List.mem_append_right _ (List.mem_append_right _ (List.mem_append_right _ (List.mem_append_right _ (List.mem_append_right _ (List.mem_append_right _ (List.mem_append_right _ (List.mem_append_right _ (List.mem_append_left _ h)))))))))))))))))))))))))))))
set_option maxRecDepth 20000 in
theorem gL_law_X11_wall : GoodIn wsL_law (wsV RL 129 RX11 yX11_wall wsX11_wall) := goodIn_app (goodIn_of _ (by decide +kernel)) ggL_law_X11_wall
theorem ggL_law_L_rule : GoodIn wsL_law wsL_rule := gW_in gwL_rule (fun _ h => List.mem_append_right _ (List.mem_append_right _ (List.mem_append_right _ (List.mem_append_right _ (List.mem_append_right _ (List.mem_append_right _ (List.mem_append_right _ (List.mem_append_right _ (List.mem_append_right _ (List.mem_append_right _ (List.mem_append_right _ (List.mem_append_right _ (List.mem_append_right _ (List.mem_append_right _ (List.mem_append_right _ (List.mem_append_right _ (List.mem_append_right _ (List.mem_append_right _ (List.mem_append_right _ (List.mem_append_right _ (List.mem_append_right _ (List.mem_append_right _ (List.mem_append_right _ (List.mem_append_right _ (List.mem_append_right _ (List.mem_append_right _ (List.mem_append_right _ (List.mem_append_right _ (List.mem_append_right _ (List.mem_append_left _ h))))))))))))))))))))))))))))))
set_option maxRecDepth 20000 in
theorem gL_law_L_rule : GoodIn wsL_law (va_wsS RL 130 yL_rule wsL_rule) := goodIn_app (goodIn_of _ (by decide +kernel)) ggL_law_L_rule
theorem ggL_law_X11_rule : GoodIn wsL_law wsX11_rule := gW_in gwX11_rule (fun _ h => List.mem_append_right _ (List.mem_append_right _ (List.mem_append_right _ (List.mem_append_right _ (List.mem_append_right _ (List.mem_append_right _ (List.mem_append_right _ (List.mem_append_right _ (List.mem_append_right _ (List.mem_append_right _ (List.mem_append_right _ (List.mem_append_right _ (List.mem_append_right _ (List.mem_append_right _ (List.mem_append_right _ (List.mem_append_right _ (List.mem_append_right _ (List.mem_append_right _ (List.mem_append_right _ (List.mem_append_right _ (List.mem_append_right _ (List.mem_append_right _ (List.mem_append_right _ (List.mem_append_right _ (List.mem_append_right _ (List.mem_append_right _ (List.mem_append_right _ (List.mem_append_right _ (List.mem_append_right _ (List.mem_append_right _ (List.mem_append_left _ h)))))))))))))))))))))))))))))))
set_option maxRecDepth 20000 in
theorem gL_law_X11_rule : GoodIn wsL_law (wsV RL 132 RX11 yX11_rule wsX11_rule) := goodIn_app (goodIn_of _ (by decide +kernel)) ggL_law_X11_rule
theorem ggL_law_L_wants : GoodIn wsL_law wsL_wants := gW_in gwL_wants (fun _ h => List.mem_append_right _ (List.mem_append_right _ (List.mem_append_right _ (List.mem_append_right _ (List.mem_append_right _ (List.mem_append_right _ (List.mem_append_right _ (List.mem_append_right _ (List.mem_append_right _ (List.mem_append_right _ (List.mem_append_right _ (List.mem_append_right _ (List.mem_append_right _ (List.mem_append_right _ (List.mem_append_right _ (List.mem_append_right _ (List.mem_append_right _ (List.mem_append_right _ (List.mem_append_right _ (List.mem_append_right _ (List.mem_append_right _ (List.mem_append_right _ (List.mem_append_right _ (List.mem_append_right _ (List.mem_append_right _ (List.mem_append_right _ (List.mem_append_right _ (List.mem_append_right _ (List.mem_append_right _ (List.mem_append_right _ (List.mem_append_right _ (List.mem_append_left _ h))))))))))))))))))))))))))))))))
set_option maxRecDepth 20000 in
theorem gL_law_L_wants : GoodIn wsL_law (va_wsS RL 133 yL_wants wsL_wants) := goodIn_app (goodIn_of _ (by decide +kernel)) ggL_law_L_wants
theorem ggL_law_X11_wants : GoodIn wsL_law wsX11_wants := gW_in gwX11_wants (fun _ h => List.mem_append_right _ (List.mem_append_right _ (List.mem_append_right _ (List.mem_append_right _ (List.mem_append_right _ (List.mem_append_right _ (List.mem_append_right _ (List.mem_append_right _ (List.mem_append_right _ (List.mem_append_right _ (List.mem_append_right _ (List.mem_append_right _ (List.mem_append_right _ (List.mem_append_right _ (List.mem_append_right _ (List.mem_append_right _ (List.mem_append_right _ (List.mem_append_right _ (List.mem_append_right _ (List.mem_append_right _ (List.mem_append_right _ (List.mem_append_right _ (List.mem_append_right _ (List.mem_append_right _ (List.mem_append_right _ (List.mem_append_right _ (List.mem_append_right _ (List.mem_append_right _ (List.mem_append_right _ (List.mem_append_right _ (List.mem_append_right _ (List.mem_append_right _ (List.mem_append_left _ h)))))))))))))))))))))))))))))))))
set_option maxRecDepth 20000 in
theorem gL_law_X11_wants : GoodIn wsL_law (wsV RL 135 RX11 yX11_wants wsX11_wants) := goodIn_app (goodIn_of _ (by decide +kernel)) ggL_law_X11_wants
theorem ggL_law_L_sign : GoodIn wsL_law wsL_sign := gW_in gwL_sign (fun _ h => List.mem_append_right _ (List.mem_append_right _ (List.mem_append_right _ (List.mem_append_right _ (List.mem_append_right _ (List.mem_append_right _ (List.mem_append_right _ (List.mem_append_right _ (List.mem_append_right _ (List.mem_append_right _ (List.mem_append_right _ (List.mem_append_right _ (List.mem_append_right _ (List.mem_append_right _ (List.mem_append_right _ (List.mem_append_right _ (List.mem_append_right _ (List.mem_append_right _ (List.mem_append_right _ (List.mem_append_right _ (List.mem_append_right _ (List.mem_append_right _ (List.mem_append_right _ (List.mem_append_right _ (List.mem_append_right _ (List.mem_append_right _ (List.mem_append_right _ (List.mem_append_right _ (List.mem_append_right _ (List.mem_append_right _ (List.mem_append_right _ (List.mem_append_right _ (List.mem_append_right _ (List.mem_append_left _ h))))))))))))))))))))))))))))))))))
set_option maxRecDepth 20000 in
theorem gL_law_L_sign : GoodIn wsL_law (va_wsS RL 136 yL_sign wsL_sign) := goodIn_app (goodIn_of _ (by decide +kernel)) ggL_law_L_sign
theorem ggL_law_X11_sign : GoodIn wsL_law wsX11_sign := gW_in gwX11_sign (fun _ h => List.mem_append_right _ (List.mem_append_right _ (List.mem_append_right _ (List.mem_append_right _ (List.mem_append_right _ (List.mem_append_right _ (List.mem_append_right _ (List.mem_append_right _ (List.mem_append_right _ (List.mem_append_right _ (List.mem_append_right _ (List.mem_append_right _ (List.mem_append_right _ (List.mem_append_right _ (List.mem_append_right _ (List.mem_append_right _ (List.mem_append_right _ (List.mem_append_right _ (List.mem_append_right _ (List.mem_append_right _ (List.mem_append_right _ (List.mem_append_right _ (List.mem_append_right _ (List.mem_append_right _ (List.mem_append_right _ (List.mem_append_right _ (List.mem_append_right _ (List.mem_append_right _ (List.mem_append_right _ (List.mem_append_right _ (List.mem_append_right _ (List.mem_append_right _ (List.mem_append_right _ (List.mem_append_right _ (List.mem_append_left _ h)))))))))))))))))))))))))))))))))))
set_option maxRecDepth 20000 in
theorem gL_law_X11_sign : GoodIn wsL_law (wsV RL 138 RX11 yX11_sign wsX11_sign) := goodIn_app (goodIn_of _ (by decide +kernel)) ggL_law_X11_sign
theorem ggL_law_L_months : GoodIn wsL_law wsL_months := gW_in gwL_months (fun _ h => List.mem_append_right _ (List.mem_append_right _ (List.mem_append_right _ (List.mem_append_right _ (List.mem_append_right _ (List.mem_append_right _ (List.mem_append_right _ (List.mem_append_right _ (List.mem_append_right _ (List.mem_append_right _ (List.mem_append_right _ (List.mem_append_right _ (List.mem_append_right _ (List.mem_append_right _ (List.mem_append_right _ (List.mem_append_right _ (List.mem_append_right _ (List.mem_append_right _ (List.mem_append_right _ (List.mem_append_right _ (List.mem_append_right _ (List.mem_append_right _ (List.mem_append_right _ (List.mem_append_right _ (List.mem_append_right _ (List.mem_append_right _ (List.mem_append_right _ (List.mem_append_right _ (List.mem_append_right _ (List.mem_append_right _ (List.mem_append_right _ (List.mem_append_right _ (List.mem_append_right _ (List.mem_append_right _ (List.mem_append_right _ (List.mem_append_left _ h))))))))))))))))))))))))))))))))))))
set_option maxRecDepth 20000 in
theorem gL_law_L_months : GoodIn wsL_law (va_wsS RL 139 yL_months wsL_months) := goodIn_app (goodIn_of _ (by decide +kernel)) ggL_law_L_months
theorem ggL_law_X11_months : GoodIn wsL_law wsX11_months := gW_in gwX11_months (fun _ h => List.mem_append_right _ (List.mem_append_right _ (List.mem_append_right _ (List.mem_append_right _ (List.mem_append_right _ (List.mem_append_right _ (List.mem_append_right _ (List.mem_append_right _ (List.mem_append_right _ (List.mem_append_right _ (List.mem_append_right _ (List.mem_append_right _ (List.mem_append_right _ (List.mem_append_right _ (List.mem_append_right _ (List.mem_append_right _ (List.mem_append_right _ (List.mem_append_right _ (List.mem_append_right _ (List.mem_append_right _ (List.mem_append_right _ (List.mem_append_right _ (List.mem_append_right _ (List.mem_append_right _ (List.mem_append_right _ (List.mem_append_right _ (List.mem_append_right _ (List.mem_append_right _ (List.mem_append_right _ (List.mem_append_right _ (List.mem_append_right _ (List.mem_append_right _ (List.mem_append_right _ (List.mem_append_right _ (List.mem_append_right _ (List.mem_append_right _ (List.mem_append_left _ h)))))))))))))))))))))))))))))))))))))
set_option maxRecDepth 20000 in
theorem gL_law_X11_months : GoodIn wsL_law (wsV RL 141 RX11 yX11_months wsX11_months) := goodIn_app (goodIn_of _ (by decide +kernel)) ggL_law_X11_months
theorem ggL_law_L_undo : GoodIn wsL_law wsL_undo := gW_in gwL_undo (fun _ h => List.mem_append_right _ (List.mem_append_right _ (List.mem_append_right _ (List.mem_append_right _ (List.mem_append_right _ (List.mem_append_right _ (List.mem_append_right _ (List.mem_append_right _ (List.mem_append_right _ (List.mem_append_right _ (List.mem_append_right _ (List.mem_append_right _ (List.mem_append_right _ (List.mem_append_right _ (List.mem_append_right _ (List.mem_append_right _ (List.mem_append_right _ (List.mem_append_right _ (List.mem_append_right _ (List.mem_append_right _ (List.mem_append_right _ (List.mem_append_right _ (List.mem_append_right _ (List.mem_append_right _ (List.mem_append_right _ (List.mem_append_right _ (List.mem_append_right _ (List.mem_append_right _ (List.mem_append_right _ (List.mem_append_right _ (List.mem_append_right _ (List.mem_append_right _ (List.mem_append_right _ (List.mem_append_right _ (List.mem_append_right _ (List.mem_append_right _ (List.mem_append_right _ (List.mem_append_left _ h))))))))))))))))))))))))))))))))))))))
set_option maxRecDepth 20000 in
theorem gL_law_L_undo : GoodIn wsL_law (va_wsS RL 142 yL_undo wsL_undo) := goodIn_app (goodIn_of _ (by decide +kernel)) ggL_law_L_undo
theorem ggL_law_X11_undo : GoodIn wsL_law wsX11_undo := gW_in gwX11_undo (fun _ h => List.mem_append_right _ (List.mem_append_right _ (List.mem_append_right _ (List.mem_append_right _ (List.mem_append_right _ (List.mem_append_right _ (List.mem_append_right _ (List.mem_append_right _ (List.mem_append_right _ (List.mem_append_right _ (List.mem_append_right _ (List.mem_append_right _ (List.mem_append_right _ (List.mem_append_right _ (List.mem_append_right _ (List.mem_append_right _ (List.mem_append_right _ (List.mem_append_right _ (List.mem_append_right _ (List.mem_append_right _ (List.mem_append_right _ (List.mem_append_right _ (List.mem_append_right _ (List.mem_append_right _ (List.mem_append_right _ (List.mem_append_right _ (List.mem_append_right _ (List.mem_append_right _ (List.mem_append_right _ (List.mem_append_right _ (List.mem_append_right _ (List.mem_append_right _ (List.mem_append_right _ (List.mem_append_right _ (List.mem_append_right _ (List.mem_append_right _ (List.mem_append_right _ (List.mem_append_right _ (List.mem_append_left _ h)))))))))))))))))))))))))))))))))))))))
set_option maxRecDepth 20000 in
theorem gL_law_X11_undo : GoodIn wsL_law (wsV RL 144 RX11 yX11_undo wsX11_undo) := goodIn_app (goodIn_of _ (by decide +kernel)) ggL_law_X11_undo
theorem ggL_law_L_sums : GoodIn wsL_law wsL_sums := gW_in gwL_sums (fun _ h => List.mem_append_right _ (List.mem_append_right _ (List.mem_append_right _ (List.mem_append_right _ (List.mem_append_right _ (List.mem_append_right _ (List.mem_append_right _ (List.mem_append_right _ (List.mem_append_right _ (List.mem_append_right _ (List.mem_append_right _ (List.mem_append_right _ (List.mem_append_right _ (List.mem_append_right _ (List.mem_append_right _ (List.mem_append_right _ (List.mem_append_right _ (List.mem_append_right _ (List.mem_append_right _ (List.mem_append_right _ (List.mem_append_right _ (List.mem_append_right _ (List.mem_append_right _ (List.mem_append_right _ (List.mem_append_right _ (List.mem_append_right _ (List.mem_append_right _ (List.mem_append_right _ (List.mem_append_right _ (List.mem_append_right _ (List.mem_append_right _ (List.mem_append_right _ (List.mem_append_right _ (List.mem_append_right _ (List.mem_append_right _ (List.mem_append_right _ (List.mem_append_right _ (List.mem_append_right _ (List.mem_append_right _ (List.mem_append_left _ h))))))))))))))))))))))))))))))))))))))))
set_option maxRecDepth 20000 in
theorem gL_law_L_sums : GoodIn wsL_law (va_wsS RL 145 yL_sums wsL_sums) := goodIn_app (goodIn_of _ (by decide +kernel)) ggL_law_L_sums
theorem ggL_law_X11_sums : GoodIn wsL_law wsX11_sums := gW_in gwX11_sums (fun _ h => List.mem_append_right _ (List.mem_append_right _ (List.mem_append_right _ (List.mem_append_right _ (List.mem_append_right _ (List.mem_append_right _ (List.mem_append_right _ (List.mem_append_right _ (List.mem_append_right _ (List.mem_append_right _ (List.mem_append_right _ (List.mem_append_right _ (List.mem_append_right _ (List.mem_append_right _ (List.mem_append_right _ (List.mem_append_right _ (List.mem_append_right _ (List.mem_append_right _ (List.mem_append_right _ (List.mem_append_right _ (List.mem_append_right _ (List.mem_append_right _ (List.mem_append_right _ (List.mem_append_right _ (List.mem_append_right _ (List.mem_append_right _ (List.mem_append_right _ (List.mem_append_right _ (List.mem_append_right _ (List.mem_append_right _ (List.mem_append_right _ (List.mem_append_right _ (List.mem_append_right _ (List.mem_append_right _ (List.mem_append_right _ (List.mem_append_right _ (List.mem_append_right _ (List.mem_append_right _ (List.mem_append_right _ (List.mem_append_right _ (List.mem_append_left _ h)))))))))))))))))))))))))))))))))))))))))
set_option maxRecDepth 20000 in
theorem gL_law_X11_sums : GoodIn wsL_law (wsV RL 147 RX11 yX11_sums wsX11_sums) := goodIn_app (goodIn_of _ (by decide +kernel)) ggL_law_X11_sums
theorem ggL_law_L_corks : GoodIn wsL_law wsL_corks := gW_in gwL_corks (fun _ h => List.mem_append_right _ (List.mem_append_right _ (List.mem_append_right _ (List.mem_append_right _ (List.mem_append_right _ (List.mem_append_right _ (List.mem_append_right _ (List.mem_append_right _ (List.mem_append_right _ (List.mem_append_right _ (List.mem_append_right _ (List.mem_append_right _ (List.mem_append_right _ (List.mem_append_right _ (List.mem_append_right _ (List.mem_append_right _ (List.mem_append_right _ (List.mem_append_right _ (List.mem_append_right _ (List.mem_append_right _ (List.mem_append_right _ (List.mem_append_right _ (List.mem_append_right _ (List.mem_append_right _ (List.mem_append_right _ (List.mem_append_right _ (List.mem_append_right _ (List.mem_append_right _ (List.mem_append_right _ (List.mem_append_right _ (List.mem_append_right _ (List.mem_append_right _ (List.mem_append_right _ (List.mem_append_right _ (List.mem_append_right _ (List.mem_append_right _ (List.mem_append_right _ (List.mem_append_right _ (List.mem_append_right _ (List.mem_append_right _ (List.mem_append_right _ (List.mem_append_left _ h))))))))))))))))))))))))))))))))))))))))))
set_option maxRecDepth 20000 in
theorem gL_law_L_corks : GoodIn wsL_law (va_wsS RL 148 yL_corks wsL_corks) := goodIn_app (goodIn_of _ (by decide +kernel)) ggL_law_L_corks
theorem ggL_law_X11_corks : GoodIn wsL_law wsX11_corks := gW_in gwX11_corks (fun _ h => List.mem_append_right _ (List.mem_append_right _ (List.mem_append_right _ (List.mem_append_right _ (List.mem_append_right _ (List.mem_append_right _ (List.mem_append_right _ (List.mem_append_right _ (List.mem_append_right _ (List.mem_append_right _ (List.mem_append_right _ (List.mem_append_right _ (List.mem_append_right _ (List.mem_append_right _ (List.mem_append_right _ (List.mem_append_right _ (List.mem_append_right _ (List.mem_append_right _ (List.mem_append_right _ (List.mem_append_right _ (List.mem_append_right _ (List.mem_append_right _ (List.mem_append_right _ (List.mem_append_right _ (List.mem_append_right _ (List.mem_append_right _ (List.mem_append_right _ (List.mem_append_right _ (List.mem_append_right _ (List.mem_append_right _ (List.mem_append_right _ (List.mem_append_right _ (List.mem_append_right _ (List.mem_append_right _ (List.mem_append_right _ (List.mem_append_right _ (List.mem_append_right _ (List.mem_append_right _ (List.mem_append_right _ (List.mem_append_right _ (List.mem_append_right _ (List.mem_append_right _ (List.mem_append_left _ h)))))))))))))))))))))))))))))))))))))))))))
set_option maxRecDepth 20000 in
theorem gL_law_X11_corks : GoodIn wsL_law (wsV RL 150 RX11 yX11_corks wsX11_corks) := goodIn_app (goodIn_of _ (by decide +kernel)) ggL_law_X11_corks
theorem ggL_law_L_would : GoodIn wsL_law wsL_would := gW_in gwL_would (fun _ h => List.mem_append_right _ (List.mem_append_right _ (List.mem_append_right _ (List.mem_append_right _ (List.mem_append_right _ (List.mem_append_right _ (List.mem_append_right _ (List.mem_append_right _ (List.mem_append_right _ (List.mem_append_right _ (List.mem_append_right _ (List.mem_append_right _ (List.mem_append_right _ (List.mem_append_right _ (List.mem_append_right _ (List.mem_append_right _ (List.mem_append_right _ (List.mem_append_right _ (List.mem_append_right _ (List.mem_append_right _ (List.mem_append_right _ (List.mem_append_right _ (List.mem_append_right _ (List.mem_append_right _ (List.mem_append_right _ (List.mem_append_right _ (List.mem_append_right _ (List.mem_append_right _ (List.mem_append_right _ (List.mem_append_right _ (List.mem_append_right _ (List.mem_append_right _ (List.mem_append_right _ (List.mem_append_right _ (List.mem_append_right _ (List.mem_append_right _ (List.mem_append_right _ (List.mem_append_right _ (List.mem_append_right _ (List.mem_append_right _ (List.mem_append_right _ (List.mem_append_right _ (List.mem_append_right _ (List.mem_append_left _ h))))))))))))))))))))))))))))))))))))))))))))
set_option maxRecDepth 20000 in
theorem gL_law_L_would : GoodIn wsL_law (va_wsS RL 151 yL_would wsL_would) := goodIn_app (goodIn_of _ (by decide +kernel)) ggL_law_L_would
theorem ggL_law_X11_would : GoodIn wsL_law wsX11_would := gW_in gwX11_would (fun _ h => List.mem_append_right _ (List.mem_append_right _ (List.mem_append_right _ (List.mem_append_right _ (List.mem_append_right _ (List.mem_append_right _ (List.mem_append_right _ (List.mem_append_right _ (List.mem_append_right _ (List.mem_append_right _ (List.mem_append_right _ (List.mem_append_right _ (List.mem_append_right _ (List.mem_append_right _ (List.mem_append_right _ (List.mem_append_right _ (List.mem_append_right _ (List.mem_append_right _ (List.mem_append_right _ (List.mem_append_right _ (List.mem_append_right _ (List.mem_append_right _ (List.mem_append_right _ (List.mem_append_right _ (List.mem_append_right _ (List.mem_append_right _ (List.mem_append_right _ (List.mem_append_right _ (List.mem_append_right _ (List.mem_append_right _ (List.mem_append_right _ (List.mem_append_right _ (List.mem_append_right _ (List.mem_append_right _ (List.mem_append_right _ (List.mem_append_right _ (List.mem_append_right _ (List.mem_append_right _ (List.mem_append_right _ (List.mem_append_right _ (List.mem_append_right _ (List.mem_append_right _ (List.mem_append_right _ (List.mem_append_right _ (List.mem_append_left _ h)))))))))))))))))))))))))))))))))))))))))))))
set_option maxRecDepth 20000 in
theorem gL_law_X11_would : GoodIn wsL_law (wsV RL 154 RX11 yX11_would wsX11_would) := goodIn_app (goodIn_of _ (by decide +kernel)) ggL_law_X11_would
theorem ggL_law_L_best : GoodIn wsL_law wsL_best := gW_in gwL_best (fun _ h => List.mem_append_right _ (List.mem_append_right _ (List.mem_append_right _ (List.mem_append_right _ (List.mem_append_right _ (List.mem_append_right _ (List.mem_append_right _ (List.mem_append_right _ (List.mem_append_right _ (List.mem_append_right _ (List.mem_append_right _ (List.mem_append_right _ (List.mem_append_right _ (List.mem_append_right _ (List.mem_append_right _ (List.mem_append_right _ (List.mem_append_right _ (List.mem_append_right _ (List.mem_append_right _ (List.mem_append_right _ (List.mem_append_right _ (List.mem_append_right _ (List.mem_append_right _ (List.mem_append_right _ (List.mem_append_right _ (List.mem_append_right _ (List.mem_append_right _ (List.mem_append_right _ (List.mem_append_right _ (List.mem_append_right _ (List.mem_append_right _ (List.mem_append_right _ (List.mem_append_right _ (List.mem_append_right _ (List.mem_append_right _ (List.mem_append_right _ (List.mem_append_right _ (List.mem_append_right _ (List.mem_append_right _ (List.mem_append_right _ (List.mem_append_right _ (List.mem_append_right _ (List.mem_append_right _ (List.mem_append_right _ (List.mem_append_right _ (List.mem_append_left _ h))))))))))))))))))))))))))))))))))))))))))))))
set_option maxRecDepth 20000 in
theorem gL_law_L_best : GoodIn wsL_law (va_wsS RL 155 yL_best wsL_best) := goodIn_app (goodIn_of _ (by decide +kernel)) ggL_law_L_best
theorem ggL_law_X11_best : GoodIn wsL_law wsX11_best := gW_in gwX11_best (fun _ h => List.mem_append_right _ (List.mem_append_right _ (List.mem_append_right _ (List.mem_append_right _ (List.mem_append_right _ (List.mem_append_right _ (List.mem_append_right _ (List.mem_append_right _ (List.mem_append_right _ (List.mem_append_right _ (List.mem_append_right _ (List.mem_append_right _ (List.mem_append_right _ (List.mem_append_right _ (List.mem_append_right _ (List.mem_append_right _ (List.mem_append_right _ (List.mem_append_right _ (List.mem_append_right _ (List.mem_append_right _ (List.mem_append_right _ (List.mem_append_right _ (List.mem_append_right _ (List.mem_append_right _ (List.mem_append_right _ (List.mem_append_right _ (List.mem_append_right _ (List.mem_append_right _ (List.mem_append_right _ (List.mem_append_right _ (List.mem_append_right _ (List.mem_append_right _ (List.mem_append_right _ (List.mem_append_right _ (List.mem_append_right _ (List.mem_append_right _ (List.mem_append_right _ (List.mem_append_right _ (List.mem_append_right _ (List.mem_append_right _ (List.mem_append_right _ (List.mem_append_right _ (List.mem_append_right _ (List.mem_append_right _ (List.mem_append_right _ (List.mem_append_right _ (List.mem_append_left _ h)))))))))))))))))))))))))))))))))))))))))))))))
set_option maxRecDepth 20000 in
theorem gL_law_X11_best : GoodIn wsL_law (wsV RL 157 RX11 yX11_best wsX11_best) := goodIn_app (goodIn_of _ (by decide +kernel)) ggL_law_X11_best
theorem ggL_law_L_offer : GoodIn wsL_law wsL_offer := gW_in gwL_offer (fun _ h => List.mem_append_right _ (List.mem_append_right _ (List.mem_append_right _ (List.mem_append_right _ (List.mem_append_right _ (List.mem_append_right _ (List.mem_append_right _ (List.mem_append_right _ (List.mem_append_right _ (List.mem_append_right _ (List.mem_append_right _ (List.mem_append_right _ (List.mem_append_right _ (List.mem_append_right _ (List.mem_append_right _ (List.mem_append_right _ (List.mem_append_right _ (List.mem_append_right _ (List.mem_append_right _ (List.mem_append_right _ (List.mem_append_right _ (List.mem_append_right _ (List.mem_append_right _ (List.mem_append_right _ (List.mem_append_right _ (List.mem_append_right _ (List.mem_append_right _ (List.mem_append_right _ (List.mem_append_right _ (List.mem_append_right _ (List.mem_append_right _ (List.mem_append_right _ (List.mem_append_right _ (List.mem_append_right _ (List.mem_append_right _ (List.mem_append_right _ (List.mem_append_right _ (List.mem_append_right _ (List.mem_append_right _ (List.mem_append_right _ (List.mem_append_right _ (List.mem_append_right _ (List.mem_append_right _ (List.mem_append_right _ (List.mem_append_right _ (List.mem_append_right _ (List.mem_append_right _ (List.mem_append_left _ h))))))))))))))))))))))))))))))))))))))))))))))))
set_option maxRecDepth 20000 in
theorem gL_law_L_offer : GoodIn wsL_law (va_wsS RL 158 yL_offer wsL_offer) := goodIn_app (goodIn_of _ (by decide +kernel)) ggL_law_L_offer
theorem ggL_law_X11_offer : GoodIn wsL_law wsX11_offer := gW_in gwX11_offer (fun _ h => List.mem_append_right _ (List.mem_append_right _ (List.mem_append_right _ (List.mem_append_right _ (List.mem_append_right _ (List.mem_append_right _ (List.mem_append_right _ (List.mem_append_right _ (List.mem_append_right _ (List.mem_append_right _ (List.mem_append_right _ (List.mem_append_right _ (List.mem_append_right _ (List.mem_append_right _ (List.mem_append_right _ (List.mem_append_right _ (List.mem_append_right _ (List.mem_append_right _ (List.mem_append_right _ (List.mem_append_right _ (List.mem_append_right _ (List.mem_append_right _ (List.mem_append_right _ (List.mem_append_right _ (List.mem_append_right _ (List.mem_append_right _ (List.mem_append_right _ (List.mem_append_right _ (List.mem_append_right _ (List.mem_append_right _ (List.mem_append_right _ (List.mem_append_right _ (List.mem_append_right _ (List.mem_append_right _ (List.mem_append_right _ (List.mem_append_right _ (List.mem_append_right _ (List.mem_append_right _ (List.mem_append_right _ (List.mem_append_right _ (List.mem_append_right _ (List.mem_append_right _ (List.mem_append_right _ (List.mem_append_right _ (List.mem_append_right _ (List.mem_append_right _ (List.mem_append_right _ (List.mem_append_right _ (List.mem_append_left _ h)))))))))))))))))))))))))))))))))))))))))))))))))
set_option maxRecDepth 20000 in
theorem gL_law_X11_offer : GoodIn wsL_law (wsV RL 160 RX11 yX11_offer wsX11_offer) := goodIn_app (goodIn_of _ (by decide +kernel)) ggL_law_X11_offer
theorem ggL_law_L_nearest : GoodIn wsL_law wsL_nearest := gW_in gwL_nearest (fun _ h => List.mem_append_right _ (List.mem_append_right _ (List.mem_append_right _ (List.mem_append_right _ (List.mem_append_right _ (List.mem_append_right _ (List.mem_append_right _ (List.mem_append_right _ (List.mem_append_right _ (List.mem_append_right _ (List.mem_append_right _ (List.mem_append_right _ (List.mem_append_right _ (List.mem_append_right _ (List.mem_append_right _ (List.mem_append_right _ (List.mem_append_right _ (List.mem_append_right _ (List.mem_append_right _ (List.mem_append_right _ (List.mem_append_right _ (List.mem_append_right _ (List.mem_append_right _ (List.mem_append_right _ (List.mem_append_right _ (List.mem_append_right _ (List.mem_append_right _ (List.mem_append_right _ (List.mem_append_right _ (List.mem_append_right _ (List.mem_append_right _ (List.mem_append_right _ (List.mem_append_right _ (List.mem_append_right _ (List.mem_append_right _ (List.mem_append_right _ (List.mem_append_right _ (List.mem_append_right _ (List.mem_append_right _ (List.mem_append_right _ (List.mem_append_right _ (List.mem_append_right _ (List.mem_append_right _ (List.mem_append_right _ (List.mem_append_right _ (List.mem_append_right _ (List.mem_append_right _ (List.mem_append_right _ (List.mem_append_right _ (List.mem_append_left _ h))))))))))))))))))))))))))))))))))))))))))))))))))
set_option maxRecDepth 20000 in
theorem gL_law_L_nearest : GoodIn wsL_law (va_wsS RL 161 yL_nearest wsL_nearest) := goodIn_app (goodIn_of _ (by decide +kernel)) ggL_law_L_nearest
theorem ggL_law_X11_nearest : GoodIn wsL_law wsX11_nearest := gW_in gwX11_nearest (fun _ h => List.mem_append_right _ (List.mem_append_right _ (List.mem_append_right _ (List.mem_append_right _ (List.mem_append_right _ (List.mem_append_right _ (List.mem_append_right _ (List.mem_append_right _ (List.mem_append_right _ (List.mem_append_right _ (List.mem_append_right _ (List.mem_append_right _ (List.mem_append_right _ (List.mem_append_right _ (List.mem_append_right _ (List.mem_append_right _ (List.mem_append_right _ (List.mem_append_right _ (List.mem_append_right _ (List.mem_append_right _ (List.mem_append_right _ (List.mem_append_right _ (List.mem_append_right _ (List.mem_append_right _ (List.mem_append_right _ (List.mem_append_right _ (List.mem_append_right _ (List.mem_append_right _ (List.mem_append_right _ (List.mem_append_right _ (List.mem_append_right _ (List.mem_append_right _ (List.mem_append_right _ (List.mem_append_right _ (List.mem_append_right _ (List.mem_append_right _ (List.mem_append_right _ (List.mem_append_right _ (List.mem_append_right _ (List.mem_append_right _ (List.mem_append_right _ (List.mem_append_right _ (List.mem_append_right _ (List.mem_append_right _ (List.mem_append_right _ (List.mem_append_right _ (List.mem_append_right _ (List.mem_append_right _ (List.mem_append_right _ (List.mem_append_right _ (List.mem_append_left _ h)))))))))))))))))))))))))))))))))))))))))))))))))))
set_option maxRecDepth 20000 in
theorem gL_law_X11_nearest : GoodIn wsL_law (wsV RL 163 RX11 yX11_nearest wsX11_nearest) := goodIn_app (goodIn_of _ (by decide +kernel)) ggL_law_X11_nearest
theorem ggL_law_L_stop : GoodIn wsL_law wsL_stop := gW_in gwL_stop (fun _ h => List.mem_append_right _ (List.mem_append_right _ (List.mem_append_right _ (List.mem_append_right _ (List.mem_append_right _ (List.mem_append_right _ (List.mem_append_right _ (List.mem_append_right _ (List.mem_append_right _ (List.mem_append_right _ (List.mem_append_right _ (List.mem_append_right _ (List.mem_append_right _ (List.mem_append_right _ (List.mem_append_right _ (List.mem_append_right _ (List.mem_append_right _ (List.mem_append_right _ (List.mem_append_right _ (List.mem_append_right _ (List.mem_append_right _ (List.mem_append_right _ (List.mem_append_right _ (List.mem_append_right _ (List.mem_append_right _ (List.mem_append_right _ (List.mem_append_right _ (List.mem_append_right _ (List.mem_append_right _ (List.mem_append_right _ (List.mem_append_right _ (List.mem_append_right _ (List.mem_append_right _ (List.mem_append_right _ (List.mem_append_right _ (List.mem_append_right _ (List.mem_append_right _ (List.mem_append_right _ (List.mem_append_right _ (List.mem_append_right _ (List.mem_append_right _ (List.mem_append_right _ (List.mem_append_right _ (List.mem_append_right _ (List.mem_append_right _ (List.mem_append_right _ (List.mem_append_right _ (List.mem_append_right _ (List.mem_append_right _ (List.mem_append_right _ (List.mem_append_right _ (List.mem_append_left _ h))))))))))))))))))))))))))))))))))))))))))))))))))))
set_option maxRecDepth 20000 in
theorem gL_law_L_stop : GoodIn wsL_law (va_wsS RL 164 yL_stop wsL_stop) := goodIn_app (goodIn_of _ (by decide +kernel)) ggL_law_L_stop
theorem ggL_law_X11_stop : GoodIn wsL_law wsX11_stop := gW_in gwX11_stop (fun _ h => List.mem_append_right _ (List.mem_append_right _ (List.mem_append_right _ (List.mem_append_right _ (List.mem_append_right _ (List.mem_append_right _ (List.mem_append_right _ (List.mem_append_right _ (List.mem_append_right _ (List.mem_append_right _ (List.mem_append_right _ (List.mem_append_right _ (List.mem_append_right _ (List.mem_append_right _ (List.mem_append_right _ (List.mem_append_right _ (List.mem_append_right _ (List.mem_append_right _ (List.mem_append_right _ (List.mem_append_right _ (List.mem_append_right _ (List.mem_append_right _ (List.mem_append_right _ (List.mem_append_right _ (List.mem_append_right _ (List.mem_append_right _ (List.mem_append_right _ (List.mem_append_right _ (List.mem_append_right _ (List.mem_append_right _ (List.mem_append_right _ (List.mem_append_right _ (List.mem_append_right _ (List.mem_append_right _ (List.mem_append_right _ (List.mem_append_right _ (List.mem_append_right _ (List.mem_append_right _ (List.mem_append_right _ (List.mem_append_right _ (List.mem_append_right _ (List.mem_append_right _ (List.mem_append_right _ (List.mem_append_right _ (List.mem_append_right _ (List.mem_append_right _ (List.mem_append_right _ (List.mem_append_right _ (List.mem_append_right _ (List.mem_append_right _ (List.mem_append_right _ (List.mem_append_right _ (List.mem_append_left _ h)))))))))))))))))))))))))))))))))))))))))))))))))))))
set_option maxRecDepth 20000 in
theorem gL_law_X11_stop : GoodIn wsL_law (wsV RL 166 RX11 yX11_stop wsX11_stop) := goodIn_app (goodIn_of _ (by decide +kernel)) ggL_law_X11_stop
theorem ggL_law_L_odds : GoodIn wsL_law wsL_odds := gW_in gwL_odds (fun _ h => List.mem_append_right _ (List.mem_append_right _ (List.mem_append_right _ (List.mem_append_right _ (List.mem_append_right _ (List.mem_append_right _ (List.mem_append_right _ (List.mem_append_right _ (List.mem_append_right _ (List.mem_append_right _ (List.mem_append_right _ (List.mem_append_right _ (List.mem_append_right _ (List.mem_append_right _ (List.mem_append_right _ (List.mem_append_right _ (List.mem_append_right _ (List.mem_append_right _ (List.mem_append_right _ (List.mem_append_right _ (List.mem_append_right _ (List.mem_append_right _ (List.mem_append_right _ (List.mem_append_right _ (List.mem_append_right _ (List.mem_append_right _ (List.mem_append_right _ (List.mem_append_right _ (List.mem_append_right _ (List.mem_append_right _ (List.mem_append_right _ (List.mem_append_right _ (List.mem_append_right _ (List.mem_append_right _ (List.mem_append_right _ (List.mem_append_right _ (List.mem_append_right _ (List.mem_append_right _ (List.mem_append_right _ (List.mem_append_right _ (List.mem_append_right _ (List.mem_append_right _ (List.mem_append_right _ (List.mem_append_right _ (List.mem_append_right _ (List.mem_append_right _ (List.mem_append_right _ (List.mem_append_right _ (List.mem_append_right _ (List.mem_append_right _ (List.mem_append_right _ (List.mem_append_right _ (List.mem_append_right _ (List.mem_append_left _ h))))))))))))))))))))))))))))))))))))))))))))))))))))))
set_option maxRecDepth 20000 in
theorem gL_law_L_odds : GoodIn wsL_law (va_wsS RL 167 yL_odds wsL_odds) := goodIn_app (goodIn_of _ (by decide +kernel)) ggL_law_L_odds
theorem ggL_law_X11_odds : GoodIn wsL_law wsX11_odds := gW_in gwX11_odds (fun _ h => List.mem_append_right _ (List.mem_append_right _ (List.mem_append_right _ (List.mem_append_right _ (List.mem_append_right _ (List.mem_append_right _ (List.mem_append_right _ (List.mem_append_right _ (List.mem_append_right _ (List.mem_append_right _ (List.mem_append_right _ (List.mem_append_right _ (List.mem_append_right _ (List.mem_append_right _ (List.mem_append_right _ (List.mem_append_right _ (List.mem_append_right _ (List.mem_append_right _ (List.mem_append_right _ (List.mem_append_right _ (List.mem_append_right _ (List.mem_append_right _ (List.mem_append_right _ (List.mem_append_right _ (List.mem_append_right _ (List.mem_append_right _ (List.mem_append_right _ (List.mem_append_right _ (List.mem_append_right _ (List.mem_append_right _ (List.mem_append_right _ (List.mem_append_right _ (List.mem_append_right _ (List.mem_append_right _ (List.mem_append_right _ (List.mem_append_right _ (List.mem_append_right _ (List.mem_append_right _ (List.mem_append_right _ (List.mem_append_right _ (List.mem_append_right _ (List.mem_append_right _ (List.mem_append_right _ (List.mem_append_right _ (List.mem_append_right _ (List.mem_append_right _ (List.mem_append_right _ (List.mem_append_right _ (List.mem_append_right _ (List.mem_append_right _ (List.mem_append_right _ (List.mem_append_right _ (List.mem_append_right _ (List.mem_append_right _ (List.mem_append_left _ h)))))))))))))))))))))))))))))))))))))))))))))))))))))))
set_option maxRecDepth 20000 in
theorem gL_law_X11_odds : GoodIn wsL_law (wsV RL 170 RX11 yX11_odds wsX11_odds) := goodIn_app (goodIn_of _ (by decide +kernel)) ggL_law_X11_odds
theorem ggL_law_L_kind : GoodIn wsL_law wsL_kind := gW_in gwL_kind (fun _ h => List.mem_append_right _ (List.mem_append_right _ (List.mem_append_right _ (List.mem_append_right _ (List.mem_append_right _ (List.mem_append_right _ (List.mem_append_right _ (List.mem_append_right _ (List.mem_append_right _ (List.mem_append_right _ (List.mem_append_right _ (List.mem_append_right _ (List.mem_append_right _ (List.mem_append_right _ (List.mem_append_right _ (List.mem_append_right _ (List.mem_append_right _ (List.mem_append_right _ (List.mem_append_right _ (List.mem_append_right _ (List.mem_append_right _ (List.mem_append_right _ (List.mem_append_right _ (List.mem_append_right _ (List.mem_append_right _ (List.mem_append_right _ (List.mem_append_right _ (List.mem_append_right _ (List.mem_append_right _ (List.mem_append_right _ (List.mem_append_right _ (List.mem_append_right _ (List.mem_append_right _ (List.mem_append_right _ (List.mem_append_right _ (List.mem_append_right _ (List.mem_append_right _ (List.mem_append_right _ (List.mem_append_right _ (List.mem_append_right _ (List.mem_append_right _ (List.mem_append_right _ (List.mem_append_right _ (List.mem_append_right _ (List.mem_append_right _ (List.mem_append_right _ (List.mem_append_right _ (List.mem_append_right _ (List.mem_append_right _ (List.mem_append_right _ (List.mem_append_right _ (List.mem_append_right _ (List.mem_append_right _ (List.mem_append_right _ (List.mem_append_right _ (List.mem_append_left _ h))))))))))))))))))))))))))))))))))))))))))))))))))))))))
set_option maxRecDepth 20000 in
theorem gL_law_L_kind : GoodIn wsL_law (va_wsS RL 171 yL_kind wsL_kind) := goodIn_app (goodIn_of _ (by decide +kernel)) ggL_law_L_kind
theorem ggL_law_X11_kind : GoodIn wsL_law wsX11_kind := gW_in gwX11_kind (fun _ h => List.mem_append_right _ (List.mem_append_right _ (List.mem_append_right _ (List.mem_append_right _ (List.mem_append_right _ (List.mem_append_right _ (List.mem_append_right _ (List.mem_append_right _ (List.mem_append_right _ (List.mem_append_right _ (List.mem_append_right _ (List.mem_append_right _ (List.mem_append_right _ (List.mem_append_right _ (List.mem_append_right _ (List.mem_append_right _ (List.mem_append_right _ (List.mem_append_right _ (List.mem_append_right _ (List.mem_append_right _ (List.mem_append_right _ (List.mem_append_right _ (List.mem_append_right _ (List.mem_append_right _ (List.mem_append_right _ (List.mem_append_right _ (List.mem_append_right _ (List.mem_append_right _ (List.mem_append_right _ (List.mem_append_right _ (List.mem_append_right _ (List.mem_append_right _ (List.mem_append_right _ (List.mem_append_right _ (List.mem_append_right _ (List.mem_append_right _ (List.mem_append_right _ (List.mem_append_right _ (List.mem_append_right _ (List.mem_append_right _ (List.mem_append_right _ (List.mem_append_right _ (List.mem_append_right _ (List.mem_append_right _ (List.mem_append_right _ (List.mem_append_right _ (List.mem_append_right _ (List.mem_append_right _ (List.mem_append_right _ (List.mem_append_right _ (List.mem_append_right _ (List.mem_append_right _ (List.mem_append_right _ (List.mem_append_right _ (List.mem_append_right _ (List.mem_append_right _ (List.mem_append_left _ h)))))))))))))))))))))))))))))))))))))))))))))))))))))))))
set_option maxRecDepth 20000 in
theorem gL_law_X11_kind : GoodIn wsL_law (wsV RL 174 RX11 yX11_kind wsX11_kind) := goodIn_app (goodIn_of _ (by decide +kernel)) ggL_law_X11_kind
theorem ggL_law_L_seen : GoodIn wsL_law wsL_seen := gW_in gwL_seen (fun _ h => List.mem_append_right _ (List.mem_append_right _ (List.mem_append_right _ (List.mem_append_right _ (List.mem_append_right _ (List.mem_append_right _ (List.mem_append_right _ (List.mem_append_right _ (List.mem_append_right _ (List.mem_append_right _ (List.mem_append_right _ (List.mem_append_right _ (List.mem_append_right _ (List.mem_append_right _ (List.mem_append_right _ (List.mem_append_right _ (List.mem_append_right _ (List.mem_append_right _ (List.mem_append_right _ (List.mem_append_right _ (List.mem_append_right _ (List.mem_append_right _ (List.mem_append_right _ (List.mem_append_right _ (List.mem_append_right _ (List.mem_append_right _ (List.mem_append_right _ (List.mem_append_right _ (List.mem_append_right _ (List.mem_append_right _ (List.mem_append_right _ (List.mem_append_right _ (List.mem_append_right _ (List.mem_append_right _ (List.mem_append_right _ (List.mem_append_right _ (List.mem_append_right _ (List.mem_append_right _ (List.mem_append_right _ (List.mem_append_right _ (List.mem_append_right _ (List.mem_append_right _ (List.mem_append_right _ (List.mem_append_right _ (List.mem_append_right _ (List.mem_append_right _ (List.mem_append_right _ (List.mem_append_right _ (List.mem_append_right _ (List.mem_append_right _ (List.mem_append_right _ (List.mem_append_right _ (List.mem_append_right _ (List.mem_append_right _ (List.mem_append_right _ (List.mem_append_right _ (List.mem_append_right _ (List.mem_append_left _ h))))))))))))))))))))))))))))))))))))))))))))))))))))))))))
set_option maxRecDepth 20000 in
theorem gL_law_L_seen : GoodIn wsL_law (va_wsS RL 175 yL_seen wsL_seen) := goodIn_app (goodIn_of _ (by decide +kernel)) ggL_law_L_seen
theorem ggL_law_X11_seen : GoodIn wsL_law wsX11_seen := gW_in gwX11_seen (fun _ h => List.mem_append_right _ (List.mem_append_right _ (List.mem_append_right _ (List.mem_append_right _ (List.mem_append_right _ (List.mem_append_right _ (List.mem_append_right _ (List.mem_append_right _ (List.mem_append_right _ (List.mem_append_right _ (List.mem_append_right _ (List.mem_append_right _ (List.mem_append_right _ (List.mem_append_right _ (List.mem_append_right _ (List.mem_append_right _ (List.mem_append_right _ (List.mem_append_right _ (List.mem_append_right _ (List.mem_append_right _ (List.mem_append_right _ (List.mem_append_right _ (List.mem_append_right _ (List.mem_append_right _ (List.mem_append_right _ (List.mem_append_right _ (List.mem_append_right _ (List.mem_append_right _ (List.mem_append_right _ (List.mem_append_right _ (List.mem_append_right _ (List.mem_append_right _ (List.mem_append_right _ (List.mem_append_right _ (List.mem_append_right _ (List.mem_append_right _ (List.mem_append_right _ (List.mem_append_right _ (List.mem_append_right _ (List.mem_append_right _ (List.mem_append_right _ (List.mem_append_right _ (List.mem_append_right _ (List.mem_append_right _ (List.mem_append_right _ (List.mem_append_right _ (List.mem_append_right _ (List.mem_append_right _ (List.mem_append_right _ (List.mem_append_right _ (List.mem_append_right _ (List.mem_append_right _ (List.mem_append_right _ (List.mem_append_right _ (List.mem_append_right _ (List.mem_append_right _ (List.mem_append_right _ (List.mem_append_right _ (List.mem_append_left _ h)))))))))))))))))))))))))))))))))))))))))))))))))))))))))))
set_option maxRecDepth 20000 in
theorem gL_law_X11_seen : GoodIn wsL_law (wsV RL 177 RX11 yX11_seen wsX11_seen) := goodIn_app (goodIn_of _ (by decide +kernel)) ggL_law_X11_seen
theorem ggL_law_L_spy : GoodIn wsL_law wsL_spy := gW_in gwL_spy (fun _ h => List.mem_append_right _ (List.mem_append_right _ (List.mem_append_right _ (List.mem_append_right _ (List.mem_append_right _ (List.mem_append_right _ (List.mem_append_right _ (List.mem_append_right _ (List.mem_append_right _ (List.mem_append_right _ (List.mem_append_right _ (List.mem_append_right _ (List.mem_append_right _ (List.mem_append_right _ (List.mem_append_right _ (List.mem_append_right _ (List.mem_append_right _ (List.mem_append_right _ (List.mem_append_right _ (List.mem_append_right _ (List.mem_append_right _ (List.mem_append_right _ (List.mem_append_right _ (List.mem_append_right _ (List.mem_append_right _ (List.mem_append_right _ (List.mem_append_right _ (List.mem_append_right _ (List.mem_append_right _ (List.mem_append_right _ (List.mem_append_right _ (List.mem_append_right _ (List.mem_append_right _ (List.mem_append_right _ (List.mem_append_right _ (List.mem_append_right _ (List.mem_append_right _ (List.mem_append_right _ (List.mem_append_right _ (List.mem_append_right _ (List.mem_append_right _ (List.mem_append_right _ (List.mem_append_right _ (List.mem_append_right _ (List.mem_append_right _ (List.mem_append_right _ (List.mem_append_right _ (List.mem_append_right _ (List.mem_append_right _ (List.mem_append_right _ (List.mem_append_right _ (List.mem_append_right _ (List.mem_append_right _ (List.mem_append_right _ (List.mem_append_right _ (List.mem_append_right _ (List.mem_append_right _ (List.mem_append_right _ (List.mem_append_right _ (List.mem_append_left _ h))))))))))))))))))))))))))))))))))))))))))))))))))))))))))))
set_option maxRecDepth 20000 in
theorem gL_law_L_spy : GoodIn wsL_law (va_wsS RL 178 yL_spy wsL_spy) := goodIn_app (goodIn_of _ (by decide +kernel)) ggL_law_L_spy
theorem ggL_law_X11_spy : GoodIn wsL_law wsX11_spy := gW_in gwX11_spy (fun _ h => List.mem_append_right _ (List.mem_append_right _ (List.mem_append_right _ (List.mem_append_right _ (List.mem_append_right _ (List.mem_append_right _ (List.mem_append_right _ (List.mem_append_right _ (List.mem_append_right _ (List.mem_append_right _ (List.mem_append_right _ (List.mem_append_right _ (List.mem_append_right _ (List.mem_append_right _ (List.mem_append_right _ (List.mem_append_right _ (List.mem_append_right _ (List.mem_append_right _ (List.mem_append_right _ (List.mem_append_right _ (List.mem_append_right _ (List.mem_append_right _ (List.mem_append_right _ (List.mem_append_right _ (List.mem_append_right _ (List.mem_append_right _ (List.mem_append_right _ (List.mem_append_right _ (List.mem_append_right _ (List.mem_append_right _ (List.mem_append_right _ (List.mem_append_right _ (List.mem_append_right _ (List.mem_append_right _ (List.mem_append_right _ (List.mem_append_right _ (List.mem_append_right _ (List.mem_append_right _ (List.mem_append_right _ (List.mem_append_right _ (List.mem_append_right _ (List.mem_append_right _ (List.mem_append_right _ (List.mem_append_right _ (List.mem_append_right _ (List.mem_append_right _ (List.mem_append_right _ (List.mem_append_right _ (List.mem_append_right _ (List.mem_append_right _ (List.mem_append_right _ (List.mem_append_right _ (List.mem_append_right _ (List.mem_append_right _ (List.mem_append_right _ (List.mem_append_right _ (List.mem_append_right _ (List.mem_append_right _ (List.mem_append_right _ (List.mem_append_right _ (List.mem_append_left _ h)))))))))))))))))))))))))))))))))))))))))))))))))))))))))))))
set_option maxRecDepth 20000 in
theorem gL_law_X11_spy : GoodIn wsL_law (wsV RL 181 RX11 yX11_spy wsX11_spy) := goodIn_app (goodIn_of _ (by decide +kernel)) ggL_law_X11_spy
theorem ggL_law_L_believed : GoodIn wsL_law wsL_believed := gW_in gwL_believed (fun _ h => List.mem_append_right _ (List.mem_append_right _ (List.mem_append_right _ (List.mem_append_right _ (List.mem_append_right _ (List.mem_append_right _ (List.mem_append_right _ (List.mem_append_right _ (List.mem_append_right _ (List.mem_append_right _ (List.mem_append_right _ (List.mem_append_right _ (List.mem_append_right _ (List.mem_append_right _ (List.mem_append_right _ (List.mem_append_right _ (List.mem_append_right _ (List.mem_append_right _ (List.mem_append_right _ (List.mem_append_right _ (List.mem_append_right _ (List.mem_append_right _ (List.mem_append_right _ (List.mem_append_right _ (List.mem_append_right _ (List.mem_append_right _ (List.mem_append_right _ (List.mem_append_right _ (List.mem_append_right _ (List.mem_append_right _ (List.mem_append_right _ (List.mem_append_right _ (List.mem_append_right _ (List.mem_append_right _ (List.mem_append_right _ (List.mem_append_right _ (List.mem_append_right _ (List.mem_append_right _ (List.mem_append_right _ (List.mem_append_right _ (List.mem_append_right _ (List.mem_append_right _ (List.mem_append_right _ (List.mem_append_right _ (List.mem_append_right _ (List.mem_append_right _ (List.mem_append_right _ (List.mem_append_right _ (List.mem_append_right _ (List.mem_append_right _ (List.mem_append_right _ (List.mem_append_right _ (List.mem_append_right _ (List.mem_append_right _ (List.mem_append_right _ (List.mem_append_right _ (List.mem_append_right _ (List.mem_append_right _ (List.mem_append_right _ (List.mem_append_right _ (List.mem_append_right _ (List.mem_append_left _ h))))))))))))))))))))))))))))))))))))))))))))))))))))))))))))))
set_option maxRecDepth 20000 in
theorem gL_law_L_believed : GoodIn wsL_law (va_wsS RL 182 yL_believed wsL_believed) := goodIn_app (goodIn_of _ (by decide +kernel)) ggL_law_L_believed
theorem ggL_law_X11_believed : GoodIn wsL_law wsX11_believed := gW_in gwX11_believed (fun _ h => List.mem_append_right _ (List.mem_append_right _ (List.mem_append_right _ (List.mem_append_right _ (List.mem_append_right _ (List.mem_append_right _ (List.mem_append_right _ (List.mem_append_right _ (List.mem_append_right _ (List.mem_append_right _ (List.mem_append_right _ (List.mem_append_right _ (List.mem_append_right _ (List.mem_append_right _ (List.mem_append_right _ (List.mem_append_right _ (List.mem_append_right _ (List.mem_append_right _ (List.mem_append_right _ (List.mem_append_right _ (List.mem_append_right _ (List.mem_append_right _ (List.mem_append_right _ (List.mem_append_right _ (List.mem_append_right _ (List.mem_append_right _ (List.mem_append_right _ (List.mem_append_right _ (List.mem_append_right _ (List.mem_append_right _ (List.mem_append_right _ (List.mem_append_right _ (List.mem_append_right _ (List.mem_append_right _ (List.mem_append_right _ (List.mem_append_right _ (List.mem_append_right _ (List.mem_append_right _ (List.mem_append_right _ (List.mem_append_right _ (List.mem_append_right _ (List.mem_append_right _ (List.mem_append_right _ (List.mem_append_right _ (List.mem_append_right _ (List.mem_append_right _ (List.mem_append_right _ (List.mem_append_right _ (List.mem_append_right _ (List.mem_append_right _ (List.mem_append_right _ (List.mem_append_right _ (List.mem_append_right _ (List.mem_append_right _ (List.mem_append_right _ (List.mem_append_right _ (List.mem_append_right _ (List.mem_append_right _ (List.mem_append_right _ (List.mem_append_right _ (List.mem_append_right _ (List.mem_append_right _ (List.mem_append_left _ h)))))))))))))))))))))))))))))))))))))))))))))))))))))))))))))))
set_option maxRecDepth 20000 in
theorem gL_law_X11_believed : GoodIn wsL_law (wsV RL 184 RX11 yX11_believed wsX11_believed) := goodIn_app (goodIn_of _ (by decide +kernel)) ggL_law_X11_believed
theorem ggL_law_L_earnest : GoodIn wsL_law wsL_earnest := gW_in gwL_earnest (fun _ h => List.mem_append_right _ (List.mem_append_right _ (List.mem_append_right _ (List.mem_append_right _ (List.mem_append_right _ (List.mem_append_right _ (List.mem_append_right _ (List.mem_append_right _ (List.mem_append_right _ (List.mem_append_right _ (List.mem_append_right _ (List.mem_append_right _ (List.mem_append_right _ (List.mem_append_right _ (List.mem_append_right _ (List.mem_append_right _ (List.mem_append_right _ (List.mem_append_right _ (List.mem_append_right _ (List.mem_append_right _ (List.mem_append_right _ (List.mem_append_right _ (List.mem_append_right _ (List.mem_append_right _ (List.mem_append_right _ (List.mem_append_right _ (List.mem_append_right _ (List.mem_append_right _ (List.mem_append_right _ (List.mem_append_right _ (List.mem_append_right _ (List.mem_append_right _ (List.mem_append_right _ (List.mem_append_right _ (List.mem_append_right _ (List.mem_append_right _ (List.mem_append_right _ (List.mem_append_right _ (List.mem_append_right _ (List.mem_append_right _ (List.mem_append_right _ (List.mem_append_right _ (List.mem_append_right _ (List.mem_append_right _ (List.mem_append_right _ (List.mem_append_right _ (List.mem_append_right _ (List.mem_append_right _ (List.mem_append_right _ (List.mem_append_right _ (List.mem_append_right _ (List.mem_append_right _ (List.mem_append_right _ (List.mem_append_right _ (List.mem_append_right _ (List.mem_append_right _ (List.mem_append_right _ (List.mem_append_right _ (List.mem_append_right _ (List.mem_append_right _ (List.mem_append_right _ (List.mem_append_right _ (List.mem_append_right _ (List.mem_append_left _ h))))))))))))))))))))))))))))))))))))))))))))))))))))))))))))))))
set_option maxRecDepth 20000 in
theorem gL_law_L_earnest : GoodIn wsL_law (va_wsS RL 185 yL_earnest wsL_earnest) := goodIn_app (goodIn_of _ (by decide +kernel)) ggL_law_L_earnest
theorem ggL_law_X11_earnest : GoodIn wsL_law wsX11_earnest := gW_in gwX11_earnest (fun _ h => List.mem_append_right _ (List.mem_append_right _ (List.mem_append_right _ (List.mem_append_right _ (List.mem_append_right _ (List.mem_append_right _ (List.mem_append_right _ (List.mem_append_right _ (List.mem_append_right _ (List.mem_append_right _ (List.mem_append_right _ (List.mem_append_right _ (List.mem_append_right _ (List.mem_append_right _ (List.mem_append_right _ (List.mem_append_right _ (List.mem_append_right _ (List.mem_append_right _ (List.mem_append_right _ (List.mem_append_right _ (List.mem_append_right _ (List.mem_append_right _ (List.mem_append_right _ (List.mem_append_right _ (List.mem_append_right _ (List.mem_append_right _ (List.mem_append_right _ (List.mem_append_right _ (List.mem_append_right _ (List.mem_append_right _ (List.mem_append_right _ (List.mem_append_right _ (List.mem_append_right _ (List.mem_append_right _ (List.mem_append_right _ (List.mem_append_right _ (List.mem_append_right _ (List.mem_append_right _ (List.mem_append_right _ (List.mem_append_right _ (List.mem_append_right _ (List.mem_append_right _ (List.mem_append_right _ (List.mem_append_right _ (List.mem_append_right _ (List.mem_append_right _ (List.mem_append_right _ (List.mem_append_right _ (List.mem_append_right _ (List.mem_append_right _ (List.mem_append_right _ (List.mem_append_right _ (List.mem_append_right _ (List.mem_append_right _ (List.mem_append_right _ (List.mem_append_right _ (List.mem_append_right _ (List.mem_append_right _ (List.mem_append_right _ (List.mem_append_right _ (List.mem_append_right _ (List.mem_append_right _ (List.mem_append_right _ (List.mem_append_right _ (List.mem_append_left _ h)))))))))))))))))))))))))))))))))))))))))))))))))))))))))))))))))
set_option maxRecDepth 20000 in
theorem gL_law_X11_earnest : GoodIn wsL_law (wsV RL 187 RX11 yX11_earnest wsX11_earnest) := goodIn_app (goodIn_of _ (by decide +kernel)) ggL_law_X11_earnest
theorem ggL_law_L_stands : GoodIn wsL_law wsL_stands := gW_in gwL_stands (fun _ h => List.mem_append_right _ (List.mem_append_right _ (List.mem_append_right _ (List.mem_append_right _ (List.mem_append_right _ (List.mem_append_right _ (List.mem_append_right _ (List.mem_append_right _ (List.mem_append_right _ (List.mem_append_right _ (List.mem_append_right _ (List.mem_append_right _ (List.mem_append_right _ (List.mem_append_right _ (List.mem_append_right _ (List.mem_append_right _ (List.mem_append_right _ (List.mem_append_right _ (List.mem_append_right _ (List.mem_append_right _ (List.mem_append_right _ (List.mem_append_right _ (List.mem_append_right _ (List.mem_append_right _ (List.mem_append_right _ (List.mem_append_right _ (List.mem_append_right _ (List.mem_append_right _ (List.mem_append_right _ (List.mem_append_right _ (List.mem_append_right _ (List.mem_append_right _ (List.mem_append_right _ (List.mem_append_right _ (List.mem_append_right _ (List.mem_append_right _ (List.mem_append_right _ (List.mem_append_right _ (List.mem_append_right _ (List.mem_append_right _ (List.mem_append_right _ (List.mem_append_right _ (List.mem_append_right _ (List.mem_append_right _ (List.mem_append_right _ (List.mem_append_right _ (List.mem_append_right _ (List.mem_append_right _ (List.mem_append_right _ (List.mem_append_right _ (List.mem_append_right _ (List.mem_append_right _ (List.mem_append_right _ (List.mem_append_right _ (List.mem_append_right _ (List.mem_append_right _ (List.mem_append_right _ (List.mem_append_right _ (List.mem_append_right _ (List.mem_append_right _ (List.mem_append_right _ (List.mem_append_right _ (List.mem_append_right _ (List.mem_append_right _ (List.mem_append_right _ (List.mem_append_left _ h))))))))))))))))))))))))))))))))))))))))))))))))))))))))))))))))))
set_option maxRecDepth 20000 in
theorem gL_law_L_stands : GoodIn wsL_law (va_wsS RL 188 yL_stands wsL_stands) := goodIn_app (goodIn_of _ (by decide +kernel)) ggL_law_L_stands
theorem ggL_law_X11_stands : GoodIn wsL_law wsX11_stands := gW_in gwX11_stands (fun _ h => List.mem_append_right _ (List.mem_append_right _ (List.mem_append_right _ (List.mem_append_right _ (List.mem_append_right _ (List.mem_append_right _ (List.mem_append_right _ (List.mem_append_right _ (List.mem_append_right _ (List.mem_append_right _ (List.mem_append_right _ (List.mem_append_right _ (List.mem_append_right _ (List.mem_append_right _ (List.mem_append_right _ (List.mem_append_right _ (List.mem_append_right _ (List.mem_append_right _ (List.mem_append_right _ (List.mem_append_right _ (List.mem_append_right _ (List.mem_append_right _ (List.mem_append_right _ (List.mem_append_right _ (List.mem_append_right _ (List.mem_append_right _ (List.mem_append_right _ (List.mem_append_right _ (List.mem_append_right _ (List.mem_append_right _ (List.mem_append_right _ (List.mem_append_right _ (List.mem_append_right _ (List.mem_append_right _ (List.mem_append_right _ (List.mem_append_right _ (List.mem_append_right _ (List.mem_append_right _ (List.mem_append_right _ (List.mem_append_right _ (List.mem_append_right _ (List.mem_append_right _ (List.mem_append_right _ (List.mem_append_right _ (List.mem_append_right _ (List.mem_append_right _ (List.mem_append_right _ (List.mem_append_right _ (List.mem_append_right _ (List.mem_append_right _ (List.mem_append_right _ (List.mem_append_right _ (List.mem_append_right _ (List.mem_append_right _ (List.mem_append_right _ (List.mem_append_right _ (List.mem_append_right _ (List.mem_append_right _ (List.mem_append_right _ (List.mem_append_right _ (List.mem_append_right _ (List.mem_append_right _ (List.mem_append_right _ (List.mem_append_right _ (List.mem_append_right _ (List.mem_append_right _ (List.mem_append_left _ h)))))))))))))))))))))))))))))))))))))))))))))))))))))))))))))))))))
set_option maxRecDepth 20000 in
theorem gL_law_X11_stands : GoodIn wsL_law (wsV RL 190 RX11 yX11_stands wsX11_stands) := goodIn_app (goodIn_of _ (by decide +kernel)) ggL_law_X11_stands
theorem ggL_law_L_show : GoodIn wsL_law wsL_show := gW_in gwL_show (fun _ h => List.mem_append_right _ (List.mem_append_right _ (List.mem_append_right _ (List.mem_append_right _ (List.mem_append_right _ (List.mem_append_right _ (List.mem_append_right _ (List.mem_append_right _ (List.mem_append_right _ (List.mem_append_right _ (List.mem_append_right _ (List.mem_append_right _ (List.mem_append_right _ (List.mem_append_right _ (List.mem_append_right _ (List.mem_append_right _ (List.mem_append_right _ (List.mem_append_right _ (List.mem_append_right _ (List.mem_append_right _ (List.mem_append_right _ (List.mem_append_right _ (List.mem_append_right _ (List.mem_append_right _ (List.mem_append_right _ (List.mem_append_right _ (List.mem_append_right _ (List.mem_append_right _ (List.mem_append_right _ (List.mem_append_right _ (List.mem_append_right _ (List.mem_append_right _ (List.mem_append_right _ (List.mem_append_right _ (List.mem_append_right _ (List.mem_append_right _ (List.mem_append_right _ (List.mem_append_right _ (List.mem_append_right _ (List.mem_append_right _ (List.mem_append_right _ (List.mem_append_right _ (List.mem_append_right _ (List.mem_append_right _ (List.mem_append_right _ (List.mem_append_right _ (List.mem_append_right _ (List.mem_append_right _ (List.mem_append_right _ (List.mem_append_right _ (List.mem_append_right _ (List.mem_append_right _ (List.mem_append_right _ (List.mem_append_right _ (List.mem_append_right _ (List.mem_append_right _ (List.mem_append_right _ (List.mem_append_right _ (List.mem_append_right _ (List.mem_append_right _ (List.mem_append_right _ (List.mem_append_right _ (List.mem_append_right _ (List.mem_append_right _ (List.mem_append_right _ (List.mem_append_right _ (List.mem_append_right _ (List.mem_append_left _ h))))))))))))))))))))))))))))))))))))))))))))))))))))))))))))))))))))
set_option maxRecDepth 20000 in
theorem gL_law_L_show : GoodIn wsL_law (va_wsS RL 191 yL_show wsL_show) := goodIn_app (goodIn_of _ (by decide +kernel)) ggL_law_L_show
theorem ggL_law_X11_show : GoodIn wsL_law wsX11_show := gW_in gwX11_show (fun _ h => List.mem_append_right _ (List.mem_append_right _ (List.mem_append_right _ (List.mem_append_right _ (List.mem_append_right _ (List.mem_append_right _ (List.mem_append_right _ (List.mem_append_right _ (List.mem_append_right _ (List.mem_append_right _ (List.mem_append_right _ (List.mem_append_right _ (List.mem_append_right _ (List.mem_append_right _ (List.mem_append_right _ (List.mem_append_right _ (List.mem_append_right _ (List.mem_append_right _ (List.mem_append_right _ (List.mem_append_right _ (List.mem_append_right _ (List.mem_append_right _ (List.mem_append_right _ (List.mem_append_right _ (List.mem_append_right _ (List.mem_append_right _ (List.mem_append_right _ (List.mem_append_right _ (List.mem_append_right _ (List.mem_append_right _ (List.mem_append_right _ (List.mem_append_right _ (List.mem_append_right _ (List.mem_append_right _ (List.mem_append_right _ (List.mem_append_right _ (List.mem_append_right _ (List.mem_append_right _ (List.mem_append_right _ (List.mem_append_right _ (List.mem_append_right _ (List.mem_append_right _ (List.mem_append_right _ (List.mem_append_right _ (List.mem_append_right _ (List.mem_append_right _ (List.mem_append_right _ (List.mem_append_right _ (List.mem_append_right _ (List.mem_append_right _ (List.mem_append_right _ (List.mem_append_right _ (List.mem_append_right _ (List.mem_append_right _ (List.mem_append_right _ (List.mem_append_right _ (List.mem_append_right _ (List.mem_append_right _ (List.mem_append_right _ (List.mem_append_right _ (List.mem_append_right _ (List.mem_append_right _ (List.mem_append_right _ (List.mem_append_right _ (List.mem_append_right _ (List.mem_append_right _ (List.mem_append_right _ (List.mem_append_right _ (List.mem_append_left _ h)))))))))))))))))))))))))))))))))))))))))))))))))))))))))))))))))))))
set_option maxRecDepth 20000 in
theorem gL_law_X11_show : GoodIn wsL_law (wsV RL 193 RX11 yX11_show wsX11_show) := goodIn_app (goodIn_of _ (by decide +kernel)) ggL_law_X11_show
theorem ggL_law_L_offers : GoodIn wsL_law wsL_offers := gW_in gwL_offers (fun _ h => List.mem_append_right _ (List.mem_append_right _ (List.mem_append_right _ (List.mem_append_right _ (List.mem_append_right _ (List.mem_append_right _ (List.mem_append_right _ (List.mem_append_right _ (List.mem_append_right _ (List.mem_append_right _ (List.mem_append_right _ (List.mem_append_right _ (List.mem_append_right _ (List.mem_append_right _ (List.mem_append_right _ (List.mem_append_right _ (List.mem_append_right _ (List.mem_append_right _ (List.mem_append_right _ (List.mem_append_right _ (List.mem_append_right _ (List.mem_append_right _ (List.mem_append_right _ (List.mem_append_right _ (List.mem_append_right _ (List.mem_append_right _ (List.mem_append_right _ (List.mem_append_right _ (List.mem_append_right _ (List.mem_append_right _ (List.mem_append_right _ (List.mem_append_right _ (List.mem_append_right _ (List.mem_append_right _ (List.mem_append_right _ (List.mem_append_right _ (List.mem_append_right _ (List.mem_append_right _ (List.mem_append_right _ (List.mem_append_right _ (List.mem_append_right _ (List.mem_append_right _ (List.mem_append_right _ (List.mem_append_right _ (List.mem_append_right _ (List.mem_append_right _ (List.mem_append_right _ (List.mem_append_right _ (List.mem_append_right _ (List.mem_append_right _ (List.mem_append_right _ (List.mem_append_right _ (List.mem_append_right _ (List.mem_append_right _ (List.mem_append_right _ (List.mem_append_right _ (List.mem_append_right _ (List.mem_append_right _ (List.mem_append_right _ (List.mem_append_right _ (List.mem_append_right _ (List.mem_append_right _ (List.mem_append_right _ (List.mem_append_right _ (List.mem_append_right _ (List.mem_append_right _ (List.mem_append_right _ (List.mem_append_right _ (List.mem_append_right _ (List.mem_append_left _ h))))))))))))))))))))))))))))))))))))))))))))))))))))))))))))))))))))))
set_option maxRecDepth 20000 in
theorem gL_law_L_offers : GoodIn wsL_law (va_wsS RL 194 yL_offers wsL_offers) := goodIn_app (goodIn_of _ (by decide +kernel)) ggL_law_L_offers
theorem ggL_law_X11_offers : GoodIn wsL_law wsX11_offers := gW_in gwX11_offers (fun _ h => List.mem_append_right _ (List.mem_append_right _ (List.mem_append_right _ (List.mem_append_right _ (List.mem_append_right _ (List.mem_append_right _ (List.mem_append_right _ (List.mem_append_right _ (List.mem_append_right _ (List.mem_append_right _ (List.mem_append_right _ (List.mem_append_right _ (List.mem_append_right _ (List.mem_append_right _ (List.mem_append_right _ (List.mem_append_right _ (List.mem_append_right _ (List.mem_append_right _ (List.mem_append_right _ (List.mem_append_right _ (List.mem_append_right _ (List.mem_append_right _ (List.mem_append_right _ (List.mem_append_right _ (List.mem_append_right _ (List.mem_append_right _ (List.mem_append_right _ (List.mem_append_right _ (List.mem_append_right _ (List.mem_append_right _ (List.mem_append_right _ (List.mem_append_right _ (List.mem_append_right _ (List.mem_append_right _ (List.mem_append_right _ (List.mem_append_right _ (List.mem_append_right _ (List.mem_append_right _ (List.mem_append_right _ (List.mem_append_right _ (List.mem_append_right _ (List.mem_append_right _ (List.mem_append_right _ (List.mem_append_right _ (List.mem_append_right _ (List.mem_append_right _ (List.mem_append_right _ (List.mem_append_right _ (List.mem_append_right _ (List.mem_append_right _ (List.mem_append_right _ (List.mem_append_right _ (List.mem_append_right _ (List.mem_append_right _ (List.mem_append_right _ (List.mem_append_right _ (List.mem_append_right _ (List.mem_append_right _ (List.mem_append_right _ (List.mem_append_right _ (List.mem_append_right _ (List.mem_append_right _ (List.mem_append_right _ (List.mem_append_right _ (List.mem_append_right _ (List.mem_append_right _ (List.mem_append_right _ (List.mem_append_right _ (List.mem_append_right _ (List.mem_append_right _ (List.mem_append_left _ h)))))))))))))))))))))))))))))))))))))))))))))))))))))))))))))))))))))))
set_option maxRecDepth 20000 in
theorem gL_law_X11_offers : GoodIn wsL_law (wsV RL 196 RX11 yX11_offers wsX11_offers) := goodIn_app (goodIn_of _ (by decide +kernel)) ggL_law_X11_offers
theorem ggL_law_X10_most : GoodIn wsL_law wsX10_most := gW_in gwX10_most (fun _ h => List.mem_append_right _ (List.mem_append_right _ (List.mem_append_right _ (List.mem_append_right _ (List.mem_append_right _ (List.mem_append_right _ (List.mem_append_right _ (List.mem_append_right _ (List.mem_append_right _ (List.mem_append_right _ (List.mem_append_right _ (List.mem_append_right _ (List.mem_append_right _ (List.mem_append_right _ (List.mem_append_right _ (List.mem_append_right _ (List.mem_append_right _ (List.mem_append_right _ (List.mem_append_right _ (List.mem_append_right _ (List.mem_append_right _ (List.mem_append_right _ (List.mem_append_right _ (List.mem_append_right _ (List.mem_append_right _ (List.mem_append_right _ (List.mem_append_right _ (List.mem_append_right _ (List.mem_append_right _ (List.mem_append_right _ (List.mem_append_right _ (List.mem_append_right _ (List.mem_append_right _ (List.mem_append_right _ (List.mem_append_right _ (List.mem_append_right _ (List.mem_append_right _ (List.mem_append_right _ (List.mem_append_right _ (List.mem_append_right _ (List.mem_append_right _ (List.mem_append_right _ (List.mem_append_right _ (List.mem_append_right _ (List.mem_append_right _ (List.mem_append_right _ (List.mem_append_right _ (List.mem_append_right _ (List.mem_append_right _ (List.mem_append_right _ (List.mem_append_right _ (List.mem_append_right _ (List.mem_append_right _ (List.mem_append_right _ (List.mem_append_right _ (List.mem_append_right _ (List.mem_append_right _ (List.mem_append_right _ (List.mem_append_right _ (List.mem_append_right _ (List.mem_append_right _ (List.mem_append_right _ (List.mem_append_right _ (List.mem_append_right _ (List.mem_append_right _ (List.mem_append_right _ (List.mem_append_right _ (List.mem_append_right _ (List.mem_append_right _ (List.mem_append_right _ (List.mem_append_right _ (List.mem_append_left _ h))))))))))))))))))))))))))))))))))))))))))))))))))))))))))))))))))))))))
set_option maxRecDepth 20000 in
theorem gL_law_X10_most : GoodIn wsL_law (wsV RL 197 RX10 yX10_most wsX10_most) := goodIn_app (goodIn_of _ (by decide +kernel)) ggL_law_X10_most
theorem ggL_law_X11_most : GoodIn wsL_law wsX11_most := gW_in gwX11_most (fun _ h => List.mem_append_right _ (List.mem_append_right _ (List.mem_append_right _ (List.mem_append_right _ (List.mem_append_right _ (List.mem_append_right _ (List.mem_append_right _ (List.mem_append_right _ (List.mem_append_right _ (List.mem_append_right _ (List.mem_append_right _ (List.mem_append_right _ (List.mem_append_right _ (List.mem_append_right _ (List.mem_append_right _ (List.mem_append_right _ (List.mem_append_right _ (List.mem_append_right _ (List.mem_append_right _ (List.mem_append_right _ (List.mem_append_right _ (List.mem_append_right _ (List.mem_append_right _ (List.mem_append_right _ (List.mem_append_right _ (List.mem_append_right _ (List.mem_append_right _ (List.mem_append_right _ (List.mem_append_right _ (List.mem_append_right _ (List.mem_append_right _ (List.mem_append_right _ (List.mem_append_right _ (List.mem_append_right _ (List.mem_append_right _ (List.mem_append_right _ (List.mem_append_right _ (List.mem_append_right _ (List.mem_append_right _ (List.mem_append_right _ (List.mem_append_right _ (List.mem_append_right _ (List.mem_append_right _ (List.mem_append_right _ (List.mem_append_right _ (List.mem_append_right _ (List.mem_append_right _ (List.mem_append_right _ (List.mem_append_right _ (List.mem_append_right _ (List.mem_append_right _ (List.mem_append_right _ (List.mem_append_right _ (List.mem_append_right _ (List.mem_append_right _ (List.mem_append_right _ (List.mem_append_right _ (List.mem_append_right _ (List.mem_append_right _ (List.mem_append_right _ (List.mem_append_right _ (List.mem_append_right _ (List.mem_append_right _ (List.mem_append_right _ (List.mem_append_right _ (List.mem_append_right _ (List.mem_append_right _ (List.mem_append_right _ (List.mem_append_right _ (List.mem_append_right _ (List.mem_append_right _ (List.mem_append_right _ (List.mem_append_left _ h)))))))))))))))))))))))))))))))))))))))))))))))))))))))))))))))))))))))))
set_option maxRecDepth 20000 in
theorem gL_law_X11_most : GoodIn wsL_law (wsV RL 200 RX11 yX11_most wsX11_most) := goodIn_app (goodIn_of _ (by decide +kernel)) ggL_law_X11_most
theorem ggL_law_L_serves : GoodIn wsL_law wsL_serves := gW_in gwL_serves (fun _ h => List.mem_append_right _ (List.mem_append_right _ (List.mem_append_right _ (List.mem_append_right _ (List.mem_append_right _ (List.mem_append_right _ (List.mem_append_right _ (List.mem_append_right _ (List.mem_append_right _ (List.mem_append_right _ (List.mem_append_right _ (List.mem_append_right _ (List.mem_append_right _ (List.mem_append_right _ (List.mem_append_right _ (List.mem_append_right _ (List.mem_append_right _ (List.mem_append_right _ (List.mem_append_right _ (List.mem_append_right _ (List.mem_append_right _ (List.mem_append_right _ (List.mem_append_right _ (List.mem_append_right _ (List.mem_append_right _ (List.mem_append_right _ (List.mem_append_right _ (List.mem_append_right _ (List.mem_append_right _ (List.mem_append_right _ (List.mem_append_right _ (List.mem_append_right _ (List.mem_append_right _ (List.mem_append_right _ (List.mem_append_right _ (List.mem_append_right _ (List.mem_append_right _ (List.mem_append_right _ (List.mem_append_right _ (List.mem_append_right _ (List.mem_append_right _ (List.mem_append_right _ (List.mem_append_right _ (List.mem_append_right _ (List.mem_append_right _ (List.mem_append_right _ (List.mem_append_right _ (List.mem_append_right _ (List.mem_append_right _ (List.mem_append_right _ (List.mem_append_right _ (List.mem_append_right _ (List.mem_append_right _ (List.mem_append_right _ (List.mem_append_right _ (List.mem_append_right _ (List.mem_append_right _ (List.mem_append_right _ (List.mem_append_right _ (List.mem_append_right _ (List.mem_append_right _ (List.mem_append_right _ (List.mem_append_right _ (List.mem_append_right _ (List.mem_append_right _ (List.mem_append_right _ (List.mem_append_right _ (List.mem_append_right _ (List.mem_append_right _ (List.mem_append_right _ (List.mem_append_right _ (List.mem_append_right _ (List.mem_append_right _ (List.mem_append_left _ h))))))))))))))))))))))))))))))))))))))))))))))))))))))))))))))))))))))))))
set_option maxRecDepth 20000 in
theorem gL_law_L_serves : GoodIn wsL_law (va_wsS RL 201 yL_serves wsL_serves) := goodIn_app (goodIn_of _ (by decide +kernel)) ggL_law_L_serves
theorem ggL_law_X11_serves : GoodIn wsL_law wsX11_serves := gW_in gwX11_serves (fun _ h => List.mem_append_right _ (List.mem_append_right _ (List.mem_append_right _ (List.mem_append_right _ (List.mem_append_right _ (List.mem_append_right _ (List.mem_append_right _ (List.mem_append_right _ (List.mem_append_right _ (List.mem_append_right _ (List.mem_append_right _ (List.mem_append_right _ (List.mem_append_right _ (List.mem_append_right _ (List.mem_append_right _ (List.mem_append_right _ (List.mem_append_right _ (List.mem_append_right _ (List.mem_append_right _ (List.mem_append_right _ (List.mem_append_right _ (List.mem_append_right _ (List.mem_append_right _ (List.mem_append_right _ (List.mem_append_right _ (List.mem_append_right _ (List.mem_append_right _ (List.mem_append_right _ (List.mem_append_right _ (List.mem_append_right _ (List.mem_append_right _ (List.mem_append_right _ (List.mem_append_right _ (List.mem_append_right _ (List.mem_append_right _ (List.mem_append_right _ (List.mem_append_right _ (List.mem_append_right _ (List.mem_append_right _ (List.mem_append_right _ (List.mem_append_right _ (List.mem_append_right _ (List.mem_append_right _ (List.mem_append_right _ (List.mem_append_right _ (List.mem_append_right _ (List.mem_append_right _ (List.mem_append_right _ (List.mem_append_right _ (List.mem_append_right _ (List.mem_append_right _ (List.mem_append_right _ (List.mem_append_right _ (List.mem_append_right _ (List.mem_append_right _ (List.mem_append_right _ (List.mem_append_right _ (List.mem_append_right _ (List.mem_append_right _ (List.mem_append_right _ (List.mem_append_right _ (List.mem_append_right _ (List.mem_append_right _ (List.mem_append_right _ (List.mem_append_right _ (List.mem_append_right _ (List.mem_append_right _ (List.mem_append_right _ (List.mem_append_right _ (List.mem_append_right _ (List.mem_append_right _ (List.mem_append_right _ (List.mem_append_right _ (List.mem_append_right _ (List.mem_append_left _ h)))))))))))))))))))))))))))))))))))))))))))))))))))))))))))))))))))))))))))
set_option maxRecDepth 20000 in
theorem gL_law_X11_serves : GoodIn wsL_law (wsV RL 203 RX11 yX11_serves wsX11_serves) := goodIn_app (goodIn_of _ (by decide +kernel)) ggL_law_X11_serves
theorem ggL_law_X10_image : GoodIn wsL_law wsX10_image := gW_in gwX10_image (fun _ h => List.mem_append_right _ (List.mem_append_right _ (List.mem_append_right _ (List.mem_append_right _ (List.mem_append_right _ (List.mem_append_right _ (List.mem_append_right _ (List.mem_append_right _ (List.mem_append_right _ (List.mem_append_right _ (List.mem_append_right _ (List.mem_append_right _ (List.mem_append_right _ (List.mem_append_right _ (List.mem_append_right _ (List.mem_append_right _ (List.mem_append_right _ (List.mem_append_right _ (List.mem_append_right _ (List.mem_append_right _ (List.mem_append_right _ (List.mem_append_right _ (List.mem_append_right _ (List.mem_append_right _ (List.mem_append_right _ (List.mem_append_right _ (List.mem_append_right _ (List.mem_append_right _ (List.mem_append_right _ (List.mem_append_right _ (List.mem_append_right _ (List.mem_append_right _ (List.mem_append_right _ (List.mem_append_right _ (List.mem_append_right _ (List.mem_append_right _ (List.mem_append_right _ (List.mem_append_right _ (List.mem_append_right _ (List.mem_append_right _ (List.mem_append_right _ (List.mem_append_right _ (List.mem_append_right _ (List.mem_append_right _ (List.mem_append_right _ (List.mem_append_right _ (List.mem_append_right _ (List.mem_append_right _ (List.mem_append_right _ (List.mem_append_right _ (List.mem_append_right _ (List.mem_append_right _ (List.mem_append_right _ (List.mem_append_right _ (List.mem_append_right _ (List.mem_append_right _ (List.mem_append_right _ (List.mem_append_right _ (List.mem_append_right _ (List.mem_append_right _ (List.mem_append_right _ (List.mem_append_right _ (List.mem_append_right _ (List.mem_append_right _ (List.mem_append_right _ (List.mem_append_right _ (List.mem_append_right _ (List.mem_append_right _ (List.mem_append_right _ (List.mem_append_right _ (List.mem_append_right _ (List.mem_append_right _ (List.mem_append_right _ (List.mem_append_right _ (List.mem_append_right _ (List.mem_append_left _ h))))))))))))))))))))))))))))))))))))))))))))))))))))))))))))))))))))))))))))
set_option maxRecDepth 20000 in
theorem gL_law_X10_image : GoodIn wsL_law (wsV RL 204 RX10 yX10_image wsX10_image) := goodIn_app (goodIn_of _ (by decide +kernel)) ggL_law_X10_image
theorem ggL_law_X11_image : GoodIn wsL_law wsX11_image := gW_in gwX11_image (fun _ h => List.mem_append_right _ (List.mem_append_right _ (List.mem_append_right _ (List.mem_append_right _ (List.mem_append_right _ (List.mem_append_right _ (List.mem_append_right _ (List.mem_append_right _ (List.mem_append_right _ (List.mem_append_right _ (List.mem_append_right _ (List.mem_append_right _ (List.mem_append_right _ (List.mem_append_right _ (List.mem_append_right _ (List.mem_append_right _ (List.mem_append_right _ (List.mem_append_right _ (List.mem_append_right _ (List.mem_append_right _ (List.mem_append_right _ (List.mem_append_right _ (List.mem_append_right _ (List.mem_append_right _ (List.mem_append_right _ (List.mem_append_right _ (List.mem_append_right _ (List.mem_append_right _ (List.mem_append_right _ (List.mem_append_right _ (List.mem_append_right _ (List.mem_append_right _ (List.mem_append_right _ (List.mem_append_right _ (List.mem_append_right _ (List.mem_append_right _ (List.mem_append_right _ (List.mem_append_right _ (List.mem_append_right _ (List.mem_append_right _ (List.mem_append_right _ (List.mem_append_right _ (List.mem_append_right _ (List.mem_append_right _ (List.mem_append_right _ (List.mem_append_right _ (List.mem_append_right _ (List.mem_append_right _ (List.mem_append_right _ (List.mem_append_right _ (List.mem_append_right _ (List.mem_append_right _ (List.mem_append_right _ (List.mem_append_right _ (List.mem_append_right _ (List.mem_append_right _ (List.mem_append_right _ (List.mem_append_right _ (List.mem_append_right _ (List.mem_append_right _ (List.mem_append_right _ (List.mem_append_right _ (List.mem_append_right _ (List.mem_append_right _ (List.mem_append_right _ (List.mem_append_right _ (List.mem_append_right _ (List.mem_append_right _ (List.mem_append_right _ (List.mem_append_right _ (List.mem_append_right _ (List.mem_append_right _ (List.mem_append_right _ (List.mem_append_right _ (List.mem_append_right _ (List.mem_append_right _ (List.mem_append_left _ h)))))))))))))))))))))))))))))))))))))))))))))))))))))))))))))))))))))))))))))
set_option maxRecDepth 20000 in
theorem gL_law_X11_image : GoodIn wsL_law (wsV RL 207 RX11 yX11_image wsX11_image) := goodIn_app (goodIn_of _ (by decide +kernel)) ggL_law_X11_image
theorem ggL_law_X10_restore : GoodIn wsL_law wsX10_restore := gW_in gwX10_restore (fun _ h => List.mem_append_right _ (List.mem_append_right _ (List.mem_append_right _ (List.mem_append_right _ (List.mem_append_right _ (List.mem_append_right _ (List.mem_append_right _ (List.mem_append_right _ (List.mem_append_right _ (List.mem_append_right _ (List.mem_append_right _ (List.mem_append_right _ (List.mem_append_right _ (List.mem_append_right _ (List.mem_append_right _ (List.mem_append_right _ (List.mem_append_right _ (List.mem_append_right _ (List.mem_append_right _ (List.mem_append_right _ (List.mem_append_right _ (List.mem_append_right _ (List.mem_append_right _ (List.mem_append_right _ (List.mem_append_right _ (List.mem_append_right _ (List.mem_append_right _ (List.mem_append_right _ (List.mem_append_right _ (List.mem_append_right _ (List.mem_append_right _ (List.mem_append_right _ (List.mem_append_right _ (List.mem_append_right _ (List.mem_append_right _ (List.mem_append_right _ (List.mem_append_right _ (List.mem_append_right _ (List.mem_append_right _ (List.mem_append_right _ (List.mem_append_right _ (List.mem_append_right _ (List.mem_append_right _ (List.mem_append_right _ (List.mem_append_right _ (List.mem_append_right _ (List.mem_append_right _ (List.mem_append_right _ (List.mem_append_right _ (List.mem_append_right _ (List.mem_append_right _ (List.mem_append_right _ (List.mem_append_right _ (List.mem_append_right _ (List.mem_append_right _ (List.mem_append_right _ (List.mem_append_right _ (List.mem_append_right _ (List.mem_append_right _ (List.mem_append_right _ (List.mem_append_right _ (List.mem_append_right _ (List.mem_append_right _ (List.mem_append_right _ (List.mem_append_right _ (List.mem_append_right _ (List.mem_append_right _ (List.mem_append_right _ (List.mem_append_right _ (List.mem_append_right _ (List.mem_append_right _ (List.mem_append_right _ (List.mem_append_right _ (List.mem_append_right _ (List.mem_append_right _ (List.mem_append_right _ (List.mem_append_right _ (List.mem_append_left _ h))))))))))))))))))))))))))))))))))))))))))))))))))))))))))))))))))))))))))))))
set_option maxRecDepth 20000 in
theorem gL_law_X10_restore : GoodIn wsL_law (wsV RL 208 RX10 yX10_restore wsX10_restore) := goodIn_app (goodIn_of _ (by decide +kernel)) ggL_law_X10_restore
theorem ggL_law_X11_restore : GoodIn wsL_law wsX11_restore := gW_in gwX11_restore (fun _ h => List.mem_append_right _ (List.mem_append_right _ (List.mem_append_right _ (List.mem_append_right _ (List.mem_append_right _ (List.mem_append_right _ (List.mem_append_right _ (List.mem_append_right _ (List.mem_append_right _ (List.mem_append_right _ (List.mem_append_right _ (List.mem_append_right _ (List.mem_append_right _ (List.mem_append_right _ (List.mem_append_right _ (List.mem_append_right _ (List.mem_append_right _ (List.mem_append_right _ (List.mem_append_right _ (List.mem_append_right _ (List.mem_append_right _ (List.mem_append_right _ (List.mem_append_right _ (List.mem_append_right _ (List.mem_append_right _ (List.mem_append_right _ (List.mem_append_right _ (List.mem_append_right _ (List.mem_append_right _ (List.mem_append_right _ (List.mem_append_right _ (List.mem_append_right _ (List.mem_append_right _ (List.mem_append_right _ (List.mem_append_right _ (List.mem_append_right _ (List.mem_append_right _ (List.mem_append_right _ (List.mem_append_right _ (List.mem_append_right _ (List.mem_append_right _ (List.mem_append_right _ (List.mem_append_right _ (List.mem_append_right _ (List.mem_append_right _ (List.mem_append_right _ (List.mem_append_right _ (List.mem_append_right _ (List.mem_append_right _ (List.mem_append_right _ (List.mem_append_right _ (List.mem_append_right _ (List.mem_append_right _ (List.mem_append_right _ (List.mem_append_right _ (List.mem_append_right _ (List.mem_append_right _ (List.mem_append_right _ (List.mem_append_right _ (List.mem_append_right _ (List.mem_append_right _ (List.mem_append_right _ (List.mem_append_right _ (List.mem_append_right _ (List.mem_append_right _ (List.mem_append_right _ (List.mem_append_right _ (List.mem_append_right _ (List.mem_append_right _ (List.mem_append_right _ (List.mem_append_right _ (List.mem_append_right _ (List.mem_append_right _ (List.mem_append_right _ (List.mem_append_right _ (List.mem_append_right _ (List.mem_append_right _ (List.mem_append_right _ (List.mem_append_left _ h)))))))))))))))))))))))))))))))))))))))))))))))))))))))))))))))))))))))))))))))
set_option maxRecDepth 20000 in
theorem gL_law_X11_restore : GoodIn wsL_law (wsV RL 211 RX11 yX11_restore wsX11_restore) := goodIn_app (goodIn_of _ (by decide +kernel)) ggL_law_X11_restore
theorem ggL_law_X10_status : GoodIn wsL_law wsX10_status := gW_in gwX10_status (fun _ h => List.mem_append_right _ (List.mem_append_right _ (List.mem_append_right _ (List.mem_append_right _ (List.mem_append_right _ (List.mem_append_right _ (List.mem_append_right _ (List.mem_append_right _ (List.mem_append_right _ (List.mem_append_right _ (List.mem_append_right _ (List.mem_append_right _ (List.mem_append_right _ (List.mem_append_right _ (List.mem_append_right _ (List.mem_append_right _ (List.mem_append_right _ (List.mem_append_right _ (List.mem_append_right _ (List.mem_append_right _ (List.mem_append_right _ (List.mem_append_right _ (List.mem_append_right _ (List.mem_append_right _ (List.mem_append_right _ (List.mem_append_right _ (List.mem_append_right _ (List.mem_append_right _ (List.mem_append_right _ (List.mem_append_right _ (List.mem_append_right _ (List.mem_append_right _ (List.mem_append_right _ (List.mem_append_right _ (List.mem_append_right _ (List.mem_append_right _ (List.mem_append_right _ (List.mem_append_right _ (List.mem_append_right _ (List.mem_append_right _ (List.mem_append_right _ (List.mem_append_right _ (List.mem_append_right _ (List.mem_append_right _ (List.mem_append_right _ (List.mem_append_right _ (List.mem_append_right _ (List.mem_append_right _ (List.mem_append_right _ (List.mem_append_right _ (List.mem_append_right _ (List.mem_append_right _ (List.mem_append_right _ (List.mem_append_right _ (List.mem_append_right _ (List.mem_append_right _ (List.mem_append_right _ (List.mem_append_right _ (List.mem_append_right _ (List.mem_append_right _ (List.mem_append_right _ (List.mem_append_right _ (List.mem_append_right _ (List.mem_append_right _ (List.mem_append_right _ (List.mem_append_right _ (List.mem_append_right _ (List.mem_append_right _ (List.mem_append_right _ (List.mem_append_right _ (List.mem_append_right _ (List.mem_append_right _ (List.mem_append_right _ (List.mem_append_right _ (List.mem_append_right _ (List.mem_append_right _ (List.mem_append_right _ (List.mem_append_right _ (List.mem_append_right _ (List.mem_append_left _ h))))))))))))))))))))))))))))))))))))))))))))))))))))))))))))))))))))))))))))))))
set_option maxRecDepth 20000 in
theorem gL_law_X10_status : GoodIn wsL_law (wsV RL 212 RX10 yX10_status wsX10_status) := goodIn_app (goodIn_of _ (by decide +kernel)) ggL_law_X10_status
theorem ggL_law_X11_status : GoodIn wsL_law wsX11_status := gW_in gwX11_status (fun _ h => List.mem_append_right _ (List.mem_append_right _ (List.mem_append_right _ (List.mem_append_right _ (List.mem_append_right _ (List.mem_append_right _ (List.mem_append_right _ (List.mem_append_right _ (List.mem_append_right _ (List.mem_append_right _ (List.mem_append_right _ (List.mem_append_right _ (List.mem_append_right _ (List.mem_append_right _ (List.mem_append_right _ (List.mem_append_right _ (List.mem_append_right _ (List.mem_append_right _ (List.mem_append_right _ (List.mem_append_right _ (List.mem_append_right _ (List.mem_append_right _ (List.mem_append_right _ (List.mem_append_right _ (List.mem_append_right _ (List.mem_append_right _ (List.mem_append_right _ (List.mem_append_right _ (List.mem_append_right _ (List.mem_append_right _ (List.mem_append_right _ (List.mem_append_right _ (List.mem_append_right _ (List.mem_append_right _ (List.mem_append_right _ (List.mem_append_right _ (List.mem_append_right _ (List.mem_append_right _ (List.mem_append_right _ (List.mem_append_right _ (List.mem_append_right _ (List.mem_append_right _ (List.mem_append_right _ (List.mem_append_right _ (List.mem_append_right _ (List.mem_append_right _ (List.mem_append_right _ (List.mem_append_right _ (List.mem_append_right _ (List.mem_append_right _ (List.mem_append_right _ (List.mem_append_right _ (List.mem_append_right _ (List.mem_append_right _ (List.mem_append_right _ (List.mem_append_right _ (List.mem_append_right _ (List.mem_append_right _ (List.mem_append_right _ (List.mem_append_right _ (List.mem_append_right _ (List.mem_append_right _ (List.mem_append_right _ (List.mem_append_right _ (List.mem_append_right _ (List.mem_append_right _ (List.mem_append_right _ (List.mem_append_right _ (List.mem_append_right _ (List.mem_append_right _ (List.mem_append_right _ (List.mem_append_right _ (List.mem_append_right _ (List.mem_append_right _ (List.mem_append_right _ (List.mem_append_right _ (List.mem_append_right _ (List.mem_append_right _ (List.mem_append_right _ (List.mem_append_right _ (List.mem_append_left _ h)))))))))))))))))))))))))))))))))))))))))))))))))))))))))))))))))))))))))))))))))
set_option maxRecDepth 20000 in
theorem gL_law_X11_status : GoodIn wsL_law (wsV RL 215 RX11 yX11_status wsX11_status) := goodIn_app (goodIn_of _ (by decide +kernel)) ggL_law_X11_status
theorem ggL_law_X10_count : GoodIn wsL_law wsX10_count := gW_in gwX10_count (fun _ h => List.mem_append_right _ (List.mem_append_right _ (List.mem_append_right _ (List.mem_append_right _ (List.mem_append_right _ (List.mem_append_right _ (List.mem_append_right _ (List.mem_append_right _ (List.mem_append_right _ (List.mem_append_right _ (List.mem_append_right _ (List.mem_append_right _ (List.mem_append_right _ (List.mem_append_right _ (List.mem_append_right _ (List.mem_append_right _ (List.mem_append_right _ (List.mem_append_right _ (List.mem_append_right _ (List.mem_append_right _ (List.mem_append_right _ (List.mem_append_right _ (List.mem_append_right _ (List.mem_append_right _ (List.mem_append_right _ (List.mem_append_right _ (List.mem_append_right _ (List.mem_append_right _ (List.mem_append_right _ (List.mem_append_right _ (List.mem_append_right _ (List.mem_append_right _ (List.mem_append_right _ (List.mem_append_right _ (List.mem_append_right _ (List.mem_append_right _ (List.mem_append_right _ (List.mem_append_right _ (List.mem_append_right _ (List.mem_append_right _ (List.mem_append_right _ (List.mem_append_right _ (List.mem_append_right _ (List.mem_append_right _ (List.mem_append_right _ (List.mem_append_right _ (List.mem_append_right _ (List.mem_append_right _ (List.mem_append_right _ (List.mem_append_right _ (List.mem_append_right _ (List.mem_append_right _ (List.mem_append_right _ (List.mem_append_right _ (List.mem_append_right _ (List.mem_append_right _ (List.mem_append_right _ (List.mem_append_right _ (List.mem_append_right _ (List.mem_append_right _ (List.mem_append_right _ (List.mem_append_right _ (List.mem_append_right _ (List.mem_append_right _ (List.mem_append_right _ (List.mem_append_right _ (List.mem_append_right _ (List.mem_append_right _ (List.mem_append_right _ (List.mem_append_right _ (List.mem_append_right _ (List.mem_append_right _ (List.mem_append_right _ (List.mem_append_right _ (List.mem_append_right _ (List.mem_append_right _ (List.mem_append_right _ (List.mem_append_right _ (List.mem_append_right _ (List.mem_append_right _ (List.mem_append_right _ (List.mem_append_left _ h))))))))))))))))))))))))))))))))))))))))))))))))))))))))))))))))))))))))))))))))))
set_option maxRecDepth 20000 in
theorem gL_law_X10_count : GoodIn wsL_law (wsV RL 216 RX10 yX10_count wsX10_count) := goodIn_app (goodIn_of _ (by decide +kernel)) ggL_law_X10_count
theorem ggL_law_X11_count : GoodIn wsL_law wsX11_count := gW_in gwX11_count (fun _ h => List.mem_append_right _ (List.mem_append_right _ (List.mem_append_right _ (List.mem_append_right _ (List.mem_append_right _ (List.mem_append_right _ (List.mem_append_right _ (List.mem_append_right _ (List.mem_append_right _ (List.mem_append_right _ (List.mem_append_right _ (List.mem_append_right _ (List.mem_append_right _ (List.mem_append_right _ (List.mem_append_right _ (List.mem_append_right _ (List.mem_append_right _ (List.mem_append_right _ (List.mem_append_right _ (List.mem_append_right _ (List.mem_append_right _ (List.mem_append_right _ (List.mem_append_right _ (List.mem_append_right _ (List.mem_append_right _ (List.mem_append_right _ (List.mem_append_right _ (List.mem_append_right _ (List.mem_append_right _ (List.mem_append_right _ (List.mem_append_right _ (List.mem_append_right _ (List.mem_append_right _ (List.mem_append_right _ (List.mem_append_right _ (List.mem_append_right _ (List.mem_append_right _ (List.mem_append_right _ (List.mem_append_right _ (List.mem_append_right _ (List.mem_append_right _ (List.mem_append_right _ (List.mem_append_right _ (List.mem_append_right _ (List.mem_append_right _ (List.mem_append_right _ (List.mem_append_right _ (List.mem_append_right _ (List.mem_append_right _ (List.mem_append_right _ (List.mem_append_right _ (List.mem_append_right _ (List.mem_append_right _ (List.mem_append_right _ (List.mem_append_right _ (List.mem_append_right _ (List.mem_append_right _ (List.mem_append_right _ (List.mem_append_right _ (List.mem_append_right _ (List.mem_append_right _ (List.mem_append_right _ (List.mem_append_right _ (List.mem_append_right _ (List.mem_append_right _ (List.mem_append_right _ (List.mem_append_right _ (List.mem_append_right _ (List.mem_append_right _ (List.mem_append_right _ (List.mem_append_right _ (List.mem_append_right _ (List.mem_append_right _ (List.mem_append_right _ (List.mem_append_right _ (List.mem_append_right _ (List.mem_append_right _ (List.mem_append_right _ (List.mem_append_right _ (List.mem_append_right _ (List.mem_append_right _ (List.mem_append_right _ (h)))))))))))))))))))))))))))))))))))))))))))))))))))))))))))))))))))))))))))))))))))
set_option maxRecDepth 20000 in
theorem gL_law_X11_count : GoodIn wsL_law (wsV RL 219 RX11 yX11_count wsX11_count) := goodIn_app (goodIn_of _ (by decide +kernel)) ggL_law_X11_count
theorem bL_law_0 : fac cL_law [(0, .new 8, 3), (3, .dup, 1), (4, .invokespecial 100, 3), (7, .astore_n 1, 1), (8, .new 101, 3), (11, .dup, 1), (12, .invokespecial 103, 3), (15, .astore_n 2, 1), (16, .iconst 1, 1), (17, .newarray .long, 2), (19, .astore_n 3, 1), (20, .iconst 0, 1), (21, .istore 4, 2), (23, .iload 4, 2), (25, .aload_n 0, 1), (26, .arraylength, 1)] := fac_all 0 _ (by decide +kernel)
def dL_law_0 := bL_law_0.1
def dL_law_3 := bL_law_0.2.1
def dL_law_4 := bL_law_0.2.2.1
def dL_law_7 := bL_law_0.2.2.2.1
def dL_law_8 := bL_law_0.2.2.2.2.1
def dL_law_11 := bL_law_0.2.2.2.2.2.1
def dL_law_12 := bL_law_0.2.2.2.2.2.2.1
def dL_law_15 := bL_law_0.2.2.2.2.2.2.2.1
def dL_law_16 := bL_law_0.2.2.2.2.2.2.2.2.1
def dL_law_17 := bL_law_0.2.2.2.2.2.2.2.2.2.1
def dL_law_19 := bL_law_0.2.2.2.2.2.2.2.2.2.2.1
def dL_law_20 := bL_law_0.2.2.2.2.2.2.2.2.2.2.2.1
def dL_law_21 := bL_law_0.2.2.2.2.2.2.2.2.2.2.2.2.1
def dL_law_23 := bL_law_0.2.2.2.2.2.2.2.2.2.2.2.2.2.1
def dL_law_25 := bL_law_0.2.2.2.2.2.2.2.2.2.2.2.2.2.2.1
def dL_law_26 := bL_law_0.2.2.2.2.2.2.2.2.2.2.2.2.2.2.2.1
theorem bL_law_27 : fac cL_law [(27, .bipush 6, 2), (29, .isub, 1), (30, .if_icmp .gt 1317, 3), (33, .aload_n 0, 1), (34, .iload 4, 2), (36, .iaload, 1), (37, .bipush 63, 2), (39, .iand, 1), (40, .tableswitch 1301 0 32 #[148, 221, 249, 277, 290, 318, 358, 398, 438, 466, 494, 522, 550, 590, 642, 682, 722, 762, 802, 839, 888, 916, 972, 1000, 1052, 1092, 1132, 1184, 1197, 1225, 1238, 1251, 1276], 148), (188, .aload_n 1, 1), (189, .aload_n 0, 1), (190, .iload 4, 2), (192, .iconst 1, 1), (193, .iadd, 1), (194, .iaload, 1), (195, .aload_n 0, 1)] := fac_all 27 _ (by decide +kernel)
def dL_law_27 := bL_law_27.1
def dL_law_29 := bL_law_27.2.1
def dL_law_30 := bL_law_27.2.2.1
def dL_law_33 := bL_law_27.2.2.2.1
def dL_law_34 := bL_law_27.2.2.2.2.1
def dL_law_36 := bL_law_27.2.2.2.2.2.1
def dL_law_37 := bL_law_27.2.2.2.2.2.2.1
def dL_law_39 := bL_law_27.2.2.2.2.2.2.2.1
def dL_law_40 := bL_law_27.2.2.2.2.2.2.2.2.1
def dL_law_188 := bL_law_27.2.2.2.2.2.2.2.2.2.1
def dL_law_189 := bL_law_27.2.2.2.2.2.2.2.2.2.2.1
def dL_law_190 := bL_law_27.2.2.2.2.2.2.2.2.2.2.2.1
def dL_law_192 := bL_law_27.2.2.2.2.2.2.2.2.2.2.2.2.1
def dL_law_193 := bL_law_27.2.2.2.2.2.2.2.2.2.2.2.2.2.1
def dL_law_194 := bL_law_27.2.2.2.2.2.2.2.2.2.2.2.2.2.2.1
def dL_law_195 := bL_law_27.2.2.2.2.2.2.2.2.2.2.2.2.2.2.2.1
theorem bL_law_196 : fac cL_law [(196, .iload 4, 2), (198, .iconst 2, 1), (199, .iadd, 1), (200, .iaload, 1), (201, .aload_n 0, 1), (202, .iload 4, 2), (204, .iconst 3, 1), (205, .iadd, 1), (206, .iaload, 1), (207, .aload_n 0, 1), (208, .iload 4, 2), (210, .iconst 4, 1), (211, .iadd, 1), (212, .iaload, 1), (213, .aload_n 0, 1), (214, .iload 4, 2)] := fac_all 196 _ (by decide +kernel)
def dL_law_196 := bL_law_196.1
def dL_law_198 := bL_law_196.2.1
def dL_law_199 := bL_law_196.2.2.1
def dL_law_200 := bL_law_196.2.2.2.1
def dL_law_201 := bL_law_196.2.2.2.2.1
def dL_law_202 := bL_law_196.2.2.2.2.2.1
def dL_law_204 := bL_law_196.2.2.2.2.2.2.1
def dL_law_205 := bL_law_196.2.2.2.2.2.2.2.1
def dL_law_206 := bL_law_196.2.2.2.2.2.2.2.2.1
def dL_law_207 := bL_law_196.2.2.2.2.2.2.2.2.2.1
def dL_law_208 := bL_law_196.2.2.2.2.2.2.2.2.2.2.1
def dL_law_210 := bL_law_196.2.2.2.2.2.2.2.2.2.2.2.1
def dL_law_211 := bL_law_196.2.2.2.2.2.2.2.2.2.2.2.2.1
def dL_law_212 := bL_law_196.2.2.2.2.2.2.2.2.2.2.2.2.2.1
def dL_law_213 := bL_law_196.2.2.2.2.2.2.2.2.2.2.2.2.2.2.1
def dL_law_214 := bL_law_196.2.2.2.2.2.2.2.2.2.2.2.2.2.2.2.1
theorem bL_law_216 : fac cL_law [(216, .iconst 5, 1), (217, .iadd, 1), (218, .iaload, 1), (219, .invokevirtual 104, 3), (222, .pop, 1), (223, .aload_n 2, 1), (224, .aload_n 0, 1), (225, .iload 4, 2), (227, .iconst 1, 1), (228, .iadd, 1), (229, .iaload, 1), (230, .aload_n 0, 1), (231, .iload 4, 2), (233, .iconst 2, 1), (234, .iadd, 1), (235, .iaload, 1)] := fac_all 216 _ (by decide +kernel)
def dL_law_216 := bL_law_216.1
def dL_law_217 := bL_law_216.2.1
def dL_law_218 := bL_law_216.2.2.1
def dL_law_219 := bL_law_216.2.2.2.1
def dL_law_222 := bL_law_216.2.2.2.2.1
def dL_law_223 := bL_law_216.2.2.2.2.2.1
def dL_law_224 := bL_law_216.2.2.2.2.2.2.1
def dL_law_225 := bL_law_216.2.2.2.2.2.2.2.1
def dL_law_227 := bL_law_216.2.2.2.2.2.2.2.2.1
def dL_law_228 := bL_law_216.2.2.2.2.2.2.2.2.2.1
def dL_law_229 := bL_law_216.2.2.2.2.2.2.2.2.2.2.1
def dL_law_230 := bL_law_216.2.2.2.2.2.2.2.2.2.2.2.1
def dL_law_231 := bL_law_216.2.2.2.2.2.2.2.2.2.2.2.2.1
def dL_law_233 := bL_law_216.2.2.2.2.2.2.2.2.2.2.2.2.2.1
def dL_law_234 := bL_law_216.2.2.2.2.2.2.2.2.2.2.2.2.2.2.1
def dL_law_235 := bL_law_216.2.2.2.2.2.2.2.2.2.2.2.2.2.2.2.1
theorem bL_law_236 : fac cL_law [(236, .aload_n 0, 1), (237, .iload 4, 2), (239, .iconst 3, 1), (240, .iadd, 1), (241, .iaload, 1), (242, .aload_n 0, 1), (243, .iload 4, 2), (245, .iconst 4, 1), (246, .iadd, 1), (247, .iaload, 1), (248, .aload_n 0, 1), (249, .iload 4, 2), (251, .iconst 5, 1), (252, .iadd, 1), (253, .iaload, 1), (254, .invokevirtual 108, 3)] := fac_all 236 _ (by decide +kernel)
def dL_law_236 := bL_law_236.1
def dL_law_237 := bL_law_236.2.1
def dL_law_239 := bL_law_236.2.2.1
def dL_law_240 := bL_law_236.2.2.2.1
def dL_law_241 := bL_law_236.2.2.2.2.1
def dL_law_242 := bL_law_236.2.2.2.2.2.1
def dL_law_243 := bL_law_236.2.2.2.2.2.2.1
def dL_law_245 := bL_law_236.2.2.2.2.2.2.2.1
def dL_law_246 := bL_law_236.2.2.2.2.2.2.2.2.1
def dL_law_247 := bL_law_236.2.2.2.2.2.2.2.2.2.1
def dL_law_248 := bL_law_236.2.2.2.2.2.2.2.2.2.2.1
def dL_law_249 := bL_law_236.2.2.2.2.2.2.2.2.2.2.2.1
def dL_law_251 := bL_law_236.2.2.2.2.2.2.2.2.2.2.2.2.1
def dL_law_252 := bL_law_236.2.2.2.2.2.2.2.2.2.2.2.2.2.1
def dL_law_253 := bL_law_236.2.2.2.2.2.2.2.2.2.2.2.2.2.2.1
def dL_law_254 := bL_law_236.2.2.2.2.2.2.2.2.2.2.2.2.2.2.2.1
theorem bL_law_257 : fac cL_law [(257, .pop, 1), (258, .goto 1083, 3), (261, .aload_n 1, 1), (262, .aload_n 0, 1), (263, .iload 4, 2), (265, .iconst 1, 1), (266, .iadd, 1), (267, .iaload, 1), (268, .aload_n 3, 1), (269, .invokestatic 109, 3), (272, .istore 5, 2), (274, .aload_n 2, 1), (275, .aload_n 0, 1), (276, .iload 4, 2), (278, .iconst 1, 1), (279, .iadd, 1)] := fac_all 257 _ (by decide +kernel)
def dL_law_257 := bL_law_257.1
def dL_law_258 := bL_law_257.2.1
def dL_law_261 := bL_law_257.2.2.1
def dL_law_262 := bL_law_257.2.2.2.1
def dL_law_263 := bL_law_257.2.2.2.2.1
def dL_law_265 := bL_law_257.2.2.2.2.2.1
def dL_law_266 := bL_law_257.2.2.2.2.2.2.1
def dL_law_267 := bL_law_257.2.2.2.2.2.2.2.1
def dL_law_268 := bL_law_257.2.2.2.2.2.2.2.2.1
def dL_law_269 := bL_law_257.2.2.2.2.2.2.2.2.2.1
def dL_law_272 := bL_law_257.2.2.2.2.2.2.2.2.2.2.1
def dL_law_274 := bL_law_257.2.2.2.2.2.2.2.2.2.2.2.1
def dL_law_275 := bL_law_257.2.2.2.2.2.2.2.2.2.2.2.2.1
def dL_law_276 := bL_law_257.2.2.2.2.2.2.2.2.2.2.2.2.2.1
def dL_law_278 := bL_law_257.2.2.2.2.2.2.2.2.2.2.2.2.2.2.1
def dL_law_279 := bL_law_257.2.2.2.2.2.2.2.2.2.2.2.2.2.2.2.1
theorem bL_law_280 : fac cL_law [(280, .iaload, 1), (281, .invokevirtual 114, 3), (284, .istore 6, 2), (286, .goto 1055, 3), (289, .aload_n 1, 1), (290, .aload_n 0, 1), (291, .iload 4, 2), (293, .iconst 1, 1), (294, .iadd, 1), (295, .iaload, 1), (296, .aload_n 3, 1), (297, .invokestatic 115, 3), (300, .istore 5, 2), (302, .aload_n 2, 1), (303, .aload_n 0, 1), (304, .iload 4, 2)] := fac_all 280 _ (by decide +kernel)
def dL_law_280 := bL_law_280.1
def dL_law_281 := bL_law_280.2.1
def dL_law_284 := bL_law_280.2.2.1
def dL_law_286 := bL_law_280.2.2.2.1
def dL_law_289 := bL_law_280.2.2.2.2.1
def dL_law_290 := bL_law_280.2.2.2.2.2.1
def dL_law_291 := bL_law_280.2.2.2.2.2.2.1
def dL_law_293 := bL_law_280.2.2.2.2.2.2.2.1
def dL_law_294 := bL_law_280.2.2.2.2.2.2.2.2.1
def dL_law_295 := bL_law_280.2.2.2.2.2.2.2.2.2.1
def dL_law_296 := bL_law_280.2.2.2.2.2.2.2.2.2.2.1
def dL_law_297 := bL_law_280.2.2.2.2.2.2.2.2.2.2.2.1
def dL_law_300 := bL_law_280.2.2.2.2.2.2.2.2.2.2.2.2.1
def dL_law_302 := bL_law_280.2.2.2.2.2.2.2.2.2.2.2.2.2.1
def dL_law_303 := bL_law_280.2.2.2.2.2.2.2.2.2.2.2.2.2.2.1
end
