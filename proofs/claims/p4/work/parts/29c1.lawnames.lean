theorem tbX11_clause : ∀ w ∈ wsX11_clause, w ∈ lw_tbl := tb_cons (tbC_in 4 _ (List.mem_of_getElem? (i := 233) (by decide +kernel))) (tb_app tboX11_clause (tb_app tbn_10 (tb_app tbX11_kindHere (tb_app tbX11_wrong (tb_app tbX11_skipWord (tb_app tbX11_number tbX11_closes))))))
set_option maxRecDepth 20000 in
theorem tboX11_siege : ∀ w ∈ woX11_siege, w ∈ lw_tbl := lw_mem3 woX11_siege [(4, 93), (4, 94), (4, 98), (4, 97), (4, 95), (4, 99), (4, 96), (4, 104), (4, 211), (4, 212), (0, 13), (4, 214), (4, 216), (7, 39), (4, 218), (4, 220), (7, 40), (4, 222), (4, 224), (7, 41), (4, 85), (4, 87), (7, 37), (0, 61), (4, 230), (4, 232), (7, 43), (4, 89), (4, 91), (7, 38)] (by decide +kernel)
theorem tbX11_siege : ∀ w ∈ wsX11_siege, w ∈ lw_tbl := tb_cons (tbC_in 4 _ (List.mem_of_getElem? (i := 210) (by decide +kernel))) (tb_app tboX11_siege (tb_app tbn_10 (tb_app tbX11_in (tb_app tbX11_bad (tb_app tbX11_starts (tb_app tbX11_tellsNothing (tb_app tbX11_clause (tb_app tbX11_blanks tbX11_stands0))))))))
set_option maxRecDepth 20000 in
theorem tboX5_clear : ∀ w ∈ woX5_clear, w ∈ lw_tbl := lw_mem3 woX5_clear [(0, 238), (0, 235), (0, 237), (2, 161), (1, 11), (0, 12)] (by decide +kernel)
theorem tbX5_clear : ∀ w ∈ wsX5_clear, w ∈ lw_tbl := tb_cons (tbC_in 2 _ (List.mem_of_getElem? (i := 160) (by decide +kernel))) (tb_app tboX5_clear (tb_app tbn_8 tbJ7_fill_53178))
set_option maxRecDepth 20000 in
theorem tboX10_contract : ∀ w ∈ woX10_contract, w ∈ lw_tbl := lw_mem3 woX10_contract [(1, 14), (1, 19), (1, 15), (0, 45), (1, 18), (1, 16), (0, 90), (1, 13), (1, 141), (1, 143), (7, 3), (0, 1), (0, 17), (2, 157), (2, 158), (2, 159), (0, 11), (0, 12), (1, 213), (1, 214), (1, 215), (0, 2), (1, 218), (0, 18), (1, 222), (0, 4), (2, 3), (0, 19), (0, 20), (0, 21), (0, 22), (2, 74), (2, 83), (2, 95), (2, 104), (2, 124)] (by decide +kernel)
theorem tbX10_contract : ∀ w ∈ wsX10_contract, w ∈ lw_tbl := tb_cons (tbC_in 2 _ (List.mem_of_getElem? (i := 156) (by decide +kernel))) (tb_app tboX10_contract (tb_app tbn_9 (tb_app tbn_0 (tb_app tbn_1 (tb_app tbn_8 (tb_app tbX10_demand (tb_app tbX5_clear tbX7_read)))))))
set_option maxRecDepth 20000 in
theorem tboL_contract : ∀ w ∈ woL_contract, w ∈ lw_tbl := lw_mem3 woL_contract [(1, 136), (2, 153), (2, 154), (2, 155), (0, 1), (0, 17), (0, 11), (0, 12), (0, 2), (1, 218), (0, 18), (1, 222), (0, 4), (2, 3), (0, 19), (0, 20), (0, 21), (0, 22), (2, 74), (2, 83), (2, 95), (2, 104), (2, 124)] (by decide +kernel)
theorem tbL_contract : ∀ w ∈ wsL_contract, w ∈ lw_tbl := tb_cons (tbC_in 2 _ (List.mem_of_getElem? (i := 152) (by decide +kernel))) (tb_app tboL_contract (tb_app tbn_9 (tb_app tbn_0 (tb_app tbn_1 (tb_app tbn_8 tbX10_contract)))))
set_option maxRecDepth 20000 in
theorem tboX11_rules : ∀ w ∈ woX11_rules, w ∈ lw_tbl := lw_mem3 woX11_rules [(4, 97), (4, 100), (4, 98), (4, 104), (4, 109), (4, 108), (4, 238), (5, 0), (7, 45), (0, 13), (5, 9), (5, 11), (7, 47), (5, 13), (5, 15), (7, 48), (5, 17), (5, 19), (7, 49), (5, 25), (5, 27), (7, 50)] (by decide +kernel)
theorem tbX11_rules : ∀ w ∈ wsX11_rules, w ∈ lw_tbl := tb_cons (tbC_in 5 _ (List.mem_of_getElem? (i := 36) (by decide +kernel))) (tb_app tboX11_rules (tb_app tbn_10 (tb_app tbX11_isWord (tb_app tbX11_wrong (tb_app tbX11_skipWord (tb_app tbX11_number tbX11_closes))))))
set_option maxRecDepth 20000 in
theorem tboX11_contract : ∀ w ∈ woX11_contract, w ∈ lw_tbl := lw_mem3 woX11_contract [(4, 93), (4, 94), (4, 96), (4, 107), (4, 108), (4, 109), (4, 98), (4, 97), (4, 95), (4, 99), (4, 111), (4, 110), (4, 211), (4, 212), (0, 13), (4, 214), (4, 216), (7, 39), (4, 218), (4, 220), (7, 40), (4, 222), (4, 224), (7, 41), (5, 33), (5, 35), (7, 51)] (by decide +kernel)
theorem tbX11_contract : ∀ w ∈ wsX11_contract, w ∈ lw_tbl := tb_cons (tbC_in 5 _ (List.mem_of_getElem? (i := 32) (by decide +kernel))) (tb_app tboX11_contract (tb_app tbn_10 (tb_app tbX11_in (tb_app tbX11_bad (tb_app tbX11_starts (tb_app tbX11_rules tbX11_blanks))))))
set_option maxRecDepth 20000 in
theorem tboX11_thrown : ∀ w ∈ woX11_thrown, w ∈ lw_tbl := lw_mem3 woX11_thrown [(4, 93)] (by decide +kernel)
theorem tbX11_thrown : ∀ w ∈ wsX11_thrown, w ∈ lw_tbl := tb_cons (tbC_in 4 _ (List.mem_of_getElem? (i := 202) (by decide +kernel))) (tb_app tboX11_thrown tbn_10)
set_option maxRecDepth 20000 in
theorem tboX10_fault : ∀ w ∈ woX10_fault, w ∈ lw_tbl := lw_mem3 woX10_fault [(1, 15), (0, 45)] (by decide +kernel)
theorem tbX10_fault : ∀ w ∈ wsX10_fault, w ∈ lw_tbl := tb_cons (tbC_in 1 _ (List.mem_of_getElem? (i := 64) (by decide +kernel))) (tb_app tboX10_fault (tb_app tbn_9 tbn_0))
set_option maxRecDepth 20000 in
theorem tboX11_fault : ∀ w ∈ woX11_fault, w ∈ lw_tbl := lw_mem3 woX11_fault [(4, 93), (4, 96)] (by decide +kernel)
theorem tbX11_fault : ∀ w ∈ wsX11_fault, w ∈ lw_tbl := tb_cons (tbC_in 5 _ (List.mem_of_getElem? (i := 40) (by decide +kernel))) (tb_app tboX11_fault tbn_10)
set_option maxRecDepth 20000 in
theorem tboX10_told : ∀ w ∈ woX10_told, w ∈ lw_tbl := lw_mem3 woX10_told [(1, 20), (0, 187), (0, 118), (1, 16), (0, 90), (1, 19), (0, 124), (1, 128), (1, 107), (0, 1), (1, 141), (1, 143), (7, 3), (0, 17)] (by decide +kernel)
theorem tbX10_told : ∀ w ∈ wsX10_told, w ∈ lw_tbl := tb_cons (tbC_in 2 _ (List.mem_of_getElem? (i := 168) (by decide +kernel))) (tb_app tboX10_told (tb_app tbn_9 (tb_app tbn_6 (tb_app tbn_2 (tb_app tbn_1 (tb_app tbX10_within tbX10_demand))))))
set_option maxRecDepth 20000 in
theorem tboL_told : ∀ w ∈ woL_told, w ∈ lw_tbl := lw_mem3 woL_told [(1, 136), (2, 165), (2, 166), (2, 167), (0, 1), (0, 17)] (by decide +kernel)
theorem tbL_told : ∀ w ∈ wsL_told, w ∈ lw_tbl := tb_cons (tbC_in 2 _ (List.mem_of_getElem? (i := 164) (by decide +kernel))) (tb_app tboL_told (tb_app tbn_9 (tb_app tbn_6 (tb_app tbn_2 (tb_app tbn_1 tbX10_told)))))
set_option maxRecDepth 20000 in
theorem tboX11_told : ∀ w ∈ woX11_told, w ∈ lw_tbl := lw_mem3 woX11_told [(4, 93), (4, 104), (4, 107), (4, 112), (4, 211), (4, 212), (0, 13), (4, 214), (4, 216), (7, 39)] (by decide +kernel)
theorem tbX11_told : ∀ w ∈ wsX11_told, w ∈ lw_tbl := tb_cons (tbC_in 5 _ (List.mem_of_getElem? (i := 44) (by decide +kernel))) (tb_app tboX11_told (tb_app tbn_10 (tb_app tbX11_in tbX11_bad)))
set_option maxRecDepth 20000 in
theorem tboX10_demandWall : ∀ w ∈ woX10_demandWall, w ∈ lw_tbl := lw_mem3 woX10_demandWall [(2, 181), (0, 23), (1, 16), (0, 90), (1, 25), (1, 128), (1, 107), (0, 1)] (by decide +kernel)
def tbS_12 : List Cond := ([(7, 4), (0, 14), (0, 15), (0, 16), (0, 23), (0, 31), (0, 32), (0, 33), (0, 39), (0, 59), (0, 70), (0, 109), (0, 115), (0, 131), (0, 137), (0, 141), (0, 147), (0, 172), (0, 178), (0, 185), (0, 202), (0, 211), (0, 229), (1, 52), (1, 99), (1, 100), (1, 101), (1, 109), (1, 114), (1, 119), (1, 148), (1, 149), (1, 150), (1, 151), (1, 152), (1, 153), (1, 157), (1, 159), (1, 161), (1, 163), (1, 165), (1, 166), (1, 167), (1, 168), (1, 169), (1, 170), (1, 171), (1, 172), (1, 173), (1, 174), (1, 175), (1, 176), (1, 177), (1, 178), (1, 180), (1, 181), (1, 182), (1, 183), (1, 184), (1, 185), (1, 191), (1, 192), (1, 193), (1, 194), (1, 195), (1, 196), (1, 197), (1, 198), (1, 200), (1, 201), (1, 202), (1, 203), (1, 204), (1, 205), (1, 206), (1, 207), (1, 209), (1, 210), (2, 172), (2, 181), (2, 182), (2, 183), (2, 184), (2, 185), (2, 186), (2, 187), (2, 188), (2, 189), (2, 191), (2, 192), (2, 193), (2, 194), (2, 195), (2, 196), (4, 82), (4, 198), (6, 40), (6, 42), (6, 43), (6, 44), (6, 45), (6, 46), (6, 47), (6, 48), (6, 49), (6, 50), (6, 51), (6, 52), (6, 54), (6, 56), (6, 57)] : List (Nat × Nat)).filterMap (fun q => (tbC q.1)[q.2]?)
theorem tbS_12_in : ∀ w ∈ tbS_12, w ∈ lw_tbl := lw_mem3 tbS_12 [(7, 4), (0, 14), (0, 15), (0, 16), (0, 23), (0, 31), (0, 32), (0, 33), (0, 39), (0, 59), (0, 70), (0, 109), (0, 115), (0, 131), (0, 137), (0, 141), (0, 147), (0, 172), (0, 178), (0, 185), (0, 202), (0, 211), (0, 229), (1, 52), (1, 99), (1, 100), (1, 101), (1, 109), (1, 114), (1, 119), (1, 148), (1, 149), (1, 150), (1, 151), (1, 152), (1, 153), (1, 157), (1, 159), (1, 161), (1, 163), (1, 165), (1, 166), (1, 167), (1, 168), (1, 169), (1, 170), (1, 171), (1, 172), (1, 173), (1, 174), (1, 175), (1, 176), (1, 177), (1, 178), (1, 180), (1, 181), (1, 182), (1, 183), (1, 184), (1, 185), (1, 191), (1, 192), (1, 193), (1, 194), (1, 195), (1, 196), (1, 197), (1, 198), (1, 200), (1, 201), (1, 202), (1, 203), (1, 204), (1, 205), (1, 206), (1, 207), (1, 209), (1, 210), (2, 172), (2, 181), (2, 182), (2, 183), (2, 184), (2, 185), (2, 186), (2, 187), (2, 188), (2, 189), (2, 191), (2, 192), (2, 193), (2, 194), (2, 195), (2, 196), (4, 82), (4, 198), (6, 40), (6, 42), (6, 43), (6, 44), (6, 45), (6, 46), (6, 47), (6, 48), (6, 49), (6, 50), (6, 51), (6, 52), (6, 54), (6, 56), (6, 57)] rfl
set_option maxRecDepth 20000 in
theorem tbI_12 : ∀ w ∈ (vx_atS RX10 262 "java/lang/IndexOutOfBoundsException" ["java/lang/RuntimeException", "java/lang/Exception"]).filter goodWord, w ∈ tbS_12 := by decide +kernel
theorem tbn_12 : ∀ w ∈ (vx_atS RX10 262 "java/lang/IndexOutOfBoundsException" ["java/lang/RuntimeException", "java/lang/Exception"]).filter goodWord, w ∈ lw_tbl := fun w h => tbS_12_in w (tbI_12 w h)
theorem tbX10_demandWall : ∀ w ∈ wsX10_demandWall, w ∈ lw_tbl := tb_cons (tbC_in 2 _ (List.mem_of_getElem? (i := 180) (by decide +kernel))) (tb_app tboX10_demandWall (tb_app tbn_9 (tb_app tbn_1 (tb_app tbn_12 tbX10_within))))
set_option maxRecDepth 20000 in
theorem tboX10_wall : ∀ w ∈ woX10_wall, w ∈ lw_tbl := lw_mem3 woX10_wall [(1, 16), (0, 83), (1, 20), (0, 187), (0, 118), (0, 85), (2, 177), (2, 179), (7, 13), (0, 1), (0, 23), (1, 128), (1, 107), (1, 141), (1, 143), (7, 3), (0, 17)] (by decide +kernel)
theorem tbX10_wall : ∀ w ∈ wsX10_wall, w ∈ lw_tbl := tb_cons (tbC_in 2 _ (List.mem_of_getElem? (i := 176) (by decide +kernel))) (tb_app tboX10_wall (tb_app tbn_9 (tb_app tbn_1 (tb_app tbn_6 (tb_app tbn_2 (tb_app tbX10_demandWall (tb_app tbX10_within tbX10_demand)))))))
set_option maxRecDepth 20000 in
theorem tboL_wall : ∀ w ∈ woL_wall, w ∈ lw_tbl := lw_mem3 woL_wall [(2, 172), (1, 136), (2, 173), (2, 174), (2, 175), (0, 1), (0, 23), (0, 17)] (by decide +kernel)
theorem tbL_wall : ∀ w ∈ wsL_wall, w ∈ lw_tbl := tb_cons (tbC_in 2 _ (List.mem_of_getElem? (i := 171) (by decide +kernel))) (tb_app tboL_wall (tb_app tbn_9 (tb_app tbn_1 (tb_app tbn_6 (tb_app tbn_2 tbX10_wall)))))
set_option maxRecDepth 20000 in
theorem tboX11_isWall : ∀ w ∈ woX11_isWall, w ∈ lw_tbl := lw_mem3 woX11_isWall [(4, 104), (4, 211), (4, 212), (0, 13)] (by decide +kernel)
theorem tbX11_isWall : ∀ w ∈ wsX11_isWall, w ∈ lw_tbl := tb_cons (tbC_in 5 _ (List.mem_of_getElem? (i := 52) (by decide +kernel))) (tb_app tboX11_isWall (tb_app tbn_10 tbX11_in))
set_option maxRecDepth 20000 in
theorem tboX11_wall : ∀ w ∈ woX11_wall, w ∈ lw_tbl := lw_mem3 woX11_wall [(4, 93), (4, 106), (4, 112), (5, 49), (5, 51), (7, 52), (0, 13), (4, 211), (4, 212), (4, 214), (4, 216), (7, 39)] (by decide +kernel)
theorem tbX11_wall : ∀ w ∈ wsX11_wall, w ∈ lw_tbl := tb_cons (tbC_in 5 _ (List.mem_of_getElem? (i := 48) (by decide +kernel))) (tb_app tboX11_wall (tb_app tbn_10 (tb_app tbX11_isWall (tb_app tbX11_bad tbX11_in))))
set_option maxRecDepth 20000 in
theorem tboX10_demandContract : ∀ w ∈ woX10_demandContract, w ∈ lw_tbl := lw_mem3 woX10_demandContract [(2, 209), (0, 24), (1, 19), (1, 25), (1, 128), (1, 107), (0, 1)] (by decide +kernel)
def tbS_13 : List Cond := ([(7, 4), (0, 14), (0, 15), (0, 16), (0, 24), (0, 31), (0, 32), (0, 33), (0, 39), (0, 59), (0, 70), (0, 109), (0, 115), (0, 131), (0, 137), (0, 141), (0, 147), (0, 172), (0, 178), (0, 185), (0, 202), (0, 211), (0, 229), (1, 52), (1, 99), (1, 100), (1, 101), (1, 109), (1, 114), (1, 119), (1, 148), (1, 149), (1, 150), (1, 151), (1, 152), (1, 153), (1, 157), (1, 159), (1, 161), (1, 163), (1, 165), (1, 166), (1, 167), (1, 168), (1, 169), (1, 170), (1, 171), (1, 172), (1, 173), (1, 174), (1, 175), (1, 176), (1, 177), (1, 179), (1, 180), (1, 181), (1, 182), (1, 183), (1, 184), (1, 185), (1, 191), (1, 192), (1, 193), (1, 194), (1, 195), (1, 196), (1, 197), (1, 198), (1, 200), (1, 201), (1, 202), (1, 203), (1, 204), (1, 205), (1, 206), (1, 207), (1, 209), (1, 210), (2, 200), (2, 209), (2, 210), (2, 211), (2, 212), (2, 213), (2, 214), (2, 215), (2, 216), (2, 217), (2, 219), (2, 220), (2, 221), (2, 222), (2, 223), (2, 224), (4, 82), (4, 198), (6, 40), (6, 42), (6, 43), (6, 44), (6, 45), (6, 46), (6, 47), (6, 48), (6, 49), (6, 50), (6, 51), (6, 52), (6, 55), (6, 56), (6, 57)] : List (Nat × Nat)).filterMap (fun q => (tbC q.1)[q.2]?)
theorem tbS_13_in : ∀ w ∈ tbS_13, w ∈ lw_tbl := lw_mem3 tbS_13 [(7, 4), (0, 14), (0, 15), (0, 16), (0, 24), (0, 31), (0, 32), (0, 33), (0, 39), (0, 59), (0, 70), (0, 109), (0, 115), (0, 131), (0, 137), (0, 141), (0, 147), (0, 172), (0, 178), (0, 185), (0, 202), (0, 211), (0, 229), (1, 52), (1, 99), (1, 100), (1, 101), (1, 109), (1, 114), (1, 119), (1, 148), (1, 149), (1, 150), (1, 151), (1, 152), (1, 153), (1, 157), (1, 159), (1, 161), (1, 163), (1, 165), (1, 166), (1, 167), (1, 168), (1, 169), (1, 170), (1, 171), (1, 172), (1, 173), (1, 174), (1, 175), (1, 176), (1, 177), (1, 179), (1, 180), (1, 181), (1, 182), (1, 183), (1, 184), (1, 185), (1, 191), (1, 192), (1, 193), (1, 194), (1, 195), (1, 196), (1, 197), (1, 198), (1, 200), (1, 201), (1, 202), (1, 203), (1, 204), (1, 205), (1, 206), (1, 207), (1, 209), (1, 210), (2, 200), (2, 209), (2, 210), (2, 211), (2, 212), (2, 213), (2, 214), (2, 215), (2, 216), (2, 217), (2, 219), (2, 220), (2, 221), (2, 222), (2, 223), (2, 224), (4, 82), (4, 198), (6, 40), (6, 42), (6, 43), (6, 44), (6, 45), (6, 46), (6, 47), (6, 48), (6, 49), (6, 50), (6, 51), (6, 52), (6, 55), (6, 56), (6, 57)] rfl
set_option maxRecDepth 20000 in
theorem tbI_13 : ∀ w ∈ (nz_at RX10 267).filter goodWord, w ∈ tbS_13 := by decide +kernel
theorem tbn_13 : ∀ w ∈ (nz_at RX10 267).filter goodWord, w ∈ lw_tbl := fun w h => tbS_13_in w (tbI_13 w h)
theorem tbX10_demandContract : ∀ w ∈ wsX10_demandContract, w ∈ lw_tbl := tb_cons (tbC_in 2 _ (List.mem_of_getElem? (i := 208) (by decide +kernel))) (tb_app tboX10_demandContract (tb_app tbn_9 (tb_app tbn_13 tbX10_within)))
set_option maxRecDepth 20000 in
theorem tboX5_breachesTold : ∀ w ∈ woX5_breachesTold, w ∈ lw_tbl := lw_mem3 woX5_breachesTold [(0, 237)] (by decide +kernel)
theorem tbX5_breachesTold : ∀ w ∈ wsX5_breachesTold, w ∈ lw_tbl := tb_cons (tbC_in 2 _ (List.mem_of_getElem? (i := 232) (by decide +kernel))) (tb_app tboX5_breachesTold tbn_8)
set_option maxRecDepth 20000 in
theorem tboX5_winterPay : ∀ w ∈ woX5_winterPay, w ∈ lw_tbl := lw_mem3 woX5_winterPay [(0, 235)] (by decide +kernel)
theorem tbX5_winterPay : ∀ w ∈ wsX5_winterPay, w ∈ lw_tbl := tb_cons (tbC_in 2 _ (List.mem_of_getElem? (i := 236) (by decide +kernel))) (tb_app tboX5_winterPay tbn_8)
set_option maxRecDepth 20000 in
theorem tboX5_answer : ∀ w ∈ woX5_answer, w ∈ lw_tbl := lw_mem3 woX5_answer [(0, 235), (2, 229), (2, 231), (7, 15), (0, 11), (2, 233), (2, 235), (7, 16)] (by decide +kernel)
theorem tbX5_answer : ∀ w ∈ wsX5_answer, w ∈ lw_tbl := tb_cons (tbC_in 2 _ (List.mem_of_getElem? (i := 228) (by decide +kernel))) (tb_app tboX5_answer (tb_app tbn_8 (tb_app tbX5_breachesTold tbX5_winterPay)))
set_option maxRecDepth 20000 in
theorem tboX10_rule : ∀ w ∈ woX10_rule, w ∈ lw_tbl := lw_mem3 woX10_rule [(1, 18), (2, 205), (2, 207), (7, 14), (0, 1), (0, 24), (1, 128), (1, 107), (1, 141), (1, 143), (7, 3), (0, 17), (2, 225), (2, 226), (2, 227), (0, 11)] (by decide +kernel)
theorem tbX10_rule : ∀ w ∈ wsX10_rule, w ∈ lw_tbl := tb_cons (tbC_in 2 _ (List.mem_of_getElem? (i := 204) (by decide +kernel))) (tb_app tboX10_rule (tb_app tbn_9 (tb_app tbn_8 (tb_app tbX10_demandContract (tb_app tbX10_within (tb_app tbX10_demand tbX5_answer))))))
set_option maxRecDepth 20000 in
theorem tboL_rule : ∀ w ∈ woL_rule, w ∈ lw_tbl := lw_mem3 woL_rule [(2, 200), (1, 136), (2, 201), (2, 202), (2, 203), (0, 1), (0, 24), (0, 17), (0, 11)] (by decide +kernel)
theorem tbL_rule : ∀ w ∈ wsL_rule, w ∈ lw_tbl := tb_cons (tbC_in 2 _ (List.mem_of_getElem? (i := 199) (by decide +kernel))) (tb_app tboL_rule (tb_app tbn_9 (tb_app tbn_8 tbX10_rule)))
set_option maxRecDepth 20000 in
theorem tboX11_isContract : ∀ w ∈ woX11_isContract, w ∈ lw_tbl := lw_mem3 woX11_isContract [(4, 107), (4, 211), (4, 212), (0, 13)] (by decide +kernel)
theorem tbX11_isContract : ∀ w ∈ wsX11_isContract, w ∈ lw_tbl := tb_cons (tbC_in 5 _ (List.mem_of_getElem? (i := 60) (by decide +kernel))) (tb_app tboX11_isContract (tb_app tbn_10 tbX11_in))
set_option maxRecDepth 20000 in
theorem tboX11_rule : ∀ w ∈ woX11_rule, w ∈ lw_tbl := lw_mem3 woX11_rule [(4, 93), (4, 110), (5, 57), (5, 59), (7, 53), (0, 13), (4, 211), (4, 212), (4, 214), (4, 216), (7, 39)] (by decide +kernel)
theorem tbX11_rule : ∀ w ∈ wsX11_rule, w ∈ lw_tbl := tb_cons (tbC_in 5 _ (List.mem_of_getElem? (i := 56) (by decide +kernel))) (tb_app tboX11_rule (tb_app tbn_10 (tb_app tbX11_isContract (tb_app tbX11_bad tbX11_in))))
set_option maxRecDepth 20000 in
theorem tboX6_wanted : ∀ w ∈ woX6_wanted, w ∈ lw_tbl := lw_mem3 woX6_wanted [(0, 77)] (by decide +kernel)
theorem tbX6_wanted : ∀ w ∈ wsX6_wanted, w ∈ lw_tbl := tb_cons (tbC_in 3 _ (List.mem_of_getElem? (i := 7) (by decide +kernel))) (tb_app tboX6_wanted tbn_1)
set_option maxRecDepth 20000 in
theorem tboX10_wants : ∀ w ∈ woX10_wants, w ∈ lw_tbl := lw_mem3 woX10_wants [(1, 16), (1, 128), (1, 107), (0, 1), (1, 141), (1, 143), (7, 3), (0, 17), (3, 4), (3, 5), (3, 6), (0, 4)] (by decide +kernel)
theorem tbX10_wants : ∀ w ∈ wsX10_wants, w ∈ lw_tbl := tb_cons (tbC_in 3 _ (List.mem_of_getElem? (i := 3) (by decide +kernel))) (tb_app tboX10_wants (tb_app tbn_9 (tb_app tbn_1 (tb_app tbX10_within (tb_app tbX10_demand tbX6_wanted)))))
set_option maxRecDepth 20000 in
theorem tboL_wants : ∀ w ∈ woL_wants, w ∈ lw_tbl := lw_mem3 woL_wants [(1, 136), (3, 0), (3, 1), (3, 2), (0, 1), (0, 17), (0, 4)] (by decide +kernel)
theorem tbL_wants : ∀ w ∈ wsL_wants, w ∈ lw_tbl := tb_cons (tbC_in 2 _ (List.mem_of_getElem? (i := 239) (by decide +kernel))) (tb_app tboL_wants (tb_app tbn_9 (tb_app tbn_1 tbX10_wants)))
set_option maxRecDepth 20000 in
theorem tboX11_wantsFor : ∀ w ∈ woX11_wantsFor, w ∈ lw_tbl := lw_mem3 woX11_wantsFor [(4, 104)] (by decide +kernel)
theorem tbX11_wantsFor : ∀ w ∈ wsX11_wantsFor, w ∈ lw_tbl := tb_cons (tbC_in 5 _ (List.mem_of_getElem? (i := 68) (by decide +kernel))) (tb_app tboX11_wantsFor tbn_10)
set_option maxRecDepth 20000 in
theorem tboX11_wants : ∀ w ∈ woX11_wants, w ∈ lw_tbl := lw_mem3 woX11_wants [(4, 93), (4, 211), (4, 212), (0, 13), (4, 214), (4, 216), (7, 39), (5, 65), (5, 67), (7, 54)] (by decide +kernel)
theorem tbX11_wants : ∀ w ∈ wsX11_wants, w ∈ lw_tbl := tb_cons (tbC_in 5 _ (List.mem_of_getElem? (i := 64) (by decide +kernel))) (tb_app tboX11_wants (tb_app tbn_10 (tb_app tbX11_in (tb_app tbX11_bad tbX11_wantsFor))))
set_option maxRecDepth 20000 in
theorem tboX10_demandContractOrNone : ∀ w ∈ woX10_demandContractOrNone, w ∈ lw_tbl := lw_mem3 woX10_demandContractOrNone [(2, 205), (2, 207), (7, 14), (0, 1), (0, 24)] (by decide +kernel)
theorem tbX10_demandContractOrNone : ∀ w ∈ wsX10_demandContractOrNone, w ∈ lw_tbl := tb_cons (tbC_in 3 _ (List.mem_of_getElem? (i := 18) (by decide +kernel))) (tb_app tboX10_demandContractOrNone (tb_app tbn_9 tbX10_demandContract))
set_option maxRecDepth 20000 in
theorem tboX4_pledge : ∀ w ∈ woX4_pledge, w ∈ lw_tbl := lw_mem3 woX4_pledge [(0, 116), (0, 122)] (by decide +kernel)
theorem tbX4_pledge : ∀ w ∈ wsX4_pledge, w ∈ lw_tbl := tb_cons (tbC_in 3 _ (List.mem_of_getElem? (i := 22) (by decide +kernel))) (tb_app tboX4_pledge tbn_2)
set_option maxRecDepth 20000 in
theorem tboX10_sign : ∀ w ∈ woX10_sign, w ∈ lw_tbl := lw_mem3 woX10_sign [(1, 20), (0, 187), (0, 118), (3, 15), (3, 17), (7, 17), (0, 1), (0, 24), (3, 19), (3, 20), (3, 21), (0, 6)] (by decide +kernel)
theorem tbX10_sign : ∀ w ∈ wsX10_sign, w ∈ lw_tbl := tb_cons (tbC_in 3 _ (List.mem_of_getElem? (i := 14) (by decide +kernel))) (tb_app tboX10_sign (tb_app tbn_9 (tb_app tbn_6 (tb_app tbn_2 (tb_app tbX10_demandContractOrNone tbX4_pledge)))))
set_option maxRecDepth 20000 in
theorem tboL_sign : ∀ w ∈ woL_sign, w ∈ lw_tbl := lw_mem3 woL_sign [(2, 200), (3, 11), (3, 12), (3, 13), (0, 1), (0, 24), (0, 6)] (by decide +kernel)
theorem tbL_sign : ∀ w ∈ wsL_sign, w ∈ lw_tbl := tb_cons (tbC_in 3 _ (List.mem_of_getElem? (i := 10) (by decide +kernel))) (tb_app tboL_sign (tb_app tbn_9 (tb_app tbn_6 (tb_app tbn_2 tbX10_sign))))
set_option maxRecDepth 20000 in
theorem tboX11_signs : ∀ w ∈ woX11_signs, w ∈ lw_tbl := lw_mem3 woX11_signs [(4, 112)] (by decide +kernel)
theorem tbX11_signs : ∀ w ∈ wsX11_signs, w ∈ lw_tbl := tb_cons (tbC_in 5 _ (List.mem_of_getElem? (i := 76) (by decide +kernel))) (tb_app tboX11_signs tbn_10)
set_option maxRecDepth 20000 in
theorem tboX11_sign : ∀ w ∈ woX11_sign, w ∈ lw_tbl := lw_mem3 woX11_sign [(4, 93), (4, 112), (5, 57), (5, 59), (7, 53), (0, 13), (4, 214), (4, 216), (7, 39), (5, 73), (5, 75), (7, 55)] (by decide +kernel)
theorem tbX11_sign : ∀ w ∈ wsX11_sign, w ∈ lw_tbl := tb_cons (tbC_in 5 _ (List.mem_of_getElem? (i := 72) (by decide +kernel))) (tb_app tboX11_sign (tb_app tbn_10 (tb_app tbX11_isContract (tb_app tbX11_bad tbX11_signs))))
set_option maxRecDepth 20000 in
theorem tboX0_keep : ∀ w ∈ woX0_keep, w ∈ lw_tbl := lw_mem3 woX0_keep [(0, 121), (0, 117), (0, 138), (1, 109), (1, 101), (1, 100), (0, 25), (1, 107), (0, 1)] (by decide +kernel)
theorem tbX0_keep : ∀ w ∈ wsX0_keep, w ∈ lw_tbl := tb_cons (tbC_in 3 _ (List.mem_of_getElem? (i := 33) (by decide +kernel))) (tb_app tboX0_keep (tb_app tbn_2 (tb_app tbn_3 tbX10_within)))
set_option maxRecDepth 20000 in
theorem tboX10_inForce : ∀ w ∈ woX10_inForce, w ∈ lw_tbl := lw_mem3 woX10_inForce [(0, 118), (1, 18), (1, 128), (1, 107), (0, 1)] (by decide +kernel)
theorem tbX10_inForce : ∀ w ∈ wsX10_inForce, w ∈ lw_tbl := tb_cons (tbC_in 3 _ (List.mem_of_getElem? (i := 37) (by decide +kernel))) (tb_app tboX10_inForce (tb_app tbn_2 (tb_app tbn_9 tbX10_within)))
set_option maxRecDepth 20000 in
theorem tboX4_move : ∀ w ∈ woX4_move, w ∈ lw_tbl := lw_mem3 woX4_move [(0, 116), (3, 46), (1, 218), (0, 18), (1, 219)] (by decide +kernel)
theorem tbX4_move : ∀ w ∈ wsX4_move, w ∈ lw_tbl := tb_cons (tbC_in 3 _ (List.mem_of_getElem? (i := 45) (by decide +kernel))) (tb_app tboX4_move tbn_2)
set_option maxRecDepth 20000 in
theorem tboX5_payIn : ∀ w ∈ woX5_payIn, w ∈ lw_tbl := lw_mem3 woX5_payIn [(0, 235), (2, 233), (2, 235), (7, 16), (0, 11)] (by decide +kernel)
theorem tbX5_payIn : ∀ w ∈ wsX5_payIn, w ∈ lw_tbl := tb_cons (tbC_in 3 _ (List.mem_of_getElem? (i := 54) (by decide +kernel))) (tb_app tboX5_payIn (tb_app tbn_8 tbX5_winterPay))
set_option maxRecDepth 20000 in
theorem tboX4_isPaid : ∀ w ∈ woX4_isPaid, w ∈ lw_tbl := lw_mem3 woX4_isPaid [(0, 122), (0, 116), (3, 51), (3, 52), (3, 53), (0, 11), (3, 42), (3, 44), (7, 19), (0, 6), (1, 218), (0, 18)] (by decide +kernel)
theorem tbX4_isPaid : ∀ w ∈ wsX4_isPaid, w ∈ lw_tbl := tb_cons (tbC_in 3 _ (List.mem_of_getElem? (i := 50) (by decide +kernel))) (tb_app tboX4_isPaid (tb_app tbn_2 (tb_app tbn_8 (tb_app tbX5_payIn tbX4_move))))
set_option maxRecDepth 20000 in
theorem tboX5_wallDue : ∀ w ∈ woX5_wallDue, w ∈ lw_tbl := lw_mem3 woX5_wallDue [(0, 237), (1, 107), (0, 1)] (by decide +kernel)
theorem tbX5_wallDue : ∀ w ∈ wsX5_wallDue, w ∈ lw_tbl := tb_cons (tbC_in 3 _ (List.mem_of_getElem? (i := 62) (by decide +kernel))) (tb_app tboX5_wallDue (tb_app tbn_8 tbX10_within))
set_option maxRecDepth 20000 in
theorem tboX4_weakest : ∀ w ∈ woX4_weakest, w ∈ lw_tbl := lw_mem3 woX4_weakest [(0, 116)] (by decide +kernel)
theorem tbX4_weakest : ∀ w ∈ wsX4_weakest, w ∈ lw_tbl := tb_cons (tbC_in 3 _ (List.mem_of_getElem? (i := 66) (by decide +kernel))) (tb_app tboX4_weakest tbn_2)
set_option maxRecDepth 20000 in
theorem tboX4_frighten : ∀ w ∈ woX4_frighten, w ∈ lw_tbl := lw_mem3 woX4_frighten [(0, 116), (3, 46), (1, 218), (0, 18), (1, 219)] (by decide +kernel)
theorem tbX4_frighten : ∀ w ∈ wsX4_frighten, w ∈ lw_tbl := tb_cons (tbC_in 3 _ (List.mem_of_getElem? (i := 74) (by decide +kernel))) (tb_app tboX4_frighten tbn_2)
set_option maxRecDepth 20000 in
theorem tboX4_breach : ∀ w ∈ woX4_breach, w ∈ lw_tbl := lw_mem3 woX4_breach [(0, 116), (0, 82), (0, 78), (0, 236), (3, 71), (3, 73), (7, 24), (0, 6), (1, 218), (0, 18), (3, 42), (3, 44), (7, 19)] (by decide +kernel)
theorem tbX4_breach : ∀ w ∈ wsX4_breach, w ∈ lw_tbl := tb_cons (tbC_in 3 _ (List.mem_of_getElem? (i := 70) (by decide +kernel))) (tb_app tboX4_breach (tb_app tbn_2 (tb_app tbn_1 (tb_app tbn_8 (tb_app tbX4_frighten tbX4_move)))))
set_option maxRecDepth 20000 in
theorem tboX4_shoot : ∀ w ∈ woX4_shoot, w ∈ lw_tbl := lw_mem3 woX4_shoot [(0, 122), (0, 116), (0, 89), (0, 236), (0, 119), (3, 59), (3, 60), (3, 61), (0, 11), (0, 1), (3, 63), (3, 65), (7, 22), (0, 6), (3, 67), (3, 69), (7, 23), (1, 218), (0, 18)] (by decide +kernel)
theorem tbX4_shoot : ∀ w ∈ wsX4_shoot, w ∈ lw_tbl := tb_cons (tbC_in 3 _ (List.mem_of_getElem? (i := 58) (by decide +kernel))) (tb_app tboX4_shoot (tb_app tbn_2 (tb_app tbn_1 (tb_app tbn_8 (tb_app tbX5_wallDue (tb_app tbX4_weakest tbX4_breach))))))
set_option maxRecDepth 20000 in
theorem tboX6_fearAt : ∀ w ∈ woX6_fearAt, w ∈ lw_tbl := lw_mem3 woX6_fearAt [(0, 79), (1, 107), (0, 1)] (by decide +kernel)
theorem tbX6_fearAt : ∀ w ∈ wsX6_fearAt, w ∈ lw_tbl := tb_cons (tbC_in 3 _ (List.mem_of_getElem? (i := 78) (by decide +kernel))) (tb_app tboX6_fearAt (tb_app tbn_1 tbX10_within))
set_option maxRecDepth 20000 in
theorem tboX4_mend : ∀ w ∈ woX4_mend, w ∈ lw_tbl := lw_mem3 woX4_mend [(0, 78), (0, 89), (0, 86), (0, 82), (0, 116), (3, 46), (1, 218), (0, 18), (3, 42), (3, 44), (7, 19), (0, 6)] (by decide +kernel)
theorem tbX4_mend : ∀ w ∈ wsX4_mend, w ∈ lw_tbl := tb_cons (tbC_in 3 _ (List.mem_of_getElem? (i := 83) (by decide +kernel))) (tb_app tboX4_mend (tb_app tbn_1 (tb_app tbn_2 tbX4_move)))
set_option maxRecDepth 20000 in
theorem tboX4_desert : ∀ w ∈ woX4_desert, w ∈ lw_tbl := lw_mem3 woX4_desert [(0, 116), (3, 88), (3, 89), (0, 18), (3, 90)] (by decide +kernel)
theorem tbX4_desert : ∀ w ∈ wsX4_desert, w ∈ lw_tbl := tb_cons (tbC_in 3 _ (List.mem_of_getElem? (i := 87) (by decide +kernel))) (tb_app tboX4_desert tbn_2)
set_option maxRecDepth 20000 in
theorem tboX4_pass : ∀ w ∈ woX4_pass, w ∈ lw_tbl := lw_mem3 woX4_pass [(0, 119), (0, 116), (0, 78), (0, 236), (3, 79), (1, 85), (0, 18), (1, 86), (0, 122), (1, 10), (1, 11), (0, 12), (3, 42), (3, 44), (7, 19), (0, 6), (1, 218), (3, 47), (3, 49), (7, 20), (0, 11), (3, 55), (3, 57), (7, 21), (0, 1), (3, 71), (3, 73), (7, 24), (3, 75), (3, 76), (3, 77), (0, 4), (3, 80), (3, 82), (7, 25), (3, 84), (3, 86), (7, 26), (3, 89)] (by decide +kernel)
theorem tbX4_pass : ∀ w ∈ wsX4_pass, w ∈ lw_tbl := tb_cons (tbC_in 3 _ (List.mem_of_getElem? (i := 41) (by decide +kernel))) (tb_app tboX4_pass (tb_app tbn_2 (tb_app tbn_1 (tb_app tbn_8 (tb_app tbJ7_fill_53178 (tb_app tbX4_move (tb_app tbX4_isPaid (tb_app tbX4_shoot (tb_app tbX6_fearAt (tb_app tbX4_frighten (tb_app tbX4_mend tbX4_desert)))))))))))
set_option maxRecDepth 20000 in
theorem tboX0_lead : ∀ w ∈ woX0_lead, w ∈ lw_tbl := lw_mem3 woX0_lead [(0, 121), (0, 120), (0, 138), (1, 109), (1, 101), (1, 100), (0, 25), (1, 107), (0, 1)] (by decide +kernel)
theorem tbX0_lead : ∀ w ∈ wsX0_lead, w ∈ lw_tbl := tb_cons (tbC_in 3 _ (List.mem_of_getElem? (i := 94) (by decide +kernel))) (tb_app tboX0_lead (tb_app tbn_2 (tb_app tbn_3 tbX10_within)))
set_option maxRecDepth 20000 in
theorem tboX10_months : ∀ w ∈ woX10_months, w ∈ lw_tbl := lw_mem3 woX10_months [(1, 20), (0, 187), (0, 124), (0, 189), (1, 16), (1, 128), (1, 107), (0, 1), (1, 141), (1, 143), (7, 3), (0, 17), (3, 30), (3, 31), (3, 32), (0, 7), (1, 101), (1, 100), (0, 25), (3, 34), (3, 36), (7, 18), (3, 38), (3, 39), (3, 40), (0, 6), (1, 85), (0, 18), (0, 12), (1, 218), (0, 11), (0, 4), (3, 89), (3, 91), (3, 92), (3, 93)] (by decide +kernel)
theorem tbX10_months : ∀ w ∈ wsX10_months, w ∈ lw_tbl := tb_cons (tbC_in 3 _ (List.mem_of_getElem? (i := 29) (by decide +kernel))) (tb_app tboX10_months (tb_app tbn_9 (tb_app tbn_6 (tb_app tbn_2 (tb_app tbn_3 (tb_app tbn_1 (tb_app tbn_8 (tb_app tbX10_within (tb_app tbX10_demand (tb_app tbX0_keep (tb_app tbX10_inForce (tb_app tbX4_pass tbX0_lead))))))))))))
set_option maxRecDepth 20000 in
theorem tboL_months : ∀ w ∈ woL_months, w ∈ lw_tbl := lw_mem3 woL_months [(1, 136), (3, 26), (3, 27), (3, 28), (0, 1), (0, 17), (0, 7), (1, 101), (1, 100), (0, 25), (0, 6), (1, 85), (0, 18), (0, 12), (1, 218), (0, 11), (0, 4), (3, 89)] (by decide +kernel)
theorem tbL_months : ∀ w ∈ wsL_months, w ∈ lw_tbl := tb_cons (tbC_in 3 _ (List.mem_of_getElem? (i := 25) (by decide +kernel))) (tb_app tboL_months (tb_app tbn_9 (tb_app tbn_6 (tb_app tbn_2 (tb_app tbn_3 (tb_app tbn_1 (tb_app tbn_8 tbX10_months)))))))
theorem tbX11_less : ∀ w ∈ wsX11_less, w ∈ lw_tbl := tb_cons (tbC_in 5 _ (List.mem_of_getElem? (i := 91) (by decide +kernel))) tb_nil
set_option maxRecDepth 20000 in
theorem tboX11_pays : ∀ w ∈ woX11_pays, w ∈ lw_tbl := lw_mem3 woX11_pays [(4, 112), (5, 89), (5, 90), (0, 13)] (by decide +kernel)
theorem tbX11_pays : ∀ w ∈ wsX11_pays, w ∈ lw_tbl := tb_cons (tbC_in 5 _ (List.mem_of_getElem? (i := 88) (by decide +kernel))) (tb_app tboX11_pays (tb_app tbn_10 tbX11_less))
set_option maxRecDepth 20000 in
theorem tboX11_weakest : ∀ w ∈ woX11_weakest, w ∈ lw_tbl := lw_mem3 woX11_weakest [(4, 104), (4, 112)] (by decide +kernel)
theorem tbX11_weakest : ∀ w ∈ wsX11_weakest, w ∈ lw_tbl := tb_cons (tbC_in 5 _ (List.mem_of_getElem? (i := 103) (by decide +kernel))) (tb_app tboX11_weakest tbn_10)
set_option maxRecDepth 20000 in
theorem tboX11_fears : ∀ w ∈ woX11_fears, w ∈ lw_tbl := lw_mem3 woX11_fears [(4, 112), (5, 89), (5, 90), (0, 13)] (by decide +kernel)
theorem tbX11_fears : ∀ w ∈ wsX11_fears, w ∈ lw_tbl := tb_cons (tbC_in 5 _ (List.mem_of_getElem? (i := 107) (by decide +kernel))) (tb_app tboX11_fears (tb_app tbn_10 tbX11_less))
set_option maxRecDepth 20000 in
theorem tboX11_shoots : ∀ w ∈ woX11_shoots, w ∈ lw_tbl := lw_mem3 woX11_shoots [(4, 112), (4, 104), (4, 116), (4, 115), (4, 106), (5, 100), (5, 102), (7, 60), (0, 13), (5, 104), (5, 106), (7, 61), (5, 85), (5, 87), (7, 57)] (by decide +kernel)
theorem tbX11_shoots : ∀ w ∈ wsX11_shoots, w ∈ lw_tbl := tb_cons (tbC_in 5 _ (List.mem_of_getElem? (i := 99) (by decide +kernel))) (tb_app tboX11_shoots (tb_app tbn_10 (tb_app tbX11_weakest (tb_app tbX11_fears tbX11_pays))))
set_option maxRecDepth 20000 in
theorem tboX11_underContract : ∀ w ∈ woX11_underContract, w ∈ lw_tbl := lw_mem3 woX11_underContract [(4, 110), (4, 112), (4, 111), (5, 73), (5, 75), (7, 55), (0, 13), (5, 85), (5, 87), (7, 57), (5, 96), (5, 98), (7, 59)] (by decide +kernel)
theorem tbX11_underContract : ∀ w ∈ wsX11_underContract, w ∈ lw_tbl := tb_cons (tbC_in 5 _ (List.mem_of_getElem? (i := 95) (by decide +kernel))) (tb_app tboX11_underContract (tb_app tbn_10 (tb_app tbX11_signs (tb_app tbX11_pays tbX11_shoots))))
set_option maxRecDepth 20000 in
theorem tboX11_mends : ∀ w ∈ woX11_mends, w ∈ lw_tbl := lw_mem3 woX11_mends [(4, 104), (4, 106), (4, 112), (5, 89), (5, 90), (0, 13), (5, 85), (5, 87), (7, 57)] (by decide +kernel)
theorem tbX11_mends : ∀ w ∈ wsX11_mends, w ∈ lw_tbl := tb_cons (tbC_in 5 _ (List.mem_of_getElem? (i := 111) (by decide +kernel))) (tb_app tboX11_mends (tb_app tbn_10 (tb_app tbX11_less tbX11_pays)))
set_option maxRecDepth 20000 in
theorem tboX11_deserts : ∀ w ∈ woX11_deserts, w ∈ lw_tbl := lw_mem3 woX11_deserts [(4, 104), (4, 112)] (by decide +kernel)
theorem tbX11_deserts : ∀ w ∈ wsX11_deserts, w ∈ lw_tbl := tb_cons (tbC_in 5 _ (List.mem_of_getElem? (i := 115) (by decide +kernel))) (tb_app tboX11_deserts tbn_10)
set_option maxRecDepth 20000 in
theorem tboX11_monthGoes : ∀ w ∈ woX11_monthGoes, w ∈ lw_tbl := lw_mem3 woX11_monthGoes [(4, 112), (4, 104), (4, 110), (5, 85), (5, 87), (7, 57), (0, 13), (5, 92), (5, 94), (7, 58), (5, 73), (5, 75), (7, 55), (5, 108), (5, 110), (7, 62), (5, 112), (5, 114), (7, 63)] (by decide +kernel)
theorem tbX11_monthGoes : ∀ w ∈ wsX11_monthGoes, w ∈ lw_tbl := tb_cons (tbC_in 5 _ (List.mem_of_getElem? (i := 84) (by decide +kernel))) (tb_app tboX11_monthGoes (tb_app tbn_10 (tb_app tbX11_pays (tb_app tbX11_underContract (tb_app tbX11_mends (tb_app tbX11_deserts tbX11_signs))))))
set_option maxRecDepth 20000 in
theorem tboX11_months : ∀ w ∈ woX11_months, w ∈ lw_tbl := lw_mem3 woX11_months [(4, 93), (4, 116), (4, 112), (4, 114), (4, 115), (4, 211), (4, 212), (0, 13), (4, 214), (4, 216), (7, 39), (5, 81), (5, 83), (7, 56)] (by decide +kernel)
theorem tbX11_months : ∀ w ∈ wsX11_months, w ∈ lw_tbl := tb_cons (tbC_in 5 _ (List.mem_of_getElem? (i := 80) (by decide +kernel))) (tb_app tboX11_months (tb_app tbn_10 (tb_app tbX11_in (tb_app tbX11_bad tbX11_monthGoes))))
set_option maxRecDepth 20000 in
theorem tboX0_giveBack : ∀ w ∈ woX0_giveBack, w ∈ lw_tbl := lw_mem3 woX0_giveBack [(0, 138), (0, 117), (1, 109), (1, 101), (1, 100), (0, 25), (0, 121), (1, 107), (0, 1)] (by decide +kernel)
theorem tbX0_giveBack : ∀ w ∈ wsX0_giveBack, w ∈ lw_tbl := tb_cons (tbC_in 3 _ (List.mem_of_getElem? (i := 106) (by decide +kernel))) (tb_app tboX0_giveBack (tb_app tbn_3 (tb_app tbn_2 tbX10_within)))
set_option maxRecDepth 20000 in
theorem tboX10_undo : ∀ w ∈ woX10_undo, w ∈ lw_tbl := lw_mem3 woX10_undo [(1, 20), (0, 187), (0, 124), (3, 102), (1, 218), (0, 18), (1, 219), (0, 189), (1, 128), (1, 107), (0, 1), (1, 141), (1, 143), (7, 3), (0, 17), (3, 103), (3, 104), (3, 105), (0, 7), (1, 101), (1, 100), (0, 25)] (by decide +kernel)
theorem tbX10_undo : ∀ w ∈ wsX10_undo, w ∈ lw_tbl := tb_cons (tbC_in 3 _ (List.mem_of_getElem? (i := 101) (by decide +kernel))) (tb_app tboX10_undo (tb_app tbn_9 (tb_app tbn_6 (tb_app tbn_2 (tb_app tbn_3 (tb_app tbX10_within (tb_app tbX10_demand tbX0_giveBack)))))))
set_option maxRecDepth 20000 in
theorem tboL_undo : ∀ w ∈ woL_undo, w ∈ lw_tbl := lw_mem3 woL_undo [(1, 136), (3, 98), (3, 99), (3, 100), (0, 1), (1, 218), (0, 18), (0, 17), (0, 7), (1, 101), (1, 100), (0, 25)] (by decide +kernel)
theorem tbL_undo : ∀ w ∈ wsL_undo, w ∈ lw_tbl := tb_cons (tbC_in 3 _ (List.mem_of_getElem? (i := 97) (by decide +kernel))) (tb_app tboL_undo (tb_app tbn_9 (tb_app tbn_6 (tb_app tbn_2 (tb_app tbn_3 tbX10_undo)))))
set_option maxRecDepth 20000 in
theorem tboX11_undo : ∀ w ∈ woX11_undo, w ∈ lw_tbl := lw_mem3 woX11_undo [(4, 93), (4, 112), (4, 114), (4, 211), (4, 212), (0, 13), (4, 214), (4, 216), (7, 39), (5, 89), (5, 90)] (by decide +kernel)
theorem tbX11_undo : ∀ w ∈ wsX11_undo, w ∈ lw_tbl := tb_cons (tbC_in 5 _ (List.mem_of_getElem? (i := 119) (by decide +kernel))) (tb_app tboX11_undo (tb_app tbn_10 (tb_app tbX11_in (tb_app tbX11_bad tbX11_less))))
set_option maxRecDepth 20000 in
theorem tboX10_sums : ∀ w ∈ woX10_sums, w ∈ lw_tbl := lw_mem3 woX10_sums [(1, 20), (0, 187), (0, 118), (1, 128), (1, 107), (0, 1), (1, 141), (1, 143), (7, 3), (0, 17)] (by decide +kernel)
theorem tbX10_sums : ∀ w ∈ wsX10_sums, w ∈ lw_tbl := tb_cons (tbC_in 3 _ (List.mem_of_getElem? (i := 113) (by decide +kernel))) (tb_app tboX10_sums (tb_app tbn_9 (tb_app tbn_6 (tb_app tbn_2 (tb_app tbX10_within tbX10_demand)))))
set_option maxRecDepth 20000 in
theorem tboL_sums : ∀ w ∈ woL_sums, w ∈ lw_tbl := lw_mem3 woL_sums [(1, 136), (3, 110), (3, 111), (3, 112), (0, 1), (0, 17)] (by decide +kernel)
theorem tbL_sums : ∀ w ∈ wsL_sums, w ∈ lw_tbl := tb_cons (tbC_in 3 _ (List.mem_of_getElem? (i := 109) (by decide +kernel))) (tb_app tboL_sums (tb_app tbn_9 (tb_app tbn_6 (tb_app tbn_2 tbX10_sums))))
set_option maxRecDepth 20000 in
theorem tboX11_sums : ∀ w ∈ woX11_sums, w ∈ lw_tbl := lw_mem3 woX11_sums [(4, 93), (4, 112), (4, 211), (4, 212), (0, 13), (4, 214), (4, 216), (7, 39)] (by decide +kernel)
theorem tbX11_sums : ∀ w ∈ wsX11_sums, w ∈ lw_tbl := tb_cons (tbC_in 5 _ (List.mem_of_getElem? (i := 123) (by decide +kernel))) (tb_app tboX11_sums (tb_app tbn_10 (tb_app tbX11_in tbX11_bad)))
set_option maxRecDepth 20000 in
theorem tboX0_shotAt : ∀ w ∈ woX0_shotAt, w ∈ lw_tbl := lw_mem3 woX0_shotAt [(0, 138)] (by decide +kernel)
theorem tbX0_shotAt : ∀ w ∈ wsX0_shotAt, w ∈ lw_tbl := tb_cons (tbC_in 3 _ (List.mem_of_getElem? (i := 124) (by decide +kernel))) (tb_app tboX0_shotAt tbn_3)
set_option maxRecDepth 20000 in
theorem tboX10_corks : ∀ w ∈ woX10_corks, w ∈ lw_tbl := lw_mem3 woX10_corks [(1, 20), (0, 187), (0, 124), (0, 189), (2, 177), (2, 179), (7, 13), (0, 1), (0, 23), (1, 128), (1, 107), (1, 141), (1, 143), (7, 3), (0, 17), (3, 121), (3, 122), (3, 123), (0, 7)] (by decide +kernel)
theorem tbX10_corks : ∀ w ∈ wsX10_corks, w ∈ lw_tbl := tb_cons (tbC_in 3 _ (List.mem_of_getElem? (i := 120) (by decide +kernel))) (tb_app tboX10_corks (tb_app tbn_9 (tb_app tbn_6 (tb_app tbn_2 (tb_app tbn_1 (tb_app tbn_3 (tb_app tbX10_demandWall (tb_app tbX10_within (tb_app tbX10_demand tbX0_shotAt)))))))))
set_option maxRecDepth 20000 in
theorem tboL_corks : ∀ w ∈ woL_corks, w ∈ lw_tbl := lw_mem3 woL_corks [(2, 172), (1, 136), (3, 117), (3, 118), (3, 119), (0, 1), (0, 23), (0, 17), (0, 7)] (by decide +kernel)
theorem tbL_corks : ∀ w ∈ wsL_corks, w ∈ lw_tbl := tb_cons (tbC_in 3 _ (List.mem_of_getElem? (i := 116) (by decide +kernel))) (tb_app tboL_corks (tb_app tbn_9 (tb_app tbn_6 (tb_app tbn_2 (tb_app tbn_1 (tb_app tbn_3 tbX10_corks))))))
set_option maxRecDepth 20000 in
theorem tboX11_corks : ∀ w ∈ woX11_corks, w ∈ lw_tbl := lw_mem3 woX11_corks [(4, 93), (4, 112), (4, 115), (5, 49), (5, 51), (7, 52), (0, 13), (4, 211), (4, 212), (4, 214), (4, 216), (7, 39)] (by decide +kernel)
theorem tbX11_corks : ∀ w ∈ wsX11_corks, w ∈ lw_tbl := tb_cons (tbC_in 5 _ (List.mem_of_getElem? (i := 127) (by decide +kernel))) (tb_app tboX11_corks (tb_app tbn_10 (tb_app tbX11_isWall (tb_app tbX11_bad tbX11_in))))
set_option maxRecDepth 20000 in
theorem tboX4_take : ∀ w ∈ woX4_take, w ∈ lw_tbl := lw_mem3 woX4_take [(0, 116), (1, 99), (1, 101), (1, 100), (0, 25), (0, 122)] (by decide +kernel)
theorem tbX4_take : ∀ w ∈ wsX4_take, w ∈ lw_tbl := tb_cons (tbC_in 1 _ (List.mem_of_getElem? (i := 98) (by decide +kernel))) (tb_app tboX4_take tbn_2)
set_option maxRecDepth 20000 in
theorem tboX10_passTried : ∀ w ∈ woX10_passTried, w ∈ lw_tbl := lw_mem3 woX10_passTried [(1, 23), (0, 124), (1, 16), (3, 34), (3, 36), (7, 18), (0, 1), (3, 38), (3, 39), (3, 40), (0, 6), (1, 85), (0, 18), (0, 12), (1, 218), (0, 11), (0, 4), (3, 89)] (by decide +kernel)
theorem tbX10_passTried : ∀ w ∈ wsX10_passTried, w ∈ lw_tbl := tb_cons (tbC_in 3 _ (List.mem_of_getElem? (i := 140) (by decide +kernel))) (tb_app tboX10_passTried (tb_app tbn_9 (tb_app tbn_2 (tb_app tbn_1 (tb_app tbn_8 (tb_app tbX10_inForce tbX4_pass))))))
set_option maxRecDepth 20000 in
theorem tboX10_trySigned : ∀ w ∈ woX10_trySigned, w ∈ lw_tbl := lw_mem3 woX10_trySigned [(1, 23), (1, 20), (0, 187), (0, 118), (3, 136), (1, 96), (1, 97), (0, 6), (1, 101), (1, 100), (0, 25), (3, 19), (3, 20), (3, 21), (3, 137), (3, 139), (7, 28), (0, 1), (1, 85), (0, 18), (0, 12), (1, 218), (0, 11), (0, 4), (3, 89)] (by decide +kernel)
theorem tbX10_trySigned : ∀ w ∈ wsX10_trySigned, w ∈ lw_tbl := tb_cons (tbC_in 3 _ (List.mem_of_getElem? (i := 135) (by decide +kernel))) (tb_app tboX10_trySigned (tb_app tbn_9 (tb_app tbn_6 (tb_app tbn_2 (tb_app tbn_1 (tb_app tbn_8 (tb_app tbX4_take (tb_app tbX4_pledge tbX10_passTried))))))))
set_option maxRecDepth 20000 in
theorem tboX10_would : ∀ w ∈ woX10_would, w ∈ lw_tbl := lw_mem3 woX10_would [(1, 23), (0, 118), (3, 15), (3, 17), (7, 17), (0, 1), (0, 24), (1, 128), (1, 107), (1, 141), (1, 143), (7, 3), (0, 17), (3, 132), (3, 134), (7, 27), (0, 6), (1, 101), (1, 100), (0, 25), (1, 85), (0, 18), (0, 12), (1, 218), (0, 11), (0, 4), (3, 89)] (by decide +kernel)
theorem tbX10_would : ∀ w ∈ wsX10_would, w ∈ lw_tbl := tb_cons (tbC_in 3 _ (List.mem_of_getElem? (i := 131) (by decide +kernel))) (tb_app tboX10_would (tb_app tbn_9 (tb_app tbn_2 (tb_app tbn_6 (tb_app tbn_1 (tb_app tbn_8 (tb_app tbX10_demandContractOrNone (tb_app tbX10_within (tb_app tbX10_demand tbX10_trySigned)))))))))
set_option maxRecDepth 20000 in
theorem tboL_would : ∀ w ∈ woL_would, w ∈ lw_tbl := lw_mem3 woL_would [(2, 200), (1, 136), (3, 128), (3, 129), (3, 130), (0, 1), (0, 24), (0, 17), (0, 6), (1, 101), (1, 100), (0, 25), (1, 85), (0, 18), (0, 12), (1, 218), (0, 11), (0, 4), (3, 89)] (by decide +kernel)
theorem tbL_would : ∀ w ∈ wsL_would, w ∈ lw_tbl := tb_cons (tbC_in 3 _ (List.mem_of_getElem? (i := 127) (by decide +kernel))) (tb_app tboL_would (tb_app tbn_9 (tb_app tbn_2 (tb_app tbn_6 (tb_app tbn_1 (tb_app tbn_8 tbX10_would))))))
set_option maxRecDepth 20000 in
theorem tboX11_areMonths : ∀ w ∈ woX11_areMonths, w ∈ lw_tbl := lw_mem3 woX11_areMonths [(4, 211), (4, 212), (0, 13)] (by decide +kernel)
theorem tbX11_areMonths : ∀ w ∈ wsX11_areMonths, w ∈ lw_tbl := tb_cons (tbC_in 5 _ (List.mem_of_getElem? (i := 134) (by decide +kernel))) (tb_app tboX11_areMonths tbX11_in)
set_option maxRecDepth 20000 in
theorem tboX11_puts : ∀ w ∈ woX11_puts, w ∈ lw_tbl := lw_mem3 woX11_puts [(4, 113), (4, 112)] (by decide +kernel)
theorem tbX11_puts : ∀ w ∈ wsX11_puts, w ∈ lw_tbl := tb_cons (tbC_in 5 _ (List.mem_of_getElem? (i := 142) (by decide +kernel))) (tb_app tboX11_puts tbn_10)
set_option maxRecDepth 20000 in
theorem tboX11_goesOn : ∀ w ∈ woX11_goesOn, w ∈ lw_tbl := lw_mem3 woX11_goesOn [(5, 81), (5, 83), (7, 56), (0, 13)] (by decide +kernel)
theorem tbX11_goesOn : ∀ w ∈ wsX11_goesOn, w ∈ lw_tbl := tb_cons (tbC_in 5 _ (List.mem_of_getElem? (i := 146) (by decide +kernel))) (tb_app tboX11_goesOn (tb_app tbn_10 tbX11_monthGoes))
set_option maxRecDepth 20000 in
theorem tboX11_takes : ∀ w ∈ woX11_takes, w ∈ lw_tbl := lw_mem3 woX11_takes [(4, 112), (4, 113)] (by decide +kernel)
theorem tbX11_takes : ∀ w ∈ wsX11_takes, w ∈ lw_tbl := tb_cons (tbC_in 5 _ (List.mem_of_getElem? (i := 150) (by decide +kernel))) (tb_app tboX11_takes tbn_10)
set_option maxRecDepth 20000 in
theorem tboX11_by : ∀ w ∈ woX11_by, w ∈ lw_tbl := lw_mem3 woX11_by [(4, 112), (5, 139), (5, 141), (7, 65), (0, 13), (5, 73), (5, 75), (7, 55), (5, 143), (5, 145), (7, 66), (5, 147), (5, 149), (7, 67)] (by decide +kernel)
theorem tbX11_by : ∀ w ∈ wsX11_by, w ∈ lw_tbl := tb_cons (tbC_in 5 _ (List.mem_of_getElem? (i := 138) (by decide +kernel))) (tb_app tboX11_by (tb_app tbn_10 (tb_app tbX11_puts (tb_app tbX11_signs (tb_app tbX11_goesOn tbX11_takes)))))
set_option maxRecDepth 20000 in
theorem tboX11_would : ∀ w ∈ woX11_would, w ∈ lw_tbl := lw_mem3 woX11_would [(4, 93), (5, 57), (5, 59), (7, 53), (0, 13), (4, 211), (4, 212), (4, 214), (4, 216), (7, 39), (5, 132), (5, 133), (5, 135), (5, 137), (7, 64)] (by decide +kernel)
theorem tbX11_would : ∀ w ∈ wsX11_would, w ∈ lw_tbl := tb_cons (tbC_in 5 _ (List.mem_of_getElem? (i := 131) (by decide +kernel))) (tb_app tboX11_would (tb_app tbn_10 (tb_app tbX11_isContract (tb_app tbX11_bad (tb_app tbX11_areMonths (tb_app tbX11_in tbX11_by))))))
set_option maxRecDepth 20000 in
theorem tboX10_best : ∀ w ∈ woX10_best, w ∈ lw_tbl := lw_mem3 woX10_best [(1, 19), (1, 128), (1, 107), (0, 1), (1, 141), (1, 143), (7, 3), (0, 17), (3, 132), (3, 134), (7, 27), (0, 6), (1, 101), (1, 100), (0, 25), (1, 85), (0, 18), (0, 12), (1, 218), (0, 11), (0, 4), (3, 89)] (by decide +kernel)
theorem tbX10_best : ∀ w ∈ wsX10_best, w ∈ lw_tbl := tb_cons (tbC_in 3 _ (List.mem_of_getElem? (i := 147) (by decide +kernel))) (tb_app tboX10_best (tb_app tbn_9 (tb_app tbn_6 (tb_app tbn_2 (tb_app tbn_1 (tb_app tbn_8 (tb_app tbX10_within (tb_app tbX10_demand tbX10_trySigned))))))))
set_option maxRecDepth 20000 in
theorem tboL_best : ∀ w ∈ woL_best, w ∈ lw_tbl := lw_mem3 woL_best [(1, 136), (3, 144), (3, 145), (3, 146), (0, 1), (0, 17), (0, 6), (1, 101), (1, 100), (0, 25), (1, 85), (0, 18), (0, 12), (1, 218), (0, 11), (0, 4), (3, 89)] (by decide +kernel)
theorem tbL_best : ∀ w ∈ wsL_best, w ∈ lw_tbl := tb_cons (tbC_in 3 _ (List.mem_of_getElem? (i := 143) (by decide +kernel))) (tb_app tboL_best (tb_app tbn_9 (tb_app tbn_6 (tb_app tbn_2 (tb_app tbn_1 (tb_app tbn_8 tbX10_best))))))
set_option maxRecDepth 20000 in
theorem tboX11_best : ∀ w ∈ woX11_best, w ∈ lw_tbl := lw_mem3 woX11_best [(4, 93), (4, 107), (5, 132), (5, 133), (0, 13), (4, 211), (4, 212), (4, 214), (4, 216), (7, 39), (5, 135), (5, 137), (7, 64)] (by decide +kernel)
theorem tbX11_best : ∀ w ∈ wsX11_best, w ∈ lw_tbl := tb_cons (tbC_in 5 _ (List.mem_of_getElem? (i := 154) (by decide +kernel))) (tb_app tboX11_best (tb_app tbn_10 (tb_app tbX11_areMonths (tb_app tbX11_in (tb_app tbX11_bad tbX11_by)))))
set_option maxRecDepth 20000 in
theorem tboX5_propose : ∀ w ∈ woX5_propose, w ∈ lw_tbl := lw_mem3 woX5_propose [(0, 235), (3, 159), (2, 158), (2, 159), (0, 11), (0, 12)] (by decide +kernel)
theorem tbX5_propose : ∀ w ∈ wsX5_propose, w ∈ lw_tbl := tb_cons (tbC_in 3 _ (List.mem_of_getElem? (i := 158) (by decide +kernel))) (tb_app tboX5_propose (tb_app tbn_8 tbX5_clear))
set_option maxRecDepth 20000 in
theorem tboX10_offer : ∀ w ∈ woX10_offer, w ∈ lw_tbl := lw_mem3 woX10_offer [(1, 18), (1, 16), (1, 128), (1, 107), (0, 1), (1, 141), (1, 143), (7, 3), (0, 17), (3, 4), (3, 5), (3, 6), (0, 4), (3, 155), (3, 156), (3, 157), (0, 11), (0, 12), (3, 132), (3, 134), (7, 27), (0, 6), (1, 101), (1, 100), (0, 25), (1, 85), (0, 18), (1, 218), (3, 89)] (by decide +kernel)
theorem tbX10_offer : ∀ w ∈ wsX10_offer, w ∈ lw_tbl := tb_cons (tbC_in 3 _ (List.mem_of_getElem? (i := 154) (by decide +kernel))) (tb_app tboX10_offer (tb_app tbn_9 (tb_app tbn_1 (tb_app tbn_8 (tb_app tbn_6 (tb_app tbn_2 (tb_app tbX10_within (tb_app tbX10_demand (tb_app tbX6_wanted (tb_app tbX5_propose tbX10_trySigned))))))))))
set_option maxRecDepth 20000 in
theorem tboL_offer : ∀ w ∈ woL_offer, w ∈ lw_tbl := lw_mem3 woL_offer [(1, 136), (3, 151), (3, 152), (3, 153), (0, 1), (0, 17), (0, 4), (0, 11), (0, 12), (0, 6), (1, 101), (1, 100), (0, 25), (1, 85), (0, 18), (1, 218), (3, 89)] (by decide +kernel)
theorem tbL_offer : ∀ w ∈ wsL_offer, w ∈ lw_tbl := tb_cons (tbC_in 3 _ (List.mem_of_getElem? (i := 150) (by decide +kernel))) (tb_app tboL_offer (tb_app tbn_9 (tb_app tbn_1 (tb_app tbn_8 (tb_app tbn_6 (tb_app tbn_2 tbX10_offer))))))
set_option maxRecDepth 20000 in
theorem tboX11_byOffer : ∀ w ∈ woX11_byOffer, w ∈ lw_tbl := lw_mem3 woX11_byOffer [(4, 112), (5, 139), (5, 141), (7, 65), (0, 13), (5, 73), (5, 75), (7, 55), (5, 81), (5, 83), (7, 56), (5, 147), (5, 149), (7, 67)] (by decide +kernel)
theorem tbX11_byOffer : ∀ w ∈ wsX11_byOffer, w ∈ lw_tbl := tb_cons (tbC_in 5 _ (List.mem_of_getElem? (i := 162) (by decide +kernel))) (tb_app tboX11_byOffer (tb_app tbn_10 (tb_app tbX11_puts (tb_app tbX11_signs (tb_app tbX11_monthGoes tbX11_takes)))))
set_option maxRecDepth 20000 in
theorem tboX11_offer : ∀ w ∈ woX11_offer, w ∈ lw_tbl := lw_mem3 woX11_offer [(4, 93), (4, 110), (4, 111), (5, 132), (5, 133), (0, 13), (4, 211), (4, 212), (4, 214), (4, 216), (7, 39), (5, 65), (5, 67), (7, 54), (5, 159), (5, 161), (7, 68)] (by decide +kernel)
theorem tbX11_offer : ∀ w ∈ wsX11_offer, w ∈ lw_tbl := tb_cons (tbC_in 5 _ (List.mem_of_getElem? (i := 158) (by decide +kernel))) (tb_app tboX11_offer (tb_app tbn_10 (tb_app tbX11_areMonths (tb_app tbX11_in (tb_app tbX11_bad (tb_app tbX11_wantsFor tbX11_byOffer))))))
set_option maxRecDepth 20000 in
theorem tboX10_nearest : ∀ w ∈ woX10_nearest, w ∈ lw_tbl := lw_mem3 woX10_nearest [(1, 16), (1, 128), (1, 107), (0, 1), (1, 141), (1, 143), (7, 3), (0, 17), (3, 4), (3, 5), (3, 6), (0, 4)] (by decide +kernel)
theorem tbX10_nearest : ∀ w ∈ wsX10_nearest, w ∈ lw_tbl := tb_cons (tbC_in 3 _ (List.mem_of_getElem? (i := 166) (by decide +kernel))) (tb_app tboX10_nearest (tb_app tbn_9 (tb_app tbn_1 (tb_app tbX10_within (tb_app tbX10_demand tbX6_wanted)))))
set_option maxRecDepth 20000 in
theorem tboL_nearest : ∀ w ∈ woL_nearest, w ∈ lw_tbl := lw_mem3 woL_nearest [(1, 136), (3, 163), (3, 164), (3, 165), (0, 1), (0, 17), (0, 4)] (by decide +kernel)
theorem tbL_nearest : ∀ w ∈ wsL_nearest, w ∈ lw_tbl := tb_cons (tbC_in 3 _ (List.mem_of_getElem? (i := 162) (by decide +kernel))) (tb_app tboL_nearest (tb_app tbn_9 (tb_app tbn_1 tbX10_nearest)))
set_option maxRecDepth 20000 in
theorem tboX11_nearest : ∀ w ∈ woX11_nearest, w ∈ lw_tbl := lw_mem3 woX11_nearest [(4, 93), (4, 211), (4, 212), (0, 13), (4, 214), (4, 216), (7, 39), (5, 65), (5, 67), (7, 54)] (by decide +kernel)
theorem tbX11_nearest : ∀ w ∈ wsX11_nearest, w ∈ lw_tbl := tb_cons (tbC_in 5 _ (List.mem_of_getElem? (i := 166) (by decide +kernel))) (tb_app tboX11_nearest (tb_app tbn_10 (tb_app tbX11_in (tb_app tbX11_bad tbX11_wantsFor))))
set_option maxRecDepth 20000 in
theorem tboX10_stop : ∀ w ∈ woX10_stop, w ∈ lw_tbl := lw_mem3 woX10_stop [(1, 23), (1, 20), (0, 187), (0, 118), (1, 128), (1, 107), (0, 1), (1, 141), (1, 143), (7, 3), (0, 17), (3, 136), (1, 96), (1, 97), (0, 6), (1, 101), (1, 100), (0, 25), (3, 137), (3, 139), (7, 28), (1, 85), (0, 18), (0, 12), (1, 218), (0, 11), (0, 4), (3, 89), (3, 19), (3, 20), (3, 21)] (by decide +kernel)
theorem tbX10_stop : ∀ w ∈ wsX10_stop, w ∈ lw_tbl := tb_cons (tbC_in 3 _ (List.mem_of_getElem? (i := 173) (by decide +kernel))) (tb_app tboX10_stop (tb_app tbn_9 (tb_app tbn_6 (tb_app tbn_2 (tb_app tbn_1 (tb_app tbn_8 (tb_app tbX10_within (tb_app tbX10_demand (tb_app tbX4_take (tb_app tbX10_passTried tbX4_pledge))))))))))
set_option maxRecDepth 20000 in
theorem tboL_stop : ∀ w ∈ woL_stop, w ∈ lw_tbl := lw_mem3 woL_stop [(1, 136), (3, 170), (3, 171), (3, 172), (0, 1), (0, 17), (0, 6), (1, 101), (1, 100), (0, 25), (1, 85), (0, 18), (0, 12), (1, 218), (0, 11), (0, 4), (3, 89)] (by decide +kernel)
theorem tbL_stop : ∀ w ∈ wsL_stop, w ∈ lw_tbl := tb_cons (tbC_in 3 _ (List.mem_of_getElem? (i := 169) (by decide +kernel))) (tb_app tboL_stop (tb_app tbn_9 (tb_app tbn_6 (tb_app tbn_2 (tb_app tbn_1 (tb_app tbn_8 tbX10_stop))))))
set_option maxRecDepth 20000 in
theorem tboX11_stop : ∀ w ∈ woX11_stop, w ∈ lw_tbl := lw_mem3 woX11_stop [(4, 93), (4, 112), (5, 132), (5, 133), (0, 13), (4, 211), (4, 212), (4, 214), (4, 216), (7, 39), (5, 139), (5, 141), (7, 65), (5, 143), (5, 145), (7, 66), (5, 73), (5, 75), (7, 55), (5, 147), (5, 149), (7, 67)] (by decide +kernel)
theorem tbX11_stop : ∀ w ∈ wsX11_stop, w ∈ lw_tbl := tb_cons (tbC_in 5 _ (List.mem_of_getElem? (i := 170) (by decide +kernel))) (tb_app tboX11_stop (tb_app tbn_10 (tb_app tbX11_areMonths (tb_app tbX11_in (tb_app tbX11_bad (tb_app tbX11_puts (tb_app tbX11_goesOn (tb_app tbX11_signs tbX11_takes))))))))
set_option maxRecDepth 20000 in
theorem tboX2_start : ∀ w ∈ woX2_start, w ∈ lw_tbl := lw_mem3 woX2_start [(0, 152), (0, 153), (3, 185), (2, 142), (2, 143), (0, 8)] (by decide +kernel)
theorem tbX2_start : ∀ w ∈ wsX2_start, w ∈ lw_tbl := tb_cons (tbC_in 3 _ (List.mem_of_getElem? (i := 184) (by decide +kernel))) (tb_app tboX2_start (tb_app tbn_4 tbX2_forget))
set_option maxRecDepth 20000 in
theorem tboX10_odds : ∀ w ∈ woX10_odds, w ∈ lw_tbl := lw_mem3 woX10_odds [(1, 20), (0, 191), (1, 128), (1, 107), (0, 1), (1, 141), (1, 143), (7, 3), (0, 17), (3, 181), (3, 182), (3, 183), (0, 8)] (by decide +kernel)
theorem tbX10_odds : ∀ w ∈ wsX10_odds, w ∈ lw_tbl := tb_cons (tbC_in 3 _ (List.mem_of_getElem? (i := 180) (by decide +kernel))) (tb_app tboX10_odds (tb_app tbn_9 (tb_app tbn_6 (tb_app tbn_4 (tb_app tbX10_within (tb_app tbX10_demand tbX2_start))))))
set_option maxRecDepth 20000 in
theorem tboL_odds : ∀ w ∈ woL_odds, w ∈ lw_tbl := lw_mem3 woL_odds [(1, 136), (3, 177), (3, 178), (3, 179), (0, 1), (0, 17), (0, 8)] (by decide +kernel)
theorem tbL_odds : ∀ w ∈ wsL_odds, w ∈ lw_tbl := tb_cons (tbC_in 3 _ (List.mem_of_getElem? (i := 176) (by decide +kernel))) (tb_app tboL_odds (tb_app tbn_9 (tb_app tbn_6 (tb_app tbn_4 tbX10_odds))))
set_option maxRecDepth 20000 in
theorem tboX11_odds : ∀ w ∈ woX11_odds, w ∈ lw_tbl := lw_mem3 woX11_odds [(4, 93), (4, 117), (4, 118), (4, 119), (4, 211), (4, 212), (0, 13), (4, 214), (4, 216), (7, 39)] (by decide +kernel)
theorem tbX11_odds : ∀ w ∈ wsX11_odds, w ∈ lw_tbl := tb_cons (tbC_in 5 _ (List.mem_of_getElem? (i := 174) (by decide +kernel))) (tb_app tboX11_odds (tb_app tbn_10 (tb_app tbX11_in tbX11_bad)))
set_option maxRecDepth 20000 in
theorem tboX10_kind : ∀ w ∈ woX10_kind, w ∈ lw_tbl := lw_mem3 woX10_kind [(1, 20), (0, 191), (0, 149), (0, 151), (1, 128), (1, 107), (0, 1), (1, 141), (1, 143), (7, 3), (0, 17)] (by decide +kernel)
theorem tbX10_kind : ∀ w ∈ wsX10_kind, w ∈ lw_tbl := tb_cons (tbC_in 3 _ (List.mem_of_getElem? (i := 192) (by decide +kernel))) (tb_app tboX10_kind (tb_app tbn_9 (tb_app tbn_6 (tb_app tbn_4 (tb_app tbX10_within tbX10_demand)))))
set_option maxRecDepth 20000 in
theorem tboL_kind : ∀ w ∈ woL_kind, w ∈ lw_tbl := lw_mem3 woL_kind [(1, 136), (3, 189), (3, 190), (3, 191), (0, 1), (0, 17)] (by decide +kernel)
theorem tbL_kind : ∀ w ∈ wsL_kind, w ∈ lw_tbl := tb_cons (tbC_in 3 _ (List.mem_of_getElem? (i := 188) (by decide +kernel))) (tb_app tboL_kind (tb_app tbn_9 (tb_app tbn_6 (tb_app tbn_4 tbX10_kind))))
set_option maxRecDepth 20000 in
theorem tboX11_kind : ∀ w ∈ woX11_kind, w ∈ lw_tbl := lw_mem3 woX11_kind [(4, 93), (4, 122), (4, 211), (4, 212), (0, 13), (4, 214), (4, 216), (7, 39)] (by decide +kernel)
theorem tbX11_kind : ∀ w ∈ wsX11_kind, w ∈ lw_tbl := tb_cons (tbC_in 5 _ (List.mem_of_getElem? (i := 178) (by decide +kernel))) (tb_app tboX11_kind (tb_app tbn_10 (tb_app tbX11_in tbX11_bad)))
set_option maxRecDepth 20000 in
theorem tboX2_add : ∀ w ∈ woX2_add, w ∈ lw_tbl := lw_mem3 woX2_add [(0, 156), (0, 154), (0, 155)] (by decide +kernel)
theorem tbX2_add : ∀ w ∈ wsX2_add, w ∈ lw_tbl := tb_cons (tbC_in 3 _ (List.mem_of_getElem? (i := 203) (by decide +kernel))) (tb_app tboX2_add tbn_4)
set_option maxRecDepth 20000 in
theorem tboX10_seen : ∀ w ∈ woX10_seen, w ∈ lw_tbl := lw_mem3 woX10_seen [(1, 20), (0, 191), (0, 149), (0, 151), (1, 128), (1, 107), (0, 1), (1, 141), (1, 143), (7, 3), (0, 17), (3, 200), (3, 201), (3, 202), (0, 8)] (by decide +kernel)
theorem tbX10_seen : ∀ w ∈ wsX10_seen, w ∈ lw_tbl := tb_cons (tbC_in 3 _ (List.mem_of_getElem? (i := 199) (by decide +kernel))) (tb_app tboX10_seen (tb_app tbn_9 (tb_app tbn_6 (tb_app tbn_4 (tb_app tbX10_within (tb_app tbX10_demand tbX2_add))))))
set_option maxRecDepth 20000 in
theorem tboL_seen : ∀ w ∈ woL_seen, w ∈ lw_tbl := lw_mem3 woL_seen [(1, 136), (3, 196), (3, 197), (3, 198), (0, 1), (0, 17), (0, 8)] (by decide +kernel)
theorem tbL_seen : ∀ w ∈ wsL_seen, w ∈ lw_tbl := tb_cons (tbC_in 3 _ (List.mem_of_getElem? (i := 195) (by decide +kernel))) (tb_app tboL_seen (tb_app tbn_9 (tb_app tbn_6 (tb_app tbn_4 tbX10_seen))))
set_option maxRecDepth 20000 in
theorem tboX11_isSeen : ∀ w ∈ woX11_isSeen, w ∈ lw_tbl := lw_mem3 woX11_isSeen [(4, 119), (4, 123)] (by decide +kernel)
theorem tbX11_isSeen : ∀ w ∈ wsX11_isSeen, w ∈ lw_tbl := tb_cons (tbC_in 5 _ (List.mem_of_getElem? (i := 186) (by decide +kernel))) (tb_app tboX11_isSeen tbn_10)
set_option maxRecDepth 20000 in
theorem tboX11_seen : ∀ w ∈ woX11_seen, w ∈ lw_tbl := lw_mem3 woX11_seen [(4, 93), (4, 122), (4, 211), (4, 212), (0, 13), (4, 214), (4, 216), (7, 39), (5, 183), (5, 185), (7, 69)] (by decide +kernel)
theorem tbX11_seen : ∀ w ∈ wsX11_seen, w ∈ lw_tbl := tb_cons (tbC_in 5 _ (List.mem_of_getElem? (i := 182) (by decide +kernel))) (tb_app tboX11_seen (tb_app tbn_10 (tb_app tbX11_in (tb_app tbX11_bad tbX11_isSeen))))
set_option maxRecDepth 20000 in
theorem tboX10_spy : ∀ w ∈ woX10_spy, w ∈ lw_tbl := lw_mem3 woX10_spy [(1, 20), (0, 191), (1, 128), (1, 107), (0, 1), (1, 141), (1, 143), (7, 3), (0, 17), (3, 200), (3, 201), (3, 202), (0, 8)] (by decide +kernel)
theorem tbX10_spy : ∀ w ∈ wsX10_spy, w ∈ lw_tbl := tb_cons (tbC_in 3 _ (List.mem_of_getElem? (i := 210) (by decide +kernel))) (tb_app tboX10_spy (tb_app tbn_9 (tb_app tbn_6 (tb_app tbn_4 (tb_app tbX10_within (tb_app tbX10_demand tbX2_add))))))
set_option maxRecDepth 20000 in
theorem tboL_spy : ∀ w ∈ woL_spy, w ∈ lw_tbl := lw_mem3 woL_spy [(1, 136), (3, 207), (3, 208), (3, 209), (0, 1), (0, 17), (0, 8)] (by decide +kernel)
theorem tbL_spy : ∀ w ∈ wsL_spy, w ∈ lw_tbl := tb_cons (tbC_in 3 _ (List.mem_of_getElem? (i := 206) (by decide +kernel))) (tb_app tboL_spy (tb_app tbn_9 (tb_app tbn_6 (tb_app tbn_4 tbX10_spy))))
set_option maxRecDepth 20000 in
theorem tboX11_spy : ∀ w ∈ woX11_spy, w ∈ lw_tbl := lw_mem3 woX11_spy [(4, 93), (4, 211), (4, 212), (0, 13), (4, 214), (4, 216), (7, 39), (5, 183), (5, 185), (7, 69)] (by decide +kernel)
theorem tbX11_spy : ∀ w ∈ wsX11_spy, w ∈ lw_tbl := tb_cons (tbC_in 5 _ (List.mem_of_getElem? (i := 190) (by decide +kernel))) (tb_app tboX11_spy (tb_app tbn_10 (tb_app tbX11_in (tb_app tbX11_bad tbX11_isSeen))))
set_option maxRecDepth 20000 in
theorem tboX2_leastTerm : ∀ w ∈ woX2_leastTerm, w ∈ lw_tbl := lw_mem3 woX2_leastTerm [(0, 154), (0, 155)] (by decide +kernel)
theorem tbX2_leastTerm : ∀ w ∈ wsX2_leastTerm, w ∈ lw_tbl := tb_cons (tbC_in 3 _ (List.mem_of_getElem? (i := 221) (by decide +kernel))) (tb_app tboX2_leastTerm tbn_4)
set_option maxRecDepth 20000 in
theorem tboX10_believed : ∀ w ∈ woX10_believed, w ∈ lw_tbl := lw_mem3 woX10_believed [(1, 20), (0, 191), (1, 128), (1, 107), (0, 1), (1, 141), (1, 143), (7, 3), (0, 17), (3, 218), (3, 219), (3, 220), (0, 8)] (by decide +kernel)
theorem tbX10_believed : ∀ w ∈ wsX10_believed, w ∈ lw_tbl := tb_cons (tbC_in 3 _ (List.mem_of_getElem? (i := 217) (by decide +kernel))) (tb_app tboX10_believed (tb_app tbn_9 (tb_app tbn_6 (tb_app tbn_4 (tb_app tbX10_within (tb_app tbX10_demand tbX2_leastTerm))))))
set_option maxRecDepth 20000 in
theorem tboL_believed : ∀ w ∈ woL_believed, w ∈ lw_tbl := lw_mem3 woL_believed [(1, 136), (3, 214), (3, 215), (3, 216), (0, 1), (0, 17), (0, 8)] (by decide +kernel)
theorem tbL_believed : ∀ w ∈ wsL_believed, w ∈ lw_tbl := tb_cons (tbC_in 3 _ (List.mem_of_getElem? (i := 213) (by decide +kernel))) (tb_app tboL_believed (tb_app tbn_9 (tb_app tbn_6 (tb_app tbn_4 tbX10_believed))))
set_option maxRecDepth 20000 in
theorem tboX11_believed : ∀ w ∈ woX11_believed, w ∈ lw_tbl := lw_mem3 woX11_believed [(4, 93), (4, 117), (4, 118), (4, 119), (4, 123), (4, 211), (4, 212), (0, 13), (4, 214), (4, 216), (7, 39)] (by decide +kernel)
theorem tbX11_believed : ∀ w ∈ wsX11_believed, w ∈ lw_tbl := tb_cons (tbC_in 5 _ (List.mem_of_getElem? (i := 194) (by decide +kernel))) (tb_app tboX11_believed (tb_app tbn_10 (tb_app tbX11_in tbX11_bad)))
set_option maxRecDepth 20000 in
theorem tboX1_prepare : ∀ w ∈ woX1_prepare, w ∈ lw_tbl := lw_mem3 woX1_prepare [(0, 88), (3, 233), (1, 218), (0, 18), (1, 219), (0, 215), (0, 212), (0, 81), (0, 213)] (by decide +kernel)
theorem tbX1_prepare : ∀ w ∈ wsX1_prepare, w ∈ lw_tbl := tb_cons (tbC_in 3 _ (List.mem_of_getElem? (i := 232) (by decide +kernel))) (tb_app tboX1_prepare (tb_app tbn_1 tbn_7))
set_option maxRecDepth 20000 in
theorem tboX1_all : ∀ w ∈ woX1_all, w ∈ lw_tbl := lw_mem3 woX1_all [(0, 215)] (by decide +kernel)
theorem tbX1_all : ∀ w ∈ wsX1_all, w ∈ lw_tbl := tb_cons (tbC_in 3 _ (List.mem_of_getElem? (i := 237) (by decide +kernel))) (tb_app tboX1_all tbn_7)
set_option maxRecDepth 20000 in
theorem tboX1_place : ∀ w ∈ woX1_place, w ∈ lw_tbl := lw_mem3 woX1_place [(0, 214)] (by decide +kernel)
theorem tbX1_place : ∀ w ∈ wsX1_place, w ∈ lw_tbl := tb_cons (tbC_in 4 _ (List.mem_of_getElem? (i := 5) (by decide +kernel))) (tb_app tboX1_place tbn_7)
set_option maxRecDepth 20000 in
theorem tboX1_menToFell : ∀ w ∈ woX1_menToFell, w ∈ lw_tbl := lw_mem3 woX1_menToFell [(0, 214), (0, 213)] (by decide +kernel)
theorem tbX1_menToFell : ∀ w ∈ wsX1_menToFell, w ∈ lw_tbl := tb_cons (tbC_in 4 _ (List.mem_of_getElem? (i := 13) (by decide +kernel))) (tb_app tboX1_menToFell tbn_7)
set_option maxRecDepth 20000 in
theorem tboX1_worthOf : ∀ w ∈ woX1_worthOf, w ∈ lw_tbl := lw_mem3 woX1_worthOf [(0, 212)] (by decide +kernel)
theorem tbX1_worthOf : ∀ w ∈ wsX1_worthOf, w ∈ lw_tbl := tb_cons (tbC_in 4 _ (List.mem_of_getElem? (i := 17) (by decide +kernel))) (tb_app tboX1_worthOf tbn_7)
set_option maxRecDepth 20000 in
theorem tboX1_mostFelled : ∀ w ∈ woX1_mostFelled, w ∈ lw_tbl := lw_mem3 woX1_mostFelled [(4, 18), (1, 85), (0, 18), (1, 86), (4, 10), (4, 12), (7, 31), (0, 10), (4, 14), (4, 16), (7, 32)] (by decide +kernel)
theorem tbX1_mostFelled : ∀ w ∈ wsX1_mostFelled, w ∈ lw_tbl := tb_cons (tbC_in 4 _ (List.mem_of_getElem? (i := 9) (by decide +kernel))) (tb_app tboX1_mostFelled (tb_app tbn_7 (tb_app tbX1_menToFell tbX1_worthOf)))
set_option maxRecDepth 20000 in
theorem tboX1_digits : ∀ w ∈ woX1_digits, w ∈ lw_tbl := lw_mem3 woX1_digits [(0, 215), (0, 214)] (by decide +kernel)
theorem tbX1_digits : ∀ w ∈ wsX1_digits, w ∈ lw_tbl := tb_cons (tbC_in 4 _ (List.mem_of_getElem? (i := 22) (by decide +kernel))) (tb_app tboX1_digits tbn_7)
set_option maxRecDepth 20000 in
theorem tboX1_safe : ∀ w ∈ woX1_safe, w ∈ lw_tbl := lw_mem3 woX1_safe [(0, 217), (4, 18), (1, 85), (0, 18), (4, 2), (4, 4), (7, 29), (0, 10), (4, 6), (4, 8), (7, 30), (4, 19), (4, 21), (7, 33)] (by decide +kernel)
theorem tbX1_safe : ∀ w ∈ wsX1_safe, w ∈ lw_tbl := tb_cons (tbC_in 4 _ (List.mem_of_getElem? (i := 1) (by decide +kernel))) (tb_app tboX1_safe (tb_app tbn_7 (tb_app tbX1_place (tb_app tbX1_mostFelled tbX1_digits))))
set_option maxRecDepth 20000 in
theorem tboX1_menToHold : ∀ w ∈ woX1_menToHold, w ∈ lw_tbl := lw_mem3 woX1_menToHold [(0, 214), (0, 213), (4, 18), (1, 85), (0, 18), (1, 86)] (by decide +kernel)
theorem tbX1_menToHold : ∀ w ∈ wsX1_menToHold, w ∈ lw_tbl := tb_cons (tbC_in 4 _ (List.mem_of_getElem? (i := 35) (by decide +kernel))) (tb_app tboX1_menToHold tbn_7)
set_option maxRecDepth 20000 in
theorem tboX1_leastFelled : ∀ w ∈ woX1_leastFelled, w ∈ lw_tbl := lw_mem3 woX1_leastFelled [(4, 18), (1, 85), (0, 18), (4, 27), (3, 235), (3, 236), (0, 10), (4, 32), (4, 34), (7, 35), (4, 14), (4, 16), (7, 32)] (by decide +kernel)
theorem tbX1_leastFelled : ∀ w ∈ wsX1_leastFelled, w ∈ lw_tbl := tb_cons (tbC_in 4 _ (List.mem_of_getElem? (i := 31) (by decide +kernel))) (tb_app tboX1_leastFelled (tb_app tbn_7 (tb_app tbX1_all (tb_app tbX1_menToHold tbX1_worthOf))))
set_option maxRecDepth 20000 in
theorem tboX1_sure : ∀ w ∈ woX1_sure, w ∈ lw_tbl := lw_mem3 woX1_sure [(4, 18), (1, 85), (0, 18), (4, 27), (3, 235), (3, 236), (0, 10), (4, 2), (4, 4), (7, 29), (4, 28), (4, 30), (7, 34)] (by decide +kernel)
theorem tbX1_sure : ∀ w ∈ wsX1_sure, w ∈ lw_tbl := tb_cons (tbC_in 4 _ (List.mem_of_getElem? (i := 26) (by decide +kernel))) (tb_app tboX1_sure (tb_app tbn_7 (tb_app tbX1_all (tb_app tbX1_place tbX1_leastFelled))))
set_option maxRecDepth 20000 in
theorem tboX10_earnest : ∀ w ∈ woX10_earnest, w ∈ lw_tbl := lw_mem3 woX10_earnest [(1, 24), (1, 16), (1, 128), (1, 107), (0, 1), (1, 141), (1, 143), (7, 3), (0, 17), (3, 229), (3, 230), (3, 231), (0, 10), (1, 218), (0, 18), (3, 234), (3, 235), (3, 236), (3, 238), (3, 239), (4, 0), (1, 85), (4, 23), (4, 24), (4, 25)] (by decide +kernel)
theorem tbX10_earnest : ∀ w ∈ wsX10_earnest, w ∈ lw_tbl := tb_cons (tbC_in 3 _ (List.mem_of_getElem? (i := 228) (by decide +kernel))) (tb_app tboX10_earnest (tb_app tbn_9 (tb_app tbn_1 (tb_app tbn_7 (tb_app tbX10_within (tb_app tbX10_demand (tb_app tbX1_prepare (tb_app tbX1_all (tb_app tbX1_safe tbX1_sure)))))))))
set_option maxRecDepth 20000 in
theorem tboL_earnest : ∀ w ∈ woL_earnest, w ∈ lw_tbl := lw_mem3 woL_earnest [(1, 136), (3, 225), (3, 226), (3, 227), (0, 1), (0, 17), (0, 10), (1, 218), (0, 18), (1, 85)] (by decide +kernel)
theorem tbL_earnest : ∀ w ∈ wsL_earnest, w ∈ lw_tbl := tb_cons (tbC_in 3 _ (List.mem_of_getElem? (i := 224) (by decide +kernel))) (tb_app tboL_earnest (tb_app tbn_9 (tb_app tbn_1 (tb_app tbn_7 tbX10_earnest))))
set_option maxRecDepth 20000 in
theorem tboX11_areTens : ∀ w ∈ woX11_areTens, w ∈ lw_tbl := lw_mem3 woX11_areTens [(4, 211), (4, 212), (0, 13)] (by decide +kernel)
theorem tbX11_areTens : ∀ w ∈ wsX11_areTens, w ∈ lw_tbl := tb_cons (tbC_in 5 _ (List.mem_of_getElem? (i := 201) (by decide +kernel))) (tb_app tboX11_areTens tbX11_in)
set_option maxRecDepth 20000 in
theorem tboX11_firstWalls : ∀ w ∈ woX11_firstWalls, w ∈ lw_tbl := lw_mem3 woX11_firstWalls [(4, 104), (5, 89), (5, 90), (0, 13)] (by decide +kernel)
theorem tbX11_firstWalls : ∀ w ∈ wsX11_firstWalls, w ∈ lw_tbl := tb_cons (tbC_in 5 _ (List.mem_of_getElem? (i := 205) (by decide +kernel))) (tb_app tboX11_firstWalls (tb_app tbn_10 tbX11_less))
theorem tbX11_digit : ∀ w ∈ wsX11_digit, w ∈ lw_tbl := tb_cons (tbC_in 5 _ (List.mem_of_getElem? (i := 215) (by decide +kernel))) tb_nil
set_option maxRecDepth 20000 in
theorem tboX11_puts0 : ∀ w ∈ woX11_puts0, w ∈ lw_tbl := lw_mem3 woX11_puts0 [(5, 213), (5, 214), (0, 13)] (by decide +kernel)
theorem tbX11_puts0 : ∀ w ∈ wsX11_puts0, w ∈ lw_tbl := tb_cons (tbC_in 5 _ (List.mem_of_getElem? (i := 212) (by decide +kernel))) (tb_app tboX11_puts0 tbX11_digit)
set_option maxRecDepth 20000 in
theorem tboX11_falls : ∀ w ∈ woX11_falls, w ∈ lw_tbl := lw_mem3 woX11_falls [(4, 106), (5, 213), (5, 214), (0, 13)] (by decide +kernel)
theorem tbX11_falls : ∀ w ∈ wsX11_falls, w ∈ lw_tbl := tb_cons (tbC_in 5 _ (List.mem_of_getElem? (i := 219) (by decide +kernel))) (tb_app tboX11_falls (tb_app tbn_10 tbX11_digit))
set_option maxRecDepth 20000 in
theorem tboX11_safeBy : ∀ w ∈ woX11_safeBy, w ∈ lw_tbl := lw_mem3 woX11_safeBy [(4, 126), (5, 210), (5, 211), (0, 13), (5, 216), (5, 218), (7, 72)] (by decide +kernel)
theorem tbX11_safeBy : ∀ w ∈ wsX11_safeBy, w ∈ lw_tbl := tb_cons (tbC_in 5 _ (List.mem_of_getElem? (i := 209) (by decide +kernel))) (tb_app tboX11_safeBy (tb_app tbn_10 (tb_app tbX11_puts0 tbX11_falls)))
set_option maxRecDepth 20000 in
theorem tboX11_sureBy : ∀ w ∈ woX11_sureBy, w ∈ lw_tbl := lw_mem3 woX11_sureBy [(5, 210), (5, 211), (0, 13), (5, 216), (5, 218), (7, 72)] (by decide +kernel)
