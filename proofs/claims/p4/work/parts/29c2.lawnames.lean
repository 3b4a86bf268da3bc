theorem tbX11_sureBy : ∀ w ∈ wsX11_sureBy, w ∈ lw_tbl := tb_cons (tbC_in 5 _ (List.mem_of_getElem? (i := 223) (by decide +kernel))) (tb_app tboX11_sureBy (tb_app tbn_10 (tb_app tbX11_puts0 tbX11_falls)))
set_option maxRecDepth 20000 in
theorem tboX11_earnest : ∀ w ∈ woX11_earnest, w ∈ lw_tbl := lw_mem3 woX11_earnest [(4, 93), (5, 199), (5, 200), (0, 13), (4, 211), (4, 212), (4, 214), (4, 216), (7, 39), (5, 202), (5, 204), (7, 70), (5, 206), (5, 208), (7, 71), (5, 220), (5, 222), (7, 73)] (by decide +kernel)
theorem tbX11_earnest : ∀ w ∈ wsX11_earnest, w ∈ lw_tbl := tb_cons (tbC_in 5 _ (List.mem_of_getElem? (i := 198) (by decide +kernel))) (tb_app tboX11_earnest (tb_app tbn_10 (tb_app tbX11_areTens (tb_app tbX11_in (tb_app tbX11_bad (tb_app tbX11_firstWalls (tb_app tbX11_safeBy tbX11_sureBy)))))))
set_option maxRecDepth 20000 in
theorem tboX10_stands : ∀ w ∈ woX10_stands, w ∈ lw_tbl := lw_mem3 woX10_stands [(1, 24), (1, 16), (0, 218), (1, 128), (1, 107), (0, 1), (1, 141), (1, 143), (7, 3), (0, 17), (3, 229), (3, 230), (3, 231), (0, 10), (1, 218), (0, 18), (3, 234), (3, 235), (3, 236), (3, 238), (3, 239), (4, 0), (1, 85)] (by decide +kernel)
theorem tbX10_stands : ∀ w ∈ wsX10_stands, w ∈ lw_tbl := tb_cons (tbC_in 4 _ (List.mem_of_getElem? (i := 42) (by decide +kernel))) (tb_app tboX10_stands (tb_app tbn_9 (tb_app tbn_7 (tb_app tbn_1 (tb_app tbX10_within (tb_app tbX10_demand (tb_app tbX1_prepare (tb_app tbX1_all tbX1_safe))))))))
set_option maxRecDepth 20000 in
theorem tboL_stands : ∀ w ∈ woL_stands, w ∈ lw_tbl := lw_mem3 woL_stands [(1, 136), (4, 39), (4, 40), (4, 41), (0, 1), (0, 17), (0, 10), (1, 218), (0, 18), (1, 85)] (by decide +kernel)
theorem tbL_stands : ∀ w ∈ wsL_stands, w ∈ lw_tbl := tb_cons (tbC_in 4 _ (List.mem_of_getElem? (i := 38) (by decide +kernel))) (tb_app tboL_stands (tb_app tbn_9 (tb_app tbn_7 (tb_app tbn_1 tbX10_stands))))
set_option maxRecDepth 20000 in
theorem tboX11_stands : ∀ w ∈ woX11_stands, w ∈ lw_tbl := lw_mem3 woX11_stands [(4, 93), (4, 104), (4, 126), (5, 199), (5, 200), (0, 13), (4, 214), (4, 216), (7, 39), (5, 202), (5, 204), (7, 70), (5, 89), (5, 90), (5, 206), (5, 208), (7, 71), (5, 213), (5, 214)] (by decide +kernel)
theorem tbX11_stands : ∀ w ∈ wsX11_stands, w ∈ lw_tbl := tb_cons (tbC_in 5 _ (List.mem_of_getElem? (i := 227) (by decide +kernel))) (tb_app tboX11_stands (tb_app tbn_10 (tb_app tbX11_areTens (tb_app tbX11_bad (tb_app tbX11_firstWalls (tb_app tbX11_safeBy (tb_app tbX11_less tbX11_digit)))))))
set_option maxRecDepth 20000 in
theorem tboX10_show : ∀ w ∈ woX10_show, w ∈ lw_tbl := lw_mem3 woX10_show [(1, 24), (1, 16), (0, 216), (1, 128), (1, 107), (0, 1), (1, 141), (1, 143), (7, 3), (0, 17), (3, 229), (3, 230), (3, 231), (0, 10), (1, 218), (0, 18), (3, 234), (3, 235), (3, 236), (3, 238), (3, 239), (4, 0), (1, 85)] (by decide +kernel)
theorem tbX10_show : ∀ w ∈ wsX10_show, w ∈ lw_tbl := tb_cons (tbC_in 4 _ (List.mem_of_getElem? (i := 49) (by decide +kernel))) (tb_app tboX10_show (tb_app tbn_9 (tb_app tbn_7 (tb_app tbn_1 (tb_app tbX10_within (tb_app tbX10_demand (tb_app tbX1_prepare (tb_app tbX1_all tbX1_safe))))))))
set_option maxRecDepth 20000 in
theorem tboL_show : ∀ w ∈ woL_show, w ∈ lw_tbl := lw_mem3 woL_show [(1, 136), (4, 46), (4, 47), (4, 48), (0, 1), (0, 17), (0, 10), (1, 218), (0, 18), (1, 85)] (by decide +kernel)
theorem tbL_show : ∀ w ∈ wsL_show, w ∈ lw_tbl := tb_cons (tbC_in 4 _ (List.mem_of_getElem? (i := 45) (by decide +kernel))) (tb_app tboL_show (tb_app tbn_9 (tb_app tbn_7 (tb_app tbn_1 tbX10_show))))
set_option maxRecDepth 20000 in
theorem tboX11_show : ∀ w ∈ woX11_show, w ∈ lw_tbl := lw_mem3 woX11_show [(4, 93), (5, 199), (5, 200), (0, 13), (4, 214), (4, 216), (7, 39), (5, 202), (5, 204), (7, 70), (5, 206), (5, 208), (7, 71)] (by decide +kernel)
theorem tbX11_show : ∀ w ∈ wsX11_show, w ∈ lw_tbl := tb_cons (tbC_in 5 _ (List.mem_of_getElem? (i := 231) (by decide +kernel))) (tb_app tboX11_show (tb_app tbn_10 (tb_app tbX11_areTens (tb_app tbX11_bad (tb_app tbX11_firstWalls tbX11_safeBy)))))
set_option maxRecDepth 20000 in
theorem tboX3_bid : ∀ w ∈ woX3_bid, w ∈ lw_tbl := lw_mem3 woX3_bid [(0, 179)] (by decide +kernel)
theorem tbX3_bid : ∀ w ∈ wsX3_bid, w ∈ lw_tbl := tb_cons (tbC_in 4 _ (List.mem_of_getElem? (i := 60) (by decide +kernel))) (tb_app tboX3_bid tbn_5)
set_option maxRecDepth 20000 in
theorem tboX10_offers : ∀ w ∈ woX10_offers, w ∈ lw_tbl := lw_mem3 woX10_offers [(1, 20), (0, 193), (1, 128), (1, 107), (0, 1), (1, 141), (1, 143), (7, 3), (0, 17), (4, 57), (4, 58), (4, 59), (0, 9)] (by decide +kernel)
theorem tbX10_offers : ∀ w ∈ wsX10_offers, w ∈ lw_tbl := tb_cons (tbC_in 4 _ (List.mem_of_getElem? (i := 56) (by decide +kernel))) (tb_app tboX10_offers (tb_app tbn_9 (tb_app tbn_6 (tb_app tbn_5 (tb_app tbX10_within (tb_app tbX10_demand tbX3_bid))))))
set_option maxRecDepth 20000 in
theorem tboL_offers : ∀ w ∈ woL_offers, w ∈ lw_tbl := lw_mem3 woL_offers [(1, 136), (4, 53), (4, 54), (4, 55), (0, 1), (0, 17), (0, 9)] (by decide +kernel)
theorem tbL_offers : ∀ w ∈ wsL_offers, w ∈ lw_tbl := tb_cons (tbC_in 4 _ (List.mem_of_getElem? (i := 52) (by decide +kernel))) (tb_app tboL_offers (tb_app tbn_9 (tb_app tbn_6 (tb_app tbn_5 tbX10_offers))))
set_option maxRecDepth 20000 in
theorem tboX11_offers : ∀ w ∈ woX11_offers, w ∈ lw_tbl := lw_mem3 woX11_offers [(4, 93), (4, 124), (4, 211), (4, 212), (0, 13), (4, 214), (4, 216), (7, 39)] (by decide +kernel)
theorem tbX11_offers : ∀ w ∈ wsX11_offers, w ∈ lw_tbl := tb_cons (tbC_in 5 _ (List.mem_of_getElem? (i := 235) (by decide +kernel))) (tb_app tboX11_offers (tb_app tbn_10 (tb_app tbX11_in tbX11_bad)))
theorem tbX3_mayFollow : ∀ w ∈ wsX3_mayFollow, w ∈ lw_tbl := tb_cons (tbC_in 1 _ (List.mem_of_getElem? (i := 79) (by decide +kernel))) tb_nil
set_option maxRecDepth 20000 in
theorem tboX3_through : ∀ w ∈ woX3_through, w ∈ lw_tbl := lw_mem3 woX3_through [(0, 179), (0, 180)] (by decide +kernel)
theorem tbX3_through : ∀ w ∈ wsX3_through, w ∈ lw_tbl := tb_cons (tbC_in 1 _ (List.mem_of_getElem? (i := 83) (by decide +kernel))) (tb_app tboX3_through tbn_5)
set_option maxRecDepth 20000 in
theorem tboX3_mostFrom : ∀ w ∈ woX3_mostFrom, w ∈ lw_tbl := lw_mem3 woX3_mostFrom [(1, 84), (1, 85), (0, 18), (1, 86), (1, 77), (1, 78), (0, 9), (1, 80), (1, 82), (7, 2)] (by decide +kernel)
theorem tbX3_mostFrom : ∀ w ∈ wsX3_mostFrom, w ∈ lw_tbl := tb_cons (tbC_in 1 _ (List.mem_of_getElem? (i := 76) (by decide +kernel))) (tb_app tboX3_mostFrom (tb_app tbn_5 (tb_app tbX3_mayFollow tbX3_through)))
set_option maxRecDepth 20000 in
theorem tboX3_mostCoin : ∀ w ∈ woX3_mostCoin, w ∈ lw_tbl := lw_mem3 woX3_mostCoin [(0, 180), (1, 73), (1, 75), (7, 1), (0, 9), (1, 85), (0, 18)] (by decide +kernel)
theorem tbX3_mostCoin : ∀ w ∈ wsX3_mostCoin, w ∈ lw_tbl := tb_cons (tbC_in 1 _ (List.mem_of_getElem? (i := 72) (by decide +kernel))) (tb_app tboX3_mostCoin (tb_app tbn_5 tbX3_mostFrom))
set_option maxRecDepth 20000 in
theorem tboX10_most : ∀ w ∈ woX10_most, w ∈ lw_tbl := lw_mem3 woX10_most [(1, 20), (0, 193), (1, 69), (1, 70), (1, 71), (0, 9), (1, 85), (0, 18)] (by decide +kernel)
theorem tbX10_most : ∀ w ∈ wsX10_most, w ∈ lw_tbl := tb_cons (tbC_in 1 _ (List.mem_of_getElem? (i := 68) (by decide +kernel))) (tb_app tboX10_most (tb_app tbn_9 (tb_app tbn_6 (tb_app tbn_5 tbX3_mostCoin))))
theorem tbX11_mayServe : ∀ w ∈ wsX11_mayServe, w ∈ lw_tbl := tb_cons (tbC_in 6 _ (List.mem_of_getElem? (i := 10) (by decide +kernel))) tb_nil
set_option maxRecDepth 20000 in
theorem tboX11_laysRest : ∀ w ∈ woX11_laysRest, w ∈ lw_tbl := lw_mem3 woX11_laysRest [(4, 127), (4, 124), (6, 8), (6, 9), (0, 13)] (by decide +kernel)
theorem tbX11_laysRest : ∀ w ∈ wsX11_laysRest, w ∈ lw_tbl := tb_cons (tbC_in 6 _ (List.mem_of_getElem? (i := 7) (by decide +kernel))) (tb_app tboX11_laysRest (tb_app tbn_10 tbX11_mayServe))
set_option maxRecDepth 20000 in
theorem tboX11_mostNow : ∀ w ∈ woX11_mostNow, w ∈ lw_tbl := lw_mem3 woX11_mostNow [(4, 127), (6, 4), (6, 6), (7, 75), (0, 13)] (by decide +kernel)
theorem tbX11_mostNow : ∀ w ∈ wsX11_mostNow, w ∈ lw_tbl := tb_cons (tbC_in 6 _ (List.mem_of_getElem? (i := 3) (by decide +kernel))) (tb_app tboX11_mostNow (tb_app tbn_10 tbX11_laysRest))
set_option maxRecDepth 20000 in
theorem tboX11_most : ∀ w ∈ woX11_most, w ∈ lw_tbl := lw_mem3 woX11_most [(4, 93), (6, 0), (6, 2), (7, 74), (0, 13)] (by decide +kernel)
theorem tbX11_most : ∀ w ∈ wsX11_most, w ∈ lw_tbl := tb_cons (tbC_in 5 _ (List.mem_of_getElem? (i := 239) (by decide +kernel))) (tb_app tboX11_most (tb_app tbn_10 tbX11_mostNow))
set_option maxRecDepth 20000 in
theorem tboX3_firstWay : ∀ w ∈ woX3_firstWay, w ∈ lw_tbl := lw_mem3 woX3_firstWay [(0, 180), (1, 77), (1, 78), (0, 9), (1, 80), (1, 82), (7, 2)] (by decide +kernel)
theorem tbX3_firstWay : ∀ w ∈ wsX3_firstWay, w ∈ lw_tbl := tb_cons (tbC_in 4 _ (List.mem_of_getElem? (i := 76) (by decide +kernel))) (tb_app tboX3_firstWay (tb_app tbn_5 (tb_app tbX3_mayFollow tbX3_through)))
set_option maxRecDepth 20000 in
theorem tboX3_served : ∀ w ∈ woX3_served, w ∈ lw_tbl := lw_mem3 woX3_served [(4, 72), (1, 70), (1, 71), (0, 9), (1, 85), (0, 18), (4, 73), (4, 75), (7, 36)] (by decide +kernel)
theorem tbX3_served : ∀ w ∈ wsX3_served, w ∈ lw_tbl := tb_cons (tbC_in 4 _ (List.mem_of_getElem? (i := 71) (by decide +kernel))) (tb_app tboX3_served (tb_app tbn_5 (tb_app tbX3_mostCoin tbX3_firstWay)))
set_option maxRecDepth 20000 in
theorem tboX10_serves : ∀ w ∈ woX10_serves, w ∈ lw_tbl := lw_mem3 woX10_serves [(1, 20), (0, 193), (1, 128), (1, 107), (0, 1), (1, 141), (1, 143), (7, 3), (0, 17), (4, 68), (4, 69), (4, 70), (0, 9), (1, 85), (0, 18)] (by decide +kernel)
theorem tbX10_serves : ∀ w ∈ wsX10_serves, w ∈ lw_tbl := tb_cons (tbC_in 4 _ (List.mem_of_getElem? (i := 67) (by decide +kernel))) (tb_app tboX10_serves (tb_app tbn_9 (tb_app tbn_6 (tb_app tbn_5 (tb_app tbX10_within (tb_app tbX10_demand tbX3_served))))))
set_option maxRecDepth 20000 in
theorem tboL_serves : ∀ w ∈ woL_serves, w ∈ lw_tbl := lw_mem3 woL_serves [(1, 136), (4, 64), (4, 65), (4, 66), (0, 1), (0, 17), (0, 9), (1, 85), (0, 18)] (by decide +kernel)
theorem tbL_serves : ∀ w ∈ wsL_serves, w ∈ lw_tbl := tb_cons (tbC_in 4 _ (List.mem_of_getElem? (i := 63) (by decide +kernel))) (tb_app tboL_serves (tb_app tbn_9 (tb_app tbn_6 (tb_app tbn_5 tbX10_serves))))
set_option maxRecDepth 20000 in
theorem tboX11_serves : ∀ w ∈ woX11_serves, w ∈ lw_tbl := lw_mem3 woX11_serves [(4, 93), (4, 127), (4, 124), (4, 211), (4, 212), (0, 13), (4, 214), (4, 216), (7, 39), (6, 0), (6, 2), (7, 74), (6, 8), (6, 9)] (by decide +kernel)
theorem tbX11_serves : ∀ w ∈ wsX11_serves, w ∈ lw_tbl := tb_cons (tbC_in 6 _ (List.mem_of_getElem? (i := 14) (by decide +kernel))) (tb_app tboX11_serves (tb_app tbn_10 (tb_app tbX11_in (tb_app tbX11_bad (tb_app tbX11_mostNow tbX11_mayServe)))))
set_option maxRecDepth 20000 in
theorem tboX0_take : ∀ w ∈ woX0_take, w ∈ lw_tbl := lw_mem3 woX0_take [(0, 138), (1, 109), (1, 101), (1, 100), (0, 25), (1, 107), (0, 1)] (by decide +kernel)
theorem tbX0_take : ∀ w ∈ wsX0_take, w ∈ lw_tbl := tb_cons (tbC_in 1 _ (List.mem_of_getElem? (i := 105) (by decide +kernel))) (tb_app tboX0_take (tb_app tbn_3 tbX10_within))
set_option maxRecDepth 20000 in
theorem tboX2_take : ∀ w ∈ woX2_take, w ∈ lw_tbl := lw_mem3 woX2_take [(0, 148), (1, 114), (1, 101), (1, 100), (0, 25), (0, 150), (0, 152), (0, 153), (0, 154), (0, 155), (0, 156)] (by decide +kernel)
theorem tbX2_take : ∀ w ∈ wsX2_take, w ∈ lw_tbl := tb_cons (tbC_in 1 _ (List.mem_of_getElem? (i := 113) (by decide +kernel))) (tb_app tboX2_take tbn_4)
set_option maxRecDepth 20000 in
theorem tboX3_take : ∀ w ∈ woX3_take, w ∈ lw_tbl := lw_mem3 woX3_take [(0, 179), (1, 119), (1, 101), (1, 100), (0, 25)] (by decide +kernel)
theorem tbX3_take : ∀ w ∈ wsX3_take, w ∈ lw_tbl := tb_cons (tbC_in 1 _ (List.mem_of_getElem? (i := 118) (by decide +kernel))) (tb_app tboX3_take tbn_5)
set_option maxRecDepth 20000 in
theorem tboX8_take : ∀ w ∈ woX8_take, w ∈ lw_tbl := lw_mem3 woX8_take [(0, 186), (0, 188), (0, 123), (0, 190), (0, 192), (1, 95), (1, 96), (1, 97), (0, 6), (1, 101), (1, 100), (0, 25), (1, 102), (1, 103), (1, 104), (0, 7), (0, 1), (1, 110), (1, 111), (1, 112), (0, 8), (1, 115), (1, 116), (1, 117), (0, 9)] (by decide +kernel)
theorem tbX8_take : ∀ w ∈ wsX8_take, w ∈ lw_tbl := tb_cons (tbC_in 1 _ (List.mem_of_getElem? (i := 94) (by decide +kernel))) (tb_app tboX8_take (tb_app tbn_6 (tb_app tbn_2 (tb_app tbn_3 (tb_app tbn_4 (tb_app tbn_5 (tb_app tbX4_take (tb_app tbX0_take (tb_app tbX2_take tbX3_take)))))))))
set_option maxRecDepth 20000 in
theorem tboX10_image : ∀ w ∈ woX10_image, w ∈ lw_tbl := lw_mem3 woX10_image [(1, 22), (1, 21), (0, 104), (0, 105), (0, 5), (1, 20), (0, 107), (0, 32), (0, 111), (0, 6), (0, 133), (0, 7), (0, 143), (0, 8), (0, 174), (0, 9), (0, 61), (1, 91), (1, 92), (1, 93), (1, 101), (1, 100), (0, 25), (0, 1)] (by decide +kernel)
theorem tbX10_image : ∀ w ∈ wsX10_image, w ∈ lw_tbl := tb_cons (tbC_in 1 _ (List.mem_of_getElem? (i := 90) (by decide +kernel))) (tb_app tboX10_image (tb_app tbn_9 (tb_app tbn_6 (tb_app tbn_2 (tb_app tbn_3 (tb_app tbn_4 (tb_app tbn_5 (tb_app tbX8_init tbX8_take))))))))
set_option maxRecDepth 20000 in
theorem tboX11_moves : ∀ w ∈ woX11_moves, w ∈ lw_tbl := lw_mem3 woX11_moves [(4, 121)] (by decide +kernel)
theorem tbX11_moves : ∀ w ∈ wsX11_moves, w ∈ lw_tbl := tb_cons (tbC_in 6 _ (List.mem_of_getElem? (i := 26) (by decide +kernel))) (tb_app tboX11_moves tbn_10)
set_option maxRecDepth 20000 in
theorem tboX11_movesAll : ∀ w ∈ woX11_movesAll, w ∈ lw_tbl := lw_mem3 woX11_movesAll [(4, 121), (4, 117), (4, 118), (4, 119), (4, 122), (4, 123), (4, 124), (4, 112), (4, 114), (4, 115), (6, 23), (6, 25), (7, 77), (0, 13)] (by decide +kernel)
theorem tbX11_movesAll : ∀ w ∈ wsX11_movesAll, w ∈ lw_tbl := tb_cons (tbC_in 6 _ (List.mem_of_getElem? (i := 22) (by decide +kernel))) (tb_app tboX11_movesAll (tb_app tbn_10 tbX11_moves))
set_option maxRecDepth 20000 in
theorem tboX11_image : ∀ w ∈ woX11_image, w ∈ lw_tbl := lw_mem3 woX11_image [(4, 93), (4, 120), (4, 125), (6, 19), (6, 21), (7, 76), (0, 13)] (by decide +kernel)
theorem tbX11_image : ∀ w ∈ wsX11_image, w ∈ lw_tbl := tb_cons (tbC_in 6 _ (List.mem_of_getElem? (i := 18) (by decide +kernel))) (tb_app tboX11_image (tb_app tbn_10 tbX11_movesAll))
set_option maxRecDepth 20000 in
theorem tboX10_restore : ∀ w ∈ woX10_restore, w ∈ lw_tbl := lw_mem3 woX10_restore [(1, 22), (1, 21), (1, 20), (1, 91), (1, 92), (1, 93), (0, 5), (0, 6), (1, 101), (1, 100), (0, 25), (0, 7), (0, 1), (0, 8), (0, 9)] (by decide +kernel)
theorem tbX10_restore : ∀ w ∈ wsX10_restore, w ∈ lw_tbl := tb_cons (tbC_in 1 _ (List.mem_of_getElem? (i := 123) (by decide +kernel))) (tb_app tboX10_restore (tb_app tbn_9 (tb_app tbn_6 (tb_app tbn_2 (tb_app tbn_3 (tb_app tbn_4 (tb_app tbn_5 tbX8_take)))))))
set_option maxRecDepth 20000 in
theorem tboX11_restore : ∀ w ∈ woX11_restore, w ∈ lw_tbl := lw_mem3 woX11_restore [(4, 93), (4, 120), (4, 125), (6, 19), (6, 21), (7, 76), (0, 13)] (by decide +kernel)
theorem tbX11_restore : ∀ w ∈ wsX11_restore, w ∈ lw_tbl := tb_cons (tbC_in 6 _ (List.mem_of_getElem? (i := 30) (by decide +kernel))) (tb_app tboX11_restore (tb_app tbn_10 tbX11_movesAll))
set_option maxRecDepth 20000 in
theorem tboX10_status : ∀ w ∈ woX10_status, w ∈ lw_tbl := lw_mem3 woX10_status [(1, 25), (1, 128), (1, 107), (0, 1)] (by decide +kernel)
theorem tbX10_status : ∀ w ∈ wsX10_status, w ∈ lw_tbl := tb_cons (tbC_in 1 _ (List.mem_of_getElem? (i := 127) (by decide +kernel))) (tb_app tboX10_status (tb_app tbn_9 tbX10_within))
set_option maxRecDepth 20000 in
theorem tboX11_status : ∀ w ∈ woX11_status, w ∈ lw_tbl := lw_mem3 woX11_status [(4, 93), (4, 102), (4, 211), (4, 212), (0, 13)] (by decide +kernel)
theorem tbX11_status : ∀ w ∈ wsX11_status, w ∈ lw_tbl := tb_cons (tbC_in 6 _ (List.mem_of_getElem? (i := 34) (by decide +kernel))) (tb_app tboX11_status (tb_app tbn_10 tbX11_in))
set_option maxRecDepth 20000 in
theorem tboX10_count : ∀ w ∈ woX10_count, w ∈ lw_tbl := lw_mem3 woX10_count [(1, 22), (1, 14), (1, 20), (0, 191), (0, 157)] (by decide +kernel)
theorem tbX10_count : ∀ w ∈ wsX10_count, w ∈ lw_tbl := tb_cons (tbC_in 1 _ (List.mem_of_getElem? (i := 132) (by decide +kernel))) (tb_app tboX10_count (tb_app tbn_9 (tb_app tbn_6 tbn_4)))
set_option maxRecDepth 20000 in
theorem tboX11_count : ∀ w ∈ woX11_count, w ∈ lw_tbl := lw_mem3 woX11_count [(4, 93), (4, 120), (4, 94), (4, 119)] (by decide +kernel)
theorem tbX11_count : ∀ w ∈ wsX11_count, w ∈ lw_tbl := tb_cons (tbC_in 6 _ (List.mem_of_getElem? (i := 38) (by decide +kernel))) (tb_app tboX11_count tbn_10)
set_option maxRecDepth 20000 in
theorem tboL_law : ∀ w ∈ woL_law, w ∈ lw_tbl := lw_mem3 woL_law [(0, 26), (0, 27), (0, 1), (4, 77), (4, 78), (0, 13), (6, 39), (0, 28), (0, 29), (0, 32), (0, 60), (0, 35), (0, 2), (0, 63), (0, 4), (0, 105), (0, 5), (0, 111), (0, 6), (0, 207), (0, 10), (0, 61), (0, 230), (0, 11), (0, 3), (0, 133), (0, 7), (0, 143), (0, 8), (0, 174), (0, 9), (0, 12), (4, 79), (4, 80), (1, 53), (1, 54), (1, 55), (4, 203), (4, 204), (4, 205), (1, 133), (1, 134), (0, 0), (1, 136), (1, 137), (0, 17), (1, 218), (0, 18), (1, 222), (2, 3), (0, 19), (0, 20), (0, 21), (0, 22), (2, 74), (2, 83), (2, 95), (2, 104), (2, 124), (4, 207), (4, 208), (4, 209), (2, 150), (2, 151), (2, 153), (5, 29), (5, 30), (5, 31), (4, 199), (4, 200), (4, 201), (1, 61), (1, 62), (1, 63), (5, 37), (5, 38), (5, 39), (2, 162), (2, 163), (2, 165), (5, 41), (5, 42), (5, 43), (2, 169), (2, 170), (2, 172), (2, 173), (0, 23), (5, 45), (5, 46), (5, 47), (2, 197), (2, 198), (2, 200), (2, 201), (0, 24), (5, 53), (5, 54), (5, 55), (2, 237), (2, 238), (3, 0), (5, 61), (5, 62), (5, 63), (3, 8), (3, 9), (3, 11), (5, 69), (5, 70), (5, 71), (3, 23), (3, 24), (3, 26), (1, 101), (1, 100), (0, 25), (1, 85), (3, 89), (5, 77), (5, 78), (5, 79), (3, 95), (3, 96), (3, 98), (5, 116), (5, 117), (5, 118), (3, 107), (3, 108), (3, 110), (5, 120), (5, 121), (5, 122), (3, 114), (3, 115), (3, 117), (5, 124), (5, 125), (5, 126), (3, 125), (3, 126), (3, 128), (5, 128), (5, 129), (5, 130), (3, 141), (3, 142), (3, 144), (5, 151), (5, 152), (5, 153), (3, 148), (3, 149), (3, 151), (5, 155), (5, 156), (5, 157), (3, 160), (3, 161), (3, 163), (5, 163), (5, 164), (5, 165), (3, 167), (3, 168), (3, 170), (5, 167), (5, 168), (5, 169), (3, 174), (3, 175), (3, 177), (5, 171), (5, 172), (5, 173), (3, 186), (3, 187), (3, 189), (5, 175), (5, 176), (5, 177), (3, 193), (3, 194), (3, 196), (5, 179), (5, 180), (5, 181), (3, 204), (3, 205), (3, 207), (5, 187), (5, 188), (5, 189), (3, 211), (3, 212), (3, 214), (5, 191), (5, 192), (5, 193), (3, 222), (3, 223), (3, 225), (5, 195), (5, 196), (5, 197), (4, 36), (4, 37), (4, 39), (5, 224), (5, 225), (5, 226), (4, 43), (4, 44), (4, 46), (5, 228), (5, 229), (5, 230), (4, 50), (4, 51), (4, 53), (5, 232), (5, 233), (5, 234), (1, 65), (1, 66), (1, 67), (5, 236), (5, 237), (5, 238), (4, 61), (4, 62), (4, 64), (6, 11), (6, 12), (6, 13), (1, 87), (1, 88), (1, 89), (6, 15), (6, 16), (6, 17), (1, 120), (1, 121), (1, 122), (6, 27), (6, 28), (6, 29), (1, 124), (1, 125), (1, 126), (6, 31), (6, 32), (6, 33), (1, 129), (1, 130), (1, 131), (6, 35), (6, 36), (6, 37)] (by decide +kernel)
theorem wsL_law_in : ∀ w ∈ wsL_law, w ∈ lw_tbl := (tb_app tboL_law (tb_app tbn_9 (tb_app tbn_10 (tb_app tbn_0 (tb_app tbn_1 (tb_app tbn_6 (tb_app tbn_2 (tb_app tbn_7 (tb_app tbn_8 (tb_app tbn_3 (tb_app tbn_4 (tb_app tbn_5 (tb_app tbn_11 (tb_app tbn_12 (tb_app tbn_13 (tb_app tbX10_init (tb_app tbX11_init (tb_app tbX10_feed (tb_app tbX11_feed (tb_app tbL_siege (tb_app tbX11_siege (tb_app tbL_contract (tb_app tbX11_contract (tb_app tbX11_thrown (tb_app tbX10_fault (tb_app tbX11_fault (tb_app tbL_told (tb_app tbX11_told (tb_app tbL_wall (tb_app tbX11_wall (tb_app tbL_rule (tb_app tbX11_rule (tb_app tbL_wants (tb_app tbX11_wants (tb_app tbL_sign (tb_app tbX11_sign (tb_app tbL_months (tb_app tbX11_months (tb_app tbL_undo (tb_app tbX11_undo (tb_app tbL_sums (tb_app tbX11_sums (tb_app tbL_corks (tb_app tbX11_corks (tb_app tbL_would (tb_app tbX11_would (tb_app tbL_best (tb_app tbX11_best (tb_app tbL_offer (tb_app tbX11_offer (tb_app tbL_nearest (tb_app tbX11_nearest (tb_app tbL_stop (tb_app tbX11_stop (tb_app tbL_odds (tb_app tbX11_odds (tb_app tbL_kind (tb_app tbX11_kind (tb_app tbL_seen (tb_app tbX11_seen (tb_app tbL_spy (tb_app tbX11_spy (tb_app tbL_believed (tb_app tbX11_believed (tb_app tbL_earnest (tb_app tbX11_earnest (tb_app tbL_stands (tb_app tbX11_stands (tb_app tbL_show (tb_app tbX11_show (tb_app tbL_offers (tb_app tbX11_offers (tb_app tbX10_most (tb_app tbX11_most (tb_app tbL_serves (tb_app tbX11_serves (tb_app tbX10_image (tb_app tbX11_image (tb_app tbX10_restore (tb_app tbX11_restore (tb_app tbX10_status (tb_app tbX11_status (tb_app tbX10_count tbX11_count)))))))))))))))))))))))))))))))))))))))))))))))))))))))))))))))))))))))))))))))))))
theorem inlX0 : ∀ w ∈ wsX00, w ∈ wsL_law := fun _ h => List.mem_append_right _ (List.mem_append_right _ (List.mem_append_right _ (List.mem_append_right _ (List.mem_append_right _ (List.mem_append_right _ (List.mem_append_right _ (List.mem_append_right _ (List.mem_append_right _ (List.mem_append_left _ h)))))))))
theorem inX0 : ∀ w ∈ wsX00, w ∈ lw_tbl := fun w h => wsL_law_in w (inlX0 w h)
theorem inlX1 : ∀ w ∈ wsX10, w ∈ wsL_law := fun _ h => List.mem_append_right _ (List.mem_append_right _ (List.mem_append_right _ (List.mem_append_right _ (List.mem_append_right _ (List.mem_append_right _ (List.mem_append_right _ (List.mem_append_left _ h)))))))
theorem inX1 : ∀ w ∈ wsX10, w ∈ lw_tbl := fun w h => wsL_law_in w (inlX1 w h)
theorem inlX2 : ∀ w ∈ wsX20, w ∈ wsL_law := fun _ h => List.mem_append_right _ (List.mem_append_right _ (List.mem_append_right _ (List.mem_append_right _ (List.mem_append_right _ (List.mem_append_right _ (List.mem_append_right _ (List.mem_append_right _ (List.mem_append_right _ (List.mem_append_right _ (List.mem_append_left _ h))))))))))
theorem inX2 : ∀ w ∈ wsX20, w ∈ lw_tbl := fun w h => wsL_law_in w (inlX2 w h)
theorem inlX3 : ∀ w ∈ wsX30, w ∈ wsL_law := fun _ h => List.mem_append_right _ (List.mem_append_right _ (List.mem_append_right _ (List.mem_append_right _ (List.mem_append_right _ (List.mem_append_right _ (List.mem_append_right _ (List.mem_append_right _ (List.mem_append_right _ (List.mem_append_right _ (List.mem_append_right _ (List.mem_append_left _ h)))))))))))
theorem inX3 : ∀ w ∈ wsX30, w ∈ lw_tbl := fun w h => wsL_law_in w (inlX3 w h)
theorem inlX4 : ∀ w ∈ wsX40, w ∈ wsL_law := fun _ h => List.mem_append_right _ (List.mem_append_right _ (List.mem_append_right _ (List.mem_append_right _ (List.mem_append_right _ (List.mem_append_right _ (List.mem_append_left _ h))))))
theorem inX4 : ∀ w ∈ wsX40, w ∈ lw_tbl := fun w h => wsL_law_in w (inlX4 w h)
theorem inlX5 : ∀ w ∈ wsX50, w ∈ wsL_law := fun _ h => List.mem_append_right _ (List.mem_append_right _ (List.mem_append_right _ (List.mem_append_right _ (List.mem_append_right _ (List.mem_append_right _ (List.mem_append_right _ (List.mem_append_right _ (List.mem_append_left _ h))))))))
theorem inX5 : ∀ w ∈ wsX50, w ∈ lw_tbl := fun w h => wsL_law_in w (inlX5 w h)
theorem inlX6 : ∀ w ∈ wsX60, w ∈ wsL_law := fun _ h => List.mem_append_right _ (List.mem_append_right _ (List.mem_append_right _ (List.mem_append_right _ (List.mem_append_left _ h))))
theorem inX6 : ∀ w ∈ wsX60, w ∈ lw_tbl := fun w h => wsL_law_in w (inlX6 w h)
theorem inlX7 : ∀ w ∈ wsX70, w ∈ wsL_law := fun _ h => List.mem_append_right _ (List.mem_append_right _ (List.mem_append_right _ (List.mem_append_left _ h)))
theorem inX7 : ∀ w ∈ wsX70, w ∈ lw_tbl := fun w h => wsL_law_in w (inlX7 w h)
theorem inlX8 : ∀ w ∈ wsX80, w ∈ wsL_law := fun _ h => List.mem_append_right _ (List.mem_append_right _ (List.mem_append_right _ (List.mem_append_right _ (List.mem_append_right _ (List.mem_append_left _ h)))))
theorem inX8 : ∀ w ∈ wsX80, w ∈ lw_tbl := fun w h => wsL_law_in w (inlX8 w h)
theorem inX9 : ∀ w ∈ wsX90, w ∈ lw_tbl := by decide +kernel
theorem inlX10 : ∀ w ∈ wsX100, w ∈ wsL_law := fun _ h => List.mem_append_right _ (List.mem_append_left _ h)
theorem inX10 : ∀ w ∈ wsX100, w ∈ lw_tbl := fun w h => wsL_law_in w (inlX10 w h)
theorem inlX11 : ∀ w ∈ wsX110, w ∈ wsL_law := fun _ h => List.mem_append_right _ (List.mem_append_right _ (List.mem_append_left _ h))
theorem inX11 : ∀ w ∈ wsX110, w ∈ lw_tbl := fun w h => wsL_law_in w (inlX11 w h)
theorem inJx145de : ∀ w ∈ wsJx145de0, w ∈ lw_tbl := by decide +kernel
theorem inJx9f9b0 : ∀ w ∈ wsJx9f9b00, w ∈ lw_tbl := by decide +kernel
theorem inJxb160c : ∀ w ∈ wsJxb160c0, w ∈ lw_tbl := by decide +kernel
theorem inJ9 : ∀ w ∈ wsJ90, w ∈ lw_tbl := by decide +kernel
theorem inJ0 : ∀ w ∈ wsJ00, w ∈ lw_tbl := by decide +kernel
theorem inJ1 : ∀ w ∈ wsJ10, w ∈ lw_tbl := by decide +kernel
theorem inJ2 : ∀ w ∈ wsJ20, w ∈ lw_tbl := by decide +kernel
theorem inJ10 : ∀ w ∈ wsJ100, w ∈ lw_tbl := by decide +kernel
theorem inJxfd54e : ∀ w ∈ wsJxfd54e0, w ∈ lw_tbl := by decide +kernel
theorem inJx3cf43 : ∀ w ∈ wsJx3cf430, w ∈ lw_tbl := by decide +kernel
theorem inJ7 : ∀ w ∈ wsJ70, w ∈ lw_tbl := by decide +kernel
theorem inJ3 : ∀ w ∈ wsJ30, w ∈ lw_tbl := by decide +kernel
theorem ggL_siege_X10_siege : GoodIn wsL_siege wsX10_siege := gW_in gwX10_siege (fun _ h => List.mem_cons_of_mem _ (List.mem_append_right _ (List.mem_append_right _ (List.mem_append_right _ (List.mem_append_right _ (List.mem_append_right _ (List.mem_append_right _ (List.mem_append_right _ (List.mem_append_right _ (List.mem_append_right _ (h)))))))))))
set_option maxRecDepth 20000 in
theorem gL_siege_X10_siege : GoodIn wsL_siege (wsV RL 7 RX10 yX10_siege wsX10_siege) := goodIn_app (goodIn_of _ (by decide +kernel)) ggL_siege_X10_siege
theorem dL_siege_0 : decode cL_siege 0 = .ok (.aload_n 2, 1) := by decide +kernel
theorem dL_siege_1 : decode cL_siege 1 = .ok (.iconst 0, 1) := by decide +kernel
theorem dL_siege_2 : decode cL_siege 2 = .ok (.aload_n 0, 1) := by decide +kernel
theorem dL_siege_3 : decode cL_siege 3 = .ok (.iload_n 1, 1) := by decide +kernel
theorem dL_siege_4 : decode cL_siege 4 = .ok (.invokevirtual 7, 3) := by decide +kernel
theorem dL_siege_7 : decode cL_siege 7 = .ok (.i2l, 1) := by decide +kernel
theorem dL_siege_8 : decode cL_siege 8 = .ok (.lastore, 1) := by decide +kernel
theorem dL_siege_9 : decode cL_siege 9 = .ok (.goto 6, 3) := by decide +kernel
theorem dL_siege_12 : decode cL_siege 12 = .ok (.astore_n 3, 1) := by decide +kernel
theorem dL_siege_13 : decode cL_siege 13 = .ok (.iconst 1, 1) := by decide +kernel
theorem dL_siege_14 : decode cL_siege 14 = .ok (.ireturn, 1) := by decide +kernel
theorem dL_siege_15 : decode cL_siege 15 = .ok (.iconst 0, 1) := by decide +kernel
theorem dL_siege_16 : decode cL_siege 16 = .ok (.ireturn, 1) := by decide +kernel
theorem ggL_contract_X10_contract : GoodIn wsL_contract wsX10_contract := gW_in gwX10_contract (fun _ h => List.mem_cons_of_mem _ (List.mem_append_right _ (List.mem_append_right _ (List.mem_append_right _ (List.mem_append_right _ (List.mem_append_right _ (h)))))))
set_option maxRecDepth 20000 in
theorem gL_contract_X10_contract : GoodIn wsL_contract (wsV RL 15 RX10 yX10_contract wsX10_contract) := goodIn_app (goodIn_of _ (by decide +kernel)) ggL_contract_X10_contract
theorem dL_contract_0 : decode cL_contract 0 = .ok (.aload_n 2, 1) := by decide +kernel
theorem dL_contract_1 : decode cL_contract 1 = .ok (.iconst 0, 1) := by decide +kernel
theorem dL_contract_2 : decode cL_contract 2 = .ok (.aload_n 0, 1) := by decide +kernel
theorem dL_contract_3 : decode cL_contract 3 = .ok (.iload_n 1, 1) := by decide +kernel
theorem dL_contract_4 : decode cL_contract 4 = .ok (.invokevirtual 15, 3) := by decide +kernel
theorem dL_contract_7 : decode cL_contract 7 = .ok (.i2l, 1) := by decide +kernel
theorem dL_contract_8 : decode cL_contract 8 = .ok (.lastore, 1) := by decide +kernel
theorem dL_contract_9 : decode cL_contract 9 = .ok (.goto 6, 3) := by decide +kernel
theorem dL_contract_12 : decode cL_contract 12 = .ok (.astore_n 3, 1) := by decide +kernel
theorem dL_contract_13 : decode cL_contract 13 = .ok (.iconst 1, 1) := by decide +kernel
theorem dL_contract_14 : decode cL_contract 14 = .ok (.ireturn, 1) := by decide +kernel
theorem dL_contract_15 : decode cL_contract 15 = .ok (.iconst 0, 1) := by decide +kernel
theorem dL_contract_16 : decode cL_contract 16 = .ok (.ireturn, 1) := by decide +kernel
theorem ggL_told_X10_told : GoodIn wsL_told wsX10_told := gW_in gwX10_told (fun _ h => List.mem_cons_of_mem _ (List.mem_append_right _ (List.mem_append_right _ (List.mem_append_right _ (List.mem_append_right _ (List.mem_append_right _ (h)))))))
set_option maxRecDepth 20000 in
theorem gL_told_X10_told : GoodIn wsL_told (wsV RL 18 RX10 yX10_told wsX10_told) := goodIn_app (goodIn_of _ (by decide +kernel)) ggL_told_X10_told
theorem dL_told_0 : decode cL_told 0 = .ok (.aload_n 2, 1) := by decide +kernel
theorem dL_told_1 : decode cL_told 1 = .ok (.iconst 0, 1) := by decide +kernel
theorem dL_told_2 : decode cL_told 2 = .ok (.aload_n 0, 1) := by decide +kernel
theorem dL_told_3 : decode cL_told 3 = .ok (.iload_n 1, 1) := by decide +kernel
theorem dL_told_4 : decode cL_told 4 = .ok (.invokevirtual 18, 3) := by decide +kernel
theorem dL_told_7 : decode cL_told 7 = .ok (.i2l, 1) := by decide +kernel
theorem dL_told_8 : decode cL_told 8 = .ok (.lastore, 1) := by decide +kernel
theorem dL_told_9 : decode cL_told 9 = .ok (.goto 6, 3) := by decide +kernel
theorem dL_told_12 : decode cL_told 12 = .ok (.astore_n 3, 1) := by decide +kernel
theorem dL_told_13 : decode cL_told 13 = .ok (.iconst 1, 1) := by decide +kernel
theorem dL_told_14 : decode cL_told 14 = .ok (.ireturn, 1) := by decide +kernel
theorem dL_told_15 : decode cL_told 15 = .ok (.iconst 0, 1) := by decide +kernel
theorem dL_told_16 : decode cL_told 16 = .ok (.ireturn, 1) := by decide +kernel
theorem ggL_wall_X10_wall : GoodIn wsL_wall wsX10_wall := gW_in gwX10_wall (fun _ h => List.mem_cons_of_mem _ (List.mem_append_right _ (List.mem_append_right _ (List.mem_append_right _ (List.mem_append_right _ (List.mem_append_right _ (h)))))))
set_option maxRecDepth 20000 in
theorem gL_wall_X10_wall : GoodIn wsL_wall (wsV RL 21 RX10 yX10_wall wsX10_wall) := goodIn_app (goodIn_of _ (by decide +kernel)) ggL_wall_X10_wall
theorem dL_wall_0 : decode cL_wall 0 = .ok (.aload_n 3, 1) := by decide +kernel
theorem dL_wall_1 : decode cL_wall 1 = .ok (.iconst 0, 1) := by decide +kernel
theorem dL_wall_2 : decode cL_wall 2 = .ok (.aload_n 0, 1) := by decide +kernel
theorem dL_wall_3 : decode cL_wall 3 = .ok (.iload_n 1, 1) := by decide +kernel
theorem dL_wall_4 : decode cL_wall 4 = .ok (.iload_n 2, 1) := by decide +kernel
theorem dL_wall_5 : decode cL_wall 5 = .ok (.invokevirtual 21, 3) := by decide +kernel
theorem dL_wall_8 : decode cL_wall 8 = .ok (.i2l, 1) := by decide +kernel
theorem dL_wall_9 : decode cL_wall 9 = .ok (.lastore, 1) := by decide +kernel
theorem dL_wall_10 : decode cL_wall 10 = .ok (.goto 11, 3) := by decide +kernel
theorem dL_wall_13 : decode cL_wall 13 = .ok (.astore 4, 2) := by decide +kernel
theorem dL_wall_15 : decode cL_wall 15 = .ok (.iconst 1, 1) := by decide +kernel
theorem dL_wall_16 : decode cL_wall 16 = .ok (.ireturn, 1) := by decide +kernel
theorem dL_wall_17 : decode cL_wall 17 = .ok (.astore 4, 2) := by decide +kernel
theorem dL_wall_19 : decode cL_wall 19 = .ok (.iconst 2, 1) := by decide +kernel
theorem dL_wall_20 : decode cL_wall 20 = .ok (.ireturn, 1) := by decide +kernel
theorem dL_wall_21 : decode cL_wall 21 = .ok (.iconst 0, 1) := by decide +kernel
theorem dL_wall_22 : decode cL_wall 22 = .ok (.ireturn, 1) := by decide +kernel
theorem ggL_rule_X10_rule : GoodIn wsL_rule wsX10_rule := gW_in gwX10_rule (fun _ h => List.mem_cons_of_mem _ (List.mem_append_right _ (List.mem_append_right _ (List.mem_append_right _ (h)))))
set_option maxRecDepth 20000 in
theorem gL_rule_X10_rule : GoodIn wsL_rule (wsV RL 27 RX10 yX10_rule wsX10_rule) := goodIn_app (goodIn_of _ (by decide +kernel)) ggL_rule_X10_rule
theorem dL_rule_0 : decode cL_rule 0 = .ok (.aload_n 3, 1) := by decide +kernel
theorem dL_rule_1 : decode cL_rule 1 = .ok (.iconst 0, 1) := by decide +kernel
theorem dL_rule_2 : decode cL_rule 2 = .ok (.aload_n 0, 1) := by decide +kernel
theorem dL_rule_3 : decode cL_rule 3 = .ok (.iload_n 1, 1) := by decide +kernel
theorem dL_rule_4 : decode cL_rule 4 = .ok (.iload_n 2, 1) := by decide +kernel
theorem dL_rule_5 : decode cL_rule 5 = .ok (.invokevirtual 27, 3) := by decide +kernel
theorem dL_rule_8 : decode cL_rule 8 = .ok (.i2l, 1) := by decide +kernel
theorem dL_rule_9 : decode cL_rule 9 = .ok (.lastore, 1) := by decide +kernel
theorem dL_rule_10 : decode cL_rule 10 = .ok (.goto 11, 3) := by decide +kernel
theorem dL_rule_13 : decode cL_rule 13 = .ok (.astore 4, 2) := by decide +kernel
theorem dL_rule_15 : decode cL_rule 15 = .ok (.iconst 1, 1) := by decide +kernel
theorem dL_rule_16 : decode cL_rule 16 = .ok (.ireturn, 1) := by decide +kernel
theorem dL_rule_17 : decode cL_rule 17 = .ok (.astore 4, 2) := by decide +kernel
theorem dL_rule_19 : decode cL_rule 19 = .ok (.iconst 2, 1) := by decide +kernel
theorem dL_rule_20 : decode cL_rule 20 = .ok (.ireturn, 1) := by decide +kernel
theorem dL_rule_21 : decode cL_rule 21 = .ok (.iconst 0, 1) := by decide +kernel
theorem dL_rule_22 : decode cL_rule 22 = .ok (.ireturn, 1) := by decide +kernel
theorem ggL_wants_X10_wants : GoodIn wsL_wants wsX10_wants := gW_in gwX10_wants (fun _ h => List.mem_cons_of_mem _ (List.mem_append_right _ (List.mem_append_right _ (List.mem_append_right _ (h)))))
set_option maxRecDepth 20000 in
theorem gL_wants_X10_wants : GoodIn wsL_wants (wsV RL 32 RX10 yX10_wants wsX10_wants) := goodIn_app (goodIn_of _ (by decide +kernel)) ggL_wants_X10_wants
theorem dL_wants_0 : decode cL_wants 0 = .ok (.aload_n 3, 1) := by decide +kernel
theorem dL_wants_1 : decode cL_wants 1 = .ok (.iconst 0, 1) := by decide +kernel
theorem dL_wants_2 : decode cL_wants 2 = .ok (.aload_n 0, 1) := by decide +kernel
theorem dL_wants_3 : decode cL_wants 3 = .ok (.iload_n 1, 1) := by decide +kernel
theorem dL_wants_4 : decode cL_wants 4 = .ok (.iload_n 2, 1) := by decide +kernel
theorem dL_wants_5 : decode cL_wants 5 = .ok (.invokevirtual 32, 3) := by decide +kernel
theorem dL_wants_8 : decode cL_wants 8 = .ok (.i2l, 1) := by decide +kernel
theorem dL_wants_9 : decode cL_wants 9 = .ok (.lastore, 1) := by decide +kernel
theorem dL_wants_10 : decode cL_wants 10 = .ok (.goto 7, 3) := by decide +kernel
theorem dL_wants_13 : decode cL_wants 13 = .ok (.astore 4, 2) := by decide +kernel
theorem dL_wants_15 : decode cL_wants 15 = .ok (.iconst 1, 1) := by decide +kernel
theorem dL_wants_16 : decode cL_wants 16 = .ok (.ireturn, 1) := by decide +kernel
theorem dL_wants_17 : decode cL_wants 17 = .ok (.iconst 0, 1) := by decide +kernel
theorem dL_wants_18 : decode cL_wants 18 = .ok (.ireturn, 1) := by decide +kernel
theorem ggL_sign_X10_sign : GoodIn wsL_sign wsX10_sign := gW_in gwX10_sign (fun _ h => List.mem_cons_of_mem _ (List.mem_append_right _ (List.mem_append_right _ (List.mem_append_right _ (List.mem_append_right _ (h))))))
set_option maxRecDepth 20000 in
theorem gL_sign_X10_sign : GoodIn wsL_sign (wsV RL 35 RX10 yX10_sign wsX10_sign) := goodIn_app (goodIn_of _ (by decide +kernel)) ggL_sign_X10_sign
theorem dL_sign_0 : decode cL_sign 0 = .ok (.aload_n 2, 1) := by decide +kernel
theorem dL_sign_1 : decode cL_sign 1 = .ok (.iconst 0, 1) := by decide +kernel
theorem dL_sign_2 : decode cL_sign 2 = .ok (.aload_n 0, 1) := by decide +kernel
theorem dL_sign_3 : decode cL_sign 3 = .ok (.iload_n 1, 1) := by decide +kernel
theorem dL_sign_4 : decode cL_sign 4 = .ok (.invokevirtual 35, 3) := by decide +kernel
theorem dL_sign_7 : decode cL_sign 7 = .ok (.i2l, 1) := by decide +kernel
theorem dL_sign_8 : decode cL_sign 8 = .ok (.lastore, 1) := by decide +kernel
theorem dL_sign_9 : decode cL_sign 9 = .ok (.goto 6, 3) := by decide +kernel
theorem dL_sign_12 : decode cL_sign 12 = .ok (.astore_n 3, 1) := by decide +kernel
theorem dL_sign_13 : decode cL_sign 13 = .ok (.iconst 1, 1) := by decide +kernel
theorem dL_sign_14 : decode cL_sign 14 = .ok (.ireturn, 1) := by decide +kernel
theorem dL_sign_15 : decode cL_sign 15 = .ok (.iconst 0, 1) := by decide +kernel
theorem dL_sign_16 : decode cL_sign 16 = .ok (.ireturn, 1) := by decide +kernel
theorem ggL_months_X10_months : GoodIn wsL_months wsX10_months := gW_in gwX10_months (fun _ h => List.mem_cons_of_mem _ (List.mem_append_right _ (List.mem_append_right _ (List.mem_append_right _ (List.mem_append_right _ (List.mem_append_right _ (List.mem_append_right _ (List.mem_append_right _ (h)))))))))
set_option maxRecDepth 20000 in
theorem gL_months_X10_months : GoodIn wsL_months (wsV RL 38 RX10 yX10_months wsX10_months) := goodIn_app (goodIn_of _ (by decide +kernel)) ggL_months_X10_months
theorem dL_months_0 : decode cL_months 0 = .ok (.aload_n 2, 1) := by decide +kernel
theorem dL_months_1 : decode cL_months 1 = .ok (.iconst 0, 1) := by decide +kernel
theorem dL_months_2 : decode cL_months 2 = .ok (.aload_n 0, 1) := by decide +kernel
theorem dL_months_3 : decode cL_months 3 = .ok (.iload_n 1, 1) := by decide +kernel
theorem dL_months_4 : decode cL_months 4 = .ok (.invokevirtual 38, 3) := by decide +kernel
theorem dL_months_7 : decode cL_months 7 = .ok (.i2l, 1) := by decide +kernel
theorem dL_months_8 : decode cL_months 8 = .ok (.lastore, 1) := by decide +kernel
theorem dL_months_9 : decode cL_months 9 = .ok (.goto 6, 3) := by decide +kernel
theorem dL_months_12 : decode cL_months 12 = .ok (.astore_n 3, 1) := by decide +kernel
theorem dL_months_13 : decode cL_months 13 = .ok (.iconst 1, 1) := by decide +kernel
theorem dL_months_14 : decode cL_months 14 = .ok (.ireturn, 1) := by decide +kernel
theorem dL_months_15 : decode cL_months 15 = .ok (.iconst 0, 1) := by decide +kernel
theorem dL_months_16 : decode cL_months 16 = .ok (.ireturn, 1) := by decide +kernel
theorem ggL_undo_X10_undo : GoodIn wsL_undo wsX10_undo := gW_in gwX10_undo (fun _ h => List.mem_cons_of_mem _ (List.mem_append_right _ (List.mem_append_right _ (List.mem_append_right _ (List.mem_append_right _ (List.mem_append_right _ (h)))))))
set_option maxRecDepth 20000 in
theorem gL_undo_X10_undo : GoodIn wsL_undo (wsV RL 41 RX10 yX10_undo wsX10_undo) := goodIn_app (goodIn_of _ (by decide +kernel)) ggL_undo_X10_undo
theorem dL_undo_0 : decode cL_undo 0 = .ok (.aload_n 2, 1) := by decide +kernel
theorem dL_undo_1 : decode cL_undo 1 = .ok (.iconst 0, 1) := by decide +kernel
theorem dL_undo_2 : decode cL_undo 2 = .ok (.aload_n 0, 1) := by decide +kernel
theorem dL_undo_3 : decode cL_undo 3 = .ok (.iload_n 1, 1) := by decide +kernel
theorem dL_undo_4 : decode cL_undo 4 = .ok (.invokevirtual 41, 3) := by decide +kernel
theorem dL_undo_7 : decode cL_undo 7 = .ok (.i2l, 1) := by decide +kernel
theorem dL_undo_8 : decode cL_undo 8 = .ok (.lastore, 1) := by decide +kernel
theorem dL_undo_9 : decode cL_undo 9 = .ok (.goto 6, 3) := by decide +kernel
theorem dL_undo_12 : decode cL_undo 12 = .ok (.astore_n 3, 1) := by decide +kernel
theorem dL_undo_13 : decode cL_undo 13 = .ok (.iconst 1, 1) := by decide +kernel
theorem dL_undo_14 : decode cL_undo 14 = .ok (.ireturn, 1) := by decide +kernel
theorem dL_undo_15 : decode cL_undo 15 = .ok (.iconst 0, 1) := by decide +kernel
theorem dL_undo_16 : decode cL_undo 16 = .ok (.ireturn, 1) := by decide +kernel
theorem ggL_sums_X10_sums : GoodIn wsL_sums wsX10_sums := gW_in gwX10_sums (fun _ h => List.mem_cons_of_mem _ (List.mem_append_right _ (List.mem_append_right _ (List.mem_append_right _ (List.mem_append_right _ (h))))))
set_option maxRecDepth 20000 in
theorem gL_sums_X10_sums : GoodIn wsL_sums (wsV RL 44 RX10 yX10_sums wsX10_sums) := goodIn_app (goodIn_of _ (by decide +kernel)) ggL_sums_X10_sums
theorem dL_sums_0 : decode cL_sums 0 = .ok (.aload_n 2, 1) := by decide +kernel
theorem dL_sums_1 : decode cL_sums 1 = .ok (.iconst 0, 1) := by decide +kernel
theorem dL_sums_2 : decode cL_sums 2 = .ok (.aload_n 0, 1) := by decide +kernel
theorem dL_sums_3 : decode cL_sums 3 = .ok (.iload_n 1, 1) := by decide +kernel
theorem dL_sums_4 : decode cL_sums 4 = .ok (.invokevirtual 44, 3) := by decide +kernel
theorem dL_sums_7 : decode cL_sums 7 = .ok (.i2l, 1) := by decide +kernel
theorem dL_sums_8 : decode cL_sums 8 = .ok (.lastore, 1) := by decide +kernel
theorem dL_sums_9 : decode cL_sums 9 = .ok (.goto 6, 3) := by decide +kernel
theorem dL_sums_12 : decode cL_sums 12 = .ok (.astore_n 3, 1) := by decide +kernel
theorem dL_sums_13 : decode cL_sums 13 = .ok (.iconst 1, 1) := by decide +kernel
theorem dL_sums_14 : decode cL_sums 14 = .ok (.ireturn, 1) := by decide +kernel
theorem dL_sums_15 : decode cL_sums 15 = .ok (.iconst 0, 1) := by decide +kernel
theorem dL_sums_16 : decode cL_sums 16 = .ok (.ireturn, 1) := by decide +kernel
theorem ggL_corks_X10_corks : GoodIn wsL_corks wsX10_corks := gW_in gwX10_corks (fun _ h => List.mem_cons_of_mem _ (List.mem_append_right _ (List.mem_append_right _ (List.mem_append_right _ (List.mem_append_right _ (List.mem_append_right _ (List.mem_append_right _ (h))))))))
set_option maxRecDepth 20000 in
theorem gL_corks_X10_corks : GoodIn wsL_corks (wsV RL 47 RX10 yX10_corks wsX10_corks) := goodIn_app (goodIn_of _ (by decide +kernel)) ggL_corks_X10_corks
theorem dL_corks_0 : decode cL_corks 0 = .ok (.aload_n 3, 1) := by decide +kernel
theorem dL_corks_1 : decode cL_corks 1 = .ok (.iconst 0, 1) := by decide +kernel
theorem dL_corks_2 : decode cL_corks 2 = .ok (.aload_n 0, 1) := by decide +kernel
theorem dL_corks_3 : decode cL_corks 3 = .ok (.iload_n 1, 1) := by decide +kernel
theorem dL_corks_4 : decode cL_corks 4 = .ok (.iload_n 2, 1) := by decide +kernel
theorem dL_corks_5 : decode cL_corks 5 = .ok (.invokevirtual 47, 3) := by decide +kernel
theorem dL_corks_8 : decode cL_corks 8 = .ok (.i2l, 1) := by decide +kernel
theorem dL_corks_9 : decode cL_corks 9 = .ok (.lastore, 1) := by decide +kernel
theorem dL_corks_10 : decode cL_corks 10 = .ok (.goto 11, 3) := by decide +kernel
theorem dL_corks_13 : decode cL_corks 13 = .ok (.astore 4, 2) := by decide +kernel
theorem dL_corks_15 : decode cL_corks 15 = .ok (.iconst 1, 1) := by decide +kernel
theorem dL_corks_16 : decode cL_corks 16 = .ok (.ireturn, 1) := by decide +kernel
theorem dL_corks_17 : decode cL_corks 17 = .ok (.astore 4, 2) := by decide +kernel
theorem dL_corks_19 : decode cL_corks 19 = .ok (.iconst 2, 1) := by decide +kernel
theorem dL_corks_20 : decode cL_corks 20 = .ok (.ireturn, 1) := by decide +kernel
theorem dL_corks_21 : decode cL_corks 21 = .ok (.iconst 0, 1) := by decide +kernel
theorem dL_corks_22 : decode cL_corks 22 = .ok (.ireturn, 1) := by decide +kernel
theorem ggL_would_X10_would : GoodIn wsL_would wsX10_would := gW_in gwX10_would (fun _ h => List.mem_cons_of_mem _ (List.mem_append_right _ (List.mem_append_right _ (List.mem_append_right _ (List.mem_append_right _ (List.mem_append_right _ (List.mem_append_right _ (h))))))))
set_option maxRecDepth 20000 in
theorem gL_would_X10_would : GoodIn wsL_would (wsV RL 50 RX10 yX10_would wsX10_would) := goodIn_app (goodIn_of _ (by decide +kernel)) ggL_would_X10_would
theorem dL_would_0 : decode cL_would 0 = .ok (.aload 4, 2) := by decide +kernel
theorem dL_would_2 : decode cL_would 2 = .ok (.iconst 0, 1) := by decide +kernel
theorem dL_would_3 : decode cL_would 3 = .ok (.aload_n 0, 1) := by decide +kernel
theorem dL_would_4 : decode cL_would 4 = .ok (.iload_n 1, 1) := by decide +kernel
theorem dL_would_5 : decode cL_would 5 = .ok (.iload_n 2, 1) := by decide +kernel
theorem dL_would_6 : decode cL_would 6 = .ok (.iload_n 3, 1) := by decide +kernel
theorem dL_would_7 : decode cL_would 7 = .ok (.invokevirtual 50, 3) := by decide +kernel
theorem dL_would_10 : decode cL_would 10 = .ok (.i2l, 1) := by decide +kernel
theorem dL_would_11 : decode cL_would 11 = .ok (.lastore, 1) := by decide +kernel
theorem dL_would_12 : decode cL_would 12 = .ok (.goto 11, 3) := by decide +kernel
theorem dL_would_15 : decode cL_would 15 = .ok (.astore 5, 2) := by decide +kernel
theorem dL_would_17 : decode cL_would 17 = .ok (.iconst 1, 1) := by decide +kernel
theorem dL_would_18 : decode cL_would 18 = .ok (.ireturn, 1) := by decide +kernel
theorem dL_would_19 : decode cL_would 19 = .ok (.astore 5, 2) := by decide +kernel
theorem dL_would_21 : decode cL_would 21 = .ok (.iconst 2, 1) := by decide +kernel
theorem dL_would_22 : decode cL_would 22 = .ok (.ireturn, 1) := by decide +kernel
theorem dL_would_23 : decode cL_would 23 = .ok (.iconst 0, 1) := by decide +kernel
theorem dL_would_24 : decode cL_would 24 = .ok (.ireturn, 1) := by decide +kernel
theorem ggL_best_X10_best : GoodIn wsL_best wsX10_best := gW_in gwX10_best (fun _ h => List.mem_cons_of_mem _ (List.mem_append_right _ (List.mem_append_right _ (List.mem_append_right _ (List.mem_append_right _ (List.mem_append_right _ (List.mem_append_right _ (h))))))))
set_option maxRecDepth 20000 in
theorem gL_best_X10_best : GoodIn wsL_best (wsV RL 54 RX10 yX10_best wsX10_best) := goodIn_app (goodIn_of _ (by decide +kernel)) ggL_best_X10_best
theorem dL_best_0 : decode cL_best 0 = .ok (.aload_n 3, 1) := by decide +kernel
theorem dL_best_1 : decode cL_best 1 = .ok (.iconst 0, 1) := by decide +kernel
theorem dL_best_2 : decode cL_best 2 = .ok (.aload_n 0, 1) := by decide +kernel
theorem dL_best_3 : decode cL_best 3 = .ok (.iload_n 1, 1) := by decide +kernel
theorem dL_best_4 : decode cL_best 4 = .ok (.iload_n 2, 1) := by decide +kernel
theorem dL_best_5 : decode cL_best 5 = .ok (.invokevirtual 54, 3) := by decide +kernel
theorem dL_best_8 : decode cL_best 8 = .ok (.i2l, 1) := by decide +kernel
theorem dL_best_9 : decode cL_best 9 = .ok (.lastore, 1) := by decide +kernel
theorem dL_best_10 : decode cL_best 10 = .ok (.goto 7, 3) := by decide +kernel
theorem dL_best_13 : decode cL_best 13 = .ok (.astore 4, 2) := by decide +kernel
theorem dL_best_15 : decode cL_best 15 = .ok (.iconst 1, 1) := by decide +kernel
theorem dL_best_16 : decode cL_best 16 = .ok (.ireturn, 1) := by decide +kernel
theorem dL_best_17 : decode cL_best 17 = .ok (.iconst 0, 1) := by decide +kernel
theorem dL_best_18 : decode cL_best 18 = .ok (.ireturn, 1) := by decide +kernel
theorem ggL_offer_X10_offer : GoodIn wsL_offer wsX10_offer := gW_in gwX10_offer (fun _ h => List.mem_cons_of_mem _ (List.mem_append_right _ (List.mem_append_right _ (List.mem_append_right _ (List.mem_append_right _ (List.mem_append_right _ (List.mem_append_right _ (h))))))))
set_option maxRecDepth 20000 in
theorem gL_offer_X10_offer : GoodIn wsL_offer (wsV RL 57 RX10 yX10_offer wsX10_offer) := goodIn_app (goodIn_of _ (by decide +kernel)) ggL_offer_X10_offer
theorem dL_offer_0 : decode cL_offer 0 = .ok (.aload_n 3, 1) := by decide +kernel
theorem dL_offer_1 : decode cL_offer 1 = .ok (.iconst 0, 1) := by decide +kernel
theorem dL_offer_2 : decode cL_offer 2 = .ok (.aload_n 0, 1) := by decide +kernel
theorem dL_offer_3 : decode cL_offer 3 = .ok (.iload_n 1, 1) := by decide +kernel
theorem dL_offer_4 : decode cL_offer 4 = .ok (.iload_n 2, 1) := by decide +kernel
theorem dL_offer_5 : decode cL_offer 5 = .ok (.invokevirtual 57, 3) := by decide +kernel
theorem dL_offer_8 : decode cL_offer 8 = .ok (.i2l, 1) := by decide +kernel
theorem dL_offer_9 : decode cL_offer 9 = .ok (.lastore, 1) := by decide +kernel
theorem dL_offer_10 : decode cL_offer 10 = .ok (.goto 7, 3) := by decide +kernel
theorem dL_offer_13 : decode cL_offer 13 = .ok (.astore 4, 2) := by decide +kernel
theorem dL_offer_15 : decode cL_offer 15 = .ok (.iconst 1, 1) := by decide +kernel
theorem dL_offer_16 : decode cL_offer 16 = .ok (.ireturn, 1) := by decide +kernel
theorem dL_offer_17 : decode cL_offer 17 = .ok (.iconst 0, 1) := by decide +kernel
theorem dL_offer_18 : decode cL_offer 18 = .ok (.ireturn, 1) := by decide +kernel
theorem ggL_nearest_X10_nearest : GoodIn wsL_nearest wsX10_nearest := gW_in gwX10_nearest (fun _ h => List.mem_cons_of_mem _ (List.mem_append_right _ (List.mem_append_right _ (List.mem_append_right _ (h)))))
set_option maxRecDepth 20000 in
theorem gL_nearest_X10_nearest : GoodIn wsL_nearest (wsV RL 60 RX10 yX10_nearest wsX10_nearest) := goodIn_app (goodIn_of _ (by decide +kernel)) ggL_nearest_X10_nearest
theorem dL_nearest_0 : decode cL_nearest 0 = .ok (.aload_n 3, 1) := by decide +kernel
theorem dL_nearest_1 : decode cL_nearest 1 = .ok (.iconst 0, 1) := by decide +kernel
theorem dL_nearest_2 : decode cL_nearest 2 = .ok (.aload_n 0, 1) := by decide +kernel
theorem dL_nearest_3 : decode cL_nearest 3 = .ok (.iload_n 1, 1) := by decide +kernel
theorem dL_nearest_4 : decode cL_nearest 4 = .ok (.iload_n 2, 1) := by decide +kernel
theorem dL_nearest_5 : decode cL_nearest 5 = .ok (.invokevirtual 60, 3) := by decide +kernel
theorem dL_nearest_8 : decode cL_nearest 8 = .ok (.i2l, 1) := by decide +kernel
theorem dL_nearest_9 : decode cL_nearest 9 = .ok (.lastore, 1) := by decide +kernel
theorem dL_nearest_10 : decode cL_nearest 10 = .ok (.goto 7, 3) := by decide +kernel
theorem dL_nearest_13 : decode cL_nearest 13 = .ok (.astore 4, 2) := by decide +kernel
theorem dL_nearest_15 : decode cL_nearest 15 = .ok (.iconst 1, 1) := by decide +kernel
theorem dL_nearest_16 : decode cL_nearest 16 = .ok (.ireturn, 1) := by decide +kernel
theorem dL_nearest_17 : decode cL_nearest 17 = .ok (.iconst 0, 1) := by decide +kernel
theorem dL_nearest_18 : decode cL_nearest 18 = .ok (.ireturn, 1) := by decide +kernel
theorem ggL_stop_X10_stop : GoodIn wsL_stop wsX10_stop := gW_in gwX10_stop (fun _ h => List.mem_cons_of_mem _ (List.mem_append_right _ (List.mem_append_right _ (List.mem_append_right _ (List.mem_append_right _ (List.mem_append_right _ (List.mem_append_right _ (h))))))))
set_option maxRecDepth 20000 in
theorem gL_stop_X10_stop : GoodIn wsL_stop (wsV RL 63 RX10 yX10_stop wsX10_stop) := goodIn_app (goodIn_of _ (by decide +kernel)) ggL_stop_X10_stop
theorem dL_stop_0 : decode cL_stop 0 = .ok (.aload_n 3, 1) := by decide +kernel
theorem dL_stop_1 : decode cL_stop 1 = .ok (.iconst 0, 1) := by decide +kernel
theorem dL_stop_2 : decode cL_stop 2 = .ok (.aload_n 0, 1) := by decide +kernel
theorem dL_stop_3 : decode cL_stop 3 = .ok (.iload_n 1, 1) := by decide +kernel
