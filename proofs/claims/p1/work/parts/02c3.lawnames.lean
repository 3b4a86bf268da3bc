set_option maxRecDepth 20000 in
theorem ggL_law_X11_stop : GoodIn wsL_law wsX11_stop := goodIn_3 _ [(35, 8), (7, 12), (6, 1), (32, 9), (32, 10), (0, 5), (32, 11), (15, 21), (15, 22), (15, 23), (16, 0), (16, 1), (16, 2), (16, 3), (5, 15), (32, 16), (32, 17), (32, 18), (32, 19), (6, 2), (32, 20), (32, 21), (32, 22), (32, 23), (28, 4), (28, 5), (28, 6), (28, 7), (5, 17), (5, 23), (28, 8), (28, 9), (28, 10), (28, 11), (28, 12), (28, 13), (28, 14), (28, 15), (28, 16), (28, 17), (28, 18), (6, 0), (24, 7), (24, 8), (24, 9), (24, 10), (28, 19), (28, 20), (28, 21), (28, 22), (28, 3), (6, 4), (5, 20), (28, 23), (29, 0), (29, 1), (29, 2), (29, 3), (29, 4), (29, 5), (29, 6), (29, 7), (29, 8), (29, 9), (29, 10), (29, 11), (29, 12), (29, 13), (29, 14), (33, 0), (33, 1), (33, 2), (33, 3), (50, 0), (50, 1), (50, 2), (50, 3), (50, 4), (50, 5), (50, 6), (50, 7), (50, 8), (50, 9), (50, 10), (50, 11), (50, 12), (50, 13), (50, 14), (50, 15), (50, 16), (50, 17), (50, 18), (50, 19), (50, 20), (50, 21), (50, 22), (50, 23), (50, 24), (50, 25), (50, 26), (50, 27), (50, 28), (50, 29), (50, 30), (50, 31), (50, 32), (50, 33), (50, 34)] (by decide +kernel) (by decide +kernel)
set_option maxRecDepth 20000 in
theorem gL_law_X11_stop : GoodIn wsL_law (wsV RL 169 RX11 yX11_stop wsX11_stop) := goodIn_app (goodIn_3 _ [(35, 5), (35, 6), (35, 7), (0, 5)] (by decide +kernel) (by decide +kernel)) ggL_law_X11_stop
set_option maxRecDepth 20000 in
theorem ggL_law_L_odds : GoodIn wsL_law wsL_odds := goodIn_ca (goodIn_3 _ [(35, 11), (7, 18), (35, 12), (35, 13), (35, 14), (0, 2), (35, 15), (1, 5), (35, 16), (20, 2), (13, 6), (13, 7), (8, 2), (8, 3), (8, 4), (8, 5), (8, 6), (8, 7), (1, 16), (35, 17), (35, 18), (35, 19), (3, 6), (35, 20), (4, 2), (4, 3), (35, 21), (15, 4), (15, 5), (15, 6), (4, 4), (4, 5), (15, 7), (49, 0), (49, 1), (49, 2), (49, 3), (49, 4), (49, 5), (49, 6), (49, 7), (49, 8), (49, 9), (49, 10), (49, 11), (49, 12), (53, 0), (53, 1), (53, 2), (53, 3), (58, 0), (58, 1), (58, 2), (58, 3), (58, 4), (58, 5), (58, 6)] (by decide +kernel) (by decide +kernel)) (goodIn_sub (fun _ h => List.mem_append_left _ (List.mem_append_left _ (List.mem_append_right _ h))) (by decide +kernel))
set_option maxRecDepth 20000 in
theorem gL_law_L_odds : GoodIn wsL_law (va_wsS RL 170 yL_odds wsL_odds) := goodIn_app (goodIn_3 _ [(35, 9), (35, 10), (7, 16)] (by decide +kernel) (by decide +kernel)) ggL_law_L_odds
set_option maxRecDepth 20000 in
theorem ggL_law_X11_odds : GoodIn wsL_law wsX11_odds := goodIn_3 _ [(36, 1), (7, 12), (6, 5), (6, 6), (6, 21), (15, 21), (15, 22), (0, 5), (15, 23), (16, 0), (16, 1), (16, 2), (16, 3), (5, 15), (50, 0), (50, 1), (50, 2), (50, 3), (50, 4), (50, 5), (50, 6), (50, 7), (50, 8), (50, 9), (50, 10), (50, 11), (50, 12), (50, 13), (50, 14), (50, 15), (50, 16), (50, 17), (50, 18), (50, 19), (50, 20), (50, 21), (50, 22), (50, 23), (50, 24), (50, 25), (50, 26), (50, 27), (50, 28), (50, 29), (50, 30), (50, 31), (50, 32), (50, 33), (50, 34)] (by decide +kernel) (by decide +kernel)
set_option maxRecDepth 20000 in
theorem gL_law_X11_odds : GoodIn wsL_law (wsV RL 173 RX11 yX11_odds wsX11_odds) := goodIn_app (goodIn_3 _ [(35, 22), (35, 23), (36, 0), (0, 5)] (by decide +kernel) (by decide +kernel)) ggL_law_X11_odds
set_option maxRecDepth 20000 in
theorem ggL_law_L_kind : GoodIn wsL_law wsL_kind := goodIn_ca (goodIn_3 _ [(36, 4), (7, 18), (36, 5), (36, 6), (36, 7), (0, 2), (36, 8), (1, 5), (35, 16), (36, 9), (36, 10), (20, 2), (13, 6), (13, 7), (8, 2), (8, 3), (8, 4), (8, 5), (8, 6), (8, 7), (1, 16), (49, 0), (49, 1), (49, 2), (49, 3), (49, 4), (49, 5), (49, 6), (49, 7), (49, 8), (49, 9), (49, 10), (49, 11), (49, 12), (53, 0), (53, 1), (53, 2), (53, 3), (58, 0), (58, 1), (58, 2), (58, 3), (58, 4), (58, 5), (58, 6)] (by decide +kernel) (by decide +kernel)) (goodIn_sub (fun _ h => List.mem_append_left _ (List.mem_append_left _ (List.mem_append_right _ h))) (by decide +kernel))
set_option maxRecDepth 20000 in
theorem gL_law_L_kind : GoodIn wsL_law (va_wsS RL 174 yL_kind wsL_kind) := goodIn_app (goodIn_3 _ [(36, 2), (36, 3), (7, 16)] (by decide +kernel) (by decide +kernel)) ggL_law_L_kind
set_option maxRecDepth 20000 in
theorem ggL_law_X11_kind : GoodIn wsL_law wsX11_kind := goodIn_3 _ [(36, 14), (7, 12), (6, 7), (15, 21), (15, 22), (0, 5), (15, 23), (16, 0), (16, 1), (16, 2), (16, 3), (5, 15), (50, 0), (50, 1), (50, 2), (50, 3), (50, 4), (50, 5), (50, 6), (50, 7), (50, 8), (50, 9), (50, 10), (50, 11), (50, 12), (50, 13), (50, 14), (50, 15), (50, 16), (50, 17), (50, 18), (50, 19), (50, 20), (50, 21), (50, 22), (50, 23), (50, 24), (50, 25), (50, 26), (50, 27), (50, 28), (50, 29), (50, 30), (50, 31), (50, 32), (50, 33), (50, 34)] (by decide +kernel) (by decide +kernel)
set_option maxRecDepth 20000 in
theorem gL_law_X11_kind : GoodIn wsL_law (wsV RL 177 RX11 yX11_kind wsX11_kind) := goodIn_app (goodIn_3 _ [(36, 11), (36, 12), (36, 13), (0, 5)] (by decide +kernel) (by decide +kernel)) ggL_law_X11_kind
set_option maxRecDepth 20000 in
theorem ggL_law_L_seen : GoodIn wsL_law wsL_seen := goodIn_ca (goodIn_3 _ [(36, 17), (7, 18), (36, 18), (36, 19), (36, 20), (0, 2), (36, 21), (1, 5), (35, 16), (36, 9), (36, 10), (20, 2), (13, 6), (13, 7), (8, 2), (8, 3), (8, 4), (8, 5), (8, 6), (8, 7), (1, 16), (36, 22), (36, 23), (37, 0), (3, 6), (37, 1), (15, 7), (4, 4), (4, 5), (49, 0), (49, 1), (49, 2), (49, 3), (49, 4), (49, 5), (49, 6), (49, 7), (49, 8), (49, 9), (49, 10), (49, 11), (49, 12), (53, 0), (53, 1), (53, 2), (53, 3), (58, 0), (58, 1), (58, 2), (58, 3), (58, 4), (58, 5), (58, 6)] (by decide +kernel) (by decide +kernel)) (goodIn_sub (fun _ h => List.mem_append_left _ (List.mem_append_left _ (List.mem_append_right _ h))) (by decide +kernel))
set_option maxRecDepth 20000 in
theorem gL_law_L_seen : GoodIn wsL_law (va_wsS RL 178 yL_seen wsL_seen) := goodIn_app (goodIn_3 _ [(36, 15), (36, 16), (7, 16)] (by decide +kernel) (by decide +kernel)) ggL_law_L_seen
set_option maxRecDepth 20000 in
theorem ggL_law_X11_seen : GoodIn wsL_law wsX11_seen := goodIn_3 _ [(37, 5), (7, 12), (6, 7), (15, 21), (15, 22), (0, 5), (15, 23), (16, 0), (16, 1), (16, 2), (16, 3), (5, 15), (37, 6), (37, 7), (37, 8), (37, 9), (6, 21), (6, 8), (50, 0), (50, 1), (50, 2), (50, 3), (50, 4), (50, 5), (50, 6), (50, 7), (50, 8), (50, 9), (50, 10), (50, 11), (50, 12), (50, 13), (50, 14), (50, 15), (50, 16), (50, 17), (50, 18), (50, 19), (50, 20), (50, 21), (50, 22), (50, 23), (50, 24), (50, 25), (50, 26), (50, 27), (50, 28), (50, 29), (50, 30), (50, 31), (50, 32), (50, 33), (50, 34)] (by decide +kernel) (by decide +kernel)
set_option maxRecDepth 20000 in
theorem gL_law_X11_seen : GoodIn wsL_law (wsV RL 180 RX11 yX11_seen wsX11_seen) := goodIn_app (goodIn_3 _ [(37, 2), (37, 3), (37, 4), (0, 5)] (by decide +kernel) (by decide +kernel)) ggL_law_X11_seen
set_option maxRecDepth 20000 in
theorem ggL_law_L_spy : GoodIn wsL_law wsL_spy := goodIn_ca (goodIn_3 _ [(37, 12), (7, 18), (37, 13), (37, 14), (37, 15), (0, 2), (37, 16), (1, 5), (35, 16), (20, 2), (13, 6), (13, 7), (8, 2), (8, 3), (8, 4), (8, 5), (8, 6), (8, 7), (1, 16), (36, 22), (36, 23), (37, 0), (3, 6), (37, 1), (15, 7), (4, 4), (4, 5), (49, 0), (49, 1), (49, 2), (49, 3), (49, 4), (49, 5), (49, 6), (49, 7), (49, 8), (49, 9), (49, 10), (49, 11), (49, 12), (53, 0), (53, 1), (53, 2), (53, 3), (58, 0), (58, 1), (58, 2), (58, 3), (58, 4), (58, 5), (58, 6)] (by decide +kernel) (by decide +kernel)) (goodIn_sub (fun _ h => List.mem_append_left _ (List.mem_append_left _ (List.mem_append_right _ h))) (by decide +kernel))
set_option maxRecDepth 20000 in
theorem gL_law_L_spy : GoodIn wsL_law (va_wsS RL 181 yL_spy wsL_spy) := goodIn_app (goodIn_3 _ [(37, 10), (37, 11), (7, 16)] (by decide +kernel) (by decide +kernel)) ggL_law_L_spy
set_option maxRecDepth 20000 in
theorem ggL_law_X11_spy : GoodIn wsL_law wsX11_spy := goodIn_3 _ [(37, 20), (7, 12), (15, 21), (15, 22), (0, 5), (15, 23), (16, 0), (16, 1), (16, 2), (16, 3), (5, 15), (37, 6), (37, 7), (37, 8), (37, 9), (6, 21), (6, 8), (50, 0), (50, 1), (50, 2), (50, 3), (50, 4), (50, 5), (50, 6), (50, 7), (50, 8), (50, 9), (50, 10), (50, 11), (50, 12), (50, 13), (50, 14), (50, 15), (50, 16), (50, 17), (50, 18), (50, 19), (50, 20), (50, 21), (50, 22), (50, 23), (50, 24), (50, 25), (50, 26), (50, 27), (50, 28), (50, 29), (50, 30), (50, 31), (50, 32), (50, 33), (50, 34)] (by decide +kernel) (by decide +kernel)
set_option maxRecDepth 20000 in
theorem gL_law_X11_spy : GoodIn wsL_law (wsV RL 184 RX11 yX11_spy wsX11_spy) := goodIn_app (goodIn_3 _ [(37, 17), (37, 18), (37, 19), (0, 5)] (by decide +kernel) (by decide +kernel)) ggL_law_X11_spy
set_option maxRecDepth 20000 in
theorem ggL_law_L_believed : GoodIn wsL_law wsL_believed := goodIn_ca (goodIn_3 _ [(37, 23), (7, 18), (38, 0), (38, 1), (38, 2), (0, 2), (38, 3), (1, 5), (35, 16), (20, 2), (13, 6), (13, 7), (8, 2), (8, 3), (8, 4), (8, 5), (8, 6), (8, 7), (1, 16), (38, 4), (38, 5), (38, 6), (3, 6), (38, 7), (4, 4), (4, 5), (49, 0), (49, 1), (49, 2), (49, 3), (49, 4), (49, 5), (49, 6), (49, 7), (49, 8), (49, 9), (49, 10), (49, 11), (49, 12), (53, 0), (53, 1), (53, 2), (53, 3), (58, 0), (58, 1), (58, 2), (58, 3), (58, 4), (58, 5), (58, 6)] (by decide +kernel) (by decide +kernel)) (goodIn_sub (fun _ h => List.mem_append_left _ (List.mem_append_left _ (List.mem_append_right _ h))) (by decide +kernel))
set_option maxRecDepth 20000 in
theorem gL_law_L_believed : GoodIn wsL_law (va_wsS RL 185 yL_believed wsL_believed) := goodIn_app (goodIn_3 _ [(37, 21), (37, 22), (7, 16)] (by decide +kernel) (by decide +kernel)) ggL_law_L_believed
set_option maxRecDepth 20000 in
theorem ggL_law_X11_believed : GoodIn wsL_law wsX11_believed := goodIn_3 _ [(38, 11), (7, 12), (6, 5), (6, 6), (6, 21), (6, 8), (15, 21), (15, 22), (0, 5), (15, 23), (16, 0), (16, 1), (16, 2), (16, 3), (5, 15), (50, 0), (50, 1), (50, 2), (50, 3), (50, 4), (50, 5), (50, 6), (50, 7), (50, 8), (50, 9), (50, 10), (50, 11), (50, 12), (50, 13), (50, 14), (50, 15), (50, 16), (50, 17), (50, 18), (50, 19), (50, 20), (50, 21), (50, 22), (50, 23), (50, 24), (50, 25), (50, 26), (50, 27), (50, 28), (50, 29), (50, 30), (50, 31), (50, 32), (50, 33), (50, 34)] (by decide +kernel) (by decide +kernel)
set_option maxRecDepth 20000 in
theorem gL_law_X11_believed : GoodIn wsL_law (wsV RL 187 RX11 yX11_believed wsX11_believed) := goodIn_app (goodIn_3 _ [(38, 8), (38, 9), (38, 10), (0, 5)] (by decide +kernel) (by decide +kernel)) ggL_law_X11_believed
set_option maxRecDepth 20000 in
theorem ggL_law_L_earnest : GoodIn wsL_law wsL_earnest := goodIn_ca (goodIn_3 _ [(38, 14), (7, 18), (38, 15), (38, 16), (38, 17), (0, 2), (38, 18), (1, 14), (0, 22), (20, 2), (13, 6), (13, 7), (8, 2), (8, 3), (8, 4), (8, 5), (8, 6), (8, 7), (1, 16), (38, 19), (38, 20), (38, 21), (1, 13), (38, 22), (38, 23), (39, 0), (8, 14), (8, 15), (8, 16), (39, 1), (4, 14), (39, 2), (4, 15), (39, 3), (39, 4), (39, 5), (39, 6), (39, 7), (39, 8), (39, 9), (39, 10), (39, 11), (39, 12), (25, 15), (25, 16), (39, 13), (39, 14), (39, 15), (39, 16), (4, 16), (39, 17), (39, 18), (39, 19), (39, 20), (39, 21), (39, 22), (39, 23), (40, 0), (40, 1), (40, 2), (40, 3), (40, 4), (40, 5), (40, 6), (40, 7), (40, 8), (40, 9), (40, 10), (40, 11), (40, 12), (40, 13), (40, 14), (40, 15), (40, 16), (40, 17), (40, 18), (40, 19), (40, 20), (40, 21), (49, 0), (49, 1), (49, 2), (49, 3), (49, 4), (49, 5), (49, 6), (49, 7), (49, 8), (49, 9), (49, 10), (49, 11), (49, 12), (52, 0), (52, 1), (52, 2), (52, 3), (52, 4), (55, 0), (55, 1), (55, 2), (55, 3), (55, 4)] (by decide +kernel) (by decide +kernel)) (goodIn_sub (fun _ h => List.mem_append_left _ (List.mem_append_left _ (List.mem_append_right _ h))) (by decide +kernel))
set_option maxRecDepth 20000 in
theorem gL_law_L_earnest : GoodIn wsL_law (va_wsS RL 188 yL_earnest wsL_earnest) := goodIn_app (goodIn_3 _ [(38, 12), (38, 13), (7, 16)] (by decide +kernel) (by decide +kernel)) ggL_law_L_earnest
set_option maxRecDepth 20000 in
theorem ggL_law_X11_earnest : GoodIn wsL_law wsX11_earnest := goodIn_3 _ [(41, 1), (7, 12), (41, 2), (41, 3), (0, 5), (41, 4), (15, 21), (15, 22), (15, 23), (16, 0), (16, 1), (16, 2), (16, 3), (5, 15), (41, 5), (41, 6), (41, 7), (41, 8), (5, 17), (28, 12), (28, 13), (28, 14), (41, 9), (41, 10), (41, 11), (41, 12), (41, 13), (41, 14), (41, 15), (41, 16), (41, 17), (41, 18), (41, 19), (41, 20), (41, 21), (41, 22), (41, 23), (5, 20), (42, 0), (42, 1), (42, 2), (42, 3), (50, 0), (50, 1), (50, 2), (50, 3), (50, 4), (50, 5), (50, 6), (50, 7), (50, 8), (50, 9), (50, 10), (50, 11), (50, 12), (50, 13), (50, 14), (50, 15), (50, 16), (50, 17), (50, 18), (50, 19), (50, 20), (50, 21), (50, 22), (50, 23), (50, 24), (50, 25), (50, 26), (50, 27), (50, 28), (50, 29), (50, 30), (50, 31), (50, 32), (50, 33), (50, 34)] (by decide +kernel) (by decide +kernel)
set_option maxRecDepth 20000 in
theorem gL_law_X11_earnest : GoodIn wsL_law (wsV RL 190 RX11 yX11_earnest wsX11_earnest) := goodIn_app (goodIn_3 _ [(40, 22), (40, 23), (41, 0), (0, 5)] (by decide +kernel) (by decide +kernel)) ggL_law_X11_earnest
set_option maxRecDepth 20000 in
theorem ggL_law_L_stands : GoodIn wsL_law wsL_stands := goodIn_ca (goodIn_3 _ [(42, 6), (7, 18), (42, 7), (42, 8), (42, 9), (0, 2), (42, 10), (1, 14), (0, 22), (42, 11), (20, 2), (13, 6), (13, 7), (8, 2), (8, 3), (8, 4), (8, 5), (8, 6), (8, 7), (1, 16), (38, 19), (38, 20), (38, 21), (1, 13), (38, 22), (38, 23), (39, 0), (8, 14), (8, 15), (8, 16), (39, 1), (4, 14), (39, 2), (4, 15), (39, 3), (39, 4), (39, 5), (39, 6), (39, 7), (39, 8), (39, 9), (39, 10), (39, 11), (39, 12), (25, 15), (25, 16), (39, 13), (39, 14), (39, 15), (39, 16), (4, 16), (39, 17), (39, 18), (39, 19), (39, 20), (39, 21), (39, 22), (39, 23), (40, 0), (40, 1), (40, 2), (40, 3), (40, 4), (40, 5), (40, 6), (40, 7), (40, 8), (49, 0), (49, 1), (49, 2), (49, 3), (49, 4), (49, 5), (49, 6), (49, 7), (49, 8), (49, 9), (49, 10), (49, 11), (49, 12), (55, 0), (55, 1), (55, 2), (55, 3), (55, 4), (52, 0), (52, 1), (52, 2), (52, 3), (52, 4)] (by decide +kernel) (by decide +kernel)) (goodIn_sub (fun _ h => List.mem_append_left _ (List.mem_append_left _ (List.mem_append_right _ h))) (by decide +kernel))
set_option maxRecDepth 20000 in
theorem gL_law_L_stands : GoodIn wsL_law (va_wsS RL 191 yL_stands wsL_stands) := goodIn_app (goodIn_3 _ [(42, 4), (42, 5), (7, 16)] (by decide +kernel) (by decide +kernel)) ggL_law_L_stands
set_option maxRecDepth 20000 in
theorem ggL_law_X11_stands : GoodIn wsL_law wsX11_stands := goodIn_3 _ [(42, 15), (7, 12), (5, 17), (41, 13), (41, 2), (41, 3), (0, 5), (41, 4), (15, 21), (15, 22), (15, 23), (16, 0), (16, 1), (16, 2), (16, 3), (5, 15), (41, 5), (41, 6), (41, 7), (41, 8), (28, 12), (28, 13), (28, 14), (41, 9), (41, 10), (41, 11), (41, 12), (41, 14), (41, 15), (41, 16), (41, 17), (41, 18), (41, 19), (41, 20), (41, 21), (41, 22), (41, 23), (5, 20), (50, 0), (50, 1), (50, 2), (50, 3), (50, 4), (50, 5), (50, 6), (50, 7), (50, 8), (50, 9), (50, 10), (50, 11), (50, 12), (50, 13), (50, 14), (50, 15), (50, 16), (50, 17), (50, 18), (50, 19), (50, 20), (50, 21), (50, 22), (50, 23), (50, 24), (50, 25), (50, 26), (50, 27), (50, 28), (50, 29), (50, 30), (50, 31), (50, 32), (50, 33), (50, 34)] (by decide +kernel) (by decide +kernel)
set_option maxRecDepth 20000 in
theorem gL_law_X11_stands : GoodIn wsL_law (wsV RL 193 RX11 yX11_stands wsX11_stands) := goodIn_app (goodIn_3 _ [(42, 12), (42, 13), (42, 14), (0, 5)] (by decide +kernel) (by decide +kernel)) ggL_law_X11_stands
set_option maxRecDepth 20000 in
theorem ggL_law_L_show : GoodIn wsL_law wsL_show := goodIn_ca (goodIn_3 _ [(42, 18), (7, 18), (42, 19), (42, 20), (42, 21), (0, 2), (42, 22), (1, 14), (0, 22), (42, 23), (20, 2), (13, 6), (13, 7), (8, 2), (8, 3), (8, 4), (8, 5), (8, 6), (8, 7), (1, 16), (38, 19), (38, 20), (38, 21), (1, 13), (38, 22), (38, 23), (39, 0), (8, 14), (8, 15), (8, 16), (39, 1), (4, 14), (39, 2), (4, 15), (39, 3), (39, 4), (39, 5), (39, 6), (39, 7), (39, 8), (39, 9), (39, 10), (39, 11), (39, 12), (25, 15), (25, 16), (39, 13), (39, 14), (39, 15), (39, 16), (4, 16), (39, 17), (39, 18), (39, 19), (39, 20), (39, 21), (39, 22), (39, 23), (40, 0), (40, 1), (40, 2), (40, 3), (40, 4), (40, 5), (40, 6), (40, 7), (40, 8), (49, 0), (49, 1), (49, 2), (49, 3), (49, 4), (49, 5), (49, 6), (49, 7), (49, 8), (49, 9), (49, 10), (49, 11), (49, 12), (55, 0), (55, 1), (55, 2), (55, 3), (55, 4), (52, 0), (52, 1), (52, 2), (52, 3), (52, 4)] (by decide +kernel) (by decide +kernel)) (goodIn_sub (fun _ h => List.mem_append_left _ (List.mem_append_left _ (List.mem_append_right _ h))) (by decide +kernel))
set_option maxRecDepth 20000 in
theorem gL_law_L_show : GoodIn wsL_law (va_wsS RL 194 yL_show wsL_show) := goodIn_app (goodIn_3 _ [(42, 16), (42, 17), (7, 16)] (by decide +kernel) (by decide +kernel)) ggL_law_L_show
set_option maxRecDepth 20000 in
theorem ggL_law_X11_show : GoodIn wsL_law wsX11_show := goodIn_3 _ [(43, 3), (7, 12), (41, 2), (41, 3), (0, 5), (41, 4), (15, 21), (15, 22), (15, 23), (16, 0), (16, 1), (16, 2), (16, 3), (5, 15), (41, 5), (41, 6), (41, 7), (41, 8), (5, 17), (28, 12), (28, 13), (28, 14), (41, 9), (41, 10), (41, 11), (41, 12), (41, 13), (41, 14), (41, 15), (41, 16), (41, 17), (41, 18), (41, 19), (41, 20), (41, 21), (41, 22), (41, 23), (5, 20), (50, 0), (50, 1), (50, 2), (50, 3), (50, 4), (50, 5), (50, 6), (50, 7), (50, 8), (50, 9), (50, 10), (50, 11), (50, 12), (50, 13), (50, 14), (50, 15), (50, 16), (50, 17), (50, 18), (50, 19), (50, 20), (50, 21), (50, 22), (50, 23), (50, 24), (50, 25), (50, 26), (50, 27), (50, 28), (50, 29), (50, 30), (50, 31), (50, 32), (50, 33), (50, 34)] (by decide +kernel) (by decide +kernel)
set_option maxRecDepth 20000 in
theorem gL_law_X11_show : GoodIn wsL_law (wsV RL 196 RX11 yX11_show wsX11_show) := goodIn_app (goodIn_3 _ [(43, 0), (43, 1), (43, 2), (0, 5)] (by decide +kernel) (by decide +kernel)) ggL_law_X11_show
set_option maxRecDepth 20000 in
theorem ggL_law_L_offers : GoodIn wsL_law wsL_offers := goodIn_ca (goodIn_3 _ [(43, 6), (7, 18), (43, 7), (43, 8), (43, 9), (0, 2), (43, 10), (1, 5), (43, 11), (20, 2), (13, 6), (13, 7), (8, 2), (8, 3), (8, 4), (8, 5), (8, 6), (8, 7), (1, 16), (43, 12), (43, 13), (43, 14), (3, 10), (43, 15), (4, 9), (49, 0), (49, 1), (49, 2), (49, 3), (49, 4), (49, 5), (49, 6), (49, 7), (49, 8), (49, 9), (49, 10), (49, 11), (49, 12), (53, 0), (53, 1), (53, 2), (53, 3), (59, 0), (59, 1)] (by decide +kernel) (by decide +kernel)) (goodIn_sub (fun _ h => List.mem_append_left _ (List.mem_append_left _ (List.mem_append_right _ h))) (by decide +kernel))
set_option maxRecDepth 20000 in
theorem gL_law_L_offers : GoodIn wsL_law (va_wsS RL 197 yL_offers wsL_offers) := goodIn_app (goodIn_3 _ [(43, 4), (43, 5), (7, 16)] (by decide +kernel) (by decide +kernel)) ggL_law_L_offers
set_option maxRecDepth 20000 in
theorem ggL_law_X11_offers : GoodIn wsL_law wsX11_offers := goodIn_3 _ [(43, 19), (7, 12), (6, 9), (15, 21), (15, 22), (0, 5), (15, 23), (16, 0), (16, 1), (16, 2), (16, 3), (5, 15), (50, 0), (50, 1), (50, 2), (50, 3), (50, 4), (50, 5), (50, 6), (50, 7), (50, 8), (50, 9), (50, 10), (50, 11), (50, 12), (50, 13), (50, 14), (50, 15), (50, 16), (50, 17), (50, 18), (50, 19), (50, 20), (50, 21), (50, 22), (50, 23), (50, 24), (50, 25), (50, 26), (50, 27), (50, 28), (50, 29), (50, 30), (50, 31), (50, 32), (50, 33), (50, 34)] (by decide +kernel) (by decide +kernel)
set_option maxRecDepth 20000 in
theorem gL_law_X11_offers : GoodIn wsL_law (wsV RL 199 RX11 yX11_offers wsX11_offers) := goodIn_app (goodIn_3 _ [(43, 16), (43, 17), (43, 18), (0, 5)] (by decide +kernel) (by decide +kernel)) ggL_law_X11_offers
set_option maxRecDepth 20000 in
theorem ggL_law_X10_most : GoodIn wsL_law wsX10_most := goodIn_3 _ [(43, 23), (1, 5), (43, 11), (44, 0), (44, 1), (44, 2), (3, 10), (44, 3), (4, 10), (44, 4), (44, 5), (44, 6), (44, 7), (44, 8), (25, 15), (8, 15), (25, 16), (44, 9), (44, 10), (44, 11), (44, 12), (44, 13), (44, 14), (44, 15), (4, 9), (49, 0), (49, 1), (49, 2), (49, 3), (49, 4), (49, 5), (49, 6), (49, 7), (49, 8), (49, 9), (49, 10), (49, 11), (49, 12), (53, 0), (53, 1), (53, 2), (53, 3), (59, 0), (59, 1)] (by decide +kernel) (by decide +kernel)
set_option maxRecDepth 20000 in
theorem gL_law_X10_most : GoodIn wsL_law (wsV RL 200 RX10 yX10_most wsX10_most) := goodIn_app (goodIn_3 _ [(43, 20), (43, 21), (43, 22), (0, 2)] (by decide +kernel) (by decide +kernel)) ggL_law_X10_most
set_option maxRecDepth 20000 in
theorem ggL_law_X11_most : GoodIn wsL_law wsX11_most := goodIn_3 _ [(44, 19), (7, 12), (44, 20), (44, 21), (44, 22), (0, 5), (44, 23), (6, 11), (45, 0), (45, 1), (45, 2), (45, 3), (6, 9), (45, 4), (45, 5), (45, 6), (50, 0), (50, 1), (50, 2), (50, 3), (50, 4), (50, 5), (50, 6), (50, 7), (50, 8), (50, 9), (50, 10), (50, 11), (50, 12), (50, 13), (50, 14), (50, 15), (50, 16), (50, 17), (50, 18), (50, 19), (50, 20), (50, 21), (50, 22), (50, 23), (50, 24), (50, 25), (50, 26), (50, 27), (50, 28), (50, 29), (50, 30), (50, 31), (50, 32), (50, 33), (50, 34)] (by decide +kernel) (by decide +kernel)
set_option maxRecDepth 20000 in
theorem gL_law_X11_most : GoodIn wsL_law (wsV RL 203 RX11 yX11_most wsX11_most) := goodIn_app (goodIn_3 _ [(44, 16), (44, 17), (44, 18), (0, 5)] (by decide +kernel) (by decide +kernel)) ggL_law_X11_most
set_option maxRecDepth 20000 in
theorem ggL_law_L_serves : GoodIn wsL_law wsL_serves := goodIn_ca (goodIn_3 _ [(45, 9), (7, 18), (45, 10), (45, 11), (45, 12), (0, 2), (45, 13), (1, 5), (43, 11), (20, 2), (13, 6), (13, 7), (8, 2), (8, 3), (8, 4), (8, 5), (8, 6), (8, 7), (1, 16), (45, 14), (45, 15), (45, 16), (3, 10), (45, 17), (45, 18), (44, 1), (44, 2), (44, 3), (4, 10), (44, 4), (44, 5), (44, 6), (44, 7), (44, 8), (25, 15), (8, 15), (25, 16), (44, 9), (44, 10), (44, 11), (44, 12), (44, 13), (44, 14), (44, 15), (4, 9), (45, 19), (45, 20), (45, 21), (45, 22), (49, 0), (49, 1), (49, 2), (49, 3), (49, 4), (49, 5), (49, 6), (49, 7), (49, 8), (49, 9), (49, 10), (49, 11), (49, 12), (53, 0), (53, 1), (53, 2), (53, 3), (59, 0), (59, 1)] (by decide +kernel) (by decide +kernel)) (goodIn_sub (fun _ h => List.mem_append_left _ (List.mem_append_left _ (List.mem_append_right _ h))) (by decide +kernel))
set_option maxRecDepth 20000 in
theorem gL_law_L_serves : GoodIn wsL_law (va_wsS RL 204 yL_serves wsL_serves) := goodIn_app (goodIn_3 _ [(45, 7), (45, 8), (7, 16)] (by decide +kernel) (by decide +kernel)) ggL_law_L_serves
set_option maxRecDepth 20000 in
theorem ggL_law_X11_serves : GoodIn wsL_law wsX11_serves := goodIn_3 _ [(46, 2), (7, 12), (6, 11), (6, 9), (15, 21), (15, 22), (0, 5), (15, 23), (16, 0), (16, 1), (16, 2), (16, 3), (5, 15), (44, 20), (44, 21), (44, 22), (44, 23), (45, 0), (45, 1), (45, 2), (45, 3), (45, 4), (45, 5), (45, 6), (50, 0), (50, 1), (50, 2), (50, 3), (50, 4), (50, 5), (50, 6), (50, 7), (50, 8), (50, 9), (50, 10), (50, 11), (50, 12), (50, 13), (50, 14), (50, 15), (50, 16), (50, 17), (50, 18), (50, 19), (50, 20), (50, 21), (50, 22), (50, 23), (50, 24), (50, 25), (50, 26), (50, 27), (50, 28), (50, 29), (50, 30), (50, 31), (50, 32), (50, 33), (50, 34)] (by decide +kernel) (by decide +kernel)
set_option maxRecDepth 20000 in
theorem gL_law_X11_serves : GoodIn wsL_law (wsV RL 206 RX11 yX11_serves wsX11_serves) := goodIn_app (goodIn_3 _ [(45, 23), (46, 0), (46, 1), (0, 5)] (by decide +kernel) (by decide +kernel)) ggL_law_X11_serves
set_option maxRecDepth 20000 in
theorem ggL_law_X10_image : GoodIn wsL_law wsX10_image := goodIn_3 _ [(46, 6), (8, 0), (1, 6), (1, 2), (1, 3), (1, 4), (1, 5), (2, 19), (2, 20), (2, 21), (0, 11), (0, 12), (2, 22), (1, 8), (1, 9), (2, 23), (3, 0), (3, 1), (3, 2), (3, 3), (3, 4), (3, 5), (3, 6), (3, 7), (3, 8), (3, 9), (3, 10), (3, 11), (3, 12), (3, 13), (3, 14), (1, 15), (3, 15), (3, 16), (3, 17), (3, 18), (3, 19), (3, 20), (3, 21), (3, 22), (3, 23), (4, 0), (4, 1), (4, 2), (4, 3), (4, 4), (4, 5), (4, 6), (4, 7), (4, 8), (4, 9), (4, 10), (46, 7), (46, 8), (46, 9), (46, 10), (46, 11), (46, 12), (31, 21), (31, 22), (31, 23), (32, 0), (25, 2), (25, 3), (25, 4), (5, 1), (46, 13), (46, 14), (46, 15), (46, 16), (25, 1), (13, 6), (0, 2), (13, 7), (46, 17), (46, 18), (46, 19), (46, 20), (46, 21), (15, 7), (46, 22), (46, 23), (47, 0), (47, 1), (47, 2), (49, 0), (49, 1), (49, 2), (49, 3), (49, 4), (49, 5), (49, 6), (49, 7), (49, 8), (49, 9), (49, 10), (49, 11), (49, 12), (53, 0), (53, 1), (53, 2), (53, 3), (54, 0), (54, 1), (54, 2), (57, 0), (58, 0), (58, 1), (58, 2), (58, 3), (58, 4), (58, 5), (58, 6), (59, 0), (59, 1)] (by decide +kernel) (by decide +kernel)
set_option maxRecDepth 20000 in
theorem gL_law_X10_image : GoodIn wsL_law (wsV RL 207 RX10 yX10_image wsX10_image) := goodIn_app (goodIn_3 _ [(46, 3), (46, 4), (46, 5), (0, 2)] (by decide +kernel) (by decide +kernel)) ggL_law_X10_image
set_option maxRecDepth 20000 in
theorem ggL_law_X11_image : GoodIn wsL_law wsX11_image := goodIn_3 _ [(47, 6), (7, 12), (6, 22), (6, 10), (47, 7), (47, 8), (47, 9), (0, 5), (47, 10), (47, 11), (6, 5), (6, 6), (6, 21), (6, 7), (6, 8), (6, 9), (6, 1), (6, 3), (6, 4), (47, 12), (47, 13), (47, 14), (47, 15), (50, 0), (50, 1), (50, 2), (50, 3), (50, 4), (50, 5), (50, 6), (50, 7), (50, 8), (50, 9), (50, 10), (50, 11), (50, 12), (50, 13), (50, 14), (50, 15), (50, 16), (50, 17), (50, 18), (50, 19), (50, 20), (50, 21), (50, 22), (50, 23), (50, 24), (50, 25), (50, 26), (50, 27), (50, 28), (50, 29), (50, 30), (50, 31), (50, 32), (50, 33), (50, 34)] (by decide +kernel) (by decide +kernel)
set_option maxRecDepth 20000 in
theorem gL_law_X11_image : GoodIn wsL_law (wsV RL 210 RX11 yX11_image wsX11_image) := goodIn_app (goodIn_3 _ [(47, 3), (47, 4), (47, 5), (0, 5)] (by decide +kernel) (by decide +kernel)) ggL_law_X11_image
set_option maxRecDepth 20000 in
theorem ggL_law_X10_restore : GoodIn wsL_law wsX10_restore := goodIn_3 _ [(47, 19), (8, 0), (1, 6), (1, 5), (46, 7), (46, 8), (46, 9), (1, 4), (46, 10), (2, 23), (3, 3), (46, 11), (3, 7), (3, 11), (46, 12), (31, 21), (31, 22), (1, 9), (31, 23), (3, 15), (32, 0), (25, 2), (25, 3), (25, 4), (5, 1), (46, 13), (46, 14), (46, 15), (3, 2), (46, 16), (3, 20), (25, 1), (13, 6), (0, 2), (13, 7), (46, 17), (46, 18), (46, 19), (3, 6), (46, 20), (4, 0), (46, 21), (4, 1), (4, 2), (4, 3), (4, 4), (4, 5), (15, 7), (46, 22), (46, 23), (47, 0), (3, 10), (47, 1), (4, 9), (47, 2), (49, 0), (49, 1), (49, 2), (49, 3), (49, 4), (49, 5), (49, 6), (49, 7), (49, 8), (49, 9), (49, 10), (49, 11), (49, 12), (53, 0), (53, 1), (53, 2), (53, 3), (54, 0), (54, 1), (54, 2), (57, 0), (58, 0), (58, 1), (58, 2), (58, 3), (58, 4), (58, 5), (58, 6), (59, 0), (59, 1)] (by decide +kernel) (by decide +kernel)
set_option maxRecDepth 20000 in
theorem gL_law_X10_restore : GoodIn wsL_law (wsV RL 211 RX10 yX10_restore wsX10_restore) := goodIn_app (goodIn_3 _ [(47, 16), (47, 17), (47, 18), (0, 2)] (by decide +kernel) (by decide +kernel)) ggL_law_X10_restore
set_option maxRecDepth 20000 in
theorem ggL_law_X11_restore : GoodIn wsL_law wsX11_restore := goodIn_3 _ [(47, 23), (7, 12), (6, 22), (6, 10), (47, 7), (47, 8), (47, 9), (0, 5), (47, 10), (47, 11), (6, 5), (6, 6), (6, 21), (6, 7), (6, 8), (6, 9), (6, 1), (6, 3), (6, 4), (47, 12), (47, 13), (47, 14), (47, 15), (50, 0), (50, 1), (50, 2), (50, 3), (50, 4), (50, 5), (50, 6), (50, 7), (50, 8), (50, 9), (50, 10), (50, 11), (50, 12), (50, 13), (50, 14), (50, 15), (50, 16), (50, 17), (50, 18), (50, 19), (50, 20), (50, 21), (50, 22), (50, 23), (50, 24), (50, 25), (50, 26), (50, 27), (50, 28), (50, 29), (50, 30), (50, 31), (50, 32), (50, 33), (50, 34)] (by decide +kernel) (by decide +kernel)
set_option maxRecDepth 20000 in
theorem gL_law_X11_restore : GoodIn wsL_law (wsV RL 214 RX11 yX11_restore wsX11_restore) := goodIn_app (goodIn_3 _ [(47, 20), (47, 21), (47, 22), (0, 5)] (by decide +kernel) (by decide +kernel)) ggL_law_X11_restore
set_option maxRecDepth 20000 in
theorem ggL_law_X10_status : GoodIn wsL_law wsX10_status := goodIn_3 _ [(48, 3), (1, 16), (20, 2), (13, 6), (0, 2), (13, 7), (49, 0), (49, 1), (49, 2), (49, 3), (49, 4), (49, 5), (49, 6), (49, 7), (49, 8), (49, 9), (49, 10), (49, 11), (49, 12)] (by decide +kernel) (by decide +kernel)
set_option maxRecDepth 20000 in
theorem gL_law_X10_status : GoodIn wsL_law (wsV RL 215 RX10 yX10_status wsX10_status) := goodIn_app (goodIn_3 _ [(48, 0), (48, 1), (48, 2), (0, 2)] (by decide +kernel) (by decide +kernel)) ggL_law_X10_status
set_option maxRecDepth 20000 in
theorem ggL_law_X11_status : GoodIn wsL_law wsX11_status := goodIn_3 _ [(48, 7), (7, 12), (5, 15), (15, 21), (15, 22), (0, 5), (15, 23), (50, 0), (50, 1), (50, 2), (50, 3), (50, 4), (50, 5), (50, 6), (50, 7), (50, 8), (50, 9), (50, 10), (50, 11), (50, 12), (50, 13), (50, 14), (50, 15), (50, 16), (50, 17), (50, 18), (50, 19), (50, 20), (50, 21), (50, 22), (50, 23), (50, 24), (50, 25), (50, 26), (50, 27), (50, 28), (50, 29), (50, 30), (50, 31), (50, 32), (50, 33), (50, 34)] (by decide +kernel) (by decide +kernel)
set_option maxRecDepth 20000 in
theorem gL_law_X11_status : GoodIn wsL_law (wsV RL 218 RX11 yX11_status wsX11_status) := goodIn_app (goodIn_3 _ [(48, 4), (48, 5), (48, 6), (0, 5)] (by decide +kernel) (by decide +kernel)) ggL_law_X11_status
set_option maxRecDepth 20000 in
theorem ggL_law_X10_count : GoodIn wsL_law wsX10_count := goodIn_3 _ [(48, 11), (8, 0), (7, 3), (1, 5), (35, 16), (48, 12), (49, 0), (49, 1), (49, 2), (49, 3), (49, 4), (49, 5), (49, 6), (49, 7), (49, 8), (49, 9), (49, 10), (49, 11), (49, 12), (53, 0), (53, 1), (53, 2), (53, 3), (58, 0), (58, 1), (58, 2), (58, 3), (58, 4), (58, 5), (58, 6)] (by decide +kernel) (by decide +kernel)
set_option maxRecDepth 20000 in
theorem gL_law_X10_count : GoodIn wsL_law (wsV RL 219 RX10 yX10_count wsX10_count) := goodIn_app (goodIn_3 _ [(48, 8), (48, 9), (48, 10), (0, 2)] (by decide +kernel) (by decide +kernel)) ggL_law_X10_count
set_option maxRecDepth 20000 in
theorem ggL_law_X11_count : GoodIn wsL_law wsX11_count := goodIn_3 _ [(48, 16), (7, 12), (6, 22), (7, 13), (6, 21), (50, 0), (50, 1), (50, 2), (50, 3), (50, 4), (50, 5), (50, 6), (50, 7), (50, 8), (50, 9), (50, 10), (50, 11), (50, 12), (50, 13), (50, 14), (50, 15), (50, 16), (50, 17), (50, 18), (50, 19), (50, 20), (50, 21), (50, 22), (50, 23), (50, 24), (50, 25), (50, 26), (50, 27), (50, 28), (50, 29), (50, 30), (50, 31), (50, 32), (50, 33), (50, 34)] (by decide +kernel) (by decide +kernel)
set_option maxRecDepth 20000 in
theorem gL_law_X11_count : GoodIn wsL_law (wsV RL 222 RX11 yX11_count wsX11_count) := goodIn_app (goodIn_3 _ [(48, 13), (48, 14), (48, 15), (0, 5)] (by decide +kernel) (by decide +kernel)) ggL_law_X11_count
theorem dL_law_0 : decode cL_law 0 = .ok (.new 8, 3) := by decide +kernel
theorem dL_law_3 : decode cL_law 3 = .ok (.dup, 1) := by decide +kernel
theorem dL_law_4 : decode cL_law 4 = .ok (.invokespecial 100, 3) := by decide +kernel
theorem dL_law_7 : decode cL_law 7 = .ok (.astore_n 1, 1) := by decide +kernel
theorem dL_law_8 : decode cL_law 8 = .ok (.new 101, 3) := by decide +kernel
theorem dL_law_11 : decode cL_law 11 = .ok (.dup, 1) := by decide +kernel
theorem dL_law_12 : decode cL_law 12 = .ok (.invokespecial 103, 3) := by decide +kernel
theorem dL_law_15 : decode cL_law 15 = .ok (.astore_n 2, 1) := by decide +kernel
theorem dL_law_16 : decode cL_law 16 = .ok (.iconst 1, 1) := by decide +kernel
theorem dL_law_17 : decode cL_law 17 = .ok (.newarray .long, 2) := by decide +kernel
theorem dL_law_19 : decode cL_law 19 = .ok (.astore_n 3, 1) := by decide +kernel
theorem dL_law_20 : decode cL_law 20 = .ok (.iconst 0, 1) := by decide +kernel
theorem dL_law_21 : decode cL_law 21 = .ok (.istore 4, 2) := by decide +kernel
theorem dL_law_23 : decode cL_law 23 = .ok (.iload 4, 2) := by decide +kernel
theorem dL_law_25 : decode cL_law 25 = .ok (.aload_n 0, 1) := by decide +kernel
theorem dL_law_26 : decode cL_law 26 = .ok (.arraylength, 1) := by decide +kernel
theorem dL_law_27 : decode cL_law 27 = .ok (.bipush 6, 2) := by decide +kernel
theorem dL_law_29 : decode cL_law 29 = .ok (.isub, 1) := by decide +kernel
theorem dL_law_30 : decode cL_law 30 = .ok (.if_icmp .gt 2010, 3) := by decide +kernel
theorem dL_law_33 : decode cL_law 33 = .ok (.aload_n 0, 1) := by decide +kernel
theorem dL_law_34 : decode cL_law 34 = .ok (.iload 4, 2) := by decide +kernel
theorem dL_law_36 : decode cL_law 36 = .ok (.iaload, 1) := by decide +kernel
theorem dL_law_37 : decode cL_law 37 = .ok (.bipush 63, 2) := by decide +kernel
theorem dL_law_39 : decode cL_law 39 = .ok (.iand, 1) := by decide +kernel
theorem dL_law_40 : decode cL_law 40 = .ok (.tableswitch 1994 0 32 #[148, 221, 277, 333, 346, 402, 470, 538, 606, 662, 718, 774, 830, 898, 978, 1046, 1114, 1182, 1250, 1298, 1358, 1414, 1498, 1553, 1633, 1701, 1769, 1849, 1862, 1918, 1931, 1944, 1969], 148) := by decide +kernel
theorem dL_law_188 : decode cL_law 188 = .ok (.aload_n 1, 1) := by decide +kernel
theorem dL_law_189 : decode cL_law 189 = .ok (.aload_n 0, 1) := by decide +kernel
theorem dL_law_190 : decode cL_law 190 = .ok (.iload 4, 2) := by decide +kernel
theorem dL_law_192 : decode cL_law 192 = .ok (.iconst 1, 1) := by decide +kernel
theorem dL_law_193 : decode cL_law 193 = .ok (.iadd, 1) := by decide +kernel
theorem dL_law_194 : decode cL_law 194 = .ok (.iaload, 1) := by decide +kernel
theorem dL_law_195 : decode cL_law 195 = .ok (.aload_n 0, 1) := by decide +kernel
theorem dL_law_196 : decode cL_law 196 = .ok (.iload 4, 2) := by decide +kernel
theorem dL_law_198 : decode cL_law 198 = .ok (.iconst 2, 1) := by decide +kernel
theorem dL_law_199 : decode cL_law 199 = .ok (.iadd, 1) := by decide +kernel
theorem dL_law_200 : decode cL_law 200 = .ok (.iaload, 1) := by decide +kernel
theorem dL_law_201 : decode cL_law 201 = .ok (.aload_n 0, 1) := by decide +kernel
theorem dL_law_202 : decode cL_law 202 = .ok (.iload 4, 2) := by decide +kernel
theorem dL_law_204 : decode cL_law 204 = .ok (.iconst 3, 1) := by decide +kernel
theorem dL_law_205 : decode cL_law 205 = .ok (.iadd, 1) := by decide +kernel
theorem dL_law_206 : decode cL_law 206 = .ok (.iaload, 1) := by decide +kernel
theorem dL_law_207 : decode cL_law 207 = .ok (.aload_n 0, 1) := by decide +kernel
theorem dL_law_208 : decode cL_law 208 = .ok (.iload 4, 2) := by decide +kernel
theorem dL_law_210 : decode cL_law 210 = .ok (.iconst 4, 1) := by decide +kernel
theorem dL_law_211 : decode cL_law 211 = .ok (.iadd, 1) := by decide +kernel
theorem dL_law_212 : decode cL_law 212 = .ok (.iaload, 1) := by decide +kernel
theorem dL_law_213 : decode cL_law 213 = .ok (.aload_n 0, 1) := by decide +kernel
theorem dL_law_214 : decode cL_law 214 = .ok (.iload 4, 2) := by decide +kernel
theorem dL_law_216 : decode cL_law 216 = .ok (.iconst 5, 1) := by decide +kernel
theorem dL_law_217 : decode cL_law 217 = .ok (.iadd, 1) := by decide +kernel
theorem dL_law_218 : decode cL_law 218 = .ok (.iaload, 1) := by decide +kernel
theorem dL_law_219 : decode cL_law 219 = .ok (.invokevirtual 104, 3) := by decide +kernel
theorem dL_law_222 : decode cL_law 222 = .ok (.aload_n 2, 1) := by decide +kernel
theorem dL_law_223 : decode cL_law 223 = .ok (.aload_n 0, 1) := by decide +kernel
theorem dL_law_224 : decode cL_law 224 = .ok (.iload 4, 2) := by decide +kernel
theorem dL_law_226 : decode cL_law 226 = .ok (.iconst 1, 1) := by decide +kernel
theorem dL_law_227 : decode cL_law 227 = .ok (.iadd, 1) := by decide +kernel
theorem dL_law_228 : decode cL_law 228 = .ok (.iaload, 1) := by decide +kernel
theorem dL_law_229 : decode cL_law 229 = .ok (.aload_n 0, 1) := by decide +kernel
theorem dL_law_230 : decode cL_law 230 = .ok (.iload 4, 2) := by decide +kernel
theorem dL_law_232 : decode cL_law 232 = .ok (.iconst 2, 1) := by decide +kernel
theorem dL_law_233 : decode cL_law 233 = .ok (.iadd, 1) := by decide +kernel
theorem dL_law_234 : decode cL_law 234 = .ok (.iaload, 1) := by decide +kernel
theorem dL_law_235 : decode cL_law 235 = .ok (.aload_n 0, 1) := by decide +kernel
theorem dL_law_236 : decode cL_law 236 = .ok (.iload 4, 2) := by decide +kernel
theorem dL_law_238 : decode cL_law 238 = .ok (.iconst 3, 1) := by decide +kernel
theorem dL_law_239 : decode cL_law 239 = .ok (.iadd, 1) := by decide +kernel
theorem dL_law_240 : decode cL_law 240 = .ok (.iaload, 1) := by decide +kernel
theorem dL_law_241 : decode cL_law 241 = .ok (.aload_n 0, 1) := by decide +kernel
theorem dL_law_242 : decode cL_law 242 = .ok (.iload 4, 2) := by decide +kernel
theorem dL_law_244 : decode cL_law 244 = .ok (.iconst 4, 1) := by decide +kernel
theorem dL_law_245 : decode cL_law 245 = .ok (.iadd, 1) := by decide +kernel
theorem dL_law_246 : decode cL_law 246 = .ok (.iaload, 1) := by decide +kernel
theorem dL_law_247 : decode cL_law 247 = .ok (.aload_n 0, 1) := by decide +kernel
theorem dL_law_248 : decode cL_law 248 = .ok (.iload 4, 2) := by decide +kernel
theorem dL_law_250 : decode cL_law 250 = .ok (.iconst 5, 1) := by decide +kernel
theorem dL_law_251 : decode cL_law 251 = .ok (.iadd, 1) := by decide +kernel
theorem dL_law_252 : decode cL_law 252 = .ok (.iaload, 1) := by decide +kernel
theorem dL_law_253 : decode cL_law 253 = .ok (.invokevirtual 108, 3) := by decide +kernel
theorem dL_law_256 : decode cL_law 256 = .ok (.if_icmp .eq 1778, 3) := by decide +kernel
theorem dL_law_259 : decode cL_law 259 = .ok (.iconst 0, 1) := by decide +kernel
theorem dL_law_260 : decode cL_law 260 = .ok (.ireturn, 1) := by decide +kernel
theorem dL_law_261 : decode cL_law 261 = .ok (.aload_n 1, 1) := by decide +kernel
theorem dL_law_262 : decode cL_law 262 = .ok (.aload_n 0, 1) := by decide +kernel
theorem dL_law_263 : decode cL_law 263 = .ok (.iload 4, 2) := by decide +kernel
theorem dL_law_265 : decode cL_law 265 = .ok (.iconst 1, 1) := by decide +kernel
theorem dL_law_266 : decode cL_law 266 = .ok (.iadd, 1) := by decide +kernel
theorem dL_law_267 : decode cL_law 267 = .ok (.iaload, 1) := by decide +kernel
theorem dL_law_268 : decode cL_law 268 = .ok (.aload_n 3, 1) := by decide +kernel
theorem dL_law_269 : decode cL_law 269 = .ok (.invokestatic 109, 3) := by decide +kernel
theorem dL_law_272 : decode cL_law 272 = .ok (.istore 5, 2) := by decide +kernel
theorem dL_law_274 : decode cL_law 274 = .ok (.aload_n 2, 1) := by decide +kernel
theorem dL_law_275 : decode cL_law 275 = .ok (.aload_n 0, 1) := by decide +kernel
theorem dL_law_276 : decode cL_law 276 = .ok (.iload 4, 2) := by decide +kernel
theorem dL_law_278 : decode cL_law 278 = .ok (.iconst 1, 1) := by decide +kernel
theorem dL_law_279 : decode cL_law 279 = .ok (.iadd, 1) := by decide +kernel
theorem dL_law_280 : decode cL_law 280 = .ok (.iaload, 1) := by decide +kernel
theorem dL_law_281 : decode cL_law 281 = .ok (.invokevirtual 114, 3) := by decide +kernel
theorem dL_law_284 : decode cL_law 284 = .ok (.istore 6, 2) := by decide +kernel
theorem dL_law_286 : decode cL_law 286 = .ok (.aload_n 2, 1) := by decide +kernel
theorem dL_law_287 : decode cL_law 287 = .ok (.invokevirtual 115, 3) := by decide +kernel
theorem dL_law_290 : decode cL_law 290 = .ok (.iload 5, 2) := by decide +kernel
theorem dL_law_292 : decode cL_law 292 = .ok (.if_icmp .eq 5, 3) := by decide +kernel
theorem dL_law_295 : decode cL_law 295 = .ok (.iconst 0, 1) := by decide +kernel
theorem dL_law_296 : decode cL_law 296 = .ok (.ireturn, 1) := by decide +kernel
theorem dL_law_297 : decode cL_law 297 = .ok (.iload 5, 2) := by decide +kernel
theorem dL_law_299 : decode cL_law 299 = .ok (.ifCond .ne 15, 3) := by decide +kernel
theorem dL_law_302 : decode cL_law 302 = .ok (.aload_n 3, 1) := by decide +kernel
theorem dL_law_303 : decode cL_law 303 = .ok (.iconst 0, 1) := by decide +kernel
theorem dL_law_304 : decode cL_law 304 = .ok (.laload, 1) := by decide +kernel
theorem dL_law_305 : decode cL_law 305 = .ok (.iload 6, 2) := by decide +kernel
theorem dL_law_307 : decode cL_law 307 = .ok (.i2l, 1) := by decide +kernel
theorem dL_law_308 : decode cL_law 308 = .ok (.lcmp, 1) := by decide +kernel
theorem dL_law_309 : decode cL_law 309 = .ok (.ifCond .eq 5, 3) := by decide +kernel
theorem dL_law_312 : decode cL_law 312 = .ok (.iconst 0, 1) := by decide +kernel
theorem dL_law_313 : decode cL_law 313 = .ok (.ireturn, 1) := by decide +kernel
theorem dL_law_314 : decode cL_law 314 = .ok (.goto 1720, 3) := by decide +kernel
theorem dL_law_317 : decode cL_law 317 = .ok (.aload_n 1, 1) := by decide +kernel
theorem dL_law_318 : decode cL_law 318 = .ok (.aload_n 0, 1) := by decide +kernel
theorem dL_law_319 : decode cL_law 319 = .ok (.iload 4, 2) := by decide +kernel
theorem dL_law_321 : decode cL_law 321 = .ok (.iconst 1, 1) := by decide +kernel
theorem dL_law_322 : decode cL_law 322 = .ok (.iadd, 1) := by decide +kernel
theorem dL_law_323 : decode cL_law 323 = .ok (.iaload, 1) := by decide +kernel
theorem dL_law_324 : decode cL_law 324 = .ok (.aload_n 3, 1) := by decide +kernel
theorem dL_law_325 : decode cL_law 325 = .ok (.invokestatic 119, 3) := by decide +kernel
theorem dL_law_328 : decode cL_law 328 = .ok (.istore 5, 2) := by decide +kernel
theorem dL_law_330 : decode cL_law 330 = .ok (.aload_n 2, 1) := by decide +kernel
theorem dL_law_331 : decode cL_law 331 = .ok (.aload_n 0, 1) := by decide +kernel
theorem dL_law_332 : decode cL_law 332 = .ok (.iload 4, 2) := by decide +kernel
theorem dL_law_334 : decode cL_law 334 = .ok (.iconst 1, 1) := by decide +kernel
theorem dL_law_335 : decode cL_law 335 = .ok (.iadd, 1) := by decide +kernel
theorem dL_law_336 : decode cL_law 336 = .ok (.iaload, 1) := by decide +kernel
theorem dL_law_337 : decode cL_law 337 = .ok (.invokevirtual 121, 3) := by decide +kernel
theorem dL_law_340 : decode cL_law 340 = .ok (.istore 6, 2) := by decide +kernel
theorem dL_law_342 : decode cL_law 342 = .ok (.aload_n 2, 1) := by decide +kernel
theorem dL_law_343 : decode cL_law 343 = .ok (.invokevirtual 115, 3) := by decide +kernel
theorem dL_law_346 : decode cL_law 346 = .ok (.iload 5, 2) := by decide +kernel
theorem dL_law_348 : decode cL_law 348 = .ok (.if_icmp .eq 5, 3) := by decide +kernel
theorem dL_law_351 : decode cL_law 351 = .ok (.iconst 0, 1) := by decide +kernel
theorem dL_law_352 : decode cL_law 352 = .ok (.ireturn, 1) := by decide +kernel
theorem dL_law_353 : decode cL_law 353 = .ok (.iload 5, 2) := by decide +kernel
theorem dL_law_355 : decode cL_law 355 = .ok (.ifCond .ne 15, 3) := by decide +kernel
theorem dL_law_358 : decode cL_law 358 = .ok (.aload_n 3, 1) := by decide +kernel
theorem dL_law_359 : decode cL_law 359 = .ok (.iconst 0, 1) := by decide +kernel
theorem dL_law_360 : decode cL_law 360 = .ok (.laload, 1) := by decide +kernel
theorem dL_law_361 : decode cL_law 361 = .ok (.iload 6, 2) := by decide +kernel
theorem dL_law_363 : decode cL_law 363 = .ok (.i2l, 1) := by decide +kernel
theorem dL_law_364 : decode cL_law 364 = .ok (.lcmp, 1) := by decide +kernel
theorem dL_law_365 : decode cL_law 365 = .ok (.ifCond .eq 5, 3) := by decide +kernel
theorem dL_law_368 : decode cL_law 368 = .ok (.iconst 0, 1) := by decide +kernel
theorem dL_law_369 : decode cL_law 369 = .ok (.ireturn, 1) := by decide +kernel
theorem dL_law_370 : decode cL_law 370 = .ok (.goto 1664, 3) := by decide +kernel
theorem dL_law_373 : decode cL_law 373 = .ok (.aload_n 1, 1) := by decide +kernel
theorem dL_law_374 : decode cL_law 374 = .ok (.invokevirtual 122, 3) := by decide +kernel
theorem dL_law_377 : decode cL_law 377 = .ok (.aload_n 2, 1) := by decide +kernel
theorem dL_law_378 : decode cL_law 378 = .ok (.invokevirtual 125, 3) := by decide +kernel
theorem dL_law_381 : decode cL_law 381 = .ok (.if_icmp .eq 1653, 3) := by decide +kernel
theorem dL_law_384 : decode cL_law 384 = .ok (.iconst 0, 1) := by decide +kernel
theorem dL_law_385 : decode cL_law 385 = .ok (.ireturn, 1) := by decide +kernel
theorem dL_law_386 : decode cL_law 386 = .ok (.aload_n 1, 1) := by decide +kernel
theorem dL_law_387 : decode cL_law 387 = .ok (.aload_n 0, 1) := by decide +kernel
theorem dL_law_388 : decode cL_law 388 = .ok (.iload 4, 2) := by decide +kernel
theorem dL_law_390 : decode cL_law 390 = .ok (.iconst 1, 1) := by decide +kernel
theorem dL_law_391 : decode cL_law 391 = .ok (.iadd, 1) := by decide +kernel
theorem dL_law_392 : decode cL_law 392 = .ok (.iaload, 1) := by decide +kernel
theorem dL_law_393 : decode cL_law 393 = .ok (.aload_n 3, 1) := by decide +kernel
theorem dL_law_394 : decode cL_law 394 = .ok (.invokestatic 126, 3) := by decide +kernel
theorem dL_law_397 : decode cL_law 397 = .ok (.istore 5, 2) := by decide +kernel
theorem dL_law_399 : decode cL_law 399 = .ok (.aload_n 2, 1) := by decide +kernel
theorem dL_law_400 : decode cL_law 400 = .ok (.aload_n 0, 1) := by decide +kernel
theorem dL_law_401 : decode cL_law 401 = .ok (.iload 4, 2) := by decide +kernel
theorem dL_law_403 : decode cL_law 403 = .ok (.iconst 1, 1) := by decide +kernel
theorem dL_law_404 : decode cL_law 404 = .ok (.iadd, 1) := by decide +kernel
theorem dL_law_405 : decode cL_law 405 = .ok (.iaload, 1) := by decide +kernel
theorem dL_law_406 : decode cL_law 406 = .ok (.invokevirtual 128, 3) := by decide +kernel
theorem dL_law_409 : decode cL_law 409 = .ok (.istore 6, 2) := by decide +kernel
