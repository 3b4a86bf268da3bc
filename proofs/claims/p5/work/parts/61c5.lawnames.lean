theorem tp_1542 : (Cond.instanceMethod yX11_restore) ∈ lw_tbl := tbC_in 6 _ (List.mem_of_getElem? (i := 24) rfl)
theorem tp_1543 : (Cond.selects RX11 yX11_restore yX11_restore) ∈ lw_tbl := tbC_in 6 _ (List.mem_of_getElem? (i := 25) rfl)
theorem tp_442 : (Cond.methodLink RL 212 yX10_status) ∈ lw_tbl := tbC_in 1 _ (List.mem_of_getElem? (i := 124) rfl)
theorem tp_443 : (Cond.instanceMethod yX10_status) ∈ lw_tbl := tbC_in 1 _ (List.mem_of_getElem? (i := 125) rfl)
theorem tp_444 : (Cond.selects RX10 yX10_status yX10_status) ∈ lw_tbl := tbC_in 1 _ (List.mem_of_getElem? (i := 126) rfl)
theorem tp_1545 : (Cond.methodLink RL 215 yX11_status) ∈ lw_tbl := tbC_in 6 _ (List.mem_of_getElem? (i := 27) rfl)
theorem tp_1546 : (Cond.instanceMethod yX11_status) ∈ lw_tbl := tbC_in 6 _ (List.mem_of_getElem? (i := 28) rfl)
theorem tp_1547 : (Cond.selects RX11 yX11_status yX11_status) ∈ lw_tbl := tbC_in 6 _ (List.mem_of_getElem? (i := 29) rfl)
theorem tp_447 : (Cond.methodLink RL 216 yX10_count) ∈ lw_tbl := tbC_in 1 _ (List.mem_of_getElem? (i := 129) rfl)
theorem tp_448 : (Cond.instanceMethod yX10_count) ∈ lw_tbl := tbC_in 1 _ (List.mem_of_getElem? (i := 130) rfl)
theorem tp_449 : (Cond.selects RX10 yX10_count yX10_count) ∈ lw_tbl := tbC_in 1 _ (List.mem_of_getElem? (i := 131) rfl)
theorem tp_1549 : (Cond.methodLink RL 219 yX11_count) ∈ lw_tbl := tbC_in 6 _ (List.mem_of_getElem? (i := 31) rfl)
theorem tp_1550 : (Cond.instanceMethod yX11_count) ∈ lw_tbl := tbC_in 6 _ (List.mem_of_getElem? (i := 32) rfl)
theorem tp_1551 : (Cond.selects RX11 yX11_count yX11_count) ∈ lw_tbl := tbC_in 6 _ (List.mem_of_getElem? (i := 33) rfl)
set_option maxRecDepth 20000 in
theorem tboL_law : ∀ w ∈ woL_law, w ∈ lw_tbl := (tb_cons tp_104 (tb_cons tp_105 (tb_cons tp_79 (tb_cons tp_1115 (tb_cons tp_1116 (tb_cons tp_91 (tb_cons tp_1553 (tb_cons tp_106 (tb_cons tp_107 (tb_cons tp_110 (tb_cons tp_138 (tb_cons tp_113 (tb_cons tp_80 (tb_cons tp_141 (tb_cons tp_82 (tb_cons tp_183 (tb_cons tp_83 (tb_cons tp_189 (tb_cons tp_84 (tb_cons tp_285 (tb_cons tp_88 (tb_cons tp_139 (tb_cons tp_308 (tb_cons tp_89 (tb_cons tp_81 (tb_cons tp_211 (tb_cons tp_85 (tb_cons tp_221 (tb_cons tp_86 (tb_cons tp_252 (tb_cons tp_87 (tb_cons tp_90 (tb_cons tp_1117 (tb_cons tp_1118 (tb_cons tp_371 (tb_cons tp_372 (tb_cons tp_373 (tb_cons tp_1237 (tb_cons tp_1238 (tb_cons tp_1239 (tb_cons tp_451 (tb_cons tp_452 (tb_cons tp_78 (tb_cons tp_454 (tb_cons tp_455 (tb_cons tp_95 (tb_cons tp_536 (tb_cons tp_96 (tb_cons tp_540 (tb_cons tp_561 (tb_cons tp_97 (tb_cons tp_98 (tb_cons tp_99 (tb_cons tp_100 (tb_cons tp_632 (tb_cons tp_641 (tb_cons tp_653 (tb_cons tp_662 (tb_cons tp_682 (tb_cons tp_1241 (tb_cons tp_1242 (tb_cons tp_1243 (tb_cons tp_708 (tb_cons tp_709 (tb_cons tp_711 (tb_cons tp_1303 (tb_cons tp_1304 (tb_cons tp_1305 (tb_cons tp_379 (tb_cons tp_380 (tb_cons tp_381 (tb_cons tp_1311 (tb_cons tp_1312 (tb_cons tp_1313 (tb_cons tp_720 (tb_cons tp_721 (tb_cons tp_723 (tb_cons tp_1315 (tb_cons tp_1316 (tb_cons tp_1317 (tb_cons tp_727 (tb_cons tp_728 (tb_cons tp_730 (tb_cons tp_731 (tb_cons tp_101 (tb_cons tp_1319 (tb_cons tp_1320 (tb_cons tp_1321 (tb_cons tp_755 (tb_cons tp_756 (tb_cons tp_758 (tb_cons tp_759 (tb_cons tp_102 (tb_cons tp_1327 (tb_cons tp_1328 (tb_cons tp_1329 (tb_cons tp_795 (tb_cons tp_796 (tb_cons tp_798 (tb_cons tp_1335 (tb_cons tp_1336 (tb_cons tp_1337 (tb_cons tp_806 (tb_cons tp_807 (tb_cons tp_809 (tb_cons tp_1343 (tb_cons tp_1344 (tb_cons tp_1345 (tb_cons tp_821 (tb_cons tp_822 (tb_cons tp_824 (tb_cons tp_419 (tb_cons tp_418 (tb_cons tp_103 (tb_cons tp_403 (tb_cons tp_887 (tb_cons tp_1351 (tb_cons tp_1352 (tb_cons tp_1353 (tb_cons tp_893 (tb_cons tp_894 (tb_cons tp_896 (tb_cons tp_1390 (tb_cons tp_1391 (tb_cons tp_1392 (tb_cons tp_905 (tb_cons tp_906 (tb_cons tp_908 (tb_cons tp_1394 (tb_cons tp_1395 (tb_cons tp_1396 (tb_cons tp_912 (tb_cons tp_913 (tb_cons tp_915 (tb_cons tp_1398 (tb_cons tp_1399 (tb_cons tp_1400 (tb_cons tp_923 (tb_cons tp_924 (tb_cons tp_926 (tb_cons tp_1402 (tb_cons tp_1403 (tb_cons tp_1404 (tb_cons tp_939 (tb_cons tp_940 (tb_cons tp_942 (tb_cons tp_1425 (tb_cons tp_1426 (tb_cons tp_1427 (tb_cons tp_946 (tb_cons tp_947 (tb_cons tp_949 (tb_cons tp_1429 (tb_cons tp_1430 (tb_cons tp_1431 (tb_cons tp_958 (tb_cons tp_959 (tb_cons tp_961 (tb_cons tp_1437 (tb_cons tp_1438 (tb_cons tp_1439 (tb_cons tp_965 (tb_cons tp_966 (tb_cons tp_968 (tb_cons tp_1441 (tb_cons tp_1442 (tb_cons tp_1443 (tb_cons tp_972 (tb_cons tp_973 (tb_cons tp_975 (tb_cons tp_1445 (tb_cons tp_1446 (tb_cons tp_1447 (tb_cons tp_984 (tb_cons tp_985 (tb_cons tp_987 (tb_cons tp_1449 (tb_cons tp_1450 (tb_cons tp_1451 (tb_cons tp_991 (tb_cons tp_992 (tb_cons tp_994 (tb_cons tp_1453 (tb_cons tp_1454 (tb_cons tp_1455 (tb_cons tp_1002 (tb_cons tp_1003 (tb_cons tp_1005 (tb_cons tp_1461 (tb_cons tp_1462 (tb_cons tp_1463 (tb_cons tp_1009 (tb_cons tp_1010 (tb_cons tp_1012 (tb_cons tp_1465 (tb_cons tp_1466 (tb_cons tp_1467 (tb_cons tp_1020 (tb_cons tp_1021 (tb_cons tp_1023 (tb_cons tp_1469 (tb_cons tp_1470 (tb_cons tp_1471 (tb_cons tp_1074 (tb_cons tp_1075 (tb_cons tp_1077 (tb_cons tp_1498 (tb_cons tp_1499 (tb_cons tp_1500 (tb_cons tp_1081 (tb_cons tp_1082 (tb_cons tp_1084 (tb_cons tp_1502 (tb_cons tp_1503 (tb_cons tp_1504 (tb_cons tp_1088 (tb_cons tp_1089 (tb_cons tp_1091 (tb_cons tp_1506 (tb_cons tp_1507 (tb_cons tp_1508 (tb_cons tp_383 (tb_cons tp_384 (tb_cons tp_385 (tb_cons tp_1510 (tb_cons tp_1511 (tb_cons tp_1512 (tb_cons tp_1099 (tb_cons tp_1100 (tb_cons tp_1102 (tb_cons tp_1525 (tb_cons tp_1526 (tb_cons tp_1527 (tb_cons tp_405 (tb_cons tp_406 (tb_cons tp_407 (tb_cons tp_1529 (tb_cons tp_1530 (tb_cons tp_1531 (tb_cons tp_438 (tb_cons tp_439 (tb_cons tp_440 (tb_cons tp_1541 (tb_cons tp_1542 (tb_cons tp_1543 (tb_cons tp_442 (tb_cons tp_443 (tb_cons tp_444 (tb_cons tp_1545 (tb_cons tp_1546 (tb_cons tp_1547 (tb_cons tp_447 (tb_cons tp_448 (tb_cons tp_449 (tb_cons tp_1549 (tb_cons tp_1550 (tb_cons tp_1551 tb_nil)))))))))))))))))))))))))))))))))))))))))))))))))))))))))))))))))))))))))))))))))))))))))))))))))))))))))))))))))))))))))))))))))))))))))))))))))))))))))))))))))))))))))))))))))))))))))))))))))))))))))))))))))))))))))))))))))))))))))))))))))))))))))))))))))
theorem wsL_law_in : ∀ w ∈ wsL_law, w ∈ lw_tbl := (tb_app tboL_law (tb_app tbn_9 (tb_app tbn_10 (tb_app tbn_0 (tb_app tbn_1 (tb_app tbn_6 (tb_app tbn_2 (tb_app tbn_7 (tb_app tbn_8 (tb_app tbn_3 (tb_app tbn_4 (tb_app tbn_5 (tb_app tbn_11 (tb_app tbn_12 (tb_app tbn_13 (tb_app tbX10_init (tb_app tbX11_init (tb_app tbX10_feed (tb_app tbX11_feed (tb_app tbL_siege (tb_app tbX11_siege (tb_app tbL_contract (tb_app tbX11_contract (tb_app tbX10_fault (tb_app tbX11_fault (tb_app tbL_told (tb_app tbX11_told (tb_app tbL_wall (tb_app tbX11_wall (tb_app tbL_rule (tb_app tbX11_rule (tb_app tbL_wants (tb_app tbX11_wants (tb_app tbL_sign (tb_app tbX11_sign (tb_app tbL_months (tb_app tbX11_months (tb_app tbL_undo (tb_app tbX11_undo (tb_app tbL_sums (tb_app tbX11_sums (tb_app tbL_corks (tb_app tbX11_corks (tb_app tbL_would (tb_app tbX11_would (tb_app tbL_best (tb_app tbX11_best (tb_app tbL_offer (tb_app tbX11_offer (tb_app tbL_nearest (tb_app tbX11_nearest (tb_app tbL_stop (tb_app tbX11_stop (tb_app tbL_odds (tb_app tbX11_odds (tb_app tbL_kind (tb_app tbX11_kind (tb_app tbL_seen (tb_app tbX11_seen (tb_app tbL_spy (tb_app tbX11_spy (tb_app tbL_believed (tb_app tbX11_believed (tb_app tbL_earnest (tb_app tbX11_earnest (tb_app tbL_stands (tb_app tbX11_stands (tb_app tbL_show (tb_app tbX11_show (tb_app tbL_offers (tb_app tbX11_offers (tb_app tbX10_most (tb_app tbX11_most (tb_app tbL_serves (tb_app tbX11_serves (tb_app tbX10_image (tb_app tbX11_image (tb_app tbX10_restore (tb_app tbX11_restore (tb_app tbX10_status (tb_app tbX11_status (tb_app tbX10_count tbX11_count))))))))))))))))))))))))))))))))))))))))))))))))))))))))))))))))))))))))))))))))))
theorem inlX0 : ∀ w ∈ wsX00, w ∈ wsL_law := fun _ h => List.mem_append_right _ (List.mem_append_right _ (List.mem_append_right _ (List.mem_append_right _ (List.mem_append_right _ (List.mem_append_right _ (List.mem_append_right _ (List.mem_append_right _ (List.mem_append_right _ (List.mem_append_left _ h)))))))))
theorem inX0 : ∀ w ∈ wsX00, w ∈ lw_tbl := fun w h => wsL_law_in w (inlX0 w h)
theorem inlX1 : ∀ w ∈ wsX10, w ∈ wsL_law := fun _ h => List.mem_append_right _ (List.mem_append_right _ (List.mem_append_right _ (List.mem_append_right _ (List.mem_append_right _ (List.mem_append_right _ (List.mem_append_right _ (List.mem_append_left _ h)))))))
theorem inX1 : ∀ w ∈ wsX10, w ∈ lw_tbl := fun w h => wsL_law_in w (inlX1 w h)
theorem inlX2 : ∀ w ∈ wsX20, w ∈ wsL_law := fun _ h => List.mem_append_right _ (List.mem_append_right _ (List.mem_append_right _ (List.mem_append_right _ (List.mem_append_right _ (List.mem_append_right _ (List.mem_append_right _ (List.mem_append_right _ (List.mem_append_right _ (List.mem_append_right _ (List.mem_append_left _ h))))))))))
theorem inX2 : ∀ w ∈ wsX20, w ∈ lw_tbl := fun w h => wsL_law_in w (inlX2 w h)
theorem inlX3 : ∀ w ∈ wsX30, w ∈ wsL_law := fun _ h => List.mem_append_right _ (List.mem_append_right _ (List.mem_append_right _ (List.mem_append_right _ (List.mem_append_right _ (List.mem_append_right _ (List.mem_append_right _ (List.mem_append_right _ (List.mem_append_right _ (List.mem_append_right _ (List.mem_append_right _ (List.mem_append_left _ h)))))))))))
theorem inX3 : ∀ w ∈ wsX30, w ∈ lw_tbl := fun w h => wsL_law_in w (inlX3 w h)
theorem inlX4 : ∀ w ∈ wsX40, w ∈ wsL_law := fun _ h => List.mem_append_right _ (List.mem_append_right _ (List.mem_append_right _ (List.mem_append_right _ (List.mem_append_right _ (List.mem_append_right _ (List.mem_append_left _ h))))))
theorem inX4 : ∀ w ∈ wsX40, w ∈ lw_tbl := fun w h => wsL_law_in w (inlX4 w h)
theorem inlX5 : ∀ w ∈ wsX50, w ∈ wsL_law := fun _ h => List.mem_append_right _ (List.mem_append_right _ (List.mem_append_right _ (List.mem_append_right _ (List.mem_append_right _ (List.mem_append_right _ (List.mem_append_right _ (List.mem_append_right _ (List.mem_append_left _ h))))))))
theorem inX5 : ∀ w ∈ wsX50, w ∈ lw_tbl := fun w h => wsL_law_in w (inlX5 w h)
theorem inlX6 : ∀ w ∈ wsX60, w ∈ wsL_law := fun _ h => List.mem_append_right _ (List.mem_append_right _ (List.mem_append_right _ (List.mem_append_right _ (List.mem_append_left _ h))))
theorem inX6 : ∀ w ∈ wsX60, w ∈ lw_tbl := fun w h => wsL_law_in w (inlX6 w h)
theorem inlX7 : ∀ w ∈ wsX70, w ∈ wsL_law := fun _ h => List.mem_append_right _ (List.mem_append_right _ (List.mem_append_right _ (List.mem_append_left _ h)))
theorem inX7 : ∀ w ∈ wsX70, w ∈ lw_tbl := fun w h => wsL_law_in w (inlX7 w h)
theorem inlX8 : ∀ w ∈ wsX80, w ∈ wsL_law := fun _ h => List.mem_append_right _ (List.mem_append_right _ (List.mem_append_right _ (List.mem_append_right _ (List.mem_append_right _ (List.mem_append_left _ h)))))
theorem inX8 : ∀ w ∈ wsX80, w ∈ lw_tbl := fun w h => wsL_law_in w (inlX8 w h)
theorem inX9 : ∀ w ∈ wsX90, w ∈ lw_tbl := by decide +kernel
theorem inlX10 : ∀ w ∈ wsX100, w ∈ wsL_law := fun _ h => List.mem_append_right _ (List.mem_append_left _ h)
theorem inX10 : ∀ w ∈ wsX100, w ∈ lw_tbl := fun w h => wsL_law_in w (inlX10 w h)
theorem inlX11 : ∀ w ∈ wsX110, w ∈ wsL_law := fun _ h => List.mem_append_right _ (List.mem_append_right _ (List.mem_append_left _ h))
theorem inX11 : ∀ w ∈ wsX110, w ∈ lw_tbl := fun w h => wsL_law_in w (inlX11 w h)
theorem inJx145de : ∀ w ∈ wsJx145de0, w ∈ lw_tbl := by decide +kernel
theorem inJx9f9b0 : ∀ w ∈ wsJx9f9b00, w ∈ lw_tbl := by decide +kernel
theorem inJxb160c : ∀ w ∈ wsJxb160c0, w ∈ lw_tbl := by decide +kernel
theorem inJ9 : ∀ w ∈ wsJ90, w ∈ lw_tbl := by decide +kernel
theorem inJ0 : ∀ w ∈ wsJ00, w ∈ lw_tbl := by decide +kernel
theorem inJ1 : ∀ w ∈ wsJ10, w ∈ lw_tbl := by decide +kernel
theorem inJ2 : ∀ w ∈ wsJ20, w ∈ lw_tbl := by decide +kernel
theorem inJ10 : ∀ w ∈ wsJ100, w ∈ lw_tbl := by decide +kernel
theorem inJxfd54e : ∀ w ∈ wsJxfd54e0, w ∈ lw_tbl := by decide +kernel
theorem inJx3cf43 : ∀ w ∈ wsJx3cf430, w ∈ lw_tbl := by decide +kernel
theorem inJ7 : ∀ w ∈ wsJ70, w ∈ lw_tbl := by decide +kernel
theorem inJ3 : ∀ w ∈ wsJ30, w ∈ lw_tbl := by decide +kernel
theorem ggL_siege_X10_siege : GoodIn wsL_siege wsX10_siege := gW_in gwX10_siege (fun _ h => List.mem_cons_of_mem _ (List.mem_append_right _ (List.mem_append_right _ (List.mem_append_right _ (List.mem_append_right _ (List.mem_append_right _ (List.mem_append_right _ (List.mem_append_right _ (List.mem_append_right _ (List.mem_append_right _ (h)))))))))))
set_option maxRecDepth 20000 in
theorem gL_siege_X10_siege : GoodIn wsL_siege (wsV RL 7 RX10 yX10_siege wsX10_siege) := goodIn_app (goodIn_of _ (by decide +kernel)) ggL_siege_X10_siege
theorem bL_siege_0 : decode cL_siege 0 = .ok (.aload_n 2, 1) ∧ decode cL_siege 1 = .ok (.iconst 0, 1) ∧ decode cL_siege 2 = .ok (.aload_n 0, 1) ∧ decode cL_siege 3 = .ok (.iload_n 1, 1) ∧ decode cL_siege 4 = .ok (.invokevirtual 7, 3) ∧ decode cL_siege 7 = .ok (.i2l, 1) ∧ decode cL_siege 8 = .ok (.lastore, 1) ∧ decode cL_siege 9 = .ok (.goto 6, 3) ∧ decode cL_siege 12 = .ok (.astore_n 3, 1) ∧ decode cL_siege 13 = .ok (.iconst 1, 1) ∧ decode cL_siege 14 = .ok (.ireturn, 1) ∧ decode cL_siege 15 = .ok (.iconst 0, 1) ∧ decode cL_siege 16 = .ok (.ireturn, 1) := by decide +kernel
def dL_siege_0 := bL_siege_0.1
def dL_siege_1 := bL_siege_0.2.1
def dL_siege_2 := bL_siege_0.2.2.1
def dL_siege_3 := bL_siege_0.2.2.2.1
def dL_siege_4 := bL_siege_0.2.2.2.2.1
def dL_siege_7 := bL_siege_0.2.2.2.2.2.1
def dL_siege_8 := bL_siege_0.2.2.2.2.2.2.1
def dL_siege_9 := bL_siege_0.2.2.2.2.2.2.2.1
def dL_siege_12 := bL_siege_0.2.2.2.2.2.2.2.2.1
def dL_siege_13 := bL_siege_0.2.2.2.2.2.2.2.2.2.1
def dL_siege_14 := bL_siege_0.2.2.2.2.2.2.2.2.2.2.1
def dL_siege_15 := bL_siege_0.2.2.2.2.2.2.2.2.2.2.2.1
def dL_siege_16 := bL_siege_0.2.2.2.2.2.2.2.2.2.2.2.2
theorem ggL_contract_X10_contract : GoodIn wsL_contract wsX10_contract := gW_in gwX10_contract (fun _ h => List.mem_cons_of_mem _ (List.mem_append_right _ (List.mem_append_right _ (List.mem_append_right _ (List.mem_append_right _ (List.mem_append_right _ (h)))))))
set_option maxRecDepth 20000 in
theorem gL_contract_X10_contract : GoodIn wsL_contract (wsV RL 15 RX10 yX10_contract wsX10_contract) := goodIn_app (goodIn_of _ (by decide +kernel)) ggL_contract_X10_contract
theorem bL_contract_0 : decode cL_contract 0 = .ok (.aload_n 2, 1) ∧ decode cL_contract 1 = .ok (.iconst 0, 1) ∧ decode cL_contract 2 = .ok (.aload_n 0, 1) ∧ decode cL_contract 3 = .ok (.iload_n 1, 1) ∧ decode cL_contract 4 = .ok (.invokevirtual 15, 3) ∧ decode cL_contract 7 = .ok (.i2l, 1) ∧ decode cL_contract 8 = .ok (.lastore, 1) ∧ decode cL_contract 9 = .ok (.goto 6, 3) ∧ decode cL_contract 12 = .ok (.astore_n 3, 1) ∧ decode cL_contract 13 = .ok (.iconst 1, 1) ∧ decode cL_contract 14 = .ok (.ireturn, 1) ∧ decode cL_contract 15 = .ok (.iconst 0, 1) ∧ decode cL_contract 16 = .ok (.ireturn, 1) := by decide +kernel
def dL_contract_0 := bL_contract_0.1
def dL_contract_1 := bL_contract_0.2.1
def dL_contract_2 := bL_contract_0.2.2.1
def dL_contract_3 := bL_contract_0.2.2.2.1
def dL_contract_4 := bL_contract_0.2.2.2.2.1
def dL_contract_7 := bL_contract_0.2.2.2.2.2.1
def dL_contract_8 := bL_contract_0.2.2.2.2.2.2.1
def dL_contract_9 := bL_contract_0.2.2.2.2.2.2.2.1
def dL_contract_12 := bL_contract_0.2.2.2.2.2.2.2.2.1
def dL_contract_13 := bL_contract_0.2.2.2.2.2.2.2.2.2.1
def dL_contract_14 := bL_contract_0.2.2.2.2.2.2.2.2.2.2.1
def dL_contract_15 := bL_contract_0.2.2.2.2.2.2.2.2.2.2.2.1
def dL_contract_16 := bL_contract_0.2.2.2.2.2.2.2.2.2.2.2.2
theorem ggL_told_X10_told : GoodIn wsL_told wsX10_told := gW_in gwX10_told (fun _ h => List.mem_cons_of_mem _ (List.mem_append_right _ (List.mem_append_right _ (List.mem_append_right _ (List.mem_append_right _ (List.mem_append_right _ (h)))))))
set_option maxRecDepth 20000 in
theorem gL_told_X10_told : GoodIn wsL_told (wsV RL 18 RX10 yX10_told wsX10_told) := goodIn_app (goodIn_of _ (by decide +kernel)) ggL_told_X10_told
theorem bL_told_0 : decode cL_told 0 = .ok (.aload_n 2, 1) ∧ decode cL_told 1 = .ok (.iconst 0, 1) ∧ decode cL_told 2 = .ok (.aload_n 0, 1) ∧ decode cL_told 3 = .ok (.iload_n 1, 1) ∧ decode cL_told 4 = .ok (.invokevirtual 18, 3) ∧ decode cL_told 7 = .ok (.i2l, 1) ∧ decode cL_told 8 = .ok (.lastore, 1) ∧ decode cL_told 9 = .ok (.goto 6, 3) ∧ decode cL_told 12 = .ok (.astore_n 3, 1) ∧ decode cL_told 13 = .ok (.iconst 1, 1) ∧ decode cL_told 14 = .ok (.ireturn, 1) ∧ decode cL_told 15 = .ok (.iconst 0, 1) ∧ decode cL_told 16 = .ok (.ireturn, 1) := by decide +kernel
def dL_told_0 := bL_told_0.1
def dL_told_1 := bL_told_0.2.1
def dL_told_2 := bL_told_0.2.2.1
def dL_told_3 := bL_told_0.2.2.2.1
def dL_told_4 := bL_told_0.2.2.2.2.1
def dL_told_7 := bL_told_0.2.2.2.2.2.1
def dL_told_8 := bL_told_0.2.2.2.2.2.2.1
def dL_told_9 := bL_told_0.2.2.2.2.2.2.2.1
def dL_told_12 := bL_told_0.2.2.2.2.2.2.2.2.1
def dL_told_13 := bL_told_0.2.2.2.2.2.2.2.2.2.1
def dL_told_14 := bL_told_0.2.2.2.2.2.2.2.2.2.2.1
def dL_told_15 := bL_told_0.2.2.2.2.2.2.2.2.2.2.2.1
def dL_told_16 := bL_told_0.2.2.2.2.2.2.2.2.2.2.2.2
theorem ggL_wall_X10_wall : GoodIn wsL_wall wsX10_wall := gW_in gwX10_wall (fun _ h => List.mem_cons_of_mem _ (List.mem_append_right _ (List.mem_append_right _ (List.mem_append_right _ (List.mem_append_right _ (List.mem_append_right _ (h)))))))
set_option maxRecDepth 20000 in
theorem gL_wall_X10_wall : GoodIn wsL_wall (wsV RL 21 RX10 yX10_wall wsX10_wall) := goodIn_app (goodIn_of _ (by decide +kernel)) ggL_wall_X10_wall
theorem bL_wall_0 : decode cL_wall 0 = .ok (.aload_n 3, 1) ∧ decode cL_wall 1 = .ok (.iconst 0, 1) ∧ decode cL_wall 2 = .ok (.aload_n 0, 1) ∧ decode cL_wall 3 = .ok (.iload_n 1, 1) ∧ decode cL_wall 4 = .ok (.iload_n 2, 1) ∧ decode cL_wall 5 = .ok (.invokevirtual 21, 3) ∧ decode cL_wall 8 = .ok (.i2l, 1) ∧ decode cL_wall 9 = .ok (.lastore, 1) ∧ decode cL_wall 10 = .ok (.goto 11, 3) ∧ decode cL_wall 13 = .ok (.astore 4, 2) ∧ decode cL_wall 15 = .ok (.iconst 1, 1) ∧ decode cL_wall 16 = .ok (.ireturn, 1) ∧ decode cL_wall 17 = .ok (.astore 4, 2) ∧ decode cL_wall 19 = .ok (.iconst 2, 1) ∧ decode cL_wall 20 = .ok (.ireturn, 1) ∧ decode cL_wall 21 = .ok (.iconst 0, 1) := by decide +kernel
def dL_wall_0 := bL_wall_0.1
def dL_wall_1 := bL_wall_0.2.1
def dL_wall_2 := bL_wall_0.2.2.1
def dL_wall_3 := bL_wall_0.2.2.2.1
def dL_wall_4 := bL_wall_0.2.2.2.2.1
def dL_wall_5 := bL_wall_0.2.2.2.2.2.1
def dL_wall_8 := bL_wall_0.2.2.2.2.2.2.1
def dL_wall_9 := bL_wall_0.2.2.2.2.2.2.2.1
def dL_wall_10 := bL_wall_0.2.2.2.2.2.2.2.2.1
def dL_wall_13 := bL_wall_0.2.2.2.2.2.2.2.2.2.1
def dL_wall_15 := bL_wall_0.2.2.2.2.2.2.2.2.2.2.1
def dL_wall_16 := bL_wall_0.2.2.2.2.2.2.2.2.2.2.2.1
def dL_wall_17 := bL_wall_0.2.2.2.2.2.2.2.2.2.2.2.2.1
def dL_wall_19 := bL_wall_0.2.2.2.2.2.2.2.2.2.2.2.2.2.1
def dL_wall_20 := bL_wall_0.2.2.2.2.2.2.2.2.2.2.2.2.2.2.1
def dL_wall_21 := bL_wall_0.2.2.2.2.2.2.2.2.2.2.2.2.2.2.2
theorem dL_wall_22 : decode cL_wall 22 = .ok (.ireturn, 1) := by decide +kernel
theorem ggL_rule_X10_rule : GoodIn wsL_rule wsX10_rule := gW_in gwX10_rule (fun _ h => List.mem_cons_of_mem _ (List.mem_append_right _ (List.mem_append_right _ (List.mem_append_right _ (h)))))
set_option maxRecDepth 20000 in
theorem gL_rule_X10_rule : GoodIn wsL_rule (wsV RL 27 RX10 yX10_rule wsX10_rule) := goodIn_app (goodIn_of _ (by decide +kernel)) ggL_rule_X10_rule
theorem bL_rule_0 : decode cL_rule 0 = .ok (.aload_n 3, 1) ∧ decode cL_rule 1 = .ok (.iconst 0, 1) ∧ decode cL_rule 2 = .ok (.aload_n 0, 1) ∧ decode cL_rule 3 = .ok (.iload_n 1, 1) ∧ decode cL_rule 4 = .ok (.iload_n 2, 1) ∧ decode cL_rule 5 = .ok (.invokevirtual 27, 3) ∧ decode cL_rule 8 = .ok (.i2l, 1) ∧ decode cL_rule 9 = .ok (.lastore, 1) ∧ decode cL_rule 10 = .ok (.goto 11, 3) ∧ decode cL_rule 13 = .ok (.astore 4, 2) ∧ decode cL_rule 15 = .ok (.iconst 1, 1) ∧ decode cL_rule 16 = .ok (.ireturn, 1) ∧ decode cL_rule 17 = .ok (.astore 4, 2) ∧ decode cL_rule 19 = .ok (.iconst 2, 1) ∧ decode cL_rule 20 = .ok (.ireturn, 1) ∧ decode cL_rule 21 = .ok (.iconst 0, 1) := by decide +kernel
def dL_rule_0 := bL_rule_0.1
def dL_rule_1 := bL_rule_0.2.1
def dL_rule_2 := bL_rule_0.2.2.1
def dL_rule_3 := bL_rule_0.2.2.2.1
def dL_rule_4 := bL_rule_0.2.2.2.2.1
def dL_rule_5 := bL_rule_0.2.2.2.2.2.1
def dL_rule_8 := bL_rule_0.2.2.2.2.2.2.1
def dL_rule_9 := bL_rule_0.2.2.2.2.2.2.2.1
def dL_rule_10 := bL_rule_0.2.2.2.2.2.2.2.2.1
def dL_rule_13 := bL_rule_0.2.2.2.2.2.2.2.2.2.1
def dL_rule_15 := bL_rule_0.2.2.2.2.2.2.2.2.2.2.1
def dL_rule_16 := bL_rule_0.2.2.2.2.2.2.2.2.2.2.2.1
def dL_rule_17 := bL_rule_0.2.2.2.2.2.2.2.2.2.2.2.2.1
def dL_rule_19 := bL_rule_0.2.2.2.2.2.2.2.2.2.2.2.2.2.1
def dL_rule_20 := bL_rule_0.2.2.2.2.2.2.2.2.2.2.2.2.2.2.1
def dL_rule_21 := bL_rule_0.2.2.2.2.2.2.2.2.2.2.2.2.2.2.2
theorem dL_rule_22 : decode cL_rule 22 = .ok (.ireturn, 1) := by decide +kernel
theorem ggL_wants_X10_wants : GoodIn wsL_wants wsX10_wants := gW_in gwX10_wants (fun _ h => List.mem_cons_of_mem _ (List.mem_append_right _ (List.mem_append_right _ (List.mem_append_right _ (h)))))
set_option maxRecDepth 20000 in
theorem gL_wants_X10_wants : GoodIn wsL_wants (wsV RL 32 RX10 yX10_wants wsX10_wants) := goodIn_app (goodIn_of _ (by decide +kernel)) ggL_wants_X10_wants
theorem bL_wants_0 : decode cL_wants 0 = .ok (.aload_n 3, 1) ∧ decode cL_wants 1 = .ok (.iconst 0, 1) ∧ decode cL_wants 2 = .ok (.aload_n 0, 1) ∧ decode cL_wants 3 = .ok (.iload_n 1, 1) ∧ decode cL_wants 4 = .ok (.iload_n 2, 1) ∧ decode cL_wants 5 = .ok (.invokevirtual 32, 3) ∧ decode cL_wants 8 = .ok (.i2l, 1) ∧ decode cL_wants 9 = .ok (.lastore, 1) ∧ decode cL_wants 10 = .ok (.goto 7, 3) ∧ decode cL_wants 13 = .ok (.astore 4, 2) ∧ decode cL_wants 15 = .ok (.iconst 1, 1) ∧ decode cL_wants 16 = .ok (.ireturn, 1) ∧ decode cL_wants 17 = .ok (.iconst 0, 1) ∧ decode cL_wants 18 = .ok (.ireturn, 1) := by decide +kernel
def dL_wants_0 := bL_wants_0.1
def dL_wants_1 := bL_wants_0.2.1
def dL_wants_2 := bL_wants_0.2.2.1
def dL_wants_3 := bL_wants_0.2.2.2.1
def dL_wants_4 := bL_wants_0.2.2.2.2.1
def dL_wants_5 := bL_wants_0.2.2.2.2.2.1
def dL_wants_8 := bL_wants_0.2.2.2.2.2.2.1
def dL_wants_9 := bL_wants_0.2.2.2.2.2.2.2.1
def dL_wants_10 := bL_wants_0.2.2.2.2.2.2.2.2.1
def dL_wants_13 := bL_wants_0.2.2.2.2.2.2.2.2.2.1
def dL_wants_15 := bL_wants_0.2.2.2.2.2.2.2.2.2.2.1
def dL_wants_16 := bL_wants_0.2.2.2.2.2.2.2.2.2.2.2.1
def dL_wants_17 := bL_wants_0.2.2.2.2.2.2.2.2.2.2.2.2.1
def dL_wants_18 := bL_wants_0.2.2.2.2.2.2.2.2.2.2.2.2.2
theorem ggL_sign_X10_sign : GoodIn wsL_sign wsX10_sign := gW_in gwX10_sign (fun _ h => List.mem_cons_of_mem _ (List.mem_append_right _ (List.mem_append_right _ (List.mem_append_right _ (List.mem_append_right _ (h))))))
set_option maxRecDepth 20000 in
theorem gL_sign_X10_sign : GoodIn wsL_sign (wsV RL 35 RX10 yX10_sign wsX10_sign) := goodIn_app (goodIn_of _ (by decide +kernel)) ggL_sign_X10_sign
theorem bL_sign_0 : decode cL_sign 0 = .ok (.aload_n 2, 1) ∧ decode cL_sign 1 = .ok (.iconst 0, 1) ∧ decode cL_sign 2 = .ok (.aload_n 0, 1) ∧ decode cL_sign 3 = .ok (.iload_n 1, 1) ∧ decode cL_sign 4 = .ok (.invokevirtual 35, 3) ∧ decode cL_sign 7 = .ok (.i2l, 1) ∧ decode cL_sign 8 = .ok (.lastore, 1) ∧ decode cL_sign 9 = .ok (.goto 6, 3) ∧ decode cL_sign 12 = .ok (.astore_n 3, 1) ∧ decode cL_sign 13 = .ok (.iconst 1, 1) ∧ decode cL_sign 14 = .ok (.ireturn, 1) ∧ decode cL_sign 15 = .ok (.iconst 0, 1) ∧ decode cL_sign 16 = .ok (.ireturn, 1) := by decide +kernel
def dL_sign_0 := bL_sign_0.1
def dL_sign_1 := bL_sign_0.2.1
def dL_sign_2 := bL_sign_0.2.2.1
def dL_sign_3 := bL_sign_0.2.2.2.1
def dL_sign_4 := bL_sign_0.2.2.2.2.1
def dL_sign_7 := bL_sign_0.2.2.2.2.2.1
def dL_sign_8 := bL_sign_0.2.2.2.2.2.2.1
def dL_sign_9 := bL_sign_0.2.2.2.2.2.2.2.1
def dL_sign_12 := bL_sign_0.2.2.2.2.2.2.2.2.1
def dL_sign_13 := bL_sign_0.2.2.2.2.2.2.2.2.2.1
def dL_sign_14 := bL_sign_0.2.2.2.2.2.2.2.2.2.2.1
def dL_sign_15 := bL_sign_0.2.2.2.2.2.2.2.2.2.2.2.1
def dL_sign_16 := bL_sign_0.2.2.2.2.2.2.2.2.2.2.2.2
theorem ggL_months_X10_months : GoodIn wsL_months wsX10_months := gW_in gwX10_months (fun _ h => List.mem_cons_of_mem _ (List.mem_append_right _ (List.mem_append_right _ (List.mem_append_right _ (List.mem_append_right _ (List.mem_append_right _ (List.mem_append_right _ (List.mem_append_right _ (h)))))))))
set_option maxRecDepth 20000 in
theorem gL_months_X10_months : GoodIn wsL_months (wsV RL 38 RX10 yX10_months wsX10_months) := goodIn_app (goodIn_of _ (by decide +kernel)) ggL_months_X10_months
theorem bL_months_0 : decode cL_months 0 = .ok (.aload_n 2, 1) ∧ decode cL_months 1 = .ok (.iconst 0, 1) ∧ decode cL_months 2 = .ok (.aload_n 0, 1) ∧ decode cL_months 3 = .ok (.iload_n 1, 1) ∧ decode cL_months 4 = .ok (.invokevirtual 38, 3) ∧ decode cL_months 7 = .ok (.i2l, 1) ∧ decode cL_months 8 = .ok (.lastore, 1) ∧ decode cL_months 9 = .ok (.goto 6, 3) ∧ decode cL_months 12 = .ok (.astore_n 3, 1) ∧ decode cL_months 13 = .ok (.iconst 1, 1) ∧ decode cL_months 14 = .ok (.ireturn, 1) ∧ decode cL_months 15 = .ok (.iconst 0, 1) ∧ decode cL_months 16 = .ok (.ireturn, 1) := by decide +kernel
def dL_months_0 := bL_months_0.1
def dL_months_1 := bL_months_0.2.1
def dL_months_2 := bL_months_0.2.2.1
def dL_months_3 := bL_months_0.2.2.2.1
def dL_months_4 := bL_months_0.2.2.2.2.1
def dL_months_7 := bL_months_0.2.2.2.2.2.1
def dL_months_8 := bL_months_0.2.2.2.2.2.2.1
def dL_months_9 := bL_months_0.2.2.2.2.2.2.2.1
def dL_months_12 := bL_months_0.2.2.2.2.2.2.2.2.1
def dL_months_13 := bL_months_0.2.2.2.2.2.2.2.2.2.1
def dL_months_14 := bL_months_0.2.2.2.2.2.2.2.2.2.2.1
def dL_months_15 := bL_months_0.2.2.2.2.2.2.2.2.2.2.2.1
def dL_months_16 := bL_months_0.2.2.2.2.2.2.2.2.2.2.2.2
theorem ggL_undo_X10_undo : GoodIn wsL_undo wsX10_undo := gW_in gwX10_undo (fun _ h => List.mem_cons_of_mem _ (List.mem_append_right _ (List.mem_append_right _ (List.mem_append_right _ (List.mem_append_right _ (List.mem_append_right _ (h)))))))
set_option maxRecDepth 20000 in
theorem gL_undo_X10_undo : GoodIn wsL_undo (wsV RL 41 RX10 yX10_undo wsX10_undo) := goodIn_app (goodIn_of _ (by decide +kernel)) ggL_undo_X10_undo
theorem bL_undo_0 : decode cL_undo 0 = .ok (.aload_n 2, 1) ∧ decode cL_undo 1 = .ok (.iconst 0, 1) ∧ decode cL_undo 2 = .ok (.aload_n 0, 1) ∧ decode cL_undo 3 = .ok (.iload_n 1, 1) ∧ decode cL_undo 4 = .ok (.invokevirtual 41, 3) ∧ decode cL_undo 7 = .ok (.i2l, 1) ∧ decode cL_undo 8 = .ok (.lastore, 1) ∧ decode cL_undo 9 = .ok (.goto 6, 3) ∧ decode cL_undo 12 = .ok (.astore_n 3, 1) ∧ decode cL_undo 13 = .ok (.iconst 1, 1) ∧ decode cL_undo 14 = .ok (.ireturn, 1) ∧ decode cL_undo 15 = .ok (.iconst 0, 1) ∧ decode cL_undo 16 = .ok (.ireturn, 1) := by decide +kernel
def dL_undo_0 := bL_undo_0.1
def dL_undo_1 := bL_undo_0.2.1
def dL_undo_2 := bL_undo_0.2.2.1
def dL_undo_3 := bL_undo_0.2.2.2.1
def dL_undo_4 := bL_undo_0.2.2.2.2.1
def dL_undo_7 := bL_undo_0.2.2.2.2.2.1
def dL_undo_8 := bL_undo_0.2.2.2.2.2.2.1
def dL_undo_9 := bL_undo_0.2.2.2.2.2.2.2.1
def dL_undo_12 := bL_undo_0.2.2.2.2.2.2.2.2.1
def dL_undo_13 := bL_undo_0.2.2.2.2.2.2.2.2.2.1
def dL_undo_14 := bL_undo_0.2.2.2.2.2.2.2.2.2.2.1
def dL_undo_15 := bL_undo_0.2.2.2.2.2.2.2.2.2.2.2.1
def dL_undo_16 := bL_undo_0.2.2.2.2.2.2.2.2.2.2.2.2
theorem ggL_sums_X10_sums : GoodIn wsL_sums wsX10_sums := gW_in gwX10_sums (fun _ h => List.mem_cons_of_mem _ (List.mem_append_right _ (List.mem_append_right _ (List.mem_append_right _ (List.mem_append_right _ (h))))))
set_option maxRecDepth 20000 in
theorem gL_sums_X10_sums : GoodIn wsL_sums (wsV RL 44 RX10 yX10_sums wsX10_sums) := goodIn_app (goodIn_of _ (by decide +kernel)) ggL_sums_X10_sums
theorem bL_sums_0 : decode cL_sums 0 = .ok (.aload_n 2, 1) ∧ decode cL_sums 1 = .ok (.iconst 0, 1) ∧ decode cL_sums 2 = .ok (.aload_n 0, 1) ∧ decode cL_sums 3 = .ok (.iload_n 1, 1) ∧ decode cL_sums 4 = .ok (.invokevirtual 44, 3) ∧ decode cL_sums 7 = .ok (.i2l, 1) ∧ decode cL_sums 8 = .ok (.lastore, 1) ∧ decode cL_sums 9 = .ok (.goto 6, 3) ∧ decode cL_sums 12 = .ok (.astore_n 3, 1) ∧ decode cL_sums 13 = .ok (.iconst 1, 1) ∧ decode cL_sums 14 = .ok (.ireturn, 1) ∧ decode cL_sums 15 = .ok (.iconst 0, 1) ∧ decode cL_sums 16 = .ok (.ireturn, 1) := by decide +kernel
def dL_sums_0 := bL_sums_0.1
def dL_sums_1 := bL_sums_0.2.1
def dL_sums_2 := bL_sums_0.2.2.1
def dL_sums_3 := bL_sums_0.2.2.2.1
def dL_sums_4 := bL_sums_0.2.2.2.2.1
def dL_sums_7 := bL_sums_0.2.2.2.2.2.1
def dL_sums_8 := bL_sums_0.2.2.2.2.2.2.1
def dL_sums_9 := bL_sums_0.2.2.2.2.2.2.2.1
def dL_sums_12 := bL_sums_0.2.2.2.2.2.2.2.2.1
def dL_sums_13 := bL_sums_0.2.2.2.2.2.2.2.2.2.1
def dL_sums_14 := bL_sums_0.2.2.2.2.2.2.2.2.2.2.1
def dL_sums_15 := bL_sums_0.2.2.2.2.2.2.2.2.2.2.2.1
def dL_sums_16 := bL_sums_0.2.2.2.2.2.2.2.2.2.2.2.2
theorem ggL_corks_X10_corks : GoodIn wsL_corks wsX10_corks := gW_in gwX10_corks (fun _ h => List.mem_cons_of_mem _ (List.mem_append_right _ (List.mem_append_right _ (List.mem_append_right _ (List.mem_append_right _ (List.mem_append_right _ (List.mem_append_right _ (h))))))))
set_option maxRecDepth 20000 in
theorem gL_corks_X10_corks : GoodIn wsL_corks (wsV RL 47 RX10 yX10_corks wsX10_corks) := goodIn_app (goodIn_of _ (by decide +kernel)) ggL_corks_X10_corks
theorem bL_corks_0 : decode cL_corks 0 = .ok (.aload_n 3, 1) ∧ decode cL_corks 1 = .ok (.iconst 0, 1) ∧ decode cL_corks 2 = .ok (.aload_n 0, 1) ∧ decode cL_corks 3 = .ok (.iload_n 1, 1) ∧ decode cL_corks 4 = .ok (.iload_n 2, 1) ∧ decode cL_corks 5 = .ok (.invokevirtual 47, 3) ∧ decode cL_corks 8 = .ok (.i2l, 1) ∧ decode cL_corks 9 = .ok (.lastore, 1) ∧ decode cL_corks 10 = .ok (.goto 11, 3) ∧ decode cL_corks 13 = .ok (.astore 4, 2) ∧ decode cL_corks 15 = .ok (.iconst 1, 1) ∧ decode cL_corks 16 = .ok (.ireturn, 1) ∧ decode cL_corks 17 = .ok (.astore 4, 2) ∧ decode cL_corks 19 = .ok (.iconst 2, 1) ∧ decode cL_corks 20 = .ok (.ireturn, 1) ∧ decode cL_corks 21 = .ok (.iconst 0, 1) := by decide +kernel
def dL_corks_0 := bL_corks_0.1
def dL_corks_1 := bL_corks_0.2.1
def dL_corks_2 := bL_corks_0.2.2.1
def dL_corks_3 := bL_corks_0.2.2.2.1
def dL_corks_4 := bL_corks_0.2.2.2.2.1
def dL_corks_5 := bL_corks_0.2.2.2.2.2.1
def dL_corks_8 := bL_corks_0.2.2.2.2.2.2.1
def dL_corks_9 := bL_corks_0.2.2.2.2.2.2.2.1
def dL_corks_10 := bL_corks_0.2.2.2.2.2.2.2.2.1
def dL_corks_13 := bL_corks_0.2.2.2.2.2.2.2.2.2.1
def dL_corks_15 := bL_corks_0.2.2.2.2.2.2.2.2.2.2.1
def dL_corks_16 := bL_corks_0.2.2.2.2.2.2.2.2.2.2.2.1
def dL_corks_17 := bL_corks_0.2.2.2.2.2.2.2.2.2.2.2.2.1
def dL_corks_19 := bL_corks_0.2.2.2.2.2.2.2.2.2.2.2.2.2.1
def dL_corks_20 := bL_corks_0.2.2.2.2.2.2.2.2.2.2.2.2.2.2.1
def dL_corks_21 := bL_corks_0.2.2.2.2.2.2.2.2.2.2.2.2.2.2.2
theorem dL_corks_22 : decode cL_corks 22 = .ok (.ireturn, 1) := by decide +kernel
theorem ggL_would_X10_would : GoodIn wsL_would wsX10_would := gW_in gwX10_would (fun _ h => List.mem_cons_of_mem _ (List.mem_append_right _ (List.mem_append_right _ (List.mem_append_right _ (List.mem_append_right _ (List.mem_append_right _ (List.mem_append_right _ (h))))))))
set_option maxRecDepth 20000 in
theorem gL_would_X10_would : GoodIn wsL_would (wsV RL 50 RX10 yX10_would wsX10_would) := goodIn_app (goodIn_of _ (by decide +kernel)) ggL_would_X10_would
theorem bL_would_0 : decode cL_would 0 = .ok (.aload 4, 2) ∧ decode cL_would 2 = .ok (.iconst 0, 1) ∧ decode cL_would 3 = .ok (.aload_n 0, 1) ∧ decode cL_would 4 = .ok (.iload_n 1, 1) ∧ decode cL_would 5 = .ok (.iload_n 2, 1) ∧ decode cL_would 6 = .ok (.iload_n 3, 1) ∧ decode cL_would 7 = .ok (.invokevirtual 50, 3) ∧ decode cL_would 10 = .ok (.i2l, 1) ∧ decode cL_would 11 = .ok (.lastore, 1) ∧ decode cL_would 12 = .ok (.goto 11, 3) ∧ decode cL_would 15 = .ok (.astore 5, 2) ∧ decode cL_would 17 = .ok (.iconst 1, 1) ∧ decode cL_would 18 = .ok (.ireturn, 1) ∧ decode cL_would 19 = .ok (.astore 5, 2) ∧ decode cL_would 21 = .ok (.iconst 2, 1) ∧ decode cL_would 22 = .ok (.ireturn, 1) := by decide +kernel
def dL_would_0 := bL_would_0.1
def dL_would_2 := bL_would_0.2.1
def dL_would_3 := bL_would_0.2.2.1
def dL_would_4 := bL_would_0.2.2.2.1
def dL_would_5 := bL_would_0.2.2.2.2.1
def dL_would_6 := bL_would_0.2.2.2.2.2.1
def dL_would_7 := bL_would_0.2.2.2.2.2.2.1
def dL_would_10 := bL_would_0.2.2.2.2.2.2.2.1
def dL_would_11 := bL_would_0.2.2.2.2.2.2.2.2.1
def dL_would_12 := bL_would_0.2.2.2.2.2.2.2.2.2.1
def dL_would_15 := bL_would_0.2.2.2.2.2.2.2.2.2.2.1
def dL_would_17 := bL_would_0.2.2.2.2.2.2.2.2.2.2.2.1
def dL_would_18 := bL_would_0.2.2.2.2.2.2.2.2.2.2.2.2.1
def dL_would_19 := bL_would_0.2.2.2.2.2.2.2.2.2.2.2.2.2.1
def dL_would_21 := bL_would_0.2.2.2.2.2.2.2.2.2.2.2.2.2.2.1
def dL_would_22 := bL_would_0.2.2.2.2.2.2.2.2.2.2.2.2.2.2.2
theorem bL_would_23 : decode cL_would 23 = .ok (.iconst 0, 1) ∧ decode cL_would 24 = .ok (.ireturn, 1) := by decide +kernel
def dL_would_23 := bL_would_23.1
def dL_would_24 := bL_would_23.2
theorem ggL_best_X10_best : GoodIn wsL_best wsX10_best := gW_in gwX10_best (fun _ h => List.mem_cons_of_mem _ (List.mem_append_right _ (List.mem_append_right _ (List.mem_append_right _ (List.mem_append_right _ (List.mem_append_right _ (List.mem_append_right _ (h))))))))
set_option maxRecDepth 20000 in
theorem gL_best_X10_best : GoodIn wsL_best (wsV RL 54 RX10 yX10_best wsX10_best) := goodIn_app (goodIn_of _ (by decide +kernel)) ggL_best_X10_best
theorem bL_best_0 : decode cL_best 0 = .ok (.aload_n 3, 1) ∧ decode cL_best 1 = .ok (.iconst 0, 1) ∧ decode cL_best 2 = .ok (.aload_n 0, 1) ∧ decode cL_best 3 = .ok (.iload_n 1, 1) ∧ decode cL_best 4 = .ok (.iload_n 2, 1) ∧ decode cL_best 5 = .ok (.invokevirtual 54, 3) ∧ decode cL_best 8 = .ok (.i2l, 1) ∧ decode cL_best 9 = .ok (.lastore, 1) ∧ decode cL_best 10 = .ok (.goto 7, 3) ∧ decode cL_best 13 = .ok (.astore 4, 2) ∧ decode cL_best 15 = .ok (.iconst 1, 1) ∧ decode cL_best 16 = .ok (.ireturn, 1) ∧ decode cL_best 17 = .ok (.iconst 0, 1) ∧ decode cL_best 18 = .ok (.ireturn, 1) := by decide +kernel
def dL_best_0 := bL_best_0.1
def dL_best_1 := bL_best_0.2.1
def dL_best_2 := bL_best_0.2.2.1
def dL_best_3 := bL_best_0.2.2.2.1
def dL_best_4 := bL_best_0.2.2.2.2.1
def dL_best_5 := bL_best_0.2.2.2.2.2.1
def dL_best_8 := bL_best_0.2.2.2.2.2.2.1
def dL_best_9 := bL_best_0.2.2.2.2.2.2.2.1
def dL_best_10 := bL_best_0.2.2.2.2.2.2.2.2.1
def dL_best_13 := bL_best_0.2.2.2.2.2.2.2.2.2.1
def dL_best_15 := bL_best_0.2.2.2.2.2.2.2.2.2.2.1
def dL_best_16 := bL_best_0.2.2.2.2.2.2.2.2.2.2.2.1
def dL_best_17 := bL_best_0.2.2.2.2.2.2.2.2.2.2.2.2.1
def dL_best_18 := bL_best_0.2.2.2.2.2.2.2.2.2.2.2.2.2
theorem ggL_offer_X10_offer : GoodIn wsL_offer wsX10_offer := gW_in gwX10_offer (fun _ h => List.mem_cons_of_mem _ (List.mem_append_right _ (List.mem_append_right _ (List.mem_append_right _ (List.mem_append_right _ (List.mem_append_right _ (List.mem_append_right _ (h))))))))
set_option maxRecDepth 20000 in
theorem gL_offer_X10_offer : GoodIn wsL_offer (wsV RL 57 RX10 yX10_offer wsX10_offer) := goodIn_app (goodIn_of _ (by decide +kernel)) ggL_offer_X10_offer
theorem bL_offer_0 : decode cL_offer 0 = .ok (.aload_n 3, 1) ∧ decode cL_offer 1 = .ok (.iconst 0, 1) ∧ decode cL_offer 2 = .ok (.aload_n 0, 1) ∧ decode cL_offer 3 = .ok (.iload_n 1, 1) ∧ decode cL_offer 4 = .ok (.iload_n 2, 1) ∧ decode cL_offer 5 = .ok (.invokevirtual 57, 3) ∧ decode cL_offer 8 = .ok (.i2l, 1) ∧ decode cL_offer 9 = .ok (.lastore, 1) ∧ decode cL_offer 10 = .ok (.goto 7, 3) ∧ decode cL_offer 13 = .ok (.astore 4, 2) ∧ decode cL_offer 15 = .ok (.iconst 1, 1) ∧ decode cL_offer 16 = .ok (.ireturn, 1) ∧ decode cL_offer 17 = .ok (.iconst 0, 1) ∧ decode cL_offer 18 = .ok (.ireturn, 1) := by decide +kernel
def dL_offer_0 := bL_offer_0.1
def dL_offer_1 := bL_offer_0.2.1
def dL_offer_2 := bL_offer_0.2.2.1
def dL_offer_3 := bL_offer_0.2.2.2.1
def dL_offer_4 := bL_offer_0.2.2.2.2.1
def dL_offer_5 := bL_offer_0.2.2.2.2.2.1
def dL_offer_8 := bL_offer_0.2.2.2.2.2.2.1
def dL_offer_9 := bL_offer_0.2.2.2.2.2.2.2.1
def dL_offer_10 := bL_offer_0.2.2.2.2.2.2.2.2.1
def dL_offer_13 := bL_offer_0.2.2.2.2.2.2.2.2.2.1
def dL_offer_15 := bL_offer_0.2.2.2.2.2.2.2.2.2.2.1
def dL_offer_16 := bL_offer_0.2.2.2.2.2.2.2.2.2.2.2.1
def dL_offer_17 := bL_offer_0.2.2.2.2.2.2.2.2.2.2.2.2.1
def dL_offer_18 := bL_offer_0.2.2.2.2.2.2.2.2.2.2.2.2.2
theorem ggL_nearest_X10_nearest : GoodIn wsL_nearest wsX10_nearest := gW_in gwX10_nearest (fun _ h => List.mem_cons_of_mem _ (List.mem_append_right _ (List.mem_append_right _ (List.mem_append_right _ (h)))))
set_option maxRecDepth 20000 in
theorem gL_nearest_X10_nearest : GoodIn wsL_nearest (wsV RL 60 RX10 yX10_nearest wsX10_nearest) := goodIn_app (goodIn_of _ (by decide +kernel)) ggL_nearest_X10_nearest
theorem bL_nearest_0 : decode cL_nearest 0 = .ok (.aload_n 3, 1) ∧ decode cL_nearest 1 = .ok (.iconst 0, 1) ∧ decode cL_nearest 2 = .ok (.aload_n 0, 1) ∧ decode cL_nearest 3 = .ok (.iload_n 1, 1) ∧ decode cL_nearest 4 = .ok (.iload_n 2, 1) ∧ decode cL_nearest 5 = .ok (.invokevirtual 60, 3) ∧ decode cL_nearest 8 = .ok (.i2l, 1) ∧ decode cL_nearest 9 = .ok (.lastore, 1) ∧ decode cL_nearest 10 = .ok (.goto 7, 3) ∧ decode cL_nearest 13 = .ok (.astore 4, 2) ∧ decode cL_nearest 15 = .ok (.iconst 1, 1) ∧ decode cL_nearest 16 = .ok (.ireturn, 1) ∧ decode cL_nearest 17 = .ok (.iconst 0, 1) ∧ decode cL_nearest 18 = .ok (.ireturn, 1) := by decide +kernel
def dL_nearest_0 := bL_nearest_0.1
def dL_nearest_1 := bL_nearest_0.2.1
def dL_nearest_2 := bL_nearest_0.2.2.1
def dL_nearest_3 := bL_nearest_0.2.2.2.1
def dL_nearest_4 := bL_nearest_0.2.2.2.2.1
def dL_nearest_5 := bL_nearest_0.2.2.2.2.2.1
def dL_nearest_8 := bL_nearest_0.2.2.2.2.2.2.1
def dL_nearest_9 := bL_nearest_0.2.2.2.2.2.2.2.1
def dL_nearest_10 := bL_nearest_0.2.2.2.2.2.2.2.2.1
def dL_nearest_13 := bL_nearest_0.2.2.2.2.2.2.2.2.2.1
def dL_nearest_15 := bL_nearest_0.2.2.2.2.2.2.2.2.2.2.1
def dL_nearest_16 := bL_nearest_0.2.2.2.2.2.2.2.2.2.2.2.1
def dL_nearest_17 := bL_nearest_0.2.2.2.2.2.2.2.2.2.2.2.2.1
def dL_nearest_18 := bL_nearest_0.2.2.2.2.2.2.2.2.2.2.2.2.2
theorem ggL_stop_X10_stop : GoodIn wsL_stop wsX10_stop := gW_in gwX10_stop (fun _ h => List.mem_cons_of_mem _ (List.mem_append_right _ (List.mem_append_right _ (List.mem_append_right _ (List.mem_append_right _ (List.mem_append_right _ (List.mem_append_right _ (h))))))))
set_option maxRecDepth 20000 in
theorem gL_stop_X10_stop : GoodIn wsL_stop (wsV RL 63 RX10 yX10_stop wsX10_stop) := goodIn_app (goodIn_of _ (by decide +kernel)) ggL_stop_X10_stop
theorem bL_stop_0 : decode cL_stop 0 = .ok (.aload_n 3, 1) ∧ decode cL_stop 1 = .ok (.iconst 0, 1) ∧ decode cL_stop 2 = .ok (.aload_n 0, 1) ∧ decode cL_stop 3 = .ok (.iload_n 1, 1) ∧ decode cL_stop 4 = .ok (.iload_n 2, 1) ∧ decode cL_stop 5 = .ok (.invokevirtual 63, 3) ∧ decode cL_stop 8 = .ok (.i2l, 1) ∧ decode cL_stop 9 = .ok (.lastore, 1) ∧ decode cL_stop 10 = .ok (.goto 7, 3) ∧ decode cL_stop 13 = .ok (.astore 4, 2) ∧ decode cL_stop 15 = .ok (.iconst 1, 1) ∧ decode cL_stop 16 = .ok (.ireturn, 1) ∧ decode cL_stop 17 = .ok (.iconst 0, 1) ∧ decode cL_stop 18 = .ok (.ireturn, 1) := by decide +kernel
def dL_stop_0 := bL_stop_0.1
def dL_stop_1 := bL_stop_0.2.1
def dL_stop_2 := bL_stop_0.2.2.1
def dL_stop_3 := bL_stop_0.2.2.2.1
def dL_stop_4 := bL_stop_0.2.2.2.2.1
def dL_stop_5 := bL_stop_0.2.2.2.2.2.1
def dL_stop_8 := bL_stop_0.2.2.2.2.2.2.1
def dL_stop_9 := bL_stop_0.2.2.2.2.2.2.2.1
def dL_stop_10 := bL_stop_0.2.2.2.2.2.2.2.2.1
def dL_stop_13 := bL_stop_0.2.2.2.2.2.2.2.2.2.1
def dL_stop_15 := bL_stop_0.2.2.2.2.2.2.2.2.2.2.1
def dL_stop_16 := bL_stop_0.2.2.2.2.2.2.2.2.2.2.2.1
def dL_stop_17 := bL_stop_0.2.2.2.2.2.2.2.2.2.2.2.2.1
def dL_stop_18 := bL_stop_0.2.2.2.2.2.2.2.2.2.2.2.2.2
theorem ggL_odds_X10_odds : GoodIn wsL_odds wsX10_odds := gW_in gwX10_odds (fun _ h => List.mem_cons_of_mem _ (List.mem_append_right _ (List.mem_append_right _ (List.mem_append_right _ (List.mem_append_right _ (h))))))
set_option maxRecDepth 20000 in
theorem gL_odds_X10_odds : GoodIn wsL_odds (wsV RL 66 RX10 yX10_odds wsX10_odds) := goodIn_app (goodIn_of _ (by decide +kernel)) ggL_odds_X10_odds
theorem bL_odds_0 : decode cL_odds 0 = .ok (.aload_n 0, 1) ∧ decode cL_odds 1 = .ok (.iload_n 1, 1) ∧ decode cL_odds 2 = .ok (.iload_n 2, 1) ∧ decode cL_odds 3 = .ok (.invokevirtual 66, 3) ∧ decode cL_odds 6 = .ok (.goto 6, 3) ∧ decode cL_odds 9 = .ok (.astore_n 3, 1) ∧ decode cL_odds 10 = .ok (.iconst 1, 1) ∧ decode cL_odds 11 = .ok (.ireturn, 1) ∧ decode cL_odds 12 = .ok (.iconst 0, 1) ∧ decode cL_odds 13 = .ok (.ireturn, 1) := by decide +kernel
def dL_odds_0 := bL_odds_0.1
def dL_odds_1 := bL_odds_0.2.1
def dL_odds_2 := bL_odds_0.2.2.1
def dL_odds_3 := bL_odds_0.2.2.2.1
def dL_odds_6 := bL_odds_0.2.2.2.2.1
def dL_odds_9 := bL_odds_0.2.2.2.2.2.1
def dL_odds_10 := bL_odds_0.2.2.2.2.2.2.1
def dL_odds_11 := bL_odds_0.2.2.2.2.2.2.2.1
def dL_odds_12 := bL_odds_0.2.2.2.2.2.2.2.2.1
def dL_odds_13 := bL_odds_0.2.2.2.2.2.2.2.2.2
theorem ggL_kind_X10_kind : GoodIn wsL_kind wsX10_kind := gW_in gwX10_kind (fun _ h => List.mem_cons_of_mem _ (List.mem_append_right _ (List.mem_append_right _ (List.mem_append_right _ (List.mem_append_right _ (h))))))
set_option maxRecDepth 20000 in
theorem gL_kind_X10_kind : GoodIn wsL_kind (wsV RL 70 RX10 yX10_kind wsX10_kind) := goodIn_app (goodIn_of _ (by decide +kernel)) ggL_kind_X10_kind
theorem bL_kind_0 : decode cL_kind 0 = .ok (.aload_n 0, 1) ∧ decode cL_kind 1 = .ok (.iload_n 1, 1) ∧ decode cL_kind 2 = .ok (.iload_n 2, 1) ∧ decode cL_kind 3 = .ok (.iload_n 3, 1) ∧ decode cL_kind 4 = .ok (.invokevirtual 70, 3) ∧ decode cL_kind 7 = .ok (.goto 7, 3) ∧ decode cL_kind 10 = .ok (.astore 4, 2) ∧ decode cL_kind 12 = .ok (.iconst 1, 1) ∧ decode cL_kind 13 = .ok (.ireturn, 1) ∧ decode cL_kind 14 = .ok (.iconst 0, 1) ∧ decode cL_kind 15 = .ok (.ireturn, 1) := by decide +kernel
def dL_kind_0 := bL_kind_0.1
def dL_kind_1 := bL_kind_0.2.1
def dL_kind_2 := bL_kind_0.2.2.1
def dL_kind_3 := bL_kind_0.2.2.2.1
def dL_kind_4 := bL_kind_0.2.2.2.2.1
def dL_kind_7 := bL_kind_0.2.2.2.2.2.1
def dL_kind_10 := bL_kind_0.2.2.2.2.2.2.1
def dL_kind_12 := bL_kind_0.2.2.2.2.2.2.2.1
def dL_kind_13 := bL_kind_0.2.2.2.2.2.2.2.2.1
def dL_kind_14 := bL_kind_0.2.2.2.2.2.2.2.2.2.1
def dL_kind_15 := bL_kind_0.2.2.2.2.2.2.2.2.2.2
theorem ggL_seen_X10_seen : GoodIn wsL_seen wsX10_seen := gW_in gwX10_seen (fun _ h => List.mem_cons_of_mem _ (List.mem_append_right _ (List.mem_append_right _ (List.mem_append_right _ (List.mem_append_right _ (h))))))
set_option maxRecDepth 20000 in
theorem gL_seen_X10_seen : GoodIn wsL_seen (wsV RL 74 RX10 yX10_seen wsX10_seen) := goodIn_app (goodIn_of _ (by decide +kernel)) ggL_seen_X10_seen
theorem bL_seen_0 : decode cL_seen 0 = .ok (.aload_n 2, 1) ∧ decode cL_seen 1 = .ok (.iconst 0, 1) ∧ decode cL_seen 2 = .ok (.aload_n 0, 1) ∧ decode cL_seen 3 = .ok (.iload_n 1, 1) ∧ decode cL_seen 4 = .ok (.invokevirtual 74, 3) ∧ decode cL_seen 7 = .ok (.i2l, 1) ∧ decode cL_seen 8 = .ok (.lastore, 1) ∧ decode cL_seen 9 = .ok (.goto 6, 3) ∧ decode cL_seen 12 = .ok (.astore_n 3, 1) ∧ decode cL_seen 13 = .ok (.iconst 1, 1) ∧ decode cL_seen 14 = .ok (.ireturn, 1) ∧ decode cL_seen 15 = .ok (.iconst 0, 1) ∧ decode cL_seen 16 = .ok (.ireturn, 1) := by decide +kernel
def dL_seen_0 := bL_seen_0.1
def dL_seen_1 := bL_seen_0.2.1
def dL_seen_2 := bL_seen_0.2.2.1
def dL_seen_3 := bL_seen_0.2.2.2.1
def dL_seen_4 := bL_seen_0.2.2.2.2.1
def dL_seen_7 := bL_seen_0.2.2.2.2.2.1
def dL_seen_8 := bL_seen_0.2.2.2.2.2.2.1
def dL_seen_9 := bL_seen_0.2.2.2.2.2.2.2.1
def dL_seen_12 := bL_seen_0.2.2.2.2.2.2.2.2.1
def dL_seen_13 := bL_seen_0.2.2.2.2.2.2.2.2.2.1
def dL_seen_14 := bL_seen_0.2.2.2.2.2.2.2.2.2.2.1
def dL_seen_15 := bL_seen_0.2.2.2.2.2.2.2.2.2.2.2.1
def dL_seen_16 := bL_seen_0.2.2.2.2.2.2.2.2.2.2.2.2
theorem ggL_spy_X10_spy : GoodIn wsL_spy wsX10_spy := gW_in gwX10_spy (fun _ h => List.mem_cons_of_mem _ (List.mem_append_right _ (List.mem_append_right _ (List.mem_append_right _ (List.mem_append_right _ (h))))))
set_option maxRecDepth 20000 in
theorem gL_spy_X10_spy : GoodIn wsL_spy (wsV RL 77 RX10 yX10_spy wsX10_spy) := goodIn_app (goodIn_of _ (by decide +kernel)) ggL_spy_X10_spy
theorem bL_spy_0 : decode cL_spy 0 = .ok (.aload_n 3, 1) ∧ decode cL_spy 1 = .ok (.iconst 0, 1) ∧ decode cL_spy 2 = .ok (.aload_n 0, 1) ∧ decode cL_spy 3 = .ok (.iload_n 1, 1) ∧ decode cL_spy 4 = .ok (.iload_n 2, 1) ∧ decode cL_spy 5 = .ok (.invokevirtual 77, 3) ∧ decode cL_spy 8 = .ok (.i2l, 1) ∧ decode cL_spy 9 = .ok (.lastore, 1) ∧ decode cL_spy 10 = .ok (.goto 7, 3) ∧ decode cL_spy 13 = .ok (.astore 4, 2) ∧ decode cL_spy 15 = .ok (.iconst 1, 1) ∧ decode cL_spy 16 = .ok (.ireturn, 1) ∧ decode cL_spy 17 = .ok (.iconst 0, 1) ∧ decode cL_spy 18 = .ok (.ireturn, 1) := by decide +kernel
def dL_spy_0 := bL_spy_0.1
def dL_spy_1 := bL_spy_0.2.1
def dL_spy_2 := bL_spy_0.2.2.1
def dL_spy_3 := bL_spy_0.2.2.2.1
def dL_spy_4 := bL_spy_0.2.2.2.2.1
def dL_spy_5 := bL_spy_0.2.2.2.2.2.1
def dL_spy_8 := bL_spy_0.2.2.2.2.2.2.1
def dL_spy_9 := bL_spy_0.2.2.2.2.2.2.2.1
def dL_spy_10 := bL_spy_0.2.2.2.2.2.2.2.2.1
def dL_spy_13 := bL_spy_0.2.2.2.2.2.2.2.2.2.1
def dL_spy_15 := bL_spy_0.2.2.2.2.2.2.2.2.2.2.1
def dL_spy_16 := bL_spy_0.2.2.2.2.2.2.2.2.2.2.2.1
def dL_spy_17 := bL_spy_0.2.2.2.2.2.2.2.2.2.2.2.2.1
def dL_spy_18 := bL_spy_0.2.2.2.2.2.2.2.2.2.2.2.2.2
theorem ggL_believed_X10_believed : GoodIn wsL_believed wsX10_believed := gW_in gwX10_believed (fun _ h => List.mem_cons_of_mem _ (List.mem_append_right _ (List.mem_append_right _ (List.mem_append_right _ (List.mem_append_right _ (h))))))
set_option maxRecDepth 20000 in
theorem gL_believed_X10_believed : GoodIn wsL_believed (wsV RL 81 RX10 yX10_believed wsX10_believed) := goodIn_app (goodIn_of _ (by decide +kernel)) ggL_believed_X10_believed
theorem bL_believed_0 : decode cL_believed 0 = .ok (.aload_n 2, 1) ∧ decode cL_believed 1 = .ok (.iconst 0, 1) ∧ decode cL_believed 2 = .ok (.aload_n 0, 1) ∧ decode cL_believed 3 = .ok (.iload_n 1, 1) ∧ decode cL_believed 4 = .ok (.invokevirtual 81, 3) ∧ decode cL_believed 7 = .ok (.lastore, 1) ∧ decode cL_believed 8 = .ok (.goto 6, 3) ∧ decode cL_believed 11 = .ok (.astore_n 3, 1) ∧ decode cL_believed 12 = .ok (.iconst 1, 1) ∧ decode cL_believed 13 = .ok (.ireturn, 1) ∧ decode cL_believed 14 = .ok (.iconst 0, 1) ∧ decode cL_believed 15 = .ok (.ireturn, 1) := by decide +kernel
def dL_believed_0 := bL_believed_0.1
def dL_believed_1 := bL_believed_0.2.1
def dL_believed_2 := bL_believed_0.2.2.1
def dL_believed_3 := bL_believed_0.2.2.2.1
def dL_believed_4 := bL_believed_0.2.2.2.2.1
