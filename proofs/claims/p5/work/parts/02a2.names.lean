theorem dX3_bid_14 : decode cX3_bid 14 = .ok (.istore 5, 2) := by decide +kernel
theorem dX3_bid_16 : decode cX3_bid 16 = .ok (.aload_n 0, 1) := by decide +kernel
theorem dX3_bid_17 : decode cX3_bid 17 = .ok (.getfield 9, 3) := by decide +kernel
theorem dX3_bid_20 : decode cX3_bid 20 = .ok (.iload 4, 2) := by decide +kernel
theorem dX3_bid_22 : decode cX3_bid 22 = .ok (.iload_n 3, 1) := by decide +kernel
theorem dX3_bid_23 : decode cX3_bid 23 = .ok (.iastore, 1) := by decide +kernel
theorem dX3_bid_24 : decode cX3_bid 24 = .ok (.iload 5, 2) := by decide +kernel
theorem dX3_bid_26 : decode cX3_bid 26 = .ok (.ireturn, 1) := by decide +kernel
theorem ggX3_mostCoin_X3_mostFrom : GoodIn wsX3_mostCoin wsX3_mostFrom := gW_in gwX3_mostFrom (fun _ h => List.mem_cons_of_mem _ (List.mem_append_right _ (List.mem_append_right _ (h))))
set_option maxRecDepth 20000 in
theorem gX3_mostCoin_X3_mostFrom : GoodIn wsX3_mostCoin (wsV RX3 22 RX3 yX3_mostFrom wsX3_mostFrom) := goodIn_app (goodIn_of _ (by decide +kernel)) ggX3_mostCoin_X3_mostFrom
theorem dX3_mostCoin_0 : decode cX3_mostCoin 0 = .ok (.bipush 11, 2) := by decide +kernel
theorem dX3_mostCoin_2 : decode cX3_mostCoin 2 = .ok (.istore_n 1, 1) := by decide +kernel
theorem dX3_mostCoin_3 : decode cX3_mostCoin 3 = .ok (.iload_n 1, 1) := by decide +kernel
theorem dX3_mostCoin_4 : decode cX3_mostCoin 4 = .ok (.ifCond .lt 38, 3) := by decide +kernel
theorem dX3_mostCoin_7 : decode cX3_mostCoin 7 = .ok (.iconst 0, 1) := by decide +kernel
theorem dX3_mostCoin_8 : decode cX3_mostCoin 8 = .ok (.istore_n 2, 1) := by decide +kernel
theorem dX3_mostCoin_9 : decode cX3_mostCoin 9 = .ok (.iload_n 2, 1) := by decide +kernel
theorem dX3_mostCoin_10 : decode cX3_mostCoin 10 = .ok (.iconst 3, 1) := by decide +kernel
theorem dX3_mostCoin_11 : decode cX3_mostCoin 11 = .ok (.if_icmp .ge 25, 3) := by decide +kernel
theorem dX3_mostCoin_14 : decode cX3_mostCoin 14 = .ok (.aload_n 0, 1) := by decide +kernel
theorem dX3_mostCoin_15 : decode cX3_mostCoin 15 = .ok (.getfield 13, 3) := by decide +kernel
theorem dX3_mostCoin_18 : decode cX3_mostCoin 18 = .ok (.iload_n 1, 1) := by decide +kernel
theorem dX3_mostCoin_19 : decode cX3_mostCoin 19 = .ok (.iconst 3, 1) := by decide +kernel
theorem dX3_mostCoin_20 : decode cX3_mostCoin 20 = .ok (.imul, 1) := by decide +kernel
theorem dX3_mostCoin_21 : decode cX3_mostCoin 21 = .ok (.iload_n 2, 1) := by decide +kernel
theorem dX3_mostCoin_22 : decode cX3_mostCoin 22 = .ok (.iadd, 1) := by decide +kernel
theorem dX3_mostCoin_23 : decode cX3_mostCoin 23 = .ok (.aload_n 0, 1) := by decide +kernel
theorem dX3_mostCoin_24 : decode cX3_mostCoin 24 = .ok (.iload_n 1, 1) := by decide +kernel
theorem dX3_mostCoin_25 : decode cX3_mostCoin 25 = .ok (.iload_n 2, 1) := by decide +kernel
theorem dX3_mostCoin_26 : decode cX3_mostCoin 26 = .ok (.invokevirtual 22, 3) := by decide +kernel
theorem dX3_mostCoin_29 : decode cX3_mostCoin 29 = .ok (.iastore, 1) := by decide +kernel
theorem dX3_mostCoin_30 : decode cX3_mostCoin 30 = .ok (.iinc 2 1, 3) := by decide +kernel
theorem dX3_mostCoin_33 : decode cX3_mostCoin 33 = .ok (.goto (-24), 3) := by decide +kernel
theorem dX3_mostCoin_36 : decode cX3_mostCoin 36 = .ok (.iinc 1 (-1), 3) := by decide +kernel
theorem dX3_mostCoin_39 : decode cX3_mostCoin 39 = .ok (.goto (-36), 3) := by decide +kernel
theorem dX3_mostCoin_42 : decode cX3_mostCoin 42 = .ok (.aload_n 0, 1) := by decide +kernel
theorem dX3_mostCoin_43 : decode cX3_mostCoin 43 = .ok (.getfield 13, 3) := by decide +kernel
theorem dX3_mostCoin_46 : decode cX3_mostCoin 46 = .ok (.iconst 0, 1) := by decide +kernel
theorem dX3_mostCoin_47 : decode cX3_mostCoin 47 = .ok (.iaload, 1) := by decide +kernel
theorem dX3_mostCoin_48 : decode cX3_mostCoin 48 = .ok (.ireturn, 1) := by decide +kernel
theorem ggX3_mostFrom_X3_mayFollow : GoodIn wsX3_mostFrom wsX3_mayFollow := gW_in gwX3_mayFollow (fun _ h => List.mem_cons_of_mem _ (List.mem_append_right _ (List.mem_append_right _ (List.mem_append_left _ h))))
set_option maxRecDepth 20000 in
theorem gX3_mostFrom_X3_mayFollow : GoodIn wsX3_mostFrom (va_wsS RX3 26 yX3_mayFollow wsX3_mayFollow) := goodIn_app (goodIn_of _ (by decide +kernel)) ggX3_mostFrom_X3_mayFollow
theorem ggX3_mostFrom_X3_through : GoodIn wsX3_mostFrom wsX3_through := gW_in gwX3_through (fun _ h => List.mem_cons_of_mem _ (List.mem_append_right _ (List.mem_append_right _ (List.mem_append_right _ (h)))))
set_option maxRecDepth 20000 in
theorem gX3_mostFrom_X3_through : GoodIn wsX3_mostFrom (wsV RX3 30 RX3 yX3_through wsX3_through) := goodIn_app (goodIn_of _ (by decide +kernel)) ggX3_mostFrom_X3_through
theorem dX3_mostFrom_0 : decode cX3_mostFrom 0 = .ok (.iconst 0, 1) := by decide +kernel
theorem dX3_mostFrom_1 : decode cX3_mostFrom 1 = .ok (.istore_n 3, 1) := by decide +kernel
theorem dX3_mostFrom_2 : decode cX3_mostFrom 2 = .ok (.iconst 0, 1) := by decide +kernel
theorem dX3_mostFrom_3 : decode cX3_mostFrom 3 = .ok (.istore 4, 2) := by decide +kernel
theorem dX3_mostFrom_5 : decode cX3_mostFrom 5 = .ok (.iload 4, 2) := by decide +kernel
theorem dX3_mostFrom_7 : decode cX3_mostFrom 7 = .ok (.iconst 3, 1) := by decide +kernel
theorem dX3_mostFrom_8 : decode cX3_mostFrom 8 = .ok (.if_icmp .ge 30, 3) := by decide +kernel
theorem dX3_mostFrom_11 : decode cX3_mostFrom 11 = .ok (.iload_n 2, 1) := by decide +kernel
theorem dX3_mostFrom_12 : decode cX3_mostFrom 12 = .ok (.iload 4, 2) := by decide +kernel
theorem dX3_mostFrom_14 : decode cX3_mostFrom 14 = .ok (.invokestatic 26, 3) := by decide +kernel
theorem dX3_mostFrom_17 : decode cX3_mostFrom 17 = .ok (.ifCond .eq 15, 3) := by decide +kernel
theorem dX3_mostFrom_20 : decode cX3_mostFrom 20 = .ok (.iload_n 3, 1) := by decide +kernel
theorem dX3_mostFrom_21 : decode cX3_mostFrom 21 = .ok (.aload_n 0, 1) := by decide +kernel
theorem dX3_mostFrom_22 : decode cX3_mostFrom 22 = .ok (.iload_n 1, 1) := by decide +kernel
theorem dX3_mostFrom_23 : decode cX3_mostFrom 23 = .ok (.iload 4, 2) := by decide +kernel
theorem dX3_mostFrom_25 : decode cX3_mostFrom 25 = .ok (.invokevirtual 30, 3) := by decide +kernel
theorem dX3_mostFrom_28 : decode cX3_mostFrom 28 = .ok (.invokestatic 33, 3) := by decide +kernel
theorem dX3_mostFrom_31 : decode cX3_mostFrom 31 = .ok (.istore_n 3, 1) := by decide +kernel
theorem dX3_mostFrom_32 : decode cX3_mostFrom 32 = .ok (.iinc 4 1, 3) := by decide +kernel
theorem dX3_mostFrom_35 : decode cX3_mostFrom 35 = .ok (.goto (-30), 3) := by decide +kernel
theorem dX3_mostFrom_38 : decode cX3_mostFrom 38 = .ok (.iload_n 3, 1) := by decide +kernel
theorem dX3_mostFrom_39 : decode cX3_mostFrom 39 = .ok (.ireturn, 1) := by decide +kernel
theorem dX3_through_0 : decode cX3_through 0 = .ok (.aload_n 0, 1) := by decide +kernel
theorem dX3_through_1 : decode cX3_through 1 = .ok (.getfield 9, 3) := by decide +kernel
theorem dX3_through_4 : decode cX3_through 4 = .ok (.iload_n 1, 1) := by decide +kernel
theorem dX3_through_5 : decode cX3_through 5 = .ok (.iconst 3, 1) := by decide +kernel
theorem dX3_through_6 : decode cX3_through 6 = .ok (.imul, 1) := by decide +kernel
theorem dX3_through_7 : decode cX3_through 7 = .ok (.iload_n 2, 1) := by decide +kernel
theorem dX3_through_8 : decode cX3_through 8 = .ok (.iadd, 1) := by decide +kernel
theorem dX3_through_9 : decode cX3_through 9 = .ok (.iaload, 1) := by decide +kernel
theorem dX3_through_10 : decode cX3_through 10 = .ok (.aload_n 0, 1) := by decide +kernel
theorem dX3_through_11 : decode cX3_through 11 = .ok (.getfield 13, 3) := by decide +kernel
theorem dX3_through_14 : decode cX3_through 14 = .ok (.iload_n 1, 1) := by decide +kernel
theorem dX3_through_15 : decode cX3_through 15 = .ok (.iconst 1, 1) := by decide +kernel
theorem dX3_through_16 : decode cX3_through 16 = .ok (.iadd, 1) := by decide +kernel
theorem dX3_through_17 : decode cX3_through 17 = .ok (.iconst 3, 1) := by decide +kernel
theorem dX3_through_18 : decode cX3_through 18 = .ok (.imul, 1) := by decide +kernel
theorem dX3_through_19 : decode cX3_through 19 = .ok (.iload_n 2, 1) := by decide +kernel
theorem dX3_through_20 : decode cX3_through 20 = .ok (.iadd, 1) := by decide +kernel
theorem dX3_through_21 : decode cX3_through 21 = .ok (.iaload, 1) := by decide +kernel
theorem dX3_through_22 : decode cX3_through 22 = .ok (.iadd, 1) := by decide +kernel
theorem dX3_through_23 : decode cX3_through 23 = .ok (.ireturn, 1) := by decide +kernel
theorem dX3_mayFollow_0 : decode cX3_mayFollow 0 = .ok (.iload_n 0, 1) := by decide +kernel
theorem dX3_mayFollow_1 : decode cX3_mayFollow 1 = .ok (.ifCond .eq 12, 3) := by decide +kernel
theorem dX3_mayFollow_4 : decode cX3_mayFollow 4 = .ok (.iload_n 1, 1) := by decide +kernel
theorem dX3_mayFollow_5 : decode cX3_mayFollow 5 = .ok (.ifCond .eq 8, 3) := by decide +kernel
theorem dX3_mayFollow_8 : decode cX3_mayFollow 8 = .ok (.iload_n 0, 1) := by decide +kernel
theorem dX3_mayFollow_9 : decode cX3_mayFollow 9 = .ok (.iload_n 1, 1) := by decide +kernel
theorem dX3_mayFollow_10 : decode cX3_mayFollow 10 = .ok (.if_icmp .ne 7, 3) := by decide +kernel
theorem dX3_mayFollow_13 : decode cX3_mayFollow 13 = .ok (.iconst 1, 1) := by decide +kernel
theorem dX3_mayFollow_14 : decode cX3_mayFollow 14 = .ok (.goto 4, 3) := by decide +kernel
theorem dX3_mayFollow_17 : decode cX3_mayFollow 17 = .ok (.iconst 0, 1) := by decide +kernel
theorem dX3_mayFollow_18 : decode cX3_mayFollow 18 = .ok (.ireturn, 1) := by decide +kernel
theorem ggX3_served_X3_mostCoin : GoodIn wsX3_served wsX3_mostCoin := gW_in gwX3_mostCoin (fun _ h => List.mem_cons_of_mem _ (List.mem_append_right _ (List.mem_append_right _ (List.mem_append_left _ h))))
set_option maxRecDepth 20000 in
theorem gX3_served_X3_mostCoin : GoodIn wsX3_served (wsV RX3 38 RX3 yX3_mostCoin wsX3_mostCoin) := goodIn_app (goodIn_of _ (by decide +kernel)) ggX3_served_X3_mostCoin
theorem ggX3_served_X3_firstWay : GoodIn wsX3_served wsX3_firstWay := gW_in gwX3_firstWay (fun _ h => List.mem_cons_of_mem _ (List.mem_append_right _ (List.mem_append_right _ (List.mem_append_right _ (h)))))
set_option maxRecDepth 20000 in
theorem gX3_served_X3_firstWay : GoodIn wsX3_served (wsV RX3 42 RX3 yX3_firstWay wsX3_firstWay) := goodIn_app (goodIn_of _ (by decide +kernel)) ggX3_served_X3_firstWay
theorem dX3_served_0 : decode cX3_served 0 = .ok (.aload_n 0, 1) := by decide +kernel
theorem dX3_served_1 : decode cX3_served 1 = .ok (.invokevirtual 38, 3) := by decide +kernel
theorem dX3_served_4 : decode cX3_served 4 = .ok (.pop, 1) := by decide +kernel
theorem dX3_served_5 : decode cX3_served 5 = .ok (.iconst 0, 1) := by decide +kernel
theorem dX3_served_6 : decode cX3_served 6 = .ok (.istore_n 2, 1) := by decide +kernel
theorem dX3_served_7 : decode cX3_served 7 = .ok (.iconst 0, 1) := by decide +kernel
theorem dX3_served_8 : decode cX3_served 8 = .ok (.istore_n 3, 1) := by decide +kernel
theorem dX3_served_9 : decode cX3_served 9 = .ok (.iload_n 3, 1) := by decide +kernel
theorem dX3_served_10 : decode cX3_served 10 = .ok (.iload_n 1, 1) := by decide +kernel
theorem dX3_served_11 : decode cX3_served 11 = .ok (.if_icmp .gt 22, 3) := by decide +kernel
theorem dX3_served_14 : decode cX3_served 14 = .ok (.iload_n 3, 1) := by decide +kernel
theorem dX3_served_15 : decode cX3_served 15 = .ok (.bipush 12, 2) := by decide +kernel
theorem dX3_served_17 : decode cX3_served 17 = .ok (.if_icmp .ge 16, 3) := by decide +kernel
theorem dX3_served_20 : decode cX3_served 20 = .ok (.aload_n 0, 1) := by decide +kernel
theorem dX3_served_21 : decode cX3_served 21 = .ok (.iload_n 3, 1) := by decide +kernel
theorem dX3_served_22 : decode cX3_served 22 = .ok (.iload_n 2, 1) := by decide +kernel
theorem dX3_served_23 : decode cX3_served 23 = .ok (.invokevirtual 42, 3) := by decide +kernel
theorem dX3_served_26 : decode cX3_served 26 = .ok (.istore_n 2, 1) := by decide +kernel
theorem dX3_served_27 : decode cX3_served 27 = .ok (.iinc 3 1, 3) := by decide +kernel
theorem dX3_served_30 : decode cX3_served 30 = .ok (.goto (-21), 3) := by decide +kernel
theorem dX3_served_33 : decode cX3_served 33 = .ok (.iload_n 2, 1) := by decide +kernel
theorem dX3_served_34 : decode cX3_served 34 = .ok (.ireturn, 1) := by decide +kernel
theorem ggX3_firstWay_X3_mayFollow : GoodIn wsX3_firstWay wsX3_mayFollow := gW_in gwX3_mayFollow (fun _ h => List.mem_cons_of_mem _ (List.mem_append_right _ (List.mem_append_right _ (List.mem_append_left _ h))))
set_option maxRecDepth 20000 in
theorem gX3_firstWay_X3_mayFollow : GoodIn wsX3_firstWay (va_wsS RX3 26 yX3_mayFollow wsX3_mayFollow) := goodIn_app (goodIn_of _ (by decide +kernel)) ggX3_firstWay_X3_mayFollow
theorem ggX3_firstWay_X3_through : GoodIn wsX3_firstWay wsX3_through := gW_in gwX3_through (fun _ h => List.mem_cons_of_mem _ (List.mem_append_right _ (List.mem_append_right _ (List.mem_append_right _ (h)))))
set_option maxRecDepth 20000 in
theorem gX3_firstWay_X3_through : GoodIn wsX3_firstWay (wsV RX3 30 RX3 yX3_through wsX3_through) := goodIn_app (goodIn_of _ (by decide +kernel)) ggX3_firstWay_X3_through
theorem dX3_firstWay_0 : decode cX3_firstWay 0 = .ok (.iconst 0, 1) := by decide +kernel
theorem dX3_firstWay_1 : decode cX3_firstWay 1 = .ok (.istore_n 3, 1) := by decide +kernel
theorem dX3_firstWay_2 : decode cX3_firstWay 2 = .ok (.iload_n 3, 1) := by decide +kernel
theorem dX3_firstWay_3 : decode cX3_firstWay 3 = .ok (.iconst 3, 1) := by decide +kernel
theorem dX3_firstWay_4 : decode cX3_firstWay 4 = .ok (.if_icmp .ge 38, 3) := by decide +kernel
theorem dX3_firstWay_7 : decode cX3_firstWay 7 = .ok (.iload_n 2, 1) := by decide +kernel
theorem dX3_firstWay_8 : decode cX3_firstWay 8 = .ok (.iload_n 3, 1) := by decide +kernel
theorem dX3_firstWay_9 : decode cX3_firstWay 9 = .ok (.invokestatic 26, 3) := by decide +kernel
theorem dX3_firstWay_12 : decode cX3_firstWay 12 = .ok (.ifCond .eq 24, 3) := by decide +kernel
theorem dX3_firstWay_15 : decode cX3_firstWay 15 = .ok (.aload_n 0, 1) := by decide +kernel
theorem dX3_firstWay_16 : decode cX3_firstWay 16 = .ok (.iload_n 1, 1) := by decide +kernel
theorem dX3_firstWay_17 : decode cX3_firstWay 17 = .ok (.iload_n 3, 1) := by decide +kernel
theorem dX3_firstWay_18 : decode cX3_firstWay 18 = .ok (.invokevirtual 30, 3) := by decide +kernel
theorem dX3_firstWay_21 : decode cX3_firstWay 21 = .ok (.aload_n 0, 1) := by decide +kernel
theorem dX3_firstWay_22 : decode cX3_firstWay 22 = .ok (.getfield 13, 3) := by decide +kernel
theorem dX3_firstWay_25 : decode cX3_firstWay 25 = .ok (.iload_n 1, 1) := by decide +kernel
theorem dX3_firstWay_26 : decode cX3_firstWay 26 = .ok (.iconst 3, 1) := by decide +kernel
theorem dX3_firstWay_27 : decode cX3_firstWay 27 = .ok (.imul, 1) := by decide +kernel
theorem dX3_firstWay_28 : decode cX3_firstWay 28 = .ok (.iload_n 2, 1) := by decide +kernel
theorem dX3_firstWay_29 : decode cX3_firstWay 29 = .ok (.iadd, 1) := by decide +kernel
theorem dX3_firstWay_30 : decode cX3_firstWay 30 = .ok (.iaload, 1) := by decide +kernel
theorem dX3_firstWay_31 : decode cX3_firstWay 31 = .ok (.if_icmp .ne 5, 3) := by decide +kernel
theorem dX3_firstWay_34 : decode cX3_firstWay 34 = .ok (.iload_n 3, 1) := by decide +kernel
theorem dX3_firstWay_35 : decode cX3_firstWay 35 = .ok (.ireturn, 1) := by decide +kernel
theorem dX3_firstWay_36 : decode cX3_firstWay 36 = .ok (.iinc 3 1, 3) := by decide +kernel
theorem dX3_firstWay_39 : decode cX3_firstWay 39 = .ok (.goto (-37), 3) := by decide +kernel
theorem dX3_firstWay_42 : decode cX3_firstWay 42 = .ok (.iconst 0, 1) := by decide +kernel
theorem dX3_firstWay_43 : decode cX3_firstWay 43 = .ok (.ireturn, 1) := by decide +kernel
theorem dX3_take_0 : decode cX3_take 0 = .ok (.aload_n 1, 1) := by decide +kernel
theorem dX3_take_1 : decode cX3_take 1 = .ok (.getfield 9, 3) := by decide +kernel
theorem dX3_take_4 : decode cX3_take 4 = .ok (.iconst 0, 1) := by decide +kernel
theorem dX3_take_5 : decode cX3_take 5 = .ok (.aload_n 0, 1) := by decide +kernel
theorem dX3_take_6 : decode cX3_take 6 = .ok (.getfield 9, 3) := by decide +kernel
theorem dX3_take_9 : decode cX3_take 9 = .ok (.iconst 0, 1) := by decide +kernel
theorem dX3_take_10 : decode cX3_take 10 = .ok (.aload_n 0, 1) := by decide +kernel
theorem dX3_take_11 : decode cX3_take 11 = .ok (.getfield 9, 3) := by decide +kernel
theorem dX3_take_14 : decode cX3_take 14 = .ok (.arraylength, 1) := by decide +kernel
theorem dX3_take_15 : decode cX3_take 15 = .ok (.invokestatic 45, 3) := by decide +kernel
theorem dX3_take_18 : decode cX3_take 18 = .ok (.return_, 1) := by decide +kernel
theorem dX4_init_0 : decode cX4_init 0 = .ok (.aload_n 0, 1) := by decide +kernel
theorem dX4_init_1 : decode cX4_init 1 = .ok (.invokespecial 3, 3) := by decide +kernel
theorem dX4_init_4 : decode cX4_init 4 = .ok (.aload_n 0, 1) := by decide +kernel
theorem dX4_init_5 : decode cX4_init 5 = .ok (.bipush 24, 2) := by decide +kernel
theorem dX4_init_7 : decode cX4_init 7 = .ok (.newarray .int, 2) := by decide +kernel
theorem dX4_init_9 : decode cX4_init 9 = .ok (.putfield 9, 3) := by decide +kernel
theorem dX4_init_12 : decode cX4_init 12 = .ok (.aload_n 0, 1) := by decide +kernel
theorem dX4_init_13 : decode cX4_init 13 = .ok (.bipush 6, 2) := by decide +kernel
theorem dX4_init_15 : decode cX4_init 15 = .ok (.newarray .int, 2) := by decide +kernel
theorem dX4_init_17 : decode cX4_init 17 = .ok (.putfield 15, 3) := by decide +kernel
theorem dX4_init_20 : decode cX4_init 20 = .ok (.return_, 1) := by decide +kernel
theorem ggX4_begin_J7_fill_53178 : GoodIn wsX4_begin wsJ7_fill_53178 := gW_in gwJ7_fill_53178 (fun _ h => List.mem_cons_of_mem _ (List.mem_append_right _ (List.mem_append_right _ (List.mem_append_right _ (h)))))
set_option maxRecDepth 20000 in
theorem gX4_begin_J7_fill_53178 : GoodIn wsX4_begin (va_wsS RX4 22 yJ7_fill_53178 wsJ7_fill_53178) := goodIn_app (goodIn_of _ (by decide +kernel)) ggX4_begin_J7_fill_53178
theorem dX4_begin_0 : decode cX4_begin 0 = .ok (.aload_n 0, 1) := by decide +kernel
theorem dX4_begin_1 : decode cX4_begin 1 = .ok (.iconst 0, 1) := by decide +kernel
theorem dX4_begin_2 : decode cX4_begin 2 = .ok (.putfield 18, 3) := by decide +kernel
theorem dX4_begin_5 : decode cX4_begin 5 = .ok (.aload_n 0, 1) := by decide +kernel
theorem dX4_begin_6 : decode cX4_begin 6 = .ok (.getfield 9, 3) := by decide +kernel
theorem dX4_begin_9 : decode cX4_begin 9 = .ok (.iconst 0, 1) := by decide +kernel
theorem dX4_begin_10 : decode cX4_begin 10 = .ok (.invokestatic 22, 3) := by decide +kernel
theorem dX4_begin_13 : decode cX4_begin 13 = .ok (.aload_n 0, 1) := by decide +kernel
theorem dX4_begin_14 : decode cX4_begin 14 = .ok (.getfield 9, 3) := by decide +kernel
theorem dX4_begin_17 : decode cX4_begin 17 = .ok (.iconst 0, 1) := by decide +kernel
theorem dX4_begin_18 : decode cX4_begin 18 = .ok (.aload_n 1, 1) := by decide +kernel
theorem dX4_begin_19 : decode cX4_begin 19 = .ok (.getfield 28, 3) := by decide +kernel
theorem dX4_begin_22 : decode cX4_begin 22 = .ok (.iconst 3, 1) := by decide +kernel
theorem dX4_begin_23 : decode cX4_begin 23 = .ok (.iaload, 1) := by decide +kernel
theorem dX4_begin_24 : decode cX4_begin 24 = .ok (.iastore, 1) := by decide +kernel
theorem dX4_begin_25 : decode cX4_begin 25 = .ok (.aload_n 0, 1) := by decide +kernel
theorem dX4_begin_26 : decode cX4_begin 26 = .ok (.getfield 9, 3) := by decide +kernel
theorem dX4_begin_29 : decode cX4_begin 29 = .ok (.iconst 3, 1) := by decide +kernel
theorem dX4_begin_30 : decode cX4_begin 30 = .ok (.aload_n 1, 1) := by decide +kernel
theorem dX4_begin_31 : decode cX4_begin 31 = .ok (.getfield 28, 3) := by decide +kernel
theorem dX4_begin_34 : decode cX4_begin 34 = .ok (.iconst 4, 1) := by decide +kernel
theorem dX4_begin_35 : decode cX4_begin 35 = .ok (.iaload, 1) := by decide +kernel
theorem dX4_begin_36 : decode cX4_begin 36 = .ok (.iastore, 1) := by decide +kernel
theorem dX4_begin_37 : decode cX4_begin 37 = .ok (.aload_n 0, 1) := by decide +kernel
theorem dX4_begin_38 : decode cX4_begin 38 = .ok (.getfield 9, 3) := by decide +kernel
theorem dX4_begin_41 : decode cX4_begin 41 = .ok (.iconst 1, 1) := by decide +kernel
theorem dX4_begin_42 : decode cX4_begin 42 = .ok (.aload_n 1, 1) := by decide +kernel
theorem dX4_begin_43 : decode cX4_begin 43 = .ok (.getfield 28, 3) := by decide +kernel
theorem dX4_begin_46 : decode cX4_begin 46 = .ok (.bipush 6, 2) := by decide +kernel
theorem dX4_begin_48 : decode cX4_begin 48 = .ok (.iaload, 1) := by decide +kernel
theorem dX4_begin_49 : decode cX4_begin 49 = .ok (.iastore, 1) := by decide +kernel
theorem dX4_begin_50 : decode cX4_begin 50 = .ok (.aload_n 0, 1) := by decide +kernel
theorem dX4_begin_51 : decode cX4_begin 51 = .ok (.getfield 9, 3) := by decide +kernel
theorem dX4_begin_54 : decode cX4_begin 54 = .ok (.iconst 4, 1) := by decide +kernel
theorem dX4_begin_55 : decode cX4_begin 55 = .ok (.aload_n 1, 1) := by decide +kernel
theorem dX4_begin_56 : decode cX4_begin 56 = .ok (.getfield 28, 3) := by decide +kernel
theorem dX4_begin_59 : decode cX4_begin 59 = .ok (.bipush 7, 2) := by decide +kernel
theorem dX4_begin_61 : decode cX4_begin 61 = .ok (.iaload, 1) := by decide +kernel
theorem dX4_begin_62 : decode cX4_begin 62 = .ok (.iastore, 1) := by decide +kernel
theorem dX4_begin_63 : decode cX4_begin 63 = .ok (.aload_n 0, 1) := by decide +kernel
theorem dX4_begin_64 : decode cX4_begin 64 = .ok (.getfield 9, 3) := by decide +kernel
theorem dX4_begin_67 : decode cX4_begin 67 = .ok (.iconst 2, 1) := by decide +kernel
theorem dX4_begin_68 : decode cX4_begin 68 = .ok (.aload_n 1, 1) := by decide +kernel
theorem dX4_begin_69 : decode cX4_begin 69 = .ok (.getfield 28, 3) := by decide +kernel
theorem dX4_begin_72 : decode cX4_begin 72 = .ok (.bipush 9, 2) := by decide +kernel
theorem dX4_begin_74 : decode cX4_begin 74 = .ok (.iaload, 1) := by decide +kernel
theorem dX4_begin_75 : decode cX4_begin 75 = .ok (.iastore, 1) := by decide +kernel
theorem dX4_begin_76 : decode cX4_begin 76 = .ok (.aload_n 0, 1) := by decide +kernel
theorem dX4_begin_77 : decode cX4_begin 77 = .ok (.getfield 9, 3) := by decide +kernel
theorem dX4_begin_80 : decode cX4_begin 80 = .ok (.iconst 5, 1) := by decide +kernel
theorem dX4_begin_81 : decode cX4_begin 81 = .ok (.aload_n 1, 1) := by decide +kernel
theorem dX4_begin_82 : decode cX4_begin 82 = .ok (.getfield 28, 3) := by decide +kernel
theorem dX4_begin_85 : decode cX4_begin 85 = .ok (.bipush 12, 2) := by decide +kernel
theorem dX4_begin_87 : decode cX4_begin 87 = .ok (.iaload, 1) := by decide +kernel
theorem dX4_begin_88 : decode cX4_begin 88 = .ok (.iastore, 1) := by decide +kernel
theorem dX4_begin_89 : decode cX4_begin 89 = .ok (.aload_n 0, 1) := by decide +kernel
theorem dX4_begin_90 : decode cX4_begin 90 = .ok (.getfield 9, 3) := by decide +kernel
theorem dX4_begin_93 : decode cX4_begin 93 = .ok (.bipush 10, 2) := by decide +kernel
theorem dX4_begin_95 : decode cX4_begin 95 = .ok (.iconst (-1), 1) := by decide +kernel
theorem dX4_begin_96 : decode cX4_begin 96 = .ok (.iastore, 1) := by decide +kernel
theorem dX4_begin_97 : decode cX4_begin 97 = .ok (.iconst 0, 1) := by decide +kernel
theorem dX4_begin_98 : decode cX4_begin 98 = .ok (.istore_n 2, 1) := by decide +kernel
theorem dX4_begin_99 : decode cX4_begin 99 = .ok (.iload_n 2, 1) := by decide +kernel
theorem dX4_begin_100 : decode cX4_begin 100 = .ok (.aload_n 1, 1) := by decide +kernel
theorem dX4_begin_101 : decode cX4_begin 101 = .ok (.getfield 33, 3) := by decide +kernel
theorem dX4_begin_104 : decode cX4_begin 104 = .ok (.if_icmp .ge 24, 3) := by decide +kernel
theorem dX4_begin_107 : decode cX4_begin 107 = .ok (.aload_n 0, 1) := by decide +kernel
theorem dX4_begin_108 : decode cX4_begin 108 = .ok (.getfield 9, 3) := by decide +kernel
theorem dX4_begin_111 : decode cX4_begin 111 = .ok (.bipush 12, 2) := by decide +kernel
theorem dX4_begin_113 : decode cX4_begin 113 = .ok (.iload_n 2, 1) := by decide +kernel
theorem dX4_begin_114 : decode cX4_begin 114 = .ok (.iadd, 1) := by decide +kernel
theorem dX4_begin_115 : decode cX4_begin 115 = .ok (.aload_n 1, 1) := by decide +kernel
theorem dX4_begin_116 : decode cX4_begin 116 = .ok (.getfield 36, 3) := by decide +kernel
theorem dX4_begin_119 : decode cX4_begin 119 = .ok (.iload_n 2, 1) := by decide +kernel
theorem dX4_begin_120 : decode cX4_begin 120 = .ok (.iaload, 1) := by decide +kernel
theorem dX4_begin_121 : decode cX4_begin 121 = .ok (.iastore, 1) := by decide +kernel
theorem dX4_begin_122 : decode cX4_begin 122 = .ok (.iinc 2 1, 3) := by decide +kernel
theorem dX4_begin_125 : decode cX4_begin 125 = .ok (.goto (-26), 3) := by decide +kernel
theorem dX4_begin_128 : decode cX4_begin 128 = .ok (.return_, 1) := by decide +kernel
theorem dX4_take_0 : decode cX4_take 0 = .ok (.aload_n 1, 1) := by decide +kernel
theorem dX4_take_1 : decode cX4_take 1 = .ok (.getfield 9, 3) := by decide +kernel
theorem dX4_take_4 : decode cX4_take 4 = .ok (.iconst 0, 1) := by decide +kernel
theorem dX4_take_5 : decode cX4_take 5 = .ok (.aload_n 0, 1) := by decide +kernel
theorem dX4_take_6 : decode cX4_take 6 = .ok (.getfield 9, 3) := by decide +kernel
theorem dX4_take_9 : decode cX4_take 9 = .ok (.iconst 0, 1) := by decide +kernel
theorem dX4_take_10 : decode cX4_take 10 = .ok (.bipush 24, 2) := by decide +kernel
theorem dX4_take_12 : decode cX4_take 12 = .ok (.invokestatic 39, 3) := by decide +kernel
theorem dX4_take_15 : decode cX4_take 15 = .ok (.aload_n 0, 1) := by decide +kernel
theorem dX4_take_16 : decode cX4_take 16 = .ok (.aload_n 1, 1) := by decide +kernel
theorem dX4_take_17 : decode cX4_take 17 = .ok (.getfield 18, 3) := by decide +kernel
theorem dX4_take_20 : decode cX4_take 20 = .ok (.putfield 18, 3) := by decide +kernel
theorem dX4_take_23 : decode cX4_take 23 = .ok (.return_, 1) := by decide +kernel
theorem dX4_pledge_0 : decode cX4_pledge 0 = .ok (.aload_n 0, 1) := by decide +kernel
theorem dX4_pledge_1 : decode cX4_pledge 1 = .ok (.getfield 9, 3) := by decide +kernel
theorem dX4_pledge_4 : decode cX4_pledge 4 = .ok (.bipush 10, 2) := by decide +kernel
theorem dX4_pledge_6 : decode cX4_pledge 6 = .ok (.iload_n 1, 1) := by decide +kernel
theorem dX4_pledge_7 : decode cX4_pledge 7 = .ok (.iastore, 1) := by decide +kernel
theorem dX4_pledge_8 : decode cX4_pledge 8 = .ok (.aload_n 0, 1) := by decide +kernel
theorem dX4_pledge_9 : decode cX4_pledge 9 = .ok (.getfield 9, 3) := by decide +kernel
theorem dX4_pledge_12 : decode cX4_pledge 12 = .ok (.bipush 11, 2) := by decide +kernel
theorem dX4_pledge_14 : decode cX4_pledge 14 = .ok (.aload_n 0, 1) := by decide +kernel
theorem dX4_pledge_15 : decode cX4_pledge 15 = .ok (.getfield 18, 3) := by decide +kernel
theorem dX4_pledge_18 : decode cX4_pledge 18 = .ok (.iastore, 1) := by decide +kernel
theorem dX4_pledge_19 : decode cX4_pledge 19 = .ok (.return_, 1) := by decide +kernel
theorem ggX4_pass_J7_fill_53178 : GoodIn wsX4_pass wsJ7_fill_53178 := gW_in gwJ7_fill_53178 (fun _ h => List.mem_cons_of_mem _ (List.mem_append_right _ (List.mem_append_right _ (List.mem_append_right _ (List.mem_append_right _ (List.mem_append_left _ h))))))
set_option maxRecDepth 20000 in
theorem gX4_pass_J7_fill_53178 : GoodIn wsX4_pass (va_wsS RX4 22 yJ7_fill_53178 wsJ7_fill_53178) := goodIn_app (goodIn_of _ (by decide +kernel)) ggX4_pass_J7_fill_53178
theorem ggX4_pass_X4_move : GoodIn wsX4_pass wsX4_move := gW_in gwX4_move (fun _ h => List.mem_cons_of_mem _ (List.mem_append_right _ (List.mem_append_right _ (List.mem_append_right _ (List.mem_append_right _ (List.mem_append_right _ (List.mem_append_left _ h)))))))
set_option maxRecDepth 20000 in
theorem gX4_pass_X4_move : GoodIn wsX4_pass (wsV RX4 45 RX4 yX4_move wsX4_move) := goodIn_app (goodIn_of _ (by decide +kernel)) ggX4_pass_X4_move
theorem ggX4_pass_X4_isPaid : GoodIn wsX4_pass wsX4_isPaid := gW_in gwX4_isPaid (fun _ h => List.mem_cons_of_mem _ (List.mem_append_right _ (List.mem_append_right _ (List.mem_append_right _ (List.mem_append_right _ (List.mem_append_right _ (List.mem_append_right _ (List.mem_append_left _ h))))))))
set_option maxRecDepth 20000 in
theorem gX4_pass_X4_isPaid : GoodIn wsX4_pass (wsV RX4 49 RX4 yX4_isPaid wsX4_isPaid) := goodIn_app (goodIn_of _ (by decide +kernel)) ggX4_pass_X4_isPaid
theorem ggX4_pass_X4_shoot : GoodIn wsX4_pass wsX4_shoot := gW_in gwX4_shoot (fun _ h => List.mem_cons_of_mem _ (List.mem_append_right _ (List.mem_append_right _ (List.mem_append_right _ (List.mem_append_right _ (List.mem_append_right _ (List.mem_append_right _ (List.mem_append_right _ (List.mem_append_left _ h)))))))))
set_option maxRecDepth 20000 in
theorem gX4_pass_X4_shoot : GoodIn wsX4_pass (wsV RX4 53 RX4 yX4_shoot wsX4_shoot) := goodIn_app (goodIn_of _ (by decide +kernel)) ggX4_pass_X4_shoot
theorem ggX4_pass_X6_fearAt : GoodIn wsX4_pass wsX6_fearAt := gW_in gwX6_fearAt (fun _ h => List.mem_cons_of_mem _ (List.mem_append_right _ (List.mem_append_right _ (List.mem_append_right _ (List.mem_append_right _ (List.mem_append_right _ (List.mem_append_right _ (List.mem_append_right _ (List.mem_append_right _ (List.mem_append_left _ h))))))))))
set_option maxRecDepth 20000 in
theorem gX4_pass_X6_fearAt : GoodIn wsX4_pass (wsV RX4 60 RX6 yX6_fearAt wsX6_fearAt) := goodIn_app (goodIn_of _ (by decide +kernel)) ggX4_pass_X6_fearAt
theorem ggX4_pass_X4_frighten : GoodIn wsX4_pass wsX4_frighten := gW_in gwX4_frighten (fun _ h => List.mem_cons_of_mem _ (List.mem_append_right _ (List.mem_append_right _ (List.mem_append_right _ (List.mem_append_right _ (List.mem_append_right _ (List.mem_append_right _ (List.mem_append_right _ (List.mem_append_right _ (List.mem_append_right _ (List.mem_append_left _ h)))))))))))
set_option maxRecDepth 20000 in
theorem gX4_pass_X4_frighten : GoodIn wsX4_pass (wsV RX4 64 RX4 yX4_frighten wsX4_frighten) := goodIn_app (goodIn_of _ (by decide +kernel)) ggX4_pass_X4_frighten
theorem ggX4_pass_X4_mend : GoodIn wsX4_pass wsX4_mend := gW_in gwX4_mend (fun _ h => List.mem_cons_of_mem _ (List.mem_append_right _ (List.mem_append_right _ (List.mem_append_right _ (List.mem_append_right _ (List.mem_append_right _ (List.mem_append_right _ (List.mem_append_right _ (List.mem_append_right _ (List.mem_append_right _ (List.mem_append_right _ (List.mem_append_left _ h))))))))))))
set_option maxRecDepth 20000 in
theorem gX4_pass_X4_mend : GoodIn wsX4_pass (wsV RX4 74 RX4 yX4_mend wsX4_mend) := goodIn_app (goodIn_of _ (by decide +kernel)) ggX4_pass_X4_mend
theorem ggX4_pass_X4_desert : GoodIn wsX4_pass wsX4_desert := gW_in gwX4_desert (fun _ h => List.mem_cons_of_mem _ (List.mem_append_right _ (List.mem_append_right _ (List.mem_append_right _ (List.mem_append_right _ (List.mem_append_right _ (List.mem_append_right _ (List.mem_append_right _ (List.mem_append_right _ (List.mem_append_right _ (List.mem_append_right _ (List.mem_append_right _ (h)))))))))))))
set_option maxRecDepth 20000 in
theorem gX4_pass_X4_desert : GoodIn wsX4_pass (wsV RX4 78 RX4 yX4_desert wsX4_desert) := goodIn_app (goodIn_of _ (by decide +kernel)) ggX4_pass_X4_desert
theorem dX4_pass_0 : decode cX4_pass 0 = .ok (.aload_n 0, 1) := by decide +kernel
theorem dX4_pass_1 : decode cX4_pass 1 = .ok (.getfield 15, 3) := by decide +kernel
theorem dX4_pass_4 : decode cX4_pass 4 = .ok (.iconst 0, 1) := by decide +kernel
theorem dX4_pass_5 : decode cX4_pass 5 = .ok (.invokestatic 22, 3) := by decide +kernel
theorem dX4_pass_8 : decode cX4_pass 8 = .ok (.aload_n 0, 1) := by decide +kernel
theorem dX4_pass_9 : decode cX4_pass 9 = .ok (.iconst 2, 1) := by decide +kernel
theorem dX4_pass_10 : decode cX4_pass 10 = .ok (.iconst 0, 1) := by decide +kernel
theorem dX4_pass_11 : decode cX4_pass 11 = .ok (.aload_n 0, 1) := by decide +kernel
theorem dX4_pass_12 : decode cX4_pass 12 = .ok (.getfield 9, 3) := by decide +kernel
theorem dX4_pass_15 : decode cX4_pass 15 = .ok (.iconst 3, 1) := by decide +kernel
theorem dX4_pass_16 : decode cX4_pass 16 = .ok (.iaload, 1) := by decide +kernel
theorem dX4_pass_17 : decode cX4_pass 17 = .ok (.aload_n 1, 1) := by decide +kernel
theorem dX4_pass_18 : decode cX4_pass 18 = .ok (.getfield 28, 3) := by decide +kernel
theorem dX4_pass_21 : decode cX4_pass 21 = .ok (.bipush 10, 2) := by decide +kernel
theorem dX4_pass_23 : decode cX4_pass 23 = .ok (.iaload, 1) := by decide +kernel
theorem dX4_pass_24 : decode cX4_pass 24 = .ok (.imul, 1) := by decide +kernel
theorem dX4_pass_25 : decode cX4_pass 25 = .ok (.aload_n 0, 1) := by decide +kernel
theorem dX4_pass_26 : decode cX4_pass 26 = .ok (.getfield 9, 3) := by decide +kernel
theorem dX4_pass_29 : decode cX4_pass 29 = .ok (.iconst 5, 1) := by decide +kernel
theorem dX4_pass_30 : decode cX4_pass 30 = .ok (.iaload, 1) := by decide +kernel
theorem dX4_pass_31 : decode cX4_pass 31 = .ok (.imul, 1) := by decide +kernel
theorem dX4_pass_32 : decode cX4_pass 32 = .ok (.sipush 10000, 3) := by decide +kernel
theorem dX4_pass_35 : decode cX4_pass 35 = .ok (.idiv, 1) := by decide +kernel
theorem dX4_pass_36 : decode cX4_pass 36 = .ok (.invokevirtual 45, 3) := by decide +kernel
theorem dX4_pass_39 : decode cX4_pass 39 = .ok (.aload_n 2, 1) := by decide +kernel
theorem dX4_pass_40 : decode cX4_pass 40 = .ok (.ifnull 31, 3) := by decide +kernel
theorem dX4_pass_43 : decode cX4_pass 43 = .ok (.aload_n 0, 1) := by decide +kernel
theorem dX4_pass_44 : decode cX4_pass 44 = .ok (.aload_n 2, 1) := by decide +kernel
theorem dX4_pass_45 : decode cX4_pass 45 = .ok (.invokevirtual 49, 3) := by decide +kernel
theorem dX4_pass_48 : decode cX4_pass 48 = .ok (.ifCond .eq 23, 3) := by decide +kernel
theorem dX4_pass_51 : decode cX4_pass 51 = .ok (.aload_n 0, 1) := by decide +kernel
theorem dX4_pass_52 : decode cX4_pass 52 = .ok (.aload_n 1, 1) := by decide +kernel
theorem dX4_pass_53 : decode cX4_pass 53 = .ok (.aload_n 2, 1) := by decide +kernel
theorem dX4_pass_54 : decode cX4_pass 54 = .ok (.invokevirtual 53, 3) := by decide +kernel
theorem dX4_pass_57 : decode cX4_pass 57 = .ok (.aload_n 0, 1) := by decide +kernel
theorem dX4_pass_58 : decode cX4_pass 58 = .ok (.aload_n 1, 1) := by decide +kernel
theorem dX4_pass_59 : decode cX4_pass 59 = .ok (.aload_n 2, 1) := by decide +kernel
theorem dX4_pass_60 : decode cX4_pass 60 = .ok (.getfield 57, 3) := by decide +kernel
theorem dX4_pass_63 : decode cX4_pass 63 = .ok (.iconst 2, 1) := by decide +kernel
theorem dX4_pass_64 : decode cX4_pass 64 = .ok (.iaload, 1) := by decide +kernel
theorem dX4_pass_65 : decode cX4_pass 65 = .ok (.invokevirtual 60, 3) := by decide +kernel
theorem dX4_pass_68 : decode cX4_pass 68 = .ok (.invokevirtual 64, 3) := by decide +kernel
theorem dX4_pass_71 : decode cX4_pass 71 = .ok (.aload_n 0, 1) := by decide +kernel
theorem dX4_pass_72 : decode cX4_pass 72 = .ok (.getfield 9, 3) := by decide +kernel
theorem dX4_pass_75 : decode cX4_pass 75 = .ok (.iconst 5, 1) := by decide +kernel
theorem dX4_pass_76 : decode cX4_pass 76 = .ok (.iconst 0, 1) := by decide +kernel
theorem dX4_pass_77 : decode cX4_pass 77 = .ok (.aload_n 0, 1) := by decide +kernel
theorem dX4_pass_78 : decode cX4_pass 78 = .ok (.getfield 9, 3) := by decide +kernel
theorem dX4_pass_81 : decode cX4_pass 81 = .ok (.iconst 5, 1) := by decide +kernel
theorem dX4_pass_82 : decode cX4_pass 82 = .ok (.iaload, 1) := by decide +kernel
theorem dX4_pass_83 : decode cX4_pass 83 = .ok (.aload_n 1, 1) := by decide +kernel
theorem dX4_pass_84 : decode cX4_pass 84 = .ok (.getfield 28, 3) := by decide +kernel
theorem dX4_pass_87 : decode cX4_pass 87 = .ok (.bipush 14, 2) := by decide +kernel
theorem dX4_pass_89 : decode cX4_pass 89 = .ok (.iaload, 1) := by decide +kernel
theorem dX4_pass_90 : decode cX4_pass 90 = .ok (.isub, 1) := by decide +kernel
theorem dX4_pass_91 : decode cX4_pass 91 = .ok (.invokestatic 68, 3) := by decide +kernel
theorem dX4_pass_94 : decode cX4_pass 94 = .ok (.iastore, 1) := by decide +kernel
theorem dX4_pass_95 : decode cX4_pass 95 = .ok (.aload_n 0, 1) := by decide +kernel
theorem dX4_pass_96 : decode cX4_pass 96 = .ok (.aload_n 1, 1) := by decide +kernel
theorem dX4_pass_97 : decode cX4_pass 97 = .ok (.invokevirtual 74, 3) := by decide +kernel
theorem dX4_pass_100 : decode cX4_pass 100 = .ok (.aload_n 0, 1) := by decide +kernel
theorem dX4_pass_101 : decode cX4_pass 101 = .ok (.iconst 0, 1) := by decide +kernel
theorem dX4_pass_102 : decode cX4_pass 102 = .ok (.iconst 2, 1) := by decide +kernel
theorem dX4_pass_103 : decode cX4_pass 103 = .ok (.aload_n 1, 1) := by decide +kernel
theorem dX4_pass_104 : decode cX4_pass 104 = .ok (.getfield 28, 3) := by decide +kernel
theorem dX4_pass_107 : decode cX4_pass 107 = .ok (.iconst 5, 1) := by decide +kernel
theorem dX4_pass_108 : decode cX4_pass 108 = .ok (.iaload, 1) := by decide +kernel
theorem dX4_pass_109 : decode cX4_pass 109 = .ok (.aload_n 0, 1) := by decide +kernel
theorem dX4_pass_110 : decode cX4_pass 110 = .ok (.getfield 9, 3) := by decide +kernel
theorem dX4_pass_113 : decode cX4_pass 113 = .ok (.iconst 3, 1) := by decide +kernel
theorem dX4_pass_114 : decode cX4_pass 114 = .ok (.iaload, 1) := by decide +kernel
theorem dX4_pass_115 : decode cX4_pass 115 = .ok (.bipush 10, 2) := by decide +kernel
theorem dX4_pass_117 : decode cX4_pass 117 = .ok (.idiv, 1) := by decide +kernel
theorem dX4_pass_118 : decode cX4_pass 118 = .ok (.imul, 1) := by decide +kernel
theorem dX4_pass_119 : decode cX4_pass 119 = .ok (.invokevirtual 45, 3) := by decide +kernel
theorem dX4_pass_122 : decode cX4_pass 122 = .ok (.aload_n 0, 1) := by decide +kernel
theorem dX4_pass_123 : decode cX4_pass 123 = .ok (.iconst 1, 1) := by decide +kernel
theorem dX4_pass_124 : decode cX4_pass 124 = .ok (.iconst 2, 1) := by decide +kernel
theorem dX4_pass_125 : decode cX4_pass 125 = .ok (.aload_n 1, 1) := by decide +kernel
theorem dX4_pass_126 : decode cX4_pass 126 = .ok (.getfield 28, 3) := by decide +kernel
theorem dX4_pass_129 : decode cX4_pass 129 = .ok (.bipush 8, 2) := by decide +kernel
theorem dX4_pass_131 : decode cX4_pass 131 = .ok (.iaload, 1) := by decide +kernel
theorem dX4_pass_132 : decode cX4_pass 132 = .ok (.aload_n 0, 1) := by decide +kernel
theorem dX4_pass_133 : decode cX4_pass 133 = .ok (.getfield 9, 3) := by decide +kernel
theorem dX4_pass_136 : decode cX4_pass 136 = .ok (.iconst 4, 1) := by decide +kernel
theorem dX4_pass_137 : decode cX4_pass 137 = .ok (.iaload, 1) := by decide +kernel
theorem dX4_pass_138 : decode cX4_pass 138 = .ok (.bipush 10, 2) := by decide +kernel
theorem dX4_pass_140 : decode cX4_pass 140 = .ok (.idiv, 1) := by decide +kernel
theorem dX4_pass_141 : decode cX4_pass 141 = .ok (.imul, 1) := by decide +kernel
theorem dX4_pass_142 : decode cX4_pass 142 = .ok (.invokevirtual 45, 3) := by decide +kernel
theorem dX4_pass_145 : decode cX4_pass 145 = .ok (.aload_n 0, 1) := by decide +kernel
theorem dX4_pass_146 : decode cX4_pass 146 = .ok (.aload_n 1, 1) := by decide +kernel
theorem dX4_pass_147 : decode cX4_pass 147 = .ok (.getfield 28, 3) := by decide +kernel
theorem dX4_pass_150 : decode cX4_pass 150 = .ok (.bipush 8, 2) := by decide +kernel
theorem dX4_pass_152 : decode cX4_pass 152 = .ok (.iaload, 1) := by decide +kernel
theorem dX4_pass_153 : decode cX4_pass 153 = .ok (.aload_n 1, 1) := by decide +kernel
theorem dX4_pass_154 : decode cX4_pass 154 = .ok (.getfield 28, 3) := by decide +kernel
theorem dX4_pass_157 : decode cX4_pass 157 = .ok (.iconst 5, 1) := by decide +kernel
theorem dX4_pass_158 : decode cX4_pass 158 = .ok (.iaload, 1) := by decide +kernel
theorem dX4_pass_159 : decode cX4_pass 159 = .ok (.isub, 1) := by decide +kernel
theorem dX4_pass_160 : decode cX4_pass 160 = .ok (.invokevirtual 78, 3) := by decide +kernel
theorem dX4_pass_163 : decode cX4_pass 163 = .ok (.aload_n 0, 1) := by decide +kernel
theorem dX4_pass_164 : decode cX4_pass 164 = .ok (.dup, 1) := by decide +kernel
theorem dX4_pass_165 : decode cX4_pass 165 = .ok (.getfield 18, 3) := by decide +kernel
theorem dX4_pass_168 : decode cX4_pass 168 = .ok (.iconst 1, 1) := by decide +kernel
theorem dX4_pass_169 : decode cX4_pass 169 = .ok (.iadd, 1) := by decide +kernel
theorem dX4_pass_170 : decode cX4_pass 170 = .ok (.putfield 18, 3) := by decide +kernel
theorem dX4_pass_173 : decode cX4_pass 173 = .ok (.aload_n 2, 1) := by decide +kernel
theorem dX4_pass_174 : decode cX4_pass 174 = .ok (.ifnull 32, 3) := by decide +kernel
theorem dX4_pass_177 : decode cX4_pass 177 = .ok (.aload_n 0, 1) := by decide +kernel
theorem dX4_pass_178 : decode cX4_pass 178 = .ok (.getfield 18, 3) := by decide +kernel
theorem dX4_pass_181 : decode cX4_pass 181 = .ok (.aload_n 0, 1) := by decide +kernel
theorem dX4_pass_182 : decode cX4_pass 182 = .ok (.getfield 9, 3) := by decide +kernel
theorem dX4_pass_185 : decode cX4_pass 185 = .ok (.bipush 11, 2) := by decide +kernel
theorem dX4_pass_187 : decode cX4_pass 187 = .ok (.iaload, 1) := by decide +kernel
theorem dX4_pass_188 : decode cX4_pass 188 = .ok (.isub, 1) := by decide +kernel
theorem dX4_pass_189 : decode cX4_pass 189 = .ok (.aload_n 2, 1) := by decide +kernel
theorem dX4_pass_190 : decode cX4_pass 190 = .ok (.getfield 57, 3) := by decide +kernel
theorem dX4_pass_193 : decode cX4_pass 193 = .ok (.iconst 5, 1) := by decide +kernel
theorem dX4_pass_194 : decode cX4_pass 194 = .ok (.iaload, 1) := by decide +kernel
theorem dX4_pass_195 : decode cX4_pass 195 = .ok (.if_icmp .lt 11, 3) := by decide +kernel
theorem dX4_pass_198 : decode cX4_pass 198 = .ok (.aload_n 0, 1) := by decide +kernel
theorem dX4_pass_199 : decode cX4_pass 199 = .ok (.getfield 9, 3) := by decide +kernel
theorem dX4_pass_202 : decode cX4_pass 202 = .ok (.bipush 10, 2) := by decide +kernel
theorem dX4_pass_204 : decode cX4_pass 204 = .ok (.iconst (-1), 1) := by decide +kernel
theorem dX4_pass_205 : decode cX4_pass 205 = .ok (.iastore, 1) := by decide +kernel
theorem dX4_pass_206 : decode cX4_pass 206 = .ok (.return_, 1) := by decide +kernel
theorem dX4_move_0 : decode cX4_move 0 = .ok (.iload_n 3, 1) := by decide +kernel
theorem dX4_move_1 : decode cX4_move 1 = .ok (.aload_n 0, 1) := by decide +kernel
theorem dX4_move_2 : decode cX4_move 2 = .ok (.getfield 9, 3) := by decide +kernel
theorem dX4_move_5 : decode cX4_move 5 = .ok (.iload_n 1, 1) := by decide +kernel
theorem dX4_move_6 : decode cX4_move 6 = .ok (.iaload, 1) := by decide +kernel
theorem dX4_move_7 : decode cX4_move 7 = .ok (.invokestatic 81, 3) := by decide +kernel
theorem dX4_move_10 : decode cX4_move 10 = .ok (.istore 4, 2) := by decide +kernel
theorem dX4_move_12 : decode cX4_move 12 = .ok (.aload_n 0, 1) := by decide +kernel
theorem dX4_move_13 : decode cX4_move 13 = .ok (.getfield 9, 3) := by decide +kernel
theorem dX4_move_16 : decode cX4_move 16 = .ok (.iload_n 1, 1) := by decide +kernel
theorem dX4_move_17 : decode cX4_move 17 = .ok (.dup2, 1) := by decide +kernel
theorem dX4_move_18 : decode cX4_move 18 = .ok (.iaload, 1) := by decide +kernel
theorem dX4_move_19 : decode cX4_move 19 = .ok (.iload 4, 2) := by decide +kernel
theorem dX4_move_21 : decode cX4_move 21 = .ok (.isub, 1) := by decide +kernel
theorem dX4_move_22 : decode cX4_move 22 = .ok (.iastore, 1) := by decide +kernel
theorem dX4_move_23 : decode cX4_move 23 = .ok (.aload_n 0, 1) := by decide +kernel
theorem dX4_move_24 : decode cX4_move 24 = .ok (.getfield 9, 3) := by decide +kernel
theorem dX4_move_27 : decode cX4_move 27 = .ok (.iload_n 2, 1) := by decide +kernel
theorem dX4_move_28 : decode cX4_move 28 = .ok (.dup2, 1) := by decide +kernel
theorem dX4_move_29 : decode cX4_move 29 = .ok (.iaload, 1) := by decide +kernel
theorem dX4_move_30 : decode cX4_move 30 = .ok (.iload 4, 2) := by decide +kernel
theorem dX4_move_32 : decode cX4_move 32 = .ok (.iadd, 1) := by decide +kernel
theorem dX4_move_33 : decode cX4_move 33 = .ok (.iastore, 1) := by decide +kernel
theorem dX4_move_34 : decode cX4_move 34 = .ok (.return_, 1) := by decide +kernel
theorem ggX4_isPaid_X5_payIn : GoodIn wsX4_isPaid wsX5_payIn := gW_in gwX5_payIn (fun _ h => List.mem_cons_of_mem _ (List.mem_append_right _ (List.mem_append_right _ (List.mem_append_right _ (List.mem_append_left _ h)))))
set_option maxRecDepth 20000 in
theorem gX4_isPaid_X5_payIn : GoodIn wsX4_isPaid (wsV RX4 84 RX5 yX5_payIn wsX5_payIn) := goodIn_app (goodIn_of _ (by decide +kernel)) ggX4_isPaid_X5_payIn
theorem ggX4_isPaid_X4_move : GoodIn wsX4_isPaid wsX4_move := gW_in gwX4_move (fun _ h => List.mem_cons_of_mem _ (List.mem_append_right _ (List.mem_append_right _ (List.mem_append_right _ (List.mem_append_right _ (h))))))
set_option maxRecDepth 20000 in
theorem gX4_isPaid_X4_move : GoodIn wsX4_isPaid (wsV RX4 45 RX4 yX4_move wsX4_move) := goodIn_app (goodIn_of _ (by decide +kernel)) ggX4_isPaid_X4_move
theorem dX4_isPaid_0 : decode cX4_isPaid 0 = .ok (.aload_n 1, 1) := by decide +kernel
theorem dX4_isPaid_1 : decode cX4_isPaid 1 = .ok (.aload_n 0, 1) := by decide +kernel
theorem dX4_isPaid_2 : decode cX4_isPaid 2 = .ok (.getfield 18, 3) := by decide +kernel
theorem dX4_isPaid_5 : decode cX4_isPaid 5 = .ok (.invokevirtual 84, 3) := by decide +kernel
theorem dX4_isPaid_8 : decode cX4_isPaid 8 = .ok (.istore_n 2, 1) := by decide +kernel
theorem dX4_isPaid_9 : decode cX4_isPaid 9 = .ok (.aload_n 0, 1) := by decide +kernel
theorem dX4_isPaid_10 : decode cX4_isPaid 10 = .ok (.getfield 9, 3) := by decide +kernel
theorem dX4_isPaid_13 : decode cX4_isPaid 13 = .ok (.iconst 0, 1) := by decide +kernel
theorem dX4_isPaid_14 : decode cX4_isPaid 14 = .ok (.iaload, 1) := by decide +kernel
theorem dX4_isPaid_15 : decode cX4_isPaid 15 = .ok (.iload_n 2, 1) := by decide +kernel
theorem dX4_isPaid_16 : decode cX4_isPaid 16 = .ok (.if_icmp .ge 24, 3) := by decide +kernel
theorem dX4_isPaid_19 : decode cX4_isPaid 19 = .ok (.aload_n 0, 1) := by decide +kernel
theorem dX4_isPaid_20 : decode cX4_isPaid 20 = .ok (.getfield 9, 3) := by decide +kernel
theorem dX4_isPaid_23 : decode cX4_isPaid 23 = .ok (.bipush 8, 2) := by decide +kernel
theorem dX4_isPaid_25 : decode cX4_isPaid 25 = .ok (.dup2, 1) := by decide +kernel
theorem dX4_isPaid_26 : decode cX4_isPaid 26 = .ok (.iaload, 1) := by decide +kernel
theorem dX4_isPaid_27 : decode cX4_isPaid 27 = .ok (.iconst 1, 1) := by decide +kernel
theorem dX4_isPaid_28 : decode cX4_isPaid 28 = .ok (.iadd, 1) := by decide +kernel
theorem dX4_isPaid_29 : decode cX4_isPaid 29 = .ok (.iastore, 1) := by decide +kernel
theorem dX4_isPaid_30 : decode cX4_isPaid 30 = .ok (.aload_n 0, 1) := by decide +kernel
theorem dX4_isPaid_31 : decode cX4_isPaid 31 = .ok (.getfield 9, 3) := by decide +kernel
theorem dX4_isPaid_34 : decode cX4_isPaid 34 = .ok (.bipush 10, 2) := by decide +kernel
theorem dX4_isPaid_36 : decode cX4_isPaid 36 = .ok (.iconst (-1), 1) := by decide +kernel
theorem dX4_isPaid_37 : decode cX4_isPaid 37 = .ok (.iastore, 1) := by decide +kernel
theorem dX4_isPaid_38 : decode cX4_isPaid 38 = .ok (.iconst 0, 1) := by decide +kernel
theorem dX4_isPaid_39 : decode cX4_isPaid 39 = .ok (.ireturn, 1) := by decide +kernel
theorem dX4_isPaid_40 : decode cX4_isPaid 40 = .ok (.aload_n 0, 1) := by decide +kernel
theorem dX4_isPaid_41 : decode cX4_isPaid 41 = .ok (.iconst 0, 1) := by decide +kernel
theorem dX4_isPaid_42 : decode cX4_isPaid 42 = .ok (.iconst 1, 1) := by decide +kernel
theorem dX4_isPaid_43 : decode cX4_isPaid 43 = .ok (.iload_n 2, 1) := by decide +kernel
theorem dX4_isPaid_44 : decode cX4_isPaid 44 = .ok (.invokevirtual 45, 3) := by decide +kernel
theorem dX4_isPaid_47 : decode cX4_isPaid 47 = .ok (.iconst 1, 1) := by decide +kernel
theorem dX4_isPaid_48 : decode cX4_isPaid 48 = .ok (.ireturn, 1) := by decide +kernel
theorem ggX4_shoot_X5_wallDue : GoodIn wsX4_shoot wsX5_wallDue := gW_in gwX5_wallDue (fun _ h => List.mem_cons_of_mem _ (List.mem_append_right _ (List.mem_append_right _ (List.mem_append_right _ (List.mem_append_right _ (List.mem_append_left _ h))))))
set_option maxRecDepth 20000 in
theorem gX4_shoot_X5_wallDue : GoodIn wsX4_shoot (wsV RX4 87 RX5 yX5_wallDue wsX5_wallDue) := goodIn_app (goodIn_of _ (by decide +kernel)) ggX4_shoot_X5_wallDue
theorem ggX4_shoot_X4_weakest : GoodIn wsX4_shoot wsX4_weakest := gW_in gwX4_weakest (fun _ h => List.mem_cons_of_mem _ (List.mem_append_right _ (List.mem_append_right _ (List.mem_append_right _ (List.mem_append_right _ (List.mem_append_right _ (List.mem_append_left _ h)))))))
set_option maxRecDepth 20000 in
theorem gX4_shoot_X4_weakest : GoodIn wsX4_shoot (wsV RX4 90 RX4 yX4_weakest wsX4_weakest) := goodIn_app (goodIn_of _ (by decide +kernel)) ggX4_shoot_X4_weakest
theorem ggX4_shoot_X4_breach : GoodIn wsX4_shoot wsX4_breach := gW_in gwX4_breach (fun _ h => List.mem_cons_of_mem _ (List.mem_append_right _ (List.mem_append_right _ (List.mem_append_right _ (List.mem_append_right _ (List.mem_append_right _ (List.mem_append_right _ (h))))))))
set_option maxRecDepth 20000 in
theorem gX4_shoot_X4_breach : GoodIn wsX4_shoot (wsV RX4 93 RX4 yX4_breach wsX4_breach) := goodIn_app (goodIn_of _ (by decide +kernel)) ggX4_shoot_X4_breach
theorem dX4_shoot_0 : decode cX4_shoot 0 = .ok (.aload_n 2, 1) := by decide +kernel
theorem dX4_shoot_1 : decode cX4_shoot 1 = .ok (.aload_n 0, 1) := by decide +kernel
theorem dX4_shoot_2 : decode cX4_shoot 2 = .ok (.getfield 18, 3) := by decide +kernel
theorem dX4_shoot_5 : decode cX4_shoot 5 = .ok (.aload_n 0, 1) := by decide +kernel
theorem dX4_shoot_6 : decode cX4_shoot 6 = .ok (.getfield 9, 3) := by decide +kernel
theorem dX4_shoot_9 : decode cX4_shoot 9 = .ok (.bipush 11, 2) := by decide +kernel
theorem dX4_shoot_11 : decode cX4_shoot 11 = .ok (.iaload, 1) := by decide +kernel
theorem dX4_shoot_12 : decode cX4_shoot 12 = .ok (.isub, 1) := by decide +kernel
theorem dX4_shoot_13 : decode cX4_shoot 13 = .ok (.aload_n 1, 1) := by decide +kernel
theorem dX4_shoot_14 : decode cX4_shoot 14 = .ok (.getfield 33, 3) := by decide +kernel
theorem dX4_shoot_17 : decode cX4_shoot 17 = .ok (.invokevirtual 87, 3) := by decide +kernel
theorem dX4_shoot_20 : decode cX4_shoot 20 = .ok (.istore_n 3, 1) := by decide +kernel
theorem dX4_shoot_21 : decode cX4_shoot 21 = .ok (.iload_n 3, 1) := by decide +kernel
theorem dX4_shoot_22 : decode cX4_shoot 22 = .ok (.iconst (-1), 1) := by decide +kernel
theorem dX4_shoot_23 : decode cX4_shoot 23 = .ok (.if_icmp .ne 7, 3) := by decide +kernel
theorem dX4_shoot_26 : decode cX4_shoot 26 = .ok (.iconst 0, 1) := by decide +kernel
theorem dX4_shoot_27 : decode cX4_shoot 27 = .ok (.goto 12, 3) := by decide +kernel
theorem dX4_shoot_30 : decode cX4_shoot 30 = .ok (.aload_n 0, 1) := by decide +kernel
theorem dX4_shoot_31 : decode cX4_shoot 31 = .ok (.getfield 9, 3) := by decide +kernel
theorem dX4_shoot_34 : decode cX4_shoot 34 = .ok (.bipush 18, 2) := by decide +kernel
theorem dX4_shoot_36 : decode cX4_shoot 36 = .ok (.iload_n 3, 1) := by decide +kernel
theorem dX4_shoot_37 : decode cX4_shoot 37 = .ok (.iadd, 1) := by decide +kernel
theorem dX4_shoot_38 : decode cX4_shoot 38 = .ok (.iaload, 1) := by decide +kernel
theorem dX4_shoot_39 : decode cX4_shoot 39 = .ok (.istore 4, 2) := by decide +kernel
theorem dX4_shoot_41 : decode cX4_shoot 41 = .ok (.aload_n 1, 1) := by decide +kernel
theorem dX4_shoot_42 : decode cX4_shoot 42 = .ok (.getfield 33, 3) := by decide +kernel
theorem dX4_shoot_45 : decode cX4_shoot 45 = .ok (.ifCond .le 12, 3) := by decide +kernel
theorem dX4_shoot_48 : decode cX4_shoot 48 = .ok (.aload_n 2, 1) := by decide +kernel
theorem dX4_shoot_49 : decode cX4_shoot 49 = .ok (.getfield 57, 3) := by decide +kernel
theorem dX4_shoot_52 : decode cX4_shoot 52 = .ok (.iconst 3, 1) := by decide +kernel
theorem dX4_shoot_53 : decode cX4_shoot 53 = .ok (.iaload, 1) := by decide +kernel
theorem dX4_shoot_54 : decode cX4_shoot 54 = .ok (.goto 4, 3) := by decide +kernel
theorem dX4_shoot_57 : decode cX4_shoot 57 = .ok (.iconst 0, 1) := by decide +kernel
theorem dX4_shoot_58 : decode cX4_shoot 58 = .ok (.istore 5, 2) := by decide +kernel
theorem dX4_shoot_60 : decode cX4_shoot 60 = .ok (.aload_n 2, 1) := by decide +kernel
theorem dX4_shoot_61 : decode cX4_shoot 61 = .ok (.getfield 57, 3) := by decide +kernel
theorem dX4_shoot_64 : decode cX4_shoot 64 = .ok (.iconst 2, 1) := by decide +kernel
theorem dX4_shoot_65 : decode cX4_shoot 65 = .ok (.iaload, 1) := by decide +kernel
theorem dX4_shoot_66 : decode cX4_shoot 66 = .ok (.iconst 4, 1) := by decide +kernel
theorem dX4_shoot_67 : decode cX4_shoot 67 = .ok (.if_icmp .gt 7, 3) := by decide +kernel
theorem dX4_shoot_70 : decode cX4_shoot 70 = .ok (.iconst 1, 1) := by decide +kernel
theorem dX4_shoot_71 : decode cX4_shoot 71 = .ok (.goto 4, 3) := by decide +kernel
theorem dX4_shoot_74 : decode cX4_shoot 74 = .ok (.iconst 0, 1) := by decide +kernel
theorem dX4_shoot_75 : decode cX4_shoot 75 = .ok (.istore 6, 2) := by decide +kernel
theorem dX4_shoot_77 : decode cX4_shoot 77 = .ok (.iconst (-1), 1) := by decide +kernel
theorem dX4_shoot_78 : decode cX4_shoot 78 = .ok (.istore 7, 2) := by decide +kernel
theorem dX4_shoot_80 : decode cX4_shoot 80 = .ok (.iconst 1, 1) := by decide +kernel
theorem dX4_shoot_81 : decode cX4_shoot 81 = .ok (.istore 8, 2) := by decide +kernel
theorem dX4_shoot_83 : decode cX4_shoot 83 = .ok (.iload 8, 2) := by decide +kernel
theorem dX4_shoot_85 : decode cX4_shoot 85 = .ok (.iload 5, 2) := by decide +kernel
theorem dX4_shoot_87 : decode cX4_shoot 87 = .ok (.if_icmp .gt 110, 3) := by decide +kernel
theorem dX4_shoot_90 : decode cX4_shoot 90 = .ok (.iload 7, 2) := by decide +kernel
theorem dX4_shoot_92 : decode cX4_shoot 92 = .ok (.iconst (-1), 1) := by decide +kernel
theorem dX4_shoot_93 : decode cX4_shoot 93 = .ok (.if_icmp .ne 22, 3) := by decide +kernel
theorem dX4_shoot_96 : decode cX4_shoot 96 = .ok (.iload_n 3, 1) := by decide +kernel
theorem dX4_shoot_97 : decode cX4_shoot 97 = .ok (.iconst (-1), 1) := by decide +kernel
theorem dX4_shoot_98 : decode cX4_shoot 98 = .ok (.if_icmp .ne 14, 3) := by decide +kernel
theorem dX4_shoot_101 : decode cX4_shoot 101 = .ok (.aload_n 0, 1) := by decide +kernel
theorem dX4_shoot_102 : decode cX4_shoot 102 = .ok (.aload_n 1, 1) := by decide +kernel
theorem dX4_shoot_103 : decode cX4_shoot 103 = .ok (.getfield 33, 3) := by decide +kernel
theorem dX4_shoot_106 : decode cX4_shoot 106 = .ok (.invokevirtual 90, 3) := by decide +kernel
theorem dX4_shoot_109 : decode cX4_shoot 109 = .ok (.goto 4, 3) := by decide +kernel
theorem dX4_shoot_112 : decode cX4_shoot 112 = .ok (.iload_n 3, 1) := by decide +kernel
theorem dX4_shoot_113 : decode cX4_shoot 113 = .ok (.istore 7, 2) := by decide +kernel
theorem dX4_shoot_115 : decode cX4_shoot 115 = .ok (.aload_n 0, 1) := by decide +kernel
theorem dX4_shoot_116 : decode cX4_shoot 116 = .ok (.getfield 15, 3) := by decide +kernel
theorem dX4_shoot_119 : decode cX4_shoot 119 = .ok (.iload 7, 2) := by decide +kernel
theorem dX4_shoot_121 : decode cX4_shoot 121 = .ok (.dup2, 1) := by decide +kernel
theorem dX4_shoot_122 : decode cX4_shoot 122 = .ok (.iaload, 1) := by decide +kernel
theorem dX4_shoot_123 : decode cX4_shoot 123 = .ok (.iconst 1, 1) := by decide +kernel
theorem dX4_shoot_124 : decode cX4_shoot 124 = .ok (.iadd, 1) := by decide +kernel
theorem dX4_shoot_125 : decode cX4_shoot 125 = .ok (.iastore, 1) := by decide +kernel
theorem dX4_shoot_126 : decode cX4_shoot 126 = .ok (.aload_n 0, 1) := by decide +kernel
theorem dX4_shoot_127 : decode cX4_shoot 127 = .ok (.getfield 9, 3) := by decide +kernel
theorem dX4_shoot_130 : decode cX4_shoot 130 = .ok (.bipush 9, 2) := by decide +kernel
theorem dX4_shoot_132 : decode cX4_shoot 132 = .ok (.dup2, 1) := by decide +kernel
theorem dX4_shoot_133 : decode cX4_shoot 133 = .ok (.iaload, 1) := by decide +kernel
theorem dX4_shoot_134 : decode cX4_shoot 134 = .ok (.iconst 1, 1) := by decide +kernel
theorem dX4_shoot_135 : decode cX4_shoot 135 = .ok (.iadd, 1) := by decide +kernel
theorem dX4_shoot_136 : decode cX4_shoot 136 = .ok (.iastore, 1) := by decide +kernel
theorem dX4_shoot_137 : decode cX4_shoot 137 = .ok (.aload_n 0, 1) := by decide +kernel
theorem dX4_shoot_138 : decode cX4_shoot 138 = .ok (.getfield 9, 3) := by decide +kernel
theorem dX4_shoot_141 : decode cX4_shoot 141 = .ok (.bipush 12, 2) := by decide +kernel
theorem dX4_shoot_143 : decode cX4_shoot 143 = .ok (.iload 7, 2) := by decide +kernel
theorem dX4_shoot_145 : decode cX4_shoot 145 = .ok (.iadd, 1) := by decide +kernel
theorem dX4_shoot_146 : decode cX4_shoot 146 = .ok (.dup2, 1) := by decide +kernel
theorem dX4_shoot_147 : decode cX4_shoot 147 = .ok (.iaload, 1) := by decide +kernel
theorem dX4_shoot_148 : decode cX4_shoot 148 = .ok (.iload 6, 2) := by decide +kernel
theorem dX4_shoot_150 : decode cX4_shoot 150 = .ok (.ifCond .eq 14, 3) := by decide +kernel
theorem dX4_shoot_153 : decode cX4_shoot 153 = .ok (.iload 8, 2) := by decide +kernel
theorem dX4_shoot_155 : decode cX4_shoot 155 = .ok (.iconst 2, 1) := by decide +kernel
theorem dX4_shoot_156 : decode cX4_shoot 156 = .ok (.irem, 1) := by decide +kernel
theorem dX4_shoot_157 : decode cX4_shoot 157 = .ok (.ifCond .ne 7, 3) := by decide +kernel
theorem dX4_shoot_160 : decode cX4_shoot 160 = .ok (.iconst 2, 1) := by decide +kernel
theorem dX4_shoot_161 : decode cX4_shoot 161 = .ok (.goto 4, 3) := by decide +kernel
theorem dX4_shoot_164 : decode cX4_shoot 164 = .ok (.iconst 1, 1) := by decide +kernel
theorem dX4_shoot_165 : decode cX4_shoot 165 = .ok (.isub, 1) := by decide +kernel
theorem dX4_shoot_166 : decode cX4_shoot 166 = .ok (.iastore, 1) := by decide +kernel
theorem dX4_shoot_167 : decode cX4_shoot 167 = .ok (.aload_n 0, 1) := by decide +kernel
theorem dX4_shoot_168 : decode cX4_shoot 168 = .ok (.getfield 9, 3) := by decide +kernel
theorem dX4_shoot_171 : decode cX4_shoot 171 = .ok (.bipush 12, 2) := by decide +kernel
theorem dX4_shoot_173 : decode cX4_shoot 173 = .ok (.iload 7, 2) := by decide +kernel
theorem dX4_shoot_175 : decode cX4_shoot 175 = .ok (.iadd, 1) := by decide +kernel
theorem dX4_shoot_176 : decode cX4_shoot 176 = .ok (.iaload, 1) := by decide +kernel
theorem dX4_shoot_177 : decode cX4_shoot 177 = .ok (.ifCond .gt 14, 3) := by decide +kernel
theorem dX4_shoot_180 : decode cX4_shoot 180 = .ok (.aload_n 0, 1) := by decide +kernel
theorem dX4_shoot_181 : decode cX4_shoot 181 = .ok (.aload_n 1, 1) := by decide +kernel
theorem dX4_shoot_182 : decode cX4_shoot 182 = .ok (.aload_n 2, 1) := by decide +kernel
theorem dX4_shoot_183 : decode cX4_shoot 183 = .ok (.iload 7, 2) := by decide +kernel
theorem dX4_shoot_185 : decode cX4_shoot 185 = .ok (.invokevirtual 93, 3) := by decide +kernel
theorem dX4_shoot_188 : decode cX4_shoot 188 = .ok (.iconst (-1), 1) := by decide +kernel
theorem dX4_shoot_189 : decode cX4_shoot 189 = .ok (.istore 7, 2) := by decide +kernel
theorem dX4_shoot_191 : decode cX4_shoot 191 = .ok (.iinc 8 1, 3) := by decide +kernel
theorem dX4_shoot_194 : decode cX4_shoot 194 = .ok (.goto (-111), 3) := by decide +kernel
theorem dX4_shoot_197 : decode cX4_shoot 197 = .ok (.iload_n 3, 1) := by decide +kernel
theorem dX4_shoot_198 : decode cX4_shoot 198 = .ok (.iconst (-1), 1) := by decide +kernel
theorem dX4_shoot_199 : decode cX4_shoot 199 = .ok (.if_icmp .eq 28, 3) := by decide +kernel
theorem dX4_shoot_202 : decode cX4_shoot 202 = .ok (.aload_n 0, 1) := by decide +kernel
theorem dX4_shoot_203 : decode cX4_shoot 203 = .ok (.getfield 9, 3) := by decide +kernel
theorem dX4_shoot_206 : decode cX4_shoot 206 = .ok (.bipush 18, 2) := by decide +kernel
theorem dX4_shoot_208 : decode cX4_shoot 208 = .ok (.iload_n 3, 1) := by decide +kernel
theorem dX4_shoot_209 : decode cX4_shoot 209 = .ok (.iadd, 1) := by decide +kernel
theorem dX4_shoot_210 : decode cX4_shoot 210 = .ok (.iaload, 1) := by decide +kernel
theorem dX4_shoot_211 : decode cX4_shoot 211 = .ok (.iload 4, 2) := by decide +kernel
theorem dX4_shoot_213 : decode cX4_shoot 213 = .ok (.if_icmp .ne 14, 3) := by decide +kernel
theorem dX4_shoot_216 : decode cX4_shoot 216 = .ok (.aload_n 0, 1) := by decide +kernel
theorem dX4_shoot_217 : decode cX4_shoot 217 = .ok (.getfield 9, 3) := by decide +kernel
theorem dX4_shoot_220 : decode cX4_shoot 220 = .ok (.bipush 7, 2) := by decide +kernel
theorem dX4_shoot_222 : decode cX4_shoot 222 = .ok (.dup2, 1) := by decide +kernel
theorem dX4_shoot_223 : decode cX4_shoot 223 = .ok (.iaload, 1) := by decide +kernel
theorem dX4_shoot_224 : decode cX4_shoot 224 = .ok (.iconst 1, 1) := by decide +kernel
theorem dX4_shoot_225 : decode cX4_shoot 225 = .ok (.iadd, 1) := by decide +kernel
theorem dX4_shoot_226 : decode cX4_shoot 226 = .ok (.iastore, 1) := by decide +kernel
theorem dX4_shoot_227 : decode cX4_shoot 227 = .ok (.return_, 1) := by decide +kernel
theorem dX4_weakest_0 : decode cX4_weakest 0 = .ok (.iconst 0, 1) := by decide +kernel
theorem dX4_weakest_1 : decode cX4_weakest 1 = .ok (.istore_n 2, 1) := by decide +kernel
theorem dX4_weakest_2 : decode cX4_weakest 2 = .ok (.iconst 1, 1) := by decide +kernel
theorem dX4_weakest_3 : decode cX4_weakest 3 = .ok (.istore_n 3, 1) := by decide +kernel
theorem dX4_weakest_4 : decode cX4_weakest 4 = .ok (.iload_n 3, 1) := by decide +kernel
theorem dX4_weakest_5 : decode cX4_weakest 5 = .ok (.iload_n 1, 1) := by decide +kernel
theorem dX4_weakest_6 : decode cX4_weakest 6 = .ok (.if_icmp .ge 32, 3) := by decide +kernel
theorem dX4_weakest_9 : decode cX4_weakest 9 = .ok (.aload_n 0, 1) := by decide +kernel
theorem dX4_weakest_10 : decode cX4_weakest 10 = .ok (.getfield 9, 3) := by decide +kernel
theorem dX4_weakest_13 : decode cX4_weakest 13 = .ok (.bipush 12, 2) := by decide +kernel
theorem dX4_weakest_15 : decode cX4_weakest 15 = .ok (.iload_n 3, 1) := by decide +kernel
theorem dX4_weakest_16 : decode cX4_weakest 16 = .ok (.iadd, 1) := by decide +kernel
theorem dX4_weakest_17 : decode cX4_weakest 17 = .ok (.iaload, 1) := by decide +kernel
theorem dX4_weakest_18 : decode cX4_weakest 18 = .ok (.aload_n 0, 1) := by decide +kernel
theorem dX4_weakest_19 : decode cX4_weakest 19 = .ok (.getfield 9, 3) := by decide +kernel
theorem dX4_weakest_22 : decode cX4_weakest 22 = .ok (.bipush 12, 2) := by decide +kernel
theorem dX4_weakest_24 : decode cX4_weakest 24 = .ok (.iload_n 2, 1) := by decide +kernel
theorem dX4_weakest_25 : decode cX4_weakest 25 = .ok (.iadd, 1) := by decide +kernel
theorem dX4_weakest_26 : decode cX4_weakest 26 = .ok (.iaload, 1) := by decide +kernel
theorem dX4_weakest_27 : decode cX4_weakest 27 = .ok (.if_icmp .ge 5, 3) := by decide +kernel
theorem dX4_weakest_30 : decode cX4_weakest 30 = .ok (.iload_n 3, 1) := by decide +kernel
theorem dX4_weakest_31 : decode cX4_weakest 31 = .ok (.istore_n 2, 1) := by decide +kernel
theorem dX4_weakest_32 : decode cX4_weakest 32 = .ok (.iinc 3 1, 3) := by decide +kernel
theorem dX4_weakest_35 : decode cX4_weakest 35 = .ok (.goto (-31), 3) := by decide +kernel
theorem dX4_weakest_38 : decode cX4_weakest 38 = .ok (.iload_n 2, 1) := by decide +kernel
theorem dX4_weakest_39 : decode cX4_weakest 39 = .ok (.ireturn, 1) := by decide +kernel
theorem ggX4_breach_X4_frighten : GoodIn wsX4_breach wsX4_frighten := gW_in gwX4_frighten (fun _ h => List.mem_cons_of_mem _ (List.mem_append_right _ (List.mem_append_right _ (List.mem_append_right _ (List.mem_append_right _ (List.mem_append_left _ h))))))
set_option maxRecDepth 20000 in
theorem gX4_breach_X4_frighten : GoodIn wsX4_breach (wsV RX4 64 RX4 yX4_frighten wsX4_frighten) := goodIn_app (goodIn_of _ (by decide +kernel)) ggX4_breach_X4_frighten
theorem ggX4_breach_X4_move : GoodIn wsX4_breach wsX4_move := gW_in gwX4_move (fun _ h => List.mem_cons_of_mem _ (List.mem_append_right _ (List.mem_append_right _ (List.mem_append_right _ (List.mem_append_right _ (List.mem_append_right _ (h)))))))
set_option maxRecDepth 20000 in
theorem gX4_breach_X4_move : GoodIn wsX4_breach (wsV RX4 45 RX4 yX4_move wsX4_move) := goodIn_app (goodIn_of _ (by decide +kernel)) ggX4_breach_X4_move
theorem dX4_breach_0 : decode cX4_breach 0 = .ok (.aload_n 0, 1) := by decide +kernel
theorem dX4_breach_1 : decode cX4_breach 1 = .ok (.getfield 9, 3) := by decide +kernel
theorem dX4_breach_4 : decode cX4_breach 4 = .ok (.bipush 6, 2) := by decide +kernel
theorem dX4_breach_6 : decode cX4_breach 6 = .ok (.dup2, 1) := by decide +kernel
theorem dX4_breach_7 : decode cX4_breach 7 = .ok (.iaload, 1) := by decide +kernel
theorem dX4_breach_8 : decode cX4_breach 8 = .ok (.iconst 1, 1) := by decide +kernel
theorem dX4_breach_9 : decode cX4_breach 9 = .ok (.iadd, 1) := by decide +kernel
theorem dX4_breach_10 : decode cX4_breach 10 = .ok (.iastore, 1) := by decide +kernel
theorem dX4_breach_11 : decode cX4_breach 11 = .ok (.aload_n 0, 1) := by decide +kernel
theorem dX4_breach_12 : decode cX4_breach 12 = .ok (.getfield 9, 3) := by decide +kernel
theorem dX4_breach_15 : decode cX4_breach 15 = .ok (.bipush 18, 2) := by decide +kernel
theorem dX4_breach_17 : decode cX4_breach 17 = .ok (.iload_n 3, 1) := by decide +kernel
theorem dX4_breach_18 : decode cX4_breach 18 = .ok (.iadd, 1) := by decide +kernel
theorem dX4_breach_19 : decode cX4_breach 19 = .ok (.dup2, 1) := by decide +kernel
theorem dX4_breach_20 : decode cX4_breach 20 = .ok (.iaload, 1) := by decide +kernel
theorem dX4_breach_21 : decode cX4_breach 21 = .ok (.iconst 1, 1) := by decide +kernel
theorem dX4_breach_22 : decode cX4_breach 22 = .ok (.iadd, 1) := by decide +kernel
theorem dX4_breach_23 : decode cX4_breach 23 = .ok (.iastore, 1) := by decide +kernel
theorem dX4_breach_24 : decode cX4_breach 24 = .ok (.aload_n 0, 1) := by decide +kernel
theorem dX4_breach_25 : decode cX4_breach 25 = .ok (.getfield 9, 3) := by decide +kernel
theorem dX4_breach_28 : decode cX4_breach 28 = .ok (.bipush 12, 2) := by decide +kernel
theorem dX4_breach_30 : decode cX4_breach 30 = .ok (.iload_n 3, 1) := by decide +kernel
theorem dX4_breach_31 : decode cX4_breach 31 = .ok (.iadd, 1) := by decide +kernel
theorem dX4_breach_32 : decode cX4_breach 32 = .ok (.aload_n 1, 1) := by decide +kernel
theorem dX4_breach_33 : decode cX4_breach 33 = .ok (.getfield 36, 3) := by decide +kernel
theorem dX4_breach_36 : decode cX4_breach 36 = .ok (.iload_n 3, 1) := by decide +kernel
theorem dX4_breach_37 : decode cX4_breach 37 = .ok (.iaload, 1) := by decide +kernel
theorem dX4_breach_38 : decode cX4_breach 38 = .ok (.iastore, 1) := by decide +kernel
theorem dX4_breach_39 : decode cX4_breach 39 = .ok (.aload_n 0, 1) := by decide +kernel
theorem dX4_breach_40 : decode cX4_breach 40 = .ok (.aload_n 1, 1) := by decide +kernel
theorem dX4_breach_41 : decode cX4_breach 41 = .ok (.getfield 28, 3) := by decide +kernel
theorem dX4_breach_44 : decode cX4_breach 44 = .ok (.bipush 13, 2) := by decide +kernel
theorem dX4_breach_46 : decode cX4_breach 46 = .ok (.iaload, 1) := by decide +kernel
theorem dX4_breach_47 : decode cX4_breach 47 = .ok (.invokevirtual 64, 3) := by decide +kernel
theorem dX4_breach_50 : decode cX4_breach 50 = .ok (.aload_n 0, 1) := by decide +kernel
theorem dX4_breach_51 : decode cX4_breach 51 = .ok (.iconst 0, 1) := by decide +kernel
theorem dX4_breach_52 : decode cX4_breach 52 = .ok (.iconst 1, 1) := by decide +kernel
theorem dX4_breach_53 : decode cX4_breach 53 = .ok (.aload_n 2, 1) := by decide +kernel
theorem dX4_breach_54 : decode cX4_breach 54 = .ok (.getfield 57, 3) := by decide +kernel
theorem dX4_breach_57 : decode cX4_breach 57 = .ok (.iconst 4, 1) := by decide +kernel
theorem dX4_breach_58 : decode cX4_breach 58 = .ok (.iaload, 1) := by decide +kernel
theorem dX4_breach_59 : decode cX4_breach 59 = .ok (.invokevirtual 45, 3) := by decide +kernel
theorem dX4_breach_62 : decode cX4_breach 62 = .ok (.return_, 1) := by decide +kernel
theorem dX4_frighten_0 : decode cX4_frighten 0 = .ok (.aload_n 0, 1) := by decide +kernel
theorem dX4_frighten_1 : decode cX4_frighten 1 = .ok (.getfield 9, 3) := by decide +kernel
theorem dX4_frighten_4 : decode cX4_frighten 4 = .ok (.iconst 5, 1) := by decide +kernel
theorem dX4_frighten_5 : decode cX4_frighten 5 = .ok (.bipush 100, 2) := by decide +kernel
theorem dX4_frighten_7 : decode cX4_frighten 7 = .ok (.aload_n 0, 1) := by decide +kernel
theorem dX4_frighten_8 : decode cX4_frighten 8 = .ok (.getfield 9, 3) := by decide +kernel
theorem dX4_frighten_11 : decode cX4_frighten 11 = .ok (.iconst 5, 1) := by decide +kernel
theorem dX4_frighten_12 : decode cX4_frighten 12 = .ok (.iaload, 1) := by decide +kernel
theorem dX4_frighten_13 : decode cX4_frighten 13 = .ok (.iload_n 1, 1) := by decide +kernel
theorem dX4_frighten_14 : decode cX4_frighten 14 = .ok (.iadd, 1) := by decide +kernel
theorem dX4_frighten_15 : decode cX4_frighten 15 = .ok (.invokestatic 81, 3) := by decide +kernel
theorem dX4_frighten_18 : decode cX4_frighten 18 = .ok (.iastore, 1) := by decide +kernel
theorem dX4_frighten_19 : decode cX4_frighten 19 = .ok (.return_, 1) := by decide +kernel
theorem ggX4_mend_X4_move : GoodIn wsX4_mend wsX4_move := gW_in gwX4_move (fun _ h => List.mem_cons_of_mem _ (List.mem_append_right _ (List.mem_append_right _ (List.mem_append_right _ (h)))))
set_option maxRecDepth 20000 in
theorem gX4_mend_X4_move : GoodIn wsX4_mend (wsV RX4 45 RX4 yX4_move wsX4_move) := goodIn_app (goodIn_of _ (by decide +kernel)) ggX4_mend_X4_move
theorem dX4_mend_0 : decode cX4_mend 0 = .ok (.aload_n 1, 1) := by decide +kernel
theorem dX4_mend_1 : decode cX4_mend 1 = .ok (.getfield 28, 3) := by decide +kernel
theorem dX4_mend_4 : decode cX4_mend 4 = .ok (.bipush 18, 2) := by decide +kernel
theorem dX4_mend_6 : decode cX4_mend 6 = .ok (.iaload, 1) := by decide +kernel
theorem dX4_mend_7 : decode cX4_mend 7 = .ok (.istore_n 2, 1) := by decide +kernel
theorem dX4_mend_8 : decode cX4_mend 8 = .ok (.iconst 0, 1) := by decide +kernel
theorem dX4_mend_9 : decode cX4_mend 9 = .ok (.istore_n 3, 1) := by decide +kernel
theorem dX4_mend_10 : decode cX4_mend 10 = .ok (.iload_n 3, 1) := by decide +kernel
theorem dX4_mend_11 : decode cX4_mend 11 = .ok (.aload_n 1, 1) := by decide +kernel
theorem dX4_mend_12 : decode cX4_mend 12 = .ok (.getfield 33, 3) := by decide +kernel
theorem dX4_mend_15 : decode cX4_mend 15 = .ok (.if_icmp .ge 79, 3) := by decide +kernel
theorem dX4_mend_18 : decode cX4_mend 18 = .ok (.aload_n 1, 1) := by decide +kernel
theorem dX4_mend_19 : decode cX4_mend 19 = .ok (.getfield 97, 3) := by decide +kernel
theorem dX4_mend_22 : decode cX4_mend 22 = .ok (.iload_n 3, 1) := by decide +kernel
theorem dX4_mend_23 : decode cX4_mend 23 = .ok (.iaload, 1) := by decide +kernel
theorem dX4_mend_24 : decode cX4_mend 24 = .ok (.aload_n 1, 1) := by decide +kernel
theorem dX4_mend_25 : decode cX4_mend 25 = .ok (.getfield 36, 3) := by decide +kernel
theorem dX4_mend_28 : decode cX4_mend 28 = .ok (.iload_n 3, 1) := by decide +kernel
theorem dX4_mend_29 : decode cX4_mend 29 = .ok (.iaload, 1) := by decide +kernel
theorem dX4_mend_30 : decode cX4_mend 30 = .ok (.aload_n 0, 1) := by decide +kernel
theorem dX4_mend_31 : decode cX4_mend 31 = .ok (.getfield 9, 3) := by decide +kernel
theorem dX4_mend_34 : decode cX4_mend 34 = .ok (.bipush 12, 2) := by decide +kernel
theorem dX4_mend_36 : decode cX4_mend 36 = .ok (.iload_n 3, 1) := by decide +kernel
theorem dX4_mend_37 : decode cX4_mend 37 = .ok (.iadd, 1) := by decide +kernel
theorem dX4_mend_38 : decode cX4_mend 38 = .ok (.iaload, 1) := by decide +kernel
theorem dX4_mend_39 : decode cX4_mend 39 = .ok (.isub, 1) := by decide +kernel
theorem dX4_mend_40 : decode cX4_mend 40 = .ok (.invokestatic 81, 3) := by decide +kernel
theorem dX4_mend_43 : decode cX4_mend 43 = .ok (.istore 4, 2) := by decide +kernel
theorem dX4_mend_45 : decode cX4_mend 45 = .ok (.iload_n 2, 1) := by decide +kernel
theorem dX4_mend_46 : decode cX4_mend 46 = .ok (.ifCond .le 18, 3) := by decide +kernel
theorem dX4_mend_49 : decode cX4_mend 49 = .ok (.iload 4, 2) := by decide +kernel
theorem dX4_mend_51 : decode cX4_mend 51 = .ok (.aload_n 0, 1) := by decide +kernel
theorem dX4_mend_52 : decode cX4_mend 52 = .ok (.getfield 9, 3) := by decide +kernel
theorem dX4_mend_55 : decode cX4_mend 55 = .ok (.iconst 0, 1) := by decide +kernel
theorem dX4_mend_56 : decode cX4_mend 56 = .ok (.iaload, 1) := by decide +kernel
theorem dX4_mend_57 : decode cX4_mend 57 = .ok (.iload_n 2, 1) := by decide +kernel
theorem dX4_mend_58 : decode cX4_mend 58 = .ok (.idiv, 1) := by decide +kernel
theorem dX4_mend_59 : decode cX4_mend 59 = .ok (.invokestatic 81, 3) := by decide +kernel
theorem dX4_mend_62 : decode cX4_mend 62 = .ok (.istore 4, 2) := by decide +kernel
theorem dX4_mend_64 : decode cX4_mend 64 = .ok (.aload_n 0, 1) := by decide +kernel
theorem dX4_mend_65 : decode cX4_mend 65 = .ok (.getfield 9, 3) := by decide +kernel
theorem dX4_mend_68 : decode cX4_mend 68 = .ok (.bipush 12, 2) := by decide +kernel
theorem dX4_mend_70 : decode cX4_mend 70 = .ok (.iload_n 3, 1) := by decide +kernel
theorem dX4_mend_71 : decode cX4_mend 71 = .ok (.iadd, 1) := by decide +kernel
theorem dX4_mend_72 : decode cX4_mend 72 = .ok (.dup2, 1) := by decide +kernel
theorem dX4_mend_73 : decode cX4_mend 73 = .ok (.iaload, 1) := by decide +kernel
theorem dX4_mend_74 : decode cX4_mend 74 = .ok (.iload 4, 2) := by decide +kernel
theorem dX4_mend_76 : decode cX4_mend 76 = .ok (.iadd, 1) := by decide +kernel
theorem dX4_mend_77 : decode cX4_mend 77 = .ok (.iastore, 1) := by decide +kernel
theorem dX4_mend_78 : decode cX4_mend 78 = .ok (.aload_n 0, 1) := by decide +kernel
theorem dX4_mend_79 : decode cX4_mend 79 = .ok (.iconst 0, 1) := by decide +kernel
theorem dX4_mend_80 : decode cX4_mend 80 = .ok (.iconst 2, 1) := by decide +kernel
theorem dX4_mend_81 : decode cX4_mend 81 = .ok (.iload 4, 2) := by decide +kernel
theorem dX4_mend_83 : decode cX4_mend 83 = .ok (.iload_n 2, 1) := by decide +kernel
theorem dX4_mend_84 : decode cX4_mend 84 = .ok (.imul, 1) := by decide +kernel
theorem dX4_mend_85 : decode cX4_mend 85 = .ok (.invokevirtual 45, 3) := by decide +kernel
theorem dX4_mend_88 : decode cX4_mend 88 = .ok (.iinc 3 1, 3) := by decide +kernel
theorem dX4_mend_91 : decode cX4_mend 91 = .ok (.goto (-81), 3) := by decide +kernel
theorem dX4_mend_94 : decode cX4_mend 94 = .ok (.return_, 1) := by decide +kernel
theorem dX4_desert_0 : decode cX4_desert 0 = .ok (.iload_n 1, 1) := by decide +kernel
theorem dX4_desert_1 : decode cX4_desert 1 = .ok (.ifCond .le 7, 3) := by decide +kernel
theorem dX4_desert_4 : decode cX4_desert 4 = .ok (.iconst 3, 1) := by decide +kernel
theorem dX4_desert_5 : decode cX4_desert 5 = .ok (.goto 4, 3) := by decide +kernel
theorem dX4_desert_8 : decode cX4_desert 8 = .ok (.iconst 4, 1) := by decide +kernel
theorem dX4_desert_9 : decode cX4_desert 9 = .ok (.istore_n 2, 1) := by decide +kernel
theorem dX4_desert_10 : decode cX4_desert 10 = .ok (.iload_n 1, 1) := by decide +kernel
theorem dX4_desert_11 : decode cX4_desert 11 = .ok (.ifCond .le 7, 3) := by decide +kernel
theorem dX4_desert_14 : decode cX4_desert 14 = .ok (.iconst 4, 1) := by decide +kernel
theorem dX4_desert_15 : decode cX4_desert 15 = .ok (.goto 4, 3) := by decide +kernel
theorem dX4_desert_18 : decode cX4_desert 18 = .ok (.iconst 3, 1) := by decide +kernel
theorem dX4_desert_19 : decode cX4_desert 19 = .ok (.istore_n 3, 1) := by decide +kernel
theorem dX4_desert_20 : decode cX4_desert 20 = .ok (.aload_n 0, 1) := by decide +kernel
theorem dX4_desert_21 : decode cX4_desert 21 = .ok (.getfield 9, 3) := by decide +kernel
theorem dX4_desert_24 : decode cX4_desert 24 = .ok (.iload_n 2, 1) := by decide +kernel
theorem dX4_desert_25 : decode cX4_desert 25 = .ok (.iaload, 1) := by decide +kernel
theorem dX4_desert_26 : decode cX4_desert 26 = .ok (.iload_n 1, 1) := by decide +kernel
theorem dX4_desert_27 : decode cX4_desert 27 = .ok (.invokestatic 100, 3) := by decide +kernel
theorem dX4_desert_30 : decode cX4_desert 30 = .ok (.imul, 1) := by decide +kernel
theorem dX4_desert_31 : decode cX4_desert 31 = .ok (.bipush 100, 2) := by decide +kernel
theorem dX4_desert_33 : decode cX4_desert 33 = .ok (.idiv, 1) := by decide +kernel
theorem dX4_desert_34 : decode cX4_desert 34 = .ok (.istore 4, 2) := by decide +kernel
theorem dX4_desert_36 : decode cX4_desert 36 = .ok (.aload_n 0, 1) := by decide +kernel
theorem dX4_desert_37 : decode cX4_desert 37 = .ok (.getfield 9, 3) := by decide +kernel
theorem dX4_desert_40 : decode cX4_desert 40 = .ok (.iload_n 2, 1) := by decide +kernel
theorem dX4_desert_41 : decode cX4_desert 41 = .ok (.dup2, 1) := by decide +kernel
theorem dX4_desert_42 : decode cX4_desert 42 = .ok (.iaload, 1) := by decide +kernel
theorem dX4_desert_43 : decode cX4_desert 43 = .ok (.iload 4, 2) := by decide +kernel
theorem dX4_desert_45 : decode cX4_desert 45 = .ok (.isub, 1) := by decide +kernel
theorem dX4_desert_46 : decode cX4_desert 46 = .ok (.iastore, 1) := by decide +kernel
theorem dX4_desert_47 : decode cX4_desert 47 = .ok (.aload_n 0, 1) := by decide +kernel
theorem dX4_desert_48 : decode cX4_desert 48 = .ok (.getfield 9, 3) := by decide +kernel
theorem dX4_desert_51 : decode cX4_desert 51 = .ok (.iload_n 3, 1) := by decide +kernel
theorem dX4_desert_52 : decode cX4_desert 52 = .ok (.dup2, 1) := by decide +kernel
theorem dX4_desert_53 : decode cX4_desert 53 = .ok (.iaload, 1) := by decide +kernel
theorem dX4_desert_54 : decode cX4_desert 54 = .ok (.iload 4, 2) := by decide +kernel
theorem dX4_desert_56 : decode cX4_desert 56 = .ok (.iadd, 1) := by decide +kernel
theorem dX4_desert_57 : decode cX4_desert 57 = .ok (.iastore, 1) := by decide +kernel
theorem dX4_desert_58 : decode cX4_desert 58 = .ok (.return_, 1) := by decide +kernel
theorem ggX5_init_X9_init : GoodIn wsX5_init wsX9_init := gW_in gwX9_init (fun _ h => List.mem_cons_of_mem _ (List.mem_append_right _ (List.mem_append_right _ (h))))
set_option maxRecDepth 20000 in
theorem gX5_init_X9_init_n3 : GoodIn wsX5_init (wsX9_init) := ggX5_init_X9_init
theorem dX5_init_0 : decode cX5_init 0 = .ok (.aload_n 0, 1) := by decide +kernel
theorem dX5_init_1 : decode cX5_init 1 = .ok (.invokespecial 3, 3) := by decide +kernel
theorem dX5_init_4 : decode cX5_init 4 = .ok (.aload_n 0, 1) := by decide +kernel
theorem dX5_init_5 : decode cX5_init 5 = .ok (.bipush 6, 2) := by decide +kernel
theorem dX5_init_7 : decode cX5_init 7 = .ok (.newarray .int, 2) := by decide +kernel
theorem dX5_init_9 : decode cX5_init 9 = .ok (.putfield 11, 3) := by decide +kernel
theorem dX5_init_12 : decode cX5_init 12 = .ok (.aload_n 0, 1) := by decide +kernel
theorem dX5_init_13 : decode cX5_init 13 = .ok (.bipush 36, 2) := by decide +kernel
theorem dX5_init_15 : decode cX5_init 15 = .ok (.newarray .int, 2) := by decide +kernel
theorem dX5_init_17 : decode cX5_init 17 = .ok (.putfield 15, 3) := by decide +kernel
theorem dX5_init_20 : decode cX5_init 20 = .ok (.return_, 1) := by decide +kernel
theorem ggX5_clear_J7_fill_53178 : GoodIn wsX5_clear wsJ7_fill_53178 := gW_in gwJ7_fill_53178 (fun _ h => List.mem_cons_of_mem _ (List.mem_append_right _ (List.mem_append_right _ (h))))
set_option maxRecDepth 20000 in
theorem gX5_clear_J7_fill_53178 : GoodIn wsX5_clear (va_wsS RX5 22 yJ7_fill_53178 wsJ7_fill_53178) := goodIn_app (goodIn_of _ (by decide +kernel)) ggX5_clear_J7_fill_53178
theorem dX5_clear_0 : decode cX5_clear 0 = .ok (.aload_n 0, 1) := by decide +kernel
theorem dX5_clear_1 : decode cX5_clear 1 = .ok (.iload_n 1, 1) := by decide +kernel
theorem dX5_clear_2 : decode cX5_clear 2 = .ok (.putfield 18, 3) := by decide +kernel
theorem dX5_clear_5 : decode cX5_clear 5 = .ok (.aload_n 0, 1) := by decide +kernel
theorem dX5_clear_6 : decode cX5_clear 6 = .ok (.getfield 11, 3) := by decide +kernel
theorem dX5_clear_9 : decode cX5_clear 9 = .ok (.iconst 0, 1) := by decide +kernel
theorem dX5_clear_10 : decode cX5_clear 10 = .ok (.iconst 0, 1) := by decide +kernel
theorem dX5_clear_11 : decode cX5_clear 11 = .ok (.iastore, 1) := by decide +kernel
theorem dX5_clear_12 : decode cX5_clear 12 = .ok (.aload_n 0, 1) := by decide +kernel
theorem dX5_clear_13 : decode cX5_clear 13 = .ok (.getfield 11, 3) := by decide +kernel
theorem dX5_clear_16 : decode cX5_clear 16 = .ok (.iconst 1, 1) := by decide +kernel
theorem dX5_clear_17 : decode cX5_clear 17 = .ok (.iconst (-1), 1) := by decide +kernel
theorem dX5_clear_18 : decode cX5_clear 18 = .ok (.iastore, 1) := by decide +kernel
theorem dX5_clear_19 : decode cX5_clear 19 = .ok (.aload_n 0, 1) := by decide +kernel
theorem dX5_clear_20 : decode cX5_clear 20 = .ok (.getfield 11, 3) := by decide +kernel
theorem dX5_clear_23 : decode cX5_clear 23 = .ok (.iconst 2, 1) := by decide +kernel
theorem dX5_clear_24 : decode cX5_clear 24 = .ok (.bipush 9, 2) := by decide +kernel
theorem dX5_clear_26 : decode cX5_clear 26 = .ok (.iastore, 1) := by decide +kernel
theorem dX5_clear_27 : decode cX5_clear 27 = .ok (.aload_n 0, 1) := by decide +kernel
theorem dX5_clear_28 : decode cX5_clear 28 = .ok (.getfield 11, 3) := by decide +kernel
theorem dX5_clear_31 : decode cX5_clear 31 = .ok (.iconst 3, 1) := by decide +kernel
theorem dX5_clear_32 : decode cX5_clear 32 = .ok (.iconst 0, 1) := by decide +kernel
theorem dX5_clear_33 : decode cX5_clear 33 = .ok (.iastore, 1) := by decide +kernel
theorem dX5_clear_34 : decode cX5_clear 34 = .ok (.aload_n 0, 1) := by decide +kernel
theorem dX5_clear_35 : decode cX5_clear 35 = .ok (.getfield 11, 3) := by decide +kernel
theorem dX5_clear_38 : decode cX5_clear 38 = .ok (.iconst 4, 1) := by decide +kernel
theorem dX5_clear_39 : decode cX5_clear 39 = .ok (.iconst 0, 1) := by decide +kernel
theorem dX5_clear_40 : decode cX5_clear 40 = .ok (.iastore, 1) := by decide +kernel
theorem dX5_clear_41 : decode cX5_clear 41 = .ok (.aload_n 0, 1) := by decide +kernel
theorem dX5_clear_42 : decode cX5_clear 42 = .ok (.getfield 11, 3) := by decide +kernel
theorem dX5_clear_45 : decode cX5_clear 45 = .ok (.iconst 5, 1) := by decide +kernel
theorem dX5_clear_46 : decode cX5_clear 46 = .ok (.bipush 36, 2) := by decide +kernel
theorem dX5_clear_48 : decode cX5_clear 48 = .ok (.iastore, 1) := by decide +kernel
theorem dX5_clear_49 : decode cX5_clear 49 = .ok (.aload_n 0, 1) := by decide +kernel
theorem dX5_clear_50 : decode cX5_clear 50 = .ok (.getfield 15, 3) := by decide +kernel
theorem dX5_clear_53 : decode cX5_clear 53 = .ok (.iconst (-1), 1) := by decide +kernel
theorem dX5_clear_54 : decode cX5_clear 54 = .ok (.invokestatic 22, 3) := by decide +kernel
theorem dX5_clear_57 : decode cX5_clear 57 = .ok (.return_, 1) := by decide +kernel
theorem ggX5_propose_X5_clear : GoodIn wsX5_propose wsX5_clear := gW_in gwX5_clear (fun _ h => List.mem_cons_of_mem _ (List.mem_append_right _ (List.mem_append_right _ (h))))
set_option maxRecDepth 20000 in
theorem gX5_propose_X5_clear : GoodIn wsX5_propose (wsV RX5 28 RX5 yX5_clear wsX5_clear) := goodIn_app (goodIn_of _ (by decide +kernel)) ggX5_propose_X5_clear
theorem dX5_propose_0 : decode cX5_propose 0 = .ok (.aload_n 0, 1) := by decide +kernel
theorem dX5_propose_1 : decode cX5_propose 1 = .ok (.iconst 0, 1) := by decide +kernel
theorem dX5_propose_2 : decode cX5_propose 2 = .ok (.invokevirtual 28, 3) := by decide +kernel
theorem dX5_propose_5 : decode cX5_propose 5 = .ok (.aload_n 0, 1) := by decide +kernel
theorem dX5_propose_6 : decode cX5_propose 6 = .ok (.getfield 11, 3) := by decide +kernel
theorem dX5_propose_9 : decode cX5_propose 9 = .ok (.iconst 0, 1) := by decide +kernel
theorem dX5_propose_10 : decode cX5_propose 10 = .ok (.iload_n 1, 1) := by decide +kernel
theorem dX5_propose_11 : decode cX5_propose 11 = .ok (.iastore, 1) := by decide +kernel
theorem dX5_propose_12 : decode cX5_propose 12 = .ok (.aload_n 0, 1) := by decide +kernel
theorem dX5_propose_13 : decode cX5_propose 13 = .ok (.getfield 11, 3) := by decide +kernel
theorem dX5_propose_16 : decode cX5_propose 16 = .ok (.iconst 2, 1) := by decide +kernel
theorem dX5_propose_17 : decode cX5_propose 17 = .ok (.iload_n 2, 1) := by decide +kernel
theorem dX5_propose_18 : decode cX5_propose 18 = .ok (.iastore, 1) := by decide +kernel
theorem dX5_propose_19 : decode cX5_propose 19 = .ok (.aload_n 0, 1) := by decide +kernel
theorem dX5_propose_20 : decode cX5_propose 20 = .ok (.getfield 11, 3) := by decide +kernel
theorem dX5_propose_23 : decode cX5_propose 23 = .ok (.iconst 3, 1) := by decide +kernel
theorem dX5_propose_24 : decode cX5_propose 24 = .ok (.iload_n 3, 1) := by decide +kernel
theorem dX5_propose_25 : decode cX5_propose 25 = .ok (.iastore, 1) := by decide +kernel
theorem dX5_propose_26 : decode cX5_propose 26 = .ok (.aload_n 0, 1) := by decide +kernel
theorem dX5_propose_27 : decode cX5_propose 27 = .ok (.getfield 11, 3) := by decide +kernel
theorem dX5_propose_30 : decode cX5_propose 30 = .ok (.iconst 5, 1) := by decide +kernel
theorem dX5_propose_31 : decode cX5_propose 31 = .ok (.iload 4, 2) := by decide +kernel
theorem dX5_propose_33 : decode cX5_propose 33 = .ok (.iastore, 1) := by decide +kernel
theorem dX5_propose_34 : decode cX5_propose 34 = .ok (.return_, 1) := by decide +kernel
theorem dX5_words_0 : decode cX5_words 0 = .ok (.ldc 32, 2) := by decide +kernel
theorem dX5_words_2 : decode cX5_words 2 = .ok (.areturn, 1) := by decide +kernel
theorem dX5_mostParts_0 : decode cX5_mostParts 0 = .ok (.bipush 20, 2) := by decide +kernel
theorem dX5_mostParts_2 : decode cX5_mostParts 2 = .ok (.ireturn, 1) := by decide +kernel
theorem dX5_isFull_0 : decode cX5_isFull 0 = .ok (.iconst 0, 1) := by decide +kernel
theorem dX5_isFull_1 : decode cX5_isFull 1 = .ok (.ireturn, 1) := by decide +kernel
theorem dX5_numbers_0 : decode cX5_numbers 0 = .ok (.iload_n 1, 1) := by decide +kernel
theorem dX5_numbers_1 : decode cX5_numbers 1 = .ok (.bipush 6, 2) := by decide +kernel
theorem dX5_numbers_3 : decode cX5_numbers 3 = .ok (.if_icmp .ne 7, 3) := by decide +kernel
theorem dX5_numbers_6 : decode cX5_numbers 6 = .ok (.iconst 2, 1) := by decide +kernel
theorem dX5_numbers_7 : decode cX5_numbers 7 = .ok (.goto 4, 3) := by decide +kernel
theorem dX5_numbers_10 : decode cX5_numbers 10 = .ok (.iconst 1, 1) := by decide +kernel
theorem dX5_numbers_11 : decode cX5_numbers 11 = .ok (.ireturn, 1) := by decide +kernel
theorem dX5_low_0 : decode cX5_low 0 = .ok (.iload_n 1, 1) := by decide +kernel
theorem dX5_low_1 : decode cX5_low 1 = .ok (.iconst 5, 1) := by decide +kernel
theorem dX5_low_2 : decode cX5_low 2 = .ok (.if_icmp .ne 7, 3) := by decide +kernel
theorem dX5_low_5 : decode cX5_low 5 = .ok (.iconst 1, 1) := by decide +kernel
theorem dX5_low_6 : decode cX5_low 6 = .ok (.goto 4, 3) := by decide +kernel
theorem dX5_low_9 : decode cX5_low 9 = .ok (.iconst 0, 1) := by decide +kernel
theorem dX5_low_10 : decode cX5_low 10 = .ok (.ireturn, 1) := by decide +kernel
theorem ggX5_high_X10_within : GoodIn wsX5_high wsX10_within := gW_in gwX10_within (fun _ h => List.mem_cons_of_mem _ (List.mem_append_right _ (List.mem_append_right _ (h))))
set_option maxRecDepth 20000 in
theorem gX5_high_X10_within_n37 : GoodIn wsX5_high (wsX10_within) := ggX5_high_X10_within
theorem dX5_high_0 : decode cX5_high 0 = .ok (.iload_n 1, 1) := by decide +kernel
theorem dX5_high_1 : decode cX5_high 1 = .ok (.bipush 6, 2) := by decide +kernel
theorem dX5_high_3 : decode cX5_high 3 = .ok (.if_icmp .ne 19, 3) := by decide +kernel
theorem dX5_high_6 : decode cX5_high 6 = .ok (.iload_n 2, 1) := by decide +kernel
theorem dX5_high_7 : decode cX5_high 7 = .ok (.ifCond .ne 12, 3) := by decide +kernel
theorem dX5_high_10 : decode cX5_high 10 = .ok (.aload_n 0, 1) := by decide +kernel
theorem dX5_high_11 : decode cX5_high 11 = .ok (.getfield 18, 3) := by decide +kernel
theorem dX5_high_14 : decode cX5_high 14 = .ok (.iconst 1, 1) := by decide +kernel
theorem dX5_high_15 : decode cX5_high 15 = .ok (.isub, 1) := by decide +kernel
theorem dX5_high_16 : decode cX5_high 16 = .ok (.goto 5, 3) := by decide +kernel
theorem dX5_high_19 : decode cX5_high 19 = .ok (.bipush 35, 2) := by decide +kernel
theorem dX5_high_21 : decode cX5_high 21 = .ok (.ireturn, 1) := by decide +kernel
theorem dX5_high_22 : decode cX5_high 22 = .ok (.iload_n 1, 1) := by decide +kernel
theorem dX5_high_23 : decode cX5_high 23 = .ok (.iconst 0, 1) := by decide +kernel
theorem dX5_high_24 : decode cX5_high 24 = .ok (.getstatic 34, 3) := by decide +kernel
theorem dX5_high_27 : decode cX5_high 27 = .ok (.arraylength, 1) := by decide +kernel
theorem dX5_high_28 : decode cX5_high 28 = .ok (.iconst 1, 1) := by decide +kernel
theorem dX5_high_29 : decode cX5_high 29 = .ok (.isub, 1) := by decide +kernel
theorem dX5_high_30 : decode cX5_high 30 = .ok (.invokestatic 37, 3) := by decide +kernel
theorem dX5_high_33 : decode cX5_high 33 = .ok (.ifCond .eq 11, 3) := by decide +kernel
theorem dX5_high_36 : decode cX5_high 36 = .ok (.getstatic 34, 3) := by decide +kernel
theorem dX5_high_39 : decode cX5_high 39 = .ok (.iload_n 1, 1) := by decide +kernel
theorem dX5_high_40 : decode cX5_high 40 = .ok (.iaload, 1) := by decide +kernel
theorem dX5_high_41 : decode cX5_high 41 = .ok (.goto 4, 3) := by decide +kernel
theorem dX5_high_44 : decode cX5_high 44 = .ok (.iconst 0, 1) := by decide +kernel
theorem dX5_high_45 : decode cX5_high 45 = .ok (.ireturn, 1) := by decide +kernel
theorem ggX5_store_X10_within : GoodIn wsX5_store wsX10_within := gW_in gwX10_within (fun _ h => List.mem_cons_of_mem _ (List.mem_append_right _ (List.mem_append_right _ (h))))
set_option maxRecDepth 20000 in
theorem gX5_store_X10_within_n37 : GoodIn wsX5_store (wsX10_within) := ggX5_store_X10_within
theorem dX5_store_0 : decode cX5_store 0 = .ok (.iload_n 1, 1) := by decide +kernel
theorem dX5_store_1 : decode cX5_store 1 = .ok (.bipush 6, 2) := by decide +kernel
theorem dX5_store_3 : decode cX5_store 3 = .ok (.if_icmp .ne 29, 3) := by decide +kernel
theorem dX5_store_6 : decode cX5_store 6 = .ok (.aload_n 2, 1) := by decide +kernel
theorem dX5_store_7 : decode cX5_store 7 = .ok (.iconst 1, 1) := by decide +kernel
theorem dX5_store_8 : decode cX5_store 8 = .ok (.iaload, 1) := by decide +kernel
theorem dX5_store_9 : decode cX5_store 9 = .ok (.iconst 0, 1) := by decide +kernel
theorem dX5_store_10 : decode cX5_store 10 = .ok (.bipush 35, 2) := by decide +kernel
theorem dX5_store_12 : decode cX5_store 12 = .ok (.invokestatic 37, 3) := by decide +kernel
theorem dX5_store_15 : decode cX5_store 15 = .ok (.ifCond .eq 41, 3) := by decide +kernel
theorem dX5_store_18 : decode cX5_store 18 = .ok (.aload_n 0, 1) := by decide +kernel
theorem dX5_store_19 : decode cX5_store 19 = .ok (.getfield 15, 3) := by decide +kernel
theorem dX5_store_22 : decode cX5_store 22 = .ok (.aload_n 2, 1) := by decide +kernel
theorem dX5_store_23 : decode cX5_store 23 = .ok (.iconst 1, 1) := by decide +kernel
theorem dX5_store_24 : decode cX5_store 24 = .ok (.iaload, 1) := by decide +kernel
theorem dX5_store_25 : decode cX5_store 25 = .ok (.aload_n 2, 1) := by decide +kernel
theorem dX5_store_26 : decode cX5_store 26 = .ok (.iconst 0, 1) := by decide +kernel
theorem dX5_store_27 : decode cX5_store 27 = .ok (.iaload, 1) := by decide +kernel
theorem dX5_store_28 : decode cX5_store 28 = .ok (.iastore, 1) := by decide +kernel
theorem dX5_store_29 : decode cX5_store 29 = .ok (.goto 27, 3) := by decide +kernel
theorem dX5_store_32 : decode cX5_store 32 = .ok (.iload_n 1, 1) := by decide +kernel
theorem dX5_store_33 : decode cX5_store 33 = .ok (.iconst 0, 1) := by decide +kernel
theorem dX5_store_34 : decode cX5_store 34 = .ok (.aload_n 0, 1) := by decide +kernel
theorem dX5_store_35 : decode cX5_store 35 = .ok (.getfield 11, 3) := by decide +kernel
theorem dX5_store_38 : decode cX5_store 38 = .ok (.arraylength, 1) := by decide +kernel
theorem dX5_store_39 : decode cX5_store 39 = .ok (.iconst 1, 1) := by decide +kernel
theorem dX5_store_40 : decode cX5_store 40 = .ok (.isub, 1) := by decide +kernel
theorem dX5_store_41 : decode cX5_store 41 = .ok (.invokestatic 37, 3) := by decide +kernel
theorem dX5_store_44 : decode cX5_store 44 = .ok (.ifCond .eq 12, 3) := by decide +kernel
theorem dX5_store_47 : decode cX5_store 47 = .ok (.aload_n 0, 1) := by decide +kernel
theorem dX5_store_48 : decode cX5_store 48 = .ok (.getfield 11, 3) := by decide +kernel
theorem dX5_store_51 : decode cX5_store 51 = .ok (.iload_n 1, 1) := by decide +kernel
theorem dX5_store_52 : decode cX5_store 52 = .ok (.aload_n 2, 1) := by decide +kernel
theorem dX5_store_53 : decode cX5_store 53 = .ok (.iconst 0, 1) := by decide +kernel
theorem dX5_store_54 : decode cX5_store 54 = .ok (.iaload, 1) := by decide +kernel
theorem dX5_store_55 : decode cX5_store 55 = .ok (.iastore, 1) := by decide +kernel
theorem dX5_store_56 : decode cX5_store 56 = .ok (.return_, 1) := by decide +kernel
theorem ggX5_answer_X5_breachesTold : GoodIn wsX5_answer wsX5_breachesTold := gW_in gwX5_breachesTold (fun _ h => List.mem_cons_of_mem _ (List.mem_append_right _ (List.mem_append_right _ (List.mem_append_left _ h))))
set_option maxRecDepth 20000 in
theorem gX5_answer_X5_breachesTold : GoodIn wsX5_answer (wsV RX5 41 RX5 yX5_breachesTold wsX5_breachesTold) := goodIn_app (goodIn_of _ (by decide +kernel)) ggX5_answer_X5_breachesTold
theorem ggX5_answer_X5_winterPay : GoodIn wsX5_answer wsX5_winterPay := gW_in gwX5_winterPay (fun _ h => List.mem_cons_of_mem _ (List.mem_append_right _ (List.mem_append_right _ (List.mem_append_right _ (h)))))
set_option maxRecDepth 20000 in
theorem gX5_answer_X5_winterPay : GoodIn wsX5_answer (wsV RX5 45 RX5 yX5_winterPay wsX5_winterPay) := goodIn_app (goodIn_of _ (by decide +kernel)) ggX5_answer_X5_winterPay
theorem dX5_answer_0 : decode cX5_answer 0 = .ok (.iload_n 1, 1) := by decide +kernel
theorem dX5_answer_1 : decode cX5_answer 1 = .ok (.bipush 6, 2) := by decide +kernel
theorem dX5_answer_3 : decode cX5_answer 3 = .ok (.if_icmp .ne 8, 3) := by decide +kernel
theorem dX5_answer_6 : decode cX5_answer 6 = .ok (.aload_n 0, 1) := by decide +kernel
theorem dX5_answer_7 : decode cX5_answer 7 = .ok (.invokevirtual 41, 3) := by decide +kernel
theorem dX5_answer_10 : decode cX5_answer 10 = .ok (.ireturn, 1) := by decide +kernel
theorem dX5_answer_11 : decode cX5_answer 11 = .ok (.iload_n 1, 1) := by decide +kernel
theorem dX5_answer_12 : decode cX5_answer 12 = .ok (.iconst 1, 1) := by decide +kernel
theorem dX5_answer_13 : decode cX5_answer 13 = .ok (.if_icmp .ne 10, 3) := by decide +kernel
theorem dX5_answer_16 : decode cX5_answer 16 = .ok (.aload_n 0, 1) := by decide +kernel
theorem dX5_answer_17 : decode cX5_answer 17 = .ok (.invokevirtual 45, 3) := by decide +kernel
theorem dX5_answer_20 : decode cX5_answer 20 = .ok (.goto 9, 3) := by decide +kernel
theorem dX5_answer_23 : decode cX5_answer 23 = .ok (.aload_n 0, 1) := by decide +kernel
theorem dX5_answer_24 : decode cX5_answer 24 = .ok (.getfield 11, 3) := by decide +kernel
theorem dX5_answer_27 : decode cX5_answer 27 = .ok (.iload_n 1, 1) := by decide +kernel
theorem dX5_answer_28 : decode cX5_answer 28 = .ok (.iaload, 1) := by decide +kernel
theorem dX5_answer_29 : decode cX5_answer 29 = .ok (.ireturn, 1) := by decide +kernel
theorem dX5_winterPay_0 : decode cX5_winterPay 0 = .ok (.aload_n 0, 1) := by decide +kernel
theorem dX5_winterPay_1 : decode cX5_winterPay 1 = .ok (.getfield 11, 3) := by decide +kernel
theorem dX5_winterPay_4 : decode cX5_winterPay 4 = .ok (.iconst 1, 1) := by decide +kernel
theorem dX5_winterPay_5 : decode cX5_winterPay 5 = .ok (.iaload, 1) := by decide +kernel
theorem dX5_winterPay_6 : decode cX5_winterPay 6 = .ok (.iconst (-1), 1) := by decide +kernel
theorem dX5_winterPay_7 : decode cX5_winterPay 7 = .ok (.if_icmp .ne 12, 3) := by decide +kernel
theorem dX5_winterPay_10 : decode cX5_winterPay 10 = .ok (.aload_n 0, 1) := by decide +kernel
theorem dX5_winterPay_11 : decode cX5_winterPay 11 = .ok (.getfield 11, 3) := by decide +kernel
theorem dX5_winterPay_14 : decode cX5_winterPay 14 = .ok (.iconst 0, 1) := by decide +kernel
theorem dX5_winterPay_15 : decode cX5_winterPay 15 = .ok (.iaload, 1) := by decide +kernel
theorem dX5_winterPay_16 : decode cX5_winterPay 16 = .ok (.goto 9, 3) := by decide +kernel
theorem dX5_winterPay_19 : decode cX5_winterPay 19 = .ok (.aload_n 0, 1) := by decide +kernel
theorem dX5_winterPay_20 : decode cX5_winterPay 20 = .ok (.getfield 11, 3) := by decide +kernel
theorem dX5_winterPay_23 : decode cX5_winterPay 23 = .ok (.iconst 1, 1) := by decide +kernel
theorem dX5_winterPay_24 : decode cX5_winterPay 24 = .ok (.iaload, 1) := by decide +kernel
theorem dX5_winterPay_25 : decode cX5_winterPay 25 = .ok (.ireturn, 1) := by decide +kernel
theorem dX5_breachesTold_0 : decode cX5_breachesTold 0 = .ok (.iconst 0, 1) := by decide +kernel
theorem dX5_breachesTold_1 : decode cX5_breachesTold 1 = .ok (.istore_n 1, 1) := by decide +kernel
theorem dX5_breachesTold_2 : decode cX5_breachesTold 2 = .ok (.aload_n 0, 1) := by decide +kernel
theorem dX5_breachesTold_3 : decode cX5_breachesTold 3 = .ok (.getfield 15, 3) := by decide +kernel
theorem dX5_breachesTold_6 : decode cX5_breachesTold 6 = .ok (.astore_n 2, 1) := by decide +kernel
theorem dX5_breachesTold_7 : decode cX5_breachesTold 7 = .ok (.aload_n 2, 1) := by decide +kernel
theorem dX5_breachesTold_8 : decode cX5_breachesTold 8 = .ok (.arraylength, 1) := by decide +kernel
theorem dX5_breachesTold_9 : decode cX5_breachesTold 9 = .ok (.istore_n 3, 1) := by decide +kernel
theorem dX5_breachesTold_10 : decode cX5_breachesTold 10 = .ok (.iconst 0, 1) := by decide +kernel
theorem dX5_breachesTold_11 : decode cX5_breachesTold 11 = .ok (.istore 4, 2) := by decide +kernel
theorem dX5_breachesTold_13 : decode cX5_breachesTold 13 = .ok (.iload 4, 2) := by decide +kernel
theorem dX5_breachesTold_15 : decode cX5_breachesTold 15 = .ok (.iload_n 3, 1) := by decide +kernel
theorem dX5_breachesTold_16 : decode cX5_breachesTold 16 = .ok (.if_icmp .ge 24, 3) := by decide +kernel
theorem dX5_breachesTold_19 : decode cX5_breachesTold 19 = .ok (.aload_n 2, 1) := by decide +kernel
theorem dX5_breachesTold_20 : decode cX5_breachesTold 20 = .ok (.iload 4, 2) := by decide +kernel
theorem dX5_breachesTold_22 : decode cX5_breachesTold 22 = .ok (.iaload, 1) := by decide +kernel
theorem dX5_breachesTold_23 : decode cX5_breachesTold 23 = .ok (.istore 5, 2) := by decide +kernel
theorem dX5_breachesTold_25 : decode cX5_breachesTold 25 = .ok (.iload 5, 2) := by decide +kernel
theorem dX5_breachesTold_27 : decode cX5_breachesTold 27 = .ok (.iconst (-1), 1) := by decide +kernel
theorem dX5_breachesTold_28 : decode cX5_breachesTold 28 = .ok (.if_icmp .eq 6, 3) := by decide +kernel
theorem dX5_breachesTold_31 : decode cX5_breachesTold 31 = .ok (.iinc 1 1, 3) := by decide +kernel
theorem dX5_breachesTold_34 : decode cX5_breachesTold 34 = .ok (.iinc 4 1, 3) := by decide +kernel
theorem dX5_breachesTold_37 : decode cX5_breachesTold 37 = .ok (.goto (-24), 3) := by decide +kernel
theorem dX5_breachesTold_40 : decode cX5_breachesTold 40 = .ok (.iload_n 1, 1) := by decide +kernel
theorem dX5_breachesTold_41 : decode cX5_breachesTold 41 = .ok (.ireturn, 1) := by decide +kernel
theorem ggX5_payIn_X5_winterPay : GoodIn wsX5_payIn wsX5_winterPay := gW_in gwX5_winterPay (fun _ h => List.mem_cons_of_mem _ (List.mem_append_right _ (List.mem_append_right _ (h))))
set_option maxRecDepth 20000 in
theorem gX5_payIn_X5_winterPay : GoodIn wsX5_payIn (wsV RX5 45 RX5 yX5_winterPay wsX5_winterPay) := goodIn_app (goodIn_of _ (by decide +kernel)) ggX5_payIn_X5_winterPay
theorem dX5_payIn_0 : decode cX5_payIn 0 = .ok (.iload_n 1, 1) := by decide +kernel
theorem dX5_payIn_1 : decode cX5_payIn 1 = .ok (.bipush 12, 2) := by decide +kernel
theorem dX5_payIn_3 : decode cX5_payIn 3 = .ok (.irem, 1) := by decide +kernel
theorem dX5_payIn_4 : decode cX5_payIn 4 = .ok (.istore_n 2, 1) := by decide +kernel
theorem dX5_payIn_5 : decode cX5_payIn 5 = .ok (.iload_n 2, 1) := by decide +kernel
theorem dX5_payIn_6 : decode cX5_payIn 6 = .ok (.bipush 10, 2) := by decide +kernel
theorem dX5_payIn_8 : decode cX5_payIn 8 = .ok (.if_icmp .ge 8, 3) := by decide +kernel
theorem dX5_payIn_11 : decode cX5_payIn 11 = .ok (.iload_n 2, 1) := by decide +kernel
theorem dX5_payIn_12 : decode cX5_payIn 12 = .ok (.iconst 1, 1) := by decide +kernel
theorem dX5_payIn_13 : decode cX5_payIn 13 = .ok (.if_icmp .gt 10, 3) := by decide +kernel
theorem dX5_payIn_16 : decode cX5_payIn 16 = .ok (.aload_n 0, 1) := by decide +kernel
theorem dX5_payIn_17 : decode cX5_payIn 17 = .ok (.invokevirtual 45, 3) := by decide +kernel
theorem dX5_payIn_20 : decode cX5_payIn 20 = .ok (.goto 9, 3) := by decide +kernel
theorem dX5_payIn_23 : decode cX5_payIn 23 = .ok (.aload_n 0, 1) := by decide +kernel
theorem dX5_payIn_24 : decode cX5_payIn 24 = .ok (.getfield 11, 3) := by decide +kernel
theorem dX5_payIn_27 : decode cX5_payIn 27 = .ok (.iconst 0, 1) := by decide +kernel
theorem dX5_payIn_28 : decode cX5_payIn 28 = .ok (.iaload, 1) := by decide +kernel
theorem dX5_payIn_29 : decode cX5_payIn 29 = .ok (.ireturn, 1) := by decide +kernel
theorem ggX5_wallDue_X10_within : GoodIn wsX5_wallDue wsX10_within := gW_in gwX10_within (fun _ h => List.mem_cons_of_mem _ (List.mem_append_right _ (List.mem_append_right _ (h))))
set_option maxRecDepth 20000 in
theorem gX5_wallDue_X10_within_n37 : GoodIn wsX5_wallDue (wsX10_within) := ggX5_wallDue_X10_within
theorem dX5_wallDue_0 : decode cX5_wallDue 0 = .ok (.iload_n 1, 1) := by decide +kernel
theorem dX5_wallDue_1 : decode cX5_wallDue 1 = .ok (.iconst 0, 1) := by decide +kernel
theorem dX5_wallDue_2 : decode cX5_wallDue 2 = .ok (.bipush 35, 2) := by decide +kernel
theorem dX5_wallDue_4 : decode cX5_wallDue 4 = .ok (.invokestatic 37, 3) := by decide +kernel
theorem dX5_wallDue_7 : decode cX5_wallDue 7 = .ok (.ifCond .eq 12, 3) := by decide +kernel
theorem dX5_wallDue_10 : decode cX5_wallDue 10 = .ok (.aload_n 0, 1) := by decide +kernel
theorem dX5_wallDue_11 : decode cX5_wallDue 11 = .ok (.getfield 15, 3) := by decide +kernel
theorem dX5_wallDue_14 : decode cX5_wallDue 14 = .ok (.iload_n 1, 1) := by decide +kernel
theorem dX5_wallDue_15 : decode cX5_wallDue 15 = .ok (.iaload, 1) := by decide +kernel
theorem dX5_wallDue_16 : decode cX5_wallDue 16 = .ok (.goto 4, 3) := by decide +kernel
theorem dX5_wallDue_19 : decode cX5_wallDue 19 = .ok (.iconst (-1), 1) := by decide +kernel
theorem dX5_wallDue_20 : decode cX5_wallDue 20 = .ok (.istore_n 3, 1) := by decide +kernel
theorem dX5_wallDue_21 : decode cX5_wallDue 21 = .ok (.iload_n 3, 1) := by decide +kernel
theorem dX5_wallDue_22 : decode cX5_wallDue 22 = .ok (.iload_n 2, 1) := by decide +kernel
theorem dX5_wallDue_23 : decode cX5_wallDue 23 = .ok (.if_icmp .ge 7, 3) := by decide +kernel
theorem dX5_wallDue_26 : decode cX5_wallDue 26 = .ok (.iload_n 3, 1) := by decide +kernel
theorem dX5_wallDue_27 : decode cX5_wallDue 27 = .ok (.goto 4, 3) := by decide +kernel
theorem dX5_wallDue_30 : decode cX5_wallDue 30 = .ok (.iconst (-1), 1) := by decide +kernel
theorem dX5_wallDue_31 : decode cX5_wallDue 31 = .ok (.ireturn, 1) := by decide +kernel
theorem ggX6_init_X9_init : GoodIn wsX6_init wsX9_init := gW_in gwX9_init (fun _ h => List.mem_cons_of_mem _ (List.mem_append_right _ (List.mem_append_right _ (List.mem_append_left _ h))))
set_option maxRecDepth 20000 in
theorem gX6_init_X9_init_n3 : GoodIn wsX6_init (wsX9_init) := ggX6_init_X9_init
theorem ggX6_init_X6_clear : GoodIn wsX6_init wsX6_clear := gW_in gwX6_clear (fun _ h => List.mem_cons_of_mem _ (List.mem_append_right _ (List.mem_append_right _ (List.mem_append_right _ (h)))))
set_option maxRecDepth 20000 in
theorem gX6_init_X6_clear : GoodIn wsX6_init (wsV RX6 27 RX6 yX6_clear wsX6_clear) := goodIn_app (goodIn_of _ (by decide +kernel)) ggX6_init_X6_clear
theorem dX6_init_0 : decode cX6_init 0 = .ok (.aload_n 0, 1) := by decide +kernel
theorem dX6_init_1 : decode cX6_init 1 = .ok (.invokespecial 3, 3) := by decide +kernel
theorem dX6_init_4 : decode cX6_init 4 = .ok (.aload_n 0, 1) := by decide +kernel
theorem dX6_init_5 : decode cX6_init 5 = .ok (.getstatic 9, 3) := by decide +kernel
theorem dX6_init_8 : decode cX6_init 8 = .ok (.arraylength, 1) := by decide +kernel
theorem dX6_init_9 : decode cX6_init 9 = .ok (.newarray .int, 2) := by decide +kernel
theorem dX6_init_11 : decode cX6_init 11 = .ok (.putfield 15, 3) := by decide +kernel
theorem dX6_init_14 : decode cX6_init 14 = .ok (.aload_n 0, 1) := by decide +kernel
theorem dX6_init_15 : decode cX6_init 15 = .ok (.bipush 10, 2) := by decide +kernel
theorem dX6_init_17 : decode cX6_init 17 = .ok (.newarray .int, 2) := by decide +kernel
theorem dX6_init_19 : decode cX6_init 19 = .ok (.putfield 18, 3) := by decide +kernel
theorem dX6_init_22 : decode cX6_init 22 = .ok (.aload_n 0, 1) := by decide +kernel
theorem dX6_init_23 : decode cX6_init 23 = .ok (.bipush 6, 2) := by decide +kernel
theorem dX6_init_25 : decode cX6_init 25 = .ok (.newarray .int, 2) := by decide +kernel
theorem dX6_init_27 : decode cX6_init 27 = .ok (.putfield 21, 3) := by decide +kernel
theorem dX6_init_30 : decode cX6_init 30 = .ok (.aload_n 0, 1) := by decide +kernel
theorem dX6_init_31 : decode cX6_init 31 = .ok (.bipush 6, 2) := by decide +kernel
theorem dX6_init_33 : decode cX6_init 33 = .ok (.newarray .int, 2) := by decide +kernel
theorem dX6_init_35 : decode cX6_init 35 = .ok (.putfield 24, 3) := by decide +kernel
theorem dX6_init_38 : decode cX6_init 38 = .ok (.aload_n 0, 1) := by decide +kernel
theorem dX6_init_39 : decode cX6_init 39 = .ok (.invokevirtual 27, 3) := by decide +kernel
theorem dX6_init_42 : decode cX6_init 42 = .ok (.return_, 1) := by decide +kernel
theorem dX6_clear_0 : decode cX6_clear 0 = .ok (.aload_n 0, 1) := by decide +kernel
theorem dX6_clear_1 : decode cX6_clear 1 = .ok (.iconst 0, 1) := by decide +kernel
theorem dX6_clear_2 : decode cX6_clear 2 = .ok (.putfield 30, 3) := by decide +kernel
theorem dX6_clear_5 : decode cX6_clear 5 = .ok (.iconst 0, 1) := by decide +kernel
theorem dX6_clear_6 : decode cX6_clear 6 = .ok (.istore_n 1, 1) := by decide +kernel
theorem dX6_clear_7 : decode cX6_clear 7 = .ok (.iload_n 1, 1) := by decide +kernel
theorem dX6_clear_8 : decode cX6_clear 8 = .ok (.aload_n 0, 1) := by decide +kernel
theorem dX6_clear_9 : decode cX6_clear 9 = .ok (.getfield 15, 3) := by decide +kernel
theorem dX6_clear_12 : decode cX6_clear 12 = .ok (.arraylength, 1) := by decide +kernel
theorem dX6_clear_13 : decode cX6_clear 13 = .ok (.if_icmp .ge 20, 3) := by decide +kernel
theorem dX6_clear_16 : decode cX6_clear 16 = .ok (.aload_n 0, 1) := by decide +kernel
theorem dX6_clear_17 : decode cX6_clear 17 = .ok (.getfield 15, 3) := by decide +kernel
theorem dX6_clear_20 : decode cX6_clear 20 = .ok (.iload_n 1, 1) := by decide +kernel
theorem dX6_clear_21 : decode cX6_clear 21 = .ok (.getstatic 9, 3) := by decide +kernel
theorem dX6_clear_24 : decode cX6_clear 24 = .ok (.iload_n 1, 1) := by decide +kernel
theorem dX6_clear_25 : decode cX6_clear 25 = .ok (.iaload, 1) := by decide +kernel
theorem dX6_clear_26 : decode cX6_clear 26 = .ok (.iastore, 1) := by decide +kernel
theorem dX6_clear_27 : decode cX6_clear 27 = .ok (.iinc 1 1, 3) := by decide +kernel
theorem dX6_clear_30 : decode cX6_clear 30 = .ok (.goto (-23), 3) := by decide +kernel
theorem dX6_clear_33 : decode cX6_clear 33 = .ok (.iconst 0, 1) := by decide +kernel
theorem dX6_clear_34 : decode cX6_clear 34 = .ok (.istore_n 1, 1) := by decide +kernel
theorem dX6_clear_35 : decode cX6_clear 35 = .ok (.iload_n 1, 1) := by decide +kernel
theorem dX6_clear_36 : decode cX6_clear 36 = .ok (.aload_n 0, 1) := by decide +kernel
theorem dX6_clear_37 : decode cX6_clear 37 = .ok (.getfield 18, 3) := by decide +kernel
theorem dX6_clear_40 : decode cX6_clear 40 = .ok (.arraylength, 1) := by decide +kernel
theorem dX6_clear_41 : decode cX6_clear 41 = .ok (.if_icmp .ge 19, 3) := by decide +kernel
theorem dX6_clear_44 : decode cX6_clear 44 = .ok (.aload_n 0, 1) := by decide +kernel
theorem dX6_clear_45 : decode cX6_clear 45 = .ok (.getfield 18, 3) := by decide +kernel
theorem dX6_clear_48 : decode cX6_clear 48 = .ok (.iload_n 1, 1) := by decide +kernel
theorem dX6_clear_49 : decode cX6_clear 49 = .ok (.bipush 9, 2) := by decide +kernel
theorem dX6_clear_51 : decode cX6_clear 51 = .ok (.iload_n 1, 1) := by decide +kernel
theorem dX6_clear_52 : decode cX6_clear 52 = .ok (.isub, 1) := by decide +kernel
theorem dX6_clear_53 : decode cX6_clear 53 = .ok (.iastore, 1) := by decide +kernel
theorem dX6_clear_54 : decode cX6_clear 54 = .ok (.iinc 1 1, 3) := by decide +kernel
theorem dX6_clear_57 : decode cX6_clear 57 = .ok (.goto (-22), 3) := by decide +kernel
theorem dX6_clear_60 : decode cX6_clear 60 = .ok (.return_, 1) := by decide +kernel
theorem dX6_words_0 : decode cX6_words 0 = .ok (.ldc 34, 2) := by decide +kernel
theorem dX6_words_2 : decode cX6_words 2 = .ok (.areturn, 1) := by decide +kernel
theorem dX6_mostParts_0 : decode cX6_mostParts 0 = .ok (.bipush 60, 2) := by decide +kernel
theorem dX6_mostParts_2 : decode cX6_mostParts 2 = .ok (.ireturn, 1) := by decide +kernel
theorem dX6_isFull_0 : decode cX6_isFull 0 = .ok (.iload_n 1, 1) := by decide +kernel
theorem dX6_isFull_1 : decode cX6_isFull 1 = .ok (.ifCond .ne 16, 3) := by decide +kernel
theorem dX6_isFull_4 : decode cX6_isFull 4 = .ok (.aload_n 0, 1) := by decide +kernel
theorem dX6_isFull_5 : decode cX6_isFull 5 = .ok (.getfield 30, 3) := by decide +kernel
theorem dX6_isFull_8 : decode cX6_isFull 8 = .ok (.bipush 6, 2) := by decide +kernel
theorem dX6_isFull_10 : decode cX6_isFull 10 = .ok (.if_icmp .lt 7, 3) := by decide +kernel
theorem dX6_isFull_13 : decode cX6_isFull 13 = .ok (.iconst 1, 1) := by decide +kernel
theorem dX6_isFull_14 : decode cX6_isFull 14 = .ok (.goto 4, 3) := by decide +kernel
theorem dX6_isFull_17 : decode cX6_isFull 17 = .ok (.iconst 0, 1) := by decide +kernel
theorem dX6_isFull_18 : decode cX6_isFull 18 = .ok (.ireturn, 1) := by decide +kernel
theorem ggX6_numbers_X10_within : GoodIn wsX6_numbers wsX10_within := gW_in gwX10_within (fun _ h => List.mem_cons_of_mem _ (List.mem_append_right _ (h)))
set_option maxRecDepth 20000 in
theorem gX6_numbers_X10_within_n39 : GoodIn wsX6_numbers (wsX10_within) := ggX6_numbers_X10_within
theorem dX6_numbers_0 : decode cX6_numbers 0 = .ok (.iload_n 1, 1) := by decide +kernel
theorem dX6_numbers_1 : decode cX6_numbers 1 = .ok (.iconst 0, 1) := by decide +kernel
theorem dX6_numbers_2 : decode cX6_numbers 2 = .ok (.getstatic 36, 3) := by decide +kernel
theorem dX6_numbers_5 : decode cX6_numbers 5 = .ok (.arraylength, 1) := by decide +kernel
