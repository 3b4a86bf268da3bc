section
def dX5_breachesTold_9 := bX5_breachesTold_0.2.2.2.2.2.2.2.1
def dX5_breachesTold_10 := bX5_breachesTold_0.2.2.2.2.2.2.2.2.1
def dX5_breachesTold_11 := bX5_breachesTold_0.2.2.2.2.2.2.2.2.2.1
def dX5_breachesTold_13 := bX5_breachesTold_0.2.2.2.2.2.2.2.2.2.2.1
def dX5_breachesTold_15 := bX5_breachesTold_0.2.2.2.2.2.2.2.2.2.2.2.1
def dX5_breachesTold_16 := bX5_breachesTold_0.2.2.2.2.2.2.2.2.2.2.2.2.1
def dX5_breachesTold_19 := bX5_breachesTold_0.2.2.2.2.2.2.2.2.2.2.2.2.2.1
def dX5_breachesTold_20 := bX5_breachesTold_0.2.2.2.2.2.2.2.2.2.2.2.2.2.2.1
def dX5_breachesTold_22 := bX5_breachesTold_0.2.2.2.2.2.2.2.2.2.2.2.2.2.2.2.1
theorem bX5_breachesTold_23 : fac cX5_breachesTold [(23, .istore 5, 2), (25, .iload 5, 2), (27, .iconst (-1), 1), (28, .if_icmp .eq 6, 3), (31, .iinc 1 1, 3), (34, .iinc 4 1, 3), (37, .goto (-24), 3), (40, .iload_n 1, 1), (41, .ireturn, 1)] := fac_all 23 _ (by decide +kernel)
def dX5_breachesTold_23 := bX5_breachesTold_23.1
def dX5_breachesTold_25 := bX5_breachesTold_23.2.1
def dX5_breachesTold_27 := bX5_breachesTold_23.2.2.1
def dX5_breachesTold_28 := bX5_breachesTold_23.2.2.2.1
def dX5_breachesTold_31 := bX5_breachesTold_23.2.2.2.2.1
def dX5_breachesTold_34 := bX5_breachesTold_23.2.2.2.2.2.1
def dX5_breachesTold_37 := bX5_breachesTold_23.2.2.2.2.2.2.1
def dX5_breachesTold_40 := bX5_breachesTold_23.2.2.2.2.2.2.2.1
def dX5_breachesTold_41 := bX5_breachesTold_23.2.2.2.2.2.2.2.2.1
theorem ggX5_payIn_X5_winterPay : GoodIn wsX5_payIn wsX5_winterPay := gW_in gwX5_winterPay (fun _ h => List.mem_cons_of_mem _ (List.mem_append_right _ (List.mem_append_right _ (h))))
set_option maxRecDepth 20000 in
theorem gX5_payIn_X5_winterPay : GoodIn wsX5_payIn (wsV RX5 45 RX5 yX5_winterPay wsX5_winterPay) := goodIn_app (goodIn_of _ (by decide +kernel)) ggX5_payIn_X5_winterPay
theorem bX5_payIn_0 : fac cX5_payIn [(0, .iload_n 1, 1), (1, .bipush 12, 2), (3, .irem, 1), (4, .istore_n 2, 1), (5, .iload_n 2, 1), (6, .bipush 10, 2), (8, .if_icmp .ge 8, 3), (11, .iload_n 2, 1), (12, .iconst 1, 1), (13, .if_icmp .gt 10, 3), (16, .aload_n 0, 1), (17, .invokevirtual 45, 3), (20, .goto 9, 3), (23, .aload_n 0, 1), (24, .getfield 11, 3), (27, .iconst 0, 1)] := fac_all 0 _ (by decide +kernel)
def dX5_payIn_0 := bX5_payIn_0.1
def dX5_payIn_1 := bX5_payIn_0.2.1
def dX5_payIn_3 := bX5_payIn_0.2.2.1
def dX5_payIn_4 := bX5_payIn_0.2.2.2.1
def dX5_payIn_5 := bX5_payIn_0.2.2.2.2.1
def dX5_payIn_6 := bX5_payIn_0.2.2.2.2.2.1
def dX5_payIn_8 := bX5_payIn_0.2.2.2.2.2.2.1
def dX5_payIn_11 := bX5_payIn_0.2.2.2.2.2.2.2.1
def dX5_payIn_12 := bX5_payIn_0.2.2.2.2.2.2.2.2.1
def dX5_payIn_13 := bX5_payIn_0.2.2.2.2.2.2.2.2.2.1
def dX5_payIn_16 := bX5_payIn_0.2.2.2.2.2.2.2.2.2.2.1
def dX5_payIn_17 := bX5_payIn_0.2.2.2.2.2.2.2.2.2.2.2.1
def dX5_payIn_20 := bX5_payIn_0.2.2.2.2.2.2.2.2.2.2.2.2.1
def dX5_payIn_23 := bX5_payIn_0.2.2.2.2.2.2.2.2.2.2.2.2.2.1
def dX5_payIn_24 := bX5_payIn_0.2.2.2.2.2.2.2.2.2.2.2.2.2.2.1
def dX5_payIn_27 := bX5_payIn_0.2.2.2.2.2.2.2.2.2.2.2.2.2.2.2.1
theorem bX5_payIn_28 : fac cX5_payIn [(28, .iaload, 1), (29, .ireturn, 1)] := fac_all 28 _ (by decide +kernel)
def dX5_payIn_28 := bX5_payIn_28.1
def dX5_payIn_29 := bX5_payIn_28.2.1
theorem ggX5_wallDue_X10_within : GoodIn wsX5_wallDue wsX10_within := gW_in gwX10_within (fun _ h => List.mem_cons_of_mem _ (List.mem_append_right _ (List.mem_append_right _ (h))))
set_option maxRecDepth 20000 in
theorem gX5_wallDue_X10_within_n37 : GoodIn wsX5_wallDue (wsX10_within) := ggX5_wallDue_X10_within
theorem bX5_wallDue_0 : fac cX5_wallDue [(0, .iload_n 1, 1), (1, .iconst 0, 1), (2, .bipush 35, 2), (4, .invokestatic 37, 3), (7, .ifCond .eq 12, 3), (10, .aload_n 0, 1), (11, .getfield 15, 3), (14, .iload_n 1, 1), (15, .iaload, 1), (16, .goto 4, 3), (19, .iconst (-1), 1), (20, .istore_n 3, 1), (21, .iload_n 3, 1), (22, .iload_n 2, 1), (23, .if_icmp .ge 7, 3), (26, .iload_n 3, 1)] := fac_all 0 _ (by decide +kernel)
def dX5_wallDue_0 := bX5_wallDue_0.1
def dX5_wallDue_1 := bX5_wallDue_0.2.1
def dX5_wallDue_2 := bX5_wallDue_0.2.2.1
def dX5_wallDue_4 := bX5_wallDue_0.2.2.2.1
def dX5_wallDue_7 := bX5_wallDue_0.2.2.2.2.1
def dX5_wallDue_10 := bX5_wallDue_0.2.2.2.2.2.1
def dX5_wallDue_11 := bX5_wallDue_0.2.2.2.2.2.2.1
def dX5_wallDue_14 := bX5_wallDue_0.2.2.2.2.2.2.2.1
def dX5_wallDue_15 := bX5_wallDue_0.2.2.2.2.2.2.2.2.1
def dX5_wallDue_16 := bX5_wallDue_0.2.2.2.2.2.2.2.2.2.1
def dX5_wallDue_19 := bX5_wallDue_0.2.2.2.2.2.2.2.2.2.2.1
def dX5_wallDue_20 := bX5_wallDue_0.2.2.2.2.2.2.2.2.2.2.2.1
def dX5_wallDue_21 := bX5_wallDue_0.2.2.2.2.2.2.2.2.2.2.2.2.1
def dX5_wallDue_22 := bX5_wallDue_0.2.2.2.2.2.2.2.2.2.2.2.2.2.1
def dX5_wallDue_23 := bX5_wallDue_0.2.2.2.2.2.2.2.2.2.2.2.2.2.2.1
def dX5_wallDue_26 := bX5_wallDue_0.2.2.2.2.2.2.2.2.2.2.2.2.2.2.2.1
theorem bX5_wallDue_27 : fac cX5_wallDue [(27, .goto 4, 3), (30, .iconst (-1), 1), (31, .ireturn, 1)] := fac_all 27 _ (by decide +kernel)
def dX5_wallDue_27 := bX5_wallDue_27.1
def dX5_wallDue_30 := bX5_wallDue_27.2.1
def dX5_wallDue_31 := bX5_wallDue_27.2.2.1
theorem ggX6_init_X9_init : GoodIn wsX6_init wsX9_init := gW_in gwX9_init (fun _ h => List.mem_cons_of_mem _ (List.mem_append_right _ (List.mem_append_right _ (List.mem_append_left _ h))))
set_option maxRecDepth 20000 in
theorem gX6_init_X9_init_n3 : GoodIn wsX6_init (wsX9_init) := ggX6_init_X9_init
theorem ggX6_init_X6_clear : GoodIn wsX6_init wsX6_clear := gW_in gwX6_clear (fun _ h => List.mem_cons_of_mem _ (List.mem_append_right _ (List.mem_append_right _ (List.mem_append_right _ (h)))))
set_option maxRecDepth 20000 in
theorem gX6_init_X6_clear : GoodIn wsX6_init (wsV RX6 27 RX6 yX6_clear wsX6_clear) := goodIn_app (goodIn_of _ (by decide +kernel)) ggX6_init_X6_clear
theorem bX6_init_0 : fac cX6_init [(0, .aload_n 0, 1), (1, .invokespecial 3, 3), (4, .aload_n 0, 1), (5, .getstatic 9, 3), (8, .arraylength, 1), (9, .newarray .int, 2), (11, .putfield 15, 3), (14, .aload_n 0, 1), (15, .bipush 10, 2), (17, .newarray .int, 2), (19, .putfield 18, 3), (22, .aload_n 0, 1), (23, .bipush 6, 2), (25, .newarray .int, 2), (27, .putfield 21, 3), (30, .aload_n 0, 1)] := fac_all 0 _ (by decide +kernel)
def dX6_init_0 := bX6_init_0.1
def dX6_init_1 := bX6_init_0.2.1
def dX6_init_4 := bX6_init_0.2.2.1
def dX6_init_5 := bX6_init_0.2.2.2.1
def dX6_init_8 := bX6_init_0.2.2.2.2.1
def dX6_init_9 := bX6_init_0.2.2.2.2.2.1
def dX6_init_11 := bX6_init_0.2.2.2.2.2.2.1
def dX6_init_14 := bX6_init_0.2.2.2.2.2.2.2.1
def dX6_init_15 := bX6_init_0.2.2.2.2.2.2.2.2.1
def dX6_init_17 := bX6_init_0.2.2.2.2.2.2.2.2.2.1
def dX6_init_19 := bX6_init_0.2.2.2.2.2.2.2.2.2.2.1
def dX6_init_22 := bX6_init_0.2.2.2.2.2.2.2.2.2.2.2.1
def dX6_init_23 := bX6_init_0.2.2.2.2.2.2.2.2.2.2.2.2.1
def dX6_init_25 := bX6_init_0.2.2.2.2.2.2.2.2.2.2.2.2.2.1
def dX6_init_27 := bX6_init_0.2.2.2.2.2.2.2.2.2.2.2.2.2.2.1
def dX6_init_30 := bX6_init_0.2.2.2.2.2.2.2.2.2.2.2.2.2.2.2.1
theorem bX6_init_31 : fac cX6_init [(31, .bipush 6, 2), (33, .newarray .int, 2), (35, .putfield 24, 3), (38, .aload_n 0, 1), (39, .invokevirtual 27, 3), (42, .return_, 1)] := fac_all 31 _ (by decide +kernel)
def dX6_init_31 := bX6_init_31.1
def dX6_init_33 := bX6_init_31.2.1
def dX6_init_35 := bX6_init_31.2.2.1
def dX6_init_38 := bX6_init_31.2.2.2.1
def dX6_init_39 := bX6_init_31.2.2.2.2.1
def dX6_init_42 := bX6_init_31.2.2.2.2.2.1
theorem bX6_clear_0 : fac cX6_clear [(0, .aload_n 0, 1), (1, .iconst 0, 1), (2, .putfield 30, 3), (5, .iconst 0, 1), (6, .istore_n 1, 1), (7, .iload_n 1, 1), (8, .aload_n 0, 1), (9, .getfield 15, 3), (12, .arraylength, 1), (13, .if_icmp .ge 20, 3), (16, .aload_n 0, 1), (17, .getfield 15, 3), (20, .iload_n 1, 1), (21, .getstatic 9, 3), (24, .iload_n 1, 1), (25, .iaload, 1)] := fac_all 0 _ (by decide +kernel)
def dX6_clear_0 := bX6_clear_0.1
def dX6_clear_1 := bX6_clear_0.2.1
def dX6_clear_2 := bX6_clear_0.2.2.1
def dX6_clear_5 := bX6_clear_0.2.2.2.1
def dX6_clear_6 := bX6_clear_0.2.2.2.2.1
def dX6_clear_7 := bX6_clear_0.2.2.2.2.2.1
def dX6_clear_8 := bX6_clear_0.2.2.2.2.2.2.1
def dX6_clear_9 := bX6_clear_0.2.2.2.2.2.2.2.1
def dX6_clear_12 := bX6_clear_0.2.2.2.2.2.2.2.2.1
def dX6_clear_13 := bX6_clear_0.2.2.2.2.2.2.2.2.2.1
def dX6_clear_16 := bX6_clear_0.2.2.2.2.2.2.2.2.2.2.1
def dX6_clear_17 := bX6_clear_0.2.2.2.2.2.2.2.2.2.2.2.1
def dX6_clear_20 := bX6_clear_0.2.2.2.2.2.2.2.2.2.2.2.2.1
def dX6_clear_21 := bX6_clear_0.2.2.2.2.2.2.2.2.2.2.2.2.2.1
def dX6_clear_24 := bX6_clear_0.2.2.2.2.2.2.2.2.2.2.2.2.2.2.1
def dX6_clear_25 := bX6_clear_0.2.2.2.2.2.2.2.2.2.2.2.2.2.2.2.1
theorem bX6_clear_26 : fac cX6_clear [(26, .iastore, 1), (27, .iinc 1 1, 3), (30, .goto (-23), 3), (33, .iconst 0, 1), (34, .istore_n 1, 1), (35, .iload_n 1, 1), (36, .aload_n 0, 1), (37, .getfield 18, 3), (40, .arraylength, 1), (41, .if_icmp .ge 19, 3), (44, .aload_n 0, 1), (45, .getfield 18, 3), (48, .iload_n 1, 1), (49, .bipush 9, 2), (51, .iload_n 1, 1), (52, .isub, 1)] := fac_all 26 _ (by decide +kernel)
def dX6_clear_26 := bX6_clear_26.1
def dX6_clear_27 := bX6_clear_26.2.1
def dX6_clear_30 := bX6_clear_26.2.2.1
def dX6_clear_33 := bX6_clear_26.2.2.2.1
def dX6_clear_34 := bX6_clear_26.2.2.2.2.1
def dX6_clear_35 := bX6_clear_26.2.2.2.2.2.1
def dX6_clear_36 := bX6_clear_26.2.2.2.2.2.2.1
def dX6_clear_37 := bX6_clear_26.2.2.2.2.2.2.2.1
def dX6_clear_40 := bX6_clear_26.2.2.2.2.2.2.2.2.1
def dX6_clear_41 := bX6_clear_26.2.2.2.2.2.2.2.2.2.1
def dX6_clear_44 := bX6_clear_26.2.2.2.2.2.2.2.2.2.2.1
def dX6_clear_45 := bX6_clear_26.2.2.2.2.2.2.2.2.2.2.2.1
def dX6_clear_48 := bX6_clear_26.2.2.2.2.2.2.2.2.2.2.2.2.1
def dX6_clear_49 := bX6_clear_26.2.2.2.2.2.2.2.2.2.2.2.2.2.1
def dX6_clear_51 := bX6_clear_26.2.2.2.2.2.2.2.2.2.2.2.2.2.2.1
def dX6_clear_52 := bX6_clear_26.2.2.2.2.2.2.2.2.2.2.2.2.2.2.2.1
theorem bX6_clear_53 : fac cX6_clear [(53, .iastore, 1), (54, .iinc 1 1, 3), (57, .goto (-22), 3), (60, .return_, 1)] := fac_all 53 _ (by decide +kernel)
def dX6_clear_53 := bX6_clear_53.1
def dX6_clear_54 := bX6_clear_53.2.1
def dX6_clear_57 := bX6_clear_53.2.2.1
def dX6_clear_60 := bX6_clear_53.2.2.2.1
theorem bX6_words_0 : fac cX6_words [(0, .ldc 34, 2), (2, .areturn, 1)] := fac_all 0 _ (by decide +kernel)
def dX6_words_0 := bX6_words_0.1
def dX6_words_2 := bX6_words_0.2.1
theorem bX6_mostParts_0 : fac cX6_mostParts [(0, .bipush 60, 2), (2, .ireturn, 1)] := fac_all 0 _ (by decide +kernel)
def dX6_mostParts_0 := bX6_mostParts_0.1
def dX6_mostParts_2 := bX6_mostParts_0.2.1
theorem bX6_isFull_0 : fac cX6_isFull [(0, .iload_n 1, 1), (1, .ifCond .ne 16, 3), (4, .aload_n 0, 1), (5, .getfield 30, 3), (8, .bipush 6, 2), (10, .if_icmp .lt 7, 3), (13, .iconst 1, 1), (14, .goto 4, 3), (17, .iconst 0, 1), (18, .ireturn, 1)] := fac_all 0 _ (by decide +kernel)
def dX6_isFull_0 := bX6_isFull_0.1
def dX6_isFull_1 := bX6_isFull_0.2.1
def dX6_isFull_4 := bX6_isFull_0.2.2.1
def dX6_isFull_5 := bX6_isFull_0.2.2.2.1
def dX6_isFull_8 := bX6_isFull_0.2.2.2.2.1
def dX6_isFull_10 := bX6_isFull_0.2.2.2.2.2.1
def dX6_isFull_13 := bX6_isFull_0.2.2.2.2.2.2.1
def dX6_isFull_14 := bX6_isFull_0.2.2.2.2.2.2.2.1
def dX6_isFull_17 := bX6_isFull_0.2.2.2.2.2.2.2.2.1
def dX6_isFull_18 := bX6_isFull_0.2.2.2.2.2.2.2.2.2.1
theorem ggX6_numbers_X10_within : GoodIn wsX6_numbers wsX10_within := gW_in gwX10_within (fun _ h => List.mem_cons_of_mem _ (List.mem_append_right _ (h)))
set_option maxRecDepth 20000 in
theorem gX6_numbers_X10_within_n39 : GoodIn wsX6_numbers (wsX10_within) := ggX6_numbers_X10_within
theorem bX6_numbers_0 : fac cX6_numbers [(0, .iload_n 1, 1), (1, .iconst 0, 1), (2, .getstatic 36, 3), (5, .arraylength, 1), (6, .iconst 1, 1), (7, .isub, 1), (8, .invokestatic 39, 3), (11, .ifCond .eq 11, 3), (14, .getstatic 36, 3), (17, .iload_n 1, 1), (18, .iaload, 1), (19, .goto 4, 3), (22, .iconst 0, 1), (23, .ireturn, 1)] := fac_all 0 _ (by decide +kernel)
def dX6_numbers_0 := bX6_numbers_0.1
def dX6_numbers_1 := bX6_numbers_0.2.1
def dX6_numbers_2 := bX6_numbers_0.2.2.1
def dX6_numbers_5 := bX6_numbers_0.2.2.2.1
def dX6_numbers_6 := bX6_numbers_0.2.2.2.2.1
def dX6_numbers_7 := bX6_numbers_0.2.2.2.2.2.1
def dX6_numbers_8 := bX6_numbers_0.2.2.2.2.2.2.1
def dX6_numbers_11 := bX6_numbers_0.2.2.2.2.2.2.2.1
def dX6_numbers_14 := bX6_numbers_0.2.2.2.2.2.2.2.2.1
def dX6_numbers_17 := bX6_numbers_0.2.2.2.2.2.2.2.2.2.1
def dX6_numbers_18 := bX6_numbers_0.2.2.2.2.2.2.2.2.2.2.1
def dX6_numbers_19 := bX6_numbers_0.2.2.2.2.2.2.2.2.2.2.2.1
def dX6_numbers_23 := bX6_numbers_0.2.2.2.2.2.2.2.2.2.2.2.2.2.1
theorem bX6_low_0 : fac cX6_low [(0, .iload_n 1, 1), (1, .ifCond .ne 11, 3), (4, .iload_n 2, 1), (5, .ifCond .ne 7, 3), (8, .iconst 1, 1), (9, .goto 4, 3), (12, .iconst 0, 1), (13, .ireturn, 1)] := fac_all 0 _ (by decide +kernel)
def dX6_low_0 := bX6_low_0.1
def dX6_low_1 := bX6_low_0.2.1
def dX6_low_4 := bX6_low_0.2.2.1
def dX6_low_5 := bX6_low_0.2.2.2.1
def dX6_low_8 := bX6_low_0.2.2.2.2.1
def dX6_low_9 := bX6_low_0.2.2.2.2.2.1
def dX6_low_12 := bX6_low_0.2.2.2.2.2.2.1
def dX6_low_13 := bX6_low_0.2.2.2.2.2.2.2.1
theorem ggX6_high_X10_within : GoodIn wsX6_high wsX10_within := gW_in gwX10_within (fun _ h => List.mem_cons_of_mem _ (List.mem_append_right _ (h)))
set_option maxRecDepth 20000 in
theorem gX6_high_X10_within_n39 : GoodIn wsX6_high (wsX10_within) := ggX6_high_X10_within
theorem bX6_high_0 : fac cX6_high [(0, .iload_n 1, 1), (1, .iconst 3, 1), (2, .imul, 1), (3, .iload_n 2, 1), (4, .iadd, 1), (5, .istore_n 3, 1), (6, .iload_n 3, 1), (7, .iconst 0, 1), (8, .getstatic 43, 3), (11, .arraylength, 1), (12, .iconst 1, 1), (13, .isub, 1), (14, .invokestatic 39, 3), (17, .ifCond .eq 11, 3), (20, .getstatic 43, 3), (23, .iload_n 3, 1)] := fac_all 0 _ (by decide +kernel)
def dX6_high_0 := bX6_high_0.1
def dX6_high_1 := bX6_high_0.2.1
def dX6_high_2 := bX6_high_0.2.2.1
def dX6_high_3 := bX6_high_0.2.2.2.1
def dX6_high_4 := bX6_high_0.2.2.2.2.1
def dX6_high_5 := bX6_high_0.2.2.2.2.2.1
def dX6_high_6 := bX6_high_0.2.2.2.2.2.2.1
def dX6_high_7 := bX6_high_0.2.2.2.2.2.2.2.1
def dX6_high_8 := bX6_high_0.2.2.2.2.2.2.2.2.1
def dX6_high_11 := bX6_high_0.2.2.2.2.2.2.2.2.2.1
def dX6_high_12 := bX6_high_0.2.2.2.2.2.2.2.2.2.2.1
def dX6_high_13 := bX6_high_0.2.2.2.2.2.2.2.2.2.2.2.1
def dX6_high_14 := bX6_high_0.2.2.2.2.2.2.2.2.2.2.2.2.1
def dX6_high_17 := bX6_high_0.2.2.2.2.2.2.2.2.2.2.2.2.2.1
def dX6_high_20 := bX6_high_0.2.2.2.2.2.2.2.2.2.2.2.2.2.2.1
def dX6_high_23 := bX6_high_0.2.2.2.2.2.2.2.2.2.2.2.2.2.2.2.1
theorem bX6_high_24 : fac cX6_high [(24, .iaload, 1), (25, .goto 4, 3), (28, .iconst 0, 1), (29, .ireturn, 1)] := fac_all 24 _ (by decide +kernel)
def dX6_high_24 := bX6_high_24.1
def dX6_high_25 := bX6_high_24.2.1
def dX6_high_29 := bX6_high_24.2.2.2.1
theorem ggX6_store_X6_addWall : GoodIn wsX6_store wsX6_addWall := gW_in gwX6_addWall (fun _ h => List.mem_cons_of_mem _ (List.mem_append_right _ (List.mem_append_right _ (List.mem_append_left _ h))))
set_option maxRecDepth 20000 in
theorem gX6_store_X6_addWall : GoodIn wsX6_store (wsV RX6 46 RX6 yX6_addWall wsX6_addWall) := goodIn_app (goodIn_of _ (by decide +kernel)) ggX6_store_X6_addWall
theorem ggX6_store_X10_within : GoodIn wsX6_store wsX10_within := gW_in gwX10_within (fun _ h => List.mem_cons_of_mem _ (List.mem_append_right _ (List.mem_append_right _ (List.mem_append_right _ (List.mem_append_left _ h)))))
set_option maxRecDepth 20000 in
theorem gX6_store_X10_within_n39 : GoodIn wsX6_store (wsX10_within) := ggX6_store_X10_within
theorem ggX6_store_X6_numbers : GoodIn wsX6_store wsX6_numbers := gW_in gwX6_numbers (fun _ h => List.mem_cons_of_mem _ (List.mem_append_right _ (List.mem_append_right _ (List.mem_append_right _ (List.mem_append_right _ (h))))))
set_option maxRecDepth 20000 in
theorem gX6_store_X6_numbers : GoodIn wsX6_store (wsV RX6 50 RX6 yX6_numbers wsX6_numbers) := goodIn_app (goodIn_of _ (by decide +kernel)) ggX6_store_X6_numbers
theorem bX6_store_0 : fac cX6_store [(0, .iload_n 1, 1), (1, .ifCond .ne 16, 3), (4, .aload_n 0, 1), (5, .aload_n 2, 1), (6, .iconst 0, 1), (7, .iaload, 1), (8, .aload_n 2, 1), (9, .iconst 1, 1), (10, .iaload, 1), (11, .invokevirtual 46, 3), (14, .goto 64, 3), (17, .iload_n 1, 1), (18, .iconst 5, 1), (19, .if_icmp .ne 29, 3), (22, .aload_n 2, 1), (23, .iconst 0, 1)] := fac_all 0 _ (by decide +kernel)
def dX6_store_0 := bX6_store_0.1
def dX6_store_1 := bX6_store_0.2.1
def dX6_store_4 := bX6_store_0.2.2.1
def dX6_store_5 := bX6_store_0.2.2.2.1
def dX6_store_6 := bX6_store_0.2.2.2.2.1
def dX6_store_7 := bX6_store_0.2.2.2.2.2.1
def dX6_store_8 := bX6_store_0.2.2.2.2.2.2.1
def dX6_store_9 := bX6_store_0.2.2.2.2.2.2.2.1
def dX6_store_10 := bX6_store_0.2.2.2.2.2.2.2.2.1
def dX6_store_11 := bX6_store_0.2.2.2.2.2.2.2.2.2.1
def dX6_store_14 := bX6_store_0.2.2.2.2.2.2.2.2.2.2.1
def dX6_store_17 := bX6_store_0.2.2.2.2.2.2.2.2.2.2.2.1
def dX6_store_18 := bX6_store_0.2.2.2.2.2.2.2.2.2.2.2.2.1
def dX6_store_19 := bX6_store_0.2.2.2.2.2.2.2.2.2.2.2.2.2.1
def dX6_store_22 := bX6_store_0.2.2.2.2.2.2.2.2.2.2.2.2.2.2.1
def dX6_store_23 := bX6_store_0.2.2.2.2.2.2.2.2.2.2.2.2.2.2.2.1
theorem bX6_store_24 : fac cX6_store [(24, .iaload, 1), (25, .iconst 0, 1), (26, .bipush 9, 2), (28, .invokestatic 39, 3), (31, .ifCond .eq 47, 3), (34, .aload_n 0, 1), (35, .getfield 18, 3), (38, .aload_n 2, 1), (39, .iconst 0, 1), (40, .iaload, 1), (41, .aload_n 2, 1), (42, .iconst 1, 1), (43, .iaload, 1), (44, .iastore, 1), (45, .goto 33, 3), (48, .iconst 0, 1)] := fac_all 24 _ (by decide +kernel)
def dX6_store_24 := bX6_store_24.1
def dX6_store_25 := bX6_store_24.2.1
def dX6_store_26 := bX6_store_24.2.2.1
def dX6_store_28 := bX6_store_24.2.2.2.1
def dX6_store_31 := bX6_store_24.2.2.2.2.1
def dX6_store_34 := bX6_store_24.2.2.2.2.2.1
def dX6_store_35 := bX6_store_24.2.2.2.2.2.2.1
def dX6_store_38 := bX6_store_24.2.2.2.2.2.2.2.1
def dX6_store_39 := bX6_store_24.2.2.2.2.2.2.2.2.1
def dX6_store_40 := bX6_store_24.2.2.2.2.2.2.2.2.2.1
def dX6_store_41 := bX6_store_24.2.2.2.2.2.2.2.2.2.2.1
def dX6_store_42 := bX6_store_24.2.2.2.2.2.2.2.2.2.2.2.1
def dX6_store_43 := bX6_store_24.2.2.2.2.2.2.2.2.2.2.2.2.1
def dX6_store_44 := bX6_store_24.2.2.2.2.2.2.2.2.2.2.2.2.2.1
def dX6_store_45 := bX6_store_24.2.2.2.2.2.2.2.2.2.2.2.2.2.2.1
def dX6_store_48 := bX6_store_24.2.2.2.2.2.2.2.2.2.2.2.2.2.2.2.1
theorem bX6_store_49 : fac cX6_store [(49, .istore_n 3, 1), (50, .iload_n 3, 1), (51, .aload_n 0, 1), (52, .iload_n 1, 1), (53, .invokevirtual 50, 3), (56, .if_icmp .ge 22, 3), (59, .aload_n 0, 1), (60, .getfield 15, 3), (63, .iload_n 1, 1), (64, .iconst 3, 1), (65, .imul, 1), (66, .iload_n 3, 1), (67, .iadd, 1), (68, .aload_n 2, 1), (69, .iload_n 3, 1), (70, .iaload, 1)] := fac_all 49 _ (by decide +kernel)
def dX6_store_49 := bX6_store_49.1
def dX6_store_50 := bX6_store_49.2.1
def dX6_store_51 := bX6_store_49.2.2.1
def dX6_store_52 := bX6_store_49.2.2.2.1
def dX6_store_53 := bX6_store_49.2.2.2.2.1
def dX6_store_56 := bX6_store_49.2.2.2.2.2.1
def dX6_store_59 := bX6_store_49.2.2.2.2.2.2.1
def dX6_store_60 := bX6_store_49.2.2.2.2.2.2.2.1
def dX6_store_63 := bX6_store_49.2.2.2.2.2.2.2.2.1
def dX6_store_64 := bX6_store_49.2.2.2.2.2.2.2.2.2.1
def dX6_store_65 := bX6_store_49.2.2.2.2.2.2.2.2.2.2.1
def dX6_store_66 := bX6_store_49.2.2.2.2.2.2.2.2.2.2.2.1
def dX6_store_67 := bX6_store_49.2.2.2.2.2.2.2.2.2.2.2.2.1
def dX6_store_68 := bX6_store_49.2.2.2.2.2.2.2.2.2.2.2.2.2.1
def dX6_store_69 := bX6_store_49.2.2.2.2.2.2.2.2.2.2.2.2.2.2.1
def dX6_store_70 := bX6_store_49.2.2.2.2.2.2.2.2.2.2.2.2.2.2.2.1
theorem bX6_store_71 : fac cX6_store [(71, .iastore, 1), (72, .iinc 3 1, 3), (75, .goto (-25), 3), (78, .return_, 1)] := fac_all 71 _ (by decide +kernel)
def dX6_store_71 := bX6_store_71.1
def dX6_store_72 := bX6_store_71.2.1
def dX6_store_75 := bX6_store_71.2.2.1
def dX6_store_78 := bX6_store_71.2.2.2.1
theorem bX6_addWall_0 : fac cX6_addWall [(0, .aload_n 0, 1), (1, .getfield 30, 3), (4, .bipush 6, 2), (6, .if_icmp .ge 33, 3), (9, .aload_n 0, 1), (10, .getfield 21, 3), (13, .aload_n 0, 1), (14, .getfield 30, 3), (17, .iload_n 1, 1), (18, .iastore, 1), (19, .aload_n 0, 1), (20, .getfield 24, 3), (23, .aload_n 0, 1), (24, .getfield 30, 3), (27, .iload_n 2, 1), (28, .iastore, 1)] := fac_all 0 _ (by decide +kernel)
def dX6_addWall_0 := bX6_addWall_0.1
def dX6_addWall_1 := bX6_addWall_0.2.1
def dX6_addWall_4 := bX6_addWall_0.2.2.1
def dX6_addWall_6 := bX6_addWall_0.2.2.2.1
def dX6_addWall_9 := bX6_addWall_0.2.2.2.2.1
def dX6_addWall_10 := bX6_addWall_0.2.2.2.2.2.1
def dX6_addWall_13 := bX6_addWall_0.2.2.2.2.2.2.1
def dX6_addWall_14 := bX6_addWall_0.2.2.2.2.2.2.2.1
def dX6_addWall_17 := bX6_addWall_0.2.2.2.2.2.2.2.2.1
def dX6_addWall_18 := bX6_addWall_0.2.2.2.2.2.2.2.2.2.1
def dX6_addWall_19 := bX6_addWall_0.2.2.2.2.2.2.2.2.2.2.1
def dX6_addWall_20 := bX6_addWall_0.2.2.2.2.2.2.2.2.2.2.2.1
def dX6_addWall_23 := bX6_addWall_0.2.2.2.2.2.2.2.2.2.2.2.2.1
def dX6_addWall_24 := bX6_addWall_0.2.2.2.2.2.2.2.2.2.2.2.2.2.1
def dX6_addWall_27 := bX6_addWall_0.2.2.2.2.2.2.2.2.2.2.2.2.2.2.1
def dX6_addWall_28 := bX6_addWall_0.2.2.2.2.2.2.2.2.2.2.2.2.2.2.2.1
theorem bX6_addWall_29 : fac cX6_addWall [(29, .aload_n 0, 1), (30, .dup, 1), (31, .getfield 30, 3), (34, .iconst 1, 1), (35, .iadd, 1), (36, .putfield 30, 3), (39, .return_, 1)] := fac_all 29 _ (by decide +kernel)
def dX6_addWall_29 := bX6_addWall_29.1
def dX6_addWall_30 := bX6_addWall_29.2.1
def dX6_addWall_31 := bX6_addWall_29.2.2.1
def dX6_addWall_34 := bX6_addWall_29.2.2.2.1
def dX6_addWall_35 := bX6_addWall_29.2.2.2.2.1
def dX6_addWall_36 := bX6_addWall_29.2.2.2.2.2.1
def dX6_addWall_39 := bX6_addWall_29.2.2.2.2.2.2.1
theorem ggX6_fearAt_X10_within : GoodIn wsX6_fearAt wsX10_within := gW_in gwX10_within (fun _ h => List.mem_cons_of_mem _ (List.mem_append_right _ (List.mem_append_right _ (h))))
set_option maxRecDepth 20000 in
theorem gX6_fearAt_X10_within_n39 : GoodIn wsX6_fearAt (wsX10_within) := ggX6_fearAt_X10_within
theorem bX6_fearAt_0 : fac cX6_fearAt [(0, .iload_n 1, 1), (1, .iconst 0, 1), (2, .bipush 9, 2), (4, .invokestatic 39, 3), (7, .ifCond .eq 12, 3), (10, .aload_n 0, 1), (11, .getfield 18, 3), (14, .iload_n 1, 1), (15, .iaload, 1), (16, .goto 4, 3), (19, .iconst 0, 1), (20, .ireturn, 1)] := fac_all 0 _ (by decide +kernel)
def dX6_fearAt_0 := bX6_fearAt_0.1
def dX6_fearAt_1 := bX6_fearAt_0.2.1
def dX6_fearAt_2 := bX6_fearAt_0.2.2.1
def dX6_fearAt_4 := bX6_fearAt_0.2.2.2.1
def dX6_fearAt_7 := bX6_fearAt_0.2.2.2.2.1
def dX6_fearAt_10 := bX6_fearAt_0.2.2.2.2.2.1
def dX6_fearAt_11 := bX6_fearAt_0.2.2.2.2.2.2.1
def dX6_fearAt_14 := bX6_fearAt_0.2.2.2.2.2.2.2.1
def dX6_fearAt_15 := bX6_fearAt_0.2.2.2.2.2.2.2.2.1
def dX6_fearAt_16 := bX6_fearAt_0.2.2.2.2.2.2.2.2.2.1
def dX6_fearAt_19 := bX6_fearAt_0.2.2.2.2.2.2.2.2.2.2.1
def dX6_fearAt_20 := bX6_fearAt_0.2.2.2.2.2.2.2.2.2.2.2.1
theorem bX6_wanted_0 : fac cX6_wanted [(0, .aload_n 0, 1), (1, .getfield 15, 3), (4, .bipush 21, 2), (6, .iaload, 1), (7, .aload_n 0, 1), (8, .getfield 15, 3), (11, .bipush 22, 2), (13, .iaload, 1), (14, .iload_n 2, 1), (15, .imul, 1), (16, .iadd, 1), (17, .aload_n 0, 1), (18, .getfield 15, 3), (21, .bipush 21, 2), (23, .iaload, 1), (24, .bipush 9, 2)] := fac_all 0 _ (by decide +kernel)
def dX6_wanted_0 := bX6_wanted_0.1
def dX6_wanted_1 := bX6_wanted_0.2.1
def dX6_wanted_4 := bX6_wanted_0.2.2.1
def dX6_wanted_6 := bX6_wanted_0.2.2.2.1
def dX6_wanted_7 := bX6_wanted_0.2.2.2.2.1
def dX6_wanted_8 := bX6_wanted_0.2.2.2.2.2.1
def dX6_wanted_11 := bX6_wanted_0.2.2.2.2.2.2.1
def dX6_wanted_13 := bX6_wanted_0.2.2.2.2.2.2.2.1
def dX6_wanted_14 := bX6_wanted_0.2.2.2.2.2.2.2.2.1
def dX6_wanted_15 := bX6_wanted_0.2.2.2.2.2.2.2.2.2.1
def dX6_wanted_16 := bX6_wanted_0.2.2.2.2.2.2.2.2.2.2.1
def dX6_wanted_17 := bX6_wanted_0.2.2.2.2.2.2.2.2.2.2.2.1
def dX6_wanted_18 := bX6_wanted_0.2.2.2.2.2.2.2.2.2.2.2.2.1
def dX6_wanted_21 := bX6_wanted_0.2.2.2.2.2.2.2.2.2.2.2.2.2.1
def dX6_wanted_23 := bX6_wanted_0.2.2.2.2.2.2.2.2.2.2.2.2.2.2.1
def dX6_wanted_24 := bX6_wanted_0.2.2.2.2.2.2.2.2.2.2.2.2.2.2.2.1
theorem bX6_wanted_26 : fac cX6_wanted [(26, .iload_n 1, 1), (27, .isub, 1), (28, .imul, 1), (29, .iadd, 1), (30, .ireturn, 1)] := fac_all 26 _ (by decide +kernel)
def dX6_wanted_26 := bX6_wanted_26.1
def dX6_wanted_27 := bX6_wanted_26.2.1
def dX6_wanted_28 := bX6_wanted_26.2.2.1
def dX6_wanted_29 := bX6_wanted_26.2.2.2.1
def dX6_wanted_30 := bX6_wanted_26.2.2.2.2.1
theorem bX7_init_0 : fac cX7_init [(0, .aload_n 0, 1), (1, .invokespecial 3, 3), (4, .aload_n 0, 1), (5, .iconst 0, 1), (6, .newarray .byte, 2), (8, .putfield 9, 3), (11, .aload_n 0, 1), (12, .iconst (-1), 1), (13, .putfield 15, 3), (16, .aload_n 0, 1), (17, .iconst 3, 1), (18, .newarray .int, 2), (20, .putfield 19, 3), (23, .return_, 1)] := fac_all 0 _ (by decide +kernel)
def dX7_init_0 := bX7_init_0.1
def dX7_init_1 := bX7_init_0.2.1
def dX7_init_4 := bX7_init_0.2.2.1
def dX7_init_5 := bX7_init_0.2.2.2.1
def dX7_init_6 := bX7_init_0.2.2.2.2.1
def dX7_init_8 := bX7_init_0.2.2.2.2.2.1
def dX7_init_11 := bX7_init_0.2.2.2.2.2.2.1
def dX7_init_12 := bX7_init_0.2.2.2.2.2.2.2.1
def dX7_init_13 := bX7_init_0.2.2.2.2.2.2.2.2.1
def dX7_init_16 := bX7_init_0.2.2.2.2.2.2.2.2.2.1
def dX7_init_17 := bX7_init_0.2.2.2.2.2.2.2.2.2.2.1
def dX7_init_18 := bX7_init_0.2.2.2.2.2.2.2.2.2.2.2.1
def dX7_init_20 := bX7_init_0.2.2.2.2.2.2.2.2.2.2.2.2.1
def dX7_init_23 := bX7_init_0.2.2.2.2.2.2.2.2.2.2.2.2.2.1
theorem ggX7_read_X5_mostParts : GoodIn wsX7_read wsX5_mostParts := gW_in gwX5_mostParts (fun _ h => List.mem_cons_of_mem _ (List.mem_append_right _ (List.mem_append_right _ (List.mem_append_right _ (List.mem_append_right _ (List.mem_append_left _ h))))))
set_option maxRecDepth 20000 in
theorem gX7_read_X5_mostParts_u38X5 : GoodIn wsX7_read (va_wsU RX7 38 RX5 "HiredEnemy$Telling" ⟨"HiredEnemy$Telling", "mostParts", "()I"⟩ yX5_mostParts wsX5_mostParts) := goodIn_app (goodIn_of _ (by decide +kernel)) ggX7_read_X5_mostParts
theorem ggX7_read_X6_mostParts : GoodIn wsX7_read wsX6_mostParts := gW_in gwX6_mostParts (fun _ h => List.mem_cons_of_mem _ (List.mem_append_right _ (List.mem_append_right _ (List.mem_append_right _ (List.mem_append_right _ (List.mem_append_right _ (List.mem_append_left _ h)))))))
set_option maxRecDepth 20000 in
theorem gX7_read_X6_mostParts_u38X6 : GoodIn wsX7_read (va_wsU RX7 38 RX6 "HiredEnemy$Telling" ⟨"HiredEnemy$Telling", "mostParts", "()I"⟩ yX6_mostParts wsX6_mostParts) := goodIn_app (goodIn_of _ (by decide +kernel)) ggX7_read_X6_mostParts
theorem ggX7_read_X7_skipBlanks : GoodIn wsX7_read wsX7_skipBlanks := gW_in gwX7_skipBlanks (fun _ h => List.mem_cons_of_mem _ (List.mem_append_right _ (List.mem_append_right _ (List.mem_append_right _ (List.mem_append_right _ (List.mem_append_right _ (List.mem_append_right _ (List.mem_append_left _ h))))))))
set_option maxRecDepth 20000 in
theorem gX7_read_X7_skipBlanks : GoodIn wsX7_read (wsV RX7 44 RX7 yX7_skipBlanks wsX7_skipBlanks) := goodIn_app (goodIn_of _ (by decide +kernel)) ggX7_read_X7_skipBlanks
theorem ggX7_read_X7_readPart : GoodIn wsX7_read wsX7_readPart := gW_in gwX7_readPart (fun _ h => List.mem_cons_of_mem _ (List.mem_append_right _ (List.mem_append_right _ (List.mem_append_right _ (List.mem_append_right _ (List.mem_append_right _ (List.mem_append_right _ (List.mem_append_right _ (h)))))))))
set_option maxRecDepth 20000 in
theorem gX7_read_X7_readPart : GoodIn wsX7_read (wsV RX7 47 RX7 yX7_readPart wsX7_readPart) := goodIn_app (goodIn_of _ (by decide +kernel)) ggX7_read_X7_readPart
theorem bX7_read_0 : fac cX7_read [(0, .aload_n 0, 1), (1, .aload_n 1, 1), (2, .putfield 9, 3), (5, .aload_n 0, 1), (6, .iload_n 2, 1), (7, .aload_n 1, 1), (8, .arraylength, 1), (9, .invokestatic 23, 3), (12, .putfield 29, 3), (15, .aload_n 0, 1), (16, .iconst 0, 1), (17, .putfield 32, 3), (20, .aload_n 0, 1), (21, .iconst 0, 1), (22, .putfield 35, 3), (25, .aload_n 0, 1)] := fac_all 0 _ (by decide +kernel)
def dX7_read_0 := bX7_read_0.1
def dX7_read_1 := bX7_read_0.2.1
def dX7_read_2 := bX7_read_0.2.2.1
def dX7_read_5 := bX7_read_0.2.2.2.1
def dX7_read_6 := bX7_read_0.2.2.2.2.1
def dX7_read_7 := bX7_read_0.2.2.2.2.2.1
def dX7_read_8 := bX7_read_0.2.2.2.2.2.2.1
def dX7_read_9 := bX7_read_0.2.2.2.2.2.2.2.1
def dX7_read_12 := bX7_read_0.2.2.2.2.2.2.2.2.1
def dX7_read_15 := bX7_read_0.2.2.2.2.2.2.2.2.2.1
def dX7_read_16 := bX7_read_0.2.2.2.2.2.2.2.2.2.2.1
def dX7_read_17 := bX7_read_0.2.2.2.2.2.2.2.2.2.2.2.1
def dX7_read_20 := bX7_read_0.2.2.2.2.2.2.2.2.2.2.2.2.1
def dX7_read_21 := bX7_read_0.2.2.2.2.2.2.2.2.2.2.2.2.2.1
def dX7_read_22 := bX7_read_0.2.2.2.2.2.2.2.2.2.2.2.2.2.2.1
def dX7_read_25 := bX7_read_0.2.2.2.2.2.2.2.2.2.2.2.2.2.2.2.1
theorem bX7_read_26 : fac cX7_read [(26, .iconst (-1), 1), (27, .putfield 15, 3), (30, .iconst 0, 1), (31, .istore 4, 2), (33, .iload 4, 2), (35, .aload_n 3, 1), (36, .invokevirtual 38, 3), (39, .if_icmp .gt 37, 3), (42, .aload_n 0, 1), (43, .invokevirtual 44, 3), (46, .aload_n 0, 1), (47, .getfield 32, 3), (50, .aload_n 0, 1), (51, .getfield 29, 3), (54, .if_icmp .ge 22, 3), (57, .aload_n 0, 1)] := fac_all 26 _ (by decide +kernel)
def dX7_read_26 := bX7_read_26.1
def dX7_read_27 := bX7_read_26.2.1
def dX7_read_30 := bX7_read_26.2.2.1
def dX7_read_31 := bX7_read_26.2.2.2.1
def dX7_read_33 := bX7_read_26.2.2.2.2.1
def dX7_read_35 := bX7_read_26.2.2.2.2.2.1
def dX7_read_36 := bX7_read_26.2.2.2.2.2.2.1
def dX7_read_39 := bX7_read_26.2.2.2.2.2.2.2.1
def dX7_read_42 := bX7_read_26.2.2.2.2.2.2.2.2.1
def dX7_read_43 := bX7_read_26.2.2.2.2.2.2.2.2.2.1
def dX7_read_46 := bX7_read_26.2.2.2.2.2.2.2.2.2.2.1
def dX7_read_47 := bX7_read_26.2.2.2.2.2.2.2.2.2.2.2.1
def dX7_read_50 := bX7_read_26.2.2.2.2.2.2.2.2.2.2.2.2.1
def dX7_read_51 := bX7_read_26.2.2.2.2.2.2.2.2.2.2.2.2.2.1
def dX7_read_54 := bX7_read_26.2.2.2.2.2.2.2.2.2.2.2.2.2.2.1
def dX7_read_57 := bX7_read_26.2.2.2.2.2.2.2.2.2.2.2.2.2.2.2.1
theorem bX7_read_58 : fac cX7_read [(58, .aload_n 3, 1), (59, .iload 4, 2), (61, .invokevirtual 47, 3), (64, .ifCond .ne 6, 3), (67, .goto 9, 3), (70, .iinc 4 1, 3), (73, .goto (-40), 3), (76, .aload_n 0, 1), (77, .getfield 35, 3), (80, .ireturn, 1)] := fac_all 58 _ (by decide +kernel)
def dX7_read_58 := bX7_read_58.1
def dX7_read_59 := bX7_read_58.2.1
def dX7_read_61 := bX7_read_58.2.2.1
def dX7_read_64 := bX7_read_58.2.2.2.1
def dX7_read_67 := bX7_read_58.2.2.2.2.1
def dX7_read_70 := bX7_read_58.2.2.2.2.2.1
def dX7_read_73 := bX7_read_58.2.2.2.2.2.2.1
def dX7_read_76 := bX7_read_58.2.2.2.2.2.2.2.1
def dX7_read_77 := bX7_read_58.2.2.2.2.2.2.2.2.1
def dX7_read_80 := bX7_read_58.2.2.2.2.2.2.2.2.2.1
theorem ggX7_readPart_X7_skipLetters : GoodIn wsX7_readPart wsX7_skipLetters := gW_in gwX7_skipLetters (fun _ h => List.mem_cons_of_mem _ (List.mem_append_right _ (List.mem_append_right _ (List.mem_append_right _ (List.mem_append_right _ (List.mem_append_left _ h))))))
set_option maxRecDepth 20000 in
theorem gX7_readPart_X7_skipLetters : GoodIn wsX7_readPart (wsV RX7 51 RX7 yX7_skipLetters wsX7_skipLetters) := goodIn_app (goodIn_of _ (by decide +kernel)) ggX7_readPart_X7_skipLetters
theorem ggX7_readPart_X5_words : GoodIn wsX7_readPart wsX5_words := gW_in gwX5_words (fun _ h => List.mem_cons_of_mem _ (List.mem_append_right _ (List.mem_append_right _ (List.mem_append_right _ (List.mem_append_right _ (List.mem_append_right _ (List.mem_append_left _ h)))))))
set_option maxRecDepth 20000 in
theorem gX7_readPart_X5_words_u54X5 : GoodIn wsX7_readPart (va_wsU RX7 54 RX5 "HiredEnemy$Telling" ⟨"HiredEnemy$Telling", "words", "()Ljava/lang/String;"⟩ yX5_words wsX5_words) := goodIn_app (goodIn_of _ (by decide +kernel)) ggX7_readPart_X5_words
theorem ggX7_readPart_X6_words : GoodIn wsX7_readPart wsX6_words := gW_in gwX6_words (fun _ h => List.mem_cons_of_mem _ (List.mem_append_right _ (List.mem_append_right _ (List.mem_append_right _ (List.mem_append_right _ (List.mem_append_right _ (List.mem_append_right _ (List.mem_append_left _ h))))))))
set_option maxRecDepth 20000 in
theorem gX7_readPart_X6_words_u54X6 : GoodIn wsX7_readPart (va_wsU RX7 54 RX6 "HiredEnemy$Telling" ⟨"HiredEnemy$Telling", "words", "()Ljava/lang/String;"⟩ yX6_words wsX6_words) := goodIn_app (goodIn_of _ (by decide +kernel)) ggX7_readPart_X6_words
theorem ggX7_readPart_X7_kindOf : GoodIn wsX7_readPart wsX7_kindOf := gW_in gwX7_kindOf (fun _ h => List.mem_cons_of_mem _ (List.mem_append_right _ (List.mem_append_right _ (List.mem_append_right _ (List.mem_append_right _ (List.mem_append_right _ (List.mem_append_right _ (List.mem_append_right _ (List.mem_append_left _ h)))))))))
set_option maxRecDepth 20000 in
theorem gX7_readPart_X7_kindOf : GoodIn wsX7_readPart (wsV RX7 58 RX7 yX7_kindOf wsX7_kindOf) := goodIn_app (goodIn_of _ (by decide +kernel)) ggX7_readPart_X7_kindOf
theorem ggX7_readPart_X7_fail : GoodIn wsX7_readPart wsX7_fail := gW_in gwX7_fail (fun _ h => List.mem_cons_of_mem _ (List.mem_append_right _ (List.mem_append_right _ (List.mem_append_right _ (List.mem_append_right _ (List.mem_append_right _ (List.mem_append_right _ (List.mem_append_right _ (List.mem_append_right _ (List.mem_append_left _ h))))))))))
set_option maxRecDepth 20000 in
theorem gX7_readPart_X7_fail : GoodIn wsX7_readPart (wsV RX7 62 RX7 yX7_fail wsX7_fail) := goodIn_app (goodIn_of _ (by decide +kernel)) ggX7_readPart_X7_fail
theorem ggX7_readPart_X5_mostParts : GoodIn wsX7_readPart wsX5_mostParts := gW_in gwX5_mostParts (fun _ h => List.mem_cons_of_mem _ (List.mem_append_right _ (List.mem_append_right _ (List.mem_append_right _ (List.mem_append_right _ (List.mem_append_right _ (List.mem_append_right _ (List.mem_append_right _ (List.mem_append_right _ (List.mem_append_right _ (List.mem_append_left _ h)))))))))))
set_option maxRecDepth 20000 in
theorem gX7_readPart_X5_mostParts_u38X5 : GoodIn wsX7_readPart (va_wsU RX7 38 RX5 "HiredEnemy$Telling" ⟨"HiredEnemy$Telling", "mostParts", "()I"⟩ yX5_mostParts wsX5_mostParts) := goodIn_app (goodIn_of _ (by decide +kernel)) ggX7_readPart_X5_mostParts
theorem ggX7_readPart_X6_mostParts : GoodIn wsX7_readPart wsX6_mostParts := gW_in gwX6_mostParts (fun _ h => List.mem_cons_of_mem _ (List.mem_append_right _ (List.mem_append_right _ (List.mem_append_right _ (List.mem_append_right _ (List.mem_append_right _ (List.mem_append_right _ (List.mem_append_right _ (List.mem_append_right _ (List.mem_append_right _ (List.mem_append_right _ (List.mem_append_left _ h))))))))))))
set_option maxRecDepth 20000 in
theorem gX7_readPart_X6_mostParts_u38X6 : GoodIn wsX7_readPart (va_wsU RX7 38 RX6 "HiredEnemy$Telling" ⟨"HiredEnemy$Telling", "mostParts", "()I"⟩ yX6_mostParts wsX6_mostParts) := goodIn_app (goodIn_of _ (by decide +kernel)) ggX7_readPart_X6_mostParts
theorem ggX7_readPart_X5_isFull : GoodIn wsX7_readPart wsX5_isFull := gW_in gwX5_isFull (fun _ h => List.mem_cons_of_mem _ (List.mem_append_right _ (List.mem_append_right _ (List.mem_append_right _ (List.mem_append_right _ (List.mem_append_right _ (List.mem_append_right _ (List.mem_append_right _ (List.mem_append_right _ (List.mem_append_right _ (List.mem_append_right _ (List.mem_append_right _ (List.mem_append_left _ h)))))))))))))
set_option maxRecDepth 20000 in
theorem gX7_readPart_X5_isFull_u66X5 : GoodIn wsX7_readPart (va_wsU RX7 66 RX5 "HiredEnemy$Telling" ⟨"HiredEnemy$Telling", "isFull", "(I)Z"⟩ yX5_isFull wsX5_isFull) := goodIn_app (goodIn_of _ (by decide +kernel)) ggX7_readPart_X5_isFull
theorem ggX7_readPart_X6_isFull : GoodIn wsX7_readPart wsX6_isFull := gW_in gwX6_isFull (fun _ h => List.mem_cons_of_mem _ (List.mem_append_right _ (List.mem_append_right _ (List.mem_append_right _ (List.mem_append_right _ (List.mem_append_right _ (List.mem_append_right _ (List.mem_append_right _ (List.mem_append_right _ (List.mem_append_right _ (List.mem_append_right _ (List.mem_append_right _ (List.mem_append_right _ (List.mem_append_left _ h))))))))))))))
set_option maxRecDepth 20000 in
theorem gX7_readPart_X6_isFull_u66X6 : GoodIn wsX7_readPart (va_wsU RX7 66 RX6 "HiredEnemy$Telling" ⟨"HiredEnemy$Telling", "isFull", "(I)Z"⟩ yX6_isFull wsX6_isFull) := goodIn_app (goodIn_of _ (by decide +kernel)) ggX7_readPart_X6_isFull
theorem ggX7_readPart_X5_numbers : GoodIn wsX7_readPart wsX5_numbers := gW_in gwX5_numbers (fun _ h => List.mem_cons_of_mem _ (List.mem_append_right _ (List.mem_append_right _ (List.mem_append_right _ (List.mem_append_right _ (List.mem_append_right _ (List.mem_append_right _ (List.mem_append_right _ (List.mem_append_right _ (List.mem_append_right _ (List.mem_append_right _ (List.mem_append_right _ (List.mem_append_right _ (List.mem_append_right _ (List.mem_append_left _ h)))))))))))))))
set_option maxRecDepth 20000 in
theorem gX7_readPart_X5_numbers_u70X5 : GoodIn wsX7_readPart (va_wsU RX7 70 RX5 "HiredEnemy$Telling" ⟨"HiredEnemy$Telling", "numbers", "(I)I"⟩ yX5_numbers wsX5_numbers) := goodIn_app (goodIn_of _ (by decide +kernel)) ggX7_readPart_X5_numbers
theorem ggX7_readPart_X6_numbers : GoodIn wsX7_readPart wsX6_numbers := gW_in gwX6_numbers (fun _ h => List.mem_cons_of_mem _ (List.mem_append_right _ (List.mem_append_right _ (List.mem_append_right _ (List.mem_append_right _ (List.mem_append_right _ (List.mem_append_right _ (List.mem_append_right _ (List.mem_append_right _ (List.mem_append_right _ (List.mem_append_right _ (List.mem_append_right _ (List.mem_append_right _ (List.mem_append_right _ (List.mem_append_right _ (List.mem_append_left _ h))))))))))))))))
set_option maxRecDepth 20000 in
theorem gX7_readPart_X6_numbers_u70X6 : GoodIn wsX7_readPart (va_wsU RX7 70 RX6 "HiredEnemy$Telling" ⟨"HiredEnemy$Telling", "numbers", "(I)I"⟩ yX6_numbers wsX6_numbers) := goodIn_app (goodIn_of _ (by decide +kernel)) ggX7_readPart_X6_numbers
theorem ggX7_readPart_X5_low : GoodIn wsX7_readPart wsX5_low := gW_in gwX5_low (fun _ h => List.mem_cons_of_mem _ (List.mem_append_right _ (List.mem_append_right _ (List.mem_append_right _ (List.mem_append_right _ (List.mem_append_right _ (List.mem_append_right _ (List.mem_append_right _ (List.mem_append_right _ (List.mem_append_right _ (List.mem_append_right _ (List.mem_append_right _ (List.mem_append_right _ (List.mem_append_right _ (List.mem_append_right _ (List.mem_append_right _ (List.mem_append_left _ h)))))))))))))))))
set_option maxRecDepth 20000 in
theorem gX7_readPart_X5_low_u73X5 : GoodIn wsX7_readPart (va_wsU RX7 73 RX5 "HiredEnemy$Telling" ⟨"HiredEnemy$Telling", "low", "(II)I"⟩ yX5_low wsX5_low) := goodIn_app (goodIn_of _ (by decide +kernel)) ggX7_readPart_X5_low
theorem ggX7_readPart_X6_low : GoodIn wsX7_readPart wsX6_low := gW_in gwX6_low (fun _ h => List.mem_cons_of_mem _ (List.mem_append_right _ (List.mem_append_right _ (List.mem_append_right _ (List.mem_append_right _ (List.mem_append_right _ (List.mem_append_right _ (List.mem_append_right _ (List.mem_append_right _ (List.mem_append_right _ (List.mem_append_right _ (List.mem_append_right _ (List.mem_append_right _ (List.mem_append_right _ (List.mem_append_right _ (List.mem_append_right _ (List.mem_append_right _ (List.mem_append_left _ h))))))))))))))))))
set_option maxRecDepth 20000 in
theorem gX7_readPart_X6_low_u73X6 : GoodIn wsX7_readPart (va_wsU RX7 73 RX6 "HiredEnemy$Telling" ⟨"HiredEnemy$Telling", "low", "(II)I"⟩ yX6_low wsX6_low) := goodIn_app (goodIn_of _ (by decide +kernel)) ggX7_readPart_X6_low
theorem ggX7_readPart_X5_high : GoodIn wsX7_readPart wsX5_high := gW_in gwX5_high (fun _ h => List.mem_cons_of_mem _ (List.mem_append_right _ (List.mem_append_right _ (List.mem_append_right _ (List.mem_append_right _ (List.mem_append_right _ (List.mem_append_right _ (List.mem_append_right _ (List.mem_append_right _ (List.mem_append_right _ (List.mem_append_right _ (List.mem_append_right _ (List.mem_append_right _ (List.mem_append_right _ (List.mem_append_right _ (List.mem_append_right _ (List.mem_append_right _ (List.mem_append_right _ (List.mem_append_left _ h)))))))))))))))))))
set_option maxRecDepth 20000 in
theorem gX7_readPart_X5_high_u76X5 : GoodIn wsX7_readPart (va_wsU RX7 76 RX5 "HiredEnemy$Telling" ⟨"HiredEnemy$Telling", "high", "(II)I"⟩ yX5_high wsX5_high) := goodIn_app (goodIn_of _ (by decide +kernel)) ggX7_readPart_X5_high
theorem ggX7_readPart_X6_high : GoodIn wsX7_readPart wsX6_high := gW_in gwX6_high (fun _ h => List.mem_cons_of_mem _ (List.mem_append_right _ (List.mem_append_right _ (List.mem_append_right _ (List.mem_append_right _ (List.mem_append_right _ (List.mem_append_right _ (List.mem_append_right _ (List.mem_append_right _ (List.mem_append_right _ (List.mem_append_right _ (List.mem_append_right _ (List.mem_append_right _ (List.mem_append_right _ (List.mem_append_right _ (List.mem_append_right _ (List.mem_append_right _ (List.mem_append_right _ (List.mem_append_right _ (List.mem_append_left _ h))))))))))))))))))))
set_option maxRecDepth 20000 in
theorem gX7_readPart_X6_high_u76X6 : GoodIn wsX7_readPart (va_wsU RX7 76 RX6 "HiredEnemy$Telling" ⟨"HiredEnemy$Telling", "high", "(II)I"⟩ yX6_high wsX6_high) := goodIn_app (goodIn_of _ (by decide +kernel)) ggX7_readPart_X6_high
theorem ggX7_readPart_X7_readNumber : GoodIn wsX7_readPart wsX7_readNumber := gW_in gwX7_readNumber (fun _ h => List.mem_cons_of_mem _ (List.mem_append_right _ (List.mem_append_right _ (List.mem_append_right _ (List.mem_append_right _ (List.mem_append_right _ (List.mem_append_right _ (List.mem_append_right _ (List.mem_append_right _ (List.mem_append_right _ (List.mem_append_right _ (List.mem_append_right _ (List.mem_append_right _ (List.mem_append_right _ (List.mem_append_right _ (List.mem_append_right _ (List.mem_append_right _ (List.mem_append_right _ (List.mem_append_right _ (List.mem_append_right _ (List.mem_append_left _ h)))))))))))))))))))))
set_option maxRecDepth 20000 in
theorem gX7_readPart_X7_readNumber : GoodIn wsX7_readPart (wsV RX7 79 RX7 yX7_readNumber wsX7_readNumber) := goodIn_app (goodIn_of _ (by decide +kernel)) ggX7_readPart_X7_readNumber
theorem ggX7_readPart_X7_skipBlanks : GoodIn wsX7_readPart wsX7_skipBlanks := gW_in gwX7_skipBlanks (fun _ h => List.mem_cons_of_mem _ (List.mem_append_right _ (List.mem_append_right _ (List.mem_append_right _ (List.mem_append_right _ (List.mem_append_right _ (List.mem_append_right _ (List.mem_append_right _ (List.mem_append_right _ (List.mem_append_right _ (List.mem_append_right _ (List.mem_append_right _ (List.mem_append_right _ (List.mem_append_right _ (List.mem_append_right _ (List.mem_append_right _ (List.mem_append_right _ (List.mem_append_right _ (List.mem_append_right _ (List.mem_append_right _ (List.mem_append_right _ (List.mem_append_left _ h))))))))))))))))))))))
set_option maxRecDepth 20000 in
theorem gX7_readPart_X7_skipBlanks : GoodIn wsX7_readPart (wsV RX7 44 RX7 yX7_skipBlanks wsX7_skipBlanks) := goodIn_app (goodIn_of _ (by decide +kernel)) ggX7_readPart_X7_skipBlanks
theorem ggX7_readPart_X5_store : GoodIn wsX7_readPart wsX5_store := gW_in gwX5_store (fun _ h => List.mem_cons_of_mem _ (List.mem_append_right _ (List.mem_append_right _ (List.mem_append_right _ (List.mem_append_right _ (List.mem_append_right _ (List.mem_append_right _ (List.mem_append_right _ (List.mem_append_right _ (List.mem_append_right _ (List.mem_append_right _ (List.mem_append_right _ (List.mem_append_right _ (List.mem_append_right _ (List.mem_append_right _ (List.mem_append_right _ (List.mem_append_right _ (List.mem_append_right _ (List.mem_append_right _ (List.mem_append_right _ (List.mem_append_right _ (List.mem_append_right _ (List.mem_append_left _ h)))))))))))))))))))))))
set_option maxRecDepth 20000 in
theorem gX7_readPart_X5_store_u83X5 : GoodIn wsX7_readPart (va_wsU RX7 83 RX5 "HiredEnemy$Telling" ⟨"HiredEnemy$Telling", "store", "(I[I)V"⟩ yX5_store wsX5_store) := goodIn_app (goodIn_of _ (by decide +kernel)) ggX7_readPart_X5_store
theorem ggX7_readPart_X6_store : GoodIn wsX7_readPart wsX6_store := gW_in gwX6_store (fun _ h => List.mem_cons_of_mem _ (List.mem_append_right _ (List.mem_append_right _ (List.mem_append_right _ (List.mem_append_right _ (List.mem_append_right _ (List.mem_append_right _ (List.mem_append_right _ (List.mem_append_right _ (List.mem_append_right _ (List.mem_append_right _ (List.mem_append_right _ (List.mem_append_right _ (List.mem_append_right _ (List.mem_append_right _ (List.mem_append_right _ (List.mem_append_right _ (List.mem_append_right _ (List.mem_append_right _ (List.mem_append_right _ (List.mem_append_right _ (List.mem_append_right _ (List.mem_append_right _ (h))))))))))))))))))))))))
set_option maxRecDepth 20000 in
theorem gX7_readPart_X6_store_u83X6 : GoodIn wsX7_readPart (va_wsU RX7 83 RX6 "HiredEnemy$Telling" ⟨"HiredEnemy$Telling", "store", "(I[I)V"⟩ yX6_store wsX6_store) := goodIn_app (goodIn_of _ (by decide +kernel)) ggX7_readPart_X6_store
theorem bX7_readPart_0 : fac cX7_readPart [(0, .aload_n 0, 1), (1, .getfield 32, 3), (4, .istore_n 3, 1), (5, .aload_n 0, 1), (6, .invokevirtual 51, 3), (9, .aload_n 0, 1), (10, .aload_n 1, 1), (11, .invokevirtual 54, 3), (14, .iload_n 3, 1), (15, .invokevirtual 58, 3), (18, .istore 4, 2), (20, .iload 4, 2), (22, .iconst (-1), 1), (23, .if_icmp .ne 10, 3), (26, .aload_n 0, 1), (27, .iconst 1, 1)] := fac_all 0 _ (by decide +kernel)
def dX7_readPart_0 := bX7_readPart_0.1
def dX7_readPart_1 := bX7_readPart_0.2.1
def dX7_readPart_4 := bX7_readPart_0.2.2.1
def dX7_readPart_5 := bX7_readPart_0.2.2.2.1
def dX7_readPart_6 := bX7_readPart_0.2.2.2.2.1
def dX7_readPart_9 := bX7_readPart_0.2.2.2.2.2.1
def dX7_readPart_10 := bX7_readPart_0.2.2.2.2.2.2.1
def dX7_readPart_11 := bX7_readPart_0.2.2.2.2.2.2.2.1
def dX7_readPart_14 := bX7_readPart_0.2.2.2.2.2.2.2.2.1
def dX7_readPart_15 := bX7_readPart_0.2.2.2.2.2.2.2.2.2.1
def dX7_readPart_18 := bX7_readPart_0.2.2.2.2.2.2.2.2.2.2.1
def dX7_readPart_20 := bX7_readPart_0.2.2.2.2.2.2.2.2.2.2.2.1
def dX7_readPart_22 := bX7_readPart_0.2.2.2.2.2.2.2.2.2.2.2.2.1
def dX7_readPart_23 := bX7_readPart_0.2.2.2.2.2.2.2.2.2.2.2.2.2.1
def dX7_readPart_26 := bX7_readPart_0.2.2.2.2.2.2.2.2.2.2.2.2.2.2.1
def dX7_readPart_27 := bX7_readPart_0.2.2.2.2.2.2.2.2.2.2.2.2.2.2.2.1
theorem bX7_readPart_28 : fac cX7_readPart [(28, .iload_n 3, 1), (29, .invokevirtual 62, 3), (32, .ireturn, 1), (33, .iload_n 2, 1), (34, .aload_n 1, 1), (35, .invokevirtual 38, 3), (38, .if_icmp .ge 12, 3), (41, .aload_n 1, 1), (42, .iload 4, 2), (44, .invokevirtual 66, 3), (47, .ifCond .eq 10, 3), (50, .aload_n 0, 1), (51, .iconst 3, 1), (52, .iload_n 3, 1), (53, .invokevirtual 62, 3), (56, .ireturn, 1)] := fac_all 28 _ (by decide +kernel)
def dX7_readPart_28 := bX7_readPart_28.1
def dX7_readPart_29 := bX7_readPart_28.2.1
def dX7_readPart_32 := bX7_readPart_28.2.2.1
def dX7_readPart_33 := bX7_readPart_28.2.2.2.1
def dX7_readPart_34 := bX7_readPart_28.2.2.2.2.1
def dX7_readPart_35 := bX7_readPart_28.2.2.2.2.2.1
def dX7_readPart_38 := bX7_readPart_28.2.2.2.2.2.2.1
def dX7_readPart_41 := bX7_readPart_28.2.2.2.2.2.2.2.1
def dX7_readPart_42 := bX7_readPart_28.2.2.2.2.2.2.2.2.1
def dX7_readPart_44 := bX7_readPart_28.2.2.2.2.2.2.2.2.2.1
def dX7_readPart_47 := bX7_readPart_28.2.2.2.2.2.2.2.2.2.2.1
def dX7_readPart_50 := bX7_readPart_28.2.2.2.2.2.2.2.2.2.2.2.1
def dX7_readPart_51 := bX7_readPart_28.2.2.2.2.2.2.2.2.2.2.2.2.1
def dX7_readPart_52 := bX7_readPart_28.2.2.2.2.2.2.2.2.2.2.2.2.2.1
def dX7_readPart_53 := bX7_readPart_28.2.2.2.2.2.2.2.2.2.2.2.2.2.2.1
def dX7_readPart_56 := bX7_readPart_28.2.2.2.2.2.2.2.2.2.2.2.2.2.2.2.1
theorem bX7_readPart_57 : fac cX7_readPart [(57, .aload_n 1, 1), (58, .iload 4, 2), (60, .invokevirtual 70, 3), (63, .aload_n 0, 1), (64, .getfield 19, 3), (67, .arraylength, 1), (68, .invokestatic 23, 3), (71, .istore 5, 2), (73, .iconst 0, 1), (74, .istore 6, 2), (76, .iload 6, 2), (78, .iload 5, 2), (80, .if_icmp .ge 36, 3), (83, .aload_n 0, 1), (84, .iload 6, 2), (86, .aload_n 1, 1)] := fac_all 57 _ (by decide +kernel)
def dX7_readPart_57 := bX7_readPart_57.1
def dX7_readPart_58 := bX7_readPart_57.2.1
def dX7_readPart_60 := bX7_readPart_57.2.2.1
def dX7_readPart_63 := bX7_readPart_57.2.2.2.1
def dX7_readPart_64 := bX7_readPart_57.2.2.2.2.1
def dX7_readPart_67 := bX7_readPart_57.2.2.2.2.2.1
def dX7_readPart_68 := bX7_readPart_57.2.2.2.2.2.2.1
def dX7_readPart_71 := bX7_readPart_57.2.2.2.2.2.2.2.1
def dX7_readPart_73 := bX7_readPart_57.2.2.2.2.2.2.2.2.1
def dX7_readPart_74 := bX7_readPart_57.2.2.2.2.2.2.2.2.2.1
def dX7_readPart_76 := bX7_readPart_57.2.2.2.2.2.2.2.2.2.2.1
def dX7_readPart_78 := bX7_readPart_57.2.2.2.2.2.2.2.2.2.2.2.1
def dX7_readPart_80 := bX7_readPart_57.2.2.2.2.2.2.2.2.2.2.2.2.1
def dX7_readPart_83 := bX7_readPart_57.2.2.2.2.2.2.2.2.2.2.2.2.2.1
def dX7_readPart_84 := bX7_readPart_57.2.2.2.2.2.2.2.2.2.2.2.2.2.2.1
def dX7_readPart_86 := bX7_readPart_57.2.2.2.2.2.2.2.2.2.2.2.2.2.2.2.1
theorem bX7_readPart_87 : fac cX7_readPart [(87, .iload 4, 2), (89, .iload 6, 2), (91, .invokevirtual 73, 3), (94, .aload_n 1, 1), (95, .iload 4, 2), (97, .iload 6, 2), (99, .invokevirtual 76, 3), (102, .invokevirtual 79, 3), (105, .ifCond .ne 5, 3), (108, .iconst 0, 1), (109, .ireturn, 1), (110, .iinc 6 1, 3), (113, .goto (-37), 3), (116, .aload_n 0, 1), (117, .invokevirtual 44, 3), (120, .aload_n 0, 1)] := fac_all 87 _ (by decide +kernel)
def dX7_readPart_87 := bX7_readPart_87.1
def dX7_readPart_89 := bX7_readPart_87.2.1
def dX7_readPart_91 := bX7_readPart_87.2.2.1
def dX7_readPart_94 := bX7_readPart_87.2.2.2.1
def dX7_readPart_95 := bX7_readPart_87.2.2.2.2.1
def dX7_readPart_97 := bX7_readPart_87.2.2.2.2.2.1
def dX7_readPart_99 := bX7_readPart_87.2.2.2.2.2.2.1
def dX7_readPart_102 := bX7_readPart_87.2.2.2.2.2.2.2.1
def dX7_readPart_105 := bX7_readPart_87.2.2.2.2.2.2.2.2.1
def dX7_readPart_108 := bX7_readPart_87.2.2.2.2.2.2.2.2.2.1
def dX7_readPart_109 := bX7_readPart_87.2.2.2.2.2.2.2.2.2.2.1
def dX7_readPart_110 := bX7_readPart_87.2.2.2.2.2.2.2.2.2.2.2.1
def dX7_readPart_113 := bX7_readPart_87.2.2.2.2.2.2.2.2.2.2.2.2.1
def dX7_readPart_116 := bX7_readPart_87.2.2.2.2.2.2.2.2.2.2.2.2.2.1
def dX7_readPart_117 := bX7_readPart_87.2.2.2.2.2.2.2.2.2.2.2.2.2.2.1
def dX7_readPart_120 := bX7_readPart_87.2.2.2.2.2.2.2.2.2.2.2.2.2.2.2.1
theorem bX7_readPart_121 : fac cX7_readPart [(121, .getfield 32, 3), (124, .aload_n 0, 1), (125, .getfield 29, 3), (128, .if_icmp .ge 17, 3), (131, .aload_n 0, 1), (132, .getfield 9, 3), (135, .aload_n 0, 1), (136, .getfield 32, 3), (139, .baload, 1), (140, .bipush 59, 2), (142, .if_icmp .eq 13, 3), (145, .aload_n 0, 1), (146, .iconst 1, 1), (147, .aload_n 0, 1), (148, .getfield 32, 3), (151, .invokevirtual 62, 3)] := fac_all 121 _ (by decide +kernel)
def dX7_readPart_121 := bX7_readPart_121.1
def dX7_readPart_124 := bX7_readPart_121.2.1
def dX7_readPart_125 := bX7_readPart_121.2.2.1
def dX7_readPart_128 := bX7_readPart_121.2.2.2.1
def dX7_readPart_131 := bX7_readPart_121.2.2.2.2.1
def dX7_readPart_132 := bX7_readPart_121.2.2.2.2.2.1
def dX7_readPart_135 := bX7_readPart_121.2.2.2.2.2.2.1
def dX7_readPart_136 := bX7_readPart_121.2.2.2.2.2.2.2.1
def dX7_readPart_139 := bX7_readPart_121.2.2.2.2.2.2.2.2.1
def dX7_readPart_140 := bX7_readPart_121.2.2.2.2.2.2.2.2.2.1
def dX7_readPart_142 := bX7_readPart_121.2.2.2.2.2.2.2.2.2.2.1
def dX7_readPart_145 := bX7_readPart_121.2.2.2.2.2.2.2.2.2.2.2.1
def dX7_readPart_146 := bX7_readPart_121.2.2.2.2.2.2.2.2.2.2.2.2.1
def dX7_readPart_147 := bX7_readPart_121.2.2.2.2.2.2.2.2.2.2.2.2.2.1
def dX7_readPart_148 := bX7_readPart_121.2.2.2.2.2.2.2.2.2.2.2.2.2.2.1
def dX7_readPart_151 := bX7_readPart_121.2.2.2.2.2.2.2.2.2.2.2.2.2.2.2.1
theorem bX7_readPart_154 : fac cX7_readPart [(154, .ireturn, 1), (155, .aload_n 0, 1), (156, .dup, 1), (157, .getfield 32, 3), (160, .iconst 1, 1), (161, .iadd, 1), (162, .putfield 32, 3), (165, .aload_n 1, 1), (166, .iload 4, 2), (168, .aload_n 0, 1), (169, .getfield 19, 3), (172, .invokevirtual 83, 3), (175, .iconst 1, 1), (176, .ireturn, 1)] := fac_all 154 _ (by decide +kernel)
def dX7_readPart_154 := bX7_readPart_154.1
def dX7_readPart_155 := bX7_readPart_154.2.1
def dX7_readPart_156 := bX7_readPart_154.2.2.1
def dX7_readPart_157 := bX7_readPart_154.2.2.2.1
def dX7_readPart_160 := bX7_readPart_154.2.2.2.2.1
def dX7_readPart_161 := bX7_readPart_154.2.2.2.2.2.1
def dX7_readPart_162 := bX7_readPart_154.2.2.2.2.2.2.1
def dX7_readPart_165 := bX7_readPart_154.2.2.2.2.2.2.2.1
def dX7_readPart_166 := bX7_readPart_154.2.2.2.2.2.2.2.2.1
def dX7_readPart_168 := bX7_readPart_154.2.2.2.2.2.2.2.2.2.1
def dX7_readPart_169 := bX7_readPart_154.2.2.2.2.2.2.2.2.2.2.1
def dX7_readPart_172 := bX7_readPart_154.2.2.2.2.2.2.2.2.2.2.2.1
def dX7_readPart_175 := bX7_readPart_154.2.2.2.2.2.2.2.2.2.2.2.2.1
def dX7_readPart_176 := bX7_readPart_154.2.2.2.2.2.2.2.2.2.2.2.2.2.1
theorem ggX7_readNumber_X7_skipBlanks : GoodIn wsX7_readNumber wsX7_skipBlanks := gW_in gwX7_skipBlanks (fun _ h => List.mem_cons_of_mem _ (List.mem_append_right _ (List.mem_append_right _ (List.mem_append_left _ h))))
set_option maxRecDepth 20000 in
theorem gX7_readNumber_X7_skipBlanks : GoodIn wsX7_readNumber (wsV RX7 44 RX7 yX7_skipBlanks wsX7_skipBlanks) := goodIn_app (goodIn_of _ (by decide +kernel)) ggX7_readNumber_X7_skipBlanks
theorem ggX7_readNumber_X7_fail : GoodIn wsX7_readNumber wsX7_fail := gW_in gwX7_fail (fun _ h => List.mem_cons_of_mem _ (List.mem_append_right _ (List.mem_append_right _ (List.mem_append_right _ (List.mem_append_left _ h)))))
set_option maxRecDepth 20000 in
theorem gX7_readNumber_X7_fail : GoodIn wsX7_readNumber (wsV RX7 62 RX7 yX7_fail wsX7_fail) := goodIn_app (goodIn_of _ (by decide +kernel)) ggX7_readNumber_X7_fail
theorem ggX7_readNumber_X10_within : GoodIn wsX7_readNumber wsX10_within := gW_in gwX10_within (fun _ h => List.mem_cons_of_mem _ (List.mem_append_right _ (List.mem_append_right _ (List.mem_append_right _ (List.mem_append_right _ (h))))))
set_option maxRecDepth 20000 in
theorem gX7_readNumber_X10_within_n88 : GoodIn wsX7_readNumber (wsX10_within) := ggX7_readNumber_X10_within
theorem bX7_readNumber_0 : fac cX7_readNumber [(0, .aload_n 0, 1), (1, .invokevirtual 44, 3), (4, .aload_n 0, 1), (5, .getfield 32, 3), (8, .istore 4, 2), (10, .iconst 0, 1), (11, .istore 5, 2), (13, .aload_n 0, 1), (14, .getfield 32, 3), (17, .aload_n 0, 1), (18, .getfield 29, 3), (21, .if_icmp .ge 69, 3), (24, .aload_n 0, 1), (25, .getfield 9, 3), (28, .aload_n 0, 1), (29, .getfield 32, 3)] := fac_all 0 _ (by decide +kernel)
def dX7_readNumber_0 := bX7_readNumber_0.1
def dX7_readNumber_1 := bX7_readNumber_0.2.1
def dX7_readNumber_4 := bX7_readNumber_0.2.2.1
def dX7_readNumber_5 := bX7_readNumber_0.2.2.2.1
def dX7_readNumber_8 := bX7_readNumber_0.2.2.2.2.1
def dX7_readNumber_10 := bX7_readNumber_0.2.2.2.2.2.1
def dX7_readNumber_11 := bX7_readNumber_0.2.2.2.2.2.2.1
def dX7_readNumber_13 := bX7_readNumber_0.2.2.2.2.2.2.2.1
def dX7_readNumber_14 := bX7_readNumber_0.2.2.2.2.2.2.2.2.1
def dX7_readNumber_17 := bX7_readNumber_0.2.2.2.2.2.2.2.2.2.1
def dX7_readNumber_18 := bX7_readNumber_0.2.2.2.2.2.2.2.2.2.2.1
def dX7_readNumber_21 := bX7_readNumber_0.2.2.2.2.2.2.2.2.2.2.2.1
def dX7_readNumber_24 := bX7_readNumber_0.2.2.2.2.2.2.2.2.2.2.2.2.1
def dX7_readNumber_25 := bX7_readNumber_0.2.2.2.2.2.2.2.2.2.2.2.2.2.1
def dX7_readNumber_28 := bX7_readNumber_0.2.2.2.2.2.2.2.2.2.2.2.2.2.2.1
def dX7_readNumber_29 := bX7_readNumber_0.2.2.2.2.2.2.2.2.2.2.2.2.2.2.2.1
theorem bX7_readNumber_32 : fac cX7_readNumber [(32, .baload, 1), (33, .bipush 48, 2), (35, .if_icmp .lt 55, 3), (38, .aload_n 0, 1), (39, .getfield 9, 3), (42, .aload_n 0, 1), (43, .getfield 32, 3), (46, .baload, 1), (47, .bipush 57, 2), (49, .if_icmp .gt 41, 3), (52, .iload 5, 2), (54, .bipush 10, 2), (56, .imul, 1), (57, .aload_n 0, 1), (58, .getfield 9, 3), (61, .aload_n 0, 1)] := fac_all 32 _ (by decide +kernel)
def dX7_readNumber_32 := bX7_readNumber_32.1
def dX7_readNumber_33 := bX7_readNumber_32.2.1
def dX7_readNumber_35 := bX7_readNumber_32.2.2.1
def dX7_readNumber_38 := bX7_readNumber_32.2.2.2.1
def dX7_readNumber_39 := bX7_readNumber_32.2.2.2.2.1
def dX7_readNumber_42 := bX7_readNumber_32.2.2.2.2.2.1
def dX7_readNumber_43 := bX7_readNumber_32.2.2.2.2.2.2.1
def dX7_readNumber_46 := bX7_readNumber_32.2.2.2.2.2.2.2.1
def dX7_readNumber_47 := bX7_readNumber_32.2.2.2.2.2.2.2.2.1
def dX7_readNumber_49 := bX7_readNumber_32.2.2.2.2.2.2.2.2.2.1
def dX7_readNumber_52 := bX7_readNumber_32.2.2.2.2.2.2.2.2.2.2.1
def dX7_readNumber_54 := bX7_readNumber_32.2.2.2.2.2.2.2.2.2.2.2.1
def dX7_readNumber_56 := bX7_readNumber_32.2.2.2.2.2.2.2.2.2.2.2.2.1
def dX7_readNumber_57 := bX7_readNumber_32.2.2.2.2.2.2.2.2.2.2.2.2.2.1
def dX7_readNumber_58 := bX7_readNumber_32.2.2.2.2.2.2.2.2.2.2.2.2.2.2.1
def dX7_readNumber_61 := bX7_readNumber_32.2.2.2.2.2.2.2.2.2.2.2.2.2.2.2.1
theorem bX7_readNumber_62 : fac cX7_readNumber [(62, .getfield 32, 3), (65, .baload, 1), (66, .iadd, 1), (67, .bipush 48, 2), (69, .isub, 1), (70, .ldc 87, 2), (72, .invokestatic 23, 3), (75, .istore 5, 2), (77, .aload_n 0, 1), (78, .dup, 1), (79, .getfield 32, 3), (82, .iconst 1, 1), (83, .iadd, 1), (84, .putfield 32, 3), (87, .goto (-74), 3), (90, .aload_n 0, 1)] := fac_all 62 _ (by decide +kernel)
def dX7_readNumber_62 := bX7_readNumber_62.1
def dX7_readNumber_65 := bX7_readNumber_62.2.1
def dX7_readNumber_66 := bX7_readNumber_62.2.2.1
def dX7_readNumber_67 := bX7_readNumber_62.2.2.2.1
def dX7_readNumber_69 := bX7_readNumber_62.2.2.2.2.1
def dX7_readNumber_70 := bX7_readNumber_62.2.2.2.2.2.1
def dX7_readNumber_72 := bX7_readNumber_62.2.2.2.2.2.2.1
def dX7_readNumber_75 := bX7_readNumber_62.2.2.2.2.2.2.2.1
def dX7_readNumber_77 := bX7_readNumber_62.2.2.2.2.2.2.2.2.1
def dX7_readNumber_78 := bX7_readNumber_62.2.2.2.2.2.2.2.2.2.1
def dX7_readNumber_79 := bX7_readNumber_62.2.2.2.2.2.2.2.2.2.2.1
def dX7_readNumber_82 := bX7_readNumber_62.2.2.2.2.2.2.2.2.2.2.2.1
def dX7_readNumber_83 := bX7_readNumber_62.2.2.2.2.2.2.2.2.2.2.2.2.1
def dX7_readNumber_84 := bX7_readNumber_62.2.2.2.2.2.2.2.2.2.2.2.2.2.1
def dX7_readNumber_87 := bX7_readNumber_62.2.2.2.2.2.2.2.2.2.2.2.2.2.2.1
def dX7_readNumber_90 := bX7_readNumber_62.2.2.2.2.2.2.2.2.2.2.2.2.2.2.2.1
theorem bX7_readNumber_91 : fac cX7_readNumber [(91, .getfield 32, 3), (94, .iload 4, 2), (96, .if_icmp .ne 11, 3), (99, .aload_n 0, 1), (100, .iconst 1, 1), (101, .iload 4, 2), (103, .invokevirtual 62, 3), (106, .ireturn, 1), (107, .iload 5, 2), (109, .iload_n 2, 1), (110, .iload_n 3, 1), (111, .invokestatic 88, 3), (114, .ifCond .ne 11, 3), (117, .aload_n 0, 1), (118, .iconst 2, 1), (119, .iload 4, 2)] := fac_all 91 _ (by decide +kernel)
def dX7_readNumber_91 := bX7_readNumber_91.1
def dX7_readNumber_94 := bX7_readNumber_91.2.1
def dX7_readNumber_96 := bX7_readNumber_91.2.2.1
def dX7_readNumber_99 := bX7_readNumber_91.2.2.2.1
def dX7_readNumber_100 := bX7_readNumber_91.2.2.2.2.1
def dX7_readNumber_101 := bX7_readNumber_91.2.2.2.2.2.1
def dX7_readNumber_103 := bX7_readNumber_91.2.2.2.2.2.2.1
def dX7_readNumber_106 := bX7_readNumber_91.2.2.2.2.2.2.2.1
def dX7_readNumber_107 := bX7_readNumber_91.2.2.2.2.2.2.2.2.1
def dX7_readNumber_109 := bX7_readNumber_91.2.2.2.2.2.2.2.2.2.1
def dX7_readNumber_110 := bX7_readNumber_91.2.2.2.2.2.2.2.2.2.2.1
def dX7_readNumber_111 := bX7_readNumber_91.2.2.2.2.2.2.2.2.2.2.2.1
def dX7_readNumber_114 := bX7_readNumber_91.2.2.2.2.2.2.2.2.2.2.2.2.1
def dX7_readNumber_117 := bX7_readNumber_91.2.2.2.2.2.2.2.2.2.2.2.2.2.1
def dX7_readNumber_118 := bX7_readNumber_91.2.2.2.2.2.2.2.2.2.2.2.2.2.2.1
def dX7_readNumber_119 := bX7_readNumber_91.2.2.2.2.2.2.2.2.2.2.2.2.2.2.2.1
theorem bX7_readNumber_121 : fac cX7_readNumber [(121, .invokevirtual 62, 3), (124, .ireturn, 1), (125, .aload_n 0, 1), (126, .getfield 19, 3), (129, .iload_n 1, 1), (130, .iload 5, 2), (132, .iastore, 1), (133, .iconst 1, 1), (134, .ireturn, 1)] := fac_all 121 _ (by decide +kernel)
def dX7_readNumber_121 := bX7_readNumber_121.1
def dX7_readNumber_124 := bX7_readNumber_121.2.1
def dX7_readNumber_125 := bX7_readNumber_121.2.2.1
def dX7_readNumber_126 := bX7_readNumber_121.2.2.2.1
def dX7_readNumber_129 := bX7_readNumber_121.2.2.2.2.1
def dX7_readNumber_130 := bX7_readNumber_121.2.2.2.2.2.1
def dX7_readNumber_132 := bX7_readNumber_121.2.2.2.2.2.2.1
def dX7_readNumber_133 := bX7_readNumber_121.2.2.2.2.2.2.2.1
def dX7_readNumber_134 := bX7_readNumber_121.2.2.2.2.2.2.2.2.1
theorem bX7_fail_0 : fac cX7_fail [(0, .aload_n 0, 1), (1, .iload_n 1, 1), (2, .putfield 35, 3), (5, .aload_n 0, 1), (6, .iload_n 2, 1), (7, .putfield 15, 3), (10, .iconst 0, 1), (11, .ireturn, 1)] := fac_all 0 _ (by decide +kernel)
def dX7_fail_0 := bX7_fail_0.1
def dX7_fail_1 := bX7_fail_0.2.1
def dX7_fail_2 := bX7_fail_0.2.2.1
def dX7_fail_5 := bX7_fail_0.2.2.2.1
def dX7_fail_6 := bX7_fail_0.2.2.2.2.1
def dX7_fail_7 := bX7_fail_0.2.2.2.2.2.1
def dX7_fail_10 := bX7_fail_0.2.2.2.2.2.2.1
def dX7_fail_11 := bX7_fail_0.2.2.2.2.2.2.2.1
theorem bX7_skipBlanks_0 : fac cX7_skipBlanks [(0, .aload_n 0, 1), (1, .getfield 32, 3), (4, .aload_n 0, 1), (5, .getfield 29, 3), (8, .if_icmp .ge 30, 3), (11, .aload_n 0, 1), (12, .getfield 9, 3), (15, .aload_n 0, 1), (16, .getfield 32, 3), (19, .baload, 1), (20, .bipush 32, 2), (22, .if_icmp .ne 16, 3), (25, .aload_n 0, 1), (26, .dup, 1), (27, .getfield 32, 3), (30, .iconst 1, 1)] := fac_all 0 _ (by decide +kernel)
def dX7_skipBlanks_0 := bX7_skipBlanks_0.1
def dX7_skipBlanks_1 := bX7_skipBlanks_0.2.1
def dX7_skipBlanks_4 := bX7_skipBlanks_0.2.2.1
def dX7_skipBlanks_5 := bX7_skipBlanks_0.2.2.2.1
def dX7_skipBlanks_8 := bX7_skipBlanks_0.2.2.2.2.1
def dX7_skipBlanks_11 := bX7_skipBlanks_0.2.2.2.2.2.1
def dX7_skipBlanks_12 := bX7_skipBlanks_0.2.2.2.2.2.2.1
def dX7_skipBlanks_15 := bX7_skipBlanks_0.2.2.2.2.2.2.2.1
def dX7_skipBlanks_16 := bX7_skipBlanks_0.2.2.2.2.2.2.2.2.1
def dX7_skipBlanks_19 := bX7_skipBlanks_0.2.2.2.2.2.2.2.2.2.1
def dX7_skipBlanks_20 := bX7_skipBlanks_0.2.2.2.2.2.2.2.2.2.2.1
def dX7_skipBlanks_22 := bX7_skipBlanks_0.2.2.2.2.2.2.2.2.2.2.2.1
def dX7_skipBlanks_25 := bX7_skipBlanks_0.2.2.2.2.2.2.2.2.2.2.2.2.1
def dX7_skipBlanks_26 := bX7_skipBlanks_0.2.2.2.2.2.2.2.2.2.2.2.2.2.1
def dX7_skipBlanks_27 := bX7_skipBlanks_0.2.2.2.2.2.2.2.2.2.2.2.2.2.2.1
def dX7_skipBlanks_30 := bX7_skipBlanks_0.2.2.2.2.2.2.2.2.2.2.2.2.2.2.2.1
theorem bX7_skipBlanks_31 : fac cX7_skipBlanks [(31, .iadd, 1), (32, .putfield 32, 3), (35, .goto (-35), 3), (38, .return_, 1)] := fac_all 31 _ (by decide +kernel)
def dX7_skipBlanks_31 := bX7_skipBlanks_31.1
def dX7_skipBlanks_32 := bX7_skipBlanks_31.2.1
def dX7_skipBlanks_35 := bX7_skipBlanks_31.2.2.1
def dX7_skipBlanks_38 := bX7_skipBlanks_31.2.2.2.1
theorem bX7_skipLetters_0 : fac cX7_skipLetters [(0, .aload_n 0, 1), (1, .getfield 32, 3), (4, .aload_n 0, 1), (5, .getfield 29, 3), (8, .if_icmp .ge 44, 3), (11, .aload_n 0, 1), (12, .getfield 9, 3), (15, .aload_n 0, 1), (16, .getfield 32, 3), (19, .baload, 1), (20, .bipush 97, 2), (22, .if_icmp .lt 30, 3), (25, .aload_n 0, 1), (26, .getfield 9, 3), (29, .aload_n 0, 1), (30, .getfield 32, 3)] := fac_all 0 _ (by decide +kernel)
def dX7_skipLetters_0 := bX7_skipLetters_0.1
def dX7_skipLetters_1 := bX7_skipLetters_0.2.1
def dX7_skipLetters_4 := bX7_skipLetters_0.2.2.1
def dX7_skipLetters_5 := bX7_skipLetters_0.2.2.2.1
def dX7_skipLetters_8 := bX7_skipLetters_0.2.2.2.2.1
def dX7_skipLetters_11 := bX7_skipLetters_0.2.2.2.2.2.1
def dX7_skipLetters_12 := bX7_skipLetters_0.2.2.2.2.2.2.1
def dX7_skipLetters_15 := bX7_skipLetters_0.2.2.2.2.2.2.2.1
def dX7_skipLetters_16 := bX7_skipLetters_0.2.2.2.2.2.2.2.2.1
def dX7_skipLetters_19 := bX7_skipLetters_0.2.2.2.2.2.2.2.2.2.1
def dX7_skipLetters_20 := bX7_skipLetters_0.2.2.2.2.2.2.2.2.2.2.1
def dX7_skipLetters_22 := bX7_skipLetters_0.2.2.2.2.2.2.2.2.2.2.2.1
def dX7_skipLetters_25 := bX7_skipLetters_0.2.2.2.2.2.2.2.2.2.2.2.2.1
def dX7_skipLetters_26 := bX7_skipLetters_0.2.2.2.2.2.2.2.2.2.2.2.2.2.1
def dX7_skipLetters_29 := bX7_skipLetters_0.2.2.2.2.2.2.2.2.2.2.2.2.2.2.1
def dX7_skipLetters_30 := bX7_skipLetters_0.2.2.2.2.2.2.2.2.2.2.2.2.2.2.2.1
theorem bX7_skipLetters_33 : fac cX7_skipLetters [(33, .baload, 1), (34, .bipush 122, 2), (36, .if_icmp .gt 16, 3), (39, .aload_n 0, 1), (40, .dup, 1), (41, .getfield 32, 3), (44, .iconst 1, 1), (45, .iadd, 1), (46, .putfield 32, 3), (49, .goto (-49), 3), (52, .return_, 1)] := fac_all 33 _ (by decide +kernel)
def dX7_skipLetters_33 := bX7_skipLetters_33.1
def dX7_skipLetters_34 := bX7_skipLetters_33.2.1
def dX7_skipLetters_36 := bX7_skipLetters_33.2.2.1
def dX7_skipLetters_39 := bX7_skipLetters_33.2.2.2.1
def dX7_skipLetters_40 := bX7_skipLetters_33.2.2.2.2.1
def dX7_skipLetters_41 := bX7_skipLetters_33.2.2.2.2.2.1
def dX7_skipLetters_44 := bX7_skipLetters_33.2.2.2.2.2.2.1
def dX7_skipLetters_45 := bX7_skipLetters_33.2.2.2.2.2.2.2.1
def dX7_skipLetters_46 := bX7_skipLetters_33.2.2.2.2.2.2.2.2.1
def dX7_skipLetters_49 := bX7_skipLetters_33.2.2.2.2.2.2.2.2.2.1
def dX7_skipLetters_52 := bX7_skipLetters_33.2.2.2.2.2.2.2.2.2.2.1
theorem ggX7_kindOf_J0_length_8abf5 : GoodIn wsX7_kindOf wsJ0_length_8abf5 := gW_in gwJ0_length_8abf5 (fun _ h => List.mem_cons_of_mem _ (List.mem_append_right _ (List.mem_append_right _ (List.mem_append_left _ h))))
set_option maxRecDepth 20000 in
theorem gX7_kindOf_J0_length_8abf5 : GoodIn wsX7_kindOf (wsV RX7 91 RJ0 yJ0_length_8abf5 wsJ0_length_8abf5) := goodIn_app (goodIn_of _ (by decide +kernel)) ggX7_kindOf_J0_length_8abf5
theorem ggX7_kindOf_J0_charAt_5068e : GoodIn wsX7_kindOf wsJ0_charAt_5068e := gW_in gwJ0_charAt_5068e (fun _ h => List.mem_cons_of_mem _ (List.mem_append_right _ (List.mem_append_right _ (List.mem_append_right _ (List.mem_append_left _ h)))))
set_option maxRecDepth 20000 in
theorem gX7_kindOf_J0_charAt_5068e : GoodIn wsX7_kindOf (wsV RX7 95 RJ0 yJ0_charAt_5068e wsJ0_charAt_5068e) := goodIn_app (goodIn_of _ (by decide +kernel)) ggX7_kindOf_J0_charAt_5068e
theorem ggX7_kindOf_X7_isSame : GoodIn wsX7_kindOf wsX7_isSame := gW_in gwX7_isSame (fun _ h => List.mem_cons_of_mem _ (List.mem_append_right _ (List.mem_append_right _ (List.mem_append_right _ (List.mem_append_right _ (h))))))
set_option maxRecDepth 20000 in
theorem gX7_kindOf_X7_isSame : GoodIn wsX7_kindOf (wsV RX7 99 RX7 yX7_isSame wsX7_isSame) := goodIn_app (goodIn_of _ (by decide +kernel)) ggX7_kindOf_X7_isSame
theorem bX7_kindOf_0 : fac cX7_kindOf [(0, .iconst 0, 1), (1, .istore_n 3, 1), (2, .iconst 0, 1), (3, .istore 4, 2), (5, .iconst 0, 1), (6, .istore 5, 2), (8, .iload 5, 2), (10, .aload_n 1, 1), (11, .invokevirtual 91, 3), (14, .if_icmp .gt 53, 3), (17, .iload 5, 2), (19, .aload_n 1, 1), (20, .invokevirtual 91, 3), (23, .if_icmp .eq 14, 3), (26, .aload_n 1, 1), (27, .iload 5, 2)] := fac_all 0 _ (by decide +kernel)
def dX7_kindOf_0 := bX7_kindOf_0.1
def dX7_kindOf_1 := bX7_kindOf_0.2.1
def dX7_kindOf_2 := bX7_kindOf_0.2.2.1
def dX7_kindOf_3 := bX7_kindOf_0.2.2.2.1
def dX7_kindOf_5 := bX7_kindOf_0.2.2.2.2.1
def dX7_kindOf_6 := bX7_kindOf_0.2.2.2.2.2.1
def dX7_kindOf_8 := bX7_kindOf_0.2.2.2.2.2.2.1
def dX7_kindOf_10 := bX7_kindOf_0.2.2.2.2.2.2.2.1
def dX7_kindOf_11 := bX7_kindOf_0.2.2.2.2.2.2.2.2.1
def dX7_kindOf_14 := bX7_kindOf_0.2.2.2.2.2.2.2.2.2.1
def dX7_kindOf_17 := bX7_kindOf_0.2.2.2.2.2.2.2.2.2.2.1
def dX7_kindOf_19 := bX7_kindOf_0.2.2.2.2.2.2.2.2.2.2.2.1
def dX7_kindOf_20 := bX7_kindOf_0.2.2.2.2.2.2.2.2.2.2.2.2.1
def dX7_kindOf_23 := bX7_kindOf_0.2.2.2.2.2.2.2.2.2.2.2.2.2.1
def dX7_kindOf_26 := bX7_kindOf_0.2.2.2.2.2.2.2.2.2.2.2.2.2.2.1
def dX7_kindOf_27 := bX7_kindOf_0.2.2.2.2.2.2.2.2.2.2.2.2.2.2.2.1
theorem bX7_kindOf_29 : fac cX7_kindOf [(29, .invokevirtual 95, 3), (32, .bipush 32, 2), (34, .if_icmp .ne 27, 3), (37, .aload_n 0, 1), (38, .aload_n 1, 1), (39, .iload 4, 2), (41, .iload 5, 2), (43, .iload_n 2, 1), (44, .invokevirtual 99, 3), (47, .ifCond .eq 5, 3), (50, .iload_n 3, 1), (51, .ireturn, 1), (52, .iinc 3 1, 3), (55, .iload 5, 2), (57, .iconst 1, 1), (58, .iadd, 1)] := fac_all 29 _ (by decide +kernel)
def dX7_kindOf_29 := bX7_kindOf_29.1
def dX7_kindOf_32 := bX7_kindOf_29.2.1
def dX7_kindOf_34 := bX7_kindOf_29.2.2.1
def dX7_kindOf_37 := bX7_kindOf_29.2.2.2.1
def dX7_kindOf_38 := bX7_kindOf_29.2.2.2.2.1
def dX7_kindOf_39 := bX7_kindOf_29.2.2.2.2.2.1
def dX7_kindOf_41 := bX7_kindOf_29.2.2.2.2.2.2.1
def dX7_kindOf_43 := bX7_kindOf_29.2.2.2.2.2.2.2.1
def dX7_kindOf_44 := bX7_kindOf_29.2.2.2.2.2.2.2.2.1
def dX7_kindOf_47 := bX7_kindOf_29.2.2.2.2.2.2.2.2.2.1
def dX7_kindOf_50 := bX7_kindOf_29.2.2.2.2.2.2.2.2.2.2.1
def dX7_kindOf_51 := bX7_kindOf_29.2.2.2.2.2.2.2.2.2.2.2.1
def dX7_kindOf_52 := bX7_kindOf_29.2.2.2.2.2.2.2.2.2.2.2.2.1
def dX7_kindOf_55 := bX7_kindOf_29.2.2.2.2.2.2.2.2.2.2.2.2.2.1
def dX7_kindOf_57 := bX7_kindOf_29.2.2.2.2.2.2.2.2.2.2.2.2.2.2.1
def dX7_kindOf_58 := bX7_kindOf_29.2.2.2.2.2.2.2.2.2.2.2.2.2.2.2.1
theorem bX7_kindOf_59 : fac cX7_kindOf [(59, .istore 4, 2), (61, .iinc 5 1, 3), (64, .goto (-56), 3), (67, .iconst (-1), 1), (68, .ireturn, 1)] := fac_all 59 _ (by decide +kernel)
def dX7_kindOf_59 := bX7_kindOf_59.1
def dX7_kindOf_61 := bX7_kindOf_59.2.1
def dX7_kindOf_64 := bX7_kindOf_59.2.2.1
def dX7_kindOf_67 := bX7_kindOf_59.2.2.2.1
def dX7_kindOf_68 := bX7_kindOf_59.2.2.2.2.1
theorem ggX7_isSame_J0_charAt_5068e : GoodIn wsX7_isSame wsJ0_charAt_5068e := gW_in gwJ0_charAt_5068e (fun _ h => List.mem_cons_of_mem _ (List.mem_append_right _ (List.mem_append_right _ (h))))
set_option maxRecDepth 20000 in
theorem gX7_isSame_J0_charAt_5068e : GoodIn wsX7_isSame (wsV RX7 95 RJ0 yJ0_charAt_5068e wsJ0_charAt_5068e) := goodIn_app (goodIn_of _ (by decide +kernel)) ggX7_isSame_J0_charAt_5068e
theorem bX7_isSame_0 : fac cX7_isSame [(0, .iload_n 3, 1), (1, .iload_n 2, 1), (2, .isub, 1), (3, .aload_n 0, 1), (4, .getfield 32, 3), (7, .iload 4, 2), (9, .isub, 1), (10, .if_icmp .eq 5, 3), (13, .iconst 0, 1), (14, .ireturn, 1), (15, .iconst 0, 1), (16, .istore 5, 2), (18, .iload 5, 2), (20, .iload_n 3, 1), (21, .iload_n 2, 1), (22, .isub, 1)] := fac_all 0 _ (by decide +kernel)
def dX7_isSame_0 := bX7_isSame_0.1
def dX7_isSame_1 := bX7_isSame_0.2.1
def dX7_isSame_2 := bX7_isSame_0.2.2.1
def dX7_isSame_3 := bX7_isSame_0.2.2.2.1
def dX7_isSame_4 := bX7_isSame_0.2.2.2.2.1
def dX7_isSame_7 := bX7_isSame_0.2.2.2.2.2.1
def dX7_isSame_9 := bX7_isSame_0.2.2.2.2.2.2.1
def dX7_isSame_10 := bX7_isSame_0.2.2.2.2.2.2.2.1
def dX7_isSame_13 := bX7_isSame_0.2.2.2.2.2.2.2.2.1
def dX7_isSame_14 := bX7_isSame_0.2.2.2.2.2.2.2.2.2.1
def dX7_isSame_15 := bX7_isSame_0.2.2.2.2.2.2.2.2.2.2.1
def dX7_isSame_16 := bX7_isSame_0.2.2.2.2.2.2.2.2.2.2.2.1
def dX7_isSame_18 := bX7_isSame_0.2.2.2.2.2.2.2.2.2.2.2.2.1
def dX7_isSame_20 := bX7_isSame_0.2.2.2.2.2.2.2.2.2.2.2.2.2.1
def dX7_isSame_21 := bX7_isSame_0.2.2.2.2.2.2.2.2.2.2.2.2.2.2.1
def dX7_isSame_22 := bX7_isSame_0.2.2.2.2.2.2.2.2.2.2.2.2.2.2.2.1
theorem bX7_isSame_23 : fac cX7_isSame [(23, .if_icmp .ge 32, 3), (26, .aload_n 1, 1), (27, .iload_n 2, 1), (28, .iload 5, 2), (30, .iadd, 1), (31, .invokevirtual 95, 3), (34, .aload_n 0, 1), (35, .getfield 9, 3), (38, .iload 4, 2), (40, .iload 5, 2), (42, .iadd, 1), (43, .baload, 1), (44, .if_icmp .eq 5, 3), (47, .iconst 0, 1), (48, .ireturn, 1), (49, .iinc 5 1, 3)] := fac_all 23 _ (by decide +kernel)
def dX7_isSame_23 := bX7_isSame_23.1
def dX7_isSame_26 := bX7_isSame_23.2.1
def dX7_isSame_27 := bX7_isSame_23.2.2.1
def dX7_isSame_28 := bX7_isSame_23.2.2.2.1
def dX7_isSame_30 := bX7_isSame_23.2.2.2.2.1
def dX7_isSame_31 := bX7_isSame_23.2.2.2.2.2.1
def dX7_isSame_34 := bX7_isSame_23.2.2.2.2.2.2.1
def dX7_isSame_35 := bX7_isSame_23.2.2.2.2.2.2.2.1
def dX7_isSame_38 := bX7_isSame_23.2.2.2.2.2.2.2.2.1
def dX7_isSame_40 := bX7_isSame_23.2.2.2.2.2.2.2.2.2.1
def dX7_isSame_42 := bX7_isSame_23.2.2.2.2.2.2.2.2.2.2.1
def dX7_isSame_43 := bX7_isSame_23.2.2.2.2.2.2.2.2.2.2.2.1
def dX7_isSame_44 := bX7_isSame_23.2.2.2.2.2.2.2.2.2.2.2.2.1
def dX7_isSame_47 := bX7_isSame_23.2.2.2.2.2.2.2.2.2.2.2.2.2.1
def dX7_isSame_48 := bX7_isSame_23.2.2.2.2.2.2.2.2.2.2.2.2.2.2.1
def dX7_isSame_49 := bX7_isSame_23.2.2.2.2.2.2.2.2.2.2.2.2.2.2.2.1
theorem bX7_isSame_52 : fac cX7_isSame [(52, .goto (-34), 3), (55, .iconst 1, 1), (56, .ireturn, 1)] := fac_all 52 _ (by decide +kernel)
def dX7_isSame_52 := bX7_isSame_52.1
def dX7_isSame_55 := bX7_isSame_52.2.1
def dX7_isSame_56 := bX7_isSame_52.2.2.1
theorem ggX8_init_X4_init : GoodIn wsX8_init wsX4_init := gW_in gwX4_init (fun _ h => List.mem_cons_of_mem _ (List.mem_append_right _ (List.mem_append_right _ (List.mem_append_right _ (List.mem_append_right _ (List.mem_append_right _ (List.mem_append_right _ (List.mem_append_left _ h))))))))
set_option maxRecDepth 20000 in
theorem gX8_init_X4_init_n9 : GoodIn wsX8_init (wsX4_init) := ggX8_init_X4_init
theorem ggX8_init_X0_init : GoodIn wsX8_init wsX0_init := gW_in gwX0_init (fun _ h => List.mem_cons_of_mem _ (List.mem_append_right _ (List.mem_append_right _ (List.mem_append_right _ (List.mem_append_right _ (List.mem_append_right _ (List.mem_append_right _ (List.mem_append_right _ (List.mem_append_left _ h)))))))))
set_option maxRecDepth 20000 in
theorem gX8_init_X0_init_n18 : GoodIn wsX8_init (wsX0_init) := ggX8_init_X0_init
theorem ggX8_init_X2_init : GoodIn wsX8_init wsX2_init := gW_in gwX2_init (fun _ h => List.mem_cons_of_mem _ (List.mem_append_right _ (List.mem_append_right _ (List.mem_append_right _ (List.mem_append_right _ (List.mem_append_right _ (List.mem_append_right _ (List.mem_append_right _ (List.mem_append_right _ (List.mem_append_left _ h))))))))))
set_option maxRecDepth 20000 in
theorem gX8_init_X2_init_n25 : GoodIn wsX8_init (wsX2_init) := ggX8_init_X2_init
theorem ggX8_init_X3_init : GoodIn wsX8_init wsX3_init := gW_in gwX3_init (fun _ h => List.mem_cons_of_mem _ (List.mem_append_right _ (List.mem_append_right _ (List.mem_append_right _ (List.mem_append_right _ (List.mem_append_right _ (List.mem_append_right _ (List.mem_append_right _ (List.mem_append_right _ (List.mem_append_right _ (h)))))))))))
set_option maxRecDepth 20000 in
theorem gX8_init_X3_init_n32 : GoodIn wsX8_init (wsX3_init) := ggX8_init_X3_init
theorem bX8_init_0 : fac cX8_init [(0, .aload_n 0, 1), (1, .invokespecial 1, 3), (4, .aload_n 0, 1), (5, .new 7, 3), (8, .dup, 1), (9, .invokespecial 9, 3), (12, .putfield 10, 3), (15, .aload_n 0, 1), (16, .new 16, 3), (19, .dup, 1), (20, .invokespecial 18, 3), (23, .putfield 19, 3), (26, .aload_n 0, 1), (27, .new 23, 3), (30, .dup, 1), (31, .invokespecial 25, 3)] := fac_all 0 _ (by decide +kernel)
def dX8_init_0 := bX8_init_0.1
def dX8_init_1 := bX8_init_0.2.1
def dX8_init_4 := bX8_init_0.2.2.1
def dX8_init_5 := bX8_init_0.2.2.2.1
def dX8_init_8 := bX8_init_0.2.2.2.2.1
def dX8_init_9 := bX8_init_0.2.2.2.2.2.1
def dX8_init_12 := bX8_init_0.2.2.2.2.2.2.1
def dX8_init_15 := bX8_init_0.2.2.2.2.2.2.2.1
def dX8_init_16 := bX8_init_0.2.2.2.2.2.2.2.2.1
def dX8_init_19 := bX8_init_0.2.2.2.2.2.2.2.2.2.1
def dX8_init_20 := bX8_init_0.2.2.2.2.2.2.2.2.2.2.1
def dX8_init_23 := bX8_init_0.2.2.2.2.2.2.2.2.2.2.2.1
def dX8_init_26 := bX8_init_0.2.2.2.2.2.2.2.2.2.2.2.2.1
def dX8_init_27 := bX8_init_0.2.2.2.2.2.2.2.2.2.2.2.2.2.1
def dX8_init_30 := bX8_init_0.2.2.2.2.2.2.2.2.2.2.2.2.2.2.1
def dX8_init_31 := bX8_init_0.2.2.2.2.2.2.2.2.2.2.2.2.2.2.2.1
theorem bX8_init_34 : fac cX8_init [(34, .putfield 26, 3), (37, .aload_n 0, 1), (38, .new 30, 3), (41, .dup, 1), (42, .invokespecial 32, 3), (45, .putfield 33, 3), (48, .return_, 1)] := fac_all 34 _ (by decide +kernel)
def dX8_init_34 := bX8_init_34.1
def dX8_init_37 := bX8_init_34.2.1
def dX8_init_38 := bX8_init_34.2.2.1
def dX8_init_41 := bX8_init_34.2.2.2.1
def dX8_init_42 := bX8_init_34.2.2.2.2.1
def dX8_init_45 := bX8_init_34.2.2.2.2.2.1
def dX8_init_48 := bX8_init_34.2.2.2.2.2.2.1
theorem ggX8_begin_X4_begin : GoodIn wsX8_begin wsX4_begin := gW_in gwX4_begin (fun _ h => List.mem_cons_of_mem _ (List.mem_append_right _ (List.mem_append_right _ (List.mem_append_right _ (List.mem_append_right _ (List.mem_append_right _ (List.mem_append_right _ (List.mem_append_left _ h))))))))
set_option maxRecDepth 20000 in
theorem gX8_begin_X4_begin : GoodIn wsX8_begin (wsV RX8 37 RX4 yX4_begin wsX4_begin) := goodIn_app (goodIn_of _ (by decide +kernel)) ggX8_begin_X4_begin
theorem ggX8_begin_X2_forget : GoodIn wsX8_begin wsX2_forget := gW_in gwX2_forget (fun _ h => List.mem_cons_of_mem _ (List.mem_append_right _ (List.mem_append_right _ (List.mem_append_right _ (List.mem_append_right _ (List.mem_append_right _ (List.mem_append_right _ (List.mem_append_right _ (List.mem_append_left _ h)))))))))
set_option maxRecDepth 20000 in
theorem gX8_begin_X2_forget : GoodIn wsX8_begin (wsV RX8 41 RX2 yX2_forget wsX2_forget) := goodIn_app (goodIn_of _ (by decide +kernel)) ggX8_begin_X2_forget
theorem ggX8_begin_X3_clear : GoodIn wsX8_begin wsX3_clear := gW_in gwX3_clear (fun _ h => List.mem_cons_of_mem _ (List.mem_append_right _ (List.mem_append_right _ (List.mem_append_right _ (List.mem_append_right _ (List.mem_append_right _ (List.mem_append_right _ (List.mem_append_right _ (List.mem_append_right _ (h))))))))))
set_option maxRecDepth 20000 in
theorem gX8_begin_X3_clear : GoodIn wsX8_begin (wsV RX8 44 RX3 yX3_clear wsX3_clear) := goodIn_app (goodIn_of _ (by decide +kernel)) ggX8_begin_X3_clear
theorem bX8_begin_0 : fac cX8_begin [(0, .aload_n 0, 1), (1, .getfield 10, 3), (4, .aload_n 1, 1), (5, .invokevirtual 37, 3), (8, .aload_n 0, 1), (9, .getfield 26, 3), (12, .invokevirtual 41, 3), (15, .aload_n 0, 1), (16, .getfield 33, 3), (19, .invokevirtual 44, 3), (22, .return_, 1)] := fac_all 0 _ (by decide +kernel)
def dX8_begin_0 := bX8_begin_0.1
def dX8_begin_1 := bX8_begin_0.2.1
def dX8_begin_4 := bX8_begin_0.2.2.1
def dX8_begin_5 := bX8_begin_0.2.2.2.1
def dX8_begin_8 := bX8_begin_0.2.2.2.2.1
def dX8_begin_9 := bX8_begin_0.2.2.2.2.2.1
def dX8_begin_12 := bX8_begin_0.2.2.2.2.2.2.1
def dX8_begin_15 := bX8_begin_0.2.2.2.2.2.2.2.1
def dX8_begin_16 := bX8_begin_0.2.2.2.2.2.2.2.2.1
def dX8_begin_19 := bX8_begin_0.2.2.2.2.2.2.2.2.2.1
def dX8_begin_22 := bX8_begin_0.2.2.2.2.2.2.2.2.2.2.1
theorem ggX8_take_X4_take : GoodIn wsX8_take wsX4_take := gW_in gwX4_take (fun _ h => List.mem_cons_of_mem _ (List.mem_append_right _ (List.mem_append_right _ (List.mem_append_right _ (List.mem_append_right _ (List.mem_append_right _ (List.mem_append_right _ (List.mem_append_left _ h))))))))
set_option maxRecDepth 20000 in
theorem gX8_take_X4_take : GoodIn wsX8_take (wsV RX8 47 RX4 yX4_take wsX4_take) := goodIn_app (goodIn_of _ (by decide +kernel)) ggX8_take_X4_take
theorem ggX8_take_X0_take : GoodIn wsX8_take wsX0_take := gW_in gwX0_take (fun _ h => List.mem_cons_of_mem _ (List.mem_append_right _ (List.mem_append_right _ (List.mem_append_right _ (List.mem_append_right _ (List.mem_append_right _ (List.mem_append_right _ (List.mem_append_right _ (List.mem_append_left _ h)))))))))
set_option maxRecDepth 20000 in
theorem gX8_take_X0_take : GoodIn wsX8_take (wsV RX8 55 RX0 yX0_take wsX0_take) := goodIn_app (goodIn_of _ (by decide +kernel)) ggX8_take_X0_take
theorem ggX8_take_X2_take : GoodIn wsX8_take wsX2_take := gW_in gwX2_take (fun _ h => List.mem_cons_of_mem _ (List.mem_append_right _ (List.mem_append_right _ (List.mem_append_right _ (List.mem_append_right _ (List.mem_append_right _ (List.mem_append_right _ (List.mem_append_right _ (List.mem_append_right _ (List.mem_append_left _ h))))))))))
set_option maxRecDepth 20000 in
theorem gX8_take_X2_take : GoodIn wsX8_take (wsV RX8 58 RX2 yX2_take wsX2_take) := goodIn_app (goodIn_of _ (by decide +kernel)) ggX8_take_X2_take
theorem ggX8_take_X3_take : GoodIn wsX8_take wsX3_take := gW_in gwX3_take (fun _ h => List.mem_cons_of_mem _ (List.mem_append_right _ (List.mem_append_right _ (List.mem_append_right _ (List.mem_append_right _ (List.mem_append_right _ (List.mem_append_right _ (List.mem_append_right _ (List.mem_append_right _ (List.mem_append_right _ (h)))))))))))
set_option maxRecDepth 20000 in
theorem gX8_take_X3_take : GoodIn wsX8_take (wsV RX8 61 RX3 yX3_take wsX3_take) := goodIn_app (goodIn_of _ (by decide +kernel)) ggX8_take_X3_take
theorem bX8_take_0 : fac cX8_take [(0, .aload_n 0, 1), (1, .getfield 10, 3), (4, .aload_n 1, 1), (5, .getfield 10, 3), (8, .invokevirtual 47, 3), (11, .aload_n 0, 1), (12, .getfield 19, 3), (15, .aload_n 1, 1), (16, .getfield 19, 3), (19, .aload_n 1, 1), (20, .getfield 10, 3), (23, .getfield 51, 3), (26, .invokevirtual 55, 3), (29, .aload_n 0, 1), (30, .getfield 26, 3), (33, .aload_n 1, 1)] := fac_all 0 _ (by decide +kernel)
def dX8_take_0 := bX8_take_0.1
def dX8_take_1 := bX8_take_0.2.1
def dX8_take_4 := bX8_take_0.2.2.1
def dX8_take_5 := bX8_take_0.2.2.2.1
def dX8_take_8 := bX8_take_0.2.2.2.2.1
def dX8_take_11 := bX8_take_0.2.2.2.2.2.1
def dX8_take_12 := bX8_take_0.2.2.2.2.2.2.1
def dX8_take_15 := bX8_take_0.2.2.2.2.2.2.2.1
def dX8_take_16 := bX8_take_0.2.2.2.2.2.2.2.2.1
def dX8_take_19 := bX8_take_0.2.2.2.2.2.2.2.2.2.1
def dX8_take_20 := bX8_take_0.2.2.2.2.2.2.2.2.2.2.1
def dX8_take_23 := bX8_take_0.2.2.2.2.2.2.2.2.2.2.2.1
def dX8_take_26 := bX8_take_0.2.2.2.2.2.2.2.2.2.2.2.2.1
def dX8_take_29 := bX8_take_0.2.2.2.2.2.2.2.2.2.2.2.2.2.1
def dX8_take_30 := bX8_take_0.2.2.2.2.2.2.2.2.2.2.2.2.2.2.1
def dX8_take_33 := bX8_take_0.2.2.2.2.2.2.2.2.2.2.2.2.2.2.2.1
theorem bX8_take_34 : fac cX8_take [(34, .getfield 26, 3), (37, .invokevirtual 58, 3), (40, .aload_n 0, 1), (41, .getfield 33, 3), (44, .aload_n 1, 1), (45, .getfield 33, 3), (48, .invokevirtual 61, 3), (51, .return_, 1)] := fac_all 34 _ (by decide +kernel)
def dX8_take_34 := bX8_take_34.1
def dX8_take_37 := bX8_take_34.2.1
def dX8_take_40 := bX8_take_34.2.2.1
def dX8_take_41 := bX8_take_34.2.2.2.1
def dX8_take_44 := bX8_take_34.2.2.2.2.1
def dX8_take_45 := bX8_take_34.2.2.2.2.2.1
def dX8_take_48 := bX8_take_34.2.2.2.2.2.2.1
def dX8_take_51 := bX8_take_34.2.2.2.2.2.2.2.1
theorem bX9_init_0 : fac cX9_init [(0, .aload_n 0, 1), (1, .invokespecial 1, 3), (4, .return_, 1)] := fac_all 0 _ (by decide +kernel)
def dX9_init_0 := bX9_init_0.1
def dX9_init_1 := bX9_init_0.2.1
def dX9_init_4 := bX9_init_0.2.2.1
theorem ggX10_init_X7_init : GoodIn wsX10_init wsX7_init := gW_in gwX7_init (fun _ h => List.mem_cons_of_mem _ (List.mem_append_right _ (List.mem_append_right _ (List.mem_append_right _ (List.mem_append_right _ (List.mem_append_right _ (List.mem_append_right _ (List.mem_append_right _ (List.mem_append_right _ (List.mem_append_right _ (List.mem_append_right _ (List.mem_append_right _ (List.mem_append_left _ h)))))))))))))
set_option maxRecDepth 20000 in
theorem gX10_init_X7_init_n15 : GoodIn wsX10_init (wsX7_init) := ggX10_init_X7_init
theorem ggX10_init_X6_init : GoodIn wsX10_init wsX6_init := gW_in gwX6_init (fun _ h => List.mem_cons_of_mem _ (List.mem_append_right _ (List.mem_append_right _ (List.mem_append_right _ (List.mem_append_right _ (List.mem_append_right _ (List.mem_append_right _ (List.mem_append_right _ (List.mem_append_right _ (List.mem_append_right _ (List.mem_append_right _ (List.mem_append_right _ (List.mem_append_right _ (List.mem_append_left _ h))))))))))))))
set_option maxRecDepth 20000 in
theorem gX10_init_X6_init : GoodIn wsX10_init (wsX6_init) := ggX10_init_X6_init
theorem ggX10_init_X8_init : GoodIn wsX10_init wsX8_init := gW_in gwX8_init (fun _ h => List.mem_cons_of_mem _ (List.mem_append_right _ (List.mem_append_right _ (List.mem_append_right _ (List.mem_append_right _ (List.mem_append_right _ (List.mem_append_right _ (List.mem_append_right _ (List.mem_append_right _ (List.mem_append_right _ (List.mem_append_right _ (List.mem_append_right _ (List.mem_append_right _ (List.mem_append_right _ (List.mem_append_left _ h)))))))))))))))
set_option maxRecDepth 20000 in
theorem gX10_init_X8_init_n38 : GoodIn wsX10_init (wsX8_init) := ggX10_init_X8_init
theorem ggX10_init_X4_init : GoodIn wsX10_init wsX4_init := gW_in gwX4_init (fun _ h => List.mem_cons_of_mem _ (List.mem_append_right _ (List.mem_append_right _ (List.mem_append_right _ (List.mem_append_right _ (List.mem_append_right _ (List.mem_append_right _ (List.mem_append_right _ (List.mem_append_right _ (List.mem_append_right _ (List.mem_append_right _ (List.mem_append_right _ (List.mem_append_right _ (List.mem_append_right _ (List.mem_append_right _ (List.mem_append_left _ h))))))))))))))))
set_option maxRecDepth 20000 in
theorem gX10_init_X4_init_n49 : GoodIn wsX10_init (wsX4_init) := ggX10_init_X4_init
theorem ggX10_init_X1_init : GoodIn wsX10_init wsX1_init := gW_in gwX1_init (fun _ h => List.mem_cons_of_mem _ (List.mem_append_right _ (List.mem_append_right _ (List.mem_append_right _ (List.mem_append_right _ (List.mem_append_right _ (List.mem_append_right _ (List.mem_append_right _ (List.mem_append_right _ (List.mem_append_right _ (List.mem_append_right _ (List.mem_append_right _ (List.mem_append_right _ (List.mem_append_right _ (List.mem_append_right _ (List.mem_append_right _ (List.mem_append_left _ h)))))))))))))))))
set_option maxRecDepth 20000 in
theorem gX10_init_X1_init_n56 : GoodIn wsX10_init (wsX1_init) := ggX10_init_X1_init
theorem ggX10_init_X5_init : GoodIn wsX10_init wsX5_init := gW_in gwX5_init (fun _ h => List.mem_cons_of_mem _ (List.mem_append_right _ (List.mem_append_right _ (List.mem_append_right _ (List.mem_append_right _ (List.mem_append_right _ (List.mem_append_right _ (List.mem_append_right _ (List.mem_append_right _ (List.mem_append_right _ (List.mem_append_right _ (List.mem_append_right _ (List.mem_append_right _ (List.mem_append_right _ (List.mem_append_right _ (List.mem_append_right _ (List.mem_append_right _ (List.mem_append_left _ h))))))))))))))))))
set_option maxRecDepth 20000 in
theorem gX10_init_X5_init_n65 : GoodIn wsX10_init (wsX5_init) := ggX10_init_X5_init
theorem ggX10_init_X4_begin : GoodIn wsX10_init wsX4_begin := gW_in gwX4_begin (fun _ h => List.mem_cons_of_mem _ (List.mem_append_right _ (List.mem_append_right _ (List.mem_append_right _ (List.mem_append_right _ (List.mem_append_right _ (List.mem_append_right _ (List.mem_append_right _ (List.mem_append_right _ (List.mem_append_right _ (List.mem_append_right _ (List.mem_append_right _ (List.mem_append_right _ (List.mem_append_right _ (List.mem_append_right _ (List.mem_append_right _ (List.mem_append_right _ (List.mem_append_right _ (h)))))))))))))))))))
set_option maxRecDepth 20000 in
theorem gX10_init_X4_begin : GoodIn wsX10_init (wsV RX10 69 RX4 yX4_begin wsX4_begin) := goodIn_app (goodIn_of _ (by decide +kernel)) ggX10_init_X4_begin
theorem bX10_init_0 : fac cX10_init [(0, .aload_n 0, 1), (1, .invokespecial 3, 3), (4, .aload_n 0, 1), (5, .sipush 500, 3), (8, .newarray .byte, 2), (10, .putfield 9, 3), (13, .aload_n 0, 1), (14, .new 13, 3), (17, .dup, 1), (18, .invokespecial 15, 3), (21, .putfield 16, 3), (24, .aload_n 0, 1), (25, .new 20, 3), (28, .dup, 1), (29, .invokespecial 22, 3), (32, .putfield 23, 3)] := fac_all 0 _ (by decide +kernel)
def dX10_init_0 := bX10_init_0.1
def dX10_init_1 := bX10_init_0.2.1
def dX10_init_4 := bX10_init_0.2.2.1
def dX10_init_5 := bX10_init_0.2.2.2.1
def dX10_init_8 := bX10_init_0.2.2.2.2.1
def dX10_init_10 := bX10_init_0.2.2.2.2.2.1
def dX10_init_13 := bX10_init_0.2.2.2.2.2.2.1
def dX10_init_14 := bX10_init_0.2.2.2.2.2.2.2.1
def dX10_init_17 := bX10_init_0.2.2.2.2.2.2.2.2.1
def dX10_init_18 := bX10_init_0.2.2.2.2.2.2.2.2.2.1
def dX10_init_21 := bX10_init_0.2.2.2.2.2.2.2.2.2.2.1
def dX10_init_24 := bX10_init_0.2.2.2.2.2.2.2.2.2.2.2.1
def dX10_init_25 := bX10_init_0.2.2.2.2.2.2.2.2.2.2.2.2.1
def dX10_init_28 := bX10_init_0.2.2.2.2.2.2.2.2.2.2.2.2.2.1
def dX10_init_29 := bX10_init_0.2.2.2.2.2.2.2.2.2.2.2.2.2.2.1
def dX10_init_32 := bX10_init_0.2.2.2.2.2.2.2.2.2.2.2.2.2.2.2.1
theorem bX10_init_35 : fac cX10_init [(35, .aload_n 0, 1), (36, .new 20, 3), (39, .dup, 1), (40, .invokespecial 22, 3), (43, .putfield 27, 3), (46, .aload_n 0, 1), (47, .bipush 7, 2), (49, .anewarray 30, 3), (52, .putfield 32, 3), (55, .aload_n 0, 1), (56, .new 36, 3), (59, .dup, 1), (60, .invokespecial 38, 3), (63, .putfield 39, 3), (66, .aload_n 0, 1), (67, .iconst 3, 1)] := fac_all 35 _ (by decide +kernel)
def dX10_init_35 := bX10_init_35.1
def dX10_init_36 := bX10_init_35.2.1
def dX10_init_39 := bX10_init_35.2.2.1
def dX10_init_40 := bX10_init_35.2.2.2.1
def dX10_init_43 := bX10_init_35.2.2.2.2.1
def dX10_init_46 := bX10_init_35.2.2.2.2.2.1
def dX10_init_47 := bX10_init_35.2.2.2.2.2.2.1
def dX10_init_49 := bX10_init_35.2.2.2.2.2.2.2.1
def dX10_init_52 := bX10_init_35.2.2.2.2.2.2.2.2.1
def dX10_init_55 := bX10_init_35.2.2.2.2.2.2.2.2.2.1
def dX10_init_56 := bX10_init_35.2.2.2.2.2.2.2.2.2.2.1
def dX10_init_59 := bX10_init_35.2.2.2.2.2.2.2.2.2.2.2.1
def dX10_init_60 := bX10_init_35.2.2.2.2.2.2.2.2.2.2.2.2.1
def dX10_init_63 := bX10_init_35.2.2.2.2.2.2.2.2.2.2.2.2.2.1
def dX10_init_66 := bX10_init_35.2.2.2.2.2.2.2.2.2.2.2.2.2.2.1
def dX10_init_67 := bX10_init_35.2.2.2.2.2.2.2.2.2.2.2.2.2.2.2.1
theorem bX10_init_68 : fac cX10_init [(68, .anewarray 36, 3), (71, .putfield 43, 3), (74, .aload_n 0, 1), (75, .new 47, 3), (78, .dup, 1), (79, .invokespecial 49, 3), (82, .putfield 50, 3), (85, .aload_n 0, 1), (86, .new 54, 3), (89, .dup, 1), (90, .invokespecial 56, 3), (93, .putfield 57, 3), (96, .aload_n 0, 1), (97, .iconst 3, 1), (98, .newarray .int, 2), (100, .putfield 61, 3)] := fac_all 68 _ (by decide +kernel)
def dX10_init_68 := bX10_init_68.1
def dX10_init_71 := bX10_init_68.2.1
def dX10_init_74 := bX10_init_68.2.2.1
def dX10_init_75 := bX10_init_68.2.2.2.1
def dX10_init_78 := bX10_init_68.2.2.2.2.1
def dX10_init_79 := bX10_init_68.2.2.2.2.2.1
def dX10_init_82 := bX10_init_68.2.2.2.2.2.2.1
def dX10_init_85 := bX10_init_68.2.2.2.2.2.2.2.1
def dX10_init_86 := bX10_init_68.2.2.2.2.2.2.2.2.1
def dX10_init_89 := bX10_init_68.2.2.2.2.2.2.2.2.2.1
def dX10_init_90 := bX10_init_68.2.2.2.2.2.2.2.2.2.2.1
def dX10_init_93 := bX10_init_68.2.2.2.2.2.2.2.2.2.2.2.1
def dX10_init_96 := bX10_init_68.2.2.2.2.2.2.2.2.2.2.2.2.1
def dX10_init_97 := bX10_init_68.2.2.2.2.2.2.2.2.2.2.2.2.2.1
def dX10_init_98 := bX10_init_68.2.2.2.2.2.2.2.2.2.2.2.2.2.2.1
def dX10_init_100 := bX10_init_68.2.2.2.2.2.2.2.2.2.2.2.2.2.2.2.1
theorem bX10_init_103 : fac cX10_init [(103, .iconst 0, 1), (104, .istore_n 1, 1), (105, .iload_n 1, 1), (106, .aload_n 0, 1), (107, .getfield 32, 3), (110, .arraylength, 1), (111, .if_icmp .ge 22, 3), (114, .aload_n 0, 1), (115, .getfield 32, 3), (118, .iload_n 1, 1), (119, .new 30, 3), (122, .dup, 1), (123, .invokespecial 65, 3), (126, .aastore, 1), (127, .iinc 1 1, 3), (130, .goto (-25), 3)] := fac_all 103 _ (by decide +kernel)
def dX10_init_103 := bX10_init_103.1
def dX10_init_104 := bX10_init_103.2.1
def dX10_init_105 := bX10_init_103.2.2.1
def dX10_init_106 := bX10_init_103.2.2.2.1
def dX10_init_107 := bX10_init_103.2.2.2.2.1
def dX10_init_110 := bX10_init_103.2.2.2.2.2.1
def dX10_init_111 := bX10_init_103.2.2.2.2.2.2.1
def dX10_init_114 := bX10_init_103.2.2.2.2.2.2.2.1
def dX10_init_115 := bX10_init_103.2.2.2.2.2.2.2.2.1
def dX10_init_118 := bX10_init_103.2.2.2.2.2.2.2.2.2.1
def dX10_init_119 := bX10_init_103.2.2.2.2.2.2.2.2.2.2.1
def dX10_init_122 := bX10_init_103.2.2.2.2.2.2.2.2.2.2.2.1
def dX10_init_123 := bX10_init_103.2.2.2.2.2.2.2.2.2.2.2.2.1
def dX10_init_126 := bX10_init_103.2.2.2.2.2.2.2.2.2.2.2.2.2.1
def dX10_init_127 := bX10_init_103.2.2.2.2.2.2.2.2.2.2.2.2.2.2.1
def dX10_init_130 := bX10_init_103.2.2.2.2.2.2.2.2.2.2.2.2.2.2.2.1
theorem bX10_init_133 : fac cX10_init [(133, .aload_n 0, 1), (134, .getfield 39, 3), (137, .getfield 66, 3), (140, .aload_n 0, 1), (141, .getfield 23, 3), (144, .invokevirtual 69, 3), (147, .return_, 1)] := fac_all 133 _ (by decide +kernel)
def dX10_init_133 := bX10_init_133.1
def dX10_init_134 := bX10_init_133.2.1
def dX10_init_137 := bX10_init_133.2.2.1
def dX10_init_140 := bX10_init_133.2.2.2.1
def dX10_init_141 := bX10_init_133.2.2.2.2.1
def dX10_init_144 := bX10_init_133.2.2.2.2.2.1
def dX10_init_147 := bX10_init_133.2.2.2.2.2.2.1
theorem ggX10_feed_X10_putOnTape : GoodIn wsX10_feed wsX10_putOnTape := gW_in gwX10_putOnTape (fun _ h => List.mem_cons_of_mem _ (List.mem_append_right _ (List.mem_append_right _ (h))))
set_option maxRecDepth 20000 in
theorem gX10_feed_X10_putOnTape : GoodIn wsX10_feed (wsV RX10 77 RX10 yX10_putOnTape wsX10_putOnTape) := goodIn_app (goodIn_of _ (by decide +kernel)) ggX10_feed_X10_putOnTape
theorem bX10_feed_0 : fac cX10_feed [(0, .aload_n 0, 1), (1, .getfield 73, 3), (4, .bipush 20, 2), (6, .iadd, 1), (7, .sipush 500, 3), (10, .if_icmp .le 5, 3), (13, .iconst (-1), 1), (14, .ireturn, 1), (15, .aload_n 0, 1), (16, .iload_n 1, 1), (17, .invokevirtual 77, 3), (20, .aload_n 0, 1), (21, .iload_n 2, 1), (22, .invokevirtual 77, 3), (25, .aload_n 0, 1), (26, .iload_n 3, 1)] := fac_all 0 _ (by decide +kernel)
def dX10_feed_0 := bX10_feed_0.1
def dX10_feed_1 := bX10_feed_0.2.1
def dX10_feed_4 := bX10_feed_0.2.2.1
def dX10_feed_6 := bX10_feed_0.2.2.2.1
def dX10_feed_7 := bX10_feed_0.2.2.2.2.1
def dX10_feed_10 := bX10_feed_0.2.2.2.2.2.1
def dX10_feed_13 := bX10_feed_0.2.2.2.2.2.2.1
def dX10_feed_14 := bX10_feed_0.2.2.2.2.2.2.2.1
def dX10_feed_15 := bX10_feed_0.2.2.2.2.2.2.2.2.1
def dX10_feed_16 := bX10_feed_0.2.2.2.2.2.2.2.2.2.1
def dX10_feed_17 := bX10_feed_0.2.2.2.2.2.2.2.2.2.2.1
def dX10_feed_20 := bX10_feed_0.2.2.2.2.2.2.2.2.2.2.2.1
def dX10_feed_21 := bX10_feed_0.2.2.2.2.2.2.2.2.2.2.2.2.1
def dX10_feed_22 := bX10_feed_0.2.2.2.2.2.2.2.2.2.2.2.2.2.1
def dX10_feed_25 := bX10_feed_0.2.2.2.2.2.2.2.2.2.2.2.2.2.2.1
def dX10_feed_26 := bX10_feed_0.2.2.2.2.2.2.2.2.2.2.2.2.2.2.2.1
theorem bX10_feed_27 : fac cX10_feed [(27, .invokevirtual 77, 3), (30, .aload_n 0, 1), (31, .iload 4, 2), (33, .invokevirtual 77, 3), (36, .aload_n 0, 1), (37, .iload 5, 2), (39, .invokevirtual 77, 3), (42, .aload_n 0, 1), (43, .getfield 73, 3), (46, .ireturn, 1)] := fac_all 27 _ (by decide +kernel)
def dX10_feed_27 := bX10_feed_27.1
def dX10_feed_30 := bX10_feed_27.2.1
def dX10_feed_31 := bX10_feed_27.2.2.1
def dX10_feed_33 := bX10_feed_27.2.2.2.1
def dX10_feed_36 := bX10_feed_27.2.2.2.2.1
def dX10_feed_37 := bX10_feed_27.2.2.2.2.2.1
def dX10_feed_39 := bX10_feed_27.2.2.2.2.2.2.1
def dX10_feed_42 := bX10_feed_27.2.2.2.2.2.2.2.1
def dX10_feed_43 := bX10_feed_27.2.2.2.2.2.2.2.2.1
def dX10_feed_46 := bX10_feed_27.2.2.2.2.2.2.2.2.2.1
theorem bX10_putOnTape_0 : fac cX10_putOnTape [(0, .bipush 24, 2), (2, .istore_n 2, 1), (3, .iload_n 2, 1), (4, .ifCond .lt 44, 3), (7, .aload_n 0, 1), (8, .getfield 73, 3), (11, .aload_n 0, 1), (12, .getfield 9, 3), (15, .arraylength, 1), (16, .if_icmp .ge 32, 3), (19, .aload_n 0, 1), (20, .getfield 9, 3), (23, .aload_n 0, 1), (24, .getfield 73, 3), (27, .iload_n 1, 1), (28, .iload_n 2, 1)] := fac_all 0 _ (by decide +kernel)
def dX10_putOnTape_0 := bX10_putOnTape_0.1
def dX10_putOnTape_2 := bX10_putOnTape_0.2.1
def dX10_putOnTape_3 := bX10_putOnTape_0.2.2.1
def dX10_putOnTape_4 := bX10_putOnTape_0.2.2.2.1
def dX10_putOnTape_7 := bX10_putOnTape_0.2.2.2.2.1
def dX10_putOnTape_8 := bX10_putOnTape_0.2.2.2.2.2.1
def dX10_putOnTape_11 := bX10_putOnTape_0.2.2.2.2.2.2.1
def dX10_putOnTape_12 := bX10_putOnTape_0.2.2.2.2.2.2.2.1
def dX10_putOnTape_15 := bX10_putOnTape_0.2.2.2.2.2.2.2.2.1
def dX10_putOnTape_16 := bX10_putOnTape_0.2.2.2.2.2.2.2.2.2.1
def dX10_putOnTape_19 := bX10_putOnTape_0.2.2.2.2.2.2.2.2.2.2.1
def dX10_putOnTape_20 := bX10_putOnTape_0.2.2.2.2.2.2.2.2.2.2.2.1
def dX10_putOnTape_23 := bX10_putOnTape_0.2.2.2.2.2.2.2.2.2.2.2.2.1
def dX10_putOnTape_24 := bX10_putOnTape_0.2.2.2.2.2.2.2.2.2.2.2.2.2.1
def dX10_putOnTape_27 := bX10_putOnTape_0.2.2.2.2.2.2.2.2.2.2.2.2.2.2.1
def dX10_putOnTape_28 := bX10_putOnTape_0.2.2.2.2.2.2.2.2.2.2.2.2.2.2.2.1
theorem bX10_putOnTape_29 : fac cX10_putOnTape [(29, .iushr, 1), (30, .i2b, 1), (31, .bastore, 1), (32, .aload_n 0, 1), (33, .dup, 1), (34, .getfield 73, 3), (37, .iconst 1, 1), (38, .iadd, 1), (39, .putfield 73, 3), (42, .iinc 2 (-8), 3), (45, .goto (-42), 3), (48, .return_, 1)] := fac_all 29 _ (by decide +kernel)
def dX10_putOnTape_29 := bX10_putOnTape_29.1
def dX10_putOnTape_30 := bX10_putOnTape_29.2.1
def dX10_putOnTape_31 := bX10_putOnTape_29.2.2.1
def dX10_putOnTape_32 := bX10_putOnTape_29.2.2.2.1
def dX10_putOnTape_33 := bX10_putOnTape_29.2.2.2.2.1
def dX10_putOnTape_34 := bX10_putOnTape_29.2.2.2.2.2.1
def dX10_putOnTape_37 := bX10_putOnTape_29.2.2.2.2.2.2.1
def dX10_putOnTape_38 := bX10_putOnTape_29.2.2.2.2.2.2.2.1
def dX10_putOnTape_39 := bX10_putOnTape_29.2.2.2.2.2.2.2.2.1
def dX10_putOnTape_42 := bX10_putOnTape_29.2.2.2.2.2.2.2.2.2.1
def dX10_putOnTape_45 := bX10_putOnTape_29.2.2.2.2.2.2.2.2.2.2.1
def dX10_putOnTape_48 := bX10_putOnTape_29.2.2.2.2.2.2.2.2.2.2.2.1
theorem ggX10_siege_X10_demand : GoodIn wsX10_siege wsX10_demand := gW_in gwX10_demand (fun _ h => List.mem_cons_of_mem _ (List.mem_append_right _ (List.mem_append_right _ (List.mem_append_right _ (List.mem_append_right _ (List.mem_append_right _ (List.mem_append_right _ (List.mem_append_right _ (List.mem_append_right _ (List.mem_append_right _ (List.mem_append_left _ h)))))))))))
set_option maxRecDepth 20000 in
theorem gX10_siege_X10_demand : GoodIn wsX10_siege (wsV RX10 81 RX10 yX10_demand wsX10_demand) := goodIn_app (goodIn_of _ (by decide +kernel)) ggX10_siege_X10_demand
theorem ggX10_siege_X6_clear : GoodIn wsX10_siege wsX6_clear := gW_in gwX6_clear (fun _ h => List.mem_cons_of_mem _ (List.mem_append_right _ (List.mem_append_right _ (List.mem_append_right _ (List.mem_append_right _ (List.mem_append_right _ (List.mem_append_right _ (List.mem_append_right _ (List.mem_append_right _ (List.mem_append_right _ (List.mem_append_right _ (List.mem_append_left _ h))))))))))))
set_option maxRecDepth 20000 in
theorem gX10_siege_X6_clear : GoodIn wsX10_siege (wsV RX10 85 RX6 yX6_clear wsX6_clear) := goodIn_app (goodIn_of _ (by decide +kernel)) ggX10_siege_X6_clear
theorem ggX10_siege_X7_read : GoodIn wsX10_siege wsX7_read := gW_in gwX7_read (fun _ h => List.mem_cons_of_mem _ (List.mem_append_right _ (List.mem_append_right _ (List.mem_append_right _ (List.mem_append_right _ (List.mem_append_right _ (List.mem_append_right _ (List.mem_append_right _ (List.mem_append_right _ (List.mem_append_right _ (List.mem_append_right _ (List.mem_append_right _ (List.mem_append_left _ h)))))))))))))
set_option maxRecDepth 20000 in
theorem gX10_siege_X7_read : GoodIn wsX10_siege (wsV RX10 88 RX7 yX7_read wsX7_read) := goodIn_app (goodIn_of _ (by decide +kernel)) ggX10_siege_X7_read
theorem ggX10_siege_X8_begin : GoodIn wsX10_siege wsX8_begin := gW_in gwX8_begin (fun _ h => List.mem_cons_of_mem _ (List.mem_append_right _ (List.mem_append_right _ (List.mem_append_right _ (List.mem_append_right _ (List.mem_append_right _ (List.mem_append_right _ (List.mem_append_right _ (List.mem_append_right _ (List.mem_append_right _ (List.mem_append_right _ (List.mem_append_right _ (List.mem_append_right _ (h))))))))))))))
set_option maxRecDepth 20000 in
theorem gX10_siege_X8_begin : GoodIn wsX10_siege (wsV RX10 98 RX8 yX8_begin wsX8_begin) := goodIn_app (goodIn_of _ (by decide +kernel)) ggX10_siege_X8_begin
theorem bX10_siege_0 : fac cX10_siege [(0, .aload_n 0, 1), (1, .iload_n 1, 1), (2, .ifCond .lt 15, 3), (5, .iload_n 1, 1), (6, .aload_n 0, 1), (7, .getfield 73, 3), (10, .if_icmp .gt 7, 3), (13, .iconst 1, 1), (14, .goto 4, 3), (17, .iconst 0, 1), (18, .invokevirtual 81, 3), (21, .aload_n 0, 1), (22, .iconst 0, 1), (23, .putfield 73, 3), (26, .aload_n 0, 1), (27, .getfield 27, 3)] := fac_all 0 _ (by decide +kernel)
def dX10_siege_0 := bX10_siege_0.1
def dX10_siege_1 := bX10_siege_0.2.1
def dX10_siege_2 := bX10_siege_0.2.2.1
def dX10_siege_5 := bX10_siege_0.2.2.2.1
def dX10_siege_6 := bX10_siege_0.2.2.2.2.1
def dX10_siege_7 := bX10_siege_0.2.2.2.2.2.1
def dX10_siege_10 := bX10_siege_0.2.2.2.2.2.2.1
def dX10_siege_13 := bX10_siege_0.2.2.2.2.2.2.2.1
def dX10_siege_14 := bX10_siege_0.2.2.2.2.2.2.2.2.1
def dX10_siege_17 := bX10_siege_0.2.2.2.2.2.2.2.2.2.1
def dX10_siege_18 := bX10_siege_0.2.2.2.2.2.2.2.2.2.2.1
def dX10_siege_21 := bX10_siege_0.2.2.2.2.2.2.2.2.2.2.2.1
def dX10_siege_22 := bX10_siege_0.2.2.2.2.2.2.2.2.2.2.2.2.1
def dX10_siege_23 := bX10_siege_0.2.2.2.2.2.2.2.2.2.2.2.2.2.1
def dX10_siege_26 := bX10_siege_0.2.2.2.2.2.2.2.2.2.2.2.2.2.2.1
def dX10_siege_27 := bX10_siege_0.2.2.2.2.2.2.2.2.2.2.2.2.2.2.2.1
theorem bX10_siege_30 : fac cX10_siege [(30, .invokevirtual 85, 3), (33, .aload_n 0, 1), (34, .getfield 16, 3), (37, .aload_n 0, 1), (38, .getfield 9, 3), (41, .iload_n 1, 1), (42, .aload_n 0, 1), (43, .getfield 27, 3), (46, .invokevirtual 88, 3), (49, .istore_n 2, 1), (50, .iload_n 2, 1), (51, .ifCond .eq 8, 3), (54, .iload_n 2, 1), (55, .bipush 10, 2), (57, .isub, 1), (58, .ireturn, 1)] := fac_all 30 _ (by decide +kernel)
def dX10_siege_30 := bX10_siege_30.1
def dX10_siege_33 := bX10_siege_30.2.1
def dX10_siege_34 := bX10_siege_30.2.2.1
def dX10_siege_37 := bX10_siege_30.2.2.2.1
def dX10_siege_38 := bX10_siege_30.2.2.2.2.1
def dX10_siege_41 := bX10_siege_30.2.2.2.2.2.1
def dX10_siege_42 := bX10_siege_30.2.2.2.2.2.2.1
def dX10_siege_43 := bX10_siege_30.2.2.2.2.2.2.2.1
def dX10_siege_46 := bX10_siege_30.2.2.2.2.2.2.2.2.1
def dX10_siege_49 := bX10_siege_30.2.2.2.2.2.2.2.2.2.1
def dX10_siege_50 := bX10_siege_30.2.2.2.2.2.2.2.2.2.2.1
def dX10_siege_51 := bX10_siege_30.2.2.2.2.2.2.2.2.2.2.2.1
def dX10_siege_54 := bX10_siege_30.2.2.2.2.2.2.2.2.2.2.2.2.1
def dX10_siege_55 := bX10_siege_30.2.2.2.2.2.2.2.2.2.2.2.2.2.1
def dX10_siege_57 := bX10_siege_30.2.2.2.2.2.2.2.2.2.2.2.2.2.2.1
def dX10_siege_58 := bX10_siege_30.2.2.2.2.2.2.2.2.2.2.2.2.2.2.2.1
theorem bX10_siege_59 : fac cX10_siege [(59, .aload_n 0, 1), (60, .getfield 23, 3), (63, .astore_n 3, 1), (64, .aload_n 0, 1), (65, .aload_n 0, 1), (66, .getfield 27, 3), (69, .putfield 23, 3), (72, .aload_n 0, 1), (73, .aload_n 3, 1), (74, .putfield 27, 3), (77, .aload_n 0, 1), (78, .iconst 0, 1), (79, .putfield 92, 3), (82, .aload_n 0, 1), (83, .iconst 0, 1), (84, .putfield 95, 3)] := fac_all 59 _ (by decide +kernel)
def dX10_siege_59 := bX10_siege_59.1
def dX10_siege_60 := bX10_siege_59.2.1
def dX10_siege_63 := bX10_siege_59.2.2.1
def dX10_siege_64 := bX10_siege_59.2.2.2.1
def dX10_siege_65 := bX10_siege_59.2.2.2.2.1
def dX10_siege_66 := bX10_siege_59.2.2.2.2.2.1
def dX10_siege_69 := bX10_siege_59.2.2.2.2.2.2.1
def dX10_siege_72 := bX10_siege_59.2.2.2.2.2.2.2.1
def dX10_siege_73 := bX10_siege_59.2.2.2.2.2.2.2.2.1
def dX10_siege_74 := bX10_siege_59.2.2.2.2.2.2.2.2.2.1
def dX10_siege_77 := bX10_siege_59.2.2.2.2.2.2.2.2.2.2.1
def dX10_siege_78 := bX10_siege_59.2.2.2.2.2.2.2.2.2.2.2.1
def dX10_siege_79 := bX10_siege_59.2.2.2.2.2.2.2.2.2.2.2.2.1
def dX10_siege_82 := bX10_siege_59.2.2.2.2.2.2.2.2.2.2.2.2.2.1
def dX10_siege_83 := bX10_siege_59.2.2.2.2.2.2.2.2.2.2.2.2.2.2.1
def dX10_siege_84 := bX10_siege_59.2.2.2.2.2.2.2.2.2.2.2.2.2.2.2.1
theorem bX10_siege_87 : fac cX10_siege [(87, .aload_n 0, 1), (88, .getfield 39, 3), (91, .aload_n 0, 1), (92, .getfield 23, 3), (95, .invokevirtual 98, 3), (98, .aload_n 0, 1), (99, .getfield 23, 3), (102, .getfield 99, 3), (105, .ireturn, 1)] := fac_all 87 _ (by decide +kernel)
def dX10_siege_87 := bX10_siege_87.1
def dX10_siege_88 := bX10_siege_87.2.1
def dX10_siege_91 := bX10_siege_87.2.2.1
def dX10_siege_92 := bX10_siege_87.2.2.2.1
def dX10_siege_95 := bX10_siege_87.2.2.2.2.1
def dX10_siege_98 := bX10_siege_87.2.2.2.2.2.1
def dX10_siege_99 := bX10_siege_87.2.2.2.2.2.2.1
def dX10_siege_102 := bX10_siege_87.2.2.2.2.2.2.2.1
def dX10_siege_105 := bX10_siege_87.2.2.2.2.2.2.2.2.1
theorem ggX10_contract_X10_demand : GoodIn wsX10_contract wsX10_demand := gW_in gwX10_demand (fun _ h => List.mem_cons_of_mem _ (List.mem_append_right _ (List.mem_append_right _ (List.mem_append_right _ (List.mem_append_right _ (List.mem_append_right _ (List.mem_append_left _ h)))))))
set_option maxRecDepth 20000 in
theorem gX10_contract_X10_demand : GoodIn wsX10_contract (wsV RX10 81 RX10 yX10_demand wsX10_demand) := goodIn_app (goodIn_of _ (by decide +kernel)) ggX10_contract_X10_demand
theorem ggX10_contract_X5_clear : GoodIn wsX10_contract wsX5_clear := gW_in gwX5_clear (fun _ h => List.mem_cons_of_mem _ (List.mem_append_right _ (List.mem_append_right _ (List.mem_append_right _ (List.mem_append_right _ (List.mem_append_right _ (List.mem_append_right _ (List.mem_append_left _ h))))))))
set_option maxRecDepth 20000 in
theorem gX10_contract_X5_clear : GoodIn wsX10_contract (wsV RX10 105 RX5 yX5_clear wsX5_clear) := goodIn_app (goodIn_of _ (by decide +kernel)) ggX10_contract_X5_clear
theorem ggX10_contract_X7_read : GoodIn wsX10_contract wsX7_read := gW_in gwX7_read (fun _ h => List.mem_cons_of_mem _ (List.mem_append_right _ (List.mem_append_right _ (List.mem_append_right _ (List.mem_append_right _ (List.mem_append_right _ (List.mem_append_right _ (List.mem_append_right _ (h)))))))))
set_option maxRecDepth 20000 in
theorem gX10_contract_X7_read : GoodIn wsX10_contract (wsV RX10 88 RX7 yX7_read wsX7_read) := goodIn_app (goodIn_of _ (by decide +kernel)) ggX10_contract_X7_read
theorem bX10_contract_0 : fac cX10_contract [(0, .aload_n 0, 1), (1, .iload_n 1, 1), (2, .ifCond .lt 22, 3), (5, .iload_n 1, 1), (6, .aload_n 0, 1), (7, .getfield 73, 3), (10, .if_icmp .gt 14, 3), (13, .iload_n 1, 1), (14, .sipush 200, 3), (17, .if_icmp .gt 7, 3), (20, .iconst 1, 1), (21, .goto 4, 3), (24, .iconst 0, 1), (25, .invokevirtual 81, 3), (28, .aload_n 0, 1), (29, .iconst 0, 1)] := fac_all 0 _ (by decide +kernel)
def dX10_contract_0 := bX10_contract_0.1
def dX10_contract_1 := bX10_contract_0.2.1
def dX10_contract_2 := bX10_contract_0.2.2.1
def dX10_contract_5 := bX10_contract_0.2.2.2.1
def dX10_contract_6 := bX10_contract_0.2.2.2.2.1
def dX10_contract_7 := bX10_contract_0.2.2.2.2.2.1
def dX10_contract_10 := bX10_contract_0.2.2.2.2.2.2.1
def dX10_contract_13 := bX10_contract_0.2.2.2.2.2.2.2.1
def dX10_contract_14 := bX10_contract_0.2.2.2.2.2.2.2.2.1
def dX10_contract_17 := bX10_contract_0.2.2.2.2.2.2.2.2.2.1
def dX10_contract_20 := bX10_contract_0.2.2.2.2.2.2.2.2.2.2.1
def dX10_contract_21 := bX10_contract_0.2.2.2.2.2.2.2.2.2.2.2.1
def dX10_contract_24 := bX10_contract_0.2.2.2.2.2.2.2.2.2.2.2.2.1
def dX10_contract_25 := bX10_contract_0.2.2.2.2.2.2.2.2.2.2.2.2.2.1
def dX10_contract_28 := bX10_contract_0.2.2.2.2.2.2.2.2.2.2.2.2.2.2.1
def dX10_contract_29 := bX10_contract_0.2.2.2.2.2.2.2.2.2.2.2.2.2.2.2.1
theorem bX10_contract_30 : fac cX10_contract [(30, .putfield 73, 3), (33, .aload_n 0, 1), (34, .getfield 92, 3), (37, .bipush 6, 2), (39, .if_icmp .lt 13, 3), (42, .aload_n 0, 1), (43, .getfield 16, 3), (46, .iconst (-1), 1), (47, .putfield 102, 3), (50, .iconst (-1), 1), (51, .ireturn, 1), (52, .aload_n 0, 1), (53, .getfield 32, 3), (56, .aload_n 0, 1), (57, .getfield 92, 3), (60, .aaload, 1)] := fac_all 30 _ (by decide +kernel)
def dX10_contract_30 := bX10_contract_30.1
def dX10_contract_33 := bX10_contract_30.2.1
def dX10_contract_34 := bX10_contract_30.2.2.1
def dX10_contract_37 := bX10_contract_30.2.2.2.1
def dX10_contract_39 := bX10_contract_30.2.2.2.2.1
def dX10_contract_42 := bX10_contract_30.2.2.2.2.2.1
def dX10_contract_43 := bX10_contract_30.2.2.2.2.2.2.1
def dX10_contract_46 := bX10_contract_30.2.2.2.2.2.2.2.1
def dX10_contract_47 := bX10_contract_30.2.2.2.2.2.2.2.2.1
def dX10_contract_50 := bX10_contract_30.2.2.2.2.2.2.2.2.2.1
def dX10_contract_51 := bX10_contract_30.2.2.2.2.2.2.2.2.2.2.1
def dX10_contract_52 := bX10_contract_30.2.2.2.2.2.2.2.2.2.2.2.1
def dX10_contract_53 := bX10_contract_30.2.2.2.2.2.2.2.2.2.2.2.2.1
def dX10_contract_56 := bX10_contract_30.2.2.2.2.2.2.2.2.2.2.2.2.2.1
def dX10_contract_57 := bX10_contract_30.2.2.2.2.2.2.2.2.2.2.2.2.2.2.1
def dX10_contract_60 := bX10_contract_30.2.2.2.2.2.2.2.2.2.2.2.2.2.2.2.1
theorem bX10_contract_61 : fac cX10_contract [(61, .astore_n 2, 1), (62, .aload_n 2, 1), (63, .aload_n 0, 1), (64, .getfield 23, 3), (67, .getfield 99, 3), (70, .invokevirtual 105, 3), (73, .aload_n 0, 1), (74, .getfield 16, 3), (77, .aload_n 0, 1), (78, .getfield 9, 3), (81, .iload_n 1, 1), (82, .aload_n 2, 1), (83, .invokevirtual 88, 3), (86, .istore_n 3, 1), (87, .iload_n 3, 1), (88, .ifCond .eq 8, 3)] := fac_all 61 _ (by decide +kernel)
def dX10_contract_61 := bX10_contract_61.1
def dX10_contract_62 := bX10_contract_61.2.1
def dX10_contract_63 := bX10_contract_61.2.2.1
def dX10_contract_64 := bX10_contract_61.2.2.2.1
def dX10_contract_67 := bX10_contract_61.2.2.2.2.1
def dX10_contract_70 := bX10_contract_61.2.2.2.2.2.1
def dX10_contract_73 := bX10_contract_61.2.2.2.2.2.2.1
def dX10_contract_74 := bX10_contract_61.2.2.2.2.2.2.2.1
def dX10_contract_77 := bX10_contract_61.2.2.2.2.2.2.2.2.1
def dX10_contract_78 := bX10_contract_61.2.2.2.2.2.2.2.2.2.1
def dX10_contract_81 := bX10_contract_61.2.2.2.2.2.2.2.2.2.2.1
def dX10_contract_82 := bX10_contract_61.2.2.2.2.2.2.2.2.2.2.2.1
def dX10_contract_83 := bX10_contract_61.2.2.2.2.2.2.2.2.2.2.2.2.1
def dX10_contract_86 := bX10_contract_61.2.2.2.2.2.2.2.2.2.2.2.2.2.1
def dX10_contract_87 := bX10_contract_61.2.2.2.2.2.2.2.2.2.2.2.2.2.2.1
def dX10_contract_88 := bX10_contract_61.2.2.2.2.2.2.2.2.2.2.2.2.2.2.2.1
theorem bX10_contract_91 : fac cX10_contract [(91, .iload_n 3, 1), (92, .bipush 10, 2), (94, .isub, 1), (95, .ireturn, 1), (96, .aload_n 0, 1), (97, .dup, 1), (98, .getfield 92, 3), (101, .iconst 1, 1), (102, .iadd, 1), (103, .putfield 92, 3), (106, .aload_n 0, 1), (107, .getfield 92, 3), (110, .iconst 1, 1), (111, .isub, 1), (112, .ireturn, 1)] := fac_all 91 _ (by decide +kernel)
def dX10_contract_91 := bX10_contract_91.1
def dX10_contract_92 := bX10_contract_91.2.1
def dX10_contract_94 := bX10_contract_91.2.2.1
def dX10_contract_95 := bX10_contract_91.2.2.2.1
def dX10_contract_96 := bX10_contract_91.2.2.2.2.1
def dX10_contract_97 := bX10_contract_91.2.2.2.2.2.1
def dX10_contract_98 := bX10_contract_91.2.2.2.2.2.2.1
def dX10_contract_101 := bX10_contract_91.2.2.2.2.2.2.2.1
def dX10_contract_102 := bX10_contract_91.2.2.2.2.2.2.2.2.1
end
section
def dX10_contract_103 := bX10_contract_91.2.2.2.2.2.2.2.2.2.1
def dX10_contract_106 := bX10_contract_91.2.2.2.2.2.2.2.2.2.2.1
def dX10_contract_107 := bX10_contract_91.2.2.2.2.2.2.2.2.2.2.2.1
def dX10_contract_110 := bX10_contract_91.2.2.2.2.2.2.2.2.2.2.2.2.1
def dX10_contract_111 := bX10_contract_91.2.2.2.2.2.2.2.2.2.2.2.2.2.1
def dX10_contract_112 := bX10_contract_91.2.2.2.2.2.2.2.2.2.2.2.2.2.2.1
theorem bX10_fault_0 : fac cX10_fault [(0, .aload_n 0, 1), (1, .getfield 16, 3), (4, .getfield 102, 3), (7, .ireturn, 1)] := fac_all 0 _ (by decide +kernel)
def dX10_fault_0 := bX10_fault_0.1
def dX10_fault_1 := bX10_fault_0.2.1
def dX10_fault_4 := bX10_fault_0.2.2.1
def dX10_fault_7 := bX10_fault_0.2.2.2.1
theorem ggX10_told_X10_within : GoodIn wsX10_told wsX10_within := gW_in gwX10_within (fun _ h => List.mem_cons_of_mem _ (List.mem_append_right _ (List.mem_append_right _ (List.mem_append_right _ (List.mem_append_right _ (List.mem_append_right _ (List.mem_append_left _ h)))))))
set_option maxRecDepth 20000 in
theorem gX10_told_X10_within : GoodIn wsX10_told (va_wsS RX10 107 yX10_within wsX10_within) := goodIn_app (goodIn_of _ (by decide +kernel)) ggX10_told_X10_within
theorem ggX10_told_X10_demand : GoodIn wsX10_told wsX10_demand := gW_in gwX10_demand (fun _ h => List.mem_cons_of_mem _ (List.mem_append_right _ (List.mem_append_right _ (List.mem_append_right _ (List.mem_append_right _ (List.mem_append_right _ (List.mem_append_right _ (h))))))))
set_option maxRecDepth 20000 in
theorem gX10_told_X10_demand : GoodIn wsX10_told (wsV RX10 81 RX10 yX10_demand wsX10_demand) := goodIn_app (goodIn_of _ (by decide +kernel)) ggX10_told_X10_demand
theorem bX10_told_0 : fac cX10_told [(0, .aload_n 0, 1), (1, .iload_n 1, 1), (2, .iconst 0, 1), (3, .iconst 4, 1), (4, .invokestatic 107, 3), (7, .invokevirtual 81, 3), (10, .aload_n 0, 1), (11, .getfield 39, 3), (14, .getfield 66, 3), (17, .astore_n 2, 1), (18, .aload_n 2, 1), (19, .getfield 111, 3), (22, .bipush 10, 2), (24, .iaload, 1), (25, .istore_n 3, 1), (26, .iload_n 1, 1)] := fac_all 0 _ (by decide +kernel)
def dX10_told_0 := bX10_told_0.1
def dX10_told_1 := bX10_told_0.2.1
def dX10_told_2 := bX10_told_0.2.2.1
def dX10_told_3 := bX10_told_0.2.2.2.1
def dX10_told_4 := bX10_told_0.2.2.2.2.1
def dX10_told_7 := bX10_told_0.2.2.2.2.2.1
def dX10_told_10 := bX10_told_0.2.2.2.2.2.2.1
def dX10_told_11 := bX10_told_0.2.2.2.2.2.2.2.1
def dX10_told_14 := bX10_told_0.2.2.2.2.2.2.2.2.1
def dX10_told_17 := bX10_told_0.2.2.2.2.2.2.2.2.2.1
def dX10_told_18 := bX10_told_0.2.2.2.2.2.2.2.2.2.2.1
def dX10_told_19 := bX10_told_0.2.2.2.2.2.2.2.2.2.2.2.1
def dX10_told_22 := bX10_told_0.2.2.2.2.2.2.2.2.2.2.2.2.1
def dX10_told_24 := bX10_told_0.2.2.2.2.2.2.2.2.2.2.2.2.2.1
def dX10_told_25 := bX10_told_0.2.2.2.2.2.2.2.2.2.2.2.2.2.2.1
def dX10_told_26 := bX10_told_0.2.2.2.2.2.2.2.2.2.2.2.2.2.2.2.1
theorem bX10_told_27 : fac cX10_told [(27, .tableswitch 49 0 3 #[29, 37, 42, 47], 29), (56, .aload_n 0, 1), (57, .getfield 23, 3), (60, .getfield 99, 3), (63, .ireturn, 1), (64, .aload_n 0, 1), (65, .getfield 92, 3), (68, .ireturn, 1), (69, .aload_n 2, 1), (70, .getfield 114, 3), (73, .ireturn, 1), (74, .iload_n 3, 1), (75, .ireturn, 1), (76, .iload_n 3, 1), (77, .iconst (-1), 1), (78, .if_icmp .ne 7, 3)] := fac_all 27 _ (by decide +kernel)
def dX10_told_27 := bX10_told_27.1
def dX10_told_56 := bX10_told_27.2.1
def dX10_told_57 := bX10_told_27.2.2.1
def dX10_told_60 := bX10_told_27.2.2.2.1
def dX10_told_63 := bX10_told_27.2.2.2.2.1
def dX10_told_64 := bX10_told_27.2.2.2.2.2.1
def dX10_told_65 := bX10_told_27.2.2.2.2.2.2.1
def dX10_told_68 := bX10_told_27.2.2.2.2.2.2.2.1
def dX10_told_69 := bX10_told_27.2.2.2.2.2.2.2.2.1
def dX10_told_70 := bX10_told_27.2.2.2.2.2.2.2.2.2.1
def dX10_told_73 := bX10_told_27.2.2.2.2.2.2.2.2.2.2.1
def dX10_told_74 := bX10_told_27.2.2.2.2.2.2.2.2.2.2.2.1
def dX10_told_75 := bX10_told_27.2.2.2.2.2.2.2.2.2.2.2.2.1
def dX10_told_76 := bX10_told_27.2.2.2.2.2.2.2.2.2.2.2.2.2.1
def dX10_told_77 := bX10_told_27.2.2.2.2.2.2.2.2.2.2.2.2.2.2.1
def dX10_told_78 := bX10_told_27.2.2.2.2.2.2.2.2.2.2.2.2.2.2.2.1
theorem bX10_told_81 : fac cX10_told [(81, .iconst (-1), 1), (82, .goto 15, 3), (85, .aload_n 2, 1), (86, .getfield 114, 3), (89, .aload_n 2, 1), (90, .getfield 111, 3), (93, .bipush 11, 2), (95, .iaload, 1), (96, .isub, 1), (97, .ireturn, 1)] := fac_all 81 _ (by decide +kernel)
def dX10_told_81 := bX10_told_81.1
def dX10_told_82 := bX10_told_81.2.1
def dX10_told_85 := bX10_told_81.2.2.1
def dX10_told_86 := bX10_told_81.2.2.2.1
def dX10_told_89 := bX10_told_81.2.2.2.2.1
def dX10_told_90 := bX10_told_81.2.2.2.2.2.1
def dX10_told_93 := bX10_told_81.2.2.2.2.2.2.1
def dX10_told_95 := bX10_told_81.2.2.2.2.2.2.2.1
def dX10_told_96 := bX10_told_81.2.2.2.2.2.2.2.2.1
def dX10_told_97 := bX10_told_81.2.2.2.2.2.2.2.2.2.1
theorem ggX10_wall_X10_demandWall : GoodIn wsX10_wall wsX10_demandWall := gW_in gwX10_demandWall (fun _ h => List.mem_cons_of_mem _ (List.mem_append_right _ (List.mem_append_right _ (List.mem_append_right _ (List.mem_append_right _ (List.mem_append_right _ (List.mem_append_left _ h)))))))
set_option maxRecDepth 20000 in
theorem gX10_wall_X10_demandWall : GoodIn wsX10_wall (wsV RX10 117 RX10 yX10_demandWall wsX10_demandWall) := goodIn_app (goodIn_of _ (by decide +kernel)) ggX10_wall_X10_demandWall
theorem ggX10_wall_X10_within : GoodIn wsX10_wall wsX10_within := gW_in gwX10_within (fun _ h => List.mem_cons_of_mem _ (List.mem_append_right _ (List.mem_append_right _ (List.mem_append_right _ (List.mem_append_right _ (List.mem_append_right _ (List.mem_append_right _ (List.mem_append_left _ h))))))))
set_option maxRecDepth 20000 in
theorem gX10_wall_X10_within : GoodIn wsX10_wall (va_wsS RX10 107 yX10_within wsX10_within) := goodIn_app (goodIn_of _ (by decide +kernel)) ggX10_wall_X10_within
theorem ggX10_wall_X10_demand : GoodIn wsX10_wall wsX10_demand := gW_in gwX10_demand (fun _ h => List.mem_cons_of_mem _ (List.mem_append_right _ (List.mem_append_right _ (List.mem_append_right _ (List.mem_append_right _ (List.mem_append_right _ (List.mem_append_right _ (List.mem_append_right _ (h)))))))))
set_option maxRecDepth 20000 in
theorem gX10_wall_X10_demand : GoodIn wsX10_wall (wsV RX10 81 RX10 yX10_demand wsX10_demand) := goodIn_app (goodIn_of _ (by decide +kernel)) ggX10_wall_X10_demand
theorem bX10_wall_0 : fac cX10_wall [(0, .aload_n 0, 1), (1, .iload_n 1, 1), (2, .invokevirtual 117, 3), (5, .aload_n 0, 1), (6, .iload_n 2, 1), (7, .iconst 0, 1), (8, .iconst 3, 1), (9, .invokestatic 107, 3), (12, .invokevirtual 81, 3), (15, .iload_n 2, 1), (16, .tableswitch 64 0 2 #[28, 38, 54], 28), (44, .aload_n 0, 1), (45, .getfield 23, 3), (48, .getfield 120, 3), (51, .iload_n 1, 1), (52, .iaload, 1)] := fac_all 0 _ (by decide +kernel)
def dX10_wall_0 := bX10_wall_0.1
def dX10_wall_1 := bX10_wall_0.2.1
def dX10_wall_2 := bX10_wall_0.2.2.1
def dX10_wall_5 := bX10_wall_0.2.2.2.1
def dX10_wall_6 := bX10_wall_0.2.2.2.2.1
def dX10_wall_7 := bX10_wall_0.2.2.2.2.2.1
def dX10_wall_8 := bX10_wall_0.2.2.2.2.2.2.1
def dX10_wall_9 := bX10_wall_0.2.2.2.2.2.2.2.1
def dX10_wall_12 := bX10_wall_0.2.2.2.2.2.2.2.2.1
def dX10_wall_15 := bX10_wall_0.2.2.2.2.2.2.2.2.2.1
def dX10_wall_16 := bX10_wall_0.2.2.2.2.2.2.2.2.2.2.1
def dX10_wall_44 := bX10_wall_0.2.2.2.2.2.2.2.2.2.2.2.1
def dX10_wall_45 := bX10_wall_0.2.2.2.2.2.2.2.2.2.2.2.2.1
def dX10_wall_48 := bX10_wall_0.2.2.2.2.2.2.2.2.2.2.2.2.2.1
def dX10_wall_51 := bX10_wall_0.2.2.2.2.2.2.2.2.2.2.2.2.2.2.1
def dX10_wall_52 := bX10_wall_0.2.2.2.2.2.2.2.2.2.2.2.2.2.2.2.1
theorem bX10_wall_53 : fac cX10_wall [(53, .ireturn, 1), (54, .aload_n 0, 1), (55, .getfield 39, 3), (58, .getfield 66, 3), (61, .getfield 111, 3), (64, .bipush 12, 2), (66, .iload_n 1, 1), (67, .iadd, 1), (68, .iaload, 1), (69, .ireturn, 1), (70, .aload_n 0, 1), (71, .getfield 23, 3), (74, .getfield 123, 3), (77, .iload_n 1, 1), (78, .iaload, 1), (79, .ireturn, 1)] := fac_all 53 _ (by decide +kernel)
def dX10_wall_53 := bX10_wall_53.1
def dX10_wall_54 := bX10_wall_53.2.1
def dX10_wall_55 := bX10_wall_53.2.2.1
def dX10_wall_58 := bX10_wall_53.2.2.2.1
def dX10_wall_61 := bX10_wall_53.2.2.2.2.1
def dX10_wall_64 := bX10_wall_53.2.2.2.2.2.1
def dX10_wall_66 := bX10_wall_53.2.2.2.2.2.2.1
def dX10_wall_67 := bX10_wall_53.2.2.2.2.2.2.2.1
def dX10_wall_68 := bX10_wall_53.2.2.2.2.2.2.2.2.1
def dX10_wall_69 := bX10_wall_53.2.2.2.2.2.2.2.2.2.1
def dX10_wall_70 := bX10_wall_53.2.2.2.2.2.2.2.2.2.2.1
def dX10_wall_71 := bX10_wall_53.2.2.2.2.2.2.2.2.2.2.2.1
def dX10_wall_74 := bX10_wall_53.2.2.2.2.2.2.2.2.2.2.2.2.1
def dX10_wall_77 := bX10_wall_53.2.2.2.2.2.2.2.2.2.2.2.2.2.1
def dX10_wall_78 := bX10_wall_53.2.2.2.2.2.2.2.2.2.2.2.2.2.2.1
def dX10_wall_79 := bX10_wall_53.2.2.2.2.2.2.2.2.2.2.2.2.2.2.2.1
theorem bX10_wall_80 : fac cX10_wall [(80, .aload_n 0, 1), (81, .getfield 39, 3), (84, .getfield 66, 3), (87, .getfield 111, 3), (90, .bipush 18, 2), (92, .iload_n 1, 1), (93, .iadd, 1), (94, .iaload, 1), (95, .ireturn, 1)] := fac_all 80 _ (by decide +kernel)
def dX10_wall_80 := bX10_wall_80.1
def dX10_wall_81 := bX10_wall_80.2.1
def dX10_wall_84 := bX10_wall_80.2.2.1
def dX10_wall_87 := bX10_wall_80.2.2.2.1
def dX10_wall_90 := bX10_wall_80.2.2.2.2.1
def dX10_wall_92 := bX10_wall_80.2.2.2.2.2.1
def dX10_wall_93 := bX10_wall_80.2.2.2.2.2.2.1
def dX10_wall_94 := bX10_wall_80.2.2.2.2.2.2.2.1
def dX10_wall_95 := bX10_wall_80.2.2.2.2.2.2.2.2.1
theorem ggX10_rule_X10_demandContract : GoodIn wsX10_rule wsX10_demandContract := gW_in gwX10_demandContract (fun _ h => List.mem_cons_of_mem _ (List.mem_append_right _ (List.mem_append_right _ (List.mem_append_right _ (List.mem_append_left _ h)))))
set_option maxRecDepth 20000 in
theorem gX10_rule_X10_demandContract : GoodIn wsX10_rule (wsV RX10 126 RX10 yX10_demandContract wsX10_demandContract) := goodIn_app (goodIn_of _ (by decide +kernel)) ggX10_rule_X10_demandContract
theorem ggX10_rule_X10_within : GoodIn wsX10_rule wsX10_within := gW_in gwX10_within (fun _ h => List.mem_cons_of_mem _ (List.mem_append_right _ (List.mem_append_right _ (List.mem_append_right _ (List.mem_append_right _ (List.mem_append_left _ h))))))
set_option maxRecDepth 20000 in
theorem gX10_rule_X10_within : GoodIn wsX10_rule (va_wsS RX10 107 yX10_within wsX10_within) := goodIn_app (goodIn_of _ (by decide +kernel)) ggX10_rule_X10_within
theorem ggX10_rule_X10_demand : GoodIn wsX10_rule wsX10_demand := gW_in gwX10_demand (fun _ h => List.mem_cons_of_mem _ (List.mem_append_right _ (List.mem_append_right _ (List.mem_append_right _ (List.mem_append_right _ (List.mem_append_right _ (List.mem_append_left _ h)))))))
set_option maxRecDepth 20000 in
theorem gX10_rule_X10_demand : GoodIn wsX10_rule (wsV RX10 81 RX10 yX10_demand wsX10_demand) := goodIn_app (goodIn_of _ (by decide +kernel)) ggX10_rule_X10_demand
theorem ggX10_rule_X5_answer : GoodIn wsX10_rule wsX5_answer := gW_in gwX5_answer (fun _ h => List.mem_cons_of_mem _ (List.mem_append_right _ (List.mem_append_right _ (List.mem_append_right _ (List.mem_append_right _ (List.mem_append_right _ (List.mem_append_right _ (h))))))))
set_option maxRecDepth 20000 in
theorem gX10_rule_X5_answer : GoodIn wsX10_rule (wsV RX10 129 RX5 yX5_answer wsX5_answer) := goodIn_app (goodIn_of _ (by decide +kernel)) ggX10_rule_X5_answer
theorem bX10_rule_0 : fac cX10_rule [(0, .aload_n 0, 1), (1, .iload_n 1, 1), (2, .invokevirtual 126, 3), (5, .aload_n 0, 1), (6, .iload_n 2, 1), (7, .iconst 0, 1), (8, .bipush 6, 2), (10, .invokestatic 107, 3), (13, .invokevirtual 81, 3), (16, .aload_n 0, 1), (17, .getfield 32, 3), (20, .iload_n 1, 1), (21, .aaload, 1), (22, .iload_n 2, 1), (23, .invokevirtual 129, 3), (26, .ireturn, 1)] := fac_all 0 _ (by decide +kernel)
def dX10_rule_0 := bX10_rule_0.1
def dX10_rule_1 := bX10_rule_0.2.1
def dX10_rule_2 := bX10_rule_0.2.2.1
def dX10_rule_5 := bX10_rule_0.2.2.2.1
def dX10_rule_6 := bX10_rule_0.2.2.2.2.1
def dX10_rule_7 := bX10_rule_0.2.2.2.2.2.1
def dX10_rule_8 := bX10_rule_0.2.2.2.2.2.2.1
def dX10_rule_10 := bX10_rule_0.2.2.2.2.2.2.2.1
def dX10_rule_13 := bX10_rule_0.2.2.2.2.2.2.2.2.1
def dX10_rule_16 := bX10_rule_0.2.2.2.2.2.2.2.2.2.1
def dX10_rule_17 := bX10_rule_0.2.2.2.2.2.2.2.2.2.2.1
def dX10_rule_20 := bX10_rule_0.2.2.2.2.2.2.2.2.2.2.2.1
def dX10_rule_21 := bX10_rule_0.2.2.2.2.2.2.2.2.2.2.2.2.1
def dX10_rule_22 := bX10_rule_0.2.2.2.2.2.2.2.2.2.2.2.2.2.1
def dX10_rule_23 := bX10_rule_0.2.2.2.2.2.2.2.2.2.2.2.2.2.2.1
def dX10_rule_26 := bX10_rule_0.2.2.2.2.2.2.2.2.2.2.2.2.2.2.2.1
theorem ggX10_wants_X10_within : GoodIn wsX10_wants wsX10_within := gW_in gwX10_within (fun _ h => List.mem_cons_of_mem _ (List.mem_append_right _ (List.mem_append_right _ (List.mem_append_right _ (List.mem_append_left _ h)))))
set_option maxRecDepth 20000 in
theorem gX10_wants_X10_within : GoodIn wsX10_wants (va_wsS RX10 107 yX10_within wsX10_within) := goodIn_app (goodIn_of _ (by decide +kernel)) ggX10_wants_X10_within
theorem ggX10_wants_X10_demand : GoodIn wsX10_wants wsX10_demand := gW_in gwX10_demand (fun _ h => List.mem_cons_of_mem _ (List.mem_append_right _ (List.mem_append_right _ (List.mem_append_right _ (List.mem_append_right _ (List.mem_append_left _ h))))))
set_option maxRecDepth 20000 in
theorem gX10_wants_X10_demand : GoodIn wsX10_wants (wsV RX10 81 RX10 yX10_demand wsX10_demand) := goodIn_app (goodIn_of _ (by decide +kernel)) ggX10_wants_X10_demand
theorem ggX10_wants_X6_wanted : GoodIn wsX10_wants wsX6_wanted := gW_in gwX6_wanted (fun _ h => List.mem_cons_of_mem _ (List.mem_append_right _ (List.mem_append_right _ (List.mem_append_right _ (List.mem_append_right _ (List.mem_append_right _ (h)))))))
set_option maxRecDepth 20000 in
theorem gX10_wants_X6_wanted : GoodIn wsX10_wants (wsV RX10 133 RX6 yX6_wanted wsX6_wanted) := goodIn_app (goodIn_of _ (by decide +kernel)) ggX10_wants_X6_wanted
theorem bX10_wants_0 : fac cX10_wants [(0, .aload_n 0, 1), (1, .iload_n 1, 1), (2, .iconst 0, 1), (3, .bipush 9, 2), (5, .invokestatic 107, 3), (8, .ifCond .eq 17, 3), (11, .iload_n 2, 1), (12, .iconst 0, 1), (13, .bipush 99, 2), (15, .invokestatic 107, 3), (18, .ifCond .eq 7, 3), (21, .iconst 1, 1), (22, .goto 4, 3), (25, .iconst 0, 1), (26, .invokevirtual 81, 3), (29, .aload_n 0, 1)] := fac_all 0 _ (by decide +kernel)
def dX10_wants_0 := bX10_wants_0.1
def dX10_wants_1 := bX10_wants_0.2.1
def dX10_wants_2 := bX10_wants_0.2.2.1
def dX10_wants_3 := bX10_wants_0.2.2.2.1
def dX10_wants_5 := bX10_wants_0.2.2.2.2.1
def dX10_wants_8 := bX10_wants_0.2.2.2.2.2.1
def dX10_wants_11 := bX10_wants_0.2.2.2.2.2.2.1
def dX10_wants_12 := bX10_wants_0.2.2.2.2.2.2.2.1
def dX10_wants_13 := bX10_wants_0.2.2.2.2.2.2.2.2.1
def dX10_wants_15 := bX10_wants_0.2.2.2.2.2.2.2.2.2.1
def dX10_wants_18 := bX10_wants_0.2.2.2.2.2.2.2.2.2.2.1
def dX10_wants_21 := bX10_wants_0.2.2.2.2.2.2.2.2.2.2.2.1
def dX10_wants_22 := bX10_wants_0.2.2.2.2.2.2.2.2.2.2.2.2.1
def dX10_wants_25 := bX10_wants_0.2.2.2.2.2.2.2.2.2.2.2.2.2.1
def dX10_wants_26 := bX10_wants_0.2.2.2.2.2.2.2.2.2.2.2.2.2.2.1
def dX10_wants_29 := bX10_wants_0.2.2.2.2.2.2.2.2.2.2.2.2.2.2.2.1
theorem bX10_wants_30 : fac cX10_wants [(30, .getfield 23, 3), (33, .iload_n 1, 1), (34, .iload_n 2, 1), (35, .invokevirtual 133, 3), (38, .ireturn, 1)] := fac_all 30 _ (by decide +kernel)
def dX10_wants_30 := bX10_wants_30.1
def dX10_wants_33 := bX10_wants_30.2.1
def dX10_wants_34 := bX10_wants_30.2.2.1
def dX10_wants_35 := bX10_wants_30.2.2.2.1
def dX10_wants_38 := bX10_wants_30.2.2.2.2.1
theorem ggX10_sign_X10_demandContractOrNone : GoodIn wsX10_sign wsX10_demandContractOrNone := gW_in gwX10_demandContractOrNone (fun _ h => List.mem_cons_of_mem _ (List.mem_append_right _ (List.mem_append_right _ (List.mem_append_right _ (List.mem_append_right _ (List.mem_append_left _ h))))))
set_option maxRecDepth 20000 in
theorem gX10_sign_X10_demandContractOrNone : GoodIn wsX10_sign (wsV RX10 137 RX10 yX10_demandContractOrNone wsX10_demandContractOrNone) := goodIn_app (goodIn_of _ (by decide +kernel)) ggX10_sign_X10_demandContractOrNone
theorem ggX10_sign_X4_pledge : GoodIn wsX10_sign wsX4_pledge := gW_in gwX4_pledge (fun _ h => List.mem_cons_of_mem _ (List.mem_append_right _ (List.mem_append_right _ (List.mem_append_right _ (List.mem_append_right _ (List.mem_append_right _ (h)))))))
set_option maxRecDepth 20000 in
theorem gX10_sign_X4_pledge : GoodIn wsX10_sign (wsV RX10 140 RX4 yX4_pledge wsX4_pledge) := goodIn_app (goodIn_of _ (by decide +kernel)) ggX10_sign_X4_pledge
theorem bX10_sign_0 : fac cX10_sign [(0, .aload_n 0, 1), (1, .iload_n 1, 1), (2, .invokevirtual 137, 3), (5, .aload_n 0, 1), (6, .getfield 39, 3), (9, .getfield 66, 3), (12, .getfield 111, 3), (15, .bipush 10, 2), (17, .iaload, 1), (18, .istore_n 2, 1), (19, .aload_n 0, 1), (20, .getfield 39, 3), (23, .getfield 66, 3), (26, .iload_n 1, 1), (27, .invokevirtual 140, 3), (30, .iload_n 2, 1)] := fac_all 0 _ (by decide +kernel)
def dX10_sign_0 := bX10_sign_0.1
def dX10_sign_1 := bX10_sign_0.2.1
def dX10_sign_2 := bX10_sign_0.2.2.1
def dX10_sign_5 := bX10_sign_0.2.2.2.1
def dX10_sign_6 := bX10_sign_0.2.2.2.2.1
def dX10_sign_9 := bX10_sign_0.2.2.2.2.2.1
def dX10_sign_12 := bX10_sign_0.2.2.2.2.2.2.1
def dX10_sign_15 := bX10_sign_0.2.2.2.2.2.2.2.1
def dX10_sign_17 := bX10_sign_0.2.2.2.2.2.2.2.2.1
def dX10_sign_18 := bX10_sign_0.2.2.2.2.2.2.2.2.2.1
def dX10_sign_19 := bX10_sign_0.2.2.2.2.2.2.2.2.2.2.1
def dX10_sign_20 := bX10_sign_0.2.2.2.2.2.2.2.2.2.2.2.1
def dX10_sign_23 := bX10_sign_0.2.2.2.2.2.2.2.2.2.2.2.2.1
def dX10_sign_26 := bX10_sign_0.2.2.2.2.2.2.2.2.2.2.2.2.2.1
def dX10_sign_27 := bX10_sign_0.2.2.2.2.2.2.2.2.2.2.2.2.2.2.1
def dX10_sign_30 := bX10_sign_0.2.2.2.2.2.2.2.2.2.2.2.2.2.2.2.1
theorem dX10_sign_31 : decode cX10_sign 31 = .ok (.ireturn, 1) := by decide +kernel
theorem ggX10_months_X10_within : GoodIn wsX10_months wsX10_within := gW_in gwX10_within (fun _ h => List.mem_cons_of_mem _ (List.mem_append_right _ (List.mem_append_right _ (List.mem_append_right _ (List.mem_append_right _ (List.mem_append_right _ (List.mem_append_right _ (List.mem_append_right _ (List.mem_append_left _ h)))))))))
set_option maxRecDepth 20000 in
theorem gX10_months_X10_within : GoodIn wsX10_months (va_wsS RX10 107 yX10_within wsX10_within) := goodIn_app (goodIn_of _ (by decide +kernel)) ggX10_months_X10_within
theorem ggX10_months_X10_demand : GoodIn wsX10_months wsX10_demand := gW_in gwX10_demand (fun _ h => List.mem_cons_of_mem _ (List.mem_append_right _ (List.mem_append_right _ (List.mem_append_right _ (List.mem_append_right _ (List.mem_append_right _ (List.mem_append_right _ (List.mem_append_right _ (List.mem_append_right _ (List.mem_append_left _ h))))))))))
set_option maxRecDepth 20000 in
theorem gX10_months_X10_demand : GoodIn wsX10_months (wsV RX10 81 RX10 yX10_demand wsX10_demand) := goodIn_app (goodIn_of _ (by decide +kernel)) ggX10_months_X10_demand
theorem ggX10_months_X0_keep : GoodIn wsX10_months wsX0_keep := gW_in gwX0_keep (fun _ h => List.mem_cons_of_mem _ (List.mem_append_right _ (List.mem_append_right _ (List.mem_append_right _ (List.mem_append_right _ (List.mem_append_right _ (List.mem_append_right _ (List.mem_append_right _ (List.mem_append_right _ (List.mem_append_right _ (List.mem_append_left _ h)))))))))))
set_option maxRecDepth 20000 in
theorem gX10_months_X0_keep : GoodIn wsX10_months (wsV RX10 147 RX0 yX0_keep wsX0_keep) := goodIn_app (goodIn_of _ (by decide +kernel)) ggX10_months_X0_keep
theorem ggX10_months_X10_inForce : GoodIn wsX10_months wsX10_inForce := gW_in gwX10_inForce (fun _ h => List.mem_cons_of_mem _ (List.mem_append_right _ (List.mem_append_right _ (List.mem_append_right _ (List.mem_append_right _ (List.mem_append_right _ (List.mem_append_right _ (List.mem_append_right _ (List.mem_append_right _ (List.mem_append_right _ (List.mem_append_right _ (List.mem_append_left _ h))))))))))))
set_option maxRecDepth 20000 in
theorem gX10_months_X10_inForce : GoodIn wsX10_months (wsV RX10 153 RX10 yX10_inForce wsX10_inForce) := goodIn_app (goodIn_of _ (by decide +kernel)) ggX10_months_X10_inForce
theorem ggX10_months_X4_pass : GoodIn wsX10_months wsX4_pass := gW_in gwX4_pass (fun _ h => List.mem_cons_of_mem _ (List.mem_append_right _ (List.mem_append_right _ (List.mem_append_right _ (List.mem_append_right _ (List.mem_append_right _ (List.mem_append_right _ (List.mem_append_right _ (List.mem_append_right _ (List.mem_append_right _ (List.mem_append_right _ (List.mem_append_right _ (List.mem_append_left _ h)))))))))))))
set_option maxRecDepth 20000 in
theorem gX10_months_X4_pass : GoodIn wsX10_months (wsV RX10 157 RX4 yX4_pass wsX4_pass) := goodIn_app (goodIn_of _ (by decide +kernel)) ggX10_months_X4_pass
theorem ggX10_months_X0_lead : GoodIn wsX10_months wsX0_lead := gW_in gwX0_lead (fun _ h => List.mem_cons_of_mem _ (List.mem_append_right _ (List.mem_append_right _ (List.mem_append_right _ (List.mem_append_right _ (List.mem_append_right _ (List.mem_append_right _ (List.mem_append_right _ (List.mem_append_right _ (List.mem_append_right _ (List.mem_append_right _ (List.mem_append_right _ (List.mem_append_right _ (h))))))))))))))
set_option maxRecDepth 20000 in
theorem gX10_months_X0_lead : GoodIn wsX10_months (wsV RX10 161 RX0 yX0_lead wsX0_lead) := goodIn_app (goodIn_of _ (by decide +kernel)) ggX10_months_X0_lead
theorem bX10_months_0 : fac cX10_months [(0, .aload_n 0, 1), (1, .iload_n 1, 1), (2, .iconst 1, 1), (3, .bipush 120, 2), (5, .invokestatic 107, 3), (8, .invokevirtual 81, 3), (11, .iconst 0, 1), (12, .istore_n 2, 1), (13, .iload_n 2, 1), (14, .iload_n 1, 1), (15, .if_icmp .ge 83, 3), (18, .aload_n 0, 1), (19, .getfield 39, 3), (22, .getfield 66, 3), (25, .getfield 114, 3), (28, .bipush 120, 2)] := fac_all 0 _ (by decide +kernel)
def dX10_months_0 := bX10_months_0.1
def dX10_months_1 := bX10_months_0.2.1
def dX10_months_2 := bX10_months_0.2.2.1
def dX10_months_3 := bX10_months_0.2.2.2.1
def dX10_months_5 := bX10_months_0.2.2.2.2.1
def dX10_months_8 := bX10_months_0.2.2.2.2.2.1
def dX10_months_11 := bX10_months_0.2.2.2.2.2.2.1
def dX10_months_12 := bX10_months_0.2.2.2.2.2.2.2.1
def dX10_months_13 := bX10_months_0.2.2.2.2.2.2.2.2.1
def dX10_months_14 := bX10_months_0.2.2.2.2.2.2.2.2.2.1
def dX10_months_15 := bX10_months_0.2.2.2.2.2.2.2.2.2.2.1
def dX10_months_18 := bX10_months_0.2.2.2.2.2.2.2.2.2.2.2.1
def dX10_months_19 := bX10_months_0.2.2.2.2.2.2.2.2.2.2.2.2.1
def dX10_months_22 := bX10_months_0.2.2.2.2.2.2.2.2.2.2.2.2.2.1
def dX10_months_25 := bX10_months_0.2.2.2.2.2.2.2.2.2.2.2.2.2.2.1
def dX10_months_28 := bX10_months_0.2.2.2.2.2.2.2.2.2.2.2.2.2.2.2.1
theorem bX10_months_30 : fac cX10_months [(30, .if_icmp .ge 68, 3), (33, .aload_n 0, 1), (34, .getfield 39, 3), (37, .getfield 143, 3), (40, .aload_n 0, 1), (41, .getfield 39, 3), (44, .getfield 66, 3), (47, .invokevirtual 147, 3), (50, .aload_n 0, 1), (51, .getfield 39, 3), (54, .getfield 66, 3), (57, .aload_n 0, 1), (58, .getfield 23, 3), (61, .aload_n 0, 1), (62, .aload_n 0, 1), (63, .getfield 39, 3)] := fac_all 30 _ (by decide +kernel)
def dX10_months_30 := bX10_months_30.1
def dX10_months_33 := bX10_months_30.2.1
def dX10_months_34 := bX10_months_30.2.2.1
def dX10_months_37 := bX10_months_30.2.2.2.1
def dX10_months_40 := bX10_months_30.2.2.2.2.1
def dX10_months_41 := bX10_months_30.2.2.2.2.2.1
def dX10_months_44 := bX10_months_30.2.2.2.2.2.2.1
def dX10_months_47 := bX10_months_30.2.2.2.2.2.2.2.1
def dX10_months_50 := bX10_months_30.2.2.2.2.2.2.2.2.1
def dX10_months_51 := bX10_months_30.2.2.2.2.2.2.2.2.2.1
def dX10_months_54 := bX10_months_30.2.2.2.2.2.2.2.2.2.2.1
def dX10_months_57 := bX10_months_30.2.2.2.2.2.2.2.2.2.2.2.1
def dX10_months_58 := bX10_months_30.2.2.2.2.2.2.2.2.2.2.2.2.1
def dX10_months_61 := bX10_months_30.2.2.2.2.2.2.2.2.2.2.2.2.2.1
def dX10_months_62 := bX10_months_30.2.2.2.2.2.2.2.2.2.2.2.2.2.2.1
def dX10_months_63 := bX10_months_30.2.2.2.2.2.2.2.2.2.2.2.2.2.2.2.1
theorem bX10_months_66 : fac cX10_months [(66, .getfield 66, 3), (69, .invokevirtual 153, 3), (72, .invokevirtual 157, 3), (75, .aload_n 0, 1), (76, .getfield 39, 3), (79, .getfield 143, 3), (82, .aload_n 0, 1), (83, .getfield 39, 3), (86, .getfield 66, 3), (89, .invokevirtual 161, 3), (92, .iinc 2 1, 3), (95, .goto (-82), 3), (98, .iload_n 2, 1), (99, .ireturn, 1)] := fac_all 66 _ (by decide +kernel)
def dX10_months_66 := bX10_months_66.1
def dX10_months_69 := bX10_months_66.2.1
def dX10_months_72 := bX10_months_66.2.2.1
def dX10_months_75 := bX10_months_66.2.2.2.1
def dX10_months_76 := bX10_months_66.2.2.2.2.1
def dX10_months_79 := bX10_months_66.2.2.2.2.2.1
def dX10_months_82 := bX10_months_66.2.2.2.2.2.2.1
def dX10_months_83 := bX10_months_66.2.2.2.2.2.2.2.1
def dX10_months_86 := bX10_months_66.2.2.2.2.2.2.2.2.1
def dX10_months_89 := bX10_months_66.2.2.2.2.2.2.2.2.2.1
def dX10_months_92 := bX10_months_66.2.2.2.2.2.2.2.2.2.2.1
def dX10_months_95 := bX10_months_66.2.2.2.2.2.2.2.2.2.2.2.1
def dX10_months_98 := bX10_months_66.2.2.2.2.2.2.2.2.2.2.2.2.1
def dX10_months_99 := bX10_months_66.2.2.2.2.2.2.2.2.2.2.2.2.2.1
theorem ggX10_undo_X10_within : GoodIn wsX10_undo wsX10_within := gW_in gwX10_within (fun _ h => List.mem_cons_of_mem _ (List.mem_append_right _ (List.mem_append_right _ (List.mem_append_right _ (List.mem_append_right _ (List.mem_append_right _ (List.mem_append_left _ h)))))))
set_option maxRecDepth 20000 in
theorem gX10_undo_X10_within : GoodIn wsX10_undo (va_wsS RX10 107 yX10_within wsX10_within) := goodIn_app (goodIn_of _ (by decide +kernel)) ggX10_undo_X10_within
theorem ggX10_undo_X10_demand : GoodIn wsX10_undo wsX10_demand := gW_in gwX10_demand (fun _ h => List.mem_cons_of_mem _ (List.mem_append_right _ (List.mem_append_right _ (List.mem_append_right _ (List.mem_append_right _ (List.mem_append_right _ (List.mem_append_right _ (List.mem_append_left _ h))))))))
set_option maxRecDepth 20000 in
theorem gX10_undo_X10_demand : GoodIn wsX10_undo (wsV RX10 81 RX10 yX10_demand wsX10_demand) := goodIn_app (goodIn_of _ (by decide +kernel)) ggX10_undo_X10_demand
theorem ggX10_undo_X0_giveBack : GoodIn wsX10_undo wsX0_giveBack := gW_in gwX0_giveBack (fun _ h => List.mem_cons_of_mem _ (List.mem_append_right _ (List.mem_append_right _ (List.mem_append_right _ (List.mem_append_right _ (List.mem_append_right _ (List.mem_append_right _ (List.mem_append_right _ (h)))))))))
set_option maxRecDepth 20000 in
theorem gX10_undo_X0_giveBack : GoodIn wsX10_undo (wsV RX10 169 RX0 yX0_giveBack wsX0_giveBack) := goodIn_app (goodIn_of _ (by decide +kernel)) ggX10_undo_X0_giveBack
theorem bX10_undo_0 : fac cX10_undo [(0, .aload_n 0, 1), (1, .iload_n 1, 1), (2, .iconst 1, 1), (3, .bipush 120, 2), (5, .invokestatic 107, 3), (8, .invokevirtual 81, 3), (11, .iload_n 1, 1), (12, .aload_n 0, 1), (13, .getfield 39, 3), (16, .getfield 66, 3), (19, .getfield 114, 3), (22, .invokestatic 164, 3), (25, .istore_n 2, 1), (26, .iload_n 2, 1), (27, .ifCond .le 32, 3), (30, .aload_n 0, 1)] := fac_all 0 _ (by decide +kernel)
def dX10_undo_0 := bX10_undo_0.1
def dX10_undo_1 := bX10_undo_0.2.1
def dX10_undo_2 := bX10_undo_0.2.2.1
def dX10_undo_3 := bX10_undo_0.2.2.2.1
def dX10_undo_5 := bX10_undo_0.2.2.2.2.1
def dX10_undo_8 := bX10_undo_0.2.2.2.2.2.1
def dX10_undo_11 := bX10_undo_0.2.2.2.2.2.2.1
def dX10_undo_12 := bX10_undo_0.2.2.2.2.2.2.2.1
def dX10_undo_13 := bX10_undo_0.2.2.2.2.2.2.2.2.1
def dX10_undo_16 := bX10_undo_0.2.2.2.2.2.2.2.2.2.1
def dX10_undo_19 := bX10_undo_0.2.2.2.2.2.2.2.2.2.2.1
def dX10_undo_22 := bX10_undo_0.2.2.2.2.2.2.2.2.2.2.2.1
def dX10_undo_25 := bX10_undo_0.2.2.2.2.2.2.2.2.2.2.2.2.1
def dX10_undo_26 := bX10_undo_0.2.2.2.2.2.2.2.2.2.2.2.2.2.1
def dX10_undo_27 := bX10_undo_0.2.2.2.2.2.2.2.2.2.2.2.2.2.2.1
def dX10_undo_30 := bX10_undo_0.2.2.2.2.2.2.2.2.2.2.2.2.2.2.2.1
theorem bX10_undo_31 : fac cX10_undo [(31, .getfield 39, 3), (34, .getfield 143, 3), (37, .aload_n 0, 1), (38, .getfield 39, 3), (41, .getfield 66, 3), (44, .aload_n 0, 1), (45, .getfield 39, 3), (48, .getfield 66, 3), (51, .getfield 114, 3), (54, .iload_n 2, 1), (55, .isub, 1), (56, .invokevirtual 169, 3), (59, .iload_n 2, 1), (60, .ireturn, 1)] := fac_all 31 _ (by decide +kernel)
def dX10_undo_31 := bX10_undo_31.1
def dX10_undo_34 := bX10_undo_31.2.1
def dX10_undo_37 := bX10_undo_31.2.2.1
def dX10_undo_38 := bX10_undo_31.2.2.2.1
def dX10_undo_41 := bX10_undo_31.2.2.2.2.1
def dX10_undo_44 := bX10_undo_31.2.2.2.2.2.1
def dX10_undo_45 := bX10_undo_31.2.2.2.2.2.2.1
def dX10_undo_48 := bX10_undo_31.2.2.2.2.2.2.2.1
def dX10_undo_51 := bX10_undo_31.2.2.2.2.2.2.2.2.1
def dX10_undo_54 := bX10_undo_31.2.2.2.2.2.2.2.2.2.1
def dX10_undo_55 := bX10_undo_31.2.2.2.2.2.2.2.2.2.2.1
def dX10_undo_56 := bX10_undo_31.2.2.2.2.2.2.2.2.2.2.2.1
def dX10_undo_59 := bX10_undo_31.2.2.2.2.2.2.2.2.2.2.2.2.1
def dX10_undo_60 := bX10_undo_31.2.2.2.2.2.2.2.2.2.2.2.2.2.1
theorem ggX10_sums_X10_within : GoodIn wsX10_sums wsX10_within := gW_in gwX10_within (fun _ h => List.mem_cons_of_mem _ (List.mem_append_right _ (List.mem_append_right _ (List.mem_append_right _ (List.mem_append_right _ (List.mem_append_left _ h))))))
set_option maxRecDepth 20000 in
theorem gX10_sums_X10_within : GoodIn wsX10_sums (va_wsS RX10 107 yX10_within wsX10_within) := goodIn_app (goodIn_of _ (by decide +kernel)) ggX10_sums_X10_within
theorem ggX10_sums_X10_demand : GoodIn wsX10_sums wsX10_demand := gW_in gwX10_demand (fun _ h => List.mem_cons_of_mem _ (List.mem_append_right _ (List.mem_append_right _ (List.mem_append_right _ (List.mem_append_right _ (List.mem_append_right _ (h)))))))
set_option maxRecDepth 20000 in
theorem gX10_sums_X10_demand : GoodIn wsX10_sums (wsV RX10 81 RX10 yX10_demand wsX10_demand) := goodIn_app (goodIn_of _ (by decide +kernel)) ggX10_sums_X10_demand
theorem bX10_sums_0 : fac cX10_sums [(0, .aload_n 0, 1), (1, .iload_n 1, 1), (2, .iconst 0, 1), (3, .bipush 9, 2), (5, .invokestatic 107, 3), (8, .invokevirtual 81, 3), (11, .aload_n 0, 1), (12, .getfield 39, 3), (15, .getfield 66, 3), (18, .getfield 111, 3), (21, .iload_n 1, 1), (22, .iaload, 1), (23, .ireturn, 1)] := fac_all 0 _ (by decide +kernel)
def dX10_sums_0 := bX10_sums_0.1
def dX10_sums_1 := bX10_sums_0.2.1
def dX10_sums_2 := bX10_sums_0.2.2.1
def dX10_sums_3 := bX10_sums_0.2.2.2.1
def dX10_sums_5 := bX10_sums_0.2.2.2.2.1
def dX10_sums_8 := bX10_sums_0.2.2.2.2.2.1
def dX10_sums_11 := bX10_sums_0.2.2.2.2.2.2.1
def dX10_sums_12 := bX10_sums_0.2.2.2.2.2.2.2.1
def dX10_sums_15 := bX10_sums_0.2.2.2.2.2.2.2.2.1
def dX10_sums_18 := bX10_sums_0.2.2.2.2.2.2.2.2.2.1
def dX10_sums_21 := bX10_sums_0.2.2.2.2.2.2.2.2.2.2.1
def dX10_sums_22 := bX10_sums_0.2.2.2.2.2.2.2.2.2.2.2.1
def dX10_sums_23 := bX10_sums_0.2.2.2.2.2.2.2.2.2.2.2.2.1
theorem ggX10_corks_X10_demandWall : GoodIn wsX10_corks wsX10_demandWall := gW_in gwX10_demandWall (fun _ h => List.mem_cons_of_mem _ (List.mem_append_right _ (List.mem_append_right _ (List.mem_append_right _ (List.mem_append_right _ (List.mem_append_right _ (List.mem_append_right _ (List.mem_append_left _ h))))))))
set_option maxRecDepth 20000 in
theorem gX10_corks_X10_demandWall : GoodIn wsX10_corks (wsV RX10 117 RX10 yX10_demandWall wsX10_demandWall) := goodIn_app (goodIn_of _ (by decide +kernel)) ggX10_corks_X10_demandWall
theorem ggX10_corks_X10_within : GoodIn wsX10_corks wsX10_within := gW_in gwX10_within (fun _ h => List.mem_cons_of_mem _ (List.mem_append_right _ (List.mem_append_right _ (List.mem_append_right _ (List.mem_append_right _ (List.mem_append_right _ (List.mem_append_right _ (List.mem_append_right _ (List.mem_append_left _ h)))))))))
set_option maxRecDepth 20000 in
theorem gX10_corks_X10_within : GoodIn wsX10_corks (va_wsS RX10 107 yX10_within wsX10_within) := goodIn_app (goodIn_of _ (by decide +kernel)) ggX10_corks_X10_within
theorem ggX10_corks_X10_demand : GoodIn wsX10_corks wsX10_demand := gW_in gwX10_demand (fun _ h => List.mem_cons_of_mem _ (List.mem_append_right _ (List.mem_append_right _ (List.mem_append_right _ (List.mem_append_right _ (List.mem_append_right _ (List.mem_append_right _ (List.mem_append_right _ (List.mem_append_right _ (List.mem_append_left _ h))))))))))
set_option maxRecDepth 20000 in
theorem gX10_corks_X10_demand : GoodIn wsX10_corks (wsV RX10 81 RX10 yX10_demand wsX10_demand) := goodIn_app (goodIn_of _ (by decide +kernel)) ggX10_corks_X10_demand
theorem ggX10_corks_X0_shotAt : GoodIn wsX10_corks wsX0_shotAt := gW_in gwX0_shotAt (fun _ h => List.mem_cons_of_mem _ (List.mem_append_right _ (List.mem_append_right _ (List.mem_append_right _ (List.mem_append_right _ (List.mem_append_right _ (List.mem_append_right _ (List.mem_append_right _ (List.mem_append_right _ (List.mem_append_right _ (h)))))))))))
set_option maxRecDepth 20000 in
theorem gX10_corks_X0_shotAt : GoodIn wsX10_corks (wsV RX10 173 RX0 yX0_shotAt wsX0_shotAt) := goodIn_app (goodIn_of _ (by decide +kernel)) ggX10_corks_X0_shotAt
theorem bX10_corks_0 : fac cX10_corks [(0, .aload_n 0, 1), (1, .iload_n 2, 1), (2, .invokevirtual 117, 3), (5, .aload_n 0, 1), (6, .iload_n 1, 1), (7, .iconst 0, 1), (8, .bipush 119, 2), (10, .invokestatic 107, 3), (13, .invokevirtual 81, 3), (16, .iload_n 1, 1), (17, .aload_n 0, 1), (18, .getfield 39, 3), (21, .getfield 66, 3), (24, .getfield 114, 3), (27, .if_icmp .ge 18, 3), (30, .aload_n 0, 1)] := fac_all 0 _ (by decide +kernel)
def dX10_corks_0 := bX10_corks_0.1
def dX10_corks_1 := bX10_corks_0.2.1
def dX10_corks_2 := bX10_corks_0.2.2.1
def dX10_corks_5 := bX10_corks_0.2.2.2.1
def dX10_corks_6 := bX10_corks_0.2.2.2.2.1
def dX10_corks_7 := bX10_corks_0.2.2.2.2.2.1
def dX10_corks_8 := bX10_corks_0.2.2.2.2.2.2.1
def dX10_corks_10 := bX10_corks_0.2.2.2.2.2.2.2.1
def dX10_corks_13 := bX10_corks_0.2.2.2.2.2.2.2.2.1
def dX10_corks_16 := bX10_corks_0.2.2.2.2.2.2.2.2.2.1
def dX10_corks_17 := bX10_corks_0.2.2.2.2.2.2.2.2.2.2.1
def dX10_corks_18 := bX10_corks_0.2.2.2.2.2.2.2.2.2.2.2.1
def dX10_corks_21 := bX10_corks_0.2.2.2.2.2.2.2.2.2.2.2.2.1
def dX10_corks_24 := bX10_corks_0.2.2.2.2.2.2.2.2.2.2.2.2.2.1
def dX10_corks_27 := bX10_corks_0.2.2.2.2.2.2.2.2.2.2.2.2.2.2.1
def dX10_corks_30 := bX10_corks_0.2.2.2.2.2.2.2.2.2.2.2.2.2.2.2.1
theorem bX10_corks_31 : fac cX10_corks [(31, .getfield 39, 3), (34, .getfield 143, 3), (37, .iload_n 1, 1), (38, .iload_n 2, 1), (39, .invokevirtual 173, 3), (42, .goto 4, 3), (45, .iconst 0, 1), (46, .ireturn, 1)] := fac_all 31 _ (by decide +kernel)
def dX10_corks_31 := bX10_corks_31.1
def dX10_corks_34 := bX10_corks_31.2.1
def dX10_corks_37 := bX10_corks_31.2.2.1
def dX10_corks_38 := bX10_corks_31.2.2.2.1
def dX10_corks_39 := bX10_corks_31.2.2.2.2.1
def dX10_corks_42 := bX10_corks_31.2.2.2.2.2.1
def dX10_corks_45 := bX10_corks_31.2.2.2.2.2.2.1
def dX10_corks_46 := bX10_corks_31.2.2.2.2.2.2.2.1
theorem ggX10_would_X10_demandContractOrNone : GoodIn wsX10_would wsX10_demandContractOrNone := gW_in gwX10_demandContractOrNone (fun _ h => List.mem_cons_of_mem _ (List.mem_append_right _ (List.mem_append_right _ (List.mem_append_right _ (List.mem_append_right _ (List.mem_append_right _ (List.mem_append_right _ (List.mem_append_left _ h))))))))
set_option maxRecDepth 20000 in
theorem gX10_would_X10_demandContractOrNone : GoodIn wsX10_would (wsV RX10 137 RX10 yX10_demandContractOrNone wsX10_demandContractOrNone) := goodIn_app (goodIn_of _ (by decide +kernel)) ggX10_would_X10_demandContractOrNone
theorem ggX10_would_X10_within : GoodIn wsX10_would wsX10_within := gW_in gwX10_within (fun _ h => List.mem_cons_of_mem _ (List.mem_append_right _ (List.mem_append_right _ (List.mem_append_right _ (List.mem_append_right _ (List.mem_append_right _ (List.mem_append_right _ (List.mem_append_right _ (List.mem_append_left _ h)))))))))
set_option maxRecDepth 20000 in
theorem gX10_would_X10_within : GoodIn wsX10_would (va_wsS RX10 107 yX10_within wsX10_within) := goodIn_app (goodIn_of _ (by decide +kernel)) ggX10_would_X10_within
theorem ggX10_would_X10_demand : GoodIn wsX10_would wsX10_demand := gW_in gwX10_demand (fun _ h => List.mem_cons_of_mem _ (List.mem_append_right _ (List.mem_append_right _ (List.mem_append_right _ (List.mem_append_right _ (List.mem_append_right _ (List.mem_append_right _ (List.mem_append_right _ (List.mem_append_right _ (List.mem_append_left _ h))))))))))
set_option maxRecDepth 20000 in
theorem gX10_would_X10_demand : GoodIn wsX10_would (wsV RX10 81 RX10 yX10_demand wsX10_demand) := goodIn_app (goodIn_of _ (by decide +kernel)) ggX10_would_X10_demand
theorem ggX10_would_X10_trySigned : GoodIn wsX10_would wsX10_trySigned := gW_in gwX10_trySigned (fun _ h => List.mem_cons_of_mem _ (List.mem_append_right _ (List.mem_append_right _ (List.mem_append_right _ (List.mem_append_right _ (List.mem_append_right _ (List.mem_append_right _ (List.mem_append_right _ (List.mem_append_right _ (List.mem_append_right _ (h)))))))))))
set_option maxRecDepth 20000 in
theorem gX10_would_X10_trySigned : GoodIn wsX10_would (wsV RX10 176 RX10 yX10_trySigned wsX10_trySigned) := goodIn_app (goodIn_of _ (by decide +kernel)) ggX10_would_X10_trySigned
theorem bX10_would_0 : fac cX10_would [(0, .aload_n 0, 1), (1, .iload_n 1, 1), (2, .invokevirtual 137, 3), (5, .aload_n 0, 1), (6, .iload_n 2, 1), (7, .iconst 1, 1), (8, .bipush 60, 2), (10, .invokestatic 107, 3), (13, .ifCond .eq 17, 3), (16, .iload_n 3, 1), (17, .iconst 0, 1), (18, .bipush 9, 2), (20, .invokestatic 107, 3), (23, .ifCond .eq 7, 3), (26, .iconst 1, 1), (27, .goto 4, 3)] := fac_all 0 _ (by decide +kernel)
def dX10_would_0 := bX10_would_0.1
def dX10_would_1 := bX10_would_0.2.1
def dX10_would_2 := bX10_would_0.2.2.1
def dX10_would_5 := bX10_would_0.2.2.2.1
def dX10_would_6 := bX10_would_0.2.2.2.2.1
def dX10_would_7 := bX10_would_0.2.2.2.2.2.1
def dX10_would_8 := bX10_would_0.2.2.2.2.2.2.1
def dX10_would_10 := bX10_would_0.2.2.2.2.2.2.2.1
def dX10_would_13 := bX10_would_0.2.2.2.2.2.2.2.2.1
def dX10_would_16 := bX10_would_0.2.2.2.2.2.2.2.2.2.1
def dX10_would_17 := bX10_would_0.2.2.2.2.2.2.2.2.2.2.1
def dX10_would_18 := bX10_would_0.2.2.2.2.2.2.2.2.2.2.2.1
def dX10_would_20 := bX10_would_0.2.2.2.2.2.2.2.2.2.2.2.2.1
def dX10_would_23 := bX10_would_0.2.2.2.2.2.2.2.2.2.2.2.2.2.1
def dX10_would_26 := bX10_would_0.2.2.2.2.2.2.2.2.2.2.2.2.2.2.1
def dX10_would_27 := bX10_would_0.2.2.2.2.2.2.2.2.2.2.2.2.2.2.2.1
theorem bX10_would_30 : fac cX10_would [(30, .iconst 0, 1), (31, .invokevirtual 81, 3), (34, .aload_n 0, 1), (35, .iload_n 1, 1), (36, .iload_n 2, 1), (37, .invokevirtual 176, 3), (40, .pop, 1), (41, .aload_n 0, 1), (42, .getfield 50, 3), (45, .getfield 111, 3), (48, .iload_n 3, 1), (49, .iaload, 1), (50, .ireturn, 1)] := fac_all 30 _ (by decide +kernel)
def dX10_would_30 := bX10_would_30.1
def dX10_would_31 := bX10_would_30.2.1
def dX10_would_34 := bX10_would_30.2.2.1
def dX10_would_35 := bX10_would_30.2.2.2.1
def dX10_would_36 := bX10_would_30.2.2.2.2.1
def dX10_would_37 := bX10_would_30.2.2.2.2.2.1
def dX10_would_40 := bX10_would_30.2.2.2.2.2.2.1
def dX10_would_41 := bX10_would_30.2.2.2.2.2.2.2.1
def dX10_would_42 := bX10_would_30.2.2.2.2.2.2.2.2.1
def dX10_would_45 := bX10_would_30.2.2.2.2.2.2.2.2.2.1
def dX10_would_48 := bX10_would_30.2.2.2.2.2.2.2.2.2.2.1
def dX10_would_49 := bX10_would_30.2.2.2.2.2.2.2.2.2.2.2.1
def dX10_would_50 := bX10_would_30.2.2.2.2.2.2.2.2.2.2.2.2.1
theorem ggX10_best_X10_within : GoodIn wsX10_best wsX10_within := gW_in gwX10_within (fun _ h => List.mem_cons_of_mem _ (List.mem_append_right _ (List.mem_append_right _ (List.mem_append_right _ (List.mem_append_right _ (List.mem_append_right _ (List.mem_append_right _ (List.mem_append_left _ h))))))))
set_option maxRecDepth 20000 in
theorem gX10_best_X10_within : GoodIn wsX10_best (va_wsS RX10 107 yX10_within wsX10_within) := goodIn_app (goodIn_of _ (by decide +kernel)) ggX10_best_X10_within
theorem ggX10_best_X10_demand : GoodIn wsX10_best wsX10_demand := gW_in gwX10_demand (fun _ h => List.mem_cons_of_mem _ (List.mem_append_right _ (List.mem_append_right _ (List.mem_append_right _ (List.mem_append_right _ (List.mem_append_right _ (List.mem_append_right _ (List.mem_append_right _ (List.mem_append_left _ h)))))))))
set_option maxRecDepth 20000 in
theorem gX10_best_X10_demand : GoodIn wsX10_best (wsV RX10 81 RX10 yX10_demand wsX10_demand) := goodIn_app (goodIn_of _ (by decide +kernel)) ggX10_best_X10_demand
theorem ggX10_best_X10_trySigned : GoodIn wsX10_best wsX10_trySigned := gW_in gwX10_trySigned (fun _ h => List.mem_cons_of_mem _ (List.mem_append_right _ (List.mem_append_right _ (List.mem_append_right _ (List.mem_append_right _ (List.mem_append_right _ (List.mem_append_right _ (List.mem_append_right _ (List.mem_append_right _ (h))))))))))
set_option maxRecDepth 20000 in
theorem gX10_best_X10_trySigned : GoodIn wsX10_best (wsV RX10 176 RX10 yX10_trySigned wsX10_trySigned) := goodIn_app (goodIn_of _ (by decide +kernel)) ggX10_best_X10_trySigned
theorem bX10_best_0 : fac cX10_best [(0, .aload_n 0, 1), (1, .iload_n 1, 1), (2, .iconst 1, 1), (3, .bipush 60, 2), (5, .invokestatic 107, 3), (8, .ifCond .eq 16, 3), (11, .iload_n 2, 1), (12, .iconst 0, 1), (13, .iconst 1, 1), (14, .invokestatic 107, 3), (17, .ifCond .eq 7, 3), (20, .iconst 1, 1), (21, .goto 4, 3), (24, .iconst 0, 1), (25, .invokevirtual 81, 3), (28, .iconst (-1), 1)] := fac_all 0 _ (by decide +kernel)
def dX10_best_0 := bX10_best_0.1
def dX10_best_1 := bX10_best_0.2.1
def dX10_best_2 := bX10_best_0.2.2.1
def dX10_best_3 := bX10_best_0.2.2.2.1
def dX10_best_5 := bX10_best_0.2.2.2.2.1
def dX10_best_8 := bX10_best_0.2.2.2.2.2.1
def dX10_best_11 := bX10_best_0.2.2.2.2.2.2.1
def dX10_best_12 := bX10_best_0.2.2.2.2.2.2.2.1
def dX10_best_13 := bX10_best_0.2.2.2.2.2.2.2.2.1
def dX10_best_14 := bX10_best_0.2.2.2.2.2.2.2.2.2.1
def dX10_best_17 := bX10_best_0.2.2.2.2.2.2.2.2.2.2.1
def dX10_best_20 := bX10_best_0.2.2.2.2.2.2.2.2.2.2.2.1
def dX10_best_21 := bX10_best_0.2.2.2.2.2.2.2.2.2.2.2.2.1
def dX10_best_24 := bX10_best_0.2.2.2.2.2.2.2.2.2.2.2.2.2.1
def dX10_best_25 := bX10_best_0.2.2.2.2.2.2.2.2.2.2.2.2.2.2.1
def dX10_best_28 := bX10_best_0.2.2.2.2.2.2.2.2.2.2.2.2.2.2.2.1
theorem bX10_best_29 : fac cX10_best [(29, .istore_n 3, 1), (30, .iconst (-1), 1), (31, .istore 4, 2), (33, .iconst 0, 1), (34, .istore 5, 2), (36, .iload 5, 2), (38, .aload_n 0, 1), (39, .getfield 92, 3), (42, .if_icmp .ge 32, 3), (45, .aload_n 0, 1), (46, .iload 5, 2), (48, .iload_n 1, 1), (49, .invokevirtual 176, 3), (52, .istore 6, 2), (54, .iload 6, 2), (56, .iload 4, 2)] := fac_all 29 _ (by decide +kernel)
def dX10_best_29 := bX10_best_29.1
def dX10_best_30 := bX10_best_29.2.1
def dX10_best_31 := bX10_best_29.2.2.1
def dX10_best_33 := bX10_best_29.2.2.2.1
def dX10_best_34 := bX10_best_29.2.2.2.2.1
def dX10_best_36 := bX10_best_29.2.2.2.2.2.1
def dX10_best_38 := bX10_best_29.2.2.2.2.2.2.1
def dX10_best_39 := bX10_best_29.2.2.2.2.2.2.2.1
def dX10_best_42 := bX10_best_29.2.2.2.2.2.2.2.2.1
def dX10_best_45 := bX10_best_29.2.2.2.2.2.2.2.2.2.1
def dX10_best_46 := bX10_best_29.2.2.2.2.2.2.2.2.2.2.1
def dX10_best_48 := bX10_best_29.2.2.2.2.2.2.2.2.2.2.2.1
def dX10_best_49 := bX10_best_29.2.2.2.2.2.2.2.2.2.2.2.2.1
def dX10_best_52 := bX10_best_29.2.2.2.2.2.2.2.2.2.2.2.2.2.1
def dX10_best_54 := bX10_best_29.2.2.2.2.2.2.2.2.2.2.2.2.2.2.1
def dX10_best_56 := bX10_best_29.2.2.2.2.2.2.2.2.2.2.2.2.2.2.2.1
theorem bX10_best_58 : fac cX10_best [(58, .if_icmp .le 10, 3), (61, .iload 6, 2), (63, .istore 4, 2), (65, .iload 5, 2), (67, .istore_n 3, 1), (68, .iinc 5 1, 3), (71, .goto (-35), 3), (74, .aload_n 0, 1), (75, .iconst (-1), 1), (76, .iload_n 1, 1), (77, .invokevirtual 176, 3), (80, .istore 5, 2), (82, .iload 5, 2), (84, .iload 4, 2), (86, .if_icmp .le 9, 3), (89, .iload 5, 2)] := fac_all 58 _ (by decide +kernel)
def dX10_best_58 := bX10_best_58.1
def dX10_best_61 := bX10_best_58.2.1
def dX10_best_63 := bX10_best_58.2.2.1
def dX10_best_65 := bX10_best_58.2.2.2.1
def dX10_best_67 := bX10_best_58.2.2.2.2.1
def dX10_best_68 := bX10_best_58.2.2.2.2.2.1
def dX10_best_71 := bX10_best_58.2.2.2.2.2.2.1
def dX10_best_74 := bX10_best_58.2.2.2.2.2.2.2.1
def dX10_best_75 := bX10_best_58.2.2.2.2.2.2.2.2.1
def dX10_best_76 := bX10_best_58.2.2.2.2.2.2.2.2.2.1
def dX10_best_77 := bX10_best_58.2.2.2.2.2.2.2.2.2.2.1
def dX10_best_80 := bX10_best_58.2.2.2.2.2.2.2.2.2.2.2.1
def dX10_best_82 := bX10_best_58.2.2.2.2.2.2.2.2.2.2.2.2.1
def dX10_best_84 := bX10_best_58.2.2.2.2.2.2.2.2.2.2.2.2.2.1
def dX10_best_86 := bX10_best_58.2.2.2.2.2.2.2.2.2.2.2.2.2.2.1
def dX10_best_89 := bX10_best_58.2.2.2.2.2.2.2.2.2.2.2.2.2.2.2.1
theorem bX10_best_91 : fac cX10_best [(91, .istore 4, 2), (93, .iconst (-1), 1), (94, .istore_n 3, 1), (95, .iload_n 2, 1), (96, .ifCond .ne 7, 3), (99, .iload_n 3, 1), (100, .goto 5, 3), (103, .iload 4, 2), (105, .ireturn, 1)] := fac_all 91 _ (by decide +kernel)
def dX10_best_91 := bX10_best_91.1
def dX10_best_93 := bX10_best_91.2.1
def dX10_best_94 := bX10_best_91.2.2.1
def dX10_best_95 := bX10_best_91.2.2.2.1
def dX10_best_96 := bX10_best_91.2.2.2.2.1
def dX10_best_99 := bX10_best_91.2.2.2.2.2.1
def dX10_best_100 := bX10_best_91.2.2.2.2.2.2.1
def dX10_best_103 := bX10_best_91.2.2.2.2.2.2.2.1
def dX10_best_105 := bX10_best_91.2.2.2.2.2.2.2.2.1
theorem ggX10_offer_X10_within : GoodIn wsX10_offer wsX10_within := gW_in gwX10_within (fun _ h => List.mem_cons_of_mem _ (List.mem_append_right _ (List.mem_append_right _ (List.mem_append_right _ (List.mem_append_right _ (List.mem_append_right _ (List.mem_append_right _ (List.mem_append_left _ h))))))))
set_option maxRecDepth 20000 in
theorem gX10_offer_X10_within : GoodIn wsX10_offer (va_wsS RX10 107 yX10_within wsX10_within) := goodIn_app (goodIn_of _ (by decide +kernel)) ggX10_offer_X10_within
theorem ggX10_offer_X10_demand : GoodIn wsX10_offer wsX10_demand := gW_in gwX10_demand (fun _ h => List.mem_cons_of_mem _ (List.mem_append_right _ (List.mem_append_right _ (List.mem_append_right _ (List.mem_append_right _ (List.mem_append_right _ (List.mem_append_right _ (List.mem_append_right _ (List.mem_append_left _ h)))))))))
set_option maxRecDepth 20000 in
theorem gX10_offer_X10_demand : GoodIn wsX10_offer (wsV RX10 81 RX10 yX10_demand wsX10_demand) := goodIn_app (goodIn_of _ (by decide +kernel)) ggX10_offer_X10_demand
theorem ggX10_offer_X6_wanted : GoodIn wsX10_offer wsX6_wanted := gW_in gwX6_wanted (fun _ h => List.mem_cons_of_mem _ (List.mem_append_right _ (List.mem_append_right _ (List.mem_append_right _ (List.mem_append_right _ (List.mem_append_right _ (List.mem_append_right _ (List.mem_append_right _ (List.mem_append_right _ (List.mem_append_left _ h))))))))))
set_option maxRecDepth 20000 in
theorem gX10_offer_X6_wanted : GoodIn wsX10_offer (wsV RX10 133 RX6 yX6_wanted wsX6_wanted) := goodIn_app (goodIn_of _ (by decide +kernel)) ggX10_offer_X6_wanted
theorem ggX10_offer_X5_propose : GoodIn wsX10_offer wsX5_propose := gW_in gwX5_propose (fun _ h => List.mem_cons_of_mem _ (List.mem_append_right _ (List.mem_append_right _ (List.mem_append_right _ (List.mem_append_right _ (List.mem_append_right _ (List.mem_append_right _ (List.mem_append_right _ (List.mem_append_right _ (List.mem_append_right _ (List.mem_append_left _ h)))))))))))
set_option maxRecDepth 20000 in
theorem gX10_offer_X5_propose : GoodIn wsX10_offer (wsV RX10 179 RX5 yX5_propose wsX5_propose) := goodIn_app (goodIn_of _ (by decide +kernel)) ggX10_offer_X5_propose
theorem ggX10_offer_X10_trySigned : GoodIn wsX10_offer wsX10_trySigned := gW_in gwX10_trySigned (fun _ h => List.mem_cons_of_mem _ (List.mem_append_right _ (List.mem_append_right _ (List.mem_append_right _ (List.mem_append_right _ (List.mem_append_right _ (List.mem_append_right _ (List.mem_append_right _ (List.mem_append_right _ (List.mem_append_right _ (List.mem_append_right _ (h))))))))))))
set_option maxRecDepth 20000 in
theorem gX10_offer_X10_trySigned : GoodIn wsX10_offer (wsV RX10 176 RX10 yX10_trySigned wsX10_trySigned) := goodIn_app (goodIn_of _ (by decide +kernel)) ggX10_offer_X10_trySigned
theorem bX10_offer_0 : fac cX10_offer [(0, .aload_n 0, 1), (1, .iload_n 1, 1), (2, .iconst 1, 1), (3, .bipush 60, 2), (5, .invokestatic 107, 3), (8, .ifCond .eq 16, 3), (11, .iload_n 2, 1), (12, .iconst 0, 1), (13, .iconst 3, 1), (14, .invokestatic 107, 3), (17, .ifCond .eq 7, 3), (20, .iconst 1, 1), (21, .goto 4, 3), (24, .iconst 0, 1), (25, .invokevirtual 81, 3), (28, .iconst 0, 1)] := fac_all 0 _ (by decide +kernel)
def dX10_offer_0 := bX10_offer_0.1
def dX10_offer_1 := bX10_offer_0.2.1
def dX10_offer_2 := bX10_offer_0.2.2.1
def dX10_offer_3 := bX10_offer_0.2.2.2.1
def dX10_offer_5 := bX10_offer_0.2.2.2.2.1
def dX10_offer_8 := bX10_offer_0.2.2.2.2.2.1
def dX10_offer_11 := bX10_offer_0.2.2.2.2.2.2.1
def dX10_offer_12 := bX10_offer_0.2.2.2.2.2.2.2.1
def dX10_offer_13 := bX10_offer_0.2.2.2.2.2.2.2.2.1
def dX10_offer_14 := bX10_offer_0.2.2.2.2.2.2.2.2.2.1
def dX10_offer_17 := bX10_offer_0.2.2.2.2.2.2.2.2.2.2.1
def dX10_offer_20 := bX10_offer_0.2.2.2.2.2.2.2.2.2.2.2.1
def dX10_offer_21 := bX10_offer_0.2.2.2.2.2.2.2.2.2.2.2.2.1
def dX10_offer_24 := bX10_offer_0.2.2.2.2.2.2.2.2.2.2.2.2.2.1
def dX10_offer_25 := bX10_offer_0.2.2.2.2.2.2.2.2.2.2.2.2.2.2.1
def dX10_offer_28 := bX10_offer_0.2.2.2.2.2.2.2.2.2.2.2.2.2.2.2.1
theorem bX10_offer_29 : fac cX10_offer [(29, .istore_n 3, 1), (30, .iconst 0, 1), (31, .istore 4, 2), (33, .iconst (-1), 1), (34, .istore 5, 2), (36, .iconst 0, 1), (37, .istore 6, 2), (39, .iload 6, 2), (41, .bipush 9, 2), (43, .if_icmp .gt 78, 3), (46, .iconst 0, 1), (47, .istore 7, 2), (49, .iload 7, 2), (51, .bipush 20, 2), (53, .if_icmp .gt 62, 3), (56, .aload_n 0, 1)] := fac_all 29 _ (by decide +kernel)
def dX10_offer_29 := bX10_offer_29.1
def dX10_offer_30 := bX10_offer_29.2.1
def dX10_offer_31 := bX10_offer_29.2.2.1
def dX10_offer_33 := bX10_offer_29.2.2.2.1
def dX10_offer_34 := bX10_offer_29.2.2.2.2.1
def dX10_offer_36 := bX10_offer_29.2.2.2.2.2.1
def dX10_offer_37 := bX10_offer_29.2.2.2.2.2.2.1
def dX10_offer_39 := bX10_offer_29.2.2.2.2.2.2.2.1
def dX10_offer_41 := bX10_offer_29.2.2.2.2.2.2.2.2.1
def dX10_offer_43 := bX10_offer_29.2.2.2.2.2.2.2.2.2.1
def dX10_offer_46 := bX10_offer_29.2.2.2.2.2.2.2.2.2.2.1
def dX10_offer_47 := bX10_offer_29.2.2.2.2.2.2.2.2.2.2.2.1
def dX10_offer_49 := bX10_offer_29.2.2.2.2.2.2.2.2.2.2.2.2.1
def dX10_offer_51 := bX10_offer_29.2.2.2.2.2.2.2.2.2.2.2.2.2.1
def dX10_offer_53 := bX10_offer_29.2.2.2.2.2.2.2.2.2.2.2.2.2.2.1
def dX10_offer_56 := bX10_offer_29.2.2.2.2.2.2.2.2.2.2.2.2.2.2.2.1
theorem bX10_offer_57 : fac cX10_offer [(57, .getfield 32, 3), (60, .bipush 6, 2), (62, .aaload, 1), (63, .aload_n 0, 1), (64, .getfield 23, 3), (67, .iload 6, 2), (69, .iload 7, 2), (71, .invokevirtual 133, 3), (74, .iload 6, 2), (76, .iload 7, 2), (78, .iload_n 1, 1), (79, .invokevirtual 179, 3), (82, .aload_n 0, 1), (83, .bipush 6, 2), (85, .iload_n 1, 1), (86, .invokevirtual 176, 3)] := fac_all 57 _ (by decide +kernel)
def dX10_offer_57 := bX10_offer_57.1
def dX10_offer_60 := bX10_offer_57.2.1
def dX10_offer_62 := bX10_offer_57.2.2.1
def dX10_offer_63 := bX10_offer_57.2.2.2.1
def dX10_offer_64 := bX10_offer_57.2.2.2.2.1
def dX10_offer_67 := bX10_offer_57.2.2.2.2.2.1
def dX10_offer_69 := bX10_offer_57.2.2.2.2.2.2.1
def dX10_offer_71 := bX10_offer_57.2.2.2.2.2.2.2.1
def dX10_offer_74 := bX10_offer_57.2.2.2.2.2.2.2.2.1
def dX10_offer_76 := bX10_offer_57.2.2.2.2.2.2.2.2.2.1
def dX10_offer_78 := bX10_offer_57.2.2.2.2.2.2.2.2.2.2.1
def dX10_offer_79 := bX10_offer_57.2.2.2.2.2.2.2.2.2.2.2.1
def dX10_offer_82 := bX10_offer_57.2.2.2.2.2.2.2.2.2.2.2.2.1
def dX10_offer_83 := bX10_offer_57.2.2.2.2.2.2.2.2.2.2.2.2.2.1
def dX10_offer_85 := bX10_offer_57.2.2.2.2.2.2.2.2.2.2.2.2.2.2.1
def dX10_offer_86 := bX10_offer_57.2.2.2.2.2.2.2.2.2.2.2.2.2.2.2.1
theorem bX10_offer_89 : fac cX10_offer [(89, .istore 8, 2), (91, .iload 8, 2), (93, .iload 5, 2), (95, .if_icmp .le 14, 3), (98, .iload 8, 2), (100, .istore 5, 2), (102, .iload 6, 2), (104, .istore_n 3, 1), (105, .iload 7, 2), (107, .istore 4, 2), (109, .iinc 7 1, 3), (112, .goto (-63), 3), (115, .iinc 6 1, 3), (118, .goto (-79), 3), (121, .iload_n 2, 1), (122, .tableswitch 42 0 2 #[26, 28, 31], 26)] := fac_all 89 _ (by decide +kernel)
def dX10_offer_89 := bX10_offer_89.1
def dX10_offer_91 := bX10_offer_89.2.1
def dX10_offer_93 := bX10_offer_89.2.2.1
def dX10_offer_95 := bX10_offer_89.2.2.2.1
def dX10_offer_98 := bX10_offer_89.2.2.2.2.1
def dX10_offer_100 := bX10_offer_89.2.2.2.2.2.1
def dX10_offer_102 := bX10_offer_89.2.2.2.2.2.2.1
def dX10_offer_104 := bX10_offer_89.2.2.2.2.2.2.2.1
def dX10_offer_105 := bX10_offer_89.2.2.2.2.2.2.2.2.1
def dX10_offer_107 := bX10_offer_89.2.2.2.2.2.2.2.2.2.1
def dX10_offer_109 := bX10_offer_89.2.2.2.2.2.2.2.2.2.2.1
def dX10_offer_112 := bX10_offer_89.2.2.2.2.2.2.2.2.2.2.2.1
def dX10_offer_115 := bX10_offer_89.2.2.2.2.2.2.2.2.2.2.2.2.1
def dX10_offer_118 := bX10_offer_89.2.2.2.2.2.2.2.2.2.2.2.2.2.1
def dX10_offer_121 := bX10_offer_89.2.2.2.2.2.2.2.2.2.2.2.2.2.2.1
def dX10_offer_122 := bX10_offer_89.2.2.2.2.2.2.2.2.2.2.2.2.2.2.2.1
theorem bX10_offer_148 : fac cX10_offer [(148, .iload_n 3, 1), (149, .ireturn, 1), (150, .iload 4, 2), (152, .ireturn, 1), (153, .aload_n 0, 1), (154, .getfield 23, 3), (157, .iload_n 3, 1), (158, .iload 4, 2), (160, .invokevirtual 133, 3), (163, .ireturn, 1), (164, .iload 5, 2), (166, .ireturn, 1)] := fac_all 148 _ (by decide +kernel)
def dX10_offer_148 := bX10_offer_148.1
def dX10_offer_149 := bX10_offer_148.2.1
def dX10_offer_150 := bX10_offer_148.2.2.1
def dX10_offer_152 := bX10_offer_148.2.2.2.1
def dX10_offer_153 := bX10_offer_148.2.2.2.2.1
def dX10_offer_154 := bX10_offer_148.2.2.2.2.2.1
def dX10_offer_157 := bX10_offer_148.2.2.2.2.2.2.1
def dX10_offer_158 := bX10_offer_148.2.2.2.2.2.2.2.1
def dX10_offer_160 := bX10_offer_148.2.2.2.2.2.2.2.2.1
def dX10_offer_163 := bX10_offer_148.2.2.2.2.2.2.2.2.2.1
def dX10_offer_164 := bX10_offer_148.2.2.2.2.2.2.2.2.2.2.1
def dX10_offer_166 := bX10_offer_148.2.2.2.2.2.2.2.2.2.2.2.1
theorem ggX10_nearest_X10_within : GoodIn wsX10_nearest wsX10_within := gW_in gwX10_within (fun _ h => List.mem_cons_of_mem _ (List.mem_append_right _ (List.mem_append_right _ (List.mem_append_right _ (List.mem_append_left _ h)))))
set_option maxRecDepth 20000 in
theorem gX10_nearest_X10_within : GoodIn wsX10_nearest (va_wsS RX10 107 yX10_within wsX10_within) := goodIn_app (goodIn_of _ (by decide +kernel)) ggX10_nearest_X10_within
theorem ggX10_nearest_X10_demand : GoodIn wsX10_nearest wsX10_demand := gW_in gwX10_demand (fun _ h => List.mem_cons_of_mem _ (List.mem_append_right _ (List.mem_append_right _ (List.mem_append_right _ (List.mem_append_right _ (List.mem_append_left _ h))))))
set_option maxRecDepth 20000 in
theorem gX10_nearest_X10_demand : GoodIn wsX10_nearest (wsV RX10 81 RX10 yX10_demand wsX10_demand) := goodIn_app (goodIn_of _ (by decide +kernel)) ggX10_nearest_X10_demand
theorem ggX10_nearest_X6_wanted : GoodIn wsX10_nearest wsX6_wanted := gW_in gwX6_wanted (fun _ h => List.mem_cons_of_mem _ (List.mem_append_right _ (List.mem_append_right _ (List.mem_append_right _ (List.mem_append_right _ (List.mem_append_right _ (h)))))))
set_option maxRecDepth 20000 in
theorem gX10_nearest_X6_wanted : GoodIn wsX10_nearest (wsV RX10 133 RX6 yX6_wanted wsX6_wanted) := goodIn_app (goodIn_of _ (by decide +kernel)) ggX10_nearest_X6_wanted
theorem bX10_nearest_0 : fac cX10_nearest [(0, .aload_n 0, 1), (1, .iload_n 1, 1), (2, .iconst 0, 1), (3, .sipush 9999, 3), (6, .invokestatic 107, 3), (9, .ifCond .eq 17, 3), (12, .iload_n 2, 1), (13, .iconst 0, 1), (14, .bipush 99, 2), (16, .invokestatic 107, 3), (19, .ifCond .eq 7, 3), (22, .iconst 1, 1), (23, .goto 4, 3), (26, .iconst 0, 1), (27, .invokevirtual 81, 3), (30, .iconst 0, 1)] := fac_all 0 _ (by decide +kernel)
def dX10_nearest_0 := bX10_nearest_0.1
def dX10_nearest_1 := bX10_nearest_0.2.1
def dX10_nearest_2 := bX10_nearest_0.2.2.1
def dX10_nearest_3 := bX10_nearest_0.2.2.2.1
def dX10_nearest_6 := bX10_nearest_0.2.2.2.2.1
def dX10_nearest_9 := bX10_nearest_0.2.2.2.2.2.1
def dX10_nearest_12 := bX10_nearest_0.2.2.2.2.2.2.1
def dX10_nearest_13 := bX10_nearest_0.2.2.2.2.2.2.2.1
def dX10_nearest_14 := bX10_nearest_0.2.2.2.2.2.2.2.2.1
def dX10_nearest_16 := bX10_nearest_0.2.2.2.2.2.2.2.2.2.1
def dX10_nearest_19 := bX10_nearest_0.2.2.2.2.2.2.2.2.2.2.1
def dX10_nearest_22 := bX10_nearest_0.2.2.2.2.2.2.2.2.2.2.2.1
def dX10_nearest_23 := bX10_nearest_0.2.2.2.2.2.2.2.2.2.2.2.2.1
def dX10_nearest_26 := bX10_nearest_0.2.2.2.2.2.2.2.2.2.2.2.2.2.1
def dX10_nearest_27 := bX10_nearest_0.2.2.2.2.2.2.2.2.2.2.2.2.2.2.1
def dX10_nearest_30 := bX10_nearest_0.2.2.2.2.2.2.2.2.2.2.2.2.2.2.2.1
theorem bX10_nearest_31 : fac cX10_nearest [(31, .istore_n 3, 1), (32, .iload_n 3, 1), (33, .bipush 9, 2), (35, .if_icmp .gt 24, 3), (38, .aload_n 0, 1), (39, .getfield 23, 3), (42, .iload_n 3, 1), (43, .iload_n 2, 1), (44, .invokevirtual 133, 3), (47, .iload_n 1, 1), (48, .if_icmp .gt 5, 3), (51, .iload_n 3, 1), (52, .ireturn, 1), (53, .iinc 3 1, 3), (56, .goto (-24), 3), (59, .iconst (-1), 1)] := fac_all 31 _ (by decide +kernel)
def dX10_nearest_31 := bX10_nearest_31.1
def dX10_nearest_32 := bX10_nearest_31.2.1
def dX10_nearest_33 := bX10_nearest_31.2.2.1
def dX10_nearest_35 := bX10_nearest_31.2.2.2.1
def dX10_nearest_38 := bX10_nearest_31.2.2.2.2.1
def dX10_nearest_39 := bX10_nearest_31.2.2.2.2.2.1
def dX10_nearest_42 := bX10_nearest_31.2.2.2.2.2.2.1
def dX10_nearest_43 := bX10_nearest_31.2.2.2.2.2.2.2.1
def dX10_nearest_44 := bX10_nearest_31.2.2.2.2.2.2.2.2.1
def dX10_nearest_47 := bX10_nearest_31.2.2.2.2.2.2.2.2.2.1
def dX10_nearest_48 := bX10_nearest_31.2.2.2.2.2.2.2.2.2.2.1
def dX10_nearest_51 := bX10_nearest_31.2.2.2.2.2.2.2.2.2.2.2.1
def dX10_nearest_52 := bX10_nearest_31.2.2.2.2.2.2.2.2.2.2.2.2.1
def dX10_nearest_53 := bX10_nearest_31.2.2.2.2.2.2.2.2.2.2.2.2.2.1
def dX10_nearest_56 := bX10_nearest_31.2.2.2.2.2.2.2.2.2.2.2.2.2.2.1
def dX10_nearest_59 := bX10_nearest_31.2.2.2.2.2.2.2.2.2.2.2.2.2.2.2.1
theorem dX10_nearest_60 : decode cX10_nearest 60 = .ok (.ireturn, 1) := by decide +kernel
theorem ggX10_stop_X10_within : GoodIn wsX10_stop wsX10_within := gW_in gwX10_within (fun _ h => List.mem_cons_of_mem _ (List.mem_append_right _ (List.mem_append_right _ (List.mem_append_right _ (List.mem_append_right _ (List.mem_append_right _ (List.mem_append_right _ (List.mem_append_left _ h))))))))
set_option maxRecDepth 20000 in
theorem gX10_stop_X10_within : GoodIn wsX10_stop (va_wsS RX10 107 yX10_within wsX10_within) := goodIn_app (goodIn_of _ (by decide +kernel)) ggX10_stop_X10_within
theorem ggX10_stop_X10_demand : GoodIn wsX10_stop wsX10_demand := gW_in gwX10_demand (fun _ h => List.mem_cons_of_mem _ (List.mem_append_right _ (List.mem_append_right _ (List.mem_append_right _ (List.mem_append_right _ (List.mem_append_right _ (List.mem_append_right _ (List.mem_append_right _ (List.mem_append_left _ h)))))))))
set_option maxRecDepth 20000 in
theorem gX10_stop_X10_demand : GoodIn wsX10_stop (wsV RX10 81 RX10 yX10_demand wsX10_demand) := goodIn_app (goodIn_of _ (by decide +kernel)) ggX10_stop_X10_demand
theorem ggX10_stop_X4_take : GoodIn wsX10_stop wsX4_take := gW_in gwX4_take (fun _ h => List.mem_cons_of_mem _ (List.mem_append_right _ (List.mem_append_right _ (List.mem_append_right _ (List.mem_append_right _ (List.mem_append_right _ (List.mem_append_right _ (List.mem_append_right _ (List.mem_append_right _ (List.mem_append_left _ h))))))))))
set_option maxRecDepth 20000 in
theorem gX10_stop_X4_take : GoodIn wsX10_stop (wsV RX10 183 RX4 yX4_take wsX4_take) := goodIn_app (goodIn_of _ (by decide +kernel)) ggX10_stop_X4_take
theorem ggX10_stop_X10_passTried : GoodIn wsX10_stop wsX10_passTried := gW_in gwX10_passTried (fun _ h => List.mem_cons_of_mem _ (List.mem_append_right _ (List.mem_append_right _ (List.mem_append_right _ (List.mem_append_right _ (List.mem_append_right _ (List.mem_append_right _ (List.mem_append_right _ (List.mem_append_right _ (List.mem_append_right _ (List.mem_append_left _ h)))))))))))
set_option maxRecDepth 20000 in
theorem gX10_stop_X10_passTried : GoodIn wsX10_stop (wsV RX10 186 RX10 yX10_passTried wsX10_passTried) := goodIn_app (goodIn_of _ (by decide +kernel)) ggX10_stop_X10_passTried
theorem ggX10_stop_X4_pledge : GoodIn wsX10_stop wsX4_pledge := gW_in gwX4_pledge (fun _ h => List.mem_cons_of_mem _ (List.mem_append_right _ (List.mem_append_right _ (List.mem_append_right _ (List.mem_append_right _ (List.mem_append_right _ (List.mem_append_right _ (List.mem_append_right _ (List.mem_append_right _ (List.mem_append_right _ (List.mem_append_right _ (h))))))))))))
set_option maxRecDepth 20000 in
theorem gX10_stop_X4_pledge : GoodIn wsX10_stop (wsV RX10 140 RX4 yX4_pledge wsX4_pledge) := goodIn_app (goodIn_of _ (by decide +kernel)) ggX10_stop_X4_pledge
theorem bX10_stop_0 : fac cX10_stop [(0, .aload_n 0, 1), (1, .iload_n 1, 1), (2, .iconst 1, 1), (3, .bipush 60, 2), (5, .invokestatic 107, 3), (8, .ifCond .eq 16, 3), (11, .iload_n 2, 1), (12, .iconst 0, 1), (13, .iconst 1, 1), (14, .invokestatic 107, 3), (17, .ifCond .eq 7, 3), (20, .iconst 1, 1), (21, .goto 4, 3), (24, .iconst 0, 1), (25, .invokevirtual 81, 3), (28, .iconst 0, 1)] := fac_all 0 _ (by decide +kernel)
def dX10_stop_0 := bX10_stop_0.1
def dX10_stop_1 := bX10_stop_0.2.1
def dX10_stop_2 := bX10_stop_0.2.2.1
def dX10_stop_3 := bX10_stop_0.2.2.2.1
def dX10_stop_5 := bX10_stop_0.2.2.2.2.1
def dX10_stop_8 := bX10_stop_0.2.2.2.2.2.1
def dX10_stop_11 := bX10_stop_0.2.2.2.2.2.2.1
def dX10_stop_12 := bX10_stop_0.2.2.2.2.2.2.2.1
def dX10_stop_13 := bX10_stop_0.2.2.2.2.2.2.2.2.1
def dX10_stop_14 := bX10_stop_0.2.2.2.2.2.2.2.2.2.1
def dX10_stop_17 := bX10_stop_0.2.2.2.2.2.2.2.2.2.2.1
def dX10_stop_20 := bX10_stop_0.2.2.2.2.2.2.2.2.2.2.2.1
def dX10_stop_21 := bX10_stop_0.2.2.2.2.2.2.2.2.2.2.2.2.1
def dX10_stop_24 := bX10_stop_0.2.2.2.2.2.2.2.2.2.2.2.2.2.1
def dX10_stop_25 := bX10_stop_0.2.2.2.2.2.2.2.2.2.2.2.2.2.2.1
def dX10_stop_28 := bX10_stop_0.2.2.2.2.2.2.2.2.2.2.2.2.2.2.2.1
theorem bX10_stop_29 : fac cX10_stop [(29, .istore_n 3, 1), (30, .iconst (-1), 1), (31, .istore 4, 2), (33, .iconst 0, 1), (34, .istore 5, 2), (36, .iload 5, 2), (38, .iload_n 1, 1), (39, .if_icmp .gt 73, 3), (42, .aload_n 0, 1), (43, .getfield 50, 3), (46, .aload_n 0, 1), (47, .getfield 39, 3), (50, .getfield 66, 3), (53, .invokevirtual 183, 3), (56, .aload_n 0, 1), (57, .iload 5, 2)] := fac_all 29 _ (by decide +kernel)
def dX10_stop_29 := bX10_stop_29.1
def dX10_stop_30 := bX10_stop_29.2.1
def dX10_stop_31 := bX10_stop_29.2.2.1
def dX10_stop_33 := bX10_stop_29.2.2.2.1
def dX10_stop_34 := bX10_stop_29.2.2.2.2.1
def dX10_stop_36 := bX10_stop_29.2.2.2.2.2.1
def dX10_stop_38 := bX10_stop_29.2.2.2.2.2.2.1
def dX10_stop_39 := bX10_stop_29.2.2.2.2.2.2.2.1
def dX10_stop_42 := bX10_stop_29.2.2.2.2.2.2.2.2.1
def dX10_stop_43 := bX10_stop_29.2.2.2.2.2.2.2.2.2.1
def dX10_stop_46 := bX10_stop_29.2.2.2.2.2.2.2.2.2.2.1
def dX10_stop_47 := bX10_stop_29.2.2.2.2.2.2.2.2.2.2.2.1
def dX10_stop_50 := bX10_stop_29.2.2.2.2.2.2.2.2.2.2.2.2.1
def dX10_stop_53 := bX10_stop_29.2.2.2.2.2.2.2.2.2.2.2.2.2.1
def dX10_stop_56 := bX10_stop_29.2.2.2.2.2.2.2.2.2.2.2.2.2.2.1
def dX10_stop_57 := bX10_stop_29.2.2.2.2.2.2.2.2.2.2.2.2.2.2.2.1
theorem bX10_stop_59 : fac cX10_stop [(59, .invokevirtual 186, 3), (62, .aload_n 0, 1), (63, .getfield 50, 3), (66, .iconst (-1), 1), (67, .invokevirtual 140, 3), (70, .aload_n 0, 1), (71, .iload_n 1, 1), (72, .iload 5, 2), (74, .isub, 1), (75, .invokevirtual 186, 3), (78, .aload_n 0, 1), (79, .getfield 50, 3), (82, .getfield 111, 3), (85, .iconst 0, 1), (86, .iaload, 1), (87, .iload 4, 2)] := fac_all 59 _ (by decide +kernel)
def dX10_stop_59 := bX10_stop_59.1
def dX10_stop_62 := bX10_stop_59.2.1
def dX10_stop_63 := bX10_stop_59.2.2.1
def dX10_stop_66 := bX10_stop_59.2.2.2.1
def dX10_stop_67 := bX10_stop_59.2.2.2.2.1
def dX10_stop_70 := bX10_stop_59.2.2.2.2.2.1
def dX10_stop_71 := bX10_stop_59.2.2.2.2.2.2.1
def dX10_stop_72 := bX10_stop_59.2.2.2.2.2.2.2.1
def dX10_stop_74 := bX10_stop_59.2.2.2.2.2.2.2.2.1
def dX10_stop_75 := bX10_stop_59.2.2.2.2.2.2.2.2.2.1
def dX10_stop_78 := bX10_stop_59.2.2.2.2.2.2.2.2.2.2.1
def dX10_stop_79 := bX10_stop_59.2.2.2.2.2.2.2.2.2.2.2.1
def dX10_stop_82 := bX10_stop_59.2.2.2.2.2.2.2.2.2.2.2.2.1
def dX10_stop_85 := bX10_stop_59.2.2.2.2.2.2.2.2.2.2.2.2.2.1
def dX10_stop_86 := bX10_stop_59.2.2.2.2.2.2.2.2.2.2.2.2.2.2.1
def dX10_stop_87 := bX10_stop_59.2.2.2.2.2.2.2.2.2.2.2.2.2.2.2.1
theorem bX10_stop_89 : fac cX10_stop [(89, .if_icmp .le 17, 3), (92, .aload_n 0, 1), (93, .getfield 50, 3), (96, .getfield 111, 3), (99, .iconst 0, 1), (100, .iaload, 1), (101, .istore 4, 2), (103, .iload 5, 2), (105, .istore_n 3, 1), (106, .iinc 5 1, 3), (109, .goto (-73), 3), (112, .iload_n 2, 1), (113, .ifCond .ne 7, 3), (116, .iload_n 3, 1), (117, .goto 5, 3), (120, .iload 4, 2)] := fac_all 89 _ (by decide +kernel)
def dX10_stop_89 := bX10_stop_89.1
def dX10_stop_92 := bX10_stop_89.2.1
def dX10_stop_93 := bX10_stop_89.2.2.1
def dX10_stop_96 := bX10_stop_89.2.2.2.1
def dX10_stop_99 := bX10_stop_89.2.2.2.2.1
def dX10_stop_100 := bX10_stop_89.2.2.2.2.2.1
def dX10_stop_101 := bX10_stop_89.2.2.2.2.2.2.1
def dX10_stop_103 := bX10_stop_89.2.2.2.2.2.2.2.1
def dX10_stop_105 := bX10_stop_89.2.2.2.2.2.2.2.2.1
def dX10_stop_106 := bX10_stop_89.2.2.2.2.2.2.2.2.2.1
def dX10_stop_109 := bX10_stop_89.2.2.2.2.2.2.2.2.2.2.1
def dX10_stop_112 := bX10_stop_89.2.2.2.2.2.2.2.2.2.2.2.1
def dX10_stop_113 := bX10_stop_89.2.2.2.2.2.2.2.2.2.2.2.2.1
def dX10_stop_116 := bX10_stop_89.2.2.2.2.2.2.2.2.2.2.2.2.2.1
def dX10_stop_117 := bX10_stop_89.2.2.2.2.2.2.2.2.2.2.2.2.2.2.1
def dX10_stop_120 := bX10_stop_89.2.2.2.2.2.2.2.2.2.2.2.2.2.2.2.1
theorem dX10_stop_122 : decode cX10_stop 122 = .ok (.ireturn, 1) := by decide +kernel
theorem ggX10_odds_X10_within : GoodIn wsX10_odds wsX10_within := gW_in gwX10_within (fun _ h => List.mem_cons_of_mem _ (List.mem_append_right _ (List.mem_append_right _ (List.mem_append_right _ (List.mem_append_right _ (List.mem_append_left _ h))))))
set_option maxRecDepth 20000 in
theorem gX10_odds_X10_within : GoodIn wsX10_odds (va_wsS RX10 107 yX10_within wsX10_within) := goodIn_app (goodIn_of _ (by decide +kernel)) ggX10_odds_X10_within
theorem ggX10_odds_X10_demand : GoodIn wsX10_odds wsX10_demand := gW_in gwX10_demand (fun _ h => List.mem_cons_of_mem _ (List.mem_append_right _ (List.mem_append_right _ (List.mem_append_right _ (List.mem_append_right _ (List.mem_append_right _ (List.mem_append_left _ h)))))))
set_option maxRecDepth 20000 in
theorem gX10_odds_X10_demand : GoodIn wsX10_odds (wsV RX10 81 RX10 yX10_demand wsX10_demand) := goodIn_app (goodIn_of _ (by decide +kernel)) ggX10_odds_X10_demand
theorem ggX10_odds_X2_start : GoodIn wsX10_odds wsX2_start := gW_in gwX2_start (fun _ h => List.mem_cons_of_mem _ (List.mem_append_right _ (List.mem_append_right _ (List.mem_append_right _ (List.mem_append_right _ (List.mem_append_right _ (List.mem_append_right _ (h))))))))
set_option maxRecDepth 20000 in
theorem gX10_odds_X2_start : GoodIn wsX10_odds (wsV RX10 193 RX2 yX2_start wsX2_start) := goodIn_app (goodIn_of _ (by decide +kernel)) ggX10_odds_X2_start
theorem bX10_odds_0 : fac cX10_odds [(0, .aload_n 0, 1), (1, .iload_n 1, 1), (2, .iconst 1, 1), (3, .bipush 99, 2), (5, .invokestatic 107, 3), (8, .ifCond .eq 17, 3), (11, .iload_n 2, 1), (12, .iconst 1, 1), (13, .bipush 99, 2), (15, .invokestatic 107, 3), (18, .ifCond .eq 7, 3), (21, .iconst 1, 1), (22, .goto 4, 3), (25, .iconst 0, 1), (26, .invokevirtual 81, 3), (29, .aload_n 0, 1)] := fac_all 0 _ (by decide +kernel)
def dX10_odds_0 := bX10_odds_0.1
def dX10_odds_1 := bX10_odds_0.2.1
def dX10_odds_2 := bX10_odds_0.2.2.1
def dX10_odds_3 := bX10_odds_0.2.2.2.1
def dX10_odds_5 := bX10_odds_0.2.2.2.2.1
def dX10_odds_8 := bX10_odds_0.2.2.2.2.2.1
def dX10_odds_11 := bX10_odds_0.2.2.2.2.2.2.1
def dX10_odds_12 := bX10_odds_0.2.2.2.2.2.2.2.1
def dX10_odds_13 := bX10_odds_0.2.2.2.2.2.2.2.2.1
def dX10_odds_15 := bX10_odds_0.2.2.2.2.2.2.2.2.2.1
def dX10_odds_18 := bX10_odds_0.2.2.2.2.2.2.2.2.2.2.1
def dX10_odds_21 := bX10_odds_0.2.2.2.2.2.2.2.2.2.2.2.1
def dX10_odds_22 := bX10_odds_0.2.2.2.2.2.2.2.2.2.2.2.2.1
def dX10_odds_25 := bX10_odds_0.2.2.2.2.2.2.2.2.2.2.2.2.2.1
def dX10_odds_26 := bX10_odds_0.2.2.2.2.2.2.2.2.2.2.2.2.2.2.1
def dX10_odds_29 := bX10_odds_0.2.2.2.2.2.2.2.2.2.2.2.2.2.2.2.1
theorem bX10_odds_30 : fac cX10_odds [(30, .getfield 39, 3), (33, .getfield 189, 3), (36, .iload_n 1, 1), (37, .iload_n 2, 1), (38, .invokevirtual 193, 3), (41, .return_, 1)] := fac_all 30 _ (by decide +kernel)
def dX10_odds_30 := bX10_odds_30.1
def dX10_odds_33 := bX10_odds_30.2.1
def dX10_odds_36 := bX10_odds_30.2.2.1
def dX10_odds_37 := bX10_odds_30.2.2.2.1
def dX10_odds_38 := bX10_odds_30.2.2.2.2.1
def dX10_odds_41 := bX10_odds_30.2.2.2.2.2.1
theorem ggX10_kind_X10_within : GoodIn wsX10_kind wsX10_within := gW_in gwX10_within (fun _ h => List.mem_cons_of_mem _ (List.mem_append_right _ (List.mem_append_right _ (List.mem_append_right _ (List.mem_append_right _ (List.mem_append_left _ h))))))
set_option maxRecDepth 20000 in
theorem gX10_kind_X10_within : GoodIn wsX10_kind (va_wsS RX10 107 yX10_within wsX10_within) := goodIn_app (goodIn_of _ (by decide +kernel)) ggX10_kind_X10_within
theorem ggX10_kind_X10_demand : GoodIn wsX10_kind wsX10_demand := gW_in gwX10_demand (fun _ h => List.mem_cons_of_mem _ (List.mem_append_right _ (List.mem_append_right _ (List.mem_append_right _ (List.mem_append_right _ (List.mem_append_right _ (h)))))))
set_option maxRecDepth 20000 in
theorem gX10_kind_X10_demand : GoodIn wsX10_kind (wsV RX10 81 RX10 yX10_demand wsX10_demand) := goodIn_app (goodIn_of _ (by decide +kernel)) ggX10_kind_X10_demand
theorem bX10_kind_0 : fac cX10_kind [(0, .aload_n 0, 1), (1, .iload_n 1, 1), (2, .iconst 0, 1), (3, .iconst 3, 1), (4, .invokestatic 107, 3), (7, .ifCond .eq 27, 3), (10, .iload_n 2, 1), (11, .iconst 1, 1), (12, .bipush 16, 2), (14, .invokestatic 107, 3), (17, .ifCond .eq 17, 3), (20, .iload_n 3, 1), (21, .iconst 1, 1), (22, .bipush 16, 2), (24, .invokestatic 107, 3), (27, .ifCond .eq 7, 3)] := fac_all 0 _ (by decide +kernel)
def dX10_kind_0 := bX10_kind_0.1
def dX10_kind_1 := bX10_kind_0.2.1
def dX10_kind_2 := bX10_kind_0.2.2.1
def dX10_kind_3 := bX10_kind_0.2.2.2.1
def dX10_kind_4 := bX10_kind_0.2.2.2.2.1
def dX10_kind_7 := bX10_kind_0.2.2.2.2.2.1
def dX10_kind_10 := bX10_kind_0.2.2.2.2.2.2.1
def dX10_kind_11 := bX10_kind_0.2.2.2.2.2.2.2.1
def dX10_kind_12 := bX10_kind_0.2.2.2.2.2.2.2.2.1
def dX10_kind_14 := bX10_kind_0.2.2.2.2.2.2.2.2.2.1
def dX10_kind_17 := bX10_kind_0.2.2.2.2.2.2.2.2.2.2.1
def dX10_kind_20 := bX10_kind_0.2.2.2.2.2.2.2.2.2.2.2.1
def dX10_kind_21 := bX10_kind_0.2.2.2.2.2.2.2.2.2.2.2.2.1
def dX10_kind_22 := bX10_kind_0.2.2.2.2.2.2.2.2.2.2.2.2.2.1
def dX10_kind_24 := bX10_kind_0.2.2.2.2.2.2.2.2.2.2.2.2.2.2.1
def dX10_kind_27 := bX10_kind_0.2.2.2.2.2.2.2.2.2.2.2.2.2.2.2.1
theorem bX10_kind_30 : fac cX10_kind [(30, .iconst 1, 1), (31, .goto 4, 3), (34, .iconst 0, 1), (35, .invokevirtual 81, 3), (38, .aload_n 0, 1), (39, .getfield 39, 3), (42, .getfield 189, 3), (45, .getfield 199, 3), (48, .iload_n 1, 1), (49, .iload_n 2, 1), (50, .iastore, 1), (51, .aload_n 0, 1), (52, .getfield 39, 3), (55, .getfield 189, 3), (58, .getfield 202, 3), (61, .iload_n 1, 1)] := fac_all 30 _ (by decide +kernel)
def dX10_kind_30 := bX10_kind_30.1
def dX10_kind_31 := bX10_kind_30.2.1
def dX10_kind_34 := bX10_kind_30.2.2.1
def dX10_kind_35 := bX10_kind_30.2.2.2.1
def dX10_kind_38 := bX10_kind_30.2.2.2.2.1
def dX10_kind_39 := bX10_kind_30.2.2.2.2.2.1
def dX10_kind_42 := bX10_kind_30.2.2.2.2.2.2.1
def dX10_kind_45 := bX10_kind_30.2.2.2.2.2.2.2.1
def dX10_kind_48 := bX10_kind_30.2.2.2.2.2.2.2.2.1
def dX10_kind_49 := bX10_kind_30.2.2.2.2.2.2.2.2.2.1
def dX10_kind_50 := bX10_kind_30.2.2.2.2.2.2.2.2.2.2.1
def dX10_kind_51 := bX10_kind_30.2.2.2.2.2.2.2.2.2.2.2.1
def dX10_kind_52 := bX10_kind_30.2.2.2.2.2.2.2.2.2.2.2.2.1
def dX10_kind_55 := bX10_kind_30.2.2.2.2.2.2.2.2.2.2.2.2.2.1
def dX10_kind_58 := bX10_kind_30.2.2.2.2.2.2.2.2.2.2.2.2.2.2.1
def dX10_kind_61 := bX10_kind_30.2.2.2.2.2.2.2.2.2.2.2.2.2.2.2.1
theorem bX10_kind_62 : fac cX10_kind [(62, .iload_n 3, 1), (63, .iastore, 1), (64, .return_, 1)] := fac_all 62 _ (by decide +kernel)
def dX10_kind_62 := bX10_kind_62.1
def dX10_kind_63 := bX10_kind_62.2.1
def dX10_kind_64 := bX10_kind_62.2.2.1
theorem ggX10_seen_X10_within : GoodIn wsX10_seen wsX10_within := gW_in gwX10_within (fun _ h => List.mem_cons_of_mem _ (List.mem_append_right _ (List.mem_append_right _ (List.mem_append_right _ (List.mem_append_right _ (List.mem_append_left _ h))))))
set_option maxRecDepth 20000 in
theorem gX10_seen_X10_within : GoodIn wsX10_seen (va_wsS RX10 107 yX10_within wsX10_within) := goodIn_app (goodIn_of _ (by decide +kernel)) ggX10_seen_X10_within
theorem ggX10_seen_X10_demand : GoodIn wsX10_seen wsX10_demand := gW_in gwX10_demand (fun _ h => List.mem_cons_of_mem _ (List.mem_append_right _ (List.mem_append_right _ (List.mem_append_right _ (List.mem_append_right _ (List.mem_append_right _ (List.mem_append_left _ h)))))))
set_option maxRecDepth 20000 in
theorem gX10_seen_X10_demand : GoodIn wsX10_seen (wsV RX10 81 RX10 yX10_demand wsX10_demand) := goodIn_app (goodIn_of _ (by decide +kernel)) ggX10_seen_X10_demand
theorem ggX10_seen_X2_add : GoodIn wsX10_seen wsX2_add := gW_in gwX2_add (fun _ h => List.mem_cons_of_mem _ (List.mem_append_right _ (List.mem_append_right _ (List.mem_append_right _ (List.mem_append_right _ (List.mem_append_right _ (List.mem_append_right _ (h))))))))
set_option maxRecDepth 20000 in
theorem gX10_seen_X2_add : GoodIn wsX10_seen (wsV RX10 205 RX2 yX2_add wsX2_add) := goodIn_app (goodIn_of _ (by decide +kernel)) ggX10_seen_X2_add
theorem bX10_seen_0 : fac cX10_seen [(0, .aload_n 0, 1), (1, .iload_n 1, 1), (2, .iconst 0, 1), (3, .iconst 3, 1), (4, .invokestatic 107, 3), (7, .invokevirtual 81, 3), (10, .aload_n 0, 1), (11, .getfield 39, 3), (14, .getfield 189, 3), (17, .astore_n 2, 1), (18, .aload_n 2, 1), (19, .aload_n 2, 1), (20, .getfield 199, 3), (23, .iload_n 1, 1), (24, .iaload, 1), (25, .aload_n 2, 1)] := fac_all 0 _ (by decide +kernel)
def dX10_seen_0 := bX10_seen_0.1
def dX10_seen_1 := bX10_seen_0.2.1
def dX10_seen_2 := bX10_seen_0.2.2.1
def dX10_seen_3 := bX10_seen_0.2.2.2.1
def dX10_seen_4 := bX10_seen_0.2.2.2.2.1
def dX10_seen_7 := bX10_seen_0.2.2.2.2.2.1
def dX10_seen_10 := bX10_seen_0.2.2.2.2.2.2.1
def dX10_seen_11 := bX10_seen_0.2.2.2.2.2.2.2.1
def dX10_seen_14 := bX10_seen_0.2.2.2.2.2.2.2.2.1
def dX10_seen_17 := bX10_seen_0.2.2.2.2.2.2.2.2.2.1
def dX10_seen_18 := bX10_seen_0.2.2.2.2.2.2.2.2.2.2.1
def dX10_seen_19 := bX10_seen_0.2.2.2.2.2.2.2.2.2.2.2.1
def dX10_seen_20 := bX10_seen_0.2.2.2.2.2.2.2.2.2.2.2.2.1
def dX10_seen_23 := bX10_seen_0.2.2.2.2.2.2.2.2.2.2.2.2.2.1
def dX10_seen_24 := bX10_seen_0.2.2.2.2.2.2.2.2.2.2.2.2.2.2.1
def dX10_seen_25 := bX10_seen_0.2.2.2.2.2.2.2.2.2.2.2.2.2.2.2.1
theorem bX10_seen_26 : fac cX10_seen [(26, .getfield 202, 3), (29, .iload_n 1, 1), (30, .iaload, 1), (31, .invokevirtual 205, 3), (34, .ireturn, 1)] := fac_all 26 _ (by decide +kernel)
def dX10_seen_26 := bX10_seen_26.1
def dX10_seen_29 := bX10_seen_26.2.1
def dX10_seen_30 := bX10_seen_26.2.2.1
def dX10_seen_31 := bX10_seen_26.2.2.2.1
def dX10_seen_34 := bX10_seen_26.2.2.2.2.1
theorem ggX10_spy_X10_within : GoodIn wsX10_spy wsX10_within := gW_in gwX10_within (fun _ h => List.mem_cons_of_mem _ (List.mem_append_right _ (List.mem_append_right _ (List.mem_append_right _ (List.mem_append_right _ (List.mem_append_left _ h))))))
set_option maxRecDepth 20000 in
theorem gX10_spy_X10_within : GoodIn wsX10_spy (va_wsS RX10 107 yX10_within wsX10_within) := goodIn_app (goodIn_of _ (by decide +kernel)) ggX10_spy_X10_within
theorem ggX10_spy_X10_demand : GoodIn wsX10_spy wsX10_demand := gW_in gwX10_demand (fun _ h => List.mem_cons_of_mem _ (List.mem_append_right _ (List.mem_append_right _ (List.mem_append_right _ (List.mem_append_right _ (List.mem_append_right _ (List.mem_append_left _ h)))))))
set_option maxRecDepth 20000 in
theorem gX10_spy_X10_demand : GoodIn wsX10_spy (wsV RX10 81 RX10 yX10_demand wsX10_demand) := goodIn_app (goodIn_of _ (by decide +kernel)) ggX10_spy_X10_demand
theorem ggX10_spy_X2_add : GoodIn wsX10_spy wsX2_add := gW_in gwX2_add (fun _ h => List.mem_cons_of_mem _ (List.mem_append_right _ (List.mem_append_right _ (List.mem_append_right _ (List.mem_append_right _ (List.mem_append_right _ (List.mem_append_right _ (h))))))))
set_option maxRecDepth 20000 in
theorem gX10_spy_X2_add : GoodIn wsX10_spy (wsV RX10 205 RX2 yX2_add wsX2_add) := goodIn_app (goodIn_of _ (by decide +kernel)) ggX10_spy_X2_add
theorem bX10_spy_0 : fac cX10_spy [(0, .aload_n 0, 1), (1, .iload_n 2, 1), (2, .iconst 1, 1), (3, .bipush 15, 2), (5, .invokestatic 107, 3), (8, .invokevirtual 81, 3), (11, .bipush 16, 2), (13, .iload_n 2, 1), (14, .isub, 1), (15, .istore_n 3, 1), (16, .iload_n 1, 1), (17, .ifCond .eq 18, 3), (20, .aload_n 0, 1), (21, .getfield 39, 3), (24, .getfield 189, 3), (27, .iload_n 2, 1)] := fac_all 0 _ (by decide +kernel)
def dX10_spy_0 := bX10_spy_0.1
def dX10_spy_1 := bX10_spy_0.2.1
def dX10_spy_2 := bX10_spy_0.2.2.1
def dX10_spy_3 := bX10_spy_0.2.2.2.1
def dX10_spy_5 := bX10_spy_0.2.2.2.2.1
def dX10_spy_8 := bX10_spy_0.2.2.2.2.2.1
def dX10_spy_11 := bX10_spy_0.2.2.2.2.2.2.1
def dX10_spy_13 := bX10_spy_0.2.2.2.2.2.2.2.1
def dX10_spy_14 := bX10_spy_0.2.2.2.2.2.2.2.2.1
def dX10_spy_15 := bX10_spy_0.2.2.2.2.2.2.2.2.2.1
def dX10_spy_16 := bX10_spy_0.2.2.2.2.2.2.2.2.2.2.1
def dX10_spy_17 := bX10_spy_0.2.2.2.2.2.2.2.2.2.2.2.1
def dX10_spy_20 := bX10_spy_0.2.2.2.2.2.2.2.2.2.2.2.2.1
def dX10_spy_21 := bX10_spy_0.2.2.2.2.2.2.2.2.2.2.2.2.2.1
def dX10_spy_24 := bX10_spy_0.2.2.2.2.2.2.2.2.2.2.2.2.2.2.1
def dX10_spy_27 := bX10_spy_0.2.2.2.2.2.2.2.2.2.2.2.2.2.2.2.1
theorem bX10_spy_28 : fac cX10_spy [(28, .iload_n 3, 1), (29, .invokevirtual 205, 3), (32, .goto 15, 3), (35, .aload_n 0, 1), (36, .getfield 39, 3), (39, .getfield 189, 3), (42, .iload_n 3, 1), (43, .iload_n 2, 1), (44, .invokevirtual 205, 3), (47, .ireturn, 1)] := fac_all 28 _ (by decide +kernel)
def dX10_spy_28 := bX10_spy_28.1
def dX10_spy_29 := bX10_spy_28.2.1
def dX10_spy_32 := bX10_spy_28.2.2.1
def dX10_spy_35 := bX10_spy_28.2.2.2.1
def dX10_spy_36 := bX10_spy_28.2.2.2.2.1
def dX10_spy_39 := bX10_spy_28.2.2.2.2.2.1
def dX10_spy_42 := bX10_spy_28.2.2.2.2.2.2.1
def dX10_spy_43 := bX10_spy_28.2.2.2.2.2.2.2.1
def dX10_spy_44 := bX10_spy_28.2.2.2.2.2.2.2.2.1
def dX10_spy_47 := bX10_spy_28.2.2.2.2.2.2.2.2.2.1
theorem ggX10_believed_X10_within : GoodIn wsX10_believed wsX10_within := gW_in gwX10_within (fun _ h => List.mem_cons_of_mem _ (List.mem_append_right _ (List.mem_append_right _ (List.mem_append_right _ (List.mem_append_right _ (List.mem_append_left _ h))))))
set_option maxRecDepth 20000 in
theorem gX10_believed_X10_within : GoodIn wsX10_believed (va_wsS RX10 107 yX10_within wsX10_within) := goodIn_app (goodIn_of _ (by decide +kernel)) ggX10_believed_X10_within
theorem ggX10_believed_X10_demand : GoodIn wsX10_believed wsX10_demand := gW_in gwX10_demand (fun _ h => List.mem_cons_of_mem _ (List.mem_append_right _ (List.mem_append_right _ (List.mem_append_right _ (List.mem_append_right _ (List.mem_append_right _ (List.mem_append_left _ h)))))))
set_option maxRecDepth 20000 in
theorem gX10_believed_X10_demand : GoodIn wsX10_believed (wsV RX10 81 RX10 yX10_demand wsX10_demand) := goodIn_app (goodIn_of _ (by decide +kernel)) ggX10_believed_X10_demand
theorem ggX10_believed_X2_leastTerm : GoodIn wsX10_believed wsX2_leastTerm := gW_in gwX2_leastTerm (fun _ h => List.mem_cons_of_mem _ (List.mem_append_right _ (List.mem_append_right _ (List.mem_append_right _ (List.mem_append_right _ (List.mem_append_right _ (List.mem_append_right _ (h))))))))
set_option maxRecDepth 20000 in
theorem gX10_believed_X2_leastTerm : GoodIn wsX10_believed (wsV RX10 208 RX2 yX2_leastTerm wsX2_leastTerm) := goodIn_app (goodIn_of _ (by decide +kernel)) ggX10_believed_X2_leastTerm
theorem bX10_believed_0 : fac cX10_believed [(0, .aload_n 0, 1), (1, .iload_n 1, 1), (2, .iconst 0, 1), (3, .iconst 1, 1), (4, .invokestatic 107, 3), (7, .invokevirtual 81, 3), (10, .aload_n 0, 1), (11, .getfield 39, 3), (14, .getfield 189, 3), (17, .iload_n 1, 1), (18, .ifCond .ne 7, 3), (21, .iconst 1, 1), (22, .goto 4, 3), (25, .iconst 0, 1), (26, .invokevirtual 208, 3), (29, .lreturn, 1)] := fac_all 0 _ (by decide +kernel)
def dX10_believed_0 := bX10_believed_0.1
def dX10_believed_1 := bX10_believed_0.2.1
def dX10_believed_2 := bX10_believed_0.2.2.1
def dX10_believed_3 := bX10_believed_0.2.2.2.1
def dX10_believed_4 := bX10_believed_0.2.2.2.2.1
def dX10_believed_7 := bX10_believed_0.2.2.2.2.2.1
def dX10_believed_10 := bX10_believed_0.2.2.2.2.2.2.1
def dX10_believed_11 := bX10_believed_0.2.2.2.2.2.2.2.1
def dX10_believed_14 := bX10_believed_0.2.2.2.2.2.2.2.2.1
def dX10_believed_17 := bX10_believed_0.2.2.2.2.2.2.2.2.2.1
def dX10_believed_18 := bX10_believed_0.2.2.2.2.2.2.2.2.2.2.1
def dX10_believed_21 := bX10_believed_0.2.2.2.2.2.2.2.2.2.2.2.1
def dX10_believed_22 := bX10_believed_0.2.2.2.2.2.2.2.2.2.2.2.2.1
def dX10_believed_25 := bX10_believed_0.2.2.2.2.2.2.2.2.2.2.2.2.2.1
def dX10_believed_26 := bX10_believed_0.2.2.2.2.2.2.2.2.2.2.2.2.2.2.1
def dX10_believed_29 := bX10_believed_0.2.2.2.2.2.2.2.2.2.2.2.2.2.2.2.1
theorem ggX10_earnest_X10_within : GoodIn wsX10_earnest wsX10_within := gW_in gwX10_within (fun _ h => List.mem_cons_of_mem _ (List.mem_append_right _ (List.mem_append_right _ (List.mem_append_right _ (List.mem_append_right _ (List.mem_append_left _ h))))))
set_option maxRecDepth 20000 in
theorem gX10_earnest_X10_within : GoodIn wsX10_earnest (va_wsS RX10 107 yX10_within wsX10_within) := goodIn_app (goodIn_of _ (by decide +kernel)) ggX10_earnest_X10_within
theorem ggX10_earnest_X10_demand : GoodIn wsX10_earnest wsX10_demand := gW_in gwX10_demand (fun _ h => List.mem_cons_of_mem _ (List.mem_append_right _ (List.mem_append_right _ (List.mem_append_right _ (List.mem_append_right _ (List.mem_append_right _ (List.mem_append_left _ h)))))))
set_option maxRecDepth 20000 in
theorem gX10_earnest_X10_demand : GoodIn wsX10_earnest (wsV RX10 81 RX10 yX10_demand wsX10_demand) := goodIn_app (goodIn_of _ (by decide +kernel)) ggX10_earnest_X10_demand
theorem ggX10_earnest_X1_prepare : GoodIn wsX10_earnest wsX1_prepare := gW_in gwX1_prepare (fun _ h => List.mem_cons_of_mem _ (List.mem_append_right _ (List.mem_append_right _ (List.mem_append_right _ (List.mem_append_right _ (List.mem_append_right _ (List.mem_append_right _ (List.mem_append_left _ h))))))))
set_option maxRecDepth 20000 in
theorem gX10_earnest_X1_prepare : GoodIn wsX10_earnest (wsV RX10 212 RX1 yX1_prepare wsX1_prepare) := goodIn_app (goodIn_of _ (by decide +kernel)) ggX10_earnest_X1_prepare
theorem ggX10_earnest_X1_all : GoodIn wsX10_earnest wsX1_all := gW_in gwX1_all (fun _ h => List.mem_cons_of_mem _ (List.mem_append_right _ (List.mem_append_right _ (List.mem_append_right _ (List.mem_append_right _ (List.mem_append_right _ (List.mem_append_right _ (List.mem_append_right _ (List.mem_append_left _ h)))))))))
set_option maxRecDepth 20000 in
theorem gX10_earnest_X1_all : GoodIn wsX10_earnest (wsV RX10 215 RX1 yX1_all wsX1_all) := goodIn_app (goodIn_of _ (by decide +kernel)) ggX10_earnest_X1_all
theorem ggX10_earnest_X1_safe : GoodIn wsX10_earnest wsX1_safe := gW_in gwX1_safe (fun _ h => List.mem_cons_of_mem _ (List.mem_append_right _ (List.mem_append_right _ (List.mem_append_right _ (List.mem_append_right _ (List.mem_append_right _ (List.mem_append_right _ (List.mem_append_right _ (List.mem_append_right _ (List.mem_append_left _ h))))))))))
set_option maxRecDepth 20000 in
theorem gX10_earnest_X1_safe : GoodIn wsX10_earnest (wsV RX10 219 RX1 yX1_safe wsX1_safe) := goodIn_app (goodIn_of _ (by decide +kernel)) ggX10_earnest_X1_safe
theorem ggX10_earnest_X1_sure : GoodIn wsX10_earnest wsX1_sure := gW_in gwX1_sure (fun _ h => List.mem_cons_of_mem _ (List.mem_append_right _ (List.mem_append_right _ (List.mem_append_right _ (List.mem_append_right _ (List.mem_append_right _ (List.mem_append_right _ (List.mem_append_right _ (List.mem_append_right _ (List.mem_append_right _ (h)))))))))))
set_option maxRecDepth 20000 in
theorem gX10_earnest_X1_sure : GoodIn wsX10_earnest (wsV RX10 223 RX1 yX1_sure wsX1_sure) := goodIn_app (goodIn_of _ (by decide +kernel)) ggX10_earnest_X1_sure
theorem bX10_earnest_0 : fac cX10_earnest [(0, .aload_n 0, 1), (1, .iload_n 1, 1), (2, .iconst 0, 1), (3, .bipush 6, 2), (5, .invokestatic 107, 3), (8, .ifCond .eq 26, 3), (11, .iload_n 2, 1), (12, .iconst 0, 1), (13, .bipush 6, 2), (15, .invokestatic 107, 3), (18, .ifCond .eq 16, 3), (21, .iload_n 3, 1), (22, .iconst 0, 1), (23, .iconst 1, 1), (24, .invokestatic 107, 3), (27, .ifCond .eq 7, 3)] := fac_all 0 _ (by decide +kernel)
def dX10_earnest_0 := bX10_earnest_0.1
def dX10_earnest_1 := bX10_earnest_0.2.1
def dX10_earnest_2 := bX10_earnest_0.2.2.1
def dX10_earnest_3 := bX10_earnest_0.2.2.2.1
def dX10_earnest_5 := bX10_earnest_0.2.2.2.2.1
def dX10_earnest_8 := bX10_earnest_0.2.2.2.2.2.1
def dX10_earnest_11 := bX10_earnest_0.2.2.2.2.2.2.1
def dX10_earnest_12 := bX10_earnest_0.2.2.2.2.2.2.2.1
def dX10_earnest_13 := bX10_earnest_0.2.2.2.2.2.2.2.2.1
def dX10_earnest_15 := bX10_earnest_0.2.2.2.2.2.2.2.2.2.1
def dX10_earnest_18 := bX10_earnest_0.2.2.2.2.2.2.2.2.2.2.1
def dX10_earnest_21 := bX10_earnest_0.2.2.2.2.2.2.2.2.2.2.2.1
def dX10_earnest_22 := bX10_earnest_0.2.2.2.2.2.2.2.2.2.2.2.2.1
def dX10_earnest_23 := bX10_earnest_0.2.2.2.2.2.2.2.2.2.2.2.2.2.1
def dX10_earnest_24 := bX10_earnest_0.2.2.2.2.2.2.2.2.2.2.2.2.2.2.1
def dX10_earnest_27 := bX10_earnest_0.2.2.2.2.2.2.2.2.2.2.2.2.2.2.2.1
theorem bX10_earnest_30 : fac cX10_earnest [(30, .iconst 1, 1), (31, .goto 4, 3), (34, .iconst 0, 1), (35, .invokevirtual 81, 3), (38, .aload_n 0, 1), (39, .getfield 57, 3), (42, .aload_n 0, 1), (43, .getfield 23, 3), (46, .invokevirtual 212, 3), (49, .iload_n 3, 1), (50, .ifCond .ne 22, 3), (53, .aload_n 0, 1), (54, .getfield 57, 3), (57, .aload_n 0, 1), (58, .getfield 57, 3), (61, .invokevirtual 215, 3)] := fac_all 30 _ (by decide +kernel)
def dX10_earnest_30 := bX10_earnest_30.1
def dX10_earnest_31 := bX10_earnest_30.2.1
def dX10_earnest_34 := bX10_earnest_30.2.2.1
def dX10_earnest_35 := bX10_earnest_30.2.2.2.1
def dX10_earnest_38 := bX10_earnest_30.2.2.2.2.1
def dX10_earnest_39 := bX10_earnest_30.2.2.2.2.2.1
def dX10_earnest_42 := bX10_earnest_30.2.2.2.2.2.2.1
def dX10_earnest_43 := bX10_earnest_30.2.2.2.2.2.2.2.1
def dX10_earnest_46 := bX10_earnest_30.2.2.2.2.2.2.2.2.1
def dX10_earnest_49 := bX10_earnest_30.2.2.2.2.2.2.2.2.2.1
def dX10_earnest_50 := bX10_earnest_30.2.2.2.2.2.2.2.2.2.2.1
def dX10_earnest_53 := bX10_earnest_30.2.2.2.2.2.2.2.2.2.2.2.1
def dX10_earnest_54 := bX10_earnest_30.2.2.2.2.2.2.2.2.2.2.2.2.1
def dX10_earnest_57 := bX10_earnest_30.2.2.2.2.2.2.2.2.2.2.2.2.2.1
def dX10_earnest_58 := bX10_earnest_30.2.2.2.2.2.2.2.2.2.2.2.2.2.2.1
def dX10_earnest_61 := bX10_earnest_30.2.2.2.2.2.2.2.2.2.2.2.2.2.2.2.1
theorem bX10_earnest_64 : fac cX10_earnest [(64, .iload_n 1, 1), (65, .iload_n 2, 1), (66, .invokevirtual 219, 3), (69, .goto 12, 3), (72, .aload_n 0, 1), (73, .getfield 57, 3), (76, .iload_n 1, 1), (77, .iload_n 2, 1), (78, .invokevirtual 223, 3), (81, .ireturn, 1)] := fac_all 64 _ (by decide +kernel)
def dX10_earnest_64 := bX10_earnest_64.1
def dX10_earnest_65 := bX10_earnest_64.2.1
def dX10_earnest_66 := bX10_earnest_64.2.2.1
def dX10_earnest_69 := bX10_earnest_64.2.2.2.1
def dX10_earnest_72 := bX10_earnest_64.2.2.2.2.1
def dX10_earnest_73 := bX10_earnest_64.2.2.2.2.2.1
def dX10_earnest_76 := bX10_earnest_64.2.2.2.2.2.2.1
def dX10_earnest_77 := bX10_earnest_64.2.2.2.2.2.2.2.1
def dX10_earnest_78 := bX10_earnest_64.2.2.2.2.2.2.2.2.1
def dX10_earnest_81 := bX10_earnest_64.2.2.2.2.2.2.2.2.2.1
theorem ggX10_stands_X10_within : GoodIn wsX10_stands wsX10_within := gW_in gwX10_within (fun _ h => List.mem_cons_of_mem _ (List.mem_append_right _ (List.mem_append_right _ (List.mem_append_right _ (List.mem_append_right _ (List.mem_append_left _ h))))))
set_option maxRecDepth 20000 in
theorem gX10_stands_X10_within : GoodIn wsX10_stands (va_wsS RX10 107 yX10_within wsX10_within) := goodIn_app (goodIn_of _ (by decide +kernel)) ggX10_stands_X10_within
theorem ggX10_stands_X10_demand : GoodIn wsX10_stands wsX10_demand := gW_in gwX10_demand (fun _ h => List.mem_cons_of_mem _ (List.mem_append_right _ (List.mem_append_right _ (List.mem_append_right _ (List.mem_append_right _ (List.mem_append_right _ (List.mem_append_left _ h)))))))
set_option maxRecDepth 20000 in
theorem gX10_stands_X10_demand : GoodIn wsX10_stands (wsV RX10 81 RX10 yX10_demand wsX10_demand) := goodIn_app (goodIn_of _ (by decide +kernel)) ggX10_stands_X10_demand
theorem ggX10_stands_X1_prepare : GoodIn wsX10_stands wsX1_prepare := gW_in gwX1_prepare (fun _ h => List.mem_cons_of_mem _ (List.mem_append_right _ (List.mem_append_right _ (List.mem_append_right _ (List.mem_append_right _ (List.mem_append_right _ (List.mem_append_right _ (List.mem_append_left _ h))))))))
set_option maxRecDepth 20000 in
theorem gX10_stands_X1_prepare : GoodIn wsX10_stands (wsV RX10 212 RX1 yX1_prepare wsX1_prepare) := goodIn_app (goodIn_of _ (by decide +kernel)) ggX10_stands_X1_prepare
theorem ggX10_stands_X1_all : GoodIn wsX10_stands wsX1_all := gW_in gwX1_all (fun _ h => List.mem_cons_of_mem _ (List.mem_append_right _ (List.mem_append_right _ (List.mem_append_right _ (List.mem_append_right _ (List.mem_append_right _ (List.mem_append_right _ (List.mem_append_right _ (List.mem_append_left _ h)))))))))
set_option maxRecDepth 20000 in
theorem gX10_stands_X1_all : GoodIn wsX10_stands (wsV RX10 215 RX1 yX1_all wsX1_all) := goodIn_app (goodIn_of _ (by decide +kernel)) ggX10_stands_X1_all
theorem ggX10_stands_X1_safe : GoodIn wsX10_stands wsX1_safe := gW_in gwX1_safe (fun _ h => List.mem_cons_of_mem _ (List.mem_append_right _ (List.mem_append_right _ (List.mem_append_right _ (List.mem_append_right _ (List.mem_append_right _ (List.mem_append_right _ (List.mem_append_right _ (List.mem_append_right _ (h))))))))))
set_option maxRecDepth 20000 in
theorem gX10_stands_X1_safe : GoodIn wsX10_stands (wsV RX10 219 RX1 yX1_safe wsX1_safe) := goodIn_app (goodIn_of _ (by decide +kernel)) ggX10_stands_X1_safe
theorem bX10_stands_0 : fac cX10_stands [(0, .aload_n 0, 1), (1, .iload_n 1, 1), (2, .iconst 0, 1), (3, .bipush 6, 2), (5, .invokestatic 107, 3), (8, .ifCond .eq 17, 3), (11, .iload_n 2, 1), (12, .iconst 0, 1), (13, .bipush 6, 2), (15, .invokestatic 107, 3), (18, .ifCond .eq 7, 3), (21, .iconst 1, 1), (22, .goto 4, 3), (25, .iconst 0, 1), (26, .invokevirtual 81, 3), (29, .aload_n 0, 1)] := fac_all 0 _ (by decide +kernel)
def dX10_stands_0 := bX10_stands_0.1
def dX10_stands_1 := bX10_stands_0.2.1
def dX10_stands_2 := bX10_stands_0.2.2.1
def dX10_stands_3 := bX10_stands_0.2.2.2.1
def dX10_stands_5 := bX10_stands_0.2.2.2.2.1
def dX10_stands_8 := bX10_stands_0.2.2.2.2.2.1
def dX10_stands_11 := bX10_stands_0.2.2.2.2.2.2.1
def dX10_stands_12 := bX10_stands_0.2.2.2.2.2.2.2.1
def dX10_stands_13 := bX10_stands_0.2.2.2.2.2.2.2.2.1
def dX10_stands_15 := bX10_stands_0.2.2.2.2.2.2.2.2.2.1
def dX10_stands_18 := bX10_stands_0.2.2.2.2.2.2.2.2.2.2.1
def dX10_stands_21 := bX10_stands_0.2.2.2.2.2.2.2.2.2.2.2.1
def dX10_stands_22 := bX10_stands_0.2.2.2.2.2.2.2.2.2.2.2.2.1
def dX10_stands_25 := bX10_stands_0.2.2.2.2.2.2.2.2.2.2.2.2.2.1
def dX10_stands_26 := bX10_stands_0.2.2.2.2.2.2.2.2.2.2.2.2.2.2.1
def dX10_stands_29 := bX10_stands_0.2.2.2.2.2.2.2.2.2.2.2.2.2.2.2.1
theorem bX10_stands_30 : fac cX10_stands [(30, .getfield 57, 3), (33, .aload_n 0, 1), (34, .getfield 23, 3), (37, .invokevirtual 212, 3), (40, .aload_n 0, 1), (41, .getfield 57, 3), (44, .aload_n 0, 1), (45, .getfield 57, 3), (48, .invokevirtual 215, 3), (51, .iload_n 1, 1), (52, .iload_n 2, 1), (53, .invokevirtual 219, 3), (56, .pop, 1), (57, .aload_n 0, 1), (58, .getfield 57, 3), (61, .getfield 226, 3)] := fac_all 30 _ (by decide +kernel)
def dX10_stands_30 := bX10_stands_30.1
def dX10_stands_33 := bX10_stands_30.2.1
def dX10_stands_34 := bX10_stands_30.2.2.1
def dX10_stands_37 := bX10_stands_30.2.2.2.1
def dX10_stands_40 := bX10_stands_30.2.2.2.2.1
def dX10_stands_41 := bX10_stands_30.2.2.2.2.2.1
def dX10_stands_44 := bX10_stands_30.2.2.2.2.2.2.1
def dX10_stands_45 := bX10_stands_30.2.2.2.2.2.2.2.1
def dX10_stands_48 := bX10_stands_30.2.2.2.2.2.2.2.2.1
def dX10_stands_51 := bX10_stands_30.2.2.2.2.2.2.2.2.2.1
def dX10_stands_52 := bX10_stands_30.2.2.2.2.2.2.2.2.2.2.1
def dX10_stands_53 := bX10_stands_30.2.2.2.2.2.2.2.2.2.2.2.1
def dX10_stands_56 := bX10_stands_30.2.2.2.2.2.2.2.2.2.2.2.2.1
def dX10_stands_57 := bX10_stands_30.2.2.2.2.2.2.2.2.2.2.2.2.2.1
def dX10_stands_58 := bX10_stands_30.2.2.2.2.2.2.2.2.2.2.2.2.2.2.1
def dX10_stands_61 := bX10_stands_30.2.2.2.2.2.2.2.2.2.2.2.2.2.2.2.1
theorem dX10_stands_64 : decode cX10_stands 64 = .ok (.ireturn, 1) := by decide +kernel
theorem ggX10_show_X10_within : GoodIn wsX10_show wsX10_within := gW_in gwX10_within (fun _ h => List.mem_cons_of_mem _ (List.mem_append_right _ (List.mem_append_right _ (List.mem_append_right _ (List.mem_append_right _ (List.mem_append_left _ h))))))
set_option maxRecDepth 20000 in
theorem gX10_show_X10_within : GoodIn wsX10_show (va_wsS RX10 107 yX10_within wsX10_within) := goodIn_app (goodIn_of _ (by decide +kernel)) ggX10_show_X10_within
theorem ggX10_show_X10_demand : GoodIn wsX10_show wsX10_demand := gW_in gwX10_demand (fun _ h => List.mem_cons_of_mem _ (List.mem_append_right _ (List.mem_append_right _ (List.mem_append_right _ (List.mem_append_right _ (List.mem_append_right _ (List.mem_append_left _ h)))))))
set_option maxRecDepth 20000 in
theorem gX10_show_X10_demand : GoodIn wsX10_show (wsV RX10 81 RX10 yX10_demand wsX10_demand) := goodIn_app (goodIn_of _ (by decide +kernel)) ggX10_show_X10_demand
theorem ggX10_show_X1_prepare : GoodIn wsX10_show wsX1_prepare := gW_in gwX1_prepare (fun _ h => List.mem_cons_of_mem _ (List.mem_append_right _ (List.mem_append_right _ (List.mem_append_right _ (List.mem_append_right _ (List.mem_append_right _ (List.mem_append_right _ (List.mem_append_left _ h))))))))
set_option maxRecDepth 20000 in
theorem gX10_show_X1_prepare : GoodIn wsX10_show (wsV RX10 212 RX1 yX1_prepare wsX1_prepare) := goodIn_app (goodIn_of _ (by decide +kernel)) ggX10_show_X1_prepare
theorem ggX10_show_X1_all : GoodIn wsX10_show wsX1_all := gW_in gwX1_all (fun _ h => List.mem_cons_of_mem _ (List.mem_append_right _ (List.mem_append_right _ (List.mem_append_right _ (List.mem_append_right _ (List.mem_append_right _ (List.mem_append_right _ (List.mem_append_right _ (List.mem_append_left _ h)))))))))
set_option maxRecDepth 20000 in
theorem gX10_show_X1_all : GoodIn wsX10_show (wsV RX10 215 RX1 yX1_all wsX1_all) := goodIn_app (goodIn_of _ (by decide +kernel)) ggX10_show_X1_all
theorem ggX10_show_X1_safe : GoodIn wsX10_show wsX1_safe := gW_in gwX1_safe (fun _ h => List.mem_cons_of_mem _ (List.mem_append_right _ (List.mem_append_right _ (List.mem_append_right _ (List.mem_append_right _ (List.mem_append_right _ (List.mem_append_right _ (List.mem_append_right _ (List.mem_append_right _ (h))))))))))
set_option maxRecDepth 20000 in
theorem gX10_show_X1_safe : GoodIn wsX10_show (wsV RX10 219 RX1 yX1_safe wsX1_safe) := goodIn_app (goodIn_of _ (by decide +kernel)) ggX10_show_X1_safe
theorem bX10_show_0 : fac cX10_show [(0, .aload_n 0, 1), (1, .iload_n 1, 1), (2, .iconst 0, 1), (3, .bipush 6, 2), (5, .invokestatic 107, 3), (8, .ifCond .eq 17, 3), (11, .iload_n 2, 1), (12, .iconst 0, 1), (13, .bipush 6, 2), (15, .invokestatic 107, 3), (18, .ifCond .eq 7, 3), (21, .iconst 1, 1), (22, .goto 4, 3), (25, .iconst 0, 1), (26, .invokevirtual 81, 3), (29, .aload_n 0, 1)] := fac_all 0 _ (by decide +kernel)
def dX10_show_0 := bX10_show_0.1
def dX10_show_1 := bX10_show_0.2.1
def dX10_show_2 := bX10_show_0.2.2.1
def dX10_show_3 := bX10_show_0.2.2.2.1
def dX10_show_5 := bX10_show_0.2.2.2.2.1
def dX10_show_8 := bX10_show_0.2.2.2.2.2.1
def dX10_show_11 := bX10_show_0.2.2.2.2.2.2.1
def dX10_show_12 := bX10_show_0.2.2.2.2.2.2.2.1
def dX10_show_13 := bX10_show_0.2.2.2.2.2.2.2.2.1
def dX10_show_15 := bX10_show_0.2.2.2.2.2.2.2.2.2.1
def dX10_show_18 := bX10_show_0.2.2.2.2.2.2.2.2.2.2.1
def dX10_show_21 := bX10_show_0.2.2.2.2.2.2.2.2.2.2.2.1
def dX10_show_22 := bX10_show_0.2.2.2.2.2.2.2.2.2.2.2.2.1
def dX10_show_25 := bX10_show_0.2.2.2.2.2.2.2.2.2.2.2.2.2.1
def dX10_show_26 := bX10_show_0.2.2.2.2.2.2.2.2.2.2.2.2.2.2.1
def dX10_show_29 := bX10_show_0.2.2.2.2.2.2.2.2.2.2.2.2.2.2.2.1
theorem bX10_show_30 : fac cX10_show [(30, .getfield 57, 3), (33, .aload_n 0, 1), (34, .getfield 23, 3), (37, .invokevirtual 212, 3), (40, .aload_n 0, 1), (41, .getfield 57, 3), (44, .aload_n 0, 1), (45, .getfield 57, 3), (48, .invokevirtual 215, 3), (51, .iload_n 1, 1), (52, .iload_n 2, 1), (53, .invokevirtual 219, 3), (56, .istore_n 3, 1), (57, .iconst 0, 1), (58, .istore 4, 2), (60, .iconst 0, 1)] := fac_all 30 _ (by decide +kernel)
def dX10_show_30 := bX10_show_30.1
def dX10_show_33 := bX10_show_30.2.1
def dX10_show_34 := bX10_show_30.2.2.1
def dX10_show_37 := bX10_show_30.2.2.2.1
def dX10_show_40 := bX10_show_30.2.2.2.2.1
def dX10_show_41 := bX10_show_30.2.2.2.2.2.1
def dX10_show_44 := bX10_show_30.2.2.2.2.2.2.1
def dX10_show_45 := bX10_show_30.2.2.2.2.2.2.2.1
def dX10_show_48 := bX10_show_30.2.2.2.2.2.2.2.2.1
def dX10_show_51 := bX10_show_30.2.2.2.2.2.2.2.2.2.1
def dX10_show_52 := bX10_show_30.2.2.2.2.2.2.2.2.2.2.1
def dX10_show_53 := bX10_show_30.2.2.2.2.2.2.2.2.2.2.2.1
def dX10_show_56 := bX10_show_30.2.2.2.2.2.2.2.2.2.2.2.2.1
def dX10_show_57 := bX10_show_30.2.2.2.2.2.2.2.2.2.2.2.2.2.1
def dX10_show_58 := bX10_show_30.2.2.2.2.2.2.2.2.2.2.2.2.2.2.1
def dX10_show_60 := bX10_show_30.2.2.2.2.2.2.2.2.2.2.2.2.2.2.2.1
theorem bX10_show_61 : fac cX10_show [(61, .istore 5, 2), (63, .iload 5, 2), (65, .aload_n 0, 1), (66, .getfield 57, 3), (69, .getfield 229, 3), (72, .if_icmp .ge 49, 3), (75, .aload_n 0, 1), (76, .getfield 57, 3), (79, .invokevirtual 215, 3), (82, .iconst 1, 1), (83, .iload 5, 2), (85, .ishl, 1), (86, .iconst (-1), 1), (87, .ixor, 1), (88, .iand, 1), (89, .istore 6, 2)] := fac_all 61 _ (by decide +kernel)
def dX10_show_61 := bX10_show_61.1
def dX10_show_63 := bX10_show_61.2.1
def dX10_show_65 := bX10_show_61.2.2.1
def dX10_show_66 := bX10_show_61.2.2.2.1
def dX10_show_69 := bX10_show_61.2.2.2.2.1
def dX10_show_72 := bX10_show_61.2.2.2.2.2.1
def dX10_show_75 := bX10_show_61.2.2.2.2.2.2.1
def dX10_show_76 := bX10_show_61.2.2.2.2.2.2.2.1
def dX10_show_79 := bX10_show_61.2.2.2.2.2.2.2.2.1
def dX10_show_82 := bX10_show_61.2.2.2.2.2.2.2.2.2.1
def dX10_show_83 := bX10_show_61.2.2.2.2.2.2.2.2.2.2.1
def dX10_show_85 := bX10_show_61.2.2.2.2.2.2.2.2.2.2.2.1
def dX10_show_86 := bX10_show_61.2.2.2.2.2.2.2.2.2.2.2.2.1
def dX10_show_87 := bX10_show_61.2.2.2.2.2.2.2.2.2.2.2.2.2.1
def dX10_show_88 := bX10_show_61.2.2.2.2.2.2.2.2.2.2.2.2.2.2.1
def dX10_show_89 := bX10_show_61.2.2.2.2.2.2.2.2.2.2.2.2.2.2.2.1
theorem bX10_show_91 : fac cX10_show [(91, .aload_n 0, 1), (92, .getfield 57, 3), (95, .iload 6, 2), (97, .iload_n 1, 1), (98, .iload_n 2, 1), (99, .invokevirtual 219, 3), (102, .iload_n 3, 1), (103, .if_icmp .ne 12, 3), (106, .iload 4, 2), (108, .iconst 1, 1), (109, .iload 5, 2), (111, .ishl, 1), (112, .ior, 1), (113, .istore 4, 2), (115, .iinc 5 1, 3), (118, .goto (-55), 3)] := fac_all 91 _ (by decide +kernel)
def dX10_show_91 := bX10_show_91.1
def dX10_show_92 := bX10_show_91.2.1
def dX10_show_95 := bX10_show_91.2.2.1
def dX10_show_97 := bX10_show_91.2.2.2.1
def dX10_show_98 := bX10_show_91.2.2.2.2.1
def dX10_show_99 := bX10_show_91.2.2.2.2.2.1
def dX10_show_102 := bX10_show_91.2.2.2.2.2.2.1
def dX10_show_103 := bX10_show_91.2.2.2.2.2.2.2.1
def dX10_show_106 := bX10_show_91.2.2.2.2.2.2.2.2.1
def dX10_show_108 := bX10_show_91.2.2.2.2.2.2.2.2.2.1
def dX10_show_109 := bX10_show_91.2.2.2.2.2.2.2.2.2.2.1
def dX10_show_111 := bX10_show_91.2.2.2.2.2.2.2.2.2.2.2.1
def dX10_show_112 := bX10_show_91.2.2.2.2.2.2.2.2.2.2.2.2.1
def dX10_show_113 := bX10_show_91.2.2.2.2.2.2.2.2.2.2.2.2.2.1
def dX10_show_115 := bX10_show_91.2.2.2.2.2.2.2.2.2.2.2.2.2.2.1
def dX10_show_118 := bX10_show_91.2.2.2.2.2.2.2.2.2.2.2.2.2.2.2.1
theorem bX10_show_121 : fac cX10_show [(121, .iload 4, 2), (123, .ireturn, 1)] := fac_all 121 _ (by decide +kernel)
def dX10_show_121 := bX10_show_121.1
def dX10_show_123 := bX10_show_121.2.1
theorem ggX10_offers_X10_within : GoodIn wsX10_offers wsX10_within := gW_in gwX10_within (fun _ h => List.mem_cons_of_mem _ (List.mem_append_right _ (List.mem_append_right _ (List.mem_append_right _ (List.mem_append_right _ (List.mem_append_left _ h))))))
set_option maxRecDepth 20000 in
theorem gX10_offers_X10_within : GoodIn wsX10_offers (va_wsS RX10 107 yX10_within wsX10_within) := goodIn_app (goodIn_of _ (by decide +kernel)) ggX10_offers_X10_within
theorem ggX10_offers_X10_demand : GoodIn wsX10_offers wsX10_demand := gW_in gwX10_demand (fun _ h => List.mem_cons_of_mem _ (List.mem_append_right _ (List.mem_append_right _ (List.mem_append_right _ (List.mem_append_right _ (List.mem_append_right _ (List.mem_append_left _ h)))))))
set_option maxRecDepth 20000 in
theorem gX10_offers_X10_demand : GoodIn wsX10_offers (wsV RX10 81 RX10 yX10_demand wsX10_demand) := goodIn_app (goodIn_of _ (by decide +kernel)) ggX10_offers_X10_demand
theorem ggX10_offers_X3_bid : GoodIn wsX10_offers wsX3_bid := gW_in gwX3_bid (fun _ h => List.mem_cons_of_mem _ (List.mem_append_right _ (List.mem_append_right _ (List.mem_append_right _ (List.mem_append_right _ (List.mem_append_right _ (List.mem_append_right _ (h))))))))
set_option maxRecDepth 20000 in
theorem gX10_offers_X3_bid : GoodIn wsX10_offers (wsV RX10 236 RX3 yX3_bid wsX3_bid) := goodIn_app (goodIn_of _ (by decide +kernel)) ggX10_offers_X3_bid
theorem bX10_offers_0 : fac cX10_offers [(0, .aload_n 0, 1), (1, .iload_n 1, 1), (2, .iconst 1, 1), (3, .iconst 2, 1), (4, .invokestatic 107, 3), (7, .ifCond .eq 28, 3), (10, .iload_n 2, 1), (11, .iconst 0, 1), (12, .bipush 11, 2), (14, .invokestatic 107, 3), (17, .ifCond .eq 18, 3), (20, .iload_n 3, 1), (21, .iconst 0, 1), (22, .sipush 999, 3), (25, .invokestatic 107, 3), (28, .ifCond .eq 7, 3)] := fac_all 0 _ (by decide +kernel)
def dX10_offers_0 := bX10_offers_0.1
def dX10_offers_1 := bX10_offers_0.2.1
def dX10_offers_2 := bX10_offers_0.2.2.1
def dX10_offers_3 := bX10_offers_0.2.2.2.1
def dX10_offers_4 := bX10_offers_0.2.2.2.2.1
def dX10_offers_7 := bX10_offers_0.2.2.2.2.2.1
def dX10_offers_10 := bX10_offers_0.2.2.2.2.2.2.1
def dX10_offers_11 := bX10_offers_0.2.2.2.2.2.2.2.1
def dX10_offers_12 := bX10_offers_0.2.2.2.2.2.2.2.2.1
def dX10_offers_14 := bX10_offers_0.2.2.2.2.2.2.2.2.2.1
def dX10_offers_17 := bX10_offers_0.2.2.2.2.2.2.2.2.2.2.1
def dX10_offers_20 := bX10_offers_0.2.2.2.2.2.2.2.2.2.2.2.1
def dX10_offers_21 := bX10_offers_0.2.2.2.2.2.2.2.2.2.2.2.2.1
def dX10_offers_22 := bX10_offers_0.2.2.2.2.2.2.2.2.2.2.2.2.2.1
def dX10_offers_25 := bX10_offers_0.2.2.2.2.2.2.2.2.2.2.2.2.2.2.1
def dX10_offers_28 := bX10_offers_0.2.2.2.2.2.2.2.2.2.2.2.2.2.2.2.1
theorem bX10_offers_31 : fac cX10_offers [(31, .iconst 1, 1), (32, .goto 4, 3), (35, .iconst 0, 1), (36, .invokevirtual 81, 3), (39, .aload_n 0, 1), (40, .getfield 39, 3), (43, .getfield 232, 3), (46, .iload_n 1, 1), (47, .iload_n 2, 1), (48, .iload_n 3, 1), (49, .invokevirtual 236, 3), (52, .ireturn, 1)] := fac_all 31 _ (by decide +kernel)
def dX10_offers_31 := bX10_offers_31.1
def dX10_offers_32 := bX10_offers_31.2.1
def dX10_offers_35 := bX10_offers_31.2.2.1
def dX10_offers_36 := bX10_offers_31.2.2.2.1
def dX10_offers_39 := bX10_offers_31.2.2.2.2.1
def dX10_offers_40 := bX10_offers_31.2.2.2.2.2.1
def dX10_offers_43 := bX10_offers_31.2.2.2.2.2.2.1
def dX10_offers_46 := bX10_offers_31.2.2.2.2.2.2.2.1
def dX10_offers_47 := bX10_offers_31.2.2.2.2.2.2.2.2.1
def dX10_offers_48 := bX10_offers_31.2.2.2.2.2.2.2.2.2.1
def dX10_offers_49 := bX10_offers_31.2.2.2.2.2.2.2.2.2.2.1
def dX10_offers_52 := bX10_offers_31.2.2.2.2.2.2.2.2.2.2.2.1
theorem ggX10_most_X3_mostCoin : GoodIn wsX10_most wsX3_mostCoin := gW_in gwX3_mostCoin (fun _ h => List.mem_cons_of_mem _ (List.mem_append_right _ (List.mem_append_right _ (List.mem_append_right _ (List.mem_append_right _ (h))))))
set_option maxRecDepth 20000 in
theorem gX10_most_X3_mostCoin : GoodIn wsX10_most (wsV RX10 239 RX3 yX3_mostCoin wsX3_mostCoin) := goodIn_app (goodIn_of _ (by decide +kernel)) ggX10_most_X3_mostCoin
theorem bX10_most_0 : fac cX10_most [(0, .aload_n 0, 1), (1, .getfield 39, 3), (4, .getfield 232, 3), (7, .invokevirtual 239, 3), (10, .ireturn, 1)] := fac_all 0 _ (by decide +kernel)
def dX10_most_0 := bX10_most_0.1
def dX10_most_1 := bX10_most_0.2.1
def dX10_most_4 := bX10_most_0.2.2.1
def dX10_most_7 := bX10_most_0.2.2.2.1
def dX10_most_10 := bX10_most_0.2.2.2.2.1
theorem ggX10_serves_X10_within : GoodIn wsX10_serves wsX10_within := gW_in gwX10_within (fun _ h => List.mem_cons_of_mem _ (List.mem_append_right _ (List.mem_append_right _ (List.mem_append_right _ (List.mem_append_right _ (List.mem_append_left _ h))))))
set_option maxRecDepth 20000 in
theorem gX10_serves_X10_within : GoodIn wsX10_serves (va_wsS RX10 107 yX10_within wsX10_within) := goodIn_app (goodIn_of _ (by decide +kernel)) ggX10_serves_X10_within
theorem ggX10_serves_X10_demand : GoodIn wsX10_serves wsX10_demand := gW_in gwX10_demand (fun _ h => List.mem_cons_of_mem _ (List.mem_append_right _ (List.mem_append_right _ (List.mem_append_right _ (List.mem_append_right _ (List.mem_append_right _ (List.mem_append_left _ h)))))))
set_option maxRecDepth 20000 in
theorem gX10_serves_X10_demand : GoodIn wsX10_serves (wsV RX10 81 RX10 yX10_demand wsX10_demand) := goodIn_app (goodIn_of _ (by decide +kernel)) ggX10_serves_X10_demand
theorem ggX10_serves_X3_served : GoodIn wsX10_serves wsX3_served := gW_in gwX3_served (fun _ h => List.mem_cons_of_mem _ (List.mem_append_right _ (List.mem_append_right _ (List.mem_append_right _ (List.mem_append_right _ (List.mem_append_right _ (List.mem_append_right _ (h))))))))
set_option maxRecDepth 20000 in
theorem gX10_serves_X3_served : GoodIn wsX10_serves (wsV RX10 242 RX3 yX3_served wsX3_served) := goodIn_app (goodIn_of _ (by decide +kernel)) ggX10_serves_X3_served
theorem bX10_serves_0 : fac cX10_serves [(0, .aload_n 0, 1), (1, .iload_n 1, 1), (2, .iconst 0, 1), (3, .bipush 11, 2), (5, .invokestatic 107, 3), (8, .invokevirtual 81, 3), (11, .aload_n 0, 1), (12, .getfield 39, 3), (15, .getfield 232, 3), (18, .iload_n 1, 1), (19, .invokevirtual 242, 3), (22, .ireturn, 1)] := fac_all 0 _ (by decide +kernel)
def dX10_serves_0 := bX10_serves_0.1
def dX10_serves_1 := bX10_serves_0.2.1
def dX10_serves_2 := bX10_serves_0.2.2.1
def dX10_serves_3 := bX10_serves_0.2.2.2.1
def dX10_serves_5 := bX10_serves_0.2.2.2.2.1
def dX10_serves_8 := bX10_serves_0.2.2.2.2.2.1
def dX10_serves_11 := bX10_serves_0.2.2.2.2.2.2.1
def dX10_serves_12 := bX10_serves_0.2.2.2.2.2.2.2.1
def dX10_serves_15 := bX10_serves_0.2.2.2.2.2.2.2.2.1
def dX10_serves_18 := bX10_serves_0.2.2.2.2.2.2.2.2.2.1
def dX10_serves_19 := bX10_serves_0.2.2.2.2.2.2.2.2.2.2.1
def dX10_serves_22 := bX10_serves_0.2.2.2.2.2.2.2.2.2.2.2.1
theorem ggX10_image_X8_init : GoodIn wsX10_image wsX8_init := gW_in gwX8_init (fun _ h => List.mem_cons_of_mem _ (List.mem_append_right _ (List.mem_append_right _ (List.mem_append_right _ (List.mem_append_right _ (List.mem_append_right _ (List.mem_append_right _ (List.mem_append_right _ (List.mem_append_left _ h)))))))))
set_option maxRecDepth 20000 in
theorem gX10_image_X8_init_n38 : GoodIn wsX10_image (wsX8_init) := ggX10_image_X8_init
theorem ggX10_image_X8_take : GoodIn wsX10_image wsX8_take := gW_in gwX8_take (fun _ h => List.mem_cons_of_mem _ (List.mem_append_right _ (List.mem_append_right _ (List.mem_append_right _ (List.mem_append_right _ (List.mem_append_right _ (List.mem_append_right _ (List.mem_append_right _ (List.mem_append_right _ (h))))))))))
set_option maxRecDepth 20000 in
theorem gX10_image_X8_take : GoodIn wsX10_image (wsV RX10 245 RX8 yX8_take wsX8_take) := goodIn_app (goodIn_of _ (by decide +kernel)) ggX10_image_X8_take
theorem bX10_image_0 : fac cX10_image [(0, .aload_n 0, 1), (1, .getfield 95, 3), (4, .iconst 3, 1), (5, .if_icmp .lt 5, 3), (8, .iconst (-1), 1), (9, .ireturn, 1), (10, .aload_n 0, 1), (11, .getfield 43, 3), (14, .aload_n 0, 1), (15, .getfield 95, 3), (18, .aaload, 1), (19, .ifnonnull 19, 3), (22, .aload_n 0, 1), (23, .getfield 43, 3), (26, .aload_n 0, 1), (27, .getfield 95, 3)] := fac_all 0 _ (by decide +kernel)
def dX10_image_0 := bX10_image_0.1
def dX10_image_1 := bX10_image_0.2.1
def dX10_image_4 := bX10_image_0.2.2.1
def dX10_image_5 := bX10_image_0.2.2.2.1
def dX10_image_8 := bX10_image_0.2.2.2.2.1
def dX10_image_9 := bX10_image_0.2.2.2.2.2.1
def dX10_image_10 := bX10_image_0.2.2.2.2.2.2.1
def dX10_image_11 := bX10_image_0.2.2.2.2.2.2.2.1
def dX10_image_14 := bX10_image_0.2.2.2.2.2.2.2.2.1
def dX10_image_15 := bX10_image_0.2.2.2.2.2.2.2.2.2.1
def dX10_image_18 := bX10_image_0.2.2.2.2.2.2.2.2.2.2.1
def dX10_image_19 := bX10_image_0.2.2.2.2.2.2.2.2.2.2.2.1
def dX10_image_22 := bX10_image_0.2.2.2.2.2.2.2.2.2.2.2.2.1
def dX10_image_23 := bX10_image_0.2.2.2.2.2.2.2.2.2.2.2.2.2.1
def dX10_image_26 := bX10_image_0.2.2.2.2.2.2.2.2.2.2.2.2.2.2.1
def dX10_image_27 := bX10_image_0.2.2.2.2.2.2.2.2.2.2.2.2.2.2.2.1
theorem bX10_image_30 : fac cX10_image [(30, .new 36, 3), (33, .dup, 1), (34, .invokespecial 38, 3), (37, .aastore, 1), (38, .aload_n 0, 1), (39, .getfield 43, 3), (42, .aload_n 0, 1), (43, .getfield 95, 3), (46, .aaload, 1), (47, .aload_n 0, 1), (48, .getfield 39, 3), (51, .invokevirtual 245, 3), (54, .aload_n 0, 1), (55, .dup, 1), (56, .getfield 95, 3), (59, .iconst 1, 1)] := fac_all 30 _ (by decide +kernel)
def dX10_image_30 := bX10_image_30.1
def dX10_image_33 := bX10_image_30.2.1
def dX10_image_34 := bX10_image_30.2.2.1
def dX10_image_37 := bX10_image_30.2.2.2.1
def dX10_image_38 := bX10_image_30.2.2.2.2.1
def dX10_image_39 := bX10_image_30.2.2.2.2.2.1
def dX10_image_42 := bX10_image_30.2.2.2.2.2.2.1
def dX10_image_43 := bX10_image_30.2.2.2.2.2.2.2.1
def dX10_image_46 := bX10_image_30.2.2.2.2.2.2.2.2.1
def dX10_image_47 := bX10_image_30.2.2.2.2.2.2.2.2.2.1
def dX10_image_48 := bX10_image_30.2.2.2.2.2.2.2.2.2.2.1
def dX10_image_51 := bX10_image_30.2.2.2.2.2.2.2.2.2.2.2.1
def dX10_image_54 := bX10_image_30.2.2.2.2.2.2.2.2.2.2.2.2.1
def dX10_image_55 := bX10_image_30.2.2.2.2.2.2.2.2.2.2.2.2.2.1
def dX10_image_56 := bX10_image_30.2.2.2.2.2.2.2.2.2.2.2.2.2.2.1
def dX10_image_59 := bX10_image_30.2.2.2.2.2.2.2.2.2.2.2.2.2.2.2.1
theorem bX10_image_60 : fac cX10_image [(60, .iadd, 1), (61, .putfield 95, 3), (64, .aload_n 0, 1), (65, .getfield 95, 3), (68, .ireturn, 1)] := fac_all 60 _ (by decide +kernel)
def dX10_image_60 := bX10_image_60.1
def dX10_image_61 := bX10_image_60.2.1
def dX10_image_64 := bX10_image_60.2.2.1
def dX10_image_65 := bX10_image_60.2.2.2.1
def dX10_image_68 := bX10_image_60.2.2.2.2.1
theorem ggX10_restore_X8_take : GoodIn wsX10_restore wsX8_take := gW_in gwX8_take (fun _ h => List.mem_cons_of_mem _ (List.mem_append_right _ (List.mem_append_right _ (List.mem_append_right _ (List.mem_append_right _ (List.mem_append_right _ (List.mem_append_right _ (List.mem_append_right _ (h)))))))))
set_option maxRecDepth 20000 in
theorem gX10_restore_X8_take : GoodIn wsX10_restore (wsV RX10 245 RX8 yX8_take wsX8_take) := goodIn_app (goodIn_of _ (by decide +kernel)) ggX10_restore_X8_take
theorem bX10_restore_0 : fac cX10_restore [(0, .aload_n 0, 1), (1, .getfield 95, 3), (4, .ifCond .le 17, 3), (7, .aload_n 0, 1), (8, .getfield 43, 3), (11, .aload_n 0, 1), (12, .getfield 95, 3), (15, .iconst 1, 1), (16, .isub, 1), (17, .aaload, 1), (18, .ifnonnull 5, 3), (21, .iconst (-1), 1), (22, .ireturn, 1), (23, .aload_n 0, 1), (24, .dup, 1), (25, .getfield 95, 3)] := fac_all 0 _ (by decide +kernel)
def dX10_restore_0 := bX10_restore_0.1
def dX10_restore_1 := bX10_restore_0.2.1
def dX10_restore_4 := bX10_restore_0.2.2.1
def dX10_restore_7 := bX10_restore_0.2.2.2.1
def dX10_restore_8 := bX10_restore_0.2.2.2.2.1
def dX10_restore_11 := bX10_restore_0.2.2.2.2.2.1
end
section
def dX10_restore_12 := bX10_restore_0.2.2.2.2.2.2.1
def dX10_restore_15 := bX10_restore_0.2.2.2.2.2.2.2.1
def dX10_restore_16 := bX10_restore_0.2.2.2.2.2.2.2.2.1
def dX10_restore_17 := bX10_restore_0.2.2.2.2.2.2.2.2.2.1
def dX10_restore_18 := bX10_restore_0.2.2.2.2.2.2.2.2.2.2.1
def dX10_restore_21 := bX10_restore_0.2.2.2.2.2.2.2.2.2.2.2.1
def dX10_restore_22 := bX10_restore_0.2.2.2.2.2.2.2.2.2.2.2.2.1
def dX10_restore_23 := bX10_restore_0.2.2.2.2.2.2.2.2.2.2.2.2.2.1
def dX10_restore_24 := bX10_restore_0.2.2.2.2.2.2.2.2.2.2.2.2.2.2.1
def dX10_restore_25 := bX10_restore_0.2.2.2.2.2.2.2.2.2.2.2.2.2.2.2.1
theorem bX10_restore_28 : fac cX10_restore [(28, .iconst 1, 1), (29, .isub, 1), (30, .putfield 95, 3), (33, .aload_n 0, 1), (34, .getfield 39, 3), (37, .aload_n 0, 1), (38, .getfield 43, 3), (41, .aload_n 0, 1), (42, .getfield 95, 3), (45, .aaload, 1), (46, .invokevirtual 245, 3), (49, .aload_n 0, 1), (50, .getfield 95, 3), (53, .ireturn, 1)] := fac_all 28 _ (by decide +kernel)
def dX10_restore_28 := bX10_restore_28.1
def dX10_restore_29 := bX10_restore_28.2.1
def dX10_restore_30 := bX10_restore_28.2.2.1
def dX10_restore_33 := bX10_restore_28.2.2.2.1
def dX10_restore_34 := bX10_restore_28.2.2.2.2.1
def dX10_restore_37 := bX10_restore_28.2.2.2.2.2.1
def dX10_restore_38 := bX10_restore_28.2.2.2.2.2.2.1
def dX10_restore_41 := bX10_restore_28.2.2.2.2.2.2.2.1
def dX10_restore_42 := bX10_restore_28.2.2.2.2.2.2.2.2.1
def dX10_restore_45 := bX10_restore_28.2.2.2.2.2.2.2.2.2.1
def dX10_restore_46 := bX10_restore_28.2.2.2.2.2.2.2.2.2.2.1
def dX10_restore_49 := bX10_restore_28.2.2.2.2.2.2.2.2.2.2.2.1
def dX10_restore_50 := bX10_restore_28.2.2.2.2.2.2.2.2.2.2.2.2.1
def dX10_restore_53 := bX10_restore_28.2.2.2.2.2.2.2.2.2.2.2.2.2.1
theorem ggX10_status_X10_within : GoodIn wsX10_status wsX10_within := gW_in gwX10_within (fun _ h => List.mem_cons_of_mem _ (List.mem_append_right _ (List.mem_append_right _ (h))))
set_option maxRecDepth 20000 in
theorem gX10_status_X10_within : GoodIn wsX10_status (va_wsS RX10 107 yX10_within wsX10_within) := goodIn_app (goodIn_of _ (by decide +kernel)) ggX10_status_X10_within
theorem bX10_status_0 : fac cX10_status [(0, .iload_n 1, 1), (1, .iconst 0, 1), (2, .aload_n 0, 1), (3, .getfield 61, 3), (6, .arraylength, 1), (7, .iconst 1, 1), (8, .isub, 1), (9, .invokestatic 107, 3), (12, .ifCond .eq 12, 3), (15, .aload_n 0, 1), (16, .getfield 61, 3), (19, .iload_n 1, 1), (20, .iaload, 1), (21, .goto 4, 3), (24, .iconst (-1), 1), (25, .ireturn, 1)] := fac_all 0 _ (by decide +kernel)
def dX10_status_0 := bX10_status_0.1
def dX10_status_1 := bX10_status_0.2.1
def dX10_status_2 := bX10_status_0.2.2.1
def dX10_status_3 := bX10_status_0.2.2.2.1
def dX10_status_6 := bX10_status_0.2.2.2.2.1
def dX10_status_7 := bX10_status_0.2.2.2.2.2.1
def dX10_status_8 := bX10_status_0.2.2.2.2.2.2.1
def dX10_status_9 := bX10_status_0.2.2.2.2.2.2.2.1
def dX10_status_12 := bX10_status_0.2.2.2.2.2.2.2.2.1
def dX10_status_15 := bX10_status_0.2.2.2.2.2.2.2.2.2.1
def dX10_status_16 := bX10_status_0.2.2.2.2.2.2.2.2.2.2.1
def dX10_status_19 := bX10_status_0.2.2.2.2.2.2.2.2.2.2.2.1
def dX10_status_20 := bX10_status_0.2.2.2.2.2.2.2.2.2.2.2.2.1
def dX10_status_21 := bX10_status_0.2.2.2.2.2.2.2.2.2.2.2.2.2.1
def dX10_status_24 := bX10_status_0.2.2.2.2.2.2.2.2.2.2.2.2.2.2.1
def dX10_status_25 := bX10_status_0.2.2.2.2.2.2.2.2.2.2.2.2.2.2.2.1
theorem bX10_count_0 : fac cX10_count [(0, .iload_n 1, 1), (1, .tableswitch 48 0 2 #[27, 32, 37], 27), (28, .aload_n 0, 1), (29, .getfield 95, 3), (32, .ireturn, 1), (33, .aload_n 0, 1), (34, .getfield 73, 3), (37, .ireturn, 1), (38, .aload_n 0, 1), (39, .getfield 39, 3), (42, .getfield 189, 3), (45, .getfield 248, 3), (48, .ireturn, 1), (49, .iconst (-1), 1), (50, .ireturn, 1)] := fac_all 0 _ (by decide +kernel)
def dX10_count_0 := bX10_count_0.1
def dX10_count_1 := bX10_count_0.2.1
def dX10_count_28 := bX10_count_0.2.2.1
def dX10_count_29 := bX10_count_0.2.2.2.1
def dX10_count_32 := bX10_count_0.2.2.2.2.1
def dX10_count_33 := bX10_count_0.2.2.2.2.2.1
def dX10_count_34 := bX10_count_0.2.2.2.2.2.2.1
def dX10_count_37 := bX10_count_0.2.2.2.2.2.2.2.1
def dX10_count_38 := bX10_count_0.2.2.2.2.2.2.2.2.1
def dX10_count_39 := bX10_count_0.2.2.2.2.2.2.2.2.2.1
def dX10_count_42 := bX10_count_0.2.2.2.2.2.2.2.2.2.2.1
def dX10_count_45 := bX10_count_0.2.2.2.2.2.2.2.2.2.2.2.1
def dX10_count_48 := bX10_count_0.2.2.2.2.2.2.2.2.2.2.2.2.1
def dX10_count_49 := bX10_count_0.2.2.2.2.2.2.2.2.2.2.2.2.2.1
def dX10_count_50 := bX10_count_0.2.2.2.2.2.2.2.2.2.2.2.2.2.2.1
theorem bX10_within_0 : fac cX10_within [(0, .iload_n 0, 1), (1, .iload_n 1, 1), (2, .if_icmp .lt 12, 3), (5, .iload_n 0, 1), (6, .iload_n 2, 1), (7, .if_icmp .gt 7, 3), (10, .iconst 1, 1), (11, .goto 4, 3), (14, .iconst 0, 1), (15, .ireturn, 1)] := fac_all 0 _ (by decide +kernel)
def dX10_within_0 := bX10_within_0.1
def dX10_within_1 := bX10_within_0.2.1
def dX10_within_2 := bX10_within_0.2.2.1
def dX10_within_5 := bX10_within_0.2.2.2.1
def dX10_within_6 := bX10_within_0.2.2.2.2.1
def dX10_within_7 := bX10_within_0.2.2.2.2.2.1
def dX10_within_10 := bX10_within_0.2.2.2.2.2.2.1
def dX10_within_11 := bX10_within_0.2.2.2.2.2.2.2.1
def dX10_within_14 := bX10_within_0.2.2.2.2.2.2.2.2.1
def dX10_within_15 := bX10_within_0.2.2.2.2.2.2.2.2.2.1
theorem bX10_demand_0 : fac cX10_demand [(0, .iload_n 1, 1), (1, .ifCond .ne 23, 3), (4, .aload_n 0, 1), (5, .getfield 61, 3), (8, .iconst 2, 1), (9, .dup2, 1), (10, .iaload, 1), (11, .iconst 1, 1), (12, .iadd, 1), (13, .iastore, 1), (14, .new 251, 3), (17, .dup, 1), (18, .ldc 253, 2), (20, .invokespecial 255, 3), (23, .athrow, 1), (24, .return_, 1)] := fac_all 0 _ (by decide +kernel)
def dX10_demand_0 := bX10_demand_0.1
def dX10_demand_1 := bX10_demand_0.2.1
def dX10_demand_4 := bX10_demand_0.2.2.1
def dX10_demand_5 := bX10_demand_0.2.2.2.1
def dX10_demand_8 := bX10_demand_0.2.2.2.2.1
def dX10_demand_9 := bX10_demand_0.2.2.2.2.2.1
def dX10_demand_10 := bX10_demand_0.2.2.2.2.2.2.1
def dX10_demand_11 := bX10_demand_0.2.2.2.2.2.2.2.1
def dX10_demand_12 := bX10_demand_0.2.2.2.2.2.2.2.2.1
def dX10_demand_13 := bX10_demand_0.2.2.2.2.2.2.2.2.2.1
def dX10_demand_14 := bX10_demand_0.2.2.2.2.2.2.2.2.2.2.1
def dX10_demand_17 := bX10_demand_0.2.2.2.2.2.2.2.2.2.2.2.1
def dX10_demand_18 := bX10_demand_0.2.2.2.2.2.2.2.2.2.2.2.2.1
def dX10_demand_20 := bX10_demand_0.2.2.2.2.2.2.2.2.2.2.2.2.2.1
def dX10_demand_23 := bX10_demand_0.2.2.2.2.2.2.2.2.2.2.2.2.2.2.1
def dX10_demand_24 := bX10_demand_0.2.2.2.2.2.2.2.2.2.2.2.2.2.2.2.1
theorem ggX10_demandWall_X10_within : GoodIn wsX10_demandWall wsX10_within := gW_in gwX10_within (fun _ h => List.mem_cons_of_mem _ (List.mem_append_right _ (List.mem_append_right _ (List.mem_append_right _ (List.mem_append_right _ (h))))))
set_option maxRecDepth 20000 in
theorem gX10_demandWall_X10_within : GoodIn wsX10_demandWall (va_wsS RX10 107 yX10_within wsX10_within) := goodIn_app (goodIn_of _ (by decide +kernel)) ggX10_demandWall_X10_within
theorem bX10_demandWall_0 : fac cX10_demandWall [(0, .iload_n 1, 1), (1, .iconst 0, 1), (2, .aload_n 0, 1), (3, .getfield 23, 3), (6, .getfield 99, 3), (9, .iconst 1, 1), (10, .isub, 1), (11, .invokestatic 107, 3), (14, .ifCond .ne 24, 3), (17, .aload_n 0, 1), (18, .getfield 61, 3), (21, .iconst 1, 1), (22, .dup2, 1), (23, .iaload, 1), (24, .iconst 1, 1), (25, .iadd, 1)] := fac_all 0 _ (by decide +kernel)
def dX10_demandWall_0 := bX10_demandWall_0.1
def dX10_demandWall_1 := bX10_demandWall_0.2.1
def dX10_demandWall_2 := bX10_demandWall_0.2.2.1
def dX10_demandWall_3 := bX10_demandWall_0.2.2.2.1
def dX10_demandWall_6 := bX10_demandWall_0.2.2.2.2.1
def dX10_demandWall_9 := bX10_demandWall_0.2.2.2.2.2.1
def dX10_demandWall_10 := bX10_demandWall_0.2.2.2.2.2.2.1
def dX10_demandWall_11 := bX10_demandWall_0.2.2.2.2.2.2.2.1
def dX10_demandWall_14 := bX10_demandWall_0.2.2.2.2.2.2.2.2.1
def dX10_demandWall_17 := bX10_demandWall_0.2.2.2.2.2.2.2.2.2.1
def dX10_demandWall_18 := bX10_demandWall_0.2.2.2.2.2.2.2.2.2.2.1
def dX10_demandWall_21 := bX10_demandWall_0.2.2.2.2.2.2.2.2.2.2.2.1
def dX10_demandWall_22 := bX10_demandWall_0.2.2.2.2.2.2.2.2.2.2.2.2.1
def dX10_demandWall_23 := bX10_demandWall_0.2.2.2.2.2.2.2.2.2.2.2.2.2.1
def dX10_demandWall_24 := bX10_demandWall_0.2.2.2.2.2.2.2.2.2.2.2.2.2.2.1
def dX10_demandWall_25 := bX10_demandWall_0.2.2.2.2.2.2.2.2.2.2.2.2.2.2.2.1
theorem bX10_demandWall_26 : fac cX10_demandWall [(26, .iastore, 1), (27, .new 258, 3), (30, .dup, 1), (31, .ldc_w 260, 3), (34, .invokespecial 262, 3), (37, .athrow, 1), (38, .return_, 1)] := fac_all 26 _ (by decide +kernel)
def dX10_demandWall_26 := bX10_demandWall_26.1
def dX10_demandWall_27 := bX10_demandWall_26.2.1
def dX10_demandWall_30 := bX10_demandWall_26.2.2.1
def dX10_demandWall_31 := bX10_demandWall_26.2.2.2.1
def dX10_demandWall_34 := bX10_demandWall_26.2.2.2.2.1
def dX10_demandWall_37 := bX10_demandWall_26.2.2.2.2.2.1
def dX10_demandWall_38 := bX10_demandWall_26.2.2.2.2.2.2.1
theorem ggX10_demandContract_X10_within : GoodIn wsX10_demandContract wsX10_within := gW_in gwX10_within (fun _ h => List.mem_cons_of_mem _ (List.mem_append_right _ (List.mem_append_right _ (List.mem_append_right _ (h)))))
set_option maxRecDepth 20000 in
theorem gX10_demandContract_X10_within : GoodIn wsX10_demandContract (va_wsS RX10 107 yX10_within wsX10_within) := goodIn_app (goodIn_of _ (by decide +kernel)) ggX10_demandContract_X10_within
theorem bX10_demandContract_0 : fac cX10_demandContract [(0, .iload_n 1, 1), (1, .iconst 0, 1), (2, .aload_n 0, 1), (3, .getfield 92, 3), (6, .iconst 1, 1), (7, .isub, 1), (8, .invokestatic 107, 3), (11, .ifCond .ne 24, 3), (14, .aload_n 0, 1), (15, .getfield 61, 3), (18, .iconst 0, 1), (19, .dup2, 1), (20, .iaload, 1), (21, .iconst 1, 1), (22, .iadd, 1), (23, .iastore, 1)] := fac_all 0 _ (by decide +kernel)
def dX10_demandContract_0 := bX10_demandContract_0.1
def dX10_demandContract_1 := bX10_demandContract_0.2.1
def dX10_demandContract_2 := bX10_demandContract_0.2.2.1
def dX10_demandContract_3 := bX10_demandContract_0.2.2.2.1
def dX10_demandContract_6 := bX10_demandContract_0.2.2.2.2.1
def dX10_demandContract_7 := bX10_demandContract_0.2.2.2.2.2.1
def dX10_demandContract_8 := bX10_demandContract_0.2.2.2.2.2.2.1
def dX10_demandContract_11 := bX10_demandContract_0.2.2.2.2.2.2.2.1
def dX10_demandContract_14 := bX10_demandContract_0.2.2.2.2.2.2.2.2.1
def dX10_demandContract_15 := bX10_demandContract_0.2.2.2.2.2.2.2.2.2.1
def dX10_demandContract_18 := bX10_demandContract_0.2.2.2.2.2.2.2.2.2.2.1
def dX10_demandContract_19 := bX10_demandContract_0.2.2.2.2.2.2.2.2.2.2.2.1
def dX10_demandContract_20 := bX10_demandContract_0.2.2.2.2.2.2.2.2.2.2.2.2.1
def dX10_demandContract_21 := bX10_demandContract_0.2.2.2.2.2.2.2.2.2.2.2.2.2.1
def dX10_demandContract_22 := bX10_demandContract_0.2.2.2.2.2.2.2.2.2.2.2.2.2.2.1
def dX10_demandContract_23 := bX10_demandContract_0.2.2.2.2.2.2.2.2.2.2.2.2.2.2.2.1
theorem bX10_demandContract_24 : fac cX10_demandContract [(24, .new 263, 3), (27, .dup, 1), (28, .ldc_w 265, 3), (31, .invokespecial 267, 3), (34, .athrow, 1), (35, .return_, 1)] := fac_all 24 _ (by decide +kernel)
def dX10_demandContract_24 := bX10_demandContract_24.1
def dX10_demandContract_27 := bX10_demandContract_24.2.1
def dX10_demandContract_28 := bX10_demandContract_24.2.2.1
def dX10_demandContract_31 := bX10_demandContract_24.2.2.2.1
def dX10_demandContract_34 := bX10_demandContract_24.2.2.2.2.1
def dX10_demandContract_35 := bX10_demandContract_24.2.2.2.2.2.1
theorem ggX10_demandContractOrNone_X10_demandContract : GoodIn wsX10_demandContractOrNone wsX10_demandContract := gW_in gwX10_demandContract (fun _ h => List.mem_cons_of_mem _ (List.mem_append_right _ (List.mem_append_right _ (h))))
set_option maxRecDepth 20000 in
theorem gX10_demandContractOrNone_X10_demandContract : GoodIn wsX10_demandContractOrNone (wsV RX10 126 RX10 yX10_demandContract wsX10_demandContract) := goodIn_app (goodIn_of _ (by decide +kernel)) ggX10_demandContractOrNone_X10_demandContract
theorem bX10_demandContractOrNone_0 : fac cX10_demandContractOrNone [(0, .iload_n 1, 1), (1, .iconst (-1), 1), (2, .if_icmp .eq 8, 3), (5, .aload_n 0, 1), (6, .iload_n 1, 1), (7, .invokevirtual 126, 3), (10, .return_, 1)] := fac_all 0 _ (by decide +kernel)
def dX10_demandContractOrNone_0 := bX10_demandContractOrNone_0.1
def dX10_demandContractOrNone_1 := bX10_demandContractOrNone_0.2.1
def dX10_demandContractOrNone_2 := bX10_demandContractOrNone_0.2.2.1
def dX10_demandContractOrNone_5 := bX10_demandContractOrNone_0.2.2.2.1
def dX10_demandContractOrNone_6 := bX10_demandContractOrNone_0.2.2.2.2.1
def dX10_demandContractOrNone_7 := bX10_demandContractOrNone_0.2.2.2.2.2.1
def dX10_demandContractOrNone_10 := bX10_demandContractOrNone_0.2.2.2.2.2.2.1
theorem ggX10_inForce_X10_within : GoodIn wsX10_inForce wsX10_within := gW_in gwX10_within (fun _ h => List.mem_cons_of_mem _ (List.mem_append_right _ (List.mem_append_right _ (List.mem_append_right _ (h)))))
set_option maxRecDepth 20000 in
theorem gX10_inForce_X10_within : GoodIn wsX10_inForce (va_wsS RX10 107 yX10_within wsX10_within) := goodIn_app (goodIn_of _ (by decide +kernel)) ggX10_inForce_X10_within
theorem bX10_inForce_0 : fac cX10_inForce [(0, .aload_n 1, 1), (1, .getfield 111, 3), (4, .bipush 10, 2), (6, .iaload, 1), (7, .istore_n 2, 1), (8, .iload_n 2, 1), (9, .iconst 0, 1), (10, .bipush 6, 2), (12, .invokestatic 107, 3), (15, .ifCond .eq 12, 3), (18, .aload_n 0, 1), (19, .getfield 32, 3), (22, .iload_n 2, 1), (23, .aaload, 1), (24, .goto 4, 3), (27, .aconst_null, 1)] := fac_all 0 _ (by decide +kernel)
def dX10_inForce_0 := bX10_inForce_0.1
def dX10_inForce_1 := bX10_inForce_0.2.1
def dX10_inForce_4 := bX10_inForce_0.2.2.1
def dX10_inForce_6 := bX10_inForce_0.2.2.2.1
def dX10_inForce_7 := bX10_inForce_0.2.2.2.2.1
def dX10_inForce_8 := bX10_inForce_0.2.2.2.2.2.1
def dX10_inForce_9 := bX10_inForce_0.2.2.2.2.2.2.1
def dX10_inForce_10 := bX10_inForce_0.2.2.2.2.2.2.2.1
def dX10_inForce_12 := bX10_inForce_0.2.2.2.2.2.2.2.2.1
def dX10_inForce_15 := bX10_inForce_0.2.2.2.2.2.2.2.2.2.1
def dX10_inForce_18 := bX10_inForce_0.2.2.2.2.2.2.2.2.2.2.1
def dX10_inForce_19 := bX10_inForce_0.2.2.2.2.2.2.2.2.2.2.2.1
def dX10_inForce_22 := bX10_inForce_0.2.2.2.2.2.2.2.2.2.2.2.2.1
def dX10_inForce_23 := bX10_inForce_0.2.2.2.2.2.2.2.2.2.2.2.2.2.1
def dX10_inForce_24 := bX10_inForce_0.2.2.2.2.2.2.2.2.2.2.2.2.2.2.1
def dX10_inForce_27 := bX10_inForce_0.2.2.2.2.2.2.2.2.2.2.2.2.2.2.2.1
theorem dX10_inForce_28 : decode cX10_inForce 28 = .ok (.areturn, 1) := by decide +kernel
theorem ggX10_passTried_X10_inForce : GoodIn wsX10_passTried wsX10_inForce := gW_in gwX10_inForce (fun _ h => List.mem_cons_of_mem _ (List.mem_append_right _ (List.mem_append_right _ (List.mem_append_right _ (List.mem_append_right _ (List.mem_append_right _ (List.mem_append_left _ h)))))))
set_option maxRecDepth 20000 in
theorem gX10_passTried_X10_inForce : GoodIn wsX10_passTried (wsV RX10 153 RX10 yX10_inForce wsX10_inForce) := goodIn_app (goodIn_of _ (by decide +kernel)) ggX10_passTried_X10_inForce
theorem ggX10_passTried_X4_pass : GoodIn wsX10_passTried wsX4_pass := gW_in gwX4_pass (fun _ h => List.mem_cons_of_mem _ (List.mem_append_right _ (List.mem_append_right _ (List.mem_append_right _ (List.mem_append_right _ (List.mem_append_right _ (List.mem_append_right _ (h))))))))
set_option maxRecDepth 20000 in
theorem gX10_passTried_X4_pass : GoodIn wsX10_passTried (wsV RX10 157 RX4 yX4_pass wsX4_pass) := goodIn_app (goodIn_of _ (by decide +kernel)) ggX10_passTried_X4_pass
theorem bX10_passTried_0 : fac cX10_passTried [(0, .iconst 0, 1), (1, .istore_n 2, 1), (2, .iload_n 2, 1), (3, .iload_n 1, 1), (4, .if_icmp .ge 40, 3), (7, .aload_n 0, 1), (8, .getfield 50, 3), (11, .getfield 114, 3), (14, .bipush 120, 2), (16, .if_icmp .ge 28, 3), (19, .aload_n 0, 1), (20, .getfield 50, 3), (23, .aload_n 0, 1), (24, .getfield 23, 3), (27, .aload_n 0, 1), (28, .aload_n 0, 1)] := fac_all 0 _ (by decide +kernel)
def dX10_passTried_0 := bX10_passTried_0.1
def dX10_passTried_1 := bX10_passTried_0.2.1
def dX10_passTried_2 := bX10_passTried_0.2.2.1
def dX10_passTried_3 := bX10_passTried_0.2.2.2.1
def dX10_passTried_4 := bX10_passTried_0.2.2.2.2.1
def dX10_passTried_7 := bX10_passTried_0.2.2.2.2.2.1
def dX10_passTried_8 := bX10_passTried_0.2.2.2.2.2.2.1
def dX10_passTried_11 := bX10_passTried_0.2.2.2.2.2.2.2.1
def dX10_passTried_14 := bX10_passTried_0.2.2.2.2.2.2.2.2.1
def dX10_passTried_16 := bX10_passTried_0.2.2.2.2.2.2.2.2.2.1
def dX10_passTried_19 := bX10_passTried_0.2.2.2.2.2.2.2.2.2.2.1
def dX10_passTried_20 := bX10_passTried_0.2.2.2.2.2.2.2.2.2.2.2.1
def dX10_passTried_23 := bX10_passTried_0.2.2.2.2.2.2.2.2.2.2.2.2.1
def dX10_passTried_24 := bX10_passTried_0.2.2.2.2.2.2.2.2.2.2.2.2.2.1
def dX10_passTried_27 := bX10_passTried_0.2.2.2.2.2.2.2.2.2.2.2.2.2.2.1
def dX10_passTried_28 := bX10_passTried_0.2.2.2.2.2.2.2.2.2.2.2.2.2.2.2.1
theorem bX10_passTried_29 : fac cX10_passTried [(29, .getfield 50, 3), (32, .invokevirtual 153, 3), (35, .invokevirtual 157, 3), (38, .iinc 2 1, 3), (41, .goto (-39), 3), (44, .return_, 1)] := fac_all 29 _ (by decide +kernel)
def dX10_passTried_29 := bX10_passTried_29.1
def dX10_passTried_32 := bX10_passTried_29.2.1
def dX10_passTried_35 := bX10_passTried_29.2.2.1
def dX10_passTried_38 := bX10_passTried_29.2.2.2.1
def dX10_passTried_41 := bX10_passTried_29.2.2.2.2.1
def dX10_passTried_44 := bX10_passTried_29.2.2.2.2.2.1
theorem ggX10_trySigned_X4_take : GoodIn wsX10_trySigned wsX4_take := gW_in gwX4_take (fun _ h => List.mem_cons_of_mem _ (List.mem_append_right _ (List.mem_append_right _ (List.mem_append_right _ (List.mem_append_right _ (List.mem_append_right _ (List.mem_append_right _ (List.mem_append_left _ h))))))))
set_option maxRecDepth 20000 in
theorem gX10_trySigned_X4_take : GoodIn wsX10_trySigned (wsV RX10 183 RX4 yX4_take wsX4_take) := goodIn_app (goodIn_of _ (by decide +kernel)) ggX10_trySigned_X4_take
theorem ggX10_trySigned_X4_pledge : GoodIn wsX10_trySigned wsX4_pledge := gW_in gwX4_pledge (fun _ h => List.mem_cons_of_mem _ (List.mem_append_right _ (List.mem_append_right _ (List.mem_append_right _ (List.mem_append_right _ (List.mem_append_right _ (List.mem_append_right _ (List.mem_append_right _ (List.mem_append_left _ h)))))))))
set_option maxRecDepth 20000 in
theorem gX10_trySigned_X4_pledge : GoodIn wsX10_trySigned (wsV RX10 140 RX4 yX4_pledge wsX4_pledge) := goodIn_app (goodIn_of _ (by decide +kernel)) ggX10_trySigned_X4_pledge
theorem ggX10_trySigned_X10_passTried : GoodIn wsX10_trySigned wsX10_passTried := gW_in gwX10_passTried (fun _ h => List.mem_cons_of_mem _ (List.mem_append_right _ (List.mem_append_right _ (List.mem_append_right _ (List.mem_append_right _ (List.mem_append_right _ (List.mem_append_right _ (List.mem_append_right _ (List.mem_append_right _ (h))))))))))
set_option maxRecDepth 20000 in
theorem gX10_trySigned_X10_passTried : GoodIn wsX10_trySigned (wsV RX10 186 RX10 yX10_passTried wsX10_passTried) := goodIn_app (goodIn_of _ (by decide +kernel)) ggX10_trySigned_X10_passTried
theorem bX10_trySigned_0 : fac cX10_trySigned [(0, .aload_n 0, 1), (1, .getfield 50, 3), (4, .aload_n 0, 1), (5, .getfield 39, 3), (8, .getfield 66, 3), (11, .invokevirtual 183, 3), (14, .aload_n 0, 1), (15, .getfield 50, 3), (18, .iload_n 1, 1), (19, .invokevirtual 140, 3), (22, .aload_n 0, 1), (23, .iload_n 2, 1), (24, .invokevirtual 186, 3), (27, .aload_n 0, 1), (28, .getfield 50, 3), (31, .getfield 111, 3)] := fac_all 0 _ (by decide +kernel)
def dX10_trySigned_0 := bX10_trySigned_0.1
def dX10_trySigned_1 := bX10_trySigned_0.2.1
def dX10_trySigned_4 := bX10_trySigned_0.2.2.1
def dX10_trySigned_5 := bX10_trySigned_0.2.2.2.1
def dX10_trySigned_8 := bX10_trySigned_0.2.2.2.2.1
def dX10_trySigned_11 := bX10_trySigned_0.2.2.2.2.2.1
def dX10_trySigned_14 := bX10_trySigned_0.2.2.2.2.2.2.1
def dX10_trySigned_15 := bX10_trySigned_0.2.2.2.2.2.2.2.1
def dX10_trySigned_18 := bX10_trySigned_0.2.2.2.2.2.2.2.2.1
def dX10_trySigned_19 := bX10_trySigned_0.2.2.2.2.2.2.2.2.2.1
def dX10_trySigned_22 := bX10_trySigned_0.2.2.2.2.2.2.2.2.2.2.1
def dX10_trySigned_23 := bX10_trySigned_0.2.2.2.2.2.2.2.2.2.2.2.1
def dX10_trySigned_24 := bX10_trySigned_0.2.2.2.2.2.2.2.2.2.2.2.2.1
def dX10_trySigned_27 := bX10_trySigned_0.2.2.2.2.2.2.2.2.2.2.2.2.2.1
def dX10_trySigned_28 := bX10_trySigned_0.2.2.2.2.2.2.2.2.2.2.2.2.2.2.1
def dX10_trySigned_31 := bX10_trySigned_0.2.2.2.2.2.2.2.2.2.2.2.2.2.2.2.1
theorem bX10_trySigned_34 : fac cX10_trySigned [(34, .iconst 0, 1), (35, .iaload, 1), (36, .ireturn, 1)] := fac_all 34 _ (by decide +kernel)
def dX10_trySigned_34 := bX10_trySigned_34.1
def dX10_trySigned_35 := bX10_trySigned_34.2.1
def dX10_trySigned_36 := bX10_trySigned_34.2.2.1
theorem ggJ0_length_8abf5_J0_coder_7d493 : GoodIn wsJ0_length_8abf5 wsJ0_coder_7d493 := gW_in gwJ0_coder_7d493 (fun _ h => List.mem_cons_of_mem _ (List.mem_append_right _ (h)))
set_option maxRecDepth 20000 in
theorem gJ0_length_8abf5_J0_coder_7d493 : GoodIn wsJ0_length_8abf5 (wsV RJ0 335 RJ0 yJ0_coder_7d493 wsJ0_coder_7d493) := goodIn_app (goodIn_of _ (by decide +kernel)) ggJ0_length_8abf5_J0_coder_7d493
theorem bJ0_length_8abf5_0 : fac cJ0_length_8abf5 [(0, .aload_n 0, 1), (1, .getfield 9, 3), (4, .arraylength, 1), (5, .aload_n 0, 1), (6, .invokevirtual 335, 3), (9, .ishr, 1), (10, .ireturn, 1)] := fac_all 0 _ (by decide +kernel)
def dJ0_length_8abf5_0 := bJ0_length_8abf5_0.1
def dJ0_length_8abf5_1 := bJ0_length_8abf5_0.2.1
def dJ0_length_8abf5_4 := bJ0_length_8abf5_0.2.2.1
def dJ0_length_8abf5_5 := bJ0_length_8abf5_0.2.2.2.1
def dJ0_length_8abf5_6 := bJ0_length_8abf5_0.2.2.2.2.1
def dJ0_length_8abf5_9 := bJ0_length_8abf5_0.2.2.2.2.2.1
def dJ0_length_8abf5_10 := bJ0_length_8abf5_0.2.2.2.2.2.2.1
theorem ggJ0_charAt_5068e_J0_isLatin1_aae02 : GoodIn wsJ0_charAt_5068e wsJ0_isLatin1_aae02 := gW_in gwJ0_isLatin1_aae02 (fun _ h => List.mem_cons_of_mem _ (List.mem_append_right _ (List.mem_append_left _ h)))
set_option maxRecDepth 20000 in
theorem gJ0_charAt_5068e_J0_isLatin1_aae02 : GoodIn wsJ0_charAt_5068e (wsV RJ0 492 RJ0 yJ0_isLatin1_aae02 wsJ0_isLatin1_aae02) := goodIn_app (goodIn_of _ (by decide +kernel)) ggJ0_charAt_5068e_J0_isLatin1_aae02
theorem ggJ0_charAt_5068e_J1_charAt_3b067 : GoodIn wsJ0_charAt_5068e wsJ1_charAt_3b067 := gW_in gwJ1_charAt_3b067 (fun _ h => List.mem_cons_of_mem _ (List.mem_append_right _ (List.mem_append_right _ (List.mem_append_left _ h))))
set_option maxRecDepth 20000 in
theorem gJ0_charAt_5068e_J1_charAt_3b067 : GoodIn wsJ0_charAt_5068e (va_wsS RJ0 495 yJ1_charAt_3b067 wsJ1_charAt_3b067) := goodIn_app (goodIn_of _ (by decide +kernel)) ggJ0_charAt_5068e_J1_charAt_3b067
theorem bJ0_charAt_5068e_0 : fac cJ0_charAt_5068e [(0, .aload_n 0, 1), (1, .invokevirtual 492, 3), (4, .ifCond .eq 12, 3), (7, .aload_n 0, 1), (8, .getfield 9, 3), (11, .iload_n 1, 1), (12, .invokestatic 495, 3), (15, .ireturn, 1), (16, .aload_n 0, 1), (17, .getfield 9, 3), (20, .iload_n 1, 1), (21, .invokestatic 498, 3), (24, .ireturn, 1)] := fac_all 0 _ (by decide +kernel)
def dJ0_charAt_5068e_0 := bJ0_charAt_5068e_0.1
def dJ0_charAt_5068e_1 := bJ0_charAt_5068e_0.2.1
def dJ0_charAt_5068e_4 := bJ0_charAt_5068e_0.2.2.1
def dJ0_charAt_5068e_7 := bJ0_charAt_5068e_0.2.2.2.1
def dJ0_charAt_5068e_8 := bJ0_charAt_5068e_0.2.2.2.2.1
def dJ0_charAt_5068e_11 := bJ0_charAt_5068e_0.2.2.2.2.2.1
def dJ0_charAt_5068e_12 := bJ0_charAt_5068e_0.2.2.2.2.2.2.1
def dJ0_charAt_5068e_15 := bJ0_charAt_5068e_0.2.2.2.2.2.2.2.1
theorem bJ0_coder_7d493_0 : fac cJ0_coder_7d493 [(0, .getstatic 38, 3), (3, .ifCond .eq 10, 3), (6, .aload_n 0, 1), (7, .getfield 15, 3), (10, .goto 4, 3), (13, .iconst 1, 1), (14, .ireturn, 1)] := fac_all 0 _ (by decide +kernel)
def dJ0_coder_7d493_0 := bJ0_coder_7d493_0.1
def dJ0_coder_7d493_3 := bJ0_coder_7d493_0.2.1
def dJ0_coder_7d493_6 := bJ0_coder_7d493_0.2.2.1
def dJ0_coder_7d493_7 := bJ0_coder_7d493_0.2.2.2.1
def dJ0_coder_7d493_10 := bJ0_coder_7d493_0.2.2.2.2.1
def dJ0_coder_7d493_14 := bJ0_coder_7d493_0.2.2.2.2.2.2.1
theorem bJ0_isLatin1_aae02_0 : fac cJ0_isLatin1_aae02 [(0, .getstatic 38, 3), (3, .ifCond .eq 14, 3), (6, .aload_n 0, 1), (7, .getfield 15, 3), (10, .ifCond .ne 7, 3), (13, .iconst 1, 1), (14, .goto 4, 3), (17, .iconst 0, 1), (18, .ireturn, 1)] := fac_all 0 _ (by decide +kernel)
def dJ0_isLatin1_aae02_0 := bJ0_isLatin1_aae02_0.1
def dJ0_isLatin1_aae02_3 := bJ0_isLatin1_aae02_0.2.1
def dJ0_isLatin1_aae02_6 := bJ0_isLatin1_aae02_0.2.2.1
def dJ0_isLatin1_aae02_7 := bJ0_isLatin1_aae02_0.2.2.2.1
def dJ0_isLatin1_aae02_10 := bJ0_isLatin1_aae02_0.2.2.2.2.1
def dJ0_isLatin1_aae02_13 := bJ0_isLatin1_aae02_0.2.2.2.2.2.1
def dJ0_isLatin1_aae02_14 := bJ0_isLatin1_aae02_0.2.2.2.2.2.2.1
def dJ0_isLatin1_aae02_18 := bJ0_isLatin1_aae02_0.2.2.2.2.2.2.2.2.1
theorem ggJ0_checkIndex_df160_J3_checkIndex_8e157 : GoodIn wsJ0_checkIndex_df160 wsJ3_checkIndex_8e157 := gW_in gwJ3_checkIndex_8e157 (fun _ h => List.mem_cons_of_mem _ (List.mem_append_right _ (h)))
set_option maxRecDepth 20000 in
theorem gJ0_checkIndex_df160_J3_checkIndex_8e157 : GoodIn wsJ0_checkIndex_df160 (va_wsS RJ0 1059 yJ3_checkIndex_8e157 wsJ3_checkIndex_8e157) := goodIn_app (goodIn_of _ (by decide +kernel)) ggJ0_checkIndex_df160_J3_checkIndex_8e157
theorem bJ0_checkIndex_df160_0 : fac cJ0_checkIndex_df160 [(0, .iload_n 0, 1), (1, .iload_n 1, 1), (2, .getstatic 1053, 3), (5, .invokestatic 1059, 3), (8, .pop, 1), (9, .return_, 1)] := fac_all 0 _ (by decide +kernel)
def dJ0_checkIndex_df160_0 := bJ0_checkIndex_df160_0.1
def dJ0_checkIndex_df160_1 := bJ0_checkIndex_df160_0.2.1
def dJ0_checkIndex_df160_2 := bJ0_checkIndex_df160_0.2.2.1
def dJ0_checkIndex_df160_5 := bJ0_checkIndex_df160_0.2.2.2.1
def dJ0_checkIndex_df160_8 := bJ0_checkIndex_df160_0.2.2.2.2.1
def dJ0_checkIndex_df160_9 := bJ0_checkIndex_df160_0.2.2.2.2.2.1
theorem ggJ1_charAt_3b067_J0_checkIndex_df160 : GoodIn wsJ1_charAt_3b067 wsJ0_checkIndex_df160 := gW_in gwJ0_checkIndex_df160 (fun _ h => List.mem_cons_of_mem _ (List.mem_append_right _ (h)))
set_option maxRecDepth 20000 in
theorem gJ1_charAt_3b067_J0_checkIndex_df160 : GoodIn wsJ1_charAt_3b067 (va_wsS RJ1 9 yJ0_checkIndex_df160 wsJ0_checkIndex_df160) := goodIn_app (goodIn_of _ (by decide +kernel)) ggJ1_charAt_3b067_J0_checkIndex_df160
theorem bJ1_charAt_3b067_0 : fac cJ1_charAt_3b067 [(0, .iload_n 1, 1), (1, .aload_n 0, 1), (2, .arraylength, 1), (3, .invokestatic 9, 3), (6, .aload_n 0, 1), (7, .iload_n 1, 1), (8, .baload, 1), (9, .sipush 255, 3), (12, .iand, 1), (13, .i2c, 1), (14, .ireturn, 1)] := fac_all 0 _ (by decide +kernel)
def dJ1_charAt_3b067_0 := bJ1_charAt_3b067_0.1
def dJ1_charAt_3b067_1 := bJ1_charAt_3b067_0.2.1
def dJ1_charAt_3b067_2 := bJ1_charAt_3b067_0.2.2.1
def dJ1_charAt_3b067_3 := bJ1_charAt_3b067_0.2.2.2.1
def dJ1_charAt_3b067_6 := bJ1_charAt_3b067_0.2.2.2.2.1
def dJ1_charAt_3b067_7 := bJ1_charAt_3b067_0.2.2.2.2.2.1
def dJ1_charAt_3b067_8 := bJ1_charAt_3b067_0.2.2.2.2.2.2.1
def dJ1_charAt_3b067_9 := bJ1_charAt_3b067_0.2.2.2.2.2.2.2.1
def dJ1_charAt_3b067_12 := bJ1_charAt_3b067_0.2.2.2.2.2.2.2.2.1
def dJ1_charAt_3b067_13 := bJ1_charAt_3b067_0.2.2.2.2.2.2.2.2.2.1
def dJ1_charAt_3b067_14 := bJ1_charAt_3b067_0.2.2.2.2.2.2.2.2.2.2.1
theorem bJ7_fill_53178_0 : fac cJ7_fill_53178 [(0, .iconst 0, 1), (1, .istore_n 2, 1), (2, .aload_n 0, 1), (3, .arraylength, 1), (4, .istore_n 3, 1), (5, .iload_n 2, 1), (6, .iload_n 3, 1), (7, .if_icmp .ge 13, 3), (10, .aload_n 0, 1), (11, .iload_n 2, 1), (12, .iload_n 1, 1), (13, .iastore, 1), (14, .iinc 2 1, 3), (17, .goto (-12), 3), (20, .return_, 1)] := fac_all 0 _ (by decide +kernel)
def dJ7_fill_53178_0 := bJ7_fill_53178_0.1
def dJ7_fill_53178_1 := bJ7_fill_53178_0.2.1
def dJ7_fill_53178_2 := bJ7_fill_53178_0.2.2.1
def dJ7_fill_53178_3 := bJ7_fill_53178_0.2.2.2.1
def dJ7_fill_53178_4 := bJ7_fill_53178_0.2.2.2.2.1
def dJ7_fill_53178_5 := bJ7_fill_53178_0.2.2.2.2.2.1
def dJ7_fill_53178_6 := bJ7_fill_53178_0.2.2.2.2.2.2.1
def dJ7_fill_53178_7 := bJ7_fill_53178_0.2.2.2.2.2.2.2.1
def dJ7_fill_53178_10 := bJ7_fill_53178_0.2.2.2.2.2.2.2.2.1
def dJ7_fill_53178_11 := bJ7_fill_53178_0.2.2.2.2.2.2.2.2.2.1
def dJ7_fill_53178_12 := bJ7_fill_53178_0.2.2.2.2.2.2.2.2.2.2.1
def dJ7_fill_53178_13 := bJ7_fill_53178_0.2.2.2.2.2.2.2.2.2.2.2.1
def dJ7_fill_53178_14 := bJ7_fill_53178_0.2.2.2.2.2.2.2.2.2.2.2.2.1
def dJ7_fill_53178_17 := bJ7_fill_53178_0.2.2.2.2.2.2.2.2.2.2.2.2.2.1
def dJ7_fill_53178_20 := bJ7_fill_53178_0.2.2.2.2.2.2.2.2.2.2.2.2.2.2.1
theorem bJ3_checkIndex_8e157_0 : fac cJ3_checkIndex_8e157 [(0, .iload_n 0, 1), (1, .ifCond .lt 8, 3), (4, .iload_n 0, 1), (5, .iload_n 1, 1), (6, .if_icmp .lt 10, 3), (9, .aload_n 2, 1), (10, .iload_n 0, 1), (11, .iload_n 1, 1), (12, .invokestatic 95, 3), (15, .athrow, 1), (16, .iload_n 0, 1), (17, .ireturn, 1)] := fac_all 0 _ (by decide +kernel)
def dJ3_checkIndex_8e157_0 := bJ3_checkIndex_8e157_0.1
def dJ3_checkIndex_8e157_1 := bJ3_checkIndex_8e157_0.2.1
def dJ3_checkIndex_8e157_4 := bJ3_checkIndex_8e157_0.2.2.1
def dJ3_checkIndex_8e157_5 := bJ3_checkIndex_8e157_0.2.2.2.1
def dJ3_checkIndex_8e157_6 := bJ3_checkIndex_8e157_0.2.2.2.2.1
def dJ3_checkIndex_8e157_16 := bJ3_checkIndex_8e157_0.2.2.2.2.2.2.2.2.2.2.1
def dJ3_checkIndex_8e157_17 := bJ3_checkIndex_8e157_0.2.2.2.2.2.2.2.2.2.2.2.1
abbrev vwCl : List vw_C := [(RX0, TX0, 1), (RX1, TX1, 5), (RX2, TX2, 7), (RX3, TX3, 2), (RX4, TX4, 3), (RX5, TX5, 3), (RX6, TX6, 5), (RX7, TX7, 6), (RX8, TX8, 4), (RX10, TX10, 13), (RX11, TX11, 35)]
/-! ===== END printed: names ===== -/


end
section
theorem ggX11_init_X11_tellsNothing : GoodIn wsX11_init wsX11_tellsNothing := gW_in gwX11_tellsNothing (fun _ h => List.mem_cons_of_mem _ (List.mem_append_right _ (List.mem_append_right _ (List.mem_append_left _ h))))
set_option maxRecDepth 20000 in
theorem gX11_init_X11_tellsNothing : GoodIn wsX11_init (wsV RX11 79 RX11 yX11_tellsNothing wsX11_tellsNothing) := goodIn_app (goodIn_of _ (by decide +kernel)) ggX11_init_X11_tellsNothing
theorem ggX11_init_X11_stands0 : GoodIn wsX11_init wsX11_stands0 := gW_in gwX11_stands0 (fun _ h => List.mem_cons_of_mem _ (List.mem_append_right _ (List.mem_append_right _ (List.mem_append_right _ (h)))))
set_option maxRecDepth 20000 in
theorem gX11_init_X11_stands0 : GoodIn wsX11_init (wsV RX11 82 RX11 yX11_stands0 wsX11_stands0) := goodIn_app (goodIn_of _ (by decide +kernel)) ggX11_init_X11_stands0
theorem bX11_init_0 : fac cX11_init [(0, .aload_n 0, 1), (1, .invokespecial 1, 3), (4, .aload_n 0, 1), (5, .iconst (-1), 1), (6, .putfield 9, 3), (9, .aload_n 0, 1), (10, .sipush 500, 3), (13, .newarray .int, 2), (15, .putfield 13, 3), (18, .aload_n 0, 1), (19, .iconst 3, 1), (20, .newarray .int, 2), (22, .putfield 17, 3), (25, .aload_n 0, 1), (26, .bipush 25, 2), (28, .newarray .int, 2)] := fac_all 0 _ (by decide +kernel)
def dX11_init_0 := bX11_init_0.1
def dX11_init_1 := bX11_init_0.2.1
def dX11_init_4 := bX11_init_0.2.2.1
def dX11_init_5 := bX11_init_0.2.2.2.1
def dX11_init_6 := bX11_init_0.2.2.2.2.1
def dX11_init_9 := bX11_init_0.2.2.2.2.2.1
def dX11_init_10 := bX11_init_0.2.2.2.2.2.2.1
def dX11_init_13 := bX11_init_0.2.2.2.2.2.2.2.1
def dX11_init_15 := bX11_init_0.2.2.2.2.2.2.2.2.1
def dX11_init_18 := bX11_init_0.2.2.2.2.2.2.2.2.2.1
def dX11_init_19 := bX11_init_0.2.2.2.2.2.2.2.2.2.2.1
def dX11_init_20 := bX11_init_0.2.2.2.2.2.2.2.2.2.2.2.1
def dX11_init_22 := bX11_init_0.2.2.2.2.2.2.2.2.2.2.2.2.1
def dX11_init_25 := bX11_init_0.2.2.2.2.2.2.2.2.2.2.2.2.2.1
def dX11_init_26 := bX11_init_0.2.2.2.2.2.2.2.2.2.2.2.2.2.2.1
def dX11_init_28 := bX11_init_0.2.2.2.2.2.2.2.2.2.2.2.2.2.2.2.1
theorem bX11_init_30 : fac cX11_init [(30, .putfield 20, 3), (33, .aload_n 0, 1), (34, .bipush 25, 2), (36, .newarray .int, 2), (38, .putfield 23, 3), (41, .aload_n 0, 1), (42, .bipush 6, 2), (44, .iconst 2, 1), (45, .multianewarray 26 2, 4), (49, .putfield 28, 3), (52, .aload_n 0, 1), (53, .bipush 6, 2), (55, .iconst 2, 1), (56, .multianewarray 26 2, 4), (60, .putfield 31, 3), (63, .aload_n 0, 1)] := fac_all 30 _ (by decide +kernel)
def dX11_init_30 := bX11_init_30.1
def dX11_init_33 := bX11_init_30.2.1
def dX11_init_34 := bX11_init_30.2.2.1
def dX11_init_36 := bX11_init_30.2.2.2.1
def dX11_init_38 := bX11_init_30.2.2.2.2.1
def dX11_init_41 := bX11_init_30.2.2.2.2.2.1
def dX11_init_42 := bX11_init_30.2.2.2.2.2.2.1
def dX11_init_44 := bX11_init_30.2.2.2.2.2.2.2.1
def dX11_init_45 := bX11_init_30.2.2.2.2.2.2.2.2.1
def dX11_init_49 := bX11_init_30.2.2.2.2.2.2.2.2.2.1
def dX11_init_52 := bX11_init_30.2.2.2.2.2.2.2.2.2.2.1
def dX11_init_53 := bX11_init_30.2.2.2.2.2.2.2.2.2.2.2.1
def dX11_init_55 := bX11_init_30.2.2.2.2.2.2.2.2.2.2.2.2.1
def dX11_init_56 := bX11_init_30.2.2.2.2.2.2.2.2.2.2.2.2.2.1
def dX11_init_60 := bX11_init_30.2.2.2.2.2.2.2.2.2.2.2.2.2.2.1
def dX11_init_63 := bX11_init_30.2.2.2.2.2.2.2.2.2.2.2.2.2.2.2.1
theorem bX11_init_64 : fac cX11_init [(64, .bipush 7, 2), (66, .newarray .int, 2), (68, .putfield 34, 3), (71, .aload_n 0, 1), (72, .bipush 36, 2), (74, .newarray .int, 2), (76, .putfield 37, 3), (79, .aload_n 0, 1), (80, .bipush 7, 2), (82, .bipush 7, 2), (84, .multianewarray 26 2, 4), (88, .putfield 40, 3), (91, .aload_n 0, 1), (92, .bipush 7, 2), (94, .bipush 36, 2), (96, .multianewarray 26 2, 4)] := fac_all 64 _ (by decide +kernel)
def dX11_init_64 := bX11_init_64.1
def dX11_init_66 := bX11_init_64.2.1
def dX11_init_68 := bX11_init_64.2.2.1
def dX11_init_71 := bX11_init_64.2.2.2.1
def dX11_init_72 := bX11_init_64.2.2.2.2.1
def dX11_init_74 := bX11_init_64.2.2.2.2.2.1
def dX11_init_76 := bX11_init_64.2.2.2.2.2.2.1
def dX11_init_79 := bX11_init_64.2.2.2.2.2.2.2.1
def dX11_init_80 := bX11_init_64.2.2.2.2.2.2.2.2.1
def dX11_init_82 := bX11_init_64.2.2.2.2.2.2.2.2.2.1
def dX11_init_84 := bX11_init_64.2.2.2.2.2.2.2.2.2.2.1
def dX11_init_88 := bX11_init_64.2.2.2.2.2.2.2.2.2.2.2.1
def dX11_init_91 := bX11_init_64.2.2.2.2.2.2.2.2.2.2.2.2.1
def dX11_init_92 := bX11_init_64.2.2.2.2.2.2.2.2.2.2.2.2.2.1
def dX11_init_94 := bX11_init_64.2.2.2.2.2.2.2.2.2.2.2.2.2.2.1
def dX11_init_96 := bX11_init_64.2.2.2.2.2.2.2.2.2.2.2.2.2.2.2.1
theorem bX11_init_100 : fac cX11_init [(100, .putfield 43, 3), (103, .aload_n 0, 1), (104, .bipush 25, 2), (106, .newarray .int, 2), (108, .putfield 46, 3), (111, .aload_n 0, 1), (112, .bipush 25, 2), (114, .newarray .int, 2), (116, .putfield 49, 3), (119, .aload_n 0, 1), (120, .bipush 121, 2), (122, .bipush 25, 2), (124, .multianewarray 26 2, 4), (128, .putfield 52, 3), (131, .aload_n 0, 1), (132, .bipush 120, 2)] := fac_all 100 _ (by decide +kernel)
def dX11_init_100 := bX11_init_100.1
def dX11_init_103 := bX11_init_100.2.1
def dX11_init_104 := bX11_init_100.2.2.1
def dX11_init_106 := bX11_init_100.2.2.2.1
def dX11_init_108 := bX11_init_100.2.2.2.2.1
def dX11_init_111 := bX11_init_100.2.2.2.2.2.1
def dX11_init_112 := bX11_init_100.2.2.2.2.2.2.1
def dX11_init_114 := bX11_init_100.2.2.2.2.2.2.2.1
def dX11_init_116 := bX11_init_100.2.2.2.2.2.2.2.2.1
def dX11_init_119 := bX11_init_100.2.2.2.2.2.2.2.2.2.1
def dX11_init_120 := bX11_init_100.2.2.2.2.2.2.2.2.2.2.1
def dX11_init_122 := bX11_init_100.2.2.2.2.2.2.2.2.2.2.2.1
def dX11_init_124 := bX11_init_100.2.2.2.2.2.2.2.2.2.2.2.2.1
def dX11_init_128 := bX11_init_100.2.2.2.2.2.2.2.2.2.2.2.2.2.1
def dX11_init_131 := bX11_init_100.2.2.2.2.2.2.2.2.2.2.2.2.2.2.1
def dX11_init_132 := bX11_init_100.2.2.2.2.2.2.2.2.2.2.2.2.2.2.2.1
theorem bX11_init_134 : fac cX11_init [(134, .bipush 6, 2), (136, .multianewarray 26 2, 4), (140, .putfield 55, 3), (143, .aload_n 0, 1), (144, .iconst 1, 1), (145, .putfield 58, 3), (148, .aload_n 0, 1), (149, .iconst 1, 1), (150, .putfield 61, 3), (153, .aload_n 0, 1), (154, .iconst 4, 1), (155, .iconst 2, 1), (156, .multianewarray 26 2, 4), (160, .putfield 64, 3), (163, .aload_n 0, 1), (164, .bipush 12, 2)] := fac_all 134 _ (by decide +kernel)
def dX11_init_134 := bX11_init_134.1
def dX11_init_136 := bX11_init_134.2.1
def dX11_init_140 := bX11_init_134.2.2.1
def dX11_init_143 := bX11_init_134.2.2.2.1
def dX11_init_144 := bX11_init_134.2.2.2.2.1
def dX11_init_145 := bX11_init_134.2.2.2.2.2.1
def dX11_init_148 := bX11_init_134.2.2.2.2.2.2.1
def dX11_init_149 := bX11_init_134.2.2.2.2.2.2.2.1
def dX11_init_150 := bX11_init_134.2.2.2.2.2.2.2.2.1
def dX11_init_153 := bX11_init_134.2.2.2.2.2.2.2.2.2.1
def dX11_init_154 := bX11_init_134.2.2.2.2.2.2.2.2.2.2.1
def dX11_init_155 := bX11_init_134.2.2.2.2.2.2.2.2.2.2.2.1
def dX11_init_156 := bX11_init_134.2.2.2.2.2.2.2.2.2.2.2.2.1
def dX11_init_160 := bX11_init_134.2.2.2.2.2.2.2.2.2.2.2.2.2.1
def dX11_init_163 := bX11_init_134.2.2.2.2.2.2.2.2.2.2.2.2.2.2.1
def dX11_init_164 := bX11_init_134.2.2.2.2.2.2.2.2.2.2.2.2.2.2.2.1
theorem bX11_init_166 : fac cX11_init [(166, .iconst 2, 1), (167, .multianewarray 26 2, 4), (171, .putfield 67, 3), (174, .aload_n 0, 1), (175, .iconst 2, 1), (176, .bipush 12, 2), (178, .multianewarray 26 2, 4), (182, .putfield 70, 3), (185, .aload_n 0, 1), (186, .iconst 3, 1), (187, .sipush 3850, 3), (190, .multianewarray 26 2, 4), (194, .putfield 73, 3), (197, .aload_n 0, 1), (198, .bipush 13, 2), (200, .iconst 3, 1)] := fac_all 166 _ (by decide +kernel)
def dX11_init_166 := bX11_init_166.1
def dX11_init_167 := bX11_init_166.2.1
def dX11_init_171 := bX11_init_166.2.2.1
def dX11_init_174 := bX11_init_166.2.2.2.1
def dX11_init_175 := bX11_init_166.2.2.2.2.1
def dX11_init_176 := bX11_init_166.2.2.2.2.2.1
def dX11_init_178 := bX11_init_166.2.2.2.2.2.2.1
def dX11_init_182 := bX11_init_166.2.2.2.2.2.2.2.1
def dX11_init_185 := bX11_init_166.2.2.2.2.2.2.2.2.1
def dX11_init_186 := bX11_init_166.2.2.2.2.2.2.2.2.2.1
def dX11_init_187 := bX11_init_166.2.2.2.2.2.2.2.2.2.2.1
def dX11_init_190 := bX11_init_166.2.2.2.2.2.2.2.2.2.2.2.1
def dX11_init_194 := bX11_init_166.2.2.2.2.2.2.2.2.2.2.2.2.1
def dX11_init_197 := bX11_init_166.2.2.2.2.2.2.2.2.2.2.2.2.2.1
def dX11_init_198 := bX11_init_166.2.2.2.2.2.2.2.2.2.2.2.2.2.2.1
def dX11_init_200 := bX11_init_166.2.2.2.2.2.2.2.2.2.2.2.2.2.2.2.1
theorem bX11_init_201 : fac cX11_init [(201, .multianewarray 26 2, 4), (205, .putfield 76, 3), (208, .aload_n 0, 1), (209, .invokevirtual 79, 3), (212, .aload_n 0, 1), (213, .invokevirtual 82, 3), (216, .return_, 1)] := fac_all 201 _ (by decide +kernel)
def dX11_init_201 := bX11_init_201.1
def dX11_init_205 := bX11_init_201.2.1
def dX11_init_208 := bX11_init_201.2.2.1
def dX11_init_209 := bX11_init_201.2.2.2.1
def dX11_init_212 := bX11_init_201.2.2.2.2.1
def dX11_init_213 := bX11_init_201.2.2.2.2.2.1
def dX11_init_216 := bX11_init_201.2.2.2.2.2.2.1
theorem bX11_tellsNothing_0 : fac cX11_tellsNothing [(0, .bipush 15, 2), (2, .newarray .int, 2), (4, .dup, 1), (5, .iconst 0, 1), (6, .iconst 0, 1), (7, .iastore, 1), (8, .dup, 1), (9, .iconst 1, 1), (10, .sipush 1000, 3), (13, .iastore, 1), (14, .dup, 1), (15, .iconst 2, 1), (16, .bipush 100, 2), (18, .iastore, 1), (19, .dup, 1), (20, .iconst 3, 1)] := fac_all 0 _ (by decide +kernel)
def dX11_tellsNothing_0 := bX11_tellsNothing_0.1
def dX11_tellsNothing_2 := bX11_tellsNothing_0.2.1
def dX11_tellsNothing_4 := bX11_tellsNothing_0.2.2.1
def dX11_tellsNothing_5 := bX11_tellsNothing_0.2.2.2.1
def dX11_tellsNothing_6 := bX11_tellsNothing_0.2.2.2.2.1
def dX11_tellsNothing_7 := bX11_tellsNothing_0.2.2.2.2.2.1
def dX11_tellsNothing_8 := bX11_tellsNothing_0.2.2.2.2.2.2.1
def dX11_tellsNothing_9 := bX11_tellsNothing_0.2.2.2.2.2.2.2.1
def dX11_tellsNothing_10 := bX11_tellsNothing_0.2.2.2.2.2.2.2.2.1
def dX11_tellsNothing_13 := bX11_tellsNothing_0.2.2.2.2.2.2.2.2.2.1
def dX11_tellsNothing_14 := bX11_tellsNothing_0.2.2.2.2.2.2.2.2.2.2.1
def dX11_tellsNothing_15 := bX11_tellsNothing_0.2.2.2.2.2.2.2.2.2.2.2.1
def dX11_tellsNothing_16 := bX11_tellsNothing_0.2.2.2.2.2.2.2.2.2.2.2.2.1
def dX11_tellsNothing_18 := bX11_tellsNothing_0.2.2.2.2.2.2.2.2.2.2.2.2.2.1
def dX11_tellsNothing_19 := bX11_tellsNothing_0.2.2.2.2.2.2.2.2.2.2.2.2.2.2.1
def dX11_tellsNothing_20 := bX11_tellsNothing_0.2.2.2.2.2.2.2.2.2.2.2.2.2.2.2.1
theorem bX11_tellsNothing_21 : fac cX11_tellsNothing [(21, .iconst 3, 1), (22, .iastore, 1), (23, .dup, 1), (24, .iconst 4, 1), (25, .iconst 0, 1), (26, .iastore, 1), (27, .dup, 1), (28, .iconst 5, 1), (29, .bipush 100, 2), (31, .iastore, 1), (32, .dup, 1), (33, .bipush 6, 2), (35, .iconst 5, 1), (36, .iastore, 1), (37, .dup, 1), (38, .bipush 7, 2)] := fac_all 21 _ (by decide +kernel)
def dX11_tellsNothing_21 := bX11_tellsNothing_21.1
def dX11_tellsNothing_22 := bX11_tellsNothing_21.2.1
def dX11_tellsNothing_23 := bX11_tellsNothing_21.2.2.1
def dX11_tellsNothing_24 := bX11_tellsNothing_21.2.2.2.1
def dX11_tellsNothing_25 := bX11_tellsNothing_21.2.2.2.2.1
def dX11_tellsNothing_26 := bX11_tellsNothing_21.2.2.2.2.2.1
def dX11_tellsNothing_27 := bX11_tellsNothing_21.2.2.2.2.2.2.1
def dX11_tellsNothing_28 := bX11_tellsNothing_21.2.2.2.2.2.2.2.1
def dX11_tellsNothing_29 := bX11_tellsNothing_21.2.2.2.2.2.2.2.2.1
def dX11_tellsNothing_31 := bX11_tellsNothing_21.2.2.2.2.2.2.2.2.2.1
def dX11_tellsNothing_32 := bX11_tellsNothing_21.2.2.2.2.2.2.2.2.2.2.1
def dX11_tellsNothing_33 := bX11_tellsNothing_21.2.2.2.2.2.2.2.2.2.2.2.1
def dX11_tellsNothing_35 := bX11_tellsNothing_21.2.2.2.2.2.2.2.2.2.2.2.2.1
def dX11_tellsNothing_36 := bX11_tellsNothing_21.2.2.2.2.2.2.2.2.2.2.2.2.2.1
def dX11_tellsNothing_37 := bX11_tellsNothing_21.2.2.2.2.2.2.2.2.2.2.2.2.2.2.1
def dX11_tellsNothing_38 := bX11_tellsNothing_21.2.2.2.2.2.2.2.2.2.2.2.2.2.2.2.1
theorem bX11_tellsNothing_40 : fac cX11_tellsNothing [(40, .sipush 5000, 3), (43, .iastore, 1), (44, .dup, 1), (45, .bipush 8, 2), (47, .bipush 20, 2), (49, .iastore, 1), (50, .dup, 1), (51, .bipush 9, 2), (53, .bipush 20, 2), (55, .iastore, 1), (56, .dup, 1), (57, .bipush 10, 2), (59, .bipush 10, 2), (61, .iastore, 1), (62, .dup, 1), (63, .bipush 11, 2)] := fac_all 40 _ (by decide +kernel)
def dX11_tellsNothing_40 := bX11_tellsNothing_40.1
def dX11_tellsNothing_43 := bX11_tellsNothing_40.2.1
def dX11_tellsNothing_44 := bX11_tellsNothing_40.2.2.1
def dX11_tellsNothing_45 := bX11_tellsNothing_40.2.2.2.1
def dX11_tellsNothing_47 := bX11_tellsNothing_40.2.2.2.2.1
def dX11_tellsNothing_49 := bX11_tellsNothing_40.2.2.2.2.2.1
def dX11_tellsNothing_50 := bX11_tellsNothing_40.2.2.2.2.2.2.1
def dX11_tellsNothing_51 := bX11_tellsNothing_40.2.2.2.2.2.2.2.1
def dX11_tellsNothing_53 := bX11_tellsNothing_40.2.2.2.2.2.2.2.2.1
def dX11_tellsNothing_55 := bX11_tellsNothing_40.2.2.2.2.2.2.2.2.2.1
def dX11_tellsNothing_56 := bX11_tellsNothing_40.2.2.2.2.2.2.2.2.2.2.1
def dX11_tellsNothing_57 := bX11_tellsNothing_40.2.2.2.2.2.2.2.2.2.2.2.1
def dX11_tellsNothing_59 := bX11_tellsNothing_40.2.2.2.2.2.2.2.2.2.2.2.2.1
def dX11_tellsNothing_61 := bX11_tellsNothing_40.2.2.2.2.2.2.2.2.2.2.2.2.2.1
def dX11_tellsNothing_62 := bX11_tellsNothing_40.2.2.2.2.2.2.2.2.2.2.2.2.2.2.1
def dX11_tellsNothing_63 := bX11_tellsNothing_40.2.2.2.2.2.2.2.2.2.2.2.2.2.2.2.1
theorem bX11_tellsNothing_65 : fac cX11_tellsNothing [(65, .iconst 5, 1), (66, .iastore, 1), (67, .dup, 1), (68, .bipush 12, 2), (70, .iconst 1, 1), (71, .iastore, 1), (72, .dup, 1), (73, .bipush 13, 2), (75, .iconst 5, 1), (76, .iastore, 1), (77, .dup, 1), (78, .bipush 14, 2), (80, .iconst 1, 1), (81, .iastore, 1), (82, .astore_n 1, 1), (83, .iconst 0, 1)] := fac_all 65 _ (by decide +kernel)
def dX11_tellsNothing_65 := bX11_tellsNothing_65.1
def dX11_tellsNothing_66 := bX11_tellsNothing_65.2.1
def dX11_tellsNothing_67 := bX11_tellsNothing_65.2.2.1
def dX11_tellsNothing_68 := bX11_tellsNothing_65.2.2.2.1
def dX11_tellsNothing_70 := bX11_tellsNothing_65.2.2.2.2.1
def dX11_tellsNothing_71 := bX11_tellsNothing_65.2.2.2.2.2.1
def dX11_tellsNothing_72 := bX11_tellsNothing_65.2.2.2.2.2.2.1
def dX11_tellsNothing_73 := bX11_tellsNothing_65.2.2.2.2.2.2.2.1
def dX11_tellsNothing_75 := bX11_tellsNothing_65.2.2.2.2.2.2.2.2.1
def dX11_tellsNothing_76 := bX11_tellsNothing_65.2.2.2.2.2.2.2.2.2.1
def dX11_tellsNothing_77 := bX11_tellsNothing_65.2.2.2.2.2.2.2.2.2.2.1
def dX11_tellsNothing_78 := bX11_tellsNothing_65.2.2.2.2.2.2.2.2.2.2.2.1
def dX11_tellsNothing_80 := bX11_tellsNothing_65.2.2.2.2.2.2.2.2.2.2.2.2.1
def dX11_tellsNothing_81 := bX11_tellsNothing_65.2.2.2.2.2.2.2.2.2.2.2.2.2.1
def dX11_tellsNothing_82 := bX11_tellsNothing_65.2.2.2.2.2.2.2.2.2.2.2.2.2.2.1
def dX11_tellsNothing_83 := bX11_tellsNothing_65.2.2.2.2.2.2.2.2.2.2.2.2.2.2.2.1
theorem bX11_tellsNothing_84 : fac cX11_tellsNothing [(84, .istore_n 2, 1), (85, .iload_n 2, 1), (86, .bipush 15, 2), (88, .if_icmp .ge 18, 3), (91, .aload_n 0, 1), (92, .getfield 20, 3), (95, .iload_n 2, 1), (96, .aload_n 1, 1), (97, .iload_n 2, 1), (98, .iaload, 1), (99, .iastore, 1), (100, .iinc 2 1, 3), (103, .goto (-18), 3), (106, .iconst 0, 1), (107, .istore_n 2, 1), (108, .iload_n 2, 1)] := fac_all 84 _ (by decide +kernel)
def dX11_tellsNothing_84 := bX11_tellsNothing_84.1
def dX11_tellsNothing_85 := bX11_tellsNothing_84.2.1
def dX11_tellsNothing_86 := bX11_tellsNothing_84.2.2.1
def dX11_tellsNothing_88 := bX11_tellsNothing_84.2.2.2.1
def dX11_tellsNothing_91 := bX11_tellsNothing_84.2.2.2.2.1
def dX11_tellsNothing_92 := bX11_tellsNothing_84.2.2.2.2.2.1
def dX11_tellsNothing_95 := bX11_tellsNothing_84.2.2.2.2.2.2.1
def dX11_tellsNothing_96 := bX11_tellsNothing_84.2.2.2.2.2.2.2.1
def dX11_tellsNothing_97 := bX11_tellsNothing_84.2.2.2.2.2.2.2.2.1
def dX11_tellsNothing_98 := bX11_tellsNothing_84.2.2.2.2.2.2.2.2.2.1
def dX11_tellsNothing_99 := bX11_tellsNothing_84.2.2.2.2.2.2.2.2.2.2.1
def dX11_tellsNothing_100 := bX11_tellsNothing_84.2.2.2.2.2.2.2.2.2.2.2.1
def dX11_tellsNothing_103 := bX11_tellsNothing_84.2.2.2.2.2.2.2.2.2.2.2.2.1
def dX11_tellsNothing_106 := bX11_tellsNothing_84.2.2.2.2.2.2.2.2.2.2.2.2.2.1
def dX11_tellsNothing_107 := bX11_tellsNothing_84.2.2.2.2.2.2.2.2.2.2.2.2.2.2.1
def dX11_tellsNothing_108 := bX11_tellsNothing_84.2.2.2.2.2.2.2.2.2.2.2.2.2.2.2.1
theorem bX11_tellsNothing_109 : fac cX11_tellsNothing [(109, .bipush 10, 2), (111, .if_icmp .ge 22, 3), (114, .aload_n 0, 1), (115, .getfield 20, 3), (118, .bipush 15, 2), (120, .iload_n 2, 1), (121, .iadd, 1), (122, .bipush 9, 2), (124, .iload_n 2, 1), (125, .isub, 1), (126, .iastore, 1), (127, .iinc 2 1, 3), (130, .goto (-22), 3), (133, .return_, 1)] := fac_all 109 _ (by decide +kernel)
def dX11_tellsNothing_109 := bX11_tellsNothing_109.1
def dX11_tellsNothing_111 := bX11_tellsNothing_109.2.1
def dX11_tellsNothing_114 := bX11_tellsNothing_109.2.2.1
def dX11_tellsNothing_115 := bX11_tellsNothing_109.2.2.2.1
def dX11_tellsNothing_118 := bX11_tellsNothing_109.2.2.2.2.1
def dX11_tellsNothing_120 := bX11_tellsNothing_109.2.2.2.2.2.1
def dX11_tellsNothing_121 := bX11_tellsNothing_109.2.2.2.2.2.2.1
def dX11_tellsNothing_122 := bX11_tellsNothing_109.2.2.2.2.2.2.2.1
def dX11_tellsNothing_124 := bX11_tellsNothing_109.2.2.2.2.2.2.2.2.1
def dX11_tellsNothing_125 := bX11_tellsNothing_109.2.2.2.2.2.2.2.2.2.1
def dX11_tellsNothing_126 := bX11_tellsNothing_109.2.2.2.2.2.2.2.2.2.2.1
def dX11_tellsNothing_127 := bX11_tellsNothing_109.2.2.2.2.2.2.2.2.2.2.2.1
def dX11_tellsNothing_130 := bX11_tellsNothing_109.2.2.2.2.2.2.2.2.2.2.2.2.1
def dX11_tellsNothing_133 := bX11_tellsNothing_109.2.2.2.2.2.2.2.2.2.2.2.2.2.1
theorem bX11_bad_0 : fac cX11_bad [(0, .iload_n 1, 1), (1, .ifCond .eq 25, 3), (4, .aload_n 0, 1), (5, .getfield 85, 3), (8, .ifCond .ne 18, 3), (11, .aload_n 0, 1), (12, .iload_n 2, 1), (13, .putfield 85, 3), (16, .aload_n 0, 1), (17, .getfield 17, 3), (20, .iload_n 3, 1), (21, .dup2, 1), (22, .iaload, 1), (23, .iconst 1, 1), (24, .iadd, 1), (25, .iastore, 1)] := fac_all 0 _ (by decide +kernel)
def dX11_bad_0 := bX11_bad_0.1
def dX11_bad_1 := bX11_bad_0.2.1
def dX11_bad_4 := bX11_bad_0.2.2.1
def dX11_bad_5 := bX11_bad_0.2.2.2.1
def dX11_bad_8 := bX11_bad_0.2.2.2.2.1
def dX11_bad_11 := bX11_bad_0.2.2.2.2.2.1
def dX11_bad_12 := bX11_bad_0.2.2.2.2.2.2.1
def dX11_bad_13 := bX11_bad_0.2.2.2.2.2.2.2.1
def dX11_bad_16 := bX11_bad_0.2.2.2.2.2.2.2.2.1
def dX11_bad_17 := bX11_bad_0.2.2.2.2.2.2.2.2.2.1
def dX11_bad_20 := bX11_bad_0.2.2.2.2.2.2.2.2.2.2.1
def dX11_bad_21 := bX11_bad_0.2.2.2.2.2.2.2.2.2.2.2.1
def dX11_bad_22 := bX11_bad_0.2.2.2.2.2.2.2.2.2.2.2.2.1
def dX11_bad_23 := bX11_bad_0.2.2.2.2.2.2.2.2.2.2.2.2.2.1
def dX11_bad_24 := bX11_bad_0.2.2.2.2.2.2.2.2.2.2.2.2.2.2.1
def dX11_bad_25 := bX11_bad_0.2.2.2.2.2.2.2.2.2.2.2.2.2.2.2.1
theorem bX11_bad_26 : fac cX11_bad [(26, .aload_n 0, 1), (27, .getfield 85, 3), (30, .ifCond .eq 7, 3), (33, .iconst 1, 1), (34, .goto 4, 3), (37, .iconst 0, 1), (38, .ireturn, 1)] := fac_all 26 _ (by decide +kernel)
def dX11_bad_26 := bX11_bad_26.1
def dX11_bad_27 := bX11_bad_26.2.1
def dX11_bad_30 := bX11_bad_26.2.2.1
def dX11_bad_33 := bX11_bad_26.2.2.2.1
def dX11_bad_34 := bX11_bad_26.2.2.2.2.1
def dX11_bad_37 := bX11_bad_26.2.2.2.2.2.1
def dX11_bad_38 := bX11_bad_26.2.2.2.2.2.2.1
theorem bX11_in_0 : fac cX11_in [(0, .iload_n 0, 1), (1, .iload_n 1, 1), (2, .if_icmp .lt 12, 3), (5, .iload_n 0, 1), (6, .iload_n 2, 1), (7, .if_icmp .gt 7, 3), (10, .iconst 1, 1), (11, .goto 4, 3), (14, .iconst 0, 1), (15, .ireturn, 1)] := fac_all 0 _ (by decide +kernel)
def dX11_in_0 := bX11_in_0.1
def dX11_in_1 := bX11_in_0.2.1
def dX11_in_2 := bX11_in_0.2.2.1
def dX11_in_5 := bX11_in_0.2.2.2.1
def dX11_in_6 := bX11_in_0.2.2.2.2.1
def dX11_in_7 := bX11_in_0.2.2.2.2.2.1
def dX11_in_10 := bX11_in_0.2.2.2.2.2.2.1
def dX11_in_11 := bX11_in_0.2.2.2.2.2.2.2.1
def dX11_in_14 := bX11_in_0.2.2.2.2.2.2.2.2.1
def dX11_in_15 := bX11_in_0.2.2.2.2.2.2.2.2.2.1
theorem bX11_feed_0 : fac cX11_feed [(0, .aload_n 0, 1), (1, .iconst 0, 1), (2, .putfield 85, 3), (5, .aload_n 0, 1), (6, .getfield 88, 3), (9, .bipush 20, 2), (11, .iadd, 1), (12, .sipush 500, 3), (15, .if_icmp .le 5, 3), (18, .iconst (-1), 1), (19, .ireturn, 1), (20, .iconst 0, 1), (21, .istore 6, 2), (23, .iload 6, 2), (25, .bipush 20, 2), (27, .if_icmp .ge 93, 3)] := fac_all 0 _ (by decide +kernel)
def dX11_feed_0 := bX11_feed_0.1
def dX11_feed_1 := bX11_feed_0.2.1
def dX11_feed_2 := bX11_feed_0.2.2.1
def dX11_feed_5 := bX11_feed_0.2.2.2.1
def dX11_feed_6 := bX11_feed_0.2.2.2.2.1
def dX11_feed_9 := bX11_feed_0.2.2.2.2.2.1
def dX11_feed_11 := bX11_feed_0.2.2.2.2.2.2.1
def dX11_feed_12 := bX11_feed_0.2.2.2.2.2.2.2.1
def dX11_feed_15 := bX11_feed_0.2.2.2.2.2.2.2.2.1
def dX11_feed_18 := bX11_feed_0.2.2.2.2.2.2.2.2.2.1
def dX11_feed_19 := bX11_feed_0.2.2.2.2.2.2.2.2.2.2.1
def dX11_feed_20 := bX11_feed_0.2.2.2.2.2.2.2.2.2.2.2.1
def dX11_feed_21 := bX11_feed_0.2.2.2.2.2.2.2.2.2.2.2.2.1
def dX11_feed_23 := bX11_feed_0.2.2.2.2.2.2.2.2.2.2.2.2.2.1
def dX11_feed_25 := bX11_feed_0.2.2.2.2.2.2.2.2.2.2.2.2.2.2.1
def dX11_feed_27 := bX11_feed_0.2.2.2.2.2.2.2.2.2.2.2.2.2.2.2.1
theorem bX11_feed_30 : fac cX11_feed [(30, .iload 6, 2), (32, .iconst 4, 1), (33, .if_icmp .ge 7, 3), (36, .iload_n 1, 1), (37, .goto 39, 3), (40, .iload 6, 2), (42, .bipush 8, 2), (44, .if_icmp .ge 7, 3), (47, .iload_n 2, 1), (48, .goto 28, 3), (51, .iload 6, 2), (53, .bipush 12, 2), (55, .if_icmp .ge 7, 3), (58, .iload_n 3, 1), (59, .goto 17, 3), (62, .iload 6, 2)] := fac_all 30 _ (by decide +kernel)
def dX11_feed_30 := bX11_feed_30.1
def dX11_feed_32 := bX11_feed_30.2.1
def dX11_feed_33 := bX11_feed_30.2.2.1
def dX11_feed_36 := bX11_feed_30.2.2.2.1
def dX11_feed_37 := bX11_feed_30.2.2.2.2.1
def dX11_feed_40 := bX11_feed_30.2.2.2.2.2.1
def dX11_feed_42 := bX11_feed_30.2.2.2.2.2.2.1
def dX11_feed_44 := bX11_feed_30.2.2.2.2.2.2.2.1
def dX11_feed_47 := bX11_feed_30.2.2.2.2.2.2.2.2.1
def dX11_feed_48 := bX11_feed_30.2.2.2.2.2.2.2.2.2.1
def dX11_feed_51 := bX11_feed_30.2.2.2.2.2.2.2.2.2.2.1
def dX11_feed_53 := bX11_feed_30.2.2.2.2.2.2.2.2.2.2.2.1
def dX11_feed_55 := bX11_feed_30.2.2.2.2.2.2.2.2.2.2.2.2.1
def dX11_feed_58 := bX11_feed_30.2.2.2.2.2.2.2.2.2.2.2.2.2.1
def dX11_feed_59 := bX11_feed_30.2.2.2.2.2.2.2.2.2.2.2.2.2.2.1
def dX11_feed_62 := bX11_feed_30.2.2.2.2.2.2.2.2.2.2.2.2.2.2.2.1
theorem bX11_feed_64 : fac cX11_feed [(64, .bipush 16, 2), (66, .if_icmp .ge 8, 3), (69, .iload 4, 2), (71, .goto 5, 3), (74, .iload 5, 2), (76, .istore 7, 2), (78, .aload_n 0, 1), (79, .getfield 13, 3), (82, .aload_n 0, 1), (83, .getfield 88, 3), (86, .iload 7, 2), (88, .bipush 24, 2), (90, .bipush 8, 2), (92, .iload 6, 2), (94, .iconst 4, 1), (95, .irem, 1)] := fac_all 64 _ (by decide +kernel)
def dX11_feed_64 := bX11_feed_64.1
def dX11_feed_66 := bX11_feed_64.2.1
def dX11_feed_69 := bX11_feed_64.2.2.1
def dX11_feed_71 := bX11_feed_64.2.2.2.1
def dX11_feed_74 := bX11_feed_64.2.2.2.2.1
def dX11_feed_76 := bX11_feed_64.2.2.2.2.2.1
def dX11_feed_78 := bX11_feed_64.2.2.2.2.2.2.1
def dX11_feed_79 := bX11_feed_64.2.2.2.2.2.2.2.1
def dX11_feed_82 := bX11_feed_64.2.2.2.2.2.2.2.2.1
def dX11_feed_83 := bX11_feed_64.2.2.2.2.2.2.2.2.2.1
def dX11_feed_86 := bX11_feed_64.2.2.2.2.2.2.2.2.2.2.1
def dX11_feed_88 := bX11_feed_64.2.2.2.2.2.2.2.2.2.2.2.1
def dX11_feed_90 := bX11_feed_64.2.2.2.2.2.2.2.2.2.2.2.2.1
def dX11_feed_92 := bX11_feed_64.2.2.2.2.2.2.2.2.2.2.2.2.2.1
def dX11_feed_94 := bX11_feed_64.2.2.2.2.2.2.2.2.2.2.2.2.2.2.1
def dX11_feed_95 := bX11_feed_64.2.2.2.2.2.2.2.2.2.2.2.2.2.2.2.1
theorem bX11_feed_96 : fac cX11_feed [(96, .imul, 1), (97, .isub, 1), (98, .ishr, 1), (99, .sipush 255, 3), (102, .iand, 1), (103, .iastore, 1), (104, .aload_n 0, 1), (105, .dup, 1), (106, .getfield 88, 3), (109, .iconst 1, 1), (110, .iadd, 1), (111, .putfield 88, 3), (114, .iinc 6 1, 3), (117, .goto (-94), 3), (120, .aload_n 0, 1), (121, .getfield 88, 3)] := fac_all 96 _ (by decide +kernel)
def dX11_feed_96 := bX11_feed_96.1
def dX11_feed_97 := bX11_feed_96.2.1
def dX11_feed_98 := bX11_feed_96.2.2.1
def dX11_feed_99 := bX11_feed_96.2.2.2.1
def dX11_feed_102 := bX11_feed_96.2.2.2.2.1
def dX11_feed_103 := bX11_feed_96.2.2.2.2.2.1
def dX11_feed_104 := bX11_feed_96.2.2.2.2.2.2.1
def dX11_feed_105 := bX11_feed_96.2.2.2.2.2.2.2.1
def dX11_feed_106 := bX11_feed_96.2.2.2.2.2.2.2.2.1
def dX11_feed_109 := bX11_feed_96.2.2.2.2.2.2.2.2.2.1
def dX11_feed_110 := bX11_feed_96.2.2.2.2.2.2.2.2.2.2.1
def dX11_feed_111 := bX11_feed_96.2.2.2.2.2.2.2.2.2.2.2.1
def dX11_feed_114 := bX11_feed_96.2.2.2.2.2.2.2.2.2.2.2.2.1
def dX11_feed_117 := bX11_feed_96.2.2.2.2.2.2.2.2.2.2.2.2.2.1
def dX11_feed_120 := bX11_feed_96.2.2.2.2.2.2.2.2.2.2.2.2.2.2.1
def dX11_feed_121 := bX11_feed_96.2.2.2.2.2.2.2.2.2.2.2.2.2.2.2.1
theorem dX11_feed_124 : decode cX11_feed 124 = .ok (.ireturn, 1) := by decide +kernel
theorem bX11_byteAt_0 : fac cX11_byteAt [(0, .iload_n 1, 1), (1, .aload_n 0, 1), (2, .getfield 91, 3), (5, .if_icmp .lt 7, 3), (8, .iconst (-1), 1), (9, .goto 9, 3), (12, .aload_n 0, 1), (13, .getfield 13, 3), (16, .iload_n 1, 1), (17, .iaload, 1), (18, .ireturn, 1)] := fac_all 0 _ (by decide +kernel)
def dX11_byteAt_0 := bX11_byteAt_0.1
def dX11_byteAt_1 := bX11_byteAt_0.2.1
def dX11_byteAt_2 := bX11_byteAt_0.2.2.1
def dX11_byteAt_5 := bX11_byteAt_0.2.2.2.1
def dX11_byteAt_8 := bX11_byteAt_0.2.2.2.2.1
def dX11_byteAt_9 := bX11_byteAt_0.2.2.2.2.2.1
def dX11_byteAt_12 := bX11_byteAt_0.2.2.2.2.2.2.1
def dX11_byteAt_13 := bX11_byteAt_0.2.2.2.2.2.2.2.1
def dX11_byteAt_16 := bX11_byteAt_0.2.2.2.2.2.2.2.2.1
def dX11_byteAt_17 := bX11_byteAt_0.2.2.2.2.2.2.2.2.2.1
def dX11_byteAt_18 := bX11_byteAt_0.2.2.2.2.2.2.2.2.2.2.1
theorem ggX11_blanks_X11_byteAt : GoodIn wsX11_blanks wsX11_byteAt := gW_in gwX11_byteAt (fun _ h => List.mem_cons_of_mem _ (List.mem_append_right _ (List.mem_append_right _ (h))))
set_option maxRecDepth 20000 in
theorem gX11_blanks_X11_byteAt : GoodIn wsX11_blanks (wsV RX11 97 RX11 yX11_byteAt wsX11_byteAt) := goodIn_app (goodIn_of _ (by decide +kernel)) ggX11_blanks_X11_byteAt
theorem bX11_blanks_0 : fac cX11_blanks [(0, .aload_n 0, 1), (1, .aload_n 0, 1), (2, .getfield 94, 3), (5, .invokevirtual 97, 3), (8, .bipush 32, 2), (10, .if_icmp .ne 16, 3), (13, .aload_n 0, 1), (14, .dup, 1), (15, .getfield 94, 3), (18, .iconst 1, 1), (19, .iadd, 1), (20, .putfield 94, 3), (23, .goto (-23), 3), (26, .return_, 1)] := fac_all 0 _ (by decide +kernel)
def dX11_blanks_0 := bX11_blanks_0.1
def dX11_blanks_1 := bX11_blanks_0.2.1
def dX11_blanks_2 := bX11_blanks_0.2.2.1
def dX11_blanks_5 := bX11_blanks_0.2.2.2.1
def dX11_blanks_8 := bX11_blanks_0.2.2.2.2.1
def dX11_blanks_10 := bX11_blanks_0.2.2.2.2.2.1
def dX11_blanks_13 := bX11_blanks_0.2.2.2.2.2.2.1
def dX11_blanks_14 := bX11_blanks_0.2.2.2.2.2.2.2.1
def dX11_blanks_15 := bX11_blanks_0.2.2.2.2.2.2.2.2.1
def dX11_blanks_18 := bX11_blanks_0.2.2.2.2.2.2.2.2.2.1
def dX11_blanks_19 := bX11_blanks_0.2.2.2.2.2.2.2.2.2.2.1
def dX11_blanks_20 := bX11_blanks_0.2.2.2.2.2.2.2.2.2.2.2.1
def dX11_blanks_23 := bX11_blanks_0.2.2.2.2.2.2.2.2.2.2.2.2.1
def dX11_blanks_26 := bX11_blanks_0.2.2.2.2.2.2.2.2.2.2.2.2.2.1
theorem bX11_wrong_0 : fac cX11_wrong [(0, .aload_n 0, 1), (1, .getfield 101, 3), (4, .ifCond .ne 13, 3), (7, .aload_n 0, 1), (8, .iload_n 1, 1), (9, .putfield 101, 3), (12, .aload_n 0, 1), (13, .iload_n 2, 1), (14, .putfield 104, 3), (17, .return_, 1)] := fac_all 0 _ (by decide +kernel)
def dX11_wrong_0 := bX11_wrong_0.1
def dX11_wrong_1 := bX11_wrong_0.2.1
def dX11_wrong_4 := bX11_wrong_0.2.2.1
def dX11_wrong_7 := bX11_wrong_0.2.2.2.1
def dX11_wrong_8 := bX11_wrong_0.2.2.2.2.1
def dX11_wrong_9 := bX11_wrong_0.2.2.2.2.2.1
def dX11_wrong_12 := bX11_wrong_0.2.2.2.2.2.2.1
def dX11_wrong_13 := bX11_wrong_0.2.2.2.2.2.2.2.1
def dX11_wrong_14 := bX11_wrong_0.2.2.2.2.2.2.2.2.1
def dX11_wrong_17 := bX11_wrong_0.2.2.2.2.2.2.2.2.2.1
theorem bX11_isDigit_0 : fac cX11_isDigit [(0, .iload_n 0, 1), (1, .bipush 48, 2), (3, .if_icmp .lt 13, 3), (6, .iload_n 0, 1), (7, .bipush 57, 2), (9, .if_icmp .gt 7, 3), (12, .iconst 1, 1), (13, .goto 4, 3), (16, .iconst 0, 1), (17, .ireturn, 1)] := fac_all 0 _ (by decide +kernel)
def dX11_isDigit_0 := bX11_isDigit_0.1
def dX11_isDigit_1 := bX11_isDigit_0.2.1
def dX11_isDigit_3 := bX11_isDigit_0.2.2.1
def dX11_isDigit_6 := bX11_isDigit_0.2.2.2.1
def dX11_isDigit_7 := bX11_isDigit_0.2.2.2.2.1
def dX11_isDigit_9 := bX11_isDigit_0.2.2.2.2.2.1
def dX11_isDigit_12 := bX11_isDigit_0.2.2.2.2.2.2.1
def dX11_isDigit_13 := bX11_isDigit_0.2.2.2.2.2.2.2.1
def dX11_isDigit_16 := bX11_isDigit_0.2.2.2.2.2.2.2.2.1
def dX11_isDigit_17 := bX11_isDigit_0.2.2.2.2.2.2.2.2.2.1
theorem ggX11_number_X11_blanks : GoodIn wsX11_number wsX11_blanks := gW_in gwX11_blanks (fun _ h => List.mem_cons_of_mem _ (List.mem_append_right _ (List.mem_append_right _ (List.mem_append_left _ h))))
set_option maxRecDepth 20000 in
theorem gX11_number_X11_blanks : GoodIn wsX11_number (wsV RX11 107 RX11 yX11_blanks wsX11_blanks) := goodIn_app (goodIn_of _ (by decide +kernel)) ggX11_number_X11_blanks
theorem ggX11_number_X11_byteAt : GoodIn wsX11_number wsX11_byteAt := gW_in gwX11_byteAt (fun _ h => List.mem_cons_of_mem _ (List.mem_append_right _ (List.mem_append_right _ (List.mem_append_right _ (List.mem_append_left _ h)))))
set_option maxRecDepth 20000 in
theorem gX11_number_X11_byteAt : GoodIn wsX11_number (wsV RX11 97 RX11 yX11_byteAt wsX11_byteAt) := goodIn_app (goodIn_of _ (by decide +kernel)) ggX11_number_X11_byteAt
theorem ggX11_number_X11_isDigit : GoodIn wsX11_number wsX11_isDigit := gW_in gwX11_isDigit (fun _ h => List.mem_cons_of_mem _ (List.mem_append_right _ (List.mem_append_right _ (List.mem_append_right _ (List.mem_append_right _ (List.mem_append_left _ h))))))
set_option maxRecDepth 20000 in
theorem gX11_number_X11_isDigit : GoodIn wsX11_number (va_wsS RX11 110 yX11_isDigit wsX11_isDigit) := goodIn_app (goodIn_of _ (by decide +kernel)) ggX11_number_X11_isDigit
theorem ggX11_number_X11_wrong : GoodIn wsX11_number wsX11_wrong := gW_in gwX11_wrong (fun _ h => List.mem_cons_of_mem _ (List.mem_append_right _ (List.mem_append_right _ (List.mem_append_right _ (List.mem_append_right _ (List.mem_append_right _ (List.mem_append_left _ h)))))))
set_option maxRecDepth 20000 in
theorem gX11_number_X11_wrong : GoodIn wsX11_number (wsV RX11 114 RX11 yX11_wrong wsX11_wrong) := goodIn_app (goodIn_of _ (by decide +kernel)) ggX11_number_X11_wrong
theorem ggX11_number_X11_in : GoodIn wsX11_number wsX11_in := gW_in gwX11_in (fun _ h => List.mem_cons_of_mem _ (List.mem_append_right _ (List.mem_append_right _ (List.mem_append_right _ (List.mem_append_right _ (List.mem_append_right _ (List.mem_append_right _ (h))))))))
set_option maxRecDepth 20000 in
theorem gX11_number_X11_in : GoodIn wsX11_number (va_wsS RX11 119 yX11_in wsX11_in) := goodIn_app (goodIn_of _ (by decide +kernel)) ggX11_number_X11_in
theorem bX11_number_0 : fac cX11_number [(0, .aload_n 0, 1), (1, .getfield 101, 3), (4, .ifCond .eq 5, 3), (7, .iconst 0, 1), (8, .ireturn, 1), (9, .aload_n 0, 1), (10, .invokevirtual 107, 3), (13, .aload_n 0, 1), (14, .getfield 94, 3), (17, .istore_n 3, 1), (18, .iconst 0, 1), (19, .istore 4, 2), (21, .aload_n 0, 1), (22, .aload_n 0, 1), (23, .getfield 94, 3), (26, .invokevirtual 97, 3)] := fac_all 0 _ (by decide +kernel)
def dX11_number_0 := bX11_number_0.1
def dX11_number_1 := bX11_number_0.2.1
def dX11_number_4 := bX11_number_0.2.2.1
def dX11_number_7 := bX11_number_0.2.2.2.1
def dX11_number_8 := bX11_number_0.2.2.2.2.1
def dX11_number_9 := bX11_number_0.2.2.2.2.2.1
def dX11_number_10 := bX11_number_0.2.2.2.2.2.2.1
def dX11_number_13 := bX11_number_0.2.2.2.2.2.2.2.1
def dX11_number_14 := bX11_number_0.2.2.2.2.2.2.2.2.1
def dX11_number_17 := bX11_number_0.2.2.2.2.2.2.2.2.2.1
def dX11_number_18 := bX11_number_0.2.2.2.2.2.2.2.2.2.2.1
def dX11_number_19 := bX11_number_0.2.2.2.2.2.2.2.2.2.2.2.1
def dX11_number_21 := bX11_number_0.2.2.2.2.2.2.2.2.2.2.2.2.1
def dX11_number_22 := bX11_number_0.2.2.2.2.2.2.2.2.2.2.2.2.2.1
def dX11_number_23 := bX11_number_0.2.2.2.2.2.2.2.2.2.2.2.2.2.2.1
def dX11_number_26 := bX11_number_0.2.2.2.2.2.2.2.2.2.2.2.2.2.2.2.1
theorem bX11_number_29 : fac cX11_number [(29, .invokestatic 110, 3), (32, .ifCond .ne 12, 3), (35, .aload_n 0, 1), (36, .iconst 1, 1), (37, .aload_n 0, 1), (38, .getfield 94, 3), (41, .invokevirtual 114, 3), (44, .aload_n 0, 1), (45, .aload_n 0, 1), (46, .getfield 94, 3), (49, .invokevirtual 97, 3), (52, .invokestatic 110, 3), (55, .ifCond .eq 51, 3), (58, .bipush 10, 2), (60, .iload 4, 2), (62, .imul, 1)] := fac_all 29 _ (by decide +kernel)
def dX11_number_29 := bX11_number_29.1
def dX11_number_32 := bX11_number_29.2.1
def dX11_number_35 := bX11_number_29.2.2.1
def dX11_number_36 := bX11_number_29.2.2.2.1
def dX11_number_37 := bX11_number_29.2.2.2.2.1
def dX11_number_38 := bX11_number_29.2.2.2.2.2.1
def dX11_number_41 := bX11_number_29.2.2.2.2.2.2.1
def dX11_number_44 := bX11_number_29.2.2.2.2.2.2.2.1
def dX11_number_45 := bX11_number_29.2.2.2.2.2.2.2.2.1
def dX11_number_46 := bX11_number_29.2.2.2.2.2.2.2.2.2.1
def dX11_number_49 := bX11_number_29.2.2.2.2.2.2.2.2.2.2.1
def dX11_number_52 := bX11_number_29.2.2.2.2.2.2.2.2.2.2.2.1
def dX11_number_55 := bX11_number_29.2.2.2.2.2.2.2.2.2.2.2.2.1
def dX11_number_58 := bX11_number_29.2.2.2.2.2.2.2.2.2.2.2.2.2.1
def dX11_number_60 := bX11_number_29.2.2.2.2.2.2.2.2.2.2.2.2.2.2.1
def dX11_number_62 := bX11_number_29.2.2.2.2.2.2.2.2.2.2.2.2.2.2.2.1
theorem bX11_number_63 : fac cX11_number [(63, .aload_n 0, 1), (64, .aload_n 0, 1), (65, .getfield 94, 3), (68, .invokevirtual 97, 3), (71, .iadd, 1), (72, .bipush 48, 2), (74, .isub, 1), (75, .istore 4, 2), (77, .iload 4, 2), (79, .ldc 118, 2), (81, .if_icmp .le 8, 3), (84, .ldc 118, 2), (86, .goto 5, 3), (89, .iload 4, 2), (91, .istore 4, 2), (93, .aload_n 0, 1)] := fac_all 63 _ (by decide +kernel)
def dX11_number_63 := bX11_number_63.1
def dX11_number_64 := bX11_number_63.2.1
def dX11_number_65 := bX11_number_63.2.2.1
def dX11_number_68 := bX11_number_63.2.2.2.1
def dX11_number_71 := bX11_number_63.2.2.2.2.1
def dX11_number_72 := bX11_number_63.2.2.2.2.2.1
def dX11_number_74 := bX11_number_63.2.2.2.2.2.2.1
def dX11_number_75 := bX11_number_63.2.2.2.2.2.2.2.1
def dX11_number_77 := bX11_number_63.2.2.2.2.2.2.2.2.1
def dX11_number_79 := bX11_number_63.2.2.2.2.2.2.2.2.2.1
def dX11_number_81 := bX11_number_63.2.2.2.2.2.2.2.2.2.2.1
def dX11_number_84 := bX11_number_63.2.2.2.2.2.2.2.2.2.2.2.1
def dX11_number_86 := bX11_number_63.2.2.2.2.2.2.2.2.2.2.2.2.1
def dX11_number_89 := bX11_number_63.2.2.2.2.2.2.2.2.2.2.2.2.2.1
def dX11_number_91 := bX11_number_63.2.2.2.2.2.2.2.2.2.2.2.2.2.2.1
def dX11_number_93 := bX11_number_63.2.2.2.2.2.2.2.2.2.2.2.2.2.2.2.1
theorem bX11_number_94 : fac cX11_number [(94, .dup, 1), (95, .getfield 94, 3), (98, .iconst 1, 1), (99, .iadd, 1), (100, .putfield 94, 3), (103, .goto (-59), 3), (106, .iload 4, 2), (108, .iload_n 1, 1), (109, .iload_n 2, 1), (110, .invokestatic 119, 3), (113, .ifCond .ne 9, 3), (116, .aload_n 0, 1), (117, .iconst 2, 1), (118, .iload_n 3, 1), (119, .invokevirtual 114, 3), (122, .aload_n 0, 1)] := fac_all 94 _ (by decide +kernel)
def dX11_number_94 := bX11_number_94.1
def dX11_number_95 := bX11_number_94.2.1
def dX11_number_98 := bX11_number_94.2.2.1
def dX11_number_99 := bX11_number_94.2.2.2.1
def dX11_number_100 := bX11_number_94.2.2.2.2.1
def dX11_number_103 := bX11_number_94.2.2.2.2.2.1
def dX11_number_106 := bX11_number_94.2.2.2.2.2.2.1
def dX11_number_108 := bX11_number_94.2.2.2.2.2.2.2.1
def dX11_number_109 := bX11_number_94.2.2.2.2.2.2.2.2.1
def dX11_number_110 := bX11_number_94.2.2.2.2.2.2.2.2.2.1
def dX11_number_113 := bX11_number_94.2.2.2.2.2.2.2.2.2.2.1
def dX11_number_116 := bX11_number_94.2.2.2.2.2.2.2.2.2.2.2.1
def dX11_number_117 := bX11_number_94.2.2.2.2.2.2.2.2.2.2.2.2.1
def dX11_number_118 := bX11_number_94.2.2.2.2.2.2.2.2.2.2.2.2.2.1
def dX11_number_119 := bX11_number_94.2.2.2.2.2.2.2.2.2.2.2.2.2.2.1
def dX11_number_122 := bX11_number_94.2.2.2.2.2.2.2.2.2.2.2.2.2.2.2.1
theorem bX11_number_123 : fac cX11_number [(123, .getfield 101, 3), (126, .ifCond .ne 8, 3), (129, .iload 4, 2), (131, .goto 4, 3), (134, .iconst 0, 1), (135, .ireturn, 1)] := fac_all 123 _ (by decide +kernel)
def dX11_number_123 := bX11_number_123.1
def dX11_number_126 := bX11_number_123.2.1
def dX11_number_129 := bX11_number_123.2.2.1
def dX11_number_131 := bX11_number_123.2.2.2.1
def dX11_number_134 := bX11_number_123.2.2.2.2.1
def dX11_number_135 := bX11_number_123.2.2.2.2.2.1
theorem ggX11_wordHere_X11_blanks : GoodIn wsX11_wordHere wsX11_blanks := gW_in gwX11_blanks (fun _ h => List.mem_cons_of_mem _ (List.mem_append_right _ (List.mem_append_right _ (List.mem_append_left _ h))))
set_option maxRecDepth 20000 in
theorem gX11_wordHere_X11_blanks : GoodIn wsX11_wordHere (wsV RX11 107 RX11 yX11_blanks wsX11_blanks) := goodIn_app (goodIn_of _ (by decide +kernel)) ggX11_wordHere_X11_blanks
theorem ggX11_wordHere_X11_byteAt : GoodIn wsX11_wordHere wsX11_byteAt := gW_in gwX11_byteAt (fun _ h => List.mem_cons_of_mem _ (List.mem_append_right _ (List.mem_append_right _ (List.mem_append_right _ (h)))))
set_option maxRecDepth 20000 in
theorem gX11_wordHere_X11_byteAt : GoodIn wsX11_wordHere (wsV RX11 97 RX11 yX11_byteAt wsX11_byteAt) := goodIn_app (goodIn_of _ (by decide +kernel)) ggX11_wordHere_X11_byteAt
theorem bX11_wordHere_0 : fac cX11_wordHere [(0, .aload_n 0, 1), (1, .invokevirtual 107, 3), (4, .iconst 0, 1), (5, .istore_n 1, 1), (6, .iconst 0, 1), (7, .istore_n 2, 1), (8, .aload_n 0, 1), (9, .aload_n 0, 1), (10, .getfield 94, 3), (13, .iload_n 2, 1), (14, .iadd, 1), (15, .invokevirtual 97, 3), (18, .bipush 97, 2), (20, .if_icmp .lt 55, 3), (23, .aload_n 0, 1), (24, .aload_n 0, 1)] := fac_all 0 _ (by decide +kernel)
def dX11_wordHere_0 := bX11_wordHere_0.1
def dX11_wordHere_1 := bX11_wordHere_0.2.1
def dX11_wordHere_4 := bX11_wordHere_0.2.2.1
def dX11_wordHere_5 := bX11_wordHere_0.2.2.2.1
def dX11_wordHere_6 := bX11_wordHere_0.2.2.2.2.1
def dX11_wordHere_7 := bX11_wordHere_0.2.2.2.2.2.1
def dX11_wordHere_8 := bX11_wordHere_0.2.2.2.2.2.2.1
def dX11_wordHere_9 := bX11_wordHere_0.2.2.2.2.2.2.2.1
def dX11_wordHere_10 := bX11_wordHere_0.2.2.2.2.2.2.2.2.1
def dX11_wordHere_13 := bX11_wordHere_0.2.2.2.2.2.2.2.2.2.1
def dX11_wordHere_14 := bX11_wordHere_0.2.2.2.2.2.2.2.2.2.2.1
def dX11_wordHere_15 := bX11_wordHere_0.2.2.2.2.2.2.2.2.2.2.2.1
def dX11_wordHere_18 := bX11_wordHere_0.2.2.2.2.2.2.2.2.2.2.2.2.1
def dX11_wordHere_20 := bX11_wordHere_0.2.2.2.2.2.2.2.2.2.2.2.2.2.1
def dX11_wordHere_23 := bX11_wordHere_0.2.2.2.2.2.2.2.2.2.2.2.2.2.2.1
def dX11_wordHere_24 := bX11_wordHere_0.2.2.2.2.2.2.2.2.2.2.2.2.2.2.2.1
theorem bX11_wordHere_25 : fac cX11_wordHere [(25, .getfield 94, 3), (28, .iload_n 2, 1), (29, .iadd, 1), (30, .invokevirtual 97, 3), (33, .bipush 122, 2), (35, .if_icmp .gt 40, 3), (38, .iload_n 2, 1), (39, .bipush 6, 2), (41, .if_icmp .ge 26, 3), (44, .bipush 27, 2), (46, .iload_n 1, 1), (47, .imul, 1), (48, .aload_n 0, 1), (49, .aload_n 0, 1), (50, .getfield 94, 3), (53, .iload_n 2, 1)] := fac_all 25 _ (by decide +kernel)
def dX11_wordHere_25 := bX11_wordHere_25.1
def dX11_wordHere_28 := bX11_wordHere_25.2.1
def dX11_wordHere_29 := bX11_wordHere_25.2.2.1
def dX11_wordHere_30 := bX11_wordHere_25.2.2.2.1
def dX11_wordHere_33 := bX11_wordHere_25.2.2.2.2.1
def dX11_wordHere_35 := bX11_wordHere_25.2.2.2.2.2.1
def dX11_wordHere_38 := bX11_wordHere_25.2.2.2.2.2.2.1
def dX11_wordHere_39 := bX11_wordHere_25.2.2.2.2.2.2.2.1
def dX11_wordHere_41 := bX11_wordHere_25.2.2.2.2.2.2.2.2.1
def dX11_wordHere_44 := bX11_wordHere_25.2.2.2.2.2.2.2.2.2.1
def dX11_wordHere_46 := bX11_wordHere_25.2.2.2.2.2.2.2.2.2.2.1
def dX11_wordHere_47 := bX11_wordHere_25.2.2.2.2.2.2.2.2.2.2.2.1
def dX11_wordHere_48 := bX11_wordHere_25.2.2.2.2.2.2.2.2.2.2.2.2.1
def dX11_wordHere_49 := bX11_wordHere_25.2.2.2.2.2.2.2.2.2.2.2.2.2.1
def dX11_wordHere_50 := bX11_wordHere_25.2.2.2.2.2.2.2.2.2.2.2.2.2.2.1
def dX11_wordHere_53 := bX11_wordHere_25.2.2.2.2.2.2.2.2.2.2.2.2.2.2.2.1
theorem bX11_wordHere_54 : fac cX11_wordHere [(54, .iadd, 1), (55, .invokevirtual 97, 3), (58, .iadd, 1), (59, .bipush 97, 2), (61, .isub, 1), (62, .iconst 1, 1), (63, .iadd, 1), (64, .goto 4, 3), (67, .iload_n 1, 1), (68, .istore_n 1, 1), (69, .iinc 2 1, 3), (72, .goto (-64), 3), (75, .iload_n 2, 1), (76, .bipush 6, 2), (78, .if_icmp .le 7, 3), (81, .iconst (-1), 1)] := fac_all 54 _ (by decide +kernel)
def dX11_wordHere_54 := bX11_wordHere_54.1
def dX11_wordHere_55 := bX11_wordHere_54.2.1
def dX11_wordHere_58 := bX11_wordHere_54.2.2.1
def dX11_wordHere_59 := bX11_wordHere_54.2.2.2.1
def dX11_wordHere_61 := bX11_wordHere_54.2.2.2.2.1
def dX11_wordHere_62 := bX11_wordHere_54.2.2.2.2.2.1
def dX11_wordHere_63 := bX11_wordHere_54.2.2.2.2.2.2.1
def dX11_wordHere_64 := bX11_wordHere_54.2.2.2.2.2.2.2.1
def dX11_wordHere_67 := bX11_wordHere_54.2.2.2.2.2.2.2.2.1
def dX11_wordHere_68 := bX11_wordHere_54.2.2.2.2.2.2.2.2.2.1
def dX11_wordHere_69 := bX11_wordHere_54.2.2.2.2.2.2.2.2.2.2.1
def dX11_wordHere_72 := bX11_wordHere_54.2.2.2.2.2.2.2.2.2.2.2.1
def dX11_wordHere_75 := bX11_wordHere_54.2.2.2.2.2.2.2.2.2.2.2.2.1
def dX11_wordHere_76 := bX11_wordHere_54.2.2.2.2.2.2.2.2.2.2.2.2.2.1
def dX11_wordHere_78 := bX11_wordHere_54.2.2.2.2.2.2.2.2.2.2.2.2.2.2.1
def dX11_wordHere_81 := bX11_wordHere_54.2.2.2.2.2.2.2.2.2.2.2.2.2.2.2.1
theorem bX11_wordHere_82 : fac cX11_wordHere [(82, .goto 4, 3), (85, .iload_n 1, 1), (86, .ireturn, 1)] := fac_all 82 _ (by decide +kernel)
def dX11_wordHere_82 := bX11_wordHere_82.1
def dX11_wordHere_85 := bX11_wordHere_82.2.1
def dX11_wordHere_86 := bX11_wordHere_82.2.2.1
theorem bX11_six_0 : fac cX11_six [(0, .bipush 27, 2), (2, .bipush 27, 2), (4, .bipush 27, 2), (6, .iload_n 0, 1), (7, .imul, 1), (8, .iload_n 1, 1), (9, .iadd, 1), (10, .imul, 1), (11, .iload_n 2, 1), (12, .iadd, 1), (13, .imul, 1), (14, .istore 6, 2), (16, .iload_n 3, 1), (17, .ifCond .ne 11, 3), (20, .iload 6, 2), (22, .bipush 27, 2)] := fac_all 0 _ (by decide +kernel)
def dX11_six_0 := bX11_six_0.1
def dX11_six_2 := bX11_six_0.2.1
def dX11_six_4 := bX11_six_0.2.2.1
def dX11_six_6 := bX11_six_0.2.2.2.1
def dX11_six_7 := bX11_six_0.2.2.2.2.1
def dX11_six_8 := bX11_six_0.2.2.2.2.2.1
def dX11_six_9 := bX11_six_0.2.2.2.2.2.2.1
def dX11_six_10 := bX11_six_0.2.2.2.2.2.2.2.1
def dX11_six_11 := bX11_six_0.2.2.2.2.2.2.2.2.1
def dX11_six_12 := bX11_six_0.2.2.2.2.2.2.2.2.2.1
def dX11_six_13 := bX11_six_0.2.2.2.2.2.2.2.2.2.2.1
def dX11_six_14 := bX11_six_0.2.2.2.2.2.2.2.2.2.2.2.1
def dX11_six_16 := bX11_six_0.2.2.2.2.2.2.2.2.2.2.2.2.1
def dX11_six_17 := bX11_six_0.2.2.2.2.2.2.2.2.2.2.2.2.2.1
def dX11_six_20 := bX11_six_0.2.2.2.2.2.2.2.2.2.2.2.2.2.2.1
def dX11_six_22 := bX11_six_0.2.2.2.2.2.2.2.2.2.2.2.2.2.2.2.1
theorem bX11_six_24 : fac cX11_six [(24, .idiv, 1), (25, .goto 7, 3), (28, .iload 6, 2), (30, .iload_n 3, 1), (31, .iadd, 1), (32, .istore 6, 2), (34, .iload 4, 2), (36, .ifCond .ne 8, 3), (39, .iload 6, 2), (41, .goto 11, 3), (44, .bipush 27, 2), (46, .iload 6, 2), (48, .imul, 1), (49, .iload 4, 2), (51, .iadd, 1), (52, .istore 6, 2)] := fac_all 24 _ (by decide +kernel)
def dX11_six_24 := bX11_six_24.1
def dX11_six_25 := bX11_six_24.2.1
def dX11_six_28 := bX11_six_24.2.2.1
def dX11_six_30 := bX11_six_24.2.2.2.1
def dX11_six_31 := bX11_six_24.2.2.2.2.1
def dX11_six_32 := bX11_six_24.2.2.2.2.2.1
def dX11_six_34 := bX11_six_24.2.2.2.2.2.2.1
def dX11_six_36 := bX11_six_24.2.2.2.2.2.2.2.1
def dX11_six_39 := bX11_six_24.2.2.2.2.2.2.2.2.1
def dX11_six_41 := bX11_six_24.2.2.2.2.2.2.2.2.2.1
def dX11_six_44 := bX11_six_24.2.2.2.2.2.2.2.2.2.2.1
def dX11_six_46 := bX11_six_24.2.2.2.2.2.2.2.2.2.2.2.1
def dX11_six_48 := bX11_six_24.2.2.2.2.2.2.2.2.2.2.2.2.1
def dX11_six_49 := bX11_six_24.2.2.2.2.2.2.2.2.2.2.2.2.2.1
def dX11_six_51 := bX11_six_24.2.2.2.2.2.2.2.2.2.2.2.2.2.2.1
def dX11_six_52 := bX11_six_24.2.2.2.2.2.2.2.2.2.2.2.2.2.2.2.1
theorem bX11_six_54 : fac cX11_six [(54, .iload 5, 2), (56, .ifCond .ne 8, 3), (59, .iload 6, 2), (61, .goto 11, 3), (64, .bipush 27, 2), (66, .iload 6, 2), (68, .imul, 1), (69, .iload 5, 2), (71, .iadd, 1), (72, .ireturn, 1)] := fac_all 54 _ (by decide +kernel)
def dX11_six_54 := bX11_six_54.1
def dX11_six_56 := bX11_six_54.2.1
def dX11_six_59 := bX11_six_54.2.2.1
def dX11_six_61 := bX11_six_54.2.2.2.1
def dX11_six_64 := bX11_six_54.2.2.2.2.1
def dX11_six_66 := bX11_six_54.2.2.2.2.2.1
def dX11_six_68 := bX11_six_54.2.2.2.2.2.2.1
def dX11_six_69 := bX11_six_54.2.2.2.2.2.2.2.1
def dX11_six_71 := bX11_six_54.2.2.2.2.2.2.2.2.1
def dX11_six_72 := bX11_six_54.2.2.2.2.2.2.2.2.2.1
theorem ggX11_isWord_X11_wordHere : GoodIn wsX11_isWord wsX11_wordHere := gW_in gwX11_wordHere (fun _ h => List.mem_cons_of_mem _ (List.mem_append_right _ (List.mem_append_right _ (List.mem_append_left _ h))))
set_option maxRecDepth 20000 in
theorem gX11_isWord_X11_wordHere : GoodIn wsX11_isWord (wsV RX11 123 RX11 yX11_wordHere wsX11_wordHere) := goodIn_app (goodIn_of _ (by decide +kernel)) ggX11_isWord_X11_wordHere
theorem ggX11_isWord_X11_six : GoodIn wsX11_isWord wsX11_six := gW_in gwX11_six (fun _ h => List.mem_cons_of_mem _ (List.mem_append_right _ (List.mem_append_right _ (List.mem_append_right _ (h)))))
set_option maxRecDepth 20000 in
theorem gX11_isWord_X11_six : GoodIn wsX11_isWord (va_wsS RX11 127 yX11_six wsX11_six) := goodIn_app (goodIn_of _ (by decide +kernel)) ggX11_isWord_X11_six
theorem bX11_isWord_0 : fac cX11_isWord [(0, .aload_n 0, 1), (1, .getfield 101, 3), (4, .ifCond .ne 26, 3), (7, .aload_n 0, 1), (8, .invokevirtual 123, 3), (11, .iload_n 1, 1), (12, .iload_n 2, 1), (13, .iload_n 3, 1), (14, .iload 4, 2), (16, .iload 5, 2), (18, .iload 6, 2), (20, .invokestatic 127, 3), (23, .if_icmp .ne 7, 3), (26, .iconst 1, 1), (27, .goto 4, 3), (30, .iconst 0, 1)] := fac_all 0 _ (by decide +kernel)
def dX11_isWord_0 := bX11_isWord_0.1
def dX11_isWord_1 := bX11_isWord_0.2.1
def dX11_isWord_4 := bX11_isWord_0.2.2.1
def dX11_isWord_7 := bX11_isWord_0.2.2.2.1
def dX11_isWord_8 := bX11_isWord_0.2.2.2.2.1
def dX11_isWord_11 := bX11_isWord_0.2.2.2.2.2.1
def dX11_isWord_12 := bX11_isWord_0.2.2.2.2.2.2.1
def dX11_isWord_13 := bX11_isWord_0.2.2.2.2.2.2.2.1
def dX11_isWord_14 := bX11_isWord_0.2.2.2.2.2.2.2.2.1
def dX11_isWord_16 := bX11_isWord_0.2.2.2.2.2.2.2.2.2.1
def dX11_isWord_18 := bX11_isWord_0.2.2.2.2.2.2.2.2.2.2.1
def dX11_isWord_20 := bX11_isWord_0.2.2.2.2.2.2.2.2.2.2.2.1
def dX11_isWord_23 := bX11_isWord_0.2.2.2.2.2.2.2.2.2.2.2.2.1
def dX11_isWord_26 := bX11_isWord_0.2.2.2.2.2.2.2.2.2.2.2.2.2.1
def dX11_isWord_27 := bX11_isWord_0.2.2.2.2.2.2.2.2.2.2.2.2.2.2.1
def dX11_isWord_30 := bX11_isWord_0.2.2.2.2.2.2.2.2.2.2.2.2.2.2.2.1
theorem dX11_isWord_31 : decode cX11_isWord 31 = .ok (.ireturn, 1) := by decide +kernel
theorem ggX11_skipWord_X11_byteAt : GoodIn wsX11_skipWord wsX11_byteAt := gW_in gwX11_byteAt (fun _ h => List.mem_cons_of_mem _ (List.mem_append_right _ (List.mem_append_right _ (h))))
set_option maxRecDepth 20000 in
theorem gX11_skipWord_X11_byteAt : GoodIn wsX11_skipWord (wsV RX11 97 RX11 yX11_byteAt wsX11_byteAt) := goodIn_app (goodIn_of _ (by decide +kernel)) ggX11_skipWord_X11_byteAt
theorem bX11_skipWord_0 : fac cX11_skipWord [(0, .aload_n 0, 1), (1, .aload_n 0, 1), (2, .getfield 94, 3), (5, .invokevirtual 97, 3), (8, .bipush 97, 2), (10, .if_icmp .lt 29, 3), (13, .aload_n 0, 1), (14, .aload_n 0, 1), (15, .getfield 94, 3), (18, .invokevirtual 97, 3), (21, .bipush 122, 2), (23, .if_icmp .gt 16, 3), (26, .aload_n 0, 1), (27, .dup, 1), (28, .getfield 94, 3), (31, .iconst 1, 1)] := fac_all 0 _ (by decide +kernel)
def dX11_skipWord_0 := bX11_skipWord_0.1
def dX11_skipWord_1 := bX11_skipWord_0.2.1
def dX11_skipWord_2 := bX11_skipWord_0.2.2.1
def dX11_skipWord_5 := bX11_skipWord_0.2.2.2.1
def dX11_skipWord_8 := bX11_skipWord_0.2.2.2.2.1
def dX11_skipWord_10 := bX11_skipWord_0.2.2.2.2.2.1
def dX11_skipWord_13 := bX11_skipWord_0.2.2.2.2.2.2.1
def dX11_skipWord_14 := bX11_skipWord_0.2.2.2.2.2.2.2.1
def dX11_skipWord_15 := bX11_skipWord_0.2.2.2.2.2.2.2.2.1
def dX11_skipWord_18 := bX11_skipWord_0.2.2.2.2.2.2.2.2.2.1
def dX11_skipWord_21 := bX11_skipWord_0.2.2.2.2.2.2.2.2.2.2.1
def dX11_skipWord_23 := bX11_skipWord_0.2.2.2.2.2.2.2.2.2.2.2.1
def dX11_skipWord_26 := bX11_skipWord_0.2.2.2.2.2.2.2.2.2.2.2.2.1
def dX11_skipWord_27 := bX11_skipWord_0.2.2.2.2.2.2.2.2.2.2.2.2.2.1
def dX11_skipWord_28 := bX11_skipWord_0.2.2.2.2.2.2.2.2.2.2.2.2.2.2.1
def dX11_skipWord_31 := bX11_skipWord_0.2.2.2.2.2.2.2.2.2.2.2.2.2.2.2.1
theorem bX11_skipWord_32 : fac cX11_skipWord [(32, .iadd, 1), (33, .putfield 94, 3), (36, .goto (-36), 3), (39, .return_, 1)] := fac_all 32 _ (by decide +kernel)
def dX11_skipWord_32 := bX11_skipWord_32.1
def dX11_skipWord_33 := bX11_skipWord_32.2.1
def dX11_skipWord_36 := bX11_skipWord_32.2.2.1
def dX11_skipWord_39 := bX11_skipWord_32.2.2.2.1
theorem ggX11_closes_X11_blanks : GoodIn wsX11_closes wsX11_blanks := gW_in gwX11_blanks (fun _ h => List.mem_cons_of_mem _ (List.mem_append_right _ (List.mem_append_right _ (List.mem_append_left _ h))))
set_option maxRecDepth 20000 in
theorem gX11_closes_X11_blanks : GoodIn wsX11_closes (wsV RX11 107 RX11 yX11_blanks wsX11_blanks) := goodIn_app (goodIn_of _ (by decide +kernel)) ggX11_closes_X11_blanks
theorem ggX11_closes_X11_byteAt : GoodIn wsX11_closes wsX11_byteAt := gW_in gwX11_byteAt (fun _ h => List.mem_cons_of_mem _ (List.mem_append_right _ (List.mem_append_right _ (List.mem_append_right _ (List.mem_append_left _ h)))))
set_option maxRecDepth 20000 in
theorem gX11_closes_X11_byteAt : GoodIn wsX11_closes (wsV RX11 97 RX11 yX11_byteAt wsX11_byteAt) := goodIn_app (goodIn_of _ (by decide +kernel)) ggX11_closes_X11_byteAt
theorem ggX11_closes_X11_wrong : GoodIn wsX11_closes wsX11_wrong := gW_in gwX11_wrong (fun _ h => List.mem_cons_of_mem _ (List.mem_append_right _ (List.mem_append_right _ (List.mem_append_right _ (List.mem_append_right _ (h))))))
set_option maxRecDepth 20000 in
theorem gX11_closes_X11_wrong : GoodIn wsX11_closes (wsV RX11 114 RX11 yX11_wrong wsX11_wrong) := goodIn_app (goodIn_of _ (by decide +kernel)) ggX11_closes_X11_wrong
theorem bX11_closes_0 : fac cX11_closes [(0, .aload_n 0, 1), (1, .getfield 101, 3), (4, .ifCond .eq 4, 3), (7, .return_, 1), (8, .aload_n 0, 1), (9, .invokevirtual 107, 3), (12, .aload_n 0, 1), (13, .aload_n 0, 1), (14, .getfield 94, 3), (17, .invokevirtual 97, 3), (20, .bipush 59, 2), (22, .if_icmp .ne 16, 3), (25, .aload_n 0, 1), (26, .dup, 1), (27, .getfield 94, 3), (30, .iconst 1, 1)] := fac_all 0 _ (by decide +kernel)
def dX11_closes_0 := bX11_closes_0.1
def dX11_closes_1 := bX11_closes_0.2.1
def dX11_closes_4 := bX11_closes_0.2.2.1
def dX11_closes_7 := bX11_closes_0.2.2.2.1
def dX11_closes_8 := bX11_closes_0.2.2.2.2.1
def dX11_closes_9 := bX11_closes_0.2.2.2.2.2.1
def dX11_closes_12 := bX11_closes_0.2.2.2.2.2.2.1
def dX11_closes_13 := bX11_closes_0.2.2.2.2.2.2.2.1
def dX11_closes_14 := bX11_closes_0.2.2.2.2.2.2.2.2.1
def dX11_closes_17 := bX11_closes_0.2.2.2.2.2.2.2.2.2.1
def dX11_closes_20 := bX11_closes_0.2.2.2.2.2.2.2.2.2.2.1
def dX11_closes_22 := bX11_closes_0.2.2.2.2.2.2.2.2.2.2.2.1
def dX11_closes_25 := bX11_closes_0.2.2.2.2.2.2.2.2.2.2.2.2.1
def dX11_closes_26 := bX11_closes_0.2.2.2.2.2.2.2.2.2.2.2.2.2.1
def dX11_closes_27 := bX11_closes_0.2.2.2.2.2.2.2.2.2.2.2.2.2.2.1
def dX11_closes_30 := bX11_closes_0.2.2.2.2.2.2.2.2.2.2.2.2.2.2.2.1
theorem bX11_closes_31 : fac cX11_closes [(31, .iadd, 1), (32, .putfield 94, 3), (35, .goto 12, 3), (38, .aload_n 0, 1), (39, .iconst 1, 1), (40, .aload_n 0, 1), (41, .getfield 94, 3), (44, .invokevirtual 114, 3), (47, .return_, 1)] := fac_all 31 _ (by decide +kernel)
def dX11_closes_31 := bX11_closes_31.1
def dX11_closes_32 := bX11_closes_31.2.1
def dX11_closes_35 := bX11_closes_31.2.2.1
def dX11_closes_38 := bX11_closes_31.2.2.2.1
def dX11_closes_39 := bX11_closes_31.2.2.2.2.1
def dX11_closes_40 := bX11_closes_31.2.2.2.2.2.1
def dX11_closes_41 := bX11_closes_31.2.2.2.2.2.2.1
def dX11_closes_44 := bX11_closes_31.2.2.2.2.2.2.2.1
def dX11_closes_47 := bX11_closes_31.2.2.2.2.2.2.2.2.1
theorem ggX11_starts_X11_blanks : GoodIn wsX11_starts wsX11_blanks := gW_in gwX11_blanks (fun _ h => List.mem_cons_of_mem _ (List.mem_append_right _ (List.mem_append_right _ (h))))
set_option maxRecDepth 20000 in
theorem gX11_starts_X11_blanks : GoodIn wsX11_starts (wsV RX11 107 RX11 yX11_blanks wsX11_blanks) := goodIn_app (goodIn_of _ (by decide +kernel)) ggX11_starts_X11_blanks
theorem bX11_starts_0 : fac cX11_starts [(0, .aload_n 0, 1), (1, .iconst 0, 1), (2, .putfield 88, 3), (5, .aload_n 0, 1), (6, .iload_n 1, 1), (7, .putfield 91, 3), (10, .aload_n 0, 1), (11, .iconst 0, 1), (12, .putfield 94, 3), (15, .aload_n 0, 1), (16, .iconst 0, 1), (17, .putfield 101, 3), (20, .aload_n 0, 1), (21, .iconst (-1), 1), (22, .putfield 104, 3), (25, .aload_n 0, 1)] := fac_all 0 _ (by decide +kernel)
def dX11_starts_0 := bX11_starts_0.1
def dX11_starts_1 := bX11_starts_0.2.1
def dX11_starts_2 := bX11_starts_0.2.2.1
def dX11_starts_5 := bX11_starts_0.2.2.2.1
def dX11_starts_6 := bX11_starts_0.2.2.2.2.1
def dX11_starts_7 := bX11_starts_0.2.2.2.2.2.1
def dX11_starts_10 := bX11_starts_0.2.2.2.2.2.2.1
def dX11_starts_11 := bX11_starts_0.2.2.2.2.2.2.2.1
def dX11_starts_12 := bX11_starts_0.2.2.2.2.2.2.2.2.1
def dX11_starts_15 := bX11_starts_0.2.2.2.2.2.2.2.2.2.1
def dX11_starts_16 := bX11_starts_0.2.2.2.2.2.2.2.2.2.2.1
def dX11_starts_17 := bX11_starts_0.2.2.2.2.2.2.2.2.2.2.2.1
def dX11_starts_20 := bX11_starts_0.2.2.2.2.2.2.2.2.2.2.2.2.1
def dX11_starts_21 := bX11_starts_0.2.2.2.2.2.2.2.2.2.2.2.2.2.1
def dX11_starts_22 := bX11_starts_0.2.2.2.2.2.2.2.2.2.2.2.2.2.2.1
def dX11_starts_25 := bX11_starts_0.2.2.2.2.2.2.2.2.2.2.2.2.2.2.2.1
theorem bX11_starts_26 : fac cX11_starts [(26, .iconst 0, 1), (27, .putfield 131, 3), (30, .aload_n 0, 1), (31, .invokevirtual 107, 3), (34, .return_, 1)] := fac_all 26 _ (by decide +kernel)
def dX11_starts_26 := bX11_starts_26.1
def dX11_starts_27 := bX11_starts_26.2.1
def dX11_starts_30 := bX11_starts_26.2.2.1
def dX11_starts_31 := bX11_starts_26.2.2.2.1
def dX11_starts_34 := bX11_starts_26.2.2.2.2.1
theorem ggX11_kindHere_X11_isWord : GoodIn wsX11_kindHere wsX11_isWord := gW_in gwX11_isWord (fun _ h => List.mem_cons_of_mem _ (List.mem_append_right _ (List.mem_append_right _ (h))))
set_option maxRecDepth 20000 in
theorem gX11_kindHere_X11_isWord : GoodIn wsX11_kindHere (wsV RX11 134 RX11 yX11_isWord wsX11_isWord) := goodIn_app (goodIn_of _ (by decide +kernel)) ggX11_kindHere_X11_isWord
theorem bX11_kindHere_0 : fac cX11_kindHere [(0, .aload_n 0, 1), (1, .bipush 23, 2), (3, .iconst 1, 1), (4, .bipush 12, 2), (6, .bipush 12, 2), (8, .iconst 0, 1), (9, .iconst 0, 1), (10, .invokevirtual 134, 3), (13, .ifCond .eq 5, 3), (16, .iconst 0, 1), (17, .ireturn, 1), (18, .aload_n 0, 1), (19, .iconst 4, 1), (20, .bipush 21, 2), (22, .bipush 11, 2), (24, .iconst 5, 1)] := fac_all 0 _ (by decide +kernel)
def dX11_kindHere_0 := bX11_kindHere_0.1
def dX11_kindHere_1 := bX11_kindHere_0.2.1
def dX11_kindHere_3 := bX11_kindHere_0.2.2.1
def dX11_kindHere_4 := bX11_kindHere_0.2.2.2.1
def dX11_kindHere_6 := bX11_kindHere_0.2.2.2.2.1
def dX11_kindHere_8 := bX11_kindHere_0.2.2.2.2.2.1
def dX11_kindHere_9 := bX11_kindHere_0.2.2.2.2.2.2.1
def dX11_kindHere_10 := bX11_kindHere_0.2.2.2.2.2.2.2.1
def dX11_kindHere_13 := bX11_kindHere_0.2.2.2.2.2.2.2.2.1
def dX11_kindHere_16 := bX11_kindHere_0.2.2.2.2.2.2.2.2.2.1
def dX11_kindHere_17 := bX11_kindHere_0.2.2.2.2.2.2.2.2.2.2.1
def dX11_kindHere_18 := bX11_kindHere_0.2.2.2.2.2.2.2.2.2.2.2.1
def dX11_kindHere_19 := bX11_kindHere_0.2.2.2.2.2.2.2.2.2.2.2.2.1
def dX11_kindHere_20 := bX11_kindHere_0.2.2.2.2.2.2.2.2.2.2.2.2.2.1
def dX11_kindHere_22 := bX11_kindHere_0.2.2.2.2.2.2.2.2.2.2.2.2.2.2.1
def dX11_kindHere_24 := bX11_kindHere_0.2.2.2.2.2.2.2.2.2.2.2.2.2.2.2.1
theorem bX11_kindHere_25 : fac cX11_kindHere [(25, .iconst 0, 1), (26, .iconst 0, 1), (27, .invokevirtual 134, 3), (30, .ifCond .eq 5, 3), (33, .iconst 1, 1), (34, .ireturn, 1), (35, .aload_n 0, 1), (36, .iconst 5, 1), (37, .bipush 14, 2), (39, .iconst 5, 1), (40, .bipush 13, 2), (42, .bipush 25, 2), (44, .iconst 0, 1), (45, .invokevirtual 134, 3), (48, .ifCond .eq 5, 3), (51, .iconst 4, 1)] := fac_all 25 _ (by decide +kernel)
def dX11_kindHere_25 := bX11_kindHere_25.1
def dX11_kindHere_26 := bX11_kindHere_25.2.1
def dX11_kindHere_27 := bX11_kindHere_25.2.2.1
def dX11_kindHere_30 := bX11_kindHere_25.2.2.2.1
def dX11_kindHere_33 := bX11_kindHere_25.2.2.2.2.1
def dX11_kindHere_34 := bX11_kindHere_25.2.2.2.2.2.1
def dX11_kindHere_35 := bX11_kindHere_25.2.2.2.2.2.2.1
def dX11_kindHere_36 := bX11_kindHere_25.2.2.2.2.2.2.2.1
def dX11_kindHere_37 := bX11_kindHere_25.2.2.2.2.2.2.2.2.1
def dX11_kindHere_39 := bX11_kindHere_25.2.2.2.2.2.2.2.2.2.1
def dX11_kindHere_40 := bX11_kindHere_25.2.2.2.2.2.2.2.2.2.2.1
def dX11_kindHere_42 := bX11_kindHere_25.2.2.2.2.2.2.2.2.2.2.2.1
def dX11_kindHere_44 := bX11_kindHere_25.2.2.2.2.2.2.2.2.2.2.2.2.1
def dX11_kindHere_45 := bX11_kindHere_25.2.2.2.2.2.2.2.2.2.2.2.2.2.1
def dX11_kindHere_48 := bX11_kindHere_25.2.2.2.2.2.2.2.2.2.2.2.2.2.2.1
def dX11_kindHere_51 := bX11_kindHere_25.2.2.2.2.2.2.2.2.2.2.2.2.2.2.2.1
theorem bX11_kindHere_52 : fac cX11_kindHere [(52, .ireturn, 1), (53, .aload_n 0, 1), (54, .bipush 20, 2), (56, .bipush 15, 2), (58, .bipush 23, 2), (60, .bipush 14, 2), (62, .iconst 0, 1), (63, .iconst 0, 1), (64, .invokevirtual 134, 3), (67, .ifCond .eq 6, 3), (70, .bipush 7, 2), (72, .ireturn, 1), (73, .aload_n 0, 1), (74, .bipush 6, 2), (76, .iconst 5, 1), (77, .iconst 1, 1)] := fac_all 52 _ (by decide +kernel)
def dX11_kindHere_52 := bX11_kindHere_52.1
def dX11_kindHere_53 := bX11_kindHere_52.2.1
def dX11_kindHere_54 := bX11_kindHere_52.2.2.1
def dX11_kindHere_56 := bX11_kindHere_52.2.2.2.1
def dX11_kindHere_58 := bX11_kindHere_52.2.2.2.2.1
def dX11_kindHere_60 := bX11_kindHere_52.2.2.2.2.2.1
def dX11_kindHere_62 := bX11_kindHere_52.2.2.2.2.2.2.1
def dX11_kindHere_63 := bX11_kindHere_52.2.2.2.2.2.2.2.1
def dX11_kindHere_64 := bX11_kindHere_52.2.2.2.2.2.2.2.2.1
def dX11_kindHere_67 := bX11_kindHere_52.2.2.2.2.2.2.2.2.2.1
def dX11_kindHere_70 := bX11_kindHere_52.2.2.2.2.2.2.2.2.2.2.1
def dX11_kindHere_72 := bX11_kindHere_52.2.2.2.2.2.2.2.2.2.2.2.1
def dX11_kindHere_73 := bX11_kindHere_52.2.2.2.2.2.2.2.2.2.2.2.2.1
def dX11_kindHere_74 := bX11_kindHere_52.2.2.2.2.2.2.2.2.2.2.2.2.2.1
def dX11_kindHere_76 := bX11_kindHere_52.2.2.2.2.2.2.2.2.2.2.2.2.2.2.1
def dX11_kindHere_77 := bX11_kindHere_52.2.2.2.2.2.2.2.2.2.2.2.2.2.2.2.1
theorem bX11_kindHere_78 : fac cX11_kindHere [(78, .bipush 18, 2), (80, .iconst 0, 1), (81, .iconst 0, 1), (82, .invokevirtual 134, 3), (85, .ifCond .eq 6, 3), (88, .bipush 9, 2), (90, .ireturn, 1), (91, .aload_n 0, 1), (92, .bipush 13, 2), (94, .iconst 1, 1), (95, .bipush 19, 2), (97, .bipush 15, 2), (99, .bipush 14, 2), (101, .iconst 0, 1), (102, .invokevirtual 134, 3), (105, .ifCond .eq 6, 3)] := fac_all 78 _ (by decide +kernel)
def dX11_kindHere_78 := bX11_kindHere_78.1
def dX11_kindHere_80 := bX11_kindHere_78.2.1
def dX11_kindHere_81 := bX11_kindHere_78.2.2.1
def dX11_kindHere_82 := bX11_kindHere_78.2.2.2.1
def dX11_kindHere_85 := bX11_kindHere_78.2.2.2.2.1
def dX11_kindHere_88 := bX11_kindHere_78.2.2.2.2.2.1
def dX11_kindHere_90 := bX11_kindHere_78.2.2.2.2.2.2.1
def dX11_kindHere_91 := bX11_kindHere_78.2.2.2.2.2.2.2.1
def dX11_kindHere_92 := bX11_kindHere_78.2.2.2.2.2.2.2.2.1
def dX11_kindHere_94 := bX11_kindHere_78.2.2.2.2.2.2.2.2.2.1
def dX11_kindHere_95 := bX11_kindHere_78.2.2.2.2.2.2.2.2.2.2.1
def dX11_kindHere_97 := bX11_kindHere_78.2.2.2.2.2.2.2.2.2.2.2.1
def dX11_kindHere_99 := bX11_kindHere_78.2.2.2.2.2.2.2.2.2.2.2.2.1
def dX11_kindHere_101 := bX11_kindHere_78.2.2.2.2.2.2.2.2.2.2.2.2.2.1
def dX11_kindHere_102 := bX11_kindHere_78.2.2.2.2.2.2.2.2.2.2.2.2.2.2.1
def dX11_kindHere_105 := bX11_kindHere_78.2.2.2.2.2.2.2.2.2.2.2.2.2.2.2.1
theorem bX11_kindHere_108 : fac cX11_kindHere [(108, .bipush 12, 2), (110, .ireturn, 1), (111, .aload_n 0, 1), (112, .iconst 3, 1), (113, .bipush 15, 2), (115, .bipush 19, 2), (117, .bipush 20, 2), (119, .iconst 0, 1), (120, .iconst 0, 1), (121, .invokevirtual 134, 3), (124, .ifCond .eq 6, 3), (127, .bipush 13, 2), (129, .ireturn, 1), (130, .aload_n 0, 1), (131, .bipush 14, 2), (133, .iconst 5, 1)] := fac_all 108 _ (by decide +kernel)
def dX11_kindHere_108 := bX11_kindHere_108.1
def dX11_kindHere_110 := bX11_kindHere_108.2.1
def dX11_kindHere_111 := bX11_kindHere_108.2.2.1
def dX11_kindHere_112 := bX11_kindHere_108.2.2.2.1
def dX11_kindHere_113 := bX11_kindHere_108.2.2.2.2.1
def dX11_kindHere_115 := bX11_kindHere_108.2.2.2.2.2.1
def dX11_kindHere_117 := bX11_kindHere_108.2.2.2.2.2.2.1
def dX11_kindHere_119 := bX11_kindHere_108.2.2.2.2.2.2.2.1
def dX11_kindHere_120 := bX11_kindHere_108.2.2.2.2.2.2.2.2.1
def dX11_kindHere_121 := bX11_kindHere_108.2.2.2.2.2.2.2.2.2.1
def dX11_kindHere_124 := bX11_kindHere_108.2.2.2.2.2.2.2.2.2.2.1
def dX11_kindHere_127 := bX11_kindHere_108.2.2.2.2.2.2.2.2.2.2.2.1
def dX11_kindHere_129 := bX11_kindHere_108.2.2.2.2.2.2.2.2.2.2.2.2.1
def dX11_kindHere_130 := bX11_kindHere_108.2.2.2.2.2.2.2.2.2.2.2.2.2.1
def dX11_kindHere_131 := bX11_kindHere_108.2.2.2.2.2.2.2.2.2.2.2.2.2.2.1
def dX11_kindHere_133 := bX11_kindHere_108.2.2.2.2.2.2.2.2.2.2.2.2.2.2.2.1
theorem bX11_kindHere_134 : fac cX11_kindHere [(134, .iconst 1, 1), (135, .bipush 18, 2), (137, .iconst 0, 1), (138, .iconst 0, 1), (139, .invokevirtual 134, 3), (142, .ifCond .eq 8, 3), (145, .bipush 15, 2), (147, .goto 4, 3), (150, .iconst (-1), 1), (151, .ireturn, 1)] := fac_all 134 _ (by decide +kernel)
def dX11_kindHere_134 := bX11_kindHere_134.1
def dX11_kindHere_135 := bX11_kindHere_134.2.1
def dX11_kindHere_137 := bX11_kindHere_134.2.2.1
def dX11_kindHere_138 := bX11_kindHere_134.2.2.2.1
def dX11_kindHere_139 := bX11_kindHere_134.2.2.2.2.1
def dX11_kindHere_142 := bX11_kindHere_134.2.2.2.2.2.1
def dX11_kindHere_145 := bX11_kindHere_134.2.2.2.2.2.2.1
def dX11_kindHere_147 := bX11_kindHere_134.2.2.2.2.2.2.2.1
def dX11_kindHere_150 := bX11_kindHere_134.2.2.2.2.2.2.2.2.1
def dX11_kindHere_151 := bX11_kindHere_134.2.2.2.2.2.2.2.2.2.1
theorem ggX11_clause_X11_kindHere : GoodIn wsX11_clause wsX11_kindHere := gW_in gwX11_kindHere (fun _ h => List.mem_cons_of_mem _ (List.mem_append_right _ (List.mem_append_right _ (List.mem_append_left _ h))))
set_option maxRecDepth 20000 in
theorem gX11_clause_X11_kindHere : GoodIn wsX11_clause (wsV RX11 138 RX11 yX11_kindHere wsX11_kindHere) := goodIn_app (goodIn_of _ (by decide +kernel)) ggX11_clause_X11_kindHere
theorem ggX11_clause_X11_wrong : GoodIn wsX11_clause wsX11_wrong := gW_in gwX11_wrong (fun _ h => List.mem_cons_of_mem _ (List.mem_append_right _ (List.mem_append_right _ (List.mem_append_right _ (List.mem_append_left _ h)))))
set_option maxRecDepth 20000 in
theorem gX11_clause_X11_wrong : GoodIn wsX11_clause (wsV RX11 114 RX11 yX11_wrong wsX11_wrong) := goodIn_app (goodIn_of _ (by decide +kernel)) ggX11_clause_X11_wrong
theorem ggX11_clause_X11_skipWord : GoodIn wsX11_clause wsX11_skipWord := gW_in gwX11_skipWord (fun _ h => List.mem_cons_of_mem _ (List.mem_append_right _ (List.mem_append_right _ (List.mem_append_right _ (List.mem_append_right _ (List.mem_append_left _ h))))))
set_option maxRecDepth 20000 in
theorem gX11_clause_X11_skipWord : GoodIn wsX11_clause (wsV RX11 141 RX11 yX11_skipWord wsX11_skipWord) := goodIn_app (goodIn_of _ (by decide +kernel)) ggX11_clause_X11_skipWord
theorem ggX11_clause_X11_number : GoodIn wsX11_clause wsX11_number := gW_in gwX11_number (fun _ h => List.mem_cons_of_mem _ (List.mem_append_right _ (List.mem_append_right _ (List.mem_append_right _ (List.mem_append_right _ (List.mem_append_right _ (List.mem_append_left _ h)))))))
set_option maxRecDepth 20000 in
theorem gX11_clause_X11_number : GoodIn wsX11_clause (wsV RX11 144 RX11 yX11_number wsX11_number) := goodIn_app (goodIn_of _ (by decide +kernel)) ggX11_clause_X11_number
theorem ggX11_clause_X11_closes : GoodIn wsX11_clause wsX11_closes := gW_in gwX11_closes (fun _ h => List.mem_cons_of_mem _ (List.mem_append_right _ (List.mem_append_right _ (List.mem_append_right _ (List.mem_append_right _ (List.mem_append_right _ (List.mem_append_right _ (h))))))))
set_option maxRecDepth 20000 in
theorem gX11_clause_X11_closes : GoodIn wsX11_clause (wsV RX11 148 RX11 yX11_closes wsX11_closes) := goodIn_app (goodIn_of _ (by decide +kernel)) ggX11_clause_X11_closes
theorem bX11_clause_0 : fac cX11_clause [(0, .aload_n 0, 1), (1, .invokevirtual 138, 3), (4, .istore_n 1, 1), (5, .iload_n 1, 1), (6, .iconst (-1), 1), (7, .if_icmp .ne 15, 3), (10, .aload_n 0, 1), (11, .iconst 1, 1), (12, .aload_n 0, 1), (13, .getfield 94, 3), (16, .invokevirtual 114, 3), (19, .goto 36, 3), (22, .aload_n 0, 1), (23, .getfield 131, 3), (26, .bipush 60, 2), (28, .if_icmp .eq 18, 3)] := fac_all 0 _ (by decide +kernel)
def dX11_clause_0 := bX11_clause_0.1
def dX11_clause_1 := bX11_clause_0.2.1
def dX11_clause_4 := bX11_clause_0.2.2.1
def dX11_clause_5 := bX11_clause_0.2.2.2.1
def dX11_clause_6 := bX11_clause_0.2.2.2.2.1
def dX11_clause_7 := bX11_clause_0.2.2.2.2.2.1
def dX11_clause_10 := bX11_clause_0.2.2.2.2.2.2.1
def dX11_clause_11 := bX11_clause_0.2.2.2.2.2.2.2.1
def dX11_clause_12 := bX11_clause_0.2.2.2.2.2.2.2.2.1
def dX11_clause_13 := bX11_clause_0.2.2.2.2.2.2.2.2.2.1
def dX11_clause_16 := bX11_clause_0.2.2.2.2.2.2.2.2.2.2.1
def dX11_clause_19 := bX11_clause_0.2.2.2.2.2.2.2.2.2.2.2.1
def dX11_clause_22 := bX11_clause_0.2.2.2.2.2.2.2.2.2.2.2.2.1
def dX11_clause_23 := bX11_clause_0.2.2.2.2.2.2.2.2.2.2.2.2.2.1
def dX11_clause_26 := bX11_clause_0.2.2.2.2.2.2.2.2.2.2.2.2.2.2.1
def dX11_clause_28 := bX11_clause_0.2.2.2.2.2.2.2.2.2.2.2.2.2.2.2.1
theorem bX11_clause_31 : fac cX11_clause [(31, .iload_n 1, 1), (32, .ifCond .ne 23, 3), (35, .aload_n 0, 1), (36, .getfield 20, 3), (39, .iconst 0, 1), (40, .iaload, 1), (41, .bipush 6, 2), (43, .if_icmp .ne 12, 3), (46, .aload_n 0, 1), (47, .iconst 3, 1), (48, .aload_n 0, 1), (49, .getfield 94, 3), (52, .invokevirtual 114, 3), (55, .aload_n 0, 1), (56, .getfield 101, 3), (59, .ifCond .eq 4, 3)] := fac_all 31 _ (by decide +kernel)
def dX11_clause_31 := bX11_clause_31.1
def dX11_clause_32 := bX11_clause_31.2.1
def dX11_clause_35 := bX11_clause_31.2.2.1
def dX11_clause_36 := bX11_clause_31.2.2.2.1
def dX11_clause_39 := bX11_clause_31.2.2.2.2.1
def dX11_clause_40 := bX11_clause_31.2.2.2.2.2.1
def dX11_clause_41 := bX11_clause_31.2.2.2.2.2.2.1
def dX11_clause_43 := bX11_clause_31.2.2.2.2.2.2.2.1
def dX11_clause_46 := bX11_clause_31.2.2.2.2.2.2.2.2.1
def dX11_clause_47 := bX11_clause_31.2.2.2.2.2.2.2.2.2.1
def dX11_clause_48 := bX11_clause_31.2.2.2.2.2.2.2.2.2.2.1
def dX11_clause_49 := bX11_clause_31.2.2.2.2.2.2.2.2.2.2.2.1
def dX11_clause_52 := bX11_clause_31.2.2.2.2.2.2.2.2.2.2.2.2.1
def dX11_clause_55 := bX11_clause_31.2.2.2.2.2.2.2.2.2.2.2.2.2.1
def dX11_clause_56 := bX11_clause_31.2.2.2.2.2.2.2.2.2.2.2.2.2.2.1
def dX11_clause_59 := bX11_clause_31.2.2.2.2.2.2.2.2.2.2.2.2.2.2.2.1
theorem bX11_clause_62 : fac cX11_clause [(62, .return_, 1), (63, .aload_n 0, 1), (64, .invokevirtual 141, 3), (67, .aload_n 0, 1), (68, .dup, 1), (69, .getfield 131, 3), (72, .iconst 1, 1), (73, .iadd, 1), (74, .putfield 131, 3), (77, .iload_n 1, 1), (78, .tableswitch 288 0 13 #[70, 115, 288, 288, 115, 288, 288, 163, 288, 195, 288, 288, 240, 257], 70), (148, .aload_n 0, 1), (149, .getfield 28, 3), (152, .aload_n 0, 1), (153, .getfield 20, 3), (156, .iconst 0, 1)] := fac_all 62 _ (by decide +kernel)
def dX11_clause_62 := bX11_clause_62.1
def dX11_clause_63 := bX11_clause_62.2.1
def dX11_clause_64 := bX11_clause_62.2.2.1
def dX11_clause_67 := bX11_clause_62.2.2.2.1
def dX11_clause_68 := bX11_clause_62.2.2.2.2.1
def dX11_clause_69 := bX11_clause_62.2.2.2.2.2.1
def dX11_clause_72 := bX11_clause_62.2.2.2.2.2.2.1
def dX11_clause_73 := bX11_clause_62.2.2.2.2.2.2.2.1
def dX11_clause_74 := bX11_clause_62.2.2.2.2.2.2.2.2.1
def dX11_clause_77 := bX11_clause_62.2.2.2.2.2.2.2.2.2.1
def dX11_clause_78 := bX11_clause_62.2.2.2.2.2.2.2.2.2.2.1
def dX11_clause_148 := bX11_clause_62.2.2.2.2.2.2.2.2.2.2.2.1
def dX11_clause_149 := bX11_clause_62.2.2.2.2.2.2.2.2.2.2.2.2.1
def dX11_clause_152 := bX11_clause_62.2.2.2.2.2.2.2.2.2.2.2.2.2.1
def dX11_clause_153 := bX11_clause_62.2.2.2.2.2.2.2.2.2.2.2.2.2.2.1
def dX11_clause_156 := bX11_clause_62.2.2.2.2.2.2.2.2.2.2.2.2.2.2.2.1
theorem bX11_clause_157 : fac cX11_clause [(157, .iaload, 1), (158, .aaload, 1), (159, .astore_n 2, 1), (160, .aload_n 2, 1), (161, .iconst 0, 1), (162, .aload_n 0, 1), (163, .iconst 1, 1), (164, .bipush 99, 2), (166, .invokevirtual 144, 3), (169, .iastore, 1), (170, .aload_n 2, 1), (171, .iconst 1, 1), (172, .aload_n 0, 1), (173, .iconst 0, 1), (174, .bipush 50, 2), (176, .invokevirtual 144, 3)] := fac_all 157 _ (by decide +kernel)
def dX11_clause_157 := bX11_clause_157.1
def dX11_clause_158 := bX11_clause_157.2.1
def dX11_clause_159 := bX11_clause_157.2.2.1
def dX11_clause_160 := bX11_clause_157.2.2.2.1
def dX11_clause_161 := bX11_clause_157.2.2.2.2.1
def dX11_clause_162 := bX11_clause_157.2.2.2.2.2.1
def dX11_clause_163 := bX11_clause_157.2.2.2.2.2.2.1
def dX11_clause_164 := bX11_clause_157.2.2.2.2.2.2.2.1
def dX11_clause_166 := bX11_clause_157.2.2.2.2.2.2.2.2.1
def dX11_clause_169 := bX11_clause_157.2.2.2.2.2.2.2.2.2.1
def dX11_clause_170 := bX11_clause_157.2.2.2.2.2.2.2.2.2.2.1
def dX11_clause_171 := bX11_clause_157.2.2.2.2.2.2.2.2.2.2.2.1
def dX11_clause_172 := bX11_clause_157.2.2.2.2.2.2.2.2.2.2.2.2.1
def dX11_clause_173 := bX11_clause_157.2.2.2.2.2.2.2.2.2.2.2.2.2.1
def dX11_clause_174 := bX11_clause_157.2.2.2.2.2.2.2.2.2.2.2.2.2.2.1
def dX11_clause_176 := bX11_clause_157.2.2.2.2.2.2.2.2.2.2.2.2.2.2.2.1
theorem bX11_clause_179 : fac cX11_clause [(179, .iastore, 1), (180, .aload_n 0, 1), (181, .getfield 20, 3), (184, .iconst 0, 1), (185, .dup2, 1), (186, .iaload, 1), (187, .iconst 1, 1), (188, .iadd, 1), (189, .iastore, 1), (190, .goto 203, 3), (193, .aload_n 0, 1), (194, .getfield 20, 3), (197, .iload_n 1, 1), (198, .aload_n 0, 1), (199, .iconst 0, 1), (200, .sipush 9999, 3)] := fac_all 179 _ (by decide +kernel)
def dX11_clause_179 := bX11_clause_179.1
def dX11_clause_180 := bX11_clause_179.2.1
def dX11_clause_181 := bX11_clause_179.2.2.1
def dX11_clause_184 := bX11_clause_179.2.2.2.1
def dX11_clause_185 := bX11_clause_179.2.2.2.2.1
def dX11_clause_186 := bX11_clause_179.2.2.2.2.2.1
def dX11_clause_187 := bX11_clause_179.2.2.2.2.2.2.1
def dX11_clause_188 := bX11_clause_179.2.2.2.2.2.2.2.1
def dX11_clause_189 := bX11_clause_179.2.2.2.2.2.2.2.2.1
def dX11_clause_190 := bX11_clause_179.2.2.2.2.2.2.2.2.2.1
def dX11_clause_193 := bX11_clause_179.2.2.2.2.2.2.2.2.2.2.1
def dX11_clause_194 := bX11_clause_179.2.2.2.2.2.2.2.2.2.2.2.1
def dX11_clause_197 := bX11_clause_179.2.2.2.2.2.2.2.2.2.2.2.2.1
def dX11_clause_198 := bX11_clause_179.2.2.2.2.2.2.2.2.2.2.2.2.2.1
def dX11_clause_199 := bX11_clause_179.2.2.2.2.2.2.2.2.2.2.2.2.2.2.1
def dX11_clause_200 := bX11_clause_179.2.2.2.2.2.2.2.2.2.2.2.2.2.2.2.1
theorem bX11_clause_203 : fac cX11_clause [(203, .invokevirtual 144, 3), (206, .iastore, 1), (207, .aload_n 0, 1), (208, .getfield 20, 3), (211, .iload_n 1, 1), (212, .iconst 1, 1), (213, .iadd, 1), (214, .aload_n 0, 1), (215, .iconst 0, 1), (216, .sipush 999, 3), (219, .invokevirtual 144, 3), (222, .iastore, 1), (223, .aload_n 0, 1), (224, .getfield 20, 3), (227, .iload_n 1, 1), (228, .iconst 2, 1)] := fac_all 203 _ (by decide +kernel)
def dX11_clause_203 := bX11_clause_203.1
def dX11_clause_206 := bX11_clause_203.2.1
def dX11_clause_207 := bX11_clause_203.2.2.1
def dX11_clause_208 := bX11_clause_203.2.2.2.1
def dX11_clause_211 := bX11_clause_203.2.2.2.2.1
def dX11_clause_212 := bX11_clause_203.2.2.2.2.2.1
def dX11_clause_213 := bX11_clause_203.2.2.2.2.2.2.1
def dX11_clause_214 := bX11_clause_203.2.2.2.2.2.2.2.1
def dX11_clause_215 := bX11_clause_203.2.2.2.2.2.2.2.2.1
def dX11_clause_216 := bX11_clause_203.2.2.2.2.2.2.2.2.2.1
def dX11_clause_219 := bX11_clause_203.2.2.2.2.2.2.2.2.2.2.1
def dX11_clause_222 := bX11_clause_203.2.2.2.2.2.2.2.2.2.2.2.1
def dX11_clause_223 := bX11_clause_203.2.2.2.2.2.2.2.2.2.2.2.2.1
def dX11_clause_224 := bX11_clause_203.2.2.2.2.2.2.2.2.2.2.2.2.2.1
def dX11_clause_227 := bX11_clause_203.2.2.2.2.2.2.2.2.2.2.2.2.2.2.1
def dX11_clause_228 := bX11_clause_203.2.2.2.2.2.2.2.2.2.2.2.2.2.2.2.1
theorem bX11_clause_229 : fac cX11_clause [(229, .iadd, 1), (230, .aload_n 0, 1), (231, .iconst 0, 1), (232, .bipush 9, 2), (234, .invokevirtual 144, 3), (237, .iastore, 1), (238, .goto 155, 3), (241, .aload_n 0, 1), (242, .getfield 20, 3), (245, .bipush 7, 2), (247, .aload_n 0, 1), (248, .iconst 0, 1), (249, .sipush 9999, 3), (252, .invokevirtual 144, 3), (255, .iastore, 1), (256, .aload_n 0, 1)] := fac_all 229 _ (by decide +kernel)
def dX11_clause_229 := bX11_clause_229.1
def dX11_clause_230 := bX11_clause_229.2.1
def dX11_clause_231 := bX11_clause_229.2.2.1
def dX11_clause_232 := bX11_clause_229.2.2.2.1
def dX11_clause_234 := bX11_clause_229.2.2.2.2.1
def dX11_clause_237 := bX11_clause_229.2.2.2.2.2.1
def dX11_clause_238 := bX11_clause_229.2.2.2.2.2.2.1
def dX11_clause_241 := bX11_clause_229.2.2.2.2.2.2.2.1
def dX11_clause_242 := bX11_clause_229.2.2.2.2.2.2.2.2.1
def dX11_clause_245 := bX11_clause_229.2.2.2.2.2.2.2.2.2.1
def dX11_clause_247 := bX11_clause_229.2.2.2.2.2.2.2.2.2.2.1
def dX11_clause_248 := bX11_clause_229.2.2.2.2.2.2.2.2.2.2.2.1
def dX11_clause_249 := bX11_clause_229.2.2.2.2.2.2.2.2.2.2.2.2.1
def dX11_clause_252 := bX11_clause_229.2.2.2.2.2.2.2.2.2.2.2.2.2.1
def dX11_clause_255 := bX11_clause_229.2.2.2.2.2.2.2.2.2.2.2.2.2.2.1
def dX11_clause_256 := bX11_clause_229.2.2.2.2.2.2.2.2.2.2.2.2.2.2.2.1
theorem bX11_clause_257 : fac cX11_clause [(257, .getfield 20, 3), (260, .bipush 8, 2), (262, .aload_n 0, 1), (263, .iconst 0, 1), (264, .bipush 100, 2), (266, .invokevirtual 144, 3), (269, .iastore, 1), (270, .goto 123, 3), (273, .aload_n 0, 1), (274, .getfield 20, 3), (277, .bipush 9, 2), (279, .aload_n 0, 1), (280, .iconst 0, 1), (281, .bipush 100, 2), (283, .invokevirtual 144, 3), (286, .iastore, 1)] := fac_all 257 _ (by decide +kernel)
def dX11_clause_257 := bX11_clause_257.1
def dX11_clause_260 := bX11_clause_257.2.1
def dX11_clause_262 := bX11_clause_257.2.2.1
def dX11_clause_263 := bX11_clause_257.2.2.2.1
def dX11_clause_264 := bX11_clause_257.2.2.2.2.1
def dX11_clause_266 := bX11_clause_257.2.2.2.2.2.1
def dX11_clause_269 := bX11_clause_257.2.2.2.2.2.2.1
def dX11_clause_270 := bX11_clause_257.2.2.2.2.2.2.2.1
def dX11_clause_273 := bX11_clause_257.2.2.2.2.2.2.2.2.1
def dX11_clause_274 := bX11_clause_257.2.2.2.2.2.2.2.2.2.1
def dX11_clause_277 := bX11_clause_257.2.2.2.2.2.2.2.2.2.2.1
def dX11_clause_279 := bX11_clause_257.2.2.2.2.2.2.2.2.2.2.2.1
def dX11_clause_280 := bX11_clause_257.2.2.2.2.2.2.2.2.2.2.2.2.1
def dX11_clause_281 := bX11_clause_257.2.2.2.2.2.2.2.2.2.2.2.2.2.1
def dX11_clause_283 := bX11_clause_257.2.2.2.2.2.2.2.2.2.2.2.2.2.2.1
def dX11_clause_286 := bX11_clause_257.2.2.2.2.2.2.2.2.2.2.2.2.2.2.2.1
theorem bX11_clause_287 : fac cX11_clause [(287, .aload_n 0, 1), (288, .getfield 20, 3), (291, .bipush 10, 2), (293, .aload_n 0, 1), (294, .iconst 0, 1), (295, .bipush 50, 2), (297, .invokevirtual 144, 3), (300, .iastore, 1), (301, .aload_n 0, 1), (302, .getfield 20, 3), (305, .bipush 11, 2), (307, .aload_n 0, 1), (308, .iconst 0, 1), (309, .bipush 50, 2), (311, .invokevirtual 144, 3), (314, .iastore, 1)] := fac_all 287 _ (by decide +kernel)
def dX11_clause_287 := bX11_clause_287.1
def dX11_clause_288 := bX11_clause_287.2.1
def dX11_clause_291 := bX11_clause_287.2.2.1
def dX11_clause_293 := bX11_clause_287.2.2.2.1
def dX11_clause_294 := bX11_clause_287.2.2.2.2.1
def dX11_clause_295 := bX11_clause_287.2.2.2.2.2.1
def dX11_clause_297 := bX11_clause_287.2.2.2.2.2.2.1
def dX11_clause_300 := bX11_clause_287.2.2.2.2.2.2.2.1
def dX11_clause_301 := bX11_clause_287.2.2.2.2.2.2.2.2.1
def dX11_clause_302 := bX11_clause_287.2.2.2.2.2.2.2.2.2.1
def dX11_clause_305 := bX11_clause_287.2.2.2.2.2.2.2.2.2.2.1
def dX11_clause_307 := bX11_clause_287.2.2.2.2.2.2.2.2.2.2.2.1
def dX11_clause_308 := bX11_clause_287.2.2.2.2.2.2.2.2.2.2.2.2.1
def dX11_clause_309 := bX11_clause_287.2.2.2.2.2.2.2.2.2.2.2.2.2.1
def dX11_clause_311 := bX11_clause_287.2.2.2.2.2.2.2.2.2.2.2.2.2.2.1
def dX11_clause_314 := bX11_clause_287.2.2.2.2.2.2.2.2.2.2.2.2.2.2.2.1
theorem bX11_clause_315 : fac cX11_clause [(315, .goto 78, 3), (318, .aload_n 0, 1), (319, .getfield 20, 3), (322, .bipush 12, 2), (324, .aload_n 0, 1), (325, .iconst 0, 1), (326, .bipush 9, 2), (328, .invokevirtual 144, 3), (331, .iastore, 1), (332, .goto 61, 3), (335, .aload_n 0, 1), (336, .getfield 20, 3), (339, .bipush 13, 2), (341, .aload_n 0, 1), (342, .iconst 0, 1), (343, .bipush 99, 2)] := fac_all 315 _ (by decide +kernel)
def dX11_clause_315 := bX11_clause_315.1
def dX11_clause_318 := bX11_clause_315.2.1
def dX11_clause_319 := bX11_clause_315.2.2.1
def dX11_clause_322 := bX11_clause_315.2.2.2.1
def dX11_clause_324 := bX11_clause_315.2.2.2.2.1
def dX11_clause_325 := bX11_clause_315.2.2.2.2.2.1
def dX11_clause_326 := bX11_clause_315.2.2.2.2.2.2.1
def dX11_clause_328 := bX11_clause_315.2.2.2.2.2.2.2.1
def dX11_clause_331 := bX11_clause_315.2.2.2.2.2.2.2.2.1
def dX11_clause_332 := bX11_clause_315.2.2.2.2.2.2.2.2.2.1
def dX11_clause_335 := bX11_clause_315.2.2.2.2.2.2.2.2.2.2.1
def dX11_clause_336 := bX11_clause_315.2.2.2.2.2.2.2.2.2.2.2.1
def dX11_clause_339 := bX11_clause_315.2.2.2.2.2.2.2.2.2.2.2.2.1
def dX11_clause_341 := bX11_clause_315.2.2.2.2.2.2.2.2.2.2.2.2.2.1
def dX11_clause_342 := bX11_clause_315.2.2.2.2.2.2.2.2.2.2.2.2.2.2.1
def dX11_clause_343 := bX11_clause_315.2.2.2.2.2.2.2.2.2.2.2.2.2.2.2.1
theorem bX11_clause_345 : fac cX11_clause [(345, .invokevirtual 144, 3), (348, .iastore, 1), (349, .aload_n 0, 1), (350, .getfield 20, 3), (353, .bipush 14, 2), (355, .aload_n 0, 1), (356, .iconst 0, 1), (357, .bipush 99, 2), (359, .invokevirtual 144, 3), (362, .iastore, 1), (363, .goto 30, 3), (366, .aload_n 0, 1), (367, .iconst 0, 1), (368, .bipush 9, 2), (370, .invokevirtual 144, 3), (373, .istore_n 2, 1)] := fac_all 345 _ (by decide +kernel)
def dX11_clause_345 := bX11_clause_345.1
def dX11_clause_348 := bX11_clause_345.2.1
def dX11_clause_349 := bX11_clause_345.2.2.1
def dX11_clause_350 := bX11_clause_345.2.2.2.1
def dX11_clause_353 := bX11_clause_345.2.2.2.2.1
def dX11_clause_355 := bX11_clause_345.2.2.2.2.2.1
def dX11_clause_356 := bX11_clause_345.2.2.2.2.2.2.1
def dX11_clause_357 := bX11_clause_345.2.2.2.2.2.2.2.1
def dX11_clause_359 := bX11_clause_345.2.2.2.2.2.2.2.2.1
def dX11_clause_362 := bX11_clause_345.2.2.2.2.2.2.2.2.2.1
def dX11_clause_363 := bX11_clause_345.2.2.2.2.2.2.2.2.2.2.1
def dX11_clause_366 := bX11_clause_345.2.2.2.2.2.2.2.2.2.2.2.1
def dX11_clause_367 := bX11_clause_345.2.2.2.2.2.2.2.2.2.2.2.2.1
def dX11_clause_368 := bX11_clause_345.2.2.2.2.2.2.2.2.2.2.2.2.2.1
def dX11_clause_370 := bX11_clause_345.2.2.2.2.2.2.2.2.2.2.2.2.2.2.1
def dX11_clause_373 := bX11_clause_345.2.2.2.2.2.2.2.2.2.2.2.2.2.2.2.1
theorem bX11_clause_374 : fac cX11_clause [(374, .aload_n 0, 1), (375, .getfield 20, 3), (378, .bipush 15, 2), (380, .iload_n 2, 1), (381, .iadd, 1), (382, .aload_n 0, 1), (383, .iconst 0, 1), (384, .bipush 20, 2), (386, .invokevirtual 144, 3), (389, .iastore, 1), (390, .goto 3, 3), (393, .aload_n 0, 1), (394, .invokevirtual 148, 3), (397, .return_, 1)] := fac_all 374 _ (by decide +kernel)
def dX11_clause_374 := bX11_clause_374.1
def dX11_clause_375 := bX11_clause_374.2.1
def dX11_clause_378 := bX11_clause_374.2.2.1
def dX11_clause_380 := bX11_clause_374.2.2.2.1
def dX11_clause_381 := bX11_clause_374.2.2.2.2.1
def dX11_clause_382 := bX11_clause_374.2.2.2.2.2.1
def dX11_clause_383 := bX11_clause_374.2.2.2.2.2.2.1
def dX11_clause_384 := bX11_clause_374.2.2.2.2.2.2.2.1
def dX11_clause_386 := bX11_clause_374.2.2.2.2.2.2.2.2.1
def dX11_clause_389 := bX11_clause_374.2.2.2.2.2.2.2.2.2.1
def dX11_clause_390 := bX11_clause_374.2.2.2.2.2.2.2.2.2.2.1
def dX11_clause_393 := bX11_clause_374.2.2.2.2.2.2.2.2.2.2.2.1
def dX11_clause_394 := bX11_clause_374.2.2.2.2.2.2.2.2.2.2.2.2.1
def dX11_clause_397 := bX11_clause_374.2.2.2.2.2.2.2.2.2.2.2.2.2.1
theorem ggX11_siege_X11_in : GoodIn wsX11_siege wsX11_in := gW_in gwX11_in (fun _ h => List.mem_cons_of_mem _ (List.mem_append_right _ (List.mem_append_right _ (List.mem_append_left _ h))))
set_option maxRecDepth 20000 in
theorem gX11_siege_X11_in : GoodIn wsX11_siege (va_wsS RX11 119 yX11_in wsX11_in) := goodIn_app (goodIn_of _ (by decide +kernel)) ggX11_siege_X11_in
theorem ggX11_siege_X11_bad : GoodIn wsX11_siege wsX11_bad := gW_in gwX11_bad (fun _ h => List.mem_cons_of_mem _ (List.mem_append_right _ (List.mem_append_right _ (List.mem_append_right _ (List.mem_append_left _ h)))))
set_option maxRecDepth 20000 in
theorem gX11_siege_X11_bad : GoodIn wsX11_siege (wsV RX11 151 RX11 yX11_bad wsX11_bad) := goodIn_app (goodIn_of _ (by decide +kernel)) ggX11_siege_X11_bad
theorem ggX11_siege_X11_starts : GoodIn wsX11_siege wsX11_starts := gW_in gwX11_starts (fun _ h => List.mem_cons_of_mem _ (List.mem_append_right _ (List.mem_append_right _ (List.mem_append_right _ (List.mem_append_right _ (List.mem_append_left _ h))))))
set_option maxRecDepth 20000 in
theorem gX11_siege_X11_starts : GoodIn wsX11_siege (wsV RX11 155 RX11 yX11_starts wsX11_starts) := goodIn_app (goodIn_of _ (by decide +kernel)) ggX11_siege_X11_starts
theorem ggX11_siege_X11_tellsNothing : GoodIn wsX11_siege wsX11_tellsNothing := gW_in gwX11_tellsNothing (fun _ h => List.mem_cons_of_mem _ (List.mem_append_right _ (List.mem_append_right _ (List.mem_append_right _ (List.mem_append_right _ (List.mem_append_right _ (List.mem_append_left _ h)))))))
set_option maxRecDepth 20000 in
theorem gX11_siege_X11_tellsNothing : GoodIn wsX11_siege (wsV RX11 79 RX11 yX11_tellsNothing wsX11_tellsNothing) := goodIn_app (goodIn_of _ (by decide +kernel)) ggX11_siege_X11_tellsNothing
theorem ggX11_siege_X11_clause : GoodIn wsX11_siege wsX11_clause := gW_in gwX11_clause (fun _ h => List.mem_cons_of_mem _ (List.mem_append_right _ (List.mem_append_right _ (List.mem_append_right _ (List.mem_append_right _ (List.mem_append_right _ (List.mem_append_right _ (List.mem_append_left _ h))))))))
set_option maxRecDepth 20000 in
theorem gX11_siege_X11_clause : GoodIn wsX11_siege (wsV RX11 159 RX11 yX11_clause wsX11_clause) := goodIn_app (goodIn_of _ (by decide +kernel)) ggX11_siege_X11_clause
theorem ggX11_siege_X11_blanks : GoodIn wsX11_siege wsX11_blanks := gW_in gwX11_blanks (fun _ h => List.mem_cons_of_mem _ (List.mem_append_right _ (List.mem_append_right _ (List.mem_append_right _ (List.mem_append_right _ (List.mem_append_right _ (List.mem_append_right _ (List.mem_append_right _ (List.mem_append_left _ h)))))))))
set_option maxRecDepth 20000 in
theorem gX11_siege_X11_blanks : GoodIn wsX11_siege (wsV RX11 107 RX11 yX11_blanks wsX11_blanks) := goodIn_app (goodIn_of _ (by decide +kernel)) ggX11_siege_X11_blanks
theorem ggX11_siege_X11_stands0 : GoodIn wsX11_siege wsX11_stands0 := gW_in gwX11_stands0 (fun _ h => List.mem_cons_of_mem _ (List.mem_append_right _ (List.mem_append_right _ (List.mem_append_right _ (List.mem_append_right _ (List.mem_append_right _ (List.mem_append_right _ (List.mem_append_right _ (List.mem_append_right _ (h))))))))))
set_option maxRecDepth 20000 in
theorem gX11_siege_X11_stands0 : GoodIn wsX11_siege (wsV RX11 82 RX11 yX11_stands0 wsX11_stands0) := goodIn_app (goodIn_of _ (by decide +kernel)) ggX11_siege_X11_stands0
theorem bX11_siege_0 : fac cX11_siege [(0, .aload_n 0, 1), (1, .iconst 0, 1), (2, .putfield 85, 3), (5, .aload_n 0, 1), (6, .iload_n 1, 1), (7, .iconst 0, 1), (8, .aload_n 0, 1), (9, .getfield 88, 3), (12, .invokestatic 119, 3), (15, .ifCond .ne 7, 3), (18, .iconst 1, 1), (19, .goto 4, 3), (22, .iconst 0, 1), (23, .iconst 1, 1), (24, .iconst 2, 1), (25, .invokevirtual 151, 3)] := fac_all 0 _ (by decide +kernel)
def dX11_siege_0 := bX11_siege_0.1
def dX11_siege_1 := bX11_siege_0.2.1
def dX11_siege_2 := bX11_siege_0.2.2.1
def dX11_siege_5 := bX11_siege_0.2.2.2.1
def dX11_siege_6 := bX11_siege_0.2.2.2.2.1
def dX11_siege_7 := bX11_siege_0.2.2.2.2.2.1
def dX11_siege_8 := bX11_siege_0.2.2.2.2.2.2.1
def dX11_siege_9 := bX11_siege_0.2.2.2.2.2.2.2.1
def dX11_siege_12 := bX11_siege_0.2.2.2.2.2.2.2.2.1
def dX11_siege_15 := bX11_siege_0.2.2.2.2.2.2.2.2.2.1
def dX11_siege_18 := bX11_siege_0.2.2.2.2.2.2.2.2.2.2.1
def dX11_siege_19 := bX11_siege_0.2.2.2.2.2.2.2.2.2.2.2.1
def dX11_siege_22 := bX11_siege_0.2.2.2.2.2.2.2.2.2.2.2.2.1
def dX11_siege_23 := bX11_siege_0.2.2.2.2.2.2.2.2.2.2.2.2.2.1
def dX11_siege_24 := bX11_siege_0.2.2.2.2.2.2.2.2.2.2.2.2.2.2.1
def dX11_siege_25 := bX11_siege_0.2.2.2.2.2.2.2.2.2.2.2.2.2.2.2.1
theorem bX11_siege_28 : fac cX11_siege [(28, .ifCond .eq 5, 3), (31, .iconst 0, 1), (32, .ireturn, 1), (33, .aload_n 0, 1), (34, .iload_n 1, 1), (35, .invokevirtual 155, 3), (38, .aload_n 0, 1), (39, .invokevirtual 79, 3), (42, .aload_n 0, 1), (43, .getfield 101, 3), (46, .ifCond .ne 25, 3), (49, .aload_n 0, 1), (50, .getfield 94, 3), (53, .aload_n 0, 1), (54, .getfield 91, 3), (57, .if_icmp .ge 14, 3)] := fac_all 28 _ (by decide +kernel)
def dX11_siege_28 := bX11_siege_28.1
def dX11_siege_31 := bX11_siege_28.2.1
def dX11_siege_32 := bX11_siege_28.2.2.1
def dX11_siege_33 := bX11_siege_28.2.2.2.1
def dX11_siege_34 := bX11_siege_28.2.2.2.2.1
def dX11_siege_35 := bX11_siege_28.2.2.2.2.2.1
def dX11_siege_38 := bX11_siege_28.2.2.2.2.2.2.1
def dX11_siege_39 := bX11_siege_28.2.2.2.2.2.2.2.1
def dX11_siege_42 := bX11_siege_28.2.2.2.2.2.2.2.2.1
def dX11_siege_43 := bX11_siege_28.2.2.2.2.2.2.2.2.2.1
def dX11_siege_46 := bX11_siege_28.2.2.2.2.2.2.2.2.2.2.1
def dX11_siege_49 := bX11_siege_28.2.2.2.2.2.2.2.2.2.2.2.1
def dX11_siege_50 := bX11_siege_28.2.2.2.2.2.2.2.2.2.2.2.2.1
def dX11_siege_53 := bX11_siege_28.2.2.2.2.2.2.2.2.2.2.2.2.2.1
def dX11_siege_54 := bX11_siege_28.2.2.2.2.2.2.2.2.2.2.2.2.2.2.1
def dX11_siege_57 := bX11_siege_28.2.2.2.2.2.2.2.2.2.2.2.2.2.2.2.1
theorem bX11_siege_60 : fac cX11_siege [(60, .aload_n 0, 1), (61, .invokevirtual 159, 3), (64, .aload_n 0, 1), (65, .invokevirtual 107, 3), (68, .goto (-26), 3), (71, .aload_n 0, 1), (72, .aload_n 0, 1), (73, .getfield 104, 3), (76, .putfield 9, 3), (79, .aload_n 0, 1), (80, .getfield 101, 3), (83, .ifCond .eq 11, 3), (86, .aload_n 0, 1), (87, .getfield 101, 3), (90, .bipush 10, 2), (92, .isub, 1)] := fac_all 60 _ (by decide +kernel)
def dX11_siege_60 := bX11_siege_60.1
def dX11_siege_61 := bX11_siege_60.2.1
def dX11_siege_64 := bX11_siege_60.2.2.1
def dX11_siege_65 := bX11_siege_60.2.2.2.1
def dX11_siege_68 := bX11_siege_60.2.2.2.2.1
def dX11_siege_71 := bX11_siege_60.2.2.2.2.2.1
def dX11_siege_72 := bX11_siege_60.2.2.2.2.2.2.1
def dX11_siege_73 := bX11_siege_60.2.2.2.2.2.2.2.1
def dX11_siege_76 := bX11_siege_60.2.2.2.2.2.2.2.2.1
def dX11_siege_79 := bX11_siege_60.2.2.2.2.2.2.2.2.2.1
def dX11_siege_80 := bX11_siege_60.2.2.2.2.2.2.2.2.2.2.1
def dX11_siege_83 := bX11_siege_60.2.2.2.2.2.2.2.2.2.2.2.1
def dX11_siege_86 := bX11_siege_60.2.2.2.2.2.2.2.2.2.2.2.2.1
def dX11_siege_87 := bX11_siege_60.2.2.2.2.2.2.2.2.2.2.2.2.2.1
def dX11_siege_90 := bX11_siege_60.2.2.2.2.2.2.2.2.2.2.2.2.2.2.1
def dX11_siege_92 := bX11_siege_60.2.2.2.2.2.2.2.2.2.2.2.2.2.2.2.1
theorem bX11_siege_93 : fac cX11_siege [(93, .ireturn, 1), (94, .aload_n 0, 1), (95, .invokevirtual 82, 3), (98, .aload_n 0, 1), (99, .getfield 23, 3), (102, .iconst 0, 1), (103, .iaload, 1), (104, .ireturn, 1)] := fac_all 93 _ (by decide +kernel)
def dX11_siege_93 := bX11_siege_93.1
def dX11_siege_94 := bX11_siege_93.2.1
def dX11_siege_95 := bX11_siege_93.2.2.1
def dX11_siege_98 := bX11_siege_93.2.2.2.1
def dX11_siege_99 := bX11_siege_93.2.2.2.2.1
def dX11_siege_102 := bX11_siege_93.2.2.2.2.2.1
def dX11_siege_103 := bX11_siege_93.2.2.2.2.2.2.1
def dX11_siege_104 := bX11_siege_93.2.2.2.2.2.2.2.1
theorem bX11_stands0_0 : fac cX11_stands0 [(0, .iconst 0, 1), (1, .istore_n 1, 1), (2, .iload_n 1, 1), (3, .bipush 25, 2), (5, .if_icmp .ge 21, 3), (8, .aload_n 0, 1), (9, .getfield 23, 3), (12, .iload_n 1, 1), (13, .aload_n 0, 1), (14, .getfield 20, 3), (17, .iload_n 1, 1), (18, .iaload, 1), (19, .iastore, 1), (20, .iinc 1 1, 3), (23, .goto (-21), 3), (26, .iconst 0, 1)] := fac_all 0 _ (by decide +kernel)
def dX11_stands0_0 := bX11_stands0_0.1
def dX11_stands0_1 := bX11_stands0_0.2.1
def dX11_stands0_2 := bX11_stands0_0.2.2.1
def dX11_stands0_3 := bX11_stands0_0.2.2.2.1
def dX11_stands0_5 := bX11_stands0_0.2.2.2.2.1
def dX11_stands0_8 := bX11_stands0_0.2.2.2.2.2.1
def dX11_stands0_9 := bX11_stands0_0.2.2.2.2.2.2.1
def dX11_stands0_12 := bX11_stands0_0.2.2.2.2.2.2.2.1
def dX11_stands0_13 := bX11_stands0_0.2.2.2.2.2.2.2.2.1
def dX11_stands0_14 := bX11_stands0_0.2.2.2.2.2.2.2.2.2.1
def dX11_stands0_17 := bX11_stands0_0.2.2.2.2.2.2.2.2.2.2.1
def dX11_stands0_18 := bX11_stands0_0.2.2.2.2.2.2.2.2.2.2.2.1
def dX11_stands0_19 := bX11_stands0_0.2.2.2.2.2.2.2.2.2.2.2.2.1
def dX11_stands0_20 := bX11_stands0_0.2.2.2.2.2.2.2.2.2.2.2.2.2.1
def dX11_stands0_23 := bX11_stands0_0.2.2.2.2.2.2.2.2.2.2.2.2.2.2.1
def dX11_stands0_26 := bX11_stands0_0.2.2.2.2.2.2.2.2.2.2.2.2.2.2.2.1
theorem bX11_stands0_27 : fac cX11_stands0 [(27, .istore_n 1, 1), (28, .iload_n 1, 1), (29, .bipush 25, 2), (31, .if_icmp .ge 16, 3), (34, .aload_n 0, 1), (35, .getfield 46, 3), (38, .iload_n 1, 1), (39, .iconst 0, 1), (40, .iastore, 1), (41, .iinc 1 1, 3), (44, .goto (-16), 3), (47, .aload_n 0, 1), (48, .getfield 46, 3), (51, .iconst 0, 1), (52, .aload_n 0, 1), (53, .getfield 23, 3)] := fac_all 27 _ (by decide +kernel)
def dX11_stands0_27 := bX11_stands0_27.1
def dX11_stands0_28 := bX11_stands0_27.2.1
def dX11_stands0_29 := bX11_stands0_27.2.2.1
def dX11_stands0_31 := bX11_stands0_27.2.2.2.1
def dX11_stands0_34 := bX11_stands0_27.2.2.2.2.1
def dX11_stands0_35 := bX11_stands0_27.2.2.2.2.2.1
def dX11_stands0_38 := bX11_stands0_27.2.2.2.2.2.2.1
def dX11_stands0_39 := bX11_stands0_27.2.2.2.2.2.2.2.1
def dX11_stands0_40 := bX11_stands0_27.2.2.2.2.2.2.2.2.1
def dX11_stands0_41 := bX11_stands0_27.2.2.2.2.2.2.2.2.2.1
def dX11_stands0_44 := bX11_stands0_27.2.2.2.2.2.2.2.2.2.2.1
def dX11_stands0_47 := bX11_stands0_27.2.2.2.2.2.2.2.2.2.2.2.1
def dX11_stands0_48 := bX11_stands0_27.2.2.2.2.2.2.2.2.2.2.2.2.1
def dX11_stands0_51 := bX11_stands0_27.2.2.2.2.2.2.2.2.2.2.2.2.2.1
def dX11_stands0_52 := bX11_stands0_27.2.2.2.2.2.2.2.2.2.2.2.2.2.2.1
def dX11_stands0_53 := bX11_stands0_27.2.2.2.2.2.2.2.2.2.2.2.2.2.2.2.1
theorem bX11_stands0_56 : fac cX11_stands0 [(56, .iconst 1, 1), (57, .iaload, 1), (58, .iastore, 1), (59, .aload_n 0, 1), (60, .getfield 46, 3), (63, .iconst 1, 1), (64, .aload_n 0, 1), (65, .getfield 23, 3), (68, .iconst 4, 1), (69, .iaload, 1), (70, .iastore, 1), (71, .aload_n 0, 1), (72, .getfield 46, 3), (75, .iconst 2, 1), (76, .aload_n 0, 1), (77, .getfield 23, 3)] := fac_all 56 _ (by decide +kernel)
def dX11_stands0_56 := bX11_stands0_56.1
def dX11_stands0_57 := bX11_stands0_56.2.1
def dX11_stands0_58 := bX11_stands0_56.2.2.1
def dX11_stands0_59 := bX11_stands0_56.2.2.2.1
def dX11_stands0_60 := bX11_stands0_56.2.2.2.2.1
def dX11_stands0_63 := bX11_stands0_56.2.2.2.2.2.1
def dX11_stands0_64 := bX11_stands0_56.2.2.2.2.2.2.1
def dX11_stands0_65 := bX11_stands0_56.2.2.2.2.2.2.2.1
def dX11_stands0_68 := bX11_stands0_56.2.2.2.2.2.2.2.2.1
def dX11_stands0_69 := bX11_stands0_56.2.2.2.2.2.2.2.2.2.1
def dX11_stands0_70 := bX11_stands0_56.2.2.2.2.2.2.2.2.2.2.1
def dX11_stands0_71 := bX11_stands0_56.2.2.2.2.2.2.2.2.2.2.2.1
def dX11_stands0_72 := bX11_stands0_56.2.2.2.2.2.2.2.2.2.2.2.2.1
def dX11_stands0_75 := bX11_stands0_56.2.2.2.2.2.2.2.2.2.2.2.2.2.1
def dX11_stands0_76 := bX11_stands0_56.2.2.2.2.2.2.2.2.2.2.2.2.2.2.1
def dX11_stands0_77 := bX11_stands0_56.2.2.2.2.2.2.2.2.2.2.2.2.2.2.2.1
theorem bX11_stands0_80 : fac cX11_stands0 [(80, .bipush 7, 2), (82, .iaload, 1), (83, .iastore, 1), (84, .aload_n 0, 1), (85, .getfield 46, 3), (88, .iconst 3, 1), (89, .aload_n 0, 1), (90, .getfield 23, 3), (93, .iconst 2, 1), (94, .iaload, 1), (95, .iastore, 1), (96, .aload_n 0, 1), (97, .getfield 46, 3), (100, .iconst 4, 1), (101, .aload_n 0, 1), (102, .getfield 23, 3)] := fac_all 80 _ (by decide +kernel)
def dX11_stands0_80 := bX11_stands0_80.1
def dX11_stands0_82 := bX11_stands0_80.2.1
def dX11_stands0_83 := bX11_stands0_80.2.2.1
def dX11_stands0_84 := bX11_stands0_80.2.2.2.1
def dX11_stands0_85 := bX11_stands0_80.2.2.2.2.1
def dX11_stands0_88 := bX11_stands0_80.2.2.2.2.2.1
def dX11_stands0_89 := bX11_stands0_80.2.2.2.2.2.2.1
def dX11_stands0_90 := bX11_stands0_80.2.2.2.2.2.2.2.1
def dX11_stands0_93 := bX11_stands0_80.2.2.2.2.2.2.2.2.1
def dX11_stands0_94 := bX11_stands0_80.2.2.2.2.2.2.2.2.2.1
def dX11_stands0_95 := bX11_stands0_80.2.2.2.2.2.2.2.2.2.2.1
def dX11_stands0_96 := bX11_stands0_80.2.2.2.2.2.2.2.2.2.2.2.1
def dX11_stands0_97 := bX11_stands0_80.2.2.2.2.2.2.2.2.2.2.2.2.1
def dX11_stands0_100 := bX11_stands0_80.2.2.2.2.2.2.2.2.2.2.2.2.2.1
def dX11_stands0_101 := bX11_stands0_80.2.2.2.2.2.2.2.2.2.2.2.2.2.2.1
def dX11_stands0_102 := bX11_stands0_80.2.2.2.2.2.2.2.2.2.2.2.2.2.2.2.1
theorem bX11_stands0_105 : fac cX11_stands0 [(105, .iconst 5, 1), (106, .iaload, 1), (107, .iastore, 1), (108, .aload_n 0, 1), (109, .getfield 46, 3), (112, .iconst 5, 1), (113, .aload_n 0, 1), (114, .getfield 23, 3), (117, .bipush 9, 2), (119, .iaload, 1), (120, .iastore, 1), (121, .aload_n 0, 1), (122, .getfield 46, 3), (125, .bipush 10, 2), (127, .iconst (-1), 1), (128, .iastore, 1)] := fac_all 105 _ (by decide +kernel)
def dX11_stands0_105 := bX11_stands0_105.1
def dX11_stands0_106 := bX11_stands0_105.2.1
def dX11_stands0_107 := bX11_stands0_105.2.2.1
def dX11_stands0_108 := bX11_stands0_105.2.2.2.1
def dX11_stands0_109 := bX11_stands0_105.2.2.2.2.1
def dX11_stands0_112 := bX11_stands0_105.2.2.2.2.2.1
def dX11_stands0_113 := bX11_stands0_105.2.2.2.2.2.2.1
def dX11_stands0_114 := bX11_stands0_105.2.2.2.2.2.2.2.1
def dX11_stands0_117 := bX11_stands0_105.2.2.2.2.2.2.2.2.1
def dX11_stands0_119 := bX11_stands0_105.2.2.2.2.2.2.2.2.2.1
def dX11_stands0_120 := bX11_stands0_105.2.2.2.2.2.2.2.2.2.2.1
def dX11_stands0_121 := bX11_stands0_105.2.2.2.2.2.2.2.2.2.2.2.1
def dX11_stands0_122 := bX11_stands0_105.2.2.2.2.2.2.2.2.2.2.2.2.1
def dX11_stands0_125 := bX11_stands0_105.2.2.2.2.2.2.2.2.2.2.2.2.2.1
def dX11_stands0_127 := bX11_stands0_105.2.2.2.2.2.2.2.2.2.2.2.2.2.2.1
def dX11_stands0_128 := bX11_stands0_105.2.2.2.2.2.2.2.2.2.2.2.2.2.2.2.1
theorem bX11_stands0_129 : fac cX11_stands0 [(129, .aload_n 0, 1), (130, .getfield 46, 3), (133, .bipush 11, 2), (135, .iconst (-1), 1), (136, .iastore, 1), (137, .iconst 0, 1), (138, .istore_n 1, 1), (139, .iload_n 1, 1), (140, .aload_n 0, 1), (141, .getfield 23, 3), (144, .iconst 0, 1), (145, .iaload, 1), (146, .if_icmp .ge 55, 3), (149, .iconst 0, 1), (150, .istore_n 2, 1), (151, .iload_n 2, 1)] := fac_all 129 _ (by decide +kernel)
def dX11_stands0_129 := bX11_stands0_129.1
def dX11_stands0_130 := bX11_stands0_129.2.1
def dX11_stands0_133 := bX11_stands0_129.2.2.1
def dX11_stands0_135 := bX11_stands0_129.2.2.2.1
def dX11_stands0_136 := bX11_stands0_129.2.2.2.2.1
def dX11_stands0_137 := bX11_stands0_129.2.2.2.2.2.1
def dX11_stands0_138 := bX11_stands0_129.2.2.2.2.2.2.1
def dX11_stands0_139 := bX11_stands0_129.2.2.2.2.2.2.2.1
def dX11_stands0_140 := bX11_stands0_129.2.2.2.2.2.2.2.2.1
def dX11_stands0_141 := bX11_stands0_129.2.2.2.2.2.2.2.2.2.1
def dX11_stands0_144 := bX11_stands0_129.2.2.2.2.2.2.2.2.2.2.1
def dX11_stands0_145 := bX11_stands0_129.2.2.2.2.2.2.2.2.2.2.2.1
def dX11_stands0_146 := bX11_stands0_129.2.2.2.2.2.2.2.2.2.2.2.2.1
def dX11_stands0_149 := bX11_stands0_129.2.2.2.2.2.2.2.2.2.2.2.2.2.1
def dX11_stands0_150 := bX11_stands0_129.2.2.2.2.2.2.2.2.2.2.2.2.2.2.1
def dX11_stands0_151 := bX11_stands0_129.2.2.2.2.2.2.2.2.2.2.2.2.2.2.2.1
theorem bX11_stands0_152 : fac cX11_stands0 [(152, .iconst 2, 1), (153, .if_icmp .ge 25, 3), (156, .aload_n 0, 1), (157, .getfield 31, 3), (160, .iload_n 1, 1), (161, .aaload, 1), (162, .iload_n 2, 1), (163, .aload_n 0, 1), (164, .getfield 28, 3), (167, .iload_n 1, 1), (168, .aaload, 1), (169, .iload_n 2, 1), (170, .iaload, 1), (171, .iastore, 1), (172, .iinc 2 1, 3), (175, .goto (-24), 3)] := fac_all 152 _ (by decide +kernel)
def dX11_stands0_152 := bX11_stands0_152.1
def dX11_stands0_153 := bX11_stands0_152.2.1
def dX11_stands0_156 := bX11_stands0_152.2.2.1
def dX11_stands0_157 := bX11_stands0_152.2.2.2.1
def dX11_stands0_160 := bX11_stands0_152.2.2.2.2.1
def dX11_stands0_161 := bX11_stands0_152.2.2.2.2.2.1
def dX11_stands0_162 := bX11_stands0_152.2.2.2.2.2.2.1
def dX11_stands0_163 := bX11_stands0_152.2.2.2.2.2.2.2.1
def dX11_stands0_164 := bX11_stands0_152.2.2.2.2.2.2.2.2.1
def dX11_stands0_167 := bX11_stands0_152.2.2.2.2.2.2.2.2.2.1
def dX11_stands0_168 := bX11_stands0_152.2.2.2.2.2.2.2.2.2.2.1
def dX11_stands0_169 := bX11_stands0_152.2.2.2.2.2.2.2.2.2.2.2.1
def dX11_stands0_170 := bX11_stands0_152.2.2.2.2.2.2.2.2.2.2.2.2.1
def dX11_stands0_171 := bX11_stands0_152.2.2.2.2.2.2.2.2.2.2.2.2.2.1
def dX11_stands0_172 := bX11_stands0_152.2.2.2.2.2.2.2.2.2.2.2.2.2.2.1
def dX11_stands0_175 := bX11_stands0_152.2.2.2.2.2.2.2.2.2.2.2.2.2.2.2.1
theorem bX11_stands0_178 : fac cX11_stands0 [(178, .aload_n 0, 1), (179, .getfield 46, 3), (182, .bipush 12, 2), (184, .iload_n 1, 1), (185, .iadd, 1), (186, .aload_n 0, 1), (187, .getfield 31, 3), (190, .iload_n 1, 1), (191, .aaload, 1), (192, .iconst 0, 1), (193, .iaload, 1), (194, .iastore, 1), (195, .iinc 1 1, 3), (198, .goto (-59), 3), (201, .iconst 0, 1), (202, .istore_n 1, 1)] := fac_all 178 _ (by decide +kernel)
def dX11_stands0_178 := bX11_stands0_178.1
def dX11_stands0_179 := bX11_stands0_178.2.1
def dX11_stands0_182 := bX11_stands0_178.2.2.1
end
