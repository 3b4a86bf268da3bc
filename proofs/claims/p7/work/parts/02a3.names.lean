section
def dX5_breachesTold_31 := bX5_breachesTold_23.2.2.2.2.1
def dX5_breachesTold_34 := bX5_breachesTold_23.2.2.2.2.2.1
def dX5_breachesTold_37 := bX5_breachesTold_23.2.2.2.2.2.2.1
def dX5_breachesTold_40 := bX5_breachesTold_23.2.2.2.2.2.2.2.1
def dX5_breachesTold_41 := bX5_breachesTold_23.2.2.2.2.2.2.2.2
theorem ggX5_payIn_X5_winterPay : GoodIn wsX5_payIn wsX5_winterPay := gW_in gwX5_winterPay (fun _ h => List.mem_cons_of_mem _ (List.mem_append_right _ (List.mem_append_right _ (h))))
set_option maxRecDepth 20000 in
theorem gX5_payIn_X5_winterPay : GoodIn wsX5_payIn (wsV RX5 45 RX5 yX5_winterPay wsX5_winterPay) := goodIn_app (goodIn_of _ (by decide +kernel)) ggX5_payIn_X5_winterPay
theorem bX5_payIn_0 : decode cX5_payIn 0 = .ok (.iload_n 1, 1) ∧ decode cX5_payIn 1 = .ok (.bipush 12, 2) ∧ decode cX5_payIn 3 = .ok (.irem, 1) ∧ decode cX5_payIn 4 = .ok (.istore_n 2, 1) ∧ decode cX5_payIn 5 = .ok (.iload_n 2, 1) ∧ decode cX5_payIn 6 = .ok (.bipush 10, 2) ∧ decode cX5_payIn 8 = .ok (.if_icmp .ge 8, 3) ∧ decode cX5_payIn 11 = .ok (.iload_n 2, 1) ∧ decode cX5_payIn 12 = .ok (.iconst 1, 1) ∧ decode cX5_payIn 13 = .ok (.if_icmp .gt 10, 3) ∧ decode cX5_payIn 16 = .ok (.aload_n 0, 1) ∧ decode cX5_payIn 17 = .ok (.invokevirtual 45, 3) ∧ decode cX5_payIn 20 = .ok (.goto 9, 3) ∧ decode cX5_payIn 23 = .ok (.aload_n 0, 1) ∧ decode cX5_payIn 24 = .ok (.getfield 11, 3) ∧ decode cX5_payIn 27 = .ok (.iconst 0, 1) := by decide +kernel
def dX5_payIn_0 := bX5_payIn_0.1
def dX5_payIn_1 := bX5_payIn_0.2.1
def dX5_payIn_3 := bX5_payIn_0.2.2.1
def dX5_payIn_4 := bX5_payIn_0.2.2.2.1
def dX5_payIn_5 := bX5_payIn_0.2.2.2.2.1
def dX5_payIn_6 := bX5_payIn_0.2.2.2.2.2.1
def dX5_payIn_8 := bX5_payIn_0.2.2.2.2.2.2.1
def dX5_payIn_11 := bX5_payIn_0.2.2.2.2.2.2.2.1
def dX5_payIn_12 := bX5_payIn_0.2.2.2.2.2.2.2.2.1
def dX5_payIn_13 := bX5_payIn_0.2.2.2.2.2.2.2.2.2.1
def dX5_payIn_16 := bX5_payIn_0.2.2.2.2.2.2.2.2.2.2.1
def dX5_payIn_17 := bX5_payIn_0.2.2.2.2.2.2.2.2.2.2.2.1
def dX5_payIn_20 := bX5_payIn_0.2.2.2.2.2.2.2.2.2.2.2.2.1
def dX5_payIn_23 := bX5_payIn_0.2.2.2.2.2.2.2.2.2.2.2.2.2.1
def dX5_payIn_24 := bX5_payIn_0.2.2.2.2.2.2.2.2.2.2.2.2.2.2.1
def dX5_payIn_27 := bX5_payIn_0.2.2.2.2.2.2.2.2.2.2.2.2.2.2.2
theorem bX5_payIn_28 : decode cX5_payIn 28 = .ok (.iaload, 1) ∧ decode cX5_payIn 29 = .ok (.ireturn, 1) := by decide +kernel
def dX5_payIn_28 := bX5_payIn_28.1
def dX5_payIn_29 := bX5_payIn_28.2
theorem ggX5_wallDue_X10_within : GoodIn wsX5_wallDue wsX10_within := gW_in gwX10_within (fun _ h => List.mem_cons_of_mem _ (List.mem_append_right _ (List.mem_append_right _ (h))))
set_option maxRecDepth 20000 in
theorem gX5_wallDue_X10_within_n37 : GoodIn wsX5_wallDue (wsX10_within) := ggX5_wallDue_X10_within
theorem bX5_wallDue_0 : decode cX5_wallDue 0 = .ok (.iload_n 1, 1) ∧ decode cX5_wallDue 1 = .ok (.iconst 0, 1) ∧ decode cX5_wallDue 2 = .ok (.bipush 35, 2) ∧ decode cX5_wallDue 4 = .ok (.invokestatic 37, 3) ∧ decode cX5_wallDue 7 = .ok (.ifCond .eq 12, 3) ∧ decode cX5_wallDue 10 = .ok (.aload_n 0, 1) ∧ decode cX5_wallDue 11 = .ok (.getfield 15, 3) ∧ decode cX5_wallDue 14 = .ok (.iload_n 1, 1) ∧ decode cX5_wallDue 15 = .ok (.iaload, 1) ∧ decode cX5_wallDue 16 = .ok (.goto 4, 3) ∧ decode cX5_wallDue 19 = .ok (.iconst (-1), 1) ∧ decode cX5_wallDue 20 = .ok (.istore_n 3, 1) ∧ decode cX5_wallDue 21 = .ok (.iload_n 3, 1) ∧ decode cX5_wallDue 22 = .ok (.iload_n 2, 1) ∧ decode cX5_wallDue 23 = .ok (.if_icmp .ge 7, 3) ∧ decode cX5_wallDue 26 = .ok (.iload_n 3, 1) := by decide +kernel
def dX5_wallDue_0 := bX5_wallDue_0.1
def dX5_wallDue_1 := bX5_wallDue_0.2.1
def dX5_wallDue_2 := bX5_wallDue_0.2.2.1
def dX5_wallDue_4 := bX5_wallDue_0.2.2.2.1
def dX5_wallDue_7 := bX5_wallDue_0.2.2.2.2.1
def dX5_wallDue_10 := bX5_wallDue_0.2.2.2.2.2.1
def dX5_wallDue_11 := bX5_wallDue_0.2.2.2.2.2.2.1
def dX5_wallDue_14 := bX5_wallDue_0.2.2.2.2.2.2.2.1
def dX5_wallDue_15 := bX5_wallDue_0.2.2.2.2.2.2.2.2.1
def dX5_wallDue_16 := bX5_wallDue_0.2.2.2.2.2.2.2.2.2.1
def dX5_wallDue_19 := bX5_wallDue_0.2.2.2.2.2.2.2.2.2.2.1
def dX5_wallDue_20 := bX5_wallDue_0.2.2.2.2.2.2.2.2.2.2.2.1
def dX5_wallDue_21 := bX5_wallDue_0.2.2.2.2.2.2.2.2.2.2.2.2.1
def dX5_wallDue_22 := bX5_wallDue_0.2.2.2.2.2.2.2.2.2.2.2.2.2.1
def dX5_wallDue_23 := bX5_wallDue_0.2.2.2.2.2.2.2.2.2.2.2.2.2.2.1
def dX5_wallDue_26 := bX5_wallDue_0.2.2.2.2.2.2.2.2.2.2.2.2.2.2.2
theorem bX5_wallDue_27 : decode cX5_wallDue 27 = .ok (.goto 4, 3) ∧ decode cX5_wallDue 30 = .ok (.iconst (-1), 1) ∧ decode cX5_wallDue 31 = .ok (.ireturn, 1) := by decide +kernel
def dX5_wallDue_27 := bX5_wallDue_27.1
def dX5_wallDue_30 := bX5_wallDue_27.2.1
def dX5_wallDue_31 := bX5_wallDue_27.2.2
theorem ggX6_init_X9_init : GoodIn wsX6_init wsX9_init := gW_in gwX9_init (fun _ h => List.mem_cons_of_mem _ (List.mem_append_right _ (List.mem_append_right _ (List.mem_append_left _ h))))
set_option maxRecDepth 20000 in
theorem gX6_init_X9_init_n3 : GoodIn wsX6_init (wsX9_init) := ggX6_init_X9_init
theorem ggX6_init_X6_clear : GoodIn wsX6_init wsX6_clear := gW_in gwX6_clear (fun _ h => List.mem_cons_of_mem _ (List.mem_append_right _ (List.mem_append_right _ (List.mem_append_right _ (h)))))
set_option maxRecDepth 20000 in
theorem gX6_init_X6_clear : GoodIn wsX6_init (wsV RX6 27 RX6 yX6_clear wsX6_clear) := goodIn_app (goodIn_of _ (by decide +kernel)) ggX6_init_X6_clear
theorem bX6_init_0 : decode cX6_init 0 = .ok (.aload_n 0, 1) ∧ decode cX6_init 1 = .ok (.invokespecial 3, 3) ∧ decode cX6_init 4 = .ok (.aload_n 0, 1) ∧ decode cX6_init 5 = .ok (.getstatic 9, 3) ∧ decode cX6_init 8 = .ok (.arraylength, 1) ∧ decode cX6_init 9 = .ok (.newarray .int, 2) ∧ decode cX6_init 11 = .ok (.putfield 15, 3) ∧ decode cX6_init 14 = .ok (.aload_n 0, 1) ∧ decode cX6_init 15 = .ok (.bipush 10, 2) ∧ decode cX6_init 17 = .ok (.newarray .int, 2) ∧ decode cX6_init 19 = .ok (.putfield 18, 3) ∧ decode cX6_init 22 = .ok (.aload_n 0, 1) ∧ decode cX6_init 23 = .ok (.bipush 6, 2) ∧ decode cX6_init 25 = .ok (.newarray .int, 2) ∧ decode cX6_init 27 = .ok (.putfield 21, 3) ∧ decode cX6_init 30 = .ok (.aload_n 0, 1) := by decide +kernel
def dX6_init_0 := bX6_init_0.1
def dX6_init_1 := bX6_init_0.2.1
def dX6_init_4 := bX6_init_0.2.2.1
def dX6_init_5 := bX6_init_0.2.2.2.1
def dX6_init_8 := bX6_init_0.2.2.2.2.1
def dX6_init_9 := bX6_init_0.2.2.2.2.2.1
def dX6_init_11 := bX6_init_0.2.2.2.2.2.2.1
def dX6_init_14 := bX6_init_0.2.2.2.2.2.2.2.1
def dX6_init_15 := bX6_init_0.2.2.2.2.2.2.2.2.1
def dX6_init_17 := bX6_init_0.2.2.2.2.2.2.2.2.2.1
def dX6_init_19 := bX6_init_0.2.2.2.2.2.2.2.2.2.2.1
def dX6_init_22 := bX6_init_0.2.2.2.2.2.2.2.2.2.2.2.1
def dX6_init_23 := bX6_init_0.2.2.2.2.2.2.2.2.2.2.2.2.1
def dX6_init_25 := bX6_init_0.2.2.2.2.2.2.2.2.2.2.2.2.2.1
def dX6_init_27 := bX6_init_0.2.2.2.2.2.2.2.2.2.2.2.2.2.2.1
def dX6_init_30 := bX6_init_0.2.2.2.2.2.2.2.2.2.2.2.2.2.2.2
theorem bX6_init_31 : decode cX6_init 31 = .ok (.bipush 6, 2) ∧ decode cX6_init 33 = .ok (.newarray .int, 2) ∧ decode cX6_init 35 = .ok (.putfield 24, 3) ∧ decode cX6_init 38 = .ok (.aload_n 0, 1) ∧ decode cX6_init 39 = .ok (.invokevirtual 27, 3) ∧ decode cX6_init 42 = .ok (.return_, 1) := by decide +kernel
def dX6_init_31 := bX6_init_31.1
def dX6_init_33 := bX6_init_31.2.1
def dX6_init_35 := bX6_init_31.2.2.1
def dX6_init_38 := bX6_init_31.2.2.2.1
def dX6_init_39 := bX6_init_31.2.2.2.2.1
def dX6_init_42 := bX6_init_31.2.2.2.2.2
theorem bX6_clear_0 : decode cX6_clear 0 = .ok (.aload_n 0, 1) ∧ decode cX6_clear 1 = .ok (.iconst 0, 1) ∧ decode cX6_clear 2 = .ok (.putfield 30, 3) ∧ decode cX6_clear 5 = .ok (.iconst 0, 1) ∧ decode cX6_clear 6 = .ok (.istore_n 1, 1) ∧ decode cX6_clear 7 = .ok (.iload_n 1, 1) ∧ decode cX6_clear 8 = .ok (.aload_n 0, 1) ∧ decode cX6_clear 9 = .ok (.getfield 15, 3) ∧ decode cX6_clear 12 = .ok (.arraylength, 1) ∧ decode cX6_clear 13 = .ok (.if_icmp .ge 20, 3) ∧ decode cX6_clear 16 = .ok (.aload_n 0, 1) ∧ decode cX6_clear 17 = .ok (.getfield 15, 3) ∧ decode cX6_clear 20 = .ok (.iload_n 1, 1) ∧ decode cX6_clear 21 = .ok (.getstatic 9, 3) ∧ decode cX6_clear 24 = .ok (.iload_n 1, 1) ∧ decode cX6_clear 25 = .ok (.iaload, 1) := by decide +kernel
def dX6_clear_0 := bX6_clear_0.1
def dX6_clear_1 := bX6_clear_0.2.1
def dX6_clear_2 := bX6_clear_0.2.2.1
def dX6_clear_5 := bX6_clear_0.2.2.2.1
def dX6_clear_6 := bX6_clear_0.2.2.2.2.1
def dX6_clear_7 := bX6_clear_0.2.2.2.2.2.1
def dX6_clear_8 := bX6_clear_0.2.2.2.2.2.2.1
def dX6_clear_9 := bX6_clear_0.2.2.2.2.2.2.2.1
def dX6_clear_12 := bX6_clear_0.2.2.2.2.2.2.2.2.1
def dX6_clear_13 := bX6_clear_0.2.2.2.2.2.2.2.2.2.1
def dX6_clear_16 := bX6_clear_0.2.2.2.2.2.2.2.2.2.2.1
def dX6_clear_17 := bX6_clear_0.2.2.2.2.2.2.2.2.2.2.2.1
def dX6_clear_20 := bX6_clear_0.2.2.2.2.2.2.2.2.2.2.2.2.1
def dX6_clear_21 := bX6_clear_0.2.2.2.2.2.2.2.2.2.2.2.2.2.1
def dX6_clear_24 := bX6_clear_0.2.2.2.2.2.2.2.2.2.2.2.2.2.2.1
def dX6_clear_25 := bX6_clear_0.2.2.2.2.2.2.2.2.2.2.2.2.2.2.2
theorem bX6_clear_26 : decode cX6_clear 26 = .ok (.iastore, 1) ∧ decode cX6_clear 27 = .ok (.iinc 1 1, 3) ∧ decode cX6_clear 30 = .ok (.goto (-23), 3) ∧ decode cX6_clear 33 = .ok (.iconst 0, 1) ∧ decode cX6_clear 34 = .ok (.istore_n 1, 1) ∧ decode cX6_clear 35 = .ok (.iload_n 1, 1) ∧ decode cX6_clear 36 = .ok (.aload_n 0, 1) ∧ decode cX6_clear 37 = .ok (.getfield 18, 3) ∧ decode cX6_clear 40 = .ok (.arraylength, 1) ∧ decode cX6_clear 41 = .ok (.if_icmp .ge 19, 3) ∧ decode cX6_clear 44 = .ok (.aload_n 0, 1) ∧ decode cX6_clear 45 = .ok (.getfield 18, 3) ∧ decode cX6_clear 48 = .ok (.iload_n 1, 1) ∧ decode cX6_clear 49 = .ok (.bipush 9, 2) ∧ decode cX6_clear 51 = .ok (.iload_n 1, 1) ∧ decode cX6_clear 52 = .ok (.isub, 1) := by decide +kernel
def dX6_clear_26 := bX6_clear_26.1
def dX6_clear_27 := bX6_clear_26.2.1
def dX6_clear_30 := bX6_clear_26.2.2.1
def dX6_clear_33 := bX6_clear_26.2.2.2.1
def dX6_clear_34 := bX6_clear_26.2.2.2.2.1
def dX6_clear_35 := bX6_clear_26.2.2.2.2.2.1
def dX6_clear_36 := bX6_clear_26.2.2.2.2.2.2.1
def dX6_clear_37 := bX6_clear_26.2.2.2.2.2.2.2.1
def dX6_clear_40 := bX6_clear_26.2.2.2.2.2.2.2.2.1
def dX6_clear_41 := bX6_clear_26.2.2.2.2.2.2.2.2.2.1
def dX6_clear_44 := bX6_clear_26.2.2.2.2.2.2.2.2.2.2.1
def dX6_clear_45 := bX6_clear_26.2.2.2.2.2.2.2.2.2.2.2.1
def dX6_clear_48 := bX6_clear_26.2.2.2.2.2.2.2.2.2.2.2.2.1
def dX6_clear_49 := bX6_clear_26.2.2.2.2.2.2.2.2.2.2.2.2.2.1
def dX6_clear_51 := bX6_clear_26.2.2.2.2.2.2.2.2.2.2.2.2.2.2.1
def dX6_clear_52 := bX6_clear_26.2.2.2.2.2.2.2.2.2.2.2.2.2.2.2
theorem bX6_clear_53 : decode cX6_clear 53 = .ok (.iastore, 1) ∧ decode cX6_clear 54 = .ok (.iinc 1 1, 3) ∧ decode cX6_clear 57 = .ok (.goto (-22), 3) ∧ decode cX6_clear 60 = .ok (.return_, 1) := by decide +kernel
def dX6_clear_53 := bX6_clear_53.1
def dX6_clear_54 := bX6_clear_53.2.1
def dX6_clear_57 := bX6_clear_53.2.2.1
def dX6_clear_60 := bX6_clear_53.2.2.2
theorem bX6_words_0 : decode cX6_words 0 = .ok (.ldc 34, 2) ∧ decode cX6_words 2 = .ok (.areturn, 1) := by decide +kernel
def dX6_words_0 := bX6_words_0.1
def dX6_words_2 := bX6_words_0.2
theorem bX6_mostParts_0 : decode cX6_mostParts 0 = .ok (.bipush 60, 2) ∧ decode cX6_mostParts 2 = .ok (.ireturn, 1) := by decide +kernel
def dX6_mostParts_0 := bX6_mostParts_0.1
def dX6_mostParts_2 := bX6_mostParts_0.2
theorem bX6_isFull_0 : decode cX6_isFull 0 = .ok (.iload_n 1, 1) ∧ decode cX6_isFull 1 = .ok (.ifCond .ne 16, 3) ∧ decode cX6_isFull 4 = .ok (.aload_n 0, 1) ∧ decode cX6_isFull 5 = .ok (.getfield 30, 3) ∧ decode cX6_isFull 8 = .ok (.bipush 6, 2) ∧ decode cX6_isFull 10 = .ok (.if_icmp .lt 7, 3) ∧ decode cX6_isFull 13 = .ok (.iconst 1, 1) ∧ decode cX6_isFull 14 = .ok (.goto 4, 3) ∧ decode cX6_isFull 17 = .ok (.iconst 0, 1) ∧ decode cX6_isFull 18 = .ok (.ireturn, 1) := by decide +kernel
def dX6_isFull_0 := bX6_isFull_0.1
def dX6_isFull_1 := bX6_isFull_0.2.1
def dX6_isFull_4 := bX6_isFull_0.2.2.1
def dX6_isFull_5 := bX6_isFull_0.2.2.2.1
def dX6_isFull_8 := bX6_isFull_0.2.2.2.2.1
def dX6_isFull_10 := bX6_isFull_0.2.2.2.2.2.1
def dX6_isFull_13 := bX6_isFull_0.2.2.2.2.2.2.1
def dX6_isFull_14 := bX6_isFull_0.2.2.2.2.2.2.2.1
def dX6_isFull_17 := bX6_isFull_0.2.2.2.2.2.2.2.2.1
def dX6_isFull_18 := bX6_isFull_0.2.2.2.2.2.2.2.2.2
theorem ggX6_numbers_X10_within : GoodIn wsX6_numbers wsX10_within := gW_in gwX10_within (fun _ h => List.mem_cons_of_mem _ (List.mem_append_right _ (h)))
set_option maxRecDepth 20000 in
theorem gX6_numbers_X10_within_n39 : GoodIn wsX6_numbers (wsX10_within) := ggX6_numbers_X10_within
theorem bX6_numbers_0 : decode cX6_numbers 0 = .ok (.iload_n 1, 1) ∧ decode cX6_numbers 1 = .ok (.iconst 0, 1) ∧ decode cX6_numbers 2 = .ok (.getstatic 36, 3) ∧ decode cX6_numbers 5 = .ok (.arraylength, 1) ∧ decode cX6_numbers 6 = .ok (.iconst 1, 1) ∧ decode cX6_numbers 7 = .ok (.isub, 1) ∧ decode cX6_numbers 8 = .ok (.invokestatic 39, 3) ∧ decode cX6_numbers 11 = .ok (.ifCond .eq 11, 3) ∧ decode cX6_numbers 14 = .ok (.getstatic 36, 3) ∧ decode cX6_numbers 17 = .ok (.iload_n 1, 1) ∧ decode cX6_numbers 18 = .ok (.iaload, 1) ∧ decode cX6_numbers 19 = .ok (.goto 4, 3) ∧ decode cX6_numbers 22 = .ok (.iconst 0, 1) ∧ decode cX6_numbers 23 = .ok (.ireturn, 1) := by decide +kernel
def dX6_numbers_0 := bX6_numbers_0.1
def dX6_numbers_1 := bX6_numbers_0.2.1
def dX6_numbers_2 := bX6_numbers_0.2.2.1
def dX6_numbers_5 := bX6_numbers_0.2.2.2.1
def dX6_numbers_6 := bX6_numbers_0.2.2.2.2.1
def dX6_numbers_7 := bX6_numbers_0.2.2.2.2.2.1
def dX6_numbers_8 := bX6_numbers_0.2.2.2.2.2.2.1
def dX6_numbers_11 := bX6_numbers_0.2.2.2.2.2.2.2.1
def dX6_numbers_14 := bX6_numbers_0.2.2.2.2.2.2.2.2.1
def dX6_numbers_17 := bX6_numbers_0.2.2.2.2.2.2.2.2.2.1
def dX6_numbers_18 := bX6_numbers_0.2.2.2.2.2.2.2.2.2.2.1
def dX6_numbers_19 := bX6_numbers_0.2.2.2.2.2.2.2.2.2.2.2.1
def dX6_numbers_23 := bX6_numbers_0.2.2.2.2.2.2.2.2.2.2.2.2.2
theorem bX6_low_0 : decode cX6_low 0 = .ok (.iload_n 1, 1) ∧ decode cX6_low 1 = .ok (.ifCond .ne 11, 3) ∧ decode cX6_low 4 = .ok (.iload_n 2, 1) ∧ decode cX6_low 5 = .ok (.ifCond .ne 7, 3) ∧ decode cX6_low 8 = .ok (.iconst 1, 1) ∧ decode cX6_low 9 = .ok (.goto 4, 3) ∧ decode cX6_low 12 = .ok (.iconst 0, 1) ∧ decode cX6_low 13 = .ok (.ireturn, 1) := by decide +kernel
def dX6_low_0 := bX6_low_0.1
def dX6_low_1 := bX6_low_0.2.1
def dX6_low_4 := bX6_low_0.2.2.1
def dX6_low_5 := bX6_low_0.2.2.2.1
def dX6_low_8 := bX6_low_0.2.2.2.2.1
def dX6_low_9 := bX6_low_0.2.2.2.2.2.1
def dX6_low_12 := bX6_low_0.2.2.2.2.2.2.1
def dX6_low_13 := bX6_low_0.2.2.2.2.2.2.2
theorem ggX6_high_X10_within : GoodIn wsX6_high wsX10_within := gW_in gwX10_within (fun _ h => List.mem_cons_of_mem _ (List.mem_append_right _ (h)))
set_option maxRecDepth 20000 in
theorem gX6_high_X10_within_n39 : GoodIn wsX6_high (wsX10_within) := ggX6_high_X10_within
theorem bX6_high_0 : decode cX6_high 0 = .ok (.iload_n 1, 1) ∧ decode cX6_high 1 = .ok (.iconst 3, 1) ∧ decode cX6_high 2 = .ok (.imul, 1) ∧ decode cX6_high 3 = .ok (.iload_n 2, 1) ∧ decode cX6_high 4 = .ok (.iadd, 1) ∧ decode cX6_high 5 = .ok (.istore_n 3, 1) ∧ decode cX6_high 6 = .ok (.iload_n 3, 1) ∧ decode cX6_high 7 = .ok (.iconst 0, 1) ∧ decode cX6_high 8 = .ok (.getstatic 43, 3) ∧ decode cX6_high 11 = .ok (.arraylength, 1) ∧ decode cX6_high 12 = .ok (.iconst 1, 1) ∧ decode cX6_high 13 = .ok (.isub, 1) ∧ decode cX6_high 14 = .ok (.invokestatic 39, 3) ∧ decode cX6_high 17 = .ok (.ifCond .eq 11, 3) ∧ decode cX6_high 20 = .ok (.getstatic 43, 3) ∧ decode cX6_high 23 = .ok (.iload_n 3, 1) := by decide +kernel
def dX6_high_0 := bX6_high_0.1
def dX6_high_1 := bX6_high_0.2.1
def dX6_high_2 := bX6_high_0.2.2.1
def dX6_high_3 := bX6_high_0.2.2.2.1
def dX6_high_4 := bX6_high_0.2.2.2.2.1
def dX6_high_5 := bX6_high_0.2.2.2.2.2.1
def dX6_high_6 := bX6_high_0.2.2.2.2.2.2.1
def dX6_high_7 := bX6_high_0.2.2.2.2.2.2.2.1
def dX6_high_8 := bX6_high_0.2.2.2.2.2.2.2.2.1
def dX6_high_11 := bX6_high_0.2.2.2.2.2.2.2.2.2.1
def dX6_high_12 := bX6_high_0.2.2.2.2.2.2.2.2.2.2.1
def dX6_high_13 := bX6_high_0.2.2.2.2.2.2.2.2.2.2.2.1
def dX6_high_14 := bX6_high_0.2.2.2.2.2.2.2.2.2.2.2.2.1
def dX6_high_17 := bX6_high_0.2.2.2.2.2.2.2.2.2.2.2.2.2.1
def dX6_high_20 := bX6_high_0.2.2.2.2.2.2.2.2.2.2.2.2.2.2.1
def dX6_high_23 := bX6_high_0.2.2.2.2.2.2.2.2.2.2.2.2.2.2.2
theorem bX6_high_24 : decode cX6_high 24 = .ok (.iaload, 1) ∧ decode cX6_high 25 = .ok (.goto 4, 3) ∧ decode cX6_high 28 = .ok (.iconst 0, 1) ∧ decode cX6_high 29 = .ok (.ireturn, 1) := by decide +kernel
def dX6_high_24 := bX6_high_24.1
def dX6_high_25 := bX6_high_24.2.1
def dX6_high_29 := bX6_high_24.2.2.2
theorem ggX6_store_X6_addWall : GoodIn wsX6_store wsX6_addWall := gW_in gwX6_addWall (fun _ h => List.mem_cons_of_mem _ (List.mem_append_right _ (List.mem_append_right _ (List.mem_append_left _ h))))
set_option maxRecDepth 20000 in
theorem gX6_store_X6_addWall : GoodIn wsX6_store (wsV RX6 46 RX6 yX6_addWall wsX6_addWall) := goodIn_app (goodIn_of _ (by decide +kernel)) ggX6_store_X6_addWall
theorem ggX6_store_X10_within : GoodIn wsX6_store wsX10_within := gW_in gwX10_within (fun _ h => List.mem_cons_of_mem _ (List.mem_append_right _ (List.mem_append_right _ (List.mem_append_right _ (List.mem_append_left _ h)))))
set_option maxRecDepth 20000 in
theorem gX6_store_X10_within_n39 : GoodIn wsX6_store (wsX10_within) := ggX6_store_X10_within
theorem ggX6_store_X6_numbers : GoodIn wsX6_store wsX6_numbers := gW_in gwX6_numbers (fun _ h => List.mem_cons_of_mem _ (List.mem_append_right _ (List.mem_append_right _ (List.mem_append_right _ (List.mem_append_right _ (h))))))
set_option maxRecDepth 20000 in
theorem gX6_store_X6_numbers : GoodIn wsX6_store (wsV RX6 50 RX6 yX6_numbers wsX6_numbers) := goodIn_app (goodIn_of _ (by decide +kernel)) ggX6_store_X6_numbers
theorem bX6_store_0 : decode cX6_store 0 = .ok (.iload_n 1, 1) ∧ decode cX6_store 1 = .ok (.ifCond .ne 16, 3) ∧ decode cX6_store 4 = .ok (.aload_n 0, 1) ∧ decode cX6_store 5 = .ok (.aload_n 2, 1) ∧ decode cX6_store 6 = .ok (.iconst 0, 1) ∧ decode cX6_store 7 = .ok (.iaload, 1) ∧ decode cX6_store 8 = .ok (.aload_n 2, 1) ∧ decode cX6_store 9 = .ok (.iconst 1, 1) ∧ decode cX6_store 10 = .ok (.iaload, 1) ∧ decode cX6_store 11 = .ok (.invokevirtual 46, 3) ∧ decode cX6_store 14 = .ok (.goto 64, 3) ∧ decode cX6_store 17 = .ok (.iload_n 1, 1) ∧ decode cX6_store 18 = .ok (.iconst 5, 1) ∧ decode cX6_store 19 = .ok (.if_icmp .ne 29, 3) ∧ decode cX6_store 22 = .ok (.aload_n 2, 1) ∧ decode cX6_store 23 = .ok (.iconst 0, 1) := by decide +kernel
def dX6_store_0 := bX6_store_0.1
def dX6_store_1 := bX6_store_0.2.1
def dX6_store_4 := bX6_store_0.2.2.1
def dX6_store_5 := bX6_store_0.2.2.2.1
def dX6_store_6 := bX6_store_0.2.2.2.2.1
def dX6_store_7 := bX6_store_0.2.2.2.2.2.1
def dX6_store_8 := bX6_store_0.2.2.2.2.2.2.1
def dX6_store_9 := bX6_store_0.2.2.2.2.2.2.2.1
def dX6_store_10 := bX6_store_0.2.2.2.2.2.2.2.2.1
def dX6_store_11 := bX6_store_0.2.2.2.2.2.2.2.2.2.1
def dX6_store_14 := bX6_store_0.2.2.2.2.2.2.2.2.2.2.1
def dX6_store_17 := bX6_store_0.2.2.2.2.2.2.2.2.2.2.2.1
def dX6_store_18 := bX6_store_0.2.2.2.2.2.2.2.2.2.2.2.2.1
def dX6_store_19 := bX6_store_0.2.2.2.2.2.2.2.2.2.2.2.2.2.1
def dX6_store_22 := bX6_store_0.2.2.2.2.2.2.2.2.2.2.2.2.2.2.1
def dX6_store_23 := bX6_store_0.2.2.2.2.2.2.2.2.2.2.2.2.2.2.2
theorem bX6_store_24 : decode cX6_store 24 = .ok (.iaload, 1) ∧ decode cX6_store 25 = .ok (.iconst 0, 1) ∧ decode cX6_store 26 = .ok (.bipush 9, 2) ∧ decode cX6_store 28 = .ok (.invokestatic 39, 3) ∧ decode cX6_store 31 = .ok (.ifCond .eq 47, 3) ∧ decode cX6_store 34 = .ok (.aload_n 0, 1) ∧ decode cX6_store 35 = .ok (.getfield 18, 3) ∧ decode cX6_store 38 = .ok (.aload_n 2, 1) ∧ decode cX6_store 39 = .ok (.iconst 0, 1) ∧ decode cX6_store 40 = .ok (.iaload, 1) ∧ decode cX6_store 41 = .ok (.aload_n 2, 1) ∧ decode cX6_store 42 = .ok (.iconst 1, 1) ∧ decode cX6_store 43 = .ok (.iaload, 1) ∧ decode cX6_store 44 = .ok (.iastore, 1) ∧ decode cX6_store 45 = .ok (.goto 33, 3) ∧ decode cX6_store 48 = .ok (.iconst 0, 1) := by decide +kernel
def dX6_store_24 := bX6_store_24.1
def dX6_store_25 := bX6_store_24.2.1
def dX6_store_26 := bX6_store_24.2.2.1
def dX6_store_28 := bX6_store_24.2.2.2.1
def dX6_store_31 := bX6_store_24.2.2.2.2.1
def dX6_store_34 := bX6_store_24.2.2.2.2.2.1
def dX6_store_35 := bX6_store_24.2.2.2.2.2.2.1
def dX6_store_38 := bX6_store_24.2.2.2.2.2.2.2.1
def dX6_store_39 := bX6_store_24.2.2.2.2.2.2.2.2.1
def dX6_store_40 := bX6_store_24.2.2.2.2.2.2.2.2.2.1
def dX6_store_41 := bX6_store_24.2.2.2.2.2.2.2.2.2.2.1
def dX6_store_42 := bX6_store_24.2.2.2.2.2.2.2.2.2.2.2.1
def dX6_store_43 := bX6_store_24.2.2.2.2.2.2.2.2.2.2.2.2.1
def dX6_store_44 := bX6_store_24.2.2.2.2.2.2.2.2.2.2.2.2.2.1
def dX6_store_45 := bX6_store_24.2.2.2.2.2.2.2.2.2.2.2.2.2.2.1
def dX6_store_48 := bX6_store_24.2.2.2.2.2.2.2.2.2.2.2.2.2.2.2
theorem bX6_store_49 : decode cX6_store 49 = .ok (.istore_n 3, 1) ∧ decode cX6_store 50 = .ok (.iload_n 3, 1) ∧ decode cX6_store 51 = .ok (.aload_n 0, 1) ∧ decode cX6_store 52 = .ok (.iload_n 1, 1) ∧ decode cX6_store 53 = .ok (.invokevirtual 50, 3) ∧ decode cX6_store 56 = .ok (.if_icmp .ge 22, 3) ∧ decode cX6_store 59 = .ok (.aload_n 0, 1) ∧ decode cX6_store 60 = .ok (.getfield 15, 3) ∧ decode cX6_store 63 = .ok (.iload_n 1, 1) ∧ decode cX6_store 64 = .ok (.iconst 3, 1) ∧ decode cX6_store 65 = .ok (.imul, 1) ∧ decode cX6_store 66 = .ok (.iload_n 3, 1) ∧ decode cX6_store 67 = .ok (.iadd, 1) ∧ decode cX6_store 68 = .ok (.aload_n 2, 1) ∧ decode cX6_store 69 = .ok (.iload_n 3, 1) ∧ decode cX6_store 70 = .ok (.iaload, 1) := by decide +kernel
def dX6_store_49 := bX6_store_49.1
def dX6_store_50 := bX6_store_49.2.1
def dX6_store_51 := bX6_store_49.2.2.1
def dX6_store_52 := bX6_store_49.2.2.2.1
def dX6_store_53 := bX6_store_49.2.2.2.2.1
def dX6_store_56 := bX6_store_49.2.2.2.2.2.1
def dX6_store_59 := bX6_store_49.2.2.2.2.2.2.1
def dX6_store_60 := bX6_store_49.2.2.2.2.2.2.2.1
def dX6_store_63 := bX6_store_49.2.2.2.2.2.2.2.2.1
def dX6_store_64 := bX6_store_49.2.2.2.2.2.2.2.2.2.1
def dX6_store_65 := bX6_store_49.2.2.2.2.2.2.2.2.2.2.1
def dX6_store_66 := bX6_store_49.2.2.2.2.2.2.2.2.2.2.2.1
def dX6_store_67 := bX6_store_49.2.2.2.2.2.2.2.2.2.2.2.2.1
def dX6_store_68 := bX6_store_49.2.2.2.2.2.2.2.2.2.2.2.2.2.1
def dX6_store_69 := bX6_store_49.2.2.2.2.2.2.2.2.2.2.2.2.2.2.1
def dX6_store_70 := bX6_store_49.2.2.2.2.2.2.2.2.2.2.2.2.2.2.2
theorem bX6_store_71 : decode cX6_store 71 = .ok (.iastore, 1) ∧ decode cX6_store 72 = .ok (.iinc 3 1, 3) ∧ decode cX6_store 75 = .ok (.goto (-25), 3) ∧ decode cX6_store 78 = .ok (.return_, 1) := by decide +kernel
def dX6_store_71 := bX6_store_71.1
def dX6_store_72 := bX6_store_71.2.1
def dX6_store_75 := bX6_store_71.2.2.1
def dX6_store_78 := bX6_store_71.2.2.2
theorem bX6_addWall_0 : decode cX6_addWall 0 = .ok (.aload_n 0, 1) ∧ decode cX6_addWall 1 = .ok (.getfield 30, 3) ∧ decode cX6_addWall 4 = .ok (.bipush 6, 2) ∧ decode cX6_addWall 6 = .ok (.if_icmp .ge 33, 3) ∧ decode cX6_addWall 9 = .ok (.aload_n 0, 1) ∧ decode cX6_addWall 10 = .ok (.getfield 21, 3) ∧ decode cX6_addWall 13 = .ok (.aload_n 0, 1) ∧ decode cX6_addWall 14 = .ok (.getfield 30, 3) ∧ decode cX6_addWall 17 = .ok (.iload_n 1, 1) ∧ decode cX6_addWall 18 = .ok (.iastore, 1) ∧ decode cX6_addWall 19 = .ok (.aload_n 0, 1) ∧ decode cX6_addWall 20 = .ok (.getfield 24, 3) ∧ decode cX6_addWall 23 = .ok (.aload_n 0, 1) ∧ decode cX6_addWall 24 = .ok (.getfield 30, 3) ∧ decode cX6_addWall 27 = .ok (.iload_n 2, 1) ∧ decode cX6_addWall 28 = .ok (.iastore, 1) := by decide +kernel
def dX6_addWall_0 := bX6_addWall_0.1
def dX6_addWall_1 := bX6_addWall_0.2.1
def dX6_addWall_4 := bX6_addWall_0.2.2.1
def dX6_addWall_6 := bX6_addWall_0.2.2.2.1
def dX6_addWall_9 := bX6_addWall_0.2.2.2.2.1
def dX6_addWall_10 := bX6_addWall_0.2.2.2.2.2.1
def dX6_addWall_13 := bX6_addWall_0.2.2.2.2.2.2.1
def dX6_addWall_14 := bX6_addWall_0.2.2.2.2.2.2.2.1
def dX6_addWall_17 := bX6_addWall_0.2.2.2.2.2.2.2.2.1
def dX6_addWall_18 := bX6_addWall_0.2.2.2.2.2.2.2.2.2.1
def dX6_addWall_19 := bX6_addWall_0.2.2.2.2.2.2.2.2.2.2.1
def dX6_addWall_20 := bX6_addWall_0.2.2.2.2.2.2.2.2.2.2.2.1
def dX6_addWall_23 := bX6_addWall_0.2.2.2.2.2.2.2.2.2.2.2.2.1
def dX6_addWall_24 := bX6_addWall_0.2.2.2.2.2.2.2.2.2.2.2.2.2.1
def dX6_addWall_27 := bX6_addWall_0.2.2.2.2.2.2.2.2.2.2.2.2.2.2.1
def dX6_addWall_28 := bX6_addWall_0.2.2.2.2.2.2.2.2.2.2.2.2.2.2.2
theorem bX6_addWall_29 : decode cX6_addWall 29 = .ok (.aload_n 0, 1) ∧ decode cX6_addWall 30 = .ok (.dup, 1) ∧ decode cX6_addWall 31 = .ok (.getfield 30, 3) ∧ decode cX6_addWall 34 = .ok (.iconst 1, 1) ∧ decode cX6_addWall 35 = .ok (.iadd, 1) ∧ decode cX6_addWall 36 = .ok (.putfield 30, 3) ∧ decode cX6_addWall 39 = .ok (.return_, 1) := by decide +kernel
def dX6_addWall_29 := bX6_addWall_29.1
def dX6_addWall_30 := bX6_addWall_29.2.1
def dX6_addWall_31 := bX6_addWall_29.2.2.1
def dX6_addWall_34 := bX6_addWall_29.2.2.2.1
def dX6_addWall_35 := bX6_addWall_29.2.2.2.2.1
def dX6_addWall_36 := bX6_addWall_29.2.2.2.2.2.1
def dX6_addWall_39 := bX6_addWall_29.2.2.2.2.2.2
theorem ggX6_fearAt_X10_within : GoodIn wsX6_fearAt wsX10_within := gW_in gwX10_within (fun _ h => List.mem_cons_of_mem _ (List.mem_append_right _ (List.mem_append_right _ (h))))
set_option maxRecDepth 20000 in
theorem gX6_fearAt_X10_within_n39 : GoodIn wsX6_fearAt (wsX10_within) := ggX6_fearAt_X10_within
theorem bX6_fearAt_0 : decode cX6_fearAt 0 = .ok (.iload_n 1, 1) ∧ decode cX6_fearAt 1 = .ok (.iconst 0, 1) ∧ decode cX6_fearAt 2 = .ok (.bipush 9, 2) ∧ decode cX6_fearAt 4 = .ok (.invokestatic 39, 3) ∧ decode cX6_fearAt 7 = .ok (.ifCond .eq 12, 3) ∧ decode cX6_fearAt 10 = .ok (.aload_n 0, 1) ∧ decode cX6_fearAt 11 = .ok (.getfield 18, 3) ∧ decode cX6_fearAt 14 = .ok (.iload_n 1, 1) ∧ decode cX6_fearAt 15 = .ok (.iaload, 1) ∧ decode cX6_fearAt 16 = .ok (.goto 4, 3) ∧ decode cX6_fearAt 19 = .ok (.iconst 0, 1) ∧ decode cX6_fearAt 20 = .ok (.ireturn, 1) := by decide +kernel
def dX6_fearAt_0 := bX6_fearAt_0.1
def dX6_fearAt_1 := bX6_fearAt_0.2.1
def dX6_fearAt_2 := bX6_fearAt_0.2.2.1
def dX6_fearAt_4 := bX6_fearAt_0.2.2.2.1
def dX6_fearAt_7 := bX6_fearAt_0.2.2.2.2.1
def dX6_fearAt_10 := bX6_fearAt_0.2.2.2.2.2.1
def dX6_fearAt_11 := bX6_fearAt_0.2.2.2.2.2.2.1
def dX6_fearAt_14 := bX6_fearAt_0.2.2.2.2.2.2.2.1
def dX6_fearAt_15 := bX6_fearAt_0.2.2.2.2.2.2.2.2.1
def dX6_fearAt_16 := bX6_fearAt_0.2.2.2.2.2.2.2.2.2.1
def dX6_fearAt_19 := bX6_fearAt_0.2.2.2.2.2.2.2.2.2.2.1
def dX6_fearAt_20 := bX6_fearAt_0.2.2.2.2.2.2.2.2.2.2.2
theorem bX6_wanted_0 : decode cX6_wanted 0 = .ok (.aload_n 0, 1) ∧ decode cX6_wanted 1 = .ok (.getfield 15, 3) ∧ decode cX6_wanted 4 = .ok (.bipush 21, 2) ∧ decode cX6_wanted 6 = .ok (.iaload, 1) ∧ decode cX6_wanted 7 = .ok (.aload_n 0, 1) ∧ decode cX6_wanted 8 = .ok (.getfield 15, 3) ∧ decode cX6_wanted 11 = .ok (.bipush 22, 2) ∧ decode cX6_wanted 13 = .ok (.iaload, 1) ∧ decode cX6_wanted 14 = .ok (.iload_n 2, 1) ∧ decode cX6_wanted 15 = .ok (.imul, 1) ∧ decode cX6_wanted 16 = .ok (.iadd, 1) ∧ decode cX6_wanted 17 = .ok (.aload_n 0, 1) ∧ decode cX6_wanted 18 = .ok (.getfield 15, 3) ∧ decode cX6_wanted 21 = .ok (.bipush 21, 2) ∧ decode cX6_wanted 23 = .ok (.iaload, 1) ∧ decode cX6_wanted 24 = .ok (.bipush 9, 2) := by decide +kernel
def dX6_wanted_0 := bX6_wanted_0.1
def dX6_wanted_1 := bX6_wanted_0.2.1
def dX6_wanted_4 := bX6_wanted_0.2.2.1
def dX6_wanted_6 := bX6_wanted_0.2.2.2.1
def dX6_wanted_7 := bX6_wanted_0.2.2.2.2.1
def dX6_wanted_8 := bX6_wanted_0.2.2.2.2.2.1
def dX6_wanted_11 := bX6_wanted_0.2.2.2.2.2.2.1
def dX6_wanted_13 := bX6_wanted_0.2.2.2.2.2.2.2.1
def dX6_wanted_14 := bX6_wanted_0.2.2.2.2.2.2.2.2.1
def dX6_wanted_15 := bX6_wanted_0.2.2.2.2.2.2.2.2.2.1
def dX6_wanted_16 := bX6_wanted_0.2.2.2.2.2.2.2.2.2.2.1
def dX6_wanted_17 := bX6_wanted_0.2.2.2.2.2.2.2.2.2.2.2.1
def dX6_wanted_18 := bX6_wanted_0.2.2.2.2.2.2.2.2.2.2.2.2.1
def dX6_wanted_21 := bX6_wanted_0.2.2.2.2.2.2.2.2.2.2.2.2.2.1
def dX6_wanted_23 := bX6_wanted_0.2.2.2.2.2.2.2.2.2.2.2.2.2.2.1
def dX6_wanted_24 := bX6_wanted_0.2.2.2.2.2.2.2.2.2.2.2.2.2.2.2
theorem bX6_wanted_26 : decode cX6_wanted 26 = .ok (.iload_n 1, 1) ∧ decode cX6_wanted 27 = .ok (.isub, 1) ∧ decode cX6_wanted 28 = .ok (.imul, 1) ∧ decode cX6_wanted 29 = .ok (.iadd, 1) ∧ decode cX6_wanted 30 = .ok (.ireturn, 1) := by decide +kernel
def dX6_wanted_26 := bX6_wanted_26.1
def dX6_wanted_27 := bX6_wanted_26.2.1
def dX6_wanted_28 := bX6_wanted_26.2.2.1
def dX6_wanted_29 := bX6_wanted_26.2.2.2.1
def dX6_wanted_30 := bX6_wanted_26.2.2.2.2
theorem bX7_init_0 : decode cX7_init 0 = .ok (.aload_n 0, 1) ∧ decode cX7_init 1 = .ok (.invokespecial 3, 3) ∧ decode cX7_init 4 = .ok (.aload_n 0, 1) ∧ decode cX7_init 5 = .ok (.iconst 0, 1) ∧ decode cX7_init 6 = .ok (.newarray .byte, 2) ∧ decode cX7_init 8 = .ok (.putfield 9, 3) ∧ decode cX7_init 11 = .ok (.aload_n 0, 1) ∧ decode cX7_init 12 = .ok (.iconst (-1), 1) ∧ decode cX7_init 13 = .ok (.putfield 15, 3) ∧ decode cX7_init 16 = .ok (.aload_n 0, 1) ∧ decode cX7_init 17 = .ok (.iconst 3, 1) ∧ decode cX7_init 18 = .ok (.newarray .int, 2) ∧ decode cX7_init 20 = .ok (.putfield 19, 3) ∧ decode cX7_init 23 = .ok (.return_, 1) := by decide +kernel
def dX7_init_0 := bX7_init_0.1
def dX7_init_1 := bX7_init_0.2.1
def dX7_init_4 := bX7_init_0.2.2.1
def dX7_init_5 := bX7_init_0.2.2.2.1
def dX7_init_6 := bX7_init_0.2.2.2.2.1
def dX7_init_8 := bX7_init_0.2.2.2.2.2.1
def dX7_init_11 := bX7_init_0.2.2.2.2.2.2.1
def dX7_init_12 := bX7_init_0.2.2.2.2.2.2.2.1
def dX7_init_13 := bX7_init_0.2.2.2.2.2.2.2.2.1
def dX7_init_16 := bX7_init_0.2.2.2.2.2.2.2.2.2.1
def dX7_init_17 := bX7_init_0.2.2.2.2.2.2.2.2.2.2.1
def dX7_init_18 := bX7_init_0.2.2.2.2.2.2.2.2.2.2.2.1
def dX7_init_20 := bX7_init_0.2.2.2.2.2.2.2.2.2.2.2.2.1
def dX7_init_23 := bX7_init_0.2.2.2.2.2.2.2.2.2.2.2.2.2
theorem ggX7_read_X5_mostParts : GoodIn wsX7_read wsX5_mostParts := gW_in gwX5_mostParts (fun _ h => List.mem_cons_of_mem _ (List.mem_append_right _ (List.mem_append_right _ (List.mem_append_right _ (List.mem_append_right _ (List.mem_append_left _ h))))))
set_option maxRecDepth 20000 in
theorem gX7_read_X5_mostParts_u38X5 : GoodIn wsX7_read (va_wsU RX7 38 RX5 "HiredEnemy$Telling" ⟨"HiredEnemy$Telling", "mostParts", "()I"⟩ yX5_mostParts wsX5_mostParts) := goodIn_app (goodIn_of _ (by decide +kernel)) ggX7_read_X5_mostParts
theorem ggX7_read_X6_mostParts : GoodIn wsX7_read wsX6_mostParts := gW_in gwX6_mostParts (fun _ h => List.mem_cons_of_mem _ (List.mem_append_right _ (List.mem_append_right _ (List.mem_append_right _ (List.mem_append_right _ (List.mem_append_right _ (List.mem_append_left _ h)))))))
set_option maxRecDepth 20000 in
theorem gX7_read_X6_mostParts_u38X6 : GoodIn wsX7_read (va_wsU RX7 38 RX6 "HiredEnemy$Telling" ⟨"HiredEnemy$Telling", "mostParts", "()I"⟩ yX6_mostParts wsX6_mostParts) := goodIn_app (goodIn_of _ (by decide +kernel)) ggX7_read_X6_mostParts
theorem ggX7_read_X7_skipBlanks : GoodIn wsX7_read wsX7_skipBlanks := gW_in gwX7_skipBlanks (fun _ h => List.mem_cons_of_mem _ (List.mem_append_right _ (List.mem_append_right _ (List.mem_append_right _ (List.mem_append_right _ (List.mem_append_right _ (List.mem_append_right _ (List.mem_append_left _ h))))))))
set_option maxRecDepth 20000 in
theorem gX7_read_X7_skipBlanks : GoodIn wsX7_read (wsV RX7 44 RX7 yX7_skipBlanks wsX7_skipBlanks) := goodIn_app (goodIn_of _ (by decide +kernel)) ggX7_read_X7_skipBlanks
theorem ggX7_read_X7_readPart : GoodIn wsX7_read wsX7_readPart := gW_in gwX7_readPart (fun _ h => List.mem_cons_of_mem _ (List.mem_append_right _ (List.mem_append_right _ (List.mem_append_right _ (List.mem_append_right _ (List.mem_append_right _ (List.mem_append_right _ (List.mem_append_right _ (h)))))))))
set_option maxRecDepth 20000 in
theorem gX7_read_X7_readPart : GoodIn wsX7_read (wsV RX7 47 RX7 yX7_readPart wsX7_readPart) := goodIn_app (goodIn_of _ (by decide +kernel)) ggX7_read_X7_readPart
theorem bX7_read_0 : decode cX7_read 0 = .ok (.aload_n 0, 1) ∧ decode cX7_read 1 = .ok (.aload_n 1, 1) ∧ decode cX7_read 2 = .ok (.putfield 9, 3) ∧ decode cX7_read 5 = .ok (.aload_n 0, 1) ∧ decode cX7_read 6 = .ok (.iload_n 2, 1) ∧ decode cX7_read 7 = .ok (.aload_n 1, 1) ∧ decode cX7_read 8 = .ok (.arraylength, 1) ∧ decode cX7_read 9 = .ok (.invokestatic 23, 3) ∧ decode cX7_read 12 = .ok (.putfield 29, 3) ∧ decode cX7_read 15 = .ok (.aload_n 0, 1) ∧ decode cX7_read 16 = .ok (.iconst 0, 1) ∧ decode cX7_read 17 = .ok (.putfield 32, 3) ∧ decode cX7_read 20 = .ok (.aload_n 0, 1) ∧ decode cX7_read 21 = .ok (.iconst 0, 1) ∧ decode cX7_read 22 = .ok (.putfield 35, 3) ∧ decode cX7_read 25 = .ok (.aload_n 0, 1) := by decide +kernel
def dX7_read_0 := bX7_read_0.1
def dX7_read_1 := bX7_read_0.2.1
def dX7_read_2 := bX7_read_0.2.2.1
def dX7_read_5 := bX7_read_0.2.2.2.1
def dX7_read_6 := bX7_read_0.2.2.2.2.1
def dX7_read_7 := bX7_read_0.2.2.2.2.2.1
def dX7_read_8 := bX7_read_0.2.2.2.2.2.2.1
def dX7_read_9 := bX7_read_0.2.2.2.2.2.2.2.1
def dX7_read_12 := bX7_read_0.2.2.2.2.2.2.2.2.1
def dX7_read_15 := bX7_read_0.2.2.2.2.2.2.2.2.2.1
def dX7_read_16 := bX7_read_0.2.2.2.2.2.2.2.2.2.2.1
def dX7_read_17 := bX7_read_0.2.2.2.2.2.2.2.2.2.2.2.1
def dX7_read_20 := bX7_read_0.2.2.2.2.2.2.2.2.2.2.2.2.1
def dX7_read_21 := bX7_read_0.2.2.2.2.2.2.2.2.2.2.2.2.2.1
def dX7_read_22 := bX7_read_0.2.2.2.2.2.2.2.2.2.2.2.2.2.2.1
def dX7_read_25 := bX7_read_0.2.2.2.2.2.2.2.2.2.2.2.2.2.2.2
theorem bX7_read_26 : decode cX7_read 26 = .ok (.iconst (-1), 1) ∧ decode cX7_read 27 = .ok (.putfield 15, 3) ∧ decode cX7_read 30 = .ok (.iconst 0, 1) ∧ decode cX7_read 31 = .ok (.istore 4, 2) ∧ decode cX7_read 33 = .ok (.iload 4, 2) ∧ decode cX7_read 35 = .ok (.aload_n 3, 1) ∧ decode cX7_read 36 = .ok (.invokevirtual 38, 3) ∧ decode cX7_read 39 = .ok (.if_icmp .gt 37, 3) ∧ decode cX7_read 42 = .ok (.aload_n 0, 1) ∧ decode cX7_read 43 = .ok (.invokevirtual 44, 3) ∧ decode cX7_read 46 = .ok (.aload_n 0, 1) ∧ decode cX7_read 47 = .ok (.getfield 32, 3) ∧ decode cX7_read 50 = .ok (.aload_n 0, 1) ∧ decode cX7_read 51 = .ok (.getfield 29, 3) ∧ decode cX7_read 54 = .ok (.if_icmp .ge 22, 3) ∧ decode cX7_read 57 = .ok (.aload_n 0, 1) := by decide +kernel
def dX7_read_26 := bX7_read_26.1
def dX7_read_27 := bX7_read_26.2.1
def dX7_read_30 := bX7_read_26.2.2.1
def dX7_read_31 := bX7_read_26.2.2.2.1
def dX7_read_33 := bX7_read_26.2.2.2.2.1
def dX7_read_35 := bX7_read_26.2.2.2.2.2.1
def dX7_read_36 := bX7_read_26.2.2.2.2.2.2.1
def dX7_read_39 := bX7_read_26.2.2.2.2.2.2.2.1
def dX7_read_42 := bX7_read_26.2.2.2.2.2.2.2.2.1
def dX7_read_43 := bX7_read_26.2.2.2.2.2.2.2.2.2.1
def dX7_read_46 := bX7_read_26.2.2.2.2.2.2.2.2.2.2.1
def dX7_read_47 := bX7_read_26.2.2.2.2.2.2.2.2.2.2.2.1
def dX7_read_50 := bX7_read_26.2.2.2.2.2.2.2.2.2.2.2.2.1
def dX7_read_51 := bX7_read_26.2.2.2.2.2.2.2.2.2.2.2.2.2.1
def dX7_read_54 := bX7_read_26.2.2.2.2.2.2.2.2.2.2.2.2.2.2.1
def dX7_read_57 := bX7_read_26.2.2.2.2.2.2.2.2.2.2.2.2.2.2.2
theorem bX7_read_58 : decode cX7_read 58 = .ok (.aload_n 3, 1) ∧ decode cX7_read 59 = .ok (.iload 4, 2) ∧ decode cX7_read 61 = .ok (.invokevirtual 47, 3) ∧ decode cX7_read 64 = .ok (.ifCond .ne 6, 3) ∧ decode cX7_read 67 = .ok (.goto 9, 3) ∧ decode cX7_read 70 = .ok (.iinc 4 1, 3) ∧ decode cX7_read 73 = .ok (.goto (-40), 3) ∧ decode cX7_read 76 = .ok (.aload_n 0, 1) ∧ decode cX7_read 77 = .ok (.getfield 35, 3) ∧ decode cX7_read 80 = .ok (.ireturn, 1) := by decide +kernel
def dX7_read_58 := bX7_read_58.1
def dX7_read_59 := bX7_read_58.2.1
def dX7_read_61 := bX7_read_58.2.2.1
def dX7_read_64 := bX7_read_58.2.2.2.1
def dX7_read_67 := bX7_read_58.2.2.2.2.1
def dX7_read_70 := bX7_read_58.2.2.2.2.2.1
def dX7_read_73 := bX7_read_58.2.2.2.2.2.2.1
def dX7_read_76 := bX7_read_58.2.2.2.2.2.2.2.1
def dX7_read_77 := bX7_read_58.2.2.2.2.2.2.2.2.1
def dX7_read_80 := bX7_read_58.2.2.2.2.2.2.2.2.2
theorem ggX7_readPart_X7_skipLetters : GoodIn wsX7_readPart wsX7_skipLetters := gW_in gwX7_skipLetters (fun _ h => List.mem_cons_of_mem _ (List.mem_append_right _ (List.mem_append_right _ (List.mem_append_right _ (List.mem_append_right _ (List.mem_append_left _ h))))))
set_option maxRecDepth 20000 in
theorem gX7_readPart_X7_skipLetters : GoodIn wsX7_readPart (wsV RX7 51 RX7 yX7_skipLetters wsX7_skipLetters) := goodIn_app (goodIn_of _ (by decide +kernel)) ggX7_readPart_X7_skipLetters
theorem ggX7_readPart_X5_words : GoodIn wsX7_readPart wsX5_words := gW_in gwX5_words (fun _ h => List.mem_cons_of_mem _ (List.mem_append_right _ (List.mem_append_right _ (List.mem_append_right _ (List.mem_append_right _ (List.mem_append_right _ (List.mem_append_left _ h)))))))
set_option maxRecDepth 20000 in
theorem gX7_readPart_X5_words_u54X5 : GoodIn wsX7_readPart (va_wsU RX7 54 RX5 "HiredEnemy$Telling" ⟨"HiredEnemy$Telling", "words", "()Ljava/lang/String;"⟩ yX5_words wsX5_words) := goodIn_app (goodIn_of _ (by decide +kernel)) ggX7_readPart_X5_words
theorem ggX7_readPart_X6_words : GoodIn wsX7_readPart wsX6_words := gW_in gwX6_words (fun _ h => List.mem_cons_of_mem _ (List.mem_append_right _ (List.mem_append_right _ (List.mem_append_right _ (List.mem_append_right _ (List.mem_append_right _ (List.mem_append_right _ (List.mem_append_left _ h))))))))
set_option maxRecDepth 20000 in
theorem gX7_readPart_X6_words_u54X6 : GoodIn wsX7_readPart (va_wsU RX7 54 RX6 "HiredEnemy$Telling" ⟨"HiredEnemy$Telling", "words", "()Ljava/lang/String;"⟩ yX6_words wsX6_words) := goodIn_app (goodIn_of _ (by decide +kernel)) ggX7_readPart_X6_words
theorem ggX7_readPart_X7_kindOf : GoodIn wsX7_readPart wsX7_kindOf := gW_in gwX7_kindOf (fun _ h => List.mem_cons_of_mem _ (List.mem_append_right _ (List.mem_append_right _ (List.mem_append_right _ (List.mem_append_right _ (List.mem_append_right _ (List.mem_append_right _ (List.mem_append_right _ (List.mem_append_left _ h)))))))))
set_option maxRecDepth 20000 in
theorem gX7_readPart_X7_kindOf : GoodIn wsX7_readPart (wsV RX7 58 RX7 yX7_kindOf wsX7_kindOf) := goodIn_app (goodIn_of _ (by decide +kernel)) ggX7_readPart_X7_kindOf
theorem ggX7_readPart_X7_fail : GoodIn wsX7_readPart wsX7_fail := gW_in gwX7_fail (fun _ h => List.mem_cons_of_mem _ (List.mem_append_right _ (List.mem_append_right _ (List.mem_append_right _ (List.mem_append_right _ (List.mem_append_right _ (List.mem_append_right _ (List.mem_append_right _ (List.mem_append_right _ (List.mem_append_left _ h))))))))))
set_option maxRecDepth 20000 in
theorem gX7_readPart_X7_fail : GoodIn wsX7_readPart (wsV RX7 62 RX7 yX7_fail wsX7_fail) := goodIn_app (goodIn_of _ (by decide +kernel)) ggX7_readPart_X7_fail
theorem ggX7_readPart_X5_mostParts : GoodIn wsX7_readPart wsX5_mostParts := gW_in gwX5_mostParts (fun _ h => List.mem_cons_of_mem _ (List.mem_append_right _ (List.mem_append_right _ (List.mem_append_right _ (List.mem_append_right _ (List.mem_append_right _ (List.mem_append_right _ (List.mem_append_right _ (List.mem_append_right _ (List.mem_append_right _ (List.mem_append_left _ h)))))))))))
set_option maxRecDepth 20000 in
theorem gX7_readPart_X5_mostParts_u38X5 : GoodIn wsX7_readPart (va_wsU RX7 38 RX5 "HiredEnemy$Telling" ⟨"HiredEnemy$Telling", "mostParts", "()I"⟩ yX5_mostParts wsX5_mostParts) := goodIn_app (goodIn_of _ (by decide +kernel)) ggX7_readPart_X5_mostParts
theorem ggX7_readPart_X6_mostParts : GoodIn wsX7_readPart wsX6_mostParts := gW_in gwX6_mostParts (fun _ h => List.mem_cons_of_mem _ (List.mem_append_right _ (List.mem_append_right _ (List.mem_append_right _ (List.mem_append_right _ (List.mem_append_right _ (List.mem_append_right _ (List.mem_append_right _ (List.mem_append_right _ (List.mem_append_right _ (List.mem_append_right _ (List.mem_append_left _ h))))))))))))
set_option maxRecDepth 20000 in
theorem gX7_readPart_X6_mostParts_u38X6 : GoodIn wsX7_readPart (va_wsU RX7 38 RX6 "HiredEnemy$Telling" ⟨"HiredEnemy$Telling", "mostParts", "()I"⟩ yX6_mostParts wsX6_mostParts) := goodIn_app (goodIn_of _ (by decide +kernel)) ggX7_readPart_X6_mostParts
theorem ggX7_readPart_X5_isFull : GoodIn wsX7_readPart wsX5_isFull := gW_in gwX5_isFull (fun _ h => List.mem_cons_of_mem _ (List.mem_append_right _ (List.mem_append_right _ (List.mem_append_right _ (List.mem_append_right _ (List.mem_append_right _ (List.mem_append_right _ (List.mem_append_right _ (List.mem_append_right _ (List.mem_append_right _ (List.mem_append_right _ (List.mem_append_right _ (List.mem_append_left _ h)))))))))))))
set_option maxRecDepth 20000 in
theorem gX7_readPart_X5_isFull_u66X5 : GoodIn wsX7_readPart (va_wsU RX7 66 RX5 "HiredEnemy$Telling" ⟨"HiredEnemy$Telling", "isFull", "(I)Z"⟩ yX5_isFull wsX5_isFull) := goodIn_app (goodIn_of _ (by decide +kernel)) ggX7_readPart_X5_isFull
theorem ggX7_readPart_X6_isFull : GoodIn wsX7_readPart wsX6_isFull := gW_in gwX6_isFull (fun _ h => List.mem_cons_of_mem _ (List.mem_append_right _ (List.mem_append_right _ (List.mem_append_right _ (List.mem_append_right _ (List.mem_append_right _ (List.mem_append_right _ (List.mem_append_right _ (List.mem_append_right _ (List.mem_append_right _ (List.mem_append_right _ (List.mem_append_right _ (List.mem_append_right _ (List.mem_append_left _ h))))))))))))))
set_option maxRecDepth 20000 in
theorem gX7_readPart_X6_isFull_u66X6 : GoodIn wsX7_readPart (va_wsU RX7 66 RX6 "HiredEnemy$Telling" ⟨"HiredEnemy$Telling", "isFull", "(I)Z"⟩ yX6_isFull wsX6_isFull) := goodIn_app (goodIn_of _ (by decide +kernel)) ggX7_readPart_X6_isFull
theorem ggX7_readPart_X5_numbers : GoodIn wsX7_readPart wsX5_numbers := gW_in gwX5_numbers (fun _ h => List.mem_cons_of_mem _ (List.mem_append_right _ (List.mem_append_right _ (List.mem_append_right _ (List.mem_append_right _ (List.mem_append_right _ (List.mem_append_right _ (List.mem_append_right _ (List.mem_append_right _ (List.mem_append_right _ (List.mem_append_right _ (List.mem_append_right _ (List.mem_append_right _ (List.mem_append_right _ (List.mem_append_left _ h)))))))))))))))
set_option maxRecDepth 20000 in
theorem gX7_readPart_X5_numbers_u70X5 : GoodIn wsX7_readPart (va_wsU RX7 70 RX5 "HiredEnemy$Telling" ⟨"HiredEnemy$Telling", "numbers", "(I)I"⟩ yX5_numbers wsX5_numbers) := goodIn_app (goodIn_of _ (by decide +kernel)) ggX7_readPart_X5_numbers
theorem ggX7_readPart_X6_numbers : GoodIn wsX7_readPart wsX6_numbers := gW_in gwX6_numbers (fun _ h => List.mem_cons_of_mem _ (List.mem_append_right _ (List.mem_append_right _ (List.mem_append_right _ (List.mem_append_right _ (List.mem_append_right _ (List.mem_append_right _ (List.mem_append_right _ (List.mem_append_right _ (List.mem_append_right _ (List.mem_append_right _ (List.mem_append_right _ (List.mem_append_right _ (List.mem_append_right _ (List.mem_append_right _ (List.mem_append_left _ h))))))))))))))))
set_option maxRecDepth 20000 in
theorem gX7_readPart_X6_numbers_u70X6 : GoodIn wsX7_readPart (va_wsU RX7 70 RX6 "HiredEnemy$Telling" ⟨"HiredEnemy$Telling", "numbers", "(I)I"⟩ yX6_numbers wsX6_numbers) := goodIn_app (goodIn_of _ (by decide +kernel)) ggX7_readPart_X6_numbers
theorem ggX7_readPart_X5_low : GoodIn wsX7_readPart wsX5_low := gW_in gwX5_low (fun _ h => List.mem_cons_of_mem _ (List.mem_append_right _ (List.mem_append_right _ (List.mem_append_right _ (List.mem_append_right _ (List.mem_append_right _ (List.mem_append_right _ (List.mem_append_right _ (List.mem_append_right _ (List.mem_append_right _ (List.mem_append_right _ (List.mem_append_right _ (List.mem_append_right _ (List.mem_append_right _ (List.mem_append_right _ (List.mem_append_right _ (List.mem_append_left _ h)))))))))))))))))
set_option maxRecDepth 20000 in
theorem gX7_readPart_X5_low_u73X5 : GoodIn wsX7_readPart (va_wsU RX7 73 RX5 "HiredEnemy$Telling" ⟨"HiredEnemy$Telling", "low", "(II)I"⟩ yX5_low wsX5_low) := goodIn_app (goodIn_of _ (by decide +kernel)) ggX7_readPart_X5_low
theorem ggX7_readPart_X6_low : GoodIn wsX7_readPart wsX6_low := gW_in gwX6_low (fun _ h => List.mem_cons_of_mem _ (List.mem_append_right _ (List.mem_append_right _ (List.mem_append_right _ (List.mem_append_right _ (List.mem_append_right _ (List.mem_append_right _ (List.mem_append_right _ (List.mem_append_right _ (List.mem_append_right _ (List.mem_append_right _ (List.mem_append_right _ (List.mem_append_right _ (List.mem_append_right _ (List.mem_append_right _ (List.mem_append_right _ (List.mem_append_right _ (List.mem_append_left _ h))))))))))))))))))
set_option maxRecDepth 20000 in
theorem gX7_readPart_X6_low_u73X6 : GoodIn wsX7_readPart (va_wsU RX7 73 RX6 "HiredEnemy$Telling" ⟨"HiredEnemy$Telling", "low", "(II)I"⟩ yX6_low wsX6_low) := goodIn_app (goodIn_of _ (by decide +kernel)) ggX7_readPart_X6_low
theorem ggX7_readPart_X5_high : GoodIn wsX7_readPart wsX5_high := gW_in gwX5_high (fun _ h => List.mem_cons_of_mem _ (List.mem_append_right _ (List.mem_append_right _ (List.mem_append_right _ (List.mem_append_right _ (List.mem_append_right _ (List.mem_append_right _ (List.mem_append_right _ (List.mem_append_right _ (List.mem_append_right _ (List.mem_append_right _ (List.mem_append_right _ (List.mem_append_right _ (List.mem_append_right _ (List.mem_append_right _ (List.mem_append_right _ (List.mem_append_right _ (List.mem_append_right _ (List.mem_append_left _ h)))))))))))))))))))
set_option maxRecDepth 20000 in
theorem gX7_readPart_X5_high_u76X5 : GoodIn wsX7_readPart (va_wsU RX7 76 RX5 "HiredEnemy$Telling" ⟨"HiredEnemy$Telling", "high", "(II)I"⟩ yX5_high wsX5_high) := goodIn_app (goodIn_of _ (by decide +kernel)) ggX7_readPart_X5_high
theorem ggX7_readPart_X6_high : GoodIn wsX7_readPart wsX6_high := gW_in gwX6_high (fun _ h => List.mem_cons_of_mem _ (List.mem_append_right _ (List.mem_append_right _ (List.mem_append_right _ (List.mem_append_right _ (List.mem_append_right _ (List.mem_append_right _ (List.mem_append_right _ (List.mem_append_right _ (List.mem_append_right _ (List.mem_append_right _ (List.mem_append_right _ (List.mem_append_right _ (List.mem_append_right _ (List.mem_append_right _ (List.mem_append_right _ (List.mem_append_right _ (List.mem_append_right _ (List.mem_append_right _ (List.mem_append_left _ h))))))))))))))))))))
set_option maxRecDepth 20000 in
theorem gX7_readPart_X6_high_u76X6 : GoodIn wsX7_readPart (va_wsU RX7 76 RX6 "HiredEnemy$Telling" ⟨"HiredEnemy$Telling", "high", "(II)I"⟩ yX6_high wsX6_high) := goodIn_app (goodIn_of _ (by decide +kernel)) ggX7_readPart_X6_high
theorem ggX7_readPart_X7_readNumber : GoodIn wsX7_readPart wsX7_readNumber := gW_in gwX7_readNumber (fun _ h => List.mem_cons_of_mem _ (List.mem_append_right _ (List.mem_append_right _ (List.mem_append_right _ (List.mem_append_right _ (List.mem_append_right _ (List.mem_append_right _ (List.mem_append_right _ (List.mem_append_right _ (List.mem_append_right _ (List.mem_append_right _ (List.mem_append_right _ (List.mem_append_right _ (List.mem_append_right _ (List.mem_append_right _ (List.mem_append_right _ (List.mem_append_right _ (List.mem_append_right _ (List.mem_append_right _ (List.mem_append_right _ (List.mem_append_left _ h)))))))))))))))))))))
set_option maxRecDepth 20000 in
theorem gX7_readPart_X7_readNumber : GoodIn wsX7_readPart (wsV RX7 79 RX7 yX7_readNumber wsX7_readNumber) := goodIn_app (goodIn_of _ (by decide +kernel)) ggX7_readPart_X7_readNumber
theorem ggX7_readPart_X7_skipBlanks : GoodIn wsX7_readPart wsX7_skipBlanks := gW_in gwX7_skipBlanks (fun _ h => List.mem_cons_of_mem _ (List.mem_append_right _ (List.mem_append_right _ (List.mem_append_right _ (List.mem_append_right _ (List.mem_append_right _ (List.mem_append_right _ (List.mem_append_right _ (List.mem_append_right _ (List.mem_append_right _ (List.mem_append_right _ (List.mem_append_right _ (List.mem_append_right _ (List.mem_append_right _ (List.mem_append_right _ (List.mem_append_right _ (List.mem_append_right _ (List.mem_append_right _ (List.mem_append_right _ (List.mem_append_right _ (List.mem_append_right _ (List.mem_append_left _ h))))))))))))))))))))))
set_option maxRecDepth 20000 in
theorem gX7_readPart_X7_skipBlanks : GoodIn wsX7_readPart (wsV RX7 44 RX7 yX7_skipBlanks wsX7_skipBlanks) := goodIn_app (goodIn_of _ (by decide +kernel)) ggX7_readPart_X7_skipBlanks
theorem ggX7_readPart_X5_store : GoodIn wsX7_readPart wsX5_store := gW_in gwX5_store (fun _ h => List.mem_cons_of_mem _ (List.mem_append_right _ (List.mem_append_right _ (List.mem_append_right _ (List.mem_append_right _ (List.mem_append_right _ (List.mem_append_right _ (List.mem_append_right _ (List.mem_append_right _ (List.mem_append_right _ (List.mem_append_right _ (List.mem_append_right _ (List.mem_append_right _ (List.mem_append_right _ (List.mem_append_right _ (List.mem_append_right _ (List.mem_append_right _ (List.mem_append_right _ (List.mem_append_right _ (List.mem_append_right _ (List.mem_append_right _ (List.mem_append_right _ (List.mem_append_left _ h)))))))))))))))))))))))
set_option maxRecDepth 20000 in
theorem gX7_readPart_X5_store_u83X5 : GoodIn wsX7_readPart (va_wsU RX7 83 RX5 "HiredEnemy$Telling" ⟨"HiredEnemy$Telling", "store", "(I[I)V"⟩ yX5_store wsX5_store) := goodIn_app (goodIn_of _ (by decide +kernel)) ggX7_readPart_X5_store
theorem ggX7_readPart_X6_store : GoodIn wsX7_readPart wsX6_store := gW_in gwX6_store (fun _ h => List.mem_cons_of_mem _ (List.mem_append_right _ (List.mem_append_right _ (List.mem_append_right _ (List.mem_append_right _ (List.mem_append_right _ (List.mem_append_right _ (List.mem_append_right _ (List.mem_append_right _ (List.mem_append_right _ (List.mem_append_right _ (List.mem_append_right _ (List.mem_append_right _ (List.mem_append_right _ (List.mem_append_right _ (List.mem_append_right _ (List.mem_append_right _ (List.mem_append_right _ (List.mem_append_right _ (List.mem_append_right _ (List.mem_append_right _ (List.mem_append_right _ (List.mem_append_right _ (h))))))))))))))))))))))))
set_option maxRecDepth 20000 in
theorem gX7_readPart_X6_store_u83X6 : GoodIn wsX7_readPart (va_wsU RX7 83 RX6 "HiredEnemy$Telling" ⟨"HiredEnemy$Telling", "store", "(I[I)V"⟩ yX6_store wsX6_store) := goodIn_app (goodIn_of _ (by decide +kernel)) ggX7_readPart_X6_store
theorem bX7_readPart_0 : decode cX7_readPart 0 = .ok (.aload_n 0, 1) ∧ decode cX7_readPart 1 = .ok (.getfield 32, 3) ∧ decode cX7_readPart 4 = .ok (.istore_n 3, 1) ∧ decode cX7_readPart 5 = .ok (.aload_n 0, 1) ∧ decode cX7_readPart 6 = .ok (.invokevirtual 51, 3) ∧ decode cX7_readPart 9 = .ok (.aload_n 0, 1) ∧ decode cX7_readPart 10 = .ok (.aload_n 1, 1) ∧ decode cX7_readPart 11 = .ok (.invokevirtual 54, 3) ∧ decode cX7_readPart 14 = .ok (.iload_n 3, 1) ∧ decode cX7_readPart 15 = .ok (.invokevirtual 58, 3) ∧ decode cX7_readPart 18 = .ok (.istore 4, 2) ∧ decode cX7_readPart 20 = .ok (.iload 4, 2) ∧ decode cX7_readPart 22 = .ok (.iconst (-1), 1) ∧ decode cX7_readPart 23 = .ok (.if_icmp .ne 10, 3) ∧ decode cX7_readPart 26 = .ok (.aload_n 0, 1) ∧ decode cX7_readPart 27 = .ok (.iconst 1, 1) := by decide +kernel
def dX7_readPart_0 := bX7_readPart_0.1
def dX7_readPart_1 := bX7_readPart_0.2.1
def dX7_readPart_4 := bX7_readPart_0.2.2.1
def dX7_readPart_5 := bX7_readPart_0.2.2.2.1
def dX7_readPart_6 := bX7_readPart_0.2.2.2.2.1
def dX7_readPart_9 := bX7_readPart_0.2.2.2.2.2.1
def dX7_readPart_10 := bX7_readPart_0.2.2.2.2.2.2.1
def dX7_readPart_11 := bX7_readPart_0.2.2.2.2.2.2.2.1
def dX7_readPart_14 := bX7_readPart_0.2.2.2.2.2.2.2.2.1
def dX7_readPart_15 := bX7_readPart_0.2.2.2.2.2.2.2.2.2.1
def dX7_readPart_18 := bX7_readPart_0.2.2.2.2.2.2.2.2.2.2.1
def dX7_readPart_20 := bX7_readPart_0.2.2.2.2.2.2.2.2.2.2.2.1
def dX7_readPart_22 := bX7_readPart_0.2.2.2.2.2.2.2.2.2.2.2.2.1
def dX7_readPart_23 := bX7_readPart_0.2.2.2.2.2.2.2.2.2.2.2.2.2.1
def dX7_readPart_26 := bX7_readPart_0.2.2.2.2.2.2.2.2.2.2.2.2.2.2.1
def dX7_readPart_27 := bX7_readPart_0.2.2.2.2.2.2.2.2.2.2.2.2.2.2.2
theorem bX7_readPart_28 : decode cX7_readPart 28 = .ok (.iload_n 3, 1) ∧ decode cX7_readPart 29 = .ok (.invokevirtual 62, 3) ∧ decode cX7_readPart 32 = .ok (.ireturn, 1) ∧ decode cX7_readPart 33 = .ok (.iload_n 2, 1) ∧ decode cX7_readPart 34 = .ok (.aload_n 1, 1) ∧ decode cX7_readPart 35 = .ok (.invokevirtual 38, 3) ∧ decode cX7_readPart 38 = .ok (.if_icmp .ge 12, 3) ∧ decode cX7_readPart 41 = .ok (.aload_n 1, 1) ∧ decode cX7_readPart 42 = .ok (.iload 4, 2) ∧ decode cX7_readPart 44 = .ok (.invokevirtual 66, 3) ∧ decode cX7_readPart 47 = .ok (.ifCond .eq 10, 3) ∧ decode cX7_readPart 50 = .ok (.aload_n 0, 1) ∧ decode cX7_readPart 51 = .ok (.iconst 3, 1) ∧ decode cX7_readPart 52 = .ok (.iload_n 3, 1) ∧ decode cX7_readPart 53 = .ok (.invokevirtual 62, 3) ∧ decode cX7_readPart 56 = .ok (.ireturn, 1) := by decide +kernel
def dX7_readPart_28 := bX7_readPart_28.1
def dX7_readPart_29 := bX7_readPart_28.2.1
def dX7_readPart_32 := bX7_readPart_28.2.2.1
def dX7_readPart_33 := bX7_readPart_28.2.2.2.1
def dX7_readPart_34 := bX7_readPart_28.2.2.2.2.1
def dX7_readPart_35 := bX7_readPart_28.2.2.2.2.2.1
def dX7_readPart_38 := bX7_readPart_28.2.2.2.2.2.2.1
def dX7_readPart_41 := bX7_readPart_28.2.2.2.2.2.2.2.1
def dX7_readPart_42 := bX7_readPart_28.2.2.2.2.2.2.2.2.1
def dX7_readPart_44 := bX7_readPart_28.2.2.2.2.2.2.2.2.2.1
def dX7_readPart_47 := bX7_readPart_28.2.2.2.2.2.2.2.2.2.2.1
def dX7_readPart_50 := bX7_readPart_28.2.2.2.2.2.2.2.2.2.2.2.1
def dX7_readPart_51 := bX7_readPart_28.2.2.2.2.2.2.2.2.2.2.2.2.1
def dX7_readPart_52 := bX7_readPart_28.2.2.2.2.2.2.2.2.2.2.2.2.2.1
def dX7_readPart_53 := bX7_readPart_28.2.2.2.2.2.2.2.2.2.2.2.2.2.2.1
def dX7_readPart_56 := bX7_readPart_28.2.2.2.2.2.2.2.2.2.2.2.2.2.2.2
theorem bX7_readPart_57 : decode cX7_readPart 57 = .ok (.aload_n 1, 1) ∧ decode cX7_readPart 58 = .ok (.iload 4, 2) ∧ decode cX7_readPart 60 = .ok (.invokevirtual 70, 3) ∧ decode cX7_readPart 63 = .ok (.aload_n 0, 1) ∧ decode cX7_readPart 64 = .ok (.getfield 19, 3) ∧ decode cX7_readPart 67 = .ok (.arraylength, 1) ∧ decode cX7_readPart 68 = .ok (.invokestatic 23, 3) ∧ decode cX7_readPart 71 = .ok (.istore 5, 2) ∧ decode cX7_readPart 73 = .ok (.iconst 0, 1) ∧ decode cX7_readPart 74 = .ok (.istore 6, 2) ∧ decode cX7_readPart 76 = .ok (.iload 6, 2) ∧ decode cX7_readPart 78 = .ok (.iload 5, 2) ∧ decode cX7_readPart 80 = .ok (.if_icmp .ge 36, 3) ∧ decode cX7_readPart 83 = .ok (.aload_n 0, 1) ∧ decode cX7_readPart 84 = .ok (.iload 6, 2) ∧ decode cX7_readPart 86 = .ok (.aload_n 1, 1) := by decide +kernel
def dX7_readPart_57 := bX7_readPart_57.1
def dX7_readPart_58 := bX7_readPart_57.2.1
def dX7_readPart_60 := bX7_readPart_57.2.2.1
def dX7_readPart_63 := bX7_readPart_57.2.2.2.1
def dX7_readPart_64 := bX7_readPart_57.2.2.2.2.1
def dX7_readPart_67 := bX7_readPart_57.2.2.2.2.2.1
def dX7_readPart_68 := bX7_readPart_57.2.2.2.2.2.2.1
def dX7_readPart_71 := bX7_readPart_57.2.2.2.2.2.2.2.1
def dX7_readPart_73 := bX7_readPart_57.2.2.2.2.2.2.2.2.1
def dX7_readPart_74 := bX7_readPart_57.2.2.2.2.2.2.2.2.2.1
def dX7_readPart_76 := bX7_readPart_57.2.2.2.2.2.2.2.2.2.2.1
def dX7_readPart_78 := bX7_readPart_57.2.2.2.2.2.2.2.2.2.2.2.1
def dX7_readPart_80 := bX7_readPart_57.2.2.2.2.2.2.2.2.2.2.2.2.1
def dX7_readPart_83 := bX7_readPart_57.2.2.2.2.2.2.2.2.2.2.2.2.2.1
def dX7_readPart_84 := bX7_readPart_57.2.2.2.2.2.2.2.2.2.2.2.2.2.2.1
def dX7_readPart_86 := bX7_readPart_57.2.2.2.2.2.2.2.2.2.2.2.2.2.2.2
theorem bX7_readPart_87 : decode cX7_readPart 87 = .ok (.iload 4, 2) ∧ decode cX7_readPart 89 = .ok (.iload 6, 2) ∧ decode cX7_readPart 91 = .ok (.invokevirtual 73, 3) ∧ decode cX7_readPart 94 = .ok (.aload_n 1, 1) ∧ decode cX7_readPart 95 = .ok (.iload 4, 2) ∧ decode cX7_readPart 97 = .ok (.iload 6, 2) ∧ decode cX7_readPart 99 = .ok (.invokevirtual 76, 3) ∧ decode cX7_readPart 102 = .ok (.invokevirtual 79, 3) ∧ decode cX7_readPart 105 = .ok (.ifCond .ne 5, 3) ∧ decode cX7_readPart 108 = .ok (.iconst 0, 1) ∧ decode cX7_readPart 109 = .ok (.ireturn, 1) ∧ decode cX7_readPart 110 = .ok (.iinc 6 1, 3) ∧ decode cX7_readPart 113 = .ok (.goto (-37), 3) ∧ decode cX7_readPart 116 = .ok (.aload_n 0, 1) ∧ decode cX7_readPart 117 = .ok (.invokevirtual 44, 3) ∧ decode cX7_readPart 120 = .ok (.aload_n 0, 1) := by decide +kernel
def dX7_readPart_87 := bX7_readPart_87.1
def dX7_readPart_89 := bX7_readPart_87.2.1
def dX7_readPart_91 := bX7_readPart_87.2.2.1
def dX7_readPart_94 := bX7_readPart_87.2.2.2.1
def dX7_readPart_95 := bX7_readPart_87.2.2.2.2.1
def dX7_readPart_97 := bX7_readPart_87.2.2.2.2.2.1
def dX7_readPart_99 := bX7_readPart_87.2.2.2.2.2.2.1
def dX7_readPart_102 := bX7_readPart_87.2.2.2.2.2.2.2.1
def dX7_readPart_105 := bX7_readPart_87.2.2.2.2.2.2.2.2.1
def dX7_readPart_108 := bX7_readPart_87.2.2.2.2.2.2.2.2.2.1
def dX7_readPart_109 := bX7_readPart_87.2.2.2.2.2.2.2.2.2.2.1
def dX7_readPart_110 := bX7_readPart_87.2.2.2.2.2.2.2.2.2.2.2.1
def dX7_readPart_113 := bX7_readPart_87.2.2.2.2.2.2.2.2.2.2.2.2.1
def dX7_readPart_116 := bX7_readPart_87.2.2.2.2.2.2.2.2.2.2.2.2.2.1
def dX7_readPart_117 := bX7_readPart_87.2.2.2.2.2.2.2.2.2.2.2.2.2.2.1
def dX7_readPart_120 := bX7_readPart_87.2.2.2.2.2.2.2.2.2.2.2.2.2.2.2
theorem bX7_readPart_121 : decode cX7_readPart 121 = .ok (.getfield 32, 3) ∧ decode cX7_readPart 124 = .ok (.aload_n 0, 1) ∧ decode cX7_readPart 125 = .ok (.getfield 29, 3) ∧ decode cX7_readPart 128 = .ok (.if_icmp .ge 17, 3) ∧ decode cX7_readPart 131 = .ok (.aload_n 0, 1) ∧ decode cX7_readPart 132 = .ok (.getfield 9, 3) ∧ decode cX7_readPart 135 = .ok (.aload_n 0, 1) ∧ decode cX7_readPart 136 = .ok (.getfield 32, 3) ∧ decode cX7_readPart 139 = .ok (.baload, 1) ∧ decode cX7_readPart 140 = .ok (.bipush 59, 2) ∧ decode cX7_readPart 142 = .ok (.if_icmp .eq 13, 3) ∧ decode cX7_readPart 145 = .ok (.aload_n 0, 1) ∧ decode cX7_readPart 146 = .ok (.iconst 1, 1) ∧ decode cX7_readPart 147 = .ok (.aload_n 0, 1) ∧ decode cX7_readPart 148 = .ok (.getfield 32, 3) ∧ decode cX7_readPart 151 = .ok (.invokevirtual 62, 3) := by decide +kernel
def dX7_readPart_121 := bX7_readPart_121.1
def dX7_readPart_124 := bX7_readPart_121.2.1
def dX7_readPart_125 := bX7_readPart_121.2.2.1
def dX7_readPart_128 := bX7_readPart_121.2.2.2.1
def dX7_readPart_131 := bX7_readPart_121.2.2.2.2.1
def dX7_readPart_132 := bX7_readPart_121.2.2.2.2.2.1
def dX7_readPart_135 := bX7_readPart_121.2.2.2.2.2.2.1
def dX7_readPart_136 := bX7_readPart_121.2.2.2.2.2.2.2.1
def dX7_readPart_139 := bX7_readPart_121.2.2.2.2.2.2.2.2.1
def dX7_readPart_140 := bX7_readPart_121.2.2.2.2.2.2.2.2.2.1
def dX7_readPart_142 := bX7_readPart_121.2.2.2.2.2.2.2.2.2.2.1
def dX7_readPart_145 := bX7_readPart_121.2.2.2.2.2.2.2.2.2.2.2.1
def dX7_readPart_146 := bX7_readPart_121.2.2.2.2.2.2.2.2.2.2.2.2.1
def dX7_readPart_147 := bX7_readPart_121.2.2.2.2.2.2.2.2.2.2.2.2.2.1
def dX7_readPart_148 := bX7_readPart_121.2.2.2.2.2.2.2.2.2.2.2.2.2.2.1
def dX7_readPart_151 := bX7_readPart_121.2.2.2.2.2.2.2.2.2.2.2.2.2.2.2
theorem bX7_readPart_154 : decode cX7_readPart 154 = .ok (.ireturn, 1) ∧ decode cX7_readPart 155 = .ok (.aload_n 0, 1) ∧ decode cX7_readPart 156 = .ok (.dup, 1) ∧ decode cX7_readPart 157 = .ok (.getfield 32, 3) ∧ decode cX7_readPart 160 = .ok (.iconst 1, 1) ∧ decode cX7_readPart 161 = .ok (.iadd, 1) ∧ decode cX7_readPart 162 = .ok (.putfield 32, 3) ∧ decode cX7_readPart 165 = .ok (.aload_n 1, 1) ∧ decode cX7_readPart 166 = .ok (.iload 4, 2) ∧ decode cX7_readPart 168 = .ok (.aload_n 0, 1) ∧ decode cX7_readPart 169 = .ok (.getfield 19, 3) ∧ decode cX7_readPart 172 = .ok (.invokevirtual 83, 3) ∧ decode cX7_readPart 175 = .ok (.iconst 1, 1) ∧ decode cX7_readPart 176 = .ok (.ireturn, 1) := by decide +kernel
def dX7_readPart_154 := bX7_readPart_154.1
def dX7_readPart_155 := bX7_readPart_154.2.1
def dX7_readPart_156 := bX7_readPart_154.2.2.1
def dX7_readPart_157 := bX7_readPart_154.2.2.2.1
def dX7_readPart_160 := bX7_readPart_154.2.2.2.2.1
def dX7_readPart_161 := bX7_readPart_154.2.2.2.2.2.1
def dX7_readPart_162 := bX7_readPart_154.2.2.2.2.2.2.1
def dX7_readPart_165 := bX7_readPart_154.2.2.2.2.2.2.2.1
def dX7_readPart_166 := bX7_readPart_154.2.2.2.2.2.2.2.2.1
def dX7_readPart_168 := bX7_readPart_154.2.2.2.2.2.2.2.2.2.1
def dX7_readPart_169 := bX7_readPart_154.2.2.2.2.2.2.2.2.2.2.1
def dX7_readPart_172 := bX7_readPart_154.2.2.2.2.2.2.2.2.2.2.2.1
def dX7_readPart_175 := bX7_readPart_154.2.2.2.2.2.2.2.2.2.2.2.2.1
def dX7_readPart_176 := bX7_readPart_154.2.2.2.2.2.2.2.2.2.2.2.2.2
theorem ggX7_readNumber_X7_skipBlanks : GoodIn wsX7_readNumber wsX7_skipBlanks := gW_in gwX7_skipBlanks (fun _ h => List.mem_cons_of_mem _ (List.mem_append_right _ (List.mem_append_right _ (List.mem_append_left _ h))))
set_option maxRecDepth 20000 in
theorem gX7_readNumber_X7_skipBlanks : GoodIn wsX7_readNumber (wsV RX7 44 RX7 yX7_skipBlanks wsX7_skipBlanks) := goodIn_app (goodIn_of _ (by decide +kernel)) ggX7_readNumber_X7_skipBlanks
theorem ggX7_readNumber_X7_fail : GoodIn wsX7_readNumber wsX7_fail := gW_in gwX7_fail (fun _ h => List.mem_cons_of_mem _ (List.mem_append_right _ (List.mem_append_right _ (List.mem_append_right _ (List.mem_append_left _ h)))))
set_option maxRecDepth 20000 in
theorem gX7_readNumber_X7_fail : GoodIn wsX7_readNumber (wsV RX7 62 RX7 yX7_fail wsX7_fail) := goodIn_app (goodIn_of _ (by decide +kernel)) ggX7_readNumber_X7_fail
theorem ggX7_readNumber_X10_within : GoodIn wsX7_readNumber wsX10_within := gW_in gwX10_within (fun _ h => List.mem_cons_of_mem _ (List.mem_append_right _ (List.mem_append_right _ (List.mem_append_right _ (List.mem_append_right _ (h))))))
set_option maxRecDepth 20000 in
theorem gX7_readNumber_X10_within_n88 : GoodIn wsX7_readNumber (wsX10_within) := ggX7_readNumber_X10_within
theorem bX7_readNumber_0 : decode cX7_readNumber 0 = .ok (.aload_n 0, 1) ∧ decode cX7_readNumber 1 = .ok (.invokevirtual 44, 3) ∧ decode cX7_readNumber 4 = .ok (.aload_n 0, 1) ∧ decode cX7_readNumber 5 = .ok (.getfield 32, 3) ∧ decode cX7_readNumber 8 = .ok (.istore 4, 2) ∧ decode cX7_readNumber 10 = .ok (.iconst 0, 1) ∧ decode cX7_readNumber 11 = .ok (.istore 5, 2) ∧ decode cX7_readNumber 13 = .ok (.aload_n 0, 1) ∧ decode cX7_readNumber 14 = .ok (.getfield 32, 3) ∧ decode cX7_readNumber 17 = .ok (.aload_n 0, 1) ∧ decode cX7_readNumber 18 = .ok (.getfield 29, 3) ∧ decode cX7_readNumber 21 = .ok (.if_icmp .ge 69, 3) ∧ decode cX7_readNumber 24 = .ok (.aload_n 0, 1) ∧ decode cX7_readNumber 25 = .ok (.getfield 9, 3) ∧ decode cX7_readNumber 28 = .ok (.aload_n 0, 1) ∧ decode cX7_readNumber 29 = .ok (.getfield 32, 3) := by decide +kernel
def dX7_readNumber_0 := bX7_readNumber_0.1
def dX7_readNumber_1 := bX7_readNumber_0.2.1
def dX7_readNumber_4 := bX7_readNumber_0.2.2.1
def dX7_readNumber_5 := bX7_readNumber_0.2.2.2.1
def dX7_readNumber_8 := bX7_readNumber_0.2.2.2.2.1
def dX7_readNumber_10 := bX7_readNumber_0.2.2.2.2.2.1
def dX7_readNumber_11 := bX7_readNumber_0.2.2.2.2.2.2.1
def dX7_readNumber_13 := bX7_readNumber_0.2.2.2.2.2.2.2.1
def dX7_readNumber_14 := bX7_readNumber_0.2.2.2.2.2.2.2.2.1
def dX7_readNumber_17 := bX7_readNumber_0.2.2.2.2.2.2.2.2.2.1
def dX7_readNumber_18 := bX7_readNumber_0.2.2.2.2.2.2.2.2.2.2.1
def dX7_readNumber_21 := bX7_readNumber_0.2.2.2.2.2.2.2.2.2.2.2.1
def dX7_readNumber_24 := bX7_readNumber_0.2.2.2.2.2.2.2.2.2.2.2.2.1
def dX7_readNumber_25 := bX7_readNumber_0.2.2.2.2.2.2.2.2.2.2.2.2.2.1
def dX7_readNumber_28 := bX7_readNumber_0.2.2.2.2.2.2.2.2.2.2.2.2.2.2.1
def dX7_readNumber_29 := bX7_readNumber_0.2.2.2.2.2.2.2.2.2.2.2.2.2.2.2
theorem bX7_readNumber_32 : decode cX7_readNumber 32 = .ok (.baload, 1) ∧ decode cX7_readNumber 33 = .ok (.bipush 48, 2) ∧ decode cX7_readNumber 35 = .ok (.if_icmp .lt 55, 3) ∧ decode cX7_readNumber 38 = .ok (.aload_n 0, 1) ∧ decode cX7_readNumber 39 = .ok (.getfield 9, 3) ∧ decode cX7_readNumber 42 = .ok (.aload_n 0, 1) ∧ decode cX7_readNumber 43 = .ok (.getfield 32, 3) ∧ decode cX7_readNumber 46 = .ok (.baload, 1) ∧ decode cX7_readNumber 47 = .ok (.bipush 57, 2) ∧ decode cX7_readNumber 49 = .ok (.if_icmp .gt 41, 3) ∧ decode cX7_readNumber 52 = .ok (.iload 5, 2) ∧ decode cX7_readNumber 54 = .ok (.bipush 10, 2) ∧ decode cX7_readNumber 56 = .ok (.imul, 1) ∧ decode cX7_readNumber 57 = .ok (.aload_n 0, 1) ∧ decode cX7_readNumber 58 = .ok (.getfield 9, 3) ∧ decode cX7_readNumber 61 = .ok (.aload_n 0, 1) := by decide +kernel
def dX7_readNumber_32 := bX7_readNumber_32.1
def dX7_readNumber_33 := bX7_readNumber_32.2.1
def dX7_readNumber_35 := bX7_readNumber_32.2.2.1
def dX7_readNumber_38 := bX7_readNumber_32.2.2.2.1
def dX7_readNumber_39 := bX7_readNumber_32.2.2.2.2.1
def dX7_readNumber_42 := bX7_readNumber_32.2.2.2.2.2.1
def dX7_readNumber_43 := bX7_readNumber_32.2.2.2.2.2.2.1
def dX7_readNumber_46 := bX7_readNumber_32.2.2.2.2.2.2.2.1
def dX7_readNumber_47 := bX7_readNumber_32.2.2.2.2.2.2.2.2.1
def dX7_readNumber_49 := bX7_readNumber_32.2.2.2.2.2.2.2.2.2.1
def dX7_readNumber_52 := bX7_readNumber_32.2.2.2.2.2.2.2.2.2.2.1
def dX7_readNumber_54 := bX7_readNumber_32.2.2.2.2.2.2.2.2.2.2.2.1
def dX7_readNumber_56 := bX7_readNumber_32.2.2.2.2.2.2.2.2.2.2.2.2.1
def dX7_readNumber_57 := bX7_readNumber_32.2.2.2.2.2.2.2.2.2.2.2.2.2.1
def dX7_readNumber_58 := bX7_readNumber_32.2.2.2.2.2.2.2.2.2.2.2.2.2.2.1
def dX7_readNumber_61 := bX7_readNumber_32.2.2.2.2.2.2.2.2.2.2.2.2.2.2.2
theorem bX7_readNumber_62 : decode cX7_readNumber 62 = .ok (.getfield 32, 3) ∧ decode cX7_readNumber 65 = .ok (.baload, 1) ∧ decode cX7_readNumber 66 = .ok (.iadd, 1) ∧ decode cX7_readNumber 67 = .ok (.bipush 48, 2) ∧ decode cX7_readNumber 69 = .ok (.isub, 1) ∧ decode cX7_readNumber 70 = .ok (.ldc 87, 2) ∧ decode cX7_readNumber 72 = .ok (.invokestatic 23, 3) ∧ decode cX7_readNumber 75 = .ok (.istore 5, 2) ∧ decode cX7_readNumber 77 = .ok (.aload_n 0, 1) ∧ decode cX7_readNumber 78 = .ok (.dup, 1) ∧ decode cX7_readNumber 79 = .ok (.getfield 32, 3) ∧ decode cX7_readNumber 82 = .ok (.iconst 1, 1) ∧ decode cX7_readNumber 83 = .ok (.iadd, 1) ∧ decode cX7_readNumber 84 = .ok (.putfield 32, 3) ∧ decode cX7_readNumber 87 = .ok (.goto (-74), 3) ∧ decode cX7_readNumber 90 = .ok (.aload_n 0, 1) := by decide +kernel
def dX7_readNumber_62 := bX7_readNumber_62.1
def dX7_readNumber_65 := bX7_readNumber_62.2.1
def dX7_readNumber_66 := bX7_readNumber_62.2.2.1
def dX7_readNumber_67 := bX7_readNumber_62.2.2.2.1
def dX7_readNumber_69 := bX7_readNumber_62.2.2.2.2.1
def dX7_readNumber_70 := bX7_readNumber_62.2.2.2.2.2.1
def dX7_readNumber_72 := bX7_readNumber_62.2.2.2.2.2.2.1
def dX7_readNumber_75 := bX7_readNumber_62.2.2.2.2.2.2.2.1
def dX7_readNumber_77 := bX7_readNumber_62.2.2.2.2.2.2.2.2.1
def dX7_readNumber_78 := bX7_readNumber_62.2.2.2.2.2.2.2.2.2.1
def dX7_readNumber_79 := bX7_readNumber_62.2.2.2.2.2.2.2.2.2.2.1
def dX7_readNumber_82 := bX7_readNumber_62.2.2.2.2.2.2.2.2.2.2.2.1
def dX7_readNumber_83 := bX7_readNumber_62.2.2.2.2.2.2.2.2.2.2.2.2.1
def dX7_readNumber_84 := bX7_readNumber_62.2.2.2.2.2.2.2.2.2.2.2.2.2.1
def dX7_readNumber_87 := bX7_readNumber_62.2.2.2.2.2.2.2.2.2.2.2.2.2.2.1
def dX7_readNumber_90 := bX7_readNumber_62.2.2.2.2.2.2.2.2.2.2.2.2.2.2.2
theorem bX7_readNumber_91 : decode cX7_readNumber 91 = .ok (.getfield 32, 3) ∧ decode cX7_readNumber 94 = .ok (.iload 4, 2) ∧ decode cX7_readNumber 96 = .ok (.if_icmp .ne 11, 3) ∧ decode cX7_readNumber 99 = .ok (.aload_n 0, 1) ∧ decode cX7_readNumber 100 = .ok (.iconst 1, 1) ∧ decode cX7_readNumber 101 = .ok (.iload 4, 2) ∧ decode cX7_readNumber 103 = .ok (.invokevirtual 62, 3) ∧ decode cX7_readNumber 106 = .ok (.ireturn, 1) ∧ decode cX7_readNumber 107 = .ok (.iload 5, 2) ∧ decode cX7_readNumber 109 = .ok (.iload_n 2, 1) ∧ decode cX7_readNumber 110 = .ok (.iload_n 3, 1) ∧ decode cX7_readNumber 111 = .ok (.invokestatic 88, 3) ∧ decode cX7_readNumber 114 = .ok (.ifCond .ne 11, 3) ∧ decode cX7_readNumber 117 = .ok (.aload_n 0, 1) ∧ decode cX7_readNumber 118 = .ok (.iconst 2, 1) ∧ decode cX7_readNumber 119 = .ok (.iload 4, 2) := by decide +kernel
def dX7_readNumber_91 := bX7_readNumber_91.1
def dX7_readNumber_94 := bX7_readNumber_91.2.1
def dX7_readNumber_96 := bX7_readNumber_91.2.2.1
def dX7_readNumber_99 := bX7_readNumber_91.2.2.2.1
def dX7_readNumber_100 := bX7_readNumber_91.2.2.2.2.1
def dX7_readNumber_101 := bX7_readNumber_91.2.2.2.2.2.1
def dX7_readNumber_103 := bX7_readNumber_91.2.2.2.2.2.2.1
def dX7_readNumber_106 := bX7_readNumber_91.2.2.2.2.2.2.2.1
def dX7_readNumber_107 := bX7_readNumber_91.2.2.2.2.2.2.2.2.1
def dX7_readNumber_109 := bX7_readNumber_91.2.2.2.2.2.2.2.2.2.1
def dX7_readNumber_110 := bX7_readNumber_91.2.2.2.2.2.2.2.2.2.2.1
def dX7_readNumber_111 := bX7_readNumber_91.2.2.2.2.2.2.2.2.2.2.2.1
def dX7_readNumber_114 := bX7_readNumber_91.2.2.2.2.2.2.2.2.2.2.2.2.1
def dX7_readNumber_117 := bX7_readNumber_91.2.2.2.2.2.2.2.2.2.2.2.2.2.1
def dX7_readNumber_118 := bX7_readNumber_91.2.2.2.2.2.2.2.2.2.2.2.2.2.2.1
def dX7_readNumber_119 := bX7_readNumber_91.2.2.2.2.2.2.2.2.2.2.2.2.2.2.2
theorem bX7_readNumber_121 : decode cX7_readNumber 121 = .ok (.invokevirtual 62, 3) ∧ decode cX7_readNumber 124 = .ok (.ireturn, 1) ∧ decode cX7_readNumber 125 = .ok (.aload_n 0, 1) ∧ decode cX7_readNumber 126 = .ok (.getfield 19, 3) ∧ decode cX7_readNumber 129 = .ok (.iload_n 1, 1) ∧ decode cX7_readNumber 130 = .ok (.iload 5, 2) ∧ decode cX7_readNumber 132 = .ok (.iastore, 1) ∧ decode cX7_readNumber 133 = .ok (.iconst 1, 1) ∧ decode cX7_readNumber 134 = .ok (.ireturn, 1) := by decide +kernel
def dX7_readNumber_121 := bX7_readNumber_121.1
def dX7_readNumber_124 := bX7_readNumber_121.2.1
def dX7_readNumber_125 := bX7_readNumber_121.2.2.1
def dX7_readNumber_126 := bX7_readNumber_121.2.2.2.1
def dX7_readNumber_129 := bX7_readNumber_121.2.2.2.2.1
def dX7_readNumber_130 := bX7_readNumber_121.2.2.2.2.2.1
def dX7_readNumber_132 := bX7_readNumber_121.2.2.2.2.2.2.1
def dX7_readNumber_133 := bX7_readNumber_121.2.2.2.2.2.2.2.1
def dX7_readNumber_134 := bX7_readNumber_121.2.2.2.2.2.2.2.2
theorem bX7_fail_0 : decode cX7_fail 0 = .ok (.aload_n 0, 1) ∧ decode cX7_fail 1 = .ok (.iload_n 1, 1) ∧ decode cX7_fail 2 = .ok (.putfield 35, 3) ∧ decode cX7_fail 5 = .ok (.aload_n 0, 1) ∧ decode cX7_fail 6 = .ok (.iload_n 2, 1) ∧ decode cX7_fail 7 = .ok (.putfield 15, 3) ∧ decode cX7_fail 10 = .ok (.iconst 0, 1) ∧ decode cX7_fail 11 = .ok (.ireturn, 1) := by decide +kernel
def dX7_fail_0 := bX7_fail_0.1
def dX7_fail_1 := bX7_fail_0.2.1
def dX7_fail_2 := bX7_fail_0.2.2.1
def dX7_fail_5 := bX7_fail_0.2.2.2.1
def dX7_fail_6 := bX7_fail_0.2.2.2.2.1
def dX7_fail_7 := bX7_fail_0.2.2.2.2.2.1
def dX7_fail_10 := bX7_fail_0.2.2.2.2.2.2.1
def dX7_fail_11 := bX7_fail_0.2.2.2.2.2.2.2
theorem bX7_skipBlanks_0 : decode cX7_skipBlanks 0 = .ok (.aload_n 0, 1) ∧ decode cX7_skipBlanks 1 = .ok (.getfield 32, 3) ∧ decode cX7_skipBlanks 4 = .ok (.aload_n 0, 1) ∧ decode cX7_skipBlanks 5 = .ok (.getfield 29, 3) ∧ decode cX7_skipBlanks 8 = .ok (.if_icmp .ge 30, 3) ∧ decode cX7_skipBlanks 11 = .ok (.aload_n 0, 1) ∧ decode cX7_skipBlanks 12 = .ok (.getfield 9, 3) ∧ decode cX7_skipBlanks 15 = .ok (.aload_n 0, 1) ∧ decode cX7_skipBlanks 16 = .ok (.getfield 32, 3) ∧ decode cX7_skipBlanks 19 = .ok (.baload, 1) ∧ decode cX7_skipBlanks 20 = .ok (.bipush 32, 2) ∧ decode cX7_skipBlanks 22 = .ok (.if_icmp .ne 16, 3) ∧ decode cX7_skipBlanks 25 = .ok (.aload_n 0, 1) ∧ decode cX7_skipBlanks 26 = .ok (.dup, 1) ∧ decode cX7_skipBlanks 27 = .ok (.getfield 32, 3) ∧ decode cX7_skipBlanks 30 = .ok (.iconst 1, 1) := by decide +kernel
def dX7_skipBlanks_0 := bX7_skipBlanks_0.1
def dX7_skipBlanks_1 := bX7_skipBlanks_0.2.1
def dX7_skipBlanks_4 := bX7_skipBlanks_0.2.2.1
def dX7_skipBlanks_5 := bX7_skipBlanks_0.2.2.2.1
def dX7_skipBlanks_8 := bX7_skipBlanks_0.2.2.2.2.1
def dX7_skipBlanks_11 := bX7_skipBlanks_0.2.2.2.2.2.1
def dX7_skipBlanks_12 := bX7_skipBlanks_0.2.2.2.2.2.2.1
def dX7_skipBlanks_15 := bX7_skipBlanks_0.2.2.2.2.2.2.2.1
def dX7_skipBlanks_16 := bX7_skipBlanks_0.2.2.2.2.2.2.2.2.1
def dX7_skipBlanks_19 := bX7_skipBlanks_0.2.2.2.2.2.2.2.2.2.1
def dX7_skipBlanks_20 := bX7_skipBlanks_0.2.2.2.2.2.2.2.2.2.2.1
def dX7_skipBlanks_22 := bX7_skipBlanks_0.2.2.2.2.2.2.2.2.2.2.2.1
def dX7_skipBlanks_25 := bX7_skipBlanks_0.2.2.2.2.2.2.2.2.2.2.2.2.1
def dX7_skipBlanks_26 := bX7_skipBlanks_0.2.2.2.2.2.2.2.2.2.2.2.2.2.1
def dX7_skipBlanks_27 := bX7_skipBlanks_0.2.2.2.2.2.2.2.2.2.2.2.2.2.2.1
def dX7_skipBlanks_30 := bX7_skipBlanks_0.2.2.2.2.2.2.2.2.2.2.2.2.2.2.2
theorem bX7_skipBlanks_31 : decode cX7_skipBlanks 31 = .ok (.iadd, 1) ∧ decode cX7_skipBlanks 32 = .ok (.putfield 32, 3) ∧ decode cX7_skipBlanks 35 = .ok (.goto (-35), 3) ∧ decode cX7_skipBlanks 38 = .ok (.return_, 1) := by decide +kernel
def dX7_skipBlanks_31 := bX7_skipBlanks_31.1
def dX7_skipBlanks_32 := bX7_skipBlanks_31.2.1
def dX7_skipBlanks_35 := bX7_skipBlanks_31.2.2.1
def dX7_skipBlanks_38 := bX7_skipBlanks_31.2.2.2
theorem bX7_skipLetters_0 : decode cX7_skipLetters 0 = .ok (.aload_n 0, 1) ∧ decode cX7_skipLetters 1 = .ok (.getfield 32, 3) ∧ decode cX7_skipLetters 4 = .ok (.aload_n 0, 1) ∧ decode cX7_skipLetters 5 = .ok (.getfield 29, 3) ∧ decode cX7_skipLetters 8 = .ok (.if_icmp .ge 44, 3) ∧ decode cX7_skipLetters 11 = .ok (.aload_n 0, 1) ∧ decode cX7_skipLetters 12 = .ok (.getfield 9, 3) ∧ decode cX7_skipLetters 15 = .ok (.aload_n 0, 1) ∧ decode cX7_skipLetters 16 = .ok (.getfield 32, 3) ∧ decode cX7_skipLetters 19 = .ok (.baload, 1) ∧ decode cX7_skipLetters 20 = .ok (.bipush 97, 2) ∧ decode cX7_skipLetters 22 = .ok (.if_icmp .lt 30, 3) ∧ decode cX7_skipLetters 25 = .ok (.aload_n 0, 1) ∧ decode cX7_skipLetters 26 = .ok (.getfield 9, 3) ∧ decode cX7_skipLetters 29 = .ok (.aload_n 0, 1) ∧ decode cX7_skipLetters 30 = .ok (.getfield 32, 3) := by decide +kernel
def dX7_skipLetters_0 := bX7_skipLetters_0.1
def dX7_skipLetters_1 := bX7_skipLetters_0.2.1
def dX7_skipLetters_4 := bX7_skipLetters_0.2.2.1
def dX7_skipLetters_5 := bX7_skipLetters_0.2.2.2.1
def dX7_skipLetters_8 := bX7_skipLetters_0.2.2.2.2.1
def dX7_skipLetters_11 := bX7_skipLetters_0.2.2.2.2.2.1
def dX7_skipLetters_12 := bX7_skipLetters_0.2.2.2.2.2.2.1
def dX7_skipLetters_15 := bX7_skipLetters_0.2.2.2.2.2.2.2.1
def dX7_skipLetters_16 := bX7_skipLetters_0.2.2.2.2.2.2.2.2.1
def dX7_skipLetters_19 := bX7_skipLetters_0.2.2.2.2.2.2.2.2.2.1
def dX7_skipLetters_20 := bX7_skipLetters_0.2.2.2.2.2.2.2.2.2.2.1
def dX7_skipLetters_22 := bX7_skipLetters_0.2.2.2.2.2.2.2.2.2.2.2.1
def dX7_skipLetters_25 := bX7_skipLetters_0.2.2.2.2.2.2.2.2.2.2.2.2.1
def dX7_skipLetters_26 := bX7_skipLetters_0.2.2.2.2.2.2.2.2.2.2.2.2.2.1
def dX7_skipLetters_29 := bX7_skipLetters_0.2.2.2.2.2.2.2.2.2.2.2.2.2.2.1
def dX7_skipLetters_30 := bX7_skipLetters_0.2.2.2.2.2.2.2.2.2.2.2.2.2.2.2
theorem bX7_skipLetters_33 : decode cX7_skipLetters 33 = .ok (.baload, 1) ∧ decode cX7_skipLetters 34 = .ok (.bipush 122, 2) ∧ decode cX7_skipLetters 36 = .ok (.if_icmp .gt 16, 3) ∧ decode cX7_skipLetters 39 = .ok (.aload_n 0, 1) ∧ decode cX7_skipLetters 40 = .ok (.dup, 1) ∧ decode cX7_skipLetters 41 = .ok (.getfield 32, 3) ∧ decode cX7_skipLetters 44 = .ok (.iconst 1, 1) ∧ decode cX7_skipLetters 45 = .ok (.iadd, 1) ∧ decode cX7_skipLetters 46 = .ok (.putfield 32, 3) ∧ decode cX7_skipLetters 49 = .ok (.goto (-49), 3) ∧ decode cX7_skipLetters 52 = .ok (.return_, 1) := by decide +kernel
def dX7_skipLetters_33 := bX7_skipLetters_33.1
def dX7_skipLetters_34 := bX7_skipLetters_33.2.1
def dX7_skipLetters_36 := bX7_skipLetters_33.2.2.1
def dX7_skipLetters_39 := bX7_skipLetters_33.2.2.2.1
def dX7_skipLetters_40 := bX7_skipLetters_33.2.2.2.2.1
def dX7_skipLetters_41 := bX7_skipLetters_33.2.2.2.2.2.1
def dX7_skipLetters_44 := bX7_skipLetters_33.2.2.2.2.2.2.1
def dX7_skipLetters_45 := bX7_skipLetters_33.2.2.2.2.2.2.2.1
def dX7_skipLetters_46 := bX7_skipLetters_33.2.2.2.2.2.2.2.2.1
def dX7_skipLetters_49 := bX7_skipLetters_33.2.2.2.2.2.2.2.2.2.1
def dX7_skipLetters_52 := bX7_skipLetters_33.2.2.2.2.2.2.2.2.2.2
theorem ggX7_kindOf_J0_length_8abf5 : GoodIn wsX7_kindOf wsJ0_length_8abf5 := gW_in gwJ0_length_8abf5 (fun _ h => List.mem_cons_of_mem _ (List.mem_append_right _ (List.mem_append_right _ (List.mem_append_left _ h))))
set_option maxRecDepth 20000 in
theorem gX7_kindOf_J0_length_8abf5 : GoodIn wsX7_kindOf (wsV RX7 91 RJ0 yJ0_length_8abf5 wsJ0_length_8abf5) := goodIn_app (goodIn_of _ (by decide +kernel)) ggX7_kindOf_J0_length_8abf5
theorem ggX7_kindOf_J0_charAt_5068e : GoodIn wsX7_kindOf wsJ0_charAt_5068e := gW_in gwJ0_charAt_5068e (fun _ h => List.mem_cons_of_mem _ (List.mem_append_right _ (List.mem_append_right _ (List.mem_append_right _ (List.mem_append_left _ h)))))
set_option maxRecDepth 20000 in
theorem gX7_kindOf_J0_charAt_5068e : GoodIn wsX7_kindOf (wsV RX7 95 RJ0 yJ0_charAt_5068e wsJ0_charAt_5068e) := goodIn_app (goodIn_of _ (by decide +kernel)) ggX7_kindOf_J0_charAt_5068e
theorem ggX7_kindOf_X7_isSame : GoodIn wsX7_kindOf wsX7_isSame := gW_in gwX7_isSame (fun _ h => List.mem_cons_of_mem _ (List.mem_append_right _ (List.mem_append_right _ (List.mem_append_right _ (List.mem_append_right _ (h))))))
set_option maxRecDepth 20000 in
theorem gX7_kindOf_X7_isSame : GoodIn wsX7_kindOf (wsV RX7 99 RX7 yX7_isSame wsX7_isSame) := goodIn_app (goodIn_of _ (by decide +kernel)) ggX7_kindOf_X7_isSame
theorem bX7_kindOf_0 : decode cX7_kindOf 0 = .ok (.iconst 0, 1) ∧ decode cX7_kindOf 1 = .ok (.istore_n 3, 1) ∧ decode cX7_kindOf 2 = .ok (.iconst 0, 1) ∧ decode cX7_kindOf 3 = .ok (.istore 4, 2) ∧ decode cX7_kindOf 5 = .ok (.iconst 0, 1) ∧ decode cX7_kindOf 6 = .ok (.istore 5, 2) ∧ decode cX7_kindOf 8 = .ok (.iload 5, 2) ∧ decode cX7_kindOf 10 = .ok (.aload_n 1, 1) ∧ decode cX7_kindOf 11 = .ok (.invokevirtual 91, 3) ∧ decode cX7_kindOf 14 = .ok (.if_icmp .gt 53, 3) ∧ decode cX7_kindOf 17 = .ok (.iload 5, 2) ∧ decode cX7_kindOf 19 = .ok (.aload_n 1, 1) ∧ decode cX7_kindOf 20 = .ok (.invokevirtual 91, 3) ∧ decode cX7_kindOf 23 = .ok (.if_icmp .eq 14, 3) ∧ decode cX7_kindOf 26 = .ok (.aload_n 1, 1) ∧ decode cX7_kindOf 27 = .ok (.iload 5, 2) := by decide +kernel
def dX7_kindOf_0 := bX7_kindOf_0.1
def dX7_kindOf_1 := bX7_kindOf_0.2.1
def dX7_kindOf_2 := bX7_kindOf_0.2.2.1
def dX7_kindOf_3 := bX7_kindOf_0.2.2.2.1
def dX7_kindOf_5 := bX7_kindOf_0.2.2.2.2.1
def dX7_kindOf_6 := bX7_kindOf_0.2.2.2.2.2.1
def dX7_kindOf_8 := bX7_kindOf_0.2.2.2.2.2.2.1
def dX7_kindOf_10 := bX7_kindOf_0.2.2.2.2.2.2.2.1
def dX7_kindOf_11 := bX7_kindOf_0.2.2.2.2.2.2.2.2.1
def dX7_kindOf_14 := bX7_kindOf_0.2.2.2.2.2.2.2.2.2.1
def dX7_kindOf_17 := bX7_kindOf_0.2.2.2.2.2.2.2.2.2.2.1
def dX7_kindOf_19 := bX7_kindOf_0.2.2.2.2.2.2.2.2.2.2.2.1
def dX7_kindOf_20 := bX7_kindOf_0.2.2.2.2.2.2.2.2.2.2.2.2.1
def dX7_kindOf_23 := bX7_kindOf_0.2.2.2.2.2.2.2.2.2.2.2.2.2.1
def dX7_kindOf_26 := bX7_kindOf_0.2.2.2.2.2.2.2.2.2.2.2.2.2.2.1
def dX7_kindOf_27 := bX7_kindOf_0.2.2.2.2.2.2.2.2.2.2.2.2.2.2.2
theorem bX7_kindOf_29 : decode cX7_kindOf 29 = .ok (.invokevirtual 95, 3) ∧ decode cX7_kindOf 32 = .ok (.bipush 32, 2) ∧ decode cX7_kindOf 34 = .ok (.if_icmp .ne 27, 3) ∧ decode cX7_kindOf 37 = .ok (.aload_n 0, 1) ∧ decode cX7_kindOf 38 = .ok (.aload_n 1, 1) ∧ decode cX7_kindOf 39 = .ok (.iload 4, 2) ∧ decode cX7_kindOf 41 = .ok (.iload 5, 2) ∧ decode cX7_kindOf 43 = .ok (.iload_n 2, 1) ∧ decode cX7_kindOf 44 = .ok (.invokevirtual 99, 3) ∧ decode cX7_kindOf 47 = .ok (.ifCond .eq 5, 3) ∧ decode cX7_kindOf 50 = .ok (.iload_n 3, 1) ∧ decode cX7_kindOf 51 = .ok (.ireturn, 1) ∧ decode cX7_kindOf 52 = .ok (.iinc 3 1, 3) ∧ decode cX7_kindOf 55 = .ok (.iload 5, 2) ∧ decode cX7_kindOf 57 = .ok (.iconst 1, 1) ∧ decode cX7_kindOf 58 = .ok (.iadd, 1) := by decide +kernel
def dX7_kindOf_29 := bX7_kindOf_29.1
def dX7_kindOf_32 := bX7_kindOf_29.2.1
def dX7_kindOf_34 := bX7_kindOf_29.2.2.1
def dX7_kindOf_37 := bX7_kindOf_29.2.2.2.1
def dX7_kindOf_38 := bX7_kindOf_29.2.2.2.2.1
def dX7_kindOf_39 := bX7_kindOf_29.2.2.2.2.2.1
def dX7_kindOf_41 := bX7_kindOf_29.2.2.2.2.2.2.1
def dX7_kindOf_43 := bX7_kindOf_29.2.2.2.2.2.2.2.1
def dX7_kindOf_44 := bX7_kindOf_29.2.2.2.2.2.2.2.2.1
def dX7_kindOf_47 := bX7_kindOf_29.2.2.2.2.2.2.2.2.2.1
def dX7_kindOf_50 := bX7_kindOf_29.2.2.2.2.2.2.2.2.2.2.1
def dX7_kindOf_51 := bX7_kindOf_29.2.2.2.2.2.2.2.2.2.2.2.1
def dX7_kindOf_52 := bX7_kindOf_29.2.2.2.2.2.2.2.2.2.2.2.2.1
def dX7_kindOf_55 := bX7_kindOf_29.2.2.2.2.2.2.2.2.2.2.2.2.2.1
def dX7_kindOf_57 := bX7_kindOf_29.2.2.2.2.2.2.2.2.2.2.2.2.2.2.1
def dX7_kindOf_58 := bX7_kindOf_29.2.2.2.2.2.2.2.2.2.2.2.2.2.2.2
theorem bX7_kindOf_59 : decode cX7_kindOf 59 = .ok (.istore 4, 2) ∧ decode cX7_kindOf 61 = .ok (.iinc 5 1, 3) ∧ decode cX7_kindOf 64 = .ok (.goto (-56), 3) ∧ decode cX7_kindOf 67 = .ok (.iconst (-1), 1) ∧ decode cX7_kindOf 68 = .ok (.ireturn, 1) := by decide +kernel
def dX7_kindOf_59 := bX7_kindOf_59.1
def dX7_kindOf_61 := bX7_kindOf_59.2.1
def dX7_kindOf_64 := bX7_kindOf_59.2.2.1
def dX7_kindOf_67 := bX7_kindOf_59.2.2.2.1
def dX7_kindOf_68 := bX7_kindOf_59.2.2.2.2
theorem ggX7_isSame_J0_charAt_5068e : GoodIn wsX7_isSame wsJ0_charAt_5068e := gW_in gwJ0_charAt_5068e (fun _ h => List.mem_cons_of_mem _ (List.mem_append_right _ (List.mem_append_right _ (h))))
set_option maxRecDepth 20000 in
theorem gX7_isSame_J0_charAt_5068e : GoodIn wsX7_isSame (wsV RX7 95 RJ0 yJ0_charAt_5068e wsJ0_charAt_5068e) := goodIn_app (goodIn_of _ (by decide +kernel)) ggX7_isSame_J0_charAt_5068e
theorem bX7_isSame_0 : decode cX7_isSame 0 = .ok (.iload_n 3, 1) ∧ decode cX7_isSame 1 = .ok (.iload_n 2, 1) ∧ decode cX7_isSame 2 = .ok (.isub, 1) ∧ decode cX7_isSame 3 = .ok (.aload_n 0, 1) ∧ decode cX7_isSame 4 = .ok (.getfield 32, 3) ∧ decode cX7_isSame 7 = .ok (.iload 4, 2) ∧ decode cX7_isSame 9 = .ok (.isub, 1) ∧ decode cX7_isSame 10 = .ok (.if_icmp .eq 5, 3) ∧ decode cX7_isSame 13 = .ok (.iconst 0, 1) ∧ decode cX7_isSame 14 = .ok (.ireturn, 1) ∧ decode cX7_isSame 15 = .ok (.iconst 0, 1) ∧ decode cX7_isSame 16 = .ok (.istore 5, 2) ∧ decode cX7_isSame 18 = .ok (.iload 5, 2) ∧ decode cX7_isSame 20 = .ok (.iload_n 3, 1) ∧ decode cX7_isSame 21 = .ok (.iload_n 2, 1) ∧ decode cX7_isSame 22 = .ok (.isub, 1) := by decide +kernel
def dX7_isSame_0 := bX7_isSame_0.1
def dX7_isSame_1 := bX7_isSame_0.2.1
def dX7_isSame_2 := bX7_isSame_0.2.2.1
def dX7_isSame_3 := bX7_isSame_0.2.2.2.1
def dX7_isSame_4 := bX7_isSame_0.2.2.2.2.1
def dX7_isSame_7 := bX7_isSame_0.2.2.2.2.2.1
def dX7_isSame_9 := bX7_isSame_0.2.2.2.2.2.2.1
def dX7_isSame_10 := bX7_isSame_0.2.2.2.2.2.2.2.1
def dX7_isSame_13 := bX7_isSame_0.2.2.2.2.2.2.2.2.1
def dX7_isSame_14 := bX7_isSame_0.2.2.2.2.2.2.2.2.2.1
def dX7_isSame_15 := bX7_isSame_0.2.2.2.2.2.2.2.2.2.2.1
def dX7_isSame_16 := bX7_isSame_0.2.2.2.2.2.2.2.2.2.2.2.1
def dX7_isSame_18 := bX7_isSame_0.2.2.2.2.2.2.2.2.2.2.2.2.1
def dX7_isSame_20 := bX7_isSame_0.2.2.2.2.2.2.2.2.2.2.2.2.2.1
def dX7_isSame_21 := bX7_isSame_0.2.2.2.2.2.2.2.2.2.2.2.2.2.2.1
def dX7_isSame_22 := bX7_isSame_0.2.2.2.2.2.2.2.2.2.2.2.2.2.2.2
theorem bX7_isSame_23 : decode cX7_isSame 23 = .ok (.if_icmp .ge 32, 3) ∧ decode cX7_isSame 26 = .ok (.aload_n 1, 1) ∧ decode cX7_isSame 27 = .ok (.iload_n 2, 1) ∧ decode cX7_isSame 28 = .ok (.iload 5, 2) ∧ decode cX7_isSame 30 = .ok (.iadd, 1) ∧ decode cX7_isSame 31 = .ok (.invokevirtual 95, 3) ∧ decode cX7_isSame 34 = .ok (.aload_n 0, 1) ∧ decode cX7_isSame 35 = .ok (.getfield 9, 3) ∧ decode cX7_isSame 38 = .ok (.iload 4, 2) ∧ decode cX7_isSame 40 = .ok (.iload 5, 2) ∧ decode cX7_isSame 42 = .ok (.iadd, 1) ∧ decode cX7_isSame 43 = .ok (.baload, 1) ∧ decode cX7_isSame 44 = .ok (.if_icmp .eq 5, 3) ∧ decode cX7_isSame 47 = .ok (.iconst 0, 1) ∧ decode cX7_isSame 48 = .ok (.ireturn, 1) ∧ decode cX7_isSame 49 = .ok (.iinc 5 1, 3) := by decide +kernel
def dX7_isSame_23 := bX7_isSame_23.1
def dX7_isSame_26 := bX7_isSame_23.2.1
def dX7_isSame_27 := bX7_isSame_23.2.2.1
def dX7_isSame_28 := bX7_isSame_23.2.2.2.1
def dX7_isSame_30 := bX7_isSame_23.2.2.2.2.1
def dX7_isSame_31 := bX7_isSame_23.2.2.2.2.2.1
def dX7_isSame_34 := bX7_isSame_23.2.2.2.2.2.2.1
def dX7_isSame_35 := bX7_isSame_23.2.2.2.2.2.2.2.1
def dX7_isSame_38 := bX7_isSame_23.2.2.2.2.2.2.2.2.1
def dX7_isSame_40 := bX7_isSame_23.2.2.2.2.2.2.2.2.2.1
def dX7_isSame_42 := bX7_isSame_23.2.2.2.2.2.2.2.2.2.2.1
def dX7_isSame_43 := bX7_isSame_23.2.2.2.2.2.2.2.2.2.2.2.1
def dX7_isSame_44 := bX7_isSame_23.2.2.2.2.2.2.2.2.2.2.2.2.1
def dX7_isSame_47 := bX7_isSame_23.2.2.2.2.2.2.2.2.2.2.2.2.2.1
def dX7_isSame_48 := bX7_isSame_23.2.2.2.2.2.2.2.2.2.2.2.2.2.2.1
def dX7_isSame_49 := bX7_isSame_23.2.2.2.2.2.2.2.2.2.2.2.2.2.2.2
theorem bX7_isSame_52 : decode cX7_isSame 52 = .ok (.goto (-34), 3) ∧ decode cX7_isSame 55 = .ok (.iconst 1, 1) ∧ decode cX7_isSame 56 = .ok (.ireturn, 1) := by decide +kernel
def dX7_isSame_52 := bX7_isSame_52.1
def dX7_isSame_55 := bX7_isSame_52.2.1
def dX7_isSame_56 := bX7_isSame_52.2.2
theorem ggX8_init_X4_init : GoodIn wsX8_init wsX4_init := gW_in gwX4_init (fun _ h => List.mem_cons_of_mem _ (List.mem_append_right _ (List.mem_append_right _ (List.mem_append_right _ (List.mem_append_right _ (List.mem_append_right _ (List.mem_append_right _ (List.mem_append_left _ h))))))))
set_option maxRecDepth 20000 in
theorem gX8_init_X4_init_n9 : GoodIn wsX8_init (wsX4_init) := ggX8_init_X4_init
theorem ggX8_init_X0_init : GoodIn wsX8_init wsX0_init := gW_in gwX0_init (fun _ h => List.mem_cons_of_mem _ (List.mem_append_right _ (List.mem_append_right _ (List.mem_append_right _ (List.mem_append_right _ (List.mem_append_right _ (List.mem_append_right _ (List.mem_append_right _ (List.mem_append_left _ h)))))))))
set_option maxRecDepth 20000 in
theorem gX8_init_X0_init_n18 : GoodIn wsX8_init (wsX0_init) := ggX8_init_X0_init
theorem ggX8_init_X2_init : GoodIn wsX8_init wsX2_init := gW_in gwX2_init (fun _ h => List.mem_cons_of_mem _ (List.mem_append_right _ (List.mem_append_right _ (List.mem_append_right _ (List.mem_append_right _ (List.mem_append_right _ (List.mem_append_right _ (List.mem_append_right _ (List.mem_append_right _ (List.mem_append_left _ h))))))))))
set_option maxRecDepth 20000 in
theorem gX8_init_X2_init_n25 : GoodIn wsX8_init (wsX2_init) := ggX8_init_X2_init
theorem ggX8_init_X3_init : GoodIn wsX8_init wsX3_init := gW_in gwX3_init (fun _ h => List.mem_cons_of_mem _ (List.mem_append_right _ (List.mem_append_right _ (List.mem_append_right _ (List.mem_append_right _ (List.mem_append_right _ (List.mem_append_right _ (List.mem_append_right _ (List.mem_append_right _ (List.mem_append_right _ (h)))))))))))
set_option maxRecDepth 20000 in
theorem gX8_init_X3_init_n32 : GoodIn wsX8_init (wsX3_init) := ggX8_init_X3_init
theorem bX8_init_0 : decode cX8_init 0 = .ok (.aload_n 0, 1) ∧ decode cX8_init 1 = .ok (.invokespecial 1, 3) ∧ decode cX8_init 4 = .ok (.aload_n 0, 1) ∧ decode cX8_init 5 = .ok (.new 7, 3) ∧ decode cX8_init 8 = .ok (.dup, 1) ∧ decode cX8_init 9 = .ok (.invokespecial 9, 3) ∧ decode cX8_init 12 = .ok (.putfield 10, 3) ∧ decode cX8_init 15 = .ok (.aload_n 0, 1) ∧ decode cX8_init 16 = .ok (.new 16, 3) ∧ decode cX8_init 19 = .ok (.dup, 1) ∧ decode cX8_init 20 = .ok (.invokespecial 18, 3) ∧ decode cX8_init 23 = .ok (.putfield 19, 3) ∧ decode cX8_init 26 = .ok (.aload_n 0, 1) ∧ decode cX8_init 27 = .ok (.new 23, 3) ∧ decode cX8_init 30 = .ok (.dup, 1) ∧ decode cX8_init 31 = .ok (.invokespecial 25, 3) := by decide +kernel
def dX8_init_0 := bX8_init_0.1
def dX8_init_1 := bX8_init_0.2.1
def dX8_init_4 := bX8_init_0.2.2.1
def dX8_init_5 := bX8_init_0.2.2.2.1
def dX8_init_8 := bX8_init_0.2.2.2.2.1
def dX8_init_9 := bX8_init_0.2.2.2.2.2.1
def dX8_init_12 := bX8_init_0.2.2.2.2.2.2.1
def dX8_init_15 := bX8_init_0.2.2.2.2.2.2.2.1
def dX8_init_16 := bX8_init_0.2.2.2.2.2.2.2.2.1
def dX8_init_19 := bX8_init_0.2.2.2.2.2.2.2.2.2.1
def dX8_init_20 := bX8_init_0.2.2.2.2.2.2.2.2.2.2.1
def dX8_init_23 := bX8_init_0.2.2.2.2.2.2.2.2.2.2.2.1
def dX8_init_26 := bX8_init_0.2.2.2.2.2.2.2.2.2.2.2.2.1
def dX8_init_27 := bX8_init_0.2.2.2.2.2.2.2.2.2.2.2.2.2.1
def dX8_init_30 := bX8_init_0.2.2.2.2.2.2.2.2.2.2.2.2.2.2.1
def dX8_init_31 := bX8_init_0.2.2.2.2.2.2.2.2.2.2.2.2.2.2.2
theorem bX8_init_34 : decode cX8_init 34 = .ok (.putfield 26, 3) ∧ decode cX8_init 37 = .ok (.aload_n 0, 1) ∧ decode cX8_init 38 = .ok (.new 30, 3) ∧ decode cX8_init 41 = .ok (.dup, 1) ∧ decode cX8_init 42 = .ok (.invokespecial 32, 3) ∧ decode cX8_init 45 = .ok (.putfield 33, 3) ∧ decode cX8_init 48 = .ok (.return_, 1) := by decide +kernel
def dX8_init_34 := bX8_init_34.1
def dX8_init_37 := bX8_init_34.2.1
def dX8_init_38 := bX8_init_34.2.2.1
def dX8_init_41 := bX8_init_34.2.2.2.1
def dX8_init_42 := bX8_init_34.2.2.2.2.1
def dX8_init_45 := bX8_init_34.2.2.2.2.2.1
def dX8_init_48 := bX8_init_34.2.2.2.2.2.2
theorem ggX8_begin_X4_begin : GoodIn wsX8_begin wsX4_begin := gW_in gwX4_begin (fun _ h => List.mem_cons_of_mem _ (List.mem_append_right _ (List.mem_append_right _ (List.mem_append_right _ (List.mem_append_right _ (List.mem_append_right _ (List.mem_append_right _ (List.mem_append_left _ h))))))))
set_option maxRecDepth 20000 in
theorem gX8_begin_X4_begin : GoodIn wsX8_begin (wsV RX8 37 RX4 yX4_begin wsX4_begin) := goodIn_app (goodIn_of _ (by decide +kernel)) ggX8_begin_X4_begin
theorem ggX8_begin_X2_forget : GoodIn wsX8_begin wsX2_forget := gW_in gwX2_forget (fun _ h => List.mem_cons_of_mem _ (List.mem_append_right _ (List.mem_append_right _ (List.mem_append_right _ (List.mem_append_right _ (List.mem_append_right _ (List.mem_append_right _ (List.mem_append_right _ (List.mem_append_left _ h)))))))))
set_option maxRecDepth 20000 in
theorem gX8_begin_X2_forget : GoodIn wsX8_begin (wsV RX8 41 RX2 yX2_forget wsX2_forget) := goodIn_app (goodIn_of _ (by decide +kernel)) ggX8_begin_X2_forget
theorem ggX8_begin_X3_clear : GoodIn wsX8_begin wsX3_clear := gW_in gwX3_clear (fun _ h => List.mem_cons_of_mem _ (List.mem_append_right _ (List.mem_append_right _ (List.mem_append_right _ (List.mem_append_right _ (List.mem_append_right _ (List.mem_append_right _ (List.mem_append_right _ (List.mem_append_right _ (h))))))))))
set_option maxRecDepth 20000 in
theorem gX8_begin_X3_clear : GoodIn wsX8_begin (wsV RX8 44 RX3 yX3_clear wsX3_clear) := goodIn_app (goodIn_of _ (by decide +kernel)) ggX8_begin_X3_clear
theorem bX8_begin_0 : decode cX8_begin 0 = .ok (.aload_n 0, 1) ∧ decode cX8_begin 1 = .ok (.getfield 10, 3) ∧ decode cX8_begin 4 = .ok (.aload_n 1, 1) ∧ decode cX8_begin 5 = .ok (.invokevirtual 37, 3) ∧ decode cX8_begin 8 = .ok (.aload_n 0, 1) ∧ decode cX8_begin 9 = .ok (.getfield 26, 3) ∧ decode cX8_begin 12 = .ok (.invokevirtual 41, 3) ∧ decode cX8_begin 15 = .ok (.aload_n 0, 1) ∧ decode cX8_begin 16 = .ok (.getfield 33, 3) ∧ decode cX8_begin 19 = .ok (.invokevirtual 44, 3) ∧ decode cX8_begin 22 = .ok (.return_, 1) := by decide +kernel
def dX8_begin_0 := bX8_begin_0.1
def dX8_begin_1 := bX8_begin_0.2.1
def dX8_begin_4 := bX8_begin_0.2.2.1
def dX8_begin_5 := bX8_begin_0.2.2.2.1
def dX8_begin_8 := bX8_begin_0.2.2.2.2.1
def dX8_begin_9 := bX8_begin_0.2.2.2.2.2.1
def dX8_begin_12 := bX8_begin_0.2.2.2.2.2.2.1
def dX8_begin_15 := bX8_begin_0.2.2.2.2.2.2.2.1
def dX8_begin_16 := bX8_begin_0.2.2.2.2.2.2.2.2.1
def dX8_begin_19 := bX8_begin_0.2.2.2.2.2.2.2.2.2.1
def dX8_begin_22 := bX8_begin_0.2.2.2.2.2.2.2.2.2.2
theorem ggX8_take_X4_take : GoodIn wsX8_take wsX4_take := gW_in gwX4_take (fun _ h => List.mem_cons_of_mem _ (List.mem_append_right _ (List.mem_append_right _ (List.mem_append_right _ (List.mem_append_right _ (List.mem_append_right _ (List.mem_append_right _ (List.mem_append_left _ h))))))))
set_option maxRecDepth 20000 in
theorem gX8_take_X4_take : GoodIn wsX8_take (wsV RX8 47 RX4 yX4_take wsX4_take) := goodIn_app (goodIn_of _ (by decide +kernel)) ggX8_take_X4_take
theorem ggX8_take_X0_take : GoodIn wsX8_take wsX0_take := gW_in gwX0_take (fun _ h => List.mem_cons_of_mem _ (List.mem_append_right _ (List.mem_append_right _ (List.mem_append_right _ (List.mem_append_right _ (List.mem_append_right _ (List.mem_append_right _ (List.mem_append_right _ (List.mem_append_left _ h)))))))))
set_option maxRecDepth 20000 in
theorem gX8_take_X0_take : GoodIn wsX8_take (wsV RX8 55 RX0 yX0_take wsX0_take) := goodIn_app (goodIn_of _ (by decide +kernel)) ggX8_take_X0_take
theorem ggX8_take_X2_take : GoodIn wsX8_take wsX2_take := gW_in gwX2_take (fun _ h => List.mem_cons_of_mem _ (List.mem_append_right _ (List.mem_append_right _ (List.mem_append_right _ (List.mem_append_right _ (List.mem_append_right _ (List.mem_append_right _ (List.mem_append_right _ (List.mem_append_right _ (List.mem_append_left _ h))))))))))
set_option maxRecDepth 20000 in
theorem gX8_take_X2_take : GoodIn wsX8_take (wsV RX8 58 RX2 yX2_take wsX2_take) := goodIn_app (goodIn_of _ (by decide +kernel)) ggX8_take_X2_take
theorem ggX8_take_X3_take : GoodIn wsX8_take wsX3_take := gW_in gwX3_take (fun _ h => List.mem_cons_of_mem _ (List.mem_append_right _ (List.mem_append_right _ (List.mem_append_right _ (List.mem_append_right _ (List.mem_append_right _ (List.mem_append_right _ (List.mem_append_right _ (List.mem_append_right _ (List.mem_append_right _ (h)))))))))))
set_option maxRecDepth 20000 in
theorem gX8_take_X3_take : GoodIn wsX8_take (wsV RX8 61 RX3 yX3_take wsX3_take) := goodIn_app (goodIn_of _ (by decide +kernel)) ggX8_take_X3_take
theorem bX8_take_0 : decode cX8_take 0 = .ok (.aload_n 0, 1) ∧ decode cX8_take 1 = .ok (.getfield 10, 3) ∧ decode cX8_take 4 = .ok (.aload_n 1, 1) ∧ decode cX8_take 5 = .ok (.getfield 10, 3) ∧ decode cX8_take 8 = .ok (.invokevirtual 47, 3) ∧ decode cX8_take 11 = .ok (.aload_n 0, 1) ∧ decode cX8_take 12 = .ok (.getfield 19, 3) ∧ decode cX8_take 15 = .ok (.aload_n 1, 1) ∧ decode cX8_take 16 = .ok (.getfield 19, 3) ∧ decode cX8_take 19 = .ok (.aload_n 1, 1) ∧ decode cX8_take 20 = .ok (.getfield 10, 3) ∧ decode cX8_take 23 = .ok (.getfield 51, 3) ∧ decode cX8_take 26 = .ok (.invokevirtual 55, 3) ∧ decode cX8_take 29 = .ok (.aload_n 0, 1) ∧ decode cX8_take 30 = .ok (.getfield 26, 3) ∧ decode cX8_take 33 = .ok (.aload_n 1, 1) := by decide +kernel
def dX8_take_0 := bX8_take_0.1
def dX8_take_1 := bX8_take_0.2.1
def dX8_take_4 := bX8_take_0.2.2.1
def dX8_take_5 := bX8_take_0.2.2.2.1
def dX8_take_8 := bX8_take_0.2.2.2.2.1
def dX8_take_11 := bX8_take_0.2.2.2.2.2.1
def dX8_take_12 := bX8_take_0.2.2.2.2.2.2.1
def dX8_take_15 := bX8_take_0.2.2.2.2.2.2.2.1
def dX8_take_16 := bX8_take_0.2.2.2.2.2.2.2.2.1
def dX8_take_19 := bX8_take_0.2.2.2.2.2.2.2.2.2.1
def dX8_take_20 := bX8_take_0.2.2.2.2.2.2.2.2.2.2.1
def dX8_take_23 := bX8_take_0.2.2.2.2.2.2.2.2.2.2.2.1
def dX8_take_26 := bX8_take_0.2.2.2.2.2.2.2.2.2.2.2.2.1
def dX8_take_29 := bX8_take_0.2.2.2.2.2.2.2.2.2.2.2.2.2.1
def dX8_take_30 := bX8_take_0.2.2.2.2.2.2.2.2.2.2.2.2.2.2.1
def dX8_take_33 := bX8_take_0.2.2.2.2.2.2.2.2.2.2.2.2.2.2.2
theorem bX8_take_34 : decode cX8_take 34 = .ok (.getfield 26, 3) ∧ decode cX8_take 37 = .ok (.invokevirtual 58, 3) ∧ decode cX8_take 40 = .ok (.aload_n 0, 1) ∧ decode cX8_take 41 = .ok (.getfield 33, 3) ∧ decode cX8_take 44 = .ok (.aload_n 1, 1) ∧ decode cX8_take 45 = .ok (.getfield 33, 3) ∧ decode cX8_take 48 = .ok (.invokevirtual 61, 3) ∧ decode cX8_take 51 = .ok (.return_, 1) := by decide +kernel
def dX8_take_34 := bX8_take_34.1
def dX8_take_37 := bX8_take_34.2.1
def dX8_take_40 := bX8_take_34.2.2.1
def dX8_take_41 := bX8_take_34.2.2.2.1
def dX8_take_44 := bX8_take_34.2.2.2.2.1
def dX8_take_45 := bX8_take_34.2.2.2.2.2.1
def dX8_take_48 := bX8_take_34.2.2.2.2.2.2.1
def dX8_take_51 := bX8_take_34.2.2.2.2.2.2.2
theorem bX9_init_0 : decode cX9_init 0 = .ok (.aload_n 0, 1) ∧ decode cX9_init 1 = .ok (.invokespecial 1, 3) ∧ decode cX9_init 4 = .ok (.return_, 1) := by decide +kernel
def dX9_init_0 := bX9_init_0.1
def dX9_init_1 := bX9_init_0.2.1
def dX9_init_4 := bX9_init_0.2.2
theorem ggX10_init_X7_init : GoodIn wsX10_init wsX7_init := gW_in gwX7_init (fun _ h => List.mem_cons_of_mem _ (List.mem_append_right _ (List.mem_append_right _ (List.mem_append_right _ (List.mem_append_right _ (List.mem_append_right _ (List.mem_append_right _ (List.mem_append_right _ (List.mem_append_right _ (List.mem_append_right _ (List.mem_append_right _ (List.mem_append_right _ (List.mem_append_left _ h)))))))))))))
set_option maxRecDepth 20000 in
theorem gX10_init_X7_init_n15 : GoodIn wsX10_init (wsX7_init) := ggX10_init_X7_init
theorem ggX10_init_X6_init : GoodIn wsX10_init wsX6_init := gW_in gwX6_init (fun _ h => List.mem_cons_of_mem _ (List.mem_append_right _ (List.mem_append_right _ (List.mem_append_right _ (List.mem_append_right _ (List.mem_append_right _ (List.mem_append_right _ (List.mem_append_right _ (List.mem_append_right _ (List.mem_append_right _ (List.mem_append_right _ (List.mem_append_right _ (List.mem_append_right _ (List.mem_append_left _ h))))))))))))))
set_option maxRecDepth 20000 in
theorem gX10_init_X6_init : GoodIn wsX10_init (wsX6_init) := ggX10_init_X6_init
theorem ggX10_init_X8_init : GoodIn wsX10_init wsX8_init := gW_in gwX8_init (fun _ h => List.mem_cons_of_mem _ (List.mem_append_right _ (List.mem_append_right _ (List.mem_append_right _ (List.mem_append_right _ (List.mem_append_right _ (List.mem_append_right _ (List.mem_append_right _ (List.mem_append_right _ (List.mem_append_right _ (List.mem_append_right _ (List.mem_append_right _ (List.mem_append_right _ (List.mem_append_right _ (List.mem_append_left _ h)))))))))))))))
set_option maxRecDepth 20000 in
theorem gX10_init_X8_init_n38 : GoodIn wsX10_init (wsX8_init) := ggX10_init_X8_init
theorem ggX10_init_X4_init : GoodIn wsX10_init wsX4_init := gW_in gwX4_init (fun _ h => List.mem_cons_of_mem _ (List.mem_append_right _ (List.mem_append_right _ (List.mem_append_right _ (List.mem_append_right _ (List.mem_append_right _ (List.mem_append_right _ (List.mem_append_right _ (List.mem_append_right _ (List.mem_append_right _ (List.mem_append_right _ (List.mem_append_right _ (List.mem_append_right _ (List.mem_append_right _ (List.mem_append_right _ (List.mem_append_left _ h))))))))))))))))
set_option maxRecDepth 20000 in
theorem gX10_init_X4_init_n49 : GoodIn wsX10_init (wsX4_init) := ggX10_init_X4_init
theorem ggX10_init_X1_init : GoodIn wsX10_init wsX1_init := gW_in gwX1_init (fun _ h => List.mem_cons_of_mem _ (List.mem_append_right _ (List.mem_append_right _ (List.mem_append_right _ (List.mem_append_right _ (List.mem_append_right _ (List.mem_append_right _ (List.mem_append_right _ (List.mem_append_right _ (List.mem_append_right _ (List.mem_append_right _ (List.mem_append_right _ (List.mem_append_right _ (List.mem_append_right _ (List.mem_append_right _ (List.mem_append_right _ (List.mem_append_left _ h)))))))))))))))))
set_option maxRecDepth 20000 in
theorem gX10_init_X1_init_n56 : GoodIn wsX10_init (wsX1_init) := ggX10_init_X1_init
theorem ggX10_init_X5_init : GoodIn wsX10_init wsX5_init := gW_in gwX5_init (fun _ h => List.mem_cons_of_mem _ (List.mem_append_right _ (List.mem_append_right _ (List.mem_append_right _ (List.mem_append_right _ (List.mem_append_right _ (List.mem_append_right _ (List.mem_append_right _ (List.mem_append_right _ (List.mem_append_right _ (List.mem_append_right _ (List.mem_append_right _ (List.mem_append_right _ (List.mem_append_right _ (List.mem_append_right _ (List.mem_append_right _ (List.mem_append_right _ (List.mem_append_left _ h))))))))))))))))))
set_option maxRecDepth 20000 in
theorem gX10_init_X5_init_n65 : GoodIn wsX10_init (wsX5_init) := ggX10_init_X5_init
theorem ggX10_init_X4_begin : GoodIn wsX10_init wsX4_begin := gW_in gwX4_begin (fun _ h => List.mem_cons_of_mem _ (List.mem_append_right _ (List.mem_append_right _ (List.mem_append_right _ (List.mem_append_right _ (List.mem_append_right _ (List.mem_append_right _ (List.mem_append_right _ (List.mem_append_right _ (List.mem_append_right _ (List.mem_append_right _ (List.mem_append_right _ (List.mem_append_right _ (List.mem_append_right _ (List.mem_append_right _ (List.mem_append_right _ (List.mem_append_right _ (List.mem_append_right _ (h)))))))))))))))))))
set_option maxRecDepth 20000 in
theorem gX10_init_X4_begin : GoodIn wsX10_init (wsV RX10 69 RX4 yX4_begin wsX4_begin) := goodIn_app (goodIn_of _ (by decide +kernel)) ggX10_init_X4_begin
theorem bX10_init_0 : decode cX10_init 0 = .ok (.aload_n 0, 1) ∧ decode cX10_init 1 = .ok (.invokespecial 3, 3) ∧ decode cX10_init 4 = .ok (.aload_n 0, 1) ∧ decode cX10_init 5 = .ok (.sipush 500, 3) ∧ decode cX10_init 8 = .ok (.newarray .byte, 2) ∧ decode cX10_init 10 = .ok (.putfield 9, 3) ∧ decode cX10_init 13 = .ok (.aload_n 0, 1) ∧ decode cX10_init 14 = .ok (.new 13, 3) ∧ decode cX10_init 17 = .ok (.dup, 1) ∧ decode cX10_init 18 = .ok (.invokespecial 15, 3) ∧ decode cX10_init 21 = .ok (.putfield 16, 3) ∧ decode cX10_init 24 = .ok (.aload_n 0, 1) ∧ decode cX10_init 25 = .ok (.new 20, 3) ∧ decode cX10_init 28 = .ok (.dup, 1) ∧ decode cX10_init 29 = .ok (.invokespecial 22, 3) ∧ decode cX10_init 32 = .ok (.putfield 23, 3) := by decide +kernel
def dX10_init_0 := bX10_init_0.1
def dX10_init_1 := bX10_init_0.2.1
def dX10_init_4 := bX10_init_0.2.2.1
def dX10_init_5 := bX10_init_0.2.2.2.1
def dX10_init_8 := bX10_init_0.2.2.2.2.1
def dX10_init_10 := bX10_init_0.2.2.2.2.2.1
def dX10_init_13 := bX10_init_0.2.2.2.2.2.2.1
def dX10_init_14 := bX10_init_0.2.2.2.2.2.2.2.1
def dX10_init_17 := bX10_init_0.2.2.2.2.2.2.2.2.1
def dX10_init_18 := bX10_init_0.2.2.2.2.2.2.2.2.2.1
def dX10_init_21 := bX10_init_0.2.2.2.2.2.2.2.2.2.2.1
def dX10_init_24 := bX10_init_0.2.2.2.2.2.2.2.2.2.2.2.1
def dX10_init_25 := bX10_init_0.2.2.2.2.2.2.2.2.2.2.2.2.1
def dX10_init_28 := bX10_init_0.2.2.2.2.2.2.2.2.2.2.2.2.2.1
def dX10_init_29 := bX10_init_0.2.2.2.2.2.2.2.2.2.2.2.2.2.2.1
def dX10_init_32 := bX10_init_0.2.2.2.2.2.2.2.2.2.2.2.2.2.2.2
theorem bX10_init_35 : decode cX10_init 35 = .ok (.aload_n 0, 1) ∧ decode cX10_init 36 = .ok (.new 20, 3) ∧ decode cX10_init 39 = .ok (.dup, 1) ∧ decode cX10_init 40 = .ok (.invokespecial 22, 3) ∧ decode cX10_init 43 = .ok (.putfield 27, 3) ∧ decode cX10_init 46 = .ok (.aload_n 0, 1) ∧ decode cX10_init 47 = .ok (.bipush 7, 2) ∧ decode cX10_init 49 = .ok (.anewarray 30, 3) ∧ decode cX10_init 52 = .ok (.putfield 32, 3) ∧ decode cX10_init 55 = .ok (.aload_n 0, 1) ∧ decode cX10_init 56 = .ok (.new 36, 3) ∧ decode cX10_init 59 = .ok (.dup, 1) ∧ decode cX10_init 60 = .ok (.invokespecial 38, 3) ∧ decode cX10_init 63 = .ok (.putfield 39, 3) ∧ decode cX10_init 66 = .ok (.aload_n 0, 1) ∧ decode cX10_init 67 = .ok (.iconst 3, 1) := by decide +kernel
def dX10_init_35 := bX10_init_35.1
def dX10_init_36 := bX10_init_35.2.1
def dX10_init_39 := bX10_init_35.2.2.1
def dX10_init_40 := bX10_init_35.2.2.2.1
def dX10_init_43 := bX10_init_35.2.2.2.2.1
def dX10_init_46 := bX10_init_35.2.2.2.2.2.1
def dX10_init_47 := bX10_init_35.2.2.2.2.2.2.1
def dX10_init_49 := bX10_init_35.2.2.2.2.2.2.2.1
def dX10_init_52 := bX10_init_35.2.2.2.2.2.2.2.2.1
def dX10_init_55 := bX10_init_35.2.2.2.2.2.2.2.2.2.1
def dX10_init_56 := bX10_init_35.2.2.2.2.2.2.2.2.2.2.1
def dX10_init_59 := bX10_init_35.2.2.2.2.2.2.2.2.2.2.2.1
def dX10_init_60 := bX10_init_35.2.2.2.2.2.2.2.2.2.2.2.2.1
def dX10_init_63 := bX10_init_35.2.2.2.2.2.2.2.2.2.2.2.2.2.1
def dX10_init_66 := bX10_init_35.2.2.2.2.2.2.2.2.2.2.2.2.2.2.1
def dX10_init_67 := bX10_init_35.2.2.2.2.2.2.2.2.2.2.2.2.2.2.2
theorem bX10_init_68 : decode cX10_init 68 = .ok (.anewarray 36, 3) ∧ decode cX10_init 71 = .ok (.putfield 43, 3) ∧ decode cX10_init 74 = .ok (.aload_n 0, 1) ∧ decode cX10_init 75 = .ok (.new 47, 3) ∧ decode cX10_init 78 = .ok (.dup, 1) ∧ decode cX10_init 79 = .ok (.invokespecial 49, 3) ∧ decode cX10_init 82 = .ok (.putfield 50, 3) ∧ decode cX10_init 85 = .ok (.aload_n 0, 1) ∧ decode cX10_init 86 = .ok (.new 54, 3) ∧ decode cX10_init 89 = .ok (.dup, 1) ∧ decode cX10_init 90 = .ok (.invokespecial 56, 3) ∧ decode cX10_init 93 = .ok (.putfield 57, 3) ∧ decode cX10_init 96 = .ok (.aload_n 0, 1) ∧ decode cX10_init 97 = .ok (.iconst 3, 1) ∧ decode cX10_init 98 = .ok (.newarray .int, 2) ∧ decode cX10_init 100 = .ok (.putfield 61, 3) := by decide +kernel
def dX10_init_68 := bX10_init_68.1
def dX10_init_71 := bX10_init_68.2.1
def dX10_init_74 := bX10_init_68.2.2.1
def dX10_init_75 := bX10_init_68.2.2.2.1
def dX10_init_78 := bX10_init_68.2.2.2.2.1
def dX10_init_79 := bX10_init_68.2.2.2.2.2.1
def dX10_init_82 := bX10_init_68.2.2.2.2.2.2.1
def dX10_init_85 := bX10_init_68.2.2.2.2.2.2.2.1
def dX10_init_86 := bX10_init_68.2.2.2.2.2.2.2.2.1
def dX10_init_89 := bX10_init_68.2.2.2.2.2.2.2.2.2.1
def dX10_init_90 := bX10_init_68.2.2.2.2.2.2.2.2.2.2.1
def dX10_init_93 := bX10_init_68.2.2.2.2.2.2.2.2.2.2.2.1
def dX10_init_96 := bX10_init_68.2.2.2.2.2.2.2.2.2.2.2.2.1
def dX10_init_97 := bX10_init_68.2.2.2.2.2.2.2.2.2.2.2.2.2.1
def dX10_init_98 := bX10_init_68.2.2.2.2.2.2.2.2.2.2.2.2.2.2.1
def dX10_init_100 := bX10_init_68.2.2.2.2.2.2.2.2.2.2.2.2.2.2.2
theorem bX10_init_103 : decode cX10_init 103 = .ok (.iconst 0, 1) ∧ decode cX10_init 104 = .ok (.istore_n 1, 1) ∧ decode cX10_init 105 = .ok (.iload_n 1, 1) ∧ decode cX10_init 106 = .ok (.aload_n 0, 1) ∧ decode cX10_init 107 = .ok (.getfield 32, 3) ∧ decode cX10_init 110 = .ok (.arraylength, 1) ∧ decode cX10_init 111 = .ok (.if_icmp .ge 22, 3) ∧ decode cX10_init 114 = .ok (.aload_n 0, 1) ∧ decode cX10_init 115 = .ok (.getfield 32, 3) ∧ decode cX10_init 118 = .ok (.iload_n 1, 1) ∧ decode cX10_init 119 = .ok (.new 30, 3) ∧ decode cX10_init 122 = .ok (.dup, 1) ∧ decode cX10_init 123 = .ok (.invokespecial 65, 3) ∧ decode cX10_init 126 = .ok (.aastore, 1) ∧ decode cX10_init 127 = .ok (.iinc 1 1, 3) ∧ decode cX10_init 130 = .ok (.goto (-25), 3) := by decide +kernel
def dX10_init_103 := bX10_init_103.1
def dX10_init_104 := bX10_init_103.2.1
def dX10_init_105 := bX10_init_103.2.2.1
def dX10_init_106 := bX10_init_103.2.2.2.1
def dX10_init_107 := bX10_init_103.2.2.2.2.1
def dX10_init_110 := bX10_init_103.2.2.2.2.2.1
def dX10_init_111 := bX10_init_103.2.2.2.2.2.2.1
def dX10_init_114 := bX10_init_103.2.2.2.2.2.2.2.1
def dX10_init_115 := bX10_init_103.2.2.2.2.2.2.2.2.1
def dX10_init_118 := bX10_init_103.2.2.2.2.2.2.2.2.2.1
def dX10_init_119 := bX10_init_103.2.2.2.2.2.2.2.2.2.2.1
def dX10_init_122 := bX10_init_103.2.2.2.2.2.2.2.2.2.2.2.1
def dX10_init_123 := bX10_init_103.2.2.2.2.2.2.2.2.2.2.2.2.1
def dX10_init_126 := bX10_init_103.2.2.2.2.2.2.2.2.2.2.2.2.2.1
def dX10_init_127 := bX10_init_103.2.2.2.2.2.2.2.2.2.2.2.2.2.2.1
def dX10_init_130 := bX10_init_103.2.2.2.2.2.2.2.2.2.2.2.2.2.2.2
theorem bX10_init_133 : decode cX10_init 133 = .ok (.aload_n 0, 1) ∧ decode cX10_init 134 = .ok (.getfield 39, 3) ∧ decode cX10_init 137 = .ok (.getfield 66, 3) ∧ decode cX10_init 140 = .ok (.aload_n 0, 1) ∧ decode cX10_init 141 = .ok (.getfield 23, 3) ∧ decode cX10_init 144 = .ok (.invokevirtual 69, 3) ∧ decode cX10_init 147 = .ok (.return_, 1) := by decide +kernel
def dX10_init_133 := bX10_init_133.1
def dX10_init_134 := bX10_init_133.2.1
def dX10_init_137 := bX10_init_133.2.2.1
def dX10_init_140 := bX10_init_133.2.2.2.1
def dX10_init_141 := bX10_init_133.2.2.2.2.1
def dX10_init_144 := bX10_init_133.2.2.2.2.2.1
def dX10_init_147 := bX10_init_133.2.2.2.2.2.2
theorem ggX10_feed_X10_putOnTape : GoodIn wsX10_feed wsX10_putOnTape := gW_in gwX10_putOnTape (fun _ h => List.mem_cons_of_mem _ (List.mem_append_right _ (List.mem_append_right _ (h))))
set_option maxRecDepth 20000 in
theorem gX10_feed_X10_putOnTape : GoodIn wsX10_feed (wsV RX10 77 RX10 yX10_putOnTape wsX10_putOnTape) := goodIn_app (goodIn_of _ (by decide +kernel)) ggX10_feed_X10_putOnTape
theorem bX10_feed_0 : decode cX10_feed 0 = .ok (.aload_n 0, 1) ∧ decode cX10_feed 1 = .ok (.getfield 73, 3) ∧ decode cX10_feed 4 = .ok (.bipush 20, 2) ∧ decode cX10_feed 6 = .ok (.iadd, 1) ∧ decode cX10_feed 7 = .ok (.sipush 500, 3) ∧ decode cX10_feed 10 = .ok (.if_icmp .le 5, 3) ∧ decode cX10_feed 13 = .ok (.iconst (-1), 1) ∧ decode cX10_feed 14 = .ok (.ireturn, 1) ∧ decode cX10_feed 15 = .ok (.aload_n 0, 1) ∧ decode cX10_feed 16 = .ok (.iload_n 1, 1) ∧ decode cX10_feed 17 = .ok (.invokevirtual 77, 3) ∧ decode cX10_feed 20 = .ok (.aload_n 0, 1) ∧ decode cX10_feed 21 = .ok (.iload_n 2, 1) ∧ decode cX10_feed 22 = .ok (.invokevirtual 77, 3) ∧ decode cX10_feed 25 = .ok (.aload_n 0, 1) ∧ decode cX10_feed 26 = .ok (.iload_n 3, 1) := by decide +kernel
def dX10_feed_0 := bX10_feed_0.1
def dX10_feed_1 := bX10_feed_0.2.1
def dX10_feed_4 := bX10_feed_0.2.2.1
def dX10_feed_6 := bX10_feed_0.2.2.2.1
def dX10_feed_7 := bX10_feed_0.2.2.2.2.1
def dX10_feed_10 := bX10_feed_0.2.2.2.2.2.1
def dX10_feed_13 := bX10_feed_0.2.2.2.2.2.2.1
def dX10_feed_14 := bX10_feed_0.2.2.2.2.2.2.2.1
def dX10_feed_15 := bX10_feed_0.2.2.2.2.2.2.2.2.1
def dX10_feed_16 := bX10_feed_0.2.2.2.2.2.2.2.2.2.1
def dX10_feed_17 := bX10_feed_0.2.2.2.2.2.2.2.2.2.2.1
def dX10_feed_20 := bX10_feed_0.2.2.2.2.2.2.2.2.2.2.2.1
def dX10_feed_21 := bX10_feed_0.2.2.2.2.2.2.2.2.2.2.2.2.1
def dX10_feed_22 := bX10_feed_0.2.2.2.2.2.2.2.2.2.2.2.2.2.1
def dX10_feed_25 := bX10_feed_0.2.2.2.2.2.2.2.2.2.2.2.2.2.2.1
def dX10_feed_26 := bX10_feed_0.2.2.2.2.2.2.2.2.2.2.2.2.2.2.2
theorem bX10_feed_27 : decode cX10_feed 27 = .ok (.invokevirtual 77, 3) ∧ decode cX10_feed 30 = .ok (.aload_n 0, 1) ∧ decode cX10_feed 31 = .ok (.iload 4, 2) ∧ decode cX10_feed 33 = .ok (.invokevirtual 77, 3) ∧ decode cX10_feed 36 = .ok (.aload_n 0, 1) ∧ decode cX10_feed 37 = .ok (.iload 5, 2) ∧ decode cX10_feed 39 = .ok (.invokevirtual 77, 3) ∧ decode cX10_feed 42 = .ok (.aload_n 0, 1) ∧ decode cX10_feed 43 = .ok (.getfield 73, 3) ∧ decode cX10_feed 46 = .ok (.ireturn, 1) := by decide +kernel
def dX10_feed_27 := bX10_feed_27.1
def dX10_feed_30 := bX10_feed_27.2.1
def dX10_feed_31 := bX10_feed_27.2.2.1
def dX10_feed_33 := bX10_feed_27.2.2.2.1
def dX10_feed_36 := bX10_feed_27.2.2.2.2.1
def dX10_feed_37 := bX10_feed_27.2.2.2.2.2.1
def dX10_feed_39 := bX10_feed_27.2.2.2.2.2.2.1
def dX10_feed_42 := bX10_feed_27.2.2.2.2.2.2.2.1
def dX10_feed_43 := bX10_feed_27.2.2.2.2.2.2.2.2.1
def dX10_feed_46 := bX10_feed_27.2.2.2.2.2.2.2.2.2
theorem bX10_putOnTape_0 : decode cX10_putOnTape 0 = .ok (.bipush 24, 2) ∧ decode cX10_putOnTape 2 = .ok (.istore_n 2, 1) ∧ decode cX10_putOnTape 3 = .ok (.iload_n 2, 1) ∧ decode cX10_putOnTape 4 = .ok (.ifCond .lt 44, 3) ∧ decode cX10_putOnTape 7 = .ok (.aload_n 0, 1) ∧ decode cX10_putOnTape 8 = .ok (.getfield 73, 3) ∧ decode cX10_putOnTape 11 = .ok (.aload_n 0, 1) ∧ decode cX10_putOnTape 12 = .ok (.getfield 9, 3) ∧ decode cX10_putOnTape 15 = .ok (.arraylength, 1) ∧ decode cX10_putOnTape 16 = .ok (.if_icmp .ge 32, 3) ∧ decode cX10_putOnTape 19 = .ok (.aload_n 0, 1) ∧ decode cX10_putOnTape 20 = .ok (.getfield 9, 3) ∧ decode cX10_putOnTape 23 = .ok (.aload_n 0, 1) ∧ decode cX10_putOnTape 24 = .ok (.getfield 73, 3) ∧ decode cX10_putOnTape 27 = .ok (.iload_n 1, 1) ∧ decode cX10_putOnTape 28 = .ok (.iload_n 2, 1) := by decide +kernel
def dX10_putOnTape_0 := bX10_putOnTape_0.1
def dX10_putOnTape_2 := bX10_putOnTape_0.2.1
def dX10_putOnTape_3 := bX10_putOnTape_0.2.2.1
def dX10_putOnTape_4 := bX10_putOnTape_0.2.2.2.1
def dX10_putOnTape_7 := bX10_putOnTape_0.2.2.2.2.1
def dX10_putOnTape_8 := bX10_putOnTape_0.2.2.2.2.2.1
def dX10_putOnTape_11 := bX10_putOnTape_0.2.2.2.2.2.2.1
def dX10_putOnTape_12 := bX10_putOnTape_0.2.2.2.2.2.2.2.1
def dX10_putOnTape_15 := bX10_putOnTape_0.2.2.2.2.2.2.2.2.1
def dX10_putOnTape_16 := bX10_putOnTape_0.2.2.2.2.2.2.2.2.2.1
def dX10_putOnTape_19 := bX10_putOnTape_0.2.2.2.2.2.2.2.2.2.2.1
def dX10_putOnTape_20 := bX10_putOnTape_0.2.2.2.2.2.2.2.2.2.2.2.1
def dX10_putOnTape_23 := bX10_putOnTape_0.2.2.2.2.2.2.2.2.2.2.2.2.1
def dX10_putOnTape_24 := bX10_putOnTape_0.2.2.2.2.2.2.2.2.2.2.2.2.2.1
def dX10_putOnTape_27 := bX10_putOnTape_0.2.2.2.2.2.2.2.2.2.2.2.2.2.2.1
def dX10_putOnTape_28 := bX10_putOnTape_0.2.2.2.2.2.2.2.2.2.2.2.2.2.2.2
theorem bX10_putOnTape_29 : decode cX10_putOnTape 29 = .ok (.iushr, 1) ∧ decode cX10_putOnTape 30 = .ok (.i2b, 1) ∧ decode cX10_putOnTape 31 = .ok (.bastore, 1) ∧ decode cX10_putOnTape 32 = .ok (.aload_n 0, 1) ∧ decode cX10_putOnTape 33 = .ok (.dup, 1) ∧ decode cX10_putOnTape 34 = .ok (.getfield 73, 3) ∧ decode cX10_putOnTape 37 = .ok (.iconst 1, 1) ∧ decode cX10_putOnTape 38 = .ok (.iadd, 1) ∧ decode cX10_putOnTape 39 = .ok (.putfield 73, 3) ∧ decode cX10_putOnTape 42 = .ok (.iinc 2 (-8), 3) ∧ decode cX10_putOnTape 45 = .ok (.goto (-42), 3) ∧ decode cX10_putOnTape 48 = .ok (.return_, 1) := by decide +kernel
def dX10_putOnTape_29 := bX10_putOnTape_29.1
def dX10_putOnTape_30 := bX10_putOnTape_29.2.1
def dX10_putOnTape_31 := bX10_putOnTape_29.2.2.1
def dX10_putOnTape_32 := bX10_putOnTape_29.2.2.2.1
def dX10_putOnTape_33 := bX10_putOnTape_29.2.2.2.2.1
def dX10_putOnTape_34 := bX10_putOnTape_29.2.2.2.2.2.1
def dX10_putOnTape_37 := bX10_putOnTape_29.2.2.2.2.2.2.1
def dX10_putOnTape_38 := bX10_putOnTape_29.2.2.2.2.2.2.2.1
def dX10_putOnTape_39 := bX10_putOnTape_29.2.2.2.2.2.2.2.2.1
def dX10_putOnTape_42 := bX10_putOnTape_29.2.2.2.2.2.2.2.2.2.1
def dX10_putOnTape_45 := bX10_putOnTape_29.2.2.2.2.2.2.2.2.2.2.1
def dX10_putOnTape_48 := bX10_putOnTape_29.2.2.2.2.2.2.2.2.2.2.2
theorem ggX10_siege_X10_demand : GoodIn wsX10_siege wsX10_demand := gW_in gwX10_demand (fun _ h => List.mem_cons_of_mem _ (List.mem_append_right _ (List.mem_append_right _ (List.mem_append_right _ (List.mem_append_right _ (List.mem_append_right _ (List.mem_append_right _ (List.mem_append_right _ (List.mem_append_right _ (List.mem_append_right _ (List.mem_append_left _ h)))))))))))
set_option maxRecDepth 20000 in
theorem gX10_siege_X10_demand : GoodIn wsX10_siege (wsV RX10 81 RX10 yX10_demand wsX10_demand) := goodIn_app (goodIn_of _ (by decide +kernel)) ggX10_siege_X10_demand
theorem ggX10_siege_X6_clear : GoodIn wsX10_siege wsX6_clear := gW_in gwX6_clear (fun _ h => List.mem_cons_of_mem _ (List.mem_append_right _ (List.mem_append_right _ (List.mem_append_right _ (List.mem_append_right _ (List.mem_append_right _ (List.mem_append_right _ (List.mem_append_right _ (List.mem_append_right _ (List.mem_append_right _ (List.mem_append_right _ (List.mem_append_left _ h))))))))))))
set_option maxRecDepth 20000 in
theorem gX10_siege_X6_clear : GoodIn wsX10_siege (wsV RX10 85 RX6 yX6_clear wsX6_clear) := goodIn_app (goodIn_of _ (by decide +kernel)) ggX10_siege_X6_clear
theorem ggX10_siege_X7_read : GoodIn wsX10_siege wsX7_read := gW_in gwX7_read (fun _ h => List.mem_cons_of_mem _ (List.mem_append_right _ (List.mem_append_right _ (List.mem_append_right _ (List.mem_append_right _ (List.mem_append_right _ (List.mem_append_right _ (List.mem_append_right _ (List.mem_append_right _ (List.mem_append_right _ (List.mem_append_right _ (List.mem_append_right _ (List.mem_append_left _ h)))))))))))))
set_option maxRecDepth 20000 in
theorem gX10_siege_X7_read : GoodIn wsX10_siege (wsV RX10 88 RX7 yX7_read wsX7_read) := goodIn_app (goodIn_of _ (by decide +kernel)) ggX10_siege_X7_read
theorem ggX10_siege_X8_begin : GoodIn wsX10_siege wsX8_begin := gW_in gwX8_begin (fun _ h => List.mem_cons_of_mem _ (List.mem_append_right _ (List.mem_append_right _ (List.mem_append_right _ (List.mem_append_right _ (List.mem_append_right _ (List.mem_append_right _ (List.mem_append_right _ (List.mem_append_right _ (List.mem_append_right _ (List.mem_append_right _ (List.mem_append_right _ (List.mem_append_right _ (h))))))))))))))
set_option maxRecDepth 20000 in
theorem gX10_siege_X8_begin : GoodIn wsX10_siege (wsV RX10 98 RX8 yX8_begin wsX8_begin) := goodIn_app (goodIn_of _ (by decide +kernel)) ggX10_siege_X8_begin
theorem bX10_siege_0 : decode cX10_siege 0 = .ok (.aload_n 0, 1) ∧ decode cX10_siege 1 = .ok (.iload_n 1, 1) ∧ decode cX10_siege 2 = .ok (.ifCond .lt 15, 3) ∧ decode cX10_siege 5 = .ok (.iload_n 1, 1) ∧ decode cX10_siege 6 = .ok (.aload_n 0, 1) ∧ decode cX10_siege 7 = .ok (.getfield 73, 3) ∧ decode cX10_siege 10 = .ok (.if_icmp .gt 7, 3) ∧ decode cX10_siege 13 = .ok (.iconst 1, 1) ∧ decode cX10_siege 14 = .ok (.goto 4, 3) ∧ decode cX10_siege 17 = .ok (.iconst 0, 1) ∧ decode cX10_siege 18 = .ok (.invokevirtual 81, 3) ∧ decode cX10_siege 21 = .ok (.aload_n 0, 1) ∧ decode cX10_siege 22 = .ok (.iconst 0, 1) ∧ decode cX10_siege 23 = .ok (.putfield 73, 3) ∧ decode cX10_siege 26 = .ok (.aload_n 0, 1) ∧ decode cX10_siege 27 = .ok (.getfield 27, 3) := by decide +kernel
def dX10_siege_0 := bX10_siege_0.1
def dX10_siege_1 := bX10_siege_0.2.1
def dX10_siege_2 := bX10_siege_0.2.2.1
def dX10_siege_5 := bX10_siege_0.2.2.2.1
def dX10_siege_6 := bX10_siege_0.2.2.2.2.1
def dX10_siege_7 := bX10_siege_0.2.2.2.2.2.1
def dX10_siege_10 := bX10_siege_0.2.2.2.2.2.2.1
def dX10_siege_13 := bX10_siege_0.2.2.2.2.2.2.2.1
def dX10_siege_14 := bX10_siege_0.2.2.2.2.2.2.2.2.1
def dX10_siege_17 := bX10_siege_0.2.2.2.2.2.2.2.2.2.1
def dX10_siege_18 := bX10_siege_0.2.2.2.2.2.2.2.2.2.2.1
def dX10_siege_21 := bX10_siege_0.2.2.2.2.2.2.2.2.2.2.2.1
def dX10_siege_22 := bX10_siege_0.2.2.2.2.2.2.2.2.2.2.2.2.1
def dX10_siege_23 := bX10_siege_0.2.2.2.2.2.2.2.2.2.2.2.2.2.1
def dX10_siege_26 := bX10_siege_0.2.2.2.2.2.2.2.2.2.2.2.2.2.2.1
def dX10_siege_27 := bX10_siege_0.2.2.2.2.2.2.2.2.2.2.2.2.2.2.2
theorem bX10_siege_30 : decode cX10_siege 30 = .ok (.invokevirtual 85, 3) ∧ decode cX10_siege 33 = .ok (.aload_n 0, 1) ∧ decode cX10_siege 34 = .ok (.getfield 16, 3) ∧ decode cX10_siege 37 = .ok (.aload_n 0, 1) ∧ decode cX10_siege 38 = .ok (.getfield 9, 3) ∧ decode cX10_siege 41 = .ok (.iload_n 1, 1) ∧ decode cX10_siege 42 = .ok (.aload_n 0, 1) ∧ decode cX10_siege 43 = .ok (.getfield 27, 3) ∧ decode cX10_siege 46 = .ok (.invokevirtual 88, 3) ∧ decode cX10_siege 49 = .ok (.istore_n 2, 1) ∧ decode cX10_siege 50 = .ok (.iload_n 2, 1) ∧ decode cX10_siege 51 = .ok (.ifCond .eq 8, 3) ∧ decode cX10_siege 54 = .ok (.iload_n 2, 1) ∧ decode cX10_siege 55 = .ok (.bipush 10, 2) ∧ decode cX10_siege 57 = .ok (.isub, 1) ∧ decode cX10_siege 58 = .ok (.ireturn, 1) := by decide +kernel
def dX10_siege_30 := bX10_siege_30.1
def dX10_siege_33 := bX10_siege_30.2.1
def dX10_siege_34 := bX10_siege_30.2.2.1
def dX10_siege_37 := bX10_siege_30.2.2.2.1
def dX10_siege_38 := bX10_siege_30.2.2.2.2.1
def dX10_siege_41 := bX10_siege_30.2.2.2.2.2.1
def dX10_siege_42 := bX10_siege_30.2.2.2.2.2.2.1
def dX10_siege_43 := bX10_siege_30.2.2.2.2.2.2.2.1
def dX10_siege_46 := bX10_siege_30.2.2.2.2.2.2.2.2.1
def dX10_siege_49 := bX10_siege_30.2.2.2.2.2.2.2.2.2.1
def dX10_siege_50 := bX10_siege_30.2.2.2.2.2.2.2.2.2.2.1
def dX10_siege_51 := bX10_siege_30.2.2.2.2.2.2.2.2.2.2.2.1
def dX10_siege_54 := bX10_siege_30.2.2.2.2.2.2.2.2.2.2.2.2.1
def dX10_siege_55 := bX10_siege_30.2.2.2.2.2.2.2.2.2.2.2.2.2.1
def dX10_siege_57 := bX10_siege_30.2.2.2.2.2.2.2.2.2.2.2.2.2.2.1
def dX10_siege_58 := bX10_siege_30.2.2.2.2.2.2.2.2.2.2.2.2.2.2.2
theorem bX10_siege_59 : decode cX10_siege 59 = .ok (.aload_n 0, 1) ∧ decode cX10_siege 60 = .ok (.getfield 23, 3) ∧ decode cX10_siege 63 = .ok (.astore_n 3, 1) ∧ decode cX10_siege 64 = .ok (.aload_n 0, 1) ∧ decode cX10_siege 65 = .ok (.aload_n 0, 1) ∧ decode cX10_siege 66 = .ok (.getfield 27, 3) ∧ decode cX10_siege 69 = .ok (.putfield 23, 3) ∧ decode cX10_siege 72 = .ok (.aload_n 0, 1) ∧ decode cX10_siege 73 = .ok (.aload_n 3, 1) ∧ decode cX10_siege 74 = .ok (.putfield 27, 3) ∧ decode cX10_siege 77 = .ok (.aload_n 0, 1) ∧ decode cX10_siege 78 = .ok (.iconst 0, 1) ∧ decode cX10_siege 79 = .ok (.putfield 92, 3) ∧ decode cX10_siege 82 = .ok (.aload_n 0, 1) ∧ decode cX10_siege 83 = .ok (.iconst 0, 1) ∧ decode cX10_siege 84 = .ok (.putfield 95, 3) := by decide +kernel
def dX10_siege_59 := bX10_siege_59.1
def dX10_siege_60 := bX10_siege_59.2.1
def dX10_siege_63 := bX10_siege_59.2.2.1
def dX10_siege_64 := bX10_siege_59.2.2.2.1
def dX10_siege_65 := bX10_siege_59.2.2.2.2.1
def dX10_siege_66 := bX10_siege_59.2.2.2.2.2.1
def dX10_siege_69 := bX10_siege_59.2.2.2.2.2.2.1
def dX10_siege_72 := bX10_siege_59.2.2.2.2.2.2.2.1
def dX10_siege_73 := bX10_siege_59.2.2.2.2.2.2.2.2.1
def dX10_siege_74 := bX10_siege_59.2.2.2.2.2.2.2.2.2.1
def dX10_siege_77 := bX10_siege_59.2.2.2.2.2.2.2.2.2.2.1
def dX10_siege_78 := bX10_siege_59.2.2.2.2.2.2.2.2.2.2.2.1
def dX10_siege_79 := bX10_siege_59.2.2.2.2.2.2.2.2.2.2.2.2.1
def dX10_siege_82 := bX10_siege_59.2.2.2.2.2.2.2.2.2.2.2.2.2.1
def dX10_siege_83 := bX10_siege_59.2.2.2.2.2.2.2.2.2.2.2.2.2.2.1
def dX10_siege_84 := bX10_siege_59.2.2.2.2.2.2.2.2.2.2.2.2.2.2.2
theorem bX10_siege_87 : decode cX10_siege 87 = .ok (.aload_n 0, 1) ∧ decode cX10_siege 88 = .ok (.getfield 39, 3) ∧ decode cX10_siege 91 = .ok (.aload_n 0, 1) ∧ decode cX10_siege 92 = .ok (.getfield 23, 3) ∧ decode cX10_siege 95 = .ok (.invokevirtual 98, 3) ∧ decode cX10_siege 98 = .ok (.aload_n 0, 1) ∧ decode cX10_siege 99 = .ok (.getfield 23, 3) ∧ decode cX10_siege 102 = .ok (.getfield 99, 3) ∧ decode cX10_siege 105 = .ok (.ireturn, 1) := by decide +kernel
def dX10_siege_87 := bX10_siege_87.1
def dX10_siege_88 := bX10_siege_87.2.1
def dX10_siege_91 := bX10_siege_87.2.2.1
def dX10_siege_92 := bX10_siege_87.2.2.2.1
def dX10_siege_95 := bX10_siege_87.2.2.2.2.1
def dX10_siege_98 := bX10_siege_87.2.2.2.2.2.1
def dX10_siege_99 := bX10_siege_87.2.2.2.2.2.2.1
def dX10_siege_102 := bX10_siege_87.2.2.2.2.2.2.2.1
def dX10_siege_105 := bX10_siege_87.2.2.2.2.2.2.2.2
theorem ggX10_contract_X10_demand : GoodIn wsX10_contract wsX10_demand := gW_in gwX10_demand (fun _ h => List.mem_cons_of_mem _ (List.mem_append_right _ (List.mem_append_right _ (List.mem_append_right _ (List.mem_append_right _ (List.mem_append_right _ (List.mem_append_left _ h)))))))
set_option maxRecDepth 20000 in
theorem gX10_contract_X10_demand : GoodIn wsX10_contract (wsV RX10 81 RX10 yX10_demand wsX10_demand) := goodIn_app (goodIn_of _ (by decide +kernel)) ggX10_contract_X10_demand
theorem ggX10_contract_X5_clear : GoodIn wsX10_contract wsX5_clear := gW_in gwX5_clear (fun _ h => List.mem_cons_of_mem _ (List.mem_append_right _ (List.mem_append_right _ (List.mem_append_right _ (List.mem_append_right _ (List.mem_append_right _ (List.mem_append_right _ (List.mem_append_left _ h))))))))
set_option maxRecDepth 20000 in
theorem gX10_contract_X5_clear : GoodIn wsX10_contract (wsV RX10 105 RX5 yX5_clear wsX5_clear) := goodIn_app (goodIn_of _ (by decide +kernel)) ggX10_contract_X5_clear
theorem ggX10_contract_X7_read : GoodIn wsX10_contract wsX7_read := gW_in gwX7_read (fun _ h => List.mem_cons_of_mem _ (List.mem_append_right _ (List.mem_append_right _ (List.mem_append_right _ (List.mem_append_right _ (List.mem_append_right _ (List.mem_append_right _ (List.mem_append_right _ (h)))))))))
set_option maxRecDepth 20000 in
theorem gX10_contract_X7_read : GoodIn wsX10_contract (wsV RX10 88 RX7 yX7_read wsX7_read) := goodIn_app (goodIn_of _ (by decide +kernel)) ggX10_contract_X7_read
theorem bX10_contract_0 : decode cX10_contract 0 = .ok (.aload_n 0, 1) ∧ decode cX10_contract 1 = .ok (.iload_n 1, 1) ∧ decode cX10_contract 2 = .ok (.ifCond .lt 22, 3) ∧ decode cX10_contract 5 = .ok (.iload_n 1, 1) ∧ decode cX10_contract 6 = .ok (.aload_n 0, 1) ∧ decode cX10_contract 7 = .ok (.getfield 73, 3) ∧ decode cX10_contract 10 = .ok (.if_icmp .gt 14, 3) ∧ decode cX10_contract 13 = .ok (.iload_n 1, 1) ∧ decode cX10_contract 14 = .ok (.sipush 200, 3) ∧ decode cX10_contract 17 = .ok (.if_icmp .gt 7, 3) ∧ decode cX10_contract 20 = .ok (.iconst 1, 1) ∧ decode cX10_contract 21 = .ok (.goto 4, 3) ∧ decode cX10_contract 24 = .ok (.iconst 0, 1) ∧ decode cX10_contract 25 = .ok (.invokevirtual 81, 3) ∧ decode cX10_contract 28 = .ok (.aload_n 0, 1) ∧ decode cX10_contract 29 = .ok (.iconst 0, 1) := by decide +kernel
def dX10_contract_0 := bX10_contract_0.1
def dX10_contract_1 := bX10_contract_0.2.1
def dX10_contract_2 := bX10_contract_0.2.2.1
def dX10_contract_5 := bX10_contract_0.2.2.2.1
def dX10_contract_6 := bX10_contract_0.2.2.2.2.1
def dX10_contract_7 := bX10_contract_0.2.2.2.2.2.1
def dX10_contract_10 := bX10_contract_0.2.2.2.2.2.2.1
def dX10_contract_13 := bX10_contract_0.2.2.2.2.2.2.2.1
def dX10_contract_14 := bX10_contract_0.2.2.2.2.2.2.2.2.1
def dX10_contract_17 := bX10_contract_0.2.2.2.2.2.2.2.2.2.1
def dX10_contract_20 := bX10_contract_0.2.2.2.2.2.2.2.2.2.2.1
def dX10_contract_21 := bX10_contract_0.2.2.2.2.2.2.2.2.2.2.2.1
def dX10_contract_24 := bX10_contract_0.2.2.2.2.2.2.2.2.2.2.2.2.1
def dX10_contract_25 := bX10_contract_0.2.2.2.2.2.2.2.2.2.2.2.2.2.1
def dX10_contract_28 := bX10_contract_0.2.2.2.2.2.2.2.2.2.2.2.2.2.2.1
def dX10_contract_29 := bX10_contract_0.2.2.2.2.2.2.2.2.2.2.2.2.2.2.2
theorem bX10_contract_30 : decode cX10_contract 30 = .ok (.putfield 73, 3) ∧ decode cX10_contract 33 = .ok (.aload_n 0, 1) ∧ decode cX10_contract 34 = .ok (.getfield 92, 3) ∧ decode cX10_contract 37 = .ok (.bipush 6, 2) ∧ decode cX10_contract 39 = .ok (.if_icmp .lt 13, 3) ∧ decode cX10_contract 42 = .ok (.aload_n 0, 1) ∧ decode cX10_contract 43 = .ok (.getfield 16, 3) ∧ decode cX10_contract 46 = .ok (.iconst (-1), 1) ∧ decode cX10_contract 47 = .ok (.putfield 102, 3) ∧ decode cX10_contract 50 = .ok (.iconst (-1), 1) ∧ decode cX10_contract 51 = .ok (.ireturn, 1) ∧ decode cX10_contract 52 = .ok (.aload_n 0, 1) ∧ decode cX10_contract 53 = .ok (.getfield 32, 3) ∧ decode cX10_contract 56 = .ok (.aload_n 0, 1) ∧ decode cX10_contract 57 = .ok (.getfield 92, 3) ∧ decode cX10_contract 60 = .ok (.aaload, 1) := by decide +kernel
def dX10_contract_30 := bX10_contract_30.1
def dX10_contract_33 := bX10_contract_30.2.1
def dX10_contract_34 := bX10_contract_30.2.2.1
def dX10_contract_37 := bX10_contract_30.2.2.2.1
def dX10_contract_39 := bX10_contract_30.2.2.2.2.1
def dX10_contract_42 := bX10_contract_30.2.2.2.2.2.1
def dX10_contract_43 := bX10_contract_30.2.2.2.2.2.2.1
def dX10_contract_46 := bX10_contract_30.2.2.2.2.2.2.2.1
def dX10_contract_47 := bX10_contract_30.2.2.2.2.2.2.2.2.1
def dX10_contract_50 := bX10_contract_30.2.2.2.2.2.2.2.2.2.1
def dX10_contract_51 := bX10_contract_30.2.2.2.2.2.2.2.2.2.2.1
def dX10_contract_52 := bX10_contract_30.2.2.2.2.2.2.2.2.2.2.2.1
def dX10_contract_53 := bX10_contract_30.2.2.2.2.2.2.2.2.2.2.2.2.1
def dX10_contract_56 := bX10_contract_30.2.2.2.2.2.2.2.2.2.2.2.2.2.1
def dX10_contract_57 := bX10_contract_30.2.2.2.2.2.2.2.2.2.2.2.2.2.2.1
def dX10_contract_60 := bX10_contract_30.2.2.2.2.2.2.2.2.2.2.2.2.2.2.2
theorem bX10_contract_61 : decode cX10_contract 61 = .ok (.astore_n 2, 1) ∧ decode cX10_contract 62 = .ok (.aload_n 2, 1) ∧ decode cX10_contract 63 = .ok (.aload_n 0, 1) ∧ decode cX10_contract 64 = .ok (.getfield 23, 3) ∧ decode cX10_contract 67 = .ok (.getfield 99, 3) ∧ decode cX10_contract 70 = .ok (.invokevirtual 105, 3) ∧ decode cX10_contract 73 = .ok (.aload_n 0, 1) ∧ decode cX10_contract 74 = .ok (.getfield 16, 3) ∧ decode cX10_contract 77 = .ok (.aload_n 0, 1) ∧ decode cX10_contract 78 = .ok (.getfield 9, 3) ∧ decode cX10_contract 81 = .ok (.iload_n 1, 1) ∧ decode cX10_contract 82 = .ok (.aload_n 2, 1) ∧ decode cX10_contract 83 = .ok (.invokevirtual 88, 3) ∧ decode cX10_contract 86 = .ok (.istore_n 3, 1) ∧ decode cX10_contract 87 = .ok (.iload_n 3, 1) ∧ decode cX10_contract 88 = .ok (.ifCond .eq 8, 3) := by decide +kernel
def dX10_contract_61 := bX10_contract_61.1
def dX10_contract_62 := bX10_contract_61.2.1
def dX10_contract_63 := bX10_contract_61.2.2.1
def dX10_contract_64 := bX10_contract_61.2.2.2.1
def dX10_contract_67 := bX10_contract_61.2.2.2.2.1
def dX10_contract_70 := bX10_contract_61.2.2.2.2.2.1
def dX10_contract_73 := bX10_contract_61.2.2.2.2.2.2.1
def dX10_contract_74 := bX10_contract_61.2.2.2.2.2.2.2.1
def dX10_contract_77 := bX10_contract_61.2.2.2.2.2.2.2.2.1
def dX10_contract_78 := bX10_contract_61.2.2.2.2.2.2.2.2.2.1
def dX10_contract_81 := bX10_contract_61.2.2.2.2.2.2.2.2.2.2.1
def dX10_contract_82 := bX10_contract_61.2.2.2.2.2.2.2.2.2.2.2.1
def dX10_contract_83 := bX10_contract_61.2.2.2.2.2.2.2.2.2.2.2.2.1
def dX10_contract_86 := bX10_contract_61.2.2.2.2.2.2.2.2.2.2.2.2.2.1
def dX10_contract_87 := bX10_contract_61.2.2.2.2.2.2.2.2.2.2.2.2.2.2.1
def dX10_contract_88 := bX10_contract_61.2.2.2.2.2.2.2.2.2.2.2.2.2.2.2
theorem bX10_contract_91 : decode cX10_contract 91 = .ok (.iload_n 3, 1) ∧ decode cX10_contract 92 = .ok (.bipush 10, 2) ∧ decode cX10_contract 94 = .ok (.isub, 1) ∧ decode cX10_contract 95 = .ok (.ireturn, 1) ∧ decode cX10_contract 96 = .ok (.aload_n 0, 1) ∧ decode cX10_contract 97 = .ok (.dup, 1) ∧ decode cX10_contract 98 = .ok (.getfield 92, 3) ∧ decode cX10_contract 101 = .ok (.iconst 1, 1) ∧ decode cX10_contract 102 = .ok (.iadd, 1) ∧ decode cX10_contract 103 = .ok (.putfield 92, 3) ∧ decode cX10_contract 106 = .ok (.aload_n 0, 1) ∧ decode cX10_contract 107 = .ok (.getfield 92, 3) ∧ decode cX10_contract 110 = .ok (.iconst 1, 1) ∧ decode cX10_contract 111 = .ok (.isub, 1) ∧ decode cX10_contract 112 = .ok (.ireturn, 1) := by decide +kernel
def dX10_contract_91 := bX10_contract_91.1
def dX10_contract_92 := bX10_contract_91.2.1
def dX10_contract_94 := bX10_contract_91.2.2.1
def dX10_contract_95 := bX10_contract_91.2.2.2.1
def dX10_contract_96 := bX10_contract_91.2.2.2.2.1
def dX10_contract_97 := bX10_contract_91.2.2.2.2.2.1
def dX10_contract_98 := bX10_contract_91.2.2.2.2.2.2.1
def dX10_contract_101 := bX10_contract_91.2.2.2.2.2.2.2.1
def dX10_contract_102 := bX10_contract_91.2.2.2.2.2.2.2.2.1
def dX10_contract_103 := bX10_contract_91.2.2.2.2.2.2.2.2.2.1
def dX10_contract_106 := bX10_contract_91.2.2.2.2.2.2.2.2.2.2.1
def dX10_contract_107 := bX10_contract_91.2.2.2.2.2.2.2.2.2.2.2.1
def dX10_contract_110 := bX10_contract_91.2.2.2.2.2.2.2.2.2.2.2.2.1
def dX10_contract_111 := bX10_contract_91.2.2.2.2.2.2.2.2.2.2.2.2.2.1
def dX10_contract_112 := bX10_contract_91.2.2.2.2.2.2.2.2.2.2.2.2.2.2
theorem bX10_fault_0 : decode cX10_fault 0 = .ok (.aload_n 0, 1) ∧ decode cX10_fault 1 = .ok (.getfield 16, 3) ∧ decode cX10_fault 4 = .ok (.getfield 102, 3) ∧ decode cX10_fault 7 = .ok (.ireturn, 1) := by decide +kernel
def dX10_fault_0 := bX10_fault_0.1
def dX10_fault_1 := bX10_fault_0.2.1
def dX10_fault_4 := bX10_fault_0.2.2.1
def dX10_fault_7 := bX10_fault_0.2.2.2
theorem ggX10_told_X10_within : GoodIn wsX10_told wsX10_within := gW_in gwX10_within (fun _ h => List.mem_cons_of_mem _ (List.mem_append_right _ (List.mem_append_right _ (List.mem_append_right _ (List.mem_append_right _ (List.mem_append_right _ (List.mem_append_left _ h)))))))
set_option maxRecDepth 20000 in
theorem gX10_told_X10_within : GoodIn wsX10_told (va_wsS RX10 107 yX10_within wsX10_within) := goodIn_app (goodIn_of _ (by decide +kernel)) ggX10_told_X10_within
end
section
theorem ggX10_told_X10_demand : GoodIn wsX10_told wsX10_demand := gW_in gwX10_demand (fun _ h => List.mem_cons_of_mem _ (List.mem_append_right _ (List.mem_append_right _ (List.mem_append_right _ (List.mem_append_right _ (List.mem_append_right _ (List.mem_append_right _ (h))))))))
set_option maxRecDepth 20000 in
theorem gX10_told_X10_demand : GoodIn wsX10_told (wsV RX10 81 RX10 yX10_demand wsX10_demand) := goodIn_app (goodIn_of _ (by decide +kernel)) ggX10_told_X10_demand
theorem bX10_told_0 : decode cX10_told 0 = .ok (.aload_n 0, 1) ∧ decode cX10_told 1 = .ok (.iload_n 1, 1) ∧ decode cX10_told 2 = .ok (.iconst 0, 1) ∧ decode cX10_told 3 = .ok (.iconst 4, 1) ∧ decode cX10_told 4 = .ok (.invokestatic 107, 3) ∧ decode cX10_told 7 = .ok (.invokevirtual 81, 3) ∧ decode cX10_told 10 = .ok (.aload_n 0, 1) ∧ decode cX10_told 11 = .ok (.getfield 39, 3) ∧ decode cX10_told 14 = .ok (.getfield 66, 3) ∧ decode cX10_told 17 = .ok (.astore_n 2, 1) ∧ decode cX10_told 18 = .ok (.aload_n 2, 1) ∧ decode cX10_told 19 = .ok (.getfield 111, 3) ∧ decode cX10_told 22 = .ok (.bipush 10, 2) ∧ decode cX10_told 24 = .ok (.iaload, 1) ∧ decode cX10_told 25 = .ok (.istore_n 3, 1) ∧ decode cX10_told 26 = .ok (.iload_n 1, 1) := by decide +kernel
def dX10_told_0 := bX10_told_0.1
def dX10_told_1 := bX10_told_0.2.1
def dX10_told_2 := bX10_told_0.2.2.1
def dX10_told_3 := bX10_told_0.2.2.2.1
def dX10_told_4 := bX10_told_0.2.2.2.2.1
def dX10_told_7 := bX10_told_0.2.2.2.2.2.1
def dX10_told_10 := bX10_told_0.2.2.2.2.2.2.1
def dX10_told_11 := bX10_told_0.2.2.2.2.2.2.2.1
def dX10_told_14 := bX10_told_0.2.2.2.2.2.2.2.2.1
def dX10_told_17 := bX10_told_0.2.2.2.2.2.2.2.2.2.1
def dX10_told_18 := bX10_told_0.2.2.2.2.2.2.2.2.2.2.1
def dX10_told_19 := bX10_told_0.2.2.2.2.2.2.2.2.2.2.2.1
def dX10_told_22 := bX10_told_0.2.2.2.2.2.2.2.2.2.2.2.2.1
def dX10_told_24 := bX10_told_0.2.2.2.2.2.2.2.2.2.2.2.2.2.1
def dX10_told_25 := bX10_told_0.2.2.2.2.2.2.2.2.2.2.2.2.2.2.1
def dX10_told_26 := bX10_told_0.2.2.2.2.2.2.2.2.2.2.2.2.2.2.2
theorem bX10_told_27 : decode cX10_told 27 = .ok (.tableswitch 49 0 3 #[29, 37, 42, 47], 29) ∧ decode cX10_told 56 = .ok (.aload_n 0, 1) ∧ decode cX10_told 57 = .ok (.getfield 23, 3) ∧ decode cX10_told 60 = .ok (.getfield 99, 3) ∧ decode cX10_told 63 = .ok (.ireturn, 1) ∧ decode cX10_told 64 = .ok (.aload_n 0, 1) ∧ decode cX10_told 65 = .ok (.getfield 92, 3) ∧ decode cX10_told 68 = .ok (.ireturn, 1) ∧ decode cX10_told 69 = .ok (.aload_n 2, 1) ∧ decode cX10_told 70 = .ok (.getfield 114, 3) ∧ decode cX10_told 73 = .ok (.ireturn, 1) ∧ decode cX10_told 74 = .ok (.iload_n 3, 1) ∧ decode cX10_told 75 = .ok (.ireturn, 1) ∧ decode cX10_told 76 = .ok (.iload_n 3, 1) ∧ decode cX10_told 77 = .ok (.iconst (-1), 1) ∧ decode cX10_told 78 = .ok (.if_icmp .ne 7, 3) := by decide +kernel
def dX10_told_27 := bX10_told_27.1
def dX10_told_56 := bX10_told_27.2.1
def dX10_told_57 := bX10_told_27.2.2.1
def dX10_told_60 := bX10_told_27.2.2.2.1
def dX10_told_63 := bX10_told_27.2.2.2.2.1
def dX10_told_64 := bX10_told_27.2.2.2.2.2.1
def dX10_told_65 := bX10_told_27.2.2.2.2.2.2.1
def dX10_told_68 := bX10_told_27.2.2.2.2.2.2.2.1
def dX10_told_69 := bX10_told_27.2.2.2.2.2.2.2.2.1
def dX10_told_70 := bX10_told_27.2.2.2.2.2.2.2.2.2.1
def dX10_told_73 := bX10_told_27.2.2.2.2.2.2.2.2.2.2.1
def dX10_told_74 := bX10_told_27.2.2.2.2.2.2.2.2.2.2.2.1
def dX10_told_75 := bX10_told_27.2.2.2.2.2.2.2.2.2.2.2.2.1
def dX10_told_76 := bX10_told_27.2.2.2.2.2.2.2.2.2.2.2.2.2.1
def dX10_told_77 := bX10_told_27.2.2.2.2.2.2.2.2.2.2.2.2.2.2.1
def dX10_told_78 := bX10_told_27.2.2.2.2.2.2.2.2.2.2.2.2.2.2.2
theorem bX10_told_81 : decode cX10_told 81 = .ok (.iconst (-1), 1) ∧ decode cX10_told 82 = .ok (.goto 15, 3) ∧ decode cX10_told 85 = .ok (.aload_n 2, 1) ∧ decode cX10_told 86 = .ok (.getfield 114, 3) ∧ decode cX10_told 89 = .ok (.aload_n 2, 1) ∧ decode cX10_told 90 = .ok (.getfield 111, 3) ∧ decode cX10_told 93 = .ok (.bipush 11, 2) ∧ decode cX10_told 95 = .ok (.iaload, 1) ∧ decode cX10_told 96 = .ok (.isub, 1) ∧ decode cX10_told 97 = .ok (.ireturn, 1) := by decide +kernel
def dX10_told_81 := bX10_told_81.1
def dX10_told_82 := bX10_told_81.2.1
def dX10_told_85 := bX10_told_81.2.2.1
def dX10_told_86 := bX10_told_81.2.2.2.1
def dX10_told_89 := bX10_told_81.2.2.2.2.1
def dX10_told_90 := bX10_told_81.2.2.2.2.2.1
def dX10_told_93 := bX10_told_81.2.2.2.2.2.2.1
def dX10_told_95 := bX10_told_81.2.2.2.2.2.2.2.1
def dX10_told_96 := bX10_told_81.2.2.2.2.2.2.2.2.1
def dX10_told_97 := bX10_told_81.2.2.2.2.2.2.2.2.2
theorem ggX10_wall_X10_demandWall : GoodIn wsX10_wall wsX10_demandWall := gW_in gwX10_demandWall (fun _ h => List.mem_cons_of_mem _ (List.mem_append_right _ (List.mem_append_right _ (List.mem_append_right _ (List.mem_append_right _ (List.mem_append_right _ (List.mem_append_left _ h)))))))
set_option maxRecDepth 20000 in
theorem gX10_wall_X10_demandWall : GoodIn wsX10_wall (wsV RX10 117 RX10 yX10_demandWall wsX10_demandWall) := goodIn_app (goodIn_of _ (by decide +kernel)) ggX10_wall_X10_demandWall
theorem ggX10_wall_X10_within : GoodIn wsX10_wall wsX10_within := gW_in gwX10_within (fun _ h => List.mem_cons_of_mem _ (List.mem_append_right _ (List.mem_append_right _ (List.mem_append_right _ (List.mem_append_right _ (List.mem_append_right _ (List.mem_append_right _ (List.mem_append_left _ h))))))))
set_option maxRecDepth 20000 in
theorem gX10_wall_X10_within : GoodIn wsX10_wall (va_wsS RX10 107 yX10_within wsX10_within) := goodIn_app (goodIn_of _ (by decide +kernel)) ggX10_wall_X10_within
theorem ggX10_wall_X10_demand : GoodIn wsX10_wall wsX10_demand := gW_in gwX10_demand (fun _ h => List.mem_cons_of_mem _ (List.mem_append_right _ (List.mem_append_right _ (List.mem_append_right _ (List.mem_append_right _ (List.mem_append_right _ (List.mem_append_right _ (List.mem_append_right _ (h)))))))))
set_option maxRecDepth 20000 in
theorem gX10_wall_X10_demand : GoodIn wsX10_wall (wsV RX10 81 RX10 yX10_demand wsX10_demand) := goodIn_app (goodIn_of _ (by decide +kernel)) ggX10_wall_X10_demand
theorem bX10_wall_0 : decode cX10_wall 0 = .ok (.aload_n 0, 1) ∧ decode cX10_wall 1 = .ok (.iload_n 1, 1) ∧ decode cX10_wall 2 = .ok (.invokevirtual 117, 3) ∧ decode cX10_wall 5 = .ok (.aload_n 0, 1) ∧ decode cX10_wall 6 = .ok (.iload_n 2, 1) ∧ decode cX10_wall 7 = .ok (.iconst 0, 1) ∧ decode cX10_wall 8 = .ok (.iconst 3, 1) ∧ decode cX10_wall 9 = .ok (.invokestatic 107, 3) ∧ decode cX10_wall 12 = .ok (.invokevirtual 81, 3) ∧ decode cX10_wall 15 = .ok (.iload_n 2, 1) ∧ decode cX10_wall 16 = .ok (.tableswitch 64 0 2 #[28, 38, 54], 28) ∧ decode cX10_wall 44 = .ok (.aload_n 0, 1) ∧ decode cX10_wall 45 = .ok (.getfield 23, 3) ∧ decode cX10_wall 48 = .ok (.getfield 120, 3) ∧ decode cX10_wall 51 = .ok (.iload_n 1, 1) ∧ decode cX10_wall 52 = .ok (.iaload, 1) := by decide +kernel
def dX10_wall_0 := bX10_wall_0.1
def dX10_wall_1 := bX10_wall_0.2.1
def dX10_wall_2 := bX10_wall_0.2.2.1
def dX10_wall_5 := bX10_wall_0.2.2.2.1
def dX10_wall_6 := bX10_wall_0.2.2.2.2.1
def dX10_wall_7 := bX10_wall_0.2.2.2.2.2.1
def dX10_wall_8 := bX10_wall_0.2.2.2.2.2.2.1
def dX10_wall_9 := bX10_wall_0.2.2.2.2.2.2.2.1
def dX10_wall_12 := bX10_wall_0.2.2.2.2.2.2.2.2.1
def dX10_wall_15 := bX10_wall_0.2.2.2.2.2.2.2.2.2.1
def dX10_wall_16 := bX10_wall_0.2.2.2.2.2.2.2.2.2.2.1
def dX10_wall_44 := bX10_wall_0.2.2.2.2.2.2.2.2.2.2.2.1
def dX10_wall_45 := bX10_wall_0.2.2.2.2.2.2.2.2.2.2.2.2.1
def dX10_wall_48 := bX10_wall_0.2.2.2.2.2.2.2.2.2.2.2.2.2.1
def dX10_wall_51 := bX10_wall_0.2.2.2.2.2.2.2.2.2.2.2.2.2.2.1
def dX10_wall_52 := bX10_wall_0.2.2.2.2.2.2.2.2.2.2.2.2.2.2.2
theorem bX10_wall_53 : decode cX10_wall 53 = .ok (.ireturn, 1) ∧ decode cX10_wall 54 = .ok (.aload_n 0, 1) ∧ decode cX10_wall 55 = .ok (.getfield 39, 3) ∧ decode cX10_wall 58 = .ok (.getfield 66, 3) ∧ decode cX10_wall 61 = .ok (.getfield 111, 3) ∧ decode cX10_wall 64 = .ok (.bipush 12, 2) ∧ decode cX10_wall 66 = .ok (.iload_n 1, 1) ∧ decode cX10_wall 67 = .ok (.iadd, 1) ∧ decode cX10_wall 68 = .ok (.iaload, 1) ∧ decode cX10_wall 69 = .ok (.ireturn, 1) ∧ decode cX10_wall 70 = .ok (.aload_n 0, 1) ∧ decode cX10_wall 71 = .ok (.getfield 23, 3) ∧ decode cX10_wall 74 = .ok (.getfield 123, 3) ∧ decode cX10_wall 77 = .ok (.iload_n 1, 1) ∧ decode cX10_wall 78 = .ok (.iaload, 1) ∧ decode cX10_wall 79 = .ok (.ireturn, 1) := by decide +kernel
def dX10_wall_53 := bX10_wall_53.1
def dX10_wall_54 := bX10_wall_53.2.1
def dX10_wall_55 := bX10_wall_53.2.2.1
def dX10_wall_58 := bX10_wall_53.2.2.2.1
def dX10_wall_61 := bX10_wall_53.2.2.2.2.1
def dX10_wall_64 := bX10_wall_53.2.2.2.2.2.1
def dX10_wall_66 := bX10_wall_53.2.2.2.2.2.2.1
def dX10_wall_67 := bX10_wall_53.2.2.2.2.2.2.2.1
def dX10_wall_68 := bX10_wall_53.2.2.2.2.2.2.2.2.1
def dX10_wall_69 := bX10_wall_53.2.2.2.2.2.2.2.2.2.1
def dX10_wall_70 := bX10_wall_53.2.2.2.2.2.2.2.2.2.2.1
def dX10_wall_71 := bX10_wall_53.2.2.2.2.2.2.2.2.2.2.2.1
def dX10_wall_74 := bX10_wall_53.2.2.2.2.2.2.2.2.2.2.2.2.1
def dX10_wall_77 := bX10_wall_53.2.2.2.2.2.2.2.2.2.2.2.2.2.1
def dX10_wall_78 := bX10_wall_53.2.2.2.2.2.2.2.2.2.2.2.2.2.2.1
def dX10_wall_79 := bX10_wall_53.2.2.2.2.2.2.2.2.2.2.2.2.2.2.2
theorem bX10_wall_80 : decode cX10_wall 80 = .ok (.aload_n 0, 1) ∧ decode cX10_wall 81 = .ok (.getfield 39, 3) ∧ decode cX10_wall 84 = .ok (.getfield 66, 3) ∧ decode cX10_wall 87 = .ok (.getfield 111, 3) ∧ decode cX10_wall 90 = .ok (.bipush 18, 2) ∧ decode cX10_wall 92 = .ok (.iload_n 1, 1) ∧ decode cX10_wall 93 = .ok (.iadd, 1) ∧ decode cX10_wall 94 = .ok (.iaload, 1) ∧ decode cX10_wall 95 = .ok (.ireturn, 1) := by decide +kernel
def dX10_wall_80 := bX10_wall_80.1
def dX10_wall_81 := bX10_wall_80.2.1
def dX10_wall_84 := bX10_wall_80.2.2.1
def dX10_wall_87 := bX10_wall_80.2.2.2.1
def dX10_wall_90 := bX10_wall_80.2.2.2.2.1
def dX10_wall_92 := bX10_wall_80.2.2.2.2.2.1
def dX10_wall_93 := bX10_wall_80.2.2.2.2.2.2.1
def dX10_wall_94 := bX10_wall_80.2.2.2.2.2.2.2.1
def dX10_wall_95 := bX10_wall_80.2.2.2.2.2.2.2.2
theorem ggX10_rule_X10_demandContract : GoodIn wsX10_rule wsX10_demandContract := gW_in gwX10_demandContract (fun _ h => List.mem_cons_of_mem _ (List.mem_append_right _ (List.mem_append_right _ (List.mem_append_right _ (List.mem_append_left _ h)))))
set_option maxRecDepth 20000 in
theorem gX10_rule_X10_demandContract : GoodIn wsX10_rule (wsV RX10 126 RX10 yX10_demandContract wsX10_demandContract) := goodIn_app (goodIn_of _ (by decide +kernel)) ggX10_rule_X10_demandContract
theorem ggX10_rule_X10_within : GoodIn wsX10_rule wsX10_within := gW_in gwX10_within (fun _ h => List.mem_cons_of_mem _ (List.mem_append_right _ (List.mem_append_right _ (List.mem_append_right _ (List.mem_append_right _ (List.mem_append_left _ h))))))
set_option maxRecDepth 20000 in
theorem gX10_rule_X10_within : GoodIn wsX10_rule (va_wsS RX10 107 yX10_within wsX10_within) := goodIn_app (goodIn_of _ (by decide +kernel)) ggX10_rule_X10_within
theorem ggX10_rule_X10_demand : GoodIn wsX10_rule wsX10_demand := gW_in gwX10_demand (fun _ h => List.mem_cons_of_mem _ (List.mem_append_right _ (List.mem_append_right _ (List.mem_append_right _ (List.mem_append_right _ (List.mem_append_right _ (List.mem_append_left _ h)))))))
set_option maxRecDepth 20000 in
theorem gX10_rule_X10_demand : GoodIn wsX10_rule (wsV RX10 81 RX10 yX10_demand wsX10_demand) := goodIn_app (goodIn_of _ (by decide +kernel)) ggX10_rule_X10_demand
theorem ggX10_rule_X5_answer : GoodIn wsX10_rule wsX5_answer := gW_in gwX5_answer (fun _ h => List.mem_cons_of_mem _ (List.mem_append_right _ (List.mem_append_right _ (List.mem_append_right _ (List.mem_append_right _ (List.mem_append_right _ (List.mem_append_right _ (h))))))))
set_option maxRecDepth 20000 in
theorem gX10_rule_X5_answer : GoodIn wsX10_rule (wsV RX10 129 RX5 yX5_answer wsX5_answer) := goodIn_app (goodIn_of _ (by decide +kernel)) ggX10_rule_X5_answer
theorem bX10_rule_0 : decode cX10_rule 0 = .ok (.aload_n 0, 1) ∧ decode cX10_rule 1 = .ok (.iload_n 1, 1) ∧ decode cX10_rule 2 = .ok (.invokevirtual 126, 3) ∧ decode cX10_rule 5 = .ok (.aload_n 0, 1) ∧ decode cX10_rule 6 = .ok (.iload_n 2, 1) ∧ decode cX10_rule 7 = .ok (.iconst 0, 1) ∧ decode cX10_rule 8 = .ok (.bipush 6, 2) ∧ decode cX10_rule 10 = .ok (.invokestatic 107, 3) ∧ decode cX10_rule 13 = .ok (.invokevirtual 81, 3) ∧ decode cX10_rule 16 = .ok (.aload_n 0, 1) ∧ decode cX10_rule 17 = .ok (.getfield 32, 3) ∧ decode cX10_rule 20 = .ok (.iload_n 1, 1) ∧ decode cX10_rule 21 = .ok (.aaload, 1) ∧ decode cX10_rule 22 = .ok (.iload_n 2, 1) ∧ decode cX10_rule 23 = .ok (.invokevirtual 129, 3) ∧ decode cX10_rule 26 = .ok (.ireturn, 1) := by decide +kernel
def dX10_rule_0 := bX10_rule_0.1
def dX10_rule_1 := bX10_rule_0.2.1
def dX10_rule_2 := bX10_rule_0.2.2.1
def dX10_rule_5 := bX10_rule_0.2.2.2.1
def dX10_rule_6 := bX10_rule_0.2.2.2.2.1
def dX10_rule_7 := bX10_rule_0.2.2.2.2.2.1
def dX10_rule_8 := bX10_rule_0.2.2.2.2.2.2.1
def dX10_rule_10 := bX10_rule_0.2.2.2.2.2.2.2.1
def dX10_rule_13 := bX10_rule_0.2.2.2.2.2.2.2.2.1
def dX10_rule_16 := bX10_rule_0.2.2.2.2.2.2.2.2.2.1
def dX10_rule_17 := bX10_rule_0.2.2.2.2.2.2.2.2.2.2.1
def dX10_rule_20 := bX10_rule_0.2.2.2.2.2.2.2.2.2.2.2.1
def dX10_rule_21 := bX10_rule_0.2.2.2.2.2.2.2.2.2.2.2.2.1
def dX10_rule_22 := bX10_rule_0.2.2.2.2.2.2.2.2.2.2.2.2.2.1
def dX10_rule_23 := bX10_rule_0.2.2.2.2.2.2.2.2.2.2.2.2.2.2.1
def dX10_rule_26 := bX10_rule_0.2.2.2.2.2.2.2.2.2.2.2.2.2.2.2
theorem ggX10_wants_X10_within : GoodIn wsX10_wants wsX10_within := gW_in gwX10_within (fun _ h => List.mem_cons_of_mem _ (List.mem_append_right _ (List.mem_append_right _ (List.mem_append_right _ (List.mem_append_left _ h)))))
set_option maxRecDepth 20000 in
theorem gX10_wants_X10_within : GoodIn wsX10_wants (va_wsS RX10 107 yX10_within wsX10_within) := goodIn_app (goodIn_of _ (by decide +kernel)) ggX10_wants_X10_within
theorem ggX10_wants_X10_demand : GoodIn wsX10_wants wsX10_demand := gW_in gwX10_demand (fun _ h => List.mem_cons_of_mem _ (List.mem_append_right _ (List.mem_append_right _ (List.mem_append_right _ (List.mem_append_right _ (List.mem_append_left _ h))))))
set_option maxRecDepth 20000 in
theorem gX10_wants_X10_demand : GoodIn wsX10_wants (wsV RX10 81 RX10 yX10_demand wsX10_demand) := goodIn_app (goodIn_of _ (by decide +kernel)) ggX10_wants_X10_demand
theorem ggX10_wants_X6_wanted : GoodIn wsX10_wants wsX6_wanted := gW_in gwX6_wanted (fun _ h => List.mem_cons_of_mem _ (List.mem_append_right _ (List.mem_append_right _ (List.mem_append_right _ (List.mem_append_right _ (List.mem_append_right _ (h)))))))
set_option maxRecDepth 20000 in
theorem gX10_wants_X6_wanted : GoodIn wsX10_wants (wsV RX10 133 RX6 yX6_wanted wsX6_wanted) := goodIn_app (goodIn_of _ (by decide +kernel)) ggX10_wants_X6_wanted
theorem bX10_wants_0 : decode cX10_wants 0 = .ok (.aload_n 0, 1) ∧ decode cX10_wants 1 = .ok (.iload_n 1, 1) ∧ decode cX10_wants 2 = .ok (.iconst 0, 1) ∧ decode cX10_wants 3 = .ok (.bipush 9, 2) ∧ decode cX10_wants 5 = .ok (.invokestatic 107, 3) ∧ decode cX10_wants 8 = .ok (.ifCond .eq 17, 3) ∧ decode cX10_wants 11 = .ok (.iload_n 2, 1) ∧ decode cX10_wants 12 = .ok (.iconst 0, 1) ∧ decode cX10_wants 13 = .ok (.bipush 99, 2) ∧ decode cX10_wants 15 = .ok (.invokestatic 107, 3) ∧ decode cX10_wants 18 = .ok (.ifCond .eq 7, 3) ∧ decode cX10_wants 21 = .ok (.iconst 1, 1) ∧ decode cX10_wants 22 = .ok (.goto 4, 3) ∧ decode cX10_wants 25 = .ok (.iconst 0, 1) ∧ decode cX10_wants 26 = .ok (.invokevirtual 81, 3) ∧ decode cX10_wants 29 = .ok (.aload_n 0, 1) := by decide +kernel
def dX10_wants_0 := bX10_wants_0.1
def dX10_wants_1 := bX10_wants_0.2.1
def dX10_wants_2 := bX10_wants_0.2.2.1
def dX10_wants_3 := bX10_wants_0.2.2.2.1
def dX10_wants_5 := bX10_wants_0.2.2.2.2.1
def dX10_wants_8 := bX10_wants_0.2.2.2.2.2.1
def dX10_wants_11 := bX10_wants_0.2.2.2.2.2.2.1
def dX10_wants_12 := bX10_wants_0.2.2.2.2.2.2.2.1
def dX10_wants_13 := bX10_wants_0.2.2.2.2.2.2.2.2.1
def dX10_wants_15 := bX10_wants_0.2.2.2.2.2.2.2.2.2.1
def dX10_wants_18 := bX10_wants_0.2.2.2.2.2.2.2.2.2.2.1
def dX10_wants_21 := bX10_wants_0.2.2.2.2.2.2.2.2.2.2.2.1
def dX10_wants_22 := bX10_wants_0.2.2.2.2.2.2.2.2.2.2.2.2.1
def dX10_wants_25 := bX10_wants_0.2.2.2.2.2.2.2.2.2.2.2.2.2.1
def dX10_wants_26 := bX10_wants_0.2.2.2.2.2.2.2.2.2.2.2.2.2.2.1
def dX10_wants_29 := bX10_wants_0.2.2.2.2.2.2.2.2.2.2.2.2.2.2.2
theorem bX10_wants_30 : decode cX10_wants 30 = .ok (.getfield 23, 3) ∧ decode cX10_wants 33 = .ok (.iload_n 1, 1) ∧ decode cX10_wants 34 = .ok (.iload_n 2, 1) ∧ decode cX10_wants 35 = .ok (.invokevirtual 133, 3) ∧ decode cX10_wants 38 = .ok (.ireturn, 1) := by decide +kernel
def dX10_wants_30 := bX10_wants_30.1
def dX10_wants_33 := bX10_wants_30.2.1
def dX10_wants_34 := bX10_wants_30.2.2.1
def dX10_wants_35 := bX10_wants_30.2.2.2.1
def dX10_wants_38 := bX10_wants_30.2.2.2.2
theorem ggX10_sign_X10_demandContractOrNone : GoodIn wsX10_sign wsX10_demandContractOrNone := gW_in gwX10_demandContractOrNone (fun _ h => List.mem_cons_of_mem _ (List.mem_append_right _ (List.mem_append_right _ (List.mem_append_right _ (List.mem_append_right _ (List.mem_append_left _ h))))))
set_option maxRecDepth 20000 in
theorem gX10_sign_X10_demandContractOrNone : GoodIn wsX10_sign (wsV RX10 137 RX10 yX10_demandContractOrNone wsX10_demandContractOrNone) := goodIn_app (goodIn_of _ (by decide +kernel)) ggX10_sign_X10_demandContractOrNone
theorem ggX10_sign_X4_pledge : GoodIn wsX10_sign wsX4_pledge := gW_in gwX4_pledge (fun _ h => List.mem_cons_of_mem _ (List.mem_append_right _ (List.mem_append_right _ (List.mem_append_right _ (List.mem_append_right _ (List.mem_append_right _ (h)))))))
set_option maxRecDepth 20000 in
theorem gX10_sign_X4_pledge : GoodIn wsX10_sign (wsV RX10 140 RX4 yX4_pledge wsX4_pledge) := goodIn_app (goodIn_of _ (by decide +kernel)) ggX10_sign_X4_pledge
theorem bX10_sign_0 : decode cX10_sign 0 = .ok (.aload_n 0, 1) ∧ decode cX10_sign 1 = .ok (.iload_n 1, 1) ∧ decode cX10_sign 2 = .ok (.invokevirtual 137, 3) ∧ decode cX10_sign 5 = .ok (.aload_n 0, 1) ∧ decode cX10_sign 6 = .ok (.getfield 39, 3) ∧ decode cX10_sign 9 = .ok (.getfield 66, 3) ∧ decode cX10_sign 12 = .ok (.getfield 111, 3) ∧ decode cX10_sign 15 = .ok (.bipush 10, 2) ∧ decode cX10_sign 17 = .ok (.iaload, 1) ∧ decode cX10_sign 18 = .ok (.istore_n 2, 1) ∧ decode cX10_sign 19 = .ok (.aload_n 0, 1) ∧ decode cX10_sign 20 = .ok (.getfield 39, 3) ∧ decode cX10_sign 23 = .ok (.getfield 66, 3) ∧ decode cX10_sign 26 = .ok (.iload_n 1, 1) ∧ decode cX10_sign 27 = .ok (.invokevirtual 140, 3) ∧ decode cX10_sign 30 = .ok (.iload_n 2, 1) := by decide +kernel
def dX10_sign_0 := bX10_sign_0.1
def dX10_sign_1 := bX10_sign_0.2.1
def dX10_sign_2 := bX10_sign_0.2.2.1
def dX10_sign_5 := bX10_sign_0.2.2.2.1
def dX10_sign_6 := bX10_sign_0.2.2.2.2.1
def dX10_sign_9 := bX10_sign_0.2.2.2.2.2.1
def dX10_sign_12 := bX10_sign_0.2.2.2.2.2.2.1
def dX10_sign_15 := bX10_sign_0.2.2.2.2.2.2.2.1
def dX10_sign_17 := bX10_sign_0.2.2.2.2.2.2.2.2.1
def dX10_sign_18 := bX10_sign_0.2.2.2.2.2.2.2.2.2.1
def dX10_sign_19 := bX10_sign_0.2.2.2.2.2.2.2.2.2.2.1
def dX10_sign_20 := bX10_sign_0.2.2.2.2.2.2.2.2.2.2.2.1
def dX10_sign_23 := bX10_sign_0.2.2.2.2.2.2.2.2.2.2.2.2.1
def dX10_sign_26 := bX10_sign_0.2.2.2.2.2.2.2.2.2.2.2.2.2.1
def dX10_sign_27 := bX10_sign_0.2.2.2.2.2.2.2.2.2.2.2.2.2.2.1
def dX10_sign_30 := bX10_sign_0.2.2.2.2.2.2.2.2.2.2.2.2.2.2.2
theorem dX10_sign_31 : decode cX10_sign 31 = .ok (.ireturn, 1) := by decide +kernel
theorem ggX10_months_X10_within : GoodIn wsX10_months wsX10_within := gW_in gwX10_within (fun _ h => List.mem_cons_of_mem _ (List.mem_append_right _ (List.mem_append_right _ (List.mem_append_right _ (List.mem_append_right _ (List.mem_append_right _ (List.mem_append_right _ (List.mem_append_right _ (List.mem_append_left _ h)))))))))
set_option maxRecDepth 20000 in
theorem gX10_months_X10_within : GoodIn wsX10_months (va_wsS RX10 107 yX10_within wsX10_within) := goodIn_app (goodIn_of _ (by decide +kernel)) ggX10_months_X10_within
theorem ggX10_months_X10_demand : GoodIn wsX10_months wsX10_demand := gW_in gwX10_demand (fun _ h => List.mem_cons_of_mem _ (List.mem_append_right _ (List.mem_append_right _ (List.mem_append_right _ (List.mem_append_right _ (List.mem_append_right _ (List.mem_append_right _ (List.mem_append_right _ (List.mem_append_right _ (List.mem_append_left _ h))))))))))
set_option maxRecDepth 20000 in
theorem gX10_months_X10_demand : GoodIn wsX10_months (wsV RX10 81 RX10 yX10_demand wsX10_demand) := goodIn_app (goodIn_of _ (by decide +kernel)) ggX10_months_X10_demand
theorem ggX10_months_X0_keep : GoodIn wsX10_months wsX0_keep := gW_in gwX0_keep (fun _ h => List.mem_cons_of_mem _ (List.mem_append_right _ (List.mem_append_right _ (List.mem_append_right _ (List.mem_append_right _ (List.mem_append_right _ (List.mem_append_right _ (List.mem_append_right _ (List.mem_append_right _ (List.mem_append_right _ (List.mem_append_left _ h)))))))))))
set_option maxRecDepth 20000 in
theorem gX10_months_X0_keep : GoodIn wsX10_months (wsV RX10 147 RX0 yX0_keep wsX0_keep) := goodIn_app (goodIn_of _ (by decide +kernel)) ggX10_months_X0_keep
theorem ggX10_months_X10_inForce : GoodIn wsX10_months wsX10_inForce := gW_in gwX10_inForce (fun _ h => List.mem_cons_of_mem _ (List.mem_append_right _ (List.mem_append_right _ (List.mem_append_right _ (List.mem_append_right _ (List.mem_append_right _ (List.mem_append_right _ (List.mem_append_right _ (List.mem_append_right _ (List.mem_append_right _ (List.mem_append_right _ (List.mem_append_left _ h))))))))))))
set_option maxRecDepth 20000 in
theorem gX10_months_X10_inForce : GoodIn wsX10_months (wsV RX10 153 RX10 yX10_inForce wsX10_inForce) := goodIn_app (goodIn_of _ (by decide +kernel)) ggX10_months_X10_inForce
theorem ggX10_months_X4_pass : GoodIn wsX10_months wsX4_pass := gW_in gwX4_pass (fun _ h => List.mem_cons_of_mem _ (List.mem_append_right _ (List.mem_append_right _ (List.mem_append_right _ (List.mem_append_right _ (List.mem_append_right _ (List.mem_append_right _ (List.mem_append_right _ (List.mem_append_right _ (List.mem_append_right _ (List.mem_append_right _ (List.mem_append_right _ (List.mem_append_left _ h)))))))))))))
set_option maxRecDepth 20000 in
theorem gX10_months_X4_pass : GoodIn wsX10_months (wsV RX10 157 RX4 yX4_pass wsX4_pass) := goodIn_app (goodIn_of _ (by decide +kernel)) ggX10_months_X4_pass
theorem ggX10_months_X0_lead : GoodIn wsX10_months wsX0_lead := gW_in gwX0_lead (fun _ h => List.mem_cons_of_mem _ (List.mem_append_right _ (List.mem_append_right _ (List.mem_append_right _ (List.mem_append_right _ (List.mem_append_right _ (List.mem_append_right _ (List.mem_append_right _ (List.mem_append_right _ (List.mem_append_right _ (List.mem_append_right _ (List.mem_append_right _ (List.mem_append_right _ (h))))))))))))))
set_option maxRecDepth 20000 in
theorem gX10_months_X0_lead : GoodIn wsX10_months (wsV RX10 161 RX0 yX0_lead wsX0_lead) := goodIn_app (goodIn_of _ (by decide +kernel)) ggX10_months_X0_lead
theorem bX10_months_0 : decode cX10_months 0 = .ok (.aload_n 0, 1) ∧ decode cX10_months 1 = .ok (.iload_n 1, 1) ∧ decode cX10_months 2 = .ok (.iconst 1, 1) ∧ decode cX10_months 3 = .ok (.bipush 120, 2) ∧ decode cX10_months 5 = .ok (.invokestatic 107, 3) ∧ decode cX10_months 8 = .ok (.invokevirtual 81, 3) ∧ decode cX10_months 11 = .ok (.iconst 0, 1) ∧ decode cX10_months 12 = .ok (.istore_n 2, 1) ∧ decode cX10_months 13 = .ok (.iload_n 2, 1) ∧ decode cX10_months 14 = .ok (.iload_n 1, 1) ∧ decode cX10_months 15 = .ok (.if_icmp .ge 83, 3) ∧ decode cX10_months 18 = .ok (.aload_n 0, 1) ∧ decode cX10_months 19 = .ok (.getfield 39, 3) ∧ decode cX10_months 22 = .ok (.getfield 66, 3) ∧ decode cX10_months 25 = .ok (.getfield 114, 3) ∧ decode cX10_months 28 = .ok (.bipush 120, 2) := by decide +kernel
def dX10_months_0 := bX10_months_0.1
def dX10_months_1 := bX10_months_0.2.1
def dX10_months_2 := bX10_months_0.2.2.1
def dX10_months_3 := bX10_months_0.2.2.2.1
def dX10_months_5 := bX10_months_0.2.2.2.2.1
def dX10_months_8 := bX10_months_0.2.2.2.2.2.1
def dX10_months_11 := bX10_months_0.2.2.2.2.2.2.1
def dX10_months_12 := bX10_months_0.2.2.2.2.2.2.2.1
def dX10_months_13 := bX10_months_0.2.2.2.2.2.2.2.2.1
def dX10_months_14 := bX10_months_0.2.2.2.2.2.2.2.2.2.1
def dX10_months_15 := bX10_months_0.2.2.2.2.2.2.2.2.2.2.1
def dX10_months_18 := bX10_months_0.2.2.2.2.2.2.2.2.2.2.2.1
def dX10_months_19 := bX10_months_0.2.2.2.2.2.2.2.2.2.2.2.2.1
def dX10_months_22 := bX10_months_0.2.2.2.2.2.2.2.2.2.2.2.2.2.1
def dX10_months_25 := bX10_months_0.2.2.2.2.2.2.2.2.2.2.2.2.2.2.1
def dX10_months_28 := bX10_months_0.2.2.2.2.2.2.2.2.2.2.2.2.2.2.2
theorem bX10_months_30 : decode cX10_months 30 = .ok (.if_icmp .ge 68, 3) ∧ decode cX10_months 33 = .ok (.aload_n 0, 1) ∧ decode cX10_months 34 = .ok (.getfield 39, 3) ∧ decode cX10_months 37 = .ok (.getfield 143, 3) ∧ decode cX10_months 40 = .ok (.aload_n 0, 1) ∧ decode cX10_months 41 = .ok (.getfield 39, 3) ∧ decode cX10_months 44 = .ok (.getfield 66, 3) ∧ decode cX10_months 47 = .ok (.invokevirtual 147, 3) ∧ decode cX10_months 50 = .ok (.aload_n 0, 1) ∧ decode cX10_months 51 = .ok (.getfield 39, 3) ∧ decode cX10_months 54 = .ok (.getfield 66, 3) ∧ decode cX10_months 57 = .ok (.aload_n 0, 1) ∧ decode cX10_months 58 = .ok (.getfield 23, 3) ∧ decode cX10_months 61 = .ok (.aload_n 0, 1) ∧ decode cX10_months 62 = .ok (.aload_n 0, 1) ∧ decode cX10_months 63 = .ok (.getfield 39, 3) := by decide +kernel
def dX10_months_30 := bX10_months_30.1
def dX10_months_33 := bX10_months_30.2.1
def dX10_months_34 := bX10_months_30.2.2.1
def dX10_months_37 := bX10_months_30.2.2.2.1
def dX10_months_40 := bX10_months_30.2.2.2.2.1
def dX10_months_41 := bX10_months_30.2.2.2.2.2.1
def dX10_months_44 := bX10_months_30.2.2.2.2.2.2.1
def dX10_months_47 := bX10_months_30.2.2.2.2.2.2.2.1
def dX10_months_50 := bX10_months_30.2.2.2.2.2.2.2.2.1
def dX10_months_51 := bX10_months_30.2.2.2.2.2.2.2.2.2.1
def dX10_months_54 := bX10_months_30.2.2.2.2.2.2.2.2.2.2.1
def dX10_months_57 := bX10_months_30.2.2.2.2.2.2.2.2.2.2.2.1
def dX10_months_58 := bX10_months_30.2.2.2.2.2.2.2.2.2.2.2.2.1
def dX10_months_61 := bX10_months_30.2.2.2.2.2.2.2.2.2.2.2.2.2.1
def dX10_months_62 := bX10_months_30.2.2.2.2.2.2.2.2.2.2.2.2.2.2.1
def dX10_months_63 := bX10_months_30.2.2.2.2.2.2.2.2.2.2.2.2.2.2.2
theorem bX10_months_66 : decode cX10_months 66 = .ok (.getfield 66, 3) ∧ decode cX10_months 69 = .ok (.invokevirtual 153, 3) ∧ decode cX10_months 72 = .ok (.invokevirtual 157, 3) ∧ decode cX10_months 75 = .ok (.aload_n 0, 1) ∧ decode cX10_months 76 = .ok (.getfield 39, 3) ∧ decode cX10_months 79 = .ok (.getfield 143, 3) ∧ decode cX10_months 82 = .ok (.aload_n 0, 1) ∧ decode cX10_months 83 = .ok (.getfield 39, 3) ∧ decode cX10_months 86 = .ok (.getfield 66, 3) ∧ decode cX10_months 89 = .ok (.invokevirtual 161, 3) ∧ decode cX10_months 92 = .ok (.iinc 2 1, 3) ∧ decode cX10_months 95 = .ok (.goto (-82), 3) ∧ decode cX10_months 98 = .ok (.iload_n 2, 1) ∧ decode cX10_months 99 = .ok (.ireturn, 1) := by decide +kernel
def dX10_months_66 := bX10_months_66.1
def dX10_months_69 := bX10_months_66.2.1
def dX10_months_72 := bX10_months_66.2.2.1
def dX10_months_75 := bX10_months_66.2.2.2.1
def dX10_months_76 := bX10_months_66.2.2.2.2.1
def dX10_months_79 := bX10_months_66.2.2.2.2.2.1
def dX10_months_82 := bX10_months_66.2.2.2.2.2.2.1
def dX10_months_83 := bX10_months_66.2.2.2.2.2.2.2.1
def dX10_months_86 := bX10_months_66.2.2.2.2.2.2.2.2.1
def dX10_months_89 := bX10_months_66.2.2.2.2.2.2.2.2.2.1
def dX10_months_92 := bX10_months_66.2.2.2.2.2.2.2.2.2.2.1
def dX10_months_95 := bX10_months_66.2.2.2.2.2.2.2.2.2.2.2.1
def dX10_months_98 := bX10_months_66.2.2.2.2.2.2.2.2.2.2.2.2.1
def dX10_months_99 := bX10_months_66.2.2.2.2.2.2.2.2.2.2.2.2.2
theorem ggX10_undo_X10_within : GoodIn wsX10_undo wsX10_within := gW_in gwX10_within (fun _ h => List.mem_cons_of_mem _ (List.mem_append_right _ (List.mem_append_right _ (List.mem_append_right _ (List.mem_append_right _ (List.mem_append_right _ (List.mem_append_left _ h)))))))
set_option maxRecDepth 20000 in
theorem gX10_undo_X10_within : GoodIn wsX10_undo (va_wsS RX10 107 yX10_within wsX10_within) := goodIn_app (goodIn_of _ (by decide +kernel)) ggX10_undo_X10_within
theorem ggX10_undo_X10_demand : GoodIn wsX10_undo wsX10_demand := gW_in gwX10_demand (fun _ h => List.mem_cons_of_mem _ (List.mem_append_right _ (List.mem_append_right _ (List.mem_append_right _ (List.mem_append_right _ (List.mem_append_right _ (List.mem_append_right _ (List.mem_append_left _ h))))))))
set_option maxRecDepth 20000 in
theorem gX10_undo_X10_demand : GoodIn wsX10_undo (wsV RX10 81 RX10 yX10_demand wsX10_demand) := goodIn_app (goodIn_of _ (by decide +kernel)) ggX10_undo_X10_demand
theorem ggX10_undo_X0_giveBack : GoodIn wsX10_undo wsX0_giveBack := gW_in gwX0_giveBack (fun _ h => List.mem_cons_of_mem _ (List.mem_append_right _ (List.mem_append_right _ (List.mem_append_right _ (List.mem_append_right _ (List.mem_append_right _ (List.mem_append_right _ (List.mem_append_right _ (h)))))))))
set_option maxRecDepth 20000 in
theorem gX10_undo_X0_giveBack : GoodIn wsX10_undo (wsV RX10 169 RX0 yX0_giveBack wsX0_giveBack) := goodIn_app (goodIn_of _ (by decide +kernel)) ggX10_undo_X0_giveBack
theorem bX10_undo_0 : decode cX10_undo 0 = .ok (.aload_n 0, 1) ∧ decode cX10_undo 1 = .ok (.iload_n 1, 1) ∧ decode cX10_undo 2 = .ok (.iconst 1, 1) ∧ decode cX10_undo 3 = .ok (.bipush 120, 2) ∧ decode cX10_undo 5 = .ok (.invokestatic 107, 3) ∧ decode cX10_undo 8 = .ok (.invokevirtual 81, 3) ∧ decode cX10_undo 11 = .ok (.iload_n 1, 1) ∧ decode cX10_undo 12 = .ok (.aload_n 0, 1) ∧ decode cX10_undo 13 = .ok (.getfield 39, 3) ∧ decode cX10_undo 16 = .ok (.getfield 66, 3) ∧ decode cX10_undo 19 = .ok (.getfield 114, 3) ∧ decode cX10_undo 22 = .ok (.invokestatic 164, 3) ∧ decode cX10_undo 25 = .ok (.istore_n 2, 1) ∧ decode cX10_undo 26 = .ok (.iload_n 2, 1) ∧ decode cX10_undo 27 = .ok (.ifCond .le 32, 3) ∧ decode cX10_undo 30 = .ok (.aload_n 0, 1) := by decide +kernel
def dX10_undo_0 := bX10_undo_0.1
def dX10_undo_1 := bX10_undo_0.2.1
def dX10_undo_2 := bX10_undo_0.2.2.1
def dX10_undo_3 := bX10_undo_0.2.2.2.1
def dX10_undo_5 := bX10_undo_0.2.2.2.2.1
def dX10_undo_8 := bX10_undo_0.2.2.2.2.2.1
def dX10_undo_11 := bX10_undo_0.2.2.2.2.2.2.1
def dX10_undo_12 := bX10_undo_0.2.2.2.2.2.2.2.1
def dX10_undo_13 := bX10_undo_0.2.2.2.2.2.2.2.2.1
def dX10_undo_16 := bX10_undo_0.2.2.2.2.2.2.2.2.2.1
def dX10_undo_19 := bX10_undo_0.2.2.2.2.2.2.2.2.2.2.1
def dX10_undo_22 := bX10_undo_0.2.2.2.2.2.2.2.2.2.2.2.1
def dX10_undo_25 := bX10_undo_0.2.2.2.2.2.2.2.2.2.2.2.2.1
def dX10_undo_26 := bX10_undo_0.2.2.2.2.2.2.2.2.2.2.2.2.2.1
def dX10_undo_27 := bX10_undo_0.2.2.2.2.2.2.2.2.2.2.2.2.2.2.1
def dX10_undo_30 := bX10_undo_0.2.2.2.2.2.2.2.2.2.2.2.2.2.2.2
theorem bX10_undo_31 : decode cX10_undo 31 = .ok (.getfield 39, 3) ∧ decode cX10_undo 34 = .ok (.getfield 143, 3) ∧ decode cX10_undo 37 = .ok (.aload_n 0, 1) ∧ decode cX10_undo 38 = .ok (.getfield 39, 3) ∧ decode cX10_undo 41 = .ok (.getfield 66, 3) ∧ decode cX10_undo 44 = .ok (.aload_n 0, 1) ∧ decode cX10_undo 45 = .ok (.getfield 39, 3) ∧ decode cX10_undo 48 = .ok (.getfield 66, 3) ∧ decode cX10_undo 51 = .ok (.getfield 114, 3) ∧ decode cX10_undo 54 = .ok (.iload_n 2, 1) ∧ decode cX10_undo 55 = .ok (.isub, 1) ∧ decode cX10_undo 56 = .ok (.invokevirtual 169, 3) ∧ decode cX10_undo 59 = .ok (.iload_n 2, 1) ∧ decode cX10_undo 60 = .ok (.ireturn, 1) := by decide +kernel
def dX10_undo_31 := bX10_undo_31.1
def dX10_undo_34 := bX10_undo_31.2.1
def dX10_undo_37 := bX10_undo_31.2.2.1
def dX10_undo_38 := bX10_undo_31.2.2.2.1
def dX10_undo_41 := bX10_undo_31.2.2.2.2.1
def dX10_undo_44 := bX10_undo_31.2.2.2.2.2.1
def dX10_undo_45 := bX10_undo_31.2.2.2.2.2.2.1
def dX10_undo_48 := bX10_undo_31.2.2.2.2.2.2.2.1
def dX10_undo_51 := bX10_undo_31.2.2.2.2.2.2.2.2.1
def dX10_undo_54 := bX10_undo_31.2.2.2.2.2.2.2.2.2.1
def dX10_undo_55 := bX10_undo_31.2.2.2.2.2.2.2.2.2.2.1
def dX10_undo_56 := bX10_undo_31.2.2.2.2.2.2.2.2.2.2.2.1
def dX10_undo_59 := bX10_undo_31.2.2.2.2.2.2.2.2.2.2.2.2.1
def dX10_undo_60 := bX10_undo_31.2.2.2.2.2.2.2.2.2.2.2.2.2
theorem ggX10_sums_X10_within : GoodIn wsX10_sums wsX10_within := gW_in gwX10_within (fun _ h => List.mem_cons_of_mem _ (List.mem_append_right _ (List.mem_append_right _ (List.mem_append_right _ (List.mem_append_right _ (List.mem_append_left _ h))))))
set_option maxRecDepth 20000 in
theorem gX10_sums_X10_within : GoodIn wsX10_sums (va_wsS RX10 107 yX10_within wsX10_within) := goodIn_app (goodIn_of _ (by decide +kernel)) ggX10_sums_X10_within
theorem ggX10_sums_X10_demand : GoodIn wsX10_sums wsX10_demand := gW_in gwX10_demand (fun _ h => List.mem_cons_of_mem _ (List.mem_append_right _ (List.mem_append_right _ (List.mem_append_right _ (List.mem_append_right _ (List.mem_append_right _ (h)))))))
set_option maxRecDepth 20000 in
theorem gX10_sums_X10_demand : GoodIn wsX10_sums (wsV RX10 81 RX10 yX10_demand wsX10_demand) := goodIn_app (goodIn_of _ (by decide +kernel)) ggX10_sums_X10_demand
theorem bX10_sums_0 : decode cX10_sums 0 = .ok (.aload_n 0, 1) ∧ decode cX10_sums 1 = .ok (.iload_n 1, 1) ∧ decode cX10_sums 2 = .ok (.iconst 0, 1) ∧ decode cX10_sums 3 = .ok (.bipush 9, 2) ∧ decode cX10_sums 5 = .ok (.invokestatic 107, 3) ∧ decode cX10_sums 8 = .ok (.invokevirtual 81, 3) ∧ decode cX10_sums 11 = .ok (.aload_n 0, 1) ∧ decode cX10_sums 12 = .ok (.getfield 39, 3) ∧ decode cX10_sums 15 = .ok (.getfield 66, 3) ∧ decode cX10_sums 18 = .ok (.getfield 111, 3) ∧ decode cX10_sums 21 = .ok (.iload_n 1, 1) ∧ decode cX10_sums 22 = .ok (.iaload, 1) ∧ decode cX10_sums 23 = .ok (.ireturn, 1) := by decide +kernel
def dX10_sums_0 := bX10_sums_0.1
def dX10_sums_1 := bX10_sums_0.2.1
def dX10_sums_2 := bX10_sums_0.2.2.1
def dX10_sums_3 := bX10_sums_0.2.2.2.1
def dX10_sums_5 := bX10_sums_0.2.2.2.2.1
def dX10_sums_8 := bX10_sums_0.2.2.2.2.2.1
def dX10_sums_11 := bX10_sums_0.2.2.2.2.2.2.1
def dX10_sums_12 := bX10_sums_0.2.2.2.2.2.2.2.1
def dX10_sums_15 := bX10_sums_0.2.2.2.2.2.2.2.2.1
def dX10_sums_18 := bX10_sums_0.2.2.2.2.2.2.2.2.2.1
def dX10_sums_21 := bX10_sums_0.2.2.2.2.2.2.2.2.2.2.1
def dX10_sums_22 := bX10_sums_0.2.2.2.2.2.2.2.2.2.2.2.1
def dX10_sums_23 := bX10_sums_0.2.2.2.2.2.2.2.2.2.2.2.2
theorem ggX10_corks_X10_demandWall : GoodIn wsX10_corks wsX10_demandWall := gW_in gwX10_demandWall (fun _ h => List.mem_cons_of_mem _ (List.mem_append_right _ (List.mem_append_right _ (List.mem_append_right _ (List.mem_append_right _ (List.mem_append_right _ (List.mem_append_right _ (List.mem_append_left _ h))))))))
set_option maxRecDepth 20000 in
theorem gX10_corks_X10_demandWall : GoodIn wsX10_corks (wsV RX10 117 RX10 yX10_demandWall wsX10_demandWall) := goodIn_app (goodIn_of _ (by decide +kernel)) ggX10_corks_X10_demandWall
theorem ggX10_corks_X10_within : GoodIn wsX10_corks wsX10_within := gW_in gwX10_within (fun _ h => List.mem_cons_of_mem _ (List.mem_append_right _ (List.mem_append_right _ (List.mem_append_right _ (List.mem_append_right _ (List.mem_append_right _ (List.mem_append_right _ (List.mem_append_right _ (List.mem_append_left _ h)))))))))
set_option maxRecDepth 20000 in
theorem gX10_corks_X10_within : GoodIn wsX10_corks (va_wsS RX10 107 yX10_within wsX10_within) := goodIn_app (goodIn_of _ (by decide +kernel)) ggX10_corks_X10_within
theorem ggX10_corks_X10_demand : GoodIn wsX10_corks wsX10_demand := gW_in gwX10_demand (fun _ h => List.mem_cons_of_mem _ (List.mem_append_right _ (List.mem_append_right _ (List.mem_append_right _ (List.mem_append_right _ (List.mem_append_right _ (List.mem_append_right _ (List.mem_append_right _ (List.mem_append_right _ (List.mem_append_left _ h))))))))))
set_option maxRecDepth 20000 in
theorem gX10_corks_X10_demand : GoodIn wsX10_corks (wsV RX10 81 RX10 yX10_demand wsX10_demand) := goodIn_app (goodIn_of _ (by decide +kernel)) ggX10_corks_X10_demand
theorem ggX10_corks_X0_shotAt : GoodIn wsX10_corks wsX0_shotAt := gW_in gwX0_shotAt (fun _ h => List.mem_cons_of_mem _ (List.mem_append_right _ (List.mem_append_right _ (List.mem_append_right _ (List.mem_append_right _ (List.mem_append_right _ (List.mem_append_right _ (List.mem_append_right _ (List.mem_append_right _ (List.mem_append_right _ (h)))))))))))
set_option maxRecDepth 20000 in
theorem gX10_corks_X0_shotAt : GoodIn wsX10_corks (wsV RX10 173 RX0 yX0_shotAt wsX0_shotAt) := goodIn_app (goodIn_of _ (by decide +kernel)) ggX10_corks_X0_shotAt
theorem bX10_corks_0 : decode cX10_corks 0 = .ok (.aload_n 0, 1) ∧ decode cX10_corks 1 = .ok (.iload_n 2, 1) ∧ decode cX10_corks 2 = .ok (.invokevirtual 117, 3) ∧ decode cX10_corks 5 = .ok (.aload_n 0, 1) ∧ decode cX10_corks 6 = .ok (.iload_n 1, 1) ∧ decode cX10_corks 7 = .ok (.iconst 0, 1) ∧ decode cX10_corks 8 = .ok (.bipush 119, 2) ∧ decode cX10_corks 10 = .ok (.invokestatic 107, 3) ∧ decode cX10_corks 13 = .ok (.invokevirtual 81, 3) ∧ decode cX10_corks 16 = .ok (.iload_n 1, 1) ∧ decode cX10_corks 17 = .ok (.aload_n 0, 1) ∧ decode cX10_corks 18 = .ok (.getfield 39, 3) ∧ decode cX10_corks 21 = .ok (.getfield 66, 3) ∧ decode cX10_corks 24 = .ok (.getfield 114, 3) ∧ decode cX10_corks 27 = .ok (.if_icmp .ge 18, 3) ∧ decode cX10_corks 30 = .ok (.aload_n 0, 1) := by decide +kernel
def dX10_corks_0 := bX10_corks_0.1
def dX10_corks_1 := bX10_corks_0.2.1
def dX10_corks_2 := bX10_corks_0.2.2.1
def dX10_corks_5 := bX10_corks_0.2.2.2.1
def dX10_corks_6 := bX10_corks_0.2.2.2.2.1
def dX10_corks_7 := bX10_corks_0.2.2.2.2.2.1
def dX10_corks_8 := bX10_corks_0.2.2.2.2.2.2.1
def dX10_corks_10 := bX10_corks_0.2.2.2.2.2.2.2.1
def dX10_corks_13 := bX10_corks_0.2.2.2.2.2.2.2.2.1
def dX10_corks_16 := bX10_corks_0.2.2.2.2.2.2.2.2.2.1
def dX10_corks_17 := bX10_corks_0.2.2.2.2.2.2.2.2.2.2.1
def dX10_corks_18 := bX10_corks_0.2.2.2.2.2.2.2.2.2.2.2.1
def dX10_corks_21 := bX10_corks_0.2.2.2.2.2.2.2.2.2.2.2.2.1
def dX10_corks_24 := bX10_corks_0.2.2.2.2.2.2.2.2.2.2.2.2.2.1
def dX10_corks_27 := bX10_corks_0.2.2.2.2.2.2.2.2.2.2.2.2.2.2.1
def dX10_corks_30 := bX10_corks_0.2.2.2.2.2.2.2.2.2.2.2.2.2.2.2
theorem bX10_corks_31 : decode cX10_corks 31 = .ok (.getfield 39, 3) ∧ decode cX10_corks 34 = .ok (.getfield 143, 3) ∧ decode cX10_corks 37 = .ok (.iload_n 1, 1) ∧ decode cX10_corks 38 = .ok (.iload_n 2, 1) ∧ decode cX10_corks 39 = .ok (.invokevirtual 173, 3) ∧ decode cX10_corks 42 = .ok (.goto 4, 3) ∧ decode cX10_corks 45 = .ok (.iconst 0, 1) ∧ decode cX10_corks 46 = .ok (.ireturn, 1) := by decide +kernel
def dX10_corks_31 := bX10_corks_31.1
def dX10_corks_34 := bX10_corks_31.2.1
def dX10_corks_37 := bX10_corks_31.2.2.1
def dX10_corks_38 := bX10_corks_31.2.2.2.1
def dX10_corks_39 := bX10_corks_31.2.2.2.2.1
def dX10_corks_42 := bX10_corks_31.2.2.2.2.2.1
def dX10_corks_45 := bX10_corks_31.2.2.2.2.2.2.1
def dX10_corks_46 := bX10_corks_31.2.2.2.2.2.2.2
theorem ggX10_would_X10_demandContractOrNone : GoodIn wsX10_would wsX10_demandContractOrNone := gW_in gwX10_demandContractOrNone (fun _ h => List.mem_cons_of_mem _ (List.mem_append_right _ (List.mem_append_right _ (List.mem_append_right _ (List.mem_append_right _ (List.mem_append_right _ (List.mem_append_right _ (List.mem_append_left _ h))))))))
set_option maxRecDepth 20000 in
theorem gX10_would_X10_demandContractOrNone : GoodIn wsX10_would (wsV RX10 137 RX10 yX10_demandContractOrNone wsX10_demandContractOrNone) := goodIn_app (goodIn_of _ (by decide +kernel)) ggX10_would_X10_demandContractOrNone
theorem ggX10_would_X10_within : GoodIn wsX10_would wsX10_within := gW_in gwX10_within (fun _ h => List.mem_cons_of_mem _ (List.mem_append_right _ (List.mem_append_right _ (List.mem_append_right _ (List.mem_append_right _ (List.mem_append_right _ (List.mem_append_right _ (List.mem_append_right _ (List.mem_append_left _ h)))))))))
set_option maxRecDepth 20000 in
theorem gX10_would_X10_within : GoodIn wsX10_would (va_wsS RX10 107 yX10_within wsX10_within) := goodIn_app (goodIn_of _ (by decide +kernel)) ggX10_would_X10_within
theorem ggX10_would_X10_demand : GoodIn wsX10_would wsX10_demand := gW_in gwX10_demand (fun _ h => List.mem_cons_of_mem _ (List.mem_append_right _ (List.mem_append_right _ (List.mem_append_right _ (List.mem_append_right _ (List.mem_append_right _ (List.mem_append_right _ (List.mem_append_right _ (List.mem_append_right _ (List.mem_append_left _ h))))))))))
set_option maxRecDepth 20000 in
theorem gX10_would_X10_demand : GoodIn wsX10_would (wsV RX10 81 RX10 yX10_demand wsX10_demand) := goodIn_app (goodIn_of _ (by decide +kernel)) ggX10_would_X10_demand
theorem ggX10_would_X10_trySigned : GoodIn wsX10_would wsX10_trySigned := gW_in gwX10_trySigned (fun _ h => List.mem_cons_of_mem _ (List.mem_append_right _ (List.mem_append_right _ (List.mem_append_right _ (List.mem_append_right _ (List.mem_append_right _ (List.mem_append_right _ (List.mem_append_right _ (List.mem_append_right _ (List.mem_append_right _ (h)))))))))))
set_option maxRecDepth 20000 in
theorem gX10_would_X10_trySigned : GoodIn wsX10_would (wsV RX10 176 RX10 yX10_trySigned wsX10_trySigned) := goodIn_app (goodIn_of _ (by decide +kernel)) ggX10_would_X10_trySigned
theorem bX10_would_0 : decode cX10_would 0 = .ok (.aload_n 0, 1) ∧ decode cX10_would 1 = .ok (.iload_n 1, 1) ∧ decode cX10_would 2 = .ok (.invokevirtual 137, 3) ∧ decode cX10_would 5 = .ok (.aload_n 0, 1) ∧ decode cX10_would 6 = .ok (.iload_n 2, 1) ∧ decode cX10_would 7 = .ok (.iconst 1, 1) ∧ decode cX10_would 8 = .ok (.bipush 60, 2) ∧ decode cX10_would 10 = .ok (.invokestatic 107, 3) ∧ decode cX10_would 13 = .ok (.ifCond .eq 17, 3) ∧ decode cX10_would 16 = .ok (.iload_n 3, 1) ∧ decode cX10_would 17 = .ok (.iconst 0, 1) ∧ decode cX10_would 18 = .ok (.bipush 9, 2) ∧ decode cX10_would 20 = .ok (.invokestatic 107, 3) ∧ decode cX10_would 23 = .ok (.ifCond .eq 7, 3) ∧ decode cX10_would 26 = .ok (.iconst 1, 1) ∧ decode cX10_would 27 = .ok (.goto 4, 3) := by decide +kernel
def dX10_would_0 := bX10_would_0.1
def dX10_would_1 := bX10_would_0.2.1
def dX10_would_2 := bX10_would_0.2.2.1
def dX10_would_5 := bX10_would_0.2.2.2.1
def dX10_would_6 := bX10_would_0.2.2.2.2.1
def dX10_would_7 := bX10_would_0.2.2.2.2.2.1
def dX10_would_8 := bX10_would_0.2.2.2.2.2.2.1
def dX10_would_10 := bX10_would_0.2.2.2.2.2.2.2.1
def dX10_would_13 := bX10_would_0.2.2.2.2.2.2.2.2.1
def dX10_would_16 := bX10_would_0.2.2.2.2.2.2.2.2.2.1
def dX10_would_17 := bX10_would_0.2.2.2.2.2.2.2.2.2.2.1
def dX10_would_18 := bX10_would_0.2.2.2.2.2.2.2.2.2.2.2.1
def dX10_would_20 := bX10_would_0.2.2.2.2.2.2.2.2.2.2.2.2.1
def dX10_would_23 := bX10_would_0.2.2.2.2.2.2.2.2.2.2.2.2.2.1
def dX10_would_26 := bX10_would_0.2.2.2.2.2.2.2.2.2.2.2.2.2.2.1
def dX10_would_27 := bX10_would_0.2.2.2.2.2.2.2.2.2.2.2.2.2.2.2
theorem bX10_would_30 : decode cX10_would 30 = .ok (.iconst 0, 1) ∧ decode cX10_would 31 = .ok (.invokevirtual 81, 3) ∧ decode cX10_would 34 = .ok (.aload_n 0, 1) ∧ decode cX10_would 35 = .ok (.iload_n 1, 1) ∧ decode cX10_would 36 = .ok (.iload_n 2, 1) ∧ decode cX10_would 37 = .ok (.invokevirtual 176, 3) ∧ decode cX10_would 40 = .ok (.pop, 1) ∧ decode cX10_would 41 = .ok (.aload_n 0, 1) ∧ decode cX10_would 42 = .ok (.getfield 50, 3) ∧ decode cX10_would 45 = .ok (.getfield 111, 3) ∧ decode cX10_would 48 = .ok (.iload_n 3, 1) ∧ decode cX10_would 49 = .ok (.iaload, 1) ∧ decode cX10_would 50 = .ok (.ireturn, 1) := by decide +kernel
def dX10_would_30 := bX10_would_30.1
def dX10_would_31 := bX10_would_30.2.1
def dX10_would_34 := bX10_would_30.2.2.1
def dX10_would_35 := bX10_would_30.2.2.2.1
def dX10_would_36 := bX10_would_30.2.2.2.2.1
def dX10_would_37 := bX10_would_30.2.2.2.2.2.1
def dX10_would_40 := bX10_would_30.2.2.2.2.2.2.1
def dX10_would_41 := bX10_would_30.2.2.2.2.2.2.2.1
def dX10_would_42 := bX10_would_30.2.2.2.2.2.2.2.2.1
def dX10_would_45 := bX10_would_30.2.2.2.2.2.2.2.2.2.1
def dX10_would_48 := bX10_would_30.2.2.2.2.2.2.2.2.2.2.1
def dX10_would_49 := bX10_would_30.2.2.2.2.2.2.2.2.2.2.2.1
def dX10_would_50 := bX10_would_30.2.2.2.2.2.2.2.2.2.2.2.2
theorem ggX10_best_X10_within : GoodIn wsX10_best wsX10_within := gW_in gwX10_within (fun _ h => List.mem_cons_of_mem _ (List.mem_append_right _ (List.mem_append_right _ (List.mem_append_right _ (List.mem_append_right _ (List.mem_append_right _ (List.mem_append_right _ (List.mem_append_left _ h))))))))
set_option maxRecDepth 20000 in
theorem gX10_best_X10_within : GoodIn wsX10_best (va_wsS RX10 107 yX10_within wsX10_within) := goodIn_app (goodIn_of _ (by decide +kernel)) ggX10_best_X10_within
theorem ggX10_best_X10_demand : GoodIn wsX10_best wsX10_demand := gW_in gwX10_demand (fun _ h => List.mem_cons_of_mem _ (List.mem_append_right _ (List.mem_append_right _ (List.mem_append_right _ (List.mem_append_right _ (List.mem_append_right _ (List.mem_append_right _ (List.mem_append_right _ (List.mem_append_left _ h)))))))))
set_option maxRecDepth 20000 in
theorem gX10_best_X10_demand : GoodIn wsX10_best (wsV RX10 81 RX10 yX10_demand wsX10_demand) := goodIn_app (goodIn_of _ (by decide +kernel)) ggX10_best_X10_demand
theorem ggX10_best_X10_trySigned : GoodIn wsX10_best wsX10_trySigned := gW_in gwX10_trySigned (fun _ h => List.mem_cons_of_mem _ (List.mem_append_right _ (List.mem_append_right _ (List.mem_append_right _ (List.mem_append_right _ (List.mem_append_right _ (List.mem_append_right _ (List.mem_append_right _ (List.mem_append_right _ (h))))))))))
set_option maxRecDepth 20000 in
theorem gX10_best_X10_trySigned : GoodIn wsX10_best (wsV RX10 176 RX10 yX10_trySigned wsX10_trySigned) := goodIn_app (goodIn_of _ (by decide +kernel)) ggX10_best_X10_trySigned
theorem bX10_best_0 : decode cX10_best 0 = .ok (.aload_n 0, 1) ∧ decode cX10_best 1 = .ok (.iload_n 1, 1) ∧ decode cX10_best 2 = .ok (.iconst 1, 1) ∧ decode cX10_best 3 = .ok (.bipush 60, 2) ∧ decode cX10_best 5 = .ok (.invokestatic 107, 3) ∧ decode cX10_best 8 = .ok (.ifCond .eq 16, 3) ∧ decode cX10_best 11 = .ok (.iload_n 2, 1) ∧ decode cX10_best 12 = .ok (.iconst 0, 1) ∧ decode cX10_best 13 = .ok (.iconst 1, 1) ∧ decode cX10_best 14 = .ok (.invokestatic 107, 3) ∧ decode cX10_best 17 = .ok (.ifCond .eq 7, 3) ∧ decode cX10_best 20 = .ok (.iconst 1, 1) ∧ decode cX10_best 21 = .ok (.goto 4, 3) ∧ decode cX10_best 24 = .ok (.iconst 0, 1) ∧ decode cX10_best 25 = .ok (.invokevirtual 81, 3) ∧ decode cX10_best 28 = .ok (.iconst (-1), 1) := by decide +kernel
def dX10_best_0 := bX10_best_0.1
def dX10_best_1 := bX10_best_0.2.1
def dX10_best_2 := bX10_best_0.2.2.1
def dX10_best_3 := bX10_best_0.2.2.2.1
def dX10_best_5 := bX10_best_0.2.2.2.2.1
def dX10_best_8 := bX10_best_0.2.2.2.2.2.1
def dX10_best_11 := bX10_best_0.2.2.2.2.2.2.1
def dX10_best_12 := bX10_best_0.2.2.2.2.2.2.2.1
def dX10_best_13 := bX10_best_0.2.2.2.2.2.2.2.2.1
def dX10_best_14 := bX10_best_0.2.2.2.2.2.2.2.2.2.1
def dX10_best_17 := bX10_best_0.2.2.2.2.2.2.2.2.2.2.1
def dX10_best_20 := bX10_best_0.2.2.2.2.2.2.2.2.2.2.2.1
def dX10_best_21 := bX10_best_0.2.2.2.2.2.2.2.2.2.2.2.2.1
def dX10_best_24 := bX10_best_0.2.2.2.2.2.2.2.2.2.2.2.2.2.1
def dX10_best_25 := bX10_best_0.2.2.2.2.2.2.2.2.2.2.2.2.2.2.1
def dX10_best_28 := bX10_best_0.2.2.2.2.2.2.2.2.2.2.2.2.2.2.2
theorem bX10_best_29 : decode cX10_best 29 = .ok (.istore_n 3, 1) ∧ decode cX10_best 30 = .ok (.iconst (-1), 1) ∧ decode cX10_best 31 = .ok (.istore 4, 2) ∧ decode cX10_best 33 = .ok (.iconst 0, 1) ∧ decode cX10_best 34 = .ok (.istore 5, 2) ∧ decode cX10_best 36 = .ok (.iload 5, 2) ∧ decode cX10_best 38 = .ok (.aload_n 0, 1) ∧ decode cX10_best 39 = .ok (.getfield 92, 3) ∧ decode cX10_best 42 = .ok (.if_icmp .ge 32, 3) ∧ decode cX10_best 45 = .ok (.aload_n 0, 1) ∧ decode cX10_best 46 = .ok (.iload 5, 2) ∧ decode cX10_best 48 = .ok (.iload_n 1, 1) ∧ decode cX10_best 49 = .ok (.invokevirtual 176, 3) ∧ decode cX10_best 52 = .ok (.istore 6, 2) ∧ decode cX10_best 54 = .ok (.iload 6, 2) ∧ decode cX10_best 56 = .ok (.iload 4, 2) := by decide +kernel
def dX10_best_29 := bX10_best_29.1
def dX10_best_30 := bX10_best_29.2.1
def dX10_best_31 := bX10_best_29.2.2.1
def dX10_best_33 := bX10_best_29.2.2.2.1
def dX10_best_34 := bX10_best_29.2.2.2.2.1
def dX10_best_36 := bX10_best_29.2.2.2.2.2.1
def dX10_best_38 := bX10_best_29.2.2.2.2.2.2.1
def dX10_best_39 := bX10_best_29.2.2.2.2.2.2.2.1
def dX10_best_42 := bX10_best_29.2.2.2.2.2.2.2.2.1
def dX10_best_45 := bX10_best_29.2.2.2.2.2.2.2.2.2.1
def dX10_best_46 := bX10_best_29.2.2.2.2.2.2.2.2.2.2.1
def dX10_best_48 := bX10_best_29.2.2.2.2.2.2.2.2.2.2.2.1
def dX10_best_49 := bX10_best_29.2.2.2.2.2.2.2.2.2.2.2.2.1
def dX10_best_52 := bX10_best_29.2.2.2.2.2.2.2.2.2.2.2.2.2.1
def dX10_best_54 := bX10_best_29.2.2.2.2.2.2.2.2.2.2.2.2.2.2.1
def dX10_best_56 := bX10_best_29.2.2.2.2.2.2.2.2.2.2.2.2.2.2.2
theorem bX10_best_58 : decode cX10_best 58 = .ok (.if_icmp .le 10, 3) ∧ decode cX10_best 61 = .ok (.iload 6, 2) ∧ decode cX10_best 63 = .ok (.istore 4, 2) ∧ decode cX10_best 65 = .ok (.iload 5, 2) ∧ decode cX10_best 67 = .ok (.istore_n 3, 1) ∧ decode cX10_best 68 = .ok (.iinc 5 1, 3) ∧ decode cX10_best 71 = .ok (.goto (-35), 3) ∧ decode cX10_best 74 = .ok (.aload_n 0, 1) ∧ decode cX10_best 75 = .ok (.iconst (-1), 1) ∧ decode cX10_best 76 = .ok (.iload_n 1, 1) ∧ decode cX10_best 77 = .ok (.invokevirtual 176, 3) ∧ decode cX10_best 80 = .ok (.istore 5, 2) ∧ decode cX10_best 82 = .ok (.iload 5, 2) ∧ decode cX10_best 84 = .ok (.iload 4, 2) ∧ decode cX10_best 86 = .ok (.if_icmp .le 9, 3) ∧ decode cX10_best 89 = .ok (.iload 5, 2) := by decide +kernel
def dX10_best_58 := bX10_best_58.1
def dX10_best_61 := bX10_best_58.2.1
def dX10_best_63 := bX10_best_58.2.2.1
def dX10_best_65 := bX10_best_58.2.2.2.1
def dX10_best_67 := bX10_best_58.2.2.2.2.1
def dX10_best_68 := bX10_best_58.2.2.2.2.2.1
def dX10_best_71 := bX10_best_58.2.2.2.2.2.2.1
def dX10_best_74 := bX10_best_58.2.2.2.2.2.2.2.1
def dX10_best_75 := bX10_best_58.2.2.2.2.2.2.2.2.1
def dX10_best_76 := bX10_best_58.2.2.2.2.2.2.2.2.2.1
def dX10_best_77 := bX10_best_58.2.2.2.2.2.2.2.2.2.2.1
def dX10_best_80 := bX10_best_58.2.2.2.2.2.2.2.2.2.2.2.1
def dX10_best_82 := bX10_best_58.2.2.2.2.2.2.2.2.2.2.2.2.1
def dX10_best_84 := bX10_best_58.2.2.2.2.2.2.2.2.2.2.2.2.2.1
def dX10_best_86 := bX10_best_58.2.2.2.2.2.2.2.2.2.2.2.2.2.2.1
def dX10_best_89 := bX10_best_58.2.2.2.2.2.2.2.2.2.2.2.2.2.2.2
theorem bX10_best_91 : decode cX10_best 91 = .ok (.istore 4, 2) ∧ decode cX10_best 93 = .ok (.iconst (-1), 1) ∧ decode cX10_best 94 = .ok (.istore_n 3, 1) ∧ decode cX10_best 95 = .ok (.iload_n 2, 1) ∧ decode cX10_best 96 = .ok (.ifCond .ne 7, 3) ∧ decode cX10_best 99 = .ok (.iload_n 3, 1) ∧ decode cX10_best 100 = .ok (.goto 5, 3) ∧ decode cX10_best 103 = .ok (.iload 4, 2) ∧ decode cX10_best 105 = .ok (.ireturn, 1) := by decide +kernel
def dX10_best_91 := bX10_best_91.1
def dX10_best_93 := bX10_best_91.2.1
def dX10_best_94 := bX10_best_91.2.2.1
def dX10_best_95 := bX10_best_91.2.2.2.1
def dX10_best_96 := bX10_best_91.2.2.2.2.1
def dX10_best_99 := bX10_best_91.2.2.2.2.2.1
def dX10_best_100 := bX10_best_91.2.2.2.2.2.2.1
def dX10_best_103 := bX10_best_91.2.2.2.2.2.2.2.1
def dX10_best_105 := bX10_best_91.2.2.2.2.2.2.2.2
theorem ggX10_offer_X10_within : GoodIn wsX10_offer wsX10_within := gW_in gwX10_within (fun _ h => List.mem_cons_of_mem _ (List.mem_append_right _ (List.mem_append_right _ (List.mem_append_right _ (List.mem_append_right _ (List.mem_append_right _ (List.mem_append_right _ (List.mem_append_left _ h))))))))
set_option maxRecDepth 20000 in
theorem gX10_offer_X10_within : GoodIn wsX10_offer (va_wsS RX10 107 yX10_within wsX10_within) := goodIn_app (goodIn_of _ (by decide +kernel)) ggX10_offer_X10_within
theorem ggX10_offer_X10_demand : GoodIn wsX10_offer wsX10_demand := gW_in gwX10_demand (fun _ h => List.mem_cons_of_mem _ (List.mem_append_right _ (List.mem_append_right _ (List.mem_append_right _ (List.mem_append_right _ (List.mem_append_right _ (List.mem_append_right _ (List.mem_append_right _ (List.mem_append_left _ h)))))))))
set_option maxRecDepth 20000 in
theorem gX10_offer_X10_demand : GoodIn wsX10_offer (wsV RX10 81 RX10 yX10_demand wsX10_demand) := goodIn_app (goodIn_of _ (by decide +kernel)) ggX10_offer_X10_demand
theorem ggX10_offer_X6_wanted : GoodIn wsX10_offer wsX6_wanted := gW_in gwX6_wanted (fun _ h => List.mem_cons_of_mem _ (List.mem_append_right _ (List.mem_append_right _ (List.mem_append_right _ (List.mem_append_right _ (List.mem_append_right _ (List.mem_append_right _ (List.mem_append_right _ (List.mem_append_right _ (List.mem_append_left _ h))))))))))
set_option maxRecDepth 20000 in
theorem gX10_offer_X6_wanted : GoodIn wsX10_offer (wsV RX10 133 RX6 yX6_wanted wsX6_wanted) := goodIn_app (goodIn_of _ (by decide +kernel)) ggX10_offer_X6_wanted
theorem ggX10_offer_X5_propose : GoodIn wsX10_offer wsX5_propose := gW_in gwX5_propose (fun _ h => List.mem_cons_of_mem _ (List.mem_append_right _ (List.mem_append_right _ (List.mem_append_right _ (List.mem_append_right _ (List.mem_append_right _ (List.mem_append_right _ (List.mem_append_right _ (List.mem_append_right _ (List.mem_append_right _ (List.mem_append_left _ h)))))))))))
set_option maxRecDepth 20000 in
theorem gX10_offer_X5_propose : GoodIn wsX10_offer (wsV RX10 179 RX5 yX5_propose wsX5_propose) := goodIn_app (goodIn_of _ (by decide +kernel)) ggX10_offer_X5_propose
theorem ggX10_offer_X10_trySigned : GoodIn wsX10_offer wsX10_trySigned := gW_in gwX10_trySigned (fun _ h => List.mem_cons_of_mem _ (List.mem_append_right _ (List.mem_append_right _ (List.mem_append_right _ (List.mem_append_right _ (List.mem_append_right _ (List.mem_append_right _ (List.mem_append_right _ (List.mem_append_right _ (List.mem_append_right _ (List.mem_append_right _ (h))))))))))))
set_option maxRecDepth 20000 in
theorem gX10_offer_X10_trySigned : GoodIn wsX10_offer (wsV RX10 176 RX10 yX10_trySigned wsX10_trySigned) := goodIn_app (goodIn_of _ (by decide +kernel)) ggX10_offer_X10_trySigned
theorem bX10_offer_0 : decode cX10_offer 0 = .ok (.aload_n 0, 1) ∧ decode cX10_offer 1 = .ok (.iload_n 1, 1) ∧ decode cX10_offer 2 = .ok (.iconst 1, 1) ∧ decode cX10_offer 3 = .ok (.bipush 60, 2) ∧ decode cX10_offer 5 = .ok (.invokestatic 107, 3) ∧ decode cX10_offer 8 = .ok (.ifCond .eq 16, 3) ∧ decode cX10_offer 11 = .ok (.iload_n 2, 1) ∧ decode cX10_offer 12 = .ok (.iconst 0, 1) ∧ decode cX10_offer 13 = .ok (.iconst 3, 1) ∧ decode cX10_offer 14 = .ok (.invokestatic 107, 3) ∧ decode cX10_offer 17 = .ok (.ifCond .eq 7, 3) ∧ decode cX10_offer 20 = .ok (.iconst 1, 1) ∧ decode cX10_offer 21 = .ok (.goto 4, 3) ∧ decode cX10_offer 24 = .ok (.iconst 0, 1) ∧ decode cX10_offer 25 = .ok (.invokevirtual 81, 3) ∧ decode cX10_offer 28 = .ok (.iconst 0, 1) := by decide +kernel
def dX10_offer_0 := bX10_offer_0.1
def dX10_offer_1 := bX10_offer_0.2.1
def dX10_offer_2 := bX10_offer_0.2.2.1
def dX10_offer_3 := bX10_offer_0.2.2.2.1
def dX10_offer_5 := bX10_offer_0.2.2.2.2.1
def dX10_offer_8 := bX10_offer_0.2.2.2.2.2.1
def dX10_offer_11 := bX10_offer_0.2.2.2.2.2.2.1
def dX10_offer_12 := bX10_offer_0.2.2.2.2.2.2.2.1
def dX10_offer_13 := bX10_offer_0.2.2.2.2.2.2.2.2.1
def dX10_offer_14 := bX10_offer_0.2.2.2.2.2.2.2.2.2.1
def dX10_offer_17 := bX10_offer_0.2.2.2.2.2.2.2.2.2.2.1
def dX10_offer_20 := bX10_offer_0.2.2.2.2.2.2.2.2.2.2.2.1
def dX10_offer_21 := bX10_offer_0.2.2.2.2.2.2.2.2.2.2.2.2.1
def dX10_offer_24 := bX10_offer_0.2.2.2.2.2.2.2.2.2.2.2.2.2.1
def dX10_offer_25 := bX10_offer_0.2.2.2.2.2.2.2.2.2.2.2.2.2.2.1
def dX10_offer_28 := bX10_offer_0.2.2.2.2.2.2.2.2.2.2.2.2.2.2.2
theorem bX10_offer_29 : decode cX10_offer 29 = .ok (.istore_n 3, 1) ∧ decode cX10_offer 30 = .ok (.iconst 0, 1) ∧ decode cX10_offer 31 = .ok (.istore 4, 2) ∧ decode cX10_offer 33 = .ok (.iconst (-1), 1) ∧ decode cX10_offer 34 = .ok (.istore 5, 2) ∧ decode cX10_offer 36 = .ok (.iconst 0, 1) ∧ decode cX10_offer 37 = .ok (.istore 6, 2) ∧ decode cX10_offer 39 = .ok (.iload 6, 2) ∧ decode cX10_offer 41 = .ok (.bipush 9, 2) ∧ decode cX10_offer 43 = .ok (.if_icmp .gt 78, 3) ∧ decode cX10_offer 46 = .ok (.iconst 0, 1) ∧ decode cX10_offer 47 = .ok (.istore 7, 2) ∧ decode cX10_offer 49 = .ok (.iload 7, 2) ∧ decode cX10_offer 51 = .ok (.bipush 20, 2) ∧ decode cX10_offer 53 = .ok (.if_icmp .gt 62, 3) ∧ decode cX10_offer 56 = .ok (.aload_n 0, 1) := by decide +kernel
def dX10_offer_29 := bX10_offer_29.1
def dX10_offer_30 := bX10_offer_29.2.1
def dX10_offer_31 := bX10_offer_29.2.2.1
def dX10_offer_33 := bX10_offer_29.2.2.2.1
def dX10_offer_34 := bX10_offer_29.2.2.2.2.1
def dX10_offer_36 := bX10_offer_29.2.2.2.2.2.1
def dX10_offer_37 := bX10_offer_29.2.2.2.2.2.2.1
def dX10_offer_39 := bX10_offer_29.2.2.2.2.2.2.2.1
def dX10_offer_41 := bX10_offer_29.2.2.2.2.2.2.2.2.1
def dX10_offer_43 := bX10_offer_29.2.2.2.2.2.2.2.2.2.1
def dX10_offer_46 := bX10_offer_29.2.2.2.2.2.2.2.2.2.2.1
def dX10_offer_47 := bX10_offer_29.2.2.2.2.2.2.2.2.2.2.2.1
def dX10_offer_49 := bX10_offer_29.2.2.2.2.2.2.2.2.2.2.2.2.1
def dX10_offer_51 := bX10_offer_29.2.2.2.2.2.2.2.2.2.2.2.2.2.1
def dX10_offer_53 := bX10_offer_29.2.2.2.2.2.2.2.2.2.2.2.2.2.2.1
def dX10_offer_56 := bX10_offer_29.2.2.2.2.2.2.2.2.2.2.2.2.2.2.2
theorem bX10_offer_57 : decode cX10_offer 57 = .ok (.getfield 32, 3) ∧ decode cX10_offer 60 = .ok (.bipush 6, 2) ∧ decode cX10_offer 62 = .ok (.aaload, 1) ∧ decode cX10_offer 63 = .ok (.aload_n 0, 1) ∧ decode cX10_offer 64 = .ok (.getfield 23, 3) ∧ decode cX10_offer 67 = .ok (.iload 6, 2) ∧ decode cX10_offer 69 = .ok (.iload 7, 2) ∧ decode cX10_offer 71 = .ok (.invokevirtual 133, 3) ∧ decode cX10_offer 74 = .ok (.iload 6, 2) ∧ decode cX10_offer 76 = .ok (.iload 7, 2) ∧ decode cX10_offer 78 = .ok (.iload_n 1, 1) ∧ decode cX10_offer 79 = .ok (.invokevirtual 179, 3) ∧ decode cX10_offer 82 = .ok (.aload_n 0, 1) ∧ decode cX10_offer 83 = .ok (.bipush 6, 2) ∧ decode cX10_offer 85 = .ok (.iload_n 1, 1) ∧ decode cX10_offer 86 = .ok (.invokevirtual 176, 3) := by decide +kernel
def dX10_offer_57 := bX10_offer_57.1
def dX10_offer_60 := bX10_offer_57.2.1
def dX10_offer_62 := bX10_offer_57.2.2.1
def dX10_offer_63 := bX10_offer_57.2.2.2.1
def dX10_offer_64 := bX10_offer_57.2.2.2.2.1
def dX10_offer_67 := bX10_offer_57.2.2.2.2.2.1
def dX10_offer_69 := bX10_offer_57.2.2.2.2.2.2.1
def dX10_offer_71 := bX10_offer_57.2.2.2.2.2.2.2.1
def dX10_offer_74 := bX10_offer_57.2.2.2.2.2.2.2.2.1
def dX10_offer_76 := bX10_offer_57.2.2.2.2.2.2.2.2.2.1
def dX10_offer_78 := bX10_offer_57.2.2.2.2.2.2.2.2.2.2.1
def dX10_offer_79 := bX10_offer_57.2.2.2.2.2.2.2.2.2.2.2.1
def dX10_offer_82 := bX10_offer_57.2.2.2.2.2.2.2.2.2.2.2.2.1
def dX10_offer_83 := bX10_offer_57.2.2.2.2.2.2.2.2.2.2.2.2.2.1
def dX10_offer_85 := bX10_offer_57.2.2.2.2.2.2.2.2.2.2.2.2.2.2.1
def dX10_offer_86 := bX10_offer_57.2.2.2.2.2.2.2.2.2.2.2.2.2.2.2
theorem bX10_offer_89 : decode cX10_offer 89 = .ok (.istore 8, 2) ∧ decode cX10_offer 91 = .ok (.iload 8, 2) ∧ decode cX10_offer 93 = .ok (.iload 5, 2) ∧ decode cX10_offer 95 = .ok (.if_icmp .le 14, 3) ∧ decode cX10_offer 98 = .ok (.iload 8, 2) ∧ decode cX10_offer 100 = .ok (.istore 5, 2) ∧ decode cX10_offer 102 = .ok (.iload 6, 2) ∧ decode cX10_offer 104 = .ok (.istore_n 3, 1) ∧ decode cX10_offer 105 = .ok (.iload 7, 2) ∧ decode cX10_offer 107 = .ok (.istore 4, 2) ∧ decode cX10_offer 109 = .ok (.iinc 7 1, 3) ∧ decode cX10_offer 112 = .ok (.goto (-63), 3) ∧ decode cX10_offer 115 = .ok (.iinc 6 1, 3) ∧ decode cX10_offer 118 = .ok (.goto (-79), 3) ∧ decode cX10_offer 121 = .ok (.iload_n 2, 1) ∧ decode cX10_offer 122 = .ok (.tableswitch 42 0 2 #[26, 28, 31], 26) := by decide +kernel
def dX10_offer_89 := bX10_offer_89.1
def dX10_offer_91 := bX10_offer_89.2.1
def dX10_offer_93 := bX10_offer_89.2.2.1
def dX10_offer_95 := bX10_offer_89.2.2.2.1
def dX10_offer_98 := bX10_offer_89.2.2.2.2.1
def dX10_offer_100 := bX10_offer_89.2.2.2.2.2.1
def dX10_offer_102 := bX10_offer_89.2.2.2.2.2.2.1
def dX10_offer_104 := bX10_offer_89.2.2.2.2.2.2.2.1
def dX10_offer_105 := bX10_offer_89.2.2.2.2.2.2.2.2.1
def dX10_offer_107 := bX10_offer_89.2.2.2.2.2.2.2.2.2.1
def dX10_offer_109 := bX10_offer_89.2.2.2.2.2.2.2.2.2.2.1
def dX10_offer_112 := bX10_offer_89.2.2.2.2.2.2.2.2.2.2.2.1
def dX10_offer_115 := bX10_offer_89.2.2.2.2.2.2.2.2.2.2.2.2.1
def dX10_offer_118 := bX10_offer_89.2.2.2.2.2.2.2.2.2.2.2.2.2.1
def dX10_offer_121 := bX10_offer_89.2.2.2.2.2.2.2.2.2.2.2.2.2.2.1
def dX10_offer_122 := bX10_offer_89.2.2.2.2.2.2.2.2.2.2.2.2.2.2.2
theorem bX10_offer_148 : decode cX10_offer 148 = .ok (.iload_n 3, 1) ∧ decode cX10_offer 149 = .ok (.ireturn, 1) ∧ decode cX10_offer 150 = .ok (.iload 4, 2) ∧ decode cX10_offer 152 = .ok (.ireturn, 1) ∧ decode cX10_offer 153 = .ok (.aload_n 0, 1) ∧ decode cX10_offer 154 = .ok (.getfield 23, 3) ∧ decode cX10_offer 157 = .ok (.iload_n 3, 1) ∧ decode cX10_offer 158 = .ok (.iload 4, 2) ∧ decode cX10_offer 160 = .ok (.invokevirtual 133, 3) ∧ decode cX10_offer 163 = .ok (.ireturn, 1) ∧ decode cX10_offer 164 = .ok (.iload 5, 2) ∧ decode cX10_offer 166 = .ok (.ireturn, 1) := by decide +kernel
def dX10_offer_148 := bX10_offer_148.1
def dX10_offer_149 := bX10_offer_148.2.1
def dX10_offer_150 := bX10_offer_148.2.2.1
def dX10_offer_152 := bX10_offer_148.2.2.2.1
def dX10_offer_153 := bX10_offer_148.2.2.2.2.1
def dX10_offer_154 := bX10_offer_148.2.2.2.2.2.1
def dX10_offer_157 := bX10_offer_148.2.2.2.2.2.2.1
def dX10_offer_158 := bX10_offer_148.2.2.2.2.2.2.2.1
def dX10_offer_160 := bX10_offer_148.2.2.2.2.2.2.2.2.1
def dX10_offer_163 := bX10_offer_148.2.2.2.2.2.2.2.2.2.1
def dX10_offer_164 := bX10_offer_148.2.2.2.2.2.2.2.2.2.2.1
def dX10_offer_166 := bX10_offer_148.2.2.2.2.2.2.2.2.2.2.2
theorem ggX10_nearest_X10_within : GoodIn wsX10_nearest wsX10_within := gW_in gwX10_within (fun _ h => List.mem_cons_of_mem _ (List.mem_append_right _ (List.mem_append_right _ (List.mem_append_right _ (List.mem_append_left _ h)))))
set_option maxRecDepth 20000 in
theorem gX10_nearest_X10_within : GoodIn wsX10_nearest (va_wsS RX10 107 yX10_within wsX10_within) := goodIn_app (goodIn_of _ (by decide +kernel)) ggX10_nearest_X10_within
theorem ggX10_nearest_X10_demand : GoodIn wsX10_nearest wsX10_demand := gW_in gwX10_demand (fun _ h => List.mem_cons_of_mem _ (List.mem_append_right _ (List.mem_append_right _ (List.mem_append_right _ (List.mem_append_right _ (List.mem_append_left _ h))))))
set_option maxRecDepth 20000 in
theorem gX10_nearest_X10_demand : GoodIn wsX10_nearest (wsV RX10 81 RX10 yX10_demand wsX10_demand) := goodIn_app (goodIn_of _ (by decide +kernel)) ggX10_nearest_X10_demand
theorem ggX10_nearest_X6_wanted : GoodIn wsX10_nearest wsX6_wanted := gW_in gwX6_wanted (fun _ h => List.mem_cons_of_mem _ (List.mem_append_right _ (List.mem_append_right _ (List.mem_append_right _ (List.mem_append_right _ (List.mem_append_right _ (h)))))))
set_option maxRecDepth 20000 in
theorem gX10_nearest_X6_wanted : GoodIn wsX10_nearest (wsV RX10 133 RX6 yX6_wanted wsX6_wanted) := goodIn_app (goodIn_of _ (by decide +kernel)) ggX10_nearest_X6_wanted
theorem bX10_nearest_0 : decode cX10_nearest 0 = .ok (.aload_n 0, 1) ∧ decode cX10_nearest 1 = .ok (.iload_n 1, 1) ∧ decode cX10_nearest 2 = .ok (.iconst 0, 1) ∧ decode cX10_nearest 3 = .ok (.sipush 9999, 3) ∧ decode cX10_nearest 6 = .ok (.invokestatic 107, 3) ∧ decode cX10_nearest 9 = .ok (.ifCond .eq 17, 3) ∧ decode cX10_nearest 12 = .ok (.iload_n 2, 1) ∧ decode cX10_nearest 13 = .ok (.iconst 0, 1) ∧ decode cX10_nearest 14 = .ok (.bipush 99, 2) ∧ decode cX10_nearest 16 = .ok (.invokestatic 107, 3) ∧ decode cX10_nearest 19 = .ok (.ifCond .eq 7, 3) ∧ decode cX10_nearest 22 = .ok (.iconst 1, 1) ∧ decode cX10_nearest 23 = .ok (.goto 4, 3) ∧ decode cX10_nearest 26 = .ok (.iconst 0, 1) ∧ decode cX10_nearest 27 = .ok (.invokevirtual 81, 3) ∧ decode cX10_nearest 30 = .ok (.iconst 0, 1) := by decide +kernel
def dX10_nearest_0 := bX10_nearest_0.1
def dX10_nearest_1 := bX10_nearest_0.2.1
def dX10_nearest_2 := bX10_nearest_0.2.2.1
def dX10_nearest_3 := bX10_nearest_0.2.2.2.1
def dX10_nearest_6 := bX10_nearest_0.2.2.2.2.1
def dX10_nearest_9 := bX10_nearest_0.2.2.2.2.2.1
def dX10_nearest_12 := bX10_nearest_0.2.2.2.2.2.2.1
def dX10_nearest_13 := bX10_nearest_0.2.2.2.2.2.2.2.1
def dX10_nearest_14 := bX10_nearest_0.2.2.2.2.2.2.2.2.1
def dX10_nearest_16 := bX10_nearest_0.2.2.2.2.2.2.2.2.2.1
def dX10_nearest_19 := bX10_nearest_0.2.2.2.2.2.2.2.2.2.2.1
def dX10_nearest_22 := bX10_nearest_0.2.2.2.2.2.2.2.2.2.2.2.1
def dX10_nearest_23 := bX10_nearest_0.2.2.2.2.2.2.2.2.2.2.2.2.1
def dX10_nearest_26 := bX10_nearest_0.2.2.2.2.2.2.2.2.2.2.2.2.2.1
def dX10_nearest_27 := bX10_nearest_0.2.2.2.2.2.2.2.2.2.2.2.2.2.2.1
def dX10_nearest_30 := bX10_nearest_0.2.2.2.2.2.2.2.2.2.2.2.2.2.2.2
theorem bX10_nearest_31 : decode cX10_nearest 31 = .ok (.istore_n 3, 1) ∧ decode cX10_nearest 32 = .ok (.iload_n 3, 1) ∧ decode cX10_nearest 33 = .ok (.bipush 9, 2) ∧ decode cX10_nearest 35 = .ok (.if_icmp .gt 24, 3) ∧ decode cX10_nearest 38 = .ok (.aload_n 0, 1) ∧ decode cX10_nearest 39 = .ok (.getfield 23, 3) ∧ decode cX10_nearest 42 = .ok (.iload_n 3, 1) ∧ decode cX10_nearest 43 = .ok (.iload_n 2, 1) ∧ decode cX10_nearest 44 = .ok (.invokevirtual 133, 3) ∧ decode cX10_nearest 47 = .ok (.iload_n 1, 1) ∧ decode cX10_nearest 48 = .ok (.if_icmp .gt 5, 3) ∧ decode cX10_nearest 51 = .ok (.iload_n 3, 1) ∧ decode cX10_nearest 52 = .ok (.ireturn, 1) ∧ decode cX10_nearest 53 = .ok (.iinc 3 1, 3) ∧ decode cX10_nearest 56 = .ok (.goto (-24), 3) ∧ decode cX10_nearest 59 = .ok (.iconst (-1), 1) := by decide +kernel
def dX10_nearest_31 := bX10_nearest_31.1
def dX10_nearest_32 := bX10_nearest_31.2.1
def dX10_nearest_33 := bX10_nearest_31.2.2.1
def dX10_nearest_35 := bX10_nearest_31.2.2.2.1
def dX10_nearest_38 := bX10_nearest_31.2.2.2.2.1
def dX10_nearest_39 := bX10_nearest_31.2.2.2.2.2.1
def dX10_nearest_42 := bX10_nearest_31.2.2.2.2.2.2.1
def dX10_nearest_43 := bX10_nearest_31.2.2.2.2.2.2.2.1
def dX10_nearest_44 := bX10_nearest_31.2.2.2.2.2.2.2.2.1
def dX10_nearest_47 := bX10_nearest_31.2.2.2.2.2.2.2.2.2.1
def dX10_nearest_48 := bX10_nearest_31.2.2.2.2.2.2.2.2.2.2.1
def dX10_nearest_51 := bX10_nearest_31.2.2.2.2.2.2.2.2.2.2.2.1
def dX10_nearest_52 := bX10_nearest_31.2.2.2.2.2.2.2.2.2.2.2.2.1
def dX10_nearest_53 := bX10_nearest_31.2.2.2.2.2.2.2.2.2.2.2.2.2.1
def dX10_nearest_56 := bX10_nearest_31.2.2.2.2.2.2.2.2.2.2.2.2.2.2.1
def dX10_nearest_59 := bX10_nearest_31.2.2.2.2.2.2.2.2.2.2.2.2.2.2.2
theorem dX10_nearest_60 : decode cX10_nearest 60 = .ok (.ireturn, 1) := by decide +kernel
theorem ggX10_stop_X10_within : GoodIn wsX10_stop wsX10_within := gW_in gwX10_within (fun _ h => List.mem_cons_of_mem _ (List.mem_append_right _ (List.mem_append_right _ (List.mem_append_right _ (List.mem_append_right _ (List.mem_append_right _ (List.mem_append_right _ (List.mem_append_left _ h))))))))
set_option maxRecDepth 20000 in
theorem gX10_stop_X10_within : GoodIn wsX10_stop (va_wsS RX10 107 yX10_within wsX10_within) := goodIn_app (goodIn_of _ (by decide +kernel)) ggX10_stop_X10_within
theorem ggX10_stop_X10_demand : GoodIn wsX10_stop wsX10_demand := gW_in gwX10_demand (fun _ h => List.mem_cons_of_mem _ (List.mem_append_right _ (List.mem_append_right _ (List.mem_append_right _ (List.mem_append_right _ (List.mem_append_right _ (List.mem_append_right _ (List.mem_append_right _ (List.mem_append_left _ h)))))))))
set_option maxRecDepth 20000 in
theorem gX10_stop_X10_demand : GoodIn wsX10_stop (wsV RX10 81 RX10 yX10_demand wsX10_demand) := goodIn_app (goodIn_of _ (by decide +kernel)) ggX10_stop_X10_demand
theorem ggX10_stop_X4_take : GoodIn wsX10_stop wsX4_take := gW_in gwX4_take (fun _ h => List.mem_cons_of_mem _ (List.mem_append_right _ (List.mem_append_right _ (List.mem_append_right _ (List.mem_append_right _ (List.mem_append_right _ (List.mem_append_right _ (List.mem_append_right _ (List.mem_append_right _ (List.mem_append_left _ h))))))))))
set_option maxRecDepth 20000 in
theorem gX10_stop_X4_take : GoodIn wsX10_stop (wsV RX10 183 RX4 yX4_take wsX4_take) := goodIn_app (goodIn_of _ (by decide +kernel)) ggX10_stop_X4_take
theorem ggX10_stop_X10_passTried : GoodIn wsX10_stop wsX10_passTried := gW_in gwX10_passTried (fun _ h => List.mem_cons_of_mem _ (List.mem_append_right _ (List.mem_append_right _ (List.mem_append_right _ (List.mem_append_right _ (List.mem_append_right _ (List.mem_append_right _ (List.mem_append_right _ (List.mem_append_right _ (List.mem_append_right _ (List.mem_append_left _ h)))))))))))
set_option maxRecDepth 20000 in
theorem gX10_stop_X10_passTried : GoodIn wsX10_stop (wsV RX10 186 RX10 yX10_passTried wsX10_passTried) := goodIn_app (goodIn_of _ (by decide +kernel)) ggX10_stop_X10_passTried
theorem ggX10_stop_X4_pledge : GoodIn wsX10_stop wsX4_pledge := gW_in gwX4_pledge (fun _ h => List.mem_cons_of_mem _ (List.mem_append_right _ (List.mem_append_right _ (List.mem_append_right _ (List.mem_append_right _ (List.mem_append_right _ (List.mem_append_right _ (List.mem_append_right _ (List.mem_append_right _ (List.mem_append_right _ (List.mem_append_right _ (h))))))))))))
set_option maxRecDepth 20000 in
theorem gX10_stop_X4_pledge : GoodIn wsX10_stop (wsV RX10 140 RX4 yX4_pledge wsX4_pledge) := goodIn_app (goodIn_of _ (by decide +kernel)) ggX10_stop_X4_pledge
theorem bX10_stop_0 : decode cX10_stop 0 = .ok (.aload_n 0, 1) ∧ decode cX10_stop 1 = .ok (.iload_n 1, 1) ∧ decode cX10_stop 2 = .ok (.iconst 1, 1) ∧ decode cX10_stop 3 = .ok (.bipush 60, 2) ∧ decode cX10_stop 5 = .ok (.invokestatic 107, 3) ∧ decode cX10_stop 8 = .ok (.ifCond .eq 16, 3) ∧ decode cX10_stop 11 = .ok (.iload_n 2, 1) ∧ decode cX10_stop 12 = .ok (.iconst 0, 1) ∧ decode cX10_stop 13 = .ok (.iconst 1, 1) ∧ decode cX10_stop 14 = .ok (.invokestatic 107, 3) ∧ decode cX10_stop 17 = .ok (.ifCond .eq 7, 3) ∧ decode cX10_stop 20 = .ok (.iconst 1, 1) ∧ decode cX10_stop 21 = .ok (.goto 4, 3) ∧ decode cX10_stop 24 = .ok (.iconst 0, 1) ∧ decode cX10_stop 25 = .ok (.invokevirtual 81, 3) ∧ decode cX10_stop 28 = .ok (.iconst 0, 1) := by decide +kernel
def dX10_stop_0 := bX10_stop_0.1
def dX10_stop_1 := bX10_stop_0.2.1
def dX10_stop_2 := bX10_stop_0.2.2.1
def dX10_stop_3 := bX10_stop_0.2.2.2.1
def dX10_stop_5 := bX10_stop_0.2.2.2.2.1
def dX10_stop_8 := bX10_stop_0.2.2.2.2.2.1
def dX10_stop_11 := bX10_stop_0.2.2.2.2.2.2.1
def dX10_stop_12 := bX10_stop_0.2.2.2.2.2.2.2.1
def dX10_stop_13 := bX10_stop_0.2.2.2.2.2.2.2.2.1
def dX10_stop_14 := bX10_stop_0.2.2.2.2.2.2.2.2.2.1
def dX10_stop_17 := bX10_stop_0.2.2.2.2.2.2.2.2.2.2.1
def dX10_stop_20 := bX10_stop_0.2.2.2.2.2.2.2.2.2.2.2.1
def dX10_stop_21 := bX10_stop_0.2.2.2.2.2.2.2.2.2.2.2.2.1
def dX10_stop_24 := bX10_stop_0.2.2.2.2.2.2.2.2.2.2.2.2.2.1
def dX10_stop_25 := bX10_stop_0.2.2.2.2.2.2.2.2.2.2.2.2.2.2.1
def dX10_stop_28 := bX10_stop_0.2.2.2.2.2.2.2.2.2.2.2.2.2.2.2
theorem bX10_stop_29 : decode cX10_stop 29 = .ok (.istore_n 3, 1) ∧ decode cX10_stop 30 = .ok (.iconst (-1), 1) ∧ decode cX10_stop 31 = .ok (.istore 4, 2) ∧ decode cX10_stop 33 = .ok (.iconst 0, 1) ∧ decode cX10_stop 34 = .ok (.istore 5, 2) ∧ decode cX10_stop 36 = .ok (.iload 5, 2) ∧ decode cX10_stop 38 = .ok (.iload_n 1, 1) ∧ decode cX10_stop 39 = .ok (.if_icmp .gt 73, 3) ∧ decode cX10_stop 42 = .ok (.aload_n 0, 1) ∧ decode cX10_stop 43 = .ok (.getfield 50, 3) ∧ decode cX10_stop 46 = .ok (.aload_n 0, 1) ∧ decode cX10_stop 47 = .ok (.getfield 39, 3) ∧ decode cX10_stop 50 = .ok (.getfield 66, 3) ∧ decode cX10_stop 53 = .ok (.invokevirtual 183, 3) ∧ decode cX10_stop 56 = .ok (.aload_n 0, 1) ∧ decode cX10_stop 57 = .ok (.iload 5, 2) := by decide +kernel
def dX10_stop_29 := bX10_stop_29.1
def dX10_stop_30 := bX10_stop_29.2.1
def dX10_stop_31 := bX10_stop_29.2.2.1
def dX10_stop_33 := bX10_stop_29.2.2.2.1
def dX10_stop_34 := bX10_stop_29.2.2.2.2.1
def dX10_stop_36 := bX10_stop_29.2.2.2.2.2.1
def dX10_stop_38 := bX10_stop_29.2.2.2.2.2.2.1
def dX10_stop_39 := bX10_stop_29.2.2.2.2.2.2.2.1
def dX10_stop_42 := bX10_stop_29.2.2.2.2.2.2.2.2.1
def dX10_stop_43 := bX10_stop_29.2.2.2.2.2.2.2.2.2.1
def dX10_stop_46 := bX10_stop_29.2.2.2.2.2.2.2.2.2.2.1
def dX10_stop_47 := bX10_stop_29.2.2.2.2.2.2.2.2.2.2.2.1
def dX10_stop_50 := bX10_stop_29.2.2.2.2.2.2.2.2.2.2.2.2.1
def dX10_stop_53 := bX10_stop_29.2.2.2.2.2.2.2.2.2.2.2.2.2.1
def dX10_stop_56 := bX10_stop_29.2.2.2.2.2.2.2.2.2.2.2.2.2.2.1
def dX10_stop_57 := bX10_stop_29.2.2.2.2.2.2.2.2.2.2.2.2.2.2.2
theorem bX10_stop_59 : decode cX10_stop 59 = .ok (.invokevirtual 186, 3) ∧ decode cX10_stop 62 = .ok (.aload_n 0, 1) ∧ decode cX10_stop 63 = .ok (.getfield 50, 3) ∧ decode cX10_stop 66 = .ok (.iconst (-1), 1) ∧ decode cX10_stop 67 = .ok (.invokevirtual 140, 3) ∧ decode cX10_stop 70 = .ok (.aload_n 0, 1) ∧ decode cX10_stop 71 = .ok (.iload_n 1, 1) ∧ decode cX10_stop 72 = .ok (.iload 5, 2) ∧ decode cX10_stop 74 = .ok (.isub, 1) ∧ decode cX10_stop 75 = .ok (.invokevirtual 186, 3) ∧ decode cX10_stop 78 = .ok (.aload_n 0, 1) ∧ decode cX10_stop 79 = .ok (.getfield 50, 3) ∧ decode cX10_stop 82 = .ok (.getfield 111, 3) ∧ decode cX10_stop 85 = .ok (.iconst 0, 1) ∧ decode cX10_stop 86 = .ok (.iaload, 1) ∧ decode cX10_stop 87 = .ok (.iload 4, 2) := by decide +kernel
def dX10_stop_59 := bX10_stop_59.1
def dX10_stop_62 := bX10_stop_59.2.1
def dX10_stop_63 := bX10_stop_59.2.2.1
def dX10_stop_66 := bX10_stop_59.2.2.2.1
def dX10_stop_67 := bX10_stop_59.2.2.2.2.1
def dX10_stop_70 := bX10_stop_59.2.2.2.2.2.1
def dX10_stop_71 := bX10_stop_59.2.2.2.2.2.2.1
def dX10_stop_72 := bX10_stop_59.2.2.2.2.2.2.2.1
def dX10_stop_74 := bX10_stop_59.2.2.2.2.2.2.2.2.1
def dX10_stop_75 := bX10_stop_59.2.2.2.2.2.2.2.2.2.1
def dX10_stop_78 := bX10_stop_59.2.2.2.2.2.2.2.2.2.2.1
def dX10_stop_79 := bX10_stop_59.2.2.2.2.2.2.2.2.2.2.2.1
def dX10_stop_82 := bX10_stop_59.2.2.2.2.2.2.2.2.2.2.2.2.1
def dX10_stop_85 := bX10_stop_59.2.2.2.2.2.2.2.2.2.2.2.2.2.1
def dX10_stop_86 := bX10_stop_59.2.2.2.2.2.2.2.2.2.2.2.2.2.2.1
def dX10_stop_87 := bX10_stop_59.2.2.2.2.2.2.2.2.2.2.2.2.2.2.2
theorem bX10_stop_89 : decode cX10_stop 89 = .ok (.if_icmp .le 17, 3) ∧ decode cX10_stop 92 = .ok (.aload_n 0, 1) ∧ decode cX10_stop 93 = .ok (.getfield 50, 3) ∧ decode cX10_stop 96 = .ok (.getfield 111, 3) ∧ decode cX10_stop 99 = .ok (.iconst 0, 1) ∧ decode cX10_stop 100 = .ok (.iaload, 1) ∧ decode cX10_stop 101 = .ok (.istore 4, 2) ∧ decode cX10_stop 103 = .ok (.iload 5, 2) ∧ decode cX10_stop 105 = .ok (.istore_n 3, 1) ∧ decode cX10_stop 106 = .ok (.iinc 5 1, 3) ∧ decode cX10_stop 109 = .ok (.goto (-73), 3) ∧ decode cX10_stop 112 = .ok (.iload_n 2, 1) ∧ decode cX10_stop 113 = .ok (.ifCond .ne 7, 3) ∧ decode cX10_stop 116 = .ok (.iload_n 3, 1) ∧ decode cX10_stop 117 = .ok (.goto 5, 3) ∧ decode cX10_stop 120 = .ok (.iload 4, 2) := by decide +kernel
def dX10_stop_89 := bX10_stop_89.1
def dX10_stop_92 := bX10_stop_89.2.1
def dX10_stop_93 := bX10_stop_89.2.2.1
def dX10_stop_96 := bX10_stop_89.2.2.2.1
def dX10_stop_99 := bX10_stop_89.2.2.2.2.1
def dX10_stop_100 := bX10_stop_89.2.2.2.2.2.1
def dX10_stop_101 := bX10_stop_89.2.2.2.2.2.2.1
def dX10_stop_103 := bX10_stop_89.2.2.2.2.2.2.2.1
def dX10_stop_105 := bX10_stop_89.2.2.2.2.2.2.2.2.1
def dX10_stop_106 := bX10_stop_89.2.2.2.2.2.2.2.2.2.1
def dX10_stop_109 := bX10_stop_89.2.2.2.2.2.2.2.2.2.2.1
def dX10_stop_112 := bX10_stop_89.2.2.2.2.2.2.2.2.2.2.2.1
def dX10_stop_113 := bX10_stop_89.2.2.2.2.2.2.2.2.2.2.2.2.1
def dX10_stop_116 := bX10_stop_89.2.2.2.2.2.2.2.2.2.2.2.2.2.1
def dX10_stop_117 := bX10_stop_89.2.2.2.2.2.2.2.2.2.2.2.2.2.2.1
def dX10_stop_120 := bX10_stop_89.2.2.2.2.2.2.2.2.2.2.2.2.2.2.2
theorem dX10_stop_122 : decode cX10_stop 122 = .ok (.ireturn, 1) := by decide +kernel
theorem ggX10_odds_X10_within : GoodIn wsX10_odds wsX10_within := gW_in gwX10_within (fun _ h => List.mem_cons_of_mem _ (List.mem_append_right _ (List.mem_append_right _ (List.mem_append_right _ (List.mem_append_right _ (List.mem_append_left _ h))))))
set_option maxRecDepth 20000 in
theorem gX10_odds_X10_within : GoodIn wsX10_odds (va_wsS RX10 107 yX10_within wsX10_within) := goodIn_app (goodIn_of _ (by decide +kernel)) ggX10_odds_X10_within
theorem ggX10_odds_X10_demand : GoodIn wsX10_odds wsX10_demand := gW_in gwX10_demand (fun _ h => List.mem_cons_of_mem _ (List.mem_append_right _ (List.mem_append_right _ (List.mem_append_right _ (List.mem_append_right _ (List.mem_append_right _ (List.mem_append_left _ h)))))))
set_option maxRecDepth 20000 in
theorem gX10_odds_X10_demand : GoodIn wsX10_odds (wsV RX10 81 RX10 yX10_demand wsX10_demand) := goodIn_app (goodIn_of _ (by decide +kernel)) ggX10_odds_X10_demand
theorem ggX10_odds_X2_start : GoodIn wsX10_odds wsX2_start := gW_in gwX2_start (fun _ h => List.mem_cons_of_mem _ (List.mem_append_right _ (List.mem_append_right _ (List.mem_append_right _ (List.mem_append_right _ (List.mem_append_right _ (List.mem_append_right _ (h))))))))
set_option maxRecDepth 20000 in
theorem gX10_odds_X2_start : GoodIn wsX10_odds (wsV RX10 193 RX2 yX2_start wsX2_start) := goodIn_app (goodIn_of _ (by decide +kernel)) ggX10_odds_X2_start
theorem bX10_odds_0 : decode cX10_odds 0 = .ok (.aload_n 0, 1) ∧ decode cX10_odds 1 = .ok (.iload_n 1, 1) ∧ decode cX10_odds 2 = .ok (.iconst 1, 1) ∧ decode cX10_odds 3 = .ok (.bipush 99, 2) ∧ decode cX10_odds 5 = .ok (.invokestatic 107, 3) ∧ decode cX10_odds 8 = .ok (.ifCond .eq 17, 3) ∧ decode cX10_odds 11 = .ok (.iload_n 2, 1) ∧ decode cX10_odds 12 = .ok (.iconst 1, 1) ∧ decode cX10_odds 13 = .ok (.bipush 99, 2) ∧ decode cX10_odds 15 = .ok (.invokestatic 107, 3) ∧ decode cX10_odds 18 = .ok (.ifCond .eq 7, 3) ∧ decode cX10_odds 21 = .ok (.iconst 1, 1) ∧ decode cX10_odds 22 = .ok (.goto 4, 3) ∧ decode cX10_odds 25 = .ok (.iconst 0, 1) ∧ decode cX10_odds 26 = .ok (.invokevirtual 81, 3) ∧ decode cX10_odds 29 = .ok (.aload_n 0, 1) := by decide +kernel
def dX10_odds_0 := bX10_odds_0.1
def dX10_odds_1 := bX10_odds_0.2.1
def dX10_odds_2 := bX10_odds_0.2.2.1
def dX10_odds_3 := bX10_odds_0.2.2.2.1
def dX10_odds_5 := bX10_odds_0.2.2.2.2.1
def dX10_odds_8 := bX10_odds_0.2.2.2.2.2.1
def dX10_odds_11 := bX10_odds_0.2.2.2.2.2.2.1
def dX10_odds_12 := bX10_odds_0.2.2.2.2.2.2.2.1
def dX10_odds_13 := bX10_odds_0.2.2.2.2.2.2.2.2.1
def dX10_odds_15 := bX10_odds_0.2.2.2.2.2.2.2.2.2.1
def dX10_odds_18 := bX10_odds_0.2.2.2.2.2.2.2.2.2.2.1
def dX10_odds_21 := bX10_odds_0.2.2.2.2.2.2.2.2.2.2.2.1
def dX10_odds_22 := bX10_odds_0.2.2.2.2.2.2.2.2.2.2.2.2.1
def dX10_odds_25 := bX10_odds_0.2.2.2.2.2.2.2.2.2.2.2.2.2.1
def dX10_odds_26 := bX10_odds_0.2.2.2.2.2.2.2.2.2.2.2.2.2.2.1
def dX10_odds_29 := bX10_odds_0.2.2.2.2.2.2.2.2.2.2.2.2.2.2.2
theorem bX10_odds_30 : decode cX10_odds 30 = .ok (.getfield 39, 3) ∧ decode cX10_odds 33 = .ok (.getfield 189, 3) ∧ decode cX10_odds 36 = .ok (.iload_n 1, 1) ∧ decode cX10_odds 37 = .ok (.iload_n 2, 1) ∧ decode cX10_odds 38 = .ok (.invokevirtual 193, 3) ∧ decode cX10_odds 41 = .ok (.return_, 1) := by decide +kernel
def dX10_odds_30 := bX10_odds_30.1
def dX10_odds_33 := bX10_odds_30.2.1
def dX10_odds_36 := bX10_odds_30.2.2.1
def dX10_odds_37 := bX10_odds_30.2.2.2.1
def dX10_odds_38 := bX10_odds_30.2.2.2.2.1
def dX10_odds_41 := bX10_odds_30.2.2.2.2.2
theorem ggX10_kind_X10_within : GoodIn wsX10_kind wsX10_within := gW_in gwX10_within (fun _ h => List.mem_cons_of_mem _ (List.mem_append_right _ (List.mem_append_right _ (List.mem_append_right _ (List.mem_append_right _ (List.mem_append_left _ h))))))
set_option maxRecDepth 20000 in
theorem gX10_kind_X10_within : GoodIn wsX10_kind (va_wsS RX10 107 yX10_within wsX10_within) := goodIn_app (goodIn_of _ (by decide +kernel)) ggX10_kind_X10_within
theorem ggX10_kind_X10_demand : GoodIn wsX10_kind wsX10_demand := gW_in gwX10_demand (fun _ h => List.mem_cons_of_mem _ (List.mem_append_right _ (List.mem_append_right _ (List.mem_append_right _ (List.mem_append_right _ (List.mem_append_right _ (h)))))))
set_option maxRecDepth 20000 in
theorem gX10_kind_X10_demand : GoodIn wsX10_kind (wsV RX10 81 RX10 yX10_demand wsX10_demand) := goodIn_app (goodIn_of _ (by decide +kernel)) ggX10_kind_X10_demand
theorem bX10_kind_0 : decode cX10_kind 0 = .ok (.aload_n 0, 1) ∧ decode cX10_kind 1 = .ok (.iload_n 1, 1) ∧ decode cX10_kind 2 = .ok (.iconst 0, 1) ∧ decode cX10_kind 3 = .ok (.iconst 3, 1) ∧ decode cX10_kind 4 = .ok (.invokestatic 107, 3) ∧ decode cX10_kind 7 = .ok (.ifCond .eq 27, 3) ∧ decode cX10_kind 10 = .ok (.iload_n 2, 1) ∧ decode cX10_kind 11 = .ok (.iconst 1, 1) ∧ decode cX10_kind 12 = .ok (.bipush 16, 2) ∧ decode cX10_kind 14 = .ok (.invokestatic 107, 3) ∧ decode cX10_kind 17 = .ok (.ifCond .eq 17, 3) ∧ decode cX10_kind 20 = .ok (.iload_n 3, 1) ∧ decode cX10_kind 21 = .ok (.iconst 1, 1) ∧ decode cX10_kind 22 = .ok (.bipush 16, 2) ∧ decode cX10_kind 24 = .ok (.invokestatic 107, 3) ∧ decode cX10_kind 27 = .ok (.ifCond .eq 7, 3) := by decide +kernel
def dX10_kind_0 := bX10_kind_0.1
def dX10_kind_1 := bX10_kind_0.2.1
def dX10_kind_2 := bX10_kind_0.2.2.1
def dX10_kind_3 := bX10_kind_0.2.2.2.1
def dX10_kind_4 := bX10_kind_0.2.2.2.2.1
def dX10_kind_7 := bX10_kind_0.2.2.2.2.2.1
def dX10_kind_10 := bX10_kind_0.2.2.2.2.2.2.1
def dX10_kind_11 := bX10_kind_0.2.2.2.2.2.2.2.1
def dX10_kind_12 := bX10_kind_0.2.2.2.2.2.2.2.2.1
def dX10_kind_14 := bX10_kind_0.2.2.2.2.2.2.2.2.2.1
def dX10_kind_17 := bX10_kind_0.2.2.2.2.2.2.2.2.2.2.1
def dX10_kind_20 := bX10_kind_0.2.2.2.2.2.2.2.2.2.2.2.1
def dX10_kind_21 := bX10_kind_0.2.2.2.2.2.2.2.2.2.2.2.2.1
def dX10_kind_22 := bX10_kind_0.2.2.2.2.2.2.2.2.2.2.2.2.2.1
def dX10_kind_24 := bX10_kind_0.2.2.2.2.2.2.2.2.2.2.2.2.2.2.1
def dX10_kind_27 := bX10_kind_0.2.2.2.2.2.2.2.2.2.2.2.2.2.2.2
theorem bX10_kind_30 : decode cX10_kind 30 = .ok (.iconst 1, 1) ∧ decode cX10_kind 31 = .ok (.goto 4, 3) ∧ decode cX10_kind 34 = .ok (.iconst 0, 1) ∧ decode cX10_kind 35 = .ok (.invokevirtual 81, 3) ∧ decode cX10_kind 38 = .ok (.aload_n 0, 1) ∧ decode cX10_kind 39 = .ok (.getfield 39, 3) ∧ decode cX10_kind 42 = .ok (.getfield 189, 3) ∧ decode cX10_kind 45 = .ok (.getfield 199, 3) ∧ decode cX10_kind 48 = .ok (.iload_n 1, 1) ∧ decode cX10_kind 49 = .ok (.iload_n 2, 1) ∧ decode cX10_kind 50 = .ok (.iastore, 1) ∧ decode cX10_kind 51 = .ok (.aload_n 0, 1) ∧ decode cX10_kind 52 = .ok (.getfield 39, 3) ∧ decode cX10_kind 55 = .ok (.getfield 189, 3) ∧ decode cX10_kind 58 = .ok (.getfield 202, 3) ∧ decode cX10_kind 61 = .ok (.iload_n 1, 1) := by decide +kernel
def dX10_kind_30 := bX10_kind_30.1
def dX10_kind_31 := bX10_kind_30.2.1
def dX10_kind_34 := bX10_kind_30.2.2.1
def dX10_kind_35 := bX10_kind_30.2.2.2.1
def dX10_kind_38 := bX10_kind_30.2.2.2.2.1
def dX10_kind_39 := bX10_kind_30.2.2.2.2.2.1
def dX10_kind_42 := bX10_kind_30.2.2.2.2.2.2.1
def dX10_kind_45 := bX10_kind_30.2.2.2.2.2.2.2.1
def dX10_kind_48 := bX10_kind_30.2.2.2.2.2.2.2.2.1
def dX10_kind_49 := bX10_kind_30.2.2.2.2.2.2.2.2.2.1
def dX10_kind_50 := bX10_kind_30.2.2.2.2.2.2.2.2.2.2.1
def dX10_kind_51 := bX10_kind_30.2.2.2.2.2.2.2.2.2.2.2.1
def dX10_kind_52 := bX10_kind_30.2.2.2.2.2.2.2.2.2.2.2.2.1
def dX10_kind_55 := bX10_kind_30.2.2.2.2.2.2.2.2.2.2.2.2.2.1
def dX10_kind_58 := bX10_kind_30.2.2.2.2.2.2.2.2.2.2.2.2.2.2.1
def dX10_kind_61 := bX10_kind_30.2.2.2.2.2.2.2.2.2.2.2.2.2.2.2
theorem bX10_kind_62 : decode cX10_kind 62 = .ok (.iload_n 3, 1) ∧ decode cX10_kind 63 = .ok (.iastore, 1) ∧ decode cX10_kind 64 = .ok (.return_, 1) := by decide +kernel
def dX10_kind_62 := bX10_kind_62.1
def dX10_kind_63 := bX10_kind_62.2.1
def dX10_kind_64 := bX10_kind_62.2.2
theorem ggX10_seen_X10_within : GoodIn wsX10_seen wsX10_within := gW_in gwX10_within (fun _ h => List.mem_cons_of_mem _ (List.mem_append_right _ (List.mem_append_right _ (List.mem_append_right _ (List.mem_append_right _ (List.mem_append_left _ h))))))
set_option maxRecDepth 20000 in
theorem gX10_seen_X10_within : GoodIn wsX10_seen (va_wsS RX10 107 yX10_within wsX10_within) := goodIn_app (goodIn_of _ (by decide +kernel)) ggX10_seen_X10_within
theorem ggX10_seen_X10_demand : GoodIn wsX10_seen wsX10_demand := gW_in gwX10_demand (fun _ h => List.mem_cons_of_mem _ (List.mem_append_right _ (List.mem_append_right _ (List.mem_append_right _ (List.mem_append_right _ (List.mem_append_right _ (List.mem_append_left _ h)))))))
set_option maxRecDepth 20000 in
theorem gX10_seen_X10_demand : GoodIn wsX10_seen (wsV RX10 81 RX10 yX10_demand wsX10_demand) := goodIn_app (goodIn_of _ (by decide +kernel)) ggX10_seen_X10_demand
theorem ggX10_seen_X2_add : GoodIn wsX10_seen wsX2_add := gW_in gwX2_add (fun _ h => List.mem_cons_of_mem _ (List.mem_append_right _ (List.mem_append_right _ (List.mem_append_right _ (List.mem_append_right _ (List.mem_append_right _ (List.mem_append_right _ (h))))))))
set_option maxRecDepth 20000 in
theorem gX10_seen_X2_add : GoodIn wsX10_seen (wsV RX10 205 RX2 yX2_add wsX2_add) := goodIn_app (goodIn_of _ (by decide +kernel)) ggX10_seen_X2_add
theorem bX10_seen_0 : decode cX10_seen 0 = .ok (.aload_n 0, 1) ∧ decode cX10_seen 1 = .ok (.iload_n 1, 1) ∧ decode cX10_seen 2 = .ok (.iconst 0, 1) ∧ decode cX10_seen 3 = .ok (.iconst 3, 1) ∧ decode cX10_seen 4 = .ok (.invokestatic 107, 3) ∧ decode cX10_seen 7 = .ok (.invokevirtual 81, 3) ∧ decode cX10_seen 10 = .ok (.aload_n 0, 1) ∧ decode cX10_seen 11 = .ok (.getfield 39, 3) ∧ decode cX10_seen 14 = .ok (.getfield 189, 3) ∧ decode cX10_seen 17 = .ok (.astore_n 2, 1) ∧ decode cX10_seen 18 = .ok (.aload_n 2, 1) ∧ decode cX10_seen 19 = .ok (.aload_n 2, 1) ∧ decode cX10_seen 20 = .ok (.getfield 199, 3) ∧ decode cX10_seen 23 = .ok (.iload_n 1, 1) ∧ decode cX10_seen 24 = .ok (.iaload, 1) ∧ decode cX10_seen 25 = .ok (.aload_n 2, 1) := by decide +kernel
def dX10_seen_0 := bX10_seen_0.1
def dX10_seen_1 := bX10_seen_0.2.1
def dX10_seen_2 := bX10_seen_0.2.2.1
def dX10_seen_3 := bX10_seen_0.2.2.2.1
def dX10_seen_4 := bX10_seen_0.2.2.2.2.1
def dX10_seen_7 := bX10_seen_0.2.2.2.2.2.1
def dX10_seen_10 := bX10_seen_0.2.2.2.2.2.2.1
def dX10_seen_11 := bX10_seen_0.2.2.2.2.2.2.2.1
def dX10_seen_14 := bX10_seen_0.2.2.2.2.2.2.2.2.1
def dX10_seen_17 := bX10_seen_0.2.2.2.2.2.2.2.2.2.1
def dX10_seen_18 := bX10_seen_0.2.2.2.2.2.2.2.2.2.2.1
def dX10_seen_19 := bX10_seen_0.2.2.2.2.2.2.2.2.2.2.2.1
def dX10_seen_20 := bX10_seen_0.2.2.2.2.2.2.2.2.2.2.2.2.1
def dX10_seen_23 := bX10_seen_0.2.2.2.2.2.2.2.2.2.2.2.2.2.1
def dX10_seen_24 := bX10_seen_0.2.2.2.2.2.2.2.2.2.2.2.2.2.2.1
def dX10_seen_25 := bX10_seen_0.2.2.2.2.2.2.2.2.2.2.2.2.2.2.2
theorem bX10_seen_26 : decode cX10_seen 26 = .ok (.getfield 202, 3) ∧ decode cX10_seen 29 = .ok (.iload_n 1, 1) ∧ decode cX10_seen 30 = .ok (.iaload, 1) ∧ decode cX10_seen 31 = .ok (.invokevirtual 205, 3) ∧ decode cX10_seen 34 = .ok (.ireturn, 1) := by decide +kernel
def dX10_seen_26 := bX10_seen_26.1
def dX10_seen_29 := bX10_seen_26.2.1
def dX10_seen_30 := bX10_seen_26.2.2.1
def dX10_seen_31 := bX10_seen_26.2.2.2.1
def dX10_seen_34 := bX10_seen_26.2.2.2.2
theorem ggX10_spy_X10_within : GoodIn wsX10_spy wsX10_within := gW_in gwX10_within (fun _ h => List.mem_cons_of_mem _ (List.mem_append_right _ (List.mem_append_right _ (List.mem_append_right _ (List.mem_append_right _ (List.mem_append_left _ h))))))
set_option maxRecDepth 20000 in
theorem gX10_spy_X10_within : GoodIn wsX10_spy (va_wsS RX10 107 yX10_within wsX10_within) := goodIn_app (goodIn_of _ (by decide +kernel)) ggX10_spy_X10_within
theorem ggX10_spy_X10_demand : GoodIn wsX10_spy wsX10_demand := gW_in gwX10_demand (fun _ h => List.mem_cons_of_mem _ (List.mem_append_right _ (List.mem_append_right _ (List.mem_append_right _ (List.mem_append_right _ (List.mem_append_right _ (List.mem_append_left _ h)))))))
set_option maxRecDepth 20000 in
theorem gX10_spy_X10_demand : GoodIn wsX10_spy (wsV RX10 81 RX10 yX10_demand wsX10_demand) := goodIn_app (goodIn_of _ (by decide +kernel)) ggX10_spy_X10_demand
theorem ggX10_spy_X2_add : GoodIn wsX10_spy wsX2_add := gW_in gwX2_add (fun _ h => List.mem_cons_of_mem _ (List.mem_append_right _ (List.mem_append_right _ (List.mem_append_right _ (List.mem_append_right _ (List.mem_append_right _ (List.mem_append_right _ (h))))))))
set_option maxRecDepth 20000 in
theorem gX10_spy_X2_add : GoodIn wsX10_spy (wsV RX10 205 RX2 yX2_add wsX2_add) := goodIn_app (goodIn_of _ (by decide +kernel)) ggX10_spy_X2_add
theorem bX10_spy_0 : decode cX10_spy 0 = .ok (.aload_n 0, 1) ∧ decode cX10_spy 1 = .ok (.iload_n 2, 1) ∧ decode cX10_spy 2 = .ok (.iconst 1, 1) ∧ decode cX10_spy 3 = .ok (.bipush 15, 2) ∧ decode cX10_spy 5 = .ok (.invokestatic 107, 3) ∧ decode cX10_spy 8 = .ok (.invokevirtual 81, 3) ∧ decode cX10_spy 11 = .ok (.bipush 16, 2) ∧ decode cX10_spy 13 = .ok (.iload_n 2, 1) ∧ decode cX10_spy 14 = .ok (.isub, 1) ∧ decode cX10_spy 15 = .ok (.istore_n 3, 1) ∧ decode cX10_spy 16 = .ok (.iload_n 1, 1) ∧ decode cX10_spy 17 = .ok (.ifCond .eq 18, 3) ∧ decode cX10_spy 20 = .ok (.aload_n 0, 1) ∧ decode cX10_spy 21 = .ok (.getfield 39, 3) ∧ decode cX10_spy 24 = .ok (.getfield 189, 3) ∧ decode cX10_spy 27 = .ok (.iload_n 2, 1) := by decide +kernel
def dX10_spy_0 := bX10_spy_0.1
def dX10_spy_1 := bX10_spy_0.2.1
def dX10_spy_2 := bX10_spy_0.2.2.1
def dX10_spy_3 := bX10_spy_0.2.2.2.1
def dX10_spy_5 := bX10_spy_0.2.2.2.2.1
def dX10_spy_8 := bX10_spy_0.2.2.2.2.2.1
def dX10_spy_11 := bX10_spy_0.2.2.2.2.2.2.1
def dX10_spy_13 := bX10_spy_0.2.2.2.2.2.2.2.1
def dX10_spy_14 := bX10_spy_0.2.2.2.2.2.2.2.2.1
def dX10_spy_15 := bX10_spy_0.2.2.2.2.2.2.2.2.2.1
def dX10_spy_16 := bX10_spy_0.2.2.2.2.2.2.2.2.2.2.1
def dX10_spy_17 := bX10_spy_0.2.2.2.2.2.2.2.2.2.2.2.1
def dX10_spy_20 := bX10_spy_0.2.2.2.2.2.2.2.2.2.2.2.2.1
def dX10_spy_21 := bX10_spy_0.2.2.2.2.2.2.2.2.2.2.2.2.2.1
def dX10_spy_24 := bX10_spy_0.2.2.2.2.2.2.2.2.2.2.2.2.2.2.1
def dX10_spy_27 := bX10_spy_0.2.2.2.2.2.2.2.2.2.2.2.2.2.2.2
theorem bX10_spy_28 : decode cX10_spy 28 = .ok (.iload_n 3, 1) ∧ decode cX10_spy 29 = .ok (.invokevirtual 205, 3) ∧ decode cX10_spy 32 = .ok (.goto 15, 3) ∧ decode cX10_spy 35 = .ok (.aload_n 0, 1) ∧ decode cX10_spy 36 = .ok (.getfield 39, 3) ∧ decode cX10_spy 39 = .ok (.getfield 189, 3) ∧ decode cX10_spy 42 = .ok (.iload_n 3, 1) ∧ decode cX10_spy 43 = .ok (.iload_n 2, 1) ∧ decode cX10_spy 44 = .ok (.invokevirtual 205, 3) ∧ decode cX10_spy 47 = .ok (.ireturn, 1) := by decide +kernel
def dX10_spy_28 := bX10_spy_28.1
def dX10_spy_29 := bX10_spy_28.2.1
def dX10_spy_32 := bX10_spy_28.2.2.1
def dX10_spy_35 := bX10_spy_28.2.2.2.1
def dX10_spy_36 := bX10_spy_28.2.2.2.2.1
def dX10_spy_39 := bX10_spy_28.2.2.2.2.2.1
def dX10_spy_42 := bX10_spy_28.2.2.2.2.2.2.1
def dX10_spy_43 := bX10_spy_28.2.2.2.2.2.2.2.1
def dX10_spy_44 := bX10_spy_28.2.2.2.2.2.2.2.2.1
def dX10_spy_47 := bX10_spy_28.2.2.2.2.2.2.2.2.2
theorem ggX10_believed_X10_within : GoodIn wsX10_believed wsX10_within := gW_in gwX10_within (fun _ h => List.mem_cons_of_mem _ (List.mem_append_right _ (List.mem_append_right _ (List.mem_append_right _ (List.mem_append_right _ (List.mem_append_left _ h))))))
set_option maxRecDepth 20000 in
theorem gX10_believed_X10_within : GoodIn wsX10_believed (va_wsS RX10 107 yX10_within wsX10_within) := goodIn_app (goodIn_of _ (by decide +kernel)) ggX10_believed_X10_within
theorem ggX10_believed_X10_demand : GoodIn wsX10_believed wsX10_demand := gW_in gwX10_demand (fun _ h => List.mem_cons_of_mem _ (List.mem_append_right _ (List.mem_append_right _ (List.mem_append_right _ (List.mem_append_right _ (List.mem_append_right _ (List.mem_append_left _ h)))))))
set_option maxRecDepth 20000 in
theorem gX10_believed_X10_demand : GoodIn wsX10_believed (wsV RX10 81 RX10 yX10_demand wsX10_demand) := goodIn_app (goodIn_of _ (by decide +kernel)) ggX10_believed_X10_demand
theorem ggX10_believed_X2_leastTerm : GoodIn wsX10_believed wsX2_leastTerm := gW_in gwX2_leastTerm (fun _ h => List.mem_cons_of_mem _ (List.mem_append_right _ (List.mem_append_right _ (List.mem_append_right _ (List.mem_append_right _ (List.mem_append_right _ (List.mem_append_right _ (h))))))))
set_option maxRecDepth 20000 in
theorem gX10_believed_X2_leastTerm : GoodIn wsX10_believed (wsV RX10 208 RX2 yX2_leastTerm wsX2_leastTerm) := goodIn_app (goodIn_of _ (by decide +kernel)) ggX10_believed_X2_leastTerm
theorem bX10_believed_0 : decode cX10_believed 0 = .ok (.aload_n 0, 1) ∧ decode cX10_believed 1 = .ok (.iload_n 1, 1) ∧ decode cX10_believed 2 = .ok (.iconst 0, 1) ∧ decode cX10_believed 3 = .ok (.iconst 1, 1) ∧ decode cX10_believed 4 = .ok (.invokestatic 107, 3) ∧ decode cX10_believed 7 = .ok (.invokevirtual 81, 3) ∧ decode cX10_believed 10 = .ok (.aload_n 0, 1) ∧ decode cX10_believed 11 = .ok (.getfield 39, 3) ∧ decode cX10_believed 14 = .ok (.getfield 189, 3) ∧ decode cX10_believed 17 = .ok (.iload_n 1, 1) ∧ decode cX10_believed 18 = .ok (.ifCond .ne 7, 3) ∧ decode cX10_believed 21 = .ok (.iconst 1, 1) ∧ decode cX10_believed 22 = .ok (.goto 4, 3) ∧ decode cX10_believed 25 = .ok (.iconst 0, 1) ∧ decode cX10_believed 26 = .ok (.invokevirtual 208, 3) ∧ decode cX10_believed 29 = .ok (.lreturn, 1) := by decide +kernel
def dX10_believed_0 := bX10_believed_0.1
def dX10_believed_1 := bX10_believed_0.2.1
def dX10_believed_2 := bX10_believed_0.2.2.1
def dX10_believed_3 := bX10_believed_0.2.2.2.1
def dX10_believed_4 := bX10_believed_0.2.2.2.2.1
def dX10_believed_7 := bX10_believed_0.2.2.2.2.2.1
def dX10_believed_10 := bX10_believed_0.2.2.2.2.2.2.1
def dX10_believed_11 := bX10_believed_0.2.2.2.2.2.2.2.1
def dX10_believed_14 := bX10_believed_0.2.2.2.2.2.2.2.2.1
def dX10_believed_17 := bX10_believed_0.2.2.2.2.2.2.2.2.2.1
def dX10_believed_18 := bX10_believed_0.2.2.2.2.2.2.2.2.2.2.1
def dX10_believed_21 := bX10_believed_0.2.2.2.2.2.2.2.2.2.2.2.1
def dX10_believed_22 := bX10_believed_0.2.2.2.2.2.2.2.2.2.2.2.2.1
def dX10_believed_25 := bX10_believed_0.2.2.2.2.2.2.2.2.2.2.2.2.2.1
def dX10_believed_26 := bX10_believed_0.2.2.2.2.2.2.2.2.2.2.2.2.2.2.1
def dX10_believed_29 := bX10_believed_0.2.2.2.2.2.2.2.2.2.2.2.2.2.2.2
theorem ggX10_earnest_X10_within : GoodIn wsX10_earnest wsX10_within := gW_in gwX10_within (fun _ h => List.mem_cons_of_mem _ (List.mem_append_right _ (List.mem_append_right _ (List.mem_append_right _ (List.mem_append_right _ (List.mem_append_left _ h))))))
set_option maxRecDepth 20000 in
theorem gX10_earnest_X10_within : GoodIn wsX10_earnest (va_wsS RX10 107 yX10_within wsX10_within) := goodIn_app (goodIn_of _ (by decide +kernel)) ggX10_earnest_X10_within
theorem ggX10_earnest_X10_demand : GoodIn wsX10_earnest wsX10_demand := gW_in gwX10_demand (fun _ h => List.mem_cons_of_mem _ (List.mem_append_right _ (List.mem_append_right _ (List.mem_append_right _ (List.mem_append_right _ (List.mem_append_right _ (List.mem_append_left _ h)))))))
set_option maxRecDepth 20000 in
theorem gX10_earnest_X10_demand : GoodIn wsX10_earnest (wsV RX10 81 RX10 yX10_demand wsX10_demand) := goodIn_app (goodIn_of _ (by decide +kernel)) ggX10_earnest_X10_demand
theorem ggX10_earnest_X1_prepare : GoodIn wsX10_earnest wsX1_prepare := gW_in gwX1_prepare (fun _ h => List.mem_cons_of_mem _ (List.mem_append_right _ (List.mem_append_right _ (List.mem_append_right _ (List.mem_append_right _ (List.mem_append_right _ (List.mem_append_right _ (List.mem_append_left _ h))))))))
set_option maxRecDepth 20000 in
theorem gX10_earnest_X1_prepare : GoodIn wsX10_earnest (wsV RX10 212 RX1 yX1_prepare wsX1_prepare) := goodIn_app (goodIn_of _ (by decide +kernel)) ggX10_earnest_X1_prepare
theorem ggX10_earnest_X1_all : GoodIn wsX10_earnest wsX1_all := gW_in gwX1_all (fun _ h => List.mem_cons_of_mem _ (List.mem_append_right _ (List.mem_append_right _ (List.mem_append_right _ (List.mem_append_right _ (List.mem_append_right _ (List.mem_append_right _ (List.mem_append_right _ (List.mem_append_left _ h)))))))))
set_option maxRecDepth 20000 in
theorem gX10_earnest_X1_all : GoodIn wsX10_earnest (wsV RX10 215 RX1 yX1_all wsX1_all) := goodIn_app (goodIn_of _ (by decide +kernel)) ggX10_earnest_X1_all
theorem ggX10_earnest_X1_safe : GoodIn wsX10_earnest wsX1_safe := gW_in gwX1_safe (fun _ h => List.mem_cons_of_mem _ (List.mem_append_right _ (List.mem_append_right _ (List.mem_append_right _ (List.mem_append_right _ (List.mem_append_right _ (List.mem_append_right _ (List.mem_append_right _ (List.mem_append_right _ (List.mem_append_left _ h))))))))))
set_option maxRecDepth 20000 in
theorem gX10_earnest_X1_safe : GoodIn wsX10_earnest (wsV RX10 219 RX1 yX1_safe wsX1_safe) := goodIn_app (goodIn_of _ (by decide +kernel)) ggX10_earnest_X1_safe
theorem ggX10_earnest_X1_sure : GoodIn wsX10_earnest wsX1_sure := gW_in gwX1_sure (fun _ h => List.mem_cons_of_mem _ (List.mem_append_right _ (List.mem_append_right _ (List.mem_append_right _ (List.mem_append_right _ (List.mem_append_right _ (List.mem_append_right _ (List.mem_append_right _ (List.mem_append_right _ (List.mem_append_right _ (h)))))))))))
set_option maxRecDepth 20000 in
theorem gX10_earnest_X1_sure : GoodIn wsX10_earnest (wsV RX10 223 RX1 yX1_sure wsX1_sure) := goodIn_app (goodIn_of _ (by decide +kernel)) ggX10_earnest_X1_sure
theorem bX10_earnest_0 : decode cX10_earnest 0 = .ok (.aload_n 0, 1) ∧ decode cX10_earnest 1 = .ok (.iload_n 1, 1) ∧ decode cX10_earnest 2 = .ok (.iconst 0, 1) ∧ decode cX10_earnest 3 = .ok (.bipush 6, 2) ∧ decode cX10_earnest 5 = .ok (.invokestatic 107, 3) ∧ decode cX10_earnest 8 = .ok (.ifCond .eq 26, 3) ∧ decode cX10_earnest 11 = .ok (.iload_n 2, 1) ∧ decode cX10_earnest 12 = .ok (.iconst 0, 1) ∧ decode cX10_earnest 13 = .ok (.bipush 6, 2) ∧ decode cX10_earnest 15 = .ok (.invokestatic 107, 3) ∧ decode cX10_earnest 18 = .ok (.ifCond .eq 16, 3) ∧ decode cX10_earnest 21 = .ok (.iload_n 3, 1) ∧ decode cX10_earnest 22 = .ok (.iconst 0, 1) ∧ decode cX10_earnest 23 = .ok (.iconst 1, 1) ∧ decode cX10_earnest 24 = .ok (.invokestatic 107, 3) ∧ decode cX10_earnest 27 = .ok (.ifCond .eq 7, 3) := by decide +kernel
def dX10_earnest_0 := bX10_earnest_0.1
def dX10_earnest_1 := bX10_earnest_0.2.1
def dX10_earnest_2 := bX10_earnest_0.2.2.1
def dX10_earnest_3 := bX10_earnest_0.2.2.2.1
def dX10_earnest_5 := bX10_earnest_0.2.2.2.2.1
def dX10_earnest_8 := bX10_earnest_0.2.2.2.2.2.1
def dX10_earnest_11 := bX10_earnest_0.2.2.2.2.2.2.1
def dX10_earnest_12 := bX10_earnest_0.2.2.2.2.2.2.2.1
def dX10_earnest_13 := bX10_earnest_0.2.2.2.2.2.2.2.2.1
def dX10_earnest_15 := bX10_earnest_0.2.2.2.2.2.2.2.2.2.1
def dX10_earnest_18 := bX10_earnest_0.2.2.2.2.2.2.2.2.2.2.1
def dX10_earnest_21 := bX10_earnest_0.2.2.2.2.2.2.2.2.2.2.2.1
def dX10_earnest_22 := bX10_earnest_0.2.2.2.2.2.2.2.2.2.2.2.2.1
def dX10_earnest_23 := bX10_earnest_0.2.2.2.2.2.2.2.2.2.2.2.2.2.1
def dX10_earnest_24 := bX10_earnest_0.2.2.2.2.2.2.2.2.2.2.2.2.2.2.1
def dX10_earnest_27 := bX10_earnest_0.2.2.2.2.2.2.2.2.2.2.2.2.2.2.2
theorem bX10_earnest_30 : decode cX10_earnest 30 = .ok (.iconst 1, 1) ∧ decode cX10_earnest 31 = .ok (.goto 4, 3) ∧ decode cX10_earnest 34 = .ok (.iconst 0, 1) ∧ decode cX10_earnest 35 = .ok (.invokevirtual 81, 3) ∧ decode cX10_earnest 38 = .ok (.aload_n 0, 1) ∧ decode cX10_earnest 39 = .ok (.getfield 57, 3) ∧ decode cX10_earnest 42 = .ok (.aload_n 0, 1) ∧ decode cX10_earnest 43 = .ok (.getfield 23, 3) ∧ decode cX10_earnest 46 = .ok (.invokevirtual 212, 3) ∧ decode cX10_earnest 49 = .ok (.iload_n 3, 1) ∧ decode cX10_earnest 50 = .ok (.ifCond .ne 22, 3) ∧ decode cX10_earnest 53 = .ok (.aload_n 0, 1) ∧ decode cX10_earnest 54 = .ok (.getfield 57, 3) ∧ decode cX10_earnest 57 = .ok (.aload_n 0, 1) ∧ decode cX10_earnest 58 = .ok (.getfield 57, 3) ∧ decode cX10_earnest 61 = .ok (.invokevirtual 215, 3) := by decide +kernel
def dX10_earnest_30 := bX10_earnest_30.1
def dX10_earnest_31 := bX10_earnest_30.2.1
def dX10_earnest_34 := bX10_earnest_30.2.2.1
def dX10_earnest_35 := bX10_earnest_30.2.2.2.1
def dX10_earnest_38 := bX10_earnest_30.2.2.2.2.1
def dX10_earnest_39 := bX10_earnest_30.2.2.2.2.2.1
def dX10_earnest_42 := bX10_earnest_30.2.2.2.2.2.2.1
def dX10_earnest_43 := bX10_earnest_30.2.2.2.2.2.2.2.1
def dX10_earnest_46 := bX10_earnest_30.2.2.2.2.2.2.2.2.1
def dX10_earnest_49 := bX10_earnest_30.2.2.2.2.2.2.2.2.2.1
def dX10_earnest_50 := bX10_earnest_30.2.2.2.2.2.2.2.2.2.2.1
def dX10_earnest_53 := bX10_earnest_30.2.2.2.2.2.2.2.2.2.2.2.1
def dX10_earnest_54 := bX10_earnest_30.2.2.2.2.2.2.2.2.2.2.2.2.1
def dX10_earnest_57 := bX10_earnest_30.2.2.2.2.2.2.2.2.2.2.2.2.2.1
def dX10_earnest_58 := bX10_earnest_30.2.2.2.2.2.2.2.2.2.2.2.2.2.2.1
def dX10_earnest_61 := bX10_earnest_30.2.2.2.2.2.2.2.2.2.2.2.2.2.2.2
theorem bX10_earnest_64 : decode cX10_earnest 64 = .ok (.iload_n 1, 1) ∧ decode cX10_earnest 65 = .ok (.iload_n 2, 1) ∧ decode cX10_earnest 66 = .ok (.invokevirtual 219, 3) ∧ decode cX10_earnest 69 = .ok (.goto 12, 3) ∧ decode cX10_earnest 72 = .ok (.aload_n 0, 1) ∧ decode cX10_earnest 73 = .ok (.getfield 57, 3) ∧ decode cX10_earnest 76 = .ok (.iload_n 1, 1) ∧ decode cX10_earnest 77 = .ok (.iload_n 2, 1) ∧ decode cX10_earnest 78 = .ok (.invokevirtual 223, 3) ∧ decode cX10_earnest 81 = .ok (.ireturn, 1) := by decide +kernel
def dX10_earnest_64 := bX10_earnest_64.1
def dX10_earnest_65 := bX10_earnest_64.2.1
def dX10_earnest_66 := bX10_earnest_64.2.2.1
def dX10_earnest_69 := bX10_earnest_64.2.2.2.1
def dX10_earnest_72 := bX10_earnest_64.2.2.2.2.1
def dX10_earnest_73 := bX10_earnest_64.2.2.2.2.2.1
def dX10_earnest_76 := bX10_earnest_64.2.2.2.2.2.2.1
def dX10_earnest_77 := bX10_earnest_64.2.2.2.2.2.2.2.1
def dX10_earnest_78 := bX10_earnest_64.2.2.2.2.2.2.2.2.1
def dX10_earnest_81 := bX10_earnest_64.2.2.2.2.2.2.2.2.2
theorem ggX10_stands_X10_within : GoodIn wsX10_stands wsX10_within := gW_in gwX10_within (fun _ h => List.mem_cons_of_mem _ (List.mem_append_right _ (List.mem_append_right _ (List.mem_append_right _ (List.mem_append_right _ (List.mem_append_left _ h))))))
set_option maxRecDepth 20000 in
theorem gX10_stands_X10_within : GoodIn wsX10_stands (va_wsS RX10 107 yX10_within wsX10_within) := goodIn_app (goodIn_of _ (by decide +kernel)) ggX10_stands_X10_within
theorem ggX10_stands_X10_demand : GoodIn wsX10_stands wsX10_demand := gW_in gwX10_demand (fun _ h => List.mem_cons_of_mem _ (List.mem_append_right _ (List.mem_append_right _ (List.mem_append_right _ (List.mem_append_right _ (List.mem_append_right _ (List.mem_append_left _ h)))))))
set_option maxRecDepth 20000 in
theorem gX10_stands_X10_demand : GoodIn wsX10_stands (wsV RX10 81 RX10 yX10_demand wsX10_demand) := goodIn_app (goodIn_of _ (by decide +kernel)) ggX10_stands_X10_demand
theorem ggX10_stands_X1_prepare : GoodIn wsX10_stands wsX1_prepare := gW_in gwX1_prepare (fun _ h => List.mem_cons_of_mem _ (List.mem_append_right _ (List.mem_append_right _ (List.mem_append_right _ (List.mem_append_right _ (List.mem_append_right _ (List.mem_append_right _ (List.mem_append_left _ h))))))))
set_option maxRecDepth 20000 in
theorem gX10_stands_X1_prepare : GoodIn wsX10_stands (wsV RX10 212 RX1 yX1_prepare wsX1_prepare) := goodIn_app (goodIn_of _ (by decide +kernel)) ggX10_stands_X1_prepare
theorem ggX10_stands_X1_all : GoodIn wsX10_stands wsX1_all := gW_in gwX1_all (fun _ h => List.mem_cons_of_mem _ (List.mem_append_right _ (List.mem_append_right _ (List.mem_append_right _ (List.mem_append_right _ (List.mem_append_right _ (List.mem_append_right _ (List.mem_append_right _ (List.mem_append_left _ h)))))))))
set_option maxRecDepth 20000 in
theorem gX10_stands_X1_all : GoodIn wsX10_stands (wsV RX10 215 RX1 yX1_all wsX1_all) := goodIn_app (goodIn_of _ (by decide +kernel)) ggX10_stands_X1_all
theorem ggX10_stands_X1_safe : GoodIn wsX10_stands wsX1_safe := gW_in gwX1_safe (fun _ h => List.mem_cons_of_mem _ (List.mem_append_right _ (List.mem_append_right _ (List.mem_append_right _ (List.mem_append_right _ (List.mem_append_right _ (List.mem_append_right _ (List.mem_append_right _ (List.mem_append_right _ (h))))))))))
set_option maxRecDepth 20000 in
theorem gX10_stands_X1_safe : GoodIn wsX10_stands (wsV RX10 219 RX1 yX1_safe wsX1_safe) := goodIn_app (goodIn_of _ (by decide +kernel)) ggX10_stands_X1_safe
theorem bX10_stands_0 : decode cX10_stands 0 = .ok (.aload_n 0, 1) ∧ decode cX10_stands 1 = .ok (.iload_n 1, 1) ∧ decode cX10_stands 2 = .ok (.iconst 0, 1) ∧ decode cX10_stands 3 = .ok (.bipush 6, 2) ∧ decode cX10_stands 5 = .ok (.invokestatic 107, 3) ∧ decode cX10_stands 8 = .ok (.ifCond .eq 17, 3) ∧ decode cX10_stands 11 = .ok (.iload_n 2, 1) ∧ decode cX10_stands 12 = .ok (.iconst 0, 1) ∧ decode cX10_stands 13 = .ok (.bipush 6, 2) ∧ decode cX10_stands 15 = .ok (.invokestatic 107, 3) ∧ decode cX10_stands 18 = .ok (.ifCond .eq 7, 3) ∧ decode cX10_stands 21 = .ok (.iconst 1, 1) ∧ decode cX10_stands 22 = .ok (.goto 4, 3) ∧ decode cX10_stands 25 = .ok (.iconst 0, 1) ∧ decode cX10_stands 26 = .ok (.invokevirtual 81, 3) ∧ decode cX10_stands 29 = .ok (.aload_n 0, 1) := by decide +kernel
def dX10_stands_0 := bX10_stands_0.1
def dX10_stands_1 := bX10_stands_0.2.1
def dX10_stands_2 := bX10_stands_0.2.2.1
def dX10_stands_3 := bX10_stands_0.2.2.2.1
def dX10_stands_5 := bX10_stands_0.2.2.2.2.1
def dX10_stands_8 := bX10_stands_0.2.2.2.2.2.1
def dX10_stands_11 := bX10_stands_0.2.2.2.2.2.2.1
def dX10_stands_12 := bX10_stands_0.2.2.2.2.2.2.2.1
def dX10_stands_13 := bX10_stands_0.2.2.2.2.2.2.2.2.1
def dX10_stands_15 := bX10_stands_0.2.2.2.2.2.2.2.2.2.1
def dX10_stands_18 := bX10_stands_0.2.2.2.2.2.2.2.2.2.2.1
def dX10_stands_21 := bX10_stands_0.2.2.2.2.2.2.2.2.2.2.2.1
def dX10_stands_22 := bX10_stands_0.2.2.2.2.2.2.2.2.2.2.2.2.1
def dX10_stands_25 := bX10_stands_0.2.2.2.2.2.2.2.2.2.2.2.2.2.1
def dX10_stands_26 := bX10_stands_0.2.2.2.2.2.2.2.2.2.2.2.2.2.2.1
def dX10_stands_29 := bX10_stands_0.2.2.2.2.2.2.2.2.2.2.2.2.2.2.2
theorem bX10_stands_30 : decode cX10_stands 30 = .ok (.getfield 57, 3) ∧ decode cX10_stands 33 = .ok (.aload_n 0, 1) ∧ decode cX10_stands 34 = .ok (.getfield 23, 3) ∧ decode cX10_stands 37 = .ok (.invokevirtual 212, 3) ∧ decode cX10_stands 40 = .ok (.aload_n 0, 1) ∧ decode cX10_stands 41 = .ok (.getfield 57, 3) ∧ decode cX10_stands 44 = .ok (.aload_n 0, 1) ∧ decode cX10_stands 45 = .ok (.getfield 57, 3) ∧ decode cX10_stands 48 = .ok (.invokevirtual 215, 3) ∧ decode cX10_stands 51 = .ok (.iload_n 1, 1) ∧ decode cX10_stands 52 = .ok (.iload_n 2, 1) ∧ decode cX10_stands 53 = .ok (.invokevirtual 219, 3) ∧ decode cX10_stands 56 = .ok (.pop, 1) ∧ decode cX10_stands 57 = .ok (.aload_n 0, 1) ∧ decode cX10_stands 58 = .ok (.getfield 57, 3) ∧ decode cX10_stands 61 = .ok (.getfield 226, 3) := by decide +kernel
def dX10_stands_30 := bX10_stands_30.1
def dX10_stands_33 := bX10_stands_30.2.1
def dX10_stands_34 := bX10_stands_30.2.2.1
def dX10_stands_37 := bX10_stands_30.2.2.2.1
def dX10_stands_40 := bX10_stands_30.2.2.2.2.1
def dX10_stands_41 := bX10_stands_30.2.2.2.2.2.1
def dX10_stands_44 := bX10_stands_30.2.2.2.2.2.2.1
def dX10_stands_45 := bX10_stands_30.2.2.2.2.2.2.2.1
def dX10_stands_48 := bX10_stands_30.2.2.2.2.2.2.2.2.1
def dX10_stands_51 := bX10_stands_30.2.2.2.2.2.2.2.2.2.1
def dX10_stands_52 := bX10_stands_30.2.2.2.2.2.2.2.2.2.2.1
def dX10_stands_53 := bX10_stands_30.2.2.2.2.2.2.2.2.2.2.2.1
def dX10_stands_56 := bX10_stands_30.2.2.2.2.2.2.2.2.2.2.2.2.1
def dX10_stands_57 := bX10_stands_30.2.2.2.2.2.2.2.2.2.2.2.2.2.1
def dX10_stands_58 := bX10_stands_30.2.2.2.2.2.2.2.2.2.2.2.2.2.2.1
def dX10_stands_61 := bX10_stands_30.2.2.2.2.2.2.2.2.2.2.2.2.2.2.2
theorem dX10_stands_64 : decode cX10_stands 64 = .ok (.ireturn, 1) := by decide +kernel
theorem ggX10_show_X10_within : GoodIn wsX10_show wsX10_within := gW_in gwX10_within (fun _ h => List.mem_cons_of_mem _ (List.mem_append_right _ (List.mem_append_right _ (List.mem_append_right _ (List.mem_append_right _ (List.mem_append_left _ h))))))
set_option maxRecDepth 20000 in
theorem gX10_show_X10_within : GoodIn wsX10_show (va_wsS RX10 107 yX10_within wsX10_within) := goodIn_app (goodIn_of _ (by decide +kernel)) ggX10_show_X10_within
theorem ggX10_show_X10_demand : GoodIn wsX10_show wsX10_demand := gW_in gwX10_demand (fun _ h => List.mem_cons_of_mem _ (List.mem_append_right _ (List.mem_append_right _ (List.mem_append_right _ (List.mem_append_right _ (List.mem_append_right _ (List.mem_append_left _ h)))))))
set_option maxRecDepth 20000 in
theorem gX10_show_X10_demand : GoodIn wsX10_show (wsV RX10 81 RX10 yX10_demand wsX10_demand) := goodIn_app (goodIn_of _ (by decide +kernel)) ggX10_show_X10_demand
theorem ggX10_show_X1_prepare : GoodIn wsX10_show wsX1_prepare := gW_in gwX1_prepare (fun _ h => List.mem_cons_of_mem _ (List.mem_append_right _ (List.mem_append_right _ (List.mem_append_right _ (List.mem_append_right _ (List.mem_append_right _ (List.mem_append_right _ (List.mem_append_left _ h))))))))
set_option maxRecDepth 20000 in
theorem gX10_show_X1_prepare : GoodIn wsX10_show (wsV RX10 212 RX1 yX1_prepare wsX1_prepare) := goodIn_app (goodIn_of _ (by decide +kernel)) ggX10_show_X1_prepare
theorem ggX10_show_X1_all : GoodIn wsX10_show wsX1_all := gW_in gwX1_all (fun _ h => List.mem_cons_of_mem _ (List.mem_append_right _ (List.mem_append_right _ (List.mem_append_right _ (List.mem_append_right _ (List.mem_append_right _ (List.mem_append_right _ (List.mem_append_right _ (List.mem_append_left _ h)))))))))
set_option maxRecDepth 20000 in
theorem gX10_show_X1_all : GoodIn wsX10_show (wsV RX10 215 RX1 yX1_all wsX1_all) := goodIn_app (goodIn_of _ (by decide +kernel)) ggX10_show_X1_all
theorem ggX10_show_X1_safe : GoodIn wsX10_show wsX1_safe := gW_in gwX1_safe (fun _ h => List.mem_cons_of_mem _ (List.mem_append_right _ (List.mem_append_right _ (List.mem_append_right _ (List.mem_append_right _ (List.mem_append_right _ (List.mem_append_right _ (List.mem_append_right _ (List.mem_append_right _ (h))))))))))
set_option maxRecDepth 20000 in
theorem gX10_show_X1_safe : GoodIn wsX10_show (wsV RX10 219 RX1 yX1_safe wsX1_safe) := goodIn_app (goodIn_of _ (by decide +kernel)) ggX10_show_X1_safe
theorem bX10_show_0 : decode cX10_show 0 = .ok (.aload_n 0, 1) ∧ decode cX10_show 1 = .ok (.iload_n 1, 1) ∧ decode cX10_show 2 = .ok (.iconst 0, 1) ∧ decode cX10_show 3 = .ok (.bipush 6, 2) ∧ decode cX10_show 5 = .ok (.invokestatic 107, 3) ∧ decode cX10_show 8 = .ok (.ifCond .eq 17, 3) ∧ decode cX10_show 11 = .ok (.iload_n 2, 1) ∧ decode cX10_show 12 = .ok (.iconst 0, 1) ∧ decode cX10_show 13 = .ok (.bipush 6, 2) ∧ decode cX10_show 15 = .ok (.invokestatic 107, 3) ∧ decode cX10_show 18 = .ok (.ifCond .eq 7, 3) ∧ decode cX10_show 21 = .ok (.iconst 1, 1) ∧ decode cX10_show 22 = .ok (.goto 4, 3) ∧ decode cX10_show 25 = .ok (.iconst 0, 1) ∧ decode cX10_show 26 = .ok (.invokevirtual 81, 3) ∧ decode cX10_show 29 = .ok (.aload_n 0, 1) := by decide +kernel
def dX10_show_0 := bX10_show_0.1
def dX10_show_1 := bX10_show_0.2.1
def dX10_show_2 := bX10_show_0.2.2.1
def dX10_show_3 := bX10_show_0.2.2.2.1
def dX10_show_5 := bX10_show_0.2.2.2.2.1
def dX10_show_8 := bX10_show_0.2.2.2.2.2.1
def dX10_show_11 := bX10_show_0.2.2.2.2.2.2.1
def dX10_show_12 := bX10_show_0.2.2.2.2.2.2.2.1
def dX10_show_13 := bX10_show_0.2.2.2.2.2.2.2.2.1
def dX10_show_15 := bX10_show_0.2.2.2.2.2.2.2.2.2.1
def dX10_show_18 := bX10_show_0.2.2.2.2.2.2.2.2.2.2.1
def dX10_show_21 := bX10_show_0.2.2.2.2.2.2.2.2.2.2.2.1
def dX10_show_22 := bX10_show_0.2.2.2.2.2.2.2.2.2.2.2.2.1
def dX10_show_25 := bX10_show_0.2.2.2.2.2.2.2.2.2.2.2.2.2.1
def dX10_show_26 := bX10_show_0.2.2.2.2.2.2.2.2.2.2.2.2.2.2.1
def dX10_show_29 := bX10_show_0.2.2.2.2.2.2.2.2.2.2.2.2.2.2.2
theorem bX10_show_30 : decode cX10_show 30 = .ok (.getfield 57, 3) ∧ decode cX10_show 33 = .ok (.aload_n 0, 1) ∧ decode cX10_show 34 = .ok (.getfield 23, 3) ∧ decode cX10_show 37 = .ok (.invokevirtual 212, 3) ∧ decode cX10_show 40 = .ok (.aload_n 0, 1) ∧ decode cX10_show 41 = .ok (.getfield 57, 3) ∧ decode cX10_show 44 = .ok (.aload_n 0, 1) ∧ decode cX10_show 45 = .ok (.getfield 57, 3) ∧ decode cX10_show 48 = .ok (.invokevirtual 215, 3) ∧ decode cX10_show 51 = .ok (.iload_n 1, 1) ∧ decode cX10_show 52 = .ok (.iload_n 2, 1) ∧ decode cX10_show 53 = .ok (.invokevirtual 219, 3) ∧ decode cX10_show 56 = .ok (.istore_n 3, 1) ∧ decode cX10_show 57 = .ok (.iconst 0, 1) ∧ decode cX10_show 58 = .ok (.istore 4, 2) ∧ decode cX10_show 60 = .ok (.iconst 0, 1) := by decide +kernel
def dX10_show_30 := bX10_show_30.1
def dX10_show_33 := bX10_show_30.2.1
def dX10_show_34 := bX10_show_30.2.2.1
def dX10_show_37 := bX10_show_30.2.2.2.1
def dX10_show_40 := bX10_show_30.2.2.2.2.1
def dX10_show_41 := bX10_show_30.2.2.2.2.2.1
def dX10_show_44 := bX10_show_30.2.2.2.2.2.2.1
def dX10_show_45 := bX10_show_30.2.2.2.2.2.2.2.1
def dX10_show_48 := bX10_show_30.2.2.2.2.2.2.2.2.1
def dX10_show_51 := bX10_show_30.2.2.2.2.2.2.2.2.2.1
def dX10_show_52 := bX10_show_30.2.2.2.2.2.2.2.2.2.2.1
def dX10_show_53 := bX10_show_30.2.2.2.2.2.2.2.2.2.2.2.1
def dX10_show_56 := bX10_show_30.2.2.2.2.2.2.2.2.2.2.2.2.1
def dX10_show_57 := bX10_show_30.2.2.2.2.2.2.2.2.2.2.2.2.2.1
def dX10_show_58 := bX10_show_30.2.2.2.2.2.2.2.2.2.2.2.2.2.2.1
def dX10_show_60 := bX10_show_30.2.2.2.2.2.2.2.2.2.2.2.2.2.2.2
theorem bX10_show_61 : decode cX10_show 61 = .ok (.istore 5, 2) ∧ decode cX10_show 63 = .ok (.iload 5, 2) ∧ decode cX10_show 65 = .ok (.aload_n 0, 1) ∧ decode cX10_show 66 = .ok (.getfield 57, 3) ∧ decode cX10_show 69 = .ok (.getfield 229, 3) ∧ decode cX10_show 72 = .ok (.if_icmp .ge 49, 3) ∧ decode cX10_show 75 = .ok (.aload_n 0, 1) ∧ decode cX10_show 76 = .ok (.getfield 57, 3) ∧ decode cX10_show 79 = .ok (.invokevirtual 215, 3) ∧ decode cX10_show 82 = .ok (.iconst 1, 1) ∧ decode cX10_show 83 = .ok (.iload 5, 2) ∧ decode cX10_show 85 = .ok (.ishl, 1) ∧ decode cX10_show 86 = .ok (.iconst (-1), 1) ∧ decode cX10_show 87 = .ok (.ixor, 1) ∧ decode cX10_show 88 = .ok (.iand, 1) ∧ decode cX10_show 89 = .ok (.istore 6, 2) := by decide +kernel
def dX10_show_61 := bX10_show_61.1
def dX10_show_63 := bX10_show_61.2.1
def dX10_show_65 := bX10_show_61.2.2.1
def dX10_show_66 := bX10_show_61.2.2.2.1
def dX10_show_69 := bX10_show_61.2.2.2.2.1
def dX10_show_72 := bX10_show_61.2.2.2.2.2.1
def dX10_show_75 := bX10_show_61.2.2.2.2.2.2.1
def dX10_show_76 := bX10_show_61.2.2.2.2.2.2.2.1
def dX10_show_79 := bX10_show_61.2.2.2.2.2.2.2.2.1
def dX10_show_82 := bX10_show_61.2.2.2.2.2.2.2.2.2.1
def dX10_show_83 := bX10_show_61.2.2.2.2.2.2.2.2.2.2.1
def dX10_show_85 := bX10_show_61.2.2.2.2.2.2.2.2.2.2.2.1
def dX10_show_86 := bX10_show_61.2.2.2.2.2.2.2.2.2.2.2.2.1
def dX10_show_87 := bX10_show_61.2.2.2.2.2.2.2.2.2.2.2.2.2.1
def dX10_show_88 := bX10_show_61.2.2.2.2.2.2.2.2.2.2.2.2.2.2.1
def dX10_show_89 := bX10_show_61.2.2.2.2.2.2.2.2.2.2.2.2.2.2.2
theorem bX10_show_91 : decode cX10_show 91 = .ok (.aload_n 0, 1) ∧ decode cX10_show 92 = .ok (.getfield 57, 3) ∧ decode cX10_show 95 = .ok (.iload 6, 2) ∧ decode cX10_show 97 = .ok (.iload_n 1, 1) ∧ decode cX10_show 98 = .ok (.iload_n 2, 1) ∧ decode cX10_show 99 = .ok (.invokevirtual 219, 3) ∧ decode cX10_show 102 = .ok (.iload_n 3, 1) ∧ decode cX10_show 103 = .ok (.if_icmp .ne 12, 3) ∧ decode cX10_show 106 = .ok (.iload 4, 2) ∧ decode cX10_show 108 = .ok (.iconst 1, 1) ∧ decode cX10_show 109 = .ok (.iload 5, 2) ∧ decode cX10_show 111 = .ok (.ishl, 1) ∧ decode cX10_show 112 = .ok (.ior, 1) ∧ decode cX10_show 113 = .ok (.istore 4, 2) ∧ decode cX10_show 115 = .ok (.iinc 5 1, 3) ∧ decode cX10_show 118 = .ok (.goto (-55), 3) := by decide +kernel
def dX10_show_91 := bX10_show_91.1
def dX10_show_92 := bX10_show_91.2.1
def dX10_show_95 := bX10_show_91.2.2.1
def dX10_show_97 := bX10_show_91.2.2.2.1
def dX10_show_98 := bX10_show_91.2.2.2.2.1
def dX10_show_99 := bX10_show_91.2.2.2.2.2.1
def dX10_show_102 := bX10_show_91.2.2.2.2.2.2.1
def dX10_show_103 := bX10_show_91.2.2.2.2.2.2.2.1
def dX10_show_106 := bX10_show_91.2.2.2.2.2.2.2.2.1
def dX10_show_108 := bX10_show_91.2.2.2.2.2.2.2.2.2.1
def dX10_show_109 := bX10_show_91.2.2.2.2.2.2.2.2.2.2.1
def dX10_show_111 := bX10_show_91.2.2.2.2.2.2.2.2.2.2.2.1
def dX10_show_112 := bX10_show_91.2.2.2.2.2.2.2.2.2.2.2.2.1
def dX10_show_113 := bX10_show_91.2.2.2.2.2.2.2.2.2.2.2.2.2.1
def dX10_show_115 := bX10_show_91.2.2.2.2.2.2.2.2.2.2.2.2.2.2.1
def dX10_show_118 := bX10_show_91.2.2.2.2.2.2.2.2.2.2.2.2.2.2.2
theorem bX10_show_121 : decode cX10_show 121 = .ok (.iload 4, 2) ∧ decode cX10_show 123 = .ok (.ireturn, 1) := by decide +kernel
def dX10_show_121 := bX10_show_121.1
def dX10_show_123 := bX10_show_121.2
theorem ggX10_offers_X10_within : GoodIn wsX10_offers wsX10_within := gW_in gwX10_within (fun _ h => List.mem_cons_of_mem _ (List.mem_append_right _ (List.mem_append_right _ (List.mem_append_right _ (List.mem_append_right _ (List.mem_append_left _ h))))))
set_option maxRecDepth 20000 in
theorem gX10_offers_X10_within : GoodIn wsX10_offers (va_wsS RX10 107 yX10_within wsX10_within) := goodIn_app (goodIn_of _ (by decide +kernel)) ggX10_offers_X10_within
theorem ggX10_offers_X10_demand : GoodIn wsX10_offers wsX10_demand := gW_in gwX10_demand (fun _ h => List.mem_cons_of_mem _ (List.mem_append_right _ (List.mem_append_right _ (List.mem_append_right _ (List.mem_append_right _ (List.mem_append_right _ (List.mem_append_left _ h)))))))
set_option maxRecDepth 20000 in
theorem gX10_offers_X10_demand : GoodIn wsX10_offers (wsV RX10 81 RX10 yX10_demand wsX10_demand) := goodIn_app (goodIn_of _ (by decide +kernel)) ggX10_offers_X10_demand
theorem ggX10_offers_X3_bid : GoodIn wsX10_offers wsX3_bid := gW_in gwX3_bid (fun _ h => List.mem_cons_of_mem _ (List.mem_append_right _ (List.mem_append_right _ (List.mem_append_right _ (List.mem_append_right _ (List.mem_append_right _ (List.mem_append_right _ (h))))))))
set_option maxRecDepth 20000 in
theorem gX10_offers_X3_bid : GoodIn wsX10_offers (wsV RX10 236 RX3 yX3_bid wsX3_bid) := goodIn_app (goodIn_of _ (by decide +kernel)) ggX10_offers_X3_bid
theorem bX10_offers_0 : decode cX10_offers 0 = .ok (.aload_n 0, 1) ∧ decode cX10_offers 1 = .ok (.iload_n 1, 1) ∧ decode cX10_offers 2 = .ok (.iconst 1, 1) ∧ decode cX10_offers 3 = .ok (.iconst 2, 1) ∧ decode cX10_offers 4 = .ok (.invokestatic 107, 3) ∧ decode cX10_offers 7 = .ok (.ifCond .eq 28, 3) ∧ decode cX10_offers 10 = .ok (.iload_n 2, 1) ∧ decode cX10_offers 11 = .ok (.iconst 0, 1) ∧ decode cX10_offers 12 = .ok (.bipush 11, 2) ∧ decode cX10_offers 14 = .ok (.invokestatic 107, 3) ∧ decode cX10_offers 17 = .ok (.ifCond .eq 18, 3) ∧ decode cX10_offers 20 = .ok (.iload_n 3, 1) ∧ decode cX10_offers 21 = .ok (.iconst 0, 1) ∧ decode cX10_offers 22 = .ok (.sipush 999, 3) ∧ decode cX10_offers 25 = .ok (.invokestatic 107, 3) ∧ decode cX10_offers 28 = .ok (.ifCond .eq 7, 3) := by decide +kernel
def dX10_offers_0 := bX10_offers_0.1
def dX10_offers_1 := bX10_offers_0.2.1
def dX10_offers_2 := bX10_offers_0.2.2.1
def dX10_offers_3 := bX10_offers_0.2.2.2.1
def dX10_offers_4 := bX10_offers_0.2.2.2.2.1
def dX10_offers_7 := bX10_offers_0.2.2.2.2.2.1
def dX10_offers_10 := bX10_offers_0.2.2.2.2.2.2.1
def dX10_offers_11 := bX10_offers_0.2.2.2.2.2.2.2.1
def dX10_offers_12 := bX10_offers_0.2.2.2.2.2.2.2.2.1
def dX10_offers_14 := bX10_offers_0.2.2.2.2.2.2.2.2.2.1
def dX10_offers_17 := bX10_offers_0.2.2.2.2.2.2.2.2.2.2.1
def dX10_offers_20 := bX10_offers_0.2.2.2.2.2.2.2.2.2.2.2.1
def dX10_offers_21 := bX10_offers_0.2.2.2.2.2.2.2.2.2.2.2.2.1
def dX10_offers_22 := bX10_offers_0.2.2.2.2.2.2.2.2.2.2.2.2.2.1
def dX10_offers_25 := bX10_offers_0.2.2.2.2.2.2.2.2.2.2.2.2.2.2.1
def dX10_offers_28 := bX10_offers_0.2.2.2.2.2.2.2.2.2.2.2.2.2.2.2
theorem bX10_offers_31 : decode cX10_offers 31 = .ok (.iconst 1, 1) ∧ decode cX10_offers 32 = .ok (.goto 4, 3) ∧ decode cX10_offers 35 = .ok (.iconst 0, 1) ∧ decode cX10_offers 36 = .ok (.invokevirtual 81, 3) ∧ decode cX10_offers 39 = .ok (.aload_n 0, 1) ∧ decode cX10_offers 40 = .ok (.getfield 39, 3) ∧ decode cX10_offers 43 = .ok (.getfield 232, 3) ∧ decode cX10_offers 46 = .ok (.iload_n 1, 1) ∧ decode cX10_offers 47 = .ok (.iload_n 2, 1) ∧ decode cX10_offers 48 = .ok (.iload_n 3, 1) ∧ decode cX10_offers 49 = .ok (.invokevirtual 236, 3) ∧ decode cX10_offers 52 = .ok (.ireturn, 1) := by decide +kernel
def dX10_offers_31 := bX10_offers_31.1
def dX10_offers_32 := bX10_offers_31.2.1
def dX10_offers_35 := bX10_offers_31.2.2.1
def dX10_offers_36 := bX10_offers_31.2.2.2.1
def dX10_offers_39 := bX10_offers_31.2.2.2.2.1
def dX10_offers_40 := bX10_offers_31.2.2.2.2.2.1
def dX10_offers_43 := bX10_offers_31.2.2.2.2.2.2.1
def dX10_offers_46 := bX10_offers_31.2.2.2.2.2.2.2.1
def dX10_offers_47 := bX10_offers_31.2.2.2.2.2.2.2.2.1
def dX10_offers_48 := bX10_offers_31.2.2.2.2.2.2.2.2.2.1
def dX10_offers_49 := bX10_offers_31.2.2.2.2.2.2.2.2.2.2.1
def dX10_offers_52 := bX10_offers_31.2.2.2.2.2.2.2.2.2.2.2
theorem ggX10_most_X3_mostCoin : GoodIn wsX10_most wsX3_mostCoin := gW_in gwX3_mostCoin (fun _ h => List.mem_cons_of_mem _ (List.mem_append_right _ (List.mem_append_right _ (List.mem_append_right _ (List.mem_append_right _ (h))))))
set_option maxRecDepth 20000 in
theorem gX10_most_X3_mostCoin : GoodIn wsX10_most (wsV RX10 239 RX3 yX3_mostCoin wsX3_mostCoin) := goodIn_app (goodIn_of _ (by decide +kernel)) ggX10_most_X3_mostCoin
theorem bX10_most_0 : decode cX10_most 0 = .ok (.aload_n 0, 1) ∧ decode cX10_most 1 = .ok (.getfield 39, 3) ∧ decode cX10_most 4 = .ok (.getfield 232, 3) ∧ decode cX10_most 7 = .ok (.invokevirtual 239, 3) ∧ decode cX10_most 10 = .ok (.ireturn, 1) := by decide +kernel
def dX10_most_0 := bX10_most_0.1
def dX10_most_1 := bX10_most_0.2.1
def dX10_most_4 := bX10_most_0.2.2.1
def dX10_most_7 := bX10_most_0.2.2.2.1
def dX10_most_10 := bX10_most_0.2.2.2.2
theorem ggX10_serves_X10_within : GoodIn wsX10_serves wsX10_within := gW_in gwX10_within (fun _ h => List.mem_cons_of_mem _ (List.mem_append_right _ (List.mem_append_right _ (List.mem_append_right _ (List.mem_append_right _ (List.mem_append_left _ h))))))
set_option maxRecDepth 20000 in
theorem gX10_serves_X10_within : GoodIn wsX10_serves (va_wsS RX10 107 yX10_within wsX10_within) := goodIn_app (goodIn_of _ (by decide +kernel)) ggX10_serves_X10_within
theorem ggX10_serves_X10_demand : GoodIn wsX10_serves wsX10_demand := gW_in gwX10_demand (fun _ h => List.mem_cons_of_mem _ (List.mem_append_right _ (List.mem_append_right _ (List.mem_append_right _ (List.mem_append_right _ (List.mem_append_right _ (List.mem_append_left _ h)))))))
set_option maxRecDepth 20000 in
theorem gX10_serves_X10_demand : GoodIn wsX10_serves (wsV RX10 81 RX10 yX10_demand wsX10_demand) := goodIn_app (goodIn_of _ (by decide +kernel)) ggX10_serves_X10_demand
theorem ggX10_serves_X3_served : GoodIn wsX10_serves wsX3_served := gW_in gwX3_served (fun _ h => List.mem_cons_of_mem _ (List.mem_append_right _ (List.mem_append_right _ (List.mem_append_right _ (List.mem_append_right _ (List.mem_append_right _ (List.mem_append_right _ (h))))))))
set_option maxRecDepth 20000 in
theorem gX10_serves_X3_served : GoodIn wsX10_serves (wsV RX10 242 RX3 yX3_served wsX3_served) := goodIn_app (goodIn_of _ (by decide +kernel)) ggX10_serves_X3_served
theorem bX10_serves_0 : decode cX10_serves 0 = .ok (.aload_n 0, 1) ∧ decode cX10_serves 1 = .ok (.iload_n 1, 1) ∧ decode cX10_serves 2 = .ok (.iconst 0, 1) ∧ decode cX10_serves 3 = .ok (.bipush 11, 2) ∧ decode cX10_serves 5 = .ok (.invokestatic 107, 3) ∧ decode cX10_serves 8 = .ok (.invokevirtual 81, 3) ∧ decode cX10_serves 11 = .ok (.aload_n 0, 1) ∧ decode cX10_serves 12 = .ok (.getfield 39, 3) ∧ decode cX10_serves 15 = .ok (.getfield 232, 3) ∧ decode cX10_serves 18 = .ok (.iload_n 1, 1) ∧ decode cX10_serves 19 = .ok (.invokevirtual 242, 3) ∧ decode cX10_serves 22 = .ok (.ireturn, 1) := by decide +kernel
def dX10_serves_0 := bX10_serves_0.1
def dX10_serves_1 := bX10_serves_0.2.1
def dX10_serves_2 := bX10_serves_0.2.2.1
def dX10_serves_3 := bX10_serves_0.2.2.2.1
def dX10_serves_5 := bX10_serves_0.2.2.2.2.1
def dX10_serves_8 := bX10_serves_0.2.2.2.2.2.1
def dX10_serves_11 := bX10_serves_0.2.2.2.2.2.2.1
def dX10_serves_12 := bX10_serves_0.2.2.2.2.2.2.2.1
def dX10_serves_15 := bX10_serves_0.2.2.2.2.2.2.2.2.1
def dX10_serves_18 := bX10_serves_0.2.2.2.2.2.2.2.2.2.1
def dX10_serves_19 := bX10_serves_0.2.2.2.2.2.2.2.2.2.2.1
def dX10_serves_22 := bX10_serves_0.2.2.2.2.2.2.2.2.2.2.2
theorem ggX10_image_X8_init : GoodIn wsX10_image wsX8_init := gW_in gwX8_init (fun _ h => List.mem_cons_of_mem _ (List.mem_append_right _ (List.mem_append_right _ (List.mem_append_right _ (List.mem_append_right _ (List.mem_append_right _ (List.mem_append_right _ (List.mem_append_right _ (List.mem_append_left _ h)))))))))
set_option maxRecDepth 20000 in
theorem gX10_image_X8_init_n38 : GoodIn wsX10_image (wsX8_init) := ggX10_image_X8_init
theorem ggX10_image_X8_take : GoodIn wsX10_image wsX8_take := gW_in gwX8_take (fun _ h => List.mem_cons_of_mem _ (List.mem_append_right _ (List.mem_append_right _ (List.mem_append_right _ (List.mem_append_right _ (List.mem_append_right _ (List.mem_append_right _ (List.mem_append_right _ (List.mem_append_right _ (h))))))))))
set_option maxRecDepth 20000 in
theorem gX10_image_X8_take : GoodIn wsX10_image (wsV RX10 245 RX8 yX8_take wsX8_take) := goodIn_app (goodIn_of _ (by decide +kernel)) ggX10_image_X8_take
theorem bX10_image_0 : decode cX10_image 0 = .ok (.aload_n 0, 1) ∧ decode cX10_image 1 = .ok (.getfield 95, 3) ∧ decode cX10_image 4 = .ok (.iconst 3, 1) ∧ decode cX10_image 5 = .ok (.if_icmp .lt 5, 3) ∧ decode cX10_image 8 = .ok (.iconst (-1), 1) ∧ decode cX10_image 9 = .ok (.ireturn, 1) ∧ decode cX10_image 10 = .ok (.aload_n 0, 1) ∧ decode cX10_image 11 = .ok (.getfield 43, 3) ∧ decode cX10_image 14 = .ok (.aload_n 0, 1) ∧ decode cX10_image 15 = .ok (.getfield 95, 3) ∧ decode cX10_image 18 = .ok (.aaload, 1) ∧ decode cX10_image 19 = .ok (.ifnonnull 19, 3) ∧ decode cX10_image 22 = .ok (.aload_n 0, 1) ∧ decode cX10_image 23 = .ok (.getfield 43, 3) ∧ decode cX10_image 26 = .ok (.aload_n 0, 1) ∧ decode cX10_image 27 = .ok (.getfield 95, 3) := by decide +kernel
def dX10_image_0 := bX10_image_0.1
def dX10_image_1 := bX10_image_0.2.1
def dX10_image_4 := bX10_image_0.2.2.1
def dX10_image_5 := bX10_image_0.2.2.2.1
def dX10_image_8 := bX10_image_0.2.2.2.2.1
def dX10_image_9 := bX10_image_0.2.2.2.2.2.1
def dX10_image_10 := bX10_image_0.2.2.2.2.2.2.1
def dX10_image_11 := bX10_image_0.2.2.2.2.2.2.2.1
def dX10_image_14 := bX10_image_0.2.2.2.2.2.2.2.2.1
def dX10_image_15 := bX10_image_0.2.2.2.2.2.2.2.2.2.1
def dX10_image_18 := bX10_image_0.2.2.2.2.2.2.2.2.2.2.1
def dX10_image_19 := bX10_image_0.2.2.2.2.2.2.2.2.2.2.2.1
def dX10_image_22 := bX10_image_0.2.2.2.2.2.2.2.2.2.2.2.2.1
def dX10_image_23 := bX10_image_0.2.2.2.2.2.2.2.2.2.2.2.2.2.1
def dX10_image_26 := bX10_image_0.2.2.2.2.2.2.2.2.2.2.2.2.2.2.1
def dX10_image_27 := bX10_image_0.2.2.2.2.2.2.2.2.2.2.2.2.2.2.2
theorem bX10_image_30 : decode cX10_image 30 = .ok (.new 36, 3) ∧ decode cX10_image 33 = .ok (.dup, 1) ∧ decode cX10_image 34 = .ok (.invokespecial 38, 3) ∧ decode cX10_image 37 = .ok (.aastore, 1) ∧ decode cX10_image 38 = .ok (.aload_n 0, 1) ∧ decode cX10_image 39 = .ok (.getfield 43, 3) ∧ decode cX10_image 42 = .ok (.aload_n 0, 1) ∧ decode cX10_image 43 = .ok (.getfield 95, 3) ∧ decode cX10_image 46 = .ok (.aaload, 1) ∧ decode cX10_image 47 = .ok (.aload_n 0, 1) ∧ decode cX10_image 48 = .ok (.getfield 39, 3) ∧ decode cX10_image 51 = .ok (.invokevirtual 245, 3) ∧ decode cX10_image 54 = .ok (.aload_n 0, 1) ∧ decode cX10_image 55 = .ok (.dup, 1) ∧ decode cX10_image 56 = .ok (.getfield 95, 3) ∧ decode cX10_image 59 = .ok (.iconst 1, 1) := by decide +kernel
def dX10_image_30 := bX10_image_30.1
def dX10_image_33 := bX10_image_30.2.1
def dX10_image_34 := bX10_image_30.2.2.1
def dX10_image_37 := bX10_image_30.2.2.2.1
def dX10_image_38 := bX10_image_30.2.2.2.2.1
def dX10_image_39 := bX10_image_30.2.2.2.2.2.1
def dX10_image_42 := bX10_image_30.2.2.2.2.2.2.1
def dX10_image_43 := bX10_image_30.2.2.2.2.2.2.2.1
def dX10_image_46 := bX10_image_30.2.2.2.2.2.2.2.2.1
def dX10_image_47 := bX10_image_30.2.2.2.2.2.2.2.2.2.1
def dX10_image_48 := bX10_image_30.2.2.2.2.2.2.2.2.2.2.1
def dX10_image_51 := bX10_image_30.2.2.2.2.2.2.2.2.2.2.2.1
def dX10_image_54 := bX10_image_30.2.2.2.2.2.2.2.2.2.2.2.2.1
def dX10_image_55 := bX10_image_30.2.2.2.2.2.2.2.2.2.2.2.2.2.1
def dX10_image_56 := bX10_image_30.2.2.2.2.2.2.2.2.2.2.2.2.2.2.1
def dX10_image_59 := bX10_image_30.2.2.2.2.2.2.2.2.2.2.2.2.2.2.2
theorem bX10_image_60 : decode cX10_image 60 = .ok (.iadd, 1) ∧ decode cX10_image 61 = .ok (.putfield 95, 3) ∧ decode cX10_image 64 = .ok (.aload_n 0, 1) ∧ decode cX10_image 65 = .ok (.getfield 95, 3) ∧ decode cX10_image 68 = .ok (.ireturn, 1) := by decide +kernel
def dX10_image_60 := bX10_image_60.1
def dX10_image_61 := bX10_image_60.2.1
def dX10_image_64 := bX10_image_60.2.2.1
def dX10_image_65 := bX10_image_60.2.2.2.1
def dX10_image_68 := bX10_image_60.2.2.2.2
theorem ggX10_restore_X8_take : GoodIn wsX10_restore wsX8_take := gW_in gwX8_take (fun _ h => List.mem_cons_of_mem _ (List.mem_append_right _ (List.mem_append_right _ (List.mem_append_right _ (List.mem_append_right _ (List.mem_append_right _ (List.mem_append_right _ (List.mem_append_right _ (h)))))))))
set_option maxRecDepth 20000 in
theorem gX10_restore_X8_take : GoodIn wsX10_restore (wsV RX10 245 RX8 yX8_take wsX8_take) := goodIn_app (goodIn_of _ (by decide +kernel)) ggX10_restore_X8_take
theorem bX10_restore_0 : decode cX10_restore 0 = .ok (.aload_n 0, 1) ∧ decode cX10_restore 1 = .ok (.getfield 95, 3) ∧ decode cX10_restore 4 = .ok (.ifCond .le 17, 3) ∧ decode cX10_restore 7 = .ok (.aload_n 0, 1) ∧ decode cX10_restore 8 = .ok (.getfield 43, 3) ∧ decode cX10_restore 11 = .ok (.aload_n 0, 1) ∧ decode cX10_restore 12 = .ok (.getfield 95, 3) ∧ decode cX10_restore 15 = .ok (.iconst 1, 1) ∧ decode cX10_restore 16 = .ok (.isub, 1) ∧ decode cX10_restore 17 = .ok (.aaload, 1) ∧ decode cX10_restore 18 = .ok (.ifnonnull 5, 3) ∧ decode cX10_restore 21 = .ok (.iconst (-1), 1) ∧ decode cX10_restore 22 = .ok (.ireturn, 1) ∧ decode cX10_restore 23 = .ok (.aload_n 0, 1) ∧ decode cX10_restore 24 = .ok (.dup, 1) ∧ decode cX10_restore 25 = .ok (.getfield 95, 3) := by decide +kernel
def dX10_restore_0 := bX10_restore_0.1
def dX10_restore_1 := bX10_restore_0.2.1
def dX10_restore_4 := bX10_restore_0.2.2.1
def dX10_restore_7 := bX10_restore_0.2.2.2.1
def dX10_restore_8 := bX10_restore_0.2.2.2.2.1
def dX10_restore_11 := bX10_restore_0.2.2.2.2.2.1
def dX10_restore_12 := bX10_restore_0.2.2.2.2.2.2.1
def dX10_restore_15 := bX10_restore_0.2.2.2.2.2.2.2.1
def dX10_restore_16 := bX10_restore_0.2.2.2.2.2.2.2.2.1
def dX10_restore_17 := bX10_restore_0.2.2.2.2.2.2.2.2.2.1
def dX10_restore_18 := bX10_restore_0.2.2.2.2.2.2.2.2.2.2.1
def dX10_restore_21 := bX10_restore_0.2.2.2.2.2.2.2.2.2.2.2.1
def dX10_restore_22 := bX10_restore_0.2.2.2.2.2.2.2.2.2.2.2.2.1
def dX10_restore_23 := bX10_restore_0.2.2.2.2.2.2.2.2.2.2.2.2.2.1
def dX10_restore_24 := bX10_restore_0.2.2.2.2.2.2.2.2.2.2.2.2.2.2.1
def dX10_restore_25 := bX10_restore_0.2.2.2.2.2.2.2.2.2.2.2.2.2.2.2
theorem bX10_restore_28 : decode cX10_restore 28 = .ok (.iconst 1, 1) ∧ decode cX10_restore 29 = .ok (.isub, 1) ∧ decode cX10_restore 30 = .ok (.putfield 95, 3) ∧ decode cX10_restore 33 = .ok (.aload_n 0, 1) ∧ decode cX10_restore 34 = .ok (.getfield 39, 3) ∧ decode cX10_restore 37 = .ok (.aload_n 0, 1) ∧ decode cX10_restore 38 = .ok (.getfield 43, 3) ∧ decode cX10_restore 41 = .ok (.aload_n 0, 1) ∧ decode cX10_restore 42 = .ok (.getfield 95, 3) ∧ decode cX10_restore 45 = .ok (.aaload, 1) ∧ decode cX10_restore 46 = .ok (.invokevirtual 245, 3) ∧ decode cX10_restore 49 = .ok (.aload_n 0, 1) ∧ decode cX10_restore 50 = .ok (.getfield 95, 3) ∧ decode cX10_restore 53 = .ok (.ireturn, 1) := by decide +kernel
def dX10_restore_28 := bX10_restore_28.1
def dX10_restore_29 := bX10_restore_28.2.1
def dX10_restore_30 := bX10_restore_28.2.2.1
end
section
def dX10_restore_33 := bX10_restore_28.2.2.2.1
def dX10_restore_34 := bX10_restore_28.2.2.2.2.1
def dX10_restore_37 := bX10_restore_28.2.2.2.2.2.1
def dX10_restore_38 := bX10_restore_28.2.2.2.2.2.2.1
def dX10_restore_41 := bX10_restore_28.2.2.2.2.2.2.2.1
def dX10_restore_42 := bX10_restore_28.2.2.2.2.2.2.2.2.1
def dX10_restore_45 := bX10_restore_28.2.2.2.2.2.2.2.2.2.1
def dX10_restore_46 := bX10_restore_28.2.2.2.2.2.2.2.2.2.2.1
def dX10_restore_49 := bX10_restore_28.2.2.2.2.2.2.2.2.2.2.2.1
def dX10_restore_50 := bX10_restore_28.2.2.2.2.2.2.2.2.2.2.2.2.1
def dX10_restore_53 := bX10_restore_28.2.2.2.2.2.2.2.2.2.2.2.2.2
theorem ggX10_status_X10_within : GoodIn wsX10_status wsX10_within := gW_in gwX10_within (fun _ h => List.mem_cons_of_mem _ (List.mem_append_right _ (List.mem_append_right _ (h))))
set_option maxRecDepth 20000 in
theorem gX10_status_X10_within : GoodIn wsX10_status (va_wsS RX10 107 yX10_within wsX10_within) := goodIn_app (goodIn_of _ (by decide +kernel)) ggX10_status_X10_within
theorem bX10_status_0 : decode cX10_status 0 = .ok (.iload_n 1, 1) ∧ decode cX10_status 1 = .ok (.iconst 0, 1) ∧ decode cX10_status 2 = .ok (.aload_n 0, 1) ∧ decode cX10_status 3 = .ok (.getfield 61, 3) ∧ decode cX10_status 6 = .ok (.arraylength, 1) ∧ decode cX10_status 7 = .ok (.iconst 1, 1) ∧ decode cX10_status 8 = .ok (.isub, 1) ∧ decode cX10_status 9 = .ok (.invokestatic 107, 3) ∧ decode cX10_status 12 = .ok (.ifCond .eq 12, 3) ∧ decode cX10_status 15 = .ok (.aload_n 0, 1) ∧ decode cX10_status 16 = .ok (.getfield 61, 3) ∧ decode cX10_status 19 = .ok (.iload_n 1, 1) ∧ decode cX10_status 20 = .ok (.iaload, 1) ∧ decode cX10_status 21 = .ok (.goto 4, 3) ∧ decode cX10_status 24 = .ok (.iconst (-1), 1) ∧ decode cX10_status 25 = .ok (.ireturn, 1) := by decide +kernel
def dX10_status_0 := bX10_status_0.1
def dX10_status_1 := bX10_status_0.2.1
def dX10_status_2 := bX10_status_0.2.2.1
def dX10_status_3 := bX10_status_0.2.2.2.1
def dX10_status_6 := bX10_status_0.2.2.2.2.1
def dX10_status_7 := bX10_status_0.2.2.2.2.2.1
def dX10_status_8 := bX10_status_0.2.2.2.2.2.2.1
def dX10_status_9 := bX10_status_0.2.2.2.2.2.2.2.1
def dX10_status_12 := bX10_status_0.2.2.2.2.2.2.2.2.1
def dX10_status_15 := bX10_status_0.2.2.2.2.2.2.2.2.2.1
def dX10_status_16 := bX10_status_0.2.2.2.2.2.2.2.2.2.2.1
def dX10_status_19 := bX10_status_0.2.2.2.2.2.2.2.2.2.2.2.1
def dX10_status_20 := bX10_status_0.2.2.2.2.2.2.2.2.2.2.2.2.1
def dX10_status_21 := bX10_status_0.2.2.2.2.2.2.2.2.2.2.2.2.2.1
def dX10_status_24 := bX10_status_0.2.2.2.2.2.2.2.2.2.2.2.2.2.2.1
def dX10_status_25 := bX10_status_0.2.2.2.2.2.2.2.2.2.2.2.2.2.2.2
theorem bX10_count_0 : decode cX10_count 0 = .ok (.iload_n 1, 1) ∧ decode cX10_count 1 = .ok (.tableswitch 48 0 2 #[27, 32, 37], 27) ∧ decode cX10_count 28 = .ok (.aload_n 0, 1) ∧ decode cX10_count 29 = .ok (.getfield 95, 3) ∧ decode cX10_count 32 = .ok (.ireturn, 1) ∧ decode cX10_count 33 = .ok (.aload_n 0, 1) ∧ decode cX10_count 34 = .ok (.getfield 73, 3) ∧ decode cX10_count 37 = .ok (.ireturn, 1) ∧ decode cX10_count 38 = .ok (.aload_n 0, 1) ∧ decode cX10_count 39 = .ok (.getfield 39, 3) ∧ decode cX10_count 42 = .ok (.getfield 189, 3) ∧ decode cX10_count 45 = .ok (.getfield 248, 3) ∧ decode cX10_count 48 = .ok (.ireturn, 1) ∧ decode cX10_count 49 = .ok (.iconst (-1), 1) ∧ decode cX10_count 50 = .ok (.ireturn, 1) := by decide +kernel
def dX10_count_0 := bX10_count_0.1
def dX10_count_1 := bX10_count_0.2.1
def dX10_count_28 := bX10_count_0.2.2.1
def dX10_count_29 := bX10_count_0.2.2.2.1
def dX10_count_32 := bX10_count_0.2.2.2.2.1
def dX10_count_33 := bX10_count_0.2.2.2.2.2.1
def dX10_count_34 := bX10_count_0.2.2.2.2.2.2.1
def dX10_count_37 := bX10_count_0.2.2.2.2.2.2.2.1
def dX10_count_38 := bX10_count_0.2.2.2.2.2.2.2.2.1
def dX10_count_39 := bX10_count_0.2.2.2.2.2.2.2.2.2.1
def dX10_count_42 := bX10_count_0.2.2.2.2.2.2.2.2.2.2.1
def dX10_count_45 := bX10_count_0.2.2.2.2.2.2.2.2.2.2.2.1
def dX10_count_48 := bX10_count_0.2.2.2.2.2.2.2.2.2.2.2.2.1
def dX10_count_49 := bX10_count_0.2.2.2.2.2.2.2.2.2.2.2.2.2.1
def dX10_count_50 := bX10_count_0.2.2.2.2.2.2.2.2.2.2.2.2.2.2
theorem bX10_within_0 : decode cX10_within 0 = .ok (.iload_n 0, 1) ∧ decode cX10_within 1 = .ok (.iload_n 1, 1) ∧ decode cX10_within 2 = .ok (.if_icmp .lt 12, 3) ∧ decode cX10_within 5 = .ok (.iload_n 0, 1) ∧ decode cX10_within 6 = .ok (.iload_n 2, 1) ∧ decode cX10_within 7 = .ok (.if_icmp .gt 7, 3) ∧ decode cX10_within 10 = .ok (.iconst 1, 1) ∧ decode cX10_within 11 = .ok (.goto 4, 3) ∧ decode cX10_within 14 = .ok (.iconst 0, 1) ∧ decode cX10_within 15 = .ok (.ireturn, 1) := by decide +kernel
def dX10_within_0 := bX10_within_0.1
def dX10_within_1 := bX10_within_0.2.1
def dX10_within_2 := bX10_within_0.2.2.1
def dX10_within_5 := bX10_within_0.2.2.2.1
def dX10_within_6 := bX10_within_0.2.2.2.2.1
def dX10_within_7 := bX10_within_0.2.2.2.2.2.1
def dX10_within_10 := bX10_within_0.2.2.2.2.2.2.1
def dX10_within_11 := bX10_within_0.2.2.2.2.2.2.2.1
def dX10_within_14 := bX10_within_0.2.2.2.2.2.2.2.2.1
def dX10_within_15 := bX10_within_0.2.2.2.2.2.2.2.2.2
theorem bX10_demand_0 : decode cX10_demand 0 = .ok (.iload_n 1, 1) ∧ decode cX10_demand 1 = .ok (.ifCond .ne 23, 3) ∧ decode cX10_demand 4 = .ok (.aload_n 0, 1) ∧ decode cX10_demand 5 = .ok (.getfield 61, 3) ∧ decode cX10_demand 8 = .ok (.iconst 2, 1) ∧ decode cX10_demand 9 = .ok (.dup2, 1) ∧ decode cX10_demand 10 = .ok (.iaload, 1) ∧ decode cX10_demand 11 = .ok (.iconst 1, 1) ∧ decode cX10_demand 12 = .ok (.iadd, 1) ∧ decode cX10_demand 13 = .ok (.iastore, 1) ∧ decode cX10_demand 14 = .ok (.new 251, 3) ∧ decode cX10_demand 17 = .ok (.dup, 1) ∧ decode cX10_demand 18 = .ok (.ldc 253, 2) ∧ decode cX10_demand 20 = .ok (.invokespecial 255, 3) ∧ decode cX10_demand 23 = .ok (.athrow, 1) ∧ decode cX10_demand 24 = .ok (.return_, 1) := by decide +kernel
def dX10_demand_0 := bX10_demand_0.1
def dX10_demand_1 := bX10_demand_0.2.1
def dX10_demand_4 := bX10_demand_0.2.2.1
def dX10_demand_5 := bX10_demand_0.2.2.2.1
def dX10_demand_8 := bX10_demand_0.2.2.2.2.1
def dX10_demand_9 := bX10_demand_0.2.2.2.2.2.1
def dX10_demand_10 := bX10_demand_0.2.2.2.2.2.2.1
def dX10_demand_11 := bX10_demand_0.2.2.2.2.2.2.2.1
def dX10_demand_12 := bX10_demand_0.2.2.2.2.2.2.2.2.1
def dX10_demand_13 := bX10_demand_0.2.2.2.2.2.2.2.2.2.1
def dX10_demand_14 := bX10_demand_0.2.2.2.2.2.2.2.2.2.2.1
def dX10_demand_17 := bX10_demand_0.2.2.2.2.2.2.2.2.2.2.2.1
def dX10_demand_18 := bX10_demand_0.2.2.2.2.2.2.2.2.2.2.2.2.1
def dX10_demand_20 := bX10_demand_0.2.2.2.2.2.2.2.2.2.2.2.2.2.1
def dX10_demand_23 := bX10_demand_0.2.2.2.2.2.2.2.2.2.2.2.2.2.2.1
def dX10_demand_24 := bX10_demand_0.2.2.2.2.2.2.2.2.2.2.2.2.2.2.2
theorem ggX10_demandWall_X10_within : GoodIn wsX10_demandWall wsX10_within := gW_in gwX10_within (fun _ h => List.mem_cons_of_mem _ (List.mem_append_right _ (List.mem_append_right _ (List.mem_append_right _ (List.mem_append_right _ (h))))))
set_option maxRecDepth 20000 in
theorem gX10_demandWall_X10_within : GoodIn wsX10_demandWall (va_wsS RX10 107 yX10_within wsX10_within) := goodIn_app (goodIn_of _ (by decide +kernel)) ggX10_demandWall_X10_within
theorem bX10_demandWall_0 : decode cX10_demandWall 0 = .ok (.iload_n 1, 1) ∧ decode cX10_demandWall 1 = .ok (.iconst 0, 1) ∧ decode cX10_demandWall 2 = .ok (.aload_n 0, 1) ∧ decode cX10_demandWall 3 = .ok (.getfield 23, 3) ∧ decode cX10_demandWall 6 = .ok (.getfield 99, 3) ∧ decode cX10_demandWall 9 = .ok (.iconst 1, 1) ∧ decode cX10_demandWall 10 = .ok (.isub, 1) ∧ decode cX10_demandWall 11 = .ok (.invokestatic 107, 3) ∧ decode cX10_demandWall 14 = .ok (.ifCond .ne 24, 3) ∧ decode cX10_demandWall 17 = .ok (.aload_n 0, 1) ∧ decode cX10_demandWall 18 = .ok (.getfield 61, 3) ∧ decode cX10_demandWall 21 = .ok (.iconst 1, 1) ∧ decode cX10_demandWall 22 = .ok (.dup2, 1) ∧ decode cX10_demandWall 23 = .ok (.iaload, 1) ∧ decode cX10_demandWall 24 = .ok (.iconst 1, 1) ∧ decode cX10_demandWall 25 = .ok (.iadd, 1) := by decide +kernel
def dX10_demandWall_0 := bX10_demandWall_0.1
def dX10_demandWall_1 := bX10_demandWall_0.2.1
def dX10_demandWall_2 := bX10_demandWall_0.2.2.1
def dX10_demandWall_3 := bX10_demandWall_0.2.2.2.1
def dX10_demandWall_6 := bX10_demandWall_0.2.2.2.2.1
def dX10_demandWall_9 := bX10_demandWall_0.2.2.2.2.2.1
def dX10_demandWall_10 := bX10_demandWall_0.2.2.2.2.2.2.1
def dX10_demandWall_11 := bX10_demandWall_0.2.2.2.2.2.2.2.1
def dX10_demandWall_14 := bX10_demandWall_0.2.2.2.2.2.2.2.2.1
def dX10_demandWall_17 := bX10_demandWall_0.2.2.2.2.2.2.2.2.2.1
def dX10_demandWall_18 := bX10_demandWall_0.2.2.2.2.2.2.2.2.2.2.1
def dX10_demandWall_21 := bX10_demandWall_0.2.2.2.2.2.2.2.2.2.2.2.1
def dX10_demandWall_22 := bX10_demandWall_0.2.2.2.2.2.2.2.2.2.2.2.2.1
def dX10_demandWall_23 := bX10_demandWall_0.2.2.2.2.2.2.2.2.2.2.2.2.2.1
def dX10_demandWall_24 := bX10_demandWall_0.2.2.2.2.2.2.2.2.2.2.2.2.2.2.1
def dX10_demandWall_25 := bX10_demandWall_0.2.2.2.2.2.2.2.2.2.2.2.2.2.2.2
theorem bX10_demandWall_26 : decode cX10_demandWall 26 = .ok (.iastore, 1) ∧ decode cX10_demandWall 27 = .ok (.new 258, 3) ∧ decode cX10_demandWall 30 = .ok (.dup, 1) ∧ decode cX10_demandWall 31 = .ok (.ldc_w 260, 3) ∧ decode cX10_demandWall 34 = .ok (.invokespecial 262, 3) ∧ decode cX10_demandWall 37 = .ok (.athrow, 1) ∧ decode cX10_demandWall 38 = .ok (.return_, 1) := by decide +kernel
def dX10_demandWall_26 := bX10_demandWall_26.1
def dX10_demandWall_27 := bX10_demandWall_26.2.1
def dX10_demandWall_30 := bX10_demandWall_26.2.2.1
def dX10_demandWall_31 := bX10_demandWall_26.2.2.2.1
def dX10_demandWall_34 := bX10_demandWall_26.2.2.2.2.1
def dX10_demandWall_37 := bX10_demandWall_26.2.2.2.2.2.1
def dX10_demandWall_38 := bX10_demandWall_26.2.2.2.2.2.2
theorem ggX10_demandContract_X10_within : GoodIn wsX10_demandContract wsX10_within := gW_in gwX10_within (fun _ h => List.mem_cons_of_mem _ (List.mem_append_right _ (List.mem_append_right _ (List.mem_append_right _ (h)))))
set_option maxRecDepth 20000 in
theorem gX10_demandContract_X10_within : GoodIn wsX10_demandContract (va_wsS RX10 107 yX10_within wsX10_within) := goodIn_app (goodIn_of _ (by decide +kernel)) ggX10_demandContract_X10_within
theorem bX10_demandContract_0 : decode cX10_demandContract 0 = .ok (.iload_n 1, 1) ∧ decode cX10_demandContract 1 = .ok (.iconst 0, 1) ∧ decode cX10_demandContract 2 = .ok (.aload_n 0, 1) ∧ decode cX10_demandContract 3 = .ok (.getfield 92, 3) ∧ decode cX10_demandContract 6 = .ok (.iconst 1, 1) ∧ decode cX10_demandContract 7 = .ok (.isub, 1) ∧ decode cX10_demandContract 8 = .ok (.invokestatic 107, 3) ∧ decode cX10_demandContract 11 = .ok (.ifCond .ne 24, 3) ∧ decode cX10_demandContract 14 = .ok (.aload_n 0, 1) ∧ decode cX10_demandContract 15 = .ok (.getfield 61, 3) ∧ decode cX10_demandContract 18 = .ok (.iconst 0, 1) ∧ decode cX10_demandContract 19 = .ok (.dup2, 1) ∧ decode cX10_demandContract 20 = .ok (.iaload, 1) ∧ decode cX10_demandContract 21 = .ok (.iconst 1, 1) ∧ decode cX10_demandContract 22 = .ok (.iadd, 1) ∧ decode cX10_demandContract 23 = .ok (.iastore, 1) := by decide +kernel
def dX10_demandContract_0 := bX10_demandContract_0.1
def dX10_demandContract_1 := bX10_demandContract_0.2.1
def dX10_demandContract_2 := bX10_demandContract_0.2.2.1
def dX10_demandContract_3 := bX10_demandContract_0.2.2.2.1
def dX10_demandContract_6 := bX10_demandContract_0.2.2.2.2.1
def dX10_demandContract_7 := bX10_demandContract_0.2.2.2.2.2.1
def dX10_demandContract_8 := bX10_demandContract_0.2.2.2.2.2.2.1
def dX10_demandContract_11 := bX10_demandContract_0.2.2.2.2.2.2.2.1
def dX10_demandContract_14 := bX10_demandContract_0.2.2.2.2.2.2.2.2.1
def dX10_demandContract_15 := bX10_demandContract_0.2.2.2.2.2.2.2.2.2.1
def dX10_demandContract_18 := bX10_demandContract_0.2.2.2.2.2.2.2.2.2.2.1
def dX10_demandContract_19 := bX10_demandContract_0.2.2.2.2.2.2.2.2.2.2.2.1
def dX10_demandContract_20 := bX10_demandContract_0.2.2.2.2.2.2.2.2.2.2.2.2.1
def dX10_demandContract_21 := bX10_demandContract_0.2.2.2.2.2.2.2.2.2.2.2.2.2.1
def dX10_demandContract_22 := bX10_demandContract_0.2.2.2.2.2.2.2.2.2.2.2.2.2.2.1
def dX10_demandContract_23 := bX10_demandContract_0.2.2.2.2.2.2.2.2.2.2.2.2.2.2.2
theorem bX10_demandContract_24 : decode cX10_demandContract 24 = .ok (.new 263, 3) ∧ decode cX10_demandContract 27 = .ok (.dup, 1) ∧ decode cX10_demandContract 28 = .ok (.ldc_w 265, 3) ∧ decode cX10_demandContract 31 = .ok (.invokespecial 267, 3) ∧ decode cX10_demandContract 34 = .ok (.athrow, 1) ∧ decode cX10_demandContract 35 = .ok (.return_, 1) := by decide +kernel
def dX10_demandContract_24 := bX10_demandContract_24.1
def dX10_demandContract_27 := bX10_demandContract_24.2.1
def dX10_demandContract_28 := bX10_demandContract_24.2.2.1
def dX10_demandContract_31 := bX10_demandContract_24.2.2.2.1
def dX10_demandContract_34 := bX10_demandContract_24.2.2.2.2.1
def dX10_demandContract_35 := bX10_demandContract_24.2.2.2.2.2
theorem ggX10_demandContractOrNone_X10_demandContract : GoodIn wsX10_demandContractOrNone wsX10_demandContract := gW_in gwX10_demandContract (fun _ h => List.mem_cons_of_mem _ (List.mem_append_right _ (List.mem_append_right _ (h))))
set_option maxRecDepth 20000 in
theorem gX10_demandContractOrNone_X10_demandContract : GoodIn wsX10_demandContractOrNone (wsV RX10 126 RX10 yX10_demandContract wsX10_demandContract) := goodIn_app (goodIn_of _ (by decide +kernel)) ggX10_demandContractOrNone_X10_demandContract
theorem bX10_demandContractOrNone_0 : decode cX10_demandContractOrNone 0 = .ok (.iload_n 1, 1) ∧ decode cX10_demandContractOrNone 1 = .ok (.iconst (-1), 1) ∧ decode cX10_demandContractOrNone 2 = .ok (.if_icmp .eq 8, 3) ∧ decode cX10_demandContractOrNone 5 = .ok (.aload_n 0, 1) ∧ decode cX10_demandContractOrNone 6 = .ok (.iload_n 1, 1) ∧ decode cX10_demandContractOrNone 7 = .ok (.invokevirtual 126, 3) ∧ decode cX10_demandContractOrNone 10 = .ok (.return_, 1) := by decide +kernel
def dX10_demandContractOrNone_0 := bX10_demandContractOrNone_0.1
def dX10_demandContractOrNone_1 := bX10_demandContractOrNone_0.2.1
def dX10_demandContractOrNone_2 := bX10_demandContractOrNone_0.2.2.1
def dX10_demandContractOrNone_5 := bX10_demandContractOrNone_0.2.2.2.1
def dX10_demandContractOrNone_6 := bX10_demandContractOrNone_0.2.2.2.2.1
def dX10_demandContractOrNone_7 := bX10_demandContractOrNone_0.2.2.2.2.2.1
def dX10_demandContractOrNone_10 := bX10_demandContractOrNone_0.2.2.2.2.2.2
theorem ggX10_inForce_X10_within : GoodIn wsX10_inForce wsX10_within := gW_in gwX10_within (fun _ h => List.mem_cons_of_mem _ (List.mem_append_right _ (List.mem_append_right _ (List.mem_append_right _ (h)))))
set_option maxRecDepth 20000 in
theorem gX10_inForce_X10_within : GoodIn wsX10_inForce (va_wsS RX10 107 yX10_within wsX10_within) := goodIn_app (goodIn_of _ (by decide +kernel)) ggX10_inForce_X10_within
theorem bX10_inForce_0 : decode cX10_inForce 0 = .ok (.aload_n 1, 1) ∧ decode cX10_inForce 1 = .ok (.getfield 111, 3) ∧ decode cX10_inForce 4 = .ok (.bipush 10, 2) ∧ decode cX10_inForce 6 = .ok (.iaload, 1) ∧ decode cX10_inForce 7 = .ok (.istore_n 2, 1) ∧ decode cX10_inForce 8 = .ok (.iload_n 2, 1) ∧ decode cX10_inForce 9 = .ok (.iconst 0, 1) ∧ decode cX10_inForce 10 = .ok (.bipush 6, 2) ∧ decode cX10_inForce 12 = .ok (.invokestatic 107, 3) ∧ decode cX10_inForce 15 = .ok (.ifCond .eq 12, 3) ∧ decode cX10_inForce 18 = .ok (.aload_n 0, 1) ∧ decode cX10_inForce 19 = .ok (.getfield 32, 3) ∧ decode cX10_inForce 22 = .ok (.iload_n 2, 1) ∧ decode cX10_inForce 23 = .ok (.aaload, 1) ∧ decode cX10_inForce 24 = .ok (.goto 4, 3) ∧ decode cX10_inForce 27 = .ok (.aconst_null, 1) := by decide +kernel
def dX10_inForce_0 := bX10_inForce_0.1
def dX10_inForce_1 := bX10_inForce_0.2.1
def dX10_inForce_4 := bX10_inForce_0.2.2.1
def dX10_inForce_6 := bX10_inForce_0.2.2.2.1
def dX10_inForce_7 := bX10_inForce_0.2.2.2.2.1
def dX10_inForce_8 := bX10_inForce_0.2.2.2.2.2.1
def dX10_inForce_9 := bX10_inForce_0.2.2.2.2.2.2.1
def dX10_inForce_10 := bX10_inForce_0.2.2.2.2.2.2.2.1
def dX10_inForce_12 := bX10_inForce_0.2.2.2.2.2.2.2.2.1
def dX10_inForce_15 := bX10_inForce_0.2.2.2.2.2.2.2.2.2.1
def dX10_inForce_18 := bX10_inForce_0.2.2.2.2.2.2.2.2.2.2.1
def dX10_inForce_19 := bX10_inForce_0.2.2.2.2.2.2.2.2.2.2.2.1
def dX10_inForce_22 := bX10_inForce_0.2.2.2.2.2.2.2.2.2.2.2.2.1
def dX10_inForce_23 := bX10_inForce_0.2.2.2.2.2.2.2.2.2.2.2.2.2.1
def dX10_inForce_24 := bX10_inForce_0.2.2.2.2.2.2.2.2.2.2.2.2.2.2.1
def dX10_inForce_27 := bX10_inForce_0.2.2.2.2.2.2.2.2.2.2.2.2.2.2.2
theorem dX10_inForce_28 : decode cX10_inForce 28 = .ok (.areturn, 1) := by decide +kernel
theorem ggX10_passTried_X10_inForce : GoodIn wsX10_passTried wsX10_inForce := gW_in gwX10_inForce (fun _ h => List.mem_cons_of_mem _ (List.mem_append_right _ (List.mem_append_right _ (List.mem_append_right _ (List.mem_append_right _ (List.mem_append_right _ (List.mem_append_left _ h)))))))
set_option maxRecDepth 20000 in
theorem gX10_passTried_X10_inForce : GoodIn wsX10_passTried (wsV RX10 153 RX10 yX10_inForce wsX10_inForce) := goodIn_app (goodIn_of _ (by decide +kernel)) ggX10_passTried_X10_inForce
theorem ggX10_passTried_X4_pass : GoodIn wsX10_passTried wsX4_pass := gW_in gwX4_pass (fun _ h => List.mem_cons_of_mem _ (List.mem_append_right _ (List.mem_append_right _ (List.mem_append_right _ (List.mem_append_right _ (List.mem_append_right _ (List.mem_append_right _ (h))))))))
set_option maxRecDepth 20000 in
theorem gX10_passTried_X4_pass : GoodIn wsX10_passTried (wsV RX10 157 RX4 yX4_pass wsX4_pass) := goodIn_app (goodIn_of _ (by decide +kernel)) ggX10_passTried_X4_pass
theorem bX10_passTried_0 : decode cX10_passTried 0 = .ok (.iconst 0, 1) ∧ decode cX10_passTried 1 = .ok (.istore_n 2, 1) ∧ decode cX10_passTried 2 = .ok (.iload_n 2, 1) ∧ decode cX10_passTried 3 = .ok (.iload_n 1, 1) ∧ decode cX10_passTried 4 = .ok (.if_icmp .ge 40, 3) ∧ decode cX10_passTried 7 = .ok (.aload_n 0, 1) ∧ decode cX10_passTried 8 = .ok (.getfield 50, 3) ∧ decode cX10_passTried 11 = .ok (.getfield 114, 3) ∧ decode cX10_passTried 14 = .ok (.bipush 120, 2) ∧ decode cX10_passTried 16 = .ok (.if_icmp .ge 28, 3) ∧ decode cX10_passTried 19 = .ok (.aload_n 0, 1) ∧ decode cX10_passTried 20 = .ok (.getfield 50, 3) ∧ decode cX10_passTried 23 = .ok (.aload_n 0, 1) ∧ decode cX10_passTried 24 = .ok (.getfield 23, 3) ∧ decode cX10_passTried 27 = .ok (.aload_n 0, 1) ∧ decode cX10_passTried 28 = .ok (.aload_n 0, 1) := by decide +kernel
def dX10_passTried_0 := bX10_passTried_0.1
def dX10_passTried_1 := bX10_passTried_0.2.1
def dX10_passTried_2 := bX10_passTried_0.2.2.1
def dX10_passTried_3 := bX10_passTried_0.2.2.2.1
def dX10_passTried_4 := bX10_passTried_0.2.2.2.2.1
def dX10_passTried_7 := bX10_passTried_0.2.2.2.2.2.1
def dX10_passTried_8 := bX10_passTried_0.2.2.2.2.2.2.1
def dX10_passTried_11 := bX10_passTried_0.2.2.2.2.2.2.2.1
def dX10_passTried_14 := bX10_passTried_0.2.2.2.2.2.2.2.2.1
def dX10_passTried_16 := bX10_passTried_0.2.2.2.2.2.2.2.2.2.1
def dX10_passTried_19 := bX10_passTried_0.2.2.2.2.2.2.2.2.2.2.1
def dX10_passTried_20 := bX10_passTried_0.2.2.2.2.2.2.2.2.2.2.2.1
def dX10_passTried_23 := bX10_passTried_0.2.2.2.2.2.2.2.2.2.2.2.2.1
def dX10_passTried_24 := bX10_passTried_0.2.2.2.2.2.2.2.2.2.2.2.2.2.1
def dX10_passTried_27 := bX10_passTried_0.2.2.2.2.2.2.2.2.2.2.2.2.2.2.1
def dX10_passTried_28 := bX10_passTried_0.2.2.2.2.2.2.2.2.2.2.2.2.2.2.2
theorem bX10_passTried_29 : decode cX10_passTried 29 = .ok (.getfield 50, 3) ∧ decode cX10_passTried 32 = .ok (.invokevirtual 153, 3) ∧ decode cX10_passTried 35 = .ok (.invokevirtual 157, 3) ∧ decode cX10_passTried 38 = .ok (.iinc 2 1, 3) ∧ decode cX10_passTried 41 = .ok (.goto (-39), 3) ∧ decode cX10_passTried 44 = .ok (.return_, 1) := by decide +kernel
def dX10_passTried_29 := bX10_passTried_29.1
def dX10_passTried_32 := bX10_passTried_29.2.1
def dX10_passTried_35 := bX10_passTried_29.2.2.1
def dX10_passTried_38 := bX10_passTried_29.2.2.2.1
def dX10_passTried_41 := bX10_passTried_29.2.2.2.2.1
def dX10_passTried_44 := bX10_passTried_29.2.2.2.2.2
theorem ggX10_trySigned_X4_take : GoodIn wsX10_trySigned wsX4_take := gW_in gwX4_take (fun _ h => List.mem_cons_of_mem _ (List.mem_append_right _ (List.mem_append_right _ (List.mem_append_right _ (List.mem_append_right _ (List.mem_append_right _ (List.mem_append_right _ (List.mem_append_left _ h))))))))
set_option maxRecDepth 20000 in
theorem gX10_trySigned_X4_take : GoodIn wsX10_trySigned (wsV RX10 183 RX4 yX4_take wsX4_take) := goodIn_app (goodIn_of _ (by decide +kernel)) ggX10_trySigned_X4_take
theorem ggX10_trySigned_X4_pledge : GoodIn wsX10_trySigned wsX4_pledge := gW_in gwX4_pledge (fun _ h => List.mem_cons_of_mem _ (List.mem_append_right _ (List.mem_append_right _ (List.mem_append_right _ (List.mem_append_right _ (List.mem_append_right _ (List.mem_append_right _ (List.mem_append_right _ (List.mem_append_left _ h)))))))))
set_option maxRecDepth 20000 in
theorem gX10_trySigned_X4_pledge : GoodIn wsX10_trySigned (wsV RX10 140 RX4 yX4_pledge wsX4_pledge) := goodIn_app (goodIn_of _ (by decide +kernel)) ggX10_trySigned_X4_pledge
theorem ggX10_trySigned_X10_passTried : GoodIn wsX10_trySigned wsX10_passTried := gW_in gwX10_passTried (fun _ h => List.mem_cons_of_mem _ (List.mem_append_right _ (List.mem_append_right _ (List.mem_append_right _ (List.mem_append_right _ (List.mem_append_right _ (List.mem_append_right _ (List.mem_append_right _ (List.mem_append_right _ (h))))))))))
set_option maxRecDepth 20000 in
theorem gX10_trySigned_X10_passTried : GoodIn wsX10_trySigned (wsV RX10 186 RX10 yX10_passTried wsX10_passTried) := goodIn_app (goodIn_of _ (by decide +kernel)) ggX10_trySigned_X10_passTried
theorem bX10_trySigned_0 : decode cX10_trySigned 0 = .ok (.aload_n 0, 1) ∧ decode cX10_trySigned 1 = .ok (.getfield 50, 3) ∧ decode cX10_trySigned 4 = .ok (.aload_n 0, 1) ∧ decode cX10_trySigned 5 = .ok (.getfield 39, 3) ∧ decode cX10_trySigned 8 = .ok (.getfield 66, 3) ∧ decode cX10_trySigned 11 = .ok (.invokevirtual 183, 3) ∧ decode cX10_trySigned 14 = .ok (.aload_n 0, 1) ∧ decode cX10_trySigned 15 = .ok (.getfield 50, 3) ∧ decode cX10_trySigned 18 = .ok (.iload_n 1, 1) ∧ decode cX10_trySigned 19 = .ok (.invokevirtual 140, 3) ∧ decode cX10_trySigned 22 = .ok (.aload_n 0, 1) ∧ decode cX10_trySigned 23 = .ok (.iload_n 2, 1) ∧ decode cX10_trySigned 24 = .ok (.invokevirtual 186, 3) ∧ decode cX10_trySigned 27 = .ok (.aload_n 0, 1) ∧ decode cX10_trySigned 28 = .ok (.getfield 50, 3) ∧ decode cX10_trySigned 31 = .ok (.getfield 111, 3) := by decide +kernel
def dX10_trySigned_0 := bX10_trySigned_0.1
def dX10_trySigned_1 := bX10_trySigned_0.2.1
def dX10_trySigned_4 := bX10_trySigned_0.2.2.1
def dX10_trySigned_5 := bX10_trySigned_0.2.2.2.1
def dX10_trySigned_8 := bX10_trySigned_0.2.2.2.2.1
def dX10_trySigned_11 := bX10_trySigned_0.2.2.2.2.2.1
def dX10_trySigned_14 := bX10_trySigned_0.2.2.2.2.2.2.1
def dX10_trySigned_15 := bX10_trySigned_0.2.2.2.2.2.2.2.1
def dX10_trySigned_18 := bX10_trySigned_0.2.2.2.2.2.2.2.2.1
def dX10_trySigned_19 := bX10_trySigned_0.2.2.2.2.2.2.2.2.2.1
def dX10_trySigned_22 := bX10_trySigned_0.2.2.2.2.2.2.2.2.2.2.1
def dX10_trySigned_23 := bX10_trySigned_0.2.2.2.2.2.2.2.2.2.2.2.1
def dX10_trySigned_24 := bX10_trySigned_0.2.2.2.2.2.2.2.2.2.2.2.2.1
def dX10_trySigned_27 := bX10_trySigned_0.2.2.2.2.2.2.2.2.2.2.2.2.2.1
def dX10_trySigned_28 := bX10_trySigned_0.2.2.2.2.2.2.2.2.2.2.2.2.2.2.1
def dX10_trySigned_31 := bX10_trySigned_0.2.2.2.2.2.2.2.2.2.2.2.2.2.2.2
theorem bX10_trySigned_34 : decode cX10_trySigned 34 = .ok (.iconst 0, 1) ∧ decode cX10_trySigned 35 = .ok (.iaload, 1) ∧ decode cX10_trySigned 36 = .ok (.ireturn, 1) := by decide +kernel
def dX10_trySigned_34 := bX10_trySigned_34.1
def dX10_trySigned_35 := bX10_trySigned_34.2.1
def dX10_trySigned_36 := bX10_trySigned_34.2.2
theorem ggJ0_length_8abf5_J0_coder_7d493 : GoodIn wsJ0_length_8abf5 wsJ0_coder_7d493 := gW_in gwJ0_coder_7d493 (fun _ h => List.mem_cons_of_mem _ (List.mem_append_right _ (h)))
set_option maxRecDepth 20000 in
theorem gJ0_length_8abf5_J0_coder_7d493 : GoodIn wsJ0_length_8abf5 (wsV RJ0 335 RJ0 yJ0_coder_7d493 wsJ0_coder_7d493) := goodIn_app (goodIn_of _ (by decide +kernel)) ggJ0_length_8abf5_J0_coder_7d493
theorem bJ0_length_8abf5_0 : decode cJ0_length_8abf5 0 = .ok (.aload_n 0, 1) ∧ decode cJ0_length_8abf5 1 = .ok (.getfield 9, 3) ∧ decode cJ0_length_8abf5 4 = .ok (.arraylength, 1) ∧ decode cJ0_length_8abf5 5 = .ok (.aload_n 0, 1) ∧ decode cJ0_length_8abf5 6 = .ok (.invokevirtual 335, 3) ∧ decode cJ0_length_8abf5 9 = .ok (.ishr, 1) ∧ decode cJ0_length_8abf5 10 = .ok (.ireturn, 1) := by decide +kernel
def dJ0_length_8abf5_0 := bJ0_length_8abf5_0.1
def dJ0_length_8abf5_1 := bJ0_length_8abf5_0.2.1
def dJ0_length_8abf5_4 := bJ0_length_8abf5_0.2.2.1
def dJ0_length_8abf5_5 := bJ0_length_8abf5_0.2.2.2.1
def dJ0_length_8abf5_6 := bJ0_length_8abf5_0.2.2.2.2.1
def dJ0_length_8abf5_9 := bJ0_length_8abf5_0.2.2.2.2.2.1
def dJ0_length_8abf5_10 := bJ0_length_8abf5_0.2.2.2.2.2.2
theorem ggJ0_charAt_5068e_J0_isLatin1_aae02 : GoodIn wsJ0_charAt_5068e wsJ0_isLatin1_aae02 := gW_in gwJ0_isLatin1_aae02 (fun _ h => List.mem_cons_of_mem _ (List.mem_append_right _ (List.mem_append_left _ h)))
set_option maxRecDepth 20000 in
theorem gJ0_charAt_5068e_J0_isLatin1_aae02 : GoodIn wsJ0_charAt_5068e (wsV RJ0 492 RJ0 yJ0_isLatin1_aae02 wsJ0_isLatin1_aae02) := goodIn_app (goodIn_of _ (by decide +kernel)) ggJ0_charAt_5068e_J0_isLatin1_aae02
theorem ggJ0_charAt_5068e_J1_charAt_3b067 : GoodIn wsJ0_charAt_5068e wsJ1_charAt_3b067 := gW_in gwJ1_charAt_3b067 (fun _ h => List.mem_cons_of_mem _ (List.mem_append_right _ (List.mem_append_right _ (List.mem_append_left _ h))))
set_option maxRecDepth 20000 in
theorem gJ0_charAt_5068e_J1_charAt_3b067 : GoodIn wsJ0_charAt_5068e (va_wsS RJ0 495 yJ1_charAt_3b067 wsJ1_charAt_3b067) := goodIn_app (goodIn_of _ (by decide +kernel)) ggJ0_charAt_5068e_J1_charAt_3b067
theorem bJ0_charAt_5068e_0 : decode cJ0_charAt_5068e 0 = .ok (.aload_n 0, 1) ∧ decode cJ0_charAt_5068e 1 = .ok (.invokevirtual 492, 3) ∧ decode cJ0_charAt_5068e 4 = .ok (.ifCond .eq 12, 3) ∧ decode cJ0_charAt_5068e 7 = .ok (.aload_n 0, 1) ∧ decode cJ0_charAt_5068e 8 = .ok (.getfield 9, 3) ∧ decode cJ0_charAt_5068e 11 = .ok (.iload_n 1, 1) ∧ decode cJ0_charAt_5068e 12 = .ok (.invokestatic 495, 3) ∧ decode cJ0_charAt_5068e 15 = .ok (.ireturn, 1) ∧ decode cJ0_charAt_5068e 16 = .ok (.aload_n 0, 1) ∧ decode cJ0_charAt_5068e 17 = .ok (.getfield 9, 3) ∧ decode cJ0_charAt_5068e 20 = .ok (.iload_n 1, 1) ∧ decode cJ0_charAt_5068e 21 = .ok (.invokestatic 498, 3) ∧ decode cJ0_charAt_5068e 24 = .ok (.ireturn, 1) := by decide +kernel
def dJ0_charAt_5068e_0 := bJ0_charAt_5068e_0.1
def dJ0_charAt_5068e_1 := bJ0_charAt_5068e_0.2.1
def dJ0_charAt_5068e_4 := bJ0_charAt_5068e_0.2.2.1
def dJ0_charAt_5068e_7 := bJ0_charAt_5068e_0.2.2.2.1
def dJ0_charAt_5068e_8 := bJ0_charAt_5068e_0.2.2.2.2.1
def dJ0_charAt_5068e_11 := bJ0_charAt_5068e_0.2.2.2.2.2.1
def dJ0_charAt_5068e_12 := bJ0_charAt_5068e_0.2.2.2.2.2.2.1
def dJ0_charAt_5068e_15 := bJ0_charAt_5068e_0.2.2.2.2.2.2.2.1
theorem bJ0_coder_7d493_0 : decode cJ0_coder_7d493 0 = .ok (.getstatic 38, 3) ∧ decode cJ0_coder_7d493 3 = .ok (.ifCond .eq 10, 3) ∧ decode cJ0_coder_7d493 6 = .ok (.aload_n 0, 1) ∧ decode cJ0_coder_7d493 7 = .ok (.getfield 15, 3) ∧ decode cJ0_coder_7d493 10 = .ok (.goto 4, 3) ∧ decode cJ0_coder_7d493 13 = .ok (.iconst 1, 1) ∧ decode cJ0_coder_7d493 14 = .ok (.ireturn, 1) := by decide +kernel
def dJ0_coder_7d493_0 := bJ0_coder_7d493_0.1
def dJ0_coder_7d493_3 := bJ0_coder_7d493_0.2.1
def dJ0_coder_7d493_6 := bJ0_coder_7d493_0.2.2.1
def dJ0_coder_7d493_7 := bJ0_coder_7d493_0.2.2.2.1
def dJ0_coder_7d493_10 := bJ0_coder_7d493_0.2.2.2.2.1
def dJ0_coder_7d493_14 := bJ0_coder_7d493_0.2.2.2.2.2.2
theorem bJ0_isLatin1_aae02_0 : decode cJ0_isLatin1_aae02 0 = .ok (.getstatic 38, 3) ∧ decode cJ0_isLatin1_aae02 3 = .ok (.ifCond .eq 14, 3) ∧ decode cJ0_isLatin1_aae02 6 = .ok (.aload_n 0, 1) ∧ decode cJ0_isLatin1_aae02 7 = .ok (.getfield 15, 3) ∧ decode cJ0_isLatin1_aae02 10 = .ok (.ifCond .ne 7, 3) ∧ decode cJ0_isLatin1_aae02 13 = .ok (.iconst 1, 1) ∧ decode cJ0_isLatin1_aae02 14 = .ok (.goto 4, 3) ∧ decode cJ0_isLatin1_aae02 17 = .ok (.iconst 0, 1) ∧ decode cJ0_isLatin1_aae02 18 = .ok (.ireturn, 1) := by decide +kernel
def dJ0_isLatin1_aae02_0 := bJ0_isLatin1_aae02_0.1
def dJ0_isLatin1_aae02_3 := bJ0_isLatin1_aae02_0.2.1
def dJ0_isLatin1_aae02_6 := bJ0_isLatin1_aae02_0.2.2.1
def dJ0_isLatin1_aae02_7 := bJ0_isLatin1_aae02_0.2.2.2.1
def dJ0_isLatin1_aae02_10 := bJ0_isLatin1_aae02_0.2.2.2.2.1
def dJ0_isLatin1_aae02_13 := bJ0_isLatin1_aae02_0.2.2.2.2.2.1
def dJ0_isLatin1_aae02_14 := bJ0_isLatin1_aae02_0.2.2.2.2.2.2.1
def dJ0_isLatin1_aae02_18 := bJ0_isLatin1_aae02_0.2.2.2.2.2.2.2.2
theorem ggJ0_checkIndex_df160_J3_checkIndex_8e157 : GoodIn wsJ0_checkIndex_df160 wsJ3_checkIndex_8e157 := gW_in gwJ3_checkIndex_8e157 (fun _ h => List.mem_cons_of_mem _ (List.mem_append_right _ (h)))
set_option maxRecDepth 20000 in
theorem gJ0_checkIndex_df160_J3_checkIndex_8e157 : GoodIn wsJ0_checkIndex_df160 (va_wsS RJ0 1059 yJ3_checkIndex_8e157 wsJ3_checkIndex_8e157) := goodIn_app (goodIn_of _ (by decide +kernel)) ggJ0_checkIndex_df160_J3_checkIndex_8e157
theorem bJ0_checkIndex_df160_0 : decode cJ0_checkIndex_df160 0 = .ok (.iload_n 0, 1) ∧ decode cJ0_checkIndex_df160 1 = .ok (.iload_n 1, 1) ∧ decode cJ0_checkIndex_df160 2 = .ok (.getstatic 1053, 3) ∧ decode cJ0_checkIndex_df160 5 = .ok (.invokestatic 1059, 3) ∧ decode cJ0_checkIndex_df160 8 = .ok (.pop, 1) ∧ decode cJ0_checkIndex_df160 9 = .ok (.return_, 1) := by decide +kernel
def dJ0_checkIndex_df160_0 := bJ0_checkIndex_df160_0.1
def dJ0_checkIndex_df160_1 := bJ0_checkIndex_df160_0.2.1
def dJ0_checkIndex_df160_2 := bJ0_checkIndex_df160_0.2.2.1
def dJ0_checkIndex_df160_5 := bJ0_checkIndex_df160_0.2.2.2.1
def dJ0_checkIndex_df160_8 := bJ0_checkIndex_df160_0.2.2.2.2.1
def dJ0_checkIndex_df160_9 := bJ0_checkIndex_df160_0.2.2.2.2.2
theorem ggJ1_charAt_3b067_J0_checkIndex_df160 : GoodIn wsJ1_charAt_3b067 wsJ0_checkIndex_df160 := gW_in gwJ0_checkIndex_df160 (fun _ h => List.mem_cons_of_mem _ (List.mem_append_right _ (h)))
set_option maxRecDepth 20000 in
theorem gJ1_charAt_3b067_J0_checkIndex_df160 : GoodIn wsJ1_charAt_3b067 (va_wsS RJ1 9 yJ0_checkIndex_df160 wsJ0_checkIndex_df160) := goodIn_app (goodIn_of _ (by decide +kernel)) ggJ1_charAt_3b067_J0_checkIndex_df160
theorem bJ1_charAt_3b067_0 : decode cJ1_charAt_3b067 0 = .ok (.iload_n 1, 1) ∧ decode cJ1_charAt_3b067 1 = .ok (.aload_n 0, 1) ∧ decode cJ1_charAt_3b067 2 = .ok (.arraylength, 1) ∧ decode cJ1_charAt_3b067 3 = .ok (.invokestatic 9, 3) ∧ decode cJ1_charAt_3b067 6 = .ok (.aload_n 0, 1) ∧ decode cJ1_charAt_3b067 7 = .ok (.iload_n 1, 1) ∧ decode cJ1_charAt_3b067 8 = .ok (.baload, 1) ∧ decode cJ1_charAt_3b067 9 = .ok (.sipush 255, 3) ∧ decode cJ1_charAt_3b067 12 = .ok (.iand, 1) ∧ decode cJ1_charAt_3b067 13 = .ok (.i2c, 1) ∧ decode cJ1_charAt_3b067 14 = .ok (.ireturn, 1) := by decide +kernel
def dJ1_charAt_3b067_0 := bJ1_charAt_3b067_0.1
def dJ1_charAt_3b067_1 := bJ1_charAt_3b067_0.2.1
def dJ1_charAt_3b067_2 := bJ1_charAt_3b067_0.2.2.1
def dJ1_charAt_3b067_3 := bJ1_charAt_3b067_0.2.2.2.1
def dJ1_charAt_3b067_6 := bJ1_charAt_3b067_0.2.2.2.2.1
def dJ1_charAt_3b067_7 := bJ1_charAt_3b067_0.2.2.2.2.2.1
def dJ1_charAt_3b067_8 := bJ1_charAt_3b067_0.2.2.2.2.2.2.1
def dJ1_charAt_3b067_9 := bJ1_charAt_3b067_0.2.2.2.2.2.2.2.1
def dJ1_charAt_3b067_12 := bJ1_charAt_3b067_0.2.2.2.2.2.2.2.2.1
def dJ1_charAt_3b067_13 := bJ1_charAt_3b067_0.2.2.2.2.2.2.2.2.2.1
def dJ1_charAt_3b067_14 := bJ1_charAt_3b067_0.2.2.2.2.2.2.2.2.2.2
theorem bJ7_fill_53178_0 : decode cJ7_fill_53178 0 = .ok (.iconst 0, 1) ∧ decode cJ7_fill_53178 1 = .ok (.istore_n 2, 1) ∧ decode cJ7_fill_53178 2 = .ok (.aload_n 0, 1) ∧ decode cJ7_fill_53178 3 = .ok (.arraylength, 1) ∧ decode cJ7_fill_53178 4 = .ok (.istore_n 3, 1) ∧ decode cJ7_fill_53178 5 = .ok (.iload_n 2, 1) ∧ decode cJ7_fill_53178 6 = .ok (.iload_n 3, 1) ∧ decode cJ7_fill_53178 7 = .ok (.if_icmp .ge 13, 3) ∧ decode cJ7_fill_53178 10 = .ok (.aload_n 0, 1) ∧ decode cJ7_fill_53178 11 = .ok (.iload_n 2, 1) ∧ decode cJ7_fill_53178 12 = .ok (.iload_n 1, 1) ∧ decode cJ7_fill_53178 13 = .ok (.iastore, 1) ∧ decode cJ7_fill_53178 14 = .ok (.iinc 2 1, 3) ∧ decode cJ7_fill_53178 17 = .ok (.goto (-12), 3) ∧ decode cJ7_fill_53178 20 = .ok (.return_, 1) := by decide +kernel
def dJ7_fill_53178_0 := bJ7_fill_53178_0.1
def dJ7_fill_53178_1 := bJ7_fill_53178_0.2.1
def dJ7_fill_53178_2 := bJ7_fill_53178_0.2.2.1
def dJ7_fill_53178_3 := bJ7_fill_53178_0.2.2.2.1
def dJ7_fill_53178_4 := bJ7_fill_53178_0.2.2.2.2.1
def dJ7_fill_53178_5 := bJ7_fill_53178_0.2.2.2.2.2.1
def dJ7_fill_53178_6 := bJ7_fill_53178_0.2.2.2.2.2.2.1
def dJ7_fill_53178_7 := bJ7_fill_53178_0.2.2.2.2.2.2.2.1
def dJ7_fill_53178_10 := bJ7_fill_53178_0.2.2.2.2.2.2.2.2.1
def dJ7_fill_53178_11 := bJ7_fill_53178_0.2.2.2.2.2.2.2.2.2.1
def dJ7_fill_53178_12 := bJ7_fill_53178_0.2.2.2.2.2.2.2.2.2.2.1
def dJ7_fill_53178_13 := bJ7_fill_53178_0.2.2.2.2.2.2.2.2.2.2.2.1
def dJ7_fill_53178_14 := bJ7_fill_53178_0.2.2.2.2.2.2.2.2.2.2.2.2.1
def dJ7_fill_53178_17 := bJ7_fill_53178_0.2.2.2.2.2.2.2.2.2.2.2.2.2.1
def dJ7_fill_53178_20 := bJ7_fill_53178_0.2.2.2.2.2.2.2.2.2.2.2.2.2.2
theorem bJ3_checkIndex_8e157_0 : decode cJ3_checkIndex_8e157 0 = .ok (.iload_n 0, 1) ∧ decode cJ3_checkIndex_8e157 1 = .ok (.ifCond .lt 8, 3) ∧ decode cJ3_checkIndex_8e157 4 = .ok (.iload_n 0, 1) ∧ decode cJ3_checkIndex_8e157 5 = .ok (.iload_n 1, 1) ∧ decode cJ3_checkIndex_8e157 6 = .ok (.if_icmp .lt 10, 3) ∧ decode cJ3_checkIndex_8e157 9 = .ok (.aload_n 2, 1) ∧ decode cJ3_checkIndex_8e157 10 = .ok (.iload_n 0, 1) ∧ decode cJ3_checkIndex_8e157 11 = .ok (.iload_n 1, 1) ∧ decode cJ3_checkIndex_8e157 12 = .ok (.invokestatic 95, 3) ∧ decode cJ3_checkIndex_8e157 15 = .ok (.athrow, 1) ∧ decode cJ3_checkIndex_8e157 16 = .ok (.iload_n 0, 1) ∧ decode cJ3_checkIndex_8e157 17 = .ok (.ireturn, 1) := by decide +kernel
def dJ3_checkIndex_8e157_0 := bJ3_checkIndex_8e157_0.1
def dJ3_checkIndex_8e157_1 := bJ3_checkIndex_8e157_0.2.1
def dJ3_checkIndex_8e157_4 := bJ3_checkIndex_8e157_0.2.2.1
def dJ3_checkIndex_8e157_5 := bJ3_checkIndex_8e157_0.2.2.2.1
def dJ3_checkIndex_8e157_6 := bJ3_checkIndex_8e157_0.2.2.2.2.1
def dJ3_checkIndex_8e157_16 := bJ3_checkIndex_8e157_0.2.2.2.2.2.2.2.2.2.2.1
def dJ3_checkIndex_8e157_17 := bJ3_checkIndex_8e157_0.2.2.2.2.2.2.2.2.2.2.2
abbrev vwCl : List vw_C := [(RX0, TX0, 1), (RX1, TX1, 5), (RX2, TX2, 7), (RX3, TX3, 2), (RX4, TX4, 3), (RX5, TX5, 3), (RX6, TX6, 5), (RX7, TX7, 6), (RX8, TX8, 4), (RX10, TX10, 13), (RX11, TX11, 35)]
/-! ===== END printed: names ===== -/


end
