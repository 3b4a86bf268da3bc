theorem dX6_numbers_6 : decode cX6_numbers 6 = .ok (.iconst 1, 1) := by decide +kernel
theorem dX6_numbers_7 : decode cX6_numbers 7 = .ok (.isub, 1) := by decide +kernel
theorem dX6_numbers_8 : decode cX6_numbers 8 = .ok (.invokestatic 39, 3) := by decide +kernel
theorem dX6_numbers_11 : decode cX6_numbers 11 = .ok (.ifCond .eq 11, 3) := by decide +kernel
theorem dX6_numbers_14 : decode cX6_numbers 14 = .ok (.getstatic 36, 3) := by decide +kernel
theorem dX6_numbers_17 : decode cX6_numbers 17 = .ok (.iload_n 1, 1) := by decide +kernel
theorem dX6_numbers_18 : decode cX6_numbers 18 = .ok (.iaload, 1) := by decide +kernel
theorem dX6_numbers_19 : decode cX6_numbers 19 = .ok (.goto 4, 3) := by decide +kernel
theorem dX6_numbers_22 : decode cX6_numbers 22 = .ok (.iconst 0, 1) := by decide +kernel
theorem dX6_numbers_23 : decode cX6_numbers 23 = .ok (.ireturn, 1) := by decide +kernel
theorem dX6_low_0 : decode cX6_low 0 = .ok (.iload_n 1, 1) := by decide +kernel
theorem dX6_low_1 : decode cX6_low 1 = .ok (.ifCond .ne 11, 3) := by decide +kernel
theorem dX6_low_4 : decode cX6_low 4 = .ok (.iload_n 2, 1) := by decide +kernel
theorem dX6_low_5 : decode cX6_low 5 = .ok (.ifCond .ne 7, 3) := by decide +kernel
theorem dX6_low_8 : decode cX6_low 8 = .ok (.iconst 1, 1) := by decide +kernel
theorem dX6_low_9 : decode cX6_low 9 = .ok (.goto 4, 3) := by decide +kernel
theorem dX6_low_12 : decode cX6_low 12 = .ok (.iconst 0, 1) := by decide +kernel
theorem dX6_low_13 : decode cX6_low 13 = .ok (.ireturn, 1) := by decide +kernel
theorem ggX6_high_X10_within : GoodIn wsX6_high wsX10_within := gW_in gwX10_within (fun _ h => List.mem_cons_of_mem _ (List.mem_append_right _ (h)))
set_option maxRecDepth 20000 in
theorem gX6_high_X10_within_n39 : GoodIn wsX6_high (wsX10_within) := ggX6_high_X10_within
theorem dX6_high_0 : decode cX6_high 0 = .ok (.iload_n 1, 1) := by decide +kernel
theorem dX6_high_1 : decode cX6_high 1 = .ok (.iconst 3, 1) := by decide +kernel
theorem dX6_high_2 : decode cX6_high 2 = .ok (.imul, 1) := by decide +kernel
theorem dX6_high_3 : decode cX6_high 3 = .ok (.iload_n 2, 1) := by decide +kernel
theorem dX6_high_4 : decode cX6_high 4 = .ok (.iadd, 1) := by decide +kernel
theorem dX6_high_5 : decode cX6_high 5 = .ok (.istore_n 3, 1) := by decide +kernel
theorem dX6_high_6 : decode cX6_high 6 = .ok (.iload_n 3, 1) := by decide +kernel
theorem dX6_high_7 : decode cX6_high 7 = .ok (.iconst 0, 1) := by decide +kernel
theorem dX6_high_8 : decode cX6_high 8 = .ok (.getstatic 43, 3) := by decide +kernel
theorem dX6_high_11 : decode cX6_high 11 = .ok (.arraylength, 1) := by decide +kernel
theorem dX6_high_12 : decode cX6_high 12 = .ok (.iconst 1, 1) := by decide +kernel
theorem dX6_high_13 : decode cX6_high 13 = .ok (.isub, 1) := by decide +kernel
theorem dX6_high_14 : decode cX6_high 14 = .ok (.invokestatic 39, 3) := by decide +kernel
theorem dX6_high_17 : decode cX6_high 17 = .ok (.ifCond .eq 11, 3) := by decide +kernel
theorem dX6_high_20 : decode cX6_high 20 = .ok (.getstatic 43, 3) := by decide +kernel
theorem dX6_high_23 : decode cX6_high 23 = .ok (.iload_n 3, 1) := by decide +kernel
theorem dX6_high_24 : decode cX6_high 24 = .ok (.iaload, 1) := by decide +kernel
theorem dX6_high_25 : decode cX6_high 25 = .ok (.goto 4, 3) := by decide +kernel
theorem dX6_high_28 : decode cX6_high 28 = .ok (.iconst 0, 1) := by decide +kernel
theorem dX6_high_29 : decode cX6_high 29 = .ok (.ireturn, 1) := by decide +kernel
theorem ggX6_store_X6_addWall : GoodIn wsX6_store wsX6_addWall := gW_in gwX6_addWall (fun _ h => List.mem_cons_of_mem _ (List.mem_append_right _ (List.mem_append_right _ (List.mem_append_left _ h))))
set_option maxRecDepth 20000 in
theorem gX6_store_X6_addWall : GoodIn wsX6_store (wsV RX6 46 RX6 yX6_addWall wsX6_addWall) := goodIn_app (goodIn_of _ (by decide +kernel)) ggX6_store_X6_addWall
theorem ggX6_store_X10_within : GoodIn wsX6_store wsX10_within := gW_in gwX10_within (fun _ h => List.mem_cons_of_mem _ (List.mem_append_right _ (List.mem_append_right _ (List.mem_append_right _ (List.mem_append_left _ h)))))
set_option maxRecDepth 20000 in
theorem gX6_store_X10_within_n39 : GoodIn wsX6_store (wsX10_within) := ggX6_store_X10_within
theorem ggX6_store_X6_numbers : GoodIn wsX6_store wsX6_numbers := gW_in gwX6_numbers (fun _ h => List.mem_cons_of_mem _ (List.mem_append_right _ (List.mem_append_right _ (List.mem_append_right _ (List.mem_append_right _ (h))))))
set_option maxRecDepth 20000 in
theorem gX6_store_X6_numbers : GoodIn wsX6_store (wsV RX6 50 RX6 yX6_numbers wsX6_numbers) := goodIn_app (goodIn_of _ (by decide +kernel)) ggX6_store_X6_numbers
theorem dX6_store_0 : decode cX6_store 0 = .ok (.iload_n 1, 1) := by decide +kernel
theorem dX6_store_1 : decode cX6_store 1 = .ok (.ifCond .ne 16, 3) := by decide +kernel
theorem dX6_store_4 : decode cX6_store 4 = .ok (.aload_n 0, 1) := by decide +kernel
theorem dX6_store_5 : decode cX6_store 5 = .ok (.aload_n 2, 1) := by decide +kernel
theorem dX6_store_6 : decode cX6_store 6 = .ok (.iconst 0, 1) := by decide +kernel
theorem dX6_store_7 : decode cX6_store 7 = .ok (.iaload, 1) := by decide +kernel
theorem dX6_store_8 : decode cX6_store 8 = .ok (.aload_n 2, 1) := by decide +kernel
theorem dX6_store_9 : decode cX6_store 9 = .ok (.iconst 1, 1) := by decide +kernel
theorem dX6_store_10 : decode cX6_store 10 = .ok (.iaload, 1) := by decide +kernel
theorem dX6_store_11 : decode cX6_store 11 = .ok (.invokevirtual 46, 3) := by decide +kernel
theorem dX6_store_14 : decode cX6_store 14 = .ok (.goto 64, 3) := by decide +kernel
theorem dX6_store_17 : decode cX6_store 17 = .ok (.iload_n 1, 1) := by decide +kernel
theorem dX6_store_18 : decode cX6_store 18 = .ok (.iconst 5, 1) := by decide +kernel
theorem dX6_store_19 : decode cX6_store 19 = .ok (.if_icmp .ne 29, 3) := by decide +kernel
theorem dX6_store_22 : decode cX6_store 22 = .ok (.aload_n 2, 1) := by decide +kernel
theorem dX6_store_23 : decode cX6_store 23 = .ok (.iconst 0, 1) := by decide +kernel
theorem dX6_store_24 : decode cX6_store 24 = .ok (.iaload, 1) := by decide +kernel
theorem dX6_store_25 : decode cX6_store 25 = .ok (.iconst 0, 1) := by decide +kernel
theorem dX6_store_26 : decode cX6_store 26 = .ok (.bipush 9, 2) := by decide +kernel
theorem dX6_store_28 : decode cX6_store 28 = .ok (.invokestatic 39, 3) := by decide +kernel
theorem dX6_store_31 : decode cX6_store 31 = .ok (.ifCond .eq 47, 3) := by decide +kernel
theorem dX6_store_34 : decode cX6_store 34 = .ok (.aload_n 0, 1) := by decide +kernel
theorem dX6_store_35 : decode cX6_store 35 = .ok (.getfield 18, 3) := by decide +kernel
theorem dX6_store_38 : decode cX6_store 38 = .ok (.aload_n 2, 1) := by decide +kernel
theorem dX6_store_39 : decode cX6_store 39 = .ok (.iconst 0, 1) := by decide +kernel
theorem dX6_store_40 : decode cX6_store 40 = .ok (.iaload, 1) := by decide +kernel
theorem dX6_store_41 : decode cX6_store 41 = .ok (.aload_n 2, 1) := by decide +kernel
theorem dX6_store_42 : decode cX6_store 42 = .ok (.iconst 1, 1) := by decide +kernel
theorem dX6_store_43 : decode cX6_store 43 = .ok (.iaload, 1) := by decide +kernel
theorem dX6_store_44 : decode cX6_store 44 = .ok (.iastore, 1) := by decide +kernel
theorem dX6_store_45 : decode cX6_store 45 = .ok (.goto 33, 3) := by decide +kernel
theorem dX6_store_48 : decode cX6_store 48 = .ok (.iconst 0, 1) := by decide +kernel
theorem dX6_store_49 : decode cX6_store 49 = .ok (.istore_n 3, 1) := by decide +kernel
theorem dX6_store_50 : decode cX6_store 50 = .ok (.iload_n 3, 1) := by decide +kernel
theorem dX6_store_51 : decode cX6_store 51 = .ok (.aload_n 0, 1) := by decide +kernel
theorem dX6_store_52 : decode cX6_store 52 = .ok (.iload_n 1, 1) := by decide +kernel
theorem dX6_store_53 : decode cX6_store 53 = .ok (.invokevirtual 50, 3) := by decide +kernel
theorem dX6_store_56 : decode cX6_store 56 = .ok (.if_icmp .ge 22, 3) := by decide +kernel
theorem dX6_store_59 : decode cX6_store 59 = .ok (.aload_n 0, 1) := by decide +kernel
theorem dX6_store_60 : decode cX6_store 60 = .ok (.getfield 15, 3) := by decide +kernel
theorem dX6_store_63 : decode cX6_store 63 = .ok (.iload_n 1, 1) := by decide +kernel
theorem dX6_store_64 : decode cX6_store 64 = .ok (.iconst 3, 1) := by decide +kernel
theorem dX6_store_65 : decode cX6_store 65 = .ok (.imul, 1) := by decide +kernel
theorem dX6_store_66 : decode cX6_store 66 = .ok (.iload_n 3, 1) := by decide +kernel
theorem dX6_store_67 : decode cX6_store 67 = .ok (.iadd, 1) := by decide +kernel
theorem dX6_store_68 : decode cX6_store 68 = .ok (.aload_n 2, 1) := by decide +kernel
theorem dX6_store_69 : decode cX6_store 69 = .ok (.iload_n 3, 1) := by decide +kernel
theorem dX6_store_70 : decode cX6_store 70 = .ok (.iaload, 1) := by decide +kernel
theorem dX6_store_71 : decode cX6_store 71 = .ok (.iastore, 1) := by decide +kernel
theorem dX6_store_72 : decode cX6_store 72 = .ok (.iinc 3 1, 3) := by decide +kernel
theorem dX6_store_75 : decode cX6_store 75 = .ok (.goto (-25), 3) := by decide +kernel
theorem dX6_store_78 : decode cX6_store 78 = .ok (.return_, 1) := by decide +kernel
theorem dX6_addWall_0 : decode cX6_addWall 0 = .ok (.aload_n 0, 1) := by decide +kernel
theorem dX6_addWall_1 : decode cX6_addWall 1 = .ok (.getfield 30, 3) := by decide +kernel
theorem dX6_addWall_4 : decode cX6_addWall 4 = .ok (.bipush 6, 2) := by decide +kernel
theorem dX6_addWall_6 : decode cX6_addWall 6 = .ok (.if_icmp .ge 33, 3) := by decide +kernel
theorem dX6_addWall_9 : decode cX6_addWall 9 = .ok (.aload_n 0, 1) := by decide +kernel
theorem dX6_addWall_10 : decode cX6_addWall 10 = .ok (.getfield 21, 3) := by decide +kernel
theorem dX6_addWall_13 : decode cX6_addWall 13 = .ok (.aload_n 0, 1) := by decide +kernel
theorem dX6_addWall_14 : decode cX6_addWall 14 = .ok (.getfield 30, 3) := by decide +kernel
theorem dX6_addWall_17 : decode cX6_addWall 17 = .ok (.iload_n 1, 1) := by decide +kernel
theorem dX6_addWall_18 : decode cX6_addWall 18 = .ok (.iastore, 1) := by decide +kernel
theorem dX6_addWall_19 : decode cX6_addWall 19 = .ok (.aload_n 0, 1) := by decide +kernel
theorem dX6_addWall_20 : decode cX6_addWall 20 = .ok (.getfield 24, 3) := by decide +kernel
theorem dX6_addWall_23 : decode cX6_addWall 23 = .ok (.aload_n 0, 1) := by decide +kernel
theorem dX6_addWall_24 : decode cX6_addWall 24 = .ok (.getfield 30, 3) := by decide +kernel
theorem dX6_addWall_27 : decode cX6_addWall 27 = .ok (.iload_n 2, 1) := by decide +kernel
theorem dX6_addWall_28 : decode cX6_addWall 28 = .ok (.iastore, 1) := by decide +kernel
theorem dX6_addWall_29 : decode cX6_addWall 29 = .ok (.aload_n 0, 1) := by decide +kernel
theorem dX6_addWall_30 : decode cX6_addWall 30 = .ok (.dup, 1) := by decide +kernel
theorem dX6_addWall_31 : decode cX6_addWall 31 = .ok (.getfield 30, 3) := by decide +kernel
theorem dX6_addWall_34 : decode cX6_addWall 34 = .ok (.iconst 1, 1) := by decide +kernel
theorem dX6_addWall_35 : decode cX6_addWall 35 = .ok (.iadd, 1) := by decide +kernel
theorem dX6_addWall_36 : decode cX6_addWall 36 = .ok (.putfield 30, 3) := by decide +kernel
theorem dX6_addWall_39 : decode cX6_addWall 39 = .ok (.return_, 1) := by decide +kernel
theorem ggX6_fearAt_X10_within : GoodIn wsX6_fearAt wsX10_within := gW_in gwX10_within (fun _ h => List.mem_cons_of_mem _ (List.mem_append_right _ (List.mem_append_right _ (h))))
set_option maxRecDepth 20000 in
theorem gX6_fearAt_X10_within_n39 : GoodIn wsX6_fearAt (wsX10_within) := ggX6_fearAt_X10_within
theorem dX6_fearAt_0 : decode cX6_fearAt 0 = .ok (.iload_n 1, 1) := by decide +kernel
theorem dX6_fearAt_1 : decode cX6_fearAt 1 = .ok (.iconst 0, 1) := by decide +kernel
theorem dX6_fearAt_2 : decode cX6_fearAt 2 = .ok (.bipush 9, 2) := by decide +kernel
theorem dX6_fearAt_4 : decode cX6_fearAt 4 = .ok (.invokestatic 39, 3) := by decide +kernel
theorem dX6_fearAt_7 : decode cX6_fearAt 7 = .ok (.ifCond .eq 12, 3) := by decide +kernel
theorem dX6_fearAt_10 : decode cX6_fearAt 10 = .ok (.aload_n 0, 1) := by decide +kernel
theorem dX6_fearAt_11 : decode cX6_fearAt 11 = .ok (.getfield 18, 3) := by decide +kernel
theorem dX6_fearAt_14 : decode cX6_fearAt 14 = .ok (.iload_n 1, 1) := by decide +kernel
theorem dX6_fearAt_15 : decode cX6_fearAt 15 = .ok (.iaload, 1) := by decide +kernel
theorem dX6_fearAt_16 : decode cX6_fearAt 16 = .ok (.goto 4, 3) := by decide +kernel
theorem dX6_fearAt_19 : decode cX6_fearAt 19 = .ok (.iconst 0, 1) := by decide +kernel
theorem dX6_fearAt_20 : decode cX6_fearAt 20 = .ok (.ireturn, 1) := by decide +kernel
theorem dX6_wanted_0 : decode cX6_wanted 0 = .ok (.aload_n 0, 1) := by decide +kernel
theorem dX6_wanted_1 : decode cX6_wanted 1 = .ok (.getfield 15, 3) := by decide +kernel
theorem dX6_wanted_4 : decode cX6_wanted 4 = .ok (.bipush 21, 2) := by decide +kernel
theorem dX6_wanted_6 : decode cX6_wanted 6 = .ok (.iaload, 1) := by decide +kernel
theorem dX6_wanted_7 : decode cX6_wanted 7 = .ok (.aload_n 0, 1) := by decide +kernel
theorem dX6_wanted_8 : decode cX6_wanted 8 = .ok (.getfield 15, 3) := by decide +kernel
theorem dX6_wanted_11 : decode cX6_wanted 11 = .ok (.bipush 22, 2) := by decide +kernel
theorem dX6_wanted_13 : decode cX6_wanted 13 = .ok (.iaload, 1) := by decide +kernel
theorem dX6_wanted_14 : decode cX6_wanted 14 = .ok (.iload_n 2, 1) := by decide +kernel
theorem dX6_wanted_15 : decode cX6_wanted 15 = .ok (.imul, 1) := by decide +kernel
theorem dX6_wanted_16 : decode cX6_wanted 16 = .ok (.iadd, 1) := by decide +kernel
theorem dX6_wanted_17 : decode cX6_wanted 17 = .ok (.aload_n 0, 1) := by decide +kernel
theorem dX6_wanted_18 : decode cX6_wanted 18 = .ok (.getfield 15, 3) := by decide +kernel
theorem dX6_wanted_21 : decode cX6_wanted 21 = .ok (.bipush 21, 2) := by decide +kernel
theorem dX6_wanted_23 : decode cX6_wanted 23 = .ok (.iaload, 1) := by decide +kernel
theorem dX6_wanted_24 : decode cX6_wanted 24 = .ok (.bipush 9, 2) := by decide +kernel
theorem dX6_wanted_26 : decode cX6_wanted 26 = .ok (.iload_n 1, 1) := by decide +kernel
theorem dX6_wanted_27 : decode cX6_wanted 27 = .ok (.isub, 1) := by decide +kernel
theorem dX6_wanted_28 : decode cX6_wanted 28 = .ok (.imul, 1) := by decide +kernel
theorem dX6_wanted_29 : decode cX6_wanted 29 = .ok (.iadd, 1) := by decide +kernel
theorem dX6_wanted_30 : decode cX6_wanted 30 = .ok (.ireturn, 1) := by decide +kernel
theorem dX7_init_0 : decode cX7_init 0 = .ok (.aload_n 0, 1) := by decide +kernel
theorem dX7_init_1 : decode cX7_init 1 = .ok (.invokespecial 3, 3) := by decide +kernel
theorem dX7_init_4 : decode cX7_init 4 = .ok (.aload_n 0, 1) := by decide +kernel
theorem dX7_init_5 : decode cX7_init 5 = .ok (.iconst 0, 1) := by decide +kernel
theorem dX7_init_6 : decode cX7_init 6 = .ok (.newarray .byte, 2) := by decide +kernel
theorem dX7_init_8 : decode cX7_init 8 = .ok (.putfield 9, 3) := by decide +kernel
theorem dX7_init_11 : decode cX7_init 11 = .ok (.aload_n 0, 1) := by decide +kernel
theorem dX7_init_12 : decode cX7_init 12 = .ok (.iconst (-1), 1) := by decide +kernel
theorem dX7_init_13 : decode cX7_init 13 = .ok (.putfield 15, 3) := by decide +kernel
theorem dX7_init_16 : decode cX7_init 16 = .ok (.aload_n 0, 1) := by decide +kernel
theorem dX7_init_17 : decode cX7_init 17 = .ok (.iconst 3, 1) := by decide +kernel
theorem dX7_init_18 : decode cX7_init 18 = .ok (.newarray .int, 2) := by decide +kernel
theorem dX7_init_20 : decode cX7_init 20 = .ok (.putfield 19, 3) := by decide +kernel
theorem dX7_init_23 : decode cX7_init 23 = .ok (.return_, 1) := by decide +kernel
theorem ggX7_read_X5_mostParts : GoodIn wsX7_read wsX5_mostParts := gW_in gwX5_mostParts (fun _ h => List.mem_cons_of_mem _ (List.mem_append_right _ (List.mem_append_right _ (List.mem_append_right _ (List.mem_append_right _ (List.mem_append_left _ h))))))
set_option maxRecDepth 20000 in
theorem gX7_read_X5_mostParts_u38X5 : GoodIn wsX7_read (va_wsU RX7 38 RX5 "HiredEnemy$Telling" ⟨"HiredEnemy$Telling", "mostParts", "()I"⟩ yX5_mostParts wsX5_mostParts) := goodIn_app (goodIn_of _ (by decide +kernel)) ggX7_read_X5_mostParts
theorem ggX7_read_X6_mostParts : GoodIn wsX7_read wsX6_mostParts := gW_in gwX6_mostParts (fun _ h => List.mem_cons_of_mem _ (List.mem_append_right _ (List.mem_append_right _ (List.mem_append_right _ (List.mem_append_right _ (List.mem_append_right _ (List.mem_append_left _ h)))))))
set_option maxRecDepth 20000 in
theorem gX7_read_X6_mostParts_u38X6 : GoodIn wsX7_read (va_wsU RX7 38 RX6 "HiredEnemy$Telling" ⟨"HiredEnemy$Telling", "mostParts", "()I"⟩ yX6_mostParts wsX6_mostParts) := goodIn_app (goodIn_of _ (by decide +kernel)) ggX7_read_X6_mostParts
theorem ggX7_read_X7_skipBlanks : GoodIn wsX7_read wsX7_skipBlanks := gW_in gwX7_skipBlanks (fun _ h => List.mem_cons_of_mem _ (List.mem_append_right _ (List.mem_append_right _ (List.mem_append_right _ (List.mem_append_right _ (List.mem_append_right _ (List.mem_append_right _ (List.mem_append_left _ h))))))))
set_option maxRecDepth 20000 in
theorem gX7_read_X7_skipBlanks : GoodIn wsX7_read (wsV RX7 44 RX7 yX7_skipBlanks wsX7_skipBlanks) := goodIn_app (goodIn_of _ (by decide +kernel)) ggX7_read_X7_skipBlanks
theorem ggX7_read_X7_readPart : GoodIn wsX7_read wsX7_readPart := gW_in gwX7_readPart (fun _ h => List.mem_cons_of_mem _ (List.mem_append_right _ (List.mem_append_right _ (List.mem_append_right _ (List.mem_append_right _ (List.mem_append_right _ (List.mem_append_right _ (List.mem_append_right _ (h)))))))))
set_option maxRecDepth 20000 in
theorem gX7_read_X7_readPart : GoodIn wsX7_read (wsV RX7 47 RX7 yX7_readPart wsX7_readPart) := goodIn_app (goodIn_of _ (by decide +kernel)) ggX7_read_X7_readPart
theorem dX7_read_0 : decode cX7_read 0 = .ok (.aload_n 0, 1) := by decide +kernel
theorem dX7_read_1 : decode cX7_read 1 = .ok (.aload_n 1, 1) := by decide +kernel
theorem dX7_read_2 : decode cX7_read 2 = .ok (.putfield 9, 3) := by decide +kernel
theorem dX7_read_5 : decode cX7_read 5 = .ok (.aload_n 0, 1) := by decide +kernel
theorem dX7_read_6 : decode cX7_read 6 = .ok (.iload_n 2, 1) := by decide +kernel
theorem dX7_read_7 : decode cX7_read 7 = .ok (.aload_n 1, 1) := by decide +kernel
theorem dX7_read_8 : decode cX7_read 8 = .ok (.arraylength, 1) := by decide +kernel
theorem dX7_read_9 : decode cX7_read 9 = .ok (.invokestatic 23, 3) := by decide +kernel
theorem dX7_read_12 : decode cX7_read 12 = .ok (.putfield 29, 3) := by decide +kernel
theorem dX7_read_15 : decode cX7_read 15 = .ok (.aload_n 0, 1) := by decide +kernel
theorem dX7_read_16 : decode cX7_read 16 = .ok (.iconst 0, 1) := by decide +kernel
theorem dX7_read_17 : decode cX7_read 17 = .ok (.putfield 32, 3) := by decide +kernel
theorem dX7_read_20 : decode cX7_read 20 = .ok (.aload_n 0, 1) := by decide +kernel
theorem dX7_read_21 : decode cX7_read 21 = .ok (.iconst 0, 1) := by decide +kernel
theorem dX7_read_22 : decode cX7_read 22 = .ok (.putfield 35, 3) := by decide +kernel
theorem dX7_read_25 : decode cX7_read 25 = .ok (.aload_n 0, 1) := by decide +kernel
theorem dX7_read_26 : decode cX7_read 26 = .ok (.iconst (-1), 1) := by decide +kernel
theorem dX7_read_27 : decode cX7_read 27 = .ok (.putfield 15, 3) := by decide +kernel
theorem dX7_read_30 : decode cX7_read 30 = .ok (.iconst 0, 1) := by decide +kernel
theorem dX7_read_31 : decode cX7_read 31 = .ok (.istore 4, 2) := by decide +kernel
theorem dX7_read_33 : decode cX7_read 33 = .ok (.iload 4, 2) := by decide +kernel
theorem dX7_read_35 : decode cX7_read 35 = .ok (.aload_n 3, 1) := by decide +kernel
theorem dX7_read_36 : decode cX7_read 36 = .ok (.invokevirtual 38, 3) := by decide +kernel
theorem dX7_read_39 : decode cX7_read 39 = .ok (.if_icmp .gt 37, 3) := by decide +kernel
theorem dX7_read_42 : decode cX7_read 42 = .ok (.aload_n 0, 1) := by decide +kernel
theorem dX7_read_43 : decode cX7_read 43 = .ok (.invokevirtual 44, 3) := by decide +kernel
theorem dX7_read_46 : decode cX7_read 46 = .ok (.aload_n 0, 1) := by decide +kernel
theorem dX7_read_47 : decode cX7_read 47 = .ok (.getfield 32, 3) := by decide +kernel
theorem dX7_read_50 : decode cX7_read 50 = .ok (.aload_n 0, 1) := by decide +kernel
theorem dX7_read_51 : decode cX7_read 51 = .ok (.getfield 29, 3) := by decide +kernel
theorem dX7_read_54 : decode cX7_read 54 = .ok (.if_icmp .ge 22, 3) := by decide +kernel
theorem dX7_read_57 : decode cX7_read 57 = .ok (.aload_n 0, 1) := by decide +kernel
theorem dX7_read_58 : decode cX7_read 58 = .ok (.aload_n 3, 1) := by decide +kernel
theorem dX7_read_59 : decode cX7_read 59 = .ok (.iload 4, 2) := by decide +kernel
theorem dX7_read_61 : decode cX7_read 61 = .ok (.invokevirtual 47, 3) := by decide +kernel
theorem dX7_read_64 : decode cX7_read 64 = .ok (.ifCond .ne 6, 3) := by decide +kernel
theorem dX7_read_67 : decode cX7_read 67 = .ok (.goto 9, 3) := by decide +kernel
theorem dX7_read_70 : decode cX7_read 70 = .ok (.iinc 4 1, 3) := by decide +kernel
theorem dX7_read_73 : decode cX7_read 73 = .ok (.goto (-40), 3) := by decide +kernel
theorem dX7_read_76 : decode cX7_read 76 = .ok (.aload_n 0, 1) := by decide +kernel
theorem dX7_read_77 : decode cX7_read 77 = .ok (.getfield 35, 3) := by decide +kernel
theorem dX7_read_80 : decode cX7_read 80 = .ok (.ireturn, 1) := by decide +kernel
theorem ggX7_readPart_X7_skipLetters : GoodIn wsX7_readPart wsX7_skipLetters := gW_in gwX7_skipLetters (fun _ h => List.mem_cons_of_mem _ (List.mem_append_right _ (List.mem_append_right _ (List.mem_append_right _ (List.mem_append_right _ (List.mem_append_left _ h))))))
set_option maxRecDepth 20000 in
theorem gX7_readPart_X7_skipLetters : GoodIn wsX7_readPart (wsV RX7 51 RX7 yX7_skipLetters wsX7_skipLetters) := goodIn_app (goodIn_of _ (by decide +kernel)) ggX7_readPart_X7_skipLetters
theorem ggX7_readPart_X5_words : GoodIn wsX7_readPart wsX5_words := gW_in gwX5_words (fun _ h => List.mem_cons_of_mem _ (List.mem_append_right _ (List.mem_append_right _ (List.mem_append_right _ (List.mem_append_right _ (List.mem_append_right _ (List.mem_append_left _ h)))))))
set_option maxRecDepth 20000 in
theorem gX7_readPart_X5_words_u54X5 : GoodIn wsX7_readPart (va_wsU RX7 54 RX5 "HiredEnemy$Telling" ⟨"HiredEnemy$Telling", "words", "()Ljava/lang/String;"⟩ yX5_words wsX5_words) := goodIn_app (goodIn_of _ (by decide +kernel)) ggX7_readPart_X5_words
theorem ggX7_readPart_X6_words : GoodIn wsX7_readPart wsX6_words := gW_in gwX6_words (fun _ h => List.mem_cons_of_mem _ (List.mem_append_right _ (List.mem_append_right _ (List.mem_append_right _ (List.mem_append_right _ (List.mem_append_right _ (List.mem_append_right _ (List.mem_append_left _ h))))))))
set_option maxRecDepth 20000 in
theorem gX7_readPart_X6_words_u54X6 : GoodIn wsX7_readPart (va_wsU RX7 54 RX6 "HiredEnemy$Telling" ⟨"HiredEnemy$Telling", "words", "()Ljava/lang/String;"⟩ yX6_words wsX6_words) := goodIn_app (goodIn_of _ (by decide +kernel)) ggX7_readPart_X6_words
theorem ggX7_readPart_X7_kindOf : GoodIn wsX7_readPart wsX7_kindOf := gW_in gwX7_kindOf (fun _ h => List.mem_cons_of_mem _ (List.mem_append_right _ (List.mem_append_right _ (List.mem_append_right _ (List.mem_append_right _ (List.mem_append_right _ (List.mem_append_right _ (List.mem_append_right _ (List.mem_append_left _ h)))))))))
set_option maxRecDepth 20000 in
theorem gX7_readPart_X7_kindOf : GoodIn wsX7_readPart (wsV RX7 58 RX7 yX7_kindOf wsX7_kindOf) := goodIn_app (goodIn_of _ (by decide +kernel)) ggX7_readPart_X7_kindOf
theorem ggX7_readPart_X7_fail : GoodIn wsX7_readPart wsX7_fail := gW_in gwX7_fail (fun _ h => List.mem_cons_of_mem _ (List.mem_append_right _ (List.mem_append_right _ (List.mem_append_right _ (List.mem_append_right _ (List.mem_append_right _ (List.mem_append_right _ (List.mem_append_right _ (List.mem_append_right _ (List.mem_append_left _ h))))))))))
set_option maxRecDepth 20000 in
theorem gX7_readPart_X7_fail : GoodIn wsX7_readPart (wsV RX7 62 RX7 yX7_fail wsX7_fail) := goodIn_app (goodIn_of _ (by decide +kernel)) ggX7_readPart_X7_fail
theorem ggX7_readPart_X5_mostParts : GoodIn wsX7_readPart wsX5_mostParts := gW_in gwX5_mostParts (fun _ h => List.mem_cons_of_mem _ (List.mem_append_right _ (List.mem_append_right _ (List.mem_append_right _ (List.mem_append_right _ (List.mem_append_right _ (List.mem_append_right _ (List.mem_append_right _ (List.mem_append_right _ (List.mem_append_right _ (List.mem_append_left _ h)))))))))))
set_option maxRecDepth 20000 in
theorem gX7_readPart_X5_mostParts_u38X5 : GoodIn wsX7_readPart (va_wsU RX7 38 RX5 "HiredEnemy$Telling" ⟨"HiredEnemy$Telling", "mostParts", "()I"⟩ yX5_mostParts wsX5_mostParts) := goodIn_app (goodIn_of _ (by decide +kernel)) ggX7_readPart_X5_mostParts
theorem ggX7_readPart_X6_mostParts : GoodIn wsX7_readPart wsX6_mostParts := gW_in gwX6_mostParts (fun _ h => List.mem_cons_of_mem _ (List.mem_append_right _ (List.mem_append_right _ (List.mem_append_right _ (List.mem_append_right _ (List.mem_append_right _ (List.mem_append_right _ (List.mem_append_right _ (List.mem_append_right _ (List.mem_append_right _ (List.mem_append_right _ (List.mem_append_left _ h))))))))))))
set_option maxRecDepth 20000 in
theorem gX7_readPart_X6_mostParts_u38X6 : GoodIn wsX7_readPart (va_wsU RX7 38 RX6 "HiredEnemy$Telling" ⟨"HiredEnemy$Telling", "mostParts", "()I"⟩ yX6_mostParts wsX6_mostParts) := goodIn_app (goodIn_of _ (by decide +kernel)) ggX7_readPart_X6_mostParts
theorem ggX7_readPart_X5_isFull : GoodIn wsX7_readPart wsX5_isFull := gW_in gwX5_isFull (fun _ h => List.mem_cons_of_mem _ (List.mem_append_right _ (List.mem_append_right _ (List.mem_append_right _ (List.mem_append_right _ (List.mem_append_right _ (List.mem_append_right _ (List.mem_append_right _ (List.mem_append_right _ (List.mem_append_right _ (List.mem_append_right _ (List.mem_append_right _ (List.mem_append_left _ h)))))))))))))
set_option maxRecDepth 20000 in
theorem gX7_readPart_X5_isFull_u66X5 : GoodIn wsX7_readPart (va_wsU RX7 66 RX5 "HiredEnemy$Telling" ⟨"HiredEnemy$Telling", "isFull", "(I)Z"⟩ yX5_isFull wsX5_isFull) := goodIn_app (goodIn_of _ (by decide +kernel)) ggX7_readPart_X5_isFull
theorem ggX7_readPart_X6_isFull : GoodIn wsX7_readPart wsX6_isFull := gW_in gwX6_isFull (fun _ h => List.mem_cons_of_mem _ (List.mem_append_right _ (List.mem_append_right _ (List.mem_append_right _ (List.mem_append_right _ (List.mem_append_right _ (List.mem_append_right _ (List.mem_append_right _ (List.mem_append_right _ (List.mem_append_right _ (List.mem_append_right _ (List.mem_append_right _ (List.mem_append_right _ (List.mem_append_left _ h))))))))))))))
set_option maxRecDepth 20000 in
theorem gX7_readPart_X6_isFull_u66X6 : GoodIn wsX7_readPart (va_wsU RX7 66 RX6 "HiredEnemy$Telling" ⟨"HiredEnemy$Telling", "isFull", "(I)Z"⟩ yX6_isFull wsX6_isFull) := goodIn_app (goodIn_of _ (by decide +kernel)) ggX7_readPart_X6_isFull
theorem ggX7_readPart_X5_numbers : GoodIn wsX7_readPart wsX5_numbers := gW_in gwX5_numbers (fun _ h => List.mem_cons_of_mem _ (List.mem_append_right _ (List.mem_append_right _ (List.mem_append_right _ (List.mem_append_right _ (List.mem_append_right _ (List.mem_append_right _ (List.mem_append_right _ (List.mem_append_right _ (List.mem_append_right _ (List.mem_append_right _ (List.mem_append_right _ (List.mem_append_right _ (List.mem_append_right _ (List.mem_append_left _ h)))))))))))))))
set_option maxRecDepth 20000 in
theorem gX7_readPart_X5_numbers_u70X5 : GoodIn wsX7_readPart (va_wsU RX7 70 RX5 "HiredEnemy$Telling" ⟨"HiredEnemy$Telling", "numbers", "(I)I"⟩ yX5_numbers wsX5_numbers) := goodIn_app (goodIn_of _ (by decide +kernel)) ggX7_readPart_X5_numbers
theorem ggX7_readPart_X6_numbers : GoodIn wsX7_readPart wsX6_numbers := gW_in gwX6_numbers (fun _ h => List.mem_cons_of_mem _ (List.mem_append_right _ (List.mem_append_right _ (List.mem_append_right _ (List.mem_append_right _ (List.mem_append_right _ (List.mem_append_right _ (List.mem_append_right _ (List.mem_append_right _ (List.mem_append_right _ (List.mem_append_right _ (List.mem_append_right _ (List.mem_append_right _ (List.mem_append_right _ (List.mem_append_right _ (List.mem_append_left _ h))))))))))))))))
set_option maxRecDepth 20000 in
theorem gX7_readPart_X6_numbers_u70X6 : GoodIn wsX7_readPart (va_wsU RX7 70 RX6 "HiredEnemy$Telling" ⟨"HiredEnemy$Telling", "numbers", "(I)I"⟩ yX6_numbers wsX6_numbers) := goodIn_app (goodIn_of _ (by decide +kernel)) ggX7_readPart_X6_numbers
theorem ggX7_readPart_X5_low : GoodIn wsX7_readPart wsX5_low := gW_in gwX5_low (fun _ h => List.mem_cons_of_mem _ (List.mem_append_right _ (List.mem_append_right _ (List.mem_append_right _ (List.mem_append_right _ (List.mem_append_right _ (List.mem_append_right _ (List.mem_append_right _ (List.mem_append_right _ (List.mem_append_right _ (List.mem_append_right _ (List.mem_append_right _ (List.mem_append_right _ (List.mem_append_right _ (List.mem_append_right _ (List.mem_append_right _ (List.mem_append_left _ h)))))))))))))))))
set_option maxRecDepth 20000 in
theorem gX7_readPart_X5_low_u73X5 : GoodIn wsX7_readPart (va_wsU RX7 73 RX5 "HiredEnemy$Telling" ⟨"HiredEnemy$Telling", "low", "(II)I"⟩ yX5_low wsX5_low) := goodIn_app (goodIn_of _ (by decide +kernel)) ggX7_readPart_X5_low
theorem ggX7_readPart_X6_low : GoodIn wsX7_readPart wsX6_low := gW_in gwX6_low (fun _ h => List.mem_cons_of_mem _ (List.mem_append_right _ (List.mem_append_right _ (List.mem_append_right _ (List.mem_append_right _ (List.mem_append_right _ (List.mem_append_right _ (List.mem_append_right _ (List.mem_append_right _ (List.mem_append_right _ (List.mem_append_right _ (List.mem_append_right _ (List.mem_append_right _ (List.mem_append_right _ (List.mem_append_right _ (List.mem_append_right _ (List.mem_append_right _ (List.mem_append_left _ h))))))))))))))))))
set_option maxRecDepth 20000 in
theorem gX7_readPart_X6_low_u73X6 : GoodIn wsX7_readPart (va_wsU RX7 73 RX6 "HiredEnemy$Telling" ⟨"HiredEnemy$Telling", "low", "(II)I"⟩ yX6_low wsX6_low) := goodIn_app (goodIn_of _ (by decide +kernel)) ggX7_readPart_X6_low
theorem ggX7_readPart_X5_high : GoodIn wsX7_readPart wsX5_high := gW_in gwX5_high (fun _ h => List.mem_cons_of_mem _ (List.mem_append_right _ (List.mem_append_right _ (List.mem_append_right _ (List.mem_append_right _ (List.mem_append_right _ (List.mem_append_right _ (List.mem_append_right _ (List.mem_append_right _ (List.mem_append_right _ (List.mem_append_right _ (List.mem_append_right _ (List.mem_append_right _ (List.mem_append_right _ (List.mem_append_right _ (List.mem_append_right _ (List.mem_append_right _ (List.mem_append_right _ (List.mem_append_left _ h)))))))))))))))))))
set_option maxRecDepth 20000 in
theorem gX7_readPart_X5_high_u76X5 : GoodIn wsX7_readPart (va_wsU RX7 76 RX5 "HiredEnemy$Telling" ⟨"HiredEnemy$Telling", "high", "(II)I"⟩ yX5_high wsX5_high) := goodIn_app (goodIn_of _ (by decide +kernel)) ggX7_readPart_X5_high
theorem ggX7_readPart_X6_high : GoodIn wsX7_readPart wsX6_high := gW_in gwX6_high (fun _ h => List.mem_cons_of_mem _ (List.mem_append_right _ (List.mem_append_right _ (List.mem_append_right _ (List.mem_append_right _ (List.mem_append_right _ (List.mem_append_right _ (List.mem_append_right _ (List.mem_append_right _ (List.mem_append_right _ (List.mem_append_right _ (List.mem_append_right _ (List.mem_append_right _ (List.mem_append_right _ (List.mem_append_right _ (List.mem_append_right _ (List.mem_append_right _ (List.mem_append_right _ (List.mem_append_right _ (List.mem_append_left _ h))))))))))))))))))))
set_option maxRecDepth 20000 in
theorem gX7_readPart_X6_high_u76X6 : GoodIn wsX7_readPart (va_wsU RX7 76 RX6 "HiredEnemy$Telling" ⟨"HiredEnemy$Telling", "high", "(II)I"⟩ yX6_high wsX6_high) := goodIn_app (goodIn_of _ (by decide +kernel)) ggX7_readPart_X6_high
theorem ggX7_readPart_X7_readNumber : GoodIn wsX7_readPart wsX7_readNumber := gW_in gwX7_readNumber (fun _ h => List.mem_cons_of_mem _ (List.mem_append_right _ (List.mem_append_right _ (List.mem_append_right _ (List.mem_append_right _ (List.mem_append_right _ (List.mem_append_right _ (List.mem_append_right _ (List.mem_append_right _ (List.mem_append_right _ (List.mem_append_right _ (List.mem_append_right _ (List.mem_append_right _ (List.mem_append_right _ (List.mem_append_right _ (List.mem_append_right _ (List.mem_append_right _ (List.mem_append_right _ (List.mem_append_right _ (List.mem_append_right _ (List.mem_append_left _ h)))))))))))))))))))))
set_option maxRecDepth 20000 in
theorem gX7_readPart_X7_readNumber : GoodIn wsX7_readPart (wsV RX7 79 RX7 yX7_readNumber wsX7_readNumber) := goodIn_app (goodIn_of _ (by decide +kernel)) ggX7_readPart_X7_readNumber
theorem ggX7_readPart_X7_skipBlanks : GoodIn wsX7_readPart wsX7_skipBlanks := gW_in gwX7_skipBlanks (fun _ h => List.mem_cons_of_mem _ (List.mem_append_right _ (List.mem_append_right _ (List.mem_append_right _ (List.mem_append_right _ (List.mem_append_right _ (List.mem_append_right _ (List.mem_append_right _ (List.mem_append_right _ (List.mem_append_right _ (List.mem_append_right _ (List.mem_append_right _ (List.mem_append_right _ (List.mem_append_right _ (List.mem_append_right _ (List.mem_append_right _ (List.mem_append_right _ (List.mem_append_right _ (List.mem_append_right _ (List.mem_append_right _ (List.mem_append_right _ (List.mem_append_left _ h))))))))))))))))))))))
set_option maxRecDepth 20000 in
theorem gX7_readPart_X7_skipBlanks : GoodIn wsX7_readPart (wsV RX7 44 RX7 yX7_skipBlanks wsX7_skipBlanks) := goodIn_app (goodIn_of _ (by decide +kernel)) ggX7_readPart_X7_skipBlanks
theorem ggX7_readPart_X5_store : GoodIn wsX7_readPart wsX5_store := gW_in gwX5_store (fun _ h => List.mem_cons_of_mem _ (List.mem_append_right _ (List.mem_append_right _ (List.mem_append_right _ (List.mem_append_right _ (List.mem_append_right _ (List.mem_append_right _ (List.mem_append_right _ (List.mem_append_right _ (List.mem_append_right _ (List.mem_append_right _ (List.mem_append_right _ (List.mem_append_right _ (List.mem_append_right _ (List.mem_append_right _ (List.mem_append_right _ (List.mem_append_right _ (List.mem_append_right _ (List.mem_append_right _ (List.mem_append_right _ (List.mem_append_right _ (List.mem_append_right _ (List.mem_append_left _ h)))))))))))))))))))))))
set_option maxRecDepth 20000 in
theorem gX7_readPart_X5_store_u83X5 : GoodIn wsX7_readPart (va_wsU RX7 83 RX5 "HiredEnemy$Telling" ⟨"HiredEnemy$Telling", "store", "(I[I)V"⟩ yX5_store wsX5_store) := goodIn_app (goodIn_of _ (by decide +kernel)) ggX7_readPart_X5_store
theorem ggX7_readPart_X6_store : GoodIn wsX7_readPart wsX6_store := gW_in gwX6_store (fun _ h => List.mem_cons_of_mem _ (List.mem_append_right _ (List.mem_append_right _ (List.mem_append_right _ (List.mem_append_right _ (List.mem_append_right _ (List.mem_append_right _ (List.mem_append_right _ (List.mem_append_right _ (List.mem_append_right _ (List.mem_append_right _ (List.mem_append_right _ (List.mem_append_right _ (List.mem_append_right _ (List.mem_append_right _ (List.mem_append_right _ (List.mem_append_right _ (List.mem_append_right _ (List.mem_append_right _ (List.mem_append_right _ (List.mem_append_right _ (List.mem_append_right _ (List.mem_append_right _ (h))))))))))))))))))))))))
set_option maxRecDepth 20000 in
theorem gX7_readPart_X6_store_u83X6 : GoodIn wsX7_readPart (va_wsU RX7 83 RX6 "HiredEnemy$Telling" ⟨"HiredEnemy$Telling", "store", "(I[I)V"⟩ yX6_store wsX6_store) := goodIn_app (goodIn_of _ (by decide +kernel)) ggX7_readPart_X6_store
theorem dX7_readPart_0 : decode cX7_readPart 0 = .ok (.aload_n 0, 1) := by decide +kernel
theorem dX7_readPart_1 : decode cX7_readPart 1 = .ok (.getfield 32, 3) := by decide +kernel
theorem dX7_readPart_4 : decode cX7_readPart 4 = .ok (.istore_n 3, 1) := by decide +kernel
theorem dX7_readPart_5 : decode cX7_readPart 5 = .ok (.aload_n 0, 1) := by decide +kernel
theorem dX7_readPart_6 : decode cX7_readPart 6 = .ok (.invokevirtual 51, 3) := by decide +kernel
theorem dX7_readPart_9 : decode cX7_readPart 9 = .ok (.aload_n 0, 1) := by decide +kernel
theorem dX7_readPart_10 : decode cX7_readPart 10 = .ok (.aload_n 1, 1) := by decide +kernel
theorem dX7_readPart_11 : decode cX7_readPart 11 = .ok (.invokevirtual 54, 3) := by decide +kernel
theorem dX7_readPart_14 : decode cX7_readPart 14 = .ok (.iload_n 3, 1) := by decide +kernel
theorem dX7_readPart_15 : decode cX7_readPart 15 = .ok (.invokevirtual 58, 3) := by decide +kernel
theorem dX7_readPart_18 : decode cX7_readPart 18 = .ok (.istore 4, 2) := by decide +kernel
theorem dX7_readPart_20 : decode cX7_readPart 20 = .ok (.iload 4, 2) := by decide +kernel
theorem dX7_readPart_22 : decode cX7_readPart 22 = .ok (.iconst (-1), 1) := by decide +kernel
theorem dX7_readPart_23 : decode cX7_readPart 23 = .ok (.if_icmp .ne 10, 3) := by decide +kernel
theorem dX7_readPart_26 : decode cX7_readPart 26 = .ok (.aload_n 0, 1) := by decide +kernel
theorem dX7_readPart_27 : decode cX7_readPart 27 = .ok (.iconst 1, 1) := by decide +kernel
theorem dX7_readPart_28 : decode cX7_readPart 28 = .ok (.iload_n 3, 1) := by decide +kernel
theorem dX7_readPart_29 : decode cX7_readPart 29 = .ok (.invokevirtual 62, 3) := by decide +kernel
theorem dX7_readPart_32 : decode cX7_readPart 32 = .ok (.ireturn, 1) := by decide +kernel
theorem dX7_readPart_33 : decode cX7_readPart 33 = .ok (.iload_n 2, 1) := by decide +kernel
theorem dX7_readPart_34 : decode cX7_readPart 34 = .ok (.aload_n 1, 1) := by decide +kernel
theorem dX7_readPart_35 : decode cX7_readPart 35 = .ok (.invokevirtual 38, 3) := by decide +kernel
theorem dX7_readPart_38 : decode cX7_readPart 38 = .ok (.if_icmp .ge 12, 3) := by decide +kernel
theorem dX7_readPart_41 : decode cX7_readPart 41 = .ok (.aload_n 1, 1) := by decide +kernel
theorem dX7_readPart_42 : decode cX7_readPart 42 = .ok (.iload 4, 2) := by decide +kernel
theorem dX7_readPart_44 : decode cX7_readPart 44 = .ok (.invokevirtual 66, 3) := by decide +kernel
theorem dX7_readPart_47 : decode cX7_readPart 47 = .ok (.ifCond .eq 10, 3) := by decide +kernel
theorem dX7_readPart_50 : decode cX7_readPart 50 = .ok (.aload_n 0, 1) := by decide +kernel
theorem dX7_readPart_51 : decode cX7_readPart 51 = .ok (.iconst 3, 1) := by decide +kernel
theorem dX7_readPart_52 : decode cX7_readPart 52 = .ok (.iload_n 3, 1) := by decide +kernel
theorem dX7_readPart_53 : decode cX7_readPart 53 = .ok (.invokevirtual 62, 3) := by decide +kernel
theorem dX7_readPart_56 : decode cX7_readPart 56 = .ok (.ireturn, 1) := by decide +kernel
theorem dX7_readPart_57 : decode cX7_readPart 57 = .ok (.aload_n 1, 1) := by decide +kernel
theorem dX7_readPart_58 : decode cX7_readPart 58 = .ok (.iload 4, 2) := by decide +kernel
theorem dX7_readPart_60 : decode cX7_readPart 60 = .ok (.invokevirtual 70, 3) := by decide +kernel
theorem dX7_readPart_63 : decode cX7_readPart 63 = .ok (.aload_n 0, 1) := by decide +kernel
theorem dX7_readPart_64 : decode cX7_readPart 64 = .ok (.getfield 19, 3) := by decide +kernel
theorem dX7_readPart_67 : decode cX7_readPart 67 = .ok (.arraylength, 1) := by decide +kernel
theorem dX7_readPart_68 : decode cX7_readPart 68 = .ok (.invokestatic 23, 3) := by decide +kernel
theorem dX7_readPart_71 : decode cX7_readPart 71 = .ok (.istore 5, 2) := by decide +kernel
theorem dX7_readPart_73 : decode cX7_readPart 73 = .ok (.iconst 0, 1) := by decide +kernel
theorem dX7_readPart_74 : decode cX7_readPart 74 = .ok (.istore 6, 2) := by decide +kernel
theorem dX7_readPart_76 : decode cX7_readPart 76 = .ok (.iload 6, 2) := by decide +kernel
theorem dX7_readPart_78 : decode cX7_readPart 78 = .ok (.iload 5, 2) := by decide +kernel
theorem dX7_readPart_80 : decode cX7_readPart 80 = .ok (.if_icmp .ge 36, 3) := by decide +kernel
theorem dX7_readPart_83 : decode cX7_readPart 83 = .ok (.aload_n 0, 1) := by decide +kernel
theorem dX7_readPart_84 : decode cX7_readPart 84 = .ok (.iload 6, 2) := by decide +kernel
theorem dX7_readPart_86 : decode cX7_readPart 86 = .ok (.aload_n 1, 1) := by decide +kernel
theorem dX7_readPart_87 : decode cX7_readPart 87 = .ok (.iload 4, 2) := by decide +kernel
theorem dX7_readPart_89 : decode cX7_readPart 89 = .ok (.iload 6, 2) := by decide +kernel
theorem dX7_readPart_91 : decode cX7_readPart 91 = .ok (.invokevirtual 73, 3) := by decide +kernel
theorem dX7_readPart_94 : decode cX7_readPart 94 = .ok (.aload_n 1, 1) := by decide +kernel
theorem dX7_readPart_95 : decode cX7_readPart 95 = .ok (.iload 4, 2) := by decide +kernel
theorem dX7_readPart_97 : decode cX7_readPart 97 = .ok (.iload 6, 2) := by decide +kernel
theorem dX7_readPart_99 : decode cX7_readPart 99 = .ok (.invokevirtual 76, 3) := by decide +kernel
theorem dX7_readPart_102 : decode cX7_readPart 102 = .ok (.invokevirtual 79, 3) := by decide +kernel
theorem dX7_readPart_105 : decode cX7_readPart 105 = .ok (.ifCond .ne 5, 3) := by decide +kernel
theorem dX7_readPart_108 : decode cX7_readPart 108 = .ok (.iconst 0, 1) := by decide +kernel
theorem dX7_readPart_109 : decode cX7_readPart 109 = .ok (.ireturn, 1) := by decide +kernel
theorem dX7_readPart_110 : decode cX7_readPart 110 = .ok (.iinc 6 1, 3) := by decide +kernel
theorem dX7_readPart_113 : decode cX7_readPart 113 = .ok (.goto (-37), 3) := by decide +kernel
theorem dX7_readPart_116 : decode cX7_readPart 116 = .ok (.aload_n 0, 1) := by decide +kernel
theorem dX7_readPart_117 : decode cX7_readPart 117 = .ok (.invokevirtual 44, 3) := by decide +kernel
theorem dX7_readPart_120 : decode cX7_readPart 120 = .ok (.aload_n 0, 1) := by decide +kernel
theorem dX7_readPart_121 : decode cX7_readPart 121 = .ok (.getfield 32, 3) := by decide +kernel
theorem dX7_readPart_124 : decode cX7_readPart 124 = .ok (.aload_n 0, 1) := by decide +kernel
theorem dX7_readPart_125 : decode cX7_readPart 125 = .ok (.getfield 29, 3) := by decide +kernel
theorem dX7_readPart_128 : decode cX7_readPart 128 = .ok (.if_icmp .ge 17, 3) := by decide +kernel
theorem dX7_readPart_131 : decode cX7_readPart 131 = .ok (.aload_n 0, 1) := by decide +kernel
theorem dX7_readPart_132 : decode cX7_readPart 132 = .ok (.getfield 9, 3) := by decide +kernel
theorem dX7_readPart_135 : decode cX7_readPart 135 = .ok (.aload_n 0, 1) := by decide +kernel
theorem dX7_readPart_136 : decode cX7_readPart 136 = .ok (.getfield 32, 3) := by decide +kernel
theorem dX7_readPart_139 : decode cX7_readPart 139 = .ok (.baload, 1) := by decide +kernel
theorem dX7_readPart_140 : decode cX7_readPart 140 = .ok (.bipush 59, 2) := by decide +kernel
theorem dX7_readPart_142 : decode cX7_readPart 142 = .ok (.if_icmp .eq 13, 3) := by decide +kernel
theorem dX7_readPart_145 : decode cX7_readPart 145 = .ok (.aload_n 0, 1) := by decide +kernel
theorem dX7_readPart_146 : decode cX7_readPart 146 = .ok (.iconst 1, 1) := by decide +kernel
theorem dX7_readPart_147 : decode cX7_readPart 147 = .ok (.aload_n 0, 1) := by decide +kernel
theorem dX7_readPart_148 : decode cX7_readPart 148 = .ok (.getfield 32, 3) := by decide +kernel
theorem dX7_readPart_151 : decode cX7_readPart 151 = .ok (.invokevirtual 62, 3) := by decide +kernel
theorem dX7_readPart_154 : decode cX7_readPart 154 = .ok (.ireturn, 1) := by decide +kernel
theorem dX7_readPart_155 : decode cX7_readPart 155 = .ok (.aload_n 0, 1) := by decide +kernel
theorem dX7_readPart_156 : decode cX7_readPart 156 = .ok (.dup, 1) := by decide +kernel
theorem dX7_readPart_157 : decode cX7_readPart 157 = .ok (.getfield 32, 3) := by decide +kernel
theorem dX7_readPart_160 : decode cX7_readPart 160 = .ok (.iconst 1, 1) := by decide +kernel
theorem dX7_readPart_161 : decode cX7_readPart 161 = .ok (.iadd, 1) := by decide +kernel
theorem dX7_readPart_162 : decode cX7_readPart 162 = .ok (.putfield 32, 3) := by decide +kernel
theorem dX7_readPart_165 : decode cX7_readPart 165 = .ok (.aload_n 1, 1) := by decide +kernel
theorem dX7_readPart_166 : decode cX7_readPart 166 = .ok (.iload 4, 2) := by decide +kernel
theorem dX7_readPart_168 : decode cX7_readPart 168 = .ok (.aload_n 0, 1) := by decide +kernel
theorem dX7_readPart_169 : decode cX7_readPart 169 = .ok (.getfield 19, 3) := by decide +kernel
theorem dX7_readPart_172 : decode cX7_readPart 172 = .ok (.invokevirtual 83, 3) := by decide +kernel
theorem dX7_readPart_175 : decode cX7_readPart 175 = .ok (.iconst 1, 1) := by decide +kernel
theorem dX7_readPart_176 : decode cX7_readPart 176 = .ok (.ireturn, 1) := by decide +kernel
theorem ggX7_readNumber_X7_skipBlanks : GoodIn wsX7_readNumber wsX7_skipBlanks := gW_in gwX7_skipBlanks (fun _ h => List.mem_cons_of_mem _ (List.mem_append_right _ (List.mem_append_right _ (List.mem_append_left _ h))))
set_option maxRecDepth 20000 in
theorem gX7_readNumber_X7_skipBlanks : GoodIn wsX7_readNumber (wsV RX7 44 RX7 yX7_skipBlanks wsX7_skipBlanks) := goodIn_app (goodIn_of _ (by decide +kernel)) ggX7_readNumber_X7_skipBlanks
theorem ggX7_readNumber_X7_fail : GoodIn wsX7_readNumber wsX7_fail := gW_in gwX7_fail (fun _ h => List.mem_cons_of_mem _ (List.mem_append_right _ (List.mem_append_right _ (List.mem_append_right _ (List.mem_append_left _ h)))))
set_option maxRecDepth 20000 in
theorem gX7_readNumber_X7_fail : GoodIn wsX7_readNumber (wsV RX7 62 RX7 yX7_fail wsX7_fail) := goodIn_app (goodIn_of _ (by decide +kernel)) ggX7_readNumber_X7_fail
theorem ggX7_readNumber_X10_within : GoodIn wsX7_readNumber wsX10_within := gW_in gwX10_within (fun _ h => List.mem_cons_of_mem _ (List.mem_append_right _ (List.mem_append_right _ (List.mem_append_right _ (List.mem_append_right _ (h))))))
set_option maxRecDepth 20000 in
theorem gX7_readNumber_X10_within_n88 : GoodIn wsX7_readNumber (wsX10_within) := ggX7_readNumber_X10_within
theorem dX7_readNumber_0 : decode cX7_readNumber 0 = .ok (.aload_n 0, 1) := by decide +kernel
theorem dX7_readNumber_1 : decode cX7_readNumber 1 = .ok (.invokevirtual 44, 3) := by decide +kernel
theorem dX7_readNumber_4 : decode cX7_readNumber 4 = .ok (.aload_n 0, 1) := by decide +kernel
theorem dX7_readNumber_5 : decode cX7_readNumber 5 = .ok (.getfield 32, 3) := by decide +kernel
theorem dX7_readNumber_8 : decode cX7_readNumber 8 = .ok (.istore 4, 2) := by decide +kernel
theorem dX7_readNumber_10 : decode cX7_readNumber 10 = .ok (.iconst 0, 1) := by decide +kernel
theorem dX7_readNumber_11 : decode cX7_readNumber 11 = .ok (.istore 5, 2) := by decide +kernel
theorem dX7_readNumber_13 : decode cX7_readNumber 13 = .ok (.aload_n 0, 1) := by decide +kernel
theorem dX7_readNumber_14 : decode cX7_readNumber 14 = .ok (.getfield 32, 3) := by decide +kernel
theorem dX7_readNumber_17 : decode cX7_readNumber 17 = .ok (.aload_n 0, 1) := by decide +kernel
theorem dX7_readNumber_18 : decode cX7_readNumber 18 = .ok (.getfield 29, 3) := by decide +kernel
theorem dX7_readNumber_21 : decode cX7_readNumber 21 = .ok (.if_icmp .ge 69, 3) := by decide +kernel
theorem dX7_readNumber_24 : decode cX7_readNumber 24 = .ok (.aload_n 0, 1) := by decide +kernel
theorem dX7_readNumber_25 : decode cX7_readNumber 25 = .ok (.getfield 9, 3) := by decide +kernel
theorem dX7_readNumber_28 : decode cX7_readNumber 28 = .ok (.aload_n 0, 1) := by decide +kernel
theorem dX7_readNumber_29 : decode cX7_readNumber 29 = .ok (.getfield 32, 3) := by decide +kernel
theorem dX7_readNumber_32 : decode cX7_readNumber 32 = .ok (.baload, 1) := by decide +kernel
theorem dX7_readNumber_33 : decode cX7_readNumber 33 = .ok (.bipush 48, 2) := by decide +kernel
theorem dX7_readNumber_35 : decode cX7_readNumber 35 = .ok (.if_icmp .lt 55, 3) := by decide +kernel
theorem dX7_readNumber_38 : decode cX7_readNumber 38 = .ok (.aload_n 0, 1) := by decide +kernel
theorem dX7_readNumber_39 : decode cX7_readNumber 39 = .ok (.getfield 9, 3) := by decide +kernel
theorem dX7_readNumber_42 : decode cX7_readNumber 42 = .ok (.aload_n 0, 1) := by decide +kernel
theorem dX7_readNumber_43 : decode cX7_readNumber 43 = .ok (.getfield 32, 3) := by decide +kernel
theorem dX7_readNumber_46 : decode cX7_readNumber 46 = .ok (.baload, 1) := by decide +kernel
theorem dX7_readNumber_47 : decode cX7_readNumber 47 = .ok (.bipush 57, 2) := by decide +kernel
theorem dX7_readNumber_49 : decode cX7_readNumber 49 = .ok (.if_icmp .gt 41, 3) := by decide +kernel
theorem dX7_readNumber_52 : decode cX7_readNumber 52 = .ok (.iload 5, 2) := by decide +kernel
theorem dX7_readNumber_54 : decode cX7_readNumber 54 = .ok (.bipush 10, 2) := by decide +kernel
theorem dX7_readNumber_56 : decode cX7_readNumber 56 = .ok (.imul, 1) := by decide +kernel
theorem dX7_readNumber_57 : decode cX7_readNumber 57 = .ok (.aload_n 0, 1) := by decide +kernel
theorem dX7_readNumber_58 : decode cX7_readNumber 58 = .ok (.getfield 9, 3) := by decide +kernel
theorem dX7_readNumber_61 : decode cX7_readNumber 61 = .ok (.aload_n 0, 1) := by decide +kernel
theorem dX7_readNumber_62 : decode cX7_readNumber 62 = .ok (.getfield 32, 3) := by decide +kernel
theorem dX7_readNumber_65 : decode cX7_readNumber 65 = .ok (.baload, 1) := by decide +kernel
theorem dX7_readNumber_66 : decode cX7_readNumber 66 = .ok (.iadd, 1) := by decide +kernel
theorem dX7_readNumber_67 : decode cX7_readNumber 67 = .ok (.bipush 48, 2) := by decide +kernel
theorem dX7_readNumber_69 : decode cX7_readNumber 69 = .ok (.isub, 1) := by decide +kernel
theorem dX7_readNumber_70 : decode cX7_readNumber 70 = .ok (.ldc 87, 2) := by decide +kernel
theorem dX7_readNumber_72 : decode cX7_readNumber 72 = .ok (.invokestatic 23, 3) := by decide +kernel
theorem dX7_readNumber_75 : decode cX7_readNumber 75 = .ok (.istore 5, 2) := by decide +kernel
theorem dX7_readNumber_77 : decode cX7_readNumber 77 = .ok (.aload_n 0, 1) := by decide +kernel
theorem dX7_readNumber_78 : decode cX7_readNumber 78 = .ok (.dup, 1) := by decide +kernel
theorem dX7_readNumber_79 : decode cX7_readNumber 79 = .ok (.getfield 32, 3) := by decide +kernel
theorem dX7_readNumber_82 : decode cX7_readNumber 82 = .ok (.iconst 1, 1) := by decide +kernel
theorem dX7_readNumber_83 : decode cX7_readNumber 83 = .ok (.iadd, 1) := by decide +kernel
theorem dX7_readNumber_84 : decode cX7_readNumber 84 = .ok (.putfield 32, 3) := by decide +kernel
theorem dX7_readNumber_87 : decode cX7_readNumber 87 = .ok (.goto (-74), 3) := by decide +kernel
theorem dX7_readNumber_90 : decode cX7_readNumber 90 = .ok (.aload_n 0, 1) := by decide +kernel
theorem dX7_readNumber_91 : decode cX7_readNumber 91 = .ok (.getfield 32, 3) := by decide +kernel
theorem dX7_readNumber_94 : decode cX7_readNumber 94 = .ok (.iload 4, 2) := by decide +kernel
theorem dX7_readNumber_96 : decode cX7_readNumber 96 = .ok (.if_icmp .ne 11, 3) := by decide +kernel
theorem dX7_readNumber_99 : decode cX7_readNumber 99 = .ok (.aload_n 0, 1) := by decide +kernel
theorem dX7_readNumber_100 : decode cX7_readNumber 100 = .ok (.iconst 1, 1) := by decide +kernel
theorem dX7_readNumber_101 : decode cX7_readNumber 101 = .ok (.iload 4, 2) := by decide +kernel
theorem dX7_readNumber_103 : decode cX7_readNumber 103 = .ok (.invokevirtual 62, 3) := by decide +kernel
theorem dX7_readNumber_106 : decode cX7_readNumber 106 = .ok (.ireturn, 1) := by decide +kernel
theorem dX7_readNumber_107 : decode cX7_readNumber 107 = .ok (.iload 5, 2) := by decide +kernel
theorem dX7_readNumber_109 : decode cX7_readNumber 109 = .ok (.iload_n 2, 1) := by decide +kernel
theorem dX7_readNumber_110 : decode cX7_readNumber 110 = .ok (.iload_n 3, 1) := by decide +kernel
theorem dX7_readNumber_111 : decode cX7_readNumber 111 = .ok (.invokestatic 88, 3) := by decide +kernel
theorem dX7_readNumber_114 : decode cX7_readNumber 114 = .ok (.ifCond .ne 11, 3) := by decide +kernel
theorem dX7_readNumber_117 : decode cX7_readNumber 117 = .ok (.aload_n 0, 1) := by decide +kernel
theorem dX7_readNumber_118 : decode cX7_readNumber 118 = .ok (.iconst 2, 1) := by decide +kernel
theorem dX7_readNumber_119 : decode cX7_readNumber 119 = .ok (.iload 4, 2) := by decide +kernel
theorem dX7_readNumber_121 : decode cX7_readNumber 121 = .ok (.invokevirtual 62, 3) := by decide +kernel
theorem dX7_readNumber_124 : decode cX7_readNumber 124 = .ok (.ireturn, 1) := by decide +kernel
theorem dX7_readNumber_125 : decode cX7_readNumber 125 = .ok (.aload_n 0, 1) := by decide +kernel
theorem dX7_readNumber_126 : decode cX7_readNumber 126 = .ok (.getfield 19, 3) := by decide +kernel
theorem dX7_readNumber_129 : decode cX7_readNumber 129 = .ok (.iload_n 1, 1) := by decide +kernel
theorem dX7_readNumber_130 : decode cX7_readNumber 130 = .ok (.iload 5, 2) := by decide +kernel
theorem dX7_readNumber_132 : decode cX7_readNumber 132 = .ok (.iastore, 1) := by decide +kernel
theorem dX7_readNumber_133 : decode cX7_readNumber 133 = .ok (.iconst 1, 1) := by decide +kernel
theorem dX7_readNumber_134 : decode cX7_readNumber 134 = .ok (.ireturn, 1) := by decide +kernel
theorem dX7_fail_0 : decode cX7_fail 0 = .ok (.aload_n 0, 1) := by decide +kernel
theorem dX7_fail_1 : decode cX7_fail 1 = .ok (.iload_n 1, 1) := by decide +kernel
theorem dX7_fail_2 : decode cX7_fail 2 = .ok (.putfield 35, 3) := by decide +kernel
theorem dX7_fail_5 : decode cX7_fail 5 = .ok (.aload_n 0, 1) := by decide +kernel
theorem dX7_fail_6 : decode cX7_fail 6 = .ok (.iload_n 2, 1) := by decide +kernel
theorem dX7_fail_7 : decode cX7_fail 7 = .ok (.putfield 15, 3) := by decide +kernel
theorem dX7_fail_10 : decode cX7_fail 10 = .ok (.iconst 0, 1) := by decide +kernel
theorem dX7_fail_11 : decode cX7_fail 11 = .ok (.ireturn, 1) := by decide +kernel
theorem dX7_skipBlanks_0 : decode cX7_skipBlanks 0 = .ok (.aload_n 0, 1) := by decide +kernel
theorem dX7_skipBlanks_1 : decode cX7_skipBlanks 1 = .ok (.getfield 32, 3) := by decide +kernel
theorem dX7_skipBlanks_4 : decode cX7_skipBlanks 4 = .ok (.aload_n 0, 1) := by decide +kernel
theorem dX7_skipBlanks_5 : decode cX7_skipBlanks 5 = .ok (.getfield 29, 3) := by decide +kernel
theorem dX7_skipBlanks_8 : decode cX7_skipBlanks 8 = .ok (.if_icmp .ge 30, 3) := by decide +kernel
theorem dX7_skipBlanks_11 : decode cX7_skipBlanks 11 = .ok (.aload_n 0, 1) := by decide +kernel
theorem dX7_skipBlanks_12 : decode cX7_skipBlanks 12 = .ok (.getfield 9, 3) := by decide +kernel
theorem dX7_skipBlanks_15 : decode cX7_skipBlanks 15 = .ok (.aload_n 0, 1) := by decide +kernel
theorem dX7_skipBlanks_16 : decode cX7_skipBlanks 16 = .ok (.getfield 32, 3) := by decide +kernel
theorem dX7_skipBlanks_19 : decode cX7_skipBlanks 19 = .ok (.baload, 1) := by decide +kernel
theorem dX7_skipBlanks_20 : decode cX7_skipBlanks 20 = .ok (.bipush 32, 2) := by decide +kernel
theorem dX7_skipBlanks_22 : decode cX7_skipBlanks 22 = .ok (.if_icmp .ne 16, 3) := by decide +kernel
theorem dX7_skipBlanks_25 : decode cX7_skipBlanks 25 = .ok (.aload_n 0, 1) := by decide +kernel
theorem dX7_skipBlanks_26 : decode cX7_skipBlanks 26 = .ok (.dup, 1) := by decide +kernel
theorem dX7_skipBlanks_27 : decode cX7_skipBlanks 27 = .ok (.getfield 32, 3) := by decide +kernel
theorem dX7_skipBlanks_30 : decode cX7_skipBlanks 30 = .ok (.iconst 1, 1) := by decide +kernel
theorem dX7_skipBlanks_31 : decode cX7_skipBlanks 31 = .ok (.iadd, 1) := by decide +kernel
theorem dX7_skipBlanks_32 : decode cX7_skipBlanks 32 = .ok (.putfield 32, 3) := by decide +kernel
theorem dX7_skipBlanks_35 : decode cX7_skipBlanks 35 = .ok (.goto (-35), 3) := by decide +kernel
theorem dX7_skipBlanks_38 : decode cX7_skipBlanks 38 = .ok (.return_, 1) := by decide +kernel
theorem dX7_skipLetters_0 : decode cX7_skipLetters 0 = .ok (.aload_n 0, 1) := by decide +kernel
theorem dX7_skipLetters_1 : decode cX7_skipLetters 1 = .ok (.getfield 32, 3) := by decide +kernel
theorem dX7_skipLetters_4 : decode cX7_skipLetters 4 = .ok (.aload_n 0, 1) := by decide +kernel
theorem dX7_skipLetters_5 : decode cX7_skipLetters 5 = .ok (.getfield 29, 3) := by decide +kernel
theorem dX7_skipLetters_8 : decode cX7_skipLetters 8 = .ok (.if_icmp .ge 44, 3) := by decide +kernel
theorem dX7_skipLetters_11 : decode cX7_skipLetters 11 = .ok (.aload_n 0, 1) := by decide +kernel
theorem dX7_skipLetters_12 : decode cX7_skipLetters 12 = .ok (.getfield 9, 3) := by decide +kernel
theorem dX7_skipLetters_15 : decode cX7_skipLetters 15 = .ok (.aload_n 0, 1) := by decide +kernel
theorem dX7_skipLetters_16 : decode cX7_skipLetters 16 = .ok (.getfield 32, 3) := by decide +kernel
theorem dX7_skipLetters_19 : decode cX7_skipLetters 19 = .ok (.baload, 1) := by decide +kernel
theorem dX7_skipLetters_20 : decode cX7_skipLetters 20 = .ok (.bipush 97, 2) := by decide +kernel
theorem dX7_skipLetters_22 : decode cX7_skipLetters 22 = .ok (.if_icmp .lt 30, 3) := by decide +kernel
theorem dX7_skipLetters_25 : decode cX7_skipLetters 25 = .ok (.aload_n 0, 1) := by decide +kernel
theorem dX7_skipLetters_26 : decode cX7_skipLetters 26 = .ok (.getfield 9, 3) := by decide +kernel
theorem dX7_skipLetters_29 : decode cX7_skipLetters 29 = .ok (.aload_n 0, 1) := by decide +kernel
theorem dX7_skipLetters_30 : decode cX7_skipLetters 30 = .ok (.getfield 32, 3) := by decide +kernel
theorem dX7_skipLetters_33 : decode cX7_skipLetters 33 = .ok (.baload, 1) := by decide +kernel
theorem dX7_skipLetters_34 : decode cX7_skipLetters 34 = .ok (.bipush 122, 2) := by decide +kernel
theorem dX7_skipLetters_36 : decode cX7_skipLetters 36 = .ok (.if_icmp .gt 16, 3) := by decide +kernel
theorem dX7_skipLetters_39 : decode cX7_skipLetters 39 = .ok (.aload_n 0, 1) := by decide +kernel
theorem dX7_skipLetters_40 : decode cX7_skipLetters 40 = .ok (.dup, 1) := by decide +kernel
theorem dX7_skipLetters_41 : decode cX7_skipLetters 41 = .ok (.getfield 32, 3) := by decide +kernel
theorem dX7_skipLetters_44 : decode cX7_skipLetters 44 = .ok (.iconst 1, 1) := by decide +kernel
theorem dX7_skipLetters_45 : decode cX7_skipLetters 45 = .ok (.iadd, 1) := by decide +kernel
theorem dX7_skipLetters_46 : decode cX7_skipLetters 46 = .ok (.putfield 32, 3) := by decide +kernel
theorem dX7_skipLetters_49 : decode cX7_skipLetters 49 = .ok (.goto (-49), 3) := by decide +kernel
theorem dX7_skipLetters_52 : decode cX7_skipLetters 52 = .ok (.return_, 1) := by decide +kernel
theorem ggX7_kindOf_J0_length_8abf5 : GoodIn wsX7_kindOf wsJ0_length_8abf5 := gW_in gwJ0_length_8abf5 (fun _ h => List.mem_cons_of_mem _ (List.mem_append_right _ (List.mem_append_right _ (List.mem_append_left _ h))))
set_option maxRecDepth 20000 in
theorem gX7_kindOf_J0_length_8abf5 : GoodIn wsX7_kindOf (wsV RX7 91 RJ0 yJ0_length_8abf5 wsJ0_length_8abf5) := goodIn_app (goodIn_of _ (by decide +kernel)) ggX7_kindOf_J0_length_8abf5
theorem ggX7_kindOf_J0_charAt_5068e : GoodIn wsX7_kindOf wsJ0_charAt_5068e := gW_in gwJ0_charAt_5068e (fun _ h => List.mem_cons_of_mem _ (List.mem_append_right _ (List.mem_append_right _ (List.mem_append_right _ (List.mem_append_left _ h)))))
set_option maxRecDepth 20000 in
theorem gX7_kindOf_J0_charAt_5068e : GoodIn wsX7_kindOf (wsV RX7 95 RJ0 yJ0_charAt_5068e wsJ0_charAt_5068e) := goodIn_app (goodIn_of _ (by decide +kernel)) ggX7_kindOf_J0_charAt_5068e
theorem ggX7_kindOf_X7_isSame : GoodIn wsX7_kindOf wsX7_isSame := gW_in gwX7_isSame (fun _ h => List.mem_cons_of_mem _ (List.mem_append_right _ (List.mem_append_right _ (List.mem_append_right _ (List.mem_append_right _ (h))))))
set_option maxRecDepth 20000 in
theorem gX7_kindOf_X7_isSame : GoodIn wsX7_kindOf (wsV RX7 99 RX7 yX7_isSame wsX7_isSame) := goodIn_app (goodIn_of _ (by decide +kernel)) ggX7_kindOf_X7_isSame
theorem dX7_kindOf_0 : decode cX7_kindOf 0 = .ok (.iconst 0, 1) := by decide +kernel
theorem dX7_kindOf_1 : decode cX7_kindOf 1 = .ok (.istore_n 3, 1) := by decide +kernel
theorem dX7_kindOf_2 : decode cX7_kindOf 2 = .ok (.iconst 0, 1) := by decide +kernel
theorem dX7_kindOf_3 : decode cX7_kindOf 3 = .ok (.istore 4, 2) := by decide +kernel
theorem dX7_kindOf_5 : decode cX7_kindOf 5 = .ok (.iconst 0, 1) := by decide +kernel
theorem dX7_kindOf_6 : decode cX7_kindOf 6 = .ok (.istore 5, 2) := by decide +kernel
theorem dX7_kindOf_8 : decode cX7_kindOf 8 = .ok (.iload 5, 2) := by decide +kernel
theorem dX7_kindOf_10 : decode cX7_kindOf 10 = .ok (.aload_n 1, 1) := by decide +kernel
theorem dX7_kindOf_11 : decode cX7_kindOf 11 = .ok (.invokevirtual 91, 3) := by decide +kernel
theorem dX7_kindOf_14 : decode cX7_kindOf 14 = .ok (.if_icmp .gt 53, 3) := by decide +kernel
theorem dX7_kindOf_17 : decode cX7_kindOf 17 = .ok (.iload 5, 2) := by decide +kernel
theorem dX7_kindOf_19 : decode cX7_kindOf 19 = .ok (.aload_n 1, 1) := by decide +kernel
theorem dX7_kindOf_20 : decode cX7_kindOf 20 = .ok (.invokevirtual 91, 3) := by decide +kernel
theorem dX7_kindOf_23 : decode cX7_kindOf 23 = .ok (.if_icmp .eq 14, 3) := by decide +kernel
theorem dX7_kindOf_26 : decode cX7_kindOf 26 = .ok (.aload_n 1, 1) := by decide +kernel
theorem dX7_kindOf_27 : decode cX7_kindOf 27 = .ok (.iload 5, 2) := by decide +kernel
theorem dX7_kindOf_29 : decode cX7_kindOf 29 = .ok (.invokevirtual 95, 3) := by decide +kernel
theorem dX7_kindOf_32 : decode cX7_kindOf 32 = .ok (.bipush 32, 2) := by decide +kernel
theorem dX7_kindOf_34 : decode cX7_kindOf 34 = .ok (.if_icmp .ne 27, 3) := by decide +kernel
theorem dX7_kindOf_37 : decode cX7_kindOf 37 = .ok (.aload_n 0, 1) := by decide +kernel
theorem dX7_kindOf_38 : decode cX7_kindOf 38 = .ok (.aload_n 1, 1) := by decide +kernel
theorem dX7_kindOf_39 : decode cX7_kindOf 39 = .ok (.iload 4, 2) := by decide +kernel
theorem dX7_kindOf_41 : decode cX7_kindOf 41 = .ok (.iload 5, 2) := by decide +kernel
theorem dX7_kindOf_43 : decode cX7_kindOf 43 = .ok (.iload_n 2, 1) := by decide +kernel
theorem dX7_kindOf_44 : decode cX7_kindOf 44 = .ok (.invokevirtual 99, 3) := by decide +kernel
theorem dX7_kindOf_47 : decode cX7_kindOf 47 = .ok (.ifCond .eq 5, 3) := by decide +kernel
theorem dX7_kindOf_50 : decode cX7_kindOf 50 = .ok (.iload_n 3, 1) := by decide +kernel
theorem dX7_kindOf_51 : decode cX7_kindOf 51 = .ok (.ireturn, 1) := by decide +kernel
theorem dX7_kindOf_52 : decode cX7_kindOf 52 = .ok (.iinc 3 1, 3) := by decide +kernel
theorem dX7_kindOf_55 : decode cX7_kindOf 55 = .ok (.iload 5, 2) := by decide +kernel
theorem dX7_kindOf_57 : decode cX7_kindOf 57 = .ok (.iconst 1, 1) := by decide +kernel
theorem dX7_kindOf_58 : decode cX7_kindOf 58 = .ok (.iadd, 1) := by decide +kernel
theorem dX7_kindOf_59 : decode cX7_kindOf 59 = .ok (.istore 4, 2) := by decide +kernel
theorem dX7_kindOf_61 : decode cX7_kindOf 61 = .ok (.iinc 5 1, 3) := by decide +kernel
theorem dX7_kindOf_64 : decode cX7_kindOf 64 = .ok (.goto (-56), 3) := by decide +kernel
theorem dX7_kindOf_67 : decode cX7_kindOf 67 = .ok (.iconst (-1), 1) := by decide +kernel
theorem dX7_kindOf_68 : decode cX7_kindOf 68 = .ok (.ireturn, 1) := by decide +kernel
theorem ggX7_isSame_J0_charAt_5068e : GoodIn wsX7_isSame wsJ0_charAt_5068e := gW_in gwJ0_charAt_5068e (fun _ h => List.mem_cons_of_mem _ (List.mem_append_right _ (List.mem_append_right _ (h))))
set_option maxRecDepth 20000 in
theorem gX7_isSame_J0_charAt_5068e : GoodIn wsX7_isSame (wsV RX7 95 RJ0 yJ0_charAt_5068e wsJ0_charAt_5068e) := goodIn_app (goodIn_of _ (by decide +kernel)) ggX7_isSame_J0_charAt_5068e
theorem dX7_isSame_0 : decode cX7_isSame 0 = .ok (.iload_n 3, 1) := by decide +kernel
theorem dX7_isSame_1 : decode cX7_isSame 1 = .ok (.iload_n 2, 1) := by decide +kernel
theorem dX7_isSame_2 : decode cX7_isSame 2 = .ok (.isub, 1) := by decide +kernel
theorem dX7_isSame_3 : decode cX7_isSame 3 = .ok (.aload_n 0, 1) := by decide +kernel
theorem dX7_isSame_4 : decode cX7_isSame 4 = .ok (.getfield 32, 3) := by decide +kernel
theorem dX7_isSame_7 : decode cX7_isSame 7 = .ok (.iload 4, 2) := by decide +kernel
theorem dX7_isSame_9 : decode cX7_isSame 9 = .ok (.isub, 1) := by decide +kernel
theorem dX7_isSame_10 : decode cX7_isSame 10 = .ok (.if_icmp .eq 5, 3) := by decide +kernel
theorem dX7_isSame_13 : decode cX7_isSame 13 = .ok (.iconst 0, 1) := by decide +kernel
theorem dX7_isSame_14 : decode cX7_isSame 14 = .ok (.ireturn, 1) := by decide +kernel
theorem dX7_isSame_15 : decode cX7_isSame 15 = .ok (.iconst 0, 1) := by decide +kernel
theorem dX7_isSame_16 : decode cX7_isSame 16 = .ok (.istore 5, 2) := by decide +kernel
theorem dX7_isSame_18 : decode cX7_isSame 18 = .ok (.iload 5, 2) := by decide +kernel
theorem dX7_isSame_20 : decode cX7_isSame 20 = .ok (.iload_n 3, 1) := by decide +kernel
theorem dX7_isSame_21 : decode cX7_isSame 21 = .ok (.iload_n 2, 1) := by decide +kernel
theorem dX7_isSame_22 : decode cX7_isSame 22 = .ok (.isub, 1) := by decide +kernel
theorem dX7_isSame_23 : decode cX7_isSame 23 = .ok (.if_icmp .ge 32, 3) := by decide +kernel
theorem dX7_isSame_26 : decode cX7_isSame 26 = .ok (.aload_n 1, 1) := by decide +kernel
theorem dX7_isSame_27 : decode cX7_isSame 27 = .ok (.iload_n 2, 1) := by decide +kernel
theorem dX7_isSame_28 : decode cX7_isSame 28 = .ok (.iload 5, 2) := by decide +kernel
theorem dX7_isSame_30 : decode cX7_isSame 30 = .ok (.iadd, 1) := by decide +kernel
theorem dX7_isSame_31 : decode cX7_isSame 31 = .ok (.invokevirtual 95, 3) := by decide +kernel
theorem dX7_isSame_34 : decode cX7_isSame 34 = .ok (.aload_n 0, 1) := by decide +kernel
theorem dX7_isSame_35 : decode cX7_isSame 35 = .ok (.getfield 9, 3) := by decide +kernel
theorem dX7_isSame_38 : decode cX7_isSame 38 = .ok (.iload 4, 2) := by decide +kernel
theorem dX7_isSame_40 : decode cX7_isSame 40 = .ok (.iload 5, 2) := by decide +kernel
theorem dX7_isSame_42 : decode cX7_isSame 42 = .ok (.iadd, 1) := by decide +kernel
theorem dX7_isSame_43 : decode cX7_isSame 43 = .ok (.baload, 1) := by decide +kernel
theorem dX7_isSame_44 : decode cX7_isSame 44 = .ok (.if_icmp .eq 5, 3) := by decide +kernel
theorem dX7_isSame_47 : decode cX7_isSame 47 = .ok (.iconst 0, 1) := by decide +kernel
theorem dX7_isSame_48 : decode cX7_isSame 48 = .ok (.ireturn, 1) := by decide +kernel
theorem dX7_isSame_49 : decode cX7_isSame 49 = .ok (.iinc 5 1, 3) := by decide +kernel
theorem dX7_isSame_52 : decode cX7_isSame 52 = .ok (.goto (-34), 3) := by decide +kernel
theorem dX7_isSame_55 : decode cX7_isSame 55 = .ok (.iconst 1, 1) := by decide +kernel
theorem dX7_isSame_56 : decode cX7_isSame 56 = .ok (.ireturn, 1) := by decide +kernel
theorem ggX8_init_X4_init : GoodIn wsX8_init wsX4_init := gW_in gwX4_init (fun _ h => List.mem_cons_of_mem _ (List.mem_append_right _ (List.mem_append_right _ (List.mem_append_right _ (List.mem_append_right _ (List.mem_append_right _ (List.mem_append_right _ (List.mem_append_left _ h))))))))
set_option maxRecDepth 20000 in
theorem gX8_init_X4_init_n9 : GoodIn wsX8_init (wsX4_init) := ggX8_init_X4_init
theorem ggX8_init_X0_init : GoodIn wsX8_init wsX0_init := gW_in gwX0_init (fun _ h => List.mem_cons_of_mem _ (List.mem_append_right _ (List.mem_append_right _ (List.mem_append_right _ (List.mem_append_right _ (List.mem_append_right _ (List.mem_append_right _ (List.mem_append_right _ (List.mem_append_left _ h)))))))))
set_option maxRecDepth 20000 in
theorem gX8_init_X0_init_n18 : GoodIn wsX8_init (wsX0_init) := ggX8_init_X0_init
theorem ggX8_init_X2_init : GoodIn wsX8_init wsX2_init := gW_in gwX2_init (fun _ h => List.mem_cons_of_mem _ (List.mem_append_right _ (List.mem_append_right _ (List.mem_append_right _ (List.mem_append_right _ (List.mem_append_right _ (List.mem_append_right _ (List.mem_append_right _ (List.mem_append_right _ (List.mem_append_left _ h))))))))))
set_option maxRecDepth 20000 in
theorem gX8_init_X2_init_n25 : GoodIn wsX8_init (wsX2_init) := ggX8_init_X2_init
theorem ggX8_init_X3_init : GoodIn wsX8_init wsX3_init := gW_in gwX3_init (fun _ h => List.mem_cons_of_mem _ (List.mem_append_right _ (List.mem_append_right _ (List.mem_append_right _ (List.mem_append_right _ (List.mem_append_right _ (List.mem_append_right _ (List.mem_append_right _ (List.mem_append_right _ (List.mem_append_right _ (h)))))))))))
set_option maxRecDepth 20000 in
theorem gX8_init_X3_init_n32 : GoodIn wsX8_init (wsX3_init) := ggX8_init_X3_init
theorem dX8_init_0 : decode cX8_init 0 = .ok (.aload_n 0, 1) := by decide +kernel
theorem dX8_init_1 : decode cX8_init 1 = .ok (.invokespecial 1, 3) := by decide +kernel
theorem dX8_init_4 : decode cX8_init 4 = .ok (.aload_n 0, 1) := by decide +kernel
theorem dX8_init_5 : decode cX8_init 5 = .ok (.new 7, 3) := by decide +kernel
theorem dX8_init_8 : decode cX8_init 8 = .ok (.dup, 1) := by decide +kernel
theorem dX8_init_9 : decode cX8_init 9 = .ok (.invokespecial 9, 3) := by decide +kernel
theorem dX8_init_12 : decode cX8_init 12 = .ok (.putfield 10, 3) := by decide +kernel
theorem dX8_init_15 : decode cX8_init 15 = .ok (.aload_n 0, 1) := by decide +kernel
theorem dX8_init_16 : decode cX8_init 16 = .ok (.new 16, 3) := by decide +kernel
theorem dX8_init_19 : decode cX8_init 19 = .ok (.dup, 1) := by decide +kernel
theorem dX8_init_20 : decode cX8_init 20 = .ok (.invokespecial 18, 3) := by decide +kernel
theorem dX8_init_23 : decode cX8_init 23 = .ok (.putfield 19, 3) := by decide +kernel
theorem dX8_init_26 : decode cX8_init 26 = .ok (.aload_n 0, 1) := by decide +kernel
theorem dX8_init_27 : decode cX8_init 27 = .ok (.new 23, 3) := by decide +kernel
theorem dX8_init_30 : decode cX8_init 30 = .ok (.dup, 1) := by decide +kernel
theorem dX8_init_31 : decode cX8_init 31 = .ok (.invokespecial 25, 3) := by decide +kernel
theorem dX8_init_34 : decode cX8_init 34 = .ok (.putfield 26, 3) := by decide +kernel
theorem dX8_init_37 : decode cX8_init 37 = .ok (.aload_n 0, 1) := by decide +kernel
theorem dX8_init_38 : decode cX8_init 38 = .ok (.new 30, 3) := by decide +kernel
theorem dX8_init_41 : decode cX8_init 41 = .ok (.dup, 1) := by decide +kernel
theorem dX8_init_42 : decode cX8_init 42 = .ok (.invokespecial 32, 3) := by decide +kernel
theorem dX8_init_45 : decode cX8_init 45 = .ok (.putfield 33, 3) := by decide +kernel
theorem dX8_init_48 : decode cX8_init 48 = .ok (.return_, 1) := by decide +kernel
theorem ggX8_begin_X4_begin : GoodIn wsX8_begin wsX4_begin := gW_in gwX4_begin (fun _ h => List.mem_cons_of_mem _ (List.mem_append_right _ (List.mem_append_right _ (List.mem_append_right _ (List.mem_append_right _ (List.mem_append_right _ (List.mem_append_right _ (List.mem_append_left _ h))))))))
set_option maxRecDepth 20000 in
theorem gX8_begin_X4_begin : GoodIn wsX8_begin (wsV RX8 37 RX4 yX4_begin wsX4_begin) := goodIn_app (goodIn_of _ (by decide +kernel)) ggX8_begin_X4_begin
theorem ggX8_begin_X2_forget : GoodIn wsX8_begin wsX2_forget := gW_in gwX2_forget (fun _ h => List.mem_cons_of_mem _ (List.mem_append_right _ (List.mem_append_right _ (List.mem_append_right _ (List.mem_append_right _ (List.mem_append_right _ (List.mem_append_right _ (List.mem_append_right _ (List.mem_append_left _ h)))))))))
set_option maxRecDepth 20000 in
theorem gX8_begin_X2_forget : GoodIn wsX8_begin (wsV RX8 41 RX2 yX2_forget wsX2_forget) := goodIn_app (goodIn_of _ (by decide +kernel)) ggX8_begin_X2_forget
theorem ggX8_begin_X3_clear : GoodIn wsX8_begin wsX3_clear := gW_in gwX3_clear (fun _ h => List.mem_cons_of_mem _ (List.mem_append_right _ (List.mem_append_right _ (List.mem_append_right _ (List.mem_append_right _ (List.mem_append_right _ (List.mem_append_right _ (List.mem_append_right _ (List.mem_append_right _ (h))))))))))
set_option maxRecDepth 20000 in
theorem gX8_begin_X3_clear : GoodIn wsX8_begin (wsV RX8 44 RX3 yX3_clear wsX3_clear) := goodIn_app (goodIn_of _ (by decide +kernel)) ggX8_begin_X3_clear
theorem dX8_begin_0 : decode cX8_begin 0 = .ok (.aload_n 0, 1) := by decide +kernel
theorem dX8_begin_1 : decode cX8_begin 1 = .ok (.getfield 10, 3) := by decide +kernel
theorem dX8_begin_4 : decode cX8_begin 4 = .ok (.aload_n 1, 1) := by decide +kernel
theorem dX8_begin_5 : decode cX8_begin 5 = .ok (.invokevirtual 37, 3) := by decide +kernel
theorem dX8_begin_8 : decode cX8_begin 8 = .ok (.aload_n 0, 1) := by decide +kernel
theorem dX8_begin_9 : decode cX8_begin 9 = .ok (.getfield 26, 3) := by decide +kernel
theorem dX8_begin_12 : decode cX8_begin 12 = .ok (.invokevirtual 41, 3) := by decide +kernel
theorem dX8_begin_15 : decode cX8_begin 15 = .ok (.aload_n 0, 1) := by decide +kernel
theorem dX8_begin_16 : decode cX8_begin 16 = .ok (.getfield 33, 3) := by decide +kernel
theorem dX8_begin_19 : decode cX8_begin 19 = .ok (.invokevirtual 44, 3) := by decide +kernel
theorem dX8_begin_22 : decode cX8_begin 22 = .ok (.return_, 1) := by decide +kernel
theorem ggX8_take_X4_take : GoodIn wsX8_take wsX4_take := gW_in gwX4_take (fun _ h => List.mem_cons_of_mem _ (List.mem_append_right _ (List.mem_append_right _ (List.mem_append_right _ (List.mem_append_right _ (List.mem_append_right _ (List.mem_append_right _ (List.mem_append_left _ h))))))))
set_option maxRecDepth 20000 in
theorem gX8_take_X4_take : GoodIn wsX8_take (wsV RX8 47 RX4 yX4_take wsX4_take) := goodIn_app (goodIn_of _ (by decide +kernel)) ggX8_take_X4_take
theorem ggX8_take_X0_take : GoodIn wsX8_take wsX0_take := gW_in gwX0_take (fun _ h => List.mem_cons_of_mem _ (List.mem_append_right _ (List.mem_append_right _ (List.mem_append_right _ (List.mem_append_right _ (List.mem_append_right _ (List.mem_append_right _ (List.mem_append_right _ (List.mem_append_left _ h)))))))))
set_option maxRecDepth 20000 in
theorem gX8_take_X0_take : GoodIn wsX8_take (wsV RX8 55 RX0 yX0_take wsX0_take) := goodIn_app (goodIn_of _ (by decide +kernel)) ggX8_take_X0_take
theorem ggX8_take_X2_take : GoodIn wsX8_take wsX2_take := gW_in gwX2_take (fun _ h => List.mem_cons_of_mem _ (List.mem_append_right _ (List.mem_append_right _ (List.mem_append_right _ (List.mem_append_right _ (List.mem_append_right _ (List.mem_append_right _ (List.mem_append_right _ (List.mem_append_right _ (List.mem_append_left _ h))))))))))
set_option maxRecDepth 20000 in
theorem gX8_take_X2_take : GoodIn wsX8_take (wsV RX8 58 RX2 yX2_take wsX2_take) := goodIn_app (goodIn_of _ (by decide +kernel)) ggX8_take_X2_take
theorem ggX8_take_X3_take : GoodIn wsX8_take wsX3_take := gW_in gwX3_take (fun _ h => List.mem_cons_of_mem _ (List.mem_append_right _ (List.mem_append_right _ (List.mem_append_right _ (List.mem_append_right _ (List.mem_append_right _ (List.mem_append_right _ (List.mem_append_right _ (List.mem_append_right _ (List.mem_append_right _ (h)))))))))))
set_option maxRecDepth 20000 in
theorem gX8_take_X3_take : GoodIn wsX8_take (wsV RX8 61 RX3 yX3_take wsX3_take) := goodIn_app (goodIn_of _ (by decide +kernel)) ggX8_take_X3_take
theorem dX8_take_0 : decode cX8_take 0 = .ok (.aload_n 0, 1) := by decide +kernel
theorem dX8_take_1 : decode cX8_take 1 = .ok (.getfield 10, 3) := by decide +kernel
theorem dX8_take_4 : decode cX8_take 4 = .ok (.aload_n 1, 1) := by decide +kernel
theorem dX8_take_5 : decode cX8_take 5 = .ok (.getfield 10, 3) := by decide +kernel
theorem dX8_take_8 : decode cX8_take 8 = .ok (.invokevirtual 47, 3) := by decide +kernel
theorem dX8_take_11 : decode cX8_take 11 = .ok (.aload_n 0, 1) := by decide +kernel
theorem dX8_take_12 : decode cX8_take 12 = .ok (.getfield 19, 3) := by decide +kernel
theorem dX8_take_15 : decode cX8_take 15 = .ok (.aload_n 1, 1) := by decide +kernel
theorem dX8_take_16 : decode cX8_take 16 = .ok (.getfield 19, 3) := by decide +kernel
theorem dX8_take_19 : decode cX8_take 19 = .ok (.aload_n 1, 1) := by decide +kernel
theorem dX8_take_20 : decode cX8_take 20 = .ok (.getfield 10, 3) := by decide +kernel
theorem dX8_take_23 : decode cX8_take 23 = .ok (.getfield 51, 3) := by decide +kernel
theorem dX8_take_26 : decode cX8_take 26 = .ok (.invokevirtual 55, 3) := by decide +kernel
theorem dX8_take_29 : decode cX8_take 29 = .ok (.aload_n 0, 1) := by decide +kernel
theorem dX8_take_30 : decode cX8_take 30 = .ok (.getfield 26, 3) := by decide +kernel
theorem dX8_take_33 : decode cX8_take 33 = .ok (.aload_n 1, 1) := by decide +kernel
theorem dX8_take_34 : decode cX8_take 34 = .ok (.getfield 26, 3) := by decide +kernel
theorem dX8_take_37 : decode cX8_take 37 = .ok (.invokevirtual 58, 3) := by decide +kernel
theorem dX8_take_40 : decode cX8_take 40 = .ok (.aload_n 0, 1) := by decide +kernel
theorem dX8_take_41 : decode cX8_take 41 = .ok (.getfield 33, 3) := by decide +kernel
theorem dX8_take_44 : decode cX8_take 44 = .ok (.aload_n 1, 1) := by decide +kernel
theorem dX8_take_45 : decode cX8_take 45 = .ok (.getfield 33, 3) := by decide +kernel
theorem dX8_take_48 : decode cX8_take 48 = .ok (.invokevirtual 61, 3) := by decide +kernel
theorem dX8_take_51 : decode cX8_take 51 = .ok (.return_, 1) := by decide +kernel
theorem dX9_init_0 : decode cX9_init 0 = .ok (.aload_n 0, 1) := by decide +kernel
theorem dX9_init_1 : decode cX9_init 1 = .ok (.invokespecial 1, 3) := by decide +kernel
theorem dX9_init_4 : decode cX9_init 4 = .ok (.return_, 1) := by decide +kernel
theorem ggX10_init_X7_init : GoodIn wsX10_init wsX7_init := gW_in gwX7_init (fun _ h => List.mem_cons_of_mem _ (List.mem_append_right _ (List.mem_append_right _ (List.mem_append_right _ (List.mem_append_right _ (List.mem_append_right _ (List.mem_append_right _ (List.mem_append_right _ (List.mem_append_right _ (List.mem_append_right _ (List.mem_append_right _ (List.mem_append_right _ (List.mem_append_left _ h)))))))))))))
set_option maxRecDepth 20000 in
theorem gX10_init_X7_init_n15 : GoodIn wsX10_init (wsX7_init) := ggX10_init_X7_init
theorem ggX10_init_X6_init : GoodIn wsX10_init wsX6_init := gW_in gwX6_init (fun _ h => List.mem_cons_of_mem _ (List.mem_append_right _ (List.mem_append_right _ (List.mem_append_right _ (List.mem_append_right _ (List.mem_append_right _ (List.mem_append_right _ (List.mem_append_right _ (List.mem_append_right _ (List.mem_append_right _ (List.mem_append_right _ (List.mem_append_right _ (List.mem_append_right _ (List.mem_append_left _ h))))))))))))))
set_option maxRecDepth 20000 in
theorem gX10_init_X6_init : GoodIn wsX10_init (wsX6_init) := ggX10_init_X6_init
theorem ggX10_init_X8_init : GoodIn wsX10_init wsX8_init := gW_in gwX8_init (fun _ h => List.mem_cons_of_mem _ (List.mem_append_right _ (List.mem_append_right _ (List.mem_append_right _ (List.mem_append_right _ (List.mem_append_right _ (List.mem_append_right _ (List.mem_append_right _ (List.mem_append_right _ (List.mem_append_right _ (List.mem_append_right _ (List.mem_append_right _ (List.mem_append_right _ (List.mem_append_right _ (List.mem_append_left _ h)))))))))))))))
set_option maxRecDepth 20000 in
theorem gX10_init_X8_init_n38 : GoodIn wsX10_init (wsX8_init) := ggX10_init_X8_init
theorem ggX10_init_X4_init : GoodIn wsX10_init wsX4_init := gW_in gwX4_init (fun _ h => List.mem_cons_of_mem _ (List.mem_append_right _ (List.mem_append_right _ (List.mem_append_right _ (List.mem_append_right _ (List.mem_append_right _ (List.mem_append_right _ (List.mem_append_right _ (List.mem_append_right _ (List.mem_append_right _ (List.mem_append_right _ (List.mem_append_right _ (List.mem_append_right _ (List.mem_append_right _ (List.mem_append_right _ (List.mem_append_left _ h))))))))))))))))
set_option maxRecDepth 20000 in
theorem gX10_init_X4_init_n49 : GoodIn wsX10_init (wsX4_init) := ggX10_init_X4_init
theorem ggX10_init_X1_init : GoodIn wsX10_init wsX1_init := gW_in gwX1_init (fun _ h => List.mem_cons_of_mem _ (List.mem_append_right _ (List.mem_append_right _ (List.mem_append_right _ (List.mem_append_right _ (List.mem_append_right _ (List.mem_append_right _ (List.mem_append_right _ (List.mem_append_right _ (List.mem_append_right _ (List.mem_append_right _ (List.mem_append_right _ (List.mem_append_right _ (List.mem_append_right _ (List.mem_append_right _ (List.mem_append_right _ (List.mem_append_left _ h)))))))))))))))))
set_option maxRecDepth 20000 in
theorem gX10_init_X1_init_n56 : GoodIn wsX10_init (wsX1_init) := ggX10_init_X1_init
theorem ggX10_init_X5_init : GoodIn wsX10_init wsX5_init := gW_in gwX5_init (fun _ h => List.mem_cons_of_mem _ (List.mem_append_right _ (List.mem_append_right _ (List.mem_append_right _ (List.mem_append_right _ (List.mem_append_right _ (List.mem_append_right _ (List.mem_append_right _ (List.mem_append_right _ (List.mem_append_right _ (List.mem_append_right _ (List.mem_append_right _ (List.mem_append_right _ (List.mem_append_right _ (List.mem_append_right _ (List.mem_append_right _ (List.mem_append_right _ (List.mem_append_left _ h))))))))))))))))))
set_option maxRecDepth 20000 in
theorem gX10_init_X5_init_n65 : GoodIn wsX10_init (wsX5_init) := ggX10_init_X5_init
theorem ggX10_init_X4_begin : GoodIn wsX10_init wsX4_begin := gW_in gwX4_begin (fun _ h => List.mem_cons_of_mem _ (List.mem_append_right _ (List.mem_append_right _ (List.mem_append_right _ (List.mem_append_right _ (List.mem_append_right _ (List.mem_append_right _ (List.mem_append_right _ (List.mem_append_right _ (List.mem_append_right _ (List.mem_append_right _ (List.mem_append_right _ (List.mem_append_right _ (List.mem_append_right _ (List.mem_append_right _ (List.mem_append_right _ (List.mem_append_right _ (List.mem_append_right _ (h)))))))))))))))))))
set_option maxRecDepth 20000 in
theorem gX10_init_X4_begin : GoodIn wsX10_init (wsV RX10 69 RX4 yX4_begin wsX4_begin) := goodIn_app (goodIn_of _ (by decide +kernel)) ggX10_init_X4_begin
theorem dX10_init_0 : decode cX10_init 0 = .ok (.aload_n 0, 1) := by decide +kernel
theorem dX10_init_1 : decode cX10_init 1 = .ok (.invokespecial 3, 3) := by decide +kernel
theorem dX10_init_4 : decode cX10_init 4 = .ok (.aload_n 0, 1) := by decide +kernel
theorem dX10_init_5 : decode cX10_init 5 = .ok (.sipush 500, 3) := by decide +kernel
theorem dX10_init_8 : decode cX10_init 8 = .ok (.newarray .byte, 2) := by decide +kernel
theorem dX10_init_10 : decode cX10_init 10 = .ok (.putfield 9, 3) := by decide +kernel
theorem dX10_init_13 : decode cX10_init 13 = .ok (.aload_n 0, 1) := by decide +kernel
theorem dX10_init_14 : decode cX10_init 14 = .ok (.new 13, 3) := by decide +kernel
theorem dX10_init_17 : decode cX10_init 17 = .ok (.dup, 1) := by decide +kernel
theorem dX10_init_18 : decode cX10_init 18 = .ok (.invokespecial 15, 3) := by decide +kernel
theorem dX10_init_21 : decode cX10_init 21 = .ok (.putfield 16, 3) := by decide +kernel
theorem dX10_init_24 : decode cX10_init 24 = .ok (.aload_n 0, 1) := by decide +kernel
theorem dX10_init_25 : decode cX10_init 25 = .ok (.new 20, 3) := by decide +kernel
theorem dX10_init_28 : decode cX10_init 28 = .ok (.dup, 1) := by decide +kernel
theorem dX10_init_29 : decode cX10_init 29 = .ok (.invokespecial 22, 3) := by decide +kernel
theorem dX10_init_32 : decode cX10_init 32 = .ok (.putfield 23, 3) := by decide +kernel
theorem dX10_init_35 : decode cX10_init 35 = .ok (.aload_n 0, 1) := by decide +kernel
theorem dX10_init_36 : decode cX10_init 36 = .ok (.new 20, 3) := by decide +kernel
theorem dX10_init_39 : decode cX10_init 39 = .ok (.dup, 1) := by decide +kernel
theorem dX10_init_40 : decode cX10_init 40 = .ok (.invokespecial 22, 3) := by decide +kernel
theorem dX10_init_43 : decode cX10_init 43 = .ok (.putfield 27, 3) := by decide +kernel
theorem dX10_init_46 : decode cX10_init 46 = .ok (.aload_n 0, 1) := by decide +kernel
theorem dX10_init_47 : decode cX10_init 47 = .ok (.bipush 7, 2) := by decide +kernel
theorem dX10_init_49 : decode cX10_init 49 = .ok (.anewarray 30, 3) := by decide +kernel
theorem dX10_init_52 : decode cX10_init 52 = .ok (.putfield 32, 3) := by decide +kernel
theorem dX10_init_55 : decode cX10_init 55 = .ok (.aload_n 0, 1) := by decide +kernel
theorem dX10_init_56 : decode cX10_init 56 = .ok (.new 36, 3) := by decide +kernel
theorem dX10_init_59 : decode cX10_init 59 = .ok (.dup, 1) := by decide +kernel
theorem dX10_init_60 : decode cX10_init 60 = .ok (.invokespecial 38, 3) := by decide +kernel
theorem dX10_init_63 : decode cX10_init 63 = .ok (.putfield 39, 3) := by decide +kernel
theorem dX10_init_66 : decode cX10_init 66 = .ok (.aload_n 0, 1) := by decide +kernel
theorem dX10_init_67 : decode cX10_init 67 = .ok (.iconst 3, 1) := by decide +kernel
theorem dX10_init_68 : decode cX10_init 68 = .ok (.anewarray 36, 3) := by decide +kernel
theorem dX10_init_71 : decode cX10_init 71 = .ok (.putfield 43, 3) := by decide +kernel
theorem dX10_init_74 : decode cX10_init 74 = .ok (.aload_n 0, 1) := by decide +kernel
theorem dX10_init_75 : decode cX10_init 75 = .ok (.new 47, 3) := by decide +kernel
theorem dX10_init_78 : decode cX10_init 78 = .ok (.dup, 1) := by decide +kernel
theorem dX10_init_79 : decode cX10_init 79 = .ok (.invokespecial 49, 3) := by decide +kernel
theorem dX10_init_82 : decode cX10_init 82 = .ok (.putfield 50, 3) := by decide +kernel
theorem dX10_init_85 : decode cX10_init 85 = .ok (.aload_n 0, 1) := by decide +kernel
theorem dX10_init_86 : decode cX10_init 86 = .ok (.new 54, 3) := by decide +kernel
theorem dX10_init_89 : decode cX10_init 89 = .ok (.dup, 1) := by decide +kernel
theorem dX10_init_90 : decode cX10_init 90 = .ok (.invokespecial 56, 3) := by decide +kernel
theorem dX10_init_93 : decode cX10_init 93 = .ok (.putfield 57, 3) := by decide +kernel
theorem dX10_init_96 : decode cX10_init 96 = .ok (.aload_n 0, 1) := by decide +kernel
theorem dX10_init_97 : decode cX10_init 97 = .ok (.iconst 3, 1) := by decide +kernel
theorem dX10_init_98 : decode cX10_init 98 = .ok (.newarray .int, 2) := by decide +kernel
theorem dX10_init_100 : decode cX10_init 100 = .ok (.putfield 61, 3) := by decide +kernel
theorem dX10_init_103 : decode cX10_init 103 = .ok (.iconst 0, 1) := by decide +kernel
theorem dX10_init_104 : decode cX10_init 104 = .ok (.istore_n 1, 1) := by decide +kernel
theorem dX10_init_105 : decode cX10_init 105 = .ok (.iload_n 1, 1) := by decide +kernel
theorem dX10_init_106 : decode cX10_init 106 = .ok (.aload_n 0, 1) := by decide +kernel
theorem dX10_init_107 : decode cX10_init 107 = .ok (.getfield 32, 3) := by decide +kernel
theorem dX10_init_110 : decode cX10_init 110 = .ok (.arraylength, 1) := by decide +kernel
theorem dX10_init_111 : decode cX10_init 111 = .ok (.if_icmp .ge 22, 3) := by decide +kernel
theorem dX10_init_114 : decode cX10_init 114 = .ok (.aload_n 0, 1) := by decide +kernel
theorem dX10_init_115 : decode cX10_init 115 = .ok (.getfield 32, 3) := by decide +kernel
theorem dX10_init_118 : decode cX10_init 118 = .ok (.iload_n 1, 1) := by decide +kernel
theorem dX10_init_119 : decode cX10_init 119 = .ok (.new 30, 3) := by decide +kernel
theorem dX10_init_122 : decode cX10_init 122 = .ok (.dup, 1) := by decide +kernel
theorem dX10_init_123 : decode cX10_init 123 = .ok (.invokespecial 65, 3) := by decide +kernel
theorem dX10_init_126 : decode cX10_init 126 = .ok (.aastore, 1) := by decide +kernel
theorem dX10_init_127 : decode cX10_init 127 = .ok (.iinc 1 1, 3) := by decide +kernel
theorem dX10_init_130 : decode cX10_init 130 = .ok (.goto (-25), 3) := by decide +kernel
theorem dX10_init_133 : decode cX10_init 133 = .ok (.aload_n 0, 1) := by decide +kernel
theorem dX10_init_134 : decode cX10_init 134 = .ok (.getfield 39, 3) := by decide +kernel
theorem dX10_init_137 : decode cX10_init 137 = .ok (.getfield 66, 3) := by decide +kernel
theorem dX10_init_140 : decode cX10_init 140 = .ok (.aload_n 0, 1) := by decide +kernel
theorem dX10_init_141 : decode cX10_init 141 = .ok (.getfield 23, 3) := by decide +kernel
theorem dX10_init_144 : decode cX10_init 144 = .ok (.invokevirtual 69, 3) := by decide +kernel
theorem dX10_init_147 : decode cX10_init 147 = .ok (.return_, 1) := by decide +kernel
theorem ggX10_feed_X10_putOnTape : GoodIn wsX10_feed wsX10_putOnTape := gW_in gwX10_putOnTape (fun _ h => List.mem_cons_of_mem _ (List.mem_append_right _ (List.mem_append_right _ (h))))
set_option maxRecDepth 20000 in
theorem gX10_feed_X10_putOnTape : GoodIn wsX10_feed (wsV RX10 77 RX10 yX10_putOnTape wsX10_putOnTape) := goodIn_app (goodIn_of _ (by decide +kernel)) ggX10_feed_X10_putOnTape
theorem dX10_feed_0 : decode cX10_feed 0 = .ok (.aload_n 0, 1) := by decide +kernel
theorem dX10_feed_1 : decode cX10_feed 1 = .ok (.getfield 73, 3) := by decide +kernel
theorem dX10_feed_4 : decode cX10_feed 4 = .ok (.bipush 20, 2) := by decide +kernel
theorem dX10_feed_6 : decode cX10_feed 6 = .ok (.iadd, 1) := by decide +kernel
theorem dX10_feed_7 : decode cX10_feed 7 = .ok (.sipush 500, 3) := by decide +kernel
theorem dX10_feed_10 : decode cX10_feed 10 = .ok (.if_icmp .le 5, 3) := by decide +kernel
theorem dX10_feed_13 : decode cX10_feed 13 = .ok (.iconst (-1), 1) := by decide +kernel
theorem dX10_feed_14 : decode cX10_feed 14 = .ok (.ireturn, 1) := by decide +kernel
theorem dX10_feed_15 : decode cX10_feed 15 = .ok (.aload_n 0, 1) := by decide +kernel
theorem dX10_feed_16 : decode cX10_feed 16 = .ok (.iload_n 1, 1) := by decide +kernel
theorem dX10_feed_17 : decode cX10_feed 17 = .ok (.invokevirtual 77, 3) := by decide +kernel
theorem dX10_feed_20 : decode cX10_feed 20 = .ok (.aload_n 0, 1) := by decide +kernel
theorem dX10_feed_21 : decode cX10_feed 21 = .ok (.iload_n 2, 1) := by decide +kernel
theorem dX10_feed_22 : decode cX10_feed 22 = .ok (.invokevirtual 77, 3) := by decide +kernel
theorem dX10_feed_25 : decode cX10_feed 25 = .ok (.aload_n 0, 1) := by decide +kernel
theorem dX10_feed_26 : decode cX10_feed 26 = .ok (.iload_n 3, 1) := by decide +kernel
theorem dX10_feed_27 : decode cX10_feed 27 = .ok (.invokevirtual 77, 3) := by decide +kernel
theorem dX10_feed_30 : decode cX10_feed 30 = .ok (.aload_n 0, 1) := by decide +kernel
theorem dX10_feed_31 : decode cX10_feed 31 = .ok (.iload 4, 2) := by decide +kernel
theorem dX10_feed_33 : decode cX10_feed 33 = .ok (.invokevirtual 77, 3) := by decide +kernel
theorem dX10_feed_36 : decode cX10_feed 36 = .ok (.aload_n 0, 1) := by decide +kernel
theorem dX10_feed_37 : decode cX10_feed 37 = .ok (.iload 5, 2) := by decide +kernel
theorem dX10_feed_39 : decode cX10_feed 39 = .ok (.invokevirtual 77, 3) := by decide +kernel
theorem dX10_feed_42 : decode cX10_feed 42 = .ok (.aload_n 0, 1) := by decide +kernel
theorem dX10_feed_43 : decode cX10_feed 43 = .ok (.getfield 73, 3) := by decide +kernel
theorem dX10_feed_46 : decode cX10_feed 46 = .ok (.ireturn, 1) := by decide +kernel
theorem dX10_putOnTape_0 : decode cX10_putOnTape 0 = .ok (.bipush 24, 2) := by decide +kernel
theorem dX10_putOnTape_2 : decode cX10_putOnTape 2 = .ok (.istore_n 2, 1) := by decide +kernel
theorem dX10_putOnTape_3 : decode cX10_putOnTape 3 = .ok (.iload_n 2, 1) := by decide +kernel
theorem dX10_putOnTape_4 : decode cX10_putOnTape 4 = .ok (.ifCond .lt 44, 3) := by decide +kernel
theorem dX10_putOnTape_7 : decode cX10_putOnTape 7 = .ok (.aload_n 0, 1) := by decide +kernel
theorem dX10_putOnTape_8 : decode cX10_putOnTape 8 = .ok (.getfield 73, 3) := by decide +kernel
theorem dX10_putOnTape_11 : decode cX10_putOnTape 11 = .ok (.aload_n 0, 1) := by decide +kernel
theorem dX10_putOnTape_12 : decode cX10_putOnTape 12 = .ok (.getfield 9, 3) := by decide +kernel
theorem dX10_putOnTape_15 : decode cX10_putOnTape 15 = .ok (.arraylength, 1) := by decide +kernel
theorem dX10_putOnTape_16 : decode cX10_putOnTape 16 = .ok (.if_icmp .ge 32, 3) := by decide +kernel
theorem dX10_putOnTape_19 : decode cX10_putOnTape 19 = .ok (.aload_n 0, 1) := by decide +kernel
theorem dX10_putOnTape_20 : decode cX10_putOnTape 20 = .ok (.getfield 9, 3) := by decide +kernel
theorem dX10_putOnTape_23 : decode cX10_putOnTape 23 = .ok (.aload_n 0, 1) := by decide +kernel
theorem dX10_putOnTape_24 : decode cX10_putOnTape 24 = .ok (.getfield 73, 3) := by decide +kernel
theorem dX10_putOnTape_27 : decode cX10_putOnTape 27 = .ok (.iload_n 1, 1) := by decide +kernel
theorem dX10_putOnTape_28 : decode cX10_putOnTape 28 = .ok (.iload_n 2, 1) := by decide +kernel
theorem dX10_putOnTape_29 : decode cX10_putOnTape 29 = .ok (.iushr, 1) := by decide +kernel
theorem dX10_putOnTape_30 : decode cX10_putOnTape 30 = .ok (.i2b, 1) := by decide +kernel
theorem dX10_putOnTape_31 : decode cX10_putOnTape 31 = .ok (.bastore, 1) := by decide +kernel
theorem dX10_putOnTape_32 : decode cX10_putOnTape 32 = .ok (.aload_n 0, 1) := by decide +kernel
theorem dX10_putOnTape_33 : decode cX10_putOnTape 33 = .ok (.dup, 1) := by decide +kernel
theorem dX10_putOnTape_34 : decode cX10_putOnTape 34 = .ok (.getfield 73, 3) := by decide +kernel
theorem dX10_putOnTape_37 : decode cX10_putOnTape 37 = .ok (.iconst 1, 1) := by decide +kernel
theorem dX10_putOnTape_38 : decode cX10_putOnTape 38 = .ok (.iadd, 1) := by decide +kernel
theorem dX10_putOnTape_39 : decode cX10_putOnTape 39 = .ok (.putfield 73, 3) := by decide +kernel
theorem dX10_putOnTape_42 : decode cX10_putOnTape 42 = .ok (.iinc 2 (-8), 3) := by decide +kernel
theorem dX10_putOnTape_45 : decode cX10_putOnTape 45 = .ok (.goto (-42), 3) := by decide +kernel
theorem dX10_putOnTape_48 : decode cX10_putOnTape 48 = .ok (.return_, 1) := by decide +kernel
theorem ggX10_siege_X10_demand : GoodIn wsX10_siege wsX10_demand := gW_in gwX10_demand (fun _ h => List.mem_cons_of_mem _ (List.mem_append_right _ (List.mem_append_right _ (List.mem_append_right _ (List.mem_append_right _ (List.mem_append_right _ (List.mem_append_right _ (List.mem_append_right _ (List.mem_append_right _ (List.mem_append_right _ (List.mem_append_left _ h)))))))))))
set_option maxRecDepth 20000 in
theorem gX10_siege_X10_demand : GoodIn wsX10_siege (wsV RX10 81 RX10 yX10_demand wsX10_demand) := goodIn_app (goodIn_of _ (by decide +kernel)) ggX10_siege_X10_demand
theorem ggX10_siege_X6_clear : GoodIn wsX10_siege wsX6_clear := gW_in gwX6_clear (fun _ h => List.mem_cons_of_mem _ (List.mem_append_right _ (List.mem_append_right _ (List.mem_append_right _ (List.mem_append_right _ (List.mem_append_right _ (List.mem_append_right _ (List.mem_append_right _ (List.mem_append_right _ (List.mem_append_right _ (List.mem_append_right _ (List.mem_append_left _ h))))))))))))
set_option maxRecDepth 20000 in
theorem gX10_siege_X6_clear : GoodIn wsX10_siege (wsV RX10 85 RX6 yX6_clear wsX6_clear) := goodIn_app (goodIn_of _ (by decide +kernel)) ggX10_siege_X6_clear
theorem ggX10_siege_X7_read : GoodIn wsX10_siege wsX7_read := gW_in gwX7_read (fun _ h => List.mem_cons_of_mem _ (List.mem_append_right _ (List.mem_append_right _ (List.mem_append_right _ (List.mem_append_right _ (List.mem_append_right _ (List.mem_append_right _ (List.mem_append_right _ (List.mem_append_right _ (List.mem_append_right _ (List.mem_append_right _ (List.mem_append_right _ (List.mem_append_left _ h)))))))))))))
set_option maxRecDepth 20000 in
theorem gX10_siege_X7_read : GoodIn wsX10_siege (wsV RX10 88 RX7 yX7_read wsX7_read) := goodIn_app (goodIn_of _ (by decide +kernel)) ggX10_siege_X7_read
theorem ggX10_siege_X8_begin : GoodIn wsX10_siege wsX8_begin := gW_in gwX8_begin (fun _ h => List.mem_cons_of_mem _ (List.mem_append_right _ (List.mem_append_right _ (List.mem_append_right _ (List.mem_append_right _ (List.mem_append_right _ (List.mem_append_right _ (List.mem_append_right _ (List.mem_append_right _ (List.mem_append_right _ (List.mem_append_right _ (List.mem_append_right _ (List.mem_append_right _ (h))))))))))))))
set_option maxRecDepth 20000 in
theorem gX10_siege_X8_begin : GoodIn wsX10_siege (wsV RX10 98 RX8 yX8_begin wsX8_begin) := goodIn_app (goodIn_of _ (by decide +kernel)) ggX10_siege_X8_begin
theorem dX10_siege_0 : decode cX10_siege 0 = .ok (.aload_n 0, 1) := by decide +kernel
theorem dX10_siege_1 : decode cX10_siege 1 = .ok (.iload_n 1, 1) := by decide +kernel
theorem dX10_siege_2 : decode cX10_siege 2 = .ok (.ifCond .lt 15, 3) := by decide +kernel
theorem dX10_siege_5 : decode cX10_siege 5 = .ok (.iload_n 1, 1) := by decide +kernel
theorem dX10_siege_6 : decode cX10_siege 6 = .ok (.aload_n 0, 1) := by decide +kernel
theorem dX10_siege_7 : decode cX10_siege 7 = .ok (.getfield 73, 3) := by decide +kernel
theorem dX10_siege_10 : decode cX10_siege 10 = .ok (.if_icmp .gt 7, 3) := by decide +kernel
theorem dX10_siege_13 : decode cX10_siege 13 = .ok (.iconst 1, 1) := by decide +kernel
theorem dX10_siege_14 : decode cX10_siege 14 = .ok (.goto 4, 3) := by decide +kernel
theorem dX10_siege_17 : decode cX10_siege 17 = .ok (.iconst 0, 1) := by decide +kernel
theorem dX10_siege_18 : decode cX10_siege 18 = .ok (.invokevirtual 81, 3) := by decide +kernel
theorem dX10_siege_21 : decode cX10_siege 21 = .ok (.aload_n 0, 1) := by decide +kernel
theorem dX10_siege_22 : decode cX10_siege 22 = .ok (.iconst 0, 1) := by decide +kernel
theorem dX10_siege_23 : decode cX10_siege 23 = .ok (.putfield 73, 3) := by decide +kernel
theorem dX10_siege_26 : decode cX10_siege 26 = .ok (.aload_n 0, 1) := by decide +kernel
theorem dX10_siege_27 : decode cX10_siege 27 = .ok (.getfield 27, 3) := by decide +kernel
theorem dX10_siege_30 : decode cX10_siege 30 = .ok (.invokevirtual 85, 3) := by decide +kernel
theorem dX10_siege_33 : decode cX10_siege 33 = .ok (.aload_n 0, 1) := by decide +kernel
theorem dX10_siege_34 : decode cX10_siege 34 = .ok (.getfield 16, 3) := by decide +kernel
theorem dX10_siege_37 : decode cX10_siege 37 = .ok (.aload_n 0, 1) := by decide +kernel
theorem dX10_siege_38 : decode cX10_siege 38 = .ok (.getfield 9, 3) := by decide +kernel
theorem dX10_siege_41 : decode cX10_siege 41 = .ok (.iload_n 1, 1) := by decide +kernel
theorem dX10_siege_42 : decode cX10_siege 42 = .ok (.aload_n 0, 1) := by decide +kernel
theorem dX10_siege_43 : decode cX10_siege 43 = .ok (.getfield 27, 3) := by decide +kernel
theorem dX10_siege_46 : decode cX10_siege 46 = .ok (.invokevirtual 88, 3) := by decide +kernel
theorem dX10_siege_49 : decode cX10_siege 49 = .ok (.istore_n 2, 1) := by decide +kernel
theorem dX10_siege_50 : decode cX10_siege 50 = .ok (.iload_n 2, 1) := by decide +kernel
theorem dX10_siege_51 : decode cX10_siege 51 = .ok (.ifCond .eq 8, 3) := by decide +kernel
theorem dX10_siege_54 : decode cX10_siege 54 = .ok (.iload_n 2, 1) := by decide +kernel
theorem dX10_siege_55 : decode cX10_siege 55 = .ok (.bipush 10, 2) := by decide +kernel
theorem dX10_siege_57 : decode cX10_siege 57 = .ok (.isub, 1) := by decide +kernel
theorem dX10_siege_58 : decode cX10_siege 58 = .ok (.ireturn, 1) := by decide +kernel
theorem dX10_siege_59 : decode cX10_siege 59 = .ok (.aload_n 0, 1) := by decide +kernel
theorem dX10_siege_60 : decode cX10_siege 60 = .ok (.getfield 23, 3) := by decide +kernel
theorem dX10_siege_63 : decode cX10_siege 63 = .ok (.astore_n 3, 1) := by decide +kernel
theorem dX10_siege_64 : decode cX10_siege 64 = .ok (.aload_n 0, 1) := by decide +kernel
theorem dX10_siege_65 : decode cX10_siege 65 = .ok (.aload_n 0, 1) := by decide +kernel
theorem dX10_siege_66 : decode cX10_siege 66 = .ok (.getfield 27, 3) := by decide +kernel
theorem dX10_siege_69 : decode cX10_siege 69 = .ok (.putfield 23, 3) := by decide +kernel
theorem dX10_siege_72 : decode cX10_siege 72 = .ok (.aload_n 0, 1) := by decide +kernel
theorem dX10_siege_73 : decode cX10_siege 73 = .ok (.aload_n 3, 1) := by decide +kernel
theorem dX10_siege_74 : decode cX10_siege 74 = .ok (.putfield 27, 3) := by decide +kernel
theorem dX10_siege_77 : decode cX10_siege 77 = .ok (.aload_n 0, 1) := by decide +kernel
theorem dX10_siege_78 : decode cX10_siege 78 = .ok (.iconst 0, 1) := by decide +kernel
theorem dX10_siege_79 : decode cX10_siege 79 = .ok (.putfield 92, 3) := by decide +kernel
theorem dX10_siege_82 : decode cX10_siege 82 = .ok (.aload_n 0, 1) := by decide +kernel
theorem dX10_siege_83 : decode cX10_siege 83 = .ok (.iconst 0, 1) := by decide +kernel
theorem dX10_siege_84 : decode cX10_siege 84 = .ok (.putfield 95, 3) := by decide +kernel
theorem dX10_siege_87 : decode cX10_siege 87 = .ok (.aload_n 0, 1) := by decide +kernel
theorem dX10_siege_88 : decode cX10_siege 88 = .ok (.getfield 39, 3) := by decide +kernel
theorem dX10_siege_91 : decode cX10_siege 91 = .ok (.aload_n 0, 1) := by decide +kernel
theorem dX10_siege_92 : decode cX10_siege 92 = .ok (.getfield 23, 3) := by decide +kernel
theorem dX10_siege_95 : decode cX10_siege 95 = .ok (.invokevirtual 98, 3) := by decide +kernel
theorem dX10_siege_98 : decode cX10_siege 98 = .ok (.aload_n 0, 1) := by decide +kernel
theorem dX10_siege_99 : decode cX10_siege 99 = .ok (.getfield 23, 3) := by decide +kernel
theorem dX10_siege_102 : decode cX10_siege 102 = .ok (.getfield 99, 3) := by decide +kernel
theorem dX10_siege_105 : decode cX10_siege 105 = .ok (.ireturn, 1) := by decide +kernel
theorem ggX10_contract_X10_demand : GoodIn wsX10_contract wsX10_demand := gW_in gwX10_demand (fun _ h => List.mem_cons_of_mem _ (List.mem_append_right _ (List.mem_append_right _ (List.mem_append_right _ (List.mem_append_right _ (List.mem_append_right _ (List.mem_append_left _ h)))))))
set_option maxRecDepth 20000 in
theorem gX10_contract_X10_demand : GoodIn wsX10_contract (wsV RX10 81 RX10 yX10_demand wsX10_demand) := goodIn_app (goodIn_of _ (by decide +kernel)) ggX10_contract_X10_demand
theorem ggX10_contract_X5_clear : GoodIn wsX10_contract wsX5_clear := gW_in gwX5_clear (fun _ h => List.mem_cons_of_mem _ (List.mem_append_right _ (List.mem_append_right _ (List.mem_append_right _ (List.mem_append_right _ (List.mem_append_right _ (List.mem_append_right _ (List.mem_append_left _ h))))))))
set_option maxRecDepth 20000 in
theorem gX10_contract_X5_clear : GoodIn wsX10_contract (wsV RX10 105 RX5 yX5_clear wsX5_clear) := goodIn_app (goodIn_of _ (by decide +kernel)) ggX10_contract_X5_clear
theorem ggX10_contract_X7_read : GoodIn wsX10_contract wsX7_read := gW_in gwX7_read (fun _ h => List.mem_cons_of_mem _ (List.mem_append_right _ (List.mem_append_right _ (List.mem_append_right _ (List.mem_append_right _ (List.mem_append_right _ (List.mem_append_right _ (List.mem_append_right _ (h)))))))))
set_option maxRecDepth 20000 in
theorem gX10_contract_X7_read : GoodIn wsX10_contract (wsV RX10 88 RX7 yX7_read wsX7_read) := goodIn_app (goodIn_of _ (by decide +kernel)) ggX10_contract_X7_read
theorem dX10_contract_0 : decode cX10_contract 0 = .ok (.aload_n 0, 1) := by decide +kernel
theorem dX10_contract_1 : decode cX10_contract 1 = .ok (.iload_n 1, 1) := by decide +kernel
theorem dX10_contract_2 : decode cX10_contract 2 = .ok (.ifCond .lt 22, 3) := by decide +kernel
theorem dX10_contract_5 : decode cX10_contract 5 = .ok (.iload_n 1, 1) := by decide +kernel
theorem dX10_contract_6 : decode cX10_contract 6 = .ok (.aload_n 0, 1) := by decide +kernel
theorem dX10_contract_7 : decode cX10_contract 7 = .ok (.getfield 73, 3) := by decide +kernel
theorem dX10_contract_10 : decode cX10_contract 10 = .ok (.if_icmp .gt 14, 3) := by decide +kernel
theorem dX10_contract_13 : decode cX10_contract 13 = .ok (.iload_n 1, 1) := by decide +kernel
theorem dX10_contract_14 : decode cX10_contract 14 = .ok (.sipush 200, 3) := by decide +kernel
theorem dX10_contract_17 : decode cX10_contract 17 = .ok (.if_icmp .gt 7, 3) := by decide +kernel
theorem dX10_contract_20 : decode cX10_contract 20 = .ok (.iconst 1, 1) := by decide +kernel
theorem dX10_contract_21 : decode cX10_contract 21 = .ok (.goto 4, 3) := by decide +kernel
theorem dX10_contract_24 : decode cX10_contract 24 = .ok (.iconst 0, 1) := by decide +kernel
theorem dX10_contract_25 : decode cX10_contract 25 = .ok (.invokevirtual 81, 3) := by decide +kernel
theorem dX10_contract_28 : decode cX10_contract 28 = .ok (.aload_n 0, 1) := by decide +kernel
theorem dX10_contract_29 : decode cX10_contract 29 = .ok (.iconst 0, 1) := by decide +kernel
theorem dX10_contract_30 : decode cX10_contract 30 = .ok (.putfield 73, 3) := by decide +kernel
theorem dX10_contract_33 : decode cX10_contract 33 = .ok (.aload_n 0, 1) := by decide +kernel
theorem dX10_contract_34 : decode cX10_contract 34 = .ok (.getfield 92, 3) := by decide +kernel
theorem dX10_contract_37 : decode cX10_contract 37 = .ok (.bipush 6, 2) := by decide +kernel
theorem dX10_contract_39 : decode cX10_contract 39 = .ok (.if_icmp .lt 13, 3) := by decide +kernel
theorem dX10_contract_42 : decode cX10_contract 42 = .ok (.aload_n 0, 1) := by decide +kernel
theorem dX10_contract_43 : decode cX10_contract 43 = .ok (.getfield 16, 3) := by decide +kernel
theorem dX10_contract_46 : decode cX10_contract 46 = .ok (.iconst (-1), 1) := by decide +kernel
theorem dX10_contract_47 : decode cX10_contract 47 = .ok (.putfield 102, 3) := by decide +kernel
theorem dX10_contract_50 : decode cX10_contract 50 = .ok (.iconst (-1), 1) := by decide +kernel
theorem dX10_contract_51 : decode cX10_contract 51 = .ok (.ireturn, 1) := by decide +kernel
theorem dX10_contract_52 : decode cX10_contract 52 = .ok (.aload_n 0, 1) := by decide +kernel
theorem dX10_contract_53 : decode cX10_contract 53 = .ok (.getfield 32, 3) := by decide +kernel
theorem dX10_contract_56 : decode cX10_contract 56 = .ok (.aload_n 0, 1) := by decide +kernel
theorem dX10_contract_57 : decode cX10_contract 57 = .ok (.getfield 92, 3) := by decide +kernel
theorem dX10_contract_60 : decode cX10_contract 60 = .ok (.aaload, 1) := by decide +kernel
theorem dX10_contract_61 : decode cX10_contract 61 = .ok (.astore_n 2, 1) := by decide +kernel
theorem dX10_contract_62 : decode cX10_contract 62 = .ok (.aload_n 2, 1) := by decide +kernel
theorem dX10_contract_63 : decode cX10_contract 63 = .ok (.aload_n 0, 1) := by decide +kernel
theorem dX10_contract_64 : decode cX10_contract 64 = .ok (.getfield 23, 3) := by decide +kernel
theorem dX10_contract_67 : decode cX10_contract 67 = .ok (.getfield 99, 3) := by decide +kernel
theorem dX10_contract_70 : decode cX10_contract 70 = .ok (.invokevirtual 105, 3) := by decide +kernel
theorem dX10_contract_73 : decode cX10_contract 73 = .ok (.aload_n 0, 1) := by decide +kernel
theorem dX10_contract_74 : decode cX10_contract 74 = .ok (.getfield 16, 3) := by decide +kernel
theorem dX10_contract_77 : decode cX10_contract 77 = .ok (.aload_n 0, 1) := by decide +kernel
theorem dX10_contract_78 : decode cX10_contract 78 = .ok (.getfield 9, 3) := by decide +kernel
theorem dX10_contract_81 : decode cX10_contract 81 = .ok (.iload_n 1, 1) := by decide +kernel
theorem dX10_contract_82 : decode cX10_contract 82 = .ok (.aload_n 2, 1) := by decide +kernel
theorem dX10_contract_83 : decode cX10_contract 83 = .ok (.invokevirtual 88, 3) := by decide +kernel
theorem dX10_contract_86 : decode cX10_contract 86 = .ok (.istore_n 3, 1) := by decide +kernel
theorem dX10_contract_87 : decode cX10_contract 87 = .ok (.iload_n 3, 1) := by decide +kernel
theorem dX10_contract_88 : decode cX10_contract 88 = .ok (.ifCond .eq 8, 3) := by decide +kernel
theorem dX10_contract_91 : decode cX10_contract 91 = .ok (.iload_n 3, 1) := by decide +kernel
theorem dX10_contract_92 : decode cX10_contract 92 = .ok (.bipush 10, 2) := by decide +kernel
theorem dX10_contract_94 : decode cX10_contract 94 = .ok (.isub, 1) := by decide +kernel
theorem dX10_contract_95 : decode cX10_contract 95 = .ok (.ireturn, 1) := by decide +kernel
theorem dX10_contract_96 : decode cX10_contract 96 = .ok (.aload_n 0, 1) := by decide +kernel
theorem dX10_contract_97 : decode cX10_contract 97 = .ok (.dup, 1) := by decide +kernel
theorem dX10_contract_98 : decode cX10_contract 98 = .ok (.getfield 92, 3) := by decide +kernel
theorem dX10_contract_101 : decode cX10_contract 101 = .ok (.iconst 1, 1) := by decide +kernel
theorem dX10_contract_102 : decode cX10_contract 102 = .ok (.iadd, 1) := by decide +kernel
theorem dX10_contract_103 : decode cX10_contract 103 = .ok (.putfield 92, 3) := by decide +kernel
theorem dX10_contract_106 : decode cX10_contract 106 = .ok (.aload_n 0, 1) := by decide +kernel
theorem dX10_contract_107 : decode cX10_contract 107 = .ok (.getfield 92, 3) := by decide +kernel
theorem dX10_contract_110 : decode cX10_contract 110 = .ok (.iconst 1, 1) := by decide +kernel
theorem dX10_contract_111 : decode cX10_contract 111 = .ok (.isub, 1) := by decide +kernel
theorem dX10_contract_112 : decode cX10_contract 112 = .ok (.ireturn, 1) := by decide +kernel
theorem dX10_fault_0 : decode cX10_fault 0 = .ok (.aload_n 0, 1) := by decide +kernel
theorem dX10_fault_1 : decode cX10_fault 1 = .ok (.getfield 16, 3) := by decide +kernel
theorem dX10_fault_4 : decode cX10_fault 4 = .ok (.getfield 102, 3) := by decide +kernel
theorem dX10_fault_7 : decode cX10_fault 7 = .ok (.ireturn, 1) := by decide +kernel
theorem ggX10_told_X10_within : GoodIn wsX10_told wsX10_within := gW_in gwX10_within (fun _ h => List.mem_cons_of_mem _ (List.mem_append_right _ (List.mem_append_right _ (List.mem_append_right _ (List.mem_append_right _ (List.mem_append_right _ (List.mem_append_left _ h)))))))
set_option maxRecDepth 20000 in
theorem gX10_told_X10_within : GoodIn wsX10_told (va_wsS RX10 107 yX10_within wsX10_within) := goodIn_app (goodIn_of _ (by decide +kernel)) ggX10_told_X10_within
theorem ggX10_told_X10_demand : GoodIn wsX10_told wsX10_demand := gW_in gwX10_demand (fun _ h => List.mem_cons_of_mem _ (List.mem_append_right _ (List.mem_append_right _ (List.mem_append_right _ (List.mem_append_right _ (List.mem_append_right _ (List.mem_append_right _ (h))))))))
set_option maxRecDepth 20000 in
theorem gX10_told_X10_demand : GoodIn wsX10_told (wsV RX10 81 RX10 yX10_demand wsX10_demand) := goodIn_app (goodIn_of _ (by decide +kernel)) ggX10_told_X10_demand
theorem dX10_told_0 : decode cX10_told 0 = .ok (.aload_n 0, 1) := by decide +kernel
theorem dX10_told_1 : decode cX10_told 1 = .ok (.iload_n 1, 1) := by decide +kernel
theorem dX10_told_2 : decode cX10_told 2 = .ok (.iconst 0, 1) := by decide +kernel
theorem dX10_told_3 : decode cX10_told 3 = .ok (.iconst 4, 1) := by decide +kernel
theorem dX10_told_4 : decode cX10_told 4 = .ok (.invokestatic 107, 3) := by decide +kernel
theorem dX10_told_7 : decode cX10_told 7 = .ok (.invokevirtual 81, 3) := by decide +kernel
theorem dX10_told_10 : decode cX10_told 10 = .ok (.aload_n 0, 1) := by decide +kernel
theorem dX10_told_11 : decode cX10_told 11 = .ok (.getfield 39, 3) := by decide +kernel
theorem dX10_told_14 : decode cX10_told 14 = .ok (.getfield 66, 3) := by decide +kernel
theorem dX10_told_17 : decode cX10_told 17 = .ok (.astore_n 2, 1) := by decide +kernel
theorem dX10_told_18 : decode cX10_told 18 = .ok (.aload_n 2, 1) := by decide +kernel
theorem dX10_told_19 : decode cX10_told 19 = .ok (.getfield 111, 3) := by decide +kernel
theorem dX10_told_22 : decode cX10_told 22 = .ok (.bipush 10, 2) := by decide +kernel
theorem dX10_told_24 : decode cX10_told 24 = .ok (.iaload, 1) := by decide +kernel
theorem dX10_told_25 : decode cX10_told 25 = .ok (.istore_n 3, 1) := by decide +kernel
theorem dX10_told_26 : decode cX10_told 26 = .ok (.iload_n 1, 1) := by decide +kernel
theorem dX10_told_27 : decode cX10_told 27 = .ok (.tableswitch 49 0 3 #[29, 37, 42, 47], 29) := by decide +kernel
theorem dX10_told_56 : decode cX10_told 56 = .ok (.aload_n 0, 1) := by decide +kernel
theorem dX10_told_57 : decode cX10_told 57 = .ok (.getfield 23, 3) := by decide +kernel
theorem dX10_told_60 : decode cX10_told 60 = .ok (.getfield 99, 3) := by decide +kernel
theorem dX10_told_63 : decode cX10_told 63 = .ok (.ireturn, 1) := by decide +kernel
theorem dX10_told_64 : decode cX10_told 64 = .ok (.aload_n 0, 1) := by decide +kernel
theorem dX10_told_65 : decode cX10_told 65 = .ok (.getfield 92, 3) := by decide +kernel
theorem dX10_told_68 : decode cX10_told 68 = .ok (.ireturn, 1) := by decide +kernel
theorem dX10_told_69 : decode cX10_told 69 = .ok (.aload_n 2, 1) := by decide +kernel
theorem dX10_told_70 : decode cX10_told 70 = .ok (.getfield 114, 3) := by decide +kernel
theorem dX10_told_73 : decode cX10_told 73 = .ok (.ireturn, 1) := by decide +kernel
theorem dX10_told_74 : decode cX10_told 74 = .ok (.iload_n 3, 1) := by decide +kernel
theorem dX10_told_75 : decode cX10_told 75 = .ok (.ireturn, 1) := by decide +kernel
theorem dX10_told_76 : decode cX10_told 76 = .ok (.iload_n 3, 1) := by decide +kernel
theorem dX10_told_77 : decode cX10_told 77 = .ok (.iconst (-1), 1) := by decide +kernel
theorem dX10_told_78 : decode cX10_told 78 = .ok (.if_icmp .ne 7, 3) := by decide +kernel
theorem dX10_told_81 : decode cX10_told 81 = .ok (.iconst (-1), 1) := by decide +kernel
theorem dX10_told_82 : decode cX10_told 82 = .ok (.goto 15, 3) := by decide +kernel
theorem dX10_told_85 : decode cX10_told 85 = .ok (.aload_n 2, 1) := by decide +kernel
theorem dX10_told_86 : decode cX10_told 86 = .ok (.getfield 114, 3) := by decide +kernel
theorem dX10_told_89 : decode cX10_told 89 = .ok (.aload_n 2, 1) := by decide +kernel
theorem dX10_told_90 : decode cX10_told 90 = .ok (.getfield 111, 3) := by decide +kernel
theorem dX10_told_93 : decode cX10_told 93 = .ok (.bipush 11, 2) := by decide +kernel
theorem dX10_told_95 : decode cX10_told 95 = .ok (.iaload, 1) := by decide +kernel
theorem dX10_told_96 : decode cX10_told 96 = .ok (.isub, 1) := by decide +kernel
theorem dX10_told_97 : decode cX10_told 97 = .ok (.ireturn, 1) := by decide +kernel
theorem ggX10_wall_X10_demandWall : GoodIn wsX10_wall wsX10_demandWall := gW_in gwX10_demandWall (fun _ h => List.mem_cons_of_mem _ (List.mem_append_right _ (List.mem_append_right _ (List.mem_append_right _ (List.mem_append_right _ (List.mem_append_right _ (List.mem_append_left _ h)))))))
set_option maxRecDepth 20000 in
theorem gX10_wall_X10_demandWall : GoodIn wsX10_wall (wsV RX10 117 RX10 yX10_demandWall wsX10_demandWall) := goodIn_app (goodIn_of _ (by decide +kernel)) ggX10_wall_X10_demandWall
theorem ggX10_wall_X10_within : GoodIn wsX10_wall wsX10_within := gW_in gwX10_within (fun _ h => List.mem_cons_of_mem _ (List.mem_append_right _ (List.mem_append_right _ (List.mem_append_right _ (List.mem_append_right _ (List.mem_append_right _ (List.mem_append_right _ (List.mem_append_left _ h))))))))
set_option maxRecDepth 20000 in
theorem gX10_wall_X10_within : GoodIn wsX10_wall (va_wsS RX10 107 yX10_within wsX10_within) := goodIn_app (goodIn_of _ (by decide +kernel)) ggX10_wall_X10_within
theorem ggX10_wall_X10_demand : GoodIn wsX10_wall wsX10_demand := gW_in gwX10_demand (fun _ h => List.mem_cons_of_mem _ (List.mem_append_right _ (List.mem_append_right _ (List.mem_append_right _ (List.mem_append_right _ (List.mem_append_right _ (List.mem_append_right _ (List.mem_append_right _ (h)))))))))
set_option maxRecDepth 20000 in
theorem gX10_wall_X10_demand : GoodIn wsX10_wall (wsV RX10 81 RX10 yX10_demand wsX10_demand) := goodIn_app (goodIn_of _ (by decide +kernel)) ggX10_wall_X10_demand
theorem dX10_wall_0 : decode cX10_wall 0 = .ok (.aload_n 0, 1) := by decide +kernel
theorem dX10_wall_1 : decode cX10_wall 1 = .ok (.iload_n 1, 1) := by decide +kernel
theorem dX10_wall_2 : decode cX10_wall 2 = .ok (.invokevirtual 117, 3) := by decide +kernel
theorem dX10_wall_5 : decode cX10_wall 5 = .ok (.aload_n 0, 1) := by decide +kernel
theorem dX10_wall_6 : decode cX10_wall 6 = .ok (.iload_n 2, 1) := by decide +kernel
theorem dX10_wall_7 : decode cX10_wall 7 = .ok (.iconst 0, 1) := by decide +kernel
theorem dX10_wall_8 : decode cX10_wall 8 = .ok (.iconst 3, 1) := by decide +kernel
theorem dX10_wall_9 : decode cX10_wall 9 = .ok (.invokestatic 107, 3) := by decide +kernel
theorem dX10_wall_12 : decode cX10_wall 12 = .ok (.invokevirtual 81, 3) := by decide +kernel
theorem dX10_wall_15 : decode cX10_wall 15 = .ok (.iload_n 2, 1) := by decide +kernel
theorem dX10_wall_16 : decode cX10_wall 16 = .ok (.tableswitch 64 0 2 #[28, 38, 54], 28) := by decide +kernel
theorem dX10_wall_44 : decode cX10_wall 44 = .ok (.aload_n 0, 1) := by decide +kernel
theorem dX10_wall_45 : decode cX10_wall 45 = .ok (.getfield 23, 3) := by decide +kernel
theorem dX10_wall_48 : decode cX10_wall 48 = .ok (.getfield 120, 3) := by decide +kernel
theorem dX10_wall_51 : decode cX10_wall 51 = .ok (.iload_n 1, 1) := by decide +kernel
theorem dX10_wall_52 : decode cX10_wall 52 = .ok (.iaload, 1) := by decide +kernel
theorem dX10_wall_53 : decode cX10_wall 53 = .ok (.ireturn, 1) := by decide +kernel
theorem dX10_wall_54 : decode cX10_wall 54 = .ok (.aload_n 0, 1) := by decide +kernel
theorem dX10_wall_55 : decode cX10_wall 55 = .ok (.getfield 39, 3) := by decide +kernel
theorem dX10_wall_58 : decode cX10_wall 58 = .ok (.getfield 66, 3) := by decide +kernel
theorem dX10_wall_61 : decode cX10_wall 61 = .ok (.getfield 111, 3) := by decide +kernel
theorem dX10_wall_64 : decode cX10_wall 64 = .ok (.bipush 12, 2) := by decide +kernel
theorem dX10_wall_66 : decode cX10_wall 66 = .ok (.iload_n 1, 1) := by decide +kernel
theorem dX10_wall_67 : decode cX10_wall 67 = .ok (.iadd, 1) := by decide +kernel
theorem dX10_wall_68 : decode cX10_wall 68 = .ok (.iaload, 1) := by decide +kernel
theorem dX10_wall_69 : decode cX10_wall 69 = .ok (.ireturn, 1) := by decide +kernel
theorem dX10_wall_70 : decode cX10_wall 70 = .ok (.aload_n 0, 1) := by decide +kernel
theorem dX10_wall_71 : decode cX10_wall 71 = .ok (.getfield 23, 3) := by decide +kernel
theorem dX10_wall_74 : decode cX10_wall 74 = .ok (.getfield 123, 3) := by decide +kernel
theorem dX10_wall_77 : decode cX10_wall 77 = .ok (.iload_n 1, 1) := by decide +kernel
theorem dX10_wall_78 : decode cX10_wall 78 = .ok (.iaload, 1) := by decide +kernel
theorem dX10_wall_79 : decode cX10_wall 79 = .ok (.ireturn, 1) := by decide +kernel
theorem dX10_wall_80 : decode cX10_wall 80 = .ok (.aload_n 0, 1) := by decide +kernel
theorem dX10_wall_81 : decode cX10_wall 81 = .ok (.getfield 39, 3) := by decide +kernel
theorem dX10_wall_84 : decode cX10_wall 84 = .ok (.getfield 66, 3) := by decide +kernel
theorem dX10_wall_87 : decode cX10_wall 87 = .ok (.getfield 111, 3) := by decide +kernel
theorem dX10_wall_90 : decode cX10_wall 90 = .ok (.bipush 18, 2) := by decide +kernel
theorem dX10_wall_92 : decode cX10_wall 92 = .ok (.iload_n 1, 1) := by decide +kernel
theorem dX10_wall_93 : decode cX10_wall 93 = .ok (.iadd, 1) := by decide +kernel
theorem dX10_wall_94 : decode cX10_wall 94 = .ok (.iaload, 1) := by decide +kernel
theorem dX10_wall_95 : decode cX10_wall 95 = .ok (.ireturn, 1) := by decide +kernel
theorem ggX10_rule_X10_demandContract : GoodIn wsX10_rule wsX10_demandContract := gW_in gwX10_demandContract (fun _ h => List.mem_cons_of_mem _ (List.mem_append_right _ (List.mem_append_right _ (List.mem_append_right _ (List.mem_append_left _ h)))))
set_option maxRecDepth 20000 in
theorem gX10_rule_X10_demandContract : GoodIn wsX10_rule (wsV RX10 126 RX10 yX10_demandContract wsX10_demandContract) := goodIn_app (goodIn_of _ (by decide +kernel)) ggX10_rule_X10_demandContract
theorem ggX10_rule_X10_within : GoodIn wsX10_rule wsX10_within := gW_in gwX10_within (fun _ h => List.mem_cons_of_mem _ (List.mem_append_right _ (List.mem_append_right _ (List.mem_append_right _ (List.mem_append_right _ (List.mem_append_left _ h))))))
set_option maxRecDepth 20000 in
theorem gX10_rule_X10_within : GoodIn wsX10_rule (va_wsS RX10 107 yX10_within wsX10_within) := goodIn_app (goodIn_of _ (by decide +kernel)) ggX10_rule_X10_within
theorem ggX10_rule_X10_demand : GoodIn wsX10_rule wsX10_demand := gW_in gwX10_demand (fun _ h => List.mem_cons_of_mem _ (List.mem_append_right _ (List.mem_append_right _ (List.mem_append_right _ (List.mem_append_right _ (List.mem_append_right _ (List.mem_append_left _ h)))))))
set_option maxRecDepth 20000 in
theorem gX10_rule_X10_demand : GoodIn wsX10_rule (wsV RX10 81 RX10 yX10_demand wsX10_demand) := goodIn_app (goodIn_of _ (by decide +kernel)) ggX10_rule_X10_demand
theorem ggX10_rule_X5_answer : GoodIn wsX10_rule wsX5_answer := gW_in gwX5_answer (fun _ h => List.mem_cons_of_mem _ (List.mem_append_right _ (List.mem_append_right _ (List.mem_append_right _ (List.mem_append_right _ (List.mem_append_right _ (List.mem_append_right _ (h))))))))
set_option maxRecDepth 20000 in
theorem gX10_rule_X5_answer : GoodIn wsX10_rule (wsV RX10 129 RX5 yX5_answer wsX5_answer) := goodIn_app (goodIn_of _ (by decide +kernel)) ggX10_rule_X5_answer
theorem dX10_rule_0 : decode cX10_rule 0 = .ok (.aload_n 0, 1) := by decide +kernel
theorem dX10_rule_1 : decode cX10_rule 1 = .ok (.iload_n 1, 1) := by decide +kernel
theorem dX10_rule_2 : decode cX10_rule 2 = .ok (.invokevirtual 126, 3) := by decide +kernel
theorem dX10_rule_5 : decode cX10_rule 5 = .ok (.aload_n 0, 1) := by decide +kernel
theorem dX10_rule_6 : decode cX10_rule 6 = .ok (.iload_n 2, 1) := by decide +kernel
theorem dX10_rule_7 : decode cX10_rule 7 = .ok (.iconst 0, 1) := by decide +kernel
theorem dX10_rule_8 : decode cX10_rule 8 = .ok (.bipush 6, 2) := by decide +kernel
theorem dX10_rule_10 : decode cX10_rule 10 = .ok (.invokestatic 107, 3) := by decide +kernel
theorem dX10_rule_13 : decode cX10_rule 13 = .ok (.invokevirtual 81, 3) := by decide +kernel
theorem dX10_rule_16 : decode cX10_rule 16 = .ok (.aload_n 0, 1) := by decide +kernel
theorem dX10_rule_17 : decode cX10_rule 17 = .ok (.getfield 32, 3) := by decide +kernel
theorem dX10_rule_20 : decode cX10_rule 20 = .ok (.iload_n 1, 1) := by decide +kernel
theorem dX10_rule_21 : decode cX10_rule 21 = .ok (.aaload, 1) := by decide +kernel
theorem dX10_rule_22 : decode cX10_rule 22 = .ok (.iload_n 2, 1) := by decide +kernel
theorem dX10_rule_23 : decode cX10_rule 23 = .ok (.invokevirtual 129, 3) := by decide +kernel
theorem dX10_rule_26 : decode cX10_rule 26 = .ok (.ireturn, 1) := by decide +kernel
theorem ggX10_wants_X10_within : GoodIn wsX10_wants wsX10_within := gW_in gwX10_within (fun _ h => List.mem_cons_of_mem _ (List.mem_append_right _ (List.mem_append_right _ (List.mem_append_right _ (List.mem_append_left _ h)))))
set_option maxRecDepth 20000 in
theorem gX10_wants_X10_within : GoodIn wsX10_wants (va_wsS RX10 107 yX10_within wsX10_within) := goodIn_app (goodIn_of _ (by decide +kernel)) ggX10_wants_X10_within
theorem ggX10_wants_X10_demand : GoodIn wsX10_wants wsX10_demand := gW_in gwX10_demand (fun _ h => List.mem_cons_of_mem _ (List.mem_append_right _ (List.mem_append_right _ (List.mem_append_right _ (List.mem_append_right _ (List.mem_append_left _ h))))))
set_option maxRecDepth 20000 in
theorem gX10_wants_X10_demand : GoodIn wsX10_wants (wsV RX10 81 RX10 yX10_demand wsX10_demand) := goodIn_app (goodIn_of _ (by decide +kernel)) ggX10_wants_X10_demand
theorem ggX10_wants_X6_wanted : GoodIn wsX10_wants wsX6_wanted := gW_in gwX6_wanted (fun _ h => List.mem_cons_of_mem _ (List.mem_append_right _ (List.mem_append_right _ (List.mem_append_right _ (List.mem_append_right _ (List.mem_append_right _ (h)))))))
set_option maxRecDepth 20000 in
theorem gX10_wants_X6_wanted : GoodIn wsX10_wants (wsV RX10 133 RX6 yX6_wanted wsX6_wanted) := goodIn_app (goodIn_of _ (by decide +kernel)) ggX10_wants_X6_wanted
theorem dX10_wants_0 : decode cX10_wants 0 = .ok (.aload_n 0, 1) := by decide +kernel
theorem dX10_wants_1 : decode cX10_wants 1 = .ok (.iload_n 1, 1) := by decide +kernel
theorem dX10_wants_2 : decode cX10_wants 2 = .ok (.iconst 0, 1) := by decide +kernel
theorem dX10_wants_3 : decode cX10_wants 3 = .ok (.bipush 9, 2) := by decide +kernel
theorem dX10_wants_5 : decode cX10_wants 5 = .ok (.invokestatic 107, 3) := by decide +kernel
theorem dX10_wants_8 : decode cX10_wants 8 = .ok (.ifCond .eq 17, 3) := by decide +kernel
theorem dX10_wants_11 : decode cX10_wants 11 = .ok (.iload_n 2, 1) := by decide +kernel
theorem dX10_wants_12 : decode cX10_wants 12 = .ok (.iconst 0, 1) := by decide +kernel
theorem dX10_wants_13 : decode cX10_wants 13 = .ok (.bipush 99, 2) := by decide +kernel
theorem dX10_wants_15 : decode cX10_wants 15 = .ok (.invokestatic 107, 3) := by decide +kernel
theorem dX10_wants_18 : decode cX10_wants 18 = .ok (.ifCond .eq 7, 3) := by decide +kernel
theorem dX10_wants_21 : decode cX10_wants 21 = .ok (.iconst 1, 1) := by decide +kernel
theorem dX10_wants_22 : decode cX10_wants 22 = .ok (.goto 4, 3) := by decide +kernel
theorem dX10_wants_25 : decode cX10_wants 25 = .ok (.iconst 0, 1) := by decide +kernel
theorem dX10_wants_26 : decode cX10_wants 26 = .ok (.invokevirtual 81, 3) := by decide +kernel
theorem dX10_wants_29 : decode cX10_wants 29 = .ok (.aload_n 0, 1) := by decide +kernel
theorem dX10_wants_30 : decode cX10_wants 30 = .ok (.getfield 23, 3) := by decide +kernel
theorem dX10_wants_33 : decode cX10_wants 33 = .ok (.iload_n 1, 1) := by decide +kernel
theorem dX10_wants_34 : decode cX10_wants 34 = .ok (.iload_n 2, 1) := by decide +kernel
theorem dX10_wants_35 : decode cX10_wants 35 = .ok (.invokevirtual 133, 3) := by decide +kernel
theorem dX10_wants_38 : decode cX10_wants 38 = .ok (.ireturn, 1) := by decide +kernel
theorem ggX10_sign_X10_demandContractOrNone : GoodIn wsX10_sign wsX10_demandContractOrNone := gW_in gwX10_demandContractOrNone (fun _ h => List.mem_cons_of_mem _ (List.mem_append_right _ (List.mem_append_right _ (List.mem_append_right _ (List.mem_append_right _ (List.mem_append_left _ h))))))
set_option maxRecDepth 20000 in
theorem gX10_sign_X10_demandContractOrNone : GoodIn wsX10_sign (wsV RX10 137 RX10 yX10_demandContractOrNone wsX10_demandContractOrNone) := goodIn_app (goodIn_of _ (by decide +kernel)) ggX10_sign_X10_demandContractOrNone
theorem ggX10_sign_X4_pledge : GoodIn wsX10_sign wsX4_pledge := gW_in gwX4_pledge (fun _ h => List.mem_cons_of_mem _ (List.mem_append_right _ (List.mem_append_right _ (List.mem_append_right _ (List.mem_append_right _ (List.mem_append_right _ (h)))))))
set_option maxRecDepth 20000 in
theorem gX10_sign_X4_pledge : GoodIn wsX10_sign (wsV RX10 140 RX4 yX4_pledge wsX4_pledge) := goodIn_app (goodIn_of _ (by decide +kernel)) ggX10_sign_X4_pledge
theorem dX10_sign_0 : decode cX10_sign 0 = .ok (.aload_n 0, 1) := by decide +kernel
theorem dX10_sign_1 : decode cX10_sign 1 = .ok (.iload_n 1, 1) := by decide +kernel
theorem dX10_sign_2 : decode cX10_sign 2 = .ok (.invokevirtual 137, 3) := by decide +kernel
theorem dX10_sign_5 : decode cX10_sign 5 = .ok (.aload_n 0, 1) := by decide +kernel
theorem dX10_sign_6 : decode cX10_sign 6 = .ok (.getfield 39, 3) := by decide +kernel
theorem dX10_sign_9 : decode cX10_sign 9 = .ok (.getfield 66, 3) := by decide +kernel
theorem dX10_sign_12 : decode cX10_sign 12 = .ok (.getfield 111, 3) := by decide +kernel
theorem dX10_sign_15 : decode cX10_sign 15 = .ok (.bipush 10, 2) := by decide +kernel
theorem dX10_sign_17 : decode cX10_sign 17 = .ok (.iaload, 1) := by decide +kernel
theorem dX10_sign_18 : decode cX10_sign 18 = .ok (.istore_n 2, 1) := by decide +kernel
theorem dX10_sign_19 : decode cX10_sign 19 = .ok (.aload_n 0, 1) := by decide +kernel
theorem dX10_sign_20 : decode cX10_sign 20 = .ok (.getfield 39, 3) := by decide +kernel
theorem dX10_sign_23 : decode cX10_sign 23 = .ok (.getfield 66, 3) := by decide +kernel
theorem dX10_sign_26 : decode cX10_sign 26 = .ok (.iload_n 1, 1) := by decide +kernel
theorem dX10_sign_27 : decode cX10_sign 27 = .ok (.invokevirtual 140, 3) := by decide +kernel
theorem dX10_sign_30 : decode cX10_sign 30 = .ok (.iload_n 2, 1) := by decide +kernel
theorem dX10_sign_31 : decode cX10_sign 31 = .ok (.ireturn, 1) := by decide +kernel
theorem ggX10_months_X10_within : GoodIn wsX10_months wsX10_within := gW_in gwX10_within (fun _ h => List.mem_cons_of_mem _ (List.mem_append_right _ (List.mem_append_right _ (List.mem_append_right _ (List.mem_append_right _ (List.mem_append_right _ (List.mem_append_right _ (List.mem_append_right _ (List.mem_append_left _ h)))))))))
set_option maxRecDepth 20000 in
theorem gX10_months_X10_within : GoodIn wsX10_months (va_wsS RX10 107 yX10_within wsX10_within) := goodIn_app (goodIn_of _ (by decide +kernel)) ggX10_months_X10_within
theorem ggX10_months_X10_demand : GoodIn wsX10_months wsX10_demand := gW_in gwX10_demand (fun _ h => List.mem_cons_of_mem _ (List.mem_append_right _ (List.mem_append_right _ (List.mem_append_right _ (List.mem_append_right _ (List.mem_append_right _ (List.mem_append_right _ (List.mem_append_right _ (List.mem_append_right _ (List.mem_append_left _ h))))))))))
set_option maxRecDepth 20000 in
theorem gX10_months_X10_demand : GoodIn wsX10_months (wsV RX10 81 RX10 yX10_demand wsX10_demand) := goodIn_app (goodIn_of _ (by decide +kernel)) ggX10_months_X10_demand
theorem ggX10_months_X0_keep : GoodIn wsX10_months wsX0_keep := gW_in gwX0_keep (fun _ h => List.mem_cons_of_mem _ (List.mem_append_right _ (List.mem_append_right _ (List.mem_append_right _ (List.mem_append_right _ (List.mem_append_right _ (List.mem_append_right _ (List.mem_append_right _ (List.mem_append_right _ (List.mem_append_right _ (List.mem_append_left _ h)))))))))))
set_option maxRecDepth 20000 in
theorem gX10_months_X0_keep : GoodIn wsX10_months (wsV RX10 147 RX0 yX0_keep wsX0_keep) := goodIn_app (goodIn_of _ (by decide +kernel)) ggX10_months_X0_keep
theorem ggX10_months_X10_inForce : GoodIn wsX10_months wsX10_inForce := gW_in gwX10_inForce (fun _ h => List.mem_cons_of_mem _ (List.mem_append_right _ (List.mem_append_right _ (List.mem_append_right _ (List.mem_append_right _ (List.mem_append_right _ (List.mem_append_right _ (List.mem_append_right _ (List.mem_append_right _ (List.mem_append_right _ (List.mem_append_right _ (List.mem_append_left _ h))))))))))))
set_option maxRecDepth 20000 in
theorem gX10_months_X10_inForce : GoodIn wsX10_months (wsV RX10 153 RX10 yX10_inForce wsX10_inForce) := goodIn_app (goodIn_of _ (by decide +kernel)) ggX10_months_X10_inForce
theorem ggX10_months_X4_pass : GoodIn wsX10_months wsX4_pass := gW_in gwX4_pass (fun _ h => List.mem_cons_of_mem _ (List.mem_append_right _ (List.mem_append_right _ (List.mem_append_right _ (List.mem_append_right _ (List.mem_append_right _ (List.mem_append_right _ (List.mem_append_right _ (List.mem_append_right _ (List.mem_append_right _ (List.mem_append_right _ (List.mem_append_right _ (List.mem_append_left _ h)))))))))))))
set_option maxRecDepth 20000 in
theorem gX10_months_X4_pass : GoodIn wsX10_months (wsV RX10 157 RX4 yX4_pass wsX4_pass) := goodIn_app (goodIn_of _ (by decide +kernel)) ggX10_months_X4_pass
theorem ggX10_months_X0_lead : GoodIn wsX10_months wsX0_lead := gW_in gwX0_lead (fun _ h => List.mem_cons_of_mem _ (List.mem_append_right _ (List.mem_append_right _ (List.mem_append_right _ (List.mem_append_right _ (List.mem_append_right _ (List.mem_append_right _ (List.mem_append_right _ (List.mem_append_right _ (List.mem_append_right _ (List.mem_append_right _ (List.mem_append_right _ (List.mem_append_right _ (h))))))))))))))
set_option maxRecDepth 20000 in
theorem gX10_months_X0_lead : GoodIn wsX10_months (wsV RX10 161 RX0 yX0_lead wsX0_lead) := goodIn_app (goodIn_of _ (by decide +kernel)) ggX10_months_X0_lead
theorem dX10_months_0 : decode cX10_months 0 = .ok (.aload_n 0, 1) := by decide +kernel
theorem dX10_months_1 : decode cX10_months 1 = .ok (.iload_n 1, 1) := by decide +kernel
theorem dX10_months_2 : decode cX10_months 2 = .ok (.iconst 1, 1) := by decide +kernel
theorem dX10_months_3 : decode cX10_months 3 = .ok (.bipush 120, 2) := by decide +kernel
theorem dX10_months_5 : decode cX10_months 5 = .ok (.invokestatic 107, 3) := by decide +kernel
theorem dX10_months_8 : decode cX10_months 8 = .ok (.invokevirtual 81, 3) := by decide +kernel
theorem dX10_months_11 : decode cX10_months 11 = .ok (.iconst 0, 1) := by decide +kernel
theorem dX10_months_12 : decode cX10_months 12 = .ok (.istore_n 2, 1) := by decide +kernel
theorem dX10_months_13 : decode cX10_months 13 = .ok (.iload_n 2, 1) := by decide +kernel
theorem dX10_months_14 : decode cX10_months 14 = .ok (.iload_n 1, 1) := by decide +kernel
theorem dX10_months_15 : decode cX10_months 15 = .ok (.if_icmp .ge 83, 3) := by decide +kernel
theorem dX10_months_18 : decode cX10_months 18 = .ok (.aload_n 0, 1) := by decide +kernel
theorem dX10_months_19 : decode cX10_months 19 = .ok (.getfield 39, 3) := by decide +kernel
theorem dX10_months_22 : decode cX10_months 22 = .ok (.getfield 66, 3) := by decide +kernel
