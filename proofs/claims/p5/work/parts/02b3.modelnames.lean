theorem dX11_puts0_26 : decode cX11_puts0 26 = .ok (.ifCond .le 5, 3) := by decide +kernel
theorem dX11_puts0_29 : decode cX11_puts0 29 = .ok (.iconst 0, 1) := by decide +kernel
theorem dX11_puts0_30 : decode cX11_puts0 30 = .ok (.ireturn, 1) := by decide +kernel
theorem dX11_puts0_31 : decode cX11_puts0 31 = .ok (.iload_n 3, 1) := by decide +kernel
theorem dX11_puts0_32 : decode cX11_puts0 32 = .ok (.iload_n 0, 1) := by decide +kernel
theorem dX11_puts0_33 : decode cX11_puts0 33 = .ok (.iload 4, 2) := by decide +kernel
theorem dX11_puts0_35 : decode cX11_puts0 35 = .ok (.invokestatic 241, 3) := by decide +kernel
theorem dX11_puts0_38 : decode cX11_puts0 38 = .ok (.iadd, 1) := by decide +kernel
theorem dX11_puts0_39 : decode cX11_puts0 39 = .ok (.istore_n 3, 1) := by decide +kernel
theorem dX11_puts0_40 : decode cX11_puts0 40 = .ok (.iinc 4 1, 3) := by decide +kernel
theorem dX11_puts0_43 : decode cX11_puts0 43 = .ok (.goto (-38), 3) := by decide +kernel
theorem dX11_puts0_46 : decode cX11_puts0 46 = .ok (.iload_n 3, 1) := by decide +kernel
theorem dX11_puts0_47 : decode cX11_puts0 47 = .ok (.iload_n 1, 1) := by decide +kernel
theorem dX11_puts0_48 : decode cX11_puts0 48 = .ok (.if_icmp .eq 7, 3) := by decide +kernel
theorem dX11_puts0_51 : decode cX11_puts0 51 = .ok (.iload_n 2, 1) := by decide +kernel
theorem dX11_puts0_52 : decode cX11_puts0 52 = .ok (.ifCond .ne 7, 3) := by decide +kernel
theorem dX11_puts0_55 : decode cX11_puts0 55 = .ok (.iconst 1, 1) := by decide +kernel
theorem dX11_puts0_56 : decode cX11_puts0 56 = .ok (.goto 4, 3) := by decide +kernel
theorem dX11_puts0_59 : decode cX11_puts0 59 = .ok (.iconst 0, 1) := by decide +kernel
theorem dX11_puts0_60 : decode cX11_puts0 60 = .ok (.ireturn, 1) := by decide +kernel
theorem ggX11_falls_X11_digit : GoodIn wsX11_falls wsX11_digit := gW_in gwX11_digit (fun _ h => List.mem_cons_of_mem _ (List.mem_append_right _ (List.mem_append_right _ (h))))
set_option maxRecDepth 20000 in
theorem gX11_falls_X11_digit : GoodIn wsX11_falls (va_wsS RX11 241 yX11_digit wsX11_digit) := goodIn_app (goodIn_of _ (by decide +kernel)) ggX11_falls_X11_digit
theorem dX11_falls_0 : decode cX11_falls 0 = .ok (.iconst 0, 1) := by decide +kernel
theorem dX11_falls_1 : decode cX11_falls 1 = .ok (.istore 4, 2) := by decide +kernel
theorem dX11_falls_3 : decode cX11_falls 3 = .ok (.iconst 0, 1) := by decide +kernel
theorem dX11_falls_4 : decode cX11_falls 4 = .ok (.istore 5, 2) := by decide +kernel
theorem dX11_falls_6 : decode cX11_falls 6 = .ok (.iload 5, 2) := by decide +kernel
theorem dX11_falls_8 : decode cX11_falls 8 = .ok (.iconst 3, 1) := by decide +kernel
theorem dX11_falls_9 : decode cX11_falls 9 = .ok (.if_icmp .ge 61, 3) := by decide +kernel
theorem dX11_falls_12 : decode cX11_falls 12 = .ok (.iload_n 3, 1) := by decide +kernel
theorem dX11_falls_13 : decode cX11_falls 13 = .ok (.iload 5, 2) := by decide +kernel
theorem dX11_falls_15 : decode cX11_falls 15 = .ok (.ishr, 1) := by decide +kernel
theorem dX11_falls_16 : decode cX11_falls 16 = .ok (.iconst 1, 1) := by decide +kernel
theorem dX11_falls_17 : decode cX11_falls 17 = .ok (.iand, 1) := by decide +kernel
theorem dX11_falls_18 : decode cX11_falls 18 = .ok (.iconst 1, 1) := by decide +kernel
theorem dX11_falls_19 : decode cX11_falls 19 = .ok (.if_icmp .ne 45, 3) := by decide +kernel
theorem dX11_falls_22 : decode cX11_falls 22 = .ok (.iload_n 1, 1) := by decide +kernel
theorem dX11_falls_23 : decode cX11_falls 23 = .ok (.iload 5, 2) := by decide +kernel
theorem dX11_falls_25 : decode cX11_falls 25 = .ok (.invokestatic 241, 3) := by decide +kernel
theorem dX11_falls_28 : decode cX11_falls 28 = .ok (.iload_n 2, 1) := by decide +kernel
theorem dX11_falls_29 : decode cX11_falls 29 = .ok (.iload 5, 2) := by decide +kernel
theorem dX11_falls_31 : decode cX11_falls 31 = .ok (.invokestatic 241, 3) := by decide +kernel
theorem dX11_falls_34 : decode cX11_falls 34 = .ok (.aload_n 0, 1) := by decide +kernel
theorem dX11_falls_35 : decode cX11_falls 35 = .ok (.getfield 31, 3) := by decide +kernel
theorem dX11_falls_38 : decode cX11_falls 38 = .ok (.iload 5, 2) := by decide +kernel
theorem dX11_falls_40 : decode cX11_falls 40 = .ok (.aaload, 1) := by decide +kernel
theorem dX11_falls_41 : decode cX11_falls 41 = .ok (.iconst 0, 1) := by decide +kernel
theorem dX11_falls_42 : decode cX11_falls 42 = .ok (.iaload, 1) := by decide +kernel
theorem dX11_falls_43 : decode cX11_falls 43 = .ok (.bipush 25, 2) := by decide +kernel
theorem dX11_falls_45 : decode cX11_falls 45 = .ok (.idiv, 1) := by decide +kernel
theorem dX11_falls_46 : decode cX11_falls 46 = .ok (.iadd, 1) := by decide +kernel
theorem dX11_falls_47 : decode cX11_falls 47 = .ok (.if_icmp .le 17, 3) := by decide +kernel
theorem dX11_falls_50 : decode cX11_falls 50 = .ok (.iload 4, 2) := by decide +kernel
theorem dX11_falls_52 : decode cX11_falls 52 = .ok (.aload_n 0, 1) := by decide +kernel
theorem dX11_falls_53 : decode cX11_falls 53 = .ok (.getfield 31, 3) := by decide +kernel
theorem dX11_falls_56 : decode cX11_falls 56 = .ok (.iload 5, 2) := by decide +kernel
theorem dX11_falls_58 : decode cX11_falls 58 = .ok (.aaload, 1) := by decide +kernel
theorem dX11_falls_59 : decode cX11_falls 59 = .ok (.iconst 0, 1) := by decide +kernel
theorem dX11_falls_60 : decode cX11_falls 60 = .ok (.iaload, 1) := by decide +kernel
theorem dX11_falls_61 : decode cX11_falls 61 = .ok (.iadd, 1) := by decide +kernel
theorem dX11_falls_62 : decode cX11_falls 62 = .ok (.istore 4, 2) := by decide +kernel
theorem dX11_falls_64 : decode cX11_falls 64 = .ok (.iinc 5 1, 3) := by decide +kernel
theorem dX11_falls_67 : decode cX11_falls 67 = .ok (.goto (-61), 3) := by decide +kernel
theorem dX11_falls_70 : decode cX11_falls 70 = .ok (.iload 4, 2) := by decide +kernel
theorem dX11_falls_72 : decode cX11_falls 72 = .ok (.ireturn, 1) := by decide +kernel
theorem ggX11_firstWalls_X11_less : GoodIn wsX11_firstWalls wsX11_less := gW_in gwX11_less (fun _ h => List.mem_cons_of_mem _ (List.mem_append_right _ (List.mem_append_right _ (h))))
set_option maxRecDepth 20000 in
theorem gX11_firstWalls_X11_less : GoodIn wsX11_firstWalls (va_wsS RX11 186 yX11_less wsX11_less) := goodIn_app (goodIn_of _ (by decide +kernel)) ggX11_firstWalls_X11_less
theorem dX11_firstWalls_0 : decode cX11_firstWalls 0 = .ok (.iconst 1, 1) := by decide +kernel
theorem dX11_firstWalls_1 : decode cX11_firstWalls 1 = .ok (.iconst 3, 1) := by decide +kernel
theorem dX11_firstWalls_2 : decode cX11_firstWalls 2 = .ok (.aload_n 0, 1) := by decide +kernel
theorem dX11_firstWalls_3 : decode cX11_firstWalls 3 = .ok (.getfield 23, 3) := by decide +kernel
theorem dX11_firstWalls_6 : decode cX11_firstWalls 6 = .ok (.iconst 0, 1) := by decide +kernel
theorem dX11_firstWalls_7 : decode cX11_firstWalls 7 = .ok (.iaload, 1) := by decide +kernel
theorem dX11_firstWalls_8 : decode cX11_firstWalls 8 = .ok (.invokestatic 186, 3) := by decide +kernel
theorem dX11_firstWalls_11 : decode cX11_firstWalls 11 = .ok (.ishl, 1) := by decide +kernel
theorem dX11_firstWalls_12 : decode cX11_firstWalls 12 = .ok (.iconst 1, 1) := by decide +kernel
theorem dX11_firstWalls_13 : decode cX11_firstWalls 13 = .ok (.isub, 1) := by decide +kernel
theorem dX11_firstWalls_14 : decode cX11_firstWalls 14 = .ok (.ireturn, 1) := by decide +kernel
theorem ggX11_safeBy_X11_puts0 : GoodIn wsX11_safeBy wsX11_puts0 := gW_in gwX11_puts0 (fun _ h => List.mem_cons_of_mem _ (List.mem_append_right _ (List.mem_append_right _ (List.mem_append_left _ h))))
set_option maxRecDepth 20000 in
theorem gX11_safeBy_X11_puts0 : GoodIn wsX11_safeBy (va_wsS RX11 247 yX11_puts0 wsX11_puts0) := goodIn_app (goodIn_of _ (by decide +kernel)) ggX11_safeBy_X11_puts0
theorem ggX11_safeBy_X11_falls : GoodIn wsX11_safeBy wsX11_falls := gW_in gwX11_falls (fun _ h => List.mem_cons_of_mem _ (List.mem_append_right _ (List.mem_append_right _ (List.mem_append_right _ (h)))))
set_option maxRecDepth 20000 in
theorem gX11_safeBy_X11_falls : GoodIn wsX11_safeBy (wsV RX11 250 RX11 yX11_falls wsX11_falls) := goodIn_app (goodIn_of _ (by decide +kernel)) ggX11_safeBy_X11_falls
theorem dX11_safeBy_0 : decode cX11_safeBy 0 = .ok (.iconst (-1), 1) := by decide +kernel
theorem dX11_safeBy_1 : decode cX11_safeBy 1 = .ok (.istore 4, 2) := by decide +kernel
theorem dX11_safeBy_3 : decode cX11_safeBy 3 = .ok (.aload_n 0, 1) := by decide +kernel
theorem dX11_safeBy_4 : decode cX11_safeBy 4 = .ok (.iconst 0, 1) := by decide +kernel
theorem dX11_safeBy_5 : decode cX11_safeBy 5 = .ok (.putfield 244, 3) := by decide +kernel
theorem dX11_safeBy_8 : decode cX11_safeBy 8 = .ok (.iconst 0, 1) := by decide +kernel
theorem dX11_safeBy_9 : decode cX11_safeBy 9 = .ok (.istore 5, 2) := by decide +kernel
theorem dX11_safeBy_11 : decode cX11_safeBy 11 = .ok (.iload 5, 2) := by decide +kernel
theorem dX11_safeBy_13 : decode cX11_safeBy 13 = .ok (.sipush 343, 3) := by decide +kernel
theorem dX11_safeBy_16 : decode cX11_safeBy 16 = .ok (.if_icmp .ge 108, 3) := by decide +kernel
theorem dX11_safeBy_19 : decode cX11_safeBy 19 = .ok (.iload 5, 2) := by decide +kernel
theorem dX11_safeBy_21 : decode cX11_safeBy 21 = .ok (.iload_n 2, 1) := by decide +kernel
theorem dX11_safeBy_22 : decode cX11_safeBy 22 = .ok (.iload_n 3, 1) := by decide +kernel
theorem dX11_safeBy_23 : decode cX11_safeBy 23 = .ok (.invokestatic 247, 3) := by decide +kernel
theorem dX11_safeBy_26 : decode cX11_safeBy 26 = .ok (.ifCond .ne 6, 3) := by decide +kernel
theorem dX11_safeBy_29 : decode cX11_safeBy 29 = .ok (.goto 89, 3) := by decide +kernel
theorem dX11_safeBy_32 : decode cX11_safeBy 32 = .ok (.iconst 0, 1) := by decide +kernel
theorem dX11_safeBy_33 : decode cX11_safeBy 33 = .ok (.istore 6, 2) := by decide +kernel
theorem dX11_safeBy_35 : decode cX11_safeBy 35 = .ok (.iconst 0, 1) := by decide +kernel
theorem dX11_safeBy_36 : decode cX11_safeBy 36 = .ok (.istore 7, 2) := by decide +kernel
theorem dX11_safeBy_38 : decode cX11_safeBy 38 = .ok (.iload 7, 2) := by decide +kernel
theorem dX11_safeBy_40 : decode cX11_safeBy 40 = .ok (.sipush 343, 3) := by decide +kernel
theorem dX11_safeBy_43 : decode cX11_safeBy 43 = .ok (.if_icmp .ge 49, 3) := by decide +kernel
theorem dX11_safeBy_46 : decode cX11_safeBy 46 = .ok (.iload 7, 2) := by decide +kernel
theorem dX11_safeBy_48 : decode cX11_safeBy 48 = .ok (.iload_n 1, 1) := by decide +kernel
theorem dX11_safeBy_49 : decode cX11_safeBy 49 = .ok (.iload_n 3, 1) := by decide +kernel
theorem dX11_safeBy_50 : decode cX11_safeBy 50 = .ok (.invokestatic 247, 3) := by decide +kernel
theorem dX11_safeBy_53 : decode cX11_safeBy 53 = .ok (.ifCond .eq 29, 3) := by decide +kernel
theorem dX11_safeBy_56 : decode cX11_safeBy 56 = .ok (.aload_n 0, 1) := by decide +kernel
theorem dX11_safeBy_57 : decode cX11_safeBy 57 = .ok (.iload 7, 2) := by decide +kernel
theorem dX11_safeBy_59 : decode cX11_safeBy 59 = .ok (.iload 5, 2) := by decide +kernel
theorem dX11_safeBy_61 : decode cX11_safeBy 61 = .ok (.iload_n 3, 1) := by decide +kernel
theorem dX11_safeBy_62 : decode cX11_safeBy 62 = .ok (.invokevirtual 250, 3) := by decide +kernel
theorem dX11_safeBy_65 : decode cX11_safeBy 65 = .ok (.iload 6, 2) := by decide +kernel
theorem dX11_safeBy_67 : decode cX11_safeBy 67 = .ok (.if_icmp .le 15, 3) := by decide +kernel
theorem dX11_safeBy_70 : decode cX11_safeBy 70 = .ok (.aload_n 0, 1) := by decide +kernel
theorem dX11_safeBy_71 : decode cX11_safeBy 71 = .ok (.iload 7, 2) := by decide +kernel
theorem dX11_safeBy_73 : decode cX11_safeBy 73 = .ok (.iload 5, 2) := by decide +kernel
theorem dX11_safeBy_75 : decode cX11_safeBy 75 = .ok (.iload_n 3, 1) := by decide +kernel
theorem dX11_safeBy_76 : decode cX11_safeBy 76 = .ok (.invokevirtual 250, 3) := by decide +kernel
theorem dX11_safeBy_79 : decode cX11_safeBy 79 = .ok (.goto 5, 3) := by decide +kernel
theorem dX11_safeBy_82 : decode cX11_safeBy 82 = .ok (.iload 6, 2) := by decide +kernel
theorem dX11_safeBy_84 : decode cX11_safeBy 84 = .ok (.istore 6, 2) := by decide +kernel
theorem dX11_safeBy_86 : decode cX11_safeBy 86 = .ok (.iinc 7 1, 3) := by decide +kernel
theorem dX11_safeBy_89 : decode cX11_safeBy 89 = .ok (.goto (-51), 3) := by decide +kernel
theorem dX11_safeBy_92 : decode cX11_safeBy 92 = .ok (.iload 4, 2) := by decide +kernel
theorem dX11_safeBy_94 : decode cX11_safeBy 94 = .ok (.iconst (-1), 1) := by decide +kernel
theorem dX11_safeBy_95 : decode cX11_safeBy 95 = .ok (.if_icmp .eq 13, 3) := by decide +kernel
theorem dX11_safeBy_98 : decode cX11_safeBy 98 = .ok (.iload 6, 2) := by decide +kernel
theorem dX11_safeBy_100 : decode cX11_safeBy 100 = .ok (.iload 4, 2) := by decide +kernel
theorem dX11_safeBy_102 : decode cX11_safeBy 102 = .ok (.if_icmp .lt 6, 3) := by decide +kernel
theorem dX11_safeBy_105 : decode cX11_safeBy 105 = .ok (.goto 13, 3) := by decide +kernel
theorem dX11_safeBy_108 : decode cX11_safeBy 108 = .ok (.iload 6, 2) := by decide +kernel
theorem dX11_safeBy_110 : decode cX11_safeBy 110 = .ok (.istore 4, 2) := by decide +kernel
theorem dX11_safeBy_112 : decode cX11_safeBy 112 = .ok (.aload_n 0, 1) := by decide +kernel
theorem dX11_safeBy_113 : decode cX11_safeBy 113 = .ok (.iload 5, 2) := by decide +kernel
theorem dX11_safeBy_115 : decode cX11_safeBy 115 = .ok (.putfield 244, 3) := by decide +kernel
theorem dX11_safeBy_118 : decode cX11_safeBy 118 = .ok (.iinc 5 1, 3) := by decide +kernel
theorem dX11_safeBy_121 : decode cX11_safeBy 121 = .ok (.goto (-110), 3) := by decide +kernel
theorem dX11_safeBy_124 : decode cX11_safeBy 124 = .ok (.iload 4, 2) := by decide +kernel
theorem dX11_safeBy_126 : decode cX11_safeBy 126 = .ok (.ireturn, 1) := by decide +kernel
theorem ggX11_sureBy_X11_puts0 : GoodIn wsX11_sureBy wsX11_puts0 := gW_in gwX11_puts0 (fun _ h => List.mem_cons_of_mem _ (List.mem_append_right _ (List.mem_append_right _ (List.mem_append_left _ h))))
set_option maxRecDepth 20000 in
theorem gX11_sureBy_X11_puts0 : GoodIn wsX11_sureBy (va_wsS RX11 247 yX11_puts0 wsX11_puts0) := goodIn_app (goodIn_of _ (by decide +kernel)) ggX11_sureBy_X11_puts0
theorem ggX11_sureBy_X11_falls : GoodIn wsX11_sureBy wsX11_falls := gW_in gwX11_falls (fun _ h => List.mem_cons_of_mem _ (List.mem_append_right _ (List.mem_append_right _ (List.mem_append_right _ (h)))))
set_option maxRecDepth 20000 in
theorem gX11_sureBy_X11_falls : GoodIn wsX11_sureBy (wsV RX11 250 RX11 yX11_falls wsX11_falls) := goodIn_app (goodIn_of _ (by decide +kernel)) ggX11_sureBy_X11_falls
theorem dX11_sureBy_0 : decode cX11_sureBy 0 = .ok (.iconst 0, 1) := by decide +kernel
theorem dX11_sureBy_1 : decode cX11_sureBy 1 = .ok (.istore 4, 2) := by decide +kernel
theorem dX11_sureBy_3 : decode cX11_sureBy 3 = .ok (.iconst 0, 1) := by decide +kernel
theorem dX11_sureBy_4 : decode cX11_sureBy 4 = .ok (.istore 5, 2) := by decide +kernel
theorem dX11_sureBy_6 : decode cX11_sureBy 6 = .ok (.iload 5, 2) := by decide +kernel
theorem dX11_sureBy_8 : decode cX11_sureBy 8 = .ok (.sipush 343, 3) := by decide +kernel
theorem dX11_sureBy_11 : decode cX11_sureBy 11 = .ok (.if_icmp .ge 99, 3) := by decide +kernel
theorem dX11_sureBy_14 : decode cX11_sureBy 14 = .ok (.iload 5, 2) := by decide +kernel
theorem dX11_sureBy_16 : decode cX11_sureBy 16 = .ok (.iload_n 1, 1) := by decide +kernel
theorem dX11_sureBy_17 : decode cX11_sureBy 17 = .ok (.iload_n 3, 1) := by decide +kernel
theorem dX11_sureBy_18 : decode cX11_sureBy 18 = .ok (.invokestatic 247, 3) := by decide +kernel
theorem dX11_sureBy_21 : decode cX11_sureBy 21 = .ok (.ifCond .ne 6, 3) := by decide +kernel
theorem dX11_sureBy_24 : decode cX11_sureBy 24 = .ok (.goto 80, 3) := by decide +kernel
theorem dX11_sureBy_27 : decode cX11_sureBy 27 = .ok (.iconst (-1), 1) := by decide +kernel
theorem dX11_sureBy_28 : decode cX11_sureBy 28 = .ok (.istore 6, 2) := by decide +kernel
theorem dX11_sureBy_30 : decode cX11_sureBy 30 = .ok (.iconst 0, 1) := by decide +kernel
theorem dX11_sureBy_31 : decode cX11_sureBy 31 = .ok (.istore 7, 2) := by decide +kernel
theorem dX11_sureBy_33 : decode cX11_sureBy 33 = .ok (.iload 7, 2) := by decide +kernel
theorem dX11_sureBy_35 : decode cX11_sureBy 35 = .ok (.sipush 343, 3) := by decide +kernel
theorem dX11_sureBy_38 : decode cX11_sureBy 38 = .ok (.if_icmp .ge 50, 3) := by decide +kernel
theorem dX11_sureBy_41 : decode cX11_sureBy 41 = .ok (.iload 7, 2) := by decide +kernel
theorem dX11_sureBy_43 : decode cX11_sureBy 43 = .ok (.iload_n 2, 1) := by decide +kernel
theorem dX11_sureBy_44 : decode cX11_sureBy 44 = .ok (.iload_n 3, 1) := by decide +kernel
theorem dX11_sureBy_45 : decode cX11_sureBy 45 = .ok (.invokestatic 247, 3) := by decide +kernel
theorem dX11_sureBy_48 : decode cX11_sureBy 48 = .ok (.ifCond .eq 34, 3) := by decide +kernel
theorem dX11_sureBy_51 : decode cX11_sureBy 51 = .ok (.iload 6, 2) := by decide +kernel
theorem dX11_sureBy_53 : decode cX11_sureBy 53 = .ok (.iconst (-1), 1) := by decide +kernel
theorem dX11_sureBy_54 : decode cX11_sureBy 54 = .ok (.if_icmp .eq 17, 3) := by decide +kernel
theorem dX11_sureBy_57 : decode cX11_sureBy 57 = .ok (.aload_n 0, 1) := by decide +kernel
theorem dX11_sureBy_58 : decode cX11_sureBy 58 = .ok (.iload 5, 2) := by decide +kernel
theorem dX11_sureBy_60 : decode cX11_sureBy 60 = .ok (.iload 7, 2) := by decide +kernel
theorem dX11_sureBy_62 : decode cX11_sureBy 62 = .ok (.iload_n 3, 1) := by decide +kernel
theorem dX11_sureBy_63 : decode cX11_sureBy 63 = .ok (.invokevirtual 250, 3) := by decide +kernel
theorem dX11_sureBy_66 : decode cX11_sureBy 66 = .ok (.iload 6, 2) := by decide +kernel
theorem dX11_sureBy_68 : decode cX11_sureBy 68 = .ok (.if_icmp .ge 14, 3) := by decide +kernel
theorem dX11_sureBy_71 : decode cX11_sureBy 71 = .ok (.aload_n 0, 1) := by decide +kernel
theorem dX11_sureBy_72 : decode cX11_sureBy 72 = .ok (.iload 5, 2) := by decide +kernel
theorem dX11_sureBy_74 : decode cX11_sureBy 74 = .ok (.iload 7, 2) := by decide +kernel
theorem dX11_sureBy_76 : decode cX11_sureBy 76 = .ok (.iload_n 3, 1) := by decide +kernel
theorem dX11_sureBy_77 : decode cX11_sureBy 77 = .ok (.invokevirtual 250, 3) := by decide +kernel
theorem dX11_sureBy_80 : decode cX11_sureBy 80 = .ok (.istore 6, 2) := by decide +kernel
theorem dX11_sureBy_82 : decode cX11_sureBy 82 = .ok (.iinc 7 1, 3) := by decide +kernel
theorem dX11_sureBy_85 : decode cX11_sureBy 85 = .ok (.goto (-52), 3) := by decide +kernel
theorem dX11_sureBy_88 : decode cX11_sureBy 88 = .ok (.iload 6, 2) := by decide +kernel
theorem dX11_sureBy_90 : decode cX11_sureBy 90 = .ok (.iload 4, 2) := by decide +kernel
theorem dX11_sureBy_92 : decode cX11_sureBy 92 = .ok (.if_icmp .le 8, 3) := by decide +kernel
theorem dX11_sureBy_95 : decode cX11_sureBy 95 = .ok (.iload 6, 2) := by decide +kernel
theorem dX11_sureBy_97 : decode cX11_sureBy 97 = .ok (.goto 5, 3) := by decide +kernel
theorem dX11_sureBy_100 : decode cX11_sureBy 100 = .ok (.iload 4, 2) := by decide +kernel
theorem dX11_sureBy_102 : decode cX11_sureBy 102 = .ok (.istore 4, 2) := by decide +kernel
theorem dX11_sureBy_104 : decode cX11_sureBy 104 = .ok (.iinc 5 1, 3) := by decide +kernel
theorem dX11_sureBy_107 : decode cX11_sureBy 107 = .ok (.goto (-101), 3) := by decide +kernel
theorem dX11_sureBy_110 : decode cX11_sureBy 110 = .ok (.iload 4, 2) := by decide +kernel
theorem dX11_sureBy_112 : decode cX11_sureBy 112 = .ok (.ireturn, 1) := by decide +kernel
theorem ggX11_areTens_X11_in : GoodIn wsX11_areTens wsX11_in := gW_in gwX11_in (fun _ h => List.mem_cons_of_mem _ (List.mem_append_right _ (h)))
set_option maxRecDepth 20000 in
theorem gX11_areTens_X11_in : GoodIn wsX11_areTens (va_wsS RX11 119 yX11_in wsX11_in) := goodIn_app (goodIn_of _ (by decide +kernel)) ggX11_areTens_X11_in
theorem dX11_areTens_0 : decode cX11_areTens 0 = .ok (.iload_n 0, 1) := by decide +kernel
theorem dX11_areTens_1 : decode cX11_areTens 1 = .ok (.iconst 0, 1) := by decide +kernel
theorem dX11_areTens_2 : decode cX11_areTens 2 = .ok (.bipush 6, 2) := by decide +kernel
theorem dX11_areTens_4 : decode cX11_areTens 4 = .ok (.invokestatic 119, 3) := by decide +kernel
theorem dX11_areTens_7 : decode cX11_areTens 7 = .ok (.ifCond .eq 17, 3) := by decide +kernel
theorem dX11_areTens_10 : decode cX11_areTens 10 = .ok (.iload_n 1, 1) := by decide +kernel
theorem dX11_areTens_11 : decode cX11_areTens 11 = .ok (.iconst 0, 1) := by decide +kernel
theorem dX11_areTens_12 : decode cX11_areTens 12 = .ok (.bipush 6, 2) := by decide +kernel
theorem dX11_areTens_14 : decode cX11_areTens 14 = .ok (.invokestatic 119, 3) := by decide +kernel
theorem dX11_areTens_17 : decode cX11_areTens 17 = .ok (.ifCond .eq 7, 3) := by decide +kernel
theorem dX11_areTens_20 : decode cX11_areTens 20 = .ok (.iconst 1, 1) := by decide +kernel
theorem dX11_areTens_21 : decode cX11_areTens 21 = .ok (.goto 4, 3) := by decide +kernel
theorem dX11_areTens_24 : decode cX11_areTens 24 = .ok (.iconst 0, 1) := by decide +kernel
theorem dX11_areTens_25 : decode cX11_areTens 25 = .ok (.ireturn, 1) := by decide +kernel
theorem ggX11_earnest_X11_areTens : GoodIn wsX11_earnest wsX11_areTens := gW_in gwX11_areTens (fun _ h => List.mem_cons_of_mem _ (List.mem_append_right _ (List.mem_append_right _ (List.mem_append_left _ h))))
set_option maxRecDepth 20000 in
theorem gX11_earnest_X11_areTens : GoodIn wsX11_earnest (va_wsS RX11 253 yX11_areTens wsX11_areTens) := goodIn_app (goodIn_of _ (by decide +kernel)) ggX11_earnest_X11_areTens
theorem ggX11_earnest_X11_in : GoodIn wsX11_earnest wsX11_in := gW_in gwX11_in (fun _ h => List.mem_cons_of_mem _ (List.mem_append_right _ (List.mem_append_right _ (List.mem_append_right _ (List.mem_append_left _ h)))))
set_option maxRecDepth 20000 in
theorem gX11_earnest_X11_in : GoodIn wsX11_earnest (va_wsS RX11 119 yX11_in wsX11_in) := goodIn_app (goodIn_of _ (by decide +kernel)) ggX11_earnest_X11_in
theorem ggX11_earnest_X11_bad : GoodIn wsX11_earnest wsX11_bad := gW_in gwX11_bad (fun _ h => List.mem_cons_of_mem _ (List.mem_append_right _ (List.mem_append_right _ (List.mem_append_right _ (List.mem_append_right _ (List.mem_append_left _ h))))))
set_option maxRecDepth 20000 in
theorem gX11_earnest_X11_bad : GoodIn wsX11_earnest (wsV RX11 151 RX11 yX11_bad wsX11_bad) := goodIn_app (goodIn_of _ (by decide +kernel)) ggX11_earnest_X11_bad
theorem ggX11_earnest_X11_firstWalls : GoodIn wsX11_earnest wsX11_firstWalls := gW_in gwX11_firstWalls (fun _ h => List.mem_cons_of_mem _ (List.mem_append_right _ (List.mem_append_right _ (List.mem_append_right _ (List.mem_append_right _ (List.mem_append_right _ (List.mem_append_left _ h)))))))
set_option maxRecDepth 20000 in
theorem gX11_earnest_X11_firstWalls : GoodIn wsX11_earnest (wsV RX11 257 RX11 yX11_firstWalls wsX11_firstWalls) := goodIn_app (goodIn_of _ (by decide +kernel)) ggX11_earnest_X11_firstWalls
theorem ggX11_earnest_X11_safeBy : GoodIn wsX11_earnest wsX11_safeBy := gW_in gwX11_safeBy (fun _ h => List.mem_cons_of_mem _ (List.mem_append_right _ (List.mem_append_right _ (List.mem_append_right _ (List.mem_append_right _ (List.mem_append_right _ (List.mem_append_right _ (List.mem_append_left _ h))))))))
set_option maxRecDepth 20000 in
theorem gX11_earnest_X11_safeBy : GoodIn wsX11_earnest (wsV RX11 260 RX11 yX11_safeBy wsX11_safeBy) := goodIn_app (goodIn_of _ (by decide +kernel)) ggX11_earnest_X11_safeBy
theorem ggX11_earnest_X11_sureBy : GoodIn wsX11_earnest wsX11_sureBy := gW_in gwX11_sureBy (fun _ h => List.mem_cons_of_mem _ (List.mem_append_right _ (List.mem_append_right _ (List.mem_append_right _ (List.mem_append_right _ (List.mem_append_right _ (List.mem_append_right _ (List.mem_append_right _ (h)))))))))
set_option maxRecDepth 20000 in
theorem gX11_earnest_X11_sureBy : GoodIn wsX11_earnest (wsV RX11 263 RX11 yX11_sureBy wsX11_sureBy) := goodIn_app (goodIn_of _ (by decide +kernel)) ggX11_earnest_X11_sureBy
theorem dX11_earnest_0 : decode cX11_earnest 0 = .ok (.aload_n 0, 1) := by decide +kernel
theorem dX11_earnest_1 : decode cX11_earnest 1 = .ok (.iconst 0, 1) := by decide +kernel
theorem dX11_earnest_2 : decode cX11_earnest 2 = .ok (.putfield 85, 3) := by decide +kernel
theorem dX11_earnest_5 : decode cX11_earnest 5 = .ok (.aload_n 0, 1) := by decide +kernel
theorem dX11_earnest_6 : decode cX11_earnest 6 = .ok (.iload_n 1, 1) := by decide +kernel
theorem dX11_earnest_7 : decode cX11_earnest 7 = .ok (.iload_n 2, 1) := by decide +kernel
theorem dX11_earnest_8 : decode cX11_earnest 8 = .ok (.invokestatic 253, 3) := by decide +kernel
theorem dX11_earnest_11 : decode cX11_earnest 11 = .ok (.ifCond .eq 12, 3) := by decide +kernel
theorem dX11_earnest_14 : decode cX11_earnest 14 = .ok (.iload_n 3, 1) := by decide +kernel
theorem dX11_earnest_15 : decode cX11_earnest 15 = .ok (.iconst 0, 1) := by decide +kernel
theorem dX11_earnest_16 : decode cX11_earnest 16 = .ok (.iconst 1, 1) := by decide +kernel
theorem dX11_earnest_17 : decode cX11_earnest 17 = .ok (.invokestatic 119, 3) := by decide +kernel
theorem dX11_earnest_20 : decode cX11_earnest 20 = .ok (.ifCond .ne 7, 3) := by decide +kernel
theorem dX11_earnest_23 : decode cX11_earnest 23 = .ok (.iconst 1, 1) := by decide +kernel
theorem dX11_earnest_24 : decode cX11_earnest 24 = .ok (.goto 4, 3) := by decide +kernel
theorem dX11_earnest_27 : decode cX11_earnest 27 = .ok (.iconst 0, 1) := by decide +kernel
theorem dX11_earnest_28 : decode cX11_earnest 28 = .ok (.iconst 1, 1) := by decide +kernel
theorem dX11_earnest_29 : decode cX11_earnest 29 = .ok (.iconst 2, 1) := by decide +kernel
theorem dX11_earnest_30 : decode cX11_earnest 30 = .ok (.invokevirtual 151, 3) := by decide +kernel
theorem dX11_earnest_33 : decode cX11_earnest 33 = .ok (.ifCond .eq 5, 3) := by decide +kernel
theorem dX11_earnest_36 : decode cX11_earnest 36 = .ok (.iconst 0, 1) := by decide +kernel
theorem dX11_earnest_37 : decode cX11_earnest 37 = .ok (.ireturn, 1) := by decide +kernel
theorem dX11_earnest_38 : decode cX11_earnest 38 = .ok (.iload_n 3, 1) := by decide +kernel
theorem dX11_earnest_39 : decode cX11_earnest 39 = .ok (.ifCond .ne 16, 3) := by decide +kernel
theorem dX11_earnest_42 : decode cX11_earnest 42 = .ok (.aload_n 0, 1) := by decide +kernel
theorem dX11_earnest_43 : decode cX11_earnest 43 = .ok (.iload_n 1, 1) := by decide +kernel
theorem dX11_earnest_44 : decode cX11_earnest 44 = .ok (.iload_n 2, 1) := by decide +kernel
theorem dX11_earnest_45 : decode cX11_earnest 45 = .ok (.aload_n 0, 1) := by decide +kernel
theorem dX11_earnest_46 : decode cX11_earnest 46 = .ok (.invokevirtual 257, 3) := by decide +kernel
theorem dX11_earnest_49 : decode cX11_earnest 49 = .ok (.invokevirtual 260, 3) := by decide +kernel
theorem dX11_earnest_52 : decode cX11_earnest 52 = .ok (.goto 13, 3) := by decide +kernel
theorem dX11_earnest_55 : decode cX11_earnest 55 = .ok (.aload_n 0, 1) := by decide +kernel
theorem dX11_earnest_56 : decode cX11_earnest 56 = .ok (.iload_n 1, 1) := by decide +kernel
theorem dX11_earnest_57 : decode cX11_earnest 57 = .ok (.iload_n 2, 1) := by decide +kernel
theorem dX11_earnest_58 : decode cX11_earnest 58 = .ok (.aload_n 0, 1) := by decide +kernel
theorem dX11_earnest_59 : decode cX11_earnest 59 = .ok (.invokevirtual 257, 3) := by decide +kernel
theorem dX11_earnest_62 : decode cX11_earnest 62 = .ok (.invokevirtual 263, 3) := by decide +kernel
theorem dX11_earnest_65 : decode cX11_earnest 65 = .ok (.ireturn, 1) := by decide +kernel
theorem ggX11_stands_X11_areTens : GoodIn wsX11_stands wsX11_areTens := gW_in gwX11_areTens (fun _ h => List.mem_cons_of_mem _ (List.mem_append_right _ (List.mem_append_right _ (List.mem_append_left _ h))))
set_option maxRecDepth 20000 in
theorem gX11_stands_X11_areTens : GoodIn wsX11_stands (va_wsS RX11 253 yX11_areTens wsX11_areTens) := goodIn_app (goodIn_of _ (by decide +kernel)) ggX11_stands_X11_areTens
theorem ggX11_stands_X11_bad : GoodIn wsX11_stands wsX11_bad := gW_in gwX11_bad (fun _ h => List.mem_cons_of_mem _ (List.mem_append_right _ (List.mem_append_right _ (List.mem_append_right _ (List.mem_append_left _ h)))))
set_option maxRecDepth 20000 in
theorem gX11_stands_X11_bad : GoodIn wsX11_stands (wsV RX11 151 RX11 yX11_bad wsX11_bad) := goodIn_app (goodIn_of _ (by decide +kernel)) ggX11_stands_X11_bad
theorem ggX11_stands_X11_firstWalls : GoodIn wsX11_stands wsX11_firstWalls := gW_in gwX11_firstWalls (fun _ h => List.mem_cons_of_mem _ (List.mem_append_right _ (List.mem_append_right _ (List.mem_append_right _ (List.mem_append_right _ (List.mem_append_left _ h))))))
set_option maxRecDepth 20000 in
theorem gX11_stands_X11_firstWalls : GoodIn wsX11_stands (wsV RX11 257 RX11 yX11_firstWalls wsX11_firstWalls) := goodIn_app (goodIn_of _ (by decide +kernel)) ggX11_stands_X11_firstWalls
theorem ggX11_stands_X11_safeBy : GoodIn wsX11_stands wsX11_safeBy := gW_in gwX11_safeBy (fun _ h => List.mem_cons_of_mem _ (List.mem_append_right _ (List.mem_append_right _ (List.mem_append_right _ (List.mem_append_right _ (List.mem_append_right _ (List.mem_append_left _ h)))))))
set_option maxRecDepth 20000 in
theorem gX11_stands_X11_safeBy : GoodIn wsX11_stands (wsV RX11 260 RX11 yX11_safeBy wsX11_safeBy) := goodIn_app (goodIn_of _ (by decide +kernel)) ggX11_stands_X11_safeBy
theorem ggX11_stands_X11_less : GoodIn wsX11_stands wsX11_less := gW_in gwX11_less (fun _ h => List.mem_cons_of_mem _ (List.mem_append_right _ (List.mem_append_right _ (List.mem_append_right _ (List.mem_append_right _ (List.mem_append_right _ (List.mem_append_right _ (List.mem_append_left _ h))))))))
set_option maxRecDepth 20000 in
theorem gX11_stands_X11_less : GoodIn wsX11_stands (va_wsS RX11 186 yX11_less wsX11_less) := goodIn_app (goodIn_of _ (by decide +kernel)) ggX11_stands_X11_less
theorem ggX11_stands_X11_digit : GoodIn wsX11_stands wsX11_digit := gW_in gwX11_digit (fun _ h => List.mem_cons_of_mem _ (List.mem_append_right _ (List.mem_append_right _ (List.mem_append_right _ (List.mem_append_right _ (List.mem_append_right _ (List.mem_append_right _ (List.mem_append_right _ (h)))))))))
set_option maxRecDepth 20000 in
theorem gX11_stands_X11_digit : GoodIn wsX11_stands (va_wsS RX11 241 yX11_digit wsX11_digit) := goodIn_app (goodIn_of _ (by decide +kernel)) ggX11_stands_X11_digit
theorem dX11_stands_0 : decode cX11_stands 0 = .ok (.aload_n 0, 1) := by decide +kernel
theorem dX11_stands_1 : decode cX11_stands 1 = .ok (.iconst 0, 1) := by decide +kernel
theorem dX11_stands_2 : decode cX11_stands 2 = .ok (.putfield 85, 3) := by decide +kernel
theorem dX11_stands_5 : decode cX11_stands 5 = .ok (.aload_n 0, 1) := by decide +kernel
theorem dX11_stands_6 : decode cX11_stands 6 = .ok (.iload_n 1, 1) := by decide +kernel
theorem dX11_stands_7 : decode cX11_stands 7 = .ok (.iload_n 2, 1) := by decide +kernel
theorem dX11_stands_8 : decode cX11_stands 8 = .ok (.invokestatic 253, 3) := by decide +kernel
theorem dX11_stands_11 : decode cX11_stands 11 = .ok (.ifCond .ne 7, 3) := by decide +kernel
theorem dX11_stands_14 : decode cX11_stands 14 = .ok (.iconst 1, 1) := by decide +kernel
theorem dX11_stands_15 : decode cX11_stands 15 = .ok (.goto 4, 3) := by decide +kernel
theorem dX11_stands_18 : decode cX11_stands 18 = .ok (.iconst 0, 1) := by decide +kernel
theorem dX11_stands_19 : decode cX11_stands 19 = .ok (.iconst 1, 1) := by decide +kernel
theorem dX11_stands_20 : decode cX11_stands 20 = .ok (.iconst 2, 1) := by decide +kernel
theorem dX11_stands_21 : decode cX11_stands 21 = .ok (.invokevirtual 151, 3) := by decide +kernel
theorem dX11_stands_24 : decode cX11_stands 24 = .ok (.ifCond .eq 5, 3) := by decide +kernel
theorem dX11_stands_27 : decode cX11_stands 27 = .ok (.iconst 0, 1) := by decide +kernel
theorem dX11_stands_28 : decode cX11_stands 28 = .ok (.ireturn, 1) := by decide +kernel
theorem dX11_stands_29 : decode cX11_stands 29 = .ok (.aload_n 0, 1) := by decide +kernel
theorem dX11_stands_30 : decode cX11_stands 30 = .ok (.iload_n 1, 1) := by decide +kernel
theorem dX11_stands_31 : decode cX11_stands 31 = .ok (.iload_n 2, 1) := by decide +kernel
theorem dX11_stands_32 : decode cX11_stands 32 = .ok (.aload_n 0, 1) := by decide +kernel
theorem dX11_stands_33 : decode cX11_stands 33 = .ok (.invokevirtual 257, 3) := by decide +kernel
theorem dX11_stands_36 : decode cX11_stands 36 = .ok (.invokevirtual 260, 3) := by decide +kernel
theorem dX11_stands_39 : decode cX11_stands 39 = .ok (.pop, 1) := by decide +kernel
theorem dX11_stands_40 : decode cX11_stands 40 = .ok (.iconst 0, 1) := by decide +kernel
theorem dX11_stands_41 : decode cX11_stands 41 = .ok (.istore_n 3, 1) := by decide +kernel
theorem dX11_stands_42 : decode cX11_stands 42 = .ok (.iconst 0, 1) := by decide +kernel
theorem dX11_stands_43 : decode cX11_stands 43 = .ok (.istore 4, 2) := by decide +kernel
theorem dX11_stands_45 : decode cX11_stands 45 = .ok (.iload 4, 2) := by decide +kernel
theorem dX11_stands_47 : decode cX11_stands 47 = .ok (.iconst 3, 1) := by decide +kernel
theorem dX11_stands_48 : decode cX11_stands 48 = .ok (.aload_n 0, 1) := by decide +kernel
theorem dX11_stands_49 : decode cX11_stands 49 = .ok (.getfield 23, 3) := by decide +kernel
theorem dX11_stands_52 : decode cX11_stands 52 = .ok (.iconst 0, 1) := by decide +kernel
theorem dX11_stands_53 : decode cX11_stands 53 = .ok (.iaload, 1) := by decide +kernel
theorem dX11_stands_54 : decode cX11_stands 54 = .ok (.invokestatic 186, 3) := by decide +kernel
theorem dX11_stands_57 : decode cX11_stands 57 = .ok (.if_icmp .ge 24, 3) := by decide +kernel
theorem dX11_stands_60 : decode cX11_stands 60 = .ok (.bipush 10, 2) := by decide +kernel
theorem dX11_stands_62 : decode cX11_stands 62 = .ok (.iload_n 3, 1) := by decide +kernel
theorem dX11_stands_63 : decode cX11_stands 63 = .ok (.imul, 1) := by decide +kernel
theorem dX11_stands_64 : decode cX11_stands 64 = .ok (.aload_n 0, 1) := by decide +kernel
theorem dX11_stands_65 : decode cX11_stands 65 = .ok (.getfield 244, 3) := by decide +kernel
theorem dX11_stands_68 : decode cX11_stands 68 = .ok (.iload 4, 2) := by decide +kernel
theorem dX11_stands_70 : decode cX11_stands 70 = .ok (.invokestatic 241, 3) := by decide +kernel
theorem dX11_stands_73 : decode cX11_stands 73 = .ok (.iadd, 1) := by decide +kernel
theorem dX11_stands_74 : decode cX11_stands 74 = .ok (.istore_n 3, 1) := by decide +kernel
theorem dX11_stands_75 : decode cX11_stands 75 = .ok (.iinc 4 1, 3) := by decide +kernel
theorem dX11_stands_78 : decode cX11_stands 78 = .ok (.goto (-33), 3) := by decide +kernel
theorem dX11_stands_81 : decode cX11_stands 81 = .ok (.iload_n 3, 1) := by decide +kernel
theorem dX11_stands_82 : decode cX11_stands 82 = .ok (.ireturn, 1) := by decide +kernel
theorem ggX11_show_X11_areTens : GoodIn wsX11_show wsX11_areTens := gW_in gwX11_areTens (fun _ h => List.mem_cons_of_mem _ (List.mem_append_right _ (List.mem_append_right _ (List.mem_append_left _ h))))
set_option maxRecDepth 20000 in
theorem gX11_show_X11_areTens : GoodIn wsX11_show (va_wsS RX11 253 yX11_areTens wsX11_areTens) := goodIn_app (goodIn_of _ (by decide +kernel)) ggX11_show_X11_areTens
theorem ggX11_show_X11_bad : GoodIn wsX11_show wsX11_bad := gW_in gwX11_bad (fun _ h => List.mem_cons_of_mem _ (List.mem_append_right _ (List.mem_append_right _ (List.mem_append_right _ (List.mem_append_left _ h)))))
set_option maxRecDepth 20000 in
theorem gX11_show_X11_bad : GoodIn wsX11_show (wsV RX11 151 RX11 yX11_bad wsX11_bad) := goodIn_app (goodIn_of _ (by decide +kernel)) ggX11_show_X11_bad
theorem ggX11_show_X11_firstWalls : GoodIn wsX11_show wsX11_firstWalls := gW_in gwX11_firstWalls (fun _ h => List.mem_cons_of_mem _ (List.mem_append_right _ (List.mem_append_right _ (List.mem_append_right _ (List.mem_append_right _ (List.mem_append_left _ h))))))
set_option maxRecDepth 20000 in
theorem gX11_show_X11_firstWalls : GoodIn wsX11_show (wsV RX11 257 RX11 yX11_firstWalls wsX11_firstWalls) := goodIn_app (goodIn_of _ (by decide +kernel)) ggX11_show_X11_firstWalls
theorem ggX11_show_X11_safeBy : GoodIn wsX11_show wsX11_safeBy := gW_in gwX11_safeBy (fun _ h => List.mem_cons_of_mem _ (List.mem_append_right _ (List.mem_append_right _ (List.mem_append_right _ (List.mem_append_right _ (List.mem_append_right _ (h)))))))
set_option maxRecDepth 20000 in
theorem gX11_show_X11_safeBy : GoodIn wsX11_show (wsV RX11 260 RX11 yX11_safeBy wsX11_safeBy) := goodIn_app (goodIn_of _ (by decide +kernel)) ggX11_show_X11_safeBy
theorem dX11_show_0 : decode cX11_show 0 = .ok (.aload_n 0, 1) := by decide +kernel
theorem dX11_show_1 : decode cX11_show 1 = .ok (.iconst 0, 1) := by decide +kernel
theorem dX11_show_2 : decode cX11_show 2 = .ok (.putfield 85, 3) := by decide +kernel
theorem dX11_show_5 : decode cX11_show 5 = .ok (.aload_n 0, 1) := by decide +kernel
theorem dX11_show_6 : decode cX11_show 6 = .ok (.iload_n 1, 1) := by decide +kernel
theorem dX11_show_7 : decode cX11_show 7 = .ok (.iload_n 2, 1) := by decide +kernel
theorem dX11_show_8 : decode cX11_show 8 = .ok (.invokestatic 253, 3) := by decide +kernel
theorem dX11_show_11 : decode cX11_show 11 = .ok (.ifCond .ne 7, 3) := by decide +kernel
theorem dX11_show_14 : decode cX11_show 14 = .ok (.iconst 1, 1) := by decide +kernel
theorem dX11_show_15 : decode cX11_show 15 = .ok (.goto 4, 3) := by decide +kernel
theorem dX11_show_18 : decode cX11_show 18 = .ok (.iconst 0, 1) := by decide +kernel
theorem dX11_show_19 : decode cX11_show 19 = .ok (.iconst 1, 1) := by decide +kernel
theorem dX11_show_20 : decode cX11_show 20 = .ok (.iconst 2, 1) := by decide +kernel
theorem dX11_show_21 : decode cX11_show 21 = .ok (.invokevirtual 151, 3) := by decide +kernel
theorem dX11_show_24 : decode cX11_show 24 = .ok (.ifCond .eq 5, 3) := by decide +kernel
theorem dX11_show_27 : decode cX11_show 27 = .ok (.iconst 0, 1) := by decide +kernel
theorem dX11_show_28 : decode cX11_show 28 = .ok (.ireturn, 1) := by decide +kernel
theorem dX11_show_29 : decode cX11_show 29 = .ok (.aload_n 0, 1) := by decide +kernel
theorem dX11_show_30 : decode cX11_show 30 = .ok (.invokevirtual 257, 3) := by decide +kernel
theorem dX11_show_33 : decode cX11_show 33 = .ok (.istore_n 3, 1) := by decide +kernel
theorem dX11_show_34 : decode cX11_show 34 = .ok (.aload_n 0, 1) := by decide +kernel
theorem dX11_show_35 : decode cX11_show 35 = .ok (.iload_n 1, 1) := by decide +kernel
theorem dX11_show_36 : decode cX11_show 36 = .ok (.iload_n 2, 1) := by decide +kernel
theorem dX11_show_37 : decode cX11_show 37 = .ok (.iload_n 3, 1) := by decide +kernel
theorem dX11_show_38 : decode cX11_show 38 = .ok (.invokevirtual 260, 3) := by decide +kernel
theorem dX11_show_41 : decode cX11_show 41 = .ok (.istore 4, 2) := by decide +kernel
theorem dX11_show_43 : decode cX11_show 43 = .ok (.iconst 0, 1) := by decide +kernel
theorem dX11_show_44 : decode cX11_show 44 = .ok (.istore 5, 2) := by decide +kernel
theorem dX11_show_46 : decode cX11_show 46 = .ok (.iconst 0, 1) := by decide +kernel
theorem dX11_show_47 : decode cX11_show 47 = .ok (.istore 6, 2) := by decide +kernel
theorem dX11_show_49 : decode cX11_show 49 = .ok (.iload 6, 2) := by decide +kernel
theorem dX11_show_51 : decode cX11_show 51 = .ok (.iconst 3, 1) := by decide +kernel
theorem dX11_show_52 : decode cX11_show 52 = .ok (.if_icmp .ge 47, 3) := by decide +kernel
theorem dX11_show_55 : decode cX11_show 55 = .ok (.iload_n 3, 1) := by decide +kernel
theorem dX11_show_56 : decode cX11_show 56 = .ok (.iload 6, 2) := by decide +kernel
theorem dX11_show_58 : decode cX11_show 58 = .ok (.ishr, 1) := by decide +kernel
theorem dX11_show_59 : decode cX11_show 59 = .ok (.iconst 1, 1) := by decide +kernel
theorem dX11_show_60 : decode cX11_show 60 = .ok (.iand, 1) := by decide +kernel
theorem dX11_show_61 : decode cX11_show 61 = .ok (.iconst 1, 1) := by decide +kernel
theorem dX11_show_62 : decode cX11_show 62 = .ok (.if_icmp .ne 31, 3) := by decide +kernel
theorem dX11_show_65 : decode cX11_show 65 = .ok (.aload_n 0, 1) := by decide +kernel
theorem dX11_show_66 : decode cX11_show 66 = .ok (.iload_n 1, 1) := by decide +kernel
theorem dX11_show_67 : decode cX11_show 67 = .ok (.iload_n 2, 1) := by decide +kernel
theorem dX11_show_68 : decode cX11_show 68 = .ok (.iload_n 3, 1) := by decide +kernel
theorem dX11_show_69 : decode cX11_show 69 = .ok (.iconst 1, 1) := by decide +kernel
theorem dX11_show_70 : decode cX11_show 70 = .ok (.iload 6, 2) := by decide +kernel
theorem dX11_show_72 : decode cX11_show 72 = .ok (.ishl, 1) := by decide +kernel
theorem dX11_show_73 : decode cX11_show 73 = .ok (.iconst (-1), 1) := by decide +kernel
theorem dX11_show_74 : decode cX11_show 74 = .ok (.ixor, 1) := by decide +kernel
theorem dX11_show_75 : decode cX11_show 75 = .ok (.iand, 1) := by decide +kernel
theorem dX11_show_76 : decode cX11_show 76 = .ok (.invokevirtual 260, 3) := by decide +kernel
theorem dX11_show_79 : decode cX11_show 79 = .ok (.iload 4, 2) := by decide +kernel
theorem dX11_show_81 : decode cX11_show 81 = .ok (.if_icmp .ne 12, 3) := by decide +kernel
theorem dX11_show_84 : decode cX11_show 84 = .ok (.iload 5, 2) := by decide +kernel
theorem dX11_show_86 : decode cX11_show 86 = .ok (.iconst 1, 1) := by decide +kernel
theorem dX11_show_87 : decode cX11_show 87 = .ok (.iload 6, 2) := by decide +kernel
theorem dX11_show_89 : decode cX11_show 89 = .ok (.ishl, 1) := by decide +kernel
theorem dX11_show_90 : decode cX11_show 90 = .ok (.ior, 1) := by decide +kernel
theorem dX11_show_91 : decode cX11_show 91 = .ok (.istore 5, 2) := by decide +kernel
theorem dX11_show_93 : decode cX11_show 93 = .ok (.iinc 6 1, 3) := by decide +kernel
theorem dX11_show_96 : decode cX11_show 96 = .ok (.goto (-47), 3) := by decide +kernel
theorem dX11_show_99 : decode cX11_show 99 = .ok (.iload 5, 2) := by decide +kernel
theorem dX11_show_101 : decode cX11_show 101 = .ok (.ireturn, 1) := by decide +kernel
theorem ggX11_offers_X11_in : GoodIn wsX11_offers wsX11_in := gW_in gwX11_in (fun _ h => List.mem_cons_of_mem _ (List.mem_append_right _ (List.mem_append_right _ (List.mem_append_left _ h))))
set_option maxRecDepth 20000 in
theorem gX11_offers_X11_in : GoodIn wsX11_offers (va_wsS RX11 119 yX11_in wsX11_in) := goodIn_app (goodIn_of _ (by decide +kernel)) ggX11_offers_X11_in
theorem ggX11_offers_X11_bad : GoodIn wsX11_offers wsX11_bad := gW_in gwX11_bad (fun _ h => List.mem_cons_of_mem _ (List.mem_append_right _ (List.mem_append_right _ (List.mem_append_right _ (h)))))
set_option maxRecDepth 20000 in
theorem gX11_offers_X11_bad : GoodIn wsX11_offers (wsV RX11 151 RX11 yX11_bad wsX11_bad) := goodIn_app (goodIn_of _ (by decide +kernel)) ggX11_offers_X11_bad
theorem dX11_offers_0 : decode cX11_offers 0 = .ok (.aload_n 0, 1) := by decide +kernel
theorem dX11_offers_1 : decode cX11_offers 1 = .ok (.iconst 0, 1) := by decide +kernel
theorem dX11_offers_2 : decode cX11_offers 2 = .ok (.putfield 85, 3) := by decide +kernel
theorem dX11_offers_5 : decode cX11_offers 5 = .ok (.aload_n 0, 1) := by decide +kernel
theorem dX11_offers_6 : decode cX11_offers 6 = .ok (.iload_n 1, 1) := by decide +kernel
theorem dX11_offers_7 : decode cX11_offers 7 = .ok (.iconst 1, 1) := by decide +kernel
theorem dX11_offers_8 : decode cX11_offers 8 = .ok (.iconst 2, 1) := by decide +kernel
theorem dX11_offers_9 : decode cX11_offers 9 = .ok (.invokestatic 119, 3) := by decide +kernel
theorem dX11_offers_12 : decode cX11_offers 12 = .ok (.ifCond .eq 24, 3) := by decide +kernel
theorem dX11_offers_15 : decode cX11_offers 15 = .ok (.iload_n 2, 1) := by decide +kernel
theorem dX11_offers_16 : decode cX11_offers 16 = .ok (.iconst 0, 1) := by decide +kernel
theorem dX11_offers_17 : decode cX11_offers 17 = .ok (.bipush 11, 2) := by decide +kernel
theorem dX11_offers_19 : decode cX11_offers 19 = .ok (.invokestatic 119, 3) := by decide +kernel
theorem dX11_offers_22 : decode cX11_offers 22 = .ok (.ifCond .eq 14, 3) := by decide +kernel
theorem dX11_offers_25 : decode cX11_offers 25 = .ok (.iload_n 3, 1) := by decide +kernel
theorem dX11_offers_26 : decode cX11_offers 26 = .ok (.iconst 0, 1) := by decide +kernel
theorem dX11_offers_27 : decode cX11_offers 27 = .ok (.sipush 999, 3) := by decide +kernel
theorem dX11_offers_30 : decode cX11_offers 30 = .ok (.invokestatic 119, 3) := by decide +kernel
theorem dX11_offers_33 : decode cX11_offers 33 = .ok (.ifCond .ne 7, 3) := by decide +kernel
theorem dX11_offers_36 : decode cX11_offers 36 = .ok (.iconst 1, 1) := by decide +kernel
theorem dX11_offers_37 : decode cX11_offers 37 = .ok (.goto 4, 3) := by decide +kernel
theorem dX11_offers_40 : decode cX11_offers 40 = .ok (.iconst 0, 1) := by decide +kernel
theorem dX11_offers_41 : decode cX11_offers 41 = .ok (.iconst 1, 1) := by decide +kernel
theorem dX11_offers_42 : decode cX11_offers 42 = .ok (.iconst 2, 1) := by decide +kernel
theorem dX11_offers_43 : decode cX11_offers 43 = .ok (.invokevirtual 151, 3) := by decide +kernel
theorem dX11_offers_46 : decode cX11_offers 46 = .ok (.ifCond .eq 5, 3) := by decide +kernel
theorem dX11_offers_49 : decode cX11_offers 49 = .ok (.iconst 0, 1) := by decide +kernel
theorem dX11_offers_50 : decode cX11_offers 50 = .ok (.ireturn, 1) := by decide +kernel
theorem dX11_offers_51 : decode cX11_offers 51 = .ok (.aload_n 0, 1) := by decide +kernel
theorem dX11_offers_52 : decode cX11_offers 52 = .ok (.getfield 70, 3) := by decide +kernel
theorem dX11_offers_55 : decode cX11_offers 55 = .ok (.iload_n 1, 1) := by decide +kernel
theorem dX11_offers_56 : decode cX11_offers 56 = .ok (.iconst 1, 1) := by decide +kernel
theorem dX11_offers_57 : decode cX11_offers 57 = .ok (.isub, 1) := by decide +kernel
theorem dX11_offers_58 : decode cX11_offers 58 = .ok (.aaload, 1) := by decide +kernel
theorem dX11_offers_59 : decode cX11_offers 59 = .ok (.iload_n 2, 1) := by decide +kernel
theorem dX11_offers_60 : decode cX11_offers 60 = .ok (.iaload, 1) := by decide +kernel
theorem dX11_offers_61 : decode cX11_offers 61 = .ok (.istore 4, 2) := by decide +kernel
theorem dX11_offers_63 : decode cX11_offers 63 = .ok (.aload_n 0, 1) := by decide +kernel
theorem dX11_offers_64 : decode cX11_offers 64 = .ok (.getfield 70, 3) := by decide +kernel
theorem dX11_offers_67 : decode cX11_offers 67 = .ok (.iload_n 1, 1) := by decide +kernel
theorem dX11_offers_68 : decode cX11_offers 68 = .ok (.iconst 1, 1) := by decide +kernel
theorem dX11_offers_69 : decode cX11_offers 69 = .ok (.isub, 1) := by decide +kernel
theorem dX11_offers_70 : decode cX11_offers 70 = .ok (.aaload, 1) := by decide +kernel
theorem dX11_offers_71 : decode cX11_offers 71 = .ok (.iload_n 2, 1) := by decide +kernel
theorem dX11_offers_72 : decode cX11_offers 72 = .ok (.iload_n 3, 1) := by decide +kernel
theorem dX11_offers_73 : decode cX11_offers 73 = .ok (.iastore, 1) := by decide +kernel
theorem dX11_offers_74 : decode cX11_offers 74 = .ok (.iload 4, 2) := by decide +kernel
theorem dX11_offers_76 : decode cX11_offers 76 = .ok (.ireturn, 1) := by decide +kernel
theorem ggX11_laysRest_X11_mayServe : GoodIn wsX11_laysRest wsX11_mayServe := gW_in gwX11_mayServe (fun _ h => List.mem_cons_of_mem _ (List.mem_append_right _ (List.mem_append_right _ (h))))
set_option maxRecDepth 20000 in
theorem gX11_laysRest_X11_mayServe : GoodIn wsX11_laysRest (va_wsS RX11 266 yX11_mayServe wsX11_mayServe) := goodIn_app (goodIn_of _ (by decide +kernel)) ggX11_laysRest_X11_mayServe
theorem dX11_laysRest_0 : decode cX11_laysRest 0 = .ok (.iconst 0, 1) := by decide +kernel
theorem dX11_laysRest_1 : decode cX11_laysRest 1 = .ok (.istore_n 1, 1) := by decide +kernel
theorem dX11_laysRest_2 : decode cX11_laysRest 2 = .ok (.iload_n 1, 1) := by decide +kernel
theorem dX11_laysRest_3 : decode cX11_laysRest 3 = .ok (.iconst 3, 1) := by decide +kernel
theorem dX11_laysRest_4 : decode cX11_laysRest 4 = .ok (.if_icmp .ge 19, 3) := by decide +kernel
theorem dX11_laysRest_7 : decode cX11_laysRest 7 = .ok (.aload_n 0, 1) := by decide +kernel
theorem dX11_laysRest_8 : decode cX11_laysRest 8 = .ok (.getfield 76, 3) := by decide +kernel
theorem dX11_laysRest_11 : decode cX11_laysRest 11 = .ok (.bipush 12, 2) := by decide +kernel
theorem dX11_laysRest_13 : decode cX11_laysRest 13 = .ok (.aaload, 1) := by decide +kernel
theorem dX11_laysRest_14 : decode cX11_laysRest 14 = .ok (.iload_n 1, 1) := by decide +kernel
theorem dX11_laysRest_15 : decode cX11_laysRest 15 = .ok (.iconst 0, 1) := by decide +kernel
theorem dX11_laysRest_16 : decode cX11_laysRest 16 = .ok (.iastore, 1) := by decide +kernel
theorem dX11_laysRest_17 : decode cX11_laysRest 17 = .ok (.iinc 1 1, 3) := by decide +kernel
theorem dX11_laysRest_20 : decode cX11_laysRest 20 = .ok (.goto (-18), 3) := by decide +kernel
theorem dX11_laysRest_23 : decode cX11_laysRest 23 = .ok (.bipush 11, 2) := by decide +kernel
theorem dX11_laysRest_25 : decode cX11_laysRest 25 = .ok (.istore_n 1, 1) := by decide +kernel
theorem dX11_laysRest_26 : decode cX11_laysRest 26 = .ok (.iload_n 1, 1) := by decide +kernel
theorem dX11_laysRest_27 : decode cX11_laysRest 27 = .ok (.ifCond .lt 107, 3) := by decide +kernel
theorem dX11_laysRest_30 : decode cX11_laysRest 30 = .ok (.iconst 0, 1) := by decide +kernel
theorem dX11_laysRest_31 : decode cX11_laysRest 31 = .ok (.istore_n 2, 1) := by decide +kernel
theorem dX11_laysRest_32 : decode cX11_laysRest 32 = .ok (.iload_n 2, 1) := by decide +kernel
theorem dX11_laysRest_33 : decode cX11_laysRest 33 = .ok (.iconst 3, 1) := by decide +kernel
theorem dX11_laysRest_34 : decode cX11_laysRest 34 = .ok (.if_icmp .ge 94, 3) := by decide +kernel
theorem dX11_laysRest_37 : decode cX11_laysRest 37 = .ok (.iconst 0, 1) := by decide +kernel
theorem dX11_laysRest_38 : decode cX11_laysRest 38 = .ok (.istore_n 3, 1) := by decide +kernel
theorem dX11_laysRest_39 : decode cX11_laysRest 39 = .ok (.iconst 0, 1) := by decide +kernel
theorem dX11_laysRest_40 : decode cX11_laysRest 40 = .ok (.istore 4, 2) := by decide +kernel
theorem dX11_laysRest_42 : decode cX11_laysRest 42 = .ok (.iload 4, 2) := by decide +kernel
theorem dX11_laysRest_44 : decode cX11_laysRest 44 = .ok (.iconst 3, 1) := by decide +kernel
theorem dX11_laysRest_45 : decode cX11_laysRest 45 = .ok (.if_icmp .ge 49, 3) := by decide +kernel
theorem dX11_laysRest_48 : decode cX11_laysRest 48 = .ok (.iload_n 2, 1) := by decide +kernel
theorem dX11_laysRest_49 : decode cX11_laysRest 49 = .ok (.iload 4, 2) := by decide +kernel
theorem dX11_laysRest_51 : decode cX11_laysRest 51 = .ok (.invokestatic 266, 3) := by decide +kernel
theorem dX11_laysRest_54 : decode cX11_laysRest 54 = .ok (.ifCond .eq 34, 3) := by decide +kernel
theorem dX11_laysRest_57 : decode cX11_laysRest 57 = .ok (.aload_n 0, 1) := by decide +kernel
theorem dX11_laysRest_58 : decode cX11_laysRest 58 = .ok (.getfield 76, 3) := by decide +kernel
theorem dX11_laysRest_61 : decode cX11_laysRest 61 = .ok (.iload_n 1, 1) := by decide +kernel
theorem dX11_laysRest_62 : decode cX11_laysRest 62 = .ok (.iconst 1, 1) := by decide +kernel
theorem dX11_laysRest_63 : decode cX11_laysRest 63 = .ok (.iadd, 1) := by decide +kernel
theorem dX11_laysRest_64 : decode cX11_laysRest 64 = .ok (.aaload, 1) := by decide +kernel
theorem dX11_laysRest_65 : decode cX11_laysRest 65 = .ok (.iload 4, 2) := by decide +kernel
theorem dX11_laysRest_67 : decode cX11_laysRest 67 = .ok (.iaload, 1) := by decide +kernel
theorem dX11_laysRest_68 : decode cX11_laysRest 68 = .ok (.iload_n 3, 1) := by decide +kernel
theorem dX11_laysRest_69 : decode cX11_laysRest 69 = .ok (.if_icmp .le 17, 3) := by decide +kernel
theorem dX11_laysRest_72 : decode cX11_laysRest 72 = .ok (.aload_n 0, 1) := by decide +kernel
theorem dX11_laysRest_73 : decode cX11_laysRest 73 = .ok (.getfield 76, 3) := by decide +kernel
theorem dX11_laysRest_76 : decode cX11_laysRest 76 = .ok (.iload_n 1, 1) := by decide +kernel
theorem dX11_laysRest_77 : decode cX11_laysRest 77 = .ok (.iconst 1, 1) := by decide +kernel
theorem dX11_laysRest_78 : decode cX11_laysRest 78 = .ok (.iadd, 1) := by decide +kernel
theorem dX11_laysRest_79 : decode cX11_laysRest 79 = .ok (.aaload, 1) := by decide +kernel
theorem dX11_laysRest_80 : decode cX11_laysRest 80 = .ok (.iload 4, 2) := by decide +kernel
theorem dX11_laysRest_82 : decode cX11_laysRest 82 = .ok (.iaload, 1) := by decide +kernel
theorem dX11_laysRest_83 : decode cX11_laysRest 83 = .ok (.goto 4, 3) := by decide +kernel
theorem dX11_laysRest_86 : decode cX11_laysRest 86 = .ok (.iload_n 3, 1) := by decide +kernel
theorem dX11_laysRest_87 : decode cX11_laysRest 87 = .ok (.istore_n 3, 1) := by decide +kernel
theorem dX11_laysRest_88 : decode cX11_laysRest 88 = .ok (.iinc 4 1, 3) := by decide +kernel
theorem dX11_laysRest_91 : decode cX11_laysRest 91 = .ok (.goto (-49), 3) := by decide +kernel
theorem dX11_laysRest_94 : decode cX11_laysRest 94 = .ok (.aload_n 0, 1) := by decide +kernel
theorem dX11_laysRest_95 : decode cX11_laysRest 95 = .ok (.getfield 76, 3) := by decide +kernel
theorem dX11_laysRest_98 : decode cX11_laysRest 98 = .ok (.iload_n 1, 1) := by decide +kernel
theorem dX11_laysRest_99 : decode cX11_laysRest 99 = .ok (.aaload, 1) := by decide +kernel
theorem dX11_laysRest_100 : decode cX11_laysRest 100 = .ok (.iload_n 2, 1) := by decide +kernel
theorem dX11_laysRest_101 : decode cX11_laysRest 101 = .ok (.iload_n 3, 1) := by decide +kernel
theorem dX11_laysRest_102 : decode cX11_laysRest 102 = .ok (.iload_n 2, 1) := by decide +kernel
theorem dX11_laysRest_103 : decode cX11_laysRest 103 = .ok (.ifCond .ne 7, 3) := by decide +kernel
theorem dX11_laysRest_106 : decode cX11_laysRest 106 = .ok (.iconst 0, 1) := by decide +kernel
theorem dX11_laysRest_107 : decode cX11_laysRest 107 = .ok (.goto 13, 3) := by decide +kernel
theorem dX11_laysRest_110 : decode cX11_laysRest 110 = .ok (.aload_n 0, 1) := by decide +kernel
theorem dX11_laysRest_111 : decode cX11_laysRest 111 = .ok (.getfield 70, 3) := by decide +kernel
theorem dX11_laysRest_114 : decode cX11_laysRest 114 = .ok (.iload_n 2, 1) := by decide +kernel
theorem dX11_laysRest_115 : decode cX11_laysRest 115 = .ok (.iconst 1, 1) := by decide +kernel
theorem dX11_laysRest_116 : decode cX11_laysRest 116 = .ok (.isub, 1) := by decide +kernel
theorem dX11_laysRest_117 : decode cX11_laysRest 117 = .ok (.aaload, 1) := by decide +kernel
theorem dX11_laysRest_118 : decode cX11_laysRest 118 = .ok (.iload_n 1, 1) := by decide +kernel
theorem dX11_laysRest_119 : decode cX11_laysRest 119 = .ok (.iaload, 1) := by decide +kernel
theorem dX11_laysRest_120 : decode cX11_laysRest 120 = .ok (.iadd, 1) := by decide +kernel
theorem dX11_laysRest_121 : decode cX11_laysRest 121 = .ok (.iastore, 1) := by decide +kernel
theorem dX11_laysRest_122 : decode cX11_laysRest 122 = .ok (.iinc 2 1, 3) := by decide +kernel
theorem dX11_laysRest_125 : decode cX11_laysRest 125 = .ok (.goto (-93), 3) := by decide +kernel
theorem dX11_laysRest_128 : decode cX11_laysRest 128 = .ok (.iinc 1 (-1), 3) := by decide +kernel
theorem dX11_laysRest_131 : decode cX11_laysRest 131 = .ok (.goto (-105), 3) := by decide +kernel
theorem dX11_laysRest_134 : decode cX11_laysRest 134 = .ok (.return_, 1) := by decide +kernel
theorem dX11_mayServe_0 : decode cX11_mayServe 0 = .ok (.iload_n 0, 1) := by decide +kernel
theorem dX11_mayServe_1 : decode cX11_mayServe 1 = .ok (.ifCond .eq 12, 3) := by decide +kernel
theorem dX11_mayServe_4 : decode cX11_mayServe 4 = .ok (.iload_n 1, 1) := by decide +kernel
theorem dX11_mayServe_5 : decode cX11_mayServe 5 = .ok (.ifCond .eq 8, 3) := by decide +kernel
theorem dX11_mayServe_8 : decode cX11_mayServe 8 = .ok (.iload_n 0, 1) := by decide +kernel
theorem dX11_mayServe_9 : decode cX11_mayServe 9 = .ok (.iload_n 1, 1) := by decide +kernel
theorem dX11_mayServe_10 : decode cX11_mayServe 10 = .ok (.if_icmp .ne 7, 3) := by decide +kernel
theorem dX11_mayServe_13 : decode cX11_mayServe 13 = .ok (.iconst 1, 1) := by decide +kernel
theorem dX11_mayServe_14 : decode cX11_mayServe 14 = .ok (.goto 4, 3) := by decide +kernel
theorem dX11_mayServe_17 : decode cX11_mayServe 17 = .ok (.iconst 0, 1) := by decide +kernel
theorem dX11_mayServe_18 : decode cX11_mayServe 18 = .ok (.ireturn, 1) := by decide +kernel
theorem ggX11_mostNow_X11_laysRest : GoodIn wsX11_mostNow wsX11_laysRest := gW_in gwX11_laysRest (fun _ h => List.mem_cons_of_mem _ (List.mem_append_right _ (List.mem_append_right _ (h))))
set_option maxRecDepth 20000 in
theorem gX11_mostNow_X11_laysRest : GoodIn wsX11_mostNow (wsV RX11 269 RX11 yX11_laysRest wsX11_laysRest) := goodIn_app (goodIn_of _ (by decide +kernel)) ggX11_mostNow_X11_laysRest
theorem dX11_mostNow_0 : decode cX11_mostNow 0 = .ok (.aload_n 0, 1) := by decide +kernel
theorem dX11_mostNow_1 : decode cX11_mostNow 1 = .ok (.invokevirtual 269, 3) := by decide +kernel
theorem dX11_mostNow_4 : decode cX11_mostNow 4 = .ok (.aload_n 0, 1) := by decide +kernel
theorem dX11_mostNow_5 : decode cX11_mostNow 5 = .ok (.getfield 76, 3) := by decide +kernel
theorem dX11_mostNow_8 : decode cX11_mostNow 8 = .ok (.iconst 0, 1) := by decide +kernel
theorem dX11_mostNow_9 : decode cX11_mostNow 9 = .ok (.aaload, 1) := by decide +kernel
theorem dX11_mostNow_10 : decode cX11_mostNow 10 = .ok (.iconst 0, 1) := by decide +kernel
theorem dX11_mostNow_11 : decode cX11_mostNow 11 = .ok (.iaload, 1) := by decide +kernel
theorem dX11_mostNow_12 : decode cX11_mostNow 12 = .ok (.istore_n 1, 1) := by decide +kernel
theorem dX11_mostNow_13 : decode cX11_mostNow 13 = .ok (.iconst 1, 1) := by decide +kernel
theorem dX11_mostNow_14 : decode cX11_mostNow 14 = .ok (.istore_n 2, 1) := by decide +kernel
theorem dX11_mostNow_15 : decode cX11_mostNow 15 = .ok (.iload_n 2, 1) := by decide +kernel
theorem dX11_mostNow_16 : decode cX11_mostNow 16 = .ok (.iconst 3, 1) := by decide +kernel
theorem dX11_mostNow_17 : decode cX11_mostNow 17 = .ok (.if_icmp .ge 34, 3) := by decide +kernel
theorem dX11_mostNow_20 : decode cX11_mostNow 20 = .ok (.aload_n 0, 1) := by decide +kernel
theorem dX11_mostNow_21 : decode cX11_mostNow 21 = .ok (.getfield 76, 3) := by decide +kernel
theorem dX11_mostNow_24 : decode cX11_mostNow 24 = .ok (.iconst 0, 1) := by decide +kernel
theorem dX11_mostNow_25 : decode cX11_mostNow 25 = .ok (.aaload, 1) := by decide +kernel
theorem dX11_mostNow_26 : decode cX11_mostNow 26 = .ok (.iload_n 2, 1) := by decide +kernel
theorem dX11_mostNow_27 : decode cX11_mostNow 27 = .ok (.iaload, 1) := by decide +kernel
theorem dX11_mostNow_28 : decode cX11_mostNow 28 = .ok (.iload_n 1, 1) := by decide +kernel
theorem dX11_mostNow_29 : decode cX11_mostNow 29 = .ok (.if_icmp .le 14, 3) := by decide +kernel
theorem dX11_mostNow_32 : decode cX11_mostNow 32 = .ok (.aload_n 0, 1) := by decide +kernel
theorem dX11_mostNow_33 : decode cX11_mostNow 33 = .ok (.getfield 76, 3) := by decide +kernel
theorem dX11_mostNow_36 : decode cX11_mostNow 36 = .ok (.iconst 0, 1) := by decide +kernel
theorem dX11_mostNow_37 : decode cX11_mostNow 37 = .ok (.aaload, 1) := by decide +kernel
theorem dX11_mostNow_38 : decode cX11_mostNow 38 = .ok (.iload_n 2, 1) := by decide +kernel
theorem dX11_mostNow_39 : decode cX11_mostNow 39 = .ok (.iaload, 1) := by decide +kernel
theorem dX11_mostNow_40 : decode cX11_mostNow 40 = .ok (.goto 4, 3) := by decide +kernel
theorem dX11_mostNow_43 : decode cX11_mostNow 43 = .ok (.iload_n 1, 1) := by decide +kernel
theorem dX11_mostNow_44 : decode cX11_mostNow 44 = .ok (.istore_n 1, 1) := by decide +kernel
theorem dX11_mostNow_45 : decode cX11_mostNow 45 = .ok (.iinc 2 1, 3) := by decide +kernel
theorem dX11_mostNow_48 : decode cX11_mostNow 48 = .ok (.goto (-33), 3) := by decide +kernel
theorem dX11_mostNow_51 : decode cX11_mostNow 51 = .ok (.iload_n 1, 1) := by decide +kernel
theorem dX11_mostNow_52 : decode cX11_mostNow 52 = .ok (.ireturn, 1) := by decide +kernel
theorem ggX11_most_X11_mostNow : GoodIn wsX11_most wsX11_mostNow := gW_in gwX11_mostNow (fun _ h => List.mem_cons_of_mem _ (List.mem_append_right _ (List.mem_append_right _ (h))))
set_option maxRecDepth 20000 in
theorem gX11_most_X11_mostNow : GoodIn wsX11_most (wsV RX11 272 RX11 yX11_mostNow wsX11_mostNow) := goodIn_app (goodIn_of _ (by decide +kernel)) ggX11_most_X11_mostNow
theorem dX11_most_0 : decode cX11_most 0 = .ok (.aload_n 0, 1) := by decide +kernel
theorem dX11_most_1 : decode cX11_most 1 = .ok (.iconst 0, 1) := by decide +kernel
theorem dX11_most_2 : decode cX11_most 2 = .ok (.putfield 85, 3) := by decide +kernel
theorem dX11_most_5 : decode cX11_most 5 = .ok (.aload_n 0, 1) := by decide +kernel
theorem dX11_most_6 : decode cX11_most 6 = .ok (.invokevirtual 272, 3) := by decide +kernel
theorem dX11_most_9 : decode cX11_most 9 = .ok (.ireturn, 1) := by decide +kernel
theorem ggX11_serves_X11_in : GoodIn wsX11_serves wsX11_in := gW_in gwX11_in (fun _ h => List.mem_cons_of_mem _ (List.mem_append_right _ (List.mem_append_right _ (List.mem_append_left _ h))))
set_option maxRecDepth 20000 in
theorem gX11_serves_X11_in : GoodIn wsX11_serves (va_wsS RX11 119 yX11_in wsX11_in) := goodIn_app (goodIn_of _ (by decide +kernel)) ggX11_serves_X11_in
theorem ggX11_serves_X11_bad : GoodIn wsX11_serves wsX11_bad := gW_in gwX11_bad (fun _ h => List.mem_cons_of_mem _ (List.mem_append_right _ (List.mem_append_right _ (List.mem_append_right _ (List.mem_append_left _ h)))))
set_option maxRecDepth 20000 in
theorem gX11_serves_X11_bad : GoodIn wsX11_serves (wsV RX11 151 RX11 yX11_bad wsX11_bad) := goodIn_app (goodIn_of _ (by decide +kernel)) ggX11_serves_X11_bad
theorem ggX11_serves_X11_mostNow : GoodIn wsX11_serves wsX11_mostNow := gW_in gwX11_mostNow (fun _ h => List.mem_cons_of_mem _ (List.mem_append_right _ (List.mem_append_right _ (List.mem_append_right _ (List.mem_append_right _ (List.mem_append_left _ h))))))
set_option maxRecDepth 20000 in
theorem gX11_serves_X11_mostNow : GoodIn wsX11_serves (wsV RX11 272 RX11 yX11_mostNow wsX11_mostNow) := goodIn_app (goodIn_of _ (by decide +kernel)) ggX11_serves_X11_mostNow
theorem ggX11_serves_X11_mayServe : GoodIn wsX11_serves wsX11_mayServe := gW_in gwX11_mayServe (fun _ h => List.mem_cons_of_mem _ (List.mem_append_right _ (List.mem_append_right _ (List.mem_append_right _ (List.mem_append_right _ (List.mem_append_right _ (h)))))))
set_option maxRecDepth 20000 in
theorem gX11_serves_X11_mayServe : GoodIn wsX11_serves (va_wsS RX11 266 yX11_mayServe wsX11_mayServe) := goodIn_app (goodIn_of _ (by decide +kernel)) ggX11_serves_X11_mayServe
theorem dX11_serves_0 : decode cX11_serves 0 = .ok (.aload_n 0, 1) := by decide +kernel
theorem dX11_serves_1 : decode cX11_serves 1 = .ok (.iconst 0, 1) := by decide +kernel
theorem dX11_serves_2 : decode cX11_serves 2 = .ok (.putfield 85, 3) := by decide +kernel
theorem dX11_serves_5 : decode cX11_serves 5 = .ok (.aload_n 0, 1) := by decide +kernel
theorem dX11_serves_6 : decode cX11_serves 6 = .ok (.iload_n 1, 1) := by decide +kernel
theorem dX11_serves_7 : decode cX11_serves 7 = .ok (.iconst 0, 1) := by decide +kernel
theorem dX11_serves_8 : decode cX11_serves 8 = .ok (.bipush 11, 2) := by decide +kernel
theorem dX11_serves_10 : decode cX11_serves 10 = .ok (.invokestatic 119, 3) := by decide +kernel
theorem dX11_serves_13 : decode cX11_serves 13 = .ok (.ifCond .ne 7, 3) := by decide +kernel
theorem dX11_serves_16 : decode cX11_serves 16 = .ok (.iconst 1, 1) := by decide +kernel
theorem dX11_serves_17 : decode cX11_serves 17 = .ok (.goto 4, 3) := by decide +kernel
theorem dX11_serves_20 : decode cX11_serves 20 = .ok (.iconst 0, 1) := by decide +kernel
theorem dX11_serves_21 : decode cX11_serves 21 = .ok (.iconst 1, 1) := by decide +kernel
theorem dX11_serves_22 : decode cX11_serves 22 = .ok (.iconst 2, 1) := by decide +kernel
theorem dX11_serves_23 : decode cX11_serves 23 = .ok (.invokevirtual 151, 3) := by decide +kernel
theorem dX11_serves_26 : decode cX11_serves 26 = .ok (.ifCond .eq 5, 3) := by decide +kernel
theorem dX11_serves_29 : decode cX11_serves 29 = .ok (.iconst 0, 1) := by decide +kernel
theorem dX11_serves_30 : decode cX11_serves 30 = .ok (.ireturn, 1) := by decide +kernel
theorem dX11_serves_31 : decode cX11_serves 31 = .ok (.aload_n 0, 1) := by decide +kernel
theorem dX11_serves_32 : decode cX11_serves 32 = .ok (.invokevirtual 272, 3) := by decide +kernel
theorem dX11_serves_35 : decode cX11_serves 35 = .ok (.istore_n 2, 1) := by decide +kernel
theorem dX11_serves_36 : decode cX11_serves 36 = .ok (.iconst 0, 1) := by decide +kernel
theorem dX11_serves_37 : decode cX11_serves 37 = .ok (.istore_n 3, 1) := by decide +kernel
theorem dX11_serves_38 : decode cX11_serves 38 = .ok (.iconst 0, 1) := by decide +kernel
theorem dX11_serves_39 : decode cX11_serves 39 = .ok (.istore 4, 2) := by decide +kernel
theorem dX11_serves_41 : decode cX11_serves 41 = .ok (.iconst 0, 1) := by decide +kernel
theorem dX11_serves_42 : decode cX11_serves 42 = .ok (.istore 5, 2) := by decide +kernel
theorem dX11_serves_44 : decode cX11_serves 44 = .ok (.iload 5, 2) := by decide +kernel
theorem dX11_serves_46 : decode cX11_serves 46 = .ok (.iload_n 1, 1) := by decide +kernel
theorem dX11_serves_47 : decode cX11_serves 47 = .ok (.if_icmp .gt 68, 3) := by decide +kernel
theorem dX11_serves_50 : decode cX11_serves 50 = .ok (.iconst 0, 1) := by decide +kernel
theorem dX11_serves_51 : decode cX11_serves 51 = .ok (.istore 4, 2) := by decide +kernel
theorem dX11_serves_53 : decode cX11_serves 53 = .ok (.iload_n 3, 1) := by decide +kernel
theorem dX11_serves_54 : decode cX11_serves 54 = .ok (.iload 4, 2) := by decide +kernel
theorem dX11_serves_56 : decode cX11_serves 56 = .ok (.invokestatic 266, 3) := by decide +kernel
theorem dX11_serves_59 : decode cX11_serves 59 = .ok (.ifCond .eq 17, 3) := by decide +kernel
theorem dX11_serves_62 : decode cX11_serves 62 = .ok (.aload_n 0, 1) := by decide +kernel
theorem dX11_serves_63 : decode cX11_serves 63 = .ok (.getfield 76, 3) := by decide +kernel
theorem dX11_serves_66 : decode cX11_serves 66 = .ok (.iload 5, 2) := by decide +kernel
theorem dX11_serves_68 : decode cX11_serves 68 = .ok (.aaload, 1) := by decide +kernel
theorem dX11_serves_69 : decode cX11_serves 69 = .ok (.iload 4, 2) := by decide +kernel
theorem dX11_serves_71 : decode cX11_serves 71 = .ok (.iaload, 1) := by decide +kernel
theorem dX11_serves_72 : decode cX11_serves 72 = .ok (.iload_n 2, 1) := by decide +kernel
theorem dX11_serves_73 : decode cX11_serves 73 = .ok (.if_icmp .eq 9, 3) := by decide +kernel
theorem dX11_serves_76 : decode cX11_serves 76 = .ok (.iinc 4 1, 3) := by decide +kernel
theorem dX11_serves_79 : decode cX11_serves 79 = .ok (.goto (-26), 3) := by decide +kernel
theorem dX11_serves_82 : decode cX11_serves 82 = .ok (.iload_n 2, 1) := by decide +kernel
theorem dX11_serves_83 : decode cX11_serves 83 = .ok (.iload 4, 2) := by decide +kernel
theorem dX11_serves_85 : decode cX11_serves 85 = .ok (.ifCond .ne 7, 3) := by decide +kernel
theorem dX11_serves_88 : decode cX11_serves 88 = .ok (.iconst 0, 1) := by decide +kernel
theorem dX11_serves_89 : decode cX11_serves 89 = .ok (.goto 15, 3) := by decide +kernel
theorem dX11_serves_92 : decode cX11_serves 92 = .ok (.aload_n 0, 1) := by decide +kernel
theorem dX11_serves_93 : decode cX11_serves 93 = .ok (.getfield 70, 3) := by decide +kernel
theorem dX11_serves_96 : decode cX11_serves 96 = .ok (.iload 4, 2) := by decide +kernel
theorem dX11_serves_98 : decode cX11_serves 98 = .ok (.iconst 1, 1) := by decide +kernel
theorem dX11_serves_99 : decode cX11_serves 99 = .ok (.isub, 1) := by decide +kernel
theorem dX11_serves_100 : decode cX11_serves 100 = .ok (.aaload, 1) := by decide +kernel
theorem dX11_serves_101 : decode cX11_serves 101 = .ok (.iload 5, 2) := by decide +kernel
theorem dX11_serves_103 : decode cX11_serves 103 = .ok (.iaload, 1) := by decide +kernel
theorem dX11_serves_104 : decode cX11_serves 104 = .ok (.isub, 1) := by decide +kernel
theorem dX11_serves_105 : decode cX11_serves 105 = .ok (.istore_n 2, 1) := by decide +kernel
theorem dX11_serves_106 : decode cX11_serves 106 = .ok (.iload 4, 2) := by decide +kernel
theorem dX11_serves_108 : decode cX11_serves 108 = .ok (.istore_n 3, 1) := by decide +kernel
theorem dX11_serves_109 : decode cX11_serves 109 = .ok (.iinc 5 1, 3) := by decide +kernel
theorem dX11_serves_112 : decode cX11_serves 112 = .ok (.goto (-68), 3) := by decide +kernel
theorem dX11_serves_115 : decode cX11_serves 115 = .ok (.iload 4, 2) := by decide +kernel
theorem dX11_serves_117 : decode cX11_serves 117 = .ok (.ireturn, 1) := by decide +kernel
theorem dX11_moves_0 : decode cX11_moves 0 = .ok (.iload_n 3, 1) := by decide +kernel
theorem dX11_moves_1 : decode cX11_moves 1 = .ok (.ifCond .ne 10, 3) := by decide +kernel
theorem dX11_moves_4 : decode cX11_moves 4 = .ok (.aload_n 1, 1) := by decide +kernel
theorem dX11_moves_5 : decode cX11_moves 5 = .ok (.aload_n 0, 1) := by decide +kernel
theorem dX11_moves_6 : decode cX11_moves 6 = .ok (.getfield 275, 3) := by decide +kernel
theorem dX11_moves_9 : decode cX11_moves 9 = .ok (.iload_n 2, 1) := by decide +kernel
theorem dX11_moves_10 : decode cX11_moves 10 = .ok (.iastore, 1) := by decide +kernel
theorem dX11_moves_11 : decode cX11_moves 11 = .ok (.aload_n 0, 1) := by decide +kernel
theorem dX11_moves_12 : decode cX11_moves 12 = .ok (.dup, 1) := by decide +kernel
theorem dX11_moves_13 : decode cX11_moves 13 = .ok (.getfield 275, 3) := by decide +kernel
theorem dX11_moves_16 : decode cX11_moves 16 = .ok (.iconst 1, 1) := by decide +kernel
theorem dX11_moves_17 : decode cX11_moves 17 = .ok (.iadd, 1) := by decide +kernel
theorem dX11_moves_18 : decode cX11_moves 18 = .ok (.putfield 275, 3) := by decide +kernel
theorem dX11_moves_21 : decode cX11_moves 21 = .ok (.aload_n 1, 1) := by decide +kernel
theorem dX11_moves_22 : decode cX11_moves 22 = .ok (.aload_n 0, 1) := by decide +kernel
theorem dX11_moves_23 : decode cX11_moves 23 = .ok (.getfield 275, 3) := by decide +kernel
theorem dX11_moves_26 : decode cX11_moves 26 = .ok (.iconst 1, 1) := by decide +kernel
theorem dX11_moves_27 : decode cX11_moves 27 = .ok (.isub, 1) := by decide +kernel
theorem dX11_moves_28 : decode cX11_moves 28 = .ok (.iaload, 1) := by decide +kernel
theorem dX11_moves_29 : decode cX11_moves 29 = .ok (.ireturn, 1) := by decide +kernel
theorem ggX11_movesAll_X11_moves : GoodIn wsX11_movesAll wsX11_moves := gW_in gwX11_moves (fun _ h => List.mem_cons_of_mem _ (List.mem_append_right _ (List.mem_append_right _ (h))))
set_option maxRecDepth 20000 in
theorem gX11_movesAll_X11_moves : GoodIn wsX11_movesAll (wsV RX11 278 RX11 yX11_moves wsX11_moves) := goodIn_app (goodIn_of _ (by decide +kernel)) ggX11_movesAll_X11_moves
theorem dX11_movesAll_0 : decode cX11_movesAll 0 = .ok (.aload_n 0, 1) := by decide +kernel
theorem dX11_movesAll_1 : decode cX11_movesAll 1 = .ok (.iconst 0, 1) := by decide +kernel
theorem dX11_movesAll_2 : decode cX11_movesAll 2 = .ok (.putfield 275, 3) := by decide +kernel
theorem dX11_movesAll_5 : decode cX11_movesAll 5 = .ok (.aload_n 0, 1) := by decide +kernel
theorem dX11_movesAll_6 : decode cX11_movesAll 6 = .ok (.aload_n 0, 1) := by decide +kernel
theorem dX11_movesAll_7 : decode cX11_movesAll 7 = .ok (.aload_n 1, 1) := by decide +kernel
theorem dX11_movesAll_8 : decode cX11_movesAll 8 = .ok (.aload_n 0, 1) := by decide +kernel
theorem dX11_movesAll_9 : decode cX11_movesAll 9 = .ok (.getfield 58, 3) := by decide +kernel
theorem dX11_movesAll_12 : decode cX11_movesAll 12 = .ok (.iload_n 2, 1) := by decide +kernel
theorem dX11_movesAll_13 : decode cX11_movesAll 13 = .ok (.invokevirtual 278, 3) := by decide +kernel
theorem dX11_movesAll_16 : decode cX11_movesAll 16 = .ok (.putfield 58, 3) := by decide +kernel
theorem dX11_movesAll_19 : decode cX11_movesAll 19 = .ok (.aload_n 0, 1) := by decide +kernel
theorem dX11_movesAll_20 : decode cX11_movesAll 20 = .ok (.aload_n 0, 1) := by decide +kernel
theorem dX11_movesAll_21 : decode cX11_movesAll 21 = .ok (.aload_n 1, 1) := by decide +kernel
theorem dX11_movesAll_22 : decode cX11_movesAll 22 = .ok (.aload_n 0, 1) := by decide +kernel
theorem dX11_movesAll_23 : decode cX11_movesAll 23 = .ok (.getfield 61, 3) := by decide +kernel
theorem dX11_movesAll_26 : decode cX11_movesAll 26 = .ok (.iload_n 2, 1) := by decide +kernel
theorem dX11_movesAll_27 : decode cX11_movesAll 27 = .ok (.invokevirtual 278, 3) := by decide +kernel
theorem dX11_movesAll_30 : decode cX11_movesAll 30 = .ok (.putfield 61, 3) := by decide +kernel
theorem dX11_movesAll_33 : decode cX11_movesAll 33 = .ok (.aload_n 0, 1) := by decide +kernel
theorem dX11_movesAll_34 : decode cX11_movesAll 34 = .ok (.aload_n 0, 1) := by decide +kernel
theorem dX11_movesAll_35 : decode cX11_movesAll 35 = .ok (.aload_n 1, 1) := by decide +kernel
theorem dX11_movesAll_36 : decode cX11_movesAll 36 = .ok (.aload_n 0, 1) := by decide +kernel
theorem dX11_movesAll_37 : decode cX11_movesAll 37 = .ok (.getfield 165, 3) := by decide +kernel
theorem dX11_movesAll_40 : decode cX11_movesAll 40 = .ok (.iload_n 2, 1) := by decide +kernel
theorem dX11_movesAll_41 : decode cX11_movesAll 41 = .ok (.invokevirtual 278, 3) := by decide +kernel
theorem dX11_movesAll_44 : decode cX11_movesAll 44 = .ok (.putfield 165, 3) := by decide +kernel
theorem dX11_movesAll_47 : decode cX11_movesAll 47 = .ok (.iconst 0, 1) := by decide +kernel
theorem dX11_movesAll_48 : decode cX11_movesAll 48 = .ok (.istore_n 3, 1) := by decide +kernel
theorem dX11_movesAll_49 : decode cX11_movesAll 49 = .ok (.iload_n 3, 1) := by decide +kernel
theorem dX11_movesAll_50 : decode cX11_movesAll 50 = .ok (.iconst 4, 1) := by decide +kernel
theorem dX11_movesAll_51 : decode cX11_movesAll 51 = .ok (.if_icmp .ge 48, 3) := by decide +kernel
theorem dX11_movesAll_54 : decode cX11_movesAll 54 = .ok (.iconst 0, 1) := by decide +kernel
theorem dX11_movesAll_55 : decode cX11_movesAll 55 = .ok (.istore 4, 2) := by decide +kernel
theorem dX11_movesAll_57 : decode cX11_movesAll 57 = .ok (.iload 4, 2) := by decide +kernel
theorem dX11_movesAll_59 : decode cX11_movesAll 59 = .ok (.iconst 2, 1) := by decide +kernel
theorem dX11_movesAll_60 : decode cX11_movesAll 60 = .ok (.if_icmp .ge 33, 3) := by decide +kernel
theorem dX11_movesAll_63 : decode cX11_movesAll 63 = .ok (.aload_n 0, 1) := by decide +kernel
theorem dX11_movesAll_64 : decode cX11_movesAll 64 = .ok (.getfield 64, 3) := by decide +kernel
theorem dX11_movesAll_67 : decode cX11_movesAll 67 = .ok (.iload_n 3, 1) := by decide +kernel
theorem dX11_movesAll_68 : decode cX11_movesAll 68 = .ok (.aaload, 1) := by decide +kernel
theorem dX11_movesAll_69 : decode cX11_movesAll 69 = .ok (.iload 4, 2) := by decide +kernel
theorem dX11_movesAll_71 : decode cX11_movesAll 71 = .ok (.aload_n 0, 1) := by decide +kernel
theorem dX11_movesAll_72 : decode cX11_movesAll 72 = .ok (.aload_n 1, 1) := by decide +kernel
theorem dX11_movesAll_73 : decode cX11_movesAll 73 = .ok (.aload_n 0, 1) := by decide +kernel
theorem dX11_movesAll_74 : decode cX11_movesAll 74 = .ok (.getfield 64, 3) := by decide +kernel
theorem dX11_movesAll_77 : decode cX11_movesAll 77 = .ok (.iload_n 3, 1) := by decide +kernel
theorem dX11_movesAll_78 : decode cX11_movesAll 78 = .ok (.aaload, 1) := by decide +kernel
theorem dX11_movesAll_79 : decode cX11_movesAll 79 = .ok (.iload 4, 2) := by decide +kernel
theorem dX11_movesAll_81 : decode cX11_movesAll 81 = .ok (.iaload, 1) := by decide +kernel
theorem dX11_movesAll_82 : decode cX11_movesAll 82 = .ok (.iload_n 2, 1) := by decide +kernel
theorem dX11_movesAll_83 : decode cX11_movesAll 83 = .ok (.invokevirtual 278, 3) := by decide +kernel
theorem dX11_movesAll_86 : decode cX11_movesAll 86 = .ok (.iastore, 1) := by decide +kernel
theorem dX11_movesAll_87 : decode cX11_movesAll 87 = .ok (.iinc 4 1, 3) := by decide +kernel
theorem dX11_movesAll_90 : decode cX11_movesAll 90 = .ok (.goto (-33), 3) := by decide +kernel
theorem dX11_movesAll_93 : decode cX11_movesAll 93 = .ok (.iinc 3 1, 3) := by decide +kernel
theorem dX11_movesAll_96 : decode cX11_movesAll 96 = .ok (.goto (-47), 3) := by decide +kernel
theorem dX11_movesAll_99 : decode cX11_movesAll 99 = .ok (.iconst 0, 1) := by decide +kernel
theorem dX11_movesAll_100 : decode cX11_movesAll 100 = .ok (.istore_n 3, 1) := by decide +kernel
theorem dX11_movesAll_101 : decode cX11_movesAll 101 = .ok (.iload_n 3, 1) := by decide +kernel
theorem dX11_movesAll_102 : decode cX11_movesAll 102 = .ok (.bipush 12, 2) := by decide +kernel
theorem dX11_movesAll_104 : decode cX11_movesAll 104 = .ok (.if_icmp .ge 48, 3) := by decide +kernel
theorem dX11_movesAll_107 : decode cX11_movesAll 107 = .ok (.iconst 0, 1) := by decide +kernel
theorem dX11_movesAll_108 : decode cX11_movesAll 108 = .ok (.istore 4, 2) := by decide +kernel
theorem dX11_movesAll_110 : decode cX11_movesAll 110 = .ok (.iload 4, 2) := by decide +kernel
theorem dX11_movesAll_112 : decode cX11_movesAll 112 = .ok (.iconst 2, 1) := by decide +kernel
theorem dX11_movesAll_113 : decode cX11_movesAll 113 = .ok (.if_icmp .ge 33, 3) := by decide +kernel
theorem dX11_movesAll_116 : decode cX11_movesAll 116 = .ok (.aload_n 0, 1) := by decide +kernel
theorem dX11_movesAll_117 : decode cX11_movesAll 117 = .ok (.getfield 67, 3) := by decide +kernel
theorem dX11_movesAll_120 : decode cX11_movesAll 120 = .ok (.iload_n 3, 1) := by decide +kernel
theorem dX11_movesAll_121 : decode cX11_movesAll 121 = .ok (.aaload, 1) := by decide +kernel
theorem dX11_movesAll_122 : decode cX11_movesAll 122 = .ok (.iload 4, 2) := by decide +kernel
theorem dX11_movesAll_124 : decode cX11_movesAll 124 = .ok (.aload_n 0, 1) := by decide +kernel
theorem dX11_movesAll_125 : decode cX11_movesAll 125 = .ok (.aload_n 1, 1) := by decide +kernel
theorem dX11_movesAll_126 : decode cX11_movesAll 126 = .ok (.aload_n 0, 1) := by decide +kernel
theorem dX11_movesAll_127 : decode cX11_movesAll 127 = .ok (.getfield 67, 3) := by decide +kernel
theorem dX11_movesAll_130 : decode cX11_movesAll 130 = .ok (.iload_n 3, 1) := by decide +kernel
theorem dX11_movesAll_131 : decode cX11_movesAll 131 = .ok (.aaload, 1) := by decide +kernel
theorem dX11_movesAll_132 : decode cX11_movesAll 132 = .ok (.iload 4, 2) := by decide +kernel
theorem dX11_movesAll_134 : decode cX11_movesAll 134 = .ok (.iaload, 1) := by decide +kernel
theorem dX11_movesAll_135 : decode cX11_movesAll 135 = .ok (.iload_n 2, 1) := by decide +kernel
theorem dX11_movesAll_136 : decode cX11_movesAll 136 = .ok (.invokevirtual 278, 3) := by decide +kernel
theorem dX11_movesAll_139 : decode cX11_movesAll 139 = .ok (.iastore, 1) := by decide +kernel
theorem dX11_movesAll_140 : decode cX11_movesAll 140 = .ok (.iinc 4 1, 3) := by decide +kernel
theorem dX11_movesAll_143 : decode cX11_movesAll 143 = .ok (.goto (-33), 3) := by decide +kernel
theorem dX11_movesAll_146 : decode cX11_movesAll 146 = .ok (.iinc 3 1, 3) := by decide +kernel
theorem dX11_movesAll_149 : decode cX11_movesAll 149 = .ok (.goto (-48), 3) := by decide +kernel
theorem dX11_movesAll_152 : decode cX11_movesAll 152 = .ok (.iconst 0, 1) := by decide +kernel
theorem dX11_movesAll_153 : decode cX11_movesAll 153 = .ok (.istore_n 3, 1) := by decide +kernel
theorem dX11_movesAll_154 : decode cX11_movesAll 154 = .ok (.iload_n 3, 1) := by decide +kernel
theorem dX11_movesAll_155 : decode cX11_movesAll 155 = .ok (.bipush 12, 2) := by decide +kernel
theorem dX11_movesAll_157 : decode cX11_movesAll 157 = .ok (.if_icmp .ge 48, 3) := by decide +kernel
theorem dX11_movesAll_160 : decode cX11_movesAll 160 = .ok (.iconst 0, 1) := by decide +kernel
theorem dX11_movesAll_161 : decode cX11_movesAll 161 = .ok (.istore 4, 2) := by decide +kernel
theorem dX11_movesAll_163 : decode cX11_movesAll 163 = .ok (.iload 4, 2) := by decide +kernel
theorem dX11_movesAll_165 : decode cX11_movesAll 165 = .ok (.iconst 2, 1) := by decide +kernel
theorem dX11_movesAll_166 : decode cX11_movesAll 166 = .ok (.if_icmp .ge 33, 3) := by decide +kernel
theorem dX11_movesAll_169 : decode cX11_movesAll 169 = .ok (.aload_n 0, 1) := by decide +kernel
theorem dX11_movesAll_170 : decode cX11_movesAll 170 = .ok (.getfield 70, 3) := by decide +kernel
theorem dX11_movesAll_173 : decode cX11_movesAll 173 = .ok (.iload 4, 2) := by decide +kernel
theorem dX11_movesAll_175 : decode cX11_movesAll 175 = .ok (.aaload, 1) := by decide +kernel
theorem dX11_movesAll_176 : decode cX11_movesAll 176 = .ok (.iload_n 3, 1) := by decide +kernel
theorem dX11_movesAll_177 : decode cX11_movesAll 177 = .ok (.aload_n 0, 1) := by decide +kernel
theorem dX11_movesAll_178 : decode cX11_movesAll 178 = .ok (.aload_n 1, 1) := by decide +kernel
theorem dX11_movesAll_179 : decode cX11_movesAll 179 = .ok (.aload_n 0, 1) := by decide +kernel
theorem dX11_movesAll_180 : decode cX11_movesAll 180 = .ok (.getfield 70, 3) := by decide +kernel
theorem dX11_movesAll_183 : decode cX11_movesAll 183 = .ok (.iload 4, 2) := by decide +kernel
theorem dX11_movesAll_185 : decode cX11_movesAll 185 = .ok (.aaload, 1) := by decide +kernel
theorem dX11_movesAll_186 : decode cX11_movesAll 186 = .ok (.iload_n 3, 1) := by decide +kernel
theorem dX11_movesAll_187 : decode cX11_movesAll 187 = .ok (.iaload, 1) := by decide +kernel
theorem dX11_movesAll_188 : decode cX11_movesAll 188 = .ok (.iload_n 2, 1) := by decide +kernel
theorem dX11_movesAll_189 : decode cX11_movesAll 189 = .ok (.invokevirtual 278, 3) := by decide +kernel
theorem dX11_movesAll_192 : decode cX11_movesAll 192 = .ok (.iastore, 1) := by decide +kernel
theorem dX11_movesAll_193 : decode cX11_movesAll 193 = .ok (.iinc 4 1, 3) := by decide +kernel
theorem dX11_movesAll_196 : decode cX11_movesAll 196 = .ok (.goto (-33), 3) := by decide +kernel
theorem dX11_movesAll_199 : decode cX11_movesAll 199 = .ok (.iinc 3 1, 3) := by decide +kernel
theorem dX11_movesAll_202 : decode cX11_movesAll 202 = .ok (.goto (-48), 3) := by decide +kernel
theorem dX11_movesAll_205 : decode cX11_movesAll 205 = .ok (.iconst 0, 1) := by decide +kernel
theorem dX11_movesAll_206 : decode cX11_movesAll 206 = .ok (.istore_n 3, 1) := by decide +kernel
theorem dX11_movesAll_207 : decode cX11_movesAll 207 = .ok (.iload_n 3, 1) := by decide +kernel
theorem dX11_movesAll_208 : decode cX11_movesAll 208 = .ok (.bipush 25, 2) := by decide +kernel
theorem dX11_movesAll_210 : decode cX11_movesAll 210 = .ok (.if_icmp .ge 27, 3) := by decide +kernel
theorem dX11_movesAll_213 : decode cX11_movesAll 213 = .ok (.aload_n 0, 1) := by decide +kernel
theorem dX11_movesAll_214 : decode cX11_movesAll 214 = .ok (.getfield 46, 3) := by decide +kernel
theorem dX11_movesAll_217 : decode cX11_movesAll 217 = .ok (.iload_n 3, 1) := by decide +kernel
theorem dX11_movesAll_218 : decode cX11_movesAll 218 = .ok (.aload_n 0, 1) := by decide +kernel
theorem dX11_movesAll_219 : decode cX11_movesAll 219 = .ok (.aload_n 1, 1) := by decide +kernel
theorem dX11_movesAll_220 : decode cX11_movesAll 220 = .ok (.aload_n 0, 1) := by decide +kernel
theorem dX11_movesAll_221 : decode cX11_movesAll 221 = .ok (.getfield 46, 3) := by decide +kernel
theorem dX11_movesAll_224 : decode cX11_movesAll 224 = .ok (.iload_n 3, 1) := by decide +kernel
theorem dX11_movesAll_225 : decode cX11_movesAll 225 = .ok (.iaload, 1) := by decide +kernel
theorem dX11_movesAll_226 : decode cX11_movesAll 226 = .ok (.iload_n 2, 1) := by decide +kernel
theorem dX11_movesAll_227 : decode cX11_movesAll 227 = .ok (.invokevirtual 278, 3) := by decide +kernel
theorem dX11_movesAll_230 : decode cX11_movesAll 230 = .ok (.iastore, 1) := by decide +kernel
theorem dX11_movesAll_231 : decode cX11_movesAll 231 = .ok (.iinc 3 1, 3) := by decide +kernel
theorem dX11_movesAll_234 : decode cX11_movesAll 234 = .ok (.goto (-27), 3) := by decide +kernel
theorem dX11_movesAll_237 : decode cX11_movesAll 237 = .ok (.iconst 0, 1) := by decide +kernel
theorem dX11_movesAll_238 : decode cX11_movesAll 238 = .ok (.istore_n 3, 1) := by decide +kernel
theorem dX11_movesAll_239 : decode cX11_movesAll 239 = .ok (.iload_n 3, 1) := by decide +kernel
theorem dX11_movesAll_240 : decode cX11_movesAll 240 = .ok (.bipush 120, 2) := by decide +kernel
theorem dX11_movesAll_242 : decode cX11_movesAll 242 = .ok (.if_icmp .gt 49, 3) := by decide +kernel
theorem dX11_movesAll_245 : decode cX11_movesAll 245 = .ok (.iconst 0, 1) := by decide +kernel
theorem dX11_movesAll_246 : decode cX11_movesAll 246 = .ok (.istore 4, 2) := by decide +kernel
theorem dX11_movesAll_248 : decode cX11_movesAll 248 = .ok (.iload 4, 2) := by decide +kernel
theorem dX11_movesAll_250 : decode cX11_movesAll 250 = .ok (.bipush 25, 2) := by decide +kernel
theorem dX11_movesAll_252 : decode cX11_movesAll 252 = .ok (.if_icmp .ge 33, 3) := by decide +kernel
theorem dX11_movesAll_255 : decode cX11_movesAll 255 = .ok (.aload_n 0, 1) := by decide +kernel
theorem dX11_movesAll_256 : decode cX11_movesAll 256 = .ok (.getfield 52, 3) := by decide +kernel
theorem dX11_movesAll_259 : decode cX11_movesAll 259 = .ok (.iload_n 3, 1) := by decide +kernel
theorem dX11_movesAll_260 : decode cX11_movesAll 260 = .ok (.aaload, 1) := by decide +kernel
theorem dX11_movesAll_261 : decode cX11_movesAll 261 = .ok (.iload 4, 2) := by decide +kernel
theorem dX11_movesAll_263 : decode cX11_movesAll 263 = .ok (.aload_n 0, 1) := by decide +kernel
theorem dX11_movesAll_264 : decode cX11_movesAll 264 = .ok (.aload_n 1, 1) := by decide +kernel
theorem dX11_movesAll_265 : decode cX11_movesAll 265 = .ok (.aload_n 0, 1) := by decide +kernel
theorem dX11_movesAll_266 : decode cX11_movesAll 266 = .ok (.getfield 52, 3) := by decide +kernel
theorem dX11_movesAll_269 : decode cX11_movesAll 269 = .ok (.iload_n 3, 1) := by decide +kernel
theorem dX11_movesAll_270 : decode cX11_movesAll 270 = .ok (.aaload, 1) := by decide +kernel
theorem dX11_movesAll_271 : decode cX11_movesAll 271 = .ok (.iload 4, 2) := by decide +kernel
theorem dX11_movesAll_273 : decode cX11_movesAll 273 = .ok (.iaload, 1) := by decide +kernel
theorem dX11_movesAll_274 : decode cX11_movesAll 274 = .ok (.iload_n 2, 1) := by decide +kernel
theorem dX11_movesAll_275 : decode cX11_movesAll 275 = .ok (.invokevirtual 278, 3) := by decide +kernel
theorem dX11_movesAll_278 : decode cX11_movesAll 278 = .ok (.iastore, 1) := by decide +kernel
theorem dX11_movesAll_279 : decode cX11_movesAll 279 = .ok (.iinc 4 1, 3) := by decide +kernel
theorem dX11_movesAll_282 : decode cX11_movesAll 282 = .ok (.goto (-34), 3) := by decide +kernel
theorem dX11_movesAll_285 : decode cX11_movesAll 285 = .ok (.iinc 3 1, 3) := by decide +kernel
theorem dX11_movesAll_288 : decode cX11_movesAll 288 = .ok (.goto (-49), 3) := by decide +kernel
theorem dX11_movesAll_291 : decode cX11_movesAll 291 = .ok (.iconst 0, 1) := by decide +kernel
theorem dX11_movesAll_292 : decode cX11_movesAll 292 = .ok (.istore_n 3, 1) := by decide +kernel
theorem dX11_movesAll_293 : decode cX11_movesAll 293 = .ok (.iload_n 3, 1) := by decide +kernel
theorem dX11_movesAll_294 : decode cX11_movesAll 294 = .ok (.bipush 120, 2) := by decide +kernel
theorem dX11_movesAll_296 : decode cX11_movesAll 296 = .ok (.if_icmp .ge 49, 3) := by decide +kernel
theorem dX11_movesAll_299 : decode cX11_movesAll 299 = .ok (.iconst 0, 1) := by decide +kernel
theorem dX11_movesAll_300 : decode cX11_movesAll 300 = .ok (.istore 4, 2) := by decide +kernel
theorem dX11_movesAll_302 : decode cX11_movesAll 302 = .ok (.iload 4, 2) := by decide +kernel
theorem dX11_movesAll_304 : decode cX11_movesAll 304 = .ok (.bipush 6, 2) := by decide +kernel
theorem dX11_movesAll_306 : decode cX11_movesAll 306 = .ok (.if_icmp .ge 33, 3) := by decide +kernel
theorem dX11_movesAll_309 : decode cX11_movesAll 309 = .ok (.aload_n 0, 1) := by decide +kernel
theorem dX11_movesAll_310 : decode cX11_movesAll 310 = .ok (.getfield 55, 3) := by decide +kernel
theorem dX11_movesAll_313 : decode cX11_movesAll 313 = .ok (.iload_n 3, 1) := by decide +kernel
theorem dX11_movesAll_314 : decode cX11_movesAll 314 = .ok (.aaload, 1) := by decide +kernel
theorem dX11_movesAll_315 : decode cX11_movesAll 315 = .ok (.iload 4, 2) := by decide +kernel
theorem dX11_movesAll_317 : decode cX11_movesAll 317 = .ok (.aload_n 0, 1) := by decide +kernel
theorem dX11_movesAll_318 : decode cX11_movesAll 318 = .ok (.aload_n 1, 1) := by decide +kernel
theorem dX11_movesAll_319 : decode cX11_movesAll 319 = .ok (.aload_n 0, 1) := by decide +kernel
theorem dX11_movesAll_320 : decode cX11_movesAll 320 = .ok (.getfield 55, 3) := by decide +kernel
theorem dX11_movesAll_323 : decode cX11_movesAll 323 = .ok (.iload_n 3, 1) := by decide +kernel
theorem dX11_movesAll_324 : decode cX11_movesAll 324 = .ok (.aaload, 1) := by decide +kernel
theorem dX11_movesAll_325 : decode cX11_movesAll 325 = .ok (.iload 4, 2) := by decide +kernel
theorem dX11_movesAll_327 : decode cX11_movesAll 327 = .ok (.iaload, 1) := by decide +kernel
theorem dX11_movesAll_328 : decode cX11_movesAll 328 = .ok (.iload_n 2, 1) := by decide +kernel
theorem dX11_movesAll_329 : decode cX11_movesAll 329 = .ok (.invokevirtual 278, 3) := by decide +kernel
theorem dX11_movesAll_332 : decode cX11_movesAll 332 = .ok (.iastore, 1) := by decide +kernel
theorem dX11_movesAll_333 : decode cX11_movesAll 333 = .ok (.iinc 4 1, 3) := by decide +kernel
theorem dX11_movesAll_336 : decode cX11_movesAll 336 = .ok (.goto (-34), 3) := by decide +kernel
theorem dX11_movesAll_339 : decode cX11_movesAll 339 = .ok (.iinc 3 1, 3) := by decide +kernel
theorem dX11_movesAll_342 : decode cX11_movesAll 342 = .ok (.goto (-49), 3) := by decide +kernel
theorem dX11_movesAll_345 : decode cX11_movesAll 345 = .ok (.return_, 1) := by decide +kernel
theorem ggX11_image_X11_movesAll : GoodIn wsX11_image wsX11_movesAll := gW_in gwX11_movesAll (fun _ h => List.mem_cons_of_mem _ (List.mem_append_right _ (List.mem_append_right _ (h))))
set_option maxRecDepth 20000 in
theorem gX11_image_X11_movesAll : GoodIn wsX11_image (wsV RX11 282 RX11 yX11_movesAll wsX11_movesAll) := goodIn_app (goodIn_of _ (by decide +kernel)) ggX11_image_X11_movesAll
theorem dX11_image_0 : decode cX11_image 0 = .ok (.aload_n 0, 1) := by decide +kernel
theorem dX11_image_1 : decode cX11_image 1 = .ok (.iconst 0, 1) := by decide +kernel
theorem dX11_image_2 : decode cX11_image 2 = .ok (.putfield 85, 3) := by decide +kernel
theorem dX11_image_5 : decode cX11_image 5 = .ok (.aload_n 0, 1) := by decide +kernel
theorem dX11_image_6 : decode cX11_image 6 = .ok (.getfield 168, 3) := by decide +kernel
theorem dX11_image_9 : decode cX11_image 9 = .ok (.iconst 3, 1) := by decide +kernel
theorem dX11_image_10 : decode cX11_image 10 = .ok (.if_icmp .ne 5, 3) := by decide +kernel
theorem dX11_image_13 : decode cX11_image 13 = .ok (.iconst (-1), 1) := by decide +kernel
theorem dX11_image_14 : decode cX11_image 14 = .ok (.ireturn, 1) := by decide +kernel
theorem dX11_image_15 : decode cX11_image 15 = .ok (.aload_n 0, 1) := by decide +kernel
theorem dX11_image_16 : decode cX11_image 16 = .ok (.aload_n 0, 1) := by decide +kernel
theorem dX11_image_17 : decode cX11_image 17 = .ok (.getfield 73, 3) := by decide +kernel
theorem dX11_image_20 : decode cX11_image 20 = .ok (.aload_n 0, 1) := by decide +kernel
theorem dX11_image_21 : decode cX11_image 21 = .ok (.getfield 168, 3) := by decide +kernel
theorem dX11_image_24 : decode cX11_image 24 = .ok (.aaload, 1) := by decide +kernel
theorem dX11_image_25 : decode cX11_image 25 = .ok (.iconst 0, 1) := by decide +kernel
theorem dX11_image_26 : decode cX11_image 26 = .ok (.invokevirtual 282, 3) := by decide +kernel
theorem dX11_image_29 : decode cX11_image 29 = .ok (.aload_n 0, 1) := by decide +kernel
theorem dX11_image_30 : decode cX11_image 30 = .ok (.dup, 1) := by decide +kernel
theorem dX11_image_31 : decode cX11_image 31 = .ok (.getfield 168, 3) := by decide +kernel
theorem dX11_image_34 : decode cX11_image 34 = .ok (.iconst 1, 1) := by decide +kernel
theorem dX11_image_35 : decode cX11_image 35 = .ok (.iadd, 1) := by decide +kernel
theorem dX11_image_36 : decode cX11_image 36 = .ok (.putfield 168, 3) := by decide +kernel
theorem dX11_image_39 : decode cX11_image 39 = .ok (.aload_n 0, 1) := by decide +kernel
theorem dX11_image_40 : decode cX11_image 40 = .ok (.getfield 168, 3) := by decide +kernel
theorem dX11_image_43 : decode cX11_image 43 = .ok (.ireturn, 1) := by decide +kernel
theorem ggX11_restore_X11_movesAll : GoodIn wsX11_restore wsX11_movesAll := gW_in gwX11_movesAll (fun _ h => List.mem_cons_of_mem _ (List.mem_append_right _ (List.mem_append_right _ (h))))
set_option maxRecDepth 20000 in
theorem gX11_restore_X11_movesAll : GoodIn wsX11_restore (wsV RX11 282 RX11 yX11_movesAll wsX11_movesAll) := goodIn_app (goodIn_of _ (by decide +kernel)) ggX11_restore_X11_movesAll
theorem dX11_restore_0 : decode cX11_restore 0 = .ok (.aload_n 0, 1) := by decide +kernel
theorem dX11_restore_1 : decode cX11_restore 1 = .ok (.iconst 0, 1) := by decide +kernel
theorem dX11_restore_2 : decode cX11_restore 2 = .ok (.putfield 85, 3) := by decide +kernel
theorem dX11_restore_5 : decode cX11_restore 5 = .ok (.aload_n 0, 1) := by decide +kernel
theorem dX11_restore_6 : decode cX11_restore 6 = .ok (.getfield 168, 3) := by decide +kernel
theorem dX11_restore_9 : decode cX11_restore 9 = .ok (.ifCond .ne 5, 3) := by decide +kernel
theorem dX11_restore_12 : decode cX11_restore 12 = .ok (.iconst (-1), 1) := by decide +kernel
theorem dX11_restore_13 : decode cX11_restore 13 = .ok (.ireturn, 1) := by decide +kernel
theorem dX11_restore_14 : decode cX11_restore 14 = .ok (.aload_n 0, 1) := by decide +kernel
theorem dX11_restore_15 : decode cX11_restore 15 = .ok (.dup, 1) := by decide +kernel
theorem dX11_restore_16 : decode cX11_restore 16 = .ok (.getfield 168, 3) := by decide +kernel
theorem dX11_restore_19 : decode cX11_restore 19 = .ok (.iconst 1, 1) := by decide +kernel
theorem dX11_restore_20 : decode cX11_restore 20 = .ok (.isub, 1) := by decide +kernel
theorem dX11_restore_21 : decode cX11_restore 21 = .ok (.putfield 168, 3) := by decide +kernel
theorem dX11_restore_24 : decode cX11_restore 24 = .ok (.aload_n 0, 1) := by decide +kernel
theorem dX11_restore_25 : decode cX11_restore 25 = .ok (.aload_n 0, 1) := by decide +kernel
theorem dX11_restore_26 : decode cX11_restore 26 = .ok (.getfield 73, 3) := by decide +kernel
theorem dX11_restore_29 : decode cX11_restore 29 = .ok (.aload_n 0, 1) := by decide +kernel
theorem dX11_restore_30 : decode cX11_restore 30 = .ok (.getfield 168, 3) := by decide +kernel
theorem dX11_restore_33 : decode cX11_restore 33 = .ok (.aaload, 1) := by decide +kernel
theorem dX11_restore_34 : decode cX11_restore 34 = .ok (.iconst 1, 1) := by decide +kernel
theorem dX11_restore_35 : decode cX11_restore 35 = .ok (.invokevirtual 282, 3) := by decide +kernel
theorem dX11_restore_38 : decode cX11_restore 38 = .ok (.aload_n 0, 1) := by decide +kernel
theorem dX11_restore_39 : decode cX11_restore 39 = .ok (.getfield 168, 3) := by decide +kernel
theorem dX11_restore_42 : decode cX11_restore 42 = .ok (.ireturn, 1) := by decide +kernel
theorem ggX11_status_X11_in : GoodIn wsX11_status wsX11_in := gW_in gwX11_in (fun _ h => List.mem_cons_of_mem _ (List.mem_append_right _ (List.mem_append_right _ (h))))
set_option maxRecDepth 20000 in
theorem gX11_status_X11_in : GoodIn wsX11_status (va_wsS RX11 119 yX11_in wsX11_in) := goodIn_app (goodIn_of _ (by decide +kernel)) ggX11_status_X11_in
theorem dX11_status_0 : decode cX11_status 0 = .ok (.aload_n 0, 1) := by decide +kernel
theorem dX11_status_1 : decode cX11_status 1 = .ok (.iconst 0, 1) := by decide +kernel
theorem dX11_status_2 : decode cX11_status 2 = .ok (.putfield 85, 3) := by decide +kernel
theorem dX11_status_5 : decode cX11_status 5 = .ok (.iload_n 1, 1) := by decide +kernel
theorem dX11_status_6 : decode cX11_status 6 = .ok (.iconst 0, 1) := by decide +kernel
theorem dX11_status_7 : decode cX11_status 7 = .ok (.iconst 2, 1) := by decide +kernel
theorem dX11_status_8 : decode cX11_status 8 = .ok (.invokestatic 119, 3) := by decide +kernel
theorem dX11_status_11 : decode cX11_status 11 = .ok (.ifCond .eq 12, 3) := by decide +kernel
theorem dX11_status_14 : decode cX11_status 14 = .ok (.aload_n 0, 1) := by decide +kernel
theorem dX11_status_15 : decode cX11_status 15 = .ok (.getfield 17, 3) := by decide +kernel
theorem dX11_status_18 : decode cX11_status 18 = .ok (.iload_n 1, 1) := by decide +kernel
theorem dX11_status_19 : decode cX11_status 19 = .ok (.iaload, 1) := by decide +kernel
theorem dX11_status_20 : decode cX11_status 20 = .ok (.goto 4, 3) := by decide +kernel
theorem dX11_status_23 : decode cX11_status 23 = .ok (.iconst (-1), 1) := by decide +kernel
theorem dX11_status_24 : decode cX11_status 24 = .ok (.ireturn, 1) := by decide +kernel
theorem dX11_count_0 : decode cX11_count 0 = .ok (.aload_n 0, 1) := by decide +kernel
theorem dX11_count_1 : decode cX11_count 1 = .ok (.iconst 0, 1) := by decide +kernel
theorem dX11_count_2 : decode cX11_count 2 = .ok (.putfield 85, 3) := by decide +kernel
theorem dX11_count_5 : decode cX11_count 5 = .ok (.iload_n 1, 1) := by decide +kernel
theorem dX11_count_6 : decode cX11_count 6 = .ok (.ifCond .ne 10, 3) := by decide +kernel
theorem dX11_count_9 : decode cX11_count 9 = .ok (.aload_n 0, 1) := by decide +kernel
theorem dX11_count_10 : decode cX11_count 10 = .ok (.getfield 168, 3) := by decide +kernel
theorem dX11_count_13 : decode cX11_count 13 = .ok (.goto 28, 3) := by decide +kernel
theorem dX11_count_16 : decode cX11_count 16 = .ok (.iload_n 1, 1) := by decide +kernel
theorem dX11_count_17 : decode cX11_count 17 = .ok (.iconst 1, 1) := by decide +kernel
theorem dX11_count_18 : decode cX11_count 18 = .ok (.if_icmp .ne 10, 3) := by decide +kernel
theorem dX11_count_21 : decode cX11_count 21 = .ok (.aload_n 0, 1) := by decide +kernel
theorem dX11_count_22 : decode cX11_count 22 = .ok (.getfield 88, 3) := by decide +kernel
theorem dX11_count_25 : decode cX11_count 25 = .ok (.goto 16, 3) := by decide +kernel
theorem dX11_count_28 : decode cX11_count 28 = .ok (.iload_n 1, 1) := by decide +kernel
theorem dX11_count_29 : decode cX11_count 29 = .ok (.iconst 2, 1) := by decide +kernel
theorem dX11_count_30 : decode cX11_count 30 = .ok (.if_icmp .ne 10, 3) := by decide +kernel
theorem dX11_count_33 : decode cX11_count 33 = .ok (.aload_n 0, 1) := by decide +kernel
theorem dX11_count_34 : decode cX11_count 34 = .ok (.getfield 165, 3) := by decide +kernel
theorem dX11_count_37 : decode cX11_count 37 = .ok (.goto 4, 3) := by decide +kernel
theorem dX11_count_40 : decode cX11_count 40 = .ok (.iconst (-1), 1) := by decide +kernel
theorem dX11_count_41 : decode cX11_count 41 = .ok (.ireturn, 1) := by decide +kernel

