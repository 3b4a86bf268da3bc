theorem dX10_months_25 : decode cX10_months 25 = .ok (.getfield 114, 3) := by decide +kernel
theorem dX10_months_28 : decode cX10_months 28 = .ok (.bipush 120, 2) := by decide +kernel
theorem dX10_months_30 : decode cX10_months 30 = .ok (.if_icmp .ge 68, 3) := by decide +kernel
theorem dX10_months_33 : decode cX10_months 33 = .ok (.aload_n 0, 1) := by decide +kernel
theorem dX10_months_34 : decode cX10_months 34 = .ok (.getfield 39, 3) := by decide +kernel
theorem dX10_months_37 : decode cX10_months 37 = .ok (.getfield 143, 3) := by decide +kernel
theorem dX10_months_40 : decode cX10_months 40 = .ok (.aload_n 0, 1) := by decide +kernel
theorem dX10_months_41 : decode cX10_months 41 = .ok (.getfield 39, 3) := by decide +kernel
theorem dX10_months_44 : decode cX10_months 44 = .ok (.getfield 66, 3) := by decide +kernel
theorem dX10_months_47 : decode cX10_months 47 = .ok (.invokevirtual 147, 3) := by decide +kernel
theorem dX10_months_50 : decode cX10_months 50 = .ok (.aload_n 0, 1) := by decide +kernel
theorem dX10_months_51 : decode cX10_months 51 = .ok (.getfield 39, 3) := by decide +kernel
theorem dX10_months_54 : decode cX10_months 54 = .ok (.getfield 66, 3) := by decide +kernel
theorem dX10_months_57 : decode cX10_months 57 = .ok (.aload_n 0, 1) := by decide +kernel
theorem dX10_months_58 : decode cX10_months 58 = .ok (.getfield 23, 3) := by decide +kernel
theorem dX10_months_61 : decode cX10_months 61 = .ok (.aload_n 0, 1) := by decide +kernel
theorem dX10_months_62 : decode cX10_months 62 = .ok (.aload_n 0, 1) := by decide +kernel
theorem dX10_months_63 : decode cX10_months 63 = .ok (.getfield 39, 3) := by decide +kernel
theorem dX10_months_66 : decode cX10_months 66 = .ok (.getfield 66, 3) := by decide +kernel
theorem dX10_months_69 : decode cX10_months 69 = .ok (.invokevirtual 153, 3) := by decide +kernel
theorem dX10_months_72 : decode cX10_months 72 = .ok (.invokevirtual 157, 3) := by decide +kernel
theorem dX10_months_75 : decode cX10_months 75 = .ok (.aload_n 0, 1) := by decide +kernel
theorem dX10_months_76 : decode cX10_months 76 = .ok (.getfield 39, 3) := by decide +kernel
theorem dX10_months_79 : decode cX10_months 79 = .ok (.getfield 143, 3) := by decide +kernel
theorem dX10_months_82 : decode cX10_months 82 = .ok (.aload_n 0, 1) := by decide +kernel
theorem dX10_months_83 : decode cX10_months 83 = .ok (.getfield 39, 3) := by decide +kernel
theorem dX10_months_86 : decode cX10_months 86 = .ok (.getfield 66, 3) := by decide +kernel
theorem dX10_months_89 : decode cX10_months 89 = .ok (.invokevirtual 161, 3) := by decide +kernel
theorem dX10_months_92 : decode cX10_months 92 = .ok (.iinc 2 1, 3) := by decide +kernel
theorem dX10_months_95 : decode cX10_months 95 = .ok (.goto (-82), 3) := by decide +kernel
theorem dX10_months_98 : decode cX10_months 98 = .ok (.iload_n 2, 1) := by decide +kernel
theorem dX10_months_99 : decode cX10_months 99 = .ok (.ireturn, 1) := by decide +kernel
theorem ggX10_undo_X10_within : GoodIn wsX10_undo wsX10_within := gW_in gwX10_within (fun _ h => List.mem_cons_of_mem _ (List.mem_append_right _ (List.mem_append_right _ (List.mem_append_right _ (List.mem_append_right _ (List.mem_append_right _ (List.mem_append_left _ h)))))))
set_option maxRecDepth 20000 in
theorem gX10_undo_X10_within : GoodIn wsX10_undo (va_wsS RX10 107 yX10_within wsX10_within) := goodIn_app (goodIn_of _ (by decide +kernel)) ggX10_undo_X10_within
theorem ggX10_undo_X10_demand : GoodIn wsX10_undo wsX10_demand := gW_in gwX10_demand (fun _ h => List.mem_cons_of_mem _ (List.mem_append_right _ (List.mem_append_right _ (List.mem_append_right _ (List.mem_append_right _ (List.mem_append_right _ (List.mem_append_right _ (List.mem_append_left _ h))))))))
set_option maxRecDepth 20000 in
theorem gX10_undo_X10_demand : GoodIn wsX10_undo (wsV RX10 81 RX10 yX10_demand wsX10_demand) := goodIn_app (goodIn_of _ (by decide +kernel)) ggX10_undo_X10_demand
theorem ggX10_undo_X0_giveBack : GoodIn wsX10_undo wsX0_giveBack := gW_in gwX0_giveBack (fun _ h => List.mem_cons_of_mem _ (List.mem_append_right _ (List.mem_append_right _ (List.mem_append_right _ (List.mem_append_right _ (List.mem_append_right _ (List.mem_append_right _ (List.mem_append_right _ (h)))))))))
set_option maxRecDepth 20000 in
theorem gX10_undo_X0_giveBack : GoodIn wsX10_undo (wsV RX10 169 RX0 yX0_giveBack wsX0_giveBack) := goodIn_app (goodIn_of _ (by decide +kernel)) ggX10_undo_X0_giveBack
theorem dX10_undo_0 : decode cX10_undo 0 = .ok (.aload_n 0, 1) := by decide +kernel
theorem dX10_undo_1 : decode cX10_undo 1 = .ok (.iload_n 1, 1) := by decide +kernel
theorem dX10_undo_2 : decode cX10_undo 2 = .ok (.iconst 1, 1) := by decide +kernel
theorem dX10_undo_3 : decode cX10_undo 3 = .ok (.bipush 120, 2) := by decide +kernel
theorem dX10_undo_5 : decode cX10_undo 5 = .ok (.invokestatic 107, 3) := by decide +kernel
theorem dX10_undo_8 : decode cX10_undo 8 = .ok (.invokevirtual 81, 3) := by decide +kernel
theorem dX10_undo_11 : decode cX10_undo 11 = .ok (.iload_n 1, 1) := by decide +kernel
theorem dX10_undo_12 : decode cX10_undo 12 = .ok (.aload_n 0, 1) := by decide +kernel
theorem dX10_undo_13 : decode cX10_undo 13 = .ok (.getfield 39, 3) := by decide +kernel
theorem dX10_undo_16 : decode cX10_undo 16 = .ok (.getfield 66, 3) := by decide +kernel
theorem dX10_undo_19 : decode cX10_undo 19 = .ok (.getfield 114, 3) := by decide +kernel
theorem dX10_undo_22 : decode cX10_undo 22 = .ok (.invokestatic 164, 3) := by decide +kernel
theorem dX10_undo_25 : decode cX10_undo 25 = .ok (.istore_n 2, 1) := by decide +kernel
theorem dX10_undo_26 : decode cX10_undo 26 = .ok (.iload_n 2, 1) := by decide +kernel
theorem dX10_undo_27 : decode cX10_undo 27 = .ok (.ifCond .le 32, 3) := by decide +kernel
theorem dX10_undo_30 : decode cX10_undo 30 = .ok (.aload_n 0, 1) := by decide +kernel
theorem dX10_undo_31 : decode cX10_undo 31 = .ok (.getfield 39, 3) := by decide +kernel
theorem dX10_undo_34 : decode cX10_undo 34 = .ok (.getfield 143, 3) := by decide +kernel
theorem dX10_undo_37 : decode cX10_undo 37 = .ok (.aload_n 0, 1) := by decide +kernel
theorem dX10_undo_38 : decode cX10_undo 38 = .ok (.getfield 39, 3) := by decide +kernel
theorem dX10_undo_41 : decode cX10_undo 41 = .ok (.getfield 66, 3) := by decide +kernel
theorem dX10_undo_44 : decode cX10_undo 44 = .ok (.aload_n 0, 1) := by decide +kernel
theorem dX10_undo_45 : decode cX10_undo 45 = .ok (.getfield 39, 3) := by decide +kernel
theorem dX10_undo_48 : decode cX10_undo 48 = .ok (.getfield 66, 3) := by decide +kernel
theorem dX10_undo_51 : decode cX10_undo 51 = .ok (.getfield 114, 3) := by decide +kernel
theorem dX10_undo_54 : decode cX10_undo 54 = .ok (.iload_n 2, 1) := by decide +kernel
theorem dX10_undo_55 : decode cX10_undo 55 = .ok (.isub, 1) := by decide +kernel
theorem dX10_undo_56 : decode cX10_undo 56 = .ok (.invokevirtual 169, 3) := by decide +kernel
theorem dX10_undo_59 : decode cX10_undo 59 = .ok (.iload_n 2, 1) := by decide +kernel
theorem dX10_undo_60 : decode cX10_undo 60 = .ok (.ireturn, 1) := by decide +kernel
theorem ggX10_sums_X10_within : GoodIn wsX10_sums wsX10_within := gW_in gwX10_within (fun _ h => List.mem_cons_of_mem _ (List.mem_append_right _ (List.mem_append_right _ (List.mem_append_right _ (List.mem_append_right _ (List.mem_append_left _ h))))))
set_option maxRecDepth 20000 in
theorem gX10_sums_X10_within : GoodIn wsX10_sums (va_wsS RX10 107 yX10_within wsX10_within) := goodIn_app (goodIn_of _ (by decide +kernel)) ggX10_sums_X10_within
theorem ggX10_sums_X10_demand : GoodIn wsX10_sums wsX10_demand := gW_in gwX10_demand (fun _ h => List.mem_cons_of_mem _ (List.mem_append_right _ (List.mem_append_right _ (List.mem_append_right _ (List.mem_append_right _ (List.mem_append_right _ (h)))))))
set_option maxRecDepth 20000 in
theorem gX10_sums_X10_demand : GoodIn wsX10_sums (wsV RX10 81 RX10 yX10_demand wsX10_demand) := goodIn_app (goodIn_of _ (by decide +kernel)) ggX10_sums_X10_demand
theorem dX10_sums_0 : decode cX10_sums 0 = .ok (.aload_n 0, 1) := by decide +kernel
theorem dX10_sums_1 : decode cX10_sums 1 = .ok (.iload_n 1, 1) := by decide +kernel
theorem dX10_sums_2 : decode cX10_sums 2 = .ok (.iconst 0, 1) := by decide +kernel
theorem dX10_sums_3 : decode cX10_sums 3 = .ok (.bipush 9, 2) := by decide +kernel
theorem dX10_sums_5 : decode cX10_sums 5 = .ok (.invokestatic 107, 3) := by decide +kernel
theorem dX10_sums_8 : decode cX10_sums 8 = .ok (.invokevirtual 81, 3) := by decide +kernel
theorem dX10_sums_11 : decode cX10_sums 11 = .ok (.aload_n 0, 1) := by decide +kernel
theorem dX10_sums_12 : decode cX10_sums 12 = .ok (.getfield 39, 3) := by decide +kernel
theorem dX10_sums_15 : decode cX10_sums 15 = .ok (.getfield 66, 3) := by decide +kernel
theorem dX10_sums_18 : decode cX10_sums 18 = .ok (.getfield 111, 3) := by decide +kernel
theorem dX10_sums_21 : decode cX10_sums 21 = .ok (.iload_n 1, 1) := by decide +kernel
theorem dX10_sums_22 : decode cX10_sums 22 = .ok (.iaload, 1) := by decide +kernel
theorem dX10_sums_23 : decode cX10_sums 23 = .ok (.ireturn, 1) := by decide +kernel
theorem ggX10_corks_X10_demandWall : GoodIn wsX10_corks wsX10_demandWall := gW_in gwX10_demandWall (fun _ h => List.mem_cons_of_mem _ (List.mem_append_right _ (List.mem_append_right _ (List.mem_append_right _ (List.mem_append_right _ (List.mem_append_right _ (List.mem_append_right _ (List.mem_append_left _ h))))))))
set_option maxRecDepth 20000 in
theorem gX10_corks_X10_demandWall : GoodIn wsX10_corks (wsV RX10 117 RX10 yX10_demandWall wsX10_demandWall) := goodIn_app (goodIn_of _ (by decide +kernel)) ggX10_corks_X10_demandWall
theorem ggX10_corks_X10_within : GoodIn wsX10_corks wsX10_within := gW_in gwX10_within (fun _ h => List.mem_cons_of_mem _ (List.mem_append_right _ (List.mem_append_right _ (List.mem_append_right _ (List.mem_append_right _ (List.mem_append_right _ (List.mem_append_right _ (List.mem_append_right _ (List.mem_append_left _ h)))))))))
set_option maxRecDepth 20000 in
theorem gX10_corks_X10_within : GoodIn wsX10_corks (va_wsS RX10 107 yX10_within wsX10_within) := goodIn_app (goodIn_of _ (by decide +kernel)) ggX10_corks_X10_within
theorem ggX10_corks_X10_demand : GoodIn wsX10_corks wsX10_demand := gW_in gwX10_demand (fun _ h => List.mem_cons_of_mem _ (List.mem_append_right _ (List.mem_append_right _ (List.mem_append_right _ (List.mem_append_right _ (List.mem_append_right _ (List.mem_append_right _ (List.mem_append_right _ (List.mem_append_right _ (List.mem_append_left _ h))))))))))
set_option maxRecDepth 20000 in
theorem gX10_corks_X10_demand : GoodIn wsX10_corks (wsV RX10 81 RX10 yX10_demand wsX10_demand) := goodIn_app (goodIn_of _ (by decide +kernel)) ggX10_corks_X10_demand
theorem ggX10_corks_X0_shotAt : GoodIn wsX10_corks wsX0_shotAt := gW_in gwX0_shotAt (fun _ h => List.mem_cons_of_mem _ (List.mem_append_right _ (List.mem_append_right _ (List.mem_append_right _ (List.mem_append_right _ (List.mem_append_right _ (List.mem_append_right _ (List.mem_append_right _ (List.mem_append_right _ (List.mem_append_right _ (h)))))))))))
set_option maxRecDepth 20000 in
theorem gX10_corks_X0_shotAt : GoodIn wsX10_corks (wsV RX10 173 RX0 yX0_shotAt wsX0_shotAt) := goodIn_app (goodIn_of _ (by decide +kernel)) ggX10_corks_X0_shotAt
theorem dX10_corks_0 : decode cX10_corks 0 = .ok (.aload_n 0, 1) := by decide +kernel
theorem dX10_corks_1 : decode cX10_corks 1 = .ok (.iload_n 2, 1) := by decide +kernel
theorem dX10_corks_2 : decode cX10_corks 2 = .ok (.invokevirtual 117, 3) := by decide +kernel
theorem dX10_corks_5 : decode cX10_corks 5 = .ok (.aload_n 0, 1) := by decide +kernel
theorem dX10_corks_6 : decode cX10_corks 6 = .ok (.iload_n 1, 1) := by decide +kernel
theorem dX10_corks_7 : decode cX10_corks 7 = .ok (.iconst 0, 1) := by decide +kernel
theorem dX10_corks_8 : decode cX10_corks 8 = .ok (.bipush 119, 2) := by decide +kernel
theorem dX10_corks_10 : decode cX10_corks 10 = .ok (.invokestatic 107, 3) := by decide +kernel
theorem dX10_corks_13 : decode cX10_corks 13 = .ok (.invokevirtual 81, 3) := by decide +kernel
theorem dX10_corks_16 : decode cX10_corks 16 = .ok (.iload_n 1, 1) := by decide +kernel
theorem dX10_corks_17 : decode cX10_corks 17 = .ok (.aload_n 0, 1) := by decide +kernel
theorem dX10_corks_18 : decode cX10_corks 18 = .ok (.getfield 39, 3) := by decide +kernel
theorem dX10_corks_21 : decode cX10_corks 21 = .ok (.getfield 66, 3) := by decide +kernel
theorem dX10_corks_24 : decode cX10_corks 24 = .ok (.getfield 114, 3) := by decide +kernel
theorem dX10_corks_27 : decode cX10_corks 27 = .ok (.if_icmp .ge 18, 3) := by decide +kernel
theorem dX10_corks_30 : decode cX10_corks 30 = .ok (.aload_n 0, 1) := by decide +kernel
theorem dX10_corks_31 : decode cX10_corks 31 = .ok (.getfield 39, 3) := by decide +kernel
theorem dX10_corks_34 : decode cX10_corks 34 = .ok (.getfield 143, 3) := by decide +kernel
theorem dX10_corks_37 : decode cX10_corks 37 = .ok (.iload_n 1, 1) := by decide +kernel
theorem dX10_corks_38 : decode cX10_corks 38 = .ok (.iload_n 2, 1) := by decide +kernel
theorem dX10_corks_39 : decode cX10_corks 39 = .ok (.invokevirtual 173, 3) := by decide +kernel
theorem dX10_corks_42 : decode cX10_corks 42 = .ok (.goto 4, 3) := by decide +kernel
theorem dX10_corks_45 : decode cX10_corks 45 = .ok (.iconst 0, 1) := by decide +kernel
theorem dX10_corks_46 : decode cX10_corks 46 = .ok (.ireturn, 1) := by decide +kernel
theorem ggX10_would_X10_demandContractOrNone : GoodIn wsX10_would wsX10_demandContractOrNone := gW_in gwX10_demandContractOrNone (fun _ h => List.mem_cons_of_mem _ (List.mem_append_right _ (List.mem_append_right _ (List.mem_append_right _ (List.mem_append_right _ (List.mem_append_right _ (List.mem_append_right _ (List.mem_append_left _ h))))))))
set_option maxRecDepth 20000 in
theorem gX10_would_X10_demandContractOrNone : GoodIn wsX10_would (wsV RX10 137 RX10 yX10_demandContractOrNone wsX10_demandContractOrNone) := goodIn_app (goodIn_of _ (by decide +kernel)) ggX10_would_X10_demandContractOrNone
theorem ggX10_would_X10_within : GoodIn wsX10_would wsX10_within := gW_in gwX10_within (fun _ h => List.mem_cons_of_mem _ (List.mem_append_right _ (List.mem_append_right _ (List.mem_append_right _ (List.mem_append_right _ (List.mem_append_right _ (List.mem_append_right _ (List.mem_append_right _ (List.mem_append_left _ h)))))))))
set_option maxRecDepth 20000 in
theorem gX10_would_X10_within : GoodIn wsX10_would (va_wsS RX10 107 yX10_within wsX10_within) := goodIn_app (goodIn_of _ (by decide +kernel)) ggX10_would_X10_within
theorem ggX10_would_X10_demand : GoodIn wsX10_would wsX10_demand := gW_in gwX10_demand (fun _ h => List.mem_cons_of_mem _ (List.mem_append_right _ (List.mem_append_right _ (List.mem_append_right _ (List.mem_append_right _ (List.mem_append_right _ (List.mem_append_right _ (List.mem_append_right _ (List.mem_append_right _ (List.mem_append_left _ h))))))))))
set_option maxRecDepth 20000 in
theorem gX10_would_X10_demand : GoodIn wsX10_would (wsV RX10 81 RX10 yX10_demand wsX10_demand) := goodIn_app (goodIn_of _ (by decide +kernel)) ggX10_would_X10_demand
theorem ggX10_would_X10_trySigned : GoodIn wsX10_would wsX10_trySigned := gW_in gwX10_trySigned (fun _ h => List.mem_cons_of_mem _ (List.mem_append_right _ (List.mem_append_right _ (List.mem_append_right _ (List.mem_append_right _ (List.mem_append_right _ (List.mem_append_right _ (List.mem_append_right _ (List.mem_append_right _ (List.mem_append_right _ (h)))))))))))
set_option maxRecDepth 20000 in
theorem gX10_would_X10_trySigned : GoodIn wsX10_would (wsV RX10 176 RX10 yX10_trySigned wsX10_trySigned) := goodIn_app (goodIn_of _ (by decide +kernel)) ggX10_would_X10_trySigned
theorem dX10_would_0 : decode cX10_would 0 = .ok (.aload_n 0, 1) := by decide +kernel
theorem dX10_would_1 : decode cX10_would 1 = .ok (.iload_n 1, 1) := by decide +kernel
theorem dX10_would_2 : decode cX10_would 2 = .ok (.invokevirtual 137, 3) := by decide +kernel
theorem dX10_would_5 : decode cX10_would 5 = .ok (.aload_n 0, 1) := by decide +kernel
theorem dX10_would_6 : decode cX10_would 6 = .ok (.iload_n 2, 1) := by decide +kernel
theorem dX10_would_7 : decode cX10_would 7 = .ok (.iconst 1, 1) := by decide +kernel
theorem dX10_would_8 : decode cX10_would 8 = .ok (.bipush 60, 2) := by decide +kernel
theorem dX10_would_10 : decode cX10_would 10 = .ok (.invokestatic 107, 3) := by decide +kernel
theorem dX10_would_13 : decode cX10_would 13 = .ok (.ifCond .eq 17, 3) := by decide +kernel
theorem dX10_would_16 : decode cX10_would 16 = .ok (.iload_n 3, 1) := by decide +kernel
theorem dX10_would_17 : decode cX10_would 17 = .ok (.iconst 0, 1) := by decide +kernel
theorem dX10_would_18 : decode cX10_would 18 = .ok (.bipush 9, 2) := by decide +kernel
theorem dX10_would_20 : decode cX10_would 20 = .ok (.invokestatic 107, 3) := by decide +kernel
theorem dX10_would_23 : decode cX10_would 23 = .ok (.ifCond .eq 7, 3) := by decide +kernel
theorem dX10_would_26 : decode cX10_would 26 = .ok (.iconst 1, 1) := by decide +kernel
theorem dX10_would_27 : decode cX10_would 27 = .ok (.goto 4, 3) := by decide +kernel
theorem dX10_would_30 : decode cX10_would 30 = .ok (.iconst 0, 1) := by decide +kernel
theorem dX10_would_31 : decode cX10_would 31 = .ok (.invokevirtual 81, 3) := by decide +kernel
theorem dX10_would_34 : decode cX10_would 34 = .ok (.aload_n 0, 1) := by decide +kernel
theorem dX10_would_35 : decode cX10_would 35 = .ok (.iload_n 1, 1) := by decide +kernel
theorem dX10_would_36 : decode cX10_would 36 = .ok (.iload_n 2, 1) := by decide +kernel
theorem dX10_would_37 : decode cX10_would 37 = .ok (.invokevirtual 176, 3) := by decide +kernel
theorem dX10_would_40 : decode cX10_would 40 = .ok (.pop, 1) := by decide +kernel
theorem dX10_would_41 : decode cX10_would 41 = .ok (.aload_n 0, 1) := by decide +kernel
theorem dX10_would_42 : decode cX10_would 42 = .ok (.getfield 50, 3) := by decide +kernel
theorem dX10_would_45 : decode cX10_would 45 = .ok (.getfield 111, 3) := by decide +kernel
theorem dX10_would_48 : decode cX10_would 48 = .ok (.iload_n 3, 1) := by decide +kernel
theorem dX10_would_49 : decode cX10_would 49 = .ok (.iaload, 1) := by decide +kernel
theorem dX10_would_50 : decode cX10_would 50 = .ok (.ireturn, 1) := by decide +kernel
theorem ggX10_best_X10_within : GoodIn wsX10_best wsX10_within := gW_in gwX10_within (fun _ h => List.mem_cons_of_mem _ (List.mem_append_right _ (List.mem_append_right _ (List.mem_append_right _ (List.mem_append_right _ (List.mem_append_right _ (List.mem_append_right _ (List.mem_append_left _ h))))))))
set_option maxRecDepth 20000 in
theorem gX10_best_X10_within : GoodIn wsX10_best (va_wsS RX10 107 yX10_within wsX10_within) := goodIn_app (goodIn_of _ (by decide +kernel)) ggX10_best_X10_within
theorem ggX10_best_X10_demand : GoodIn wsX10_best wsX10_demand := gW_in gwX10_demand (fun _ h => List.mem_cons_of_mem _ (List.mem_append_right _ (List.mem_append_right _ (List.mem_append_right _ (List.mem_append_right _ (List.mem_append_right _ (List.mem_append_right _ (List.mem_append_right _ (List.mem_append_left _ h)))))))))
set_option maxRecDepth 20000 in
theorem gX10_best_X10_demand : GoodIn wsX10_best (wsV RX10 81 RX10 yX10_demand wsX10_demand) := goodIn_app (goodIn_of _ (by decide +kernel)) ggX10_best_X10_demand
theorem ggX10_best_X10_trySigned : GoodIn wsX10_best wsX10_trySigned := gW_in gwX10_trySigned (fun _ h => List.mem_cons_of_mem _ (List.mem_append_right _ (List.mem_append_right _ (List.mem_append_right _ (List.mem_append_right _ (List.mem_append_right _ (List.mem_append_right _ (List.mem_append_right _ (List.mem_append_right _ (h))))))))))
set_option maxRecDepth 20000 in
theorem gX10_best_X10_trySigned : GoodIn wsX10_best (wsV RX10 176 RX10 yX10_trySigned wsX10_trySigned) := goodIn_app (goodIn_of _ (by decide +kernel)) ggX10_best_X10_trySigned
theorem dX10_best_0 : decode cX10_best 0 = .ok (.aload_n 0, 1) := by decide +kernel
theorem dX10_best_1 : decode cX10_best 1 = .ok (.iload_n 1, 1) := by decide +kernel
theorem dX10_best_2 : decode cX10_best 2 = .ok (.iconst 1, 1) := by decide +kernel
theorem dX10_best_3 : decode cX10_best 3 = .ok (.bipush 60, 2) := by decide +kernel
theorem dX10_best_5 : decode cX10_best 5 = .ok (.invokestatic 107, 3) := by decide +kernel
theorem dX10_best_8 : decode cX10_best 8 = .ok (.ifCond .eq 16, 3) := by decide +kernel
theorem dX10_best_11 : decode cX10_best 11 = .ok (.iload_n 2, 1) := by decide +kernel
theorem dX10_best_12 : decode cX10_best 12 = .ok (.iconst 0, 1) := by decide +kernel
theorem dX10_best_13 : decode cX10_best 13 = .ok (.iconst 1, 1) := by decide +kernel
theorem dX10_best_14 : decode cX10_best 14 = .ok (.invokestatic 107, 3) := by decide +kernel
theorem dX10_best_17 : decode cX10_best 17 = .ok (.ifCond .eq 7, 3) := by decide +kernel
theorem dX10_best_20 : decode cX10_best 20 = .ok (.iconst 1, 1) := by decide +kernel
theorem dX10_best_21 : decode cX10_best 21 = .ok (.goto 4, 3) := by decide +kernel
theorem dX10_best_24 : decode cX10_best 24 = .ok (.iconst 0, 1) := by decide +kernel
theorem dX10_best_25 : decode cX10_best 25 = .ok (.invokevirtual 81, 3) := by decide +kernel
theorem dX10_best_28 : decode cX10_best 28 = .ok (.iconst (-1), 1) := by decide +kernel
theorem dX10_best_29 : decode cX10_best 29 = .ok (.istore_n 3, 1) := by decide +kernel
theorem dX10_best_30 : decode cX10_best 30 = .ok (.iconst (-1), 1) := by decide +kernel
theorem dX10_best_31 : decode cX10_best 31 = .ok (.istore 4, 2) := by decide +kernel
theorem dX10_best_33 : decode cX10_best 33 = .ok (.iconst 0, 1) := by decide +kernel
theorem dX10_best_34 : decode cX10_best 34 = .ok (.istore 5, 2) := by decide +kernel
theorem dX10_best_36 : decode cX10_best 36 = .ok (.iload 5, 2) := by decide +kernel
theorem dX10_best_38 : decode cX10_best 38 = .ok (.aload_n 0, 1) := by decide +kernel
theorem dX10_best_39 : decode cX10_best 39 = .ok (.getfield 92, 3) := by decide +kernel
theorem dX10_best_42 : decode cX10_best 42 = .ok (.if_icmp .ge 32, 3) := by decide +kernel
theorem dX10_best_45 : decode cX10_best 45 = .ok (.aload_n 0, 1) := by decide +kernel
theorem dX10_best_46 : decode cX10_best 46 = .ok (.iload 5, 2) := by decide +kernel
theorem dX10_best_48 : decode cX10_best 48 = .ok (.iload_n 1, 1) := by decide +kernel
theorem dX10_best_49 : decode cX10_best 49 = .ok (.invokevirtual 176, 3) := by decide +kernel
theorem dX10_best_52 : decode cX10_best 52 = .ok (.istore 6, 2) := by decide +kernel
theorem dX10_best_54 : decode cX10_best 54 = .ok (.iload 6, 2) := by decide +kernel
theorem dX10_best_56 : decode cX10_best 56 = .ok (.iload 4, 2) := by decide +kernel
theorem dX10_best_58 : decode cX10_best 58 = .ok (.if_icmp .le 10, 3) := by decide +kernel
theorem dX10_best_61 : decode cX10_best 61 = .ok (.iload 6, 2) := by decide +kernel
theorem dX10_best_63 : decode cX10_best 63 = .ok (.istore 4, 2) := by decide +kernel
theorem dX10_best_65 : decode cX10_best 65 = .ok (.iload 5, 2) := by decide +kernel
theorem dX10_best_67 : decode cX10_best 67 = .ok (.istore_n 3, 1) := by decide +kernel
theorem dX10_best_68 : decode cX10_best 68 = .ok (.iinc 5 1, 3) := by decide +kernel
theorem dX10_best_71 : decode cX10_best 71 = .ok (.goto (-35), 3) := by decide +kernel
theorem dX10_best_74 : decode cX10_best 74 = .ok (.aload_n 0, 1) := by decide +kernel
theorem dX10_best_75 : decode cX10_best 75 = .ok (.iconst (-1), 1) := by decide +kernel
theorem dX10_best_76 : decode cX10_best 76 = .ok (.iload_n 1, 1) := by decide +kernel
theorem dX10_best_77 : decode cX10_best 77 = .ok (.invokevirtual 176, 3) := by decide +kernel
theorem dX10_best_80 : decode cX10_best 80 = .ok (.istore 5, 2) := by decide +kernel
theorem dX10_best_82 : decode cX10_best 82 = .ok (.iload 5, 2) := by decide +kernel
theorem dX10_best_84 : decode cX10_best 84 = .ok (.iload 4, 2) := by decide +kernel
theorem dX10_best_86 : decode cX10_best 86 = .ok (.if_icmp .le 9, 3) := by decide +kernel
theorem dX10_best_89 : decode cX10_best 89 = .ok (.iload 5, 2) := by decide +kernel
theorem dX10_best_91 : decode cX10_best 91 = .ok (.istore 4, 2) := by decide +kernel
theorem dX10_best_93 : decode cX10_best 93 = .ok (.iconst (-1), 1) := by decide +kernel
theorem dX10_best_94 : decode cX10_best 94 = .ok (.istore_n 3, 1) := by decide +kernel
theorem dX10_best_95 : decode cX10_best 95 = .ok (.iload_n 2, 1) := by decide +kernel
theorem dX10_best_96 : decode cX10_best 96 = .ok (.ifCond .ne 7, 3) := by decide +kernel
theorem dX10_best_99 : decode cX10_best 99 = .ok (.iload_n 3, 1) := by decide +kernel
theorem dX10_best_100 : decode cX10_best 100 = .ok (.goto 5, 3) := by decide +kernel
theorem dX10_best_103 : decode cX10_best 103 = .ok (.iload 4, 2) := by decide +kernel
theorem dX10_best_105 : decode cX10_best 105 = .ok (.ireturn, 1) := by decide +kernel
theorem ggX10_offer_X10_within : GoodIn wsX10_offer wsX10_within := gW_in gwX10_within (fun _ h => List.mem_cons_of_mem _ (List.mem_append_right _ (List.mem_append_right _ (List.mem_append_right _ (List.mem_append_right _ (List.mem_append_right _ (List.mem_append_right _ (List.mem_append_left _ h))))))))
set_option maxRecDepth 20000 in
theorem gX10_offer_X10_within : GoodIn wsX10_offer (va_wsS RX10 107 yX10_within wsX10_within) := goodIn_app (goodIn_of _ (by decide +kernel)) ggX10_offer_X10_within
theorem ggX10_offer_X10_demand : GoodIn wsX10_offer wsX10_demand := gW_in gwX10_demand (fun _ h => List.mem_cons_of_mem _ (List.mem_append_right _ (List.mem_append_right _ (List.mem_append_right _ (List.mem_append_right _ (List.mem_append_right _ (List.mem_append_right _ (List.mem_append_right _ (List.mem_append_left _ h)))))))))
set_option maxRecDepth 20000 in
theorem gX10_offer_X10_demand : GoodIn wsX10_offer (wsV RX10 81 RX10 yX10_demand wsX10_demand) := goodIn_app (goodIn_of _ (by decide +kernel)) ggX10_offer_X10_demand
theorem ggX10_offer_X6_wanted : GoodIn wsX10_offer wsX6_wanted := gW_in gwX6_wanted (fun _ h => List.mem_cons_of_mem _ (List.mem_append_right _ (List.mem_append_right _ (List.mem_append_right _ (List.mem_append_right _ (List.mem_append_right _ (List.mem_append_right _ (List.mem_append_right _ (List.mem_append_right _ (List.mem_append_left _ h))))))))))
set_option maxRecDepth 20000 in
theorem gX10_offer_X6_wanted : GoodIn wsX10_offer (wsV RX10 133 RX6 yX6_wanted wsX6_wanted) := goodIn_app (goodIn_of _ (by decide +kernel)) ggX10_offer_X6_wanted
theorem ggX10_offer_X5_propose : GoodIn wsX10_offer wsX5_propose := gW_in gwX5_propose (fun _ h => List.mem_cons_of_mem _ (List.mem_append_right _ (List.mem_append_right _ (List.mem_append_right _ (List.mem_append_right _ (List.mem_append_right _ (List.mem_append_right _ (List.mem_append_right _ (List.mem_append_right _ (List.mem_append_right _ (List.mem_append_left _ h)))))))))))
set_option maxRecDepth 20000 in
theorem gX10_offer_X5_propose : GoodIn wsX10_offer (wsV RX10 179 RX5 yX5_propose wsX5_propose) := goodIn_app (goodIn_of _ (by decide +kernel)) ggX10_offer_X5_propose
theorem ggX10_offer_X10_trySigned : GoodIn wsX10_offer wsX10_trySigned := gW_in gwX10_trySigned (fun _ h => List.mem_cons_of_mem _ (List.mem_append_right _ (List.mem_append_right _ (List.mem_append_right _ (List.mem_append_right _ (List.mem_append_right _ (List.mem_append_right _ (List.mem_append_right _ (List.mem_append_right _ (List.mem_append_right _ (List.mem_append_right _ (h))))))))))))
set_option maxRecDepth 20000 in
theorem gX10_offer_X10_trySigned : GoodIn wsX10_offer (wsV RX10 176 RX10 yX10_trySigned wsX10_trySigned) := goodIn_app (goodIn_of _ (by decide +kernel)) ggX10_offer_X10_trySigned
theorem dX10_offer_0 : decode cX10_offer 0 = .ok (.aload_n 0, 1) := by decide +kernel
theorem dX10_offer_1 : decode cX10_offer 1 = .ok (.iload_n 1, 1) := by decide +kernel
theorem dX10_offer_2 : decode cX10_offer 2 = .ok (.iconst 1, 1) := by decide +kernel
theorem dX10_offer_3 : decode cX10_offer 3 = .ok (.bipush 60, 2) := by decide +kernel
theorem dX10_offer_5 : decode cX10_offer 5 = .ok (.invokestatic 107, 3) := by decide +kernel
theorem dX10_offer_8 : decode cX10_offer 8 = .ok (.ifCond .eq 16, 3) := by decide +kernel
theorem dX10_offer_11 : decode cX10_offer 11 = .ok (.iload_n 2, 1) := by decide +kernel
theorem dX10_offer_12 : decode cX10_offer 12 = .ok (.iconst 0, 1) := by decide +kernel
theorem dX10_offer_13 : decode cX10_offer 13 = .ok (.iconst 3, 1) := by decide +kernel
theorem dX10_offer_14 : decode cX10_offer 14 = .ok (.invokestatic 107, 3) := by decide +kernel
theorem dX10_offer_17 : decode cX10_offer 17 = .ok (.ifCond .eq 7, 3) := by decide +kernel
theorem dX10_offer_20 : decode cX10_offer 20 = .ok (.iconst 1, 1) := by decide +kernel
theorem dX10_offer_21 : decode cX10_offer 21 = .ok (.goto 4, 3) := by decide +kernel
theorem dX10_offer_24 : decode cX10_offer 24 = .ok (.iconst 0, 1) := by decide +kernel
theorem dX10_offer_25 : decode cX10_offer 25 = .ok (.invokevirtual 81, 3) := by decide +kernel
theorem dX10_offer_28 : decode cX10_offer 28 = .ok (.iconst 0, 1) := by decide +kernel
theorem dX10_offer_29 : decode cX10_offer 29 = .ok (.istore_n 3, 1) := by decide +kernel
theorem dX10_offer_30 : decode cX10_offer 30 = .ok (.iconst 0, 1) := by decide +kernel
theorem dX10_offer_31 : decode cX10_offer 31 = .ok (.istore 4, 2) := by decide +kernel
theorem dX10_offer_33 : decode cX10_offer 33 = .ok (.iconst (-1), 1) := by decide +kernel
theorem dX10_offer_34 : decode cX10_offer 34 = .ok (.istore 5, 2) := by decide +kernel
theorem dX10_offer_36 : decode cX10_offer 36 = .ok (.iconst 0, 1) := by decide +kernel
theorem dX10_offer_37 : decode cX10_offer 37 = .ok (.istore 6, 2) := by decide +kernel
theorem dX10_offer_39 : decode cX10_offer 39 = .ok (.iload 6, 2) := by decide +kernel
theorem dX10_offer_41 : decode cX10_offer 41 = .ok (.bipush 9, 2) := by decide +kernel
theorem dX10_offer_43 : decode cX10_offer 43 = .ok (.if_icmp .gt 78, 3) := by decide +kernel
theorem dX10_offer_46 : decode cX10_offer 46 = .ok (.iconst 0, 1) := by decide +kernel
theorem dX10_offer_47 : decode cX10_offer 47 = .ok (.istore 7, 2) := by decide +kernel
theorem dX10_offer_49 : decode cX10_offer 49 = .ok (.iload 7, 2) := by decide +kernel
theorem dX10_offer_51 : decode cX10_offer 51 = .ok (.bipush 20, 2) := by decide +kernel
theorem dX10_offer_53 : decode cX10_offer 53 = .ok (.if_icmp .gt 62, 3) := by decide +kernel
theorem dX10_offer_56 : decode cX10_offer 56 = .ok (.aload_n 0, 1) := by decide +kernel
theorem dX10_offer_57 : decode cX10_offer 57 = .ok (.getfield 32, 3) := by decide +kernel
theorem dX10_offer_60 : decode cX10_offer 60 = .ok (.bipush 6, 2) := by decide +kernel
theorem dX10_offer_62 : decode cX10_offer 62 = .ok (.aaload, 1) := by decide +kernel
theorem dX10_offer_63 : decode cX10_offer 63 = .ok (.aload_n 0, 1) := by decide +kernel
theorem dX10_offer_64 : decode cX10_offer 64 = .ok (.getfield 23, 3) := by decide +kernel
theorem dX10_offer_67 : decode cX10_offer 67 = .ok (.iload 6, 2) := by decide +kernel
theorem dX10_offer_69 : decode cX10_offer 69 = .ok (.iload 7, 2) := by decide +kernel
theorem dX10_offer_71 : decode cX10_offer 71 = .ok (.invokevirtual 133, 3) := by decide +kernel
theorem dX10_offer_74 : decode cX10_offer 74 = .ok (.iload 6, 2) := by decide +kernel
theorem dX10_offer_76 : decode cX10_offer 76 = .ok (.iload 7, 2) := by decide +kernel
theorem dX10_offer_78 : decode cX10_offer 78 = .ok (.iload_n 1, 1) := by decide +kernel
theorem dX10_offer_79 : decode cX10_offer 79 = .ok (.invokevirtual 179, 3) := by decide +kernel
theorem dX10_offer_82 : decode cX10_offer 82 = .ok (.aload_n 0, 1) := by decide +kernel
theorem dX10_offer_83 : decode cX10_offer 83 = .ok (.bipush 6, 2) := by decide +kernel
theorem dX10_offer_85 : decode cX10_offer 85 = .ok (.iload_n 1, 1) := by decide +kernel
theorem dX10_offer_86 : decode cX10_offer 86 = .ok (.invokevirtual 176, 3) := by decide +kernel
theorem dX10_offer_89 : decode cX10_offer 89 = .ok (.istore 8, 2) := by decide +kernel
theorem dX10_offer_91 : decode cX10_offer 91 = .ok (.iload 8, 2) := by decide +kernel
theorem dX10_offer_93 : decode cX10_offer 93 = .ok (.iload 5, 2) := by decide +kernel
theorem dX10_offer_95 : decode cX10_offer 95 = .ok (.if_icmp .le 14, 3) := by decide +kernel
theorem dX10_offer_98 : decode cX10_offer 98 = .ok (.iload 8, 2) := by decide +kernel
theorem dX10_offer_100 : decode cX10_offer 100 = .ok (.istore 5, 2) := by decide +kernel
theorem dX10_offer_102 : decode cX10_offer 102 = .ok (.iload 6, 2) := by decide +kernel
theorem dX10_offer_104 : decode cX10_offer 104 = .ok (.istore_n 3, 1) := by decide +kernel
theorem dX10_offer_105 : decode cX10_offer 105 = .ok (.iload 7, 2) := by decide +kernel
theorem dX10_offer_107 : decode cX10_offer 107 = .ok (.istore 4, 2) := by decide +kernel
theorem dX10_offer_109 : decode cX10_offer 109 = .ok (.iinc 7 1, 3) := by decide +kernel
theorem dX10_offer_112 : decode cX10_offer 112 = .ok (.goto (-63), 3) := by decide +kernel
theorem dX10_offer_115 : decode cX10_offer 115 = .ok (.iinc 6 1, 3) := by decide +kernel
theorem dX10_offer_118 : decode cX10_offer 118 = .ok (.goto (-79), 3) := by decide +kernel
theorem dX10_offer_121 : decode cX10_offer 121 = .ok (.iload_n 2, 1) := by decide +kernel
theorem dX10_offer_122 : decode cX10_offer 122 = .ok (.tableswitch 42 0 2 #[26, 28, 31], 26) := by decide +kernel
theorem dX10_offer_148 : decode cX10_offer 148 = .ok (.iload_n 3, 1) := by decide +kernel
theorem dX10_offer_149 : decode cX10_offer 149 = .ok (.ireturn, 1) := by decide +kernel
theorem dX10_offer_150 : decode cX10_offer 150 = .ok (.iload 4, 2) := by decide +kernel
theorem dX10_offer_152 : decode cX10_offer 152 = .ok (.ireturn, 1) := by decide +kernel
theorem dX10_offer_153 : decode cX10_offer 153 = .ok (.aload_n 0, 1) := by decide +kernel
theorem dX10_offer_154 : decode cX10_offer 154 = .ok (.getfield 23, 3) := by decide +kernel
theorem dX10_offer_157 : decode cX10_offer 157 = .ok (.iload_n 3, 1) := by decide +kernel
theorem dX10_offer_158 : decode cX10_offer 158 = .ok (.iload 4, 2) := by decide +kernel
theorem dX10_offer_160 : decode cX10_offer 160 = .ok (.invokevirtual 133, 3) := by decide +kernel
theorem dX10_offer_163 : decode cX10_offer 163 = .ok (.ireturn, 1) := by decide +kernel
theorem dX10_offer_164 : decode cX10_offer 164 = .ok (.iload 5, 2) := by decide +kernel
theorem dX10_offer_166 : decode cX10_offer 166 = .ok (.ireturn, 1) := by decide +kernel
theorem ggX10_nearest_X10_within : GoodIn wsX10_nearest wsX10_within := gW_in gwX10_within (fun _ h => List.mem_cons_of_mem _ (List.mem_append_right _ (List.mem_append_right _ (List.mem_append_right _ (List.mem_append_left _ h)))))
set_option maxRecDepth 20000 in
theorem gX10_nearest_X10_within : GoodIn wsX10_nearest (va_wsS RX10 107 yX10_within wsX10_within) := goodIn_app (goodIn_of _ (by decide +kernel)) ggX10_nearest_X10_within
theorem ggX10_nearest_X10_demand : GoodIn wsX10_nearest wsX10_demand := gW_in gwX10_demand (fun _ h => List.mem_cons_of_mem _ (List.mem_append_right _ (List.mem_append_right _ (List.mem_append_right _ (List.mem_append_right _ (List.mem_append_left _ h))))))
set_option maxRecDepth 20000 in
theorem gX10_nearest_X10_demand : GoodIn wsX10_nearest (wsV RX10 81 RX10 yX10_demand wsX10_demand) := goodIn_app (goodIn_of _ (by decide +kernel)) ggX10_nearest_X10_demand
theorem ggX10_nearest_X6_wanted : GoodIn wsX10_nearest wsX6_wanted := gW_in gwX6_wanted (fun _ h => List.mem_cons_of_mem _ (List.mem_append_right _ (List.mem_append_right _ (List.mem_append_right _ (List.mem_append_right _ (List.mem_append_right _ (h)))))))
set_option maxRecDepth 20000 in
theorem gX10_nearest_X6_wanted : GoodIn wsX10_nearest (wsV RX10 133 RX6 yX6_wanted wsX6_wanted) := goodIn_app (goodIn_of _ (by decide +kernel)) ggX10_nearest_X6_wanted
theorem dX10_nearest_0 : decode cX10_nearest 0 = .ok (.aload_n 0, 1) := by decide +kernel
theorem dX10_nearest_1 : decode cX10_nearest 1 = .ok (.iload_n 1, 1) := by decide +kernel
theorem dX10_nearest_2 : decode cX10_nearest 2 = .ok (.iconst 0, 1) := by decide +kernel
theorem dX10_nearest_3 : decode cX10_nearest 3 = .ok (.sipush 9999, 3) := by decide +kernel
theorem dX10_nearest_6 : decode cX10_nearest 6 = .ok (.invokestatic 107, 3) := by decide +kernel
theorem dX10_nearest_9 : decode cX10_nearest 9 = .ok (.ifCond .eq 17, 3) := by decide +kernel
theorem dX10_nearest_12 : decode cX10_nearest 12 = .ok (.iload_n 2, 1) := by decide +kernel
theorem dX10_nearest_13 : decode cX10_nearest 13 = .ok (.iconst 0, 1) := by decide +kernel
theorem dX10_nearest_14 : decode cX10_nearest 14 = .ok (.bipush 99, 2) := by decide +kernel
theorem dX10_nearest_16 : decode cX10_nearest 16 = .ok (.invokestatic 107, 3) := by decide +kernel
theorem dX10_nearest_19 : decode cX10_nearest 19 = .ok (.ifCond .eq 7, 3) := by decide +kernel
theorem dX10_nearest_22 : decode cX10_nearest 22 = .ok (.iconst 1, 1) := by decide +kernel
theorem dX10_nearest_23 : decode cX10_nearest 23 = .ok (.goto 4, 3) := by decide +kernel
theorem dX10_nearest_26 : decode cX10_nearest 26 = .ok (.iconst 0, 1) := by decide +kernel
theorem dX10_nearest_27 : decode cX10_nearest 27 = .ok (.invokevirtual 81, 3) := by decide +kernel
theorem dX10_nearest_30 : decode cX10_nearest 30 = .ok (.iconst 0, 1) := by decide +kernel
theorem dX10_nearest_31 : decode cX10_nearest 31 = .ok (.istore_n 3, 1) := by decide +kernel
theorem dX10_nearest_32 : decode cX10_nearest 32 = .ok (.iload_n 3, 1) := by decide +kernel
theorem dX10_nearest_33 : decode cX10_nearest 33 = .ok (.bipush 9, 2) := by decide +kernel
theorem dX10_nearest_35 : decode cX10_nearest 35 = .ok (.if_icmp .gt 24, 3) := by decide +kernel
theorem dX10_nearest_38 : decode cX10_nearest 38 = .ok (.aload_n 0, 1) := by decide +kernel
theorem dX10_nearest_39 : decode cX10_nearest 39 = .ok (.getfield 23, 3) := by decide +kernel
theorem dX10_nearest_42 : decode cX10_nearest 42 = .ok (.iload_n 3, 1) := by decide +kernel
theorem dX10_nearest_43 : decode cX10_nearest 43 = .ok (.iload_n 2, 1) := by decide +kernel
theorem dX10_nearest_44 : decode cX10_nearest 44 = .ok (.invokevirtual 133, 3) := by decide +kernel
theorem dX10_nearest_47 : decode cX10_nearest 47 = .ok (.iload_n 1, 1) := by decide +kernel
theorem dX10_nearest_48 : decode cX10_nearest 48 = .ok (.if_icmp .gt 5, 3) := by decide +kernel
theorem dX10_nearest_51 : decode cX10_nearest 51 = .ok (.iload_n 3, 1) := by decide +kernel
theorem dX10_nearest_52 : decode cX10_nearest 52 = .ok (.ireturn, 1) := by decide +kernel
theorem dX10_nearest_53 : decode cX10_nearest 53 = .ok (.iinc 3 1, 3) := by decide +kernel
theorem dX10_nearest_56 : decode cX10_nearest 56 = .ok (.goto (-24), 3) := by decide +kernel
theorem dX10_nearest_59 : decode cX10_nearest 59 = .ok (.iconst (-1), 1) := by decide +kernel
theorem dX10_nearest_60 : decode cX10_nearest 60 = .ok (.ireturn, 1) := by decide +kernel
theorem ggX10_stop_X10_within : GoodIn wsX10_stop wsX10_within := gW_in gwX10_within (fun _ h => List.mem_cons_of_mem _ (List.mem_append_right _ (List.mem_append_right _ (List.mem_append_right _ (List.mem_append_right _ (List.mem_append_right _ (List.mem_append_right _ (List.mem_append_left _ h))))))))
set_option maxRecDepth 20000 in
theorem gX10_stop_X10_within : GoodIn wsX10_stop (va_wsS RX10 107 yX10_within wsX10_within) := goodIn_app (goodIn_of _ (by decide +kernel)) ggX10_stop_X10_within
theorem ggX10_stop_X10_demand : GoodIn wsX10_stop wsX10_demand := gW_in gwX10_demand (fun _ h => List.mem_cons_of_mem _ (List.mem_append_right _ (List.mem_append_right _ (List.mem_append_right _ (List.mem_append_right _ (List.mem_append_right _ (List.mem_append_right _ (List.mem_append_right _ (List.mem_append_left _ h)))))))))
set_option maxRecDepth 20000 in
theorem gX10_stop_X10_demand : GoodIn wsX10_stop (wsV RX10 81 RX10 yX10_demand wsX10_demand) := goodIn_app (goodIn_of _ (by decide +kernel)) ggX10_stop_X10_demand
theorem ggX10_stop_X4_take : GoodIn wsX10_stop wsX4_take := gW_in gwX4_take (fun _ h => List.mem_cons_of_mem _ (List.mem_append_right _ (List.mem_append_right _ (List.mem_append_right _ (List.mem_append_right _ (List.mem_append_right _ (List.mem_append_right _ (List.mem_append_right _ (List.mem_append_right _ (List.mem_append_left _ h))))))))))
set_option maxRecDepth 20000 in
theorem gX10_stop_X4_take : GoodIn wsX10_stop (wsV RX10 183 RX4 yX4_take wsX4_take) := goodIn_app (goodIn_of _ (by decide +kernel)) ggX10_stop_X4_take
theorem ggX10_stop_X10_passTried : GoodIn wsX10_stop wsX10_passTried := gW_in gwX10_passTried (fun _ h => List.mem_cons_of_mem _ (List.mem_append_right _ (List.mem_append_right _ (List.mem_append_right _ (List.mem_append_right _ (List.mem_append_right _ (List.mem_append_right _ (List.mem_append_right _ (List.mem_append_right _ (List.mem_append_right _ (List.mem_append_left _ h)))))))))))
set_option maxRecDepth 20000 in
theorem gX10_stop_X10_passTried : GoodIn wsX10_stop (wsV RX10 186 RX10 yX10_passTried wsX10_passTried) := goodIn_app (goodIn_of _ (by decide +kernel)) ggX10_stop_X10_passTried
theorem ggX10_stop_X4_pledge : GoodIn wsX10_stop wsX4_pledge := gW_in gwX4_pledge (fun _ h => List.mem_cons_of_mem _ (List.mem_append_right _ (List.mem_append_right _ (List.mem_append_right _ (List.mem_append_right _ (List.mem_append_right _ (List.mem_append_right _ (List.mem_append_right _ (List.mem_append_right _ (List.mem_append_right _ (List.mem_append_right _ (h))))))))))))
set_option maxRecDepth 20000 in
theorem gX10_stop_X4_pledge : GoodIn wsX10_stop (wsV RX10 140 RX4 yX4_pledge wsX4_pledge) := goodIn_app (goodIn_of _ (by decide +kernel)) ggX10_stop_X4_pledge
theorem dX10_stop_0 : decode cX10_stop 0 = .ok (.aload_n 0, 1) := by decide +kernel
theorem dX10_stop_1 : decode cX10_stop 1 = .ok (.iload_n 1, 1) := by decide +kernel
theorem dX10_stop_2 : decode cX10_stop 2 = .ok (.iconst 1, 1) := by decide +kernel
theorem dX10_stop_3 : decode cX10_stop 3 = .ok (.bipush 60, 2) := by decide +kernel
theorem dX10_stop_5 : decode cX10_stop 5 = .ok (.invokestatic 107, 3) := by decide +kernel
theorem dX10_stop_8 : decode cX10_stop 8 = .ok (.ifCond .eq 16, 3) := by decide +kernel
theorem dX10_stop_11 : decode cX10_stop 11 = .ok (.iload_n 2, 1) := by decide +kernel
theorem dX10_stop_12 : decode cX10_stop 12 = .ok (.iconst 0, 1) := by decide +kernel
theorem dX10_stop_13 : decode cX10_stop 13 = .ok (.iconst 1, 1) := by decide +kernel
theorem dX10_stop_14 : decode cX10_stop 14 = .ok (.invokestatic 107, 3) := by decide +kernel
theorem dX10_stop_17 : decode cX10_stop 17 = .ok (.ifCond .eq 7, 3) := by decide +kernel
theorem dX10_stop_20 : decode cX10_stop 20 = .ok (.iconst 1, 1) := by decide +kernel
theorem dX10_stop_21 : decode cX10_stop 21 = .ok (.goto 4, 3) := by decide +kernel
theorem dX10_stop_24 : decode cX10_stop 24 = .ok (.iconst 0, 1) := by decide +kernel
theorem dX10_stop_25 : decode cX10_stop 25 = .ok (.invokevirtual 81, 3) := by decide +kernel
theorem dX10_stop_28 : decode cX10_stop 28 = .ok (.iconst 0, 1) := by decide +kernel
theorem dX10_stop_29 : decode cX10_stop 29 = .ok (.istore_n 3, 1) := by decide +kernel
theorem dX10_stop_30 : decode cX10_stop 30 = .ok (.iconst (-1), 1) := by decide +kernel
theorem dX10_stop_31 : decode cX10_stop 31 = .ok (.istore 4, 2) := by decide +kernel
theorem dX10_stop_33 : decode cX10_stop 33 = .ok (.iconst 0, 1) := by decide +kernel
theorem dX10_stop_34 : decode cX10_stop 34 = .ok (.istore 5, 2) := by decide +kernel
theorem dX10_stop_36 : decode cX10_stop 36 = .ok (.iload 5, 2) := by decide +kernel
theorem dX10_stop_38 : decode cX10_stop 38 = .ok (.iload_n 1, 1) := by decide +kernel
theorem dX10_stop_39 : decode cX10_stop 39 = .ok (.if_icmp .gt 73, 3) := by decide +kernel
theorem dX10_stop_42 : decode cX10_stop 42 = .ok (.aload_n 0, 1) := by decide +kernel
theorem dX10_stop_43 : decode cX10_stop 43 = .ok (.getfield 50, 3) := by decide +kernel
theorem dX10_stop_46 : decode cX10_stop 46 = .ok (.aload_n 0, 1) := by decide +kernel
theorem dX10_stop_47 : decode cX10_stop 47 = .ok (.getfield 39, 3) := by decide +kernel
theorem dX10_stop_50 : decode cX10_stop 50 = .ok (.getfield 66, 3) := by decide +kernel
theorem dX10_stop_53 : decode cX10_stop 53 = .ok (.invokevirtual 183, 3) := by decide +kernel
theorem dX10_stop_56 : decode cX10_stop 56 = .ok (.aload_n 0, 1) := by decide +kernel
theorem dX10_stop_57 : decode cX10_stop 57 = .ok (.iload 5, 2) := by decide +kernel
theorem dX10_stop_59 : decode cX10_stop 59 = .ok (.invokevirtual 186, 3) := by decide +kernel
theorem dX10_stop_62 : decode cX10_stop 62 = .ok (.aload_n 0, 1) := by decide +kernel
theorem dX10_stop_63 : decode cX10_stop 63 = .ok (.getfield 50, 3) := by decide +kernel
theorem dX10_stop_66 : decode cX10_stop 66 = .ok (.iconst (-1), 1) := by decide +kernel
theorem dX10_stop_67 : decode cX10_stop 67 = .ok (.invokevirtual 140, 3) := by decide +kernel
theorem dX10_stop_70 : decode cX10_stop 70 = .ok (.aload_n 0, 1) := by decide +kernel
theorem dX10_stop_71 : decode cX10_stop 71 = .ok (.iload_n 1, 1) := by decide +kernel
theorem dX10_stop_72 : decode cX10_stop 72 = .ok (.iload 5, 2) := by decide +kernel
theorem dX10_stop_74 : decode cX10_stop 74 = .ok (.isub, 1) := by decide +kernel
theorem dX10_stop_75 : decode cX10_stop 75 = .ok (.invokevirtual 186, 3) := by decide +kernel
theorem dX10_stop_78 : decode cX10_stop 78 = .ok (.aload_n 0, 1) := by decide +kernel
theorem dX10_stop_79 : decode cX10_stop 79 = .ok (.getfield 50, 3) := by decide +kernel
theorem dX10_stop_82 : decode cX10_stop 82 = .ok (.getfield 111, 3) := by decide +kernel
theorem dX10_stop_85 : decode cX10_stop 85 = .ok (.iconst 0, 1) := by decide +kernel
theorem dX10_stop_86 : decode cX10_stop 86 = .ok (.iaload, 1) := by decide +kernel
theorem dX10_stop_87 : decode cX10_stop 87 = .ok (.iload 4, 2) := by decide +kernel
theorem dX10_stop_89 : decode cX10_stop 89 = .ok (.if_icmp .le 17, 3) := by decide +kernel
theorem dX10_stop_92 : decode cX10_stop 92 = .ok (.aload_n 0, 1) := by decide +kernel
theorem dX10_stop_93 : decode cX10_stop 93 = .ok (.getfield 50, 3) := by decide +kernel
theorem dX10_stop_96 : decode cX10_stop 96 = .ok (.getfield 111, 3) := by decide +kernel
theorem dX10_stop_99 : decode cX10_stop 99 = .ok (.iconst 0, 1) := by decide +kernel
theorem dX10_stop_100 : decode cX10_stop 100 = .ok (.iaload, 1) := by decide +kernel
theorem dX10_stop_101 : decode cX10_stop 101 = .ok (.istore 4, 2) := by decide +kernel
theorem dX10_stop_103 : decode cX10_stop 103 = .ok (.iload 5, 2) := by decide +kernel
theorem dX10_stop_105 : decode cX10_stop 105 = .ok (.istore_n 3, 1) := by decide +kernel
theorem dX10_stop_106 : decode cX10_stop 106 = .ok (.iinc 5 1, 3) := by decide +kernel
theorem dX10_stop_109 : decode cX10_stop 109 = .ok (.goto (-73), 3) := by decide +kernel
theorem dX10_stop_112 : decode cX10_stop 112 = .ok (.iload_n 2, 1) := by decide +kernel
theorem dX10_stop_113 : decode cX10_stop 113 = .ok (.ifCond .ne 7, 3) := by decide +kernel
theorem dX10_stop_116 : decode cX10_stop 116 = .ok (.iload_n 3, 1) := by decide +kernel
theorem dX10_stop_117 : decode cX10_stop 117 = .ok (.goto 5, 3) := by decide +kernel
theorem dX10_stop_120 : decode cX10_stop 120 = .ok (.iload 4, 2) := by decide +kernel
theorem dX10_stop_122 : decode cX10_stop 122 = .ok (.ireturn, 1) := by decide +kernel
theorem ggX10_odds_X10_within : GoodIn wsX10_odds wsX10_within := gW_in gwX10_within (fun _ h => List.mem_cons_of_mem _ (List.mem_append_right _ (List.mem_append_right _ (List.mem_append_right _ (List.mem_append_right _ (List.mem_append_left _ h))))))
set_option maxRecDepth 20000 in
theorem gX10_odds_X10_within : GoodIn wsX10_odds (va_wsS RX10 107 yX10_within wsX10_within) := goodIn_app (goodIn_of _ (by decide +kernel)) ggX10_odds_X10_within
theorem ggX10_odds_X10_demand : GoodIn wsX10_odds wsX10_demand := gW_in gwX10_demand (fun _ h => List.mem_cons_of_mem _ (List.mem_append_right _ (List.mem_append_right _ (List.mem_append_right _ (List.mem_append_right _ (List.mem_append_right _ (List.mem_append_left _ h)))))))
set_option maxRecDepth 20000 in
theorem gX10_odds_X10_demand : GoodIn wsX10_odds (wsV RX10 81 RX10 yX10_demand wsX10_demand) := goodIn_app (goodIn_of _ (by decide +kernel)) ggX10_odds_X10_demand
theorem ggX10_odds_X2_start : GoodIn wsX10_odds wsX2_start := gW_in gwX2_start (fun _ h => List.mem_cons_of_mem _ (List.mem_append_right _ (List.mem_append_right _ (List.mem_append_right _ (List.mem_append_right _ (List.mem_append_right _ (List.mem_append_right _ (h))))))))
set_option maxRecDepth 20000 in
theorem gX10_odds_X2_start : GoodIn wsX10_odds (wsV RX10 193 RX2 yX2_start wsX2_start) := goodIn_app (goodIn_of _ (by decide +kernel)) ggX10_odds_X2_start
theorem dX10_odds_0 : decode cX10_odds 0 = .ok (.aload_n 0, 1) := by decide +kernel
theorem dX10_odds_1 : decode cX10_odds 1 = .ok (.iload_n 1, 1) := by decide +kernel
theorem dX10_odds_2 : decode cX10_odds 2 = .ok (.iconst 1, 1) := by decide +kernel
theorem dX10_odds_3 : decode cX10_odds 3 = .ok (.bipush 99, 2) := by decide +kernel
theorem dX10_odds_5 : decode cX10_odds 5 = .ok (.invokestatic 107, 3) := by decide +kernel
theorem dX10_odds_8 : decode cX10_odds 8 = .ok (.ifCond .eq 17, 3) := by decide +kernel
theorem dX10_odds_11 : decode cX10_odds 11 = .ok (.iload_n 2, 1) := by decide +kernel
theorem dX10_odds_12 : decode cX10_odds 12 = .ok (.iconst 1, 1) := by decide +kernel
theorem dX10_odds_13 : decode cX10_odds 13 = .ok (.bipush 99, 2) := by decide +kernel
theorem dX10_odds_15 : decode cX10_odds 15 = .ok (.invokestatic 107, 3) := by decide +kernel
theorem dX10_odds_18 : decode cX10_odds 18 = .ok (.ifCond .eq 7, 3) := by decide +kernel
theorem dX10_odds_21 : decode cX10_odds 21 = .ok (.iconst 1, 1) := by decide +kernel
theorem dX10_odds_22 : decode cX10_odds 22 = .ok (.goto 4, 3) := by decide +kernel
theorem dX10_odds_25 : decode cX10_odds 25 = .ok (.iconst 0, 1) := by decide +kernel
theorem dX10_odds_26 : decode cX10_odds 26 = .ok (.invokevirtual 81, 3) := by decide +kernel
theorem dX10_odds_29 : decode cX10_odds 29 = .ok (.aload_n 0, 1) := by decide +kernel
theorem dX10_odds_30 : decode cX10_odds 30 = .ok (.getfield 39, 3) := by decide +kernel
theorem dX10_odds_33 : decode cX10_odds 33 = .ok (.getfield 189, 3) := by decide +kernel
theorem dX10_odds_36 : decode cX10_odds 36 = .ok (.iload_n 1, 1) := by decide +kernel
theorem dX10_odds_37 : decode cX10_odds 37 = .ok (.iload_n 2, 1) := by decide +kernel
theorem dX10_odds_38 : decode cX10_odds 38 = .ok (.invokevirtual 193, 3) := by decide +kernel
theorem dX10_odds_41 : decode cX10_odds 41 = .ok (.return_, 1) := by decide +kernel
theorem ggX10_kind_X10_within : GoodIn wsX10_kind wsX10_within := gW_in gwX10_within (fun _ h => List.mem_cons_of_mem _ (List.mem_append_right _ (List.mem_append_right _ (List.mem_append_right _ (List.mem_append_right _ (List.mem_append_left _ h))))))
set_option maxRecDepth 20000 in
theorem gX10_kind_X10_within : GoodIn wsX10_kind (va_wsS RX10 107 yX10_within wsX10_within) := goodIn_app (goodIn_of _ (by decide +kernel)) ggX10_kind_X10_within
theorem ggX10_kind_X10_demand : GoodIn wsX10_kind wsX10_demand := gW_in gwX10_demand (fun _ h => List.mem_cons_of_mem _ (List.mem_append_right _ (List.mem_append_right _ (List.mem_append_right _ (List.mem_append_right _ (List.mem_append_right _ (h)))))))
set_option maxRecDepth 20000 in
theorem gX10_kind_X10_demand : GoodIn wsX10_kind (wsV RX10 81 RX10 yX10_demand wsX10_demand) := goodIn_app (goodIn_of _ (by decide +kernel)) ggX10_kind_X10_demand
theorem dX10_kind_0 : decode cX10_kind 0 = .ok (.aload_n 0, 1) := by decide +kernel
theorem dX10_kind_1 : decode cX10_kind 1 = .ok (.iload_n 1, 1) := by decide +kernel
theorem dX10_kind_2 : decode cX10_kind 2 = .ok (.iconst 0, 1) := by decide +kernel
theorem dX10_kind_3 : decode cX10_kind 3 = .ok (.iconst 3, 1) := by decide +kernel
theorem dX10_kind_4 : decode cX10_kind 4 = .ok (.invokestatic 107, 3) := by decide +kernel
theorem dX10_kind_7 : decode cX10_kind 7 = .ok (.ifCond .eq 27, 3) := by decide +kernel
theorem dX10_kind_10 : decode cX10_kind 10 = .ok (.iload_n 2, 1) := by decide +kernel
theorem dX10_kind_11 : decode cX10_kind 11 = .ok (.iconst 1, 1) := by decide +kernel
theorem dX10_kind_12 : decode cX10_kind 12 = .ok (.bipush 16, 2) := by decide +kernel
theorem dX10_kind_14 : decode cX10_kind 14 = .ok (.invokestatic 107, 3) := by decide +kernel
theorem dX10_kind_17 : decode cX10_kind 17 = .ok (.ifCond .eq 17, 3) := by decide +kernel
theorem dX10_kind_20 : decode cX10_kind 20 = .ok (.iload_n 3, 1) := by decide +kernel
theorem dX10_kind_21 : decode cX10_kind 21 = .ok (.iconst 1, 1) := by decide +kernel
theorem dX10_kind_22 : decode cX10_kind 22 = .ok (.bipush 16, 2) := by decide +kernel
theorem dX10_kind_24 : decode cX10_kind 24 = .ok (.invokestatic 107, 3) := by decide +kernel
theorem dX10_kind_27 : decode cX10_kind 27 = .ok (.ifCond .eq 7, 3) := by decide +kernel
theorem dX10_kind_30 : decode cX10_kind 30 = .ok (.iconst 1, 1) := by decide +kernel
theorem dX10_kind_31 : decode cX10_kind 31 = .ok (.goto 4, 3) := by decide +kernel
theorem dX10_kind_34 : decode cX10_kind 34 = .ok (.iconst 0, 1) := by decide +kernel
theorem dX10_kind_35 : decode cX10_kind 35 = .ok (.invokevirtual 81, 3) := by decide +kernel
theorem dX10_kind_38 : decode cX10_kind 38 = .ok (.aload_n 0, 1) := by decide +kernel
theorem dX10_kind_39 : decode cX10_kind 39 = .ok (.getfield 39, 3) := by decide +kernel
theorem dX10_kind_42 : decode cX10_kind 42 = .ok (.getfield 189, 3) := by decide +kernel
theorem dX10_kind_45 : decode cX10_kind 45 = .ok (.getfield 199, 3) := by decide +kernel
theorem dX10_kind_48 : decode cX10_kind 48 = .ok (.iload_n 1, 1) := by decide +kernel
theorem dX10_kind_49 : decode cX10_kind 49 = .ok (.iload_n 2, 1) := by decide +kernel
theorem dX10_kind_50 : decode cX10_kind 50 = .ok (.iastore, 1) := by decide +kernel
theorem dX10_kind_51 : decode cX10_kind 51 = .ok (.aload_n 0, 1) := by decide +kernel
theorem dX10_kind_52 : decode cX10_kind 52 = .ok (.getfield 39, 3) := by decide +kernel
theorem dX10_kind_55 : decode cX10_kind 55 = .ok (.getfield 189, 3) := by decide +kernel
theorem dX10_kind_58 : decode cX10_kind 58 = .ok (.getfield 202, 3) := by decide +kernel
theorem dX10_kind_61 : decode cX10_kind 61 = .ok (.iload_n 1, 1) := by decide +kernel
theorem dX10_kind_62 : decode cX10_kind 62 = .ok (.iload_n 3, 1) := by decide +kernel
theorem dX10_kind_63 : decode cX10_kind 63 = .ok (.iastore, 1) := by decide +kernel
theorem dX10_kind_64 : decode cX10_kind 64 = .ok (.return_, 1) := by decide +kernel
theorem ggX10_seen_X10_within : GoodIn wsX10_seen wsX10_within := gW_in gwX10_within (fun _ h => List.mem_cons_of_mem _ (List.mem_append_right _ (List.mem_append_right _ (List.mem_append_right _ (List.mem_append_right _ (List.mem_append_left _ h))))))
set_option maxRecDepth 20000 in
theorem gX10_seen_X10_within : GoodIn wsX10_seen (va_wsS RX10 107 yX10_within wsX10_within) := goodIn_app (goodIn_of _ (by decide +kernel)) ggX10_seen_X10_within
theorem ggX10_seen_X10_demand : GoodIn wsX10_seen wsX10_demand := gW_in gwX10_demand (fun _ h => List.mem_cons_of_mem _ (List.mem_append_right _ (List.mem_append_right _ (List.mem_append_right _ (List.mem_append_right _ (List.mem_append_right _ (List.mem_append_left _ h)))))))
set_option maxRecDepth 20000 in
theorem gX10_seen_X10_demand : GoodIn wsX10_seen (wsV RX10 81 RX10 yX10_demand wsX10_demand) := goodIn_app (goodIn_of _ (by decide +kernel)) ggX10_seen_X10_demand
theorem ggX10_seen_X2_add : GoodIn wsX10_seen wsX2_add := gW_in gwX2_add (fun _ h => List.mem_cons_of_mem _ (List.mem_append_right _ (List.mem_append_right _ (List.mem_append_right _ (List.mem_append_right _ (List.mem_append_right _ (List.mem_append_right _ (h))))))))
set_option maxRecDepth 20000 in
theorem gX10_seen_X2_add : GoodIn wsX10_seen (wsV RX10 205 RX2 yX2_add wsX2_add) := goodIn_app (goodIn_of _ (by decide +kernel)) ggX10_seen_X2_add
theorem dX10_seen_0 : decode cX10_seen 0 = .ok (.aload_n 0, 1) := by decide +kernel
theorem dX10_seen_1 : decode cX10_seen 1 = .ok (.iload_n 1, 1) := by decide +kernel
theorem dX10_seen_2 : decode cX10_seen 2 = .ok (.iconst 0, 1) := by decide +kernel
theorem dX10_seen_3 : decode cX10_seen 3 = .ok (.iconst 3, 1) := by decide +kernel
theorem dX10_seen_4 : decode cX10_seen 4 = .ok (.invokestatic 107, 3) := by decide +kernel
theorem dX10_seen_7 : decode cX10_seen 7 = .ok (.invokevirtual 81, 3) := by decide +kernel
theorem dX10_seen_10 : decode cX10_seen 10 = .ok (.aload_n 0, 1) := by decide +kernel
theorem dX10_seen_11 : decode cX10_seen 11 = .ok (.getfield 39, 3) := by decide +kernel
theorem dX10_seen_14 : decode cX10_seen 14 = .ok (.getfield 189, 3) := by decide +kernel
theorem dX10_seen_17 : decode cX10_seen 17 = .ok (.astore_n 2, 1) := by decide +kernel
theorem dX10_seen_18 : decode cX10_seen 18 = .ok (.aload_n 2, 1) := by decide +kernel
theorem dX10_seen_19 : decode cX10_seen 19 = .ok (.aload_n 2, 1) := by decide +kernel
theorem dX10_seen_20 : decode cX10_seen 20 = .ok (.getfield 199, 3) := by decide +kernel
theorem dX10_seen_23 : decode cX10_seen 23 = .ok (.iload_n 1, 1) := by decide +kernel
theorem dX10_seen_24 : decode cX10_seen 24 = .ok (.iaload, 1) := by decide +kernel
theorem dX10_seen_25 : decode cX10_seen 25 = .ok (.aload_n 2, 1) := by decide +kernel
theorem dX10_seen_26 : decode cX10_seen 26 = .ok (.getfield 202, 3) := by decide +kernel
theorem dX10_seen_29 : decode cX10_seen 29 = .ok (.iload_n 1, 1) := by decide +kernel
theorem dX10_seen_30 : decode cX10_seen 30 = .ok (.iaload, 1) := by decide +kernel
theorem dX10_seen_31 : decode cX10_seen 31 = .ok (.invokevirtual 205, 3) := by decide +kernel
theorem dX10_seen_34 : decode cX10_seen 34 = .ok (.ireturn, 1) := by decide +kernel
theorem ggX10_spy_X10_within : GoodIn wsX10_spy wsX10_within := gW_in gwX10_within (fun _ h => List.mem_cons_of_mem _ (List.mem_append_right _ (List.mem_append_right _ (List.mem_append_right _ (List.mem_append_right _ (List.mem_append_left _ h))))))
set_option maxRecDepth 20000 in
theorem gX10_spy_X10_within : GoodIn wsX10_spy (va_wsS RX10 107 yX10_within wsX10_within) := goodIn_app (goodIn_of _ (by decide +kernel)) ggX10_spy_X10_within
theorem ggX10_spy_X10_demand : GoodIn wsX10_spy wsX10_demand := gW_in gwX10_demand (fun _ h => List.mem_cons_of_mem _ (List.mem_append_right _ (List.mem_append_right _ (List.mem_append_right _ (List.mem_append_right _ (List.mem_append_right _ (List.mem_append_left _ h)))))))
set_option maxRecDepth 20000 in
theorem gX10_spy_X10_demand : GoodIn wsX10_spy (wsV RX10 81 RX10 yX10_demand wsX10_demand) := goodIn_app (goodIn_of _ (by decide +kernel)) ggX10_spy_X10_demand
theorem ggX10_spy_X2_add : GoodIn wsX10_spy wsX2_add := gW_in gwX2_add (fun _ h => List.mem_cons_of_mem _ (List.mem_append_right _ (List.mem_append_right _ (List.mem_append_right _ (List.mem_append_right _ (List.mem_append_right _ (List.mem_append_right _ (h))))))))
set_option maxRecDepth 20000 in
theorem gX10_spy_X2_add : GoodIn wsX10_spy (wsV RX10 205 RX2 yX2_add wsX2_add) := goodIn_app (goodIn_of _ (by decide +kernel)) ggX10_spy_X2_add
theorem dX10_spy_0 : decode cX10_spy 0 = .ok (.aload_n 0, 1) := by decide +kernel
theorem dX10_spy_1 : decode cX10_spy 1 = .ok (.iload_n 2, 1) := by decide +kernel
theorem dX10_spy_2 : decode cX10_spy 2 = .ok (.iconst 1, 1) := by decide +kernel
theorem dX10_spy_3 : decode cX10_spy 3 = .ok (.bipush 15, 2) := by decide +kernel
theorem dX10_spy_5 : decode cX10_spy 5 = .ok (.invokestatic 107, 3) := by decide +kernel
theorem dX10_spy_8 : decode cX10_spy 8 = .ok (.invokevirtual 81, 3) := by decide +kernel
theorem dX10_spy_11 : decode cX10_spy 11 = .ok (.bipush 16, 2) := by decide +kernel
theorem dX10_spy_13 : decode cX10_spy 13 = .ok (.iload_n 2, 1) := by decide +kernel
theorem dX10_spy_14 : decode cX10_spy 14 = .ok (.isub, 1) := by decide +kernel
theorem dX10_spy_15 : decode cX10_spy 15 = .ok (.istore_n 3, 1) := by decide +kernel
theorem dX10_spy_16 : decode cX10_spy 16 = .ok (.iload_n 1, 1) := by decide +kernel
theorem dX10_spy_17 : decode cX10_spy 17 = .ok (.ifCond .eq 18, 3) := by decide +kernel
theorem dX10_spy_20 : decode cX10_spy 20 = .ok (.aload_n 0, 1) := by decide +kernel
theorem dX10_spy_21 : decode cX10_spy 21 = .ok (.getfield 39, 3) := by decide +kernel
theorem dX10_spy_24 : decode cX10_spy 24 = .ok (.getfield 189, 3) := by decide +kernel
theorem dX10_spy_27 : decode cX10_spy 27 = .ok (.iload_n 2, 1) := by decide +kernel
theorem dX10_spy_28 : decode cX10_spy 28 = .ok (.iload_n 3, 1) := by decide +kernel
theorem dX10_spy_29 : decode cX10_spy 29 = .ok (.invokevirtual 205, 3) := by decide +kernel
theorem dX10_spy_32 : decode cX10_spy 32 = .ok (.goto 15, 3) := by decide +kernel
theorem dX10_spy_35 : decode cX10_spy 35 = .ok (.aload_n 0, 1) := by decide +kernel
theorem dX10_spy_36 : decode cX10_spy 36 = .ok (.getfield 39, 3) := by decide +kernel
theorem dX10_spy_39 : decode cX10_spy 39 = .ok (.getfield 189, 3) := by decide +kernel
theorem dX10_spy_42 : decode cX10_spy 42 = .ok (.iload_n 3, 1) := by decide +kernel
theorem dX10_spy_43 : decode cX10_spy 43 = .ok (.iload_n 2, 1) := by decide +kernel
theorem dX10_spy_44 : decode cX10_spy 44 = .ok (.invokevirtual 205, 3) := by decide +kernel
theorem dX10_spy_47 : decode cX10_spy 47 = .ok (.ireturn, 1) := by decide +kernel
theorem ggX10_believed_X10_within : GoodIn wsX10_believed wsX10_within := gW_in gwX10_within (fun _ h => List.mem_cons_of_mem _ (List.mem_append_right _ (List.mem_append_right _ (List.mem_append_right _ (List.mem_append_right _ (List.mem_append_left _ h))))))
set_option maxRecDepth 20000 in
theorem gX10_believed_X10_within : GoodIn wsX10_believed (va_wsS RX10 107 yX10_within wsX10_within) := goodIn_app (goodIn_of _ (by decide +kernel)) ggX10_believed_X10_within
theorem ggX10_believed_X10_demand : GoodIn wsX10_believed wsX10_demand := gW_in gwX10_demand (fun _ h => List.mem_cons_of_mem _ (List.mem_append_right _ (List.mem_append_right _ (List.mem_append_right _ (List.mem_append_right _ (List.mem_append_right _ (List.mem_append_left _ h)))))))
set_option maxRecDepth 20000 in
theorem gX10_believed_X10_demand : GoodIn wsX10_believed (wsV RX10 81 RX10 yX10_demand wsX10_demand) := goodIn_app (goodIn_of _ (by decide +kernel)) ggX10_believed_X10_demand
theorem ggX10_believed_X2_leastTerm : GoodIn wsX10_believed wsX2_leastTerm := gW_in gwX2_leastTerm (fun _ h => List.mem_cons_of_mem _ (List.mem_append_right _ (List.mem_append_right _ (List.mem_append_right _ (List.mem_append_right _ (List.mem_append_right _ (List.mem_append_right _ (h))))))))
set_option maxRecDepth 20000 in
theorem gX10_believed_X2_leastTerm : GoodIn wsX10_believed (wsV RX10 208 RX2 yX2_leastTerm wsX2_leastTerm) := goodIn_app (goodIn_of _ (by decide +kernel)) ggX10_believed_X2_leastTerm
theorem dX10_believed_0 : decode cX10_believed 0 = .ok (.aload_n 0, 1) := by decide +kernel
theorem dX10_believed_1 : decode cX10_believed 1 = .ok (.iload_n 1, 1) := by decide +kernel
theorem dX10_believed_2 : decode cX10_believed 2 = .ok (.iconst 0, 1) := by decide +kernel
theorem dX10_believed_3 : decode cX10_believed 3 = .ok (.iconst 1, 1) := by decide +kernel
theorem dX10_believed_4 : decode cX10_believed 4 = .ok (.invokestatic 107, 3) := by decide +kernel
theorem dX10_believed_7 : decode cX10_believed 7 = .ok (.invokevirtual 81, 3) := by decide +kernel
theorem dX10_believed_10 : decode cX10_believed 10 = .ok (.aload_n 0, 1) := by decide +kernel
theorem dX10_believed_11 : decode cX10_believed 11 = .ok (.getfield 39, 3) := by decide +kernel
theorem dX10_believed_14 : decode cX10_believed 14 = .ok (.getfield 189, 3) := by decide +kernel
theorem dX10_believed_17 : decode cX10_believed 17 = .ok (.iload_n 1, 1) := by decide +kernel
theorem dX10_believed_18 : decode cX10_believed 18 = .ok (.ifCond .ne 7, 3) := by decide +kernel
theorem dX10_believed_21 : decode cX10_believed 21 = .ok (.iconst 1, 1) := by decide +kernel
theorem dX10_believed_22 : decode cX10_believed 22 = .ok (.goto 4, 3) := by decide +kernel
theorem dX10_believed_25 : decode cX10_believed 25 = .ok (.iconst 0, 1) := by decide +kernel
theorem dX10_believed_26 : decode cX10_believed 26 = .ok (.invokevirtual 208, 3) := by decide +kernel
theorem dX10_believed_29 : decode cX10_believed 29 = .ok (.lreturn, 1) := by decide +kernel
theorem ggX10_earnest_X10_within : GoodIn wsX10_earnest wsX10_within := gW_in gwX10_within (fun _ h => List.mem_cons_of_mem _ (List.mem_append_right _ (List.mem_append_right _ (List.mem_append_right _ (List.mem_append_right _ (List.mem_append_left _ h))))))
set_option maxRecDepth 20000 in
theorem gX10_earnest_X10_within : GoodIn wsX10_earnest (va_wsS RX10 107 yX10_within wsX10_within) := goodIn_app (goodIn_of _ (by decide +kernel)) ggX10_earnest_X10_within
theorem ggX10_earnest_X10_demand : GoodIn wsX10_earnest wsX10_demand := gW_in gwX10_demand (fun _ h => List.mem_cons_of_mem _ (List.mem_append_right _ (List.mem_append_right _ (List.mem_append_right _ (List.mem_append_right _ (List.mem_append_right _ (List.mem_append_left _ h)))))))
set_option maxRecDepth 20000 in
theorem gX10_earnest_X10_demand : GoodIn wsX10_earnest (wsV RX10 81 RX10 yX10_demand wsX10_demand) := goodIn_app (goodIn_of _ (by decide +kernel)) ggX10_earnest_X10_demand
theorem ggX10_earnest_X1_prepare : GoodIn wsX10_earnest wsX1_prepare := gW_in gwX1_prepare (fun _ h => List.mem_cons_of_mem _ (List.mem_append_right _ (List.mem_append_right _ (List.mem_append_right _ (List.mem_append_right _ (List.mem_append_right _ (List.mem_append_right _ (List.mem_append_left _ h))))))))
set_option maxRecDepth 20000 in
theorem gX10_earnest_X1_prepare : GoodIn wsX10_earnest (wsV RX10 212 RX1 yX1_prepare wsX1_prepare) := goodIn_app (goodIn_of _ (by decide +kernel)) ggX10_earnest_X1_prepare
theorem ggX10_earnest_X1_all : GoodIn wsX10_earnest wsX1_all := gW_in gwX1_all (fun _ h => List.mem_cons_of_mem _ (List.mem_append_right _ (List.mem_append_right _ (List.mem_append_right _ (List.mem_append_right _ (List.mem_append_right _ (List.mem_append_right _ (List.mem_append_right _ (List.mem_append_left _ h)))))))))
set_option maxRecDepth 20000 in
theorem gX10_earnest_X1_all : GoodIn wsX10_earnest (wsV RX10 215 RX1 yX1_all wsX1_all) := goodIn_app (goodIn_of _ (by decide +kernel)) ggX10_earnest_X1_all
theorem ggX10_earnest_X1_safe : GoodIn wsX10_earnest wsX1_safe := gW_in gwX1_safe (fun _ h => List.mem_cons_of_mem _ (List.mem_append_right _ (List.mem_append_right _ (List.mem_append_right _ (List.mem_append_right _ (List.mem_append_right _ (List.mem_append_right _ (List.mem_append_right _ (List.mem_append_right _ (List.mem_append_left _ h))))))))))
set_option maxRecDepth 20000 in
theorem gX10_earnest_X1_safe : GoodIn wsX10_earnest (wsV RX10 219 RX1 yX1_safe wsX1_safe) := goodIn_app (goodIn_of _ (by decide +kernel)) ggX10_earnest_X1_safe
theorem ggX10_earnest_X1_sure : GoodIn wsX10_earnest wsX1_sure := gW_in gwX1_sure (fun _ h => List.mem_cons_of_mem _ (List.mem_append_right _ (List.mem_append_right _ (List.mem_append_right _ (List.mem_append_right _ (List.mem_append_right _ (List.mem_append_right _ (List.mem_append_right _ (List.mem_append_right _ (List.mem_append_right _ (h)))))))))))
set_option maxRecDepth 20000 in
theorem gX10_earnest_X1_sure : GoodIn wsX10_earnest (wsV RX10 223 RX1 yX1_sure wsX1_sure) := goodIn_app (goodIn_of _ (by decide +kernel)) ggX10_earnest_X1_sure
theorem dX10_earnest_0 : decode cX10_earnest 0 = .ok (.aload_n 0, 1) := by decide +kernel
theorem dX10_earnest_1 : decode cX10_earnest 1 = .ok (.iload_n 1, 1) := by decide +kernel
theorem dX10_earnest_2 : decode cX10_earnest 2 = .ok (.iconst 0, 1) := by decide +kernel
theorem dX10_earnest_3 : decode cX10_earnest 3 = .ok (.bipush 6, 2) := by decide +kernel
theorem dX10_earnest_5 : decode cX10_earnest 5 = .ok (.invokestatic 107, 3) := by decide +kernel
theorem dX10_earnest_8 : decode cX10_earnest 8 = .ok (.ifCond .eq 26, 3) := by decide +kernel
theorem dX10_earnest_11 : decode cX10_earnest 11 = .ok (.iload_n 2, 1) := by decide +kernel
theorem dX10_earnest_12 : decode cX10_earnest 12 = .ok (.iconst 0, 1) := by decide +kernel
theorem dX10_earnest_13 : decode cX10_earnest 13 = .ok (.bipush 6, 2) := by decide +kernel
theorem dX10_earnest_15 : decode cX10_earnest 15 = .ok (.invokestatic 107, 3) := by decide +kernel
theorem dX10_earnest_18 : decode cX10_earnest 18 = .ok (.ifCond .eq 16, 3) := by decide +kernel
theorem dX10_earnest_21 : decode cX10_earnest 21 = .ok (.iload_n 3, 1) := by decide +kernel
theorem dX10_earnest_22 : decode cX10_earnest 22 = .ok (.iconst 0, 1) := by decide +kernel
theorem dX10_earnest_23 : decode cX10_earnest 23 = .ok (.iconst 1, 1) := by decide +kernel
theorem dX10_earnest_24 : decode cX10_earnest 24 = .ok (.invokestatic 107, 3) := by decide +kernel
theorem dX10_earnest_27 : decode cX10_earnest 27 = .ok (.ifCond .eq 7, 3) := by decide +kernel
theorem dX10_earnest_30 : decode cX10_earnest 30 = .ok (.iconst 1, 1) := by decide +kernel
theorem dX10_earnest_31 : decode cX10_earnest 31 = .ok (.goto 4, 3) := by decide +kernel
theorem dX10_earnest_34 : decode cX10_earnest 34 = .ok (.iconst 0, 1) := by decide +kernel
theorem dX10_earnest_35 : decode cX10_earnest 35 = .ok (.invokevirtual 81, 3) := by decide +kernel
theorem dX10_earnest_38 : decode cX10_earnest 38 = .ok (.aload_n 0, 1) := by decide +kernel
theorem dX10_earnest_39 : decode cX10_earnest 39 = .ok (.getfield 57, 3) := by decide +kernel
theorem dX10_earnest_42 : decode cX10_earnest 42 = .ok (.aload_n 0, 1) := by decide +kernel
theorem dX10_earnest_43 : decode cX10_earnest 43 = .ok (.getfield 23, 3) := by decide +kernel
theorem dX10_earnest_46 : decode cX10_earnest 46 = .ok (.invokevirtual 212, 3) := by decide +kernel
theorem dX10_earnest_49 : decode cX10_earnest 49 = .ok (.iload_n 3, 1) := by decide +kernel
theorem dX10_earnest_50 : decode cX10_earnest 50 = .ok (.ifCond .ne 22, 3) := by decide +kernel
theorem dX10_earnest_53 : decode cX10_earnest 53 = .ok (.aload_n 0, 1) := by decide +kernel
theorem dX10_earnest_54 : decode cX10_earnest 54 = .ok (.getfield 57, 3) := by decide +kernel
theorem dX10_earnest_57 : decode cX10_earnest 57 = .ok (.aload_n 0, 1) := by decide +kernel
theorem dX10_earnest_58 : decode cX10_earnest 58 = .ok (.getfield 57, 3) := by decide +kernel
theorem dX10_earnest_61 : decode cX10_earnest 61 = .ok (.invokevirtual 215, 3) := by decide +kernel
theorem dX10_earnest_64 : decode cX10_earnest 64 = .ok (.iload_n 1, 1) := by decide +kernel
theorem dX10_earnest_65 : decode cX10_earnest 65 = .ok (.iload_n 2, 1) := by decide +kernel
theorem dX10_earnest_66 : decode cX10_earnest 66 = .ok (.invokevirtual 219, 3) := by decide +kernel
theorem dX10_earnest_69 : decode cX10_earnest 69 = .ok (.goto 12, 3) := by decide +kernel
theorem dX10_earnest_72 : decode cX10_earnest 72 = .ok (.aload_n 0, 1) := by decide +kernel
theorem dX10_earnest_73 : decode cX10_earnest 73 = .ok (.getfield 57, 3) := by decide +kernel
theorem dX10_earnest_76 : decode cX10_earnest 76 = .ok (.iload_n 1, 1) := by decide +kernel
theorem dX10_earnest_77 : decode cX10_earnest 77 = .ok (.iload_n 2, 1) := by decide +kernel
theorem dX10_earnest_78 : decode cX10_earnest 78 = .ok (.invokevirtual 223, 3) := by decide +kernel
theorem dX10_earnest_81 : decode cX10_earnest 81 = .ok (.ireturn, 1) := by decide +kernel
theorem ggX10_stands_X10_within : GoodIn wsX10_stands wsX10_within := gW_in gwX10_within (fun _ h => List.mem_cons_of_mem _ (List.mem_append_right _ (List.mem_append_right _ (List.mem_append_right _ (List.mem_append_right _ (List.mem_append_left _ h))))))
set_option maxRecDepth 20000 in
theorem gX10_stands_X10_within : GoodIn wsX10_stands (va_wsS RX10 107 yX10_within wsX10_within) := goodIn_app (goodIn_of _ (by decide +kernel)) ggX10_stands_X10_within
theorem ggX10_stands_X10_demand : GoodIn wsX10_stands wsX10_demand := gW_in gwX10_demand (fun _ h => List.mem_cons_of_mem _ (List.mem_append_right _ (List.mem_append_right _ (List.mem_append_right _ (List.mem_append_right _ (List.mem_append_right _ (List.mem_append_left _ h)))))))
set_option maxRecDepth 20000 in
theorem gX10_stands_X10_demand : GoodIn wsX10_stands (wsV RX10 81 RX10 yX10_demand wsX10_demand) := goodIn_app (goodIn_of _ (by decide +kernel)) ggX10_stands_X10_demand
theorem ggX10_stands_X1_prepare : GoodIn wsX10_stands wsX1_prepare := gW_in gwX1_prepare (fun _ h => List.mem_cons_of_mem _ (List.mem_append_right _ (List.mem_append_right _ (List.mem_append_right _ (List.mem_append_right _ (List.mem_append_right _ (List.mem_append_right _ (List.mem_append_left _ h))))))))
set_option maxRecDepth 20000 in
theorem gX10_stands_X1_prepare : GoodIn wsX10_stands (wsV RX10 212 RX1 yX1_prepare wsX1_prepare) := goodIn_app (goodIn_of _ (by decide +kernel)) ggX10_stands_X1_prepare
theorem ggX10_stands_X1_all : GoodIn wsX10_stands wsX1_all := gW_in gwX1_all (fun _ h => List.mem_cons_of_mem _ (List.mem_append_right _ (List.mem_append_right _ (List.mem_append_right _ (List.mem_append_right _ (List.mem_append_right _ (List.mem_append_right _ (List.mem_append_right _ (List.mem_append_left _ h)))))))))
set_option maxRecDepth 20000 in
theorem gX10_stands_X1_all : GoodIn wsX10_stands (wsV RX10 215 RX1 yX1_all wsX1_all) := goodIn_app (goodIn_of _ (by decide +kernel)) ggX10_stands_X1_all
theorem ggX10_stands_X1_safe : GoodIn wsX10_stands wsX1_safe := gW_in gwX1_safe (fun _ h => List.mem_cons_of_mem _ (List.mem_append_right _ (List.mem_append_right _ (List.mem_append_right _ (List.mem_append_right _ (List.mem_append_right _ (List.mem_append_right _ (List.mem_append_right _ (List.mem_append_right _ (h))))))))))
set_option maxRecDepth 20000 in
theorem gX10_stands_X1_safe : GoodIn wsX10_stands (wsV RX10 219 RX1 yX1_safe wsX1_safe) := goodIn_app (goodIn_of _ (by decide +kernel)) ggX10_stands_X1_safe
theorem dX10_stands_0 : decode cX10_stands 0 = .ok (.aload_n 0, 1) := by decide +kernel
theorem dX10_stands_1 : decode cX10_stands 1 = .ok (.iload_n 1, 1) := by decide +kernel
theorem dX10_stands_2 : decode cX10_stands 2 = .ok (.iconst 0, 1) := by decide +kernel
theorem dX10_stands_3 : decode cX10_stands 3 = .ok (.bipush 6, 2) := by decide +kernel
theorem dX10_stands_5 : decode cX10_stands 5 = .ok (.invokestatic 107, 3) := by decide +kernel
theorem dX10_stands_8 : decode cX10_stands 8 = .ok (.ifCond .eq 17, 3) := by decide +kernel
theorem dX10_stands_11 : decode cX10_stands 11 = .ok (.iload_n 2, 1) := by decide +kernel
theorem dX10_stands_12 : decode cX10_stands 12 = .ok (.iconst 0, 1) := by decide +kernel
theorem dX10_stands_13 : decode cX10_stands 13 = .ok (.bipush 6, 2) := by decide +kernel
theorem dX10_stands_15 : decode cX10_stands 15 = .ok (.invokestatic 107, 3) := by decide +kernel
theorem dX10_stands_18 : decode cX10_stands 18 = .ok (.ifCond .eq 7, 3) := by decide +kernel
theorem dX10_stands_21 : decode cX10_stands 21 = .ok (.iconst 1, 1) := by decide +kernel
theorem dX10_stands_22 : decode cX10_stands 22 = .ok (.goto 4, 3) := by decide +kernel
theorem dX10_stands_25 : decode cX10_stands 25 = .ok (.iconst 0, 1) := by decide +kernel
theorem dX10_stands_26 : decode cX10_stands 26 = .ok (.invokevirtual 81, 3) := by decide +kernel
theorem dX10_stands_29 : decode cX10_stands 29 = .ok (.aload_n 0, 1) := by decide +kernel
theorem dX10_stands_30 : decode cX10_stands 30 = .ok (.getfield 57, 3) := by decide +kernel
theorem dX10_stands_33 : decode cX10_stands 33 = .ok (.aload_n 0, 1) := by decide +kernel
theorem dX10_stands_34 : decode cX10_stands 34 = .ok (.getfield 23, 3) := by decide +kernel
theorem dX10_stands_37 : decode cX10_stands 37 = .ok (.invokevirtual 212, 3) := by decide +kernel
theorem dX10_stands_40 : decode cX10_stands 40 = .ok (.aload_n 0, 1) := by decide +kernel
theorem dX10_stands_41 : decode cX10_stands 41 = .ok (.getfield 57, 3) := by decide +kernel
theorem dX10_stands_44 : decode cX10_stands 44 = .ok (.aload_n 0, 1) := by decide +kernel
theorem dX10_stands_45 : decode cX10_stands 45 = .ok (.getfield 57, 3) := by decide +kernel
theorem dX10_stands_48 : decode cX10_stands 48 = .ok (.invokevirtual 215, 3) := by decide +kernel
theorem dX10_stands_51 : decode cX10_stands 51 = .ok (.iload_n 1, 1) := by decide +kernel
theorem dX10_stands_52 : decode cX10_stands 52 = .ok (.iload_n 2, 1) := by decide +kernel
theorem dX10_stands_53 : decode cX10_stands 53 = .ok (.invokevirtual 219, 3) := by decide +kernel
theorem dX10_stands_56 : decode cX10_stands 56 = .ok (.pop, 1) := by decide +kernel
theorem dX10_stands_57 : decode cX10_stands 57 = .ok (.aload_n 0, 1) := by decide +kernel
theorem dX10_stands_58 : decode cX10_stands 58 = .ok (.getfield 57, 3) := by decide +kernel
theorem dX10_stands_61 : decode cX10_stands 61 = .ok (.getfield 226, 3) := by decide +kernel
theorem dX10_stands_64 : decode cX10_stands 64 = .ok (.ireturn, 1) := by decide +kernel
theorem ggX10_show_X10_within : GoodIn wsX10_show wsX10_within := gW_in gwX10_within (fun _ h => List.mem_cons_of_mem _ (List.mem_append_right _ (List.mem_append_right _ (List.mem_append_right _ (List.mem_append_right _ (List.mem_append_left _ h))))))
set_option maxRecDepth 20000 in
theorem gX10_show_X10_within : GoodIn wsX10_show (va_wsS RX10 107 yX10_within wsX10_within) := goodIn_app (goodIn_of _ (by decide +kernel)) ggX10_show_X10_within
theorem ggX10_show_X10_demand : GoodIn wsX10_show wsX10_demand := gW_in gwX10_demand (fun _ h => List.mem_cons_of_mem _ (List.mem_append_right _ (List.mem_append_right _ (List.mem_append_right _ (List.mem_append_right _ (List.mem_append_right _ (List.mem_append_left _ h)))))))
set_option maxRecDepth 20000 in
theorem gX10_show_X10_demand : GoodIn wsX10_show (wsV RX10 81 RX10 yX10_demand wsX10_demand) := goodIn_app (goodIn_of _ (by decide +kernel)) ggX10_show_X10_demand
theorem ggX10_show_X1_prepare : GoodIn wsX10_show wsX1_prepare := gW_in gwX1_prepare (fun _ h => List.mem_cons_of_mem _ (List.mem_append_right _ (List.mem_append_right _ (List.mem_append_right _ (List.mem_append_right _ (List.mem_append_right _ (List.mem_append_right _ (List.mem_append_left _ h))))))))
set_option maxRecDepth 20000 in
theorem gX10_show_X1_prepare : GoodIn wsX10_show (wsV RX10 212 RX1 yX1_prepare wsX1_prepare) := goodIn_app (goodIn_of _ (by decide +kernel)) ggX10_show_X1_prepare
theorem ggX10_show_X1_all : GoodIn wsX10_show wsX1_all := gW_in gwX1_all (fun _ h => List.mem_cons_of_mem _ (List.mem_append_right _ (List.mem_append_right _ (List.mem_append_right _ (List.mem_append_right _ (List.mem_append_right _ (List.mem_append_right _ (List.mem_append_right _ (List.mem_append_left _ h)))))))))
set_option maxRecDepth 20000 in
theorem gX10_show_X1_all : GoodIn wsX10_show (wsV RX10 215 RX1 yX1_all wsX1_all) := goodIn_app (goodIn_of _ (by decide +kernel)) ggX10_show_X1_all
theorem ggX10_show_X1_safe : GoodIn wsX10_show wsX1_safe := gW_in gwX1_safe (fun _ h => List.mem_cons_of_mem _ (List.mem_append_right _ (List.mem_append_right _ (List.mem_append_right _ (List.mem_append_right _ (List.mem_append_right _ (List.mem_append_right _ (List.mem_append_right _ (List.mem_append_right _ (h))))))))))
set_option maxRecDepth 20000 in
theorem gX10_show_X1_safe : GoodIn wsX10_show (wsV RX10 219 RX1 yX1_safe wsX1_safe) := goodIn_app (goodIn_of _ (by decide +kernel)) ggX10_show_X1_safe
theorem dX10_show_0 : decode cX10_show 0 = .ok (.aload_n 0, 1) := by decide +kernel
theorem dX10_show_1 : decode cX10_show 1 = .ok (.iload_n 1, 1) := by decide +kernel
theorem dX10_show_2 : decode cX10_show 2 = .ok (.iconst 0, 1) := by decide +kernel
theorem dX10_show_3 : decode cX10_show 3 = .ok (.bipush 6, 2) := by decide +kernel
theorem dX10_show_5 : decode cX10_show 5 = .ok (.invokestatic 107, 3) := by decide +kernel
theorem dX10_show_8 : decode cX10_show 8 = .ok (.ifCond .eq 17, 3) := by decide +kernel
theorem dX10_show_11 : decode cX10_show 11 = .ok (.iload_n 2, 1) := by decide +kernel
theorem dX10_show_12 : decode cX10_show 12 = .ok (.iconst 0, 1) := by decide +kernel
theorem dX10_show_13 : decode cX10_show 13 = .ok (.bipush 6, 2) := by decide +kernel
theorem dX10_show_15 : decode cX10_show 15 = .ok (.invokestatic 107, 3) := by decide +kernel
theorem dX10_show_18 : decode cX10_show 18 = .ok (.ifCond .eq 7, 3) := by decide +kernel
theorem dX10_show_21 : decode cX10_show 21 = .ok (.iconst 1, 1) := by decide +kernel
theorem dX10_show_22 : decode cX10_show 22 = .ok (.goto 4, 3) := by decide +kernel
theorem dX10_show_25 : decode cX10_show 25 = .ok (.iconst 0, 1) := by decide +kernel
theorem dX10_show_26 : decode cX10_show 26 = .ok (.invokevirtual 81, 3) := by decide +kernel
theorem dX10_show_29 : decode cX10_show 29 = .ok (.aload_n 0, 1) := by decide +kernel
theorem dX10_show_30 : decode cX10_show 30 = .ok (.getfield 57, 3) := by decide +kernel
theorem dX10_show_33 : decode cX10_show 33 = .ok (.aload_n 0, 1) := by decide +kernel
theorem dX10_show_34 : decode cX10_show 34 = .ok (.getfield 23, 3) := by decide +kernel
theorem dX10_show_37 : decode cX10_show 37 = .ok (.invokevirtual 212, 3) := by decide +kernel
theorem dX10_show_40 : decode cX10_show 40 = .ok (.aload_n 0, 1) := by decide +kernel
theorem dX10_show_41 : decode cX10_show 41 = .ok (.getfield 57, 3) := by decide +kernel
theorem dX10_show_44 : decode cX10_show 44 = .ok (.aload_n 0, 1) := by decide +kernel
theorem dX10_show_45 : decode cX10_show 45 = .ok (.getfield 57, 3) := by decide +kernel
theorem dX10_show_48 : decode cX10_show 48 = .ok (.invokevirtual 215, 3) := by decide +kernel
theorem dX10_show_51 : decode cX10_show 51 = .ok (.iload_n 1, 1) := by decide +kernel
theorem dX10_show_52 : decode cX10_show 52 = .ok (.iload_n 2, 1) := by decide +kernel
theorem dX10_show_53 : decode cX10_show 53 = .ok (.invokevirtual 219, 3) := by decide +kernel
theorem dX10_show_56 : decode cX10_show 56 = .ok (.istore_n 3, 1) := by decide +kernel
theorem dX10_show_57 : decode cX10_show 57 = .ok (.iconst 0, 1) := by decide +kernel
theorem dX10_show_58 : decode cX10_show 58 = .ok (.istore 4, 2) := by decide +kernel
theorem dX10_show_60 : decode cX10_show 60 = .ok (.iconst 0, 1) := by decide +kernel
theorem dX10_show_61 : decode cX10_show 61 = .ok (.istore 5, 2) := by decide +kernel
theorem dX10_show_63 : decode cX10_show 63 = .ok (.iload 5, 2) := by decide +kernel
theorem dX10_show_65 : decode cX10_show 65 = .ok (.aload_n 0, 1) := by decide +kernel
theorem dX10_show_66 : decode cX10_show 66 = .ok (.getfield 57, 3) := by decide +kernel
theorem dX10_show_69 : decode cX10_show 69 = .ok (.getfield 229, 3) := by decide +kernel
theorem dX10_show_72 : decode cX10_show 72 = .ok (.if_icmp .ge 49, 3) := by decide +kernel
theorem dX10_show_75 : decode cX10_show 75 = .ok (.aload_n 0, 1) := by decide +kernel
theorem dX10_show_76 : decode cX10_show 76 = .ok (.getfield 57, 3) := by decide +kernel
theorem dX10_show_79 : decode cX10_show 79 = .ok (.invokevirtual 215, 3) := by decide +kernel
theorem dX10_show_82 : decode cX10_show 82 = .ok (.iconst 1, 1) := by decide +kernel
theorem dX10_show_83 : decode cX10_show 83 = .ok (.iload 5, 2) := by decide +kernel
theorem dX10_show_85 : decode cX10_show 85 = .ok (.ishl, 1) := by decide +kernel
theorem dX10_show_86 : decode cX10_show 86 = .ok (.iconst (-1), 1) := by decide +kernel
theorem dX10_show_87 : decode cX10_show 87 = .ok (.ixor, 1) := by decide +kernel
theorem dX10_show_88 : decode cX10_show 88 = .ok (.iand, 1) := by decide +kernel
theorem dX10_show_89 : decode cX10_show 89 = .ok (.istore 6, 2) := by decide +kernel
theorem dX10_show_91 : decode cX10_show 91 = .ok (.aload_n 0, 1) := by decide +kernel
theorem dX10_show_92 : decode cX10_show 92 = .ok (.getfield 57, 3) := by decide +kernel
theorem dX10_show_95 : decode cX10_show 95 = .ok (.iload 6, 2) := by decide +kernel
theorem dX10_show_97 : decode cX10_show 97 = .ok (.iload_n 1, 1) := by decide +kernel
theorem dX10_show_98 : decode cX10_show 98 = .ok (.iload_n 2, 1) := by decide +kernel
theorem dX10_show_99 : decode cX10_show 99 = .ok (.invokevirtual 219, 3) := by decide +kernel
theorem dX10_show_102 : decode cX10_show 102 = .ok (.iload_n 3, 1) := by decide +kernel
theorem dX10_show_103 : decode cX10_show 103 = .ok (.if_icmp .ne 12, 3) := by decide +kernel
theorem dX10_show_106 : decode cX10_show 106 = .ok (.iload 4, 2) := by decide +kernel
theorem dX10_show_108 : decode cX10_show 108 = .ok (.iconst 1, 1) := by decide +kernel
theorem dX10_show_109 : decode cX10_show 109 = .ok (.iload 5, 2) := by decide +kernel
theorem dX10_show_111 : decode cX10_show 111 = .ok (.ishl, 1) := by decide +kernel
theorem dX10_show_112 : decode cX10_show 112 = .ok (.ior, 1) := by decide +kernel
theorem dX10_show_113 : decode cX10_show 113 = .ok (.istore 4, 2) := by decide +kernel
theorem dX10_show_115 : decode cX10_show 115 = .ok (.iinc 5 1, 3) := by decide +kernel
theorem dX10_show_118 : decode cX10_show 118 = .ok (.goto (-55), 3) := by decide +kernel
theorem dX10_show_121 : decode cX10_show 121 = .ok (.iload 4, 2) := by decide +kernel
theorem dX10_show_123 : decode cX10_show 123 = .ok (.ireturn, 1) := by decide +kernel
theorem ggX10_offers_X10_within : GoodIn wsX10_offers wsX10_within := gW_in gwX10_within (fun _ h => List.mem_cons_of_mem _ (List.mem_append_right _ (List.mem_append_right _ (List.mem_append_right _ (List.mem_append_right _ (List.mem_append_left _ h))))))
set_option maxRecDepth 20000 in
theorem gX10_offers_X10_within : GoodIn wsX10_offers (va_wsS RX10 107 yX10_within wsX10_within) := goodIn_app (goodIn_of _ (by decide +kernel)) ggX10_offers_X10_within
theorem ggX10_offers_X10_demand : GoodIn wsX10_offers wsX10_demand := gW_in gwX10_demand (fun _ h => List.mem_cons_of_mem _ (List.mem_append_right _ (List.mem_append_right _ (List.mem_append_right _ (List.mem_append_right _ (List.mem_append_right _ (List.mem_append_left _ h)))))))
set_option maxRecDepth 20000 in
theorem gX10_offers_X10_demand : GoodIn wsX10_offers (wsV RX10 81 RX10 yX10_demand wsX10_demand) := goodIn_app (goodIn_of _ (by decide +kernel)) ggX10_offers_X10_demand
theorem ggX10_offers_X3_bid : GoodIn wsX10_offers wsX3_bid := gW_in gwX3_bid (fun _ h => List.mem_cons_of_mem _ (List.mem_append_right _ (List.mem_append_right _ (List.mem_append_right _ (List.mem_append_right _ (List.mem_append_right _ (List.mem_append_right _ (h))))))))
set_option maxRecDepth 20000 in
theorem gX10_offers_X3_bid : GoodIn wsX10_offers (wsV RX10 236 RX3 yX3_bid wsX3_bid) := goodIn_app (goodIn_of _ (by decide +kernel)) ggX10_offers_X3_bid
theorem dX10_offers_0 : decode cX10_offers 0 = .ok (.aload_n 0, 1) := by decide +kernel
theorem dX10_offers_1 : decode cX10_offers 1 = .ok (.iload_n 1, 1) := by decide +kernel
theorem dX10_offers_2 : decode cX10_offers 2 = .ok (.iconst 1, 1) := by decide +kernel
theorem dX10_offers_3 : decode cX10_offers 3 = .ok (.iconst 2, 1) := by decide +kernel
theorem dX10_offers_4 : decode cX10_offers 4 = .ok (.invokestatic 107, 3) := by decide +kernel
theorem dX10_offers_7 : decode cX10_offers 7 = .ok (.ifCond .eq 28, 3) := by decide +kernel
theorem dX10_offers_10 : decode cX10_offers 10 = .ok (.iload_n 2, 1) := by decide +kernel
theorem dX10_offers_11 : decode cX10_offers 11 = .ok (.iconst 0, 1) := by decide +kernel
theorem dX10_offers_12 : decode cX10_offers 12 = .ok (.bipush 11, 2) := by decide +kernel
theorem dX10_offers_14 : decode cX10_offers 14 = .ok (.invokestatic 107, 3) := by decide +kernel
theorem dX10_offers_17 : decode cX10_offers 17 = .ok (.ifCond .eq 18, 3) := by decide +kernel
theorem dX10_offers_20 : decode cX10_offers 20 = .ok (.iload_n 3, 1) := by decide +kernel
theorem dX10_offers_21 : decode cX10_offers 21 = .ok (.iconst 0, 1) := by decide +kernel
theorem dX10_offers_22 : decode cX10_offers 22 = .ok (.sipush 999, 3) := by decide +kernel
theorem dX10_offers_25 : decode cX10_offers 25 = .ok (.invokestatic 107, 3) := by decide +kernel
theorem dX10_offers_28 : decode cX10_offers 28 = .ok (.ifCond .eq 7, 3) := by decide +kernel
theorem dX10_offers_31 : decode cX10_offers 31 = .ok (.iconst 1, 1) := by decide +kernel
theorem dX10_offers_32 : decode cX10_offers 32 = .ok (.goto 4, 3) := by decide +kernel
theorem dX10_offers_35 : decode cX10_offers 35 = .ok (.iconst 0, 1) := by decide +kernel
theorem dX10_offers_36 : decode cX10_offers 36 = .ok (.invokevirtual 81, 3) := by decide +kernel
theorem dX10_offers_39 : decode cX10_offers 39 = .ok (.aload_n 0, 1) := by decide +kernel
theorem dX10_offers_40 : decode cX10_offers 40 = .ok (.getfield 39, 3) := by decide +kernel
theorem dX10_offers_43 : decode cX10_offers 43 = .ok (.getfield 232, 3) := by decide +kernel
theorem dX10_offers_46 : decode cX10_offers 46 = .ok (.iload_n 1, 1) := by decide +kernel
theorem dX10_offers_47 : decode cX10_offers 47 = .ok (.iload_n 2, 1) := by decide +kernel
theorem dX10_offers_48 : decode cX10_offers 48 = .ok (.iload_n 3, 1) := by decide +kernel
theorem dX10_offers_49 : decode cX10_offers 49 = .ok (.invokevirtual 236, 3) := by decide +kernel
theorem dX10_offers_52 : decode cX10_offers 52 = .ok (.ireturn, 1) := by decide +kernel
theorem ggX10_most_X3_mostCoin : GoodIn wsX10_most wsX3_mostCoin := gW_in gwX3_mostCoin (fun _ h => List.mem_cons_of_mem _ (List.mem_append_right _ (List.mem_append_right _ (List.mem_append_right _ (List.mem_append_right _ (h))))))
set_option maxRecDepth 20000 in
theorem gX10_most_X3_mostCoin : GoodIn wsX10_most (wsV RX10 239 RX3 yX3_mostCoin wsX3_mostCoin) := goodIn_app (goodIn_of _ (by decide +kernel)) ggX10_most_X3_mostCoin
theorem dX10_most_0 : decode cX10_most 0 = .ok (.aload_n 0, 1) := by decide +kernel
theorem dX10_most_1 : decode cX10_most 1 = .ok (.getfield 39, 3) := by decide +kernel
theorem dX10_most_4 : decode cX10_most 4 = .ok (.getfield 232, 3) := by decide +kernel
theorem dX10_most_7 : decode cX10_most 7 = .ok (.invokevirtual 239, 3) := by decide +kernel
theorem dX10_most_10 : decode cX10_most 10 = .ok (.ireturn, 1) := by decide +kernel
theorem ggX10_serves_X10_within : GoodIn wsX10_serves wsX10_within := gW_in gwX10_within (fun _ h => List.mem_cons_of_mem _ (List.mem_append_right _ (List.mem_append_right _ (List.mem_append_right _ (List.mem_append_right _ (List.mem_append_left _ h))))))
set_option maxRecDepth 20000 in
theorem gX10_serves_X10_within : GoodIn wsX10_serves (va_wsS RX10 107 yX10_within wsX10_within) := goodIn_app (goodIn_of _ (by decide +kernel)) ggX10_serves_X10_within
theorem ggX10_serves_X10_demand : GoodIn wsX10_serves wsX10_demand := gW_in gwX10_demand (fun _ h => List.mem_cons_of_mem _ (List.mem_append_right _ (List.mem_append_right _ (List.mem_append_right _ (List.mem_append_right _ (List.mem_append_right _ (List.mem_append_left _ h)))))))
set_option maxRecDepth 20000 in
theorem gX10_serves_X10_demand : GoodIn wsX10_serves (wsV RX10 81 RX10 yX10_demand wsX10_demand) := goodIn_app (goodIn_of _ (by decide +kernel)) ggX10_serves_X10_demand
theorem ggX10_serves_X3_served : GoodIn wsX10_serves wsX3_served := gW_in gwX3_served (fun _ h => List.mem_cons_of_mem _ (List.mem_append_right _ (List.mem_append_right _ (List.mem_append_right _ (List.mem_append_right _ (List.mem_append_right _ (List.mem_append_right _ (h))))))))
set_option maxRecDepth 20000 in
theorem gX10_serves_X3_served : GoodIn wsX10_serves (wsV RX10 242 RX3 yX3_served wsX3_served) := goodIn_app (goodIn_of _ (by decide +kernel)) ggX10_serves_X3_served
theorem dX10_serves_0 : decode cX10_serves 0 = .ok (.aload_n 0, 1) := by decide +kernel
theorem dX10_serves_1 : decode cX10_serves 1 = .ok (.iload_n 1, 1) := by decide +kernel
theorem dX10_serves_2 : decode cX10_serves 2 = .ok (.iconst 0, 1) := by decide +kernel
theorem dX10_serves_3 : decode cX10_serves 3 = .ok (.bipush 11, 2) := by decide +kernel
theorem dX10_serves_5 : decode cX10_serves 5 = .ok (.invokestatic 107, 3) := by decide +kernel
theorem dX10_serves_8 : decode cX10_serves 8 = .ok (.invokevirtual 81, 3) := by decide +kernel
theorem dX10_serves_11 : decode cX10_serves 11 = .ok (.aload_n 0, 1) := by decide +kernel
theorem dX10_serves_12 : decode cX10_serves 12 = .ok (.getfield 39, 3) := by decide +kernel
theorem dX10_serves_15 : decode cX10_serves 15 = .ok (.getfield 232, 3) := by decide +kernel
theorem dX10_serves_18 : decode cX10_serves 18 = .ok (.iload_n 1, 1) := by decide +kernel
theorem dX10_serves_19 : decode cX10_serves 19 = .ok (.invokevirtual 242, 3) := by decide +kernel
theorem dX10_serves_22 : decode cX10_serves 22 = .ok (.ireturn, 1) := by decide +kernel
theorem ggX10_image_X8_init : GoodIn wsX10_image wsX8_init := gW_in gwX8_init (fun _ h => List.mem_cons_of_mem _ (List.mem_append_right _ (List.mem_append_right _ (List.mem_append_right _ (List.mem_append_right _ (List.mem_append_right _ (List.mem_append_right _ (List.mem_append_right _ (List.mem_append_left _ h)))))))))
set_option maxRecDepth 20000 in
theorem gX10_image_X8_init_n38 : GoodIn wsX10_image (wsX8_init) := ggX10_image_X8_init
theorem ggX10_image_X8_take : GoodIn wsX10_image wsX8_take := gW_in gwX8_take (fun _ h => List.mem_cons_of_mem _ (List.mem_append_right _ (List.mem_append_right _ (List.mem_append_right _ (List.mem_append_right _ (List.mem_append_right _ (List.mem_append_right _ (List.mem_append_right _ (List.mem_append_right _ (h))))))))))
set_option maxRecDepth 20000 in
theorem gX10_image_X8_take : GoodIn wsX10_image (wsV RX10 245 RX8 yX8_take wsX8_take) := goodIn_app (goodIn_of _ (by decide +kernel)) ggX10_image_X8_take
theorem dX10_image_0 : decode cX10_image 0 = .ok (.aload_n 0, 1) := by decide +kernel
theorem dX10_image_1 : decode cX10_image 1 = .ok (.getfield 95, 3) := by decide +kernel
theorem dX10_image_4 : decode cX10_image 4 = .ok (.iconst 3, 1) := by decide +kernel
theorem dX10_image_5 : decode cX10_image 5 = .ok (.if_icmp .lt 5, 3) := by decide +kernel
theorem dX10_image_8 : decode cX10_image 8 = .ok (.iconst (-1), 1) := by decide +kernel
theorem dX10_image_9 : decode cX10_image 9 = .ok (.ireturn, 1) := by decide +kernel
theorem dX10_image_10 : decode cX10_image 10 = .ok (.aload_n 0, 1) := by decide +kernel
theorem dX10_image_11 : decode cX10_image 11 = .ok (.getfield 43, 3) := by decide +kernel
theorem dX10_image_14 : decode cX10_image 14 = .ok (.aload_n 0, 1) := by decide +kernel
theorem dX10_image_15 : decode cX10_image 15 = .ok (.getfield 95, 3) := by decide +kernel
theorem dX10_image_18 : decode cX10_image 18 = .ok (.aaload, 1) := by decide +kernel
theorem dX10_image_19 : decode cX10_image 19 = .ok (.ifnonnull 19, 3) := by decide +kernel
theorem dX10_image_22 : decode cX10_image 22 = .ok (.aload_n 0, 1) := by decide +kernel
theorem dX10_image_23 : decode cX10_image 23 = .ok (.getfield 43, 3) := by decide +kernel
theorem dX10_image_26 : decode cX10_image 26 = .ok (.aload_n 0, 1) := by decide +kernel
theorem dX10_image_27 : decode cX10_image 27 = .ok (.getfield 95, 3) := by decide +kernel
theorem dX10_image_30 : decode cX10_image 30 = .ok (.new 36, 3) := by decide +kernel
theorem dX10_image_33 : decode cX10_image 33 = .ok (.dup, 1) := by decide +kernel
theorem dX10_image_34 : decode cX10_image 34 = .ok (.invokespecial 38, 3) := by decide +kernel
theorem dX10_image_37 : decode cX10_image 37 = .ok (.aastore, 1) := by decide +kernel
theorem dX10_image_38 : decode cX10_image 38 = .ok (.aload_n 0, 1) := by decide +kernel
theorem dX10_image_39 : decode cX10_image 39 = .ok (.getfield 43, 3) := by decide +kernel
theorem dX10_image_42 : decode cX10_image 42 = .ok (.aload_n 0, 1) := by decide +kernel
theorem dX10_image_43 : decode cX10_image 43 = .ok (.getfield 95, 3) := by decide +kernel
theorem dX10_image_46 : decode cX10_image 46 = .ok (.aaload, 1) := by decide +kernel
theorem dX10_image_47 : decode cX10_image 47 = .ok (.aload_n 0, 1) := by decide +kernel
theorem dX10_image_48 : decode cX10_image 48 = .ok (.getfield 39, 3) := by decide +kernel
theorem dX10_image_51 : decode cX10_image 51 = .ok (.invokevirtual 245, 3) := by decide +kernel
theorem dX10_image_54 : decode cX10_image 54 = .ok (.aload_n 0, 1) := by decide +kernel
theorem dX10_image_55 : decode cX10_image 55 = .ok (.dup, 1) := by decide +kernel
theorem dX10_image_56 : decode cX10_image 56 = .ok (.getfield 95, 3) := by decide +kernel
theorem dX10_image_59 : decode cX10_image 59 = .ok (.iconst 1, 1) := by decide +kernel
theorem dX10_image_60 : decode cX10_image 60 = .ok (.iadd, 1) := by decide +kernel
theorem dX10_image_61 : decode cX10_image 61 = .ok (.putfield 95, 3) := by decide +kernel
theorem dX10_image_64 : decode cX10_image 64 = .ok (.aload_n 0, 1) := by decide +kernel
theorem dX10_image_65 : decode cX10_image 65 = .ok (.getfield 95, 3) := by decide +kernel
theorem dX10_image_68 : decode cX10_image 68 = .ok (.ireturn, 1) := by decide +kernel
theorem ggX10_restore_X8_take : GoodIn wsX10_restore wsX8_take := gW_in gwX8_take (fun _ h => List.mem_cons_of_mem _ (List.mem_append_right _ (List.mem_append_right _ (List.mem_append_right _ (List.mem_append_right _ (List.mem_append_right _ (List.mem_append_right _ (List.mem_append_right _ (h)))))))))
set_option maxRecDepth 20000 in
theorem gX10_restore_X8_take : GoodIn wsX10_restore (wsV RX10 245 RX8 yX8_take wsX8_take) := goodIn_app (goodIn_of _ (by decide +kernel)) ggX10_restore_X8_take
theorem dX10_restore_0 : decode cX10_restore 0 = .ok (.aload_n 0, 1) := by decide +kernel
theorem dX10_restore_1 : decode cX10_restore 1 = .ok (.getfield 95, 3) := by decide +kernel
theorem dX10_restore_4 : decode cX10_restore 4 = .ok (.ifCond .le 17, 3) := by decide +kernel
theorem dX10_restore_7 : decode cX10_restore 7 = .ok (.aload_n 0, 1) := by decide +kernel
theorem dX10_restore_8 : decode cX10_restore 8 = .ok (.getfield 43, 3) := by decide +kernel
theorem dX10_restore_11 : decode cX10_restore 11 = .ok (.aload_n 0, 1) := by decide +kernel
theorem dX10_restore_12 : decode cX10_restore 12 = .ok (.getfield 95, 3) := by decide +kernel
theorem dX10_restore_15 : decode cX10_restore 15 = .ok (.iconst 1, 1) := by decide +kernel
theorem dX10_restore_16 : decode cX10_restore 16 = .ok (.isub, 1) := by decide +kernel
theorem dX10_restore_17 : decode cX10_restore 17 = .ok (.aaload, 1) := by decide +kernel
theorem dX10_restore_18 : decode cX10_restore 18 = .ok (.ifnonnull 5, 3) := by decide +kernel
theorem dX10_restore_21 : decode cX10_restore 21 = .ok (.iconst (-1), 1) := by decide +kernel
theorem dX10_restore_22 : decode cX10_restore 22 = .ok (.ireturn, 1) := by decide +kernel
theorem dX10_restore_23 : decode cX10_restore 23 = .ok (.aload_n 0, 1) := by decide +kernel
theorem dX10_restore_24 : decode cX10_restore 24 = .ok (.dup, 1) := by decide +kernel
theorem dX10_restore_25 : decode cX10_restore 25 = .ok (.getfield 95, 3) := by decide +kernel
theorem dX10_restore_28 : decode cX10_restore 28 = .ok (.iconst 1, 1) := by decide +kernel
theorem dX10_restore_29 : decode cX10_restore 29 = .ok (.isub, 1) := by decide +kernel
theorem dX10_restore_30 : decode cX10_restore 30 = .ok (.putfield 95, 3) := by decide +kernel
theorem dX10_restore_33 : decode cX10_restore 33 = .ok (.aload_n 0, 1) := by decide +kernel
theorem dX10_restore_34 : decode cX10_restore 34 = .ok (.getfield 39, 3) := by decide +kernel
theorem dX10_restore_37 : decode cX10_restore 37 = .ok (.aload_n 0, 1) := by decide +kernel
theorem dX10_restore_38 : decode cX10_restore 38 = .ok (.getfield 43, 3) := by decide +kernel
theorem dX10_restore_41 : decode cX10_restore 41 = .ok (.aload_n 0, 1) := by decide +kernel
theorem dX10_restore_42 : decode cX10_restore 42 = .ok (.getfield 95, 3) := by decide +kernel
theorem dX10_restore_45 : decode cX10_restore 45 = .ok (.aaload, 1) := by decide +kernel
theorem dX10_restore_46 : decode cX10_restore 46 = .ok (.invokevirtual 245, 3) := by decide +kernel
theorem dX10_restore_49 : decode cX10_restore 49 = .ok (.aload_n 0, 1) := by decide +kernel
theorem dX10_restore_50 : decode cX10_restore 50 = .ok (.getfield 95, 3) := by decide +kernel
theorem dX10_restore_53 : decode cX10_restore 53 = .ok (.ireturn, 1) := by decide +kernel
theorem ggX10_status_X10_within : GoodIn wsX10_status wsX10_within := gW_in gwX10_within (fun _ h => List.mem_cons_of_mem _ (List.mem_append_right _ (List.mem_append_right _ (h))))
set_option maxRecDepth 20000 in
theorem gX10_status_X10_within : GoodIn wsX10_status (va_wsS RX10 107 yX10_within wsX10_within) := goodIn_app (goodIn_of _ (by decide +kernel)) ggX10_status_X10_within
theorem dX10_status_0 : decode cX10_status 0 = .ok (.iload_n 1, 1) := by decide +kernel
theorem dX10_status_1 : decode cX10_status 1 = .ok (.iconst 0, 1) := by decide +kernel
theorem dX10_status_2 : decode cX10_status 2 = .ok (.aload_n 0, 1) := by decide +kernel
theorem dX10_status_3 : decode cX10_status 3 = .ok (.getfield 61, 3) := by decide +kernel
theorem dX10_status_6 : decode cX10_status 6 = .ok (.arraylength, 1) := by decide +kernel
theorem dX10_status_7 : decode cX10_status 7 = .ok (.iconst 1, 1) := by decide +kernel
theorem dX10_status_8 : decode cX10_status 8 = .ok (.isub, 1) := by decide +kernel
theorem dX10_status_9 : decode cX10_status 9 = .ok (.invokestatic 107, 3) := by decide +kernel
theorem dX10_status_12 : decode cX10_status 12 = .ok (.ifCond .eq 12, 3) := by decide +kernel
theorem dX10_status_15 : decode cX10_status 15 = .ok (.aload_n 0, 1) := by decide +kernel
theorem dX10_status_16 : decode cX10_status 16 = .ok (.getfield 61, 3) := by decide +kernel
theorem dX10_status_19 : decode cX10_status 19 = .ok (.iload_n 1, 1) := by decide +kernel
theorem dX10_status_20 : decode cX10_status 20 = .ok (.iaload, 1) := by decide +kernel
theorem dX10_status_21 : decode cX10_status 21 = .ok (.goto 4, 3) := by decide +kernel
theorem dX10_status_24 : decode cX10_status 24 = .ok (.iconst (-1), 1) := by decide +kernel
theorem dX10_status_25 : decode cX10_status 25 = .ok (.ireturn, 1) := by decide +kernel
theorem dX10_count_0 : decode cX10_count 0 = .ok (.iload_n 1, 1) := by decide +kernel
theorem dX10_count_1 : decode cX10_count 1 = .ok (.tableswitch 48 0 2 #[27, 32, 37], 27) := by decide +kernel
theorem dX10_count_28 : decode cX10_count 28 = .ok (.aload_n 0, 1) := by decide +kernel
theorem dX10_count_29 : decode cX10_count 29 = .ok (.getfield 95, 3) := by decide +kernel
theorem dX10_count_32 : decode cX10_count 32 = .ok (.ireturn, 1) := by decide +kernel
theorem dX10_count_33 : decode cX10_count 33 = .ok (.aload_n 0, 1) := by decide +kernel
theorem dX10_count_34 : decode cX10_count 34 = .ok (.getfield 73, 3) := by decide +kernel
theorem dX10_count_37 : decode cX10_count 37 = .ok (.ireturn, 1) := by decide +kernel
theorem dX10_count_38 : decode cX10_count 38 = .ok (.aload_n 0, 1) := by decide +kernel
theorem dX10_count_39 : decode cX10_count 39 = .ok (.getfield 39, 3) := by decide +kernel
theorem dX10_count_42 : decode cX10_count 42 = .ok (.getfield 189, 3) := by decide +kernel
theorem dX10_count_45 : decode cX10_count 45 = .ok (.getfield 248, 3) := by decide +kernel
theorem dX10_count_48 : decode cX10_count 48 = .ok (.ireturn, 1) := by decide +kernel
theorem dX10_count_49 : decode cX10_count 49 = .ok (.iconst (-1), 1) := by decide +kernel
theorem dX10_count_50 : decode cX10_count 50 = .ok (.ireturn, 1) := by decide +kernel
theorem dX10_within_0 : decode cX10_within 0 = .ok (.iload_n 0, 1) := by decide +kernel
theorem dX10_within_1 : decode cX10_within 1 = .ok (.iload_n 1, 1) := by decide +kernel
theorem dX10_within_2 : decode cX10_within 2 = .ok (.if_icmp .lt 12, 3) := by decide +kernel
theorem dX10_within_5 : decode cX10_within 5 = .ok (.iload_n 0, 1) := by decide +kernel
theorem dX10_within_6 : decode cX10_within 6 = .ok (.iload_n 2, 1) := by decide +kernel
theorem dX10_within_7 : decode cX10_within 7 = .ok (.if_icmp .gt 7, 3) := by decide +kernel
theorem dX10_within_10 : decode cX10_within 10 = .ok (.iconst 1, 1) := by decide +kernel
theorem dX10_within_11 : decode cX10_within 11 = .ok (.goto 4, 3) := by decide +kernel
theorem dX10_within_14 : decode cX10_within 14 = .ok (.iconst 0, 1) := by decide +kernel
theorem dX10_within_15 : decode cX10_within 15 = .ok (.ireturn, 1) := by decide +kernel
theorem dX10_demand_0 : decode cX10_demand 0 = .ok (.iload_n 1, 1) := by decide +kernel
theorem dX10_demand_1 : decode cX10_demand 1 = .ok (.ifCond .ne 23, 3) := by decide +kernel
theorem dX10_demand_4 : decode cX10_demand 4 = .ok (.aload_n 0, 1) := by decide +kernel
theorem dX10_demand_5 : decode cX10_demand 5 = .ok (.getfield 61, 3) := by decide +kernel
theorem dX10_demand_8 : decode cX10_demand 8 = .ok (.iconst 2, 1) := by decide +kernel
theorem dX10_demand_9 : decode cX10_demand 9 = .ok (.dup2, 1) := by decide +kernel
theorem dX10_demand_10 : decode cX10_demand 10 = .ok (.iaload, 1) := by decide +kernel
theorem dX10_demand_11 : decode cX10_demand 11 = .ok (.iconst 1, 1) := by decide +kernel
theorem dX10_demand_12 : decode cX10_demand 12 = .ok (.iadd, 1) := by decide +kernel
theorem dX10_demand_13 : decode cX10_demand 13 = .ok (.iastore, 1) := by decide +kernel
theorem dX10_demand_14 : decode cX10_demand 14 = .ok (.new 251, 3) := by decide +kernel
theorem dX10_demand_17 : decode cX10_demand 17 = .ok (.dup, 1) := by decide +kernel
theorem dX10_demand_18 : decode cX10_demand 18 = .ok (.ldc 253, 2) := by decide +kernel
theorem dX10_demand_20 : decode cX10_demand 20 = .ok (.invokespecial 255, 3) := by decide +kernel
theorem dX10_demand_23 : decode cX10_demand 23 = .ok (.athrow, 1) := by decide +kernel
theorem dX10_demand_24 : decode cX10_demand 24 = .ok (.return_, 1) := by decide +kernel
theorem ggX10_demandWall_X10_within : GoodIn wsX10_demandWall wsX10_within := gW_in gwX10_within (fun _ h => List.mem_cons_of_mem _ (List.mem_append_right _ (List.mem_append_right _ (List.mem_append_right _ (List.mem_append_right _ (h))))))
set_option maxRecDepth 20000 in
theorem gX10_demandWall_X10_within : GoodIn wsX10_demandWall (va_wsS RX10 107 yX10_within wsX10_within) := goodIn_app (goodIn_of _ (by decide +kernel)) ggX10_demandWall_X10_within
theorem dX10_demandWall_0 : decode cX10_demandWall 0 = .ok (.iload_n 1, 1) := by decide +kernel
theorem dX10_demandWall_1 : decode cX10_demandWall 1 = .ok (.iconst 0, 1) := by decide +kernel
theorem dX10_demandWall_2 : decode cX10_demandWall 2 = .ok (.aload_n 0, 1) := by decide +kernel
theorem dX10_demandWall_3 : decode cX10_demandWall 3 = .ok (.getfield 23, 3) := by decide +kernel
theorem dX10_demandWall_6 : decode cX10_demandWall 6 = .ok (.getfield 99, 3) := by decide +kernel
theorem dX10_demandWall_9 : decode cX10_demandWall 9 = .ok (.iconst 1, 1) := by decide +kernel
theorem dX10_demandWall_10 : decode cX10_demandWall 10 = .ok (.isub, 1) := by decide +kernel
theorem dX10_demandWall_11 : decode cX10_demandWall 11 = .ok (.invokestatic 107, 3) := by decide +kernel
theorem dX10_demandWall_14 : decode cX10_demandWall 14 = .ok (.ifCond .ne 24, 3) := by decide +kernel
theorem dX10_demandWall_17 : decode cX10_demandWall 17 = .ok (.aload_n 0, 1) := by decide +kernel
theorem dX10_demandWall_18 : decode cX10_demandWall 18 = .ok (.getfield 61, 3) := by decide +kernel
theorem dX10_demandWall_21 : decode cX10_demandWall 21 = .ok (.iconst 1, 1) := by decide +kernel
theorem dX10_demandWall_22 : decode cX10_demandWall 22 = .ok (.dup2, 1) := by decide +kernel
theorem dX10_demandWall_23 : decode cX10_demandWall 23 = .ok (.iaload, 1) := by decide +kernel
theorem dX10_demandWall_24 : decode cX10_demandWall 24 = .ok (.iconst 1, 1) := by decide +kernel
theorem dX10_demandWall_25 : decode cX10_demandWall 25 = .ok (.iadd, 1) := by decide +kernel
theorem dX10_demandWall_26 : decode cX10_demandWall 26 = .ok (.iastore, 1) := by decide +kernel
theorem dX10_demandWall_27 : decode cX10_demandWall 27 = .ok (.new 258, 3) := by decide +kernel
theorem dX10_demandWall_30 : decode cX10_demandWall 30 = .ok (.dup, 1) := by decide +kernel
theorem dX10_demandWall_31 : decode cX10_demandWall 31 = .ok (.ldc_w 260, 3) := by decide +kernel
theorem dX10_demandWall_34 : decode cX10_demandWall 34 = .ok (.invokespecial 262, 3) := by decide +kernel
theorem dX10_demandWall_37 : decode cX10_demandWall 37 = .ok (.athrow, 1) := by decide +kernel
theorem dX10_demandWall_38 : decode cX10_demandWall 38 = .ok (.return_, 1) := by decide +kernel
theorem ggX10_demandContract_X10_within : GoodIn wsX10_demandContract wsX10_within := gW_in gwX10_within (fun _ h => List.mem_cons_of_mem _ (List.mem_append_right _ (List.mem_append_right _ (List.mem_append_right _ (h)))))
set_option maxRecDepth 20000 in
theorem gX10_demandContract_X10_within : GoodIn wsX10_demandContract (va_wsS RX10 107 yX10_within wsX10_within) := goodIn_app (goodIn_of _ (by decide +kernel)) ggX10_demandContract_X10_within
theorem dX10_demandContract_0 : decode cX10_demandContract 0 = .ok (.iload_n 1, 1) := by decide +kernel
theorem dX10_demandContract_1 : decode cX10_demandContract 1 = .ok (.iconst 0, 1) := by decide +kernel
theorem dX10_demandContract_2 : decode cX10_demandContract 2 = .ok (.aload_n 0, 1) := by decide +kernel
theorem dX10_demandContract_3 : decode cX10_demandContract 3 = .ok (.getfield 92, 3) := by decide +kernel
theorem dX10_demandContract_6 : decode cX10_demandContract 6 = .ok (.iconst 1, 1) := by decide +kernel
theorem dX10_demandContract_7 : decode cX10_demandContract 7 = .ok (.isub, 1) := by decide +kernel
theorem dX10_demandContract_8 : decode cX10_demandContract 8 = .ok (.invokestatic 107, 3) := by decide +kernel
theorem dX10_demandContract_11 : decode cX10_demandContract 11 = .ok (.ifCond .ne 24, 3) := by decide +kernel
theorem dX10_demandContract_14 : decode cX10_demandContract 14 = .ok (.aload_n 0, 1) := by decide +kernel
theorem dX10_demandContract_15 : decode cX10_demandContract 15 = .ok (.getfield 61, 3) := by decide +kernel
theorem dX10_demandContract_18 : decode cX10_demandContract 18 = .ok (.iconst 0, 1) := by decide +kernel
theorem dX10_demandContract_19 : decode cX10_demandContract 19 = .ok (.dup2, 1) := by decide +kernel
theorem dX10_demandContract_20 : decode cX10_demandContract 20 = .ok (.iaload, 1) := by decide +kernel
theorem dX10_demandContract_21 : decode cX10_demandContract 21 = .ok (.iconst 1, 1) := by decide +kernel
theorem dX10_demandContract_22 : decode cX10_demandContract 22 = .ok (.iadd, 1) := by decide +kernel
theorem dX10_demandContract_23 : decode cX10_demandContract 23 = .ok (.iastore, 1) := by decide +kernel
theorem dX10_demandContract_24 : decode cX10_demandContract 24 = .ok (.new 263, 3) := by decide +kernel
theorem dX10_demandContract_27 : decode cX10_demandContract 27 = .ok (.dup, 1) := by decide +kernel
theorem dX10_demandContract_28 : decode cX10_demandContract 28 = .ok (.ldc_w 265, 3) := by decide +kernel
theorem dX10_demandContract_31 : decode cX10_demandContract 31 = .ok (.invokespecial 267, 3) := by decide +kernel
theorem dX10_demandContract_34 : decode cX10_demandContract 34 = .ok (.athrow, 1) := by decide +kernel
theorem dX10_demandContract_35 : decode cX10_demandContract 35 = .ok (.return_, 1) := by decide +kernel
theorem ggX10_demandContractOrNone_X10_demandContract : GoodIn wsX10_demandContractOrNone wsX10_demandContract := gW_in gwX10_demandContract (fun _ h => List.mem_cons_of_mem _ (List.mem_append_right _ (List.mem_append_right _ (h))))
set_option maxRecDepth 20000 in
theorem gX10_demandContractOrNone_X10_demandContract : GoodIn wsX10_demandContractOrNone (wsV RX10 126 RX10 yX10_demandContract wsX10_demandContract) := goodIn_app (goodIn_of _ (by decide +kernel)) ggX10_demandContractOrNone_X10_demandContract
theorem dX10_demandContractOrNone_0 : decode cX10_demandContractOrNone 0 = .ok (.iload_n 1, 1) := by decide +kernel
theorem dX10_demandContractOrNone_1 : decode cX10_demandContractOrNone 1 = .ok (.iconst (-1), 1) := by decide +kernel
theorem dX10_demandContractOrNone_2 : decode cX10_demandContractOrNone 2 = .ok (.if_icmp .eq 8, 3) := by decide +kernel
theorem dX10_demandContractOrNone_5 : decode cX10_demandContractOrNone 5 = .ok (.aload_n 0, 1) := by decide +kernel
theorem dX10_demandContractOrNone_6 : decode cX10_demandContractOrNone 6 = .ok (.iload_n 1, 1) := by decide +kernel
theorem dX10_demandContractOrNone_7 : decode cX10_demandContractOrNone 7 = .ok (.invokevirtual 126, 3) := by decide +kernel
theorem dX10_demandContractOrNone_10 : decode cX10_demandContractOrNone 10 = .ok (.return_, 1) := by decide +kernel
theorem ggX10_inForce_X10_within : GoodIn wsX10_inForce wsX10_within := gW_in gwX10_within (fun _ h => List.mem_cons_of_mem _ (List.mem_append_right _ (List.mem_append_right _ (List.mem_append_right _ (h)))))
set_option maxRecDepth 20000 in
theorem gX10_inForce_X10_within : GoodIn wsX10_inForce (va_wsS RX10 107 yX10_within wsX10_within) := goodIn_app (goodIn_of _ (by decide +kernel)) ggX10_inForce_X10_within
theorem dX10_inForce_0 : decode cX10_inForce 0 = .ok (.aload_n 1, 1) := by decide +kernel
theorem dX10_inForce_1 : decode cX10_inForce 1 = .ok (.getfield 111, 3) := by decide +kernel
theorem dX10_inForce_4 : decode cX10_inForce 4 = .ok (.bipush 10, 2) := by decide +kernel
theorem dX10_inForce_6 : decode cX10_inForce 6 = .ok (.iaload, 1) := by decide +kernel
theorem dX10_inForce_7 : decode cX10_inForce 7 = .ok (.istore_n 2, 1) := by decide +kernel
theorem dX10_inForce_8 : decode cX10_inForce 8 = .ok (.iload_n 2, 1) := by decide +kernel
theorem dX10_inForce_9 : decode cX10_inForce 9 = .ok (.iconst 0, 1) := by decide +kernel
theorem dX10_inForce_10 : decode cX10_inForce 10 = .ok (.bipush 6, 2) := by decide +kernel
theorem dX10_inForce_12 : decode cX10_inForce 12 = .ok (.invokestatic 107, 3) := by decide +kernel
theorem dX10_inForce_15 : decode cX10_inForce 15 = .ok (.ifCond .eq 12, 3) := by decide +kernel
theorem dX10_inForce_18 : decode cX10_inForce 18 = .ok (.aload_n 0, 1) := by decide +kernel
theorem dX10_inForce_19 : decode cX10_inForce 19 = .ok (.getfield 32, 3) := by decide +kernel
theorem dX10_inForce_22 : decode cX10_inForce 22 = .ok (.iload_n 2, 1) := by decide +kernel
theorem dX10_inForce_23 : decode cX10_inForce 23 = .ok (.aaload, 1) := by decide +kernel
theorem dX10_inForce_24 : decode cX10_inForce 24 = .ok (.goto 4, 3) := by decide +kernel
theorem dX10_inForce_27 : decode cX10_inForce 27 = .ok (.aconst_null, 1) := by decide +kernel
theorem dX10_inForce_28 : decode cX10_inForce 28 = .ok (.areturn, 1) := by decide +kernel
theorem ggX10_passTried_X10_inForce : GoodIn wsX10_passTried wsX10_inForce := gW_in gwX10_inForce (fun _ h => List.mem_cons_of_mem _ (List.mem_append_right _ (List.mem_append_right _ (List.mem_append_right _ (List.mem_append_right _ (List.mem_append_right _ (List.mem_append_left _ h)))))))
set_option maxRecDepth 20000 in
theorem gX10_passTried_X10_inForce : GoodIn wsX10_passTried (wsV RX10 153 RX10 yX10_inForce wsX10_inForce) := goodIn_app (goodIn_of _ (by decide +kernel)) ggX10_passTried_X10_inForce
theorem ggX10_passTried_X4_pass : GoodIn wsX10_passTried wsX4_pass := gW_in gwX4_pass (fun _ h => List.mem_cons_of_mem _ (List.mem_append_right _ (List.mem_append_right _ (List.mem_append_right _ (List.mem_append_right _ (List.mem_append_right _ (List.mem_append_right _ (h))))))))
set_option maxRecDepth 20000 in
theorem gX10_passTried_X4_pass : GoodIn wsX10_passTried (wsV RX10 157 RX4 yX4_pass wsX4_pass) := goodIn_app (goodIn_of _ (by decide +kernel)) ggX10_passTried_X4_pass
theorem dX10_passTried_0 : decode cX10_passTried 0 = .ok (.iconst 0, 1) := by decide +kernel
theorem dX10_passTried_1 : decode cX10_passTried 1 = .ok (.istore_n 2, 1) := by decide +kernel
theorem dX10_passTried_2 : decode cX10_passTried 2 = .ok (.iload_n 2, 1) := by decide +kernel
theorem dX10_passTried_3 : decode cX10_passTried 3 = .ok (.iload_n 1, 1) := by decide +kernel
theorem dX10_passTried_4 : decode cX10_passTried 4 = .ok (.if_icmp .ge 40, 3) := by decide +kernel
theorem dX10_passTried_7 : decode cX10_passTried 7 = .ok (.aload_n 0, 1) := by decide +kernel
theorem dX10_passTried_8 : decode cX10_passTried 8 = .ok (.getfield 50, 3) := by decide +kernel
theorem dX10_passTried_11 : decode cX10_passTried 11 = .ok (.getfield 114, 3) := by decide +kernel
theorem dX10_passTried_14 : decode cX10_passTried 14 = .ok (.bipush 120, 2) := by decide +kernel
theorem dX10_passTried_16 : decode cX10_passTried 16 = .ok (.if_icmp .ge 28, 3) := by decide +kernel
theorem dX10_passTried_19 : decode cX10_passTried 19 = .ok (.aload_n 0, 1) := by decide +kernel
theorem dX10_passTried_20 : decode cX10_passTried 20 = .ok (.getfield 50, 3) := by decide +kernel
theorem dX10_passTried_23 : decode cX10_passTried 23 = .ok (.aload_n 0, 1) := by decide +kernel
theorem dX10_passTried_24 : decode cX10_passTried 24 = .ok (.getfield 23, 3) := by decide +kernel
theorem dX10_passTried_27 : decode cX10_passTried 27 = .ok (.aload_n 0, 1) := by decide +kernel
theorem dX10_passTried_28 : decode cX10_passTried 28 = .ok (.aload_n 0, 1) := by decide +kernel
theorem dX10_passTried_29 : decode cX10_passTried 29 = .ok (.getfield 50, 3) := by decide +kernel
theorem dX10_passTried_32 : decode cX10_passTried 32 = .ok (.invokevirtual 153, 3) := by decide +kernel
theorem dX10_passTried_35 : decode cX10_passTried 35 = .ok (.invokevirtual 157, 3) := by decide +kernel
theorem dX10_passTried_38 : decode cX10_passTried 38 = .ok (.iinc 2 1, 3) := by decide +kernel
theorem dX10_passTried_41 : decode cX10_passTried 41 = .ok (.goto (-39), 3) := by decide +kernel
theorem dX10_passTried_44 : decode cX10_passTried 44 = .ok (.return_, 1) := by decide +kernel
theorem ggX10_trySigned_X4_take : GoodIn wsX10_trySigned wsX4_take := gW_in gwX4_take (fun _ h => List.mem_cons_of_mem _ (List.mem_append_right _ (List.mem_append_right _ (List.mem_append_right _ (List.mem_append_right _ (List.mem_append_right _ (List.mem_append_right _ (List.mem_append_left _ h))))))))
set_option maxRecDepth 20000 in
theorem gX10_trySigned_X4_take : GoodIn wsX10_trySigned (wsV RX10 183 RX4 yX4_take wsX4_take) := goodIn_app (goodIn_of _ (by decide +kernel)) ggX10_trySigned_X4_take
theorem ggX10_trySigned_X4_pledge : GoodIn wsX10_trySigned wsX4_pledge := gW_in gwX4_pledge (fun _ h => List.mem_cons_of_mem _ (List.mem_append_right _ (List.mem_append_right _ (List.mem_append_right _ (List.mem_append_right _ (List.mem_append_right _ (List.mem_append_right _ (List.mem_append_right _ (List.mem_append_left _ h)))))))))
set_option maxRecDepth 20000 in
theorem gX10_trySigned_X4_pledge : GoodIn wsX10_trySigned (wsV RX10 140 RX4 yX4_pledge wsX4_pledge) := goodIn_app (goodIn_of _ (by decide +kernel)) ggX10_trySigned_X4_pledge
theorem ggX10_trySigned_X10_passTried : GoodIn wsX10_trySigned wsX10_passTried := gW_in gwX10_passTried (fun _ h => List.mem_cons_of_mem _ (List.mem_append_right _ (List.mem_append_right _ (List.mem_append_right _ (List.mem_append_right _ (List.mem_append_right _ (List.mem_append_right _ (List.mem_append_right _ (List.mem_append_right _ (h))))))))))
set_option maxRecDepth 20000 in
theorem gX10_trySigned_X10_passTried : GoodIn wsX10_trySigned (wsV RX10 186 RX10 yX10_passTried wsX10_passTried) := goodIn_app (goodIn_of _ (by decide +kernel)) ggX10_trySigned_X10_passTried
theorem dX10_trySigned_0 : decode cX10_trySigned 0 = .ok (.aload_n 0, 1) := by decide +kernel
theorem dX10_trySigned_1 : decode cX10_trySigned 1 = .ok (.getfield 50, 3) := by decide +kernel
theorem dX10_trySigned_4 : decode cX10_trySigned 4 = .ok (.aload_n 0, 1) := by decide +kernel
theorem dX10_trySigned_5 : decode cX10_trySigned 5 = .ok (.getfield 39, 3) := by decide +kernel
theorem dX10_trySigned_8 : decode cX10_trySigned 8 = .ok (.getfield 66, 3) := by decide +kernel
theorem dX10_trySigned_11 : decode cX10_trySigned 11 = .ok (.invokevirtual 183, 3) := by decide +kernel
theorem dX10_trySigned_14 : decode cX10_trySigned 14 = .ok (.aload_n 0, 1) := by decide +kernel
theorem dX10_trySigned_15 : decode cX10_trySigned 15 = .ok (.getfield 50, 3) := by decide +kernel
theorem dX10_trySigned_18 : decode cX10_trySigned 18 = .ok (.iload_n 1, 1) := by decide +kernel
theorem dX10_trySigned_19 : decode cX10_trySigned 19 = .ok (.invokevirtual 140, 3) := by decide +kernel
theorem dX10_trySigned_22 : decode cX10_trySigned 22 = .ok (.aload_n 0, 1) := by decide +kernel
theorem dX10_trySigned_23 : decode cX10_trySigned 23 = .ok (.iload_n 2, 1) := by decide +kernel
theorem dX10_trySigned_24 : decode cX10_trySigned 24 = .ok (.invokevirtual 186, 3) := by decide +kernel
theorem dX10_trySigned_27 : decode cX10_trySigned 27 = .ok (.aload_n 0, 1) := by decide +kernel
theorem dX10_trySigned_28 : decode cX10_trySigned 28 = .ok (.getfield 50, 3) := by decide +kernel
theorem dX10_trySigned_31 : decode cX10_trySigned 31 = .ok (.getfield 111, 3) := by decide +kernel
theorem dX10_trySigned_34 : decode cX10_trySigned 34 = .ok (.iconst 0, 1) := by decide +kernel
theorem dX10_trySigned_35 : decode cX10_trySigned 35 = .ok (.iaload, 1) := by decide +kernel
theorem dX10_trySigned_36 : decode cX10_trySigned 36 = .ok (.ireturn, 1) := by decide +kernel
theorem dJ9_abs_0f7a4_0 : decode cJ9_abs_0f7a4 0 = .ok (.iload_n 0, 1) := by decide +kernel
theorem dJ9_abs_0f7a4_1 : decode cJ9_abs_0f7a4 1 = .ok (.ifCond .ge 8, 3) := by decide +kernel
theorem dJ9_abs_0f7a4_4 : decode cJ9_abs_0f7a4 4 = .ok (.iload_n 0, 1) := by decide +kernel
theorem dJ9_abs_0f7a4_5 : decode cJ9_abs_0f7a4 5 = .ok (.ineg, 1) := by decide +kernel
theorem dJ9_abs_0f7a4_6 : decode cJ9_abs_0f7a4 6 = .ok (.goto 4, 3) := by decide +kernel
theorem dJ9_abs_0f7a4_9 : decode cJ9_abs_0f7a4 9 = .ok (.iload_n 0, 1) := by decide +kernel
theorem dJ9_abs_0f7a4_10 : decode cJ9_abs_0f7a4 10 = .ok (.ireturn, 1) := by decide +kernel
theorem dJ9_max_7cf53_0 : decode cJ9_max_7cf53 0 = .ok (.iload_n 0, 1) := by decide +kernel
theorem dJ9_max_7cf53_1 : decode cJ9_max_7cf53 1 = .ok (.iload_n 1, 1) := by decide +kernel
theorem dJ9_max_7cf53_2 : decode cJ9_max_7cf53 2 = .ok (.if_icmp .lt 7, 3) := by decide +kernel
theorem dJ9_max_7cf53_5 : decode cJ9_max_7cf53 5 = .ok (.iload_n 0, 1) := by decide +kernel
theorem dJ9_max_7cf53_6 : decode cJ9_max_7cf53 6 = .ok (.goto 4, 3) := by decide +kernel
theorem dJ9_max_7cf53_9 : decode cJ9_max_7cf53 9 = .ok (.iload_n 1, 1) := by decide +kernel
theorem dJ9_max_7cf53_10 : decode cJ9_max_7cf53 10 = .ok (.ireturn, 1) := by decide +kernel
theorem dJ9_min_7cf53_0 : decode cJ9_min_7cf53 0 = .ok (.iload_n 0, 1) := by decide +kernel
theorem dJ9_min_7cf53_1 : decode cJ9_min_7cf53 1 = .ok (.iload_n 1, 1) := by decide +kernel
theorem dJ9_min_7cf53_2 : decode cJ9_min_7cf53 2 = .ok (.if_icmp .gt 7, 3) := by decide +kernel
theorem dJ9_min_7cf53_5 : decode cJ9_min_7cf53 5 = .ok (.iload_n 0, 1) := by decide +kernel
theorem dJ9_min_7cf53_6 : decode cJ9_min_7cf53 6 = .ok (.goto 4, 3) := by decide +kernel
theorem dJ9_min_7cf53_9 : decode cJ9_min_7cf53 9 = .ok (.iload_n 1, 1) := by decide +kernel
theorem dJ9_min_7cf53_10 : decode cJ9_min_7cf53 10 = .ok (.ireturn, 1) := by decide +kernel
theorem ggJ0_length_8abf5_J0_coder_7d493 : GoodIn wsJ0_length_8abf5 wsJ0_coder_7d493 := gW_in gwJ0_coder_7d493 (fun _ h => List.mem_cons_of_mem _ (List.mem_append_right _ (h)))
set_option maxRecDepth 20000 in
theorem gJ0_length_8abf5_J0_coder_7d493 : GoodIn wsJ0_length_8abf5 (wsV RJ0 335 RJ0 yJ0_coder_7d493 wsJ0_coder_7d493) := goodIn_app (goodIn_of _ (by decide +kernel)) ggJ0_length_8abf5_J0_coder_7d493
theorem dJ0_length_8abf5_0 : decode cJ0_length_8abf5 0 = .ok (.aload_n 0, 1) := by decide +kernel
theorem dJ0_length_8abf5_1 : decode cJ0_length_8abf5 1 = .ok (.getfield 9, 3) := by decide +kernel
theorem dJ0_length_8abf5_4 : decode cJ0_length_8abf5 4 = .ok (.arraylength, 1) := by decide +kernel
theorem dJ0_length_8abf5_5 : decode cJ0_length_8abf5 5 = .ok (.aload_n 0, 1) := by decide +kernel
theorem dJ0_length_8abf5_6 : decode cJ0_length_8abf5 6 = .ok (.invokevirtual 335, 3) := by decide +kernel
theorem dJ0_length_8abf5_9 : decode cJ0_length_8abf5 9 = .ok (.ishr, 1) := by decide +kernel
theorem dJ0_length_8abf5_10 : decode cJ0_length_8abf5 10 = .ok (.ireturn, 1) := by decide +kernel
theorem ggJ0_charAt_5068e_J0_isLatin1_aae02 : GoodIn wsJ0_charAt_5068e wsJ0_isLatin1_aae02 := gW_in gwJ0_isLatin1_aae02 (fun _ h => List.mem_cons_of_mem _ (List.mem_append_right _ (List.mem_append_left _ h)))
set_option maxRecDepth 20000 in
theorem gJ0_charAt_5068e_J0_isLatin1_aae02 : GoodIn wsJ0_charAt_5068e (wsV RJ0 492 RJ0 yJ0_isLatin1_aae02 wsJ0_isLatin1_aae02) := goodIn_app (goodIn_of _ (by decide +kernel)) ggJ0_charAt_5068e_J0_isLatin1_aae02
theorem ggJ0_charAt_5068e_J1_charAt_3b067 : GoodIn wsJ0_charAt_5068e wsJ1_charAt_3b067 := gW_in gwJ1_charAt_3b067 (fun _ h => List.mem_cons_of_mem _ (List.mem_append_right _ (List.mem_append_right _ (List.mem_append_left _ h))))
set_option maxRecDepth 20000 in
theorem gJ0_charAt_5068e_J1_charAt_3b067 : GoodIn wsJ0_charAt_5068e (va_wsS RJ0 495 yJ1_charAt_3b067 wsJ1_charAt_3b067) := goodIn_app (goodIn_of _ (by decide +kernel)) ggJ0_charAt_5068e_J1_charAt_3b067
theorem ggJ0_charAt_5068e_J2_charAt_3b067 : GoodIn wsJ0_charAt_5068e wsJ2_charAt_3b067 := gW_in gwJ2_charAt_3b067 (fun _ h => List.mem_cons_of_mem _ (List.mem_append_right _ (List.mem_append_right _ (List.mem_append_right _ (h)))))
set_option maxRecDepth 20000 in
theorem gJ0_charAt_5068e_J2_charAt_3b067 : GoodIn wsJ0_charAt_5068e (va_wsS RJ0 498 yJ2_charAt_3b067 wsJ2_charAt_3b067) := goodIn_app (goodIn_of _ (by decide +kernel)) ggJ0_charAt_5068e_J2_charAt_3b067
theorem dJ0_charAt_5068e_0 : decode cJ0_charAt_5068e 0 = .ok (.aload_n 0, 1) := by decide +kernel
theorem dJ0_charAt_5068e_1 : decode cJ0_charAt_5068e 1 = .ok (.invokevirtual 492, 3) := by decide +kernel
theorem dJ0_charAt_5068e_4 : decode cJ0_charAt_5068e 4 = .ok (.ifCond .eq 12, 3) := by decide +kernel
theorem dJ0_charAt_5068e_7 : decode cJ0_charAt_5068e 7 = .ok (.aload_n 0, 1) := by decide +kernel
theorem dJ0_charAt_5068e_8 : decode cJ0_charAt_5068e 8 = .ok (.getfield 9, 3) := by decide +kernel
theorem dJ0_charAt_5068e_11 : decode cJ0_charAt_5068e 11 = .ok (.iload_n 1, 1) := by decide +kernel
theorem dJ0_charAt_5068e_12 : decode cJ0_charAt_5068e 12 = .ok (.invokestatic 495, 3) := by decide +kernel
theorem dJ0_charAt_5068e_15 : decode cJ0_charAt_5068e 15 = .ok (.ireturn, 1) := by decide +kernel
theorem dJ0_charAt_5068e_16 : decode cJ0_charAt_5068e 16 = .ok (.aload_n 0, 1) := by decide +kernel
theorem dJ0_charAt_5068e_17 : decode cJ0_charAt_5068e 17 = .ok (.getfield 9, 3) := by decide +kernel
theorem dJ0_charAt_5068e_20 : decode cJ0_charAt_5068e 20 = .ok (.iload_n 1, 1) := by decide +kernel
theorem dJ0_charAt_5068e_21 : decode cJ0_charAt_5068e 21 = .ok (.invokestatic 498, 3) := by decide +kernel
theorem dJ0_charAt_5068e_24 : decode cJ0_charAt_5068e 24 = .ok (.ireturn, 1) := by decide +kernel
theorem dJ0_coder_7d493_0 : decode cJ0_coder_7d493 0 = .ok (.getstatic 38, 3) := by decide +kernel
theorem dJ0_coder_7d493_3 : decode cJ0_coder_7d493 3 = .ok (.ifCond .eq 10, 3) := by decide +kernel
theorem dJ0_coder_7d493_6 : decode cJ0_coder_7d493 6 = .ok (.aload_n 0, 1) := by decide +kernel
theorem dJ0_coder_7d493_7 : decode cJ0_coder_7d493 7 = .ok (.getfield 15, 3) := by decide +kernel
theorem dJ0_coder_7d493_10 : decode cJ0_coder_7d493 10 = .ok (.goto 4, 3) := by decide +kernel
theorem dJ0_coder_7d493_13 : decode cJ0_coder_7d493 13 = .ok (.iconst 1, 1) := by decide +kernel
theorem dJ0_coder_7d493_14 : decode cJ0_coder_7d493 14 = .ok (.ireturn, 1) := by decide +kernel
theorem dJ0_isLatin1_aae02_0 : decode cJ0_isLatin1_aae02 0 = .ok (.getstatic 38, 3) := by decide +kernel
theorem dJ0_isLatin1_aae02_3 : decode cJ0_isLatin1_aae02 3 = .ok (.ifCond .eq 14, 3) := by decide +kernel
theorem dJ0_isLatin1_aae02_6 : decode cJ0_isLatin1_aae02 6 = .ok (.aload_n 0, 1) := by decide +kernel
theorem dJ0_isLatin1_aae02_7 : decode cJ0_isLatin1_aae02 7 = .ok (.getfield 15, 3) := by decide +kernel
