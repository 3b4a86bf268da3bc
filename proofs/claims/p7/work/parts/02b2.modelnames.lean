section
def dX11_mends_34 := bX11_mends_25.2.2.2.2.2.2.2.1
def dX11_mends_35 := bX11_mends_25.2.2.2.2.2.2.2.2.1
def dX11_mends_36 := bX11_mends_25.2.2.2.2.2.2.2.2.2.1
def dX11_mends_37 := bX11_mends_25.2.2.2.2.2.2.2.2.2.2.1
def dX11_mends_40 := bX11_mends_25.2.2.2.2.2.2.2.2.2.2.2.1
def dX11_mends_42 := bX11_mends_25.2.2.2.2.2.2.2.2.2.2.2.2.1
def dX11_mends_43 := bX11_mends_25.2.2.2.2.2.2.2.2.2.2.2.2.2.1
def dX11_mends_44 := bX11_mends_25.2.2.2.2.2.2.2.2.2.2.2.2.2.2.1
def dX11_mends_45 := bX11_mends_25.2.2.2.2.2.2.2.2.2.2.2.2.2.2.2
theorem bX11_mends_46 : decode cX11_mends 46 = .ok (.invokestatic 186, 3) ∧ decode cX11_mends 49 = .ok (.istore_n 3, 1) ∧ decode cX11_mends 50 = .ok (.iload_n 1, 1) ∧ decode cX11_mends 51 = .ok (.ifCond .ne 7, 3) ∧ decode cX11_mends 54 = .ok (.iload_n 3, 1) ∧ decode cX11_mends 55 = .ok (.goto 15, 3) ∧ decode cX11_mends 58 = .ok (.iload_n 3, 1) ∧ decode cX11_mends 59 = .ok (.aload_n 0, 1) ∧ decode cX11_mends 60 = .ok (.getfield 46, 3) ∧ decode cX11_mends 63 = .ok (.iconst 0, 1) ∧ decode cX11_mends 64 = .ok (.iaload, 1) ∧ decode cX11_mends 65 = .ok (.iload_n 1, 1) ∧ decode cX11_mends 66 = .ok (.idiv, 1) ∧ decode cX11_mends 67 = .ok (.invokestatic 186, 3) ∧ decode cX11_mends 70 = .ok (.istore_n 3, 1) ∧ decode cX11_mends 71 = .ok (.aload_n 0, 1) := by decide +kernel
def dX11_mends_46 := bX11_mends_46.1
def dX11_mends_49 := bX11_mends_46.2.1
def dX11_mends_50 := bX11_mends_46.2.2.1
def dX11_mends_51 := bX11_mends_46.2.2.2.1
def dX11_mends_54 := bX11_mends_46.2.2.2.2.1
def dX11_mends_55 := bX11_mends_46.2.2.2.2.2.1
def dX11_mends_58 := bX11_mends_46.2.2.2.2.2.2.1
def dX11_mends_59 := bX11_mends_46.2.2.2.2.2.2.2.1
def dX11_mends_60 := bX11_mends_46.2.2.2.2.2.2.2.2.1
def dX11_mends_63 := bX11_mends_46.2.2.2.2.2.2.2.2.2.1
def dX11_mends_64 := bX11_mends_46.2.2.2.2.2.2.2.2.2.2.1
def dX11_mends_65 := bX11_mends_46.2.2.2.2.2.2.2.2.2.2.2.1
def dX11_mends_66 := bX11_mends_46.2.2.2.2.2.2.2.2.2.2.2.2.1
def dX11_mends_67 := bX11_mends_46.2.2.2.2.2.2.2.2.2.2.2.2.2.1
def dX11_mends_70 := bX11_mends_46.2.2.2.2.2.2.2.2.2.2.2.2.2.2.1
def dX11_mends_71 := bX11_mends_46.2.2.2.2.2.2.2.2.2.2.2.2.2.2.2
theorem bX11_mends_72 : decode cX11_mends 72 = .ok (.iconst 0, 1) ∧ decode cX11_mends 73 = .ok (.iconst 2, 1) ∧ decode cX11_mends 74 = .ok (.iload_n 1, 1) ∧ decode cX11_mends 75 = .ok (.iload_n 3, 1) ∧ decode cX11_mends 76 = .ok (.imul, 1) ∧ decode cX11_mends 77 = .ok (.invokevirtual 199, 3) ∧ decode cX11_mends 80 = .ok (.aload_n 0, 1) ∧ decode cX11_mends 81 = .ok (.getfield 46, 3) ∧ decode cX11_mends 84 = .ok (.bipush 12, 2) ∧ decode cX11_mends 86 = .ok (.iload_n 2, 1) ∧ decode cX11_mends 87 = .ok (.iadd, 1) ∧ decode cX11_mends 88 = .ok (.dup2, 1) ∧ decode cX11_mends 89 = .ok (.iaload, 1) ∧ decode cX11_mends 90 = .ok (.iload_n 3, 1) ∧ decode cX11_mends 91 = .ok (.iadd, 1) ∧ decode cX11_mends 92 = .ok (.iastore, 1) := by decide +kernel
def dX11_mends_72 := bX11_mends_72.1
def dX11_mends_73 := bX11_mends_72.2.1
def dX11_mends_74 := bX11_mends_72.2.2.1
def dX11_mends_75 := bX11_mends_72.2.2.2.1
def dX11_mends_76 := bX11_mends_72.2.2.2.2.1
def dX11_mends_77 := bX11_mends_72.2.2.2.2.2.1
def dX11_mends_80 := bX11_mends_72.2.2.2.2.2.2.1
def dX11_mends_81 := bX11_mends_72.2.2.2.2.2.2.2.1
def dX11_mends_84 := bX11_mends_72.2.2.2.2.2.2.2.2.1
def dX11_mends_86 := bX11_mends_72.2.2.2.2.2.2.2.2.2.1
def dX11_mends_87 := bX11_mends_72.2.2.2.2.2.2.2.2.2.2.1
def dX11_mends_88 := bX11_mends_72.2.2.2.2.2.2.2.2.2.2.2.1
def dX11_mends_89 := bX11_mends_72.2.2.2.2.2.2.2.2.2.2.2.2.1
def dX11_mends_90 := bX11_mends_72.2.2.2.2.2.2.2.2.2.2.2.2.2.1
def dX11_mends_91 := bX11_mends_72.2.2.2.2.2.2.2.2.2.2.2.2.2.2.1
def dX11_mends_92 := bX11_mends_72.2.2.2.2.2.2.2.2.2.2.2.2.2.2.2
theorem bX11_mends_93 : decode cX11_mends 93 = .ok (.iinc 2 1, 3) ∧ decode cX11_mends 96 = .ok (.goto (-86), 3) ∧ decode cX11_mends 99 = .ok (.return_, 1) := by decide +kernel
def dX11_mends_93 := bX11_mends_93.1
def dX11_mends_96 := bX11_mends_93.2.1
def dX11_mends_99 := bX11_mends_93.2.2
theorem ggX11_monthGoes_X11_pays : GoodIn wsX11_monthGoes wsX11_pays := gW_in gwX11_pays (fun _ h => List.mem_cons_of_mem _ (List.mem_append_right _ (List.mem_append_right _ (List.mem_append_left _ h))))
set_option maxRecDepth 20000 in
theorem gX11_monthGoes_X11_pays : GoodIn wsX11_monthGoes (wsV RX11 199 RX11 yX11_pays wsX11_pays) := goodIn_app (goodIn_of _ (by decide +kernel)) ggX11_monthGoes_X11_pays
theorem ggX11_monthGoes_X11_underContract : GoodIn wsX11_monthGoes wsX11_underContract := gW_in gwX11_underContract (fun _ h => List.mem_cons_of_mem _ (List.mem_append_right _ (List.mem_append_right _ (List.mem_append_right _ (List.mem_append_left _ h)))))
set_option maxRecDepth 20000 in
theorem gX11_monthGoes_X11_underContract : GoodIn wsX11_monthGoes (wsV RX11 207 RX11 yX11_underContract wsX11_underContract) := goodIn_app (goodIn_of _ (by decide +kernel)) ggX11_monthGoes_X11_underContract
theorem ggX11_monthGoes_X11_mends : GoodIn wsX11_monthGoes wsX11_mends := gW_in gwX11_mends (fun _ h => List.mem_cons_of_mem _ (List.mem_append_right _ (List.mem_append_right _ (List.mem_append_right _ (List.mem_append_right _ (List.mem_append_left _ h))))))
set_option maxRecDepth 20000 in
theorem gX11_monthGoes_X11_mends : GoodIn wsX11_monthGoes (wsV RX11 210 RX11 yX11_mends wsX11_mends) := goodIn_app (goodIn_of _ (by decide +kernel)) ggX11_monthGoes_X11_mends
theorem ggX11_monthGoes_X11_deserts : GoodIn wsX11_monthGoes wsX11_deserts := gW_in gwX11_deserts (fun _ h => List.mem_cons_of_mem _ (List.mem_append_right _ (List.mem_append_right _ (List.mem_append_right _ (List.mem_append_right _ (List.mem_append_right _ (List.mem_append_left _ h)))))))
set_option maxRecDepth 20000 in
theorem gX11_monthGoes_X11_deserts : GoodIn wsX11_monthGoes (wsV RX11 213 RX11 yX11_deserts wsX11_deserts) := goodIn_app (goodIn_of _ (by decide +kernel)) ggX11_monthGoes_X11_deserts
theorem ggX11_monthGoes_X11_signs : GoodIn wsX11_monthGoes wsX11_signs := gW_in gwX11_signs (fun _ h => List.mem_cons_of_mem _ (List.mem_append_right _ (List.mem_append_right _ (List.mem_append_right _ (List.mem_append_right _ (List.mem_append_right _ (List.mem_append_right _ (h))))))))
set_option maxRecDepth 20000 in
theorem gX11_monthGoes_X11_signs : GoodIn wsX11_monthGoes (wsV RX11 183 RX11 yX11_signs wsX11_signs) := goodIn_app (goodIn_of _ (by decide +kernel)) ggX11_monthGoes_X11_signs
theorem bX11_monthGoes_0 : decode cX11_monthGoes 0 = .ok (.aload_n 0, 1) ∧ decode cX11_monthGoes 1 = .ok (.iconst 2, 1) ∧ decode cX11_monthGoes 2 = .ok (.iconst 0, 1) ∧ decode cX11_monthGoes 3 = .ok (.aload_n 0, 1) ∧ decode cX11_monthGoes 4 = .ok (.getfield 46, 3) ∧ decode cX11_monthGoes 7 = .ok (.iconst 3, 1) ∧ decode cX11_monthGoes 8 = .ok (.iaload, 1) ∧ decode cX11_monthGoes 9 = .ok (.aload_n 0, 1) ∧ decode cX11_monthGoes 10 = .ok (.getfield 23, 3) ∧ decode cX11_monthGoes 13 = .ok (.bipush 8, 2) ∧ decode cX11_monthGoes 15 = .ok (.iaload, 1) ∧ decode cX11_monthGoes 16 = .ok (.imul, 1) ∧ decode cX11_monthGoes 17 = .ok (.aload_n 0, 1) ∧ decode cX11_monthGoes 18 = .ok (.getfield 46, 3) ∧ decode cX11_monthGoes 21 = .ok (.iconst 5, 1) ∧ decode cX11_monthGoes 22 = .ok (.iaload, 1) := by decide +kernel
def dX11_monthGoes_0 := bX11_monthGoes_0.1
def dX11_monthGoes_1 := bX11_monthGoes_0.2.1
def dX11_monthGoes_2 := bX11_monthGoes_0.2.2.1
def dX11_monthGoes_3 := bX11_monthGoes_0.2.2.2.1
def dX11_monthGoes_4 := bX11_monthGoes_0.2.2.2.2.1
def dX11_monthGoes_7 := bX11_monthGoes_0.2.2.2.2.2.1
def dX11_monthGoes_8 := bX11_monthGoes_0.2.2.2.2.2.2.1
def dX11_monthGoes_9 := bX11_monthGoes_0.2.2.2.2.2.2.2.1
def dX11_monthGoes_10 := bX11_monthGoes_0.2.2.2.2.2.2.2.2.1
def dX11_monthGoes_13 := bX11_monthGoes_0.2.2.2.2.2.2.2.2.2.1
def dX11_monthGoes_15 := bX11_monthGoes_0.2.2.2.2.2.2.2.2.2.2.1
def dX11_monthGoes_16 := bX11_monthGoes_0.2.2.2.2.2.2.2.2.2.2.2.1
def dX11_monthGoes_17 := bX11_monthGoes_0.2.2.2.2.2.2.2.2.2.2.2.2.1
def dX11_monthGoes_18 := bX11_monthGoes_0.2.2.2.2.2.2.2.2.2.2.2.2.2.1
def dX11_monthGoes_21 := bX11_monthGoes_0.2.2.2.2.2.2.2.2.2.2.2.2.2.2.1
def dX11_monthGoes_22 := bX11_monthGoes_0.2.2.2.2.2.2.2.2.2.2.2.2.2.2.2
theorem bX11_monthGoes_23 : decode cX11_monthGoes 23 = .ok (.imul, 1) ∧ decode cX11_monthGoes 24 = .ok (.sipush 10000, 3) ∧ decode cX11_monthGoes 27 = .ok (.idiv, 1) ∧ decode cX11_monthGoes 28 = .ok (.invokevirtual 199, 3) ∧ decode cX11_monthGoes 31 = .ok (.aload_n 0, 1) ∧ decode cX11_monthGoes 32 = .ok (.getfield 46, 3) ∧ decode cX11_monthGoes 35 = .ok (.bipush 10, 2) ∧ decode cX11_monthGoes 37 = .ok (.iaload, 1) ∧ decode cX11_monthGoes 38 = .ok (.iconst (-1), 1) ∧ decode cX11_monthGoes 39 = .ok (.if_icmp .eq 7, 3) ∧ decode cX11_monthGoes 42 = .ok (.aload_n 0, 1) ∧ decode cX11_monthGoes 43 = .ok (.invokevirtual 207, 3) ∧ decode cX11_monthGoes 46 = .ok (.aload_n 0, 1) ∧ decode cX11_monthGoes 47 = .ok (.getfield 46, 3) ∧ decode cX11_monthGoes 50 = .ok (.iconst 5, 1) ∧ decode cX11_monthGoes 51 = .ok (.aload_n 0, 1) := by decide +kernel
def dX11_monthGoes_23 := bX11_monthGoes_23.1
def dX11_monthGoes_24 := bX11_monthGoes_23.2.1
def dX11_monthGoes_27 := bX11_monthGoes_23.2.2.1
def dX11_monthGoes_28 := bX11_monthGoes_23.2.2.2.1
def dX11_monthGoes_31 := bX11_monthGoes_23.2.2.2.2.1
def dX11_monthGoes_32 := bX11_monthGoes_23.2.2.2.2.2.1
def dX11_monthGoes_35 := bX11_monthGoes_23.2.2.2.2.2.2.1
def dX11_monthGoes_37 := bX11_monthGoes_23.2.2.2.2.2.2.2.1
def dX11_monthGoes_38 := bX11_monthGoes_23.2.2.2.2.2.2.2.2.1
def dX11_monthGoes_39 := bX11_monthGoes_23.2.2.2.2.2.2.2.2.2.1
def dX11_monthGoes_42 := bX11_monthGoes_23.2.2.2.2.2.2.2.2.2.2.1
def dX11_monthGoes_43 := bX11_monthGoes_23.2.2.2.2.2.2.2.2.2.2.2.1
def dX11_monthGoes_46 := bX11_monthGoes_23.2.2.2.2.2.2.2.2.2.2.2.2.1
def dX11_monthGoes_47 := bX11_monthGoes_23.2.2.2.2.2.2.2.2.2.2.2.2.2.1
def dX11_monthGoes_50 := bX11_monthGoes_23.2.2.2.2.2.2.2.2.2.2.2.2.2.2.1
def dX11_monthGoes_51 := bX11_monthGoes_23.2.2.2.2.2.2.2.2.2.2.2.2.2.2.2
theorem bX11_monthGoes_52 : decode cX11_monthGoes 52 = .ok (.getfield 46, 3) ∧ decode cX11_monthGoes 55 = .ok (.iconst 5, 1) ∧ decode cX11_monthGoes 56 = .ok (.iaload, 1) ∧ decode cX11_monthGoes 57 = .ok (.aload_n 0, 1) ∧ decode cX11_monthGoes 58 = .ok (.getfield 23, 3) ∧ decode cX11_monthGoes 61 = .ok (.bipush 11, 2) ∧ decode cX11_monthGoes 63 = .ok (.iaload, 1) ∧ decode cX11_monthGoes 64 = .ok (.if_icmp .ge 7, 3) ∧ decode cX11_monthGoes 67 = .ok (.iconst 0, 1) ∧ decode cX11_monthGoes 68 = .ok (.goto 17, 3) ∧ decode cX11_monthGoes 71 = .ok (.aload_n 0, 1) ∧ decode cX11_monthGoes 72 = .ok (.getfield 46, 3) ∧ decode cX11_monthGoes 75 = .ok (.iconst 5, 1) ∧ decode cX11_monthGoes 76 = .ok (.iaload, 1) ∧ decode cX11_monthGoes 77 = .ok (.aload_n 0, 1) ∧ decode cX11_monthGoes 78 = .ok (.getfield 23, 3) := by decide +kernel
def dX11_monthGoes_52 := bX11_monthGoes_52.1
def dX11_monthGoes_55 := bX11_monthGoes_52.2.1
def dX11_monthGoes_56 := bX11_monthGoes_52.2.2.1
def dX11_monthGoes_57 := bX11_monthGoes_52.2.2.2.1
def dX11_monthGoes_58 := bX11_monthGoes_52.2.2.2.2.1
def dX11_monthGoes_61 := bX11_monthGoes_52.2.2.2.2.2.1
def dX11_monthGoes_63 := bX11_monthGoes_52.2.2.2.2.2.2.1
def dX11_monthGoes_64 := bX11_monthGoes_52.2.2.2.2.2.2.2.1
def dX11_monthGoes_67 := bX11_monthGoes_52.2.2.2.2.2.2.2.2.1
def dX11_monthGoes_68 := bX11_monthGoes_52.2.2.2.2.2.2.2.2.2.1
def dX11_monthGoes_71 := bX11_monthGoes_52.2.2.2.2.2.2.2.2.2.2.1
def dX11_monthGoes_72 := bX11_monthGoes_52.2.2.2.2.2.2.2.2.2.2.2.1
def dX11_monthGoes_75 := bX11_monthGoes_52.2.2.2.2.2.2.2.2.2.2.2.2.1
def dX11_monthGoes_76 := bX11_monthGoes_52.2.2.2.2.2.2.2.2.2.2.2.2.2.1
def dX11_monthGoes_77 := bX11_monthGoes_52.2.2.2.2.2.2.2.2.2.2.2.2.2.2.1
def dX11_monthGoes_78 := bX11_monthGoes_52.2.2.2.2.2.2.2.2.2.2.2.2.2.2.2
theorem bX11_monthGoes_81 : decode cX11_monthGoes 81 = .ok (.bipush 11, 2) ∧ decode cX11_monthGoes 83 = .ok (.iaload, 1) ∧ decode cX11_monthGoes 84 = .ok (.isub, 1) ∧ decode cX11_monthGoes 85 = .ok (.iastore, 1) ∧ decode cX11_monthGoes 86 = .ok (.aload_n 0, 1) ∧ decode cX11_monthGoes 87 = .ok (.invokevirtual 210, 3) ∧ decode cX11_monthGoes 90 = .ok (.aload_n 0, 1) ∧ decode cX11_monthGoes 91 = .ok (.iconst 0, 1) ∧ decode cX11_monthGoes 92 = .ok (.iconst 2, 1) ∧ decode cX11_monthGoes 93 = .ok (.aload_n 0, 1) ∧ decode cX11_monthGoes 94 = .ok (.getfield 46, 3) ∧ decode cX11_monthGoes 97 = .ok (.iconst 3, 1) ∧ decode cX11_monthGoes 98 = .ok (.iaload, 1) ∧ decode cX11_monthGoes 99 = .ok (.bipush 10, 2) ∧ decode cX11_monthGoes 101 = .ok (.idiv, 1) ∧ decode cX11_monthGoes 102 = .ok (.aload_n 0, 1) := by decide +kernel
def dX11_monthGoes_81 := bX11_monthGoes_81.1
def dX11_monthGoes_83 := bX11_monthGoes_81.2.1
def dX11_monthGoes_84 := bX11_monthGoes_81.2.2.1
def dX11_monthGoes_85 := bX11_monthGoes_81.2.2.2.1
def dX11_monthGoes_86 := bX11_monthGoes_81.2.2.2.2.1
def dX11_monthGoes_87 := bX11_monthGoes_81.2.2.2.2.2.1
def dX11_monthGoes_90 := bX11_monthGoes_81.2.2.2.2.2.2.1
def dX11_monthGoes_91 := bX11_monthGoes_81.2.2.2.2.2.2.2.1
def dX11_monthGoes_92 := bX11_monthGoes_81.2.2.2.2.2.2.2.2.1
def dX11_monthGoes_93 := bX11_monthGoes_81.2.2.2.2.2.2.2.2.2.1
def dX11_monthGoes_94 := bX11_monthGoes_81.2.2.2.2.2.2.2.2.2.2.1
def dX11_monthGoes_97 := bX11_monthGoes_81.2.2.2.2.2.2.2.2.2.2.2.1
def dX11_monthGoes_98 := bX11_monthGoes_81.2.2.2.2.2.2.2.2.2.2.2.2.1
def dX11_monthGoes_99 := bX11_monthGoes_81.2.2.2.2.2.2.2.2.2.2.2.2.2.1
def dX11_monthGoes_101 := bX11_monthGoes_81.2.2.2.2.2.2.2.2.2.2.2.2.2.2.1
def dX11_monthGoes_102 := bX11_monthGoes_81.2.2.2.2.2.2.2.2.2.2.2.2.2.2.2
theorem bX11_monthGoes_103 : decode cX11_monthGoes 103 = .ok (.getfield 23, 3) ∧ decode cX11_monthGoes 106 = .ok (.iconst 3, 1) ∧ decode cX11_monthGoes 107 = .ok (.iaload, 1) ∧ decode cX11_monthGoes 108 = .ok (.imul, 1) ∧ decode cX11_monthGoes 109 = .ok (.invokevirtual 199, 3) ∧ decode cX11_monthGoes 112 = .ok (.aload_n 0, 1) ∧ decode cX11_monthGoes 113 = .ok (.iconst 1, 1) ∧ decode cX11_monthGoes 114 = .ok (.iconst 2, 1) ∧ decode cX11_monthGoes 115 = .ok (.aload_n 0, 1) ∧ decode cX11_monthGoes 116 = .ok (.getfield 46, 3) ∧ decode cX11_monthGoes 119 = .ok (.iconst 4, 1) ∧ decode cX11_monthGoes 120 = .ok (.iaload, 1) ∧ decode cX11_monthGoes 121 = .ok (.bipush 10, 2) ∧ decode cX11_monthGoes 123 = .ok (.idiv, 1) ∧ decode cX11_monthGoes 124 = .ok (.aload_n 0, 1) ∧ decode cX11_monthGoes 125 = .ok (.getfield 23, 3) := by decide +kernel
def dX11_monthGoes_103 := bX11_monthGoes_103.1
def dX11_monthGoes_106 := bX11_monthGoes_103.2.1
def dX11_monthGoes_107 := bX11_monthGoes_103.2.2.1
def dX11_monthGoes_108 := bX11_monthGoes_103.2.2.2.1
def dX11_monthGoes_109 := bX11_monthGoes_103.2.2.2.2.1
def dX11_monthGoes_112 := bX11_monthGoes_103.2.2.2.2.2.1
def dX11_monthGoes_113 := bX11_monthGoes_103.2.2.2.2.2.2.1
def dX11_monthGoes_114 := bX11_monthGoes_103.2.2.2.2.2.2.2.1
def dX11_monthGoes_115 := bX11_monthGoes_103.2.2.2.2.2.2.2.2.1
def dX11_monthGoes_116 := bX11_monthGoes_103.2.2.2.2.2.2.2.2.2.1
def dX11_monthGoes_119 := bX11_monthGoes_103.2.2.2.2.2.2.2.2.2.2.1
def dX11_monthGoes_120 := bX11_monthGoes_103.2.2.2.2.2.2.2.2.2.2.2.1
def dX11_monthGoes_121 := bX11_monthGoes_103.2.2.2.2.2.2.2.2.2.2.2.2.1
def dX11_monthGoes_123 := bX11_monthGoes_103.2.2.2.2.2.2.2.2.2.2.2.2.2.1
def dX11_monthGoes_124 := bX11_monthGoes_103.2.2.2.2.2.2.2.2.2.2.2.2.2.2.1
def dX11_monthGoes_125 := bX11_monthGoes_103.2.2.2.2.2.2.2.2.2.2.2.2.2.2.2
theorem bX11_monthGoes_128 : decode cX11_monthGoes 128 = .ok (.bipush 6, 2) ∧ decode cX11_monthGoes 130 = .ok (.iaload, 1) ∧ decode cX11_monthGoes 131 = .ok (.imul, 1) ∧ decode cX11_monthGoes 132 = .ok (.invokevirtual 199, 3) ∧ decode cX11_monthGoes 135 = .ok (.aload_n 0, 1) ∧ decode cX11_monthGoes 136 = .ok (.invokevirtual 213, 3) ∧ decode cX11_monthGoes 139 = .ok (.aload_n 0, 1) ∧ decode cX11_monthGoes 140 = .ok (.getfield 46, 3) ∧ decode cX11_monthGoes 143 = .ok (.bipush 24, 2) ∧ decode cX11_monthGoes 145 = .ok (.dup2, 1) ∧ decode cX11_monthGoes 146 = .ok (.iaload, 1) ∧ decode cX11_monthGoes 147 = .ok (.iconst 1, 1) ∧ decode cX11_monthGoes 148 = .ok (.iadd, 1) ∧ decode cX11_monthGoes 149 = .ok (.iastore, 1) ∧ decode cX11_monthGoes 150 = .ok (.aload_n 0, 1) ∧ decode cX11_monthGoes 151 = .ok (.getfield 46, 3) := by decide +kernel
def dX11_monthGoes_128 := bX11_monthGoes_128.1
def dX11_monthGoes_130 := bX11_monthGoes_128.2.1
def dX11_monthGoes_131 := bX11_monthGoes_128.2.2.1
def dX11_monthGoes_132 := bX11_monthGoes_128.2.2.2.1
def dX11_monthGoes_135 := bX11_monthGoes_128.2.2.2.2.1
def dX11_monthGoes_136 := bX11_monthGoes_128.2.2.2.2.2.1
def dX11_monthGoes_139 := bX11_monthGoes_128.2.2.2.2.2.2.1
def dX11_monthGoes_140 := bX11_monthGoes_128.2.2.2.2.2.2.2.1
def dX11_monthGoes_143 := bX11_monthGoes_128.2.2.2.2.2.2.2.2.1
def dX11_monthGoes_145 := bX11_monthGoes_128.2.2.2.2.2.2.2.2.2.1
def dX11_monthGoes_146 := bX11_monthGoes_128.2.2.2.2.2.2.2.2.2.2.1
def dX11_monthGoes_147 := bX11_monthGoes_128.2.2.2.2.2.2.2.2.2.2.2.1
def dX11_monthGoes_148 := bX11_monthGoes_128.2.2.2.2.2.2.2.2.2.2.2.2.1
def dX11_monthGoes_149 := bX11_monthGoes_128.2.2.2.2.2.2.2.2.2.2.2.2.2.1
def dX11_monthGoes_150 := bX11_monthGoes_128.2.2.2.2.2.2.2.2.2.2.2.2.2.2.1
def dX11_monthGoes_151 := bX11_monthGoes_128.2.2.2.2.2.2.2.2.2.2.2.2.2.2.2
theorem bX11_monthGoes_154 : decode cX11_monthGoes 154 = .ok (.bipush 10, 2) ∧ decode cX11_monthGoes 156 = .ok (.iaload, 1) ∧ decode cX11_monthGoes 157 = .ok (.iconst (-1), 1) ∧ decode cX11_monthGoes 158 = .ok (.if_icmp .ne 4, 3) ∧ decode cX11_monthGoes 161 = .ok (.return_, 1) ∧ decode cX11_monthGoes 162 = .ok (.aload_n 0, 1) ∧ decode cX11_monthGoes 163 = .ok (.getfield 46, 3) ∧ decode cX11_monthGoes 166 = .ok (.bipush 11, 2) ∧ decode cX11_monthGoes 168 = .ok (.dup2, 1) ∧ decode cX11_monthGoes 169 = .ok (.iaload, 1) ∧ decode cX11_monthGoes 170 = .ok (.iconst 1, 1) ∧ decode cX11_monthGoes 171 = .ok (.iadd, 1) ∧ decode cX11_monthGoes 172 = .ok (.iastore, 1) ∧ decode cX11_monthGoes 173 = .ok (.aload_n 0, 1) ∧ decode cX11_monthGoes 174 = .ok (.getfield 46, 3) ∧ decode cX11_monthGoes 177 = .ok (.bipush 11, 2) := by decide +kernel
def dX11_monthGoes_154 := bX11_monthGoes_154.1
def dX11_monthGoes_156 := bX11_monthGoes_154.2.1
def dX11_monthGoes_157 := bX11_monthGoes_154.2.2.1
def dX11_monthGoes_158 := bX11_monthGoes_154.2.2.2.1
def dX11_monthGoes_161 := bX11_monthGoes_154.2.2.2.2.1
def dX11_monthGoes_162 := bX11_monthGoes_154.2.2.2.2.2.1
def dX11_monthGoes_163 := bX11_monthGoes_154.2.2.2.2.2.2.1
def dX11_monthGoes_166 := bX11_monthGoes_154.2.2.2.2.2.2.2.1
def dX11_monthGoes_168 := bX11_monthGoes_154.2.2.2.2.2.2.2.2.1
def dX11_monthGoes_169 := bX11_monthGoes_154.2.2.2.2.2.2.2.2.2.1
def dX11_monthGoes_170 := bX11_monthGoes_154.2.2.2.2.2.2.2.2.2.2.1
def dX11_monthGoes_171 := bX11_monthGoes_154.2.2.2.2.2.2.2.2.2.2.2.1
def dX11_monthGoes_172 := bX11_monthGoes_154.2.2.2.2.2.2.2.2.2.2.2.2.1
def dX11_monthGoes_173 := bX11_monthGoes_154.2.2.2.2.2.2.2.2.2.2.2.2.2.1
def dX11_monthGoes_174 := bX11_monthGoes_154.2.2.2.2.2.2.2.2.2.2.2.2.2.2.1
def dX11_monthGoes_177 := bX11_monthGoes_154.2.2.2.2.2.2.2.2.2.2.2.2.2.2.2
theorem bX11_monthGoes_179 : decode cX11_monthGoes 179 = .ok (.iaload, 1) ∧ decode cX11_monthGoes 180 = .ok (.aload_n 0, 1) ∧ decode cX11_monthGoes 181 = .ok (.getfield 40, 3) ∧ decode cX11_monthGoes 184 = .ok (.aload_n 0, 1) ∧ decode cX11_monthGoes 185 = .ok (.getfield 46, 3) ∧ decode cX11_monthGoes 188 = .ok (.bipush 10, 2) ∧ decode cX11_monthGoes 190 = .ok (.iaload, 1) ∧ decode cX11_monthGoes 191 = .ok (.aaload, 1) ∧ decode cX11_monthGoes 192 = .ok (.iconst 5, 1) ∧ decode cX11_monthGoes 193 = .ok (.iaload, 1) ∧ decode cX11_monthGoes 194 = .ok (.if_icmp .ne 8, 3) ∧ decode cX11_monthGoes 197 = .ok (.aload_n 0, 1) ∧ decode cX11_monthGoes 198 = .ok (.iconst (-1), 1) ∧ decode cX11_monthGoes 199 = .ok (.invokevirtual 183, 3) ∧ decode cX11_monthGoes 202 = .ok (.return_, 1) := by decide +kernel
def dX11_monthGoes_179 := bX11_monthGoes_179.1
def dX11_monthGoes_180 := bX11_monthGoes_179.2.1
def dX11_monthGoes_181 := bX11_monthGoes_179.2.2.1
def dX11_monthGoes_184 := bX11_monthGoes_179.2.2.2.1
def dX11_monthGoes_185 := bX11_monthGoes_179.2.2.2.2.1
def dX11_monthGoes_188 := bX11_monthGoes_179.2.2.2.2.2.1
def dX11_monthGoes_190 := bX11_monthGoes_179.2.2.2.2.2.2.1
def dX11_monthGoes_191 := bX11_monthGoes_179.2.2.2.2.2.2.2.1
def dX11_monthGoes_192 := bX11_monthGoes_179.2.2.2.2.2.2.2.2.1
def dX11_monthGoes_193 := bX11_monthGoes_179.2.2.2.2.2.2.2.2.2.1
def dX11_monthGoes_194 := bX11_monthGoes_179.2.2.2.2.2.2.2.2.2.2.1
def dX11_monthGoes_197 := bX11_monthGoes_179.2.2.2.2.2.2.2.2.2.2.2.1
def dX11_monthGoes_198 := bX11_monthGoes_179.2.2.2.2.2.2.2.2.2.2.2.2.1
def dX11_monthGoes_199 := bX11_monthGoes_179.2.2.2.2.2.2.2.2.2.2.2.2.2.1
def dX11_monthGoes_202 := bX11_monthGoes_179.2.2.2.2.2.2.2.2.2.2.2.2.2.2
theorem bX11_deserts_0 : decode cX11_deserts 0 = .ok (.aload_n 0, 1) ∧ decode cX11_deserts 1 = .ok (.getfield 23, 3) ∧ decode cX11_deserts 4 = .ok (.iconst 3, 1) ∧ decode cX11_deserts 5 = .ok (.iaload, 1) ∧ decode cX11_deserts 6 = .ok (.aload_n 0, 1) ∧ decode cX11_deserts 7 = .ok (.getfield 23, 3) ∧ decode cX11_deserts 10 = .ok (.bipush 6, 2) ∧ decode cX11_deserts 12 = .ok (.iaload, 1) ∧ decode cX11_deserts 13 = .ok (.if_icmp .ge 7, 3) ∧ decode cX11_deserts 16 = .ok (.iconst 3, 1) ∧ decode cX11_deserts 17 = .ok (.goto 4, 3) ∧ decode cX11_deserts 20 = .ok (.iconst 4, 1) ∧ decode cX11_deserts 21 = .ok (.istore_n 1, 1) ∧ decode cX11_deserts 22 = .ok (.aload_n 0, 1) ∧ decode cX11_deserts 23 = .ok (.getfield 23, 3) ∧ decode cX11_deserts 26 = .ok (.iconst 3, 1) := by decide +kernel
def dX11_deserts_0 := bX11_deserts_0.1
def dX11_deserts_1 := bX11_deserts_0.2.1
def dX11_deserts_4 := bX11_deserts_0.2.2.1
def dX11_deserts_5 := bX11_deserts_0.2.2.2.1
def dX11_deserts_6 := bX11_deserts_0.2.2.2.2.1
def dX11_deserts_7 := bX11_deserts_0.2.2.2.2.2.1
def dX11_deserts_10 := bX11_deserts_0.2.2.2.2.2.2.1
def dX11_deserts_12 := bX11_deserts_0.2.2.2.2.2.2.2.1
def dX11_deserts_13 := bX11_deserts_0.2.2.2.2.2.2.2.2.1
def dX11_deserts_16 := bX11_deserts_0.2.2.2.2.2.2.2.2.2.1
def dX11_deserts_17 := bX11_deserts_0.2.2.2.2.2.2.2.2.2.2.1
def dX11_deserts_20 := bX11_deserts_0.2.2.2.2.2.2.2.2.2.2.2.1
def dX11_deserts_21 := bX11_deserts_0.2.2.2.2.2.2.2.2.2.2.2.2.1
def dX11_deserts_22 := bX11_deserts_0.2.2.2.2.2.2.2.2.2.2.2.2.2.1
def dX11_deserts_23 := bX11_deserts_0.2.2.2.2.2.2.2.2.2.2.2.2.2.2.1
def dX11_deserts_26 := bX11_deserts_0.2.2.2.2.2.2.2.2.2.2.2.2.2.2.2
theorem bX11_deserts_27 : decode cX11_deserts 27 = .ok (.iaload, 1) ∧ decode cX11_deserts 28 = .ok (.aload_n 0, 1) ∧ decode cX11_deserts 29 = .ok (.getfield 23, 3) ∧ decode cX11_deserts 32 = .ok (.bipush 6, 2) ∧ decode cX11_deserts 34 = .ok (.iaload, 1) ∧ decode cX11_deserts 35 = .ok (.if_icmp .ge 20, 3) ∧ decode cX11_deserts 38 = .ok (.aload_n 0, 1) ∧ decode cX11_deserts 39 = .ok (.getfield 23, 3) ∧ decode cX11_deserts 42 = .ok (.bipush 6, 2) ∧ decode cX11_deserts 44 = .ok (.iaload, 1) ∧ decode cX11_deserts 45 = .ok (.aload_n 0, 1) ∧ decode cX11_deserts 46 = .ok (.getfield 23, 3) ∧ decode cX11_deserts 49 = .ok (.iconst 3, 1) ∧ decode cX11_deserts 50 = .ok (.iaload, 1) ∧ decode cX11_deserts 51 = .ok (.isub, 1) ∧ decode cX11_deserts 52 = .ok (.goto 17, 3) := by decide +kernel
def dX11_deserts_27 := bX11_deserts_27.1
def dX11_deserts_28 := bX11_deserts_27.2.1
def dX11_deserts_29 := bX11_deserts_27.2.2.1
def dX11_deserts_32 := bX11_deserts_27.2.2.2.1
def dX11_deserts_34 := bX11_deserts_27.2.2.2.2.1
def dX11_deserts_35 := bX11_deserts_27.2.2.2.2.2.1
def dX11_deserts_38 := bX11_deserts_27.2.2.2.2.2.2.1
def dX11_deserts_39 := bX11_deserts_27.2.2.2.2.2.2.2.1
def dX11_deserts_42 := bX11_deserts_27.2.2.2.2.2.2.2.2.1
def dX11_deserts_44 := bX11_deserts_27.2.2.2.2.2.2.2.2.2.1
def dX11_deserts_45 := bX11_deserts_27.2.2.2.2.2.2.2.2.2.2.1
def dX11_deserts_46 := bX11_deserts_27.2.2.2.2.2.2.2.2.2.2.2.1
def dX11_deserts_49 := bX11_deserts_27.2.2.2.2.2.2.2.2.2.2.2.2.1
def dX11_deserts_50 := bX11_deserts_27.2.2.2.2.2.2.2.2.2.2.2.2.2.1
def dX11_deserts_51 := bX11_deserts_27.2.2.2.2.2.2.2.2.2.2.2.2.2.2.1
def dX11_deserts_52 := bX11_deserts_27.2.2.2.2.2.2.2.2.2.2.2.2.2.2.2
theorem bX11_deserts_55 : decode cX11_deserts 55 = .ok (.aload_n 0, 1) ∧ decode cX11_deserts 56 = .ok (.getfield 23, 3) ∧ decode cX11_deserts 59 = .ok (.iconst 3, 1) ∧ decode cX11_deserts 60 = .ok (.iaload, 1) ∧ decode cX11_deserts 61 = .ok (.aload_n 0, 1) ∧ decode cX11_deserts 62 = .ok (.getfield 23, 3) ∧ decode cX11_deserts 65 = .ok (.bipush 6, 2) ∧ decode cX11_deserts 67 = .ok (.iaload, 1) ∧ decode cX11_deserts 68 = .ok (.isub, 1) ∧ decode cX11_deserts 69 = .ok (.istore_n 2, 1) ∧ decode cX11_deserts 70 = .ok (.aload_n 0, 1) ∧ decode cX11_deserts 71 = .ok (.getfield 46, 3) ∧ decode cX11_deserts 74 = .ok (.iload_n 1, 1) ∧ decode cX11_deserts 75 = .ok (.iaload, 1) ∧ decode cX11_deserts 76 = .ok (.iload_n 2, 1) ∧ decode cX11_deserts 77 = .ok (.imul, 1) := by decide +kernel
def dX11_deserts_55 := bX11_deserts_55.1
def dX11_deserts_56 := bX11_deserts_55.2.1
def dX11_deserts_59 := bX11_deserts_55.2.2.1
def dX11_deserts_60 := bX11_deserts_55.2.2.2.1
def dX11_deserts_61 := bX11_deserts_55.2.2.2.2.1
def dX11_deserts_62 := bX11_deserts_55.2.2.2.2.2.1
def dX11_deserts_65 := bX11_deserts_55.2.2.2.2.2.2.1
def dX11_deserts_67 := bX11_deserts_55.2.2.2.2.2.2.2.1
def dX11_deserts_68 := bX11_deserts_55.2.2.2.2.2.2.2.2.1
def dX11_deserts_69 := bX11_deserts_55.2.2.2.2.2.2.2.2.2.1
def dX11_deserts_70 := bX11_deserts_55.2.2.2.2.2.2.2.2.2.2.1
def dX11_deserts_71 := bX11_deserts_55.2.2.2.2.2.2.2.2.2.2.2.1
def dX11_deserts_74 := bX11_deserts_55.2.2.2.2.2.2.2.2.2.2.2.2.1
def dX11_deserts_75 := bX11_deserts_55.2.2.2.2.2.2.2.2.2.2.2.2.2.1
def dX11_deserts_76 := bX11_deserts_55.2.2.2.2.2.2.2.2.2.2.2.2.2.2.1
def dX11_deserts_77 := bX11_deserts_55.2.2.2.2.2.2.2.2.2.2.2.2.2.2.2
theorem bX11_deserts_78 : decode cX11_deserts 78 = .ok (.bipush 100, 2) ∧ decode cX11_deserts 80 = .ok (.idiv, 1) ∧ decode cX11_deserts 81 = .ok (.istore_n 3, 1) ∧ decode cX11_deserts 82 = .ok (.aload_n 0, 1) ∧ decode cX11_deserts 83 = .ok (.getfield 46, 3) ∧ decode cX11_deserts 86 = .ok (.iload_n 1, 1) ∧ decode cX11_deserts 87 = .ok (.dup2, 1) ∧ decode cX11_deserts 88 = .ok (.iaload, 1) ∧ decode cX11_deserts 89 = .ok (.iload_n 3, 1) ∧ decode cX11_deserts 90 = .ok (.isub, 1) ∧ decode cX11_deserts 91 = .ok (.iastore, 1) ∧ decode cX11_deserts 92 = .ok (.aload_n 0, 1) ∧ decode cX11_deserts 93 = .ok (.getfield 46, 3) ∧ decode cX11_deserts 96 = .ok (.bipush 7, 2) ∧ decode cX11_deserts 98 = .ok (.iload_n 1, 1) ∧ decode cX11_deserts 99 = .ok (.isub, 1) := by decide +kernel
def dX11_deserts_78 := bX11_deserts_78.1
def dX11_deserts_80 := bX11_deserts_78.2.1
def dX11_deserts_81 := bX11_deserts_78.2.2.1
def dX11_deserts_82 := bX11_deserts_78.2.2.2.1
def dX11_deserts_83 := bX11_deserts_78.2.2.2.2.1
def dX11_deserts_86 := bX11_deserts_78.2.2.2.2.2.1
def dX11_deserts_87 := bX11_deserts_78.2.2.2.2.2.2.1
def dX11_deserts_88 := bX11_deserts_78.2.2.2.2.2.2.2.1
def dX11_deserts_89 := bX11_deserts_78.2.2.2.2.2.2.2.2.1
def dX11_deserts_90 := bX11_deserts_78.2.2.2.2.2.2.2.2.2.1
def dX11_deserts_91 := bX11_deserts_78.2.2.2.2.2.2.2.2.2.2.1
def dX11_deserts_92 := bX11_deserts_78.2.2.2.2.2.2.2.2.2.2.2.1
def dX11_deserts_93 := bX11_deserts_78.2.2.2.2.2.2.2.2.2.2.2.2.1
def dX11_deserts_96 := bX11_deserts_78.2.2.2.2.2.2.2.2.2.2.2.2.2.1
def dX11_deserts_98 := bX11_deserts_78.2.2.2.2.2.2.2.2.2.2.2.2.2.2.1
def dX11_deserts_99 := bX11_deserts_78.2.2.2.2.2.2.2.2.2.2.2.2.2.2.2
theorem bX11_deserts_100 : decode cX11_deserts 100 = .ok (.dup2, 1) ∧ decode cX11_deserts 101 = .ok (.iaload, 1) ∧ decode cX11_deserts 102 = .ok (.iload_n 3, 1) ∧ decode cX11_deserts 103 = .ok (.iadd, 1) ∧ decode cX11_deserts 104 = .ok (.iastore, 1) ∧ decode cX11_deserts 105 = .ok (.return_, 1) := by decide +kernel
def dX11_deserts_100 := bX11_deserts_100.1
def dX11_deserts_101 := bX11_deserts_100.2.1
def dX11_deserts_102 := bX11_deserts_100.2.2.1
def dX11_deserts_103 := bX11_deserts_100.2.2.2.1
def dX11_deserts_104 := bX11_deserts_100.2.2.2.2.1
def dX11_deserts_105 := bX11_deserts_100.2.2.2.2.2
theorem bX11_puts_0 : decode cX11_puts 0 = .ok (.iconst 0, 1) ∧ decode cX11_puts 1 = .ok (.istore_n 1, 1) ∧ decode cX11_puts 2 = .ok (.iload_n 1, 1) ∧ decode cX11_puts 3 = .ok (.bipush 25, 2) ∧ decode cX11_puts 5 = .ok (.if_icmp .ge 21, 3) ∧ decode cX11_puts 8 = .ok (.aload_n 0, 1) ∧ decode cX11_puts 9 = .ok (.getfield 49, 3) ∧ decode cX11_puts 12 = .ok (.iload_n 1, 1) ∧ decode cX11_puts 13 = .ok (.aload_n 0, 1) ∧ decode cX11_puts 14 = .ok (.getfield 46, 3) ∧ decode cX11_puts 17 = .ok (.iload_n 1, 1) ∧ decode cX11_puts 18 = .ok (.iaload, 1) ∧ decode cX11_puts 19 = .ok (.iastore, 1) ∧ decode cX11_puts 20 = .ok (.iinc 1 1, 3) ∧ decode cX11_puts 23 = .ok (.goto (-21), 3) ∧ decode cX11_puts 26 = .ok (.return_, 1) := by decide +kernel
def dX11_puts_0 := bX11_puts_0.1
def dX11_puts_1 := bX11_puts_0.2.1
def dX11_puts_2 := bX11_puts_0.2.2.1
def dX11_puts_3 := bX11_puts_0.2.2.2.1
def dX11_puts_5 := bX11_puts_0.2.2.2.2.1
def dX11_puts_8 := bX11_puts_0.2.2.2.2.2.1
def dX11_puts_9 := bX11_puts_0.2.2.2.2.2.2.1
def dX11_puts_12 := bX11_puts_0.2.2.2.2.2.2.2.1
def dX11_puts_13 := bX11_puts_0.2.2.2.2.2.2.2.2.1
def dX11_puts_14 := bX11_puts_0.2.2.2.2.2.2.2.2.2.1
def dX11_puts_17 := bX11_puts_0.2.2.2.2.2.2.2.2.2.2.1
def dX11_puts_18 := bX11_puts_0.2.2.2.2.2.2.2.2.2.2.2.1
def dX11_puts_19 := bX11_puts_0.2.2.2.2.2.2.2.2.2.2.2.2.1
def dX11_puts_20 := bX11_puts_0.2.2.2.2.2.2.2.2.2.2.2.2.2.1
def dX11_puts_23 := bX11_puts_0.2.2.2.2.2.2.2.2.2.2.2.2.2.2.1
def dX11_puts_26 := bX11_puts_0.2.2.2.2.2.2.2.2.2.2.2.2.2.2.2
theorem bX11_takes_0 : decode cX11_takes 0 = .ok (.iconst 0, 1) ∧ decode cX11_takes 1 = .ok (.istore_n 1, 1) ∧ decode cX11_takes 2 = .ok (.iload_n 1, 1) ∧ decode cX11_takes 3 = .ok (.bipush 25, 2) ∧ decode cX11_takes 5 = .ok (.if_icmp .ge 21, 3) ∧ decode cX11_takes 8 = .ok (.aload_n 0, 1) ∧ decode cX11_takes 9 = .ok (.getfield 46, 3) ∧ decode cX11_takes 12 = .ok (.iload_n 1, 1) ∧ decode cX11_takes 13 = .ok (.aload_n 0, 1) ∧ decode cX11_takes 14 = .ok (.getfield 49, 3) ∧ decode cX11_takes 17 = .ok (.iload_n 1, 1) ∧ decode cX11_takes 18 = .ok (.iaload, 1) ∧ decode cX11_takes 19 = .ok (.iastore, 1) ∧ decode cX11_takes 20 = .ok (.iinc 1 1, 3) ∧ decode cX11_takes 23 = .ok (.goto (-21), 3) ∧ decode cX11_takes 26 = .ok (.return_, 1) := by decide +kernel
def dX11_takes_0 := bX11_takes_0.1
def dX11_takes_1 := bX11_takes_0.2.1
def dX11_takes_2 := bX11_takes_0.2.2.1
def dX11_takes_3 := bX11_takes_0.2.2.2.1
def dX11_takes_5 := bX11_takes_0.2.2.2.2.1
def dX11_takes_8 := bX11_takes_0.2.2.2.2.2.1
def dX11_takes_9 := bX11_takes_0.2.2.2.2.2.2.1
def dX11_takes_12 := bX11_takes_0.2.2.2.2.2.2.2.1
def dX11_takes_13 := bX11_takes_0.2.2.2.2.2.2.2.2.1
def dX11_takes_14 := bX11_takes_0.2.2.2.2.2.2.2.2.2.1
def dX11_takes_17 := bX11_takes_0.2.2.2.2.2.2.2.2.2.2.1
def dX11_takes_18 := bX11_takes_0.2.2.2.2.2.2.2.2.2.2.2.1
def dX11_takes_19 := bX11_takes_0.2.2.2.2.2.2.2.2.2.2.2.2.1
def dX11_takes_20 := bX11_takes_0.2.2.2.2.2.2.2.2.2.2.2.2.2.1
def dX11_takes_23 := bX11_takes_0.2.2.2.2.2.2.2.2.2.2.2.2.2.2.1
def dX11_takes_26 := bX11_takes_0.2.2.2.2.2.2.2.2.2.2.2.2.2.2.2
theorem ggX11_goesOn_X11_monthGoes : GoodIn wsX11_goesOn wsX11_monthGoes := gW_in gwX11_monthGoes (fun _ h => List.mem_cons_of_mem _ (List.mem_append_right _ (List.mem_append_right _ (h))))
set_option maxRecDepth 20000 in
theorem gX11_goesOn_X11_monthGoes : GoodIn wsX11_goesOn (wsV RX11 216 RX11 yX11_monthGoes wsX11_monthGoes) := goodIn_app (goodIn_of _ (by decide +kernel)) ggX11_goesOn_X11_monthGoes
theorem bX11_goesOn_0 : decode cX11_goesOn 0 = .ok (.iconst 0, 1) ∧ decode cX11_goesOn 1 = .ok (.istore_n 2, 1) ∧ decode cX11_goesOn 2 = .ok (.iload_n 2, 1) ∧ decode cX11_goesOn 3 = .ok (.iload_n 1, 1) ∧ decode cX11_goesOn 4 = .ok (.if_icmp .ge 13, 3) ∧ decode cX11_goesOn 7 = .ok (.aload_n 0, 1) ∧ decode cX11_goesOn 8 = .ok (.invokevirtual 216, 3) ∧ decode cX11_goesOn 11 = .ok (.iinc 2 1, 3) ∧ decode cX11_goesOn 14 = .ok (.goto (-12), 3) ∧ decode cX11_goesOn 17 = .ok (.return_, 1) := by decide +kernel
def dX11_goesOn_0 := bX11_goesOn_0.1
def dX11_goesOn_1 := bX11_goesOn_0.2.1
def dX11_goesOn_2 := bX11_goesOn_0.2.2.1
def dX11_goesOn_3 := bX11_goesOn_0.2.2.2.1
def dX11_goesOn_4 := bX11_goesOn_0.2.2.2.2.1
def dX11_goesOn_7 := bX11_goesOn_0.2.2.2.2.2.1
def dX11_goesOn_8 := bX11_goesOn_0.2.2.2.2.2.2.1
def dX11_goesOn_11 := bX11_goesOn_0.2.2.2.2.2.2.2.1
def dX11_goesOn_14 := bX11_goesOn_0.2.2.2.2.2.2.2.2.1
def dX11_goesOn_17 := bX11_goesOn_0.2.2.2.2.2.2.2.2.2
theorem ggX11_months_X11_in : GoodIn wsX11_months wsX11_in := gW_in gwX11_in (fun _ h => List.mem_cons_of_mem _ (List.mem_append_right _ (List.mem_append_right _ (List.mem_append_left _ h))))
set_option maxRecDepth 20000 in
theorem gX11_months_X11_in : GoodIn wsX11_months (va_wsS RX11 119 yX11_in wsX11_in) := goodIn_app (goodIn_of _ (by decide +kernel)) ggX11_months_X11_in
theorem ggX11_months_X11_bad : GoodIn wsX11_months wsX11_bad := gW_in gwX11_bad (fun _ h => List.mem_cons_of_mem _ (List.mem_append_right _ (List.mem_append_right _ (List.mem_append_right _ (List.mem_append_left _ h)))))
set_option maxRecDepth 20000 in
theorem gX11_months_X11_bad : GoodIn wsX11_months (wsV RX11 151 RX11 yX11_bad wsX11_bad) := goodIn_app (goodIn_of _ (by decide +kernel)) ggX11_months_X11_bad
theorem ggX11_months_X11_monthGoes : GoodIn wsX11_months wsX11_monthGoes := gW_in gwX11_monthGoes (fun _ h => List.mem_cons_of_mem _ (List.mem_append_right _ (List.mem_append_right _ (List.mem_append_right _ (List.mem_append_right _ (h))))))
set_option maxRecDepth 20000 in
theorem gX11_months_X11_monthGoes : GoodIn wsX11_months (wsV RX11 216 RX11 yX11_monthGoes wsX11_monthGoes) := goodIn_app (goodIn_of _ (by decide +kernel)) ggX11_months_X11_monthGoes
theorem bX11_months_0 : decode cX11_months 0 = .ok (.aload_n 0, 1) ∧ decode cX11_months 1 = .ok (.iconst 0, 1) ∧ decode cX11_months 2 = .ok (.putfield 85, 3) ∧ decode cX11_months 5 = .ok (.aload_n 0, 1) ∧ decode cX11_months 6 = .ok (.iload_n 1, 1) ∧ decode cX11_months 7 = .ok (.iconst 1, 1) ∧ decode cX11_months 8 = .ok (.bipush 120, 2) ∧ decode cX11_months 10 = .ok (.invokestatic 119, 3) ∧ decode cX11_months 13 = .ok (.ifCond .ne 7, 3) ∧ decode cX11_months 16 = .ok (.iconst 1, 1) ∧ decode cX11_months 17 = .ok (.goto 4, 3) ∧ decode cX11_months 20 = .ok (.iconst 0, 1) ∧ decode cX11_months 21 = .ok (.iconst 1, 1) ∧ decode cX11_months 22 = .ok (.iconst 2, 1) ∧ decode cX11_months 23 = .ok (.invokevirtual 151, 3) ∧ decode cX11_months 26 = .ok (.ifCond .eq 5, 3) := by decide +kernel
def dX11_months_0 := bX11_months_0.1
def dX11_months_1 := bX11_months_0.2.1
def dX11_months_2 := bX11_months_0.2.2.1
def dX11_months_5 := bX11_months_0.2.2.2.1
def dX11_months_6 := bX11_months_0.2.2.2.2.1
def dX11_months_7 := bX11_months_0.2.2.2.2.2.1
def dX11_months_8 := bX11_months_0.2.2.2.2.2.2.1
def dX11_months_10 := bX11_months_0.2.2.2.2.2.2.2.1
def dX11_months_13 := bX11_months_0.2.2.2.2.2.2.2.2.1
def dX11_months_16 := bX11_months_0.2.2.2.2.2.2.2.2.2.1
def dX11_months_17 := bX11_months_0.2.2.2.2.2.2.2.2.2.2.1
def dX11_months_20 := bX11_months_0.2.2.2.2.2.2.2.2.2.2.2.1
def dX11_months_21 := bX11_months_0.2.2.2.2.2.2.2.2.2.2.2.2.1
def dX11_months_22 := bX11_months_0.2.2.2.2.2.2.2.2.2.2.2.2.2.1
def dX11_months_23 := bX11_months_0.2.2.2.2.2.2.2.2.2.2.2.2.2.2.1
def dX11_months_26 := bX11_months_0.2.2.2.2.2.2.2.2.2.2.2.2.2.2.2
theorem bX11_months_29 : decode cX11_months 29 = .ok (.iconst 0, 1) ∧ decode cX11_months 30 = .ok (.ireturn, 1) ∧ decode cX11_months 31 = .ok (.iconst 0, 1) ∧ decode cX11_months 32 = .ok (.istore_n 2, 1) ∧ decode cX11_months 33 = .ok (.aload_n 0, 1) ∧ decode cX11_months 34 = .ok (.iconst 1, 1) ∧ decode cX11_months 35 = .ok (.putfield 192, 3) ∧ decode cX11_months 38 = .ok (.iload_n 2, 1) ∧ decode cX11_months 39 = .ok (.iload_n 1, 1) ∧ decode cX11_months 40 = .ok (.if_icmp .ge 91, 3) ∧ decode cX11_months 43 = .ok (.aload_n 0, 1) ∧ decode cX11_months 44 = .ok (.getfield 46, 3) ∧ decode cX11_months 47 = .ok (.bipush 24, 2) ∧ decode cX11_months 49 = .ok (.iaload, 1) ∧ decode cX11_months 50 = .ok (.bipush 120, 2) ∧ decode cX11_months 52 = .ok (.if_icmp .ge 79, 3) := by decide +kernel
def dX11_months_29 := bX11_months_29.1
def dX11_months_30 := bX11_months_29.2.1
def dX11_months_31 := bX11_months_29.2.2.1
def dX11_months_32 := bX11_months_29.2.2.2.1
def dX11_months_33 := bX11_months_29.2.2.2.2.1
def dX11_months_34 := bX11_months_29.2.2.2.2.2.1
def dX11_months_35 := bX11_months_29.2.2.2.2.2.2.1
def dX11_months_38 := bX11_months_29.2.2.2.2.2.2.2.1
def dX11_months_39 := bX11_months_29.2.2.2.2.2.2.2.2.1
def dX11_months_40 := bX11_months_29.2.2.2.2.2.2.2.2.2.1
def dX11_months_43 := bX11_months_29.2.2.2.2.2.2.2.2.2.2.1
def dX11_months_44 := bX11_months_29.2.2.2.2.2.2.2.2.2.2.2.1
def dX11_months_47 := bX11_months_29.2.2.2.2.2.2.2.2.2.2.2.2.1
def dX11_months_49 := bX11_months_29.2.2.2.2.2.2.2.2.2.2.2.2.2.1
def dX11_months_50 := bX11_months_29.2.2.2.2.2.2.2.2.2.2.2.2.2.2.1
def dX11_months_52 := bX11_months_29.2.2.2.2.2.2.2.2.2.2.2.2.2.2.2
theorem bX11_months_55 : decode cX11_months 55 = .ok (.aload_n 0, 1) ∧ decode cX11_months 56 = .ok (.getfield 46, 3) ∧ decode cX11_months 59 = .ok (.bipush 24, 2) ∧ decode cX11_months 61 = .ok (.iaload, 1) ∧ decode cX11_months 62 = .ok (.istore_n 3, 1) ∧ decode cX11_months 63 = .ok (.iconst 0, 1) ∧ decode cX11_months 64 = .ok (.istore 4, 2) ∧ decode cX11_months 66 = .ok (.iload 4, 2) ∧ decode cX11_months 68 = .ok (.bipush 25, 2) ∧ decode cX11_months 70 = .ok (.if_icmp .ge 25, 3) ∧ decode cX11_months 73 = .ok (.aload_n 0, 1) ∧ decode cX11_months 74 = .ok (.getfield 52, 3) ∧ decode cX11_months 77 = .ok (.iload_n 3, 1) ∧ decode cX11_months 78 = .ok (.aaload, 1) ∧ decode cX11_months 79 = .ok (.iload 4, 2) ∧ decode cX11_months 81 = .ok (.aload_n 0, 1) := by decide +kernel
def dX11_months_55 := bX11_months_55.1
def dX11_months_56 := bX11_months_55.2.1
def dX11_months_59 := bX11_months_55.2.2.1
def dX11_months_61 := bX11_months_55.2.2.2.1
def dX11_months_62 := bX11_months_55.2.2.2.2.1
def dX11_months_63 := bX11_months_55.2.2.2.2.2.1
def dX11_months_64 := bX11_months_55.2.2.2.2.2.2.1
def dX11_months_66 := bX11_months_55.2.2.2.2.2.2.2.1
def dX11_months_68 := bX11_months_55.2.2.2.2.2.2.2.2.1
def dX11_months_70 := bX11_months_55.2.2.2.2.2.2.2.2.2.1
def dX11_months_73 := bX11_months_55.2.2.2.2.2.2.2.2.2.2.1
def dX11_months_74 := bX11_months_55.2.2.2.2.2.2.2.2.2.2.2.1
def dX11_months_77 := bX11_months_55.2.2.2.2.2.2.2.2.2.2.2.2.1
def dX11_months_78 := bX11_months_55.2.2.2.2.2.2.2.2.2.2.2.2.2.1
def dX11_months_79 := bX11_months_55.2.2.2.2.2.2.2.2.2.2.2.2.2.2.1
def dX11_months_81 := bX11_months_55.2.2.2.2.2.2.2.2.2.2.2.2.2.2.2
theorem bX11_months_82 : decode cX11_months 82 = .ok (.getfield 46, 3) ∧ decode cX11_months 85 = .ok (.iload 4, 2) ∧ decode cX11_months 87 = .ok (.iaload, 1) ∧ decode cX11_months 88 = .ok (.iastore, 1) ∧ decode cX11_months 89 = .ok (.iinc 4 1, 3) ∧ decode cX11_months 92 = .ok (.goto (-26), 3) ∧ decode cX11_months 95 = .ok (.iconst 0, 1) ∧ decode cX11_months 96 = .ok (.istore 4, 2) ∧ decode cX11_months 98 = .ok (.iload 4, 2) ∧ decode cX11_months 100 = .ok (.bipush 6, 2) ∧ decode cX11_months 102 = .ok (.if_icmp .ge 19, 3) ∧ decode cX11_months 105 = .ok (.aload_n 0, 1) ∧ decode cX11_months 106 = .ok (.getfield 55, 3) ∧ decode cX11_months 109 = .ok (.iload_n 3, 1) ∧ decode cX11_months 110 = .ok (.aaload, 1) ∧ decode cX11_months 111 = .ok (.iload 4, 2) := by decide +kernel
def dX11_months_82 := bX11_months_82.1
def dX11_months_85 := bX11_months_82.2.1
def dX11_months_87 := bX11_months_82.2.2.1
def dX11_months_88 := bX11_months_82.2.2.2.1
def dX11_months_89 := bX11_months_82.2.2.2.2.1
def dX11_months_92 := bX11_months_82.2.2.2.2.2.1
def dX11_months_95 := bX11_months_82.2.2.2.2.2.2.1
def dX11_months_96 := bX11_months_82.2.2.2.2.2.2.2.1
def dX11_months_98 := bX11_months_82.2.2.2.2.2.2.2.2.1
def dX11_months_100 := bX11_months_82.2.2.2.2.2.2.2.2.2.1
def dX11_months_102 := bX11_months_82.2.2.2.2.2.2.2.2.2.2.1
def dX11_months_105 := bX11_months_82.2.2.2.2.2.2.2.2.2.2.2.1
def dX11_months_106 := bX11_months_82.2.2.2.2.2.2.2.2.2.2.2.2.1
def dX11_months_109 := bX11_months_82.2.2.2.2.2.2.2.2.2.2.2.2.2.1
def dX11_months_110 := bX11_months_82.2.2.2.2.2.2.2.2.2.2.2.2.2.2.1
def dX11_months_111 := bX11_months_82.2.2.2.2.2.2.2.2.2.2.2.2.2.2.2
theorem bX11_months_113 : decode cX11_months 113 = .ok (.iconst 0, 1) ∧ decode cX11_months 114 = .ok (.iastore, 1) ∧ decode cX11_months 115 = .ok (.iinc 4 1, 3) ∧ decode cX11_months 118 = .ok (.goto (-20), 3) ∧ decode cX11_months 121 = .ok (.aload_n 0, 1) ∧ decode cX11_months 122 = .ok (.invokevirtual 216, 3) ∧ decode cX11_months 125 = .ok (.iinc 2 1, 3) ∧ decode cX11_months 128 = .ok (.goto (-90), 3) ∧ decode cX11_months 131 = .ok (.aload_n 0, 1) ∧ decode cX11_months 132 = .ok (.iconst 0, 1) ∧ decode cX11_months 133 = .ok (.putfield 192, 3) ∧ decode cX11_months 136 = .ok (.iload_n 2, 1) ∧ decode cX11_months 137 = .ok (.ireturn, 1) := by decide +kernel
def dX11_months_113 := bX11_months_113.1
def dX11_months_114 := bX11_months_113.2.1
def dX11_months_115 := bX11_months_113.2.2.1
def dX11_months_118 := bX11_months_113.2.2.2.1
def dX11_months_121 := bX11_months_113.2.2.2.2.1
def dX11_months_122 := bX11_months_113.2.2.2.2.2.1
def dX11_months_125 := bX11_months_113.2.2.2.2.2.2.1
def dX11_months_128 := bX11_months_113.2.2.2.2.2.2.2.1
def dX11_months_131 := bX11_months_113.2.2.2.2.2.2.2.2.1
def dX11_months_132 := bX11_months_113.2.2.2.2.2.2.2.2.2.1
def dX11_months_133 := bX11_months_113.2.2.2.2.2.2.2.2.2.2.1
def dX11_months_136 := bX11_months_113.2.2.2.2.2.2.2.2.2.2.2.1
def dX11_months_137 := bX11_months_113.2.2.2.2.2.2.2.2.2.2.2.2
theorem ggX11_undo_X11_in : GoodIn wsX11_undo wsX11_in := gW_in gwX11_in (fun _ h => List.mem_cons_of_mem _ (List.mem_append_right _ (List.mem_append_right _ (List.mem_append_left _ h))))
set_option maxRecDepth 20000 in
theorem gX11_undo_X11_in : GoodIn wsX11_undo (va_wsS RX11 119 yX11_in wsX11_in) := goodIn_app (goodIn_of _ (by decide +kernel)) ggX11_undo_X11_in
theorem ggX11_undo_X11_bad : GoodIn wsX11_undo wsX11_bad := gW_in gwX11_bad (fun _ h => List.mem_cons_of_mem _ (List.mem_append_right _ (List.mem_append_right _ (List.mem_append_right _ (List.mem_append_left _ h)))))
set_option maxRecDepth 20000 in
theorem gX11_undo_X11_bad : GoodIn wsX11_undo (wsV RX11 151 RX11 yX11_bad wsX11_bad) := goodIn_app (goodIn_of _ (by decide +kernel)) ggX11_undo_X11_bad
theorem ggX11_undo_X11_less : GoodIn wsX11_undo wsX11_less := gW_in gwX11_less (fun _ h => List.mem_cons_of_mem _ (List.mem_append_right _ (List.mem_append_right _ (List.mem_append_right _ (List.mem_append_right _ (h))))))
set_option maxRecDepth 20000 in
theorem gX11_undo_X11_less : GoodIn wsX11_undo (va_wsS RX11 186 yX11_less wsX11_less) := goodIn_app (goodIn_of _ (by decide +kernel)) ggX11_undo_X11_less
theorem bX11_undo_0 : decode cX11_undo 0 = .ok (.aload_n 0, 1) ∧ decode cX11_undo 1 = .ok (.iconst 0, 1) ∧ decode cX11_undo 2 = .ok (.putfield 85, 3) ∧ decode cX11_undo 5 = .ok (.aload_n 0, 1) ∧ decode cX11_undo 6 = .ok (.iload_n 1, 1) ∧ decode cX11_undo 7 = .ok (.iconst 1, 1) ∧ decode cX11_undo 8 = .ok (.bipush 120, 2) ∧ decode cX11_undo 10 = .ok (.invokestatic 119, 3) ∧ decode cX11_undo 13 = .ok (.ifCond .ne 7, 3) ∧ decode cX11_undo 16 = .ok (.iconst 1, 1) ∧ decode cX11_undo 17 = .ok (.goto 4, 3) ∧ decode cX11_undo 20 = .ok (.iconst 0, 1) ∧ decode cX11_undo 21 = .ok (.iconst 1, 1) ∧ decode cX11_undo 22 = .ok (.iconst 2, 1) ∧ decode cX11_undo 23 = .ok (.invokevirtual 151, 3) ∧ decode cX11_undo 26 = .ok (.ifCond .eq 5, 3) := by decide +kernel
def dX11_undo_0 := bX11_undo_0.1
def dX11_undo_1 := bX11_undo_0.2.1
def dX11_undo_2 := bX11_undo_0.2.2.1
def dX11_undo_5 := bX11_undo_0.2.2.2.1
def dX11_undo_6 := bX11_undo_0.2.2.2.2.1
def dX11_undo_7 := bX11_undo_0.2.2.2.2.2.1
def dX11_undo_8 := bX11_undo_0.2.2.2.2.2.2.1
def dX11_undo_10 := bX11_undo_0.2.2.2.2.2.2.2.1
def dX11_undo_13 := bX11_undo_0.2.2.2.2.2.2.2.2.1
def dX11_undo_16 := bX11_undo_0.2.2.2.2.2.2.2.2.2.1
def dX11_undo_17 := bX11_undo_0.2.2.2.2.2.2.2.2.2.2.1
def dX11_undo_20 := bX11_undo_0.2.2.2.2.2.2.2.2.2.2.2.1
def dX11_undo_21 := bX11_undo_0.2.2.2.2.2.2.2.2.2.2.2.2.1
def dX11_undo_22 := bX11_undo_0.2.2.2.2.2.2.2.2.2.2.2.2.2.1
def dX11_undo_23 := bX11_undo_0.2.2.2.2.2.2.2.2.2.2.2.2.2.2.1
def dX11_undo_26 := bX11_undo_0.2.2.2.2.2.2.2.2.2.2.2.2.2.2.2
theorem bX11_undo_29 : decode cX11_undo 29 = .ok (.iconst 0, 1) ∧ decode cX11_undo 30 = .ok (.ireturn, 1) ∧ decode cX11_undo 31 = .ok (.iload_n 1, 1) ∧ decode cX11_undo 32 = .ok (.aload_n 0, 1) ∧ decode cX11_undo 33 = .ok (.getfield 46, 3) ∧ decode cX11_undo 36 = .ok (.bipush 24, 2) ∧ decode cX11_undo 38 = .ok (.iaload, 1) ∧ decode cX11_undo 39 = .ok (.invokestatic 186, 3) ∧ decode cX11_undo 42 = .ok (.istore_n 2, 1) ∧ decode cX11_undo 43 = .ok (.aload_n 0, 1) ∧ decode cX11_undo 44 = .ok (.getfield 46, 3) ∧ decode cX11_undo 47 = .ok (.bipush 24, 2) ∧ decode cX11_undo 49 = .ok (.iaload, 1) ∧ decode cX11_undo 50 = .ok (.iload_n 2, 1) ∧ decode cX11_undo 51 = .ok (.isub, 1) ∧ decode cX11_undo 52 = .ok (.istore_n 3, 1) := by decide +kernel
def dX11_undo_29 := bX11_undo_29.1
def dX11_undo_30 := bX11_undo_29.2.1
def dX11_undo_31 := bX11_undo_29.2.2.1
def dX11_undo_32 := bX11_undo_29.2.2.2.1
def dX11_undo_33 := bX11_undo_29.2.2.2.2.1
def dX11_undo_36 := bX11_undo_29.2.2.2.2.2.1
def dX11_undo_38 := bX11_undo_29.2.2.2.2.2.2.1
def dX11_undo_39 := bX11_undo_29.2.2.2.2.2.2.2.1
def dX11_undo_42 := bX11_undo_29.2.2.2.2.2.2.2.2.1
def dX11_undo_43 := bX11_undo_29.2.2.2.2.2.2.2.2.2.1
def dX11_undo_44 := bX11_undo_29.2.2.2.2.2.2.2.2.2.2.1
def dX11_undo_47 := bX11_undo_29.2.2.2.2.2.2.2.2.2.2.2.1
def dX11_undo_49 := bX11_undo_29.2.2.2.2.2.2.2.2.2.2.2.2.1
def dX11_undo_50 := bX11_undo_29.2.2.2.2.2.2.2.2.2.2.2.2.2.1
def dX11_undo_51 := bX11_undo_29.2.2.2.2.2.2.2.2.2.2.2.2.2.2.1
def dX11_undo_52 := bX11_undo_29.2.2.2.2.2.2.2.2.2.2.2.2.2.2.2
theorem bX11_undo_53 : decode cX11_undo 53 = .ok (.iload_n 2, 1) ∧ decode cX11_undo 54 = .ok (.ifCond .ne 5, 3) ∧ decode cX11_undo 57 = .ok (.iconst 0, 1) ∧ decode cX11_undo 58 = .ok (.ireturn, 1) ∧ decode cX11_undo 59 = .ok (.iconst 0, 1) ∧ decode cX11_undo 60 = .ok (.istore 4, 2) ∧ decode cX11_undo 62 = .ok (.iload 4, 2) ∧ decode cX11_undo 64 = .ok (.bipush 25, 2) ∧ decode cX11_undo 66 = .ok (.if_icmp .ge 25, 3) ∧ decode cX11_undo 69 = .ok (.aload_n 0, 1) ∧ decode cX11_undo 70 = .ok (.getfield 46, 3) ∧ decode cX11_undo 73 = .ok (.iload 4, 2) ∧ decode cX11_undo 75 = .ok (.aload_n 0, 1) ∧ decode cX11_undo 76 = .ok (.getfield 52, 3) ∧ decode cX11_undo 79 = .ok (.iload_n 3, 1) ∧ decode cX11_undo 80 = .ok (.aaload, 1) := by decide +kernel
def dX11_undo_53 := bX11_undo_53.1
def dX11_undo_54 := bX11_undo_53.2.1
def dX11_undo_57 := bX11_undo_53.2.2.1
def dX11_undo_58 := bX11_undo_53.2.2.2.1
def dX11_undo_59 := bX11_undo_53.2.2.2.2.1
def dX11_undo_60 := bX11_undo_53.2.2.2.2.2.1
def dX11_undo_62 := bX11_undo_53.2.2.2.2.2.2.1
def dX11_undo_64 := bX11_undo_53.2.2.2.2.2.2.2.1
def dX11_undo_66 := bX11_undo_53.2.2.2.2.2.2.2.2.1
def dX11_undo_69 := bX11_undo_53.2.2.2.2.2.2.2.2.2.1
def dX11_undo_70 := bX11_undo_53.2.2.2.2.2.2.2.2.2.2.1
def dX11_undo_73 := bX11_undo_53.2.2.2.2.2.2.2.2.2.2.2.1
def dX11_undo_75 := bX11_undo_53.2.2.2.2.2.2.2.2.2.2.2.2.1
def dX11_undo_76 := bX11_undo_53.2.2.2.2.2.2.2.2.2.2.2.2.2.1
def dX11_undo_79 := bX11_undo_53.2.2.2.2.2.2.2.2.2.2.2.2.2.2.1
def dX11_undo_80 := bX11_undo_53.2.2.2.2.2.2.2.2.2.2.2.2.2.2.2
theorem bX11_undo_81 : decode cX11_undo 81 = .ok (.iload 4, 2) ∧ decode cX11_undo 83 = .ok (.iaload, 1) ∧ decode cX11_undo 84 = .ok (.iastore, 1) ∧ decode cX11_undo 85 = .ok (.iinc 4 1, 3) ∧ decode cX11_undo 88 = .ok (.goto (-26), 3) ∧ decode cX11_undo 91 = .ok (.iload_n 2, 1) ∧ decode cX11_undo 92 = .ok (.ireturn, 1) := by decide +kernel
def dX11_undo_81 := bX11_undo_81.1
def dX11_undo_83 := bX11_undo_81.2.1
def dX11_undo_84 := bX11_undo_81.2.2.1
def dX11_undo_85 := bX11_undo_81.2.2.2.1
def dX11_undo_88 := bX11_undo_81.2.2.2.2.1
def dX11_undo_91 := bX11_undo_81.2.2.2.2.2.1
def dX11_undo_92 := bX11_undo_81.2.2.2.2.2.2
theorem ggX11_sums_X11_in : GoodIn wsX11_sums wsX11_in := gW_in gwX11_in (fun _ h => List.mem_cons_of_mem _ (List.mem_append_right _ (List.mem_append_right _ (List.mem_append_left _ h))))
set_option maxRecDepth 20000 in
theorem gX11_sums_X11_in : GoodIn wsX11_sums (va_wsS RX11 119 yX11_in wsX11_in) := goodIn_app (goodIn_of _ (by decide +kernel)) ggX11_sums_X11_in
theorem ggX11_sums_X11_bad : GoodIn wsX11_sums wsX11_bad := gW_in gwX11_bad (fun _ h => List.mem_cons_of_mem _ (List.mem_append_right _ (List.mem_append_right _ (List.mem_append_right _ (h)))))
set_option maxRecDepth 20000 in
theorem gX11_sums_X11_bad : GoodIn wsX11_sums (wsV RX11 151 RX11 yX11_bad wsX11_bad) := goodIn_app (goodIn_of _ (by decide +kernel)) ggX11_sums_X11_bad
theorem bX11_sums_0 : decode cX11_sums 0 = .ok (.aload_n 0, 1) ∧ decode cX11_sums 1 = .ok (.iconst 0, 1) ∧ decode cX11_sums 2 = .ok (.putfield 85, 3) ∧ decode cX11_sums 5 = .ok (.aload_n 0, 1) ∧ decode cX11_sums 6 = .ok (.iload_n 1, 1) ∧ decode cX11_sums 7 = .ok (.iconst 0, 1) ∧ decode cX11_sums 8 = .ok (.bipush 9, 2) ∧ decode cX11_sums 10 = .ok (.invokestatic 119, 3) ∧ decode cX11_sums 13 = .ok (.ifCond .ne 7, 3) ∧ decode cX11_sums 16 = .ok (.iconst 1, 1) ∧ decode cX11_sums 17 = .ok (.goto 4, 3) ∧ decode cX11_sums 20 = .ok (.iconst 0, 1) ∧ decode cX11_sums 21 = .ok (.iconst 1, 1) ∧ decode cX11_sums 22 = .ok (.iconst 2, 1) ∧ decode cX11_sums 23 = .ok (.invokevirtual 151, 3) ∧ decode cX11_sums 26 = .ok (.ifCond .eq 5, 3) := by decide +kernel
def dX11_sums_0 := bX11_sums_0.1
def dX11_sums_1 := bX11_sums_0.2.1
def dX11_sums_2 := bX11_sums_0.2.2.1
def dX11_sums_5 := bX11_sums_0.2.2.2.1
def dX11_sums_6 := bX11_sums_0.2.2.2.2.1
def dX11_sums_7 := bX11_sums_0.2.2.2.2.2.1
def dX11_sums_8 := bX11_sums_0.2.2.2.2.2.2.1
def dX11_sums_10 := bX11_sums_0.2.2.2.2.2.2.2.1
def dX11_sums_13 := bX11_sums_0.2.2.2.2.2.2.2.2.1
def dX11_sums_16 := bX11_sums_0.2.2.2.2.2.2.2.2.2.1
def dX11_sums_17 := bX11_sums_0.2.2.2.2.2.2.2.2.2.2.1
def dX11_sums_20 := bX11_sums_0.2.2.2.2.2.2.2.2.2.2.2.1
def dX11_sums_21 := bX11_sums_0.2.2.2.2.2.2.2.2.2.2.2.2.1
def dX11_sums_22 := bX11_sums_0.2.2.2.2.2.2.2.2.2.2.2.2.2.1
def dX11_sums_23 := bX11_sums_0.2.2.2.2.2.2.2.2.2.2.2.2.2.2.1
def dX11_sums_26 := bX11_sums_0.2.2.2.2.2.2.2.2.2.2.2.2.2.2.2
theorem bX11_sums_29 : decode cX11_sums 29 = .ok (.iconst 0, 1) ∧ decode cX11_sums 30 = .ok (.ireturn, 1) ∧ decode cX11_sums 31 = .ok (.aload_n 0, 1) ∧ decode cX11_sums 32 = .ok (.getfield 46, 3) ∧ decode cX11_sums 35 = .ok (.iload_n 1, 1) ∧ decode cX11_sums 36 = .ok (.iaload, 1) ∧ decode cX11_sums 37 = .ok (.ireturn, 1) := by decide +kernel
def dX11_sums_29 := bX11_sums_29.1
def dX11_sums_30 := bX11_sums_29.2.1
def dX11_sums_31 := bX11_sums_29.2.2.1
def dX11_sums_32 := bX11_sums_29.2.2.2.1
def dX11_sums_35 := bX11_sums_29.2.2.2.2.1
def dX11_sums_36 := bX11_sums_29.2.2.2.2.2.1
def dX11_sums_37 := bX11_sums_29.2.2.2.2.2.2
theorem ggX11_corks_X11_isWall : GoodIn wsX11_corks wsX11_isWall := gW_in gwX11_isWall (fun _ h => List.mem_cons_of_mem _ (List.mem_append_right _ (List.mem_append_right _ (List.mem_append_left _ h))))
set_option maxRecDepth 20000 in
theorem gX11_corks_X11_isWall : GoodIn wsX11_corks (wsV RX11 174 RX11 yX11_isWall wsX11_isWall) := goodIn_app (goodIn_of _ (by decide +kernel)) ggX11_corks_X11_isWall
theorem ggX11_corks_X11_bad : GoodIn wsX11_corks wsX11_bad := gW_in gwX11_bad (fun _ h => List.mem_cons_of_mem _ (List.mem_append_right _ (List.mem_append_right _ (List.mem_append_right _ (List.mem_append_left _ h)))))
set_option maxRecDepth 20000 in
theorem gX11_corks_X11_bad : GoodIn wsX11_corks (wsV RX11 151 RX11 yX11_bad wsX11_bad) := goodIn_app (goodIn_of _ (by decide +kernel)) ggX11_corks_X11_bad
theorem ggX11_corks_X11_in : GoodIn wsX11_corks wsX11_in := gW_in gwX11_in (fun _ h => List.mem_cons_of_mem _ (List.mem_append_right _ (List.mem_append_right _ (List.mem_append_right _ (List.mem_append_right _ (h))))))
set_option maxRecDepth 20000 in
theorem gX11_corks_X11_in : GoodIn wsX11_corks (va_wsS RX11 119 yX11_in wsX11_in) := goodIn_app (goodIn_of _ (by decide +kernel)) ggX11_corks_X11_in
theorem bX11_corks_0 : decode cX11_corks 0 = .ok (.aload_n 0, 1) ∧ decode cX11_corks 1 = .ok (.iconst 0, 1) ∧ decode cX11_corks 2 = .ok (.putfield 85, 3) ∧ decode cX11_corks 5 = .ok (.aload_n 0, 1) ∧ decode cX11_corks 6 = .ok (.aload_n 0, 1) ∧ decode cX11_corks 7 = .ok (.iload_n 2, 1) ∧ decode cX11_corks 8 = .ok (.invokevirtual 174, 3) ∧ decode cX11_corks 11 = .ok (.ifCond .ne 7, 3) ∧ decode cX11_corks 14 = .ok (.iconst 1, 1) ∧ decode cX11_corks 15 = .ok (.goto 4, 3) ∧ decode cX11_corks 18 = .ok (.iconst 0, 1) ∧ decode cX11_corks 19 = .ok (.iconst 1, 1) ∧ decode cX11_corks 20 = .ok (.iconst 1, 1) ∧ decode cX11_corks 21 = .ok (.invokevirtual 151, 3) ∧ decode cX11_corks 24 = .ok (.ifCond .ne 27, 3) ∧ decode cX11_corks 27 = .ok (.aload_n 0, 1) := by decide +kernel
def dX11_corks_0 := bX11_corks_0.1
def dX11_corks_1 := bX11_corks_0.2.1
def dX11_corks_2 := bX11_corks_0.2.2.1
def dX11_corks_5 := bX11_corks_0.2.2.2.1
def dX11_corks_6 := bX11_corks_0.2.2.2.2.1
def dX11_corks_7 := bX11_corks_0.2.2.2.2.2.1
def dX11_corks_8 := bX11_corks_0.2.2.2.2.2.2.1
def dX11_corks_11 := bX11_corks_0.2.2.2.2.2.2.2.1
def dX11_corks_14 := bX11_corks_0.2.2.2.2.2.2.2.2.1
def dX11_corks_15 := bX11_corks_0.2.2.2.2.2.2.2.2.2.1
def dX11_corks_18 := bX11_corks_0.2.2.2.2.2.2.2.2.2.2.1
def dX11_corks_19 := bX11_corks_0.2.2.2.2.2.2.2.2.2.2.2.1
def dX11_corks_20 := bX11_corks_0.2.2.2.2.2.2.2.2.2.2.2.2.1
def dX11_corks_21 := bX11_corks_0.2.2.2.2.2.2.2.2.2.2.2.2.2.1
def dX11_corks_24 := bX11_corks_0.2.2.2.2.2.2.2.2.2.2.2.2.2.2.1
def dX11_corks_27 := bX11_corks_0.2.2.2.2.2.2.2.2.2.2.2.2.2.2.2
theorem bX11_corks_28 : decode cX11_corks 28 = .ok (.iload_n 1, 1) ∧ decode cX11_corks 29 = .ok (.iconst 0, 1) ∧ decode cX11_corks 30 = .ok (.bipush 119, 2) ∧ decode cX11_corks 32 = .ok (.invokestatic 119, 3) ∧ decode cX11_corks 35 = .ok (.ifCond .ne 7, 3) ∧ decode cX11_corks 38 = .ok (.iconst 1, 1) ∧ decode cX11_corks 39 = .ok (.goto 4, 3) ∧ decode cX11_corks 42 = .ok (.iconst 0, 1) ∧ decode cX11_corks 43 = .ok (.iconst 2, 1) ∧ decode cX11_corks 44 = .ok (.iconst 2, 1) ∧ decode cX11_corks 45 = .ok (.invokevirtual 151, 3) ∧ decode cX11_corks 48 = .ok (.ifCond .eq 5, 3) ∧ decode cX11_corks 51 = .ok (.iconst 0, 1) ∧ decode cX11_corks 52 = .ok (.ireturn, 1) ∧ decode cX11_corks 53 = .ok (.iload_n 1, 1) ∧ decode cX11_corks 54 = .ok (.aload_n 0, 1) := by decide +kernel
def dX11_corks_28 := bX11_corks_28.1
def dX11_corks_29 := bX11_corks_28.2.1
def dX11_corks_30 := bX11_corks_28.2.2.1
def dX11_corks_32 := bX11_corks_28.2.2.2.1
def dX11_corks_35 := bX11_corks_28.2.2.2.2.1
def dX11_corks_38 := bX11_corks_28.2.2.2.2.2.1
def dX11_corks_39 := bX11_corks_28.2.2.2.2.2.2.1
def dX11_corks_42 := bX11_corks_28.2.2.2.2.2.2.2.1
def dX11_corks_43 := bX11_corks_28.2.2.2.2.2.2.2.2.1
def dX11_corks_44 := bX11_corks_28.2.2.2.2.2.2.2.2.2.1
def dX11_corks_45 := bX11_corks_28.2.2.2.2.2.2.2.2.2.2.1
def dX11_corks_48 := bX11_corks_28.2.2.2.2.2.2.2.2.2.2.2.1
def dX11_corks_51 := bX11_corks_28.2.2.2.2.2.2.2.2.2.2.2.2.1
def dX11_corks_52 := bX11_corks_28.2.2.2.2.2.2.2.2.2.2.2.2.2.1
def dX11_corks_53 := bX11_corks_28.2.2.2.2.2.2.2.2.2.2.2.2.2.2.1
def dX11_corks_54 := bX11_corks_28.2.2.2.2.2.2.2.2.2.2.2.2.2.2.2
theorem bX11_corks_55 : decode cX11_corks 55 = .ok (.getfield 46, 3) ∧ decode cX11_corks 58 = .ok (.bipush 24, 2) ∧ decode cX11_corks 60 = .ok (.iaload, 1) ∧ decode cX11_corks 61 = .ok (.if_icmp .ge 14, 3) ∧ decode cX11_corks 64 = .ok (.aload_n 0, 1) ∧ decode cX11_corks 65 = .ok (.getfield 55, 3) ∧ decode cX11_corks 68 = .ok (.iload_n 1, 1) ∧ decode cX11_corks 69 = .ok (.aaload, 1) ∧ decode cX11_corks 70 = .ok (.iload_n 2, 1) ∧ decode cX11_corks 71 = .ok (.iaload, 1) ∧ decode cX11_corks 72 = .ok (.goto 4, 3) ∧ decode cX11_corks 75 = .ok (.iconst 0, 1) ∧ decode cX11_corks 76 = .ok (.ireturn, 1) := by decide +kernel
def dX11_corks_55 := bX11_corks_55.1
def dX11_corks_58 := bX11_corks_55.2.1
def dX11_corks_60 := bX11_corks_55.2.2.1
def dX11_corks_61 := bX11_corks_55.2.2.2.1
def dX11_corks_64 := bX11_corks_55.2.2.2.2.1
def dX11_corks_65 := bX11_corks_55.2.2.2.2.2.1
def dX11_corks_68 := bX11_corks_55.2.2.2.2.2.2.1
def dX11_corks_69 := bX11_corks_55.2.2.2.2.2.2.2.1
def dX11_corks_70 := bX11_corks_55.2.2.2.2.2.2.2.2.1
def dX11_corks_71 := bX11_corks_55.2.2.2.2.2.2.2.2.2.1
def dX11_corks_72 := bX11_corks_55.2.2.2.2.2.2.2.2.2.2.1
def dX11_corks_75 := bX11_corks_55.2.2.2.2.2.2.2.2.2.2.2.1
def dX11_corks_76 := bX11_corks_55.2.2.2.2.2.2.2.2.2.2.2.2
theorem ggX11_areMonths_X11_in : GoodIn wsX11_areMonths wsX11_in := gW_in gwX11_in (fun _ h => List.mem_cons_of_mem _ (List.mem_append_right _ (h)))
set_option maxRecDepth 20000 in
theorem gX11_areMonths_X11_in : GoodIn wsX11_areMonths (va_wsS RX11 119 yX11_in wsX11_in) := goodIn_app (goodIn_of _ (by decide +kernel)) ggX11_areMonths_X11_in
theorem bX11_areMonths_0 : decode cX11_areMonths 0 = .ok (.iload_n 0, 1) ∧ decode cX11_areMonths 1 = .ok (.iconst 1, 1) ∧ decode cX11_areMonths 2 = .ok (.bipush 60, 2) ∧ decode cX11_areMonths 4 = .ok (.invokestatic 119, 3) ∧ decode cX11_areMonths 7 = .ok (.ireturn, 1) := by decide +kernel
def dX11_areMonths_0 := bX11_areMonths_0.1
def dX11_areMonths_1 := bX11_areMonths_0.2.1
def dX11_areMonths_2 := bX11_areMonths_0.2.2.1
def dX11_areMonths_4 := bX11_areMonths_0.2.2.2.1
def dX11_areMonths_7 := bX11_areMonths_0.2.2.2.2
theorem ggX11_by_X11_puts : GoodIn wsX11_by wsX11_puts := gW_in gwX11_puts (fun _ h => List.mem_cons_of_mem _ (List.mem_append_right _ (List.mem_append_right _ (List.mem_append_left _ h))))
set_option maxRecDepth 20000 in
theorem gX11_by_X11_puts : GoodIn wsX11_by (wsV RX11 219 RX11 yX11_puts wsX11_puts) := goodIn_app (goodIn_of _ (by decide +kernel)) ggX11_by_X11_puts
theorem ggX11_by_X11_signs : GoodIn wsX11_by wsX11_signs := gW_in gwX11_signs (fun _ h => List.mem_cons_of_mem _ (List.mem_append_right _ (List.mem_append_right _ (List.mem_append_right _ (List.mem_append_left _ h)))))
set_option maxRecDepth 20000 in
theorem gX11_by_X11_signs : GoodIn wsX11_by (wsV RX11 183 RX11 yX11_signs wsX11_signs) := goodIn_app (goodIn_of _ (by decide +kernel)) ggX11_by_X11_signs
theorem ggX11_by_X11_goesOn : GoodIn wsX11_by wsX11_goesOn := gW_in gwX11_goesOn (fun _ h => List.mem_cons_of_mem _ (List.mem_append_right _ (List.mem_append_right _ (List.mem_append_right _ (List.mem_append_right _ (List.mem_append_left _ h))))))
set_option maxRecDepth 20000 in
theorem gX11_by_X11_goesOn : GoodIn wsX11_by (wsV RX11 222 RX11 yX11_goesOn wsX11_goesOn) := goodIn_app (goodIn_of _ (by decide +kernel)) ggX11_by_X11_goesOn
theorem ggX11_by_X11_takes : GoodIn wsX11_by wsX11_takes := gW_in gwX11_takes (fun _ h => List.mem_cons_of_mem _ (List.mem_append_right _ (List.mem_append_right _ (List.mem_append_right _ (List.mem_append_right _ (List.mem_append_right _ (h)))))))
set_option maxRecDepth 20000 in
theorem gX11_by_X11_takes : GoodIn wsX11_by (wsV RX11 225 RX11 yX11_takes wsX11_takes) := goodIn_app (goodIn_of _ (by decide +kernel)) ggX11_by_X11_takes
theorem bX11_by_0 : decode cX11_by 0 = .ok (.aload_n 0, 1) ∧ decode cX11_by 1 = .ok (.invokevirtual 219, 3) ∧ decode cX11_by 4 = .ok (.aload_n 0, 1) ∧ decode cX11_by 5 = .ok (.iload_n 1, 1) ∧ decode cX11_by 6 = .ok (.invokevirtual 183, 3) ∧ decode cX11_by 9 = .ok (.aload_n 0, 1) ∧ decode cX11_by 10 = .ok (.iload_n 2, 1) ∧ decode cX11_by 11 = .ok (.invokevirtual 222, 3) ∧ decode cX11_by 14 = .ok (.aload_n 0, 1) ∧ decode cX11_by 15 = .ok (.getfield 46, 3) ∧ decode cX11_by 18 = .ok (.iload_n 3, 1) ∧ decode cX11_by 19 = .ok (.iaload, 1) ∧ decode cX11_by 20 = .ok (.istore 4, 2) ∧ decode cX11_by 22 = .ok (.aload_n 0, 1) ∧ decode cX11_by 23 = .ok (.invokevirtual 225, 3) ∧ decode cX11_by 26 = .ok (.iload 4, 2) := by decide +kernel
def dX11_by_0 := bX11_by_0.1
def dX11_by_1 := bX11_by_0.2.1
def dX11_by_4 := bX11_by_0.2.2.1
def dX11_by_5 := bX11_by_0.2.2.2.1
def dX11_by_6 := bX11_by_0.2.2.2.2.1
def dX11_by_9 := bX11_by_0.2.2.2.2.2.1
def dX11_by_10 := bX11_by_0.2.2.2.2.2.2.1
def dX11_by_11 := bX11_by_0.2.2.2.2.2.2.2.1
def dX11_by_14 := bX11_by_0.2.2.2.2.2.2.2.2.1
def dX11_by_15 := bX11_by_0.2.2.2.2.2.2.2.2.2.1
def dX11_by_18 := bX11_by_0.2.2.2.2.2.2.2.2.2.2.1
def dX11_by_19 := bX11_by_0.2.2.2.2.2.2.2.2.2.2.2.1
def dX11_by_20 := bX11_by_0.2.2.2.2.2.2.2.2.2.2.2.2.1
def dX11_by_22 := bX11_by_0.2.2.2.2.2.2.2.2.2.2.2.2.2.1
def dX11_by_23 := bX11_by_0.2.2.2.2.2.2.2.2.2.2.2.2.2.2.1
def dX11_by_26 := bX11_by_0.2.2.2.2.2.2.2.2.2.2.2.2.2.2.2
theorem dX11_by_28 : decode cX11_by 28 = .ok (.ireturn, 1) := by decide +kernel
theorem ggX11_would_X11_isContract : GoodIn wsX11_would wsX11_isContract := gW_in gwX11_isContract (fun _ h => List.mem_cons_of_mem _ (List.mem_append_right _ (List.mem_append_right _ (List.mem_append_left _ h))))
set_option maxRecDepth 20000 in
theorem gX11_would_X11_isContract : GoodIn wsX11_would (wsV RX11 177 RX11 yX11_isContract wsX11_isContract) := goodIn_app (goodIn_of _ (by decide +kernel)) ggX11_would_X11_isContract
theorem ggX11_would_X11_bad : GoodIn wsX11_would wsX11_bad := gW_in gwX11_bad (fun _ h => List.mem_cons_of_mem _ (List.mem_append_right _ (List.mem_append_right _ (List.mem_append_right _ (List.mem_append_left _ h)))))
set_option maxRecDepth 20000 in
theorem gX11_would_X11_bad : GoodIn wsX11_would (wsV RX11 151 RX11 yX11_bad wsX11_bad) := goodIn_app (goodIn_of _ (by decide +kernel)) ggX11_would_X11_bad
theorem ggX11_would_X11_areMonths : GoodIn wsX11_would wsX11_areMonths := gW_in gwX11_areMonths (fun _ h => List.mem_cons_of_mem _ (List.mem_append_right _ (List.mem_append_right _ (List.mem_append_right _ (List.mem_append_right _ (List.mem_append_left _ h))))))
set_option maxRecDepth 20000 in
theorem gX11_would_X11_areMonths : GoodIn wsX11_would (va_wsS RX11 228 yX11_areMonths wsX11_areMonths) := goodIn_app (goodIn_of _ (by decide +kernel)) ggX11_would_X11_areMonths
theorem ggX11_would_X11_in : GoodIn wsX11_would wsX11_in := gW_in gwX11_in (fun _ h => List.mem_cons_of_mem _ (List.mem_append_right _ (List.mem_append_right _ (List.mem_append_right _ (List.mem_append_right _ (List.mem_append_right _ (List.mem_append_left _ h)))))))
set_option maxRecDepth 20000 in
theorem gX11_would_X11_in : GoodIn wsX11_would (va_wsS RX11 119 yX11_in wsX11_in) := goodIn_app (goodIn_of _ (by decide +kernel)) ggX11_would_X11_in
theorem ggX11_would_X11_by : GoodIn wsX11_would wsX11_by := gW_in gwX11_by (fun _ h => List.mem_cons_of_mem _ (List.mem_append_right _ (List.mem_append_right _ (List.mem_append_right _ (List.mem_append_right _ (List.mem_append_right _ (List.mem_append_right _ (h))))))))
set_option maxRecDepth 20000 in
theorem gX11_would_X11_by : GoodIn wsX11_would (wsV RX11 231 RX11 yX11_by wsX11_by) := goodIn_app (goodIn_of _ (by decide +kernel)) ggX11_would_X11_by
theorem bX11_would_0 : decode cX11_would 0 = .ok (.aload_n 0, 1) ∧ decode cX11_would 1 = .ok (.iconst 0, 1) ∧ decode cX11_would 2 = .ok (.putfield 85, 3) ∧ decode cX11_would 5 = .ok (.aload_n 0, 1) ∧ decode cX11_would 6 = .ok (.iload_n 1, 1) ∧ decode cX11_would 7 = .ok (.iconst (-1), 1) ∧ decode cX11_would 8 = .ok (.if_icmp .eq 15, 3) ∧ decode cX11_would 11 = .ok (.aload_n 0, 1) ∧ decode cX11_would 12 = .ok (.iload_n 1, 1) ∧ decode cX11_would 13 = .ok (.invokevirtual 177, 3) ∧ decode cX11_would 16 = .ok (.ifCond .ne 7, 3) ∧ decode cX11_would 19 = .ok (.iconst 1, 1) ∧ decode cX11_would 20 = .ok (.goto 4, 3) ∧ decode cX11_would 23 = .ok (.iconst 0, 1) ∧ decode cX11_would 24 = .ok (.iconst 1, 1) ∧ decode cX11_would 25 = .ok (.iconst 0, 1) := by decide +kernel
def dX11_would_0 := bX11_would_0.1
def dX11_would_1 := bX11_would_0.2.1
def dX11_would_2 := bX11_would_0.2.2.1
def dX11_would_5 := bX11_would_0.2.2.2.1
def dX11_would_6 := bX11_would_0.2.2.2.2.1
def dX11_would_7 := bX11_would_0.2.2.2.2.2.1
def dX11_would_8 := bX11_would_0.2.2.2.2.2.2.1
def dX11_would_11 := bX11_would_0.2.2.2.2.2.2.2.1
def dX11_would_12 := bX11_would_0.2.2.2.2.2.2.2.2.1
def dX11_would_13 := bX11_would_0.2.2.2.2.2.2.2.2.2.1
def dX11_would_16 := bX11_would_0.2.2.2.2.2.2.2.2.2.2.1
def dX11_would_19 := bX11_would_0.2.2.2.2.2.2.2.2.2.2.2.1
def dX11_would_20 := bX11_would_0.2.2.2.2.2.2.2.2.2.2.2.2.1
def dX11_would_23 := bX11_would_0.2.2.2.2.2.2.2.2.2.2.2.2.2.1
def dX11_would_24 := bX11_would_0.2.2.2.2.2.2.2.2.2.2.2.2.2.2.1
def dX11_would_25 := bX11_would_0.2.2.2.2.2.2.2.2.2.2.2.2.2.2.2
theorem bX11_would_26 : decode cX11_would 26 = .ok (.invokevirtual 151, 3) ∧ decode cX11_would 29 = .ok (.ifCond .ne 34, 3) ∧ decode cX11_would 32 = .ok (.aload_n 0, 1) ∧ decode cX11_would 33 = .ok (.iload_n 2, 1) ∧ decode cX11_would 34 = .ok (.invokestatic 228, 3) ∧ decode cX11_would 37 = .ok (.ifCond .eq 13, 3) ∧ decode cX11_would 40 = .ok (.iload_n 3, 1) ∧ decode cX11_would 41 = .ok (.iconst 0, 1) ∧ decode cX11_would 42 = .ok (.bipush 9, 2) ∧ decode cX11_would 44 = .ok (.invokestatic 119, 3) ∧ decode cX11_would 47 = .ok (.ifCond .ne 7, 3) ∧ decode cX11_would 50 = .ok (.iconst 1, 1) ∧ decode cX11_would 51 = .ok (.goto 4, 3) ∧ decode cX11_would 54 = .ok (.iconst 0, 1) ∧ decode cX11_would 55 = .ok (.iconst 2, 1) ∧ decode cX11_would 56 = .ok (.iconst 2, 1) := by decide +kernel
def dX11_would_26 := bX11_would_26.1
def dX11_would_29 := bX11_would_26.2.1
def dX11_would_32 := bX11_would_26.2.2.1
def dX11_would_33 := bX11_would_26.2.2.2.1
def dX11_would_34 := bX11_would_26.2.2.2.2.1
def dX11_would_37 := bX11_would_26.2.2.2.2.2.1
def dX11_would_40 := bX11_would_26.2.2.2.2.2.2.1
def dX11_would_41 := bX11_would_26.2.2.2.2.2.2.2.1
def dX11_would_42 := bX11_would_26.2.2.2.2.2.2.2.2.1
def dX11_would_44 := bX11_would_26.2.2.2.2.2.2.2.2.2.1
def dX11_would_47 := bX11_would_26.2.2.2.2.2.2.2.2.2.2.1
def dX11_would_50 := bX11_would_26.2.2.2.2.2.2.2.2.2.2.2.1
def dX11_would_51 := bX11_would_26.2.2.2.2.2.2.2.2.2.2.2.2.1
def dX11_would_54 := bX11_would_26.2.2.2.2.2.2.2.2.2.2.2.2.2.1
def dX11_would_55 := bX11_would_26.2.2.2.2.2.2.2.2.2.2.2.2.2.2.1
def dX11_would_56 := bX11_would_26.2.2.2.2.2.2.2.2.2.2.2.2.2.2.2
theorem bX11_would_57 : decode cX11_would 57 = .ok (.invokevirtual 151, 3) ∧ decode cX11_would 60 = .ok (.ifCond .eq 5, 3) ∧ decode cX11_would 63 = .ok (.iconst 0, 1) ∧ decode cX11_would 64 = .ok (.ireturn, 1) ∧ decode cX11_would 65 = .ok (.aload_n 0, 1) ∧ decode cX11_would 66 = .ok (.iload_n 1, 1) ∧ decode cX11_would 67 = .ok (.iload_n 2, 1) ∧ decode cX11_would 68 = .ok (.iload_n 3, 1) ∧ decode cX11_would 69 = .ok (.invokevirtual 231, 3) ∧ decode cX11_would 72 = .ok (.ireturn, 1) := by decide +kernel
def dX11_would_57 := bX11_would_57.1
def dX11_would_60 := bX11_would_57.2.1
def dX11_would_63 := bX11_would_57.2.2.1
def dX11_would_64 := bX11_would_57.2.2.2.1
def dX11_would_65 := bX11_would_57.2.2.2.2.1
def dX11_would_66 := bX11_would_57.2.2.2.2.2.1
def dX11_would_67 := bX11_would_57.2.2.2.2.2.2.1
def dX11_would_68 := bX11_would_57.2.2.2.2.2.2.2.1
def dX11_would_69 := bX11_would_57.2.2.2.2.2.2.2.2.1
def dX11_would_72 := bX11_would_57.2.2.2.2.2.2.2.2.2
theorem ggX11_best_X11_areMonths : GoodIn wsX11_best wsX11_areMonths := gW_in gwX11_areMonths (fun _ h => List.mem_cons_of_mem _ (List.mem_append_right _ (List.mem_append_right _ (List.mem_append_left _ h))))
set_option maxRecDepth 20000 in
theorem gX11_best_X11_areMonths : GoodIn wsX11_best (va_wsS RX11 228 yX11_areMonths wsX11_areMonths) := goodIn_app (goodIn_of _ (by decide +kernel)) ggX11_best_X11_areMonths
theorem ggX11_best_X11_in : GoodIn wsX11_best wsX11_in := gW_in gwX11_in (fun _ h => List.mem_cons_of_mem _ (List.mem_append_right _ (List.mem_append_right _ (List.mem_append_right _ (List.mem_append_left _ h)))))
set_option maxRecDepth 20000 in
theorem gX11_best_X11_in : GoodIn wsX11_best (va_wsS RX11 119 yX11_in wsX11_in) := goodIn_app (goodIn_of _ (by decide +kernel)) ggX11_best_X11_in
theorem ggX11_best_X11_bad : GoodIn wsX11_best wsX11_bad := gW_in gwX11_bad (fun _ h => List.mem_cons_of_mem _ (List.mem_append_right _ (List.mem_append_right _ (List.mem_append_right _ (List.mem_append_right _ (List.mem_append_left _ h))))))
set_option maxRecDepth 20000 in
theorem gX11_best_X11_bad : GoodIn wsX11_best (wsV RX11 151 RX11 yX11_bad wsX11_bad) := goodIn_app (goodIn_of _ (by decide +kernel)) ggX11_best_X11_bad
theorem ggX11_best_X11_by : GoodIn wsX11_best wsX11_by := gW_in gwX11_by (fun _ h => List.mem_cons_of_mem _ (List.mem_append_right _ (List.mem_append_right _ (List.mem_append_right _ (List.mem_append_right _ (List.mem_append_right _ (h)))))))
set_option maxRecDepth 20000 in
theorem gX11_best_X11_by : GoodIn wsX11_best (wsV RX11 231 RX11 yX11_by wsX11_by) := goodIn_app (goodIn_of _ (by decide +kernel)) ggX11_best_X11_by
theorem bX11_best_0 : decode cX11_best 0 = .ok (.aload_n 0, 1) ∧ decode cX11_best 1 = .ok (.iconst 0, 1) ∧ decode cX11_best 2 = .ok (.putfield 85, 3) ∧ decode cX11_best 5 = .ok (.aload_n 0, 1) ∧ decode cX11_best 6 = .ok (.iload_n 1, 1) ∧ decode cX11_best 7 = .ok (.invokestatic 228, 3) ∧ decode cX11_best 10 = .ok (.ifCond .eq 12, 3) ∧ decode cX11_best 13 = .ok (.iload_n 2, 1) ∧ decode cX11_best 14 = .ok (.iconst 0, 1) ∧ decode cX11_best 15 = .ok (.iconst 1, 1) ∧ decode cX11_best 16 = .ok (.invokestatic 119, 3) ∧ decode cX11_best 19 = .ok (.ifCond .ne 7, 3) ∧ decode cX11_best 22 = .ok (.iconst 1, 1) ∧ decode cX11_best 23 = .ok (.goto 4, 3) ∧ decode cX11_best 26 = .ok (.iconst 0, 1) ∧ decode cX11_best 27 = .ok (.iconst 1, 1) := by decide +kernel
def dX11_best_0 := bX11_best_0.1
def dX11_best_1 := bX11_best_0.2.1
def dX11_best_2 := bX11_best_0.2.2.1
def dX11_best_5 := bX11_best_0.2.2.2.1
def dX11_best_6 := bX11_best_0.2.2.2.2.1
def dX11_best_7 := bX11_best_0.2.2.2.2.2.1
def dX11_best_10 := bX11_best_0.2.2.2.2.2.2.1
def dX11_best_13 := bX11_best_0.2.2.2.2.2.2.2.1
def dX11_best_14 := bX11_best_0.2.2.2.2.2.2.2.2.1
def dX11_best_15 := bX11_best_0.2.2.2.2.2.2.2.2.2.1
def dX11_best_16 := bX11_best_0.2.2.2.2.2.2.2.2.2.2.1
def dX11_best_19 := bX11_best_0.2.2.2.2.2.2.2.2.2.2.2.1
def dX11_best_22 := bX11_best_0.2.2.2.2.2.2.2.2.2.2.2.2.1
def dX11_best_23 := bX11_best_0.2.2.2.2.2.2.2.2.2.2.2.2.2.1
def dX11_best_26 := bX11_best_0.2.2.2.2.2.2.2.2.2.2.2.2.2.2.1
def dX11_best_27 := bX11_best_0.2.2.2.2.2.2.2.2.2.2.2.2.2.2.2
theorem bX11_best_28 : decode cX11_best 28 = .ok (.iconst 2, 1) ∧ decode cX11_best 29 = .ok (.invokevirtual 151, 3) ∧ decode cX11_best 32 = .ok (.ifCond .eq 5, 3) ∧ decode cX11_best 35 = .ok (.iconst 0, 1) ∧ decode cX11_best 36 = .ok (.ireturn, 1) ∧ decode cX11_best 37 = .ok (.iconst (-1), 1) ∧ decode cX11_best 38 = .ok (.istore_n 3, 1) ∧ decode cX11_best 39 = .ok (.aload_n 0, 1) ∧ decode cX11_best 40 = .ok (.iconst (-1), 1) ∧ decode cX11_best 41 = .ok (.iload_n 1, 1) ∧ decode cX11_best 42 = .ok (.iconst 0, 1) ∧ decode cX11_best 43 = .ok (.invokevirtual 231, 3) ∧ decode cX11_best 46 = .ok (.istore 4, 2) ∧ decode cX11_best 48 = .ok (.aload_n 0, 1) ∧ decode cX11_best 49 = .ok (.getfield 162, 3) ∧ decode cX11_best 52 = .ok (.iconst 1, 1) := by decide +kernel
def dX11_best_28 := bX11_best_28.1
def dX11_best_29 := bX11_best_28.2.1
def dX11_best_32 := bX11_best_28.2.2.1
def dX11_best_35 := bX11_best_28.2.2.2.1
def dX11_best_36 := bX11_best_28.2.2.2.2.1
def dX11_best_37 := bX11_best_28.2.2.2.2.2.1
def dX11_best_38 := bX11_best_28.2.2.2.2.2.2.1
def dX11_best_39 := bX11_best_28.2.2.2.2.2.2.2.1
def dX11_best_40 := bX11_best_28.2.2.2.2.2.2.2.2.1
def dX11_best_41 := bX11_best_28.2.2.2.2.2.2.2.2.2.1
def dX11_best_42 := bX11_best_28.2.2.2.2.2.2.2.2.2.2.1
def dX11_best_43 := bX11_best_28.2.2.2.2.2.2.2.2.2.2.2.1
def dX11_best_46 := bX11_best_28.2.2.2.2.2.2.2.2.2.2.2.2.1
def dX11_best_48 := bX11_best_28.2.2.2.2.2.2.2.2.2.2.2.2.2.1
def dX11_best_49 := bX11_best_28.2.2.2.2.2.2.2.2.2.2.2.2.2.2.1
def dX11_best_52 := bX11_best_28.2.2.2.2.2.2.2.2.2.2.2.2.2.2.2
theorem bX11_best_53 : decode cX11_best 53 = .ok (.isub, 1) ∧ decode cX11_best 54 = .ok (.istore 5, 2) ∧ decode cX11_best 56 = .ok (.iload 5, 2) ∧ decode cX11_best 58 = .ok (.ifCond .lt 36, 3) ∧ decode cX11_best 61 = .ok (.aload_n 0, 1) ∧ decode cX11_best 62 = .ok (.iload 5, 2) ∧ decode cX11_best 64 = .ok (.iload_n 1, 1) ∧ decode cX11_best 65 = .ok (.iconst 0, 1) ∧ decode cX11_best 66 = .ok (.invokevirtual 231, 3) ∧ decode cX11_best 69 = .ok (.istore 6, 2) ∧ decode cX11_best 71 = .ok (.iload 6, 2) ∧ decode cX11_best 73 = .ok (.iload 4, 2) ∧ decode cX11_best 75 = .ok (.if_icmp .ge 6, 3) ∧ decode cX11_best 78 = .ok (.goto 10, 3) ∧ decode cX11_best 81 = .ok (.iload 5, 2) ∧ decode cX11_best 83 = .ok (.istore_n 3, 1) := by decide +kernel
def dX11_best_53 := bX11_best_53.1
def dX11_best_54 := bX11_best_53.2.1
def dX11_best_56 := bX11_best_53.2.2.1
def dX11_best_58 := bX11_best_53.2.2.2.1
def dX11_best_61 := bX11_best_53.2.2.2.2.1
def dX11_best_62 := bX11_best_53.2.2.2.2.2.1
def dX11_best_64 := bX11_best_53.2.2.2.2.2.2.1
def dX11_best_65 := bX11_best_53.2.2.2.2.2.2.2.1
def dX11_best_66 := bX11_best_53.2.2.2.2.2.2.2.2.1
def dX11_best_69 := bX11_best_53.2.2.2.2.2.2.2.2.2.1
def dX11_best_71 := bX11_best_53.2.2.2.2.2.2.2.2.2.2.1
def dX11_best_73 := bX11_best_53.2.2.2.2.2.2.2.2.2.2.2.1
def dX11_best_75 := bX11_best_53.2.2.2.2.2.2.2.2.2.2.2.2.1
def dX11_best_78 := bX11_best_53.2.2.2.2.2.2.2.2.2.2.2.2.2.1
def dX11_best_81 := bX11_best_53.2.2.2.2.2.2.2.2.2.2.2.2.2.2.1
def dX11_best_83 := bX11_best_53.2.2.2.2.2.2.2.2.2.2.2.2.2.2.2
theorem bX11_best_84 : decode cX11_best 84 = .ok (.iload 6, 2) ∧ decode cX11_best 86 = .ok (.istore 4, 2) ∧ decode cX11_best 88 = .ok (.iinc 5 (-1), 3) ∧ decode cX11_best 91 = .ok (.goto (-35), 3) ∧ decode cX11_best 94 = .ok (.iload_n 2, 1) ∧ decode cX11_best 95 = .ok (.ifCond .ne 7, 3) ∧ decode cX11_best 98 = .ok (.iload_n 3, 1) ∧ decode cX11_best 99 = .ok (.goto 5, 3) ∧ decode cX11_best 102 = .ok (.iload 4, 2) ∧ decode cX11_best 104 = .ok (.ireturn, 1) := by decide +kernel
def dX11_best_84 := bX11_best_84.1
def dX11_best_86 := bX11_best_84.2.1
def dX11_best_88 := bX11_best_84.2.2.1
def dX11_best_91 := bX11_best_84.2.2.2.1
def dX11_best_94 := bX11_best_84.2.2.2.2.1
def dX11_best_95 := bX11_best_84.2.2.2.2.2.1
def dX11_best_98 := bX11_best_84.2.2.2.2.2.2.1
def dX11_best_99 := bX11_best_84.2.2.2.2.2.2.2.1
def dX11_best_102 := bX11_best_84.2.2.2.2.2.2.2.2.1
def dX11_best_104 := bX11_best_84.2.2.2.2.2.2.2.2.2
theorem ggX11_offer_X11_areMonths : GoodIn wsX11_offer wsX11_areMonths := gW_in gwX11_areMonths (fun _ h => List.mem_cons_of_mem _ (List.mem_append_right _ (List.mem_append_right _ (List.mem_append_left _ h))))
set_option maxRecDepth 20000 in
theorem gX11_offer_X11_areMonths : GoodIn wsX11_offer (va_wsS RX11 228 yX11_areMonths wsX11_areMonths) := goodIn_app (goodIn_of _ (by decide +kernel)) ggX11_offer_X11_areMonths
theorem ggX11_offer_X11_in : GoodIn wsX11_offer wsX11_in := gW_in gwX11_in (fun _ h => List.mem_cons_of_mem _ (List.mem_append_right _ (List.mem_append_right _ (List.mem_append_right _ (List.mem_append_left _ h)))))
set_option maxRecDepth 20000 in
theorem gX11_offer_X11_in : GoodIn wsX11_offer (va_wsS RX11 119 yX11_in wsX11_in) := goodIn_app (goodIn_of _ (by decide +kernel)) ggX11_offer_X11_in
theorem ggX11_offer_X11_bad : GoodIn wsX11_offer wsX11_bad := gW_in gwX11_bad (fun _ h => List.mem_cons_of_mem _ (List.mem_append_right _ (List.mem_append_right _ (List.mem_append_right _ (List.mem_append_right _ (List.mem_append_left _ h))))))
set_option maxRecDepth 20000 in
theorem gX11_offer_X11_bad : GoodIn wsX11_offer (wsV RX11 151 RX11 yX11_bad wsX11_bad) := goodIn_app (goodIn_of _ (by decide +kernel)) ggX11_offer_X11_bad
theorem ggX11_offer_X11_wantsFor : GoodIn wsX11_offer wsX11_wantsFor := gW_in gwX11_wantsFor (fun _ h => List.mem_cons_of_mem _ (List.mem_append_right _ (List.mem_append_right _ (List.mem_append_right _ (List.mem_append_right _ (List.mem_append_right _ (List.mem_append_left _ h)))))))
set_option maxRecDepth 20000 in
theorem gX11_offer_X11_wantsFor : GoodIn wsX11_offer (wsV RX11 180 RX11 yX11_wantsFor wsX11_wantsFor) := goodIn_app (goodIn_of _ (by decide +kernel)) ggX11_offer_X11_wantsFor
theorem ggX11_offer_X11_byOffer : GoodIn wsX11_offer wsX11_byOffer := gW_in gwX11_byOffer (fun _ h => List.mem_cons_of_mem _ (List.mem_append_right _ (List.mem_append_right _ (List.mem_append_right _ (List.mem_append_right _ (List.mem_append_right _ (List.mem_append_right _ (h))))))))
set_option maxRecDepth 20000 in
theorem gX11_offer_X11_byOffer : GoodIn wsX11_offer (wsV RX11 235 RX11 yX11_byOffer wsX11_byOffer) := goodIn_app (goodIn_of _ (by decide +kernel)) ggX11_offer_X11_byOffer
theorem bX11_offer_0 : decode cX11_offer 0 = .ok (.aload_n 0, 1) ∧ decode cX11_offer 1 = .ok (.iconst 0, 1) ∧ decode cX11_offer 2 = .ok (.putfield 85, 3) ∧ decode cX11_offer 5 = .ok (.aload_n 0, 1) ∧ decode cX11_offer 6 = .ok (.iload_n 1, 1) ∧ decode cX11_offer 7 = .ok (.invokestatic 228, 3) ∧ decode cX11_offer 10 = .ok (.ifCond .eq 12, 3) ∧ decode cX11_offer 13 = .ok (.iload_n 2, 1) ∧ decode cX11_offer 14 = .ok (.iconst 0, 1) ∧ decode cX11_offer 15 = .ok (.iconst 3, 1) ∧ decode cX11_offer 16 = .ok (.invokestatic 119, 3) ∧ decode cX11_offer 19 = .ok (.ifCond .ne 7, 3) ∧ decode cX11_offer 22 = .ok (.iconst 1, 1) ∧ decode cX11_offer 23 = .ok (.goto 4, 3) ∧ decode cX11_offer 26 = .ok (.iconst 0, 1) ∧ decode cX11_offer 27 = .ok (.iconst 1, 1) := by decide +kernel
def dX11_offer_0 := bX11_offer_0.1
def dX11_offer_1 := bX11_offer_0.2.1
def dX11_offer_2 := bX11_offer_0.2.2.1
def dX11_offer_5 := bX11_offer_0.2.2.2.1
def dX11_offer_6 := bX11_offer_0.2.2.2.2.1
def dX11_offer_7 := bX11_offer_0.2.2.2.2.2.1
def dX11_offer_10 := bX11_offer_0.2.2.2.2.2.2.1
def dX11_offer_13 := bX11_offer_0.2.2.2.2.2.2.2.1
def dX11_offer_14 := bX11_offer_0.2.2.2.2.2.2.2.2.1
def dX11_offer_15 := bX11_offer_0.2.2.2.2.2.2.2.2.2.1
def dX11_offer_16 := bX11_offer_0.2.2.2.2.2.2.2.2.2.2.1
def dX11_offer_19 := bX11_offer_0.2.2.2.2.2.2.2.2.2.2.2.1
def dX11_offer_22 := bX11_offer_0.2.2.2.2.2.2.2.2.2.2.2.2.1
def dX11_offer_23 := bX11_offer_0.2.2.2.2.2.2.2.2.2.2.2.2.2.1
def dX11_offer_26 := bX11_offer_0.2.2.2.2.2.2.2.2.2.2.2.2.2.2.1
def dX11_offer_27 := bX11_offer_0.2.2.2.2.2.2.2.2.2.2.2.2.2.2.2
theorem bX11_offer_28 : decode cX11_offer 28 = .ok (.iconst 2, 1) ∧ decode cX11_offer 29 = .ok (.invokevirtual 151, 3) ∧ decode cX11_offer 32 = .ok (.ifCond .eq 5, 3) ∧ decode cX11_offer 35 = .ok (.iconst 0, 1) ∧ decode cX11_offer 36 = .ok (.ireturn, 1) ∧ decode cX11_offer 37 = .ok (.iconst 0, 1) ∧ decode cX11_offer 38 = .ok (.istore_n 3, 1) ∧ decode cX11_offer 39 = .ok (.iconst 0, 1) ∧ decode cX11_offer 40 = .ok (.istore 4, 2) ∧ decode cX11_offer 42 = .ok (.iconst (-1), 1) ∧ decode cX11_offer 43 = .ok (.istore 5, 2) ∧ decode cX11_offer 45 = .ok (.aload_n 0, 1) ∧ decode cX11_offer 46 = .ok (.getfield 40, 3) ∧ decode cX11_offer 49 = .ok (.bipush 6, 2) ∧ decode cX11_offer 51 = .ok (.aaload, 1) ∧ decode cX11_offer 52 = .ok (.astore 6, 2) := by decide +kernel
def dX11_offer_28 := bX11_offer_28.1
def dX11_offer_29 := bX11_offer_28.2.1
def dX11_offer_32 := bX11_offer_28.2.2.1
def dX11_offer_35 := bX11_offer_28.2.2.2.1
def dX11_offer_36 := bX11_offer_28.2.2.2.2.1
def dX11_offer_37 := bX11_offer_28.2.2.2.2.2.1
def dX11_offer_38 := bX11_offer_28.2.2.2.2.2.2.1
def dX11_offer_39 := bX11_offer_28.2.2.2.2.2.2.2.1
def dX11_offer_40 := bX11_offer_28.2.2.2.2.2.2.2.2.1
def dX11_offer_42 := bX11_offer_28.2.2.2.2.2.2.2.2.2.1
def dX11_offer_43 := bX11_offer_28.2.2.2.2.2.2.2.2.2.2.1
def dX11_offer_45 := bX11_offer_28.2.2.2.2.2.2.2.2.2.2.2.1
def dX11_offer_46 := bX11_offer_28.2.2.2.2.2.2.2.2.2.2.2.2.1
def dX11_offer_49 := bX11_offer_28.2.2.2.2.2.2.2.2.2.2.2.2.2.1
def dX11_offer_51 := bX11_offer_28.2.2.2.2.2.2.2.2.2.2.2.2.2.2.1
def dX11_offer_52 := bX11_offer_28.2.2.2.2.2.2.2.2.2.2.2.2.2.2.2
theorem bX11_offer_54 : decode cX11_offer 54 = .ok (.iconst 0, 1) ∧ decode cX11_offer 55 = .ok (.istore 7, 2) ∧ decode cX11_offer 57 = .ok (.iload 7, 2) ∧ decode cX11_offer 59 = .ok (.bipush 36, 2) ∧ decode cX11_offer 61 = .ok (.if_icmp .ge 20, 3) ∧ decode cX11_offer 64 = .ok (.aload_n 0, 1) ∧ decode cX11_offer 65 = .ok (.getfield 43, 3) ∧ decode cX11_offer 68 = .ok (.bipush 6, 2) ∧ decode cX11_offer 70 = .ok (.aaload, 1) ∧ decode cX11_offer 71 = .ok (.iload 7, 2) ∧ decode cX11_offer 73 = .ok (.iconst (-1), 1) ∧ decode cX11_offer 74 = .ok (.iastore, 1) ∧ decode cX11_offer 75 = .ok (.iinc 7 1, 3) ∧ decode cX11_offer 78 = .ok (.goto (-21), 3) ∧ decode cX11_offer 81 = .ok (.iconst 0, 1) ∧ decode cX11_offer 82 = .ok (.istore 7, 2) := by decide +kernel
def dX11_offer_54 := bX11_offer_54.1
def dX11_offer_55 := bX11_offer_54.2.1
def dX11_offer_57 := bX11_offer_54.2.2.1
def dX11_offer_59 := bX11_offer_54.2.2.2.1
def dX11_offer_61 := bX11_offer_54.2.2.2.2.1
def dX11_offer_64 := bX11_offer_54.2.2.2.2.2.1
def dX11_offer_65 := bX11_offer_54.2.2.2.2.2.2.1
def dX11_offer_68 := bX11_offer_54.2.2.2.2.2.2.2.1
def dX11_offer_70 := bX11_offer_54.2.2.2.2.2.2.2.2.1
def dX11_offer_71 := bX11_offer_54.2.2.2.2.2.2.2.2.2.1
def dX11_offer_73 := bX11_offer_54.2.2.2.2.2.2.2.2.2.2.1
def dX11_offer_74 := bX11_offer_54.2.2.2.2.2.2.2.2.2.2.2.1
def dX11_offer_75 := bX11_offer_54.2.2.2.2.2.2.2.2.2.2.2.2.1
def dX11_offer_78 := bX11_offer_54.2.2.2.2.2.2.2.2.2.2.2.2.2.1
def dX11_offer_81 := bX11_offer_54.2.2.2.2.2.2.2.2.2.2.2.2.2.2.1
def dX11_offer_82 := bX11_offer_54.2.2.2.2.2.2.2.2.2.2.2.2.2.2.2
theorem bX11_offer_84 : decode cX11_offer 84 = .ok (.iload 7, 2) ∧ decode cX11_offer 86 = .ok (.bipush 10, 2) ∧ decode cX11_offer 88 = .ok (.if_icmp .ge 97, 3) ∧ decode cX11_offer 91 = .ok (.iconst 0, 1) ∧ decode cX11_offer 92 = .ok (.istore 8, 2) ∧ decode cX11_offer 94 = .ok (.iload 8, 2) ∧ decode cX11_offer 96 = .ok (.bipush 21, 2) ∧ decode cX11_offer 98 = .ok (.if_icmp .ge 81, 3) ∧ decode cX11_offer 101 = .ok (.aload 6, 2) ∧ decode cX11_offer 103 = .ok (.iconst 0, 1) ∧ decode cX11_offer 104 = .ok (.aload_n 0, 1) ∧ decode cX11_offer 105 = .ok (.iload 7, 2) ∧ decode cX11_offer 107 = .ok (.iload 8, 2) ∧ decode cX11_offer 109 = .ok (.invokevirtual 180, 3) ∧ decode cX11_offer 112 = .ok (.iastore, 1) ∧ decode cX11_offer 113 = .ok (.aload 6, 2) := by decide +kernel
def dX11_offer_84 := bX11_offer_84.1
def dX11_offer_86 := bX11_offer_84.2.1
def dX11_offer_88 := bX11_offer_84.2.2.1
def dX11_offer_91 := bX11_offer_84.2.2.2.1
def dX11_offer_92 := bX11_offer_84.2.2.2.2.1
def dX11_offer_94 := bX11_offer_84.2.2.2.2.2.1
def dX11_offer_96 := bX11_offer_84.2.2.2.2.2.2.1
def dX11_offer_98 := bX11_offer_84.2.2.2.2.2.2.2.1
def dX11_offer_101 := bX11_offer_84.2.2.2.2.2.2.2.2.1
def dX11_offer_103 := bX11_offer_84.2.2.2.2.2.2.2.2.2.1
def dX11_offer_104 := bX11_offer_84.2.2.2.2.2.2.2.2.2.2.1
def dX11_offer_105 := bX11_offer_84.2.2.2.2.2.2.2.2.2.2.2.1
def dX11_offer_107 := bX11_offer_84.2.2.2.2.2.2.2.2.2.2.2.2.1
def dX11_offer_109 := bX11_offer_84.2.2.2.2.2.2.2.2.2.2.2.2.2.1
def dX11_offer_112 := bX11_offer_84.2.2.2.2.2.2.2.2.2.2.2.2.2.2.1
def dX11_offer_113 := bX11_offer_84.2.2.2.2.2.2.2.2.2.2.2.2.2.2.2
theorem bX11_offer_115 : decode cX11_offer 115 = .ok (.iconst 1, 1) ∧ decode cX11_offer 116 = .ok (.aload 6, 2) ∧ decode cX11_offer 118 = .ok (.iconst 0, 1) ∧ decode cX11_offer 119 = .ok (.iaload, 1) ∧ decode cX11_offer 120 = .ok (.iastore, 1) ∧ decode cX11_offer 121 = .ok (.aload 6, 2) ∧ decode cX11_offer 123 = .ok (.iconst 2, 1) ∧ decode cX11_offer 124 = .ok (.iload 7, 2) ∧ decode cX11_offer 126 = .ok (.iastore, 1) ∧ decode cX11_offer 127 = .ok (.aload 6, 2) ∧ decode cX11_offer 129 = .ok (.iconst 3, 1) ∧ decode cX11_offer 130 = .ok (.iload 8, 2) ∧ decode cX11_offer 132 = .ok (.iastore, 1) ∧ decode cX11_offer 133 = .ok (.aload 6, 2) ∧ decode cX11_offer 135 = .ok (.iconst 4, 1) ∧ decode cX11_offer 136 = .ok (.iconst 0, 1) := by decide +kernel
def dX11_offer_115 := bX11_offer_115.1
def dX11_offer_116 := bX11_offer_115.2.1
def dX11_offer_118 := bX11_offer_115.2.2.1
def dX11_offer_119 := bX11_offer_115.2.2.2.1
def dX11_offer_120 := bX11_offer_115.2.2.2.2.1
def dX11_offer_121 := bX11_offer_115.2.2.2.2.2.1
def dX11_offer_123 := bX11_offer_115.2.2.2.2.2.2.1
def dX11_offer_124 := bX11_offer_115.2.2.2.2.2.2.2.1
def dX11_offer_126 := bX11_offer_115.2.2.2.2.2.2.2.2.1
def dX11_offer_127 := bX11_offer_115.2.2.2.2.2.2.2.2.2.1
def dX11_offer_129 := bX11_offer_115.2.2.2.2.2.2.2.2.2.2.1
def dX11_offer_130 := bX11_offer_115.2.2.2.2.2.2.2.2.2.2.2.1
def dX11_offer_132 := bX11_offer_115.2.2.2.2.2.2.2.2.2.2.2.2.1
def dX11_offer_133 := bX11_offer_115.2.2.2.2.2.2.2.2.2.2.2.2.2.1
def dX11_offer_135 := bX11_offer_115.2.2.2.2.2.2.2.2.2.2.2.2.2.2.1
def dX11_offer_136 := bX11_offer_115.2.2.2.2.2.2.2.2.2.2.2.2.2.2.2
theorem bX11_offer_137 : decode cX11_offer 137 = .ok (.iastore, 1) ∧ decode cX11_offer 138 = .ok (.aload 6, 2) ∧ decode cX11_offer 140 = .ok (.iconst 5, 1) ∧ decode cX11_offer 141 = .ok (.sipush 1000, 3) ∧ decode cX11_offer 144 = .ok (.iastore, 1) ∧ decode cX11_offer 145 = .ok (.aload_n 0, 1) ∧ decode cX11_offer 146 = .ok (.iload_n 1, 1) ∧ decode cX11_offer 147 = .ok (.invokevirtual 235, 3) ∧ decode cX11_offer 150 = .ok (.istore 9, 2) ∧ decode cX11_offer 152 = .ok (.iload 9, 2) ∧ decode cX11_offer 154 = .ok (.iload 5, 2) ∧ decode cX11_offer 156 = .ok (.if_icmp .gt 6, 3) ∧ decode cX11_offer 159 = .ok (.goto 14, 3) ∧ decode cX11_offer 162 = .ok (.iload 7, 2) ∧ decode cX11_offer 164 = .ok (.istore_n 3, 1) ∧ decode cX11_offer 165 = .ok (.iload 8, 2) := by decide +kernel
def dX11_offer_137 := bX11_offer_137.1
def dX11_offer_138 := bX11_offer_137.2.1
def dX11_offer_140 := bX11_offer_137.2.2.1
def dX11_offer_141 := bX11_offer_137.2.2.2.1
def dX11_offer_144 := bX11_offer_137.2.2.2.2.1
def dX11_offer_145 := bX11_offer_137.2.2.2.2.2.1
def dX11_offer_146 := bX11_offer_137.2.2.2.2.2.2.1
def dX11_offer_147 := bX11_offer_137.2.2.2.2.2.2.2.1
def dX11_offer_150 := bX11_offer_137.2.2.2.2.2.2.2.2.1
def dX11_offer_152 := bX11_offer_137.2.2.2.2.2.2.2.2.2.1
def dX11_offer_154 := bX11_offer_137.2.2.2.2.2.2.2.2.2.2.1
def dX11_offer_156 := bX11_offer_137.2.2.2.2.2.2.2.2.2.2.2.1
def dX11_offer_159 := bX11_offer_137.2.2.2.2.2.2.2.2.2.2.2.2.1
def dX11_offer_162 := bX11_offer_137.2.2.2.2.2.2.2.2.2.2.2.2.2.1
def dX11_offer_164 := bX11_offer_137.2.2.2.2.2.2.2.2.2.2.2.2.2.2.1
def dX11_offer_165 := bX11_offer_137.2.2.2.2.2.2.2.2.2.2.2.2.2.2.2
theorem bX11_offer_167 : decode cX11_offer 167 = .ok (.istore 4, 2) ∧ decode cX11_offer 169 = .ok (.iload 9, 2) ∧ decode cX11_offer 171 = .ok (.istore 5, 2) ∧ decode cX11_offer 173 = .ok (.iinc 8 1, 3) ∧ decode cX11_offer 176 = .ok (.goto (-82), 3) ∧ decode cX11_offer 179 = .ok (.iinc 7 1, 3) ∧ decode cX11_offer 182 = .ok (.goto (-98), 3) ∧ decode cX11_offer 185 = .ok (.iload_n 2, 1) ∧ decode cX11_offer 186 = .ok (.ifCond .ne 7, 3) ∧ decode cX11_offer 189 = .ok (.iload_n 3, 1) ∧ decode cX11_offer 190 = .ok (.goto 30, 3) ∧ decode cX11_offer 193 = .ok (.iload_n 2, 1) ∧ decode cX11_offer 194 = .ok (.iconst 1, 1) ∧ decode cX11_offer 195 = .ok (.if_icmp .ne 8, 3) ∧ decode cX11_offer 198 = .ok (.iload 4, 2) ∧ decode cX11_offer 200 = .ok (.goto 20, 3) := by decide +kernel
def dX11_offer_167 := bX11_offer_167.1
def dX11_offer_169 := bX11_offer_167.2.1
def dX11_offer_171 := bX11_offer_167.2.2.1
def dX11_offer_173 := bX11_offer_167.2.2.2.1
def dX11_offer_176 := bX11_offer_167.2.2.2.2.1
def dX11_offer_179 := bX11_offer_167.2.2.2.2.2.1
def dX11_offer_182 := bX11_offer_167.2.2.2.2.2.2.1
def dX11_offer_185 := bX11_offer_167.2.2.2.2.2.2.2.1
def dX11_offer_186 := bX11_offer_167.2.2.2.2.2.2.2.2.1
def dX11_offer_189 := bX11_offer_167.2.2.2.2.2.2.2.2.2.1
def dX11_offer_190 := bX11_offer_167.2.2.2.2.2.2.2.2.2.2.1
def dX11_offer_193 := bX11_offer_167.2.2.2.2.2.2.2.2.2.2.2.1
def dX11_offer_194 := bX11_offer_167.2.2.2.2.2.2.2.2.2.2.2.2.1
def dX11_offer_195 := bX11_offer_167.2.2.2.2.2.2.2.2.2.2.2.2.2.1
def dX11_offer_198 := bX11_offer_167.2.2.2.2.2.2.2.2.2.2.2.2.2.2.1
def dX11_offer_200 := bX11_offer_167.2.2.2.2.2.2.2.2.2.2.2.2.2.2.2
theorem bX11_offer_203 : decode cX11_offer 203 = .ok (.iload_n 2, 1) ∧ decode cX11_offer 204 = .ok (.iconst 2, 1) ∧ decode cX11_offer 205 = .ok (.if_icmp .ne 13, 3) ∧ decode cX11_offer 208 = .ok (.aload_n 0, 1) ∧ decode cX11_offer 209 = .ok (.iload_n 3, 1) ∧ decode cX11_offer 210 = .ok (.iload 4, 2) ∧ decode cX11_offer 212 = .ok (.invokevirtual 180, 3) ∧ decode cX11_offer 215 = .ok (.goto 5, 3) ∧ decode cX11_offer 218 = .ok (.iload 5, 2) ∧ decode cX11_offer 220 = .ok (.ireturn, 1) := by decide +kernel
def dX11_offer_203 := bX11_offer_203.1
def dX11_offer_204 := bX11_offer_203.2.1
def dX11_offer_205 := bX11_offer_203.2.2.1
def dX11_offer_208 := bX11_offer_203.2.2.2.1
def dX11_offer_209 := bX11_offer_203.2.2.2.2.1
def dX11_offer_210 := bX11_offer_203.2.2.2.2.2.1
def dX11_offer_212 := bX11_offer_203.2.2.2.2.2.2.1
def dX11_offer_215 := bX11_offer_203.2.2.2.2.2.2.2.1
def dX11_offer_218 := bX11_offer_203.2.2.2.2.2.2.2.2.1
def dX11_offer_220 := bX11_offer_203.2.2.2.2.2.2.2.2.2
theorem ggX11_byOffer_X11_puts : GoodIn wsX11_byOffer wsX11_puts := gW_in gwX11_puts (fun _ h => List.mem_cons_of_mem _ (List.mem_append_right _ (List.mem_append_right _ (List.mem_append_left _ h))))
set_option maxRecDepth 20000 in
theorem gX11_byOffer_X11_puts : GoodIn wsX11_byOffer (wsV RX11 219 RX11 yX11_puts wsX11_puts) := goodIn_app (goodIn_of _ (by decide +kernel)) ggX11_byOffer_X11_puts
theorem ggX11_byOffer_X11_signs : GoodIn wsX11_byOffer wsX11_signs := gW_in gwX11_signs (fun _ h => List.mem_cons_of_mem _ (List.mem_append_right _ (List.mem_append_right _ (List.mem_append_right _ (List.mem_append_left _ h)))))
set_option maxRecDepth 20000 in
theorem gX11_byOffer_X11_signs : GoodIn wsX11_byOffer (wsV RX11 183 RX11 yX11_signs wsX11_signs) := goodIn_app (goodIn_of _ (by decide +kernel)) ggX11_byOffer_X11_signs
theorem ggX11_byOffer_X11_monthGoes : GoodIn wsX11_byOffer wsX11_monthGoes := gW_in gwX11_monthGoes (fun _ h => List.mem_cons_of_mem _ (List.mem_append_right _ (List.mem_append_right _ (List.mem_append_right _ (List.mem_append_right _ (List.mem_append_left _ h))))))
set_option maxRecDepth 20000 in
theorem gX11_byOffer_X11_monthGoes : GoodIn wsX11_byOffer (wsV RX11 216 RX11 yX11_monthGoes wsX11_monthGoes) := goodIn_app (goodIn_of _ (by decide +kernel)) ggX11_byOffer_X11_monthGoes
theorem ggX11_byOffer_X11_takes : GoodIn wsX11_byOffer wsX11_takes := gW_in gwX11_takes (fun _ h => List.mem_cons_of_mem _ (List.mem_append_right _ (List.mem_append_right _ (List.mem_append_right _ (List.mem_append_right _ (List.mem_append_right _ (h)))))))
set_option maxRecDepth 20000 in
theorem gX11_byOffer_X11_takes : GoodIn wsX11_byOffer (wsV RX11 225 RX11 yX11_takes wsX11_takes) := goodIn_app (goodIn_of _ (by decide +kernel)) ggX11_byOffer_X11_takes
theorem bX11_byOffer_0 : decode cX11_byOffer 0 = .ok (.aload_n 0, 1) ∧ decode cX11_byOffer 1 = .ok (.invokevirtual 219, 3) ∧ decode cX11_byOffer 4 = .ok (.aload_n 0, 1) ∧ decode cX11_byOffer 5 = .ok (.bipush 6, 2) ∧ decode cX11_byOffer 7 = .ok (.invokevirtual 183, 3) ∧ decode cX11_byOffer 10 = .ok (.iconst 0, 1) ∧ decode cX11_byOffer 11 = .ok (.istore_n 2, 1) ∧ decode cX11_byOffer 12 = .ok (.iload_n 2, 1) ∧ decode cX11_byOffer 13 = .ok (.iload_n 1, 1) ∧ decode cX11_byOffer 14 = .ok (.if_icmp .ge 36, 3) ∧ decode cX11_byOffer 17 = .ok (.aload_n 0, 1) ∧ decode cX11_byOffer 18 = .ok (.getfield 46, 3) ∧ decode cX11_byOffer 21 = .ok (.bipush 11, 2) ∧ decode cX11_byOffer 23 = .ok (.aload_n 0, 1) ∧ decode cX11_byOffer 24 = .ok (.getfield 46, 3) ∧ decode cX11_byOffer 27 = .ok (.bipush 10, 2) := by decide +kernel
def dX11_byOffer_0 := bX11_byOffer_0.1
def dX11_byOffer_1 := bX11_byOffer_0.2.1
def dX11_byOffer_4 := bX11_byOffer_0.2.2.1
def dX11_byOffer_5 := bX11_byOffer_0.2.2.2.1
def dX11_byOffer_7 := bX11_byOffer_0.2.2.2.2.1
def dX11_byOffer_10 := bX11_byOffer_0.2.2.2.2.2.1
def dX11_byOffer_11 := bX11_byOffer_0.2.2.2.2.2.2.1
def dX11_byOffer_12 := bX11_byOffer_0.2.2.2.2.2.2.2.1
def dX11_byOffer_13 := bX11_byOffer_0.2.2.2.2.2.2.2.2.1
def dX11_byOffer_14 := bX11_byOffer_0.2.2.2.2.2.2.2.2.2.1
def dX11_byOffer_17 := bX11_byOffer_0.2.2.2.2.2.2.2.2.2.2.1
def dX11_byOffer_18 := bX11_byOffer_0.2.2.2.2.2.2.2.2.2.2.2.1
def dX11_byOffer_21 := bX11_byOffer_0.2.2.2.2.2.2.2.2.2.2.2.2.1
def dX11_byOffer_23 := bX11_byOffer_0.2.2.2.2.2.2.2.2.2.2.2.2.2.1
def dX11_byOffer_24 := bX11_byOffer_0.2.2.2.2.2.2.2.2.2.2.2.2.2.2.1
def dX11_byOffer_27 := bX11_byOffer_0.2.2.2.2.2.2.2.2.2.2.2.2.2.2.2
theorem bX11_byOffer_29 : decode cX11_byOffer 29 = .ok (.iaload, 1) ∧ decode cX11_byOffer 30 = .ok (.iconst (-1), 1) ∧ decode cX11_byOffer 31 = .ok (.if_icmp .ne 7, 3) ∧ decode cX11_byOffer 34 = .ok (.iconst (-1), 1) ∧ decode cX11_byOffer 35 = .ok (.goto 4, 3) ∧ decode cX11_byOffer 38 = .ok (.iconst 0, 1) ∧ decode cX11_byOffer 39 = .ok (.iastore, 1) ∧ decode cX11_byOffer 40 = .ok (.aload_n 0, 1) ∧ decode cX11_byOffer 41 = .ok (.invokevirtual 216, 3) ∧ decode cX11_byOffer 44 = .ok (.iinc 2 1, 3) ∧ decode cX11_byOffer 47 = .ok (.goto (-35), 3) ∧ decode cX11_byOffer 50 = .ok (.aload_n 0, 1) ∧ decode cX11_byOffer 51 = .ok (.getfield 46, 3) ∧ decode cX11_byOffer 54 = .ok (.iconst 0, 1) ∧ decode cX11_byOffer 55 = .ok (.iaload, 1) ∧ decode cX11_byOffer 56 = .ok (.istore_n 2, 1) := by decide +kernel
def dX11_byOffer_29 := bX11_byOffer_29.1
def dX11_byOffer_30 := bX11_byOffer_29.2.1
def dX11_byOffer_31 := bX11_byOffer_29.2.2.1
def dX11_byOffer_34 := bX11_byOffer_29.2.2.2.1
def dX11_byOffer_35 := bX11_byOffer_29.2.2.2.2.1
def dX11_byOffer_38 := bX11_byOffer_29.2.2.2.2.2.1
def dX11_byOffer_39 := bX11_byOffer_29.2.2.2.2.2.2.1
def dX11_byOffer_40 := bX11_byOffer_29.2.2.2.2.2.2.2.1
def dX11_byOffer_41 := bX11_byOffer_29.2.2.2.2.2.2.2.2.1
def dX11_byOffer_44 := bX11_byOffer_29.2.2.2.2.2.2.2.2.2.1
def dX11_byOffer_47 := bX11_byOffer_29.2.2.2.2.2.2.2.2.2.2.1
def dX11_byOffer_50 := bX11_byOffer_29.2.2.2.2.2.2.2.2.2.2.2.1
def dX11_byOffer_51 := bX11_byOffer_29.2.2.2.2.2.2.2.2.2.2.2.2.1
def dX11_byOffer_54 := bX11_byOffer_29.2.2.2.2.2.2.2.2.2.2.2.2.2.1
def dX11_byOffer_55 := bX11_byOffer_29.2.2.2.2.2.2.2.2.2.2.2.2.2.2.1
def dX11_byOffer_56 := bX11_byOffer_29.2.2.2.2.2.2.2.2.2.2.2.2.2.2.2
theorem bX11_byOffer_57 : decode cX11_byOffer 57 = .ok (.aload_n 0, 1) ∧ decode cX11_byOffer 58 = .ok (.invokevirtual 225, 3) ∧ decode cX11_byOffer 61 = .ok (.iload_n 2, 1) ∧ decode cX11_byOffer 62 = .ok (.ireturn, 1) := by decide +kernel
def dX11_byOffer_57 := bX11_byOffer_57.1
def dX11_byOffer_58 := bX11_byOffer_57.2.1
def dX11_byOffer_61 := bX11_byOffer_57.2.2.1
def dX11_byOffer_62 := bX11_byOffer_57.2.2.2
theorem ggX11_nearest_X11_in : GoodIn wsX11_nearest wsX11_in := gW_in gwX11_in (fun _ h => List.mem_cons_of_mem _ (List.mem_append_right _ (List.mem_append_right _ (List.mem_append_left _ h))))
set_option maxRecDepth 20000 in
theorem gX11_nearest_X11_in : GoodIn wsX11_nearest (va_wsS RX11 119 yX11_in wsX11_in) := goodIn_app (goodIn_of _ (by decide +kernel)) ggX11_nearest_X11_in
theorem ggX11_nearest_X11_bad : GoodIn wsX11_nearest wsX11_bad := gW_in gwX11_bad (fun _ h => List.mem_cons_of_mem _ (List.mem_append_right _ (List.mem_append_right _ (List.mem_append_right _ (List.mem_append_left _ h)))))
set_option maxRecDepth 20000 in
theorem gX11_nearest_X11_bad : GoodIn wsX11_nearest (wsV RX11 151 RX11 yX11_bad wsX11_bad) := goodIn_app (goodIn_of _ (by decide +kernel)) ggX11_nearest_X11_bad
theorem ggX11_nearest_X11_wantsFor : GoodIn wsX11_nearest wsX11_wantsFor := gW_in gwX11_wantsFor (fun _ h => List.mem_cons_of_mem _ (List.mem_append_right _ (List.mem_append_right _ (List.mem_append_right _ (List.mem_append_right _ (h))))))
set_option maxRecDepth 20000 in
theorem gX11_nearest_X11_wantsFor : GoodIn wsX11_nearest (wsV RX11 180 RX11 yX11_wantsFor wsX11_wantsFor) := goodIn_app (goodIn_of _ (by decide +kernel)) ggX11_nearest_X11_wantsFor
theorem bX11_nearest_0 : decode cX11_nearest 0 = .ok (.aload_n 0, 1) ∧ decode cX11_nearest 1 = .ok (.iconst 0, 1) ∧ decode cX11_nearest 2 = .ok (.putfield 85, 3) ∧ decode cX11_nearest 5 = .ok (.aload_n 0, 1) ∧ decode cX11_nearest 6 = .ok (.iload_n 1, 1) ∧ decode cX11_nearest 7 = .ok (.iconst 0, 1) ∧ decode cX11_nearest 8 = .ok (.sipush 9999, 3) ∧ decode cX11_nearest 11 = .ok (.invokestatic 119, 3) ∧ decode cX11_nearest 14 = .ok (.ifCond .eq 13, 3) ∧ decode cX11_nearest 17 = .ok (.iload_n 2, 1) ∧ decode cX11_nearest 18 = .ok (.iconst 0, 1) ∧ decode cX11_nearest 19 = .ok (.bipush 99, 2) ∧ decode cX11_nearest 21 = .ok (.invokestatic 119, 3) ∧ decode cX11_nearest 24 = .ok (.ifCond .ne 7, 3) ∧ decode cX11_nearest 27 = .ok (.iconst 1, 1) ∧ decode cX11_nearest 28 = .ok (.goto 4, 3) := by decide +kernel
def dX11_nearest_0 := bX11_nearest_0.1
def dX11_nearest_1 := bX11_nearest_0.2.1
def dX11_nearest_2 := bX11_nearest_0.2.2.1
def dX11_nearest_5 := bX11_nearest_0.2.2.2.1
def dX11_nearest_6 := bX11_nearest_0.2.2.2.2.1
def dX11_nearest_7 := bX11_nearest_0.2.2.2.2.2.1
def dX11_nearest_8 := bX11_nearest_0.2.2.2.2.2.2.1
def dX11_nearest_11 := bX11_nearest_0.2.2.2.2.2.2.2.1
def dX11_nearest_14 := bX11_nearest_0.2.2.2.2.2.2.2.2.1
def dX11_nearest_17 := bX11_nearest_0.2.2.2.2.2.2.2.2.2.1
def dX11_nearest_18 := bX11_nearest_0.2.2.2.2.2.2.2.2.2.2.1
def dX11_nearest_19 := bX11_nearest_0.2.2.2.2.2.2.2.2.2.2.2.1
def dX11_nearest_21 := bX11_nearest_0.2.2.2.2.2.2.2.2.2.2.2.2.1
def dX11_nearest_24 := bX11_nearest_0.2.2.2.2.2.2.2.2.2.2.2.2.2.1
def dX11_nearest_27 := bX11_nearest_0.2.2.2.2.2.2.2.2.2.2.2.2.2.2.1
def dX11_nearest_28 := bX11_nearest_0.2.2.2.2.2.2.2.2.2.2.2.2.2.2.2
theorem bX11_nearest_31 : decode cX11_nearest 31 = .ok (.iconst 0, 1) ∧ decode cX11_nearest 32 = .ok (.iconst 1, 1) ∧ decode cX11_nearest 33 = .ok (.iconst 2, 1) ∧ decode cX11_nearest 34 = .ok (.invokevirtual 151, 3) ∧ decode cX11_nearest 37 = .ok (.ifCond .eq 5, 3) ∧ decode cX11_nearest 40 = .ok (.iconst 0, 1) ∧ decode cX11_nearest 41 = .ok (.ireturn, 1) ∧ decode cX11_nearest 42 = .ok (.iconst 0, 1) ∧ decode cX11_nearest 43 = .ok (.istore_n 3, 1) ∧ decode cX11_nearest 44 = .ok (.iload_n 3, 1) ∧ decode cX11_nearest 45 = .ok (.bipush 10, 2) ∧ decode cX11_nearest 47 = .ok (.if_icmp .ge 21, 3) ∧ decode cX11_nearest 50 = .ok (.aload_n 0, 1) ∧ decode cX11_nearest 51 = .ok (.iload_n 3, 1) ∧ decode cX11_nearest 52 = .ok (.iload_n 2, 1) ∧ decode cX11_nearest 53 = .ok (.invokevirtual 180, 3) := by decide +kernel
def dX11_nearest_31 := bX11_nearest_31.1
def dX11_nearest_32 := bX11_nearest_31.2.1
def dX11_nearest_33 := bX11_nearest_31.2.2.1
def dX11_nearest_34 := bX11_nearest_31.2.2.2.1
def dX11_nearest_37 := bX11_nearest_31.2.2.2.2.1
def dX11_nearest_40 := bX11_nearest_31.2.2.2.2.2.1
def dX11_nearest_41 := bX11_nearest_31.2.2.2.2.2.2.1
def dX11_nearest_42 := bX11_nearest_31.2.2.2.2.2.2.2.1
def dX11_nearest_43 := bX11_nearest_31.2.2.2.2.2.2.2.2.1
def dX11_nearest_44 := bX11_nearest_31.2.2.2.2.2.2.2.2.2.1
def dX11_nearest_45 := bX11_nearest_31.2.2.2.2.2.2.2.2.2.2.1
def dX11_nearest_47 := bX11_nearest_31.2.2.2.2.2.2.2.2.2.2.2.1
def dX11_nearest_50 := bX11_nearest_31.2.2.2.2.2.2.2.2.2.2.2.2.1
def dX11_nearest_51 := bX11_nearest_31.2.2.2.2.2.2.2.2.2.2.2.2.2.1
def dX11_nearest_52 := bX11_nearest_31.2.2.2.2.2.2.2.2.2.2.2.2.2.2.1
def dX11_nearest_53 := bX11_nearest_31.2.2.2.2.2.2.2.2.2.2.2.2.2.2.2
theorem bX11_nearest_56 : decode cX11_nearest 56 = .ok (.iload_n 1, 1) ∧ decode cX11_nearest 57 = .ok (.if_icmp .gt 5, 3) ∧ decode cX11_nearest 60 = .ok (.iload_n 3, 1) ∧ decode cX11_nearest 61 = .ok (.ireturn, 1) ∧ decode cX11_nearest 62 = .ok (.iinc 3 1, 3) ∧ decode cX11_nearest 65 = .ok (.goto (-21), 3) ∧ decode cX11_nearest 68 = .ok (.iconst (-1), 1) ∧ decode cX11_nearest 69 = .ok (.ireturn, 1) := by decide +kernel
def dX11_nearest_56 := bX11_nearest_56.1
def dX11_nearest_57 := bX11_nearest_56.2.1
def dX11_nearest_60 := bX11_nearest_56.2.2.1
def dX11_nearest_61 := bX11_nearest_56.2.2.2.1
def dX11_nearest_62 := bX11_nearest_56.2.2.2.2.1
def dX11_nearest_65 := bX11_nearest_56.2.2.2.2.2.1
def dX11_nearest_68 := bX11_nearest_56.2.2.2.2.2.2.1
def dX11_nearest_69 := bX11_nearest_56.2.2.2.2.2.2.2
theorem ggX11_stop_X11_areMonths : GoodIn wsX11_stop wsX11_areMonths := gW_in gwX11_areMonths (fun _ h => List.mem_cons_of_mem _ (List.mem_append_right _ (List.mem_append_right _ (List.mem_append_left _ h))))
set_option maxRecDepth 20000 in
theorem gX11_stop_X11_areMonths : GoodIn wsX11_stop (va_wsS RX11 228 yX11_areMonths wsX11_areMonths) := goodIn_app (goodIn_of _ (by decide +kernel)) ggX11_stop_X11_areMonths
theorem ggX11_stop_X11_in : GoodIn wsX11_stop wsX11_in := gW_in gwX11_in (fun _ h => List.mem_cons_of_mem _ (List.mem_append_right _ (List.mem_append_right _ (List.mem_append_right _ (List.mem_append_left _ h)))))
set_option maxRecDepth 20000 in
theorem gX11_stop_X11_in : GoodIn wsX11_stop (va_wsS RX11 119 yX11_in wsX11_in) := goodIn_app (goodIn_of _ (by decide +kernel)) ggX11_stop_X11_in
theorem ggX11_stop_X11_bad : GoodIn wsX11_stop wsX11_bad := gW_in gwX11_bad (fun _ h => List.mem_cons_of_mem _ (List.mem_append_right _ (List.mem_append_right _ (List.mem_append_right _ (List.mem_append_right _ (List.mem_append_left _ h))))))
set_option maxRecDepth 20000 in
theorem gX11_stop_X11_bad : GoodIn wsX11_stop (wsV RX11 151 RX11 yX11_bad wsX11_bad) := goodIn_app (goodIn_of _ (by decide +kernel)) ggX11_stop_X11_bad
theorem ggX11_stop_X11_puts : GoodIn wsX11_stop wsX11_puts := gW_in gwX11_puts (fun _ h => List.mem_cons_of_mem _ (List.mem_append_right _ (List.mem_append_right _ (List.mem_append_right _ (List.mem_append_right _ (List.mem_append_right _ (List.mem_append_left _ h)))))))
set_option maxRecDepth 20000 in
theorem gX11_stop_X11_puts : GoodIn wsX11_stop (wsV RX11 219 RX11 yX11_puts wsX11_puts) := goodIn_app (goodIn_of _ (by decide +kernel)) ggX11_stop_X11_puts
theorem ggX11_stop_X11_goesOn : GoodIn wsX11_stop wsX11_goesOn := gW_in gwX11_goesOn (fun _ h => List.mem_cons_of_mem _ (List.mem_append_right _ (List.mem_append_right _ (List.mem_append_right _ (List.mem_append_right _ (List.mem_append_right _ (List.mem_append_right _ (List.mem_append_left _ h))))))))
set_option maxRecDepth 20000 in
theorem gX11_stop_X11_goesOn : GoodIn wsX11_stop (wsV RX11 222 RX11 yX11_goesOn wsX11_goesOn) := goodIn_app (goodIn_of _ (by decide +kernel)) ggX11_stop_X11_goesOn
theorem ggX11_stop_X11_signs : GoodIn wsX11_stop wsX11_signs := gW_in gwX11_signs (fun _ h => List.mem_cons_of_mem _ (List.mem_append_right _ (List.mem_append_right _ (List.mem_append_right _ (List.mem_append_right _ (List.mem_append_right _ (List.mem_append_right _ (List.mem_append_right _ (List.mem_append_left _ h)))))))))
set_option maxRecDepth 20000 in
theorem gX11_stop_X11_signs : GoodIn wsX11_stop (wsV RX11 183 RX11 yX11_signs wsX11_signs) := goodIn_app (goodIn_of _ (by decide +kernel)) ggX11_stop_X11_signs
theorem ggX11_stop_X11_takes : GoodIn wsX11_stop wsX11_takes := gW_in gwX11_takes (fun _ h => List.mem_cons_of_mem _ (List.mem_append_right _ (List.mem_append_right _ (List.mem_append_right _ (List.mem_append_right _ (List.mem_append_right _ (List.mem_append_right _ (List.mem_append_right _ (List.mem_append_right _ (h))))))))))
set_option maxRecDepth 20000 in
theorem gX11_stop_X11_takes : GoodIn wsX11_stop (wsV RX11 225 RX11 yX11_takes wsX11_takes) := goodIn_app (goodIn_of _ (by decide +kernel)) ggX11_stop_X11_takes
theorem bX11_stop_0 : decode cX11_stop 0 = .ok (.aload_n 0, 1) ∧ decode cX11_stop 1 = .ok (.iconst 0, 1) ∧ decode cX11_stop 2 = .ok (.putfield 85, 3) ∧ decode cX11_stop 5 = .ok (.aload_n 0, 1) ∧ decode cX11_stop 6 = .ok (.iload_n 1, 1) ∧ decode cX11_stop 7 = .ok (.invokestatic 228, 3) ∧ decode cX11_stop 10 = .ok (.ifCond .eq 12, 3) ∧ decode cX11_stop 13 = .ok (.iload_n 2, 1) ∧ decode cX11_stop 14 = .ok (.iconst 0, 1) ∧ decode cX11_stop 15 = .ok (.iconst 1, 1) ∧ decode cX11_stop 16 = .ok (.invokestatic 119, 3) ∧ decode cX11_stop 19 = .ok (.ifCond .ne 7, 3) ∧ decode cX11_stop 22 = .ok (.iconst 1, 1) ∧ decode cX11_stop 23 = .ok (.goto 4, 3) ∧ decode cX11_stop 26 = .ok (.iconst 0, 1) ∧ decode cX11_stop 27 = .ok (.iconst 1, 1) := by decide +kernel
def dX11_stop_0 := bX11_stop_0.1
def dX11_stop_1 := bX11_stop_0.2.1
def dX11_stop_2 := bX11_stop_0.2.2.1
def dX11_stop_5 := bX11_stop_0.2.2.2.1
def dX11_stop_6 := bX11_stop_0.2.2.2.2.1
def dX11_stop_7 := bX11_stop_0.2.2.2.2.2.1
def dX11_stop_10 := bX11_stop_0.2.2.2.2.2.2.1
def dX11_stop_13 := bX11_stop_0.2.2.2.2.2.2.2.1
def dX11_stop_14 := bX11_stop_0.2.2.2.2.2.2.2.2.1
def dX11_stop_15 := bX11_stop_0.2.2.2.2.2.2.2.2.2.1
def dX11_stop_16 := bX11_stop_0.2.2.2.2.2.2.2.2.2.2.1
def dX11_stop_19 := bX11_stop_0.2.2.2.2.2.2.2.2.2.2.2.1
def dX11_stop_22 := bX11_stop_0.2.2.2.2.2.2.2.2.2.2.2.2.1
def dX11_stop_23 := bX11_stop_0.2.2.2.2.2.2.2.2.2.2.2.2.2.1
def dX11_stop_26 := bX11_stop_0.2.2.2.2.2.2.2.2.2.2.2.2.2.2.1
def dX11_stop_27 := bX11_stop_0.2.2.2.2.2.2.2.2.2.2.2.2.2.2.2
theorem bX11_stop_28 : decode cX11_stop 28 = .ok (.iconst 2, 1) ∧ decode cX11_stop 29 = .ok (.invokevirtual 151, 3) ∧ decode cX11_stop 32 = .ok (.ifCond .eq 5, 3) ∧ decode cX11_stop 35 = .ok (.iconst 0, 1) ∧ decode cX11_stop 36 = .ok (.ireturn, 1) ∧ decode cX11_stop 37 = .ok (.iconst 0, 1) ∧ decode cX11_stop 38 = .ok (.istore_n 3, 1) ∧ decode cX11_stop 39 = .ok (.iconst (-1), 1) ∧ decode cX11_stop 40 = .ok (.istore 4, 2) ∧ decode cX11_stop 42 = .ok (.iconst 0, 1) ∧ decode cX11_stop 43 = .ok (.istore 5, 2) ∧ decode cX11_stop 45 = .ok (.iload 5, 2) ∧ decode cX11_stop 47 = .ok (.iload_n 1, 1) ∧ decode cX11_stop 48 = .ok (.if_icmp .gt 61, 3) ∧ decode cX11_stop 51 = .ok (.aload_n 0, 1) ∧ decode cX11_stop 52 = .ok (.invokevirtual 219, 3) := by decide +kernel
def dX11_stop_28 := bX11_stop_28.1
def dX11_stop_29 := bX11_stop_28.2.1
def dX11_stop_32 := bX11_stop_28.2.2.1
def dX11_stop_35 := bX11_stop_28.2.2.2.1
def dX11_stop_36 := bX11_stop_28.2.2.2.2.1
def dX11_stop_37 := bX11_stop_28.2.2.2.2.2.1
def dX11_stop_38 := bX11_stop_28.2.2.2.2.2.2.1
def dX11_stop_39 := bX11_stop_28.2.2.2.2.2.2.2.1
def dX11_stop_40 := bX11_stop_28.2.2.2.2.2.2.2.2.1
def dX11_stop_42 := bX11_stop_28.2.2.2.2.2.2.2.2.2.1
def dX11_stop_43 := bX11_stop_28.2.2.2.2.2.2.2.2.2.2.1
def dX11_stop_45 := bX11_stop_28.2.2.2.2.2.2.2.2.2.2.2.1
def dX11_stop_47 := bX11_stop_28.2.2.2.2.2.2.2.2.2.2.2.2.1
def dX11_stop_48 := bX11_stop_28.2.2.2.2.2.2.2.2.2.2.2.2.2.1
def dX11_stop_51 := bX11_stop_28.2.2.2.2.2.2.2.2.2.2.2.2.2.2.1
def dX11_stop_52 := bX11_stop_28.2.2.2.2.2.2.2.2.2.2.2.2.2.2.2
theorem bX11_stop_55 : decode cX11_stop 55 = .ok (.aload_n 0, 1) ∧ decode cX11_stop 56 = .ok (.iload 5, 2) ∧ decode cX11_stop 58 = .ok (.invokevirtual 222, 3) ∧ decode cX11_stop 61 = .ok (.aload_n 0, 1) ∧ decode cX11_stop 62 = .ok (.iconst (-1), 1) ∧ decode cX11_stop 63 = .ok (.invokevirtual 183, 3) ∧ decode cX11_stop 66 = .ok (.aload_n 0, 1) ∧ decode cX11_stop 67 = .ok (.iload_n 1, 1) ∧ decode cX11_stop 68 = .ok (.iload 5, 2) ∧ decode cX11_stop 70 = .ok (.isub, 1) ∧ decode cX11_stop 71 = .ok (.invokevirtual 222, 3) ∧ decode cX11_stop 74 = .ok (.aload_n 0, 1) ∧ decode cX11_stop 75 = .ok (.getfield 46, 3) ∧ decode cX11_stop 78 = .ok (.iconst 0, 1) ∧ decode cX11_stop 79 = .ok (.iaload, 1) ∧ decode cX11_stop 80 = .ok (.istore 6, 2) := by decide +kernel
def dX11_stop_55 := bX11_stop_55.1
def dX11_stop_56 := bX11_stop_55.2.1
def dX11_stop_58 := bX11_stop_55.2.2.1
def dX11_stop_61 := bX11_stop_55.2.2.2.1
def dX11_stop_62 := bX11_stop_55.2.2.2.2.1
def dX11_stop_63 := bX11_stop_55.2.2.2.2.2.1
def dX11_stop_66 := bX11_stop_55.2.2.2.2.2.2.1
def dX11_stop_67 := bX11_stop_55.2.2.2.2.2.2.2.1
def dX11_stop_68 := bX11_stop_55.2.2.2.2.2.2.2.2.1
def dX11_stop_70 := bX11_stop_55.2.2.2.2.2.2.2.2.2.1
def dX11_stop_71 := bX11_stop_55.2.2.2.2.2.2.2.2.2.2.1
def dX11_stop_74 := bX11_stop_55.2.2.2.2.2.2.2.2.2.2.2.1
def dX11_stop_75 := bX11_stop_55.2.2.2.2.2.2.2.2.2.2.2.2.1
def dX11_stop_78 := bX11_stop_55.2.2.2.2.2.2.2.2.2.2.2.2.2.1
def dX11_stop_79 := bX11_stop_55.2.2.2.2.2.2.2.2.2.2.2.2.2.2.1
def dX11_stop_80 := bX11_stop_55.2.2.2.2.2.2.2.2.2.2.2.2.2.2.2
theorem bX11_stop_82 : decode cX11_stop 82 = .ok (.aload_n 0, 1) ∧ decode cX11_stop 83 = .ok (.invokevirtual 225, 3) ∧ decode cX11_stop 86 = .ok (.iload 6, 2) ∧ decode cX11_stop 88 = .ok (.iload 4, 2) ∧ decode cX11_stop 90 = .ok (.if_icmp .gt 6, 3) ∧ decode cX11_stop 93 = .ok (.goto 10, 3) ∧ decode cX11_stop 96 = .ok (.iload 5, 2) ∧ decode cX11_stop 98 = .ok (.istore_n 3, 1) ∧ decode cX11_stop 99 = .ok (.iload 6, 2) ∧ decode cX11_stop 101 = .ok (.istore 4, 2) ∧ decode cX11_stop 103 = .ok (.iinc 5 1, 3) ∧ decode cX11_stop 106 = .ok (.goto (-61), 3) ∧ decode cX11_stop 109 = .ok (.iload_n 2, 1) ∧ decode cX11_stop 110 = .ok (.ifCond .ne 7, 3) ∧ decode cX11_stop 113 = .ok (.iload_n 3, 1) ∧ decode cX11_stop 114 = .ok (.goto 5, 3) := by decide +kernel
def dX11_stop_82 := bX11_stop_82.1
def dX11_stop_83 := bX11_stop_82.2.1
def dX11_stop_86 := bX11_stop_82.2.2.1
def dX11_stop_88 := bX11_stop_82.2.2.2.1
def dX11_stop_90 := bX11_stop_82.2.2.2.2.1
def dX11_stop_93 := bX11_stop_82.2.2.2.2.2.1
def dX11_stop_96 := bX11_stop_82.2.2.2.2.2.2.1
def dX11_stop_98 := bX11_stop_82.2.2.2.2.2.2.2.1
def dX11_stop_99 := bX11_stop_82.2.2.2.2.2.2.2.2.1
def dX11_stop_101 := bX11_stop_82.2.2.2.2.2.2.2.2.2.1
def dX11_stop_103 := bX11_stop_82.2.2.2.2.2.2.2.2.2.2.1
def dX11_stop_106 := bX11_stop_82.2.2.2.2.2.2.2.2.2.2.2.1
def dX11_stop_109 := bX11_stop_82.2.2.2.2.2.2.2.2.2.2.2.2.1
def dX11_stop_110 := bX11_stop_82.2.2.2.2.2.2.2.2.2.2.2.2.2.1
def dX11_stop_113 := bX11_stop_82.2.2.2.2.2.2.2.2.2.2.2.2.2.2.1
def dX11_stop_114 := bX11_stop_82.2.2.2.2.2.2.2.2.2.2.2.2.2.2.2
theorem bX11_stop_117 : decode cX11_stop 117 = .ok (.iload 4, 2) ∧ decode cX11_stop 119 = .ok (.ireturn, 1) := by decide +kernel
def dX11_stop_117 := bX11_stop_117.1
def dX11_stop_119 := bX11_stop_117.2
theorem ggX11_odds_X11_in : GoodIn wsX11_odds wsX11_in := gW_in gwX11_in (fun _ h => List.mem_cons_of_mem _ (List.mem_append_right _ (List.mem_append_right _ (List.mem_append_left _ h))))
set_option maxRecDepth 20000 in
theorem gX11_odds_X11_in : GoodIn wsX11_odds (va_wsS RX11 119 yX11_in wsX11_in) := goodIn_app (goodIn_of _ (by decide +kernel)) ggX11_odds_X11_in
theorem ggX11_odds_X11_bad : GoodIn wsX11_odds wsX11_bad := gW_in gwX11_bad (fun _ h => List.mem_cons_of_mem _ (List.mem_append_right _ (List.mem_append_right _ (List.mem_append_right _ (h)))))
set_option maxRecDepth 20000 in
theorem gX11_odds_X11_bad : GoodIn wsX11_odds (wsV RX11 151 RX11 yX11_bad wsX11_bad) := goodIn_app (goodIn_of _ (by decide +kernel)) ggX11_odds_X11_bad
theorem bX11_odds_0 : decode cX11_odds 0 = .ok (.aload_n 0, 1) ∧ decode cX11_odds 1 = .ok (.iconst 0, 1) ∧ decode cX11_odds 2 = .ok (.putfield 85, 3) ∧ decode cX11_odds 5 = .ok (.aload_n 0, 1) ∧ decode cX11_odds 6 = .ok (.iload_n 1, 1) ∧ decode cX11_odds 7 = .ok (.iconst 1, 1) ∧ decode cX11_odds 8 = .ok (.bipush 99, 2) ∧ decode cX11_odds 10 = .ok (.invokestatic 119, 3) ∧ decode cX11_odds 13 = .ok (.ifCond .eq 13, 3) ∧ decode cX11_odds 16 = .ok (.iload_n 2, 1) ∧ decode cX11_odds 17 = .ok (.iconst 1, 1) ∧ decode cX11_odds 18 = .ok (.bipush 99, 2) ∧ decode cX11_odds 20 = .ok (.invokestatic 119, 3) ∧ decode cX11_odds 23 = .ok (.ifCond .ne 7, 3) ∧ decode cX11_odds 26 = .ok (.iconst 1, 1) ∧ decode cX11_odds 27 = .ok (.goto 4, 3) := by decide +kernel
def dX11_odds_0 := bX11_odds_0.1
def dX11_odds_1 := bX11_odds_0.2.1
def dX11_odds_2 := bX11_odds_0.2.2.1
def dX11_odds_5 := bX11_odds_0.2.2.2.1
def dX11_odds_6 := bX11_odds_0.2.2.2.2.1
def dX11_odds_7 := bX11_odds_0.2.2.2.2.2.1
def dX11_odds_8 := bX11_odds_0.2.2.2.2.2.2.1
def dX11_odds_10 := bX11_odds_0.2.2.2.2.2.2.2.1
def dX11_odds_13 := bX11_odds_0.2.2.2.2.2.2.2.2.1
def dX11_odds_16 := bX11_odds_0.2.2.2.2.2.2.2.2.2.1
def dX11_odds_17 := bX11_odds_0.2.2.2.2.2.2.2.2.2.2.1
def dX11_odds_18 := bX11_odds_0.2.2.2.2.2.2.2.2.2.2.2.1
def dX11_odds_20 := bX11_odds_0.2.2.2.2.2.2.2.2.2.2.2.2.1
def dX11_odds_23 := bX11_odds_0.2.2.2.2.2.2.2.2.2.2.2.2.2.1
def dX11_odds_26 := bX11_odds_0.2.2.2.2.2.2.2.2.2.2.2.2.2.2.1
def dX11_odds_27 := bX11_odds_0.2.2.2.2.2.2.2.2.2.2.2.2.2.2.2
theorem bX11_odds_30 : decode cX11_odds 30 = .ok (.iconst 0, 1) ∧ decode cX11_odds 31 = .ok (.iconst 1, 1) ∧ decode cX11_odds 32 = .ok (.iconst 2, 1) ∧ decode cX11_odds 33 = .ok (.invokevirtual 151, 3) ∧ decode cX11_odds 36 = .ok (.ifCond .eq 4, 3) ∧ decode cX11_odds 39 = .ok (.return_, 1) ∧ decode cX11_odds 40 = .ok (.aload_n 0, 1) ∧ decode cX11_odds 41 = .ok (.iload_n 1, 1) ∧ decode cX11_odds 42 = .ok (.putfield 58, 3) ∧ decode cX11_odds 45 = .ok (.aload_n 0, 1) ∧ decode cX11_odds 46 = .ok (.iload_n 2, 1) ∧ decode cX11_odds 47 = .ok (.putfield 61, 3) ∧ decode cX11_odds 50 = .ok (.aload_n 0, 1) ∧ decode cX11_odds 51 = .ok (.iconst 0, 1) ∧ decode cX11_odds 52 = .ok (.putfield 165, 3) ∧ decode cX11_odds 55 = .ok (.return_, 1) := by decide +kernel
def dX11_odds_30 := bX11_odds_30.1
def dX11_odds_31 := bX11_odds_30.2.1
def dX11_odds_32 := bX11_odds_30.2.2.1
def dX11_odds_33 := bX11_odds_30.2.2.2.1
def dX11_odds_36 := bX11_odds_30.2.2.2.2.1
def dX11_odds_39 := bX11_odds_30.2.2.2.2.2.1
def dX11_odds_40 := bX11_odds_30.2.2.2.2.2.2.1
def dX11_odds_41 := bX11_odds_30.2.2.2.2.2.2.2.1
def dX11_odds_42 := bX11_odds_30.2.2.2.2.2.2.2.2.1
def dX11_odds_45 := bX11_odds_30.2.2.2.2.2.2.2.2.2.1
def dX11_odds_46 := bX11_odds_30.2.2.2.2.2.2.2.2.2.2.1
def dX11_odds_47 := bX11_odds_30.2.2.2.2.2.2.2.2.2.2.2.1
def dX11_odds_50 := bX11_odds_30.2.2.2.2.2.2.2.2.2.2.2.2.1
def dX11_odds_51 := bX11_odds_30.2.2.2.2.2.2.2.2.2.2.2.2.2.1
def dX11_odds_52 := bX11_odds_30.2.2.2.2.2.2.2.2.2.2.2.2.2.2.1
def dX11_odds_55 := bX11_odds_30.2.2.2.2.2.2.2.2.2.2.2.2.2.2.2
theorem ggX11_kind_X11_in : GoodIn wsX11_kind wsX11_in := gW_in gwX11_in (fun _ h => List.mem_cons_of_mem _ (List.mem_append_right _ (List.mem_append_right _ (List.mem_append_left _ h))))
set_option maxRecDepth 20000 in
theorem gX11_kind_X11_in : GoodIn wsX11_kind (va_wsS RX11 119 yX11_in wsX11_in) := goodIn_app (goodIn_of _ (by decide +kernel)) ggX11_kind_X11_in
theorem ggX11_kind_X11_bad : GoodIn wsX11_kind wsX11_bad := gW_in gwX11_bad (fun _ h => List.mem_cons_of_mem _ (List.mem_append_right _ (List.mem_append_right _ (List.mem_append_right _ (h)))))
set_option maxRecDepth 20000 in
theorem gX11_kind_X11_bad : GoodIn wsX11_kind (wsV RX11 151 RX11 yX11_bad wsX11_bad) := goodIn_app (goodIn_of _ (by decide +kernel)) ggX11_kind_X11_bad
theorem bX11_kind_0 : decode cX11_kind 0 = .ok (.aload_n 0, 1) ∧ decode cX11_kind 1 = .ok (.iconst 0, 1) ∧ decode cX11_kind 2 = .ok (.putfield 85, 3) ∧ decode cX11_kind 5 = .ok (.aload_n 0, 1) ∧ decode cX11_kind 6 = .ok (.iload_n 1, 1) ∧ decode cX11_kind 7 = .ok (.iconst 0, 1) ∧ decode cX11_kind 8 = .ok (.iconst 3, 1) ∧ decode cX11_kind 9 = .ok (.invokestatic 119, 3) ∧ decode cX11_kind 12 = .ok (.ifCond .eq 23, 3) ∧ decode cX11_kind 15 = .ok (.iload_n 2, 1) ∧ decode cX11_kind 16 = .ok (.iconst 1, 1) ∧ decode cX11_kind 17 = .ok (.bipush 16, 2) ∧ decode cX11_kind 19 = .ok (.invokestatic 119, 3) ∧ decode cX11_kind 22 = .ok (.ifCond .eq 13, 3) ∧ decode cX11_kind 25 = .ok (.iload_n 3, 1) ∧ decode cX11_kind 26 = .ok (.iconst 1, 1) := by decide +kernel
def dX11_kind_0 := bX11_kind_0.1
def dX11_kind_1 := bX11_kind_0.2.1
def dX11_kind_2 := bX11_kind_0.2.2.1
def dX11_kind_5 := bX11_kind_0.2.2.2.1
def dX11_kind_6 := bX11_kind_0.2.2.2.2.1
def dX11_kind_7 := bX11_kind_0.2.2.2.2.2.1
def dX11_kind_8 := bX11_kind_0.2.2.2.2.2.2.1
def dX11_kind_9 := bX11_kind_0.2.2.2.2.2.2.2.1
def dX11_kind_12 := bX11_kind_0.2.2.2.2.2.2.2.2.1
def dX11_kind_15 := bX11_kind_0.2.2.2.2.2.2.2.2.2.1
def dX11_kind_16 := bX11_kind_0.2.2.2.2.2.2.2.2.2.2.1
def dX11_kind_17 := bX11_kind_0.2.2.2.2.2.2.2.2.2.2.2.1
def dX11_kind_19 := bX11_kind_0.2.2.2.2.2.2.2.2.2.2.2.2.1
def dX11_kind_22 := bX11_kind_0.2.2.2.2.2.2.2.2.2.2.2.2.2.1
def dX11_kind_25 := bX11_kind_0.2.2.2.2.2.2.2.2.2.2.2.2.2.2.1
def dX11_kind_26 := bX11_kind_0.2.2.2.2.2.2.2.2.2.2.2.2.2.2.2
theorem bX11_kind_27 : decode cX11_kind 27 = .ok (.bipush 16, 2) ∧ decode cX11_kind 29 = .ok (.invokestatic 119, 3) ∧ decode cX11_kind 32 = .ok (.ifCond .ne 7, 3) ∧ decode cX11_kind 35 = .ok (.iconst 1, 1) ∧ decode cX11_kind 36 = .ok (.goto 4, 3) ∧ decode cX11_kind 39 = .ok (.iconst 0, 1) ∧ decode cX11_kind 40 = .ok (.iconst 1, 1) ∧ decode cX11_kind 41 = .ok (.iconst 2, 1) ∧ decode cX11_kind 42 = .ok (.invokevirtual 151, 3) ∧ decode cX11_kind 45 = .ok (.ifCond .eq 4, 3) ∧ decode cX11_kind 48 = .ok (.return_, 1) ∧ decode cX11_kind 49 = .ok (.aload_n 0, 1) ∧ decode cX11_kind 50 = .ok (.getfield 64, 3) ∧ decode cX11_kind 53 = .ok (.iload_n 1, 1) ∧ decode cX11_kind 54 = .ok (.aaload, 1) ∧ decode cX11_kind 55 = .ok (.iconst 0, 1) := by decide +kernel
def dX11_kind_27 := bX11_kind_27.1
def dX11_kind_29 := bX11_kind_27.2.1
def dX11_kind_32 := bX11_kind_27.2.2.1
def dX11_kind_35 := bX11_kind_27.2.2.2.1
def dX11_kind_36 := bX11_kind_27.2.2.2.2.1
def dX11_kind_39 := bX11_kind_27.2.2.2.2.2.1
def dX11_kind_40 := bX11_kind_27.2.2.2.2.2.2.1
def dX11_kind_41 := bX11_kind_27.2.2.2.2.2.2.2.1
def dX11_kind_42 := bX11_kind_27.2.2.2.2.2.2.2.2.1
def dX11_kind_45 := bX11_kind_27.2.2.2.2.2.2.2.2.2.1
def dX11_kind_48 := bX11_kind_27.2.2.2.2.2.2.2.2.2.2.1
def dX11_kind_49 := bX11_kind_27.2.2.2.2.2.2.2.2.2.2.2.1
def dX11_kind_50 := bX11_kind_27.2.2.2.2.2.2.2.2.2.2.2.2.1
def dX11_kind_53 := bX11_kind_27.2.2.2.2.2.2.2.2.2.2.2.2.2.1
def dX11_kind_54 := bX11_kind_27.2.2.2.2.2.2.2.2.2.2.2.2.2.2.1
def dX11_kind_55 := bX11_kind_27.2.2.2.2.2.2.2.2.2.2.2.2.2.2.2
theorem bX11_kind_56 : decode cX11_kind 56 = .ok (.iload_n 2, 1) ∧ decode cX11_kind 57 = .ok (.iastore, 1) ∧ decode cX11_kind 58 = .ok (.aload_n 0, 1) ∧ decode cX11_kind 59 = .ok (.getfield 64, 3) ∧ decode cX11_kind 62 = .ok (.iload_n 1, 1) ∧ decode cX11_kind 63 = .ok (.aaload, 1) ∧ decode cX11_kind 64 = .ok (.iconst 1, 1) ∧ decode cX11_kind 65 = .ok (.iload_n 3, 1) ∧ decode cX11_kind 66 = .ok (.iastore, 1) ∧ decode cX11_kind 67 = .ok (.return_, 1) := by decide +kernel
def dX11_kind_56 := bX11_kind_56.1
def dX11_kind_57 := bX11_kind_56.2.1
def dX11_kind_58 := bX11_kind_56.2.2.1
def dX11_kind_59 := bX11_kind_56.2.2.2.1
def dX11_kind_62 := bX11_kind_56.2.2.2.2.1
def dX11_kind_63 := bX11_kind_56.2.2.2.2.2.1
def dX11_kind_64 := bX11_kind_56.2.2.2.2.2.2.1
def dX11_kind_65 := bX11_kind_56.2.2.2.2.2.2.2.1
def dX11_kind_66 := bX11_kind_56.2.2.2.2.2.2.2.2.1
def dX11_kind_67 := bX11_kind_56.2.2.2.2.2.2.2.2.2
theorem bX11_isSeen_0 : decode cX11_isSeen 0 = .ok (.aload_n 0, 1) ∧ decode cX11_isSeen 1 = .ok (.getfield 165, 3) ∧ decode cX11_isSeen 4 = .ok (.bipush 12, 2) ∧ decode cX11_isSeen 6 = .ok (.if_icmp .ne 5, 3) ∧ decode cX11_isSeen 9 = .ok (.iconst (-1), 1) ∧ decode cX11_isSeen 10 = .ok (.ireturn, 1) ∧ decode cX11_isSeen 11 = .ok (.aload_n 0, 1) ∧ decode cX11_isSeen 12 = .ok (.getfield 67, 3) ∧ decode cX11_isSeen 15 = .ok (.aload_n 0, 1) ∧ decode cX11_isSeen 16 = .ok (.getfield 165, 3) ∧ decode cX11_isSeen 19 = .ok (.aaload, 1) ∧ decode cX11_isSeen 20 = .ok (.iconst 0, 1) ∧ decode cX11_isSeen 21 = .ok (.iload_n 1, 1) ∧ decode cX11_isSeen 22 = .ok (.iastore, 1) ∧ decode cX11_isSeen 23 = .ok (.aload_n 0, 1) ∧ decode cX11_isSeen 24 = .ok (.getfield 67, 3) := by decide +kernel
def dX11_isSeen_0 := bX11_isSeen_0.1
def dX11_isSeen_1 := bX11_isSeen_0.2.1
def dX11_isSeen_4 := bX11_isSeen_0.2.2.1
def dX11_isSeen_6 := bX11_isSeen_0.2.2.2.1
def dX11_isSeen_9 := bX11_isSeen_0.2.2.2.2.1
def dX11_isSeen_10 := bX11_isSeen_0.2.2.2.2.2.1
def dX11_isSeen_11 := bX11_isSeen_0.2.2.2.2.2.2.1
def dX11_isSeen_12 := bX11_isSeen_0.2.2.2.2.2.2.2.1
def dX11_isSeen_15 := bX11_isSeen_0.2.2.2.2.2.2.2.2.1
def dX11_isSeen_16 := bX11_isSeen_0.2.2.2.2.2.2.2.2.2.1
def dX11_isSeen_19 := bX11_isSeen_0.2.2.2.2.2.2.2.2.2.2.1
def dX11_isSeen_20 := bX11_isSeen_0.2.2.2.2.2.2.2.2.2.2.2.1
def dX11_isSeen_21 := bX11_isSeen_0.2.2.2.2.2.2.2.2.2.2.2.2.1
def dX11_isSeen_22 := bX11_isSeen_0.2.2.2.2.2.2.2.2.2.2.2.2.2.1
def dX11_isSeen_23 := bX11_isSeen_0.2.2.2.2.2.2.2.2.2.2.2.2.2.2.1
def dX11_isSeen_24 := bX11_isSeen_0.2.2.2.2.2.2.2.2.2.2.2.2.2.2.2
theorem bX11_isSeen_27 : decode cX11_isSeen 27 = .ok (.aload_n 0, 1) ∧ decode cX11_isSeen 28 = .ok (.getfield 165, 3) ∧ decode cX11_isSeen 31 = .ok (.aaload, 1) ∧ decode cX11_isSeen 32 = .ok (.iconst 1, 1) ∧ decode cX11_isSeen 33 = .ok (.iload_n 2, 1) ∧ decode cX11_isSeen 34 = .ok (.iastore, 1) ∧ decode cX11_isSeen 35 = .ok (.aload_n 0, 1) ∧ decode cX11_isSeen 36 = .ok (.dup, 1) ∧ decode cX11_isSeen 37 = .ok (.getfield 165, 3) ∧ decode cX11_isSeen 40 = .ok (.iconst 1, 1) ∧ decode cX11_isSeen 41 = .ok (.iadd, 1) ∧ decode cX11_isSeen 42 = .ok (.putfield 165, 3) ∧ decode cX11_isSeen 45 = .ok (.aload_n 0, 1) ∧ decode cX11_isSeen 46 = .ok (.getfield 165, 3) ∧ decode cX11_isSeen 49 = .ok (.ireturn, 1) := by decide +kernel
def dX11_isSeen_27 := bX11_isSeen_27.1
def dX11_isSeen_28 := bX11_isSeen_27.2.1
def dX11_isSeen_31 := bX11_isSeen_27.2.2.1
def dX11_isSeen_32 := bX11_isSeen_27.2.2.2.1
def dX11_isSeen_33 := bX11_isSeen_27.2.2.2.2.1
def dX11_isSeen_34 := bX11_isSeen_27.2.2.2.2.2.1
def dX11_isSeen_35 := bX11_isSeen_27.2.2.2.2.2.2.1
def dX11_isSeen_36 := bX11_isSeen_27.2.2.2.2.2.2.2.1
def dX11_isSeen_37 := bX11_isSeen_27.2.2.2.2.2.2.2.2.1
def dX11_isSeen_40 := bX11_isSeen_27.2.2.2.2.2.2.2.2.2.1
def dX11_isSeen_41 := bX11_isSeen_27.2.2.2.2.2.2.2.2.2.2.1
end
section
def dX11_isSeen_42 := bX11_isSeen_27.2.2.2.2.2.2.2.2.2.2.2.1
def dX11_isSeen_45 := bX11_isSeen_27.2.2.2.2.2.2.2.2.2.2.2.2.1
def dX11_isSeen_46 := bX11_isSeen_27.2.2.2.2.2.2.2.2.2.2.2.2.2.1
def dX11_isSeen_49 := bX11_isSeen_27.2.2.2.2.2.2.2.2.2.2.2.2.2.2
theorem ggX11_seen_X11_in : GoodIn wsX11_seen wsX11_in := gW_in gwX11_in (fun _ h => List.mem_cons_of_mem _ (List.mem_append_right _ (List.mem_append_right _ (List.mem_append_left _ h))))
set_option maxRecDepth 20000 in
theorem gX11_seen_X11_in : GoodIn wsX11_seen (va_wsS RX11 119 yX11_in wsX11_in) := goodIn_app (goodIn_of _ (by decide +kernel)) ggX11_seen_X11_in
theorem ggX11_seen_X11_bad : GoodIn wsX11_seen wsX11_bad := gW_in gwX11_bad (fun _ h => List.mem_cons_of_mem _ (List.mem_append_right _ (List.mem_append_right _ (List.mem_append_right _ (List.mem_append_left _ h)))))
set_option maxRecDepth 20000 in
theorem gX11_seen_X11_bad : GoodIn wsX11_seen (wsV RX11 151 RX11 yX11_bad wsX11_bad) := goodIn_app (goodIn_of _ (by decide +kernel)) ggX11_seen_X11_bad
theorem ggX11_seen_X11_isSeen : GoodIn wsX11_seen wsX11_isSeen := gW_in gwX11_isSeen (fun _ h => List.mem_cons_of_mem _ (List.mem_append_right _ (List.mem_append_right _ (List.mem_append_right _ (List.mem_append_right _ (h))))))
set_option maxRecDepth 20000 in
theorem gX11_seen_X11_isSeen : GoodIn wsX11_seen (wsV RX11 238 RX11 yX11_isSeen wsX11_isSeen) := goodIn_app (goodIn_of _ (by decide +kernel)) ggX11_seen_X11_isSeen
theorem bX11_seen_0 : decode cX11_seen 0 = .ok (.aload_n 0, 1) ∧ decode cX11_seen 1 = .ok (.iconst 0, 1) ∧ decode cX11_seen 2 = .ok (.putfield 85, 3) ∧ decode cX11_seen 5 = .ok (.aload_n 0, 1) ∧ decode cX11_seen 6 = .ok (.iload_n 1, 1) ∧ decode cX11_seen 7 = .ok (.iconst 0, 1) ∧ decode cX11_seen 8 = .ok (.iconst 3, 1) ∧ decode cX11_seen 9 = .ok (.invokestatic 119, 3) ∧ decode cX11_seen 12 = .ok (.ifCond .ne 7, 3) ∧ decode cX11_seen 15 = .ok (.iconst 1, 1) ∧ decode cX11_seen 16 = .ok (.goto 4, 3) ∧ decode cX11_seen 19 = .ok (.iconst 0, 1) ∧ decode cX11_seen 20 = .ok (.iconst 1, 1) ∧ decode cX11_seen 21 = .ok (.iconst 2, 1) ∧ decode cX11_seen 22 = .ok (.invokevirtual 151, 3) ∧ decode cX11_seen 25 = .ok (.ifCond .eq 5, 3) := by decide +kernel
def dX11_seen_0 := bX11_seen_0.1
def dX11_seen_1 := bX11_seen_0.2.1
def dX11_seen_2 := bX11_seen_0.2.2.1
def dX11_seen_5 := bX11_seen_0.2.2.2.1
def dX11_seen_6 := bX11_seen_0.2.2.2.2.1
def dX11_seen_7 := bX11_seen_0.2.2.2.2.2.1
def dX11_seen_8 := bX11_seen_0.2.2.2.2.2.2.1
def dX11_seen_9 := bX11_seen_0.2.2.2.2.2.2.2.1
def dX11_seen_12 := bX11_seen_0.2.2.2.2.2.2.2.2.1
def dX11_seen_15 := bX11_seen_0.2.2.2.2.2.2.2.2.2.1
def dX11_seen_16 := bX11_seen_0.2.2.2.2.2.2.2.2.2.2.1
def dX11_seen_19 := bX11_seen_0.2.2.2.2.2.2.2.2.2.2.2.1
def dX11_seen_20 := bX11_seen_0.2.2.2.2.2.2.2.2.2.2.2.2.1
def dX11_seen_21 := bX11_seen_0.2.2.2.2.2.2.2.2.2.2.2.2.2.1
def dX11_seen_22 := bX11_seen_0.2.2.2.2.2.2.2.2.2.2.2.2.2.2.1
def dX11_seen_25 := bX11_seen_0.2.2.2.2.2.2.2.2.2.2.2.2.2.2.2
theorem bX11_seen_28 : decode cX11_seen 28 = .ok (.iconst 0, 1) ∧ decode cX11_seen 29 = .ok (.ireturn, 1) ∧ decode cX11_seen 30 = .ok (.aload_n 0, 1) ∧ decode cX11_seen 31 = .ok (.aload_n 0, 1) ∧ decode cX11_seen 32 = .ok (.getfield 64, 3) ∧ decode cX11_seen 35 = .ok (.iload_n 1, 1) ∧ decode cX11_seen 36 = .ok (.aaload, 1) ∧ decode cX11_seen 37 = .ok (.iconst 0, 1) ∧ decode cX11_seen 38 = .ok (.iaload, 1) ∧ decode cX11_seen 39 = .ok (.aload_n 0, 1) ∧ decode cX11_seen 40 = .ok (.getfield 64, 3) ∧ decode cX11_seen 43 = .ok (.iload_n 1, 1) ∧ decode cX11_seen 44 = .ok (.aaload, 1) ∧ decode cX11_seen 45 = .ok (.iconst 1, 1) ∧ decode cX11_seen 46 = .ok (.iaload, 1) ∧ decode cX11_seen 47 = .ok (.invokevirtual 238, 3) := by decide +kernel
def dX11_seen_28 := bX11_seen_28.1
def dX11_seen_29 := bX11_seen_28.2.1
def dX11_seen_30 := bX11_seen_28.2.2.1
def dX11_seen_31 := bX11_seen_28.2.2.2.1
def dX11_seen_32 := bX11_seen_28.2.2.2.2.1
def dX11_seen_35 := bX11_seen_28.2.2.2.2.2.1
def dX11_seen_36 := bX11_seen_28.2.2.2.2.2.2.1
def dX11_seen_37 := bX11_seen_28.2.2.2.2.2.2.2.1
def dX11_seen_38 := bX11_seen_28.2.2.2.2.2.2.2.2.1
def dX11_seen_39 := bX11_seen_28.2.2.2.2.2.2.2.2.2.1
def dX11_seen_40 := bX11_seen_28.2.2.2.2.2.2.2.2.2.2.1
def dX11_seen_43 := bX11_seen_28.2.2.2.2.2.2.2.2.2.2.2.1
def dX11_seen_44 := bX11_seen_28.2.2.2.2.2.2.2.2.2.2.2.2.1
def dX11_seen_45 := bX11_seen_28.2.2.2.2.2.2.2.2.2.2.2.2.2.1
def dX11_seen_46 := bX11_seen_28.2.2.2.2.2.2.2.2.2.2.2.2.2.2.1
def dX11_seen_47 := bX11_seen_28.2.2.2.2.2.2.2.2.2.2.2.2.2.2.2
theorem dX11_seen_50 : decode cX11_seen 50 = .ok (.ireturn, 1) := by decide +kernel
theorem ggX11_spy_X11_in : GoodIn wsX11_spy wsX11_in := gW_in gwX11_in (fun _ h => List.mem_cons_of_mem _ (List.mem_append_right _ (List.mem_append_right _ (List.mem_append_left _ h))))
set_option maxRecDepth 20000 in
theorem gX11_spy_X11_in : GoodIn wsX11_spy (va_wsS RX11 119 yX11_in wsX11_in) := goodIn_app (goodIn_of _ (by decide +kernel)) ggX11_spy_X11_in
theorem ggX11_spy_X11_bad : GoodIn wsX11_spy wsX11_bad := gW_in gwX11_bad (fun _ h => List.mem_cons_of_mem _ (List.mem_append_right _ (List.mem_append_right _ (List.mem_append_right _ (List.mem_append_left _ h)))))
set_option maxRecDepth 20000 in
theorem gX11_spy_X11_bad : GoodIn wsX11_spy (wsV RX11 151 RX11 yX11_bad wsX11_bad) := goodIn_app (goodIn_of _ (by decide +kernel)) ggX11_spy_X11_bad
theorem ggX11_spy_X11_isSeen : GoodIn wsX11_spy wsX11_isSeen := gW_in gwX11_isSeen (fun _ h => List.mem_cons_of_mem _ (List.mem_append_right _ (List.mem_append_right _ (List.mem_append_right _ (List.mem_append_right _ (h))))))
set_option maxRecDepth 20000 in
theorem gX11_spy_X11_isSeen : GoodIn wsX11_spy (wsV RX11 238 RX11 yX11_isSeen wsX11_isSeen) := goodIn_app (goodIn_of _ (by decide +kernel)) ggX11_spy_X11_isSeen
theorem bX11_spy_0 : decode cX11_spy 0 = .ok (.aload_n 0, 1) ∧ decode cX11_spy 1 = .ok (.iconst 0, 1) ∧ decode cX11_spy 2 = .ok (.putfield 85, 3) ∧ decode cX11_spy 5 = .ok (.aload_n 0, 1) ∧ decode cX11_spy 6 = .ok (.iload_n 2, 1) ∧ decode cX11_spy 7 = .ok (.iconst 1, 1) ∧ decode cX11_spy 8 = .ok (.bipush 15, 2) ∧ decode cX11_spy 10 = .ok (.invokestatic 119, 3) ∧ decode cX11_spy 13 = .ok (.ifCond .ne 7, 3) ∧ decode cX11_spy 16 = .ok (.iconst 1, 1) ∧ decode cX11_spy 17 = .ok (.goto 4, 3) ∧ decode cX11_spy 20 = .ok (.iconst 0, 1) ∧ decode cX11_spy 21 = .ok (.iconst 1, 1) ∧ decode cX11_spy 22 = .ok (.iconst 2, 1) ∧ decode cX11_spy 23 = .ok (.invokevirtual 151, 3) ∧ decode cX11_spy 26 = .ok (.ifCond .eq 5, 3) := by decide +kernel
def dX11_spy_0 := bX11_spy_0.1
def dX11_spy_1 := bX11_spy_0.2.1
def dX11_spy_2 := bX11_spy_0.2.2.1
def dX11_spy_5 := bX11_spy_0.2.2.2.1
def dX11_spy_6 := bX11_spy_0.2.2.2.2.1
def dX11_spy_7 := bX11_spy_0.2.2.2.2.2.1
def dX11_spy_8 := bX11_spy_0.2.2.2.2.2.2.1
def dX11_spy_10 := bX11_spy_0.2.2.2.2.2.2.2.1
def dX11_spy_13 := bX11_spy_0.2.2.2.2.2.2.2.2.1
def dX11_spy_16 := bX11_spy_0.2.2.2.2.2.2.2.2.2.1
def dX11_spy_17 := bX11_spy_0.2.2.2.2.2.2.2.2.2.2.1
def dX11_spy_20 := bX11_spy_0.2.2.2.2.2.2.2.2.2.2.2.1
def dX11_spy_21 := bX11_spy_0.2.2.2.2.2.2.2.2.2.2.2.2.1
def dX11_spy_22 := bX11_spy_0.2.2.2.2.2.2.2.2.2.2.2.2.2.1
def dX11_spy_23 := bX11_spy_0.2.2.2.2.2.2.2.2.2.2.2.2.2.2.1
def dX11_spy_26 := bX11_spy_0.2.2.2.2.2.2.2.2.2.2.2.2.2.2.2
theorem bX11_spy_29 : decode cX11_spy 29 = .ok (.iconst 0, 1) ∧ decode cX11_spy 30 = .ok (.ireturn, 1) ∧ decode cX11_spy 31 = .ok (.aload_n 0, 1) ∧ decode cX11_spy 32 = .ok (.iload_n 1, 1) ∧ decode cX11_spy 33 = .ok (.ifCond .eq 7, 3) ∧ decode cX11_spy 36 = .ok (.iload_n 2, 1) ∧ decode cX11_spy 37 = .ok (.goto 7, 3) ∧ decode cX11_spy 40 = .ok (.bipush 16, 2) ∧ decode cX11_spy 42 = .ok (.iload_n 2, 1) ∧ decode cX11_spy 43 = .ok (.isub, 1) ∧ decode cX11_spy 44 = .ok (.iload_n 1, 1) ∧ decode cX11_spy 45 = .ok (.ifCond .eq 10, 3) ∧ decode cX11_spy 48 = .ok (.bipush 16, 2) ∧ decode cX11_spy 50 = .ok (.iload_n 2, 1) ∧ decode cX11_spy 51 = .ok (.isub, 1) ∧ decode cX11_spy 52 = .ok (.goto 4, 3) := by decide +kernel
def dX11_spy_29 := bX11_spy_29.1
def dX11_spy_30 := bX11_spy_29.2.1
def dX11_spy_31 := bX11_spy_29.2.2.1
def dX11_spy_32 := bX11_spy_29.2.2.2.1
def dX11_spy_33 := bX11_spy_29.2.2.2.2.1
def dX11_spy_36 := bX11_spy_29.2.2.2.2.2.1
def dX11_spy_37 := bX11_spy_29.2.2.2.2.2.2.1
def dX11_spy_40 := bX11_spy_29.2.2.2.2.2.2.2.1
def dX11_spy_42 := bX11_spy_29.2.2.2.2.2.2.2.2.1
def dX11_spy_43 := bX11_spy_29.2.2.2.2.2.2.2.2.2.1
def dX11_spy_44 := bX11_spy_29.2.2.2.2.2.2.2.2.2.2.1
def dX11_spy_45 := bX11_spy_29.2.2.2.2.2.2.2.2.2.2.2.1
def dX11_spy_48 := bX11_spy_29.2.2.2.2.2.2.2.2.2.2.2.2.1
def dX11_spy_50 := bX11_spy_29.2.2.2.2.2.2.2.2.2.2.2.2.2.1
def dX11_spy_51 := bX11_spy_29.2.2.2.2.2.2.2.2.2.2.2.2.2.2.1
def dX11_spy_52 := bX11_spy_29.2.2.2.2.2.2.2.2.2.2.2.2.2.2.2
theorem bX11_spy_55 : decode cX11_spy 55 = .ok (.iload_n 2, 1) ∧ decode cX11_spy 56 = .ok (.invokevirtual 238, 3) ∧ decode cX11_spy 59 = .ok (.ireturn, 1) := by decide +kernel
def dX11_spy_55 := bX11_spy_55.1
def dX11_spy_56 := bX11_spy_55.2.1
def dX11_spy_59 := bX11_spy_55.2.2
theorem ggX11_believed_X11_in : GoodIn wsX11_believed wsX11_in := gW_in gwX11_in (fun _ h => List.mem_cons_of_mem _ (List.mem_append_right _ (List.mem_append_right _ (List.mem_append_left _ h))))
set_option maxRecDepth 20000 in
theorem gX11_believed_X11_in : GoodIn wsX11_believed (va_wsS RX11 119 yX11_in wsX11_in) := goodIn_app (goodIn_of _ (by decide +kernel)) ggX11_believed_X11_in
theorem ggX11_believed_X11_bad : GoodIn wsX11_believed wsX11_bad := gW_in gwX11_bad (fun _ h => List.mem_cons_of_mem _ (List.mem_append_right _ (List.mem_append_right _ (List.mem_append_right _ (h)))))
set_option maxRecDepth 20000 in
theorem gX11_believed_X11_bad : GoodIn wsX11_believed (wsV RX11 151 RX11 yX11_bad wsX11_bad) := goodIn_app (goodIn_of _ (by decide +kernel)) ggX11_believed_X11_bad
theorem bX11_believed_0 : decode cX11_believed 0 = .ok (.aload_n 0, 1) ∧ decode cX11_believed 1 = .ok (.iconst 0, 1) ∧ decode cX11_believed 2 = .ok (.putfield 85, 3) ∧ decode cX11_believed 5 = .ok (.aload_n 0, 1) ∧ decode cX11_believed 6 = .ok (.iload_n 1, 1) ∧ decode cX11_believed 7 = .ok (.iconst 0, 1) ∧ decode cX11_believed 8 = .ok (.iconst 1, 1) ∧ decode cX11_believed 9 = .ok (.invokestatic 119, 3) ∧ decode cX11_believed 12 = .ok (.ifCond .ne 7, 3) ∧ decode cX11_believed 15 = .ok (.iconst 1, 1) ∧ decode cX11_believed 16 = .ok (.goto 4, 3) ∧ decode cX11_believed 19 = .ok (.iconst 0, 1) ∧ decode cX11_believed 20 = .ok (.iconst 1, 1) ∧ decode cX11_believed 21 = .ok (.iconst 2, 1) ∧ decode cX11_believed 22 = .ok (.invokevirtual 151, 3) ∧ decode cX11_believed 25 = .ok (.ifCond .eq 5, 3) := by decide +kernel
def dX11_believed_0 := bX11_believed_0.1
def dX11_believed_1 := bX11_believed_0.2.1
def dX11_believed_2 := bX11_believed_0.2.2.1
def dX11_believed_5 := bX11_believed_0.2.2.2.1
def dX11_believed_6 := bX11_believed_0.2.2.2.2.1
def dX11_believed_7 := bX11_believed_0.2.2.2.2.2.1
def dX11_believed_8 := bX11_believed_0.2.2.2.2.2.2.1
def dX11_believed_9 := bX11_believed_0.2.2.2.2.2.2.2.1
def dX11_believed_12 := bX11_believed_0.2.2.2.2.2.2.2.2.1
def dX11_believed_15 := bX11_believed_0.2.2.2.2.2.2.2.2.2.1
def dX11_believed_16 := bX11_believed_0.2.2.2.2.2.2.2.2.2.2.1
def dX11_believed_19 := bX11_believed_0.2.2.2.2.2.2.2.2.2.2.2.1
def dX11_believed_20 := bX11_believed_0.2.2.2.2.2.2.2.2.2.2.2.2.1
def dX11_believed_21 := bX11_believed_0.2.2.2.2.2.2.2.2.2.2.2.2.2.1
def dX11_believed_22 := bX11_believed_0.2.2.2.2.2.2.2.2.2.2.2.2.2.2.1
def dX11_believed_25 := bX11_believed_0.2.2.2.2.2.2.2.2.2.2.2.2.2.2.2
theorem bX11_believed_28 : decode cX11_believed 28 = .ok (.lconst 0, 1) ∧ decode cX11_believed 29 = .ok (.lreturn, 1) ∧ decode cX11_believed 30 = .ok (.aload_n 0, 1) ∧ decode cX11_believed 31 = .ok (.getfield 58, 3) ∧ decode cX11_believed 34 = .ok (.i2l, 1) ∧ decode cX11_believed 35 = .ok (.lstore_n 2, 1) ∧ decode cX11_believed 36 = .ok (.aload_n 0, 1) ∧ decode cX11_believed 37 = .ok (.getfield 61, 3) ∧ decode cX11_believed 40 = .ok (.i2l, 1) ∧ decode cX11_believed 41 = .ok (.lstore 4, 2) ∧ decode cX11_believed 43 = .ok (.iconst 0, 1) ∧ decode cX11_believed 44 = .ok (.istore 6, 2) ∧ decode cX11_believed 46 = .ok (.iload 6, 2) ∧ decode cX11_believed 48 = .ok (.aload_n 0, 1) ∧ decode cX11_believed 49 = .ok (.getfield 165, 3) ∧ decode cX11_believed 52 = .ok (.if_icmp .ge 37, 3) := by decide +kernel
def dX11_believed_28 := bX11_believed_28.1
def dX11_believed_29 := bX11_believed_28.2.1
def dX11_believed_30 := bX11_believed_28.2.2.1
def dX11_believed_31 := bX11_believed_28.2.2.2.1
def dX11_believed_34 := bX11_believed_28.2.2.2.2.1
def dX11_believed_35 := bX11_believed_28.2.2.2.2.2.1
def dX11_believed_36 := bX11_believed_28.2.2.2.2.2.2.1
def dX11_believed_37 := bX11_believed_28.2.2.2.2.2.2.2.1
def dX11_believed_40 := bX11_believed_28.2.2.2.2.2.2.2.2.1
def dX11_believed_41 := bX11_believed_28.2.2.2.2.2.2.2.2.2.1
def dX11_believed_43 := bX11_believed_28.2.2.2.2.2.2.2.2.2.2.1
def dX11_believed_44 := bX11_believed_28.2.2.2.2.2.2.2.2.2.2.2.1
def dX11_believed_46 := bX11_believed_28.2.2.2.2.2.2.2.2.2.2.2.2.1
def dX11_believed_48 := bX11_believed_28.2.2.2.2.2.2.2.2.2.2.2.2.2.1
def dX11_believed_49 := bX11_believed_28.2.2.2.2.2.2.2.2.2.2.2.2.2.2.1
def dX11_believed_52 := bX11_believed_28.2.2.2.2.2.2.2.2.2.2.2.2.2.2.2
theorem bX11_believed_55 : decode cX11_believed 55 = .ok (.lload_n 2, 1) ∧ decode cX11_believed 56 = .ok (.aload_n 0, 1) ∧ decode cX11_believed 57 = .ok (.getfield 67, 3) ∧ decode cX11_believed 60 = .ok (.iload 6, 2) ∧ decode cX11_believed 62 = .ok (.aaload, 1) ∧ decode cX11_believed 63 = .ok (.iconst 0, 1) ∧ decode cX11_believed 64 = .ok (.iaload, 1) ∧ decode cX11_believed 65 = .ok (.i2l, 1) ∧ decode cX11_believed 66 = .ok (.lmul, 1) ∧ decode cX11_believed 67 = .ok (.lstore_n 2, 1) ∧ decode cX11_believed 68 = .ok (.lload 4, 2) ∧ decode cX11_believed 70 = .ok (.aload_n 0, 1) ∧ decode cX11_believed 71 = .ok (.getfield 67, 3) ∧ decode cX11_believed 74 = .ok (.iload 6, 2) ∧ decode cX11_believed 76 = .ok (.aaload, 1) ∧ decode cX11_believed 77 = .ok (.iconst 1, 1) := by decide +kernel
def dX11_believed_55 := bX11_believed_55.1
def dX11_believed_56 := bX11_believed_55.2.1
def dX11_believed_57 := bX11_believed_55.2.2.1
def dX11_believed_60 := bX11_believed_55.2.2.2.1
def dX11_believed_62 := bX11_believed_55.2.2.2.2.1
def dX11_believed_63 := bX11_believed_55.2.2.2.2.2.1
def dX11_believed_64 := bX11_believed_55.2.2.2.2.2.2.1
def dX11_believed_65 := bX11_believed_55.2.2.2.2.2.2.2.1
def dX11_believed_66 := bX11_believed_55.2.2.2.2.2.2.2.2.1
def dX11_believed_67 := bX11_believed_55.2.2.2.2.2.2.2.2.2.1
def dX11_believed_68 := bX11_believed_55.2.2.2.2.2.2.2.2.2.2.1
def dX11_believed_70 := bX11_believed_55.2.2.2.2.2.2.2.2.2.2.2.1
def dX11_believed_71 := bX11_believed_55.2.2.2.2.2.2.2.2.2.2.2.2.1
def dX11_believed_74 := bX11_believed_55.2.2.2.2.2.2.2.2.2.2.2.2.2.1
def dX11_believed_76 := bX11_believed_55.2.2.2.2.2.2.2.2.2.2.2.2.2.2.1
def dX11_believed_77 := bX11_believed_55.2.2.2.2.2.2.2.2.2.2.2.2.2.2.2
theorem bX11_believed_78 : decode cX11_believed 78 = .ok (.iaload, 1) ∧ decode cX11_believed 79 = .ok (.i2l, 1) ∧ decode cX11_believed 80 = .ok (.lmul, 1) ∧ decode cX11_believed 81 = .ok (.lstore 4, 2) ∧ decode cX11_believed 83 = .ok (.iinc 6 1, 3) ∧ decode cX11_believed 86 = .ok (.goto (-40), 3) ∧ decode cX11_believed 89 = .ok (.lload_n 2, 1) ∧ decode cX11_believed 90 = .ok (.lstore 6, 2) ∧ decode cX11_believed 92 = .ok (.lload 4, 2) ∧ decode cX11_believed 94 = .ok (.lstore 8, 2) ∧ decode cX11_believed 96 = .ok (.lload 8, 2) ∧ decode cX11_believed 98 = .ok (.lconst 0, 1) ∧ decode cX11_believed 99 = .ok (.lcmp, 1) ∧ decode cX11_believed 100 = .ok (.ifCond .eq 21, 3) ∧ decode cX11_believed 103 = .ok (.lload 6, 2) ∧ decode cX11_believed 105 = .ok (.lload 8, 2) := by decide +kernel
def dX11_believed_78 := bX11_believed_78.1
def dX11_believed_79 := bX11_believed_78.2.1
def dX11_believed_80 := bX11_believed_78.2.2.1
def dX11_believed_81 := bX11_believed_78.2.2.2.1
def dX11_believed_83 := bX11_believed_78.2.2.2.2.1
def dX11_believed_86 := bX11_believed_78.2.2.2.2.2.1
def dX11_believed_89 := bX11_believed_78.2.2.2.2.2.2.1
def dX11_believed_90 := bX11_believed_78.2.2.2.2.2.2.2.1
def dX11_believed_92 := bX11_believed_78.2.2.2.2.2.2.2.2.1
def dX11_believed_94 := bX11_believed_78.2.2.2.2.2.2.2.2.2.1
def dX11_believed_96 := bX11_believed_78.2.2.2.2.2.2.2.2.2.2.1
def dX11_believed_98 := bX11_believed_78.2.2.2.2.2.2.2.2.2.2.2.1
def dX11_believed_99 := bX11_believed_78.2.2.2.2.2.2.2.2.2.2.2.2.1
def dX11_believed_100 := bX11_believed_78.2.2.2.2.2.2.2.2.2.2.2.2.2.1
def dX11_believed_103 := bX11_believed_78.2.2.2.2.2.2.2.2.2.2.2.2.2.2.1
def dX11_believed_105 := bX11_believed_78.2.2.2.2.2.2.2.2.2.2.2.2.2.2.2
theorem bX11_believed_107 : decode cX11_believed 107 = .ok (.lrem, 1) ∧ decode cX11_believed 108 = .ok (.lstore 10, 2) ∧ decode cX11_believed 110 = .ok (.lload 8, 2) ∧ decode cX11_believed 112 = .ok (.lstore 6, 2) ∧ decode cX11_believed 114 = .ok (.lload 10, 2) ∧ decode cX11_believed 116 = .ok (.lstore 8, 2) ∧ decode cX11_believed 118 = .ok (.goto (-22), 3) ∧ decode cX11_believed 121 = .ok (.iload_n 1, 1) ∧ decode cX11_believed 122 = .ok (.ifCond .ne 10, 3) ∧ decode cX11_believed 125 = .ok (.lload_n 2, 1) ∧ decode cX11_believed 126 = .ok (.lload 6, 2) ∧ decode cX11_believed 128 = .ok (.ldiv, 1) ∧ decode cX11_believed 129 = .ok (.goto 8, 3) ∧ decode cX11_believed 132 = .ok (.lload 4, 2) ∧ decode cX11_believed 134 = .ok (.lload 6, 2) ∧ decode cX11_believed 136 = .ok (.ldiv, 1) := by decide +kernel
def dX11_believed_107 := bX11_believed_107.1
def dX11_believed_108 := bX11_believed_107.2.1
def dX11_believed_110 := bX11_believed_107.2.2.1
def dX11_believed_112 := bX11_believed_107.2.2.2.1
def dX11_believed_114 := bX11_believed_107.2.2.2.2.1
def dX11_believed_116 := bX11_believed_107.2.2.2.2.2.1
def dX11_believed_118 := bX11_believed_107.2.2.2.2.2.2.1
def dX11_believed_121 := bX11_believed_107.2.2.2.2.2.2.2.1
def dX11_believed_122 := bX11_believed_107.2.2.2.2.2.2.2.2.1
def dX11_believed_125 := bX11_believed_107.2.2.2.2.2.2.2.2.2.1
def dX11_believed_126 := bX11_believed_107.2.2.2.2.2.2.2.2.2.2.1
def dX11_believed_128 := bX11_believed_107.2.2.2.2.2.2.2.2.2.2.2.1
def dX11_believed_129 := bX11_believed_107.2.2.2.2.2.2.2.2.2.2.2.2.1
def dX11_believed_132 := bX11_believed_107.2.2.2.2.2.2.2.2.2.2.2.2.2.1
def dX11_believed_134 := bX11_believed_107.2.2.2.2.2.2.2.2.2.2.2.2.2.2.1
def dX11_believed_136 := bX11_believed_107.2.2.2.2.2.2.2.2.2.2.2.2.2.2.2
theorem dX11_believed_137 : decode cX11_believed 137 = .ok (.lreturn, 1) := by decide +kernel
theorem bX11_digit_0 : decode cX11_digit 0 = .ok (.iload_n 1, 1) ∧ decode cX11_digit 1 = .ok (.ifCond .ne 10, 3) ∧ decode cX11_digit 4 = .ok (.iload_n 0, 1) ∧ decode cX11_digit 5 = .ok (.bipush 49, 2) ∧ decode cX11_digit 7 = .ok (.idiv, 1) ∧ decode cX11_digit 8 = .ok (.goto 22, 3) ∧ decode cX11_digit 11 = .ok (.iload_n 1, 1) ∧ decode cX11_digit 12 = .ok (.iconst 1, 1) ∧ decode cX11_digit 13 = .ok (.if_icmp .ne 13, 3) ∧ decode cX11_digit 16 = .ok (.iload_n 0, 1) ∧ decode cX11_digit 17 = .ok (.bipush 7, 2) ∧ decode cX11_digit 19 = .ok (.idiv, 1) ∧ decode cX11_digit 20 = .ok (.bipush 7, 2) ∧ decode cX11_digit 22 = .ok (.irem, 1) ∧ decode cX11_digit 23 = .ok (.goto 7, 3) ∧ decode cX11_digit 26 = .ok (.iload_n 0, 1) := by decide +kernel
def dX11_digit_0 := bX11_digit_0.1
def dX11_digit_1 := bX11_digit_0.2.1
def dX11_digit_4 := bX11_digit_0.2.2.1
def dX11_digit_5 := bX11_digit_0.2.2.2.1
def dX11_digit_7 := bX11_digit_0.2.2.2.2.1
def dX11_digit_8 := bX11_digit_0.2.2.2.2.2.1
def dX11_digit_11 := bX11_digit_0.2.2.2.2.2.2.1
def dX11_digit_12 := bX11_digit_0.2.2.2.2.2.2.2.1
def dX11_digit_13 := bX11_digit_0.2.2.2.2.2.2.2.2.1
def dX11_digit_16 := bX11_digit_0.2.2.2.2.2.2.2.2.2.1
def dX11_digit_17 := bX11_digit_0.2.2.2.2.2.2.2.2.2.2.1
def dX11_digit_19 := bX11_digit_0.2.2.2.2.2.2.2.2.2.2.2.1
def dX11_digit_20 := bX11_digit_0.2.2.2.2.2.2.2.2.2.2.2.2.1
def dX11_digit_22 := bX11_digit_0.2.2.2.2.2.2.2.2.2.2.2.2.2.1
def dX11_digit_23 := bX11_digit_0.2.2.2.2.2.2.2.2.2.2.2.2.2.2.1
def dX11_digit_26 := bX11_digit_0.2.2.2.2.2.2.2.2.2.2.2.2.2.2.2
theorem bX11_digit_27 : decode cX11_digit 27 = .ok (.bipush 7, 2) ∧ decode cX11_digit 29 = .ok (.irem, 1) ∧ decode cX11_digit 30 = .ok (.ireturn, 1) := by decide +kernel
def dX11_digit_27 := bX11_digit_27.1
def dX11_digit_29 := bX11_digit_27.2.1
def dX11_digit_30 := bX11_digit_27.2.2
theorem ggX11_puts0_X11_digit : GoodIn wsX11_puts0 wsX11_digit := gW_in gwX11_digit (fun _ h => List.mem_cons_of_mem _ (List.mem_append_right _ (h)))
set_option maxRecDepth 20000 in
theorem gX11_puts0_X11_digit : GoodIn wsX11_puts0 (va_wsS RX11 241 yX11_digit wsX11_digit) := goodIn_app (goodIn_of _ (by decide +kernel)) ggX11_puts0_X11_digit
theorem bX11_puts0_0 : decode cX11_puts0 0 = .ok (.iconst 0, 1) ∧ decode cX11_puts0 1 = .ok (.istore_n 3, 1) ∧ decode cX11_puts0 2 = .ok (.iconst 0, 1) ∧ decode cX11_puts0 3 = .ok (.istore 4, 2) ∧ decode cX11_puts0 5 = .ok (.iload 4, 2) ∧ decode cX11_puts0 7 = .ok (.iconst 3, 1) ∧ decode cX11_puts0 8 = .ok (.if_icmp .ge 38, 3) ∧ decode cX11_puts0 11 = .ok (.iload_n 2, 1) ∧ decode cX11_puts0 12 = .ok (.iload 4, 2) ∧ decode cX11_puts0 14 = .ok (.ishr, 1) ∧ decode cX11_puts0 15 = .ok (.iconst 1, 1) ∧ decode cX11_puts0 16 = .ok (.iand, 1) ∧ decode cX11_puts0 17 = .ok (.ifCond .ne 14, 3) ∧ decode cX11_puts0 20 = .ok (.iload_n 0, 1) ∧ decode cX11_puts0 21 = .ok (.iload 4, 2) ∧ decode cX11_puts0 23 = .ok (.invokestatic 241, 3) := by decide +kernel
def dX11_puts0_0 := bX11_puts0_0.1
def dX11_puts0_1 := bX11_puts0_0.2.1
def dX11_puts0_2 := bX11_puts0_0.2.2.1
def dX11_puts0_3 := bX11_puts0_0.2.2.2.1
def dX11_puts0_5 := bX11_puts0_0.2.2.2.2.1
def dX11_puts0_7 := bX11_puts0_0.2.2.2.2.2.1
def dX11_puts0_8 := bX11_puts0_0.2.2.2.2.2.2.1
def dX11_puts0_11 := bX11_puts0_0.2.2.2.2.2.2.2.1
def dX11_puts0_12 := bX11_puts0_0.2.2.2.2.2.2.2.2.1
def dX11_puts0_14 := bX11_puts0_0.2.2.2.2.2.2.2.2.2.1
def dX11_puts0_15 := bX11_puts0_0.2.2.2.2.2.2.2.2.2.2.1
def dX11_puts0_16 := bX11_puts0_0.2.2.2.2.2.2.2.2.2.2.2.1
def dX11_puts0_17 := bX11_puts0_0.2.2.2.2.2.2.2.2.2.2.2.2.1
def dX11_puts0_20 := bX11_puts0_0.2.2.2.2.2.2.2.2.2.2.2.2.2.1
def dX11_puts0_21 := bX11_puts0_0.2.2.2.2.2.2.2.2.2.2.2.2.2.2.1
def dX11_puts0_23 := bX11_puts0_0.2.2.2.2.2.2.2.2.2.2.2.2.2.2.2
theorem bX11_puts0_26 : decode cX11_puts0 26 = .ok (.ifCond .le 5, 3) ∧ decode cX11_puts0 29 = .ok (.iconst 0, 1) ∧ decode cX11_puts0 30 = .ok (.ireturn, 1) ∧ decode cX11_puts0 31 = .ok (.iload_n 3, 1) ∧ decode cX11_puts0 32 = .ok (.iload_n 0, 1) ∧ decode cX11_puts0 33 = .ok (.iload 4, 2) ∧ decode cX11_puts0 35 = .ok (.invokestatic 241, 3) ∧ decode cX11_puts0 38 = .ok (.iadd, 1) ∧ decode cX11_puts0 39 = .ok (.istore_n 3, 1) ∧ decode cX11_puts0 40 = .ok (.iinc 4 1, 3) ∧ decode cX11_puts0 43 = .ok (.goto (-38), 3) ∧ decode cX11_puts0 46 = .ok (.iload_n 3, 1) ∧ decode cX11_puts0 47 = .ok (.iload_n 1, 1) ∧ decode cX11_puts0 48 = .ok (.if_icmp .eq 7, 3) ∧ decode cX11_puts0 51 = .ok (.iload_n 2, 1) ∧ decode cX11_puts0 52 = .ok (.ifCond .ne 7, 3) := by decide +kernel
def dX11_puts0_26 := bX11_puts0_26.1
def dX11_puts0_29 := bX11_puts0_26.2.1
def dX11_puts0_30 := bX11_puts0_26.2.2.1
def dX11_puts0_31 := bX11_puts0_26.2.2.2.1
def dX11_puts0_32 := bX11_puts0_26.2.2.2.2.1
def dX11_puts0_33 := bX11_puts0_26.2.2.2.2.2.1
def dX11_puts0_35 := bX11_puts0_26.2.2.2.2.2.2.1
def dX11_puts0_38 := bX11_puts0_26.2.2.2.2.2.2.2.1
def dX11_puts0_39 := bX11_puts0_26.2.2.2.2.2.2.2.2.1
def dX11_puts0_40 := bX11_puts0_26.2.2.2.2.2.2.2.2.2.1
def dX11_puts0_43 := bX11_puts0_26.2.2.2.2.2.2.2.2.2.2.1
def dX11_puts0_46 := bX11_puts0_26.2.2.2.2.2.2.2.2.2.2.2.1
def dX11_puts0_47 := bX11_puts0_26.2.2.2.2.2.2.2.2.2.2.2.2.1
def dX11_puts0_48 := bX11_puts0_26.2.2.2.2.2.2.2.2.2.2.2.2.2.1
def dX11_puts0_51 := bX11_puts0_26.2.2.2.2.2.2.2.2.2.2.2.2.2.2.1
def dX11_puts0_52 := bX11_puts0_26.2.2.2.2.2.2.2.2.2.2.2.2.2.2.2
theorem bX11_puts0_55 : decode cX11_puts0 55 = .ok (.iconst 1, 1) ∧ decode cX11_puts0 56 = .ok (.goto 4, 3) ∧ decode cX11_puts0 59 = .ok (.iconst 0, 1) ∧ decode cX11_puts0 60 = .ok (.ireturn, 1) := by decide +kernel
def dX11_puts0_55 := bX11_puts0_55.1
def dX11_puts0_56 := bX11_puts0_55.2.1
def dX11_puts0_59 := bX11_puts0_55.2.2.1
def dX11_puts0_60 := bX11_puts0_55.2.2.2
theorem ggX11_falls_X11_digit : GoodIn wsX11_falls wsX11_digit := gW_in gwX11_digit (fun _ h => List.mem_cons_of_mem _ (List.mem_append_right _ (List.mem_append_right _ (h))))
set_option maxRecDepth 20000 in
theorem gX11_falls_X11_digit : GoodIn wsX11_falls (va_wsS RX11 241 yX11_digit wsX11_digit) := goodIn_app (goodIn_of _ (by decide +kernel)) ggX11_falls_X11_digit
theorem bX11_falls_0 : decode cX11_falls 0 = .ok (.iconst 0, 1) ∧ decode cX11_falls 1 = .ok (.istore 4, 2) ∧ decode cX11_falls 3 = .ok (.iconst 0, 1) ∧ decode cX11_falls 4 = .ok (.istore 5, 2) ∧ decode cX11_falls 6 = .ok (.iload 5, 2) ∧ decode cX11_falls 8 = .ok (.iconst 3, 1) ∧ decode cX11_falls 9 = .ok (.if_icmp .ge 61, 3) ∧ decode cX11_falls 12 = .ok (.iload_n 3, 1) ∧ decode cX11_falls 13 = .ok (.iload 5, 2) ∧ decode cX11_falls 15 = .ok (.ishr, 1) ∧ decode cX11_falls 16 = .ok (.iconst 1, 1) ∧ decode cX11_falls 17 = .ok (.iand, 1) ∧ decode cX11_falls 18 = .ok (.iconst 1, 1) ∧ decode cX11_falls 19 = .ok (.if_icmp .ne 45, 3) ∧ decode cX11_falls 22 = .ok (.iload_n 1, 1) ∧ decode cX11_falls 23 = .ok (.iload 5, 2) := by decide +kernel
def dX11_falls_0 := bX11_falls_0.1
def dX11_falls_1 := bX11_falls_0.2.1
def dX11_falls_3 := bX11_falls_0.2.2.1
def dX11_falls_4 := bX11_falls_0.2.2.2.1
def dX11_falls_6 := bX11_falls_0.2.2.2.2.1
def dX11_falls_8 := bX11_falls_0.2.2.2.2.2.1
def dX11_falls_9 := bX11_falls_0.2.2.2.2.2.2.1
def dX11_falls_12 := bX11_falls_0.2.2.2.2.2.2.2.1
def dX11_falls_13 := bX11_falls_0.2.2.2.2.2.2.2.2.1
def dX11_falls_15 := bX11_falls_0.2.2.2.2.2.2.2.2.2.1
def dX11_falls_16 := bX11_falls_0.2.2.2.2.2.2.2.2.2.2.1
def dX11_falls_17 := bX11_falls_0.2.2.2.2.2.2.2.2.2.2.2.1
def dX11_falls_18 := bX11_falls_0.2.2.2.2.2.2.2.2.2.2.2.2.1
def dX11_falls_19 := bX11_falls_0.2.2.2.2.2.2.2.2.2.2.2.2.2.1
def dX11_falls_22 := bX11_falls_0.2.2.2.2.2.2.2.2.2.2.2.2.2.2.1
def dX11_falls_23 := bX11_falls_0.2.2.2.2.2.2.2.2.2.2.2.2.2.2.2
theorem bX11_falls_25 : decode cX11_falls 25 = .ok (.invokestatic 241, 3) ∧ decode cX11_falls 28 = .ok (.iload_n 2, 1) ∧ decode cX11_falls 29 = .ok (.iload 5, 2) ∧ decode cX11_falls 31 = .ok (.invokestatic 241, 3) ∧ decode cX11_falls 34 = .ok (.aload_n 0, 1) ∧ decode cX11_falls 35 = .ok (.getfield 31, 3) ∧ decode cX11_falls 38 = .ok (.iload 5, 2) ∧ decode cX11_falls 40 = .ok (.aaload, 1) ∧ decode cX11_falls 41 = .ok (.iconst 0, 1) ∧ decode cX11_falls 42 = .ok (.iaload, 1) ∧ decode cX11_falls 43 = .ok (.bipush 25, 2) ∧ decode cX11_falls 45 = .ok (.idiv, 1) ∧ decode cX11_falls 46 = .ok (.iadd, 1) ∧ decode cX11_falls 47 = .ok (.if_icmp .le 17, 3) ∧ decode cX11_falls 50 = .ok (.iload 4, 2) ∧ decode cX11_falls 52 = .ok (.aload_n 0, 1) := by decide +kernel
def dX11_falls_25 := bX11_falls_25.1
def dX11_falls_28 := bX11_falls_25.2.1
def dX11_falls_29 := bX11_falls_25.2.2.1
def dX11_falls_31 := bX11_falls_25.2.2.2.1
def dX11_falls_34 := bX11_falls_25.2.2.2.2.1
def dX11_falls_35 := bX11_falls_25.2.2.2.2.2.1
def dX11_falls_38 := bX11_falls_25.2.2.2.2.2.2.1
def dX11_falls_40 := bX11_falls_25.2.2.2.2.2.2.2.1
def dX11_falls_41 := bX11_falls_25.2.2.2.2.2.2.2.2.1
def dX11_falls_42 := bX11_falls_25.2.2.2.2.2.2.2.2.2.1
def dX11_falls_43 := bX11_falls_25.2.2.2.2.2.2.2.2.2.2.1
def dX11_falls_45 := bX11_falls_25.2.2.2.2.2.2.2.2.2.2.2.1
def dX11_falls_46 := bX11_falls_25.2.2.2.2.2.2.2.2.2.2.2.2.1
def dX11_falls_47 := bX11_falls_25.2.2.2.2.2.2.2.2.2.2.2.2.2.1
def dX11_falls_50 := bX11_falls_25.2.2.2.2.2.2.2.2.2.2.2.2.2.2.1
def dX11_falls_52 := bX11_falls_25.2.2.2.2.2.2.2.2.2.2.2.2.2.2.2
theorem bX11_falls_53 : decode cX11_falls 53 = .ok (.getfield 31, 3) ∧ decode cX11_falls 56 = .ok (.iload 5, 2) ∧ decode cX11_falls 58 = .ok (.aaload, 1) ∧ decode cX11_falls 59 = .ok (.iconst 0, 1) ∧ decode cX11_falls 60 = .ok (.iaload, 1) ∧ decode cX11_falls 61 = .ok (.iadd, 1) ∧ decode cX11_falls 62 = .ok (.istore 4, 2) ∧ decode cX11_falls 64 = .ok (.iinc 5 1, 3) ∧ decode cX11_falls 67 = .ok (.goto (-61), 3) ∧ decode cX11_falls 70 = .ok (.iload 4, 2) ∧ decode cX11_falls 72 = .ok (.ireturn, 1) := by decide +kernel
def dX11_falls_53 := bX11_falls_53.1
def dX11_falls_56 := bX11_falls_53.2.1
def dX11_falls_58 := bX11_falls_53.2.2.1
def dX11_falls_59 := bX11_falls_53.2.2.2.1
def dX11_falls_60 := bX11_falls_53.2.2.2.2.1
def dX11_falls_61 := bX11_falls_53.2.2.2.2.2.1
def dX11_falls_62 := bX11_falls_53.2.2.2.2.2.2.1
def dX11_falls_64 := bX11_falls_53.2.2.2.2.2.2.2.1
def dX11_falls_67 := bX11_falls_53.2.2.2.2.2.2.2.2.1
def dX11_falls_70 := bX11_falls_53.2.2.2.2.2.2.2.2.2.1
def dX11_falls_72 := bX11_falls_53.2.2.2.2.2.2.2.2.2.2
theorem ggX11_firstWalls_X11_less : GoodIn wsX11_firstWalls wsX11_less := gW_in gwX11_less (fun _ h => List.mem_cons_of_mem _ (List.mem_append_right _ (List.mem_append_right _ (h))))
set_option maxRecDepth 20000 in
theorem gX11_firstWalls_X11_less : GoodIn wsX11_firstWalls (va_wsS RX11 186 yX11_less wsX11_less) := goodIn_app (goodIn_of _ (by decide +kernel)) ggX11_firstWalls_X11_less
theorem bX11_firstWalls_0 : decode cX11_firstWalls 0 = .ok (.iconst 1, 1) ∧ decode cX11_firstWalls 1 = .ok (.iconst 3, 1) ∧ decode cX11_firstWalls 2 = .ok (.aload_n 0, 1) ∧ decode cX11_firstWalls 3 = .ok (.getfield 23, 3) ∧ decode cX11_firstWalls 6 = .ok (.iconst 0, 1) ∧ decode cX11_firstWalls 7 = .ok (.iaload, 1) ∧ decode cX11_firstWalls 8 = .ok (.invokestatic 186, 3) ∧ decode cX11_firstWalls 11 = .ok (.ishl, 1) ∧ decode cX11_firstWalls 12 = .ok (.iconst 1, 1) ∧ decode cX11_firstWalls 13 = .ok (.isub, 1) ∧ decode cX11_firstWalls 14 = .ok (.ireturn, 1) := by decide +kernel
def dX11_firstWalls_0 := bX11_firstWalls_0.1
def dX11_firstWalls_1 := bX11_firstWalls_0.2.1
def dX11_firstWalls_2 := bX11_firstWalls_0.2.2.1
def dX11_firstWalls_3 := bX11_firstWalls_0.2.2.2.1
def dX11_firstWalls_6 := bX11_firstWalls_0.2.2.2.2.1
def dX11_firstWalls_7 := bX11_firstWalls_0.2.2.2.2.2.1
def dX11_firstWalls_8 := bX11_firstWalls_0.2.2.2.2.2.2.1
def dX11_firstWalls_11 := bX11_firstWalls_0.2.2.2.2.2.2.2.1
def dX11_firstWalls_12 := bX11_firstWalls_0.2.2.2.2.2.2.2.2.1
def dX11_firstWalls_13 := bX11_firstWalls_0.2.2.2.2.2.2.2.2.2.1
def dX11_firstWalls_14 := bX11_firstWalls_0.2.2.2.2.2.2.2.2.2.2
theorem ggX11_safeBy_X11_puts0 : GoodIn wsX11_safeBy wsX11_puts0 := gW_in gwX11_puts0 (fun _ h => List.mem_cons_of_mem _ (List.mem_append_right _ (List.mem_append_right _ (List.mem_append_left _ h))))
set_option maxRecDepth 20000 in
theorem gX11_safeBy_X11_puts0 : GoodIn wsX11_safeBy (va_wsS RX11 247 yX11_puts0 wsX11_puts0) := goodIn_app (goodIn_of _ (by decide +kernel)) ggX11_safeBy_X11_puts0
theorem ggX11_safeBy_X11_falls : GoodIn wsX11_safeBy wsX11_falls := gW_in gwX11_falls (fun _ h => List.mem_cons_of_mem _ (List.mem_append_right _ (List.mem_append_right _ (List.mem_append_right _ (h)))))
set_option maxRecDepth 20000 in
theorem gX11_safeBy_X11_falls : GoodIn wsX11_safeBy (wsV RX11 250 RX11 yX11_falls wsX11_falls) := goodIn_app (goodIn_of _ (by decide +kernel)) ggX11_safeBy_X11_falls
theorem bX11_safeBy_0 : decode cX11_safeBy 0 = .ok (.iconst (-1), 1) ∧ decode cX11_safeBy 1 = .ok (.istore 4, 2) ∧ decode cX11_safeBy 3 = .ok (.aload_n 0, 1) ∧ decode cX11_safeBy 4 = .ok (.iconst 0, 1) ∧ decode cX11_safeBy 5 = .ok (.putfield 244, 3) ∧ decode cX11_safeBy 8 = .ok (.iconst 0, 1) ∧ decode cX11_safeBy 9 = .ok (.istore 5, 2) ∧ decode cX11_safeBy 11 = .ok (.iload 5, 2) ∧ decode cX11_safeBy 13 = .ok (.sipush 343, 3) ∧ decode cX11_safeBy 16 = .ok (.if_icmp .ge 108, 3) ∧ decode cX11_safeBy 19 = .ok (.iload 5, 2) ∧ decode cX11_safeBy 21 = .ok (.iload_n 2, 1) ∧ decode cX11_safeBy 22 = .ok (.iload_n 3, 1) ∧ decode cX11_safeBy 23 = .ok (.invokestatic 247, 3) ∧ decode cX11_safeBy 26 = .ok (.ifCond .ne 6, 3) ∧ decode cX11_safeBy 29 = .ok (.goto 89, 3) := by decide +kernel
def dX11_safeBy_0 := bX11_safeBy_0.1
def dX11_safeBy_1 := bX11_safeBy_0.2.1
def dX11_safeBy_3 := bX11_safeBy_0.2.2.1
def dX11_safeBy_4 := bX11_safeBy_0.2.2.2.1
def dX11_safeBy_5 := bX11_safeBy_0.2.2.2.2.1
def dX11_safeBy_8 := bX11_safeBy_0.2.2.2.2.2.1
def dX11_safeBy_9 := bX11_safeBy_0.2.2.2.2.2.2.1
def dX11_safeBy_11 := bX11_safeBy_0.2.2.2.2.2.2.2.1
def dX11_safeBy_13 := bX11_safeBy_0.2.2.2.2.2.2.2.2.1
def dX11_safeBy_16 := bX11_safeBy_0.2.2.2.2.2.2.2.2.2.1
def dX11_safeBy_19 := bX11_safeBy_0.2.2.2.2.2.2.2.2.2.2.1
def dX11_safeBy_21 := bX11_safeBy_0.2.2.2.2.2.2.2.2.2.2.2.1
def dX11_safeBy_22 := bX11_safeBy_0.2.2.2.2.2.2.2.2.2.2.2.2.1
def dX11_safeBy_23 := bX11_safeBy_0.2.2.2.2.2.2.2.2.2.2.2.2.2.1
def dX11_safeBy_26 := bX11_safeBy_0.2.2.2.2.2.2.2.2.2.2.2.2.2.2.1
def dX11_safeBy_29 := bX11_safeBy_0.2.2.2.2.2.2.2.2.2.2.2.2.2.2.2
theorem bX11_safeBy_32 : decode cX11_safeBy 32 = .ok (.iconst 0, 1) ∧ decode cX11_safeBy 33 = .ok (.istore 6, 2) ∧ decode cX11_safeBy 35 = .ok (.iconst 0, 1) ∧ decode cX11_safeBy 36 = .ok (.istore 7, 2) ∧ decode cX11_safeBy 38 = .ok (.iload 7, 2) ∧ decode cX11_safeBy 40 = .ok (.sipush 343, 3) ∧ decode cX11_safeBy 43 = .ok (.if_icmp .ge 49, 3) ∧ decode cX11_safeBy 46 = .ok (.iload 7, 2) ∧ decode cX11_safeBy 48 = .ok (.iload_n 1, 1) ∧ decode cX11_safeBy 49 = .ok (.iload_n 3, 1) ∧ decode cX11_safeBy 50 = .ok (.invokestatic 247, 3) ∧ decode cX11_safeBy 53 = .ok (.ifCond .eq 29, 3) ∧ decode cX11_safeBy 56 = .ok (.aload_n 0, 1) ∧ decode cX11_safeBy 57 = .ok (.iload 7, 2) ∧ decode cX11_safeBy 59 = .ok (.iload 5, 2) ∧ decode cX11_safeBy 61 = .ok (.iload_n 3, 1) := by decide +kernel
def dX11_safeBy_32 := bX11_safeBy_32.1
def dX11_safeBy_33 := bX11_safeBy_32.2.1
def dX11_safeBy_35 := bX11_safeBy_32.2.2.1
def dX11_safeBy_36 := bX11_safeBy_32.2.2.2.1
def dX11_safeBy_38 := bX11_safeBy_32.2.2.2.2.1
def dX11_safeBy_40 := bX11_safeBy_32.2.2.2.2.2.1
def dX11_safeBy_43 := bX11_safeBy_32.2.2.2.2.2.2.1
def dX11_safeBy_46 := bX11_safeBy_32.2.2.2.2.2.2.2.1
def dX11_safeBy_48 := bX11_safeBy_32.2.2.2.2.2.2.2.2.1
def dX11_safeBy_49 := bX11_safeBy_32.2.2.2.2.2.2.2.2.2.1
def dX11_safeBy_50 := bX11_safeBy_32.2.2.2.2.2.2.2.2.2.2.1
def dX11_safeBy_53 := bX11_safeBy_32.2.2.2.2.2.2.2.2.2.2.2.1
def dX11_safeBy_56 := bX11_safeBy_32.2.2.2.2.2.2.2.2.2.2.2.2.1
def dX11_safeBy_57 := bX11_safeBy_32.2.2.2.2.2.2.2.2.2.2.2.2.2.1
def dX11_safeBy_59 := bX11_safeBy_32.2.2.2.2.2.2.2.2.2.2.2.2.2.2.1
def dX11_safeBy_61 := bX11_safeBy_32.2.2.2.2.2.2.2.2.2.2.2.2.2.2.2
theorem bX11_safeBy_62 : decode cX11_safeBy 62 = .ok (.invokevirtual 250, 3) ∧ decode cX11_safeBy 65 = .ok (.iload 6, 2) ∧ decode cX11_safeBy 67 = .ok (.if_icmp .le 15, 3) ∧ decode cX11_safeBy 70 = .ok (.aload_n 0, 1) ∧ decode cX11_safeBy 71 = .ok (.iload 7, 2) ∧ decode cX11_safeBy 73 = .ok (.iload 5, 2) ∧ decode cX11_safeBy 75 = .ok (.iload_n 3, 1) ∧ decode cX11_safeBy 76 = .ok (.invokevirtual 250, 3) ∧ decode cX11_safeBy 79 = .ok (.goto 5, 3) ∧ decode cX11_safeBy 82 = .ok (.iload 6, 2) ∧ decode cX11_safeBy 84 = .ok (.istore 6, 2) ∧ decode cX11_safeBy 86 = .ok (.iinc 7 1, 3) ∧ decode cX11_safeBy 89 = .ok (.goto (-51), 3) ∧ decode cX11_safeBy 92 = .ok (.iload 4, 2) ∧ decode cX11_safeBy 94 = .ok (.iconst (-1), 1) ∧ decode cX11_safeBy 95 = .ok (.if_icmp .eq 13, 3) := by decide +kernel
def dX11_safeBy_62 := bX11_safeBy_62.1
def dX11_safeBy_65 := bX11_safeBy_62.2.1
def dX11_safeBy_67 := bX11_safeBy_62.2.2.1
def dX11_safeBy_70 := bX11_safeBy_62.2.2.2.1
def dX11_safeBy_71 := bX11_safeBy_62.2.2.2.2.1
def dX11_safeBy_73 := bX11_safeBy_62.2.2.2.2.2.1
def dX11_safeBy_75 := bX11_safeBy_62.2.2.2.2.2.2.1
def dX11_safeBy_76 := bX11_safeBy_62.2.2.2.2.2.2.2.1
def dX11_safeBy_79 := bX11_safeBy_62.2.2.2.2.2.2.2.2.1
def dX11_safeBy_82 := bX11_safeBy_62.2.2.2.2.2.2.2.2.2.1
def dX11_safeBy_84 := bX11_safeBy_62.2.2.2.2.2.2.2.2.2.2.1
def dX11_safeBy_86 := bX11_safeBy_62.2.2.2.2.2.2.2.2.2.2.2.1
def dX11_safeBy_89 := bX11_safeBy_62.2.2.2.2.2.2.2.2.2.2.2.2.1
def dX11_safeBy_92 := bX11_safeBy_62.2.2.2.2.2.2.2.2.2.2.2.2.2.1
def dX11_safeBy_94 := bX11_safeBy_62.2.2.2.2.2.2.2.2.2.2.2.2.2.2.1
def dX11_safeBy_95 := bX11_safeBy_62.2.2.2.2.2.2.2.2.2.2.2.2.2.2.2
theorem bX11_safeBy_98 : decode cX11_safeBy 98 = .ok (.iload 6, 2) ∧ decode cX11_safeBy 100 = .ok (.iload 4, 2) ∧ decode cX11_safeBy 102 = .ok (.if_icmp .lt 6, 3) ∧ decode cX11_safeBy 105 = .ok (.goto 13, 3) ∧ decode cX11_safeBy 108 = .ok (.iload 6, 2) ∧ decode cX11_safeBy 110 = .ok (.istore 4, 2) ∧ decode cX11_safeBy 112 = .ok (.aload_n 0, 1) ∧ decode cX11_safeBy 113 = .ok (.iload 5, 2) ∧ decode cX11_safeBy 115 = .ok (.putfield 244, 3) ∧ decode cX11_safeBy 118 = .ok (.iinc 5 1, 3) ∧ decode cX11_safeBy 121 = .ok (.goto (-110), 3) ∧ decode cX11_safeBy 124 = .ok (.iload 4, 2) ∧ decode cX11_safeBy 126 = .ok (.ireturn, 1) := by decide +kernel
def dX11_safeBy_98 := bX11_safeBy_98.1
def dX11_safeBy_100 := bX11_safeBy_98.2.1
def dX11_safeBy_102 := bX11_safeBy_98.2.2.1
def dX11_safeBy_105 := bX11_safeBy_98.2.2.2.1
def dX11_safeBy_108 := bX11_safeBy_98.2.2.2.2.1
def dX11_safeBy_110 := bX11_safeBy_98.2.2.2.2.2.1
def dX11_safeBy_112 := bX11_safeBy_98.2.2.2.2.2.2.1
def dX11_safeBy_113 := bX11_safeBy_98.2.2.2.2.2.2.2.1
def dX11_safeBy_115 := bX11_safeBy_98.2.2.2.2.2.2.2.2.1
def dX11_safeBy_118 := bX11_safeBy_98.2.2.2.2.2.2.2.2.2.1
def dX11_safeBy_121 := bX11_safeBy_98.2.2.2.2.2.2.2.2.2.2.1
def dX11_safeBy_124 := bX11_safeBy_98.2.2.2.2.2.2.2.2.2.2.2.1
def dX11_safeBy_126 := bX11_safeBy_98.2.2.2.2.2.2.2.2.2.2.2.2
theorem ggX11_sureBy_X11_puts0 : GoodIn wsX11_sureBy wsX11_puts0 := gW_in gwX11_puts0 (fun _ h => List.mem_cons_of_mem _ (List.mem_append_right _ (List.mem_append_right _ (List.mem_append_left _ h))))
set_option maxRecDepth 20000 in
theorem gX11_sureBy_X11_puts0 : GoodIn wsX11_sureBy (va_wsS RX11 247 yX11_puts0 wsX11_puts0) := goodIn_app (goodIn_of _ (by decide +kernel)) ggX11_sureBy_X11_puts0
theorem ggX11_sureBy_X11_falls : GoodIn wsX11_sureBy wsX11_falls := gW_in gwX11_falls (fun _ h => List.mem_cons_of_mem _ (List.mem_append_right _ (List.mem_append_right _ (List.mem_append_right _ (h)))))
set_option maxRecDepth 20000 in
theorem gX11_sureBy_X11_falls : GoodIn wsX11_sureBy (wsV RX11 250 RX11 yX11_falls wsX11_falls) := goodIn_app (goodIn_of _ (by decide +kernel)) ggX11_sureBy_X11_falls
theorem bX11_sureBy_0 : decode cX11_sureBy 0 = .ok (.iconst 0, 1) ∧ decode cX11_sureBy 1 = .ok (.istore 4, 2) ∧ decode cX11_sureBy 3 = .ok (.iconst 0, 1) ∧ decode cX11_sureBy 4 = .ok (.istore 5, 2) ∧ decode cX11_sureBy 6 = .ok (.iload 5, 2) ∧ decode cX11_sureBy 8 = .ok (.sipush 343, 3) ∧ decode cX11_sureBy 11 = .ok (.if_icmp .ge 99, 3) ∧ decode cX11_sureBy 14 = .ok (.iload 5, 2) ∧ decode cX11_sureBy 16 = .ok (.iload_n 1, 1) ∧ decode cX11_sureBy 17 = .ok (.iload_n 3, 1) ∧ decode cX11_sureBy 18 = .ok (.invokestatic 247, 3) ∧ decode cX11_sureBy 21 = .ok (.ifCond .ne 6, 3) ∧ decode cX11_sureBy 24 = .ok (.goto 80, 3) ∧ decode cX11_sureBy 27 = .ok (.iconst (-1), 1) ∧ decode cX11_sureBy 28 = .ok (.istore 6, 2) ∧ decode cX11_sureBy 30 = .ok (.iconst 0, 1) := by decide +kernel
def dX11_sureBy_0 := bX11_sureBy_0.1
def dX11_sureBy_1 := bX11_sureBy_0.2.1
def dX11_sureBy_3 := bX11_sureBy_0.2.2.1
def dX11_sureBy_4 := bX11_sureBy_0.2.2.2.1
def dX11_sureBy_6 := bX11_sureBy_0.2.2.2.2.1
def dX11_sureBy_8 := bX11_sureBy_0.2.2.2.2.2.1
def dX11_sureBy_11 := bX11_sureBy_0.2.2.2.2.2.2.1
def dX11_sureBy_14 := bX11_sureBy_0.2.2.2.2.2.2.2.1
def dX11_sureBy_16 := bX11_sureBy_0.2.2.2.2.2.2.2.2.1
def dX11_sureBy_17 := bX11_sureBy_0.2.2.2.2.2.2.2.2.2.1
def dX11_sureBy_18 := bX11_sureBy_0.2.2.2.2.2.2.2.2.2.2.1
def dX11_sureBy_21 := bX11_sureBy_0.2.2.2.2.2.2.2.2.2.2.2.1
def dX11_sureBy_24 := bX11_sureBy_0.2.2.2.2.2.2.2.2.2.2.2.2.1
def dX11_sureBy_27 := bX11_sureBy_0.2.2.2.2.2.2.2.2.2.2.2.2.2.1
def dX11_sureBy_28 := bX11_sureBy_0.2.2.2.2.2.2.2.2.2.2.2.2.2.2.1
def dX11_sureBy_30 := bX11_sureBy_0.2.2.2.2.2.2.2.2.2.2.2.2.2.2.2
theorem bX11_sureBy_31 : decode cX11_sureBy 31 = .ok (.istore 7, 2) ∧ decode cX11_sureBy 33 = .ok (.iload 7, 2) ∧ decode cX11_sureBy 35 = .ok (.sipush 343, 3) ∧ decode cX11_sureBy 38 = .ok (.if_icmp .ge 50, 3) ∧ decode cX11_sureBy 41 = .ok (.iload 7, 2) ∧ decode cX11_sureBy 43 = .ok (.iload_n 2, 1) ∧ decode cX11_sureBy 44 = .ok (.iload_n 3, 1) ∧ decode cX11_sureBy 45 = .ok (.invokestatic 247, 3) ∧ decode cX11_sureBy 48 = .ok (.ifCond .eq 34, 3) ∧ decode cX11_sureBy 51 = .ok (.iload 6, 2) ∧ decode cX11_sureBy 53 = .ok (.iconst (-1), 1) ∧ decode cX11_sureBy 54 = .ok (.if_icmp .eq 17, 3) ∧ decode cX11_sureBy 57 = .ok (.aload_n 0, 1) ∧ decode cX11_sureBy 58 = .ok (.iload 5, 2) ∧ decode cX11_sureBy 60 = .ok (.iload 7, 2) ∧ decode cX11_sureBy 62 = .ok (.iload_n 3, 1) := by decide +kernel
def dX11_sureBy_31 := bX11_sureBy_31.1
def dX11_sureBy_33 := bX11_sureBy_31.2.1
def dX11_sureBy_35 := bX11_sureBy_31.2.2.1
def dX11_sureBy_38 := bX11_sureBy_31.2.2.2.1
def dX11_sureBy_41 := bX11_sureBy_31.2.2.2.2.1
def dX11_sureBy_43 := bX11_sureBy_31.2.2.2.2.2.1
def dX11_sureBy_44 := bX11_sureBy_31.2.2.2.2.2.2.1
def dX11_sureBy_45 := bX11_sureBy_31.2.2.2.2.2.2.2.1
def dX11_sureBy_48 := bX11_sureBy_31.2.2.2.2.2.2.2.2.1
def dX11_sureBy_51 := bX11_sureBy_31.2.2.2.2.2.2.2.2.2.1
def dX11_sureBy_53 := bX11_sureBy_31.2.2.2.2.2.2.2.2.2.2.1
def dX11_sureBy_54 := bX11_sureBy_31.2.2.2.2.2.2.2.2.2.2.2.1
def dX11_sureBy_57 := bX11_sureBy_31.2.2.2.2.2.2.2.2.2.2.2.2.1
def dX11_sureBy_58 := bX11_sureBy_31.2.2.2.2.2.2.2.2.2.2.2.2.2.1
def dX11_sureBy_60 := bX11_sureBy_31.2.2.2.2.2.2.2.2.2.2.2.2.2.2.1
def dX11_sureBy_62 := bX11_sureBy_31.2.2.2.2.2.2.2.2.2.2.2.2.2.2.2
theorem bX11_sureBy_63 : decode cX11_sureBy 63 = .ok (.invokevirtual 250, 3) ∧ decode cX11_sureBy 66 = .ok (.iload 6, 2) ∧ decode cX11_sureBy 68 = .ok (.if_icmp .ge 14, 3) ∧ decode cX11_sureBy 71 = .ok (.aload_n 0, 1) ∧ decode cX11_sureBy 72 = .ok (.iload 5, 2) ∧ decode cX11_sureBy 74 = .ok (.iload 7, 2) ∧ decode cX11_sureBy 76 = .ok (.iload_n 3, 1) ∧ decode cX11_sureBy 77 = .ok (.invokevirtual 250, 3) ∧ decode cX11_sureBy 80 = .ok (.istore 6, 2) ∧ decode cX11_sureBy 82 = .ok (.iinc 7 1, 3) ∧ decode cX11_sureBy 85 = .ok (.goto (-52), 3) ∧ decode cX11_sureBy 88 = .ok (.iload 6, 2) ∧ decode cX11_sureBy 90 = .ok (.iload 4, 2) ∧ decode cX11_sureBy 92 = .ok (.if_icmp .le 8, 3) ∧ decode cX11_sureBy 95 = .ok (.iload 6, 2) ∧ decode cX11_sureBy 97 = .ok (.goto 5, 3) := by decide +kernel
def dX11_sureBy_63 := bX11_sureBy_63.1
def dX11_sureBy_66 := bX11_sureBy_63.2.1
def dX11_sureBy_68 := bX11_sureBy_63.2.2.1
def dX11_sureBy_71 := bX11_sureBy_63.2.2.2.1
def dX11_sureBy_72 := bX11_sureBy_63.2.2.2.2.1
def dX11_sureBy_74 := bX11_sureBy_63.2.2.2.2.2.1
def dX11_sureBy_76 := bX11_sureBy_63.2.2.2.2.2.2.1
def dX11_sureBy_77 := bX11_sureBy_63.2.2.2.2.2.2.2.1
def dX11_sureBy_80 := bX11_sureBy_63.2.2.2.2.2.2.2.2.1
def dX11_sureBy_82 := bX11_sureBy_63.2.2.2.2.2.2.2.2.2.1
def dX11_sureBy_85 := bX11_sureBy_63.2.2.2.2.2.2.2.2.2.2.1
def dX11_sureBy_88 := bX11_sureBy_63.2.2.2.2.2.2.2.2.2.2.2.1
def dX11_sureBy_90 := bX11_sureBy_63.2.2.2.2.2.2.2.2.2.2.2.2.1
def dX11_sureBy_92 := bX11_sureBy_63.2.2.2.2.2.2.2.2.2.2.2.2.2.1
def dX11_sureBy_95 := bX11_sureBy_63.2.2.2.2.2.2.2.2.2.2.2.2.2.2.1
def dX11_sureBy_97 := bX11_sureBy_63.2.2.2.2.2.2.2.2.2.2.2.2.2.2.2
theorem bX11_sureBy_100 : decode cX11_sureBy 100 = .ok (.iload 4, 2) ∧ decode cX11_sureBy 102 = .ok (.istore 4, 2) ∧ decode cX11_sureBy 104 = .ok (.iinc 5 1, 3) ∧ decode cX11_sureBy 107 = .ok (.goto (-101), 3) ∧ decode cX11_sureBy 110 = .ok (.iload 4, 2) ∧ decode cX11_sureBy 112 = .ok (.ireturn, 1) := by decide +kernel
def dX11_sureBy_100 := bX11_sureBy_100.1
def dX11_sureBy_102 := bX11_sureBy_100.2.1
def dX11_sureBy_104 := bX11_sureBy_100.2.2.1
def dX11_sureBy_107 := bX11_sureBy_100.2.2.2.1
def dX11_sureBy_110 := bX11_sureBy_100.2.2.2.2.1
def dX11_sureBy_112 := bX11_sureBy_100.2.2.2.2.2
theorem ggX11_areTens_X11_in : GoodIn wsX11_areTens wsX11_in := gW_in gwX11_in (fun _ h => List.mem_cons_of_mem _ (List.mem_append_right _ (h)))
set_option maxRecDepth 20000 in
theorem gX11_areTens_X11_in : GoodIn wsX11_areTens (va_wsS RX11 119 yX11_in wsX11_in) := goodIn_app (goodIn_of _ (by decide +kernel)) ggX11_areTens_X11_in
theorem bX11_areTens_0 : decode cX11_areTens 0 = .ok (.iload_n 0, 1) ∧ decode cX11_areTens 1 = .ok (.iconst 0, 1) ∧ decode cX11_areTens 2 = .ok (.bipush 6, 2) ∧ decode cX11_areTens 4 = .ok (.invokestatic 119, 3) ∧ decode cX11_areTens 7 = .ok (.ifCond .eq 17, 3) ∧ decode cX11_areTens 10 = .ok (.iload_n 1, 1) ∧ decode cX11_areTens 11 = .ok (.iconst 0, 1) ∧ decode cX11_areTens 12 = .ok (.bipush 6, 2) ∧ decode cX11_areTens 14 = .ok (.invokestatic 119, 3) ∧ decode cX11_areTens 17 = .ok (.ifCond .eq 7, 3) ∧ decode cX11_areTens 20 = .ok (.iconst 1, 1) ∧ decode cX11_areTens 21 = .ok (.goto 4, 3) ∧ decode cX11_areTens 24 = .ok (.iconst 0, 1) ∧ decode cX11_areTens 25 = .ok (.ireturn, 1) := by decide +kernel
def dX11_areTens_0 := bX11_areTens_0.1
def dX11_areTens_1 := bX11_areTens_0.2.1
def dX11_areTens_2 := bX11_areTens_0.2.2.1
def dX11_areTens_4 := bX11_areTens_0.2.2.2.1
def dX11_areTens_7 := bX11_areTens_0.2.2.2.2.1
def dX11_areTens_10 := bX11_areTens_0.2.2.2.2.2.1
def dX11_areTens_11 := bX11_areTens_0.2.2.2.2.2.2.1
def dX11_areTens_12 := bX11_areTens_0.2.2.2.2.2.2.2.1
def dX11_areTens_14 := bX11_areTens_0.2.2.2.2.2.2.2.2.1
def dX11_areTens_17 := bX11_areTens_0.2.2.2.2.2.2.2.2.2.1
def dX11_areTens_20 := bX11_areTens_0.2.2.2.2.2.2.2.2.2.2.1
def dX11_areTens_21 := bX11_areTens_0.2.2.2.2.2.2.2.2.2.2.2.1
def dX11_areTens_24 := bX11_areTens_0.2.2.2.2.2.2.2.2.2.2.2.2.1
def dX11_areTens_25 := bX11_areTens_0.2.2.2.2.2.2.2.2.2.2.2.2.2
theorem ggX11_earnest_X11_areTens : GoodIn wsX11_earnest wsX11_areTens := gW_in gwX11_areTens (fun _ h => List.mem_cons_of_mem _ (List.mem_append_right _ (List.mem_append_right _ (List.mem_append_left _ h))))
set_option maxRecDepth 20000 in
theorem gX11_earnest_X11_areTens : GoodIn wsX11_earnest (va_wsS RX11 253 yX11_areTens wsX11_areTens) := goodIn_app (goodIn_of _ (by decide +kernel)) ggX11_earnest_X11_areTens
theorem ggX11_earnest_X11_in : GoodIn wsX11_earnest wsX11_in := gW_in gwX11_in (fun _ h => List.mem_cons_of_mem _ (List.mem_append_right _ (List.mem_append_right _ (List.mem_append_right _ (List.mem_append_left _ h)))))
set_option maxRecDepth 20000 in
theorem gX11_earnest_X11_in : GoodIn wsX11_earnest (va_wsS RX11 119 yX11_in wsX11_in) := goodIn_app (goodIn_of _ (by decide +kernel)) ggX11_earnest_X11_in
theorem ggX11_earnest_X11_bad : GoodIn wsX11_earnest wsX11_bad := gW_in gwX11_bad (fun _ h => List.mem_cons_of_mem _ (List.mem_append_right _ (List.mem_append_right _ (List.mem_append_right _ (List.mem_append_right _ (List.mem_append_left _ h))))))
set_option maxRecDepth 20000 in
theorem gX11_earnest_X11_bad : GoodIn wsX11_earnest (wsV RX11 151 RX11 yX11_bad wsX11_bad) := goodIn_app (goodIn_of _ (by decide +kernel)) ggX11_earnest_X11_bad
theorem ggX11_earnest_X11_firstWalls : GoodIn wsX11_earnest wsX11_firstWalls := gW_in gwX11_firstWalls (fun _ h => List.mem_cons_of_mem _ (List.mem_append_right _ (List.mem_append_right _ (List.mem_append_right _ (List.mem_append_right _ (List.mem_append_right _ (List.mem_append_left _ h)))))))
set_option maxRecDepth 20000 in
theorem gX11_earnest_X11_firstWalls : GoodIn wsX11_earnest (wsV RX11 257 RX11 yX11_firstWalls wsX11_firstWalls) := goodIn_app (goodIn_of _ (by decide +kernel)) ggX11_earnest_X11_firstWalls
theorem ggX11_earnest_X11_safeBy : GoodIn wsX11_earnest wsX11_safeBy := gW_in gwX11_safeBy (fun _ h => List.mem_cons_of_mem _ (List.mem_append_right _ (List.mem_append_right _ (List.mem_append_right _ (List.mem_append_right _ (List.mem_append_right _ (List.mem_append_right _ (List.mem_append_left _ h))))))))
set_option maxRecDepth 20000 in
theorem gX11_earnest_X11_safeBy : GoodIn wsX11_earnest (wsV RX11 260 RX11 yX11_safeBy wsX11_safeBy) := goodIn_app (goodIn_of _ (by decide +kernel)) ggX11_earnest_X11_safeBy
theorem ggX11_earnest_X11_sureBy : GoodIn wsX11_earnest wsX11_sureBy := gW_in gwX11_sureBy (fun _ h => List.mem_cons_of_mem _ (List.mem_append_right _ (List.mem_append_right _ (List.mem_append_right _ (List.mem_append_right _ (List.mem_append_right _ (List.mem_append_right _ (List.mem_append_right _ (h)))))))))
set_option maxRecDepth 20000 in
theorem gX11_earnest_X11_sureBy : GoodIn wsX11_earnest (wsV RX11 263 RX11 yX11_sureBy wsX11_sureBy) := goodIn_app (goodIn_of _ (by decide +kernel)) ggX11_earnest_X11_sureBy
theorem bX11_earnest_0 : decode cX11_earnest 0 = .ok (.aload_n 0, 1) ∧ decode cX11_earnest 1 = .ok (.iconst 0, 1) ∧ decode cX11_earnest 2 = .ok (.putfield 85, 3) ∧ decode cX11_earnest 5 = .ok (.aload_n 0, 1) ∧ decode cX11_earnest 6 = .ok (.iload_n 1, 1) ∧ decode cX11_earnest 7 = .ok (.iload_n 2, 1) ∧ decode cX11_earnest 8 = .ok (.invokestatic 253, 3) ∧ decode cX11_earnest 11 = .ok (.ifCond .eq 12, 3) ∧ decode cX11_earnest 14 = .ok (.iload_n 3, 1) ∧ decode cX11_earnest 15 = .ok (.iconst 0, 1) ∧ decode cX11_earnest 16 = .ok (.iconst 1, 1) ∧ decode cX11_earnest 17 = .ok (.invokestatic 119, 3) ∧ decode cX11_earnest 20 = .ok (.ifCond .ne 7, 3) ∧ decode cX11_earnest 23 = .ok (.iconst 1, 1) ∧ decode cX11_earnest 24 = .ok (.goto 4, 3) ∧ decode cX11_earnest 27 = .ok (.iconst 0, 1) := by decide +kernel
def dX11_earnest_0 := bX11_earnest_0.1
def dX11_earnest_1 := bX11_earnest_0.2.1
def dX11_earnest_2 := bX11_earnest_0.2.2.1
def dX11_earnest_5 := bX11_earnest_0.2.2.2.1
def dX11_earnest_6 := bX11_earnest_0.2.2.2.2.1
def dX11_earnest_7 := bX11_earnest_0.2.2.2.2.2.1
def dX11_earnest_8 := bX11_earnest_0.2.2.2.2.2.2.1
def dX11_earnest_11 := bX11_earnest_0.2.2.2.2.2.2.2.1
def dX11_earnest_14 := bX11_earnest_0.2.2.2.2.2.2.2.2.1
def dX11_earnest_15 := bX11_earnest_0.2.2.2.2.2.2.2.2.2.1
def dX11_earnest_16 := bX11_earnest_0.2.2.2.2.2.2.2.2.2.2.1
def dX11_earnest_17 := bX11_earnest_0.2.2.2.2.2.2.2.2.2.2.2.1
def dX11_earnest_20 := bX11_earnest_0.2.2.2.2.2.2.2.2.2.2.2.2.1
def dX11_earnest_23 := bX11_earnest_0.2.2.2.2.2.2.2.2.2.2.2.2.2.1
def dX11_earnest_24 := bX11_earnest_0.2.2.2.2.2.2.2.2.2.2.2.2.2.2.1
def dX11_earnest_27 := bX11_earnest_0.2.2.2.2.2.2.2.2.2.2.2.2.2.2.2
theorem bX11_earnest_28 : decode cX11_earnest 28 = .ok (.iconst 1, 1) ∧ decode cX11_earnest 29 = .ok (.iconst 2, 1) ∧ decode cX11_earnest 30 = .ok (.invokevirtual 151, 3) ∧ decode cX11_earnest 33 = .ok (.ifCond .eq 5, 3) ∧ decode cX11_earnest 36 = .ok (.iconst 0, 1) ∧ decode cX11_earnest 37 = .ok (.ireturn, 1) ∧ decode cX11_earnest 38 = .ok (.iload_n 3, 1) ∧ decode cX11_earnest 39 = .ok (.ifCond .ne 16, 3) ∧ decode cX11_earnest 42 = .ok (.aload_n 0, 1) ∧ decode cX11_earnest 43 = .ok (.iload_n 1, 1) ∧ decode cX11_earnest 44 = .ok (.iload_n 2, 1) ∧ decode cX11_earnest 45 = .ok (.aload_n 0, 1) ∧ decode cX11_earnest 46 = .ok (.invokevirtual 257, 3) ∧ decode cX11_earnest 49 = .ok (.invokevirtual 260, 3) ∧ decode cX11_earnest 52 = .ok (.goto 13, 3) ∧ decode cX11_earnest 55 = .ok (.aload_n 0, 1) := by decide +kernel
def dX11_earnest_28 := bX11_earnest_28.1
def dX11_earnest_29 := bX11_earnest_28.2.1
def dX11_earnest_30 := bX11_earnest_28.2.2.1
def dX11_earnest_33 := bX11_earnest_28.2.2.2.1
def dX11_earnest_36 := bX11_earnest_28.2.2.2.2.1
def dX11_earnest_37 := bX11_earnest_28.2.2.2.2.2.1
def dX11_earnest_38 := bX11_earnest_28.2.2.2.2.2.2.1
def dX11_earnest_39 := bX11_earnest_28.2.2.2.2.2.2.2.1
def dX11_earnest_42 := bX11_earnest_28.2.2.2.2.2.2.2.2.1
def dX11_earnest_43 := bX11_earnest_28.2.2.2.2.2.2.2.2.2.1
def dX11_earnest_44 := bX11_earnest_28.2.2.2.2.2.2.2.2.2.2.1
def dX11_earnest_45 := bX11_earnest_28.2.2.2.2.2.2.2.2.2.2.2.1
def dX11_earnest_46 := bX11_earnest_28.2.2.2.2.2.2.2.2.2.2.2.2.1
def dX11_earnest_49 := bX11_earnest_28.2.2.2.2.2.2.2.2.2.2.2.2.2.1
def dX11_earnest_52 := bX11_earnest_28.2.2.2.2.2.2.2.2.2.2.2.2.2.2.1
def dX11_earnest_55 := bX11_earnest_28.2.2.2.2.2.2.2.2.2.2.2.2.2.2.2
theorem bX11_earnest_56 : decode cX11_earnest 56 = .ok (.iload_n 1, 1) ∧ decode cX11_earnest 57 = .ok (.iload_n 2, 1) ∧ decode cX11_earnest 58 = .ok (.aload_n 0, 1) ∧ decode cX11_earnest 59 = .ok (.invokevirtual 257, 3) ∧ decode cX11_earnest 62 = .ok (.invokevirtual 263, 3) ∧ decode cX11_earnest 65 = .ok (.ireturn, 1) := by decide +kernel
def dX11_earnest_56 := bX11_earnest_56.1
def dX11_earnest_57 := bX11_earnest_56.2.1
def dX11_earnest_58 := bX11_earnest_56.2.2.1
def dX11_earnest_59 := bX11_earnest_56.2.2.2.1
def dX11_earnest_62 := bX11_earnest_56.2.2.2.2.1
def dX11_earnest_65 := bX11_earnest_56.2.2.2.2.2
theorem ggX11_stands_X11_areTens : GoodIn wsX11_stands wsX11_areTens := gW_in gwX11_areTens (fun _ h => List.mem_cons_of_mem _ (List.mem_append_right _ (List.mem_append_right _ (List.mem_append_left _ h))))
set_option maxRecDepth 20000 in
theorem gX11_stands_X11_areTens : GoodIn wsX11_stands (va_wsS RX11 253 yX11_areTens wsX11_areTens) := goodIn_app (goodIn_of _ (by decide +kernel)) ggX11_stands_X11_areTens
theorem ggX11_stands_X11_bad : GoodIn wsX11_stands wsX11_bad := gW_in gwX11_bad (fun _ h => List.mem_cons_of_mem _ (List.mem_append_right _ (List.mem_append_right _ (List.mem_append_right _ (List.mem_append_left _ h)))))
set_option maxRecDepth 20000 in
theorem gX11_stands_X11_bad : GoodIn wsX11_stands (wsV RX11 151 RX11 yX11_bad wsX11_bad) := goodIn_app (goodIn_of _ (by decide +kernel)) ggX11_stands_X11_bad
theorem ggX11_stands_X11_firstWalls : GoodIn wsX11_stands wsX11_firstWalls := gW_in gwX11_firstWalls (fun _ h => List.mem_cons_of_mem _ (List.mem_append_right _ (List.mem_append_right _ (List.mem_append_right _ (List.mem_append_right _ (List.mem_append_left _ h))))))
set_option maxRecDepth 20000 in
theorem gX11_stands_X11_firstWalls : GoodIn wsX11_stands (wsV RX11 257 RX11 yX11_firstWalls wsX11_firstWalls) := goodIn_app (goodIn_of _ (by decide +kernel)) ggX11_stands_X11_firstWalls
theorem ggX11_stands_X11_safeBy : GoodIn wsX11_stands wsX11_safeBy := gW_in gwX11_safeBy (fun _ h => List.mem_cons_of_mem _ (List.mem_append_right _ (List.mem_append_right _ (List.mem_append_right _ (List.mem_append_right _ (List.mem_append_right _ (List.mem_append_left _ h)))))))
set_option maxRecDepth 20000 in
theorem gX11_stands_X11_safeBy : GoodIn wsX11_stands (wsV RX11 260 RX11 yX11_safeBy wsX11_safeBy) := goodIn_app (goodIn_of _ (by decide +kernel)) ggX11_stands_X11_safeBy
theorem ggX11_stands_X11_less : GoodIn wsX11_stands wsX11_less := gW_in gwX11_less (fun _ h => List.mem_cons_of_mem _ (List.mem_append_right _ (List.mem_append_right _ (List.mem_append_right _ (List.mem_append_right _ (List.mem_append_right _ (List.mem_append_right _ (List.mem_append_left _ h))))))))
set_option maxRecDepth 20000 in
theorem gX11_stands_X11_less : GoodIn wsX11_stands (va_wsS RX11 186 yX11_less wsX11_less) := goodIn_app (goodIn_of _ (by decide +kernel)) ggX11_stands_X11_less
theorem ggX11_stands_X11_digit : GoodIn wsX11_stands wsX11_digit := gW_in gwX11_digit (fun _ h => List.mem_cons_of_mem _ (List.mem_append_right _ (List.mem_append_right _ (List.mem_append_right _ (List.mem_append_right _ (List.mem_append_right _ (List.mem_append_right _ (List.mem_append_right _ (h)))))))))
set_option maxRecDepth 20000 in
theorem gX11_stands_X11_digit : GoodIn wsX11_stands (va_wsS RX11 241 yX11_digit wsX11_digit) := goodIn_app (goodIn_of _ (by decide +kernel)) ggX11_stands_X11_digit
theorem bX11_stands_0 : decode cX11_stands 0 = .ok (.aload_n 0, 1) ∧ decode cX11_stands 1 = .ok (.iconst 0, 1) ∧ decode cX11_stands 2 = .ok (.putfield 85, 3) ∧ decode cX11_stands 5 = .ok (.aload_n 0, 1) ∧ decode cX11_stands 6 = .ok (.iload_n 1, 1) ∧ decode cX11_stands 7 = .ok (.iload_n 2, 1) ∧ decode cX11_stands 8 = .ok (.invokestatic 253, 3) ∧ decode cX11_stands 11 = .ok (.ifCond .ne 7, 3) ∧ decode cX11_stands 14 = .ok (.iconst 1, 1) ∧ decode cX11_stands 15 = .ok (.goto 4, 3) ∧ decode cX11_stands 18 = .ok (.iconst 0, 1) ∧ decode cX11_stands 19 = .ok (.iconst 1, 1) ∧ decode cX11_stands 20 = .ok (.iconst 2, 1) ∧ decode cX11_stands 21 = .ok (.invokevirtual 151, 3) ∧ decode cX11_stands 24 = .ok (.ifCond .eq 5, 3) ∧ decode cX11_stands 27 = .ok (.iconst 0, 1) := by decide +kernel
def dX11_stands_0 := bX11_stands_0.1
def dX11_stands_1 := bX11_stands_0.2.1
def dX11_stands_2 := bX11_stands_0.2.2.1
def dX11_stands_5 := bX11_stands_0.2.2.2.1
def dX11_stands_6 := bX11_stands_0.2.2.2.2.1
def dX11_stands_7 := bX11_stands_0.2.2.2.2.2.1
def dX11_stands_8 := bX11_stands_0.2.2.2.2.2.2.1
def dX11_stands_11 := bX11_stands_0.2.2.2.2.2.2.2.1
def dX11_stands_14 := bX11_stands_0.2.2.2.2.2.2.2.2.1
def dX11_stands_15 := bX11_stands_0.2.2.2.2.2.2.2.2.2.1
def dX11_stands_18 := bX11_stands_0.2.2.2.2.2.2.2.2.2.2.1
def dX11_stands_19 := bX11_stands_0.2.2.2.2.2.2.2.2.2.2.2.1
def dX11_stands_20 := bX11_stands_0.2.2.2.2.2.2.2.2.2.2.2.2.1
def dX11_stands_21 := bX11_stands_0.2.2.2.2.2.2.2.2.2.2.2.2.2.1
def dX11_stands_24 := bX11_stands_0.2.2.2.2.2.2.2.2.2.2.2.2.2.2.1
def dX11_stands_27 := bX11_stands_0.2.2.2.2.2.2.2.2.2.2.2.2.2.2.2
theorem bX11_stands_28 : decode cX11_stands 28 = .ok (.ireturn, 1) ∧ decode cX11_stands 29 = .ok (.aload_n 0, 1) ∧ decode cX11_stands 30 = .ok (.iload_n 1, 1) ∧ decode cX11_stands 31 = .ok (.iload_n 2, 1) ∧ decode cX11_stands 32 = .ok (.aload_n 0, 1) ∧ decode cX11_stands 33 = .ok (.invokevirtual 257, 3) ∧ decode cX11_stands 36 = .ok (.invokevirtual 260, 3) ∧ decode cX11_stands 39 = .ok (.pop, 1) ∧ decode cX11_stands 40 = .ok (.iconst 0, 1) ∧ decode cX11_stands 41 = .ok (.istore_n 3, 1) ∧ decode cX11_stands 42 = .ok (.iconst 0, 1) ∧ decode cX11_stands 43 = .ok (.istore 4, 2) ∧ decode cX11_stands 45 = .ok (.iload 4, 2) ∧ decode cX11_stands 47 = .ok (.iconst 3, 1) ∧ decode cX11_stands 48 = .ok (.aload_n 0, 1) ∧ decode cX11_stands 49 = .ok (.getfield 23, 3) := by decide +kernel
def dX11_stands_28 := bX11_stands_28.1
def dX11_stands_29 := bX11_stands_28.2.1
def dX11_stands_30 := bX11_stands_28.2.2.1
def dX11_stands_31 := bX11_stands_28.2.2.2.1
def dX11_stands_32 := bX11_stands_28.2.2.2.2.1
def dX11_stands_33 := bX11_stands_28.2.2.2.2.2.1
def dX11_stands_36 := bX11_stands_28.2.2.2.2.2.2.1
def dX11_stands_39 := bX11_stands_28.2.2.2.2.2.2.2.1
def dX11_stands_40 := bX11_stands_28.2.2.2.2.2.2.2.2.1
def dX11_stands_41 := bX11_stands_28.2.2.2.2.2.2.2.2.2.1
def dX11_stands_42 := bX11_stands_28.2.2.2.2.2.2.2.2.2.2.1
def dX11_stands_43 := bX11_stands_28.2.2.2.2.2.2.2.2.2.2.2.1
def dX11_stands_45 := bX11_stands_28.2.2.2.2.2.2.2.2.2.2.2.2.1
def dX11_stands_47 := bX11_stands_28.2.2.2.2.2.2.2.2.2.2.2.2.2.1
def dX11_stands_48 := bX11_stands_28.2.2.2.2.2.2.2.2.2.2.2.2.2.2.1
def dX11_stands_49 := bX11_stands_28.2.2.2.2.2.2.2.2.2.2.2.2.2.2.2
theorem bX11_stands_52 : decode cX11_stands 52 = .ok (.iconst 0, 1) ∧ decode cX11_stands 53 = .ok (.iaload, 1) ∧ decode cX11_stands 54 = .ok (.invokestatic 186, 3) ∧ decode cX11_stands 57 = .ok (.if_icmp .ge 24, 3) ∧ decode cX11_stands 60 = .ok (.bipush 10, 2) ∧ decode cX11_stands 62 = .ok (.iload_n 3, 1) ∧ decode cX11_stands 63 = .ok (.imul, 1) ∧ decode cX11_stands 64 = .ok (.aload_n 0, 1) ∧ decode cX11_stands 65 = .ok (.getfield 244, 3) ∧ decode cX11_stands 68 = .ok (.iload 4, 2) ∧ decode cX11_stands 70 = .ok (.invokestatic 241, 3) ∧ decode cX11_stands 73 = .ok (.iadd, 1) ∧ decode cX11_stands 74 = .ok (.istore_n 3, 1) ∧ decode cX11_stands 75 = .ok (.iinc 4 1, 3) ∧ decode cX11_stands 78 = .ok (.goto (-33), 3) ∧ decode cX11_stands 81 = .ok (.iload_n 3, 1) := by decide +kernel
def dX11_stands_52 := bX11_stands_52.1
def dX11_stands_53 := bX11_stands_52.2.1
def dX11_stands_54 := bX11_stands_52.2.2.1
def dX11_stands_57 := bX11_stands_52.2.2.2.1
def dX11_stands_60 := bX11_stands_52.2.2.2.2.1
def dX11_stands_62 := bX11_stands_52.2.2.2.2.2.1
def dX11_stands_63 := bX11_stands_52.2.2.2.2.2.2.1
def dX11_stands_64 := bX11_stands_52.2.2.2.2.2.2.2.1
def dX11_stands_65 := bX11_stands_52.2.2.2.2.2.2.2.2.1
def dX11_stands_68 := bX11_stands_52.2.2.2.2.2.2.2.2.2.1
def dX11_stands_70 := bX11_stands_52.2.2.2.2.2.2.2.2.2.2.1
def dX11_stands_73 := bX11_stands_52.2.2.2.2.2.2.2.2.2.2.2.1
def dX11_stands_74 := bX11_stands_52.2.2.2.2.2.2.2.2.2.2.2.2.1
def dX11_stands_75 := bX11_stands_52.2.2.2.2.2.2.2.2.2.2.2.2.2.1
def dX11_stands_78 := bX11_stands_52.2.2.2.2.2.2.2.2.2.2.2.2.2.2.1
def dX11_stands_81 := bX11_stands_52.2.2.2.2.2.2.2.2.2.2.2.2.2.2.2
theorem dX11_stands_82 : decode cX11_stands 82 = .ok (.ireturn, 1) := by decide +kernel
theorem ggX11_show_X11_areTens : GoodIn wsX11_show wsX11_areTens := gW_in gwX11_areTens (fun _ h => List.mem_cons_of_mem _ (List.mem_append_right _ (List.mem_append_right _ (List.mem_append_left _ h))))
set_option maxRecDepth 20000 in
theorem gX11_show_X11_areTens : GoodIn wsX11_show (va_wsS RX11 253 yX11_areTens wsX11_areTens) := goodIn_app (goodIn_of _ (by decide +kernel)) ggX11_show_X11_areTens
theorem ggX11_show_X11_bad : GoodIn wsX11_show wsX11_bad := gW_in gwX11_bad (fun _ h => List.mem_cons_of_mem _ (List.mem_append_right _ (List.mem_append_right _ (List.mem_append_right _ (List.mem_append_left _ h)))))
set_option maxRecDepth 20000 in
theorem gX11_show_X11_bad : GoodIn wsX11_show (wsV RX11 151 RX11 yX11_bad wsX11_bad) := goodIn_app (goodIn_of _ (by decide +kernel)) ggX11_show_X11_bad
theorem ggX11_show_X11_firstWalls : GoodIn wsX11_show wsX11_firstWalls := gW_in gwX11_firstWalls (fun _ h => List.mem_cons_of_mem _ (List.mem_append_right _ (List.mem_append_right _ (List.mem_append_right _ (List.mem_append_right _ (List.mem_append_left _ h))))))
set_option maxRecDepth 20000 in
theorem gX11_show_X11_firstWalls : GoodIn wsX11_show (wsV RX11 257 RX11 yX11_firstWalls wsX11_firstWalls) := goodIn_app (goodIn_of _ (by decide +kernel)) ggX11_show_X11_firstWalls
theorem ggX11_show_X11_safeBy : GoodIn wsX11_show wsX11_safeBy := gW_in gwX11_safeBy (fun _ h => List.mem_cons_of_mem _ (List.mem_append_right _ (List.mem_append_right _ (List.mem_append_right _ (List.mem_append_right _ (List.mem_append_right _ (h)))))))
set_option maxRecDepth 20000 in
theorem gX11_show_X11_safeBy : GoodIn wsX11_show (wsV RX11 260 RX11 yX11_safeBy wsX11_safeBy) := goodIn_app (goodIn_of _ (by decide +kernel)) ggX11_show_X11_safeBy
theorem bX11_show_0 : decode cX11_show 0 = .ok (.aload_n 0, 1) ∧ decode cX11_show 1 = .ok (.iconst 0, 1) ∧ decode cX11_show 2 = .ok (.putfield 85, 3) ∧ decode cX11_show 5 = .ok (.aload_n 0, 1) ∧ decode cX11_show 6 = .ok (.iload_n 1, 1) ∧ decode cX11_show 7 = .ok (.iload_n 2, 1) ∧ decode cX11_show 8 = .ok (.invokestatic 253, 3) ∧ decode cX11_show 11 = .ok (.ifCond .ne 7, 3) ∧ decode cX11_show 14 = .ok (.iconst 1, 1) ∧ decode cX11_show 15 = .ok (.goto 4, 3) ∧ decode cX11_show 18 = .ok (.iconst 0, 1) ∧ decode cX11_show 19 = .ok (.iconst 1, 1) ∧ decode cX11_show 20 = .ok (.iconst 2, 1) ∧ decode cX11_show 21 = .ok (.invokevirtual 151, 3) ∧ decode cX11_show 24 = .ok (.ifCond .eq 5, 3) ∧ decode cX11_show 27 = .ok (.iconst 0, 1) := by decide +kernel
def dX11_show_0 := bX11_show_0.1
def dX11_show_1 := bX11_show_0.2.1
def dX11_show_2 := bX11_show_0.2.2.1
def dX11_show_5 := bX11_show_0.2.2.2.1
def dX11_show_6 := bX11_show_0.2.2.2.2.1
def dX11_show_7 := bX11_show_0.2.2.2.2.2.1
def dX11_show_8 := bX11_show_0.2.2.2.2.2.2.1
def dX11_show_11 := bX11_show_0.2.2.2.2.2.2.2.1
def dX11_show_14 := bX11_show_0.2.2.2.2.2.2.2.2.1
def dX11_show_15 := bX11_show_0.2.2.2.2.2.2.2.2.2.1
def dX11_show_18 := bX11_show_0.2.2.2.2.2.2.2.2.2.2.1
def dX11_show_19 := bX11_show_0.2.2.2.2.2.2.2.2.2.2.2.1
def dX11_show_20 := bX11_show_0.2.2.2.2.2.2.2.2.2.2.2.2.1
def dX11_show_21 := bX11_show_0.2.2.2.2.2.2.2.2.2.2.2.2.2.1
def dX11_show_24 := bX11_show_0.2.2.2.2.2.2.2.2.2.2.2.2.2.2.1
def dX11_show_27 := bX11_show_0.2.2.2.2.2.2.2.2.2.2.2.2.2.2.2
theorem bX11_show_28 : decode cX11_show 28 = .ok (.ireturn, 1) ∧ decode cX11_show 29 = .ok (.aload_n 0, 1) ∧ decode cX11_show 30 = .ok (.invokevirtual 257, 3) ∧ decode cX11_show 33 = .ok (.istore_n 3, 1) ∧ decode cX11_show 34 = .ok (.aload_n 0, 1) ∧ decode cX11_show 35 = .ok (.iload_n 1, 1) ∧ decode cX11_show 36 = .ok (.iload_n 2, 1) ∧ decode cX11_show 37 = .ok (.iload_n 3, 1) ∧ decode cX11_show 38 = .ok (.invokevirtual 260, 3) ∧ decode cX11_show 41 = .ok (.istore 4, 2) ∧ decode cX11_show 43 = .ok (.iconst 0, 1) ∧ decode cX11_show 44 = .ok (.istore 5, 2) ∧ decode cX11_show 46 = .ok (.iconst 0, 1) ∧ decode cX11_show 47 = .ok (.istore 6, 2) ∧ decode cX11_show 49 = .ok (.iload 6, 2) ∧ decode cX11_show 51 = .ok (.iconst 3, 1) := by decide +kernel
def dX11_show_28 := bX11_show_28.1
def dX11_show_29 := bX11_show_28.2.1
def dX11_show_30 := bX11_show_28.2.2.1
def dX11_show_33 := bX11_show_28.2.2.2.1
def dX11_show_34 := bX11_show_28.2.2.2.2.1
def dX11_show_35 := bX11_show_28.2.2.2.2.2.1
def dX11_show_36 := bX11_show_28.2.2.2.2.2.2.1
def dX11_show_37 := bX11_show_28.2.2.2.2.2.2.2.1
def dX11_show_38 := bX11_show_28.2.2.2.2.2.2.2.2.1
def dX11_show_41 := bX11_show_28.2.2.2.2.2.2.2.2.2.1
def dX11_show_43 := bX11_show_28.2.2.2.2.2.2.2.2.2.2.1
def dX11_show_44 := bX11_show_28.2.2.2.2.2.2.2.2.2.2.2.1
def dX11_show_46 := bX11_show_28.2.2.2.2.2.2.2.2.2.2.2.2.1
def dX11_show_47 := bX11_show_28.2.2.2.2.2.2.2.2.2.2.2.2.2.1
def dX11_show_49 := bX11_show_28.2.2.2.2.2.2.2.2.2.2.2.2.2.2.1
def dX11_show_51 := bX11_show_28.2.2.2.2.2.2.2.2.2.2.2.2.2.2.2
theorem bX11_show_52 : decode cX11_show 52 = .ok (.if_icmp .ge 47, 3) ∧ decode cX11_show 55 = .ok (.iload_n 3, 1) ∧ decode cX11_show 56 = .ok (.iload 6, 2) ∧ decode cX11_show 58 = .ok (.ishr, 1) ∧ decode cX11_show 59 = .ok (.iconst 1, 1) ∧ decode cX11_show 60 = .ok (.iand, 1) ∧ decode cX11_show 61 = .ok (.iconst 1, 1) ∧ decode cX11_show 62 = .ok (.if_icmp .ne 31, 3) ∧ decode cX11_show 65 = .ok (.aload_n 0, 1) ∧ decode cX11_show 66 = .ok (.iload_n 1, 1) ∧ decode cX11_show 67 = .ok (.iload_n 2, 1) ∧ decode cX11_show 68 = .ok (.iload_n 3, 1) ∧ decode cX11_show 69 = .ok (.iconst 1, 1) ∧ decode cX11_show 70 = .ok (.iload 6, 2) ∧ decode cX11_show 72 = .ok (.ishl, 1) ∧ decode cX11_show 73 = .ok (.iconst (-1), 1) := by decide +kernel
def dX11_show_52 := bX11_show_52.1
def dX11_show_55 := bX11_show_52.2.1
def dX11_show_56 := bX11_show_52.2.2.1
def dX11_show_58 := bX11_show_52.2.2.2.1
def dX11_show_59 := bX11_show_52.2.2.2.2.1
def dX11_show_60 := bX11_show_52.2.2.2.2.2.1
def dX11_show_61 := bX11_show_52.2.2.2.2.2.2.1
def dX11_show_62 := bX11_show_52.2.2.2.2.2.2.2.1
def dX11_show_65 := bX11_show_52.2.2.2.2.2.2.2.2.1
def dX11_show_66 := bX11_show_52.2.2.2.2.2.2.2.2.2.1
def dX11_show_67 := bX11_show_52.2.2.2.2.2.2.2.2.2.2.1
def dX11_show_68 := bX11_show_52.2.2.2.2.2.2.2.2.2.2.2.1
def dX11_show_69 := bX11_show_52.2.2.2.2.2.2.2.2.2.2.2.2.1
def dX11_show_70 := bX11_show_52.2.2.2.2.2.2.2.2.2.2.2.2.2.1
def dX11_show_72 := bX11_show_52.2.2.2.2.2.2.2.2.2.2.2.2.2.2.1
def dX11_show_73 := bX11_show_52.2.2.2.2.2.2.2.2.2.2.2.2.2.2.2
theorem bX11_show_74 : decode cX11_show 74 = .ok (.ixor, 1) ∧ decode cX11_show 75 = .ok (.iand, 1) ∧ decode cX11_show 76 = .ok (.invokevirtual 260, 3) ∧ decode cX11_show 79 = .ok (.iload 4, 2) ∧ decode cX11_show 81 = .ok (.if_icmp .ne 12, 3) ∧ decode cX11_show 84 = .ok (.iload 5, 2) ∧ decode cX11_show 86 = .ok (.iconst 1, 1) ∧ decode cX11_show 87 = .ok (.iload 6, 2) ∧ decode cX11_show 89 = .ok (.ishl, 1) ∧ decode cX11_show 90 = .ok (.ior, 1) ∧ decode cX11_show 91 = .ok (.istore 5, 2) ∧ decode cX11_show 93 = .ok (.iinc 6 1, 3) ∧ decode cX11_show 96 = .ok (.goto (-47), 3) ∧ decode cX11_show 99 = .ok (.iload 5, 2) ∧ decode cX11_show 101 = .ok (.ireturn, 1) := by decide +kernel
def dX11_show_74 := bX11_show_74.1
def dX11_show_75 := bX11_show_74.2.1
def dX11_show_76 := bX11_show_74.2.2.1
def dX11_show_79 := bX11_show_74.2.2.2.1
def dX11_show_81 := bX11_show_74.2.2.2.2.1
def dX11_show_84 := bX11_show_74.2.2.2.2.2.1
def dX11_show_86 := bX11_show_74.2.2.2.2.2.2.1
def dX11_show_87 := bX11_show_74.2.2.2.2.2.2.2.1
def dX11_show_89 := bX11_show_74.2.2.2.2.2.2.2.2.1
def dX11_show_90 := bX11_show_74.2.2.2.2.2.2.2.2.2.1
def dX11_show_91 := bX11_show_74.2.2.2.2.2.2.2.2.2.2.1
def dX11_show_93 := bX11_show_74.2.2.2.2.2.2.2.2.2.2.2.1
def dX11_show_96 := bX11_show_74.2.2.2.2.2.2.2.2.2.2.2.2.1
def dX11_show_99 := bX11_show_74.2.2.2.2.2.2.2.2.2.2.2.2.2.1
def dX11_show_101 := bX11_show_74.2.2.2.2.2.2.2.2.2.2.2.2.2.2
theorem ggX11_offers_X11_in : GoodIn wsX11_offers wsX11_in := gW_in gwX11_in (fun _ h => List.mem_cons_of_mem _ (List.mem_append_right _ (List.mem_append_right _ (List.mem_append_left _ h))))
set_option maxRecDepth 20000 in
theorem gX11_offers_X11_in : GoodIn wsX11_offers (va_wsS RX11 119 yX11_in wsX11_in) := goodIn_app (goodIn_of _ (by decide +kernel)) ggX11_offers_X11_in
theorem ggX11_offers_X11_bad : GoodIn wsX11_offers wsX11_bad := gW_in gwX11_bad (fun _ h => List.mem_cons_of_mem _ (List.mem_append_right _ (List.mem_append_right _ (List.mem_append_right _ (h)))))
set_option maxRecDepth 20000 in
theorem gX11_offers_X11_bad : GoodIn wsX11_offers (wsV RX11 151 RX11 yX11_bad wsX11_bad) := goodIn_app (goodIn_of _ (by decide +kernel)) ggX11_offers_X11_bad
theorem bX11_offers_0 : decode cX11_offers 0 = .ok (.aload_n 0, 1) ∧ decode cX11_offers 1 = .ok (.iconst 0, 1) ∧ decode cX11_offers 2 = .ok (.putfield 85, 3) ∧ decode cX11_offers 5 = .ok (.aload_n 0, 1) ∧ decode cX11_offers 6 = .ok (.iload_n 1, 1) ∧ decode cX11_offers 7 = .ok (.iconst 1, 1) ∧ decode cX11_offers 8 = .ok (.iconst 2, 1) ∧ decode cX11_offers 9 = .ok (.invokestatic 119, 3) ∧ decode cX11_offers 12 = .ok (.ifCond .eq 24, 3) ∧ decode cX11_offers 15 = .ok (.iload_n 2, 1) ∧ decode cX11_offers 16 = .ok (.iconst 0, 1) ∧ decode cX11_offers 17 = .ok (.bipush 11, 2) ∧ decode cX11_offers 19 = .ok (.invokestatic 119, 3) ∧ decode cX11_offers 22 = .ok (.ifCond .eq 14, 3) ∧ decode cX11_offers 25 = .ok (.iload_n 3, 1) ∧ decode cX11_offers 26 = .ok (.iconst 0, 1) := by decide +kernel
def dX11_offers_0 := bX11_offers_0.1
def dX11_offers_1 := bX11_offers_0.2.1
def dX11_offers_2 := bX11_offers_0.2.2.1
def dX11_offers_5 := bX11_offers_0.2.2.2.1
def dX11_offers_6 := bX11_offers_0.2.2.2.2.1
def dX11_offers_7 := bX11_offers_0.2.2.2.2.2.1
def dX11_offers_8 := bX11_offers_0.2.2.2.2.2.2.1
def dX11_offers_9 := bX11_offers_0.2.2.2.2.2.2.2.1
def dX11_offers_12 := bX11_offers_0.2.2.2.2.2.2.2.2.1
def dX11_offers_15 := bX11_offers_0.2.2.2.2.2.2.2.2.2.1
def dX11_offers_16 := bX11_offers_0.2.2.2.2.2.2.2.2.2.2.1
def dX11_offers_17 := bX11_offers_0.2.2.2.2.2.2.2.2.2.2.2.1
def dX11_offers_19 := bX11_offers_0.2.2.2.2.2.2.2.2.2.2.2.2.1
def dX11_offers_22 := bX11_offers_0.2.2.2.2.2.2.2.2.2.2.2.2.2.1
def dX11_offers_25 := bX11_offers_0.2.2.2.2.2.2.2.2.2.2.2.2.2.2.1
def dX11_offers_26 := bX11_offers_0.2.2.2.2.2.2.2.2.2.2.2.2.2.2.2
theorem bX11_offers_27 : decode cX11_offers 27 = .ok (.sipush 999, 3) ∧ decode cX11_offers 30 = .ok (.invokestatic 119, 3) ∧ decode cX11_offers 33 = .ok (.ifCond .ne 7, 3) ∧ decode cX11_offers 36 = .ok (.iconst 1, 1) ∧ decode cX11_offers 37 = .ok (.goto 4, 3) ∧ decode cX11_offers 40 = .ok (.iconst 0, 1) ∧ decode cX11_offers 41 = .ok (.iconst 1, 1) ∧ decode cX11_offers 42 = .ok (.iconst 2, 1) ∧ decode cX11_offers 43 = .ok (.invokevirtual 151, 3) ∧ decode cX11_offers 46 = .ok (.ifCond .eq 5, 3) ∧ decode cX11_offers 49 = .ok (.iconst 0, 1) ∧ decode cX11_offers 50 = .ok (.ireturn, 1) ∧ decode cX11_offers 51 = .ok (.aload_n 0, 1) ∧ decode cX11_offers 52 = .ok (.getfield 70, 3) ∧ decode cX11_offers 55 = .ok (.iload_n 1, 1) ∧ decode cX11_offers 56 = .ok (.iconst 1, 1) := by decide +kernel
def dX11_offers_27 := bX11_offers_27.1
def dX11_offers_30 := bX11_offers_27.2.1
def dX11_offers_33 := bX11_offers_27.2.2.1
def dX11_offers_36 := bX11_offers_27.2.2.2.1
def dX11_offers_37 := bX11_offers_27.2.2.2.2.1
def dX11_offers_40 := bX11_offers_27.2.2.2.2.2.1
def dX11_offers_41 := bX11_offers_27.2.2.2.2.2.2.1
def dX11_offers_42 := bX11_offers_27.2.2.2.2.2.2.2.1
def dX11_offers_43 := bX11_offers_27.2.2.2.2.2.2.2.2.1
def dX11_offers_46 := bX11_offers_27.2.2.2.2.2.2.2.2.2.1
def dX11_offers_49 := bX11_offers_27.2.2.2.2.2.2.2.2.2.2.1
def dX11_offers_50 := bX11_offers_27.2.2.2.2.2.2.2.2.2.2.2.1
def dX11_offers_51 := bX11_offers_27.2.2.2.2.2.2.2.2.2.2.2.2.1
def dX11_offers_52 := bX11_offers_27.2.2.2.2.2.2.2.2.2.2.2.2.2.1
def dX11_offers_55 := bX11_offers_27.2.2.2.2.2.2.2.2.2.2.2.2.2.2.1
def dX11_offers_56 := bX11_offers_27.2.2.2.2.2.2.2.2.2.2.2.2.2.2.2
theorem bX11_offers_57 : decode cX11_offers 57 = .ok (.isub, 1) ∧ decode cX11_offers 58 = .ok (.aaload, 1) ∧ decode cX11_offers 59 = .ok (.iload_n 2, 1) ∧ decode cX11_offers 60 = .ok (.iaload, 1) ∧ decode cX11_offers 61 = .ok (.istore 4, 2) ∧ decode cX11_offers 63 = .ok (.aload_n 0, 1) ∧ decode cX11_offers 64 = .ok (.getfield 70, 3) ∧ decode cX11_offers 67 = .ok (.iload_n 1, 1) ∧ decode cX11_offers 68 = .ok (.iconst 1, 1) ∧ decode cX11_offers 69 = .ok (.isub, 1) ∧ decode cX11_offers 70 = .ok (.aaload, 1) ∧ decode cX11_offers 71 = .ok (.iload_n 2, 1) ∧ decode cX11_offers 72 = .ok (.iload_n 3, 1) ∧ decode cX11_offers 73 = .ok (.iastore, 1) ∧ decode cX11_offers 74 = .ok (.iload 4, 2) ∧ decode cX11_offers 76 = .ok (.ireturn, 1) := by decide +kernel
def dX11_offers_57 := bX11_offers_57.1
def dX11_offers_58 := bX11_offers_57.2.1
def dX11_offers_59 := bX11_offers_57.2.2.1
def dX11_offers_60 := bX11_offers_57.2.2.2.1
def dX11_offers_61 := bX11_offers_57.2.2.2.2.1
def dX11_offers_63 := bX11_offers_57.2.2.2.2.2.1
def dX11_offers_64 := bX11_offers_57.2.2.2.2.2.2.1
def dX11_offers_67 := bX11_offers_57.2.2.2.2.2.2.2.1
def dX11_offers_68 := bX11_offers_57.2.2.2.2.2.2.2.2.1
def dX11_offers_69 := bX11_offers_57.2.2.2.2.2.2.2.2.2.1
def dX11_offers_70 := bX11_offers_57.2.2.2.2.2.2.2.2.2.2.1
def dX11_offers_71 := bX11_offers_57.2.2.2.2.2.2.2.2.2.2.2.1
def dX11_offers_72 := bX11_offers_57.2.2.2.2.2.2.2.2.2.2.2.2.1
def dX11_offers_73 := bX11_offers_57.2.2.2.2.2.2.2.2.2.2.2.2.2.1
def dX11_offers_74 := bX11_offers_57.2.2.2.2.2.2.2.2.2.2.2.2.2.2.1
def dX11_offers_76 := bX11_offers_57.2.2.2.2.2.2.2.2.2.2.2.2.2.2.2
theorem ggX11_laysRest_X11_mayServe : GoodIn wsX11_laysRest wsX11_mayServe := gW_in gwX11_mayServe (fun _ h => List.mem_cons_of_mem _ (List.mem_append_right _ (List.mem_append_right _ (h))))
set_option maxRecDepth 20000 in
theorem gX11_laysRest_X11_mayServe : GoodIn wsX11_laysRest (va_wsS RX11 266 yX11_mayServe wsX11_mayServe) := goodIn_app (goodIn_of _ (by decide +kernel)) ggX11_laysRest_X11_mayServe
theorem bX11_laysRest_0 : decode cX11_laysRest 0 = .ok (.iconst 0, 1) ∧ decode cX11_laysRest 1 = .ok (.istore_n 1, 1) ∧ decode cX11_laysRest 2 = .ok (.iload_n 1, 1) ∧ decode cX11_laysRest 3 = .ok (.iconst 3, 1) ∧ decode cX11_laysRest 4 = .ok (.if_icmp .ge 19, 3) ∧ decode cX11_laysRest 7 = .ok (.aload_n 0, 1) ∧ decode cX11_laysRest 8 = .ok (.getfield 76, 3) ∧ decode cX11_laysRest 11 = .ok (.bipush 12, 2) ∧ decode cX11_laysRest 13 = .ok (.aaload, 1) ∧ decode cX11_laysRest 14 = .ok (.iload_n 1, 1) ∧ decode cX11_laysRest 15 = .ok (.iconst 0, 1) ∧ decode cX11_laysRest 16 = .ok (.iastore, 1) ∧ decode cX11_laysRest 17 = .ok (.iinc 1 1, 3) ∧ decode cX11_laysRest 20 = .ok (.goto (-18), 3) ∧ decode cX11_laysRest 23 = .ok (.bipush 11, 2) ∧ decode cX11_laysRest 25 = .ok (.istore_n 1, 1) := by decide +kernel
def dX11_laysRest_0 := bX11_laysRest_0.1
def dX11_laysRest_1 := bX11_laysRest_0.2.1
def dX11_laysRest_2 := bX11_laysRest_0.2.2.1
def dX11_laysRest_3 := bX11_laysRest_0.2.2.2.1
def dX11_laysRest_4 := bX11_laysRest_0.2.2.2.2.1
def dX11_laysRest_7 := bX11_laysRest_0.2.2.2.2.2.1
def dX11_laysRest_8 := bX11_laysRest_0.2.2.2.2.2.2.1
def dX11_laysRest_11 := bX11_laysRest_0.2.2.2.2.2.2.2.1
def dX11_laysRest_13 := bX11_laysRest_0.2.2.2.2.2.2.2.2.1
def dX11_laysRest_14 := bX11_laysRest_0.2.2.2.2.2.2.2.2.2.1
def dX11_laysRest_15 := bX11_laysRest_0.2.2.2.2.2.2.2.2.2.2.1
def dX11_laysRest_16 := bX11_laysRest_0.2.2.2.2.2.2.2.2.2.2.2.1
def dX11_laysRest_17 := bX11_laysRest_0.2.2.2.2.2.2.2.2.2.2.2.2.1
def dX11_laysRest_20 := bX11_laysRest_0.2.2.2.2.2.2.2.2.2.2.2.2.2.1
def dX11_laysRest_23 := bX11_laysRest_0.2.2.2.2.2.2.2.2.2.2.2.2.2.2.1
def dX11_laysRest_25 := bX11_laysRest_0.2.2.2.2.2.2.2.2.2.2.2.2.2.2.2
theorem bX11_laysRest_26 : decode cX11_laysRest 26 = .ok (.iload_n 1, 1) ∧ decode cX11_laysRest 27 = .ok (.ifCond .lt 107, 3) ∧ decode cX11_laysRest 30 = .ok (.iconst 0, 1) ∧ decode cX11_laysRest 31 = .ok (.istore_n 2, 1) ∧ decode cX11_laysRest 32 = .ok (.iload_n 2, 1) ∧ decode cX11_laysRest 33 = .ok (.iconst 3, 1) ∧ decode cX11_laysRest 34 = .ok (.if_icmp .ge 94, 3) ∧ decode cX11_laysRest 37 = .ok (.iconst 0, 1) ∧ decode cX11_laysRest 38 = .ok (.istore_n 3, 1) ∧ decode cX11_laysRest 39 = .ok (.iconst 0, 1) ∧ decode cX11_laysRest 40 = .ok (.istore 4, 2) ∧ decode cX11_laysRest 42 = .ok (.iload 4, 2) ∧ decode cX11_laysRest 44 = .ok (.iconst 3, 1) ∧ decode cX11_laysRest 45 = .ok (.if_icmp .ge 49, 3) ∧ decode cX11_laysRest 48 = .ok (.iload_n 2, 1) ∧ decode cX11_laysRest 49 = .ok (.iload 4, 2) := by decide +kernel
def dX11_laysRest_26 := bX11_laysRest_26.1
def dX11_laysRest_27 := bX11_laysRest_26.2.1
def dX11_laysRest_30 := bX11_laysRest_26.2.2.1
def dX11_laysRest_31 := bX11_laysRest_26.2.2.2.1
def dX11_laysRest_32 := bX11_laysRest_26.2.2.2.2.1
def dX11_laysRest_33 := bX11_laysRest_26.2.2.2.2.2.1
def dX11_laysRest_34 := bX11_laysRest_26.2.2.2.2.2.2.1
def dX11_laysRest_37 := bX11_laysRest_26.2.2.2.2.2.2.2.1
def dX11_laysRest_38 := bX11_laysRest_26.2.2.2.2.2.2.2.2.1
def dX11_laysRest_39 := bX11_laysRest_26.2.2.2.2.2.2.2.2.2.1
def dX11_laysRest_40 := bX11_laysRest_26.2.2.2.2.2.2.2.2.2.2.1
def dX11_laysRest_42 := bX11_laysRest_26.2.2.2.2.2.2.2.2.2.2.2.1
def dX11_laysRest_44 := bX11_laysRest_26.2.2.2.2.2.2.2.2.2.2.2.2.1
def dX11_laysRest_45 := bX11_laysRest_26.2.2.2.2.2.2.2.2.2.2.2.2.2.1
def dX11_laysRest_48 := bX11_laysRest_26.2.2.2.2.2.2.2.2.2.2.2.2.2.2.1
def dX11_laysRest_49 := bX11_laysRest_26.2.2.2.2.2.2.2.2.2.2.2.2.2.2.2
theorem bX11_laysRest_51 : decode cX11_laysRest 51 = .ok (.invokestatic 266, 3) ∧ decode cX11_laysRest 54 = .ok (.ifCond .eq 34, 3) ∧ decode cX11_laysRest 57 = .ok (.aload_n 0, 1) ∧ decode cX11_laysRest 58 = .ok (.getfield 76, 3) ∧ decode cX11_laysRest 61 = .ok (.iload_n 1, 1) ∧ decode cX11_laysRest 62 = .ok (.iconst 1, 1) ∧ decode cX11_laysRest 63 = .ok (.iadd, 1) ∧ decode cX11_laysRest 64 = .ok (.aaload, 1) ∧ decode cX11_laysRest 65 = .ok (.iload 4, 2) ∧ decode cX11_laysRest 67 = .ok (.iaload, 1) ∧ decode cX11_laysRest 68 = .ok (.iload_n 3, 1) ∧ decode cX11_laysRest 69 = .ok (.if_icmp .le 17, 3) ∧ decode cX11_laysRest 72 = .ok (.aload_n 0, 1) ∧ decode cX11_laysRest 73 = .ok (.getfield 76, 3) ∧ decode cX11_laysRest 76 = .ok (.iload_n 1, 1) ∧ decode cX11_laysRest 77 = .ok (.iconst 1, 1) := by decide +kernel
def dX11_laysRest_51 := bX11_laysRest_51.1
def dX11_laysRest_54 := bX11_laysRest_51.2.1
def dX11_laysRest_57 := bX11_laysRest_51.2.2.1
def dX11_laysRest_58 := bX11_laysRest_51.2.2.2.1
def dX11_laysRest_61 := bX11_laysRest_51.2.2.2.2.1
def dX11_laysRest_62 := bX11_laysRest_51.2.2.2.2.2.1
def dX11_laysRest_63 := bX11_laysRest_51.2.2.2.2.2.2.1
def dX11_laysRest_64 := bX11_laysRest_51.2.2.2.2.2.2.2.1
def dX11_laysRest_65 := bX11_laysRest_51.2.2.2.2.2.2.2.2.1
def dX11_laysRest_67 := bX11_laysRest_51.2.2.2.2.2.2.2.2.2.1
def dX11_laysRest_68 := bX11_laysRest_51.2.2.2.2.2.2.2.2.2.2.1
def dX11_laysRest_69 := bX11_laysRest_51.2.2.2.2.2.2.2.2.2.2.2.1
def dX11_laysRest_72 := bX11_laysRest_51.2.2.2.2.2.2.2.2.2.2.2.2.1
def dX11_laysRest_73 := bX11_laysRest_51.2.2.2.2.2.2.2.2.2.2.2.2.2.1
def dX11_laysRest_76 := bX11_laysRest_51.2.2.2.2.2.2.2.2.2.2.2.2.2.2.1
def dX11_laysRest_77 := bX11_laysRest_51.2.2.2.2.2.2.2.2.2.2.2.2.2.2.2
theorem bX11_laysRest_78 : decode cX11_laysRest 78 = .ok (.iadd, 1) ∧ decode cX11_laysRest 79 = .ok (.aaload, 1) ∧ decode cX11_laysRest 80 = .ok (.iload 4, 2) ∧ decode cX11_laysRest 82 = .ok (.iaload, 1) ∧ decode cX11_laysRest 83 = .ok (.goto 4, 3) ∧ decode cX11_laysRest 86 = .ok (.iload_n 3, 1) ∧ decode cX11_laysRest 87 = .ok (.istore_n 3, 1) ∧ decode cX11_laysRest 88 = .ok (.iinc 4 1, 3) ∧ decode cX11_laysRest 91 = .ok (.goto (-49), 3) ∧ decode cX11_laysRest 94 = .ok (.aload_n 0, 1) ∧ decode cX11_laysRest 95 = .ok (.getfield 76, 3) ∧ decode cX11_laysRest 98 = .ok (.iload_n 1, 1) ∧ decode cX11_laysRest 99 = .ok (.aaload, 1) ∧ decode cX11_laysRest 100 = .ok (.iload_n 2, 1) ∧ decode cX11_laysRest 101 = .ok (.iload_n 3, 1) ∧ decode cX11_laysRest 102 = .ok (.iload_n 2, 1) := by decide +kernel
def dX11_laysRest_78 := bX11_laysRest_78.1
def dX11_laysRest_79 := bX11_laysRest_78.2.1
def dX11_laysRest_80 := bX11_laysRest_78.2.2.1
def dX11_laysRest_82 := bX11_laysRest_78.2.2.2.1
def dX11_laysRest_83 := bX11_laysRest_78.2.2.2.2.1
def dX11_laysRest_86 := bX11_laysRest_78.2.2.2.2.2.1
def dX11_laysRest_87 := bX11_laysRest_78.2.2.2.2.2.2.1
def dX11_laysRest_88 := bX11_laysRest_78.2.2.2.2.2.2.2.1
def dX11_laysRest_91 := bX11_laysRest_78.2.2.2.2.2.2.2.2.1
def dX11_laysRest_94 := bX11_laysRest_78.2.2.2.2.2.2.2.2.2.1
def dX11_laysRest_95 := bX11_laysRest_78.2.2.2.2.2.2.2.2.2.2.1
def dX11_laysRest_98 := bX11_laysRest_78.2.2.2.2.2.2.2.2.2.2.2.1
def dX11_laysRest_99 := bX11_laysRest_78.2.2.2.2.2.2.2.2.2.2.2.2.1
def dX11_laysRest_100 := bX11_laysRest_78.2.2.2.2.2.2.2.2.2.2.2.2.2.1
def dX11_laysRest_101 := bX11_laysRest_78.2.2.2.2.2.2.2.2.2.2.2.2.2.2.1
def dX11_laysRest_102 := bX11_laysRest_78.2.2.2.2.2.2.2.2.2.2.2.2.2.2.2
theorem bX11_laysRest_103 : decode cX11_laysRest 103 = .ok (.ifCond .ne 7, 3) ∧ decode cX11_laysRest 106 = .ok (.iconst 0, 1) ∧ decode cX11_laysRest 107 = .ok (.goto 13, 3) ∧ decode cX11_laysRest 110 = .ok (.aload_n 0, 1) ∧ decode cX11_laysRest 111 = .ok (.getfield 70, 3) ∧ decode cX11_laysRest 114 = .ok (.iload_n 2, 1) ∧ decode cX11_laysRest 115 = .ok (.iconst 1, 1) ∧ decode cX11_laysRest 116 = .ok (.isub, 1) ∧ decode cX11_laysRest 117 = .ok (.aaload, 1) ∧ decode cX11_laysRest 118 = .ok (.iload_n 1, 1) ∧ decode cX11_laysRest 119 = .ok (.iaload, 1) ∧ decode cX11_laysRest 120 = .ok (.iadd, 1) ∧ decode cX11_laysRest 121 = .ok (.iastore, 1) ∧ decode cX11_laysRest 122 = .ok (.iinc 2 1, 3) ∧ decode cX11_laysRest 125 = .ok (.goto (-93), 3) ∧ decode cX11_laysRest 128 = .ok (.iinc 1 (-1), 3) := by decide +kernel
def dX11_laysRest_103 := bX11_laysRest_103.1
def dX11_laysRest_106 := bX11_laysRest_103.2.1
def dX11_laysRest_107 := bX11_laysRest_103.2.2.1
def dX11_laysRest_110 := bX11_laysRest_103.2.2.2.1
def dX11_laysRest_111 := bX11_laysRest_103.2.2.2.2.1
def dX11_laysRest_114 := bX11_laysRest_103.2.2.2.2.2.1
def dX11_laysRest_115 := bX11_laysRest_103.2.2.2.2.2.2.1
def dX11_laysRest_116 := bX11_laysRest_103.2.2.2.2.2.2.2.1
def dX11_laysRest_117 := bX11_laysRest_103.2.2.2.2.2.2.2.2.1
def dX11_laysRest_118 := bX11_laysRest_103.2.2.2.2.2.2.2.2.2.1
def dX11_laysRest_119 := bX11_laysRest_103.2.2.2.2.2.2.2.2.2.2.1
def dX11_laysRest_120 := bX11_laysRest_103.2.2.2.2.2.2.2.2.2.2.2.1
def dX11_laysRest_121 := bX11_laysRest_103.2.2.2.2.2.2.2.2.2.2.2.2.1
def dX11_laysRest_122 := bX11_laysRest_103.2.2.2.2.2.2.2.2.2.2.2.2.2.1
def dX11_laysRest_125 := bX11_laysRest_103.2.2.2.2.2.2.2.2.2.2.2.2.2.2.1
def dX11_laysRest_128 := bX11_laysRest_103.2.2.2.2.2.2.2.2.2.2.2.2.2.2.2
theorem bX11_laysRest_131 : decode cX11_laysRest 131 = .ok (.goto (-105), 3) ∧ decode cX11_laysRest 134 = .ok (.return_, 1) := by decide +kernel
def dX11_laysRest_131 := bX11_laysRest_131.1
def dX11_laysRest_134 := bX11_laysRest_131.2
theorem bX11_mayServe_0 : decode cX11_mayServe 0 = .ok (.iload_n 0, 1) ∧ decode cX11_mayServe 1 = .ok (.ifCond .eq 12, 3) ∧ decode cX11_mayServe 4 = .ok (.iload_n 1, 1) ∧ decode cX11_mayServe 5 = .ok (.ifCond .eq 8, 3) ∧ decode cX11_mayServe 8 = .ok (.iload_n 0, 1) ∧ decode cX11_mayServe 9 = .ok (.iload_n 1, 1) ∧ decode cX11_mayServe 10 = .ok (.if_icmp .ne 7, 3) ∧ decode cX11_mayServe 13 = .ok (.iconst 1, 1) ∧ decode cX11_mayServe 14 = .ok (.goto 4, 3) ∧ decode cX11_mayServe 17 = .ok (.iconst 0, 1) ∧ decode cX11_mayServe 18 = .ok (.ireturn, 1) := by decide +kernel
def dX11_mayServe_0 := bX11_mayServe_0.1
def dX11_mayServe_1 := bX11_mayServe_0.2.1
def dX11_mayServe_4 := bX11_mayServe_0.2.2.1
def dX11_mayServe_5 := bX11_mayServe_0.2.2.2.1
def dX11_mayServe_8 := bX11_mayServe_0.2.2.2.2.1
def dX11_mayServe_9 := bX11_mayServe_0.2.2.2.2.2.1
def dX11_mayServe_10 := bX11_mayServe_0.2.2.2.2.2.2.1
def dX11_mayServe_13 := bX11_mayServe_0.2.2.2.2.2.2.2.1
def dX11_mayServe_14 := bX11_mayServe_0.2.2.2.2.2.2.2.2.1
def dX11_mayServe_17 := bX11_mayServe_0.2.2.2.2.2.2.2.2.2.1
def dX11_mayServe_18 := bX11_mayServe_0.2.2.2.2.2.2.2.2.2.2
theorem ggX11_mostNow_X11_laysRest : GoodIn wsX11_mostNow wsX11_laysRest := gW_in gwX11_laysRest (fun _ h => List.mem_cons_of_mem _ (List.mem_append_right _ (List.mem_append_right _ (h))))
set_option maxRecDepth 20000 in
theorem gX11_mostNow_X11_laysRest : GoodIn wsX11_mostNow (wsV RX11 269 RX11 yX11_laysRest wsX11_laysRest) := goodIn_app (goodIn_of _ (by decide +kernel)) ggX11_mostNow_X11_laysRest
theorem bX11_mostNow_0 : decode cX11_mostNow 0 = .ok (.aload_n 0, 1) ∧ decode cX11_mostNow 1 = .ok (.invokevirtual 269, 3) ∧ decode cX11_mostNow 4 = .ok (.aload_n 0, 1) ∧ decode cX11_mostNow 5 = .ok (.getfield 76, 3) ∧ decode cX11_mostNow 8 = .ok (.iconst 0, 1) ∧ decode cX11_mostNow 9 = .ok (.aaload, 1) ∧ decode cX11_mostNow 10 = .ok (.iconst 0, 1) ∧ decode cX11_mostNow 11 = .ok (.iaload, 1) ∧ decode cX11_mostNow 12 = .ok (.istore_n 1, 1) ∧ decode cX11_mostNow 13 = .ok (.iconst 1, 1) ∧ decode cX11_mostNow 14 = .ok (.istore_n 2, 1) ∧ decode cX11_mostNow 15 = .ok (.iload_n 2, 1) ∧ decode cX11_mostNow 16 = .ok (.iconst 3, 1) ∧ decode cX11_mostNow 17 = .ok (.if_icmp .ge 34, 3) ∧ decode cX11_mostNow 20 = .ok (.aload_n 0, 1) ∧ decode cX11_mostNow 21 = .ok (.getfield 76, 3) := by decide +kernel
def dX11_mostNow_0 := bX11_mostNow_0.1
def dX11_mostNow_1 := bX11_mostNow_0.2.1
def dX11_mostNow_4 := bX11_mostNow_0.2.2.1
def dX11_mostNow_5 := bX11_mostNow_0.2.2.2.1
def dX11_mostNow_8 := bX11_mostNow_0.2.2.2.2.1
def dX11_mostNow_9 := bX11_mostNow_0.2.2.2.2.2.1
def dX11_mostNow_10 := bX11_mostNow_0.2.2.2.2.2.2.1
def dX11_mostNow_11 := bX11_mostNow_0.2.2.2.2.2.2.2.1
def dX11_mostNow_12 := bX11_mostNow_0.2.2.2.2.2.2.2.2.1
def dX11_mostNow_13 := bX11_mostNow_0.2.2.2.2.2.2.2.2.2.1
def dX11_mostNow_14 := bX11_mostNow_0.2.2.2.2.2.2.2.2.2.2.1
def dX11_mostNow_15 := bX11_mostNow_0.2.2.2.2.2.2.2.2.2.2.2.1
def dX11_mostNow_16 := bX11_mostNow_0.2.2.2.2.2.2.2.2.2.2.2.2.1
def dX11_mostNow_17 := bX11_mostNow_0.2.2.2.2.2.2.2.2.2.2.2.2.2.1
def dX11_mostNow_20 := bX11_mostNow_0.2.2.2.2.2.2.2.2.2.2.2.2.2.2.1
def dX11_mostNow_21 := bX11_mostNow_0.2.2.2.2.2.2.2.2.2.2.2.2.2.2.2
theorem bX11_mostNow_24 : decode cX11_mostNow 24 = .ok (.iconst 0, 1) ∧ decode cX11_mostNow 25 = .ok (.aaload, 1) ∧ decode cX11_mostNow 26 = .ok (.iload_n 2, 1) ∧ decode cX11_mostNow 27 = .ok (.iaload, 1) ∧ decode cX11_mostNow 28 = .ok (.iload_n 1, 1) ∧ decode cX11_mostNow 29 = .ok (.if_icmp .le 14, 3) ∧ decode cX11_mostNow 32 = .ok (.aload_n 0, 1) ∧ decode cX11_mostNow 33 = .ok (.getfield 76, 3) ∧ decode cX11_mostNow 36 = .ok (.iconst 0, 1) ∧ decode cX11_mostNow 37 = .ok (.aaload, 1) ∧ decode cX11_mostNow 38 = .ok (.iload_n 2, 1) ∧ decode cX11_mostNow 39 = .ok (.iaload, 1) ∧ decode cX11_mostNow 40 = .ok (.goto 4, 3) ∧ decode cX11_mostNow 43 = .ok (.iload_n 1, 1) ∧ decode cX11_mostNow 44 = .ok (.istore_n 1, 1) ∧ decode cX11_mostNow 45 = .ok (.iinc 2 1, 3) := by decide +kernel
def dX11_mostNow_24 := bX11_mostNow_24.1
def dX11_mostNow_25 := bX11_mostNow_24.2.1
def dX11_mostNow_26 := bX11_mostNow_24.2.2.1
def dX11_mostNow_27 := bX11_mostNow_24.2.2.2.1
def dX11_mostNow_28 := bX11_mostNow_24.2.2.2.2.1
def dX11_mostNow_29 := bX11_mostNow_24.2.2.2.2.2.1
def dX11_mostNow_32 := bX11_mostNow_24.2.2.2.2.2.2.1
def dX11_mostNow_33 := bX11_mostNow_24.2.2.2.2.2.2.2.1
def dX11_mostNow_36 := bX11_mostNow_24.2.2.2.2.2.2.2.2.1
def dX11_mostNow_37 := bX11_mostNow_24.2.2.2.2.2.2.2.2.2.1
def dX11_mostNow_38 := bX11_mostNow_24.2.2.2.2.2.2.2.2.2.2.1
def dX11_mostNow_39 := bX11_mostNow_24.2.2.2.2.2.2.2.2.2.2.2.1
def dX11_mostNow_40 := bX11_mostNow_24.2.2.2.2.2.2.2.2.2.2.2.2.1
def dX11_mostNow_43 := bX11_mostNow_24.2.2.2.2.2.2.2.2.2.2.2.2.2.1
def dX11_mostNow_44 := bX11_mostNow_24.2.2.2.2.2.2.2.2.2.2.2.2.2.2.1
def dX11_mostNow_45 := bX11_mostNow_24.2.2.2.2.2.2.2.2.2.2.2.2.2.2.2
theorem bX11_mostNow_48 : decode cX11_mostNow 48 = .ok (.goto (-33), 3) ∧ decode cX11_mostNow 51 = .ok (.iload_n 1, 1) ∧ decode cX11_mostNow 52 = .ok (.ireturn, 1) := by decide +kernel
def dX11_mostNow_48 := bX11_mostNow_48.1
def dX11_mostNow_51 := bX11_mostNow_48.2.1
def dX11_mostNow_52 := bX11_mostNow_48.2.2
theorem ggX11_most_X11_mostNow : GoodIn wsX11_most wsX11_mostNow := gW_in gwX11_mostNow (fun _ h => List.mem_cons_of_mem _ (List.mem_append_right _ (List.mem_append_right _ (h))))
set_option maxRecDepth 20000 in
theorem gX11_most_X11_mostNow : GoodIn wsX11_most (wsV RX11 272 RX11 yX11_mostNow wsX11_mostNow) := goodIn_app (goodIn_of _ (by decide +kernel)) ggX11_most_X11_mostNow
theorem bX11_most_0 : decode cX11_most 0 = .ok (.aload_n 0, 1) ∧ decode cX11_most 1 = .ok (.iconst 0, 1) ∧ decode cX11_most 2 = .ok (.putfield 85, 3) ∧ decode cX11_most 5 = .ok (.aload_n 0, 1) ∧ decode cX11_most 6 = .ok (.invokevirtual 272, 3) ∧ decode cX11_most 9 = .ok (.ireturn, 1) := by decide +kernel
def dX11_most_0 := bX11_most_0.1
def dX11_most_1 := bX11_most_0.2.1
def dX11_most_2 := bX11_most_0.2.2.1
def dX11_most_5 := bX11_most_0.2.2.2.1
def dX11_most_6 := bX11_most_0.2.2.2.2.1
def dX11_most_9 := bX11_most_0.2.2.2.2.2
theorem ggX11_serves_X11_in : GoodIn wsX11_serves wsX11_in := gW_in gwX11_in (fun _ h => List.mem_cons_of_mem _ (List.mem_append_right _ (List.mem_append_right _ (List.mem_append_left _ h))))
set_option maxRecDepth 20000 in
theorem gX11_serves_X11_in : GoodIn wsX11_serves (va_wsS RX11 119 yX11_in wsX11_in) := goodIn_app (goodIn_of _ (by decide +kernel)) ggX11_serves_X11_in
theorem ggX11_serves_X11_bad : GoodIn wsX11_serves wsX11_bad := gW_in gwX11_bad (fun _ h => List.mem_cons_of_mem _ (List.mem_append_right _ (List.mem_append_right _ (List.mem_append_right _ (List.mem_append_left _ h)))))
set_option maxRecDepth 20000 in
theorem gX11_serves_X11_bad : GoodIn wsX11_serves (wsV RX11 151 RX11 yX11_bad wsX11_bad) := goodIn_app (goodIn_of _ (by decide +kernel)) ggX11_serves_X11_bad
theorem ggX11_serves_X11_mostNow : GoodIn wsX11_serves wsX11_mostNow := gW_in gwX11_mostNow (fun _ h => List.mem_cons_of_mem _ (List.mem_append_right _ (List.mem_append_right _ (List.mem_append_right _ (List.mem_append_right _ (List.mem_append_left _ h))))))
set_option maxRecDepth 20000 in
theorem gX11_serves_X11_mostNow : GoodIn wsX11_serves (wsV RX11 272 RX11 yX11_mostNow wsX11_mostNow) := goodIn_app (goodIn_of _ (by decide +kernel)) ggX11_serves_X11_mostNow
theorem ggX11_serves_X11_mayServe : GoodIn wsX11_serves wsX11_mayServe := gW_in gwX11_mayServe (fun _ h => List.mem_cons_of_mem _ (List.mem_append_right _ (List.mem_append_right _ (List.mem_append_right _ (List.mem_append_right _ (List.mem_append_right _ (h)))))))
set_option maxRecDepth 20000 in
theorem gX11_serves_X11_mayServe : GoodIn wsX11_serves (va_wsS RX11 266 yX11_mayServe wsX11_mayServe) := goodIn_app (goodIn_of _ (by decide +kernel)) ggX11_serves_X11_mayServe
theorem bX11_serves_0 : decode cX11_serves 0 = .ok (.aload_n 0, 1) ∧ decode cX11_serves 1 = .ok (.iconst 0, 1) ∧ decode cX11_serves 2 = .ok (.putfield 85, 3) ∧ decode cX11_serves 5 = .ok (.aload_n 0, 1) ∧ decode cX11_serves 6 = .ok (.iload_n 1, 1) ∧ decode cX11_serves 7 = .ok (.iconst 0, 1) ∧ decode cX11_serves 8 = .ok (.bipush 11, 2) ∧ decode cX11_serves 10 = .ok (.invokestatic 119, 3) ∧ decode cX11_serves 13 = .ok (.ifCond .ne 7, 3) ∧ decode cX11_serves 16 = .ok (.iconst 1, 1) ∧ decode cX11_serves 17 = .ok (.goto 4, 3) ∧ decode cX11_serves 20 = .ok (.iconst 0, 1) ∧ decode cX11_serves 21 = .ok (.iconst 1, 1) ∧ decode cX11_serves 22 = .ok (.iconst 2, 1) ∧ decode cX11_serves 23 = .ok (.invokevirtual 151, 3) ∧ decode cX11_serves 26 = .ok (.ifCond .eq 5, 3) := by decide +kernel
def dX11_serves_0 := bX11_serves_0.1
def dX11_serves_1 := bX11_serves_0.2.1
def dX11_serves_2 := bX11_serves_0.2.2.1
def dX11_serves_5 := bX11_serves_0.2.2.2.1
def dX11_serves_6 := bX11_serves_0.2.2.2.2.1
def dX11_serves_7 := bX11_serves_0.2.2.2.2.2.1
def dX11_serves_8 := bX11_serves_0.2.2.2.2.2.2.1
def dX11_serves_10 := bX11_serves_0.2.2.2.2.2.2.2.1
def dX11_serves_13 := bX11_serves_0.2.2.2.2.2.2.2.2.1
def dX11_serves_16 := bX11_serves_0.2.2.2.2.2.2.2.2.2.1
def dX11_serves_17 := bX11_serves_0.2.2.2.2.2.2.2.2.2.2.1
def dX11_serves_20 := bX11_serves_0.2.2.2.2.2.2.2.2.2.2.2.1
def dX11_serves_21 := bX11_serves_0.2.2.2.2.2.2.2.2.2.2.2.2.1
def dX11_serves_22 := bX11_serves_0.2.2.2.2.2.2.2.2.2.2.2.2.2.1
def dX11_serves_23 := bX11_serves_0.2.2.2.2.2.2.2.2.2.2.2.2.2.2.1
def dX11_serves_26 := bX11_serves_0.2.2.2.2.2.2.2.2.2.2.2.2.2.2.2
theorem bX11_serves_29 : decode cX11_serves 29 = .ok (.iconst 0, 1) ∧ decode cX11_serves 30 = .ok (.ireturn, 1) ∧ decode cX11_serves 31 = .ok (.aload_n 0, 1) ∧ decode cX11_serves 32 = .ok (.invokevirtual 272, 3) ∧ decode cX11_serves 35 = .ok (.istore_n 2, 1) ∧ decode cX11_serves 36 = .ok (.iconst 0, 1) ∧ decode cX11_serves 37 = .ok (.istore_n 3, 1) ∧ decode cX11_serves 38 = .ok (.iconst 0, 1) ∧ decode cX11_serves 39 = .ok (.istore 4, 2) ∧ decode cX11_serves 41 = .ok (.iconst 0, 1) ∧ decode cX11_serves 42 = .ok (.istore 5, 2) ∧ decode cX11_serves 44 = .ok (.iload 5, 2) ∧ decode cX11_serves 46 = .ok (.iload_n 1, 1) ∧ decode cX11_serves 47 = .ok (.if_icmp .gt 68, 3) ∧ decode cX11_serves 50 = .ok (.iconst 0, 1) ∧ decode cX11_serves 51 = .ok (.istore 4, 2) := by decide +kernel
def dX11_serves_29 := bX11_serves_29.1
def dX11_serves_30 := bX11_serves_29.2.1
def dX11_serves_31 := bX11_serves_29.2.2.1
def dX11_serves_32 := bX11_serves_29.2.2.2.1
def dX11_serves_35 := bX11_serves_29.2.2.2.2.1
def dX11_serves_36 := bX11_serves_29.2.2.2.2.2.1
def dX11_serves_37 := bX11_serves_29.2.2.2.2.2.2.1
def dX11_serves_38 := bX11_serves_29.2.2.2.2.2.2.2.1
def dX11_serves_39 := bX11_serves_29.2.2.2.2.2.2.2.2.1
def dX11_serves_41 := bX11_serves_29.2.2.2.2.2.2.2.2.2.1
def dX11_serves_42 := bX11_serves_29.2.2.2.2.2.2.2.2.2.2.1
def dX11_serves_44 := bX11_serves_29.2.2.2.2.2.2.2.2.2.2.2.1
def dX11_serves_46 := bX11_serves_29.2.2.2.2.2.2.2.2.2.2.2.2.1
def dX11_serves_47 := bX11_serves_29.2.2.2.2.2.2.2.2.2.2.2.2.2.1
def dX11_serves_50 := bX11_serves_29.2.2.2.2.2.2.2.2.2.2.2.2.2.2.1
def dX11_serves_51 := bX11_serves_29.2.2.2.2.2.2.2.2.2.2.2.2.2.2.2
theorem bX11_serves_53 : decode cX11_serves 53 = .ok (.iload_n 3, 1) ∧ decode cX11_serves 54 = .ok (.iload 4, 2) ∧ decode cX11_serves 56 = .ok (.invokestatic 266, 3) ∧ decode cX11_serves 59 = .ok (.ifCond .eq 17, 3) ∧ decode cX11_serves 62 = .ok (.aload_n 0, 1) ∧ decode cX11_serves 63 = .ok (.getfield 76, 3) ∧ decode cX11_serves 66 = .ok (.iload 5, 2) ∧ decode cX11_serves 68 = .ok (.aaload, 1) ∧ decode cX11_serves 69 = .ok (.iload 4, 2) ∧ decode cX11_serves 71 = .ok (.iaload, 1) ∧ decode cX11_serves 72 = .ok (.iload_n 2, 1) ∧ decode cX11_serves 73 = .ok (.if_icmp .eq 9, 3) ∧ decode cX11_serves 76 = .ok (.iinc 4 1, 3) ∧ decode cX11_serves 79 = .ok (.goto (-26), 3) ∧ decode cX11_serves 82 = .ok (.iload_n 2, 1) ∧ decode cX11_serves 83 = .ok (.iload 4, 2) := by decide +kernel
def dX11_serves_53 := bX11_serves_53.1
def dX11_serves_54 := bX11_serves_53.2.1
def dX11_serves_56 := bX11_serves_53.2.2.1
def dX11_serves_59 := bX11_serves_53.2.2.2.1
def dX11_serves_62 := bX11_serves_53.2.2.2.2.1
def dX11_serves_63 := bX11_serves_53.2.2.2.2.2.1
def dX11_serves_66 := bX11_serves_53.2.2.2.2.2.2.1
def dX11_serves_68 := bX11_serves_53.2.2.2.2.2.2.2.1
def dX11_serves_69 := bX11_serves_53.2.2.2.2.2.2.2.2.1
def dX11_serves_71 := bX11_serves_53.2.2.2.2.2.2.2.2.2.1
def dX11_serves_72 := bX11_serves_53.2.2.2.2.2.2.2.2.2.2.1
def dX11_serves_73 := bX11_serves_53.2.2.2.2.2.2.2.2.2.2.2.1
def dX11_serves_76 := bX11_serves_53.2.2.2.2.2.2.2.2.2.2.2.2.1
def dX11_serves_79 := bX11_serves_53.2.2.2.2.2.2.2.2.2.2.2.2.2.1
def dX11_serves_82 := bX11_serves_53.2.2.2.2.2.2.2.2.2.2.2.2.2.2.1
def dX11_serves_83 := bX11_serves_53.2.2.2.2.2.2.2.2.2.2.2.2.2.2.2
theorem bX11_serves_85 : decode cX11_serves 85 = .ok (.ifCond .ne 7, 3) ∧ decode cX11_serves 88 = .ok (.iconst 0, 1) ∧ decode cX11_serves 89 = .ok (.goto 15, 3) ∧ decode cX11_serves 92 = .ok (.aload_n 0, 1) ∧ decode cX11_serves 93 = .ok (.getfield 70, 3) ∧ decode cX11_serves 96 = .ok (.iload 4, 2) ∧ decode cX11_serves 98 = .ok (.iconst 1, 1) ∧ decode cX11_serves 99 = .ok (.isub, 1) ∧ decode cX11_serves 100 = .ok (.aaload, 1) ∧ decode cX11_serves 101 = .ok (.iload 5, 2) ∧ decode cX11_serves 103 = .ok (.iaload, 1) ∧ decode cX11_serves 104 = .ok (.isub, 1) ∧ decode cX11_serves 105 = .ok (.istore_n 2, 1) ∧ decode cX11_serves 106 = .ok (.iload 4, 2) ∧ decode cX11_serves 108 = .ok (.istore_n 3, 1) ∧ decode cX11_serves 109 = .ok (.iinc 5 1, 3) := by decide +kernel
def dX11_serves_85 := bX11_serves_85.1
def dX11_serves_88 := bX11_serves_85.2.1
def dX11_serves_89 := bX11_serves_85.2.2.1
def dX11_serves_92 := bX11_serves_85.2.2.2.1
def dX11_serves_93 := bX11_serves_85.2.2.2.2.1
def dX11_serves_96 := bX11_serves_85.2.2.2.2.2.1
def dX11_serves_98 := bX11_serves_85.2.2.2.2.2.2.1
def dX11_serves_99 := bX11_serves_85.2.2.2.2.2.2.2.1
def dX11_serves_100 := bX11_serves_85.2.2.2.2.2.2.2.2.1
def dX11_serves_101 := bX11_serves_85.2.2.2.2.2.2.2.2.2.1
def dX11_serves_103 := bX11_serves_85.2.2.2.2.2.2.2.2.2.2.1
def dX11_serves_104 := bX11_serves_85.2.2.2.2.2.2.2.2.2.2.2.1
def dX11_serves_105 := bX11_serves_85.2.2.2.2.2.2.2.2.2.2.2.2.1
def dX11_serves_106 := bX11_serves_85.2.2.2.2.2.2.2.2.2.2.2.2.2.1
def dX11_serves_108 := bX11_serves_85.2.2.2.2.2.2.2.2.2.2.2.2.2.2.1
def dX11_serves_109 := bX11_serves_85.2.2.2.2.2.2.2.2.2.2.2.2.2.2.2
theorem bX11_serves_112 : decode cX11_serves 112 = .ok (.goto (-68), 3) ∧ decode cX11_serves 115 = .ok (.iload 4, 2) ∧ decode cX11_serves 117 = .ok (.ireturn, 1) := by decide +kernel
def dX11_serves_112 := bX11_serves_112.1
def dX11_serves_115 := bX11_serves_112.2.1
def dX11_serves_117 := bX11_serves_112.2.2
theorem bX11_moves_0 : decode cX11_moves 0 = .ok (.iload_n 3, 1) ∧ decode cX11_moves 1 = .ok (.ifCond .ne 10, 3) ∧ decode cX11_moves 4 = .ok (.aload_n 1, 1) ∧ decode cX11_moves 5 = .ok (.aload_n 0, 1) ∧ decode cX11_moves 6 = .ok (.getfield 275, 3) ∧ decode cX11_moves 9 = .ok (.iload_n 2, 1) ∧ decode cX11_moves 10 = .ok (.iastore, 1) ∧ decode cX11_moves 11 = .ok (.aload_n 0, 1) ∧ decode cX11_moves 12 = .ok (.dup, 1) ∧ decode cX11_moves 13 = .ok (.getfield 275, 3) ∧ decode cX11_moves 16 = .ok (.iconst 1, 1) ∧ decode cX11_moves 17 = .ok (.iadd, 1) ∧ decode cX11_moves 18 = .ok (.putfield 275, 3) ∧ decode cX11_moves 21 = .ok (.aload_n 1, 1) ∧ decode cX11_moves 22 = .ok (.aload_n 0, 1) ∧ decode cX11_moves 23 = .ok (.getfield 275, 3) := by decide +kernel
def dX11_moves_0 := bX11_moves_0.1
def dX11_moves_1 := bX11_moves_0.2.1
def dX11_moves_4 := bX11_moves_0.2.2.1
def dX11_moves_5 := bX11_moves_0.2.2.2.1
def dX11_moves_6 := bX11_moves_0.2.2.2.2.1
def dX11_moves_9 := bX11_moves_0.2.2.2.2.2.1
def dX11_moves_10 := bX11_moves_0.2.2.2.2.2.2.1
def dX11_moves_11 := bX11_moves_0.2.2.2.2.2.2.2.1
def dX11_moves_12 := bX11_moves_0.2.2.2.2.2.2.2.2.1
def dX11_moves_13 := bX11_moves_0.2.2.2.2.2.2.2.2.2.1
def dX11_moves_16 := bX11_moves_0.2.2.2.2.2.2.2.2.2.2.1
def dX11_moves_17 := bX11_moves_0.2.2.2.2.2.2.2.2.2.2.2.1
def dX11_moves_18 := bX11_moves_0.2.2.2.2.2.2.2.2.2.2.2.2.1
def dX11_moves_21 := bX11_moves_0.2.2.2.2.2.2.2.2.2.2.2.2.2.1
def dX11_moves_22 := bX11_moves_0.2.2.2.2.2.2.2.2.2.2.2.2.2.2.1
def dX11_moves_23 := bX11_moves_0.2.2.2.2.2.2.2.2.2.2.2.2.2.2.2
theorem bX11_moves_26 : decode cX11_moves 26 = .ok (.iconst 1, 1) ∧ decode cX11_moves 27 = .ok (.isub, 1) ∧ decode cX11_moves 28 = .ok (.iaload, 1) ∧ decode cX11_moves 29 = .ok (.ireturn, 1) := by decide +kernel
def dX11_moves_26 := bX11_moves_26.1
def dX11_moves_27 := bX11_moves_26.2.1
def dX11_moves_28 := bX11_moves_26.2.2.1
def dX11_moves_29 := bX11_moves_26.2.2.2
theorem ggX11_movesAll_X11_moves : GoodIn wsX11_movesAll wsX11_moves := gW_in gwX11_moves (fun _ h => List.mem_cons_of_mem _ (List.mem_append_right _ (List.mem_append_right _ (h))))
set_option maxRecDepth 20000 in
theorem gX11_movesAll_X11_moves : GoodIn wsX11_movesAll (wsV RX11 278 RX11 yX11_moves wsX11_moves) := goodIn_app (goodIn_of _ (by decide +kernel)) ggX11_movesAll_X11_moves
theorem bX11_movesAll_0 : decode cX11_movesAll 0 = .ok (.aload_n 0, 1) ∧ decode cX11_movesAll 1 = .ok (.iconst 0, 1) ∧ decode cX11_movesAll 2 = .ok (.putfield 275, 3) ∧ decode cX11_movesAll 5 = .ok (.aload_n 0, 1) ∧ decode cX11_movesAll 6 = .ok (.aload_n 0, 1) ∧ decode cX11_movesAll 7 = .ok (.aload_n 1, 1) ∧ decode cX11_movesAll 8 = .ok (.aload_n 0, 1) ∧ decode cX11_movesAll 9 = .ok (.getfield 58, 3) ∧ decode cX11_movesAll 12 = .ok (.iload_n 2, 1) ∧ decode cX11_movesAll 13 = .ok (.invokevirtual 278, 3) ∧ decode cX11_movesAll 16 = .ok (.putfield 58, 3) ∧ decode cX11_movesAll 19 = .ok (.aload_n 0, 1) ∧ decode cX11_movesAll 20 = .ok (.aload_n 0, 1) ∧ decode cX11_movesAll 21 = .ok (.aload_n 1, 1) ∧ decode cX11_movesAll 22 = .ok (.aload_n 0, 1) ∧ decode cX11_movesAll 23 = .ok (.getfield 61, 3) := by decide +kernel
def dX11_movesAll_0 := bX11_movesAll_0.1
def dX11_movesAll_1 := bX11_movesAll_0.2.1
def dX11_movesAll_2 := bX11_movesAll_0.2.2.1
def dX11_movesAll_5 := bX11_movesAll_0.2.2.2.1
def dX11_movesAll_6 := bX11_movesAll_0.2.2.2.2.1
def dX11_movesAll_7 := bX11_movesAll_0.2.2.2.2.2.1
def dX11_movesAll_8 := bX11_movesAll_0.2.2.2.2.2.2.1
def dX11_movesAll_9 := bX11_movesAll_0.2.2.2.2.2.2.2.1
def dX11_movesAll_12 := bX11_movesAll_0.2.2.2.2.2.2.2.2.1
def dX11_movesAll_13 := bX11_movesAll_0.2.2.2.2.2.2.2.2.2.1
def dX11_movesAll_16 := bX11_movesAll_0.2.2.2.2.2.2.2.2.2.2.1
def dX11_movesAll_19 := bX11_movesAll_0.2.2.2.2.2.2.2.2.2.2.2.1
def dX11_movesAll_20 := bX11_movesAll_0.2.2.2.2.2.2.2.2.2.2.2.2.1
def dX11_movesAll_21 := bX11_movesAll_0.2.2.2.2.2.2.2.2.2.2.2.2.2.1
def dX11_movesAll_22 := bX11_movesAll_0.2.2.2.2.2.2.2.2.2.2.2.2.2.2.1
def dX11_movesAll_23 := bX11_movesAll_0.2.2.2.2.2.2.2.2.2.2.2.2.2.2.2
theorem bX11_movesAll_26 : decode cX11_movesAll 26 = .ok (.iload_n 2, 1) ∧ decode cX11_movesAll 27 = .ok (.invokevirtual 278, 3) ∧ decode cX11_movesAll 30 = .ok (.putfield 61, 3) ∧ decode cX11_movesAll 33 = .ok (.aload_n 0, 1) ∧ decode cX11_movesAll 34 = .ok (.aload_n 0, 1) ∧ decode cX11_movesAll 35 = .ok (.aload_n 1, 1) ∧ decode cX11_movesAll 36 = .ok (.aload_n 0, 1) ∧ decode cX11_movesAll 37 = .ok (.getfield 165, 3) ∧ decode cX11_movesAll 40 = .ok (.iload_n 2, 1) ∧ decode cX11_movesAll 41 = .ok (.invokevirtual 278, 3) ∧ decode cX11_movesAll 44 = .ok (.putfield 165, 3) ∧ decode cX11_movesAll 47 = .ok (.iconst 0, 1) ∧ decode cX11_movesAll 48 = .ok (.istore_n 3, 1) ∧ decode cX11_movesAll 49 = .ok (.iload_n 3, 1) ∧ decode cX11_movesAll 50 = .ok (.iconst 4, 1) ∧ decode cX11_movesAll 51 = .ok (.if_icmp .ge 48, 3) := by decide +kernel
def dX11_movesAll_26 := bX11_movesAll_26.1
def dX11_movesAll_27 := bX11_movesAll_26.2.1
def dX11_movesAll_30 := bX11_movesAll_26.2.2.1
def dX11_movesAll_33 := bX11_movesAll_26.2.2.2.1
def dX11_movesAll_34 := bX11_movesAll_26.2.2.2.2.1
def dX11_movesAll_35 := bX11_movesAll_26.2.2.2.2.2.1
def dX11_movesAll_36 := bX11_movesAll_26.2.2.2.2.2.2.1
def dX11_movesAll_37 := bX11_movesAll_26.2.2.2.2.2.2.2.1
def dX11_movesAll_40 := bX11_movesAll_26.2.2.2.2.2.2.2.2.1
def dX11_movesAll_41 := bX11_movesAll_26.2.2.2.2.2.2.2.2.2.1
def dX11_movesAll_44 := bX11_movesAll_26.2.2.2.2.2.2.2.2.2.2.1
def dX11_movesAll_47 := bX11_movesAll_26.2.2.2.2.2.2.2.2.2.2.2.1
def dX11_movesAll_48 := bX11_movesAll_26.2.2.2.2.2.2.2.2.2.2.2.2.1
def dX11_movesAll_49 := bX11_movesAll_26.2.2.2.2.2.2.2.2.2.2.2.2.2.1
def dX11_movesAll_50 := bX11_movesAll_26.2.2.2.2.2.2.2.2.2.2.2.2.2.2.1
def dX11_movesAll_51 := bX11_movesAll_26.2.2.2.2.2.2.2.2.2.2.2.2.2.2.2
theorem bX11_movesAll_54 : decode cX11_movesAll 54 = .ok (.iconst 0, 1) ∧ decode cX11_movesAll 55 = .ok (.istore 4, 2) ∧ decode cX11_movesAll 57 = .ok (.iload 4, 2) ∧ decode cX11_movesAll 59 = .ok (.iconst 2, 1) ∧ decode cX11_movesAll 60 = .ok (.if_icmp .ge 33, 3) ∧ decode cX11_movesAll 63 = .ok (.aload_n 0, 1) ∧ decode cX11_movesAll 64 = .ok (.getfield 64, 3) ∧ decode cX11_movesAll 67 = .ok (.iload_n 3, 1) ∧ decode cX11_movesAll 68 = .ok (.aaload, 1) ∧ decode cX11_movesAll 69 = .ok (.iload 4, 2) ∧ decode cX11_movesAll 71 = .ok (.aload_n 0, 1) ∧ decode cX11_movesAll 72 = .ok (.aload_n 1, 1) ∧ decode cX11_movesAll 73 = .ok (.aload_n 0, 1) ∧ decode cX11_movesAll 74 = .ok (.getfield 64, 3) ∧ decode cX11_movesAll 77 = .ok (.iload_n 3, 1) ∧ decode cX11_movesAll 78 = .ok (.aaload, 1) := by decide +kernel
def dX11_movesAll_54 := bX11_movesAll_54.1
def dX11_movesAll_55 := bX11_movesAll_54.2.1
def dX11_movesAll_57 := bX11_movesAll_54.2.2.1
def dX11_movesAll_59 := bX11_movesAll_54.2.2.2.1
def dX11_movesAll_60 := bX11_movesAll_54.2.2.2.2.1
def dX11_movesAll_63 := bX11_movesAll_54.2.2.2.2.2.1
def dX11_movesAll_64 := bX11_movesAll_54.2.2.2.2.2.2.1
def dX11_movesAll_67 := bX11_movesAll_54.2.2.2.2.2.2.2.1
def dX11_movesAll_68 := bX11_movesAll_54.2.2.2.2.2.2.2.2.1
def dX11_movesAll_69 := bX11_movesAll_54.2.2.2.2.2.2.2.2.2.1
def dX11_movesAll_71 := bX11_movesAll_54.2.2.2.2.2.2.2.2.2.2.1
def dX11_movesAll_72 := bX11_movesAll_54.2.2.2.2.2.2.2.2.2.2.2.1
def dX11_movesAll_73 := bX11_movesAll_54.2.2.2.2.2.2.2.2.2.2.2.2.1
def dX11_movesAll_74 := bX11_movesAll_54.2.2.2.2.2.2.2.2.2.2.2.2.2.1
def dX11_movesAll_77 := bX11_movesAll_54.2.2.2.2.2.2.2.2.2.2.2.2.2.2.1
def dX11_movesAll_78 := bX11_movesAll_54.2.2.2.2.2.2.2.2.2.2.2.2.2.2.2
theorem bX11_movesAll_79 : decode cX11_movesAll 79 = .ok (.iload 4, 2) ∧ decode cX11_movesAll 81 = .ok (.iaload, 1) ∧ decode cX11_movesAll 82 = .ok (.iload_n 2, 1) ∧ decode cX11_movesAll 83 = .ok (.invokevirtual 278, 3) ∧ decode cX11_movesAll 86 = .ok (.iastore, 1) ∧ decode cX11_movesAll 87 = .ok (.iinc 4 1, 3) ∧ decode cX11_movesAll 90 = .ok (.goto (-33), 3) ∧ decode cX11_movesAll 93 = .ok (.iinc 3 1, 3) ∧ decode cX11_movesAll 96 = .ok (.goto (-47), 3) ∧ decode cX11_movesAll 99 = .ok (.iconst 0, 1) ∧ decode cX11_movesAll 100 = .ok (.istore_n 3, 1) ∧ decode cX11_movesAll 101 = .ok (.iload_n 3, 1) ∧ decode cX11_movesAll 102 = .ok (.bipush 12, 2) ∧ decode cX11_movesAll 104 = .ok (.if_icmp .ge 48, 3) ∧ decode cX11_movesAll 107 = .ok (.iconst 0, 1) ∧ decode cX11_movesAll 108 = .ok (.istore 4, 2) := by decide +kernel
def dX11_movesAll_79 := bX11_movesAll_79.1
def dX11_movesAll_81 := bX11_movesAll_79.2.1
def dX11_movesAll_82 := bX11_movesAll_79.2.2.1
def dX11_movesAll_83 := bX11_movesAll_79.2.2.2.1
def dX11_movesAll_86 := bX11_movesAll_79.2.2.2.2.1
def dX11_movesAll_87 := bX11_movesAll_79.2.2.2.2.2.1
def dX11_movesAll_90 := bX11_movesAll_79.2.2.2.2.2.2.1
def dX11_movesAll_93 := bX11_movesAll_79.2.2.2.2.2.2.2.1
def dX11_movesAll_96 := bX11_movesAll_79.2.2.2.2.2.2.2.2.1
def dX11_movesAll_99 := bX11_movesAll_79.2.2.2.2.2.2.2.2.2.1
def dX11_movesAll_100 := bX11_movesAll_79.2.2.2.2.2.2.2.2.2.2.1
def dX11_movesAll_101 := bX11_movesAll_79.2.2.2.2.2.2.2.2.2.2.2.1
def dX11_movesAll_102 := bX11_movesAll_79.2.2.2.2.2.2.2.2.2.2.2.2.1
def dX11_movesAll_104 := bX11_movesAll_79.2.2.2.2.2.2.2.2.2.2.2.2.2.1
def dX11_movesAll_107 := bX11_movesAll_79.2.2.2.2.2.2.2.2.2.2.2.2.2.2.1
def dX11_movesAll_108 := bX11_movesAll_79.2.2.2.2.2.2.2.2.2.2.2.2.2.2.2
theorem bX11_movesAll_110 : decode cX11_movesAll 110 = .ok (.iload 4, 2) ∧ decode cX11_movesAll 112 = .ok (.iconst 2, 1) ∧ decode cX11_movesAll 113 = .ok (.if_icmp .ge 33, 3) ∧ decode cX11_movesAll 116 = .ok (.aload_n 0, 1) ∧ decode cX11_movesAll 117 = .ok (.getfield 67, 3) ∧ decode cX11_movesAll 120 = .ok (.iload_n 3, 1) ∧ decode cX11_movesAll 121 = .ok (.aaload, 1) ∧ decode cX11_movesAll 122 = .ok (.iload 4, 2) ∧ decode cX11_movesAll 124 = .ok (.aload_n 0, 1) ∧ decode cX11_movesAll 125 = .ok (.aload_n 1, 1) ∧ decode cX11_movesAll 126 = .ok (.aload_n 0, 1) ∧ decode cX11_movesAll 127 = .ok (.getfield 67, 3) ∧ decode cX11_movesAll 130 = .ok (.iload_n 3, 1) ∧ decode cX11_movesAll 131 = .ok (.aaload, 1) ∧ decode cX11_movesAll 132 = .ok (.iload 4, 2) ∧ decode cX11_movesAll 134 = .ok (.iaload, 1) := by decide +kernel
def dX11_movesAll_110 := bX11_movesAll_110.1
def dX11_movesAll_112 := bX11_movesAll_110.2.1
def dX11_movesAll_113 := bX11_movesAll_110.2.2.1
def dX11_movesAll_116 := bX11_movesAll_110.2.2.2.1
def dX11_movesAll_117 := bX11_movesAll_110.2.2.2.2.1
def dX11_movesAll_120 := bX11_movesAll_110.2.2.2.2.2.1
def dX11_movesAll_121 := bX11_movesAll_110.2.2.2.2.2.2.1
def dX11_movesAll_122 := bX11_movesAll_110.2.2.2.2.2.2.2.1
def dX11_movesAll_124 := bX11_movesAll_110.2.2.2.2.2.2.2.2.1
def dX11_movesAll_125 := bX11_movesAll_110.2.2.2.2.2.2.2.2.2.1
def dX11_movesAll_126 := bX11_movesAll_110.2.2.2.2.2.2.2.2.2.2.1
def dX11_movesAll_127 := bX11_movesAll_110.2.2.2.2.2.2.2.2.2.2.2.1
def dX11_movesAll_130 := bX11_movesAll_110.2.2.2.2.2.2.2.2.2.2.2.2.1
def dX11_movesAll_131 := bX11_movesAll_110.2.2.2.2.2.2.2.2.2.2.2.2.2.1
def dX11_movesAll_132 := bX11_movesAll_110.2.2.2.2.2.2.2.2.2.2.2.2.2.2.1
def dX11_movesAll_134 := bX11_movesAll_110.2.2.2.2.2.2.2.2.2.2.2.2.2.2.2
theorem bX11_movesAll_135 : decode cX11_movesAll 135 = .ok (.iload_n 2, 1) ∧ decode cX11_movesAll 136 = .ok (.invokevirtual 278, 3) ∧ decode cX11_movesAll 139 = .ok (.iastore, 1) ∧ decode cX11_movesAll 140 = .ok (.iinc 4 1, 3) ∧ decode cX11_movesAll 143 = .ok (.goto (-33), 3) ∧ decode cX11_movesAll 146 = .ok (.iinc 3 1, 3) ∧ decode cX11_movesAll 149 = .ok (.goto (-48), 3) ∧ decode cX11_movesAll 152 = .ok (.iconst 0, 1) ∧ decode cX11_movesAll 153 = .ok (.istore_n 3, 1) ∧ decode cX11_movesAll 154 = .ok (.iload_n 3, 1) ∧ decode cX11_movesAll 155 = .ok (.bipush 12, 2) ∧ decode cX11_movesAll 157 = .ok (.if_icmp .ge 48, 3) ∧ decode cX11_movesAll 160 = .ok (.iconst 0, 1) ∧ decode cX11_movesAll 161 = .ok (.istore 4, 2) ∧ decode cX11_movesAll 163 = .ok (.iload 4, 2) ∧ decode cX11_movesAll 165 = .ok (.iconst 2, 1) := by decide +kernel
def dX11_movesAll_135 := bX11_movesAll_135.1
def dX11_movesAll_136 := bX11_movesAll_135.2.1
def dX11_movesAll_139 := bX11_movesAll_135.2.2.1
def dX11_movesAll_140 := bX11_movesAll_135.2.2.2.1
def dX11_movesAll_143 := bX11_movesAll_135.2.2.2.2.1
def dX11_movesAll_146 := bX11_movesAll_135.2.2.2.2.2.1
def dX11_movesAll_149 := bX11_movesAll_135.2.2.2.2.2.2.1
def dX11_movesAll_152 := bX11_movesAll_135.2.2.2.2.2.2.2.1
def dX11_movesAll_153 := bX11_movesAll_135.2.2.2.2.2.2.2.2.1
def dX11_movesAll_154 := bX11_movesAll_135.2.2.2.2.2.2.2.2.2.1
def dX11_movesAll_155 := bX11_movesAll_135.2.2.2.2.2.2.2.2.2.2.1
def dX11_movesAll_157 := bX11_movesAll_135.2.2.2.2.2.2.2.2.2.2.2.1
def dX11_movesAll_160 := bX11_movesAll_135.2.2.2.2.2.2.2.2.2.2.2.2.1
def dX11_movesAll_161 := bX11_movesAll_135.2.2.2.2.2.2.2.2.2.2.2.2.2.1
def dX11_movesAll_163 := bX11_movesAll_135.2.2.2.2.2.2.2.2.2.2.2.2.2.2.1
def dX11_movesAll_165 := bX11_movesAll_135.2.2.2.2.2.2.2.2.2.2.2.2.2.2.2
theorem bX11_movesAll_166 : decode cX11_movesAll 166 = .ok (.if_icmp .ge 33, 3) ∧ decode cX11_movesAll 169 = .ok (.aload_n 0, 1) ∧ decode cX11_movesAll 170 = .ok (.getfield 70, 3) ∧ decode cX11_movesAll 173 = .ok (.iload 4, 2) ∧ decode cX11_movesAll 175 = .ok (.aaload, 1) ∧ decode cX11_movesAll 176 = .ok (.iload_n 3, 1) ∧ decode cX11_movesAll 177 = .ok (.aload_n 0, 1) ∧ decode cX11_movesAll 178 = .ok (.aload_n 1, 1) ∧ decode cX11_movesAll 179 = .ok (.aload_n 0, 1) ∧ decode cX11_movesAll 180 = .ok (.getfield 70, 3) ∧ decode cX11_movesAll 183 = .ok (.iload 4, 2) ∧ decode cX11_movesAll 185 = .ok (.aaload, 1) ∧ decode cX11_movesAll 186 = .ok (.iload_n 3, 1) ∧ decode cX11_movesAll 187 = .ok (.iaload, 1) ∧ decode cX11_movesAll 188 = .ok (.iload_n 2, 1) ∧ decode cX11_movesAll 189 = .ok (.invokevirtual 278, 3) := by decide +kernel
def dX11_movesAll_166 := bX11_movesAll_166.1
def dX11_movesAll_169 := bX11_movesAll_166.2.1
def dX11_movesAll_170 := bX11_movesAll_166.2.2.1
def dX11_movesAll_173 := bX11_movesAll_166.2.2.2.1
def dX11_movesAll_175 := bX11_movesAll_166.2.2.2.2.1
def dX11_movesAll_176 := bX11_movesAll_166.2.2.2.2.2.1
def dX11_movesAll_177 := bX11_movesAll_166.2.2.2.2.2.2.1
def dX11_movesAll_178 := bX11_movesAll_166.2.2.2.2.2.2.2.1
def dX11_movesAll_179 := bX11_movesAll_166.2.2.2.2.2.2.2.2.1
def dX11_movesAll_180 := bX11_movesAll_166.2.2.2.2.2.2.2.2.2.1
def dX11_movesAll_183 := bX11_movesAll_166.2.2.2.2.2.2.2.2.2.2.1
def dX11_movesAll_185 := bX11_movesAll_166.2.2.2.2.2.2.2.2.2.2.2.1
def dX11_movesAll_186 := bX11_movesAll_166.2.2.2.2.2.2.2.2.2.2.2.2.1
def dX11_movesAll_187 := bX11_movesAll_166.2.2.2.2.2.2.2.2.2.2.2.2.2.1
def dX11_movesAll_188 := bX11_movesAll_166.2.2.2.2.2.2.2.2.2.2.2.2.2.2.1
def dX11_movesAll_189 := bX11_movesAll_166.2.2.2.2.2.2.2.2.2.2.2.2.2.2.2
theorem bX11_movesAll_192 : decode cX11_movesAll 192 = .ok (.iastore, 1) ∧ decode cX11_movesAll 193 = .ok (.iinc 4 1, 3) ∧ decode cX11_movesAll 196 = .ok (.goto (-33), 3) ∧ decode cX11_movesAll 199 = .ok (.iinc 3 1, 3) ∧ decode cX11_movesAll 202 = .ok (.goto (-48), 3) ∧ decode cX11_movesAll 205 = .ok (.iconst 0, 1) ∧ decode cX11_movesAll 206 = .ok (.istore_n 3, 1) ∧ decode cX11_movesAll 207 = .ok (.iload_n 3, 1) ∧ decode cX11_movesAll 208 = .ok (.bipush 25, 2) ∧ decode cX11_movesAll 210 = .ok (.if_icmp .ge 27, 3) ∧ decode cX11_movesAll 213 = .ok (.aload_n 0, 1) ∧ decode cX11_movesAll 214 = .ok (.getfield 46, 3) ∧ decode cX11_movesAll 217 = .ok (.iload_n 3, 1) ∧ decode cX11_movesAll 218 = .ok (.aload_n 0, 1) ∧ decode cX11_movesAll 219 = .ok (.aload_n 1, 1) ∧ decode cX11_movesAll 220 = .ok (.aload_n 0, 1) := by decide +kernel
def dX11_movesAll_192 := bX11_movesAll_192.1
def dX11_movesAll_193 := bX11_movesAll_192.2.1
def dX11_movesAll_196 := bX11_movesAll_192.2.2.1
def dX11_movesAll_199 := bX11_movesAll_192.2.2.2.1
def dX11_movesAll_202 := bX11_movesAll_192.2.2.2.2.1
def dX11_movesAll_205 := bX11_movesAll_192.2.2.2.2.2.1
def dX11_movesAll_206 := bX11_movesAll_192.2.2.2.2.2.2.1
def dX11_movesAll_207 := bX11_movesAll_192.2.2.2.2.2.2.2.1
def dX11_movesAll_208 := bX11_movesAll_192.2.2.2.2.2.2.2.2.1
def dX11_movesAll_210 := bX11_movesAll_192.2.2.2.2.2.2.2.2.2.1
def dX11_movesAll_213 := bX11_movesAll_192.2.2.2.2.2.2.2.2.2.2.1
def dX11_movesAll_214 := bX11_movesAll_192.2.2.2.2.2.2.2.2.2.2.2.1
def dX11_movesAll_217 := bX11_movesAll_192.2.2.2.2.2.2.2.2.2.2.2.2.1
def dX11_movesAll_218 := bX11_movesAll_192.2.2.2.2.2.2.2.2.2.2.2.2.2.1
def dX11_movesAll_219 := bX11_movesAll_192.2.2.2.2.2.2.2.2.2.2.2.2.2.2.1
def dX11_movesAll_220 := bX11_movesAll_192.2.2.2.2.2.2.2.2.2.2.2.2.2.2.2
theorem bX11_movesAll_221 : decode cX11_movesAll 221 = .ok (.getfield 46, 3) ∧ decode cX11_movesAll 224 = .ok (.iload_n 3, 1) ∧ decode cX11_movesAll 225 = .ok (.iaload, 1) ∧ decode cX11_movesAll 226 = .ok (.iload_n 2, 1) ∧ decode cX11_movesAll 227 = .ok (.invokevirtual 278, 3) ∧ decode cX11_movesAll 230 = .ok (.iastore, 1) ∧ decode cX11_movesAll 231 = .ok (.iinc 3 1, 3) ∧ decode cX11_movesAll 234 = .ok (.goto (-27), 3) ∧ decode cX11_movesAll 237 = .ok (.iconst 0, 1) ∧ decode cX11_movesAll 238 = .ok (.istore_n 3, 1) ∧ decode cX11_movesAll 239 = .ok (.iload_n 3, 1) ∧ decode cX11_movesAll 240 = .ok (.bipush 120, 2) ∧ decode cX11_movesAll 242 = .ok (.if_icmp .gt 49, 3) ∧ decode cX11_movesAll 245 = .ok (.iconst 0, 1) ∧ decode cX11_movesAll 246 = .ok (.istore 4, 2) ∧ decode cX11_movesAll 248 = .ok (.iload 4, 2) := by decide +kernel
def dX11_movesAll_221 := bX11_movesAll_221.1
def dX11_movesAll_224 := bX11_movesAll_221.2.1
def dX11_movesAll_225 := bX11_movesAll_221.2.2.1
def dX11_movesAll_226 := bX11_movesAll_221.2.2.2.1
def dX11_movesAll_227 := bX11_movesAll_221.2.2.2.2.1
def dX11_movesAll_230 := bX11_movesAll_221.2.2.2.2.2.1
def dX11_movesAll_231 := bX11_movesAll_221.2.2.2.2.2.2.1
def dX11_movesAll_234 := bX11_movesAll_221.2.2.2.2.2.2.2.1
def dX11_movesAll_237 := bX11_movesAll_221.2.2.2.2.2.2.2.2.1
def dX11_movesAll_238 := bX11_movesAll_221.2.2.2.2.2.2.2.2.2.1
def dX11_movesAll_239 := bX11_movesAll_221.2.2.2.2.2.2.2.2.2.2.1
def dX11_movesAll_240 := bX11_movesAll_221.2.2.2.2.2.2.2.2.2.2.2.1
def dX11_movesAll_242 := bX11_movesAll_221.2.2.2.2.2.2.2.2.2.2.2.2.1
def dX11_movesAll_245 := bX11_movesAll_221.2.2.2.2.2.2.2.2.2.2.2.2.2.1
def dX11_movesAll_246 := bX11_movesAll_221.2.2.2.2.2.2.2.2.2.2.2.2.2.2.1
def dX11_movesAll_248 := bX11_movesAll_221.2.2.2.2.2.2.2.2.2.2.2.2.2.2.2
theorem bX11_movesAll_250 : decode cX11_movesAll 250 = .ok (.bipush 25, 2) ∧ decode cX11_movesAll 252 = .ok (.if_icmp .ge 33, 3) ∧ decode cX11_movesAll 255 = .ok (.aload_n 0, 1) ∧ decode cX11_movesAll 256 = .ok (.getfield 52, 3) ∧ decode cX11_movesAll 259 = .ok (.iload_n 3, 1) ∧ decode cX11_movesAll 260 = .ok (.aaload, 1) ∧ decode cX11_movesAll 261 = .ok (.iload 4, 2) ∧ decode cX11_movesAll 263 = .ok (.aload_n 0, 1) ∧ decode cX11_movesAll 264 = .ok (.aload_n 1, 1) ∧ decode cX11_movesAll 265 = .ok (.aload_n 0, 1) ∧ decode cX11_movesAll 266 = .ok (.getfield 52, 3) ∧ decode cX11_movesAll 269 = .ok (.iload_n 3, 1) ∧ decode cX11_movesAll 270 = .ok (.aaload, 1) ∧ decode cX11_movesAll 271 = .ok (.iload 4, 2) ∧ decode cX11_movesAll 273 = .ok (.iaload, 1) ∧ decode cX11_movesAll 274 = .ok (.iload_n 2, 1) := by decide +kernel
def dX11_movesAll_250 := bX11_movesAll_250.1
def dX11_movesAll_252 := bX11_movesAll_250.2.1
def dX11_movesAll_255 := bX11_movesAll_250.2.2.1
def dX11_movesAll_256 := bX11_movesAll_250.2.2.2.1
def dX11_movesAll_259 := bX11_movesAll_250.2.2.2.2.1
def dX11_movesAll_260 := bX11_movesAll_250.2.2.2.2.2.1
def dX11_movesAll_261 := bX11_movesAll_250.2.2.2.2.2.2.1
def dX11_movesAll_263 := bX11_movesAll_250.2.2.2.2.2.2.2.1
def dX11_movesAll_264 := bX11_movesAll_250.2.2.2.2.2.2.2.2.1
def dX11_movesAll_265 := bX11_movesAll_250.2.2.2.2.2.2.2.2.2.1
def dX11_movesAll_266 := bX11_movesAll_250.2.2.2.2.2.2.2.2.2.2.1
def dX11_movesAll_269 := bX11_movesAll_250.2.2.2.2.2.2.2.2.2.2.2.1
def dX11_movesAll_270 := bX11_movesAll_250.2.2.2.2.2.2.2.2.2.2.2.2.1
def dX11_movesAll_271 := bX11_movesAll_250.2.2.2.2.2.2.2.2.2.2.2.2.2.1
def dX11_movesAll_273 := bX11_movesAll_250.2.2.2.2.2.2.2.2.2.2.2.2.2.2.1
def dX11_movesAll_274 := bX11_movesAll_250.2.2.2.2.2.2.2.2.2.2.2.2.2.2.2
theorem bX11_movesAll_275 : decode cX11_movesAll 275 = .ok (.invokevirtual 278, 3) ∧ decode cX11_movesAll 278 = .ok (.iastore, 1) ∧ decode cX11_movesAll 279 = .ok (.iinc 4 1, 3) ∧ decode cX11_movesAll 282 = .ok (.goto (-34), 3) ∧ decode cX11_movesAll 285 = .ok (.iinc 3 1, 3) ∧ decode cX11_movesAll 288 = .ok (.goto (-49), 3) ∧ decode cX11_movesAll 291 = .ok (.iconst 0, 1) ∧ decode cX11_movesAll 292 = .ok (.istore_n 3, 1) ∧ decode cX11_movesAll 293 = .ok (.iload_n 3, 1) ∧ decode cX11_movesAll 294 = .ok (.bipush 120, 2) ∧ decode cX11_movesAll 296 = .ok (.if_icmp .ge 49, 3) ∧ decode cX11_movesAll 299 = .ok (.iconst 0, 1) ∧ decode cX11_movesAll 300 = .ok (.istore 4, 2) ∧ decode cX11_movesAll 302 = .ok (.iload 4, 2) ∧ decode cX11_movesAll 304 = .ok (.bipush 6, 2) ∧ decode cX11_movesAll 306 = .ok (.if_icmp .ge 33, 3) := by decide +kernel
def dX11_movesAll_275 := bX11_movesAll_275.1
def dX11_movesAll_278 := bX11_movesAll_275.2.1
def dX11_movesAll_279 := bX11_movesAll_275.2.2.1
def dX11_movesAll_282 := bX11_movesAll_275.2.2.2.1
def dX11_movesAll_285 := bX11_movesAll_275.2.2.2.2.1
def dX11_movesAll_288 := bX11_movesAll_275.2.2.2.2.2.1
def dX11_movesAll_291 := bX11_movesAll_275.2.2.2.2.2.2.1
def dX11_movesAll_292 := bX11_movesAll_275.2.2.2.2.2.2.2.1
def dX11_movesAll_293 := bX11_movesAll_275.2.2.2.2.2.2.2.2.1
def dX11_movesAll_294 := bX11_movesAll_275.2.2.2.2.2.2.2.2.2.1
def dX11_movesAll_296 := bX11_movesAll_275.2.2.2.2.2.2.2.2.2.2.1
def dX11_movesAll_299 := bX11_movesAll_275.2.2.2.2.2.2.2.2.2.2.2.1
def dX11_movesAll_300 := bX11_movesAll_275.2.2.2.2.2.2.2.2.2.2.2.2.1
def dX11_movesAll_302 := bX11_movesAll_275.2.2.2.2.2.2.2.2.2.2.2.2.2.1
def dX11_movesAll_304 := bX11_movesAll_275.2.2.2.2.2.2.2.2.2.2.2.2.2.2.1
def dX11_movesAll_306 := bX11_movesAll_275.2.2.2.2.2.2.2.2.2.2.2.2.2.2.2
theorem bX11_movesAll_309 : decode cX11_movesAll 309 = .ok (.aload_n 0, 1) ∧ decode cX11_movesAll 310 = .ok (.getfield 55, 3) ∧ decode cX11_movesAll 313 = .ok (.iload_n 3, 1) ∧ decode cX11_movesAll 314 = .ok (.aaload, 1) ∧ decode cX11_movesAll 315 = .ok (.iload 4, 2) ∧ decode cX11_movesAll 317 = .ok (.aload_n 0, 1) ∧ decode cX11_movesAll 318 = .ok (.aload_n 1, 1) ∧ decode cX11_movesAll 319 = .ok (.aload_n 0, 1) ∧ decode cX11_movesAll 320 = .ok (.getfield 55, 3) ∧ decode cX11_movesAll 323 = .ok (.iload_n 3, 1) ∧ decode cX11_movesAll 324 = .ok (.aaload, 1) ∧ decode cX11_movesAll 325 = .ok (.iload 4, 2) ∧ decode cX11_movesAll 327 = .ok (.iaload, 1) ∧ decode cX11_movesAll 328 = .ok (.iload_n 2, 1) ∧ decode cX11_movesAll 329 = .ok (.invokevirtual 278, 3) ∧ decode cX11_movesAll 332 = .ok (.iastore, 1) := by decide +kernel
def dX11_movesAll_309 := bX11_movesAll_309.1
def dX11_movesAll_310 := bX11_movesAll_309.2.1
def dX11_movesAll_313 := bX11_movesAll_309.2.2.1
def dX11_movesAll_314 := bX11_movesAll_309.2.2.2.1
def dX11_movesAll_315 := bX11_movesAll_309.2.2.2.2.1
def dX11_movesAll_317 := bX11_movesAll_309.2.2.2.2.2.1
def dX11_movesAll_318 := bX11_movesAll_309.2.2.2.2.2.2.1
def dX11_movesAll_319 := bX11_movesAll_309.2.2.2.2.2.2.2.1
def dX11_movesAll_320 := bX11_movesAll_309.2.2.2.2.2.2.2.2.1
def dX11_movesAll_323 := bX11_movesAll_309.2.2.2.2.2.2.2.2.2.1
def dX11_movesAll_324 := bX11_movesAll_309.2.2.2.2.2.2.2.2.2.2.1
def dX11_movesAll_325 := bX11_movesAll_309.2.2.2.2.2.2.2.2.2.2.2.1
def dX11_movesAll_327 := bX11_movesAll_309.2.2.2.2.2.2.2.2.2.2.2.2.1
def dX11_movesAll_328 := bX11_movesAll_309.2.2.2.2.2.2.2.2.2.2.2.2.2.1
def dX11_movesAll_329 := bX11_movesAll_309.2.2.2.2.2.2.2.2.2.2.2.2.2.2.1
def dX11_movesAll_332 := bX11_movesAll_309.2.2.2.2.2.2.2.2.2.2.2.2.2.2.2
theorem bX11_movesAll_333 : decode cX11_movesAll 333 = .ok (.iinc 4 1, 3) ∧ decode cX11_movesAll 336 = .ok (.goto (-34), 3) ∧ decode cX11_movesAll 339 = .ok (.iinc 3 1, 3) ∧ decode cX11_movesAll 342 = .ok (.goto (-49), 3) ∧ decode cX11_movesAll 345 = .ok (.return_, 1) := by decide +kernel
end
section
def dX11_movesAll_333 := bX11_movesAll_333.1
def dX11_movesAll_336 := bX11_movesAll_333.2.1
def dX11_movesAll_339 := bX11_movesAll_333.2.2.1
def dX11_movesAll_342 := bX11_movesAll_333.2.2.2.1
def dX11_movesAll_345 := bX11_movesAll_333.2.2.2.2
theorem ggX11_image_X11_movesAll : GoodIn wsX11_image wsX11_movesAll := gW_in gwX11_movesAll (fun _ h => List.mem_cons_of_mem _ (List.mem_append_right _ (List.mem_append_right _ (h))))
set_option maxRecDepth 20000 in
theorem gX11_image_X11_movesAll : GoodIn wsX11_image (wsV RX11 282 RX11 yX11_movesAll wsX11_movesAll) := goodIn_app (goodIn_of _ (by decide +kernel)) ggX11_image_X11_movesAll
theorem bX11_image_0 : decode cX11_image 0 = .ok (.aload_n 0, 1) ∧ decode cX11_image 1 = .ok (.iconst 0, 1) ∧ decode cX11_image 2 = .ok (.putfield 85, 3) ∧ decode cX11_image 5 = .ok (.aload_n 0, 1) ∧ decode cX11_image 6 = .ok (.getfield 168, 3) ∧ decode cX11_image 9 = .ok (.iconst 3, 1) ∧ decode cX11_image 10 = .ok (.if_icmp .ne 5, 3) ∧ decode cX11_image 13 = .ok (.iconst (-1), 1) ∧ decode cX11_image 14 = .ok (.ireturn, 1) ∧ decode cX11_image 15 = .ok (.aload_n 0, 1) ∧ decode cX11_image 16 = .ok (.aload_n 0, 1) ∧ decode cX11_image 17 = .ok (.getfield 73, 3) ∧ decode cX11_image 20 = .ok (.aload_n 0, 1) ∧ decode cX11_image 21 = .ok (.getfield 168, 3) ∧ decode cX11_image 24 = .ok (.aaload, 1) ∧ decode cX11_image 25 = .ok (.iconst 0, 1) := by decide +kernel
def dX11_image_0 := bX11_image_0.1
def dX11_image_1 := bX11_image_0.2.1
def dX11_image_2 := bX11_image_0.2.2.1
def dX11_image_5 := bX11_image_0.2.2.2.1
def dX11_image_6 := bX11_image_0.2.2.2.2.1
def dX11_image_9 := bX11_image_0.2.2.2.2.2.1
def dX11_image_10 := bX11_image_0.2.2.2.2.2.2.1
def dX11_image_13 := bX11_image_0.2.2.2.2.2.2.2.1
def dX11_image_14 := bX11_image_0.2.2.2.2.2.2.2.2.1
def dX11_image_15 := bX11_image_0.2.2.2.2.2.2.2.2.2.1
def dX11_image_16 := bX11_image_0.2.2.2.2.2.2.2.2.2.2.1
def dX11_image_17 := bX11_image_0.2.2.2.2.2.2.2.2.2.2.2.1
def dX11_image_20 := bX11_image_0.2.2.2.2.2.2.2.2.2.2.2.2.1
def dX11_image_21 := bX11_image_0.2.2.2.2.2.2.2.2.2.2.2.2.2.1
def dX11_image_24 := bX11_image_0.2.2.2.2.2.2.2.2.2.2.2.2.2.2.1
def dX11_image_25 := bX11_image_0.2.2.2.2.2.2.2.2.2.2.2.2.2.2.2
theorem bX11_image_26 : decode cX11_image 26 = .ok (.invokevirtual 282, 3) ∧ decode cX11_image 29 = .ok (.aload_n 0, 1) ∧ decode cX11_image 30 = .ok (.dup, 1) ∧ decode cX11_image 31 = .ok (.getfield 168, 3) ∧ decode cX11_image 34 = .ok (.iconst 1, 1) ∧ decode cX11_image 35 = .ok (.iadd, 1) ∧ decode cX11_image 36 = .ok (.putfield 168, 3) ∧ decode cX11_image 39 = .ok (.aload_n 0, 1) ∧ decode cX11_image 40 = .ok (.getfield 168, 3) ∧ decode cX11_image 43 = .ok (.ireturn, 1) := by decide +kernel
def dX11_image_26 := bX11_image_26.1
def dX11_image_29 := bX11_image_26.2.1
def dX11_image_30 := bX11_image_26.2.2.1
def dX11_image_31 := bX11_image_26.2.2.2.1
def dX11_image_34 := bX11_image_26.2.2.2.2.1
def dX11_image_35 := bX11_image_26.2.2.2.2.2.1
def dX11_image_36 := bX11_image_26.2.2.2.2.2.2.1
def dX11_image_39 := bX11_image_26.2.2.2.2.2.2.2.1
def dX11_image_40 := bX11_image_26.2.2.2.2.2.2.2.2.1
def dX11_image_43 := bX11_image_26.2.2.2.2.2.2.2.2.2
theorem ggX11_restore_X11_movesAll : GoodIn wsX11_restore wsX11_movesAll := gW_in gwX11_movesAll (fun _ h => List.mem_cons_of_mem _ (List.mem_append_right _ (List.mem_append_right _ (h))))
set_option maxRecDepth 20000 in
theorem gX11_restore_X11_movesAll : GoodIn wsX11_restore (wsV RX11 282 RX11 yX11_movesAll wsX11_movesAll) := goodIn_app (goodIn_of _ (by decide +kernel)) ggX11_restore_X11_movesAll
theorem bX11_restore_0 : decode cX11_restore 0 = .ok (.aload_n 0, 1) ∧ decode cX11_restore 1 = .ok (.iconst 0, 1) ∧ decode cX11_restore 2 = .ok (.putfield 85, 3) ∧ decode cX11_restore 5 = .ok (.aload_n 0, 1) ∧ decode cX11_restore 6 = .ok (.getfield 168, 3) ∧ decode cX11_restore 9 = .ok (.ifCond .ne 5, 3) ∧ decode cX11_restore 12 = .ok (.iconst (-1), 1) ∧ decode cX11_restore 13 = .ok (.ireturn, 1) ∧ decode cX11_restore 14 = .ok (.aload_n 0, 1) ∧ decode cX11_restore 15 = .ok (.dup, 1) ∧ decode cX11_restore 16 = .ok (.getfield 168, 3) ∧ decode cX11_restore 19 = .ok (.iconst 1, 1) ∧ decode cX11_restore 20 = .ok (.isub, 1) ∧ decode cX11_restore 21 = .ok (.putfield 168, 3) ∧ decode cX11_restore 24 = .ok (.aload_n 0, 1) ∧ decode cX11_restore 25 = .ok (.aload_n 0, 1) := by decide +kernel
def dX11_restore_0 := bX11_restore_0.1
def dX11_restore_1 := bX11_restore_0.2.1
def dX11_restore_2 := bX11_restore_0.2.2.1
def dX11_restore_5 := bX11_restore_0.2.2.2.1
def dX11_restore_6 := bX11_restore_0.2.2.2.2.1
def dX11_restore_9 := bX11_restore_0.2.2.2.2.2.1
def dX11_restore_12 := bX11_restore_0.2.2.2.2.2.2.1
def dX11_restore_13 := bX11_restore_0.2.2.2.2.2.2.2.1
def dX11_restore_14 := bX11_restore_0.2.2.2.2.2.2.2.2.1
def dX11_restore_15 := bX11_restore_0.2.2.2.2.2.2.2.2.2.1
def dX11_restore_16 := bX11_restore_0.2.2.2.2.2.2.2.2.2.2.1
def dX11_restore_19 := bX11_restore_0.2.2.2.2.2.2.2.2.2.2.2.1
def dX11_restore_20 := bX11_restore_0.2.2.2.2.2.2.2.2.2.2.2.2.1
def dX11_restore_21 := bX11_restore_0.2.2.2.2.2.2.2.2.2.2.2.2.2.1
def dX11_restore_24 := bX11_restore_0.2.2.2.2.2.2.2.2.2.2.2.2.2.2.1
def dX11_restore_25 := bX11_restore_0.2.2.2.2.2.2.2.2.2.2.2.2.2.2.2
theorem bX11_restore_26 : decode cX11_restore 26 = .ok (.getfield 73, 3) ∧ decode cX11_restore 29 = .ok (.aload_n 0, 1) ∧ decode cX11_restore 30 = .ok (.getfield 168, 3) ∧ decode cX11_restore 33 = .ok (.aaload, 1) ∧ decode cX11_restore 34 = .ok (.iconst 1, 1) ∧ decode cX11_restore 35 = .ok (.invokevirtual 282, 3) ∧ decode cX11_restore 38 = .ok (.aload_n 0, 1) ∧ decode cX11_restore 39 = .ok (.getfield 168, 3) ∧ decode cX11_restore 42 = .ok (.ireturn, 1) := by decide +kernel
def dX11_restore_26 := bX11_restore_26.1
def dX11_restore_29 := bX11_restore_26.2.1
def dX11_restore_30 := bX11_restore_26.2.2.1
def dX11_restore_33 := bX11_restore_26.2.2.2.1
def dX11_restore_34 := bX11_restore_26.2.2.2.2.1
def dX11_restore_35 := bX11_restore_26.2.2.2.2.2.1
def dX11_restore_38 := bX11_restore_26.2.2.2.2.2.2.1
def dX11_restore_39 := bX11_restore_26.2.2.2.2.2.2.2.1
def dX11_restore_42 := bX11_restore_26.2.2.2.2.2.2.2.2
theorem ggX11_status_X11_in : GoodIn wsX11_status wsX11_in := gW_in gwX11_in (fun _ h => List.mem_cons_of_mem _ (List.mem_append_right _ (List.mem_append_right _ (h))))
set_option maxRecDepth 20000 in
theorem gX11_status_X11_in : GoodIn wsX11_status (va_wsS RX11 119 yX11_in wsX11_in) := goodIn_app (goodIn_of _ (by decide +kernel)) ggX11_status_X11_in
theorem bX11_status_0 : decode cX11_status 0 = .ok (.aload_n 0, 1) ∧ decode cX11_status 1 = .ok (.iconst 0, 1) ∧ decode cX11_status 2 = .ok (.putfield 85, 3) ∧ decode cX11_status 5 = .ok (.iload_n 1, 1) ∧ decode cX11_status 6 = .ok (.iconst 0, 1) ∧ decode cX11_status 7 = .ok (.iconst 2, 1) ∧ decode cX11_status 8 = .ok (.invokestatic 119, 3) ∧ decode cX11_status 11 = .ok (.ifCond .eq 12, 3) ∧ decode cX11_status 14 = .ok (.aload_n 0, 1) ∧ decode cX11_status 15 = .ok (.getfield 17, 3) ∧ decode cX11_status 18 = .ok (.iload_n 1, 1) ∧ decode cX11_status 19 = .ok (.iaload, 1) ∧ decode cX11_status 20 = .ok (.goto 4, 3) ∧ decode cX11_status 23 = .ok (.iconst (-1), 1) ∧ decode cX11_status 24 = .ok (.ireturn, 1) := by decide +kernel
def dX11_status_0 := bX11_status_0.1
def dX11_status_1 := bX11_status_0.2.1
def dX11_status_2 := bX11_status_0.2.2.1
def dX11_status_5 := bX11_status_0.2.2.2.1
def dX11_status_6 := bX11_status_0.2.2.2.2.1
def dX11_status_7 := bX11_status_0.2.2.2.2.2.1
def dX11_status_8 := bX11_status_0.2.2.2.2.2.2.1
def dX11_status_11 := bX11_status_0.2.2.2.2.2.2.2.1
def dX11_status_14 := bX11_status_0.2.2.2.2.2.2.2.2.1
def dX11_status_15 := bX11_status_0.2.2.2.2.2.2.2.2.2.1
def dX11_status_18 := bX11_status_0.2.2.2.2.2.2.2.2.2.2.1
def dX11_status_19 := bX11_status_0.2.2.2.2.2.2.2.2.2.2.2.1
def dX11_status_20 := bX11_status_0.2.2.2.2.2.2.2.2.2.2.2.2.1
def dX11_status_23 := bX11_status_0.2.2.2.2.2.2.2.2.2.2.2.2.2.1
def dX11_status_24 := bX11_status_0.2.2.2.2.2.2.2.2.2.2.2.2.2.2
theorem bX11_count_0 : decode cX11_count 0 = .ok (.aload_n 0, 1) ∧ decode cX11_count 1 = .ok (.iconst 0, 1) ∧ decode cX11_count 2 = .ok (.putfield 85, 3) ∧ decode cX11_count 5 = .ok (.iload_n 1, 1) ∧ decode cX11_count 6 = .ok (.ifCond .ne 10, 3) ∧ decode cX11_count 9 = .ok (.aload_n 0, 1) ∧ decode cX11_count 10 = .ok (.getfield 168, 3) ∧ decode cX11_count 13 = .ok (.goto 28, 3) ∧ decode cX11_count 16 = .ok (.iload_n 1, 1) ∧ decode cX11_count 17 = .ok (.iconst 1, 1) ∧ decode cX11_count 18 = .ok (.if_icmp .ne 10, 3) ∧ decode cX11_count 21 = .ok (.aload_n 0, 1) ∧ decode cX11_count 22 = .ok (.getfield 88, 3) ∧ decode cX11_count 25 = .ok (.goto 16, 3) ∧ decode cX11_count 28 = .ok (.iload_n 1, 1) ∧ decode cX11_count 29 = .ok (.iconst 2, 1) := by decide +kernel
def dX11_count_0 := bX11_count_0.1
def dX11_count_1 := bX11_count_0.2.1
def dX11_count_2 := bX11_count_0.2.2.1
def dX11_count_5 := bX11_count_0.2.2.2.1
def dX11_count_6 := bX11_count_0.2.2.2.2.1
def dX11_count_9 := bX11_count_0.2.2.2.2.2.1
def dX11_count_10 := bX11_count_0.2.2.2.2.2.2.1
def dX11_count_13 := bX11_count_0.2.2.2.2.2.2.2.1
def dX11_count_16 := bX11_count_0.2.2.2.2.2.2.2.2.1
def dX11_count_17 := bX11_count_0.2.2.2.2.2.2.2.2.2.1
def dX11_count_18 := bX11_count_0.2.2.2.2.2.2.2.2.2.2.1
def dX11_count_21 := bX11_count_0.2.2.2.2.2.2.2.2.2.2.2.1
def dX11_count_22 := bX11_count_0.2.2.2.2.2.2.2.2.2.2.2.2.1
def dX11_count_25 := bX11_count_0.2.2.2.2.2.2.2.2.2.2.2.2.2.1
def dX11_count_28 := bX11_count_0.2.2.2.2.2.2.2.2.2.2.2.2.2.2.1
def dX11_count_29 := bX11_count_0.2.2.2.2.2.2.2.2.2.2.2.2.2.2.2
theorem bX11_count_30 : decode cX11_count 30 = .ok (.if_icmp .ne 10, 3) ∧ decode cX11_count 33 = .ok (.aload_n 0, 1) ∧ decode cX11_count 34 = .ok (.getfield 165, 3) ∧ decode cX11_count 37 = .ok (.goto 4, 3) ∧ decode cX11_count 40 = .ok (.iconst (-1), 1) ∧ decode cX11_count 41 = .ok (.ireturn, 1) := by decide +kernel
def dX11_count_30 := bX11_count_30.1
def dX11_count_33 := bX11_count_30.2.1
def dX11_count_34 := bX11_count_30.2.2.1
def dX11_count_37 := bX11_count_30.2.2.2.1
def dX11_count_40 := bX11_count_30.2.2.2.2.1
def dX11_count_41 := bX11_count_30.2.2.2.2.2

end
section
theorem iwoX0_init {k : Nat} {w : Cond} (h : woX0_init[k]? = some w) : w ∈ wsX0_init := List.mem_cons_of_mem _ (List.mem_append_left _ (List.mem_of_getElem? h))
theorem innX0_init_X0 : ∀ w ∈ wsX00, w ∈ wsX0_init := fun _ h => List.mem_cons_of_mem _ (List.mem_append_right _ (h))
theorem iwoX0_keep {k : Nat} {w : Cond} (h : woX0_keep[k]? = some w) : w ∈ wsX0_keep := List.mem_cons_of_mem _ (List.mem_append_left _ (List.mem_of_getElem? h))
theorem innX0_keep_X4 : ∀ w ∈ wsX40, w ∈ wsX0_keep := fun _ h => List.mem_cons_of_mem _ (List.mem_append_right _ (List.mem_append_left _ h))
theorem innX0_keep_X0 : ∀ w ∈ wsX00, w ∈ wsX0_keep := fun _ h => List.mem_cons_of_mem _ (List.mem_append_right _ (List.mem_append_right _ (List.mem_append_left _ h)))
theorem iwoX0_lead {k : Nat} {w : Cond} (h : woX0_lead[k]? = some w) : w ∈ wsX0_lead := List.mem_cons_of_mem _ (List.mem_append_left _ (List.mem_of_getElem? h))
theorem innX0_lead_X4 : ∀ w ∈ wsX40, w ∈ wsX0_lead := fun _ h => List.mem_cons_of_mem _ (List.mem_append_right _ (List.mem_append_left _ h))
theorem innX0_lead_X0 : ∀ w ∈ wsX00, w ∈ wsX0_lead := fun _ h => List.mem_cons_of_mem _ (List.mem_append_right _ (List.mem_append_right _ (List.mem_append_left _ h)))
theorem iwoX0_giveBack {k : Nat} {w : Cond} (h : woX0_giveBack[k]? = some w) : w ∈ wsX0_giveBack := List.mem_cons_of_mem _ (List.mem_append_left _ (List.mem_of_getElem? h))
theorem innX0_giveBack_X0 : ∀ w ∈ wsX00, w ∈ wsX0_giveBack := fun _ h => List.mem_cons_of_mem _ (List.mem_append_right _ (List.mem_append_left _ h))
theorem innX0_giveBack_X4 : ∀ w ∈ wsX40, w ∈ wsX0_giveBack := fun _ h => List.mem_cons_of_mem _ (List.mem_append_right _ (List.mem_append_right _ (List.mem_append_left _ h)))
theorem iwoX0_shotAt {k : Nat} {w : Cond} (h : woX0_shotAt[k]? = some w) : w ∈ wsX0_shotAt := List.mem_cons_of_mem _ (List.mem_append_left _ (List.mem_of_getElem? h))
theorem innX0_shotAt_X0 : ∀ w ∈ wsX00, w ∈ wsX0_shotAt := fun _ h => List.mem_cons_of_mem _ (List.mem_append_right _ (h))
theorem iwoX0_take {k : Nat} {w : Cond} (h : woX0_take[k]? = some w) : w ∈ wsX0_take := List.mem_cons_of_mem _ (List.mem_append_left _ (List.mem_of_getElem? h))
theorem innX0_take_X0 : ∀ w ∈ wsX00, w ∈ wsX0_take := fun _ h => List.mem_cons_of_mem _ (List.mem_append_right _ (List.mem_append_left _ h))
theorem iwoX1_init {k : Nat} {w : Cond} (h : woX1_init[k]? = some w) : w ∈ wsX1_init := List.mem_cons_of_mem _ (List.mem_append_left _ (List.mem_of_getElem? h))
theorem innX1_init_X1 : ∀ w ∈ wsX10, w ∈ wsX1_init := fun _ h => List.mem_cons_of_mem _ (List.mem_append_right _ (h))
theorem iwoX1_prepare {k : Nat} {w : Cond} (h : woX1_prepare[k]? = some w) : w ∈ wsX1_prepare := List.mem_cons_of_mem _ (List.mem_append_left _ (List.mem_of_getElem? h))
theorem innX1_prepare_X6 : ∀ w ∈ wsX60, w ∈ wsX1_prepare := fun _ h => List.mem_cons_of_mem _ (List.mem_append_right _ (List.mem_append_left _ h))
theorem innX1_prepare_X1 : ∀ w ∈ wsX10, w ∈ wsX1_prepare := fun _ h => List.mem_cons_of_mem _ (List.mem_append_right _ (List.mem_append_right _ (h)))
theorem iwoX1_all {k : Nat} {w : Cond} (h : woX1_all[k]? = some w) : w ∈ wsX1_all := List.mem_cons_of_mem _ (List.mem_append_left _ (List.mem_of_getElem? h))
theorem innX1_all_X1 : ∀ w ∈ wsX10, w ∈ wsX1_all := fun _ h => List.mem_cons_of_mem _ (List.mem_append_right _ (h))
theorem iwoX1_place {k : Nat} {w : Cond} (h : woX1_place[k]? = some w) : w ∈ wsX1_place := List.mem_cons_of_mem _ (List.mem_append_left _ (List.mem_of_getElem? h))
theorem innX1_place_X1 : ∀ w ∈ wsX10, w ∈ wsX1_place := fun _ h => List.mem_cons_of_mem _ (List.mem_append_right _ (h))
theorem iwoX1_menToFell {k : Nat} {w : Cond} (h : woX1_menToFell[k]? = some w) : w ∈ wsX1_menToFell := List.mem_cons_of_mem _ (List.mem_append_left _ (List.mem_of_getElem? h))
theorem innX1_menToFell_X1 : ∀ w ∈ wsX10, w ∈ wsX1_menToFell := fun _ h => List.mem_cons_of_mem _ (List.mem_append_right _ (h))
theorem iwoX1_worthOf {k : Nat} {w : Cond} (h : woX1_worthOf[k]? = some w) : w ∈ wsX1_worthOf := List.mem_cons_of_mem _ (List.mem_append_left _ (List.mem_of_getElem? h))
theorem innX1_worthOf_X1 : ∀ w ∈ wsX10, w ∈ wsX1_worthOf := fun _ h => List.mem_cons_of_mem _ (List.mem_append_right _ (h))
theorem iwoX1_mostFelled {k : Nat} {w : Cond} (h : woX1_mostFelled[k]? = some w) : w ∈ wsX1_mostFelled := List.mem_cons_of_mem _ (List.mem_append_left _ (List.mem_of_getElem? h))
theorem iwoX1_digits {k : Nat} {w : Cond} (h : woX1_digits[k]? = some w) : w ∈ wsX1_digits := List.mem_cons_of_mem _ (List.mem_append_left _ (List.mem_of_getElem? h))
theorem innX1_digits_X1 : ∀ w ∈ wsX10, w ∈ wsX1_digits := fun _ h => List.mem_cons_of_mem _ (List.mem_append_right _ (h))
theorem iwoX1_safe {k : Nat} {w : Cond} (h : woX1_safe[k]? = some w) : w ∈ wsX1_safe := List.mem_cons_of_mem _ (List.mem_append_left _ (List.mem_of_getElem? h))
theorem innX1_safe_X1 : ∀ w ∈ wsX10, w ∈ wsX1_safe := fun _ h => List.mem_cons_of_mem _ (List.mem_append_right _ (List.mem_append_left _ h))
theorem iwoX1_menToHold {k : Nat} {w : Cond} (h : woX1_menToHold[k]? = some w) : w ∈ wsX1_menToHold := List.mem_cons_of_mem _ (List.mem_append_left _ (List.mem_of_getElem? h))
theorem innX1_menToHold_X1 : ∀ w ∈ wsX10, w ∈ wsX1_menToHold := fun _ h => List.mem_cons_of_mem _ (List.mem_append_right _ (h))
theorem iwoX1_leastFelled {k : Nat} {w : Cond} (h : woX1_leastFelled[k]? = some w) : w ∈ wsX1_leastFelled := List.mem_cons_of_mem _ (List.mem_append_left _ (List.mem_of_getElem? h))
theorem iwoX1_sure {k : Nat} {w : Cond} (h : woX1_sure[k]? = some w) : w ∈ wsX1_sure := List.mem_cons_of_mem _ (List.mem_append_left _ (List.mem_of_getElem? h))
theorem iwoX2_init {k : Nat} {w : Cond} (h : woX2_init[k]? = some w) : w ∈ wsX2_init := List.mem_cons_of_mem _ (List.mem_append_left _ (List.mem_of_getElem? h))
theorem innX2_init_X2 : ∀ w ∈ wsX20, w ∈ wsX2_init := fun _ h => List.mem_cons_of_mem _ (List.mem_append_right _ (h))
theorem iwoX2_forget {k : Nat} {w : Cond} (h : woX2_forget[k]? = some w) : w ∈ wsX2_forget := List.mem_cons_of_mem _ (List.mem_append_left _ (List.mem_of_getElem? h))
theorem innX2_forget_X2 : ∀ w ∈ wsX20, w ∈ wsX2_forget := fun _ h => List.mem_cons_of_mem _ (List.mem_append_right _ (h))
theorem iwoX2_start {k : Nat} {w : Cond} (h : woX2_start[k]? = some w) : w ∈ wsX2_start := List.mem_cons_of_mem _ (List.mem_append_left _ (List.mem_of_getElem? h))
theorem innX2_start_X2 : ∀ w ∈ wsX20, w ∈ wsX2_start := fun _ h => List.mem_cons_of_mem _ (List.mem_append_right _ (List.mem_append_left _ h))
theorem iwoX2_add {k : Nat} {w : Cond} (h : woX2_add[k]? = some w) : w ∈ wsX2_add := List.mem_cons_of_mem _ (List.mem_append_left _ (List.mem_of_getElem? h))
theorem innX2_add_X2 : ∀ w ∈ wsX20, w ∈ wsX2_add := fun _ h => List.mem_cons_of_mem _ (List.mem_append_right _ (h))
theorem iwoX2_leastTerm {k : Nat} {w : Cond} (h : woX2_leastTerm[k]? = some w) : w ∈ wsX2_leastTerm := List.mem_cons_of_mem _ (List.mem_append_left _ (List.mem_of_getElem? h))
theorem innX2_leastTerm_X2 : ∀ w ∈ wsX20, w ∈ wsX2_leastTerm := fun _ h => List.mem_cons_of_mem _ (List.mem_append_right _ (h))
theorem iwoX2_take {k : Nat} {w : Cond} (h : woX2_take[k]? = some w) : w ∈ wsX2_take := List.mem_cons_of_mem _ (List.mem_append_left _ (List.mem_of_getElem? h))
theorem innX2_take_X2 : ∀ w ∈ wsX20, w ∈ wsX2_take := fun _ h => List.mem_cons_of_mem _ (List.mem_append_right _ (h))
theorem iwoX3_init {k : Nat} {w : Cond} (h : woX3_init[k]? = some w) : w ∈ wsX3_init := List.mem_cons_of_mem _ (List.mem_append_left _ (List.mem_of_getElem? h))
theorem innX3_init_X3 : ∀ w ∈ wsX30, w ∈ wsX3_init := fun _ h => List.mem_cons_of_mem _ (List.mem_append_right _ (h))
theorem iwoX3_clear {k : Nat} {w : Cond} (h : woX3_clear[k]? = some w) : w ∈ wsX3_clear := List.mem_cons_of_mem _ (List.mem_append_left _ (List.mem_of_getElem? h))
theorem innX3_clear_X3 : ∀ w ∈ wsX30, w ∈ wsX3_clear := fun _ h => List.mem_cons_of_mem _ (List.mem_append_right _ (List.mem_append_left _ h))
theorem iwoX3_bid {k : Nat} {w : Cond} (h : woX3_bid[k]? = some w) : w ∈ wsX3_bid := List.mem_cons_of_mem _ (List.mem_append_left _ (List.mem_of_getElem? h))
theorem innX3_bid_X3 : ∀ w ∈ wsX30, w ∈ wsX3_bid := fun _ h => List.mem_cons_of_mem _ (List.mem_append_right _ (h))
theorem iwoX3_through {k : Nat} {w : Cond} (h : woX3_through[k]? = some w) : w ∈ wsX3_through := List.mem_cons_of_mem _ (List.mem_append_left _ (List.mem_of_getElem? h))
theorem innX3_through_X3 : ∀ w ∈ wsX30, w ∈ wsX3_through := fun _ h => List.mem_cons_of_mem _ (List.mem_append_right _ (h))
theorem iwoX3_mostFrom {k : Nat} {w : Cond} (h : woX3_mostFrom[k]? = some w) : w ∈ wsX3_mostFrom := List.mem_cons_of_mem _ (List.mem_append_left _ (List.mem_of_getElem? h))
theorem iwoX3_mostCoin {k : Nat} {w : Cond} (h : woX3_mostCoin[k]? = some w) : w ∈ wsX3_mostCoin := List.mem_cons_of_mem _ (List.mem_append_left _ (List.mem_of_getElem? h))
theorem innX3_mostCoin_X3 : ∀ w ∈ wsX30, w ∈ wsX3_mostCoin := fun _ h => List.mem_cons_of_mem _ (List.mem_append_right _ (List.mem_append_left _ h))
theorem iwoX3_firstWay {k : Nat} {w : Cond} (h : woX3_firstWay[k]? = some w) : w ∈ wsX3_firstWay := List.mem_cons_of_mem _ (List.mem_append_left _ (List.mem_of_getElem? h))
theorem innX3_firstWay_X3 : ∀ w ∈ wsX30, w ∈ wsX3_firstWay := fun _ h => List.mem_cons_of_mem _ (List.mem_append_right _ (List.mem_append_left _ h))
theorem iwoX3_take {k : Nat} {w : Cond} (h : woX3_take[k]? = some w) : w ∈ wsX3_take := List.mem_cons_of_mem _ (List.mem_append_left _ (List.mem_of_getElem? h))
theorem innX3_take_X3 : ∀ w ∈ wsX30, w ∈ wsX3_take := fun _ h => List.mem_cons_of_mem _ (List.mem_append_right _ (h))
theorem iwoX4_init {k : Nat} {w : Cond} (h : woX4_init[k]? = some w) : w ∈ wsX4_init := List.mem_cons_of_mem _ (List.mem_append_left _ (List.mem_of_getElem? h))
theorem innX4_init_X4 : ∀ w ∈ wsX40, w ∈ wsX4_init := fun _ h => List.mem_cons_of_mem _ (List.mem_append_right _ (h))
theorem iwoX4_begin {k : Nat} {w : Cond} (h : woX4_begin[k]? = some w) : w ∈ wsX4_begin := List.mem_cons_of_mem _ (List.mem_append_left _ (List.mem_of_getElem? h))
theorem innX4_begin_X4 : ∀ w ∈ wsX40, w ∈ wsX4_begin := fun _ h => List.mem_cons_of_mem _ (List.mem_append_right _ (List.mem_append_left _ h))
theorem innX4_begin_X6 : ∀ w ∈ wsX60, w ∈ wsX4_begin := fun _ h => List.mem_cons_of_mem _ (List.mem_append_right _ (List.mem_append_right _ (List.mem_append_left _ h)))
theorem iwoX4_take {k : Nat} {w : Cond} (h : woX4_take[k]? = some w) : w ∈ wsX4_take := List.mem_cons_of_mem _ (List.mem_append_left _ (List.mem_of_getElem? h))
theorem innX4_take_X4 : ∀ w ∈ wsX40, w ∈ wsX4_take := fun _ h => List.mem_cons_of_mem _ (List.mem_append_right _ (h))
theorem iwoX4_pledge {k : Nat} {w : Cond} (h : woX4_pledge[k]? = some w) : w ∈ wsX4_pledge := List.mem_cons_of_mem _ (List.mem_append_left _ (List.mem_of_getElem? h))
theorem innX4_pledge_X4 : ∀ w ∈ wsX40, w ∈ wsX4_pledge := fun _ h => List.mem_cons_of_mem _ (List.mem_append_right _ (h))
theorem iwoX4_move {k : Nat} {w : Cond} (h : woX4_move[k]? = some w) : w ∈ wsX4_move := List.mem_cons_of_mem _ (List.mem_append_left _ (List.mem_of_getElem? h))
theorem innX4_move_X4 : ∀ w ∈ wsX40, w ∈ wsX4_move := fun _ h => List.mem_cons_of_mem _ (List.mem_append_right _ (h))
theorem iwoX5_winterPay {k : Nat} {w : Cond} (h : woX5_winterPay[k]? = some w) : w ∈ wsX5_winterPay := List.mem_cons_of_mem _ (List.mem_append_left _ (List.mem_of_getElem? h))
theorem innX5_winterPay_X5 : ∀ w ∈ wsX50, w ∈ wsX5_winterPay := fun _ h => List.mem_cons_of_mem _ (List.mem_append_right _ (h))
theorem iwoX5_payIn {k : Nat} {w : Cond} (h : woX5_payIn[k]? = some w) : w ∈ wsX5_payIn := List.mem_cons_of_mem _ (List.mem_append_left _ (List.mem_of_getElem? h))
theorem innX5_payIn_X5 : ∀ w ∈ wsX50, w ∈ wsX5_payIn := fun _ h => List.mem_cons_of_mem _ (List.mem_append_right _ (List.mem_append_left _ h))
theorem iwoX4_isPaid {k : Nat} {w : Cond} (h : woX4_isPaid[k]? = some w) : w ∈ wsX4_isPaid := List.mem_cons_of_mem _ (List.mem_append_left _ (List.mem_of_getElem? h))
theorem innX4_isPaid_X4 : ∀ w ∈ wsX40, w ∈ wsX4_isPaid := fun _ h => List.mem_cons_of_mem _ (List.mem_append_right _ (List.mem_append_left _ h))
theorem iwoX5_wallDue {k : Nat} {w : Cond} (h : woX5_wallDue[k]? = some w) : w ∈ wsX5_wallDue := List.mem_cons_of_mem _ (List.mem_append_left _ (List.mem_of_getElem? h))
theorem innX5_wallDue_X5 : ∀ w ∈ wsX50, w ∈ wsX5_wallDue := fun _ h => List.mem_cons_of_mem _ (List.mem_append_right _ (List.mem_append_left _ h))
theorem iwoX4_weakest {k : Nat} {w : Cond} (h : woX4_weakest[k]? = some w) : w ∈ wsX4_weakest := List.mem_cons_of_mem _ (List.mem_append_left _ (List.mem_of_getElem? h))
theorem innX4_weakest_X4 : ∀ w ∈ wsX40, w ∈ wsX4_weakest := fun _ h => List.mem_cons_of_mem _ (List.mem_append_right _ (h))
theorem iwoX4_frighten {k : Nat} {w : Cond} (h : woX4_frighten[k]? = some w) : w ∈ wsX4_frighten := List.mem_cons_of_mem _ (List.mem_append_left _ (List.mem_of_getElem? h))
theorem innX4_frighten_X4 : ∀ w ∈ wsX40, w ∈ wsX4_frighten := fun _ h => List.mem_cons_of_mem _ (List.mem_append_right _ (h))
theorem iwoX4_breach {k : Nat} {w : Cond} (h : woX4_breach[k]? = some w) : w ∈ wsX4_breach := List.mem_cons_of_mem _ (List.mem_append_left _ (List.mem_of_getElem? h))
theorem innX4_breach_X4 : ∀ w ∈ wsX40, w ∈ wsX4_breach := fun _ h => List.mem_cons_of_mem _ (List.mem_append_right _ (List.mem_append_left _ h))
theorem innX4_breach_X6 : ∀ w ∈ wsX60, w ∈ wsX4_breach := fun _ h => List.mem_cons_of_mem _ (List.mem_append_right _ (List.mem_append_right _ (List.mem_append_left _ h)))
theorem innX4_breach_X5 : ∀ w ∈ wsX50, w ∈ wsX4_breach := fun _ h => List.mem_cons_of_mem _ (List.mem_append_right _ (List.mem_append_right _ (List.mem_append_right _ (List.mem_append_left _ h))))
theorem iwoX4_shoot {k : Nat} {w : Cond} (h : woX4_shoot[k]? = some w) : w ∈ wsX4_shoot := List.mem_cons_of_mem _ (List.mem_append_left _ (List.mem_of_getElem? h))
theorem innX4_shoot_X4 : ∀ w ∈ wsX40, w ∈ wsX4_shoot := fun _ h => List.mem_cons_of_mem _ (List.mem_append_right _ (List.mem_append_left _ h))
theorem innX4_shoot_X6 : ∀ w ∈ wsX60, w ∈ wsX4_shoot := fun _ h => List.mem_cons_of_mem _ (List.mem_append_right _ (List.mem_append_right _ (List.mem_append_left _ h)))
theorem innX4_shoot_X5 : ∀ w ∈ wsX50, w ∈ wsX4_shoot := fun _ h => List.mem_cons_of_mem _ (List.mem_append_right _ (List.mem_append_right _ (List.mem_append_right _ (List.mem_append_left _ h))))
theorem iwoX6_fearAt {k : Nat} {w : Cond} (h : woX6_fearAt[k]? = some w) : w ∈ wsX6_fearAt := List.mem_cons_of_mem _ (List.mem_append_left _ (List.mem_of_getElem? h))
theorem innX6_fearAt_X6 : ∀ w ∈ wsX60, w ∈ wsX6_fearAt := fun _ h => List.mem_cons_of_mem _ (List.mem_append_right _ (List.mem_append_left _ h))
theorem iwoX4_mend {k : Nat} {w : Cond} (h : woX4_mend[k]? = some w) : w ∈ wsX4_mend := List.mem_cons_of_mem _ (List.mem_append_left _ (List.mem_of_getElem? h))
theorem innX4_mend_X6 : ∀ w ∈ wsX60, w ∈ wsX4_mend := fun _ h => List.mem_cons_of_mem _ (List.mem_append_right _ (List.mem_append_left _ h))
theorem innX4_mend_X4 : ∀ w ∈ wsX40, w ∈ wsX4_mend := fun _ h => List.mem_cons_of_mem _ (List.mem_append_right _ (List.mem_append_right _ (List.mem_append_left _ h)))
theorem iwoX4_desert {k : Nat} {w : Cond} (h : woX4_desert[k]? = some w) : w ∈ wsX4_desert := List.mem_cons_of_mem _ (List.mem_append_left _ (List.mem_of_getElem? h))
theorem innX4_desert_X4 : ∀ w ∈ wsX40, w ∈ wsX4_desert := fun _ h => List.mem_cons_of_mem _ (List.mem_append_right _ (h))
theorem iwoX4_pass {k : Nat} {w : Cond} (h : woX4_pass[k]? = some w) : w ∈ wsX4_pass := List.mem_cons_of_mem _ (List.mem_append_left _ (List.mem_of_getElem? h))
theorem innX4_pass_X4 : ∀ w ∈ wsX40, w ∈ wsX4_pass := fun _ h => List.mem_cons_of_mem _ (List.mem_append_right _ (List.mem_append_left _ h))
theorem innX4_pass_X6 : ∀ w ∈ wsX60, w ∈ wsX4_pass := fun _ h => List.mem_cons_of_mem _ (List.mem_append_right _ (List.mem_append_right _ (List.mem_append_left _ h)))
theorem innX4_pass_X5 : ∀ w ∈ wsX50, w ∈ wsX4_pass := fun _ h => List.mem_cons_of_mem _ (List.mem_append_right _ (List.mem_append_right _ (List.mem_append_right _ (List.mem_append_left _ h))))
theorem iwoX9_init {k : Nat} {w : Cond} (h : woX9_init[k]? = some w) : w ∈ wsX9_init := List.mem_cons_of_mem _ ((List.mem_of_getElem? h))
theorem iwoX5_init {k : Nat} {w : Cond} (h : woX5_init[k]? = some w) : w ∈ wsX5_init := List.mem_cons_of_mem _ (List.mem_append_left _ (List.mem_of_getElem? h))
theorem innX5_init_X5 : ∀ w ∈ wsX50, w ∈ wsX5_init := fun _ h => List.mem_cons_of_mem _ (List.mem_append_right _ (List.mem_append_left _ h))
theorem iwoX5_clear {k : Nat} {w : Cond} (h : woX5_clear[k]? = some w) : w ∈ wsX5_clear := List.mem_cons_of_mem _ (List.mem_append_left _ (List.mem_of_getElem? h))
theorem innX5_clear_X5 : ∀ w ∈ wsX50, w ∈ wsX5_clear := fun _ h => List.mem_cons_of_mem _ (List.mem_append_right _ (List.mem_append_left _ h))
theorem iwoX5_propose {k : Nat} {w : Cond} (h : woX5_propose[k]? = some w) : w ∈ wsX5_propose := List.mem_cons_of_mem _ (List.mem_append_left _ (List.mem_of_getElem? h))
theorem innX5_propose_X5 : ∀ w ∈ wsX50, w ∈ wsX5_propose := fun _ h => List.mem_cons_of_mem _ (List.mem_append_right _ (List.mem_append_left _ h))
theorem iwoX5_high {k : Nat} {w : Cond} (h : woX5_high[k]? = some w) : w ∈ wsX5_high := List.mem_cons_of_mem _ (List.mem_append_left _ (List.mem_of_getElem? h))
theorem innX5_high_X5 : ∀ w ∈ wsX50, w ∈ wsX5_high := fun _ h => List.mem_cons_of_mem _ (List.mem_append_right _ (List.mem_append_left _ h))
theorem iwoX5_store {k : Nat} {w : Cond} (h : woX5_store[k]? = some w) : w ∈ wsX5_store := List.mem_cons_of_mem _ (List.mem_append_left _ (List.mem_of_getElem? h))
theorem innX5_store_X5 : ∀ w ∈ wsX50, w ∈ wsX5_store := fun _ h => List.mem_cons_of_mem _ (List.mem_append_right _ (List.mem_append_left _ h))
theorem iwoX5_breachesTold {k : Nat} {w : Cond} (h : woX5_breachesTold[k]? = some w) : w ∈ wsX5_breachesTold := List.mem_cons_of_mem _ (List.mem_append_left _ (List.mem_of_getElem? h))
theorem innX5_breachesTold_X5 : ∀ w ∈ wsX50, w ∈ wsX5_breachesTold := fun _ h => List.mem_cons_of_mem _ (List.mem_append_right _ (h))
theorem iwoX5_answer {k : Nat} {w : Cond} (h : woX5_answer[k]? = some w) : w ∈ wsX5_answer := List.mem_cons_of_mem _ (List.mem_append_left _ (List.mem_of_getElem? h))
theorem innX5_answer_X5 : ∀ w ∈ wsX50, w ∈ wsX5_answer := fun _ h => List.mem_cons_of_mem _ (List.mem_append_right _ (List.mem_append_left _ h))
theorem iwoX6_clear {k : Nat} {w : Cond} (h : woX6_clear[k]? = some w) : w ∈ wsX6_clear := List.mem_cons_of_mem _ (List.mem_append_left _ (List.mem_of_getElem? h))
theorem innX6_clear_X6 : ∀ w ∈ wsX60, w ∈ wsX6_clear := fun _ h => List.mem_cons_of_mem _ (List.mem_append_right _ (h))
theorem iwoX6_init {k : Nat} {w : Cond} (h : woX6_init[k]? = some w) : w ∈ wsX6_init := List.mem_cons_of_mem _ (List.mem_append_left _ (List.mem_of_getElem? h))
theorem innX6_init_X6 : ∀ w ∈ wsX60, w ∈ wsX6_init := fun _ h => List.mem_cons_of_mem _ (List.mem_append_right _ (List.mem_append_left _ h))
theorem iwoX6_isFull {k : Nat} {w : Cond} (h : woX6_isFull[k]? = some w) : w ∈ wsX6_isFull := List.mem_cons_of_mem _ (List.mem_append_left _ (List.mem_of_getElem? h))
theorem innX6_isFull_X6 : ∀ w ∈ wsX60, w ∈ wsX6_isFull := fun _ h => List.mem_cons_of_mem _ (List.mem_append_right _ (h))
theorem iwoX6_numbers {k : Nat} {w : Cond} (h : woX6_numbers[k]? = some w) : w ∈ wsX6_numbers := List.mem_cons_of_mem _ (List.mem_append_left _ (List.mem_of_getElem? h))
theorem iwoX6_high {k : Nat} {w : Cond} (h : woX6_high[k]? = some w) : w ∈ wsX6_high := List.mem_cons_of_mem _ (List.mem_append_left _ (List.mem_of_getElem? h))
theorem iwoX6_addWall {k : Nat} {w : Cond} (h : woX6_addWall[k]? = some w) : w ∈ wsX6_addWall := List.mem_cons_of_mem _ (List.mem_append_left _ (List.mem_of_getElem? h))
theorem innX6_addWall_X6 : ∀ w ∈ wsX60, w ∈ wsX6_addWall := fun _ h => List.mem_cons_of_mem _ (List.mem_append_right _ (h))
theorem iwoX6_store {k : Nat} {w : Cond} (h : woX6_store[k]? = some w) : w ∈ wsX6_store := List.mem_cons_of_mem _ (List.mem_append_left _ (List.mem_of_getElem? h))
theorem innX6_store_X6 : ∀ w ∈ wsX60, w ∈ wsX6_store := fun _ h => List.mem_cons_of_mem _ (List.mem_append_right _ (List.mem_append_left _ h))
theorem iwoX6_wanted {k : Nat} {w : Cond} (h : woX6_wanted[k]? = some w) : w ∈ wsX6_wanted := List.mem_cons_of_mem _ (List.mem_append_left _ (List.mem_of_getElem? h))
theorem innX6_wanted_X6 : ∀ w ∈ wsX60, w ∈ wsX6_wanted := fun _ h => List.mem_cons_of_mem _ (List.mem_append_right _ (h))
theorem iwoX7_init {k : Nat} {w : Cond} (h : woX7_init[k]? = some w) : w ∈ wsX7_init := List.mem_cons_of_mem _ (List.mem_append_left _ (List.mem_of_getElem? h))
theorem innX7_init_X7 : ∀ w ∈ wsX70, w ∈ wsX7_init := fun _ h => List.mem_cons_of_mem _ (List.mem_append_right _ (h))
theorem iwoX7_skipBlanks {k : Nat} {w : Cond} (h : woX7_skipBlanks[k]? = some w) : w ∈ wsX7_skipBlanks := List.mem_cons_of_mem _ (List.mem_append_left _ (List.mem_of_getElem? h))
theorem innX7_skipBlanks_X7 : ∀ w ∈ wsX70, w ∈ wsX7_skipBlanks := fun _ h => List.mem_cons_of_mem _ (List.mem_append_right _ (h))
theorem iwoX7_skipLetters {k : Nat} {w : Cond} (h : woX7_skipLetters[k]? = some w) : w ∈ wsX7_skipLetters := List.mem_cons_of_mem _ (List.mem_append_left _ (List.mem_of_getElem? h))
theorem innX7_skipLetters_X7 : ∀ w ∈ wsX70, w ∈ wsX7_skipLetters := fun _ h => List.mem_cons_of_mem _ (List.mem_append_right _ (h))
theorem iwoJ0_coder_7d493 {k : Nat} {w : Cond} (h : woJ0_coder_7d493[k]? = some w) : w ∈ wsJ0_coder_7d493 := List.mem_cons_of_mem _ ((List.mem_of_getElem? h))
theorem iwoJ0_length_8abf5 {k : Nat} {w : Cond} (h : woJ0_length_8abf5[k]? = some w) : w ∈ wsJ0_length_8abf5 := List.mem_cons_of_mem _ (List.mem_append_left _ (List.mem_of_getElem? h))
theorem iwoJ0_isLatin1_aae02 {k : Nat} {w : Cond} (h : woJ0_isLatin1_aae02[k]? = some w) : w ∈ wsJ0_isLatin1_aae02 := List.mem_cons_of_mem _ ((List.mem_of_getElem? h))
theorem iwoJ0_checkIndex_df160 {k : Nat} {w : Cond} (h : woJ0_checkIndex_df160[k]? = some w) : w ∈ wsJ0_checkIndex_df160 := List.mem_cons_of_mem _ (List.mem_append_left _ (List.mem_of_getElem? h))
theorem iwoJ0_charAt_5068e {k : Nat} {w : Cond} (h : woJ0_charAt_5068e[k]? = some w) : w ∈ wsJ0_charAt_5068e := List.mem_cons_of_mem _ (List.mem_append_left _ (List.mem_of_getElem? h))
theorem iwoX7_isSame {k : Nat} {w : Cond} (h : woX7_isSame[k]? = some w) : w ∈ wsX7_isSame := List.mem_cons_of_mem _ (List.mem_append_left _ (List.mem_of_getElem? h))
theorem innX7_isSame_X7 : ∀ w ∈ wsX70, w ∈ wsX7_isSame := fun _ h => List.mem_cons_of_mem _ (List.mem_append_right _ (List.mem_append_left _ h))
theorem iwoX7_fail {k : Nat} {w : Cond} (h : woX7_fail[k]? = some w) : w ∈ wsX7_fail := List.mem_cons_of_mem _ (List.mem_append_left _ (List.mem_of_getElem? h))
theorem innX7_fail_X7 : ∀ w ∈ wsX70, w ∈ wsX7_fail := fun _ h => List.mem_cons_of_mem _ (List.mem_append_right _ (h))
theorem iwoX7_readNumber {k : Nat} {w : Cond} (h : woX7_readNumber[k]? = some w) : w ∈ wsX7_readNumber := List.mem_cons_of_mem _ (List.mem_append_left _ (List.mem_of_getElem? h))
theorem innX7_readNumber_X7 : ∀ w ∈ wsX70, w ∈ wsX7_readNumber := fun _ h => List.mem_cons_of_mem _ (List.mem_append_right _ (List.mem_append_left _ h))
theorem iwoX7_readPart {k : Nat} {w : Cond} (h : woX7_readPart[k]? = some w) : w ∈ wsX7_readPart := List.mem_cons_of_mem _ (List.mem_append_left _ (List.mem_of_getElem? h))
theorem innX7_readPart_X7 : ∀ w ∈ wsX70, w ∈ wsX7_readPart := fun _ h => List.mem_cons_of_mem _ (List.mem_append_right _ (List.mem_append_left _ h))
theorem iwoX7_read {k : Nat} {w : Cond} (h : woX7_read[k]? = some w) : w ∈ wsX7_read := List.mem_cons_of_mem _ (List.mem_append_left _ (List.mem_of_getElem? h))
theorem innX7_read_X7 : ∀ w ∈ wsX70, w ∈ wsX7_read := fun _ h => List.mem_cons_of_mem _ (List.mem_append_right _ (List.mem_append_left _ h))
theorem iwoX8_init {k : Nat} {w : Cond} (h : woX8_init[k]? = some w) : w ∈ wsX8_init := List.mem_cons_of_mem _ (List.mem_append_left _ (List.mem_of_getElem? h))
theorem innX8_init_X4 : ∀ w ∈ wsX40, w ∈ wsX8_init := fun _ h => List.mem_cons_of_mem _ (List.mem_append_right _ (List.mem_append_left _ h))
theorem innX8_init_X8 : ∀ w ∈ wsX80, w ∈ wsX8_init := fun _ h => List.mem_cons_of_mem _ (List.mem_append_right _ (List.mem_append_right _ (List.mem_append_left _ h)))
theorem innX8_init_X0 : ∀ w ∈ wsX00, w ∈ wsX8_init := fun _ h => List.mem_cons_of_mem _ (List.mem_append_right _ (List.mem_append_right _ (List.mem_append_right _ (List.mem_append_left _ h))))
theorem innX8_init_X2 : ∀ w ∈ wsX20, w ∈ wsX8_init := fun _ h => List.mem_cons_of_mem _ (List.mem_append_right _ (List.mem_append_right _ (List.mem_append_right _ (List.mem_append_right _ (List.mem_append_left _ h)))))
theorem innX8_init_X3 : ∀ w ∈ wsX30, w ∈ wsX8_init := fun _ h => List.mem_cons_of_mem _ (List.mem_append_right _ (List.mem_append_right _ (List.mem_append_right _ (List.mem_append_right _ (List.mem_append_right _ (List.mem_append_left _ h))))))
theorem iwoX8_begin {k : Nat} {w : Cond} (h : woX8_begin[k]? = some w) : w ∈ wsX8_begin := List.mem_cons_of_mem _ (List.mem_append_left _ (List.mem_of_getElem? h))
theorem innX8_begin_X8 : ∀ w ∈ wsX80, w ∈ wsX8_begin := fun _ h => List.mem_cons_of_mem _ (List.mem_append_right _ (List.mem_append_left _ h))
theorem iwoX8_take {k : Nat} {w : Cond} (h : woX8_take[k]? = some w) : w ∈ wsX8_take := List.mem_cons_of_mem _ (List.mem_append_left _ (List.mem_of_getElem? h))
theorem innX8_take_X8 : ∀ w ∈ wsX80, w ∈ wsX8_take := fun _ h => List.mem_cons_of_mem _ (List.mem_append_right _ (List.mem_append_left _ h))
theorem innX8_take_X4 : ∀ w ∈ wsX40, w ∈ wsX8_take := fun _ h => List.mem_cons_of_mem _ (List.mem_append_right _ (List.mem_append_right _ (List.mem_append_left _ h)))
theorem iwoX10_init {k : Nat} {w : Cond} (h : woX10_init[k]? = some w) : w ∈ wsX10_init := List.mem_cons_of_mem _ (List.mem_append_left _ (List.mem_of_getElem? h))
theorem innX10_init_X10 : ∀ w ∈ wsX100, w ∈ wsX10_init := fun _ h => List.mem_cons_of_mem _ (List.mem_append_right _ (List.mem_append_left _ h))
theorem innX10_init_X7 : ∀ w ∈ wsX70, w ∈ wsX10_init := fun _ h => List.mem_cons_of_mem _ (List.mem_append_right _ (List.mem_append_right _ (List.mem_append_left _ h)))
theorem innX10_init_X6 : ∀ w ∈ wsX60, w ∈ wsX10_init := fun _ h => List.mem_cons_of_mem _ (List.mem_append_right _ (List.mem_append_right _ (List.mem_append_right _ (List.mem_append_left _ h))))
theorem innX10_init_X8 : ∀ w ∈ wsX80, w ∈ wsX10_init := fun _ h => List.mem_cons_of_mem _ (List.mem_append_right _ (List.mem_append_right _ (List.mem_append_right _ (List.mem_append_right _ (List.mem_append_left _ h)))))
theorem innX10_init_X4 : ∀ w ∈ wsX40, w ∈ wsX10_init := fun _ h => List.mem_cons_of_mem _ (List.mem_append_right _ (List.mem_append_right _ (List.mem_append_right _ (List.mem_append_right _ (List.mem_append_right _ (List.mem_append_left _ h))))))
theorem innX10_init_X1 : ∀ w ∈ wsX10, w ∈ wsX10_init := fun _ h => List.mem_cons_of_mem _ (List.mem_append_right _ (List.mem_append_right _ (List.mem_append_right _ (List.mem_append_right _ (List.mem_append_right _ (List.mem_append_right _ (List.mem_append_left _ h)))))))
theorem innX10_init_X5 : ∀ w ∈ wsX50, w ∈ wsX10_init := fun _ h => List.mem_cons_of_mem _ (List.mem_append_right _ (List.mem_append_right _ (List.mem_append_right _ (List.mem_append_right _ (List.mem_append_right _ (List.mem_append_right _ (List.mem_append_right _ (List.mem_append_left _ h))))))))
theorem iwoX10_putOnTape {k : Nat} {w : Cond} (h : woX10_putOnTape[k]? = some w) : w ∈ wsX10_putOnTape := List.mem_cons_of_mem _ (List.mem_append_left _ (List.mem_of_getElem? h))
theorem innX10_putOnTape_X10 : ∀ w ∈ wsX100, w ∈ wsX10_putOnTape := fun _ h => List.mem_cons_of_mem _ (List.mem_append_right _ (h))
theorem iwoX10_feed {k : Nat} {w : Cond} (h : woX10_feed[k]? = some w) : w ∈ wsX10_feed := List.mem_cons_of_mem _ (List.mem_append_left _ (List.mem_of_getElem? h))
theorem innX10_feed_X10 : ∀ w ∈ wsX100, w ∈ wsX10_feed := fun _ h => List.mem_cons_of_mem _ (List.mem_append_right _ (List.mem_append_left _ h))
theorem iwoX10_demand {k : Nat} {w : Cond} (h : woX10_demand[k]? = some w) : w ∈ wsX10_demand := List.mem_cons_of_mem _ (List.mem_append_left _ (List.mem_of_getElem? h))
theorem innX10_demand_X10 : ∀ w ∈ wsX100, w ∈ wsX10_demand := fun _ h => List.mem_cons_of_mem _ (List.mem_append_right _ (List.mem_append_left _ h))
theorem iwoX10_siege {k : Nat} {w : Cond} (h : woX10_siege[k]? = some w) : w ∈ wsX10_siege := List.mem_cons_of_mem _ (List.mem_append_left _ (List.mem_of_getElem? h))
theorem innX10_siege_X10 : ∀ w ∈ wsX100, w ∈ wsX10_siege := fun _ h => List.mem_cons_of_mem _ (List.mem_append_right _ (List.mem_append_left _ h))
theorem innX10_siege_X6 : ∀ w ∈ wsX60, w ∈ wsX10_siege := fun _ h => List.mem_cons_of_mem _ (List.mem_append_right _ (List.mem_append_right _ (List.mem_append_left _ h)))
theorem iwoX10_contract {k : Nat} {w : Cond} (h : woX10_contract[k]? = some w) : w ∈ wsX10_contract := List.mem_cons_of_mem _ (List.mem_append_left _ (List.mem_of_getElem? h))
theorem innX10_contract_X10 : ∀ w ∈ wsX100, w ∈ wsX10_contract := fun _ h => List.mem_cons_of_mem _ (List.mem_append_right _ (List.mem_append_left _ h))
theorem innX10_contract_X7 : ∀ w ∈ wsX70, w ∈ wsX10_contract := fun _ h => List.mem_cons_of_mem _ (List.mem_append_right _ (List.mem_append_right _ (List.mem_append_left _ h)))
theorem innX10_contract_X6 : ∀ w ∈ wsX60, w ∈ wsX10_contract := fun _ h => List.mem_cons_of_mem _ (List.mem_append_right _ (List.mem_append_right _ (List.mem_append_right _ (List.mem_append_left _ h))))
theorem iwoX10_fault {k : Nat} {w : Cond} (h : woX10_fault[k]? = some w) : w ∈ wsX10_fault := List.mem_cons_of_mem _ (List.mem_append_left _ (List.mem_of_getElem? h))
theorem innX10_fault_X10 : ∀ w ∈ wsX100, w ∈ wsX10_fault := fun _ h => List.mem_cons_of_mem _ (List.mem_append_right _ (List.mem_append_left _ h))
theorem innX10_fault_X7 : ∀ w ∈ wsX70, w ∈ wsX10_fault := fun _ h => List.mem_cons_of_mem _ (List.mem_append_right _ (List.mem_append_right _ (h)))
theorem iwoX10_told {k : Nat} {w : Cond} (h : woX10_told[k]? = some w) : w ∈ wsX10_told := List.mem_cons_of_mem _ (List.mem_append_left _ (List.mem_of_getElem? h))
theorem innX10_told_X10 : ∀ w ∈ wsX100, w ∈ wsX10_told := fun _ h => List.mem_cons_of_mem _ (List.mem_append_right _ (List.mem_append_left _ h))
theorem innX10_told_X8 : ∀ w ∈ wsX80, w ∈ wsX10_told := fun _ h => List.mem_cons_of_mem _ (List.mem_append_right _ (List.mem_append_right _ (List.mem_append_left _ h)))
theorem innX10_told_X4 : ∀ w ∈ wsX40, w ∈ wsX10_told := fun _ h => List.mem_cons_of_mem _ (List.mem_append_right _ (List.mem_append_right _ (List.mem_append_right _ (List.mem_append_left _ h))))
theorem innX10_told_X6 : ∀ w ∈ wsX60, w ∈ wsX10_told := fun _ h => List.mem_cons_of_mem _ (List.mem_append_right _ (List.mem_append_right _ (List.mem_append_right _ (List.mem_append_right _ (List.mem_append_left _ h)))))
theorem iwoX10_demandWall {k : Nat} {w : Cond} (h : woX10_demandWall[k]? = some w) : w ∈ wsX10_demandWall := List.mem_cons_of_mem _ (List.mem_append_left _ (List.mem_of_getElem? h))
theorem innX10_demandWall_X10 : ∀ w ∈ wsX100, w ∈ wsX10_demandWall := fun _ h => List.mem_cons_of_mem _ (List.mem_append_right _ (List.mem_append_left _ h))
theorem innX10_demandWall_X6 : ∀ w ∈ wsX60, w ∈ wsX10_demandWall := fun _ h => List.mem_cons_of_mem _ (List.mem_append_right _ (List.mem_append_right _ (List.mem_append_left _ h)))
theorem iwoX10_wall {k : Nat} {w : Cond} (h : woX10_wall[k]? = some w) : w ∈ wsX10_wall := List.mem_cons_of_mem _ (List.mem_append_left _ (List.mem_of_getElem? h))
theorem innX10_wall_X10 : ∀ w ∈ wsX100, w ∈ wsX10_wall := fun _ h => List.mem_cons_of_mem _ (List.mem_append_right _ (List.mem_append_left _ h))
theorem innX10_wall_X6 : ∀ w ∈ wsX60, w ∈ wsX10_wall := fun _ h => List.mem_cons_of_mem _ (List.mem_append_right _ (List.mem_append_right _ (List.mem_append_left _ h)))
theorem innX10_wall_X8 : ∀ w ∈ wsX80, w ∈ wsX10_wall := fun _ h => List.mem_cons_of_mem _ (List.mem_append_right _ (List.mem_append_right _ (List.mem_append_right _ (List.mem_append_left _ h))))
theorem innX10_wall_X4 : ∀ w ∈ wsX40, w ∈ wsX10_wall := fun _ h => List.mem_cons_of_mem _ (List.mem_append_right _ (List.mem_append_right _ (List.mem_append_right _ (List.mem_append_right _ (List.mem_append_left _ h)))))
theorem iwoX10_demandContract {k : Nat} {w : Cond} (h : woX10_demandContract[k]? = some w) : w ∈ wsX10_demandContract := List.mem_cons_of_mem _ (List.mem_append_left _ (List.mem_of_getElem? h))
theorem innX10_demandContract_X10 : ∀ w ∈ wsX100, w ∈ wsX10_demandContract := fun _ h => List.mem_cons_of_mem _ (List.mem_append_right _ (List.mem_append_left _ h))
theorem iwoX10_rule {k : Nat} {w : Cond} (h : woX10_rule[k]? = some w) : w ∈ wsX10_rule := List.mem_cons_of_mem _ (List.mem_append_left _ (List.mem_of_getElem? h))
theorem innX10_rule_X10 : ∀ w ∈ wsX100, w ∈ wsX10_rule := fun _ h => List.mem_cons_of_mem _ (List.mem_append_right _ (List.mem_append_left _ h))
theorem iwoX10_wants {k : Nat} {w : Cond} (h : woX10_wants[k]? = some w) : w ∈ wsX10_wants := List.mem_cons_of_mem _ (List.mem_append_left _ (List.mem_of_getElem? h))
theorem innX10_wants_X10 : ∀ w ∈ wsX100, w ∈ wsX10_wants := fun _ h => List.mem_cons_of_mem _ (List.mem_append_right _ (List.mem_append_left _ h))
theorem iwoX10_sign {k : Nat} {w : Cond} (h : woX10_sign[k]? = some w) : w ∈ wsX10_sign := List.mem_cons_of_mem _ (List.mem_append_left _ (List.mem_of_getElem? h))
theorem innX10_sign_X10 : ∀ w ∈ wsX100, w ∈ wsX10_sign := fun _ h => List.mem_cons_of_mem _ (List.mem_append_right _ (List.mem_append_left _ h))
theorem innX10_sign_X8 : ∀ w ∈ wsX80, w ∈ wsX10_sign := fun _ h => List.mem_cons_of_mem _ (List.mem_append_right _ (List.mem_append_right _ (List.mem_append_left _ h)))
theorem innX10_sign_X4 : ∀ w ∈ wsX40, w ∈ wsX10_sign := fun _ h => List.mem_cons_of_mem _ (List.mem_append_right _ (List.mem_append_right _ (List.mem_append_right _ (List.mem_append_left _ h))))
theorem iwoX10_inForce {k : Nat} {w : Cond} (h : woX10_inForce[k]? = some w) : w ∈ wsX10_inForce := List.mem_cons_of_mem _ (List.mem_append_left _ (List.mem_of_getElem? h))
theorem innX10_inForce_X4 : ∀ w ∈ wsX40, w ∈ wsX10_inForce := fun _ h => List.mem_cons_of_mem _ (List.mem_append_right _ (List.mem_append_left _ h))
theorem innX10_inForce_X10 : ∀ w ∈ wsX100, w ∈ wsX10_inForce := fun _ h => List.mem_cons_of_mem _ (List.mem_append_right _ (List.mem_append_right _ (List.mem_append_left _ h)))
theorem iwoX10_months {k : Nat} {w : Cond} (h : woX10_months[k]? = some w) : w ∈ wsX10_months := List.mem_cons_of_mem _ (List.mem_append_left _ (List.mem_of_getElem? h))
theorem innX10_months_X10 : ∀ w ∈ wsX100, w ∈ wsX10_months := fun _ h => List.mem_cons_of_mem _ (List.mem_append_right _ (List.mem_append_left _ h))
theorem innX10_months_X8 : ∀ w ∈ wsX80, w ∈ wsX10_months := fun _ h => List.mem_cons_of_mem _ (List.mem_append_right _ (List.mem_append_right _ (List.mem_append_left _ h)))
theorem innX10_months_X4 : ∀ w ∈ wsX40, w ∈ wsX10_months := fun _ h => List.mem_cons_of_mem _ (List.mem_append_right _ (List.mem_append_right _ (List.mem_append_right _ (List.mem_append_left _ h))))
theorem iwoX10_undo {k : Nat} {w : Cond} (h : woX10_undo[k]? = some w) : w ∈ wsX10_undo := List.mem_cons_of_mem _ (List.mem_append_left _ (List.mem_of_getElem? h))
theorem innX10_undo_X10 : ∀ w ∈ wsX100, w ∈ wsX10_undo := fun _ h => List.mem_cons_of_mem _ (List.mem_append_right _ (List.mem_append_left _ h))
theorem innX10_undo_X8 : ∀ w ∈ wsX80, w ∈ wsX10_undo := fun _ h => List.mem_cons_of_mem _ (List.mem_append_right _ (List.mem_append_right _ (List.mem_append_left _ h)))
theorem innX10_undo_X4 : ∀ w ∈ wsX40, w ∈ wsX10_undo := fun _ h => List.mem_cons_of_mem _ (List.mem_append_right _ (List.mem_append_right _ (List.mem_append_right _ (List.mem_append_left _ h))))
theorem iwoX10_sums {k : Nat} {w : Cond} (h : woX10_sums[k]? = some w) : w ∈ wsX10_sums := List.mem_cons_of_mem _ (List.mem_append_left _ (List.mem_of_getElem? h))
theorem innX10_sums_X10 : ∀ w ∈ wsX100, w ∈ wsX10_sums := fun _ h => List.mem_cons_of_mem _ (List.mem_append_right _ (List.mem_append_left _ h))
theorem innX10_sums_X8 : ∀ w ∈ wsX80, w ∈ wsX10_sums := fun _ h => List.mem_cons_of_mem _ (List.mem_append_right _ (List.mem_append_right _ (List.mem_append_left _ h)))
theorem innX10_sums_X4 : ∀ w ∈ wsX40, w ∈ wsX10_sums := fun _ h => List.mem_cons_of_mem _ (List.mem_append_right _ (List.mem_append_right _ (List.mem_append_right _ (List.mem_append_left _ h))))
theorem iwoX10_corks {k : Nat} {w : Cond} (h : woX10_corks[k]? = some w) : w ∈ wsX10_corks := List.mem_cons_of_mem _ (List.mem_append_left _ (List.mem_of_getElem? h))
theorem innX10_corks_X10 : ∀ w ∈ wsX100, w ∈ wsX10_corks := fun _ h => List.mem_cons_of_mem _ (List.mem_append_right _ (List.mem_append_left _ h))
theorem innX10_corks_X8 : ∀ w ∈ wsX80, w ∈ wsX10_corks := fun _ h => List.mem_cons_of_mem _ (List.mem_append_right _ (List.mem_append_right _ (List.mem_append_left _ h)))
theorem innX10_corks_X4 : ∀ w ∈ wsX40, w ∈ wsX10_corks := fun _ h => List.mem_cons_of_mem _ (List.mem_append_right _ (List.mem_append_right _ (List.mem_append_right _ (List.mem_append_left _ h))))
theorem iwoX10_passTried {k : Nat} {w : Cond} (h : woX10_passTried[k]? = some w) : w ∈ wsX10_passTried := List.mem_cons_of_mem _ (List.mem_append_left _ (List.mem_of_getElem? h))
theorem innX10_passTried_X10 : ∀ w ∈ wsX100, w ∈ wsX10_passTried := fun _ h => List.mem_cons_of_mem _ (List.mem_append_right _ (List.mem_append_left _ h))
theorem innX10_passTried_X4 : ∀ w ∈ wsX40, w ∈ wsX10_passTried := fun _ h => List.mem_cons_of_mem _ (List.mem_append_right _ (List.mem_append_right _ (List.mem_append_left _ h)))
theorem iwoX10_trySigned {k : Nat} {w : Cond} (h : woX10_trySigned[k]? = some w) : w ∈ wsX10_trySigned := List.mem_cons_of_mem _ (List.mem_append_left _ (List.mem_of_getElem? h))
theorem innX10_trySigned_X10 : ∀ w ∈ wsX100, w ∈ wsX10_trySigned := fun _ h => List.mem_cons_of_mem _ (List.mem_append_right _ (List.mem_append_left _ h))
theorem innX10_trySigned_X8 : ∀ w ∈ wsX80, w ∈ wsX10_trySigned := fun _ h => List.mem_cons_of_mem _ (List.mem_append_right _ (List.mem_append_right _ (List.mem_append_left _ h)))
theorem innX10_trySigned_X4 : ∀ w ∈ wsX40, w ∈ wsX10_trySigned := fun _ h => List.mem_cons_of_mem _ (List.mem_append_right _ (List.mem_append_right _ (List.mem_append_right _ (List.mem_append_left _ h))))
theorem iwoX10_would {k : Nat} {w : Cond} (h : woX10_would[k]? = some w) : w ∈ wsX10_would := List.mem_cons_of_mem _ (List.mem_append_left _ (List.mem_of_getElem? h))
theorem innX10_would_X10 : ∀ w ∈ wsX100, w ∈ wsX10_would := fun _ h => List.mem_cons_of_mem _ (List.mem_append_right _ (List.mem_append_left _ h))
theorem innX10_would_X4 : ∀ w ∈ wsX40, w ∈ wsX10_would := fun _ h => List.mem_cons_of_mem _ (List.mem_append_right _ (List.mem_append_right _ (List.mem_append_left _ h)))
theorem iwoX10_best {k : Nat} {w : Cond} (h : woX10_best[k]? = some w) : w ∈ wsX10_best := List.mem_cons_of_mem _ (List.mem_append_left _ (List.mem_of_getElem? h))
theorem innX10_best_X10 : ∀ w ∈ wsX100, w ∈ wsX10_best := fun _ h => List.mem_cons_of_mem _ (List.mem_append_right _ (List.mem_append_left _ h))
theorem iwoX10_offer {k : Nat} {w : Cond} (h : woX10_offer[k]? = some w) : w ∈ wsX10_offer := List.mem_cons_of_mem _ (List.mem_append_left _ (List.mem_of_getElem? h))
theorem innX10_offer_X10 : ∀ w ∈ wsX100, w ∈ wsX10_offer := fun _ h => List.mem_cons_of_mem _ (List.mem_append_right _ (List.mem_append_left _ h))
theorem iwoX10_nearest {k : Nat} {w : Cond} (h : woX10_nearest[k]? = some w) : w ∈ wsX10_nearest := List.mem_cons_of_mem _ (List.mem_append_left _ (List.mem_of_getElem? h))
theorem innX10_nearest_X10 : ∀ w ∈ wsX100, w ∈ wsX10_nearest := fun _ h => List.mem_cons_of_mem _ (List.mem_append_right _ (List.mem_append_left _ h))
theorem iwoX10_stop {k : Nat} {w : Cond} (h : woX10_stop[k]? = some w) : w ∈ wsX10_stop := List.mem_cons_of_mem _ (List.mem_append_left _ (List.mem_of_getElem? h))
theorem innX10_stop_X10 : ∀ w ∈ wsX100, w ∈ wsX10_stop := fun _ h => List.mem_cons_of_mem _ (List.mem_append_right _ (List.mem_append_left _ h))
theorem innX10_stop_X8 : ∀ w ∈ wsX80, w ∈ wsX10_stop := fun _ h => List.mem_cons_of_mem _ (List.mem_append_right _ (List.mem_append_right _ (List.mem_append_left _ h)))
theorem innX10_stop_X4 : ∀ w ∈ wsX40, w ∈ wsX10_stop := fun _ h => List.mem_cons_of_mem _ (List.mem_append_right _ (List.mem_append_right _ (List.mem_append_right _ (List.mem_append_left _ h))))
theorem iwoX10_odds {k : Nat} {w : Cond} (h : woX10_odds[k]? = some w) : w ∈ wsX10_odds := List.mem_cons_of_mem _ (List.mem_append_left _ (List.mem_of_getElem? h))
theorem innX10_odds_X10 : ∀ w ∈ wsX100, w ∈ wsX10_odds := fun _ h => List.mem_cons_of_mem _ (List.mem_append_right _ (List.mem_append_left _ h))
theorem innX10_odds_X8 : ∀ w ∈ wsX80, w ∈ wsX10_odds := fun _ h => List.mem_cons_of_mem _ (List.mem_append_right _ (List.mem_append_right _ (List.mem_append_left _ h)))
theorem iwoX10_kind {k : Nat} {w : Cond} (h : woX10_kind[k]? = some w) : w ∈ wsX10_kind := List.mem_cons_of_mem _ (List.mem_append_left _ (List.mem_of_getElem? h))
theorem innX10_kind_X10 : ∀ w ∈ wsX100, w ∈ wsX10_kind := fun _ h => List.mem_cons_of_mem _ (List.mem_append_right _ (List.mem_append_left _ h))
theorem innX10_kind_X8 : ∀ w ∈ wsX80, w ∈ wsX10_kind := fun _ h => List.mem_cons_of_mem _ (List.mem_append_right _ (List.mem_append_right _ (List.mem_append_left _ h)))
theorem innX10_kind_X2 : ∀ w ∈ wsX20, w ∈ wsX10_kind := fun _ h => List.mem_cons_of_mem _ (List.mem_append_right _ (List.mem_append_right _ (List.mem_append_right _ (List.mem_append_left _ h))))
theorem iwoX10_seen {k : Nat} {w : Cond} (h : woX10_seen[k]? = some w) : w ∈ wsX10_seen := List.mem_cons_of_mem _ (List.mem_append_left _ (List.mem_of_getElem? h))
theorem innX10_seen_X10 : ∀ w ∈ wsX100, w ∈ wsX10_seen := fun _ h => List.mem_cons_of_mem _ (List.mem_append_right _ (List.mem_append_left _ h))
theorem innX10_seen_X8 : ∀ w ∈ wsX80, w ∈ wsX10_seen := fun _ h => List.mem_cons_of_mem _ (List.mem_append_right _ (List.mem_append_right _ (List.mem_append_left _ h)))
theorem innX10_seen_X2 : ∀ w ∈ wsX20, w ∈ wsX10_seen := fun _ h => List.mem_cons_of_mem _ (List.mem_append_right _ (List.mem_append_right _ (List.mem_append_right _ (List.mem_append_left _ h))))
theorem iwoX10_spy {k : Nat} {w : Cond} (h : woX10_spy[k]? = some w) : w ∈ wsX10_spy := List.mem_cons_of_mem _ (List.mem_append_left _ (List.mem_of_getElem? h))
theorem innX10_spy_X10 : ∀ w ∈ wsX100, w ∈ wsX10_spy := fun _ h => List.mem_cons_of_mem _ (List.mem_append_right _ (List.mem_append_left _ h))
theorem innX10_spy_X8 : ∀ w ∈ wsX80, w ∈ wsX10_spy := fun _ h => List.mem_cons_of_mem _ (List.mem_append_right _ (List.mem_append_right _ (List.mem_append_left _ h)))
theorem iwoX10_believed {k : Nat} {w : Cond} (h : woX10_believed[k]? = some w) : w ∈ wsX10_believed := List.mem_cons_of_mem _ (List.mem_append_left _ (List.mem_of_getElem? h))
theorem innX10_believed_X10 : ∀ w ∈ wsX100, w ∈ wsX10_believed := fun _ h => List.mem_cons_of_mem _ (List.mem_append_right _ (List.mem_append_left _ h))
theorem innX10_believed_X8 : ∀ w ∈ wsX80, w ∈ wsX10_believed := fun _ h => List.mem_cons_of_mem _ (List.mem_append_right _ (List.mem_append_right _ (List.mem_append_left _ h)))
theorem iwoX10_earnest {k : Nat} {w : Cond} (h : woX10_earnest[k]? = some w) : w ∈ wsX10_earnest := List.mem_cons_of_mem _ (List.mem_append_left _ (List.mem_of_getElem? h))
theorem innX10_earnest_X10 : ∀ w ∈ wsX100, w ∈ wsX10_earnest := fun _ h => List.mem_cons_of_mem _ (List.mem_append_right _ (List.mem_append_left _ h))
theorem iwoX10_stands {k : Nat} {w : Cond} (h : woX10_stands[k]? = some w) : w ∈ wsX10_stands := List.mem_cons_of_mem _ (List.mem_append_left _ (List.mem_of_getElem? h))
theorem innX10_stands_X10 : ∀ w ∈ wsX100, w ∈ wsX10_stands := fun _ h => List.mem_cons_of_mem _ (List.mem_append_right _ (List.mem_append_left _ h))
theorem innX10_stands_X1 : ∀ w ∈ wsX10, w ∈ wsX10_stands := fun _ h => List.mem_cons_of_mem _ (List.mem_append_right _ (List.mem_append_right _ (List.mem_append_left _ h)))
theorem iwoX10_show {k : Nat} {w : Cond} (h : woX10_show[k]? = some w) : w ∈ wsX10_show := List.mem_cons_of_mem _ (List.mem_append_left _ (List.mem_of_getElem? h))
theorem innX10_show_X10 : ∀ w ∈ wsX100, w ∈ wsX10_show := fun _ h => List.mem_cons_of_mem _ (List.mem_append_right _ (List.mem_append_left _ h))
theorem innX10_show_X1 : ∀ w ∈ wsX10, w ∈ wsX10_show := fun _ h => List.mem_cons_of_mem _ (List.mem_append_right _ (List.mem_append_right _ (List.mem_append_left _ h)))
theorem iwoX10_offers {k : Nat} {w : Cond} (h : woX10_offers[k]? = some w) : w ∈ wsX10_offers := List.mem_cons_of_mem _ (List.mem_append_left _ (List.mem_of_getElem? h))
theorem innX10_offers_X10 : ∀ w ∈ wsX100, w ∈ wsX10_offers := fun _ h => List.mem_cons_of_mem _ (List.mem_append_right _ (List.mem_append_left _ h))
theorem innX10_offers_X8 : ∀ w ∈ wsX80, w ∈ wsX10_offers := fun _ h => List.mem_cons_of_mem _ (List.mem_append_right _ (List.mem_append_right _ (List.mem_append_left _ h)))
theorem iwoX10_most {k : Nat} {w : Cond} (h : woX10_most[k]? = some w) : w ∈ wsX10_most := List.mem_cons_of_mem _ (List.mem_append_left _ (List.mem_of_getElem? h))
theorem innX10_most_X10 : ∀ w ∈ wsX100, w ∈ wsX10_most := fun _ h => List.mem_cons_of_mem _ (List.mem_append_right _ (List.mem_append_left _ h))
theorem innX10_most_X8 : ∀ w ∈ wsX80, w ∈ wsX10_most := fun _ h => List.mem_cons_of_mem _ (List.mem_append_right _ (List.mem_append_right _ (List.mem_append_left _ h)))
theorem iwoX10_serves {k : Nat} {w : Cond} (h : woX10_serves[k]? = some w) : w ∈ wsX10_serves := List.mem_cons_of_mem _ (List.mem_append_left _ (List.mem_of_getElem? h))
theorem innX10_serves_X10 : ∀ w ∈ wsX100, w ∈ wsX10_serves := fun _ h => List.mem_cons_of_mem _ (List.mem_append_right _ (List.mem_append_left _ h))
theorem innX10_serves_X8 : ∀ w ∈ wsX80, w ∈ wsX10_serves := fun _ h => List.mem_cons_of_mem _ (List.mem_append_right _ (List.mem_append_right _ (List.mem_append_left _ h)))
theorem iwoX10_image {k : Nat} {w : Cond} (h : woX10_image[k]? = some w) : w ∈ wsX10_image := List.mem_cons_of_mem _ (List.mem_append_left _ (List.mem_of_getElem? h))
theorem innX10_image_X10 : ∀ w ∈ wsX100, w ∈ wsX10_image := fun _ h => List.mem_cons_of_mem _ (List.mem_append_right _ (List.mem_append_left _ h))
theorem innX10_image_X8 : ∀ w ∈ wsX80, w ∈ wsX10_image := fun _ h => List.mem_cons_of_mem _ (List.mem_append_right _ (List.mem_append_right _ (List.mem_append_left _ h)))
theorem iwoX10_restore {k : Nat} {w : Cond} (h : woX10_restore[k]? = some w) : w ∈ wsX10_restore := List.mem_cons_of_mem _ (List.mem_append_left _ (List.mem_of_getElem? h))
theorem innX10_restore_X10 : ∀ w ∈ wsX100, w ∈ wsX10_restore := fun _ h => List.mem_cons_of_mem _ (List.mem_append_right _ (List.mem_append_left _ h))
theorem iwoX10_status {k : Nat} {w : Cond} (h : woX10_status[k]? = some w) : w ∈ wsX10_status := List.mem_cons_of_mem _ (List.mem_append_left _ (List.mem_of_getElem? h))
theorem innX10_status_X10 : ∀ w ∈ wsX100, w ∈ wsX10_status := fun _ h => List.mem_cons_of_mem _ (List.mem_append_right _ (List.mem_append_left _ h))
theorem iwoX10_count {k : Nat} {w : Cond} (h : woX10_count[k]? = some w) : w ∈ wsX10_count := List.mem_cons_of_mem _ (List.mem_append_left _ (List.mem_of_getElem? h))
theorem innX10_count_X10 : ∀ w ∈ wsX100, w ∈ wsX10_count := fun _ h => List.mem_cons_of_mem _ (List.mem_append_right _ (List.mem_append_left _ h))
theorem innX10_count_X8 : ∀ w ∈ wsX80, w ∈ wsX10_count := fun _ h => List.mem_cons_of_mem _ (List.mem_append_right _ (List.mem_append_right _ (List.mem_append_left _ h)))
theorem innX10_count_X2 : ∀ w ∈ wsX20, w ∈ wsX10_count := fun _ h => List.mem_cons_of_mem _ (List.mem_append_right _ (List.mem_append_right _ (List.mem_append_right _ (h))))
theorem iwoX11_tellsNothing {k : Nat} {w : Cond} (h : woX11_tellsNothing[k]? = some w) : w ∈ wsX11_tellsNothing := List.mem_cons_of_mem _ (List.mem_append_left _ (List.mem_of_getElem? h))
theorem innX11_tellsNothing_X11 : ∀ w ∈ wsX110, w ∈ wsX11_tellsNothing := fun _ h => List.mem_cons_of_mem _ (List.mem_append_right _ (h))
theorem iwoX11_stands0 {k : Nat} {w : Cond} (h : woX11_stands0[k]? = some w) : w ∈ wsX11_stands0 := List.mem_cons_of_mem _ (List.mem_append_left _ (List.mem_of_getElem? h))
theorem innX11_stands0_X11 : ∀ w ∈ wsX110, w ∈ wsX11_stands0 := fun _ h => List.mem_cons_of_mem _ (List.mem_append_right _ (h))
theorem iwoX11_init {k : Nat} {w : Cond} (h : woX11_init[k]? = some w) : w ∈ wsX11_init := List.mem_cons_of_mem _ (List.mem_append_left _ (List.mem_of_getElem? h))
theorem innX11_init_X11 : ∀ w ∈ wsX110, w ∈ wsX11_init := fun _ h => List.mem_cons_of_mem _ (List.mem_append_right _ (List.mem_append_left _ h))
theorem iwoX11_thrown {k : Nat} {w : Cond} (h : woX11_thrown[k]? = some w) : w ∈ wsX11_thrown := List.mem_cons_of_mem _ (List.mem_append_left _ (List.mem_of_getElem? h))
theorem innX11_thrown_X11 : ∀ w ∈ wsX110, w ∈ wsX11_thrown := fun _ h => List.mem_cons_of_mem _ (List.mem_append_right _ (h))
theorem iwoX11_bad {k : Nat} {w : Cond} (h : woX11_bad[k]? = some w) : w ∈ wsX11_bad := List.mem_cons_of_mem _ (List.mem_append_left _ (List.mem_of_getElem? h))
theorem innX11_bad_X11 : ∀ w ∈ wsX110, w ∈ wsX11_bad := fun _ h => List.mem_cons_of_mem _ (List.mem_append_right _ (h))
theorem iwoX11_feed {k : Nat} {w : Cond} (h : woX11_feed[k]? = some w) : w ∈ wsX11_feed := List.mem_cons_of_mem _ (List.mem_append_left _ (List.mem_of_getElem? h))
theorem innX11_feed_X11 : ∀ w ∈ wsX110, w ∈ wsX11_feed := fun _ h => List.mem_cons_of_mem _ (List.mem_append_right _ (h))
theorem iwoX11_byteAt {k : Nat} {w : Cond} (h : woX11_byteAt[k]? = some w) : w ∈ wsX11_byteAt := List.mem_cons_of_mem _ (List.mem_append_left _ (List.mem_of_getElem? h))
theorem innX11_byteAt_X11 : ∀ w ∈ wsX110, w ∈ wsX11_byteAt := fun _ h => List.mem_cons_of_mem _ (List.mem_append_right _ (h))
theorem iwoX11_blanks {k : Nat} {w : Cond} (h : woX11_blanks[k]? = some w) : w ∈ wsX11_blanks := List.mem_cons_of_mem _ (List.mem_append_left _ (List.mem_of_getElem? h))
theorem innX11_blanks_X11 : ∀ w ∈ wsX110, w ∈ wsX11_blanks := fun _ h => List.mem_cons_of_mem _ (List.mem_append_right _ (List.mem_append_left _ h))
theorem iwoX11_wrong {k : Nat} {w : Cond} (h : woX11_wrong[k]? = some w) : w ∈ wsX11_wrong := List.mem_cons_of_mem _ (List.mem_append_left _ (List.mem_of_getElem? h))
theorem innX11_wrong_X11 : ∀ w ∈ wsX110, w ∈ wsX11_wrong := fun _ h => List.mem_cons_of_mem _ (List.mem_append_right _ (h))
theorem iwoX11_number {k : Nat} {w : Cond} (h : woX11_number[k]? = some w) : w ∈ wsX11_number := List.mem_cons_of_mem _ (List.mem_append_left _ (List.mem_of_getElem? h))
theorem innX11_number_X11 : ∀ w ∈ wsX110, w ∈ wsX11_number := fun _ h => List.mem_cons_of_mem _ (List.mem_append_right _ (List.mem_append_left _ h))
theorem iwoX11_wordHere {k : Nat} {w : Cond} (h : woX11_wordHere[k]? = some w) : w ∈ wsX11_wordHere := List.mem_cons_of_mem _ (List.mem_append_left _ (List.mem_of_getElem? h))
theorem innX11_wordHere_X11 : ∀ w ∈ wsX110, w ∈ wsX11_wordHere := fun _ h => List.mem_cons_of_mem _ (List.mem_append_right _ (List.mem_append_left _ h))
theorem iwoX11_isWord {k : Nat} {w : Cond} (h : woX11_isWord[k]? = some w) : w ∈ wsX11_isWord := List.mem_cons_of_mem _ (List.mem_append_left _ (List.mem_of_getElem? h))
theorem innX11_isWord_X11 : ∀ w ∈ wsX110, w ∈ wsX11_isWord := fun _ h => List.mem_cons_of_mem _ (List.mem_append_right _ (List.mem_append_left _ h))
theorem iwoX11_skipWord {k : Nat} {w : Cond} (h : woX11_skipWord[k]? = some w) : w ∈ wsX11_skipWord := List.mem_cons_of_mem _ (List.mem_append_left _ (List.mem_of_getElem? h))
theorem innX11_skipWord_X11 : ∀ w ∈ wsX110, w ∈ wsX11_skipWord := fun _ h => List.mem_cons_of_mem _ (List.mem_append_right _ (List.mem_append_left _ h))
theorem iwoX11_closes {k : Nat} {w : Cond} (h : woX11_closes[k]? = some w) : w ∈ wsX11_closes := List.mem_cons_of_mem _ (List.mem_append_left _ (List.mem_of_getElem? h))
theorem innX11_closes_X11 : ∀ w ∈ wsX110, w ∈ wsX11_closes := fun _ h => List.mem_cons_of_mem _ (List.mem_append_right _ (List.mem_append_left _ h))
theorem iwoX11_starts {k : Nat} {w : Cond} (h : woX11_starts[k]? = some w) : w ∈ wsX11_starts := List.mem_cons_of_mem _ (List.mem_append_left _ (List.mem_of_getElem? h))
theorem innX11_starts_X11 : ∀ w ∈ wsX110, w ∈ wsX11_starts := fun _ h => List.mem_cons_of_mem _ (List.mem_append_right _ (List.mem_append_left _ h))
theorem iwoX11_clause {k : Nat} {w : Cond} (h : woX11_clause[k]? = some w) : w ∈ wsX11_clause := List.mem_cons_of_mem _ (List.mem_append_left _ (List.mem_of_getElem? h))
theorem innX11_clause_X11 : ∀ w ∈ wsX110, w ∈ wsX11_clause := fun _ h => List.mem_cons_of_mem _ (List.mem_append_right _ (List.mem_append_left _ h))
theorem iwoX11_siege {k : Nat} {w : Cond} (h : woX11_siege[k]? = some w) : w ∈ wsX11_siege := List.mem_cons_of_mem _ (List.mem_append_left _ (List.mem_of_getElem? h))
theorem innX11_siege_X11 : ∀ w ∈ wsX110, w ∈ wsX11_siege := fun _ h => List.mem_cons_of_mem _ (List.mem_append_right _ (List.mem_append_left _ h))
theorem iwoX11_rules {k : Nat} {w : Cond} (h : woX11_rules[k]? = some w) : w ∈ wsX11_rules := List.mem_cons_of_mem _ (List.mem_append_left _ (List.mem_of_getElem? h))
theorem innX11_rules_X11 : ∀ w ∈ wsX110, w ∈ wsX11_rules := fun _ h => List.mem_cons_of_mem _ (List.mem_append_right _ (List.mem_append_left _ h))
theorem iwoX11_contract {k : Nat} {w : Cond} (h : woX11_contract[k]? = some w) : w ∈ wsX11_contract := List.mem_cons_of_mem _ (List.mem_append_left _ (List.mem_of_getElem? h))
theorem innX11_contract_X11 : ∀ w ∈ wsX110, w ∈ wsX11_contract := fun _ h => List.mem_cons_of_mem _ (List.mem_append_right _ (List.mem_append_left _ h))
theorem iwoX11_fault {k : Nat} {w : Cond} (h : woX11_fault[k]? = some w) : w ∈ wsX11_fault := List.mem_cons_of_mem _ (List.mem_append_left _ (List.mem_of_getElem? h))
theorem innX11_fault_X11 : ∀ w ∈ wsX110, w ∈ wsX11_fault := fun _ h => List.mem_cons_of_mem _ (List.mem_append_right _ (h))
theorem iwoX11_told {k : Nat} {w : Cond} (h : woX11_told[k]? = some w) : w ∈ wsX11_told := List.mem_cons_of_mem _ (List.mem_append_left _ (List.mem_of_getElem? h))
theorem innX11_told_X11 : ∀ w ∈ wsX110, w ∈ wsX11_told := fun _ h => List.mem_cons_of_mem _ (List.mem_append_right _ (List.mem_append_left _ h))
theorem iwoX11_isWall {k : Nat} {w : Cond} (h : woX11_isWall[k]? = some w) : w ∈ wsX11_isWall := List.mem_cons_of_mem _ (List.mem_append_left _ (List.mem_of_getElem? h))
theorem innX11_isWall_X11 : ∀ w ∈ wsX110, w ∈ wsX11_isWall := fun _ h => List.mem_cons_of_mem _ (List.mem_append_right _ (List.mem_append_left _ h))
theorem iwoX11_wall {k : Nat} {w : Cond} (h : woX11_wall[k]? = some w) : w ∈ wsX11_wall := List.mem_cons_of_mem _ (List.mem_append_left _ (List.mem_of_getElem? h))
theorem innX11_wall_X11 : ∀ w ∈ wsX110, w ∈ wsX11_wall := fun _ h => List.mem_cons_of_mem _ (List.mem_append_right _ (List.mem_append_left _ h))
theorem iwoX11_isContract {k : Nat} {w : Cond} (h : woX11_isContract[k]? = some w) : w ∈ wsX11_isContract := List.mem_cons_of_mem _ (List.mem_append_left _ (List.mem_of_getElem? h))
theorem innX11_isContract_X11 : ∀ w ∈ wsX110, w ∈ wsX11_isContract := fun _ h => List.mem_cons_of_mem _ (List.mem_append_right _ (List.mem_append_left _ h))
theorem iwoX11_rule {k : Nat} {w : Cond} (h : woX11_rule[k]? = some w) : w ∈ wsX11_rule := List.mem_cons_of_mem _ (List.mem_append_left _ (List.mem_of_getElem? h))
theorem innX11_rule_X11 : ∀ w ∈ wsX110, w ∈ wsX11_rule := fun _ h => List.mem_cons_of_mem _ (List.mem_append_right _ (List.mem_append_left _ h))
theorem iwoX11_wantsFor {k : Nat} {w : Cond} (h : woX11_wantsFor[k]? = some w) : w ∈ wsX11_wantsFor := List.mem_cons_of_mem _ (List.mem_append_left _ (List.mem_of_getElem? h))
theorem innX11_wantsFor_X11 : ∀ w ∈ wsX110, w ∈ wsX11_wantsFor := fun _ h => List.mem_cons_of_mem _ (List.mem_append_right _ (h))
theorem iwoX11_wants {k : Nat} {w : Cond} (h : woX11_wants[k]? = some w) : w ∈ wsX11_wants := List.mem_cons_of_mem _ (List.mem_append_left _ (List.mem_of_getElem? h))
theorem innX11_wants_X11 : ∀ w ∈ wsX110, w ∈ wsX11_wants := fun _ h => List.mem_cons_of_mem _ (List.mem_append_right _ (List.mem_append_left _ h))
theorem iwoX11_signs {k : Nat} {w : Cond} (h : woX11_signs[k]? = some w) : w ∈ wsX11_signs := List.mem_cons_of_mem _ (List.mem_append_left _ (List.mem_of_getElem? h))
theorem innX11_signs_X11 : ∀ w ∈ wsX110, w ∈ wsX11_signs := fun _ h => List.mem_cons_of_mem _ (List.mem_append_right _ (h))
theorem iwoX11_sign {k : Nat} {w : Cond} (h : woX11_sign[k]? = some w) : w ∈ wsX11_sign := List.mem_cons_of_mem _ (List.mem_append_left _ (List.mem_of_getElem? h))
theorem innX11_sign_X11 : ∀ w ∈ wsX110, w ∈ wsX11_sign := fun _ h => List.mem_cons_of_mem _ (List.mem_append_right _ (List.mem_append_left _ h))
theorem iwoX11_pays {k : Nat} {w : Cond} (h : woX11_pays[k]? = some w) : w ∈ wsX11_pays := List.mem_cons_of_mem _ (List.mem_append_left _ (List.mem_of_getElem? h))
theorem innX11_pays_X11 : ∀ w ∈ wsX110, w ∈ wsX11_pays := fun _ h => List.mem_cons_of_mem _ (List.mem_append_right _ (List.mem_append_left _ h))
theorem iwoX11_fears {k : Nat} {w : Cond} (h : woX11_fears[k]? = some w) : w ∈ wsX11_fears := List.mem_cons_of_mem _ (List.mem_append_left _ (List.mem_of_getElem? h))
theorem innX11_fears_X11 : ∀ w ∈ wsX110, w ∈ wsX11_fears := fun _ h => List.mem_cons_of_mem _ (List.mem_append_right _ (List.mem_append_left _ h))
theorem iwoX11_weakest {k : Nat} {w : Cond} (h : woX11_weakest[k]? = some w) : w ∈ wsX11_weakest := List.mem_cons_of_mem _ (List.mem_append_left _ (List.mem_of_getElem? h))
theorem innX11_weakest_X11 : ∀ w ∈ wsX110, w ∈ wsX11_weakest := fun _ h => List.mem_cons_of_mem _ (List.mem_append_right _ (h))
theorem iwoX11_shoots {k : Nat} {w : Cond} (h : woX11_shoots[k]? = some w) : w ∈ wsX11_shoots := List.mem_cons_of_mem _ (List.mem_append_left _ (List.mem_of_getElem? h))
theorem innX11_shoots_X11 : ∀ w ∈ wsX110, w ∈ wsX11_shoots := fun _ h => List.mem_cons_of_mem _ (List.mem_append_right _ (List.mem_append_left _ h))
theorem iwoX11_underContract {k : Nat} {w : Cond} (h : woX11_underContract[k]? = some w) : w ∈ wsX11_underContract := List.mem_cons_of_mem _ (List.mem_append_left _ (List.mem_of_getElem? h))
theorem innX11_underContract_X11 : ∀ w ∈ wsX110, w ∈ wsX11_underContract := fun _ h => List.mem_cons_of_mem _ (List.mem_append_right _ (List.mem_append_left _ h))
theorem iwoX11_mends {k : Nat} {w : Cond} (h : woX11_mends[k]? = some w) : w ∈ wsX11_mends := List.mem_cons_of_mem _ (List.mem_append_left _ (List.mem_of_getElem? h))
theorem innX11_mends_X11 : ∀ w ∈ wsX110, w ∈ wsX11_mends := fun _ h => List.mem_cons_of_mem _ (List.mem_append_right _ (List.mem_append_left _ h))
theorem iwoX11_deserts {k : Nat} {w : Cond} (h : woX11_deserts[k]? = some w) : w ∈ wsX11_deserts := List.mem_cons_of_mem _ (List.mem_append_left _ (List.mem_of_getElem? h))
theorem innX11_deserts_X11 : ∀ w ∈ wsX110, w ∈ wsX11_deserts := fun _ h => List.mem_cons_of_mem _ (List.mem_append_right _ (h))
theorem iwoX11_monthGoes {k : Nat} {w : Cond} (h : woX11_monthGoes[k]? = some w) : w ∈ wsX11_monthGoes := List.mem_cons_of_mem _ (List.mem_append_left _ (List.mem_of_getElem? h))
theorem innX11_monthGoes_X11 : ∀ w ∈ wsX110, w ∈ wsX11_monthGoes := fun _ h => List.mem_cons_of_mem _ (List.mem_append_right _ (List.mem_append_left _ h))
theorem iwoX11_puts {k : Nat} {w : Cond} (h : woX11_puts[k]? = some w) : w ∈ wsX11_puts := List.mem_cons_of_mem _ (List.mem_append_left _ (List.mem_of_getElem? h))
theorem innX11_puts_X11 : ∀ w ∈ wsX110, w ∈ wsX11_puts := fun _ h => List.mem_cons_of_mem _ (List.mem_append_right _ (h))
theorem iwoX11_takes {k : Nat} {w : Cond} (h : woX11_takes[k]? = some w) : w ∈ wsX11_takes := List.mem_cons_of_mem _ (List.mem_append_left _ (List.mem_of_getElem? h))
theorem innX11_takes_X11 : ∀ w ∈ wsX110, w ∈ wsX11_takes := fun _ h => List.mem_cons_of_mem _ (List.mem_append_right _ (h))
theorem iwoX11_months {k : Nat} {w : Cond} (h : woX11_months[k]? = some w) : w ∈ wsX11_months := List.mem_cons_of_mem _ (List.mem_append_left _ (List.mem_of_getElem? h))
theorem innX11_months_X11 : ∀ w ∈ wsX110, w ∈ wsX11_months := fun _ h => List.mem_cons_of_mem _ (List.mem_append_right _ (List.mem_append_left _ h))
theorem iwoX11_undo {k : Nat} {w : Cond} (h : woX11_undo[k]? = some w) : w ∈ wsX11_undo := List.mem_cons_of_mem _ (List.mem_append_left _ (List.mem_of_getElem? h))
theorem innX11_undo_X11 : ∀ w ∈ wsX110, w ∈ wsX11_undo := fun _ h => List.mem_cons_of_mem _ (List.mem_append_right _ (List.mem_append_left _ h))
theorem iwoX11_sums {k : Nat} {w : Cond} (h : woX11_sums[k]? = some w) : w ∈ wsX11_sums := List.mem_cons_of_mem _ (List.mem_append_left _ (List.mem_of_getElem? h))
theorem innX11_sums_X11 : ∀ w ∈ wsX110, w ∈ wsX11_sums := fun _ h => List.mem_cons_of_mem _ (List.mem_append_right _ (List.mem_append_left _ h))
theorem iwoX11_corks {k : Nat} {w : Cond} (h : woX11_corks[k]? = some w) : w ∈ wsX11_corks := List.mem_cons_of_mem _ (List.mem_append_left _ (List.mem_of_getElem? h))
theorem innX11_corks_X11 : ∀ w ∈ wsX110, w ∈ wsX11_corks := fun _ h => List.mem_cons_of_mem _ (List.mem_append_right _ (List.mem_append_left _ h))
theorem iwoX11_by {k : Nat} {w : Cond} (h : woX11_by[k]? = some w) : w ∈ wsX11_by := List.mem_cons_of_mem _ (List.mem_append_left _ (List.mem_of_getElem? h))
theorem innX11_by_X11 : ∀ w ∈ wsX110, w ∈ wsX11_by := fun _ h => List.mem_cons_of_mem _ (List.mem_append_right _ (List.mem_append_left _ h))
theorem iwoX11_would {k : Nat} {w : Cond} (h : woX11_would[k]? = some w) : w ∈ wsX11_would := List.mem_cons_of_mem _ (List.mem_append_left _ (List.mem_of_getElem? h))
theorem innX11_would_X11 : ∀ w ∈ wsX110, w ∈ wsX11_would := fun _ h => List.mem_cons_of_mem _ (List.mem_append_right _ (List.mem_append_left _ h))
theorem iwoX11_best {k : Nat} {w : Cond} (h : woX11_best[k]? = some w) : w ∈ wsX11_best := List.mem_cons_of_mem _ (List.mem_append_left _ (List.mem_of_getElem? h))
theorem innX11_best_X11 : ∀ w ∈ wsX110, w ∈ wsX11_best := fun _ h => List.mem_cons_of_mem _ (List.mem_append_right _ (List.mem_append_left _ h))
theorem iwoX11_byOffer {k : Nat} {w : Cond} (h : woX11_byOffer[k]? = some w) : w ∈ wsX11_byOffer := List.mem_cons_of_mem _ (List.mem_append_left _ (List.mem_of_getElem? h))
theorem innX11_byOffer_X11 : ∀ w ∈ wsX110, w ∈ wsX11_byOffer := fun _ h => List.mem_cons_of_mem _ (List.mem_append_right _ (List.mem_append_left _ h))
theorem iwoX11_offer {k : Nat} {w : Cond} (h : woX11_offer[k]? = some w) : w ∈ wsX11_offer := List.mem_cons_of_mem _ (List.mem_append_left _ (List.mem_of_getElem? h))
theorem innX11_offer_X11 : ∀ w ∈ wsX110, w ∈ wsX11_offer := fun _ h => List.mem_cons_of_mem _ (List.mem_append_right _ (List.mem_append_left _ h))
theorem iwoX11_nearest {k : Nat} {w : Cond} (h : woX11_nearest[k]? = some w) : w ∈ wsX11_nearest := List.mem_cons_of_mem _ (List.mem_append_left _ (List.mem_of_getElem? h))
theorem innX11_nearest_X11 : ∀ w ∈ wsX110, w ∈ wsX11_nearest := fun _ h => List.mem_cons_of_mem _ (List.mem_append_right _ (List.mem_append_left _ h))
theorem iwoX11_stop {k : Nat} {w : Cond} (h : woX11_stop[k]? = some w) : w ∈ wsX11_stop := List.mem_cons_of_mem _ (List.mem_append_left _ (List.mem_of_getElem? h))
theorem innX11_stop_X11 : ∀ w ∈ wsX110, w ∈ wsX11_stop := fun _ h => List.mem_cons_of_mem _ (List.mem_append_right _ (List.mem_append_left _ h))
theorem iwoX11_odds {k : Nat} {w : Cond} (h : woX11_odds[k]? = some w) : w ∈ wsX11_odds := List.mem_cons_of_mem _ (List.mem_append_left _ (List.mem_of_getElem? h))
theorem innX11_odds_X11 : ∀ w ∈ wsX110, w ∈ wsX11_odds := fun _ h => List.mem_cons_of_mem _ (List.mem_append_right _ (List.mem_append_left _ h))
theorem iwoX11_kind {k : Nat} {w : Cond} (h : woX11_kind[k]? = some w) : w ∈ wsX11_kind := List.mem_cons_of_mem _ (List.mem_append_left _ (List.mem_of_getElem? h))
theorem innX11_kind_X11 : ∀ w ∈ wsX110, w ∈ wsX11_kind := fun _ h => List.mem_cons_of_mem _ (List.mem_append_right _ (List.mem_append_left _ h))
theorem iwoX11_isSeen {k : Nat} {w : Cond} (h : woX11_isSeen[k]? = some w) : w ∈ wsX11_isSeen := List.mem_cons_of_mem _ (List.mem_append_left _ (List.mem_of_getElem? h))
theorem innX11_isSeen_X11 : ∀ w ∈ wsX110, w ∈ wsX11_isSeen := fun _ h => List.mem_cons_of_mem _ (List.mem_append_right _ (h))
theorem iwoX11_seen {k : Nat} {w : Cond} (h : woX11_seen[k]? = some w) : w ∈ wsX11_seen := List.mem_cons_of_mem _ (List.mem_append_left _ (List.mem_of_getElem? h))
theorem innX11_seen_X11 : ∀ w ∈ wsX110, w ∈ wsX11_seen := fun _ h => List.mem_cons_of_mem _ (List.mem_append_right _ (List.mem_append_left _ h))
theorem iwoX11_spy {k : Nat} {w : Cond} (h : woX11_spy[k]? = some w) : w ∈ wsX11_spy := List.mem_cons_of_mem _ (List.mem_append_left _ (List.mem_of_getElem? h))
theorem innX11_spy_X11 : ∀ w ∈ wsX110, w ∈ wsX11_spy := fun _ h => List.mem_cons_of_mem _ (List.mem_append_right _ (List.mem_append_left _ h))
theorem iwoX11_believed {k : Nat} {w : Cond} (h : woX11_believed[k]? = some w) : w ∈ wsX11_believed := List.mem_cons_of_mem _ (List.mem_append_left _ (List.mem_of_getElem? h))
theorem innX11_believed_X11 : ∀ w ∈ wsX110, w ∈ wsX11_believed := fun _ h => List.mem_cons_of_mem _ (List.mem_append_right _ (List.mem_append_left _ h))
theorem iwoX11_falls {k : Nat} {w : Cond} (h : woX11_falls[k]? = some w) : w ∈ wsX11_falls := List.mem_cons_of_mem _ (List.mem_append_left _ (List.mem_of_getElem? h))
theorem innX11_falls_X11 : ∀ w ∈ wsX110, w ∈ wsX11_falls := fun _ h => List.mem_cons_of_mem _ (List.mem_append_right _ (List.mem_append_left _ h))
theorem iwoX11_firstWalls {k : Nat} {w : Cond} (h : woX11_firstWalls[k]? = some w) : w ∈ wsX11_firstWalls := List.mem_cons_of_mem _ (List.mem_append_left _ (List.mem_of_getElem? h))
theorem innX11_firstWalls_X11 : ∀ w ∈ wsX110, w ∈ wsX11_firstWalls := fun _ h => List.mem_cons_of_mem _ (List.mem_append_right _ (List.mem_append_left _ h))
theorem iwoX11_safeBy {k : Nat} {w : Cond} (h : woX11_safeBy[k]? = some w) : w ∈ wsX11_safeBy := List.mem_cons_of_mem _ (List.mem_append_left _ (List.mem_of_getElem? h))
theorem innX11_safeBy_X11 : ∀ w ∈ wsX110, w ∈ wsX11_safeBy := fun _ h => List.mem_cons_of_mem _ (List.mem_append_right _ (List.mem_append_left _ h))
theorem iwoX11_earnest {k : Nat} {w : Cond} (h : woX11_earnest[k]? = some w) : w ∈ wsX11_earnest := List.mem_cons_of_mem _ (List.mem_append_left _ (List.mem_of_getElem? h))
theorem innX11_earnest_X11 : ∀ w ∈ wsX110, w ∈ wsX11_earnest := fun _ h => List.mem_cons_of_mem _ (List.mem_append_right _ (List.mem_append_left _ h))
theorem iwoX11_stands {k : Nat} {w : Cond} (h : woX11_stands[k]? = some w) : w ∈ wsX11_stands := List.mem_cons_of_mem _ (List.mem_append_left _ (List.mem_of_getElem? h))
theorem innX11_stands_X11 : ∀ w ∈ wsX110, w ∈ wsX11_stands := fun _ h => List.mem_cons_of_mem _ (List.mem_append_right _ (List.mem_append_left _ h))
theorem iwoX11_show {k : Nat} {w : Cond} (h : woX11_show[k]? = some w) : w ∈ wsX11_show := List.mem_cons_of_mem _ (List.mem_append_left _ (List.mem_of_getElem? h))
theorem innX11_show_X11 : ∀ w ∈ wsX110, w ∈ wsX11_show := fun _ h => List.mem_cons_of_mem _ (List.mem_append_right _ (List.mem_append_left _ h))
theorem iwoX11_offers {k : Nat} {w : Cond} (h : woX11_offers[k]? = some w) : w ∈ wsX11_offers := List.mem_cons_of_mem _ (List.mem_append_left _ (List.mem_of_getElem? h))
theorem innX11_offers_X11 : ∀ w ∈ wsX110, w ∈ wsX11_offers := fun _ h => List.mem_cons_of_mem _ (List.mem_append_right _ (List.mem_append_left _ h))
theorem iwoX11_laysRest {k : Nat} {w : Cond} (h : woX11_laysRest[k]? = some w) : w ∈ wsX11_laysRest := List.mem_cons_of_mem _ (List.mem_append_left _ (List.mem_of_getElem? h))
theorem innX11_laysRest_X11 : ∀ w ∈ wsX110, w ∈ wsX11_laysRest := fun _ h => List.mem_cons_of_mem _ (List.mem_append_right _ (List.mem_append_left _ h))
theorem iwoX11_mostNow {k : Nat} {w : Cond} (h : woX11_mostNow[k]? = some w) : w ∈ wsX11_mostNow := List.mem_cons_of_mem _ (List.mem_append_left _ (List.mem_of_getElem? h))
theorem innX11_mostNow_X11 : ∀ w ∈ wsX110, w ∈ wsX11_mostNow := fun _ h => List.mem_cons_of_mem _ (List.mem_append_right _ (List.mem_append_left _ h))
theorem iwoX11_most {k : Nat} {w : Cond} (h : woX11_most[k]? = some w) : w ∈ wsX11_most := List.mem_cons_of_mem _ (List.mem_append_left _ (List.mem_of_getElem? h))
theorem innX11_most_X11 : ∀ w ∈ wsX110, w ∈ wsX11_most := fun _ h => List.mem_cons_of_mem _ (List.mem_append_right _ (List.mem_append_left _ h))
theorem iwoX11_serves {k : Nat} {w : Cond} (h : woX11_serves[k]? = some w) : w ∈ wsX11_serves := List.mem_cons_of_mem _ (List.mem_append_left _ (List.mem_of_getElem? h))
theorem innX11_serves_X11 : ∀ w ∈ wsX110, w ∈ wsX11_serves := fun _ h => List.mem_cons_of_mem _ (List.mem_append_right _ (List.mem_append_left _ h))
theorem iwoX11_moves {k : Nat} {w : Cond} (h : woX11_moves[k]? = some w) : w ∈ wsX11_moves := List.mem_cons_of_mem _ (List.mem_append_left _ (List.mem_of_getElem? h))
theorem innX11_moves_X11 : ∀ w ∈ wsX110, w ∈ wsX11_moves := fun _ h => List.mem_cons_of_mem _ (List.mem_append_right _ (h))
theorem iwoX11_movesAll {k : Nat} {w : Cond} (h : woX11_movesAll[k]? = some w) : w ∈ wsX11_movesAll := List.mem_cons_of_mem _ (List.mem_append_left _ (List.mem_of_getElem? h))
theorem innX11_movesAll_X11 : ∀ w ∈ wsX110, w ∈ wsX11_movesAll := fun _ h => List.mem_cons_of_mem _ (List.mem_append_right _ (List.mem_append_left _ h))
theorem iwoX11_image {k : Nat} {w : Cond} (h : woX11_image[k]? = some w) : w ∈ wsX11_image := List.mem_cons_of_mem _ (List.mem_append_left _ (List.mem_of_getElem? h))
theorem innX11_image_X11 : ∀ w ∈ wsX110, w ∈ wsX11_image := fun _ h => List.mem_cons_of_mem _ (List.mem_append_right _ (List.mem_append_left _ h))
theorem iwoX11_restore {k : Nat} {w : Cond} (h : woX11_restore[k]? = some w) : w ∈ wsX11_restore := List.mem_cons_of_mem _ (List.mem_append_left _ (List.mem_of_getElem? h))
theorem innX11_restore_X11 : ∀ w ∈ wsX110, w ∈ wsX11_restore := fun _ h => List.mem_cons_of_mem _ (List.mem_append_right _ (List.mem_append_left _ h))
theorem iwoX11_status {k : Nat} {w : Cond} (h : woX11_status[k]? = some w) : w ∈ wsX11_status := List.mem_cons_of_mem _ (List.mem_append_left _ (List.mem_of_getElem? h))
theorem innX11_status_X11 : ∀ w ∈ wsX110, w ∈ wsX11_status := fun _ h => List.mem_cons_of_mem _ (List.mem_append_right _ (List.mem_append_left _ h))
theorem iwoX11_count {k : Nat} {w : Cond} (h : woX11_count[k]? = some w) : w ∈ wsX11_count := List.mem_cons_of_mem _ (List.mem_append_left _ (List.mem_of_getElem? h))
theorem innX11_count_X11 : ∀ w ∈ wsX110, w ∈ wsX11_count := fun _ h => List.mem_cons_of_mem _ (List.mem_append_right _ (h))
end
