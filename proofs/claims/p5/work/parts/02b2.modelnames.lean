theorem dX11_monthGoes_143 : decode cX11_monthGoes 143 = .ok (.bipush 24, 2) := by decide +kernel
theorem dX11_monthGoes_145 : decode cX11_monthGoes 145 = .ok (.dup2, 1) := by decide +kernel
theorem dX11_monthGoes_146 : decode cX11_monthGoes 146 = .ok (.iaload, 1) := by decide +kernel
theorem dX11_monthGoes_147 : decode cX11_monthGoes 147 = .ok (.iconst 1, 1) := by decide +kernel
theorem dX11_monthGoes_148 : decode cX11_monthGoes 148 = .ok (.iadd, 1) := by decide +kernel
theorem dX11_monthGoes_149 : decode cX11_monthGoes 149 = .ok (.iastore, 1) := by decide +kernel
theorem dX11_monthGoes_150 : decode cX11_monthGoes 150 = .ok (.aload_n 0, 1) := by decide +kernel
theorem dX11_monthGoes_151 : decode cX11_monthGoes 151 = .ok (.getfield 46, 3) := by decide +kernel
theorem dX11_monthGoes_154 : decode cX11_monthGoes 154 = .ok (.bipush 10, 2) := by decide +kernel
theorem dX11_monthGoes_156 : decode cX11_monthGoes 156 = .ok (.iaload, 1) := by decide +kernel
theorem dX11_monthGoes_157 : decode cX11_monthGoes 157 = .ok (.iconst (-1), 1) := by decide +kernel
theorem dX11_monthGoes_158 : decode cX11_monthGoes 158 = .ok (.if_icmp .ne 4, 3) := by decide +kernel
theorem dX11_monthGoes_161 : decode cX11_monthGoes 161 = .ok (.return_, 1) := by decide +kernel
theorem dX11_monthGoes_162 : decode cX11_monthGoes 162 = .ok (.aload_n 0, 1) := by decide +kernel
theorem dX11_monthGoes_163 : decode cX11_monthGoes 163 = .ok (.getfield 46, 3) := by decide +kernel
theorem dX11_monthGoes_166 : decode cX11_monthGoes 166 = .ok (.bipush 11, 2) := by decide +kernel
theorem dX11_monthGoes_168 : decode cX11_monthGoes 168 = .ok (.dup2, 1) := by decide +kernel
theorem dX11_monthGoes_169 : decode cX11_monthGoes 169 = .ok (.iaload, 1) := by decide +kernel
theorem dX11_monthGoes_170 : decode cX11_monthGoes 170 = .ok (.iconst 1, 1) := by decide +kernel
theorem dX11_monthGoes_171 : decode cX11_monthGoes 171 = .ok (.iadd, 1) := by decide +kernel
theorem dX11_monthGoes_172 : decode cX11_monthGoes 172 = .ok (.iastore, 1) := by decide +kernel
theorem dX11_monthGoes_173 : decode cX11_monthGoes 173 = .ok (.aload_n 0, 1) := by decide +kernel
theorem dX11_monthGoes_174 : decode cX11_monthGoes 174 = .ok (.getfield 46, 3) := by decide +kernel
theorem dX11_monthGoes_177 : decode cX11_monthGoes 177 = .ok (.bipush 11, 2) := by decide +kernel
theorem dX11_monthGoes_179 : decode cX11_monthGoes 179 = .ok (.iaload, 1) := by decide +kernel
theorem dX11_monthGoes_180 : decode cX11_monthGoes 180 = .ok (.aload_n 0, 1) := by decide +kernel
theorem dX11_monthGoes_181 : decode cX11_monthGoes 181 = .ok (.getfield 40, 3) := by decide +kernel
theorem dX11_monthGoes_184 : decode cX11_monthGoes 184 = .ok (.aload_n 0, 1) := by decide +kernel
theorem dX11_monthGoes_185 : decode cX11_monthGoes 185 = .ok (.getfield 46, 3) := by decide +kernel
theorem dX11_monthGoes_188 : decode cX11_monthGoes 188 = .ok (.bipush 10, 2) := by decide +kernel
theorem dX11_monthGoes_190 : decode cX11_monthGoes 190 = .ok (.iaload, 1) := by decide +kernel
theorem dX11_monthGoes_191 : decode cX11_monthGoes 191 = .ok (.aaload, 1) := by decide +kernel
theorem dX11_monthGoes_192 : decode cX11_monthGoes 192 = .ok (.iconst 5, 1) := by decide +kernel
theorem dX11_monthGoes_193 : decode cX11_monthGoes 193 = .ok (.iaload, 1) := by decide +kernel
theorem dX11_monthGoes_194 : decode cX11_monthGoes 194 = .ok (.if_icmp .ne 8, 3) := by decide +kernel
theorem dX11_monthGoes_197 : decode cX11_monthGoes 197 = .ok (.aload_n 0, 1) := by decide +kernel
theorem dX11_monthGoes_198 : decode cX11_monthGoes 198 = .ok (.iconst (-1), 1) := by decide +kernel
theorem dX11_monthGoes_199 : decode cX11_monthGoes 199 = .ok (.invokevirtual 183, 3) := by decide +kernel
theorem dX11_monthGoes_202 : decode cX11_monthGoes 202 = .ok (.return_, 1) := by decide +kernel
theorem dX11_deserts_0 : decode cX11_deserts 0 = .ok (.aload_n 0, 1) := by decide +kernel
theorem dX11_deserts_1 : decode cX11_deserts 1 = .ok (.getfield 23, 3) := by decide +kernel
theorem dX11_deserts_4 : decode cX11_deserts 4 = .ok (.iconst 3, 1) := by decide +kernel
theorem dX11_deserts_5 : decode cX11_deserts 5 = .ok (.iaload, 1) := by decide +kernel
theorem dX11_deserts_6 : decode cX11_deserts 6 = .ok (.aload_n 0, 1) := by decide +kernel
theorem dX11_deserts_7 : decode cX11_deserts 7 = .ok (.getfield 23, 3) := by decide +kernel
theorem dX11_deserts_10 : decode cX11_deserts 10 = .ok (.bipush 6, 2) := by decide +kernel
theorem dX11_deserts_12 : decode cX11_deserts 12 = .ok (.iaload, 1) := by decide +kernel
theorem dX11_deserts_13 : decode cX11_deserts 13 = .ok (.if_icmp .ge 7, 3) := by decide +kernel
theorem dX11_deserts_16 : decode cX11_deserts 16 = .ok (.iconst 3, 1) := by decide +kernel
theorem dX11_deserts_17 : decode cX11_deserts 17 = .ok (.goto 4, 3) := by decide +kernel
theorem dX11_deserts_20 : decode cX11_deserts 20 = .ok (.iconst 4, 1) := by decide +kernel
theorem dX11_deserts_21 : decode cX11_deserts 21 = .ok (.istore_n 1, 1) := by decide +kernel
theorem dX11_deserts_22 : decode cX11_deserts 22 = .ok (.aload_n 0, 1) := by decide +kernel
theorem dX11_deserts_23 : decode cX11_deserts 23 = .ok (.getfield 23, 3) := by decide +kernel
theorem dX11_deserts_26 : decode cX11_deserts 26 = .ok (.iconst 3, 1) := by decide +kernel
theorem dX11_deserts_27 : decode cX11_deserts 27 = .ok (.iaload, 1) := by decide +kernel
theorem dX11_deserts_28 : decode cX11_deserts 28 = .ok (.aload_n 0, 1) := by decide +kernel
theorem dX11_deserts_29 : decode cX11_deserts 29 = .ok (.getfield 23, 3) := by decide +kernel
theorem dX11_deserts_32 : decode cX11_deserts 32 = .ok (.bipush 6, 2) := by decide +kernel
theorem dX11_deserts_34 : decode cX11_deserts 34 = .ok (.iaload, 1) := by decide +kernel
theorem dX11_deserts_35 : decode cX11_deserts 35 = .ok (.if_icmp .ge 20, 3) := by decide +kernel
theorem dX11_deserts_38 : decode cX11_deserts 38 = .ok (.aload_n 0, 1) := by decide +kernel
theorem dX11_deserts_39 : decode cX11_deserts 39 = .ok (.getfield 23, 3) := by decide +kernel
theorem dX11_deserts_42 : decode cX11_deserts 42 = .ok (.bipush 6, 2) := by decide +kernel
theorem dX11_deserts_44 : decode cX11_deserts 44 = .ok (.iaload, 1) := by decide +kernel
theorem dX11_deserts_45 : decode cX11_deserts 45 = .ok (.aload_n 0, 1) := by decide +kernel
theorem dX11_deserts_46 : decode cX11_deserts 46 = .ok (.getfield 23, 3) := by decide +kernel
theorem dX11_deserts_49 : decode cX11_deserts 49 = .ok (.iconst 3, 1) := by decide +kernel
theorem dX11_deserts_50 : decode cX11_deserts 50 = .ok (.iaload, 1) := by decide +kernel
theorem dX11_deserts_51 : decode cX11_deserts 51 = .ok (.isub, 1) := by decide +kernel
theorem dX11_deserts_52 : decode cX11_deserts 52 = .ok (.goto 17, 3) := by decide +kernel
theorem dX11_deserts_55 : decode cX11_deserts 55 = .ok (.aload_n 0, 1) := by decide +kernel
theorem dX11_deserts_56 : decode cX11_deserts 56 = .ok (.getfield 23, 3) := by decide +kernel
theorem dX11_deserts_59 : decode cX11_deserts 59 = .ok (.iconst 3, 1) := by decide +kernel
theorem dX11_deserts_60 : decode cX11_deserts 60 = .ok (.iaload, 1) := by decide +kernel
theorem dX11_deserts_61 : decode cX11_deserts 61 = .ok (.aload_n 0, 1) := by decide +kernel
theorem dX11_deserts_62 : decode cX11_deserts 62 = .ok (.getfield 23, 3) := by decide +kernel
theorem dX11_deserts_65 : decode cX11_deserts 65 = .ok (.bipush 6, 2) := by decide +kernel
theorem dX11_deserts_67 : decode cX11_deserts 67 = .ok (.iaload, 1) := by decide +kernel
theorem dX11_deserts_68 : decode cX11_deserts 68 = .ok (.isub, 1) := by decide +kernel
theorem dX11_deserts_69 : decode cX11_deserts 69 = .ok (.istore_n 2, 1) := by decide +kernel
theorem dX11_deserts_70 : decode cX11_deserts 70 = .ok (.aload_n 0, 1) := by decide +kernel
theorem dX11_deserts_71 : decode cX11_deserts 71 = .ok (.getfield 46, 3) := by decide +kernel
theorem dX11_deserts_74 : decode cX11_deserts 74 = .ok (.iload_n 1, 1) := by decide +kernel
theorem dX11_deserts_75 : decode cX11_deserts 75 = .ok (.iaload, 1) := by decide +kernel
theorem dX11_deserts_76 : decode cX11_deserts 76 = .ok (.iload_n 2, 1) := by decide +kernel
theorem dX11_deserts_77 : decode cX11_deserts 77 = .ok (.imul, 1) := by decide +kernel
theorem dX11_deserts_78 : decode cX11_deserts 78 = .ok (.bipush 100, 2) := by decide +kernel
theorem dX11_deserts_80 : decode cX11_deserts 80 = .ok (.idiv, 1) := by decide +kernel
theorem dX11_deserts_81 : decode cX11_deserts 81 = .ok (.istore_n 3, 1) := by decide +kernel
theorem dX11_deserts_82 : decode cX11_deserts 82 = .ok (.aload_n 0, 1) := by decide +kernel
theorem dX11_deserts_83 : decode cX11_deserts 83 = .ok (.getfield 46, 3) := by decide +kernel
theorem dX11_deserts_86 : decode cX11_deserts 86 = .ok (.iload_n 1, 1) := by decide +kernel
theorem dX11_deserts_87 : decode cX11_deserts 87 = .ok (.dup2, 1) := by decide +kernel
theorem dX11_deserts_88 : decode cX11_deserts 88 = .ok (.iaload, 1) := by decide +kernel
theorem dX11_deserts_89 : decode cX11_deserts 89 = .ok (.iload_n 3, 1) := by decide +kernel
theorem dX11_deserts_90 : decode cX11_deserts 90 = .ok (.isub, 1) := by decide +kernel
theorem dX11_deserts_91 : decode cX11_deserts 91 = .ok (.iastore, 1) := by decide +kernel
theorem dX11_deserts_92 : decode cX11_deserts 92 = .ok (.aload_n 0, 1) := by decide +kernel
theorem dX11_deserts_93 : decode cX11_deserts 93 = .ok (.getfield 46, 3) := by decide +kernel
theorem dX11_deserts_96 : decode cX11_deserts 96 = .ok (.bipush 7, 2) := by decide +kernel
theorem dX11_deserts_98 : decode cX11_deserts 98 = .ok (.iload_n 1, 1) := by decide +kernel
theorem dX11_deserts_99 : decode cX11_deserts 99 = .ok (.isub, 1) := by decide +kernel
theorem dX11_deserts_100 : decode cX11_deserts 100 = .ok (.dup2, 1) := by decide +kernel
theorem dX11_deserts_101 : decode cX11_deserts 101 = .ok (.iaload, 1) := by decide +kernel
theorem dX11_deserts_102 : decode cX11_deserts 102 = .ok (.iload_n 3, 1) := by decide +kernel
theorem dX11_deserts_103 : decode cX11_deserts 103 = .ok (.iadd, 1) := by decide +kernel
theorem dX11_deserts_104 : decode cX11_deserts 104 = .ok (.iastore, 1) := by decide +kernel
theorem dX11_deserts_105 : decode cX11_deserts 105 = .ok (.return_, 1) := by decide +kernel
theorem dX11_puts_0 : decode cX11_puts 0 = .ok (.iconst 0, 1) := by decide +kernel
theorem dX11_puts_1 : decode cX11_puts 1 = .ok (.istore_n 1, 1) := by decide +kernel
theorem dX11_puts_2 : decode cX11_puts 2 = .ok (.iload_n 1, 1) := by decide +kernel
theorem dX11_puts_3 : decode cX11_puts 3 = .ok (.bipush 25, 2) := by decide +kernel
theorem dX11_puts_5 : decode cX11_puts 5 = .ok (.if_icmp .ge 21, 3) := by decide +kernel
theorem dX11_puts_8 : decode cX11_puts 8 = .ok (.aload_n 0, 1) := by decide +kernel
theorem dX11_puts_9 : decode cX11_puts 9 = .ok (.getfield 49, 3) := by decide +kernel
theorem dX11_puts_12 : decode cX11_puts 12 = .ok (.iload_n 1, 1) := by decide +kernel
theorem dX11_puts_13 : decode cX11_puts 13 = .ok (.aload_n 0, 1) := by decide +kernel
theorem dX11_puts_14 : decode cX11_puts 14 = .ok (.getfield 46, 3) := by decide +kernel
theorem dX11_puts_17 : decode cX11_puts 17 = .ok (.iload_n 1, 1) := by decide +kernel
theorem dX11_puts_18 : decode cX11_puts 18 = .ok (.iaload, 1) := by decide +kernel
theorem dX11_puts_19 : decode cX11_puts 19 = .ok (.iastore, 1) := by decide +kernel
theorem dX11_puts_20 : decode cX11_puts 20 = .ok (.iinc 1 1, 3) := by decide +kernel
theorem dX11_puts_23 : decode cX11_puts 23 = .ok (.goto (-21), 3) := by decide +kernel
theorem dX11_puts_26 : decode cX11_puts 26 = .ok (.return_, 1) := by decide +kernel
theorem dX11_takes_0 : decode cX11_takes 0 = .ok (.iconst 0, 1) := by decide +kernel
theorem dX11_takes_1 : decode cX11_takes 1 = .ok (.istore_n 1, 1) := by decide +kernel
theorem dX11_takes_2 : decode cX11_takes 2 = .ok (.iload_n 1, 1) := by decide +kernel
theorem dX11_takes_3 : decode cX11_takes 3 = .ok (.bipush 25, 2) := by decide +kernel
theorem dX11_takes_5 : decode cX11_takes 5 = .ok (.if_icmp .ge 21, 3) := by decide +kernel
theorem dX11_takes_8 : decode cX11_takes 8 = .ok (.aload_n 0, 1) := by decide +kernel
theorem dX11_takes_9 : decode cX11_takes 9 = .ok (.getfield 46, 3) := by decide +kernel
theorem dX11_takes_12 : decode cX11_takes 12 = .ok (.iload_n 1, 1) := by decide +kernel
theorem dX11_takes_13 : decode cX11_takes 13 = .ok (.aload_n 0, 1) := by decide +kernel
theorem dX11_takes_14 : decode cX11_takes 14 = .ok (.getfield 49, 3) := by decide +kernel
theorem dX11_takes_17 : decode cX11_takes 17 = .ok (.iload_n 1, 1) := by decide +kernel
theorem dX11_takes_18 : decode cX11_takes 18 = .ok (.iaload, 1) := by decide +kernel
theorem dX11_takes_19 : decode cX11_takes 19 = .ok (.iastore, 1) := by decide +kernel
theorem dX11_takes_20 : decode cX11_takes 20 = .ok (.iinc 1 1, 3) := by decide +kernel
theorem dX11_takes_23 : decode cX11_takes 23 = .ok (.goto (-21), 3) := by decide +kernel
theorem dX11_takes_26 : decode cX11_takes 26 = .ok (.return_, 1) := by decide +kernel
theorem ggX11_goesOn_X11_monthGoes : GoodIn wsX11_goesOn wsX11_monthGoes := gW_in gwX11_monthGoes (fun _ h => List.mem_cons_of_mem _ (List.mem_append_right _ (List.mem_append_right _ (h))))
set_option maxRecDepth 20000 in
theorem gX11_goesOn_X11_monthGoes : GoodIn wsX11_goesOn (wsV RX11 216 RX11 yX11_monthGoes wsX11_monthGoes) := goodIn_app (goodIn_of _ (by decide +kernel)) ggX11_goesOn_X11_monthGoes
theorem dX11_goesOn_0 : decode cX11_goesOn 0 = .ok (.iconst 0, 1) := by decide +kernel
theorem dX11_goesOn_1 : decode cX11_goesOn 1 = .ok (.istore_n 2, 1) := by decide +kernel
theorem dX11_goesOn_2 : decode cX11_goesOn 2 = .ok (.iload_n 2, 1) := by decide +kernel
theorem dX11_goesOn_3 : decode cX11_goesOn 3 = .ok (.iload_n 1, 1) := by decide +kernel
theorem dX11_goesOn_4 : decode cX11_goesOn 4 = .ok (.if_icmp .ge 13, 3) := by decide +kernel
theorem dX11_goesOn_7 : decode cX11_goesOn 7 = .ok (.aload_n 0, 1) := by decide +kernel
theorem dX11_goesOn_8 : decode cX11_goesOn 8 = .ok (.invokevirtual 216, 3) := by decide +kernel
theorem dX11_goesOn_11 : decode cX11_goesOn 11 = .ok (.iinc 2 1, 3) := by decide +kernel
theorem dX11_goesOn_14 : decode cX11_goesOn 14 = .ok (.goto (-12), 3) := by decide +kernel
theorem dX11_goesOn_17 : decode cX11_goesOn 17 = .ok (.return_, 1) := by decide +kernel
theorem ggX11_months_X11_in : GoodIn wsX11_months wsX11_in := gW_in gwX11_in (fun _ h => List.mem_cons_of_mem _ (List.mem_append_right _ (List.mem_append_right _ (List.mem_append_left _ h))))
set_option maxRecDepth 20000 in
theorem gX11_months_X11_in : GoodIn wsX11_months (va_wsS RX11 119 yX11_in wsX11_in) := goodIn_app (goodIn_of _ (by decide +kernel)) ggX11_months_X11_in
theorem ggX11_months_X11_bad : GoodIn wsX11_months wsX11_bad := gW_in gwX11_bad (fun _ h => List.mem_cons_of_mem _ (List.mem_append_right _ (List.mem_append_right _ (List.mem_append_right _ (List.mem_append_left _ h)))))
set_option maxRecDepth 20000 in
theorem gX11_months_X11_bad : GoodIn wsX11_months (wsV RX11 151 RX11 yX11_bad wsX11_bad) := goodIn_app (goodIn_of _ (by decide +kernel)) ggX11_months_X11_bad
theorem ggX11_months_X11_monthGoes : GoodIn wsX11_months wsX11_monthGoes := gW_in gwX11_monthGoes (fun _ h => List.mem_cons_of_mem _ (List.mem_append_right _ (List.mem_append_right _ (List.mem_append_right _ (List.mem_append_right _ (h))))))
set_option maxRecDepth 20000 in
theorem gX11_months_X11_monthGoes : GoodIn wsX11_months (wsV RX11 216 RX11 yX11_monthGoes wsX11_monthGoes) := goodIn_app (goodIn_of _ (by decide +kernel)) ggX11_months_X11_monthGoes
theorem dX11_months_0 : decode cX11_months 0 = .ok (.aload_n 0, 1) := by decide +kernel
theorem dX11_months_1 : decode cX11_months 1 = .ok (.iconst 0, 1) := by decide +kernel
theorem dX11_months_2 : decode cX11_months 2 = .ok (.putfield 85, 3) := by decide +kernel
theorem dX11_months_5 : decode cX11_months 5 = .ok (.aload_n 0, 1) := by decide +kernel
theorem dX11_months_6 : decode cX11_months 6 = .ok (.iload_n 1, 1) := by decide +kernel
theorem dX11_months_7 : decode cX11_months 7 = .ok (.iconst 1, 1) := by decide +kernel
theorem dX11_months_8 : decode cX11_months 8 = .ok (.bipush 120, 2) := by decide +kernel
theorem dX11_months_10 : decode cX11_months 10 = .ok (.invokestatic 119, 3) := by decide +kernel
theorem dX11_months_13 : decode cX11_months 13 = .ok (.ifCond .ne 7, 3) := by decide +kernel
theorem dX11_months_16 : decode cX11_months 16 = .ok (.iconst 1, 1) := by decide +kernel
theorem dX11_months_17 : decode cX11_months 17 = .ok (.goto 4, 3) := by decide +kernel
theorem dX11_months_20 : decode cX11_months 20 = .ok (.iconst 0, 1) := by decide +kernel
theorem dX11_months_21 : decode cX11_months 21 = .ok (.iconst 1, 1) := by decide +kernel
theorem dX11_months_22 : decode cX11_months 22 = .ok (.iconst 2, 1) := by decide +kernel
theorem dX11_months_23 : decode cX11_months 23 = .ok (.invokevirtual 151, 3) := by decide +kernel
theorem dX11_months_26 : decode cX11_months 26 = .ok (.ifCond .eq 5, 3) := by decide +kernel
theorem dX11_months_29 : decode cX11_months 29 = .ok (.iconst 0, 1) := by decide +kernel
theorem dX11_months_30 : decode cX11_months 30 = .ok (.ireturn, 1) := by decide +kernel
theorem dX11_months_31 : decode cX11_months 31 = .ok (.iconst 0, 1) := by decide +kernel
theorem dX11_months_32 : decode cX11_months 32 = .ok (.istore_n 2, 1) := by decide +kernel
theorem dX11_months_33 : decode cX11_months 33 = .ok (.aload_n 0, 1) := by decide +kernel
theorem dX11_months_34 : decode cX11_months 34 = .ok (.iconst 1, 1) := by decide +kernel
theorem dX11_months_35 : decode cX11_months 35 = .ok (.putfield 192, 3) := by decide +kernel
theorem dX11_months_38 : decode cX11_months 38 = .ok (.iload_n 2, 1) := by decide +kernel
theorem dX11_months_39 : decode cX11_months 39 = .ok (.iload_n 1, 1) := by decide +kernel
theorem dX11_months_40 : decode cX11_months 40 = .ok (.if_icmp .ge 91, 3) := by decide +kernel
theorem dX11_months_43 : decode cX11_months 43 = .ok (.aload_n 0, 1) := by decide +kernel
theorem dX11_months_44 : decode cX11_months 44 = .ok (.getfield 46, 3) := by decide +kernel
theorem dX11_months_47 : decode cX11_months 47 = .ok (.bipush 24, 2) := by decide +kernel
theorem dX11_months_49 : decode cX11_months 49 = .ok (.iaload, 1) := by decide +kernel
theorem dX11_months_50 : decode cX11_months 50 = .ok (.bipush 120, 2) := by decide +kernel
theorem dX11_months_52 : decode cX11_months 52 = .ok (.if_icmp .ge 79, 3) := by decide +kernel
theorem dX11_months_55 : decode cX11_months 55 = .ok (.aload_n 0, 1) := by decide +kernel
theorem dX11_months_56 : decode cX11_months 56 = .ok (.getfield 46, 3) := by decide +kernel
theorem dX11_months_59 : decode cX11_months 59 = .ok (.bipush 24, 2) := by decide +kernel
theorem dX11_months_61 : decode cX11_months 61 = .ok (.iaload, 1) := by decide +kernel
theorem dX11_months_62 : decode cX11_months 62 = .ok (.istore_n 3, 1) := by decide +kernel
theorem dX11_months_63 : decode cX11_months 63 = .ok (.iconst 0, 1) := by decide +kernel
theorem dX11_months_64 : decode cX11_months 64 = .ok (.istore 4, 2) := by decide +kernel
theorem dX11_months_66 : decode cX11_months 66 = .ok (.iload 4, 2) := by decide +kernel
theorem dX11_months_68 : decode cX11_months 68 = .ok (.bipush 25, 2) := by decide +kernel
theorem dX11_months_70 : decode cX11_months 70 = .ok (.if_icmp .ge 25, 3) := by decide +kernel
theorem dX11_months_73 : decode cX11_months 73 = .ok (.aload_n 0, 1) := by decide +kernel
theorem dX11_months_74 : decode cX11_months 74 = .ok (.getfield 52, 3) := by decide +kernel
theorem dX11_months_77 : decode cX11_months 77 = .ok (.iload_n 3, 1) := by decide +kernel
theorem dX11_months_78 : decode cX11_months 78 = .ok (.aaload, 1) := by decide +kernel
theorem dX11_months_79 : decode cX11_months 79 = .ok (.iload 4, 2) := by decide +kernel
theorem dX11_months_81 : decode cX11_months 81 = .ok (.aload_n 0, 1) := by decide +kernel
theorem dX11_months_82 : decode cX11_months 82 = .ok (.getfield 46, 3) := by decide +kernel
theorem dX11_months_85 : decode cX11_months 85 = .ok (.iload 4, 2) := by decide +kernel
theorem dX11_months_87 : decode cX11_months 87 = .ok (.iaload, 1) := by decide +kernel
theorem dX11_months_88 : decode cX11_months 88 = .ok (.iastore, 1) := by decide +kernel
theorem dX11_months_89 : decode cX11_months 89 = .ok (.iinc 4 1, 3) := by decide +kernel
theorem dX11_months_92 : decode cX11_months 92 = .ok (.goto (-26), 3) := by decide +kernel
theorem dX11_months_95 : decode cX11_months 95 = .ok (.iconst 0, 1) := by decide +kernel
theorem dX11_months_96 : decode cX11_months 96 = .ok (.istore 4, 2) := by decide +kernel
theorem dX11_months_98 : decode cX11_months 98 = .ok (.iload 4, 2) := by decide +kernel
theorem dX11_months_100 : decode cX11_months 100 = .ok (.bipush 6, 2) := by decide +kernel
theorem dX11_months_102 : decode cX11_months 102 = .ok (.if_icmp .ge 19, 3) := by decide +kernel
theorem dX11_months_105 : decode cX11_months 105 = .ok (.aload_n 0, 1) := by decide +kernel
theorem dX11_months_106 : decode cX11_months 106 = .ok (.getfield 55, 3) := by decide +kernel
theorem dX11_months_109 : decode cX11_months 109 = .ok (.iload_n 3, 1) := by decide +kernel
theorem dX11_months_110 : decode cX11_months 110 = .ok (.aaload, 1) := by decide +kernel
theorem dX11_months_111 : decode cX11_months 111 = .ok (.iload 4, 2) := by decide +kernel
theorem dX11_months_113 : decode cX11_months 113 = .ok (.iconst 0, 1) := by decide +kernel
theorem dX11_months_114 : decode cX11_months 114 = .ok (.iastore, 1) := by decide +kernel
theorem dX11_months_115 : decode cX11_months 115 = .ok (.iinc 4 1, 3) := by decide +kernel
theorem dX11_months_118 : decode cX11_months 118 = .ok (.goto (-20), 3) := by decide +kernel
theorem dX11_months_121 : decode cX11_months 121 = .ok (.aload_n 0, 1) := by decide +kernel
theorem dX11_months_122 : decode cX11_months 122 = .ok (.invokevirtual 216, 3) := by decide +kernel
theorem dX11_months_125 : decode cX11_months 125 = .ok (.iinc 2 1, 3) := by decide +kernel
theorem dX11_months_128 : decode cX11_months 128 = .ok (.goto (-90), 3) := by decide +kernel
theorem dX11_months_131 : decode cX11_months 131 = .ok (.aload_n 0, 1) := by decide +kernel
theorem dX11_months_132 : decode cX11_months 132 = .ok (.iconst 0, 1) := by decide +kernel
theorem dX11_months_133 : decode cX11_months 133 = .ok (.putfield 192, 3) := by decide +kernel
theorem dX11_months_136 : decode cX11_months 136 = .ok (.iload_n 2, 1) := by decide +kernel
theorem dX11_months_137 : decode cX11_months 137 = .ok (.ireturn, 1) := by decide +kernel
theorem ggX11_undo_X11_in : GoodIn wsX11_undo wsX11_in := gW_in gwX11_in (fun _ h => List.mem_cons_of_mem _ (List.mem_append_right _ (List.mem_append_right _ (List.mem_append_left _ h))))
set_option maxRecDepth 20000 in
theorem gX11_undo_X11_in : GoodIn wsX11_undo (va_wsS RX11 119 yX11_in wsX11_in) := goodIn_app (goodIn_of _ (by decide +kernel)) ggX11_undo_X11_in
theorem ggX11_undo_X11_bad : GoodIn wsX11_undo wsX11_bad := gW_in gwX11_bad (fun _ h => List.mem_cons_of_mem _ (List.mem_append_right _ (List.mem_append_right _ (List.mem_append_right _ (List.mem_append_left _ h)))))
set_option maxRecDepth 20000 in
theorem gX11_undo_X11_bad : GoodIn wsX11_undo (wsV RX11 151 RX11 yX11_bad wsX11_bad) := goodIn_app (goodIn_of _ (by decide +kernel)) ggX11_undo_X11_bad
theorem ggX11_undo_X11_less : GoodIn wsX11_undo wsX11_less := gW_in gwX11_less (fun _ h => List.mem_cons_of_mem _ (List.mem_append_right _ (List.mem_append_right _ (List.mem_append_right _ (List.mem_append_right _ (h))))))
set_option maxRecDepth 20000 in
theorem gX11_undo_X11_less : GoodIn wsX11_undo (va_wsS RX11 186 yX11_less wsX11_less) := goodIn_app (goodIn_of _ (by decide +kernel)) ggX11_undo_X11_less
theorem dX11_undo_0 : decode cX11_undo 0 = .ok (.aload_n 0, 1) := by decide +kernel
theorem dX11_undo_1 : decode cX11_undo 1 = .ok (.iconst 0, 1) := by decide +kernel
theorem dX11_undo_2 : decode cX11_undo 2 = .ok (.putfield 85, 3) := by decide +kernel
theorem dX11_undo_5 : decode cX11_undo 5 = .ok (.aload_n 0, 1) := by decide +kernel
theorem dX11_undo_6 : decode cX11_undo 6 = .ok (.iload_n 1, 1) := by decide +kernel
theorem dX11_undo_7 : decode cX11_undo 7 = .ok (.iconst 1, 1) := by decide +kernel
theorem dX11_undo_8 : decode cX11_undo 8 = .ok (.bipush 120, 2) := by decide +kernel
theorem dX11_undo_10 : decode cX11_undo 10 = .ok (.invokestatic 119, 3) := by decide +kernel
theorem dX11_undo_13 : decode cX11_undo 13 = .ok (.ifCond .ne 7, 3) := by decide +kernel
theorem dX11_undo_16 : decode cX11_undo 16 = .ok (.iconst 1, 1) := by decide +kernel
theorem dX11_undo_17 : decode cX11_undo 17 = .ok (.goto 4, 3) := by decide +kernel
theorem dX11_undo_20 : decode cX11_undo 20 = .ok (.iconst 0, 1) := by decide +kernel
theorem dX11_undo_21 : decode cX11_undo 21 = .ok (.iconst 1, 1) := by decide +kernel
theorem dX11_undo_22 : decode cX11_undo 22 = .ok (.iconst 2, 1) := by decide +kernel
theorem dX11_undo_23 : decode cX11_undo 23 = .ok (.invokevirtual 151, 3) := by decide +kernel
theorem dX11_undo_26 : decode cX11_undo 26 = .ok (.ifCond .eq 5, 3) := by decide +kernel
theorem dX11_undo_29 : decode cX11_undo 29 = .ok (.iconst 0, 1) := by decide +kernel
theorem dX11_undo_30 : decode cX11_undo 30 = .ok (.ireturn, 1) := by decide +kernel
theorem dX11_undo_31 : decode cX11_undo 31 = .ok (.iload_n 1, 1) := by decide +kernel
theorem dX11_undo_32 : decode cX11_undo 32 = .ok (.aload_n 0, 1) := by decide +kernel
theorem dX11_undo_33 : decode cX11_undo 33 = .ok (.getfield 46, 3) := by decide +kernel
theorem dX11_undo_36 : decode cX11_undo 36 = .ok (.bipush 24, 2) := by decide +kernel
theorem dX11_undo_38 : decode cX11_undo 38 = .ok (.iaload, 1) := by decide +kernel
theorem dX11_undo_39 : decode cX11_undo 39 = .ok (.invokestatic 186, 3) := by decide +kernel
theorem dX11_undo_42 : decode cX11_undo 42 = .ok (.istore_n 2, 1) := by decide +kernel
theorem dX11_undo_43 : decode cX11_undo 43 = .ok (.aload_n 0, 1) := by decide +kernel
theorem dX11_undo_44 : decode cX11_undo 44 = .ok (.getfield 46, 3) := by decide +kernel
theorem dX11_undo_47 : decode cX11_undo 47 = .ok (.bipush 24, 2) := by decide +kernel
theorem dX11_undo_49 : decode cX11_undo 49 = .ok (.iaload, 1) := by decide +kernel
theorem dX11_undo_50 : decode cX11_undo 50 = .ok (.iload_n 2, 1) := by decide +kernel
theorem dX11_undo_51 : decode cX11_undo 51 = .ok (.isub, 1) := by decide +kernel
theorem dX11_undo_52 : decode cX11_undo 52 = .ok (.istore_n 3, 1) := by decide +kernel
theorem dX11_undo_53 : decode cX11_undo 53 = .ok (.iload_n 2, 1) := by decide +kernel
theorem dX11_undo_54 : decode cX11_undo 54 = .ok (.ifCond .ne 5, 3) := by decide +kernel
theorem dX11_undo_57 : decode cX11_undo 57 = .ok (.iconst 0, 1) := by decide +kernel
theorem dX11_undo_58 : decode cX11_undo 58 = .ok (.ireturn, 1) := by decide +kernel
theorem dX11_undo_59 : decode cX11_undo 59 = .ok (.iconst 0, 1) := by decide +kernel
theorem dX11_undo_60 : decode cX11_undo 60 = .ok (.istore 4, 2) := by decide +kernel
theorem dX11_undo_62 : decode cX11_undo 62 = .ok (.iload 4, 2) := by decide +kernel
theorem dX11_undo_64 : decode cX11_undo 64 = .ok (.bipush 25, 2) := by decide +kernel
theorem dX11_undo_66 : decode cX11_undo 66 = .ok (.if_icmp .ge 25, 3) := by decide +kernel
theorem dX11_undo_69 : decode cX11_undo 69 = .ok (.aload_n 0, 1) := by decide +kernel
theorem dX11_undo_70 : decode cX11_undo 70 = .ok (.getfield 46, 3) := by decide +kernel
theorem dX11_undo_73 : decode cX11_undo 73 = .ok (.iload 4, 2) := by decide +kernel
theorem dX11_undo_75 : decode cX11_undo 75 = .ok (.aload_n 0, 1) := by decide +kernel
theorem dX11_undo_76 : decode cX11_undo 76 = .ok (.getfield 52, 3) := by decide +kernel
theorem dX11_undo_79 : decode cX11_undo 79 = .ok (.iload_n 3, 1) := by decide +kernel
theorem dX11_undo_80 : decode cX11_undo 80 = .ok (.aaload, 1) := by decide +kernel
theorem dX11_undo_81 : decode cX11_undo 81 = .ok (.iload 4, 2) := by decide +kernel
theorem dX11_undo_83 : decode cX11_undo 83 = .ok (.iaload, 1) := by decide +kernel
theorem dX11_undo_84 : decode cX11_undo 84 = .ok (.iastore, 1) := by decide +kernel
theorem dX11_undo_85 : decode cX11_undo 85 = .ok (.iinc 4 1, 3) := by decide +kernel
theorem dX11_undo_88 : decode cX11_undo 88 = .ok (.goto (-26), 3) := by decide +kernel
theorem dX11_undo_91 : decode cX11_undo 91 = .ok (.iload_n 2, 1) := by decide +kernel
theorem dX11_undo_92 : decode cX11_undo 92 = .ok (.ireturn, 1) := by decide +kernel
theorem ggX11_sums_X11_in : GoodIn wsX11_sums wsX11_in := gW_in gwX11_in (fun _ h => List.mem_cons_of_mem _ (List.mem_append_right _ (List.mem_append_right _ (List.mem_append_left _ h))))
set_option maxRecDepth 20000 in
theorem gX11_sums_X11_in : GoodIn wsX11_sums (va_wsS RX11 119 yX11_in wsX11_in) := goodIn_app (goodIn_of _ (by decide +kernel)) ggX11_sums_X11_in
theorem ggX11_sums_X11_bad : GoodIn wsX11_sums wsX11_bad := gW_in gwX11_bad (fun _ h => List.mem_cons_of_mem _ (List.mem_append_right _ (List.mem_append_right _ (List.mem_append_right _ (h)))))
set_option maxRecDepth 20000 in
theorem gX11_sums_X11_bad : GoodIn wsX11_sums (wsV RX11 151 RX11 yX11_bad wsX11_bad) := goodIn_app (goodIn_of _ (by decide +kernel)) ggX11_sums_X11_bad
theorem dX11_sums_0 : decode cX11_sums 0 = .ok (.aload_n 0, 1) := by decide +kernel
theorem dX11_sums_1 : decode cX11_sums 1 = .ok (.iconst 0, 1) := by decide +kernel
theorem dX11_sums_2 : decode cX11_sums 2 = .ok (.putfield 85, 3) := by decide +kernel
theorem dX11_sums_5 : decode cX11_sums 5 = .ok (.aload_n 0, 1) := by decide +kernel
theorem dX11_sums_6 : decode cX11_sums 6 = .ok (.iload_n 1, 1) := by decide +kernel
theorem dX11_sums_7 : decode cX11_sums 7 = .ok (.iconst 0, 1) := by decide +kernel
theorem dX11_sums_8 : decode cX11_sums 8 = .ok (.bipush 9, 2) := by decide +kernel
theorem dX11_sums_10 : decode cX11_sums 10 = .ok (.invokestatic 119, 3) := by decide +kernel
theorem dX11_sums_13 : decode cX11_sums 13 = .ok (.ifCond .ne 7, 3) := by decide +kernel
theorem dX11_sums_16 : decode cX11_sums 16 = .ok (.iconst 1, 1) := by decide +kernel
theorem dX11_sums_17 : decode cX11_sums 17 = .ok (.goto 4, 3) := by decide +kernel
theorem dX11_sums_20 : decode cX11_sums 20 = .ok (.iconst 0, 1) := by decide +kernel
theorem dX11_sums_21 : decode cX11_sums 21 = .ok (.iconst 1, 1) := by decide +kernel
theorem dX11_sums_22 : decode cX11_sums 22 = .ok (.iconst 2, 1) := by decide +kernel
theorem dX11_sums_23 : decode cX11_sums 23 = .ok (.invokevirtual 151, 3) := by decide +kernel
theorem dX11_sums_26 : decode cX11_sums 26 = .ok (.ifCond .eq 5, 3) := by decide +kernel
theorem dX11_sums_29 : decode cX11_sums 29 = .ok (.iconst 0, 1) := by decide +kernel
theorem dX11_sums_30 : decode cX11_sums 30 = .ok (.ireturn, 1) := by decide +kernel
theorem dX11_sums_31 : decode cX11_sums 31 = .ok (.aload_n 0, 1) := by decide +kernel
theorem dX11_sums_32 : decode cX11_sums 32 = .ok (.getfield 46, 3) := by decide +kernel
theorem dX11_sums_35 : decode cX11_sums 35 = .ok (.iload_n 1, 1) := by decide +kernel
theorem dX11_sums_36 : decode cX11_sums 36 = .ok (.iaload, 1) := by decide +kernel
theorem dX11_sums_37 : decode cX11_sums 37 = .ok (.ireturn, 1) := by decide +kernel
theorem ggX11_corks_X11_isWall : GoodIn wsX11_corks wsX11_isWall := gW_in gwX11_isWall (fun _ h => List.mem_cons_of_mem _ (List.mem_append_right _ (List.mem_append_right _ (List.mem_append_left _ h))))
set_option maxRecDepth 20000 in
theorem gX11_corks_X11_isWall : GoodIn wsX11_corks (wsV RX11 174 RX11 yX11_isWall wsX11_isWall) := goodIn_app (goodIn_of _ (by decide +kernel)) ggX11_corks_X11_isWall
theorem ggX11_corks_X11_bad : GoodIn wsX11_corks wsX11_bad := gW_in gwX11_bad (fun _ h => List.mem_cons_of_mem _ (List.mem_append_right _ (List.mem_append_right _ (List.mem_append_right _ (List.mem_append_left _ h)))))
set_option maxRecDepth 20000 in
theorem gX11_corks_X11_bad : GoodIn wsX11_corks (wsV RX11 151 RX11 yX11_bad wsX11_bad) := goodIn_app (goodIn_of _ (by decide +kernel)) ggX11_corks_X11_bad
theorem ggX11_corks_X11_in : GoodIn wsX11_corks wsX11_in := gW_in gwX11_in (fun _ h => List.mem_cons_of_mem _ (List.mem_append_right _ (List.mem_append_right _ (List.mem_append_right _ (List.mem_append_right _ (h))))))
set_option maxRecDepth 20000 in
theorem gX11_corks_X11_in : GoodIn wsX11_corks (va_wsS RX11 119 yX11_in wsX11_in) := goodIn_app (goodIn_of _ (by decide +kernel)) ggX11_corks_X11_in
theorem dX11_corks_0 : decode cX11_corks 0 = .ok (.aload_n 0, 1) := by decide +kernel
theorem dX11_corks_1 : decode cX11_corks 1 = .ok (.iconst 0, 1) := by decide +kernel
theorem dX11_corks_2 : decode cX11_corks 2 = .ok (.putfield 85, 3) := by decide +kernel
theorem dX11_corks_5 : decode cX11_corks 5 = .ok (.aload_n 0, 1) := by decide +kernel
theorem dX11_corks_6 : decode cX11_corks 6 = .ok (.aload_n 0, 1) := by decide +kernel
theorem dX11_corks_7 : decode cX11_corks 7 = .ok (.iload_n 2, 1) := by decide +kernel
theorem dX11_corks_8 : decode cX11_corks 8 = .ok (.invokevirtual 174, 3) := by decide +kernel
theorem dX11_corks_11 : decode cX11_corks 11 = .ok (.ifCond .ne 7, 3) := by decide +kernel
theorem dX11_corks_14 : decode cX11_corks 14 = .ok (.iconst 1, 1) := by decide +kernel
theorem dX11_corks_15 : decode cX11_corks 15 = .ok (.goto 4, 3) := by decide +kernel
theorem dX11_corks_18 : decode cX11_corks 18 = .ok (.iconst 0, 1) := by decide +kernel
theorem dX11_corks_19 : decode cX11_corks 19 = .ok (.iconst 1, 1) := by decide +kernel
theorem dX11_corks_20 : decode cX11_corks 20 = .ok (.iconst 1, 1) := by decide +kernel
theorem dX11_corks_21 : decode cX11_corks 21 = .ok (.invokevirtual 151, 3) := by decide +kernel
theorem dX11_corks_24 : decode cX11_corks 24 = .ok (.ifCond .ne 27, 3) := by decide +kernel
theorem dX11_corks_27 : decode cX11_corks 27 = .ok (.aload_n 0, 1) := by decide +kernel
theorem dX11_corks_28 : decode cX11_corks 28 = .ok (.iload_n 1, 1) := by decide +kernel
theorem dX11_corks_29 : decode cX11_corks 29 = .ok (.iconst 0, 1) := by decide +kernel
theorem dX11_corks_30 : decode cX11_corks 30 = .ok (.bipush 119, 2) := by decide +kernel
theorem dX11_corks_32 : decode cX11_corks 32 = .ok (.invokestatic 119, 3) := by decide +kernel
theorem dX11_corks_35 : decode cX11_corks 35 = .ok (.ifCond .ne 7, 3) := by decide +kernel
theorem dX11_corks_38 : decode cX11_corks 38 = .ok (.iconst 1, 1) := by decide +kernel
theorem dX11_corks_39 : decode cX11_corks 39 = .ok (.goto 4, 3) := by decide +kernel
theorem dX11_corks_42 : decode cX11_corks 42 = .ok (.iconst 0, 1) := by decide +kernel
theorem dX11_corks_43 : decode cX11_corks 43 = .ok (.iconst 2, 1) := by decide +kernel
theorem dX11_corks_44 : decode cX11_corks 44 = .ok (.iconst 2, 1) := by decide +kernel
theorem dX11_corks_45 : decode cX11_corks 45 = .ok (.invokevirtual 151, 3) := by decide +kernel
theorem dX11_corks_48 : decode cX11_corks 48 = .ok (.ifCond .eq 5, 3) := by decide +kernel
theorem dX11_corks_51 : decode cX11_corks 51 = .ok (.iconst 0, 1) := by decide +kernel
theorem dX11_corks_52 : decode cX11_corks 52 = .ok (.ireturn, 1) := by decide +kernel
theorem dX11_corks_53 : decode cX11_corks 53 = .ok (.iload_n 1, 1) := by decide +kernel
theorem dX11_corks_54 : decode cX11_corks 54 = .ok (.aload_n 0, 1) := by decide +kernel
theorem dX11_corks_55 : decode cX11_corks 55 = .ok (.getfield 46, 3) := by decide +kernel
theorem dX11_corks_58 : decode cX11_corks 58 = .ok (.bipush 24, 2) := by decide +kernel
theorem dX11_corks_60 : decode cX11_corks 60 = .ok (.iaload, 1) := by decide +kernel
theorem dX11_corks_61 : decode cX11_corks 61 = .ok (.if_icmp .ge 14, 3) := by decide +kernel
theorem dX11_corks_64 : decode cX11_corks 64 = .ok (.aload_n 0, 1) := by decide +kernel
theorem dX11_corks_65 : decode cX11_corks 65 = .ok (.getfield 55, 3) := by decide +kernel
theorem dX11_corks_68 : decode cX11_corks 68 = .ok (.iload_n 1, 1) := by decide +kernel
theorem dX11_corks_69 : decode cX11_corks 69 = .ok (.aaload, 1) := by decide +kernel
theorem dX11_corks_70 : decode cX11_corks 70 = .ok (.iload_n 2, 1) := by decide +kernel
theorem dX11_corks_71 : decode cX11_corks 71 = .ok (.iaload, 1) := by decide +kernel
theorem dX11_corks_72 : decode cX11_corks 72 = .ok (.goto 4, 3) := by decide +kernel
theorem dX11_corks_75 : decode cX11_corks 75 = .ok (.iconst 0, 1) := by decide +kernel
theorem dX11_corks_76 : decode cX11_corks 76 = .ok (.ireturn, 1) := by decide +kernel
theorem ggX11_areMonths_X11_in : GoodIn wsX11_areMonths wsX11_in := gW_in gwX11_in (fun _ h => List.mem_cons_of_mem _ (List.mem_append_right _ (h)))
set_option maxRecDepth 20000 in
theorem gX11_areMonths_X11_in : GoodIn wsX11_areMonths (va_wsS RX11 119 yX11_in wsX11_in) := goodIn_app (goodIn_of _ (by decide +kernel)) ggX11_areMonths_X11_in
theorem dX11_areMonths_0 : decode cX11_areMonths 0 = .ok (.iload_n 0, 1) := by decide +kernel
theorem dX11_areMonths_1 : decode cX11_areMonths 1 = .ok (.iconst 1, 1) := by decide +kernel
theorem dX11_areMonths_2 : decode cX11_areMonths 2 = .ok (.bipush 60, 2) := by decide +kernel
theorem dX11_areMonths_4 : decode cX11_areMonths 4 = .ok (.invokestatic 119, 3) := by decide +kernel
theorem dX11_areMonths_7 : decode cX11_areMonths 7 = .ok (.ireturn, 1) := by decide +kernel
theorem ggX11_by_X11_puts : GoodIn wsX11_by wsX11_puts := gW_in gwX11_puts (fun _ h => List.mem_cons_of_mem _ (List.mem_append_right _ (List.mem_append_right _ (List.mem_append_left _ h))))
set_option maxRecDepth 20000 in
theorem gX11_by_X11_puts : GoodIn wsX11_by (wsV RX11 219 RX11 yX11_puts wsX11_puts) := goodIn_app (goodIn_of _ (by decide +kernel)) ggX11_by_X11_puts
theorem ggX11_by_X11_signs : GoodIn wsX11_by wsX11_signs := gW_in gwX11_signs (fun _ h => List.mem_cons_of_mem _ (List.mem_append_right _ (List.mem_append_right _ (List.mem_append_right _ (List.mem_append_left _ h)))))
set_option maxRecDepth 20000 in
theorem gX11_by_X11_signs : GoodIn wsX11_by (wsV RX11 183 RX11 yX11_signs wsX11_signs) := goodIn_app (goodIn_of _ (by decide +kernel)) ggX11_by_X11_signs
theorem ggX11_by_X11_goesOn : GoodIn wsX11_by wsX11_goesOn := gW_in gwX11_goesOn (fun _ h => List.mem_cons_of_mem _ (List.mem_append_right _ (List.mem_append_right _ (List.mem_append_right _ (List.mem_append_right _ (List.mem_append_left _ h))))))
set_option maxRecDepth 20000 in
theorem gX11_by_X11_goesOn : GoodIn wsX11_by (wsV RX11 222 RX11 yX11_goesOn wsX11_goesOn) := goodIn_app (goodIn_of _ (by decide +kernel)) ggX11_by_X11_goesOn
theorem ggX11_by_X11_takes : GoodIn wsX11_by wsX11_takes := gW_in gwX11_takes (fun _ h => List.mem_cons_of_mem _ (List.mem_append_right _ (List.mem_append_right _ (List.mem_append_right _ (List.mem_append_right _ (List.mem_append_right _ (h)))))))
set_option maxRecDepth 20000 in
theorem gX11_by_X11_takes : GoodIn wsX11_by (wsV RX11 225 RX11 yX11_takes wsX11_takes) := goodIn_app (goodIn_of _ (by decide +kernel)) ggX11_by_X11_takes
theorem dX11_by_0 : decode cX11_by 0 = .ok (.aload_n 0, 1) := by decide +kernel
theorem dX11_by_1 : decode cX11_by 1 = .ok (.invokevirtual 219, 3) := by decide +kernel
theorem dX11_by_4 : decode cX11_by 4 = .ok (.aload_n 0, 1) := by decide +kernel
theorem dX11_by_5 : decode cX11_by 5 = .ok (.iload_n 1, 1) := by decide +kernel
theorem dX11_by_6 : decode cX11_by 6 = .ok (.invokevirtual 183, 3) := by decide +kernel
theorem dX11_by_9 : decode cX11_by 9 = .ok (.aload_n 0, 1) := by decide +kernel
theorem dX11_by_10 : decode cX11_by 10 = .ok (.iload_n 2, 1) := by decide +kernel
theorem dX11_by_11 : decode cX11_by 11 = .ok (.invokevirtual 222, 3) := by decide +kernel
theorem dX11_by_14 : decode cX11_by 14 = .ok (.aload_n 0, 1) := by decide +kernel
theorem dX11_by_15 : decode cX11_by 15 = .ok (.getfield 46, 3) := by decide +kernel
theorem dX11_by_18 : decode cX11_by 18 = .ok (.iload_n 3, 1) := by decide +kernel
theorem dX11_by_19 : decode cX11_by 19 = .ok (.iaload, 1) := by decide +kernel
theorem dX11_by_20 : decode cX11_by 20 = .ok (.istore 4, 2) := by decide +kernel
theorem dX11_by_22 : decode cX11_by 22 = .ok (.aload_n 0, 1) := by decide +kernel
theorem dX11_by_23 : decode cX11_by 23 = .ok (.invokevirtual 225, 3) := by decide +kernel
theorem dX11_by_26 : decode cX11_by 26 = .ok (.iload 4, 2) := by decide +kernel
theorem dX11_by_28 : decode cX11_by 28 = .ok (.ireturn, 1) := by decide +kernel
theorem ggX11_would_X11_isContract : GoodIn wsX11_would wsX11_isContract := gW_in gwX11_isContract (fun _ h => List.mem_cons_of_mem _ (List.mem_append_right _ (List.mem_append_right _ (List.mem_append_left _ h))))
set_option maxRecDepth 20000 in
theorem gX11_would_X11_isContract : GoodIn wsX11_would (wsV RX11 177 RX11 yX11_isContract wsX11_isContract) := goodIn_app (goodIn_of _ (by decide +kernel)) ggX11_would_X11_isContract
theorem ggX11_would_X11_bad : GoodIn wsX11_would wsX11_bad := gW_in gwX11_bad (fun _ h => List.mem_cons_of_mem _ (List.mem_append_right _ (List.mem_append_right _ (List.mem_append_right _ (List.mem_append_left _ h)))))
set_option maxRecDepth 20000 in
theorem gX11_would_X11_bad : GoodIn wsX11_would (wsV RX11 151 RX11 yX11_bad wsX11_bad) := goodIn_app (goodIn_of _ (by decide +kernel)) ggX11_would_X11_bad
theorem ggX11_would_X11_areMonths : GoodIn wsX11_would wsX11_areMonths := gW_in gwX11_areMonths (fun _ h => List.mem_cons_of_mem _ (List.mem_append_right _ (List.mem_append_right _ (List.mem_append_right _ (List.mem_append_right _ (List.mem_append_left _ h))))))
set_option maxRecDepth 20000 in
theorem gX11_would_X11_areMonths : GoodIn wsX11_would (va_wsS RX11 228 yX11_areMonths wsX11_areMonths) := goodIn_app (goodIn_of _ (by decide +kernel)) ggX11_would_X11_areMonths
theorem ggX11_would_X11_in : GoodIn wsX11_would wsX11_in := gW_in gwX11_in (fun _ h => List.mem_cons_of_mem _ (List.mem_append_right _ (List.mem_append_right _ (List.mem_append_right _ (List.mem_append_right _ (List.mem_append_right _ (List.mem_append_left _ h)))))))
set_option maxRecDepth 20000 in
theorem gX11_would_X11_in : GoodIn wsX11_would (va_wsS RX11 119 yX11_in wsX11_in) := goodIn_app (goodIn_of _ (by decide +kernel)) ggX11_would_X11_in
theorem ggX11_would_X11_by : GoodIn wsX11_would wsX11_by := gW_in gwX11_by (fun _ h => List.mem_cons_of_mem _ (List.mem_append_right _ (List.mem_append_right _ (List.mem_append_right _ (List.mem_append_right _ (List.mem_append_right _ (List.mem_append_right _ (h))))))))
set_option maxRecDepth 20000 in
theorem gX11_would_X11_by : GoodIn wsX11_would (wsV RX11 231 RX11 yX11_by wsX11_by) := goodIn_app (goodIn_of _ (by decide +kernel)) ggX11_would_X11_by
theorem dX11_would_0 : decode cX11_would 0 = .ok (.aload_n 0, 1) := by decide +kernel
theorem dX11_would_1 : decode cX11_would 1 = .ok (.iconst 0, 1) := by decide +kernel
theorem dX11_would_2 : decode cX11_would 2 = .ok (.putfield 85, 3) := by decide +kernel
theorem dX11_would_5 : decode cX11_would 5 = .ok (.aload_n 0, 1) := by decide +kernel
theorem dX11_would_6 : decode cX11_would 6 = .ok (.iload_n 1, 1) := by decide +kernel
theorem dX11_would_7 : decode cX11_would 7 = .ok (.iconst (-1), 1) := by decide +kernel
theorem dX11_would_8 : decode cX11_would 8 = .ok (.if_icmp .eq 15, 3) := by decide +kernel
theorem dX11_would_11 : decode cX11_would 11 = .ok (.aload_n 0, 1) := by decide +kernel
theorem dX11_would_12 : decode cX11_would 12 = .ok (.iload_n 1, 1) := by decide +kernel
theorem dX11_would_13 : decode cX11_would 13 = .ok (.invokevirtual 177, 3) := by decide +kernel
theorem dX11_would_16 : decode cX11_would 16 = .ok (.ifCond .ne 7, 3) := by decide +kernel
theorem dX11_would_19 : decode cX11_would 19 = .ok (.iconst 1, 1) := by decide +kernel
theorem dX11_would_20 : decode cX11_would 20 = .ok (.goto 4, 3) := by decide +kernel
theorem dX11_would_23 : decode cX11_would 23 = .ok (.iconst 0, 1) := by decide +kernel
theorem dX11_would_24 : decode cX11_would 24 = .ok (.iconst 1, 1) := by decide +kernel
theorem dX11_would_25 : decode cX11_would 25 = .ok (.iconst 0, 1) := by decide +kernel
theorem dX11_would_26 : decode cX11_would 26 = .ok (.invokevirtual 151, 3) := by decide +kernel
theorem dX11_would_29 : decode cX11_would 29 = .ok (.ifCond .ne 34, 3) := by decide +kernel
theorem dX11_would_32 : decode cX11_would 32 = .ok (.aload_n 0, 1) := by decide +kernel
theorem dX11_would_33 : decode cX11_would 33 = .ok (.iload_n 2, 1) := by decide +kernel
theorem dX11_would_34 : decode cX11_would 34 = .ok (.invokestatic 228, 3) := by decide +kernel
theorem dX11_would_37 : decode cX11_would 37 = .ok (.ifCond .eq 13, 3) := by decide +kernel
theorem dX11_would_40 : decode cX11_would 40 = .ok (.iload_n 3, 1) := by decide +kernel
theorem dX11_would_41 : decode cX11_would 41 = .ok (.iconst 0, 1) := by decide +kernel
theorem dX11_would_42 : decode cX11_would 42 = .ok (.bipush 9, 2) := by decide +kernel
theorem dX11_would_44 : decode cX11_would 44 = .ok (.invokestatic 119, 3) := by decide +kernel
theorem dX11_would_47 : decode cX11_would 47 = .ok (.ifCond .ne 7, 3) := by decide +kernel
theorem dX11_would_50 : decode cX11_would 50 = .ok (.iconst 1, 1) := by decide +kernel
theorem dX11_would_51 : decode cX11_would 51 = .ok (.goto 4, 3) := by decide +kernel
theorem dX11_would_54 : decode cX11_would 54 = .ok (.iconst 0, 1) := by decide +kernel
theorem dX11_would_55 : decode cX11_would 55 = .ok (.iconst 2, 1) := by decide +kernel
theorem dX11_would_56 : decode cX11_would 56 = .ok (.iconst 2, 1) := by decide +kernel
theorem dX11_would_57 : decode cX11_would 57 = .ok (.invokevirtual 151, 3) := by decide +kernel
theorem dX11_would_60 : decode cX11_would 60 = .ok (.ifCond .eq 5, 3) := by decide +kernel
theorem dX11_would_63 : decode cX11_would 63 = .ok (.iconst 0, 1) := by decide +kernel
theorem dX11_would_64 : decode cX11_would 64 = .ok (.ireturn, 1) := by decide +kernel
theorem dX11_would_65 : decode cX11_would 65 = .ok (.aload_n 0, 1) := by decide +kernel
theorem dX11_would_66 : decode cX11_would 66 = .ok (.iload_n 1, 1) := by decide +kernel
theorem dX11_would_67 : decode cX11_would 67 = .ok (.iload_n 2, 1) := by decide +kernel
theorem dX11_would_68 : decode cX11_would 68 = .ok (.iload_n 3, 1) := by decide +kernel
theorem dX11_would_69 : decode cX11_would 69 = .ok (.invokevirtual 231, 3) := by decide +kernel
theorem dX11_would_72 : decode cX11_would 72 = .ok (.ireturn, 1) := by decide +kernel
theorem ggX11_best_X11_areMonths : GoodIn wsX11_best wsX11_areMonths := gW_in gwX11_areMonths (fun _ h => List.mem_cons_of_mem _ (List.mem_append_right _ (List.mem_append_right _ (List.mem_append_left _ h))))
set_option maxRecDepth 20000 in
theorem gX11_best_X11_areMonths : GoodIn wsX11_best (va_wsS RX11 228 yX11_areMonths wsX11_areMonths) := goodIn_app (goodIn_of _ (by decide +kernel)) ggX11_best_X11_areMonths
theorem ggX11_best_X11_in : GoodIn wsX11_best wsX11_in := gW_in gwX11_in (fun _ h => List.mem_cons_of_mem _ (List.mem_append_right _ (List.mem_append_right _ (List.mem_append_right _ (List.mem_append_left _ h)))))
set_option maxRecDepth 20000 in
theorem gX11_best_X11_in : GoodIn wsX11_best (va_wsS RX11 119 yX11_in wsX11_in) := goodIn_app (goodIn_of _ (by decide +kernel)) ggX11_best_X11_in
theorem ggX11_best_X11_bad : GoodIn wsX11_best wsX11_bad := gW_in gwX11_bad (fun _ h => List.mem_cons_of_mem _ (List.mem_append_right _ (List.mem_append_right _ (List.mem_append_right _ (List.mem_append_right _ (List.mem_append_left _ h))))))
set_option maxRecDepth 20000 in
theorem gX11_best_X11_bad : GoodIn wsX11_best (wsV RX11 151 RX11 yX11_bad wsX11_bad) := goodIn_app (goodIn_of _ (by decide +kernel)) ggX11_best_X11_bad
theorem ggX11_best_X11_by : GoodIn wsX11_best wsX11_by := gW_in gwX11_by (fun _ h => List.mem_cons_of_mem _ (List.mem_append_right _ (List.mem_append_right _ (List.mem_append_right _ (List.mem_append_right _ (List.mem_append_right _ (h)))))))
set_option maxRecDepth 20000 in
theorem gX11_best_X11_by : GoodIn wsX11_best (wsV RX11 231 RX11 yX11_by wsX11_by) := goodIn_app (goodIn_of _ (by decide +kernel)) ggX11_best_X11_by
theorem dX11_best_0 : decode cX11_best 0 = .ok (.aload_n 0, 1) := by decide +kernel
theorem dX11_best_1 : decode cX11_best 1 = .ok (.iconst 0, 1) := by decide +kernel
theorem dX11_best_2 : decode cX11_best 2 = .ok (.putfield 85, 3) := by decide +kernel
theorem dX11_best_5 : decode cX11_best 5 = .ok (.aload_n 0, 1) := by decide +kernel
theorem dX11_best_6 : decode cX11_best 6 = .ok (.iload_n 1, 1) := by decide +kernel
theorem dX11_best_7 : decode cX11_best 7 = .ok (.invokestatic 228, 3) := by decide +kernel
theorem dX11_best_10 : decode cX11_best 10 = .ok (.ifCond .eq 12, 3) := by decide +kernel
theorem dX11_best_13 : decode cX11_best 13 = .ok (.iload_n 2, 1) := by decide +kernel
theorem dX11_best_14 : decode cX11_best 14 = .ok (.iconst 0, 1) := by decide +kernel
theorem dX11_best_15 : decode cX11_best 15 = .ok (.iconst 1, 1) := by decide +kernel
theorem dX11_best_16 : decode cX11_best 16 = .ok (.invokestatic 119, 3) := by decide +kernel
theorem dX11_best_19 : decode cX11_best 19 = .ok (.ifCond .ne 7, 3) := by decide +kernel
theorem dX11_best_22 : decode cX11_best 22 = .ok (.iconst 1, 1) := by decide +kernel
theorem dX11_best_23 : decode cX11_best 23 = .ok (.goto 4, 3) := by decide +kernel
theorem dX11_best_26 : decode cX11_best 26 = .ok (.iconst 0, 1) := by decide +kernel
theorem dX11_best_27 : decode cX11_best 27 = .ok (.iconst 1, 1) := by decide +kernel
theorem dX11_best_28 : decode cX11_best 28 = .ok (.iconst 2, 1) := by decide +kernel
theorem dX11_best_29 : decode cX11_best 29 = .ok (.invokevirtual 151, 3) := by decide +kernel
theorem dX11_best_32 : decode cX11_best 32 = .ok (.ifCond .eq 5, 3) := by decide +kernel
theorem dX11_best_35 : decode cX11_best 35 = .ok (.iconst 0, 1) := by decide +kernel
theorem dX11_best_36 : decode cX11_best 36 = .ok (.ireturn, 1) := by decide +kernel
theorem dX11_best_37 : decode cX11_best 37 = .ok (.iconst (-1), 1) := by decide +kernel
theorem dX11_best_38 : decode cX11_best 38 = .ok (.istore_n 3, 1) := by decide +kernel
theorem dX11_best_39 : decode cX11_best 39 = .ok (.aload_n 0, 1) := by decide +kernel
theorem dX11_best_40 : decode cX11_best 40 = .ok (.iconst (-1), 1) := by decide +kernel
theorem dX11_best_41 : decode cX11_best 41 = .ok (.iload_n 1, 1) := by decide +kernel
theorem dX11_best_42 : decode cX11_best 42 = .ok (.iconst 0, 1) := by decide +kernel
theorem dX11_best_43 : decode cX11_best 43 = .ok (.invokevirtual 231, 3) := by decide +kernel
theorem dX11_best_46 : decode cX11_best 46 = .ok (.istore 4, 2) := by decide +kernel
theorem dX11_best_48 : decode cX11_best 48 = .ok (.aload_n 0, 1) := by decide +kernel
theorem dX11_best_49 : decode cX11_best 49 = .ok (.getfield 162, 3) := by decide +kernel
theorem dX11_best_52 : decode cX11_best 52 = .ok (.iconst 1, 1) := by decide +kernel
theorem dX11_best_53 : decode cX11_best 53 = .ok (.isub, 1) := by decide +kernel
theorem dX11_best_54 : decode cX11_best 54 = .ok (.istore 5, 2) := by decide +kernel
theorem dX11_best_56 : decode cX11_best 56 = .ok (.iload 5, 2) := by decide +kernel
theorem dX11_best_58 : decode cX11_best 58 = .ok (.ifCond .lt 36, 3) := by decide +kernel
theorem dX11_best_61 : decode cX11_best 61 = .ok (.aload_n 0, 1) := by decide +kernel
theorem dX11_best_62 : decode cX11_best 62 = .ok (.iload 5, 2) := by decide +kernel
theorem dX11_best_64 : decode cX11_best 64 = .ok (.iload_n 1, 1) := by decide +kernel
theorem dX11_best_65 : decode cX11_best 65 = .ok (.iconst 0, 1) := by decide +kernel
theorem dX11_best_66 : decode cX11_best 66 = .ok (.invokevirtual 231, 3) := by decide +kernel
theorem dX11_best_69 : decode cX11_best 69 = .ok (.istore 6, 2) := by decide +kernel
theorem dX11_best_71 : decode cX11_best 71 = .ok (.iload 6, 2) := by decide +kernel
theorem dX11_best_73 : decode cX11_best 73 = .ok (.iload 4, 2) := by decide +kernel
theorem dX11_best_75 : decode cX11_best 75 = .ok (.if_icmp .ge 6, 3) := by decide +kernel
theorem dX11_best_78 : decode cX11_best 78 = .ok (.goto 10, 3) := by decide +kernel
theorem dX11_best_81 : decode cX11_best 81 = .ok (.iload 5, 2) := by decide +kernel
theorem dX11_best_83 : decode cX11_best 83 = .ok (.istore_n 3, 1) := by decide +kernel
theorem dX11_best_84 : decode cX11_best 84 = .ok (.iload 6, 2) := by decide +kernel
theorem dX11_best_86 : decode cX11_best 86 = .ok (.istore 4, 2) := by decide +kernel
theorem dX11_best_88 : decode cX11_best 88 = .ok (.iinc 5 (-1), 3) := by decide +kernel
theorem dX11_best_91 : decode cX11_best 91 = .ok (.goto (-35), 3) := by decide +kernel
theorem dX11_best_94 : decode cX11_best 94 = .ok (.iload_n 2, 1) := by decide +kernel
theorem dX11_best_95 : decode cX11_best 95 = .ok (.ifCond .ne 7, 3) := by decide +kernel
theorem dX11_best_98 : decode cX11_best 98 = .ok (.iload_n 3, 1) := by decide +kernel
theorem dX11_best_99 : decode cX11_best 99 = .ok (.goto 5, 3) := by decide +kernel
theorem dX11_best_102 : decode cX11_best 102 = .ok (.iload 4, 2) := by decide +kernel
theorem dX11_best_104 : decode cX11_best 104 = .ok (.ireturn, 1) := by decide +kernel
theorem ggX11_offer_X11_areMonths : GoodIn wsX11_offer wsX11_areMonths := gW_in gwX11_areMonths (fun _ h => List.mem_cons_of_mem _ (List.mem_append_right _ (List.mem_append_right _ (List.mem_append_left _ h))))
set_option maxRecDepth 20000 in
theorem gX11_offer_X11_areMonths : GoodIn wsX11_offer (va_wsS RX11 228 yX11_areMonths wsX11_areMonths) := goodIn_app (goodIn_of _ (by decide +kernel)) ggX11_offer_X11_areMonths
theorem ggX11_offer_X11_in : GoodIn wsX11_offer wsX11_in := gW_in gwX11_in (fun _ h => List.mem_cons_of_mem _ (List.mem_append_right _ (List.mem_append_right _ (List.mem_append_right _ (List.mem_append_left _ h)))))
set_option maxRecDepth 20000 in
theorem gX11_offer_X11_in : GoodIn wsX11_offer (va_wsS RX11 119 yX11_in wsX11_in) := goodIn_app (goodIn_of _ (by decide +kernel)) ggX11_offer_X11_in
theorem ggX11_offer_X11_bad : GoodIn wsX11_offer wsX11_bad := gW_in gwX11_bad (fun _ h => List.mem_cons_of_mem _ (List.mem_append_right _ (List.mem_append_right _ (List.mem_append_right _ (List.mem_append_right _ (List.mem_append_left _ h))))))
set_option maxRecDepth 20000 in
theorem gX11_offer_X11_bad : GoodIn wsX11_offer (wsV RX11 151 RX11 yX11_bad wsX11_bad) := goodIn_app (goodIn_of _ (by decide +kernel)) ggX11_offer_X11_bad
theorem ggX11_offer_X11_wantsFor : GoodIn wsX11_offer wsX11_wantsFor := gW_in gwX11_wantsFor (fun _ h => List.mem_cons_of_mem _ (List.mem_append_right _ (List.mem_append_right _ (List.mem_append_right _ (List.mem_append_right _ (List.mem_append_right _ (List.mem_append_left _ h)))))))
set_option maxRecDepth 20000 in
theorem gX11_offer_X11_wantsFor : GoodIn wsX11_offer (wsV RX11 180 RX11 yX11_wantsFor wsX11_wantsFor) := goodIn_app (goodIn_of _ (by decide +kernel)) ggX11_offer_X11_wantsFor
theorem ggX11_offer_X11_byOffer : GoodIn wsX11_offer wsX11_byOffer := gW_in gwX11_byOffer (fun _ h => List.mem_cons_of_mem _ (List.mem_append_right _ (List.mem_append_right _ (List.mem_append_right _ (List.mem_append_right _ (List.mem_append_right _ (List.mem_append_right _ (h))))))))
set_option maxRecDepth 20000 in
theorem gX11_offer_X11_byOffer : GoodIn wsX11_offer (wsV RX11 235 RX11 yX11_byOffer wsX11_byOffer) := goodIn_app (goodIn_of _ (by decide +kernel)) ggX11_offer_X11_byOffer
theorem dX11_offer_0 : decode cX11_offer 0 = .ok (.aload_n 0, 1) := by decide +kernel
theorem dX11_offer_1 : decode cX11_offer 1 = .ok (.iconst 0, 1) := by decide +kernel
theorem dX11_offer_2 : decode cX11_offer 2 = .ok (.putfield 85, 3) := by decide +kernel
theorem dX11_offer_5 : decode cX11_offer 5 = .ok (.aload_n 0, 1) := by decide +kernel
theorem dX11_offer_6 : decode cX11_offer 6 = .ok (.iload_n 1, 1) := by decide +kernel
theorem dX11_offer_7 : decode cX11_offer 7 = .ok (.invokestatic 228, 3) := by decide +kernel
theorem dX11_offer_10 : decode cX11_offer 10 = .ok (.ifCond .eq 12, 3) := by decide +kernel
theorem dX11_offer_13 : decode cX11_offer 13 = .ok (.iload_n 2, 1) := by decide +kernel
theorem dX11_offer_14 : decode cX11_offer 14 = .ok (.iconst 0, 1) := by decide +kernel
theorem dX11_offer_15 : decode cX11_offer 15 = .ok (.iconst 3, 1) := by decide +kernel
theorem dX11_offer_16 : decode cX11_offer 16 = .ok (.invokestatic 119, 3) := by decide +kernel
theorem dX11_offer_19 : decode cX11_offer 19 = .ok (.ifCond .ne 7, 3) := by decide +kernel
theorem dX11_offer_22 : decode cX11_offer 22 = .ok (.iconst 1, 1) := by decide +kernel
theorem dX11_offer_23 : decode cX11_offer 23 = .ok (.goto 4, 3) := by decide +kernel
theorem dX11_offer_26 : decode cX11_offer 26 = .ok (.iconst 0, 1) := by decide +kernel
theorem dX11_offer_27 : decode cX11_offer 27 = .ok (.iconst 1, 1) := by decide +kernel
theorem dX11_offer_28 : decode cX11_offer 28 = .ok (.iconst 2, 1) := by decide +kernel
theorem dX11_offer_29 : decode cX11_offer 29 = .ok (.invokevirtual 151, 3) := by decide +kernel
theorem dX11_offer_32 : decode cX11_offer 32 = .ok (.ifCond .eq 5, 3) := by decide +kernel
theorem dX11_offer_35 : decode cX11_offer 35 = .ok (.iconst 0, 1) := by decide +kernel
theorem dX11_offer_36 : decode cX11_offer 36 = .ok (.ireturn, 1) := by decide +kernel
theorem dX11_offer_37 : decode cX11_offer 37 = .ok (.iconst 0, 1) := by decide +kernel
theorem dX11_offer_38 : decode cX11_offer 38 = .ok (.istore_n 3, 1) := by decide +kernel
theorem dX11_offer_39 : decode cX11_offer 39 = .ok (.iconst 0, 1) := by decide +kernel
theorem dX11_offer_40 : decode cX11_offer 40 = .ok (.istore 4, 2) := by decide +kernel
theorem dX11_offer_42 : decode cX11_offer 42 = .ok (.iconst (-1), 1) := by decide +kernel
theorem dX11_offer_43 : decode cX11_offer 43 = .ok (.istore 5, 2) := by decide +kernel
theorem dX11_offer_45 : decode cX11_offer 45 = .ok (.aload_n 0, 1) := by decide +kernel
theorem dX11_offer_46 : decode cX11_offer 46 = .ok (.getfield 40, 3) := by decide +kernel
theorem dX11_offer_49 : decode cX11_offer 49 = .ok (.bipush 6, 2) := by decide +kernel
theorem dX11_offer_51 : decode cX11_offer 51 = .ok (.aaload, 1) := by decide +kernel
theorem dX11_offer_52 : decode cX11_offer 52 = .ok (.astore 6, 2) := by decide +kernel
theorem dX11_offer_54 : decode cX11_offer 54 = .ok (.iconst 0, 1) := by decide +kernel
theorem dX11_offer_55 : decode cX11_offer 55 = .ok (.istore 7, 2) := by decide +kernel
theorem dX11_offer_57 : decode cX11_offer 57 = .ok (.iload 7, 2) := by decide +kernel
theorem dX11_offer_59 : decode cX11_offer 59 = .ok (.bipush 36, 2) := by decide +kernel
theorem dX11_offer_61 : decode cX11_offer 61 = .ok (.if_icmp .ge 20, 3) := by decide +kernel
theorem dX11_offer_64 : decode cX11_offer 64 = .ok (.aload_n 0, 1) := by decide +kernel
theorem dX11_offer_65 : decode cX11_offer 65 = .ok (.getfield 43, 3) := by decide +kernel
theorem dX11_offer_68 : decode cX11_offer 68 = .ok (.bipush 6, 2) := by decide +kernel
theorem dX11_offer_70 : decode cX11_offer 70 = .ok (.aaload, 1) := by decide +kernel
theorem dX11_offer_71 : decode cX11_offer 71 = .ok (.iload 7, 2) := by decide +kernel
theorem dX11_offer_73 : decode cX11_offer 73 = .ok (.iconst (-1), 1) := by decide +kernel
theorem dX11_offer_74 : decode cX11_offer 74 = .ok (.iastore, 1) := by decide +kernel
theorem dX11_offer_75 : decode cX11_offer 75 = .ok (.iinc 7 1, 3) := by decide +kernel
theorem dX11_offer_78 : decode cX11_offer 78 = .ok (.goto (-21), 3) := by decide +kernel
theorem dX11_offer_81 : decode cX11_offer 81 = .ok (.iconst 0, 1) := by decide +kernel
theorem dX11_offer_82 : decode cX11_offer 82 = .ok (.istore 7, 2) := by decide +kernel
theorem dX11_offer_84 : decode cX11_offer 84 = .ok (.iload 7, 2) := by decide +kernel
theorem dX11_offer_86 : decode cX11_offer 86 = .ok (.bipush 10, 2) := by decide +kernel
theorem dX11_offer_88 : decode cX11_offer 88 = .ok (.if_icmp .ge 97, 3) := by decide +kernel
theorem dX11_offer_91 : decode cX11_offer 91 = .ok (.iconst 0, 1) := by decide +kernel
theorem dX11_offer_92 : decode cX11_offer 92 = .ok (.istore 8, 2) := by decide +kernel
theorem dX11_offer_94 : decode cX11_offer 94 = .ok (.iload 8, 2) := by decide +kernel
theorem dX11_offer_96 : decode cX11_offer 96 = .ok (.bipush 21, 2) := by decide +kernel
theorem dX11_offer_98 : decode cX11_offer 98 = .ok (.if_icmp .ge 81, 3) := by decide +kernel
theorem dX11_offer_101 : decode cX11_offer 101 = .ok (.aload 6, 2) := by decide +kernel
theorem dX11_offer_103 : decode cX11_offer 103 = .ok (.iconst 0, 1) := by decide +kernel
theorem dX11_offer_104 : decode cX11_offer 104 = .ok (.aload_n 0, 1) := by decide +kernel
theorem dX11_offer_105 : decode cX11_offer 105 = .ok (.iload 7, 2) := by decide +kernel
theorem dX11_offer_107 : decode cX11_offer 107 = .ok (.iload 8, 2) := by decide +kernel
theorem dX11_offer_109 : decode cX11_offer 109 = .ok (.invokevirtual 180, 3) := by decide +kernel
theorem dX11_offer_112 : decode cX11_offer 112 = .ok (.iastore, 1) := by decide +kernel
theorem dX11_offer_113 : decode cX11_offer 113 = .ok (.aload 6, 2) := by decide +kernel
theorem dX11_offer_115 : decode cX11_offer 115 = .ok (.iconst 1, 1) := by decide +kernel
theorem dX11_offer_116 : decode cX11_offer 116 = .ok (.aload 6, 2) := by decide +kernel
theorem dX11_offer_118 : decode cX11_offer 118 = .ok (.iconst 0, 1) := by decide +kernel
theorem dX11_offer_119 : decode cX11_offer 119 = .ok (.iaload, 1) := by decide +kernel
theorem dX11_offer_120 : decode cX11_offer 120 = .ok (.iastore, 1) := by decide +kernel
theorem dX11_offer_121 : decode cX11_offer 121 = .ok (.aload 6, 2) := by decide +kernel
theorem dX11_offer_123 : decode cX11_offer 123 = .ok (.iconst 2, 1) := by decide +kernel
theorem dX11_offer_124 : decode cX11_offer 124 = .ok (.iload 7, 2) := by decide +kernel
theorem dX11_offer_126 : decode cX11_offer 126 = .ok (.iastore, 1) := by decide +kernel
theorem dX11_offer_127 : decode cX11_offer 127 = .ok (.aload 6, 2) := by decide +kernel
theorem dX11_offer_129 : decode cX11_offer 129 = .ok (.iconst 3, 1) := by decide +kernel
theorem dX11_offer_130 : decode cX11_offer 130 = .ok (.iload 8, 2) := by decide +kernel
theorem dX11_offer_132 : decode cX11_offer 132 = .ok (.iastore, 1) := by decide +kernel
theorem dX11_offer_133 : decode cX11_offer 133 = .ok (.aload 6, 2) := by decide +kernel
theorem dX11_offer_135 : decode cX11_offer 135 = .ok (.iconst 4, 1) := by decide +kernel
theorem dX11_offer_136 : decode cX11_offer 136 = .ok (.iconst 0, 1) := by decide +kernel
theorem dX11_offer_137 : decode cX11_offer 137 = .ok (.iastore, 1) := by decide +kernel
theorem dX11_offer_138 : decode cX11_offer 138 = .ok (.aload 6, 2) := by decide +kernel
theorem dX11_offer_140 : decode cX11_offer 140 = .ok (.iconst 5, 1) := by decide +kernel
theorem dX11_offer_141 : decode cX11_offer 141 = .ok (.sipush 1000, 3) := by decide +kernel
theorem dX11_offer_144 : decode cX11_offer 144 = .ok (.iastore, 1) := by decide +kernel
theorem dX11_offer_145 : decode cX11_offer 145 = .ok (.aload_n 0, 1) := by decide +kernel
theorem dX11_offer_146 : decode cX11_offer 146 = .ok (.iload_n 1, 1) := by decide +kernel
theorem dX11_offer_147 : decode cX11_offer 147 = .ok (.invokevirtual 235, 3) := by decide +kernel
theorem dX11_offer_150 : decode cX11_offer 150 = .ok (.istore 9, 2) := by decide +kernel
theorem dX11_offer_152 : decode cX11_offer 152 = .ok (.iload 9, 2) := by decide +kernel
theorem dX11_offer_154 : decode cX11_offer 154 = .ok (.iload 5, 2) := by decide +kernel
theorem dX11_offer_156 : decode cX11_offer 156 = .ok (.if_icmp .gt 6, 3) := by decide +kernel
theorem dX11_offer_159 : decode cX11_offer 159 = .ok (.goto 14, 3) := by decide +kernel
theorem dX11_offer_162 : decode cX11_offer 162 = .ok (.iload 7, 2) := by decide +kernel
theorem dX11_offer_164 : decode cX11_offer 164 = .ok (.istore_n 3, 1) := by decide +kernel
theorem dX11_offer_165 : decode cX11_offer 165 = .ok (.iload 8, 2) := by decide +kernel
theorem dX11_offer_167 : decode cX11_offer 167 = .ok (.istore 4, 2) := by decide +kernel
theorem dX11_offer_169 : decode cX11_offer 169 = .ok (.iload 9, 2) := by decide +kernel
theorem dX11_offer_171 : decode cX11_offer 171 = .ok (.istore 5, 2) := by decide +kernel
theorem dX11_offer_173 : decode cX11_offer 173 = .ok (.iinc 8 1, 3) := by decide +kernel
theorem dX11_offer_176 : decode cX11_offer 176 = .ok (.goto (-82), 3) := by decide +kernel
theorem dX11_offer_179 : decode cX11_offer 179 = .ok (.iinc 7 1, 3) := by decide +kernel
theorem dX11_offer_182 : decode cX11_offer 182 = .ok (.goto (-98), 3) := by decide +kernel
theorem dX11_offer_185 : decode cX11_offer 185 = .ok (.iload_n 2, 1) := by decide +kernel
theorem dX11_offer_186 : decode cX11_offer 186 = .ok (.ifCond .ne 7, 3) := by decide +kernel
theorem dX11_offer_189 : decode cX11_offer 189 = .ok (.iload_n 3, 1) := by decide +kernel
theorem dX11_offer_190 : decode cX11_offer 190 = .ok (.goto 30, 3) := by decide +kernel
theorem dX11_offer_193 : decode cX11_offer 193 = .ok (.iload_n 2, 1) := by decide +kernel
theorem dX11_offer_194 : decode cX11_offer 194 = .ok (.iconst 1, 1) := by decide +kernel
theorem dX11_offer_195 : decode cX11_offer 195 = .ok (.if_icmp .ne 8, 3) := by decide +kernel
theorem dX11_offer_198 : decode cX11_offer 198 = .ok (.iload 4, 2) := by decide +kernel
theorem dX11_offer_200 : decode cX11_offer 200 = .ok (.goto 20, 3) := by decide +kernel
theorem dX11_offer_203 : decode cX11_offer 203 = .ok (.iload_n 2, 1) := by decide +kernel
theorem dX11_offer_204 : decode cX11_offer 204 = .ok (.iconst 2, 1) := by decide +kernel
theorem dX11_offer_205 : decode cX11_offer 205 = .ok (.if_icmp .ne 13, 3) := by decide +kernel
theorem dX11_offer_208 : decode cX11_offer 208 = .ok (.aload_n 0, 1) := by decide +kernel
theorem dX11_offer_209 : decode cX11_offer 209 = .ok (.iload_n 3, 1) := by decide +kernel
theorem dX11_offer_210 : decode cX11_offer 210 = .ok (.iload 4, 2) := by decide +kernel
theorem dX11_offer_212 : decode cX11_offer 212 = .ok (.invokevirtual 180, 3) := by decide +kernel
theorem dX11_offer_215 : decode cX11_offer 215 = .ok (.goto 5, 3) := by decide +kernel
theorem dX11_offer_218 : decode cX11_offer 218 = .ok (.iload 5, 2) := by decide +kernel
theorem dX11_offer_220 : decode cX11_offer 220 = .ok (.ireturn, 1) := by decide +kernel
theorem ggX11_byOffer_X11_puts : GoodIn wsX11_byOffer wsX11_puts := gW_in gwX11_puts (fun _ h => List.mem_cons_of_mem _ (List.mem_append_right _ (List.mem_append_right _ (List.mem_append_left _ h))))
set_option maxRecDepth 20000 in
theorem gX11_byOffer_X11_puts : GoodIn wsX11_byOffer (wsV RX11 219 RX11 yX11_puts wsX11_puts) := goodIn_app (goodIn_of _ (by decide +kernel)) ggX11_byOffer_X11_puts
theorem ggX11_byOffer_X11_signs : GoodIn wsX11_byOffer wsX11_signs := gW_in gwX11_signs (fun _ h => List.mem_cons_of_mem _ (List.mem_append_right _ (List.mem_append_right _ (List.mem_append_right _ (List.mem_append_left _ h)))))
set_option maxRecDepth 20000 in
theorem gX11_byOffer_X11_signs : GoodIn wsX11_byOffer (wsV RX11 183 RX11 yX11_signs wsX11_signs) := goodIn_app (goodIn_of _ (by decide +kernel)) ggX11_byOffer_X11_signs
theorem ggX11_byOffer_X11_monthGoes : GoodIn wsX11_byOffer wsX11_monthGoes := gW_in gwX11_monthGoes (fun _ h => List.mem_cons_of_mem _ (List.mem_append_right _ (List.mem_append_right _ (List.mem_append_right _ (List.mem_append_right _ (List.mem_append_left _ h))))))
set_option maxRecDepth 20000 in
theorem gX11_byOffer_X11_monthGoes : GoodIn wsX11_byOffer (wsV RX11 216 RX11 yX11_monthGoes wsX11_monthGoes) := goodIn_app (goodIn_of _ (by decide +kernel)) ggX11_byOffer_X11_monthGoes
theorem ggX11_byOffer_X11_takes : GoodIn wsX11_byOffer wsX11_takes := gW_in gwX11_takes (fun _ h => List.mem_cons_of_mem _ (List.mem_append_right _ (List.mem_append_right _ (List.mem_append_right _ (List.mem_append_right _ (List.mem_append_right _ (h)))))))
set_option maxRecDepth 20000 in
theorem gX11_byOffer_X11_takes : GoodIn wsX11_byOffer (wsV RX11 225 RX11 yX11_takes wsX11_takes) := goodIn_app (goodIn_of _ (by decide +kernel)) ggX11_byOffer_X11_takes
theorem dX11_byOffer_0 : decode cX11_byOffer 0 = .ok (.aload_n 0, 1) := by decide +kernel
theorem dX11_byOffer_1 : decode cX11_byOffer 1 = .ok (.invokevirtual 219, 3) := by decide +kernel
theorem dX11_byOffer_4 : decode cX11_byOffer 4 = .ok (.aload_n 0, 1) := by decide +kernel
theorem dX11_byOffer_5 : decode cX11_byOffer 5 = .ok (.bipush 6, 2) := by decide +kernel
theorem dX11_byOffer_7 : decode cX11_byOffer 7 = .ok (.invokevirtual 183, 3) := by decide +kernel
theorem dX11_byOffer_10 : decode cX11_byOffer 10 = .ok (.iconst 0, 1) := by decide +kernel
theorem dX11_byOffer_11 : decode cX11_byOffer 11 = .ok (.istore_n 2, 1) := by decide +kernel
theorem dX11_byOffer_12 : decode cX11_byOffer 12 = .ok (.iload_n 2, 1) := by decide +kernel
theorem dX11_byOffer_13 : decode cX11_byOffer 13 = .ok (.iload_n 1, 1) := by decide +kernel
theorem dX11_byOffer_14 : decode cX11_byOffer 14 = .ok (.if_icmp .ge 36, 3) := by decide +kernel
theorem dX11_byOffer_17 : decode cX11_byOffer 17 = .ok (.aload_n 0, 1) := by decide +kernel
theorem dX11_byOffer_18 : decode cX11_byOffer 18 = .ok (.getfield 46, 3) := by decide +kernel
theorem dX11_byOffer_21 : decode cX11_byOffer 21 = .ok (.bipush 11, 2) := by decide +kernel
theorem dX11_byOffer_23 : decode cX11_byOffer 23 = .ok (.aload_n 0, 1) := by decide +kernel
theorem dX11_byOffer_24 : decode cX11_byOffer 24 = .ok (.getfield 46, 3) := by decide +kernel
theorem dX11_byOffer_27 : decode cX11_byOffer 27 = .ok (.bipush 10, 2) := by decide +kernel
theorem dX11_byOffer_29 : decode cX11_byOffer 29 = .ok (.iaload, 1) := by decide +kernel
theorem dX11_byOffer_30 : decode cX11_byOffer 30 = .ok (.iconst (-1), 1) := by decide +kernel
theorem dX11_byOffer_31 : decode cX11_byOffer 31 = .ok (.if_icmp .ne 7, 3) := by decide +kernel
theorem dX11_byOffer_34 : decode cX11_byOffer 34 = .ok (.iconst (-1), 1) := by decide +kernel
theorem dX11_byOffer_35 : decode cX11_byOffer 35 = .ok (.goto 4, 3) := by decide +kernel
theorem dX11_byOffer_38 : decode cX11_byOffer 38 = .ok (.iconst 0, 1) := by decide +kernel
theorem dX11_byOffer_39 : decode cX11_byOffer 39 = .ok (.iastore, 1) := by decide +kernel
theorem dX11_byOffer_40 : decode cX11_byOffer 40 = .ok (.aload_n 0, 1) := by decide +kernel
theorem dX11_byOffer_41 : decode cX11_byOffer 41 = .ok (.invokevirtual 216, 3) := by decide +kernel
theorem dX11_byOffer_44 : decode cX11_byOffer 44 = .ok (.iinc 2 1, 3) := by decide +kernel
theorem dX11_byOffer_47 : decode cX11_byOffer 47 = .ok (.goto (-35), 3) := by decide +kernel
theorem dX11_byOffer_50 : decode cX11_byOffer 50 = .ok (.aload_n 0, 1) := by decide +kernel
theorem dX11_byOffer_51 : decode cX11_byOffer 51 = .ok (.getfield 46, 3) := by decide +kernel
theorem dX11_byOffer_54 : decode cX11_byOffer 54 = .ok (.iconst 0, 1) := by decide +kernel
theorem dX11_byOffer_55 : decode cX11_byOffer 55 = .ok (.iaload, 1) := by decide +kernel
theorem dX11_byOffer_56 : decode cX11_byOffer 56 = .ok (.istore_n 2, 1) := by decide +kernel
theorem dX11_byOffer_57 : decode cX11_byOffer 57 = .ok (.aload_n 0, 1) := by decide +kernel
theorem dX11_byOffer_58 : decode cX11_byOffer 58 = .ok (.invokevirtual 225, 3) := by decide +kernel
theorem dX11_byOffer_61 : decode cX11_byOffer 61 = .ok (.iload_n 2, 1) := by decide +kernel
theorem dX11_byOffer_62 : decode cX11_byOffer 62 = .ok (.ireturn, 1) := by decide +kernel
theorem ggX11_nearest_X11_in : GoodIn wsX11_nearest wsX11_in := gW_in gwX11_in (fun _ h => List.mem_cons_of_mem _ (List.mem_append_right _ (List.mem_append_right _ (List.mem_append_left _ h))))
set_option maxRecDepth 20000 in
theorem gX11_nearest_X11_in : GoodIn wsX11_nearest (va_wsS RX11 119 yX11_in wsX11_in) := goodIn_app (goodIn_of _ (by decide +kernel)) ggX11_nearest_X11_in
theorem ggX11_nearest_X11_bad : GoodIn wsX11_nearest wsX11_bad := gW_in gwX11_bad (fun _ h => List.mem_cons_of_mem _ (List.mem_append_right _ (List.mem_append_right _ (List.mem_append_right _ (List.mem_append_left _ h)))))
set_option maxRecDepth 20000 in
theorem gX11_nearest_X11_bad : GoodIn wsX11_nearest (wsV RX11 151 RX11 yX11_bad wsX11_bad) := goodIn_app (goodIn_of _ (by decide +kernel)) ggX11_nearest_X11_bad
theorem ggX11_nearest_X11_wantsFor : GoodIn wsX11_nearest wsX11_wantsFor := gW_in gwX11_wantsFor (fun _ h => List.mem_cons_of_mem _ (List.mem_append_right _ (List.mem_append_right _ (List.mem_append_right _ (List.mem_append_right _ (h))))))
set_option maxRecDepth 20000 in
theorem gX11_nearest_X11_wantsFor : GoodIn wsX11_nearest (wsV RX11 180 RX11 yX11_wantsFor wsX11_wantsFor) := goodIn_app (goodIn_of _ (by decide +kernel)) ggX11_nearest_X11_wantsFor
theorem dX11_nearest_0 : decode cX11_nearest 0 = .ok (.aload_n 0, 1) := by decide +kernel
theorem dX11_nearest_1 : decode cX11_nearest 1 = .ok (.iconst 0, 1) := by decide +kernel
theorem dX11_nearest_2 : decode cX11_nearest 2 = .ok (.putfield 85, 3) := by decide +kernel
theorem dX11_nearest_5 : decode cX11_nearest 5 = .ok (.aload_n 0, 1) := by decide +kernel
theorem dX11_nearest_6 : decode cX11_nearest 6 = .ok (.iload_n 1, 1) := by decide +kernel
theorem dX11_nearest_7 : decode cX11_nearest 7 = .ok (.iconst 0, 1) := by decide +kernel
theorem dX11_nearest_8 : decode cX11_nearest 8 = .ok (.sipush 9999, 3) := by decide +kernel
theorem dX11_nearest_11 : decode cX11_nearest 11 = .ok (.invokestatic 119, 3) := by decide +kernel
theorem dX11_nearest_14 : decode cX11_nearest 14 = .ok (.ifCond .eq 13, 3) := by decide +kernel
theorem dX11_nearest_17 : decode cX11_nearest 17 = .ok (.iload_n 2, 1) := by decide +kernel
theorem dX11_nearest_18 : decode cX11_nearest 18 = .ok (.iconst 0, 1) := by decide +kernel
theorem dX11_nearest_19 : decode cX11_nearest 19 = .ok (.bipush 99, 2) := by decide +kernel
theorem dX11_nearest_21 : decode cX11_nearest 21 = .ok (.invokestatic 119, 3) := by decide +kernel
theorem dX11_nearest_24 : decode cX11_nearest 24 = .ok (.ifCond .ne 7, 3) := by decide +kernel
theorem dX11_nearest_27 : decode cX11_nearest 27 = .ok (.iconst 1, 1) := by decide +kernel
theorem dX11_nearest_28 : decode cX11_nearest 28 = .ok (.goto 4, 3) := by decide +kernel
theorem dX11_nearest_31 : decode cX11_nearest 31 = .ok (.iconst 0, 1) := by decide +kernel
theorem dX11_nearest_32 : decode cX11_nearest 32 = .ok (.iconst 1, 1) := by decide +kernel
theorem dX11_nearest_33 : decode cX11_nearest 33 = .ok (.iconst 2, 1) := by decide +kernel
theorem dX11_nearest_34 : decode cX11_nearest 34 = .ok (.invokevirtual 151, 3) := by decide +kernel
theorem dX11_nearest_37 : decode cX11_nearest 37 = .ok (.ifCond .eq 5, 3) := by decide +kernel
theorem dX11_nearest_40 : decode cX11_nearest 40 = .ok (.iconst 0, 1) := by decide +kernel
theorem dX11_nearest_41 : decode cX11_nearest 41 = .ok (.ireturn, 1) := by decide +kernel
theorem dX11_nearest_42 : decode cX11_nearest 42 = .ok (.iconst 0, 1) := by decide +kernel
theorem dX11_nearest_43 : decode cX11_nearest 43 = .ok (.istore_n 3, 1) := by decide +kernel
theorem dX11_nearest_44 : decode cX11_nearest 44 = .ok (.iload_n 3, 1) := by decide +kernel
theorem dX11_nearest_45 : decode cX11_nearest 45 = .ok (.bipush 10, 2) := by decide +kernel
theorem dX11_nearest_47 : decode cX11_nearest 47 = .ok (.if_icmp .ge 21, 3) := by decide +kernel
theorem dX11_nearest_50 : decode cX11_nearest 50 = .ok (.aload_n 0, 1) := by decide +kernel
theorem dX11_nearest_51 : decode cX11_nearest 51 = .ok (.iload_n 3, 1) := by decide +kernel
theorem dX11_nearest_52 : decode cX11_nearest 52 = .ok (.iload_n 2, 1) := by decide +kernel
theorem dX11_nearest_53 : decode cX11_nearest 53 = .ok (.invokevirtual 180, 3) := by decide +kernel
theorem dX11_nearest_56 : decode cX11_nearest 56 = .ok (.iload_n 1, 1) := by decide +kernel
theorem dX11_nearest_57 : decode cX11_nearest 57 = .ok (.if_icmp .gt 5, 3) := by decide +kernel
theorem dX11_nearest_60 : decode cX11_nearest 60 = .ok (.iload_n 3, 1) := by decide +kernel
theorem dX11_nearest_61 : decode cX11_nearest 61 = .ok (.ireturn, 1) := by decide +kernel
theorem dX11_nearest_62 : decode cX11_nearest 62 = .ok (.iinc 3 1, 3) := by decide +kernel
theorem dX11_nearest_65 : decode cX11_nearest 65 = .ok (.goto (-21), 3) := by decide +kernel
theorem dX11_nearest_68 : decode cX11_nearest 68 = .ok (.iconst (-1), 1) := by decide +kernel
theorem dX11_nearest_69 : decode cX11_nearest 69 = .ok (.ireturn, 1) := by decide +kernel
theorem ggX11_stop_X11_areMonths : GoodIn wsX11_stop wsX11_areMonths := gW_in gwX11_areMonths (fun _ h => List.mem_cons_of_mem _ (List.mem_append_right _ (List.mem_append_right _ (List.mem_append_left _ h))))
set_option maxRecDepth 20000 in
theorem gX11_stop_X11_areMonths : GoodIn wsX11_stop (va_wsS RX11 228 yX11_areMonths wsX11_areMonths) := goodIn_app (goodIn_of _ (by decide +kernel)) ggX11_stop_X11_areMonths
theorem ggX11_stop_X11_in : GoodIn wsX11_stop wsX11_in := gW_in gwX11_in (fun _ h => List.mem_cons_of_mem _ (List.mem_append_right _ (List.mem_append_right _ (List.mem_append_right _ (List.mem_append_left _ h)))))
set_option maxRecDepth 20000 in
theorem gX11_stop_X11_in : GoodIn wsX11_stop (va_wsS RX11 119 yX11_in wsX11_in) := goodIn_app (goodIn_of _ (by decide +kernel)) ggX11_stop_X11_in
theorem ggX11_stop_X11_bad : GoodIn wsX11_stop wsX11_bad := gW_in gwX11_bad (fun _ h => List.mem_cons_of_mem _ (List.mem_append_right _ (List.mem_append_right _ (List.mem_append_right _ (List.mem_append_right _ (List.mem_append_left _ h))))))
set_option maxRecDepth 20000 in
theorem gX11_stop_X11_bad : GoodIn wsX11_stop (wsV RX11 151 RX11 yX11_bad wsX11_bad) := goodIn_app (goodIn_of _ (by decide +kernel)) ggX11_stop_X11_bad
theorem ggX11_stop_X11_puts : GoodIn wsX11_stop wsX11_puts := gW_in gwX11_puts (fun _ h => List.mem_cons_of_mem _ (List.mem_append_right _ (List.mem_append_right _ (List.mem_append_right _ (List.mem_append_right _ (List.mem_append_right _ (List.mem_append_left _ h)))))))
set_option maxRecDepth 20000 in
theorem gX11_stop_X11_puts : GoodIn wsX11_stop (wsV RX11 219 RX11 yX11_puts wsX11_puts) := goodIn_app (goodIn_of _ (by decide +kernel)) ggX11_stop_X11_puts
theorem ggX11_stop_X11_goesOn : GoodIn wsX11_stop wsX11_goesOn := gW_in gwX11_goesOn (fun _ h => List.mem_cons_of_mem _ (List.mem_append_right _ (List.mem_append_right _ (List.mem_append_right _ (List.mem_append_right _ (List.mem_append_right _ (List.mem_append_right _ (List.mem_append_left _ h))))))))
set_option maxRecDepth 20000 in
theorem gX11_stop_X11_goesOn : GoodIn wsX11_stop (wsV RX11 222 RX11 yX11_goesOn wsX11_goesOn) := goodIn_app (goodIn_of _ (by decide +kernel)) ggX11_stop_X11_goesOn
theorem ggX11_stop_X11_signs : GoodIn wsX11_stop wsX11_signs := gW_in gwX11_signs (fun _ h => List.mem_cons_of_mem _ (List.mem_append_right _ (List.mem_append_right _ (List.mem_append_right _ (List.mem_append_right _ (List.mem_append_right _ (List.mem_append_right _ (List.mem_append_right _ (List.mem_append_left _ h)))))))))
set_option maxRecDepth 20000 in
theorem gX11_stop_X11_signs : GoodIn wsX11_stop (wsV RX11 183 RX11 yX11_signs wsX11_signs) := goodIn_app (goodIn_of _ (by decide +kernel)) ggX11_stop_X11_signs
theorem ggX11_stop_X11_takes : GoodIn wsX11_stop wsX11_takes := gW_in gwX11_takes (fun _ h => List.mem_cons_of_mem _ (List.mem_append_right _ (List.mem_append_right _ (List.mem_append_right _ (List.mem_append_right _ (List.mem_append_right _ (List.mem_append_right _ (List.mem_append_right _ (List.mem_append_right _ (h))))))))))
set_option maxRecDepth 20000 in
theorem gX11_stop_X11_takes : GoodIn wsX11_stop (wsV RX11 225 RX11 yX11_takes wsX11_takes) := goodIn_app (goodIn_of _ (by decide +kernel)) ggX11_stop_X11_takes
theorem dX11_stop_0 : decode cX11_stop 0 = .ok (.aload_n 0, 1) := by decide +kernel
theorem dX11_stop_1 : decode cX11_stop 1 = .ok (.iconst 0, 1) := by decide +kernel
theorem dX11_stop_2 : decode cX11_stop 2 = .ok (.putfield 85, 3) := by decide +kernel
theorem dX11_stop_5 : decode cX11_stop 5 = .ok (.aload_n 0, 1) := by decide +kernel
theorem dX11_stop_6 : decode cX11_stop 6 = .ok (.iload_n 1, 1) := by decide +kernel
theorem dX11_stop_7 : decode cX11_stop 7 = .ok (.invokestatic 228, 3) := by decide +kernel
theorem dX11_stop_10 : decode cX11_stop 10 = .ok (.ifCond .eq 12, 3) := by decide +kernel
theorem dX11_stop_13 : decode cX11_stop 13 = .ok (.iload_n 2, 1) := by decide +kernel
theorem dX11_stop_14 : decode cX11_stop 14 = .ok (.iconst 0, 1) := by decide +kernel
theorem dX11_stop_15 : decode cX11_stop 15 = .ok (.iconst 1, 1) := by decide +kernel
theorem dX11_stop_16 : decode cX11_stop 16 = .ok (.invokestatic 119, 3) := by decide +kernel
theorem dX11_stop_19 : decode cX11_stop 19 = .ok (.ifCond .ne 7, 3) := by decide +kernel
theorem dX11_stop_22 : decode cX11_stop 22 = .ok (.iconst 1, 1) := by decide +kernel
theorem dX11_stop_23 : decode cX11_stop 23 = .ok (.goto 4, 3) := by decide +kernel
theorem dX11_stop_26 : decode cX11_stop 26 = .ok (.iconst 0, 1) := by decide +kernel
theorem dX11_stop_27 : decode cX11_stop 27 = .ok (.iconst 1, 1) := by decide +kernel
theorem dX11_stop_28 : decode cX11_stop 28 = .ok (.iconst 2, 1) := by decide +kernel
theorem dX11_stop_29 : decode cX11_stop 29 = .ok (.invokevirtual 151, 3) := by decide +kernel
theorem dX11_stop_32 : decode cX11_stop 32 = .ok (.ifCond .eq 5, 3) := by decide +kernel
theorem dX11_stop_35 : decode cX11_stop 35 = .ok (.iconst 0, 1) := by decide +kernel
theorem dX11_stop_36 : decode cX11_stop 36 = .ok (.ireturn, 1) := by decide +kernel
theorem dX11_stop_37 : decode cX11_stop 37 = .ok (.iconst 0, 1) := by decide +kernel
theorem dX11_stop_38 : decode cX11_stop 38 = .ok (.istore_n 3, 1) := by decide +kernel
theorem dX11_stop_39 : decode cX11_stop 39 = .ok (.iconst (-1), 1) := by decide +kernel
theorem dX11_stop_40 : decode cX11_stop 40 = .ok (.istore 4, 2) := by decide +kernel
theorem dX11_stop_42 : decode cX11_stop 42 = .ok (.iconst 0, 1) := by decide +kernel
theorem dX11_stop_43 : decode cX11_stop 43 = .ok (.istore 5, 2) := by decide +kernel
theorem dX11_stop_45 : decode cX11_stop 45 = .ok (.iload 5, 2) := by decide +kernel
theorem dX11_stop_47 : decode cX11_stop 47 = .ok (.iload_n 1, 1) := by decide +kernel
theorem dX11_stop_48 : decode cX11_stop 48 = .ok (.if_icmp .gt 61, 3) := by decide +kernel
theorem dX11_stop_51 : decode cX11_stop 51 = .ok (.aload_n 0, 1) := by decide +kernel
theorem dX11_stop_52 : decode cX11_stop 52 = .ok (.invokevirtual 219, 3) := by decide +kernel
theorem dX11_stop_55 : decode cX11_stop 55 = .ok (.aload_n 0, 1) := by decide +kernel
theorem dX11_stop_56 : decode cX11_stop 56 = .ok (.iload 5, 2) := by decide +kernel
theorem dX11_stop_58 : decode cX11_stop 58 = .ok (.invokevirtual 222, 3) := by decide +kernel
theorem dX11_stop_61 : decode cX11_stop 61 = .ok (.aload_n 0, 1) := by decide +kernel
theorem dX11_stop_62 : decode cX11_stop 62 = .ok (.iconst (-1), 1) := by decide +kernel
theorem dX11_stop_63 : decode cX11_stop 63 = .ok (.invokevirtual 183, 3) := by decide +kernel
theorem dX11_stop_66 : decode cX11_stop 66 = .ok (.aload_n 0, 1) := by decide +kernel
theorem dX11_stop_67 : decode cX11_stop 67 = .ok (.iload_n 1, 1) := by decide +kernel
theorem dX11_stop_68 : decode cX11_stop 68 = .ok (.iload 5, 2) := by decide +kernel
theorem dX11_stop_70 : decode cX11_stop 70 = .ok (.isub, 1) := by decide +kernel
theorem dX11_stop_71 : decode cX11_stop 71 = .ok (.invokevirtual 222, 3) := by decide +kernel
theorem dX11_stop_74 : decode cX11_stop 74 = .ok (.aload_n 0, 1) := by decide +kernel
theorem dX11_stop_75 : decode cX11_stop 75 = .ok (.getfield 46, 3) := by decide +kernel
theorem dX11_stop_78 : decode cX11_stop 78 = .ok (.iconst 0, 1) := by decide +kernel
theorem dX11_stop_79 : decode cX11_stop 79 = .ok (.iaload, 1) := by decide +kernel
theorem dX11_stop_80 : decode cX11_stop 80 = .ok (.istore 6, 2) := by decide +kernel
theorem dX11_stop_82 : decode cX11_stop 82 = .ok (.aload_n 0, 1) := by decide +kernel
theorem dX11_stop_83 : decode cX11_stop 83 = .ok (.invokevirtual 225, 3) := by decide +kernel
theorem dX11_stop_86 : decode cX11_stop 86 = .ok (.iload 6, 2) := by decide +kernel
theorem dX11_stop_88 : decode cX11_stop 88 = .ok (.iload 4, 2) := by decide +kernel
theorem dX11_stop_90 : decode cX11_stop 90 = .ok (.if_icmp .gt 6, 3) := by decide +kernel
theorem dX11_stop_93 : decode cX11_stop 93 = .ok (.goto 10, 3) := by decide +kernel
theorem dX11_stop_96 : decode cX11_stop 96 = .ok (.iload 5, 2) := by decide +kernel
theorem dX11_stop_98 : decode cX11_stop 98 = .ok (.istore_n 3, 1) := by decide +kernel
theorem dX11_stop_99 : decode cX11_stop 99 = .ok (.iload 6, 2) := by decide +kernel
theorem dX11_stop_101 : decode cX11_stop 101 = .ok (.istore 4, 2) := by decide +kernel
theorem dX11_stop_103 : decode cX11_stop 103 = .ok (.iinc 5 1, 3) := by decide +kernel
theorem dX11_stop_106 : decode cX11_stop 106 = .ok (.goto (-61), 3) := by decide +kernel
theorem dX11_stop_109 : decode cX11_stop 109 = .ok (.iload_n 2, 1) := by decide +kernel
theorem dX11_stop_110 : decode cX11_stop 110 = .ok (.ifCond .ne 7, 3) := by decide +kernel
theorem dX11_stop_113 : decode cX11_stop 113 = .ok (.iload_n 3, 1) := by decide +kernel
theorem dX11_stop_114 : decode cX11_stop 114 = .ok (.goto 5, 3) := by decide +kernel
theorem dX11_stop_117 : decode cX11_stop 117 = .ok (.iload 4, 2) := by decide +kernel
theorem dX11_stop_119 : decode cX11_stop 119 = .ok (.ireturn, 1) := by decide +kernel
theorem ggX11_odds_X11_in : GoodIn wsX11_odds wsX11_in := gW_in gwX11_in (fun _ h => List.mem_cons_of_mem _ (List.mem_append_right _ (List.mem_append_right _ (List.mem_append_left _ h))))
set_option maxRecDepth 20000 in
theorem gX11_odds_X11_in : GoodIn wsX11_odds (va_wsS RX11 119 yX11_in wsX11_in) := goodIn_app (goodIn_of _ (by decide +kernel)) ggX11_odds_X11_in
theorem ggX11_odds_X11_bad : GoodIn wsX11_odds wsX11_bad := gW_in gwX11_bad (fun _ h => List.mem_cons_of_mem _ (List.mem_append_right _ (List.mem_append_right _ (List.mem_append_right _ (h)))))
set_option maxRecDepth 20000 in
theorem gX11_odds_X11_bad : GoodIn wsX11_odds (wsV RX11 151 RX11 yX11_bad wsX11_bad) := goodIn_app (goodIn_of _ (by decide +kernel)) ggX11_odds_X11_bad
theorem dX11_odds_0 : decode cX11_odds 0 = .ok (.aload_n 0, 1) := by decide +kernel
theorem dX11_odds_1 : decode cX11_odds 1 = .ok (.iconst 0, 1) := by decide +kernel
theorem dX11_odds_2 : decode cX11_odds 2 = .ok (.putfield 85, 3) := by decide +kernel
theorem dX11_odds_5 : decode cX11_odds 5 = .ok (.aload_n 0, 1) := by decide +kernel
theorem dX11_odds_6 : decode cX11_odds 6 = .ok (.iload_n 1, 1) := by decide +kernel
theorem dX11_odds_7 : decode cX11_odds 7 = .ok (.iconst 1, 1) := by decide +kernel
theorem dX11_odds_8 : decode cX11_odds 8 = .ok (.bipush 99, 2) := by decide +kernel
theorem dX11_odds_10 : decode cX11_odds 10 = .ok (.invokestatic 119, 3) := by decide +kernel
theorem dX11_odds_13 : decode cX11_odds 13 = .ok (.ifCond .eq 13, 3) := by decide +kernel
theorem dX11_odds_16 : decode cX11_odds 16 = .ok (.iload_n 2, 1) := by decide +kernel
theorem dX11_odds_17 : decode cX11_odds 17 = .ok (.iconst 1, 1) := by decide +kernel
theorem dX11_odds_18 : decode cX11_odds 18 = .ok (.bipush 99, 2) := by decide +kernel
theorem dX11_odds_20 : decode cX11_odds 20 = .ok (.invokestatic 119, 3) := by decide +kernel
theorem dX11_odds_23 : decode cX11_odds 23 = .ok (.ifCond .ne 7, 3) := by decide +kernel
theorem dX11_odds_26 : decode cX11_odds 26 = .ok (.iconst 1, 1) := by decide +kernel
theorem dX11_odds_27 : decode cX11_odds 27 = .ok (.goto 4, 3) := by decide +kernel
theorem dX11_odds_30 : decode cX11_odds 30 = .ok (.iconst 0, 1) := by decide +kernel
theorem dX11_odds_31 : decode cX11_odds 31 = .ok (.iconst 1, 1) := by decide +kernel
theorem dX11_odds_32 : decode cX11_odds 32 = .ok (.iconst 2, 1) := by decide +kernel
theorem dX11_odds_33 : decode cX11_odds 33 = .ok (.invokevirtual 151, 3) := by decide +kernel
theorem dX11_odds_36 : decode cX11_odds 36 = .ok (.ifCond .eq 4, 3) := by decide +kernel
theorem dX11_odds_39 : decode cX11_odds 39 = .ok (.return_, 1) := by decide +kernel
theorem dX11_odds_40 : decode cX11_odds 40 = .ok (.aload_n 0, 1) := by decide +kernel
theorem dX11_odds_41 : decode cX11_odds 41 = .ok (.iload_n 1, 1) := by decide +kernel
theorem dX11_odds_42 : decode cX11_odds 42 = .ok (.putfield 58, 3) := by decide +kernel
theorem dX11_odds_45 : decode cX11_odds 45 = .ok (.aload_n 0, 1) := by decide +kernel
theorem dX11_odds_46 : decode cX11_odds 46 = .ok (.iload_n 2, 1) := by decide +kernel
theorem dX11_odds_47 : decode cX11_odds 47 = .ok (.putfield 61, 3) := by decide +kernel
theorem dX11_odds_50 : decode cX11_odds 50 = .ok (.aload_n 0, 1) := by decide +kernel
theorem dX11_odds_51 : decode cX11_odds 51 = .ok (.iconst 0, 1) := by decide +kernel
theorem dX11_odds_52 : decode cX11_odds 52 = .ok (.putfield 165, 3) := by decide +kernel
theorem dX11_odds_55 : decode cX11_odds 55 = .ok (.return_, 1) := by decide +kernel
theorem ggX11_kind_X11_in : GoodIn wsX11_kind wsX11_in := gW_in gwX11_in (fun _ h => List.mem_cons_of_mem _ (List.mem_append_right _ (List.mem_append_right _ (List.mem_append_left _ h))))
set_option maxRecDepth 20000 in
theorem gX11_kind_X11_in : GoodIn wsX11_kind (va_wsS RX11 119 yX11_in wsX11_in) := goodIn_app (goodIn_of _ (by decide +kernel)) ggX11_kind_X11_in
theorem ggX11_kind_X11_bad : GoodIn wsX11_kind wsX11_bad := gW_in gwX11_bad (fun _ h => List.mem_cons_of_mem _ (List.mem_append_right _ (List.mem_append_right _ (List.mem_append_right _ (h)))))
set_option maxRecDepth 20000 in
theorem gX11_kind_X11_bad : GoodIn wsX11_kind (wsV RX11 151 RX11 yX11_bad wsX11_bad) := goodIn_app (goodIn_of _ (by decide +kernel)) ggX11_kind_X11_bad
theorem dX11_kind_0 : decode cX11_kind 0 = .ok (.aload_n 0, 1) := by decide +kernel
theorem dX11_kind_1 : decode cX11_kind 1 = .ok (.iconst 0, 1) := by decide +kernel
theorem dX11_kind_2 : decode cX11_kind 2 = .ok (.putfield 85, 3) := by decide +kernel
theorem dX11_kind_5 : decode cX11_kind 5 = .ok (.aload_n 0, 1) := by decide +kernel
theorem dX11_kind_6 : decode cX11_kind 6 = .ok (.iload_n 1, 1) := by decide +kernel
theorem dX11_kind_7 : decode cX11_kind 7 = .ok (.iconst 0, 1) := by decide +kernel
theorem dX11_kind_8 : decode cX11_kind 8 = .ok (.iconst 3, 1) := by decide +kernel
theorem dX11_kind_9 : decode cX11_kind 9 = .ok (.invokestatic 119, 3) := by decide +kernel
theorem dX11_kind_12 : decode cX11_kind 12 = .ok (.ifCond .eq 23, 3) := by decide +kernel
theorem dX11_kind_15 : decode cX11_kind 15 = .ok (.iload_n 2, 1) := by decide +kernel
theorem dX11_kind_16 : decode cX11_kind 16 = .ok (.iconst 1, 1) := by decide +kernel
theorem dX11_kind_17 : decode cX11_kind 17 = .ok (.bipush 16, 2) := by decide +kernel
theorem dX11_kind_19 : decode cX11_kind 19 = .ok (.invokestatic 119, 3) := by decide +kernel
theorem dX11_kind_22 : decode cX11_kind 22 = .ok (.ifCond .eq 13, 3) := by decide +kernel
theorem dX11_kind_25 : decode cX11_kind 25 = .ok (.iload_n 3, 1) := by decide +kernel
theorem dX11_kind_26 : decode cX11_kind 26 = .ok (.iconst 1, 1) := by decide +kernel
theorem dX11_kind_27 : decode cX11_kind 27 = .ok (.bipush 16, 2) := by decide +kernel
theorem dX11_kind_29 : decode cX11_kind 29 = .ok (.invokestatic 119, 3) := by decide +kernel
theorem dX11_kind_32 : decode cX11_kind 32 = .ok (.ifCond .ne 7, 3) := by decide +kernel
theorem dX11_kind_35 : decode cX11_kind 35 = .ok (.iconst 1, 1) := by decide +kernel
theorem dX11_kind_36 : decode cX11_kind 36 = .ok (.goto 4, 3) := by decide +kernel
theorem dX11_kind_39 : decode cX11_kind 39 = .ok (.iconst 0, 1) := by decide +kernel
theorem dX11_kind_40 : decode cX11_kind 40 = .ok (.iconst 1, 1) := by decide +kernel
theorem dX11_kind_41 : decode cX11_kind 41 = .ok (.iconst 2, 1) := by decide +kernel
theorem dX11_kind_42 : decode cX11_kind 42 = .ok (.invokevirtual 151, 3) := by decide +kernel
theorem dX11_kind_45 : decode cX11_kind 45 = .ok (.ifCond .eq 4, 3) := by decide +kernel
theorem dX11_kind_48 : decode cX11_kind 48 = .ok (.return_, 1) := by decide +kernel
theorem dX11_kind_49 : decode cX11_kind 49 = .ok (.aload_n 0, 1) := by decide +kernel
theorem dX11_kind_50 : decode cX11_kind 50 = .ok (.getfield 64, 3) := by decide +kernel
theorem dX11_kind_53 : decode cX11_kind 53 = .ok (.iload_n 1, 1) := by decide +kernel
theorem dX11_kind_54 : decode cX11_kind 54 = .ok (.aaload, 1) := by decide +kernel
theorem dX11_kind_55 : decode cX11_kind 55 = .ok (.iconst 0, 1) := by decide +kernel
theorem dX11_kind_56 : decode cX11_kind 56 = .ok (.iload_n 2, 1) := by decide +kernel
theorem dX11_kind_57 : decode cX11_kind 57 = .ok (.iastore, 1) := by decide +kernel
theorem dX11_kind_58 : decode cX11_kind 58 = .ok (.aload_n 0, 1) := by decide +kernel
theorem dX11_kind_59 : decode cX11_kind 59 = .ok (.getfield 64, 3) := by decide +kernel
theorem dX11_kind_62 : decode cX11_kind 62 = .ok (.iload_n 1, 1) := by decide +kernel
theorem dX11_kind_63 : decode cX11_kind 63 = .ok (.aaload, 1) := by decide +kernel
theorem dX11_kind_64 : decode cX11_kind 64 = .ok (.iconst 1, 1) := by decide +kernel
theorem dX11_kind_65 : decode cX11_kind 65 = .ok (.iload_n 3, 1) := by decide +kernel
theorem dX11_kind_66 : decode cX11_kind 66 = .ok (.iastore, 1) := by decide +kernel
theorem dX11_kind_67 : decode cX11_kind 67 = .ok (.return_, 1) := by decide +kernel
theorem dX11_isSeen_0 : decode cX11_isSeen 0 = .ok (.aload_n 0, 1) := by decide +kernel
theorem dX11_isSeen_1 : decode cX11_isSeen 1 = .ok (.getfield 165, 3) := by decide +kernel
theorem dX11_isSeen_4 : decode cX11_isSeen 4 = .ok (.bipush 12, 2) := by decide +kernel
theorem dX11_isSeen_6 : decode cX11_isSeen 6 = .ok (.if_icmp .ne 5, 3) := by decide +kernel
theorem dX11_isSeen_9 : decode cX11_isSeen 9 = .ok (.iconst (-1), 1) := by decide +kernel
theorem dX11_isSeen_10 : decode cX11_isSeen 10 = .ok (.ireturn, 1) := by decide +kernel
theorem dX11_isSeen_11 : decode cX11_isSeen 11 = .ok (.aload_n 0, 1) := by decide +kernel
theorem dX11_isSeen_12 : decode cX11_isSeen 12 = .ok (.getfield 67, 3) := by decide +kernel
theorem dX11_isSeen_15 : decode cX11_isSeen 15 = .ok (.aload_n 0, 1) := by decide +kernel
theorem dX11_isSeen_16 : decode cX11_isSeen 16 = .ok (.getfield 165, 3) := by decide +kernel
theorem dX11_isSeen_19 : decode cX11_isSeen 19 = .ok (.aaload, 1) := by decide +kernel
theorem dX11_isSeen_20 : decode cX11_isSeen 20 = .ok (.iconst 0, 1) := by decide +kernel
theorem dX11_isSeen_21 : decode cX11_isSeen 21 = .ok (.iload_n 1, 1) := by decide +kernel
theorem dX11_isSeen_22 : decode cX11_isSeen 22 = .ok (.iastore, 1) := by decide +kernel
theorem dX11_isSeen_23 : decode cX11_isSeen 23 = .ok (.aload_n 0, 1) := by decide +kernel
theorem dX11_isSeen_24 : decode cX11_isSeen 24 = .ok (.getfield 67, 3) := by decide +kernel
theorem dX11_isSeen_27 : decode cX11_isSeen 27 = .ok (.aload_n 0, 1) := by decide +kernel
theorem dX11_isSeen_28 : decode cX11_isSeen 28 = .ok (.getfield 165, 3) := by decide +kernel
theorem dX11_isSeen_31 : decode cX11_isSeen 31 = .ok (.aaload, 1) := by decide +kernel
theorem dX11_isSeen_32 : decode cX11_isSeen 32 = .ok (.iconst 1, 1) := by decide +kernel
theorem dX11_isSeen_33 : decode cX11_isSeen 33 = .ok (.iload_n 2, 1) := by decide +kernel
theorem dX11_isSeen_34 : decode cX11_isSeen 34 = .ok (.iastore, 1) := by decide +kernel
theorem dX11_isSeen_35 : decode cX11_isSeen 35 = .ok (.aload_n 0, 1) := by decide +kernel
theorem dX11_isSeen_36 : decode cX11_isSeen 36 = .ok (.dup, 1) := by decide +kernel
theorem dX11_isSeen_37 : decode cX11_isSeen 37 = .ok (.getfield 165, 3) := by decide +kernel
theorem dX11_isSeen_40 : decode cX11_isSeen 40 = .ok (.iconst 1, 1) := by decide +kernel
theorem dX11_isSeen_41 : decode cX11_isSeen 41 = .ok (.iadd, 1) := by decide +kernel
theorem dX11_isSeen_42 : decode cX11_isSeen 42 = .ok (.putfield 165, 3) := by decide +kernel
theorem dX11_isSeen_45 : decode cX11_isSeen 45 = .ok (.aload_n 0, 1) := by decide +kernel
theorem dX11_isSeen_46 : decode cX11_isSeen 46 = .ok (.getfield 165, 3) := by decide +kernel
theorem dX11_isSeen_49 : decode cX11_isSeen 49 = .ok (.ireturn, 1) := by decide +kernel
theorem ggX11_seen_X11_in : GoodIn wsX11_seen wsX11_in := gW_in gwX11_in (fun _ h => List.mem_cons_of_mem _ (List.mem_append_right _ (List.mem_append_right _ (List.mem_append_left _ h))))
set_option maxRecDepth 20000 in
theorem gX11_seen_X11_in : GoodIn wsX11_seen (va_wsS RX11 119 yX11_in wsX11_in) := goodIn_app (goodIn_of _ (by decide +kernel)) ggX11_seen_X11_in
theorem ggX11_seen_X11_bad : GoodIn wsX11_seen wsX11_bad := gW_in gwX11_bad (fun _ h => List.mem_cons_of_mem _ (List.mem_append_right _ (List.mem_append_right _ (List.mem_append_right _ (List.mem_append_left _ h)))))
set_option maxRecDepth 20000 in
theorem gX11_seen_X11_bad : GoodIn wsX11_seen (wsV RX11 151 RX11 yX11_bad wsX11_bad) := goodIn_app (goodIn_of _ (by decide +kernel)) ggX11_seen_X11_bad
theorem ggX11_seen_X11_isSeen : GoodIn wsX11_seen wsX11_isSeen := gW_in gwX11_isSeen (fun _ h => List.mem_cons_of_mem _ (List.mem_append_right _ (List.mem_append_right _ (List.mem_append_right _ (List.mem_append_right _ (h))))))
set_option maxRecDepth 20000 in
theorem gX11_seen_X11_isSeen : GoodIn wsX11_seen (wsV RX11 238 RX11 yX11_isSeen wsX11_isSeen) := goodIn_app (goodIn_of _ (by decide +kernel)) ggX11_seen_X11_isSeen
theorem dX11_seen_0 : decode cX11_seen 0 = .ok (.aload_n 0, 1) := by decide +kernel
theorem dX11_seen_1 : decode cX11_seen 1 = .ok (.iconst 0, 1) := by decide +kernel
theorem dX11_seen_2 : decode cX11_seen 2 = .ok (.putfield 85, 3) := by decide +kernel
theorem dX11_seen_5 : decode cX11_seen 5 = .ok (.aload_n 0, 1) := by decide +kernel
theorem dX11_seen_6 : decode cX11_seen 6 = .ok (.iload_n 1, 1) := by decide +kernel
theorem dX11_seen_7 : decode cX11_seen 7 = .ok (.iconst 0, 1) := by decide +kernel
theorem dX11_seen_8 : decode cX11_seen 8 = .ok (.iconst 3, 1) := by decide +kernel
theorem dX11_seen_9 : decode cX11_seen 9 = .ok (.invokestatic 119, 3) := by decide +kernel
theorem dX11_seen_12 : decode cX11_seen 12 = .ok (.ifCond .ne 7, 3) := by decide +kernel
theorem dX11_seen_15 : decode cX11_seen 15 = .ok (.iconst 1, 1) := by decide +kernel
theorem dX11_seen_16 : decode cX11_seen 16 = .ok (.goto 4, 3) := by decide +kernel
theorem dX11_seen_19 : decode cX11_seen 19 = .ok (.iconst 0, 1) := by decide +kernel
theorem dX11_seen_20 : decode cX11_seen 20 = .ok (.iconst 1, 1) := by decide +kernel
theorem dX11_seen_21 : decode cX11_seen 21 = .ok (.iconst 2, 1) := by decide +kernel
theorem dX11_seen_22 : decode cX11_seen 22 = .ok (.invokevirtual 151, 3) := by decide +kernel
theorem dX11_seen_25 : decode cX11_seen 25 = .ok (.ifCond .eq 5, 3) := by decide +kernel
theorem dX11_seen_28 : decode cX11_seen 28 = .ok (.iconst 0, 1) := by decide +kernel
theorem dX11_seen_29 : decode cX11_seen 29 = .ok (.ireturn, 1) := by decide +kernel
theorem dX11_seen_30 : decode cX11_seen 30 = .ok (.aload_n 0, 1) := by decide +kernel
theorem dX11_seen_31 : decode cX11_seen 31 = .ok (.aload_n 0, 1) := by decide +kernel
theorem dX11_seen_32 : decode cX11_seen 32 = .ok (.getfield 64, 3) := by decide +kernel
theorem dX11_seen_35 : decode cX11_seen 35 = .ok (.iload_n 1, 1) := by decide +kernel
theorem dX11_seen_36 : decode cX11_seen 36 = .ok (.aaload, 1) := by decide +kernel
theorem dX11_seen_37 : decode cX11_seen 37 = .ok (.iconst 0, 1) := by decide +kernel
theorem dX11_seen_38 : decode cX11_seen 38 = .ok (.iaload, 1) := by decide +kernel
theorem dX11_seen_39 : decode cX11_seen 39 = .ok (.aload_n 0, 1) := by decide +kernel
theorem dX11_seen_40 : decode cX11_seen 40 = .ok (.getfield 64, 3) := by decide +kernel
theorem dX11_seen_43 : decode cX11_seen 43 = .ok (.iload_n 1, 1) := by decide +kernel
theorem dX11_seen_44 : decode cX11_seen 44 = .ok (.aaload, 1) := by decide +kernel
theorem dX11_seen_45 : decode cX11_seen 45 = .ok (.iconst 1, 1) := by decide +kernel
theorem dX11_seen_46 : decode cX11_seen 46 = .ok (.iaload, 1) := by decide +kernel
theorem dX11_seen_47 : decode cX11_seen 47 = .ok (.invokevirtual 238, 3) := by decide +kernel
theorem dX11_seen_50 : decode cX11_seen 50 = .ok (.ireturn, 1) := by decide +kernel
theorem ggX11_spy_X11_in : GoodIn wsX11_spy wsX11_in := gW_in gwX11_in (fun _ h => List.mem_cons_of_mem _ (List.mem_append_right _ (List.mem_append_right _ (List.mem_append_left _ h))))
set_option maxRecDepth 20000 in
theorem gX11_spy_X11_in : GoodIn wsX11_spy (va_wsS RX11 119 yX11_in wsX11_in) := goodIn_app (goodIn_of _ (by decide +kernel)) ggX11_spy_X11_in
theorem ggX11_spy_X11_bad : GoodIn wsX11_spy wsX11_bad := gW_in gwX11_bad (fun _ h => List.mem_cons_of_mem _ (List.mem_append_right _ (List.mem_append_right _ (List.mem_append_right _ (List.mem_append_left _ h)))))
set_option maxRecDepth 20000 in
theorem gX11_spy_X11_bad : GoodIn wsX11_spy (wsV RX11 151 RX11 yX11_bad wsX11_bad) := goodIn_app (goodIn_of _ (by decide +kernel)) ggX11_spy_X11_bad
theorem ggX11_spy_X11_isSeen : GoodIn wsX11_spy wsX11_isSeen := gW_in gwX11_isSeen (fun _ h => List.mem_cons_of_mem _ (List.mem_append_right _ (List.mem_append_right _ (List.mem_append_right _ (List.mem_append_right _ (h))))))
set_option maxRecDepth 20000 in
theorem gX11_spy_X11_isSeen : GoodIn wsX11_spy (wsV RX11 238 RX11 yX11_isSeen wsX11_isSeen) := goodIn_app (goodIn_of _ (by decide +kernel)) ggX11_spy_X11_isSeen
theorem dX11_spy_0 : decode cX11_spy 0 = .ok (.aload_n 0, 1) := by decide +kernel
theorem dX11_spy_1 : decode cX11_spy 1 = .ok (.iconst 0, 1) := by decide +kernel
theorem dX11_spy_2 : decode cX11_spy 2 = .ok (.putfield 85, 3) := by decide +kernel
theorem dX11_spy_5 : decode cX11_spy 5 = .ok (.aload_n 0, 1) := by decide +kernel
theorem dX11_spy_6 : decode cX11_spy 6 = .ok (.iload_n 2, 1) := by decide +kernel
theorem dX11_spy_7 : decode cX11_spy 7 = .ok (.iconst 1, 1) := by decide +kernel
theorem dX11_spy_8 : decode cX11_spy 8 = .ok (.bipush 15, 2) := by decide +kernel
theorem dX11_spy_10 : decode cX11_spy 10 = .ok (.invokestatic 119, 3) := by decide +kernel
theorem dX11_spy_13 : decode cX11_spy 13 = .ok (.ifCond .ne 7, 3) := by decide +kernel
theorem dX11_spy_16 : decode cX11_spy 16 = .ok (.iconst 1, 1) := by decide +kernel
theorem dX11_spy_17 : decode cX11_spy 17 = .ok (.goto 4, 3) := by decide +kernel
theorem dX11_spy_20 : decode cX11_spy 20 = .ok (.iconst 0, 1) := by decide +kernel
theorem dX11_spy_21 : decode cX11_spy 21 = .ok (.iconst 1, 1) := by decide +kernel
theorem dX11_spy_22 : decode cX11_spy 22 = .ok (.iconst 2, 1) := by decide +kernel
theorem dX11_spy_23 : decode cX11_spy 23 = .ok (.invokevirtual 151, 3) := by decide +kernel
theorem dX11_spy_26 : decode cX11_spy 26 = .ok (.ifCond .eq 5, 3) := by decide +kernel
theorem dX11_spy_29 : decode cX11_spy 29 = .ok (.iconst 0, 1) := by decide +kernel
theorem dX11_spy_30 : decode cX11_spy 30 = .ok (.ireturn, 1) := by decide +kernel
theorem dX11_spy_31 : decode cX11_spy 31 = .ok (.aload_n 0, 1) := by decide +kernel
theorem dX11_spy_32 : decode cX11_spy 32 = .ok (.iload_n 1, 1) := by decide +kernel
theorem dX11_spy_33 : decode cX11_spy 33 = .ok (.ifCond .eq 7, 3) := by decide +kernel
theorem dX11_spy_36 : decode cX11_spy 36 = .ok (.iload_n 2, 1) := by decide +kernel
theorem dX11_spy_37 : decode cX11_spy 37 = .ok (.goto 7, 3) := by decide +kernel
theorem dX11_spy_40 : decode cX11_spy 40 = .ok (.bipush 16, 2) := by decide +kernel
theorem dX11_spy_42 : decode cX11_spy 42 = .ok (.iload_n 2, 1) := by decide +kernel
theorem dX11_spy_43 : decode cX11_spy 43 = .ok (.isub, 1) := by decide +kernel
theorem dX11_spy_44 : decode cX11_spy 44 = .ok (.iload_n 1, 1) := by decide +kernel
theorem dX11_spy_45 : decode cX11_spy 45 = .ok (.ifCond .eq 10, 3) := by decide +kernel
theorem dX11_spy_48 : decode cX11_spy 48 = .ok (.bipush 16, 2) := by decide +kernel
theorem dX11_spy_50 : decode cX11_spy 50 = .ok (.iload_n 2, 1) := by decide +kernel
theorem dX11_spy_51 : decode cX11_spy 51 = .ok (.isub, 1) := by decide +kernel
theorem dX11_spy_52 : decode cX11_spy 52 = .ok (.goto 4, 3) := by decide +kernel
theorem dX11_spy_55 : decode cX11_spy 55 = .ok (.iload_n 2, 1) := by decide +kernel
theorem dX11_spy_56 : decode cX11_spy 56 = .ok (.invokevirtual 238, 3) := by decide +kernel
theorem dX11_spy_59 : decode cX11_spy 59 = .ok (.ireturn, 1) := by decide +kernel
theorem ggX11_believed_X11_in : GoodIn wsX11_believed wsX11_in := gW_in gwX11_in (fun _ h => List.mem_cons_of_mem _ (List.mem_append_right _ (List.mem_append_right _ (List.mem_append_left _ h))))
set_option maxRecDepth 20000 in
theorem gX11_believed_X11_in : GoodIn wsX11_believed (va_wsS RX11 119 yX11_in wsX11_in) := goodIn_app (goodIn_of _ (by decide +kernel)) ggX11_believed_X11_in
theorem ggX11_believed_X11_bad : GoodIn wsX11_believed wsX11_bad := gW_in gwX11_bad (fun _ h => List.mem_cons_of_mem _ (List.mem_append_right _ (List.mem_append_right _ (List.mem_append_right _ (h)))))
set_option maxRecDepth 20000 in
theorem gX11_believed_X11_bad : GoodIn wsX11_believed (wsV RX11 151 RX11 yX11_bad wsX11_bad) := goodIn_app (goodIn_of _ (by decide +kernel)) ggX11_believed_X11_bad
theorem dX11_believed_0 : decode cX11_believed 0 = .ok (.aload_n 0, 1) := by decide +kernel
theorem dX11_believed_1 : decode cX11_believed 1 = .ok (.iconst 0, 1) := by decide +kernel
theorem dX11_believed_2 : decode cX11_believed 2 = .ok (.putfield 85, 3) := by decide +kernel
theorem dX11_believed_5 : decode cX11_believed 5 = .ok (.aload_n 0, 1) := by decide +kernel
theorem dX11_believed_6 : decode cX11_believed 6 = .ok (.iload_n 1, 1) := by decide +kernel
theorem dX11_believed_7 : decode cX11_believed 7 = .ok (.iconst 0, 1) := by decide +kernel
theorem dX11_believed_8 : decode cX11_believed 8 = .ok (.iconst 1, 1) := by decide +kernel
theorem dX11_believed_9 : decode cX11_believed 9 = .ok (.invokestatic 119, 3) := by decide +kernel
theorem dX11_believed_12 : decode cX11_believed 12 = .ok (.ifCond .ne 7, 3) := by decide +kernel
theorem dX11_believed_15 : decode cX11_believed 15 = .ok (.iconst 1, 1) := by decide +kernel
theorem dX11_believed_16 : decode cX11_believed 16 = .ok (.goto 4, 3) := by decide +kernel
theorem dX11_believed_19 : decode cX11_believed 19 = .ok (.iconst 0, 1) := by decide +kernel
theorem dX11_believed_20 : decode cX11_believed 20 = .ok (.iconst 1, 1) := by decide +kernel
theorem dX11_believed_21 : decode cX11_believed 21 = .ok (.iconst 2, 1) := by decide +kernel
theorem dX11_believed_22 : decode cX11_believed 22 = .ok (.invokevirtual 151, 3) := by decide +kernel
theorem dX11_believed_25 : decode cX11_believed 25 = .ok (.ifCond .eq 5, 3) := by decide +kernel
theorem dX11_believed_28 : decode cX11_believed 28 = .ok (.lconst 0, 1) := by decide +kernel
theorem dX11_believed_29 : decode cX11_believed 29 = .ok (.lreturn, 1) := by decide +kernel
theorem dX11_believed_30 : decode cX11_believed 30 = .ok (.aload_n 0, 1) := by decide +kernel
theorem dX11_believed_31 : decode cX11_believed 31 = .ok (.getfield 58, 3) := by decide +kernel
theorem dX11_believed_34 : decode cX11_believed 34 = .ok (.i2l, 1) := by decide +kernel
theorem dX11_believed_35 : decode cX11_believed 35 = .ok (.lstore_n 2, 1) := by decide +kernel
theorem dX11_believed_36 : decode cX11_believed 36 = .ok (.aload_n 0, 1) := by decide +kernel
theorem dX11_believed_37 : decode cX11_believed 37 = .ok (.getfield 61, 3) := by decide +kernel
theorem dX11_believed_40 : decode cX11_believed 40 = .ok (.i2l, 1) := by decide +kernel
theorem dX11_believed_41 : decode cX11_believed 41 = .ok (.lstore 4, 2) := by decide +kernel
theorem dX11_believed_43 : decode cX11_believed 43 = .ok (.iconst 0, 1) := by decide +kernel
theorem dX11_believed_44 : decode cX11_believed 44 = .ok (.istore 6, 2) := by decide +kernel
theorem dX11_believed_46 : decode cX11_believed 46 = .ok (.iload 6, 2) := by decide +kernel
theorem dX11_believed_48 : decode cX11_believed 48 = .ok (.aload_n 0, 1) := by decide +kernel
theorem dX11_believed_49 : decode cX11_believed 49 = .ok (.getfield 165, 3) := by decide +kernel
theorem dX11_believed_52 : decode cX11_believed 52 = .ok (.if_icmp .ge 37, 3) := by decide +kernel
theorem dX11_believed_55 : decode cX11_believed 55 = .ok (.lload_n 2, 1) := by decide +kernel
theorem dX11_believed_56 : decode cX11_believed 56 = .ok (.aload_n 0, 1) := by decide +kernel
theorem dX11_believed_57 : decode cX11_believed 57 = .ok (.getfield 67, 3) := by decide +kernel
theorem dX11_believed_60 : decode cX11_believed 60 = .ok (.iload 6, 2) := by decide +kernel
theorem dX11_believed_62 : decode cX11_believed 62 = .ok (.aaload, 1) := by decide +kernel
theorem dX11_believed_63 : decode cX11_believed 63 = .ok (.iconst 0, 1) := by decide +kernel
theorem dX11_believed_64 : decode cX11_believed 64 = .ok (.iaload, 1) := by decide +kernel
theorem dX11_believed_65 : decode cX11_believed 65 = .ok (.i2l, 1) := by decide +kernel
theorem dX11_believed_66 : decode cX11_believed 66 = .ok (.lmul, 1) := by decide +kernel
theorem dX11_believed_67 : decode cX11_believed 67 = .ok (.lstore_n 2, 1) := by decide +kernel
theorem dX11_believed_68 : decode cX11_believed 68 = .ok (.lload 4, 2) := by decide +kernel
theorem dX11_believed_70 : decode cX11_believed 70 = .ok (.aload_n 0, 1) := by decide +kernel
theorem dX11_believed_71 : decode cX11_believed 71 = .ok (.getfield 67, 3) := by decide +kernel
theorem dX11_believed_74 : decode cX11_believed 74 = .ok (.iload 6, 2) := by decide +kernel
theorem dX11_believed_76 : decode cX11_believed 76 = .ok (.aaload, 1) := by decide +kernel
theorem dX11_believed_77 : decode cX11_believed 77 = .ok (.iconst 1, 1) := by decide +kernel
theorem dX11_believed_78 : decode cX11_believed 78 = .ok (.iaload, 1) := by decide +kernel
theorem dX11_believed_79 : decode cX11_believed 79 = .ok (.i2l, 1) := by decide +kernel
theorem dX11_believed_80 : decode cX11_believed 80 = .ok (.lmul, 1) := by decide +kernel
theorem dX11_believed_81 : decode cX11_believed 81 = .ok (.lstore 4, 2) := by decide +kernel
theorem dX11_believed_83 : decode cX11_believed 83 = .ok (.iinc 6 1, 3) := by decide +kernel
theorem dX11_believed_86 : decode cX11_believed 86 = .ok (.goto (-40), 3) := by decide +kernel
theorem dX11_believed_89 : decode cX11_believed 89 = .ok (.lload_n 2, 1) := by decide +kernel
theorem dX11_believed_90 : decode cX11_believed 90 = .ok (.lstore 6, 2) := by decide +kernel
theorem dX11_believed_92 : decode cX11_believed 92 = .ok (.lload 4, 2) := by decide +kernel
theorem dX11_believed_94 : decode cX11_believed 94 = .ok (.lstore 8, 2) := by decide +kernel
theorem dX11_believed_96 : decode cX11_believed 96 = .ok (.lload 8, 2) := by decide +kernel
theorem dX11_believed_98 : decode cX11_believed 98 = .ok (.lconst 0, 1) := by decide +kernel
theorem dX11_believed_99 : decode cX11_believed 99 = .ok (.lcmp, 1) := by decide +kernel
theorem dX11_believed_100 : decode cX11_believed 100 = .ok (.ifCond .eq 21, 3) := by decide +kernel
theorem dX11_believed_103 : decode cX11_believed 103 = .ok (.lload 6, 2) := by decide +kernel
theorem dX11_believed_105 : decode cX11_believed 105 = .ok (.lload 8, 2) := by decide +kernel
theorem dX11_believed_107 : decode cX11_believed 107 = .ok (.lrem, 1) := by decide +kernel
theorem dX11_believed_108 : decode cX11_believed 108 = .ok (.lstore 10, 2) := by decide +kernel
theorem dX11_believed_110 : decode cX11_believed 110 = .ok (.lload 8, 2) := by decide +kernel
theorem dX11_believed_112 : decode cX11_believed 112 = .ok (.lstore 6, 2) := by decide +kernel
theorem dX11_believed_114 : decode cX11_believed 114 = .ok (.lload 10, 2) := by decide +kernel
theorem dX11_believed_116 : decode cX11_believed 116 = .ok (.lstore 8, 2) := by decide +kernel
theorem dX11_believed_118 : decode cX11_believed 118 = .ok (.goto (-22), 3) := by decide +kernel
theorem dX11_believed_121 : decode cX11_believed 121 = .ok (.iload_n 1, 1) := by decide +kernel
theorem dX11_believed_122 : decode cX11_believed 122 = .ok (.ifCond .ne 10, 3) := by decide +kernel
theorem dX11_believed_125 : decode cX11_believed 125 = .ok (.lload_n 2, 1) := by decide +kernel
theorem dX11_believed_126 : decode cX11_believed 126 = .ok (.lload 6, 2) := by decide +kernel
theorem dX11_believed_128 : decode cX11_believed 128 = .ok (.ldiv, 1) := by decide +kernel
theorem dX11_believed_129 : decode cX11_believed 129 = .ok (.goto 8, 3) := by decide +kernel
theorem dX11_believed_132 : decode cX11_believed 132 = .ok (.lload 4, 2) := by decide +kernel
theorem dX11_believed_134 : decode cX11_believed 134 = .ok (.lload 6, 2) := by decide +kernel
theorem dX11_believed_136 : decode cX11_believed 136 = .ok (.ldiv, 1) := by decide +kernel
theorem dX11_believed_137 : decode cX11_believed 137 = .ok (.lreturn, 1) := by decide +kernel
theorem dX11_digit_0 : decode cX11_digit 0 = .ok (.iload_n 1, 1) := by decide +kernel
theorem dX11_digit_1 : decode cX11_digit 1 = .ok (.ifCond .ne 10, 3) := by decide +kernel
theorem dX11_digit_4 : decode cX11_digit 4 = .ok (.iload_n 0, 1) := by decide +kernel
theorem dX11_digit_5 : decode cX11_digit 5 = .ok (.bipush 49, 2) := by decide +kernel
theorem dX11_digit_7 : decode cX11_digit 7 = .ok (.idiv, 1) := by decide +kernel
theorem dX11_digit_8 : decode cX11_digit 8 = .ok (.goto 22, 3) := by decide +kernel
theorem dX11_digit_11 : decode cX11_digit 11 = .ok (.iload_n 1, 1) := by decide +kernel
theorem dX11_digit_12 : decode cX11_digit 12 = .ok (.iconst 1, 1) := by decide +kernel
theorem dX11_digit_13 : decode cX11_digit 13 = .ok (.if_icmp .ne 13, 3) := by decide +kernel
theorem dX11_digit_16 : decode cX11_digit 16 = .ok (.iload_n 0, 1) := by decide +kernel
theorem dX11_digit_17 : decode cX11_digit 17 = .ok (.bipush 7, 2) := by decide +kernel
theorem dX11_digit_19 : decode cX11_digit 19 = .ok (.idiv, 1) := by decide +kernel
theorem dX11_digit_20 : decode cX11_digit 20 = .ok (.bipush 7, 2) := by decide +kernel
theorem dX11_digit_22 : decode cX11_digit 22 = .ok (.irem, 1) := by decide +kernel
theorem dX11_digit_23 : decode cX11_digit 23 = .ok (.goto 7, 3) := by decide +kernel
theorem dX11_digit_26 : decode cX11_digit 26 = .ok (.iload_n 0, 1) := by decide +kernel
theorem dX11_digit_27 : decode cX11_digit 27 = .ok (.bipush 7, 2) := by decide +kernel
theorem dX11_digit_29 : decode cX11_digit 29 = .ok (.irem, 1) := by decide +kernel
theorem dX11_digit_30 : decode cX11_digit 30 = .ok (.ireturn, 1) := by decide +kernel
theorem ggX11_puts0_X11_digit : GoodIn wsX11_puts0 wsX11_digit := gW_in gwX11_digit (fun _ h => List.mem_cons_of_mem _ (List.mem_append_right _ (h)))
set_option maxRecDepth 20000 in
theorem gX11_puts0_X11_digit : GoodIn wsX11_puts0 (va_wsS RX11 241 yX11_digit wsX11_digit) := goodIn_app (goodIn_of _ (by decide +kernel)) ggX11_puts0_X11_digit
theorem dX11_puts0_0 : decode cX11_puts0 0 = .ok (.iconst 0, 1) := by decide +kernel
theorem dX11_puts0_1 : decode cX11_puts0 1 = .ok (.istore_n 3, 1) := by decide +kernel
theorem dX11_puts0_2 : decode cX11_puts0 2 = .ok (.iconst 0, 1) := by decide +kernel
theorem dX11_puts0_3 : decode cX11_puts0 3 = .ok (.istore 4, 2) := by decide +kernel
theorem dX11_puts0_5 : decode cX11_puts0 5 = .ok (.iload 4, 2) := by decide +kernel
theorem dX11_puts0_7 : decode cX11_puts0 7 = .ok (.iconst 3, 1) := by decide +kernel
theorem dX11_puts0_8 : decode cX11_puts0 8 = .ok (.if_icmp .ge 38, 3) := by decide +kernel
theorem dX11_puts0_11 : decode cX11_puts0 11 = .ok (.iload_n 2, 1) := by decide +kernel
theorem dX11_puts0_12 : decode cX11_puts0 12 = .ok (.iload 4, 2) := by decide +kernel
theorem dX11_puts0_14 : decode cX11_puts0 14 = .ok (.ishr, 1) := by decide +kernel
theorem dX11_puts0_15 : decode cX11_puts0 15 = .ok (.iconst 1, 1) := by decide +kernel
theorem dX11_puts0_16 : decode cX11_puts0 16 = .ok (.iand, 1) := by decide +kernel
theorem dX11_puts0_17 : decode cX11_puts0 17 = .ok (.ifCond .ne 14, 3) := by decide +kernel
theorem dX11_puts0_20 : decode cX11_puts0 20 = .ok (.iload_n 0, 1) := by decide +kernel
theorem dX11_puts0_21 : decode cX11_puts0 21 = .ok (.iload 4, 2) := by decide +kernel
theorem dX11_puts0_23 : decode cX11_puts0 23 = .ok (.invokestatic 241, 3) := by decide +kernel
