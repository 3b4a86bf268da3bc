theorem dX4_move_12 : decode cX4_move 12 = .ok (.aload_n 0, 1) := by decide +kernel
theorem dX4_move_13 : decode cX4_move 13 = .ok (.getfield 9, 3) := by decide +kernel
theorem dX4_move_16 : decode cX4_move 16 = .ok (.iload_n 1, 1) := by decide +kernel
theorem dX4_move_17 : decode cX4_move 17 = .ok (.dup2, 1) := by decide +kernel
theorem dX4_move_18 : decode cX4_move 18 = .ok (.iaload, 1) := by decide +kernel
theorem dX4_move_19 : decode cX4_move 19 = .ok (.iload 4, 2) := by decide +kernel
theorem dX4_move_21 : decode cX4_move 21 = .ok (.isub, 1) := by decide +kernel
theorem dX4_move_22 : decode cX4_move 22 = .ok (.iastore, 1) := by decide +kernel
theorem dX4_move_23 : decode cX4_move 23 = .ok (.aload_n 0, 1) := by decide +kernel
theorem dX4_move_24 : decode cX4_move 24 = .ok (.getfield 9, 3) := by decide +kernel
theorem dX4_move_27 : decode cX4_move 27 = .ok (.iload_n 2, 1) := by decide +kernel
theorem dX4_move_28 : decode cX4_move 28 = .ok (.dup2, 1) := by decide +kernel
theorem dX4_move_29 : decode cX4_move 29 = .ok (.iaload, 1) := by decide +kernel
theorem dX4_move_30 : decode cX4_move 30 = .ok (.iload 4, 2) := by decide +kernel
theorem dX4_move_32 : decode cX4_move 32 = .ok (.iadd, 1) := by decide +kernel
theorem dX4_move_33 : decode cX4_move 33 = .ok (.iastore, 1) := by decide +kernel
theorem dX4_move_34 : decode cX4_move 34 = .ok (.return_, 1) := by decide +kernel
set_option maxRecDepth 20000 in
theorem ggX4_isPaid_X5_payIn : GoodIn wsX4_isPaid wsX5_payIn := goodIn_r _ [7, 8, 9, 10, 11, 6, 12, 25, 26, 27] (by decide +kernel) (by decide +kernel)
set_option maxRecDepth 20000 in
theorem gX4_isPaid_X5_payIn : GoodIn wsX4_isPaid (wsV RX4 84 RX5 yX5_payIn wsX5_payIn) := goodIn_app (goodIn_of _ (by decide +kernel)) ggX4_isPaid_X5_payIn
set_option maxRecDepth 20000 in
theorem ggX4_isPaid_X4_move : GoodIn wsX4_isPaid wsX4_move := goodIn_r _ [17, 2, 18, 19, 20, 21, 22, 23, 24] (by decide +kernel) (by decide +kernel)
set_option maxRecDepth 20000 in
theorem gX4_isPaid_X4_move : GoodIn wsX4_isPaid (wsV RX4 45 RX4 yX4_move wsX4_move) := goodIn_app (goodIn_of _ (by decide +kernel)) ggX4_isPaid_X4_move
theorem dX4_isPaid_0 : decode cX4_isPaid 0 = .ok (.aload_n 1, 1) := by decide +kernel
theorem dX4_isPaid_1 : decode cX4_isPaid 1 = .ok (.aload_n 0, 1) := by decide +kernel
theorem dX4_isPaid_2 : decode cX4_isPaid 2 = .ok (.getfield 18, 3) := by decide +kernel
theorem dX4_isPaid_5 : decode cX4_isPaid 5 = .ok (.invokevirtual 84, 3) := by decide +kernel
theorem dX4_isPaid_8 : decode cX4_isPaid 8 = .ok (.istore_n 2, 1) := by decide +kernel
theorem dX4_isPaid_9 : decode cX4_isPaid 9 = .ok (.aload_n 0, 1) := by decide +kernel
theorem dX4_isPaid_10 : decode cX4_isPaid 10 = .ok (.getfield 9, 3) := by decide +kernel
theorem dX4_isPaid_13 : decode cX4_isPaid 13 = .ok (.iconst 0, 1) := by decide +kernel
theorem dX4_isPaid_14 : decode cX4_isPaid 14 = .ok (.iaload, 1) := by decide +kernel
theorem dX4_isPaid_15 : decode cX4_isPaid 15 = .ok (.iload_n 2, 1) := by decide +kernel
theorem dX4_isPaid_16 : decode cX4_isPaid 16 = .ok (.if_icmp .ge 24, 3) := by decide +kernel
theorem dX4_isPaid_19 : decode cX4_isPaid 19 = .ok (.aload_n 0, 1) := by decide +kernel
theorem dX4_isPaid_20 : decode cX4_isPaid 20 = .ok (.getfield 9, 3) := by decide +kernel
theorem dX4_isPaid_23 : decode cX4_isPaid 23 = .ok (.bipush 8, 2) := by decide +kernel
theorem dX4_isPaid_25 : decode cX4_isPaid 25 = .ok (.dup2, 1) := by decide +kernel
theorem dX4_isPaid_26 : decode cX4_isPaid 26 = .ok (.iaload, 1) := by decide +kernel
theorem dX4_isPaid_27 : decode cX4_isPaid 27 = .ok (.iconst 1, 1) := by decide +kernel
theorem dX4_isPaid_28 : decode cX4_isPaid 28 = .ok (.iadd, 1) := by decide +kernel
theorem dX4_isPaid_29 : decode cX4_isPaid 29 = .ok (.iastore, 1) := by decide +kernel
theorem dX4_isPaid_30 : decode cX4_isPaid 30 = .ok (.aload_n 0, 1) := by decide +kernel
theorem dX4_isPaid_31 : decode cX4_isPaid 31 = .ok (.getfield 9, 3) := by decide +kernel
theorem dX4_isPaid_34 : decode cX4_isPaid 34 = .ok (.bipush 10, 2) := by decide +kernel
theorem dX4_isPaid_36 : decode cX4_isPaid 36 = .ok (.iconst (-1), 1) := by decide +kernel
theorem dX4_isPaid_37 : decode cX4_isPaid 37 = .ok (.iastore, 1) := by decide +kernel
theorem dX4_isPaid_38 : decode cX4_isPaid 38 = .ok (.iconst 0, 1) := by decide +kernel
theorem dX4_isPaid_39 : decode cX4_isPaid 39 = .ok (.ireturn, 1) := by decide +kernel
theorem dX4_isPaid_40 : decode cX4_isPaid 40 = .ok (.aload_n 0, 1) := by decide +kernel
theorem dX4_isPaid_41 : decode cX4_isPaid 41 = .ok (.iconst 0, 1) := by decide +kernel
theorem dX4_isPaid_42 : decode cX4_isPaid 42 = .ok (.iconst 1, 1) := by decide +kernel
theorem dX4_isPaid_43 : decode cX4_isPaid 43 = .ok (.iload_n 2, 1) := by decide +kernel
theorem dX4_isPaid_44 : decode cX4_isPaid 44 = .ok (.invokevirtual 45, 3) := by decide +kernel
theorem dX4_isPaid_47 : decode cX4_isPaid 47 = .ok (.iconst 1, 1) := by decide +kernel
theorem dX4_isPaid_48 : decode cX4_isPaid 48 = .ok (.ireturn, 1) := by decide +kernel
set_option maxRecDepth 20000 in
theorem ggX4_shoot_X5_wallDue : GoodIn wsX4_shoot wsX5_wallDue := goodIn_r _ [10, 11, 12, 13, 14, 46, 47, 48] (by decide +kernel) (by decide +kernel)
set_option maxRecDepth 20000 in
theorem gX4_shoot_X5_wallDue : GoodIn wsX4_shoot (wsV RX4 87 RX5 yX5_wallDue wsX5_wallDue) := goodIn_app (goodIn_of _ (by decide +kernel)) ggX4_shoot_X5_wallDue
set_option maxRecDepth 20000 in
theorem ggX4_shoot_X4_weakest : GoodIn wsX4_shoot wsX4_weakest := goodIn_r _ [19, 2, 38, 39, 40] (by decide +kernel) (by decide +kernel)
set_option maxRecDepth 20000 in
theorem gX4_shoot_X4_weakest : GoodIn wsX4_shoot (wsV RX4 90 RX4 yX4_weakest wsX4_weakest) := goodIn_app (goodIn_of _ (by decide +kernel)) ggX4_shoot_X4_weakest
set_option maxRecDepth 20000 in
theorem ggX4_shoot_X4_breach : GoodIn wsX4_shoot wsX4_breach := goodIn_r _ [23, 2, 24, 25, 4, 26, 27, 28, 18, 29, 30, 31, 32, 33, 34, 35, 36, 37, 38, 39, 40, 41, 42, 43, 44, 45, 46, 47, 48] (by decide +kernel) (by decide +kernel)
set_option maxRecDepth 20000 in
theorem gX4_shoot_X4_breach : GoodIn wsX4_shoot (wsV RX4 93 RX4 yX4_breach wsX4_breach) := goodIn_app (goodIn_of _ (by decide +kernel)) ggX4_shoot_X4_breach
theorem dX4_shoot_0 : decode cX4_shoot 0 = .ok (.aload_n 2, 1) := by decide +kernel
theorem dX4_shoot_1 : decode cX4_shoot 1 = .ok (.aload_n 0, 1) := by decide +kernel
theorem dX4_shoot_2 : decode cX4_shoot 2 = .ok (.getfield 18, 3) := by decide +kernel
theorem dX4_shoot_5 : decode cX4_shoot 5 = .ok (.aload_n 0, 1) := by decide +kernel
theorem dX4_shoot_6 : decode cX4_shoot 6 = .ok (.getfield 9, 3) := by decide +kernel
theorem dX4_shoot_9 : decode cX4_shoot 9 = .ok (.bipush 11, 2) := by decide +kernel
theorem dX4_shoot_11 : decode cX4_shoot 11 = .ok (.iaload, 1) := by decide +kernel
theorem dX4_shoot_12 : decode cX4_shoot 12 = .ok (.isub, 1) := by decide +kernel
theorem dX4_shoot_13 : decode cX4_shoot 13 = .ok (.aload_n 1, 1) := by decide +kernel
theorem dX4_shoot_14 : decode cX4_shoot 14 = .ok (.getfield 33, 3) := by decide +kernel
theorem dX4_shoot_17 : decode cX4_shoot 17 = .ok (.invokevirtual 87, 3) := by decide +kernel
theorem dX4_shoot_20 : decode cX4_shoot 20 = .ok (.istore_n 3, 1) := by decide +kernel
theorem dX4_shoot_21 : decode cX4_shoot 21 = .ok (.iload_n 3, 1) := by decide +kernel
theorem dX4_shoot_22 : decode cX4_shoot 22 = .ok (.iconst (-1), 1) := by decide +kernel
theorem dX4_shoot_23 : decode cX4_shoot 23 = .ok (.if_icmp .ne 7, 3) := by decide +kernel
theorem dX4_shoot_26 : decode cX4_shoot 26 = .ok (.iconst 0, 1) := by decide +kernel
theorem dX4_shoot_27 : decode cX4_shoot 27 = .ok (.goto 12, 3) := by decide +kernel
theorem dX4_shoot_30 : decode cX4_shoot 30 = .ok (.aload_n 0, 1) := by decide +kernel
theorem dX4_shoot_31 : decode cX4_shoot 31 = .ok (.getfield 9, 3) := by decide +kernel
theorem dX4_shoot_34 : decode cX4_shoot 34 = .ok (.bipush 18, 2) := by decide +kernel
theorem dX4_shoot_36 : decode cX4_shoot 36 = .ok (.iload_n 3, 1) := by decide +kernel
theorem dX4_shoot_37 : decode cX4_shoot 37 = .ok (.iadd, 1) := by decide +kernel
theorem dX4_shoot_38 : decode cX4_shoot 38 = .ok (.iaload, 1) := by decide +kernel
theorem dX4_shoot_39 : decode cX4_shoot 39 = .ok (.istore 4, 2) := by decide +kernel
theorem dX4_shoot_41 : decode cX4_shoot 41 = .ok (.aload_n 1, 1) := by decide +kernel
theorem dX4_shoot_42 : decode cX4_shoot 42 = .ok (.getfield 33, 3) := by decide +kernel
theorem dX4_shoot_45 : decode cX4_shoot 45 = .ok (.ifCond .le 12, 3) := by decide +kernel
theorem dX4_shoot_48 : decode cX4_shoot 48 = .ok (.aload_n 2, 1) := by decide +kernel
theorem dX4_shoot_49 : decode cX4_shoot 49 = .ok (.getfield 57, 3) := by decide +kernel
theorem dX4_shoot_52 : decode cX4_shoot 52 = .ok (.iconst 3, 1) := by decide +kernel
theorem dX4_shoot_53 : decode cX4_shoot 53 = .ok (.iaload, 1) := by decide +kernel
theorem dX4_shoot_54 : decode cX4_shoot 54 = .ok (.goto 4, 3) := by decide +kernel
theorem dX4_shoot_57 : decode cX4_shoot 57 = .ok (.iconst 0, 1) := by decide +kernel
theorem dX4_shoot_58 : decode cX4_shoot 58 = .ok (.istore 5, 2) := by decide +kernel
theorem dX4_shoot_60 : decode cX4_shoot 60 = .ok (.aload_n 2, 1) := by decide +kernel
theorem dX4_shoot_61 : decode cX4_shoot 61 = .ok (.getfield 57, 3) := by decide +kernel
theorem dX4_shoot_64 : decode cX4_shoot 64 = .ok (.iconst 2, 1) := by decide +kernel
theorem dX4_shoot_65 : decode cX4_shoot 65 = .ok (.iaload, 1) := by decide +kernel
theorem dX4_shoot_66 : decode cX4_shoot 66 = .ok (.iconst 4, 1) := by decide +kernel
theorem dX4_shoot_67 : decode cX4_shoot 67 = .ok (.if_icmp .gt 7, 3) := by decide +kernel
theorem dX4_shoot_70 : decode cX4_shoot 70 = .ok (.iconst 1, 1) := by decide +kernel
theorem dX4_shoot_71 : decode cX4_shoot 71 = .ok (.goto 4, 3) := by decide +kernel
theorem dX4_shoot_74 : decode cX4_shoot 74 = .ok (.iconst 0, 1) := by decide +kernel
theorem dX4_shoot_75 : decode cX4_shoot 75 = .ok (.istore 6, 2) := by decide +kernel
theorem dX4_shoot_77 : decode cX4_shoot 77 = .ok (.iconst (-1), 1) := by decide +kernel
theorem dX4_shoot_78 : decode cX4_shoot 78 = .ok (.istore 7, 2) := by decide +kernel
theorem dX4_shoot_80 : decode cX4_shoot 80 = .ok (.iconst 1, 1) := by decide +kernel
theorem dX4_shoot_81 : decode cX4_shoot 81 = .ok (.istore 8, 2) := by decide +kernel
theorem dX4_shoot_83 : decode cX4_shoot 83 = .ok (.iload 8, 2) := by decide +kernel
theorem dX4_shoot_85 : decode cX4_shoot 85 = .ok (.iload 5, 2) := by decide +kernel
theorem dX4_shoot_87 : decode cX4_shoot 87 = .ok (.if_icmp .gt 110, 3) := by decide +kernel
theorem dX4_shoot_90 : decode cX4_shoot 90 = .ok (.iload 7, 2) := by decide +kernel
theorem dX4_shoot_92 : decode cX4_shoot 92 = .ok (.iconst (-1), 1) := by decide +kernel
theorem dX4_shoot_93 : decode cX4_shoot 93 = .ok (.if_icmp .ne 22, 3) := by decide +kernel
theorem dX4_shoot_96 : decode cX4_shoot 96 = .ok (.iload_n 3, 1) := by decide +kernel
theorem dX4_shoot_97 : decode cX4_shoot 97 = .ok (.iconst (-1), 1) := by decide +kernel
theorem dX4_shoot_98 : decode cX4_shoot 98 = .ok (.if_icmp .ne 14, 3) := by decide +kernel
theorem dX4_shoot_101 : decode cX4_shoot 101 = .ok (.aload_n 0, 1) := by decide +kernel
theorem dX4_shoot_102 : decode cX4_shoot 102 = .ok (.aload_n 1, 1) := by decide +kernel
theorem dX4_shoot_103 : decode cX4_shoot 103 = .ok (.getfield 33, 3) := by decide +kernel
theorem dX4_shoot_106 : decode cX4_shoot 106 = .ok (.invokevirtual 90, 3) := by decide +kernel
theorem dX4_shoot_109 : decode cX4_shoot 109 = .ok (.goto 4, 3) := by decide +kernel
theorem dX4_shoot_112 : decode cX4_shoot 112 = .ok (.iload_n 3, 1) := by decide +kernel
theorem dX4_shoot_113 : decode cX4_shoot 113 = .ok (.istore 7, 2) := by decide +kernel
theorem dX4_shoot_115 : decode cX4_shoot 115 = .ok (.aload_n 0, 1) := by decide +kernel
theorem dX4_shoot_116 : decode cX4_shoot 116 = .ok (.getfield 15, 3) := by decide +kernel
theorem dX4_shoot_119 : decode cX4_shoot 119 = .ok (.iload 7, 2) := by decide +kernel
theorem dX4_shoot_121 : decode cX4_shoot 121 = .ok (.dup2, 1) := by decide +kernel
theorem dX4_shoot_122 : decode cX4_shoot 122 = .ok (.iaload, 1) := by decide +kernel
theorem dX4_shoot_123 : decode cX4_shoot 123 = .ok (.iconst 1, 1) := by decide +kernel
theorem dX4_shoot_124 : decode cX4_shoot 124 = .ok (.iadd, 1) := by decide +kernel
theorem dX4_shoot_125 : decode cX4_shoot 125 = .ok (.iastore, 1) := by decide +kernel
theorem dX4_shoot_126 : decode cX4_shoot 126 = .ok (.aload_n 0, 1) := by decide +kernel
theorem dX4_shoot_127 : decode cX4_shoot 127 = .ok (.getfield 9, 3) := by decide +kernel
theorem dX4_shoot_130 : decode cX4_shoot 130 = .ok (.bipush 9, 2) := by decide +kernel
theorem dX4_shoot_132 : decode cX4_shoot 132 = .ok (.dup2, 1) := by decide +kernel
theorem dX4_shoot_133 : decode cX4_shoot 133 = .ok (.iaload, 1) := by decide +kernel
theorem dX4_shoot_134 : decode cX4_shoot 134 = .ok (.iconst 1, 1) := by decide +kernel
theorem dX4_shoot_135 : decode cX4_shoot 135 = .ok (.iadd, 1) := by decide +kernel
theorem dX4_shoot_136 : decode cX4_shoot 136 = .ok (.iastore, 1) := by decide +kernel
theorem dX4_shoot_137 : decode cX4_shoot 137 = .ok (.aload_n 0, 1) := by decide +kernel
theorem dX4_shoot_138 : decode cX4_shoot 138 = .ok (.getfield 9, 3) := by decide +kernel
theorem dX4_shoot_141 : decode cX4_shoot 141 = .ok (.bipush 12, 2) := by decide +kernel
theorem dX4_shoot_143 : decode cX4_shoot 143 = .ok (.iload 7, 2) := by decide +kernel
theorem dX4_shoot_145 : decode cX4_shoot 145 = .ok (.iadd, 1) := by decide +kernel
theorem dX4_shoot_146 : decode cX4_shoot 146 = .ok (.dup2, 1) := by decide +kernel
theorem dX4_shoot_147 : decode cX4_shoot 147 = .ok (.iaload, 1) := by decide +kernel
theorem dX4_shoot_148 : decode cX4_shoot 148 = .ok (.iload 6, 2) := by decide +kernel
theorem dX4_shoot_150 : decode cX4_shoot 150 = .ok (.ifCond .eq 14, 3) := by decide +kernel
theorem dX4_shoot_153 : decode cX4_shoot 153 = .ok (.iload 8, 2) := by decide +kernel
theorem dX4_shoot_155 : decode cX4_shoot 155 = .ok (.iconst 2, 1) := by decide +kernel
theorem dX4_shoot_156 : decode cX4_shoot 156 = .ok (.irem, 1) := by decide +kernel
theorem dX4_shoot_157 : decode cX4_shoot 157 = .ok (.ifCond .ne 7, 3) := by decide +kernel
theorem dX4_shoot_160 : decode cX4_shoot 160 = .ok (.iconst 2, 1) := by decide +kernel
theorem dX4_shoot_161 : decode cX4_shoot 161 = .ok (.goto 4, 3) := by decide +kernel
theorem dX4_shoot_164 : decode cX4_shoot 164 = .ok (.iconst 1, 1) := by decide +kernel
theorem dX4_shoot_165 : decode cX4_shoot 165 = .ok (.isub, 1) := by decide +kernel
theorem dX4_shoot_166 : decode cX4_shoot 166 = .ok (.iastore, 1) := by decide +kernel
theorem dX4_shoot_167 : decode cX4_shoot 167 = .ok (.aload_n 0, 1) := by decide +kernel
theorem dX4_shoot_168 : decode cX4_shoot 168 = .ok (.getfield 9, 3) := by decide +kernel
theorem dX4_shoot_171 : decode cX4_shoot 171 = .ok (.bipush 12, 2) := by decide +kernel
theorem dX4_shoot_173 : decode cX4_shoot 173 = .ok (.iload 7, 2) := by decide +kernel
theorem dX4_shoot_175 : decode cX4_shoot 175 = .ok (.iadd, 1) := by decide +kernel
theorem dX4_shoot_176 : decode cX4_shoot 176 = .ok (.iaload, 1) := by decide +kernel
theorem dX4_shoot_177 : decode cX4_shoot 177 = .ok (.ifCond .gt 14, 3) := by decide +kernel
theorem dX4_shoot_180 : decode cX4_shoot 180 = .ok (.aload_n 0, 1) := by decide +kernel
theorem dX4_shoot_181 : decode cX4_shoot 181 = .ok (.aload_n 1, 1) := by decide +kernel
theorem dX4_shoot_182 : decode cX4_shoot 182 = .ok (.aload_n 2, 1) := by decide +kernel
theorem dX4_shoot_183 : decode cX4_shoot 183 = .ok (.iload 7, 2) := by decide +kernel
theorem dX4_shoot_185 : decode cX4_shoot 185 = .ok (.invokevirtual 93, 3) := by decide +kernel
theorem dX4_shoot_188 : decode cX4_shoot 188 = .ok (.iconst (-1), 1) := by decide +kernel
theorem dX4_shoot_189 : decode cX4_shoot 189 = .ok (.istore 7, 2) := by decide +kernel
theorem dX4_shoot_191 : decode cX4_shoot 191 = .ok (.iinc 8 1, 3) := by decide +kernel
theorem dX4_shoot_194 : decode cX4_shoot 194 = .ok (.goto (-111), 3) := by decide +kernel
theorem dX4_shoot_197 : decode cX4_shoot 197 = .ok (.iload_n 3, 1) := by decide +kernel
theorem dX4_shoot_198 : decode cX4_shoot 198 = .ok (.iconst (-1), 1) := by decide +kernel
theorem dX4_shoot_199 : decode cX4_shoot 199 = .ok (.if_icmp .eq 28, 3) := by decide +kernel
theorem dX4_shoot_202 : decode cX4_shoot 202 = .ok (.aload_n 0, 1) := by decide +kernel
theorem dX4_shoot_203 : decode cX4_shoot 203 = .ok (.getfield 9, 3) := by decide +kernel
theorem dX4_shoot_206 : decode cX4_shoot 206 = .ok (.bipush 18, 2) := by decide +kernel
theorem dX4_shoot_208 : decode cX4_shoot 208 = .ok (.iload_n 3, 1) := by decide +kernel
theorem dX4_shoot_209 : decode cX4_shoot 209 = .ok (.iadd, 1) := by decide +kernel
theorem dX4_shoot_210 : decode cX4_shoot 210 = .ok (.iaload, 1) := by decide +kernel
theorem dX4_shoot_211 : decode cX4_shoot 211 = .ok (.iload 4, 2) := by decide +kernel
theorem dX4_shoot_213 : decode cX4_shoot 213 = .ok (.if_icmp .ne 14, 3) := by decide +kernel
theorem dX4_shoot_216 : decode cX4_shoot 216 = .ok (.aload_n 0, 1) := by decide +kernel
theorem dX4_shoot_217 : decode cX4_shoot 217 = .ok (.getfield 9, 3) := by decide +kernel
theorem dX4_shoot_220 : decode cX4_shoot 220 = .ok (.bipush 7, 2) := by decide +kernel
theorem dX4_shoot_222 : decode cX4_shoot 222 = .ok (.dup2, 1) := by decide +kernel
theorem dX4_shoot_223 : decode cX4_shoot 223 = .ok (.iaload, 1) := by decide +kernel
theorem dX4_shoot_224 : decode cX4_shoot 224 = .ok (.iconst 1, 1) := by decide +kernel
theorem dX4_shoot_225 : decode cX4_shoot 225 = .ok (.iadd, 1) := by decide +kernel
theorem dX4_shoot_226 : decode cX4_shoot 226 = .ok (.iastore, 1) := by decide +kernel
theorem dX4_shoot_227 : decode cX4_shoot 227 = .ok (.return_, 1) := by decide +kernel
theorem dX4_weakest_0 : decode cX4_weakest 0 = .ok (.iconst 0, 1) := by decide +kernel
theorem dX4_weakest_1 : decode cX4_weakest 1 = .ok (.istore_n 2, 1) := by decide +kernel
theorem dX4_weakest_2 : decode cX4_weakest 2 = .ok (.iconst 1, 1) := by decide +kernel
theorem dX4_weakest_3 : decode cX4_weakest 3 = .ok (.istore_n 3, 1) := by decide +kernel
theorem dX4_weakest_4 : decode cX4_weakest 4 = .ok (.iload_n 3, 1) := by decide +kernel
theorem dX4_weakest_5 : decode cX4_weakest 5 = .ok (.iload_n 1, 1) := by decide +kernel
theorem dX4_weakest_6 : decode cX4_weakest 6 = .ok (.if_icmp .ge 32, 3) := by decide +kernel
theorem dX4_weakest_9 : decode cX4_weakest 9 = .ok (.aload_n 0, 1) := by decide +kernel
theorem dX4_weakest_10 : decode cX4_weakest 10 = .ok (.getfield 9, 3) := by decide +kernel
theorem dX4_weakest_13 : decode cX4_weakest 13 = .ok (.bipush 12, 2) := by decide +kernel
theorem dX4_weakest_15 : decode cX4_weakest 15 = .ok (.iload_n 3, 1) := by decide +kernel
theorem dX4_weakest_16 : decode cX4_weakest 16 = .ok (.iadd, 1) := by decide +kernel
theorem dX4_weakest_17 : decode cX4_weakest 17 = .ok (.iaload, 1) := by decide +kernel
theorem dX4_weakest_18 : decode cX4_weakest 18 = .ok (.aload_n 0, 1) := by decide +kernel
theorem dX4_weakest_19 : decode cX4_weakest 19 = .ok (.getfield 9, 3) := by decide +kernel
theorem dX4_weakest_22 : decode cX4_weakest 22 = .ok (.bipush 12, 2) := by decide +kernel
theorem dX4_weakest_24 : decode cX4_weakest 24 = .ok (.iload_n 2, 1) := by decide +kernel
theorem dX4_weakest_25 : decode cX4_weakest 25 = .ok (.iadd, 1) := by decide +kernel
theorem dX4_weakest_26 : decode cX4_weakest 26 = .ok (.iaload, 1) := by decide +kernel
theorem dX4_weakest_27 : decode cX4_weakest 27 = .ok (.if_icmp .ge 5, 3) := by decide +kernel
theorem dX4_weakest_30 : decode cX4_weakest 30 = .ok (.iload_n 3, 1) := by decide +kernel
theorem dX4_weakest_31 : decode cX4_weakest 31 = .ok (.istore_n 2, 1) := by decide +kernel
theorem dX4_weakest_32 : decode cX4_weakest 32 = .ok (.iinc 3 1, 3) := by decide +kernel
theorem dX4_weakest_35 : decode cX4_weakest 35 = .ok (.goto (-31), 3) := by decide +kernel
theorem dX4_weakest_38 : decode cX4_weakest 38 = .ok (.iload_n 2, 1) := by decide +kernel
theorem dX4_weakest_39 : decode cX4_weakest 39 = .ok (.ireturn, 1) := by decide +kernel
set_option maxRecDepth 20000 in
theorem ggX4_breach_X4_frighten : GoodIn wsX4_breach wsX4_frighten := goodIn_r _ [9, 1, 10, 11, 12, 13, 18, 19, 20] (by decide +kernel) (by decide +kernel)
set_option maxRecDepth 20000 in
theorem gX4_breach_X4_frighten : GoodIn wsX4_breach (wsV RX4 64 RX4 yX4_frighten wsX4_frighten) := goodIn_app (goodIn_of _ (by decide +kernel)) ggX4_breach_X4_frighten
set_option maxRecDepth 20000 in
theorem ggX4_breach_X4_move : GoodIn wsX4_breach wsX4_move := goodIn_r _ [17, 1, 10, 11, 12, 13, 18, 19, 20] (by decide +kernel) (by decide +kernel)
set_option maxRecDepth 20000 in
theorem gX4_breach_X4_move : GoodIn wsX4_breach (wsV RX4 45 RX4 yX4_move wsX4_move) := goodIn_app (goodIn_of _ (by decide +kernel)) ggX4_breach_X4_move
theorem dX4_breach_0 : decode cX4_breach 0 = .ok (.aload_n 0, 1) := by decide +kernel
theorem dX4_breach_1 : decode cX4_breach 1 = .ok (.getfield 9, 3) := by decide +kernel
theorem dX4_breach_4 : decode cX4_breach 4 = .ok (.bipush 6, 2) := by decide +kernel
theorem dX4_breach_6 : decode cX4_breach 6 = .ok (.dup2, 1) := by decide +kernel
theorem dX4_breach_7 : decode cX4_breach 7 = .ok (.iaload, 1) := by decide +kernel
theorem dX4_breach_8 : decode cX4_breach 8 = .ok (.iconst 1, 1) := by decide +kernel
theorem dX4_breach_9 : decode cX4_breach 9 = .ok (.iadd, 1) := by decide +kernel
theorem dX4_breach_10 : decode cX4_breach 10 = .ok (.iastore, 1) := by decide +kernel
theorem dX4_breach_11 : decode cX4_breach 11 = .ok (.aload_n 0, 1) := by decide +kernel
theorem dX4_breach_12 : decode cX4_breach 12 = .ok (.getfield 9, 3) := by decide +kernel
theorem dX4_breach_15 : decode cX4_breach 15 = .ok (.bipush 18, 2) := by decide +kernel
theorem dX4_breach_17 : decode cX4_breach 17 = .ok (.iload_n 3, 1) := by decide +kernel
theorem dX4_breach_18 : decode cX4_breach 18 = .ok (.iadd, 1) := by decide +kernel
theorem dX4_breach_19 : decode cX4_breach 19 = .ok (.dup2, 1) := by decide +kernel
theorem dX4_breach_20 : decode cX4_breach 20 = .ok (.iaload, 1) := by decide +kernel
theorem dX4_breach_21 : decode cX4_breach 21 = .ok (.iconst 1, 1) := by decide +kernel
theorem dX4_breach_22 : decode cX4_breach 22 = .ok (.iadd, 1) := by decide +kernel
theorem dX4_breach_23 : decode cX4_breach 23 = .ok (.iastore, 1) := by decide +kernel
theorem dX4_breach_24 : decode cX4_breach 24 = .ok (.aload_n 0, 1) := by decide +kernel
theorem dX4_breach_25 : decode cX4_breach 25 = .ok (.getfield 9, 3) := by decide +kernel
theorem dX4_breach_28 : decode cX4_breach 28 = .ok (.bipush 12, 2) := by decide +kernel
theorem dX4_breach_30 : decode cX4_breach 30 = .ok (.iload_n 3, 1) := by decide +kernel
theorem dX4_breach_31 : decode cX4_breach 31 = .ok (.iadd, 1) := by decide +kernel
theorem dX4_breach_32 : decode cX4_breach 32 = .ok (.aload_n 1, 1) := by decide +kernel
theorem dX4_breach_33 : decode cX4_breach 33 = .ok (.getfield 36, 3) := by decide +kernel
theorem dX4_breach_36 : decode cX4_breach 36 = .ok (.iload_n 3, 1) := by decide +kernel
theorem dX4_breach_37 : decode cX4_breach 37 = .ok (.iaload, 1) := by decide +kernel
theorem dX4_breach_38 : decode cX4_breach 38 = .ok (.iastore, 1) := by decide +kernel
theorem dX4_breach_39 : decode cX4_breach 39 = .ok (.aload_n 0, 1) := by decide +kernel
theorem dX4_breach_40 : decode cX4_breach 40 = .ok (.aload_n 1, 1) := by decide +kernel
theorem dX4_breach_41 : decode cX4_breach 41 = .ok (.getfield 28, 3) := by decide +kernel
theorem dX4_breach_44 : decode cX4_breach 44 = .ok (.bipush 13, 2) := by decide +kernel
theorem dX4_breach_46 : decode cX4_breach 46 = .ok (.iaload, 1) := by decide +kernel
theorem dX4_breach_47 : decode cX4_breach 47 = .ok (.invokevirtual 64, 3) := by decide +kernel
theorem dX4_breach_50 : decode cX4_breach 50 = .ok (.aload_n 0, 1) := by decide +kernel
theorem dX4_breach_51 : decode cX4_breach 51 = .ok (.iconst 0, 1) := by decide +kernel
theorem dX4_breach_52 : decode cX4_breach 52 = .ok (.iconst 1, 1) := by decide +kernel
theorem dX4_breach_53 : decode cX4_breach 53 = .ok (.aload_n 2, 1) := by decide +kernel
theorem dX4_breach_54 : decode cX4_breach 54 = .ok (.getfield 57, 3) := by decide +kernel
theorem dX4_breach_57 : decode cX4_breach 57 = .ok (.iconst 4, 1) := by decide +kernel
theorem dX4_breach_58 : decode cX4_breach 58 = .ok (.iaload, 1) := by decide +kernel
theorem dX4_breach_59 : decode cX4_breach 59 = .ok (.invokevirtual 45, 3) := by decide +kernel
theorem dX4_breach_62 : decode cX4_breach 62 = .ok (.return_, 1) := by decide +kernel
theorem dX4_frighten_0 : decode cX4_frighten 0 = .ok (.aload_n 0, 1) := by decide +kernel
theorem dX4_frighten_1 : decode cX4_frighten 1 = .ok (.getfield 9, 3) := by decide +kernel
theorem dX4_frighten_4 : decode cX4_frighten 4 = .ok (.iconst 5, 1) := by decide +kernel
theorem dX4_frighten_5 : decode cX4_frighten 5 = .ok (.bipush 100, 2) := by decide +kernel
theorem dX4_frighten_7 : decode cX4_frighten 7 = .ok (.aload_n 0, 1) := by decide +kernel
theorem dX4_frighten_8 : decode cX4_frighten 8 = .ok (.getfield 9, 3) := by decide +kernel
theorem dX4_frighten_11 : decode cX4_frighten 11 = .ok (.iconst 5, 1) := by decide +kernel
theorem dX4_frighten_12 : decode cX4_frighten 12 = .ok (.iaload, 1) := by decide +kernel
theorem dX4_frighten_13 : decode cX4_frighten 13 = .ok (.iload_n 1, 1) := by decide +kernel
theorem dX4_frighten_14 : decode cX4_frighten 14 = .ok (.iadd, 1) := by decide +kernel
theorem dX4_frighten_15 : decode cX4_frighten 15 = .ok (.invokestatic 81, 3) := by decide +kernel
theorem dX4_frighten_18 : decode cX4_frighten 18 = .ok (.iastore, 1) := by decide +kernel
theorem dX4_frighten_19 : decode cX4_frighten 19 = .ok (.return_, 1) := by decide +kernel
set_option maxRecDepth 20000 in
theorem ggX4_mend_X4_move : GoodIn wsX4_mend wsX4_move := goodIn_r _ [14, 5, 6, 7, 8, 9, 20, 21, 22] (by decide +kernel) (by decide +kernel)
set_option maxRecDepth 20000 in
theorem gX4_mend_X4_move : GoodIn wsX4_mend (wsV RX4 45 RX4 yX4_move wsX4_move) := goodIn_app (goodIn_of _ (by decide +kernel)) ggX4_mend_X4_move
theorem dX4_mend_0 : decode cX4_mend 0 = .ok (.aload_n 1, 1) := by decide +kernel
theorem dX4_mend_1 : decode cX4_mend 1 = .ok (.getfield 28, 3) := by decide +kernel
theorem dX4_mend_4 : decode cX4_mend 4 = .ok (.bipush 18, 2) := by decide +kernel
theorem dX4_mend_6 : decode cX4_mend 6 = .ok (.iaload, 1) := by decide +kernel
theorem dX4_mend_7 : decode cX4_mend 7 = .ok (.istore_n 2, 1) := by decide +kernel
theorem dX4_mend_8 : decode cX4_mend 8 = .ok (.iconst 0, 1) := by decide +kernel
theorem dX4_mend_9 : decode cX4_mend 9 = .ok (.istore_n 3, 1) := by decide +kernel
theorem dX4_mend_10 : decode cX4_mend 10 = .ok (.iload_n 3, 1) := by decide +kernel
theorem dX4_mend_11 : decode cX4_mend 11 = .ok (.aload_n 1, 1) := by decide +kernel
theorem dX4_mend_12 : decode cX4_mend 12 = .ok (.getfield 33, 3) := by decide +kernel
theorem dX4_mend_15 : decode cX4_mend 15 = .ok (.if_icmp .ge 79, 3) := by decide +kernel
theorem dX4_mend_18 : decode cX4_mend 18 = .ok (.aload_n 1, 1) := by decide +kernel
theorem dX4_mend_19 : decode cX4_mend 19 = .ok (.getfield 97, 3) := by decide +kernel
theorem dX4_mend_22 : decode cX4_mend 22 = .ok (.iload_n 3, 1) := by decide +kernel
theorem dX4_mend_23 : decode cX4_mend 23 = .ok (.iaload, 1) := by decide +kernel
theorem dX4_mend_24 : decode cX4_mend 24 = .ok (.aload_n 1, 1) := by decide +kernel
theorem dX4_mend_25 : decode cX4_mend 25 = .ok (.getfield 36, 3) := by decide +kernel
theorem dX4_mend_28 : decode cX4_mend 28 = .ok (.iload_n 3, 1) := by decide +kernel
theorem dX4_mend_29 : decode cX4_mend 29 = .ok (.iaload, 1) := by decide +kernel
theorem dX4_mend_30 : decode cX4_mend 30 = .ok (.aload_n 0, 1) := by decide +kernel
theorem dX4_mend_31 : decode cX4_mend 31 = .ok (.getfield 9, 3) := by decide +kernel
theorem dX4_mend_34 : decode cX4_mend 34 = .ok (.bipush 12, 2) := by decide +kernel
theorem dX4_mend_36 : decode cX4_mend 36 = .ok (.iload_n 3, 1) := by decide +kernel
theorem dX4_mend_37 : decode cX4_mend 37 = .ok (.iadd, 1) := by decide +kernel
theorem dX4_mend_38 : decode cX4_mend 38 = .ok (.iaload, 1) := by decide +kernel
theorem dX4_mend_39 : decode cX4_mend 39 = .ok (.isub, 1) := by decide +kernel
theorem dX4_mend_40 : decode cX4_mend 40 = .ok (.invokestatic 81, 3) := by decide +kernel
theorem dX4_mend_43 : decode cX4_mend 43 = .ok (.istore 4, 2) := by decide +kernel
theorem dX4_mend_45 : decode cX4_mend 45 = .ok (.iload_n 2, 1) := by decide +kernel
theorem dX4_mend_46 : decode cX4_mend 46 = .ok (.ifCond .le 18, 3) := by decide +kernel
theorem dX4_mend_49 : decode cX4_mend 49 = .ok (.iload 4, 2) := by decide +kernel
theorem dX4_mend_51 : decode cX4_mend 51 = .ok (.aload_n 0, 1) := by decide +kernel
theorem dX4_mend_52 : decode cX4_mend 52 = .ok (.getfield 9, 3) := by decide +kernel
theorem dX4_mend_55 : decode cX4_mend 55 = .ok (.iconst 0, 1) := by decide +kernel
theorem dX4_mend_56 : decode cX4_mend 56 = .ok (.iaload, 1) := by decide +kernel
theorem dX4_mend_57 : decode cX4_mend 57 = .ok (.iload_n 2, 1) := by decide +kernel
theorem dX4_mend_58 : decode cX4_mend 58 = .ok (.idiv, 1) := by decide +kernel
theorem dX4_mend_59 : decode cX4_mend 59 = .ok (.invokestatic 81, 3) := by decide +kernel
theorem dX4_mend_62 : decode cX4_mend 62 = .ok (.istore 4, 2) := by decide +kernel
theorem dX4_mend_64 : decode cX4_mend 64 = .ok (.aload_n 0, 1) := by decide +kernel
theorem dX4_mend_65 : decode cX4_mend 65 = .ok (.getfield 9, 3) := by decide +kernel
theorem dX4_mend_68 : decode cX4_mend 68 = .ok (.bipush 12, 2) := by decide +kernel
theorem dX4_mend_70 : decode cX4_mend 70 = .ok (.iload_n 3, 1) := by decide +kernel
theorem dX4_mend_71 : decode cX4_mend 71 = .ok (.iadd, 1) := by decide +kernel
theorem dX4_mend_72 : decode cX4_mend 72 = .ok (.dup2, 1) := by decide +kernel
theorem dX4_mend_73 : decode cX4_mend 73 = .ok (.iaload, 1) := by decide +kernel
theorem dX4_mend_74 : decode cX4_mend 74 = .ok (.iload 4, 2) := by decide +kernel
theorem dX4_mend_76 : decode cX4_mend 76 = .ok (.iadd, 1) := by decide +kernel
theorem dX4_mend_77 : decode cX4_mend 77 = .ok (.iastore, 1) := by decide +kernel
theorem dX4_mend_78 : decode cX4_mend 78 = .ok (.aload_n 0, 1) := by decide +kernel
theorem dX4_mend_79 : decode cX4_mend 79 = .ok (.iconst 0, 1) := by decide +kernel
theorem dX4_mend_80 : decode cX4_mend 80 = .ok (.iconst 2, 1) := by decide +kernel
theorem dX4_mend_81 : decode cX4_mend 81 = .ok (.iload 4, 2) := by decide +kernel
theorem dX4_mend_83 : decode cX4_mend 83 = .ok (.iload_n 2, 1) := by decide +kernel
theorem dX4_mend_84 : decode cX4_mend 84 = .ok (.imul, 1) := by decide +kernel
theorem dX4_mend_85 : decode cX4_mend 85 = .ok (.invokevirtual 45, 3) := by decide +kernel
theorem dX4_mend_88 : decode cX4_mend 88 = .ok (.iinc 3 1, 3) := by decide +kernel
theorem dX4_mend_91 : decode cX4_mend 91 = .ok (.goto (-81), 3) := by decide +kernel
theorem dX4_mend_94 : decode cX4_mend 94 = .ok (.return_, 1) := by decide +kernel
theorem dX4_desert_0 : decode cX4_desert 0 = .ok (.iload_n 1, 1) := by decide +kernel
theorem dX4_desert_1 : decode cX4_desert 1 = .ok (.ifCond .le 7, 3) := by decide +kernel
theorem dX4_desert_4 : decode cX4_desert 4 = .ok (.iconst 3, 1) := by decide +kernel
theorem dX4_desert_5 : decode cX4_desert 5 = .ok (.goto 4, 3) := by decide +kernel
theorem dX4_desert_8 : decode cX4_desert 8 = .ok (.iconst 4, 1) := by decide +kernel
theorem dX4_desert_9 : decode cX4_desert 9 = .ok (.istore_n 2, 1) := by decide +kernel
theorem dX4_desert_10 : decode cX4_desert 10 = .ok (.iload_n 1, 1) := by decide +kernel
theorem dX4_desert_11 : decode cX4_desert 11 = .ok (.ifCond .le 7, 3) := by decide +kernel
theorem dX4_desert_14 : decode cX4_desert 14 = .ok (.iconst 4, 1) := by decide +kernel
theorem dX4_desert_15 : decode cX4_desert 15 = .ok (.goto 4, 3) := by decide +kernel
theorem dX4_desert_18 : decode cX4_desert 18 = .ok (.iconst 3, 1) := by decide +kernel
theorem dX4_desert_19 : decode cX4_desert 19 = .ok (.istore_n 3, 1) := by decide +kernel
theorem dX4_desert_20 : decode cX4_desert 20 = .ok (.aload_n 0, 1) := by decide +kernel
theorem dX4_desert_21 : decode cX4_desert 21 = .ok (.getfield 9, 3) := by decide +kernel
theorem dX4_desert_24 : decode cX4_desert 24 = .ok (.iload_n 2, 1) := by decide +kernel
theorem dX4_desert_25 : decode cX4_desert 25 = .ok (.iaload, 1) := by decide +kernel
theorem dX4_desert_26 : decode cX4_desert 26 = .ok (.iload_n 1, 1) := by decide +kernel
theorem dX4_desert_27 : decode cX4_desert 27 = .ok (.invokestatic 100, 3) := by decide +kernel
theorem dX4_desert_30 : decode cX4_desert 30 = .ok (.imul, 1) := by decide +kernel
theorem dX4_desert_31 : decode cX4_desert 31 = .ok (.bipush 100, 2) := by decide +kernel
theorem dX4_desert_33 : decode cX4_desert 33 = .ok (.idiv, 1) := by decide +kernel
theorem dX4_desert_34 : decode cX4_desert 34 = .ok (.istore 4, 2) := by decide +kernel
theorem dX4_desert_36 : decode cX4_desert 36 = .ok (.aload_n 0, 1) := by decide +kernel
theorem dX4_desert_37 : decode cX4_desert 37 = .ok (.getfield 9, 3) := by decide +kernel
theorem dX4_desert_40 : decode cX4_desert 40 = .ok (.iload_n 2, 1) := by decide +kernel
theorem dX4_desert_41 : decode cX4_desert 41 = .ok (.dup2, 1) := by decide +kernel
theorem dX4_desert_42 : decode cX4_desert 42 = .ok (.iaload, 1) := by decide +kernel
theorem dX4_desert_43 : decode cX4_desert 43 = .ok (.iload 4, 2) := by decide +kernel
theorem dX4_desert_45 : decode cX4_desert 45 = .ok (.isub, 1) := by decide +kernel
theorem dX4_desert_46 : decode cX4_desert 46 = .ok (.iastore, 1) := by decide +kernel
theorem dX4_desert_47 : decode cX4_desert 47 = .ok (.aload_n 0, 1) := by decide +kernel
theorem dX4_desert_48 : decode cX4_desert 48 = .ok (.getfield 9, 3) := by decide +kernel
theorem dX4_desert_51 : decode cX4_desert 51 = .ok (.iload_n 3, 1) := by decide +kernel
theorem dX4_desert_52 : decode cX4_desert 52 = .ok (.dup2, 1) := by decide +kernel
theorem dX4_desert_53 : decode cX4_desert 53 = .ok (.iaload, 1) := by decide +kernel
theorem dX4_desert_54 : decode cX4_desert 54 = .ok (.iload 4, 2) := by decide +kernel
theorem dX4_desert_56 : decode cX4_desert 56 = .ok (.iadd, 1) := by decide +kernel
theorem dX4_desert_57 : decode cX4_desert 57 = .ok (.iastore, 1) := by decide +kernel
theorem dX4_desert_58 : decode cX4_desert 58 = .ok (.return_, 1) := by decide +kernel
set_option maxRecDepth 20000 in
theorem ggX5_init_X9_init : GoodIn wsX5_init wsX9_init := goodIn_r _ [6, 7, 8, 9] (by decide +kernel) (by decide +kernel)
set_option maxRecDepth 20000 in
theorem gX5_init_X9_init_n3 : GoodIn wsX5_init (wsX9_init) := ggX5_init_X9_init
theorem dX5_init_0 : decode cX5_init 0 = .ok (.aload_n 0, 1) := by decide +kernel
theorem dX5_init_1 : decode cX5_init 1 = .ok (.invokespecial 3, 3) := by decide +kernel
theorem dX5_init_4 : decode cX5_init 4 = .ok (.aload_n 0, 1) := by decide +kernel
theorem dX5_init_5 : decode cX5_init 5 = .ok (.bipush 6, 2) := by decide +kernel
theorem dX5_init_7 : decode cX5_init 7 = .ok (.newarray .int, 2) := by decide +kernel
theorem dX5_init_9 : decode cX5_init 9 = .ok (.putfield 11, 3) := by decide +kernel
theorem dX5_init_12 : decode cX5_init 12 = .ok (.aload_n 0, 1) := by decide +kernel
theorem dX5_init_13 : decode cX5_init 13 = .ok (.bipush 36, 2) := by decide +kernel
theorem dX5_init_15 : decode cX5_init 15 = .ok (.newarray .int, 2) := by decide +kernel
theorem dX5_init_17 : decode cX5_init 17 = .ok (.putfield 15, 3) := by decide +kernel
theorem dX5_init_20 : decode cX5_init 20 = .ok (.return_, 1) := by decide +kernel
set_option maxRecDepth 20000 in
theorem ggX5_clear_J7_fill_53178 : GoodIn wsX5_clear wsJ7_fill_53178 := goodIn_r _ [7] (by decide +kernel) (by decide +kernel)
set_option maxRecDepth 20000 in
theorem gX5_clear_J7_fill_53178 : GoodIn wsX5_clear (va_wsS RX5 22 yJ7_fill_53178 wsJ7_fill_53178) := goodIn_app (goodIn_of _ (by decide +kernel)) ggX5_clear_J7_fill_53178
theorem dX5_clear_0 : decode cX5_clear 0 = .ok (.aload_n 0, 1) := by decide +kernel
theorem dX5_clear_1 : decode cX5_clear 1 = .ok (.iload_n 1, 1) := by decide +kernel
theorem dX5_clear_2 : decode cX5_clear 2 = .ok (.putfield 18, 3) := by decide +kernel
theorem dX5_clear_5 : decode cX5_clear 5 = .ok (.aload_n 0, 1) := by decide +kernel
theorem dX5_clear_6 : decode cX5_clear 6 = .ok (.getfield 11, 3) := by decide +kernel
theorem dX5_clear_9 : decode cX5_clear 9 = .ok (.iconst 0, 1) := by decide +kernel
theorem dX5_clear_10 : decode cX5_clear 10 = .ok (.iconst 0, 1) := by decide +kernel
theorem dX5_clear_11 : decode cX5_clear 11 = .ok (.iastore, 1) := by decide +kernel
theorem dX5_clear_12 : decode cX5_clear 12 = .ok (.aload_n 0, 1) := by decide +kernel
theorem dX5_clear_13 : decode cX5_clear 13 = .ok (.getfield 11, 3) := by decide +kernel
theorem dX5_clear_16 : decode cX5_clear 16 = .ok (.iconst 1, 1) := by decide +kernel
theorem dX5_clear_17 : decode cX5_clear 17 = .ok (.iconst (-1), 1) := by decide +kernel
theorem dX5_clear_18 : decode cX5_clear 18 = .ok (.iastore, 1) := by decide +kernel
theorem dX5_clear_19 : decode cX5_clear 19 = .ok (.aload_n 0, 1) := by decide +kernel
theorem dX5_clear_20 : decode cX5_clear 20 = .ok (.getfield 11, 3) := by decide +kernel
theorem dX5_clear_23 : decode cX5_clear 23 = .ok (.iconst 2, 1) := by decide +kernel
theorem dX5_clear_24 : decode cX5_clear 24 = .ok (.bipush 9, 2) := by decide +kernel
theorem dX5_clear_26 : decode cX5_clear 26 = .ok (.iastore, 1) := by decide +kernel
theorem dX5_clear_27 : decode cX5_clear 27 = .ok (.aload_n 0, 1) := by decide +kernel
theorem dX5_clear_28 : decode cX5_clear 28 = .ok (.getfield 11, 3) := by decide +kernel
theorem dX5_clear_31 : decode cX5_clear 31 = .ok (.iconst 3, 1) := by decide +kernel
theorem dX5_clear_32 : decode cX5_clear 32 = .ok (.iconst 0, 1) := by decide +kernel
theorem dX5_clear_33 : decode cX5_clear 33 = .ok (.iastore, 1) := by decide +kernel
theorem dX5_clear_34 : decode cX5_clear 34 = .ok (.aload_n 0, 1) := by decide +kernel
theorem dX5_clear_35 : decode cX5_clear 35 = .ok (.getfield 11, 3) := by decide +kernel
theorem dX5_clear_38 : decode cX5_clear 38 = .ok (.iconst 4, 1) := by decide +kernel
theorem dX5_clear_39 : decode cX5_clear 39 = .ok (.iconst 0, 1) := by decide +kernel
theorem dX5_clear_40 : decode cX5_clear 40 = .ok (.iastore, 1) := by decide +kernel
theorem dX5_clear_41 : decode cX5_clear 41 = .ok (.aload_n 0, 1) := by decide +kernel
theorem dX5_clear_42 : decode cX5_clear 42 = .ok (.getfield 11, 3) := by decide +kernel
theorem dX5_clear_45 : decode cX5_clear 45 = .ok (.iconst 5, 1) := by decide +kernel
theorem dX5_clear_46 : decode cX5_clear 46 = .ok (.bipush 36, 2) := by decide +kernel
theorem dX5_clear_48 : decode cX5_clear 48 = .ok (.iastore, 1) := by decide +kernel
theorem dX5_clear_49 : decode cX5_clear 49 = .ok (.aload_n 0, 1) := by decide +kernel
theorem dX5_clear_50 : decode cX5_clear 50 = .ok (.getfield 15, 3) := by decide +kernel
theorem dX5_clear_53 : decode cX5_clear 53 = .ok (.iconst (-1), 1) := by decide +kernel
theorem dX5_clear_54 : decode cX5_clear 54 = .ok (.invokestatic 22, 3) := by decide +kernel
theorem dX5_clear_57 : decode cX5_clear 57 = .ok (.return_, 1) := by decide +kernel
set_option maxRecDepth 20000 in
theorem ggX5_propose_X5_clear : GoodIn wsX5_propose wsX5_clear := goodIn_r _ [6, 7, 1, 8, 9, 10, 11, 12, 13, 14, 15] (by decide +kernel) (by decide +kernel)
set_option maxRecDepth 20000 in
theorem gX5_propose_X5_clear : GoodIn wsX5_propose (wsV RX5 28 RX5 yX5_clear wsX5_clear) := goodIn_app (goodIn_of _ (by decide +kernel)) ggX5_propose_X5_clear
theorem dX5_propose_0 : decode cX5_propose 0 = .ok (.aload_n 0, 1) := by decide +kernel
theorem dX5_propose_1 : decode cX5_propose 1 = .ok (.iconst 0, 1) := by decide +kernel
theorem dX5_propose_2 : decode cX5_propose 2 = .ok (.invokevirtual 28, 3) := by decide +kernel
theorem dX5_propose_5 : decode cX5_propose 5 = .ok (.aload_n 0, 1) := by decide +kernel
theorem dX5_propose_6 : decode cX5_propose 6 = .ok (.getfield 11, 3) := by decide +kernel
theorem dX5_propose_9 : decode cX5_propose 9 = .ok (.iconst 0, 1) := by decide +kernel
theorem dX5_propose_10 : decode cX5_propose 10 = .ok (.iload_n 1, 1) := by decide +kernel
theorem dX5_propose_11 : decode cX5_propose 11 = .ok (.iastore, 1) := by decide +kernel
theorem dX5_propose_12 : decode cX5_propose 12 = .ok (.aload_n 0, 1) := by decide +kernel
theorem dX5_propose_13 : decode cX5_propose 13 = .ok (.getfield 11, 3) := by decide +kernel
theorem dX5_propose_16 : decode cX5_propose 16 = .ok (.iconst 2, 1) := by decide +kernel
theorem dX5_propose_17 : decode cX5_propose 17 = .ok (.iload_n 2, 1) := by decide +kernel
theorem dX5_propose_18 : decode cX5_propose 18 = .ok (.iastore, 1) := by decide +kernel
theorem dX5_propose_19 : decode cX5_propose 19 = .ok (.aload_n 0, 1) := by decide +kernel
theorem dX5_propose_20 : decode cX5_propose 20 = .ok (.getfield 11, 3) := by decide +kernel
theorem dX5_propose_23 : decode cX5_propose 23 = .ok (.iconst 3, 1) := by decide +kernel
theorem dX5_propose_24 : decode cX5_propose 24 = .ok (.iload_n 3, 1) := by decide +kernel
theorem dX5_propose_25 : decode cX5_propose 25 = .ok (.iastore, 1) := by decide +kernel
theorem dX5_propose_26 : decode cX5_propose 26 = .ok (.aload_n 0, 1) := by decide +kernel
theorem dX5_propose_27 : decode cX5_propose 27 = .ok (.getfield 11, 3) := by decide +kernel
theorem dX5_propose_30 : decode cX5_propose 30 = .ok (.iconst 5, 1) := by decide +kernel
theorem dX5_propose_31 : decode cX5_propose 31 = .ok (.iload 4, 2) := by decide +kernel
theorem dX5_propose_33 : decode cX5_propose 33 = .ok (.iastore, 1) := by decide +kernel
theorem dX5_propose_34 : decode cX5_propose 34 = .ok (.return_, 1) := by decide +kernel
theorem dX5_words_0 : decode cX5_words 0 = .ok (.ldc 32, 2) := by decide +kernel
theorem dX5_words_2 : decode cX5_words 2 = .ok (.areturn, 1) := by decide +kernel
theorem dX5_mostParts_0 : decode cX5_mostParts 0 = .ok (.bipush 20, 2) := by decide +kernel
theorem dX5_mostParts_2 : decode cX5_mostParts 2 = .ok (.ireturn, 1) := by decide +kernel
theorem dX5_isFull_0 : decode cX5_isFull 0 = .ok (.iconst 0, 1) := by decide +kernel
theorem dX5_isFull_1 : decode cX5_isFull 1 = .ok (.ireturn, 1) := by decide +kernel
theorem dX5_numbers_0 : decode cX5_numbers 0 = .ok (.iload_n 1, 1) := by decide +kernel
theorem dX5_numbers_1 : decode cX5_numbers 1 = .ok (.bipush 6, 2) := by decide +kernel
theorem dX5_numbers_3 : decode cX5_numbers 3 = .ok (.if_icmp .ne 7, 3) := by decide +kernel
theorem dX5_numbers_6 : decode cX5_numbers 6 = .ok (.iconst 2, 1) := by decide +kernel
theorem dX5_numbers_7 : decode cX5_numbers 7 = .ok (.goto 4, 3) := by decide +kernel
theorem dX5_numbers_10 : decode cX5_numbers 10 = .ok (.iconst 1, 1) := by decide +kernel
theorem dX5_numbers_11 : decode cX5_numbers 11 = .ok (.ireturn, 1) := by decide +kernel
theorem dX5_low_0 : decode cX5_low 0 = .ok (.iload_n 1, 1) := by decide +kernel
theorem dX5_low_1 : decode cX5_low 1 = .ok (.iconst 5, 1) := by decide +kernel
theorem dX5_low_2 : decode cX5_low 2 = .ok (.if_icmp .ne 7, 3) := by decide +kernel
theorem dX5_low_5 : decode cX5_low 5 = .ok (.iconst 1, 1) := by decide +kernel
theorem dX5_low_6 : decode cX5_low 6 = .ok (.goto 4, 3) := by decide +kernel
theorem dX5_low_9 : decode cX5_low 9 = .ok (.iconst 0, 1) := by decide +kernel
theorem dX5_low_10 : decode cX5_low 10 = .ok (.ireturn, 1) := by decide +kernel
set_option maxRecDepth 20000 in
theorem ggX5_high_X10_within : GoodIn wsX5_high wsX10_within := goodIn_r _ [5] (by decide +kernel) (by decide +kernel)
set_option maxRecDepth 20000 in
theorem gX5_high_X10_within_n37 : GoodIn wsX5_high (wsX10_within) := ggX5_high_X10_within
theorem dX5_high_0 : decode cX5_high 0 = .ok (.iload_n 1, 1) := by decide +kernel
theorem dX5_high_1 : decode cX5_high 1 = .ok (.bipush 6, 2) := by decide +kernel
theorem dX5_high_3 : decode cX5_high 3 = .ok (.if_icmp .ne 19, 3) := by decide +kernel
theorem dX5_high_6 : decode cX5_high 6 = .ok (.iload_n 2, 1) := by decide +kernel
theorem dX5_high_7 : decode cX5_high 7 = .ok (.ifCond .ne 12, 3) := by decide +kernel
theorem dX5_high_10 : decode cX5_high 10 = .ok (.aload_n 0, 1) := by decide +kernel
theorem dX5_high_11 : decode cX5_high 11 = .ok (.getfield 18, 3) := by decide +kernel
theorem dX5_high_14 : decode cX5_high 14 = .ok (.iconst 1, 1) := by decide +kernel
theorem dX5_high_15 : decode cX5_high 15 = .ok (.isub, 1) := by decide +kernel
theorem dX5_high_16 : decode cX5_high 16 = .ok (.goto 5, 3) := by decide +kernel
theorem dX5_high_19 : decode cX5_high 19 = .ok (.bipush 35, 2) := by decide +kernel
theorem dX5_high_21 : decode cX5_high 21 = .ok (.ireturn, 1) := by decide +kernel
theorem dX5_high_22 : decode cX5_high 22 = .ok (.iload_n 1, 1) := by decide +kernel
theorem dX5_high_23 : decode cX5_high 23 = .ok (.iconst 0, 1) := by decide +kernel
theorem dX5_high_24 : decode cX5_high 24 = .ok (.getstatic 34, 3) := by decide +kernel
theorem dX5_high_27 : decode cX5_high 27 = .ok (.arraylength, 1) := by decide +kernel
theorem dX5_high_28 : decode cX5_high 28 = .ok (.iconst 1, 1) := by decide +kernel
theorem dX5_high_29 : decode cX5_high 29 = .ok (.isub, 1) := by decide +kernel
theorem dX5_high_30 : decode cX5_high 30 = .ok (.invokestatic 37, 3) := by decide +kernel
theorem dX5_high_33 : decode cX5_high 33 = .ok (.ifCond .eq 11, 3) := by decide +kernel
theorem dX5_high_36 : decode cX5_high 36 = .ok (.getstatic 34, 3) := by decide +kernel
theorem dX5_high_39 : decode cX5_high 39 = .ok (.iload_n 1, 1) := by decide +kernel
theorem dX5_high_40 : decode cX5_high 40 = .ok (.iaload, 1) := by decide +kernel
theorem dX5_high_41 : decode cX5_high 41 = .ok (.goto 4, 3) := by decide +kernel
theorem dX5_high_44 : decode cX5_high 44 = .ok (.iconst 0, 1) := by decide +kernel
theorem dX5_high_45 : decode cX5_high 45 = .ok (.ireturn, 1) := by decide +kernel
set_option maxRecDepth 20000 in
theorem ggX5_store_X10_within : GoodIn wsX5_store wsX10_within := goodIn_r _ [5] (by decide +kernel) (by decide +kernel)
set_option maxRecDepth 20000 in
theorem gX5_store_X10_within_n37 : GoodIn wsX5_store (wsX10_within) := ggX5_store_X10_within
theorem dX5_store_0 : decode cX5_store 0 = .ok (.iload_n 1, 1) := by decide +kernel
theorem dX5_store_1 : decode cX5_store 1 = .ok (.bipush 6, 2) := by decide +kernel
theorem dX5_store_3 : decode cX5_store 3 = .ok (.if_icmp .ne 29, 3) := by decide +kernel
theorem dX5_store_6 : decode cX5_store 6 = .ok (.aload_n 2, 1) := by decide +kernel
theorem dX5_store_7 : decode cX5_store 7 = .ok (.iconst 1, 1) := by decide +kernel
theorem dX5_store_8 : decode cX5_store 8 = .ok (.iaload, 1) := by decide +kernel
theorem dX5_store_9 : decode cX5_store 9 = .ok (.iconst 0, 1) := by decide +kernel
theorem dX5_store_10 : decode cX5_store 10 = .ok (.bipush 35, 2) := by decide +kernel
theorem dX5_store_12 : decode cX5_store 12 = .ok (.invokestatic 37, 3) := by decide +kernel
theorem dX5_store_15 : decode cX5_store 15 = .ok (.ifCond .eq 41, 3) := by decide +kernel
theorem dX5_store_18 : decode cX5_store 18 = .ok (.aload_n 0, 1) := by decide +kernel
theorem dX5_store_19 : decode cX5_store 19 = .ok (.getfield 15, 3) := by decide +kernel
theorem dX5_store_22 : decode cX5_store 22 = .ok (.aload_n 2, 1) := by decide +kernel
theorem dX5_store_23 : decode cX5_store 23 = .ok (.iconst 1, 1) := by decide +kernel
theorem dX5_store_24 : decode cX5_store 24 = .ok (.iaload, 1) := by decide +kernel
theorem dX5_store_25 : decode cX5_store 25 = .ok (.aload_n 2, 1) := by decide +kernel
theorem dX5_store_26 : decode cX5_store 26 = .ok (.iconst 0, 1) := by decide +kernel
theorem dX5_store_27 : decode cX5_store 27 = .ok (.iaload, 1) := by decide +kernel
theorem dX5_store_28 : decode cX5_store 28 = .ok (.iastore, 1) := by decide +kernel
theorem dX5_store_29 : decode cX5_store 29 = .ok (.goto 27, 3) := by decide +kernel
theorem dX5_store_32 : decode cX5_store 32 = .ok (.iload_n 1, 1) := by decide +kernel
theorem dX5_store_33 : decode cX5_store 33 = .ok (.iconst 0, 1) := by decide +kernel
theorem dX5_store_34 : decode cX5_store 34 = .ok (.aload_n 0, 1) := by decide +kernel
theorem dX5_store_35 : decode cX5_store 35 = .ok (.getfield 11, 3) := by decide +kernel
theorem dX5_store_38 : decode cX5_store 38 = .ok (.arraylength, 1) := by decide +kernel
theorem dX5_store_39 : decode cX5_store 39 = .ok (.iconst 1, 1) := by decide +kernel
theorem dX5_store_40 : decode cX5_store 40 = .ok (.isub, 1) := by decide +kernel
theorem dX5_store_41 : decode cX5_store 41 = .ok (.invokestatic 37, 3) := by decide +kernel
theorem dX5_store_44 : decode cX5_store 44 = .ok (.ifCond .eq 12, 3) := by decide +kernel
theorem dX5_store_47 : decode cX5_store 47 = .ok (.aload_n 0, 1) := by decide +kernel
theorem dX5_store_48 : decode cX5_store 48 = .ok (.getfield 11, 3) := by decide +kernel
theorem dX5_store_51 : decode cX5_store 51 = .ok (.iload_n 1, 1) := by decide +kernel
theorem dX5_store_52 : decode cX5_store 52 = .ok (.aload_n 2, 1) := by decide +kernel
theorem dX5_store_53 : decode cX5_store 53 = .ok (.iconst 0, 1) := by decide +kernel
theorem dX5_store_54 : decode cX5_store 54 = .ok (.iaload, 1) := by decide +kernel
theorem dX5_store_55 : decode cX5_store 55 = .ok (.iastore, 1) := by decide +kernel
theorem dX5_store_56 : decode cX5_store 56 = .ok (.return_, 1) := by decide +kernel
set_option maxRecDepth 20000 in
theorem ggX5_answer_X5_breachesTold : GoodIn wsX5_answer wsX5_breachesTold := goodIn_r _ [6, 7, 12, 13, 14] (by decide +kernel) (by decide +kernel)
set_option maxRecDepth 20000 in
theorem gX5_answer_X5_breachesTold : GoodIn wsX5_answer (wsV RX5 41 RX5 yX5_breachesTold wsX5_breachesTold) := goodIn_app (goodIn_of _ (by decide +kernel)) ggX5_answer_X5_breachesTold
set_option maxRecDepth 20000 in
theorem ggX5_answer_X5_winterPay : GoodIn wsX5_answer wsX5_winterPay := goodIn_r _ [11, 1, 12, 13, 14] (by decide +kernel) (by decide +kernel)
set_option maxRecDepth 20000 in
theorem gX5_answer_X5_winterPay : GoodIn wsX5_answer (wsV RX5 45 RX5 yX5_winterPay wsX5_winterPay) := goodIn_app (goodIn_of _ (by decide +kernel)) ggX5_answer_X5_winterPay
theorem dX5_answer_0 : decode cX5_answer 0 = .ok (.iload_n 1, 1) := by decide +kernel
theorem dX5_answer_1 : decode cX5_answer 1 = .ok (.bipush 6, 2) := by decide +kernel
theorem dX5_answer_3 : decode cX5_answer 3 = .ok (.if_icmp .ne 8, 3) := by decide +kernel
theorem dX5_answer_6 : decode cX5_answer 6 = .ok (.aload_n 0, 1) := by decide +kernel
theorem dX5_answer_7 : decode cX5_answer 7 = .ok (.invokevirtual 41, 3) := by decide +kernel
theorem dX5_answer_10 : decode cX5_answer 10 = .ok (.ireturn, 1) := by decide +kernel
theorem dX5_answer_11 : decode cX5_answer 11 = .ok (.iload_n 1, 1) := by decide +kernel
theorem dX5_answer_12 : decode cX5_answer 12 = .ok (.iconst 1, 1) := by decide +kernel
theorem dX5_answer_13 : decode cX5_answer 13 = .ok (.if_icmp .ne 10, 3) := by decide +kernel
theorem dX5_answer_16 : decode cX5_answer 16 = .ok (.aload_n 0, 1) := by decide +kernel
theorem dX5_answer_17 : decode cX5_answer 17 = .ok (.invokevirtual 45, 3) := by decide +kernel
theorem dX5_answer_20 : decode cX5_answer 20 = .ok (.goto 9, 3) := by decide +kernel
theorem dX5_answer_23 : decode cX5_answer 23 = .ok (.aload_n 0, 1) := by decide +kernel
theorem dX5_answer_24 : decode cX5_answer 24 = .ok (.getfield 11, 3) := by decide +kernel
theorem dX5_answer_27 : decode cX5_answer 27 = .ok (.iload_n 1, 1) := by decide +kernel
theorem dX5_answer_28 : decode cX5_answer 28 = .ok (.iaload, 1) := by decide +kernel
theorem dX5_answer_29 : decode cX5_answer 29 = .ok (.ireturn, 1) := by decide +kernel
theorem dX5_winterPay_0 : decode cX5_winterPay 0 = .ok (.aload_n 0, 1) := by decide +kernel
theorem dX5_winterPay_1 : decode cX5_winterPay 1 = .ok (.getfield 11, 3) := by decide +kernel
theorem dX5_winterPay_4 : decode cX5_winterPay 4 = .ok (.iconst 1, 1) := by decide +kernel
theorem dX5_winterPay_5 : decode cX5_winterPay 5 = .ok (.iaload, 1) := by decide +kernel
theorem dX5_winterPay_6 : decode cX5_winterPay 6 = .ok (.iconst (-1), 1) := by decide +kernel
theorem dX5_winterPay_7 : decode cX5_winterPay 7 = .ok (.if_icmp .ne 12, 3) := by decide +kernel
theorem dX5_winterPay_10 : decode cX5_winterPay 10 = .ok (.aload_n 0, 1) := by decide +kernel
theorem dX5_winterPay_11 : decode cX5_winterPay 11 = .ok (.getfield 11, 3) := by decide +kernel
theorem dX5_winterPay_14 : decode cX5_winterPay 14 = .ok (.iconst 0, 1) := by decide +kernel
theorem dX5_winterPay_15 : decode cX5_winterPay 15 = .ok (.iaload, 1) := by decide +kernel
theorem dX5_winterPay_16 : decode cX5_winterPay 16 = .ok (.goto 9, 3) := by decide +kernel
theorem dX5_winterPay_19 : decode cX5_winterPay 19 = .ok (.aload_n 0, 1) := by decide +kernel
theorem dX5_winterPay_20 : decode cX5_winterPay 20 = .ok (.getfield 11, 3) := by decide +kernel
theorem dX5_winterPay_23 : decode cX5_winterPay 23 = .ok (.iconst 1, 1) := by decide +kernel
theorem dX5_winterPay_24 : decode cX5_winterPay 24 = .ok (.iaload, 1) := by decide +kernel
theorem dX5_winterPay_25 : decode cX5_winterPay 25 = .ok (.ireturn, 1) := by decide +kernel
theorem dX5_breachesTold_0 : decode cX5_breachesTold 0 = .ok (.iconst 0, 1) := by decide +kernel
theorem dX5_breachesTold_1 : decode cX5_breachesTold 1 = .ok (.istore_n 1, 1) := by decide +kernel
theorem dX5_breachesTold_2 : decode cX5_breachesTold 2 = .ok (.aload_n 0, 1) := by decide +kernel
theorem dX5_breachesTold_3 : decode cX5_breachesTold 3 = .ok (.getfield 15, 3) := by decide +kernel
theorem dX5_breachesTold_6 : decode cX5_breachesTold 6 = .ok (.astore_n 2, 1) := by decide +kernel
theorem dX5_breachesTold_7 : decode cX5_breachesTold 7 = .ok (.aload_n 2, 1) := by decide +kernel
theorem dX5_breachesTold_8 : decode cX5_breachesTold 8 = .ok (.arraylength, 1) := by decide +kernel
theorem dX5_breachesTold_9 : decode cX5_breachesTold 9 = .ok (.istore_n 3, 1) := by decide +kernel
theorem dX5_breachesTold_10 : decode cX5_breachesTold 10 = .ok (.iconst 0, 1) := by decide +kernel
theorem dX5_breachesTold_11 : decode cX5_breachesTold 11 = .ok (.istore 4, 2) := by decide +kernel
theorem dX5_breachesTold_13 : decode cX5_breachesTold 13 = .ok (.iload 4, 2) := by decide +kernel
theorem dX5_breachesTold_15 : decode cX5_breachesTold 15 = .ok (.iload_n 3, 1) := by decide +kernel
theorem dX5_breachesTold_16 : decode cX5_breachesTold 16 = .ok (.if_icmp .ge 24, 3) := by decide +kernel
theorem dX5_breachesTold_19 : decode cX5_breachesTold 19 = .ok (.aload_n 2, 1) := by decide +kernel
theorem dX5_breachesTold_20 : decode cX5_breachesTold 20 = .ok (.iload 4, 2) := by decide +kernel
theorem dX5_breachesTold_22 : decode cX5_breachesTold 22 = .ok (.iaload, 1) := by decide +kernel
theorem dX5_breachesTold_23 : decode cX5_breachesTold 23 = .ok (.istore 5, 2) := by decide +kernel
theorem dX5_breachesTold_25 : decode cX5_breachesTold 25 = .ok (.iload 5, 2) := by decide +kernel
theorem dX5_breachesTold_27 : decode cX5_breachesTold 27 = .ok (.iconst (-1), 1) := by decide +kernel
theorem dX5_breachesTold_28 : decode cX5_breachesTold 28 = .ok (.if_icmp .eq 6, 3) := by decide +kernel
theorem dX5_breachesTold_31 : decode cX5_breachesTold 31 = .ok (.iinc 1 1, 3) := by decide +kernel
theorem dX5_breachesTold_34 : decode cX5_breachesTold 34 = .ok (.iinc 4 1, 3) := by decide +kernel
theorem dX5_breachesTold_37 : decode cX5_breachesTold 37 = .ok (.goto (-24), 3) := by decide +kernel
theorem dX5_breachesTold_40 : decode cX5_breachesTold 40 = .ok (.iload_n 1, 1) := by decide +kernel
theorem dX5_breachesTold_41 : decode cX5_breachesTold 41 = .ok (.ireturn, 1) := by decide +kernel
set_option maxRecDepth 20000 in
theorem ggX5_payIn_X5_winterPay : GoodIn wsX5_payIn wsX5_winterPay := goodIn_r _ [6, 1, 7, 8, 9] (by decide +kernel) (by decide +kernel)
set_option maxRecDepth 20000 in
theorem gX5_payIn_X5_winterPay : GoodIn wsX5_payIn (wsV RX5 45 RX5 yX5_winterPay wsX5_winterPay) := goodIn_app (goodIn_of _ (by decide +kernel)) ggX5_payIn_X5_winterPay
theorem dX5_payIn_0 : decode cX5_payIn 0 = .ok (.iload_n 1, 1) := by decide +kernel
theorem dX5_payIn_1 : decode cX5_payIn 1 = .ok (.bipush 12, 2) := by decide +kernel
theorem dX5_payIn_3 : decode cX5_payIn 3 = .ok (.irem, 1) := by decide +kernel
theorem dX5_payIn_4 : decode cX5_payIn 4 = .ok (.istore_n 2, 1) := by decide +kernel
theorem dX5_payIn_5 : decode cX5_payIn 5 = .ok (.iload_n 2, 1) := by decide +kernel
theorem dX5_payIn_6 : decode cX5_payIn 6 = .ok (.bipush 10, 2) := by decide +kernel
theorem dX5_payIn_8 : decode cX5_payIn 8 = .ok (.if_icmp .ge 8, 3) := by decide +kernel
theorem dX5_payIn_11 : decode cX5_payIn 11 = .ok (.iload_n 2, 1) := by decide +kernel
theorem dX5_payIn_12 : decode cX5_payIn 12 = .ok (.iconst 1, 1) := by decide +kernel
theorem dX5_payIn_13 : decode cX5_payIn 13 = .ok (.if_icmp .gt 10, 3) := by decide +kernel
theorem dX5_payIn_16 : decode cX5_payIn 16 = .ok (.aload_n 0, 1) := by decide +kernel
theorem dX5_payIn_17 : decode cX5_payIn 17 = .ok (.invokevirtual 45, 3) := by decide +kernel
theorem dX5_payIn_20 : decode cX5_payIn 20 = .ok (.goto 9, 3) := by decide +kernel
theorem dX5_payIn_23 : decode cX5_payIn 23 = .ok (.aload_n 0, 1) := by decide +kernel
theorem dX5_payIn_24 : decode cX5_payIn 24 = .ok (.getfield 11, 3) := by decide +kernel
theorem dX5_payIn_27 : decode cX5_payIn 27 = .ok (.iconst 0, 1) := by decide +kernel
theorem dX5_payIn_28 : decode cX5_payIn 28 = .ok (.iaload, 1) := by decide +kernel
theorem dX5_payIn_29 : decode cX5_payIn 29 = .ok (.ireturn, 1) := by decide +kernel
set_option maxRecDepth 20000 in
theorem ggX5_wallDue_X10_within : GoodIn wsX5_wallDue wsX10_within := goodIn_r _ [4] (by decide +kernel) (by decide +kernel)
set_option maxRecDepth 20000 in
theorem gX5_wallDue_X10_within_n37 : GoodIn wsX5_wallDue (wsX10_within) := ggX5_wallDue_X10_within
theorem dX5_wallDue_0 : decode cX5_wallDue 0 = .ok (.iload_n 1, 1) := by decide +kernel
theorem dX5_wallDue_1 : decode cX5_wallDue 1 = .ok (.iconst 0, 1) := by decide +kernel
theorem dX5_wallDue_2 : decode cX5_wallDue 2 = .ok (.bipush 35, 2) := by decide +kernel
theorem dX5_wallDue_4 : decode cX5_wallDue 4 = .ok (.invokestatic 37, 3) := by decide +kernel
theorem dX5_wallDue_7 : decode cX5_wallDue 7 = .ok (.ifCond .eq 12, 3) := by decide +kernel
theorem dX5_wallDue_10 : decode cX5_wallDue 10 = .ok (.aload_n 0, 1) := by decide +kernel
theorem dX5_wallDue_11 : decode cX5_wallDue 11 = .ok (.getfield 15, 3) := by decide +kernel
theorem dX5_wallDue_14 : decode cX5_wallDue 14 = .ok (.iload_n 1, 1) := by decide +kernel
theorem dX5_wallDue_15 : decode cX5_wallDue 15 = .ok (.iaload, 1) := by decide +kernel
theorem dX5_wallDue_16 : decode cX5_wallDue 16 = .ok (.goto 4, 3) := by decide +kernel
theorem dX5_wallDue_19 : decode cX5_wallDue 19 = .ok (.iconst (-1), 1) := by decide +kernel
theorem dX5_wallDue_20 : decode cX5_wallDue 20 = .ok (.istore_n 3, 1) := by decide +kernel
theorem dX5_wallDue_21 : decode cX5_wallDue 21 = .ok (.iload_n 3, 1) := by decide +kernel
theorem dX5_wallDue_22 : decode cX5_wallDue 22 = .ok (.iload_n 2, 1) := by decide +kernel
theorem dX5_wallDue_23 : decode cX5_wallDue 23 = .ok (.if_icmp .ge 7, 3) := by decide +kernel
theorem dX5_wallDue_26 : decode cX5_wallDue 26 = .ok (.iload_n 3, 1) := by decide +kernel
theorem dX5_wallDue_27 : decode cX5_wallDue 27 = .ok (.goto 4, 3) := by decide +kernel
theorem dX5_wallDue_30 : decode cX5_wallDue 30 = .ok (.iconst (-1), 1) := by decide +kernel
theorem dX5_wallDue_31 : decode cX5_wallDue 31 = .ok (.ireturn, 1) := by decide +kernel
set_option maxRecDepth 20000 in
theorem ggX6_init_X9_init : GoodIn wsX6_init wsX9_init := goodIn_r _ [9, 10, 11, 12] (by decide +kernel) (by decide +kernel)
set_option maxRecDepth 20000 in
theorem gX6_init_X9_init_n3 : GoodIn wsX6_init (wsX9_init) := ggX6_init_X9_init
set_option maxRecDepth 20000 in
theorem ggX6_init_X6_clear : GoodIn wsX6_init wsX6_clear := goodIn_r _ [17, 18, 3, 1, 4, 19, 20, 21, 22, 23] (by decide +kernel) (by decide +kernel)
set_option maxRecDepth 20000 in
theorem gX6_init_X6_clear : GoodIn wsX6_init (wsV RX6 27 RX6 yX6_clear wsX6_clear) := goodIn_app (goodIn_of _ (by decide +kernel)) ggX6_init_X6_clear
theorem dX6_init_0 : decode cX6_init 0 = .ok (.aload_n 0, 1) := by decide +kernel
theorem dX6_init_1 : decode cX6_init 1 = .ok (.invokespecial 3, 3) := by decide +kernel
theorem dX6_init_4 : decode cX6_init 4 = .ok (.aload_n 0, 1) := by decide +kernel
theorem dX6_init_5 : decode cX6_init 5 = .ok (.getstatic 9, 3) := by decide +kernel
theorem dX6_init_8 : decode cX6_init 8 = .ok (.arraylength, 1) := by decide +kernel
theorem dX6_init_9 : decode cX6_init 9 = .ok (.newarray .int, 2) := by decide +kernel
theorem dX6_init_11 : decode cX6_init 11 = .ok (.putfield 15, 3) := by decide +kernel
theorem dX6_init_14 : decode cX6_init 14 = .ok (.aload_n 0, 1) := by decide +kernel
theorem dX6_init_15 : decode cX6_init 15 = .ok (.bipush 10, 2) := by decide +kernel
theorem dX6_init_17 : decode cX6_init 17 = .ok (.newarray .int, 2) := by decide +kernel
theorem dX6_init_19 : decode cX6_init 19 = .ok (.putfield 18, 3) := by decide +kernel
theorem dX6_init_22 : decode cX6_init 22 = .ok (.aload_n 0, 1) := by decide +kernel
theorem dX6_init_23 : decode cX6_init 23 = .ok (.bipush 6, 2) := by decide +kernel
theorem dX6_init_25 : decode cX6_init 25 = .ok (.newarray .int, 2) := by decide +kernel
theorem dX6_init_27 : decode cX6_init 27 = .ok (.putfield 21, 3) := by decide +kernel
theorem dX6_init_30 : decode cX6_init 30 = .ok (.aload_n 0, 1) := by decide +kernel
theorem dX6_init_31 : decode cX6_init 31 = .ok (.bipush 6, 2) := by decide +kernel
theorem dX6_init_33 : decode cX6_init 33 = .ok (.newarray .int, 2) := by decide +kernel
theorem dX6_init_35 : decode cX6_init 35 = .ok (.putfield 24, 3) := by decide +kernel
theorem dX6_init_38 : decode cX6_init 38 = .ok (.aload_n 0, 1) := by decide +kernel
theorem dX6_init_39 : decode cX6_init 39 = .ok (.invokevirtual 27, 3) := by decide +kernel
theorem dX6_init_42 : decode cX6_init 42 = .ok (.return_, 1) := by decide +kernel
theorem dX6_clear_0 : decode cX6_clear 0 = .ok (.aload_n 0, 1) := by decide +kernel
theorem dX6_clear_1 : decode cX6_clear 1 = .ok (.iconst 0, 1) := by decide +kernel
theorem dX6_clear_2 : decode cX6_clear 2 = .ok (.putfield 30, 3) := by decide +kernel
theorem dX6_clear_5 : decode cX6_clear 5 = .ok (.iconst 0, 1) := by decide +kernel
theorem dX6_clear_6 : decode cX6_clear 6 = .ok (.istore_n 1, 1) := by decide +kernel
theorem dX6_clear_7 : decode cX6_clear 7 = .ok (.iload_n 1, 1) := by decide +kernel
theorem dX6_clear_8 : decode cX6_clear 8 = .ok (.aload_n 0, 1) := by decide +kernel
theorem dX6_clear_9 : decode cX6_clear 9 = .ok (.getfield 15, 3) := by decide +kernel
theorem dX6_clear_12 : decode cX6_clear 12 = .ok (.arraylength, 1) := by decide +kernel
theorem dX6_clear_13 : decode cX6_clear 13 = .ok (.if_icmp .ge 20, 3) := by decide +kernel
theorem dX6_clear_16 : decode cX6_clear 16 = .ok (.aload_n 0, 1) := by decide +kernel
theorem dX6_clear_17 : decode cX6_clear 17 = .ok (.getfield 15, 3) := by decide +kernel
theorem dX6_clear_20 : decode cX6_clear 20 = .ok (.iload_n 1, 1) := by decide +kernel
theorem dX6_clear_21 : decode cX6_clear 21 = .ok (.getstatic 9, 3) := by decide +kernel
theorem dX6_clear_24 : decode cX6_clear 24 = .ok (.iload_n 1, 1) := by decide +kernel
theorem dX6_clear_25 : decode cX6_clear 25 = .ok (.iaload, 1) := by decide +kernel
theorem dX6_clear_26 : decode cX6_clear 26 = .ok (.iastore, 1) := by decide +kernel
theorem dX6_clear_27 : decode cX6_clear 27 = .ok (.iinc 1 1, 3) := by decide +kernel
theorem dX6_clear_30 : decode cX6_clear 30 = .ok (.goto (-23), 3) := by decide +kernel
theorem dX6_clear_33 : decode cX6_clear 33 = .ok (.iconst 0, 1) := by decide +kernel
theorem dX6_clear_34 : decode cX6_clear 34 = .ok (.istore_n 1, 1) := by decide +kernel
theorem dX6_clear_35 : decode cX6_clear 35 = .ok (.iload_n 1, 1) := by decide +kernel
theorem dX6_clear_36 : decode cX6_clear 36 = .ok (.aload_n 0, 1) := by decide +kernel
theorem dX6_clear_37 : decode cX6_clear 37 = .ok (.getfield 18, 3) := by decide +kernel
theorem dX6_clear_40 : decode cX6_clear 40 = .ok (.arraylength, 1) := by decide +kernel
theorem dX6_clear_41 : decode cX6_clear 41 = .ok (.if_icmp .ge 19, 3) := by decide +kernel
theorem dX6_clear_44 : decode cX6_clear 44 = .ok (.aload_n 0, 1) := by decide +kernel
theorem dX6_clear_45 : decode cX6_clear 45 = .ok (.getfield 18, 3) := by decide +kernel
theorem dX6_clear_48 : decode cX6_clear 48 = .ok (.iload_n 1, 1) := by decide +kernel
theorem dX6_clear_49 : decode cX6_clear 49 = .ok (.bipush 9, 2) := by decide +kernel
theorem dX6_clear_51 : decode cX6_clear 51 = .ok (.iload_n 1, 1) := by decide +kernel
theorem dX6_clear_52 : decode cX6_clear 52 = .ok (.isub, 1) := by decide +kernel
theorem dX6_clear_53 : decode cX6_clear 53 = .ok (.iastore, 1) := by decide +kernel
theorem dX6_clear_54 : decode cX6_clear 54 = .ok (.iinc 1 1, 3) := by decide +kernel
theorem dX6_clear_57 : decode cX6_clear 57 = .ok (.goto (-22), 3) := by decide +kernel
theorem dX6_clear_60 : decode cX6_clear 60 = .ok (.return_, 1) := by decide +kernel
theorem dX6_words_0 : decode cX6_words 0 = .ok (.ldc 34, 2) := by decide +kernel
theorem dX6_words_2 : decode cX6_words 2 = .ok (.areturn, 1) := by decide +kernel
theorem dX6_mostParts_0 : decode cX6_mostParts 0 = .ok (.bipush 60, 2) := by decide +kernel
theorem dX6_mostParts_2 : decode cX6_mostParts 2 = .ok (.ireturn, 1) := by decide +kernel
theorem dX6_isFull_0 : decode cX6_isFull 0 = .ok (.iload_n 1, 1) := by decide +kernel
theorem dX6_isFull_1 : decode cX6_isFull 1 = .ok (.ifCond .ne 16, 3) := by decide +kernel
theorem dX6_isFull_4 : decode cX6_isFull 4 = .ok (.aload_n 0, 1) := by decide +kernel
theorem dX6_isFull_5 : decode cX6_isFull 5 = .ok (.getfield 30, 3) := by decide +kernel
theorem dX6_isFull_8 : decode cX6_isFull 8 = .ok (.bipush 6, 2) := by decide +kernel
theorem dX6_isFull_10 : decode cX6_isFull 10 = .ok (.if_icmp .lt 7, 3) := by decide +kernel
theorem dX6_isFull_13 : decode cX6_isFull 13 = .ok (.iconst 1, 1) := by decide +kernel
theorem dX6_isFull_14 : decode cX6_isFull 14 = .ok (.goto 4, 3) := by decide +kernel
theorem dX6_isFull_17 : decode cX6_isFull 17 = .ok (.iconst 0, 1) := by decide +kernel
theorem dX6_isFull_18 : decode cX6_isFull 18 = .ok (.ireturn, 1) := by decide +kernel
set_option maxRecDepth 20000 in
theorem ggX6_numbers_X10_within : GoodIn wsX6_numbers wsX10_within := goodIn_r _ [4] (by decide +kernel) (by decide +kernel)
set_option maxRecDepth 20000 in
theorem gX6_numbers_X10_within_n39 : GoodIn wsX6_numbers (wsX10_within) := ggX6_numbers_X10_within
theorem dX6_numbers_0 : decode cX6_numbers 0 = .ok (.iload_n 1, 1) := by decide +kernel
theorem dX6_numbers_1 : decode cX6_numbers 1 = .ok (.iconst 0, 1) := by decide +kernel
theorem dX6_numbers_2 : decode cX6_numbers 2 = .ok (.getstatic 36, 3) := by decide +kernel
theorem dX6_numbers_5 : decode cX6_numbers 5 = .ok (.arraylength, 1) := by decide +kernel
theorem dX6_numbers_6 : decode cX6_numbers 6 = .ok (.iconst 1, 1) := by decide +kernel
theorem dX6_numbers_7 : decode cX6_numbers 7 = .ok (.isub, 1) := by decide +kernel
theorem dX6_numbers_8 : decode cX6_numbers 8 = .ok (.invokestatic 39, 3) := by decide +kernel
theorem dX6_numbers_11 : decode cX6_numbers 11 = .ok (.ifCond .eq 11, 3) := by decide +kernel
theorem dX6_numbers_14 : decode cX6_numbers 14 = .ok (.getstatic 36, 3) := by decide +kernel
theorem dX6_numbers_17 : decode cX6_numbers 17 = .ok (.iload_n 1, 1) := by decide +kernel
theorem dX6_numbers_18 : decode cX6_numbers 18 = .ok (.iaload, 1) := by decide +kernel
theorem dX6_numbers_19 : decode cX6_numbers 19 = .ok (.goto 4, 3) := by decide +kernel
theorem dX6_numbers_22 : decode cX6_numbers 22 = .ok (.iconst 0, 1) := by decide +kernel
theorem dX6_numbers_23 : decode cX6_numbers 23 = .ok (.ireturn, 1) := by decide +kernel
theorem dX6_low_0 : decode cX6_low 0 = .ok (.iload_n 1, 1) := by decide +kernel
theorem dX6_low_1 : decode cX6_low 1 = .ok (.ifCond .ne 11, 3) := by decide +kernel
theorem dX6_low_4 : decode cX6_low 4 = .ok (.iload_n 2, 1) := by decide +kernel
theorem dX6_low_5 : decode cX6_low 5 = .ok (.ifCond .ne 7, 3) := by decide +kernel
theorem dX6_low_8 : decode cX6_low 8 = .ok (.iconst 1, 1) := by decide +kernel
theorem dX6_low_9 : decode cX6_low 9 = .ok (.goto 4, 3) := by decide +kernel
theorem dX6_low_12 : decode cX6_low 12 = .ok (.iconst 0, 1) := by decide +kernel
theorem dX6_low_13 : decode cX6_low 13 = .ok (.ireturn, 1) := by decide +kernel
set_option maxRecDepth 20000 in
theorem ggX6_high_X10_within : GoodIn wsX6_high wsX10_within := goodIn_r _ [4] (by decide +kernel) (by decide +kernel)
set_option maxRecDepth 20000 in
theorem gX6_high_X10_within_n39 : GoodIn wsX6_high (wsX10_within) := ggX6_high_X10_within
theorem dX6_high_0 : decode cX6_high 0 = .ok (.iload_n 1, 1) := by decide +kernel
theorem dX6_high_1 : decode cX6_high 1 = .ok (.iconst 3, 1) := by decide +kernel
theorem dX6_high_2 : decode cX6_high 2 = .ok (.imul, 1) := by decide +kernel
theorem dX6_high_3 : decode cX6_high 3 = .ok (.iload_n 2, 1) := by decide +kernel
theorem dX6_high_4 : decode cX6_high 4 = .ok (.iadd, 1) := by decide +kernel
theorem dX6_high_5 : decode cX6_high 5 = .ok (.istore_n 3, 1) := by decide +kernel
theorem dX6_high_6 : decode cX6_high 6 = .ok (.iload_n 3, 1) := by decide +kernel
theorem dX6_high_7 : decode cX6_high 7 = .ok (.iconst 0, 1) := by decide +kernel
theorem dX6_high_8 : decode cX6_high 8 = .ok (.getstatic 43, 3) := by decide +kernel
theorem dX6_high_11 : decode cX6_high 11 = .ok (.arraylength, 1) := by decide +kernel
theorem dX6_high_12 : decode cX6_high 12 = .ok (.iconst 1, 1) := by decide +kernel
theorem dX6_high_13 : decode cX6_high 13 = .ok (.isub, 1) := by decide +kernel
theorem dX6_high_14 : decode cX6_high 14 = .ok (.invokestatic 39, 3) := by decide +kernel
theorem dX6_high_17 : decode cX6_high 17 = .ok (.ifCond .eq 11, 3) := by decide +kernel
theorem dX6_high_20 : decode cX6_high 20 = .ok (.getstatic 43, 3) := by decide +kernel
theorem dX6_high_23 : decode cX6_high 23 = .ok (.iload_n 3, 1) := by decide +kernel
theorem dX6_high_24 : decode cX6_high 24 = .ok (.iaload, 1) := by decide +kernel
theorem dX6_high_25 : decode cX6_high 25 = .ok (.goto 4, 3) := by decide +kernel
theorem dX6_high_28 : decode cX6_high 28 = .ok (.iconst 0, 1) := by decide +kernel
theorem dX6_high_29 : decode cX6_high 29 = .ok (.ireturn, 1) := by decide +kernel
set_option maxRecDepth 20000 in
theorem ggX6_store_X6_addWall : GoodIn wsX6_store wsX6_addWall := goodIn_r _ [7, 8, 9, 10, 19, 20, 21, 22, 23] (by decide +kernel) (by decide +kernel)
set_option maxRecDepth 20000 in
theorem gX6_store_X6_addWall : GoodIn wsX6_store (wsV RX6 46 RX6 yX6_addWall wsX6_addWall) := goodIn_app (goodIn_of _ (by decide +kernel)) ggX6_store_X6_addWall
set_option maxRecDepth 20000 in
theorem ggX6_store_X10_within : GoodIn wsX6_store wsX10_within := goodIn_r _ [13] (by decide +kernel) (by decide +kernel)
set_option maxRecDepth 20000 in
theorem gX6_store_X10_within_n39 : GoodIn wsX6_store (wsX10_within) := ggX6_store_X10_within
set_option maxRecDepth 20000 in
theorem ggX6_store_X6_numbers : GoodIn wsX6_store wsX6_numbers := goodIn_r _ [17, 18, 11, 12, 13] (by decide +kernel) (by decide +kernel)
set_option maxRecDepth 20000 in
theorem gX6_store_X6_numbers : GoodIn wsX6_store (wsV RX6 50 RX6 yX6_numbers wsX6_numbers) := goodIn_app (goodIn_of _ (by decide +kernel)) ggX6_store_X6_numbers
theorem dX6_store_0 : decode cX6_store 0 = .ok (.iload_n 1, 1) := by decide +kernel
theorem dX6_store_1 : decode cX6_store 1 = .ok (.ifCond .ne 16, 3) := by decide +kernel
theorem dX6_store_4 : decode cX6_store 4 = .ok (.aload_n 0, 1) := by decide +kernel
theorem dX6_store_5 : decode cX6_store 5 = .ok (.aload_n 2, 1) := by decide +kernel
theorem dX6_store_6 : decode cX6_store 6 = .ok (.iconst 0, 1) := by decide +kernel
theorem dX6_store_7 : decode cX6_store 7 = .ok (.iaload, 1) := by decide +kernel
theorem dX6_store_8 : decode cX6_store 8 = .ok (.aload_n 2, 1) := by decide +kernel
theorem dX6_store_9 : decode cX6_store 9 = .ok (.iconst 1, 1) := by decide +kernel
theorem dX6_store_10 : decode cX6_store 10 = .ok (.iaload, 1) := by decide +kernel
theorem dX6_store_11 : decode cX6_store 11 = .ok (.invokevirtual 46, 3) := by decide +kernel
theorem dX6_store_14 : decode cX6_store 14 = .ok (.goto 64, 3) := by decide +kernel
theorem dX6_store_17 : decode cX6_store 17 = .ok (.iload_n 1, 1) := by decide +kernel
theorem dX6_store_18 : decode cX6_store 18 = .ok (.iconst 5, 1) := by decide +kernel
theorem dX6_store_19 : decode cX6_store 19 = .ok (.if_icmp .ne 29, 3) := by decide +kernel
theorem dX6_store_22 : decode cX6_store 22 = .ok (.aload_n 2, 1) := by decide +kernel
theorem dX6_store_23 : decode cX6_store 23 = .ok (.iconst 0, 1) := by decide +kernel
theorem dX6_store_24 : decode cX6_store 24 = .ok (.iaload, 1) := by decide +kernel
theorem dX6_store_25 : decode cX6_store 25 = .ok (.iconst 0, 1) := by decide +kernel
theorem dX6_store_26 : decode cX6_store 26 = .ok (.bipush 9, 2) := by decide +kernel
theorem dX6_store_28 : decode cX6_store 28 = .ok (.invokestatic 39, 3) := by decide +kernel
theorem dX6_store_31 : decode cX6_store 31 = .ok (.ifCond .eq 47, 3) := by decide +kernel
theorem dX6_store_34 : decode cX6_store 34 = .ok (.aload_n 0, 1) := by decide +kernel
theorem dX6_store_35 : decode cX6_store 35 = .ok (.getfield 18, 3) := by decide +kernel
theorem dX6_store_38 : decode cX6_store 38 = .ok (.aload_n 2, 1) := by decide +kernel
theorem dX6_store_39 : decode cX6_store 39 = .ok (.iconst 0, 1) := by decide +kernel
theorem dX6_store_40 : decode cX6_store 40 = .ok (.iaload, 1) := by decide +kernel
theorem dX6_store_41 : decode cX6_store 41 = .ok (.aload_n 2, 1) := by decide +kernel
theorem dX6_store_42 : decode cX6_store 42 = .ok (.iconst 1, 1) := by decide +kernel
theorem dX6_store_43 : decode cX6_store 43 = .ok (.iaload, 1) := by decide +kernel
theorem dX6_store_44 : decode cX6_store 44 = .ok (.iastore, 1) := by decide +kernel
theorem dX6_store_45 : decode cX6_store 45 = .ok (.goto 33, 3) := by decide +kernel
theorem dX6_store_48 : decode cX6_store 48 = .ok (.iconst 0, 1) := by decide +kernel
theorem dX6_store_49 : decode cX6_store 49 = .ok (.istore_n 3, 1) := by decide +kernel
theorem dX6_store_50 : decode cX6_store 50 = .ok (.iload_n 3, 1) := by decide +kernel
theorem dX6_store_51 : decode cX6_store 51 = .ok (.aload_n 0, 1) := by decide +kernel
theorem dX6_store_52 : decode cX6_store 52 = .ok (.iload_n 1, 1) := by decide +kernel
theorem dX6_store_53 : decode cX6_store 53 = .ok (.invokevirtual 50, 3) := by decide +kernel
theorem dX6_store_56 : decode cX6_store 56 = .ok (.if_icmp .ge 22, 3) := by decide +kernel
theorem dX6_store_59 : decode cX6_store 59 = .ok (.aload_n 0, 1) := by decide +kernel
theorem dX6_store_60 : decode cX6_store 60 = .ok (.getfield 15, 3) := by decide +kernel
theorem dX6_store_63 : decode cX6_store 63 = .ok (.iload_n 1, 1) := by decide +kernel
theorem dX6_store_64 : decode cX6_store 64 = .ok (.iconst 3, 1) := by decide +kernel
theorem dX6_store_65 : decode cX6_store 65 = .ok (.imul, 1) := by decide +kernel
theorem dX6_store_66 : decode cX6_store 66 = .ok (.iload_n 3, 1) := by decide +kernel
theorem dX6_store_67 : decode cX6_store 67 = .ok (.iadd, 1) := by decide +kernel
theorem dX6_store_68 : decode cX6_store 68 = .ok (.aload_n 2, 1) := by decide +kernel
theorem dX6_store_69 : decode cX6_store 69 = .ok (.iload_n 3, 1) := by decide +kernel
theorem dX6_store_70 : decode cX6_store 70 = .ok (.iaload, 1) := by decide +kernel
theorem dX6_store_71 : decode cX6_store 71 = .ok (.iastore, 1) := by decide +kernel
theorem dX6_store_72 : decode cX6_store 72 = .ok (.iinc 3 1, 3) := by decide +kernel
theorem dX6_store_75 : decode cX6_store 75 = .ok (.goto (-25), 3) := by decide +kernel
theorem dX6_store_78 : decode cX6_store 78 = .ok (.return_, 1) := by decide +kernel
theorem dX6_addWall_0 : decode cX6_addWall 0 = .ok (.aload_n 0, 1) := by decide +kernel
theorem dX6_addWall_1 : decode cX6_addWall 1 = .ok (.getfield 30, 3) := by decide +kernel
theorem dX6_addWall_4 : decode cX6_addWall 4 = .ok (.bipush 6, 2) := by decide +kernel
theorem dX6_addWall_6 : decode cX6_addWall 6 = .ok (.if_icmp .ge 33, 3) := by decide +kernel
theorem dX6_addWall_9 : decode cX6_addWall 9 = .ok (.aload_n 0, 1) := by decide +kernel
theorem dX6_addWall_10 : decode cX6_addWall 10 = .ok (.getfield 21, 3) := by decide +kernel
theorem dX6_addWall_13 : decode cX6_addWall 13 = .ok (.aload_n 0, 1) := by decide +kernel
theorem dX6_addWall_14 : decode cX6_addWall 14 = .ok (.getfield 30, 3) := by decide +kernel
theorem dX6_addWall_17 : decode cX6_addWall 17 = .ok (.iload_n 1, 1) := by decide +kernel
theorem dX6_addWall_18 : decode cX6_addWall 18 = .ok (.iastore, 1) := by decide +kernel
theorem dX6_addWall_19 : decode cX6_addWall 19 = .ok (.aload_n 0, 1) := by decide +kernel
theorem dX6_addWall_20 : decode cX6_addWall 20 = .ok (.getfield 24, 3) := by decide +kernel
theorem dX6_addWall_23 : decode cX6_addWall 23 = .ok (.aload_n 0, 1) := by decide +kernel
theorem dX6_addWall_24 : decode cX6_addWall 24 = .ok (.getfield 30, 3) := by decide +kernel
theorem dX6_addWall_27 : decode cX6_addWall 27 = .ok (.iload_n 2, 1) := by decide +kernel
theorem dX6_addWall_28 : decode cX6_addWall 28 = .ok (.iastore, 1) := by decide +kernel
theorem dX6_addWall_29 : decode cX6_addWall 29 = .ok (.aload_n 0, 1) := by decide +kernel
theorem dX6_addWall_30 : decode cX6_addWall 30 = .ok (.dup, 1) := by decide +kernel
theorem dX6_addWall_31 : decode cX6_addWall 31 = .ok (.getfield 30, 3) := by decide +kernel
theorem dX6_addWall_34 : decode cX6_addWall 34 = .ok (.iconst 1, 1) := by decide +kernel
theorem dX6_addWall_35 : decode cX6_addWall 35 = .ok (.iadd, 1) := by decide +kernel
theorem dX6_addWall_36 : decode cX6_addWall 36 = .ok (.putfield 30, 3) := by decide +kernel
theorem dX6_addWall_39 : decode cX6_addWall 39 = .ok (.return_, 1) := by decide +kernel
set_option maxRecDepth 20000 in
theorem ggX6_fearAt_X10_within : GoodIn wsX6_fearAt wsX10_within := goodIn_r _ [4] (by decide +kernel) (by decide +kernel)
set_option maxRecDepth 20000 in
theorem gX6_fearAt_X10_within_n39 : GoodIn wsX6_fearAt (wsX10_within) := ggX6_fearAt_X10_within
theorem dX6_fearAt_0 : decode cX6_fearAt 0 = .ok (.iload_n 1, 1) := by decide +kernel
theorem dX6_fearAt_1 : decode cX6_fearAt 1 = .ok (.iconst 0, 1) := by decide +kernel
theorem dX6_fearAt_2 : decode cX6_fearAt 2 = .ok (.bipush 9, 2) := by decide +kernel
theorem dX6_fearAt_4 : decode cX6_fearAt 4 = .ok (.invokestatic 39, 3) := by decide +kernel
theorem dX6_fearAt_7 : decode cX6_fearAt 7 = .ok (.ifCond .eq 12, 3) := by decide +kernel
theorem dX6_fearAt_10 : decode cX6_fearAt 10 = .ok (.aload_n 0, 1) := by decide +kernel
theorem dX6_fearAt_11 : decode cX6_fearAt 11 = .ok (.getfield 18, 3) := by decide +kernel
theorem dX6_fearAt_14 : decode cX6_fearAt 14 = .ok (.iload_n 1, 1) := by decide +kernel
theorem dX6_fearAt_15 : decode cX6_fearAt 15 = .ok (.iaload, 1) := by decide +kernel
theorem dX6_fearAt_16 : decode cX6_fearAt 16 = .ok (.goto 4, 3) := by decide +kernel
theorem dX6_fearAt_19 : decode cX6_fearAt 19 = .ok (.iconst 0, 1) := by decide +kernel
theorem dX6_fearAt_20 : decode cX6_fearAt 20 = .ok (.ireturn, 1) := by decide +kernel
theorem dX6_wanted_0 : decode cX6_wanted 0 = .ok (.aload_n 0, 1) := by decide +kernel
theorem dX6_wanted_1 : decode cX6_wanted 1 = .ok (.getfield 15, 3) := by decide +kernel
theorem dX6_wanted_4 : decode cX6_wanted 4 = .ok (.bipush 21, 2) := by decide +kernel
theorem dX6_wanted_6 : decode cX6_wanted 6 = .ok (.iaload, 1) := by decide +kernel
theorem dX6_wanted_7 : decode cX6_wanted 7 = .ok (.aload_n 0, 1) := by decide +kernel
theorem dX6_wanted_8 : decode cX6_wanted 8 = .ok (.getfield 15, 3) := by decide +kernel
theorem dX6_wanted_11 : decode cX6_wanted 11 = .ok (.bipush 22, 2) := by decide +kernel
theorem dX6_wanted_13 : decode cX6_wanted 13 = .ok (.iaload, 1) := by decide +kernel
theorem dX6_wanted_14 : decode cX6_wanted 14 = .ok (.iload_n 2, 1) := by decide +kernel
theorem dX6_wanted_15 : decode cX6_wanted 15 = .ok (.imul, 1) := by decide +kernel
theorem dX6_wanted_16 : decode cX6_wanted 16 = .ok (.iadd, 1) := by decide +kernel
theorem dX6_wanted_17 : decode cX6_wanted 17 = .ok (.aload_n 0, 1) := by decide +kernel
theorem dX6_wanted_18 : decode cX6_wanted 18 = .ok (.getfield 15, 3) := by decide +kernel
theorem dX6_wanted_21 : decode cX6_wanted 21 = .ok (.bipush 21, 2) := by decide +kernel
theorem dX6_wanted_23 : decode cX6_wanted 23 = .ok (.iaload, 1) := by decide +kernel
theorem dX6_wanted_24 : decode cX6_wanted 24 = .ok (.bipush 9, 2) := by decide +kernel
theorem dX6_wanted_26 : decode cX6_wanted 26 = .ok (.iload_n 1, 1) := by decide +kernel
theorem dX6_wanted_27 : decode cX6_wanted 27 = .ok (.isub, 1) := by decide +kernel
theorem dX6_wanted_28 : decode cX6_wanted 28 = .ok (.imul, 1) := by decide +kernel
theorem dX6_wanted_29 : decode cX6_wanted 29 = .ok (.iadd, 1) := by decide +kernel
theorem dX6_wanted_30 : decode cX6_wanted 30 = .ok (.ireturn, 1) := by decide +kernel
theorem dX7_init_0 : decode cX7_init 0 = .ok (.aload_n 0, 1) := by decide +kernel
theorem dX7_init_1 : decode cX7_init 1 = .ok (.invokespecial 3, 3) := by decide +kernel
theorem dX7_init_4 : decode cX7_init 4 = .ok (.aload_n 0, 1) := by decide +kernel
theorem dX7_init_5 : decode cX7_init 5 = .ok (.iconst 0, 1) := by decide +kernel
theorem dX7_init_6 : decode cX7_init 6 = .ok (.newarray .byte, 2) := by decide +kernel
theorem dX7_init_8 : decode cX7_init 8 = .ok (.putfield 9, 3) := by decide +kernel
theorem dX7_init_11 : decode cX7_init 11 = .ok (.aload_n 0, 1) := by decide +kernel
theorem dX7_init_12 : decode cX7_init 12 = .ok (.iconst (-1), 1) := by decide +kernel
theorem dX7_init_13 : decode cX7_init 13 = .ok (.putfield 15, 3) := by decide +kernel
theorem dX7_init_16 : decode cX7_init 16 = .ok (.aload_n 0, 1) := by decide +kernel
theorem dX7_init_17 : decode cX7_init 17 = .ok (.iconst 3, 1) := by decide +kernel
theorem dX7_init_18 : decode cX7_init 18 = .ok (.newarray .int, 2) := by decide +kernel
theorem dX7_init_20 : decode cX7_init 20 = .ok (.putfield 19, 3) := by decide +kernel
theorem dX7_init_23 : decode cX7_init 23 = .ok (.return_, 1) := by decide +kernel
set_option maxRecDepth 20000 in
theorem ggX7_read_X5_mostParts : GoodIn wsX7_read wsX5_mostParts := goodIn_r _ [15] (by decide +kernel) (by decide +kernel)
set_option maxRecDepth 20000 in
theorem gX7_read_X5_mostParts_u38X5 : GoodIn wsX7_read (va_wsU RX7 38 RX5 "HiredEnemy$Telling" ⟨"HiredEnemy$Telling", "mostParts", "()I"⟩ yX5_mostParts wsX5_mostParts) := goodIn_app (goodIn_of _ (by decide +kernel)) ggX7_read_X5_mostParts
set_option maxRecDepth 20000 in
theorem ggX7_read_X6_mostParts : GoodIn wsX7_read wsX6_mostParts := goodIn_r _ [19] (by decide +kernel) (by decide +kernel)
set_option maxRecDepth 20000 in
theorem gX7_read_X6_mostParts_u38X6 : GoodIn wsX7_read (va_wsU RX7 38 RX6 "HiredEnemy$Telling" ⟨"HiredEnemy$Telling", "mostParts", "()I"⟩ yX6_mostParts wsX6_mostParts) := goodIn_app (goodIn_of _ (by decide +kernel)) ggX7_read_X6_mostParts
set_option maxRecDepth 20000 in
theorem ggX7_read_X7_skipBlanks : GoodIn wsX7_read wsX7_skipBlanks := goodIn_r _ [24, 7, 6, 1, 168, 169, 170, 171, 172, 173] (by decide +kernel) (by decide +kernel)
set_option maxRecDepth 20000 in
theorem gX7_read_X7_skipBlanks : GoodIn wsX7_read (wsV RX7 44 RX7 yX7_skipBlanks wsX7_skipBlanks) := goodIn_app (goodIn_of _ (by decide +kernel)) ggX7_read_X7_skipBlanks
set_option maxRecDepth 20000 in
theorem ggX7_read_X7_readPart : GoodIn wsX7_read wsX7_readPart := goodIn_r _ [28, 7, 29, 2, 3, 4, 5, 6, 1, 30, 31, 32, 23, 33, 34, 35, 36, 37, 14, 38, 39, 40, 18, 41, 42, 43, 44, 45, 46, 47, 48, 49, 50, 51, 52, 53, 54, 55, 56, 57, 58, 59, 60, 61, 62, 63, 64, 65, 66, 67, 68, 69, 70, 71, 72, 73, 74, 75, 76, 77, 78, 79, 80, 81, 82, 83, 84, 85, 86, 87, 88, 89, 90, 91, 92, 93, 94, 95, 96, 97, 98, 99, 100, 101, 102, 8, 9, 10, 11, 12, 13, 15, 16, 17, 19, 103, 104, 105, 106, 107, 108, 109, 110, 111, 112, 113, 114, 115, 116, 117, 118, 119, 120, 121, 122, 123, 124, 125, 126, 127, 128, 129, 130, 131, 132, 133, 134, 135, 136, 137, 138, 139, 140, 141, 142, 143, 144, 145, 146, 147, 20, 21, 22, 24, 148, 149, 150, 151, 152, 153, 154, 155, 156, 157, 158, 159, 160, 161, 162, 163, 164, 165, 166, 167, 168, 169, 170, 171, 172, 173, 174, 175, 176, 177, 178, 179, 180, 181] (by decide +kernel) (by decide +kernel)
set_option maxRecDepth 20000 in
theorem gX7_read_X7_readPart : GoodIn wsX7_read (wsV RX7 47 RX7 yX7_readPart wsX7_readPart) := goodIn_app (goodIn_of _ (by decide +kernel)) ggX7_read_X7_readPart
theorem dX7_read_0 : decode cX7_read 0 = .ok (.aload_n 0, 1) := by decide +kernel
theorem dX7_read_1 : decode cX7_read 1 = .ok (.aload_n 1, 1) := by decide +kernel
theorem dX7_read_2 : decode cX7_read 2 = .ok (.putfield 9, 3) := by decide +kernel
theorem dX7_read_5 : decode cX7_read 5 = .ok (.aload_n 0, 1) := by decide +kernel
theorem dX7_read_6 : decode cX7_read 6 = .ok (.iload_n 2, 1) := by decide +kernel
theorem dX7_read_7 : decode cX7_read 7 = .ok (.aload_n 1, 1) := by decide +kernel
theorem dX7_read_8 : decode cX7_read 8 = .ok (.arraylength, 1) := by decide +kernel
theorem dX7_read_9 : decode cX7_read 9 = .ok (.invokestatic 23, 3) := by decide +kernel
theorem dX7_read_12 : decode cX7_read 12 = .ok (.putfield 29, 3) := by decide +kernel
theorem dX7_read_15 : decode cX7_read 15 = .ok (.aload_n 0, 1) := by decide +kernel
theorem dX7_read_16 : decode cX7_read 16 = .ok (.iconst 0, 1) := by decide +kernel
theorem dX7_read_17 : decode cX7_read 17 = .ok (.putfield 32, 3) := by decide +kernel
theorem dX7_read_20 : decode cX7_read 20 = .ok (.aload_n 0, 1) := by decide +kernel
theorem dX7_read_21 : decode cX7_read 21 = .ok (.iconst 0, 1) := by decide +kernel
theorem dX7_read_22 : decode cX7_read 22 = .ok (.putfield 35, 3) := by decide +kernel
theorem dX7_read_25 : decode cX7_read 25 = .ok (.aload_n 0, 1) := by decide +kernel
theorem dX7_read_26 : decode cX7_read 26 = .ok (.iconst (-1), 1) := by decide +kernel
theorem dX7_read_27 : decode cX7_read 27 = .ok (.putfield 15, 3) := by decide +kernel
theorem dX7_read_30 : decode cX7_read 30 = .ok (.iconst 0, 1) := by decide +kernel
theorem dX7_read_31 : decode cX7_read 31 = .ok (.istore 4, 2) := by decide +kernel
theorem dX7_read_33 : decode cX7_read 33 = .ok (.iload 4, 2) := by decide +kernel
theorem dX7_read_35 : decode cX7_read 35 = .ok (.aload_n 3, 1) := by decide +kernel
theorem dX7_read_36 : decode cX7_read 36 = .ok (.invokevirtual 38, 3) := by decide +kernel
theorem dX7_read_39 : decode cX7_read 39 = .ok (.if_icmp .gt 37, 3) := by decide +kernel
theorem dX7_read_42 : decode cX7_read 42 = .ok (.aload_n 0, 1) := by decide +kernel
theorem dX7_read_43 : decode cX7_read 43 = .ok (.invokevirtual 44, 3) := by decide +kernel
theorem dX7_read_46 : decode cX7_read 46 = .ok (.aload_n 0, 1) := by decide +kernel
theorem dX7_read_47 : decode cX7_read 47 = .ok (.getfield 32, 3) := by decide +kernel
theorem dX7_read_50 : decode cX7_read 50 = .ok (.aload_n 0, 1) := by decide +kernel
theorem dX7_read_51 : decode cX7_read 51 = .ok (.getfield 29, 3) := by decide +kernel
theorem dX7_read_54 : decode cX7_read 54 = .ok (.if_icmp .ge 22, 3) := by decide +kernel
theorem dX7_read_57 : decode cX7_read 57 = .ok (.aload_n 0, 1) := by decide +kernel
theorem dX7_read_58 : decode cX7_read 58 = .ok (.aload_n 3, 1) := by decide +kernel
theorem dX7_read_59 : decode cX7_read 59 = .ok (.iload 4, 2) := by decide +kernel
theorem dX7_read_61 : decode cX7_read 61 = .ok (.invokevirtual 47, 3) := by decide +kernel
theorem dX7_read_64 : decode cX7_read 64 = .ok (.ifCond .ne 6, 3) := by decide +kernel
theorem dX7_read_67 : decode cX7_read 67 = .ok (.goto 9, 3) := by decide +kernel
theorem dX7_read_70 : decode cX7_read 70 = .ok (.iinc 4 1, 3) := by decide +kernel
theorem dX7_read_73 : decode cX7_read 73 = .ok (.goto (-40), 3) := by decide +kernel
theorem dX7_read_76 : decode cX7_read 76 = .ok (.aload_n 0, 1) := by decide +kernel
theorem dX7_read_77 : decode cX7_read 77 = .ok (.getfield 35, 3) := by decide +kernel
theorem dX7_read_80 : decode cX7_read 80 = .ok (.ireturn, 1) := by decide +kernel
set_option maxRecDepth 20000 in
theorem ggX7_readPart_X7_skipLetters : GoodIn wsX7_readPart wsX7_skipLetters := goodIn_r _ [13, 1, 7, 8, 164, 165, 166, 167, 168, 169] (by decide +kernel) (by decide +kernel)
set_option maxRecDepth 20000 in
theorem gX7_readPart_X7_skipLetters : GoodIn wsX7_readPart (wsV RX7 51 RX7 yX7_skipLetters wsX7_skipLetters) := goodIn_app (goodIn_of _ (by decide +kernel)) ggX7_readPart_X7_skipLetters
set_option maxRecDepth 20000 in
theorem ggX7_readPart_X5_words : GoodIn wsX7_readPart wsX5_words := goodIn_r _ [19] (by decide +kernel) (by decide +kernel)
set_option maxRecDepth 20000 in
theorem gX7_readPart_X5_words_u54X5 : GoodIn wsX7_readPart (va_wsU RX7 54 RX5 "HiredEnemy$Telling" ⟨"HiredEnemy$Telling", "words", "()Ljava/lang/String;"⟩ yX5_words wsX5_words) := goodIn_app (goodIn_of _ (by decide +kernel)) ggX7_readPart_X5_words
set_option maxRecDepth 20000 in
theorem ggX7_readPart_X6_words : GoodIn wsX7_readPart wsX6_words := goodIn_r _ [23] (by decide +kernel) (by decide +kernel)
set_option maxRecDepth 20000 in
theorem gX7_readPart_X6_words_u54X6 : GoodIn wsX7_readPart (va_wsU RX7 54 RX6 "HiredEnemy$Telling" ⟨"HiredEnemy$Telling", "words", "()Ljava/lang/String;"⟩ yX6_words wsX6_words) := goodIn_app (goodIn_of _ (by decide +kernel)) ggX7_readPart_X6_words
set_option maxRecDepth 20000 in
theorem ggX7_readPart_X7_kindOf : GoodIn wsX7_readPart wsX7_kindOf := goodIn_r _ [27, 28, 29, 30, 31, 32, 33, 34, 35, 36, 37, 38, 39, 40, 41, 42, 43, 44, 45, 46, 47, 48, 49, 50, 51, 52, 53, 54, 55, 56, 57, 58, 59, 60, 61, 62, 63, 64, 65, 66, 67, 68, 69, 70, 71, 72, 73, 74, 75, 76, 77, 78, 79, 12, 80, 1, 8, 164, 165, 166, 167, 168, 169] (by decide +kernel) (by decide +kernel)
set_option maxRecDepth 20000 in
theorem gX7_readPart_X7_kindOf : GoodIn wsX7_readPart (wsV RX7 58 RX7 yX7_kindOf wsX7_kindOf) := goodIn_app (goodIn_of _ (by decide +kernel)) ggX7_readPart_X7_kindOf
set_option maxRecDepth 20000 in
theorem ggX7_readPart_X7_fail : GoodIn wsX7_readPart wsX7_fail := goodIn_r _ [84, 85, 86, 164, 165, 166, 167, 168, 169] (by decide +kernel) (by decide +kernel)
set_option maxRecDepth 20000 in
theorem gX7_readPart_X7_fail : GoodIn wsX7_readPart (wsV RX7 62 RX7 yX7_fail wsX7_fail) := goodIn_app (goodIn_of _ (by decide +kernel)) ggX7_readPart_X7_fail
set_option maxRecDepth 20000 in
theorem ggX7_readPart_X5_mostParts : GoodIn wsX7_readPart wsX5_mostParts := goodIn_r _ [91] (by decide +kernel) (by decide +kernel)
set_option maxRecDepth 20000 in
theorem gX7_readPart_X5_mostParts_u38X5 : GoodIn wsX7_readPart (va_wsU RX7 38 RX5 "HiredEnemy$Telling" ⟨"HiredEnemy$Telling", "mostParts", "()I"⟩ yX5_mostParts wsX5_mostParts) := goodIn_app (goodIn_of _ (by decide +kernel)) ggX7_readPart_X5_mostParts
set_option maxRecDepth 20000 in
theorem ggX7_readPart_X6_mostParts : GoodIn wsX7_readPart wsX6_mostParts := goodIn_r _ [94] (by decide +kernel) (by decide +kernel)
set_option maxRecDepth 20000 in
theorem gX7_readPart_X6_mostParts_u38X6 : GoodIn wsX7_readPart (va_wsU RX7 38 RX6 "HiredEnemy$Telling" ⟨"HiredEnemy$Telling", "mostParts", "()I"⟩ yX6_mostParts wsX6_mostParts) := goodIn_app (goodIn_of _ (by decide +kernel)) ggX7_readPart_X6_mostParts
set_option maxRecDepth 20000 in
theorem ggX7_readPart_X5_isFull : GoodIn wsX7_readPart wsX5_isFull := goodIn_r _ [99] (by decide +kernel) (by decide +kernel)
set_option maxRecDepth 20000 in
theorem gX7_readPart_X5_isFull_u66X5 : GoodIn wsX7_readPart (va_wsU RX7 66 RX5 "HiredEnemy$Telling" ⟨"HiredEnemy$Telling", "isFull", "(I)Z"⟩ yX5_isFull wsX5_isFull) := goodIn_app (goodIn_of _ (by decide +kernel)) ggX7_readPart_X5_isFull
set_option maxRecDepth 20000 in
theorem ggX7_readPart_X6_isFull : GoodIn wsX7_readPart wsX6_isFull := goodIn_r _ [102, 103, 170, 171, 172, 173, 174] (by decide +kernel) (by decide +kernel)
set_option maxRecDepth 20000 in
theorem gX7_readPart_X6_isFull_u66X6 : GoodIn wsX7_readPart (va_wsU RX7 66 RX6 "HiredEnemy$Telling" ⟨"HiredEnemy$Telling", "isFull", "(I)Z"⟩ yX6_isFull wsX6_isFull) := goodIn_app (goodIn_of _ (by decide +kernel)) ggX7_readPart_X6_isFull
set_option maxRecDepth 20000 in
theorem ggX7_readPart_X5_numbers : GoodIn wsX7_readPart wsX5_numbers := goodIn_r _ [108] (by decide +kernel) (by decide +kernel)
set_option maxRecDepth 20000 in
theorem gX7_readPart_X5_numbers_u70X5 : GoodIn wsX7_readPart (va_wsU RX7 70 RX5 "HiredEnemy$Telling" ⟨"HiredEnemy$Telling", "numbers", "(I)I"⟩ yX5_numbers wsX5_numbers) := goodIn_app (goodIn_of _ (by decide +kernel)) ggX7_readPart_X5_numbers
set_option maxRecDepth 20000 in
theorem ggX7_readPart_X6_numbers : GoodIn wsX7_readPart wsX6_numbers := goodIn_r _ [111, 112, 113, 114, 115] (by decide +kernel) (by decide +kernel)
set_option maxRecDepth 20000 in
theorem gX7_readPart_X6_numbers_u70X6 : GoodIn wsX7_readPart (va_wsU RX7 70 RX6 "HiredEnemy$Telling" ⟨"HiredEnemy$Telling", "numbers", "(I)I"⟩ yX6_numbers wsX6_numbers) := goodIn_app (goodIn_of _ (by decide +kernel)) ggX7_readPart_X6_numbers
set_option maxRecDepth 20000 in
theorem ggX7_readPart_X5_low : GoodIn wsX7_readPart wsX5_low := goodIn_r _ [120] (by decide +kernel) (by decide +kernel)
set_option maxRecDepth 20000 in
theorem gX7_readPart_X5_low_u73X5 : GoodIn wsX7_readPart (va_wsU RX7 73 RX5 "HiredEnemy$Telling" ⟨"HiredEnemy$Telling", "low", "(II)I"⟩ yX5_low wsX5_low) := goodIn_app (goodIn_of _ (by decide +kernel)) ggX7_readPart_X5_low
set_option maxRecDepth 20000 in
theorem ggX7_readPart_X6_low : GoodIn wsX7_readPart wsX6_low := goodIn_r _ [123] (by decide +kernel) (by decide +kernel)
set_option maxRecDepth 20000 in
theorem gX7_readPart_X6_low_u73X6 : GoodIn wsX7_readPart (va_wsU RX7 73 RX6 "HiredEnemy$Telling" ⟨"HiredEnemy$Telling", "low", "(II)I"⟩ yX6_low wsX6_low) := goodIn_app (goodIn_of _ (by decide +kernel)) ggX7_readPart_X6_low
set_option maxRecDepth 20000 in
theorem ggX7_readPart_X5_high : GoodIn wsX7_readPart wsX5_high := goodIn_r _ [128, 129, 130, 113, 114, 115, 175, 176, 177] (by decide +kernel) (by decide +kernel)
set_option maxRecDepth 20000 in
theorem gX7_readPart_X5_high_u76X5 : GoodIn wsX7_readPart (va_wsU RX7 76 RX5 "HiredEnemy$Telling" ⟨"HiredEnemy$Telling", "high", "(II)I"⟩ yX5_high wsX5_high) := goodIn_app (goodIn_of _ (by decide +kernel)) ggX7_readPart_X5_high
set_option maxRecDepth 20000 in
theorem ggX7_readPart_X6_high : GoodIn wsX7_readPart wsX6_high := goodIn_r _ [133, 134, 113, 114, 115] (by decide +kernel) (by decide +kernel)
set_option maxRecDepth 20000 in
theorem gX7_readPart_X6_high_u76X6 : GoodIn wsX7_readPart (va_wsU RX7 76 RX6 "HiredEnemy$Telling" ⟨"HiredEnemy$Telling", "high", "(II)I"⟩ yX6_high wsX6_high) := goodIn_app (goodIn_of _ (by decide +kernel)) ggX7_readPart_X6_high
set_option maxRecDepth 20000 in
theorem ggX7_readPart_X7_readNumber : GoodIn wsX7_readPart wsX7_readNumber := goodIn_r _ [138, 1, 7, 8, 139, 3, 4, 5, 6, 2, 140, 141, 142, 12, 143, 81, 82, 83, 84, 85, 86, 113, 114, 115, 164, 165, 166, 167, 168, 169] (by decide +kernel) (by decide +kernel)
set_option maxRecDepth 20000 in
theorem gX7_readPart_X7_readNumber : GoodIn wsX7_readPart (wsV RX7 79 RX7 yX7_readNumber wsX7_readNumber) := goodIn_app (goodIn_of _ (by decide +kernel)) ggX7_readPart_X7_readNumber
set_option maxRecDepth 20000 in
theorem ggX7_readPart_X7_skipBlanks : GoodIn wsX7_readPart wsX7_skipBlanks := goodIn_r _ [143, 1, 7, 8, 164, 165, 166, 167, 168, 169] (by decide +kernel) (by decide +kernel)
set_option maxRecDepth 20000 in
theorem gX7_readPart_X7_skipBlanks : GoodIn wsX7_readPart (wsV RX7 44 RX7 yX7_skipBlanks wsX7_skipBlanks) := goodIn_app (goodIn_of _ (by decide +kernel)) ggX7_readPart_X7_skipBlanks
set_option maxRecDepth 20000 in
theorem ggX7_readPart_X5_store : GoodIn wsX7_readPart wsX5_store := goodIn_r _ [148, 149, 150, 113, 114, 115, 175, 176, 177] (by decide +kernel) (by decide +kernel)
set_option maxRecDepth 20000 in
theorem gX7_readPart_X5_store_u83X5 : GoodIn wsX7_readPart (va_wsU RX7 83 RX5 "HiredEnemy$Telling" ⟨"HiredEnemy$Telling", "store", "(I[I)V"⟩ yX5_store wsX5_store) := goodIn_app (goodIn_of _ (by decide +kernel)) ggX7_readPart_X5_store
set_option maxRecDepth 20000 in
theorem ggX7_readPart_X6_store : GoodIn wsX7_readPart wsX6_store := goodIn_r _ [153, 154, 155, 156, 157, 158, 22, 159, 103, 160, 161, 113, 114, 115, 162, 110, 163, 111, 112, 170, 171, 172, 173, 174] (by decide +kernel) (by decide +kernel)
set_option maxRecDepth 20000 in
theorem gX7_readPart_X6_store_u83X6 : GoodIn wsX7_readPart (va_wsU RX7 83 RX6 "HiredEnemy$Telling" ⟨"HiredEnemy$Telling", "store", "(I[I)V"⟩ yX6_store wsX6_store) := goodIn_app (goodIn_of _ (by decide +kernel)) ggX7_readPart_X6_store
theorem dX7_readPart_0 : decode cX7_readPart 0 = .ok (.aload_n 0, 1) := by decide +kernel
theorem dX7_readPart_1 : decode cX7_readPart 1 = .ok (.getfield 32, 3) := by decide +kernel
theorem dX7_readPart_4 : decode cX7_readPart 4 = .ok (.istore_n 3, 1) := by decide +kernel
theorem dX7_readPart_5 : decode cX7_readPart 5 = .ok (.aload_n 0, 1) := by decide +kernel
theorem dX7_readPart_6 : decode cX7_readPart 6 = .ok (.invokevirtual 51, 3) := by decide +kernel
theorem dX7_readPart_9 : decode cX7_readPart 9 = .ok (.aload_n 0, 1) := by decide +kernel
theorem dX7_readPart_10 : decode cX7_readPart 10 = .ok (.aload_n 1, 1) := by decide +kernel
theorem dX7_readPart_11 : decode cX7_readPart 11 = .ok (.invokevirtual 54, 3) := by decide +kernel
theorem dX7_readPart_14 : decode cX7_readPart 14 = .ok (.iload_n 3, 1) := by decide +kernel
theorem dX7_readPart_15 : decode cX7_readPart 15 = .ok (.invokevirtual 58, 3) := by decide +kernel
theorem dX7_readPart_18 : decode cX7_readPart 18 = .ok (.istore 4, 2) := by decide +kernel
theorem dX7_readPart_20 : decode cX7_readPart 20 = .ok (.iload 4, 2) := by decide +kernel
theorem dX7_readPart_22 : decode cX7_readPart 22 = .ok (.iconst (-1), 1) := by decide +kernel
theorem dX7_readPart_23 : decode cX7_readPart 23 = .ok (.if_icmp .ne 10, 3) := by decide +kernel
theorem dX7_readPart_26 : decode cX7_readPart 26 = .ok (.aload_n 0, 1) := by decide +kernel
theorem dX7_readPart_27 : decode cX7_readPart 27 = .ok (.iconst 1, 1) := by decide +kernel
theorem dX7_readPart_28 : decode cX7_readPart 28 = .ok (.iload_n 3, 1) := by decide +kernel
theorem dX7_readPart_29 : decode cX7_readPart 29 = .ok (.invokevirtual 62, 3) := by decide +kernel
theorem dX7_readPart_32 : decode cX7_readPart 32 = .ok (.ireturn, 1) := by decide +kernel
theorem dX7_readPart_33 : decode cX7_readPart 33 = .ok (.iload_n 2, 1) := by decide +kernel
theorem dX7_readPart_34 : decode cX7_readPart 34 = .ok (.aload_n 1, 1) := by decide +kernel
theorem dX7_readPart_35 : decode cX7_readPart 35 = .ok (.invokevirtual 38, 3) := by decide +kernel
theorem dX7_readPart_38 : decode cX7_readPart 38 = .ok (.if_icmp .ge 12, 3) := by decide +kernel
theorem dX7_readPart_41 : decode cX7_readPart 41 = .ok (.aload_n 1, 1) := by decide +kernel
theorem dX7_readPart_42 : decode cX7_readPart 42 = .ok (.iload 4, 2) := by decide +kernel
theorem dX7_readPart_44 : decode cX7_readPart 44 = .ok (.invokevirtual 66, 3) := by decide +kernel
theorem dX7_readPart_47 : decode cX7_readPart 47 = .ok (.ifCond .eq 10, 3) := by decide +kernel
theorem dX7_readPart_50 : decode cX7_readPart 50 = .ok (.aload_n 0, 1) := by decide +kernel
theorem dX7_readPart_51 : decode cX7_readPart 51 = .ok (.iconst 3, 1) := by decide +kernel
theorem dX7_readPart_52 : decode cX7_readPart 52 = .ok (.iload_n 3, 1) := by decide +kernel
theorem dX7_readPart_53 : decode cX7_readPart 53 = .ok (.invokevirtual 62, 3) := by decide +kernel
theorem dX7_readPart_56 : decode cX7_readPart 56 = .ok (.ireturn, 1) := by decide +kernel
theorem dX7_readPart_57 : decode cX7_readPart 57 = .ok (.aload_n 1, 1) := by decide +kernel
theorem dX7_readPart_58 : decode cX7_readPart 58 = .ok (.iload 4, 2) := by decide +kernel
theorem dX7_readPart_60 : decode cX7_readPart 60 = .ok (.invokevirtual 70, 3) := by decide +kernel
theorem dX7_readPart_63 : decode cX7_readPart 63 = .ok (.aload_n 0, 1) := by decide +kernel
theorem dX7_readPart_64 : decode cX7_readPart 64 = .ok (.getfield 19, 3) := by decide +kernel
theorem dX7_readPart_67 : decode cX7_readPart 67 = .ok (.arraylength, 1) := by decide +kernel
theorem dX7_readPart_68 : decode cX7_readPart 68 = .ok (.invokestatic 23, 3) := by decide +kernel
theorem dX7_readPart_71 : decode cX7_readPart 71 = .ok (.istore 5, 2) := by decide +kernel
theorem dX7_readPart_73 : decode cX7_readPart 73 = .ok (.iconst 0, 1) := by decide +kernel
theorem dX7_readPart_74 : decode cX7_readPart 74 = .ok (.istore 6, 2) := by decide +kernel
theorem dX7_readPart_76 : decode cX7_readPart 76 = .ok (.iload 6, 2) := by decide +kernel
theorem dX7_readPart_78 : decode cX7_readPart 78 = .ok (.iload 5, 2) := by decide +kernel
theorem dX7_readPart_80 : decode cX7_readPart 80 = .ok (.if_icmp .ge 36, 3) := by decide +kernel
theorem dX7_readPart_83 : decode cX7_readPart 83 = .ok (.aload_n 0, 1) := by decide +kernel
theorem dX7_readPart_84 : decode cX7_readPart 84 = .ok (.iload 6, 2) := by decide +kernel
theorem dX7_readPart_86 : decode cX7_readPart 86 = .ok (.aload_n 1, 1) := by decide +kernel
theorem dX7_readPart_87 : decode cX7_readPart 87 = .ok (.iload 4, 2) := by decide +kernel
theorem dX7_readPart_89 : decode cX7_readPart 89 = .ok (.iload 6, 2) := by decide +kernel
theorem dX7_readPart_91 : decode cX7_readPart 91 = .ok (.invokevirtual 73, 3) := by decide +kernel
theorem dX7_readPart_94 : decode cX7_readPart 94 = .ok (.aload_n 1, 1) := by decide +kernel
theorem dX7_readPart_95 : decode cX7_readPart 95 = .ok (.iload 4, 2) := by decide +kernel
theorem dX7_readPart_97 : decode cX7_readPart 97 = .ok (.iload 6, 2) := by decide +kernel
theorem dX7_readPart_99 : decode cX7_readPart 99 = .ok (.invokevirtual 76, 3) := by decide +kernel
theorem dX7_readPart_102 : decode cX7_readPart 102 = .ok (.invokevirtual 79, 3) := by decide +kernel
theorem dX7_readPart_105 : decode cX7_readPart 105 = .ok (.ifCond .ne 5, 3) := by decide +kernel
theorem dX7_readPart_108 : decode cX7_readPart 108 = .ok (.iconst 0, 1) := by decide +kernel
theorem dX7_readPart_109 : decode cX7_readPart 109 = .ok (.ireturn, 1) := by decide +kernel
theorem dX7_readPart_110 : decode cX7_readPart 110 = .ok (.iinc 6 1, 3) := by decide +kernel
theorem dX7_readPart_113 : decode cX7_readPart 113 = .ok (.goto (-37), 3) := by decide +kernel
theorem dX7_readPart_116 : decode cX7_readPart 116 = .ok (.aload_n 0, 1) := by decide +kernel
theorem dX7_readPart_117 : decode cX7_readPart 117 = .ok (.invokevirtual 44, 3) := by decide +kernel
theorem dX7_readPart_120 : decode cX7_readPart 120 = .ok (.aload_n 0, 1) := by decide +kernel
theorem dX7_readPart_121 : decode cX7_readPart 121 = .ok (.getfield 32, 3) := by decide +kernel
theorem dX7_readPart_124 : decode cX7_readPart 124 = .ok (.aload_n 0, 1) := by decide +kernel
theorem dX7_readPart_125 : decode cX7_readPart 125 = .ok (.getfield 29, 3) := by decide +kernel
theorem dX7_readPart_128 : decode cX7_readPart 128 = .ok (.if_icmp .ge 17, 3) := by decide +kernel
theorem dX7_readPart_131 : decode cX7_readPart 131 = .ok (.aload_n 0, 1) := by decide +kernel
theorem dX7_readPart_132 : decode cX7_readPart 132 = .ok (.getfield 9, 3) := by decide +kernel
theorem dX7_readPart_135 : decode cX7_readPart 135 = .ok (.aload_n 0, 1) := by decide +kernel
theorem dX7_readPart_136 : decode cX7_readPart 136 = .ok (.getfield 32, 3) := by decide +kernel
theorem dX7_readPart_139 : decode cX7_readPart 139 = .ok (.baload, 1) := by decide +kernel
theorem dX7_readPart_140 : decode cX7_readPart 140 = .ok (.bipush 59, 2) := by decide +kernel
theorem dX7_readPart_142 : decode cX7_readPart 142 = .ok (.if_icmp .eq 13, 3) := by decide +kernel
theorem dX7_readPart_145 : decode cX7_readPart 145 = .ok (.aload_n 0, 1) := by decide +kernel
theorem dX7_readPart_146 : decode cX7_readPart 146 = .ok (.iconst 1, 1) := by decide +kernel
theorem dX7_readPart_147 : decode cX7_readPart 147 = .ok (.aload_n 0, 1) := by decide +kernel
theorem dX7_readPart_148 : decode cX7_readPart 148 = .ok (.getfield 32, 3) := by decide +kernel
theorem dX7_readPart_151 : decode cX7_readPart 151 = .ok (.invokevirtual 62, 3) := by decide +kernel
theorem dX7_readPart_154 : decode cX7_readPart 154 = .ok (.ireturn, 1) := by decide +kernel
theorem dX7_readPart_155 : decode cX7_readPart 155 = .ok (.aload_n 0, 1) := by decide +kernel
theorem dX7_readPart_156 : decode cX7_readPart 156 = .ok (.dup, 1) := by decide +kernel
theorem dX7_readPart_157 : decode cX7_readPart 157 = .ok (.getfield 32, 3) := by decide +kernel
theorem dX7_readPart_160 : decode cX7_readPart 160 = .ok (.iconst 1, 1) := by decide +kernel
theorem dX7_readPart_161 : decode cX7_readPart 161 = .ok (.iadd, 1) := by decide +kernel
theorem dX7_readPart_162 : decode cX7_readPart 162 = .ok (.putfield 32, 3) := by decide +kernel
theorem dX7_readPart_165 : decode cX7_readPart 165 = .ok (.aload_n 1, 1) := by decide +kernel
theorem dX7_readPart_166 : decode cX7_readPart 166 = .ok (.iload 4, 2) := by decide +kernel
theorem dX7_readPart_168 : decode cX7_readPart 168 = .ok (.aload_n 0, 1) := by decide +kernel
theorem dX7_readPart_169 : decode cX7_readPart 169 = .ok (.getfield 19, 3) := by decide +kernel
theorem dX7_readPart_172 : decode cX7_readPart 172 = .ok (.invokevirtual 83, 3) := by decide +kernel
theorem dX7_readPart_175 : decode cX7_readPart 175 = .ok (.iconst 1, 1) := by decide +kernel
theorem dX7_readPart_176 : decode cX7_readPart 176 = .ok (.ireturn, 1) := by decide +kernel
set_option maxRecDepth 20000 in
theorem ggX7_readNumber_X7_skipBlanks : GoodIn wsX7_readNumber wsX7_skipBlanks := goodIn_r _ [14, 1, 2, 3, 24, 25, 26, 27, 28, 29] (by decide +kernel) (by decide +kernel)
set_option maxRecDepth 20000 in
theorem gX7_readNumber_X7_skipBlanks : GoodIn wsX7_readNumber (wsV RX7 44 RX7 yX7_skipBlanks wsX7_skipBlanks) := goodIn_app (goodIn_of _ (by decide +kernel)) ggX7_readNumber_X7_skipBlanks
set_option maxRecDepth 20000 in
theorem ggX7_readNumber_X7_fail : GoodIn wsX7_readNumber wsX7_fail := goodIn_r _ [18, 19, 20, 24, 25, 26, 27, 28, 29] (by decide +kernel) (by decide +kernel)
set_option maxRecDepth 20000 in
theorem gX7_readNumber_X7_fail : GoodIn wsX7_readNumber (wsV RX7 62 RX7 yX7_fail wsX7_fail) := goodIn_app (goodIn_of _ (by decide +kernel)) ggX7_readNumber_X7_fail
set_option maxRecDepth 20000 in
theorem ggX7_readNumber_X10_within : GoodIn wsX7_readNumber wsX10_within := goodIn_r _ [23] (by decide +kernel) (by decide +kernel)
set_option maxRecDepth 20000 in
theorem gX7_readNumber_X10_within_n88 : GoodIn wsX7_readNumber (wsX10_within) := ggX7_readNumber_X10_within
theorem dX7_readNumber_0 : decode cX7_readNumber 0 = .ok (.aload_n 0, 1) := by decide +kernel
theorem dX7_readNumber_1 : decode cX7_readNumber 1 = .ok (.invokevirtual 44, 3) := by decide +kernel
theorem dX7_readNumber_4 : decode cX7_readNumber 4 = .ok (.aload_n 0, 1) := by decide +kernel
theorem dX7_readNumber_5 : decode cX7_readNumber 5 = .ok (.getfield 32, 3) := by decide +kernel
theorem dX7_readNumber_8 : decode cX7_readNumber 8 = .ok (.istore 4, 2) := by decide +kernel
theorem dX7_readNumber_10 : decode cX7_readNumber 10 = .ok (.iconst 0, 1) := by decide +kernel
theorem dX7_readNumber_11 : decode cX7_readNumber 11 = .ok (.istore 5, 2) := by decide +kernel
theorem dX7_readNumber_13 : decode cX7_readNumber 13 = .ok (.aload_n 0, 1) := by decide +kernel
theorem dX7_readNumber_14 : decode cX7_readNumber 14 = .ok (.getfield 32, 3) := by decide +kernel
