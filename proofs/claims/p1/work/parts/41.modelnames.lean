set_option maxRecDepth 20000 in
theorem ggX11_init_X11_tellsNothing : GoodIn wsX11_init wsX11_tellsNothing := sorry
set_option maxRecDepth 20000 in
theorem gX11_init_X11_tellsNothing : GoodIn wsX11_init (wsV RX11 79 RX11 yX11_tellsNothing wsX11_tellsNothing) := sorry
set_option maxRecDepth 20000 in
theorem ggX11_init_X11_stands0 : GoodIn wsX11_init wsX11_stands0 := sorry
set_option maxRecDepth 20000 in
theorem gX11_init_X11_stands0 : GoodIn wsX11_init (wsV RX11 82 RX11 yX11_stands0 wsX11_stands0) := sorry
theorem dX11_init_0 : decode cX11_init 0 = .ok (.aload_n 0, 1) := sorry
theorem dX11_init_1 : decode cX11_init 1 = .ok (.invokespecial 1, 3) := sorry
theorem dX11_init_4 : decode cX11_init 4 = .ok (.aload_n 0, 1) := sorry
theorem dX11_init_5 : decode cX11_init 5 = .ok (.iconst (-1), 1) := sorry
theorem dX11_init_6 : decode cX11_init 6 = .ok (.putfield 9, 3) := sorry
theorem dX11_init_9 : decode cX11_init 9 = .ok (.aload_n 0, 1) := sorry
theorem dX11_init_10 : decode cX11_init 10 = .ok (.sipush 500, 3) := sorry
theorem dX11_init_13 : decode cX11_init 13 = .ok (.newarray .int, 2) := sorry
theorem dX11_init_15 : decode cX11_init 15 = .ok (.putfield 13, 3) := sorry
theorem dX11_init_18 : decode cX11_init 18 = .ok (.aload_n 0, 1) := sorry
theorem dX11_init_19 : decode cX11_init 19 = .ok (.iconst 3, 1) := sorry
theorem dX11_init_20 : decode cX11_init 20 = .ok (.newarray .int, 2) := sorry
theorem dX11_init_22 : decode cX11_init 22 = .ok (.putfield 17, 3) := sorry
theorem dX11_init_25 : decode cX11_init 25 = .ok (.aload_n 0, 1) := sorry
theorem dX11_init_26 : decode cX11_init 26 = .ok (.bipush 25, 2) := sorry
theorem dX11_init_28 : decode cX11_init 28 = .ok (.newarray .int, 2) := sorry
theorem dX11_init_30 : decode cX11_init 30 = .ok (.putfield 20, 3) := sorry
theorem dX11_init_33 : decode cX11_init 33 = .ok (.aload_n 0, 1) := sorry
theorem dX11_init_34 : decode cX11_init 34 = .ok (.bipush 25, 2) := sorry
theorem dX11_init_36 : decode cX11_init 36 = .ok (.newarray .int, 2) := sorry
theorem dX11_init_38 : decode cX11_init 38 = .ok (.putfield 23, 3) := sorry
theorem dX11_init_41 : decode cX11_init 41 = .ok (.aload_n 0, 1) := sorry
theorem dX11_init_42 : decode cX11_init 42 = .ok (.bipush 6, 2) := sorry
theorem dX11_init_44 : decode cX11_init 44 = .ok (.iconst 2, 1) := sorry
theorem dX11_init_45 : decode cX11_init 45 = .ok (.multianewarray 26 2, 4) := sorry
theorem dX11_init_49 : decode cX11_init 49 = .ok (.putfield 28, 3) := sorry
theorem dX11_init_52 : decode cX11_init 52 = .ok (.aload_n 0, 1) := sorry
theorem dX11_init_53 : decode cX11_init 53 = .ok (.bipush 6, 2) := sorry
theorem dX11_init_55 : decode cX11_init 55 = .ok (.iconst 2, 1) := sorry
theorem dX11_init_56 : decode cX11_init 56 = .ok (.multianewarray 26 2, 4) := sorry
theorem dX11_init_60 : decode cX11_init 60 = .ok (.putfield 31, 3) := sorry
theorem dX11_init_63 : decode cX11_init 63 = .ok (.aload_n 0, 1) := sorry
theorem dX11_init_64 : decode cX11_init 64 = .ok (.bipush 7, 2) := sorry
theorem dX11_init_66 : decode cX11_init 66 = .ok (.newarray .int, 2) := sorry
theorem dX11_init_68 : decode cX11_init 68 = .ok (.putfield 34, 3) := sorry
theorem dX11_init_71 : decode cX11_init 71 = .ok (.aload_n 0, 1) := sorry
theorem dX11_init_72 : decode cX11_init 72 = .ok (.bipush 36, 2) := sorry
theorem dX11_init_74 : decode cX11_init 74 = .ok (.newarray .int, 2) := sorry
theorem dX11_init_76 : decode cX11_init 76 = .ok (.putfield 37, 3) := sorry
theorem dX11_init_79 : decode cX11_init 79 = .ok (.aload_n 0, 1) := sorry
theorem dX11_init_80 : decode cX11_init 80 = .ok (.bipush 7, 2) := sorry
theorem dX11_init_82 : decode cX11_init 82 = .ok (.bipush 7, 2) := sorry
theorem dX11_init_84 : decode cX11_init 84 = .ok (.multianewarray 26 2, 4) := sorry
theorem dX11_init_88 : decode cX11_init 88 = .ok (.putfield 40, 3) := sorry
theorem dX11_init_91 : decode cX11_init 91 = .ok (.aload_n 0, 1) := sorry
theorem dX11_init_92 : decode cX11_init 92 = .ok (.bipush 7, 2) := sorry
theorem dX11_init_94 : decode cX11_init 94 = .ok (.bipush 36, 2) := sorry
theorem dX11_init_96 : decode cX11_init 96 = .ok (.multianewarray 26 2, 4) := sorry
theorem dX11_init_100 : decode cX11_init 100 = .ok (.putfield 43, 3) := sorry
theorem dX11_init_103 : decode cX11_init 103 = .ok (.aload_n 0, 1) := sorry
theorem dX11_init_104 : decode cX11_init 104 = .ok (.bipush 25, 2) := sorry
theorem dX11_init_106 : decode cX11_init 106 = .ok (.newarray .int, 2) := sorry
theorem dX11_init_108 : decode cX11_init 108 = .ok (.putfield 46, 3) := sorry
theorem dX11_init_111 : decode cX11_init 111 = .ok (.aload_n 0, 1) := sorry
theorem dX11_init_112 : decode cX11_init 112 = .ok (.bipush 25, 2) := sorry
theorem dX11_init_114 : decode cX11_init 114 = .ok (.newarray .int, 2) := sorry
theorem dX11_init_116 : decode cX11_init 116 = .ok (.putfield 49, 3) := sorry
theorem dX11_init_119 : decode cX11_init 119 = .ok (.aload_n 0, 1) := sorry
theorem dX11_init_120 : decode cX11_init 120 = .ok (.bipush 121, 2) := sorry
theorem dX11_init_122 : decode cX11_init 122 = .ok (.bipush 25, 2) := sorry
theorem dX11_init_124 : decode cX11_init 124 = .ok (.multianewarray 26 2, 4) := sorry
theorem dX11_init_128 : decode cX11_init 128 = .ok (.putfield 52, 3) := sorry
theorem dX11_init_131 : decode cX11_init 131 = .ok (.aload_n 0, 1) := sorry
theorem dX11_init_132 : decode cX11_init 132 = .ok (.bipush 120, 2) := sorry
theorem dX11_init_134 : decode cX11_init 134 = .ok (.bipush 6, 2) := sorry
theorem dX11_init_136 : decode cX11_init 136 = .ok (.multianewarray 26 2, 4) := sorry
theorem dX11_init_140 : decode cX11_init 140 = .ok (.putfield 55, 3) := sorry
theorem dX11_init_143 : decode cX11_init 143 = .ok (.aload_n 0, 1) := sorry
theorem dX11_init_144 : decode cX11_init 144 = .ok (.iconst 1, 1) := sorry
theorem dX11_init_145 : decode cX11_init 145 = .ok (.putfield 58, 3) := sorry
theorem dX11_init_148 : decode cX11_init 148 = .ok (.aload_n 0, 1) := sorry
theorem dX11_init_149 : decode cX11_init 149 = .ok (.iconst 1, 1) := sorry
theorem dX11_init_150 : decode cX11_init 150 = .ok (.putfield 61, 3) := sorry
theorem dX11_init_153 : decode cX11_init 153 = .ok (.aload_n 0, 1) := sorry
theorem dX11_init_154 : decode cX11_init 154 = .ok (.iconst 4, 1) := sorry
theorem dX11_init_155 : decode cX11_init 155 = .ok (.iconst 2, 1) := sorry
theorem dX11_init_156 : decode cX11_init 156 = .ok (.multianewarray 26 2, 4) := sorry
theorem dX11_init_160 : decode cX11_init 160 = .ok (.putfield 64, 3) := sorry
theorem dX11_init_163 : decode cX11_init 163 = .ok (.aload_n 0, 1) := sorry
theorem dX11_init_164 : decode cX11_init 164 = .ok (.bipush 12, 2) := sorry
theorem dX11_init_166 : decode cX11_init 166 = .ok (.iconst 2, 1) := sorry
theorem dX11_init_167 : decode cX11_init 167 = .ok (.multianewarray 26 2, 4) := sorry
theorem dX11_init_171 : decode cX11_init 171 = .ok (.putfield 67, 3) := sorry
theorem dX11_init_174 : decode cX11_init 174 = .ok (.aload_n 0, 1) := sorry
theorem dX11_init_175 : decode cX11_init 175 = .ok (.iconst 2, 1) := sorry
theorem dX11_init_176 : decode cX11_init 176 = .ok (.bipush 12, 2) := sorry
theorem dX11_init_178 : decode cX11_init 178 = .ok (.multianewarray 26 2, 4) := sorry
theorem dX11_init_182 : decode cX11_init 182 = .ok (.putfield 70, 3) := sorry
theorem dX11_init_185 : decode cX11_init 185 = .ok (.aload_n 0, 1) := sorry
theorem dX11_init_186 : decode cX11_init 186 = .ok (.iconst 3, 1) := sorry
theorem dX11_init_187 : decode cX11_init 187 = .ok (.sipush 3850, 3) := sorry
theorem dX11_init_190 : decode cX11_init 190 = .ok (.multianewarray 26 2, 4) := sorry
theorem dX11_init_194 : decode cX11_init 194 = .ok (.putfield 73, 3) := sorry
theorem dX11_init_197 : decode cX11_init 197 = .ok (.aload_n 0, 1) := sorry
theorem dX11_init_198 : decode cX11_init 198 = .ok (.bipush 13, 2) := sorry
theorem dX11_init_200 : decode cX11_init 200 = .ok (.iconst 3, 1) := sorry
theorem dX11_init_201 : decode cX11_init 201 = .ok (.multianewarray 26 2, 4) := sorry
theorem dX11_init_205 : decode cX11_init 205 = .ok (.putfield 76, 3) := sorry
theorem dX11_init_208 : decode cX11_init 208 = .ok (.aload_n 0, 1) := sorry
theorem dX11_init_209 : decode cX11_init 209 = .ok (.invokevirtual 79, 3) := sorry
theorem dX11_init_212 : decode cX11_init 212 = .ok (.aload_n 0, 1) := sorry
theorem dX11_init_213 : decode cX11_init 213 = .ok (.invokevirtual 82, 3) := sorry
theorem dX11_init_216 : decode cX11_init 216 = .ok (.return_, 1) := sorry
theorem dX11_tellsNothing_0 : decode cX11_tellsNothing 0 = .ok (.bipush 15, 2) := sorry
theorem dX11_tellsNothing_2 : decode cX11_tellsNothing 2 = .ok (.newarray .int, 2) := sorry
theorem dX11_tellsNothing_4 : decode cX11_tellsNothing 4 = .ok (.dup, 1) := sorry
theorem dX11_tellsNothing_5 : decode cX11_tellsNothing 5 = .ok (.iconst 0, 1) := sorry
theorem dX11_tellsNothing_6 : decode cX11_tellsNothing 6 = .ok (.iconst 0, 1) := sorry
theorem dX11_tellsNothing_7 : decode cX11_tellsNothing 7 = .ok (.iastore, 1) := sorry
theorem dX11_tellsNothing_8 : decode cX11_tellsNothing 8 = .ok (.dup, 1) := sorry
theorem dX11_tellsNothing_9 : decode cX11_tellsNothing 9 = .ok (.iconst 1, 1) := sorry
theorem dX11_tellsNothing_10 : decode cX11_tellsNothing 10 = .ok (.sipush 1000, 3) := sorry
theorem dX11_tellsNothing_13 : decode cX11_tellsNothing 13 = .ok (.iastore, 1) := sorry
theorem dX11_tellsNothing_14 : decode cX11_tellsNothing 14 = .ok (.dup, 1) := sorry
theorem dX11_tellsNothing_15 : decode cX11_tellsNothing 15 = .ok (.iconst 2, 1) := sorry
theorem dX11_tellsNothing_16 : decode cX11_tellsNothing 16 = .ok (.bipush 100, 2) := sorry
theorem dX11_tellsNothing_18 : decode cX11_tellsNothing 18 = .ok (.iastore, 1) := sorry
theorem dX11_tellsNothing_19 : decode cX11_tellsNothing 19 = .ok (.dup, 1) := sorry
theorem dX11_tellsNothing_20 : decode cX11_tellsNothing 20 = .ok (.iconst 3, 1) := sorry
theorem dX11_tellsNothing_21 : decode cX11_tellsNothing 21 = .ok (.iconst 3, 1) := sorry
theorem dX11_tellsNothing_22 : decode cX11_tellsNothing 22 = .ok (.iastore, 1) := sorry
theorem dX11_tellsNothing_23 : decode cX11_tellsNothing 23 = .ok (.dup, 1) := sorry
theorem dX11_tellsNothing_24 : decode cX11_tellsNothing 24 = .ok (.iconst 4, 1) := sorry
theorem dX11_tellsNothing_25 : decode cX11_tellsNothing 25 = .ok (.iconst 0, 1) := sorry
theorem dX11_tellsNothing_26 : decode cX11_tellsNothing 26 = .ok (.iastore, 1) := sorry
theorem dX11_tellsNothing_27 : decode cX11_tellsNothing 27 = .ok (.dup, 1) := sorry
theorem dX11_tellsNothing_28 : decode cX11_tellsNothing 28 = .ok (.iconst 5, 1) := sorry
theorem dX11_tellsNothing_29 : decode cX11_tellsNothing 29 = .ok (.bipush 100, 2) := sorry
theorem dX11_tellsNothing_31 : decode cX11_tellsNothing 31 = .ok (.iastore, 1) := sorry
theorem dX11_tellsNothing_32 : decode cX11_tellsNothing 32 = .ok (.dup, 1) := sorry
theorem dX11_tellsNothing_33 : decode cX11_tellsNothing 33 = .ok (.bipush 6, 2) := sorry
theorem dX11_tellsNothing_35 : decode cX11_tellsNothing 35 = .ok (.iconst 5, 1) := sorry
theorem dX11_tellsNothing_36 : decode cX11_tellsNothing 36 = .ok (.iastore, 1) := sorry
theorem dX11_tellsNothing_37 : decode cX11_tellsNothing 37 = .ok (.dup, 1) := sorry
theorem dX11_tellsNothing_38 : decode cX11_tellsNothing 38 = .ok (.bipush 7, 2) := sorry
theorem dX11_tellsNothing_40 : decode cX11_tellsNothing 40 = .ok (.sipush 5000, 3) := sorry
theorem dX11_tellsNothing_43 : decode cX11_tellsNothing 43 = .ok (.iastore, 1) := sorry
theorem dX11_tellsNothing_44 : decode cX11_tellsNothing 44 = .ok (.dup, 1) := sorry
theorem dX11_tellsNothing_45 : decode cX11_tellsNothing 45 = .ok (.bipush 8, 2) := sorry
theorem dX11_tellsNothing_47 : decode cX11_tellsNothing 47 = .ok (.bipush 20, 2) := sorry
theorem dX11_tellsNothing_49 : decode cX11_tellsNothing 49 = .ok (.iastore, 1) := sorry
theorem dX11_tellsNothing_50 : decode cX11_tellsNothing 50 = .ok (.dup, 1) := sorry
theorem dX11_tellsNothing_51 : decode cX11_tellsNothing 51 = .ok (.bipush 9, 2) := sorry
theorem dX11_tellsNothing_53 : decode cX11_tellsNothing 53 = .ok (.bipush 20, 2) := sorry
theorem dX11_tellsNothing_55 : decode cX11_tellsNothing 55 = .ok (.iastore, 1) := sorry
theorem dX11_tellsNothing_56 : decode cX11_tellsNothing 56 = .ok (.dup, 1) := sorry
theorem dX11_tellsNothing_57 : decode cX11_tellsNothing 57 = .ok (.bipush 10, 2) := sorry
theorem dX11_tellsNothing_59 : decode cX11_tellsNothing 59 = .ok (.bipush 10, 2) := sorry
theorem dX11_tellsNothing_61 : decode cX11_tellsNothing 61 = .ok (.iastore, 1) := sorry
theorem dX11_tellsNothing_62 : decode cX11_tellsNothing 62 = .ok (.dup, 1) := sorry
theorem dX11_tellsNothing_63 : decode cX11_tellsNothing 63 = .ok (.bipush 11, 2) := sorry
theorem dX11_tellsNothing_65 : decode cX11_tellsNothing 65 = .ok (.iconst 5, 1) := sorry
theorem dX11_tellsNothing_66 : decode cX11_tellsNothing 66 = .ok (.iastore, 1) := sorry
theorem dX11_tellsNothing_67 : decode cX11_tellsNothing 67 = .ok (.dup, 1) := sorry
theorem dX11_tellsNothing_68 : decode cX11_tellsNothing 68 = .ok (.bipush 12, 2) := sorry
theorem dX11_tellsNothing_70 : decode cX11_tellsNothing 70 = .ok (.iconst 1, 1) := sorry
theorem dX11_tellsNothing_71 : decode cX11_tellsNothing 71 = .ok (.iastore, 1) := sorry
theorem dX11_tellsNothing_72 : decode cX11_tellsNothing 72 = .ok (.dup, 1) := sorry
theorem dX11_tellsNothing_73 : decode cX11_tellsNothing 73 = .ok (.bipush 13, 2) := sorry
theorem dX11_tellsNothing_75 : decode cX11_tellsNothing 75 = .ok (.iconst 5, 1) := sorry
theorem dX11_tellsNothing_76 : decode cX11_tellsNothing 76 = .ok (.iastore, 1) := sorry
theorem dX11_tellsNothing_77 : decode cX11_tellsNothing 77 = .ok (.dup, 1) := sorry
theorem dX11_tellsNothing_78 : decode cX11_tellsNothing 78 = .ok (.bipush 14, 2) := sorry
theorem dX11_tellsNothing_80 : decode cX11_tellsNothing 80 = .ok (.iconst 1, 1) := sorry
theorem dX11_tellsNothing_81 : decode cX11_tellsNothing 81 = .ok (.iastore, 1) := sorry
theorem dX11_tellsNothing_82 : decode cX11_tellsNothing 82 = .ok (.astore_n 1, 1) := sorry
theorem dX11_tellsNothing_83 : decode cX11_tellsNothing 83 = .ok (.iconst 0, 1) := sorry
theorem dX11_tellsNothing_84 : decode cX11_tellsNothing 84 = .ok (.istore_n 2, 1) := sorry
theorem dX11_tellsNothing_85 : decode cX11_tellsNothing 85 = .ok (.iload_n 2, 1) := sorry
theorem dX11_tellsNothing_86 : decode cX11_tellsNothing 86 = .ok (.bipush 15, 2) := sorry
theorem dX11_tellsNothing_88 : decode cX11_tellsNothing 88 = .ok (.if_icmp .ge 18, 3) := sorry
theorem dX11_tellsNothing_91 : decode cX11_tellsNothing 91 = .ok (.aload_n 0, 1) := sorry
theorem dX11_tellsNothing_92 : decode cX11_tellsNothing 92 = .ok (.getfield 20, 3) := sorry
theorem dX11_tellsNothing_95 : decode cX11_tellsNothing 95 = .ok (.iload_n 2, 1) := sorry
theorem dX11_tellsNothing_96 : decode cX11_tellsNothing 96 = .ok (.aload_n 1, 1) := sorry
theorem dX11_tellsNothing_97 : decode cX11_tellsNothing 97 = .ok (.iload_n 2, 1) := sorry
theorem dX11_tellsNothing_98 : decode cX11_tellsNothing 98 = .ok (.iaload, 1) := sorry
theorem dX11_tellsNothing_99 : decode cX11_tellsNothing 99 = .ok (.iastore, 1) := sorry
theorem dX11_tellsNothing_100 : decode cX11_tellsNothing 100 = .ok (.iinc 2 1, 3) := sorry
theorem dX11_tellsNothing_103 : decode cX11_tellsNothing 103 = .ok (.goto (-18), 3) := sorry
theorem dX11_tellsNothing_106 : decode cX11_tellsNothing 106 = .ok (.iconst 0, 1) := sorry
theorem dX11_tellsNothing_107 : decode cX11_tellsNothing 107 = .ok (.istore_n 2, 1) := sorry
theorem dX11_tellsNothing_108 : decode cX11_tellsNothing 108 = .ok (.iload_n 2, 1) := sorry
theorem dX11_tellsNothing_109 : decode cX11_tellsNothing 109 = .ok (.bipush 10, 2) := sorry
theorem dX11_tellsNothing_111 : decode cX11_tellsNothing 111 = .ok (.if_icmp .ge 22, 3) := sorry
theorem dX11_tellsNothing_114 : decode cX11_tellsNothing 114 = .ok (.aload_n 0, 1) := sorry
theorem dX11_tellsNothing_115 : decode cX11_tellsNothing 115 = .ok (.getfield 20, 3) := sorry
theorem dX11_tellsNothing_118 : decode cX11_tellsNothing 118 = .ok (.bipush 15, 2) := sorry
theorem dX11_tellsNothing_120 : decode cX11_tellsNothing 120 = .ok (.iload_n 2, 1) := sorry
theorem dX11_tellsNothing_121 : decode cX11_tellsNothing 121 = .ok (.iadd, 1) := sorry
theorem dX11_tellsNothing_122 : decode cX11_tellsNothing 122 = .ok (.bipush 9, 2) := sorry
theorem dX11_tellsNothing_124 : decode cX11_tellsNothing 124 = .ok (.iload_n 2, 1) := sorry
theorem dX11_tellsNothing_125 : decode cX11_tellsNothing 125 = .ok (.isub, 1) := sorry
theorem dX11_tellsNothing_126 : decode cX11_tellsNothing 126 = .ok (.iastore, 1) := sorry
theorem dX11_tellsNothing_127 : decode cX11_tellsNothing 127 = .ok (.iinc 2 1, 3) := sorry
theorem dX11_tellsNothing_130 : decode cX11_tellsNothing 130 = .ok (.goto (-22), 3) := sorry
theorem dX11_tellsNothing_133 : decode cX11_tellsNothing 133 = .ok (.return_, 1) := sorry
theorem dX11_thrown_0 : decode cX11_thrown 0 = .ok (.aload_n 0, 1) := sorry
theorem dX11_thrown_1 : decode cX11_thrown 1 = .ok (.getfield 85, 3) := sorry
theorem dX11_thrown_4 : decode cX11_thrown 4 = .ok (.ireturn, 1) := sorry
theorem dX11_bad_0 : decode cX11_bad 0 = .ok (.iload_n 1, 1) := sorry
theorem dX11_bad_1 : decode cX11_bad 1 = .ok (.ifCond .eq 25, 3) := sorry
theorem dX11_bad_4 : decode cX11_bad 4 = .ok (.aload_n 0, 1) := sorry
theorem dX11_bad_5 : decode cX11_bad 5 = .ok (.getfield 85, 3) := sorry
theorem dX11_bad_8 : decode cX11_bad 8 = .ok (.ifCond .ne 18, 3) := sorry
theorem dX11_bad_11 : decode cX11_bad 11 = .ok (.aload_n 0, 1) := sorry
theorem dX11_bad_12 : decode cX11_bad 12 = .ok (.iload_n 2, 1) := sorry
theorem dX11_bad_13 : decode cX11_bad 13 = .ok (.putfield 85, 3) := sorry
theorem dX11_bad_16 : decode cX11_bad 16 = .ok (.aload_n 0, 1) := sorry
theorem dX11_bad_17 : decode cX11_bad 17 = .ok (.getfield 17, 3) := sorry
theorem dX11_bad_20 : decode cX11_bad 20 = .ok (.iload_n 3, 1) := sorry
theorem dX11_bad_21 : decode cX11_bad 21 = .ok (.dup2, 1) := sorry
theorem dX11_bad_22 : decode cX11_bad 22 = .ok (.iaload, 1) := sorry
theorem dX11_bad_23 : decode cX11_bad 23 = .ok (.iconst 1, 1) := sorry
theorem dX11_bad_24 : decode cX11_bad 24 = .ok (.iadd, 1) := sorry
theorem dX11_bad_25 : decode cX11_bad 25 = .ok (.iastore, 1) := sorry
theorem dX11_bad_26 : decode cX11_bad 26 = .ok (.aload_n 0, 1) := sorry
theorem dX11_bad_27 : decode cX11_bad 27 = .ok (.getfield 85, 3) := sorry
theorem dX11_bad_30 : decode cX11_bad 30 = .ok (.ifCond .eq 7, 3) := sorry
theorem dX11_bad_33 : decode cX11_bad 33 = .ok (.iconst 1, 1) := sorry
theorem dX11_bad_34 : decode cX11_bad 34 = .ok (.goto 4, 3) := sorry
theorem dX11_bad_37 : decode cX11_bad 37 = .ok (.iconst 0, 1) := sorry
theorem dX11_bad_38 : decode cX11_bad 38 = .ok (.ireturn, 1) := sorry
theorem dX11_in_0 : decode cX11_in 0 = .ok (.iload_n 0, 1) := sorry
theorem dX11_in_1 : decode cX11_in 1 = .ok (.iload_n 1, 1) := sorry
theorem dX11_in_2 : decode cX11_in 2 = .ok (.if_icmp .lt 12, 3) := sorry
theorem dX11_in_5 : decode cX11_in 5 = .ok (.iload_n 0, 1) := sorry
theorem dX11_in_6 : decode cX11_in 6 = .ok (.iload_n 2, 1) := sorry
theorem dX11_in_7 : decode cX11_in 7 = .ok (.if_icmp .gt 7, 3) := sorry
theorem dX11_in_10 : decode cX11_in 10 = .ok (.iconst 1, 1) := sorry
theorem dX11_in_11 : decode cX11_in 11 = .ok (.goto 4, 3) := sorry
theorem dX11_in_14 : decode cX11_in 14 = .ok (.iconst 0, 1) := sorry
theorem dX11_in_15 : decode cX11_in 15 = .ok (.ireturn, 1) := sorry
theorem dX11_feed_0 : decode cX11_feed 0 = .ok (.aload_n 0, 1) := sorry
theorem dX11_feed_1 : decode cX11_feed 1 = .ok (.iconst 0, 1) := sorry
theorem dX11_feed_2 : decode cX11_feed 2 = .ok (.putfield 85, 3) := sorry
theorem dX11_feed_5 : decode cX11_feed 5 = .ok (.aload_n 0, 1) := sorry
theorem dX11_feed_6 : decode cX11_feed 6 = .ok (.getfield 88, 3) := sorry
theorem dX11_feed_9 : decode cX11_feed 9 = .ok (.bipush 20, 2) := sorry
theorem dX11_feed_11 : decode cX11_feed 11 = .ok (.iadd, 1) := sorry
theorem dX11_feed_12 : decode cX11_feed 12 = .ok (.sipush 500, 3) := sorry
theorem dX11_feed_15 : decode cX11_feed 15 = .ok (.if_icmp .le 5, 3) := sorry
theorem dX11_feed_18 : decode cX11_feed 18 = .ok (.iconst (-1), 1) := sorry
theorem dX11_feed_19 : decode cX11_feed 19 = .ok (.ireturn, 1) := sorry
theorem dX11_feed_20 : decode cX11_feed 20 = .ok (.iconst 0, 1) := sorry
theorem dX11_feed_21 : decode cX11_feed 21 = .ok (.istore 6, 2) := sorry
theorem dX11_feed_23 : decode cX11_feed 23 = .ok (.iload 6, 2) := sorry
theorem dX11_feed_25 : decode cX11_feed 25 = .ok (.bipush 20, 2) := sorry
theorem dX11_feed_27 : decode cX11_feed 27 = .ok (.if_icmp .ge 93, 3) := sorry
theorem dX11_feed_30 : decode cX11_feed 30 = .ok (.iload 6, 2) := sorry
theorem dX11_feed_32 : decode cX11_feed 32 = .ok (.iconst 4, 1) := sorry
theorem dX11_feed_33 : decode cX11_feed 33 = .ok (.if_icmp .ge 7, 3) := sorry
theorem dX11_feed_36 : decode cX11_feed 36 = .ok (.iload_n 1, 1) := sorry
theorem dX11_feed_37 : decode cX11_feed 37 = .ok (.goto 39, 3) := sorry
theorem dX11_feed_40 : decode cX11_feed 40 = .ok (.iload 6, 2) := sorry
theorem dX11_feed_42 : decode cX11_feed 42 = .ok (.bipush 8, 2) := sorry
theorem dX11_feed_44 : decode cX11_feed 44 = .ok (.if_icmp .ge 7, 3) := sorry
theorem dX11_feed_47 : decode cX11_feed 47 = .ok (.iload_n 2, 1) := sorry
theorem dX11_feed_48 : decode cX11_feed 48 = .ok (.goto 28, 3) := sorry
theorem dX11_feed_51 : decode cX11_feed 51 = .ok (.iload 6, 2) := sorry
theorem dX11_feed_53 : decode cX11_feed 53 = .ok (.bipush 12, 2) := sorry
theorem dX11_feed_55 : decode cX11_feed 55 = .ok (.if_icmp .ge 7, 3) := sorry
theorem dX11_feed_58 : decode cX11_feed 58 = .ok (.iload_n 3, 1) := sorry
theorem dX11_feed_59 : decode cX11_feed 59 = .ok (.goto 17, 3) := sorry
theorem dX11_feed_62 : decode cX11_feed 62 = .ok (.iload 6, 2) := sorry
theorem dX11_feed_64 : decode cX11_feed 64 = .ok (.bipush 16, 2) := sorry
theorem dX11_feed_66 : decode cX11_feed 66 = .ok (.if_icmp .ge 8, 3) := sorry
theorem dX11_feed_69 : decode cX11_feed 69 = .ok (.iload 4, 2) := sorry
theorem dX11_feed_71 : decode cX11_feed 71 = .ok (.goto 5, 3) := sorry
theorem dX11_feed_74 : decode cX11_feed 74 = .ok (.iload 5, 2) := sorry
theorem dX11_feed_76 : decode cX11_feed 76 = .ok (.istore 7, 2) := sorry
theorem dX11_feed_78 : decode cX11_feed 78 = .ok (.aload_n 0, 1) := sorry
theorem dX11_feed_79 : decode cX11_feed 79 = .ok (.getfield 13, 3) := sorry
theorem dX11_feed_82 : decode cX11_feed 82 = .ok (.aload_n 0, 1) := sorry
theorem dX11_feed_83 : decode cX11_feed 83 = .ok (.getfield 88, 3) := sorry
theorem dX11_feed_86 : decode cX11_feed 86 = .ok (.iload 7, 2) := sorry
theorem dX11_feed_88 : decode cX11_feed 88 = .ok (.bipush 24, 2) := sorry
theorem dX11_feed_90 : decode cX11_feed 90 = .ok (.bipush 8, 2) := sorry
theorem dX11_feed_92 : decode cX11_feed 92 = .ok (.iload 6, 2) := sorry
theorem dX11_feed_94 : decode cX11_feed 94 = .ok (.iconst 4, 1) := sorry
theorem dX11_feed_95 : decode cX11_feed 95 = .ok (.irem, 1) := sorry
theorem dX11_feed_96 : decode cX11_feed 96 = .ok (.imul, 1) := sorry
theorem dX11_feed_97 : decode cX11_feed 97 = .ok (.isub, 1) := sorry
theorem dX11_feed_98 : decode cX11_feed 98 = .ok (.ishr, 1) := sorry
theorem dX11_feed_99 : decode cX11_feed 99 = .ok (.sipush 255, 3) := sorry
theorem dX11_feed_102 : decode cX11_feed 102 = .ok (.iand, 1) := sorry
theorem dX11_feed_103 : decode cX11_feed 103 = .ok (.iastore, 1) := sorry
theorem dX11_feed_104 : decode cX11_feed 104 = .ok (.aload_n 0, 1) := sorry
theorem dX11_feed_105 : decode cX11_feed 105 = .ok (.dup, 1) := sorry
theorem dX11_feed_106 : decode cX11_feed 106 = .ok (.getfield 88, 3) := sorry
theorem dX11_feed_109 : decode cX11_feed 109 = .ok (.iconst 1, 1) := sorry
theorem dX11_feed_110 : decode cX11_feed 110 = .ok (.iadd, 1) := sorry
theorem dX11_feed_111 : decode cX11_feed 111 = .ok (.putfield 88, 3) := sorry
theorem dX11_feed_114 : decode cX11_feed 114 = .ok (.iinc 6 1, 3) := sorry
theorem dX11_feed_117 : decode cX11_feed 117 = .ok (.goto (-94), 3) := sorry
theorem dX11_feed_120 : decode cX11_feed 120 = .ok (.aload_n 0, 1) := sorry
theorem dX11_feed_121 : decode cX11_feed 121 = .ok (.getfield 88, 3) := sorry
theorem dX11_feed_124 : decode cX11_feed 124 = .ok (.ireturn, 1) := sorry
theorem dX11_byteAt_0 : decode cX11_byteAt 0 = .ok (.iload_n 1, 1) := sorry
theorem dX11_byteAt_1 : decode cX11_byteAt 1 = .ok (.aload_n 0, 1) := sorry
theorem dX11_byteAt_2 : decode cX11_byteAt 2 = .ok (.getfield 91, 3) := sorry
theorem dX11_byteAt_5 : decode cX11_byteAt 5 = .ok (.if_icmp .lt 7, 3) := sorry
theorem dX11_byteAt_8 : decode cX11_byteAt 8 = .ok (.iconst (-1), 1) := sorry
theorem dX11_byteAt_9 : decode cX11_byteAt 9 = .ok (.goto 9, 3) := sorry
theorem dX11_byteAt_12 : decode cX11_byteAt 12 = .ok (.aload_n 0, 1) := sorry
theorem dX11_byteAt_13 : decode cX11_byteAt 13 = .ok (.getfield 13, 3) := sorry
theorem dX11_byteAt_16 : decode cX11_byteAt 16 = .ok (.iload_n 1, 1) := sorry
theorem dX11_byteAt_17 : decode cX11_byteAt 17 = .ok (.iaload, 1) := sorry
theorem dX11_byteAt_18 : decode cX11_byteAt 18 = .ok (.ireturn, 1) := sorry
set_option maxRecDepth 20000 in
theorem ggX11_blanks_X11_byteAt : GoodIn wsX11_blanks wsX11_byteAt := sorry
set_option maxRecDepth 20000 in
theorem gX11_blanks_X11_byteAt : GoodIn wsX11_blanks (wsV RX11 97 RX11 yX11_byteAt wsX11_byteAt) := sorry
theorem dX11_blanks_0 : decode cX11_blanks 0 = .ok (.aload_n 0, 1) := sorry
theorem dX11_blanks_1 : decode cX11_blanks 1 = .ok (.aload_n 0, 1) := sorry
theorem dX11_blanks_2 : decode cX11_blanks 2 = .ok (.getfield 94, 3) := sorry
theorem dX11_blanks_5 : decode cX11_blanks 5 = .ok (.invokevirtual 97, 3) := sorry
theorem dX11_blanks_8 : decode cX11_blanks 8 = .ok (.bipush 32, 2) := sorry
theorem dX11_blanks_10 : decode cX11_blanks 10 = .ok (.if_icmp .ne 16, 3) := sorry
theorem dX11_blanks_13 : decode cX11_blanks 13 = .ok (.aload_n 0, 1) := sorry
theorem dX11_blanks_14 : decode cX11_blanks 14 = .ok (.dup, 1) := sorry
theorem dX11_blanks_15 : decode cX11_blanks 15 = .ok (.getfield 94, 3) := sorry
theorem dX11_blanks_18 : decode cX11_blanks 18 = .ok (.iconst 1, 1) := sorry
theorem dX11_blanks_19 : decode cX11_blanks 19 = .ok (.iadd, 1) := sorry
theorem dX11_blanks_20 : decode cX11_blanks 20 = .ok (.putfield 94, 3) := sorry
theorem dX11_blanks_23 : decode cX11_blanks 23 = .ok (.goto (-23), 3) := sorry
theorem dX11_blanks_26 : decode cX11_blanks 26 = .ok (.return_, 1) := sorry
theorem dX11_wrong_0 : decode cX11_wrong 0 = .ok (.aload_n 0, 1) := sorry
theorem dX11_wrong_1 : decode cX11_wrong 1 = .ok (.getfield 101, 3) := sorry
theorem dX11_wrong_4 : decode cX11_wrong 4 = .ok (.ifCond .ne 13, 3) := sorry
theorem dX11_wrong_7 : decode cX11_wrong 7 = .ok (.aload_n 0, 1) := sorry
theorem dX11_wrong_8 : decode cX11_wrong 8 = .ok (.iload_n 1, 1) := sorry
theorem dX11_wrong_9 : decode cX11_wrong 9 = .ok (.putfield 101, 3) := sorry
theorem dX11_wrong_12 : decode cX11_wrong 12 = .ok (.aload_n 0, 1) := sorry
theorem dX11_wrong_13 : decode cX11_wrong 13 = .ok (.iload_n 2, 1) := sorry
theorem dX11_wrong_14 : decode cX11_wrong 14 = .ok (.putfield 104, 3) := sorry
theorem dX11_wrong_17 : decode cX11_wrong 17 = .ok (.return_, 1) := sorry
theorem dX11_isDigit_0 : decode cX11_isDigit 0 = .ok (.iload_n 0, 1) := sorry
theorem dX11_isDigit_1 : decode cX11_isDigit 1 = .ok (.bipush 48, 2) := sorry
theorem dX11_isDigit_3 : decode cX11_isDigit 3 = .ok (.if_icmp .lt 13, 3) := sorry
theorem dX11_isDigit_6 : decode cX11_isDigit 6 = .ok (.iload_n 0, 1) := sorry
theorem dX11_isDigit_7 : decode cX11_isDigit 7 = .ok (.bipush 57, 2) := sorry
theorem dX11_isDigit_9 : decode cX11_isDigit 9 = .ok (.if_icmp .gt 7, 3) := sorry
theorem dX11_isDigit_12 : decode cX11_isDigit 12 = .ok (.iconst 1, 1) := sorry
theorem dX11_isDigit_13 : decode cX11_isDigit 13 = .ok (.goto 4, 3) := sorry
theorem dX11_isDigit_16 : decode cX11_isDigit 16 = .ok (.iconst 0, 1) := sorry
theorem dX11_isDigit_17 : decode cX11_isDigit 17 = .ok (.ireturn, 1) := sorry
set_option maxRecDepth 20000 in
theorem ggX11_number_X11_blanks : GoodIn wsX11_number wsX11_blanks := sorry
set_option maxRecDepth 20000 in
theorem gX11_number_X11_blanks : GoodIn wsX11_number (wsV RX11 107 RX11 yX11_blanks wsX11_blanks) := sorry
set_option maxRecDepth 20000 in
theorem ggX11_number_X11_byteAt : GoodIn wsX11_number wsX11_byteAt := sorry
set_option maxRecDepth 20000 in
theorem gX11_number_X11_byteAt : GoodIn wsX11_number (wsV RX11 97 RX11 yX11_byteAt wsX11_byteAt) := sorry
set_option maxRecDepth 20000 in
theorem ggX11_number_X11_isDigit : GoodIn wsX11_number wsX11_isDigit := sorry
set_option maxRecDepth 20000 in
theorem gX11_number_X11_isDigit : GoodIn wsX11_number (va_wsS RX11 110 yX11_isDigit wsX11_isDigit) := sorry
set_option maxRecDepth 20000 in
theorem ggX11_number_X11_wrong : GoodIn wsX11_number wsX11_wrong := sorry
set_option maxRecDepth 20000 in
theorem gX11_number_X11_wrong : GoodIn wsX11_number (wsV RX11 114 RX11 yX11_wrong wsX11_wrong) := sorry
set_option maxRecDepth 20000 in
theorem ggX11_number_X11_in : GoodIn wsX11_number wsX11_in := sorry
set_option maxRecDepth 20000 in
theorem gX11_number_X11_in : GoodIn wsX11_number (va_wsS RX11 119 yX11_in wsX11_in) := sorry
theorem dX11_number_0 : decode cX11_number 0 = .ok (.aload_n 0, 1) := sorry
theorem dX11_number_1 : decode cX11_number 1 = .ok (.getfield 101, 3) := sorry
theorem dX11_number_4 : decode cX11_number 4 = .ok (.ifCond .eq 5, 3) := sorry
theorem dX11_number_7 : decode cX11_number 7 = .ok (.iconst 0, 1) := sorry
theorem dX11_number_8 : decode cX11_number 8 = .ok (.ireturn, 1) := sorry
theorem dX11_number_9 : decode cX11_number 9 = .ok (.aload_n 0, 1) := sorry
theorem dX11_number_10 : decode cX11_number 10 = .ok (.invokevirtual 107, 3) := sorry
theorem dX11_number_13 : decode cX11_number 13 = .ok (.aload_n 0, 1) := sorry
theorem dX11_number_14 : decode cX11_number 14 = .ok (.getfield 94, 3) := sorry
theorem dX11_number_17 : decode cX11_number 17 = .ok (.istore_n 3, 1) := sorry
theorem dX11_number_18 : decode cX11_number 18 = .ok (.iconst 0, 1) := sorry
theorem dX11_number_19 : decode cX11_number 19 = .ok (.istore 4, 2) := sorry
theorem dX11_number_21 : decode cX11_number 21 = .ok (.aload_n 0, 1) := sorry
theorem dX11_number_22 : decode cX11_number 22 = .ok (.aload_n 0, 1) := sorry
theorem dX11_number_23 : decode cX11_number 23 = .ok (.getfield 94, 3) := sorry
theorem dX11_number_26 : decode cX11_number 26 = .ok (.invokevirtual 97, 3) := sorry
theorem dX11_number_29 : decode cX11_number 29 = .ok (.invokestatic 110, 3) := sorry
theorem dX11_number_32 : decode cX11_number 32 = .ok (.ifCond .ne 12, 3) := sorry
theorem dX11_number_35 : decode cX11_number 35 = .ok (.aload_n 0, 1) := sorry
theorem dX11_number_36 : decode cX11_number 36 = .ok (.iconst 1, 1) := sorry
theorem dX11_number_37 : decode cX11_number 37 = .ok (.aload_n 0, 1) := sorry
theorem dX11_number_38 : decode cX11_number 38 = .ok (.getfield 94, 3) := sorry
theorem dX11_number_41 : decode cX11_number 41 = .ok (.invokevirtual 114, 3) := sorry
theorem dX11_number_44 : decode cX11_number 44 = .ok (.aload_n 0, 1) := sorry
theorem dX11_number_45 : decode cX11_number 45 = .ok (.aload_n 0, 1) := sorry
theorem dX11_number_46 : decode cX11_number 46 = .ok (.getfield 94, 3) := sorry
theorem dX11_number_49 : decode cX11_number 49 = .ok (.invokevirtual 97, 3) := sorry
theorem dX11_number_52 : decode cX11_number 52 = .ok (.invokestatic 110, 3) := sorry
theorem dX11_number_55 : decode cX11_number 55 = .ok (.ifCond .eq 51, 3) := sorry
theorem dX11_number_58 : decode cX11_number 58 = .ok (.bipush 10, 2) := sorry
theorem dX11_number_60 : decode cX11_number 60 = .ok (.iload 4, 2) := sorry
theorem dX11_number_62 : decode cX11_number 62 = .ok (.imul, 1) := sorry
theorem dX11_number_63 : decode cX11_number 63 = .ok (.aload_n 0, 1) := sorry
theorem dX11_number_64 : decode cX11_number 64 = .ok (.aload_n 0, 1) := sorry
theorem dX11_number_65 : decode cX11_number 65 = .ok (.getfield 94, 3) := sorry
theorem dX11_number_68 : decode cX11_number 68 = .ok (.invokevirtual 97, 3) := sorry
theorem dX11_number_71 : decode cX11_number 71 = .ok (.iadd, 1) := sorry
theorem dX11_number_72 : decode cX11_number 72 = .ok (.bipush 48, 2) := sorry
theorem dX11_number_74 : decode cX11_number 74 = .ok (.isub, 1) := sorry
theorem dX11_number_75 : decode cX11_number 75 = .ok (.istore 4, 2) := sorry
theorem dX11_number_77 : decode cX11_number 77 = .ok (.iload 4, 2) := sorry
theorem dX11_number_79 : decode cX11_number 79 = .ok (.ldc 118, 2) := sorry
theorem dX11_number_81 : decode cX11_number 81 = .ok (.if_icmp .le 8, 3) := sorry
theorem dX11_number_84 : decode cX11_number 84 = .ok (.ldc 118, 2) := sorry
theorem dX11_number_86 : decode cX11_number 86 = .ok (.goto 5, 3) := sorry
theorem dX11_number_89 : decode cX11_number 89 = .ok (.iload 4, 2) := sorry
theorem dX11_number_91 : decode cX11_number 91 = .ok (.istore 4, 2) := sorry
theorem dX11_number_93 : decode cX11_number 93 = .ok (.aload_n 0, 1) := sorry
theorem dX11_number_94 : decode cX11_number 94 = .ok (.dup, 1) := sorry
theorem dX11_number_95 : decode cX11_number 95 = .ok (.getfield 94, 3) := sorry
theorem dX11_number_98 : decode cX11_number 98 = .ok (.iconst 1, 1) := sorry
theorem dX11_number_99 : decode cX11_number 99 = .ok (.iadd, 1) := sorry
theorem dX11_number_100 : decode cX11_number 100 = .ok (.putfield 94, 3) := sorry
theorem dX11_number_103 : decode cX11_number 103 = .ok (.goto (-59), 3) := sorry
theorem dX11_number_106 : decode cX11_number 106 = .ok (.iload 4, 2) := sorry
theorem dX11_number_108 : decode cX11_number 108 = .ok (.iload_n 1, 1) := sorry
theorem dX11_number_109 : decode cX11_number 109 = .ok (.iload_n 2, 1) := sorry
theorem dX11_number_110 : decode cX11_number 110 = .ok (.invokestatic 119, 3) := sorry
theorem dX11_number_113 : decode cX11_number 113 = .ok (.ifCond .ne 9, 3) := sorry
theorem dX11_number_116 : decode cX11_number 116 = .ok (.aload_n 0, 1) := sorry
theorem dX11_number_117 : decode cX11_number 117 = .ok (.iconst 2, 1) := sorry
theorem dX11_number_118 : decode cX11_number 118 = .ok (.iload_n 3, 1) := sorry
theorem dX11_number_119 : decode cX11_number 119 = .ok (.invokevirtual 114, 3) := sorry
theorem dX11_number_122 : decode cX11_number 122 = .ok (.aload_n 0, 1) := sorry
theorem dX11_number_123 : decode cX11_number 123 = .ok (.getfield 101, 3) := sorry
theorem dX11_number_126 : decode cX11_number 126 = .ok (.ifCond .ne 8, 3) := sorry
theorem dX11_number_129 : decode cX11_number 129 = .ok (.iload 4, 2) := sorry
theorem dX11_number_131 : decode cX11_number 131 = .ok (.goto 4, 3) := sorry
theorem dX11_number_134 : decode cX11_number 134 = .ok (.iconst 0, 1) := sorry
theorem dX11_number_135 : decode cX11_number 135 = .ok (.ireturn, 1) := sorry
set_option maxRecDepth 20000 in
theorem ggX11_wordHere_X11_blanks : GoodIn wsX11_wordHere wsX11_blanks := sorry
set_option maxRecDepth 20000 in
theorem gX11_wordHere_X11_blanks : GoodIn wsX11_wordHere (wsV RX11 107 RX11 yX11_blanks wsX11_blanks) := sorry
set_option maxRecDepth 20000 in
theorem ggX11_wordHere_X11_byteAt : GoodIn wsX11_wordHere wsX11_byteAt := sorry
set_option maxRecDepth 20000 in
theorem gX11_wordHere_X11_byteAt : GoodIn wsX11_wordHere (wsV RX11 97 RX11 yX11_byteAt wsX11_byteAt) := sorry
theorem dX11_wordHere_0 : decode cX11_wordHere 0 = .ok (.aload_n 0, 1) := sorry
theorem dX11_wordHere_1 : decode cX11_wordHere 1 = .ok (.invokevirtual 107, 3) := sorry
theorem dX11_wordHere_4 : decode cX11_wordHere 4 = .ok (.iconst 0, 1) := sorry
theorem dX11_wordHere_5 : decode cX11_wordHere 5 = .ok (.istore_n 1, 1) := sorry
theorem dX11_wordHere_6 : decode cX11_wordHere 6 = .ok (.iconst 0, 1) := sorry
theorem dX11_wordHere_7 : decode cX11_wordHere 7 = .ok (.istore_n 2, 1) := sorry
theorem dX11_wordHere_8 : decode cX11_wordHere 8 = .ok (.aload_n 0, 1) := sorry
theorem dX11_wordHere_9 : decode cX11_wordHere 9 = .ok (.aload_n 0, 1) := sorry
theorem dX11_wordHere_10 : decode cX11_wordHere 10 = .ok (.getfield 94, 3) := sorry
theorem dX11_wordHere_13 : decode cX11_wordHere 13 = .ok (.iload_n 2, 1) := sorry
theorem dX11_wordHere_14 : decode cX11_wordHere 14 = .ok (.iadd, 1) := sorry
theorem dX11_wordHere_15 : decode cX11_wordHere 15 = .ok (.invokevirtual 97, 3) := sorry
theorem dX11_wordHere_18 : decode cX11_wordHere 18 = .ok (.bipush 97, 2) := sorry
theorem dX11_wordHere_20 : decode cX11_wordHere 20 = .ok (.if_icmp .lt 55, 3) := sorry
theorem dX11_wordHere_23 : decode cX11_wordHere 23 = .ok (.aload_n 0, 1) := sorry
theorem dX11_wordHere_24 : decode cX11_wordHere 24 = .ok (.aload_n 0, 1) := sorry
theorem dX11_wordHere_25 : decode cX11_wordHere 25 = .ok (.getfield 94, 3) := sorry
theorem dX11_wordHere_28 : decode cX11_wordHere 28 = .ok (.iload_n 2, 1) := sorry
theorem dX11_wordHere_29 : decode cX11_wordHere 29 = .ok (.iadd, 1) := sorry
theorem dX11_wordHere_30 : decode cX11_wordHere 30 = .ok (.invokevirtual 97, 3) := sorry
theorem dX11_wordHere_33 : decode cX11_wordHere 33 = .ok (.bipush 122, 2) := sorry
theorem dX11_wordHere_35 : decode cX11_wordHere 35 = .ok (.if_icmp .gt 40, 3) := sorry
theorem dX11_wordHere_38 : decode cX11_wordHere 38 = .ok (.iload_n 2, 1) := sorry
theorem dX11_wordHere_39 : decode cX11_wordHere 39 = .ok (.bipush 6, 2) := sorry
theorem dX11_wordHere_41 : decode cX11_wordHere 41 = .ok (.if_icmp .ge 26, 3) := sorry
theorem dX11_wordHere_44 : decode cX11_wordHere 44 = .ok (.bipush 27, 2) := sorry
theorem dX11_wordHere_46 : decode cX11_wordHere 46 = .ok (.iload_n 1, 1) := sorry
theorem dX11_wordHere_47 : decode cX11_wordHere 47 = .ok (.imul, 1) := sorry
theorem dX11_wordHere_48 : decode cX11_wordHere 48 = .ok (.aload_n 0, 1) := sorry
theorem dX11_wordHere_49 : decode cX11_wordHere 49 = .ok (.aload_n 0, 1) := sorry
theorem dX11_wordHere_50 : decode cX11_wordHere 50 = .ok (.getfield 94, 3) := sorry
theorem dX11_wordHere_53 : decode cX11_wordHere 53 = .ok (.iload_n 2, 1) := sorry
theorem dX11_wordHere_54 : decode cX11_wordHere 54 = .ok (.iadd, 1) := sorry
theorem dX11_wordHere_55 : decode cX11_wordHere 55 = .ok (.invokevirtual 97, 3) := sorry
theorem dX11_wordHere_58 : decode cX11_wordHere 58 = .ok (.iadd, 1) := sorry
theorem dX11_wordHere_59 : decode cX11_wordHere 59 = .ok (.bipush 97, 2) := sorry
theorem dX11_wordHere_61 : decode cX11_wordHere 61 = .ok (.isub, 1) := sorry
theorem dX11_wordHere_62 : decode cX11_wordHere 62 = .ok (.iconst 1, 1) := sorry
theorem dX11_wordHere_63 : decode cX11_wordHere 63 = .ok (.iadd, 1) := sorry
theorem dX11_wordHere_64 : decode cX11_wordHere 64 = .ok (.goto 4, 3) := sorry
theorem dX11_wordHere_67 : decode cX11_wordHere 67 = .ok (.iload_n 1, 1) := sorry
theorem dX11_wordHere_68 : decode cX11_wordHere 68 = .ok (.istore_n 1, 1) := sorry
theorem dX11_wordHere_69 : decode cX11_wordHere 69 = .ok (.iinc 2 1, 3) := sorry
theorem dX11_wordHere_72 : decode cX11_wordHere 72 = .ok (.goto (-64), 3) := sorry
theorem dX11_wordHere_75 : decode cX11_wordHere 75 = .ok (.iload_n 2, 1) := sorry
theorem dX11_wordHere_76 : decode cX11_wordHere 76 = .ok (.bipush 6, 2) := sorry
theorem dX11_wordHere_78 : decode cX11_wordHere 78 = .ok (.if_icmp .le 7, 3) := sorry
theorem dX11_wordHere_81 : decode cX11_wordHere 81 = .ok (.iconst (-1), 1) := sorry
theorem dX11_wordHere_82 : decode cX11_wordHere 82 = .ok (.goto 4, 3) := sorry
theorem dX11_wordHere_85 : decode cX11_wordHere 85 = .ok (.iload_n 1, 1) := sorry
theorem dX11_wordHere_86 : decode cX11_wordHere 86 = .ok (.ireturn, 1) := sorry
theorem dX11_six_0 : decode cX11_six 0 = .ok (.bipush 27, 2) := sorry
theorem dX11_six_2 : decode cX11_six 2 = .ok (.bipush 27, 2) := sorry
theorem dX11_six_4 : decode cX11_six 4 = .ok (.bipush 27, 2) := sorry
theorem dX11_six_6 : decode cX11_six 6 = .ok (.iload_n 0, 1) := sorry
theorem dX11_six_7 : decode cX11_six 7 = .ok (.imul, 1) := sorry
theorem dX11_six_8 : decode cX11_six 8 = .ok (.iload_n 1, 1) := sorry
theorem dX11_six_9 : decode cX11_six 9 = .ok (.iadd, 1) := sorry
theorem dX11_six_10 : decode cX11_six 10 = .ok (.imul, 1) := sorry
theorem dX11_six_11 : decode cX11_six 11 = .ok (.iload_n 2, 1) := sorry
theorem dX11_six_12 : decode cX11_six 12 = .ok (.iadd, 1) := sorry
theorem dX11_six_13 : decode cX11_six 13 = .ok (.imul, 1) := sorry
theorem dX11_six_14 : decode cX11_six 14 = .ok (.istore 6, 2) := sorry
theorem dX11_six_16 : decode cX11_six 16 = .ok (.iload_n 3, 1) := sorry
theorem dX11_six_17 : decode cX11_six 17 = .ok (.ifCond .ne 11, 3) := sorry
theorem dX11_six_20 : decode cX11_six 20 = .ok (.iload 6, 2) := sorry
theorem dX11_six_22 : decode cX11_six 22 = .ok (.bipush 27, 2) := sorry
theorem dX11_six_24 : decode cX11_six 24 = .ok (.idiv, 1) := sorry
theorem dX11_six_25 : decode cX11_six 25 = .ok (.goto 7, 3) := sorry
theorem dX11_six_28 : decode cX11_six 28 = .ok (.iload 6, 2) := sorry
theorem dX11_six_30 : decode cX11_six 30 = .ok (.iload_n 3, 1) := sorry
theorem dX11_six_31 : decode cX11_six 31 = .ok (.iadd, 1) := sorry
theorem dX11_six_32 : decode cX11_six 32 = .ok (.istore 6, 2) := sorry
theorem dX11_six_34 : decode cX11_six 34 = .ok (.iload 4, 2) := sorry
theorem dX11_six_36 : decode cX11_six 36 = .ok (.ifCond .ne 8, 3) := sorry
theorem dX11_six_39 : decode cX11_six 39 = .ok (.iload 6, 2) := sorry
theorem dX11_six_41 : decode cX11_six 41 = .ok (.goto 11, 3) := sorry
theorem dX11_six_44 : decode cX11_six 44 = .ok (.bipush 27, 2) := sorry
theorem dX11_six_46 : decode cX11_six 46 = .ok (.iload 6, 2) := sorry
theorem dX11_six_48 : decode cX11_six 48 = .ok (.imul, 1) := sorry
theorem dX11_six_49 : decode cX11_six 49 = .ok (.iload 4, 2) := sorry
theorem dX11_six_51 : decode cX11_six 51 = .ok (.iadd, 1) := sorry
theorem dX11_six_52 : decode cX11_six 52 = .ok (.istore 6, 2) := sorry
theorem dX11_six_54 : decode cX11_six 54 = .ok (.iload 5, 2) := sorry
theorem dX11_six_56 : decode cX11_six 56 = .ok (.ifCond .ne 8, 3) := sorry
theorem dX11_six_59 : decode cX11_six 59 = .ok (.iload 6, 2) := sorry
theorem dX11_six_61 : decode cX11_six 61 = .ok (.goto 11, 3) := sorry
theorem dX11_six_64 : decode cX11_six 64 = .ok (.bipush 27, 2) := sorry
theorem dX11_six_66 : decode cX11_six 66 = .ok (.iload 6, 2) := sorry
theorem dX11_six_68 : decode cX11_six 68 = .ok (.imul, 1) := sorry
theorem dX11_six_69 : decode cX11_six 69 = .ok (.iload 5, 2) := sorry
theorem dX11_six_71 : decode cX11_six 71 = .ok (.iadd, 1) := sorry
theorem dX11_six_72 : decode cX11_six 72 = .ok (.ireturn, 1) := sorry
set_option maxRecDepth 20000 in
theorem ggX11_isWord_X11_wordHere : GoodIn wsX11_isWord wsX11_wordHere := sorry
set_option maxRecDepth 20000 in
theorem gX11_isWord_X11_wordHere : GoodIn wsX11_isWord (wsV RX11 123 RX11 yX11_wordHere wsX11_wordHere) := sorry
set_option maxRecDepth 20000 in
theorem ggX11_isWord_X11_six : GoodIn wsX11_isWord wsX11_six := sorry
set_option maxRecDepth 20000 in
theorem gX11_isWord_X11_six : GoodIn wsX11_isWord (va_wsS RX11 127 yX11_six wsX11_six) := sorry
theorem dX11_isWord_0 : decode cX11_isWord 0 = .ok (.aload_n 0, 1) := sorry
theorem dX11_isWord_1 : decode cX11_isWord 1 = .ok (.getfield 101, 3) := sorry
theorem dX11_isWord_4 : decode cX11_isWord 4 = .ok (.ifCond .ne 26, 3) := sorry
theorem dX11_isWord_7 : decode cX11_isWord 7 = .ok (.aload_n 0, 1) := sorry
theorem dX11_isWord_8 : decode cX11_isWord 8 = .ok (.invokevirtual 123, 3) := sorry
theorem dX11_isWord_11 : decode cX11_isWord 11 = .ok (.iload_n 1, 1) := sorry
theorem dX11_isWord_12 : decode cX11_isWord 12 = .ok (.iload_n 2, 1) := sorry
theorem dX11_isWord_13 : decode cX11_isWord 13 = .ok (.iload_n 3, 1) := sorry
theorem dX11_isWord_14 : decode cX11_isWord 14 = .ok (.iload 4, 2) := sorry
theorem dX11_isWord_16 : decode cX11_isWord 16 = .ok (.iload 5, 2) := sorry
theorem dX11_isWord_18 : decode cX11_isWord 18 = .ok (.iload 6, 2) := sorry
theorem dX11_isWord_20 : decode cX11_isWord 20 = .ok (.invokestatic 127, 3) := sorry
theorem dX11_isWord_23 : decode cX11_isWord 23 = .ok (.if_icmp .ne 7, 3) := sorry
theorem dX11_isWord_26 : decode cX11_isWord 26 = .ok (.iconst 1, 1) := sorry
theorem dX11_isWord_27 : decode cX11_isWord 27 = .ok (.goto 4, 3) := sorry
theorem dX11_isWord_30 : decode cX11_isWord 30 = .ok (.iconst 0, 1) := sorry
theorem dX11_isWord_31 : decode cX11_isWord 31 = .ok (.ireturn, 1) := sorry
set_option maxRecDepth 20000 in
theorem ggX11_skipWord_X11_byteAt : GoodIn wsX11_skipWord wsX11_byteAt := sorry
set_option maxRecDepth 20000 in
theorem gX11_skipWord_X11_byteAt : GoodIn wsX11_skipWord (wsV RX11 97 RX11 yX11_byteAt wsX11_byteAt) := sorry
theorem dX11_skipWord_0 : decode cX11_skipWord 0 = .ok (.aload_n 0, 1) := sorry
theorem dX11_skipWord_1 : decode cX11_skipWord 1 = .ok (.aload_n 0, 1) := sorry
theorem dX11_skipWord_2 : decode cX11_skipWord 2 = .ok (.getfield 94, 3) := sorry
theorem dX11_skipWord_5 : decode cX11_skipWord 5 = .ok (.invokevirtual 97, 3) := sorry
theorem dX11_skipWord_8 : decode cX11_skipWord 8 = .ok (.bipush 97, 2) := sorry
theorem dX11_skipWord_10 : decode cX11_skipWord 10 = .ok (.if_icmp .lt 29, 3) := sorry
theorem dX11_skipWord_13 : decode cX11_skipWord 13 = .ok (.aload_n 0, 1) := sorry
theorem dX11_skipWord_14 : decode cX11_skipWord 14 = .ok (.aload_n 0, 1) := sorry
theorem dX11_skipWord_15 : decode cX11_skipWord 15 = .ok (.getfield 94, 3) := sorry
theorem dX11_skipWord_18 : decode cX11_skipWord 18 = .ok (.invokevirtual 97, 3) := sorry
theorem dX11_skipWord_21 : decode cX11_skipWord 21 = .ok (.bipush 122, 2) := sorry
theorem dX11_skipWord_23 : decode cX11_skipWord 23 = .ok (.if_icmp .gt 16, 3) := sorry
theorem dX11_skipWord_26 : decode cX11_skipWord 26 = .ok (.aload_n 0, 1) := sorry
theorem dX11_skipWord_27 : decode cX11_skipWord 27 = .ok (.dup, 1) := sorry
theorem dX11_skipWord_28 : decode cX11_skipWord 28 = .ok (.getfield 94, 3) := sorry
theorem dX11_skipWord_31 : decode cX11_skipWord 31 = .ok (.iconst 1, 1) := sorry
theorem dX11_skipWord_32 : decode cX11_skipWord 32 = .ok (.iadd, 1) := sorry
theorem dX11_skipWord_33 : decode cX11_skipWord 33 = .ok (.putfield 94, 3) := sorry
theorem dX11_skipWord_36 : decode cX11_skipWord 36 = .ok (.goto (-36), 3) := sorry
theorem dX11_skipWord_39 : decode cX11_skipWord 39 = .ok (.return_, 1) := sorry
set_option maxRecDepth 20000 in
theorem ggX11_closes_X11_blanks : GoodIn wsX11_closes wsX11_blanks := sorry
set_option maxRecDepth 20000 in
theorem gX11_closes_X11_blanks : GoodIn wsX11_closes (wsV RX11 107 RX11 yX11_blanks wsX11_blanks) := sorry
set_option maxRecDepth 20000 in
theorem ggX11_closes_X11_byteAt : GoodIn wsX11_closes wsX11_byteAt := sorry
set_option maxRecDepth 20000 in
theorem gX11_closes_X11_byteAt : GoodIn wsX11_closes (wsV RX11 97 RX11 yX11_byteAt wsX11_byteAt) := sorry
set_option maxRecDepth 20000 in
theorem ggX11_closes_X11_wrong : GoodIn wsX11_closes wsX11_wrong := sorry
set_option maxRecDepth 20000 in
theorem gX11_closes_X11_wrong : GoodIn wsX11_closes (wsV RX11 114 RX11 yX11_wrong wsX11_wrong) := sorry
theorem dX11_closes_0 : decode cX11_closes 0 = .ok (.aload_n 0, 1) := sorry
theorem dX11_closes_1 : decode cX11_closes 1 = .ok (.getfield 101, 3) := sorry
theorem dX11_closes_4 : decode cX11_closes 4 = .ok (.ifCond .eq 4, 3) := sorry
theorem dX11_closes_7 : decode cX11_closes 7 = .ok (.return_, 1) := sorry
theorem dX11_closes_8 : decode cX11_closes 8 = .ok (.aload_n 0, 1) := sorry
theorem dX11_closes_9 : decode cX11_closes 9 = .ok (.invokevirtual 107, 3) := sorry
theorem dX11_closes_12 : decode cX11_closes 12 = .ok (.aload_n 0, 1) := sorry
theorem dX11_closes_13 : decode cX11_closes 13 = .ok (.aload_n 0, 1) := sorry
theorem dX11_closes_14 : decode cX11_closes 14 = .ok (.getfield 94, 3) := sorry
theorem dX11_closes_17 : decode cX11_closes 17 = .ok (.invokevirtual 97, 3) := sorry
theorem dX11_closes_20 : decode cX11_closes 20 = .ok (.bipush 59, 2) := sorry
theorem dX11_closes_22 : decode cX11_closes 22 = .ok (.if_icmp .ne 16, 3) := sorry
theorem dX11_closes_25 : decode cX11_closes 25 = .ok (.aload_n 0, 1) := sorry
theorem dX11_closes_26 : decode cX11_closes 26 = .ok (.dup, 1) := sorry
theorem dX11_closes_27 : decode cX11_closes 27 = .ok (.getfield 94, 3) := sorry
theorem dX11_closes_30 : decode cX11_closes 30 = .ok (.iconst 1, 1) := sorry
theorem dX11_closes_31 : decode cX11_closes 31 = .ok (.iadd, 1) := sorry
theorem dX11_closes_32 : decode cX11_closes 32 = .ok (.putfield 94, 3) := sorry
theorem dX11_closes_35 : decode cX11_closes 35 = .ok (.goto 12, 3) := sorry
theorem dX11_closes_38 : decode cX11_closes 38 = .ok (.aload_n 0, 1) := sorry
theorem dX11_closes_39 : decode cX11_closes 39 = .ok (.iconst 1, 1) := sorry
theorem dX11_closes_40 : decode cX11_closes 40 = .ok (.aload_n 0, 1) := sorry
theorem dX11_closes_41 : decode cX11_closes 41 = .ok (.getfield 94, 3) := sorry
theorem dX11_closes_44 : decode cX11_closes 44 = .ok (.invokevirtual 114, 3) := sorry
theorem dX11_closes_47 : decode cX11_closes 47 = .ok (.return_, 1) := sorry
set_option maxRecDepth 20000 in
theorem ggX11_starts_X11_blanks : GoodIn wsX11_starts wsX11_blanks := sorry
set_option maxRecDepth 20000 in
theorem gX11_starts_X11_blanks : GoodIn wsX11_starts (wsV RX11 107 RX11 yX11_blanks wsX11_blanks) := sorry
theorem dX11_starts_0 : decode cX11_starts 0 = .ok (.aload_n 0, 1) := sorry
theorem dX11_starts_1 : decode cX11_starts 1 = .ok (.iconst 0, 1) := sorry
theorem dX11_starts_2 : decode cX11_starts 2 = .ok (.putfield 88, 3) := sorry
theorem dX11_starts_5 : decode cX11_starts 5 = .ok (.aload_n 0, 1) := sorry
theorem dX11_starts_6 : decode cX11_starts 6 = .ok (.iload_n 1, 1) := sorry
theorem dX11_starts_7 : decode cX11_starts 7 = .ok (.putfield 91, 3) := sorry
theorem dX11_starts_10 : decode cX11_starts 10 = .ok (.aload_n 0, 1) := sorry
theorem dX11_starts_11 : decode cX11_starts 11 = .ok (.iconst 0, 1) := sorry
theorem dX11_starts_12 : decode cX11_starts 12 = .ok (.putfield 94, 3) := sorry
theorem dX11_starts_15 : decode cX11_starts 15 = .ok (.aload_n 0, 1) := sorry
theorem dX11_starts_16 : decode cX11_starts 16 = .ok (.iconst 0, 1) := sorry
theorem dX11_starts_17 : decode cX11_starts 17 = .ok (.putfield 101, 3) := sorry
theorem dX11_starts_20 : decode cX11_starts 20 = .ok (.aload_n 0, 1) := sorry
theorem dX11_starts_21 : decode cX11_starts 21 = .ok (.iconst (-1), 1) := sorry
theorem dX11_starts_22 : decode cX11_starts 22 = .ok (.putfield 104, 3) := sorry
theorem dX11_starts_25 : decode cX11_starts 25 = .ok (.aload_n 0, 1) := sorry
theorem dX11_starts_26 : decode cX11_starts 26 = .ok (.iconst 0, 1) := sorry
theorem dX11_starts_27 : decode cX11_starts 27 = .ok (.putfield 131, 3) := sorry
theorem dX11_starts_30 : decode cX11_starts 30 = .ok (.aload_n 0, 1) := sorry
theorem dX11_starts_31 : decode cX11_starts 31 = .ok (.invokevirtual 107, 3) := sorry
theorem dX11_starts_34 : decode cX11_starts 34 = .ok (.return_, 1) := sorry
set_option maxRecDepth 20000 in
theorem ggX11_kindHere_X11_isWord : GoodIn wsX11_kindHere wsX11_isWord := sorry
set_option maxRecDepth 20000 in
theorem gX11_kindHere_X11_isWord : GoodIn wsX11_kindHere (wsV RX11 134 RX11 yX11_isWord wsX11_isWord) := sorry
theorem dX11_kindHere_0 : decode cX11_kindHere 0 = .ok (.aload_n 0, 1) := sorry
theorem dX11_kindHere_1 : decode cX11_kindHere 1 = .ok (.bipush 23, 2) := sorry
theorem dX11_kindHere_3 : decode cX11_kindHere 3 = .ok (.iconst 1, 1) := sorry
theorem dX11_kindHere_4 : decode cX11_kindHere 4 = .ok (.bipush 12, 2) := sorry
theorem dX11_kindHere_6 : decode cX11_kindHere 6 = .ok (.bipush 12, 2) := sorry
theorem dX11_kindHere_8 : decode cX11_kindHere 8 = .ok (.iconst 0, 1) := sorry
theorem dX11_kindHere_9 : decode cX11_kindHere 9 = .ok (.iconst 0, 1) := sorry
theorem dX11_kindHere_10 : decode cX11_kindHere 10 = .ok (.invokevirtual 134, 3) := sorry
theorem dX11_kindHere_13 : decode cX11_kindHere 13 = .ok (.ifCond .eq 5, 3) := sorry
theorem dX11_kindHere_16 : decode cX11_kindHere 16 = .ok (.iconst 0, 1) := sorry
theorem dX11_kindHere_17 : decode cX11_kindHere 17 = .ok (.ireturn, 1) := sorry
theorem dX11_kindHere_18 : decode cX11_kindHere 18 = .ok (.aload_n 0, 1) := sorry
theorem dX11_kindHere_19 : decode cX11_kindHere 19 = .ok (.iconst 4, 1) := sorry
theorem dX11_kindHere_20 : decode cX11_kindHere 20 = .ok (.bipush 21, 2) := sorry
theorem dX11_kindHere_22 : decode cX11_kindHere 22 = .ok (.bipush 11, 2) := sorry
theorem dX11_kindHere_24 : decode cX11_kindHere 24 = .ok (.iconst 5, 1) := sorry
theorem dX11_kindHere_25 : decode cX11_kindHere 25 = .ok (.iconst 0, 1) := sorry
theorem dX11_kindHere_26 : decode cX11_kindHere 26 = .ok (.iconst 0, 1) := sorry
theorem dX11_kindHere_27 : decode cX11_kindHere 27 = .ok (.invokevirtual 134, 3) := sorry
theorem dX11_kindHere_30 : decode cX11_kindHere 30 = .ok (.ifCond .eq 5, 3) := sorry
theorem dX11_kindHere_33 : decode cX11_kindHere 33 = .ok (.iconst 1, 1) := sorry
theorem dX11_kindHere_34 : decode cX11_kindHere 34 = .ok (.ireturn, 1) := sorry
theorem dX11_kindHere_35 : decode cX11_kindHere 35 = .ok (.aload_n 0, 1) := sorry
theorem dX11_kindHere_36 : decode cX11_kindHere 36 = .ok (.iconst 5, 1) := sorry
theorem dX11_kindHere_37 : decode cX11_kindHere 37 = .ok (.bipush 14, 2) := sorry
theorem dX11_kindHere_39 : decode cX11_kindHere 39 = .ok (.iconst 5, 1) := sorry
theorem dX11_kindHere_40 : decode cX11_kindHere 40 = .ok (.bipush 13, 2) := sorry
theorem dX11_kindHere_42 : decode cX11_kindHere 42 = .ok (.bipush 25, 2) := sorry
theorem dX11_kindHere_44 : decode cX11_kindHere 44 = .ok (.iconst 0, 1) := sorry
theorem dX11_kindHere_45 : decode cX11_kindHere 45 = .ok (.invokevirtual 134, 3) := sorry
theorem dX11_kindHere_48 : decode cX11_kindHere 48 = .ok (.ifCond .eq 5, 3) := sorry
theorem dX11_kindHere_51 : decode cX11_kindHere 51 = .ok (.iconst 4, 1) := sorry
theorem dX11_kindHere_52 : decode cX11_kindHere 52 = .ok (.ireturn, 1) := sorry
theorem dX11_kindHere_53 : decode cX11_kindHere 53 = .ok (.aload_n 0, 1) := sorry
theorem dX11_kindHere_54 : decode cX11_kindHere 54 = .ok (.bipush 20, 2) := sorry
theorem dX11_kindHere_56 : decode cX11_kindHere 56 = .ok (.bipush 15, 2) := sorry
theorem dX11_kindHere_58 : decode cX11_kindHere 58 = .ok (.bipush 23, 2) := sorry
theorem dX11_kindHere_60 : decode cX11_kindHere 60 = .ok (.bipush 14, 2) := sorry
theorem dX11_kindHere_62 : decode cX11_kindHere 62 = .ok (.iconst 0, 1) := sorry
theorem dX11_kindHere_63 : decode cX11_kindHere 63 = .ok (.iconst 0, 1) := sorry
theorem dX11_kindHere_64 : decode cX11_kindHere 64 = .ok (.invokevirtual 134, 3) := sorry
theorem dX11_kindHere_67 : decode cX11_kindHere 67 = .ok (.ifCond .eq 6, 3) := sorry
theorem dX11_kindHere_70 : decode cX11_kindHere 70 = .ok (.bipush 7, 2) := sorry
theorem dX11_kindHere_72 : decode cX11_kindHere 72 = .ok (.ireturn, 1) := sorry
theorem dX11_kindHere_73 : decode cX11_kindHere 73 = .ok (.aload_n 0, 1) := sorry
theorem dX11_kindHere_74 : decode cX11_kindHere 74 = .ok (.bipush 6, 2) := sorry
theorem dX11_kindHere_76 : decode cX11_kindHere 76 = .ok (.iconst 5, 1) := sorry
theorem dX11_kindHere_77 : decode cX11_kindHere 77 = .ok (.iconst 1, 1) := sorry
theorem dX11_kindHere_78 : decode cX11_kindHere 78 = .ok (.bipush 18, 2) := sorry
theorem dX11_kindHere_80 : decode cX11_kindHere 80 = .ok (.iconst 0, 1) := sorry
theorem dX11_kindHere_81 : decode cX11_kindHere 81 = .ok (.iconst 0, 1) := sorry
theorem dX11_kindHere_82 : decode cX11_kindHere 82 = .ok (.invokevirtual 134, 3) := sorry
theorem dX11_kindHere_85 : decode cX11_kindHere 85 = .ok (.ifCond .eq 6, 3) := sorry
theorem dX11_kindHere_88 : decode cX11_kindHere 88 = .ok (.bipush 9, 2) := sorry
theorem dX11_kindHere_90 : decode cX11_kindHere 90 = .ok (.ireturn, 1) := sorry
theorem dX11_kindHere_91 : decode cX11_kindHere 91 = .ok (.aload_n 0, 1) := sorry
theorem dX11_kindHere_92 : decode cX11_kindHere 92 = .ok (.bipush 13, 2) := sorry
theorem dX11_kindHere_94 : decode cX11_kindHere 94 = .ok (.iconst 1, 1) := sorry
theorem dX11_kindHere_95 : decode cX11_kindHere 95 = .ok (.bipush 19, 2) := sorry
theorem dX11_kindHere_97 : decode cX11_kindHere 97 = .ok (.bipush 15, 2) := sorry
theorem dX11_kindHere_99 : decode cX11_kindHere 99 = .ok (.bipush 14, 2) := sorry
theorem dX11_kindHere_101 : decode cX11_kindHere 101 = .ok (.iconst 0, 1) := sorry
theorem dX11_kindHere_102 : decode cX11_kindHere 102 = .ok (.invokevirtual 134, 3) := sorry
theorem dX11_kindHere_105 : decode cX11_kindHere 105 = .ok (.ifCond .eq 6, 3) := sorry
theorem dX11_kindHere_108 : decode cX11_kindHere 108 = .ok (.bipush 12, 2) := sorry
theorem dX11_kindHere_110 : decode cX11_kindHere 110 = .ok (.ireturn, 1) := sorry
theorem dX11_kindHere_111 : decode cX11_kindHere 111 = .ok (.aload_n 0, 1) := sorry
theorem dX11_kindHere_112 : decode cX11_kindHere 112 = .ok (.iconst 3, 1) := sorry
theorem dX11_kindHere_113 : decode cX11_kindHere 113 = .ok (.bipush 15, 2) := sorry
theorem dX11_kindHere_115 : decode cX11_kindHere 115 = .ok (.bipush 19, 2) := sorry
theorem dX11_kindHere_117 : decode cX11_kindHere 117 = .ok (.bipush 20, 2) := sorry
theorem dX11_kindHere_119 : decode cX11_kindHere 119 = .ok (.iconst 0, 1) := sorry
theorem dX11_kindHere_120 : decode cX11_kindHere 120 = .ok (.iconst 0, 1) := sorry
theorem dX11_kindHere_121 : decode cX11_kindHere 121 = .ok (.invokevirtual 134, 3) := sorry
theorem dX11_kindHere_124 : decode cX11_kindHere 124 = .ok (.ifCond .eq 6, 3) := sorry
theorem dX11_kindHere_127 : decode cX11_kindHere 127 = .ok (.bipush 13, 2) := sorry
theorem dX11_kindHere_129 : decode cX11_kindHere 129 = .ok (.ireturn, 1) := sorry
theorem dX11_kindHere_130 : decode cX11_kindHere 130 = .ok (.aload_n 0, 1) := sorry
theorem dX11_kindHere_131 : decode cX11_kindHere 131 = .ok (.bipush 14, 2) := sorry
theorem dX11_kindHere_133 : decode cX11_kindHere 133 = .ok (.iconst 5, 1) := sorry
theorem dX11_kindHere_134 : decode cX11_kindHere 134 = .ok (.iconst 1, 1) := sorry
theorem dX11_kindHere_135 : decode cX11_kindHere 135 = .ok (.bipush 18, 2) := sorry
theorem dX11_kindHere_137 : decode cX11_kindHere 137 = .ok (.iconst 0, 1) := sorry
theorem dX11_kindHere_138 : decode cX11_kindHere 138 = .ok (.iconst 0, 1) := sorry
theorem dX11_kindHere_139 : decode cX11_kindHere 139 = .ok (.invokevirtual 134, 3) := sorry
theorem dX11_kindHere_142 : decode cX11_kindHere 142 = .ok (.ifCond .eq 8, 3) := sorry
theorem dX11_kindHere_145 : decode cX11_kindHere 145 = .ok (.bipush 15, 2) := sorry
theorem dX11_kindHere_147 : decode cX11_kindHere 147 = .ok (.goto 4, 3) := sorry
theorem dX11_kindHere_150 : decode cX11_kindHere 150 = .ok (.iconst (-1), 1) := sorry
theorem dX11_kindHere_151 : decode cX11_kindHere 151 = .ok (.ireturn, 1) := sorry
set_option maxRecDepth 20000 in
theorem ggX11_clause_X11_kindHere : GoodIn wsX11_clause wsX11_kindHere := sorry
set_option maxRecDepth 20000 in
theorem gX11_clause_X11_kindHere : GoodIn wsX11_clause (wsV RX11 138 RX11 yX11_kindHere wsX11_kindHere) := sorry
set_option maxRecDepth 20000 in
theorem ggX11_clause_X11_wrong : GoodIn wsX11_clause wsX11_wrong := sorry
set_option maxRecDepth 20000 in
theorem gX11_clause_X11_wrong : GoodIn wsX11_clause (wsV RX11 114 RX11 yX11_wrong wsX11_wrong) := sorry
set_option maxRecDepth 20000 in
theorem ggX11_clause_X11_skipWord : GoodIn wsX11_clause wsX11_skipWord := sorry
set_option maxRecDepth 20000 in
theorem gX11_clause_X11_skipWord : GoodIn wsX11_clause (wsV RX11 141 RX11 yX11_skipWord wsX11_skipWord) := sorry
set_option maxRecDepth 20000 in
theorem ggX11_clause_X11_number : GoodIn wsX11_clause wsX11_number := sorry
set_option maxRecDepth 20000 in
theorem gX11_clause_X11_number : GoodIn wsX11_clause (wsV RX11 144 RX11 yX11_number wsX11_number) := sorry
set_option maxRecDepth 20000 in
theorem ggX11_clause_X11_closes : GoodIn wsX11_clause wsX11_closes := sorry
set_option maxRecDepth 20000 in
theorem gX11_clause_X11_closes : GoodIn wsX11_clause (wsV RX11 148 RX11 yX11_closes wsX11_closes) := sorry
theorem dX11_clause_0 : decode cX11_clause 0 = .ok (.aload_n 0, 1) := sorry
theorem dX11_clause_1 : decode cX11_clause 1 = .ok (.invokevirtual 138, 3) := sorry
theorem dX11_clause_4 : decode cX11_clause 4 = .ok (.istore_n 1, 1) := sorry
theorem dX11_clause_5 : decode cX11_clause 5 = .ok (.iload_n 1, 1) := sorry
theorem dX11_clause_6 : decode cX11_clause 6 = .ok (.iconst (-1), 1) := sorry
theorem dX11_clause_7 : decode cX11_clause 7 = .ok (.if_icmp .ne 15, 3) := sorry
theorem dX11_clause_10 : decode cX11_clause 10 = .ok (.aload_n 0, 1) := sorry
theorem dX11_clause_11 : decode cX11_clause 11 = .ok (.iconst 1, 1) := sorry
theorem dX11_clause_12 : decode cX11_clause 12 = .ok (.aload_n 0, 1) := sorry
theorem dX11_clause_13 : decode cX11_clause 13 = .ok (.getfield 94, 3) := sorry
theorem dX11_clause_16 : decode cX11_clause 16 = .ok (.invokevirtual 114, 3) := sorry
theorem dX11_clause_19 : decode cX11_clause 19 = .ok (.goto 36, 3) := sorry
theorem dX11_clause_22 : decode cX11_clause 22 = .ok (.aload_n 0, 1) := sorry
theorem dX11_clause_23 : decode cX11_clause 23 = .ok (.getfield 131, 3) := sorry
theorem dX11_clause_26 : decode cX11_clause 26 = .ok (.bipush 60, 2) := sorry
theorem dX11_clause_28 : decode cX11_clause 28 = .ok (.if_icmp .eq 18, 3) := sorry
theorem dX11_clause_31 : decode cX11_clause 31 = .ok (.iload_n 1, 1) := sorry
theorem dX11_clause_32 : decode cX11_clause 32 = .ok (.ifCond .ne 23, 3) := sorry
theorem dX11_clause_35 : decode cX11_clause 35 = .ok (.aload_n 0, 1) := sorry
theorem dX11_clause_36 : decode cX11_clause 36 = .ok (.getfield 20, 3) := sorry
theorem dX11_clause_39 : decode cX11_clause 39 = .ok (.iconst 0, 1) := sorry
theorem dX11_clause_40 : decode cX11_clause 40 = .ok (.iaload, 1) := sorry
theorem dX11_clause_41 : decode cX11_clause 41 = .ok (.bipush 6, 2) := sorry
theorem dX11_clause_43 : decode cX11_clause 43 = .ok (.if_icmp .ne 12, 3) := sorry
theorem dX11_clause_46 : decode cX11_clause 46 = .ok (.aload_n 0, 1) := sorry
theorem dX11_clause_47 : decode cX11_clause 47 = .ok (.iconst 3, 1) := sorry
theorem dX11_clause_48 : decode cX11_clause 48 = .ok (.aload_n 0, 1) := sorry
theorem dX11_clause_49 : decode cX11_clause 49 = .ok (.getfield 94, 3) := sorry
theorem dX11_clause_52 : decode cX11_clause 52 = .ok (.invokevirtual 114, 3) := sorry
theorem dX11_clause_55 : decode cX11_clause 55 = .ok (.aload_n 0, 1) := sorry
theorem dX11_clause_56 : decode cX11_clause 56 = .ok (.getfield 101, 3) := sorry
theorem dX11_clause_59 : decode cX11_clause 59 = .ok (.ifCond .eq 4, 3) := sorry
theorem dX11_clause_62 : decode cX11_clause 62 = .ok (.return_, 1) := sorry
theorem dX11_clause_63 : decode cX11_clause 63 = .ok (.aload_n 0, 1) := sorry
theorem dX11_clause_64 : decode cX11_clause 64 = .ok (.invokevirtual 141, 3) := sorry
theorem dX11_clause_67 : decode cX11_clause 67 = .ok (.aload_n 0, 1) := sorry
theorem dX11_clause_68 : decode cX11_clause 68 = .ok (.dup, 1) := sorry
theorem dX11_clause_69 : decode cX11_clause 69 = .ok (.getfield 131, 3) := sorry
theorem dX11_clause_72 : decode cX11_clause 72 = .ok (.iconst 1, 1) := sorry
theorem dX11_clause_73 : decode cX11_clause 73 = .ok (.iadd, 1) := sorry
theorem dX11_clause_74 : decode cX11_clause 74 = .ok (.putfield 131, 3) := sorry
theorem dX11_clause_77 : decode cX11_clause 77 = .ok (.iload_n 1, 1) := sorry
theorem dX11_clause_78 : decode cX11_clause 78 = .ok (.tableswitch 288 0 13 #[70, 115, 288, 288, 115, 288, 288, 163, 288, 195, 288, 288, 240, 257], 70) := sorry
theorem dX11_clause_148 : decode cX11_clause 148 = .ok (.aload_n 0, 1) := sorry
theorem dX11_clause_149 : decode cX11_clause 149 = .ok (.getfield 28, 3) := sorry
theorem dX11_clause_152 : decode cX11_clause 152 = .ok (.aload_n 0, 1) := sorry
theorem dX11_clause_153 : decode cX11_clause 153 = .ok (.getfield 20, 3) := sorry
theorem dX11_clause_156 : decode cX11_clause 156 = .ok (.iconst 0, 1) := sorry
theorem dX11_clause_157 : decode cX11_clause 157 = .ok (.iaload, 1) := sorry
theorem dX11_clause_158 : decode cX11_clause 158 = .ok (.aaload, 1) := sorry
theorem dX11_clause_159 : decode cX11_clause 159 = .ok (.astore_n 2, 1) := sorry
theorem dX11_clause_160 : decode cX11_clause 160 = .ok (.aload_n 2, 1) := sorry
theorem dX11_clause_161 : decode cX11_clause 161 = .ok (.iconst 0, 1) := sorry
theorem dX11_clause_162 : decode cX11_clause 162 = .ok (.aload_n 0, 1) := sorry
theorem dX11_clause_163 : decode cX11_clause 163 = .ok (.iconst 1, 1) := sorry
theorem dX11_clause_164 : decode cX11_clause 164 = .ok (.bipush 99, 2) := sorry
theorem dX11_clause_166 : decode cX11_clause 166 = .ok (.invokevirtual 144, 3) := sorry
theorem dX11_clause_169 : decode cX11_clause 169 = .ok (.iastore, 1) := sorry
theorem dX11_clause_170 : decode cX11_clause 170 = .ok (.aload_n 2, 1) := sorry
theorem dX11_clause_171 : decode cX11_clause 171 = .ok (.iconst 1, 1) := sorry
theorem dX11_clause_172 : decode cX11_clause 172 = .ok (.aload_n 0, 1) := sorry
theorem dX11_clause_173 : decode cX11_clause 173 = .ok (.iconst 0, 1) := sorry
theorem dX11_clause_174 : decode cX11_clause 174 = .ok (.bipush 50, 2) := sorry
theorem dX11_clause_176 : decode cX11_clause 176 = .ok (.invokevirtual 144, 3) := sorry
theorem dX11_clause_179 : decode cX11_clause 179 = .ok (.iastore, 1) := sorry
theorem dX11_clause_180 : decode cX11_clause 180 = .ok (.aload_n 0, 1) := sorry
theorem dX11_clause_181 : decode cX11_clause 181 = .ok (.getfield 20, 3) := sorry
theorem dX11_clause_184 : decode cX11_clause 184 = .ok (.iconst 0, 1) := sorry
theorem dX11_clause_185 : decode cX11_clause 185 = .ok (.dup2, 1) := sorry
theorem dX11_clause_186 : decode cX11_clause 186 = .ok (.iaload, 1) := sorry
theorem dX11_clause_187 : decode cX11_clause 187 = .ok (.iconst 1, 1) := sorry
theorem dX11_clause_188 : decode cX11_clause 188 = .ok (.iadd, 1) := sorry
theorem dX11_clause_189 : decode cX11_clause 189 = .ok (.iastore, 1) := sorry
theorem dX11_clause_190 : decode cX11_clause 190 = .ok (.goto 203, 3) := sorry
theorem dX11_clause_193 : decode cX11_clause 193 = .ok (.aload_n 0, 1) := sorry
theorem dX11_clause_194 : decode cX11_clause 194 = .ok (.getfield 20, 3) := sorry
theorem dX11_clause_197 : decode cX11_clause 197 = .ok (.iload_n 1, 1) := sorry
theorem dX11_clause_198 : decode cX11_clause 198 = .ok (.aload_n 0, 1) := sorry
theorem dX11_clause_199 : decode cX11_clause 199 = .ok (.iconst 0, 1) := sorry
theorem dX11_clause_200 : decode cX11_clause 200 = .ok (.sipush 9999, 3) := sorry
theorem dX11_clause_203 : decode cX11_clause 203 = .ok (.invokevirtual 144, 3) := sorry
theorem dX11_clause_206 : decode cX11_clause 206 = .ok (.iastore, 1) := sorry
theorem dX11_clause_207 : decode cX11_clause 207 = .ok (.aload_n 0, 1) := sorry
theorem dX11_clause_208 : decode cX11_clause 208 = .ok (.getfield 20, 3) := sorry
theorem dX11_clause_211 : decode cX11_clause 211 = .ok (.iload_n 1, 1) := sorry
theorem dX11_clause_212 : decode cX11_clause 212 = .ok (.iconst 1, 1) := sorry
theorem dX11_clause_213 : decode cX11_clause 213 = .ok (.iadd, 1) := sorry
theorem dX11_clause_214 : decode cX11_clause 214 = .ok (.aload_n 0, 1) := sorry
theorem dX11_clause_215 : decode cX11_clause 215 = .ok (.iconst 0, 1) := sorry
theorem dX11_clause_216 : decode cX11_clause 216 = .ok (.sipush 999, 3) := sorry
theorem dX11_clause_219 : decode cX11_clause 219 = .ok (.invokevirtual 144, 3) := sorry
theorem dX11_clause_222 : decode cX11_clause 222 = .ok (.iastore, 1) := sorry
theorem dX11_clause_223 : decode cX11_clause 223 = .ok (.aload_n 0, 1) := sorry
theorem dX11_clause_224 : decode cX11_clause 224 = .ok (.getfield 20, 3) := sorry
theorem dX11_clause_227 : decode cX11_clause 227 = .ok (.iload_n 1, 1) := sorry
theorem dX11_clause_228 : decode cX11_clause 228 = .ok (.iconst 2, 1) := sorry
theorem dX11_clause_229 : decode cX11_clause 229 = .ok (.iadd, 1) := sorry
theorem dX11_clause_230 : decode cX11_clause 230 = .ok (.aload_n 0, 1) := sorry
theorem dX11_clause_231 : decode cX11_clause 231 = .ok (.iconst 0, 1) := sorry
theorem dX11_clause_232 : decode cX11_clause 232 = .ok (.bipush 9, 2) := sorry
theorem dX11_clause_234 : decode cX11_clause 234 = .ok (.invokevirtual 144, 3) := sorry
theorem dX11_clause_237 : decode cX11_clause 237 = .ok (.iastore, 1) := sorry
theorem dX11_clause_238 : decode cX11_clause 238 = .ok (.goto 155, 3) := sorry
theorem dX11_clause_241 : decode cX11_clause 241 = .ok (.aload_n 0, 1) := sorry
theorem dX11_clause_242 : decode cX11_clause 242 = .ok (.getfield 20, 3) := sorry
theorem dX11_clause_245 : decode cX11_clause 245 = .ok (.bipush 7, 2) := sorry
theorem dX11_clause_247 : decode cX11_clause 247 = .ok (.aload_n 0, 1) := sorry
theorem dX11_clause_248 : decode cX11_clause 248 = .ok (.iconst 0, 1) := sorry
theorem dX11_clause_249 : decode cX11_clause 249 = .ok (.sipush 9999, 3) := sorry
theorem dX11_clause_252 : decode cX11_clause 252 = .ok (.invokevirtual 144, 3) := sorry
theorem dX11_clause_255 : decode cX11_clause 255 = .ok (.iastore, 1) := sorry
theorem dX11_clause_256 : decode cX11_clause 256 = .ok (.aload_n 0, 1) := sorry
theorem dX11_clause_257 : decode cX11_clause 257 = .ok (.getfield 20, 3) := sorry
theorem dX11_clause_260 : decode cX11_clause 260 = .ok (.bipush 8, 2) := sorry
theorem dX11_clause_262 : decode cX11_clause 262 = .ok (.aload_n 0, 1) := sorry
theorem dX11_clause_263 : decode cX11_clause 263 = .ok (.iconst 0, 1) := sorry
theorem dX11_clause_264 : decode cX11_clause 264 = .ok (.bipush 100, 2) := sorry
theorem dX11_clause_266 : decode cX11_clause 266 = .ok (.invokevirtual 144, 3) := sorry
theorem dX11_clause_269 : decode cX11_clause 269 = .ok (.iastore, 1) := sorry
theorem dX11_clause_270 : decode cX11_clause 270 = .ok (.goto 123, 3) := sorry
theorem dX11_clause_273 : decode cX11_clause 273 = .ok (.aload_n 0, 1) := sorry
theorem dX11_clause_274 : decode cX11_clause 274 = .ok (.getfield 20, 3) := sorry
theorem dX11_clause_277 : decode cX11_clause 277 = .ok (.bipush 9, 2) := sorry
theorem dX11_clause_279 : decode cX11_clause 279 = .ok (.aload_n 0, 1) := sorry
theorem dX11_clause_280 : decode cX11_clause 280 = .ok (.iconst 0, 1) := sorry
theorem dX11_clause_281 : decode cX11_clause 281 = .ok (.bipush 100, 2) := sorry
theorem dX11_clause_283 : decode cX11_clause 283 = .ok (.invokevirtual 144, 3) := sorry
theorem dX11_clause_286 : decode cX11_clause 286 = .ok (.iastore, 1) := sorry
theorem dX11_clause_287 : decode cX11_clause 287 = .ok (.aload_n 0, 1) := sorry
theorem dX11_clause_288 : decode cX11_clause 288 = .ok (.getfield 20, 3) := sorry
theorem dX11_clause_291 : decode cX11_clause 291 = .ok (.bipush 10, 2) := sorry
theorem dX11_clause_293 : decode cX11_clause 293 = .ok (.aload_n 0, 1) := sorry
theorem dX11_clause_294 : decode cX11_clause 294 = .ok (.iconst 0, 1) := sorry
theorem dX11_clause_295 : decode cX11_clause 295 = .ok (.bipush 50, 2) := sorry
theorem dX11_clause_297 : decode cX11_clause 297 = .ok (.invokevirtual 144, 3) := sorry
theorem dX11_clause_300 : decode cX11_clause 300 = .ok (.iastore, 1) := sorry
theorem dX11_clause_301 : decode cX11_clause 301 = .ok (.aload_n 0, 1) := sorry
theorem dX11_clause_302 : decode cX11_clause 302 = .ok (.getfield 20, 3) := sorry
theorem dX11_clause_305 : decode cX11_clause 305 = .ok (.bipush 11, 2) := sorry
theorem dX11_clause_307 : decode cX11_clause 307 = .ok (.aload_n 0, 1) := sorry
theorem dX11_clause_308 : decode cX11_clause 308 = .ok (.iconst 0, 1) := sorry
theorem dX11_clause_309 : decode cX11_clause 309 = .ok (.bipush 50, 2) := sorry
theorem dX11_clause_311 : decode cX11_clause 311 = .ok (.invokevirtual 144, 3) := sorry
theorem dX11_clause_314 : decode cX11_clause 314 = .ok (.iastore, 1) := sorry
theorem dX11_clause_315 : decode cX11_clause 315 = .ok (.goto 78, 3) := sorry
theorem dX11_clause_318 : decode cX11_clause 318 = .ok (.aload_n 0, 1) := sorry
theorem dX11_clause_319 : decode cX11_clause 319 = .ok (.getfield 20, 3) := sorry
theorem dX11_clause_322 : decode cX11_clause 322 = .ok (.bipush 12, 2) := sorry
theorem dX11_clause_324 : decode cX11_clause 324 = .ok (.aload_n 0, 1) := sorry
theorem dX11_clause_325 : decode cX11_clause 325 = .ok (.iconst 0, 1) := sorry
theorem dX11_clause_326 : decode cX11_clause 326 = .ok (.bipush 9, 2) := sorry
theorem dX11_clause_328 : decode cX11_clause 328 = .ok (.invokevirtual 144, 3) := sorry
theorem dX11_clause_331 : decode cX11_clause 331 = .ok (.iastore, 1) := sorry
theorem dX11_clause_332 : decode cX11_clause 332 = .ok (.goto 61, 3) := sorry
theorem dX11_clause_335 : decode cX11_clause 335 = .ok (.aload_n 0, 1) := sorry
theorem dX11_clause_336 : decode cX11_clause 336 = .ok (.getfield 20, 3) := sorry
theorem dX11_clause_339 : decode cX11_clause 339 = .ok (.bipush 13, 2) := sorry
theorem dX11_clause_341 : decode cX11_clause 341 = .ok (.aload_n 0, 1) := sorry
theorem dX11_clause_342 : decode cX11_clause 342 = .ok (.iconst 0, 1) := sorry
theorem dX11_clause_343 : decode cX11_clause 343 = .ok (.bipush 99, 2) := sorry
theorem dX11_clause_345 : decode cX11_clause 345 = .ok (.invokevirtual 144, 3) := sorry
theorem dX11_clause_348 : decode cX11_clause 348 = .ok (.iastore, 1) := sorry
theorem dX11_clause_349 : decode cX11_clause 349 = .ok (.aload_n 0, 1) := sorry
theorem dX11_clause_350 : decode cX11_clause 350 = .ok (.getfield 20, 3) := sorry
theorem dX11_clause_353 : decode cX11_clause 353 = .ok (.bipush 14, 2) := sorry
theorem dX11_clause_355 : decode cX11_clause 355 = .ok (.aload_n 0, 1) := sorry
theorem dX11_clause_356 : decode cX11_clause 356 = .ok (.iconst 0, 1) := sorry
theorem dX11_clause_357 : decode cX11_clause 357 = .ok (.bipush 99, 2) := sorry
theorem dX11_clause_359 : decode cX11_clause 359 = .ok (.invokevirtual 144, 3) := sorry
theorem dX11_clause_362 : decode cX11_clause 362 = .ok (.iastore, 1) := sorry
theorem dX11_clause_363 : decode cX11_clause 363 = .ok (.goto 30, 3) := sorry
theorem dX11_clause_366 : decode cX11_clause 366 = .ok (.aload_n 0, 1) := sorry
theorem dX11_clause_367 : decode cX11_clause 367 = .ok (.iconst 0, 1) := sorry
theorem dX11_clause_368 : decode cX11_clause 368 = .ok (.bipush 9, 2) := sorry
theorem dX11_clause_370 : decode cX11_clause 370 = .ok (.invokevirtual 144, 3) := sorry
theorem dX11_clause_373 : decode cX11_clause 373 = .ok (.istore_n 2, 1) := sorry
theorem dX11_clause_374 : decode cX11_clause 374 = .ok (.aload_n 0, 1) := sorry
theorem dX11_clause_375 : decode cX11_clause 375 = .ok (.getfield 20, 3) := sorry
theorem dX11_clause_378 : decode cX11_clause 378 = .ok (.bipush 15, 2) := sorry
theorem dX11_clause_380 : decode cX11_clause 380 = .ok (.iload_n 2, 1) := sorry
theorem dX11_clause_381 : decode cX11_clause 381 = .ok (.iadd, 1) := sorry
theorem dX11_clause_382 : decode cX11_clause 382 = .ok (.aload_n 0, 1) := sorry
theorem dX11_clause_383 : decode cX11_clause 383 = .ok (.iconst 0, 1) := sorry
theorem dX11_clause_384 : decode cX11_clause 384 = .ok (.bipush 20, 2) := sorry
theorem dX11_clause_386 : decode cX11_clause 386 = .ok (.invokevirtual 144, 3) := sorry
theorem dX11_clause_389 : decode cX11_clause 389 = .ok (.iastore, 1) := sorry
theorem dX11_clause_390 : decode cX11_clause 390 = .ok (.goto 3, 3) := sorry
theorem dX11_clause_393 : decode cX11_clause 393 = .ok (.aload_n 0, 1) := sorry
theorem dX11_clause_394 : decode cX11_clause 394 = .ok (.invokevirtual 148, 3) := sorry
theorem dX11_clause_397 : decode cX11_clause 397 = .ok (.return_, 1) := sorry
set_option maxRecDepth 20000 in
theorem ggX11_siege_X11_in : GoodIn wsX11_siege wsX11_in := sorry
set_option maxRecDepth 20000 in
theorem gX11_siege_X11_in : GoodIn wsX11_siege (va_wsS RX11 119 yX11_in wsX11_in) := sorry
set_option maxRecDepth 20000 in
theorem ggX11_siege_X11_bad : GoodIn wsX11_siege wsX11_bad := sorry
set_option maxRecDepth 20000 in
theorem gX11_siege_X11_bad : GoodIn wsX11_siege (wsV RX11 151 RX11 yX11_bad wsX11_bad) := sorry
set_option maxRecDepth 20000 in
theorem ggX11_siege_X11_starts : GoodIn wsX11_siege wsX11_starts := sorry
set_option maxRecDepth 20000 in
theorem gX11_siege_X11_starts : GoodIn wsX11_siege (wsV RX11 155 RX11 yX11_starts wsX11_starts) := sorry
set_option maxRecDepth 20000 in
theorem ggX11_siege_X11_tellsNothing : GoodIn wsX11_siege wsX11_tellsNothing := sorry
set_option maxRecDepth 20000 in
theorem gX11_siege_X11_tellsNothing : GoodIn wsX11_siege (wsV RX11 79 RX11 yX11_tellsNothing wsX11_tellsNothing) := sorry
set_option maxRecDepth 20000 in
theorem ggX11_siege_X11_clause : GoodIn wsX11_siege wsX11_clause := sorry
set_option maxRecDepth 20000 in
theorem gX11_siege_X11_clause : GoodIn wsX11_siege (wsV RX11 159 RX11 yX11_clause wsX11_clause) := sorry
set_option maxRecDepth 20000 in
theorem ggX11_siege_X11_blanks : GoodIn wsX11_siege wsX11_blanks := sorry
set_option maxRecDepth 20000 in
theorem gX11_siege_X11_blanks : GoodIn wsX11_siege (wsV RX11 107 RX11 yX11_blanks wsX11_blanks) := sorry
set_option maxRecDepth 20000 in
theorem ggX11_siege_X11_stands0 : GoodIn wsX11_siege wsX11_stands0 := sorry
set_option maxRecDepth 20000 in
theorem gX11_siege_X11_stands0 : GoodIn wsX11_siege (wsV RX11 82 RX11 yX11_stands0 wsX11_stands0) := sorry
theorem dX11_siege_0 : decode cX11_siege 0 = .ok (.aload_n 0, 1) := sorry
theorem dX11_siege_1 : decode cX11_siege 1 = .ok (.iconst 0, 1) := sorry
theorem dX11_siege_2 : decode cX11_siege 2 = .ok (.putfield 85, 3) := sorry
theorem dX11_siege_5 : decode cX11_siege 5 = .ok (.aload_n 0, 1) := sorry
theorem dX11_siege_6 : decode cX11_siege 6 = .ok (.iload_n 1, 1) := sorry
theorem dX11_siege_7 : decode cX11_siege 7 = .ok (.iconst 0, 1) := sorry
theorem dX11_siege_8 : decode cX11_siege 8 = .ok (.aload_n 0, 1) := sorry
theorem dX11_siege_9 : decode cX11_siege 9 = .ok (.getfield 88, 3) := sorry
theorem dX11_siege_12 : decode cX11_siege 12 = .ok (.invokestatic 119, 3) := sorry
theorem dX11_siege_15 : decode cX11_siege 15 = .ok (.ifCond .ne 7, 3) := sorry
theorem dX11_siege_18 : decode cX11_siege 18 = .ok (.iconst 1, 1) := sorry
theorem dX11_siege_19 : decode cX11_siege 19 = .ok (.goto 4, 3) := sorry
theorem dX11_siege_22 : decode cX11_siege 22 = .ok (.iconst 0, 1) := sorry
theorem dX11_siege_23 : decode cX11_siege 23 = .ok (.iconst 1, 1) := sorry
theorem dX11_siege_24 : decode cX11_siege 24 = .ok (.iconst 2, 1) := sorry
theorem dX11_siege_25 : decode cX11_siege 25 = .ok (.invokevirtual 151, 3) := sorry
theorem dX11_siege_28 : decode cX11_siege 28 = .ok (.ifCond .eq 5, 3) := sorry
theorem dX11_siege_31 : decode cX11_siege 31 = .ok (.iconst 0, 1) := sorry
theorem dX11_siege_32 : decode cX11_siege 32 = .ok (.ireturn, 1) := sorry
theorem dX11_siege_33 : decode cX11_siege 33 = .ok (.aload_n 0, 1) := sorry
theorem dX11_siege_34 : decode cX11_siege 34 = .ok (.iload_n 1, 1) := sorry
theorem dX11_siege_35 : decode cX11_siege 35 = .ok (.invokevirtual 155, 3) := sorry
theorem dX11_siege_38 : decode cX11_siege 38 = .ok (.aload_n 0, 1) := sorry
theorem dX11_siege_39 : decode cX11_siege 39 = .ok (.invokevirtual 79, 3) := sorry
theorem dX11_siege_42 : decode cX11_siege 42 = .ok (.aload_n 0, 1) := sorry
theorem dX11_siege_43 : decode cX11_siege 43 = .ok (.getfield 101, 3) := sorry
theorem dX11_siege_46 : decode cX11_siege 46 = .ok (.ifCond .ne 25, 3) := sorry
theorem dX11_siege_49 : decode cX11_siege 49 = .ok (.aload_n 0, 1) := sorry
theorem dX11_siege_50 : decode cX11_siege 50 = .ok (.getfield 94, 3) := sorry
theorem dX11_siege_53 : decode cX11_siege 53 = .ok (.aload_n 0, 1) := sorry
theorem dX11_siege_54 : decode cX11_siege 54 = .ok (.getfield 91, 3) := sorry
theorem dX11_siege_57 : decode cX11_siege 57 = .ok (.if_icmp .ge 14, 3) := sorry
theorem dX11_siege_60 : decode cX11_siege 60 = .ok (.aload_n 0, 1) := sorry
theorem dX11_siege_61 : decode cX11_siege 61 = .ok (.invokevirtual 159, 3) := sorry
theorem dX11_siege_64 : decode cX11_siege 64 = .ok (.aload_n 0, 1) := sorry
theorem dX11_siege_65 : decode cX11_siege 65 = .ok (.invokevirtual 107, 3) := sorry
theorem dX11_siege_68 : decode cX11_siege 68 = .ok (.goto (-26), 3) := sorry
theorem dX11_siege_71 : decode cX11_siege 71 = .ok (.aload_n 0, 1) := sorry
theorem dX11_siege_72 : decode cX11_siege 72 = .ok (.aload_n 0, 1) := sorry
theorem dX11_siege_73 : decode cX11_siege 73 = .ok (.getfield 104, 3) := sorry
theorem dX11_siege_76 : decode cX11_siege 76 = .ok (.putfield 9, 3) := sorry
theorem dX11_siege_79 : decode cX11_siege 79 = .ok (.aload_n 0, 1) := sorry
theorem dX11_siege_80 : decode cX11_siege 80 = .ok (.getfield 101, 3) := sorry
theorem dX11_siege_83 : decode cX11_siege 83 = .ok (.ifCond .eq 11, 3) := sorry
theorem dX11_siege_86 : decode cX11_siege 86 = .ok (.aload_n 0, 1) := sorry
theorem dX11_siege_87 : decode cX11_siege 87 = .ok (.getfield 101, 3) := sorry
theorem dX11_siege_90 : decode cX11_siege 90 = .ok (.bipush 10, 2) := sorry
theorem dX11_siege_92 : decode cX11_siege 92 = .ok (.isub, 1) := sorry
theorem dX11_siege_93 : decode cX11_siege 93 = .ok (.ireturn, 1) := sorry
theorem dX11_siege_94 : decode cX11_siege 94 = .ok (.aload_n 0, 1) := sorry
theorem dX11_siege_95 : decode cX11_siege 95 = .ok (.invokevirtual 82, 3) := sorry
theorem dX11_siege_98 : decode cX11_siege 98 = .ok (.aload_n 0, 1) := sorry
theorem dX11_siege_99 : decode cX11_siege 99 = .ok (.getfield 23, 3) := sorry
theorem dX11_siege_102 : decode cX11_siege 102 = .ok (.iconst 0, 1) := sorry
theorem dX11_siege_103 : decode cX11_siege 103 = .ok (.iaload, 1) := sorry
theorem dX11_siege_104 : decode cX11_siege 104 = .ok (.ireturn, 1) := sorry
theorem dX11_stands0_0 : decode cX11_stands0 0 = .ok (.iconst 0, 1) := sorry
theorem dX11_stands0_1 : decode cX11_stands0 1 = .ok (.istore_n 1, 1) := sorry
theorem dX11_stands0_2 : decode cX11_stands0 2 = .ok (.iload_n 1, 1) := sorry
theorem dX11_stands0_3 : decode cX11_stands0 3 = .ok (.bipush 25, 2) := sorry
theorem dX11_stands0_5 : decode cX11_stands0 5 = .ok (.if_icmp .ge 21, 3) := sorry
theorem dX11_stands0_8 : decode cX11_stands0 8 = .ok (.aload_n 0, 1) := sorry
theorem dX11_stands0_9 : decode cX11_stands0 9 = .ok (.getfield 23, 3) := sorry
theorem dX11_stands0_12 : decode cX11_stands0 12 = .ok (.iload_n 1, 1) := sorry
theorem dX11_stands0_13 : decode cX11_stands0 13 = .ok (.aload_n 0, 1) := sorry
theorem dX11_stands0_14 : decode cX11_stands0 14 = .ok (.getfield 20, 3) := sorry
theorem dX11_stands0_17 : decode cX11_stands0 17 = .ok (.iload_n 1, 1) := sorry
theorem dX11_stands0_18 : decode cX11_stands0 18 = .ok (.iaload, 1) := sorry
theorem dX11_stands0_19 : decode cX11_stands0 19 = .ok (.iastore, 1) := sorry
theorem dX11_stands0_20 : decode cX11_stands0 20 = .ok (.iinc 1 1, 3) := sorry
theorem dX11_stands0_23 : decode cX11_stands0 23 = .ok (.goto (-21), 3) := sorry
theorem dX11_stands0_26 : decode cX11_stands0 26 = .ok (.iconst 0, 1) := sorry
theorem dX11_stands0_27 : decode cX11_stands0 27 = .ok (.istore_n 1, 1) := sorry
theorem dX11_stands0_28 : decode cX11_stands0 28 = .ok (.iload_n 1, 1) := sorry
theorem dX11_stands0_29 : decode cX11_stands0 29 = .ok (.bipush 25, 2) := sorry
theorem dX11_stands0_31 : decode cX11_stands0 31 = .ok (.if_icmp .ge 16, 3) := sorry
theorem dX11_stands0_34 : decode cX11_stands0 34 = .ok (.aload_n 0, 1) := sorry
theorem dX11_stands0_35 : decode cX11_stands0 35 = .ok (.getfield 46, 3) := sorry
theorem dX11_stands0_38 : decode cX11_stands0 38 = .ok (.iload_n 1, 1) := sorry
theorem dX11_stands0_39 : decode cX11_stands0 39 = .ok (.iconst 0, 1) := sorry
theorem dX11_stands0_40 : decode cX11_stands0 40 = .ok (.iastore, 1) := sorry
theorem dX11_stands0_41 : decode cX11_stands0 41 = .ok (.iinc 1 1, 3) := sorry
theorem dX11_stands0_44 : decode cX11_stands0 44 = .ok (.goto (-16), 3) := sorry
theorem dX11_stands0_47 : decode cX11_stands0 47 = .ok (.aload_n 0, 1) := sorry
theorem dX11_stands0_48 : decode cX11_stands0 48 = .ok (.getfield 46, 3) := sorry
theorem dX11_stands0_51 : decode cX11_stands0 51 = .ok (.iconst 0, 1) := sorry
theorem dX11_stands0_52 : decode cX11_stands0 52 = .ok (.aload_n 0, 1) := sorry
theorem dX11_stands0_53 : decode cX11_stands0 53 = .ok (.getfield 23, 3) := sorry
theorem dX11_stands0_56 : decode cX11_stands0 56 = .ok (.iconst 1, 1) := sorry
theorem dX11_stands0_57 : decode cX11_stands0 57 = .ok (.iaload, 1) := sorry
theorem dX11_stands0_58 : decode cX11_stands0 58 = .ok (.iastore, 1) := sorry
theorem dX11_stands0_59 : decode cX11_stands0 59 = .ok (.aload_n 0, 1) := sorry
theorem dX11_stands0_60 : decode cX11_stands0 60 = .ok (.getfield 46, 3) := sorry
theorem dX11_stands0_63 : decode cX11_stands0 63 = .ok (.iconst 1, 1) := sorry
theorem dX11_stands0_64 : decode cX11_stands0 64 = .ok (.aload_n 0, 1) := sorry
theorem dX11_stands0_65 : decode cX11_stands0 65 = .ok (.getfield 23, 3) := sorry
theorem dX11_stands0_68 : decode cX11_stands0 68 = .ok (.iconst 4, 1) := sorry
theorem dX11_stands0_69 : decode cX11_stands0 69 = .ok (.iaload, 1) := sorry
theorem dX11_stands0_70 : decode cX11_stands0 70 = .ok (.iastore, 1) := sorry
theorem dX11_stands0_71 : decode cX11_stands0 71 = .ok (.aload_n 0, 1) := sorry
theorem dX11_stands0_72 : decode cX11_stands0 72 = .ok (.getfield 46, 3) := sorry
theorem dX11_stands0_75 : decode cX11_stands0 75 = .ok (.iconst 2, 1) := sorry
theorem dX11_stands0_76 : decode cX11_stands0 76 = .ok (.aload_n 0, 1) := sorry
theorem dX11_stands0_77 : decode cX11_stands0 77 = .ok (.getfield 23, 3) := sorry
theorem dX11_stands0_80 : decode cX11_stands0 80 = .ok (.bipush 7, 2) := sorry
theorem dX11_stands0_82 : decode cX11_stands0 82 = .ok (.iaload, 1) := sorry
theorem dX11_stands0_83 : decode cX11_stands0 83 = .ok (.iastore, 1) := sorry
theorem dX11_stands0_84 : decode cX11_stands0 84 = .ok (.aload_n 0, 1) := sorry
theorem dX11_stands0_85 : decode cX11_stands0 85 = .ok (.getfield 46, 3) := sorry
theorem dX11_stands0_88 : decode cX11_stands0 88 = .ok (.iconst 3, 1) := sorry
theorem dX11_stands0_89 : decode cX11_stands0 89 = .ok (.aload_n 0, 1) := sorry
theorem dX11_stands0_90 : decode cX11_stands0 90 = .ok (.getfield 23, 3) := sorry
theorem dX11_stands0_93 : decode cX11_stands0 93 = .ok (.iconst 2, 1) := sorry
theorem dX11_stands0_94 : decode cX11_stands0 94 = .ok (.iaload, 1) := sorry
theorem dX11_stands0_95 : decode cX11_stands0 95 = .ok (.iastore, 1) := sorry
theorem dX11_stands0_96 : decode cX11_stands0 96 = .ok (.aload_n 0, 1) := sorry
theorem dX11_stands0_97 : decode cX11_stands0 97 = .ok (.getfield 46, 3) := sorry
theorem dX11_stands0_100 : decode cX11_stands0 100 = .ok (.iconst 4, 1) := sorry
theorem dX11_stands0_101 : decode cX11_stands0 101 = .ok (.aload_n 0, 1) := sorry
theorem dX11_stands0_102 : decode cX11_stands0 102 = .ok (.getfield 23, 3) := sorry
theorem dX11_stands0_105 : decode cX11_stands0 105 = .ok (.iconst 5, 1) := sorry
theorem dX11_stands0_106 : decode cX11_stands0 106 = .ok (.iaload, 1) := sorry
theorem dX11_stands0_107 : decode cX11_stands0 107 = .ok (.iastore, 1) := sorry
theorem dX11_stands0_108 : decode cX11_stands0 108 = .ok (.aload_n 0, 1) := sorry
theorem dX11_stands0_109 : decode cX11_stands0 109 = .ok (.getfield 46, 3) := sorry
theorem dX11_stands0_112 : decode cX11_stands0 112 = .ok (.iconst 5, 1) := sorry
theorem dX11_stands0_113 : decode cX11_stands0 113 = .ok (.aload_n 0, 1) := sorry
theorem dX11_stands0_114 : decode cX11_stands0 114 = .ok (.getfield 23, 3) := sorry
theorem dX11_stands0_117 : decode cX11_stands0 117 = .ok (.bipush 9, 2) := sorry
theorem dX11_stands0_119 : decode cX11_stands0 119 = .ok (.iaload, 1) := sorry
theorem dX11_stands0_120 : decode cX11_stands0 120 = .ok (.iastore, 1) := sorry
theorem dX11_stands0_121 : decode cX11_stands0 121 = .ok (.aload_n 0, 1) := sorry
theorem dX11_stands0_122 : decode cX11_stands0 122 = .ok (.getfield 46, 3) := sorry
theorem dX11_stands0_125 : decode cX11_stands0 125 = .ok (.bipush 10, 2) := sorry
theorem dX11_stands0_127 : decode cX11_stands0 127 = .ok (.iconst (-1), 1) := sorry
theorem dX11_stands0_128 : decode cX11_stands0 128 = .ok (.iastore, 1) := sorry
theorem dX11_stands0_129 : decode cX11_stands0 129 = .ok (.aload_n 0, 1) := sorry
theorem dX11_stands0_130 : decode cX11_stands0 130 = .ok (.getfield 46, 3) := sorry
theorem dX11_stands0_133 : decode cX11_stands0 133 = .ok (.bipush 11, 2) := sorry
theorem dX11_stands0_135 : decode cX11_stands0 135 = .ok (.iconst (-1), 1) := sorry
theorem dX11_stands0_136 : decode cX11_stands0 136 = .ok (.iastore, 1) := sorry
theorem dX11_stands0_137 : decode cX11_stands0 137 = .ok (.iconst 0, 1) := sorry
theorem dX11_stands0_138 : decode cX11_stands0 138 = .ok (.istore_n 1, 1) := sorry
theorem dX11_stands0_139 : decode cX11_stands0 139 = .ok (.iload_n 1, 1) := sorry
theorem dX11_stands0_140 : decode cX11_stands0 140 = .ok (.aload_n 0, 1) := sorry
theorem dX11_stands0_141 : decode cX11_stands0 141 = .ok (.getfield 23, 3) := sorry
theorem dX11_stands0_144 : decode cX11_stands0 144 = .ok (.iconst 0, 1) := sorry
theorem dX11_stands0_145 : decode cX11_stands0 145 = .ok (.iaload, 1) := sorry
theorem dX11_stands0_146 : decode cX11_stands0 146 = .ok (.if_icmp .ge 55, 3) := sorry
theorem dX11_stands0_149 : decode cX11_stands0 149 = .ok (.iconst 0, 1) := sorry
theorem dX11_stands0_150 : decode cX11_stands0 150 = .ok (.istore_n 2, 1) := sorry
theorem dX11_stands0_151 : decode cX11_stands0 151 = .ok (.iload_n 2, 1) := sorry
theorem dX11_stands0_152 : decode cX11_stands0 152 = .ok (.iconst 2, 1) := sorry
theorem dX11_stands0_153 : decode cX11_stands0 153 = .ok (.if_icmp .ge 25, 3) := sorry
theorem dX11_stands0_156 : decode cX11_stands0 156 = .ok (.aload_n 0, 1) := sorry
theorem dX11_stands0_157 : decode cX11_stands0 157 = .ok (.getfield 31, 3) := sorry
theorem dX11_stands0_160 : decode cX11_stands0 160 = .ok (.iload_n 1, 1) := sorry
theorem dX11_stands0_161 : decode cX11_stands0 161 = .ok (.aaload, 1) := sorry
theorem dX11_stands0_162 : decode cX11_stands0 162 = .ok (.iload_n 2, 1) := sorry
theorem dX11_stands0_163 : decode cX11_stands0 163 = .ok (.aload_n 0, 1) := sorry
theorem dX11_stands0_164 : decode cX11_stands0 164 = .ok (.getfield 28, 3) := sorry
theorem dX11_stands0_167 : decode cX11_stands0 167 = .ok (.iload_n 1, 1) := sorry
theorem dX11_stands0_168 : decode cX11_stands0 168 = .ok (.aaload, 1) := sorry
theorem dX11_stands0_169 : decode cX11_stands0 169 = .ok (.iload_n 2, 1) := sorry
theorem dX11_stands0_170 : decode cX11_stands0 170 = .ok (.iaload, 1) := sorry
theorem dX11_stands0_171 : decode cX11_stands0 171 = .ok (.iastore, 1) := sorry
theorem dX11_stands0_172 : decode cX11_stands0 172 = .ok (.iinc 2 1, 3) := sorry
theorem dX11_stands0_175 : decode cX11_stands0 175 = .ok (.goto (-24), 3) := sorry
theorem dX11_stands0_178 : decode cX11_stands0 178 = .ok (.aload_n 0, 1) := sorry
theorem dX11_stands0_179 : decode cX11_stands0 179 = .ok (.getfield 46, 3) := sorry
theorem dX11_stands0_182 : decode cX11_stands0 182 = .ok (.bipush 12, 2) := sorry
theorem dX11_stands0_184 : decode cX11_stands0 184 = .ok (.iload_n 1, 1) := sorry
theorem dX11_stands0_185 : decode cX11_stands0 185 = .ok (.iadd, 1) := sorry
theorem dX11_stands0_186 : decode cX11_stands0 186 = .ok (.aload_n 0, 1) := sorry
theorem dX11_stands0_187 : decode cX11_stands0 187 = .ok (.getfield 31, 3) := sorry
theorem dX11_stands0_190 : decode cX11_stands0 190 = .ok (.iload_n 1, 1) := sorry
theorem dX11_stands0_191 : decode cX11_stands0 191 = .ok (.aaload, 1) := sorry
theorem dX11_stands0_192 : decode cX11_stands0 192 = .ok (.iconst 0, 1) := sorry
theorem dX11_stands0_193 : decode cX11_stands0 193 = .ok (.iaload, 1) := sorry
theorem dX11_stands0_194 : decode cX11_stands0 194 = .ok (.iastore, 1) := sorry
theorem dX11_stands0_195 : decode cX11_stands0 195 = .ok (.iinc 1 1, 3) := sorry
theorem dX11_stands0_198 : decode cX11_stands0 198 = .ok (.goto (-59), 3) := sorry
theorem dX11_stands0_201 : decode cX11_stands0 201 = .ok (.iconst 0, 1) := sorry
theorem dX11_stands0_202 : decode cX11_stands0 202 = .ok (.istore_n 1, 1) := sorry
theorem dX11_stands0_203 : decode cX11_stands0 203 = .ok (.iload_n 1, 1) := sorry
theorem dX11_stands0_204 : decode cX11_stands0 204 = .ok (.bipush 120, 2) := sorry
theorem dX11_stands0_206 : decode cX11_stands0 206 = .ok (.if_icmp .ge 32, 3) := sorry
theorem dX11_stands0_209 : decode cX11_stands0 209 = .ok (.iconst 0, 1) := sorry
theorem dX11_stands0_210 : decode cX11_stands0 210 = .ok (.istore_n 2, 1) := sorry
theorem dX11_stands0_211 : decode cX11_stands0 211 = .ok (.iload_n 2, 1) := sorry
theorem dX11_stands0_212 : decode cX11_stands0 212 = .ok (.bipush 6, 2) := sorry
theorem dX11_stands0_214 : decode cX11_stands0 214 = .ok (.if_icmp .ge 18, 3) := sorry
theorem dX11_stands0_217 : decode cX11_stands0 217 = .ok (.aload_n 0, 1) := sorry
theorem dX11_stands0_218 : decode cX11_stands0 218 = .ok (.getfield 55, 3) := sorry
theorem dX11_stands0_221 : decode cX11_stands0 221 = .ok (.iload_n 1, 1) := sorry
theorem dX11_stands0_222 : decode cX11_stands0 222 = .ok (.aaload, 1) := sorry
theorem dX11_stands0_223 : decode cX11_stands0 223 = .ok (.iload_n 2, 1) := sorry
theorem dX11_stands0_224 : decode cX11_stands0 224 = .ok (.iconst 0, 1) := sorry
theorem dX11_stands0_225 : decode cX11_stands0 225 = .ok (.iastore, 1) := sorry
theorem dX11_stands0_226 : decode cX11_stands0 226 = .ok (.iinc 2 1, 3) := sorry
theorem dX11_stands0_229 : decode cX11_stands0 229 = .ok (.goto (-18), 3) := sorry
theorem dX11_stands0_232 : decode cX11_stands0 232 = .ok (.iinc 1 1, 3) := sorry
theorem dX11_stands0_235 : decode cX11_stands0 235 = .ok (.goto (-32), 3) := sorry
theorem dX11_stands0_238 : decode cX11_stands0 238 = .ok (.iconst 0, 1) := sorry
theorem dX11_stands0_239 : decode cX11_stands0 239 = .ok (.istore_n 1, 1) := sorry
theorem dX11_stands0_240 : decode cX11_stands0 240 = .ok (.iload_n 1, 1) := sorry
theorem dX11_stands0_241 : decode cX11_stands0 241 = .ok (.iconst 4, 1) := sorry
theorem dX11_stands0_242 : decode cX11_stands0 242 = .ok (.if_icmp .ge 32, 3) := sorry
theorem dX11_stands0_245 : decode cX11_stands0 245 = .ok (.iconst 0, 1) := sorry
theorem dX11_stands0_246 : decode cX11_stands0 246 = .ok (.istore_n 2, 1) := sorry
theorem dX11_stands0_247 : decode cX11_stands0 247 = .ok (.iload_n 2, 1) := sorry
theorem dX11_stands0_248 : decode cX11_stands0 248 = .ok (.iconst 2, 1) := sorry
theorem dX11_stands0_249 : decode cX11_stands0 249 = .ok (.if_icmp .ge 19, 3) := sorry
theorem dX11_stands0_252 : decode cX11_stands0 252 = .ok (.aload_n 0, 1) := sorry
theorem dX11_stands0_253 : decode cX11_stands0 253 = .ok (.getfield 64, 3) := sorry
theorem dX11_stands0_256 : decode cX11_stands0 256 = .ok (.iload_n 1, 1) := sorry
theorem dX11_stands0_257 : decode cX11_stands0 257 = .ok (.aaload, 1) := sorry
theorem dX11_stands0_258 : decode cX11_stands0 258 = .ok (.iload_n 2, 1) := sorry
theorem dX11_stands0_259 : decode cX11_stands0 259 = .ok (.bipush 8, 2) := sorry
theorem dX11_stands0_261 : decode cX11_stands0 261 = .ok (.iastore, 1) := sorry
theorem dX11_stands0_262 : decode cX11_stands0 262 = .ok (.iinc 2 1, 3) := sorry
theorem dX11_stands0_265 : decode cX11_stands0 265 = .ok (.goto (-18), 3) := sorry
theorem dX11_stands0_268 : decode cX11_stands0 268 = .ok (.iinc 1 1, 3) := sorry
theorem dX11_stands0_271 : decode cX11_stands0 271 = .ok (.goto (-31), 3) := sorry
theorem dX11_stands0_274 : decode cX11_stands0 274 = .ok (.iconst 0, 1) := sorry
theorem dX11_stands0_275 : decode cX11_stands0 275 = .ok (.istore_n 1, 1) := sorry
theorem dX11_stands0_276 : decode cX11_stands0 276 = .ok (.iload_n 1, 1) := sorry
theorem dX11_stands0_277 : decode cX11_stands0 277 = .ok (.iconst 2, 1) := sorry
theorem dX11_stands0_278 : decode cX11_stands0 278 = .ok (.if_icmp .ge 32, 3) := sorry
theorem dX11_stands0_281 : decode cX11_stands0 281 = .ok (.iconst 0, 1) := sorry
theorem dX11_stands0_282 : decode cX11_stands0 282 = .ok (.istore_n 2, 1) := sorry
theorem dX11_stands0_283 : decode cX11_stands0 283 = .ok (.iload_n 2, 1) := sorry
theorem dX11_stands0_284 : decode cX11_stands0 284 = .ok (.bipush 12, 2) := sorry
theorem dX11_stands0_286 : decode cX11_stands0 286 = .ok (.if_icmp .ge 18, 3) := sorry
theorem dX11_stands0_289 : decode cX11_stands0 289 = .ok (.aload_n 0, 1) := sorry
theorem dX11_stands0_290 : decode cX11_stands0 290 = .ok (.getfield 70, 3) := sorry
theorem dX11_stands0_293 : decode cX11_stands0 293 = .ok (.iload_n 1, 1) := sorry
theorem dX11_stands0_294 : decode cX11_stands0 294 = .ok (.aaload, 1) := sorry
theorem dX11_stands0_295 : decode cX11_stands0 295 = .ok (.iload_n 2, 1) := sorry
theorem dX11_stands0_296 : decode cX11_stands0 296 = .ok (.iconst 0, 1) := sorry
theorem dX11_stands0_297 : decode cX11_stands0 297 = .ok (.iastore, 1) := sorry
theorem dX11_stands0_298 : decode cX11_stands0 298 = .ok (.iinc 2 1, 3) := sorry
theorem dX11_stands0_301 : decode cX11_stands0 301 = .ok (.goto (-18), 3) := sorry
theorem dX11_stands0_304 : decode cX11_stands0 304 = .ok (.iinc 1 1, 3) := sorry
theorem dX11_stands0_307 : decode cX11_stands0 307 = .ok (.goto (-31), 3) := sorry
theorem dX11_stands0_310 : decode cX11_stands0 310 = .ok (.aload_n 0, 1) := sorry
theorem dX11_stands0_311 : decode cX11_stands0 311 = .ok (.iconst 0, 1) := sorry
theorem dX11_stands0_312 : decode cX11_stands0 312 = .ok (.putfield 162, 3) := sorry
theorem dX11_stands0_315 : decode cX11_stands0 315 = .ok (.aload_n 0, 1) := sorry
theorem dX11_stands0_316 : decode cX11_stands0 316 = .ok (.iconst 1, 1) := sorry
theorem dX11_stands0_317 : decode cX11_stands0 317 = .ok (.putfield 58, 3) := sorry
theorem dX11_stands0_320 : decode cX11_stands0 320 = .ok (.aload_n 0, 1) := sorry
theorem dX11_stands0_321 : decode cX11_stands0 321 = .ok (.iconst 1, 1) := sorry
theorem dX11_stands0_322 : decode cX11_stands0 322 = .ok (.putfield 61, 3) := sorry
theorem dX11_stands0_325 : decode cX11_stands0 325 = .ok (.aload_n 0, 1) := sorry
theorem dX11_stands0_326 : decode cX11_stands0 326 = .ok (.iconst 0, 1) := sorry
theorem dX11_stands0_327 : decode cX11_stands0 327 = .ok (.putfield 165, 3) := sorry
theorem dX11_stands0_330 : decode cX11_stands0 330 = .ok (.aload_n 0, 1) := sorry
theorem dX11_stands0_331 : decode cX11_stands0 331 = .ok (.iconst 0, 1) := sorry
theorem dX11_stands0_332 : decode cX11_stands0 332 = .ok (.putfield 168, 3) := sorry
theorem dX11_stands0_335 : decode cX11_stands0 335 = .ok (.return_, 1) := sorry
set_option maxRecDepth 20000 in
theorem ggX11_rules_X11_isWord : GoodIn wsX11_rules wsX11_isWord := sorry
set_option maxRecDepth 20000 in
theorem gX11_rules_X11_isWord : GoodIn wsX11_rules (wsV RX11 134 RX11 yX11_isWord wsX11_isWord) := sorry
set_option maxRecDepth 20000 in
theorem ggX11_rules_X11_wrong : GoodIn wsX11_rules wsX11_wrong := sorry
set_option maxRecDepth 20000 in
theorem gX11_rules_X11_wrong : GoodIn wsX11_rules (wsV RX11 114 RX11 yX11_wrong wsX11_wrong) := sorry
set_option maxRecDepth 20000 in
theorem ggX11_rules_X11_skipWord : GoodIn wsX11_rules wsX11_skipWord := sorry
set_option maxRecDepth 20000 in
theorem gX11_rules_X11_skipWord : GoodIn wsX11_rules (wsV RX11 141 RX11 yX11_skipWord wsX11_skipWord) := sorry
set_option maxRecDepth 20000 in
theorem ggX11_rules_X11_number : GoodIn wsX11_rules wsX11_number := sorry
set_option maxRecDepth 20000 in
theorem gX11_rules_X11_number : GoodIn wsX11_rules (wsV RX11 144 RX11 yX11_number wsX11_number) := sorry
set_option maxRecDepth 20000 in
theorem ggX11_rules_X11_closes : GoodIn wsX11_rules wsX11_closes := sorry
set_option maxRecDepth 20000 in
theorem gX11_rules_X11_closes : GoodIn wsX11_rules (wsV RX11 148 RX11 yX11_closes wsX11_closes) := sorry
theorem dX11_rules_0 : decode cX11_rules 0 = .ok (.aload_n 0, 1) := sorry
theorem dX11_rules_1 : decode cX11_rules 1 = .ok (.bipush 16, 2) := sorry
theorem dX11_rules_3 : decode cX11_rules 3 = .ok (.iconst 1, 1) := sorry
theorem dX11_rules_4 : decode cX11_rules 4 = .ok (.bipush 25, 2) := sorry
theorem dX11_rules_6 : decode cX11_rules 6 = .ok (.iconst 0, 1) := sorry
theorem dX11_rules_7 : decode cX11_rules 7 = .ok (.iconst 0, 1) := sorry
theorem dX11_rules_8 : decode cX11_rules 8 = .ok (.iconst 0, 1) := sorry
theorem dX11_rules_9 : decode cX11_rules 9 = .ok (.invokevirtual 134, 3) := sorry
theorem dX11_rules_12 : decode cX11_rules 12 = .ok (.ifCond .eq 7, 3) := sorry
theorem dX11_rules_15 : decode cX11_rules 15 = .ok (.iconst 0, 1) := sorry
theorem dX11_rules_16 : decode cX11_rules 16 = .ok (.goto 128, 3) := sorry
theorem dX11_rules_19 : decode cX11_rules 19 = .ok (.aload_n 0, 1) := sorry
theorem dX11_rules_20 : decode cX11_rules 20 = .ok (.bipush 23, 2) := sorry
theorem dX11_rules_22 : decode cX11_rules 22 = .ok (.bipush 9, 2) := sorry
theorem dX11_rules_24 : decode cX11_rules 24 = .ok (.bipush 14, 2) := sorry
theorem dX11_rules_26 : decode cX11_rules 26 = .ok (.bipush 20, 2) := sorry
theorem dX11_rules_28 : decode cX11_rules 28 = .ok (.iconst 5, 1) := sorry
theorem dX11_rules_29 : decode cX11_rules 29 = .ok (.bipush 18, 2) := sorry
theorem dX11_rules_31 : decode cX11_rules 31 = .ok (.invokevirtual 134, 3) := sorry
theorem dX11_rules_34 : decode cX11_rules 34 = .ok (.ifCond .eq 7, 3) := sorry
theorem dX11_rules_37 : decode cX11_rules 37 = .ok (.iconst 1, 1) := sorry
theorem dX11_rules_38 : decode cX11_rules 38 = .ok (.goto 106, 3) := sorry
theorem dX11_rules_41 : decode cX11_rules 41 = .ok (.aload_n 0, 1) := sorry
theorem dX11_rules_42 : decode cX11_rules 42 = .ok (.bipush 14, 2) := sorry
theorem dX11_rules_44 : decode cX11_rules 44 = .ok (.iconst 5, 1) := sorry
theorem dX11_rules_45 : decode cX11_rules 45 = .ok (.iconst 1, 1) := sorry
theorem dX11_rules_46 : decode cX11_rules 46 = .ok (.bipush 18, 2) := sorry
theorem dX11_rules_48 : decode cX11_rules 48 = .ok (.iconst 0, 1) := sorry
theorem dX11_rules_49 : decode cX11_rules 49 = .ok (.iconst 0, 1) := sorry
theorem dX11_rules_50 : decode cX11_rules 50 = .ok (.invokevirtual 134, 3) := sorry
theorem dX11_rules_53 : decode cX11_rules 53 = .ok (.ifCond .eq 7, 3) := sorry
theorem dX11_rules_56 : decode cX11_rules 56 = .ok (.iconst 2, 1) := sorry
theorem dX11_rules_57 : decode cX11_rules 57 = .ok (.goto 87, 3) := sorry
theorem dX11_rules_60 : decode cX11_rules 60 = .ok (.aload_n 0, 1) := sorry
theorem dX11_rules_61 : decode cX11_rules 61 = .ok (.iconst 3, 1) := sorry
theorem dX11_rules_62 : decode cX11_rules 62 = .ok (.bipush 15, 2) := sorry
theorem dX11_rules_64 : decode cX11_rules 64 = .ok (.bipush 18, 2) := sorry
theorem dX11_rules_66 : decode cX11_rules 66 = .ok (.bipush 11, 2) := sorry
theorem dX11_rules_68 : decode cX11_rules 68 = .ok (.bipush 19, 2) := sorry
theorem dX11_rules_70 : decode cX11_rules 70 = .ok (.iconst 0, 1) := sorry
theorem dX11_rules_71 : decode cX11_rules 71 = .ok (.invokevirtual 134, 3) := sorry
theorem dX11_rules_74 : decode cX11_rules 74 = .ok (.ifCond .eq 7, 3) := sorry
theorem dX11_rules_77 : decode cX11_rules 77 = .ok (.iconst 3, 1) := sorry
theorem dX11_rules_78 : decode cX11_rules 78 = .ok (.goto 66, 3) := sorry
theorem dX11_rules_81 : decode cX11_rules 81 = .ok (.aload_n 0, 1) := sorry
theorem dX11_rules_82 : decode cX11_rules 82 = .ok (.iconst 2, 1) := sorry
theorem dX11_rules_83 : decode cX11_rules 83 = .ok (.bipush 15, 2) := sorry
theorem dX11_rules_85 : decode cX11_rules 85 = .ok (.bipush 14, 2) := sorry
theorem dX11_rules_87 : decode cX11_rules 87 = .ok (.bipush 21, 2) := sorry
theorem dX11_rules_89 : decode cX11_rules 89 = .ok (.bipush 19, 2) := sorry
theorem dX11_rules_91 : decode cX11_rules 91 = .ok (.iconst 0, 1) := sorry
theorem dX11_rules_92 : decode cX11_rules 92 = .ok (.invokevirtual 134, 3) := sorry
theorem dX11_rules_95 : decode cX11_rules 95 = .ok (.ifCond .eq 7, 3) := sorry
theorem dX11_rules_98 : decode cX11_rules 98 = .ok (.iconst 4, 1) := sorry
theorem dX11_rules_99 : decode cX11_rules 99 = .ok (.goto 45, 3) := sorry
theorem dX11_rules_102 : decode cX11_rules 102 = .ok (.aload_n 0, 1) := sorry
theorem dX11_rules_103 : decode cX11_rules 103 = .ok (.bipush 20, 2) := sorry
theorem dX11_rules_105 : decode cX11_rules 105 = .ok (.bipush 9, 2) := sorry
theorem dX11_rules_107 : decode cX11_rules 107 = .ok (.bipush 12, 2) := sorry
theorem dX11_rules_109 : decode cX11_rules 109 = .ok (.bipush 12, 2) := sorry
theorem dX11_rules_111 : decode cX11_rules 111 = .ok (.iconst 0, 1) := sorry
theorem dX11_rules_112 : decode cX11_rules 112 = .ok (.iconst 0, 1) := sorry
theorem dX11_rules_113 : decode cX11_rules 113 = .ok (.invokevirtual 134, 3) := sorry
theorem dX11_rules_116 : decode cX11_rules 116 = .ok (.ifCond .eq 7, 3) := sorry
theorem dX11_rules_119 : decode cX11_rules 119 = .ok (.iconst 5, 1) := sorry
theorem dX11_rules_120 : decode cX11_rules 120 = .ok (.goto 24, 3) := sorry
theorem dX11_rules_123 : decode cX11_rules 123 = .ok (.aload_n 0, 1) := sorry
theorem dX11_rules_124 : decode cX11_rules 124 = .ok (.iconst 2, 1) := sorry
theorem dX11_rules_125 : decode cX11_rules 125 = .ok (.bipush 18, 2) := sorry
theorem dX11_rules_127 : decode cX11_rules 127 = .ok (.iconst 5, 1) := sorry
theorem dX11_rules_128 : decode cX11_rules 128 = .ok (.iconst 1, 1) := sorry
theorem dX11_rules_129 : decode cX11_rules 129 = .ok (.iconst 3, 1) := sorry
theorem dX11_rules_130 : decode cX11_rules 130 = .ok (.bipush 8, 2) := sorry
theorem dX11_rules_132 : decode cX11_rules 132 = .ok (.invokevirtual 134, 3) := sorry
theorem dX11_rules_135 : decode cX11_rules 135 = .ok (.ifCond .eq 8, 3) := sorry
theorem dX11_rules_138 : decode cX11_rules 138 = .ok (.bipush 6, 2) := sorry
theorem dX11_rules_140 : decode cX11_rules 140 = .ok (.goto 4, 3) := sorry
theorem dX11_rules_143 : decode cX11_rules 143 = .ok (.iconst (-1), 1) := sorry
theorem dX11_rules_144 : decode cX11_rules 144 = .ok (.istore_n 1, 1) := sorry
theorem dX11_rules_145 : decode cX11_rules 145 = .ok (.iload_n 1, 1) := sorry
theorem dX11_rules_146 : decode cX11_rules 146 = .ok (.iconst (-1), 1) := sorry
theorem dX11_rules_147 : decode cX11_rules 147 = .ok (.if_icmp .ne 15, 3) := sorry
theorem dX11_rules_150 : decode cX11_rules 150 = .ok (.aload_n 0, 1) := sorry
theorem dX11_rules_151 : decode cX11_rules 151 = .ok (.iconst 1, 1) := sorry
theorem dX11_rules_152 : decode cX11_rules 152 = .ok (.aload_n 0, 1) := sorry
theorem dX11_rules_153 : decode cX11_rules 153 = .ok (.getfield 94, 3) := sorry
theorem dX11_rules_156 : decode cX11_rules 156 = .ok (.invokevirtual 114, 3) := sorry
theorem dX11_rules_159 : decode cX11_rules 159 = .ok (.goto 21, 3) := sorry
theorem dX11_rules_162 : decode cX11_rules 162 = .ok (.aload_n 0, 1) := sorry
theorem dX11_rules_163 : decode cX11_rules 163 = .ok (.getfield 131, 3) := sorry
theorem dX11_rules_166 : decode cX11_rules 166 = .ok (.bipush 20, 2) := sorry
theorem dX11_rules_168 : decode cX11_rules 168 = .ok (.if_icmp .ne 12, 3) := sorry
theorem dX11_rules_171 : decode cX11_rules 171 = .ok (.aload_n 0, 1) := sorry
theorem dX11_rules_172 : decode cX11_rules 172 = .ok (.iconst 3, 1) := sorry
theorem dX11_rules_173 : decode cX11_rules 173 = .ok (.aload_n 0, 1) := sorry
theorem dX11_rules_174 : decode cX11_rules 174 = .ok (.getfield 94, 3) := sorry
theorem dX11_rules_177 : decode cX11_rules 177 = .ok (.invokevirtual 114, 3) := sorry
theorem dX11_rules_180 : decode cX11_rules 180 = .ok (.aload_n 0, 1) := sorry
theorem dX11_rules_181 : decode cX11_rules 181 = .ok (.getfield 101, 3) := sorry
theorem dX11_rules_184 : decode cX11_rules 184 = .ok (.ifCond .eq 4, 3) := sorry
theorem dX11_rules_187 : decode cX11_rules 187 = .ok (.return_, 1) := sorry
theorem dX11_rules_188 : decode cX11_rules 188 = .ok (.aload_n 0, 1) := sorry
theorem dX11_rules_189 : decode cX11_rules 189 = .ok (.invokevirtual 141, 3) := sorry
theorem dX11_rules_192 : decode cX11_rules 192 = .ok (.aload_n 0, 1) := sorry
theorem dX11_rules_193 : decode cX11_rules 193 = .ok (.dup, 1) := sorry
theorem dX11_rules_194 : decode cX11_rules 194 = .ok (.getfield 131, 3) := sorry
theorem dX11_rules_197 : decode cX11_rules 197 = .ok (.iconst 1, 1) := sorry
theorem dX11_rules_198 : decode cX11_rules 198 = .ok (.iadd, 1) := sorry
theorem dX11_rules_199 : decode cX11_rules 199 = .ok (.putfield 131, 3) := sorry
theorem dX11_rules_202 : decode cX11_rules 202 = .ok (.iload_n 1, 1) := sorry
theorem dX11_rules_203 : decode cX11_rules 203 = .ok (.bipush 6, 2) := sorry
theorem dX11_rules_205 : decode cX11_rules 205 = .ok (.if_icmp .ne 42, 3) := sorry
theorem dX11_rules_208 : decode cX11_rules 208 = .ok (.aload_n 0, 1) := sorry
theorem dX11_rules_209 : decode cX11_rules 209 = .ok (.iconst 0, 1) := sorry
theorem dX11_rules_210 : decode cX11_rules 210 = .ok (.aload_n 0, 1) := sorry
theorem dX11_rules_211 : decode cX11_rules 211 = .ok (.getfield 23, 3) := sorry
theorem dX11_rules_214 : decode cX11_rules 214 = .ok (.iconst 0, 1) := sorry
theorem dX11_rules_215 : decode cX11_rules 215 = .ok (.iaload, 1) := sorry
theorem dX11_rules_216 : decode cX11_rules 216 = .ok (.iconst 1, 1) := sorry
theorem dX11_rules_217 : decode cX11_rules 217 = .ok (.isub, 1) := sorry
theorem dX11_rules_218 : decode cX11_rules 218 = .ok (.invokevirtual 144, 3) := sorry
theorem dX11_rules_221 : decode cX11_rules 221 = .ok (.istore_n 2, 1) := sorry
theorem dX11_rules_222 : decode cX11_rules 222 = .ok (.aload_n 0, 1) := sorry
theorem dX11_rules_223 : decode cX11_rules 223 = .ok (.iconst 0, 1) := sorry
theorem dX11_rules_224 : decode cX11_rules 224 = .ok (.bipush 35, 2) := sorry
theorem dX11_rules_226 : decode cX11_rules 226 = .ok (.invokevirtual 144, 3) := sorry
theorem dX11_rules_229 : decode cX11_rules 229 = .ok (.istore_n 3, 1) := sorry
theorem dX11_rules_230 : decode cX11_rules 230 = .ok (.aload_n 0, 1) := sorry
theorem dX11_rules_231 : decode cX11_rules 231 = .ok (.getfield 101, 3) := sorry
theorem dX11_rules_234 : decode cX11_rules 234 = .ok (.ifCond .ne 10, 3) := sorry
theorem dX11_rules_237 : decode cX11_rules 237 = .ok (.aload_n 0, 1) := sorry
theorem dX11_rules_238 : decode cX11_rules 238 = .ok (.getfield 37, 3) := sorry
theorem dX11_rules_241 : decode cX11_rules 241 = .ok (.iload_n 3, 1) := sorry
theorem dX11_rules_242 : decode cX11_rules 242 = .ok (.iload_n 2, 1) := sorry
theorem dX11_rules_243 : decode cX11_rules 243 = .ok (.iastore, 1) := sorry
theorem dX11_rules_244 : decode cX11_rules 244 = .ok (.goto 56, 3) := sorry
theorem dX11_rules_247 : decode cX11_rules 247 = .ok (.aload_n 0, 1) := sorry
theorem dX11_rules_248 : decode cX11_rules 248 = .ok (.getfield 34, 3) := sorry
theorem dX11_rules_251 : decode cX11_rules 251 = .ok (.iload_n 1, 1) := sorry
theorem dX11_rules_252 : decode cX11_rules 252 = .ok (.aload_n 0, 1) := sorry
theorem dX11_rules_253 : decode cX11_rules 253 = .ok (.iload_n 1, 1) := sorry
theorem dX11_rules_254 : decode cX11_rules 254 = .ok (.iconst 5, 1) := sorry
theorem dX11_rules_255 : decode cX11_rules 255 = .ok (.if_icmp .ne 7, 3) := sorry
theorem dX11_rules_258 : decode cX11_rules 258 = .ok (.iconst 1, 1) := sorry
theorem dX11_rules_259 : decode cX11_rules 259 = .ok (.goto 4, 3) := sorry
theorem dX11_rules_262 : decode cX11_rules 262 = .ok (.iconst 0, 1) := sorry
theorem dX11_rules_263 : decode cX11_rules 263 = .ok (.iload_n 1, 1) := sorry
theorem dX11_rules_264 : decode cX11_rules 264 = .ok (.iconst 2, 1) := sorry
theorem dX11_rules_265 : decode cX11_rules 265 = .ok (.if_icmp .ge 9, 3) := sorry
theorem dX11_rules_268 : decode cX11_rules 268 = .ok (.sipush 999, 3) := sorry
theorem dX11_rules_271 : decode cX11_rules 271 = .ok (.goto 25, 3) := sorry
theorem dX11_rules_274 : decode cX11_rules 274 = .ok (.iload_n 1, 1) := sorry
theorem dX11_rules_275 : decode cX11_rules 275 = .ok (.iconst 2, 1) := sorry
theorem dX11_rules_276 : decode cX11_rules 276 = .ok (.if_icmp .ne 8, 3) := sorry
theorem dX11_rules_279 : decode cX11_rules 279 = .ok (.bipush 9, 2) := sorry
theorem dX11_rules_281 : decode cX11_rules 281 = .ok (.goto 15, 3) := sorry
theorem dX11_rules_284 : decode cX11_rules 284 = .ok (.iload_n 1, 1) := sorry
theorem dX11_rules_285 : decode cX11_rules 285 = .ok (.iconst 5, 1) := sorry
theorem dX11_rules_286 : decode cX11_rules 286 = .ok (.if_icmp .ne 8, 3) := sorry
theorem dX11_rules_289 : decode cX11_rules 289 = .ok (.bipush 36, 2) := sorry
theorem dX11_rules_291 : decode cX11_rules 291 = .ok (.goto 5, 3) := sorry
theorem dX11_rules_294 : decode cX11_rules 294 = .ok (.bipush 99, 2) := sorry
theorem dX11_rules_296 : decode cX11_rules 296 = .ok (.invokevirtual 144, 3) := sorry
theorem dX11_rules_299 : decode cX11_rules 299 = .ok (.iastore, 1) := sorry
theorem dX11_rules_300 : decode cX11_rules 300 = .ok (.aload_n 0, 1) := sorry
theorem dX11_rules_301 : decode cX11_rules 301 = .ok (.invokevirtual 148, 3) := sorry
theorem dX11_rules_304 : decode cX11_rules 304 = .ok (.return_, 1) := sorry
set_option maxRecDepth 20000 in
theorem ggX11_contract_X11_in : GoodIn wsX11_contract wsX11_in := sorry
set_option maxRecDepth 20000 in
theorem gX11_contract_X11_in : GoodIn wsX11_contract (va_wsS RX11 119 yX11_in wsX11_in) := sorry
set_option maxRecDepth 20000 in
theorem ggX11_contract_X11_bad : GoodIn wsX11_contract wsX11_bad := sorry
set_option maxRecDepth 20000 in
theorem gX11_contract_X11_bad : GoodIn wsX11_contract (wsV RX11 151 RX11 yX11_bad wsX11_bad) := sorry
set_option maxRecDepth 20000 in
theorem ggX11_contract_X11_starts : GoodIn wsX11_contract wsX11_starts := sorry
set_option maxRecDepth 20000 in
theorem gX11_contract_X11_starts : GoodIn wsX11_contract (wsV RX11 155 RX11 yX11_starts wsX11_starts) := sorry
set_option maxRecDepth 20000 in
theorem ggX11_contract_X11_rules : GoodIn wsX11_contract wsX11_rules := sorry
set_option maxRecDepth 20000 in
theorem gX11_contract_X11_rules : GoodIn wsX11_contract (wsV RX11 171 RX11 yX11_rules wsX11_rules) := sorry
set_option maxRecDepth 20000 in
theorem ggX11_contract_X11_blanks : GoodIn wsX11_contract wsX11_blanks := sorry
set_option maxRecDepth 20000 in
theorem gX11_contract_X11_blanks : GoodIn wsX11_contract (wsV RX11 107 RX11 yX11_blanks wsX11_blanks) := sorry
theorem dX11_contract_0 : decode cX11_contract 0 = .ok (.aload_n 0, 1) := sorry
theorem dX11_contract_1 : decode cX11_contract 1 = .ok (.iconst 0, 1) := sorry
theorem dX11_contract_2 : decode cX11_contract 2 = .ok (.putfield 85, 3) := sorry
theorem dX11_contract_5 : decode cX11_contract 5 = .ok (.aload_n 0, 1) := sorry
theorem dX11_contract_6 : decode cX11_contract 6 = .ok (.iload_n 1, 1) := sorry
theorem dX11_contract_7 : decode cX11_contract 7 = .ok (.iconst 0, 1) := sorry
theorem dX11_contract_8 : decode cX11_contract 8 = .ok (.aload_n 0, 1) := sorry
theorem dX11_contract_9 : decode cX11_contract 9 = .ok (.getfield 88, 3) := sorry
theorem dX11_contract_12 : decode cX11_contract 12 = .ok (.invokestatic 119, 3) := sorry
theorem dX11_contract_15 : decode cX11_contract 15 = .ok (.ifCond .eq 10, 3) := sorry
theorem dX11_contract_18 : decode cX11_contract 18 = .ok (.iload_n 1, 1) := sorry
theorem dX11_contract_19 : decode cX11_contract 19 = .ok (.sipush 200, 3) := sorry
theorem dX11_contract_22 : decode cX11_contract 22 = .ok (.if_icmp .le 7, 3) := sorry
theorem dX11_contract_25 : decode cX11_contract 25 = .ok (.iconst 1, 1) := sorry
theorem dX11_contract_26 : decode cX11_contract 26 = .ok (.goto 4, 3) := sorry
theorem dX11_contract_29 : decode cX11_contract 29 = .ok (.iconst 0, 1) := sorry
theorem dX11_contract_30 : decode cX11_contract 30 = .ok (.iconst 1, 1) := sorry
theorem dX11_contract_31 : decode cX11_contract 31 = .ok (.iconst 2, 1) := sorry
theorem dX11_contract_32 : decode cX11_contract 32 = .ok (.invokevirtual 151, 3) := sorry
theorem dX11_contract_35 : decode cX11_contract 35 = .ok (.ifCond .eq 5, 3) := sorry
theorem dX11_contract_38 : decode cX11_contract 38 = .ok (.iconst 0, 1) := sorry
theorem dX11_contract_39 : decode cX11_contract 39 = .ok (.ireturn, 1) := sorry
theorem dX11_contract_40 : decode cX11_contract 40 = .ok (.aload_n 0, 1) := sorry
theorem dX11_contract_41 : decode cX11_contract 41 = .ok (.iload_n 1, 1) := sorry
theorem dX11_contract_42 : decode cX11_contract 42 = .ok (.invokevirtual 155, 3) := sorry
theorem dX11_contract_45 : decode cX11_contract 45 = .ok (.aload_n 0, 1) := sorry
theorem dX11_contract_46 : decode cX11_contract 46 = .ok (.iconst (-1), 1) := sorry
theorem dX11_contract_47 : decode cX11_contract 47 = .ok (.putfield 9, 3) := sorry
theorem dX11_contract_50 : decode cX11_contract 50 = .ok (.aload_n 0, 1) := sorry
theorem dX11_contract_51 : decode cX11_contract 51 = .ok (.getfield 162, 3) := sorry
theorem dX11_contract_54 : decode cX11_contract 54 = .ok (.bipush 6, 2) := sorry
theorem dX11_contract_56 : decode cX11_contract 56 = .ok (.if_icmp .ne 5, 3) := sorry
theorem dX11_contract_59 : decode cX11_contract 59 = .ok (.iconst (-1), 1) := sorry
theorem dX11_contract_60 : decode cX11_contract 60 = .ok (.ireturn, 1) := sorry
theorem dX11_contract_61 : decode cX11_contract 61 = .ok (.iconst 0, 1) := sorry
theorem dX11_contract_62 : decode cX11_contract 62 = .ok (.istore_n 2, 1) := sorry
theorem dX11_contract_63 : decode cX11_contract 63 = .ok (.iload_n 2, 1) := sorry
theorem dX11_contract_64 : decode cX11_contract 64 = .ok (.bipush 7, 2) := sorry
theorem dX11_contract_66 : decode cX11_contract 66 = .ok (.if_icmp .ge 45, 3) := sorry
theorem dX11_contract_69 : decode cX11_contract 69 = .ok (.aload_n 0, 1) := sorry
theorem dX11_contract_70 : decode cX11_contract 70 = .ok (.getfield 34, 3) := sorry
theorem dX11_contract_73 : decode cX11_contract 73 = .ok (.iload_n 2, 1) := sorry
theorem dX11_contract_74 : decode cX11_contract 74 = .ok (.iload_n 2, 1) := sorry
theorem dX11_contract_75 : decode cX11_contract 75 = .ok (.iconst 1, 1) := sorry
theorem dX11_contract_76 : decode cX11_contract 76 = .ok (.if_icmp .ne 7, 3) := sorry
theorem dX11_contract_79 : decode cX11_contract 79 = .ok (.iconst (-1), 1) := sorry
theorem dX11_contract_80 : decode cX11_contract 80 = .ok (.goto 24, 3) := sorry
theorem dX11_contract_83 : decode cX11_contract 83 = .ok (.iload_n 2, 1) := sorry
theorem dX11_contract_84 : decode cX11_contract 84 = .ok (.iconst 2, 1) := sorry
theorem dX11_contract_85 : decode cX11_contract 85 = .ok (.if_icmp .ne 8, 3) := sorry
theorem dX11_contract_88 : decode cX11_contract 88 = .ok (.bipush 9, 2) := sorry
theorem dX11_contract_90 : decode cX11_contract 90 = .ok (.goto 14, 3) := sorry
theorem dX11_contract_93 : decode cX11_contract 93 = .ok (.iload_n 2, 1) := sorry
theorem dX11_contract_94 : decode cX11_contract 94 = .ok (.iconst 5, 1) := sorry
theorem dX11_contract_95 : decode cX11_contract 95 = .ok (.if_icmp .ne 8, 3) := sorry
theorem dX11_contract_98 : decode cX11_contract 98 = .ok (.bipush 36, 2) := sorry
theorem dX11_contract_100 : decode cX11_contract 100 = .ok (.goto 4, 3) := sorry
theorem dX11_contract_103 : decode cX11_contract 103 = .ok (.iconst 0, 1) := sorry
theorem dX11_contract_104 : decode cX11_contract 104 = .ok (.iastore, 1) := sorry
theorem dX11_contract_105 : decode cX11_contract 105 = .ok (.iinc 2 1, 3) := sorry
theorem dX11_contract_108 : decode cX11_contract 108 = .ok (.goto (-45), 3) := sorry
theorem dX11_contract_111 : decode cX11_contract 111 = .ok (.iconst 0, 1) := sorry
theorem dX11_contract_112 : decode cX11_contract 112 = .ok (.istore_n 2, 1) := sorry
theorem dX11_contract_113 : decode cX11_contract 113 = .ok (.iload_n 2, 1) := sorry
theorem dX11_contract_114 : decode cX11_contract 114 = .ok (.bipush 36, 2) := sorry
theorem dX11_contract_116 : decode cX11_contract 116 = .ok (.if_icmp .ge 16, 3) := sorry
theorem dX11_contract_119 : decode cX11_contract 119 = .ok (.aload_n 0, 1) := sorry
theorem dX11_contract_120 : decode cX11_contract 120 = .ok (.getfield 37, 3) := sorry
theorem dX11_contract_123 : decode cX11_contract 123 = .ok (.iload_n 2, 1) := sorry
theorem dX11_contract_124 : decode cX11_contract 124 = .ok (.iconst (-1), 1) := sorry
theorem dX11_contract_125 : decode cX11_contract 125 = .ok (.iastore, 1) := sorry
theorem dX11_contract_126 : decode cX11_contract 126 = .ok (.iinc 2 1, 3) := sorry
theorem dX11_contract_129 : decode cX11_contract 129 = .ok (.goto (-16), 3) := sorry
theorem dX11_contract_132 : decode cX11_contract 132 = .ok (.aload_n 0, 1) := sorry
theorem dX11_contract_133 : decode cX11_contract 133 = .ok (.getfield 101, 3) := sorry
theorem dX11_contract_136 : decode cX11_contract 136 = .ok (.ifCond .ne 25, 3) := sorry
theorem dX11_contract_139 : decode cX11_contract 139 = .ok (.aload_n 0, 1) := sorry
theorem dX11_contract_140 : decode cX11_contract 140 = .ok (.getfield 94, 3) := sorry
theorem dX11_contract_143 : decode cX11_contract 143 = .ok (.aload_n 0, 1) := sorry
theorem dX11_contract_144 : decode cX11_contract 144 = .ok (.getfield 91, 3) := sorry
theorem dX11_contract_147 : decode cX11_contract 147 = .ok (.if_icmp .ge 14, 3) := sorry
theorem dX11_contract_150 : decode cX11_contract 150 = .ok (.aload_n 0, 1) := sorry
theorem dX11_contract_151 : decode cX11_contract 151 = .ok (.invokevirtual 171, 3) := sorry
theorem dX11_contract_154 : decode cX11_contract 154 = .ok (.aload_n 0, 1) := sorry
theorem dX11_contract_155 : decode cX11_contract 155 = .ok (.invokevirtual 107, 3) := sorry
theorem dX11_contract_158 : decode cX11_contract 158 = .ok (.goto (-26), 3) := sorry
theorem dX11_contract_161 : decode cX11_contract 161 = .ok (.aload_n 0, 1) := sorry
theorem dX11_contract_162 : decode cX11_contract 162 = .ok (.aload_n 0, 1) := sorry
theorem dX11_contract_163 : decode cX11_contract 163 = .ok (.getfield 104, 3) := sorry
theorem dX11_contract_166 : decode cX11_contract 166 = .ok (.putfield 9, 3) := sorry
theorem dX11_contract_169 : decode cX11_contract 169 = .ok (.aload_n 0, 1) := sorry
theorem dX11_contract_170 : decode cX11_contract 170 = .ok (.getfield 101, 3) := sorry
theorem dX11_contract_173 : decode cX11_contract 173 = .ok (.ifCond .eq 11, 3) := sorry
theorem dX11_contract_176 : decode cX11_contract 176 = .ok (.aload_n 0, 1) := sorry
theorem dX11_contract_177 : decode cX11_contract 177 = .ok (.getfield 101, 3) := sorry
theorem dX11_contract_180 : decode cX11_contract 180 = .ok (.bipush 10, 2) := sorry
theorem dX11_contract_182 : decode cX11_contract 182 = .ok (.isub, 1) := sorry
theorem dX11_contract_183 : decode cX11_contract 183 = .ok (.ireturn, 1) := sorry
theorem dX11_contract_184 : decode cX11_contract 184 = .ok (.aload_n 0, 1) := sorry
theorem dX11_contract_185 : decode cX11_contract 185 = .ok (.getfield 34, 3) := sorry
theorem dX11_contract_188 : decode cX11_contract 188 = .ok (.iconst 1, 1) := sorry
theorem dX11_contract_189 : decode cX11_contract 189 = .ok (.aload_n 0, 1) := sorry
theorem dX11_contract_190 : decode cX11_contract 190 = .ok (.getfield 34, 3) := sorry
theorem dX11_contract_193 : decode cX11_contract 193 = .ok (.iconst 1, 1) := sorry
theorem dX11_contract_194 : decode cX11_contract 194 = .ok (.iaload, 1) := sorry
theorem dX11_contract_195 : decode cX11_contract 195 = .ok (.iconst (-1), 1) := sorry
theorem dX11_contract_196 : decode cX11_contract 196 = .ok (.if_icmp .ne 12, 3) := sorry
theorem dX11_contract_199 : decode cX11_contract 199 = .ok (.aload_n 0, 1) := sorry
theorem dX11_contract_200 : decode cX11_contract 200 = .ok (.getfield 34, 3) := sorry
theorem dX11_contract_203 : decode cX11_contract 203 = .ok (.iconst 0, 1) := sorry
theorem dX11_contract_204 : decode cX11_contract 204 = .ok (.iaload, 1) := sorry
theorem dX11_contract_205 : decode cX11_contract 205 = .ok (.goto 9, 3) := sorry
theorem dX11_contract_208 : decode cX11_contract 208 = .ok (.aload_n 0, 1) := sorry
theorem dX11_contract_209 : decode cX11_contract 209 = .ok (.getfield 34, 3) := sorry
theorem dX11_contract_212 : decode cX11_contract 212 = .ok (.iconst 1, 1) := sorry
theorem dX11_contract_213 : decode cX11_contract 213 = .ok (.iaload, 1) := sorry
theorem dX11_contract_214 : decode cX11_contract 214 = .ok (.iastore, 1) := sorry
theorem dX11_contract_215 : decode cX11_contract 215 = .ok (.iconst 0, 1) := sorry
theorem dX11_contract_216 : decode cX11_contract 216 = .ok (.istore_n 2, 1) := sorry
theorem dX11_contract_217 : decode cX11_contract 217 = .ok (.iload_n 2, 1) := sorry
theorem dX11_contract_218 : decode cX11_contract 218 = .ok (.bipush 36, 2) := sorry
theorem dX11_contract_220 : decode cX11_contract 220 = .ok (.if_icmp .ge 51, 3) := sorry
theorem dX11_contract_223 : decode cX11_contract 223 = .ok (.aload_n 0, 1) := sorry
theorem dX11_contract_224 : decode cX11_contract 224 = .ok (.getfield 43, 3) := sorry
theorem dX11_contract_227 : decode cX11_contract 227 = .ok (.aload_n 0, 1) := sorry
theorem dX11_contract_228 : decode cX11_contract 228 = .ok (.getfield 162, 3) := sorry
theorem dX11_contract_231 : decode cX11_contract 231 = .ok (.aaload, 1) := sorry
theorem dX11_contract_232 : decode cX11_contract 232 = .ok (.iload_n 2, 1) := sorry
theorem dX11_contract_233 : decode cX11_contract 233 = .ok (.aload_n 0, 1) := sorry
theorem dX11_contract_234 : decode cX11_contract 234 = .ok (.getfield 37, 3) := sorry
theorem dX11_contract_237 : decode cX11_contract 237 = .ok (.iload_n 2, 1) := sorry
theorem dX11_contract_238 : decode cX11_contract 238 = .ok (.iaload, 1) := sorry
theorem dX11_contract_239 : decode cX11_contract 239 = .ok (.iastore, 1) := sorry
theorem dX11_contract_240 : decode cX11_contract 240 = .ok (.aload_n 0, 1) := sorry
theorem dX11_contract_241 : decode cX11_contract 241 = .ok (.getfield 34, 3) := sorry
theorem dX11_contract_244 : decode cX11_contract 244 = .ok (.bipush 6, 2) := sorry
theorem dX11_contract_246 : decode cX11_contract 246 = .ok (.dup2, 1) := sorry
theorem dX11_contract_247 : decode cX11_contract 247 = .ok (.iaload, 1) := sorry
theorem dX11_contract_248 : decode cX11_contract 248 = .ok (.aload_n 0, 1) := sorry
theorem dX11_contract_249 : decode cX11_contract 249 = .ok (.getfield 37, 3) := sorry
theorem dX11_contract_252 : decode cX11_contract 252 = .ok (.iload_n 2, 1) := sorry
theorem dX11_contract_253 : decode cX11_contract 253 = .ok (.iaload, 1) := sorry
theorem dX11_contract_254 : decode cX11_contract 254 = .ok (.iconst (-1), 1) := sorry
theorem dX11_contract_255 : decode cX11_contract 255 = .ok (.if_icmp .ne 7, 3) := sorry
theorem dX11_contract_258 : decode cX11_contract 258 = .ok (.iconst 0, 1) := sorry
theorem dX11_contract_259 : decode cX11_contract 259 = .ok (.goto 4, 3) := sorry
theorem dX11_contract_262 : decode cX11_contract 262 = .ok (.iconst 1, 1) := sorry
theorem dX11_contract_263 : decode cX11_contract 263 = .ok (.iadd, 1) := sorry
theorem dX11_contract_264 : decode cX11_contract 264 = .ok (.iastore, 1) := sorry
theorem dX11_contract_265 : decode cX11_contract 265 = .ok (.iinc 2 1, 3) := sorry
theorem dX11_contract_268 : decode cX11_contract 268 = .ok (.goto (-51), 3) := sorry
theorem dX11_contract_271 : decode cX11_contract 271 = .ok (.iconst 0, 1) := sorry
theorem dX11_contract_272 : decode cX11_contract 272 = .ok (.istore_n 2, 1) := sorry
theorem dX11_contract_273 : decode cX11_contract 273 = .ok (.iload_n 2, 1) := sorry
theorem dX11_contract_274 : decode cX11_contract 274 = .ok (.bipush 7, 2) := sorry
theorem dX11_contract_276 : decode cX11_contract 276 = .ok (.if_icmp .ge 26, 3) := sorry
theorem dX11_contract_279 : decode cX11_contract 279 = .ok (.aload_n 0, 1) := sorry
theorem dX11_contract_280 : decode cX11_contract 280 = .ok (.getfield 40, 3) := sorry
theorem dX11_contract_283 : decode cX11_contract 283 = .ok (.aload_n 0, 1) := sorry
theorem dX11_contract_284 : decode cX11_contract 284 = .ok (.getfield 162, 3) := sorry
theorem dX11_contract_287 : decode cX11_contract 287 = .ok (.aaload, 1) := sorry
theorem dX11_contract_288 : decode cX11_contract 288 = .ok (.iload_n 2, 1) := sorry
theorem dX11_contract_289 : decode cX11_contract 289 = .ok (.aload_n 0, 1) := sorry
theorem dX11_contract_290 : decode cX11_contract 290 = .ok (.getfield 34, 3) := sorry
theorem dX11_contract_293 : decode cX11_contract 293 = .ok (.iload_n 2, 1) := sorry
theorem dX11_contract_294 : decode cX11_contract 294 = .ok (.iaload, 1) := sorry
theorem dX11_contract_295 : decode cX11_contract 295 = .ok (.iastore, 1) := sorry
theorem dX11_contract_296 : decode cX11_contract 296 = .ok (.iinc 2 1, 3) := sorry
theorem dX11_contract_299 : decode cX11_contract 299 = .ok (.goto (-26), 3) := sorry
theorem dX11_contract_302 : decode cX11_contract 302 = .ok (.aload_n 0, 1) := sorry
theorem dX11_contract_303 : decode cX11_contract 303 = .ok (.dup, 1) := sorry
theorem dX11_contract_304 : decode cX11_contract 304 = .ok (.getfield 162, 3) := sorry
theorem dX11_contract_307 : decode cX11_contract 307 = .ok (.iconst 1, 1) := sorry
theorem dX11_contract_308 : decode cX11_contract 308 = .ok (.iadd, 1) := sorry
theorem dX11_contract_309 : decode cX11_contract 309 = .ok (.putfield 162, 3) := sorry
theorem dX11_contract_312 : decode cX11_contract 312 = .ok (.aload_n 0, 1) := sorry
theorem dX11_contract_313 : decode cX11_contract 313 = .ok (.getfield 162, 3) := sorry
theorem dX11_contract_316 : decode cX11_contract 316 = .ok (.iconst 1, 1) := sorry
theorem dX11_contract_317 : decode cX11_contract 317 = .ok (.isub, 1) := sorry
theorem dX11_contract_318 : decode cX11_contract 318 = .ok (.ireturn, 1) := sorry
theorem dX11_fault_0 : decode cX11_fault 0 = .ok (.aload_n 0, 1) := sorry
theorem dX11_fault_1 : decode cX11_fault 1 = .ok (.iconst 0, 1) := sorry
theorem dX11_fault_2 : decode cX11_fault 2 = .ok (.putfield 85, 3) := sorry
theorem dX11_fault_5 : decode cX11_fault 5 = .ok (.aload_n 0, 1) := sorry
theorem dX11_fault_6 : decode cX11_fault 6 = .ok (.getfield 9, 3) := sorry
theorem dX11_fault_9 : decode cX11_fault 9 = .ok (.ireturn, 1) := sorry
set_option maxRecDepth 20000 in
theorem ggX11_told_X11_in : GoodIn wsX11_told wsX11_in := sorry
set_option maxRecDepth 20000 in
theorem gX11_told_X11_in : GoodIn wsX11_told (va_wsS RX11 119 yX11_in wsX11_in) := sorry
set_option maxRecDepth 20000 in
theorem ggX11_told_X11_bad : GoodIn wsX11_told wsX11_bad := sorry
set_option maxRecDepth 20000 in
theorem gX11_told_X11_bad : GoodIn wsX11_told (wsV RX11 151 RX11 yX11_bad wsX11_bad) := sorry
theorem dX11_told_0 : decode cX11_told 0 = .ok (.aload_n 0, 1) := sorry
theorem dX11_told_1 : decode cX11_told 1 = .ok (.iconst 0, 1) := sorry
theorem dX11_told_2 : decode cX11_told 2 = .ok (.putfield 85, 3) := sorry
theorem dX11_told_5 : decode cX11_told 5 = .ok (.aload_n 0, 1) := sorry
theorem dX11_told_6 : decode cX11_told 6 = .ok (.iload_n 1, 1) := sorry
theorem dX11_told_7 : decode cX11_told 7 = .ok (.iconst 0, 1) := sorry
theorem dX11_told_8 : decode cX11_told 8 = .ok (.iconst 4, 1) := sorry
theorem dX11_told_9 : decode cX11_told 9 = .ok (.invokestatic 119, 3) := sorry
theorem dX11_told_12 : decode cX11_told 12 = .ok (.ifCond .ne 7, 3) := sorry
theorem dX11_told_15 : decode cX11_told 15 = .ok (.iconst 1, 1) := sorry
theorem dX11_told_16 : decode cX11_told 16 = .ok (.goto 4, 3) := sorry
theorem dX11_told_19 : decode cX11_told 19 = .ok (.iconst 0, 1) := sorry
theorem dX11_told_20 : decode cX11_told 20 = .ok (.iconst 1, 1) := sorry
theorem dX11_told_21 : decode cX11_told 21 = .ok (.iconst 2, 1) := sorry
theorem dX11_told_22 : decode cX11_told 22 = .ok (.invokevirtual 151, 3) := sorry
theorem dX11_told_25 : decode cX11_told 25 = .ok (.ifCond .eq 5, 3) := sorry
theorem dX11_told_28 : decode cX11_told 28 = .ok (.iconst 0, 1) := sorry
theorem dX11_told_29 : decode cX11_told 29 = .ok (.ireturn, 1) := sorry
theorem dX11_told_30 : decode cX11_told 30 = .ok (.iload_n 1, 1) := sorry
theorem dX11_told_31 : decode cX11_told 31 = .ok (.ifCond .ne 12, 3) := sorry
theorem dX11_told_34 : decode cX11_told 34 = .ok (.aload_n 0, 1) := sorry
theorem dX11_told_35 : decode cX11_told 35 = .ok (.getfield 23, 3) := sorry
theorem dX11_told_38 : decode cX11_told 38 = .ok (.iconst 0, 1) := sorry
theorem dX11_told_39 : decode cX11_told 39 = .ok (.iaload, 1) := sorry
theorem dX11_told_40 : decode cX11_told 40 = .ok (.goto 41, 3) := sorry
theorem dX11_told_43 : decode cX11_told 43 = .ok (.iload_n 1, 1) := sorry
theorem dX11_told_44 : decode cX11_told 44 = .ok (.iconst 1, 1) := sorry
theorem dX11_told_45 : decode cX11_told 45 = .ok (.if_icmp .ne 10, 3) := sorry
theorem dX11_told_48 : decode cX11_told 48 = .ok (.aload_n 0, 1) := sorry
theorem dX11_told_49 : decode cX11_told 49 = .ok (.getfield 162, 3) := sorry
theorem dX11_told_52 : decode cX11_told 52 = .ok (.goto 29, 3) := sorry
theorem dX11_told_55 : decode cX11_told 55 = .ok (.iload_n 1, 1) := sorry
theorem dX11_told_56 : decode cX11_told 56 = .ok (.iconst 2, 1) := sorry
theorem dX11_told_57 : decode cX11_told 57 = .ok (.if_icmp .ne 13, 3) := sorry
theorem dX11_told_60 : decode cX11_told 60 = .ok (.aload_n 0, 1) := sorry
theorem dX11_told_61 : decode cX11_told 61 = .ok (.getfield 46, 3) := sorry
theorem dX11_told_64 : decode cX11_told 64 = .ok (.bipush 24, 2) := sorry
theorem dX11_told_66 : decode cX11_told 66 = .ok (.iaload, 1) := sorry
theorem dX11_told_67 : decode cX11_told 67 = .ok (.goto 14, 3) := sorry
theorem dX11_told_70 : decode cX11_told 70 = .ok (.aload_n 0, 1) := sorry
theorem dX11_told_71 : decode cX11_told 71 = .ok (.getfield 46, 3) := sorry
theorem dX11_told_74 : decode cX11_told 74 = .ok (.bipush 10, 2) := sorry
theorem dX11_told_76 : decode cX11_told 76 = .ok (.iload_n 1, 1) := sorry
theorem dX11_told_77 : decode cX11_told 77 = .ok (.iadd, 1) := sorry
theorem dX11_told_78 : decode cX11_told 78 = .ok (.iconst 3, 1) := sorry
theorem dX11_told_79 : decode cX11_told 79 = .ok (.isub, 1) := sorry
theorem dX11_told_80 : decode cX11_told 80 = .ok (.iaload, 1) := sorry
theorem dX11_told_81 : decode cX11_told 81 = .ok (.ireturn, 1) := sorry
set_option maxRecDepth 20000 in
theorem ggX11_isWall_X11_in : GoodIn wsX11_isWall wsX11_in := sorry
set_option maxRecDepth 20000 in
theorem gX11_isWall_X11_in : GoodIn wsX11_isWall (va_wsS RX11 119 yX11_in wsX11_in) := sorry
theorem dX11_isWall_0 : decode cX11_isWall 0 = .ok (.iload_n 1, 1) := sorry
theorem dX11_isWall_1 : decode cX11_isWall 1 = .ok (.iconst 0, 1) := sorry
theorem dX11_isWall_2 : decode cX11_isWall 2 = .ok (.aload_n 0, 1) := sorry
theorem dX11_isWall_3 : decode cX11_isWall 3 = .ok (.getfield 23, 3) := sorry
theorem dX11_isWall_6 : decode cX11_isWall 6 = .ok (.iconst 0, 1) := sorry
theorem dX11_isWall_7 : decode cX11_isWall 7 = .ok (.iaload, 1) := sorry
theorem dX11_isWall_8 : decode cX11_isWall 8 = .ok (.iconst 1, 1) := sorry
theorem dX11_isWall_9 : decode cX11_isWall 9 = .ok (.isub, 1) := sorry
theorem dX11_isWall_10 : decode cX11_isWall 10 = .ok (.invokestatic 119, 3) := sorry
theorem dX11_isWall_13 : decode cX11_isWall 13 = .ok (.ireturn, 1) := sorry
set_option maxRecDepth 20000 in
theorem ggX11_wall_X11_isWall : GoodIn wsX11_wall wsX11_isWall := sorry
set_option maxRecDepth 20000 in
theorem gX11_wall_X11_isWall : GoodIn wsX11_wall (wsV RX11 174 RX11 yX11_isWall wsX11_isWall) := sorry
set_option maxRecDepth 20000 in
theorem ggX11_wall_X11_bad : GoodIn wsX11_wall wsX11_bad := sorry
set_option maxRecDepth 20000 in
theorem gX11_wall_X11_bad : GoodIn wsX11_wall (wsV RX11 151 RX11 yX11_bad wsX11_bad) := sorry
set_option maxRecDepth 20000 in
theorem ggX11_wall_X11_in : GoodIn wsX11_wall wsX11_in := sorry
set_option maxRecDepth 20000 in
theorem gX11_wall_X11_in : GoodIn wsX11_wall (va_wsS RX11 119 yX11_in wsX11_in) := sorry
theorem dX11_wall_0 : decode cX11_wall 0 = .ok (.aload_n 0, 1) := sorry
theorem dX11_wall_1 : decode cX11_wall 1 = .ok (.iconst 0, 1) := sorry
theorem dX11_wall_2 : decode cX11_wall 2 = .ok (.putfield 85, 3) := sorry
theorem dX11_wall_5 : decode cX11_wall 5 = .ok (.aload_n 0, 1) := sorry
theorem dX11_wall_6 : decode cX11_wall 6 = .ok (.aload_n 0, 1) := sorry
theorem dX11_wall_7 : decode cX11_wall 7 = .ok (.iload_n 1, 1) := sorry
theorem dX11_wall_8 : decode cX11_wall 8 = .ok (.invokevirtual 174, 3) := sorry
theorem dX11_wall_11 : decode cX11_wall 11 = .ok (.ifCond .ne 7, 3) := sorry
theorem dX11_wall_14 : decode cX11_wall 14 = .ok (.iconst 1, 1) := sorry
theorem dX11_wall_15 : decode cX11_wall 15 = .ok (.goto 4, 3) := sorry
theorem dX11_wall_18 : decode cX11_wall 18 = .ok (.iconst 0, 1) := sorry
theorem dX11_wall_19 : decode cX11_wall 19 = .ok (.iconst 1, 1) := sorry
theorem dX11_wall_20 : decode cX11_wall 20 = .ok (.iconst 1, 1) := sorry
theorem dX11_wall_21 : decode cX11_wall 21 = .ok (.invokevirtual 151, 3) := sorry
theorem dX11_wall_24 : decode cX11_wall 24 = .ok (.ifCond .ne 26, 3) := sorry
theorem dX11_wall_27 : decode cX11_wall 27 = .ok (.aload_n 0, 1) := sorry
theorem dX11_wall_28 : decode cX11_wall 28 = .ok (.iload_n 2, 1) := sorry
theorem dX11_wall_29 : decode cX11_wall 29 = .ok (.iconst 0, 1) := sorry
theorem dX11_wall_30 : decode cX11_wall 30 = .ok (.iconst 3, 1) := sorry
theorem dX11_wall_31 : decode cX11_wall 31 = .ok (.invokestatic 119, 3) := sorry
theorem dX11_wall_34 : decode cX11_wall 34 = .ok (.ifCond .ne 7, 3) := sorry
theorem dX11_wall_37 : decode cX11_wall 37 = .ok (.iconst 1, 1) := sorry
theorem dX11_wall_38 : decode cX11_wall 38 = .ok (.goto 4, 3) := sorry
theorem dX11_wall_41 : decode cX11_wall 41 = .ok (.iconst 0, 1) := sorry
theorem dX11_wall_42 : decode cX11_wall 42 = .ok (.iconst 2, 1) := sorry
theorem dX11_wall_43 : decode cX11_wall 43 = .ok (.iconst 2, 1) := sorry
theorem dX11_wall_44 : decode cX11_wall 44 = .ok (.invokevirtual 151, 3) := sorry
theorem dX11_wall_47 : decode cX11_wall 47 = .ok (.ifCond .eq 5, 3) := sorry
theorem dX11_wall_50 : decode cX11_wall 50 = .ok (.iconst 0, 1) := sorry
theorem dX11_wall_51 : decode cX11_wall 51 = .ok (.ireturn, 1) := sorry
theorem dX11_wall_52 : decode cX11_wall 52 = .ok (.iload_n 2, 1) := sorry
theorem dX11_wall_53 : decode cX11_wall 53 = .ok (.ifCond .ne 14, 3) := sorry
theorem dX11_wall_56 : decode cX11_wall 56 = .ok (.aload_n 0, 1) := sorry
theorem dX11_wall_57 : decode cX11_wall 57 = .ok (.getfield 31, 3) := sorry
theorem dX11_wall_60 : decode cX11_wall 60 = .ok (.iload_n 1, 1) := sorry
theorem dX11_wall_61 : decode cX11_wall 61 = .ok (.aaload, 1) := sorry
theorem dX11_wall_62 : decode cX11_wall 62 = .ok (.iconst 0, 1) := sorry
theorem dX11_wall_63 : decode cX11_wall 63 = .ok (.iaload, 1) := sorry
theorem dX11_wall_64 : decode cX11_wall 64 = .ok (.goto 45, 3) := sorry
theorem dX11_wall_67 : decode cX11_wall 67 = .ok (.iload_n 2, 1) := sorry
theorem dX11_wall_68 : decode cX11_wall 68 = .ok (.iconst 1, 1) := sorry
theorem dX11_wall_69 : decode cX11_wall 69 = .ok (.if_icmp .ne 15, 3) := sorry
theorem dX11_wall_72 : decode cX11_wall 72 = .ok (.aload_n 0, 1) := sorry
theorem dX11_wall_73 : decode cX11_wall 73 = .ok (.getfield 46, 3) := sorry
theorem dX11_wall_76 : decode cX11_wall 76 = .ok (.bipush 12, 2) := sorry
theorem dX11_wall_78 : decode cX11_wall 78 = .ok (.iload_n 1, 1) := sorry
theorem dX11_wall_79 : decode cX11_wall 79 = .ok (.iadd, 1) := sorry
theorem dX11_wall_80 : decode cX11_wall 80 = .ok (.iaload, 1) := sorry
theorem dX11_wall_81 : decode cX11_wall 81 = .ok (.goto 28, 3) := sorry
theorem dX11_wall_84 : decode cX11_wall 84 = .ok (.iload_n 2, 1) := sorry
theorem dX11_wall_85 : decode cX11_wall 85 = .ok (.iconst 2, 1) := sorry
theorem dX11_wall_86 : decode cX11_wall 86 = .ok (.if_icmp .ne 14, 3) := sorry
theorem dX11_wall_89 : decode cX11_wall 89 = .ok (.aload_n 0, 1) := sorry
theorem dX11_wall_90 : decode cX11_wall 90 = .ok (.getfield 31, 3) := sorry
theorem dX11_wall_93 : decode cX11_wall 93 = .ok (.iload_n 1, 1) := sorry
theorem dX11_wall_94 : decode cX11_wall 94 = .ok (.aaload, 1) := sorry
theorem dX11_wall_95 : decode cX11_wall 95 = .ok (.iconst 1, 1) := sorry
theorem dX11_wall_96 : decode cX11_wall 96 = .ok (.iaload, 1) := sorry
theorem dX11_wall_97 : decode cX11_wall 97 = .ok (.goto 12, 3) := sorry
theorem dX11_wall_100 : decode cX11_wall 100 = .ok (.aload_n 0, 1) := sorry
theorem dX11_wall_101 : decode cX11_wall 101 = .ok (.getfield 46, 3) := sorry
theorem dX11_wall_104 : decode cX11_wall 104 = .ok (.bipush 18, 2) := sorry
theorem dX11_wall_106 : decode cX11_wall 106 = .ok (.iload_n 1, 1) := sorry
theorem dX11_wall_107 : decode cX11_wall 107 = .ok (.iadd, 1) := sorry
theorem dX11_wall_108 : decode cX11_wall 108 = .ok (.iaload, 1) := sorry
theorem dX11_wall_109 : decode cX11_wall 109 = .ok (.ireturn, 1) := sorry
set_option maxRecDepth 20000 in
theorem ggX11_isContract_X11_in : GoodIn wsX11_isContract wsX11_in := sorry
set_option maxRecDepth 20000 in
theorem gX11_isContract_X11_in : GoodIn wsX11_isContract (va_wsS RX11 119 yX11_in wsX11_in) := sorry
theorem dX11_isContract_0 : decode cX11_isContract 0 = .ok (.iload_n 1, 1) := sorry
theorem dX11_isContract_1 : decode cX11_isContract 1 = .ok (.iconst 0, 1) := sorry
theorem dX11_isContract_2 : decode cX11_isContract 2 = .ok (.aload_n 0, 1) := sorry
theorem dX11_isContract_3 : decode cX11_isContract 3 = .ok (.getfield 162, 3) := sorry
theorem dX11_isContract_6 : decode cX11_isContract 6 = .ok (.iconst 1, 1) := sorry
theorem dX11_isContract_7 : decode cX11_isContract 7 = .ok (.isub, 1) := sorry
theorem dX11_isContract_8 : decode cX11_isContract 8 = .ok (.invokestatic 119, 3) := sorry
theorem dX11_isContract_11 : decode cX11_isContract 11 = .ok (.ireturn, 1) := sorry
set_option maxRecDepth 20000 in
theorem ggX11_rule_X11_isContract : GoodIn wsX11_rule wsX11_isContract := sorry
set_option maxRecDepth 20000 in
theorem gX11_rule_X11_isContract : GoodIn wsX11_rule (wsV RX11 177 RX11 yX11_isContract wsX11_isContract) := sorry
set_option maxRecDepth 20000 in
theorem ggX11_rule_X11_bad : GoodIn wsX11_rule wsX11_bad := sorry
set_option maxRecDepth 20000 in
theorem gX11_rule_X11_bad : GoodIn wsX11_rule (wsV RX11 151 RX11 yX11_bad wsX11_bad) := sorry
set_option maxRecDepth 20000 in
theorem ggX11_rule_X11_in : GoodIn wsX11_rule wsX11_in := sorry
set_option maxRecDepth 20000 in
theorem gX11_rule_X11_in : GoodIn wsX11_rule (va_wsS RX11 119 yX11_in wsX11_in) := sorry
theorem dX11_rule_0 : decode cX11_rule 0 = .ok (.aload_n 0, 1) := sorry
theorem dX11_rule_1 : decode cX11_rule 1 = .ok (.iconst 0, 1) := sorry
theorem dX11_rule_2 : decode cX11_rule 2 = .ok (.putfield 85, 3) := sorry
theorem dX11_rule_5 : decode cX11_rule 5 = .ok (.aload_n 0, 1) := sorry
theorem dX11_rule_6 : decode cX11_rule 6 = .ok (.aload_n 0, 1) := sorry
theorem dX11_rule_7 : decode cX11_rule 7 = .ok (.iload_n 1, 1) := sorry
theorem dX11_rule_8 : decode cX11_rule 8 = .ok (.invokevirtual 177, 3) := sorry
theorem dX11_rule_11 : decode cX11_rule 11 = .ok (.ifCond .ne 7, 3) := sorry
theorem dX11_rule_14 : decode cX11_rule 14 = .ok (.iconst 1, 1) := sorry
theorem dX11_rule_15 : decode cX11_rule 15 = .ok (.goto 4, 3) := sorry
theorem dX11_rule_18 : decode cX11_rule 18 = .ok (.iconst 0, 1) := sorry
theorem dX11_rule_19 : decode cX11_rule 19 = .ok (.iconst 1, 1) := sorry
theorem dX11_rule_20 : decode cX11_rule 20 = .ok (.iconst 0, 1) := sorry
theorem dX11_rule_21 : decode cX11_rule 21 = .ok (.invokevirtual 151, 3) := sorry
theorem dX11_rule_24 : decode cX11_rule 24 = .ok (.ifCond .ne 27, 3) := sorry
theorem dX11_rule_27 : decode cX11_rule 27 = .ok (.aload_n 0, 1) := sorry
theorem dX11_rule_28 : decode cX11_rule 28 = .ok (.iload_n 2, 1) := sorry
theorem dX11_rule_29 : decode cX11_rule 29 = .ok (.iconst 0, 1) := sorry
theorem dX11_rule_30 : decode cX11_rule 30 = .ok (.bipush 6, 2) := sorry
theorem dX11_rule_32 : decode cX11_rule 32 = .ok (.invokestatic 119, 3) := sorry
theorem dX11_rule_35 : decode cX11_rule 35 = .ok (.ifCond .ne 7, 3) := sorry
theorem dX11_rule_38 : decode cX11_rule 38 = .ok (.iconst 1, 1) := sorry
theorem dX11_rule_39 : decode cX11_rule 39 = .ok (.goto 4, 3) := sorry
theorem dX11_rule_42 : decode cX11_rule 42 = .ok (.iconst 0, 1) := sorry
theorem dX11_rule_43 : decode cX11_rule 43 = .ok (.iconst 2, 1) := sorry
theorem dX11_rule_44 : decode cX11_rule 44 = .ok (.iconst 2, 1) := sorry
theorem dX11_rule_45 : decode cX11_rule 45 = .ok (.invokevirtual 151, 3) := sorry
theorem dX11_rule_48 : decode cX11_rule 48 = .ok (.ifCond .eq 5, 3) := sorry
theorem dX11_rule_51 : decode cX11_rule 51 = .ok (.iconst 0, 1) := sorry
theorem dX11_rule_52 : decode cX11_rule 52 = .ok (.ireturn, 1) := sorry
theorem dX11_rule_53 : decode cX11_rule 53 = .ok (.aload_n 0, 1) := sorry
theorem dX11_rule_54 : decode cX11_rule 54 = .ok (.getfield 40, 3) := sorry
theorem dX11_rule_57 : decode cX11_rule 57 = .ok (.iload_n 1, 1) := sorry
theorem dX11_rule_58 : decode cX11_rule 58 = .ok (.aaload, 1) := sorry
theorem dX11_rule_59 : decode cX11_rule 59 = .ok (.iload_n 2, 1) := sorry
theorem dX11_rule_60 : decode cX11_rule 60 = .ok (.iaload, 1) := sorry
theorem dX11_rule_61 : decode cX11_rule 61 = .ok (.ireturn, 1) := sorry
theorem dX11_wantsFor_0 : decode cX11_wantsFor 0 = .ok (.aload_n 0, 1) := sorry
theorem dX11_wantsFor_1 : decode cX11_wantsFor 1 = .ok (.getfield 23, 3) := sorry
theorem dX11_wantsFor_4 : decode cX11_wantsFor 4 = .ok (.bipush 13, 2) := sorry
theorem dX11_wantsFor_6 : decode cX11_wantsFor 6 = .ok (.iaload, 1) := sorry
theorem dX11_wantsFor_7 : decode cX11_wantsFor 7 = .ok (.bipush 10, 2) := sorry
theorem dX11_wantsFor_9 : decode cX11_wantsFor 9 = .ok (.iload_n 1, 1) := sorry
theorem dX11_wantsFor_10 : decode cX11_wantsFor 10 = .ok (.isub, 1) := sorry
theorem dX11_wantsFor_11 : decode cX11_wantsFor 11 = .ok (.imul, 1) := sorry
theorem dX11_wantsFor_12 : decode cX11_wantsFor 12 = .ok (.aload_n 0, 1) := sorry
theorem dX11_wantsFor_13 : decode cX11_wantsFor 13 = .ok (.getfield 23, 3) := sorry
theorem dX11_wantsFor_16 : decode cX11_wantsFor 16 = .ok (.bipush 14, 2) := sorry
theorem dX11_wantsFor_18 : decode cX11_wantsFor 18 = .ok (.iaload, 1) := sorry
theorem dX11_wantsFor_19 : decode cX11_wantsFor 19 = .ok (.iload_n 2, 1) := sorry
theorem dX11_wantsFor_20 : decode cX11_wantsFor 20 = .ok (.imul, 1) := sorry
theorem dX11_wantsFor_21 : decode cX11_wantsFor 21 = .ok (.iadd, 1) := sorry
theorem dX11_wantsFor_22 : decode cX11_wantsFor 22 = .ok (.ireturn, 1) := sorry
set_option maxRecDepth 20000 in
theorem ggX11_wants_X11_in : GoodIn wsX11_wants wsX11_in := sorry
set_option maxRecDepth 20000 in
theorem gX11_wants_X11_in : GoodIn wsX11_wants (va_wsS RX11 119 yX11_in wsX11_in) := sorry
set_option maxRecDepth 20000 in
theorem ggX11_wants_X11_bad : GoodIn wsX11_wants wsX11_bad := sorry
set_option maxRecDepth 20000 in
theorem gX11_wants_X11_bad : GoodIn wsX11_wants (wsV RX11 151 RX11 yX11_bad wsX11_bad) := sorry
set_option maxRecDepth 20000 in
theorem ggX11_wants_X11_wantsFor : GoodIn wsX11_wants wsX11_wantsFor := sorry
set_option maxRecDepth 20000 in
theorem gX11_wants_X11_wantsFor : GoodIn wsX11_wants (wsV RX11 180 RX11 yX11_wantsFor wsX11_wantsFor) := sorry
theorem dX11_wants_0 : decode cX11_wants 0 = .ok (.aload_n 0, 1) := sorry
theorem dX11_wants_1 : decode cX11_wants 1 = .ok (.iconst 0, 1) := sorry
theorem dX11_wants_2 : decode cX11_wants 2 = .ok (.putfield 85, 3) := sorry
theorem dX11_wants_5 : decode cX11_wants 5 = .ok (.aload_n 0, 1) := sorry
theorem dX11_wants_6 : decode cX11_wants 6 = .ok (.iload_n 1, 1) := sorry
theorem dX11_wants_7 : decode cX11_wants 7 = .ok (.iconst 0, 1) := sorry
theorem dX11_wants_8 : decode cX11_wants 8 = .ok (.bipush 9, 2) := sorry
theorem dX11_wants_10 : decode cX11_wants 10 = .ok (.invokestatic 119, 3) := sorry
theorem dX11_wants_13 : decode cX11_wants 13 = .ok (.ifCond .eq 13, 3) := sorry
theorem dX11_wants_16 : decode cX11_wants 16 = .ok (.iload_n 2, 1) := sorry
theorem dX11_wants_17 : decode cX11_wants 17 = .ok (.iconst 0, 1) := sorry
theorem dX11_wants_18 : decode cX11_wants 18 = .ok (.bipush 99, 2) := sorry
theorem dX11_wants_20 : decode cX11_wants 20 = .ok (.invokestatic 119, 3) := sorry
theorem dX11_wants_23 : decode cX11_wants 23 = .ok (.ifCond .ne 7, 3) := sorry
theorem dX11_wants_26 : decode cX11_wants 26 = .ok (.iconst 1, 1) := sorry
theorem dX11_wants_27 : decode cX11_wants 27 = .ok (.goto 4, 3) := sorry
theorem dX11_wants_30 : decode cX11_wants 30 = .ok (.iconst 0, 1) := sorry
theorem dX11_wants_31 : decode cX11_wants 31 = .ok (.iconst 1, 1) := sorry
theorem dX11_wants_32 : decode cX11_wants 32 = .ok (.iconst 2, 1) := sorry
theorem dX11_wants_33 : decode cX11_wants 33 = .ok (.invokevirtual 151, 3) := sorry
theorem dX11_wants_36 : decode cX11_wants 36 = .ok (.ifCond .eq 5, 3) := sorry
theorem dX11_wants_39 : decode cX11_wants 39 = .ok (.iconst 0, 1) := sorry
theorem dX11_wants_40 : decode cX11_wants 40 = .ok (.ireturn, 1) := sorry
theorem dX11_wants_41 : decode cX11_wants 41 = .ok (.aload_n 0, 1) := sorry
theorem dX11_wants_42 : decode cX11_wants 42 = .ok (.iload_n 1, 1) := sorry
theorem dX11_wants_43 : decode cX11_wants 43 = .ok (.iload_n 2, 1) := sorry
theorem dX11_wants_44 : decode cX11_wants 44 = .ok (.invokevirtual 180, 3) := sorry
theorem dX11_wants_47 : decode cX11_wants 47 = .ok (.ireturn, 1) := sorry
theorem dX11_signs_0 : decode cX11_signs 0 = .ok (.aload_n 0, 1) := sorry
theorem dX11_signs_1 : decode cX11_signs 1 = .ok (.getfield 46, 3) := sorry
theorem dX11_signs_4 : decode cX11_signs 4 = .ok (.bipush 10, 2) := sorry
theorem dX11_signs_6 : decode cX11_signs 6 = .ok (.iload_n 1, 1) := sorry
theorem dX11_signs_7 : decode cX11_signs 7 = .ok (.iastore, 1) := sorry
theorem dX11_signs_8 : decode cX11_signs 8 = .ok (.aload_n 0, 1) := sorry
theorem dX11_signs_9 : decode cX11_signs 9 = .ok (.getfield 46, 3) := sorry
theorem dX11_signs_12 : decode cX11_signs 12 = .ok (.bipush 11, 2) := sorry
theorem dX11_signs_14 : decode cX11_signs 14 = .ok (.iload_n 1, 1) := sorry
theorem dX11_signs_15 : decode cX11_signs 15 = .ok (.iconst (-1), 1) := sorry
theorem dX11_signs_16 : decode cX11_signs 16 = .ok (.if_icmp .ne 7, 3) := sorry
theorem dX11_signs_19 : decode cX11_signs 19 = .ok (.iconst (-1), 1) := sorry
theorem dX11_signs_20 : decode cX11_signs 20 = .ok (.goto 4, 3) := sorry
theorem dX11_signs_23 : decode cX11_signs 23 = .ok (.iconst 0, 1) := sorry
theorem dX11_signs_24 : decode cX11_signs 24 = .ok (.iastore, 1) := sorry
theorem dX11_signs_25 : decode cX11_signs 25 = .ok (.return_, 1) := sorry
set_option maxRecDepth 20000 in
theorem ggX11_sign_X11_isContract : GoodIn wsX11_sign wsX11_isContract := sorry
set_option maxRecDepth 20000 in
theorem gX11_sign_X11_isContract : GoodIn wsX11_sign (wsV RX11 177 RX11 yX11_isContract wsX11_isContract) := sorry
set_option maxRecDepth 20000 in
theorem ggX11_sign_X11_bad : GoodIn wsX11_sign wsX11_bad := sorry
set_option maxRecDepth 20000 in
theorem gX11_sign_X11_bad : GoodIn wsX11_sign (wsV RX11 151 RX11 yX11_bad wsX11_bad) := sorry
set_option maxRecDepth 20000 in
theorem ggX11_sign_X11_signs : GoodIn wsX11_sign wsX11_signs := sorry
set_option maxRecDepth 20000 in
theorem gX11_sign_X11_signs : GoodIn wsX11_sign (wsV RX11 183 RX11 yX11_signs wsX11_signs) := sorry
theorem dX11_sign_0 : decode cX11_sign 0 = .ok (.aload_n 0, 1) := sorry
theorem dX11_sign_1 : decode cX11_sign 1 = .ok (.iconst 0, 1) := sorry
theorem dX11_sign_2 : decode cX11_sign 2 = .ok (.putfield 85, 3) := sorry
theorem dX11_sign_5 : decode cX11_sign 5 = .ok (.aload_n 0, 1) := sorry
theorem dX11_sign_6 : decode cX11_sign 6 = .ok (.iload_n 1, 1) := sorry
theorem dX11_sign_7 : decode cX11_sign 7 = .ok (.iconst (-1), 1) := sorry
theorem dX11_sign_8 : decode cX11_sign 8 = .ok (.if_icmp .eq 15, 3) := sorry
theorem dX11_sign_11 : decode cX11_sign 11 = .ok (.aload_n 0, 1) := sorry
theorem dX11_sign_12 : decode cX11_sign 12 = .ok (.iload_n 1, 1) := sorry
theorem dX11_sign_13 : decode cX11_sign 13 = .ok (.invokevirtual 177, 3) := sorry
theorem dX11_sign_16 : decode cX11_sign 16 = .ok (.ifCond .ne 7, 3) := sorry
theorem dX11_sign_19 : decode cX11_sign 19 = .ok (.iconst 1, 1) := sorry
theorem dX11_sign_20 : decode cX11_sign 20 = .ok (.goto 4, 3) := sorry
theorem dX11_sign_23 : decode cX11_sign 23 = .ok (.iconst 0, 1) := sorry
theorem dX11_sign_24 : decode cX11_sign 24 = .ok (.iconst 1, 1) := sorry
theorem dX11_sign_25 : decode cX11_sign 25 = .ok (.iconst 0, 1) := sorry
theorem dX11_sign_26 : decode cX11_sign 26 = .ok (.invokevirtual 151, 3) := sorry
theorem dX11_sign_29 : decode cX11_sign 29 = .ok (.ifCond .eq 5, 3) := sorry
theorem dX11_sign_32 : decode cX11_sign 32 = .ok (.iconst 0, 1) := sorry
theorem dX11_sign_33 : decode cX11_sign 33 = .ok (.ireturn, 1) := sorry
theorem dX11_sign_34 : decode cX11_sign 34 = .ok (.aload_n 0, 1) := sorry
theorem dX11_sign_35 : decode cX11_sign 35 = .ok (.getfield 46, 3) := sorry
theorem dX11_sign_38 : decode cX11_sign 38 = .ok (.bipush 10, 2) := sorry
theorem dX11_sign_40 : decode cX11_sign 40 = .ok (.iaload, 1) := sorry
theorem dX11_sign_41 : decode cX11_sign 41 = .ok (.istore_n 2, 1) := sorry
theorem dX11_sign_42 : decode cX11_sign 42 = .ok (.aload_n 0, 1) := sorry
theorem dX11_sign_43 : decode cX11_sign 43 = .ok (.iload_n 1, 1) := sorry
theorem dX11_sign_44 : decode cX11_sign 44 = .ok (.invokevirtual 183, 3) := sorry
theorem dX11_sign_47 : decode cX11_sign 47 = .ok (.iload_n 2, 1) := sorry
theorem dX11_sign_48 : decode cX11_sign 48 = .ok (.ireturn, 1) := sorry
theorem dX11_less_0 : decode cX11_less 0 = .ok (.iload_n 0, 1) := sorry
theorem dX11_less_1 : decode cX11_less 1 = .ok (.iload_n 1, 1) := sorry
theorem dX11_less_2 : decode cX11_less 2 = .ok (.if_icmp .ge 7, 3) := sorry
theorem dX11_less_5 : decode cX11_less 5 = .ok (.iload_n 0, 1) := sorry
theorem dX11_less_6 : decode cX11_less 6 = .ok (.goto 4, 3) := sorry
theorem dX11_less_9 : decode cX11_less 9 = .ok (.iload_n 1, 1) := sorry
theorem dX11_less_10 : decode cX11_less 10 = .ok (.ireturn, 1) := sorry
set_option maxRecDepth 20000 in
theorem ggX11_pays_X11_less : GoodIn wsX11_pays wsX11_less := sorry
set_option maxRecDepth 20000 in
theorem gX11_pays_X11_less : GoodIn wsX11_pays (va_wsS RX11 186 yX11_less wsX11_less) := sorry
theorem dX11_pays_0 : decode cX11_pays 0 = .ok (.iload_n 3, 1) := sorry
theorem dX11_pays_1 : decode cX11_pays 1 = .ok (.aload_n 0, 1) := sorry
theorem dX11_pays_2 : decode cX11_pays 2 = .ok (.getfield 46, 3) := sorry
theorem dX11_pays_5 : decode cX11_pays 5 = .ok (.iload_n 1, 1) := sorry
theorem dX11_pays_6 : decode cX11_pays 6 = .ok (.iaload, 1) := sorry
theorem dX11_pays_7 : decode cX11_pays 7 = .ok (.invokestatic 186, 3) := sorry
theorem dX11_pays_10 : decode cX11_pays 10 = .ok (.istore 4, 2) := sorry
theorem dX11_pays_12 : decode cX11_pays 12 = .ok (.aload_n 0, 1) := sorry
theorem dX11_pays_13 : decode cX11_pays 13 = .ok (.getfield 46, 3) := sorry
theorem dX11_pays_16 : decode cX11_pays 16 = .ok (.iload_n 1, 1) := sorry
theorem dX11_pays_17 : decode cX11_pays 17 = .ok (.dup2, 1) := sorry
theorem dX11_pays_18 : decode cX11_pays 18 = .ok (.iaload, 1) := sorry
theorem dX11_pays_19 : decode cX11_pays 19 = .ok (.iload 4, 2) := sorry
theorem dX11_pays_21 : decode cX11_pays 21 = .ok (.isub, 1) := sorry
theorem dX11_pays_22 : decode cX11_pays 22 = .ok (.iastore, 1) := sorry
theorem dX11_pays_23 : decode cX11_pays 23 = .ok (.aload_n 0, 1) := sorry
theorem dX11_pays_24 : decode cX11_pays 24 = .ok (.getfield 46, 3) := sorry
theorem dX11_pays_27 : decode cX11_pays 27 = .ok (.iload_n 2, 1) := sorry
theorem dX11_pays_28 : decode cX11_pays 28 = .ok (.dup2, 1) := sorry
theorem dX11_pays_29 : decode cX11_pays 29 = .ok (.iaload, 1) := sorry
theorem dX11_pays_30 : decode cX11_pays 30 = .ok (.iload 4, 2) := sorry
theorem dX11_pays_32 : decode cX11_pays 32 = .ok (.iadd, 1) := sorry
theorem dX11_pays_33 : decode cX11_pays 33 = .ok (.iastore, 1) := sorry
theorem dX11_pays_34 : decode cX11_pays 34 = .ok (.return_, 1) := sorry
set_option maxRecDepth 20000 in
theorem ggX11_fears_X11_less : GoodIn wsX11_fears wsX11_less := sorry
set_option maxRecDepth 20000 in
theorem gX11_fears_X11_less : GoodIn wsX11_fears (va_wsS RX11 186 yX11_less wsX11_less) := sorry
theorem dX11_fears_0 : decode cX11_fears 0 = .ok (.aload_n 0, 1) := sorry
theorem dX11_fears_1 : decode cX11_fears 1 = .ok (.getfield 46, 3) := sorry
theorem dX11_fears_4 : decode cX11_fears 4 = .ok (.iconst 5, 1) := sorry
theorem dX11_fears_5 : decode cX11_fears 5 = .ok (.bipush 100, 2) := sorry
theorem dX11_fears_7 : decode cX11_fears 7 = .ok (.aload_n 0, 1) := sorry
theorem dX11_fears_8 : decode cX11_fears 8 = .ok (.getfield 46, 3) := sorry
theorem dX11_fears_11 : decode cX11_fears 11 = .ok (.iconst 5, 1) := sorry
theorem dX11_fears_12 : decode cX11_fears 12 = .ok (.iaload, 1) := sorry
theorem dX11_fears_13 : decode cX11_fears 13 = .ok (.iload_n 1, 1) := sorry
theorem dX11_fears_14 : decode cX11_fears 14 = .ok (.iadd, 1) := sorry
theorem dX11_fears_15 : decode cX11_fears 15 = .ok (.invokestatic 186, 3) := sorry
theorem dX11_fears_18 : decode cX11_fears 18 = .ok (.iastore, 1) := sorry
theorem dX11_fears_19 : decode cX11_fears 19 = .ok (.return_, 1) := sorry
theorem dX11_weakest_0 : decode cX11_weakest 0 = .ok (.iconst 0, 1) := sorry
theorem dX11_weakest_1 : decode cX11_weakest 1 = .ok (.istore_n 1, 1) := sorry
theorem dX11_weakest_2 : decode cX11_weakest 2 = .ok (.iconst 1, 1) := sorry
theorem dX11_weakest_3 : decode cX11_weakest 3 = .ok (.istore_n 2, 1) := sorry
theorem dX11_weakest_4 : decode cX11_weakest 4 = .ok (.iload_n 2, 1) := sorry
theorem dX11_weakest_5 : decode cX11_weakest 5 = .ok (.aload_n 0, 1) := sorry
theorem dX11_weakest_6 : decode cX11_weakest 6 = .ok (.getfield 23, 3) := sorry
theorem dX11_weakest_9 : decode cX11_weakest 9 = .ok (.iconst 0, 1) := sorry
theorem dX11_weakest_10 : decode cX11_weakest 10 = .ok (.iaload, 1) := sorry
theorem dX11_weakest_11 : decode cX11_weakest 11 = .ok (.if_icmp .ge 36, 3) := sorry
theorem dX11_weakest_14 : decode cX11_weakest 14 = .ok (.aload_n 0, 1) := sorry
theorem dX11_weakest_15 : decode cX11_weakest 15 = .ok (.getfield 46, 3) := sorry
theorem dX11_weakest_18 : decode cX11_weakest 18 = .ok (.bipush 12, 2) := sorry
theorem dX11_weakest_20 : decode cX11_weakest 20 = .ok (.iload_n 2, 1) := sorry
theorem dX11_weakest_21 : decode cX11_weakest 21 = .ok (.iadd, 1) := sorry
theorem dX11_weakest_22 : decode cX11_weakest 22 = .ok (.iaload, 1) := sorry
theorem dX11_weakest_23 : decode cX11_weakest 23 = .ok (.aload_n 0, 1) := sorry
theorem dX11_weakest_24 : decode cX11_weakest 24 = .ok (.getfield 46, 3) := sorry
theorem dX11_weakest_27 : decode cX11_weakest 27 = .ok (.bipush 12, 2) := sorry
theorem dX11_weakest_29 : decode cX11_weakest 29 = .ok (.iload_n 1, 1) := sorry
theorem dX11_weakest_30 : decode cX11_weakest 30 = .ok (.iadd, 1) := sorry
theorem dX11_weakest_31 : decode cX11_weakest 31 = .ok (.iaload, 1) := sorry
theorem dX11_weakest_32 : decode cX11_weakest 32 = .ok (.if_icmp .ge 7, 3) := sorry
theorem dX11_weakest_35 : decode cX11_weakest 35 = .ok (.iload_n 2, 1) := sorry
theorem dX11_weakest_36 : decode cX11_weakest 36 = .ok (.goto 4, 3) := sorry
theorem dX11_weakest_39 : decode cX11_weakest 39 = .ok (.iload_n 1, 1) := sorry
theorem dX11_weakest_40 : decode cX11_weakest 40 = .ok (.istore_n 1, 1) := sorry
theorem dX11_weakest_41 : decode cX11_weakest 41 = .ok (.iinc 2 1, 3) := sorry
theorem dX11_weakest_44 : decode cX11_weakest 44 = .ok (.goto (-40), 3) := sorry
theorem dX11_weakest_47 : decode cX11_weakest 47 = .ok (.iload_n 1, 1) := sorry
theorem dX11_weakest_48 : decode cX11_weakest 48 = .ok (.ireturn, 1) := sorry
set_option maxRecDepth 20000 in
theorem ggX11_shoots_X11_weakest : GoodIn wsX11_shoots wsX11_weakest := sorry
set_option maxRecDepth 20000 in
theorem gX11_shoots_X11_weakest : GoodIn wsX11_shoots (wsV RX11 189 RX11 yX11_weakest wsX11_weakest) := sorry
set_option maxRecDepth 20000 in
theorem ggX11_shoots_X11_fears : GoodIn wsX11_shoots wsX11_fears := sorry
set_option maxRecDepth 20000 in
theorem gX11_shoots_X11_fears : GoodIn wsX11_shoots (wsV RX11 196 RX11 yX11_fears wsX11_fears) := sorry
set_option maxRecDepth 20000 in
theorem ggX11_shoots_X11_pays : GoodIn wsX11_shoots wsX11_pays := sorry
set_option maxRecDepth 20000 in
theorem gX11_shoots_X11_pays : GoodIn wsX11_shoots (wsV RX11 199 RX11 yX11_pays wsX11_pays) := sorry
theorem dX11_shoots_0 : decode cX11_shoots 0 = .ok (.aload_n 2, 1) := sorry
theorem dX11_shoots_1 : decode cX11_shoots 1 = .ok (.aload_n 0, 1) := sorry
theorem dX11_shoots_2 : decode cX11_shoots 2 = .ok (.getfield 46, 3) := sorry
theorem dX11_shoots_5 : decode cX11_shoots 5 = .ok (.bipush 11, 2) := sorry
theorem dX11_shoots_7 : decode cX11_shoots 7 = .ok (.iaload, 1) := sorry
theorem dX11_shoots_8 : decode cX11_shoots 8 = .ok (.iaload, 1) := sorry
theorem dX11_shoots_9 : decode cX11_shoots 9 = .ok (.istore_n 3, 1) := sorry
theorem dX11_shoots_10 : decode cX11_shoots 10 = .ok (.iconst 0, 1) := sorry
theorem dX11_shoots_11 : decode cX11_shoots 11 = .ok (.istore 4, 2) := sorry
theorem dX11_shoots_13 : decode cX11_shoots 13 = .ok (.iconst 1, 1) := sorry
theorem dX11_shoots_14 : decode cX11_shoots 14 = .ok (.istore 5, 2) := sorry
theorem dX11_shoots_16 : decode cX11_shoots 16 = .ok (.iload 5, 2) := sorry
theorem dX11_shoots_18 : decode cX11_shoots 18 = .ok (.aload_n 1, 1) := sorry
theorem dX11_shoots_19 : decode cX11_shoots 19 = .ok (.iconst 3, 1) := sorry
theorem dX11_shoots_20 : decode cX11_shoots 20 = .ok (.iaload, 1) := sorry
theorem dX11_shoots_21 : decode cX11_shoots 21 = .ok (.if_icmp .gt 185, 3) := sorry
theorem dX11_shoots_24 : decode cX11_shoots 24 = .ok (.aload_n 0, 1) := sorry
theorem dX11_shoots_25 : decode cX11_shoots 25 = .ok (.getfield 23, 3) := sorry
theorem dX11_shoots_28 : decode cX11_shoots 28 = .ok (.iconst 0, 1) := sorry
theorem dX11_shoots_29 : decode cX11_shoots 29 = .ok (.iaload, 1) := sorry
theorem dX11_shoots_30 : decode cX11_shoots 30 = .ok (.ifCond .le 176, 3) := sorry
theorem dX11_shoots_33 : decode cX11_shoots 33 = .ok (.iload_n 3, 1) := sorry
theorem dX11_shoots_34 : decode cX11_shoots 34 = .ok (.iconst (-1), 1) := sorry
theorem dX11_shoots_35 : decode cX11_shoots 35 = .ok (.if_icmp .ne 10, 3) := sorry
theorem dX11_shoots_38 : decode cX11_shoots 38 = .ok (.aload_n 0, 1) := sorry
theorem dX11_shoots_39 : decode cX11_shoots 39 = .ok (.invokevirtual 189, 3) := sorry
theorem dX11_shoots_42 : decode cX11_shoots 42 = .ok (.goto 4, 3) := sorry
theorem dX11_shoots_45 : decode cX11_shoots 45 = .ok (.iload_n 3, 1) := sorry
theorem dX11_shoots_46 : decode cX11_shoots 46 = .ok (.istore 6, 2) := sorry
theorem dX11_shoots_48 : decode cX11_shoots 48 = .ok (.aload_n 0, 1) := sorry
theorem dX11_shoots_49 : decode cX11_shoots 49 = .ok (.getfield 192, 3) := sorry
theorem dX11_shoots_52 : decode cX11_shoots 52 = .ok (.ifCond .eq 22, 3) := sorry
theorem dX11_shoots_55 : decode cX11_shoots 55 = .ok (.aload_n 0, 1) := sorry
theorem dX11_shoots_56 : decode cX11_shoots 56 = .ok (.getfield 55, 3) := sorry
theorem dX11_shoots_59 : decode cX11_shoots 59 = .ok (.aload_n 0, 1) := sorry
theorem dX11_shoots_60 : decode cX11_shoots 60 = .ok (.getfield 46, 3) := sorry
theorem dX11_shoots_63 : decode cX11_shoots 63 = .ok (.bipush 24, 2) := sorry
theorem dX11_shoots_65 : decode cX11_shoots 65 = .ok (.iaload, 1) := sorry
theorem dX11_shoots_66 : decode cX11_shoots 66 = .ok (.aaload, 1) := sorry
theorem dX11_shoots_67 : decode cX11_shoots 67 = .ok (.iload 6, 2) := sorry
theorem dX11_shoots_69 : decode cX11_shoots 69 = .ok (.dup2, 1) := sorry
theorem dX11_shoots_70 : decode cX11_shoots 70 = .ok (.iaload, 1) := sorry
theorem dX11_shoots_71 : decode cX11_shoots 71 = .ok (.iconst 1, 1) := sorry
theorem dX11_shoots_72 : decode cX11_shoots 72 = .ok (.iadd, 1) := sorry
theorem dX11_shoots_73 : decode cX11_shoots 73 = .ok (.iastore, 1) := sorry
theorem dX11_shoots_74 : decode cX11_shoots 74 = .ok (.aload_n 0, 1) := sorry
theorem dX11_shoots_75 : decode cX11_shoots 75 = .ok (.getfield 46, 3) := sorry
theorem dX11_shoots_78 : decode cX11_shoots 78 = .ok (.bipush 9, 2) := sorry
theorem dX11_shoots_80 : decode cX11_shoots 80 = .ok (.dup2, 1) := sorry
theorem dX11_shoots_81 : decode cX11_shoots 81 = .ok (.iaload, 1) := sorry
theorem dX11_shoots_82 : decode cX11_shoots 82 = .ok (.iconst 1, 1) := sorry
theorem dX11_shoots_83 : decode cX11_shoots 83 = .ok (.iadd, 1) := sorry
theorem dX11_shoots_84 : decode cX11_shoots 84 = .ok (.iastore, 1) := sorry
theorem dX11_shoots_85 : decode cX11_shoots 85 = .ok (.aload_n 0, 1) := sorry
theorem dX11_shoots_86 : decode cX11_shoots 86 = .ok (.getfield 46, 3) := sorry
theorem dX11_shoots_89 : decode cX11_shoots 89 = .ok (.bipush 12, 2) := sorry
theorem dX11_shoots_91 : decode cX11_shoots 91 = .ok (.iload 6, 2) := sorry
theorem dX11_shoots_93 : decode cX11_shoots 93 = .ok (.iadd, 1) := sorry
theorem dX11_shoots_94 : decode cX11_shoots 94 = .ok (.dup2, 1) := sorry
theorem dX11_shoots_95 : decode cX11_shoots 95 = .ok (.iaload, 1) := sorry
theorem dX11_shoots_96 : decode cX11_shoots 96 = .ok (.aload_n 1, 1) := sorry
theorem dX11_shoots_97 : decode cX11_shoots 97 = .ok (.iconst 2, 1) := sorry
theorem dX11_shoots_98 : decode cX11_shoots 98 = .ok (.iaload, 1) := sorry
theorem dX11_shoots_99 : decode cX11_shoots 99 = .ok (.iconst 5, 1) := sorry
theorem dX11_shoots_100 : decode cX11_shoots 100 = .ok (.if_icmp .ge 14, 3) := sorry
theorem dX11_shoots_103 : decode cX11_shoots 103 = .ok (.iload 5, 2) := sorry
theorem dX11_shoots_105 : decode cX11_shoots 105 = .ok (.iconst 2, 1) := sorry
theorem dX11_shoots_106 : decode cX11_shoots 106 = .ok (.irem, 1) := sorry
theorem dX11_shoots_107 : decode cX11_shoots 107 = .ok (.ifCond .ne 7, 3) := sorry
theorem dX11_shoots_110 : decode cX11_shoots 110 = .ok (.iconst 2, 1) := sorry
theorem dX11_shoots_111 : decode cX11_shoots 111 = .ok (.goto 4, 3) := sorry
theorem dX11_shoots_114 : decode cX11_shoots 114 = .ok (.iconst 1, 1) := sorry
theorem dX11_shoots_115 : decode cX11_shoots 115 = .ok (.isub, 1) := sorry
theorem dX11_shoots_116 : decode cX11_shoots 116 = .ok (.iastore, 1) := sorry
theorem dX11_shoots_117 : decode cX11_shoots 117 = .ok (.aload_n 0, 1) := sorry
theorem dX11_shoots_118 : decode cX11_shoots 118 = .ok (.getfield 46, 3) := sorry
theorem dX11_shoots_121 : decode cX11_shoots 121 = .ok (.bipush 12, 2) := sorry
theorem dX11_shoots_123 : decode cX11_shoots 123 = .ok (.iload 6, 2) := sorry
theorem dX11_shoots_125 : decode cX11_shoots 125 = .ok (.iadd, 1) := sorry
theorem dX11_shoots_126 : decode cX11_shoots 126 = .ok (.iaload, 1) := sorry
theorem dX11_shoots_127 : decode cX11_shoots 127 = .ok (.ifCond .le 6, 3) := sorry
theorem dX11_shoots_130 : decode cX11_shoots 130 = .ok (.goto 70, 3) := sorry
theorem dX11_shoots_133 : decode cX11_shoots 133 = .ok (.aload_n 0, 1) := sorry
theorem dX11_shoots_134 : decode cX11_shoots 134 = .ok (.getfield 46, 3) := sorry
theorem dX11_shoots_137 : decode cX11_shoots 137 = .ok (.bipush 12, 2) := sorry
theorem dX11_shoots_139 : decode cX11_shoots 139 = .ok (.iload 6, 2) := sorry
theorem dX11_shoots_141 : decode cX11_shoots 141 = .ok (.iadd, 1) := sorry
theorem dX11_shoots_142 : decode cX11_shoots 142 = .ok (.aload_n 0, 1) := sorry
theorem dX11_shoots_143 : decode cX11_shoots 143 = .ok (.getfield 31, 3) := sorry
theorem dX11_shoots_146 : decode cX11_shoots 146 = .ok (.iload 6, 2) := sorry
theorem dX11_shoots_148 : decode cX11_shoots 148 = .ok (.aaload, 1) := sorry
theorem dX11_shoots_149 : decode cX11_shoots 149 = .ok (.iconst 0, 1) := sorry
theorem dX11_shoots_150 : decode cX11_shoots 150 = .ok (.iaload, 1) := sorry
theorem dX11_shoots_151 : decode cX11_shoots 151 = .ok (.iastore, 1) := sorry
theorem dX11_shoots_152 : decode cX11_shoots 152 = .ok (.aload_n 0, 1) := sorry
theorem dX11_shoots_153 : decode cX11_shoots 153 = .ok (.getfield 46, 3) := sorry
theorem dX11_shoots_156 : decode cX11_shoots 156 = .ok (.bipush 18, 2) := sorry
theorem dX11_shoots_158 : decode cX11_shoots 158 = .ok (.iload 6, 2) := sorry
theorem dX11_shoots_160 : decode cX11_shoots 160 = .ok (.iadd, 1) := sorry
theorem dX11_shoots_161 : decode cX11_shoots 161 = .ok (.dup2, 1) := sorry
theorem dX11_shoots_162 : decode cX11_shoots 162 = .ok (.iaload, 1) := sorry
theorem dX11_shoots_163 : decode cX11_shoots 163 = .ok (.iconst 1, 1) := sorry
theorem dX11_shoots_164 : decode cX11_shoots 164 = .ok (.iadd, 1) := sorry
theorem dX11_shoots_165 : decode cX11_shoots 165 = .ok (.iastore, 1) := sorry
theorem dX11_shoots_166 : decode cX11_shoots 166 = .ok (.aload_n 0, 1) := sorry
theorem dX11_shoots_167 : decode cX11_shoots 167 = .ok (.getfield 46, 3) := sorry
theorem dX11_shoots_170 : decode cX11_shoots 170 = .ok (.bipush 6, 2) := sorry
theorem dX11_shoots_172 : decode cX11_shoots 172 = .ok (.dup2, 1) := sorry
theorem dX11_shoots_173 : decode cX11_shoots 173 = .ok (.iaload, 1) := sorry
theorem dX11_shoots_174 : decode cX11_shoots 174 = .ok (.iconst 1, 1) := sorry
theorem dX11_shoots_175 : decode cX11_shoots 175 = .ok (.iadd, 1) := sorry
theorem dX11_shoots_176 : decode cX11_shoots 176 = .ok (.iastore, 1) := sorry
theorem dX11_shoots_177 : decode cX11_shoots 177 = .ok (.iconst 1, 1) := sorry
theorem dX11_shoots_178 : decode cX11_shoots 178 = .ok (.istore 4, 2) := sorry
theorem dX11_shoots_180 : decode cX11_shoots 180 = .ok (.aload_n 0, 1) := sorry
theorem dX11_shoots_181 : decode cX11_shoots 181 = .ok (.aload_n 0, 1) := sorry
theorem dX11_shoots_182 : decode cX11_shoots 182 = .ok (.getfield 23, 3) := sorry
theorem dX11_shoots_185 : decode cX11_shoots 185 = .ok (.bipush 10, 2) := sorry
theorem dX11_shoots_187 : decode cX11_shoots 187 = .ok (.iaload, 1) := sorry
theorem dX11_shoots_188 : decode cX11_shoots 188 = .ok (.invokevirtual 196, 3) := sorry
theorem dX11_shoots_191 : decode cX11_shoots 191 = .ok (.aload_n 0, 1) := sorry
theorem dX11_shoots_192 : decode cX11_shoots 192 = .ok (.iconst 0, 1) := sorry
theorem dX11_shoots_193 : decode cX11_shoots 193 = .ok (.iconst 1, 1) := sorry
theorem dX11_shoots_194 : decode cX11_shoots 194 = .ok (.aload_n 1, 1) := sorry
theorem dX11_shoots_195 : decode cX11_shoots 195 = .ok (.iconst 4, 1) := sorry
theorem dX11_shoots_196 : decode cX11_shoots 196 = .ok (.iaload, 1) := sorry
theorem dX11_shoots_197 : decode cX11_shoots 197 = .ok (.invokevirtual 199, 3) := sorry
theorem dX11_shoots_200 : decode cX11_shoots 200 = .ok (.iinc 5 1, 3) := sorry
theorem dX11_shoots_203 : decode cX11_shoots 203 = .ok (.goto (-187), 3) := sorry
theorem dX11_shoots_206 : decode cX11_shoots 206 = .ok (.aload_n 0, 1) := sorry
theorem dX11_shoots_207 : decode cX11_shoots 207 = .ok (.getfield 46, 3) := sorry
theorem dX11_shoots_210 : decode cX11_shoots 210 = .ok (.bipush 7, 2) := sorry
theorem dX11_shoots_212 : decode cX11_shoots 212 = .ok (.dup2, 1) := sorry
theorem dX11_shoots_213 : decode cX11_shoots 213 = .ok (.iaload, 1) := sorry
theorem dX11_shoots_214 : decode cX11_shoots 214 = .ok (.iload_n 3, 1) := sorry
theorem dX11_shoots_215 : decode cX11_shoots 215 = .ok (.iconst (-1), 1) := sorry
theorem dX11_shoots_216 : decode cX11_shoots 216 = .ok (.if_icmp .eq 12, 3) := sorry
theorem dX11_shoots_219 : decode cX11_shoots 219 = .ok (.iload 4, 2) := sorry
theorem dX11_shoots_221 : decode cX11_shoots 221 = .ok (.ifCond .ne 7, 3) := sorry
theorem dX11_shoots_224 : decode cX11_shoots 224 = .ok (.iconst 1, 1) := sorry
theorem dX11_shoots_225 : decode cX11_shoots 225 = .ok (.goto 4, 3) := sorry
theorem dX11_shoots_228 : decode cX11_shoots 228 = .ok (.iconst 0, 1) := sorry
theorem dX11_shoots_229 : decode cX11_shoots 229 = .ok (.iadd, 1) := sorry
theorem dX11_shoots_230 : decode cX11_shoots 230 = .ok (.iastore, 1) := sorry
theorem dX11_shoots_231 : decode cX11_shoots 231 = .ok (.aload_n 0, 1) := sorry
theorem dX11_shoots_232 : decode cX11_shoots 232 = .ok (.aload_n 0, 1) := sorry
theorem dX11_shoots_233 : decode cX11_shoots 233 = .ok (.getfield 23, 3) := sorry
theorem dX11_shoots_236 : decode cX11_shoots 236 = .ok (.bipush 15, 2) := sorry
theorem dX11_shoots_238 : decode cX11_shoots 238 = .ok (.aload_n 1, 1) := sorry
theorem dX11_shoots_239 : decode cX11_shoots 239 = .ok (.iconst 2, 1) := sorry
theorem dX11_shoots_240 : decode cX11_shoots 240 = .ok (.iaload, 1) := sorry
theorem dX11_shoots_241 : decode cX11_shoots 241 = .ok (.iadd, 1) := sorry
theorem dX11_shoots_242 : decode cX11_shoots 242 = .ok (.iaload, 1) := sorry
theorem dX11_shoots_243 : decode cX11_shoots 243 = .ok (.invokevirtual 196, 3) := sorry
theorem dX11_shoots_246 : decode cX11_shoots 246 = .ok (.return_, 1) := sorry
set_option maxRecDepth 20000 in
theorem ggX11_underContract_X11_signs : GoodIn wsX11_underContract wsX11_signs := sorry
set_option maxRecDepth 20000 in
theorem gX11_underContract_X11_signs : GoodIn wsX11_underContract (wsV RX11 183 RX11 yX11_signs wsX11_signs) := sorry
set_option maxRecDepth 20000 in
theorem ggX11_underContract_X11_pays : GoodIn wsX11_underContract wsX11_pays := sorry
set_option maxRecDepth 20000 in
theorem gX11_underContract_X11_pays : GoodIn wsX11_underContract (wsV RX11 199 RX11 yX11_pays wsX11_pays) := sorry
set_option maxRecDepth 20000 in
theorem ggX11_underContract_X11_shoots : GoodIn wsX11_underContract wsX11_shoots := sorry
set_option maxRecDepth 20000 in
theorem gX11_underContract_X11_shoots : GoodIn wsX11_underContract (wsV RX11 203 RX11 yX11_shoots wsX11_shoots) := sorry
theorem dX11_underContract_0 : decode cX11_underContract 0 = .ok (.aload_n 0, 1) := sorry
theorem dX11_underContract_1 : decode cX11_underContract 1 = .ok (.getfield 40, 3) := sorry
theorem dX11_underContract_4 : decode cX11_underContract 4 = .ok (.aload_n 0, 1) := sorry
theorem dX11_underContract_5 : decode cX11_underContract 5 = .ok (.getfield 46, 3) := sorry
theorem dX11_underContract_8 : decode cX11_underContract 8 = .ok (.bipush 10, 2) := sorry
theorem dX11_underContract_10 : decode cX11_underContract 10 = .ok (.iaload, 1) := sorry
theorem dX11_underContract_11 : decode cX11_underContract 11 = .ok (.aaload, 1) := sorry
theorem dX11_underContract_12 : decode cX11_underContract 12 = .ok (.astore_n 1, 1) := sorry
theorem dX11_underContract_13 : decode cX11_underContract 13 = .ok (.aload_n 0, 1) := sorry
theorem dX11_underContract_14 : decode cX11_underContract 14 = .ok (.getfield 46, 3) := sorry
theorem dX11_underContract_17 : decode cX11_underContract 17 = .ok (.bipush 24, 2) := sorry
theorem dX11_underContract_19 : decode cX11_underContract 19 = .ok (.iaload, 1) := sorry
theorem dX11_underContract_20 : decode cX11_underContract 20 = .ok (.bipush 12, 2) := sorry
theorem dX11_underContract_22 : decode cX11_underContract 22 = .ok (.irem, 1) := sorry
theorem dX11_underContract_23 : decode cX11_underContract 23 = .ok (.istore_n 2, 1) := sorry
theorem dX11_underContract_24 : decode cX11_underContract 24 = .ok (.iload_n 2, 1) := sorry
theorem dX11_underContract_25 : decode cX11_underContract 25 = .ok (.bipush 9, 2) := sorry
theorem dX11_underContract_27 : decode cX11_underContract 27 = .ok (.if_icmp .gt 8, 3) := sorry
theorem dX11_underContract_30 : decode cX11_underContract 30 = .ok (.iload_n 2, 1) := sorry
theorem dX11_underContract_31 : decode cX11_underContract 31 = .ok (.iconst 2, 1) := sorry
theorem dX11_underContract_32 : decode cX11_underContract 32 = .ok (.if_icmp .ge 9, 3) := sorry
theorem dX11_underContract_35 : decode cX11_underContract 35 = .ok (.aload_n 1, 1) := sorry
theorem dX11_underContract_36 : decode cX11_underContract 36 = .ok (.iconst 1, 1) := sorry
theorem dX11_underContract_37 : decode cX11_underContract 37 = .ok (.iaload, 1) := sorry
theorem dX11_underContract_38 : decode cX11_underContract 38 = .ok (.goto 6, 3) := sorry
theorem dX11_underContract_41 : decode cX11_underContract 41 = .ok (.aload_n 1, 1) := sorry
theorem dX11_underContract_42 : decode cX11_underContract 42 = .ok (.iconst 0, 1) := sorry
theorem dX11_underContract_43 : decode cX11_underContract 43 = .ok (.iaload, 1) := sorry
theorem dX11_underContract_44 : decode cX11_underContract 44 = .ok (.istore_n 3, 1) := sorry
theorem dX11_underContract_45 : decode cX11_underContract 45 = .ok (.aload_n 0, 1) := sorry
theorem dX11_underContract_46 : decode cX11_underContract 46 = .ok (.getfield 46, 3) := sorry
theorem dX11_underContract_49 : decode cX11_underContract 49 = .ok (.iconst 0, 1) := sorry
theorem dX11_underContract_50 : decode cX11_underContract 50 = .ok (.iaload, 1) := sorry
theorem dX11_underContract_51 : decode cX11_underContract 51 = .ok (.iload_n 3, 1) := sorry
theorem dX11_underContract_52 : decode cX11_underContract 52 = .ok (.if_icmp .ge 20, 3) := sorry
theorem dX11_underContract_55 : decode cX11_underContract 55 = .ok (.aload_n 0, 1) := sorry
theorem dX11_underContract_56 : decode cX11_underContract 56 = .ok (.getfield 46, 3) := sorry
theorem dX11_underContract_59 : decode cX11_underContract 59 = .ok (.bipush 8, 2) := sorry
theorem dX11_underContract_61 : decode cX11_underContract 61 = .ok (.dup2, 1) := sorry
theorem dX11_underContract_62 : decode cX11_underContract 62 = .ok (.iaload, 1) := sorry
theorem dX11_underContract_63 : decode cX11_underContract 63 = .ok (.iconst 1, 1) := sorry
theorem dX11_underContract_64 : decode cX11_underContract 64 = .ok (.iadd, 1) := sorry
theorem dX11_underContract_65 : decode cX11_underContract 65 = .ok (.iastore, 1) := sorry
theorem dX11_underContract_66 : decode cX11_underContract 66 = .ok (.aload_n 0, 1) := sorry
theorem dX11_underContract_67 : decode cX11_underContract 67 = .ok (.iconst (-1), 1) := sorry
theorem dX11_underContract_68 : decode cX11_underContract 68 = .ok (.invokevirtual 183, 3) := sorry
theorem dX11_underContract_71 : decode cX11_underContract 71 = .ok (.return_, 1) := sorry
theorem dX11_underContract_72 : decode cX11_underContract 72 = .ok (.aload_n 0, 1) := sorry
theorem dX11_underContract_73 : decode cX11_underContract 73 = .ok (.iconst 0, 1) := sorry
theorem dX11_underContract_74 : decode cX11_underContract 74 = .ok (.iconst 1, 1) := sorry
theorem dX11_underContract_75 : decode cX11_underContract 75 = .ok (.iload_n 3, 1) := sorry
theorem dX11_underContract_76 : decode cX11_underContract 76 = .ok (.invokevirtual 199, 3) := sorry
theorem dX11_underContract_79 : decode cX11_underContract 79 = .ok (.aload_n 0, 1) := sorry
theorem dX11_underContract_80 : decode cX11_underContract 80 = .ok (.aload_n 1, 1) := sorry
theorem dX11_underContract_81 : decode cX11_underContract 81 = .ok (.aload_n 0, 1) := sorry
theorem dX11_underContract_82 : decode cX11_underContract 82 = .ok (.getfield 43, 3) := sorry
theorem dX11_underContract_85 : decode cX11_underContract 85 = .ok (.aload_n 0, 1) := sorry
theorem dX11_underContract_86 : decode cX11_underContract 86 = .ok (.getfield 46, 3) := sorry
theorem dX11_underContract_89 : decode cX11_underContract 89 = .ok (.bipush 10, 2) := sorry
theorem dX11_underContract_91 : decode cX11_underContract 91 = .ok (.iaload, 1) := sorry
theorem dX11_underContract_92 : decode cX11_underContract 92 = .ok (.aaload, 1) := sorry
theorem dX11_underContract_93 : decode cX11_underContract 93 = .ok (.invokevirtual 203, 3) := sorry
theorem dX11_underContract_96 : decode cX11_underContract 96 = .ok (.return_, 1) := sorry
set_option maxRecDepth 20000 in
theorem ggX11_mends_X11_less : GoodIn wsX11_mends wsX11_less := sorry
set_option maxRecDepth 20000 in
theorem gX11_mends_X11_less : GoodIn wsX11_mends (va_wsS RX11 186 yX11_less wsX11_less) := sorry
set_option maxRecDepth 20000 in
theorem ggX11_mends_X11_pays : GoodIn wsX11_mends wsX11_pays := sorry
set_option maxRecDepth 20000 in
theorem gX11_mends_X11_pays : GoodIn wsX11_mends (wsV RX11 199 RX11 yX11_pays wsX11_pays) := sorry
theorem dX11_mends_0 : decode cX11_mends 0 = .ok (.aload_n 0, 1) := sorry
theorem dX11_mends_1 : decode cX11_mends 1 = .ok (.getfield 23, 3) := sorry
theorem dX11_mends_4 : decode cX11_mends 4 = .ok (.bipush 12, 2) := sorry
theorem dX11_mends_6 : decode cX11_mends 6 = .ok (.iaload, 1) := sorry
theorem dX11_mends_7 : decode cX11_mends 7 = .ok (.istore_n 1, 1) := sorry
theorem dX11_mends_8 : decode cX11_mends 8 = .ok (.iconst 0, 1) := sorry
theorem dX11_mends_9 : decode cX11_mends 9 = .ok (.istore_n 2, 1) := sorry
theorem dX11_mends_10 : decode cX11_mends 10 = .ok (.iload_n 2, 1) := sorry
theorem dX11_mends_11 : decode cX11_mends 11 = .ok (.aload_n 0, 1) := sorry
theorem dX11_mends_12 : decode cX11_mends 12 = .ok (.getfield 23, 3) := sorry
theorem dX11_mends_15 : decode cX11_mends 15 = .ok (.iconst 0, 1) := sorry
theorem dX11_mends_16 : decode cX11_mends 16 = .ok (.iaload, 1) := sorry
theorem dX11_mends_17 : decode cX11_mends 17 = .ok (.if_icmp .ge 82, 3) := sorry
theorem dX11_mends_20 : decode cX11_mends 20 = .ok (.aload_n 0, 1) := sorry
theorem dX11_mends_21 : decode cX11_mends 21 = .ok (.getfield 31, 3) := sorry
theorem dX11_mends_24 : decode cX11_mends 24 = .ok (.iload_n 2, 1) := sorry
theorem dX11_mends_25 : decode cX11_mends 25 = .ok (.aaload, 1) := sorry
theorem dX11_mends_26 : decode cX11_mends 26 = .ok (.iconst 1, 1) := sorry
theorem dX11_mends_27 : decode cX11_mends 27 = .ok (.iaload, 1) := sorry
theorem dX11_mends_28 : decode cX11_mends 28 = .ok (.aload_n 0, 1) := sorry
theorem dX11_mends_29 : decode cX11_mends 29 = .ok (.getfield 31, 3) := sorry
theorem dX11_mends_32 : decode cX11_mends 32 = .ok (.iload_n 2, 1) := sorry
theorem dX11_mends_33 : decode cX11_mends 33 = .ok (.aaload, 1) := sorry
theorem dX11_mends_34 : decode cX11_mends 34 = .ok (.iconst 0, 1) := sorry
theorem dX11_mends_35 : decode cX11_mends 35 = .ok (.iaload, 1) := sorry
theorem dX11_mends_36 : decode cX11_mends 36 = .ok (.aload_n 0, 1) := sorry
theorem dX11_mends_37 : decode cX11_mends 37 = .ok (.getfield 46, 3) := sorry
theorem dX11_mends_40 : decode cX11_mends 40 = .ok (.bipush 12, 2) := sorry
theorem dX11_mends_42 : decode cX11_mends 42 = .ok (.iload_n 2, 1) := sorry
theorem dX11_mends_43 : decode cX11_mends 43 = .ok (.iadd, 1) := sorry
theorem dX11_mends_44 : decode cX11_mends 44 = .ok (.iaload, 1) := sorry
theorem dX11_mends_45 : decode cX11_mends 45 = .ok (.isub, 1) := sorry
theorem dX11_mends_46 : decode cX11_mends 46 = .ok (.invokestatic 186, 3) := sorry
theorem dX11_mends_49 : decode cX11_mends 49 = .ok (.istore_n 3, 1) := sorry
theorem dX11_mends_50 : decode cX11_mends 50 = .ok (.iload_n 1, 1) := sorry
theorem dX11_mends_51 : decode cX11_mends 51 = .ok (.ifCond .ne 7, 3) := sorry
theorem dX11_mends_54 : decode cX11_mends 54 = .ok (.iload_n 3, 1) := sorry
theorem dX11_mends_55 : decode cX11_mends 55 = .ok (.goto 15, 3) := sorry
theorem dX11_mends_58 : decode cX11_mends 58 = .ok (.iload_n 3, 1) := sorry
theorem dX11_mends_59 : decode cX11_mends 59 = .ok (.aload_n 0, 1) := sorry
theorem dX11_mends_60 : decode cX11_mends 60 = .ok (.getfield 46, 3) := sorry
theorem dX11_mends_63 : decode cX11_mends 63 = .ok (.iconst 0, 1) := sorry
theorem dX11_mends_64 : decode cX11_mends 64 = .ok (.iaload, 1) := sorry
theorem dX11_mends_65 : decode cX11_mends 65 = .ok (.iload_n 1, 1) := sorry
theorem dX11_mends_66 : decode cX11_mends 66 = .ok (.idiv, 1) := sorry
theorem dX11_mends_67 : decode cX11_mends 67 = .ok (.invokestatic 186, 3) := sorry
theorem dX11_mends_70 : decode cX11_mends 70 = .ok (.istore_n 3, 1) := sorry
theorem dX11_mends_71 : decode cX11_mends 71 = .ok (.aload_n 0, 1) := sorry
theorem dX11_mends_72 : decode cX11_mends 72 = .ok (.iconst 0, 1) := sorry
theorem dX11_mends_73 : decode cX11_mends 73 = .ok (.iconst 2, 1) := sorry
theorem dX11_mends_74 : decode cX11_mends 74 = .ok (.iload_n 1, 1) := sorry
theorem dX11_mends_75 : decode cX11_mends 75 = .ok (.iload_n 3, 1) := sorry
theorem dX11_mends_76 : decode cX11_mends 76 = .ok (.imul, 1) := sorry
theorem dX11_mends_77 : decode cX11_mends 77 = .ok (.invokevirtual 199, 3) := sorry
theorem dX11_mends_80 : decode cX11_mends 80 = .ok (.aload_n 0, 1) := sorry
theorem dX11_mends_81 : decode cX11_mends 81 = .ok (.getfield 46, 3) := sorry
theorem dX11_mends_84 : decode cX11_mends 84 = .ok (.bipush 12, 2) := sorry
theorem dX11_mends_86 : decode cX11_mends 86 = .ok (.iload_n 2, 1) := sorry
theorem dX11_mends_87 : decode cX11_mends 87 = .ok (.iadd, 1) := sorry
theorem dX11_mends_88 : decode cX11_mends 88 = .ok (.dup2, 1) := sorry
theorem dX11_mends_89 : decode cX11_mends 89 = .ok (.iaload, 1) := sorry
theorem dX11_mends_90 : decode cX11_mends 90 = .ok (.iload_n 3, 1) := sorry
theorem dX11_mends_91 : decode cX11_mends 91 = .ok (.iadd, 1) := sorry
theorem dX11_mends_92 : decode cX11_mends 92 = .ok (.iastore, 1) := sorry
theorem dX11_mends_93 : decode cX11_mends 93 = .ok (.iinc 2 1, 3) := sorry
theorem dX11_mends_96 : decode cX11_mends 96 = .ok (.goto (-86), 3) := sorry
theorem dX11_mends_99 : decode cX11_mends 99 = .ok (.return_, 1) := sorry
set_option maxRecDepth 20000 in
theorem ggX11_monthGoes_X11_pays : GoodIn wsX11_monthGoes wsX11_pays := sorry
set_option maxRecDepth 20000 in
theorem gX11_monthGoes_X11_pays : GoodIn wsX11_monthGoes (wsV RX11 199 RX11 yX11_pays wsX11_pays) := sorry
set_option maxRecDepth 20000 in
theorem ggX11_monthGoes_X11_underContract : GoodIn wsX11_monthGoes wsX11_underContract := sorry
set_option maxRecDepth 20000 in
theorem gX11_monthGoes_X11_underContract : GoodIn wsX11_monthGoes (wsV RX11 207 RX11 yX11_underContract wsX11_underContract) := sorry
set_option maxRecDepth 20000 in
theorem ggX11_monthGoes_X11_mends : GoodIn wsX11_monthGoes wsX11_mends := sorry
set_option maxRecDepth 20000 in
theorem gX11_monthGoes_X11_mends : GoodIn wsX11_monthGoes (wsV RX11 210 RX11 yX11_mends wsX11_mends) := sorry
set_option maxRecDepth 20000 in
theorem ggX11_monthGoes_X11_deserts : GoodIn wsX11_monthGoes wsX11_deserts := sorry
set_option maxRecDepth 20000 in
theorem gX11_monthGoes_X11_deserts : GoodIn wsX11_monthGoes (wsV RX11 213 RX11 yX11_deserts wsX11_deserts) := sorry
set_option maxRecDepth 20000 in
theorem ggX11_monthGoes_X11_signs : GoodIn wsX11_monthGoes wsX11_signs := sorry
set_option maxRecDepth 20000 in
theorem gX11_monthGoes_X11_signs : GoodIn wsX11_monthGoes (wsV RX11 183 RX11 yX11_signs wsX11_signs) := sorry
theorem dX11_monthGoes_0 : decode cX11_monthGoes 0 = .ok (.aload_n 0, 1) := sorry
theorem dX11_monthGoes_1 : decode cX11_monthGoes 1 = .ok (.iconst 2, 1) := sorry
theorem dX11_monthGoes_2 : decode cX11_monthGoes 2 = .ok (.iconst 0, 1) := sorry
theorem dX11_monthGoes_3 : decode cX11_monthGoes 3 = .ok (.aload_n 0, 1) := sorry
theorem dX11_monthGoes_4 : decode cX11_monthGoes 4 = .ok (.getfield 46, 3) := sorry
theorem dX11_monthGoes_7 : decode cX11_monthGoes 7 = .ok (.iconst 3, 1) := sorry
theorem dX11_monthGoes_8 : decode cX11_monthGoes 8 = .ok (.iaload, 1) := sorry
theorem dX11_monthGoes_9 : decode cX11_monthGoes 9 = .ok (.aload_n 0, 1) := sorry
theorem dX11_monthGoes_10 : decode cX11_monthGoes 10 = .ok (.getfield 23, 3) := sorry
theorem dX11_monthGoes_13 : decode cX11_monthGoes 13 = .ok (.bipush 8, 2) := sorry
theorem dX11_monthGoes_15 : decode cX11_monthGoes 15 = .ok (.iaload, 1) := sorry
theorem dX11_monthGoes_16 : decode cX11_monthGoes 16 = .ok (.imul, 1) := sorry
theorem dX11_monthGoes_17 : decode cX11_monthGoes 17 = .ok (.aload_n 0, 1) := sorry
theorem dX11_monthGoes_18 : decode cX11_monthGoes 18 = .ok (.getfield 46, 3) := sorry
theorem dX11_monthGoes_21 : decode cX11_monthGoes 21 = .ok (.iconst 5, 1) := sorry
theorem dX11_monthGoes_22 : decode cX11_monthGoes 22 = .ok (.iaload, 1) := sorry
theorem dX11_monthGoes_23 : decode cX11_monthGoes 23 = .ok (.imul, 1) := sorry
theorem dX11_monthGoes_24 : decode cX11_monthGoes 24 = .ok (.sipush 10000, 3) := sorry
theorem dX11_monthGoes_27 : decode cX11_monthGoes 27 = .ok (.idiv, 1) := sorry
theorem dX11_monthGoes_28 : decode cX11_monthGoes 28 = .ok (.invokevirtual 199, 3) := sorry
theorem dX11_monthGoes_31 : decode cX11_monthGoes 31 = .ok (.aload_n 0, 1) := sorry
theorem dX11_monthGoes_32 : decode cX11_monthGoes 32 = .ok (.getfield 46, 3) := sorry
theorem dX11_monthGoes_35 : decode cX11_monthGoes 35 = .ok (.bipush 10, 2) := sorry
theorem dX11_monthGoes_37 : decode cX11_monthGoes 37 = .ok (.iaload, 1) := sorry
theorem dX11_monthGoes_38 : decode cX11_monthGoes 38 = .ok (.iconst (-1), 1) := sorry
theorem dX11_monthGoes_39 : decode cX11_monthGoes 39 = .ok (.if_icmp .eq 7, 3) := sorry
theorem dX11_monthGoes_42 : decode cX11_monthGoes 42 = .ok (.aload_n 0, 1) := sorry
theorem dX11_monthGoes_43 : decode cX11_monthGoes 43 = .ok (.invokevirtual 207, 3) := sorry
theorem dX11_monthGoes_46 : decode cX11_monthGoes 46 = .ok (.aload_n 0, 1) := sorry
theorem dX11_monthGoes_47 : decode cX11_monthGoes 47 = .ok (.getfield 46, 3) := sorry
theorem dX11_monthGoes_50 : decode cX11_monthGoes 50 = .ok (.iconst 5, 1) := sorry
theorem dX11_monthGoes_51 : decode cX11_monthGoes 51 = .ok (.aload_n 0, 1) := sorry
theorem dX11_monthGoes_52 : decode cX11_monthGoes 52 = .ok (.getfield 46, 3) := sorry
theorem dX11_monthGoes_55 : decode cX11_monthGoes 55 = .ok (.iconst 5, 1) := sorry
theorem dX11_monthGoes_56 : decode cX11_monthGoes 56 = .ok (.iaload, 1) := sorry
theorem dX11_monthGoes_57 : decode cX11_monthGoes 57 = .ok (.aload_n 0, 1) := sorry
theorem dX11_monthGoes_58 : decode cX11_monthGoes 58 = .ok (.getfield 23, 3) := sorry
theorem dX11_monthGoes_61 : decode cX11_monthGoes 61 = .ok (.bipush 11, 2) := sorry
theorem dX11_monthGoes_63 : decode cX11_monthGoes 63 = .ok (.iaload, 1) := sorry
theorem dX11_monthGoes_64 : decode cX11_monthGoes 64 = .ok (.if_icmp .ge 7, 3) := sorry
theorem dX11_monthGoes_67 : decode cX11_monthGoes 67 = .ok (.iconst 0, 1) := sorry
theorem dX11_monthGoes_68 : decode cX11_monthGoes 68 = .ok (.goto 17, 3) := sorry
theorem dX11_monthGoes_71 : decode cX11_monthGoes 71 = .ok (.aload_n 0, 1) := sorry
theorem dX11_monthGoes_72 : decode cX11_monthGoes 72 = .ok (.getfield 46, 3) := sorry
theorem dX11_monthGoes_75 : decode cX11_monthGoes 75 = .ok (.iconst 5, 1) := sorry
theorem dX11_monthGoes_76 : decode cX11_monthGoes 76 = .ok (.iaload, 1) := sorry
theorem dX11_monthGoes_77 : decode cX11_monthGoes 77 = .ok (.aload_n 0, 1) := sorry
theorem dX11_monthGoes_78 : decode cX11_monthGoes 78 = .ok (.getfield 23, 3) := sorry
theorem dX11_monthGoes_81 : decode cX11_monthGoes 81 = .ok (.bipush 11, 2) := sorry
theorem dX11_monthGoes_83 : decode cX11_monthGoes 83 = .ok (.iaload, 1) := sorry
theorem dX11_monthGoes_84 : decode cX11_monthGoes 84 = .ok (.isub, 1) := sorry
theorem dX11_monthGoes_85 : decode cX11_monthGoes 85 = .ok (.iastore, 1) := sorry
theorem dX11_monthGoes_86 : decode cX11_monthGoes 86 = .ok (.aload_n 0, 1) := sorry
theorem dX11_monthGoes_87 : decode cX11_monthGoes 87 = .ok (.invokevirtual 210, 3) := sorry
theorem dX11_monthGoes_90 : decode cX11_monthGoes 90 = .ok (.aload_n 0, 1) := sorry
theorem dX11_monthGoes_91 : decode cX11_monthGoes 91 = .ok (.iconst 0, 1) := sorry
theorem dX11_monthGoes_92 : decode cX11_monthGoes 92 = .ok (.iconst 2, 1) := sorry
theorem dX11_monthGoes_93 : decode cX11_monthGoes 93 = .ok (.aload_n 0, 1) := sorry
theorem dX11_monthGoes_94 : decode cX11_monthGoes 94 = .ok (.getfield 46, 3) := sorry
theorem dX11_monthGoes_97 : decode cX11_monthGoes 97 = .ok (.iconst 3, 1) := sorry
theorem dX11_monthGoes_98 : decode cX11_monthGoes 98 = .ok (.iaload, 1) := sorry
theorem dX11_monthGoes_99 : decode cX11_monthGoes 99 = .ok (.bipush 10, 2) := sorry
theorem dX11_monthGoes_101 : decode cX11_monthGoes 101 = .ok (.idiv, 1) := sorry
theorem dX11_monthGoes_102 : decode cX11_monthGoes 102 = .ok (.aload_n 0, 1) := sorry
theorem dX11_monthGoes_103 : decode cX11_monthGoes 103 = .ok (.getfield 23, 3) := sorry
theorem dX11_monthGoes_106 : decode cX11_monthGoes 106 = .ok (.iconst 3, 1) := sorry
theorem dX11_monthGoes_107 : decode cX11_monthGoes 107 = .ok (.iaload, 1) := sorry
theorem dX11_monthGoes_108 : decode cX11_monthGoes 108 = .ok (.imul, 1) := sorry
theorem dX11_monthGoes_109 : decode cX11_monthGoes 109 = .ok (.invokevirtual 199, 3) := sorry
theorem dX11_monthGoes_112 : decode cX11_monthGoes 112 = .ok (.aload_n 0, 1) := sorry
theorem dX11_monthGoes_113 : decode cX11_monthGoes 113 = .ok (.iconst 1, 1) := sorry
theorem dX11_monthGoes_114 : decode cX11_monthGoes 114 = .ok (.iconst 2, 1) := sorry
theorem dX11_monthGoes_115 : decode cX11_monthGoes 115 = .ok (.aload_n 0, 1) := sorry
theorem dX11_monthGoes_116 : decode cX11_monthGoes 116 = .ok (.getfield 46, 3) := sorry
theorem dX11_monthGoes_119 : decode cX11_monthGoes 119 = .ok (.iconst 4, 1) := sorry
theorem dX11_monthGoes_120 : decode cX11_monthGoes 120 = .ok (.iaload, 1) := sorry
theorem dX11_monthGoes_121 : decode cX11_monthGoes 121 = .ok (.bipush 10, 2) := sorry
theorem dX11_monthGoes_123 : decode cX11_monthGoes 123 = .ok (.idiv, 1) := sorry
theorem dX11_monthGoes_124 : decode cX11_monthGoes 124 = .ok (.aload_n 0, 1) := sorry
theorem dX11_monthGoes_125 : decode cX11_monthGoes 125 = .ok (.getfield 23, 3) := sorry
theorem dX11_monthGoes_128 : decode cX11_monthGoes 128 = .ok (.bipush 6, 2) := sorry
theorem dX11_monthGoes_130 : decode cX11_monthGoes 130 = .ok (.iaload, 1) := sorry
theorem dX11_monthGoes_131 : decode cX11_monthGoes 131 = .ok (.imul, 1) := sorry
theorem dX11_monthGoes_132 : decode cX11_monthGoes 132 = .ok (.invokevirtual 199, 3) := sorry
theorem dX11_monthGoes_135 : decode cX11_monthGoes 135 = .ok (.aload_n 0, 1) := sorry
theorem dX11_monthGoes_136 : decode cX11_monthGoes 136 = .ok (.invokevirtual 213, 3) := sorry
theorem dX11_monthGoes_139 : decode cX11_monthGoes 139 = .ok (.aload_n 0, 1) := sorry
theorem dX11_monthGoes_140 : decode cX11_monthGoes 140 = .ok (.getfield 46, 3) := sorry
theorem dX11_monthGoes_143 : decode cX11_monthGoes 143 = .ok (.bipush 24, 2) := sorry
theorem dX11_monthGoes_145 : decode cX11_monthGoes 145 = .ok (.dup2, 1) := sorry
theorem dX11_monthGoes_146 : decode cX11_monthGoes 146 = .ok (.iaload, 1) := sorry
theorem dX11_monthGoes_147 : decode cX11_monthGoes 147 = .ok (.iconst 1, 1) := sorry
theorem dX11_monthGoes_148 : decode cX11_monthGoes 148 = .ok (.iadd, 1) := sorry
theorem dX11_monthGoes_149 : decode cX11_monthGoes 149 = .ok (.iastore, 1) := sorry
theorem dX11_monthGoes_150 : decode cX11_monthGoes 150 = .ok (.aload_n 0, 1) := sorry
theorem dX11_monthGoes_151 : decode cX11_monthGoes 151 = .ok (.getfield 46, 3) := sorry
theorem dX11_monthGoes_154 : decode cX11_monthGoes 154 = .ok (.bipush 10, 2) := sorry
theorem dX11_monthGoes_156 : decode cX11_monthGoes 156 = .ok (.iaload, 1) := sorry
theorem dX11_monthGoes_157 : decode cX11_monthGoes 157 = .ok (.iconst (-1), 1) := sorry
theorem dX11_monthGoes_158 : decode cX11_monthGoes 158 = .ok (.if_icmp .ne 4, 3) := sorry
theorem dX11_monthGoes_161 : decode cX11_monthGoes 161 = .ok (.return_, 1) := sorry
theorem dX11_monthGoes_162 : decode cX11_monthGoes 162 = .ok (.aload_n 0, 1) := sorry
theorem dX11_monthGoes_163 : decode cX11_monthGoes 163 = .ok (.getfield 46, 3) := sorry
theorem dX11_monthGoes_166 : decode cX11_monthGoes 166 = .ok (.bipush 11, 2) := sorry
theorem dX11_monthGoes_168 : decode cX11_monthGoes 168 = .ok (.dup2, 1) := sorry
theorem dX11_monthGoes_169 : decode cX11_monthGoes 169 = .ok (.iaload, 1) := sorry
theorem dX11_monthGoes_170 : decode cX11_monthGoes 170 = .ok (.iconst 1, 1) := sorry
theorem dX11_monthGoes_171 : decode cX11_monthGoes 171 = .ok (.iadd, 1) := sorry
theorem dX11_monthGoes_172 : decode cX11_monthGoes 172 = .ok (.iastore, 1) := sorry
theorem dX11_monthGoes_173 : decode cX11_monthGoes 173 = .ok (.aload_n 0, 1) := sorry
theorem dX11_monthGoes_174 : decode cX11_monthGoes 174 = .ok (.getfield 46, 3) := sorry
theorem dX11_monthGoes_177 : decode cX11_monthGoes 177 = .ok (.bipush 11, 2) := sorry
theorem dX11_monthGoes_179 : decode cX11_monthGoes 179 = .ok (.iaload, 1) := sorry
theorem dX11_monthGoes_180 : decode cX11_monthGoes 180 = .ok (.aload_n 0, 1) := sorry
theorem dX11_monthGoes_181 : decode cX11_monthGoes 181 = .ok (.getfield 40, 3) := sorry
theorem dX11_monthGoes_184 : decode cX11_monthGoes 184 = .ok (.aload_n 0, 1) := sorry
theorem dX11_monthGoes_185 : decode cX11_monthGoes 185 = .ok (.getfield 46, 3) := sorry
theorem dX11_monthGoes_188 : decode cX11_monthGoes 188 = .ok (.bipush 10, 2) := sorry
theorem dX11_monthGoes_190 : decode cX11_monthGoes 190 = .ok (.iaload, 1) := sorry
theorem dX11_monthGoes_191 : decode cX11_monthGoes 191 = .ok (.aaload, 1) := sorry
theorem dX11_monthGoes_192 : decode cX11_monthGoes 192 = .ok (.iconst 5, 1) := sorry
theorem dX11_monthGoes_193 : decode cX11_monthGoes 193 = .ok (.iaload, 1) := sorry
theorem dX11_monthGoes_194 : decode cX11_monthGoes 194 = .ok (.if_icmp .ne 8, 3) := sorry
theorem dX11_monthGoes_197 : decode cX11_monthGoes 197 = .ok (.aload_n 0, 1) := sorry
theorem dX11_monthGoes_198 : decode cX11_monthGoes 198 = .ok (.iconst (-1), 1) := sorry
theorem dX11_monthGoes_199 : decode cX11_monthGoes 199 = .ok (.invokevirtual 183, 3) := sorry
theorem dX11_monthGoes_202 : decode cX11_monthGoes 202 = .ok (.return_, 1) := sorry
theorem dX11_deserts_0 : decode cX11_deserts 0 = .ok (.aload_n 0, 1) := sorry
theorem dX11_deserts_1 : decode cX11_deserts 1 = .ok (.getfield 23, 3) := sorry
theorem dX11_deserts_4 : decode cX11_deserts 4 = .ok (.iconst 3, 1) := sorry
theorem dX11_deserts_5 : decode cX11_deserts 5 = .ok (.iaload, 1) := sorry
theorem dX11_deserts_6 : decode cX11_deserts 6 = .ok (.aload_n 0, 1) := sorry
theorem dX11_deserts_7 : decode cX11_deserts 7 = .ok (.getfield 23, 3) := sorry
theorem dX11_deserts_10 : decode cX11_deserts 10 = .ok (.bipush 6, 2) := sorry
theorem dX11_deserts_12 : decode cX11_deserts 12 = .ok (.iaload, 1) := sorry
theorem dX11_deserts_13 : decode cX11_deserts 13 = .ok (.if_icmp .ge 7, 3) := sorry
theorem dX11_deserts_16 : decode cX11_deserts 16 = .ok (.iconst 3, 1) := sorry
theorem dX11_deserts_17 : decode cX11_deserts 17 = .ok (.goto 4, 3) := sorry
theorem dX11_deserts_20 : decode cX11_deserts 20 = .ok (.iconst 4, 1) := sorry
theorem dX11_deserts_21 : decode cX11_deserts 21 = .ok (.istore_n 1, 1) := sorry
theorem dX11_deserts_22 : decode cX11_deserts 22 = .ok (.aload_n 0, 1) := sorry
theorem dX11_deserts_23 : decode cX11_deserts 23 = .ok (.getfield 23, 3) := sorry
theorem dX11_deserts_26 : decode cX11_deserts 26 = .ok (.iconst 3, 1) := sorry
theorem dX11_deserts_27 : decode cX11_deserts 27 = .ok (.iaload, 1) := sorry
theorem dX11_deserts_28 : decode cX11_deserts 28 = .ok (.aload_n 0, 1) := sorry
theorem dX11_deserts_29 : decode cX11_deserts 29 = .ok (.getfield 23, 3) := sorry
theorem dX11_deserts_32 : decode cX11_deserts 32 = .ok (.bipush 6, 2) := sorry
theorem dX11_deserts_34 : decode cX11_deserts 34 = .ok (.iaload, 1) := sorry
theorem dX11_deserts_35 : decode cX11_deserts 35 = .ok (.if_icmp .ge 20, 3) := sorry
theorem dX11_deserts_38 : decode cX11_deserts 38 = .ok (.aload_n 0, 1) := sorry
theorem dX11_deserts_39 : decode cX11_deserts 39 = .ok (.getfield 23, 3) := sorry
theorem dX11_deserts_42 : decode cX11_deserts 42 = .ok (.bipush 6, 2) := sorry
theorem dX11_deserts_44 : decode cX11_deserts 44 = .ok (.iaload, 1) := sorry
theorem dX11_deserts_45 : decode cX11_deserts 45 = .ok (.aload_n 0, 1) := sorry
theorem dX11_deserts_46 : decode cX11_deserts 46 = .ok (.getfield 23, 3) := sorry
theorem dX11_deserts_49 : decode cX11_deserts 49 = .ok (.iconst 3, 1) := sorry
theorem dX11_deserts_50 : decode cX11_deserts 50 = .ok (.iaload, 1) := sorry
theorem dX11_deserts_51 : decode cX11_deserts 51 = .ok (.isub, 1) := sorry
theorem dX11_deserts_52 : decode cX11_deserts 52 = .ok (.goto 17, 3) := sorry
theorem dX11_deserts_55 : decode cX11_deserts 55 = .ok (.aload_n 0, 1) := sorry
theorem dX11_deserts_56 : decode cX11_deserts 56 = .ok (.getfield 23, 3) := sorry
theorem dX11_deserts_59 : decode cX11_deserts 59 = .ok (.iconst 3, 1) := sorry
theorem dX11_deserts_60 : decode cX11_deserts 60 = .ok (.iaload, 1) := sorry
theorem dX11_deserts_61 : decode cX11_deserts 61 = .ok (.aload_n 0, 1) := sorry
theorem dX11_deserts_62 : decode cX11_deserts 62 = .ok (.getfield 23, 3) := sorry
theorem dX11_deserts_65 : decode cX11_deserts 65 = .ok (.bipush 6, 2) := sorry
theorem dX11_deserts_67 : decode cX11_deserts 67 = .ok (.iaload, 1) := sorry
theorem dX11_deserts_68 : decode cX11_deserts 68 = .ok (.isub, 1) := sorry
theorem dX11_deserts_69 : decode cX11_deserts 69 = .ok (.istore_n 2, 1) := sorry
theorem dX11_deserts_70 : decode cX11_deserts 70 = .ok (.aload_n 0, 1) := sorry
theorem dX11_deserts_71 : decode cX11_deserts 71 = .ok (.getfield 46, 3) := sorry
theorem dX11_deserts_74 : decode cX11_deserts 74 = .ok (.iload_n 1, 1) := sorry
theorem dX11_deserts_75 : decode cX11_deserts 75 = .ok (.iaload, 1) := sorry
theorem dX11_deserts_76 : decode cX11_deserts 76 = .ok (.iload_n 2, 1) := sorry
theorem dX11_deserts_77 : decode cX11_deserts 77 = .ok (.imul, 1) := sorry
theorem dX11_deserts_78 : decode cX11_deserts 78 = .ok (.bipush 100, 2) := sorry
theorem dX11_deserts_80 : decode cX11_deserts 80 = .ok (.idiv, 1) := sorry
theorem dX11_deserts_81 : decode cX11_deserts 81 = .ok (.istore_n 3, 1) := sorry
theorem dX11_deserts_82 : decode cX11_deserts 82 = .ok (.aload_n 0, 1) := sorry
theorem dX11_deserts_83 : decode cX11_deserts 83 = .ok (.getfield 46, 3) := sorry
theorem dX11_deserts_86 : decode cX11_deserts 86 = .ok (.iload_n 1, 1) := sorry
theorem dX11_deserts_87 : decode cX11_deserts 87 = .ok (.dup2, 1) := sorry
theorem dX11_deserts_88 : decode cX11_deserts 88 = .ok (.iaload, 1) := sorry
theorem dX11_deserts_89 : decode cX11_deserts 89 = .ok (.iload_n 3, 1) := sorry
theorem dX11_deserts_90 : decode cX11_deserts 90 = .ok (.isub, 1) := sorry
theorem dX11_deserts_91 : decode cX11_deserts 91 = .ok (.iastore, 1) := sorry
theorem dX11_deserts_92 : decode cX11_deserts 92 = .ok (.aload_n 0, 1) := sorry
theorem dX11_deserts_93 : decode cX11_deserts 93 = .ok (.getfield 46, 3) := sorry
theorem dX11_deserts_96 : decode cX11_deserts 96 = .ok (.bipush 7, 2) := sorry
theorem dX11_deserts_98 : decode cX11_deserts 98 = .ok (.iload_n 1, 1) := sorry
theorem dX11_deserts_99 : decode cX11_deserts 99 = .ok (.isub, 1) := sorry
theorem dX11_deserts_100 : decode cX11_deserts 100 = .ok (.dup2, 1) := sorry
theorem dX11_deserts_101 : decode cX11_deserts 101 = .ok (.iaload, 1) := sorry
theorem dX11_deserts_102 : decode cX11_deserts 102 = .ok (.iload_n 3, 1) := sorry
theorem dX11_deserts_103 : decode cX11_deserts 103 = .ok (.iadd, 1) := sorry
theorem dX11_deserts_104 : decode cX11_deserts 104 = .ok (.iastore, 1) := sorry
theorem dX11_deserts_105 : decode cX11_deserts 105 = .ok (.return_, 1) := sorry
theorem dX11_puts_0 : decode cX11_puts 0 = .ok (.iconst 0, 1) := sorry
theorem dX11_puts_1 : decode cX11_puts 1 = .ok (.istore_n 1, 1) := sorry
theorem dX11_puts_2 : decode cX11_puts 2 = .ok (.iload_n 1, 1) := sorry
theorem dX11_puts_3 : decode cX11_puts 3 = .ok (.bipush 25, 2) := sorry
theorem dX11_puts_5 : decode cX11_puts 5 = .ok (.if_icmp .ge 21, 3) := sorry
theorem dX11_puts_8 : decode cX11_puts 8 = .ok (.aload_n 0, 1) := sorry
theorem dX11_puts_9 : decode cX11_puts 9 = .ok (.getfield 49, 3) := sorry
theorem dX11_puts_12 : decode cX11_puts 12 = .ok (.iload_n 1, 1) := sorry
theorem dX11_puts_13 : decode cX11_puts 13 = .ok (.aload_n 0, 1) := sorry
theorem dX11_puts_14 : decode cX11_puts 14 = .ok (.getfield 46, 3) := sorry
theorem dX11_puts_17 : decode cX11_puts 17 = .ok (.iload_n 1, 1) := sorry
theorem dX11_puts_18 : decode cX11_puts 18 = .ok (.iaload, 1) := sorry
theorem dX11_puts_19 : decode cX11_puts 19 = .ok (.iastore, 1) := sorry
theorem dX11_puts_20 : decode cX11_puts 20 = .ok (.iinc 1 1, 3) := sorry
theorem dX11_puts_23 : decode cX11_puts 23 = .ok (.goto (-21), 3) := sorry
theorem dX11_puts_26 : decode cX11_puts 26 = .ok (.return_, 1) := sorry
theorem dX11_takes_0 : decode cX11_takes 0 = .ok (.iconst 0, 1) := sorry
theorem dX11_takes_1 : decode cX11_takes 1 = .ok (.istore_n 1, 1) := sorry
theorem dX11_takes_2 : decode cX11_takes 2 = .ok (.iload_n 1, 1) := sorry
theorem dX11_takes_3 : decode cX11_takes 3 = .ok (.bipush 25, 2) := sorry
theorem dX11_takes_5 : decode cX11_takes 5 = .ok (.if_icmp .ge 21, 3) := sorry
theorem dX11_takes_8 : decode cX11_takes 8 = .ok (.aload_n 0, 1) := sorry
theorem dX11_takes_9 : decode cX11_takes 9 = .ok (.getfield 46, 3) := sorry
theorem dX11_takes_12 : decode cX11_takes 12 = .ok (.iload_n 1, 1) := sorry
theorem dX11_takes_13 : decode cX11_takes 13 = .ok (.aload_n 0, 1) := sorry
theorem dX11_takes_14 : decode cX11_takes 14 = .ok (.getfield 49, 3) := sorry
theorem dX11_takes_17 : decode cX11_takes 17 = .ok (.iload_n 1, 1) := sorry
theorem dX11_takes_18 : decode cX11_takes 18 = .ok (.iaload, 1) := sorry
theorem dX11_takes_19 : decode cX11_takes 19 = .ok (.iastore, 1) := sorry
theorem dX11_takes_20 : decode cX11_takes 20 = .ok (.iinc 1 1, 3) := sorry
theorem dX11_takes_23 : decode cX11_takes 23 = .ok (.goto (-21), 3) := sorry
theorem dX11_takes_26 : decode cX11_takes 26 = .ok (.return_, 1) := sorry
set_option maxRecDepth 20000 in
theorem ggX11_goesOn_X11_monthGoes : GoodIn wsX11_goesOn wsX11_monthGoes := sorry
set_option maxRecDepth 20000 in
theorem gX11_goesOn_X11_monthGoes : GoodIn wsX11_goesOn (wsV RX11 216 RX11 yX11_monthGoes wsX11_monthGoes) := sorry
theorem dX11_goesOn_0 : decode cX11_goesOn 0 = .ok (.iconst 0, 1) := sorry
theorem dX11_goesOn_1 : decode cX11_goesOn 1 = .ok (.istore_n 2, 1) := sorry
theorem dX11_goesOn_2 : decode cX11_goesOn 2 = .ok (.iload_n 2, 1) := sorry
theorem dX11_goesOn_3 : decode cX11_goesOn 3 = .ok (.iload_n 1, 1) := sorry
theorem dX11_goesOn_4 : decode cX11_goesOn 4 = .ok (.if_icmp .ge 13, 3) := sorry
theorem dX11_goesOn_7 : decode cX11_goesOn 7 = .ok (.aload_n 0, 1) := sorry
theorem dX11_goesOn_8 : decode cX11_goesOn 8 = .ok (.invokevirtual 216, 3) := sorry
theorem dX11_goesOn_11 : decode cX11_goesOn 11 = .ok (.iinc 2 1, 3) := sorry
theorem dX11_goesOn_14 : decode cX11_goesOn 14 = .ok (.goto (-12), 3) := sorry
theorem dX11_goesOn_17 : decode cX11_goesOn 17 = .ok (.return_, 1) := sorry
set_option maxRecDepth 20000 in
theorem ggX11_months_X11_in : GoodIn wsX11_months wsX11_in := sorry
set_option maxRecDepth 20000 in
theorem gX11_months_X11_in : GoodIn wsX11_months (va_wsS RX11 119 yX11_in wsX11_in) := sorry
set_option maxRecDepth 20000 in
theorem ggX11_months_X11_bad : GoodIn wsX11_months wsX11_bad := sorry
set_option maxRecDepth 20000 in
theorem gX11_months_X11_bad : GoodIn wsX11_months (wsV RX11 151 RX11 yX11_bad wsX11_bad) := sorry
set_option maxRecDepth 20000 in
theorem ggX11_months_X11_monthGoes : GoodIn wsX11_months wsX11_monthGoes := sorry
set_option maxRecDepth 20000 in
theorem gX11_months_X11_monthGoes : GoodIn wsX11_months (wsV RX11 216 RX11 yX11_monthGoes wsX11_monthGoes) := sorry
theorem dX11_months_0 : decode cX11_months 0 = .ok (.aload_n 0, 1) := sorry
theorem dX11_months_1 : decode cX11_months 1 = .ok (.iconst 0, 1) := sorry
theorem dX11_months_2 : decode cX11_months 2 = .ok (.putfield 85, 3) := sorry
theorem dX11_months_5 : decode cX11_months 5 = .ok (.aload_n 0, 1) := sorry
theorem dX11_months_6 : decode cX11_months 6 = .ok (.iload_n 1, 1) := sorry
theorem dX11_months_7 : decode cX11_months 7 = .ok (.iconst 1, 1) := sorry
theorem dX11_months_8 : decode cX11_months 8 = .ok (.bipush 120, 2) := sorry
theorem dX11_months_10 : decode cX11_months 10 = .ok (.invokestatic 119, 3) := sorry
theorem dX11_months_13 : decode cX11_months 13 = .ok (.ifCond .ne 7, 3) := sorry
theorem dX11_months_16 : decode cX11_months 16 = .ok (.iconst 1, 1) := sorry
theorem dX11_months_17 : decode cX11_months 17 = .ok (.goto 4, 3) := sorry
theorem dX11_months_20 : decode cX11_months 20 = .ok (.iconst 0, 1) := sorry
theorem dX11_months_21 : decode cX11_months 21 = .ok (.iconst 1, 1) := sorry
theorem dX11_months_22 : decode cX11_months 22 = .ok (.iconst 2, 1) := sorry
theorem dX11_months_23 : decode cX11_months 23 = .ok (.invokevirtual 151, 3) := sorry
theorem dX11_months_26 : decode cX11_months 26 = .ok (.ifCond .eq 5, 3) := sorry
theorem dX11_months_29 : decode cX11_months 29 = .ok (.iconst 0, 1) := sorry
theorem dX11_months_30 : decode cX11_months 30 = .ok (.ireturn, 1) := sorry
theorem dX11_months_31 : decode cX11_months 31 = .ok (.iconst 0, 1) := sorry
theorem dX11_months_32 : decode cX11_months 32 = .ok (.istore_n 2, 1) := sorry
theorem dX11_months_33 : decode cX11_months 33 = .ok (.aload_n 0, 1) := sorry
theorem dX11_months_34 : decode cX11_months 34 = .ok (.iconst 1, 1) := sorry
theorem dX11_months_35 : decode cX11_months 35 = .ok (.putfield 192, 3) := sorry
theorem dX11_months_38 : decode cX11_months 38 = .ok (.iload_n 2, 1) := sorry
theorem dX11_months_39 : decode cX11_months 39 = .ok (.iload_n 1, 1) := sorry
theorem dX11_months_40 : decode cX11_months 40 = .ok (.if_icmp .ge 91, 3) := sorry
theorem dX11_months_43 : decode cX11_months 43 = .ok (.aload_n 0, 1) := sorry
theorem dX11_months_44 : decode cX11_months 44 = .ok (.getfield 46, 3) := sorry
theorem dX11_months_47 : decode cX11_months 47 = .ok (.bipush 24, 2) := sorry
theorem dX11_months_49 : decode cX11_months 49 = .ok (.iaload, 1) := sorry
theorem dX11_months_50 : decode cX11_months 50 = .ok (.bipush 120, 2) := sorry
theorem dX11_months_52 : decode cX11_months 52 = .ok (.if_icmp .ge 79, 3) := sorry
theorem dX11_months_55 : decode cX11_months 55 = .ok (.aload_n 0, 1) := sorry
theorem dX11_months_56 : decode cX11_months 56 = .ok (.getfield 46, 3) := sorry
theorem dX11_months_59 : decode cX11_months 59 = .ok (.bipush 24, 2) := sorry
theorem dX11_months_61 : decode cX11_months 61 = .ok (.iaload, 1) := sorry
theorem dX11_months_62 : decode cX11_months 62 = .ok (.istore_n 3, 1) := sorry
theorem dX11_months_63 : decode cX11_months 63 = .ok (.iconst 0, 1) := sorry
theorem dX11_months_64 : decode cX11_months 64 = .ok (.istore 4, 2) := sorry
theorem dX11_months_66 : decode cX11_months 66 = .ok (.iload 4, 2) := sorry
theorem dX11_months_68 : decode cX11_months 68 = .ok (.bipush 25, 2) := sorry
theorem dX11_months_70 : decode cX11_months 70 = .ok (.if_icmp .ge 25, 3) := sorry
theorem dX11_months_73 : decode cX11_months 73 = .ok (.aload_n 0, 1) := sorry
theorem dX11_months_74 : decode cX11_months 74 = .ok (.getfield 52, 3) := sorry
theorem dX11_months_77 : decode cX11_months 77 = .ok (.iload_n 3, 1) := sorry
theorem dX11_months_78 : decode cX11_months 78 = .ok (.aaload, 1) := sorry
theorem dX11_months_79 : decode cX11_months 79 = .ok (.iload 4, 2) := sorry
theorem dX11_months_81 : decode cX11_months 81 = .ok (.aload_n 0, 1) := sorry
theorem dX11_months_82 : decode cX11_months 82 = .ok (.getfield 46, 3) := sorry
theorem dX11_months_85 : decode cX11_months 85 = .ok (.iload 4, 2) := sorry
theorem dX11_months_87 : decode cX11_months 87 = .ok (.iaload, 1) := sorry
theorem dX11_months_88 : decode cX11_months 88 = .ok (.iastore, 1) := sorry
theorem dX11_months_89 : decode cX11_months 89 = .ok (.iinc 4 1, 3) := sorry
theorem dX11_months_92 : decode cX11_months 92 = .ok (.goto (-26), 3) := sorry
theorem dX11_months_95 : decode cX11_months 95 = .ok (.iconst 0, 1) := sorry
theorem dX11_months_96 : decode cX11_months 96 = .ok (.istore 4, 2) := sorry
theorem dX11_months_98 : decode cX11_months 98 = .ok (.iload 4, 2) := sorry
theorem dX11_months_100 : decode cX11_months 100 = .ok (.bipush 6, 2) := sorry
theorem dX11_months_102 : decode cX11_months 102 = .ok (.if_icmp .ge 19, 3) := sorry
theorem dX11_months_105 : decode cX11_months 105 = .ok (.aload_n 0, 1) := sorry
theorem dX11_months_106 : decode cX11_months 106 = .ok (.getfield 55, 3) := sorry
theorem dX11_months_109 : decode cX11_months 109 = .ok (.iload_n 3, 1) := sorry
theorem dX11_months_110 : decode cX11_months 110 = .ok (.aaload, 1) := sorry
theorem dX11_months_111 : decode cX11_months 111 = .ok (.iload 4, 2) := sorry
theorem dX11_months_113 : decode cX11_months 113 = .ok (.iconst 0, 1) := sorry
theorem dX11_months_114 : decode cX11_months 114 = .ok (.iastore, 1) := sorry
theorem dX11_months_115 : decode cX11_months 115 = .ok (.iinc 4 1, 3) := sorry
theorem dX11_months_118 : decode cX11_months 118 = .ok (.goto (-20), 3) := sorry
theorem dX11_months_121 : decode cX11_months 121 = .ok (.aload_n 0, 1) := sorry
theorem dX11_months_122 : decode cX11_months 122 = .ok (.invokevirtual 216, 3) := sorry
theorem dX11_months_125 : decode cX11_months 125 = .ok (.iinc 2 1, 3) := sorry
theorem dX11_months_128 : decode cX11_months 128 = .ok (.goto (-90), 3) := sorry
theorem dX11_months_131 : decode cX11_months 131 = .ok (.aload_n 0, 1) := sorry
theorem dX11_months_132 : decode cX11_months 132 = .ok (.iconst 0, 1) := sorry
theorem dX11_months_133 : decode cX11_months 133 = .ok (.putfield 192, 3) := sorry
theorem dX11_months_136 : decode cX11_months 136 = .ok (.iload_n 2, 1) := sorry
theorem dX11_months_137 : decode cX11_months 137 = .ok (.ireturn, 1) := sorry
set_option maxRecDepth 20000 in
theorem ggX11_undo_X11_in : GoodIn wsX11_undo wsX11_in := sorry
set_option maxRecDepth 20000 in
theorem gX11_undo_X11_in : GoodIn wsX11_undo (va_wsS RX11 119 yX11_in wsX11_in) := sorry
set_option maxRecDepth 20000 in
theorem ggX11_undo_X11_bad : GoodIn wsX11_undo wsX11_bad := sorry
set_option maxRecDepth 20000 in
theorem gX11_undo_X11_bad : GoodIn wsX11_undo (wsV RX11 151 RX11 yX11_bad wsX11_bad) := sorry
set_option maxRecDepth 20000 in
theorem ggX11_undo_X11_less : GoodIn wsX11_undo wsX11_less := sorry
set_option maxRecDepth 20000 in
theorem gX11_undo_X11_less : GoodIn wsX11_undo (va_wsS RX11 186 yX11_less wsX11_less) := sorry
theorem dX11_undo_0 : decode cX11_undo 0 = .ok (.aload_n 0, 1) := sorry
theorem dX11_undo_1 : decode cX11_undo 1 = .ok (.iconst 0, 1) := sorry
theorem dX11_undo_2 : decode cX11_undo 2 = .ok (.putfield 85, 3) := sorry
theorem dX11_undo_5 : decode cX11_undo 5 = .ok (.aload_n 0, 1) := sorry
theorem dX11_undo_6 : decode cX11_undo 6 = .ok (.iload_n 1, 1) := sorry
theorem dX11_undo_7 : decode cX11_undo 7 = .ok (.iconst 1, 1) := sorry
theorem dX11_undo_8 : decode cX11_undo 8 = .ok (.bipush 120, 2) := sorry
theorem dX11_undo_10 : decode cX11_undo 10 = .ok (.invokestatic 119, 3) := sorry
theorem dX11_undo_13 : decode cX11_undo 13 = .ok (.ifCond .ne 7, 3) := sorry
theorem dX11_undo_16 : decode cX11_undo 16 = .ok (.iconst 1, 1) := sorry
theorem dX11_undo_17 : decode cX11_undo 17 = .ok (.goto 4, 3) := sorry
theorem dX11_undo_20 : decode cX11_undo 20 = .ok (.iconst 0, 1) := sorry
theorem dX11_undo_21 : decode cX11_undo 21 = .ok (.iconst 1, 1) := sorry
theorem dX11_undo_22 : decode cX11_undo 22 = .ok (.iconst 2, 1) := sorry
theorem dX11_undo_23 : decode cX11_undo 23 = .ok (.invokevirtual 151, 3) := sorry
theorem dX11_undo_26 : decode cX11_undo 26 = .ok (.ifCond .eq 5, 3) := sorry
theorem dX11_undo_29 : decode cX11_undo 29 = .ok (.iconst 0, 1) := sorry
theorem dX11_undo_30 : decode cX11_undo 30 = .ok (.ireturn, 1) := sorry
theorem dX11_undo_31 : decode cX11_undo 31 = .ok (.iload_n 1, 1) := sorry
theorem dX11_undo_32 : decode cX11_undo 32 = .ok (.aload_n 0, 1) := sorry
theorem dX11_undo_33 : decode cX11_undo 33 = .ok (.getfield 46, 3) := sorry
theorem dX11_undo_36 : decode cX11_undo 36 = .ok (.bipush 24, 2) := sorry
theorem dX11_undo_38 : decode cX11_undo 38 = .ok (.iaload, 1) := sorry
theorem dX11_undo_39 : decode cX11_undo 39 = .ok (.invokestatic 186, 3) := sorry
theorem dX11_undo_42 : decode cX11_undo 42 = .ok (.istore_n 2, 1) := sorry
theorem dX11_undo_43 : decode cX11_undo 43 = .ok (.aload_n 0, 1) := sorry
theorem dX11_undo_44 : decode cX11_undo 44 = .ok (.getfield 46, 3) := sorry
theorem dX11_undo_47 : decode cX11_undo 47 = .ok (.bipush 24, 2) := sorry
theorem dX11_undo_49 : decode cX11_undo 49 = .ok (.iaload, 1) := sorry
theorem dX11_undo_50 : decode cX11_undo 50 = .ok (.iload_n 2, 1) := sorry
theorem dX11_undo_51 : decode cX11_undo 51 = .ok (.isub, 1) := sorry
theorem dX11_undo_52 : decode cX11_undo 52 = .ok (.istore_n 3, 1) := sorry
theorem dX11_undo_53 : decode cX11_undo 53 = .ok (.iload_n 2, 1) := sorry
theorem dX11_undo_54 : decode cX11_undo 54 = .ok (.ifCond .ne 5, 3) := sorry
theorem dX11_undo_57 : decode cX11_undo 57 = .ok (.iconst 0, 1) := sorry
theorem dX11_undo_58 : decode cX11_undo 58 = .ok (.ireturn, 1) := sorry
theorem dX11_undo_59 : decode cX11_undo 59 = .ok (.iconst 0, 1) := sorry
theorem dX11_undo_60 : decode cX11_undo 60 = .ok (.istore 4, 2) := sorry
theorem dX11_undo_62 : decode cX11_undo 62 = .ok (.iload 4, 2) := sorry
theorem dX11_undo_64 : decode cX11_undo 64 = .ok (.bipush 25, 2) := sorry
theorem dX11_undo_66 : decode cX11_undo 66 = .ok (.if_icmp .ge 25, 3) := sorry
theorem dX11_undo_69 : decode cX11_undo 69 = .ok (.aload_n 0, 1) := sorry
theorem dX11_undo_70 : decode cX11_undo 70 = .ok (.getfield 46, 3) := sorry
theorem dX11_undo_73 : decode cX11_undo 73 = .ok (.iload 4, 2) := sorry
theorem dX11_undo_75 : decode cX11_undo 75 = .ok (.aload_n 0, 1) := sorry
theorem dX11_undo_76 : decode cX11_undo 76 = .ok (.getfield 52, 3) := sorry
theorem dX11_undo_79 : decode cX11_undo 79 = .ok (.iload_n 3, 1) := sorry
theorem dX11_undo_80 : decode cX11_undo 80 = .ok (.aaload, 1) := sorry
theorem dX11_undo_81 : decode cX11_undo 81 = .ok (.iload 4, 2) := sorry
theorem dX11_undo_83 : decode cX11_undo 83 = .ok (.iaload, 1) := sorry
theorem dX11_undo_84 : decode cX11_undo 84 = .ok (.iastore, 1) := sorry
theorem dX11_undo_85 : decode cX11_undo 85 = .ok (.iinc 4 1, 3) := sorry
theorem dX11_undo_88 : decode cX11_undo 88 = .ok (.goto (-26), 3) := sorry
theorem dX11_undo_91 : decode cX11_undo 91 = .ok (.iload_n 2, 1) := sorry
theorem dX11_undo_92 : decode cX11_undo 92 = .ok (.ireturn, 1) := sorry
set_option maxRecDepth 20000 in
theorem ggX11_sums_X11_in : GoodIn wsX11_sums wsX11_in := sorry
set_option maxRecDepth 20000 in
theorem gX11_sums_X11_in : GoodIn wsX11_sums (va_wsS RX11 119 yX11_in wsX11_in) := sorry
set_option maxRecDepth 20000 in
theorem ggX11_sums_X11_bad : GoodIn wsX11_sums wsX11_bad := sorry
set_option maxRecDepth 20000 in
theorem gX11_sums_X11_bad : GoodIn wsX11_sums (wsV RX11 151 RX11 yX11_bad wsX11_bad) := sorry
theorem dX11_sums_0 : decode cX11_sums 0 = .ok (.aload_n 0, 1) := sorry
theorem dX11_sums_1 : decode cX11_sums 1 = .ok (.iconst 0, 1) := sorry
theorem dX11_sums_2 : decode cX11_sums 2 = .ok (.putfield 85, 3) := sorry
theorem dX11_sums_5 : decode cX11_sums 5 = .ok (.aload_n 0, 1) := sorry
theorem dX11_sums_6 : decode cX11_sums 6 = .ok (.iload_n 1, 1) := sorry
theorem dX11_sums_7 : decode cX11_sums 7 = .ok (.iconst 0, 1) := sorry
theorem dX11_sums_8 : decode cX11_sums 8 = .ok (.bipush 9, 2) := sorry
theorem dX11_sums_10 : decode cX11_sums 10 = .ok (.invokestatic 119, 3) := sorry
theorem dX11_sums_13 : decode cX11_sums 13 = .ok (.ifCond .ne 7, 3) := sorry
theorem dX11_sums_16 : decode cX11_sums 16 = .ok (.iconst 1, 1) := sorry
theorem dX11_sums_17 : decode cX11_sums 17 = .ok (.goto 4, 3) := sorry
theorem dX11_sums_20 : decode cX11_sums 20 = .ok (.iconst 0, 1) := sorry
theorem dX11_sums_21 : decode cX11_sums 21 = .ok (.iconst 1, 1) := sorry
theorem dX11_sums_22 : decode cX11_sums 22 = .ok (.iconst 2, 1) := sorry
theorem dX11_sums_23 : decode cX11_sums 23 = .ok (.invokevirtual 151, 3) := sorry
theorem dX11_sums_26 : decode cX11_sums 26 = .ok (.ifCond .eq 5, 3) := sorry
theorem dX11_sums_29 : decode cX11_sums 29 = .ok (.iconst 0, 1) := sorry
theorem dX11_sums_30 : decode cX11_sums 30 = .ok (.ireturn, 1) := sorry
theorem dX11_sums_31 : decode cX11_sums 31 = .ok (.aload_n 0, 1) := sorry
theorem dX11_sums_32 : decode cX11_sums 32 = .ok (.getfield 46, 3) := sorry
theorem dX11_sums_35 : decode cX11_sums 35 = .ok (.iload_n 1, 1) := sorry
theorem dX11_sums_36 : decode cX11_sums 36 = .ok (.iaload, 1) := sorry
theorem dX11_sums_37 : decode cX11_sums 37 = .ok (.ireturn, 1) := sorry
set_option maxRecDepth 20000 in
theorem ggX11_corks_X11_isWall : GoodIn wsX11_corks wsX11_isWall := sorry
set_option maxRecDepth 20000 in
theorem gX11_corks_X11_isWall : GoodIn wsX11_corks (wsV RX11 174 RX11 yX11_isWall wsX11_isWall) := sorry
set_option maxRecDepth 20000 in
theorem ggX11_corks_X11_bad : GoodIn wsX11_corks wsX11_bad := sorry
set_option maxRecDepth 20000 in
theorem gX11_corks_X11_bad : GoodIn wsX11_corks (wsV RX11 151 RX11 yX11_bad wsX11_bad) := sorry
set_option maxRecDepth 20000 in
theorem ggX11_corks_X11_in : GoodIn wsX11_corks wsX11_in := sorry
set_option maxRecDepth 20000 in
theorem gX11_corks_X11_in : GoodIn wsX11_corks (va_wsS RX11 119 yX11_in wsX11_in) := sorry
theorem dX11_corks_0 : decode cX11_corks 0 = .ok (.aload_n 0, 1) := sorry
theorem dX11_corks_1 : decode cX11_corks 1 = .ok (.iconst 0, 1) := sorry
theorem dX11_corks_2 : decode cX11_corks 2 = .ok (.putfield 85, 3) := sorry
theorem dX11_corks_5 : decode cX11_corks 5 = .ok (.aload_n 0, 1) := sorry
theorem dX11_corks_6 : decode cX11_corks 6 = .ok (.aload_n 0, 1) := sorry
theorem dX11_corks_7 : decode cX11_corks 7 = .ok (.iload_n 2, 1) := sorry
theorem dX11_corks_8 : decode cX11_corks 8 = .ok (.invokevirtual 174, 3) := sorry
theorem dX11_corks_11 : decode cX11_corks 11 = .ok (.ifCond .ne 7, 3) := sorry
theorem dX11_corks_14 : decode cX11_corks 14 = .ok (.iconst 1, 1) := sorry
theorem dX11_corks_15 : decode cX11_corks 15 = .ok (.goto 4, 3) := sorry
theorem dX11_corks_18 : decode cX11_corks 18 = .ok (.iconst 0, 1) := sorry
theorem dX11_corks_19 : decode cX11_corks 19 = .ok (.iconst 1, 1) := sorry
theorem dX11_corks_20 : decode cX11_corks 20 = .ok (.iconst 1, 1) := sorry
theorem dX11_corks_21 : decode cX11_corks 21 = .ok (.invokevirtual 151, 3) := sorry
theorem dX11_corks_24 : decode cX11_corks 24 = .ok (.ifCond .ne 27, 3) := sorry
theorem dX11_corks_27 : decode cX11_corks 27 = .ok (.aload_n 0, 1) := sorry
theorem dX11_corks_28 : decode cX11_corks 28 = .ok (.iload_n 1, 1) := sorry
theorem dX11_corks_29 : decode cX11_corks 29 = .ok (.iconst 0, 1) := sorry
theorem dX11_corks_30 : decode cX11_corks 30 = .ok (.bipush 119, 2) := sorry
theorem dX11_corks_32 : decode cX11_corks 32 = .ok (.invokestatic 119, 3) := sorry
theorem dX11_corks_35 : decode cX11_corks 35 = .ok (.ifCond .ne 7, 3) := sorry
theorem dX11_corks_38 : decode cX11_corks 38 = .ok (.iconst 1, 1) := sorry
theorem dX11_corks_39 : decode cX11_corks 39 = .ok (.goto 4, 3) := sorry
theorem dX11_corks_42 : decode cX11_corks 42 = .ok (.iconst 0, 1) := sorry
theorem dX11_corks_43 : decode cX11_corks 43 = .ok (.iconst 2, 1) := sorry
theorem dX11_corks_44 : decode cX11_corks 44 = .ok (.iconst 2, 1) := sorry
theorem dX11_corks_45 : decode cX11_corks 45 = .ok (.invokevirtual 151, 3) := sorry
theorem dX11_corks_48 : decode cX11_corks 48 = .ok (.ifCond .eq 5, 3) := sorry
theorem dX11_corks_51 : decode cX11_corks 51 = .ok (.iconst 0, 1) := sorry
theorem dX11_corks_52 : decode cX11_corks 52 = .ok (.ireturn, 1) := sorry
theorem dX11_corks_53 : decode cX11_corks 53 = .ok (.iload_n 1, 1) := sorry
theorem dX11_corks_54 : decode cX11_corks 54 = .ok (.aload_n 0, 1) := sorry
theorem dX11_corks_55 : decode cX11_corks 55 = .ok (.getfield 46, 3) := sorry
theorem dX11_corks_58 : decode cX11_corks 58 = .ok (.bipush 24, 2) := sorry
theorem dX11_corks_60 : decode cX11_corks 60 = .ok (.iaload, 1) := sorry
theorem dX11_corks_61 : decode cX11_corks 61 = .ok (.if_icmp .ge 14, 3) := sorry
theorem dX11_corks_64 : decode cX11_corks 64 = .ok (.aload_n 0, 1) := sorry
theorem dX11_corks_65 : decode cX11_corks 65 = .ok (.getfield 55, 3) := sorry
theorem dX11_corks_68 : decode cX11_corks 68 = .ok (.iload_n 1, 1) := sorry
theorem dX11_corks_69 : decode cX11_corks 69 = .ok (.aaload, 1) := sorry
theorem dX11_corks_70 : decode cX11_corks 70 = .ok (.iload_n 2, 1) := sorry
theorem dX11_corks_71 : decode cX11_corks 71 = .ok (.iaload, 1) := sorry
theorem dX11_corks_72 : decode cX11_corks 72 = .ok (.goto 4, 3) := sorry
theorem dX11_corks_75 : decode cX11_corks 75 = .ok (.iconst 0, 1) := sorry
theorem dX11_corks_76 : decode cX11_corks 76 = .ok (.ireturn, 1) := sorry
set_option maxRecDepth 20000 in
theorem ggX11_areMonths_X11_in : GoodIn wsX11_areMonths wsX11_in := sorry
set_option maxRecDepth 20000 in
theorem gX11_areMonths_X11_in : GoodIn wsX11_areMonths (va_wsS RX11 119 yX11_in wsX11_in) := sorry
theorem dX11_areMonths_0 : decode cX11_areMonths 0 = .ok (.iload_n 0, 1) := sorry
theorem dX11_areMonths_1 : decode cX11_areMonths 1 = .ok (.iconst 1, 1) := sorry
theorem dX11_areMonths_2 : decode cX11_areMonths 2 = .ok (.bipush 60, 2) := sorry
theorem dX11_areMonths_4 : decode cX11_areMonths 4 = .ok (.invokestatic 119, 3) := sorry
theorem dX11_areMonths_7 : decode cX11_areMonths 7 = .ok (.ireturn, 1) := sorry
set_option maxRecDepth 20000 in
theorem ggX11_by_X11_puts : GoodIn wsX11_by wsX11_puts := sorry
set_option maxRecDepth 20000 in
theorem gX11_by_X11_puts : GoodIn wsX11_by (wsV RX11 219 RX11 yX11_puts wsX11_puts) := sorry
set_option maxRecDepth 20000 in
theorem ggX11_by_X11_signs : GoodIn wsX11_by wsX11_signs := sorry
set_option maxRecDepth 20000 in
theorem gX11_by_X11_signs : GoodIn wsX11_by (wsV RX11 183 RX11 yX11_signs wsX11_signs) := sorry
set_option maxRecDepth 20000 in
theorem ggX11_by_X11_goesOn : GoodIn wsX11_by wsX11_goesOn := sorry
set_option maxRecDepth 20000 in
theorem gX11_by_X11_goesOn : GoodIn wsX11_by (wsV RX11 222 RX11 yX11_goesOn wsX11_goesOn) := sorry
set_option maxRecDepth 20000 in
theorem ggX11_by_X11_takes : GoodIn wsX11_by wsX11_takes := sorry
set_option maxRecDepth 20000 in
theorem gX11_by_X11_takes : GoodIn wsX11_by (wsV RX11 225 RX11 yX11_takes wsX11_takes) := sorry
theorem dX11_by_0 : decode cX11_by 0 = .ok (.aload_n 0, 1) := sorry
theorem dX11_by_1 : decode cX11_by 1 = .ok (.invokevirtual 219, 3) := sorry
theorem dX11_by_4 : decode cX11_by 4 = .ok (.aload_n 0, 1) := sorry
theorem dX11_by_5 : decode cX11_by 5 = .ok (.iload_n 1, 1) := sorry
theorem dX11_by_6 : decode cX11_by 6 = .ok (.invokevirtual 183, 3) := sorry
theorem dX11_by_9 : decode cX11_by 9 = .ok (.aload_n 0, 1) := sorry
theorem dX11_by_10 : decode cX11_by 10 = .ok (.iload_n 2, 1) := sorry
theorem dX11_by_11 : decode cX11_by 11 = .ok (.invokevirtual 222, 3) := sorry
theorem dX11_by_14 : decode cX11_by 14 = .ok (.aload_n 0, 1) := sorry
theorem dX11_by_15 : decode cX11_by 15 = .ok (.getfield 46, 3) := sorry
theorem dX11_by_18 : decode cX11_by 18 = .ok (.iload_n 3, 1) := sorry
theorem dX11_by_19 : decode cX11_by 19 = .ok (.iaload, 1) := sorry
theorem dX11_by_20 : decode cX11_by 20 = .ok (.istore 4, 2) := sorry
theorem dX11_by_22 : decode cX11_by 22 = .ok (.aload_n 0, 1) := sorry
theorem dX11_by_23 : decode cX11_by 23 = .ok (.invokevirtual 225, 3) := sorry
theorem dX11_by_26 : decode cX11_by 26 = .ok (.iload 4, 2) := sorry
theorem dX11_by_28 : decode cX11_by 28 = .ok (.ireturn, 1) := sorry
set_option maxRecDepth 20000 in
theorem ggX11_would_X11_isContract : GoodIn wsX11_would wsX11_isContract := sorry
set_option maxRecDepth 20000 in
theorem gX11_would_X11_isContract : GoodIn wsX11_would (wsV RX11 177 RX11 yX11_isContract wsX11_isContract) := sorry
set_option maxRecDepth 20000 in
theorem ggX11_would_X11_bad : GoodIn wsX11_would wsX11_bad := sorry
set_option maxRecDepth 20000 in
theorem gX11_would_X11_bad : GoodIn wsX11_would (wsV RX11 151 RX11 yX11_bad wsX11_bad) := sorry
set_option maxRecDepth 20000 in
theorem ggX11_would_X11_areMonths : GoodIn wsX11_would wsX11_areMonths := sorry
set_option maxRecDepth 20000 in
theorem gX11_would_X11_areMonths : GoodIn wsX11_would (va_wsS RX11 228 yX11_areMonths wsX11_areMonths) := sorry
set_option maxRecDepth 20000 in
theorem ggX11_would_X11_in : GoodIn wsX11_would wsX11_in := sorry
set_option maxRecDepth 20000 in
theorem gX11_would_X11_in : GoodIn wsX11_would (va_wsS RX11 119 yX11_in wsX11_in) := sorry
set_option maxRecDepth 20000 in
theorem ggX11_would_X11_by : GoodIn wsX11_would wsX11_by := sorry
set_option maxRecDepth 20000 in
theorem gX11_would_X11_by : GoodIn wsX11_would (wsV RX11 231 RX11 yX11_by wsX11_by) := sorry
theorem dX11_would_0 : decode cX11_would 0 = .ok (.aload_n 0, 1) := sorry
theorem dX11_would_1 : decode cX11_would 1 = .ok (.iconst 0, 1) := sorry
theorem dX11_would_2 : decode cX11_would 2 = .ok (.putfield 85, 3) := sorry
theorem dX11_would_5 : decode cX11_would 5 = .ok (.aload_n 0, 1) := sorry
theorem dX11_would_6 : decode cX11_would 6 = .ok (.iload_n 1, 1) := sorry
theorem dX11_would_7 : decode cX11_would 7 = .ok (.iconst (-1), 1) := sorry
theorem dX11_would_8 : decode cX11_would 8 = .ok (.if_icmp .eq 15, 3) := sorry
theorem dX11_would_11 : decode cX11_would 11 = .ok (.aload_n 0, 1) := sorry
theorem dX11_would_12 : decode cX11_would 12 = .ok (.iload_n 1, 1) := sorry
theorem dX11_would_13 : decode cX11_would 13 = .ok (.invokevirtual 177, 3) := sorry
theorem dX11_would_16 : decode cX11_would 16 = .ok (.ifCond .ne 7, 3) := sorry
theorem dX11_would_19 : decode cX11_would 19 = .ok (.iconst 1, 1) := sorry
theorem dX11_would_20 : decode cX11_would 20 = .ok (.goto 4, 3) := sorry
theorem dX11_would_23 : decode cX11_would 23 = .ok (.iconst 0, 1) := sorry
theorem dX11_would_24 : decode cX11_would 24 = .ok (.iconst 1, 1) := sorry
theorem dX11_would_25 : decode cX11_would 25 = .ok (.iconst 0, 1) := sorry
theorem dX11_would_26 : decode cX11_would 26 = .ok (.invokevirtual 151, 3) := sorry
theorem dX11_would_29 : decode cX11_would 29 = .ok (.ifCond .ne 34, 3) := sorry
theorem dX11_would_32 : decode cX11_would 32 = .ok (.aload_n 0, 1) := sorry
theorem dX11_would_33 : decode cX11_would 33 = .ok (.iload_n 2, 1) := sorry
theorem dX11_would_34 : decode cX11_would 34 = .ok (.invokestatic 228, 3) := sorry
theorem dX11_would_37 : decode cX11_would 37 = .ok (.ifCond .eq 13, 3) := sorry
theorem dX11_would_40 : decode cX11_would 40 = .ok (.iload_n 3, 1) := sorry
theorem dX11_would_41 : decode cX11_would 41 = .ok (.iconst 0, 1) := sorry
theorem dX11_would_42 : decode cX11_would 42 = .ok (.bipush 9, 2) := sorry
theorem dX11_would_44 : decode cX11_would 44 = .ok (.invokestatic 119, 3) := sorry
theorem dX11_would_47 : decode cX11_would 47 = .ok (.ifCond .ne 7, 3) := sorry
theorem dX11_would_50 : decode cX11_would 50 = .ok (.iconst 1, 1) := sorry
theorem dX11_would_51 : decode cX11_would 51 = .ok (.goto 4, 3) := sorry
theorem dX11_would_54 : decode cX11_would 54 = .ok (.iconst 0, 1) := sorry
theorem dX11_would_55 : decode cX11_would 55 = .ok (.iconst 2, 1) := sorry
theorem dX11_would_56 : decode cX11_would 56 = .ok (.iconst 2, 1) := sorry
theorem dX11_would_57 : decode cX11_would 57 = .ok (.invokevirtual 151, 3) := sorry
theorem dX11_would_60 : decode cX11_would 60 = .ok (.ifCond .eq 5, 3) := sorry
theorem dX11_would_63 : decode cX11_would 63 = .ok (.iconst 0, 1) := sorry
theorem dX11_would_64 : decode cX11_would 64 = .ok (.ireturn, 1) := sorry
theorem dX11_would_65 : decode cX11_would 65 = .ok (.aload_n 0, 1) := sorry
theorem dX11_would_66 : decode cX11_would 66 = .ok (.iload_n 1, 1) := sorry
theorem dX11_would_67 : decode cX11_would 67 = .ok (.iload_n 2, 1) := sorry
theorem dX11_would_68 : decode cX11_would 68 = .ok (.iload_n 3, 1) := sorry
theorem dX11_would_69 : decode cX11_would 69 = .ok (.invokevirtual 231, 3) := sorry
theorem dX11_would_72 : decode cX11_would 72 = .ok (.ireturn, 1) := sorry
set_option maxRecDepth 20000 in
theorem ggX11_best_X11_areMonths : GoodIn wsX11_best wsX11_areMonths := sorry
set_option maxRecDepth 20000 in
theorem gX11_best_X11_areMonths : GoodIn wsX11_best (va_wsS RX11 228 yX11_areMonths wsX11_areMonths) := sorry
set_option maxRecDepth 20000 in
theorem ggX11_best_X11_in : GoodIn wsX11_best wsX11_in := sorry
set_option maxRecDepth 20000 in
theorem gX11_best_X11_in : GoodIn wsX11_best (va_wsS RX11 119 yX11_in wsX11_in) := sorry
set_option maxRecDepth 20000 in
theorem ggX11_best_X11_bad : GoodIn wsX11_best wsX11_bad := sorry
set_option maxRecDepth 20000 in
theorem gX11_best_X11_bad : GoodIn wsX11_best (wsV RX11 151 RX11 yX11_bad wsX11_bad) := sorry
set_option maxRecDepth 20000 in
theorem ggX11_best_X11_by : GoodIn wsX11_best wsX11_by := sorry
set_option maxRecDepth 20000 in
theorem gX11_best_X11_by : GoodIn wsX11_best (wsV RX11 231 RX11 yX11_by wsX11_by) := sorry
theorem dX11_best_0 : decode cX11_best 0 = .ok (.aload_n 0, 1) := sorry
theorem dX11_best_1 : decode cX11_best 1 = .ok (.iconst 0, 1) := sorry
theorem dX11_best_2 : decode cX11_best 2 = .ok (.putfield 85, 3) := sorry
theorem dX11_best_5 : decode cX11_best 5 = .ok (.aload_n 0, 1) := sorry
theorem dX11_best_6 : decode cX11_best 6 = .ok (.iload_n 1, 1) := sorry
theorem dX11_best_7 : decode cX11_best 7 = .ok (.invokestatic 228, 3) := sorry
theorem dX11_best_10 : decode cX11_best 10 = .ok (.ifCond .eq 12, 3) := sorry
theorem dX11_best_13 : decode cX11_best 13 = .ok (.iload_n 2, 1) := sorry
theorem dX11_best_14 : decode cX11_best 14 = .ok (.iconst 0, 1) := sorry
theorem dX11_best_15 : decode cX11_best 15 = .ok (.iconst 1, 1) := sorry
theorem dX11_best_16 : decode cX11_best 16 = .ok (.invokestatic 119, 3) := sorry
theorem dX11_best_19 : decode cX11_best 19 = .ok (.ifCond .ne 7, 3) := sorry
theorem dX11_best_22 : decode cX11_best 22 = .ok (.iconst 1, 1) := sorry
theorem dX11_best_23 : decode cX11_best 23 = .ok (.goto 4, 3) := sorry
theorem dX11_best_26 : decode cX11_best 26 = .ok (.iconst 0, 1) := sorry
theorem dX11_best_27 : decode cX11_best 27 = .ok (.iconst 1, 1) := sorry
theorem dX11_best_28 : decode cX11_best 28 = .ok (.iconst 2, 1) := sorry
theorem dX11_best_29 : decode cX11_best 29 = .ok (.invokevirtual 151, 3) := sorry
theorem dX11_best_32 : decode cX11_best 32 = .ok (.ifCond .eq 5, 3) := sorry
theorem dX11_best_35 : decode cX11_best 35 = .ok (.iconst 0, 1) := sorry
theorem dX11_best_36 : decode cX11_best 36 = .ok (.ireturn, 1) := sorry
theorem dX11_best_37 : decode cX11_best 37 = .ok (.iconst (-1), 1) := sorry
theorem dX11_best_38 : decode cX11_best 38 = .ok (.istore_n 3, 1) := sorry
theorem dX11_best_39 : decode cX11_best 39 = .ok (.aload_n 0, 1) := sorry
theorem dX11_best_40 : decode cX11_best 40 = .ok (.iconst (-1), 1) := sorry
theorem dX11_best_41 : decode cX11_best 41 = .ok (.iload_n 1, 1) := sorry
theorem dX11_best_42 : decode cX11_best 42 = .ok (.iconst 0, 1) := sorry
theorem dX11_best_43 : decode cX11_best 43 = .ok (.invokevirtual 231, 3) := sorry
theorem dX11_best_46 : decode cX11_best 46 = .ok (.istore 4, 2) := sorry
theorem dX11_best_48 : decode cX11_best 48 = .ok (.aload_n 0, 1) := sorry
theorem dX11_best_49 : decode cX11_best 49 = .ok (.getfield 162, 3) := sorry
theorem dX11_best_52 : decode cX11_best 52 = .ok (.iconst 1, 1) := sorry
theorem dX11_best_53 : decode cX11_best 53 = .ok (.isub, 1) := sorry
theorem dX11_best_54 : decode cX11_best 54 = .ok (.istore 5, 2) := sorry
theorem dX11_best_56 : decode cX11_best 56 = .ok (.iload 5, 2) := sorry
theorem dX11_best_58 : decode cX11_best 58 = .ok (.ifCond .lt 36, 3) := sorry
theorem dX11_best_61 : decode cX11_best 61 = .ok (.aload_n 0, 1) := sorry
theorem dX11_best_62 : decode cX11_best 62 = .ok (.iload 5, 2) := sorry
theorem dX11_best_64 : decode cX11_best 64 = .ok (.iload_n 1, 1) := sorry
theorem dX11_best_65 : decode cX11_best 65 = .ok (.iconst 0, 1) := sorry
theorem dX11_best_66 : decode cX11_best 66 = .ok (.invokevirtual 231, 3) := sorry
theorem dX11_best_69 : decode cX11_best 69 = .ok (.istore 6, 2) := sorry
theorem dX11_best_71 : decode cX11_best 71 = .ok (.iload 6, 2) := sorry
theorem dX11_best_73 : decode cX11_best 73 = .ok (.iload 4, 2) := sorry
theorem dX11_best_75 : decode cX11_best 75 = .ok (.if_icmp .ge 6, 3) := sorry
theorem dX11_best_78 : decode cX11_best 78 = .ok (.goto 10, 3) := sorry
theorem dX11_best_81 : decode cX11_best 81 = .ok (.iload 5, 2) := sorry
theorem dX11_best_83 : decode cX11_best 83 = .ok (.istore_n 3, 1) := sorry
theorem dX11_best_84 : decode cX11_best 84 = .ok (.iload 6, 2) := sorry
theorem dX11_best_86 : decode cX11_best 86 = .ok (.istore 4, 2) := sorry
theorem dX11_best_88 : decode cX11_best 88 = .ok (.iinc 5 (-1), 3) := sorry
theorem dX11_best_91 : decode cX11_best 91 = .ok (.goto (-35), 3) := sorry
theorem dX11_best_94 : decode cX11_best 94 = .ok (.iload_n 2, 1) := sorry
theorem dX11_best_95 : decode cX11_best 95 = .ok (.ifCond .ne 7, 3) := sorry
theorem dX11_best_98 : decode cX11_best 98 = .ok (.iload_n 3, 1) := sorry
theorem dX11_best_99 : decode cX11_best 99 = .ok (.goto 5, 3) := sorry
theorem dX11_best_102 : decode cX11_best 102 = .ok (.iload 4, 2) := sorry
theorem dX11_best_104 : decode cX11_best 104 = .ok (.ireturn, 1) := sorry
set_option maxRecDepth 20000 in
theorem ggX11_offer_X11_areMonths : GoodIn wsX11_offer wsX11_areMonths := sorry
set_option maxRecDepth 20000 in
theorem gX11_offer_X11_areMonths : GoodIn wsX11_offer (va_wsS RX11 228 yX11_areMonths wsX11_areMonths) := sorry
set_option maxRecDepth 20000 in
theorem ggX11_offer_X11_in : GoodIn wsX11_offer wsX11_in := sorry
set_option maxRecDepth 20000 in
theorem gX11_offer_X11_in : GoodIn wsX11_offer (va_wsS RX11 119 yX11_in wsX11_in) := sorry
set_option maxRecDepth 20000 in
theorem ggX11_offer_X11_bad : GoodIn wsX11_offer wsX11_bad := sorry
set_option maxRecDepth 20000 in
theorem gX11_offer_X11_bad : GoodIn wsX11_offer (wsV RX11 151 RX11 yX11_bad wsX11_bad) := sorry
set_option maxRecDepth 20000 in
theorem ggX11_offer_X11_wantsFor : GoodIn wsX11_offer wsX11_wantsFor := sorry
set_option maxRecDepth 20000 in
theorem gX11_offer_X11_wantsFor : GoodIn wsX11_offer (wsV RX11 180 RX11 yX11_wantsFor wsX11_wantsFor) := sorry
set_option maxRecDepth 20000 in
theorem ggX11_offer_X11_byOffer : GoodIn wsX11_offer wsX11_byOffer := sorry
set_option maxRecDepth 20000 in
theorem gX11_offer_X11_byOffer : GoodIn wsX11_offer (wsV RX11 235 RX11 yX11_byOffer wsX11_byOffer) := sorry
theorem dX11_offer_0 : decode cX11_offer 0 = .ok (.aload_n 0, 1) := sorry
theorem dX11_offer_1 : decode cX11_offer 1 = .ok (.iconst 0, 1) := sorry
theorem dX11_offer_2 : decode cX11_offer 2 = .ok (.putfield 85, 3) := sorry
theorem dX11_offer_5 : decode cX11_offer 5 = .ok (.aload_n 0, 1) := sorry
theorem dX11_offer_6 : decode cX11_offer 6 = .ok (.iload_n 1, 1) := sorry
theorem dX11_offer_7 : decode cX11_offer 7 = .ok (.invokestatic 228, 3) := sorry
theorem dX11_offer_10 : decode cX11_offer 10 = .ok (.ifCond .eq 12, 3) := sorry
theorem dX11_offer_13 : decode cX11_offer 13 = .ok (.iload_n 2, 1) := sorry
theorem dX11_offer_14 : decode cX11_offer 14 = .ok (.iconst 0, 1) := sorry
theorem dX11_offer_15 : decode cX11_offer 15 = .ok (.iconst 3, 1) := sorry
theorem dX11_offer_16 : decode cX11_offer 16 = .ok (.invokestatic 119, 3) := sorry
theorem dX11_offer_19 : decode cX11_offer 19 = .ok (.ifCond .ne 7, 3) := sorry
theorem dX11_offer_22 : decode cX11_offer 22 = .ok (.iconst 1, 1) := sorry
theorem dX11_offer_23 : decode cX11_offer 23 = .ok (.goto 4, 3) := sorry
theorem dX11_offer_26 : decode cX11_offer 26 = .ok (.iconst 0, 1) := sorry
theorem dX11_offer_27 : decode cX11_offer 27 = .ok (.iconst 1, 1) := sorry
theorem dX11_offer_28 : decode cX11_offer 28 = .ok (.iconst 2, 1) := sorry
theorem dX11_offer_29 : decode cX11_offer 29 = .ok (.invokevirtual 151, 3) := sorry
theorem dX11_offer_32 : decode cX11_offer 32 = .ok (.ifCond .eq 5, 3) := sorry
theorem dX11_offer_35 : decode cX11_offer 35 = .ok (.iconst 0, 1) := sorry
theorem dX11_offer_36 : decode cX11_offer 36 = .ok (.ireturn, 1) := sorry
theorem dX11_offer_37 : decode cX11_offer 37 = .ok (.iconst 0, 1) := sorry
theorem dX11_offer_38 : decode cX11_offer 38 = .ok (.istore_n 3, 1) := sorry
theorem dX11_offer_39 : decode cX11_offer 39 = .ok (.iconst 0, 1) := sorry
theorem dX11_offer_40 : decode cX11_offer 40 = .ok (.istore 4, 2) := sorry
theorem dX11_offer_42 : decode cX11_offer 42 = .ok (.iconst (-1), 1) := sorry
theorem dX11_offer_43 : decode cX11_offer 43 = .ok (.istore 5, 2) := sorry
theorem dX11_offer_45 : decode cX11_offer 45 = .ok (.aload_n 0, 1) := sorry
theorem dX11_offer_46 : decode cX11_offer 46 = .ok (.getfield 40, 3) := sorry
theorem dX11_offer_49 : decode cX11_offer 49 = .ok (.bipush 6, 2) := sorry
theorem dX11_offer_51 : decode cX11_offer 51 = .ok (.aaload, 1) := sorry
theorem dX11_offer_52 : decode cX11_offer 52 = .ok (.astore 6, 2) := sorry
theorem dX11_offer_54 : decode cX11_offer 54 = .ok (.iconst 0, 1) := sorry
theorem dX11_offer_55 : decode cX11_offer 55 = .ok (.istore 7, 2) := sorry
theorem dX11_offer_57 : decode cX11_offer 57 = .ok (.iload 7, 2) := sorry
theorem dX11_offer_59 : decode cX11_offer 59 = .ok (.bipush 36, 2) := sorry
theorem dX11_offer_61 : decode cX11_offer 61 = .ok (.if_icmp .ge 20, 3) := sorry
theorem dX11_offer_64 : decode cX11_offer 64 = .ok (.aload_n 0, 1) := sorry
theorem dX11_offer_65 : decode cX11_offer 65 = .ok (.getfield 43, 3) := sorry
theorem dX11_offer_68 : decode cX11_offer 68 = .ok (.bipush 6, 2) := sorry
theorem dX11_offer_70 : decode cX11_offer 70 = .ok (.aaload, 1) := sorry
theorem dX11_offer_71 : decode cX11_offer 71 = .ok (.iload 7, 2) := sorry
theorem dX11_offer_73 : decode cX11_offer 73 = .ok (.iconst (-1), 1) := sorry
theorem dX11_offer_74 : decode cX11_offer 74 = .ok (.iastore, 1) := sorry
theorem dX11_offer_75 : decode cX11_offer 75 = .ok (.iinc 7 1, 3) := sorry
theorem dX11_offer_78 : decode cX11_offer 78 = .ok (.goto (-21), 3) := sorry
theorem dX11_offer_81 : decode cX11_offer 81 = .ok (.iconst 0, 1) := sorry
theorem dX11_offer_82 : decode cX11_offer 82 = .ok (.istore 7, 2) := sorry
theorem dX11_offer_84 : decode cX11_offer 84 = .ok (.iload 7, 2) := sorry
theorem dX11_offer_86 : decode cX11_offer 86 = .ok (.bipush 10, 2) := sorry
theorem dX11_offer_88 : decode cX11_offer 88 = .ok (.if_icmp .ge 97, 3) := sorry
theorem dX11_offer_91 : decode cX11_offer 91 = .ok (.iconst 0, 1) := sorry
theorem dX11_offer_92 : decode cX11_offer 92 = .ok (.istore 8, 2) := sorry
theorem dX11_offer_94 : decode cX11_offer 94 = .ok (.iload 8, 2) := sorry
theorem dX11_offer_96 : decode cX11_offer 96 = .ok (.bipush 21, 2) := sorry
theorem dX11_offer_98 : decode cX11_offer 98 = .ok (.if_icmp .ge 81, 3) := sorry
theorem dX11_offer_101 : decode cX11_offer 101 = .ok (.aload 6, 2) := sorry
theorem dX11_offer_103 : decode cX11_offer 103 = .ok (.iconst 0, 1) := sorry
theorem dX11_offer_104 : decode cX11_offer 104 = .ok (.aload_n 0, 1) := sorry
theorem dX11_offer_105 : decode cX11_offer 105 = .ok (.iload 7, 2) := sorry
theorem dX11_offer_107 : decode cX11_offer 107 = .ok (.iload 8, 2) := sorry
theorem dX11_offer_109 : decode cX11_offer 109 = .ok (.invokevirtual 180, 3) := sorry
theorem dX11_offer_112 : decode cX11_offer 112 = .ok (.iastore, 1) := sorry
theorem dX11_offer_113 : decode cX11_offer 113 = .ok (.aload 6, 2) := sorry
theorem dX11_offer_115 : decode cX11_offer 115 = .ok (.iconst 1, 1) := sorry
theorem dX11_offer_116 : decode cX11_offer 116 = .ok (.aload 6, 2) := sorry
theorem dX11_offer_118 : decode cX11_offer 118 = .ok (.iconst 0, 1) := sorry
theorem dX11_offer_119 : decode cX11_offer 119 = .ok (.iaload, 1) := sorry
theorem dX11_offer_120 : decode cX11_offer 120 = .ok (.iastore, 1) := sorry
theorem dX11_offer_121 : decode cX11_offer 121 = .ok (.aload 6, 2) := sorry
theorem dX11_offer_123 : decode cX11_offer 123 = .ok (.iconst 2, 1) := sorry
theorem dX11_offer_124 : decode cX11_offer 124 = .ok (.iload 7, 2) := sorry
theorem dX11_offer_126 : decode cX11_offer 126 = .ok (.iastore, 1) := sorry
theorem dX11_offer_127 : decode cX11_offer 127 = .ok (.aload 6, 2) := sorry
theorem dX11_offer_129 : decode cX11_offer 129 = .ok (.iconst 3, 1) := sorry
theorem dX11_offer_130 : decode cX11_offer 130 = .ok (.iload 8, 2) := sorry
theorem dX11_offer_132 : decode cX11_offer 132 = .ok (.iastore, 1) := sorry
theorem dX11_offer_133 : decode cX11_offer 133 = .ok (.aload 6, 2) := sorry
theorem dX11_offer_135 : decode cX11_offer 135 = .ok (.iconst 4, 1) := sorry
theorem dX11_offer_136 : decode cX11_offer 136 = .ok (.iconst 0, 1) := sorry
theorem dX11_offer_137 : decode cX11_offer 137 = .ok (.iastore, 1) := sorry
theorem dX11_offer_138 : decode cX11_offer 138 = .ok (.aload 6, 2) := sorry
theorem dX11_offer_140 : decode cX11_offer 140 = .ok (.iconst 5, 1) := sorry
theorem dX11_offer_141 : decode cX11_offer 141 = .ok (.sipush 1000, 3) := sorry
theorem dX11_offer_144 : decode cX11_offer 144 = .ok (.iastore, 1) := sorry
theorem dX11_offer_145 : decode cX11_offer 145 = .ok (.aload_n 0, 1) := sorry
theorem dX11_offer_146 : decode cX11_offer 146 = .ok (.iload_n 1, 1) := sorry
theorem dX11_offer_147 : decode cX11_offer 147 = .ok (.invokevirtual 235, 3) := sorry
theorem dX11_offer_150 : decode cX11_offer 150 = .ok (.istore 9, 2) := sorry
theorem dX11_offer_152 : decode cX11_offer 152 = .ok (.iload 9, 2) := sorry
theorem dX11_offer_154 : decode cX11_offer 154 = .ok (.iload 5, 2) := sorry
theorem dX11_offer_156 : decode cX11_offer 156 = .ok (.if_icmp .gt 6, 3) := sorry
theorem dX11_offer_159 : decode cX11_offer 159 = .ok (.goto 14, 3) := sorry
theorem dX11_offer_162 : decode cX11_offer 162 = .ok (.iload 7, 2) := sorry
theorem dX11_offer_164 : decode cX11_offer 164 = .ok (.istore_n 3, 1) := sorry
theorem dX11_offer_165 : decode cX11_offer 165 = .ok (.iload 8, 2) := sorry
theorem dX11_offer_167 : decode cX11_offer 167 = .ok (.istore 4, 2) := sorry
theorem dX11_offer_169 : decode cX11_offer 169 = .ok (.iload 9, 2) := sorry
theorem dX11_offer_171 : decode cX11_offer 171 = .ok (.istore 5, 2) := sorry
theorem dX11_offer_173 : decode cX11_offer 173 = .ok (.iinc 8 1, 3) := sorry
theorem dX11_offer_176 : decode cX11_offer 176 = .ok (.goto (-82), 3) := sorry
theorem dX11_offer_179 : decode cX11_offer 179 = .ok (.iinc 7 1, 3) := sorry
theorem dX11_offer_182 : decode cX11_offer 182 = .ok (.goto (-98), 3) := sorry
theorem dX11_offer_185 : decode cX11_offer 185 = .ok (.iload_n 2, 1) := sorry
theorem dX11_offer_186 : decode cX11_offer 186 = .ok (.ifCond .ne 7, 3) := sorry
theorem dX11_offer_189 : decode cX11_offer 189 = .ok (.iload_n 3, 1) := sorry
theorem dX11_offer_190 : decode cX11_offer 190 = .ok (.goto 30, 3) := sorry
theorem dX11_offer_193 : decode cX11_offer 193 = .ok (.iload_n 2, 1) := sorry
theorem dX11_offer_194 : decode cX11_offer 194 = .ok (.iconst 1, 1) := sorry
theorem dX11_offer_195 : decode cX11_offer 195 = .ok (.if_icmp .ne 8, 3) := sorry
theorem dX11_offer_198 : decode cX11_offer 198 = .ok (.iload 4, 2) := sorry
theorem dX11_offer_200 : decode cX11_offer 200 = .ok (.goto 20, 3) := sorry
theorem dX11_offer_203 : decode cX11_offer 203 = .ok (.iload_n 2, 1) := sorry
theorem dX11_offer_204 : decode cX11_offer 204 = .ok (.iconst 2, 1) := sorry
theorem dX11_offer_205 : decode cX11_offer 205 = .ok (.if_icmp .ne 13, 3) := sorry
theorem dX11_offer_208 : decode cX11_offer 208 = .ok (.aload_n 0, 1) := sorry
theorem dX11_offer_209 : decode cX11_offer 209 = .ok (.iload_n 3, 1) := sorry
theorem dX11_offer_210 : decode cX11_offer 210 = .ok (.iload 4, 2) := sorry
theorem dX11_offer_212 : decode cX11_offer 212 = .ok (.invokevirtual 180, 3) := sorry
theorem dX11_offer_215 : decode cX11_offer 215 = .ok (.goto 5, 3) := sorry
theorem dX11_offer_218 : decode cX11_offer 218 = .ok (.iload 5, 2) := sorry
theorem dX11_offer_220 : decode cX11_offer 220 = .ok (.ireturn, 1) := sorry
set_option maxRecDepth 20000 in
theorem ggX11_byOffer_X11_puts : GoodIn wsX11_byOffer wsX11_puts := sorry
set_option maxRecDepth 20000 in
theorem gX11_byOffer_X11_puts : GoodIn wsX11_byOffer (wsV RX11 219 RX11 yX11_puts wsX11_puts) := sorry
set_option maxRecDepth 20000 in
theorem ggX11_byOffer_X11_signs : GoodIn wsX11_byOffer wsX11_signs := sorry
set_option maxRecDepth 20000 in
theorem gX11_byOffer_X11_signs : GoodIn wsX11_byOffer (wsV RX11 183 RX11 yX11_signs wsX11_signs) := sorry
set_option maxRecDepth 20000 in
theorem ggX11_byOffer_X11_monthGoes : GoodIn wsX11_byOffer wsX11_monthGoes := sorry
set_option maxRecDepth 20000 in
theorem gX11_byOffer_X11_monthGoes : GoodIn wsX11_byOffer (wsV RX11 216 RX11 yX11_monthGoes wsX11_monthGoes) := sorry
set_option maxRecDepth 20000 in
theorem ggX11_byOffer_X11_takes : GoodIn wsX11_byOffer wsX11_takes := sorry
set_option maxRecDepth 20000 in
theorem gX11_byOffer_X11_takes : GoodIn wsX11_byOffer (wsV RX11 225 RX11 yX11_takes wsX11_takes) := sorry
theorem dX11_byOffer_0 : decode cX11_byOffer 0 = .ok (.aload_n 0, 1) := sorry
theorem dX11_byOffer_1 : decode cX11_byOffer 1 = .ok (.invokevirtual 219, 3) := sorry
theorem dX11_byOffer_4 : decode cX11_byOffer 4 = .ok (.aload_n 0, 1) := sorry
theorem dX11_byOffer_5 : decode cX11_byOffer 5 = .ok (.bipush 6, 2) := sorry
theorem dX11_byOffer_7 : decode cX11_byOffer 7 = .ok (.invokevirtual 183, 3) := sorry
theorem dX11_byOffer_10 : decode cX11_byOffer 10 = .ok (.iconst 0, 1) := sorry
theorem dX11_byOffer_11 : decode cX11_byOffer 11 = .ok (.istore_n 2, 1) := sorry
theorem dX11_byOffer_12 : decode cX11_byOffer 12 = .ok (.iload_n 2, 1) := sorry
theorem dX11_byOffer_13 : decode cX11_byOffer 13 = .ok (.iload_n 1, 1) := sorry
theorem dX11_byOffer_14 : decode cX11_byOffer 14 = .ok (.if_icmp .ge 36, 3) := sorry
theorem dX11_byOffer_17 : decode cX11_byOffer 17 = .ok (.aload_n 0, 1) := sorry
theorem dX11_byOffer_18 : decode cX11_byOffer 18 = .ok (.getfield 46, 3) := sorry
theorem dX11_byOffer_21 : decode cX11_byOffer 21 = .ok (.bipush 11, 2) := sorry
theorem dX11_byOffer_23 : decode cX11_byOffer 23 = .ok (.aload_n 0, 1) := sorry
theorem dX11_byOffer_24 : decode cX11_byOffer 24 = .ok (.getfield 46, 3) := sorry
theorem dX11_byOffer_27 : decode cX11_byOffer 27 = .ok (.bipush 10, 2) := sorry
theorem dX11_byOffer_29 : decode cX11_byOffer 29 = .ok (.iaload, 1) := sorry
theorem dX11_byOffer_30 : decode cX11_byOffer 30 = .ok (.iconst (-1), 1) := sorry
theorem dX11_byOffer_31 : decode cX11_byOffer 31 = .ok (.if_icmp .ne 7, 3) := sorry
theorem dX11_byOffer_34 : decode cX11_byOffer 34 = .ok (.iconst (-1), 1) := sorry
theorem dX11_byOffer_35 : decode cX11_byOffer 35 = .ok (.goto 4, 3) := sorry
theorem dX11_byOffer_38 : decode cX11_byOffer 38 = .ok (.iconst 0, 1) := sorry
theorem dX11_byOffer_39 : decode cX11_byOffer 39 = .ok (.iastore, 1) := sorry
theorem dX11_byOffer_40 : decode cX11_byOffer 40 = .ok (.aload_n 0, 1) := sorry
theorem dX11_byOffer_41 : decode cX11_byOffer 41 = .ok (.invokevirtual 216, 3) := sorry
theorem dX11_byOffer_44 : decode cX11_byOffer 44 = .ok (.iinc 2 1, 3) := sorry
theorem dX11_byOffer_47 : decode cX11_byOffer 47 = .ok (.goto (-35), 3) := sorry
theorem dX11_byOffer_50 : decode cX11_byOffer 50 = .ok (.aload_n 0, 1) := sorry
theorem dX11_byOffer_51 : decode cX11_byOffer 51 = .ok (.getfield 46, 3) := sorry
theorem dX11_byOffer_54 : decode cX11_byOffer 54 = .ok (.iconst 0, 1) := sorry
theorem dX11_byOffer_55 : decode cX11_byOffer 55 = .ok (.iaload, 1) := sorry
theorem dX11_byOffer_56 : decode cX11_byOffer 56 = .ok (.istore_n 2, 1) := sorry
theorem dX11_byOffer_57 : decode cX11_byOffer 57 = .ok (.aload_n 0, 1) := sorry
theorem dX11_byOffer_58 : decode cX11_byOffer 58 = .ok (.invokevirtual 225, 3) := sorry
theorem dX11_byOffer_61 : decode cX11_byOffer 61 = .ok (.iload_n 2, 1) := sorry
theorem dX11_byOffer_62 : decode cX11_byOffer 62 = .ok (.ireturn, 1) := sorry
set_option maxRecDepth 20000 in
theorem ggX11_nearest_X11_in : GoodIn wsX11_nearest wsX11_in := sorry
set_option maxRecDepth 20000 in
theorem gX11_nearest_X11_in : GoodIn wsX11_nearest (va_wsS RX11 119 yX11_in wsX11_in) := sorry
set_option maxRecDepth 20000 in
theorem ggX11_nearest_X11_bad : GoodIn wsX11_nearest wsX11_bad := sorry
set_option maxRecDepth 20000 in
theorem gX11_nearest_X11_bad : GoodIn wsX11_nearest (wsV RX11 151 RX11 yX11_bad wsX11_bad) := sorry
set_option maxRecDepth 20000 in
theorem ggX11_nearest_X11_wantsFor : GoodIn wsX11_nearest wsX11_wantsFor := sorry
set_option maxRecDepth 20000 in
theorem gX11_nearest_X11_wantsFor : GoodIn wsX11_nearest (wsV RX11 180 RX11 yX11_wantsFor wsX11_wantsFor) := sorry
theorem dX11_nearest_0 : decode cX11_nearest 0 = .ok (.aload_n 0, 1) := sorry
theorem dX11_nearest_1 : decode cX11_nearest 1 = .ok (.iconst 0, 1) := sorry
theorem dX11_nearest_2 : decode cX11_nearest 2 = .ok (.putfield 85, 3) := sorry
theorem dX11_nearest_5 : decode cX11_nearest 5 = .ok (.aload_n 0, 1) := sorry
theorem dX11_nearest_6 : decode cX11_nearest 6 = .ok (.iload_n 1, 1) := sorry
theorem dX11_nearest_7 : decode cX11_nearest 7 = .ok (.iconst 0, 1) := sorry
theorem dX11_nearest_8 : decode cX11_nearest 8 = .ok (.sipush 9999, 3) := sorry
theorem dX11_nearest_11 : decode cX11_nearest 11 = .ok (.invokestatic 119, 3) := sorry
theorem dX11_nearest_14 : decode cX11_nearest 14 = .ok (.ifCond .eq 13, 3) := sorry
theorem dX11_nearest_17 : decode cX11_nearest 17 = .ok (.iload_n 2, 1) := sorry
theorem dX11_nearest_18 : decode cX11_nearest 18 = .ok (.iconst 0, 1) := sorry
theorem dX11_nearest_19 : decode cX11_nearest 19 = .ok (.bipush 99, 2) := sorry
theorem dX11_nearest_21 : decode cX11_nearest 21 = .ok (.invokestatic 119, 3) := sorry
theorem dX11_nearest_24 : decode cX11_nearest 24 = .ok (.ifCond .ne 7, 3) := sorry
theorem dX11_nearest_27 : decode cX11_nearest 27 = .ok (.iconst 1, 1) := sorry
theorem dX11_nearest_28 : decode cX11_nearest 28 = .ok (.goto 4, 3) := sorry
theorem dX11_nearest_31 : decode cX11_nearest 31 = .ok (.iconst 0, 1) := sorry
theorem dX11_nearest_32 : decode cX11_nearest 32 = .ok (.iconst 1, 1) := sorry
theorem dX11_nearest_33 : decode cX11_nearest 33 = .ok (.iconst 2, 1) := sorry
theorem dX11_nearest_34 : decode cX11_nearest 34 = .ok (.invokevirtual 151, 3) := sorry
theorem dX11_nearest_37 : decode cX11_nearest 37 = .ok (.ifCond .eq 5, 3) := sorry
theorem dX11_nearest_40 : decode cX11_nearest 40 = .ok (.iconst 0, 1) := sorry
theorem dX11_nearest_41 : decode cX11_nearest 41 = .ok (.ireturn, 1) := sorry
theorem dX11_nearest_42 : decode cX11_nearest 42 = .ok (.iconst 0, 1) := sorry
theorem dX11_nearest_43 : decode cX11_nearest 43 = .ok (.istore_n 3, 1) := sorry
theorem dX11_nearest_44 : decode cX11_nearest 44 = .ok (.iload_n 3, 1) := sorry
theorem dX11_nearest_45 : decode cX11_nearest 45 = .ok (.bipush 10, 2) := sorry
theorem dX11_nearest_47 : decode cX11_nearest 47 = .ok (.if_icmp .ge 21, 3) := sorry
theorem dX11_nearest_50 : decode cX11_nearest 50 = .ok (.aload_n 0, 1) := sorry
theorem dX11_nearest_51 : decode cX11_nearest 51 = .ok (.iload_n 3, 1) := sorry
theorem dX11_nearest_52 : decode cX11_nearest 52 = .ok (.iload_n 2, 1) := sorry
theorem dX11_nearest_53 : decode cX11_nearest 53 = .ok (.invokevirtual 180, 3) := sorry
theorem dX11_nearest_56 : decode cX11_nearest 56 = .ok (.iload_n 1, 1) := sorry
theorem dX11_nearest_57 : decode cX11_nearest 57 = .ok (.if_icmp .gt 5, 3) := sorry
theorem dX11_nearest_60 : decode cX11_nearest 60 = .ok (.iload_n 3, 1) := sorry
theorem dX11_nearest_61 : decode cX11_nearest 61 = .ok (.ireturn, 1) := sorry
theorem dX11_nearest_62 : decode cX11_nearest 62 = .ok (.iinc 3 1, 3) := sorry
theorem dX11_nearest_65 : decode cX11_nearest 65 = .ok (.goto (-21), 3) := sorry
theorem dX11_nearest_68 : decode cX11_nearest 68 = .ok (.iconst (-1), 1) := sorry
theorem dX11_nearest_69 : decode cX11_nearest 69 = .ok (.ireturn, 1) := sorry
set_option maxRecDepth 20000 in
theorem ggX11_stop_X11_areMonths : GoodIn wsX11_stop wsX11_areMonths := sorry
set_option maxRecDepth 20000 in
theorem gX11_stop_X11_areMonths : GoodIn wsX11_stop (va_wsS RX11 228 yX11_areMonths wsX11_areMonths) := sorry
set_option maxRecDepth 20000 in
theorem ggX11_stop_X11_in : GoodIn wsX11_stop wsX11_in := sorry
set_option maxRecDepth 20000 in
theorem gX11_stop_X11_in : GoodIn wsX11_stop (va_wsS RX11 119 yX11_in wsX11_in) := sorry
set_option maxRecDepth 20000 in
theorem ggX11_stop_X11_bad : GoodIn wsX11_stop wsX11_bad := sorry
set_option maxRecDepth 20000 in
theorem gX11_stop_X11_bad : GoodIn wsX11_stop (wsV RX11 151 RX11 yX11_bad wsX11_bad) := sorry
set_option maxRecDepth 20000 in
theorem ggX11_stop_X11_puts : GoodIn wsX11_stop wsX11_puts := sorry
set_option maxRecDepth 20000 in
theorem gX11_stop_X11_puts : GoodIn wsX11_stop (wsV RX11 219 RX11 yX11_puts wsX11_puts) := sorry
set_option maxRecDepth 20000 in
theorem ggX11_stop_X11_goesOn : GoodIn wsX11_stop wsX11_goesOn := sorry
set_option maxRecDepth 20000 in
theorem gX11_stop_X11_goesOn : GoodIn wsX11_stop (wsV RX11 222 RX11 yX11_goesOn wsX11_goesOn) := sorry
set_option maxRecDepth 20000 in
theorem ggX11_stop_X11_signs : GoodIn wsX11_stop wsX11_signs := sorry
set_option maxRecDepth 20000 in
theorem gX11_stop_X11_signs : GoodIn wsX11_stop (wsV RX11 183 RX11 yX11_signs wsX11_signs) := sorry
set_option maxRecDepth 20000 in
theorem ggX11_stop_X11_takes : GoodIn wsX11_stop wsX11_takes := sorry
set_option maxRecDepth 20000 in
theorem gX11_stop_X11_takes : GoodIn wsX11_stop (wsV RX11 225 RX11 yX11_takes wsX11_takes) := sorry
theorem dX11_stop_0 : decode cX11_stop 0 = .ok (.aload_n 0, 1) := sorry
theorem dX11_stop_1 : decode cX11_stop 1 = .ok (.iconst 0, 1) := sorry
theorem dX11_stop_2 : decode cX11_stop 2 = .ok (.putfield 85, 3) := sorry
theorem dX11_stop_5 : decode cX11_stop 5 = .ok (.aload_n 0, 1) := sorry
theorem dX11_stop_6 : decode cX11_stop 6 = .ok (.iload_n 1, 1) := sorry
theorem dX11_stop_7 : decode cX11_stop 7 = .ok (.invokestatic 228, 3) := sorry
theorem dX11_stop_10 : decode cX11_stop 10 = .ok (.ifCond .eq 12, 3) := sorry
theorem dX11_stop_13 : decode cX11_stop 13 = .ok (.iload_n 2, 1) := sorry
theorem dX11_stop_14 : decode cX11_stop 14 = .ok (.iconst 0, 1) := sorry
theorem dX11_stop_15 : decode cX11_stop 15 = .ok (.iconst 1, 1) := sorry
theorem dX11_stop_16 : decode cX11_stop 16 = .ok (.invokestatic 119, 3) := sorry
theorem dX11_stop_19 : decode cX11_stop 19 = .ok (.ifCond .ne 7, 3) := sorry
theorem dX11_stop_22 : decode cX11_stop 22 = .ok (.iconst 1, 1) := sorry
theorem dX11_stop_23 : decode cX11_stop 23 = .ok (.goto 4, 3) := sorry
theorem dX11_stop_26 : decode cX11_stop 26 = .ok (.iconst 0, 1) := sorry
theorem dX11_stop_27 : decode cX11_stop 27 = .ok (.iconst 1, 1) := sorry
theorem dX11_stop_28 : decode cX11_stop 28 = .ok (.iconst 2, 1) := sorry
theorem dX11_stop_29 : decode cX11_stop 29 = .ok (.invokevirtual 151, 3) := sorry
theorem dX11_stop_32 : decode cX11_stop 32 = .ok (.ifCond .eq 5, 3) := sorry
theorem dX11_stop_35 : decode cX11_stop 35 = .ok (.iconst 0, 1) := sorry
theorem dX11_stop_36 : decode cX11_stop 36 = .ok (.ireturn, 1) := sorry
theorem dX11_stop_37 : decode cX11_stop 37 = .ok (.iconst 0, 1) := sorry
theorem dX11_stop_38 : decode cX11_stop 38 = .ok (.istore_n 3, 1) := sorry
theorem dX11_stop_39 : decode cX11_stop 39 = .ok (.iconst (-1), 1) := sorry
theorem dX11_stop_40 : decode cX11_stop 40 = .ok (.istore 4, 2) := sorry
theorem dX11_stop_42 : decode cX11_stop 42 = .ok (.iconst 0, 1) := sorry
theorem dX11_stop_43 : decode cX11_stop 43 = .ok (.istore 5, 2) := sorry
theorem dX11_stop_45 : decode cX11_stop 45 = .ok (.iload 5, 2) := sorry
theorem dX11_stop_47 : decode cX11_stop 47 = .ok (.iload_n 1, 1) := sorry
theorem dX11_stop_48 : decode cX11_stop 48 = .ok (.if_icmp .gt 61, 3) := sorry
theorem dX11_stop_51 : decode cX11_stop 51 = .ok (.aload_n 0, 1) := sorry
theorem dX11_stop_52 : decode cX11_stop 52 = .ok (.invokevirtual 219, 3) := sorry
theorem dX11_stop_55 : decode cX11_stop 55 = .ok (.aload_n 0, 1) := sorry
theorem dX11_stop_56 : decode cX11_stop 56 = .ok (.iload 5, 2) := sorry
theorem dX11_stop_58 : decode cX11_stop 58 = .ok (.invokevirtual 222, 3) := sorry
theorem dX11_stop_61 : decode cX11_stop 61 = .ok (.aload_n 0, 1) := sorry
theorem dX11_stop_62 : decode cX11_stop 62 = .ok (.iconst (-1), 1) := sorry
theorem dX11_stop_63 : decode cX11_stop 63 = .ok (.invokevirtual 183, 3) := sorry
theorem dX11_stop_66 : decode cX11_stop 66 = .ok (.aload_n 0, 1) := sorry
theorem dX11_stop_67 : decode cX11_stop 67 = .ok (.iload_n 1, 1) := sorry
theorem dX11_stop_68 : decode cX11_stop 68 = .ok (.iload 5, 2) := sorry
theorem dX11_stop_70 : decode cX11_stop 70 = .ok (.isub, 1) := sorry
theorem dX11_stop_71 : decode cX11_stop 71 = .ok (.invokevirtual 222, 3) := sorry
theorem dX11_stop_74 : decode cX11_stop 74 = .ok (.aload_n 0, 1) := sorry
theorem dX11_stop_75 : decode cX11_stop 75 = .ok (.getfield 46, 3) := sorry
theorem dX11_stop_78 : decode cX11_stop 78 = .ok (.iconst 0, 1) := sorry
theorem dX11_stop_79 : decode cX11_stop 79 = .ok (.iaload, 1) := sorry
theorem dX11_stop_80 : decode cX11_stop 80 = .ok (.istore 6, 2) := sorry
theorem dX11_stop_82 : decode cX11_stop 82 = .ok (.aload_n 0, 1) := sorry
theorem dX11_stop_83 : decode cX11_stop 83 = .ok (.invokevirtual 225, 3) := sorry
theorem dX11_stop_86 : decode cX11_stop 86 = .ok (.iload 6, 2) := sorry
theorem dX11_stop_88 : decode cX11_stop 88 = .ok (.iload 4, 2) := sorry
theorem dX11_stop_90 : decode cX11_stop 90 = .ok (.if_icmp .gt 6, 3) := sorry
theorem dX11_stop_93 : decode cX11_stop 93 = .ok (.goto 10, 3) := sorry
theorem dX11_stop_96 : decode cX11_stop 96 = .ok (.iload 5, 2) := sorry
theorem dX11_stop_98 : decode cX11_stop 98 = .ok (.istore_n 3, 1) := sorry
theorem dX11_stop_99 : decode cX11_stop 99 = .ok (.iload 6, 2) := sorry
theorem dX11_stop_101 : decode cX11_stop 101 = .ok (.istore 4, 2) := sorry
theorem dX11_stop_103 : decode cX11_stop 103 = .ok (.iinc 5 1, 3) := sorry
theorem dX11_stop_106 : decode cX11_stop 106 = .ok (.goto (-61), 3) := sorry
theorem dX11_stop_109 : decode cX11_stop 109 = .ok (.iload_n 2, 1) := sorry
theorem dX11_stop_110 : decode cX11_stop 110 = .ok (.ifCond .ne 7, 3) := sorry
theorem dX11_stop_113 : decode cX11_stop 113 = .ok (.iload_n 3, 1) := sorry
theorem dX11_stop_114 : decode cX11_stop 114 = .ok (.goto 5, 3) := sorry
theorem dX11_stop_117 : decode cX11_stop 117 = .ok (.iload 4, 2) := sorry
theorem dX11_stop_119 : decode cX11_stop 119 = .ok (.ireturn, 1) := sorry
set_option maxRecDepth 20000 in
theorem ggX11_odds_X11_in : GoodIn wsX11_odds wsX11_in := sorry
set_option maxRecDepth 20000 in
theorem gX11_odds_X11_in : GoodIn wsX11_odds (va_wsS RX11 119 yX11_in wsX11_in) := sorry
set_option maxRecDepth 20000 in
theorem ggX11_odds_X11_bad : GoodIn wsX11_odds wsX11_bad := sorry
set_option maxRecDepth 20000 in
theorem gX11_odds_X11_bad : GoodIn wsX11_odds (wsV RX11 151 RX11 yX11_bad wsX11_bad) := sorry
theorem dX11_odds_0 : decode cX11_odds 0 = .ok (.aload_n 0, 1) := sorry
theorem dX11_odds_1 : decode cX11_odds 1 = .ok (.iconst 0, 1) := sorry
theorem dX11_odds_2 : decode cX11_odds 2 = .ok (.putfield 85, 3) := sorry
theorem dX11_odds_5 : decode cX11_odds 5 = .ok (.aload_n 0, 1) := sorry
theorem dX11_odds_6 : decode cX11_odds 6 = .ok (.iload_n 1, 1) := sorry
theorem dX11_odds_7 : decode cX11_odds 7 = .ok (.iconst 1, 1) := sorry
theorem dX11_odds_8 : decode cX11_odds 8 = .ok (.bipush 99, 2) := sorry
theorem dX11_odds_10 : decode cX11_odds 10 = .ok (.invokestatic 119, 3) := sorry
theorem dX11_odds_13 : decode cX11_odds 13 = .ok (.ifCond .eq 13, 3) := sorry
theorem dX11_odds_16 : decode cX11_odds 16 = .ok (.iload_n 2, 1) := sorry
theorem dX11_odds_17 : decode cX11_odds 17 = .ok (.iconst 1, 1) := sorry
theorem dX11_odds_18 : decode cX11_odds 18 = .ok (.bipush 99, 2) := sorry
theorem dX11_odds_20 : decode cX11_odds 20 = .ok (.invokestatic 119, 3) := sorry
theorem dX11_odds_23 : decode cX11_odds 23 = .ok (.ifCond .ne 7, 3) := sorry
theorem dX11_odds_26 : decode cX11_odds 26 = .ok (.iconst 1, 1) := sorry
theorem dX11_odds_27 : decode cX11_odds 27 = .ok (.goto 4, 3) := sorry
theorem dX11_odds_30 : decode cX11_odds 30 = .ok (.iconst 0, 1) := sorry
theorem dX11_odds_31 : decode cX11_odds 31 = .ok (.iconst 1, 1) := sorry
theorem dX11_odds_32 : decode cX11_odds 32 = .ok (.iconst 2, 1) := sorry
theorem dX11_odds_33 : decode cX11_odds 33 = .ok (.invokevirtual 151, 3) := sorry
theorem dX11_odds_36 : decode cX11_odds 36 = .ok (.ifCond .eq 4, 3) := sorry
theorem dX11_odds_39 : decode cX11_odds 39 = .ok (.return_, 1) := sorry
theorem dX11_odds_40 : decode cX11_odds 40 = .ok (.aload_n 0, 1) := sorry
theorem dX11_odds_41 : decode cX11_odds 41 = .ok (.iload_n 1, 1) := sorry
theorem dX11_odds_42 : decode cX11_odds 42 = .ok (.putfield 58, 3) := sorry
theorem dX11_odds_45 : decode cX11_odds 45 = .ok (.aload_n 0, 1) := sorry
theorem dX11_odds_46 : decode cX11_odds 46 = .ok (.iload_n 2, 1) := sorry
theorem dX11_odds_47 : decode cX11_odds 47 = .ok (.putfield 61, 3) := sorry
theorem dX11_odds_50 : decode cX11_odds 50 = .ok (.aload_n 0, 1) := sorry
theorem dX11_odds_51 : decode cX11_odds 51 = .ok (.iconst 0, 1) := sorry
theorem dX11_odds_52 : decode cX11_odds 52 = .ok (.putfield 165, 3) := sorry
theorem dX11_odds_55 : decode cX11_odds 55 = .ok (.return_, 1) := sorry
set_option maxRecDepth 20000 in
theorem ggX11_kind_X11_in : GoodIn wsX11_kind wsX11_in := sorry
set_option maxRecDepth 20000 in
theorem gX11_kind_X11_in : GoodIn wsX11_kind (va_wsS RX11 119 yX11_in wsX11_in) := sorry
set_option maxRecDepth 20000 in
theorem ggX11_kind_X11_bad : GoodIn wsX11_kind wsX11_bad := sorry
set_option maxRecDepth 20000 in
theorem gX11_kind_X11_bad : GoodIn wsX11_kind (wsV RX11 151 RX11 yX11_bad wsX11_bad) := sorry
theorem dX11_kind_0 : decode cX11_kind 0 = .ok (.aload_n 0, 1) := sorry
theorem dX11_kind_1 : decode cX11_kind 1 = .ok (.iconst 0, 1) := sorry
theorem dX11_kind_2 : decode cX11_kind 2 = .ok (.putfield 85, 3) := sorry
theorem dX11_kind_5 : decode cX11_kind 5 = .ok (.aload_n 0, 1) := sorry
theorem dX11_kind_6 : decode cX11_kind 6 = .ok (.iload_n 1, 1) := sorry
theorem dX11_kind_7 : decode cX11_kind 7 = .ok (.iconst 0, 1) := sorry
theorem dX11_kind_8 : decode cX11_kind 8 = .ok (.iconst 3, 1) := sorry
theorem dX11_kind_9 : decode cX11_kind 9 = .ok (.invokestatic 119, 3) := sorry
theorem dX11_kind_12 : decode cX11_kind 12 = .ok (.ifCond .eq 23, 3) := sorry
theorem dX11_kind_15 : decode cX11_kind 15 = .ok (.iload_n 2, 1) := sorry
theorem dX11_kind_16 : decode cX11_kind 16 = .ok (.iconst 1, 1) := sorry
theorem dX11_kind_17 : decode cX11_kind 17 = .ok (.bipush 16, 2) := sorry
theorem dX11_kind_19 : decode cX11_kind 19 = .ok (.invokestatic 119, 3) := sorry
theorem dX11_kind_22 : decode cX11_kind 22 = .ok (.ifCond .eq 13, 3) := sorry
theorem dX11_kind_25 : decode cX11_kind 25 = .ok (.iload_n 3, 1) := sorry
theorem dX11_kind_26 : decode cX11_kind 26 = .ok (.iconst 1, 1) := sorry
theorem dX11_kind_27 : decode cX11_kind 27 = .ok (.bipush 16, 2) := sorry
theorem dX11_kind_29 : decode cX11_kind 29 = .ok (.invokestatic 119, 3) := sorry
theorem dX11_kind_32 : decode cX11_kind 32 = .ok (.ifCond .ne 7, 3) := sorry
theorem dX11_kind_35 : decode cX11_kind 35 = .ok (.iconst 1, 1) := sorry
theorem dX11_kind_36 : decode cX11_kind 36 = .ok (.goto 4, 3) := sorry
theorem dX11_kind_39 : decode cX11_kind 39 = .ok (.iconst 0, 1) := sorry
theorem dX11_kind_40 : decode cX11_kind 40 = .ok (.iconst 1, 1) := sorry
theorem dX11_kind_41 : decode cX11_kind 41 = .ok (.iconst 2, 1) := sorry
theorem dX11_kind_42 : decode cX11_kind 42 = .ok (.invokevirtual 151, 3) := sorry
theorem dX11_kind_45 : decode cX11_kind 45 = .ok (.ifCond .eq 4, 3) := sorry
theorem dX11_kind_48 : decode cX11_kind 48 = .ok (.return_, 1) := sorry
theorem dX11_kind_49 : decode cX11_kind 49 = .ok (.aload_n 0, 1) := sorry
theorem dX11_kind_50 : decode cX11_kind 50 = .ok (.getfield 64, 3) := sorry
theorem dX11_kind_53 : decode cX11_kind 53 = .ok (.iload_n 1, 1) := sorry
theorem dX11_kind_54 : decode cX11_kind 54 = .ok (.aaload, 1) := sorry
theorem dX11_kind_55 : decode cX11_kind 55 = .ok (.iconst 0, 1) := sorry
theorem dX11_kind_56 : decode cX11_kind 56 = .ok (.iload_n 2, 1) := sorry
theorem dX11_kind_57 : decode cX11_kind 57 = .ok (.iastore, 1) := sorry
theorem dX11_kind_58 : decode cX11_kind 58 = .ok (.aload_n 0, 1) := sorry
theorem dX11_kind_59 : decode cX11_kind 59 = .ok (.getfield 64, 3) := sorry
theorem dX11_kind_62 : decode cX11_kind 62 = .ok (.iload_n 1, 1) := sorry
theorem dX11_kind_63 : decode cX11_kind 63 = .ok (.aaload, 1) := sorry
theorem dX11_kind_64 : decode cX11_kind 64 = .ok (.iconst 1, 1) := sorry
theorem dX11_kind_65 : decode cX11_kind 65 = .ok (.iload_n 3, 1) := sorry
theorem dX11_kind_66 : decode cX11_kind 66 = .ok (.iastore, 1) := sorry
theorem dX11_kind_67 : decode cX11_kind 67 = .ok (.return_, 1) := sorry
theorem dX11_isSeen_0 : decode cX11_isSeen 0 = .ok (.aload_n 0, 1) := sorry
theorem dX11_isSeen_1 : decode cX11_isSeen 1 = .ok (.getfield 165, 3) := sorry
theorem dX11_isSeen_4 : decode cX11_isSeen 4 = .ok (.bipush 12, 2) := sorry
theorem dX11_isSeen_6 : decode cX11_isSeen 6 = .ok (.if_icmp .ne 5, 3) := sorry
theorem dX11_isSeen_9 : decode cX11_isSeen 9 = .ok (.iconst (-1), 1) := sorry
theorem dX11_isSeen_10 : decode cX11_isSeen 10 = .ok (.ireturn, 1) := sorry
theorem dX11_isSeen_11 : decode cX11_isSeen 11 = .ok (.aload_n 0, 1) := sorry
theorem dX11_isSeen_12 : decode cX11_isSeen 12 = .ok (.getfield 67, 3) := sorry
theorem dX11_isSeen_15 : decode cX11_isSeen 15 = .ok (.aload_n 0, 1) := sorry
theorem dX11_isSeen_16 : decode cX11_isSeen 16 = .ok (.getfield 165, 3) := sorry
theorem dX11_isSeen_19 : decode cX11_isSeen 19 = .ok (.aaload, 1) := sorry
theorem dX11_isSeen_20 : decode cX11_isSeen 20 = .ok (.iconst 0, 1) := sorry
theorem dX11_isSeen_21 : decode cX11_isSeen 21 = .ok (.iload_n 1, 1) := sorry
theorem dX11_isSeen_22 : decode cX11_isSeen 22 = .ok (.iastore, 1) := sorry
theorem dX11_isSeen_23 : decode cX11_isSeen 23 = .ok (.aload_n 0, 1) := sorry
theorem dX11_isSeen_24 : decode cX11_isSeen 24 = .ok (.getfield 67, 3) := sorry
theorem dX11_isSeen_27 : decode cX11_isSeen 27 = .ok (.aload_n 0, 1) := sorry
theorem dX11_isSeen_28 : decode cX11_isSeen 28 = .ok (.getfield 165, 3) := sorry
theorem dX11_isSeen_31 : decode cX11_isSeen 31 = .ok (.aaload, 1) := sorry
theorem dX11_isSeen_32 : decode cX11_isSeen 32 = .ok (.iconst 1, 1) := sorry
theorem dX11_isSeen_33 : decode cX11_isSeen 33 = .ok (.iload_n 2, 1) := sorry
theorem dX11_isSeen_34 : decode cX11_isSeen 34 = .ok (.iastore, 1) := sorry
theorem dX11_isSeen_35 : decode cX11_isSeen 35 = .ok (.aload_n 0, 1) := sorry
theorem dX11_isSeen_36 : decode cX11_isSeen 36 = .ok (.dup, 1) := sorry
theorem dX11_isSeen_37 : decode cX11_isSeen 37 = .ok (.getfield 165, 3) := sorry
theorem dX11_isSeen_40 : decode cX11_isSeen 40 = .ok (.iconst 1, 1) := sorry
theorem dX11_isSeen_41 : decode cX11_isSeen 41 = .ok (.iadd, 1) := sorry
theorem dX11_isSeen_42 : decode cX11_isSeen 42 = .ok (.putfield 165, 3) := sorry
theorem dX11_isSeen_45 : decode cX11_isSeen 45 = .ok (.aload_n 0, 1) := sorry
theorem dX11_isSeen_46 : decode cX11_isSeen 46 = .ok (.getfield 165, 3) := sorry
theorem dX11_isSeen_49 : decode cX11_isSeen 49 = .ok (.ireturn, 1) := sorry
set_option maxRecDepth 20000 in
theorem ggX11_seen_X11_in : GoodIn wsX11_seen wsX11_in := sorry
set_option maxRecDepth 20000 in
theorem gX11_seen_X11_in : GoodIn wsX11_seen (va_wsS RX11 119 yX11_in wsX11_in) := sorry
set_option maxRecDepth 20000 in
theorem ggX11_seen_X11_bad : GoodIn wsX11_seen wsX11_bad := sorry
set_option maxRecDepth 20000 in
theorem gX11_seen_X11_bad : GoodIn wsX11_seen (wsV RX11 151 RX11 yX11_bad wsX11_bad) := sorry
set_option maxRecDepth 20000 in
theorem ggX11_seen_X11_isSeen : GoodIn wsX11_seen wsX11_isSeen := sorry
set_option maxRecDepth 20000 in
theorem gX11_seen_X11_isSeen : GoodIn wsX11_seen (wsV RX11 238 RX11 yX11_isSeen wsX11_isSeen) := sorry
theorem dX11_seen_0 : decode cX11_seen 0 = .ok (.aload_n 0, 1) := sorry
theorem dX11_seen_1 : decode cX11_seen 1 = .ok (.iconst 0, 1) := sorry
theorem dX11_seen_2 : decode cX11_seen 2 = .ok (.putfield 85, 3) := sorry
theorem dX11_seen_5 : decode cX11_seen 5 = .ok (.aload_n 0, 1) := sorry
theorem dX11_seen_6 : decode cX11_seen 6 = .ok (.iload_n 1, 1) := sorry
theorem dX11_seen_7 : decode cX11_seen 7 = .ok (.iconst 0, 1) := sorry
theorem dX11_seen_8 : decode cX11_seen 8 = .ok (.iconst 3, 1) := sorry
theorem dX11_seen_9 : decode cX11_seen 9 = .ok (.invokestatic 119, 3) := sorry
theorem dX11_seen_12 : decode cX11_seen 12 = .ok (.ifCond .ne 7, 3) := sorry
theorem dX11_seen_15 : decode cX11_seen 15 = .ok (.iconst 1, 1) := sorry
theorem dX11_seen_16 : decode cX11_seen 16 = .ok (.goto 4, 3) := sorry
theorem dX11_seen_19 : decode cX11_seen 19 = .ok (.iconst 0, 1) := sorry
theorem dX11_seen_20 : decode cX11_seen 20 = .ok (.iconst 1, 1) := sorry
theorem dX11_seen_21 : decode cX11_seen 21 = .ok (.iconst 2, 1) := sorry
theorem dX11_seen_22 : decode cX11_seen 22 = .ok (.invokevirtual 151, 3) := sorry
theorem dX11_seen_25 : decode cX11_seen 25 = .ok (.ifCond .eq 5, 3) := sorry
theorem dX11_seen_28 : decode cX11_seen 28 = .ok (.iconst 0, 1) := sorry
theorem dX11_seen_29 : decode cX11_seen 29 = .ok (.ireturn, 1) := sorry
theorem dX11_seen_30 : decode cX11_seen 30 = .ok (.aload_n 0, 1) := sorry
theorem dX11_seen_31 : decode cX11_seen 31 = .ok (.aload_n 0, 1) := sorry
theorem dX11_seen_32 : decode cX11_seen 32 = .ok (.getfield 64, 3) := sorry
theorem dX11_seen_35 : decode cX11_seen 35 = .ok (.iload_n 1, 1) := sorry
theorem dX11_seen_36 : decode cX11_seen 36 = .ok (.aaload, 1) := sorry
theorem dX11_seen_37 : decode cX11_seen 37 = .ok (.iconst 0, 1) := sorry
theorem dX11_seen_38 : decode cX11_seen 38 = .ok (.iaload, 1) := sorry
theorem dX11_seen_39 : decode cX11_seen 39 = .ok (.aload_n 0, 1) := sorry
theorem dX11_seen_40 : decode cX11_seen 40 = .ok (.getfield 64, 3) := sorry
theorem dX11_seen_43 : decode cX11_seen 43 = .ok (.iload_n 1, 1) := sorry
theorem dX11_seen_44 : decode cX11_seen 44 = .ok (.aaload, 1) := sorry
theorem dX11_seen_45 : decode cX11_seen 45 = .ok (.iconst 1, 1) := sorry
theorem dX11_seen_46 : decode cX11_seen 46 = .ok (.iaload, 1) := sorry
theorem dX11_seen_47 : decode cX11_seen 47 = .ok (.invokevirtual 238, 3) := sorry
theorem dX11_seen_50 : decode cX11_seen 50 = .ok (.ireturn, 1) := sorry
set_option maxRecDepth 20000 in
theorem ggX11_spy_X11_in : GoodIn wsX11_spy wsX11_in := sorry
set_option maxRecDepth 20000 in
theorem gX11_spy_X11_in : GoodIn wsX11_spy (va_wsS RX11 119 yX11_in wsX11_in) := sorry
set_option maxRecDepth 20000 in
theorem ggX11_spy_X11_bad : GoodIn wsX11_spy wsX11_bad := sorry
set_option maxRecDepth 20000 in
theorem gX11_spy_X11_bad : GoodIn wsX11_spy (wsV RX11 151 RX11 yX11_bad wsX11_bad) := sorry
set_option maxRecDepth 20000 in
theorem ggX11_spy_X11_isSeen : GoodIn wsX11_spy wsX11_isSeen := sorry
set_option maxRecDepth 20000 in
theorem gX11_spy_X11_isSeen : GoodIn wsX11_spy (wsV RX11 238 RX11 yX11_isSeen wsX11_isSeen) := sorry
theorem dX11_spy_0 : decode cX11_spy 0 = .ok (.aload_n 0, 1) := sorry
theorem dX11_spy_1 : decode cX11_spy 1 = .ok (.iconst 0, 1) := sorry
theorem dX11_spy_2 : decode cX11_spy 2 = .ok (.putfield 85, 3) := sorry
theorem dX11_spy_5 : decode cX11_spy 5 = .ok (.aload_n 0, 1) := sorry
theorem dX11_spy_6 : decode cX11_spy 6 = .ok (.iload_n 2, 1) := sorry
theorem dX11_spy_7 : decode cX11_spy 7 = .ok (.iconst 1, 1) := sorry
theorem dX11_spy_8 : decode cX11_spy 8 = .ok (.bipush 15, 2) := sorry
theorem dX11_spy_10 : decode cX11_spy 10 = .ok (.invokestatic 119, 3) := sorry
theorem dX11_spy_13 : decode cX11_spy 13 = .ok (.ifCond .ne 7, 3) := sorry
theorem dX11_spy_16 : decode cX11_spy 16 = .ok (.iconst 1, 1) := sorry
theorem dX11_spy_17 : decode cX11_spy 17 = .ok (.goto 4, 3) := sorry
theorem dX11_spy_20 : decode cX11_spy 20 = .ok (.iconst 0, 1) := sorry
theorem dX11_spy_21 : decode cX11_spy 21 = .ok (.iconst 1, 1) := sorry
theorem dX11_spy_22 : decode cX11_spy 22 = .ok (.iconst 2, 1) := sorry
theorem dX11_spy_23 : decode cX11_spy 23 = .ok (.invokevirtual 151, 3) := sorry
theorem dX11_spy_26 : decode cX11_spy 26 = .ok (.ifCond .eq 5, 3) := sorry
theorem dX11_spy_29 : decode cX11_spy 29 = .ok (.iconst 0, 1) := sorry
theorem dX11_spy_30 : decode cX11_spy 30 = .ok (.ireturn, 1) := sorry
theorem dX11_spy_31 : decode cX11_spy 31 = .ok (.aload_n 0, 1) := sorry
theorem dX11_spy_32 : decode cX11_spy 32 = .ok (.iload_n 1, 1) := sorry
theorem dX11_spy_33 : decode cX11_spy 33 = .ok (.ifCond .eq 7, 3) := sorry
theorem dX11_spy_36 : decode cX11_spy 36 = .ok (.iload_n 2, 1) := sorry
theorem dX11_spy_37 : decode cX11_spy 37 = .ok (.goto 7, 3) := sorry
theorem dX11_spy_40 : decode cX11_spy 40 = .ok (.bipush 16, 2) := sorry
theorem dX11_spy_42 : decode cX11_spy 42 = .ok (.iload_n 2, 1) := sorry
theorem dX11_spy_43 : decode cX11_spy 43 = .ok (.isub, 1) := sorry
theorem dX11_spy_44 : decode cX11_spy 44 = .ok (.iload_n 1, 1) := sorry
theorem dX11_spy_45 : decode cX11_spy 45 = .ok (.ifCond .eq 10, 3) := sorry
theorem dX11_spy_48 : decode cX11_spy 48 = .ok (.bipush 16, 2) := sorry
theorem dX11_spy_50 : decode cX11_spy 50 = .ok (.iload_n 2, 1) := sorry
theorem dX11_spy_51 : decode cX11_spy 51 = .ok (.isub, 1) := sorry
theorem dX11_spy_52 : decode cX11_spy 52 = .ok (.goto 4, 3) := sorry
theorem dX11_spy_55 : decode cX11_spy 55 = .ok (.iload_n 2, 1) := sorry
theorem dX11_spy_56 : decode cX11_spy 56 = .ok (.invokevirtual 238, 3) := sorry
theorem dX11_spy_59 : decode cX11_spy 59 = .ok (.ireturn, 1) := sorry
set_option maxRecDepth 20000 in
theorem ggX11_believed_X11_in : GoodIn wsX11_believed wsX11_in := sorry
set_option maxRecDepth 20000 in
theorem gX11_believed_X11_in : GoodIn wsX11_believed (va_wsS RX11 119 yX11_in wsX11_in) := sorry
set_option maxRecDepth 20000 in
theorem ggX11_believed_X11_bad : GoodIn wsX11_believed wsX11_bad := sorry
set_option maxRecDepth 20000 in
theorem gX11_believed_X11_bad : GoodIn wsX11_believed (wsV RX11 151 RX11 yX11_bad wsX11_bad) := sorry
theorem dX11_believed_0 : decode cX11_believed 0 = .ok (.aload_n 0, 1) := sorry
theorem dX11_believed_1 : decode cX11_believed 1 = .ok (.iconst 0, 1) := sorry
theorem dX11_believed_2 : decode cX11_believed 2 = .ok (.putfield 85, 3) := sorry
theorem dX11_believed_5 : decode cX11_believed 5 = .ok (.aload_n 0, 1) := sorry
theorem dX11_believed_6 : decode cX11_believed 6 = .ok (.iload_n 1, 1) := sorry
theorem dX11_believed_7 : decode cX11_believed 7 = .ok (.iconst 0, 1) := sorry
theorem dX11_believed_8 : decode cX11_believed 8 = .ok (.iconst 1, 1) := sorry
theorem dX11_believed_9 : decode cX11_believed 9 = .ok (.invokestatic 119, 3) := sorry
theorem dX11_believed_12 : decode cX11_believed 12 = .ok (.ifCond .ne 7, 3) := sorry
theorem dX11_believed_15 : decode cX11_believed 15 = .ok (.iconst 1, 1) := sorry
theorem dX11_believed_16 : decode cX11_believed 16 = .ok (.goto 4, 3) := sorry
theorem dX11_believed_19 : decode cX11_believed 19 = .ok (.iconst 0, 1) := sorry
theorem dX11_believed_20 : decode cX11_believed 20 = .ok (.iconst 1, 1) := sorry
theorem dX11_believed_21 : decode cX11_believed 21 = .ok (.iconst 2, 1) := sorry
theorem dX11_believed_22 : decode cX11_believed 22 = .ok (.invokevirtual 151, 3) := sorry
theorem dX11_believed_25 : decode cX11_believed 25 = .ok (.ifCond .eq 5, 3) := sorry
theorem dX11_believed_28 : decode cX11_believed 28 = .ok (.lconst 0, 1) := sorry
theorem dX11_believed_29 : decode cX11_believed 29 = .ok (.lreturn, 1) := sorry
theorem dX11_believed_30 : decode cX11_believed 30 = .ok (.aload_n 0, 1) := sorry
theorem dX11_believed_31 : decode cX11_believed 31 = .ok (.getfield 58, 3) := sorry
theorem dX11_believed_34 : decode cX11_believed 34 = .ok (.i2l, 1) := sorry
theorem dX11_believed_35 : decode cX11_believed 35 = .ok (.lstore_n 2, 1) := sorry
theorem dX11_believed_36 : decode cX11_believed 36 = .ok (.aload_n 0, 1) := sorry
theorem dX11_believed_37 : decode cX11_believed 37 = .ok (.getfield 61, 3) := sorry
theorem dX11_believed_40 : decode cX11_believed 40 = .ok (.i2l, 1) := sorry
theorem dX11_believed_41 : decode cX11_believed 41 = .ok (.lstore 4, 2) := sorry
theorem dX11_believed_43 : decode cX11_believed 43 = .ok (.iconst 0, 1) := sorry
theorem dX11_believed_44 : decode cX11_believed 44 = .ok (.istore 6, 2) := sorry
theorem dX11_believed_46 : decode cX11_believed 46 = .ok (.iload 6, 2) := sorry
theorem dX11_believed_48 : decode cX11_believed 48 = .ok (.aload_n 0, 1) := sorry
theorem dX11_believed_49 : decode cX11_believed 49 = .ok (.getfield 165, 3) := sorry
theorem dX11_believed_52 : decode cX11_believed 52 = .ok (.if_icmp .ge 37, 3) := sorry
theorem dX11_believed_55 : decode cX11_believed 55 = .ok (.lload_n 2, 1) := sorry
theorem dX11_believed_56 : decode cX11_believed 56 = .ok (.aload_n 0, 1) := sorry
theorem dX11_believed_57 : decode cX11_believed 57 = .ok (.getfield 67, 3) := sorry
theorem dX11_believed_60 : decode cX11_believed 60 = .ok (.iload 6, 2) := sorry
theorem dX11_believed_62 : decode cX11_believed 62 = .ok (.aaload, 1) := sorry
theorem dX11_believed_63 : decode cX11_believed 63 = .ok (.iconst 0, 1) := sorry
theorem dX11_believed_64 : decode cX11_believed 64 = .ok (.iaload, 1) := sorry
theorem dX11_believed_65 : decode cX11_believed 65 = .ok (.i2l, 1) := sorry
theorem dX11_believed_66 : decode cX11_believed 66 = .ok (.lmul, 1) := sorry
theorem dX11_believed_67 : decode cX11_believed 67 = .ok (.lstore_n 2, 1) := sorry
theorem dX11_believed_68 : decode cX11_believed 68 = .ok (.lload 4, 2) := sorry
theorem dX11_believed_70 : decode cX11_believed 70 = .ok (.aload_n 0, 1) := sorry
theorem dX11_believed_71 : decode cX11_believed 71 = .ok (.getfield 67, 3) := sorry
theorem dX11_believed_74 : decode cX11_believed 74 = .ok (.iload 6, 2) := sorry
theorem dX11_believed_76 : decode cX11_believed 76 = .ok (.aaload, 1) := sorry
theorem dX11_believed_77 : decode cX11_believed 77 = .ok (.iconst 1, 1) := sorry
theorem dX11_believed_78 : decode cX11_believed 78 = .ok (.iaload, 1) := sorry
theorem dX11_believed_79 : decode cX11_believed 79 = .ok (.i2l, 1) := sorry
theorem dX11_believed_80 : decode cX11_believed 80 = .ok (.lmul, 1) := sorry
theorem dX11_believed_81 : decode cX11_believed 81 = .ok (.lstore 4, 2) := sorry
theorem dX11_believed_83 : decode cX11_believed 83 = .ok (.iinc 6 1, 3) := sorry
theorem dX11_believed_86 : decode cX11_believed 86 = .ok (.goto (-40), 3) := sorry
theorem dX11_believed_89 : decode cX11_believed 89 = .ok (.lload_n 2, 1) := sorry
theorem dX11_believed_90 : decode cX11_believed 90 = .ok (.lstore 6, 2) := sorry
theorem dX11_believed_92 : decode cX11_believed 92 = .ok (.lload 4, 2) := sorry
theorem dX11_believed_94 : decode cX11_believed 94 = .ok (.lstore 8, 2) := sorry
theorem dX11_believed_96 : decode cX11_believed 96 = .ok (.lload 8, 2) := sorry
theorem dX11_believed_98 : decode cX11_believed 98 = .ok (.lconst 0, 1) := sorry
theorem dX11_believed_99 : decode cX11_believed 99 = .ok (.lcmp, 1) := sorry
theorem dX11_believed_100 : decode cX11_believed 100 = .ok (.ifCond .eq 21, 3) := sorry
theorem dX11_believed_103 : decode cX11_believed 103 = .ok (.lload 6, 2) := sorry
theorem dX11_believed_105 : decode cX11_believed 105 = .ok (.lload 8, 2) := sorry
theorem dX11_believed_107 : decode cX11_believed 107 = .ok (.lrem, 1) := sorry
theorem dX11_believed_108 : decode cX11_believed 108 = .ok (.lstore 10, 2) := sorry
theorem dX11_believed_110 : decode cX11_believed 110 = .ok (.lload 8, 2) := sorry
theorem dX11_believed_112 : decode cX11_believed 112 = .ok (.lstore 6, 2) := sorry
theorem dX11_believed_114 : decode cX11_believed 114 = .ok (.lload 10, 2) := sorry
theorem dX11_believed_116 : decode cX11_believed 116 = .ok (.lstore 8, 2) := sorry
theorem dX11_believed_118 : decode cX11_believed 118 = .ok (.goto (-22), 3) := sorry
theorem dX11_believed_121 : decode cX11_believed 121 = .ok (.iload_n 1, 1) := sorry
theorem dX11_believed_122 : decode cX11_believed 122 = .ok (.ifCond .ne 10, 3) := sorry
theorem dX11_believed_125 : decode cX11_believed 125 = .ok (.lload_n 2, 1) := sorry
theorem dX11_believed_126 : decode cX11_believed 126 = .ok (.lload 6, 2) := sorry
theorem dX11_believed_128 : decode cX11_believed 128 = .ok (.ldiv, 1) := sorry
theorem dX11_believed_129 : decode cX11_believed 129 = .ok (.goto 8, 3) := sorry
theorem dX11_believed_132 : decode cX11_believed 132 = .ok (.lload 4, 2) := sorry
theorem dX11_believed_134 : decode cX11_believed 134 = .ok (.lload 6, 2) := sorry
theorem dX11_believed_136 : decode cX11_believed 136 = .ok (.ldiv, 1) := sorry
theorem dX11_believed_137 : decode cX11_believed 137 = .ok (.lreturn, 1) := sorry
theorem dX11_digit_0 : decode cX11_digit 0 = .ok (.iload_n 1, 1) := sorry
theorem dX11_digit_1 : decode cX11_digit 1 = .ok (.ifCond .ne 10, 3) := sorry
theorem dX11_digit_4 : decode cX11_digit 4 = .ok (.iload_n 0, 1) := sorry
theorem dX11_digit_5 : decode cX11_digit 5 = .ok (.bipush 49, 2) := sorry
theorem dX11_digit_7 : decode cX11_digit 7 = .ok (.idiv, 1) := sorry
theorem dX11_digit_8 : decode cX11_digit 8 = .ok (.goto 22, 3) := sorry
theorem dX11_digit_11 : decode cX11_digit 11 = .ok (.iload_n 1, 1) := sorry
theorem dX11_digit_12 : decode cX11_digit 12 = .ok (.iconst 1, 1) := sorry
theorem dX11_digit_13 : decode cX11_digit 13 = .ok (.if_icmp .ne 13, 3) := sorry
theorem dX11_digit_16 : decode cX11_digit 16 = .ok (.iload_n 0, 1) := sorry
theorem dX11_digit_17 : decode cX11_digit 17 = .ok (.bipush 7, 2) := sorry
theorem dX11_digit_19 : decode cX11_digit 19 = .ok (.idiv, 1) := sorry
theorem dX11_digit_20 : decode cX11_digit 20 = .ok (.bipush 7, 2) := sorry
theorem dX11_digit_22 : decode cX11_digit 22 = .ok (.irem, 1) := sorry
theorem dX11_digit_23 : decode cX11_digit 23 = .ok (.goto 7, 3) := sorry
theorem dX11_digit_26 : decode cX11_digit 26 = .ok (.iload_n 0, 1) := sorry
theorem dX11_digit_27 : decode cX11_digit 27 = .ok (.bipush 7, 2) := sorry
theorem dX11_digit_29 : decode cX11_digit 29 = .ok (.irem, 1) := sorry
theorem dX11_digit_30 : decode cX11_digit 30 = .ok (.ireturn, 1) := sorry
set_option maxRecDepth 20000 in
theorem ggX11_puts0_X11_digit : GoodIn wsX11_puts0 wsX11_digit := sorry
set_option maxRecDepth 20000 in
theorem gX11_puts0_X11_digit : GoodIn wsX11_puts0 (va_wsS RX11 241 yX11_digit wsX11_digit) := sorry
theorem dX11_puts0_0 : decode cX11_puts0 0 = .ok (.iconst 0, 1) := sorry
theorem dX11_puts0_1 : decode cX11_puts0 1 = .ok (.istore_n 3, 1) := sorry
theorem dX11_puts0_2 : decode cX11_puts0 2 = .ok (.iconst 0, 1) := sorry
theorem dX11_puts0_3 : decode cX11_puts0 3 = .ok (.istore 4, 2) := sorry
theorem dX11_puts0_5 : decode cX11_puts0 5 = .ok (.iload 4, 2) := sorry
theorem dX11_puts0_7 : decode cX11_puts0 7 = .ok (.iconst 3, 1) := sorry
theorem dX11_puts0_8 : decode cX11_puts0 8 = .ok (.if_icmp .ge 38, 3) := sorry
theorem dX11_puts0_11 : decode cX11_puts0 11 = .ok (.iload_n 2, 1) := sorry
theorem dX11_puts0_12 : decode cX11_puts0 12 = .ok (.iload 4, 2) := sorry
theorem dX11_puts0_14 : decode cX11_puts0 14 = .ok (.ishr, 1) := sorry
theorem dX11_puts0_15 : decode cX11_puts0 15 = .ok (.iconst 1, 1) := sorry
theorem dX11_puts0_16 : decode cX11_puts0 16 = .ok (.iand, 1) := sorry
theorem dX11_puts0_17 : decode cX11_puts0 17 = .ok (.ifCond .ne 14, 3) := sorry
theorem dX11_puts0_20 : decode cX11_puts0 20 = .ok (.iload_n 0, 1) := sorry
theorem dX11_puts0_21 : decode cX11_puts0 21 = .ok (.iload 4, 2) := sorry
theorem dX11_puts0_23 : decode cX11_puts0 23 = .ok (.invokestatic 241, 3) := sorry
theorem dX11_puts0_26 : decode cX11_puts0 26 = .ok (.ifCond .le 5, 3) := sorry
theorem dX11_puts0_29 : decode cX11_puts0 29 = .ok (.iconst 0, 1) := sorry
theorem dX11_puts0_30 : decode cX11_puts0 30 = .ok (.ireturn, 1) := sorry
theorem dX11_puts0_31 : decode cX11_puts0 31 = .ok (.iload_n 3, 1) := sorry
theorem dX11_puts0_32 : decode cX11_puts0 32 = .ok (.iload_n 0, 1) := sorry
theorem dX11_puts0_33 : decode cX11_puts0 33 = .ok (.iload 4, 2) := sorry
theorem dX11_puts0_35 : decode cX11_puts0 35 = .ok (.invokestatic 241, 3) := sorry
theorem dX11_puts0_38 : decode cX11_puts0 38 = .ok (.iadd, 1) := sorry
theorem dX11_puts0_39 : decode cX11_puts0 39 = .ok (.istore_n 3, 1) := sorry
theorem dX11_puts0_40 : decode cX11_puts0 40 = .ok (.iinc 4 1, 3) := sorry
theorem dX11_puts0_43 : decode cX11_puts0 43 = .ok (.goto (-38), 3) := sorry
theorem dX11_puts0_46 : decode cX11_puts0 46 = .ok (.iload_n 3, 1) := sorry
theorem dX11_puts0_47 : decode cX11_puts0 47 = .ok (.iload_n 1, 1) := sorry
theorem dX11_puts0_48 : decode cX11_puts0 48 = .ok (.if_icmp .eq 7, 3) := sorry
theorem dX11_puts0_51 : decode cX11_puts0 51 = .ok (.iload_n 2, 1) := sorry
theorem dX11_puts0_52 : decode cX11_puts0 52 = .ok (.ifCond .ne 7, 3) := sorry
theorem dX11_puts0_55 : decode cX11_puts0 55 = .ok (.iconst 1, 1) := sorry
theorem dX11_puts0_56 : decode cX11_puts0 56 = .ok (.goto 4, 3) := sorry
theorem dX11_puts0_59 : decode cX11_puts0 59 = .ok (.iconst 0, 1) := sorry
theorem dX11_puts0_60 : decode cX11_puts0 60 = .ok (.ireturn, 1) := sorry
set_option maxRecDepth 20000 in
theorem ggX11_falls_X11_digit : GoodIn wsX11_falls wsX11_digit := sorry
set_option maxRecDepth 20000 in
theorem gX11_falls_X11_digit : GoodIn wsX11_falls (va_wsS RX11 241 yX11_digit wsX11_digit) := sorry
theorem dX11_falls_0 : decode cX11_falls 0 = .ok (.iconst 0, 1) := sorry
theorem dX11_falls_1 : decode cX11_falls 1 = .ok (.istore 4, 2) := sorry
theorem dX11_falls_3 : decode cX11_falls 3 = .ok (.iconst 0, 1) := sorry
theorem dX11_falls_4 : decode cX11_falls 4 = .ok (.istore 5, 2) := sorry
theorem dX11_falls_6 : decode cX11_falls 6 = .ok (.iload 5, 2) := sorry
theorem dX11_falls_8 : decode cX11_falls 8 = .ok (.iconst 3, 1) := sorry
theorem dX11_falls_9 : decode cX11_falls 9 = .ok (.if_icmp .ge 61, 3) := sorry
theorem dX11_falls_12 : decode cX11_falls 12 = .ok (.iload_n 3, 1) := sorry
theorem dX11_falls_13 : decode cX11_falls 13 = .ok (.iload 5, 2) := sorry
theorem dX11_falls_15 : decode cX11_falls 15 = .ok (.ishr, 1) := sorry
theorem dX11_falls_16 : decode cX11_falls 16 = .ok (.iconst 1, 1) := sorry
theorem dX11_falls_17 : decode cX11_falls 17 = .ok (.iand, 1) := sorry
theorem dX11_falls_18 : decode cX11_falls 18 = .ok (.iconst 1, 1) := sorry
theorem dX11_falls_19 : decode cX11_falls 19 = .ok (.if_icmp .ne 45, 3) := sorry
theorem dX11_falls_22 : decode cX11_falls 22 = .ok (.iload_n 1, 1) := sorry
theorem dX11_falls_23 : decode cX11_falls 23 = .ok (.iload 5, 2) := sorry
theorem dX11_falls_25 : decode cX11_falls 25 = .ok (.invokestatic 241, 3) := sorry
theorem dX11_falls_28 : decode cX11_falls 28 = .ok (.iload_n 2, 1) := sorry
theorem dX11_falls_29 : decode cX11_falls 29 = .ok (.iload 5, 2) := sorry
theorem dX11_falls_31 : decode cX11_falls 31 = .ok (.invokestatic 241, 3) := sorry
theorem dX11_falls_34 : decode cX11_falls 34 = .ok (.aload_n 0, 1) := sorry
theorem dX11_falls_35 : decode cX11_falls 35 = .ok (.getfield 31, 3) := sorry
theorem dX11_falls_38 : decode cX11_falls 38 = .ok (.iload 5, 2) := sorry
theorem dX11_falls_40 : decode cX11_falls 40 = .ok (.aaload, 1) := sorry
theorem dX11_falls_41 : decode cX11_falls 41 = .ok (.iconst 0, 1) := sorry
theorem dX11_falls_42 : decode cX11_falls 42 = .ok (.iaload, 1) := sorry
theorem dX11_falls_43 : decode cX11_falls 43 = .ok (.bipush 25, 2) := sorry
theorem dX11_falls_45 : decode cX11_falls 45 = .ok (.idiv, 1) := sorry
theorem dX11_falls_46 : decode cX11_falls 46 = .ok (.iadd, 1) := sorry
theorem dX11_falls_47 : decode cX11_falls 47 = .ok (.if_icmp .le 17, 3) := sorry
theorem dX11_falls_50 : decode cX11_falls 50 = .ok (.iload 4, 2) := sorry
theorem dX11_falls_52 : decode cX11_falls 52 = .ok (.aload_n 0, 1) := sorry
theorem dX11_falls_53 : decode cX11_falls 53 = .ok (.getfield 31, 3) := sorry
theorem dX11_falls_56 : decode cX11_falls 56 = .ok (.iload 5, 2) := sorry
theorem dX11_falls_58 : decode cX11_falls 58 = .ok (.aaload, 1) := sorry
theorem dX11_falls_59 : decode cX11_falls 59 = .ok (.iconst 0, 1) := sorry
theorem dX11_falls_60 : decode cX11_falls 60 = .ok (.iaload, 1) := sorry
theorem dX11_falls_61 : decode cX11_falls 61 = .ok (.iadd, 1) := sorry
theorem dX11_falls_62 : decode cX11_falls 62 = .ok (.istore 4, 2) := sorry
theorem dX11_falls_64 : decode cX11_falls 64 = .ok (.iinc 5 1, 3) := sorry
theorem dX11_falls_67 : decode cX11_falls 67 = .ok (.goto (-61), 3) := sorry
theorem dX11_falls_70 : decode cX11_falls 70 = .ok (.iload 4, 2) := sorry
theorem dX11_falls_72 : decode cX11_falls 72 = .ok (.ireturn, 1) := sorry
set_option maxRecDepth 20000 in
theorem ggX11_firstWalls_X11_less : GoodIn wsX11_firstWalls wsX11_less := sorry
set_option maxRecDepth 20000 in
theorem gX11_firstWalls_X11_less : GoodIn wsX11_firstWalls (va_wsS RX11 186 yX11_less wsX11_less) := sorry
theorem dX11_firstWalls_0 : decode cX11_firstWalls 0 = .ok (.iconst 1, 1) := sorry
theorem dX11_firstWalls_1 : decode cX11_firstWalls 1 = .ok (.iconst 3, 1) := sorry
theorem dX11_firstWalls_2 : decode cX11_firstWalls 2 = .ok (.aload_n 0, 1) := sorry
theorem dX11_firstWalls_3 : decode cX11_firstWalls 3 = .ok (.getfield 23, 3) := sorry
theorem dX11_firstWalls_6 : decode cX11_firstWalls 6 = .ok (.iconst 0, 1) := sorry
theorem dX11_firstWalls_7 : decode cX11_firstWalls 7 = .ok (.iaload, 1) := sorry
theorem dX11_firstWalls_8 : decode cX11_firstWalls 8 = .ok (.invokestatic 186, 3) := sorry
theorem dX11_firstWalls_11 : decode cX11_firstWalls 11 = .ok (.ishl, 1) := sorry
theorem dX11_firstWalls_12 : decode cX11_firstWalls 12 = .ok (.iconst 1, 1) := sorry
theorem dX11_firstWalls_13 : decode cX11_firstWalls 13 = .ok (.isub, 1) := sorry
theorem dX11_firstWalls_14 : decode cX11_firstWalls 14 = .ok (.ireturn, 1) := sorry
set_option maxRecDepth 20000 in
theorem ggX11_safeBy_X11_puts0 : GoodIn wsX11_safeBy wsX11_puts0 := sorry
set_option maxRecDepth 20000 in
theorem gX11_safeBy_X11_puts0 : GoodIn wsX11_safeBy (va_wsS RX11 247 yX11_puts0 wsX11_puts0) := sorry
set_option maxRecDepth 20000 in
theorem ggX11_safeBy_X11_falls : GoodIn wsX11_safeBy wsX11_falls := sorry
set_option maxRecDepth 20000 in
theorem gX11_safeBy_X11_falls : GoodIn wsX11_safeBy (wsV RX11 250 RX11 yX11_falls wsX11_falls) := sorry
theorem dX11_safeBy_0 : decode cX11_safeBy 0 = .ok (.iconst (-1), 1) := sorry
theorem dX11_safeBy_1 : decode cX11_safeBy 1 = .ok (.istore 4, 2) := sorry
theorem dX11_safeBy_3 : decode cX11_safeBy 3 = .ok (.aload_n 0, 1) := sorry
theorem dX11_safeBy_4 : decode cX11_safeBy 4 = .ok (.iconst 0, 1) := sorry
theorem dX11_safeBy_5 : decode cX11_safeBy 5 = .ok (.putfield 244, 3) := sorry
theorem dX11_safeBy_8 : decode cX11_safeBy 8 = .ok (.iconst 0, 1) := sorry
theorem dX11_safeBy_9 : decode cX11_safeBy 9 = .ok (.istore 5, 2) := sorry
theorem dX11_safeBy_11 : decode cX11_safeBy 11 = .ok (.iload 5, 2) := sorry
theorem dX11_safeBy_13 : decode cX11_safeBy 13 = .ok (.sipush 343, 3) := sorry
theorem dX11_safeBy_16 : decode cX11_safeBy 16 = .ok (.if_icmp .ge 108, 3) := sorry
theorem dX11_safeBy_19 : decode cX11_safeBy 19 = .ok (.iload 5, 2) := sorry
theorem dX11_safeBy_21 : decode cX11_safeBy 21 = .ok (.iload_n 2, 1) := sorry
theorem dX11_safeBy_22 : decode cX11_safeBy 22 = .ok (.iload_n 3, 1) := sorry
theorem dX11_safeBy_23 : decode cX11_safeBy 23 = .ok (.invokestatic 247, 3) := sorry
theorem dX11_safeBy_26 : decode cX11_safeBy 26 = .ok (.ifCond .ne 6, 3) := sorry
theorem dX11_safeBy_29 : decode cX11_safeBy 29 = .ok (.goto 89, 3) := sorry
theorem dX11_safeBy_32 : decode cX11_safeBy 32 = .ok (.iconst 0, 1) := sorry
theorem dX11_safeBy_33 : decode cX11_safeBy 33 = .ok (.istore 6, 2) := sorry
theorem dX11_safeBy_35 : decode cX11_safeBy 35 = .ok (.iconst 0, 1) := sorry
theorem dX11_safeBy_36 : decode cX11_safeBy 36 = .ok (.istore 7, 2) := sorry
theorem dX11_safeBy_38 : decode cX11_safeBy 38 = .ok (.iload 7, 2) := sorry
theorem dX11_safeBy_40 : decode cX11_safeBy 40 = .ok (.sipush 343, 3) := sorry
theorem dX11_safeBy_43 : decode cX11_safeBy 43 = .ok (.if_icmp .ge 49, 3) := sorry
theorem dX11_safeBy_46 : decode cX11_safeBy 46 = .ok (.iload 7, 2) := sorry
theorem dX11_safeBy_48 : decode cX11_safeBy 48 = .ok (.iload_n 1, 1) := sorry
theorem dX11_safeBy_49 : decode cX11_safeBy 49 = .ok (.iload_n 3, 1) := sorry
theorem dX11_safeBy_50 : decode cX11_safeBy 50 = .ok (.invokestatic 247, 3) := sorry
theorem dX11_safeBy_53 : decode cX11_safeBy 53 = .ok (.ifCond .eq 29, 3) := sorry
theorem dX11_safeBy_56 : decode cX11_safeBy 56 = .ok (.aload_n 0, 1) := sorry
theorem dX11_safeBy_57 : decode cX11_safeBy 57 = .ok (.iload 7, 2) := sorry
theorem dX11_safeBy_59 : decode cX11_safeBy 59 = .ok (.iload 5, 2) := sorry
theorem dX11_safeBy_61 : decode cX11_safeBy 61 = .ok (.iload_n 3, 1) := sorry
theorem dX11_safeBy_62 : decode cX11_safeBy 62 = .ok (.invokevirtual 250, 3) := sorry
theorem dX11_safeBy_65 : decode cX11_safeBy 65 = .ok (.iload 6, 2) := sorry
theorem dX11_safeBy_67 : decode cX11_safeBy 67 = .ok (.if_icmp .le 15, 3) := sorry
theorem dX11_safeBy_70 : decode cX11_safeBy 70 = .ok (.aload_n 0, 1) := sorry
theorem dX11_safeBy_71 : decode cX11_safeBy 71 = .ok (.iload 7, 2) := sorry
theorem dX11_safeBy_73 : decode cX11_safeBy 73 = .ok (.iload 5, 2) := sorry
theorem dX11_safeBy_75 : decode cX11_safeBy 75 = .ok (.iload_n 3, 1) := sorry
theorem dX11_safeBy_76 : decode cX11_safeBy 76 = .ok (.invokevirtual 250, 3) := sorry
theorem dX11_safeBy_79 : decode cX11_safeBy 79 = .ok (.goto 5, 3) := sorry
theorem dX11_safeBy_82 : decode cX11_safeBy 82 = .ok (.iload 6, 2) := sorry
theorem dX11_safeBy_84 : decode cX11_safeBy 84 = .ok (.istore 6, 2) := sorry
theorem dX11_safeBy_86 : decode cX11_safeBy 86 = .ok (.iinc 7 1, 3) := sorry
theorem dX11_safeBy_89 : decode cX11_safeBy 89 = .ok (.goto (-51), 3) := sorry
theorem dX11_safeBy_92 : decode cX11_safeBy 92 = .ok (.iload 4, 2) := sorry
theorem dX11_safeBy_94 : decode cX11_safeBy 94 = .ok (.iconst (-1), 1) := sorry
theorem dX11_safeBy_95 : decode cX11_safeBy 95 = .ok (.if_icmp .eq 13, 3) := sorry
theorem dX11_safeBy_98 : decode cX11_safeBy 98 = .ok (.iload 6, 2) := sorry
theorem dX11_safeBy_100 : decode cX11_safeBy 100 = .ok (.iload 4, 2) := sorry
theorem dX11_safeBy_102 : decode cX11_safeBy 102 = .ok (.if_icmp .lt 6, 3) := sorry
theorem dX11_safeBy_105 : decode cX11_safeBy 105 = .ok (.goto 13, 3) := sorry
theorem dX11_safeBy_108 : decode cX11_safeBy 108 = .ok (.iload 6, 2) := sorry
theorem dX11_safeBy_110 : decode cX11_safeBy 110 = .ok (.istore 4, 2) := sorry
theorem dX11_safeBy_112 : decode cX11_safeBy 112 = .ok (.aload_n 0, 1) := sorry
theorem dX11_safeBy_113 : decode cX11_safeBy 113 = .ok (.iload 5, 2) := sorry
theorem dX11_safeBy_115 : decode cX11_safeBy 115 = .ok (.putfield 244, 3) := sorry
theorem dX11_safeBy_118 : decode cX11_safeBy 118 = .ok (.iinc 5 1, 3) := sorry
theorem dX11_safeBy_121 : decode cX11_safeBy 121 = .ok (.goto (-110), 3) := sorry
theorem dX11_safeBy_124 : decode cX11_safeBy 124 = .ok (.iload 4, 2) := sorry
theorem dX11_safeBy_126 : decode cX11_safeBy 126 = .ok (.ireturn, 1) := sorry
set_option maxRecDepth 20000 in
theorem ggX11_sureBy_X11_puts0 : GoodIn wsX11_sureBy wsX11_puts0 := sorry
set_option maxRecDepth 20000 in
theorem gX11_sureBy_X11_puts0 : GoodIn wsX11_sureBy (va_wsS RX11 247 yX11_puts0 wsX11_puts0) := sorry
set_option maxRecDepth 20000 in
theorem ggX11_sureBy_X11_falls : GoodIn wsX11_sureBy wsX11_falls := sorry
set_option maxRecDepth 20000 in
theorem gX11_sureBy_X11_falls : GoodIn wsX11_sureBy (wsV RX11 250 RX11 yX11_falls wsX11_falls) := sorry
theorem dX11_sureBy_0 : decode cX11_sureBy 0 = .ok (.iconst 0, 1) := sorry
theorem dX11_sureBy_1 : decode cX11_sureBy 1 = .ok (.istore 4, 2) := sorry
theorem dX11_sureBy_3 : decode cX11_sureBy 3 = .ok (.iconst 0, 1) := sorry
theorem dX11_sureBy_4 : decode cX11_sureBy 4 = .ok (.istore 5, 2) := sorry
theorem dX11_sureBy_6 : decode cX11_sureBy 6 = .ok (.iload 5, 2) := sorry
theorem dX11_sureBy_8 : decode cX11_sureBy 8 = .ok (.sipush 343, 3) := sorry
theorem dX11_sureBy_11 : decode cX11_sureBy 11 = .ok (.if_icmp .ge 99, 3) := sorry
theorem dX11_sureBy_14 : decode cX11_sureBy 14 = .ok (.iload 5, 2) := sorry
theorem dX11_sureBy_16 : decode cX11_sureBy 16 = .ok (.iload_n 1, 1) := sorry
theorem dX11_sureBy_17 : decode cX11_sureBy 17 = .ok (.iload_n 3, 1) := sorry
theorem dX11_sureBy_18 : decode cX11_sureBy 18 = .ok (.invokestatic 247, 3) := sorry
theorem dX11_sureBy_21 : decode cX11_sureBy 21 = .ok (.ifCond .ne 6, 3) := sorry
theorem dX11_sureBy_24 : decode cX11_sureBy 24 = .ok (.goto 80, 3) := sorry
theorem dX11_sureBy_27 : decode cX11_sureBy 27 = .ok (.iconst (-1), 1) := sorry
theorem dX11_sureBy_28 : decode cX11_sureBy 28 = .ok (.istore 6, 2) := sorry
theorem dX11_sureBy_30 : decode cX11_sureBy 30 = .ok (.iconst 0, 1) := sorry
theorem dX11_sureBy_31 : decode cX11_sureBy 31 = .ok (.istore 7, 2) := sorry
theorem dX11_sureBy_33 : decode cX11_sureBy 33 = .ok (.iload 7, 2) := sorry
theorem dX11_sureBy_35 : decode cX11_sureBy 35 = .ok (.sipush 343, 3) := sorry
theorem dX11_sureBy_38 : decode cX11_sureBy 38 = .ok (.if_icmp .ge 50, 3) := sorry
theorem dX11_sureBy_41 : decode cX11_sureBy 41 = .ok (.iload 7, 2) := sorry
theorem dX11_sureBy_43 : decode cX11_sureBy 43 = .ok (.iload_n 2, 1) := sorry
theorem dX11_sureBy_44 : decode cX11_sureBy 44 = .ok (.iload_n 3, 1) := sorry
theorem dX11_sureBy_45 : decode cX11_sureBy 45 = .ok (.invokestatic 247, 3) := sorry
theorem dX11_sureBy_48 : decode cX11_sureBy 48 = .ok (.ifCond .eq 34, 3) := sorry
theorem dX11_sureBy_51 : decode cX11_sureBy 51 = .ok (.iload 6, 2) := sorry
theorem dX11_sureBy_53 : decode cX11_sureBy 53 = .ok (.iconst (-1), 1) := sorry
theorem dX11_sureBy_54 : decode cX11_sureBy 54 = .ok (.if_icmp .eq 17, 3) := sorry
theorem dX11_sureBy_57 : decode cX11_sureBy 57 = .ok (.aload_n 0, 1) := sorry
theorem dX11_sureBy_58 : decode cX11_sureBy 58 = .ok (.iload 5, 2) := sorry
theorem dX11_sureBy_60 : decode cX11_sureBy 60 = .ok (.iload 7, 2) := sorry
theorem dX11_sureBy_62 : decode cX11_sureBy 62 = .ok (.iload_n 3, 1) := sorry
theorem dX11_sureBy_63 : decode cX11_sureBy 63 = .ok (.invokevirtual 250, 3) := sorry
theorem dX11_sureBy_66 : decode cX11_sureBy 66 = .ok (.iload 6, 2) := sorry
theorem dX11_sureBy_68 : decode cX11_sureBy 68 = .ok (.if_icmp .ge 14, 3) := sorry
theorem dX11_sureBy_71 : decode cX11_sureBy 71 = .ok (.aload_n 0, 1) := sorry
theorem dX11_sureBy_72 : decode cX11_sureBy 72 = .ok (.iload 5, 2) := sorry
theorem dX11_sureBy_74 : decode cX11_sureBy 74 = .ok (.iload 7, 2) := sorry
theorem dX11_sureBy_76 : decode cX11_sureBy 76 = .ok (.iload_n 3, 1) := sorry
theorem dX11_sureBy_77 : decode cX11_sureBy 77 = .ok (.invokevirtual 250, 3) := sorry
theorem dX11_sureBy_80 : decode cX11_sureBy 80 = .ok (.istore 6, 2) := sorry
theorem dX11_sureBy_82 : decode cX11_sureBy 82 = .ok (.iinc 7 1, 3) := sorry
theorem dX11_sureBy_85 : decode cX11_sureBy 85 = .ok (.goto (-52), 3) := sorry
theorem dX11_sureBy_88 : decode cX11_sureBy 88 = .ok (.iload 6, 2) := sorry
theorem dX11_sureBy_90 : decode cX11_sureBy 90 = .ok (.iload 4, 2) := sorry
theorem dX11_sureBy_92 : decode cX11_sureBy 92 = .ok (.if_icmp .le 8, 3) := sorry
theorem dX11_sureBy_95 : decode cX11_sureBy 95 = .ok (.iload 6, 2) := sorry
theorem dX11_sureBy_97 : decode cX11_sureBy 97 = .ok (.goto 5, 3) := sorry
theorem dX11_sureBy_100 : decode cX11_sureBy 100 = .ok (.iload 4, 2) := sorry
theorem dX11_sureBy_102 : decode cX11_sureBy 102 = .ok (.istore 4, 2) := sorry
theorem dX11_sureBy_104 : decode cX11_sureBy 104 = .ok (.iinc 5 1, 3) := sorry
theorem dX11_sureBy_107 : decode cX11_sureBy 107 = .ok (.goto (-101), 3) := sorry
theorem dX11_sureBy_110 : decode cX11_sureBy 110 = .ok (.iload 4, 2) := sorry
theorem dX11_sureBy_112 : decode cX11_sureBy 112 = .ok (.ireturn, 1) := sorry
set_option maxRecDepth 20000 in
theorem ggX11_areTens_X11_in : GoodIn wsX11_areTens wsX11_in := sorry
set_option maxRecDepth 20000 in
theorem gX11_areTens_X11_in : GoodIn wsX11_areTens (va_wsS RX11 119 yX11_in wsX11_in) := sorry
theorem dX11_areTens_0 : decode cX11_areTens 0 = .ok (.iload_n 0, 1) := sorry
theorem dX11_areTens_1 : decode cX11_areTens 1 = .ok (.iconst 0, 1) := sorry
theorem dX11_areTens_2 : decode cX11_areTens 2 = .ok (.bipush 6, 2) := sorry
theorem dX11_areTens_4 : decode cX11_areTens 4 = .ok (.invokestatic 119, 3) := sorry
theorem dX11_areTens_7 : decode cX11_areTens 7 = .ok (.ifCond .eq 17, 3) := sorry
theorem dX11_areTens_10 : decode cX11_areTens 10 = .ok (.iload_n 1, 1) := sorry
theorem dX11_areTens_11 : decode cX11_areTens 11 = .ok (.iconst 0, 1) := sorry
theorem dX11_areTens_12 : decode cX11_areTens 12 = .ok (.bipush 6, 2) := sorry
theorem dX11_areTens_14 : decode cX11_areTens 14 = .ok (.invokestatic 119, 3) := sorry
theorem dX11_areTens_17 : decode cX11_areTens 17 = .ok (.ifCond .eq 7, 3) := sorry
theorem dX11_areTens_20 : decode cX11_areTens 20 = .ok (.iconst 1, 1) := sorry
theorem dX11_areTens_21 : decode cX11_areTens 21 = .ok (.goto 4, 3) := sorry
theorem dX11_areTens_24 : decode cX11_areTens 24 = .ok (.iconst 0, 1) := sorry
theorem dX11_areTens_25 : decode cX11_areTens 25 = .ok (.ireturn, 1) := sorry
set_option maxRecDepth 20000 in
theorem ggX11_earnest_X11_areTens : GoodIn wsX11_earnest wsX11_areTens := sorry
set_option maxRecDepth 20000 in
theorem gX11_earnest_X11_areTens : GoodIn wsX11_earnest (va_wsS RX11 253 yX11_areTens wsX11_areTens) := sorry
set_option maxRecDepth 20000 in
theorem ggX11_earnest_X11_in : GoodIn wsX11_earnest wsX11_in := sorry
set_option maxRecDepth 20000 in
theorem gX11_earnest_X11_in : GoodIn wsX11_earnest (va_wsS RX11 119 yX11_in wsX11_in) := sorry
set_option maxRecDepth 20000 in
theorem ggX11_earnest_X11_bad : GoodIn wsX11_earnest wsX11_bad := sorry
set_option maxRecDepth 20000 in
theorem gX11_earnest_X11_bad : GoodIn wsX11_earnest (wsV RX11 151 RX11 yX11_bad wsX11_bad) := sorry
set_option maxRecDepth 20000 in
theorem ggX11_earnest_X11_firstWalls : GoodIn wsX11_earnest wsX11_firstWalls := sorry
set_option maxRecDepth 20000 in
theorem gX11_earnest_X11_firstWalls : GoodIn wsX11_earnest (wsV RX11 257 RX11 yX11_firstWalls wsX11_firstWalls) := sorry
set_option maxRecDepth 20000 in
theorem ggX11_earnest_X11_safeBy : GoodIn wsX11_earnest wsX11_safeBy := sorry
set_option maxRecDepth 20000 in
theorem gX11_earnest_X11_safeBy : GoodIn wsX11_earnest (wsV RX11 260 RX11 yX11_safeBy wsX11_safeBy) := sorry
set_option maxRecDepth 20000 in
theorem ggX11_earnest_X11_sureBy : GoodIn wsX11_earnest wsX11_sureBy := sorry
set_option maxRecDepth 20000 in
theorem gX11_earnest_X11_sureBy : GoodIn wsX11_earnest (wsV RX11 263 RX11 yX11_sureBy wsX11_sureBy) := sorry
theorem dX11_earnest_0 : decode cX11_earnest 0 = .ok (.aload_n 0, 1) := sorry
theorem dX11_earnest_1 : decode cX11_earnest 1 = .ok (.iconst 0, 1) := sorry
theorem dX11_earnest_2 : decode cX11_earnest 2 = .ok (.putfield 85, 3) := sorry
theorem dX11_earnest_5 : decode cX11_earnest 5 = .ok (.aload_n 0, 1) := sorry
theorem dX11_earnest_6 : decode cX11_earnest 6 = .ok (.iload_n 1, 1) := sorry
theorem dX11_earnest_7 : decode cX11_earnest 7 = .ok (.iload_n 2, 1) := sorry
theorem dX11_earnest_8 : decode cX11_earnest 8 = .ok (.invokestatic 253, 3) := sorry
theorem dX11_earnest_11 : decode cX11_earnest 11 = .ok (.ifCond .eq 12, 3) := sorry
theorem dX11_earnest_14 : decode cX11_earnest 14 = .ok (.iload_n 3, 1) := sorry
theorem dX11_earnest_15 : decode cX11_earnest 15 = .ok (.iconst 0, 1) := sorry
theorem dX11_earnest_16 : decode cX11_earnest 16 = .ok (.iconst 1, 1) := sorry
theorem dX11_earnest_17 : decode cX11_earnest 17 = .ok (.invokestatic 119, 3) := sorry
theorem dX11_earnest_20 : decode cX11_earnest 20 = .ok (.ifCond .ne 7, 3) := sorry
theorem dX11_earnest_23 : decode cX11_earnest 23 = .ok (.iconst 1, 1) := sorry
theorem dX11_earnest_24 : decode cX11_earnest 24 = .ok (.goto 4, 3) := sorry
theorem dX11_earnest_27 : decode cX11_earnest 27 = .ok (.iconst 0, 1) := sorry
theorem dX11_earnest_28 : decode cX11_earnest 28 = .ok (.iconst 1, 1) := sorry
theorem dX11_earnest_29 : decode cX11_earnest 29 = .ok (.iconst 2, 1) := sorry
theorem dX11_earnest_30 : decode cX11_earnest 30 = .ok (.invokevirtual 151, 3) := sorry
theorem dX11_earnest_33 : decode cX11_earnest 33 = .ok (.ifCond .eq 5, 3) := sorry
theorem dX11_earnest_36 : decode cX11_earnest 36 = .ok (.iconst 0, 1) := sorry
theorem dX11_earnest_37 : decode cX11_earnest 37 = .ok (.ireturn, 1) := sorry
theorem dX11_earnest_38 : decode cX11_earnest 38 = .ok (.iload_n 3, 1) := sorry
theorem dX11_earnest_39 : decode cX11_earnest 39 = .ok (.ifCond .ne 16, 3) := sorry
theorem dX11_earnest_42 : decode cX11_earnest 42 = .ok (.aload_n 0, 1) := sorry
theorem dX11_earnest_43 : decode cX11_earnest 43 = .ok (.iload_n 1, 1) := sorry
theorem dX11_earnest_44 : decode cX11_earnest 44 = .ok (.iload_n 2, 1) := sorry
theorem dX11_earnest_45 : decode cX11_earnest 45 = .ok (.aload_n 0, 1) := sorry
theorem dX11_earnest_46 : decode cX11_earnest 46 = .ok (.invokevirtual 257, 3) := sorry
theorem dX11_earnest_49 : decode cX11_earnest 49 = .ok (.invokevirtual 260, 3) := sorry
theorem dX11_earnest_52 : decode cX11_earnest 52 = .ok (.goto 13, 3) := sorry
theorem dX11_earnest_55 : decode cX11_earnest 55 = .ok (.aload_n 0, 1) := sorry
theorem dX11_earnest_56 : decode cX11_earnest 56 = .ok (.iload_n 1, 1) := sorry
theorem dX11_earnest_57 : decode cX11_earnest 57 = .ok (.iload_n 2, 1) := sorry
theorem dX11_earnest_58 : decode cX11_earnest 58 = .ok (.aload_n 0, 1) := sorry
theorem dX11_earnest_59 : decode cX11_earnest 59 = .ok (.invokevirtual 257, 3) := sorry
theorem dX11_earnest_62 : decode cX11_earnest 62 = .ok (.invokevirtual 263, 3) := sorry
theorem dX11_earnest_65 : decode cX11_earnest 65 = .ok (.ireturn, 1) := sorry
set_option maxRecDepth 20000 in
theorem ggX11_stands_X11_areTens : GoodIn wsX11_stands wsX11_areTens := sorry
set_option maxRecDepth 20000 in
theorem gX11_stands_X11_areTens : GoodIn wsX11_stands (va_wsS RX11 253 yX11_areTens wsX11_areTens) := sorry
set_option maxRecDepth 20000 in
theorem ggX11_stands_X11_bad : GoodIn wsX11_stands wsX11_bad := sorry
set_option maxRecDepth 20000 in
theorem gX11_stands_X11_bad : GoodIn wsX11_stands (wsV RX11 151 RX11 yX11_bad wsX11_bad) := sorry
set_option maxRecDepth 20000 in
theorem ggX11_stands_X11_firstWalls : GoodIn wsX11_stands wsX11_firstWalls := sorry
set_option maxRecDepth 20000 in
theorem gX11_stands_X11_firstWalls : GoodIn wsX11_stands (wsV RX11 257 RX11 yX11_firstWalls wsX11_firstWalls) := sorry
set_option maxRecDepth 20000 in
theorem ggX11_stands_X11_safeBy : GoodIn wsX11_stands wsX11_safeBy := sorry
set_option maxRecDepth 20000 in
theorem gX11_stands_X11_safeBy : GoodIn wsX11_stands (wsV RX11 260 RX11 yX11_safeBy wsX11_safeBy) := sorry
set_option maxRecDepth 20000 in
theorem ggX11_stands_X11_less : GoodIn wsX11_stands wsX11_less := sorry
set_option maxRecDepth 20000 in
theorem gX11_stands_X11_less : GoodIn wsX11_stands (va_wsS RX11 186 yX11_less wsX11_less) := sorry
set_option maxRecDepth 20000 in
theorem ggX11_stands_X11_digit : GoodIn wsX11_stands wsX11_digit := sorry
set_option maxRecDepth 20000 in
theorem gX11_stands_X11_digit : GoodIn wsX11_stands (va_wsS RX11 241 yX11_digit wsX11_digit) := sorry
theorem dX11_stands_0 : decode cX11_stands 0 = .ok (.aload_n 0, 1) := sorry
theorem dX11_stands_1 : decode cX11_stands 1 = .ok (.iconst 0, 1) := sorry
theorem dX11_stands_2 : decode cX11_stands 2 = .ok (.putfield 85, 3) := sorry
theorem dX11_stands_5 : decode cX11_stands 5 = .ok (.aload_n 0, 1) := sorry
theorem dX11_stands_6 : decode cX11_stands 6 = .ok (.iload_n 1, 1) := sorry
theorem dX11_stands_7 : decode cX11_stands 7 = .ok (.iload_n 2, 1) := sorry
theorem dX11_stands_8 : decode cX11_stands 8 = .ok (.invokestatic 253, 3) := sorry
theorem dX11_stands_11 : decode cX11_stands 11 = .ok (.ifCond .ne 7, 3) := sorry
theorem dX11_stands_14 : decode cX11_stands 14 = .ok (.iconst 1, 1) := sorry
theorem dX11_stands_15 : decode cX11_stands 15 = .ok (.goto 4, 3) := sorry
theorem dX11_stands_18 : decode cX11_stands 18 = .ok (.iconst 0, 1) := sorry
theorem dX11_stands_19 : decode cX11_stands 19 = .ok (.iconst 1, 1) := sorry
theorem dX11_stands_20 : decode cX11_stands 20 = .ok (.iconst 2, 1) := sorry
theorem dX11_stands_21 : decode cX11_stands 21 = .ok (.invokevirtual 151, 3) := sorry
theorem dX11_stands_24 : decode cX11_stands 24 = .ok (.ifCond .eq 5, 3) := sorry
theorem dX11_stands_27 : decode cX11_stands 27 = .ok (.iconst 0, 1) := sorry
theorem dX11_stands_28 : decode cX11_stands 28 = .ok (.ireturn, 1) := sorry
theorem dX11_stands_29 : decode cX11_stands 29 = .ok (.aload_n 0, 1) := sorry
theorem dX11_stands_30 : decode cX11_stands 30 = .ok (.iload_n 1, 1) := sorry
theorem dX11_stands_31 : decode cX11_stands 31 = .ok (.iload_n 2, 1) := sorry
theorem dX11_stands_32 : decode cX11_stands 32 = .ok (.aload_n 0, 1) := sorry
theorem dX11_stands_33 : decode cX11_stands 33 = .ok (.invokevirtual 257, 3) := sorry
theorem dX11_stands_36 : decode cX11_stands 36 = .ok (.invokevirtual 260, 3) := sorry
theorem dX11_stands_39 : decode cX11_stands 39 = .ok (.pop, 1) := sorry
theorem dX11_stands_40 : decode cX11_stands 40 = .ok (.iconst 0, 1) := sorry
theorem dX11_stands_41 : decode cX11_stands 41 = .ok (.istore_n 3, 1) := sorry
theorem dX11_stands_42 : decode cX11_stands 42 = .ok (.iconst 0, 1) := sorry
theorem dX11_stands_43 : decode cX11_stands 43 = .ok (.istore 4, 2) := sorry
theorem dX11_stands_45 : decode cX11_stands 45 = .ok (.iload 4, 2) := sorry
theorem dX11_stands_47 : decode cX11_stands 47 = .ok (.iconst 3, 1) := sorry
theorem dX11_stands_48 : decode cX11_stands 48 = .ok (.aload_n 0, 1) := sorry
theorem dX11_stands_49 : decode cX11_stands 49 = .ok (.getfield 23, 3) := sorry
theorem dX11_stands_52 : decode cX11_stands 52 = .ok (.iconst 0, 1) := sorry
theorem dX11_stands_53 : decode cX11_stands 53 = .ok (.iaload, 1) := sorry
theorem dX11_stands_54 : decode cX11_stands 54 = .ok (.invokestatic 186, 3) := sorry
theorem dX11_stands_57 : decode cX11_stands 57 = .ok (.if_icmp .ge 24, 3) := sorry
theorem dX11_stands_60 : decode cX11_stands 60 = .ok (.bipush 10, 2) := sorry
theorem dX11_stands_62 : decode cX11_stands 62 = .ok (.iload_n 3, 1) := sorry
theorem dX11_stands_63 : decode cX11_stands 63 = .ok (.imul, 1) := sorry
theorem dX11_stands_64 : decode cX11_stands 64 = .ok (.aload_n 0, 1) := sorry
theorem dX11_stands_65 : decode cX11_stands 65 = .ok (.getfield 244, 3) := sorry
theorem dX11_stands_68 : decode cX11_stands 68 = .ok (.iload 4, 2) := sorry
theorem dX11_stands_70 : decode cX11_stands 70 = .ok (.invokestatic 241, 3) := sorry
theorem dX11_stands_73 : decode cX11_stands 73 = .ok (.iadd, 1) := sorry
theorem dX11_stands_74 : decode cX11_stands 74 = .ok (.istore_n 3, 1) := sorry
theorem dX11_stands_75 : decode cX11_stands 75 = .ok (.iinc 4 1, 3) := sorry
theorem dX11_stands_78 : decode cX11_stands 78 = .ok (.goto (-33), 3) := sorry
theorem dX11_stands_81 : decode cX11_stands 81 = .ok (.iload_n 3, 1) := sorry
theorem dX11_stands_82 : decode cX11_stands 82 = .ok (.ireturn, 1) := sorry
set_option maxRecDepth 20000 in
theorem ggX11_show_X11_areTens : GoodIn wsX11_show wsX11_areTens := sorry
set_option maxRecDepth 20000 in
theorem gX11_show_X11_areTens : GoodIn wsX11_show (va_wsS RX11 253 yX11_areTens wsX11_areTens) := sorry
set_option maxRecDepth 20000 in
theorem ggX11_show_X11_bad : GoodIn wsX11_show wsX11_bad := sorry
set_option maxRecDepth 20000 in
theorem gX11_show_X11_bad : GoodIn wsX11_show (wsV RX11 151 RX11 yX11_bad wsX11_bad) := sorry
set_option maxRecDepth 20000 in
theorem ggX11_show_X11_firstWalls : GoodIn wsX11_show wsX11_firstWalls := sorry
set_option maxRecDepth 20000 in
theorem gX11_show_X11_firstWalls : GoodIn wsX11_show (wsV RX11 257 RX11 yX11_firstWalls wsX11_firstWalls) := sorry
set_option maxRecDepth 20000 in
theorem ggX11_show_X11_safeBy : GoodIn wsX11_show wsX11_safeBy := sorry
set_option maxRecDepth 20000 in
theorem gX11_show_X11_safeBy : GoodIn wsX11_show (wsV RX11 260 RX11 yX11_safeBy wsX11_safeBy) := sorry
theorem dX11_show_0 : decode cX11_show 0 = .ok (.aload_n 0, 1) := sorry
theorem dX11_show_1 : decode cX11_show 1 = .ok (.iconst 0, 1) := sorry
theorem dX11_show_2 : decode cX11_show 2 = .ok (.putfield 85, 3) := sorry
theorem dX11_show_5 : decode cX11_show 5 = .ok (.aload_n 0, 1) := sorry
theorem dX11_show_6 : decode cX11_show 6 = .ok (.iload_n 1, 1) := sorry
theorem dX11_show_7 : decode cX11_show 7 = .ok (.iload_n 2, 1) := sorry
theorem dX11_show_8 : decode cX11_show 8 = .ok (.invokestatic 253, 3) := sorry
theorem dX11_show_11 : decode cX11_show 11 = .ok (.ifCond .ne 7, 3) := sorry
theorem dX11_show_14 : decode cX11_show 14 = .ok (.iconst 1, 1) := sorry
theorem dX11_show_15 : decode cX11_show 15 = .ok (.goto 4, 3) := sorry
theorem dX11_show_18 : decode cX11_show 18 = .ok (.iconst 0, 1) := sorry
theorem dX11_show_19 : decode cX11_show 19 = .ok (.iconst 1, 1) := sorry
theorem dX11_show_20 : decode cX11_show 20 = .ok (.iconst 2, 1) := sorry
theorem dX11_show_21 : decode cX11_show 21 = .ok (.invokevirtual 151, 3) := sorry
theorem dX11_show_24 : decode cX11_show 24 = .ok (.ifCond .eq 5, 3) := sorry
theorem dX11_show_27 : decode cX11_show 27 = .ok (.iconst 0, 1) := sorry
theorem dX11_show_28 : decode cX11_show 28 = .ok (.ireturn, 1) := sorry
theorem dX11_show_29 : decode cX11_show 29 = .ok (.aload_n 0, 1) := sorry
theorem dX11_show_30 : decode cX11_show 30 = .ok (.invokevirtual 257, 3) := sorry
theorem dX11_show_33 : decode cX11_show 33 = .ok (.istore_n 3, 1) := sorry
theorem dX11_show_34 : decode cX11_show 34 = .ok (.aload_n 0, 1) := sorry
theorem dX11_show_35 : decode cX11_show 35 = .ok (.iload_n 1, 1) := sorry
theorem dX11_show_36 : decode cX11_show 36 = .ok (.iload_n 2, 1) := sorry
theorem dX11_show_37 : decode cX11_show 37 = .ok (.iload_n 3, 1) := sorry
theorem dX11_show_38 : decode cX11_show 38 = .ok (.invokevirtual 260, 3) := sorry
theorem dX11_show_41 : decode cX11_show 41 = .ok (.istore 4, 2) := sorry
theorem dX11_show_43 : decode cX11_show 43 = .ok (.iconst 0, 1) := sorry
theorem dX11_show_44 : decode cX11_show 44 = .ok (.istore 5, 2) := sorry
theorem dX11_show_46 : decode cX11_show 46 = .ok (.iconst 0, 1) := sorry
theorem dX11_show_47 : decode cX11_show 47 = .ok (.istore 6, 2) := sorry
theorem dX11_show_49 : decode cX11_show 49 = .ok (.iload 6, 2) := sorry
theorem dX11_show_51 : decode cX11_show 51 = .ok (.iconst 3, 1) := sorry
theorem dX11_show_52 : decode cX11_show 52 = .ok (.if_icmp .ge 47, 3) := sorry
theorem dX11_show_55 : decode cX11_show 55 = .ok (.iload_n 3, 1) := sorry
theorem dX11_show_56 : decode cX11_show 56 = .ok (.iload 6, 2) := sorry
theorem dX11_show_58 : decode cX11_show 58 = .ok (.ishr, 1) := sorry
theorem dX11_show_59 : decode cX11_show 59 = .ok (.iconst 1, 1) := sorry
theorem dX11_show_60 : decode cX11_show 60 = .ok (.iand, 1) := sorry
theorem dX11_show_61 : decode cX11_show 61 = .ok (.iconst 1, 1) := sorry
theorem dX11_show_62 : decode cX11_show 62 = .ok (.if_icmp .ne 31, 3) := sorry
theorem dX11_show_65 : decode cX11_show 65 = .ok (.aload_n 0, 1) := sorry
theorem dX11_show_66 : decode cX11_show 66 = .ok (.iload_n 1, 1) := sorry
theorem dX11_show_67 : decode cX11_show 67 = .ok (.iload_n 2, 1) := sorry
theorem dX11_show_68 : decode cX11_show 68 = .ok (.iload_n 3, 1) := sorry
theorem dX11_show_69 : decode cX11_show 69 = .ok (.iconst 1, 1) := sorry
theorem dX11_show_70 : decode cX11_show 70 = .ok (.iload 6, 2) := sorry
theorem dX11_show_72 : decode cX11_show 72 = .ok (.ishl, 1) := sorry
theorem dX11_show_73 : decode cX11_show 73 = .ok (.iconst (-1), 1) := sorry
theorem dX11_show_74 : decode cX11_show 74 = .ok (.ixor, 1) := sorry
theorem dX11_show_75 : decode cX11_show 75 = .ok (.iand, 1) := sorry
theorem dX11_show_76 : decode cX11_show 76 = .ok (.invokevirtual 260, 3) := sorry
theorem dX11_show_79 : decode cX11_show 79 = .ok (.iload 4, 2) := sorry
theorem dX11_show_81 : decode cX11_show 81 = .ok (.if_icmp .ne 12, 3) := sorry
theorem dX11_show_84 : decode cX11_show 84 = .ok (.iload 5, 2) := sorry
theorem dX11_show_86 : decode cX11_show 86 = .ok (.iconst 1, 1) := sorry
theorem dX11_show_87 : decode cX11_show 87 = .ok (.iload 6, 2) := sorry
theorem dX11_show_89 : decode cX11_show 89 = .ok (.ishl, 1) := sorry
theorem dX11_show_90 : decode cX11_show 90 = .ok (.ior, 1) := sorry
theorem dX11_show_91 : decode cX11_show 91 = .ok (.istore 5, 2) := sorry
theorem dX11_show_93 : decode cX11_show 93 = .ok (.iinc 6 1, 3) := sorry
theorem dX11_show_96 : decode cX11_show 96 = .ok (.goto (-47), 3) := sorry
theorem dX11_show_99 : decode cX11_show 99 = .ok (.iload 5, 2) := sorry
theorem dX11_show_101 : decode cX11_show 101 = .ok (.ireturn, 1) := sorry
set_option maxRecDepth 20000 in
theorem ggX11_offers_X11_in : GoodIn wsX11_offers wsX11_in := sorry
set_option maxRecDepth 20000 in
theorem gX11_offers_X11_in : GoodIn wsX11_offers (va_wsS RX11 119 yX11_in wsX11_in) := sorry
set_option maxRecDepth 20000 in
theorem ggX11_offers_X11_bad : GoodIn wsX11_offers wsX11_bad := sorry
set_option maxRecDepth 20000 in
theorem gX11_offers_X11_bad : GoodIn wsX11_offers (wsV RX11 151 RX11 yX11_bad wsX11_bad) := sorry
theorem dX11_offers_0 : decode cX11_offers 0 = .ok (.aload_n 0, 1) := sorry
theorem dX11_offers_1 : decode cX11_offers 1 = .ok (.iconst 0, 1) := sorry
theorem dX11_offers_2 : decode cX11_offers 2 = .ok (.putfield 85, 3) := sorry
theorem dX11_offers_5 : decode cX11_offers 5 = .ok (.aload_n 0, 1) := sorry
theorem dX11_offers_6 : decode cX11_offers 6 = .ok (.iload_n 1, 1) := sorry
theorem dX11_offers_7 : decode cX11_offers 7 = .ok (.iconst 1, 1) := sorry
theorem dX11_offers_8 : decode cX11_offers 8 = .ok (.iconst 2, 1) := sorry
theorem dX11_offers_9 : decode cX11_offers 9 = .ok (.invokestatic 119, 3) := sorry
theorem dX11_offers_12 : decode cX11_offers 12 = .ok (.ifCond .eq 24, 3) := sorry
theorem dX11_offers_15 : decode cX11_offers 15 = .ok (.iload_n 2, 1) := sorry
theorem dX11_offers_16 : decode cX11_offers 16 = .ok (.iconst 0, 1) := sorry
theorem dX11_offers_17 : decode cX11_offers 17 = .ok (.bipush 11, 2) := sorry
theorem dX11_offers_19 : decode cX11_offers 19 = .ok (.invokestatic 119, 3) := sorry
theorem dX11_offers_22 : decode cX11_offers 22 = .ok (.ifCond .eq 14, 3) := sorry
theorem dX11_offers_25 : decode cX11_offers 25 = .ok (.iload_n 3, 1) := sorry
theorem dX11_offers_26 : decode cX11_offers 26 = .ok (.iconst 0, 1) := sorry
theorem dX11_offers_27 : decode cX11_offers 27 = .ok (.sipush 999, 3) := sorry
theorem dX11_offers_30 : decode cX11_offers 30 = .ok (.invokestatic 119, 3) := sorry
theorem dX11_offers_33 : decode cX11_offers 33 = .ok (.ifCond .ne 7, 3) := sorry
theorem dX11_offers_36 : decode cX11_offers 36 = .ok (.iconst 1, 1) := sorry
theorem dX11_offers_37 : decode cX11_offers 37 = .ok (.goto 4, 3) := sorry
theorem dX11_offers_40 : decode cX11_offers 40 = .ok (.iconst 0, 1) := sorry
theorem dX11_offers_41 : decode cX11_offers 41 = .ok (.iconst 1, 1) := sorry
theorem dX11_offers_42 : decode cX11_offers 42 = .ok (.iconst 2, 1) := sorry
theorem dX11_offers_43 : decode cX11_offers 43 = .ok (.invokevirtual 151, 3) := sorry
theorem dX11_offers_46 : decode cX11_offers 46 = .ok (.ifCond .eq 5, 3) := sorry
theorem dX11_offers_49 : decode cX11_offers 49 = .ok (.iconst 0, 1) := sorry
theorem dX11_offers_50 : decode cX11_offers 50 = .ok (.ireturn, 1) := sorry
theorem dX11_offers_51 : decode cX11_offers 51 = .ok (.aload_n 0, 1) := sorry
theorem dX11_offers_52 : decode cX11_offers 52 = .ok (.getfield 70, 3) := sorry
theorem dX11_offers_55 : decode cX11_offers 55 = .ok (.iload_n 1, 1) := sorry
theorem dX11_offers_56 : decode cX11_offers 56 = .ok (.iconst 1, 1) := sorry
theorem dX11_offers_57 : decode cX11_offers 57 = .ok (.isub, 1) := sorry
theorem dX11_offers_58 : decode cX11_offers 58 = .ok (.aaload, 1) := sorry
theorem dX11_offers_59 : decode cX11_offers 59 = .ok (.iload_n 2, 1) := sorry
theorem dX11_offers_60 : decode cX11_offers 60 = .ok (.iaload, 1) := sorry
theorem dX11_offers_61 : decode cX11_offers 61 = .ok (.istore 4, 2) := sorry
theorem dX11_offers_63 : decode cX11_offers 63 = .ok (.aload_n 0, 1) := sorry
theorem dX11_offers_64 : decode cX11_offers 64 = .ok (.getfield 70, 3) := sorry
theorem dX11_offers_67 : decode cX11_offers 67 = .ok (.iload_n 1, 1) := sorry
theorem dX11_offers_68 : decode cX11_offers 68 = .ok (.iconst 1, 1) := sorry
theorem dX11_offers_69 : decode cX11_offers 69 = .ok (.isub, 1) := sorry
theorem dX11_offers_70 : decode cX11_offers 70 = .ok (.aaload, 1) := sorry
theorem dX11_offers_71 : decode cX11_offers 71 = .ok (.iload_n 2, 1) := sorry
theorem dX11_offers_72 : decode cX11_offers 72 = .ok (.iload_n 3, 1) := sorry
theorem dX11_offers_73 : decode cX11_offers 73 = .ok (.iastore, 1) := sorry
theorem dX11_offers_74 : decode cX11_offers 74 = .ok (.iload 4, 2) := sorry
theorem dX11_offers_76 : decode cX11_offers 76 = .ok (.ireturn, 1) := sorry
set_option maxRecDepth 20000 in
theorem ggX11_laysRest_X11_mayServe : GoodIn wsX11_laysRest wsX11_mayServe := sorry
set_option maxRecDepth 20000 in
theorem gX11_laysRest_X11_mayServe : GoodIn wsX11_laysRest (va_wsS RX11 266 yX11_mayServe wsX11_mayServe) := sorry
theorem dX11_laysRest_0 : decode cX11_laysRest 0 = .ok (.iconst 0, 1) := sorry
theorem dX11_laysRest_1 : decode cX11_laysRest 1 = .ok (.istore_n 1, 1) := sorry
theorem dX11_laysRest_2 : decode cX11_laysRest 2 = .ok (.iload_n 1, 1) := sorry
theorem dX11_laysRest_3 : decode cX11_laysRest 3 = .ok (.iconst 3, 1) := sorry
theorem dX11_laysRest_4 : decode cX11_laysRest 4 = .ok (.if_icmp .ge 19, 3) := sorry
theorem dX11_laysRest_7 : decode cX11_laysRest 7 = .ok (.aload_n 0, 1) := sorry
theorem dX11_laysRest_8 : decode cX11_laysRest 8 = .ok (.getfield 76, 3) := sorry
theorem dX11_laysRest_11 : decode cX11_laysRest 11 = .ok (.bipush 12, 2) := sorry
theorem dX11_laysRest_13 : decode cX11_laysRest 13 = .ok (.aaload, 1) := sorry
theorem dX11_laysRest_14 : decode cX11_laysRest 14 = .ok (.iload_n 1, 1) := sorry
theorem dX11_laysRest_15 : decode cX11_laysRest 15 = .ok (.iconst 0, 1) := sorry
theorem dX11_laysRest_16 : decode cX11_laysRest 16 = .ok (.iastore, 1) := sorry
theorem dX11_laysRest_17 : decode cX11_laysRest 17 = .ok (.iinc 1 1, 3) := sorry
theorem dX11_laysRest_20 : decode cX11_laysRest 20 = .ok (.goto (-18), 3) := sorry
theorem dX11_laysRest_23 : decode cX11_laysRest 23 = .ok (.bipush 11, 2) := sorry
theorem dX11_laysRest_25 : decode cX11_laysRest 25 = .ok (.istore_n 1, 1) := sorry
theorem dX11_laysRest_26 : decode cX11_laysRest 26 = .ok (.iload_n 1, 1) := sorry
theorem dX11_laysRest_27 : decode cX11_laysRest 27 = .ok (.ifCond .lt 107, 3) := sorry
theorem dX11_laysRest_30 : decode cX11_laysRest 30 = .ok (.iconst 0, 1) := sorry
theorem dX11_laysRest_31 : decode cX11_laysRest 31 = .ok (.istore_n 2, 1) := sorry
theorem dX11_laysRest_32 : decode cX11_laysRest 32 = .ok (.iload_n 2, 1) := sorry
theorem dX11_laysRest_33 : decode cX11_laysRest 33 = .ok (.iconst 3, 1) := sorry
theorem dX11_laysRest_34 : decode cX11_laysRest 34 = .ok (.if_icmp .ge 94, 3) := sorry
theorem dX11_laysRest_37 : decode cX11_laysRest 37 = .ok (.iconst 0, 1) := sorry
theorem dX11_laysRest_38 : decode cX11_laysRest 38 = .ok (.istore_n 3, 1) := sorry
theorem dX11_laysRest_39 : decode cX11_laysRest 39 = .ok (.iconst 0, 1) := sorry
theorem dX11_laysRest_40 : decode cX11_laysRest 40 = .ok (.istore 4, 2) := sorry
theorem dX11_laysRest_42 : decode cX11_laysRest 42 = .ok (.iload 4, 2) := sorry
theorem dX11_laysRest_44 : decode cX11_laysRest 44 = .ok (.iconst 3, 1) := sorry
theorem dX11_laysRest_45 : decode cX11_laysRest 45 = .ok (.if_icmp .ge 49, 3) := sorry
theorem dX11_laysRest_48 : decode cX11_laysRest 48 = .ok (.iload_n 2, 1) := sorry
theorem dX11_laysRest_49 : decode cX11_laysRest 49 = .ok (.iload 4, 2) := sorry
theorem dX11_laysRest_51 : decode cX11_laysRest 51 = .ok (.invokestatic 266, 3) := sorry
theorem dX11_laysRest_54 : decode cX11_laysRest 54 = .ok (.ifCond .eq 34, 3) := sorry
theorem dX11_laysRest_57 : decode cX11_laysRest 57 = .ok (.aload_n 0, 1) := sorry
theorem dX11_laysRest_58 : decode cX11_laysRest 58 = .ok (.getfield 76, 3) := sorry
theorem dX11_laysRest_61 : decode cX11_laysRest 61 = .ok (.iload_n 1, 1) := sorry
theorem dX11_laysRest_62 : decode cX11_laysRest 62 = .ok (.iconst 1, 1) := sorry
theorem dX11_laysRest_63 : decode cX11_laysRest 63 = .ok (.iadd, 1) := sorry
theorem dX11_laysRest_64 : decode cX11_laysRest 64 = .ok (.aaload, 1) := sorry
theorem dX11_laysRest_65 : decode cX11_laysRest 65 = .ok (.iload 4, 2) := sorry
theorem dX11_laysRest_67 : decode cX11_laysRest 67 = .ok (.iaload, 1) := sorry
theorem dX11_laysRest_68 : decode cX11_laysRest 68 = .ok (.iload_n 3, 1) := sorry
theorem dX11_laysRest_69 : decode cX11_laysRest 69 = .ok (.if_icmp .le 17, 3) := sorry
theorem dX11_laysRest_72 : decode cX11_laysRest 72 = .ok (.aload_n 0, 1) := sorry
theorem dX11_laysRest_73 : decode cX11_laysRest 73 = .ok (.getfield 76, 3) := sorry
theorem dX11_laysRest_76 : decode cX11_laysRest 76 = .ok (.iload_n 1, 1) := sorry
theorem dX11_laysRest_77 : decode cX11_laysRest 77 = .ok (.iconst 1, 1) := sorry
theorem dX11_laysRest_78 : decode cX11_laysRest 78 = .ok (.iadd, 1) := sorry
theorem dX11_laysRest_79 : decode cX11_laysRest 79 = .ok (.aaload, 1) := sorry
theorem dX11_laysRest_80 : decode cX11_laysRest 80 = .ok (.iload 4, 2) := sorry
theorem dX11_laysRest_82 : decode cX11_laysRest 82 = .ok (.iaload, 1) := sorry
theorem dX11_laysRest_83 : decode cX11_laysRest 83 = .ok (.goto 4, 3) := sorry
theorem dX11_laysRest_86 : decode cX11_laysRest 86 = .ok (.iload_n 3, 1) := sorry
theorem dX11_laysRest_87 : decode cX11_laysRest 87 = .ok (.istore_n 3, 1) := sorry
theorem dX11_laysRest_88 : decode cX11_laysRest 88 = .ok (.iinc 4 1, 3) := sorry
theorem dX11_laysRest_91 : decode cX11_laysRest 91 = .ok (.goto (-49), 3) := sorry
theorem dX11_laysRest_94 : decode cX11_laysRest 94 = .ok (.aload_n 0, 1) := sorry
theorem dX11_laysRest_95 : decode cX11_laysRest 95 = .ok (.getfield 76, 3) := sorry
theorem dX11_laysRest_98 : decode cX11_laysRest 98 = .ok (.iload_n 1, 1) := sorry
theorem dX11_laysRest_99 : decode cX11_laysRest 99 = .ok (.aaload, 1) := sorry
theorem dX11_laysRest_100 : decode cX11_laysRest 100 = .ok (.iload_n 2, 1) := sorry
theorem dX11_laysRest_101 : decode cX11_laysRest 101 = .ok (.iload_n 3, 1) := sorry
theorem dX11_laysRest_102 : decode cX11_laysRest 102 = .ok (.iload_n 2, 1) := sorry
theorem dX11_laysRest_103 : decode cX11_laysRest 103 = .ok (.ifCond .ne 7, 3) := sorry
theorem dX11_laysRest_106 : decode cX11_laysRest 106 = .ok (.iconst 0, 1) := sorry
theorem dX11_laysRest_107 : decode cX11_laysRest 107 = .ok (.goto 13, 3) := sorry
theorem dX11_laysRest_110 : decode cX11_laysRest 110 = .ok (.aload_n 0, 1) := sorry
theorem dX11_laysRest_111 : decode cX11_laysRest 111 = .ok (.getfield 70, 3) := sorry
theorem dX11_laysRest_114 : decode cX11_laysRest 114 = .ok (.iload_n 2, 1) := sorry
theorem dX11_laysRest_115 : decode cX11_laysRest 115 = .ok (.iconst 1, 1) := sorry
theorem dX11_laysRest_116 : decode cX11_laysRest 116 = .ok (.isub, 1) := sorry
theorem dX11_laysRest_117 : decode cX11_laysRest 117 = .ok (.aaload, 1) := sorry
theorem dX11_laysRest_118 : decode cX11_laysRest 118 = .ok (.iload_n 1, 1) := sorry
theorem dX11_laysRest_119 : decode cX11_laysRest 119 = .ok (.iaload, 1) := sorry
theorem dX11_laysRest_120 : decode cX11_laysRest 120 = .ok (.iadd, 1) := sorry
theorem dX11_laysRest_121 : decode cX11_laysRest 121 = .ok (.iastore, 1) := sorry
theorem dX11_laysRest_122 : decode cX11_laysRest 122 = .ok (.iinc 2 1, 3) := sorry
theorem dX11_laysRest_125 : decode cX11_laysRest 125 = .ok (.goto (-93), 3) := sorry
theorem dX11_laysRest_128 : decode cX11_laysRest 128 = .ok (.iinc 1 (-1), 3) := sorry
theorem dX11_laysRest_131 : decode cX11_laysRest 131 = .ok (.goto (-105), 3) := sorry
theorem dX11_laysRest_134 : decode cX11_laysRest 134 = .ok (.return_, 1) := sorry
theorem dX11_mayServe_0 : decode cX11_mayServe 0 = .ok (.iload_n 0, 1) := sorry
theorem dX11_mayServe_1 : decode cX11_mayServe 1 = .ok (.ifCond .eq 12, 3) := sorry
theorem dX11_mayServe_4 : decode cX11_mayServe 4 = .ok (.iload_n 1, 1) := sorry
theorem dX11_mayServe_5 : decode cX11_mayServe 5 = .ok (.ifCond .eq 8, 3) := sorry
theorem dX11_mayServe_8 : decode cX11_mayServe 8 = .ok (.iload_n 0, 1) := sorry
theorem dX11_mayServe_9 : decode cX11_mayServe 9 = .ok (.iload_n 1, 1) := sorry
theorem dX11_mayServe_10 : decode cX11_mayServe 10 = .ok (.if_icmp .ne 7, 3) := sorry
theorem dX11_mayServe_13 : decode cX11_mayServe 13 = .ok (.iconst 1, 1) := sorry
theorem dX11_mayServe_14 : decode cX11_mayServe 14 = .ok (.goto 4, 3) := sorry
theorem dX11_mayServe_17 : decode cX11_mayServe 17 = .ok (.iconst 0, 1) := sorry
theorem dX11_mayServe_18 : decode cX11_mayServe 18 = .ok (.ireturn, 1) := sorry
set_option maxRecDepth 20000 in
theorem ggX11_mostNow_X11_laysRest : GoodIn wsX11_mostNow wsX11_laysRest := sorry
set_option maxRecDepth 20000 in
theorem gX11_mostNow_X11_laysRest : GoodIn wsX11_mostNow (wsV RX11 269 RX11 yX11_laysRest wsX11_laysRest) := sorry
theorem dX11_mostNow_0 : decode cX11_mostNow 0 = .ok (.aload_n 0, 1) := sorry
theorem dX11_mostNow_1 : decode cX11_mostNow 1 = .ok (.invokevirtual 269, 3) := sorry
theorem dX11_mostNow_4 : decode cX11_mostNow 4 = .ok (.aload_n 0, 1) := sorry
theorem dX11_mostNow_5 : decode cX11_mostNow 5 = .ok (.getfield 76, 3) := sorry
theorem dX11_mostNow_8 : decode cX11_mostNow 8 = .ok (.iconst 0, 1) := sorry
theorem dX11_mostNow_9 : decode cX11_mostNow 9 = .ok (.aaload, 1) := sorry
theorem dX11_mostNow_10 : decode cX11_mostNow 10 = .ok (.iconst 0, 1) := sorry
theorem dX11_mostNow_11 : decode cX11_mostNow 11 = .ok (.iaload, 1) := sorry
theorem dX11_mostNow_12 : decode cX11_mostNow 12 = .ok (.istore_n 1, 1) := sorry
theorem dX11_mostNow_13 : decode cX11_mostNow 13 = .ok (.iconst 1, 1) := sorry
theorem dX11_mostNow_14 : decode cX11_mostNow 14 = .ok (.istore_n 2, 1) := sorry
theorem dX11_mostNow_15 : decode cX11_mostNow 15 = .ok (.iload_n 2, 1) := sorry
theorem dX11_mostNow_16 : decode cX11_mostNow 16 = .ok (.iconst 3, 1) := sorry
theorem dX11_mostNow_17 : decode cX11_mostNow 17 = .ok (.if_icmp .ge 34, 3) := sorry
theorem dX11_mostNow_20 : decode cX11_mostNow 20 = .ok (.aload_n 0, 1) := sorry
theorem dX11_mostNow_21 : decode cX11_mostNow 21 = .ok (.getfield 76, 3) := sorry
theorem dX11_mostNow_24 : decode cX11_mostNow 24 = .ok (.iconst 0, 1) := sorry
theorem dX11_mostNow_25 : decode cX11_mostNow 25 = .ok (.aaload, 1) := sorry
theorem dX11_mostNow_26 : decode cX11_mostNow 26 = .ok (.iload_n 2, 1) := sorry
theorem dX11_mostNow_27 : decode cX11_mostNow 27 = .ok (.iaload, 1) := sorry
theorem dX11_mostNow_28 : decode cX11_mostNow 28 = .ok (.iload_n 1, 1) := sorry
theorem dX11_mostNow_29 : decode cX11_mostNow 29 = .ok (.if_icmp .le 14, 3) := sorry
theorem dX11_mostNow_32 : decode cX11_mostNow 32 = .ok (.aload_n 0, 1) := sorry
theorem dX11_mostNow_33 : decode cX11_mostNow 33 = .ok (.getfield 76, 3) := sorry
theorem dX11_mostNow_36 : decode cX11_mostNow 36 = .ok (.iconst 0, 1) := sorry
theorem dX11_mostNow_37 : decode cX11_mostNow 37 = .ok (.aaload, 1) := sorry
theorem dX11_mostNow_38 : decode cX11_mostNow 38 = .ok (.iload_n 2, 1) := sorry
theorem dX11_mostNow_39 : decode cX11_mostNow 39 = .ok (.iaload, 1) := sorry
theorem dX11_mostNow_40 : decode cX11_mostNow 40 = .ok (.goto 4, 3) := sorry
theorem dX11_mostNow_43 : decode cX11_mostNow 43 = .ok (.iload_n 1, 1) := sorry
theorem dX11_mostNow_44 : decode cX11_mostNow 44 = .ok (.istore_n 1, 1) := sorry
theorem dX11_mostNow_45 : decode cX11_mostNow 45 = .ok (.iinc 2 1, 3) := sorry
theorem dX11_mostNow_48 : decode cX11_mostNow 48 = .ok (.goto (-33), 3) := sorry
theorem dX11_mostNow_51 : decode cX11_mostNow 51 = .ok (.iload_n 1, 1) := sorry
theorem dX11_mostNow_52 : decode cX11_mostNow 52 = .ok (.ireturn, 1) := sorry
set_option maxRecDepth 20000 in
theorem ggX11_most_X11_mostNow : GoodIn wsX11_most wsX11_mostNow := sorry
set_option maxRecDepth 20000 in
theorem gX11_most_X11_mostNow : GoodIn wsX11_most (wsV RX11 272 RX11 yX11_mostNow wsX11_mostNow) := sorry
theorem dX11_most_0 : decode cX11_most 0 = .ok (.aload_n 0, 1) := sorry
theorem dX11_most_1 : decode cX11_most 1 = .ok (.iconst 0, 1) := sorry
theorem dX11_most_2 : decode cX11_most 2 = .ok (.putfield 85, 3) := sorry
theorem dX11_most_5 : decode cX11_most 5 = .ok (.aload_n 0, 1) := sorry
theorem dX11_most_6 : decode cX11_most 6 = .ok (.invokevirtual 272, 3) := sorry
theorem dX11_most_9 : decode cX11_most 9 = .ok (.ireturn, 1) := sorry
set_option maxRecDepth 20000 in
theorem ggX11_serves_X11_in : GoodIn wsX11_serves wsX11_in := sorry
set_option maxRecDepth 20000 in
theorem gX11_serves_X11_in : GoodIn wsX11_serves (va_wsS RX11 119 yX11_in wsX11_in) := sorry
set_option maxRecDepth 20000 in
theorem ggX11_serves_X11_bad : GoodIn wsX11_serves wsX11_bad := sorry
set_option maxRecDepth 20000 in
theorem gX11_serves_X11_bad : GoodIn wsX11_serves (wsV RX11 151 RX11 yX11_bad wsX11_bad) := sorry
set_option maxRecDepth 20000 in
theorem ggX11_serves_X11_mostNow : GoodIn wsX11_serves wsX11_mostNow := sorry
set_option maxRecDepth 20000 in
theorem gX11_serves_X11_mostNow : GoodIn wsX11_serves (wsV RX11 272 RX11 yX11_mostNow wsX11_mostNow) := sorry
set_option maxRecDepth 20000 in
theorem ggX11_serves_X11_mayServe : GoodIn wsX11_serves wsX11_mayServe := sorry
set_option maxRecDepth 20000 in
theorem gX11_serves_X11_mayServe : GoodIn wsX11_serves (va_wsS RX11 266 yX11_mayServe wsX11_mayServe) := sorry
theorem dX11_serves_0 : decode cX11_serves 0 = .ok (.aload_n 0, 1) := sorry
theorem dX11_serves_1 : decode cX11_serves 1 = .ok (.iconst 0, 1) := sorry
theorem dX11_serves_2 : decode cX11_serves 2 = .ok (.putfield 85, 3) := sorry
theorem dX11_serves_5 : decode cX11_serves 5 = .ok (.aload_n 0, 1) := sorry
theorem dX11_serves_6 : decode cX11_serves 6 = .ok (.iload_n 1, 1) := sorry
theorem dX11_serves_7 : decode cX11_serves 7 = .ok (.iconst 0, 1) := sorry
theorem dX11_serves_8 : decode cX11_serves 8 = .ok (.bipush 11, 2) := sorry
theorem dX11_serves_10 : decode cX11_serves 10 = .ok (.invokestatic 119, 3) := sorry
theorem dX11_serves_13 : decode cX11_serves 13 = .ok (.ifCond .ne 7, 3) := sorry
theorem dX11_serves_16 : decode cX11_serves 16 = .ok (.iconst 1, 1) := sorry
theorem dX11_serves_17 : decode cX11_serves 17 = .ok (.goto 4, 3) := sorry
theorem dX11_serves_20 : decode cX11_serves 20 = .ok (.iconst 0, 1) := sorry
theorem dX11_serves_21 : decode cX11_serves 21 = .ok (.iconst 1, 1) := sorry
theorem dX11_serves_22 : decode cX11_serves 22 = .ok (.iconst 2, 1) := sorry
theorem dX11_serves_23 : decode cX11_serves 23 = .ok (.invokevirtual 151, 3) := sorry
theorem dX11_serves_26 : decode cX11_serves 26 = .ok (.ifCond .eq 5, 3) := sorry
theorem dX11_serves_29 : decode cX11_serves 29 = .ok (.iconst 0, 1) := sorry
theorem dX11_serves_30 : decode cX11_serves 30 = .ok (.ireturn, 1) := sorry
theorem dX11_serves_31 : decode cX11_serves 31 = .ok (.aload_n 0, 1) := sorry
theorem dX11_serves_32 : decode cX11_serves 32 = .ok (.invokevirtual 272, 3) := sorry
theorem dX11_serves_35 : decode cX11_serves 35 = .ok (.istore_n 2, 1) := sorry
theorem dX11_serves_36 : decode cX11_serves 36 = .ok (.iconst 0, 1) := sorry
theorem dX11_serves_37 : decode cX11_serves 37 = .ok (.istore_n 3, 1) := sorry
theorem dX11_serves_38 : decode cX11_serves 38 = .ok (.iconst 0, 1) := sorry
theorem dX11_serves_39 : decode cX11_serves 39 = .ok (.istore 4, 2) := sorry
theorem dX11_serves_41 : decode cX11_serves 41 = .ok (.iconst 0, 1) := sorry
theorem dX11_serves_42 : decode cX11_serves 42 = .ok (.istore 5, 2) := sorry
theorem dX11_serves_44 : decode cX11_serves 44 = .ok (.iload 5, 2) := sorry
theorem dX11_serves_46 : decode cX11_serves 46 = .ok (.iload_n 1, 1) := sorry
theorem dX11_serves_47 : decode cX11_serves 47 = .ok (.if_icmp .gt 68, 3) := sorry
theorem dX11_serves_50 : decode cX11_serves 50 = .ok (.iconst 0, 1) := sorry
theorem dX11_serves_51 : decode cX11_serves 51 = .ok (.istore 4, 2) := sorry
theorem dX11_serves_53 : decode cX11_serves 53 = .ok (.iload_n 3, 1) := sorry
theorem dX11_serves_54 : decode cX11_serves 54 = .ok (.iload 4, 2) := sorry
theorem dX11_serves_56 : decode cX11_serves 56 = .ok (.invokestatic 266, 3) := sorry
theorem dX11_serves_59 : decode cX11_serves 59 = .ok (.ifCond .eq 17, 3) := sorry
theorem dX11_serves_62 : decode cX11_serves 62 = .ok (.aload_n 0, 1) := sorry
theorem dX11_serves_63 : decode cX11_serves 63 = .ok (.getfield 76, 3) := sorry
theorem dX11_serves_66 : decode cX11_serves 66 = .ok (.iload 5, 2) := sorry
theorem dX11_serves_68 : decode cX11_serves 68 = .ok (.aaload, 1) := sorry
theorem dX11_serves_69 : decode cX11_serves 69 = .ok (.iload 4, 2) := sorry
theorem dX11_serves_71 : decode cX11_serves 71 = .ok (.iaload, 1) := sorry
theorem dX11_serves_72 : decode cX11_serves 72 = .ok (.iload_n 2, 1) := sorry
theorem dX11_serves_73 : decode cX11_serves 73 = .ok (.if_icmp .eq 9, 3) := sorry
theorem dX11_serves_76 : decode cX11_serves 76 = .ok (.iinc 4 1, 3) := sorry
theorem dX11_serves_79 : decode cX11_serves 79 = .ok (.goto (-26), 3) := sorry
theorem dX11_serves_82 : decode cX11_serves 82 = .ok (.iload_n 2, 1) := sorry
theorem dX11_serves_83 : decode cX11_serves 83 = .ok (.iload 4, 2) := sorry
theorem dX11_serves_85 : decode cX11_serves 85 = .ok (.ifCond .ne 7, 3) := sorry
theorem dX11_serves_88 : decode cX11_serves 88 = .ok (.iconst 0, 1) := sorry
theorem dX11_serves_89 : decode cX11_serves 89 = .ok (.goto 15, 3) := sorry
theorem dX11_serves_92 : decode cX11_serves 92 = .ok (.aload_n 0, 1) := sorry
theorem dX11_serves_93 : decode cX11_serves 93 = .ok (.getfield 70, 3) := sorry
theorem dX11_serves_96 : decode cX11_serves 96 = .ok (.iload 4, 2) := sorry
theorem dX11_serves_98 : decode cX11_serves 98 = .ok (.iconst 1, 1) := sorry
theorem dX11_serves_99 : decode cX11_serves 99 = .ok (.isub, 1) := sorry
theorem dX11_serves_100 : decode cX11_serves 100 = .ok (.aaload, 1) := sorry
theorem dX11_serves_101 : decode cX11_serves 101 = .ok (.iload 5, 2) := sorry
theorem dX11_serves_103 : decode cX11_serves 103 = .ok (.iaload, 1) := sorry
theorem dX11_serves_104 : decode cX11_serves 104 = .ok (.isub, 1) := sorry
theorem dX11_serves_105 : decode cX11_serves 105 = .ok (.istore_n 2, 1) := sorry
theorem dX11_serves_106 : decode cX11_serves 106 = .ok (.iload 4, 2) := sorry
theorem dX11_serves_108 : decode cX11_serves 108 = .ok (.istore_n 3, 1) := sorry
theorem dX11_serves_109 : decode cX11_serves 109 = .ok (.iinc 5 1, 3) := sorry
theorem dX11_serves_112 : decode cX11_serves 112 = .ok (.goto (-68), 3) := sorry
theorem dX11_serves_115 : decode cX11_serves 115 = .ok (.iload 4, 2) := sorry
theorem dX11_serves_117 : decode cX11_serves 117 = .ok (.ireturn, 1) := sorry
theorem dX11_moves_0 : decode cX11_moves 0 = .ok (.iload_n 3, 1) := sorry
theorem dX11_moves_1 : decode cX11_moves 1 = .ok (.ifCond .ne 10, 3) := sorry
theorem dX11_moves_4 : decode cX11_moves 4 = .ok (.aload_n 1, 1) := sorry
theorem dX11_moves_5 : decode cX11_moves 5 = .ok (.aload_n 0, 1) := sorry
theorem dX11_moves_6 : decode cX11_moves 6 = .ok (.getfield 275, 3) := sorry
theorem dX11_moves_9 : decode cX11_moves 9 = .ok (.iload_n 2, 1) := sorry
theorem dX11_moves_10 : decode cX11_moves 10 = .ok (.iastore, 1) := sorry
theorem dX11_moves_11 : decode cX11_moves 11 = .ok (.aload_n 0, 1) := sorry
theorem dX11_moves_12 : decode cX11_moves 12 = .ok (.dup, 1) := sorry
theorem dX11_moves_13 : decode cX11_moves 13 = .ok (.getfield 275, 3) := sorry
theorem dX11_moves_16 : decode cX11_moves 16 = .ok (.iconst 1, 1) := sorry
theorem dX11_moves_17 : decode cX11_moves 17 = .ok (.iadd, 1) := sorry
theorem dX11_moves_18 : decode cX11_moves 18 = .ok (.putfield 275, 3) := sorry
theorem dX11_moves_21 : decode cX11_moves 21 = .ok (.aload_n 1, 1) := sorry
theorem dX11_moves_22 : decode cX11_moves 22 = .ok (.aload_n 0, 1) := sorry
theorem dX11_moves_23 : decode cX11_moves 23 = .ok (.getfield 275, 3) := sorry
theorem dX11_moves_26 : decode cX11_moves 26 = .ok (.iconst 1, 1) := sorry
theorem dX11_moves_27 : decode cX11_moves 27 = .ok (.isub, 1) := sorry
theorem dX11_moves_28 : decode cX11_moves 28 = .ok (.iaload, 1) := sorry
theorem dX11_moves_29 : decode cX11_moves 29 = .ok (.ireturn, 1) := sorry
set_option maxRecDepth 20000 in
theorem ggX11_movesAll_X11_moves : GoodIn wsX11_movesAll wsX11_moves := sorry
set_option maxRecDepth 20000 in
theorem gX11_movesAll_X11_moves : GoodIn wsX11_movesAll (wsV RX11 278 RX11 yX11_moves wsX11_moves) := sorry
theorem dX11_movesAll_0 : decode cX11_movesAll 0 = .ok (.aload_n 0, 1) := sorry
theorem dX11_movesAll_1 : decode cX11_movesAll 1 = .ok (.iconst 0, 1) := sorry
theorem dX11_movesAll_2 : decode cX11_movesAll 2 = .ok (.putfield 275, 3) := sorry
theorem dX11_movesAll_5 : decode cX11_movesAll 5 = .ok (.aload_n 0, 1) := sorry
theorem dX11_movesAll_6 : decode cX11_movesAll 6 = .ok (.aload_n 0, 1) := sorry
theorem dX11_movesAll_7 : decode cX11_movesAll 7 = .ok (.aload_n 1, 1) := sorry
theorem dX11_movesAll_8 : decode cX11_movesAll 8 = .ok (.aload_n 0, 1) := sorry
theorem dX11_movesAll_9 : decode cX11_movesAll 9 = .ok (.getfield 58, 3) := sorry
theorem dX11_movesAll_12 : decode cX11_movesAll 12 = .ok (.iload_n 2, 1) := sorry
theorem dX11_movesAll_13 : decode cX11_movesAll 13 = .ok (.invokevirtual 278, 3) := sorry
theorem dX11_movesAll_16 : decode cX11_movesAll 16 = .ok (.putfield 58, 3) := sorry
theorem dX11_movesAll_19 : decode cX11_movesAll 19 = .ok (.aload_n 0, 1) := sorry
theorem dX11_movesAll_20 : decode cX11_movesAll 20 = .ok (.aload_n 0, 1) := sorry
theorem dX11_movesAll_21 : decode cX11_movesAll 21 = .ok (.aload_n 1, 1) := sorry
theorem dX11_movesAll_22 : decode cX11_movesAll 22 = .ok (.aload_n 0, 1) := sorry
theorem dX11_movesAll_23 : decode cX11_movesAll 23 = .ok (.getfield 61, 3) := sorry
theorem dX11_movesAll_26 : decode cX11_movesAll 26 = .ok (.iload_n 2, 1) := sorry
theorem dX11_movesAll_27 : decode cX11_movesAll 27 = .ok (.invokevirtual 278, 3) := sorry
theorem dX11_movesAll_30 : decode cX11_movesAll 30 = .ok (.putfield 61, 3) := sorry
theorem dX11_movesAll_33 : decode cX11_movesAll 33 = .ok (.aload_n 0, 1) := sorry
theorem dX11_movesAll_34 : decode cX11_movesAll 34 = .ok (.aload_n 0, 1) := sorry
theorem dX11_movesAll_35 : decode cX11_movesAll 35 = .ok (.aload_n 1, 1) := sorry
theorem dX11_movesAll_36 : decode cX11_movesAll 36 = .ok (.aload_n 0, 1) := sorry
theorem dX11_movesAll_37 : decode cX11_movesAll 37 = .ok (.getfield 165, 3) := sorry
theorem dX11_movesAll_40 : decode cX11_movesAll 40 = .ok (.iload_n 2, 1) := sorry
theorem dX11_movesAll_41 : decode cX11_movesAll 41 = .ok (.invokevirtual 278, 3) := sorry
theorem dX11_movesAll_44 : decode cX11_movesAll 44 = .ok (.putfield 165, 3) := sorry
theorem dX11_movesAll_47 : decode cX11_movesAll 47 = .ok (.iconst 0, 1) := sorry
theorem dX11_movesAll_48 : decode cX11_movesAll 48 = .ok (.istore_n 3, 1) := sorry
theorem dX11_movesAll_49 : decode cX11_movesAll 49 = .ok (.iload_n 3, 1) := sorry
theorem dX11_movesAll_50 : decode cX11_movesAll 50 = .ok (.iconst 4, 1) := sorry
theorem dX11_movesAll_51 : decode cX11_movesAll 51 = .ok (.if_icmp .ge 48, 3) := sorry
theorem dX11_movesAll_54 : decode cX11_movesAll 54 = .ok (.iconst 0, 1) := sorry
theorem dX11_movesAll_55 : decode cX11_movesAll 55 = .ok (.istore 4, 2) := sorry
theorem dX11_movesAll_57 : decode cX11_movesAll 57 = .ok (.iload 4, 2) := sorry
theorem dX11_movesAll_59 : decode cX11_movesAll 59 = .ok (.iconst 2, 1) := sorry
theorem dX11_movesAll_60 : decode cX11_movesAll 60 = .ok (.if_icmp .ge 33, 3) := sorry
theorem dX11_movesAll_63 : decode cX11_movesAll 63 = .ok (.aload_n 0, 1) := sorry
theorem dX11_movesAll_64 : decode cX11_movesAll 64 = .ok (.getfield 64, 3) := sorry
theorem dX11_movesAll_67 : decode cX11_movesAll 67 = .ok (.iload_n 3, 1) := sorry
theorem dX11_movesAll_68 : decode cX11_movesAll 68 = .ok (.aaload, 1) := sorry
theorem dX11_movesAll_69 : decode cX11_movesAll 69 = .ok (.iload 4, 2) := sorry
theorem dX11_movesAll_71 : decode cX11_movesAll 71 = .ok (.aload_n 0, 1) := sorry
theorem dX11_movesAll_72 : decode cX11_movesAll 72 = .ok (.aload_n 1, 1) := sorry
theorem dX11_movesAll_73 : decode cX11_movesAll 73 = .ok (.aload_n 0, 1) := sorry
theorem dX11_movesAll_74 : decode cX11_movesAll 74 = .ok (.getfield 64, 3) := sorry
theorem dX11_movesAll_77 : decode cX11_movesAll 77 = .ok (.iload_n 3, 1) := sorry
theorem dX11_movesAll_78 : decode cX11_movesAll 78 = .ok (.aaload, 1) := sorry
theorem dX11_movesAll_79 : decode cX11_movesAll 79 = .ok (.iload 4, 2) := sorry
theorem dX11_movesAll_81 : decode cX11_movesAll 81 = .ok (.iaload, 1) := sorry
theorem dX11_movesAll_82 : decode cX11_movesAll 82 = .ok (.iload_n 2, 1) := sorry
theorem dX11_movesAll_83 : decode cX11_movesAll 83 = .ok (.invokevirtual 278, 3) := sorry
theorem dX11_movesAll_86 : decode cX11_movesAll 86 = .ok (.iastore, 1) := sorry
theorem dX11_movesAll_87 : decode cX11_movesAll 87 = .ok (.iinc 4 1, 3) := sorry
theorem dX11_movesAll_90 : decode cX11_movesAll 90 = .ok (.goto (-33), 3) := sorry
theorem dX11_movesAll_93 : decode cX11_movesAll 93 = .ok (.iinc 3 1, 3) := sorry
theorem dX11_movesAll_96 : decode cX11_movesAll 96 = .ok (.goto (-47), 3) := sorry
theorem dX11_movesAll_99 : decode cX11_movesAll 99 = .ok (.iconst 0, 1) := sorry
theorem dX11_movesAll_100 : decode cX11_movesAll 100 = .ok (.istore_n 3, 1) := sorry
theorem dX11_movesAll_101 : decode cX11_movesAll 101 = .ok (.iload_n 3, 1) := sorry
theorem dX11_movesAll_102 : decode cX11_movesAll 102 = .ok (.bipush 12, 2) := sorry
theorem dX11_movesAll_104 : decode cX11_movesAll 104 = .ok (.if_icmp .ge 48, 3) := sorry
theorem dX11_movesAll_107 : decode cX11_movesAll 107 = .ok (.iconst 0, 1) := sorry
theorem dX11_movesAll_108 : decode cX11_movesAll 108 = .ok (.istore 4, 2) := sorry
theorem dX11_movesAll_110 : decode cX11_movesAll 110 = .ok (.iload 4, 2) := sorry
theorem dX11_movesAll_112 : decode cX11_movesAll 112 = .ok (.iconst 2, 1) := sorry
theorem dX11_movesAll_113 : decode cX11_movesAll 113 = .ok (.if_icmp .ge 33, 3) := sorry
theorem dX11_movesAll_116 : decode cX11_movesAll 116 = .ok (.aload_n 0, 1) := sorry
theorem dX11_movesAll_117 : decode cX11_movesAll 117 = .ok (.getfield 67, 3) := sorry
theorem dX11_movesAll_120 : decode cX11_movesAll 120 = .ok (.iload_n 3, 1) := sorry
theorem dX11_movesAll_121 : decode cX11_movesAll 121 = .ok (.aaload, 1) := sorry
theorem dX11_movesAll_122 : decode cX11_movesAll 122 = .ok (.iload 4, 2) := sorry
theorem dX11_movesAll_124 : decode cX11_movesAll 124 = .ok (.aload_n 0, 1) := sorry
theorem dX11_movesAll_125 : decode cX11_movesAll 125 = .ok (.aload_n 1, 1) := sorry
theorem dX11_movesAll_126 : decode cX11_movesAll 126 = .ok (.aload_n 0, 1) := sorry
theorem dX11_movesAll_127 : decode cX11_movesAll 127 = .ok (.getfield 67, 3) := sorry
theorem dX11_movesAll_130 : decode cX11_movesAll 130 = .ok (.iload_n 3, 1) := sorry
theorem dX11_movesAll_131 : decode cX11_movesAll 131 = .ok (.aaload, 1) := sorry
theorem dX11_movesAll_132 : decode cX11_movesAll 132 = .ok (.iload 4, 2) := sorry
theorem dX11_movesAll_134 : decode cX11_movesAll 134 = .ok (.iaload, 1) := sorry
theorem dX11_movesAll_135 : decode cX11_movesAll 135 = .ok (.iload_n 2, 1) := sorry
theorem dX11_movesAll_136 : decode cX11_movesAll 136 = .ok (.invokevirtual 278, 3) := sorry
theorem dX11_movesAll_139 : decode cX11_movesAll 139 = .ok (.iastore, 1) := sorry
theorem dX11_movesAll_140 : decode cX11_movesAll 140 = .ok (.iinc 4 1, 3) := sorry
theorem dX11_movesAll_143 : decode cX11_movesAll 143 = .ok (.goto (-33), 3) := sorry
theorem dX11_movesAll_146 : decode cX11_movesAll 146 = .ok (.iinc 3 1, 3) := sorry
theorem dX11_movesAll_149 : decode cX11_movesAll 149 = .ok (.goto (-48), 3) := sorry
theorem dX11_movesAll_152 : decode cX11_movesAll 152 = .ok (.iconst 0, 1) := sorry
theorem dX11_movesAll_153 : decode cX11_movesAll 153 = .ok (.istore_n 3, 1) := sorry
theorem dX11_movesAll_154 : decode cX11_movesAll 154 = .ok (.iload_n 3, 1) := sorry
theorem dX11_movesAll_155 : decode cX11_movesAll 155 = .ok (.bipush 12, 2) := sorry
theorem dX11_movesAll_157 : decode cX11_movesAll 157 = .ok (.if_icmp .ge 48, 3) := sorry
theorem dX11_movesAll_160 : decode cX11_movesAll 160 = .ok (.iconst 0, 1) := sorry
theorem dX11_movesAll_161 : decode cX11_movesAll 161 = .ok (.istore 4, 2) := sorry
theorem dX11_movesAll_163 : decode cX11_movesAll 163 = .ok (.iload 4, 2) := sorry
theorem dX11_movesAll_165 : decode cX11_movesAll 165 = .ok (.iconst 2, 1) := sorry
theorem dX11_movesAll_166 : decode cX11_movesAll 166 = .ok (.if_icmp .ge 33, 3) := sorry
theorem dX11_movesAll_169 : decode cX11_movesAll 169 = .ok (.aload_n 0, 1) := sorry
theorem dX11_movesAll_170 : decode cX11_movesAll 170 = .ok (.getfield 70, 3) := sorry
theorem dX11_movesAll_173 : decode cX11_movesAll 173 = .ok (.iload 4, 2) := sorry
theorem dX11_movesAll_175 : decode cX11_movesAll 175 = .ok (.aaload, 1) := sorry
theorem dX11_movesAll_176 : decode cX11_movesAll 176 = .ok (.iload_n 3, 1) := sorry
theorem dX11_movesAll_177 : decode cX11_movesAll 177 = .ok (.aload_n 0, 1) := sorry
theorem dX11_movesAll_178 : decode cX11_movesAll 178 = .ok (.aload_n 1, 1) := sorry
theorem dX11_movesAll_179 : decode cX11_movesAll 179 = .ok (.aload_n 0, 1) := sorry
theorem dX11_movesAll_180 : decode cX11_movesAll 180 = .ok (.getfield 70, 3) := sorry
theorem dX11_movesAll_183 : decode cX11_movesAll 183 = .ok (.iload 4, 2) := sorry
theorem dX11_movesAll_185 : decode cX11_movesAll 185 = .ok (.aaload, 1) := sorry
theorem dX11_movesAll_186 : decode cX11_movesAll 186 = .ok (.iload_n 3, 1) := sorry
theorem dX11_movesAll_187 : decode cX11_movesAll 187 = .ok (.iaload, 1) := sorry
theorem dX11_movesAll_188 : decode cX11_movesAll 188 = .ok (.iload_n 2, 1) := sorry
theorem dX11_movesAll_189 : decode cX11_movesAll 189 = .ok (.invokevirtual 278, 3) := sorry
theorem dX11_movesAll_192 : decode cX11_movesAll 192 = .ok (.iastore, 1) := sorry
theorem dX11_movesAll_193 : decode cX11_movesAll 193 = .ok (.iinc 4 1, 3) := sorry
theorem dX11_movesAll_196 : decode cX11_movesAll 196 = .ok (.goto (-33), 3) := sorry
theorem dX11_movesAll_199 : decode cX11_movesAll 199 = .ok (.iinc 3 1, 3) := sorry
theorem dX11_movesAll_202 : decode cX11_movesAll 202 = .ok (.goto (-48), 3) := sorry
theorem dX11_movesAll_205 : decode cX11_movesAll 205 = .ok (.iconst 0, 1) := sorry
theorem dX11_movesAll_206 : decode cX11_movesAll 206 = .ok (.istore_n 3, 1) := sorry
theorem dX11_movesAll_207 : decode cX11_movesAll 207 = .ok (.iload_n 3, 1) := sorry
theorem dX11_movesAll_208 : decode cX11_movesAll 208 = .ok (.bipush 25, 2) := sorry
theorem dX11_movesAll_210 : decode cX11_movesAll 210 = .ok (.if_icmp .ge 27, 3) := sorry
theorem dX11_movesAll_213 : decode cX11_movesAll 213 = .ok (.aload_n 0, 1) := sorry
theorem dX11_movesAll_214 : decode cX11_movesAll 214 = .ok (.getfield 46, 3) := sorry
theorem dX11_movesAll_217 : decode cX11_movesAll 217 = .ok (.iload_n 3, 1) := sorry
theorem dX11_movesAll_218 : decode cX11_movesAll 218 = .ok (.aload_n 0, 1) := sorry
theorem dX11_movesAll_219 : decode cX11_movesAll 219 = .ok (.aload_n 1, 1) := sorry
theorem dX11_movesAll_220 : decode cX11_movesAll 220 = .ok (.aload_n 0, 1) := sorry
theorem dX11_movesAll_221 : decode cX11_movesAll 221 = .ok (.getfield 46, 3) := sorry
theorem dX11_movesAll_224 : decode cX11_movesAll 224 = .ok (.iload_n 3, 1) := sorry
theorem dX11_movesAll_225 : decode cX11_movesAll 225 = .ok (.iaload, 1) := sorry
theorem dX11_movesAll_226 : decode cX11_movesAll 226 = .ok (.iload_n 2, 1) := sorry
theorem dX11_movesAll_227 : decode cX11_movesAll 227 = .ok (.invokevirtual 278, 3) := sorry
theorem dX11_movesAll_230 : decode cX11_movesAll 230 = .ok (.iastore, 1) := sorry
theorem dX11_movesAll_231 : decode cX11_movesAll 231 = .ok (.iinc 3 1, 3) := sorry
theorem dX11_movesAll_234 : decode cX11_movesAll 234 = .ok (.goto (-27), 3) := sorry
theorem dX11_movesAll_237 : decode cX11_movesAll 237 = .ok (.iconst 0, 1) := sorry
theorem dX11_movesAll_238 : decode cX11_movesAll 238 = .ok (.istore_n 3, 1) := sorry
theorem dX11_movesAll_239 : decode cX11_movesAll 239 = .ok (.iload_n 3, 1) := sorry
theorem dX11_movesAll_240 : decode cX11_movesAll 240 = .ok (.bipush 120, 2) := sorry
theorem dX11_movesAll_242 : decode cX11_movesAll 242 = .ok (.if_icmp .gt 49, 3) := sorry
theorem dX11_movesAll_245 : decode cX11_movesAll 245 = .ok (.iconst 0, 1) := sorry
theorem dX11_movesAll_246 : decode cX11_movesAll 246 = .ok (.istore 4, 2) := sorry
theorem dX11_movesAll_248 : decode cX11_movesAll 248 = .ok (.iload 4, 2) := sorry
theorem dX11_movesAll_250 : decode cX11_movesAll 250 = .ok (.bipush 25, 2) := sorry
theorem dX11_movesAll_252 : decode cX11_movesAll 252 = .ok (.if_icmp .ge 33, 3) := sorry
theorem dX11_movesAll_255 : decode cX11_movesAll 255 = .ok (.aload_n 0, 1) := sorry
theorem dX11_movesAll_256 : decode cX11_movesAll 256 = .ok (.getfield 52, 3) := sorry
theorem dX11_movesAll_259 : decode cX11_movesAll 259 = .ok (.iload_n 3, 1) := sorry
theorem dX11_movesAll_260 : decode cX11_movesAll 260 = .ok (.aaload, 1) := sorry
theorem dX11_movesAll_261 : decode cX11_movesAll 261 = .ok (.iload 4, 2) := sorry
theorem dX11_movesAll_263 : decode cX11_movesAll 263 = .ok (.aload_n 0, 1) := sorry
theorem dX11_movesAll_264 : decode cX11_movesAll 264 = .ok (.aload_n 1, 1) := sorry
theorem dX11_movesAll_265 : decode cX11_movesAll 265 = .ok (.aload_n 0, 1) := sorry
theorem dX11_movesAll_266 : decode cX11_movesAll 266 = .ok (.getfield 52, 3) := sorry
theorem dX11_movesAll_269 : decode cX11_movesAll 269 = .ok (.iload_n 3, 1) := sorry
theorem dX11_movesAll_270 : decode cX11_movesAll 270 = .ok (.aaload, 1) := sorry
theorem dX11_movesAll_271 : decode cX11_movesAll 271 = .ok (.iload 4, 2) := sorry
theorem dX11_movesAll_273 : decode cX11_movesAll 273 = .ok (.iaload, 1) := sorry
theorem dX11_movesAll_274 : decode cX11_movesAll 274 = .ok (.iload_n 2, 1) := sorry
theorem dX11_movesAll_275 : decode cX11_movesAll 275 = .ok (.invokevirtual 278, 3) := sorry
theorem dX11_movesAll_278 : decode cX11_movesAll 278 = .ok (.iastore, 1) := sorry
theorem dX11_movesAll_279 : decode cX11_movesAll 279 = .ok (.iinc 4 1, 3) := sorry
theorem dX11_movesAll_282 : decode cX11_movesAll 282 = .ok (.goto (-34), 3) := sorry
theorem dX11_movesAll_285 : decode cX11_movesAll 285 = .ok (.iinc 3 1, 3) := sorry
theorem dX11_movesAll_288 : decode cX11_movesAll 288 = .ok (.goto (-49), 3) := sorry
theorem dX11_movesAll_291 : decode cX11_movesAll 291 = .ok (.iconst 0, 1) := sorry
theorem dX11_movesAll_292 : decode cX11_movesAll 292 = .ok (.istore_n 3, 1) := sorry
theorem dX11_movesAll_293 : decode cX11_movesAll 293 = .ok (.iload_n 3, 1) := sorry
theorem dX11_movesAll_294 : decode cX11_movesAll 294 = .ok (.bipush 120, 2) := sorry
theorem dX11_movesAll_296 : decode cX11_movesAll 296 = .ok (.if_icmp .ge 49, 3) := sorry
theorem dX11_movesAll_299 : decode cX11_movesAll 299 = .ok (.iconst 0, 1) := sorry
theorem dX11_movesAll_300 : decode cX11_movesAll 300 = .ok (.istore 4, 2) := sorry
theorem dX11_movesAll_302 : decode cX11_movesAll 302 = .ok (.iload 4, 2) := sorry
theorem dX11_movesAll_304 : decode cX11_movesAll 304 = .ok (.bipush 6, 2) := sorry
theorem dX11_movesAll_306 : decode cX11_movesAll 306 = .ok (.if_icmp .ge 33, 3) := sorry
theorem dX11_movesAll_309 : decode cX11_movesAll 309 = .ok (.aload_n 0, 1) := sorry
theorem dX11_movesAll_310 : decode cX11_movesAll 310 = .ok (.getfield 55, 3) := sorry
theorem dX11_movesAll_313 : decode cX11_movesAll 313 = .ok (.iload_n 3, 1) := sorry
theorem dX11_movesAll_314 : decode cX11_movesAll 314 = .ok (.aaload, 1) := sorry
theorem dX11_movesAll_315 : decode cX11_movesAll 315 = .ok (.iload 4, 2) := sorry
theorem dX11_movesAll_317 : decode cX11_movesAll 317 = .ok (.aload_n 0, 1) := sorry
theorem dX11_movesAll_318 : decode cX11_movesAll 318 = .ok (.aload_n 1, 1) := sorry
theorem dX11_movesAll_319 : decode cX11_movesAll 319 = .ok (.aload_n 0, 1) := sorry
theorem dX11_movesAll_320 : decode cX11_movesAll 320 = .ok (.getfield 55, 3) := sorry
theorem dX11_movesAll_323 : decode cX11_movesAll 323 = .ok (.iload_n 3, 1) := sorry
theorem dX11_movesAll_324 : decode cX11_movesAll 324 = .ok (.aaload, 1) := sorry
theorem dX11_movesAll_325 : decode cX11_movesAll 325 = .ok (.iload 4, 2) := sorry
theorem dX11_movesAll_327 : decode cX11_movesAll 327 = .ok (.iaload, 1) := sorry
theorem dX11_movesAll_328 : decode cX11_movesAll 328 = .ok (.iload_n 2, 1) := sorry
theorem dX11_movesAll_329 : decode cX11_movesAll 329 = .ok (.invokevirtual 278, 3) := sorry
theorem dX11_movesAll_332 : decode cX11_movesAll 332 = .ok (.iastore, 1) := sorry
theorem dX11_movesAll_333 : decode cX11_movesAll 333 = .ok (.iinc 4 1, 3) := sorry
theorem dX11_movesAll_336 : decode cX11_movesAll 336 = .ok (.goto (-34), 3) := sorry
theorem dX11_movesAll_339 : decode cX11_movesAll 339 = .ok (.iinc 3 1, 3) := sorry
theorem dX11_movesAll_342 : decode cX11_movesAll 342 = .ok (.goto (-49), 3) := sorry
theorem dX11_movesAll_345 : decode cX11_movesAll 345 = .ok (.return_, 1) := sorry
set_option maxRecDepth 20000 in
theorem ggX11_image_X11_movesAll : GoodIn wsX11_image wsX11_movesAll := sorry
set_option maxRecDepth 20000 in
theorem gX11_image_X11_movesAll : GoodIn wsX11_image (wsV RX11 282 RX11 yX11_movesAll wsX11_movesAll) := sorry
theorem dX11_image_0 : decode cX11_image 0 = .ok (.aload_n 0, 1) := sorry
theorem dX11_image_1 : decode cX11_image 1 = .ok (.iconst 0, 1) := sorry
theorem dX11_image_2 : decode cX11_image 2 = .ok (.putfield 85, 3) := sorry
theorem dX11_image_5 : decode cX11_image 5 = .ok (.aload_n 0, 1) := sorry
theorem dX11_image_6 : decode cX11_image 6 = .ok (.getfield 168, 3) := sorry
theorem dX11_image_9 : decode cX11_image 9 = .ok (.iconst 3, 1) := sorry
theorem dX11_image_10 : decode cX11_image 10 = .ok (.if_icmp .ne 5, 3) := sorry
theorem dX11_image_13 : decode cX11_image 13 = .ok (.iconst (-1), 1) := sorry
theorem dX11_image_14 : decode cX11_image 14 = .ok (.ireturn, 1) := sorry
theorem dX11_image_15 : decode cX11_image 15 = .ok (.aload_n 0, 1) := sorry
theorem dX11_image_16 : decode cX11_image 16 = .ok (.aload_n 0, 1) := sorry
theorem dX11_image_17 : decode cX11_image 17 = .ok (.getfield 73, 3) := sorry
theorem dX11_image_20 : decode cX11_image 20 = .ok (.aload_n 0, 1) := sorry
theorem dX11_image_21 : decode cX11_image 21 = .ok (.getfield 168, 3) := sorry
theorem dX11_image_24 : decode cX11_image 24 = .ok (.aaload, 1) := sorry
theorem dX11_image_25 : decode cX11_image 25 = .ok (.iconst 0, 1) := sorry
theorem dX11_image_26 : decode cX11_image 26 = .ok (.invokevirtual 282, 3) := sorry
theorem dX11_image_29 : decode cX11_image 29 = .ok (.aload_n 0, 1) := sorry
theorem dX11_image_30 : decode cX11_image 30 = .ok (.dup, 1) := sorry
theorem dX11_image_31 : decode cX11_image 31 = .ok (.getfield 168, 3) := sorry
theorem dX11_image_34 : decode cX11_image 34 = .ok (.iconst 1, 1) := sorry
theorem dX11_image_35 : decode cX11_image 35 = .ok (.iadd, 1) := sorry
theorem dX11_image_36 : decode cX11_image 36 = .ok (.putfield 168, 3) := sorry
theorem dX11_image_39 : decode cX11_image 39 = .ok (.aload_n 0, 1) := sorry
theorem dX11_image_40 : decode cX11_image 40 = .ok (.getfield 168, 3) := sorry
theorem dX11_image_43 : decode cX11_image 43 = .ok (.ireturn, 1) := sorry
set_option maxRecDepth 20000 in
theorem ggX11_restore_X11_movesAll : GoodIn wsX11_restore wsX11_movesAll := sorry
set_option maxRecDepth 20000 in
theorem gX11_restore_X11_movesAll : GoodIn wsX11_restore (wsV RX11 282 RX11 yX11_movesAll wsX11_movesAll) := sorry
theorem dX11_restore_0 : decode cX11_restore 0 = .ok (.aload_n 0, 1) := sorry
theorem dX11_restore_1 : decode cX11_restore 1 = .ok (.iconst 0, 1) := sorry
theorem dX11_restore_2 : decode cX11_restore 2 = .ok (.putfield 85, 3) := sorry
theorem dX11_restore_5 : decode cX11_restore 5 = .ok (.aload_n 0, 1) := sorry
theorem dX11_restore_6 : decode cX11_restore 6 = .ok (.getfield 168, 3) := sorry
theorem dX11_restore_9 : decode cX11_restore 9 = .ok (.ifCond .ne 5, 3) := sorry
theorem dX11_restore_12 : decode cX11_restore 12 = .ok (.iconst (-1), 1) := sorry
theorem dX11_restore_13 : decode cX11_restore 13 = .ok (.ireturn, 1) := sorry
theorem dX11_restore_14 : decode cX11_restore 14 = .ok (.aload_n 0, 1) := sorry
theorem dX11_restore_15 : decode cX11_restore 15 = .ok (.dup, 1) := sorry
theorem dX11_restore_16 : decode cX11_restore 16 = .ok (.getfield 168, 3) := sorry
theorem dX11_restore_19 : decode cX11_restore 19 = .ok (.iconst 1, 1) := sorry
theorem dX11_restore_20 : decode cX11_restore 20 = .ok (.isub, 1) := sorry
theorem dX11_restore_21 : decode cX11_restore 21 = .ok (.putfield 168, 3) := sorry
theorem dX11_restore_24 : decode cX11_restore 24 = .ok (.aload_n 0, 1) := sorry
theorem dX11_restore_25 : decode cX11_restore 25 = .ok (.aload_n 0, 1) := sorry
theorem dX11_restore_26 : decode cX11_restore 26 = .ok (.getfield 73, 3) := sorry
theorem dX11_restore_29 : decode cX11_restore 29 = .ok (.aload_n 0, 1) := sorry
theorem dX11_restore_30 : decode cX11_restore 30 = .ok (.getfield 168, 3) := sorry
theorem dX11_restore_33 : decode cX11_restore 33 = .ok (.aaload, 1) := sorry
theorem dX11_restore_34 : decode cX11_restore 34 = .ok (.iconst 1, 1) := sorry
theorem dX11_restore_35 : decode cX11_restore 35 = .ok (.invokevirtual 282, 3) := sorry
theorem dX11_restore_38 : decode cX11_restore 38 = .ok (.aload_n 0, 1) := sorry
theorem dX11_restore_39 : decode cX11_restore 39 = .ok (.getfield 168, 3) := sorry
theorem dX11_restore_42 : decode cX11_restore 42 = .ok (.ireturn, 1) := sorry
set_option maxRecDepth 20000 in
theorem ggX11_status_X11_in : GoodIn wsX11_status wsX11_in := sorry
set_option maxRecDepth 20000 in
theorem gX11_status_X11_in : GoodIn wsX11_status (va_wsS RX11 119 yX11_in wsX11_in) := sorry
theorem dX11_status_0 : decode cX11_status 0 = .ok (.aload_n 0, 1) := sorry
theorem dX11_status_1 : decode cX11_status 1 = .ok (.iconst 0, 1) := sorry
theorem dX11_status_2 : decode cX11_status 2 = .ok (.putfield 85, 3) := sorry
theorem dX11_status_5 : decode cX11_status 5 = .ok (.iload_n 1, 1) := sorry
theorem dX11_status_6 : decode cX11_status 6 = .ok (.iconst 0, 1) := sorry
theorem dX11_status_7 : decode cX11_status 7 = .ok (.iconst 2, 1) := sorry
theorem dX11_status_8 : decode cX11_status 8 = .ok (.invokestatic 119, 3) := sorry
theorem dX11_status_11 : decode cX11_status 11 = .ok (.ifCond .eq 12, 3) := sorry
theorem dX11_status_14 : decode cX11_status 14 = .ok (.aload_n 0, 1) := sorry
theorem dX11_status_15 : decode cX11_status 15 = .ok (.getfield 17, 3) := sorry
theorem dX11_status_18 : decode cX11_status 18 = .ok (.iload_n 1, 1) := sorry
theorem dX11_status_19 : decode cX11_status 19 = .ok (.iaload, 1) := sorry
theorem dX11_status_20 : decode cX11_status 20 = .ok (.goto 4, 3) := sorry
theorem dX11_status_23 : decode cX11_status 23 = .ok (.iconst (-1), 1) := sorry
theorem dX11_status_24 : decode cX11_status 24 = .ok (.ireturn, 1) := sorry
theorem dX11_count_0 : decode cX11_count 0 = .ok (.aload_n 0, 1) := sorry
theorem dX11_count_1 : decode cX11_count 1 = .ok (.iconst 0, 1) := sorry
theorem dX11_count_2 : decode cX11_count 2 = .ok (.putfield 85, 3) := sorry
theorem dX11_count_5 : decode cX11_count 5 = .ok (.iload_n 1, 1) := sorry
theorem dX11_count_6 : decode cX11_count 6 = .ok (.ifCond .ne 10, 3) := sorry
theorem dX11_count_9 : decode cX11_count 9 = .ok (.aload_n 0, 1) := sorry
theorem dX11_count_10 : decode cX11_count 10 = .ok (.getfield 168, 3) := sorry
theorem dX11_count_13 : decode cX11_count 13 = .ok (.goto 28, 3) := sorry
theorem dX11_count_16 : decode cX11_count 16 = .ok (.iload_n 1, 1) := sorry
theorem dX11_count_17 : decode cX11_count 17 = .ok (.iconst 1, 1) := sorry
theorem dX11_count_18 : decode cX11_count 18 = .ok (.if_icmp .ne 10, 3) := sorry
theorem dX11_count_21 : decode cX11_count 21 = .ok (.aload_n 0, 1) := sorry
theorem dX11_count_22 : decode cX11_count 22 = .ok (.getfield 88, 3) := sorry
theorem dX11_count_25 : decode cX11_count 25 = .ok (.goto 16, 3) := sorry
theorem dX11_count_28 : decode cX11_count 28 = .ok (.iload_n 1, 1) := sorry
theorem dX11_count_29 : decode cX11_count 29 = .ok (.iconst 2, 1) := sorry
theorem dX11_count_30 : decode cX11_count 30 = .ok (.if_icmp .ne 10, 3) := sorry
theorem dX11_count_33 : decode cX11_count 33 = .ok (.aload_n 0, 1) := sorry
theorem dX11_count_34 : decode cX11_count 34 = .ok (.getfield 165, 3) := sorry
theorem dX11_count_37 : decode cX11_count 37 = .ok (.goto 4, 3) := sorry
theorem dX11_count_40 : decode cX11_count 40 = .ok (.iconst (-1), 1) := sorry
theorem dX11_count_41 : decode cX11_count 41 = .ok (.ireturn, 1) := sorry
