theorem ggX11_init_X11_tellsNothing : GoodIn wsX11_init wsX11_tellsNothing := gW_in gwX11_tellsNothing (fun _ h => List.mem_cons_of_mem _ (List.mem_append_right _ (List.mem_append_right _ (List.mem_append_left _ h))))
set_option maxRecDepth 20000 in
theorem gX11_init_X11_tellsNothing : GoodIn wsX11_init (wsV RX11 79 RX11 yX11_tellsNothing wsX11_tellsNothing) := goodIn_app (goodIn_of _ (by decide +kernel)) ggX11_init_X11_tellsNothing
theorem ggX11_init_X11_stands0 : GoodIn wsX11_init wsX11_stands0 := gW_in gwX11_stands0 (fun _ h => List.mem_cons_of_mem _ (List.mem_append_right _ (List.mem_append_right _ (List.mem_append_right _ (h)))))
set_option maxRecDepth 20000 in
theorem gX11_init_X11_stands0 : GoodIn wsX11_init (wsV RX11 82 RX11 yX11_stands0 wsX11_stands0) := goodIn_app (goodIn_of _ (by decide +kernel)) ggX11_init_X11_stands0
theorem dX11_init_0 : decode cX11_init 0 = .ok (.aload_n 0, 1) := by decide +kernel
theorem dX11_init_1 : decode cX11_init 1 = .ok (.invokespecial 1, 3) := by decide +kernel
theorem dX11_init_4 : decode cX11_init 4 = .ok (.aload_n 0, 1) := by decide +kernel
theorem dX11_init_5 : decode cX11_init 5 = .ok (.iconst (-1), 1) := by decide +kernel
theorem dX11_init_6 : decode cX11_init 6 = .ok (.putfield 9, 3) := by decide +kernel
theorem dX11_init_9 : decode cX11_init 9 = .ok (.aload_n 0, 1) := by decide +kernel
theorem dX11_init_10 : decode cX11_init 10 = .ok (.sipush 500, 3) := by decide +kernel
theorem dX11_init_13 : decode cX11_init 13 = .ok (.newarray .int, 2) := by decide +kernel
theorem dX11_init_15 : decode cX11_init 15 = .ok (.putfield 13, 3) := by decide +kernel
theorem dX11_init_18 : decode cX11_init 18 = .ok (.aload_n 0, 1) := by decide +kernel
theorem dX11_init_19 : decode cX11_init 19 = .ok (.iconst 3, 1) := by decide +kernel
theorem dX11_init_20 : decode cX11_init 20 = .ok (.newarray .int, 2) := by decide +kernel
theorem dX11_init_22 : decode cX11_init 22 = .ok (.putfield 17, 3) := by decide +kernel
theorem dX11_init_25 : decode cX11_init 25 = .ok (.aload_n 0, 1) := by decide +kernel
theorem dX11_init_26 : decode cX11_init 26 = .ok (.bipush 25, 2) := by decide +kernel
theorem dX11_init_28 : decode cX11_init 28 = .ok (.newarray .int, 2) := by decide +kernel
theorem dX11_init_30 : decode cX11_init 30 = .ok (.putfield 20, 3) := by decide +kernel
theorem dX11_init_33 : decode cX11_init 33 = .ok (.aload_n 0, 1) := by decide +kernel
theorem dX11_init_34 : decode cX11_init 34 = .ok (.bipush 25, 2) := by decide +kernel
theorem dX11_init_36 : decode cX11_init 36 = .ok (.newarray .int, 2) := by decide +kernel
theorem dX11_init_38 : decode cX11_init 38 = .ok (.putfield 23, 3) := by decide +kernel
theorem dX11_init_41 : decode cX11_init 41 = .ok (.aload_n 0, 1) := by decide +kernel
theorem dX11_init_42 : decode cX11_init 42 = .ok (.bipush 6, 2) := by decide +kernel
theorem dX11_init_44 : decode cX11_init 44 = .ok (.iconst 2, 1) := by decide +kernel
theorem dX11_init_45 : decode cX11_init 45 = .ok (.multianewarray 26 2, 4) := by decide +kernel
theorem dX11_init_49 : decode cX11_init 49 = .ok (.putfield 28, 3) := by decide +kernel
theorem dX11_init_52 : decode cX11_init 52 = .ok (.aload_n 0, 1) := by decide +kernel
theorem dX11_init_53 : decode cX11_init 53 = .ok (.bipush 6, 2) := by decide +kernel
theorem dX11_init_55 : decode cX11_init 55 = .ok (.iconst 2, 1) := by decide +kernel
theorem dX11_init_56 : decode cX11_init 56 = .ok (.multianewarray 26 2, 4) := by decide +kernel
theorem dX11_init_60 : decode cX11_init 60 = .ok (.putfield 31, 3) := by decide +kernel
theorem dX11_init_63 : decode cX11_init 63 = .ok (.aload_n 0, 1) := by decide +kernel
theorem dX11_init_64 : decode cX11_init 64 = .ok (.bipush 7, 2) := by decide +kernel
theorem dX11_init_66 : decode cX11_init 66 = .ok (.newarray .int, 2) := by decide +kernel
theorem dX11_init_68 : decode cX11_init 68 = .ok (.putfield 34, 3) := by decide +kernel
theorem dX11_init_71 : decode cX11_init 71 = .ok (.aload_n 0, 1) := by decide +kernel
theorem dX11_init_72 : decode cX11_init 72 = .ok (.bipush 36, 2) := by decide +kernel
theorem dX11_init_74 : decode cX11_init 74 = .ok (.newarray .int, 2) := by decide +kernel
theorem dX11_init_76 : decode cX11_init 76 = .ok (.putfield 37, 3) := by decide +kernel
theorem dX11_init_79 : decode cX11_init 79 = .ok (.aload_n 0, 1) := by decide +kernel
theorem dX11_init_80 : decode cX11_init 80 = .ok (.bipush 7, 2) := by decide +kernel
theorem dX11_init_82 : decode cX11_init 82 = .ok (.bipush 7, 2) := by decide +kernel
theorem dX11_init_84 : decode cX11_init 84 = .ok (.multianewarray 26 2, 4) := by decide +kernel
theorem dX11_init_88 : decode cX11_init 88 = .ok (.putfield 40, 3) := by decide +kernel
theorem dX11_init_91 : decode cX11_init 91 = .ok (.aload_n 0, 1) := by decide +kernel
theorem dX11_init_92 : decode cX11_init 92 = .ok (.bipush 7, 2) := by decide +kernel
theorem dX11_init_94 : decode cX11_init 94 = .ok (.bipush 36, 2) := by decide +kernel
theorem dX11_init_96 : decode cX11_init 96 = .ok (.multianewarray 26 2, 4) := by decide +kernel
theorem dX11_init_100 : decode cX11_init 100 = .ok (.putfield 43, 3) := by decide +kernel
theorem dX11_init_103 : decode cX11_init 103 = .ok (.aload_n 0, 1) := by decide +kernel
theorem dX11_init_104 : decode cX11_init 104 = .ok (.bipush 25, 2) := by decide +kernel
theorem dX11_init_106 : decode cX11_init 106 = .ok (.newarray .int, 2) := by decide +kernel
theorem dX11_init_108 : decode cX11_init 108 = .ok (.putfield 46, 3) := by decide +kernel
theorem dX11_init_111 : decode cX11_init 111 = .ok (.aload_n 0, 1) := by decide +kernel
theorem dX11_init_112 : decode cX11_init 112 = .ok (.bipush 25, 2) := by decide +kernel
theorem dX11_init_114 : decode cX11_init 114 = .ok (.newarray .int, 2) := by decide +kernel
theorem dX11_init_116 : decode cX11_init 116 = .ok (.putfield 49, 3) := by decide +kernel
theorem dX11_init_119 : decode cX11_init 119 = .ok (.aload_n 0, 1) := by decide +kernel
theorem dX11_init_120 : decode cX11_init 120 = .ok (.bipush 121, 2) := by decide +kernel
theorem dX11_init_122 : decode cX11_init 122 = .ok (.bipush 25, 2) := by decide +kernel
theorem dX11_init_124 : decode cX11_init 124 = .ok (.multianewarray 26 2, 4) := by decide +kernel
theorem dX11_init_128 : decode cX11_init 128 = .ok (.putfield 52, 3) := by decide +kernel
theorem dX11_init_131 : decode cX11_init 131 = .ok (.aload_n 0, 1) := by decide +kernel
theorem dX11_init_132 : decode cX11_init 132 = .ok (.bipush 120, 2) := by decide +kernel
theorem dX11_init_134 : decode cX11_init 134 = .ok (.bipush 6, 2) := by decide +kernel
theorem dX11_init_136 : decode cX11_init 136 = .ok (.multianewarray 26 2, 4) := by decide +kernel
theorem dX11_init_140 : decode cX11_init 140 = .ok (.putfield 55, 3) := by decide +kernel
theorem dX11_init_143 : decode cX11_init 143 = .ok (.aload_n 0, 1) := by decide +kernel
theorem dX11_init_144 : decode cX11_init 144 = .ok (.iconst 1, 1) := by decide +kernel
theorem dX11_init_145 : decode cX11_init 145 = .ok (.putfield 58, 3) := by decide +kernel
theorem dX11_init_148 : decode cX11_init 148 = .ok (.aload_n 0, 1) := by decide +kernel
theorem dX11_init_149 : decode cX11_init 149 = .ok (.iconst 1, 1) := by decide +kernel
theorem dX11_init_150 : decode cX11_init 150 = .ok (.putfield 61, 3) := by decide +kernel
theorem dX11_init_153 : decode cX11_init 153 = .ok (.aload_n 0, 1) := by decide +kernel
theorem dX11_init_154 : decode cX11_init 154 = .ok (.iconst 4, 1) := by decide +kernel
theorem dX11_init_155 : decode cX11_init 155 = .ok (.iconst 2, 1) := by decide +kernel
theorem dX11_init_156 : decode cX11_init 156 = .ok (.multianewarray 26 2, 4) := by decide +kernel
theorem dX11_init_160 : decode cX11_init 160 = .ok (.putfield 64, 3) := by decide +kernel
theorem dX11_init_163 : decode cX11_init 163 = .ok (.aload_n 0, 1) := by decide +kernel
theorem dX11_init_164 : decode cX11_init 164 = .ok (.bipush 12, 2) := by decide +kernel
theorem dX11_init_166 : decode cX11_init 166 = .ok (.iconst 2, 1) := by decide +kernel
theorem dX11_init_167 : decode cX11_init 167 = .ok (.multianewarray 26 2, 4) := by decide +kernel
theorem dX11_init_171 : decode cX11_init 171 = .ok (.putfield 67, 3) := by decide +kernel
theorem dX11_init_174 : decode cX11_init 174 = .ok (.aload_n 0, 1) := by decide +kernel
theorem dX11_init_175 : decode cX11_init 175 = .ok (.iconst 2, 1) := by decide +kernel
theorem dX11_init_176 : decode cX11_init 176 = .ok (.bipush 12, 2) := by decide +kernel
theorem dX11_init_178 : decode cX11_init 178 = .ok (.multianewarray 26 2, 4) := by decide +kernel
theorem dX11_init_182 : decode cX11_init 182 = .ok (.putfield 70, 3) := by decide +kernel
theorem dX11_init_185 : decode cX11_init 185 = .ok (.aload_n 0, 1) := by decide +kernel
theorem dX11_init_186 : decode cX11_init 186 = .ok (.iconst 3, 1) := by decide +kernel
theorem dX11_init_187 : decode cX11_init 187 = .ok (.sipush 3850, 3) := by decide +kernel
theorem dX11_init_190 : decode cX11_init 190 = .ok (.multianewarray 26 2, 4) := by decide +kernel
theorem dX11_init_194 : decode cX11_init 194 = .ok (.putfield 73, 3) := by decide +kernel
theorem dX11_init_197 : decode cX11_init 197 = .ok (.aload_n 0, 1) := by decide +kernel
theorem dX11_init_198 : decode cX11_init 198 = .ok (.bipush 13, 2) := by decide +kernel
theorem dX11_init_200 : decode cX11_init 200 = .ok (.iconst 3, 1) := by decide +kernel
theorem dX11_init_201 : decode cX11_init 201 = .ok (.multianewarray 26 2, 4) := by decide +kernel
theorem dX11_init_205 : decode cX11_init 205 = .ok (.putfield 76, 3) := by decide +kernel
theorem dX11_init_208 : decode cX11_init 208 = .ok (.aload_n 0, 1) := by decide +kernel
theorem dX11_init_209 : decode cX11_init 209 = .ok (.invokevirtual 79, 3) := by decide +kernel
theorem dX11_init_212 : decode cX11_init 212 = .ok (.aload_n 0, 1) := by decide +kernel
theorem dX11_init_213 : decode cX11_init 213 = .ok (.invokevirtual 82, 3) := by decide +kernel
theorem dX11_init_216 : decode cX11_init 216 = .ok (.return_, 1) := by decide +kernel
theorem dX11_tellsNothing_0 : decode cX11_tellsNothing 0 = .ok (.bipush 15, 2) := by decide +kernel
theorem dX11_tellsNothing_2 : decode cX11_tellsNothing 2 = .ok (.newarray .int, 2) := by decide +kernel
theorem dX11_tellsNothing_4 : decode cX11_tellsNothing 4 = .ok (.dup, 1) := by decide +kernel
theorem dX11_tellsNothing_5 : decode cX11_tellsNothing 5 = .ok (.iconst 0, 1) := by decide +kernel
theorem dX11_tellsNothing_6 : decode cX11_tellsNothing 6 = .ok (.iconst 0, 1) := by decide +kernel
theorem dX11_tellsNothing_7 : decode cX11_tellsNothing 7 = .ok (.iastore, 1) := by decide +kernel
theorem dX11_tellsNothing_8 : decode cX11_tellsNothing 8 = .ok (.dup, 1) := by decide +kernel
theorem dX11_tellsNothing_9 : decode cX11_tellsNothing 9 = .ok (.iconst 1, 1) := by decide +kernel
theorem dX11_tellsNothing_10 : decode cX11_tellsNothing 10 = .ok (.sipush 1000, 3) := by decide +kernel
theorem dX11_tellsNothing_13 : decode cX11_tellsNothing 13 = .ok (.iastore, 1) := by decide +kernel
theorem dX11_tellsNothing_14 : decode cX11_tellsNothing 14 = .ok (.dup, 1) := by decide +kernel
theorem dX11_tellsNothing_15 : decode cX11_tellsNothing 15 = .ok (.iconst 2, 1) := by decide +kernel
theorem dX11_tellsNothing_16 : decode cX11_tellsNothing 16 = .ok (.bipush 100, 2) := by decide +kernel
theorem dX11_tellsNothing_18 : decode cX11_tellsNothing 18 = .ok (.iastore, 1) := by decide +kernel
theorem dX11_tellsNothing_19 : decode cX11_tellsNothing 19 = .ok (.dup, 1) := by decide +kernel
theorem dX11_tellsNothing_20 : decode cX11_tellsNothing 20 = .ok (.iconst 3, 1) := by decide +kernel
theorem dX11_tellsNothing_21 : decode cX11_tellsNothing 21 = .ok (.iconst 3, 1) := by decide +kernel
theorem dX11_tellsNothing_22 : decode cX11_tellsNothing 22 = .ok (.iastore, 1) := by decide +kernel
theorem dX11_tellsNothing_23 : decode cX11_tellsNothing 23 = .ok (.dup, 1) := by decide +kernel
theorem dX11_tellsNothing_24 : decode cX11_tellsNothing 24 = .ok (.iconst 4, 1) := by decide +kernel
theorem dX11_tellsNothing_25 : decode cX11_tellsNothing 25 = .ok (.iconst 0, 1) := by decide +kernel
theorem dX11_tellsNothing_26 : decode cX11_tellsNothing 26 = .ok (.iastore, 1) := by decide +kernel
theorem dX11_tellsNothing_27 : decode cX11_tellsNothing 27 = .ok (.dup, 1) := by decide +kernel
theorem dX11_tellsNothing_28 : decode cX11_tellsNothing 28 = .ok (.iconst 5, 1) := by decide +kernel
theorem dX11_tellsNothing_29 : decode cX11_tellsNothing 29 = .ok (.bipush 100, 2) := by decide +kernel
theorem dX11_tellsNothing_31 : decode cX11_tellsNothing 31 = .ok (.iastore, 1) := by decide +kernel
theorem dX11_tellsNothing_32 : decode cX11_tellsNothing 32 = .ok (.dup, 1) := by decide +kernel
theorem dX11_tellsNothing_33 : decode cX11_tellsNothing 33 = .ok (.bipush 6, 2) := by decide +kernel
theorem dX11_tellsNothing_35 : decode cX11_tellsNothing 35 = .ok (.iconst 5, 1) := by decide +kernel
theorem dX11_tellsNothing_36 : decode cX11_tellsNothing 36 = .ok (.iastore, 1) := by decide +kernel
theorem dX11_tellsNothing_37 : decode cX11_tellsNothing 37 = .ok (.dup, 1) := by decide +kernel
theorem dX11_tellsNothing_38 : decode cX11_tellsNothing 38 = .ok (.bipush 7, 2) := by decide +kernel
theorem dX11_tellsNothing_40 : decode cX11_tellsNothing 40 = .ok (.sipush 5000, 3) := by decide +kernel
theorem dX11_tellsNothing_43 : decode cX11_tellsNothing 43 = .ok (.iastore, 1) := by decide +kernel
theorem dX11_tellsNothing_44 : decode cX11_tellsNothing 44 = .ok (.dup, 1) := by decide +kernel
theorem dX11_tellsNothing_45 : decode cX11_tellsNothing 45 = .ok (.bipush 8, 2) := by decide +kernel
theorem dX11_tellsNothing_47 : decode cX11_tellsNothing 47 = .ok (.bipush 20, 2) := by decide +kernel
theorem dX11_tellsNothing_49 : decode cX11_tellsNothing 49 = .ok (.iastore, 1) := by decide +kernel
theorem dX11_tellsNothing_50 : decode cX11_tellsNothing 50 = .ok (.dup, 1) := by decide +kernel
theorem dX11_tellsNothing_51 : decode cX11_tellsNothing 51 = .ok (.bipush 9, 2) := by decide +kernel
theorem dX11_tellsNothing_53 : decode cX11_tellsNothing 53 = .ok (.bipush 20, 2) := by decide +kernel
theorem dX11_tellsNothing_55 : decode cX11_tellsNothing 55 = .ok (.iastore, 1) := by decide +kernel
theorem dX11_tellsNothing_56 : decode cX11_tellsNothing 56 = .ok (.dup, 1) := by decide +kernel
theorem dX11_tellsNothing_57 : decode cX11_tellsNothing 57 = .ok (.bipush 10, 2) := by decide +kernel
theorem dX11_tellsNothing_59 : decode cX11_tellsNothing 59 = .ok (.bipush 10, 2) := by decide +kernel
theorem dX11_tellsNothing_61 : decode cX11_tellsNothing 61 = .ok (.iastore, 1) := by decide +kernel
theorem dX11_tellsNothing_62 : decode cX11_tellsNothing 62 = .ok (.dup, 1) := by decide +kernel
theorem dX11_tellsNothing_63 : decode cX11_tellsNothing 63 = .ok (.bipush 11, 2) := by decide +kernel
theorem dX11_tellsNothing_65 : decode cX11_tellsNothing 65 = .ok (.iconst 5, 1) := by decide +kernel
theorem dX11_tellsNothing_66 : decode cX11_tellsNothing 66 = .ok (.iastore, 1) := by decide +kernel
theorem dX11_tellsNothing_67 : decode cX11_tellsNothing 67 = .ok (.dup, 1) := by decide +kernel
theorem dX11_tellsNothing_68 : decode cX11_tellsNothing 68 = .ok (.bipush 12, 2) := by decide +kernel
theorem dX11_tellsNothing_70 : decode cX11_tellsNothing 70 = .ok (.iconst 1, 1) := by decide +kernel
theorem dX11_tellsNothing_71 : decode cX11_tellsNothing 71 = .ok (.iastore, 1) := by decide +kernel
theorem dX11_tellsNothing_72 : decode cX11_tellsNothing 72 = .ok (.dup, 1) := by decide +kernel
theorem dX11_tellsNothing_73 : decode cX11_tellsNothing 73 = .ok (.bipush 13, 2) := by decide +kernel
theorem dX11_tellsNothing_75 : decode cX11_tellsNothing 75 = .ok (.iconst 5, 1) := by decide +kernel
theorem dX11_tellsNothing_76 : decode cX11_tellsNothing 76 = .ok (.iastore, 1) := by decide +kernel
theorem dX11_tellsNothing_77 : decode cX11_tellsNothing 77 = .ok (.dup, 1) := by decide +kernel
theorem dX11_tellsNothing_78 : decode cX11_tellsNothing 78 = .ok (.bipush 14, 2) := by decide +kernel
theorem dX11_tellsNothing_80 : decode cX11_tellsNothing 80 = .ok (.iconst 1, 1) := by decide +kernel
theorem dX11_tellsNothing_81 : decode cX11_tellsNothing 81 = .ok (.iastore, 1) := by decide +kernel
theorem dX11_tellsNothing_82 : decode cX11_tellsNothing 82 = .ok (.astore_n 1, 1) := by decide +kernel
theorem dX11_tellsNothing_83 : decode cX11_tellsNothing 83 = .ok (.iconst 0, 1) := by decide +kernel
theorem dX11_tellsNothing_84 : decode cX11_tellsNothing 84 = .ok (.istore_n 2, 1) := by decide +kernel
theorem dX11_tellsNothing_85 : decode cX11_tellsNothing 85 = .ok (.iload_n 2, 1) := by decide +kernel
theorem dX11_tellsNothing_86 : decode cX11_tellsNothing 86 = .ok (.bipush 15, 2) := by decide +kernel
theorem dX11_tellsNothing_88 : decode cX11_tellsNothing 88 = .ok (.if_icmp .ge 18, 3) := by decide +kernel
theorem dX11_tellsNothing_91 : decode cX11_tellsNothing 91 = .ok (.aload_n 0, 1) := by decide +kernel
theorem dX11_tellsNothing_92 : decode cX11_tellsNothing 92 = .ok (.getfield 20, 3) := by decide +kernel
theorem dX11_tellsNothing_95 : decode cX11_tellsNothing 95 = .ok (.iload_n 2, 1) := by decide +kernel
theorem dX11_tellsNothing_96 : decode cX11_tellsNothing 96 = .ok (.aload_n 1, 1) := by decide +kernel
theorem dX11_tellsNothing_97 : decode cX11_tellsNothing 97 = .ok (.iload_n 2, 1) := by decide +kernel
theorem dX11_tellsNothing_98 : decode cX11_tellsNothing 98 = .ok (.iaload, 1) := by decide +kernel
theorem dX11_tellsNothing_99 : decode cX11_tellsNothing 99 = .ok (.iastore, 1) := by decide +kernel
theorem dX11_tellsNothing_100 : decode cX11_tellsNothing 100 = .ok (.iinc 2 1, 3) := by decide +kernel
theorem dX11_tellsNothing_103 : decode cX11_tellsNothing 103 = .ok (.goto (-18), 3) := by decide +kernel
theorem dX11_tellsNothing_106 : decode cX11_tellsNothing 106 = .ok (.iconst 0, 1) := by decide +kernel
theorem dX11_tellsNothing_107 : decode cX11_tellsNothing 107 = .ok (.istore_n 2, 1) := by decide +kernel
theorem dX11_tellsNothing_108 : decode cX11_tellsNothing 108 = .ok (.iload_n 2, 1) := by decide +kernel
theorem dX11_tellsNothing_109 : decode cX11_tellsNothing 109 = .ok (.bipush 10, 2) := by decide +kernel
theorem dX11_tellsNothing_111 : decode cX11_tellsNothing 111 = .ok (.if_icmp .ge 22, 3) := by decide +kernel
theorem dX11_tellsNothing_114 : decode cX11_tellsNothing 114 = .ok (.aload_n 0, 1) := by decide +kernel
theorem dX11_tellsNothing_115 : decode cX11_tellsNothing 115 = .ok (.getfield 20, 3) := by decide +kernel
theorem dX11_tellsNothing_118 : decode cX11_tellsNothing 118 = .ok (.bipush 15, 2) := by decide +kernel
theorem dX11_tellsNothing_120 : decode cX11_tellsNothing 120 = .ok (.iload_n 2, 1) := by decide +kernel
theorem dX11_tellsNothing_121 : decode cX11_tellsNothing 121 = .ok (.iadd, 1) := by decide +kernel
theorem dX11_tellsNothing_122 : decode cX11_tellsNothing 122 = .ok (.bipush 9, 2) := by decide +kernel
theorem dX11_tellsNothing_124 : decode cX11_tellsNothing 124 = .ok (.iload_n 2, 1) := by decide +kernel
theorem dX11_tellsNothing_125 : decode cX11_tellsNothing 125 = .ok (.isub, 1) := by decide +kernel
theorem dX11_tellsNothing_126 : decode cX11_tellsNothing 126 = .ok (.iastore, 1) := by decide +kernel
theorem dX11_tellsNothing_127 : decode cX11_tellsNothing 127 = .ok (.iinc 2 1, 3) := by decide +kernel
theorem dX11_tellsNothing_130 : decode cX11_tellsNothing 130 = .ok (.goto (-22), 3) := by decide +kernel
theorem dX11_tellsNothing_133 : decode cX11_tellsNothing 133 = .ok (.return_, 1) := by decide +kernel
theorem dX11_bad_0 : decode cX11_bad 0 = .ok (.iload_n 1, 1) := by decide +kernel
theorem dX11_bad_1 : decode cX11_bad 1 = .ok (.ifCond .eq 25, 3) := by decide +kernel
theorem dX11_bad_4 : decode cX11_bad 4 = .ok (.aload_n 0, 1) := by decide +kernel
theorem dX11_bad_5 : decode cX11_bad 5 = .ok (.getfield 85, 3) := by decide +kernel
theorem dX11_bad_8 : decode cX11_bad 8 = .ok (.ifCond .ne 18, 3) := by decide +kernel
theorem dX11_bad_11 : decode cX11_bad 11 = .ok (.aload_n 0, 1) := by decide +kernel
theorem dX11_bad_12 : decode cX11_bad 12 = .ok (.iload_n 2, 1) := by decide +kernel
theorem dX11_bad_13 : decode cX11_bad 13 = .ok (.putfield 85, 3) := by decide +kernel
theorem dX11_bad_16 : decode cX11_bad 16 = .ok (.aload_n 0, 1) := by decide +kernel
theorem dX11_bad_17 : decode cX11_bad 17 = .ok (.getfield 17, 3) := by decide +kernel
theorem dX11_bad_20 : decode cX11_bad 20 = .ok (.iload_n 3, 1) := by decide +kernel
theorem dX11_bad_21 : decode cX11_bad 21 = .ok (.dup2, 1) := by decide +kernel
theorem dX11_bad_22 : decode cX11_bad 22 = .ok (.iaload, 1) := by decide +kernel
theorem dX11_bad_23 : decode cX11_bad 23 = .ok (.iconst 1, 1) := by decide +kernel
theorem dX11_bad_24 : decode cX11_bad 24 = .ok (.iadd, 1) := by decide +kernel
theorem dX11_bad_25 : decode cX11_bad 25 = .ok (.iastore, 1) := by decide +kernel
theorem dX11_bad_26 : decode cX11_bad 26 = .ok (.aload_n 0, 1) := by decide +kernel
theorem dX11_bad_27 : decode cX11_bad 27 = .ok (.getfield 85, 3) := by decide +kernel
theorem dX11_bad_30 : decode cX11_bad 30 = .ok (.ifCond .eq 7, 3) := by decide +kernel
theorem dX11_bad_33 : decode cX11_bad 33 = .ok (.iconst 1, 1) := by decide +kernel
theorem dX11_bad_34 : decode cX11_bad 34 = .ok (.goto 4, 3) := by decide +kernel
theorem dX11_bad_37 : decode cX11_bad 37 = .ok (.iconst 0, 1) := by decide +kernel
theorem dX11_bad_38 : decode cX11_bad 38 = .ok (.ireturn, 1) := by decide +kernel
theorem dX11_in_0 : decode cX11_in 0 = .ok (.iload_n 0, 1) := by decide +kernel
theorem dX11_in_1 : decode cX11_in 1 = .ok (.iload_n 1, 1) := by decide +kernel
theorem dX11_in_2 : decode cX11_in 2 = .ok (.if_icmp .lt 12, 3) := by decide +kernel
theorem dX11_in_5 : decode cX11_in 5 = .ok (.iload_n 0, 1) := by decide +kernel
theorem dX11_in_6 : decode cX11_in 6 = .ok (.iload_n 2, 1) := by decide +kernel
theorem dX11_in_7 : decode cX11_in 7 = .ok (.if_icmp .gt 7, 3) := by decide +kernel
theorem dX11_in_10 : decode cX11_in 10 = .ok (.iconst 1, 1) := by decide +kernel
theorem dX11_in_11 : decode cX11_in 11 = .ok (.goto 4, 3) := by decide +kernel
theorem dX11_in_14 : decode cX11_in 14 = .ok (.iconst 0, 1) := by decide +kernel
theorem dX11_in_15 : decode cX11_in 15 = .ok (.ireturn, 1) := by decide +kernel
theorem dX11_feed_0 : decode cX11_feed 0 = .ok (.aload_n 0, 1) := by decide +kernel
theorem dX11_feed_1 : decode cX11_feed 1 = .ok (.iconst 0, 1) := by decide +kernel
theorem dX11_feed_2 : decode cX11_feed 2 = .ok (.putfield 85, 3) := by decide +kernel
theorem dX11_feed_5 : decode cX11_feed 5 = .ok (.aload_n 0, 1) := by decide +kernel
theorem dX11_feed_6 : decode cX11_feed 6 = .ok (.getfield 88, 3) := by decide +kernel
theorem dX11_feed_9 : decode cX11_feed 9 = .ok (.bipush 20, 2) := by decide +kernel
theorem dX11_feed_11 : decode cX11_feed 11 = .ok (.iadd, 1) := by decide +kernel
theorem dX11_feed_12 : decode cX11_feed 12 = .ok (.sipush 500, 3) := by decide +kernel
theorem dX11_feed_15 : decode cX11_feed 15 = .ok (.if_icmp .le 5, 3) := by decide +kernel
theorem dX11_feed_18 : decode cX11_feed 18 = .ok (.iconst (-1), 1) := by decide +kernel
theorem dX11_feed_19 : decode cX11_feed 19 = .ok (.ireturn, 1) := by decide +kernel
theorem dX11_feed_20 : decode cX11_feed 20 = .ok (.iconst 0, 1) := by decide +kernel
theorem dX11_feed_21 : decode cX11_feed 21 = .ok (.istore 6, 2) := by decide +kernel
theorem dX11_feed_23 : decode cX11_feed 23 = .ok (.iload 6, 2) := by decide +kernel
theorem dX11_feed_25 : decode cX11_feed 25 = .ok (.bipush 20, 2) := by decide +kernel
theorem dX11_feed_27 : decode cX11_feed 27 = .ok (.if_icmp .ge 93, 3) := by decide +kernel
theorem dX11_feed_30 : decode cX11_feed 30 = .ok (.iload 6, 2) := by decide +kernel
theorem dX11_feed_32 : decode cX11_feed 32 = .ok (.iconst 4, 1) := by decide +kernel
theorem dX11_feed_33 : decode cX11_feed 33 = .ok (.if_icmp .ge 7, 3) := by decide +kernel
theorem dX11_feed_36 : decode cX11_feed 36 = .ok (.iload_n 1, 1) := by decide +kernel
theorem dX11_feed_37 : decode cX11_feed 37 = .ok (.goto 39, 3) := by decide +kernel
theorem dX11_feed_40 : decode cX11_feed 40 = .ok (.iload 6, 2) := by decide +kernel
theorem dX11_feed_42 : decode cX11_feed 42 = .ok (.bipush 8, 2) := by decide +kernel
theorem dX11_feed_44 : decode cX11_feed 44 = .ok (.if_icmp .ge 7, 3) := by decide +kernel
theorem dX11_feed_47 : decode cX11_feed 47 = .ok (.iload_n 2, 1) := by decide +kernel
theorem dX11_feed_48 : decode cX11_feed 48 = .ok (.goto 28, 3) := by decide +kernel
theorem dX11_feed_51 : decode cX11_feed 51 = .ok (.iload 6, 2) := by decide +kernel
theorem dX11_feed_53 : decode cX11_feed 53 = .ok (.bipush 12, 2) := by decide +kernel
theorem dX11_feed_55 : decode cX11_feed 55 = .ok (.if_icmp .ge 7, 3) := by decide +kernel
theorem dX11_feed_58 : decode cX11_feed 58 = .ok (.iload_n 3, 1) := by decide +kernel
theorem dX11_feed_59 : decode cX11_feed 59 = .ok (.goto 17, 3) := by decide +kernel
theorem dX11_feed_62 : decode cX11_feed 62 = .ok (.iload 6, 2) := by decide +kernel
theorem dX11_feed_64 : decode cX11_feed 64 = .ok (.bipush 16, 2) := by decide +kernel
theorem dX11_feed_66 : decode cX11_feed 66 = .ok (.if_icmp .ge 8, 3) := by decide +kernel
theorem dX11_feed_69 : decode cX11_feed 69 = .ok (.iload 4, 2) := by decide +kernel
theorem dX11_feed_71 : decode cX11_feed 71 = .ok (.goto 5, 3) := by decide +kernel
theorem dX11_feed_74 : decode cX11_feed 74 = .ok (.iload 5, 2) := by decide +kernel
theorem dX11_feed_76 : decode cX11_feed 76 = .ok (.istore 7, 2) := by decide +kernel
theorem dX11_feed_78 : decode cX11_feed 78 = .ok (.aload_n 0, 1) := by decide +kernel
theorem dX11_feed_79 : decode cX11_feed 79 = .ok (.getfield 13, 3) := by decide +kernel
theorem dX11_feed_82 : decode cX11_feed 82 = .ok (.aload_n 0, 1) := by decide +kernel
theorem dX11_feed_83 : decode cX11_feed 83 = .ok (.getfield 88, 3) := by decide +kernel
theorem dX11_feed_86 : decode cX11_feed 86 = .ok (.iload 7, 2) := by decide +kernel
theorem dX11_feed_88 : decode cX11_feed 88 = .ok (.bipush 24, 2) := by decide +kernel
theorem dX11_feed_90 : decode cX11_feed 90 = .ok (.bipush 8, 2) := by decide +kernel
theorem dX11_feed_92 : decode cX11_feed 92 = .ok (.iload 6, 2) := by decide +kernel
theorem dX11_feed_94 : decode cX11_feed 94 = .ok (.iconst 4, 1) := by decide +kernel
theorem dX11_feed_95 : decode cX11_feed 95 = .ok (.irem, 1) := by decide +kernel
theorem dX11_feed_96 : decode cX11_feed 96 = .ok (.imul, 1) := by decide +kernel
theorem dX11_feed_97 : decode cX11_feed 97 = .ok (.isub, 1) := by decide +kernel
theorem dX11_feed_98 : decode cX11_feed 98 = .ok (.ishr, 1) := by decide +kernel
theorem dX11_feed_99 : decode cX11_feed 99 = .ok (.sipush 255, 3) := by decide +kernel
theorem dX11_feed_102 : decode cX11_feed 102 = .ok (.iand, 1) := by decide +kernel
theorem dX11_feed_103 : decode cX11_feed 103 = .ok (.iastore, 1) := by decide +kernel
theorem dX11_feed_104 : decode cX11_feed 104 = .ok (.aload_n 0, 1) := by decide +kernel
theorem dX11_feed_105 : decode cX11_feed 105 = .ok (.dup, 1) := by decide +kernel
theorem dX11_feed_106 : decode cX11_feed 106 = .ok (.getfield 88, 3) := by decide +kernel
theorem dX11_feed_109 : decode cX11_feed 109 = .ok (.iconst 1, 1) := by decide +kernel
theorem dX11_feed_110 : decode cX11_feed 110 = .ok (.iadd, 1) := by decide +kernel
theorem dX11_feed_111 : decode cX11_feed 111 = .ok (.putfield 88, 3) := by decide +kernel
theorem dX11_feed_114 : decode cX11_feed 114 = .ok (.iinc 6 1, 3) := by decide +kernel
theorem dX11_feed_117 : decode cX11_feed 117 = .ok (.goto (-94), 3) := by decide +kernel
theorem dX11_feed_120 : decode cX11_feed 120 = .ok (.aload_n 0, 1) := by decide +kernel
theorem dX11_feed_121 : decode cX11_feed 121 = .ok (.getfield 88, 3) := by decide +kernel
theorem dX11_feed_124 : decode cX11_feed 124 = .ok (.ireturn, 1) := by decide +kernel
theorem dX11_byteAt_0 : decode cX11_byteAt 0 = .ok (.iload_n 1, 1) := by decide +kernel
theorem dX11_byteAt_1 : decode cX11_byteAt 1 = .ok (.aload_n 0, 1) := by decide +kernel
theorem dX11_byteAt_2 : decode cX11_byteAt 2 = .ok (.getfield 91, 3) := by decide +kernel
theorem dX11_byteAt_5 : decode cX11_byteAt 5 = .ok (.if_icmp .lt 7, 3) := by decide +kernel
theorem dX11_byteAt_8 : decode cX11_byteAt 8 = .ok (.iconst (-1), 1) := by decide +kernel
theorem dX11_byteAt_9 : decode cX11_byteAt 9 = .ok (.goto 9, 3) := by decide +kernel
theorem dX11_byteAt_12 : decode cX11_byteAt 12 = .ok (.aload_n 0, 1) := by decide +kernel
theorem dX11_byteAt_13 : decode cX11_byteAt 13 = .ok (.getfield 13, 3) := by decide +kernel
theorem dX11_byteAt_16 : decode cX11_byteAt 16 = .ok (.iload_n 1, 1) := by decide +kernel
theorem dX11_byteAt_17 : decode cX11_byteAt 17 = .ok (.iaload, 1) := by decide +kernel
theorem dX11_byteAt_18 : decode cX11_byteAt 18 = .ok (.ireturn, 1) := by decide +kernel
theorem ggX11_blanks_X11_byteAt : GoodIn wsX11_blanks wsX11_byteAt := gW_in gwX11_byteAt (fun _ h => List.mem_cons_of_mem _ (List.mem_append_right _ (List.mem_append_right _ (h))))
set_option maxRecDepth 20000 in
theorem gX11_blanks_X11_byteAt : GoodIn wsX11_blanks (wsV RX11 97 RX11 yX11_byteAt wsX11_byteAt) := goodIn_app (goodIn_of _ (by decide +kernel)) ggX11_blanks_X11_byteAt
theorem dX11_blanks_0 : decode cX11_blanks 0 = .ok (.aload_n 0, 1) := by decide +kernel
theorem dX11_blanks_1 : decode cX11_blanks 1 = .ok (.aload_n 0, 1) := by decide +kernel
theorem dX11_blanks_2 : decode cX11_blanks 2 = .ok (.getfield 94, 3) := by decide +kernel
theorem dX11_blanks_5 : decode cX11_blanks 5 = .ok (.invokevirtual 97, 3) := by decide +kernel
theorem dX11_blanks_8 : decode cX11_blanks 8 = .ok (.bipush 32, 2) := by decide +kernel
theorem dX11_blanks_10 : decode cX11_blanks 10 = .ok (.if_icmp .ne 16, 3) := by decide +kernel
theorem dX11_blanks_13 : decode cX11_blanks 13 = .ok (.aload_n 0, 1) := by decide +kernel
theorem dX11_blanks_14 : decode cX11_blanks 14 = .ok (.dup, 1) := by decide +kernel
theorem dX11_blanks_15 : decode cX11_blanks 15 = .ok (.getfield 94, 3) := by decide +kernel
theorem dX11_blanks_18 : decode cX11_blanks 18 = .ok (.iconst 1, 1) := by decide +kernel
theorem dX11_blanks_19 : decode cX11_blanks 19 = .ok (.iadd, 1) := by decide +kernel
theorem dX11_blanks_20 : decode cX11_blanks 20 = .ok (.putfield 94, 3) := by decide +kernel
theorem dX11_blanks_23 : decode cX11_blanks 23 = .ok (.goto (-23), 3) := by decide +kernel
theorem dX11_blanks_26 : decode cX11_blanks 26 = .ok (.return_, 1) := by decide +kernel
theorem dX11_wrong_0 : decode cX11_wrong 0 = .ok (.aload_n 0, 1) := by decide +kernel
theorem dX11_wrong_1 : decode cX11_wrong 1 = .ok (.getfield 101, 3) := by decide +kernel
theorem dX11_wrong_4 : decode cX11_wrong 4 = .ok (.ifCond .ne 13, 3) := by decide +kernel
theorem dX11_wrong_7 : decode cX11_wrong 7 = .ok (.aload_n 0, 1) := by decide +kernel
theorem dX11_wrong_8 : decode cX11_wrong 8 = .ok (.iload_n 1, 1) := by decide +kernel
theorem dX11_wrong_9 : decode cX11_wrong 9 = .ok (.putfield 101, 3) := by decide +kernel
theorem dX11_wrong_12 : decode cX11_wrong 12 = .ok (.aload_n 0, 1) := by decide +kernel
theorem dX11_wrong_13 : decode cX11_wrong 13 = .ok (.iload_n 2, 1) := by decide +kernel
theorem dX11_wrong_14 : decode cX11_wrong 14 = .ok (.putfield 104, 3) := by decide +kernel
theorem dX11_wrong_17 : decode cX11_wrong 17 = .ok (.return_, 1) := by decide +kernel
theorem dX11_isDigit_0 : decode cX11_isDigit 0 = .ok (.iload_n 0, 1) := by decide +kernel
theorem dX11_isDigit_1 : decode cX11_isDigit 1 = .ok (.bipush 48, 2) := by decide +kernel
theorem dX11_isDigit_3 : decode cX11_isDigit 3 = .ok (.if_icmp .lt 13, 3) := by decide +kernel
theorem dX11_isDigit_6 : decode cX11_isDigit 6 = .ok (.iload_n 0, 1) := by decide +kernel
theorem dX11_isDigit_7 : decode cX11_isDigit 7 = .ok (.bipush 57, 2) := by decide +kernel
theorem dX11_isDigit_9 : decode cX11_isDigit 9 = .ok (.if_icmp .gt 7, 3) := by decide +kernel
theorem dX11_isDigit_12 : decode cX11_isDigit 12 = .ok (.iconst 1, 1) := by decide +kernel
theorem dX11_isDigit_13 : decode cX11_isDigit 13 = .ok (.goto 4, 3) := by decide +kernel
theorem dX11_isDigit_16 : decode cX11_isDigit 16 = .ok (.iconst 0, 1) := by decide +kernel
theorem dX11_isDigit_17 : decode cX11_isDigit 17 = .ok (.ireturn, 1) := by decide +kernel
theorem ggX11_number_X11_blanks : GoodIn wsX11_number wsX11_blanks := gW_in gwX11_blanks (fun _ h => List.mem_cons_of_mem _ (List.mem_append_right _ (List.mem_append_right _ (List.mem_append_left _ h))))
set_option maxRecDepth 20000 in
theorem gX11_number_X11_blanks : GoodIn wsX11_number (wsV RX11 107 RX11 yX11_blanks wsX11_blanks) := goodIn_app (goodIn_of _ (by decide +kernel)) ggX11_number_X11_blanks
theorem ggX11_number_X11_byteAt : GoodIn wsX11_number wsX11_byteAt := gW_in gwX11_byteAt (fun _ h => List.mem_cons_of_mem _ (List.mem_append_right _ (List.mem_append_right _ (List.mem_append_right _ (List.mem_append_left _ h)))))
set_option maxRecDepth 20000 in
theorem gX11_number_X11_byteAt : GoodIn wsX11_number (wsV RX11 97 RX11 yX11_byteAt wsX11_byteAt) := goodIn_app (goodIn_of _ (by decide +kernel)) ggX11_number_X11_byteAt
theorem ggX11_number_X11_isDigit : GoodIn wsX11_number wsX11_isDigit := gW_in gwX11_isDigit (fun _ h => List.mem_cons_of_mem _ (List.mem_append_right _ (List.mem_append_right _ (List.mem_append_right _ (List.mem_append_right _ (List.mem_append_left _ h))))))
set_option maxRecDepth 20000 in
theorem gX11_number_X11_isDigit : GoodIn wsX11_number (va_wsS RX11 110 yX11_isDigit wsX11_isDigit) := goodIn_app (goodIn_of _ (by decide +kernel)) ggX11_number_X11_isDigit
theorem ggX11_number_X11_wrong : GoodIn wsX11_number wsX11_wrong := gW_in gwX11_wrong (fun _ h => List.mem_cons_of_mem _ (List.mem_append_right _ (List.mem_append_right _ (List.mem_append_right _ (List.mem_append_right _ (List.mem_append_right _ (List.mem_append_left _ h)))))))
set_option maxRecDepth 20000 in
theorem gX11_number_X11_wrong : GoodIn wsX11_number (wsV RX11 114 RX11 yX11_wrong wsX11_wrong) := goodIn_app (goodIn_of _ (by decide +kernel)) ggX11_number_X11_wrong
theorem ggX11_number_X11_in : GoodIn wsX11_number wsX11_in := gW_in gwX11_in (fun _ h => List.mem_cons_of_mem _ (List.mem_append_right _ (List.mem_append_right _ (List.mem_append_right _ (List.mem_append_right _ (List.mem_append_right _ (List.mem_append_right _ (h))))))))
set_option maxRecDepth 20000 in
theorem gX11_number_X11_in : GoodIn wsX11_number (va_wsS RX11 119 yX11_in wsX11_in) := goodIn_app (goodIn_of _ (by decide +kernel)) ggX11_number_X11_in
theorem dX11_number_0 : decode cX11_number 0 = .ok (.aload_n 0, 1) := by decide +kernel
theorem dX11_number_1 : decode cX11_number 1 = .ok (.getfield 101, 3) := by decide +kernel
theorem dX11_number_4 : decode cX11_number 4 = .ok (.ifCond .eq 5, 3) := by decide +kernel
theorem dX11_number_7 : decode cX11_number 7 = .ok (.iconst 0, 1) := by decide +kernel
theorem dX11_number_8 : decode cX11_number 8 = .ok (.ireturn, 1) := by decide +kernel
theorem dX11_number_9 : decode cX11_number 9 = .ok (.aload_n 0, 1) := by decide +kernel
theorem dX11_number_10 : decode cX11_number 10 = .ok (.invokevirtual 107, 3) := by decide +kernel
theorem dX11_number_13 : decode cX11_number 13 = .ok (.aload_n 0, 1) := by decide +kernel
theorem dX11_number_14 : decode cX11_number 14 = .ok (.getfield 94, 3) := by decide +kernel
theorem dX11_number_17 : decode cX11_number 17 = .ok (.istore_n 3, 1) := by decide +kernel
theorem dX11_number_18 : decode cX11_number 18 = .ok (.iconst 0, 1) := by decide +kernel
theorem dX11_number_19 : decode cX11_number 19 = .ok (.istore 4, 2) := by decide +kernel
theorem dX11_number_21 : decode cX11_number 21 = .ok (.aload_n 0, 1) := by decide +kernel
theorem dX11_number_22 : decode cX11_number 22 = .ok (.aload_n 0, 1) := by decide +kernel
theorem dX11_number_23 : decode cX11_number 23 = .ok (.getfield 94, 3) := by decide +kernel
theorem dX11_number_26 : decode cX11_number 26 = .ok (.invokevirtual 97, 3) := by decide +kernel
theorem dX11_number_29 : decode cX11_number 29 = .ok (.invokestatic 110, 3) := by decide +kernel
theorem dX11_number_32 : decode cX11_number 32 = .ok (.ifCond .ne 12, 3) := by decide +kernel
theorem dX11_number_35 : decode cX11_number 35 = .ok (.aload_n 0, 1) := by decide +kernel
theorem dX11_number_36 : decode cX11_number 36 = .ok (.iconst 1, 1) := by decide +kernel
theorem dX11_number_37 : decode cX11_number 37 = .ok (.aload_n 0, 1) := by decide +kernel
theorem dX11_number_38 : decode cX11_number 38 = .ok (.getfield 94, 3) := by decide +kernel
theorem dX11_number_41 : decode cX11_number 41 = .ok (.invokevirtual 114, 3) := by decide +kernel
theorem dX11_number_44 : decode cX11_number 44 = .ok (.aload_n 0, 1) := by decide +kernel
theorem dX11_number_45 : decode cX11_number 45 = .ok (.aload_n 0, 1) := by decide +kernel
theorem dX11_number_46 : decode cX11_number 46 = .ok (.getfield 94, 3) := by decide +kernel
theorem dX11_number_49 : decode cX11_number 49 = .ok (.invokevirtual 97, 3) := by decide +kernel
theorem dX11_number_52 : decode cX11_number 52 = .ok (.invokestatic 110, 3) := by decide +kernel
theorem dX11_number_55 : decode cX11_number 55 = .ok (.ifCond .eq 51, 3) := by decide +kernel
theorem dX11_number_58 : decode cX11_number 58 = .ok (.bipush 10, 2) := by decide +kernel
theorem dX11_number_60 : decode cX11_number 60 = .ok (.iload 4, 2) := by decide +kernel
theorem dX11_number_62 : decode cX11_number 62 = .ok (.imul, 1) := by decide +kernel
theorem dX11_number_63 : decode cX11_number 63 = .ok (.aload_n 0, 1) := by decide +kernel
theorem dX11_number_64 : decode cX11_number 64 = .ok (.aload_n 0, 1) := by decide +kernel
theorem dX11_number_65 : decode cX11_number 65 = .ok (.getfield 94, 3) := by decide +kernel
theorem dX11_number_68 : decode cX11_number 68 = .ok (.invokevirtual 97, 3) := by decide +kernel
theorem dX11_number_71 : decode cX11_number 71 = .ok (.iadd, 1) := by decide +kernel
theorem dX11_number_72 : decode cX11_number 72 = .ok (.bipush 48, 2) := by decide +kernel
theorem dX11_number_74 : decode cX11_number 74 = .ok (.isub, 1) := by decide +kernel
theorem dX11_number_75 : decode cX11_number 75 = .ok (.istore 4, 2) := by decide +kernel
theorem dX11_number_77 : decode cX11_number 77 = .ok (.iload 4, 2) := by decide +kernel
theorem dX11_number_79 : decode cX11_number 79 = .ok (.ldc 118, 2) := by decide +kernel
theorem dX11_number_81 : decode cX11_number 81 = .ok (.if_icmp .le 8, 3) := by decide +kernel
theorem dX11_number_84 : decode cX11_number 84 = .ok (.ldc 118, 2) := by decide +kernel
theorem dX11_number_86 : decode cX11_number 86 = .ok (.goto 5, 3) := by decide +kernel
theorem dX11_number_89 : decode cX11_number 89 = .ok (.iload 4, 2) := by decide +kernel
theorem dX11_number_91 : decode cX11_number 91 = .ok (.istore 4, 2) := by decide +kernel
theorem dX11_number_93 : decode cX11_number 93 = .ok (.aload_n 0, 1) := by decide +kernel
theorem dX11_number_94 : decode cX11_number 94 = .ok (.dup, 1) := by decide +kernel
theorem dX11_number_95 : decode cX11_number 95 = .ok (.getfield 94, 3) := by decide +kernel
theorem dX11_number_98 : decode cX11_number 98 = .ok (.iconst 1, 1) := by decide +kernel
theorem dX11_number_99 : decode cX11_number 99 = .ok (.iadd, 1) := by decide +kernel
theorem dX11_number_100 : decode cX11_number 100 = .ok (.putfield 94, 3) := by decide +kernel
theorem dX11_number_103 : decode cX11_number 103 = .ok (.goto (-59), 3) := by decide +kernel
theorem dX11_number_106 : decode cX11_number 106 = .ok (.iload 4, 2) := by decide +kernel
theorem dX11_number_108 : decode cX11_number 108 = .ok (.iload_n 1, 1) := by decide +kernel
theorem dX11_number_109 : decode cX11_number 109 = .ok (.iload_n 2, 1) := by decide +kernel
theorem dX11_number_110 : decode cX11_number 110 = .ok (.invokestatic 119, 3) := by decide +kernel
theorem dX11_number_113 : decode cX11_number 113 = .ok (.ifCond .ne 9, 3) := by decide +kernel
theorem dX11_number_116 : decode cX11_number 116 = .ok (.aload_n 0, 1) := by decide +kernel
theorem dX11_number_117 : decode cX11_number 117 = .ok (.iconst 2, 1) := by decide +kernel
theorem dX11_number_118 : decode cX11_number 118 = .ok (.iload_n 3, 1) := by decide +kernel
theorem dX11_number_119 : decode cX11_number 119 = .ok (.invokevirtual 114, 3) := by decide +kernel
theorem dX11_number_122 : decode cX11_number 122 = .ok (.aload_n 0, 1) := by decide +kernel
theorem dX11_number_123 : decode cX11_number 123 = .ok (.getfield 101, 3) := by decide +kernel
theorem dX11_number_126 : decode cX11_number 126 = .ok (.ifCond .ne 8, 3) := by decide +kernel
theorem dX11_number_129 : decode cX11_number 129 = .ok (.iload 4, 2) := by decide +kernel
theorem dX11_number_131 : decode cX11_number 131 = .ok (.goto 4, 3) := by decide +kernel
theorem dX11_number_134 : decode cX11_number 134 = .ok (.iconst 0, 1) := by decide +kernel
theorem dX11_number_135 : decode cX11_number 135 = .ok (.ireturn, 1) := by decide +kernel
theorem ggX11_wordHere_X11_blanks : GoodIn wsX11_wordHere wsX11_blanks := gW_in gwX11_blanks (fun _ h => List.mem_cons_of_mem _ (List.mem_append_right _ (List.mem_append_right _ (List.mem_append_left _ h))))
set_option maxRecDepth 20000 in
theorem gX11_wordHere_X11_blanks : GoodIn wsX11_wordHere (wsV RX11 107 RX11 yX11_blanks wsX11_blanks) := goodIn_app (goodIn_of _ (by decide +kernel)) ggX11_wordHere_X11_blanks
theorem ggX11_wordHere_X11_byteAt : GoodIn wsX11_wordHere wsX11_byteAt := gW_in gwX11_byteAt (fun _ h => List.mem_cons_of_mem _ (List.mem_append_right _ (List.mem_append_right _ (List.mem_append_right _ (h)))))
set_option maxRecDepth 20000 in
theorem gX11_wordHere_X11_byteAt : GoodIn wsX11_wordHere (wsV RX11 97 RX11 yX11_byteAt wsX11_byteAt) := goodIn_app (goodIn_of _ (by decide +kernel)) ggX11_wordHere_X11_byteAt
theorem dX11_wordHere_0 : decode cX11_wordHere 0 = .ok (.aload_n 0, 1) := by decide +kernel
theorem dX11_wordHere_1 : decode cX11_wordHere 1 = .ok (.invokevirtual 107, 3) := by decide +kernel
theorem dX11_wordHere_4 : decode cX11_wordHere 4 = .ok (.iconst 0, 1) := by decide +kernel
theorem dX11_wordHere_5 : decode cX11_wordHere 5 = .ok (.istore_n 1, 1) := by decide +kernel
theorem dX11_wordHere_6 : decode cX11_wordHere 6 = .ok (.iconst 0, 1) := by decide +kernel
theorem dX11_wordHere_7 : decode cX11_wordHere 7 = .ok (.istore_n 2, 1) := by decide +kernel
theorem dX11_wordHere_8 : decode cX11_wordHere 8 = .ok (.aload_n 0, 1) := by decide +kernel
theorem dX11_wordHere_9 : decode cX11_wordHere 9 = .ok (.aload_n 0, 1) := by decide +kernel
theorem dX11_wordHere_10 : decode cX11_wordHere 10 = .ok (.getfield 94, 3) := by decide +kernel
theorem dX11_wordHere_13 : decode cX11_wordHere 13 = .ok (.iload_n 2, 1) := by decide +kernel
theorem dX11_wordHere_14 : decode cX11_wordHere 14 = .ok (.iadd, 1) := by decide +kernel
theorem dX11_wordHere_15 : decode cX11_wordHere 15 = .ok (.invokevirtual 97, 3) := by decide +kernel
theorem dX11_wordHere_18 : decode cX11_wordHere 18 = .ok (.bipush 97, 2) := by decide +kernel
theorem dX11_wordHere_20 : decode cX11_wordHere 20 = .ok (.if_icmp .lt 55, 3) := by decide +kernel
theorem dX11_wordHere_23 : decode cX11_wordHere 23 = .ok (.aload_n 0, 1) := by decide +kernel
theorem dX11_wordHere_24 : decode cX11_wordHere 24 = .ok (.aload_n 0, 1) := by decide +kernel
theorem dX11_wordHere_25 : decode cX11_wordHere 25 = .ok (.getfield 94, 3) := by decide +kernel
theorem dX11_wordHere_28 : decode cX11_wordHere 28 = .ok (.iload_n 2, 1) := by decide +kernel
theorem dX11_wordHere_29 : decode cX11_wordHere 29 = .ok (.iadd, 1) := by decide +kernel
theorem dX11_wordHere_30 : decode cX11_wordHere 30 = .ok (.invokevirtual 97, 3) := by decide +kernel
theorem dX11_wordHere_33 : decode cX11_wordHere 33 = .ok (.bipush 122, 2) := by decide +kernel
theorem dX11_wordHere_35 : decode cX11_wordHere 35 = .ok (.if_icmp .gt 40, 3) := by decide +kernel
theorem dX11_wordHere_38 : decode cX11_wordHere 38 = .ok (.iload_n 2, 1) := by decide +kernel
theorem dX11_wordHere_39 : decode cX11_wordHere 39 = .ok (.bipush 6, 2) := by decide +kernel
theorem dX11_wordHere_41 : decode cX11_wordHere 41 = .ok (.if_icmp .ge 26, 3) := by decide +kernel
theorem dX11_wordHere_44 : decode cX11_wordHere 44 = .ok (.bipush 27, 2) := by decide +kernel
theorem dX11_wordHere_46 : decode cX11_wordHere 46 = .ok (.iload_n 1, 1) := by decide +kernel
theorem dX11_wordHere_47 : decode cX11_wordHere 47 = .ok (.imul, 1) := by decide +kernel
theorem dX11_wordHere_48 : decode cX11_wordHere 48 = .ok (.aload_n 0, 1) := by decide +kernel
theorem dX11_wordHere_49 : decode cX11_wordHere 49 = .ok (.aload_n 0, 1) := by decide +kernel
theorem dX11_wordHere_50 : decode cX11_wordHere 50 = .ok (.getfield 94, 3) := by decide +kernel
theorem dX11_wordHere_53 : decode cX11_wordHere 53 = .ok (.iload_n 2, 1) := by decide +kernel
theorem dX11_wordHere_54 : decode cX11_wordHere 54 = .ok (.iadd, 1) := by decide +kernel
theorem dX11_wordHere_55 : decode cX11_wordHere 55 = .ok (.invokevirtual 97, 3) := by decide +kernel
theorem dX11_wordHere_58 : decode cX11_wordHere 58 = .ok (.iadd, 1) := by decide +kernel
theorem dX11_wordHere_59 : decode cX11_wordHere 59 = .ok (.bipush 97, 2) := by decide +kernel
theorem dX11_wordHere_61 : decode cX11_wordHere 61 = .ok (.isub, 1) := by decide +kernel
theorem dX11_wordHere_62 : decode cX11_wordHere 62 = .ok (.iconst 1, 1) := by decide +kernel
theorem dX11_wordHere_63 : decode cX11_wordHere 63 = .ok (.iadd, 1) := by decide +kernel
theorem dX11_wordHere_64 : decode cX11_wordHere 64 = .ok (.goto 4, 3) := by decide +kernel
theorem dX11_wordHere_67 : decode cX11_wordHere 67 = .ok (.iload_n 1, 1) := by decide +kernel
theorem dX11_wordHere_68 : decode cX11_wordHere 68 = .ok (.istore_n 1, 1) := by decide +kernel
theorem dX11_wordHere_69 : decode cX11_wordHere 69 = .ok (.iinc 2 1, 3) := by decide +kernel
theorem dX11_wordHere_72 : decode cX11_wordHere 72 = .ok (.goto (-64), 3) := by decide +kernel
theorem dX11_wordHere_75 : decode cX11_wordHere 75 = .ok (.iload_n 2, 1) := by decide +kernel
theorem dX11_wordHere_76 : decode cX11_wordHere 76 = .ok (.bipush 6, 2) := by decide +kernel
theorem dX11_wordHere_78 : decode cX11_wordHere 78 = .ok (.if_icmp .le 7, 3) := by decide +kernel
theorem dX11_wordHere_81 : decode cX11_wordHere 81 = .ok (.iconst (-1), 1) := by decide +kernel
theorem dX11_wordHere_82 : decode cX11_wordHere 82 = .ok (.goto 4, 3) := by decide +kernel
theorem dX11_wordHere_85 : decode cX11_wordHere 85 = .ok (.iload_n 1, 1) := by decide +kernel
theorem dX11_wordHere_86 : decode cX11_wordHere 86 = .ok (.ireturn, 1) := by decide +kernel
theorem dX11_six_0 : decode cX11_six 0 = .ok (.bipush 27, 2) := by decide +kernel
theorem dX11_six_2 : decode cX11_six 2 = .ok (.bipush 27, 2) := by decide +kernel
theorem dX11_six_4 : decode cX11_six 4 = .ok (.bipush 27, 2) := by decide +kernel
theorem dX11_six_6 : decode cX11_six 6 = .ok (.iload_n 0, 1) := by decide +kernel
theorem dX11_six_7 : decode cX11_six 7 = .ok (.imul, 1) := by decide +kernel
theorem dX11_six_8 : decode cX11_six 8 = .ok (.iload_n 1, 1) := by decide +kernel
theorem dX11_six_9 : decode cX11_six 9 = .ok (.iadd, 1) := by decide +kernel
theorem dX11_six_10 : decode cX11_six 10 = .ok (.imul, 1) := by decide +kernel
theorem dX11_six_11 : decode cX11_six 11 = .ok (.iload_n 2, 1) := by decide +kernel
theorem dX11_six_12 : decode cX11_six 12 = .ok (.iadd, 1) := by decide +kernel
theorem dX11_six_13 : decode cX11_six 13 = .ok (.imul, 1) := by decide +kernel
theorem dX11_six_14 : decode cX11_six 14 = .ok (.istore 6, 2) := by decide +kernel
theorem dX11_six_16 : decode cX11_six 16 = .ok (.iload_n 3, 1) := by decide +kernel
theorem dX11_six_17 : decode cX11_six 17 = .ok (.ifCond .ne 11, 3) := by decide +kernel
theorem dX11_six_20 : decode cX11_six 20 = .ok (.iload 6, 2) := by decide +kernel
theorem dX11_six_22 : decode cX11_six 22 = .ok (.bipush 27, 2) := by decide +kernel
theorem dX11_six_24 : decode cX11_six 24 = .ok (.idiv, 1) := by decide +kernel
theorem dX11_six_25 : decode cX11_six 25 = .ok (.goto 7, 3) := by decide +kernel
theorem dX11_six_28 : decode cX11_six 28 = .ok (.iload 6, 2) := by decide +kernel
theorem dX11_six_30 : decode cX11_six 30 = .ok (.iload_n 3, 1) := by decide +kernel
theorem dX11_six_31 : decode cX11_six 31 = .ok (.iadd, 1) := by decide +kernel
theorem dX11_six_32 : decode cX11_six 32 = .ok (.istore 6, 2) := by decide +kernel
theorem dX11_six_34 : decode cX11_six 34 = .ok (.iload 4, 2) := by decide +kernel
theorem dX11_six_36 : decode cX11_six 36 = .ok (.ifCond .ne 8, 3) := by decide +kernel
theorem dX11_six_39 : decode cX11_six 39 = .ok (.iload 6, 2) := by decide +kernel
theorem dX11_six_41 : decode cX11_six 41 = .ok (.goto 11, 3) := by decide +kernel
theorem dX11_six_44 : decode cX11_six 44 = .ok (.bipush 27, 2) := by decide +kernel
theorem dX11_six_46 : decode cX11_six 46 = .ok (.iload 6, 2) := by decide +kernel
theorem dX11_six_48 : decode cX11_six 48 = .ok (.imul, 1) := by decide +kernel
theorem dX11_six_49 : decode cX11_six 49 = .ok (.iload 4, 2) := by decide +kernel
theorem dX11_six_51 : decode cX11_six 51 = .ok (.iadd, 1) := by decide +kernel
theorem dX11_six_52 : decode cX11_six 52 = .ok (.istore 6, 2) := by decide +kernel
theorem dX11_six_54 : decode cX11_six 54 = .ok (.iload 5, 2) := by decide +kernel
theorem dX11_six_56 : decode cX11_six 56 = .ok (.ifCond .ne 8, 3) := by decide +kernel
theorem dX11_six_59 : decode cX11_six 59 = .ok (.iload 6, 2) := by decide +kernel
theorem dX11_six_61 : decode cX11_six 61 = .ok (.goto 11, 3) := by decide +kernel
theorem dX11_six_64 : decode cX11_six 64 = .ok (.bipush 27, 2) := by decide +kernel
theorem dX11_six_66 : decode cX11_six 66 = .ok (.iload 6, 2) := by decide +kernel
theorem dX11_six_68 : decode cX11_six 68 = .ok (.imul, 1) := by decide +kernel
theorem dX11_six_69 : decode cX11_six 69 = .ok (.iload 5, 2) := by decide +kernel
theorem dX11_six_71 : decode cX11_six 71 = .ok (.iadd, 1) := by decide +kernel
theorem dX11_six_72 : decode cX11_six 72 = .ok (.ireturn, 1) := by decide +kernel
theorem ggX11_isWord_X11_wordHere : GoodIn wsX11_isWord wsX11_wordHere := gW_in gwX11_wordHere (fun _ h => List.mem_cons_of_mem _ (List.mem_append_right _ (List.mem_append_right _ (List.mem_append_left _ h))))
set_option maxRecDepth 20000 in
theorem gX11_isWord_X11_wordHere : GoodIn wsX11_isWord (wsV RX11 123 RX11 yX11_wordHere wsX11_wordHere) := goodIn_app (goodIn_of _ (by decide +kernel)) ggX11_isWord_X11_wordHere
theorem ggX11_isWord_X11_six : GoodIn wsX11_isWord wsX11_six := gW_in gwX11_six (fun _ h => List.mem_cons_of_mem _ (List.mem_append_right _ (List.mem_append_right _ (List.mem_append_right _ (h)))))
set_option maxRecDepth 20000 in
theorem gX11_isWord_X11_six : GoodIn wsX11_isWord (va_wsS RX11 127 yX11_six wsX11_six) := goodIn_app (goodIn_of _ (by decide +kernel)) ggX11_isWord_X11_six
theorem dX11_isWord_0 : decode cX11_isWord 0 = .ok (.aload_n 0, 1) := by decide +kernel
theorem dX11_isWord_1 : decode cX11_isWord 1 = .ok (.getfield 101, 3) := by decide +kernel
theorem dX11_isWord_4 : decode cX11_isWord 4 = .ok (.ifCond .ne 26, 3) := by decide +kernel
theorem dX11_isWord_7 : decode cX11_isWord 7 = .ok (.aload_n 0, 1) := by decide +kernel
theorem dX11_isWord_8 : decode cX11_isWord 8 = .ok (.invokevirtual 123, 3) := by decide +kernel
theorem dX11_isWord_11 : decode cX11_isWord 11 = .ok (.iload_n 1, 1) := by decide +kernel
theorem dX11_isWord_12 : decode cX11_isWord 12 = .ok (.iload_n 2, 1) := by decide +kernel
theorem dX11_isWord_13 : decode cX11_isWord 13 = .ok (.iload_n 3, 1) := by decide +kernel
theorem dX11_isWord_14 : decode cX11_isWord 14 = .ok (.iload 4, 2) := by decide +kernel
theorem dX11_isWord_16 : decode cX11_isWord 16 = .ok (.iload 5, 2) := by decide +kernel
theorem dX11_isWord_18 : decode cX11_isWord 18 = .ok (.iload 6, 2) := by decide +kernel
theorem dX11_isWord_20 : decode cX11_isWord 20 = .ok (.invokestatic 127, 3) := by decide +kernel
theorem dX11_isWord_23 : decode cX11_isWord 23 = .ok (.if_icmp .ne 7, 3) := by decide +kernel
theorem dX11_isWord_26 : decode cX11_isWord 26 = .ok (.iconst 1, 1) := by decide +kernel
theorem dX11_isWord_27 : decode cX11_isWord 27 = .ok (.goto 4, 3) := by decide +kernel
theorem dX11_isWord_30 : decode cX11_isWord 30 = .ok (.iconst 0, 1) := by decide +kernel
theorem dX11_isWord_31 : decode cX11_isWord 31 = .ok (.ireturn, 1) := by decide +kernel
theorem ggX11_skipWord_X11_byteAt : GoodIn wsX11_skipWord wsX11_byteAt := gW_in gwX11_byteAt (fun _ h => List.mem_cons_of_mem _ (List.mem_append_right _ (List.mem_append_right _ (h))))
set_option maxRecDepth 20000 in
theorem gX11_skipWord_X11_byteAt : GoodIn wsX11_skipWord (wsV RX11 97 RX11 yX11_byteAt wsX11_byteAt) := goodIn_app (goodIn_of _ (by decide +kernel)) ggX11_skipWord_X11_byteAt
theorem dX11_skipWord_0 : decode cX11_skipWord 0 = .ok (.aload_n 0, 1) := by decide +kernel
theorem dX11_skipWord_1 : decode cX11_skipWord 1 = .ok (.aload_n 0, 1) := by decide +kernel
theorem dX11_skipWord_2 : decode cX11_skipWord 2 = .ok (.getfield 94, 3) := by decide +kernel
theorem dX11_skipWord_5 : decode cX11_skipWord 5 = .ok (.invokevirtual 97, 3) := by decide +kernel
theorem dX11_skipWord_8 : decode cX11_skipWord 8 = .ok (.bipush 97, 2) := by decide +kernel
theorem dX11_skipWord_10 : decode cX11_skipWord 10 = .ok (.if_icmp .lt 29, 3) := by decide +kernel
theorem dX11_skipWord_13 : decode cX11_skipWord 13 = .ok (.aload_n 0, 1) := by decide +kernel
theorem dX11_skipWord_14 : decode cX11_skipWord 14 = .ok (.aload_n 0, 1) := by decide +kernel
theorem dX11_skipWord_15 : decode cX11_skipWord 15 = .ok (.getfield 94, 3) := by decide +kernel
theorem dX11_skipWord_18 : decode cX11_skipWord 18 = .ok (.invokevirtual 97, 3) := by decide +kernel
theorem dX11_skipWord_21 : decode cX11_skipWord 21 = .ok (.bipush 122, 2) := by decide +kernel
theorem dX11_skipWord_23 : decode cX11_skipWord 23 = .ok (.if_icmp .gt 16, 3) := by decide +kernel
theorem dX11_skipWord_26 : decode cX11_skipWord 26 = .ok (.aload_n 0, 1) := by decide +kernel
theorem dX11_skipWord_27 : decode cX11_skipWord 27 = .ok (.dup, 1) := by decide +kernel
theorem dX11_skipWord_28 : decode cX11_skipWord 28 = .ok (.getfield 94, 3) := by decide +kernel
theorem dX11_skipWord_31 : decode cX11_skipWord 31 = .ok (.iconst 1, 1) := by decide +kernel
theorem dX11_skipWord_32 : decode cX11_skipWord 32 = .ok (.iadd, 1) := by decide +kernel
theorem dX11_skipWord_33 : decode cX11_skipWord 33 = .ok (.putfield 94, 3) := by decide +kernel
theorem dX11_skipWord_36 : decode cX11_skipWord 36 = .ok (.goto (-36), 3) := by decide +kernel
theorem dX11_skipWord_39 : decode cX11_skipWord 39 = .ok (.return_, 1) := by decide +kernel
theorem ggX11_closes_X11_blanks : GoodIn wsX11_closes wsX11_blanks := gW_in gwX11_blanks (fun _ h => List.mem_cons_of_mem _ (List.mem_append_right _ (List.mem_append_right _ (List.mem_append_left _ h))))
set_option maxRecDepth 20000 in
theorem gX11_closes_X11_blanks : GoodIn wsX11_closes (wsV RX11 107 RX11 yX11_blanks wsX11_blanks) := goodIn_app (goodIn_of _ (by decide +kernel)) ggX11_closes_X11_blanks
theorem ggX11_closes_X11_byteAt : GoodIn wsX11_closes wsX11_byteAt := gW_in gwX11_byteAt (fun _ h => List.mem_cons_of_mem _ (List.mem_append_right _ (List.mem_append_right _ (List.mem_append_right _ (List.mem_append_left _ h)))))
set_option maxRecDepth 20000 in
theorem gX11_closes_X11_byteAt : GoodIn wsX11_closes (wsV RX11 97 RX11 yX11_byteAt wsX11_byteAt) := goodIn_app (goodIn_of _ (by decide +kernel)) ggX11_closes_X11_byteAt
theorem ggX11_closes_X11_wrong : GoodIn wsX11_closes wsX11_wrong := gW_in gwX11_wrong (fun _ h => List.mem_cons_of_mem _ (List.mem_append_right _ (List.mem_append_right _ (List.mem_append_right _ (List.mem_append_right _ (h))))))
set_option maxRecDepth 20000 in
theorem gX11_closes_X11_wrong : GoodIn wsX11_closes (wsV RX11 114 RX11 yX11_wrong wsX11_wrong) := goodIn_app (goodIn_of _ (by decide +kernel)) ggX11_closes_X11_wrong
theorem dX11_closes_0 : decode cX11_closes 0 = .ok (.aload_n 0, 1) := by decide +kernel
theorem dX11_closes_1 : decode cX11_closes 1 = .ok (.getfield 101, 3) := by decide +kernel
theorem dX11_closes_4 : decode cX11_closes 4 = .ok (.ifCond .eq 4, 3) := by decide +kernel
theorem dX11_closes_7 : decode cX11_closes 7 = .ok (.return_, 1) := by decide +kernel
theorem dX11_closes_8 : decode cX11_closes 8 = .ok (.aload_n 0, 1) := by decide +kernel
theorem dX11_closes_9 : decode cX11_closes 9 = .ok (.invokevirtual 107, 3) := by decide +kernel
theorem dX11_closes_12 : decode cX11_closes 12 = .ok (.aload_n 0, 1) := by decide +kernel
theorem dX11_closes_13 : decode cX11_closes 13 = .ok (.aload_n 0, 1) := by decide +kernel
theorem dX11_closes_14 : decode cX11_closes 14 = .ok (.getfield 94, 3) := by decide +kernel
theorem dX11_closes_17 : decode cX11_closes 17 = .ok (.invokevirtual 97, 3) := by decide +kernel
theorem dX11_closes_20 : decode cX11_closes 20 = .ok (.bipush 59, 2) := by decide +kernel
theorem dX11_closes_22 : decode cX11_closes 22 = .ok (.if_icmp .ne 16, 3) := by decide +kernel
theorem dX11_closes_25 : decode cX11_closes 25 = .ok (.aload_n 0, 1) := by decide +kernel
theorem dX11_closes_26 : decode cX11_closes 26 = .ok (.dup, 1) := by decide +kernel
theorem dX11_closes_27 : decode cX11_closes 27 = .ok (.getfield 94, 3) := by decide +kernel
theorem dX11_closes_30 : decode cX11_closes 30 = .ok (.iconst 1, 1) := by decide +kernel
theorem dX11_closes_31 : decode cX11_closes 31 = .ok (.iadd, 1) := by decide +kernel
theorem dX11_closes_32 : decode cX11_closes 32 = .ok (.putfield 94, 3) := by decide +kernel
theorem dX11_closes_35 : decode cX11_closes 35 = .ok (.goto 12, 3) := by decide +kernel
theorem dX11_closes_38 : decode cX11_closes 38 = .ok (.aload_n 0, 1) := by decide +kernel
theorem dX11_closes_39 : decode cX11_closes 39 = .ok (.iconst 1, 1) := by decide +kernel
theorem dX11_closes_40 : decode cX11_closes 40 = .ok (.aload_n 0, 1) := by decide +kernel
theorem dX11_closes_41 : decode cX11_closes 41 = .ok (.getfield 94, 3) := by decide +kernel
theorem dX11_closes_44 : decode cX11_closes 44 = .ok (.invokevirtual 114, 3) := by decide +kernel
theorem dX11_closes_47 : decode cX11_closes 47 = .ok (.return_, 1) := by decide +kernel
theorem ggX11_starts_X11_blanks : GoodIn wsX11_starts wsX11_blanks := gW_in gwX11_blanks (fun _ h => List.mem_cons_of_mem _ (List.mem_append_right _ (List.mem_append_right _ (h))))
set_option maxRecDepth 20000 in
theorem gX11_starts_X11_blanks : GoodIn wsX11_starts (wsV RX11 107 RX11 yX11_blanks wsX11_blanks) := goodIn_app (goodIn_of _ (by decide +kernel)) ggX11_starts_X11_blanks
theorem dX11_starts_0 : decode cX11_starts 0 = .ok (.aload_n 0, 1) := by decide +kernel
theorem dX11_starts_1 : decode cX11_starts 1 = .ok (.iconst 0, 1) := by decide +kernel
theorem dX11_starts_2 : decode cX11_starts 2 = .ok (.putfield 88, 3) := by decide +kernel
theorem dX11_starts_5 : decode cX11_starts 5 = .ok (.aload_n 0, 1) := by decide +kernel
theorem dX11_starts_6 : decode cX11_starts 6 = .ok (.iload_n 1, 1) := by decide +kernel
theorem dX11_starts_7 : decode cX11_starts 7 = .ok (.putfield 91, 3) := by decide +kernel
theorem dX11_starts_10 : decode cX11_starts 10 = .ok (.aload_n 0, 1) := by decide +kernel
theorem dX11_starts_11 : decode cX11_starts 11 = .ok (.iconst 0, 1) := by decide +kernel
theorem dX11_starts_12 : decode cX11_starts 12 = .ok (.putfield 94, 3) := by decide +kernel
theorem dX11_starts_15 : decode cX11_starts 15 = .ok (.aload_n 0, 1) := by decide +kernel
theorem dX11_starts_16 : decode cX11_starts 16 = .ok (.iconst 0, 1) := by decide +kernel
theorem dX11_starts_17 : decode cX11_starts 17 = .ok (.putfield 101, 3) := by decide +kernel
theorem dX11_starts_20 : decode cX11_starts 20 = .ok (.aload_n 0, 1) := by decide +kernel
theorem dX11_starts_21 : decode cX11_starts 21 = .ok (.iconst (-1), 1) := by decide +kernel
theorem dX11_starts_22 : decode cX11_starts 22 = .ok (.putfield 104, 3) := by decide +kernel
theorem dX11_starts_25 : decode cX11_starts 25 = .ok (.aload_n 0, 1) := by decide +kernel
theorem dX11_starts_26 : decode cX11_starts 26 = .ok (.iconst 0, 1) := by decide +kernel
theorem dX11_starts_27 : decode cX11_starts 27 = .ok (.putfield 131, 3) := by decide +kernel
theorem dX11_starts_30 : decode cX11_starts 30 = .ok (.aload_n 0, 1) := by decide +kernel
theorem dX11_starts_31 : decode cX11_starts 31 = .ok (.invokevirtual 107, 3) := by decide +kernel
theorem dX11_starts_34 : decode cX11_starts 34 = .ok (.return_, 1) := by decide +kernel
theorem ggX11_kindHere_X11_isWord : GoodIn wsX11_kindHere wsX11_isWord := gW_in gwX11_isWord (fun _ h => List.mem_cons_of_mem _ (List.mem_append_right _ (List.mem_append_right _ (h))))
set_option maxRecDepth 20000 in
theorem gX11_kindHere_X11_isWord : GoodIn wsX11_kindHere (wsV RX11 134 RX11 yX11_isWord wsX11_isWord) := goodIn_app (goodIn_of _ (by decide +kernel)) ggX11_kindHere_X11_isWord
theorem dX11_kindHere_0 : decode cX11_kindHere 0 = .ok (.aload_n 0, 1) := by decide +kernel
theorem dX11_kindHere_1 : decode cX11_kindHere 1 = .ok (.bipush 23, 2) := by decide +kernel
theorem dX11_kindHere_3 : decode cX11_kindHere 3 = .ok (.iconst 1, 1) := by decide +kernel
theorem dX11_kindHere_4 : decode cX11_kindHere 4 = .ok (.bipush 12, 2) := by decide +kernel
theorem dX11_kindHere_6 : decode cX11_kindHere 6 = .ok (.bipush 12, 2) := by decide +kernel
theorem dX11_kindHere_8 : decode cX11_kindHere 8 = .ok (.iconst 0, 1) := by decide +kernel
theorem dX11_kindHere_9 : decode cX11_kindHere 9 = .ok (.iconst 0, 1) := by decide +kernel
theorem dX11_kindHere_10 : decode cX11_kindHere 10 = .ok (.invokevirtual 134, 3) := by decide +kernel
theorem dX11_kindHere_13 : decode cX11_kindHere 13 = .ok (.ifCond .eq 5, 3) := by decide +kernel
theorem dX11_kindHere_16 : decode cX11_kindHere 16 = .ok (.iconst 0, 1) := by decide +kernel
theorem dX11_kindHere_17 : decode cX11_kindHere 17 = .ok (.ireturn, 1) := by decide +kernel
theorem dX11_kindHere_18 : decode cX11_kindHere 18 = .ok (.aload_n 0, 1) := by decide +kernel
theorem dX11_kindHere_19 : decode cX11_kindHere 19 = .ok (.iconst 4, 1) := by decide +kernel
theorem dX11_kindHere_20 : decode cX11_kindHere 20 = .ok (.bipush 21, 2) := by decide +kernel
theorem dX11_kindHere_22 : decode cX11_kindHere 22 = .ok (.bipush 11, 2) := by decide +kernel
theorem dX11_kindHere_24 : decode cX11_kindHere 24 = .ok (.iconst 5, 1) := by decide +kernel
theorem dX11_kindHere_25 : decode cX11_kindHere 25 = .ok (.iconst 0, 1) := by decide +kernel
theorem dX11_kindHere_26 : decode cX11_kindHere 26 = .ok (.iconst 0, 1) := by decide +kernel
theorem dX11_kindHere_27 : decode cX11_kindHere 27 = .ok (.invokevirtual 134, 3) := by decide +kernel
theorem dX11_kindHere_30 : decode cX11_kindHere 30 = .ok (.ifCond .eq 5, 3) := by decide +kernel
theorem dX11_kindHere_33 : decode cX11_kindHere 33 = .ok (.iconst 1, 1) := by decide +kernel
theorem dX11_kindHere_34 : decode cX11_kindHere 34 = .ok (.ireturn, 1) := by decide +kernel
theorem dX11_kindHere_35 : decode cX11_kindHere 35 = .ok (.aload_n 0, 1) := by decide +kernel
theorem dX11_kindHere_36 : decode cX11_kindHere 36 = .ok (.iconst 5, 1) := by decide +kernel
theorem dX11_kindHere_37 : decode cX11_kindHere 37 = .ok (.bipush 14, 2) := by decide +kernel
theorem dX11_kindHere_39 : decode cX11_kindHere 39 = .ok (.iconst 5, 1) := by decide +kernel
theorem dX11_kindHere_40 : decode cX11_kindHere 40 = .ok (.bipush 13, 2) := by decide +kernel
theorem dX11_kindHere_42 : decode cX11_kindHere 42 = .ok (.bipush 25, 2) := by decide +kernel
theorem dX11_kindHere_44 : decode cX11_kindHere 44 = .ok (.iconst 0, 1) := by decide +kernel
theorem dX11_kindHere_45 : decode cX11_kindHere 45 = .ok (.invokevirtual 134, 3) := by decide +kernel
theorem dX11_kindHere_48 : decode cX11_kindHere 48 = .ok (.ifCond .eq 5, 3) := by decide +kernel
theorem dX11_kindHere_51 : decode cX11_kindHere 51 = .ok (.iconst 4, 1) := by decide +kernel
theorem dX11_kindHere_52 : decode cX11_kindHere 52 = .ok (.ireturn, 1) := by decide +kernel
theorem dX11_kindHere_53 : decode cX11_kindHere 53 = .ok (.aload_n 0, 1) := by decide +kernel
theorem dX11_kindHere_54 : decode cX11_kindHere 54 = .ok (.bipush 20, 2) := by decide +kernel
theorem dX11_kindHere_56 : decode cX11_kindHere 56 = .ok (.bipush 15, 2) := by decide +kernel
theorem dX11_kindHere_58 : decode cX11_kindHere 58 = .ok (.bipush 23, 2) := by decide +kernel
theorem dX11_kindHere_60 : decode cX11_kindHere 60 = .ok (.bipush 14, 2) := by decide +kernel
theorem dX11_kindHere_62 : decode cX11_kindHere 62 = .ok (.iconst 0, 1) := by decide +kernel
theorem dX11_kindHere_63 : decode cX11_kindHere 63 = .ok (.iconst 0, 1) := by decide +kernel
theorem dX11_kindHere_64 : decode cX11_kindHere 64 = .ok (.invokevirtual 134, 3) := by decide +kernel
theorem dX11_kindHere_67 : decode cX11_kindHere 67 = .ok (.ifCond .eq 6, 3) := by decide +kernel
theorem dX11_kindHere_70 : decode cX11_kindHere 70 = .ok (.bipush 7, 2) := by decide +kernel
theorem dX11_kindHere_72 : decode cX11_kindHere 72 = .ok (.ireturn, 1) := by decide +kernel
theorem dX11_kindHere_73 : decode cX11_kindHere 73 = .ok (.aload_n 0, 1) := by decide +kernel
theorem dX11_kindHere_74 : decode cX11_kindHere 74 = .ok (.bipush 6, 2) := by decide +kernel
theorem dX11_kindHere_76 : decode cX11_kindHere 76 = .ok (.iconst 5, 1) := by decide +kernel
theorem dX11_kindHere_77 : decode cX11_kindHere 77 = .ok (.iconst 1, 1) := by decide +kernel
theorem dX11_kindHere_78 : decode cX11_kindHere 78 = .ok (.bipush 18, 2) := by decide +kernel
theorem dX11_kindHere_80 : decode cX11_kindHere 80 = .ok (.iconst 0, 1) := by decide +kernel
theorem dX11_kindHere_81 : decode cX11_kindHere 81 = .ok (.iconst 0, 1) := by decide +kernel
theorem dX11_kindHere_82 : decode cX11_kindHere 82 = .ok (.invokevirtual 134, 3) := by decide +kernel
theorem dX11_kindHere_85 : decode cX11_kindHere 85 = .ok (.ifCond .eq 6, 3) := by decide +kernel
theorem dX11_kindHere_88 : decode cX11_kindHere 88 = .ok (.bipush 9, 2) := by decide +kernel
theorem dX11_kindHere_90 : decode cX11_kindHere 90 = .ok (.ireturn, 1) := by decide +kernel
theorem dX11_kindHere_91 : decode cX11_kindHere 91 = .ok (.aload_n 0, 1) := by decide +kernel
theorem dX11_kindHere_92 : decode cX11_kindHere 92 = .ok (.bipush 13, 2) := by decide +kernel
theorem dX11_kindHere_94 : decode cX11_kindHere 94 = .ok (.iconst 1, 1) := by decide +kernel
theorem dX11_kindHere_95 : decode cX11_kindHere 95 = .ok (.bipush 19, 2) := by decide +kernel
theorem dX11_kindHere_97 : decode cX11_kindHere 97 = .ok (.bipush 15, 2) := by decide +kernel
theorem dX11_kindHere_99 : decode cX11_kindHere 99 = .ok (.bipush 14, 2) := by decide +kernel
theorem dX11_kindHere_101 : decode cX11_kindHere 101 = .ok (.iconst 0, 1) := by decide +kernel
theorem dX11_kindHere_102 : decode cX11_kindHere 102 = .ok (.invokevirtual 134, 3) := by decide +kernel
theorem dX11_kindHere_105 : decode cX11_kindHere 105 = .ok (.ifCond .eq 6, 3) := by decide +kernel
theorem dX11_kindHere_108 : decode cX11_kindHere 108 = .ok (.bipush 12, 2) := by decide +kernel
theorem dX11_kindHere_110 : decode cX11_kindHere 110 = .ok (.ireturn, 1) := by decide +kernel
theorem dX11_kindHere_111 : decode cX11_kindHere 111 = .ok (.aload_n 0, 1) := by decide +kernel
theorem dX11_kindHere_112 : decode cX11_kindHere 112 = .ok (.iconst 3, 1) := by decide +kernel
theorem dX11_kindHere_113 : decode cX11_kindHere 113 = .ok (.bipush 15, 2) := by decide +kernel
theorem dX11_kindHere_115 : decode cX11_kindHere 115 = .ok (.bipush 19, 2) := by decide +kernel
theorem dX11_kindHere_117 : decode cX11_kindHere 117 = .ok (.bipush 20, 2) := by decide +kernel
theorem dX11_kindHere_119 : decode cX11_kindHere 119 = .ok (.iconst 0, 1) := by decide +kernel
theorem dX11_kindHere_120 : decode cX11_kindHere 120 = .ok (.iconst 0, 1) := by decide +kernel
theorem dX11_kindHere_121 : decode cX11_kindHere 121 = .ok (.invokevirtual 134, 3) := by decide +kernel
theorem dX11_kindHere_124 : decode cX11_kindHere 124 = .ok (.ifCond .eq 6, 3) := by decide +kernel
theorem dX11_kindHere_127 : decode cX11_kindHere 127 = .ok (.bipush 13, 2) := by decide +kernel
theorem dX11_kindHere_129 : decode cX11_kindHere 129 = .ok (.ireturn, 1) := by decide +kernel
theorem dX11_kindHere_130 : decode cX11_kindHere 130 = .ok (.aload_n 0, 1) := by decide +kernel
theorem dX11_kindHere_131 : decode cX11_kindHere 131 = .ok (.bipush 14, 2) := by decide +kernel
theorem dX11_kindHere_133 : decode cX11_kindHere 133 = .ok (.iconst 5, 1) := by decide +kernel
theorem dX11_kindHere_134 : decode cX11_kindHere 134 = .ok (.iconst 1, 1) := by decide +kernel
theorem dX11_kindHere_135 : decode cX11_kindHere 135 = .ok (.bipush 18, 2) := by decide +kernel
theorem dX11_kindHere_137 : decode cX11_kindHere 137 = .ok (.iconst 0, 1) := by decide +kernel
theorem dX11_kindHere_138 : decode cX11_kindHere 138 = .ok (.iconst 0, 1) := by decide +kernel
theorem dX11_kindHere_139 : decode cX11_kindHere 139 = .ok (.invokevirtual 134, 3) := by decide +kernel
theorem dX11_kindHere_142 : decode cX11_kindHere 142 = .ok (.ifCond .eq 8, 3) := by decide +kernel
theorem dX11_kindHere_145 : decode cX11_kindHere 145 = .ok (.bipush 15, 2) := by decide +kernel
theorem dX11_kindHere_147 : decode cX11_kindHere 147 = .ok (.goto 4, 3) := by decide +kernel
theorem dX11_kindHere_150 : decode cX11_kindHere 150 = .ok (.iconst (-1), 1) := by decide +kernel
theorem dX11_kindHere_151 : decode cX11_kindHere 151 = .ok (.ireturn, 1) := by decide +kernel
theorem ggX11_clause_X11_kindHere : GoodIn wsX11_clause wsX11_kindHere := gW_in gwX11_kindHere (fun _ h => List.mem_cons_of_mem _ (List.mem_append_right _ (List.mem_append_right _ (List.mem_append_left _ h))))
set_option maxRecDepth 20000 in
theorem gX11_clause_X11_kindHere : GoodIn wsX11_clause (wsV RX11 138 RX11 yX11_kindHere wsX11_kindHere) := goodIn_app (goodIn_of _ (by decide +kernel)) ggX11_clause_X11_kindHere
theorem ggX11_clause_X11_wrong : GoodIn wsX11_clause wsX11_wrong := gW_in gwX11_wrong (fun _ h => List.mem_cons_of_mem _ (List.mem_append_right _ (List.mem_append_right _ (List.mem_append_right _ (List.mem_append_left _ h)))))
set_option maxRecDepth 20000 in
theorem gX11_clause_X11_wrong : GoodIn wsX11_clause (wsV RX11 114 RX11 yX11_wrong wsX11_wrong) := goodIn_app (goodIn_of _ (by decide +kernel)) ggX11_clause_X11_wrong
theorem ggX11_clause_X11_skipWord : GoodIn wsX11_clause wsX11_skipWord := gW_in gwX11_skipWord (fun _ h => List.mem_cons_of_mem _ (List.mem_append_right _ (List.mem_append_right _ (List.mem_append_right _ (List.mem_append_right _ (List.mem_append_left _ h))))))
set_option maxRecDepth 20000 in
theorem gX11_clause_X11_skipWord : GoodIn wsX11_clause (wsV RX11 141 RX11 yX11_skipWord wsX11_skipWord) := goodIn_app (goodIn_of _ (by decide +kernel)) ggX11_clause_X11_skipWord
theorem ggX11_clause_X11_number : GoodIn wsX11_clause wsX11_number := gW_in gwX11_number (fun _ h => List.mem_cons_of_mem _ (List.mem_append_right _ (List.mem_append_right _ (List.mem_append_right _ (List.mem_append_right _ (List.mem_append_right _ (List.mem_append_left _ h)))))))
set_option maxRecDepth 20000 in
theorem gX11_clause_X11_number : GoodIn wsX11_clause (wsV RX11 144 RX11 yX11_number wsX11_number) := goodIn_app (goodIn_of _ (by decide +kernel)) ggX11_clause_X11_number
theorem ggX11_clause_X11_closes : GoodIn wsX11_clause wsX11_closes := gW_in gwX11_closes (fun _ h => List.mem_cons_of_mem _ (List.mem_append_right _ (List.mem_append_right _ (List.mem_append_right _ (List.mem_append_right _ (List.mem_append_right _ (List.mem_append_right _ (h))))))))
set_option maxRecDepth 20000 in
theorem gX11_clause_X11_closes : GoodIn wsX11_clause (wsV RX11 148 RX11 yX11_closes wsX11_closes) := goodIn_app (goodIn_of _ (by decide +kernel)) ggX11_clause_X11_closes
theorem dX11_clause_0 : decode cX11_clause 0 = .ok (.aload_n 0, 1) := by decide +kernel
theorem dX11_clause_1 : decode cX11_clause 1 = .ok (.invokevirtual 138, 3) := by decide +kernel
theorem dX11_clause_4 : decode cX11_clause 4 = .ok (.istore_n 1, 1) := by decide +kernel
theorem dX11_clause_5 : decode cX11_clause 5 = .ok (.iload_n 1, 1) := by decide +kernel
theorem dX11_clause_6 : decode cX11_clause 6 = .ok (.iconst (-1), 1) := by decide +kernel
theorem dX11_clause_7 : decode cX11_clause 7 = .ok (.if_icmp .ne 15, 3) := by decide +kernel
theorem dX11_clause_10 : decode cX11_clause 10 = .ok (.aload_n 0, 1) := by decide +kernel
theorem dX11_clause_11 : decode cX11_clause 11 = .ok (.iconst 1, 1) := by decide +kernel
theorem dX11_clause_12 : decode cX11_clause 12 = .ok (.aload_n 0, 1) := by decide +kernel
theorem dX11_clause_13 : decode cX11_clause 13 = .ok (.getfield 94, 3) := by decide +kernel
theorem dX11_clause_16 : decode cX11_clause 16 = .ok (.invokevirtual 114, 3) := by decide +kernel
theorem dX11_clause_19 : decode cX11_clause 19 = .ok (.goto 36, 3) := by decide +kernel
theorem dX11_clause_22 : decode cX11_clause 22 = .ok (.aload_n 0, 1) := by decide +kernel
theorem dX11_clause_23 : decode cX11_clause 23 = .ok (.getfield 131, 3) := by decide +kernel
theorem dX11_clause_26 : decode cX11_clause 26 = .ok (.bipush 60, 2) := by decide +kernel
theorem dX11_clause_28 : decode cX11_clause 28 = .ok (.if_icmp .eq 18, 3) := by decide +kernel
theorem dX11_clause_31 : decode cX11_clause 31 = .ok (.iload_n 1, 1) := by decide +kernel
theorem dX11_clause_32 : decode cX11_clause 32 = .ok (.ifCond .ne 23, 3) := by decide +kernel
theorem dX11_clause_35 : decode cX11_clause 35 = .ok (.aload_n 0, 1) := by decide +kernel
theorem dX11_clause_36 : decode cX11_clause 36 = .ok (.getfield 20, 3) := by decide +kernel
theorem dX11_clause_39 : decode cX11_clause 39 = .ok (.iconst 0, 1) := by decide +kernel
theorem dX11_clause_40 : decode cX11_clause 40 = .ok (.iaload, 1) := by decide +kernel
theorem dX11_clause_41 : decode cX11_clause 41 = .ok (.bipush 6, 2) := by decide +kernel
theorem dX11_clause_43 : decode cX11_clause 43 = .ok (.if_icmp .ne 12, 3) := by decide +kernel
theorem dX11_clause_46 : decode cX11_clause 46 = .ok (.aload_n 0, 1) := by decide +kernel
theorem dX11_clause_47 : decode cX11_clause 47 = .ok (.iconst 3, 1) := by decide +kernel
theorem dX11_clause_48 : decode cX11_clause 48 = .ok (.aload_n 0, 1) := by decide +kernel
theorem dX11_clause_49 : decode cX11_clause 49 = .ok (.getfield 94, 3) := by decide +kernel
theorem dX11_clause_52 : decode cX11_clause 52 = .ok (.invokevirtual 114, 3) := by decide +kernel
theorem dX11_clause_55 : decode cX11_clause 55 = .ok (.aload_n 0, 1) := by decide +kernel
theorem dX11_clause_56 : decode cX11_clause 56 = .ok (.getfield 101, 3) := by decide +kernel
theorem dX11_clause_59 : decode cX11_clause 59 = .ok (.ifCond .eq 4, 3) := by decide +kernel
theorem dX11_clause_62 : decode cX11_clause 62 = .ok (.return_, 1) := by decide +kernel
theorem dX11_clause_63 : decode cX11_clause 63 = .ok (.aload_n 0, 1) := by decide +kernel
theorem dX11_clause_64 : decode cX11_clause 64 = .ok (.invokevirtual 141, 3) := by decide +kernel
theorem dX11_clause_67 : decode cX11_clause 67 = .ok (.aload_n 0, 1) := by decide +kernel
theorem dX11_clause_68 : decode cX11_clause 68 = .ok (.dup, 1) := by decide +kernel
theorem dX11_clause_69 : decode cX11_clause 69 = .ok (.getfield 131, 3) := by decide +kernel
theorem dX11_clause_72 : decode cX11_clause 72 = .ok (.iconst 1, 1) := by decide +kernel
theorem dX11_clause_73 : decode cX11_clause 73 = .ok (.iadd, 1) := by decide +kernel
theorem dX11_clause_74 : decode cX11_clause 74 = .ok (.putfield 131, 3) := by decide +kernel
theorem dX11_clause_77 : decode cX11_clause 77 = .ok (.iload_n 1, 1) := by decide +kernel
theorem dX11_clause_78 : decode cX11_clause 78 = .ok (.tableswitch 288 0 13 #[70, 115, 288, 288, 115, 288, 288, 163, 288, 195, 288, 288, 240, 257], 70) := by decide +kernel
theorem dX11_clause_148 : decode cX11_clause 148 = .ok (.aload_n 0, 1) := by decide +kernel
theorem dX11_clause_149 : decode cX11_clause 149 = .ok (.getfield 28, 3) := by decide +kernel
theorem dX11_clause_152 : decode cX11_clause 152 = .ok (.aload_n 0, 1) := by decide +kernel
theorem dX11_clause_153 : decode cX11_clause 153 = .ok (.getfield 20, 3) := by decide +kernel
theorem dX11_clause_156 : decode cX11_clause 156 = .ok (.iconst 0, 1) := by decide +kernel
theorem dX11_clause_157 : decode cX11_clause 157 = .ok (.iaload, 1) := by decide +kernel
theorem dX11_clause_158 : decode cX11_clause 158 = .ok (.aaload, 1) := by decide +kernel
theorem dX11_clause_159 : decode cX11_clause 159 = .ok (.astore_n 2, 1) := by decide +kernel
theorem dX11_clause_160 : decode cX11_clause 160 = .ok (.aload_n 2, 1) := by decide +kernel
theorem dX11_clause_161 : decode cX11_clause 161 = .ok (.iconst 0, 1) := by decide +kernel
theorem dX11_clause_162 : decode cX11_clause 162 = .ok (.aload_n 0, 1) := by decide +kernel
theorem dX11_clause_163 : decode cX11_clause 163 = .ok (.iconst 1, 1) := by decide +kernel
theorem dX11_clause_164 : decode cX11_clause 164 = .ok (.bipush 99, 2) := by decide +kernel
theorem dX11_clause_166 : decode cX11_clause 166 = .ok (.invokevirtual 144, 3) := by decide +kernel
theorem dX11_clause_169 : decode cX11_clause 169 = .ok (.iastore, 1) := by decide +kernel
theorem dX11_clause_170 : decode cX11_clause 170 = .ok (.aload_n 2, 1) := by decide +kernel
theorem dX11_clause_171 : decode cX11_clause 171 = .ok (.iconst 1, 1) := by decide +kernel
theorem dX11_clause_172 : decode cX11_clause 172 = .ok (.aload_n 0, 1) := by decide +kernel
theorem dX11_clause_173 : decode cX11_clause 173 = .ok (.iconst 0, 1) := by decide +kernel
theorem dX11_clause_174 : decode cX11_clause 174 = .ok (.bipush 50, 2) := by decide +kernel
theorem dX11_clause_176 : decode cX11_clause 176 = .ok (.invokevirtual 144, 3) := by decide +kernel
theorem dX11_clause_179 : decode cX11_clause 179 = .ok (.iastore, 1) := by decide +kernel
theorem dX11_clause_180 : decode cX11_clause 180 = .ok (.aload_n 0, 1) := by decide +kernel
theorem dX11_clause_181 : decode cX11_clause 181 = .ok (.getfield 20, 3) := by decide +kernel
theorem dX11_clause_184 : decode cX11_clause 184 = .ok (.iconst 0, 1) := by decide +kernel
theorem dX11_clause_185 : decode cX11_clause 185 = .ok (.dup2, 1) := by decide +kernel
theorem dX11_clause_186 : decode cX11_clause 186 = .ok (.iaload, 1) := by decide +kernel
theorem dX11_clause_187 : decode cX11_clause 187 = .ok (.iconst 1, 1) := by decide +kernel
theorem dX11_clause_188 : decode cX11_clause 188 = .ok (.iadd, 1) := by decide +kernel
theorem dX11_clause_189 : decode cX11_clause 189 = .ok (.iastore, 1) := by decide +kernel
theorem dX11_clause_190 : decode cX11_clause 190 = .ok (.goto 203, 3) := by decide +kernel
theorem dX11_clause_193 : decode cX11_clause 193 = .ok (.aload_n 0, 1) := by decide +kernel
theorem dX11_clause_194 : decode cX11_clause 194 = .ok (.getfield 20, 3) := by decide +kernel
theorem dX11_clause_197 : decode cX11_clause 197 = .ok (.iload_n 1, 1) := by decide +kernel
theorem dX11_clause_198 : decode cX11_clause 198 = .ok (.aload_n 0, 1) := by decide +kernel
theorem dX11_clause_199 : decode cX11_clause 199 = .ok (.iconst 0, 1) := by decide +kernel
theorem dX11_clause_200 : decode cX11_clause 200 = .ok (.sipush 9999, 3) := by decide +kernel
theorem dX11_clause_203 : decode cX11_clause 203 = .ok (.invokevirtual 144, 3) := by decide +kernel
theorem dX11_clause_206 : decode cX11_clause 206 = .ok (.iastore, 1) := by decide +kernel
theorem dX11_clause_207 : decode cX11_clause 207 = .ok (.aload_n 0, 1) := by decide +kernel
theorem dX11_clause_208 : decode cX11_clause 208 = .ok (.getfield 20, 3) := by decide +kernel
theorem dX11_clause_211 : decode cX11_clause 211 = .ok (.iload_n 1, 1) := by decide +kernel
theorem dX11_clause_212 : decode cX11_clause 212 = .ok (.iconst 1, 1) := by decide +kernel
theorem dX11_clause_213 : decode cX11_clause 213 = .ok (.iadd, 1) := by decide +kernel
theorem dX11_clause_214 : decode cX11_clause 214 = .ok (.aload_n 0, 1) := by decide +kernel
theorem dX11_clause_215 : decode cX11_clause 215 = .ok (.iconst 0, 1) := by decide +kernel
theorem dX11_clause_216 : decode cX11_clause 216 = .ok (.sipush 999, 3) := by decide +kernel
theorem dX11_clause_219 : decode cX11_clause 219 = .ok (.invokevirtual 144, 3) := by decide +kernel
theorem dX11_clause_222 : decode cX11_clause 222 = .ok (.iastore, 1) := by decide +kernel
theorem dX11_clause_223 : decode cX11_clause 223 = .ok (.aload_n 0, 1) := by decide +kernel
theorem dX11_clause_224 : decode cX11_clause 224 = .ok (.getfield 20, 3) := by decide +kernel
theorem dX11_clause_227 : decode cX11_clause 227 = .ok (.iload_n 1, 1) := by decide +kernel
theorem dX11_clause_228 : decode cX11_clause 228 = .ok (.iconst 2, 1) := by decide +kernel
theorem dX11_clause_229 : decode cX11_clause 229 = .ok (.iadd, 1) := by decide +kernel
theorem dX11_clause_230 : decode cX11_clause 230 = .ok (.aload_n 0, 1) := by decide +kernel
theorem dX11_clause_231 : decode cX11_clause 231 = .ok (.iconst 0, 1) := by decide +kernel
theorem dX11_clause_232 : decode cX11_clause 232 = .ok (.bipush 9, 2) := by decide +kernel
theorem dX11_clause_234 : decode cX11_clause 234 = .ok (.invokevirtual 144, 3) := by decide +kernel
theorem dX11_clause_237 : decode cX11_clause 237 = .ok (.iastore, 1) := by decide +kernel
theorem dX11_clause_238 : decode cX11_clause 238 = .ok (.goto 155, 3) := by decide +kernel
theorem dX11_clause_241 : decode cX11_clause 241 = .ok (.aload_n 0, 1) := by decide +kernel
theorem dX11_clause_242 : decode cX11_clause 242 = .ok (.getfield 20, 3) := by decide +kernel
theorem dX11_clause_245 : decode cX11_clause 245 = .ok (.bipush 7, 2) := by decide +kernel
theorem dX11_clause_247 : decode cX11_clause 247 = .ok (.aload_n 0, 1) := by decide +kernel
theorem dX11_clause_248 : decode cX11_clause 248 = .ok (.iconst 0, 1) := by decide +kernel
theorem dX11_clause_249 : decode cX11_clause 249 = .ok (.sipush 9999, 3) := by decide +kernel
theorem dX11_clause_252 : decode cX11_clause 252 = .ok (.invokevirtual 144, 3) := by decide +kernel
theorem dX11_clause_255 : decode cX11_clause 255 = .ok (.iastore, 1) := by decide +kernel
theorem dX11_clause_256 : decode cX11_clause 256 = .ok (.aload_n 0, 1) := by decide +kernel
theorem dX11_clause_257 : decode cX11_clause 257 = .ok (.getfield 20, 3) := by decide +kernel
theorem dX11_clause_260 : decode cX11_clause 260 = .ok (.bipush 8, 2) := by decide +kernel
theorem dX11_clause_262 : decode cX11_clause 262 = .ok (.aload_n 0, 1) := by decide +kernel
theorem dX11_clause_263 : decode cX11_clause 263 = .ok (.iconst 0, 1) := by decide +kernel
theorem dX11_clause_264 : decode cX11_clause 264 = .ok (.bipush 100, 2) := by decide +kernel
theorem dX11_clause_266 : decode cX11_clause 266 = .ok (.invokevirtual 144, 3) := by decide +kernel
theorem dX11_clause_269 : decode cX11_clause 269 = .ok (.iastore, 1) := by decide +kernel
theorem dX11_clause_270 : decode cX11_clause 270 = .ok (.goto 123, 3) := by decide +kernel
theorem dX11_clause_273 : decode cX11_clause 273 = .ok (.aload_n 0, 1) := by decide +kernel
theorem dX11_clause_274 : decode cX11_clause 274 = .ok (.getfield 20, 3) := by decide +kernel
theorem dX11_clause_277 : decode cX11_clause 277 = .ok (.bipush 9, 2) := by decide +kernel
theorem dX11_clause_279 : decode cX11_clause 279 = .ok (.aload_n 0, 1) := by decide +kernel
theorem dX11_clause_280 : decode cX11_clause 280 = .ok (.iconst 0, 1) := by decide +kernel
theorem dX11_clause_281 : decode cX11_clause 281 = .ok (.bipush 100, 2) := by decide +kernel
theorem dX11_clause_283 : decode cX11_clause 283 = .ok (.invokevirtual 144, 3) := by decide +kernel
theorem dX11_clause_286 : decode cX11_clause 286 = .ok (.iastore, 1) := by decide +kernel
theorem dX11_clause_287 : decode cX11_clause 287 = .ok (.aload_n 0, 1) := by decide +kernel
theorem dX11_clause_288 : decode cX11_clause 288 = .ok (.getfield 20, 3) := by decide +kernel
theorem dX11_clause_291 : decode cX11_clause 291 = .ok (.bipush 10, 2) := by decide +kernel
theorem dX11_clause_293 : decode cX11_clause 293 = .ok (.aload_n 0, 1) := by decide +kernel
theorem dX11_clause_294 : decode cX11_clause 294 = .ok (.iconst 0, 1) := by decide +kernel
theorem dX11_clause_295 : decode cX11_clause 295 = .ok (.bipush 50, 2) := by decide +kernel
theorem dX11_clause_297 : decode cX11_clause 297 = .ok (.invokevirtual 144, 3) := by decide +kernel
theorem dX11_clause_300 : decode cX11_clause 300 = .ok (.iastore, 1) := by decide +kernel
theorem dX11_clause_301 : decode cX11_clause 301 = .ok (.aload_n 0, 1) := by decide +kernel
theorem dX11_clause_302 : decode cX11_clause 302 = .ok (.getfield 20, 3) := by decide +kernel
theorem dX11_clause_305 : decode cX11_clause 305 = .ok (.bipush 11, 2) := by decide +kernel
theorem dX11_clause_307 : decode cX11_clause 307 = .ok (.aload_n 0, 1) := by decide +kernel
theorem dX11_clause_308 : decode cX11_clause 308 = .ok (.iconst 0, 1) := by decide +kernel
theorem dX11_clause_309 : decode cX11_clause 309 = .ok (.bipush 50, 2) := by decide +kernel
theorem dX11_clause_311 : decode cX11_clause 311 = .ok (.invokevirtual 144, 3) := by decide +kernel
theorem dX11_clause_314 : decode cX11_clause 314 = .ok (.iastore, 1) := by decide +kernel
theorem dX11_clause_315 : decode cX11_clause 315 = .ok (.goto 78, 3) := by decide +kernel
theorem dX11_clause_318 : decode cX11_clause 318 = .ok (.aload_n 0, 1) := by decide +kernel
theorem dX11_clause_319 : decode cX11_clause 319 = .ok (.getfield 20, 3) := by decide +kernel
theorem dX11_clause_322 : decode cX11_clause 322 = .ok (.bipush 12, 2) := by decide +kernel
theorem dX11_clause_324 : decode cX11_clause 324 = .ok (.aload_n 0, 1) := by decide +kernel
theorem dX11_clause_325 : decode cX11_clause 325 = .ok (.iconst 0, 1) := by decide +kernel
theorem dX11_clause_326 : decode cX11_clause 326 = .ok (.bipush 9, 2) := by decide +kernel
theorem dX11_clause_328 : decode cX11_clause 328 = .ok (.invokevirtual 144, 3) := by decide +kernel
theorem dX11_clause_331 : decode cX11_clause 331 = .ok (.iastore, 1) := by decide +kernel
theorem dX11_clause_332 : decode cX11_clause 332 = .ok (.goto 61, 3) := by decide +kernel
theorem dX11_clause_335 : decode cX11_clause 335 = .ok (.aload_n 0, 1) := by decide +kernel
theorem dX11_clause_336 : decode cX11_clause 336 = .ok (.getfield 20, 3) := by decide +kernel
theorem dX11_clause_339 : decode cX11_clause 339 = .ok (.bipush 13, 2) := by decide +kernel
theorem dX11_clause_341 : decode cX11_clause 341 = .ok (.aload_n 0, 1) := by decide +kernel
theorem dX11_clause_342 : decode cX11_clause 342 = .ok (.iconst 0, 1) := by decide +kernel
theorem dX11_clause_343 : decode cX11_clause 343 = .ok (.bipush 99, 2) := by decide +kernel
theorem dX11_clause_345 : decode cX11_clause 345 = .ok (.invokevirtual 144, 3) := by decide +kernel
theorem dX11_clause_348 : decode cX11_clause 348 = .ok (.iastore, 1) := by decide +kernel
theorem dX11_clause_349 : decode cX11_clause 349 = .ok (.aload_n 0, 1) := by decide +kernel
theorem dX11_clause_350 : decode cX11_clause 350 = .ok (.getfield 20, 3) := by decide +kernel
theorem dX11_clause_353 : decode cX11_clause 353 = .ok (.bipush 14, 2) := by decide +kernel
theorem dX11_clause_355 : decode cX11_clause 355 = .ok (.aload_n 0, 1) := by decide +kernel
theorem dX11_clause_356 : decode cX11_clause 356 = .ok (.iconst 0, 1) := by decide +kernel
theorem dX11_clause_357 : decode cX11_clause 357 = .ok (.bipush 99, 2) := by decide +kernel
theorem dX11_clause_359 : decode cX11_clause 359 = .ok (.invokevirtual 144, 3) := by decide +kernel
theorem dX11_clause_362 : decode cX11_clause 362 = .ok (.iastore, 1) := by decide +kernel
theorem dX11_clause_363 : decode cX11_clause 363 = .ok (.goto 30, 3) := by decide +kernel
theorem dX11_clause_366 : decode cX11_clause 366 = .ok (.aload_n 0, 1) := by decide +kernel
theorem dX11_clause_367 : decode cX11_clause 367 = .ok (.iconst 0, 1) := by decide +kernel
theorem dX11_clause_368 : decode cX11_clause 368 = .ok (.bipush 9, 2) := by decide +kernel
theorem dX11_clause_370 : decode cX11_clause 370 = .ok (.invokevirtual 144, 3) := by decide +kernel
theorem dX11_clause_373 : decode cX11_clause 373 = .ok (.istore_n 2, 1) := by decide +kernel
theorem dX11_clause_374 : decode cX11_clause 374 = .ok (.aload_n 0, 1) := by decide +kernel
theorem dX11_clause_375 : decode cX11_clause 375 = .ok (.getfield 20, 3) := by decide +kernel
theorem dX11_clause_378 : decode cX11_clause 378 = .ok (.bipush 15, 2) := by decide +kernel
theorem dX11_clause_380 : decode cX11_clause 380 = .ok (.iload_n 2, 1) := by decide +kernel
theorem dX11_clause_381 : decode cX11_clause 381 = .ok (.iadd, 1) := by decide +kernel
theorem dX11_clause_382 : decode cX11_clause 382 = .ok (.aload_n 0, 1) := by decide +kernel
theorem dX11_clause_383 : decode cX11_clause 383 = .ok (.iconst 0, 1) := by decide +kernel
theorem dX11_clause_384 : decode cX11_clause 384 = .ok (.bipush 20, 2) := by decide +kernel
theorem dX11_clause_386 : decode cX11_clause 386 = .ok (.invokevirtual 144, 3) := by decide +kernel
theorem dX11_clause_389 : decode cX11_clause 389 = .ok (.iastore, 1) := by decide +kernel
theorem dX11_clause_390 : decode cX11_clause 390 = .ok (.goto 3, 3) := by decide +kernel
theorem dX11_clause_393 : decode cX11_clause 393 = .ok (.aload_n 0, 1) := by decide +kernel
theorem dX11_clause_394 : decode cX11_clause 394 = .ok (.invokevirtual 148, 3) := by decide +kernel
theorem dX11_clause_397 : decode cX11_clause 397 = .ok (.return_, 1) := by decide +kernel
theorem ggX11_siege_X11_in : GoodIn wsX11_siege wsX11_in := gW_in gwX11_in (fun _ h => List.mem_cons_of_mem _ (List.mem_append_right _ (List.mem_append_right _ (List.mem_append_left _ h))))
set_option maxRecDepth 20000 in
theorem gX11_siege_X11_in : GoodIn wsX11_siege (va_wsS RX11 119 yX11_in wsX11_in) := goodIn_app (goodIn_of _ (by decide +kernel)) ggX11_siege_X11_in
theorem ggX11_siege_X11_bad : GoodIn wsX11_siege wsX11_bad := gW_in gwX11_bad (fun _ h => List.mem_cons_of_mem _ (List.mem_append_right _ (List.mem_append_right _ (List.mem_append_right _ (List.mem_append_left _ h)))))
set_option maxRecDepth 20000 in
theorem gX11_siege_X11_bad : GoodIn wsX11_siege (wsV RX11 151 RX11 yX11_bad wsX11_bad) := goodIn_app (goodIn_of _ (by decide +kernel)) ggX11_siege_X11_bad
theorem ggX11_siege_X11_starts : GoodIn wsX11_siege wsX11_starts := gW_in gwX11_starts (fun _ h => List.mem_cons_of_mem _ (List.mem_append_right _ (List.mem_append_right _ (List.mem_append_right _ (List.mem_append_right _ (List.mem_append_left _ h))))))
set_option maxRecDepth 20000 in
theorem gX11_siege_X11_starts : GoodIn wsX11_siege (wsV RX11 155 RX11 yX11_starts wsX11_starts) := goodIn_app (goodIn_of _ (by decide +kernel)) ggX11_siege_X11_starts
theorem ggX11_siege_X11_tellsNothing : GoodIn wsX11_siege wsX11_tellsNothing := gW_in gwX11_tellsNothing (fun _ h => List.mem_cons_of_mem _ (List.mem_append_right _ (List.mem_append_right _ (List.mem_append_right _ (List.mem_append_right _ (List.mem_append_right _ (List.mem_append_left _ h)))))))
set_option maxRecDepth 20000 in
theorem gX11_siege_X11_tellsNothing : GoodIn wsX11_siege (wsV RX11 79 RX11 yX11_tellsNothing wsX11_tellsNothing) := goodIn_app (goodIn_of _ (by decide +kernel)) ggX11_siege_X11_tellsNothing
theorem ggX11_siege_X11_clause : GoodIn wsX11_siege wsX11_clause := gW_in gwX11_clause (fun _ h => List.mem_cons_of_mem _ (List.mem_append_right _ (List.mem_append_right _ (List.mem_append_right _ (List.mem_append_right _ (List.mem_append_right _ (List.mem_append_right _ (List.mem_append_left _ h))))))))
set_option maxRecDepth 20000 in
theorem gX11_siege_X11_clause : GoodIn wsX11_siege (wsV RX11 159 RX11 yX11_clause wsX11_clause) := goodIn_app (goodIn_of _ (by decide +kernel)) ggX11_siege_X11_clause
theorem ggX11_siege_X11_blanks : GoodIn wsX11_siege wsX11_blanks := gW_in gwX11_blanks (fun _ h => List.mem_cons_of_mem _ (List.mem_append_right _ (List.mem_append_right _ (List.mem_append_right _ (List.mem_append_right _ (List.mem_append_right _ (List.mem_append_right _ (List.mem_append_right _ (List.mem_append_left _ h)))))))))
set_option maxRecDepth 20000 in
theorem gX11_siege_X11_blanks : GoodIn wsX11_siege (wsV RX11 107 RX11 yX11_blanks wsX11_blanks) := goodIn_app (goodIn_of _ (by decide +kernel)) ggX11_siege_X11_blanks
theorem ggX11_siege_X11_stands0 : GoodIn wsX11_siege wsX11_stands0 := gW_in gwX11_stands0 (fun _ h => List.mem_cons_of_mem _ (List.mem_append_right _ (List.mem_append_right _ (List.mem_append_right _ (List.mem_append_right _ (List.mem_append_right _ (List.mem_append_right _ (List.mem_append_right _ (List.mem_append_right _ (h))))))))))
set_option maxRecDepth 20000 in
theorem gX11_siege_X11_stands0 : GoodIn wsX11_siege (wsV RX11 82 RX11 yX11_stands0 wsX11_stands0) := goodIn_app (goodIn_of _ (by decide +kernel)) ggX11_siege_X11_stands0
theorem dX11_siege_0 : decode cX11_siege 0 = .ok (.aload_n 0, 1) := by decide +kernel
theorem dX11_siege_1 : decode cX11_siege 1 = .ok (.iconst 0, 1) := by decide +kernel
theorem dX11_siege_2 : decode cX11_siege 2 = .ok (.putfield 85, 3) := by decide +kernel
theorem dX11_siege_5 : decode cX11_siege 5 = .ok (.aload_n 0, 1) := by decide +kernel
theorem dX11_siege_6 : decode cX11_siege 6 = .ok (.iload_n 1, 1) := by decide +kernel
theorem dX11_siege_7 : decode cX11_siege 7 = .ok (.iconst 0, 1) := by decide +kernel
theorem dX11_siege_8 : decode cX11_siege 8 = .ok (.aload_n 0, 1) := by decide +kernel
theorem dX11_siege_9 : decode cX11_siege 9 = .ok (.getfield 88, 3) := by decide +kernel
theorem dX11_siege_12 : decode cX11_siege 12 = .ok (.invokestatic 119, 3) := by decide +kernel
theorem dX11_siege_15 : decode cX11_siege 15 = .ok (.ifCond .ne 7, 3) := by decide +kernel
theorem dX11_siege_18 : decode cX11_siege 18 = .ok (.iconst 1, 1) := by decide +kernel
theorem dX11_siege_19 : decode cX11_siege 19 = .ok (.goto 4, 3) := by decide +kernel
theorem dX11_siege_22 : decode cX11_siege 22 = .ok (.iconst 0, 1) := by decide +kernel
theorem dX11_siege_23 : decode cX11_siege 23 = .ok (.iconst 1, 1) := by decide +kernel
theorem dX11_siege_24 : decode cX11_siege 24 = .ok (.iconst 2, 1) := by decide +kernel
theorem dX11_siege_25 : decode cX11_siege 25 = .ok (.invokevirtual 151, 3) := by decide +kernel
theorem dX11_siege_28 : decode cX11_siege 28 = .ok (.ifCond .eq 5, 3) := by decide +kernel
theorem dX11_siege_31 : decode cX11_siege 31 = .ok (.iconst 0, 1) := by decide +kernel
theorem dX11_siege_32 : decode cX11_siege 32 = .ok (.ireturn, 1) := by decide +kernel
theorem dX11_siege_33 : decode cX11_siege 33 = .ok (.aload_n 0, 1) := by decide +kernel
theorem dX11_siege_34 : decode cX11_siege 34 = .ok (.iload_n 1, 1) := by decide +kernel
theorem dX11_siege_35 : decode cX11_siege 35 = .ok (.invokevirtual 155, 3) := by decide +kernel
theorem dX11_siege_38 : decode cX11_siege 38 = .ok (.aload_n 0, 1) := by decide +kernel
theorem dX11_siege_39 : decode cX11_siege 39 = .ok (.invokevirtual 79, 3) := by decide +kernel
theorem dX11_siege_42 : decode cX11_siege 42 = .ok (.aload_n 0, 1) := by decide +kernel
theorem dX11_siege_43 : decode cX11_siege 43 = .ok (.getfield 101, 3) := by decide +kernel
theorem dX11_siege_46 : decode cX11_siege 46 = .ok (.ifCond .ne 25, 3) := by decide +kernel
theorem dX11_siege_49 : decode cX11_siege 49 = .ok (.aload_n 0, 1) := by decide +kernel
theorem dX11_siege_50 : decode cX11_siege 50 = .ok (.getfield 94, 3) := by decide +kernel
theorem dX11_siege_53 : decode cX11_siege 53 = .ok (.aload_n 0, 1) := by decide +kernel
theorem dX11_siege_54 : decode cX11_siege 54 = .ok (.getfield 91, 3) := by decide +kernel
theorem dX11_siege_57 : decode cX11_siege 57 = .ok (.if_icmp .ge 14, 3) := by decide +kernel
theorem dX11_siege_60 : decode cX11_siege 60 = .ok (.aload_n 0, 1) := by decide +kernel
theorem dX11_siege_61 : decode cX11_siege 61 = .ok (.invokevirtual 159, 3) := by decide +kernel
theorem dX11_siege_64 : decode cX11_siege 64 = .ok (.aload_n 0, 1) := by decide +kernel
theorem dX11_siege_65 : decode cX11_siege 65 = .ok (.invokevirtual 107, 3) := by decide +kernel
theorem dX11_siege_68 : decode cX11_siege 68 = .ok (.goto (-26), 3) := by decide +kernel
theorem dX11_siege_71 : decode cX11_siege 71 = .ok (.aload_n 0, 1) := by decide +kernel
theorem dX11_siege_72 : decode cX11_siege 72 = .ok (.aload_n 0, 1) := by decide +kernel
theorem dX11_siege_73 : decode cX11_siege 73 = .ok (.getfield 104, 3) := by decide +kernel
theorem dX11_siege_76 : decode cX11_siege 76 = .ok (.putfield 9, 3) := by decide +kernel
theorem dX11_siege_79 : decode cX11_siege 79 = .ok (.aload_n 0, 1) := by decide +kernel
theorem dX11_siege_80 : decode cX11_siege 80 = .ok (.getfield 101, 3) := by decide +kernel
theorem dX11_siege_83 : decode cX11_siege 83 = .ok (.ifCond .eq 11, 3) := by decide +kernel
theorem dX11_siege_86 : decode cX11_siege 86 = .ok (.aload_n 0, 1) := by decide +kernel
theorem dX11_siege_87 : decode cX11_siege 87 = .ok (.getfield 101, 3) := by decide +kernel
theorem dX11_siege_90 : decode cX11_siege 90 = .ok (.bipush 10, 2) := by decide +kernel
theorem dX11_siege_92 : decode cX11_siege 92 = .ok (.isub, 1) := by decide +kernel
theorem dX11_siege_93 : decode cX11_siege 93 = .ok (.ireturn, 1) := by decide +kernel
theorem dX11_siege_94 : decode cX11_siege 94 = .ok (.aload_n 0, 1) := by decide +kernel
theorem dX11_siege_95 : decode cX11_siege 95 = .ok (.invokevirtual 82, 3) := by decide +kernel
theorem dX11_siege_98 : decode cX11_siege 98 = .ok (.aload_n 0, 1) := by decide +kernel
theorem dX11_siege_99 : decode cX11_siege 99 = .ok (.getfield 23, 3) := by decide +kernel
theorem dX11_siege_102 : decode cX11_siege 102 = .ok (.iconst 0, 1) := by decide +kernel
theorem dX11_siege_103 : decode cX11_siege 103 = .ok (.iaload, 1) := by decide +kernel
theorem dX11_siege_104 : decode cX11_siege 104 = .ok (.ireturn, 1) := by decide +kernel
theorem dX11_stands0_0 : decode cX11_stands0 0 = .ok (.iconst 0, 1) := by decide +kernel
theorem dX11_stands0_1 : decode cX11_stands0 1 = .ok (.istore_n 1, 1) := by decide +kernel
theorem dX11_stands0_2 : decode cX11_stands0 2 = .ok (.iload_n 1, 1) := by decide +kernel
theorem dX11_stands0_3 : decode cX11_stands0 3 = .ok (.bipush 25, 2) := by decide +kernel
theorem dX11_stands0_5 : decode cX11_stands0 5 = .ok (.if_icmp .ge 21, 3) := by decide +kernel
theorem dX11_stands0_8 : decode cX11_stands0 8 = .ok (.aload_n 0, 1) := by decide +kernel
theorem dX11_stands0_9 : decode cX11_stands0 9 = .ok (.getfield 23, 3) := by decide +kernel
theorem dX11_stands0_12 : decode cX11_stands0 12 = .ok (.iload_n 1, 1) := by decide +kernel
theorem dX11_stands0_13 : decode cX11_stands0 13 = .ok (.aload_n 0, 1) := by decide +kernel
theorem dX11_stands0_14 : decode cX11_stands0 14 = .ok (.getfield 20, 3) := by decide +kernel
theorem dX11_stands0_17 : decode cX11_stands0 17 = .ok (.iload_n 1, 1) := by decide +kernel
theorem dX11_stands0_18 : decode cX11_stands0 18 = .ok (.iaload, 1) := by decide +kernel
theorem dX11_stands0_19 : decode cX11_stands0 19 = .ok (.iastore, 1) := by decide +kernel
theorem dX11_stands0_20 : decode cX11_stands0 20 = .ok (.iinc 1 1, 3) := by decide +kernel
theorem dX11_stands0_23 : decode cX11_stands0 23 = .ok (.goto (-21), 3) := by decide +kernel
theorem dX11_stands0_26 : decode cX11_stands0 26 = .ok (.iconst 0, 1) := by decide +kernel
theorem dX11_stands0_27 : decode cX11_stands0 27 = .ok (.istore_n 1, 1) := by decide +kernel
theorem dX11_stands0_28 : decode cX11_stands0 28 = .ok (.iload_n 1, 1) := by decide +kernel
theorem dX11_stands0_29 : decode cX11_stands0 29 = .ok (.bipush 25, 2) := by decide +kernel
theorem dX11_stands0_31 : decode cX11_stands0 31 = .ok (.if_icmp .ge 16, 3) := by decide +kernel
theorem dX11_stands0_34 : decode cX11_stands0 34 = .ok (.aload_n 0, 1) := by decide +kernel
theorem dX11_stands0_35 : decode cX11_stands0 35 = .ok (.getfield 46, 3) := by decide +kernel
theorem dX11_stands0_38 : decode cX11_stands0 38 = .ok (.iload_n 1, 1) := by decide +kernel
theorem dX11_stands0_39 : decode cX11_stands0 39 = .ok (.iconst 0, 1) := by decide +kernel
theorem dX11_stands0_40 : decode cX11_stands0 40 = .ok (.iastore, 1) := by decide +kernel
theorem dX11_stands0_41 : decode cX11_stands0 41 = .ok (.iinc 1 1, 3) := by decide +kernel
theorem dX11_stands0_44 : decode cX11_stands0 44 = .ok (.goto (-16), 3) := by decide +kernel
theorem dX11_stands0_47 : decode cX11_stands0 47 = .ok (.aload_n 0, 1) := by decide +kernel
theorem dX11_stands0_48 : decode cX11_stands0 48 = .ok (.getfield 46, 3) := by decide +kernel
theorem dX11_stands0_51 : decode cX11_stands0 51 = .ok (.iconst 0, 1) := by decide +kernel
theorem dX11_stands0_52 : decode cX11_stands0 52 = .ok (.aload_n 0, 1) := by decide +kernel
theorem dX11_stands0_53 : decode cX11_stands0 53 = .ok (.getfield 23, 3) := by decide +kernel
theorem dX11_stands0_56 : decode cX11_stands0 56 = .ok (.iconst 1, 1) := by decide +kernel
theorem dX11_stands0_57 : decode cX11_stands0 57 = .ok (.iaload, 1) := by decide +kernel
theorem dX11_stands0_58 : decode cX11_stands0 58 = .ok (.iastore, 1) := by decide +kernel
theorem dX11_stands0_59 : decode cX11_stands0 59 = .ok (.aload_n 0, 1) := by decide +kernel
theorem dX11_stands0_60 : decode cX11_stands0 60 = .ok (.getfield 46, 3) := by decide +kernel
theorem dX11_stands0_63 : decode cX11_stands0 63 = .ok (.iconst 1, 1) := by decide +kernel
theorem dX11_stands0_64 : decode cX11_stands0 64 = .ok (.aload_n 0, 1) := by decide +kernel
theorem dX11_stands0_65 : decode cX11_stands0 65 = .ok (.getfield 23, 3) := by decide +kernel
theorem dX11_stands0_68 : decode cX11_stands0 68 = .ok (.iconst 4, 1) := by decide +kernel
theorem dX11_stands0_69 : decode cX11_stands0 69 = .ok (.iaload, 1) := by decide +kernel
theorem dX11_stands0_70 : decode cX11_stands0 70 = .ok (.iastore, 1) := by decide +kernel
theorem dX11_stands0_71 : decode cX11_stands0 71 = .ok (.aload_n 0, 1) := by decide +kernel
theorem dX11_stands0_72 : decode cX11_stands0 72 = .ok (.getfield 46, 3) := by decide +kernel
theorem dX11_stands0_75 : decode cX11_stands0 75 = .ok (.iconst 2, 1) := by decide +kernel
theorem dX11_stands0_76 : decode cX11_stands0 76 = .ok (.aload_n 0, 1) := by decide +kernel
theorem dX11_stands0_77 : decode cX11_stands0 77 = .ok (.getfield 23, 3) := by decide +kernel
theorem dX11_stands0_80 : decode cX11_stands0 80 = .ok (.bipush 7, 2) := by decide +kernel
theorem dX11_stands0_82 : decode cX11_stands0 82 = .ok (.iaload, 1) := by decide +kernel
theorem dX11_stands0_83 : decode cX11_stands0 83 = .ok (.iastore, 1) := by decide +kernel
theorem dX11_stands0_84 : decode cX11_stands0 84 = .ok (.aload_n 0, 1) := by decide +kernel
theorem dX11_stands0_85 : decode cX11_stands0 85 = .ok (.getfield 46, 3) := by decide +kernel
theorem dX11_stands0_88 : decode cX11_stands0 88 = .ok (.iconst 3, 1) := by decide +kernel
theorem dX11_stands0_89 : decode cX11_stands0 89 = .ok (.aload_n 0, 1) := by decide +kernel
theorem dX11_stands0_90 : decode cX11_stands0 90 = .ok (.getfield 23, 3) := by decide +kernel
theorem dX11_stands0_93 : decode cX11_stands0 93 = .ok (.iconst 2, 1) := by decide +kernel
theorem dX11_stands0_94 : decode cX11_stands0 94 = .ok (.iaload, 1) := by decide +kernel
theorem dX11_stands0_95 : decode cX11_stands0 95 = .ok (.iastore, 1) := by decide +kernel
theorem dX11_stands0_96 : decode cX11_stands0 96 = .ok (.aload_n 0, 1) := by decide +kernel
theorem dX11_stands0_97 : decode cX11_stands0 97 = .ok (.getfield 46, 3) := by decide +kernel
theorem dX11_stands0_100 : decode cX11_stands0 100 = .ok (.iconst 4, 1) := by decide +kernel
theorem dX11_stands0_101 : decode cX11_stands0 101 = .ok (.aload_n 0, 1) := by decide +kernel
theorem dX11_stands0_102 : decode cX11_stands0 102 = .ok (.getfield 23, 3) := by decide +kernel
theorem dX11_stands0_105 : decode cX11_stands0 105 = .ok (.iconst 5, 1) := by decide +kernel
theorem dX11_stands0_106 : decode cX11_stands0 106 = .ok (.iaload, 1) := by decide +kernel
theorem dX11_stands0_107 : decode cX11_stands0 107 = .ok (.iastore, 1) := by decide +kernel
theorem dX11_stands0_108 : decode cX11_stands0 108 = .ok (.aload_n 0, 1) := by decide +kernel
theorem dX11_stands0_109 : decode cX11_stands0 109 = .ok (.getfield 46, 3) := by decide +kernel
theorem dX11_stands0_112 : decode cX11_stands0 112 = .ok (.iconst 5, 1) := by decide +kernel
theorem dX11_stands0_113 : decode cX11_stands0 113 = .ok (.aload_n 0, 1) := by decide +kernel
theorem dX11_stands0_114 : decode cX11_stands0 114 = .ok (.getfield 23, 3) := by decide +kernel
theorem dX11_stands0_117 : decode cX11_stands0 117 = .ok (.bipush 9, 2) := by decide +kernel
theorem dX11_stands0_119 : decode cX11_stands0 119 = .ok (.iaload, 1) := by decide +kernel
theorem dX11_stands0_120 : decode cX11_stands0 120 = .ok (.iastore, 1) := by decide +kernel
theorem dX11_stands0_121 : decode cX11_stands0 121 = .ok (.aload_n 0, 1) := by decide +kernel
theorem dX11_stands0_122 : decode cX11_stands0 122 = .ok (.getfield 46, 3) := by decide +kernel
theorem dX11_stands0_125 : decode cX11_stands0 125 = .ok (.bipush 10, 2) := by decide +kernel
theorem dX11_stands0_127 : decode cX11_stands0 127 = .ok (.iconst (-1), 1) := by decide +kernel
theorem dX11_stands0_128 : decode cX11_stands0 128 = .ok (.iastore, 1) := by decide +kernel
theorem dX11_stands0_129 : decode cX11_stands0 129 = .ok (.aload_n 0, 1) := by decide +kernel
theorem dX11_stands0_130 : decode cX11_stands0 130 = .ok (.getfield 46, 3) := by decide +kernel
theorem dX11_stands0_133 : decode cX11_stands0 133 = .ok (.bipush 11, 2) := by decide +kernel
theorem dX11_stands0_135 : decode cX11_stands0 135 = .ok (.iconst (-1), 1) := by decide +kernel
theorem dX11_stands0_136 : decode cX11_stands0 136 = .ok (.iastore, 1) := by decide +kernel
theorem dX11_stands0_137 : decode cX11_stands0 137 = .ok (.iconst 0, 1) := by decide +kernel
theorem dX11_stands0_138 : decode cX11_stands0 138 = .ok (.istore_n 1, 1) := by decide +kernel
theorem dX11_stands0_139 : decode cX11_stands0 139 = .ok (.iload_n 1, 1) := by decide +kernel
theorem dX11_stands0_140 : decode cX11_stands0 140 = .ok (.aload_n 0, 1) := by decide +kernel
theorem dX11_stands0_141 : decode cX11_stands0 141 = .ok (.getfield 23, 3) := by decide +kernel
theorem dX11_stands0_144 : decode cX11_stands0 144 = .ok (.iconst 0, 1) := by decide +kernel
theorem dX11_stands0_145 : decode cX11_stands0 145 = .ok (.iaload, 1) := by decide +kernel
theorem dX11_stands0_146 : decode cX11_stands0 146 = .ok (.if_icmp .ge 55, 3) := by decide +kernel
theorem dX11_stands0_149 : decode cX11_stands0 149 = .ok (.iconst 0, 1) := by decide +kernel
theorem dX11_stands0_150 : decode cX11_stands0 150 = .ok (.istore_n 2, 1) := by decide +kernel
theorem dX11_stands0_151 : decode cX11_stands0 151 = .ok (.iload_n 2, 1) := by decide +kernel
theorem dX11_stands0_152 : decode cX11_stands0 152 = .ok (.iconst 2, 1) := by decide +kernel
theorem dX11_stands0_153 : decode cX11_stands0 153 = .ok (.if_icmp .ge 25, 3) := by decide +kernel
theorem dX11_stands0_156 : decode cX11_stands0 156 = .ok (.aload_n 0, 1) := by decide +kernel
theorem dX11_stands0_157 : decode cX11_stands0 157 = .ok (.getfield 31, 3) := by decide +kernel
theorem dX11_stands0_160 : decode cX11_stands0 160 = .ok (.iload_n 1, 1) := by decide +kernel
theorem dX11_stands0_161 : decode cX11_stands0 161 = .ok (.aaload, 1) := by decide +kernel
theorem dX11_stands0_162 : decode cX11_stands0 162 = .ok (.iload_n 2, 1) := by decide +kernel
theorem dX11_stands0_163 : decode cX11_stands0 163 = .ok (.aload_n 0, 1) := by decide +kernel
theorem dX11_stands0_164 : decode cX11_stands0 164 = .ok (.getfield 28, 3) := by decide +kernel
theorem dX11_stands0_167 : decode cX11_stands0 167 = .ok (.iload_n 1, 1) := by decide +kernel
theorem dX11_stands0_168 : decode cX11_stands0 168 = .ok (.aaload, 1) := by decide +kernel
theorem dX11_stands0_169 : decode cX11_stands0 169 = .ok (.iload_n 2, 1) := by decide +kernel
theorem dX11_stands0_170 : decode cX11_stands0 170 = .ok (.iaload, 1) := by decide +kernel
theorem dX11_stands0_171 : decode cX11_stands0 171 = .ok (.iastore, 1) := by decide +kernel
theorem dX11_stands0_172 : decode cX11_stands0 172 = .ok (.iinc 2 1, 3) := by decide +kernel
theorem dX11_stands0_175 : decode cX11_stands0 175 = .ok (.goto (-24), 3) := by decide +kernel
theorem dX11_stands0_178 : decode cX11_stands0 178 = .ok (.aload_n 0, 1) := by decide +kernel
theorem dX11_stands0_179 : decode cX11_stands0 179 = .ok (.getfield 46, 3) := by decide +kernel
theorem dX11_stands0_182 : decode cX11_stands0 182 = .ok (.bipush 12, 2) := by decide +kernel
theorem dX11_stands0_184 : decode cX11_stands0 184 = .ok (.iload_n 1, 1) := by decide +kernel
theorem dX11_stands0_185 : decode cX11_stands0 185 = .ok (.iadd, 1) := by decide +kernel
theorem dX11_stands0_186 : decode cX11_stands0 186 = .ok (.aload_n 0, 1) := by decide +kernel
theorem dX11_stands0_187 : decode cX11_stands0 187 = .ok (.getfield 31, 3) := by decide +kernel
theorem dX11_stands0_190 : decode cX11_stands0 190 = .ok (.iload_n 1, 1) := by decide +kernel
theorem dX11_stands0_191 : decode cX11_stands0 191 = .ok (.aaload, 1) := by decide +kernel
theorem dX11_stands0_192 : decode cX11_stands0 192 = .ok (.iconst 0, 1) := by decide +kernel
theorem dX11_stands0_193 : decode cX11_stands0 193 = .ok (.iaload, 1) := by decide +kernel
theorem dX11_stands0_194 : decode cX11_stands0 194 = .ok (.iastore, 1) := by decide +kernel
theorem dX11_stands0_195 : decode cX11_stands0 195 = .ok (.iinc 1 1, 3) := by decide +kernel
theorem dX11_stands0_198 : decode cX11_stands0 198 = .ok (.goto (-59), 3) := by decide +kernel
theorem dX11_stands0_201 : decode cX11_stands0 201 = .ok (.iconst 0, 1) := by decide +kernel
theorem dX11_stands0_202 : decode cX11_stands0 202 = .ok (.istore_n 1, 1) := by decide +kernel
theorem dX11_stands0_203 : decode cX11_stands0 203 = .ok (.iload_n 1, 1) := by decide +kernel
theorem dX11_stands0_204 : decode cX11_stands0 204 = .ok (.bipush 120, 2) := by decide +kernel
theorem dX11_stands0_206 : decode cX11_stands0 206 = .ok (.if_icmp .ge 32, 3) := by decide +kernel
theorem dX11_stands0_209 : decode cX11_stands0 209 = .ok (.iconst 0, 1) := by decide +kernel
theorem dX11_stands0_210 : decode cX11_stands0 210 = .ok (.istore_n 2, 1) := by decide +kernel
theorem dX11_stands0_211 : decode cX11_stands0 211 = .ok (.iload_n 2, 1) := by decide +kernel
theorem dX11_stands0_212 : decode cX11_stands0 212 = .ok (.bipush 6, 2) := by decide +kernel
theorem dX11_stands0_214 : decode cX11_stands0 214 = .ok (.if_icmp .ge 18, 3) := by decide +kernel
theorem dX11_stands0_217 : decode cX11_stands0 217 = .ok (.aload_n 0, 1) := by decide +kernel
theorem dX11_stands0_218 : decode cX11_stands0 218 = .ok (.getfield 55, 3) := by decide +kernel
theorem dX11_stands0_221 : decode cX11_stands0 221 = .ok (.iload_n 1, 1) := by decide +kernel
theorem dX11_stands0_222 : decode cX11_stands0 222 = .ok (.aaload, 1) := by decide +kernel
theorem dX11_stands0_223 : decode cX11_stands0 223 = .ok (.iload_n 2, 1) := by decide +kernel
theorem dX11_stands0_224 : decode cX11_stands0 224 = .ok (.iconst 0, 1) := by decide +kernel
theorem dX11_stands0_225 : decode cX11_stands0 225 = .ok (.iastore, 1) := by decide +kernel
theorem dX11_stands0_226 : decode cX11_stands0 226 = .ok (.iinc 2 1, 3) := by decide +kernel
theorem dX11_stands0_229 : decode cX11_stands0 229 = .ok (.goto (-18), 3) := by decide +kernel
theorem dX11_stands0_232 : decode cX11_stands0 232 = .ok (.iinc 1 1, 3) := by decide +kernel
theorem dX11_stands0_235 : decode cX11_stands0 235 = .ok (.goto (-32), 3) := by decide +kernel
theorem dX11_stands0_238 : decode cX11_stands0 238 = .ok (.iconst 0, 1) := by decide +kernel
theorem dX11_stands0_239 : decode cX11_stands0 239 = .ok (.istore_n 1, 1) := by decide +kernel
theorem dX11_stands0_240 : decode cX11_stands0 240 = .ok (.iload_n 1, 1) := by decide +kernel
theorem dX11_stands0_241 : decode cX11_stands0 241 = .ok (.iconst 4, 1) := by decide +kernel
theorem dX11_stands0_242 : decode cX11_stands0 242 = .ok (.if_icmp .ge 32, 3) := by decide +kernel
theorem dX11_stands0_245 : decode cX11_stands0 245 = .ok (.iconst 0, 1) := by decide +kernel
theorem dX11_stands0_246 : decode cX11_stands0 246 = .ok (.istore_n 2, 1) := by decide +kernel
theorem dX11_stands0_247 : decode cX11_stands0 247 = .ok (.iload_n 2, 1) := by decide +kernel
theorem dX11_stands0_248 : decode cX11_stands0 248 = .ok (.iconst 2, 1) := by decide +kernel
theorem dX11_stands0_249 : decode cX11_stands0 249 = .ok (.if_icmp .ge 19, 3) := by decide +kernel
theorem dX11_stands0_252 : decode cX11_stands0 252 = .ok (.aload_n 0, 1) := by decide +kernel
theorem dX11_stands0_253 : decode cX11_stands0 253 = .ok (.getfield 64, 3) := by decide +kernel
theorem dX11_stands0_256 : decode cX11_stands0 256 = .ok (.iload_n 1, 1) := by decide +kernel
theorem dX11_stands0_257 : decode cX11_stands0 257 = .ok (.aaload, 1) := by decide +kernel
theorem dX11_stands0_258 : decode cX11_stands0 258 = .ok (.iload_n 2, 1) := by decide +kernel
theorem dX11_stands0_259 : decode cX11_stands0 259 = .ok (.bipush 8, 2) := by decide +kernel
theorem dX11_stands0_261 : decode cX11_stands0 261 = .ok (.iastore, 1) := by decide +kernel
theorem dX11_stands0_262 : decode cX11_stands0 262 = .ok (.iinc 2 1, 3) := by decide +kernel
theorem dX11_stands0_265 : decode cX11_stands0 265 = .ok (.goto (-18), 3) := by decide +kernel
theorem dX11_stands0_268 : decode cX11_stands0 268 = .ok (.iinc 1 1, 3) := by decide +kernel
theorem dX11_stands0_271 : decode cX11_stands0 271 = .ok (.goto (-31), 3) := by decide +kernel
theorem dX11_stands0_274 : decode cX11_stands0 274 = .ok (.iconst 0, 1) := by decide +kernel
theorem dX11_stands0_275 : decode cX11_stands0 275 = .ok (.istore_n 1, 1) := by decide +kernel
theorem dX11_stands0_276 : decode cX11_stands0 276 = .ok (.iload_n 1, 1) := by decide +kernel
theorem dX11_stands0_277 : decode cX11_stands0 277 = .ok (.iconst 2, 1) := by decide +kernel
theorem dX11_stands0_278 : decode cX11_stands0 278 = .ok (.if_icmp .ge 32, 3) := by decide +kernel
theorem dX11_stands0_281 : decode cX11_stands0 281 = .ok (.iconst 0, 1) := by decide +kernel
theorem dX11_stands0_282 : decode cX11_stands0 282 = .ok (.istore_n 2, 1) := by decide +kernel
theorem dX11_stands0_283 : decode cX11_stands0 283 = .ok (.iload_n 2, 1) := by decide +kernel
theorem dX11_stands0_284 : decode cX11_stands0 284 = .ok (.bipush 12, 2) := by decide +kernel
theorem dX11_stands0_286 : decode cX11_stands0 286 = .ok (.if_icmp .ge 18, 3) := by decide +kernel
theorem dX11_stands0_289 : decode cX11_stands0 289 = .ok (.aload_n 0, 1) := by decide +kernel
theorem dX11_stands0_290 : decode cX11_stands0 290 = .ok (.getfield 70, 3) := by decide +kernel
theorem dX11_stands0_293 : decode cX11_stands0 293 = .ok (.iload_n 1, 1) := by decide +kernel
theorem dX11_stands0_294 : decode cX11_stands0 294 = .ok (.aaload, 1) := by decide +kernel
theorem dX11_stands0_295 : decode cX11_stands0 295 = .ok (.iload_n 2, 1) := by decide +kernel
theorem dX11_stands0_296 : decode cX11_stands0 296 = .ok (.iconst 0, 1) := by decide +kernel
theorem dX11_stands0_297 : decode cX11_stands0 297 = .ok (.iastore, 1) := by decide +kernel
theorem dX11_stands0_298 : decode cX11_stands0 298 = .ok (.iinc 2 1, 3) := by decide +kernel
theorem dX11_stands0_301 : decode cX11_stands0 301 = .ok (.goto (-18), 3) := by decide +kernel
theorem dX11_stands0_304 : decode cX11_stands0 304 = .ok (.iinc 1 1, 3) := by decide +kernel
