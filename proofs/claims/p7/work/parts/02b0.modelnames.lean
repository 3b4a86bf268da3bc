section
theorem ggX11_init_X11_tellsNothing : GoodIn wsX11_init wsX11_tellsNothing := gW_in gwX11_tellsNothing (fun _ h => List.mem_cons_of_mem _ (List.mem_append_right _ (List.mem_append_right _ (List.mem_append_left _ h))))
set_option maxRecDepth 20000 in
theorem gX11_init_X11_tellsNothing : GoodIn wsX11_init (wsV RX11 79 RX11 yX11_tellsNothing wsX11_tellsNothing) := goodIn_app (goodIn_of _ (by decide +kernel)) ggX11_init_X11_tellsNothing
theorem ggX11_init_X11_stands0 : GoodIn wsX11_init wsX11_stands0 := gW_in gwX11_stands0 (fun _ h => List.mem_cons_of_mem _ (List.mem_append_right _ (List.mem_append_right _ (List.mem_append_right _ (h)))))
set_option maxRecDepth 20000 in
theorem gX11_init_X11_stands0 : GoodIn wsX11_init (wsV RX11 82 RX11 yX11_stands0 wsX11_stands0) := goodIn_app (goodIn_of _ (by decide +kernel)) ggX11_init_X11_stands0
theorem bX11_init_0 : decode cX11_init 0 = .ok (.aload_n 0, 1) ∧ decode cX11_init 1 = .ok (.invokespecial 1, 3) ∧ decode cX11_init 4 = .ok (.aload_n 0, 1) ∧ decode cX11_init 5 = .ok (.iconst (-1), 1) ∧ decode cX11_init 6 = .ok (.putfield 9, 3) ∧ decode cX11_init 9 = .ok (.aload_n 0, 1) ∧ decode cX11_init 10 = .ok (.sipush 500, 3) ∧ decode cX11_init 13 = .ok (.newarray .int, 2) ∧ decode cX11_init 15 = .ok (.putfield 13, 3) ∧ decode cX11_init 18 = .ok (.aload_n 0, 1) ∧ decode cX11_init 19 = .ok (.iconst 3, 1) ∧ decode cX11_init 20 = .ok (.newarray .int, 2) ∧ decode cX11_init 22 = .ok (.putfield 17, 3) ∧ decode cX11_init 25 = .ok (.aload_n 0, 1) ∧ decode cX11_init 26 = .ok (.bipush 25, 2) ∧ decode cX11_init 28 = .ok (.newarray .int, 2) := by decide +kernel
def dX11_init_0 := bX11_init_0.1
def dX11_init_1 := bX11_init_0.2.1
def dX11_init_4 := bX11_init_0.2.2.1
def dX11_init_5 := bX11_init_0.2.2.2.1
def dX11_init_6 := bX11_init_0.2.2.2.2.1
def dX11_init_9 := bX11_init_0.2.2.2.2.2.1
def dX11_init_10 := bX11_init_0.2.2.2.2.2.2.1
def dX11_init_13 := bX11_init_0.2.2.2.2.2.2.2.1
def dX11_init_15 := bX11_init_0.2.2.2.2.2.2.2.2.1
def dX11_init_18 := bX11_init_0.2.2.2.2.2.2.2.2.2.1
def dX11_init_19 := bX11_init_0.2.2.2.2.2.2.2.2.2.2.1
def dX11_init_20 := bX11_init_0.2.2.2.2.2.2.2.2.2.2.2.1
def dX11_init_22 := bX11_init_0.2.2.2.2.2.2.2.2.2.2.2.2.1
def dX11_init_25 := bX11_init_0.2.2.2.2.2.2.2.2.2.2.2.2.2.1
def dX11_init_26 := bX11_init_0.2.2.2.2.2.2.2.2.2.2.2.2.2.2.1
def dX11_init_28 := bX11_init_0.2.2.2.2.2.2.2.2.2.2.2.2.2.2.2
theorem bX11_init_30 : decode cX11_init 30 = .ok (.putfield 20, 3) ∧ decode cX11_init 33 = .ok (.aload_n 0, 1) ∧ decode cX11_init 34 = .ok (.bipush 25, 2) ∧ decode cX11_init 36 = .ok (.newarray .int, 2) ∧ decode cX11_init 38 = .ok (.putfield 23, 3) ∧ decode cX11_init 41 = .ok (.aload_n 0, 1) ∧ decode cX11_init 42 = .ok (.bipush 6, 2) ∧ decode cX11_init 44 = .ok (.iconst 2, 1) ∧ decode cX11_init 45 = .ok (.multianewarray 26 2, 4) ∧ decode cX11_init 49 = .ok (.putfield 28, 3) ∧ decode cX11_init 52 = .ok (.aload_n 0, 1) ∧ decode cX11_init 53 = .ok (.bipush 6, 2) ∧ decode cX11_init 55 = .ok (.iconst 2, 1) ∧ decode cX11_init 56 = .ok (.multianewarray 26 2, 4) ∧ decode cX11_init 60 = .ok (.putfield 31, 3) ∧ decode cX11_init 63 = .ok (.aload_n 0, 1) := by decide +kernel
def dX11_init_30 := bX11_init_30.1
def dX11_init_33 := bX11_init_30.2.1
def dX11_init_34 := bX11_init_30.2.2.1
def dX11_init_36 := bX11_init_30.2.2.2.1
def dX11_init_38 := bX11_init_30.2.2.2.2.1
def dX11_init_41 := bX11_init_30.2.2.2.2.2.1
def dX11_init_42 := bX11_init_30.2.2.2.2.2.2.1
def dX11_init_44 := bX11_init_30.2.2.2.2.2.2.2.1
def dX11_init_45 := bX11_init_30.2.2.2.2.2.2.2.2.1
def dX11_init_49 := bX11_init_30.2.2.2.2.2.2.2.2.2.1
def dX11_init_52 := bX11_init_30.2.2.2.2.2.2.2.2.2.2.1
def dX11_init_53 := bX11_init_30.2.2.2.2.2.2.2.2.2.2.2.1
def dX11_init_55 := bX11_init_30.2.2.2.2.2.2.2.2.2.2.2.2.1
def dX11_init_56 := bX11_init_30.2.2.2.2.2.2.2.2.2.2.2.2.2.1
def dX11_init_60 := bX11_init_30.2.2.2.2.2.2.2.2.2.2.2.2.2.2.1
def dX11_init_63 := bX11_init_30.2.2.2.2.2.2.2.2.2.2.2.2.2.2.2
theorem bX11_init_64 : decode cX11_init 64 = .ok (.bipush 7, 2) ∧ decode cX11_init 66 = .ok (.newarray .int, 2) ∧ decode cX11_init 68 = .ok (.putfield 34, 3) ∧ decode cX11_init 71 = .ok (.aload_n 0, 1) ∧ decode cX11_init 72 = .ok (.bipush 36, 2) ∧ decode cX11_init 74 = .ok (.newarray .int, 2) ∧ decode cX11_init 76 = .ok (.putfield 37, 3) ∧ decode cX11_init 79 = .ok (.aload_n 0, 1) ∧ decode cX11_init 80 = .ok (.bipush 7, 2) ∧ decode cX11_init 82 = .ok (.bipush 7, 2) ∧ decode cX11_init 84 = .ok (.multianewarray 26 2, 4) ∧ decode cX11_init 88 = .ok (.putfield 40, 3) ∧ decode cX11_init 91 = .ok (.aload_n 0, 1) ∧ decode cX11_init 92 = .ok (.bipush 7, 2) ∧ decode cX11_init 94 = .ok (.bipush 36, 2) ∧ decode cX11_init 96 = .ok (.multianewarray 26 2, 4) := by decide +kernel
def dX11_init_64 := bX11_init_64.1
def dX11_init_66 := bX11_init_64.2.1
def dX11_init_68 := bX11_init_64.2.2.1
def dX11_init_71 := bX11_init_64.2.2.2.1
def dX11_init_72 := bX11_init_64.2.2.2.2.1
def dX11_init_74 := bX11_init_64.2.2.2.2.2.1
def dX11_init_76 := bX11_init_64.2.2.2.2.2.2.1
def dX11_init_79 := bX11_init_64.2.2.2.2.2.2.2.1
def dX11_init_80 := bX11_init_64.2.2.2.2.2.2.2.2.1
def dX11_init_82 := bX11_init_64.2.2.2.2.2.2.2.2.2.1
def dX11_init_84 := bX11_init_64.2.2.2.2.2.2.2.2.2.2.1
def dX11_init_88 := bX11_init_64.2.2.2.2.2.2.2.2.2.2.2.1
def dX11_init_91 := bX11_init_64.2.2.2.2.2.2.2.2.2.2.2.2.1
def dX11_init_92 := bX11_init_64.2.2.2.2.2.2.2.2.2.2.2.2.2.1
def dX11_init_94 := bX11_init_64.2.2.2.2.2.2.2.2.2.2.2.2.2.2.1
def dX11_init_96 := bX11_init_64.2.2.2.2.2.2.2.2.2.2.2.2.2.2.2
theorem bX11_init_100 : decode cX11_init 100 = .ok (.putfield 43, 3) ∧ decode cX11_init 103 = .ok (.aload_n 0, 1) ∧ decode cX11_init 104 = .ok (.bipush 25, 2) ∧ decode cX11_init 106 = .ok (.newarray .int, 2) ∧ decode cX11_init 108 = .ok (.putfield 46, 3) ∧ decode cX11_init 111 = .ok (.aload_n 0, 1) ∧ decode cX11_init 112 = .ok (.bipush 25, 2) ∧ decode cX11_init 114 = .ok (.newarray .int, 2) ∧ decode cX11_init 116 = .ok (.putfield 49, 3) ∧ decode cX11_init 119 = .ok (.aload_n 0, 1) ∧ decode cX11_init 120 = .ok (.bipush 121, 2) ∧ decode cX11_init 122 = .ok (.bipush 25, 2) ∧ decode cX11_init 124 = .ok (.multianewarray 26 2, 4) ∧ decode cX11_init 128 = .ok (.putfield 52, 3) ∧ decode cX11_init 131 = .ok (.aload_n 0, 1) ∧ decode cX11_init 132 = .ok (.bipush 120, 2) := by decide +kernel
def dX11_init_100 := bX11_init_100.1
def dX11_init_103 := bX11_init_100.2.1
def dX11_init_104 := bX11_init_100.2.2.1
def dX11_init_106 := bX11_init_100.2.2.2.1
def dX11_init_108 := bX11_init_100.2.2.2.2.1
def dX11_init_111 := bX11_init_100.2.2.2.2.2.1
def dX11_init_112 := bX11_init_100.2.2.2.2.2.2.1
def dX11_init_114 := bX11_init_100.2.2.2.2.2.2.2.1
def dX11_init_116 := bX11_init_100.2.2.2.2.2.2.2.2.1
def dX11_init_119 := bX11_init_100.2.2.2.2.2.2.2.2.2.1
def dX11_init_120 := bX11_init_100.2.2.2.2.2.2.2.2.2.2.1
def dX11_init_122 := bX11_init_100.2.2.2.2.2.2.2.2.2.2.2.1
def dX11_init_124 := bX11_init_100.2.2.2.2.2.2.2.2.2.2.2.2.1
def dX11_init_128 := bX11_init_100.2.2.2.2.2.2.2.2.2.2.2.2.2.1
def dX11_init_131 := bX11_init_100.2.2.2.2.2.2.2.2.2.2.2.2.2.2.1
def dX11_init_132 := bX11_init_100.2.2.2.2.2.2.2.2.2.2.2.2.2.2.2
theorem bX11_init_134 : decode cX11_init 134 = .ok (.bipush 6, 2) ∧ decode cX11_init 136 = .ok (.multianewarray 26 2, 4) ∧ decode cX11_init 140 = .ok (.putfield 55, 3) ∧ decode cX11_init 143 = .ok (.aload_n 0, 1) ∧ decode cX11_init 144 = .ok (.iconst 1, 1) ∧ decode cX11_init 145 = .ok (.putfield 58, 3) ∧ decode cX11_init 148 = .ok (.aload_n 0, 1) ∧ decode cX11_init 149 = .ok (.iconst 1, 1) ∧ decode cX11_init 150 = .ok (.putfield 61, 3) ∧ decode cX11_init 153 = .ok (.aload_n 0, 1) ∧ decode cX11_init 154 = .ok (.iconst 4, 1) ∧ decode cX11_init 155 = .ok (.iconst 2, 1) ∧ decode cX11_init 156 = .ok (.multianewarray 26 2, 4) ∧ decode cX11_init 160 = .ok (.putfield 64, 3) ∧ decode cX11_init 163 = .ok (.aload_n 0, 1) ∧ decode cX11_init 164 = .ok (.bipush 12, 2) := by decide +kernel
def dX11_init_134 := bX11_init_134.1
def dX11_init_136 := bX11_init_134.2.1
def dX11_init_140 := bX11_init_134.2.2.1
def dX11_init_143 := bX11_init_134.2.2.2.1
def dX11_init_144 := bX11_init_134.2.2.2.2.1
def dX11_init_145 := bX11_init_134.2.2.2.2.2.1
def dX11_init_148 := bX11_init_134.2.2.2.2.2.2.1
def dX11_init_149 := bX11_init_134.2.2.2.2.2.2.2.1
def dX11_init_150 := bX11_init_134.2.2.2.2.2.2.2.2.1
def dX11_init_153 := bX11_init_134.2.2.2.2.2.2.2.2.2.1
def dX11_init_154 := bX11_init_134.2.2.2.2.2.2.2.2.2.2.1
def dX11_init_155 := bX11_init_134.2.2.2.2.2.2.2.2.2.2.2.1
def dX11_init_156 := bX11_init_134.2.2.2.2.2.2.2.2.2.2.2.2.1
def dX11_init_160 := bX11_init_134.2.2.2.2.2.2.2.2.2.2.2.2.2.1
def dX11_init_163 := bX11_init_134.2.2.2.2.2.2.2.2.2.2.2.2.2.2.1
def dX11_init_164 := bX11_init_134.2.2.2.2.2.2.2.2.2.2.2.2.2.2.2
theorem bX11_init_166 : decode cX11_init 166 = .ok (.iconst 2, 1) ∧ decode cX11_init 167 = .ok (.multianewarray 26 2, 4) ∧ decode cX11_init 171 = .ok (.putfield 67, 3) ∧ decode cX11_init 174 = .ok (.aload_n 0, 1) ∧ decode cX11_init 175 = .ok (.iconst 2, 1) ∧ decode cX11_init 176 = .ok (.bipush 12, 2) ∧ decode cX11_init 178 = .ok (.multianewarray 26 2, 4) ∧ decode cX11_init 182 = .ok (.putfield 70, 3) ∧ decode cX11_init 185 = .ok (.aload_n 0, 1) ∧ decode cX11_init 186 = .ok (.iconst 3, 1) ∧ decode cX11_init 187 = .ok (.sipush 3850, 3) ∧ decode cX11_init 190 = .ok (.multianewarray 26 2, 4) ∧ decode cX11_init 194 = .ok (.putfield 73, 3) ∧ decode cX11_init 197 = .ok (.aload_n 0, 1) ∧ decode cX11_init 198 = .ok (.bipush 13, 2) ∧ decode cX11_init 200 = .ok (.iconst 3, 1) := by decide +kernel
def dX11_init_166 := bX11_init_166.1
def dX11_init_167 := bX11_init_166.2.1
def dX11_init_171 := bX11_init_166.2.2.1
def dX11_init_174 := bX11_init_166.2.2.2.1
def dX11_init_175 := bX11_init_166.2.2.2.2.1
def dX11_init_176 := bX11_init_166.2.2.2.2.2.1
def dX11_init_178 := bX11_init_166.2.2.2.2.2.2.1
def dX11_init_182 := bX11_init_166.2.2.2.2.2.2.2.1
def dX11_init_185 := bX11_init_166.2.2.2.2.2.2.2.2.1
def dX11_init_186 := bX11_init_166.2.2.2.2.2.2.2.2.2.1
def dX11_init_187 := bX11_init_166.2.2.2.2.2.2.2.2.2.2.1
def dX11_init_190 := bX11_init_166.2.2.2.2.2.2.2.2.2.2.2.1
def dX11_init_194 := bX11_init_166.2.2.2.2.2.2.2.2.2.2.2.2.1
def dX11_init_197 := bX11_init_166.2.2.2.2.2.2.2.2.2.2.2.2.2.1
def dX11_init_198 := bX11_init_166.2.2.2.2.2.2.2.2.2.2.2.2.2.2.1
def dX11_init_200 := bX11_init_166.2.2.2.2.2.2.2.2.2.2.2.2.2.2.2
theorem bX11_init_201 : decode cX11_init 201 = .ok (.multianewarray 26 2, 4) ∧ decode cX11_init 205 = .ok (.putfield 76, 3) ∧ decode cX11_init 208 = .ok (.aload_n 0, 1) ∧ decode cX11_init 209 = .ok (.invokevirtual 79, 3) ∧ decode cX11_init 212 = .ok (.aload_n 0, 1) ∧ decode cX11_init 213 = .ok (.invokevirtual 82, 3) ∧ decode cX11_init 216 = .ok (.return_, 1) := by decide +kernel
def dX11_init_201 := bX11_init_201.1
def dX11_init_205 := bX11_init_201.2.1
def dX11_init_208 := bX11_init_201.2.2.1
def dX11_init_209 := bX11_init_201.2.2.2.1
def dX11_init_212 := bX11_init_201.2.2.2.2.1
def dX11_init_213 := bX11_init_201.2.2.2.2.2.1
def dX11_init_216 := bX11_init_201.2.2.2.2.2.2
theorem bX11_tellsNothing_0 : decode cX11_tellsNothing 0 = .ok (.bipush 15, 2) ∧ decode cX11_tellsNothing 2 = .ok (.newarray .int, 2) ∧ decode cX11_tellsNothing 4 = .ok (.dup, 1) ∧ decode cX11_tellsNothing 5 = .ok (.iconst 0, 1) ∧ decode cX11_tellsNothing 6 = .ok (.iconst 0, 1) ∧ decode cX11_tellsNothing 7 = .ok (.iastore, 1) ∧ decode cX11_tellsNothing 8 = .ok (.dup, 1) ∧ decode cX11_tellsNothing 9 = .ok (.iconst 1, 1) ∧ decode cX11_tellsNothing 10 = .ok (.sipush 1000, 3) ∧ decode cX11_tellsNothing 13 = .ok (.iastore, 1) ∧ decode cX11_tellsNothing 14 = .ok (.dup, 1) ∧ decode cX11_tellsNothing 15 = .ok (.iconst 2, 1) ∧ decode cX11_tellsNothing 16 = .ok (.bipush 100, 2) ∧ decode cX11_tellsNothing 18 = .ok (.iastore, 1) ∧ decode cX11_tellsNothing 19 = .ok (.dup, 1) ∧ decode cX11_tellsNothing 20 = .ok (.iconst 3, 1) := by decide +kernel
def dX11_tellsNothing_0 := bX11_tellsNothing_0.1
def dX11_tellsNothing_2 := bX11_tellsNothing_0.2.1
def dX11_tellsNothing_4 := bX11_tellsNothing_0.2.2.1
def dX11_tellsNothing_5 := bX11_tellsNothing_0.2.2.2.1
def dX11_tellsNothing_6 := bX11_tellsNothing_0.2.2.2.2.1
def dX11_tellsNothing_7 := bX11_tellsNothing_0.2.2.2.2.2.1
def dX11_tellsNothing_8 := bX11_tellsNothing_0.2.2.2.2.2.2.1
def dX11_tellsNothing_9 := bX11_tellsNothing_0.2.2.2.2.2.2.2.1
def dX11_tellsNothing_10 := bX11_tellsNothing_0.2.2.2.2.2.2.2.2.1
def dX11_tellsNothing_13 := bX11_tellsNothing_0.2.2.2.2.2.2.2.2.2.1
def dX11_tellsNothing_14 := bX11_tellsNothing_0.2.2.2.2.2.2.2.2.2.2.1
def dX11_tellsNothing_15 := bX11_tellsNothing_0.2.2.2.2.2.2.2.2.2.2.2.1
def dX11_tellsNothing_16 := bX11_tellsNothing_0.2.2.2.2.2.2.2.2.2.2.2.2.1
def dX11_tellsNothing_18 := bX11_tellsNothing_0.2.2.2.2.2.2.2.2.2.2.2.2.2.1
def dX11_tellsNothing_19 := bX11_tellsNothing_0.2.2.2.2.2.2.2.2.2.2.2.2.2.2.1
def dX11_tellsNothing_20 := bX11_tellsNothing_0.2.2.2.2.2.2.2.2.2.2.2.2.2.2.2
theorem bX11_tellsNothing_21 : decode cX11_tellsNothing 21 = .ok (.iconst 3, 1) ∧ decode cX11_tellsNothing 22 = .ok (.iastore, 1) ∧ decode cX11_tellsNothing 23 = .ok (.dup, 1) ∧ decode cX11_tellsNothing 24 = .ok (.iconst 4, 1) ∧ decode cX11_tellsNothing 25 = .ok (.iconst 0, 1) ∧ decode cX11_tellsNothing 26 = .ok (.iastore, 1) ∧ decode cX11_tellsNothing 27 = .ok (.dup, 1) ∧ decode cX11_tellsNothing 28 = .ok (.iconst 5, 1) ∧ decode cX11_tellsNothing 29 = .ok (.bipush 100, 2) ∧ decode cX11_tellsNothing 31 = .ok (.iastore, 1) ∧ decode cX11_tellsNothing 32 = .ok (.dup, 1) ∧ decode cX11_tellsNothing 33 = .ok (.bipush 6, 2) ∧ decode cX11_tellsNothing 35 = .ok (.iconst 5, 1) ∧ decode cX11_tellsNothing 36 = .ok (.iastore, 1) ∧ decode cX11_tellsNothing 37 = .ok (.dup, 1) ∧ decode cX11_tellsNothing 38 = .ok (.bipush 7, 2) := by decide +kernel
def dX11_tellsNothing_21 := bX11_tellsNothing_21.1
def dX11_tellsNothing_22 := bX11_tellsNothing_21.2.1
def dX11_tellsNothing_23 := bX11_tellsNothing_21.2.2.1
def dX11_tellsNothing_24 := bX11_tellsNothing_21.2.2.2.1
def dX11_tellsNothing_25 := bX11_tellsNothing_21.2.2.2.2.1
def dX11_tellsNothing_26 := bX11_tellsNothing_21.2.2.2.2.2.1
def dX11_tellsNothing_27 := bX11_tellsNothing_21.2.2.2.2.2.2.1
def dX11_tellsNothing_28 := bX11_tellsNothing_21.2.2.2.2.2.2.2.1
def dX11_tellsNothing_29 := bX11_tellsNothing_21.2.2.2.2.2.2.2.2.1
def dX11_tellsNothing_31 := bX11_tellsNothing_21.2.2.2.2.2.2.2.2.2.1
def dX11_tellsNothing_32 := bX11_tellsNothing_21.2.2.2.2.2.2.2.2.2.2.1
def dX11_tellsNothing_33 := bX11_tellsNothing_21.2.2.2.2.2.2.2.2.2.2.2.1
def dX11_tellsNothing_35 := bX11_tellsNothing_21.2.2.2.2.2.2.2.2.2.2.2.2.1
def dX11_tellsNothing_36 := bX11_tellsNothing_21.2.2.2.2.2.2.2.2.2.2.2.2.2.1
def dX11_tellsNothing_37 := bX11_tellsNothing_21.2.2.2.2.2.2.2.2.2.2.2.2.2.2.1
def dX11_tellsNothing_38 := bX11_tellsNothing_21.2.2.2.2.2.2.2.2.2.2.2.2.2.2.2
theorem bX11_tellsNothing_40 : decode cX11_tellsNothing 40 = .ok (.sipush 5000, 3) ∧ decode cX11_tellsNothing 43 = .ok (.iastore, 1) ∧ decode cX11_tellsNothing 44 = .ok (.dup, 1) ∧ decode cX11_tellsNothing 45 = .ok (.bipush 8, 2) ∧ decode cX11_tellsNothing 47 = .ok (.bipush 20, 2) ∧ decode cX11_tellsNothing 49 = .ok (.iastore, 1) ∧ decode cX11_tellsNothing 50 = .ok (.dup, 1) ∧ decode cX11_tellsNothing 51 = .ok (.bipush 9, 2) ∧ decode cX11_tellsNothing 53 = .ok (.bipush 20, 2) ∧ decode cX11_tellsNothing 55 = .ok (.iastore, 1) ∧ decode cX11_tellsNothing 56 = .ok (.dup, 1) ∧ decode cX11_tellsNothing 57 = .ok (.bipush 10, 2) ∧ decode cX11_tellsNothing 59 = .ok (.bipush 10, 2) ∧ decode cX11_tellsNothing 61 = .ok (.iastore, 1) ∧ decode cX11_tellsNothing 62 = .ok (.dup, 1) ∧ decode cX11_tellsNothing 63 = .ok (.bipush 11, 2) := by decide +kernel
def dX11_tellsNothing_40 := bX11_tellsNothing_40.1
def dX11_tellsNothing_43 := bX11_tellsNothing_40.2.1
def dX11_tellsNothing_44 := bX11_tellsNothing_40.2.2.1
def dX11_tellsNothing_45 := bX11_tellsNothing_40.2.2.2.1
def dX11_tellsNothing_47 := bX11_tellsNothing_40.2.2.2.2.1
def dX11_tellsNothing_49 := bX11_tellsNothing_40.2.2.2.2.2.1
def dX11_tellsNothing_50 := bX11_tellsNothing_40.2.2.2.2.2.2.1
def dX11_tellsNothing_51 := bX11_tellsNothing_40.2.2.2.2.2.2.2.1
def dX11_tellsNothing_53 := bX11_tellsNothing_40.2.2.2.2.2.2.2.2.1
def dX11_tellsNothing_55 := bX11_tellsNothing_40.2.2.2.2.2.2.2.2.2.1
def dX11_tellsNothing_56 := bX11_tellsNothing_40.2.2.2.2.2.2.2.2.2.2.1
def dX11_tellsNothing_57 := bX11_tellsNothing_40.2.2.2.2.2.2.2.2.2.2.2.1
def dX11_tellsNothing_59 := bX11_tellsNothing_40.2.2.2.2.2.2.2.2.2.2.2.2.1
def dX11_tellsNothing_61 := bX11_tellsNothing_40.2.2.2.2.2.2.2.2.2.2.2.2.2.1
def dX11_tellsNothing_62 := bX11_tellsNothing_40.2.2.2.2.2.2.2.2.2.2.2.2.2.2.1
def dX11_tellsNothing_63 := bX11_tellsNothing_40.2.2.2.2.2.2.2.2.2.2.2.2.2.2.2
theorem bX11_tellsNothing_65 : decode cX11_tellsNothing 65 = .ok (.iconst 5, 1) ∧ decode cX11_tellsNothing 66 = .ok (.iastore, 1) ∧ decode cX11_tellsNothing 67 = .ok (.dup, 1) ∧ decode cX11_tellsNothing 68 = .ok (.bipush 12, 2) ∧ decode cX11_tellsNothing 70 = .ok (.iconst 1, 1) ∧ decode cX11_tellsNothing 71 = .ok (.iastore, 1) ∧ decode cX11_tellsNothing 72 = .ok (.dup, 1) ∧ decode cX11_tellsNothing 73 = .ok (.bipush 13, 2) ∧ decode cX11_tellsNothing 75 = .ok (.iconst 5, 1) ∧ decode cX11_tellsNothing 76 = .ok (.iastore, 1) ∧ decode cX11_tellsNothing 77 = .ok (.dup, 1) ∧ decode cX11_tellsNothing 78 = .ok (.bipush 14, 2) ∧ decode cX11_tellsNothing 80 = .ok (.iconst 1, 1) ∧ decode cX11_tellsNothing 81 = .ok (.iastore, 1) ∧ decode cX11_tellsNothing 82 = .ok (.astore_n 1, 1) ∧ decode cX11_tellsNothing 83 = .ok (.iconst 0, 1) := by decide +kernel
def dX11_tellsNothing_65 := bX11_tellsNothing_65.1
def dX11_tellsNothing_66 := bX11_tellsNothing_65.2.1
def dX11_tellsNothing_67 := bX11_tellsNothing_65.2.2.1
def dX11_tellsNothing_68 := bX11_tellsNothing_65.2.2.2.1
def dX11_tellsNothing_70 := bX11_tellsNothing_65.2.2.2.2.1
def dX11_tellsNothing_71 := bX11_tellsNothing_65.2.2.2.2.2.1
def dX11_tellsNothing_72 := bX11_tellsNothing_65.2.2.2.2.2.2.1
def dX11_tellsNothing_73 := bX11_tellsNothing_65.2.2.2.2.2.2.2.1
def dX11_tellsNothing_75 := bX11_tellsNothing_65.2.2.2.2.2.2.2.2.1
def dX11_tellsNothing_76 := bX11_tellsNothing_65.2.2.2.2.2.2.2.2.2.1
def dX11_tellsNothing_77 := bX11_tellsNothing_65.2.2.2.2.2.2.2.2.2.2.1
def dX11_tellsNothing_78 := bX11_tellsNothing_65.2.2.2.2.2.2.2.2.2.2.2.1
def dX11_tellsNothing_80 := bX11_tellsNothing_65.2.2.2.2.2.2.2.2.2.2.2.2.1
def dX11_tellsNothing_81 := bX11_tellsNothing_65.2.2.2.2.2.2.2.2.2.2.2.2.2.1
def dX11_tellsNothing_82 := bX11_tellsNothing_65.2.2.2.2.2.2.2.2.2.2.2.2.2.2.1
def dX11_tellsNothing_83 := bX11_tellsNothing_65.2.2.2.2.2.2.2.2.2.2.2.2.2.2.2
theorem bX11_tellsNothing_84 : decode cX11_tellsNothing 84 = .ok (.istore_n 2, 1) ∧ decode cX11_tellsNothing 85 = .ok (.iload_n 2, 1) ∧ decode cX11_tellsNothing 86 = .ok (.bipush 15, 2) ∧ decode cX11_tellsNothing 88 = .ok (.if_icmp .ge 18, 3) ∧ decode cX11_tellsNothing 91 = .ok (.aload_n 0, 1) ∧ decode cX11_tellsNothing 92 = .ok (.getfield 20, 3) ∧ decode cX11_tellsNothing 95 = .ok (.iload_n 2, 1) ∧ decode cX11_tellsNothing 96 = .ok (.aload_n 1, 1) ∧ decode cX11_tellsNothing 97 = .ok (.iload_n 2, 1) ∧ decode cX11_tellsNothing 98 = .ok (.iaload, 1) ∧ decode cX11_tellsNothing 99 = .ok (.iastore, 1) ∧ decode cX11_tellsNothing 100 = .ok (.iinc 2 1, 3) ∧ decode cX11_tellsNothing 103 = .ok (.goto (-18), 3) ∧ decode cX11_tellsNothing 106 = .ok (.iconst 0, 1) ∧ decode cX11_tellsNothing 107 = .ok (.istore_n 2, 1) ∧ decode cX11_tellsNothing 108 = .ok (.iload_n 2, 1) := by decide +kernel
def dX11_tellsNothing_84 := bX11_tellsNothing_84.1
def dX11_tellsNothing_85 := bX11_tellsNothing_84.2.1
def dX11_tellsNothing_86 := bX11_tellsNothing_84.2.2.1
def dX11_tellsNothing_88 := bX11_tellsNothing_84.2.2.2.1
def dX11_tellsNothing_91 := bX11_tellsNothing_84.2.2.2.2.1
def dX11_tellsNothing_92 := bX11_tellsNothing_84.2.2.2.2.2.1
def dX11_tellsNothing_95 := bX11_tellsNothing_84.2.2.2.2.2.2.1
def dX11_tellsNothing_96 := bX11_tellsNothing_84.2.2.2.2.2.2.2.1
def dX11_tellsNothing_97 := bX11_tellsNothing_84.2.2.2.2.2.2.2.2.1
def dX11_tellsNothing_98 := bX11_tellsNothing_84.2.2.2.2.2.2.2.2.2.1
def dX11_tellsNothing_99 := bX11_tellsNothing_84.2.2.2.2.2.2.2.2.2.2.1
def dX11_tellsNothing_100 := bX11_tellsNothing_84.2.2.2.2.2.2.2.2.2.2.2.1
def dX11_tellsNothing_103 := bX11_tellsNothing_84.2.2.2.2.2.2.2.2.2.2.2.2.1
def dX11_tellsNothing_106 := bX11_tellsNothing_84.2.2.2.2.2.2.2.2.2.2.2.2.2.1
def dX11_tellsNothing_107 := bX11_tellsNothing_84.2.2.2.2.2.2.2.2.2.2.2.2.2.2.1
def dX11_tellsNothing_108 := bX11_tellsNothing_84.2.2.2.2.2.2.2.2.2.2.2.2.2.2.2
theorem bX11_tellsNothing_109 : decode cX11_tellsNothing 109 = .ok (.bipush 10, 2) ∧ decode cX11_tellsNothing 111 = .ok (.if_icmp .ge 22, 3) ∧ decode cX11_tellsNothing 114 = .ok (.aload_n 0, 1) ∧ decode cX11_tellsNothing 115 = .ok (.getfield 20, 3) ∧ decode cX11_tellsNothing 118 = .ok (.bipush 15, 2) ∧ decode cX11_tellsNothing 120 = .ok (.iload_n 2, 1) ∧ decode cX11_tellsNothing 121 = .ok (.iadd, 1) ∧ decode cX11_tellsNothing 122 = .ok (.bipush 9, 2) ∧ decode cX11_tellsNothing 124 = .ok (.iload_n 2, 1) ∧ decode cX11_tellsNothing 125 = .ok (.isub, 1) ∧ decode cX11_tellsNothing 126 = .ok (.iastore, 1) ∧ decode cX11_tellsNothing 127 = .ok (.iinc 2 1, 3) ∧ decode cX11_tellsNothing 130 = .ok (.goto (-22), 3) ∧ decode cX11_tellsNothing 133 = .ok (.return_, 1) := by decide +kernel
def dX11_tellsNothing_109 := bX11_tellsNothing_109.1
def dX11_tellsNothing_111 := bX11_tellsNothing_109.2.1
def dX11_tellsNothing_114 := bX11_tellsNothing_109.2.2.1
def dX11_tellsNothing_115 := bX11_tellsNothing_109.2.2.2.1
def dX11_tellsNothing_118 := bX11_tellsNothing_109.2.2.2.2.1
def dX11_tellsNothing_120 := bX11_tellsNothing_109.2.2.2.2.2.1
def dX11_tellsNothing_121 := bX11_tellsNothing_109.2.2.2.2.2.2.1
def dX11_tellsNothing_122 := bX11_tellsNothing_109.2.2.2.2.2.2.2.1
def dX11_tellsNothing_124 := bX11_tellsNothing_109.2.2.2.2.2.2.2.2.1
def dX11_tellsNothing_125 := bX11_tellsNothing_109.2.2.2.2.2.2.2.2.2.1
def dX11_tellsNothing_126 := bX11_tellsNothing_109.2.2.2.2.2.2.2.2.2.2.1
def dX11_tellsNothing_127 := bX11_tellsNothing_109.2.2.2.2.2.2.2.2.2.2.2.1
def dX11_tellsNothing_130 := bX11_tellsNothing_109.2.2.2.2.2.2.2.2.2.2.2.2.1
def dX11_tellsNothing_133 := bX11_tellsNothing_109.2.2.2.2.2.2.2.2.2.2.2.2.2
theorem bX11_thrown_0 : decode cX11_thrown 0 = .ok (.aload_n 0, 1) ∧ decode cX11_thrown 1 = .ok (.getfield 85, 3) ∧ decode cX11_thrown 4 = .ok (.ireturn, 1) := by decide +kernel
def dX11_thrown_0 := bX11_thrown_0.1
def dX11_thrown_1 := bX11_thrown_0.2.1
def dX11_thrown_4 := bX11_thrown_0.2.2
theorem bX11_bad_0 : decode cX11_bad 0 = .ok (.iload_n 1, 1) ∧ decode cX11_bad 1 = .ok (.ifCond .eq 25, 3) ∧ decode cX11_bad 4 = .ok (.aload_n 0, 1) ∧ decode cX11_bad 5 = .ok (.getfield 85, 3) ∧ decode cX11_bad 8 = .ok (.ifCond .ne 18, 3) ∧ decode cX11_bad 11 = .ok (.aload_n 0, 1) ∧ decode cX11_bad 12 = .ok (.iload_n 2, 1) ∧ decode cX11_bad 13 = .ok (.putfield 85, 3) ∧ decode cX11_bad 16 = .ok (.aload_n 0, 1) ∧ decode cX11_bad 17 = .ok (.getfield 17, 3) ∧ decode cX11_bad 20 = .ok (.iload_n 3, 1) ∧ decode cX11_bad 21 = .ok (.dup2, 1) ∧ decode cX11_bad 22 = .ok (.iaload, 1) ∧ decode cX11_bad 23 = .ok (.iconst 1, 1) ∧ decode cX11_bad 24 = .ok (.iadd, 1) ∧ decode cX11_bad 25 = .ok (.iastore, 1) := by decide +kernel
def dX11_bad_0 := bX11_bad_0.1
def dX11_bad_1 := bX11_bad_0.2.1
def dX11_bad_4 := bX11_bad_0.2.2.1
def dX11_bad_5 := bX11_bad_0.2.2.2.1
def dX11_bad_8 := bX11_bad_0.2.2.2.2.1
def dX11_bad_11 := bX11_bad_0.2.2.2.2.2.1
def dX11_bad_12 := bX11_bad_0.2.2.2.2.2.2.1
def dX11_bad_13 := bX11_bad_0.2.2.2.2.2.2.2.1
def dX11_bad_16 := bX11_bad_0.2.2.2.2.2.2.2.2.1
def dX11_bad_17 := bX11_bad_0.2.2.2.2.2.2.2.2.2.1
def dX11_bad_20 := bX11_bad_0.2.2.2.2.2.2.2.2.2.2.1
def dX11_bad_21 := bX11_bad_0.2.2.2.2.2.2.2.2.2.2.2.1
def dX11_bad_22 := bX11_bad_0.2.2.2.2.2.2.2.2.2.2.2.2.1
def dX11_bad_23 := bX11_bad_0.2.2.2.2.2.2.2.2.2.2.2.2.2.1
def dX11_bad_24 := bX11_bad_0.2.2.2.2.2.2.2.2.2.2.2.2.2.2.1
def dX11_bad_25 := bX11_bad_0.2.2.2.2.2.2.2.2.2.2.2.2.2.2.2
theorem bX11_bad_26 : decode cX11_bad 26 = .ok (.aload_n 0, 1) ∧ decode cX11_bad 27 = .ok (.getfield 85, 3) ∧ decode cX11_bad 30 = .ok (.ifCond .eq 7, 3) ∧ decode cX11_bad 33 = .ok (.iconst 1, 1) ∧ decode cX11_bad 34 = .ok (.goto 4, 3) ∧ decode cX11_bad 37 = .ok (.iconst 0, 1) ∧ decode cX11_bad 38 = .ok (.ireturn, 1) := by decide +kernel
def dX11_bad_26 := bX11_bad_26.1
def dX11_bad_27 := bX11_bad_26.2.1
def dX11_bad_30 := bX11_bad_26.2.2.1
def dX11_bad_33 := bX11_bad_26.2.2.2.1
def dX11_bad_34 := bX11_bad_26.2.2.2.2.1
def dX11_bad_37 := bX11_bad_26.2.2.2.2.2.1
def dX11_bad_38 := bX11_bad_26.2.2.2.2.2.2
theorem bX11_in_0 : decode cX11_in 0 = .ok (.iload_n 0, 1) ∧ decode cX11_in 1 = .ok (.iload_n 1, 1) ∧ decode cX11_in 2 = .ok (.if_icmp .lt 12, 3) ∧ decode cX11_in 5 = .ok (.iload_n 0, 1) ∧ decode cX11_in 6 = .ok (.iload_n 2, 1) ∧ decode cX11_in 7 = .ok (.if_icmp .gt 7, 3) ∧ decode cX11_in 10 = .ok (.iconst 1, 1) ∧ decode cX11_in 11 = .ok (.goto 4, 3) ∧ decode cX11_in 14 = .ok (.iconst 0, 1) ∧ decode cX11_in 15 = .ok (.ireturn, 1) := by decide +kernel
def dX11_in_0 := bX11_in_0.1
def dX11_in_1 := bX11_in_0.2.1
def dX11_in_2 := bX11_in_0.2.2.1
def dX11_in_5 := bX11_in_0.2.2.2.1
def dX11_in_6 := bX11_in_0.2.2.2.2.1
def dX11_in_7 := bX11_in_0.2.2.2.2.2.1
def dX11_in_10 := bX11_in_0.2.2.2.2.2.2.1
def dX11_in_11 := bX11_in_0.2.2.2.2.2.2.2.1
def dX11_in_14 := bX11_in_0.2.2.2.2.2.2.2.2.1
def dX11_in_15 := bX11_in_0.2.2.2.2.2.2.2.2.2
theorem bX11_feed_0 : decode cX11_feed 0 = .ok (.aload_n 0, 1) ∧ decode cX11_feed 1 = .ok (.iconst 0, 1) ∧ decode cX11_feed 2 = .ok (.putfield 85, 3) ∧ decode cX11_feed 5 = .ok (.aload_n 0, 1) ∧ decode cX11_feed 6 = .ok (.getfield 88, 3) ∧ decode cX11_feed 9 = .ok (.bipush 20, 2) ∧ decode cX11_feed 11 = .ok (.iadd, 1) ∧ decode cX11_feed 12 = .ok (.sipush 500, 3) ∧ decode cX11_feed 15 = .ok (.if_icmp .le 5, 3) ∧ decode cX11_feed 18 = .ok (.iconst (-1), 1) ∧ decode cX11_feed 19 = .ok (.ireturn, 1) ∧ decode cX11_feed 20 = .ok (.iconst 0, 1) ∧ decode cX11_feed 21 = .ok (.istore 6, 2) ∧ decode cX11_feed 23 = .ok (.iload 6, 2) ∧ decode cX11_feed 25 = .ok (.bipush 20, 2) ∧ decode cX11_feed 27 = .ok (.if_icmp .ge 93, 3) := by decide +kernel
def dX11_feed_0 := bX11_feed_0.1
def dX11_feed_1 := bX11_feed_0.2.1
def dX11_feed_2 := bX11_feed_0.2.2.1
def dX11_feed_5 := bX11_feed_0.2.2.2.1
def dX11_feed_6 := bX11_feed_0.2.2.2.2.1
def dX11_feed_9 := bX11_feed_0.2.2.2.2.2.1
def dX11_feed_11 := bX11_feed_0.2.2.2.2.2.2.1
def dX11_feed_12 := bX11_feed_0.2.2.2.2.2.2.2.1
def dX11_feed_15 := bX11_feed_0.2.2.2.2.2.2.2.2.1
def dX11_feed_18 := bX11_feed_0.2.2.2.2.2.2.2.2.2.1
def dX11_feed_19 := bX11_feed_0.2.2.2.2.2.2.2.2.2.2.1
def dX11_feed_20 := bX11_feed_0.2.2.2.2.2.2.2.2.2.2.2.1
def dX11_feed_21 := bX11_feed_0.2.2.2.2.2.2.2.2.2.2.2.2.1
def dX11_feed_23 := bX11_feed_0.2.2.2.2.2.2.2.2.2.2.2.2.2.1
def dX11_feed_25 := bX11_feed_0.2.2.2.2.2.2.2.2.2.2.2.2.2.2.1
def dX11_feed_27 := bX11_feed_0.2.2.2.2.2.2.2.2.2.2.2.2.2.2.2
theorem bX11_feed_30 : decode cX11_feed 30 = .ok (.iload 6, 2) ∧ decode cX11_feed 32 = .ok (.iconst 4, 1) ∧ decode cX11_feed 33 = .ok (.if_icmp .ge 7, 3) ∧ decode cX11_feed 36 = .ok (.iload_n 1, 1) ∧ decode cX11_feed 37 = .ok (.goto 39, 3) ∧ decode cX11_feed 40 = .ok (.iload 6, 2) ∧ decode cX11_feed 42 = .ok (.bipush 8, 2) ∧ decode cX11_feed 44 = .ok (.if_icmp .ge 7, 3) ∧ decode cX11_feed 47 = .ok (.iload_n 2, 1) ∧ decode cX11_feed 48 = .ok (.goto 28, 3) ∧ decode cX11_feed 51 = .ok (.iload 6, 2) ∧ decode cX11_feed 53 = .ok (.bipush 12, 2) ∧ decode cX11_feed 55 = .ok (.if_icmp .ge 7, 3) ∧ decode cX11_feed 58 = .ok (.iload_n 3, 1) ∧ decode cX11_feed 59 = .ok (.goto 17, 3) ∧ decode cX11_feed 62 = .ok (.iload 6, 2) := by decide +kernel
def dX11_feed_30 := bX11_feed_30.1
def dX11_feed_32 := bX11_feed_30.2.1
def dX11_feed_33 := bX11_feed_30.2.2.1
def dX11_feed_36 := bX11_feed_30.2.2.2.1
def dX11_feed_37 := bX11_feed_30.2.2.2.2.1
def dX11_feed_40 := bX11_feed_30.2.2.2.2.2.1
def dX11_feed_42 := bX11_feed_30.2.2.2.2.2.2.1
def dX11_feed_44 := bX11_feed_30.2.2.2.2.2.2.2.1
def dX11_feed_47 := bX11_feed_30.2.2.2.2.2.2.2.2.1
def dX11_feed_48 := bX11_feed_30.2.2.2.2.2.2.2.2.2.1
def dX11_feed_51 := bX11_feed_30.2.2.2.2.2.2.2.2.2.2.1
def dX11_feed_53 := bX11_feed_30.2.2.2.2.2.2.2.2.2.2.2.1
def dX11_feed_55 := bX11_feed_30.2.2.2.2.2.2.2.2.2.2.2.2.1
def dX11_feed_58 := bX11_feed_30.2.2.2.2.2.2.2.2.2.2.2.2.2.1
def dX11_feed_59 := bX11_feed_30.2.2.2.2.2.2.2.2.2.2.2.2.2.2.1
def dX11_feed_62 := bX11_feed_30.2.2.2.2.2.2.2.2.2.2.2.2.2.2.2
theorem bX11_feed_64 : decode cX11_feed 64 = .ok (.bipush 16, 2) ∧ decode cX11_feed 66 = .ok (.if_icmp .ge 8, 3) ∧ decode cX11_feed 69 = .ok (.iload 4, 2) ∧ decode cX11_feed 71 = .ok (.goto 5, 3) ∧ decode cX11_feed 74 = .ok (.iload 5, 2) ∧ decode cX11_feed 76 = .ok (.istore 7, 2) ∧ decode cX11_feed 78 = .ok (.aload_n 0, 1) ∧ decode cX11_feed 79 = .ok (.getfield 13, 3) ∧ decode cX11_feed 82 = .ok (.aload_n 0, 1) ∧ decode cX11_feed 83 = .ok (.getfield 88, 3) ∧ decode cX11_feed 86 = .ok (.iload 7, 2) ∧ decode cX11_feed 88 = .ok (.bipush 24, 2) ∧ decode cX11_feed 90 = .ok (.bipush 8, 2) ∧ decode cX11_feed 92 = .ok (.iload 6, 2) ∧ decode cX11_feed 94 = .ok (.iconst 4, 1) ∧ decode cX11_feed 95 = .ok (.irem, 1) := by decide +kernel
def dX11_feed_64 := bX11_feed_64.1
def dX11_feed_66 := bX11_feed_64.2.1
def dX11_feed_69 := bX11_feed_64.2.2.1
def dX11_feed_71 := bX11_feed_64.2.2.2.1
def dX11_feed_74 := bX11_feed_64.2.2.2.2.1
def dX11_feed_76 := bX11_feed_64.2.2.2.2.2.1
def dX11_feed_78 := bX11_feed_64.2.2.2.2.2.2.1
def dX11_feed_79 := bX11_feed_64.2.2.2.2.2.2.2.1
def dX11_feed_82 := bX11_feed_64.2.2.2.2.2.2.2.2.1
def dX11_feed_83 := bX11_feed_64.2.2.2.2.2.2.2.2.2.1
def dX11_feed_86 := bX11_feed_64.2.2.2.2.2.2.2.2.2.2.1
def dX11_feed_88 := bX11_feed_64.2.2.2.2.2.2.2.2.2.2.2.1
def dX11_feed_90 := bX11_feed_64.2.2.2.2.2.2.2.2.2.2.2.2.1
def dX11_feed_92 := bX11_feed_64.2.2.2.2.2.2.2.2.2.2.2.2.2.1
def dX11_feed_94 := bX11_feed_64.2.2.2.2.2.2.2.2.2.2.2.2.2.2.1
def dX11_feed_95 := bX11_feed_64.2.2.2.2.2.2.2.2.2.2.2.2.2.2.2
theorem bX11_feed_96 : decode cX11_feed 96 = .ok (.imul, 1) ∧ decode cX11_feed 97 = .ok (.isub, 1) ∧ decode cX11_feed 98 = .ok (.ishr, 1) ∧ decode cX11_feed 99 = .ok (.sipush 255, 3) ∧ decode cX11_feed 102 = .ok (.iand, 1) ∧ decode cX11_feed 103 = .ok (.iastore, 1) ∧ decode cX11_feed 104 = .ok (.aload_n 0, 1) ∧ decode cX11_feed 105 = .ok (.dup, 1) ∧ decode cX11_feed 106 = .ok (.getfield 88, 3) ∧ decode cX11_feed 109 = .ok (.iconst 1, 1) ∧ decode cX11_feed 110 = .ok (.iadd, 1) ∧ decode cX11_feed 111 = .ok (.putfield 88, 3) ∧ decode cX11_feed 114 = .ok (.iinc 6 1, 3) ∧ decode cX11_feed 117 = .ok (.goto (-94), 3) ∧ decode cX11_feed 120 = .ok (.aload_n 0, 1) ∧ decode cX11_feed 121 = .ok (.getfield 88, 3) := by decide +kernel
def dX11_feed_96 := bX11_feed_96.1
def dX11_feed_97 := bX11_feed_96.2.1
def dX11_feed_98 := bX11_feed_96.2.2.1
def dX11_feed_99 := bX11_feed_96.2.2.2.1
def dX11_feed_102 := bX11_feed_96.2.2.2.2.1
def dX11_feed_103 := bX11_feed_96.2.2.2.2.2.1
def dX11_feed_104 := bX11_feed_96.2.2.2.2.2.2.1
def dX11_feed_105 := bX11_feed_96.2.2.2.2.2.2.2.1
def dX11_feed_106 := bX11_feed_96.2.2.2.2.2.2.2.2.1
def dX11_feed_109 := bX11_feed_96.2.2.2.2.2.2.2.2.2.1
def dX11_feed_110 := bX11_feed_96.2.2.2.2.2.2.2.2.2.2.1
def dX11_feed_111 := bX11_feed_96.2.2.2.2.2.2.2.2.2.2.2.1
def dX11_feed_114 := bX11_feed_96.2.2.2.2.2.2.2.2.2.2.2.2.1
def dX11_feed_117 := bX11_feed_96.2.2.2.2.2.2.2.2.2.2.2.2.2.1
def dX11_feed_120 := bX11_feed_96.2.2.2.2.2.2.2.2.2.2.2.2.2.2.1
def dX11_feed_121 := bX11_feed_96.2.2.2.2.2.2.2.2.2.2.2.2.2.2.2
theorem dX11_feed_124 : decode cX11_feed 124 = .ok (.ireturn, 1) := by decide +kernel
theorem bX11_byteAt_0 : decode cX11_byteAt 0 = .ok (.iload_n 1, 1) ∧ decode cX11_byteAt 1 = .ok (.aload_n 0, 1) ∧ decode cX11_byteAt 2 = .ok (.getfield 91, 3) ∧ decode cX11_byteAt 5 = .ok (.if_icmp .lt 7, 3) ∧ decode cX11_byteAt 8 = .ok (.iconst (-1), 1) ∧ decode cX11_byteAt 9 = .ok (.goto 9, 3) ∧ decode cX11_byteAt 12 = .ok (.aload_n 0, 1) ∧ decode cX11_byteAt 13 = .ok (.getfield 13, 3) ∧ decode cX11_byteAt 16 = .ok (.iload_n 1, 1) ∧ decode cX11_byteAt 17 = .ok (.iaload, 1) ∧ decode cX11_byteAt 18 = .ok (.ireturn, 1) := by decide +kernel
def dX11_byteAt_0 := bX11_byteAt_0.1
def dX11_byteAt_1 := bX11_byteAt_0.2.1
def dX11_byteAt_2 := bX11_byteAt_0.2.2.1
def dX11_byteAt_5 := bX11_byteAt_0.2.2.2.1
def dX11_byteAt_8 := bX11_byteAt_0.2.2.2.2.1
def dX11_byteAt_9 := bX11_byteAt_0.2.2.2.2.2.1
def dX11_byteAt_12 := bX11_byteAt_0.2.2.2.2.2.2.1
def dX11_byteAt_13 := bX11_byteAt_0.2.2.2.2.2.2.2.1
def dX11_byteAt_16 := bX11_byteAt_0.2.2.2.2.2.2.2.2.1
def dX11_byteAt_17 := bX11_byteAt_0.2.2.2.2.2.2.2.2.2.1
def dX11_byteAt_18 := bX11_byteAt_0.2.2.2.2.2.2.2.2.2.2
theorem ggX11_blanks_X11_byteAt : GoodIn wsX11_blanks wsX11_byteAt := gW_in gwX11_byteAt (fun _ h => List.mem_cons_of_mem _ (List.mem_append_right _ (List.mem_append_right _ (h))))
set_option maxRecDepth 20000 in
theorem gX11_blanks_X11_byteAt : GoodIn wsX11_blanks (wsV RX11 97 RX11 yX11_byteAt wsX11_byteAt) := goodIn_app (goodIn_of _ (by decide +kernel)) ggX11_blanks_X11_byteAt
theorem bX11_blanks_0 : decode cX11_blanks 0 = .ok (.aload_n 0, 1) ∧ decode cX11_blanks 1 = .ok (.aload_n 0, 1) ∧ decode cX11_blanks 2 = .ok (.getfield 94, 3) ∧ decode cX11_blanks 5 = .ok (.invokevirtual 97, 3) ∧ decode cX11_blanks 8 = .ok (.bipush 32, 2) ∧ decode cX11_blanks 10 = .ok (.if_icmp .ne 16, 3) ∧ decode cX11_blanks 13 = .ok (.aload_n 0, 1) ∧ decode cX11_blanks 14 = .ok (.dup, 1) ∧ decode cX11_blanks 15 = .ok (.getfield 94, 3) ∧ decode cX11_blanks 18 = .ok (.iconst 1, 1) ∧ decode cX11_blanks 19 = .ok (.iadd, 1) ∧ decode cX11_blanks 20 = .ok (.putfield 94, 3) ∧ decode cX11_blanks 23 = .ok (.goto (-23), 3) ∧ decode cX11_blanks 26 = .ok (.return_, 1) := by decide +kernel
def dX11_blanks_0 := bX11_blanks_0.1
def dX11_blanks_1 := bX11_blanks_0.2.1
def dX11_blanks_2 := bX11_blanks_0.2.2.1
def dX11_blanks_5 := bX11_blanks_0.2.2.2.1
def dX11_blanks_8 := bX11_blanks_0.2.2.2.2.1
def dX11_blanks_10 := bX11_blanks_0.2.2.2.2.2.1
def dX11_blanks_13 := bX11_blanks_0.2.2.2.2.2.2.1
def dX11_blanks_14 := bX11_blanks_0.2.2.2.2.2.2.2.1
def dX11_blanks_15 := bX11_blanks_0.2.2.2.2.2.2.2.2.1
def dX11_blanks_18 := bX11_blanks_0.2.2.2.2.2.2.2.2.2.1
def dX11_blanks_19 := bX11_blanks_0.2.2.2.2.2.2.2.2.2.2.1
def dX11_blanks_20 := bX11_blanks_0.2.2.2.2.2.2.2.2.2.2.2.1
def dX11_blanks_23 := bX11_blanks_0.2.2.2.2.2.2.2.2.2.2.2.2.1
def dX11_blanks_26 := bX11_blanks_0.2.2.2.2.2.2.2.2.2.2.2.2.2
theorem bX11_wrong_0 : decode cX11_wrong 0 = .ok (.aload_n 0, 1) ∧ decode cX11_wrong 1 = .ok (.getfield 101, 3) ∧ decode cX11_wrong 4 = .ok (.ifCond .ne 13, 3) ∧ decode cX11_wrong 7 = .ok (.aload_n 0, 1) ∧ decode cX11_wrong 8 = .ok (.iload_n 1, 1) ∧ decode cX11_wrong 9 = .ok (.putfield 101, 3) ∧ decode cX11_wrong 12 = .ok (.aload_n 0, 1) ∧ decode cX11_wrong 13 = .ok (.iload_n 2, 1) ∧ decode cX11_wrong 14 = .ok (.putfield 104, 3) ∧ decode cX11_wrong 17 = .ok (.return_, 1) := by decide +kernel
def dX11_wrong_0 := bX11_wrong_0.1
def dX11_wrong_1 := bX11_wrong_0.2.1
def dX11_wrong_4 := bX11_wrong_0.2.2.1
def dX11_wrong_7 := bX11_wrong_0.2.2.2.1
def dX11_wrong_8 := bX11_wrong_0.2.2.2.2.1
def dX11_wrong_9 := bX11_wrong_0.2.2.2.2.2.1
def dX11_wrong_12 := bX11_wrong_0.2.2.2.2.2.2.1
def dX11_wrong_13 := bX11_wrong_0.2.2.2.2.2.2.2.1
def dX11_wrong_14 := bX11_wrong_0.2.2.2.2.2.2.2.2.1
def dX11_wrong_17 := bX11_wrong_0.2.2.2.2.2.2.2.2.2
theorem bX11_isDigit_0 : decode cX11_isDigit 0 = .ok (.iload_n 0, 1) ∧ decode cX11_isDigit 1 = .ok (.bipush 48, 2) ∧ decode cX11_isDigit 3 = .ok (.if_icmp .lt 13, 3) ∧ decode cX11_isDigit 6 = .ok (.iload_n 0, 1) ∧ decode cX11_isDigit 7 = .ok (.bipush 57, 2) ∧ decode cX11_isDigit 9 = .ok (.if_icmp .gt 7, 3) ∧ decode cX11_isDigit 12 = .ok (.iconst 1, 1) ∧ decode cX11_isDigit 13 = .ok (.goto 4, 3) ∧ decode cX11_isDigit 16 = .ok (.iconst 0, 1) ∧ decode cX11_isDigit 17 = .ok (.ireturn, 1) := by decide +kernel
def dX11_isDigit_0 := bX11_isDigit_0.1
def dX11_isDigit_1 := bX11_isDigit_0.2.1
def dX11_isDigit_3 := bX11_isDigit_0.2.2.1
def dX11_isDigit_6 := bX11_isDigit_0.2.2.2.1
def dX11_isDigit_7 := bX11_isDigit_0.2.2.2.2.1
def dX11_isDigit_9 := bX11_isDigit_0.2.2.2.2.2.1
def dX11_isDigit_12 := bX11_isDigit_0.2.2.2.2.2.2.1
def dX11_isDigit_13 := bX11_isDigit_0.2.2.2.2.2.2.2.1
def dX11_isDigit_16 := bX11_isDigit_0.2.2.2.2.2.2.2.2.1
def dX11_isDigit_17 := bX11_isDigit_0.2.2.2.2.2.2.2.2.2
theorem ggX11_number_X11_blanks : GoodIn wsX11_number wsX11_blanks := gW_in gwX11_blanks (fun _ h => List.mem_cons_of_mem _ (List.mem_append_right _ (List.mem_append_right _ (List.mem_append_left _ h))))
set_option maxRecDepth 20000 in
theorem gX11_number_X11_blanks : GoodIn wsX11_number (wsV RX11 107 RX11 yX11_blanks wsX11_blanks) := goodIn_app (goodIn_of _ (by decide +kernel)) ggX11_number_X11_blanks
theorem ggX11_number_X11_byteAt : GoodIn wsX11_number wsX11_byteAt := gW_in gwX11_byteAt (fun _ h => List.mem_cons_of_mem _ (List.mem_append_right _ (List.mem_append_right _ (List.mem_append_right _ (List.mem_append_left _ h)))))
set_option maxRecDepth 20000 in
theorem gX11_number_X11_byteAt : GoodIn wsX11_number (wsV RX11 97 RX11 yX11_byteAt wsX11_byteAt) := goodIn_app (goodIn_of _ (by decide +kernel)) ggX11_number_X11_byteAt
theorem ggX11_number_X11_isDigit : GoodIn wsX11_number wsX11_isDigit := gW_in gwX11_isDigit (fun _ h => List.mem_cons_of_mem _ (List.mem_append_right _ (List.mem_append_right _ (List.mem_append_right _ (List.mem_append_right _ (List.mem_append_left _ h))))))
set_option maxRecDepth 20000 in
theorem gX11_number_X11_isDigit : GoodIn wsX11_number (va_wsS RX11 110 yX11_isDigit wsX11_isDigit) := goodIn_app (goodIn_of _ (by decide +kernel)) ggX11_number_X11_isDigit
theorem ggX11_number_X11_wrong : GoodIn wsX11_number wsX11_wrong := gW_in gwX11_wrong (fun _ h => List.mem_cons_of_mem _ (List.mem_append_right _ (List.mem_append_right _ (List.mem_append_right _ (List.mem_append_right _ (List.mem_append_right _ (List.mem_append_left _ h)))))))
set_option maxRecDepth 20000 in
theorem gX11_number_X11_wrong : GoodIn wsX11_number (wsV RX11 114 RX11 yX11_wrong wsX11_wrong) := goodIn_app (goodIn_of _ (by decide +kernel)) ggX11_number_X11_wrong
theorem ggX11_number_X11_in : GoodIn wsX11_number wsX11_in := gW_in gwX11_in (fun _ h => List.mem_cons_of_mem _ (List.mem_append_right _ (List.mem_append_right _ (List.mem_append_right _ (List.mem_append_right _ (List.mem_append_right _ (List.mem_append_right _ (h))))))))
set_option maxRecDepth 20000 in
theorem gX11_number_X11_in : GoodIn wsX11_number (va_wsS RX11 119 yX11_in wsX11_in) := goodIn_app (goodIn_of _ (by decide +kernel)) ggX11_number_X11_in
theorem bX11_number_0 : decode cX11_number 0 = .ok (.aload_n 0, 1) ∧ decode cX11_number 1 = .ok (.getfield 101, 3) ∧ decode cX11_number 4 = .ok (.ifCond .eq 5, 3) ∧ decode cX11_number 7 = .ok (.iconst 0, 1) ∧ decode cX11_number 8 = .ok (.ireturn, 1) ∧ decode cX11_number 9 = .ok (.aload_n 0, 1) ∧ decode cX11_number 10 = .ok (.invokevirtual 107, 3) ∧ decode cX11_number 13 = .ok (.aload_n 0, 1) ∧ decode cX11_number 14 = .ok (.getfield 94, 3) ∧ decode cX11_number 17 = .ok (.istore_n 3, 1) ∧ decode cX11_number 18 = .ok (.iconst 0, 1) ∧ decode cX11_number 19 = .ok (.istore 4, 2) ∧ decode cX11_number 21 = .ok (.aload_n 0, 1) ∧ decode cX11_number 22 = .ok (.aload_n 0, 1) ∧ decode cX11_number 23 = .ok (.getfield 94, 3) ∧ decode cX11_number 26 = .ok (.invokevirtual 97, 3) := by decide +kernel
def dX11_number_0 := bX11_number_0.1
def dX11_number_1 := bX11_number_0.2.1
def dX11_number_4 := bX11_number_0.2.2.1
def dX11_number_7 := bX11_number_0.2.2.2.1
def dX11_number_8 := bX11_number_0.2.2.2.2.1
def dX11_number_9 := bX11_number_0.2.2.2.2.2.1
def dX11_number_10 := bX11_number_0.2.2.2.2.2.2.1
def dX11_number_13 := bX11_number_0.2.2.2.2.2.2.2.1
def dX11_number_14 := bX11_number_0.2.2.2.2.2.2.2.2.1
def dX11_number_17 := bX11_number_0.2.2.2.2.2.2.2.2.2.1
def dX11_number_18 := bX11_number_0.2.2.2.2.2.2.2.2.2.2.1
def dX11_number_19 := bX11_number_0.2.2.2.2.2.2.2.2.2.2.2.1
def dX11_number_21 := bX11_number_0.2.2.2.2.2.2.2.2.2.2.2.2.1
def dX11_number_22 := bX11_number_0.2.2.2.2.2.2.2.2.2.2.2.2.2.1
def dX11_number_23 := bX11_number_0.2.2.2.2.2.2.2.2.2.2.2.2.2.2.1
def dX11_number_26 := bX11_number_0.2.2.2.2.2.2.2.2.2.2.2.2.2.2.2
theorem bX11_number_29 : decode cX11_number 29 = .ok (.invokestatic 110, 3) ∧ decode cX11_number 32 = .ok (.ifCond .ne 12, 3) ∧ decode cX11_number 35 = .ok (.aload_n 0, 1) ∧ decode cX11_number 36 = .ok (.iconst 1, 1) ∧ decode cX11_number 37 = .ok (.aload_n 0, 1) ∧ decode cX11_number 38 = .ok (.getfield 94, 3) ∧ decode cX11_number 41 = .ok (.invokevirtual 114, 3) ∧ decode cX11_number 44 = .ok (.aload_n 0, 1) ∧ decode cX11_number 45 = .ok (.aload_n 0, 1) ∧ decode cX11_number 46 = .ok (.getfield 94, 3) ∧ decode cX11_number 49 = .ok (.invokevirtual 97, 3) ∧ decode cX11_number 52 = .ok (.invokestatic 110, 3) ∧ decode cX11_number 55 = .ok (.ifCond .eq 51, 3) ∧ decode cX11_number 58 = .ok (.bipush 10, 2) ∧ decode cX11_number 60 = .ok (.iload 4, 2) ∧ decode cX11_number 62 = .ok (.imul, 1) := by decide +kernel
def dX11_number_29 := bX11_number_29.1
def dX11_number_32 := bX11_number_29.2.1
def dX11_number_35 := bX11_number_29.2.2.1
def dX11_number_36 := bX11_number_29.2.2.2.1
def dX11_number_37 := bX11_number_29.2.2.2.2.1
def dX11_number_38 := bX11_number_29.2.2.2.2.2.1
def dX11_number_41 := bX11_number_29.2.2.2.2.2.2.1
def dX11_number_44 := bX11_number_29.2.2.2.2.2.2.2.1
def dX11_number_45 := bX11_number_29.2.2.2.2.2.2.2.2.1
def dX11_number_46 := bX11_number_29.2.2.2.2.2.2.2.2.2.1
def dX11_number_49 := bX11_number_29.2.2.2.2.2.2.2.2.2.2.1
def dX11_number_52 := bX11_number_29.2.2.2.2.2.2.2.2.2.2.2.1
def dX11_number_55 := bX11_number_29.2.2.2.2.2.2.2.2.2.2.2.2.1
def dX11_number_58 := bX11_number_29.2.2.2.2.2.2.2.2.2.2.2.2.2.1
def dX11_number_60 := bX11_number_29.2.2.2.2.2.2.2.2.2.2.2.2.2.2.1
def dX11_number_62 := bX11_number_29.2.2.2.2.2.2.2.2.2.2.2.2.2.2.2
theorem bX11_number_63 : decode cX11_number 63 = .ok (.aload_n 0, 1) ∧ decode cX11_number 64 = .ok (.aload_n 0, 1) ∧ decode cX11_number 65 = .ok (.getfield 94, 3) ∧ decode cX11_number 68 = .ok (.invokevirtual 97, 3) ∧ decode cX11_number 71 = .ok (.iadd, 1) ∧ decode cX11_number 72 = .ok (.bipush 48, 2) ∧ decode cX11_number 74 = .ok (.isub, 1) ∧ decode cX11_number 75 = .ok (.istore 4, 2) ∧ decode cX11_number 77 = .ok (.iload 4, 2) ∧ decode cX11_number 79 = .ok (.ldc 118, 2) ∧ decode cX11_number 81 = .ok (.if_icmp .le 8, 3) ∧ decode cX11_number 84 = .ok (.ldc 118, 2) ∧ decode cX11_number 86 = .ok (.goto 5, 3) ∧ decode cX11_number 89 = .ok (.iload 4, 2) ∧ decode cX11_number 91 = .ok (.istore 4, 2) ∧ decode cX11_number 93 = .ok (.aload_n 0, 1) := by decide +kernel
def dX11_number_63 := bX11_number_63.1
def dX11_number_64 := bX11_number_63.2.1
def dX11_number_65 := bX11_number_63.2.2.1
def dX11_number_68 := bX11_number_63.2.2.2.1
def dX11_number_71 := bX11_number_63.2.2.2.2.1
def dX11_number_72 := bX11_number_63.2.2.2.2.2.1
def dX11_number_74 := bX11_number_63.2.2.2.2.2.2.1
def dX11_number_75 := bX11_number_63.2.2.2.2.2.2.2.1
def dX11_number_77 := bX11_number_63.2.2.2.2.2.2.2.2.1
def dX11_number_79 := bX11_number_63.2.2.2.2.2.2.2.2.2.1
def dX11_number_81 := bX11_number_63.2.2.2.2.2.2.2.2.2.2.1
def dX11_number_84 := bX11_number_63.2.2.2.2.2.2.2.2.2.2.2.1
def dX11_number_86 := bX11_number_63.2.2.2.2.2.2.2.2.2.2.2.2.1
def dX11_number_89 := bX11_number_63.2.2.2.2.2.2.2.2.2.2.2.2.2.1
def dX11_number_91 := bX11_number_63.2.2.2.2.2.2.2.2.2.2.2.2.2.2.1
def dX11_number_93 := bX11_number_63.2.2.2.2.2.2.2.2.2.2.2.2.2.2.2
theorem bX11_number_94 : decode cX11_number 94 = .ok (.dup, 1) ∧ decode cX11_number 95 = .ok (.getfield 94, 3) ∧ decode cX11_number 98 = .ok (.iconst 1, 1) ∧ decode cX11_number 99 = .ok (.iadd, 1) ∧ decode cX11_number 100 = .ok (.putfield 94, 3) ∧ decode cX11_number 103 = .ok (.goto (-59), 3) ∧ decode cX11_number 106 = .ok (.iload 4, 2) ∧ decode cX11_number 108 = .ok (.iload_n 1, 1) ∧ decode cX11_number 109 = .ok (.iload_n 2, 1) ∧ decode cX11_number 110 = .ok (.invokestatic 119, 3) ∧ decode cX11_number 113 = .ok (.ifCond .ne 9, 3) ∧ decode cX11_number 116 = .ok (.aload_n 0, 1) ∧ decode cX11_number 117 = .ok (.iconst 2, 1) ∧ decode cX11_number 118 = .ok (.iload_n 3, 1) ∧ decode cX11_number 119 = .ok (.invokevirtual 114, 3) ∧ decode cX11_number 122 = .ok (.aload_n 0, 1) := by decide +kernel
def dX11_number_94 := bX11_number_94.1
def dX11_number_95 := bX11_number_94.2.1
def dX11_number_98 := bX11_number_94.2.2.1
def dX11_number_99 := bX11_number_94.2.2.2.1
def dX11_number_100 := bX11_number_94.2.2.2.2.1
def dX11_number_103 := bX11_number_94.2.2.2.2.2.1
def dX11_number_106 := bX11_number_94.2.2.2.2.2.2.1
def dX11_number_108 := bX11_number_94.2.2.2.2.2.2.2.1
def dX11_number_109 := bX11_number_94.2.2.2.2.2.2.2.2.1
def dX11_number_110 := bX11_number_94.2.2.2.2.2.2.2.2.2.1
def dX11_number_113 := bX11_number_94.2.2.2.2.2.2.2.2.2.2.1
def dX11_number_116 := bX11_number_94.2.2.2.2.2.2.2.2.2.2.2.1
def dX11_number_117 := bX11_number_94.2.2.2.2.2.2.2.2.2.2.2.2.1
def dX11_number_118 := bX11_number_94.2.2.2.2.2.2.2.2.2.2.2.2.2.1
def dX11_number_119 := bX11_number_94.2.2.2.2.2.2.2.2.2.2.2.2.2.2.1
def dX11_number_122 := bX11_number_94.2.2.2.2.2.2.2.2.2.2.2.2.2.2.2
theorem bX11_number_123 : decode cX11_number 123 = .ok (.getfield 101, 3) ∧ decode cX11_number 126 = .ok (.ifCond .ne 8, 3) ∧ decode cX11_number 129 = .ok (.iload 4, 2) ∧ decode cX11_number 131 = .ok (.goto 4, 3) ∧ decode cX11_number 134 = .ok (.iconst 0, 1) ∧ decode cX11_number 135 = .ok (.ireturn, 1) := by decide +kernel
def dX11_number_123 := bX11_number_123.1
def dX11_number_126 := bX11_number_123.2.1
def dX11_number_129 := bX11_number_123.2.2.1
def dX11_number_131 := bX11_number_123.2.2.2.1
def dX11_number_134 := bX11_number_123.2.2.2.2.1
def dX11_number_135 := bX11_number_123.2.2.2.2.2
theorem ggX11_wordHere_X11_blanks : GoodIn wsX11_wordHere wsX11_blanks := gW_in gwX11_blanks (fun _ h => List.mem_cons_of_mem _ (List.mem_append_right _ (List.mem_append_right _ (List.mem_append_left _ h))))
set_option maxRecDepth 20000 in
theorem gX11_wordHere_X11_blanks : GoodIn wsX11_wordHere (wsV RX11 107 RX11 yX11_blanks wsX11_blanks) := goodIn_app (goodIn_of _ (by decide +kernel)) ggX11_wordHere_X11_blanks
theorem ggX11_wordHere_X11_byteAt : GoodIn wsX11_wordHere wsX11_byteAt := gW_in gwX11_byteAt (fun _ h => List.mem_cons_of_mem _ (List.mem_append_right _ (List.mem_append_right _ (List.mem_append_right _ (h)))))
set_option maxRecDepth 20000 in
theorem gX11_wordHere_X11_byteAt : GoodIn wsX11_wordHere (wsV RX11 97 RX11 yX11_byteAt wsX11_byteAt) := goodIn_app (goodIn_of _ (by decide +kernel)) ggX11_wordHere_X11_byteAt
theorem bX11_wordHere_0 : decode cX11_wordHere 0 = .ok (.aload_n 0, 1) ∧ decode cX11_wordHere 1 = .ok (.invokevirtual 107, 3) ∧ decode cX11_wordHere 4 = .ok (.iconst 0, 1) ∧ decode cX11_wordHere 5 = .ok (.istore_n 1, 1) ∧ decode cX11_wordHere 6 = .ok (.iconst 0, 1) ∧ decode cX11_wordHere 7 = .ok (.istore_n 2, 1) ∧ decode cX11_wordHere 8 = .ok (.aload_n 0, 1) ∧ decode cX11_wordHere 9 = .ok (.aload_n 0, 1) ∧ decode cX11_wordHere 10 = .ok (.getfield 94, 3) ∧ decode cX11_wordHere 13 = .ok (.iload_n 2, 1) ∧ decode cX11_wordHere 14 = .ok (.iadd, 1) ∧ decode cX11_wordHere 15 = .ok (.invokevirtual 97, 3) ∧ decode cX11_wordHere 18 = .ok (.bipush 97, 2) ∧ decode cX11_wordHere 20 = .ok (.if_icmp .lt 55, 3) ∧ decode cX11_wordHere 23 = .ok (.aload_n 0, 1) ∧ decode cX11_wordHere 24 = .ok (.aload_n 0, 1) := by decide +kernel
def dX11_wordHere_0 := bX11_wordHere_0.1
def dX11_wordHere_1 := bX11_wordHere_0.2.1
def dX11_wordHere_4 := bX11_wordHere_0.2.2.1
def dX11_wordHere_5 := bX11_wordHere_0.2.2.2.1
def dX11_wordHere_6 := bX11_wordHere_0.2.2.2.2.1
def dX11_wordHere_7 := bX11_wordHere_0.2.2.2.2.2.1
def dX11_wordHere_8 := bX11_wordHere_0.2.2.2.2.2.2.1
def dX11_wordHere_9 := bX11_wordHere_0.2.2.2.2.2.2.2.1
def dX11_wordHere_10 := bX11_wordHere_0.2.2.2.2.2.2.2.2.1
def dX11_wordHere_13 := bX11_wordHere_0.2.2.2.2.2.2.2.2.2.1
def dX11_wordHere_14 := bX11_wordHere_0.2.2.2.2.2.2.2.2.2.2.1
def dX11_wordHere_15 := bX11_wordHere_0.2.2.2.2.2.2.2.2.2.2.2.1
def dX11_wordHere_18 := bX11_wordHere_0.2.2.2.2.2.2.2.2.2.2.2.2.1
def dX11_wordHere_20 := bX11_wordHere_0.2.2.2.2.2.2.2.2.2.2.2.2.2.1
def dX11_wordHere_23 := bX11_wordHere_0.2.2.2.2.2.2.2.2.2.2.2.2.2.2.1
def dX11_wordHere_24 := bX11_wordHere_0.2.2.2.2.2.2.2.2.2.2.2.2.2.2.2
theorem bX11_wordHere_25 : decode cX11_wordHere 25 = .ok (.getfield 94, 3) ∧ decode cX11_wordHere 28 = .ok (.iload_n 2, 1) ∧ decode cX11_wordHere 29 = .ok (.iadd, 1) ∧ decode cX11_wordHere 30 = .ok (.invokevirtual 97, 3) ∧ decode cX11_wordHere 33 = .ok (.bipush 122, 2) ∧ decode cX11_wordHere 35 = .ok (.if_icmp .gt 40, 3) ∧ decode cX11_wordHere 38 = .ok (.iload_n 2, 1) ∧ decode cX11_wordHere 39 = .ok (.bipush 6, 2) ∧ decode cX11_wordHere 41 = .ok (.if_icmp .ge 26, 3) ∧ decode cX11_wordHere 44 = .ok (.bipush 27, 2) ∧ decode cX11_wordHere 46 = .ok (.iload_n 1, 1) ∧ decode cX11_wordHere 47 = .ok (.imul, 1) ∧ decode cX11_wordHere 48 = .ok (.aload_n 0, 1) ∧ decode cX11_wordHere 49 = .ok (.aload_n 0, 1) ∧ decode cX11_wordHere 50 = .ok (.getfield 94, 3) ∧ decode cX11_wordHere 53 = .ok (.iload_n 2, 1) := by decide +kernel
def dX11_wordHere_25 := bX11_wordHere_25.1
def dX11_wordHere_28 := bX11_wordHere_25.2.1
def dX11_wordHere_29 := bX11_wordHere_25.2.2.1
def dX11_wordHere_30 := bX11_wordHere_25.2.2.2.1
def dX11_wordHere_33 := bX11_wordHere_25.2.2.2.2.1
def dX11_wordHere_35 := bX11_wordHere_25.2.2.2.2.2.1
def dX11_wordHere_38 := bX11_wordHere_25.2.2.2.2.2.2.1
def dX11_wordHere_39 := bX11_wordHere_25.2.2.2.2.2.2.2.1
def dX11_wordHere_41 := bX11_wordHere_25.2.2.2.2.2.2.2.2.1
def dX11_wordHere_44 := bX11_wordHere_25.2.2.2.2.2.2.2.2.2.1
def dX11_wordHere_46 := bX11_wordHere_25.2.2.2.2.2.2.2.2.2.2.1
def dX11_wordHere_47 := bX11_wordHere_25.2.2.2.2.2.2.2.2.2.2.2.1
def dX11_wordHere_48 := bX11_wordHere_25.2.2.2.2.2.2.2.2.2.2.2.2.1
def dX11_wordHere_49 := bX11_wordHere_25.2.2.2.2.2.2.2.2.2.2.2.2.2.1
def dX11_wordHere_50 := bX11_wordHere_25.2.2.2.2.2.2.2.2.2.2.2.2.2.2.1
def dX11_wordHere_53 := bX11_wordHere_25.2.2.2.2.2.2.2.2.2.2.2.2.2.2.2
theorem bX11_wordHere_54 : decode cX11_wordHere 54 = .ok (.iadd, 1) ∧ decode cX11_wordHere 55 = .ok (.invokevirtual 97, 3) ∧ decode cX11_wordHere 58 = .ok (.iadd, 1) ∧ decode cX11_wordHere 59 = .ok (.bipush 97, 2) ∧ decode cX11_wordHere 61 = .ok (.isub, 1) ∧ decode cX11_wordHere 62 = .ok (.iconst 1, 1) ∧ decode cX11_wordHere 63 = .ok (.iadd, 1) ∧ decode cX11_wordHere 64 = .ok (.goto 4, 3) ∧ decode cX11_wordHere 67 = .ok (.iload_n 1, 1) ∧ decode cX11_wordHere 68 = .ok (.istore_n 1, 1) ∧ decode cX11_wordHere 69 = .ok (.iinc 2 1, 3) ∧ decode cX11_wordHere 72 = .ok (.goto (-64), 3) ∧ decode cX11_wordHere 75 = .ok (.iload_n 2, 1) ∧ decode cX11_wordHere 76 = .ok (.bipush 6, 2) ∧ decode cX11_wordHere 78 = .ok (.if_icmp .le 7, 3) ∧ decode cX11_wordHere 81 = .ok (.iconst (-1), 1) := by decide +kernel
def dX11_wordHere_54 := bX11_wordHere_54.1
def dX11_wordHere_55 := bX11_wordHere_54.2.1
def dX11_wordHere_58 := bX11_wordHere_54.2.2.1
def dX11_wordHere_59 := bX11_wordHere_54.2.2.2.1
def dX11_wordHere_61 := bX11_wordHere_54.2.2.2.2.1
def dX11_wordHere_62 := bX11_wordHere_54.2.2.2.2.2.1
def dX11_wordHere_63 := bX11_wordHere_54.2.2.2.2.2.2.1
def dX11_wordHere_64 := bX11_wordHere_54.2.2.2.2.2.2.2.1
def dX11_wordHere_67 := bX11_wordHere_54.2.2.2.2.2.2.2.2.1
def dX11_wordHere_68 := bX11_wordHere_54.2.2.2.2.2.2.2.2.2.1
def dX11_wordHere_69 := bX11_wordHere_54.2.2.2.2.2.2.2.2.2.2.1
def dX11_wordHere_72 := bX11_wordHere_54.2.2.2.2.2.2.2.2.2.2.2.1
def dX11_wordHere_75 := bX11_wordHere_54.2.2.2.2.2.2.2.2.2.2.2.2.1
def dX11_wordHere_76 := bX11_wordHere_54.2.2.2.2.2.2.2.2.2.2.2.2.2.1
def dX11_wordHere_78 := bX11_wordHere_54.2.2.2.2.2.2.2.2.2.2.2.2.2.2.1
def dX11_wordHere_81 := bX11_wordHere_54.2.2.2.2.2.2.2.2.2.2.2.2.2.2.2
theorem bX11_wordHere_82 : decode cX11_wordHere 82 = .ok (.goto 4, 3) ∧ decode cX11_wordHere 85 = .ok (.iload_n 1, 1) ∧ decode cX11_wordHere 86 = .ok (.ireturn, 1) := by decide +kernel
def dX11_wordHere_82 := bX11_wordHere_82.1
def dX11_wordHere_85 := bX11_wordHere_82.2.1
def dX11_wordHere_86 := bX11_wordHere_82.2.2
theorem bX11_six_0 : decode cX11_six 0 = .ok (.bipush 27, 2) ∧ decode cX11_six 2 = .ok (.bipush 27, 2) ∧ decode cX11_six 4 = .ok (.bipush 27, 2) ∧ decode cX11_six 6 = .ok (.iload_n 0, 1) ∧ decode cX11_six 7 = .ok (.imul, 1) ∧ decode cX11_six 8 = .ok (.iload_n 1, 1) ∧ decode cX11_six 9 = .ok (.iadd, 1) ∧ decode cX11_six 10 = .ok (.imul, 1) ∧ decode cX11_six 11 = .ok (.iload_n 2, 1) ∧ decode cX11_six 12 = .ok (.iadd, 1) ∧ decode cX11_six 13 = .ok (.imul, 1) ∧ decode cX11_six 14 = .ok (.istore 6, 2) ∧ decode cX11_six 16 = .ok (.iload_n 3, 1) ∧ decode cX11_six 17 = .ok (.ifCond .ne 11, 3) ∧ decode cX11_six 20 = .ok (.iload 6, 2) ∧ decode cX11_six 22 = .ok (.bipush 27, 2) := by decide +kernel
def dX11_six_0 := bX11_six_0.1
def dX11_six_2 := bX11_six_0.2.1
def dX11_six_4 := bX11_six_0.2.2.1
def dX11_six_6 := bX11_six_0.2.2.2.1
def dX11_six_7 := bX11_six_0.2.2.2.2.1
def dX11_six_8 := bX11_six_0.2.2.2.2.2.1
def dX11_six_9 := bX11_six_0.2.2.2.2.2.2.1
def dX11_six_10 := bX11_six_0.2.2.2.2.2.2.2.1
def dX11_six_11 := bX11_six_0.2.2.2.2.2.2.2.2.1
def dX11_six_12 := bX11_six_0.2.2.2.2.2.2.2.2.2.1
def dX11_six_13 := bX11_six_0.2.2.2.2.2.2.2.2.2.2.1
def dX11_six_14 := bX11_six_0.2.2.2.2.2.2.2.2.2.2.2.1
def dX11_six_16 := bX11_six_0.2.2.2.2.2.2.2.2.2.2.2.2.1
def dX11_six_17 := bX11_six_0.2.2.2.2.2.2.2.2.2.2.2.2.2.1
def dX11_six_20 := bX11_six_0.2.2.2.2.2.2.2.2.2.2.2.2.2.2.1
def dX11_six_22 := bX11_six_0.2.2.2.2.2.2.2.2.2.2.2.2.2.2.2
theorem bX11_six_24 : decode cX11_six 24 = .ok (.idiv, 1) ∧ decode cX11_six 25 = .ok (.goto 7, 3) ∧ decode cX11_six 28 = .ok (.iload 6, 2) ∧ decode cX11_six 30 = .ok (.iload_n 3, 1) ∧ decode cX11_six 31 = .ok (.iadd, 1) ∧ decode cX11_six 32 = .ok (.istore 6, 2) ∧ decode cX11_six 34 = .ok (.iload 4, 2) ∧ decode cX11_six 36 = .ok (.ifCond .ne 8, 3) ∧ decode cX11_six 39 = .ok (.iload 6, 2) ∧ decode cX11_six 41 = .ok (.goto 11, 3) ∧ decode cX11_six 44 = .ok (.bipush 27, 2) ∧ decode cX11_six 46 = .ok (.iload 6, 2) ∧ decode cX11_six 48 = .ok (.imul, 1) ∧ decode cX11_six 49 = .ok (.iload 4, 2) ∧ decode cX11_six 51 = .ok (.iadd, 1) ∧ decode cX11_six 52 = .ok (.istore 6, 2) := by decide +kernel
def dX11_six_24 := bX11_six_24.1
def dX11_six_25 := bX11_six_24.2.1
def dX11_six_28 := bX11_six_24.2.2.1
def dX11_six_30 := bX11_six_24.2.2.2.1
def dX11_six_31 := bX11_six_24.2.2.2.2.1
def dX11_six_32 := bX11_six_24.2.2.2.2.2.1
def dX11_six_34 := bX11_six_24.2.2.2.2.2.2.1
def dX11_six_36 := bX11_six_24.2.2.2.2.2.2.2.1
def dX11_six_39 := bX11_six_24.2.2.2.2.2.2.2.2.1
def dX11_six_41 := bX11_six_24.2.2.2.2.2.2.2.2.2.1
def dX11_six_44 := bX11_six_24.2.2.2.2.2.2.2.2.2.2.1
def dX11_six_46 := bX11_six_24.2.2.2.2.2.2.2.2.2.2.2.1
def dX11_six_48 := bX11_six_24.2.2.2.2.2.2.2.2.2.2.2.2.1
def dX11_six_49 := bX11_six_24.2.2.2.2.2.2.2.2.2.2.2.2.2.1
def dX11_six_51 := bX11_six_24.2.2.2.2.2.2.2.2.2.2.2.2.2.2.1
def dX11_six_52 := bX11_six_24.2.2.2.2.2.2.2.2.2.2.2.2.2.2.2
theorem bX11_six_54 : decode cX11_six 54 = .ok (.iload 5, 2) ∧ decode cX11_six 56 = .ok (.ifCond .ne 8, 3) ∧ decode cX11_six 59 = .ok (.iload 6, 2) ∧ decode cX11_six 61 = .ok (.goto 11, 3) ∧ decode cX11_six 64 = .ok (.bipush 27, 2) ∧ decode cX11_six 66 = .ok (.iload 6, 2) ∧ decode cX11_six 68 = .ok (.imul, 1) ∧ decode cX11_six 69 = .ok (.iload 5, 2) ∧ decode cX11_six 71 = .ok (.iadd, 1) ∧ decode cX11_six 72 = .ok (.ireturn, 1) := by decide +kernel
def dX11_six_54 := bX11_six_54.1
def dX11_six_56 := bX11_six_54.2.1
def dX11_six_59 := bX11_six_54.2.2.1
def dX11_six_61 := bX11_six_54.2.2.2.1
def dX11_six_64 := bX11_six_54.2.2.2.2.1
def dX11_six_66 := bX11_six_54.2.2.2.2.2.1
def dX11_six_68 := bX11_six_54.2.2.2.2.2.2.1
def dX11_six_69 := bX11_six_54.2.2.2.2.2.2.2.1
def dX11_six_71 := bX11_six_54.2.2.2.2.2.2.2.2.1
def dX11_six_72 := bX11_six_54.2.2.2.2.2.2.2.2.2
theorem ggX11_isWord_X11_wordHere : GoodIn wsX11_isWord wsX11_wordHere := gW_in gwX11_wordHere (fun _ h => List.mem_cons_of_mem _ (List.mem_append_right _ (List.mem_append_right _ (List.mem_append_left _ h))))
set_option maxRecDepth 20000 in
theorem gX11_isWord_X11_wordHere : GoodIn wsX11_isWord (wsV RX11 123 RX11 yX11_wordHere wsX11_wordHere) := goodIn_app (goodIn_of _ (by decide +kernel)) ggX11_isWord_X11_wordHere
theorem ggX11_isWord_X11_six : GoodIn wsX11_isWord wsX11_six := gW_in gwX11_six (fun _ h => List.mem_cons_of_mem _ (List.mem_append_right _ (List.mem_append_right _ (List.mem_append_right _ (h)))))
set_option maxRecDepth 20000 in
theorem gX11_isWord_X11_six : GoodIn wsX11_isWord (va_wsS RX11 127 yX11_six wsX11_six) := goodIn_app (goodIn_of _ (by decide +kernel)) ggX11_isWord_X11_six
theorem bX11_isWord_0 : decode cX11_isWord 0 = .ok (.aload_n 0, 1) ∧ decode cX11_isWord 1 = .ok (.getfield 101, 3) ∧ decode cX11_isWord 4 = .ok (.ifCond .ne 26, 3) ∧ decode cX11_isWord 7 = .ok (.aload_n 0, 1) ∧ decode cX11_isWord 8 = .ok (.invokevirtual 123, 3) ∧ decode cX11_isWord 11 = .ok (.iload_n 1, 1) ∧ decode cX11_isWord 12 = .ok (.iload_n 2, 1) ∧ decode cX11_isWord 13 = .ok (.iload_n 3, 1) ∧ decode cX11_isWord 14 = .ok (.iload 4, 2) ∧ decode cX11_isWord 16 = .ok (.iload 5, 2) ∧ decode cX11_isWord 18 = .ok (.iload 6, 2) ∧ decode cX11_isWord 20 = .ok (.invokestatic 127, 3) ∧ decode cX11_isWord 23 = .ok (.if_icmp .ne 7, 3) ∧ decode cX11_isWord 26 = .ok (.iconst 1, 1) ∧ decode cX11_isWord 27 = .ok (.goto 4, 3) ∧ decode cX11_isWord 30 = .ok (.iconst 0, 1) := by decide +kernel
def dX11_isWord_0 := bX11_isWord_0.1
def dX11_isWord_1 := bX11_isWord_0.2.1
def dX11_isWord_4 := bX11_isWord_0.2.2.1
def dX11_isWord_7 := bX11_isWord_0.2.2.2.1
def dX11_isWord_8 := bX11_isWord_0.2.2.2.2.1
def dX11_isWord_11 := bX11_isWord_0.2.2.2.2.2.1
def dX11_isWord_12 := bX11_isWord_0.2.2.2.2.2.2.1
def dX11_isWord_13 := bX11_isWord_0.2.2.2.2.2.2.2.1
def dX11_isWord_14 := bX11_isWord_0.2.2.2.2.2.2.2.2.1
def dX11_isWord_16 := bX11_isWord_0.2.2.2.2.2.2.2.2.2.1
def dX11_isWord_18 := bX11_isWord_0.2.2.2.2.2.2.2.2.2.2.1
def dX11_isWord_20 := bX11_isWord_0.2.2.2.2.2.2.2.2.2.2.2.1
def dX11_isWord_23 := bX11_isWord_0.2.2.2.2.2.2.2.2.2.2.2.2.1
def dX11_isWord_26 := bX11_isWord_0.2.2.2.2.2.2.2.2.2.2.2.2.2.1
def dX11_isWord_27 := bX11_isWord_0.2.2.2.2.2.2.2.2.2.2.2.2.2.2.1
def dX11_isWord_30 := bX11_isWord_0.2.2.2.2.2.2.2.2.2.2.2.2.2.2.2
theorem dX11_isWord_31 : decode cX11_isWord 31 = .ok (.ireturn, 1) := by decide +kernel
theorem ggX11_skipWord_X11_byteAt : GoodIn wsX11_skipWord wsX11_byteAt := gW_in gwX11_byteAt (fun _ h => List.mem_cons_of_mem _ (List.mem_append_right _ (List.mem_append_right _ (h))))
set_option maxRecDepth 20000 in
theorem gX11_skipWord_X11_byteAt : GoodIn wsX11_skipWord (wsV RX11 97 RX11 yX11_byteAt wsX11_byteAt) := goodIn_app (goodIn_of _ (by decide +kernel)) ggX11_skipWord_X11_byteAt
theorem bX11_skipWord_0 : decode cX11_skipWord 0 = .ok (.aload_n 0, 1) ∧ decode cX11_skipWord 1 = .ok (.aload_n 0, 1) ∧ decode cX11_skipWord 2 = .ok (.getfield 94, 3) ∧ decode cX11_skipWord 5 = .ok (.invokevirtual 97, 3) ∧ decode cX11_skipWord 8 = .ok (.bipush 97, 2) ∧ decode cX11_skipWord 10 = .ok (.if_icmp .lt 29, 3) ∧ decode cX11_skipWord 13 = .ok (.aload_n 0, 1) ∧ decode cX11_skipWord 14 = .ok (.aload_n 0, 1) ∧ decode cX11_skipWord 15 = .ok (.getfield 94, 3) ∧ decode cX11_skipWord 18 = .ok (.invokevirtual 97, 3) ∧ decode cX11_skipWord 21 = .ok (.bipush 122, 2) ∧ decode cX11_skipWord 23 = .ok (.if_icmp .gt 16, 3) ∧ decode cX11_skipWord 26 = .ok (.aload_n 0, 1) ∧ decode cX11_skipWord 27 = .ok (.dup, 1) ∧ decode cX11_skipWord 28 = .ok (.getfield 94, 3) ∧ decode cX11_skipWord 31 = .ok (.iconst 1, 1) := by decide +kernel
def dX11_skipWord_0 := bX11_skipWord_0.1
def dX11_skipWord_1 := bX11_skipWord_0.2.1
def dX11_skipWord_2 := bX11_skipWord_0.2.2.1
def dX11_skipWord_5 := bX11_skipWord_0.2.2.2.1
def dX11_skipWord_8 := bX11_skipWord_0.2.2.2.2.1
def dX11_skipWord_10 := bX11_skipWord_0.2.2.2.2.2.1
def dX11_skipWord_13 := bX11_skipWord_0.2.2.2.2.2.2.1
def dX11_skipWord_14 := bX11_skipWord_0.2.2.2.2.2.2.2.1
def dX11_skipWord_15 := bX11_skipWord_0.2.2.2.2.2.2.2.2.1
def dX11_skipWord_18 := bX11_skipWord_0.2.2.2.2.2.2.2.2.2.1
def dX11_skipWord_21 := bX11_skipWord_0.2.2.2.2.2.2.2.2.2.2.1
def dX11_skipWord_23 := bX11_skipWord_0.2.2.2.2.2.2.2.2.2.2.2.1
def dX11_skipWord_26 := bX11_skipWord_0.2.2.2.2.2.2.2.2.2.2.2.2.1
def dX11_skipWord_27 := bX11_skipWord_0.2.2.2.2.2.2.2.2.2.2.2.2.2.1
def dX11_skipWord_28 := bX11_skipWord_0.2.2.2.2.2.2.2.2.2.2.2.2.2.2.1
def dX11_skipWord_31 := bX11_skipWord_0.2.2.2.2.2.2.2.2.2.2.2.2.2.2.2
theorem bX11_skipWord_32 : decode cX11_skipWord 32 = .ok (.iadd, 1) ∧ decode cX11_skipWord 33 = .ok (.putfield 94, 3) ∧ decode cX11_skipWord 36 = .ok (.goto (-36), 3) ∧ decode cX11_skipWord 39 = .ok (.return_, 1) := by decide +kernel
def dX11_skipWord_32 := bX11_skipWord_32.1
def dX11_skipWord_33 := bX11_skipWord_32.2.1
def dX11_skipWord_36 := bX11_skipWord_32.2.2.1
def dX11_skipWord_39 := bX11_skipWord_32.2.2.2
theorem ggX11_closes_X11_blanks : GoodIn wsX11_closes wsX11_blanks := gW_in gwX11_blanks (fun _ h => List.mem_cons_of_mem _ (List.mem_append_right _ (List.mem_append_right _ (List.mem_append_left _ h))))
set_option maxRecDepth 20000 in
theorem gX11_closes_X11_blanks : GoodIn wsX11_closes (wsV RX11 107 RX11 yX11_blanks wsX11_blanks) := goodIn_app (goodIn_of _ (by decide +kernel)) ggX11_closes_X11_blanks
theorem ggX11_closes_X11_byteAt : GoodIn wsX11_closes wsX11_byteAt := gW_in gwX11_byteAt (fun _ h => List.mem_cons_of_mem _ (List.mem_append_right _ (List.mem_append_right _ (List.mem_append_right _ (List.mem_append_left _ h)))))
set_option maxRecDepth 20000 in
theorem gX11_closes_X11_byteAt : GoodIn wsX11_closes (wsV RX11 97 RX11 yX11_byteAt wsX11_byteAt) := goodIn_app (goodIn_of _ (by decide +kernel)) ggX11_closes_X11_byteAt
theorem ggX11_closes_X11_wrong : GoodIn wsX11_closes wsX11_wrong := gW_in gwX11_wrong (fun _ h => List.mem_cons_of_mem _ (List.mem_append_right _ (List.mem_append_right _ (List.mem_append_right _ (List.mem_append_right _ (h))))))
set_option maxRecDepth 20000 in
theorem gX11_closes_X11_wrong : GoodIn wsX11_closes (wsV RX11 114 RX11 yX11_wrong wsX11_wrong) := goodIn_app (goodIn_of _ (by decide +kernel)) ggX11_closes_X11_wrong
theorem bX11_closes_0 : decode cX11_closes 0 = .ok (.aload_n 0, 1) ∧ decode cX11_closes 1 = .ok (.getfield 101, 3) ∧ decode cX11_closes 4 = .ok (.ifCond .eq 4, 3) ∧ decode cX11_closes 7 = .ok (.return_, 1) ∧ decode cX11_closes 8 = .ok (.aload_n 0, 1) ∧ decode cX11_closes 9 = .ok (.invokevirtual 107, 3) ∧ decode cX11_closes 12 = .ok (.aload_n 0, 1) ∧ decode cX11_closes 13 = .ok (.aload_n 0, 1) ∧ decode cX11_closes 14 = .ok (.getfield 94, 3) ∧ decode cX11_closes 17 = .ok (.invokevirtual 97, 3) ∧ decode cX11_closes 20 = .ok (.bipush 59, 2) ∧ decode cX11_closes 22 = .ok (.if_icmp .ne 16, 3) ∧ decode cX11_closes 25 = .ok (.aload_n 0, 1) ∧ decode cX11_closes 26 = .ok (.dup, 1) ∧ decode cX11_closes 27 = .ok (.getfield 94, 3) ∧ decode cX11_closes 30 = .ok (.iconst 1, 1) := by decide +kernel
def dX11_closes_0 := bX11_closes_0.1
def dX11_closes_1 := bX11_closes_0.2.1
def dX11_closes_4 := bX11_closes_0.2.2.1
def dX11_closes_7 := bX11_closes_0.2.2.2.1
def dX11_closes_8 := bX11_closes_0.2.2.2.2.1
def dX11_closes_9 := bX11_closes_0.2.2.2.2.2.1
def dX11_closes_12 := bX11_closes_0.2.2.2.2.2.2.1
def dX11_closes_13 := bX11_closes_0.2.2.2.2.2.2.2.1
def dX11_closes_14 := bX11_closes_0.2.2.2.2.2.2.2.2.1
def dX11_closes_17 := bX11_closes_0.2.2.2.2.2.2.2.2.2.1
def dX11_closes_20 := bX11_closes_0.2.2.2.2.2.2.2.2.2.2.1
def dX11_closes_22 := bX11_closes_0.2.2.2.2.2.2.2.2.2.2.2.1
def dX11_closes_25 := bX11_closes_0.2.2.2.2.2.2.2.2.2.2.2.2.1
def dX11_closes_26 := bX11_closes_0.2.2.2.2.2.2.2.2.2.2.2.2.2.1
def dX11_closes_27 := bX11_closes_0.2.2.2.2.2.2.2.2.2.2.2.2.2.2.1
def dX11_closes_30 := bX11_closes_0.2.2.2.2.2.2.2.2.2.2.2.2.2.2.2
theorem bX11_closes_31 : decode cX11_closes 31 = .ok (.iadd, 1) ∧ decode cX11_closes 32 = .ok (.putfield 94, 3) ∧ decode cX11_closes 35 = .ok (.goto 12, 3) ∧ decode cX11_closes 38 = .ok (.aload_n 0, 1) ∧ decode cX11_closes 39 = .ok (.iconst 1, 1) ∧ decode cX11_closes 40 = .ok (.aload_n 0, 1) ∧ decode cX11_closes 41 = .ok (.getfield 94, 3) ∧ decode cX11_closes 44 = .ok (.invokevirtual 114, 3) ∧ decode cX11_closes 47 = .ok (.return_, 1) := by decide +kernel
def dX11_closes_31 := bX11_closes_31.1
def dX11_closes_32 := bX11_closes_31.2.1
def dX11_closes_35 := bX11_closes_31.2.2.1
def dX11_closes_38 := bX11_closes_31.2.2.2.1
def dX11_closes_39 := bX11_closes_31.2.2.2.2.1
def dX11_closes_40 := bX11_closes_31.2.2.2.2.2.1
def dX11_closes_41 := bX11_closes_31.2.2.2.2.2.2.1
def dX11_closes_44 := bX11_closes_31.2.2.2.2.2.2.2.1
def dX11_closes_47 := bX11_closes_31.2.2.2.2.2.2.2.2
theorem ggX11_starts_X11_blanks : GoodIn wsX11_starts wsX11_blanks := gW_in gwX11_blanks (fun _ h => List.mem_cons_of_mem _ (List.mem_append_right _ (List.mem_append_right _ (h))))
set_option maxRecDepth 20000 in
theorem gX11_starts_X11_blanks : GoodIn wsX11_starts (wsV RX11 107 RX11 yX11_blanks wsX11_blanks) := goodIn_app (goodIn_of _ (by decide +kernel)) ggX11_starts_X11_blanks
theorem bX11_starts_0 : decode cX11_starts 0 = .ok (.aload_n 0, 1) ∧ decode cX11_starts 1 = .ok (.iconst 0, 1) ∧ decode cX11_starts 2 = .ok (.putfield 88, 3) ∧ decode cX11_starts 5 = .ok (.aload_n 0, 1) ∧ decode cX11_starts 6 = .ok (.iload_n 1, 1) ∧ decode cX11_starts 7 = .ok (.putfield 91, 3) ∧ decode cX11_starts 10 = .ok (.aload_n 0, 1) ∧ decode cX11_starts 11 = .ok (.iconst 0, 1) ∧ decode cX11_starts 12 = .ok (.putfield 94, 3) ∧ decode cX11_starts 15 = .ok (.aload_n 0, 1) ∧ decode cX11_starts 16 = .ok (.iconst 0, 1) ∧ decode cX11_starts 17 = .ok (.putfield 101, 3) ∧ decode cX11_starts 20 = .ok (.aload_n 0, 1) ∧ decode cX11_starts 21 = .ok (.iconst (-1), 1) ∧ decode cX11_starts 22 = .ok (.putfield 104, 3) ∧ decode cX11_starts 25 = .ok (.aload_n 0, 1) := by decide +kernel
def dX11_starts_0 := bX11_starts_0.1
def dX11_starts_1 := bX11_starts_0.2.1
def dX11_starts_2 := bX11_starts_0.2.2.1
def dX11_starts_5 := bX11_starts_0.2.2.2.1
def dX11_starts_6 := bX11_starts_0.2.2.2.2.1
def dX11_starts_7 := bX11_starts_0.2.2.2.2.2.1
def dX11_starts_10 := bX11_starts_0.2.2.2.2.2.2.1
def dX11_starts_11 := bX11_starts_0.2.2.2.2.2.2.2.1
def dX11_starts_12 := bX11_starts_0.2.2.2.2.2.2.2.2.1
def dX11_starts_15 := bX11_starts_0.2.2.2.2.2.2.2.2.2.1
def dX11_starts_16 := bX11_starts_0.2.2.2.2.2.2.2.2.2.2.1
def dX11_starts_17 := bX11_starts_0.2.2.2.2.2.2.2.2.2.2.2.1
def dX11_starts_20 := bX11_starts_0.2.2.2.2.2.2.2.2.2.2.2.2.1
def dX11_starts_21 := bX11_starts_0.2.2.2.2.2.2.2.2.2.2.2.2.2.1
def dX11_starts_22 := bX11_starts_0.2.2.2.2.2.2.2.2.2.2.2.2.2.2.1
def dX11_starts_25 := bX11_starts_0.2.2.2.2.2.2.2.2.2.2.2.2.2.2.2
theorem bX11_starts_26 : decode cX11_starts 26 = .ok (.iconst 0, 1) ∧ decode cX11_starts 27 = .ok (.putfield 131, 3) ∧ decode cX11_starts 30 = .ok (.aload_n 0, 1) ∧ decode cX11_starts 31 = .ok (.invokevirtual 107, 3) ∧ decode cX11_starts 34 = .ok (.return_, 1) := by decide +kernel
def dX11_starts_26 := bX11_starts_26.1
def dX11_starts_27 := bX11_starts_26.2.1
def dX11_starts_30 := bX11_starts_26.2.2.1
def dX11_starts_31 := bX11_starts_26.2.2.2.1
def dX11_starts_34 := bX11_starts_26.2.2.2.2
theorem ggX11_kindHere_X11_isWord : GoodIn wsX11_kindHere wsX11_isWord := gW_in gwX11_isWord (fun _ h => List.mem_cons_of_mem _ (List.mem_append_right _ (List.mem_append_right _ (h))))
set_option maxRecDepth 20000 in
theorem gX11_kindHere_X11_isWord : GoodIn wsX11_kindHere (wsV RX11 134 RX11 yX11_isWord wsX11_isWord) := goodIn_app (goodIn_of _ (by decide +kernel)) ggX11_kindHere_X11_isWord
theorem bX11_kindHere_0 : decode cX11_kindHere 0 = .ok (.aload_n 0, 1) ∧ decode cX11_kindHere 1 = .ok (.bipush 23, 2) ∧ decode cX11_kindHere 3 = .ok (.iconst 1, 1) ∧ decode cX11_kindHere 4 = .ok (.bipush 12, 2) ∧ decode cX11_kindHere 6 = .ok (.bipush 12, 2) ∧ decode cX11_kindHere 8 = .ok (.iconst 0, 1) ∧ decode cX11_kindHere 9 = .ok (.iconst 0, 1) ∧ decode cX11_kindHere 10 = .ok (.invokevirtual 134, 3) ∧ decode cX11_kindHere 13 = .ok (.ifCond .eq 5, 3) ∧ decode cX11_kindHere 16 = .ok (.iconst 0, 1) ∧ decode cX11_kindHere 17 = .ok (.ireturn, 1) ∧ decode cX11_kindHere 18 = .ok (.aload_n 0, 1) ∧ decode cX11_kindHere 19 = .ok (.iconst 4, 1) ∧ decode cX11_kindHere 20 = .ok (.bipush 21, 2) ∧ decode cX11_kindHere 22 = .ok (.bipush 11, 2) ∧ decode cX11_kindHere 24 = .ok (.iconst 5, 1) := by decide +kernel
def dX11_kindHere_0 := bX11_kindHere_0.1
def dX11_kindHere_1 := bX11_kindHere_0.2.1
def dX11_kindHere_3 := bX11_kindHere_0.2.2.1
def dX11_kindHere_4 := bX11_kindHere_0.2.2.2.1
def dX11_kindHere_6 := bX11_kindHere_0.2.2.2.2.1
def dX11_kindHere_8 := bX11_kindHere_0.2.2.2.2.2.1
def dX11_kindHere_9 := bX11_kindHere_0.2.2.2.2.2.2.1
def dX11_kindHere_10 := bX11_kindHere_0.2.2.2.2.2.2.2.1
def dX11_kindHere_13 := bX11_kindHere_0.2.2.2.2.2.2.2.2.1
def dX11_kindHere_16 := bX11_kindHere_0.2.2.2.2.2.2.2.2.2.1
def dX11_kindHere_17 := bX11_kindHere_0.2.2.2.2.2.2.2.2.2.2.1
def dX11_kindHere_18 := bX11_kindHere_0.2.2.2.2.2.2.2.2.2.2.2.1
def dX11_kindHere_19 := bX11_kindHere_0.2.2.2.2.2.2.2.2.2.2.2.2.1
def dX11_kindHere_20 := bX11_kindHere_0.2.2.2.2.2.2.2.2.2.2.2.2.2.1
def dX11_kindHere_22 := bX11_kindHere_0.2.2.2.2.2.2.2.2.2.2.2.2.2.2.1
def dX11_kindHere_24 := bX11_kindHere_0.2.2.2.2.2.2.2.2.2.2.2.2.2.2.2
theorem bX11_kindHere_25 : decode cX11_kindHere 25 = .ok (.iconst 0, 1) ∧ decode cX11_kindHere 26 = .ok (.iconst 0, 1) ∧ decode cX11_kindHere 27 = .ok (.invokevirtual 134, 3) ∧ decode cX11_kindHere 30 = .ok (.ifCond .eq 5, 3) ∧ decode cX11_kindHere 33 = .ok (.iconst 1, 1) ∧ decode cX11_kindHere 34 = .ok (.ireturn, 1) ∧ decode cX11_kindHere 35 = .ok (.aload_n 0, 1) ∧ decode cX11_kindHere 36 = .ok (.iconst 5, 1) ∧ decode cX11_kindHere 37 = .ok (.bipush 14, 2) ∧ decode cX11_kindHere 39 = .ok (.iconst 5, 1) ∧ decode cX11_kindHere 40 = .ok (.bipush 13, 2) ∧ decode cX11_kindHere 42 = .ok (.bipush 25, 2) ∧ decode cX11_kindHere 44 = .ok (.iconst 0, 1) ∧ decode cX11_kindHere 45 = .ok (.invokevirtual 134, 3) ∧ decode cX11_kindHere 48 = .ok (.ifCond .eq 5, 3) ∧ decode cX11_kindHere 51 = .ok (.iconst 4, 1) := by decide +kernel
def dX11_kindHere_25 := bX11_kindHere_25.1
def dX11_kindHere_26 := bX11_kindHere_25.2.1
def dX11_kindHere_27 := bX11_kindHere_25.2.2.1
def dX11_kindHere_30 := bX11_kindHere_25.2.2.2.1
def dX11_kindHere_33 := bX11_kindHere_25.2.2.2.2.1
def dX11_kindHere_34 := bX11_kindHere_25.2.2.2.2.2.1
def dX11_kindHere_35 := bX11_kindHere_25.2.2.2.2.2.2.1
def dX11_kindHere_36 := bX11_kindHere_25.2.2.2.2.2.2.2.1
def dX11_kindHere_37 := bX11_kindHere_25.2.2.2.2.2.2.2.2.1
def dX11_kindHere_39 := bX11_kindHere_25.2.2.2.2.2.2.2.2.2.1
def dX11_kindHere_40 := bX11_kindHere_25.2.2.2.2.2.2.2.2.2.2.1
def dX11_kindHere_42 := bX11_kindHere_25.2.2.2.2.2.2.2.2.2.2.2.1
def dX11_kindHere_44 := bX11_kindHere_25.2.2.2.2.2.2.2.2.2.2.2.2.1
def dX11_kindHere_45 := bX11_kindHere_25.2.2.2.2.2.2.2.2.2.2.2.2.2.1
def dX11_kindHere_48 := bX11_kindHere_25.2.2.2.2.2.2.2.2.2.2.2.2.2.2.1
def dX11_kindHere_51 := bX11_kindHere_25.2.2.2.2.2.2.2.2.2.2.2.2.2.2.2
theorem bX11_kindHere_52 : decode cX11_kindHere 52 = .ok (.ireturn, 1) ∧ decode cX11_kindHere 53 = .ok (.aload_n 0, 1) ∧ decode cX11_kindHere 54 = .ok (.bipush 20, 2) ∧ decode cX11_kindHere 56 = .ok (.bipush 15, 2) ∧ decode cX11_kindHere 58 = .ok (.bipush 23, 2) ∧ decode cX11_kindHere 60 = .ok (.bipush 14, 2) ∧ decode cX11_kindHere 62 = .ok (.iconst 0, 1) ∧ decode cX11_kindHere 63 = .ok (.iconst 0, 1) ∧ decode cX11_kindHere 64 = .ok (.invokevirtual 134, 3) ∧ decode cX11_kindHere 67 = .ok (.ifCond .eq 6, 3) ∧ decode cX11_kindHere 70 = .ok (.bipush 7, 2) ∧ decode cX11_kindHere 72 = .ok (.ireturn, 1) ∧ decode cX11_kindHere 73 = .ok (.aload_n 0, 1) ∧ decode cX11_kindHere 74 = .ok (.bipush 6, 2) ∧ decode cX11_kindHere 76 = .ok (.iconst 5, 1) ∧ decode cX11_kindHere 77 = .ok (.iconst 1, 1) := by decide +kernel
def dX11_kindHere_52 := bX11_kindHere_52.1
def dX11_kindHere_53 := bX11_kindHere_52.2.1
def dX11_kindHere_54 := bX11_kindHere_52.2.2.1
def dX11_kindHere_56 := bX11_kindHere_52.2.2.2.1
def dX11_kindHere_58 := bX11_kindHere_52.2.2.2.2.1
def dX11_kindHere_60 := bX11_kindHere_52.2.2.2.2.2.1
def dX11_kindHere_62 := bX11_kindHere_52.2.2.2.2.2.2.1
def dX11_kindHere_63 := bX11_kindHere_52.2.2.2.2.2.2.2.1
def dX11_kindHere_64 := bX11_kindHere_52.2.2.2.2.2.2.2.2.1
def dX11_kindHere_67 := bX11_kindHere_52.2.2.2.2.2.2.2.2.2.1
def dX11_kindHere_70 := bX11_kindHere_52.2.2.2.2.2.2.2.2.2.2.1
def dX11_kindHere_72 := bX11_kindHere_52.2.2.2.2.2.2.2.2.2.2.2.1
def dX11_kindHere_73 := bX11_kindHere_52.2.2.2.2.2.2.2.2.2.2.2.2.1
def dX11_kindHere_74 := bX11_kindHere_52.2.2.2.2.2.2.2.2.2.2.2.2.2.1
def dX11_kindHere_76 := bX11_kindHere_52.2.2.2.2.2.2.2.2.2.2.2.2.2.2.1
def dX11_kindHere_77 := bX11_kindHere_52.2.2.2.2.2.2.2.2.2.2.2.2.2.2.2
theorem bX11_kindHere_78 : decode cX11_kindHere 78 = .ok (.bipush 18, 2) ∧ decode cX11_kindHere 80 = .ok (.iconst 0, 1) ∧ decode cX11_kindHere 81 = .ok (.iconst 0, 1) ∧ decode cX11_kindHere 82 = .ok (.invokevirtual 134, 3) ∧ decode cX11_kindHere 85 = .ok (.ifCond .eq 6, 3) ∧ decode cX11_kindHere 88 = .ok (.bipush 9, 2) ∧ decode cX11_kindHere 90 = .ok (.ireturn, 1) ∧ decode cX11_kindHere 91 = .ok (.aload_n 0, 1) ∧ decode cX11_kindHere 92 = .ok (.bipush 13, 2) ∧ decode cX11_kindHere 94 = .ok (.iconst 1, 1) ∧ decode cX11_kindHere 95 = .ok (.bipush 19, 2) ∧ decode cX11_kindHere 97 = .ok (.bipush 15, 2) ∧ decode cX11_kindHere 99 = .ok (.bipush 14, 2) ∧ decode cX11_kindHere 101 = .ok (.iconst 0, 1) ∧ decode cX11_kindHere 102 = .ok (.invokevirtual 134, 3) ∧ decode cX11_kindHere 105 = .ok (.ifCond .eq 6, 3) := by decide +kernel
def dX11_kindHere_78 := bX11_kindHere_78.1
def dX11_kindHere_80 := bX11_kindHere_78.2.1
def dX11_kindHere_81 := bX11_kindHere_78.2.2.1
def dX11_kindHere_82 := bX11_kindHere_78.2.2.2.1
def dX11_kindHere_85 := bX11_kindHere_78.2.2.2.2.1
def dX11_kindHere_88 := bX11_kindHere_78.2.2.2.2.2.1
def dX11_kindHere_90 := bX11_kindHere_78.2.2.2.2.2.2.1
def dX11_kindHere_91 := bX11_kindHere_78.2.2.2.2.2.2.2.1
def dX11_kindHere_92 := bX11_kindHere_78.2.2.2.2.2.2.2.2.1
def dX11_kindHere_94 := bX11_kindHere_78.2.2.2.2.2.2.2.2.2.1
def dX11_kindHere_95 := bX11_kindHere_78.2.2.2.2.2.2.2.2.2.2.1
def dX11_kindHere_97 := bX11_kindHere_78.2.2.2.2.2.2.2.2.2.2.2.1
def dX11_kindHere_99 := bX11_kindHere_78.2.2.2.2.2.2.2.2.2.2.2.2.1
def dX11_kindHere_101 := bX11_kindHere_78.2.2.2.2.2.2.2.2.2.2.2.2.2.1
def dX11_kindHere_102 := bX11_kindHere_78.2.2.2.2.2.2.2.2.2.2.2.2.2.2.1
def dX11_kindHere_105 := bX11_kindHere_78.2.2.2.2.2.2.2.2.2.2.2.2.2.2.2
theorem bX11_kindHere_108 : decode cX11_kindHere 108 = .ok (.bipush 12, 2) ∧ decode cX11_kindHere 110 = .ok (.ireturn, 1) ∧ decode cX11_kindHere 111 = .ok (.aload_n 0, 1) ∧ decode cX11_kindHere 112 = .ok (.iconst 3, 1) ∧ decode cX11_kindHere 113 = .ok (.bipush 15, 2) ∧ decode cX11_kindHere 115 = .ok (.bipush 19, 2) ∧ decode cX11_kindHere 117 = .ok (.bipush 20, 2) ∧ decode cX11_kindHere 119 = .ok (.iconst 0, 1) ∧ decode cX11_kindHere 120 = .ok (.iconst 0, 1) ∧ decode cX11_kindHere 121 = .ok (.invokevirtual 134, 3) ∧ decode cX11_kindHere 124 = .ok (.ifCond .eq 6, 3) ∧ decode cX11_kindHere 127 = .ok (.bipush 13, 2) ∧ decode cX11_kindHere 129 = .ok (.ireturn, 1) ∧ decode cX11_kindHere 130 = .ok (.aload_n 0, 1) ∧ decode cX11_kindHere 131 = .ok (.bipush 14, 2) ∧ decode cX11_kindHere 133 = .ok (.iconst 5, 1) := by decide +kernel
def dX11_kindHere_108 := bX11_kindHere_108.1
def dX11_kindHere_110 := bX11_kindHere_108.2.1
def dX11_kindHere_111 := bX11_kindHere_108.2.2.1
def dX11_kindHere_112 := bX11_kindHere_108.2.2.2.1
def dX11_kindHere_113 := bX11_kindHere_108.2.2.2.2.1
def dX11_kindHere_115 := bX11_kindHere_108.2.2.2.2.2.1
def dX11_kindHere_117 := bX11_kindHere_108.2.2.2.2.2.2.1
def dX11_kindHere_119 := bX11_kindHere_108.2.2.2.2.2.2.2.1
def dX11_kindHere_120 := bX11_kindHere_108.2.2.2.2.2.2.2.2.1
def dX11_kindHere_121 := bX11_kindHere_108.2.2.2.2.2.2.2.2.2.1
def dX11_kindHere_124 := bX11_kindHere_108.2.2.2.2.2.2.2.2.2.2.1
def dX11_kindHere_127 := bX11_kindHere_108.2.2.2.2.2.2.2.2.2.2.2.1
def dX11_kindHere_129 := bX11_kindHere_108.2.2.2.2.2.2.2.2.2.2.2.2.1
def dX11_kindHere_130 := bX11_kindHere_108.2.2.2.2.2.2.2.2.2.2.2.2.2.1
def dX11_kindHere_131 := bX11_kindHere_108.2.2.2.2.2.2.2.2.2.2.2.2.2.2.1
def dX11_kindHere_133 := bX11_kindHere_108.2.2.2.2.2.2.2.2.2.2.2.2.2.2.2
theorem bX11_kindHere_134 : decode cX11_kindHere 134 = .ok (.iconst 1, 1) ∧ decode cX11_kindHere 135 = .ok (.bipush 18, 2) ∧ decode cX11_kindHere 137 = .ok (.iconst 0, 1) ∧ decode cX11_kindHere 138 = .ok (.iconst 0, 1) ∧ decode cX11_kindHere 139 = .ok (.invokevirtual 134, 3) ∧ decode cX11_kindHere 142 = .ok (.ifCond .eq 8, 3) ∧ decode cX11_kindHere 145 = .ok (.bipush 15, 2) ∧ decode cX11_kindHere 147 = .ok (.goto 4, 3) ∧ decode cX11_kindHere 150 = .ok (.iconst (-1), 1) ∧ decode cX11_kindHere 151 = .ok (.ireturn, 1) := by decide +kernel
def dX11_kindHere_134 := bX11_kindHere_134.1
def dX11_kindHere_135 := bX11_kindHere_134.2.1
def dX11_kindHere_137 := bX11_kindHere_134.2.2.1
def dX11_kindHere_138 := bX11_kindHere_134.2.2.2.1
def dX11_kindHere_139 := bX11_kindHere_134.2.2.2.2.1
def dX11_kindHere_142 := bX11_kindHere_134.2.2.2.2.2.1
def dX11_kindHere_145 := bX11_kindHere_134.2.2.2.2.2.2.1
def dX11_kindHere_147 := bX11_kindHere_134.2.2.2.2.2.2.2.1
def dX11_kindHere_150 := bX11_kindHere_134.2.2.2.2.2.2.2.2.1
def dX11_kindHere_151 := bX11_kindHere_134.2.2.2.2.2.2.2.2.2
theorem ggX11_clause_X11_kindHere : GoodIn wsX11_clause wsX11_kindHere := gW_in gwX11_kindHere (fun _ h => List.mem_cons_of_mem _ (List.mem_append_right _ (List.mem_append_right _ (List.mem_append_left _ h))))
set_option maxRecDepth 20000 in
theorem gX11_clause_X11_kindHere : GoodIn wsX11_clause (wsV RX11 138 RX11 yX11_kindHere wsX11_kindHere) := goodIn_app (goodIn_of _ (by decide +kernel)) ggX11_clause_X11_kindHere
theorem ggX11_clause_X11_wrong : GoodIn wsX11_clause wsX11_wrong := gW_in gwX11_wrong (fun _ h => List.mem_cons_of_mem _ (List.mem_append_right _ (List.mem_append_right _ (List.mem_append_right _ (List.mem_append_left _ h)))))
set_option maxRecDepth 20000 in
theorem gX11_clause_X11_wrong : GoodIn wsX11_clause (wsV RX11 114 RX11 yX11_wrong wsX11_wrong) := goodIn_app (goodIn_of _ (by decide +kernel)) ggX11_clause_X11_wrong
theorem ggX11_clause_X11_skipWord : GoodIn wsX11_clause wsX11_skipWord := gW_in gwX11_skipWord (fun _ h => List.mem_cons_of_mem _ (List.mem_append_right _ (List.mem_append_right _ (List.mem_append_right _ (List.mem_append_right _ (List.mem_append_left _ h))))))
set_option maxRecDepth 20000 in
theorem gX11_clause_X11_skipWord : GoodIn wsX11_clause (wsV RX11 141 RX11 yX11_skipWord wsX11_skipWord) := goodIn_app (goodIn_of _ (by decide +kernel)) ggX11_clause_X11_skipWord
theorem ggX11_clause_X11_number : GoodIn wsX11_clause wsX11_number := gW_in gwX11_number (fun _ h => List.mem_cons_of_mem _ (List.mem_append_right _ (List.mem_append_right _ (List.mem_append_right _ (List.mem_append_right _ (List.mem_append_right _ (List.mem_append_left _ h)))))))
set_option maxRecDepth 20000 in
theorem gX11_clause_X11_number : GoodIn wsX11_clause (wsV RX11 144 RX11 yX11_number wsX11_number) := goodIn_app (goodIn_of _ (by decide +kernel)) ggX11_clause_X11_number
theorem ggX11_clause_X11_closes : GoodIn wsX11_clause wsX11_closes := gW_in gwX11_closes (fun _ h => List.mem_cons_of_mem _ (List.mem_append_right _ (List.mem_append_right _ (List.mem_append_right _ (List.mem_append_right _ (List.mem_append_right _ (List.mem_append_right _ (h))))))))
set_option maxRecDepth 20000 in
theorem gX11_clause_X11_closes : GoodIn wsX11_clause (wsV RX11 148 RX11 yX11_closes wsX11_closes) := goodIn_app (goodIn_of _ (by decide +kernel)) ggX11_clause_X11_closes
theorem bX11_clause_0 : decode cX11_clause 0 = .ok (.aload_n 0, 1) ∧ decode cX11_clause 1 = .ok (.invokevirtual 138, 3) ∧ decode cX11_clause 4 = .ok (.istore_n 1, 1) ∧ decode cX11_clause 5 = .ok (.iload_n 1, 1) ∧ decode cX11_clause 6 = .ok (.iconst (-1), 1) ∧ decode cX11_clause 7 = .ok (.if_icmp .ne 15, 3) ∧ decode cX11_clause 10 = .ok (.aload_n 0, 1) ∧ decode cX11_clause 11 = .ok (.iconst 1, 1) ∧ decode cX11_clause 12 = .ok (.aload_n 0, 1) ∧ decode cX11_clause 13 = .ok (.getfield 94, 3) ∧ decode cX11_clause 16 = .ok (.invokevirtual 114, 3) ∧ decode cX11_clause 19 = .ok (.goto 36, 3) ∧ decode cX11_clause 22 = .ok (.aload_n 0, 1) ∧ decode cX11_clause 23 = .ok (.getfield 131, 3) ∧ decode cX11_clause 26 = .ok (.bipush 60, 2) ∧ decode cX11_clause 28 = .ok (.if_icmp .eq 18, 3) := by decide +kernel
def dX11_clause_0 := bX11_clause_0.1
def dX11_clause_1 := bX11_clause_0.2.1
def dX11_clause_4 := bX11_clause_0.2.2.1
def dX11_clause_5 := bX11_clause_0.2.2.2.1
def dX11_clause_6 := bX11_clause_0.2.2.2.2.1
def dX11_clause_7 := bX11_clause_0.2.2.2.2.2.1
def dX11_clause_10 := bX11_clause_0.2.2.2.2.2.2.1
def dX11_clause_11 := bX11_clause_0.2.2.2.2.2.2.2.1
def dX11_clause_12 := bX11_clause_0.2.2.2.2.2.2.2.2.1
def dX11_clause_13 := bX11_clause_0.2.2.2.2.2.2.2.2.2.1
def dX11_clause_16 := bX11_clause_0.2.2.2.2.2.2.2.2.2.2.1
def dX11_clause_19 := bX11_clause_0.2.2.2.2.2.2.2.2.2.2.2.1
def dX11_clause_22 := bX11_clause_0.2.2.2.2.2.2.2.2.2.2.2.2.1
def dX11_clause_23 := bX11_clause_0.2.2.2.2.2.2.2.2.2.2.2.2.2.1
def dX11_clause_26 := bX11_clause_0.2.2.2.2.2.2.2.2.2.2.2.2.2.2.1
def dX11_clause_28 := bX11_clause_0.2.2.2.2.2.2.2.2.2.2.2.2.2.2.2
theorem bX11_clause_31 : decode cX11_clause 31 = .ok (.iload_n 1, 1) ∧ decode cX11_clause 32 = .ok (.ifCond .ne 23, 3) ∧ decode cX11_clause 35 = .ok (.aload_n 0, 1) ∧ decode cX11_clause 36 = .ok (.getfield 20, 3) ∧ decode cX11_clause 39 = .ok (.iconst 0, 1) ∧ decode cX11_clause 40 = .ok (.iaload, 1) ∧ decode cX11_clause 41 = .ok (.bipush 6, 2) ∧ decode cX11_clause 43 = .ok (.if_icmp .ne 12, 3) ∧ decode cX11_clause 46 = .ok (.aload_n 0, 1) ∧ decode cX11_clause 47 = .ok (.iconst 3, 1) ∧ decode cX11_clause 48 = .ok (.aload_n 0, 1) ∧ decode cX11_clause 49 = .ok (.getfield 94, 3) ∧ decode cX11_clause 52 = .ok (.invokevirtual 114, 3) ∧ decode cX11_clause 55 = .ok (.aload_n 0, 1) ∧ decode cX11_clause 56 = .ok (.getfield 101, 3) ∧ decode cX11_clause 59 = .ok (.ifCond .eq 4, 3) := by decide +kernel
def dX11_clause_31 := bX11_clause_31.1
def dX11_clause_32 := bX11_clause_31.2.1
def dX11_clause_35 := bX11_clause_31.2.2.1
def dX11_clause_36 := bX11_clause_31.2.2.2.1
def dX11_clause_39 := bX11_clause_31.2.2.2.2.1
def dX11_clause_40 := bX11_clause_31.2.2.2.2.2.1
def dX11_clause_41 := bX11_clause_31.2.2.2.2.2.2.1
def dX11_clause_43 := bX11_clause_31.2.2.2.2.2.2.2.1
def dX11_clause_46 := bX11_clause_31.2.2.2.2.2.2.2.2.1
def dX11_clause_47 := bX11_clause_31.2.2.2.2.2.2.2.2.2.1
def dX11_clause_48 := bX11_clause_31.2.2.2.2.2.2.2.2.2.2.1
def dX11_clause_49 := bX11_clause_31.2.2.2.2.2.2.2.2.2.2.2.1
def dX11_clause_52 := bX11_clause_31.2.2.2.2.2.2.2.2.2.2.2.2.1
def dX11_clause_55 := bX11_clause_31.2.2.2.2.2.2.2.2.2.2.2.2.2.1
def dX11_clause_56 := bX11_clause_31.2.2.2.2.2.2.2.2.2.2.2.2.2.2.1
def dX11_clause_59 := bX11_clause_31.2.2.2.2.2.2.2.2.2.2.2.2.2.2.2
theorem bX11_clause_62 : decode cX11_clause 62 = .ok (.return_, 1) ∧ decode cX11_clause 63 = .ok (.aload_n 0, 1) ∧ decode cX11_clause 64 = .ok (.invokevirtual 141, 3) ∧ decode cX11_clause 67 = .ok (.aload_n 0, 1) ∧ decode cX11_clause 68 = .ok (.dup, 1) ∧ decode cX11_clause 69 = .ok (.getfield 131, 3) ∧ decode cX11_clause 72 = .ok (.iconst 1, 1) ∧ decode cX11_clause 73 = .ok (.iadd, 1) ∧ decode cX11_clause 74 = .ok (.putfield 131, 3) ∧ decode cX11_clause 77 = .ok (.iload_n 1, 1) ∧ decode cX11_clause 78 = .ok (.tableswitch 288 0 13 #[70, 115, 288, 288, 115, 288, 288, 163, 288, 195, 288, 288, 240, 257], 70) ∧ decode cX11_clause 148 = .ok (.aload_n 0, 1) ∧ decode cX11_clause 149 = .ok (.getfield 28, 3) ∧ decode cX11_clause 152 = .ok (.aload_n 0, 1) ∧ decode cX11_clause 153 = .ok (.getfield 20, 3) ∧ decode cX11_clause 156 = .ok (.iconst 0, 1) := by decide +kernel
def dX11_clause_62 := bX11_clause_62.1
def dX11_clause_63 := bX11_clause_62.2.1
def dX11_clause_64 := bX11_clause_62.2.2.1
def dX11_clause_67 := bX11_clause_62.2.2.2.1
def dX11_clause_68 := bX11_clause_62.2.2.2.2.1
def dX11_clause_69 := bX11_clause_62.2.2.2.2.2.1
def dX11_clause_72 := bX11_clause_62.2.2.2.2.2.2.1
def dX11_clause_73 := bX11_clause_62.2.2.2.2.2.2.2.1
def dX11_clause_74 := bX11_clause_62.2.2.2.2.2.2.2.2.1
def dX11_clause_77 := bX11_clause_62.2.2.2.2.2.2.2.2.2.1
def dX11_clause_78 := bX11_clause_62.2.2.2.2.2.2.2.2.2.2.1
def dX11_clause_148 := bX11_clause_62.2.2.2.2.2.2.2.2.2.2.2.1
def dX11_clause_149 := bX11_clause_62.2.2.2.2.2.2.2.2.2.2.2.2.1
def dX11_clause_152 := bX11_clause_62.2.2.2.2.2.2.2.2.2.2.2.2.2.1
def dX11_clause_153 := bX11_clause_62.2.2.2.2.2.2.2.2.2.2.2.2.2.2.1
def dX11_clause_156 := bX11_clause_62.2.2.2.2.2.2.2.2.2.2.2.2.2.2.2
theorem bX11_clause_157 : decode cX11_clause 157 = .ok (.iaload, 1) ∧ decode cX11_clause 158 = .ok (.aaload, 1) ∧ decode cX11_clause 159 = .ok (.astore_n 2, 1) ∧ decode cX11_clause 160 = .ok (.aload_n 2, 1) ∧ decode cX11_clause 161 = .ok (.iconst 0, 1) ∧ decode cX11_clause 162 = .ok (.aload_n 0, 1) ∧ decode cX11_clause 163 = .ok (.iconst 1, 1) ∧ decode cX11_clause 164 = .ok (.bipush 99, 2) ∧ decode cX11_clause 166 = .ok (.invokevirtual 144, 3) ∧ decode cX11_clause 169 = .ok (.iastore, 1) ∧ decode cX11_clause 170 = .ok (.aload_n 2, 1) ∧ decode cX11_clause 171 = .ok (.iconst 1, 1) ∧ decode cX11_clause 172 = .ok (.aload_n 0, 1) ∧ decode cX11_clause 173 = .ok (.iconst 0, 1) ∧ decode cX11_clause 174 = .ok (.bipush 50, 2) ∧ decode cX11_clause 176 = .ok (.invokevirtual 144, 3) := by decide +kernel
def dX11_clause_157 := bX11_clause_157.1
def dX11_clause_158 := bX11_clause_157.2.1
def dX11_clause_159 := bX11_clause_157.2.2.1
def dX11_clause_160 := bX11_clause_157.2.2.2.1
def dX11_clause_161 := bX11_clause_157.2.2.2.2.1
def dX11_clause_162 := bX11_clause_157.2.2.2.2.2.1
def dX11_clause_163 := bX11_clause_157.2.2.2.2.2.2.1
def dX11_clause_164 := bX11_clause_157.2.2.2.2.2.2.2.1
def dX11_clause_166 := bX11_clause_157.2.2.2.2.2.2.2.2.1
def dX11_clause_169 := bX11_clause_157.2.2.2.2.2.2.2.2.2.1
def dX11_clause_170 := bX11_clause_157.2.2.2.2.2.2.2.2.2.2.1
def dX11_clause_171 := bX11_clause_157.2.2.2.2.2.2.2.2.2.2.2.1
def dX11_clause_172 := bX11_clause_157.2.2.2.2.2.2.2.2.2.2.2.2.1
def dX11_clause_173 := bX11_clause_157.2.2.2.2.2.2.2.2.2.2.2.2.2.1
def dX11_clause_174 := bX11_clause_157.2.2.2.2.2.2.2.2.2.2.2.2.2.2.1
def dX11_clause_176 := bX11_clause_157.2.2.2.2.2.2.2.2.2.2.2.2.2.2.2
theorem bX11_clause_179 : decode cX11_clause 179 = .ok (.iastore, 1) ∧ decode cX11_clause 180 = .ok (.aload_n 0, 1) ∧ decode cX11_clause 181 = .ok (.getfield 20, 3) ∧ decode cX11_clause 184 = .ok (.iconst 0, 1) ∧ decode cX11_clause 185 = .ok (.dup2, 1) ∧ decode cX11_clause 186 = .ok (.iaload, 1) ∧ decode cX11_clause 187 = .ok (.iconst 1, 1) ∧ decode cX11_clause 188 = .ok (.iadd, 1) ∧ decode cX11_clause 189 = .ok (.iastore, 1) ∧ decode cX11_clause 190 = .ok (.goto 203, 3) ∧ decode cX11_clause 193 = .ok (.aload_n 0, 1) ∧ decode cX11_clause 194 = .ok (.getfield 20, 3) ∧ decode cX11_clause 197 = .ok (.iload_n 1, 1) ∧ decode cX11_clause 198 = .ok (.aload_n 0, 1) ∧ decode cX11_clause 199 = .ok (.iconst 0, 1) ∧ decode cX11_clause 200 = .ok (.sipush 9999, 3) := by decide +kernel
def dX11_clause_179 := bX11_clause_179.1
def dX11_clause_180 := bX11_clause_179.2.1
def dX11_clause_181 := bX11_clause_179.2.2.1
def dX11_clause_184 := bX11_clause_179.2.2.2.1
def dX11_clause_185 := bX11_clause_179.2.2.2.2.1
def dX11_clause_186 := bX11_clause_179.2.2.2.2.2.1
def dX11_clause_187 := bX11_clause_179.2.2.2.2.2.2.1
def dX11_clause_188 := bX11_clause_179.2.2.2.2.2.2.2.1
def dX11_clause_189 := bX11_clause_179.2.2.2.2.2.2.2.2.1
def dX11_clause_190 := bX11_clause_179.2.2.2.2.2.2.2.2.2.1
def dX11_clause_193 := bX11_clause_179.2.2.2.2.2.2.2.2.2.2.1
def dX11_clause_194 := bX11_clause_179.2.2.2.2.2.2.2.2.2.2.2.1
def dX11_clause_197 := bX11_clause_179.2.2.2.2.2.2.2.2.2.2.2.2.1
def dX11_clause_198 := bX11_clause_179.2.2.2.2.2.2.2.2.2.2.2.2.2.1
def dX11_clause_199 := bX11_clause_179.2.2.2.2.2.2.2.2.2.2.2.2.2.2.1
def dX11_clause_200 := bX11_clause_179.2.2.2.2.2.2.2.2.2.2.2.2.2.2.2
theorem bX11_clause_203 : decode cX11_clause 203 = .ok (.invokevirtual 144, 3) ∧ decode cX11_clause 206 = .ok (.iastore, 1) ∧ decode cX11_clause 207 = .ok (.aload_n 0, 1) ∧ decode cX11_clause 208 = .ok (.getfield 20, 3) ∧ decode cX11_clause 211 = .ok (.iload_n 1, 1) ∧ decode cX11_clause 212 = .ok (.iconst 1, 1) ∧ decode cX11_clause 213 = .ok (.iadd, 1) ∧ decode cX11_clause 214 = .ok (.aload_n 0, 1) ∧ decode cX11_clause 215 = .ok (.iconst 0, 1) ∧ decode cX11_clause 216 = .ok (.sipush 999, 3) ∧ decode cX11_clause 219 = .ok (.invokevirtual 144, 3) ∧ decode cX11_clause 222 = .ok (.iastore, 1) ∧ decode cX11_clause 223 = .ok (.aload_n 0, 1) ∧ decode cX11_clause 224 = .ok (.getfield 20, 3) ∧ decode cX11_clause 227 = .ok (.iload_n 1, 1) ∧ decode cX11_clause 228 = .ok (.iconst 2, 1) := by decide +kernel
def dX11_clause_203 := bX11_clause_203.1
def dX11_clause_206 := bX11_clause_203.2.1
def dX11_clause_207 := bX11_clause_203.2.2.1
def dX11_clause_208 := bX11_clause_203.2.2.2.1
def dX11_clause_211 := bX11_clause_203.2.2.2.2.1
def dX11_clause_212 := bX11_clause_203.2.2.2.2.2.1
def dX11_clause_213 := bX11_clause_203.2.2.2.2.2.2.1
def dX11_clause_214 := bX11_clause_203.2.2.2.2.2.2.2.1
def dX11_clause_215 := bX11_clause_203.2.2.2.2.2.2.2.2.1
def dX11_clause_216 := bX11_clause_203.2.2.2.2.2.2.2.2.2.1
def dX11_clause_219 := bX11_clause_203.2.2.2.2.2.2.2.2.2.2.1
def dX11_clause_222 := bX11_clause_203.2.2.2.2.2.2.2.2.2.2.2.1
def dX11_clause_223 := bX11_clause_203.2.2.2.2.2.2.2.2.2.2.2.2.1
def dX11_clause_224 := bX11_clause_203.2.2.2.2.2.2.2.2.2.2.2.2.2.1
def dX11_clause_227 := bX11_clause_203.2.2.2.2.2.2.2.2.2.2.2.2.2.2.1
def dX11_clause_228 := bX11_clause_203.2.2.2.2.2.2.2.2.2.2.2.2.2.2.2
theorem bX11_clause_229 : decode cX11_clause 229 = .ok (.iadd, 1) ∧ decode cX11_clause 230 = .ok (.aload_n 0, 1) ∧ decode cX11_clause 231 = .ok (.iconst 0, 1) ∧ decode cX11_clause 232 = .ok (.bipush 9, 2) ∧ decode cX11_clause 234 = .ok (.invokevirtual 144, 3) ∧ decode cX11_clause 237 = .ok (.iastore, 1) ∧ decode cX11_clause 238 = .ok (.goto 155, 3) ∧ decode cX11_clause 241 = .ok (.aload_n 0, 1) ∧ decode cX11_clause 242 = .ok (.getfield 20, 3) ∧ decode cX11_clause 245 = .ok (.bipush 7, 2) ∧ decode cX11_clause 247 = .ok (.aload_n 0, 1) ∧ decode cX11_clause 248 = .ok (.iconst 0, 1) ∧ decode cX11_clause 249 = .ok (.sipush 9999, 3) ∧ decode cX11_clause 252 = .ok (.invokevirtual 144, 3) ∧ decode cX11_clause 255 = .ok (.iastore, 1) ∧ decode cX11_clause 256 = .ok (.aload_n 0, 1) := by decide +kernel
def dX11_clause_229 := bX11_clause_229.1
def dX11_clause_230 := bX11_clause_229.2.1
def dX11_clause_231 := bX11_clause_229.2.2.1
def dX11_clause_232 := bX11_clause_229.2.2.2.1
def dX11_clause_234 := bX11_clause_229.2.2.2.2.1
def dX11_clause_237 := bX11_clause_229.2.2.2.2.2.1
def dX11_clause_238 := bX11_clause_229.2.2.2.2.2.2.1
def dX11_clause_241 := bX11_clause_229.2.2.2.2.2.2.2.1
def dX11_clause_242 := bX11_clause_229.2.2.2.2.2.2.2.2.1
def dX11_clause_245 := bX11_clause_229.2.2.2.2.2.2.2.2.2.1
def dX11_clause_247 := bX11_clause_229.2.2.2.2.2.2.2.2.2.2.1
def dX11_clause_248 := bX11_clause_229.2.2.2.2.2.2.2.2.2.2.2.1
def dX11_clause_249 := bX11_clause_229.2.2.2.2.2.2.2.2.2.2.2.2.1
def dX11_clause_252 := bX11_clause_229.2.2.2.2.2.2.2.2.2.2.2.2.2.1
def dX11_clause_255 := bX11_clause_229.2.2.2.2.2.2.2.2.2.2.2.2.2.2.1
def dX11_clause_256 := bX11_clause_229.2.2.2.2.2.2.2.2.2.2.2.2.2.2.2
theorem bX11_clause_257 : decode cX11_clause 257 = .ok (.getfield 20, 3) ∧ decode cX11_clause 260 = .ok (.bipush 8, 2) ∧ decode cX11_clause 262 = .ok (.aload_n 0, 1) ∧ decode cX11_clause 263 = .ok (.iconst 0, 1) ∧ decode cX11_clause 264 = .ok (.bipush 100, 2) ∧ decode cX11_clause 266 = .ok (.invokevirtual 144, 3) ∧ decode cX11_clause 269 = .ok (.iastore, 1) ∧ decode cX11_clause 270 = .ok (.goto 123, 3) ∧ decode cX11_clause 273 = .ok (.aload_n 0, 1) ∧ decode cX11_clause 274 = .ok (.getfield 20, 3) ∧ decode cX11_clause 277 = .ok (.bipush 9, 2) ∧ decode cX11_clause 279 = .ok (.aload_n 0, 1) ∧ decode cX11_clause 280 = .ok (.iconst 0, 1) ∧ decode cX11_clause 281 = .ok (.bipush 100, 2) ∧ decode cX11_clause 283 = .ok (.invokevirtual 144, 3) ∧ decode cX11_clause 286 = .ok (.iastore, 1) := by decide +kernel
def dX11_clause_257 := bX11_clause_257.1
def dX11_clause_260 := bX11_clause_257.2.1
def dX11_clause_262 := bX11_clause_257.2.2.1
def dX11_clause_263 := bX11_clause_257.2.2.2.1
def dX11_clause_264 := bX11_clause_257.2.2.2.2.1
def dX11_clause_266 := bX11_clause_257.2.2.2.2.2.1
def dX11_clause_269 := bX11_clause_257.2.2.2.2.2.2.1
def dX11_clause_270 := bX11_clause_257.2.2.2.2.2.2.2.1
def dX11_clause_273 := bX11_clause_257.2.2.2.2.2.2.2.2.1
def dX11_clause_274 := bX11_clause_257.2.2.2.2.2.2.2.2.2.1
def dX11_clause_277 := bX11_clause_257.2.2.2.2.2.2.2.2.2.2.1
def dX11_clause_279 := bX11_clause_257.2.2.2.2.2.2.2.2.2.2.2.1
def dX11_clause_280 := bX11_clause_257.2.2.2.2.2.2.2.2.2.2.2.2.1
def dX11_clause_281 := bX11_clause_257.2.2.2.2.2.2.2.2.2.2.2.2.2.1
def dX11_clause_283 := bX11_clause_257.2.2.2.2.2.2.2.2.2.2.2.2.2.2.1
def dX11_clause_286 := bX11_clause_257.2.2.2.2.2.2.2.2.2.2.2.2.2.2.2
theorem bX11_clause_287 : decode cX11_clause 287 = .ok (.aload_n 0, 1) ∧ decode cX11_clause 288 = .ok (.getfield 20, 3) ∧ decode cX11_clause 291 = .ok (.bipush 10, 2) ∧ decode cX11_clause 293 = .ok (.aload_n 0, 1) ∧ decode cX11_clause 294 = .ok (.iconst 0, 1) ∧ decode cX11_clause 295 = .ok (.bipush 50, 2) ∧ decode cX11_clause 297 = .ok (.invokevirtual 144, 3) ∧ decode cX11_clause 300 = .ok (.iastore, 1) ∧ decode cX11_clause 301 = .ok (.aload_n 0, 1) ∧ decode cX11_clause 302 = .ok (.getfield 20, 3) ∧ decode cX11_clause 305 = .ok (.bipush 11, 2) ∧ decode cX11_clause 307 = .ok (.aload_n 0, 1) ∧ decode cX11_clause 308 = .ok (.iconst 0, 1) ∧ decode cX11_clause 309 = .ok (.bipush 50, 2) ∧ decode cX11_clause 311 = .ok (.invokevirtual 144, 3) ∧ decode cX11_clause 314 = .ok (.iastore, 1) := by decide +kernel
def dX11_clause_287 := bX11_clause_287.1
def dX11_clause_288 := bX11_clause_287.2.1
def dX11_clause_291 := bX11_clause_287.2.2.1
def dX11_clause_293 := bX11_clause_287.2.2.2.1
def dX11_clause_294 := bX11_clause_287.2.2.2.2.1
def dX11_clause_295 := bX11_clause_287.2.2.2.2.2.1
def dX11_clause_297 := bX11_clause_287.2.2.2.2.2.2.1
def dX11_clause_300 := bX11_clause_287.2.2.2.2.2.2.2.1
def dX11_clause_301 := bX11_clause_287.2.2.2.2.2.2.2.2.1
def dX11_clause_302 := bX11_clause_287.2.2.2.2.2.2.2.2.2.1
def dX11_clause_305 := bX11_clause_287.2.2.2.2.2.2.2.2.2.2.1
def dX11_clause_307 := bX11_clause_287.2.2.2.2.2.2.2.2.2.2.2.1
def dX11_clause_308 := bX11_clause_287.2.2.2.2.2.2.2.2.2.2.2.2.1
def dX11_clause_309 := bX11_clause_287.2.2.2.2.2.2.2.2.2.2.2.2.2.1
def dX11_clause_311 := bX11_clause_287.2.2.2.2.2.2.2.2.2.2.2.2.2.2.1
def dX11_clause_314 := bX11_clause_287.2.2.2.2.2.2.2.2.2.2.2.2.2.2.2
theorem bX11_clause_315 : decode cX11_clause 315 = .ok (.goto 78, 3) ∧ decode cX11_clause 318 = .ok (.aload_n 0, 1) ∧ decode cX11_clause 319 = .ok (.getfield 20, 3) ∧ decode cX11_clause 322 = .ok (.bipush 12, 2) ∧ decode cX11_clause 324 = .ok (.aload_n 0, 1) ∧ decode cX11_clause 325 = .ok (.iconst 0, 1) ∧ decode cX11_clause 326 = .ok (.bipush 9, 2) ∧ decode cX11_clause 328 = .ok (.invokevirtual 144, 3) ∧ decode cX11_clause 331 = .ok (.iastore, 1) ∧ decode cX11_clause 332 = .ok (.goto 61, 3) ∧ decode cX11_clause 335 = .ok (.aload_n 0, 1) ∧ decode cX11_clause 336 = .ok (.getfield 20, 3) ∧ decode cX11_clause 339 = .ok (.bipush 13, 2) ∧ decode cX11_clause 341 = .ok (.aload_n 0, 1) ∧ decode cX11_clause 342 = .ok (.iconst 0, 1) ∧ decode cX11_clause 343 = .ok (.bipush 99, 2) := by decide +kernel
def dX11_clause_315 := bX11_clause_315.1
def dX11_clause_318 := bX11_clause_315.2.1
def dX11_clause_319 := bX11_clause_315.2.2.1
def dX11_clause_322 := bX11_clause_315.2.2.2.1
def dX11_clause_324 := bX11_clause_315.2.2.2.2.1
def dX11_clause_325 := bX11_clause_315.2.2.2.2.2.1
def dX11_clause_326 := bX11_clause_315.2.2.2.2.2.2.1
def dX11_clause_328 := bX11_clause_315.2.2.2.2.2.2.2.1
def dX11_clause_331 := bX11_clause_315.2.2.2.2.2.2.2.2.1
def dX11_clause_332 := bX11_clause_315.2.2.2.2.2.2.2.2.2.1
def dX11_clause_335 := bX11_clause_315.2.2.2.2.2.2.2.2.2.2.1
def dX11_clause_336 := bX11_clause_315.2.2.2.2.2.2.2.2.2.2.2.1
def dX11_clause_339 := bX11_clause_315.2.2.2.2.2.2.2.2.2.2.2.2.1
def dX11_clause_341 := bX11_clause_315.2.2.2.2.2.2.2.2.2.2.2.2.2.1
def dX11_clause_342 := bX11_clause_315.2.2.2.2.2.2.2.2.2.2.2.2.2.2.1
def dX11_clause_343 := bX11_clause_315.2.2.2.2.2.2.2.2.2.2.2.2.2.2.2
theorem bX11_clause_345 : decode cX11_clause 345 = .ok (.invokevirtual 144, 3) ∧ decode cX11_clause 348 = .ok (.iastore, 1) ∧ decode cX11_clause 349 = .ok (.aload_n 0, 1) ∧ decode cX11_clause 350 = .ok (.getfield 20, 3) ∧ decode cX11_clause 353 = .ok (.bipush 14, 2) ∧ decode cX11_clause 355 = .ok (.aload_n 0, 1) ∧ decode cX11_clause 356 = .ok (.iconst 0, 1) ∧ decode cX11_clause 357 = .ok (.bipush 99, 2) ∧ decode cX11_clause 359 = .ok (.invokevirtual 144, 3) ∧ decode cX11_clause 362 = .ok (.iastore, 1) ∧ decode cX11_clause 363 = .ok (.goto 30, 3) ∧ decode cX11_clause 366 = .ok (.aload_n 0, 1) ∧ decode cX11_clause 367 = .ok (.iconst 0, 1) ∧ decode cX11_clause 368 = .ok (.bipush 9, 2) ∧ decode cX11_clause 370 = .ok (.invokevirtual 144, 3) ∧ decode cX11_clause 373 = .ok (.istore_n 2, 1) := by decide +kernel
def dX11_clause_345 := bX11_clause_345.1
def dX11_clause_348 := bX11_clause_345.2.1
def dX11_clause_349 := bX11_clause_345.2.2.1
def dX11_clause_350 := bX11_clause_345.2.2.2.1
def dX11_clause_353 := bX11_clause_345.2.2.2.2.1
def dX11_clause_355 := bX11_clause_345.2.2.2.2.2.1
def dX11_clause_356 := bX11_clause_345.2.2.2.2.2.2.1
def dX11_clause_357 := bX11_clause_345.2.2.2.2.2.2.2.1
def dX11_clause_359 := bX11_clause_345.2.2.2.2.2.2.2.2.1
def dX11_clause_362 := bX11_clause_345.2.2.2.2.2.2.2.2.2.1
def dX11_clause_363 := bX11_clause_345.2.2.2.2.2.2.2.2.2.2.1
def dX11_clause_366 := bX11_clause_345.2.2.2.2.2.2.2.2.2.2.2.1
def dX11_clause_367 := bX11_clause_345.2.2.2.2.2.2.2.2.2.2.2.2.1
def dX11_clause_368 := bX11_clause_345.2.2.2.2.2.2.2.2.2.2.2.2.2.1
def dX11_clause_370 := bX11_clause_345.2.2.2.2.2.2.2.2.2.2.2.2.2.2.1
def dX11_clause_373 := bX11_clause_345.2.2.2.2.2.2.2.2.2.2.2.2.2.2.2
theorem bX11_clause_374 : decode cX11_clause 374 = .ok (.aload_n 0, 1) ∧ decode cX11_clause 375 = .ok (.getfield 20, 3) ∧ decode cX11_clause 378 = .ok (.bipush 15, 2) ∧ decode cX11_clause 380 = .ok (.iload_n 2, 1) ∧ decode cX11_clause 381 = .ok (.iadd, 1) ∧ decode cX11_clause 382 = .ok (.aload_n 0, 1) ∧ decode cX11_clause 383 = .ok (.iconst 0, 1) ∧ decode cX11_clause 384 = .ok (.bipush 20, 2) ∧ decode cX11_clause 386 = .ok (.invokevirtual 144, 3) ∧ decode cX11_clause 389 = .ok (.iastore, 1) ∧ decode cX11_clause 390 = .ok (.goto 3, 3) ∧ decode cX11_clause 393 = .ok (.aload_n 0, 1) ∧ decode cX11_clause 394 = .ok (.invokevirtual 148, 3) ∧ decode cX11_clause 397 = .ok (.return_, 1) := by decide +kernel
def dX11_clause_374 := bX11_clause_374.1
def dX11_clause_375 := bX11_clause_374.2.1
def dX11_clause_378 := bX11_clause_374.2.2.1
def dX11_clause_380 := bX11_clause_374.2.2.2.1
def dX11_clause_381 := bX11_clause_374.2.2.2.2.1
def dX11_clause_382 := bX11_clause_374.2.2.2.2.2.1
def dX11_clause_383 := bX11_clause_374.2.2.2.2.2.2.1
def dX11_clause_384 := bX11_clause_374.2.2.2.2.2.2.2.1
def dX11_clause_386 := bX11_clause_374.2.2.2.2.2.2.2.2.1
def dX11_clause_389 := bX11_clause_374.2.2.2.2.2.2.2.2.2.1
def dX11_clause_390 := bX11_clause_374.2.2.2.2.2.2.2.2.2.2.1
def dX11_clause_393 := bX11_clause_374.2.2.2.2.2.2.2.2.2.2.2.1
def dX11_clause_394 := bX11_clause_374.2.2.2.2.2.2.2.2.2.2.2.2.1
def dX11_clause_397 := bX11_clause_374.2.2.2.2.2.2.2.2.2.2.2.2.2
theorem ggX11_siege_X11_in : GoodIn wsX11_siege wsX11_in := gW_in gwX11_in (fun _ h => List.mem_cons_of_mem _ (List.mem_append_right _ (List.mem_append_right _ (List.mem_append_left _ h))))
set_option maxRecDepth 20000 in
theorem gX11_siege_X11_in : GoodIn wsX11_siege (va_wsS RX11 119 yX11_in wsX11_in) := goodIn_app (goodIn_of _ (by decide +kernel)) ggX11_siege_X11_in
theorem ggX11_siege_X11_bad : GoodIn wsX11_siege wsX11_bad := gW_in gwX11_bad (fun _ h => List.mem_cons_of_mem _ (List.mem_append_right _ (List.mem_append_right _ (List.mem_append_right _ (List.mem_append_left _ h)))))
set_option maxRecDepth 20000 in
theorem gX11_siege_X11_bad : GoodIn wsX11_siege (wsV RX11 151 RX11 yX11_bad wsX11_bad) := goodIn_app (goodIn_of _ (by decide +kernel)) ggX11_siege_X11_bad
theorem ggX11_siege_X11_starts : GoodIn wsX11_siege wsX11_starts := gW_in gwX11_starts (fun _ h => List.mem_cons_of_mem _ (List.mem_append_right _ (List.mem_append_right _ (List.mem_append_right _ (List.mem_append_right _ (List.mem_append_left _ h))))))
set_option maxRecDepth 20000 in
theorem gX11_siege_X11_starts : GoodIn wsX11_siege (wsV RX11 155 RX11 yX11_starts wsX11_starts) := goodIn_app (goodIn_of _ (by decide +kernel)) ggX11_siege_X11_starts
theorem ggX11_siege_X11_tellsNothing : GoodIn wsX11_siege wsX11_tellsNothing := gW_in gwX11_tellsNothing (fun _ h => List.mem_cons_of_mem _ (List.mem_append_right _ (List.mem_append_right _ (List.mem_append_right _ (List.mem_append_right _ (List.mem_append_right _ (List.mem_append_left _ h)))))))
set_option maxRecDepth 20000 in
theorem gX11_siege_X11_tellsNothing : GoodIn wsX11_siege (wsV RX11 79 RX11 yX11_tellsNothing wsX11_tellsNothing) := goodIn_app (goodIn_of _ (by decide +kernel)) ggX11_siege_X11_tellsNothing
theorem ggX11_siege_X11_clause : GoodIn wsX11_siege wsX11_clause := gW_in gwX11_clause (fun _ h => List.mem_cons_of_mem _ (List.mem_append_right _ (List.mem_append_right _ (List.mem_append_right _ (List.mem_append_right _ (List.mem_append_right _ (List.mem_append_right _ (List.mem_append_left _ h))))))))
set_option maxRecDepth 20000 in
theorem gX11_siege_X11_clause : GoodIn wsX11_siege (wsV RX11 159 RX11 yX11_clause wsX11_clause) := goodIn_app (goodIn_of _ (by decide +kernel)) ggX11_siege_X11_clause
theorem ggX11_siege_X11_blanks : GoodIn wsX11_siege wsX11_blanks := gW_in gwX11_blanks (fun _ h => List.mem_cons_of_mem _ (List.mem_append_right _ (List.mem_append_right _ (List.mem_append_right _ (List.mem_append_right _ (List.mem_append_right _ (List.mem_append_right _ (List.mem_append_right _ (List.mem_append_left _ h)))))))))
set_option maxRecDepth 20000 in
theorem gX11_siege_X11_blanks : GoodIn wsX11_siege (wsV RX11 107 RX11 yX11_blanks wsX11_blanks) := goodIn_app (goodIn_of _ (by decide +kernel)) ggX11_siege_X11_blanks
theorem ggX11_siege_X11_stands0 : GoodIn wsX11_siege wsX11_stands0 := gW_in gwX11_stands0 (fun _ h => List.mem_cons_of_mem _ (List.mem_append_right _ (List.mem_append_right _ (List.mem_append_right _ (List.mem_append_right _ (List.mem_append_right _ (List.mem_append_right _ (List.mem_append_right _ (List.mem_append_right _ (h))))))))))
set_option maxRecDepth 20000 in
theorem gX11_siege_X11_stands0 : GoodIn wsX11_siege (wsV RX11 82 RX11 yX11_stands0 wsX11_stands0) := goodIn_app (goodIn_of _ (by decide +kernel)) ggX11_siege_X11_stands0
theorem bX11_siege_0 : decode cX11_siege 0 = .ok (.aload_n 0, 1) ∧ decode cX11_siege 1 = .ok (.iconst 0, 1) ∧ decode cX11_siege 2 = .ok (.putfield 85, 3) ∧ decode cX11_siege 5 = .ok (.aload_n 0, 1) ∧ decode cX11_siege 6 = .ok (.iload_n 1, 1) ∧ decode cX11_siege 7 = .ok (.iconst 0, 1) ∧ decode cX11_siege 8 = .ok (.aload_n 0, 1) ∧ decode cX11_siege 9 = .ok (.getfield 88, 3) ∧ decode cX11_siege 12 = .ok (.invokestatic 119, 3) ∧ decode cX11_siege 15 = .ok (.ifCond .ne 7, 3) ∧ decode cX11_siege 18 = .ok (.iconst 1, 1) ∧ decode cX11_siege 19 = .ok (.goto 4, 3) ∧ decode cX11_siege 22 = .ok (.iconst 0, 1) ∧ decode cX11_siege 23 = .ok (.iconst 1, 1) ∧ decode cX11_siege 24 = .ok (.iconst 2, 1) ∧ decode cX11_siege 25 = .ok (.invokevirtual 151, 3) := by decide +kernel
def dX11_siege_0 := bX11_siege_0.1
def dX11_siege_1 := bX11_siege_0.2.1
def dX11_siege_2 := bX11_siege_0.2.2.1
def dX11_siege_5 := bX11_siege_0.2.2.2.1
def dX11_siege_6 := bX11_siege_0.2.2.2.2.1
def dX11_siege_7 := bX11_siege_0.2.2.2.2.2.1
def dX11_siege_8 := bX11_siege_0.2.2.2.2.2.2.1
def dX11_siege_9 := bX11_siege_0.2.2.2.2.2.2.2.1
def dX11_siege_12 := bX11_siege_0.2.2.2.2.2.2.2.2.1
def dX11_siege_15 := bX11_siege_0.2.2.2.2.2.2.2.2.2.1
def dX11_siege_18 := bX11_siege_0.2.2.2.2.2.2.2.2.2.2.1
def dX11_siege_19 := bX11_siege_0.2.2.2.2.2.2.2.2.2.2.2.1
def dX11_siege_22 := bX11_siege_0.2.2.2.2.2.2.2.2.2.2.2.2.1
def dX11_siege_23 := bX11_siege_0.2.2.2.2.2.2.2.2.2.2.2.2.2.1
def dX11_siege_24 := bX11_siege_0.2.2.2.2.2.2.2.2.2.2.2.2.2.2.1
def dX11_siege_25 := bX11_siege_0.2.2.2.2.2.2.2.2.2.2.2.2.2.2.2
theorem bX11_siege_28 : decode cX11_siege 28 = .ok (.ifCond .eq 5, 3) ∧ decode cX11_siege 31 = .ok (.iconst 0, 1) ∧ decode cX11_siege 32 = .ok (.ireturn, 1) ∧ decode cX11_siege 33 = .ok (.aload_n 0, 1) ∧ decode cX11_siege 34 = .ok (.iload_n 1, 1) ∧ decode cX11_siege 35 = .ok (.invokevirtual 155, 3) ∧ decode cX11_siege 38 = .ok (.aload_n 0, 1) ∧ decode cX11_siege 39 = .ok (.invokevirtual 79, 3) ∧ decode cX11_siege 42 = .ok (.aload_n 0, 1) ∧ decode cX11_siege 43 = .ok (.getfield 101, 3) ∧ decode cX11_siege 46 = .ok (.ifCond .ne 25, 3) ∧ decode cX11_siege 49 = .ok (.aload_n 0, 1) ∧ decode cX11_siege 50 = .ok (.getfield 94, 3) ∧ decode cX11_siege 53 = .ok (.aload_n 0, 1) ∧ decode cX11_siege 54 = .ok (.getfield 91, 3) ∧ decode cX11_siege 57 = .ok (.if_icmp .ge 14, 3) := by decide +kernel
def dX11_siege_28 := bX11_siege_28.1
def dX11_siege_31 := bX11_siege_28.2.1
def dX11_siege_32 := bX11_siege_28.2.2.1
def dX11_siege_33 := bX11_siege_28.2.2.2.1
def dX11_siege_34 := bX11_siege_28.2.2.2.2.1
def dX11_siege_35 := bX11_siege_28.2.2.2.2.2.1
def dX11_siege_38 := bX11_siege_28.2.2.2.2.2.2.1
def dX11_siege_39 := bX11_siege_28.2.2.2.2.2.2.2.1
def dX11_siege_42 := bX11_siege_28.2.2.2.2.2.2.2.2.1
def dX11_siege_43 := bX11_siege_28.2.2.2.2.2.2.2.2.2.1
def dX11_siege_46 := bX11_siege_28.2.2.2.2.2.2.2.2.2.2.1
def dX11_siege_49 := bX11_siege_28.2.2.2.2.2.2.2.2.2.2.2.1
def dX11_siege_50 := bX11_siege_28.2.2.2.2.2.2.2.2.2.2.2.2.1
def dX11_siege_53 := bX11_siege_28.2.2.2.2.2.2.2.2.2.2.2.2.2.1
def dX11_siege_54 := bX11_siege_28.2.2.2.2.2.2.2.2.2.2.2.2.2.2.1
def dX11_siege_57 := bX11_siege_28.2.2.2.2.2.2.2.2.2.2.2.2.2.2.2
theorem bX11_siege_60 : decode cX11_siege 60 = .ok (.aload_n 0, 1) ∧ decode cX11_siege 61 = .ok (.invokevirtual 159, 3) ∧ decode cX11_siege 64 = .ok (.aload_n 0, 1) ∧ decode cX11_siege 65 = .ok (.invokevirtual 107, 3) ∧ decode cX11_siege 68 = .ok (.goto (-26), 3) ∧ decode cX11_siege 71 = .ok (.aload_n 0, 1) ∧ decode cX11_siege 72 = .ok (.aload_n 0, 1) ∧ decode cX11_siege 73 = .ok (.getfield 104, 3) ∧ decode cX11_siege 76 = .ok (.putfield 9, 3) ∧ decode cX11_siege 79 = .ok (.aload_n 0, 1) ∧ decode cX11_siege 80 = .ok (.getfield 101, 3) ∧ decode cX11_siege 83 = .ok (.ifCond .eq 11, 3) ∧ decode cX11_siege 86 = .ok (.aload_n 0, 1) ∧ decode cX11_siege 87 = .ok (.getfield 101, 3) ∧ decode cX11_siege 90 = .ok (.bipush 10, 2) ∧ decode cX11_siege 92 = .ok (.isub, 1) := by decide +kernel
def dX11_siege_60 := bX11_siege_60.1
def dX11_siege_61 := bX11_siege_60.2.1
def dX11_siege_64 := bX11_siege_60.2.2.1
def dX11_siege_65 := bX11_siege_60.2.2.2.1
def dX11_siege_68 := bX11_siege_60.2.2.2.2.1
def dX11_siege_71 := bX11_siege_60.2.2.2.2.2.1
def dX11_siege_72 := bX11_siege_60.2.2.2.2.2.2.1
def dX11_siege_73 := bX11_siege_60.2.2.2.2.2.2.2.1
def dX11_siege_76 := bX11_siege_60.2.2.2.2.2.2.2.2.1
def dX11_siege_79 := bX11_siege_60.2.2.2.2.2.2.2.2.2.1
def dX11_siege_80 := bX11_siege_60.2.2.2.2.2.2.2.2.2.2.1
def dX11_siege_83 := bX11_siege_60.2.2.2.2.2.2.2.2.2.2.2.1
def dX11_siege_86 := bX11_siege_60.2.2.2.2.2.2.2.2.2.2.2.2.1
def dX11_siege_87 := bX11_siege_60.2.2.2.2.2.2.2.2.2.2.2.2.2.1
def dX11_siege_90 := bX11_siege_60.2.2.2.2.2.2.2.2.2.2.2.2.2.2.1
def dX11_siege_92 := bX11_siege_60.2.2.2.2.2.2.2.2.2.2.2.2.2.2.2
theorem bX11_siege_93 : decode cX11_siege 93 = .ok (.ireturn, 1) ∧ decode cX11_siege 94 = .ok (.aload_n 0, 1) ∧ decode cX11_siege 95 = .ok (.invokevirtual 82, 3) ∧ decode cX11_siege 98 = .ok (.aload_n 0, 1) ∧ decode cX11_siege 99 = .ok (.getfield 23, 3) ∧ decode cX11_siege 102 = .ok (.iconst 0, 1) ∧ decode cX11_siege 103 = .ok (.iaload, 1) ∧ decode cX11_siege 104 = .ok (.ireturn, 1) := by decide +kernel
def dX11_siege_93 := bX11_siege_93.1
def dX11_siege_94 := bX11_siege_93.2.1
def dX11_siege_95 := bX11_siege_93.2.2.1
def dX11_siege_98 := bX11_siege_93.2.2.2.1
def dX11_siege_99 := bX11_siege_93.2.2.2.2.1
def dX11_siege_102 := bX11_siege_93.2.2.2.2.2.1
def dX11_siege_103 := bX11_siege_93.2.2.2.2.2.2.1
def dX11_siege_104 := bX11_siege_93.2.2.2.2.2.2.2
theorem bX11_stands0_0 : decode cX11_stands0 0 = .ok (.iconst 0, 1) ∧ decode cX11_stands0 1 = .ok (.istore_n 1, 1) ∧ decode cX11_stands0 2 = .ok (.iload_n 1, 1) ∧ decode cX11_stands0 3 = .ok (.bipush 25, 2) ∧ decode cX11_stands0 5 = .ok (.if_icmp .ge 21, 3) ∧ decode cX11_stands0 8 = .ok (.aload_n 0, 1) ∧ decode cX11_stands0 9 = .ok (.getfield 23, 3) ∧ decode cX11_stands0 12 = .ok (.iload_n 1, 1) ∧ decode cX11_stands0 13 = .ok (.aload_n 0, 1) ∧ decode cX11_stands0 14 = .ok (.getfield 20, 3) ∧ decode cX11_stands0 17 = .ok (.iload_n 1, 1) ∧ decode cX11_stands0 18 = .ok (.iaload, 1) ∧ decode cX11_stands0 19 = .ok (.iastore, 1) ∧ decode cX11_stands0 20 = .ok (.iinc 1 1, 3) ∧ decode cX11_stands0 23 = .ok (.goto (-21), 3) ∧ decode cX11_stands0 26 = .ok (.iconst 0, 1) := by decide +kernel
def dX11_stands0_0 := bX11_stands0_0.1
def dX11_stands0_1 := bX11_stands0_0.2.1
def dX11_stands0_2 := bX11_stands0_0.2.2.1
def dX11_stands0_3 := bX11_stands0_0.2.2.2.1
def dX11_stands0_5 := bX11_stands0_0.2.2.2.2.1
def dX11_stands0_8 := bX11_stands0_0.2.2.2.2.2.1
def dX11_stands0_9 := bX11_stands0_0.2.2.2.2.2.2.1
def dX11_stands0_12 := bX11_stands0_0.2.2.2.2.2.2.2.1
def dX11_stands0_13 := bX11_stands0_0.2.2.2.2.2.2.2.2.1
def dX11_stands0_14 := bX11_stands0_0.2.2.2.2.2.2.2.2.2.1
def dX11_stands0_17 := bX11_stands0_0.2.2.2.2.2.2.2.2.2.2.1
def dX11_stands0_18 := bX11_stands0_0.2.2.2.2.2.2.2.2.2.2.2.1
def dX11_stands0_19 := bX11_stands0_0.2.2.2.2.2.2.2.2.2.2.2.2.1
def dX11_stands0_20 := bX11_stands0_0.2.2.2.2.2.2.2.2.2.2.2.2.2.1
def dX11_stands0_23 := bX11_stands0_0.2.2.2.2.2.2.2.2.2.2.2.2.2.2.1
def dX11_stands0_26 := bX11_stands0_0.2.2.2.2.2.2.2.2.2.2.2.2.2.2.2
theorem bX11_stands0_27 : decode cX11_stands0 27 = .ok (.istore_n 1, 1) ∧ decode cX11_stands0 28 = .ok (.iload_n 1, 1) ∧ decode cX11_stands0 29 = .ok (.bipush 25, 2) ∧ decode cX11_stands0 31 = .ok (.if_icmp .ge 16, 3) ∧ decode cX11_stands0 34 = .ok (.aload_n 0, 1) ∧ decode cX11_stands0 35 = .ok (.getfield 46, 3) ∧ decode cX11_stands0 38 = .ok (.iload_n 1, 1) ∧ decode cX11_stands0 39 = .ok (.iconst 0, 1) ∧ decode cX11_stands0 40 = .ok (.iastore, 1) ∧ decode cX11_stands0 41 = .ok (.iinc 1 1, 3) ∧ decode cX11_stands0 44 = .ok (.goto (-16), 3) ∧ decode cX11_stands0 47 = .ok (.aload_n 0, 1) ∧ decode cX11_stands0 48 = .ok (.getfield 46, 3) ∧ decode cX11_stands0 51 = .ok (.iconst 0, 1) ∧ decode cX11_stands0 52 = .ok (.aload_n 0, 1) ∧ decode cX11_stands0 53 = .ok (.getfield 23, 3) := by decide +kernel
def dX11_stands0_27 := bX11_stands0_27.1
def dX11_stands0_28 := bX11_stands0_27.2.1
def dX11_stands0_29 := bX11_stands0_27.2.2.1
def dX11_stands0_31 := bX11_stands0_27.2.2.2.1
def dX11_stands0_34 := bX11_stands0_27.2.2.2.2.1
def dX11_stands0_35 := bX11_stands0_27.2.2.2.2.2.1
def dX11_stands0_38 := bX11_stands0_27.2.2.2.2.2.2.1
def dX11_stands0_39 := bX11_stands0_27.2.2.2.2.2.2.2.1
def dX11_stands0_40 := bX11_stands0_27.2.2.2.2.2.2.2.2.1
def dX11_stands0_41 := bX11_stands0_27.2.2.2.2.2.2.2.2.2.1
def dX11_stands0_44 := bX11_stands0_27.2.2.2.2.2.2.2.2.2.2.1
def dX11_stands0_47 := bX11_stands0_27.2.2.2.2.2.2.2.2.2.2.2.1
def dX11_stands0_48 := bX11_stands0_27.2.2.2.2.2.2.2.2.2.2.2.2.1
def dX11_stands0_51 := bX11_stands0_27.2.2.2.2.2.2.2.2.2.2.2.2.2.1
def dX11_stands0_52 := bX11_stands0_27.2.2.2.2.2.2.2.2.2.2.2.2.2.2.1
def dX11_stands0_53 := bX11_stands0_27.2.2.2.2.2.2.2.2.2.2.2.2.2.2.2
theorem bX11_stands0_56 : decode cX11_stands0 56 = .ok (.iconst 1, 1) ∧ decode cX11_stands0 57 = .ok (.iaload, 1) ∧ decode cX11_stands0 58 = .ok (.iastore, 1) ∧ decode cX11_stands0 59 = .ok (.aload_n 0, 1) ∧ decode cX11_stands0 60 = .ok (.getfield 46, 3) ∧ decode cX11_stands0 63 = .ok (.iconst 1, 1) ∧ decode cX11_stands0 64 = .ok (.aload_n 0, 1) ∧ decode cX11_stands0 65 = .ok (.getfield 23, 3) ∧ decode cX11_stands0 68 = .ok (.iconst 4, 1) ∧ decode cX11_stands0 69 = .ok (.iaload, 1) ∧ decode cX11_stands0 70 = .ok (.iastore, 1) ∧ decode cX11_stands0 71 = .ok (.aload_n 0, 1) ∧ decode cX11_stands0 72 = .ok (.getfield 46, 3) ∧ decode cX11_stands0 75 = .ok (.iconst 2, 1) ∧ decode cX11_stands0 76 = .ok (.aload_n 0, 1) ∧ decode cX11_stands0 77 = .ok (.getfield 23, 3) := by decide +kernel
def dX11_stands0_56 := bX11_stands0_56.1
def dX11_stands0_57 := bX11_stands0_56.2.1
def dX11_stands0_58 := bX11_stands0_56.2.2.1
def dX11_stands0_59 := bX11_stands0_56.2.2.2.1
def dX11_stands0_60 := bX11_stands0_56.2.2.2.2.1
def dX11_stands0_63 := bX11_stands0_56.2.2.2.2.2.1
def dX11_stands0_64 := bX11_stands0_56.2.2.2.2.2.2.1
def dX11_stands0_65 := bX11_stands0_56.2.2.2.2.2.2.2.1
def dX11_stands0_68 := bX11_stands0_56.2.2.2.2.2.2.2.2.1
def dX11_stands0_69 := bX11_stands0_56.2.2.2.2.2.2.2.2.2.1
def dX11_stands0_70 := bX11_stands0_56.2.2.2.2.2.2.2.2.2.2.1
def dX11_stands0_71 := bX11_stands0_56.2.2.2.2.2.2.2.2.2.2.2.1
def dX11_stands0_72 := bX11_stands0_56.2.2.2.2.2.2.2.2.2.2.2.2.1
def dX11_stands0_75 := bX11_stands0_56.2.2.2.2.2.2.2.2.2.2.2.2.2.1
def dX11_stands0_76 := bX11_stands0_56.2.2.2.2.2.2.2.2.2.2.2.2.2.2.1
def dX11_stands0_77 := bX11_stands0_56.2.2.2.2.2.2.2.2.2.2.2.2.2.2.2
theorem bX11_stands0_80 : decode cX11_stands0 80 = .ok (.bipush 7, 2) ∧ decode cX11_stands0 82 = .ok (.iaload, 1) ∧ decode cX11_stands0 83 = .ok (.iastore, 1) ∧ decode cX11_stands0 84 = .ok (.aload_n 0, 1) ∧ decode cX11_stands0 85 = .ok (.getfield 46, 3) ∧ decode cX11_stands0 88 = .ok (.iconst 3, 1) ∧ decode cX11_stands0 89 = .ok (.aload_n 0, 1) ∧ decode cX11_stands0 90 = .ok (.getfield 23, 3) ∧ decode cX11_stands0 93 = .ok (.iconst 2, 1) ∧ decode cX11_stands0 94 = .ok (.iaload, 1) ∧ decode cX11_stands0 95 = .ok (.iastore, 1) ∧ decode cX11_stands0 96 = .ok (.aload_n 0, 1) ∧ decode cX11_stands0 97 = .ok (.getfield 46, 3) ∧ decode cX11_stands0 100 = .ok (.iconst 4, 1) ∧ decode cX11_stands0 101 = .ok (.aload_n 0, 1) ∧ decode cX11_stands0 102 = .ok (.getfield 23, 3) := by decide +kernel
def dX11_stands0_80 := bX11_stands0_80.1
def dX11_stands0_82 := bX11_stands0_80.2.1
def dX11_stands0_83 := bX11_stands0_80.2.2.1
def dX11_stands0_84 := bX11_stands0_80.2.2.2.1
def dX11_stands0_85 := bX11_stands0_80.2.2.2.2.1
def dX11_stands0_88 := bX11_stands0_80.2.2.2.2.2.1
def dX11_stands0_89 := bX11_stands0_80.2.2.2.2.2.2.1
def dX11_stands0_90 := bX11_stands0_80.2.2.2.2.2.2.2.1
def dX11_stands0_93 := bX11_stands0_80.2.2.2.2.2.2.2.2.1
def dX11_stands0_94 := bX11_stands0_80.2.2.2.2.2.2.2.2.2.1
def dX11_stands0_95 := bX11_stands0_80.2.2.2.2.2.2.2.2.2.2.1
def dX11_stands0_96 := bX11_stands0_80.2.2.2.2.2.2.2.2.2.2.2.1
def dX11_stands0_97 := bX11_stands0_80.2.2.2.2.2.2.2.2.2.2.2.2.1
def dX11_stands0_100 := bX11_stands0_80.2.2.2.2.2.2.2.2.2.2.2.2.2.1
def dX11_stands0_101 := bX11_stands0_80.2.2.2.2.2.2.2.2.2.2.2.2.2.2.1
def dX11_stands0_102 := bX11_stands0_80.2.2.2.2.2.2.2.2.2.2.2.2.2.2.2
theorem bX11_stands0_105 : decode cX11_stands0 105 = .ok (.iconst 5, 1) ∧ decode cX11_stands0 106 = .ok (.iaload, 1) ∧ decode cX11_stands0 107 = .ok (.iastore, 1) ∧ decode cX11_stands0 108 = .ok (.aload_n 0, 1) ∧ decode cX11_stands0 109 = .ok (.getfield 46, 3) ∧ decode cX11_stands0 112 = .ok (.iconst 5, 1) ∧ decode cX11_stands0 113 = .ok (.aload_n 0, 1) ∧ decode cX11_stands0 114 = .ok (.getfield 23, 3) ∧ decode cX11_stands0 117 = .ok (.bipush 9, 2) ∧ decode cX11_stands0 119 = .ok (.iaload, 1) ∧ decode cX11_stands0 120 = .ok (.iastore, 1) ∧ decode cX11_stands0 121 = .ok (.aload_n 0, 1) ∧ decode cX11_stands0 122 = .ok (.getfield 46, 3) ∧ decode cX11_stands0 125 = .ok (.bipush 10, 2) ∧ decode cX11_stands0 127 = .ok (.iconst (-1), 1) ∧ decode cX11_stands0 128 = .ok (.iastore, 1) := by decide +kernel
def dX11_stands0_105 := bX11_stands0_105.1
def dX11_stands0_106 := bX11_stands0_105.2.1
def dX11_stands0_107 := bX11_stands0_105.2.2.1
def dX11_stands0_108 := bX11_stands0_105.2.2.2.1
def dX11_stands0_109 := bX11_stands0_105.2.2.2.2.1
def dX11_stands0_112 := bX11_stands0_105.2.2.2.2.2.1
def dX11_stands0_113 := bX11_stands0_105.2.2.2.2.2.2.1
def dX11_stands0_114 := bX11_stands0_105.2.2.2.2.2.2.2.1
def dX11_stands0_117 := bX11_stands0_105.2.2.2.2.2.2.2.2.1
def dX11_stands0_119 := bX11_stands0_105.2.2.2.2.2.2.2.2.2.1
def dX11_stands0_120 := bX11_stands0_105.2.2.2.2.2.2.2.2.2.2.1
def dX11_stands0_121 := bX11_stands0_105.2.2.2.2.2.2.2.2.2.2.2.1
def dX11_stands0_122 := bX11_stands0_105.2.2.2.2.2.2.2.2.2.2.2.2.1
def dX11_stands0_125 := bX11_stands0_105.2.2.2.2.2.2.2.2.2.2.2.2.2.1
def dX11_stands0_127 := bX11_stands0_105.2.2.2.2.2.2.2.2.2.2.2.2.2.2.1
def dX11_stands0_128 := bX11_stands0_105.2.2.2.2.2.2.2.2.2.2.2.2.2.2.2
theorem bX11_stands0_129 : decode cX11_stands0 129 = .ok (.aload_n 0, 1) ∧ decode cX11_stands0 130 = .ok (.getfield 46, 3) ∧ decode cX11_stands0 133 = .ok (.bipush 11, 2) ∧ decode cX11_stands0 135 = .ok (.iconst (-1), 1) ∧ decode cX11_stands0 136 = .ok (.iastore, 1) ∧ decode cX11_stands0 137 = .ok (.iconst 0, 1) ∧ decode cX11_stands0 138 = .ok (.istore_n 1, 1) ∧ decode cX11_stands0 139 = .ok (.iload_n 1, 1) ∧ decode cX11_stands0 140 = .ok (.aload_n 0, 1) ∧ decode cX11_stands0 141 = .ok (.getfield 23, 3) ∧ decode cX11_stands0 144 = .ok (.iconst 0, 1) ∧ decode cX11_stands0 145 = .ok (.iaload, 1) ∧ decode cX11_stands0 146 = .ok (.if_icmp .ge 55, 3) ∧ decode cX11_stands0 149 = .ok (.iconst 0, 1) ∧ decode cX11_stands0 150 = .ok (.istore_n 2, 1) ∧ decode cX11_stands0 151 = .ok (.iload_n 2, 1) := by decide +kernel
def dX11_stands0_129 := bX11_stands0_129.1
def dX11_stands0_130 := bX11_stands0_129.2.1
def dX11_stands0_133 := bX11_stands0_129.2.2.1
def dX11_stands0_135 := bX11_stands0_129.2.2.2.1
def dX11_stands0_136 := bX11_stands0_129.2.2.2.2.1
def dX11_stands0_137 := bX11_stands0_129.2.2.2.2.2.1
def dX11_stands0_138 := bX11_stands0_129.2.2.2.2.2.2.1
def dX11_stands0_139 := bX11_stands0_129.2.2.2.2.2.2.2.1
def dX11_stands0_140 := bX11_stands0_129.2.2.2.2.2.2.2.2.1
def dX11_stands0_141 := bX11_stands0_129.2.2.2.2.2.2.2.2.2.1
def dX11_stands0_144 := bX11_stands0_129.2.2.2.2.2.2.2.2.2.2.1
def dX11_stands0_145 := bX11_stands0_129.2.2.2.2.2.2.2.2.2.2.2.1
def dX11_stands0_146 := bX11_stands0_129.2.2.2.2.2.2.2.2.2.2.2.2.1
def dX11_stands0_149 := bX11_stands0_129.2.2.2.2.2.2.2.2.2.2.2.2.2.1
def dX11_stands0_150 := bX11_stands0_129.2.2.2.2.2.2.2.2.2.2.2.2.2.2.1
def dX11_stands0_151 := bX11_stands0_129.2.2.2.2.2.2.2.2.2.2.2.2.2.2.2
theorem bX11_stands0_152 : decode cX11_stands0 152 = .ok (.iconst 2, 1) ∧ decode cX11_stands0 153 = .ok (.if_icmp .ge 25, 3) ∧ decode cX11_stands0 156 = .ok (.aload_n 0, 1) ∧ decode cX11_stands0 157 = .ok (.getfield 31, 3) ∧ decode cX11_stands0 160 = .ok (.iload_n 1, 1) ∧ decode cX11_stands0 161 = .ok (.aaload, 1) ∧ decode cX11_stands0 162 = .ok (.iload_n 2, 1) ∧ decode cX11_stands0 163 = .ok (.aload_n 0, 1) ∧ decode cX11_stands0 164 = .ok (.getfield 28, 3) ∧ decode cX11_stands0 167 = .ok (.iload_n 1, 1) ∧ decode cX11_stands0 168 = .ok (.aaload, 1) ∧ decode cX11_stands0 169 = .ok (.iload_n 2, 1) ∧ decode cX11_stands0 170 = .ok (.iaload, 1) ∧ decode cX11_stands0 171 = .ok (.iastore, 1) ∧ decode cX11_stands0 172 = .ok (.iinc 2 1, 3) ∧ decode cX11_stands0 175 = .ok (.goto (-24), 3) := by decide +kernel
def dX11_stands0_152 := bX11_stands0_152.1
def dX11_stands0_153 := bX11_stands0_152.2.1
def dX11_stands0_156 := bX11_stands0_152.2.2.1
def dX11_stands0_157 := bX11_stands0_152.2.2.2.1
def dX11_stands0_160 := bX11_stands0_152.2.2.2.2.1
def dX11_stands0_161 := bX11_stands0_152.2.2.2.2.2.1
def dX11_stands0_162 := bX11_stands0_152.2.2.2.2.2.2.1
def dX11_stands0_163 := bX11_stands0_152.2.2.2.2.2.2.2.1
def dX11_stands0_164 := bX11_stands0_152.2.2.2.2.2.2.2.2.1
def dX11_stands0_167 := bX11_stands0_152.2.2.2.2.2.2.2.2.2.1
def dX11_stands0_168 := bX11_stands0_152.2.2.2.2.2.2.2.2.2.2.1
def dX11_stands0_169 := bX11_stands0_152.2.2.2.2.2.2.2.2.2.2.2.1
def dX11_stands0_170 := bX11_stands0_152.2.2.2.2.2.2.2.2.2.2.2.2.1
def dX11_stands0_171 := bX11_stands0_152.2.2.2.2.2.2.2.2.2.2.2.2.2.1
def dX11_stands0_172 := bX11_stands0_152.2.2.2.2.2.2.2.2.2.2.2.2.2.2.1
def dX11_stands0_175 := bX11_stands0_152.2.2.2.2.2.2.2.2.2.2.2.2.2.2.2
end
section
theorem bX11_stands0_178 : decode cX11_stands0 178 = .ok (.aload_n 0, 1) ∧ decode cX11_stands0 179 = .ok (.getfield 46, 3) ∧ decode cX11_stands0 182 = .ok (.bipush 12, 2) ∧ decode cX11_stands0 184 = .ok (.iload_n 1, 1) ∧ decode cX11_stands0 185 = .ok (.iadd, 1) ∧ decode cX11_stands0 186 = .ok (.aload_n 0, 1) ∧ decode cX11_stands0 187 = .ok (.getfield 31, 3) ∧ decode cX11_stands0 190 = .ok (.iload_n 1, 1) ∧ decode cX11_stands0 191 = .ok (.aaload, 1) ∧ decode cX11_stands0 192 = .ok (.iconst 0, 1) ∧ decode cX11_stands0 193 = .ok (.iaload, 1) ∧ decode cX11_stands0 194 = .ok (.iastore, 1) ∧ decode cX11_stands0 195 = .ok (.iinc 1 1, 3) ∧ decode cX11_stands0 198 = .ok (.goto (-59), 3) ∧ decode cX11_stands0 201 = .ok (.iconst 0, 1) ∧ decode cX11_stands0 202 = .ok (.istore_n 1, 1) := by decide +kernel
def dX11_stands0_178 := bX11_stands0_178.1
def dX11_stands0_179 := bX11_stands0_178.2.1
def dX11_stands0_182 := bX11_stands0_178.2.2.1
def dX11_stands0_184 := bX11_stands0_178.2.2.2.1
def dX11_stands0_185 := bX11_stands0_178.2.2.2.2.1
def dX11_stands0_186 := bX11_stands0_178.2.2.2.2.2.1
def dX11_stands0_187 := bX11_stands0_178.2.2.2.2.2.2.1
def dX11_stands0_190 := bX11_stands0_178.2.2.2.2.2.2.2.1
def dX11_stands0_191 := bX11_stands0_178.2.2.2.2.2.2.2.2.1
def dX11_stands0_192 := bX11_stands0_178.2.2.2.2.2.2.2.2.2.1
def dX11_stands0_193 := bX11_stands0_178.2.2.2.2.2.2.2.2.2.2.1
def dX11_stands0_194 := bX11_stands0_178.2.2.2.2.2.2.2.2.2.2.2.1
def dX11_stands0_195 := bX11_stands0_178.2.2.2.2.2.2.2.2.2.2.2.2.1
def dX11_stands0_198 := bX11_stands0_178.2.2.2.2.2.2.2.2.2.2.2.2.2.1
def dX11_stands0_201 := bX11_stands0_178.2.2.2.2.2.2.2.2.2.2.2.2.2.2.1
def dX11_stands0_202 := bX11_stands0_178.2.2.2.2.2.2.2.2.2.2.2.2.2.2.2
theorem bX11_stands0_203 : decode cX11_stands0 203 = .ok (.iload_n 1, 1) ∧ decode cX11_stands0 204 = .ok (.bipush 120, 2) ∧ decode cX11_stands0 206 = .ok (.if_icmp .ge 32, 3) ∧ decode cX11_stands0 209 = .ok (.iconst 0, 1) ∧ decode cX11_stands0 210 = .ok (.istore_n 2, 1) ∧ decode cX11_stands0 211 = .ok (.iload_n 2, 1) ∧ decode cX11_stands0 212 = .ok (.bipush 6, 2) ∧ decode cX11_stands0 214 = .ok (.if_icmp .ge 18, 3) ∧ decode cX11_stands0 217 = .ok (.aload_n 0, 1) ∧ decode cX11_stands0 218 = .ok (.getfield 55, 3) ∧ decode cX11_stands0 221 = .ok (.iload_n 1, 1) ∧ decode cX11_stands0 222 = .ok (.aaload, 1) ∧ decode cX11_stands0 223 = .ok (.iload_n 2, 1) ∧ decode cX11_stands0 224 = .ok (.iconst 0, 1) ∧ decode cX11_stands0 225 = .ok (.iastore, 1) ∧ decode cX11_stands0 226 = .ok (.iinc 2 1, 3) := by decide +kernel
def dX11_stands0_203 := bX11_stands0_203.1
def dX11_stands0_204 := bX11_stands0_203.2.1
def dX11_stands0_206 := bX11_stands0_203.2.2.1
def dX11_stands0_209 := bX11_stands0_203.2.2.2.1
def dX11_stands0_210 := bX11_stands0_203.2.2.2.2.1
def dX11_stands0_211 := bX11_stands0_203.2.2.2.2.2.1
def dX11_stands0_212 := bX11_stands0_203.2.2.2.2.2.2.1
def dX11_stands0_214 := bX11_stands0_203.2.2.2.2.2.2.2.1
def dX11_stands0_217 := bX11_stands0_203.2.2.2.2.2.2.2.2.1
def dX11_stands0_218 := bX11_stands0_203.2.2.2.2.2.2.2.2.2.1
def dX11_stands0_221 := bX11_stands0_203.2.2.2.2.2.2.2.2.2.2.1
def dX11_stands0_222 := bX11_stands0_203.2.2.2.2.2.2.2.2.2.2.2.1
def dX11_stands0_223 := bX11_stands0_203.2.2.2.2.2.2.2.2.2.2.2.2.1
def dX11_stands0_224 := bX11_stands0_203.2.2.2.2.2.2.2.2.2.2.2.2.2.1
def dX11_stands0_225 := bX11_stands0_203.2.2.2.2.2.2.2.2.2.2.2.2.2.2.1
def dX11_stands0_226 := bX11_stands0_203.2.2.2.2.2.2.2.2.2.2.2.2.2.2.2
theorem bX11_stands0_229 : decode cX11_stands0 229 = .ok (.goto (-18), 3) ∧ decode cX11_stands0 232 = .ok (.iinc 1 1, 3) ∧ decode cX11_stands0 235 = .ok (.goto (-32), 3) ∧ decode cX11_stands0 238 = .ok (.iconst 0, 1) ∧ decode cX11_stands0 239 = .ok (.istore_n 1, 1) ∧ decode cX11_stands0 240 = .ok (.iload_n 1, 1) ∧ decode cX11_stands0 241 = .ok (.iconst 4, 1) ∧ decode cX11_stands0 242 = .ok (.if_icmp .ge 32, 3) ∧ decode cX11_stands0 245 = .ok (.iconst 0, 1) ∧ decode cX11_stands0 246 = .ok (.istore_n 2, 1) ∧ decode cX11_stands0 247 = .ok (.iload_n 2, 1) ∧ decode cX11_stands0 248 = .ok (.iconst 2, 1) ∧ decode cX11_stands0 249 = .ok (.if_icmp .ge 19, 3) ∧ decode cX11_stands0 252 = .ok (.aload_n 0, 1) ∧ decode cX11_stands0 253 = .ok (.getfield 64, 3) ∧ decode cX11_stands0 256 = .ok (.iload_n 1, 1) := by decide +kernel
def dX11_stands0_229 := bX11_stands0_229.1
def dX11_stands0_232 := bX11_stands0_229.2.1
def dX11_stands0_235 := bX11_stands0_229.2.2.1
def dX11_stands0_238 := bX11_stands0_229.2.2.2.1
def dX11_stands0_239 := bX11_stands0_229.2.2.2.2.1
def dX11_stands0_240 := bX11_stands0_229.2.2.2.2.2.1
def dX11_stands0_241 := bX11_stands0_229.2.2.2.2.2.2.1
def dX11_stands0_242 := bX11_stands0_229.2.2.2.2.2.2.2.1
def dX11_stands0_245 := bX11_stands0_229.2.2.2.2.2.2.2.2.1
def dX11_stands0_246 := bX11_stands0_229.2.2.2.2.2.2.2.2.2.1
def dX11_stands0_247 := bX11_stands0_229.2.2.2.2.2.2.2.2.2.2.1
def dX11_stands0_248 := bX11_stands0_229.2.2.2.2.2.2.2.2.2.2.2.1
def dX11_stands0_249 := bX11_stands0_229.2.2.2.2.2.2.2.2.2.2.2.2.1
def dX11_stands0_252 := bX11_stands0_229.2.2.2.2.2.2.2.2.2.2.2.2.2.1
def dX11_stands0_253 := bX11_stands0_229.2.2.2.2.2.2.2.2.2.2.2.2.2.2.1
def dX11_stands0_256 := bX11_stands0_229.2.2.2.2.2.2.2.2.2.2.2.2.2.2.2
theorem bX11_stands0_257 : decode cX11_stands0 257 = .ok (.aaload, 1) ∧ decode cX11_stands0 258 = .ok (.iload_n 2, 1) ∧ decode cX11_stands0 259 = .ok (.bipush 8, 2) ∧ decode cX11_stands0 261 = .ok (.iastore, 1) ∧ decode cX11_stands0 262 = .ok (.iinc 2 1, 3) ∧ decode cX11_stands0 265 = .ok (.goto (-18), 3) ∧ decode cX11_stands0 268 = .ok (.iinc 1 1, 3) ∧ decode cX11_stands0 271 = .ok (.goto (-31), 3) ∧ decode cX11_stands0 274 = .ok (.iconst 0, 1) ∧ decode cX11_stands0 275 = .ok (.istore_n 1, 1) ∧ decode cX11_stands0 276 = .ok (.iload_n 1, 1) ∧ decode cX11_stands0 277 = .ok (.iconst 2, 1) ∧ decode cX11_stands0 278 = .ok (.if_icmp .ge 32, 3) ∧ decode cX11_stands0 281 = .ok (.iconst 0, 1) ∧ decode cX11_stands0 282 = .ok (.istore_n 2, 1) ∧ decode cX11_stands0 283 = .ok (.iload_n 2, 1) := by decide +kernel
def dX11_stands0_257 := bX11_stands0_257.1
def dX11_stands0_258 := bX11_stands0_257.2.1
def dX11_stands0_259 := bX11_stands0_257.2.2.1
def dX11_stands0_261 := bX11_stands0_257.2.2.2.1
def dX11_stands0_262 := bX11_stands0_257.2.2.2.2.1
def dX11_stands0_265 := bX11_stands0_257.2.2.2.2.2.1
def dX11_stands0_268 := bX11_stands0_257.2.2.2.2.2.2.1
def dX11_stands0_271 := bX11_stands0_257.2.2.2.2.2.2.2.1
def dX11_stands0_274 := bX11_stands0_257.2.2.2.2.2.2.2.2.1
def dX11_stands0_275 := bX11_stands0_257.2.2.2.2.2.2.2.2.2.1
def dX11_stands0_276 := bX11_stands0_257.2.2.2.2.2.2.2.2.2.2.1
def dX11_stands0_277 := bX11_stands0_257.2.2.2.2.2.2.2.2.2.2.2.1
def dX11_stands0_278 := bX11_stands0_257.2.2.2.2.2.2.2.2.2.2.2.2.1
def dX11_stands0_281 := bX11_stands0_257.2.2.2.2.2.2.2.2.2.2.2.2.2.1
def dX11_stands0_282 := bX11_stands0_257.2.2.2.2.2.2.2.2.2.2.2.2.2.2.1
def dX11_stands0_283 := bX11_stands0_257.2.2.2.2.2.2.2.2.2.2.2.2.2.2.2
theorem bX11_stands0_284 : decode cX11_stands0 284 = .ok (.bipush 12, 2) ∧ decode cX11_stands0 286 = .ok (.if_icmp .ge 18, 3) ∧ decode cX11_stands0 289 = .ok (.aload_n 0, 1) ∧ decode cX11_stands0 290 = .ok (.getfield 70, 3) ∧ decode cX11_stands0 293 = .ok (.iload_n 1, 1) ∧ decode cX11_stands0 294 = .ok (.aaload, 1) ∧ decode cX11_stands0 295 = .ok (.iload_n 2, 1) ∧ decode cX11_stands0 296 = .ok (.iconst 0, 1) ∧ decode cX11_stands0 297 = .ok (.iastore, 1) ∧ decode cX11_stands0 298 = .ok (.iinc 2 1, 3) ∧ decode cX11_stands0 301 = .ok (.goto (-18), 3) ∧ decode cX11_stands0 304 = .ok (.iinc 1 1, 3) ∧ decode cX11_stands0 307 = .ok (.goto (-31), 3) ∧ decode cX11_stands0 310 = .ok (.aload_n 0, 1) ∧ decode cX11_stands0 311 = .ok (.iconst 0, 1) ∧ decode cX11_stands0 312 = .ok (.putfield 162, 3) := by decide +kernel
def dX11_stands0_284 := bX11_stands0_284.1
def dX11_stands0_286 := bX11_stands0_284.2.1
def dX11_stands0_289 := bX11_stands0_284.2.2.1
def dX11_stands0_290 := bX11_stands0_284.2.2.2.1
def dX11_stands0_293 := bX11_stands0_284.2.2.2.2.1
def dX11_stands0_294 := bX11_stands0_284.2.2.2.2.2.1
def dX11_stands0_295 := bX11_stands0_284.2.2.2.2.2.2.1
def dX11_stands0_296 := bX11_stands0_284.2.2.2.2.2.2.2.1
def dX11_stands0_297 := bX11_stands0_284.2.2.2.2.2.2.2.2.1
def dX11_stands0_298 := bX11_stands0_284.2.2.2.2.2.2.2.2.2.1
def dX11_stands0_301 := bX11_stands0_284.2.2.2.2.2.2.2.2.2.2.1
def dX11_stands0_304 := bX11_stands0_284.2.2.2.2.2.2.2.2.2.2.2.1
def dX11_stands0_307 := bX11_stands0_284.2.2.2.2.2.2.2.2.2.2.2.2.1
def dX11_stands0_310 := bX11_stands0_284.2.2.2.2.2.2.2.2.2.2.2.2.2.1
def dX11_stands0_311 := bX11_stands0_284.2.2.2.2.2.2.2.2.2.2.2.2.2.2.1
def dX11_stands0_312 := bX11_stands0_284.2.2.2.2.2.2.2.2.2.2.2.2.2.2.2
theorem bX11_stands0_315 : decode cX11_stands0 315 = .ok (.aload_n 0, 1) ∧ decode cX11_stands0 316 = .ok (.iconst 1, 1) ∧ decode cX11_stands0 317 = .ok (.putfield 58, 3) ∧ decode cX11_stands0 320 = .ok (.aload_n 0, 1) ∧ decode cX11_stands0 321 = .ok (.iconst 1, 1) ∧ decode cX11_stands0 322 = .ok (.putfield 61, 3) ∧ decode cX11_stands0 325 = .ok (.aload_n 0, 1) ∧ decode cX11_stands0 326 = .ok (.iconst 0, 1) ∧ decode cX11_stands0 327 = .ok (.putfield 165, 3) ∧ decode cX11_stands0 330 = .ok (.aload_n 0, 1) ∧ decode cX11_stands0 331 = .ok (.iconst 0, 1) ∧ decode cX11_stands0 332 = .ok (.putfield 168, 3) ∧ decode cX11_stands0 335 = .ok (.return_, 1) := by decide +kernel
def dX11_stands0_315 := bX11_stands0_315.1
def dX11_stands0_316 := bX11_stands0_315.2.1
def dX11_stands0_317 := bX11_stands0_315.2.2.1
def dX11_stands0_320 := bX11_stands0_315.2.2.2.1
def dX11_stands0_321 := bX11_stands0_315.2.2.2.2.1
def dX11_stands0_322 := bX11_stands0_315.2.2.2.2.2.1
def dX11_stands0_325 := bX11_stands0_315.2.2.2.2.2.2.1
def dX11_stands0_326 := bX11_stands0_315.2.2.2.2.2.2.2.1
def dX11_stands0_327 := bX11_stands0_315.2.2.2.2.2.2.2.2.1
def dX11_stands0_330 := bX11_stands0_315.2.2.2.2.2.2.2.2.2.1
def dX11_stands0_331 := bX11_stands0_315.2.2.2.2.2.2.2.2.2.2.1
def dX11_stands0_332 := bX11_stands0_315.2.2.2.2.2.2.2.2.2.2.2.1
def dX11_stands0_335 := bX11_stands0_315.2.2.2.2.2.2.2.2.2.2.2.2
theorem ggX11_rules_X11_isWord : GoodIn wsX11_rules wsX11_isWord := gW_in gwX11_isWord (fun _ h => List.mem_cons_of_mem _ (List.mem_append_right _ (List.mem_append_right _ (List.mem_append_left _ h))))
set_option maxRecDepth 20000 in
theorem gX11_rules_X11_isWord : GoodIn wsX11_rules (wsV RX11 134 RX11 yX11_isWord wsX11_isWord) := goodIn_app (goodIn_of _ (by decide +kernel)) ggX11_rules_X11_isWord
theorem ggX11_rules_X11_wrong : GoodIn wsX11_rules wsX11_wrong := gW_in gwX11_wrong (fun _ h => List.mem_cons_of_mem _ (List.mem_append_right _ (List.mem_append_right _ (List.mem_append_right _ (List.mem_append_left _ h)))))
set_option maxRecDepth 20000 in
theorem gX11_rules_X11_wrong : GoodIn wsX11_rules (wsV RX11 114 RX11 yX11_wrong wsX11_wrong) := goodIn_app (goodIn_of _ (by decide +kernel)) ggX11_rules_X11_wrong
theorem ggX11_rules_X11_skipWord : GoodIn wsX11_rules wsX11_skipWord := gW_in gwX11_skipWord (fun _ h => List.mem_cons_of_mem _ (List.mem_append_right _ (List.mem_append_right _ (List.mem_append_right _ (List.mem_append_right _ (List.mem_append_left _ h))))))
set_option maxRecDepth 20000 in
theorem gX11_rules_X11_skipWord : GoodIn wsX11_rules (wsV RX11 141 RX11 yX11_skipWord wsX11_skipWord) := goodIn_app (goodIn_of _ (by decide +kernel)) ggX11_rules_X11_skipWord
theorem ggX11_rules_X11_number : GoodIn wsX11_rules wsX11_number := gW_in gwX11_number (fun _ h => List.mem_cons_of_mem _ (List.mem_append_right _ (List.mem_append_right _ (List.mem_append_right _ (List.mem_append_right _ (List.mem_append_right _ (List.mem_append_left _ h)))))))
set_option maxRecDepth 20000 in
theorem gX11_rules_X11_number : GoodIn wsX11_rules (wsV RX11 144 RX11 yX11_number wsX11_number) := goodIn_app (goodIn_of _ (by decide +kernel)) ggX11_rules_X11_number
theorem ggX11_rules_X11_closes : GoodIn wsX11_rules wsX11_closes := gW_in gwX11_closes (fun _ h => List.mem_cons_of_mem _ (List.mem_append_right _ (List.mem_append_right _ (List.mem_append_right _ (List.mem_append_right _ (List.mem_append_right _ (List.mem_append_right _ (h))))))))
set_option maxRecDepth 20000 in
theorem gX11_rules_X11_closes : GoodIn wsX11_rules (wsV RX11 148 RX11 yX11_closes wsX11_closes) := goodIn_app (goodIn_of _ (by decide +kernel)) ggX11_rules_X11_closes
theorem bX11_rules_0 : decode cX11_rules 0 = .ok (.aload_n 0, 1) ∧ decode cX11_rules 1 = .ok (.bipush 16, 2) ∧ decode cX11_rules 3 = .ok (.iconst 1, 1) ∧ decode cX11_rules 4 = .ok (.bipush 25, 2) ∧ decode cX11_rules 6 = .ok (.iconst 0, 1) ∧ decode cX11_rules 7 = .ok (.iconst 0, 1) ∧ decode cX11_rules 8 = .ok (.iconst 0, 1) ∧ decode cX11_rules 9 = .ok (.invokevirtual 134, 3) ∧ decode cX11_rules 12 = .ok (.ifCond .eq 7, 3) ∧ decode cX11_rules 15 = .ok (.iconst 0, 1) ∧ decode cX11_rules 16 = .ok (.goto 128, 3) ∧ decode cX11_rules 19 = .ok (.aload_n 0, 1) ∧ decode cX11_rules 20 = .ok (.bipush 23, 2) ∧ decode cX11_rules 22 = .ok (.bipush 9, 2) ∧ decode cX11_rules 24 = .ok (.bipush 14, 2) ∧ decode cX11_rules 26 = .ok (.bipush 20, 2) := by decide +kernel
def dX11_rules_0 := bX11_rules_0.1
def dX11_rules_1 := bX11_rules_0.2.1
def dX11_rules_3 := bX11_rules_0.2.2.1
def dX11_rules_4 := bX11_rules_0.2.2.2.1
def dX11_rules_6 := bX11_rules_0.2.2.2.2.1
def dX11_rules_7 := bX11_rules_0.2.2.2.2.2.1
def dX11_rules_8 := bX11_rules_0.2.2.2.2.2.2.1
def dX11_rules_9 := bX11_rules_0.2.2.2.2.2.2.2.1
def dX11_rules_12 := bX11_rules_0.2.2.2.2.2.2.2.2.1
def dX11_rules_15 := bX11_rules_0.2.2.2.2.2.2.2.2.2.1
def dX11_rules_16 := bX11_rules_0.2.2.2.2.2.2.2.2.2.2.1
def dX11_rules_19 := bX11_rules_0.2.2.2.2.2.2.2.2.2.2.2.1
def dX11_rules_20 := bX11_rules_0.2.2.2.2.2.2.2.2.2.2.2.2.1
def dX11_rules_22 := bX11_rules_0.2.2.2.2.2.2.2.2.2.2.2.2.2.1
def dX11_rules_24 := bX11_rules_0.2.2.2.2.2.2.2.2.2.2.2.2.2.2.1
def dX11_rules_26 := bX11_rules_0.2.2.2.2.2.2.2.2.2.2.2.2.2.2.2
theorem bX11_rules_28 : decode cX11_rules 28 = .ok (.iconst 5, 1) ∧ decode cX11_rules 29 = .ok (.bipush 18, 2) ∧ decode cX11_rules 31 = .ok (.invokevirtual 134, 3) ∧ decode cX11_rules 34 = .ok (.ifCond .eq 7, 3) ∧ decode cX11_rules 37 = .ok (.iconst 1, 1) ∧ decode cX11_rules 38 = .ok (.goto 106, 3) ∧ decode cX11_rules 41 = .ok (.aload_n 0, 1) ∧ decode cX11_rules 42 = .ok (.bipush 14, 2) ∧ decode cX11_rules 44 = .ok (.iconst 5, 1) ∧ decode cX11_rules 45 = .ok (.iconst 1, 1) ∧ decode cX11_rules 46 = .ok (.bipush 18, 2) ∧ decode cX11_rules 48 = .ok (.iconst 0, 1) ∧ decode cX11_rules 49 = .ok (.iconst 0, 1) ∧ decode cX11_rules 50 = .ok (.invokevirtual 134, 3) ∧ decode cX11_rules 53 = .ok (.ifCond .eq 7, 3) ∧ decode cX11_rules 56 = .ok (.iconst 2, 1) := by decide +kernel
def dX11_rules_28 := bX11_rules_28.1
def dX11_rules_29 := bX11_rules_28.2.1
def dX11_rules_31 := bX11_rules_28.2.2.1
def dX11_rules_34 := bX11_rules_28.2.2.2.1
def dX11_rules_37 := bX11_rules_28.2.2.2.2.1
def dX11_rules_38 := bX11_rules_28.2.2.2.2.2.1
def dX11_rules_41 := bX11_rules_28.2.2.2.2.2.2.1
def dX11_rules_42 := bX11_rules_28.2.2.2.2.2.2.2.1
def dX11_rules_44 := bX11_rules_28.2.2.2.2.2.2.2.2.1
def dX11_rules_45 := bX11_rules_28.2.2.2.2.2.2.2.2.2.1
def dX11_rules_46 := bX11_rules_28.2.2.2.2.2.2.2.2.2.2.1
def dX11_rules_48 := bX11_rules_28.2.2.2.2.2.2.2.2.2.2.2.1
def dX11_rules_49 := bX11_rules_28.2.2.2.2.2.2.2.2.2.2.2.2.1
def dX11_rules_50 := bX11_rules_28.2.2.2.2.2.2.2.2.2.2.2.2.2.1
def dX11_rules_53 := bX11_rules_28.2.2.2.2.2.2.2.2.2.2.2.2.2.2.1
def dX11_rules_56 := bX11_rules_28.2.2.2.2.2.2.2.2.2.2.2.2.2.2.2
theorem bX11_rules_57 : decode cX11_rules 57 = .ok (.goto 87, 3) ∧ decode cX11_rules 60 = .ok (.aload_n 0, 1) ∧ decode cX11_rules 61 = .ok (.iconst 3, 1) ∧ decode cX11_rules 62 = .ok (.bipush 15, 2) ∧ decode cX11_rules 64 = .ok (.bipush 18, 2) ∧ decode cX11_rules 66 = .ok (.bipush 11, 2) ∧ decode cX11_rules 68 = .ok (.bipush 19, 2) ∧ decode cX11_rules 70 = .ok (.iconst 0, 1) ∧ decode cX11_rules 71 = .ok (.invokevirtual 134, 3) ∧ decode cX11_rules 74 = .ok (.ifCond .eq 7, 3) ∧ decode cX11_rules 77 = .ok (.iconst 3, 1) ∧ decode cX11_rules 78 = .ok (.goto 66, 3) ∧ decode cX11_rules 81 = .ok (.aload_n 0, 1) ∧ decode cX11_rules 82 = .ok (.iconst 2, 1) ∧ decode cX11_rules 83 = .ok (.bipush 15, 2) ∧ decode cX11_rules 85 = .ok (.bipush 14, 2) := by decide +kernel
def dX11_rules_57 := bX11_rules_57.1
def dX11_rules_60 := bX11_rules_57.2.1
def dX11_rules_61 := bX11_rules_57.2.2.1
def dX11_rules_62 := bX11_rules_57.2.2.2.1
def dX11_rules_64 := bX11_rules_57.2.2.2.2.1
def dX11_rules_66 := bX11_rules_57.2.2.2.2.2.1
def dX11_rules_68 := bX11_rules_57.2.2.2.2.2.2.1
def dX11_rules_70 := bX11_rules_57.2.2.2.2.2.2.2.1
def dX11_rules_71 := bX11_rules_57.2.2.2.2.2.2.2.2.1
def dX11_rules_74 := bX11_rules_57.2.2.2.2.2.2.2.2.2.1
def dX11_rules_77 := bX11_rules_57.2.2.2.2.2.2.2.2.2.2.1
def dX11_rules_78 := bX11_rules_57.2.2.2.2.2.2.2.2.2.2.2.1
def dX11_rules_81 := bX11_rules_57.2.2.2.2.2.2.2.2.2.2.2.2.1
def dX11_rules_82 := bX11_rules_57.2.2.2.2.2.2.2.2.2.2.2.2.2.1
def dX11_rules_83 := bX11_rules_57.2.2.2.2.2.2.2.2.2.2.2.2.2.2.1
def dX11_rules_85 := bX11_rules_57.2.2.2.2.2.2.2.2.2.2.2.2.2.2.2
theorem bX11_rules_87 : decode cX11_rules 87 = .ok (.bipush 21, 2) ∧ decode cX11_rules 89 = .ok (.bipush 19, 2) ∧ decode cX11_rules 91 = .ok (.iconst 0, 1) ∧ decode cX11_rules 92 = .ok (.invokevirtual 134, 3) ∧ decode cX11_rules 95 = .ok (.ifCond .eq 7, 3) ∧ decode cX11_rules 98 = .ok (.iconst 4, 1) ∧ decode cX11_rules 99 = .ok (.goto 45, 3) ∧ decode cX11_rules 102 = .ok (.aload_n 0, 1) ∧ decode cX11_rules 103 = .ok (.bipush 20, 2) ∧ decode cX11_rules 105 = .ok (.bipush 9, 2) ∧ decode cX11_rules 107 = .ok (.bipush 12, 2) ∧ decode cX11_rules 109 = .ok (.bipush 12, 2) ∧ decode cX11_rules 111 = .ok (.iconst 0, 1) ∧ decode cX11_rules 112 = .ok (.iconst 0, 1) ∧ decode cX11_rules 113 = .ok (.invokevirtual 134, 3) ∧ decode cX11_rules 116 = .ok (.ifCond .eq 7, 3) := by decide +kernel
def dX11_rules_87 := bX11_rules_87.1
def dX11_rules_89 := bX11_rules_87.2.1
def dX11_rules_91 := bX11_rules_87.2.2.1
def dX11_rules_92 := bX11_rules_87.2.2.2.1
def dX11_rules_95 := bX11_rules_87.2.2.2.2.1
def dX11_rules_98 := bX11_rules_87.2.2.2.2.2.1
def dX11_rules_99 := bX11_rules_87.2.2.2.2.2.2.1
def dX11_rules_102 := bX11_rules_87.2.2.2.2.2.2.2.1
def dX11_rules_103 := bX11_rules_87.2.2.2.2.2.2.2.2.1
def dX11_rules_105 := bX11_rules_87.2.2.2.2.2.2.2.2.2.1
def dX11_rules_107 := bX11_rules_87.2.2.2.2.2.2.2.2.2.2.1
def dX11_rules_109 := bX11_rules_87.2.2.2.2.2.2.2.2.2.2.2.1
def dX11_rules_111 := bX11_rules_87.2.2.2.2.2.2.2.2.2.2.2.2.1
def dX11_rules_112 := bX11_rules_87.2.2.2.2.2.2.2.2.2.2.2.2.2.1
def dX11_rules_113 := bX11_rules_87.2.2.2.2.2.2.2.2.2.2.2.2.2.2.1
def dX11_rules_116 := bX11_rules_87.2.2.2.2.2.2.2.2.2.2.2.2.2.2.2
theorem bX11_rules_119 : decode cX11_rules 119 = .ok (.iconst 5, 1) ∧ decode cX11_rules 120 = .ok (.goto 24, 3) ∧ decode cX11_rules 123 = .ok (.aload_n 0, 1) ∧ decode cX11_rules 124 = .ok (.iconst 2, 1) ∧ decode cX11_rules 125 = .ok (.bipush 18, 2) ∧ decode cX11_rules 127 = .ok (.iconst 5, 1) ∧ decode cX11_rules 128 = .ok (.iconst 1, 1) ∧ decode cX11_rules 129 = .ok (.iconst 3, 1) ∧ decode cX11_rules 130 = .ok (.bipush 8, 2) ∧ decode cX11_rules 132 = .ok (.invokevirtual 134, 3) ∧ decode cX11_rules 135 = .ok (.ifCond .eq 8, 3) ∧ decode cX11_rules 138 = .ok (.bipush 6, 2) ∧ decode cX11_rules 140 = .ok (.goto 4, 3) ∧ decode cX11_rules 143 = .ok (.iconst (-1), 1) ∧ decode cX11_rules 144 = .ok (.istore_n 1, 1) ∧ decode cX11_rules 145 = .ok (.iload_n 1, 1) := by decide +kernel
def dX11_rules_119 := bX11_rules_119.1
def dX11_rules_120 := bX11_rules_119.2.1
def dX11_rules_123 := bX11_rules_119.2.2.1
def dX11_rules_124 := bX11_rules_119.2.2.2.1
def dX11_rules_125 := bX11_rules_119.2.2.2.2.1
def dX11_rules_127 := bX11_rules_119.2.2.2.2.2.1
def dX11_rules_128 := bX11_rules_119.2.2.2.2.2.2.1
def dX11_rules_129 := bX11_rules_119.2.2.2.2.2.2.2.1
def dX11_rules_130 := bX11_rules_119.2.2.2.2.2.2.2.2.1
def dX11_rules_132 := bX11_rules_119.2.2.2.2.2.2.2.2.2.1
def dX11_rules_135 := bX11_rules_119.2.2.2.2.2.2.2.2.2.2.1
def dX11_rules_138 := bX11_rules_119.2.2.2.2.2.2.2.2.2.2.2.1
def dX11_rules_140 := bX11_rules_119.2.2.2.2.2.2.2.2.2.2.2.2.1
def dX11_rules_143 := bX11_rules_119.2.2.2.2.2.2.2.2.2.2.2.2.2.1
def dX11_rules_144 := bX11_rules_119.2.2.2.2.2.2.2.2.2.2.2.2.2.2.1
def dX11_rules_145 := bX11_rules_119.2.2.2.2.2.2.2.2.2.2.2.2.2.2.2
theorem bX11_rules_146 : decode cX11_rules 146 = .ok (.iconst (-1), 1) ∧ decode cX11_rules 147 = .ok (.if_icmp .ne 15, 3) ∧ decode cX11_rules 150 = .ok (.aload_n 0, 1) ∧ decode cX11_rules 151 = .ok (.iconst 1, 1) ∧ decode cX11_rules 152 = .ok (.aload_n 0, 1) ∧ decode cX11_rules 153 = .ok (.getfield 94, 3) ∧ decode cX11_rules 156 = .ok (.invokevirtual 114, 3) ∧ decode cX11_rules 159 = .ok (.goto 21, 3) ∧ decode cX11_rules 162 = .ok (.aload_n 0, 1) ∧ decode cX11_rules 163 = .ok (.getfield 131, 3) ∧ decode cX11_rules 166 = .ok (.bipush 20, 2) ∧ decode cX11_rules 168 = .ok (.if_icmp .ne 12, 3) ∧ decode cX11_rules 171 = .ok (.aload_n 0, 1) ∧ decode cX11_rules 172 = .ok (.iconst 3, 1) ∧ decode cX11_rules 173 = .ok (.aload_n 0, 1) ∧ decode cX11_rules 174 = .ok (.getfield 94, 3) := by decide +kernel
def dX11_rules_146 := bX11_rules_146.1
def dX11_rules_147 := bX11_rules_146.2.1
def dX11_rules_150 := bX11_rules_146.2.2.1
def dX11_rules_151 := bX11_rules_146.2.2.2.1
def dX11_rules_152 := bX11_rules_146.2.2.2.2.1
def dX11_rules_153 := bX11_rules_146.2.2.2.2.2.1
def dX11_rules_156 := bX11_rules_146.2.2.2.2.2.2.1
def dX11_rules_159 := bX11_rules_146.2.2.2.2.2.2.2.1
def dX11_rules_162 := bX11_rules_146.2.2.2.2.2.2.2.2.1
def dX11_rules_163 := bX11_rules_146.2.2.2.2.2.2.2.2.2.1
def dX11_rules_166 := bX11_rules_146.2.2.2.2.2.2.2.2.2.2.1
def dX11_rules_168 := bX11_rules_146.2.2.2.2.2.2.2.2.2.2.2.1
def dX11_rules_171 := bX11_rules_146.2.2.2.2.2.2.2.2.2.2.2.2.1
def dX11_rules_172 := bX11_rules_146.2.2.2.2.2.2.2.2.2.2.2.2.2.1
def dX11_rules_173 := bX11_rules_146.2.2.2.2.2.2.2.2.2.2.2.2.2.2.1
def dX11_rules_174 := bX11_rules_146.2.2.2.2.2.2.2.2.2.2.2.2.2.2.2
theorem bX11_rules_177 : decode cX11_rules 177 = .ok (.invokevirtual 114, 3) ∧ decode cX11_rules 180 = .ok (.aload_n 0, 1) ∧ decode cX11_rules 181 = .ok (.getfield 101, 3) ∧ decode cX11_rules 184 = .ok (.ifCond .eq 4, 3) ∧ decode cX11_rules 187 = .ok (.return_, 1) ∧ decode cX11_rules 188 = .ok (.aload_n 0, 1) ∧ decode cX11_rules 189 = .ok (.invokevirtual 141, 3) ∧ decode cX11_rules 192 = .ok (.aload_n 0, 1) ∧ decode cX11_rules 193 = .ok (.dup, 1) ∧ decode cX11_rules 194 = .ok (.getfield 131, 3) ∧ decode cX11_rules 197 = .ok (.iconst 1, 1) ∧ decode cX11_rules 198 = .ok (.iadd, 1) ∧ decode cX11_rules 199 = .ok (.putfield 131, 3) ∧ decode cX11_rules 202 = .ok (.iload_n 1, 1) ∧ decode cX11_rules 203 = .ok (.bipush 6, 2) ∧ decode cX11_rules 205 = .ok (.if_icmp .ne 42, 3) := by decide +kernel
def dX11_rules_177 := bX11_rules_177.1
def dX11_rules_180 := bX11_rules_177.2.1
def dX11_rules_181 := bX11_rules_177.2.2.1
def dX11_rules_184 := bX11_rules_177.2.2.2.1
def dX11_rules_187 := bX11_rules_177.2.2.2.2.1
def dX11_rules_188 := bX11_rules_177.2.2.2.2.2.1
def dX11_rules_189 := bX11_rules_177.2.2.2.2.2.2.1
def dX11_rules_192 := bX11_rules_177.2.2.2.2.2.2.2.1
def dX11_rules_193 := bX11_rules_177.2.2.2.2.2.2.2.2.1
def dX11_rules_194 := bX11_rules_177.2.2.2.2.2.2.2.2.2.1
def dX11_rules_197 := bX11_rules_177.2.2.2.2.2.2.2.2.2.2.1
def dX11_rules_198 := bX11_rules_177.2.2.2.2.2.2.2.2.2.2.2.1
def dX11_rules_199 := bX11_rules_177.2.2.2.2.2.2.2.2.2.2.2.2.1
def dX11_rules_202 := bX11_rules_177.2.2.2.2.2.2.2.2.2.2.2.2.2.1
def dX11_rules_203 := bX11_rules_177.2.2.2.2.2.2.2.2.2.2.2.2.2.2.1
def dX11_rules_205 := bX11_rules_177.2.2.2.2.2.2.2.2.2.2.2.2.2.2.2
theorem bX11_rules_208 : decode cX11_rules 208 = .ok (.aload_n 0, 1) ∧ decode cX11_rules 209 = .ok (.iconst 0, 1) ∧ decode cX11_rules 210 = .ok (.aload_n 0, 1) ∧ decode cX11_rules 211 = .ok (.getfield 23, 3) ∧ decode cX11_rules 214 = .ok (.iconst 0, 1) ∧ decode cX11_rules 215 = .ok (.iaload, 1) ∧ decode cX11_rules 216 = .ok (.iconst 1, 1) ∧ decode cX11_rules 217 = .ok (.isub, 1) ∧ decode cX11_rules 218 = .ok (.invokevirtual 144, 3) ∧ decode cX11_rules 221 = .ok (.istore_n 2, 1) ∧ decode cX11_rules 222 = .ok (.aload_n 0, 1) ∧ decode cX11_rules 223 = .ok (.iconst 0, 1) ∧ decode cX11_rules 224 = .ok (.bipush 35, 2) ∧ decode cX11_rules 226 = .ok (.invokevirtual 144, 3) ∧ decode cX11_rules 229 = .ok (.istore_n 3, 1) ∧ decode cX11_rules 230 = .ok (.aload_n 0, 1) := by decide +kernel
def dX11_rules_208 := bX11_rules_208.1
def dX11_rules_209 := bX11_rules_208.2.1
def dX11_rules_210 := bX11_rules_208.2.2.1
def dX11_rules_211 := bX11_rules_208.2.2.2.1
def dX11_rules_214 := bX11_rules_208.2.2.2.2.1
def dX11_rules_215 := bX11_rules_208.2.2.2.2.2.1
def dX11_rules_216 := bX11_rules_208.2.2.2.2.2.2.1
def dX11_rules_217 := bX11_rules_208.2.2.2.2.2.2.2.1
def dX11_rules_218 := bX11_rules_208.2.2.2.2.2.2.2.2.1
def dX11_rules_221 := bX11_rules_208.2.2.2.2.2.2.2.2.2.1
def dX11_rules_222 := bX11_rules_208.2.2.2.2.2.2.2.2.2.2.1
def dX11_rules_223 := bX11_rules_208.2.2.2.2.2.2.2.2.2.2.2.1
def dX11_rules_224 := bX11_rules_208.2.2.2.2.2.2.2.2.2.2.2.2.1
def dX11_rules_226 := bX11_rules_208.2.2.2.2.2.2.2.2.2.2.2.2.2.1
def dX11_rules_229 := bX11_rules_208.2.2.2.2.2.2.2.2.2.2.2.2.2.2.1
def dX11_rules_230 := bX11_rules_208.2.2.2.2.2.2.2.2.2.2.2.2.2.2.2
theorem bX11_rules_231 : decode cX11_rules 231 = .ok (.getfield 101, 3) ∧ decode cX11_rules 234 = .ok (.ifCond .ne 10, 3) ∧ decode cX11_rules 237 = .ok (.aload_n 0, 1) ∧ decode cX11_rules 238 = .ok (.getfield 37, 3) ∧ decode cX11_rules 241 = .ok (.iload_n 3, 1) ∧ decode cX11_rules 242 = .ok (.iload_n 2, 1) ∧ decode cX11_rules 243 = .ok (.iastore, 1) ∧ decode cX11_rules 244 = .ok (.goto 56, 3) ∧ decode cX11_rules 247 = .ok (.aload_n 0, 1) ∧ decode cX11_rules 248 = .ok (.getfield 34, 3) ∧ decode cX11_rules 251 = .ok (.iload_n 1, 1) ∧ decode cX11_rules 252 = .ok (.aload_n 0, 1) ∧ decode cX11_rules 253 = .ok (.iload_n 1, 1) ∧ decode cX11_rules 254 = .ok (.iconst 5, 1) ∧ decode cX11_rules 255 = .ok (.if_icmp .ne 7, 3) ∧ decode cX11_rules 258 = .ok (.iconst 1, 1) := by decide +kernel
def dX11_rules_231 := bX11_rules_231.1
def dX11_rules_234 := bX11_rules_231.2.1
def dX11_rules_237 := bX11_rules_231.2.2.1
def dX11_rules_238 := bX11_rules_231.2.2.2.1
def dX11_rules_241 := bX11_rules_231.2.2.2.2.1
def dX11_rules_242 := bX11_rules_231.2.2.2.2.2.1
def dX11_rules_243 := bX11_rules_231.2.2.2.2.2.2.1
def dX11_rules_244 := bX11_rules_231.2.2.2.2.2.2.2.1
def dX11_rules_247 := bX11_rules_231.2.2.2.2.2.2.2.2.1
def dX11_rules_248 := bX11_rules_231.2.2.2.2.2.2.2.2.2.1
def dX11_rules_251 := bX11_rules_231.2.2.2.2.2.2.2.2.2.2.1
def dX11_rules_252 := bX11_rules_231.2.2.2.2.2.2.2.2.2.2.2.1
def dX11_rules_253 := bX11_rules_231.2.2.2.2.2.2.2.2.2.2.2.2.1
def dX11_rules_254 := bX11_rules_231.2.2.2.2.2.2.2.2.2.2.2.2.2.1
def dX11_rules_255 := bX11_rules_231.2.2.2.2.2.2.2.2.2.2.2.2.2.2.1
def dX11_rules_258 := bX11_rules_231.2.2.2.2.2.2.2.2.2.2.2.2.2.2.2
theorem bX11_rules_259 : decode cX11_rules 259 = .ok (.goto 4, 3) ∧ decode cX11_rules 262 = .ok (.iconst 0, 1) ∧ decode cX11_rules 263 = .ok (.iload_n 1, 1) ∧ decode cX11_rules 264 = .ok (.iconst 2, 1) ∧ decode cX11_rules 265 = .ok (.if_icmp .ge 9, 3) ∧ decode cX11_rules 268 = .ok (.sipush 999, 3) ∧ decode cX11_rules 271 = .ok (.goto 25, 3) ∧ decode cX11_rules 274 = .ok (.iload_n 1, 1) ∧ decode cX11_rules 275 = .ok (.iconst 2, 1) ∧ decode cX11_rules 276 = .ok (.if_icmp .ne 8, 3) ∧ decode cX11_rules 279 = .ok (.bipush 9, 2) ∧ decode cX11_rules 281 = .ok (.goto 15, 3) ∧ decode cX11_rules 284 = .ok (.iload_n 1, 1) ∧ decode cX11_rules 285 = .ok (.iconst 5, 1) ∧ decode cX11_rules 286 = .ok (.if_icmp .ne 8, 3) ∧ decode cX11_rules 289 = .ok (.bipush 36, 2) := by decide +kernel
def dX11_rules_259 := bX11_rules_259.1
def dX11_rules_262 := bX11_rules_259.2.1
def dX11_rules_263 := bX11_rules_259.2.2.1
def dX11_rules_264 := bX11_rules_259.2.2.2.1
def dX11_rules_265 := bX11_rules_259.2.2.2.2.1
def dX11_rules_268 := bX11_rules_259.2.2.2.2.2.1
def dX11_rules_271 := bX11_rules_259.2.2.2.2.2.2.1
def dX11_rules_274 := bX11_rules_259.2.2.2.2.2.2.2.1
def dX11_rules_275 := bX11_rules_259.2.2.2.2.2.2.2.2.1
def dX11_rules_276 := bX11_rules_259.2.2.2.2.2.2.2.2.2.1
def dX11_rules_279 := bX11_rules_259.2.2.2.2.2.2.2.2.2.2.1
def dX11_rules_281 := bX11_rules_259.2.2.2.2.2.2.2.2.2.2.2.1
def dX11_rules_284 := bX11_rules_259.2.2.2.2.2.2.2.2.2.2.2.2.1
def dX11_rules_285 := bX11_rules_259.2.2.2.2.2.2.2.2.2.2.2.2.2.1
def dX11_rules_286 := bX11_rules_259.2.2.2.2.2.2.2.2.2.2.2.2.2.2.1
def dX11_rules_289 := bX11_rules_259.2.2.2.2.2.2.2.2.2.2.2.2.2.2.2
theorem bX11_rules_291 : decode cX11_rules 291 = .ok (.goto 5, 3) ∧ decode cX11_rules 294 = .ok (.bipush 99, 2) ∧ decode cX11_rules 296 = .ok (.invokevirtual 144, 3) ∧ decode cX11_rules 299 = .ok (.iastore, 1) ∧ decode cX11_rules 300 = .ok (.aload_n 0, 1) ∧ decode cX11_rules 301 = .ok (.invokevirtual 148, 3) ∧ decode cX11_rules 304 = .ok (.return_, 1) := by decide +kernel
def dX11_rules_291 := bX11_rules_291.1
def dX11_rules_294 := bX11_rules_291.2.1
def dX11_rules_296 := bX11_rules_291.2.2.1
def dX11_rules_299 := bX11_rules_291.2.2.2.1
def dX11_rules_300 := bX11_rules_291.2.2.2.2.1
def dX11_rules_301 := bX11_rules_291.2.2.2.2.2.1
def dX11_rules_304 := bX11_rules_291.2.2.2.2.2.2
theorem ggX11_contract_X11_in : GoodIn wsX11_contract wsX11_in := gW_in gwX11_in (fun _ h => List.mem_cons_of_mem _ (List.mem_append_right _ (List.mem_append_right _ (List.mem_append_left _ h))))
set_option maxRecDepth 20000 in
theorem gX11_contract_X11_in : GoodIn wsX11_contract (va_wsS RX11 119 yX11_in wsX11_in) := goodIn_app (goodIn_of _ (by decide +kernel)) ggX11_contract_X11_in
theorem ggX11_contract_X11_bad : GoodIn wsX11_contract wsX11_bad := gW_in gwX11_bad (fun _ h => List.mem_cons_of_mem _ (List.mem_append_right _ (List.mem_append_right _ (List.mem_append_right _ (List.mem_append_left _ h)))))
set_option maxRecDepth 20000 in
theorem gX11_contract_X11_bad : GoodIn wsX11_contract (wsV RX11 151 RX11 yX11_bad wsX11_bad) := goodIn_app (goodIn_of _ (by decide +kernel)) ggX11_contract_X11_bad
theorem ggX11_contract_X11_starts : GoodIn wsX11_contract wsX11_starts := gW_in gwX11_starts (fun _ h => List.mem_cons_of_mem _ (List.mem_append_right _ (List.mem_append_right _ (List.mem_append_right _ (List.mem_append_right _ (List.mem_append_left _ h))))))
set_option maxRecDepth 20000 in
theorem gX11_contract_X11_starts : GoodIn wsX11_contract (wsV RX11 155 RX11 yX11_starts wsX11_starts) := goodIn_app (goodIn_of _ (by decide +kernel)) ggX11_contract_X11_starts
theorem ggX11_contract_X11_rules : GoodIn wsX11_contract wsX11_rules := gW_in gwX11_rules (fun _ h => List.mem_cons_of_mem _ (List.mem_append_right _ (List.mem_append_right _ (List.mem_append_right _ (List.mem_append_right _ (List.mem_append_right _ (List.mem_append_left _ h)))))))
set_option maxRecDepth 20000 in
theorem gX11_contract_X11_rules : GoodIn wsX11_contract (wsV RX11 171 RX11 yX11_rules wsX11_rules) := goodIn_app (goodIn_of _ (by decide +kernel)) ggX11_contract_X11_rules
theorem ggX11_contract_X11_blanks : GoodIn wsX11_contract wsX11_blanks := gW_in gwX11_blanks (fun _ h => List.mem_cons_of_mem _ (List.mem_append_right _ (List.mem_append_right _ (List.mem_append_right _ (List.mem_append_right _ (List.mem_append_right _ (List.mem_append_right _ (h))))))))
set_option maxRecDepth 20000 in
theorem gX11_contract_X11_blanks : GoodIn wsX11_contract (wsV RX11 107 RX11 yX11_blanks wsX11_blanks) := goodIn_app (goodIn_of _ (by decide +kernel)) ggX11_contract_X11_blanks
theorem bX11_contract_0 : decode cX11_contract 0 = .ok (.aload_n 0, 1) ∧ decode cX11_contract 1 = .ok (.iconst 0, 1) ∧ decode cX11_contract 2 = .ok (.putfield 85, 3) ∧ decode cX11_contract 5 = .ok (.aload_n 0, 1) ∧ decode cX11_contract 6 = .ok (.iload_n 1, 1) ∧ decode cX11_contract 7 = .ok (.iconst 0, 1) ∧ decode cX11_contract 8 = .ok (.aload_n 0, 1) ∧ decode cX11_contract 9 = .ok (.getfield 88, 3) ∧ decode cX11_contract 12 = .ok (.invokestatic 119, 3) ∧ decode cX11_contract 15 = .ok (.ifCond .eq 10, 3) ∧ decode cX11_contract 18 = .ok (.iload_n 1, 1) ∧ decode cX11_contract 19 = .ok (.sipush 200, 3) ∧ decode cX11_contract 22 = .ok (.if_icmp .le 7, 3) ∧ decode cX11_contract 25 = .ok (.iconst 1, 1) ∧ decode cX11_contract 26 = .ok (.goto 4, 3) ∧ decode cX11_contract 29 = .ok (.iconst 0, 1) := by decide +kernel
def dX11_contract_0 := bX11_contract_0.1
def dX11_contract_1 := bX11_contract_0.2.1
def dX11_contract_2 := bX11_contract_0.2.2.1
def dX11_contract_5 := bX11_contract_0.2.2.2.1
def dX11_contract_6 := bX11_contract_0.2.2.2.2.1
def dX11_contract_7 := bX11_contract_0.2.2.2.2.2.1
def dX11_contract_8 := bX11_contract_0.2.2.2.2.2.2.1
def dX11_contract_9 := bX11_contract_0.2.2.2.2.2.2.2.1
def dX11_contract_12 := bX11_contract_0.2.2.2.2.2.2.2.2.1
def dX11_contract_15 := bX11_contract_0.2.2.2.2.2.2.2.2.2.1
def dX11_contract_18 := bX11_contract_0.2.2.2.2.2.2.2.2.2.2.1
def dX11_contract_19 := bX11_contract_0.2.2.2.2.2.2.2.2.2.2.2.1
def dX11_contract_22 := bX11_contract_0.2.2.2.2.2.2.2.2.2.2.2.2.1
def dX11_contract_25 := bX11_contract_0.2.2.2.2.2.2.2.2.2.2.2.2.2.1
def dX11_contract_26 := bX11_contract_0.2.2.2.2.2.2.2.2.2.2.2.2.2.2.1
def dX11_contract_29 := bX11_contract_0.2.2.2.2.2.2.2.2.2.2.2.2.2.2.2
theorem bX11_contract_30 : decode cX11_contract 30 = .ok (.iconst 1, 1) ∧ decode cX11_contract 31 = .ok (.iconst 2, 1) ∧ decode cX11_contract 32 = .ok (.invokevirtual 151, 3) ∧ decode cX11_contract 35 = .ok (.ifCond .eq 5, 3) ∧ decode cX11_contract 38 = .ok (.iconst 0, 1) ∧ decode cX11_contract 39 = .ok (.ireturn, 1) ∧ decode cX11_contract 40 = .ok (.aload_n 0, 1) ∧ decode cX11_contract 41 = .ok (.iload_n 1, 1) ∧ decode cX11_contract 42 = .ok (.invokevirtual 155, 3) ∧ decode cX11_contract 45 = .ok (.aload_n 0, 1) ∧ decode cX11_contract 46 = .ok (.iconst (-1), 1) ∧ decode cX11_contract 47 = .ok (.putfield 9, 3) ∧ decode cX11_contract 50 = .ok (.aload_n 0, 1) ∧ decode cX11_contract 51 = .ok (.getfield 162, 3) ∧ decode cX11_contract 54 = .ok (.bipush 6, 2) ∧ decode cX11_contract 56 = .ok (.if_icmp .ne 5, 3) := by decide +kernel
def dX11_contract_30 := bX11_contract_30.1
def dX11_contract_31 := bX11_contract_30.2.1
def dX11_contract_32 := bX11_contract_30.2.2.1
def dX11_contract_35 := bX11_contract_30.2.2.2.1
def dX11_contract_38 := bX11_contract_30.2.2.2.2.1
def dX11_contract_39 := bX11_contract_30.2.2.2.2.2.1
def dX11_contract_40 := bX11_contract_30.2.2.2.2.2.2.1
def dX11_contract_41 := bX11_contract_30.2.2.2.2.2.2.2.1
def dX11_contract_42 := bX11_contract_30.2.2.2.2.2.2.2.2.1
def dX11_contract_45 := bX11_contract_30.2.2.2.2.2.2.2.2.2.1
def dX11_contract_46 := bX11_contract_30.2.2.2.2.2.2.2.2.2.2.1
def dX11_contract_47 := bX11_contract_30.2.2.2.2.2.2.2.2.2.2.2.1
def dX11_contract_50 := bX11_contract_30.2.2.2.2.2.2.2.2.2.2.2.2.1
def dX11_contract_51 := bX11_contract_30.2.2.2.2.2.2.2.2.2.2.2.2.2.1
def dX11_contract_54 := bX11_contract_30.2.2.2.2.2.2.2.2.2.2.2.2.2.2.1
def dX11_contract_56 := bX11_contract_30.2.2.2.2.2.2.2.2.2.2.2.2.2.2.2
theorem bX11_contract_59 : decode cX11_contract 59 = .ok (.iconst (-1), 1) ∧ decode cX11_contract 60 = .ok (.ireturn, 1) ∧ decode cX11_contract 61 = .ok (.iconst 0, 1) ∧ decode cX11_contract 62 = .ok (.istore_n 2, 1) ∧ decode cX11_contract 63 = .ok (.iload_n 2, 1) ∧ decode cX11_contract 64 = .ok (.bipush 7, 2) ∧ decode cX11_contract 66 = .ok (.if_icmp .ge 45, 3) ∧ decode cX11_contract 69 = .ok (.aload_n 0, 1) ∧ decode cX11_contract 70 = .ok (.getfield 34, 3) ∧ decode cX11_contract 73 = .ok (.iload_n 2, 1) ∧ decode cX11_contract 74 = .ok (.iload_n 2, 1) ∧ decode cX11_contract 75 = .ok (.iconst 1, 1) ∧ decode cX11_contract 76 = .ok (.if_icmp .ne 7, 3) ∧ decode cX11_contract 79 = .ok (.iconst (-1), 1) ∧ decode cX11_contract 80 = .ok (.goto 24, 3) ∧ decode cX11_contract 83 = .ok (.iload_n 2, 1) := by decide +kernel
def dX11_contract_59 := bX11_contract_59.1
def dX11_contract_60 := bX11_contract_59.2.1
def dX11_contract_61 := bX11_contract_59.2.2.1
def dX11_contract_62 := bX11_contract_59.2.2.2.1
def dX11_contract_63 := bX11_contract_59.2.2.2.2.1
def dX11_contract_64 := bX11_contract_59.2.2.2.2.2.1
def dX11_contract_66 := bX11_contract_59.2.2.2.2.2.2.1
def dX11_contract_69 := bX11_contract_59.2.2.2.2.2.2.2.1
def dX11_contract_70 := bX11_contract_59.2.2.2.2.2.2.2.2.1
def dX11_contract_73 := bX11_contract_59.2.2.2.2.2.2.2.2.2.1
def dX11_contract_74 := bX11_contract_59.2.2.2.2.2.2.2.2.2.2.1
def dX11_contract_75 := bX11_contract_59.2.2.2.2.2.2.2.2.2.2.2.1
def dX11_contract_76 := bX11_contract_59.2.2.2.2.2.2.2.2.2.2.2.2.1
def dX11_contract_79 := bX11_contract_59.2.2.2.2.2.2.2.2.2.2.2.2.2.1
def dX11_contract_80 := bX11_contract_59.2.2.2.2.2.2.2.2.2.2.2.2.2.2.1
def dX11_contract_83 := bX11_contract_59.2.2.2.2.2.2.2.2.2.2.2.2.2.2.2
theorem bX11_contract_84 : decode cX11_contract 84 = .ok (.iconst 2, 1) ∧ decode cX11_contract 85 = .ok (.if_icmp .ne 8, 3) ∧ decode cX11_contract 88 = .ok (.bipush 9, 2) ∧ decode cX11_contract 90 = .ok (.goto 14, 3) ∧ decode cX11_contract 93 = .ok (.iload_n 2, 1) ∧ decode cX11_contract 94 = .ok (.iconst 5, 1) ∧ decode cX11_contract 95 = .ok (.if_icmp .ne 8, 3) ∧ decode cX11_contract 98 = .ok (.bipush 36, 2) ∧ decode cX11_contract 100 = .ok (.goto 4, 3) ∧ decode cX11_contract 103 = .ok (.iconst 0, 1) ∧ decode cX11_contract 104 = .ok (.iastore, 1) ∧ decode cX11_contract 105 = .ok (.iinc 2 1, 3) ∧ decode cX11_contract 108 = .ok (.goto (-45), 3) ∧ decode cX11_contract 111 = .ok (.iconst 0, 1) ∧ decode cX11_contract 112 = .ok (.istore_n 2, 1) ∧ decode cX11_contract 113 = .ok (.iload_n 2, 1) := by decide +kernel
def dX11_contract_84 := bX11_contract_84.1
def dX11_contract_85 := bX11_contract_84.2.1
def dX11_contract_88 := bX11_contract_84.2.2.1
def dX11_contract_90 := bX11_contract_84.2.2.2.1
def dX11_contract_93 := bX11_contract_84.2.2.2.2.1
def dX11_contract_94 := bX11_contract_84.2.2.2.2.2.1
def dX11_contract_95 := bX11_contract_84.2.2.2.2.2.2.1
def dX11_contract_98 := bX11_contract_84.2.2.2.2.2.2.2.1
def dX11_contract_100 := bX11_contract_84.2.2.2.2.2.2.2.2.1
def dX11_contract_103 := bX11_contract_84.2.2.2.2.2.2.2.2.2.1
def dX11_contract_104 := bX11_contract_84.2.2.2.2.2.2.2.2.2.2.1
def dX11_contract_105 := bX11_contract_84.2.2.2.2.2.2.2.2.2.2.2.1
def dX11_contract_108 := bX11_contract_84.2.2.2.2.2.2.2.2.2.2.2.2.1
def dX11_contract_111 := bX11_contract_84.2.2.2.2.2.2.2.2.2.2.2.2.2.1
def dX11_contract_112 := bX11_contract_84.2.2.2.2.2.2.2.2.2.2.2.2.2.2.1
def dX11_contract_113 := bX11_contract_84.2.2.2.2.2.2.2.2.2.2.2.2.2.2.2
theorem bX11_contract_114 : decode cX11_contract 114 = .ok (.bipush 36, 2) ∧ decode cX11_contract 116 = .ok (.if_icmp .ge 16, 3) ∧ decode cX11_contract 119 = .ok (.aload_n 0, 1) ∧ decode cX11_contract 120 = .ok (.getfield 37, 3) ∧ decode cX11_contract 123 = .ok (.iload_n 2, 1) ∧ decode cX11_contract 124 = .ok (.iconst (-1), 1) ∧ decode cX11_contract 125 = .ok (.iastore, 1) ∧ decode cX11_contract 126 = .ok (.iinc 2 1, 3) ∧ decode cX11_contract 129 = .ok (.goto (-16), 3) ∧ decode cX11_contract 132 = .ok (.aload_n 0, 1) ∧ decode cX11_contract 133 = .ok (.getfield 101, 3) ∧ decode cX11_contract 136 = .ok (.ifCond .ne 25, 3) ∧ decode cX11_contract 139 = .ok (.aload_n 0, 1) ∧ decode cX11_contract 140 = .ok (.getfield 94, 3) ∧ decode cX11_contract 143 = .ok (.aload_n 0, 1) ∧ decode cX11_contract 144 = .ok (.getfield 91, 3) := by decide +kernel
def dX11_contract_114 := bX11_contract_114.1
def dX11_contract_116 := bX11_contract_114.2.1
def dX11_contract_119 := bX11_contract_114.2.2.1
def dX11_contract_120 := bX11_contract_114.2.2.2.1
def dX11_contract_123 := bX11_contract_114.2.2.2.2.1
def dX11_contract_124 := bX11_contract_114.2.2.2.2.2.1
def dX11_contract_125 := bX11_contract_114.2.2.2.2.2.2.1
def dX11_contract_126 := bX11_contract_114.2.2.2.2.2.2.2.1
def dX11_contract_129 := bX11_contract_114.2.2.2.2.2.2.2.2.1
def dX11_contract_132 := bX11_contract_114.2.2.2.2.2.2.2.2.2.1
def dX11_contract_133 := bX11_contract_114.2.2.2.2.2.2.2.2.2.2.1
def dX11_contract_136 := bX11_contract_114.2.2.2.2.2.2.2.2.2.2.2.1
def dX11_contract_139 := bX11_contract_114.2.2.2.2.2.2.2.2.2.2.2.2.1
def dX11_contract_140 := bX11_contract_114.2.2.2.2.2.2.2.2.2.2.2.2.2.1
def dX11_contract_143 := bX11_contract_114.2.2.2.2.2.2.2.2.2.2.2.2.2.2.1
def dX11_contract_144 := bX11_contract_114.2.2.2.2.2.2.2.2.2.2.2.2.2.2.2
theorem bX11_contract_147 : decode cX11_contract 147 = .ok (.if_icmp .ge 14, 3) ∧ decode cX11_contract 150 = .ok (.aload_n 0, 1) ∧ decode cX11_contract 151 = .ok (.invokevirtual 171, 3) ∧ decode cX11_contract 154 = .ok (.aload_n 0, 1) ∧ decode cX11_contract 155 = .ok (.invokevirtual 107, 3) ∧ decode cX11_contract 158 = .ok (.goto (-26), 3) ∧ decode cX11_contract 161 = .ok (.aload_n 0, 1) ∧ decode cX11_contract 162 = .ok (.aload_n 0, 1) ∧ decode cX11_contract 163 = .ok (.getfield 104, 3) ∧ decode cX11_contract 166 = .ok (.putfield 9, 3) ∧ decode cX11_contract 169 = .ok (.aload_n 0, 1) ∧ decode cX11_contract 170 = .ok (.getfield 101, 3) ∧ decode cX11_contract 173 = .ok (.ifCond .eq 11, 3) ∧ decode cX11_contract 176 = .ok (.aload_n 0, 1) ∧ decode cX11_contract 177 = .ok (.getfield 101, 3) ∧ decode cX11_contract 180 = .ok (.bipush 10, 2) := by decide +kernel
def dX11_contract_147 := bX11_contract_147.1
def dX11_contract_150 := bX11_contract_147.2.1
def dX11_contract_151 := bX11_contract_147.2.2.1
def dX11_contract_154 := bX11_contract_147.2.2.2.1
def dX11_contract_155 := bX11_contract_147.2.2.2.2.1
def dX11_contract_158 := bX11_contract_147.2.2.2.2.2.1
def dX11_contract_161 := bX11_contract_147.2.2.2.2.2.2.1
def dX11_contract_162 := bX11_contract_147.2.2.2.2.2.2.2.1
def dX11_contract_163 := bX11_contract_147.2.2.2.2.2.2.2.2.1
def dX11_contract_166 := bX11_contract_147.2.2.2.2.2.2.2.2.2.1
def dX11_contract_169 := bX11_contract_147.2.2.2.2.2.2.2.2.2.2.1
def dX11_contract_170 := bX11_contract_147.2.2.2.2.2.2.2.2.2.2.2.1
def dX11_contract_173 := bX11_contract_147.2.2.2.2.2.2.2.2.2.2.2.2.1
def dX11_contract_176 := bX11_contract_147.2.2.2.2.2.2.2.2.2.2.2.2.2.1
def dX11_contract_177 := bX11_contract_147.2.2.2.2.2.2.2.2.2.2.2.2.2.2.1
def dX11_contract_180 := bX11_contract_147.2.2.2.2.2.2.2.2.2.2.2.2.2.2.2
theorem bX11_contract_182 : decode cX11_contract 182 = .ok (.isub, 1) ∧ decode cX11_contract 183 = .ok (.ireturn, 1) ∧ decode cX11_contract 184 = .ok (.aload_n 0, 1) ∧ decode cX11_contract 185 = .ok (.getfield 34, 3) ∧ decode cX11_contract 188 = .ok (.iconst 1, 1) ∧ decode cX11_contract 189 = .ok (.aload_n 0, 1) ∧ decode cX11_contract 190 = .ok (.getfield 34, 3) ∧ decode cX11_contract 193 = .ok (.iconst 1, 1) ∧ decode cX11_contract 194 = .ok (.iaload, 1) ∧ decode cX11_contract 195 = .ok (.iconst (-1), 1) ∧ decode cX11_contract 196 = .ok (.if_icmp .ne 12, 3) ∧ decode cX11_contract 199 = .ok (.aload_n 0, 1) ∧ decode cX11_contract 200 = .ok (.getfield 34, 3) ∧ decode cX11_contract 203 = .ok (.iconst 0, 1) ∧ decode cX11_contract 204 = .ok (.iaload, 1) ∧ decode cX11_contract 205 = .ok (.goto 9, 3) := by decide +kernel
def dX11_contract_182 := bX11_contract_182.1
def dX11_contract_183 := bX11_contract_182.2.1
def dX11_contract_184 := bX11_contract_182.2.2.1
def dX11_contract_185 := bX11_contract_182.2.2.2.1
def dX11_contract_188 := bX11_contract_182.2.2.2.2.1
def dX11_contract_189 := bX11_contract_182.2.2.2.2.2.1
def dX11_contract_190 := bX11_contract_182.2.2.2.2.2.2.1
def dX11_contract_193 := bX11_contract_182.2.2.2.2.2.2.2.1
def dX11_contract_194 := bX11_contract_182.2.2.2.2.2.2.2.2.1
def dX11_contract_195 := bX11_contract_182.2.2.2.2.2.2.2.2.2.1
def dX11_contract_196 := bX11_contract_182.2.2.2.2.2.2.2.2.2.2.1
def dX11_contract_199 := bX11_contract_182.2.2.2.2.2.2.2.2.2.2.2.1
def dX11_contract_200 := bX11_contract_182.2.2.2.2.2.2.2.2.2.2.2.2.1
def dX11_contract_203 := bX11_contract_182.2.2.2.2.2.2.2.2.2.2.2.2.2.1
def dX11_contract_204 := bX11_contract_182.2.2.2.2.2.2.2.2.2.2.2.2.2.2.1
def dX11_contract_205 := bX11_contract_182.2.2.2.2.2.2.2.2.2.2.2.2.2.2.2
theorem bX11_contract_208 : decode cX11_contract 208 = .ok (.aload_n 0, 1) ∧ decode cX11_contract 209 = .ok (.getfield 34, 3) ∧ decode cX11_contract 212 = .ok (.iconst 1, 1) ∧ decode cX11_contract 213 = .ok (.iaload, 1) ∧ decode cX11_contract 214 = .ok (.iastore, 1) ∧ decode cX11_contract 215 = .ok (.iconst 0, 1) ∧ decode cX11_contract 216 = .ok (.istore_n 2, 1) ∧ decode cX11_contract 217 = .ok (.iload_n 2, 1) ∧ decode cX11_contract 218 = .ok (.bipush 36, 2) ∧ decode cX11_contract 220 = .ok (.if_icmp .ge 51, 3) ∧ decode cX11_contract 223 = .ok (.aload_n 0, 1) ∧ decode cX11_contract 224 = .ok (.getfield 43, 3) ∧ decode cX11_contract 227 = .ok (.aload_n 0, 1) ∧ decode cX11_contract 228 = .ok (.getfield 162, 3) ∧ decode cX11_contract 231 = .ok (.aaload, 1) ∧ decode cX11_contract 232 = .ok (.iload_n 2, 1) := by decide +kernel
def dX11_contract_208 := bX11_contract_208.1
def dX11_contract_209 := bX11_contract_208.2.1
def dX11_contract_212 := bX11_contract_208.2.2.1
def dX11_contract_213 := bX11_contract_208.2.2.2.1
def dX11_contract_214 := bX11_contract_208.2.2.2.2.1
def dX11_contract_215 := bX11_contract_208.2.2.2.2.2.1
def dX11_contract_216 := bX11_contract_208.2.2.2.2.2.2.1
def dX11_contract_217 := bX11_contract_208.2.2.2.2.2.2.2.1
def dX11_contract_218 := bX11_contract_208.2.2.2.2.2.2.2.2.1
def dX11_contract_220 := bX11_contract_208.2.2.2.2.2.2.2.2.2.1
def dX11_contract_223 := bX11_contract_208.2.2.2.2.2.2.2.2.2.2.1
def dX11_contract_224 := bX11_contract_208.2.2.2.2.2.2.2.2.2.2.2.1
def dX11_contract_227 := bX11_contract_208.2.2.2.2.2.2.2.2.2.2.2.2.1
def dX11_contract_228 := bX11_contract_208.2.2.2.2.2.2.2.2.2.2.2.2.2.1
def dX11_contract_231 := bX11_contract_208.2.2.2.2.2.2.2.2.2.2.2.2.2.2.1
def dX11_contract_232 := bX11_contract_208.2.2.2.2.2.2.2.2.2.2.2.2.2.2.2
theorem bX11_contract_233 : decode cX11_contract 233 = .ok (.aload_n 0, 1) ∧ decode cX11_contract 234 = .ok (.getfield 37, 3) ∧ decode cX11_contract 237 = .ok (.iload_n 2, 1) ∧ decode cX11_contract 238 = .ok (.iaload, 1) ∧ decode cX11_contract 239 = .ok (.iastore, 1) ∧ decode cX11_contract 240 = .ok (.aload_n 0, 1) ∧ decode cX11_contract 241 = .ok (.getfield 34, 3) ∧ decode cX11_contract 244 = .ok (.bipush 6, 2) ∧ decode cX11_contract 246 = .ok (.dup2, 1) ∧ decode cX11_contract 247 = .ok (.iaload, 1) ∧ decode cX11_contract 248 = .ok (.aload_n 0, 1) ∧ decode cX11_contract 249 = .ok (.getfield 37, 3) ∧ decode cX11_contract 252 = .ok (.iload_n 2, 1) ∧ decode cX11_contract 253 = .ok (.iaload, 1) ∧ decode cX11_contract 254 = .ok (.iconst (-1), 1) ∧ decode cX11_contract 255 = .ok (.if_icmp .ne 7, 3) := by decide +kernel
def dX11_contract_233 := bX11_contract_233.1
def dX11_contract_234 := bX11_contract_233.2.1
def dX11_contract_237 := bX11_contract_233.2.2.1
def dX11_contract_238 := bX11_contract_233.2.2.2.1
def dX11_contract_239 := bX11_contract_233.2.2.2.2.1
def dX11_contract_240 := bX11_contract_233.2.2.2.2.2.1
def dX11_contract_241 := bX11_contract_233.2.2.2.2.2.2.1
def dX11_contract_244 := bX11_contract_233.2.2.2.2.2.2.2.1
def dX11_contract_246 := bX11_contract_233.2.2.2.2.2.2.2.2.1
def dX11_contract_247 := bX11_contract_233.2.2.2.2.2.2.2.2.2.1
def dX11_contract_248 := bX11_contract_233.2.2.2.2.2.2.2.2.2.2.1
def dX11_contract_249 := bX11_contract_233.2.2.2.2.2.2.2.2.2.2.2.1
def dX11_contract_252 := bX11_contract_233.2.2.2.2.2.2.2.2.2.2.2.2.1
def dX11_contract_253 := bX11_contract_233.2.2.2.2.2.2.2.2.2.2.2.2.2.1
def dX11_contract_254 := bX11_contract_233.2.2.2.2.2.2.2.2.2.2.2.2.2.2.1
def dX11_contract_255 := bX11_contract_233.2.2.2.2.2.2.2.2.2.2.2.2.2.2.2
theorem bX11_contract_258 : decode cX11_contract 258 = .ok (.iconst 0, 1) ∧ decode cX11_contract 259 = .ok (.goto 4, 3) ∧ decode cX11_contract 262 = .ok (.iconst 1, 1) ∧ decode cX11_contract 263 = .ok (.iadd, 1) ∧ decode cX11_contract 264 = .ok (.iastore, 1) ∧ decode cX11_contract 265 = .ok (.iinc 2 1, 3) ∧ decode cX11_contract 268 = .ok (.goto (-51), 3) ∧ decode cX11_contract 271 = .ok (.iconst 0, 1) ∧ decode cX11_contract 272 = .ok (.istore_n 2, 1) ∧ decode cX11_contract 273 = .ok (.iload_n 2, 1) ∧ decode cX11_contract 274 = .ok (.bipush 7, 2) ∧ decode cX11_contract 276 = .ok (.if_icmp .ge 26, 3) ∧ decode cX11_contract 279 = .ok (.aload_n 0, 1) ∧ decode cX11_contract 280 = .ok (.getfield 40, 3) ∧ decode cX11_contract 283 = .ok (.aload_n 0, 1) ∧ decode cX11_contract 284 = .ok (.getfield 162, 3) := by decide +kernel
def dX11_contract_258 := bX11_contract_258.1
def dX11_contract_259 := bX11_contract_258.2.1
def dX11_contract_262 := bX11_contract_258.2.2.1
def dX11_contract_263 := bX11_contract_258.2.2.2.1
def dX11_contract_264 := bX11_contract_258.2.2.2.2.1
def dX11_contract_265 := bX11_contract_258.2.2.2.2.2.1
def dX11_contract_268 := bX11_contract_258.2.2.2.2.2.2.1
def dX11_contract_271 := bX11_contract_258.2.2.2.2.2.2.2.1
def dX11_contract_272 := bX11_contract_258.2.2.2.2.2.2.2.2.1
def dX11_contract_273 := bX11_contract_258.2.2.2.2.2.2.2.2.2.1
def dX11_contract_274 := bX11_contract_258.2.2.2.2.2.2.2.2.2.2.1
def dX11_contract_276 := bX11_contract_258.2.2.2.2.2.2.2.2.2.2.2.1
def dX11_contract_279 := bX11_contract_258.2.2.2.2.2.2.2.2.2.2.2.2.1
def dX11_contract_280 := bX11_contract_258.2.2.2.2.2.2.2.2.2.2.2.2.2.1
def dX11_contract_283 := bX11_contract_258.2.2.2.2.2.2.2.2.2.2.2.2.2.2.1
def dX11_contract_284 := bX11_contract_258.2.2.2.2.2.2.2.2.2.2.2.2.2.2.2
theorem bX11_contract_287 : decode cX11_contract 287 = .ok (.aaload, 1) ∧ decode cX11_contract 288 = .ok (.iload_n 2, 1) ∧ decode cX11_contract 289 = .ok (.aload_n 0, 1) ∧ decode cX11_contract 290 = .ok (.getfield 34, 3) ∧ decode cX11_contract 293 = .ok (.iload_n 2, 1) ∧ decode cX11_contract 294 = .ok (.iaload, 1) ∧ decode cX11_contract 295 = .ok (.iastore, 1) ∧ decode cX11_contract 296 = .ok (.iinc 2 1, 3) ∧ decode cX11_contract 299 = .ok (.goto (-26), 3) ∧ decode cX11_contract 302 = .ok (.aload_n 0, 1) ∧ decode cX11_contract 303 = .ok (.dup, 1) ∧ decode cX11_contract 304 = .ok (.getfield 162, 3) ∧ decode cX11_contract 307 = .ok (.iconst 1, 1) ∧ decode cX11_contract 308 = .ok (.iadd, 1) ∧ decode cX11_contract 309 = .ok (.putfield 162, 3) ∧ decode cX11_contract 312 = .ok (.aload_n 0, 1) := by decide +kernel
def dX11_contract_287 := bX11_contract_287.1
def dX11_contract_288 := bX11_contract_287.2.1
def dX11_contract_289 := bX11_contract_287.2.2.1
def dX11_contract_290 := bX11_contract_287.2.2.2.1
def dX11_contract_293 := bX11_contract_287.2.2.2.2.1
def dX11_contract_294 := bX11_contract_287.2.2.2.2.2.1
def dX11_contract_295 := bX11_contract_287.2.2.2.2.2.2.1
def dX11_contract_296 := bX11_contract_287.2.2.2.2.2.2.2.1
def dX11_contract_299 := bX11_contract_287.2.2.2.2.2.2.2.2.1
def dX11_contract_302 := bX11_contract_287.2.2.2.2.2.2.2.2.2.1
def dX11_contract_303 := bX11_contract_287.2.2.2.2.2.2.2.2.2.2.1
def dX11_contract_304 := bX11_contract_287.2.2.2.2.2.2.2.2.2.2.2.1
def dX11_contract_307 := bX11_contract_287.2.2.2.2.2.2.2.2.2.2.2.2.1
def dX11_contract_308 := bX11_contract_287.2.2.2.2.2.2.2.2.2.2.2.2.2.1
def dX11_contract_309 := bX11_contract_287.2.2.2.2.2.2.2.2.2.2.2.2.2.2.1
def dX11_contract_312 := bX11_contract_287.2.2.2.2.2.2.2.2.2.2.2.2.2.2.2
theorem bX11_contract_313 : decode cX11_contract 313 = .ok (.getfield 162, 3) ∧ decode cX11_contract 316 = .ok (.iconst 1, 1) ∧ decode cX11_contract 317 = .ok (.isub, 1) ∧ decode cX11_contract 318 = .ok (.ireturn, 1) := by decide +kernel
def dX11_contract_313 := bX11_contract_313.1
def dX11_contract_316 := bX11_contract_313.2.1
def dX11_contract_317 := bX11_contract_313.2.2.1
def dX11_contract_318 := bX11_contract_313.2.2.2
theorem bX11_fault_0 : decode cX11_fault 0 = .ok (.aload_n 0, 1) ∧ decode cX11_fault 1 = .ok (.iconst 0, 1) ∧ decode cX11_fault 2 = .ok (.putfield 85, 3) ∧ decode cX11_fault 5 = .ok (.aload_n 0, 1) ∧ decode cX11_fault 6 = .ok (.getfield 9, 3) ∧ decode cX11_fault 9 = .ok (.ireturn, 1) := by decide +kernel
def dX11_fault_0 := bX11_fault_0.1
def dX11_fault_1 := bX11_fault_0.2.1
def dX11_fault_2 := bX11_fault_0.2.2.1
def dX11_fault_5 := bX11_fault_0.2.2.2.1
def dX11_fault_6 := bX11_fault_0.2.2.2.2.1
def dX11_fault_9 := bX11_fault_0.2.2.2.2.2
theorem ggX11_told_X11_in : GoodIn wsX11_told wsX11_in := gW_in gwX11_in (fun _ h => List.mem_cons_of_mem _ (List.mem_append_right _ (List.mem_append_right _ (List.mem_append_left _ h))))
set_option maxRecDepth 20000 in
theorem gX11_told_X11_in : GoodIn wsX11_told (va_wsS RX11 119 yX11_in wsX11_in) := goodIn_app (goodIn_of _ (by decide +kernel)) ggX11_told_X11_in
theorem ggX11_told_X11_bad : GoodIn wsX11_told wsX11_bad := gW_in gwX11_bad (fun _ h => List.mem_cons_of_mem _ (List.mem_append_right _ (List.mem_append_right _ (List.mem_append_right _ (h)))))
set_option maxRecDepth 20000 in
theorem gX11_told_X11_bad : GoodIn wsX11_told (wsV RX11 151 RX11 yX11_bad wsX11_bad) := goodIn_app (goodIn_of _ (by decide +kernel)) ggX11_told_X11_bad
theorem bX11_told_0 : decode cX11_told 0 = .ok (.aload_n 0, 1) ∧ decode cX11_told 1 = .ok (.iconst 0, 1) ∧ decode cX11_told 2 = .ok (.putfield 85, 3) ∧ decode cX11_told 5 = .ok (.aload_n 0, 1) ∧ decode cX11_told 6 = .ok (.iload_n 1, 1) ∧ decode cX11_told 7 = .ok (.iconst 0, 1) ∧ decode cX11_told 8 = .ok (.iconst 4, 1) ∧ decode cX11_told 9 = .ok (.invokestatic 119, 3) ∧ decode cX11_told 12 = .ok (.ifCond .ne 7, 3) ∧ decode cX11_told 15 = .ok (.iconst 1, 1) ∧ decode cX11_told 16 = .ok (.goto 4, 3) ∧ decode cX11_told 19 = .ok (.iconst 0, 1) ∧ decode cX11_told 20 = .ok (.iconst 1, 1) ∧ decode cX11_told 21 = .ok (.iconst 2, 1) ∧ decode cX11_told 22 = .ok (.invokevirtual 151, 3) ∧ decode cX11_told 25 = .ok (.ifCond .eq 5, 3) := by decide +kernel
def dX11_told_0 := bX11_told_0.1
def dX11_told_1 := bX11_told_0.2.1
def dX11_told_2 := bX11_told_0.2.2.1
def dX11_told_5 := bX11_told_0.2.2.2.1
def dX11_told_6 := bX11_told_0.2.2.2.2.1
def dX11_told_7 := bX11_told_0.2.2.2.2.2.1
def dX11_told_8 := bX11_told_0.2.2.2.2.2.2.1
def dX11_told_9 := bX11_told_0.2.2.2.2.2.2.2.1
def dX11_told_12 := bX11_told_0.2.2.2.2.2.2.2.2.1
def dX11_told_15 := bX11_told_0.2.2.2.2.2.2.2.2.2.1
def dX11_told_16 := bX11_told_0.2.2.2.2.2.2.2.2.2.2.1
def dX11_told_19 := bX11_told_0.2.2.2.2.2.2.2.2.2.2.2.1
def dX11_told_20 := bX11_told_0.2.2.2.2.2.2.2.2.2.2.2.2.1
def dX11_told_21 := bX11_told_0.2.2.2.2.2.2.2.2.2.2.2.2.2.1
def dX11_told_22 := bX11_told_0.2.2.2.2.2.2.2.2.2.2.2.2.2.2.1
def dX11_told_25 := bX11_told_0.2.2.2.2.2.2.2.2.2.2.2.2.2.2.2
theorem bX11_told_28 : decode cX11_told 28 = .ok (.iconst 0, 1) ∧ decode cX11_told 29 = .ok (.ireturn, 1) ∧ decode cX11_told 30 = .ok (.iload_n 1, 1) ∧ decode cX11_told 31 = .ok (.ifCond .ne 12, 3) ∧ decode cX11_told 34 = .ok (.aload_n 0, 1) ∧ decode cX11_told 35 = .ok (.getfield 23, 3) ∧ decode cX11_told 38 = .ok (.iconst 0, 1) ∧ decode cX11_told 39 = .ok (.iaload, 1) ∧ decode cX11_told 40 = .ok (.goto 41, 3) ∧ decode cX11_told 43 = .ok (.iload_n 1, 1) ∧ decode cX11_told 44 = .ok (.iconst 1, 1) ∧ decode cX11_told 45 = .ok (.if_icmp .ne 10, 3) ∧ decode cX11_told 48 = .ok (.aload_n 0, 1) ∧ decode cX11_told 49 = .ok (.getfield 162, 3) ∧ decode cX11_told 52 = .ok (.goto 29, 3) ∧ decode cX11_told 55 = .ok (.iload_n 1, 1) := by decide +kernel
def dX11_told_28 := bX11_told_28.1
def dX11_told_29 := bX11_told_28.2.1
def dX11_told_30 := bX11_told_28.2.2.1
def dX11_told_31 := bX11_told_28.2.2.2.1
def dX11_told_34 := bX11_told_28.2.2.2.2.1
def dX11_told_35 := bX11_told_28.2.2.2.2.2.1
def dX11_told_38 := bX11_told_28.2.2.2.2.2.2.1
def dX11_told_39 := bX11_told_28.2.2.2.2.2.2.2.1
def dX11_told_40 := bX11_told_28.2.2.2.2.2.2.2.2.1
def dX11_told_43 := bX11_told_28.2.2.2.2.2.2.2.2.2.1
def dX11_told_44 := bX11_told_28.2.2.2.2.2.2.2.2.2.2.1
def dX11_told_45 := bX11_told_28.2.2.2.2.2.2.2.2.2.2.2.1
def dX11_told_48 := bX11_told_28.2.2.2.2.2.2.2.2.2.2.2.2.1
def dX11_told_49 := bX11_told_28.2.2.2.2.2.2.2.2.2.2.2.2.2.1
def dX11_told_52 := bX11_told_28.2.2.2.2.2.2.2.2.2.2.2.2.2.2.1
def dX11_told_55 := bX11_told_28.2.2.2.2.2.2.2.2.2.2.2.2.2.2.2
theorem bX11_told_56 : decode cX11_told 56 = .ok (.iconst 2, 1) ∧ decode cX11_told 57 = .ok (.if_icmp .ne 13, 3) ∧ decode cX11_told 60 = .ok (.aload_n 0, 1) ∧ decode cX11_told 61 = .ok (.getfield 46, 3) ∧ decode cX11_told 64 = .ok (.bipush 24, 2) ∧ decode cX11_told 66 = .ok (.iaload, 1) ∧ decode cX11_told 67 = .ok (.goto 14, 3) ∧ decode cX11_told 70 = .ok (.aload_n 0, 1) ∧ decode cX11_told 71 = .ok (.getfield 46, 3) ∧ decode cX11_told 74 = .ok (.bipush 10, 2) ∧ decode cX11_told 76 = .ok (.iload_n 1, 1) ∧ decode cX11_told 77 = .ok (.iadd, 1) ∧ decode cX11_told 78 = .ok (.iconst 3, 1) ∧ decode cX11_told 79 = .ok (.isub, 1) ∧ decode cX11_told 80 = .ok (.iaload, 1) ∧ decode cX11_told 81 = .ok (.ireturn, 1) := by decide +kernel
def dX11_told_56 := bX11_told_56.1
def dX11_told_57 := bX11_told_56.2.1
def dX11_told_60 := bX11_told_56.2.2.1
def dX11_told_61 := bX11_told_56.2.2.2.1
def dX11_told_64 := bX11_told_56.2.2.2.2.1
def dX11_told_66 := bX11_told_56.2.2.2.2.2.1
def dX11_told_67 := bX11_told_56.2.2.2.2.2.2.1
def dX11_told_70 := bX11_told_56.2.2.2.2.2.2.2.1
def dX11_told_71 := bX11_told_56.2.2.2.2.2.2.2.2.1
def dX11_told_74 := bX11_told_56.2.2.2.2.2.2.2.2.2.1
def dX11_told_76 := bX11_told_56.2.2.2.2.2.2.2.2.2.2.1
def dX11_told_77 := bX11_told_56.2.2.2.2.2.2.2.2.2.2.2.1
def dX11_told_78 := bX11_told_56.2.2.2.2.2.2.2.2.2.2.2.2.1
def dX11_told_79 := bX11_told_56.2.2.2.2.2.2.2.2.2.2.2.2.2.1
def dX11_told_80 := bX11_told_56.2.2.2.2.2.2.2.2.2.2.2.2.2.2.1
def dX11_told_81 := bX11_told_56.2.2.2.2.2.2.2.2.2.2.2.2.2.2.2
theorem ggX11_isWall_X11_in : GoodIn wsX11_isWall wsX11_in := gW_in gwX11_in (fun _ h => List.mem_cons_of_mem _ (List.mem_append_right _ (List.mem_append_right _ (h))))
set_option maxRecDepth 20000 in
theorem gX11_isWall_X11_in : GoodIn wsX11_isWall (va_wsS RX11 119 yX11_in wsX11_in) := goodIn_app (goodIn_of _ (by decide +kernel)) ggX11_isWall_X11_in
theorem bX11_isWall_0 : decode cX11_isWall 0 = .ok (.iload_n 1, 1) ∧ decode cX11_isWall 1 = .ok (.iconst 0, 1) ∧ decode cX11_isWall 2 = .ok (.aload_n 0, 1) ∧ decode cX11_isWall 3 = .ok (.getfield 23, 3) ∧ decode cX11_isWall 6 = .ok (.iconst 0, 1) ∧ decode cX11_isWall 7 = .ok (.iaload, 1) ∧ decode cX11_isWall 8 = .ok (.iconst 1, 1) ∧ decode cX11_isWall 9 = .ok (.isub, 1) ∧ decode cX11_isWall 10 = .ok (.invokestatic 119, 3) ∧ decode cX11_isWall 13 = .ok (.ireturn, 1) := by decide +kernel
def dX11_isWall_0 := bX11_isWall_0.1
def dX11_isWall_1 := bX11_isWall_0.2.1
def dX11_isWall_2 := bX11_isWall_0.2.2.1
def dX11_isWall_3 := bX11_isWall_0.2.2.2.1
def dX11_isWall_6 := bX11_isWall_0.2.2.2.2.1
def dX11_isWall_7 := bX11_isWall_0.2.2.2.2.2.1
def dX11_isWall_8 := bX11_isWall_0.2.2.2.2.2.2.1
def dX11_isWall_9 := bX11_isWall_0.2.2.2.2.2.2.2.1
def dX11_isWall_10 := bX11_isWall_0.2.2.2.2.2.2.2.2.1
def dX11_isWall_13 := bX11_isWall_0.2.2.2.2.2.2.2.2.2
theorem ggX11_wall_X11_isWall : GoodIn wsX11_wall wsX11_isWall := gW_in gwX11_isWall (fun _ h => List.mem_cons_of_mem _ (List.mem_append_right _ (List.mem_append_right _ (List.mem_append_left _ h))))
set_option maxRecDepth 20000 in
theorem gX11_wall_X11_isWall : GoodIn wsX11_wall (wsV RX11 174 RX11 yX11_isWall wsX11_isWall) := goodIn_app (goodIn_of _ (by decide +kernel)) ggX11_wall_X11_isWall
theorem ggX11_wall_X11_bad : GoodIn wsX11_wall wsX11_bad := gW_in gwX11_bad (fun _ h => List.mem_cons_of_mem _ (List.mem_append_right _ (List.mem_append_right _ (List.mem_append_right _ (List.mem_append_left _ h)))))
set_option maxRecDepth 20000 in
theorem gX11_wall_X11_bad : GoodIn wsX11_wall (wsV RX11 151 RX11 yX11_bad wsX11_bad) := goodIn_app (goodIn_of _ (by decide +kernel)) ggX11_wall_X11_bad
theorem ggX11_wall_X11_in : GoodIn wsX11_wall wsX11_in := gW_in gwX11_in (fun _ h => List.mem_cons_of_mem _ (List.mem_append_right _ (List.mem_append_right _ (List.mem_append_right _ (List.mem_append_right _ (h))))))
set_option maxRecDepth 20000 in
theorem gX11_wall_X11_in : GoodIn wsX11_wall (va_wsS RX11 119 yX11_in wsX11_in) := goodIn_app (goodIn_of _ (by decide +kernel)) ggX11_wall_X11_in
theorem bX11_wall_0 : decode cX11_wall 0 = .ok (.aload_n 0, 1) ∧ decode cX11_wall 1 = .ok (.iconst 0, 1) ∧ decode cX11_wall 2 = .ok (.putfield 85, 3) ∧ decode cX11_wall 5 = .ok (.aload_n 0, 1) ∧ decode cX11_wall 6 = .ok (.aload_n 0, 1) ∧ decode cX11_wall 7 = .ok (.iload_n 1, 1) ∧ decode cX11_wall 8 = .ok (.invokevirtual 174, 3) ∧ decode cX11_wall 11 = .ok (.ifCond .ne 7, 3) ∧ decode cX11_wall 14 = .ok (.iconst 1, 1) ∧ decode cX11_wall 15 = .ok (.goto 4, 3) ∧ decode cX11_wall 18 = .ok (.iconst 0, 1) ∧ decode cX11_wall 19 = .ok (.iconst 1, 1) ∧ decode cX11_wall 20 = .ok (.iconst 1, 1) ∧ decode cX11_wall 21 = .ok (.invokevirtual 151, 3) ∧ decode cX11_wall 24 = .ok (.ifCond .ne 26, 3) ∧ decode cX11_wall 27 = .ok (.aload_n 0, 1) := by decide +kernel
def dX11_wall_0 := bX11_wall_0.1
def dX11_wall_1 := bX11_wall_0.2.1
def dX11_wall_2 := bX11_wall_0.2.2.1
def dX11_wall_5 := bX11_wall_0.2.2.2.1
def dX11_wall_6 := bX11_wall_0.2.2.2.2.1
def dX11_wall_7 := bX11_wall_0.2.2.2.2.2.1
def dX11_wall_8 := bX11_wall_0.2.2.2.2.2.2.1
def dX11_wall_11 := bX11_wall_0.2.2.2.2.2.2.2.1
def dX11_wall_14 := bX11_wall_0.2.2.2.2.2.2.2.2.1
def dX11_wall_15 := bX11_wall_0.2.2.2.2.2.2.2.2.2.1
def dX11_wall_18 := bX11_wall_0.2.2.2.2.2.2.2.2.2.2.1
def dX11_wall_19 := bX11_wall_0.2.2.2.2.2.2.2.2.2.2.2.1
def dX11_wall_20 := bX11_wall_0.2.2.2.2.2.2.2.2.2.2.2.2.1
def dX11_wall_21 := bX11_wall_0.2.2.2.2.2.2.2.2.2.2.2.2.2.1
def dX11_wall_24 := bX11_wall_0.2.2.2.2.2.2.2.2.2.2.2.2.2.2.1
def dX11_wall_27 := bX11_wall_0.2.2.2.2.2.2.2.2.2.2.2.2.2.2.2
theorem bX11_wall_28 : decode cX11_wall 28 = .ok (.iload_n 2, 1) ∧ decode cX11_wall 29 = .ok (.iconst 0, 1) ∧ decode cX11_wall 30 = .ok (.iconst 3, 1) ∧ decode cX11_wall 31 = .ok (.invokestatic 119, 3) ∧ decode cX11_wall 34 = .ok (.ifCond .ne 7, 3) ∧ decode cX11_wall 37 = .ok (.iconst 1, 1) ∧ decode cX11_wall 38 = .ok (.goto 4, 3) ∧ decode cX11_wall 41 = .ok (.iconst 0, 1) ∧ decode cX11_wall 42 = .ok (.iconst 2, 1) ∧ decode cX11_wall 43 = .ok (.iconst 2, 1) ∧ decode cX11_wall 44 = .ok (.invokevirtual 151, 3) ∧ decode cX11_wall 47 = .ok (.ifCond .eq 5, 3) ∧ decode cX11_wall 50 = .ok (.iconst 0, 1) ∧ decode cX11_wall 51 = .ok (.ireturn, 1) ∧ decode cX11_wall 52 = .ok (.iload_n 2, 1) ∧ decode cX11_wall 53 = .ok (.ifCond .ne 14, 3) := by decide +kernel
def dX11_wall_28 := bX11_wall_28.1
def dX11_wall_29 := bX11_wall_28.2.1
def dX11_wall_30 := bX11_wall_28.2.2.1
def dX11_wall_31 := bX11_wall_28.2.2.2.1
def dX11_wall_34 := bX11_wall_28.2.2.2.2.1
def dX11_wall_37 := bX11_wall_28.2.2.2.2.2.1
def dX11_wall_38 := bX11_wall_28.2.2.2.2.2.2.1
def dX11_wall_41 := bX11_wall_28.2.2.2.2.2.2.2.1
def dX11_wall_42 := bX11_wall_28.2.2.2.2.2.2.2.2.1
def dX11_wall_43 := bX11_wall_28.2.2.2.2.2.2.2.2.2.1
def dX11_wall_44 := bX11_wall_28.2.2.2.2.2.2.2.2.2.2.1
def dX11_wall_47 := bX11_wall_28.2.2.2.2.2.2.2.2.2.2.2.1
def dX11_wall_50 := bX11_wall_28.2.2.2.2.2.2.2.2.2.2.2.2.1
def dX11_wall_51 := bX11_wall_28.2.2.2.2.2.2.2.2.2.2.2.2.2.1
def dX11_wall_52 := bX11_wall_28.2.2.2.2.2.2.2.2.2.2.2.2.2.2.1
def dX11_wall_53 := bX11_wall_28.2.2.2.2.2.2.2.2.2.2.2.2.2.2.2
theorem bX11_wall_56 : decode cX11_wall 56 = .ok (.aload_n 0, 1) ∧ decode cX11_wall 57 = .ok (.getfield 31, 3) ∧ decode cX11_wall 60 = .ok (.iload_n 1, 1) ∧ decode cX11_wall 61 = .ok (.aaload, 1) ∧ decode cX11_wall 62 = .ok (.iconst 0, 1) ∧ decode cX11_wall 63 = .ok (.iaload, 1) ∧ decode cX11_wall 64 = .ok (.goto 45, 3) ∧ decode cX11_wall 67 = .ok (.iload_n 2, 1) ∧ decode cX11_wall 68 = .ok (.iconst 1, 1) ∧ decode cX11_wall 69 = .ok (.if_icmp .ne 15, 3) ∧ decode cX11_wall 72 = .ok (.aload_n 0, 1) ∧ decode cX11_wall 73 = .ok (.getfield 46, 3) ∧ decode cX11_wall 76 = .ok (.bipush 12, 2) ∧ decode cX11_wall 78 = .ok (.iload_n 1, 1) ∧ decode cX11_wall 79 = .ok (.iadd, 1) ∧ decode cX11_wall 80 = .ok (.iaload, 1) := by decide +kernel
def dX11_wall_56 := bX11_wall_56.1
def dX11_wall_57 := bX11_wall_56.2.1
def dX11_wall_60 := bX11_wall_56.2.2.1
def dX11_wall_61 := bX11_wall_56.2.2.2.1
def dX11_wall_62 := bX11_wall_56.2.2.2.2.1
def dX11_wall_63 := bX11_wall_56.2.2.2.2.2.1
def dX11_wall_64 := bX11_wall_56.2.2.2.2.2.2.1
def dX11_wall_67 := bX11_wall_56.2.2.2.2.2.2.2.1
def dX11_wall_68 := bX11_wall_56.2.2.2.2.2.2.2.2.1
def dX11_wall_69 := bX11_wall_56.2.2.2.2.2.2.2.2.2.1
def dX11_wall_72 := bX11_wall_56.2.2.2.2.2.2.2.2.2.2.1
def dX11_wall_73 := bX11_wall_56.2.2.2.2.2.2.2.2.2.2.2.1
def dX11_wall_76 := bX11_wall_56.2.2.2.2.2.2.2.2.2.2.2.2.1
def dX11_wall_78 := bX11_wall_56.2.2.2.2.2.2.2.2.2.2.2.2.2.1
def dX11_wall_79 := bX11_wall_56.2.2.2.2.2.2.2.2.2.2.2.2.2.2.1
def dX11_wall_80 := bX11_wall_56.2.2.2.2.2.2.2.2.2.2.2.2.2.2.2
theorem bX11_wall_81 : decode cX11_wall 81 = .ok (.goto 28, 3) ∧ decode cX11_wall 84 = .ok (.iload_n 2, 1) ∧ decode cX11_wall 85 = .ok (.iconst 2, 1) ∧ decode cX11_wall 86 = .ok (.if_icmp .ne 14, 3) ∧ decode cX11_wall 89 = .ok (.aload_n 0, 1) ∧ decode cX11_wall 90 = .ok (.getfield 31, 3) ∧ decode cX11_wall 93 = .ok (.iload_n 1, 1) ∧ decode cX11_wall 94 = .ok (.aaload, 1) ∧ decode cX11_wall 95 = .ok (.iconst 1, 1) ∧ decode cX11_wall 96 = .ok (.iaload, 1) ∧ decode cX11_wall 97 = .ok (.goto 12, 3) ∧ decode cX11_wall 100 = .ok (.aload_n 0, 1) ∧ decode cX11_wall 101 = .ok (.getfield 46, 3) ∧ decode cX11_wall 104 = .ok (.bipush 18, 2) ∧ decode cX11_wall 106 = .ok (.iload_n 1, 1) ∧ decode cX11_wall 107 = .ok (.iadd, 1) := by decide +kernel
def dX11_wall_81 := bX11_wall_81.1
def dX11_wall_84 := bX11_wall_81.2.1
def dX11_wall_85 := bX11_wall_81.2.2.1
def dX11_wall_86 := bX11_wall_81.2.2.2.1
def dX11_wall_89 := bX11_wall_81.2.2.2.2.1
def dX11_wall_90 := bX11_wall_81.2.2.2.2.2.1
def dX11_wall_93 := bX11_wall_81.2.2.2.2.2.2.1
def dX11_wall_94 := bX11_wall_81.2.2.2.2.2.2.2.1
def dX11_wall_95 := bX11_wall_81.2.2.2.2.2.2.2.2.1
def dX11_wall_96 := bX11_wall_81.2.2.2.2.2.2.2.2.2.1
def dX11_wall_97 := bX11_wall_81.2.2.2.2.2.2.2.2.2.2.1
def dX11_wall_100 := bX11_wall_81.2.2.2.2.2.2.2.2.2.2.2.1
def dX11_wall_101 := bX11_wall_81.2.2.2.2.2.2.2.2.2.2.2.2.1
def dX11_wall_104 := bX11_wall_81.2.2.2.2.2.2.2.2.2.2.2.2.2.1
def dX11_wall_106 := bX11_wall_81.2.2.2.2.2.2.2.2.2.2.2.2.2.2.1
def dX11_wall_107 := bX11_wall_81.2.2.2.2.2.2.2.2.2.2.2.2.2.2.2
theorem bX11_wall_108 : decode cX11_wall 108 = .ok (.iaload, 1) ∧ decode cX11_wall 109 = .ok (.ireturn, 1) := by decide +kernel
def dX11_wall_108 := bX11_wall_108.1
def dX11_wall_109 := bX11_wall_108.2
theorem ggX11_isContract_X11_in : GoodIn wsX11_isContract wsX11_in := gW_in gwX11_in (fun _ h => List.mem_cons_of_mem _ (List.mem_append_right _ (List.mem_append_right _ (h))))
set_option maxRecDepth 20000 in
theorem gX11_isContract_X11_in : GoodIn wsX11_isContract (va_wsS RX11 119 yX11_in wsX11_in) := goodIn_app (goodIn_of _ (by decide +kernel)) ggX11_isContract_X11_in
theorem bX11_isContract_0 : decode cX11_isContract 0 = .ok (.iload_n 1, 1) ∧ decode cX11_isContract 1 = .ok (.iconst 0, 1) ∧ decode cX11_isContract 2 = .ok (.aload_n 0, 1) ∧ decode cX11_isContract 3 = .ok (.getfield 162, 3) ∧ decode cX11_isContract 6 = .ok (.iconst 1, 1) ∧ decode cX11_isContract 7 = .ok (.isub, 1) ∧ decode cX11_isContract 8 = .ok (.invokestatic 119, 3) ∧ decode cX11_isContract 11 = .ok (.ireturn, 1) := by decide +kernel
def dX11_isContract_0 := bX11_isContract_0.1
def dX11_isContract_1 := bX11_isContract_0.2.1
def dX11_isContract_2 := bX11_isContract_0.2.2.1
def dX11_isContract_3 := bX11_isContract_0.2.2.2.1
def dX11_isContract_6 := bX11_isContract_0.2.2.2.2.1
def dX11_isContract_7 := bX11_isContract_0.2.2.2.2.2.1
def dX11_isContract_8 := bX11_isContract_0.2.2.2.2.2.2.1
def dX11_isContract_11 := bX11_isContract_0.2.2.2.2.2.2.2
theorem ggX11_rule_X11_isContract : GoodIn wsX11_rule wsX11_isContract := gW_in gwX11_isContract (fun _ h => List.mem_cons_of_mem _ (List.mem_append_right _ (List.mem_append_right _ (List.mem_append_left _ h))))
set_option maxRecDepth 20000 in
theorem gX11_rule_X11_isContract : GoodIn wsX11_rule (wsV RX11 177 RX11 yX11_isContract wsX11_isContract) := goodIn_app (goodIn_of _ (by decide +kernel)) ggX11_rule_X11_isContract
theorem ggX11_rule_X11_bad : GoodIn wsX11_rule wsX11_bad := gW_in gwX11_bad (fun _ h => List.mem_cons_of_mem _ (List.mem_append_right _ (List.mem_append_right _ (List.mem_append_right _ (List.mem_append_left _ h)))))
set_option maxRecDepth 20000 in
theorem gX11_rule_X11_bad : GoodIn wsX11_rule (wsV RX11 151 RX11 yX11_bad wsX11_bad) := goodIn_app (goodIn_of _ (by decide +kernel)) ggX11_rule_X11_bad
theorem ggX11_rule_X11_in : GoodIn wsX11_rule wsX11_in := gW_in gwX11_in (fun _ h => List.mem_cons_of_mem _ (List.mem_append_right _ (List.mem_append_right _ (List.mem_append_right _ (List.mem_append_right _ (h))))))
set_option maxRecDepth 20000 in
theorem gX11_rule_X11_in : GoodIn wsX11_rule (va_wsS RX11 119 yX11_in wsX11_in) := goodIn_app (goodIn_of _ (by decide +kernel)) ggX11_rule_X11_in
theorem bX11_rule_0 : decode cX11_rule 0 = .ok (.aload_n 0, 1) ∧ decode cX11_rule 1 = .ok (.iconst 0, 1) ∧ decode cX11_rule 2 = .ok (.putfield 85, 3) ∧ decode cX11_rule 5 = .ok (.aload_n 0, 1) ∧ decode cX11_rule 6 = .ok (.aload_n 0, 1) ∧ decode cX11_rule 7 = .ok (.iload_n 1, 1) ∧ decode cX11_rule 8 = .ok (.invokevirtual 177, 3) ∧ decode cX11_rule 11 = .ok (.ifCond .ne 7, 3) ∧ decode cX11_rule 14 = .ok (.iconst 1, 1) ∧ decode cX11_rule 15 = .ok (.goto 4, 3) ∧ decode cX11_rule 18 = .ok (.iconst 0, 1) ∧ decode cX11_rule 19 = .ok (.iconst 1, 1) ∧ decode cX11_rule 20 = .ok (.iconst 0, 1) ∧ decode cX11_rule 21 = .ok (.invokevirtual 151, 3) ∧ decode cX11_rule 24 = .ok (.ifCond .ne 27, 3) ∧ decode cX11_rule 27 = .ok (.aload_n 0, 1) := by decide +kernel
def dX11_rule_0 := bX11_rule_0.1
def dX11_rule_1 := bX11_rule_0.2.1
def dX11_rule_2 := bX11_rule_0.2.2.1
def dX11_rule_5 := bX11_rule_0.2.2.2.1
def dX11_rule_6 := bX11_rule_0.2.2.2.2.1
def dX11_rule_7 := bX11_rule_0.2.2.2.2.2.1
def dX11_rule_8 := bX11_rule_0.2.2.2.2.2.2.1
def dX11_rule_11 := bX11_rule_0.2.2.2.2.2.2.2.1
def dX11_rule_14 := bX11_rule_0.2.2.2.2.2.2.2.2.1
def dX11_rule_15 := bX11_rule_0.2.2.2.2.2.2.2.2.2.1
def dX11_rule_18 := bX11_rule_0.2.2.2.2.2.2.2.2.2.2.1
def dX11_rule_19 := bX11_rule_0.2.2.2.2.2.2.2.2.2.2.2.1
def dX11_rule_20 := bX11_rule_0.2.2.2.2.2.2.2.2.2.2.2.2.1
def dX11_rule_21 := bX11_rule_0.2.2.2.2.2.2.2.2.2.2.2.2.2.1
def dX11_rule_24 := bX11_rule_0.2.2.2.2.2.2.2.2.2.2.2.2.2.2.1
def dX11_rule_27 := bX11_rule_0.2.2.2.2.2.2.2.2.2.2.2.2.2.2.2
theorem bX11_rule_28 : decode cX11_rule 28 = .ok (.iload_n 2, 1) ∧ decode cX11_rule 29 = .ok (.iconst 0, 1) ∧ decode cX11_rule 30 = .ok (.bipush 6, 2) ∧ decode cX11_rule 32 = .ok (.invokestatic 119, 3) ∧ decode cX11_rule 35 = .ok (.ifCond .ne 7, 3) ∧ decode cX11_rule 38 = .ok (.iconst 1, 1) ∧ decode cX11_rule 39 = .ok (.goto 4, 3) ∧ decode cX11_rule 42 = .ok (.iconst 0, 1) ∧ decode cX11_rule 43 = .ok (.iconst 2, 1) ∧ decode cX11_rule 44 = .ok (.iconst 2, 1) ∧ decode cX11_rule 45 = .ok (.invokevirtual 151, 3) ∧ decode cX11_rule 48 = .ok (.ifCond .eq 5, 3) ∧ decode cX11_rule 51 = .ok (.iconst 0, 1) ∧ decode cX11_rule 52 = .ok (.ireturn, 1) ∧ decode cX11_rule 53 = .ok (.aload_n 0, 1) ∧ decode cX11_rule 54 = .ok (.getfield 40, 3) := by decide +kernel
def dX11_rule_28 := bX11_rule_28.1
def dX11_rule_29 := bX11_rule_28.2.1
def dX11_rule_30 := bX11_rule_28.2.2.1
def dX11_rule_32 := bX11_rule_28.2.2.2.1
def dX11_rule_35 := bX11_rule_28.2.2.2.2.1
def dX11_rule_38 := bX11_rule_28.2.2.2.2.2.1
def dX11_rule_39 := bX11_rule_28.2.2.2.2.2.2.1
def dX11_rule_42 := bX11_rule_28.2.2.2.2.2.2.2.1
def dX11_rule_43 := bX11_rule_28.2.2.2.2.2.2.2.2.1
def dX11_rule_44 := bX11_rule_28.2.2.2.2.2.2.2.2.2.1
def dX11_rule_45 := bX11_rule_28.2.2.2.2.2.2.2.2.2.2.1
def dX11_rule_48 := bX11_rule_28.2.2.2.2.2.2.2.2.2.2.2.1
def dX11_rule_51 := bX11_rule_28.2.2.2.2.2.2.2.2.2.2.2.2.1
def dX11_rule_52 := bX11_rule_28.2.2.2.2.2.2.2.2.2.2.2.2.2.1
def dX11_rule_53 := bX11_rule_28.2.2.2.2.2.2.2.2.2.2.2.2.2.2.1
def dX11_rule_54 := bX11_rule_28.2.2.2.2.2.2.2.2.2.2.2.2.2.2.2
theorem bX11_rule_57 : decode cX11_rule 57 = .ok (.iload_n 1, 1) ∧ decode cX11_rule 58 = .ok (.aaload, 1) ∧ decode cX11_rule 59 = .ok (.iload_n 2, 1) ∧ decode cX11_rule 60 = .ok (.iaload, 1) ∧ decode cX11_rule 61 = .ok (.ireturn, 1) := by decide +kernel
def dX11_rule_57 := bX11_rule_57.1
def dX11_rule_58 := bX11_rule_57.2.1
def dX11_rule_59 := bX11_rule_57.2.2.1
def dX11_rule_60 := bX11_rule_57.2.2.2.1
def dX11_rule_61 := bX11_rule_57.2.2.2.2
theorem bX11_wantsFor_0 : decode cX11_wantsFor 0 = .ok (.aload_n 0, 1) ∧ decode cX11_wantsFor 1 = .ok (.getfield 23, 3) ∧ decode cX11_wantsFor 4 = .ok (.bipush 13, 2) ∧ decode cX11_wantsFor 6 = .ok (.iaload, 1) ∧ decode cX11_wantsFor 7 = .ok (.bipush 10, 2) ∧ decode cX11_wantsFor 9 = .ok (.iload_n 1, 1) ∧ decode cX11_wantsFor 10 = .ok (.isub, 1) ∧ decode cX11_wantsFor 11 = .ok (.imul, 1) ∧ decode cX11_wantsFor 12 = .ok (.aload_n 0, 1) ∧ decode cX11_wantsFor 13 = .ok (.getfield 23, 3) ∧ decode cX11_wantsFor 16 = .ok (.bipush 14, 2) ∧ decode cX11_wantsFor 18 = .ok (.iaload, 1) ∧ decode cX11_wantsFor 19 = .ok (.iload_n 2, 1) ∧ decode cX11_wantsFor 20 = .ok (.imul, 1) ∧ decode cX11_wantsFor 21 = .ok (.iadd, 1) ∧ decode cX11_wantsFor 22 = .ok (.ireturn, 1) := by decide +kernel
def dX11_wantsFor_0 := bX11_wantsFor_0.1
def dX11_wantsFor_1 := bX11_wantsFor_0.2.1
def dX11_wantsFor_4 := bX11_wantsFor_0.2.2.1
def dX11_wantsFor_6 := bX11_wantsFor_0.2.2.2.1
def dX11_wantsFor_7 := bX11_wantsFor_0.2.2.2.2.1
def dX11_wantsFor_9 := bX11_wantsFor_0.2.2.2.2.2.1
def dX11_wantsFor_10 := bX11_wantsFor_0.2.2.2.2.2.2.1
def dX11_wantsFor_11 := bX11_wantsFor_0.2.2.2.2.2.2.2.1
def dX11_wantsFor_12 := bX11_wantsFor_0.2.2.2.2.2.2.2.2.1
def dX11_wantsFor_13 := bX11_wantsFor_0.2.2.2.2.2.2.2.2.2.1
def dX11_wantsFor_16 := bX11_wantsFor_0.2.2.2.2.2.2.2.2.2.2.1
def dX11_wantsFor_18 := bX11_wantsFor_0.2.2.2.2.2.2.2.2.2.2.2.1
def dX11_wantsFor_19 := bX11_wantsFor_0.2.2.2.2.2.2.2.2.2.2.2.2.1
def dX11_wantsFor_20 := bX11_wantsFor_0.2.2.2.2.2.2.2.2.2.2.2.2.2.1
def dX11_wantsFor_21 := bX11_wantsFor_0.2.2.2.2.2.2.2.2.2.2.2.2.2.2.1
def dX11_wantsFor_22 := bX11_wantsFor_0.2.2.2.2.2.2.2.2.2.2.2.2.2.2.2
theorem ggX11_wants_X11_in : GoodIn wsX11_wants wsX11_in := gW_in gwX11_in (fun _ h => List.mem_cons_of_mem _ (List.mem_append_right _ (List.mem_append_right _ (List.mem_append_left _ h))))
set_option maxRecDepth 20000 in
theorem gX11_wants_X11_in : GoodIn wsX11_wants (va_wsS RX11 119 yX11_in wsX11_in) := goodIn_app (goodIn_of _ (by decide +kernel)) ggX11_wants_X11_in
theorem ggX11_wants_X11_bad : GoodIn wsX11_wants wsX11_bad := gW_in gwX11_bad (fun _ h => List.mem_cons_of_mem _ (List.mem_append_right _ (List.mem_append_right _ (List.mem_append_right _ (List.mem_append_left _ h)))))
set_option maxRecDepth 20000 in
theorem gX11_wants_X11_bad : GoodIn wsX11_wants (wsV RX11 151 RX11 yX11_bad wsX11_bad) := goodIn_app (goodIn_of _ (by decide +kernel)) ggX11_wants_X11_bad
theorem ggX11_wants_X11_wantsFor : GoodIn wsX11_wants wsX11_wantsFor := gW_in gwX11_wantsFor (fun _ h => List.mem_cons_of_mem _ (List.mem_append_right _ (List.mem_append_right _ (List.mem_append_right _ (List.mem_append_right _ (h))))))
set_option maxRecDepth 20000 in
theorem gX11_wants_X11_wantsFor : GoodIn wsX11_wants (wsV RX11 180 RX11 yX11_wantsFor wsX11_wantsFor) := goodIn_app (goodIn_of _ (by decide +kernel)) ggX11_wants_X11_wantsFor
theorem bX11_wants_0 : decode cX11_wants 0 = .ok (.aload_n 0, 1) ∧ decode cX11_wants 1 = .ok (.iconst 0, 1) ∧ decode cX11_wants 2 = .ok (.putfield 85, 3) ∧ decode cX11_wants 5 = .ok (.aload_n 0, 1) ∧ decode cX11_wants 6 = .ok (.iload_n 1, 1) ∧ decode cX11_wants 7 = .ok (.iconst 0, 1) ∧ decode cX11_wants 8 = .ok (.bipush 9, 2) ∧ decode cX11_wants 10 = .ok (.invokestatic 119, 3) ∧ decode cX11_wants 13 = .ok (.ifCond .eq 13, 3) ∧ decode cX11_wants 16 = .ok (.iload_n 2, 1) ∧ decode cX11_wants 17 = .ok (.iconst 0, 1) ∧ decode cX11_wants 18 = .ok (.bipush 99, 2) ∧ decode cX11_wants 20 = .ok (.invokestatic 119, 3) ∧ decode cX11_wants 23 = .ok (.ifCond .ne 7, 3) ∧ decode cX11_wants 26 = .ok (.iconst 1, 1) ∧ decode cX11_wants 27 = .ok (.goto 4, 3) := by decide +kernel
def dX11_wants_0 := bX11_wants_0.1
def dX11_wants_1 := bX11_wants_0.2.1
def dX11_wants_2 := bX11_wants_0.2.2.1
def dX11_wants_5 := bX11_wants_0.2.2.2.1
def dX11_wants_6 := bX11_wants_0.2.2.2.2.1
def dX11_wants_7 := bX11_wants_0.2.2.2.2.2.1
def dX11_wants_8 := bX11_wants_0.2.2.2.2.2.2.1
def dX11_wants_10 := bX11_wants_0.2.2.2.2.2.2.2.1
def dX11_wants_13 := bX11_wants_0.2.2.2.2.2.2.2.2.1
def dX11_wants_16 := bX11_wants_0.2.2.2.2.2.2.2.2.2.1
def dX11_wants_17 := bX11_wants_0.2.2.2.2.2.2.2.2.2.2.1
def dX11_wants_18 := bX11_wants_0.2.2.2.2.2.2.2.2.2.2.2.1
def dX11_wants_20 := bX11_wants_0.2.2.2.2.2.2.2.2.2.2.2.2.1
def dX11_wants_23 := bX11_wants_0.2.2.2.2.2.2.2.2.2.2.2.2.2.1
def dX11_wants_26 := bX11_wants_0.2.2.2.2.2.2.2.2.2.2.2.2.2.2.1
def dX11_wants_27 := bX11_wants_0.2.2.2.2.2.2.2.2.2.2.2.2.2.2.2
theorem bX11_wants_30 : decode cX11_wants 30 = .ok (.iconst 0, 1) ∧ decode cX11_wants 31 = .ok (.iconst 1, 1) ∧ decode cX11_wants 32 = .ok (.iconst 2, 1) ∧ decode cX11_wants 33 = .ok (.invokevirtual 151, 3) ∧ decode cX11_wants 36 = .ok (.ifCond .eq 5, 3) ∧ decode cX11_wants 39 = .ok (.iconst 0, 1) ∧ decode cX11_wants 40 = .ok (.ireturn, 1) ∧ decode cX11_wants 41 = .ok (.aload_n 0, 1) ∧ decode cX11_wants 42 = .ok (.iload_n 1, 1) ∧ decode cX11_wants 43 = .ok (.iload_n 2, 1) ∧ decode cX11_wants 44 = .ok (.invokevirtual 180, 3) ∧ decode cX11_wants 47 = .ok (.ireturn, 1) := by decide +kernel
def dX11_wants_30 := bX11_wants_30.1
def dX11_wants_31 := bX11_wants_30.2.1
def dX11_wants_32 := bX11_wants_30.2.2.1
def dX11_wants_33 := bX11_wants_30.2.2.2.1
def dX11_wants_36 := bX11_wants_30.2.2.2.2.1
def dX11_wants_39 := bX11_wants_30.2.2.2.2.2.1
def dX11_wants_40 := bX11_wants_30.2.2.2.2.2.2.1
def dX11_wants_41 := bX11_wants_30.2.2.2.2.2.2.2.1
def dX11_wants_42 := bX11_wants_30.2.2.2.2.2.2.2.2.1
def dX11_wants_43 := bX11_wants_30.2.2.2.2.2.2.2.2.2.1
def dX11_wants_44 := bX11_wants_30.2.2.2.2.2.2.2.2.2.2.1
def dX11_wants_47 := bX11_wants_30.2.2.2.2.2.2.2.2.2.2.2
theorem bX11_signs_0 : decode cX11_signs 0 = .ok (.aload_n 0, 1) ∧ decode cX11_signs 1 = .ok (.getfield 46, 3) ∧ decode cX11_signs 4 = .ok (.bipush 10, 2) ∧ decode cX11_signs 6 = .ok (.iload_n 1, 1) ∧ decode cX11_signs 7 = .ok (.iastore, 1) ∧ decode cX11_signs 8 = .ok (.aload_n 0, 1) ∧ decode cX11_signs 9 = .ok (.getfield 46, 3) ∧ decode cX11_signs 12 = .ok (.bipush 11, 2) ∧ decode cX11_signs 14 = .ok (.iload_n 1, 1) ∧ decode cX11_signs 15 = .ok (.iconst (-1), 1) ∧ decode cX11_signs 16 = .ok (.if_icmp .ne 7, 3) ∧ decode cX11_signs 19 = .ok (.iconst (-1), 1) ∧ decode cX11_signs 20 = .ok (.goto 4, 3) ∧ decode cX11_signs 23 = .ok (.iconst 0, 1) ∧ decode cX11_signs 24 = .ok (.iastore, 1) ∧ decode cX11_signs 25 = .ok (.return_, 1) := by decide +kernel
def dX11_signs_0 := bX11_signs_0.1
def dX11_signs_1 := bX11_signs_0.2.1
def dX11_signs_4 := bX11_signs_0.2.2.1
def dX11_signs_6 := bX11_signs_0.2.2.2.1
def dX11_signs_7 := bX11_signs_0.2.2.2.2.1
def dX11_signs_8 := bX11_signs_0.2.2.2.2.2.1
def dX11_signs_9 := bX11_signs_0.2.2.2.2.2.2.1
def dX11_signs_12 := bX11_signs_0.2.2.2.2.2.2.2.1
def dX11_signs_14 := bX11_signs_0.2.2.2.2.2.2.2.2.1
def dX11_signs_15 := bX11_signs_0.2.2.2.2.2.2.2.2.2.1
def dX11_signs_16 := bX11_signs_0.2.2.2.2.2.2.2.2.2.2.1
def dX11_signs_19 := bX11_signs_0.2.2.2.2.2.2.2.2.2.2.2.1
def dX11_signs_20 := bX11_signs_0.2.2.2.2.2.2.2.2.2.2.2.2.1
def dX11_signs_23 := bX11_signs_0.2.2.2.2.2.2.2.2.2.2.2.2.2.1
def dX11_signs_24 := bX11_signs_0.2.2.2.2.2.2.2.2.2.2.2.2.2.2.1
def dX11_signs_25 := bX11_signs_0.2.2.2.2.2.2.2.2.2.2.2.2.2.2.2
theorem ggX11_sign_X11_isContract : GoodIn wsX11_sign wsX11_isContract := gW_in gwX11_isContract (fun _ h => List.mem_cons_of_mem _ (List.mem_append_right _ (List.mem_append_right _ (List.mem_append_left _ h))))
set_option maxRecDepth 20000 in
theorem gX11_sign_X11_isContract : GoodIn wsX11_sign (wsV RX11 177 RX11 yX11_isContract wsX11_isContract) := goodIn_app (goodIn_of _ (by decide +kernel)) ggX11_sign_X11_isContract
theorem ggX11_sign_X11_bad : GoodIn wsX11_sign wsX11_bad := gW_in gwX11_bad (fun _ h => List.mem_cons_of_mem _ (List.mem_append_right _ (List.mem_append_right _ (List.mem_append_right _ (List.mem_append_left _ h)))))
set_option maxRecDepth 20000 in
theorem gX11_sign_X11_bad : GoodIn wsX11_sign (wsV RX11 151 RX11 yX11_bad wsX11_bad) := goodIn_app (goodIn_of _ (by decide +kernel)) ggX11_sign_X11_bad
theorem ggX11_sign_X11_signs : GoodIn wsX11_sign wsX11_signs := gW_in gwX11_signs (fun _ h => List.mem_cons_of_mem _ (List.mem_append_right _ (List.mem_append_right _ (List.mem_append_right _ (List.mem_append_right _ (h))))))
set_option maxRecDepth 20000 in
theorem gX11_sign_X11_signs : GoodIn wsX11_sign (wsV RX11 183 RX11 yX11_signs wsX11_signs) := goodIn_app (goodIn_of _ (by decide +kernel)) ggX11_sign_X11_signs
theorem bX11_sign_0 : decode cX11_sign 0 = .ok (.aload_n 0, 1) ∧ decode cX11_sign 1 = .ok (.iconst 0, 1) ∧ decode cX11_sign 2 = .ok (.putfield 85, 3) ∧ decode cX11_sign 5 = .ok (.aload_n 0, 1) ∧ decode cX11_sign 6 = .ok (.iload_n 1, 1) ∧ decode cX11_sign 7 = .ok (.iconst (-1), 1) ∧ decode cX11_sign 8 = .ok (.if_icmp .eq 15, 3) ∧ decode cX11_sign 11 = .ok (.aload_n 0, 1) ∧ decode cX11_sign 12 = .ok (.iload_n 1, 1) ∧ decode cX11_sign 13 = .ok (.invokevirtual 177, 3) ∧ decode cX11_sign 16 = .ok (.ifCond .ne 7, 3) ∧ decode cX11_sign 19 = .ok (.iconst 1, 1) ∧ decode cX11_sign 20 = .ok (.goto 4, 3) ∧ decode cX11_sign 23 = .ok (.iconst 0, 1) ∧ decode cX11_sign 24 = .ok (.iconst 1, 1) ∧ decode cX11_sign 25 = .ok (.iconst 0, 1) := by decide +kernel
def dX11_sign_0 := bX11_sign_0.1
def dX11_sign_1 := bX11_sign_0.2.1
def dX11_sign_2 := bX11_sign_0.2.2.1
def dX11_sign_5 := bX11_sign_0.2.2.2.1
def dX11_sign_6 := bX11_sign_0.2.2.2.2.1
def dX11_sign_7 := bX11_sign_0.2.2.2.2.2.1
def dX11_sign_8 := bX11_sign_0.2.2.2.2.2.2.1
def dX11_sign_11 := bX11_sign_0.2.2.2.2.2.2.2.1
def dX11_sign_12 := bX11_sign_0.2.2.2.2.2.2.2.2.1
def dX11_sign_13 := bX11_sign_0.2.2.2.2.2.2.2.2.2.1
def dX11_sign_16 := bX11_sign_0.2.2.2.2.2.2.2.2.2.2.1
def dX11_sign_19 := bX11_sign_0.2.2.2.2.2.2.2.2.2.2.2.1
def dX11_sign_20 := bX11_sign_0.2.2.2.2.2.2.2.2.2.2.2.2.1
def dX11_sign_23 := bX11_sign_0.2.2.2.2.2.2.2.2.2.2.2.2.2.1
def dX11_sign_24 := bX11_sign_0.2.2.2.2.2.2.2.2.2.2.2.2.2.2.1
def dX11_sign_25 := bX11_sign_0.2.2.2.2.2.2.2.2.2.2.2.2.2.2.2
theorem bX11_sign_26 : decode cX11_sign 26 = .ok (.invokevirtual 151, 3) ∧ decode cX11_sign 29 = .ok (.ifCond .eq 5, 3) ∧ decode cX11_sign 32 = .ok (.iconst 0, 1) ∧ decode cX11_sign 33 = .ok (.ireturn, 1) ∧ decode cX11_sign 34 = .ok (.aload_n 0, 1) ∧ decode cX11_sign 35 = .ok (.getfield 46, 3) ∧ decode cX11_sign 38 = .ok (.bipush 10, 2) ∧ decode cX11_sign 40 = .ok (.iaload, 1) ∧ decode cX11_sign 41 = .ok (.istore_n 2, 1) ∧ decode cX11_sign 42 = .ok (.aload_n 0, 1) ∧ decode cX11_sign 43 = .ok (.iload_n 1, 1) ∧ decode cX11_sign 44 = .ok (.invokevirtual 183, 3) ∧ decode cX11_sign 47 = .ok (.iload_n 2, 1) ∧ decode cX11_sign 48 = .ok (.ireturn, 1) := by decide +kernel
def dX11_sign_26 := bX11_sign_26.1
def dX11_sign_29 := bX11_sign_26.2.1
def dX11_sign_32 := bX11_sign_26.2.2.1
def dX11_sign_33 := bX11_sign_26.2.2.2.1
def dX11_sign_34 := bX11_sign_26.2.2.2.2.1
def dX11_sign_35 := bX11_sign_26.2.2.2.2.2.1
def dX11_sign_38 := bX11_sign_26.2.2.2.2.2.2.1
def dX11_sign_40 := bX11_sign_26.2.2.2.2.2.2.2.1
def dX11_sign_41 := bX11_sign_26.2.2.2.2.2.2.2.2.1
def dX11_sign_42 := bX11_sign_26.2.2.2.2.2.2.2.2.2.1
def dX11_sign_43 := bX11_sign_26.2.2.2.2.2.2.2.2.2.2.1
def dX11_sign_44 := bX11_sign_26.2.2.2.2.2.2.2.2.2.2.2.1
def dX11_sign_47 := bX11_sign_26.2.2.2.2.2.2.2.2.2.2.2.2.1
def dX11_sign_48 := bX11_sign_26.2.2.2.2.2.2.2.2.2.2.2.2.2
theorem bX11_less_0 : decode cX11_less 0 = .ok (.iload_n 0, 1) ∧ decode cX11_less 1 = .ok (.iload_n 1, 1) ∧ decode cX11_less 2 = .ok (.if_icmp .ge 7, 3) ∧ decode cX11_less 5 = .ok (.iload_n 0, 1) ∧ decode cX11_less 6 = .ok (.goto 4, 3) ∧ decode cX11_less 9 = .ok (.iload_n 1, 1) ∧ decode cX11_less 10 = .ok (.ireturn, 1) := by decide +kernel
def dX11_less_0 := bX11_less_0.1
def dX11_less_1 := bX11_less_0.2.1
def dX11_less_2 := bX11_less_0.2.2.1
def dX11_less_5 := bX11_less_0.2.2.2.1
def dX11_less_6 := bX11_less_0.2.2.2.2.1
def dX11_less_9 := bX11_less_0.2.2.2.2.2.1
def dX11_less_10 := bX11_less_0.2.2.2.2.2.2
theorem ggX11_pays_X11_less : GoodIn wsX11_pays wsX11_less := gW_in gwX11_less (fun _ h => List.mem_cons_of_mem _ (List.mem_append_right _ (List.mem_append_right _ (h))))
set_option maxRecDepth 20000 in
theorem gX11_pays_X11_less : GoodIn wsX11_pays (va_wsS RX11 186 yX11_less wsX11_less) := goodIn_app (goodIn_of _ (by decide +kernel)) ggX11_pays_X11_less
theorem bX11_pays_0 : decode cX11_pays 0 = .ok (.iload_n 3, 1) ∧ decode cX11_pays 1 = .ok (.aload_n 0, 1) ∧ decode cX11_pays 2 = .ok (.getfield 46, 3) ∧ decode cX11_pays 5 = .ok (.iload_n 1, 1) ∧ decode cX11_pays 6 = .ok (.iaload, 1) ∧ decode cX11_pays 7 = .ok (.invokestatic 186, 3) ∧ decode cX11_pays 10 = .ok (.istore 4, 2) ∧ decode cX11_pays 12 = .ok (.aload_n 0, 1) ∧ decode cX11_pays 13 = .ok (.getfield 46, 3) ∧ decode cX11_pays 16 = .ok (.iload_n 1, 1) ∧ decode cX11_pays 17 = .ok (.dup2, 1) ∧ decode cX11_pays 18 = .ok (.iaload, 1) ∧ decode cX11_pays 19 = .ok (.iload 4, 2) ∧ decode cX11_pays 21 = .ok (.isub, 1) ∧ decode cX11_pays 22 = .ok (.iastore, 1) ∧ decode cX11_pays 23 = .ok (.aload_n 0, 1) := by decide +kernel
def dX11_pays_0 := bX11_pays_0.1
def dX11_pays_1 := bX11_pays_0.2.1
def dX11_pays_2 := bX11_pays_0.2.2.1
def dX11_pays_5 := bX11_pays_0.2.2.2.1
def dX11_pays_6 := bX11_pays_0.2.2.2.2.1
def dX11_pays_7 := bX11_pays_0.2.2.2.2.2.1
def dX11_pays_10 := bX11_pays_0.2.2.2.2.2.2.1
def dX11_pays_12 := bX11_pays_0.2.2.2.2.2.2.2.1
def dX11_pays_13 := bX11_pays_0.2.2.2.2.2.2.2.2.1
def dX11_pays_16 := bX11_pays_0.2.2.2.2.2.2.2.2.2.1
def dX11_pays_17 := bX11_pays_0.2.2.2.2.2.2.2.2.2.2.1
def dX11_pays_18 := bX11_pays_0.2.2.2.2.2.2.2.2.2.2.2.1
def dX11_pays_19 := bX11_pays_0.2.2.2.2.2.2.2.2.2.2.2.2.1
def dX11_pays_21 := bX11_pays_0.2.2.2.2.2.2.2.2.2.2.2.2.2.1
def dX11_pays_22 := bX11_pays_0.2.2.2.2.2.2.2.2.2.2.2.2.2.2.1
def dX11_pays_23 := bX11_pays_0.2.2.2.2.2.2.2.2.2.2.2.2.2.2.2
theorem bX11_pays_24 : decode cX11_pays 24 = .ok (.getfield 46, 3) ∧ decode cX11_pays 27 = .ok (.iload_n 2, 1) ∧ decode cX11_pays 28 = .ok (.dup2, 1) ∧ decode cX11_pays 29 = .ok (.iaload, 1) ∧ decode cX11_pays 30 = .ok (.iload 4, 2) ∧ decode cX11_pays 32 = .ok (.iadd, 1) ∧ decode cX11_pays 33 = .ok (.iastore, 1) ∧ decode cX11_pays 34 = .ok (.return_, 1) := by decide +kernel
def dX11_pays_24 := bX11_pays_24.1
def dX11_pays_27 := bX11_pays_24.2.1
def dX11_pays_28 := bX11_pays_24.2.2.1
def dX11_pays_29 := bX11_pays_24.2.2.2.1
def dX11_pays_30 := bX11_pays_24.2.2.2.2.1
def dX11_pays_32 := bX11_pays_24.2.2.2.2.2.1
def dX11_pays_33 := bX11_pays_24.2.2.2.2.2.2.1
def dX11_pays_34 := bX11_pays_24.2.2.2.2.2.2.2
theorem ggX11_fears_X11_less : GoodIn wsX11_fears wsX11_less := gW_in gwX11_less (fun _ h => List.mem_cons_of_mem _ (List.mem_append_right _ (List.mem_append_right _ (h))))
set_option maxRecDepth 20000 in
theorem gX11_fears_X11_less : GoodIn wsX11_fears (va_wsS RX11 186 yX11_less wsX11_less) := goodIn_app (goodIn_of _ (by decide +kernel)) ggX11_fears_X11_less
theorem bX11_fears_0 : decode cX11_fears 0 = .ok (.aload_n 0, 1) ∧ decode cX11_fears 1 = .ok (.getfield 46, 3) ∧ decode cX11_fears 4 = .ok (.iconst 5, 1) ∧ decode cX11_fears 5 = .ok (.bipush 100, 2) ∧ decode cX11_fears 7 = .ok (.aload_n 0, 1) ∧ decode cX11_fears 8 = .ok (.getfield 46, 3) ∧ decode cX11_fears 11 = .ok (.iconst 5, 1) ∧ decode cX11_fears 12 = .ok (.iaload, 1) ∧ decode cX11_fears 13 = .ok (.iload_n 1, 1) ∧ decode cX11_fears 14 = .ok (.iadd, 1) ∧ decode cX11_fears 15 = .ok (.invokestatic 186, 3) ∧ decode cX11_fears 18 = .ok (.iastore, 1) ∧ decode cX11_fears 19 = .ok (.return_, 1) := by decide +kernel
def dX11_fears_0 := bX11_fears_0.1
def dX11_fears_1 := bX11_fears_0.2.1
def dX11_fears_4 := bX11_fears_0.2.2.1
def dX11_fears_5 := bX11_fears_0.2.2.2.1
def dX11_fears_7 := bX11_fears_0.2.2.2.2.1
def dX11_fears_8 := bX11_fears_0.2.2.2.2.2.1
def dX11_fears_11 := bX11_fears_0.2.2.2.2.2.2.1
def dX11_fears_12 := bX11_fears_0.2.2.2.2.2.2.2.1
def dX11_fears_13 := bX11_fears_0.2.2.2.2.2.2.2.2.1
def dX11_fears_14 := bX11_fears_0.2.2.2.2.2.2.2.2.2.1
def dX11_fears_15 := bX11_fears_0.2.2.2.2.2.2.2.2.2.2.1
def dX11_fears_18 := bX11_fears_0.2.2.2.2.2.2.2.2.2.2.2.1
def dX11_fears_19 := bX11_fears_0.2.2.2.2.2.2.2.2.2.2.2.2
theorem bX11_weakest_0 : decode cX11_weakest 0 = .ok (.iconst 0, 1) ∧ decode cX11_weakest 1 = .ok (.istore_n 1, 1) ∧ decode cX11_weakest 2 = .ok (.iconst 1, 1) ∧ decode cX11_weakest 3 = .ok (.istore_n 2, 1) ∧ decode cX11_weakest 4 = .ok (.iload_n 2, 1) ∧ decode cX11_weakest 5 = .ok (.aload_n 0, 1) ∧ decode cX11_weakest 6 = .ok (.getfield 23, 3) ∧ decode cX11_weakest 9 = .ok (.iconst 0, 1) ∧ decode cX11_weakest 10 = .ok (.iaload, 1) ∧ decode cX11_weakest 11 = .ok (.if_icmp .ge 36, 3) ∧ decode cX11_weakest 14 = .ok (.aload_n 0, 1) ∧ decode cX11_weakest 15 = .ok (.getfield 46, 3) ∧ decode cX11_weakest 18 = .ok (.bipush 12, 2) ∧ decode cX11_weakest 20 = .ok (.iload_n 2, 1) ∧ decode cX11_weakest 21 = .ok (.iadd, 1) ∧ decode cX11_weakest 22 = .ok (.iaload, 1) := by decide +kernel
def dX11_weakest_0 := bX11_weakest_0.1
def dX11_weakest_1 := bX11_weakest_0.2.1
def dX11_weakest_2 := bX11_weakest_0.2.2.1
def dX11_weakest_3 := bX11_weakest_0.2.2.2.1
def dX11_weakest_4 := bX11_weakest_0.2.2.2.2.1
def dX11_weakest_5 := bX11_weakest_0.2.2.2.2.2.1
def dX11_weakest_6 := bX11_weakest_0.2.2.2.2.2.2.1
def dX11_weakest_9 := bX11_weakest_0.2.2.2.2.2.2.2.1
def dX11_weakest_10 := bX11_weakest_0.2.2.2.2.2.2.2.2.1
def dX11_weakest_11 := bX11_weakest_0.2.2.2.2.2.2.2.2.2.1
def dX11_weakest_14 := bX11_weakest_0.2.2.2.2.2.2.2.2.2.2.1
def dX11_weakest_15 := bX11_weakest_0.2.2.2.2.2.2.2.2.2.2.2.1
def dX11_weakest_18 := bX11_weakest_0.2.2.2.2.2.2.2.2.2.2.2.2.1
def dX11_weakest_20 := bX11_weakest_0.2.2.2.2.2.2.2.2.2.2.2.2.2.1
def dX11_weakest_21 := bX11_weakest_0.2.2.2.2.2.2.2.2.2.2.2.2.2.2.1
def dX11_weakest_22 := bX11_weakest_0.2.2.2.2.2.2.2.2.2.2.2.2.2.2.2
theorem bX11_weakest_23 : decode cX11_weakest 23 = .ok (.aload_n 0, 1) ∧ decode cX11_weakest 24 = .ok (.getfield 46, 3) ∧ decode cX11_weakest 27 = .ok (.bipush 12, 2) ∧ decode cX11_weakest 29 = .ok (.iload_n 1, 1) ∧ decode cX11_weakest 30 = .ok (.iadd, 1) ∧ decode cX11_weakest 31 = .ok (.iaload, 1) ∧ decode cX11_weakest 32 = .ok (.if_icmp .ge 7, 3) ∧ decode cX11_weakest 35 = .ok (.iload_n 2, 1) ∧ decode cX11_weakest 36 = .ok (.goto 4, 3) ∧ decode cX11_weakest 39 = .ok (.iload_n 1, 1) ∧ decode cX11_weakest 40 = .ok (.istore_n 1, 1) ∧ decode cX11_weakest 41 = .ok (.iinc 2 1, 3) ∧ decode cX11_weakest 44 = .ok (.goto (-40), 3) ∧ decode cX11_weakest 47 = .ok (.iload_n 1, 1) ∧ decode cX11_weakest 48 = .ok (.ireturn, 1) := by decide +kernel
def dX11_weakest_23 := bX11_weakest_23.1
def dX11_weakest_24 := bX11_weakest_23.2.1
def dX11_weakest_27 := bX11_weakest_23.2.2.1
def dX11_weakest_29 := bX11_weakest_23.2.2.2.1
def dX11_weakest_30 := bX11_weakest_23.2.2.2.2.1
def dX11_weakest_31 := bX11_weakest_23.2.2.2.2.2.1
def dX11_weakest_32 := bX11_weakest_23.2.2.2.2.2.2.1
def dX11_weakest_35 := bX11_weakest_23.2.2.2.2.2.2.2.1
def dX11_weakest_36 := bX11_weakest_23.2.2.2.2.2.2.2.2.1
def dX11_weakest_39 := bX11_weakest_23.2.2.2.2.2.2.2.2.2.1
def dX11_weakest_40 := bX11_weakest_23.2.2.2.2.2.2.2.2.2.2.1
def dX11_weakest_41 := bX11_weakest_23.2.2.2.2.2.2.2.2.2.2.2.1
def dX11_weakest_44 := bX11_weakest_23.2.2.2.2.2.2.2.2.2.2.2.2.1
def dX11_weakest_47 := bX11_weakest_23.2.2.2.2.2.2.2.2.2.2.2.2.2.1
def dX11_weakest_48 := bX11_weakest_23.2.2.2.2.2.2.2.2.2.2.2.2.2.2
theorem ggX11_shoots_X11_weakest : GoodIn wsX11_shoots wsX11_weakest := gW_in gwX11_weakest (fun _ h => List.mem_cons_of_mem _ (List.mem_append_right _ (List.mem_append_right _ (List.mem_append_left _ h))))
set_option maxRecDepth 20000 in
theorem gX11_shoots_X11_weakest : GoodIn wsX11_shoots (wsV RX11 189 RX11 yX11_weakest wsX11_weakest) := goodIn_app (goodIn_of _ (by decide +kernel)) ggX11_shoots_X11_weakest
theorem ggX11_shoots_X11_fears : GoodIn wsX11_shoots wsX11_fears := gW_in gwX11_fears (fun _ h => List.mem_cons_of_mem _ (List.mem_append_right _ (List.mem_append_right _ (List.mem_append_right _ (List.mem_append_left _ h)))))
set_option maxRecDepth 20000 in
theorem gX11_shoots_X11_fears : GoodIn wsX11_shoots (wsV RX11 196 RX11 yX11_fears wsX11_fears) := goodIn_app (goodIn_of _ (by decide +kernel)) ggX11_shoots_X11_fears
theorem ggX11_shoots_X11_pays : GoodIn wsX11_shoots wsX11_pays := gW_in gwX11_pays (fun _ h => List.mem_cons_of_mem _ (List.mem_append_right _ (List.mem_append_right _ (List.mem_append_right _ (List.mem_append_right _ (h))))))
set_option maxRecDepth 20000 in
theorem gX11_shoots_X11_pays : GoodIn wsX11_shoots (wsV RX11 199 RX11 yX11_pays wsX11_pays) := goodIn_app (goodIn_of _ (by decide +kernel)) ggX11_shoots_X11_pays
theorem bX11_shoots_0 : decode cX11_shoots 0 = .ok (.aload_n 2, 1) ∧ decode cX11_shoots 1 = .ok (.aload_n 0, 1) ∧ decode cX11_shoots 2 = .ok (.getfield 46, 3) ∧ decode cX11_shoots 5 = .ok (.bipush 11, 2) ∧ decode cX11_shoots 7 = .ok (.iaload, 1) ∧ decode cX11_shoots 8 = .ok (.iaload, 1) ∧ decode cX11_shoots 9 = .ok (.istore_n 3, 1) ∧ decode cX11_shoots 10 = .ok (.iconst 0, 1) ∧ decode cX11_shoots 11 = .ok (.istore 4, 2) ∧ decode cX11_shoots 13 = .ok (.iconst 1, 1) ∧ decode cX11_shoots 14 = .ok (.istore 5, 2) ∧ decode cX11_shoots 16 = .ok (.iload 5, 2) ∧ decode cX11_shoots 18 = .ok (.aload_n 1, 1) ∧ decode cX11_shoots 19 = .ok (.iconst 3, 1) ∧ decode cX11_shoots 20 = .ok (.iaload, 1) ∧ decode cX11_shoots 21 = .ok (.if_icmp .gt 185, 3) := by decide +kernel
def dX11_shoots_0 := bX11_shoots_0.1
def dX11_shoots_1 := bX11_shoots_0.2.1
def dX11_shoots_2 := bX11_shoots_0.2.2.1
def dX11_shoots_5 := bX11_shoots_0.2.2.2.1
def dX11_shoots_7 := bX11_shoots_0.2.2.2.2.1
def dX11_shoots_8 := bX11_shoots_0.2.2.2.2.2.1
def dX11_shoots_9 := bX11_shoots_0.2.2.2.2.2.2.1
def dX11_shoots_10 := bX11_shoots_0.2.2.2.2.2.2.2.1
def dX11_shoots_11 := bX11_shoots_0.2.2.2.2.2.2.2.2.1
def dX11_shoots_13 := bX11_shoots_0.2.2.2.2.2.2.2.2.2.1
def dX11_shoots_14 := bX11_shoots_0.2.2.2.2.2.2.2.2.2.2.1
def dX11_shoots_16 := bX11_shoots_0.2.2.2.2.2.2.2.2.2.2.2.1
def dX11_shoots_18 := bX11_shoots_0.2.2.2.2.2.2.2.2.2.2.2.2.1
def dX11_shoots_19 := bX11_shoots_0.2.2.2.2.2.2.2.2.2.2.2.2.2.1
def dX11_shoots_20 := bX11_shoots_0.2.2.2.2.2.2.2.2.2.2.2.2.2.2.1
def dX11_shoots_21 := bX11_shoots_0.2.2.2.2.2.2.2.2.2.2.2.2.2.2.2
theorem bX11_shoots_24 : decode cX11_shoots 24 = .ok (.aload_n 0, 1) ∧ decode cX11_shoots 25 = .ok (.getfield 23, 3) ∧ decode cX11_shoots 28 = .ok (.iconst 0, 1) ∧ decode cX11_shoots 29 = .ok (.iaload, 1) ∧ decode cX11_shoots 30 = .ok (.ifCond .le 176, 3) ∧ decode cX11_shoots 33 = .ok (.iload_n 3, 1) ∧ decode cX11_shoots 34 = .ok (.iconst (-1), 1) ∧ decode cX11_shoots 35 = .ok (.if_icmp .ne 10, 3) ∧ decode cX11_shoots 38 = .ok (.aload_n 0, 1) ∧ decode cX11_shoots 39 = .ok (.invokevirtual 189, 3) ∧ decode cX11_shoots 42 = .ok (.goto 4, 3) ∧ decode cX11_shoots 45 = .ok (.iload_n 3, 1) ∧ decode cX11_shoots 46 = .ok (.istore 6, 2) ∧ decode cX11_shoots 48 = .ok (.aload_n 0, 1) ∧ decode cX11_shoots 49 = .ok (.getfield 192, 3) ∧ decode cX11_shoots 52 = .ok (.ifCond .eq 22, 3) := by decide +kernel
def dX11_shoots_24 := bX11_shoots_24.1
def dX11_shoots_25 := bX11_shoots_24.2.1
def dX11_shoots_28 := bX11_shoots_24.2.2.1
def dX11_shoots_29 := bX11_shoots_24.2.2.2.1
def dX11_shoots_30 := bX11_shoots_24.2.2.2.2.1
def dX11_shoots_33 := bX11_shoots_24.2.2.2.2.2.1
def dX11_shoots_34 := bX11_shoots_24.2.2.2.2.2.2.1
def dX11_shoots_35 := bX11_shoots_24.2.2.2.2.2.2.2.1
def dX11_shoots_38 := bX11_shoots_24.2.2.2.2.2.2.2.2.1
def dX11_shoots_39 := bX11_shoots_24.2.2.2.2.2.2.2.2.2.1
def dX11_shoots_42 := bX11_shoots_24.2.2.2.2.2.2.2.2.2.2.1
def dX11_shoots_45 := bX11_shoots_24.2.2.2.2.2.2.2.2.2.2.2.1
def dX11_shoots_46 := bX11_shoots_24.2.2.2.2.2.2.2.2.2.2.2.2.1
def dX11_shoots_48 := bX11_shoots_24.2.2.2.2.2.2.2.2.2.2.2.2.2.1
def dX11_shoots_49 := bX11_shoots_24.2.2.2.2.2.2.2.2.2.2.2.2.2.2.1
def dX11_shoots_52 := bX11_shoots_24.2.2.2.2.2.2.2.2.2.2.2.2.2.2.2
theorem bX11_shoots_55 : decode cX11_shoots 55 = .ok (.aload_n 0, 1) ∧ decode cX11_shoots 56 = .ok (.getfield 55, 3) ∧ decode cX11_shoots 59 = .ok (.aload_n 0, 1) ∧ decode cX11_shoots 60 = .ok (.getfield 46, 3) ∧ decode cX11_shoots 63 = .ok (.bipush 24, 2) ∧ decode cX11_shoots 65 = .ok (.iaload, 1) ∧ decode cX11_shoots 66 = .ok (.aaload, 1) ∧ decode cX11_shoots 67 = .ok (.iload 6, 2) ∧ decode cX11_shoots 69 = .ok (.dup2, 1) ∧ decode cX11_shoots 70 = .ok (.iaload, 1) ∧ decode cX11_shoots 71 = .ok (.iconst 1, 1) ∧ decode cX11_shoots 72 = .ok (.iadd, 1) ∧ decode cX11_shoots 73 = .ok (.iastore, 1) ∧ decode cX11_shoots 74 = .ok (.aload_n 0, 1) ∧ decode cX11_shoots 75 = .ok (.getfield 46, 3) ∧ decode cX11_shoots 78 = .ok (.bipush 9, 2) := by decide +kernel
def dX11_shoots_55 := bX11_shoots_55.1
def dX11_shoots_56 := bX11_shoots_55.2.1
def dX11_shoots_59 := bX11_shoots_55.2.2.1
def dX11_shoots_60 := bX11_shoots_55.2.2.2.1
def dX11_shoots_63 := bX11_shoots_55.2.2.2.2.1
def dX11_shoots_65 := bX11_shoots_55.2.2.2.2.2.1
def dX11_shoots_66 := bX11_shoots_55.2.2.2.2.2.2.1
def dX11_shoots_67 := bX11_shoots_55.2.2.2.2.2.2.2.1
def dX11_shoots_69 := bX11_shoots_55.2.2.2.2.2.2.2.2.1
def dX11_shoots_70 := bX11_shoots_55.2.2.2.2.2.2.2.2.2.1
def dX11_shoots_71 := bX11_shoots_55.2.2.2.2.2.2.2.2.2.2.1
def dX11_shoots_72 := bX11_shoots_55.2.2.2.2.2.2.2.2.2.2.2.1
def dX11_shoots_73 := bX11_shoots_55.2.2.2.2.2.2.2.2.2.2.2.2.1
def dX11_shoots_74 := bX11_shoots_55.2.2.2.2.2.2.2.2.2.2.2.2.2.1
def dX11_shoots_75 := bX11_shoots_55.2.2.2.2.2.2.2.2.2.2.2.2.2.2.1
def dX11_shoots_78 := bX11_shoots_55.2.2.2.2.2.2.2.2.2.2.2.2.2.2.2
theorem bX11_shoots_80 : decode cX11_shoots 80 = .ok (.dup2, 1) ∧ decode cX11_shoots 81 = .ok (.iaload, 1) ∧ decode cX11_shoots 82 = .ok (.iconst 1, 1) ∧ decode cX11_shoots 83 = .ok (.iadd, 1) ∧ decode cX11_shoots 84 = .ok (.iastore, 1) ∧ decode cX11_shoots 85 = .ok (.aload_n 0, 1) ∧ decode cX11_shoots 86 = .ok (.getfield 46, 3) ∧ decode cX11_shoots 89 = .ok (.bipush 12, 2) ∧ decode cX11_shoots 91 = .ok (.iload 6, 2) ∧ decode cX11_shoots 93 = .ok (.iadd, 1) ∧ decode cX11_shoots 94 = .ok (.dup2, 1) ∧ decode cX11_shoots 95 = .ok (.iaload, 1) ∧ decode cX11_shoots 96 = .ok (.aload_n 1, 1) ∧ decode cX11_shoots 97 = .ok (.iconst 2, 1) ∧ decode cX11_shoots 98 = .ok (.iaload, 1) ∧ decode cX11_shoots 99 = .ok (.iconst 5, 1) := by decide +kernel
def dX11_shoots_80 := bX11_shoots_80.1
def dX11_shoots_81 := bX11_shoots_80.2.1
def dX11_shoots_82 := bX11_shoots_80.2.2.1
def dX11_shoots_83 := bX11_shoots_80.2.2.2.1
def dX11_shoots_84 := bX11_shoots_80.2.2.2.2.1
def dX11_shoots_85 := bX11_shoots_80.2.2.2.2.2.1
def dX11_shoots_86 := bX11_shoots_80.2.2.2.2.2.2.1
def dX11_shoots_89 := bX11_shoots_80.2.2.2.2.2.2.2.1
def dX11_shoots_91 := bX11_shoots_80.2.2.2.2.2.2.2.2.1
def dX11_shoots_93 := bX11_shoots_80.2.2.2.2.2.2.2.2.2.1
def dX11_shoots_94 := bX11_shoots_80.2.2.2.2.2.2.2.2.2.2.1
def dX11_shoots_95 := bX11_shoots_80.2.2.2.2.2.2.2.2.2.2.2.1
def dX11_shoots_96 := bX11_shoots_80.2.2.2.2.2.2.2.2.2.2.2.2.1
def dX11_shoots_97 := bX11_shoots_80.2.2.2.2.2.2.2.2.2.2.2.2.2.1
def dX11_shoots_98 := bX11_shoots_80.2.2.2.2.2.2.2.2.2.2.2.2.2.2.1
def dX11_shoots_99 := bX11_shoots_80.2.2.2.2.2.2.2.2.2.2.2.2.2.2.2
theorem bX11_shoots_100 : decode cX11_shoots 100 = .ok (.if_icmp .ge 14, 3) ∧ decode cX11_shoots 103 = .ok (.iload 5, 2) ∧ decode cX11_shoots 105 = .ok (.iconst 2, 1) ∧ decode cX11_shoots 106 = .ok (.irem, 1) ∧ decode cX11_shoots 107 = .ok (.ifCond .ne 7, 3) ∧ decode cX11_shoots 110 = .ok (.iconst 2, 1) ∧ decode cX11_shoots 111 = .ok (.goto 4, 3) ∧ decode cX11_shoots 114 = .ok (.iconst 1, 1) ∧ decode cX11_shoots 115 = .ok (.isub, 1) ∧ decode cX11_shoots 116 = .ok (.iastore, 1) ∧ decode cX11_shoots 117 = .ok (.aload_n 0, 1) ∧ decode cX11_shoots 118 = .ok (.getfield 46, 3) ∧ decode cX11_shoots 121 = .ok (.bipush 12, 2) ∧ decode cX11_shoots 123 = .ok (.iload 6, 2) ∧ decode cX11_shoots 125 = .ok (.iadd, 1) ∧ decode cX11_shoots 126 = .ok (.iaload, 1) := by decide +kernel
def dX11_shoots_100 := bX11_shoots_100.1
def dX11_shoots_103 := bX11_shoots_100.2.1
def dX11_shoots_105 := bX11_shoots_100.2.2.1
def dX11_shoots_106 := bX11_shoots_100.2.2.2.1
def dX11_shoots_107 := bX11_shoots_100.2.2.2.2.1
def dX11_shoots_110 := bX11_shoots_100.2.2.2.2.2.1
def dX11_shoots_111 := bX11_shoots_100.2.2.2.2.2.2.1
def dX11_shoots_114 := bX11_shoots_100.2.2.2.2.2.2.2.1
def dX11_shoots_115 := bX11_shoots_100.2.2.2.2.2.2.2.2.1
def dX11_shoots_116 := bX11_shoots_100.2.2.2.2.2.2.2.2.2.1
def dX11_shoots_117 := bX11_shoots_100.2.2.2.2.2.2.2.2.2.2.1
def dX11_shoots_118 := bX11_shoots_100.2.2.2.2.2.2.2.2.2.2.2.1
def dX11_shoots_121 := bX11_shoots_100.2.2.2.2.2.2.2.2.2.2.2.2.1
def dX11_shoots_123 := bX11_shoots_100.2.2.2.2.2.2.2.2.2.2.2.2.2.1
def dX11_shoots_125 := bX11_shoots_100.2.2.2.2.2.2.2.2.2.2.2.2.2.2.1
def dX11_shoots_126 := bX11_shoots_100.2.2.2.2.2.2.2.2.2.2.2.2.2.2.2
theorem bX11_shoots_127 : decode cX11_shoots 127 = .ok (.ifCond .le 6, 3) ∧ decode cX11_shoots 130 = .ok (.goto 70, 3) ∧ decode cX11_shoots 133 = .ok (.aload_n 0, 1) ∧ decode cX11_shoots 134 = .ok (.getfield 46, 3) ∧ decode cX11_shoots 137 = .ok (.bipush 12, 2) ∧ decode cX11_shoots 139 = .ok (.iload 6, 2) ∧ decode cX11_shoots 141 = .ok (.iadd, 1) ∧ decode cX11_shoots 142 = .ok (.aload_n 0, 1) ∧ decode cX11_shoots 143 = .ok (.getfield 31, 3) ∧ decode cX11_shoots 146 = .ok (.iload 6, 2) ∧ decode cX11_shoots 148 = .ok (.aaload, 1) ∧ decode cX11_shoots 149 = .ok (.iconst 0, 1) ∧ decode cX11_shoots 150 = .ok (.iaload, 1) ∧ decode cX11_shoots 151 = .ok (.iastore, 1) ∧ decode cX11_shoots 152 = .ok (.aload_n 0, 1) ∧ decode cX11_shoots 153 = .ok (.getfield 46, 3) := by decide +kernel
def dX11_shoots_127 := bX11_shoots_127.1
def dX11_shoots_130 := bX11_shoots_127.2.1
def dX11_shoots_133 := bX11_shoots_127.2.2.1
def dX11_shoots_134 := bX11_shoots_127.2.2.2.1
def dX11_shoots_137 := bX11_shoots_127.2.2.2.2.1
def dX11_shoots_139 := bX11_shoots_127.2.2.2.2.2.1
def dX11_shoots_141 := bX11_shoots_127.2.2.2.2.2.2.1
def dX11_shoots_142 := bX11_shoots_127.2.2.2.2.2.2.2.1
def dX11_shoots_143 := bX11_shoots_127.2.2.2.2.2.2.2.2.1
def dX11_shoots_146 := bX11_shoots_127.2.2.2.2.2.2.2.2.2.1
def dX11_shoots_148 := bX11_shoots_127.2.2.2.2.2.2.2.2.2.2.1
def dX11_shoots_149 := bX11_shoots_127.2.2.2.2.2.2.2.2.2.2.2.1
def dX11_shoots_150 := bX11_shoots_127.2.2.2.2.2.2.2.2.2.2.2.2.1
def dX11_shoots_151 := bX11_shoots_127.2.2.2.2.2.2.2.2.2.2.2.2.2.1
def dX11_shoots_152 := bX11_shoots_127.2.2.2.2.2.2.2.2.2.2.2.2.2.2.1
def dX11_shoots_153 := bX11_shoots_127.2.2.2.2.2.2.2.2.2.2.2.2.2.2.2
theorem bX11_shoots_156 : decode cX11_shoots 156 = .ok (.bipush 18, 2) ∧ decode cX11_shoots 158 = .ok (.iload 6, 2) ∧ decode cX11_shoots 160 = .ok (.iadd, 1) ∧ decode cX11_shoots 161 = .ok (.dup2, 1) ∧ decode cX11_shoots 162 = .ok (.iaload, 1) ∧ decode cX11_shoots 163 = .ok (.iconst 1, 1) ∧ decode cX11_shoots 164 = .ok (.iadd, 1) ∧ decode cX11_shoots 165 = .ok (.iastore, 1) ∧ decode cX11_shoots 166 = .ok (.aload_n 0, 1) ∧ decode cX11_shoots 167 = .ok (.getfield 46, 3) ∧ decode cX11_shoots 170 = .ok (.bipush 6, 2) ∧ decode cX11_shoots 172 = .ok (.dup2, 1) ∧ decode cX11_shoots 173 = .ok (.iaload, 1) ∧ decode cX11_shoots 174 = .ok (.iconst 1, 1) ∧ decode cX11_shoots 175 = .ok (.iadd, 1) ∧ decode cX11_shoots 176 = .ok (.iastore, 1) := by decide +kernel
def dX11_shoots_156 := bX11_shoots_156.1
def dX11_shoots_158 := bX11_shoots_156.2.1
def dX11_shoots_160 := bX11_shoots_156.2.2.1
def dX11_shoots_161 := bX11_shoots_156.2.2.2.1
def dX11_shoots_162 := bX11_shoots_156.2.2.2.2.1
def dX11_shoots_163 := bX11_shoots_156.2.2.2.2.2.1
def dX11_shoots_164 := bX11_shoots_156.2.2.2.2.2.2.1
def dX11_shoots_165 := bX11_shoots_156.2.2.2.2.2.2.2.1
def dX11_shoots_166 := bX11_shoots_156.2.2.2.2.2.2.2.2.1
def dX11_shoots_167 := bX11_shoots_156.2.2.2.2.2.2.2.2.2.1
def dX11_shoots_170 := bX11_shoots_156.2.2.2.2.2.2.2.2.2.2.1
def dX11_shoots_172 := bX11_shoots_156.2.2.2.2.2.2.2.2.2.2.2.1
def dX11_shoots_173 := bX11_shoots_156.2.2.2.2.2.2.2.2.2.2.2.2.1
def dX11_shoots_174 := bX11_shoots_156.2.2.2.2.2.2.2.2.2.2.2.2.2.1
def dX11_shoots_175 := bX11_shoots_156.2.2.2.2.2.2.2.2.2.2.2.2.2.2.1
def dX11_shoots_176 := bX11_shoots_156.2.2.2.2.2.2.2.2.2.2.2.2.2.2.2
theorem bX11_shoots_177 : decode cX11_shoots 177 = .ok (.iconst 1, 1) ∧ decode cX11_shoots 178 = .ok (.istore 4, 2) ∧ decode cX11_shoots 180 = .ok (.aload_n 0, 1) ∧ decode cX11_shoots 181 = .ok (.aload_n 0, 1) ∧ decode cX11_shoots 182 = .ok (.getfield 23, 3) ∧ decode cX11_shoots 185 = .ok (.bipush 10, 2) ∧ decode cX11_shoots 187 = .ok (.iaload, 1) ∧ decode cX11_shoots 188 = .ok (.invokevirtual 196, 3) ∧ decode cX11_shoots 191 = .ok (.aload_n 0, 1) ∧ decode cX11_shoots 192 = .ok (.iconst 0, 1) ∧ decode cX11_shoots 193 = .ok (.iconst 1, 1) ∧ decode cX11_shoots 194 = .ok (.aload_n 1, 1) ∧ decode cX11_shoots 195 = .ok (.iconst 4, 1) ∧ decode cX11_shoots 196 = .ok (.iaload, 1) ∧ decode cX11_shoots 197 = .ok (.invokevirtual 199, 3) ∧ decode cX11_shoots 200 = .ok (.iinc 5 1, 3) := by decide +kernel
def dX11_shoots_177 := bX11_shoots_177.1
def dX11_shoots_178 := bX11_shoots_177.2.1
def dX11_shoots_180 := bX11_shoots_177.2.2.1
def dX11_shoots_181 := bX11_shoots_177.2.2.2.1
def dX11_shoots_182 := bX11_shoots_177.2.2.2.2.1
def dX11_shoots_185 := bX11_shoots_177.2.2.2.2.2.1
def dX11_shoots_187 := bX11_shoots_177.2.2.2.2.2.2.1
def dX11_shoots_188 := bX11_shoots_177.2.2.2.2.2.2.2.1
def dX11_shoots_191 := bX11_shoots_177.2.2.2.2.2.2.2.2.1
def dX11_shoots_192 := bX11_shoots_177.2.2.2.2.2.2.2.2.2.1
def dX11_shoots_193 := bX11_shoots_177.2.2.2.2.2.2.2.2.2.2.1
def dX11_shoots_194 := bX11_shoots_177.2.2.2.2.2.2.2.2.2.2.2.1
def dX11_shoots_195 := bX11_shoots_177.2.2.2.2.2.2.2.2.2.2.2.2.1
def dX11_shoots_196 := bX11_shoots_177.2.2.2.2.2.2.2.2.2.2.2.2.2.1
def dX11_shoots_197 := bX11_shoots_177.2.2.2.2.2.2.2.2.2.2.2.2.2.2.1
def dX11_shoots_200 := bX11_shoots_177.2.2.2.2.2.2.2.2.2.2.2.2.2.2.2
theorem bX11_shoots_203 : decode cX11_shoots 203 = .ok (.goto (-187), 3) ∧ decode cX11_shoots 206 = .ok (.aload_n 0, 1) ∧ decode cX11_shoots 207 = .ok (.getfield 46, 3) ∧ decode cX11_shoots 210 = .ok (.bipush 7, 2) ∧ decode cX11_shoots 212 = .ok (.dup2, 1) ∧ decode cX11_shoots 213 = .ok (.iaload, 1) ∧ decode cX11_shoots 214 = .ok (.iload_n 3, 1) ∧ decode cX11_shoots 215 = .ok (.iconst (-1), 1) ∧ decode cX11_shoots 216 = .ok (.if_icmp .eq 12, 3) ∧ decode cX11_shoots 219 = .ok (.iload 4, 2) ∧ decode cX11_shoots 221 = .ok (.ifCond .ne 7, 3) ∧ decode cX11_shoots 224 = .ok (.iconst 1, 1) ∧ decode cX11_shoots 225 = .ok (.goto 4, 3) ∧ decode cX11_shoots 228 = .ok (.iconst 0, 1) ∧ decode cX11_shoots 229 = .ok (.iadd, 1) ∧ decode cX11_shoots 230 = .ok (.iastore, 1) := by decide +kernel
def dX11_shoots_203 := bX11_shoots_203.1
def dX11_shoots_206 := bX11_shoots_203.2.1
def dX11_shoots_207 := bX11_shoots_203.2.2.1
def dX11_shoots_210 := bX11_shoots_203.2.2.2.1
def dX11_shoots_212 := bX11_shoots_203.2.2.2.2.1
def dX11_shoots_213 := bX11_shoots_203.2.2.2.2.2.1
def dX11_shoots_214 := bX11_shoots_203.2.2.2.2.2.2.1
def dX11_shoots_215 := bX11_shoots_203.2.2.2.2.2.2.2.1
def dX11_shoots_216 := bX11_shoots_203.2.2.2.2.2.2.2.2.1
def dX11_shoots_219 := bX11_shoots_203.2.2.2.2.2.2.2.2.2.1
def dX11_shoots_221 := bX11_shoots_203.2.2.2.2.2.2.2.2.2.2.1
def dX11_shoots_224 := bX11_shoots_203.2.2.2.2.2.2.2.2.2.2.2.1
def dX11_shoots_225 := bX11_shoots_203.2.2.2.2.2.2.2.2.2.2.2.2.1
def dX11_shoots_228 := bX11_shoots_203.2.2.2.2.2.2.2.2.2.2.2.2.2.1
def dX11_shoots_229 := bX11_shoots_203.2.2.2.2.2.2.2.2.2.2.2.2.2.2.1
def dX11_shoots_230 := bX11_shoots_203.2.2.2.2.2.2.2.2.2.2.2.2.2.2.2
theorem bX11_shoots_231 : decode cX11_shoots 231 = .ok (.aload_n 0, 1) ∧ decode cX11_shoots 232 = .ok (.aload_n 0, 1) ∧ decode cX11_shoots 233 = .ok (.getfield 23, 3) ∧ decode cX11_shoots 236 = .ok (.bipush 15, 2) ∧ decode cX11_shoots 238 = .ok (.aload_n 1, 1) ∧ decode cX11_shoots 239 = .ok (.iconst 2, 1) ∧ decode cX11_shoots 240 = .ok (.iaload, 1) ∧ decode cX11_shoots 241 = .ok (.iadd, 1) ∧ decode cX11_shoots 242 = .ok (.iaload, 1) ∧ decode cX11_shoots 243 = .ok (.invokevirtual 196, 3) ∧ decode cX11_shoots 246 = .ok (.return_, 1) := by decide +kernel
def dX11_shoots_231 := bX11_shoots_231.1
def dX11_shoots_232 := bX11_shoots_231.2.1
def dX11_shoots_233 := bX11_shoots_231.2.2.1
def dX11_shoots_236 := bX11_shoots_231.2.2.2.1
def dX11_shoots_238 := bX11_shoots_231.2.2.2.2.1
def dX11_shoots_239 := bX11_shoots_231.2.2.2.2.2.1
def dX11_shoots_240 := bX11_shoots_231.2.2.2.2.2.2.1
def dX11_shoots_241 := bX11_shoots_231.2.2.2.2.2.2.2.1
def dX11_shoots_242 := bX11_shoots_231.2.2.2.2.2.2.2.2.1
def dX11_shoots_243 := bX11_shoots_231.2.2.2.2.2.2.2.2.2.1
def dX11_shoots_246 := bX11_shoots_231.2.2.2.2.2.2.2.2.2.2
theorem ggX11_underContract_X11_signs : GoodIn wsX11_underContract wsX11_signs := gW_in gwX11_signs (fun _ h => List.mem_cons_of_mem _ (List.mem_append_right _ (List.mem_append_right _ (List.mem_append_left _ h))))
set_option maxRecDepth 20000 in
theorem gX11_underContract_X11_signs : GoodIn wsX11_underContract (wsV RX11 183 RX11 yX11_signs wsX11_signs) := goodIn_app (goodIn_of _ (by decide +kernel)) ggX11_underContract_X11_signs
theorem ggX11_underContract_X11_pays : GoodIn wsX11_underContract wsX11_pays := gW_in gwX11_pays (fun _ h => List.mem_cons_of_mem _ (List.mem_append_right _ (List.mem_append_right _ (List.mem_append_right _ (List.mem_append_left _ h)))))
set_option maxRecDepth 20000 in
theorem gX11_underContract_X11_pays : GoodIn wsX11_underContract (wsV RX11 199 RX11 yX11_pays wsX11_pays) := goodIn_app (goodIn_of _ (by decide +kernel)) ggX11_underContract_X11_pays
theorem ggX11_underContract_X11_shoots : GoodIn wsX11_underContract wsX11_shoots := gW_in gwX11_shoots (fun _ h => List.mem_cons_of_mem _ (List.mem_append_right _ (List.mem_append_right _ (List.mem_append_right _ (List.mem_append_right _ (h))))))
set_option maxRecDepth 20000 in
theorem gX11_underContract_X11_shoots : GoodIn wsX11_underContract (wsV RX11 203 RX11 yX11_shoots wsX11_shoots) := goodIn_app (goodIn_of _ (by decide +kernel)) ggX11_underContract_X11_shoots
theorem bX11_underContract_0 : decode cX11_underContract 0 = .ok (.aload_n 0, 1) ∧ decode cX11_underContract 1 = .ok (.getfield 40, 3) ∧ decode cX11_underContract 4 = .ok (.aload_n 0, 1) ∧ decode cX11_underContract 5 = .ok (.getfield 46, 3) ∧ decode cX11_underContract 8 = .ok (.bipush 10, 2) ∧ decode cX11_underContract 10 = .ok (.iaload, 1) ∧ decode cX11_underContract 11 = .ok (.aaload, 1) ∧ decode cX11_underContract 12 = .ok (.astore_n 1, 1) ∧ decode cX11_underContract 13 = .ok (.aload_n 0, 1) ∧ decode cX11_underContract 14 = .ok (.getfield 46, 3) ∧ decode cX11_underContract 17 = .ok (.bipush 24, 2) ∧ decode cX11_underContract 19 = .ok (.iaload, 1) ∧ decode cX11_underContract 20 = .ok (.bipush 12, 2) ∧ decode cX11_underContract 22 = .ok (.irem, 1) ∧ decode cX11_underContract 23 = .ok (.istore_n 2, 1) ∧ decode cX11_underContract 24 = .ok (.iload_n 2, 1) := by decide +kernel
def dX11_underContract_0 := bX11_underContract_0.1
def dX11_underContract_1 := bX11_underContract_0.2.1
def dX11_underContract_4 := bX11_underContract_0.2.2.1
def dX11_underContract_5 := bX11_underContract_0.2.2.2.1
def dX11_underContract_8 := bX11_underContract_0.2.2.2.2.1
def dX11_underContract_10 := bX11_underContract_0.2.2.2.2.2.1
def dX11_underContract_11 := bX11_underContract_0.2.2.2.2.2.2.1
def dX11_underContract_12 := bX11_underContract_0.2.2.2.2.2.2.2.1
def dX11_underContract_13 := bX11_underContract_0.2.2.2.2.2.2.2.2.1
def dX11_underContract_14 := bX11_underContract_0.2.2.2.2.2.2.2.2.2.1
def dX11_underContract_17 := bX11_underContract_0.2.2.2.2.2.2.2.2.2.2.1
def dX11_underContract_19 := bX11_underContract_0.2.2.2.2.2.2.2.2.2.2.2.1
def dX11_underContract_20 := bX11_underContract_0.2.2.2.2.2.2.2.2.2.2.2.2.1
def dX11_underContract_22 := bX11_underContract_0.2.2.2.2.2.2.2.2.2.2.2.2.2.1
def dX11_underContract_23 := bX11_underContract_0.2.2.2.2.2.2.2.2.2.2.2.2.2.2.1
def dX11_underContract_24 := bX11_underContract_0.2.2.2.2.2.2.2.2.2.2.2.2.2.2.2
theorem bX11_underContract_25 : decode cX11_underContract 25 = .ok (.bipush 9, 2) ∧ decode cX11_underContract 27 = .ok (.if_icmp .gt 8, 3) ∧ decode cX11_underContract 30 = .ok (.iload_n 2, 1) ∧ decode cX11_underContract 31 = .ok (.iconst 2, 1) ∧ decode cX11_underContract 32 = .ok (.if_icmp .ge 9, 3) ∧ decode cX11_underContract 35 = .ok (.aload_n 1, 1) ∧ decode cX11_underContract 36 = .ok (.iconst 1, 1) ∧ decode cX11_underContract 37 = .ok (.iaload, 1) ∧ decode cX11_underContract 38 = .ok (.goto 6, 3) ∧ decode cX11_underContract 41 = .ok (.aload_n 1, 1) ∧ decode cX11_underContract 42 = .ok (.iconst 0, 1) ∧ decode cX11_underContract 43 = .ok (.iaload, 1) ∧ decode cX11_underContract 44 = .ok (.istore_n 3, 1) ∧ decode cX11_underContract 45 = .ok (.aload_n 0, 1) ∧ decode cX11_underContract 46 = .ok (.getfield 46, 3) ∧ decode cX11_underContract 49 = .ok (.iconst 0, 1) := by decide +kernel
def dX11_underContract_25 := bX11_underContract_25.1
def dX11_underContract_27 := bX11_underContract_25.2.1
def dX11_underContract_30 := bX11_underContract_25.2.2.1
def dX11_underContract_31 := bX11_underContract_25.2.2.2.1
def dX11_underContract_32 := bX11_underContract_25.2.2.2.2.1
def dX11_underContract_35 := bX11_underContract_25.2.2.2.2.2.1
def dX11_underContract_36 := bX11_underContract_25.2.2.2.2.2.2.1
def dX11_underContract_37 := bX11_underContract_25.2.2.2.2.2.2.2.1
def dX11_underContract_38 := bX11_underContract_25.2.2.2.2.2.2.2.2.1
def dX11_underContract_41 := bX11_underContract_25.2.2.2.2.2.2.2.2.2.1
def dX11_underContract_42 := bX11_underContract_25.2.2.2.2.2.2.2.2.2.2.1
def dX11_underContract_43 := bX11_underContract_25.2.2.2.2.2.2.2.2.2.2.2.1
def dX11_underContract_44 := bX11_underContract_25.2.2.2.2.2.2.2.2.2.2.2.2.1
def dX11_underContract_45 := bX11_underContract_25.2.2.2.2.2.2.2.2.2.2.2.2.2.1
def dX11_underContract_46 := bX11_underContract_25.2.2.2.2.2.2.2.2.2.2.2.2.2.2.1
def dX11_underContract_49 := bX11_underContract_25.2.2.2.2.2.2.2.2.2.2.2.2.2.2.2
theorem bX11_underContract_50 : decode cX11_underContract 50 = .ok (.iaload, 1) ∧ decode cX11_underContract 51 = .ok (.iload_n 3, 1) ∧ decode cX11_underContract 52 = .ok (.if_icmp .ge 20, 3) ∧ decode cX11_underContract 55 = .ok (.aload_n 0, 1) ∧ decode cX11_underContract 56 = .ok (.getfield 46, 3) ∧ decode cX11_underContract 59 = .ok (.bipush 8, 2) ∧ decode cX11_underContract 61 = .ok (.dup2, 1) ∧ decode cX11_underContract 62 = .ok (.iaload, 1) ∧ decode cX11_underContract 63 = .ok (.iconst 1, 1) ∧ decode cX11_underContract 64 = .ok (.iadd, 1) ∧ decode cX11_underContract 65 = .ok (.iastore, 1) ∧ decode cX11_underContract 66 = .ok (.aload_n 0, 1) ∧ decode cX11_underContract 67 = .ok (.iconst (-1), 1) ∧ decode cX11_underContract 68 = .ok (.invokevirtual 183, 3) ∧ decode cX11_underContract 71 = .ok (.return_, 1) ∧ decode cX11_underContract 72 = .ok (.aload_n 0, 1) := by decide +kernel
def dX11_underContract_50 := bX11_underContract_50.1
def dX11_underContract_51 := bX11_underContract_50.2.1
def dX11_underContract_52 := bX11_underContract_50.2.2.1
def dX11_underContract_55 := bX11_underContract_50.2.2.2.1
def dX11_underContract_56 := bX11_underContract_50.2.2.2.2.1
def dX11_underContract_59 := bX11_underContract_50.2.2.2.2.2.1
def dX11_underContract_61 := bX11_underContract_50.2.2.2.2.2.2.1
def dX11_underContract_62 := bX11_underContract_50.2.2.2.2.2.2.2.1
def dX11_underContract_63 := bX11_underContract_50.2.2.2.2.2.2.2.2.1
def dX11_underContract_64 := bX11_underContract_50.2.2.2.2.2.2.2.2.2.1
def dX11_underContract_65 := bX11_underContract_50.2.2.2.2.2.2.2.2.2.2.1
def dX11_underContract_66 := bX11_underContract_50.2.2.2.2.2.2.2.2.2.2.2.1
def dX11_underContract_67 := bX11_underContract_50.2.2.2.2.2.2.2.2.2.2.2.2.1
def dX11_underContract_68 := bX11_underContract_50.2.2.2.2.2.2.2.2.2.2.2.2.2.1
def dX11_underContract_71 := bX11_underContract_50.2.2.2.2.2.2.2.2.2.2.2.2.2.2.1
def dX11_underContract_72 := bX11_underContract_50.2.2.2.2.2.2.2.2.2.2.2.2.2.2.2
theorem bX11_underContract_73 : decode cX11_underContract 73 = .ok (.iconst 0, 1) ∧ decode cX11_underContract 74 = .ok (.iconst 1, 1) ∧ decode cX11_underContract 75 = .ok (.iload_n 3, 1) ∧ decode cX11_underContract 76 = .ok (.invokevirtual 199, 3) ∧ decode cX11_underContract 79 = .ok (.aload_n 0, 1) ∧ decode cX11_underContract 80 = .ok (.aload_n 1, 1) ∧ decode cX11_underContract 81 = .ok (.aload_n 0, 1) ∧ decode cX11_underContract 82 = .ok (.getfield 43, 3) ∧ decode cX11_underContract 85 = .ok (.aload_n 0, 1) ∧ decode cX11_underContract 86 = .ok (.getfield 46, 3) ∧ decode cX11_underContract 89 = .ok (.bipush 10, 2) ∧ decode cX11_underContract 91 = .ok (.iaload, 1) ∧ decode cX11_underContract 92 = .ok (.aaload, 1) ∧ decode cX11_underContract 93 = .ok (.invokevirtual 203, 3) ∧ decode cX11_underContract 96 = .ok (.return_, 1) := by decide +kernel
def dX11_underContract_73 := bX11_underContract_73.1
def dX11_underContract_74 := bX11_underContract_73.2.1
def dX11_underContract_75 := bX11_underContract_73.2.2.1
def dX11_underContract_76 := bX11_underContract_73.2.2.2.1
def dX11_underContract_79 := bX11_underContract_73.2.2.2.2.1
def dX11_underContract_80 := bX11_underContract_73.2.2.2.2.2.1
def dX11_underContract_81 := bX11_underContract_73.2.2.2.2.2.2.1
def dX11_underContract_82 := bX11_underContract_73.2.2.2.2.2.2.2.1
def dX11_underContract_85 := bX11_underContract_73.2.2.2.2.2.2.2.2.1
def dX11_underContract_86 := bX11_underContract_73.2.2.2.2.2.2.2.2.2.1
def dX11_underContract_89 := bX11_underContract_73.2.2.2.2.2.2.2.2.2.2.1
def dX11_underContract_91 := bX11_underContract_73.2.2.2.2.2.2.2.2.2.2.2.1
def dX11_underContract_92 := bX11_underContract_73.2.2.2.2.2.2.2.2.2.2.2.2.1
def dX11_underContract_93 := bX11_underContract_73.2.2.2.2.2.2.2.2.2.2.2.2.2.1
def dX11_underContract_96 := bX11_underContract_73.2.2.2.2.2.2.2.2.2.2.2.2.2.2
theorem ggX11_mends_X11_less : GoodIn wsX11_mends wsX11_less := gW_in gwX11_less (fun _ h => List.mem_cons_of_mem _ (List.mem_append_right _ (List.mem_append_right _ (List.mem_append_left _ h))))
set_option maxRecDepth 20000 in
theorem gX11_mends_X11_less : GoodIn wsX11_mends (va_wsS RX11 186 yX11_less wsX11_less) := goodIn_app (goodIn_of _ (by decide +kernel)) ggX11_mends_X11_less
theorem ggX11_mends_X11_pays : GoodIn wsX11_mends wsX11_pays := gW_in gwX11_pays (fun _ h => List.mem_cons_of_mem _ (List.mem_append_right _ (List.mem_append_right _ (List.mem_append_right _ (h)))))
set_option maxRecDepth 20000 in
theorem gX11_mends_X11_pays : GoodIn wsX11_mends (wsV RX11 199 RX11 yX11_pays wsX11_pays) := goodIn_app (goodIn_of _ (by decide +kernel)) ggX11_mends_X11_pays
theorem bX11_mends_0 : decode cX11_mends 0 = .ok (.aload_n 0, 1) ∧ decode cX11_mends 1 = .ok (.getfield 23, 3) ∧ decode cX11_mends 4 = .ok (.bipush 12, 2) ∧ decode cX11_mends 6 = .ok (.iaload, 1) ∧ decode cX11_mends 7 = .ok (.istore_n 1, 1) ∧ decode cX11_mends 8 = .ok (.iconst 0, 1) ∧ decode cX11_mends 9 = .ok (.istore_n 2, 1) ∧ decode cX11_mends 10 = .ok (.iload_n 2, 1) ∧ decode cX11_mends 11 = .ok (.aload_n 0, 1) ∧ decode cX11_mends 12 = .ok (.getfield 23, 3) ∧ decode cX11_mends 15 = .ok (.iconst 0, 1) ∧ decode cX11_mends 16 = .ok (.iaload, 1) ∧ decode cX11_mends 17 = .ok (.if_icmp .ge 82, 3) ∧ decode cX11_mends 20 = .ok (.aload_n 0, 1) ∧ decode cX11_mends 21 = .ok (.getfield 31, 3) ∧ decode cX11_mends 24 = .ok (.iload_n 2, 1) := by decide +kernel
def dX11_mends_0 := bX11_mends_0.1
def dX11_mends_1 := bX11_mends_0.2.1
def dX11_mends_4 := bX11_mends_0.2.2.1
def dX11_mends_6 := bX11_mends_0.2.2.2.1
def dX11_mends_7 := bX11_mends_0.2.2.2.2.1
def dX11_mends_8 := bX11_mends_0.2.2.2.2.2.1
def dX11_mends_9 := bX11_mends_0.2.2.2.2.2.2.1
def dX11_mends_10 := bX11_mends_0.2.2.2.2.2.2.2.1
def dX11_mends_11 := bX11_mends_0.2.2.2.2.2.2.2.2.1
def dX11_mends_12 := bX11_mends_0.2.2.2.2.2.2.2.2.2.1
def dX11_mends_15 := bX11_mends_0.2.2.2.2.2.2.2.2.2.2.1
def dX11_mends_16 := bX11_mends_0.2.2.2.2.2.2.2.2.2.2.2.1
def dX11_mends_17 := bX11_mends_0.2.2.2.2.2.2.2.2.2.2.2.2.1
def dX11_mends_20 := bX11_mends_0.2.2.2.2.2.2.2.2.2.2.2.2.2.1
def dX11_mends_21 := bX11_mends_0.2.2.2.2.2.2.2.2.2.2.2.2.2.2.1
def dX11_mends_24 := bX11_mends_0.2.2.2.2.2.2.2.2.2.2.2.2.2.2.2
theorem bX11_mends_25 : decode cX11_mends 25 = .ok (.aaload, 1) ∧ decode cX11_mends 26 = .ok (.iconst 1, 1) ∧ decode cX11_mends 27 = .ok (.iaload, 1) ∧ decode cX11_mends 28 = .ok (.aload_n 0, 1) ∧ decode cX11_mends 29 = .ok (.getfield 31, 3) ∧ decode cX11_mends 32 = .ok (.iload_n 2, 1) ∧ decode cX11_mends 33 = .ok (.aaload, 1) ∧ decode cX11_mends 34 = .ok (.iconst 0, 1) ∧ decode cX11_mends 35 = .ok (.iaload, 1) ∧ decode cX11_mends 36 = .ok (.aload_n 0, 1) ∧ decode cX11_mends 37 = .ok (.getfield 46, 3) ∧ decode cX11_mends 40 = .ok (.bipush 12, 2) ∧ decode cX11_mends 42 = .ok (.iload_n 2, 1) ∧ decode cX11_mends 43 = .ok (.iadd, 1) ∧ decode cX11_mends 44 = .ok (.iaload, 1) ∧ decode cX11_mends 45 = .ok (.isub, 1) := by decide +kernel
def dX11_mends_25 := bX11_mends_25.1
def dX11_mends_26 := bX11_mends_25.2.1
def dX11_mends_27 := bX11_mends_25.2.2.1
def dX11_mends_28 := bX11_mends_25.2.2.2.1
def dX11_mends_29 := bX11_mends_25.2.2.2.2.1
def dX11_mends_32 := bX11_mends_25.2.2.2.2.2.1
def dX11_mends_33 := bX11_mends_25.2.2.2.2.2.2.1
end
