theorem dX11_stands0_307 : decode cX11_stands0 307 = .ok (.goto (-31), 3) := by decide +kernel
theorem dX11_stands0_310 : decode cX11_stands0 310 = .ok (.aload_n 0, 1) := by decide +kernel
theorem dX11_stands0_311 : decode cX11_stands0 311 = .ok (.iconst 0, 1) := by decide +kernel
theorem dX11_stands0_312 : decode cX11_stands0 312 = .ok (.putfield 162, 3) := by decide +kernel
theorem dX11_stands0_315 : decode cX11_stands0 315 = .ok (.aload_n 0, 1) := by decide +kernel
theorem dX11_stands0_316 : decode cX11_stands0 316 = .ok (.iconst 1, 1) := by decide +kernel
theorem dX11_stands0_317 : decode cX11_stands0 317 = .ok (.putfield 58, 3) := by decide +kernel
theorem dX11_stands0_320 : decode cX11_stands0 320 = .ok (.aload_n 0, 1) := by decide +kernel
theorem dX11_stands0_321 : decode cX11_stands0 321 = .ok (.iconst 1, 1) := by decide +kernel
theorem dX11_stands0_322 : decode cX11_stands0 322 = .ok (.putfield 61, 3) := by decide +kernel
theorem dX11_stands0_325 : decode cX11_stands0 325 = .ok (.aload_n 0, 1) := by decide +kernel
theorem dX11_stands0_326 : decode cX11_stands0 326 = .ok (.iconst 0, 1) := by decide +kernel
theorem dX11_stands0_327 : decode cX11_stands0 327 = .ok (.putfield 165, 3) := by decide +kernel
theorem dX11_stands0_330 : decode cX11_stands0 330 = .ok (.aload_n 0, 1) := by decide +kernel
theorem dX11_stands0_331 : decode cX11_stands0 331 = .ok (.iconst 0, 1) := by decide +kernel
theorem dX11_stands0_332 : decode cX11_stands0 332 = .ok (.putfield 168, 3) := by decide +kernel
theorem dX11_stands0_335 : decode cX11_stands0 335 = .ok (.return_, 1) := by decide +kernel
theorem ggX11_rules_X11_isWord : GoodIn wsX11_rules wsX11_isWord := gW_in gwX11_isWord (fun _ h => List.mem_cons_of_mem _ (List.mem_append_right _ (List.mem_append_right _ (List.mem_append_left _ h))))
set_option maxRecDepth 20000 in
theorem gX11_rules_X11_isWord : GoodIn wsX11_rules (wsV RX11 134 RX11 yX11_isWord wsX11_isWord) := goodIn_app (goodIn_of _ (by decide +kernel)) ggX11_rules_X11_isWord
theorem ggX11_rules_X11_wrong : GoodIn wsX11_rules wsX11_wrong := gW_in gwX11_wrong (fun _ h => List.mem_cons_of_mem _ (List.mem_append_right _ (List.mem_append_right _ (List.mem_append_right _ (List.mem_append_left _ h)))))
set_option maxRecDepth 20000 in
theorem gX11_rules_X11_wrong : GoodIn wsX11_rules (wsV RX11 114 RX11 yX11_wrong wsX11_wrong) := goodIn_app (goodIn_of _ (by decide +kernel)) ggX11_rules_X11_wrong
theorem ggX11_rules_X11_skipWord : GoodIn wsX11_rules wsX11_skipWord := gW_in gwX11_skipWord (fun _ h => List.mem_cons_of_mem _ (List.mem_append_right _ (List.mem_append_right _ (List.mem_append_right _ (List.mem_append_right _ (List.mem_append_left _ h))))))
set_option maxRecDepth 20000 in
theorem gX11_rules_X11_skipWord : GoodIn wsX11_rules (wsV RX11 141 RX11 yX11_skipWord wsX11_skipWord) := goodIn_app (goodIn_of _ (by decide +kernel)) ggX11_rules_X11_skipWord
theorem ggX11_rules_X11_number : GoodIn wsX11_rules wsX11_number := gW_in gwX11_number (fun _ h => List.mem_cons_of_mem _ (List.mem_append_right _ (List.mem_append_right _ (List.mem_append_right _ (List.mem_append_right _ (List.mem_append_right _ (List.mem_append_left _ h)))))))
set_option maxRecDepth 20000 in
theorem gX11_rules_X11_number : GoodIn wsX11_rules (wsV RX11 144 RX11 yX11_number wsX11_number) := goodIn_app (goodIn_of _ (by decide +kernel)) ggX11_rules_X11_number
theorem ggX11_rules_X11_closes : GoodIn wsX11_rules wsX11_closes := gW_in gwX11_closes (fun _ h => List.mem_cons_of_mem _ (List.mem_append_right _ (List.mem_append_right _ (List.mem_append_right _ (List.mem_append_right _ (List.mem_append_right _ (List.mem_append_right _ (h))))))))
set_option maxRecDepth 20000 in
theorem gX11_rules_X11_closes : GoodIn wsX11_rules (wsV RX11 148 RX11 yX11_closes wsX11_closes) := goodIn_app (goodIn_of _ (by decide +kernel)) ggX11_rules_X11_closes
theorem dX11_rules_0 : decode cX11_rules 0 = .ok (.aload_n 0, 1) := by decide +kernel
theorem dX11_rules_1 : decode cX11_rules 1 = .ok (.bipush 16, 2) := by decide +kernel
theorem dX11_rules_3 : decode cX11_rules 3 = .ok (.iconst 1, 1) := by decide +kernel
theorem dX11_rules_4 : decode cX11_rules 4 = .ok (.bipush 25, 2) := by decide +kernel
theorem dX11_rules_6 : decode cX11_rules 6 = .ok (.iconst 0, 1) := by decide +kernel
theorem dX11_rules_7 : decode cX11_rules 7 = .ok (.iconst 0, 1) := by decide +kernel
theorem dX11_rules_8 : decode cX11_rules 8 = .ok (.iconst 0, 1) := by decide +kernel
theorem dX11_rules_9 : decode cX11_rules 9 = .ok (.invokevirtual 134, 3) := by decide +kernel
theorem dX11_rules_12 : decode cX11_rules 12 = .ok (.ifCond .eq 7, 3) := by decide +kernel
theorem dX11_rules_15 : decode cX11_rules 15 = .ok (.iconst 0, 1) := by decide +kernel
theorem dX11_rules_16 : decode cX11_rules 16 = .ok (.goto 128, 3) := by decide +kernel
theorem dX11_rules_19 : decode cX11_rules 19 = .ok (.aload_n 0, 1) := by decide +kernel
theorem dX11_rules_20 : decode cX11_rules 20 = .ok (.bipush 23, 2) := by decide +kernel
theorem dX11_rules_22 : decode cX11_rules 22 = .ok (.bipush 9, 2) := by decide +kernel
theorem dX11_rules_24 : decode cX11_rules 24 = .ok (.bipush 14, 2) := by decide +kernel
theorem dX11_rules_26 : decode cX11_rules 26 = .ok (.bipush 20, 2) := by decide +kernel
theorem dX11_rules_28 : decode cX11_rules 28 = .ok (.iconst 5, 1) := by decide +kernel
theorem dX11_rules_29 : decode cX11_rules 29 = .ok (.bipush 18, 2) := by decide +kernel
theorem dX11_rules_31 : decode cX11_rules 31 = .ok (.invokevirtual 134, 3) := by decide +kernel
theorem dX11_rules_34 : decode cX11_rules 34 = .ok (.ifCond .eq 7, 3) := by decide +kernel
theorem dX11_rules_37 : decode cX11_rules 37 = .ok (.iconst 1, 1) := by decide +kernel
theorem dX11_rules_38 : decode cX11_rules 38 = .ok (.goto 106, 3) := by decide +kernel
theorem dX11_rules_41 : decode cX11_rules 41 = .ok (.aload_n 0, 1) := by decide +kernel
theorem dX11_rules_42 : decode cX11_rules 42 = .ok (.bipush 14, 2) := by decide +kernel
theorem dX11_rules_44 : decode cX11_rules 44 = .ok (.iconst 5, 1) := by decide +kernel
theorem dX11_rules_45 : decode cX11_rules 45 = .ok (.iconst 1, 1) := by decide +kernel
theorem dX11_rules_46 : decode cX11_rules 46 = .ok (.bipush 18, 2) := by decide +kernel
theorem dX11_rules_48 : decode cX11_rules 48 = .ok (.iconst 0, 1) := by decide +kernel
theorem dX11_rules_49 : decode cX11_rules 49 = .ok (.iconst 0, 1) := by decide +kernel
theorem dX11_rules_50 : decode cX11_rules 50 = .ok (.invokevirtual 134, 3) := by decide +kernel
theorem dX11_rules_53 : decode cX11_rules 53 = .ok (.ifCond .eq 7, 3) := by decide +kernel
theorem dX11_rules_56 : decode cX11_rules 56 = .ok (.iconst 2, 1) := by decide +kernel
theorem dX11_rules_57 : decode cX11_rules 57 = .ok (.goto 87, 3) := by decide +kernel
theorem dX11_rules_60 : decode cX11_rules 60 = .ok (.aload_n 0, 1) := by decide +kernel
theorem dX11_rules_61 : decode cX11_rules 61 = .ok (.iconst 3, 1) := by decide +kernel
theorem dX11_rules_62 : decode cX11_rules 62 = .ok (.bipush 15, 2) := by decide +kernel
theorem dX11_rules_64 : decode cX11_rules 64 = .ok (.bipush 18, 2) := by decide +kernel
theorem dX11_rules_66 : decode cX11_rules 66 = .ok (.bipush 11, 2) := by decide +kernel
theorem dX11_rules_68 : decode cX11_rules 68 = .ok (.bipush 19, 2) := by decide +kernel
theorem dX11_rules_70 : decode cX11_rules 70 = .ok (.iconst 0, 1) := by decide +kernel
theorem dX11_rules_71 : decode cX11_rules 71 = .ok (.invokevirtual 134, 3) := by decide +kernel
theorem dX11_rules_74 : decode cX11_rules 74 = .ok (.ifCond .eq 7, 3) := by decide +kernel
theorem dX11_rules_77 : decode cX11_rules 77 = .ok (.iconst 3, 1) := by decide +kernel
theorem dX11_rules_78 : decode cX11_rules 78 = .ok (.goto 66, 3) := by decide +kernel
theorem dX11_rules_81 : decode cX11_rules 81 = .ok (.aload_n 0, 1) := by decide +kernel
theorem dX11_rules_82 : decode cX11_rules 82 = .ok (.iconst 2, 1) := by decide +kernel
theorem dX11_rules_83 : decode cX11_rules 83 = .ok (.bipush 15, 2) := by decide +kernel
theorem dX11_rules_85 : decode cX11_rules 85 = .ok (.bipush 14, 2) := by decide +kernel
theorem dX11_rules_87 : decode cX11_rules 87 = .ok (.bipush 21, 2) := by decide +kernel
theorem dX11_rules_89 : decode cX11_rules 89 = .ok (.bipush 19, 2) := by decide +kernel
theorem dX11_rules_91 : decode cX11_rules 91 = .ok (.iconst 0, 1) := by decide +kernel
theorem dX11_rules_92 : decode cX11_rules 92 = .ok (.invokevirtual 134, 3) := by decide +kernel
theorem dX11_rules_95 : decode cX11_rules 95 = .ok (.ifCond .eq 7, 3) := by decide +kernel
theorem dX11_rules_98 : decode cX11_rules 98 = .ok (.iconst 4, 1) := by decide +kernel
theorem dX11_rules_99 : decode cX11_rules 99 = .ok (.goto 45, 3) := by decide +kernel
theorem dX11_rules_102 : decode cX11_rules 102 = .ok (.aload_n 0, 1) := by decide +kernel
theorem dX11_rules_103 : decode cX11_rules 103 = .ok (.bipush 20, 2) := by decide +kernel
theorem dX11_rules_105 : decode cX11_rules 105 = .ok (.bipush 9, 2) := by decide +kernel
theorem dX11_rules_107 : decode cX11_rules 107 = .ok (.bipush 12, 2) := by decide +kernel
theorem dX11_rules_109 : decode cX11_rules 109 = .ok (.bipush 12, 2) := by decide +kernel
theorem dX11_rules_111 : decode cX11_rules 111 = .ok (.iconst 0, 1) := by decide +kernel
theorem dX11_rules_112 : decode cX11_rules 112 = .ok (.iconst 0, 1) := by decide +kernel
theorem dX11_rules_113 : decode cX11_rules 113 = .ok (.invokevirtual 134, 3) := by decide +kernel
theorem dX11_rules_116 : decode cX11_rules 116 = .ok (.ifCond .eq 7, 3) := by decide +kernel
theorem dX11_rules_119 : decode cX11_rules 119 = .ok (.iconst 5, 1) := by decide +kernel
theorem dX11_rules_120 : decode cX11_rules 120 = .ok (.goto 24, 3) := by decide +kernel
theorem dX11_rules_123 : decode cX11_rules 123 = .ok (.aload_n 0, 1) := by decide +kernel
theorem dX11_rules_124 : decode cX11_rules 124 = .ok (.iconst 2, 1) := by decide +kernel
theorem dX11_rules_125 : decode cX11_rules 125 = .ok (.bipush 18, 2) := by decide +kernel
theorem dX11_rules_127 : decode cX11_rules 127 = .ok (.iconst 5, 1) := by decide +kernel
theorem dX11_rules_128 : decode cX11_rules 128 = .ok (.iconst 1, 1) := by decide +kernel
theorem dX11_rules_129 : decode cX11_rules 129 = .ok (.iconst 3, 1) := by decide +kernel
theorem dX11_rules_130 : decode cX11_rules 130 = .ok (.bipush 8, 2) := by decide +kernel
theorem dX11_rules_132 : decode cX11_rules 132 = .ok (.invokevirtual 134, 3) := by decide +kernel
theorem dX11_rules_135 : decode cX11_rules 135 = .ok (.ifCond .eq 8, 3) := by decide +kernel
theorem dX11_rules_138 : decode cX11_rules 138 = .ok (.bipush 6, 2) := by decide +kernel
theorem dX11_rules_140 : decode cX11_rules 140 = .ok (.goto 4, 3) := by decide +kernel
theorem dX11_rules_143 : decode cX11_rules 143 = .ok (.iconst (-1), 1) := by decide +kernel
theorem dX11_rules_144 : decode cX11_rules 144 = .ok (.istore_n 1, 1) := by decide +kernel
theorem dX11_rules_145 : decode cX11_rules 145 = .ok (.iload_n 1, 1) := by decide +kernel
theorem dX11_rules_146 : decode cX11_rules 146 = .ok (.iconst (-1), 1) := by decide +kernel
theorem dX11_rules_147 : decode cX11_rules 147 = .ok (.if_icmp .ne 15, 3) := by decide +kernel
theorem dX11_rules_150 : decode cX11_rules 150 = .ok (.aload_n 0, 1) := by decide +kernel
theorem dX11_rules_151 : decode cX11_rules 151 = .ok (.iconst 1, 1) := by decide +kernel
theorem dX11_rules_152 : decode cX11_rules 152 = .ok (.aload_n 0, 1) := by decide +kernel
theorem dX11_rules_153 : decode cX11_rules 153 = .ok (.getfield 94, 3) := by decide +kernel
theorem dX11_rules_156 : decode cX11_rules 156 = .ok (.invokevirtual 114, 3) := by decide +kernel
theorem dX11_rules_159 : decode cX11_rules 159 = .ok (.goto 21, 3) := by decide +kernel
theorem dX11_rules_162 : decode cX11_rules 162 = .ok (.aload_n 0, 1) := by decide +kernel
theorem dX11_rules_163 : decode cX11_rules 163 = .ok (.getfield 131, 3) := by decide +kernel
theorem dX11_rules_166 : decode cX11_rules 166 = .ok (.bipush 20, 2) := by decide +kernel
theorem dX11_rules_168 : decode cX11_rules 168 = .ok (.if_icmp .ne 12, 3) := by decide +kernel
theorem dX11_rules_171 : decode cX11_rules 171 = .ok (.aload_n 0, 1) := by decide +kernel
theorem dX11_rules_172 : decode cX11_rules 172 = .ok (.iconst 3, 1) := by decide +kernel
theorem dX11_rules_173 : decode cX11_rules 173 = .ok (.aload_n 0, 1) := by decide +kernel
theorem dX11_rules_174 : decode cX11_rules 174 = .ok (.getfield 94, 3) := by decide +kernel
theorem dX11_rules_177 : decode cX11_rules 177 = .ok (.invokevirtual 114, 3) := by decide +kernel
theorem dX11_rules_180 : decode cX11_rules 180 = .ok (.aload_n 0, 1) := by decide +kernel
theorem dX11_rules_181 : decode cX11_rules 181 = .ok (.getfield 101, 3) := by decide +kernel
theorem dX11_rules_184 : decode cX11_rules 184 = .ok (.ifCond .eq 4, 3) := by decide +kernel
theorem dX11_rules_187 : decode cX11_rules 187 = .ok (.return_, 1) := by decide +kernel
theorem dX11_rules_188 : decode cX11_rules 188 = .ok (.aload_n 0, 1) := by decide +kernel
theorem dX11_rules_189 : decode cX11_rules 189 = .ok (.invokevirtual 141, 3) := by decide +kernel
theorem dX11_rules_192 : decode cX11_rules 192 = .ok (.aload_n 0, 1) := by decide +kernel
theorem dX11_rules_193 : decode cX11_rules 193 = .ok (.dup, 1) := by decide +kernel
theorem dX11_rules_194 : decode cX11_rules 194 = .ok (.getfield 131, 3) := by decide +kernel
theorem dX11_rules_197 : decode cX11_rules 197 = .ok (.iconst 1, 1) := by decide +kernel
theorem dX11_rules_198 : decode cX11_rules 198 = .ok (.iadd, 1) := by decide +kernel
theorem dX11_rules_199 : decode cX11_rules 199 = .ok (.putfield 131, 3) := by decide +kernel
theorem dX11_rules_202 : decode cX11_rules 202 = .ok (.iload_n 1, 1) := by decide +kernel
theorem dX11_rules_203 : decode cX11_rules 203 = .ok (.bipush 6, 2) := by decide +kernel
theorem dX11_rules_205 : decode cX11_rules 205 = .ok (.if_icmp .ne 42, 3) := by decide +kernel
theorem dX11_rules_208 : decode cX11_rules 208 = .ok (.aload_n 0, 1) := by decide +kernel
theorem dX11_rules_209 : decode cX11_rules 209 = .ok (.iconst 0, 1) := by decide +kernel
theorem dX11_rules_210 : decode cX11_rules 210 = .ok (.aload_n 0, 1) := by decide +kernel
theorem dX11_rules_211 : decode cX11_rules 211 = .ok (.getfield 23, 3) := by decide +kernel
theorem dX11_rules_214 : decode cX11_rules 214 = .ok (.iconst 0, 1) := by decide +kernel
theorem dX11_rules_215 : decode cX11_rules 215 = .ok (.iaload, 1) := by decide +kernel
theorem dX11_rules_216 : decode cX11_rules 216 = .ok (.iconst 1, 1) := by decide +kernel
theorem dX11_rules_217 : decode cX11_rules 217 = .ok (.isub, 1) := by decide +kernel
theorem dX11_rules_218 : decode cX11_rules 218 = .ok (.invokevirtual 144, 3) := by decide +kernel
theorem dX11_rules_221 : decode cX11_rules 221 = .ok (.istore_n 2, 1) := by decide +kernel
theorem dX11_rules_222 : decode cX11_rules 222 = .ok (.aload_n 0, 1) := by decide +kernel
theorem dX11_rules_223 : decode cX11_rules 223 = .ok (.iconst 0, 1) := by decide +kernel
theorem dX11_rules_224 : decode cX11_rules 224 = .ok (.bipush 35, 2) := by decide +kernel
theorem dX11_rules_226 : decode cX11_rules 226 = .ok (.invokevirtual 144, 3) := by decide +kernel
theorem dX11_rules_229 : decode cX11_rules 229 = .ok (.istore_n 3, 1) := by decide +kernel
theorem dX11_rules_230 : decode cX11_rules 230 = .ok (.aload_n 0, 1) := by decide +kernel
theorem dX11_rules_231 : decode cX11_rules 231 = .ok (.getfield 101, 3) := by decide +kernel
theorem dX11_rules_234 : decode cX11_rules 234 = .ok (.ifCond .ne 10, 3) := by decide +kernel
theorem dX11_rules_237 : decode cX11_rules 237 = .ok (.aload_n 0, 1) := by decide +kernel
theorem dX11_rules_238 : decode cX11_rules 238 = .ok (.getfield 37, 3) := by decide +kernel
theorem dX11_rules_241 : decode cX11_rules 241 = .ok (.iload_n 3, 1) := by decide +kernel
theorem dX11_rules_242 : decode cX11_rules 242 = .ok (.iload_n 2, 1) := by decide +kernel
theorem dX11_rules_243 : decode cX11_rules 243 = .ok (.iastore, 1) := by decide +kernel
theorem dX11_rules_244 : decode cX11_rules 244 = .ok (.goto 56, 3) := by decide +kernel
theorem dX11_rules_247 : decode cX11_rules 247 = .ok (.aload_n 0, 1) := by decide +kernel
theorem dX11_rules_248 : decode cX11_rules 248 = .ok (.getfield 34, 3) := by decide +kernel
theorem dX11_rules_251 : decode cX11_rules 251 = .ok (.iload_n 1, 1) := by decide +kernel
theorem dX11_rules_252 : decode cX11_rules 252 = .ok (.aload_n 0, 1) := by decide +kernel
theorem dX11_rules_253 : decode cX11_rules 253 = .ok (.iload_n 1, 1) := by decide +kernel
theorem dX11_rules_254 : decode cX11_rules 254 = .ok (.iconst 5, 1) := by decide +kernel
theorem dX11_rules_255 : decode cX11_rules 255 = .ok (.if_icmp .ne 7, 3) := by decide +kernel
theorem dX11_rules_258 : decode cX11_rules 258 = .ok (.iconst 1, 1) := by decide +kernel
theorem dX11_rules_259 : decode cX11_rules 259 = .ok (.goto 4, 3) := by decide +kernel
theorem dX11_rules_262 : decode cX11_rules 262 = .ok (.iconst 0, 1) := by decide +kernel
theorem dX11_rules_263 : decode cX11_rules 263 = .ok (.iload_n 1, 1) := by decide +kernel
theorem dX11_rules_264 : decode cX11_rules 264 = .ok (.iconst 2, 1) := by decide +kernel
theorem dX11_rules_265 : decode cX11_rules 265 = .ok (.if_icmp .ge 9, 3) := by decide +kernel
theorem dX11_rules_268 : decode cX11_rules 268 = .ok (.sipush 999, 3) := by decide +kernel
theorem dX11_rules_271 : decode cX11_rules 271 = .ok (.goto 25, 3) := by decide +kernel
theorem dX11_rules_274 : decode cX11_rules 274 = .ok (.iload_n 1, 1) := by decide +kernel
theorem dX11_rules_275 : decode cX11_rules 275 = .ok (.iconst 2, 1) := by decide +kernel
theorem dX11_rules_276 : decode cX11_rules 276 = .ok (.if_icmp .ne 8, 3) := by decide +kernel
theorem dX11_rules_279 : decode cX11_rules 279 = .ok (.bipush 9, 2) := by decide +kernel
theorem dX11_rules_281 : decode cX11_rules 281 = .ok (.goto 15, 3) := by decide +kernel
theorem dX11_rules_284 : decode cX11_rules 284 = .ok (.iload_n 1, 1) := by decide +kernel
theorem dX11_rules_285 : decode cX11_rules 285 = .ok (.iconst 5, 1) := by decide +kernel
theorem dX11_rules_286 : decode cX11_rules 286 = .ok (.if_icmp .ne 8, 3) := by decide +kernel
theorem dX11_rules_289 : decode cX11_rules 289 = .ok (.bipush 36, 2) := by decide +kernel
theorem dX11_rules_291 : decode cX11_rules 291 = .ok (.goto 5, 3) := by decide +kernel
theorem dX11_rules_294 : decode cX11_rules 294 = .ok (.bipush 99, 2) := by decide +kernel
theorem dX11_rules_296 : decode cX11_rules 296 = .ok (.invokevirtual 144, 3) := by decide +kernel
theorem dX11_rules_299 : decode cX11_rules 299 = .ok (.iastore, 1) := by decide +kernel
theorem dX11_rules_300 : decode cX11_rules 300 = .ok (.aload_n 0, 1) := by decide +kernel
theorem dX11_rules_301 : decode cX11_rules 301 = .ok (.invokevirtual 148, 3) := by decide +kernel
theorem dX11_rules_304 : decode cX11_rules 304 = .ok (.return_, 1) := by decide +kernel
theorem ggX11_contract_X11_in : GoodIn wsX11_contract wsX11_in := gW_in gwX11_in (fun _ h => List.mem_cons_of_mem _ (List.mem_append_right _ (List.mem_append_right _ (List.mem_append_left _ h))))
set_option maxRecDepth 20000 in
theorem gX11_contract_X11_in : GoodIn wsX11_contract (va_wsS RX11 119 yX11_in wsX11_in) := goodIn_app (goodIn_of _ (by decide +kernel)) ggX11_contract_X11_in
theorem ggX11_contract_X11_bad : GoodIn wsX11_contract wsX11_bad := gW_in gwX11_bad (fun _ h => List.mem_cons_of_mem _ (List.mem_append_right _ (List.mem_append_right _ (List.mem_append_right _ (List.mem_append_left _ h)))))
set_option maxRecDepth 20000 in
theorem gX11_contract_X11_bad : GoodIn wsX11_contract (wsV RX11 151 RX11 yX11_bad wsX11_bad) := goodIn_app (goodIn_of _ (by decide +kernel)) ggX11_contract_X11_bad
theorem ggX11_contract_X11_starts : GoodIn wsX11_contract wsX11_starts := gW_in gwX11_starts (fun _ h => List.mem_cons_of_mem _ (List.mem_append_right _ (List.mem_append_right _ (List.mem_append_right _ (List.mem_append_right _ (List.mem_append_left _ h))))))
set_option maxRecDepth 20000 in
theorem gX11_contract_X11_starts : GoodIn wsX11_contract (wsV RX11 155 RX11 yX11_starts wsX11_starts) := goodIn_app (goodIn_of _ (by decide +kernel)) ggX11_contract_X11_starts
theorem ggX11_contract_X11_rules : GoodIn wsX11_contract wsX11_rules := gW_in gwX11_rules (fun _ h => List.mem_cons_of_mem _ (List.mem_append_right _ (List.mem_append_right _ (List.mem_append_right _ (List.mem_append_right _ (List.mem_append_right _ (List.mem_append_left _ h)))))))
set_option maxRecDepth 20000 in
theorem gX11_contract_X11_rules : GoodIn wsX11_contract (wsV RX11 171 RX11 yX11_rules wsX11_rules) := goodIn_app (goodIn_of _ (by decide +kernel)) ggX11_contract_X11_rules
theorem ggX11_contract_X11_blanks : GoodIn wsX11_contract wsX11_blanks := gW_in gwX11_blanks (fun _ h => List.mem_cons_of_mem _ (List.mem_append_right _ (List.mem_append_right _ (List.mem_append_right _ (List.mem_append_right _ (List.mem_append_right _ (List.mem_append_right _ (h))))))))
set_option maxRecDepth 20000 in
theorem gX11_contract_X11_blanks : GoodIn wsX11_contract (wsV RX11 107 RX11 yX11_blanks wsX11_blanks) := goodIn_app (goodIn_of _ (by decide +kernel)) ggX11_contract_X11_blanks
theorem dX11_contract_0 : decode cX11_contract 0 = .ok (.aload_n 0, 1) := by decide +kernel
theorem dX11_contract_1 : decode cX11_contract 1 = .ok (.iconst 0, 1) := by decide +kernel
theorem dX11_contract_2 : decode cX11_contract 2 = .ok (.putfield 85, 3) := by decide +kernel
theorem dX11_contract_5 : decode cX11_contract 5 = .ok (.aload_n 0, 1) := by decide +kernel
theorem dX11_contract_6 : decode cX11_contract 6 = .ok (.iload_n 1, 1) := by decide +kernel
theorem dX11_contract_7 : decode cX11_contract 7 = .ok (.iconst 0, 1) := by decide +kernel
theorem dX11_contract_8 : decode cX11_contract 8 = .ok (.aload_n 0, 1) := by decide +kernel
theorem dX11_contract_9 : decode cX11_contract 9 = .ok (.getfield 88, 3) := by decide +kernel
theorem dX11_contract_12 : decode cX11_contract 12 = .ok (.invokestatic 119, 3) := by decide +kernel
theorem dX11_contract_15 : decode cX11_contract 15 = .ok (.ifCond .eq 10, 3) := by decide +kernel
theorem dX11_contract_18 : decode cX11_contract 18 = .ok (.iload_n 1, 1) := by decide +kernel
theorem dX11_contract_19 : decode cX11_contract 19 = .ok (.sipush 200, 3) := by decide +kernel
theorem dX11_contract_22 : decode cX11_contract 22 = .ok (.if_icmp .le 7, 3) := by decide +kernel
theorem dX11_contract_25 : decode cX11_contract 25 = .ok (.iconst 1, 1) := by decide +kernel
theorem dX11_contract_26 : decode cX11_contract 26 = .ok (.goto 4, 3) := by decide +kernel
theorem dX11_contract_29 : decode cX11_contract 29 = .ok (.iconst 0, 1) := by decide +kernel
theorem dX11_contract_30 : decode cX11_contract 30 = .ok (.iconst 1, 1) := by decide +kernel
theorem dX11_contract_31 : decode cX11_contract 31 = .ok (.iconst 2, 1) := by decide +kernel
theorem dX11_contract_32 : decode cX11_contract 32 = .ok (.invokevirtual 151, 3) := by decide +kernel
theorem dX11_contract_35 : decode cX11_contract 35 = .ok (.ifCond .eq 5, 3) := by decide +kernel
theorem dX11_contract_38 : decode cX11_contract 38 = .ok (.iconst 0, 1) := by decide +kernel
theorem dX11_contract_39 : decode cX11_contract 39 = .ok (.ireturn, 1) := by decide +kernel
theorem dX11_contract_40 : decode cX11_contract 40 = .ok (.aload_n 0, 1) := by decide +kernel
theorem dX11_contract_41 : decode cX11_contract 41 = .ok (.iload_n 1, 1) := by decide +kernel
theorem dX11_contract_42 : decode cX11_contract 42 = .ok (.invokevirtual 155, 3) := by decide +kernel
theorem dX11_contract_45 : decode cX11_contract 45 = .ok (.aload_n 0, 1) := by decide +kernel
theorem dX11_contract_46 : decode cX11_contract 46 = .ok (.iconst (-1), 1) := by decide +kernel
theorem dX11_contract_47 : decode cX11_contract 47 = .ok (.putfield 9, 3) := by decide +kernel
theorem dX11_contract_50 : decode cX11_contract 50 = .ok (.aload_n 0, 1) := by decide +kernel
theorem dX11_contract_51 : decode cX11_contract 51 = .ok (.getfield 162, 3) := by decide +kernel
theorem dX11_contract_54 : decode cX11_contract 54 = .ok (.bipush 6, 2) := by decide +kernel
theorem dX11_contract_56 : decode cX11_contract 56 = .ok (.if_icmp .ne 5, 3) := by decide +kernel
theorem dX11_contract_59 : decode cX11_contract 59 = .ok (.iconst (-1), 1) := by decide +kernel
theorem dX11_contract_60 : decode cX11_contract 60 = .ok (.ireturn, 1) := by decide +kernel
theorem dX11_contract_61 : decode cX11_contract 61 = .ok (.iconst 0, 1) := by decide +kernel
theorem dX11_contract_62 : decode cX11_contract 62 = .ok (.istore_n 2, 1) := by decide +kernel
theorem dX11_contract_63 : decode cX11_contract 63 = .ok (.iload_n 2, 1) := by decide +kernel
theorem dX11_contract_64 : decode cX11_contract 64 = .ok (.bipush 7, 2) := by decide +kernel
theorem dX11_contract_66 : decode cX11_contract 66 = .ok (.if_icmp .ge 45, 3) := by decide +kernel
theorem dX11_contract_69 : decode cX11_contract 69 = .ok (.aload_n 0, 1) := by decide +kernel
theorem dX11_contract_70 : decode cX11_contract 70 = .ok (.getfield 34, 3) := by decide +kernel
theorem dX11_contract_73 : decode cX11_contract 73 = .ok (.iload_n 2, 1) := by decide +kernel
theorem dX11_contract_74 : decode cX11_contract 74 = .ok (.iload_n 2, 1) := by decide +kernel
theorem dX11_contract_75 : decode cX11_contract 75 = .ok (.iconst 1, 1) := by decide +kernel
theorem dX11_contract_76 : decode cX11_contract 76 = .ok (.if_icmp .ne 7, 3) := by decide +kernel
theorem dX11_contract_79 : decode cX11_contract 79 = .ok (.iconst (-1), 1) := by decide +kernel
theorem dX11_contract_80 : decode cX11_contract 80 = .ok (.goto 24, 3) := by decide +kernel
theorem dX11_contract_83 : decode cX11_contract 83 = .ok (.iload_n 2, 1) := by decide +kernel
theorem dX11_contract_84 : decode cX11_contract 84 = .ok (.iconst 2, 1) := by decide +kernel
theorem dX11_contract_85 : decode cX11_contract 85 = .ok (.if_icmp .ne 8, 3) := by decide +kernel
theorem dX11_contract_88 : decode cX11_contract 88 = .ok (.bipush 9, 2) := by decide +kernel
theorem dX11_contract_90 : decode cX11_contract 90 = .ok (.goto 14, 3) := by decide +kernel
theorem dX11_contract_93 : decode cX11_contract 93 = .ok (.iload_n 2, 1) := by decide +kernel
theorem dX11_contract_94 : decode cX11_contract 94 = .ok (.iconst 5, 1) := by decide +kernel
theorem dX11_contract_95 : decode cX11_contract 95 = .ok (.if_icmp .ne 8, 3) := by decide +kernel
theorem dX11_contract_98 : decode cX11_contract 98 = .ok (.bipush 36, 2) := by decide +kernel
theorem dX11_contract_100 : decode cX11_contract 100 = .ok (.goto 4, 3) := by decide +kernel
theorem dX11_contract_103 : decode cX11_contract 103 = .ok (.iconst 0, 1) := by decide +kernel
theorem dX11_contract_104 : decode cX11_contract 104 = .ok (.iastore, 1) := by decide +kernel
theorem dX11_contract_105 : decode cX11_contract 105 = .ok (.iinc 2 1, 3) := by decide +kernel
theorem dX11_contract_108 : decode cX11_contract 108 = .ok (.goto (-45), 3) := by decide +kernel
theorem dX11_contract_111 : decode cX11_contract 111 = .ok (.iconst 0, 1) := by decide +kernel
theorem dX11_contract_112 : decode cX11_contract 112 = .ok (.istore_n 2, 1) := by decide +kernel
theorem dX11_contract_113 : decode cX11_contract 113 = .ok (.iload_n 2, 1) := by decide +kernel
theorem dX11_contract_114 : decode cX11_contract 114 = .ok (.bipush 36, 2) := by decide +kernel
theorem dX11_contract_116 : decode cX11_contract 116 = .ok (.if_icmp .ge 16, 3) := by decide +kernel
theorem dX11_contract_119 : decode cX11_contract 119 = .ok (.aload_n 0, 1) := by decide +kernel
theorem dX11_contract_120 : decode cX11_contract 120 = .ok (.getfield 37, 3) := by decide +kernel
theorem dX11_contract_123 : decode cX11_contract 123 = .ok (.iload_n 2, 1) := by decide +kernel
theorem dX11_contract_124 : decode cX11_contract 124 = .ok (.iconst (-1), 1) := by decide +kernel
theorem dX11_contract_125 : decode cX11_contract 125 = .ok (.iastore, 1) := by decide +kernel
theorem dX11_contract_126 : decode cX11_contract 126 = .ok (.iinc 2 1, 3) := by decide +kernel
theorem dX11_contract_129 : decode cX11_contract 129 = .ok (.goto (-16), 3) := by decide +kernel
theorem dX11_contract_132 : decode cX11_contract 132 = .ok (.aload_n 0, 1) := by decide +kernel
theorem dX11_contract_133 : decode cX11_contract 133 = .ok (.getfield 101, 3) := by decide +kernel
theorem dX11_contract_136 : decode cX11_contract 136 = .ok (.ifCond .ne 25, 3) := by decide +kernel
theorem dX11_contract_139 : decode cX11_contract 139 = .ok (.aload_n 0, 1) := by decide +kernel
theorem dX11_contract_140 : decode cX11_contract 140 = .ok (.getfield 94, 3) := by decide +kernel
theorem dX11_contract_143 : decode cX11_contract 143 = .ok (.aload_n 0, 1) := by decide +kernel
theorem dX11_contract_144 : decode cX11_contract 144 = .ok (.getfield 91, 3) := by decide +kernel
theorem dX11_contract_147 : decode cX11_contract 147 = .ok (.if_icmp .ge 14, 3) := by decide +kernel
theorem dX11_contract_150 : decode cX11_contract 150 = .ok (.aload_n 0, 1) := by decide +kernel
theorem dX11_contract_151 : decode cX11_contract 151 = .ok (.invokevirtual 171, 3) := by decide +kernel
theorem dX11_contract_154 : decode cX11_contract 154 = .ok (.aload_n 0, 1) := by decide +kernel
theorem dX11_contract_155 : decode cX11_contract 155 = .ok (.invokevirtual 107, 3) := by decide +kernel
theorem dX11_contract_158 : decode cX11_contract 158 = .ok (.goto (-26), 3) := by decide +kernel
theorem dX11_contract_161 : decode cX11_contract 161 = .ok (.aload_n 0, 1) := by decide +kernel
theorem dX11_contract_162 : decode cX11_contract 162 = .ok (.aload_n 0, 1) := by decide +kernel
theorem dX11_contract_163 : decode cX11_contract 163 = .ok (.getfield 104, 3) := by decide +kernel
theorem dX11_contract_166 : decode cX11_contract 166 = .ok (.putfield 9, 3) := by decide +kernel
theorem dX11_contract_169 : decode cX11_contract 169 = .ok (.aload_n 0, 1) := by decide +kernel
theorem dX11_contract_170 : decode cX11_contract 170 = .ok (.getfield 101, 3) := by decide +kernel
theorem dX11_contract_173 : decode cX11_contract 173 = .ok (.ifCond .eq 11, 3) := by decide +kernel
theorem dX11_contract_176 : decode cX11_contract 176 = .ok (.aload_n 0, 1) := by decide +kernel
theorem dX11_contract_177 : decode cX11_contract 177 = .ok (.getfield 101, 3) := by decide +kernel
theorem dX11_contract_180 : decode cX11_contract 180 = .ok (.bipush 10, 2) := by decide +kernel
theorem dX11_contract_182 : decode cX11_contract 182 = .ok (.isub, 1) := by decide +kernel
theorem dX11_contract_183 : decode cX11_contract 183 = .ok (.ireturn, 1) := by decide +kernel
theorem dX11_contract_184 : decode cX11_contract 184 = .ok (.aload_n 0, 1) := by decide +kernel
theorem dX11_contract_185 : decode cX11_contract 185 = .ok (.getfield 34, 3) := by decide +kernel
theorem dX11_contract_188 : decode cX11_contract 188 = .ok (.iconst 1, 1) := by decide +kernel
theorem dX11_contract_189 : decode cX11_contract 189 = .ok (.aload_n 0, 1) := by decide +kernel
theorem dX11_contract_190 : decode cX11_contract 190 = .ok (.getfield 34, 3) := by decide +kernel
theorem dX11_contract_193 : decode cX11_contract 193 = .ok (.iconst 1, 1) := by decide +kernel
theorem dX11_contract_194 : decode cX11_contract 194 = .ok (.iaload, 1) := by decide +kernel
theorem dX11_contract_195 : decode cX11_contract 195 = .ok (.iconst (-1), 1) := by decide +kernel
theorem dX11_contract_196 : decode cX11_contract 196 = .ok (.if_icmp .ne 12, 3) := by decide +kernel
theorem dX11_contract_199 : decode cX11_contract 199 = .ok (.aload_n 0, 1) := by decide +kernel
theorem dX11_contract_200 : decode cX11_contract 200 = .ok (.getfield 34, 3) := by decide +kernel
theorem dX11_contract_203 : decode cX11_contract 203 = .ok (.iconst 0, 1) := by decide +kernel
theorem dX11_contract_204 : decode cX11_contract 204 = .ok (.iaload, 1) := by decide +kernel
theorem dX11_contract_205 : decode cX11_contract 205 = .ok (.goto 9, 3) := by decide +kernel
theorem dX11_contract_208 : decode cX11_contract 208 = .ok (.aload_n 0, 1) := by decide +kernel
theorem dX11_contract_209 : decode cX11_contract 209 = .ok (.getfield 34, 3) := by decide +kernel
theorem dX11_contract_212 : decode cX11_contract 212 = .ok (.iconst 1, 1) := by decide +kernel
theorem dX11_contract_213 : decode cX11_contract 213 = .ok (.iaload, 1) := by decide +kernel
theorem dX11_contract_214 : decode cX11_contract 214 = .ok (.iastore, 1) := by decide +kernel
theorem dX11_contract_215 : decode cX11_contract 215 = .ok (.iconst 0, 1) := by decide +kernel
theorem dX11_contract_216 : decode cX11_contract 216 = .ok (.istore_n 2, 1) := by decide +kernel
theorem dX11_contract_217 : decode cX11_contract 217 = .ok (.iload_n 2, 1) := by decide +kernel
theorem dX11_contract_218 : decode cX11_contract 218 = .ok (.bipush 36, 2) := by decide +kernel
theorem dX11_contract_220 : decode cX11_contract 220 = .ok (.if_icmp .ge 51, 3) := by decide +kernel
theorem dX11_contract_223 : decode cX11_contract 223 = .ok (.aload_n 0, 1) := by decide +kernel
theorem dX11_contract_224 : decode cX11_contract 224 = .ok (.getfield 43, 3) := by decide +kernel
theorem dX11_contract_227 : decode cX11_contract 227 = .ok (.aload_n 0, 1) := by decide +kernel
theorem dX11_contract_228 : decode cX11_contract 228 = .ok (.getfield 162, 3) := by decide +kernel
theorem dX11_contract_231 : decode cX11_contract 231 = .ok (.aaload, 1) := by decide +kernel
theorem dX11_contract_232 : decode cX11_contract 232 = .ok (.iload_n 2, 1) := by decide +kernel
theorem dX11_contract_233 : decode cX11_contract 233 = .ok (.aload_n 0, 1) := by decide +kernel
theorem dX11_contract_234 : decode cX11_contract 234 = .ok (.getfield 37, 3) := by decide +kernel
theorem dX11_contract_237 : decode cX11_contract 237 = .ok (.iload_n 2, 1) := by decide +kernel
theorem dX11_contract_238 : decode cX11_contract 238 = .ok (.iaload, 1) := by decide +kernel
theorem dX11_contract_239 : decode cX11_contract 239 = .ok (.iastore, 1) := by decide +kernel
theorem dX11_contract_240 : decode cX11_contract 240 = .ok (.aload_n 0, 1) := by decide +kernel
theorem dX11_contract_241 : decode cX11_contract 241 = .ok (.getfield 34, 3) := by decide +kernel
theorem dX11_contract_244 : decode cX11_contract 244 = .ok (.bipush 6, 2) := by decide +kernel
theorem dX11_contract_246 : decode cX11_contract 246 = .ok (.dup2, 1) := by decide +kernel
theorem dX11_contract_247 : decode cX11_contract 247 = .ok (.iaload, 1) := by decide +kernel
theorem dX11_contract_248 : decode cX11_contract 248 = .ok (.aload_n 0, 1) := by decide +kernel
theorem dX11_contract_249 : decode cX11_contract 249 = .ok (.getfield 37, 3) := by decide +kernel
theorem dX11_contract_252 : decode cX11_contract 252 = .ok (.iload_n 2, 1) := by decide +kernel
theorem dX11_contract_253 : decode cX11_contract 253 = .ok (.iaload, 1) := by decide +kernel
theorem dX11_contract_254 : decode cX11_contract 254 = .ok (.iconst (-1), 1) := by decide +kernel
theorem dX11_contract_255 : decode cX11_contract 255 = .ok (.if_icmp .ne 7, 3) := by decide +kernel
theorem dX11_contract_258 : decode cX11_contract 258 = .ok (.iconst 0, 1) := by decide +kernel
theorem dX11_contract_259 : decode cX11_contract 259 = .ok (.goto 4, 3) := by decide +kernel
theorem dX11_contract_262 : decode cX11_contract 262 = .ok (.iconst 1, 1) := by decide +kernel
theorem dX11_contract_263 : decode cX11_contract 263 = .ok (.iadd, 1) := by decide +kernel
theorem dX11_contract_264 : decode cX11_contract 264 = .ok (.iastore, 1) := by decide +kernel
theorem dX11_contract_265 : decode cX11_contract 265 = .ok (.iinc 2 1, 3) := by decide +kernel
theorem dX11_contract_268 : decode cX11_contract 268 = .ok (.goto (-51), 3) := by decide +kernel
theorem dX11_contract_271 : decode cX11_contract 271 = .ok (.iconst 0, 1) := by decide +kernel
theorem dX11_contract_272 : decode cX11_contract 272 = .ok (.istore_n 2, 1) := by decide +kernel
theorem dX11_contract_273 : decode cX11_contract 273 = .ok (.iload_n 2, 1) := by decide +kernel
theorem dX11_contract_274 : decode cX11_contract 274 = .ok (.bipush 7, 2) := by decide +kernel
theorem dX11_contract_276 : decode cX11_contract 276 = .ok (.if_icmp .ge 26, 3) := by decide +kernel
theorem dX11_contract_279 : decode cX11_contract 279 = .ok (.aload_n 0, 1) := by decide +kernel
theorem dX11_contract_280 : decode cX11_contract 280 = .ok (.getfield 40, 3) := by decide +kernel
theorem dX11_contract_283 : decode cX11_contract 283 = .ok (.aload_n 0, 1) := by decide +kernel
theorem dX11_contract_284 : decode cX11_contract 284 = .ok (.getfield 162, 3) := by decide +kernel
theorem dX11_contract_287 : decode cX11_contract 287 = .ok (.aaload, 1) := by decide +kernel
theorem dX11_contract_288 : decode cX11_contract 288 = .ok (.iload_n 2, 1) := by decide +kernel
theorem dX11_contract_289 : decode cX11_contract 289 = .ok (.aload_n 0, 1) := by decide +kernel
theorem dX11_contract_290 : decode cX11_contract 290 = .ok (.getfield 34, 3) := by decide +kernel
theorem dX11_contract_293 : decode cX11_contract 293 = .ok (.iload_n 2, 1) := by decide +kernel
theorem dX11_contract_294 : decode cX11_contract 294 = .ok (.iaload, 1) := by decide +kernel
theorem dX11_contract_295 : decode cX11_contract 295 = .ok (.iastore, 1) := by decide +kernel
theorem dX11_contract_296 : decode cX11_contract 296 = .ok (.iinc 2 1, 3) := by decide +kernel
theorem dX11_contract_299 : decode cX11_contract 299 = .ok (.goto (-26), 3) := by decide +kernel
theorem dX11_contract_302 : decode cX11_contract 302 = .ok (.aload_n 0, 1) := by decide +kernel
theorem dX11_contract_303 : decode cX11_contract 303 = .ok (.dup, 1) := by decide +kernel
theorem dX11_contract_304 : decode cX11_contract 304 = .ok (.getfield 162, 3) := by decide +kernel
theorem dX11_contract_307 : decode cX11_contract 307 = .ok (.iconst 1, 1) := by decide +kernel
theorem dX11_contract_308 : decode cX11_contract 308 = .ok (.iadd, 1) := by decide +kernel
theorem dX11_contract_309 : decode cX11_contract 309 = .ok (.putfield 162, 3) := by decide +kernel
theorem dX11_contract_312 : decode cX11_contract 312 = .ok (.aload_n 0, 1) := by decide +kernel
theorem dX11_contract_313 : decode cX11_contract 313 = .ok (.getfield 162, 3) := by decide +kernel
theorem dX11_contract_316 : decode cX11_contract 316 = .ok (.iconst 1, 1) := by decide +kernel
theorem dX11_contract_317 : decode cX11_contract 317 = .ok (.isub, 1) := by decide +kernel
theorem dX11_contract_318 : decode cX11_contract 318 = .ok (.ireturn, 1) := by decide +kernel
theorem dX11_fault_0 : decode cX11_fault 0 = .ok (.aload_n 0, 1) := by decide +kernel
theorem dX11_fault_1 : decode cX11_fault 1 = .ok (.iconst 0, 1) := by decide +kernel
theorem dX11_fault_2 : decode cX11_fault 2 = .ok (.putfield 85, 3) := by decide +kernel
theorem dX11_fault_5 : decode cX11_fault 5 = .ok (.aload_n 0, 1) := by decide +kernel
theorem dX11_fault_6 : decode cX11_fault 6 = .ok (.getfield 9, 3) := by decide +kernel
theorem dX11_fault_9 : decode cX11_fault 9 = .ok (.ireturn, 1) := by decide +kernel
theorem ggX11_told_X11_in : GoodIn wsX11_told wsX11_in := gW_in gwX11_in (fun _ h => List.mem_cons_of_mem _ (List.mem_append_right _ (List.mem_append_right _ (List.mem_append_left _ h))))
set_option maxRecDepth 20000 in
theorem gX11_told_X11_in : GoodIn wsX11_told (va_wsS RX11 119 yX11_in wsX11_in) := goodIn_app (goodIn_of _ (by decide +kernel)) ggX11_told_X11_in
theorem ggX11_told_X11_bad : GoodIn wsX11_told wsX11_bad := gW_in gwX11_bad (fun _ h => List.mem_cons_of_mem _ (List.mem_append_right _ (List.mem_append_right _ (List.mem_append_right _ (h)))))
set_option maxRecDepth 20000 in
theorem gX11_told_X11_bad : GoodIn wsX11_told (wsV RX11 151 RX11 yX11_bad wsX11_bad) := goodIn_app (goodIn_of _ (by decide +kernel)) ggX11_told_X11_bad
theorem dX11_told_0 : decode cX11_told 0 = .ok (.aload_n 0, 1) := by decide +kernel
theorem dX11_told_1 : decode cX11_told 1 = .ok (.iconst 0, 1) := by decide +kernel
theorem dX11_told_2 : decode cX11_told 2 = .ok (.putfield 85, 3) := by decide +kernel
theorem dX11_told_5 : decode cX11_told 5 = .ok (.aload_n 0, 1) := by decide +kernel
theorem dX11_told_6 : decode cX11_told 6 = .ok (.iload_n 1, 1) := by decide +kernel
theorem dX11_told_7 : decode cX11_told 7 = .ok (.iconst 0, 1) := by decide +kernel
theorem dX11_told_8 : decode cX11_told 8 = .ok (.iconst 4, 1) := by decide +kernel
theorem dX11_told_9 : decode cX11_told 9 = .ok (.invokestatic 119, 3) := by decide +kernel
theorem dX11_told_12 : decode cX11_told 12 = .ok (.ifCond .ne 7, 3) := by decide +kernel
theorem dX11_told_15 : decode cX11_told 15 = .ok (.iconst 1, 1) := by decide +kernel
theorem dX11_told_16 : decode cX11_told 16 = .ok (.goto 4, 3) := by decide +kernel
theorem dX11_told_19 : decode cX11_told 19 = .ok (.iconst 0, 1) := by decide +kernel
theorem dX11_told_20 : decode cX11_told 20 = .ok (.iconst 1, 1) := by decide +kernel
theorem dX11_told_21 : decode cX11_told 21 = .ok (.iconst 2, 1) := by decide +kernel
theorem dX11_told_22 : decode cX11_told 22 = .ok (.invokevirtual 151, 3) := by decide +kernel
theorem dX11_told_25 : decode cX11_told 25 = .ok (.ifCond .eq 5, 3) := by decide +kernel
theorem dX11_told_28 : decode cX11_told 28 = .ok (.iconst 0, 1) := by decide +kernel
theorem dX11_told_29 : decode cX11_told 29 = .ok (.ireturn, 1) := by decide +kernel
theorem dX11_told_30 : decode cX11_told 30 = .ok (.iload_n 1, 1) := by decide +kernel
theorem dX11_told_31 : decode cX11_told 31 = .ok (.ifCond .ne 12, 3) := by decide +kernel
theorem dX11_told_34 : decode cX11_told 34 = .ok (.aload_n 0, 1) := by decide +kernel
theorem dX11_told_35 : decode cX11_told 35 = .ok (.getfield 23, 3) := by decide +kernel
theorem dX11_told_38 : decode cX11_told 38 = .ok (.iconst 0, 1) := by decide +kernel
theorem dX11_told_39 : decode cX11_told 39 = .ok (.iaload, 1) := by decide +kernel
theorem dX11_told_40 : decode cX11_told 40 = .ok (.goto 41, 3) := by decide +kernel
theorem dX11_told_43 : decode cX11_told 43 = .ok (.iload_n 1, 1) := by decide +kernel
theorem dX11_told_44 : decode cX11_told 44 = .ok (.iconst 1, 1) := by decide +kernel
theorem dX11_told_45 : decode cX11_told 45 = .ok (.if_icmp .ne 10, 3) := by decide +kernel
theorem dX11_told_48 : decode cX11_told 48 = .ok (.aload_n 0, 1) := by decide +kernel
theorem dX11_told_49 : decode cX11_told 49 = .ok (.getfield 162, 3) := by decide +kernel
theorem dX11_told_52 : decode cX11_told 52 = .ok (.goto 29, 3) := by decide +kernel
theorem dX11_told_55 : decode cX11_told 55 = .ok (.iload_n 1, 1) := by decide +kernel
theorem dX11_told_56 : decode cX11_told 56 = .ok (.iconst 2, 1) := by decide +kernel
theorem dX11_told_57 : decode cX11_told 57 = .ok (.if_icmp .ne 13, 3) := by decide +kernel
theorem dX11_told_60 : decode cX11_told 60 = .ok (.aload_n 0, 1) := by decide +kernel
theorem dX11_told_61 : decode cX11_told 61 = .ok (.getfield 46, 3) := by decide +kernel
theorem dX11_told_64 : decode cX11_told 64 = .ok (.bipush 24, 2) := by decide +kernel
theorem dX11_told_66 : decode cX11_told 66 = .ok (.iaload, 1) := by decide +kernel
theorem dX11_told_67 : decode cX11_told 67 = .ok (.goto 14, 3) := by decide +kernel
theorem dX11_told_70 : decode cX11_told 70 = .ok (.aload_n 0, 1) := by decide +kernel
theorem dX11_told_71 : decode cX11_told 71 = .ok (.getfield 46, 3) := by decide +kernel
theorem dX11_told_74 : decode cX11_told 74 = .ok (.bipush 10, 2) := by decide +kernel
theorem dX11_told_76 : decode cX11_told 76 = .ok (.iload_n 1, 1) := by decide +kernel
theorem dX11_told_77 : decode cX11_told 77 = .ok (.iadd, 1) := by decide +kernel
theorem dX11_told_78 : decode cX11_told 78 = .ok (.iconst 3, 1) := by decide +kernel
theorem dX11_told_79 : decode cX11_told 79 = .ok (.isub, 1) := by decide +kernel
theorem dX11_told_80 : decode cX11_told 80 = .ok (.iaload, 1) := by decide +kernel
theorem dX11_told_81 : decode cX11_told 81 = .ok (.ireturn, 1) := by decide +kernel
theorem ggX11_isWall_X11_in : GoodIn wsX11_isWall wsX11_in := gW_in gwX11_in (fun _ h => List.mem_cons_of_mem _ (List.mem_append_right _ (List.mem_append_right _ (h))))
set_option maxRecDepth 20000 in
theorem gX11_isWall_X11_in : GoodIn wsX11_isWall (va_wsS RX11 119 yX11_in wsX11_in) := goodIn_app (goodIn_of _ (by decide +kernel)) ggX11_isWall_X11_in
theorem dX11_isWall_0 : decode cX11_isWall 0 = .ok (.iload_n 1, 1) := by decide +kernel
theorem dX11_isWall_1 : decode cX11_isWall 1 = .ok (.iconst 0, 1) := by decide +kernel
theorem dX11_isWall_2 : decode cX11_isWall 2 = .ok (.aload_n 0, 1) := by decide +kernel
theorem dX11_isWall_3 : decode cX11_isWall 3 = .ok (.getfield 23, 3) := by decide +kernel
theorem dX11_isWall_6 : decode cX11_isWall 6 = .ok (.iconst 0, 1) := by decide +kernel
theorem dX11_isWall_7 : decode cX11_isWall 7 = .ok (.iaload, 1) := by decide +kernel
theorem dX11_isWall_8 : decode cX11_isWall 8 = .ok (.iconst 1, 1) := by decide +kernel
theorem dX11_isWall_9 : decode cX11_isWall 9 = .ok (.isub, 1) := by decide +kernel
theorem dX11_isWall_10 : decode cX11_isWall 10 = .ok (.invokestatic 119, 3) := by decide +kernel
theorem dX11_isWall_13 : decode cX11_isWall 13 = .ok (.ireturn, 1) := by decide +kernel
theorem ggX11_wall_X11_isWall : GoodIn wsX11_wall wsX11_isWall := gW_in gwX11_isWall (fun _ h => List.mem_cons_of_mem _ (List.mem_append_right _ (List.mem_append_right _ (List.mem_append_left _ h))))
set_option maxRecDepth 20000 in
theorem gX11_wall_X11_isWall : GoodIn wsX11_wall (wsV RX11 174 RX11 yX11_isWall wsX11_isWall) := goodIn_app (goodIn_of _ (by decide +kernel)) ggX11_wall_X11_isWall
theorem ggX11_wall_X11_bad : GoodIn wsX11_wall wsX11_bad := gW_in gwX11_bad (fun _ h => List.mem_cons_of_mem _ (List.mem_append_right _ (List.mem_append_right _ (List.mem_append_right _ (List.mem_append_left _ h)))))
set_option maxRecDepth 20000 in
theorem gX11_wall_X11_bad : GoodIn wsX11_wall (wsV RX11 151 RX11 yX11_bad wsX11_bad) := goodIn_app (goodIn_of _ (by decide +kernel)) ggX11_wall_X11_bad
theorem ggX11_wall_X11_in : GoodIn wsX11_wall wsX11_in := gW_in gwX11_in (fun _ h => List.mem_cons_of_mem _ (List.mem_append_right _ (List.mem_append_right _ (List.mem_append_right _ (List.mem_append_right _ (h))))))
set_option maxRecDepth 20000 in
theorem gX11_wall_X11_in : GoodIn wsX11_wall (va_wsS RX11 119 yX11_in wsX11_in) := goodIn_app (goodIn_of _ (by decide +kernel)) ggX11_wall_X11_in
theorem dX11_wall_0 : decode cX11_wall 0 = .ok (.aload_n 0, 1) := by decide +kernel
theorem dX11_wall_1 : decode cX11_wall 1 = .ok (.iconst 0, 1) := by decide +kernel
theorem dX11_wall_2 : decode cX11_wall 2 = .ok (.putfield 85, 3) := by decide +kernel
theorem dX11_wall_5 : decode cX11_wall 5 = .ok (.aload_n 0, 1) := by decide +kernel
theorem dX11_wall_6 : decode cX11_wall 6 = .ok (.aload_n 0, 1) := by decide +kernel
theorem dX11_wall_7 : decode cX11_wall 7 = .ok (.iload_n 1, 1) := by decide +kernel
theorem dX11_wall_8 : decode cX11_wall 8 = .ok (.invokevirtual 174, 3) := by decide +kernel
theorem dX11_wall_11 : decode cX11_wall 11 = .ok (.ifCond .ne 7, 3) := by decide +kernel
theorem dX11_wall_14 : decode cX11_wall 14 = .ok (.iconst 1, 1) := by decide +kernel
theorem dX11_wall_15 : decode cX11_wall 15 = .ok (.goto 4, 3) := by decide +kernel
theorem dX11_wall_18 : decode cX11_wall 18 = .ok (.iconst 0, 1) := by decide +kernel
theorem dX11_wall_19 : decode cX11_wall 19 = .ok (.iconst 1, 1) := by decide +kernel
theorem dX11_wall_20 : decode cX11_wall 20 = .ok (.iconst 1, 1) := by decide +kernel
theorem dX11_wall_21 : decode cX11_wall 21 = .ok (.invokevirtual 151, 3) := by decide +kernel
theorem dX11_wall_24 : decode cX11_wall 24 = .ok (.ifCond .ne 26, 3) := by decide +kernel
theorem dX11_wall_27 : decode cX11_wall 27 = .ok (.aload_n 0, 1) := by decide +kernel
theorem dX11_wall_28 : decode cX11_wall 28 = .ok (.iload_n 2, 1) := by decide +kernel
theorem dX11_wall_29 : decode cX11_wall 29 = .ok (.iconst 0, 1) := by decide +kernel
theorem dX11_wall_30 : decode cX11_wall 30 = .ok (.iconst 3, 1) := by decide +kernel
theorem dX11_wall_31 : decode cX11_wall 31 = .ok (.invokestatic 119, 3) := by decide +kernel
theorem dX11_wall_34 : decode cX11_wall 34 = .ok (.ifCond .ne 7, 3) := by decide +kernel
theorem dX11_wall_37 : decode cX11_wall 37 = .ok (.iconst 1, 1) := by decide +kernel
theorem dX11_wall_38 : decode cX11_wall 38 = .ok (.goto 4, 3) := by decide +kernel
theorem dX11_wall_41 : decode cX11_wall 41 = .ok (.iconst 0, 1) := by decide +kernel
theorem dX11_wall_42 : decode cX11_wall 42 = .ok (.iconst 2, 1) := by decide +kernel
theorem dX11_wall_43 : decode cX11_wall 43 = .ok (.iconst 2, 1) := by decide +kernel
theorem dX11_wall_44 : decode cX11_wall 44 = .ok (.invokevirtual 151, 3) := by decide +kernel
theorem dX11_wall_47 : decode cX11_wall 47 = .ok (.ifCond .eq 5, 3) := by decide +kernel
theorem dX11_wall_50 : decode cX11_wall 50 = .ok (.iconst 0, 1) := by decide +kernel
theorem dX11_wall_51 : decode cX11_wall 51 = .ok (.ireturn, 1) := by decide +kernel
theorem dX11_wall_52 : decode cX11_wall 52 = .ok (.iload_n 2, 1) := by decide +kernel
theorem dX11_wall_53 : decode cX11_wall 53 = .ok (.ifCond .ne 14, 3) := by decide +kernel
theorem dX11_wall_56 : decode cX11_wall 56 = .ok (.aload_n 0, 1) := by decide +kernel
theorem dX11_wall_57 : decode cX11_wall 57 = .ok (.getfield 31, 3) := by decide +kernel
theorem dX11_wall_60 : decode cX11_wall 60 = .ok (.iload_n 1, 1) := by decide +kernel
theorem dX11_wall_61 : decode cX11_wall 61 = .ok (.aaload, 1) := by decide +kernel
theorem dX11_wall_62 : decode cX11_wall 62 = .ok (.iconst 0, 1) := by decide +kernel
theorem dX11_wall_63 : decode cX11_wall 63 = .ok (.iaload, 1) := by decide +kernel
theorem dX11_wall_64 : decode cX11_wall 64 = .ok (.goto 45, 3) := by decide +kernel
theorem dX11_wall_67 : decode cX11_wall 67 = .ok (.iload_n 2, 1) := by decide +kernel
theorem dX11_wall_68 : decode cX11_wall 68 = .ok (.iconst 1, 1) := by decide +kernel
theorem dX11_wall_69 : decode cX11_wall 69 = .ok (.if_icmp .ne 15, 3) := by decide +kernel
theorem dX11_wall_72 : decode cX11_wall 72 = .ok (.aload_n 0, 1) := by decide +kernel
theorem dX11_wall_73 : decode cX11_wall 73 = .ok (.getfield 46, 3) := by decide +kernel
theorem dX11_wall_76 : decode cX11_wall 76 = .ok (.bipush 12, 2) := by decide +kernel
theorem dX11_wall_78 : decode cX11_wall 78 = .ok (.iload_n 1, 1) := by decide +kernel
theorem dX11_wall_79 : decode cX11_wall 79 = .ok (.iadd, 1) := by decide +kernel
theorem dX11_wall_80 : decode cX11_wall 80 = .ok (.iaload, 1) := by decide +kernel
theorem dX11_wall_81 : decode cX11_wall 81 = .ok (.goto 28, 3) := by decide +kernel
theorem dX11_wall_84 : decode cX11_wall 84 = .ok (.iload_n 2, 1) := by decide +kernel
theorem dX11_wall_85 : decode cX11_wall 85 = .ok (.iconst 2, 1) := by decide +kernel
theorem dX11_wall_86 : decode cX11_wall 86 = .ok (.if_icmp .ne 14, 3) := by decide +kernel
theorem dX11_wall_89 : decode cX11_wall 89 = .ok (.aload_n 0, 1) := by decide +kernel
theorem dX11_wall_90 : decode cX11_wall 90 = .ok (.getfield 31, 3) := by decide +kernel
theorem dX11_wall_93 : decode cX11_wall 93 = .ok (.iload_n 1, 1) := by decide +kernel
theorem dX11_wall_94 : decode cX11_wall 94 = .ok (.aaload, 1) := by decide +kernel
theorem dX11_wall_95 : decode cX11_wall 95 = .ok (.iconst 1, 1) := by decide +kernel
theorem dX11_wall_96 : decode cX11_wall 96 = .ok (.iaload, 1) := by decide +kernel
theorem dX11_wall_97 : decode cX11_wall 97 = .ok (.goto 12, 3) := by decide +kernel
theorem dX11_wall_100 : decode cX11_wall 100 = .ok (.aload_n 0, 1) := by decide +kernel
theorem dX11_wall_101 : decode cX11_wall 101 = .ok (.getfield 46, 3) := by decide +kernel
theorem dX11_wall_104 : decode cX11_wall 104 = .ok (.bipush 18, 2) := by decide +kernel
theorem dX11_wall_106 : decode cX11_wall 106 = .ok (.iload_n 1, 1) := by decide +kernel
theorem dX11_wall_107 : decode cX11_wall 107 = .ok (.iadd, 1) := by decide +kernel
theorem dX11_wall_108 : decode cX11_wall 108 = .ok (.iaload, 1) := by decide +kernel
theorem dX11_wall_109 : decode cX11_wall 109 = .ok (.ireturn, 1) := by decide +kernel
theorem ggX11_isContract_X11_in : GoodIn wsX11_isContract wsX11_in := gW_in gwX11_in (fun _ h => List.mem_cons_of_mem _ (List.mem_append_right _ (List.mem_append_right _ (h))))
set_option maxRecDepth 20000 in
theorem gX11_isContract_X11_in : GoodIn wsX11_isContract (va_wsS RX11 119 yX11_in wsX11_in) := goodIn_app (goodIn_of _ (by decide +kernel)) ggX11_isContract_X11_in
theorem dX11_isContract_0 : decode cX11_isContract 0 = .ok (.iload_n 1, 1) := by decide +kernel
theorem dX11_isContract_1 : decode cX11_isContract 1 = .ok (.iconst 0, 1) := by decide +kernel
theorem dX11_isContract_2 : decode cX11_isContract 2 = .ok (.aload_n 0, 1) := by decide +kernel
theorem dX11_isContract_3 : decode cX11_isContract 3 = .ok (.getfield 162, 3) := by decide +kernel
theorem dX11_isContract_6 : decode cX11_isContract 6 = .ok (.iconst 1, 1) := by decide +kernel
theorem dX11_isContract_7 : decode cX11_isContract 7 = .ok (.isub, 1) := by decide +kernel
theorem dX11_isContract_8 : decode cX11_isContract 8 = .ok (.invokestatic 119, 3) := by decide +kernel
theorem dX11_isContract_11 : decode cX11_isContract 11 = .ok (.ireturn, 1) := by decide +kernel
theorem ggX11_rule_X11_isContract : GoodIn wsX11_rule wsX11_isContract := gW_in gwX11_isContract (fun _ h => List.mem_cons_of_mem _ (List.mem_append_right _ (List.mem_append_right _ (List.mem_append_left _ h))))
set_option maxRecDepth 20000 in
theorem gX11_rule_X11_isContract : GoodIn wsX11_rule (wsV RX11 177 RX11 yX11_isContract wsX11_isContract) := goodIn_app (goodIn_of _ (by decide +kernel)) ggX11_rule_X11_isContract
theorem ggX11_rule_X11_bad : GoodIn wsX11_rule wsX11_bad := gW_in gwX11_bad (fun _ h => List.mem_cons_of_mem _ (List.mem_append_right _ (List.mem_append_right _ (List.mem_append_right _ (List.mem_append_left _ h)))))
set_option maxRecDepth 20000 in
theorem gX11_rule_X11_bad : GoodIn wsX11_rule (wsV RX11 151 RX11 yX11_bad wsX11_bad) := goodIn_app (goodIn_of _ (by decide +kernel)) ggX11_rule_X11_bad
theorem ggX11_rule_X11_in : GoodIn wsX11_rule wsX11_in := gW_in gwX11_in (fun _ h => List.mem_cons_of_mem _ (List.mem_append_right _ (List.mem_append_right _ (List.mem_append_right _ (List.mem_append_right _ (h))))))
set_option maxRecDepth 20000 in
theorem gX11_rule_X11_in : GoodIn wsX11_rule (va_wsS RX11 119 yX11_in wsX11_in) := goodIn_app (goodIn_of _ (by decide +kernel)) ggX11_rule_X11_in
theorem dX11_rule_0 : decode cX11_rule 0 = .ok (.aload_n 0, 1) := by decide +kernel
theorem dX11_rule_1 : decode cX11_rule 1 = .ok (.iconst 0, 1) := by decide +kernel
theorem dX11_rule_2 : decode cX11_rule 2 = .ok (.putfield 85, 3) := by decide +kernel
theorem dX11_rule_5 : decode cX11_rule 5 = .ok (.aload_n 0, 1) := by decide +kernel
theorem dX11_rule_6 : decode cX11_rule 6 = .ok (.aload_n 0, 1) := by decide +kernel
theorem dX11_rule_7 : decode cX11_rule 7 = .ok (.iload_n 1, 1) := by decide +kernel
theorem dX11_rule_8 : decode cX11_rule 8 = .ok (.invokevirtual 177, 3) := by decide +kernel
theorem dX11_rule_11 : decode cX11_rule 11 = .ok (.ifCond .ne 7, 3) := by decide +kernel
theorem dX11_rule_14 : decode cX11_rule 14 = .ok (.iconst 1, 1) := by decide +kernel
theorem dX11_rule_15 : decode cX11_rule 15 = .ok (.goto 4, 3) := by decide +kernel
theorem dX11_rule_18 : decode cX11_rule 18 = .ok (.iconst 0, 1) := by decide +kernel
theorem dX11_rule_19 : decode cX11_rule 19 = .ok (.iconst 1, 1) := by decide +kernel
theorem dX11_rule_20 : decode cX11_rule 20 = .ok (.iconst 0, 1) := by decide +kernel
theorem dX11_rule_21 : decode cX11_rule 21 = .ok (.invokevirtual 151, 3) := by decide +kernel
theorem dX11_rule_24 : decode cX11_rule 24 = .ok (.ifCond .ne 27, 3) := by decide +kernel
theorem dX11_rule_27 : decode cX11_rule 27 = .ok (.aload_n 0, 1) := by decide +kernel
theorem dX11_rule_28 : decode cX11_rule 28 = .ok (.iload_n 2, 1) := by decide +kernel
theorem dX11_rule_29 : decode cX11_rule 29 = .ok (.iconst 0, 1) := by decide +kernel
theorem dX11_rule_30 : decode cX11_rule 30 = .ok (.bipush 6, 2) := by decide +kernel
theorem dX11_rule_32 : decode cX11_rule 32 = .ok (.invokestatic 119, 3) := by decide +kernel
theorem dX11_rule_35 : decode cX11_rule 35 = .ok (.ifCond .ne 7, 3) := by decide +kernel
theorem dX11_rule_38 : decode cX11_rule 38 = .ok (.iconst 1, 1) := by decide +kernel
theorem dX11_rule_39 : decode cX11_rule 39 = .ok (.goto 4, 3) := by decide +kernel
theorem dX11_rule_42 : decode cX11_rule 42 = .ok (.iconst 0, 1) := by decide +kernel
theorem dX11_rule_43 : decode cX11_rule 43 = .ok (.iconst 2, 1) := by decide +kernel
theorem dX11_rule_44 : decode cX11_rule 44 = .ok (.iconst 2, 1) := by decide +kernel
theorem dX11_rule_45 : decode cX11_rule 45 = .ok (.invokevirtual 151, 3) := by decide +kernel
theorem dX11_rule_48 : decode cX11_rule 48 = .ok (.ifCond .eq 5, 3) := by decide +kernel
theorem dX11_rule_51 : decode cX11_rule 51 = .ok (.iconst 0, 1) := by decide +kernel
theorem dX11_rule_52 : decode cX11_rule 52 = .ok (.ireturn, 1) := by decide +kernel
theorem dX11_rule_53 : decode cX11_rule 53 = .ok (.aload_n 0, 1) := by decide +kernel
theorem dX11_rule_54 : decode cX11_rule 54 = .ok (.getfield 40, 3) := by decide +kernel
theorem dX11_rule_57 : decode cX11_rule 57 = .ok (.iload_n 1, 1) := by decide +kernel
theorem dX11_rule_58 : decode cX11_rule 58 = .ok (.aaload, 1) := by decide +kernel
theorem dX11_rule_59 : decode cX11_rule 59 = .ok (.iload_n 2, 1) := by decide +kernel
theorem dX11_rule_60 : decode cX11_rule 60 = .ok (.iaload, 1) := by decide +kernel
theorem dX11_rule_61 : decode cX11_rule 61 = .ok (.ireturn, 1) := by decide +kernel
theorem dX11_wantsFor_0 : decode cX11_wantsFor 0 = .ok (.aload_n 0, 1) := by decide +kernel
theorem dX11_wantsFor_1 : decode cX11_wantsFor 1 = .ok (.getfield 23, 3) := by decide +kernel
theorem dX11_wantsFor_4 : decode cX11_wantsFor 4 = .ok (.bipush 13, 2) := by decide +kernel
theorem dX11_wantsFor_6 : decode cX11_wantsFor 6 = .ok (.iaload, 1) := by decide +kernel
theorem dX11_wantsFor_7 : decode cX11_wantsFor 7 = .ok (.bipush 10, 2) := by decide +kernel
theorem dX11_wantsFor_9 : decode cX11_wantsFor 9 = .ok (.iload_n 1, 1) := by decide +kernel
theorem dX11_wantsFor_10 : decode cX11_wantsFor 10 = .ok (.isub, 1) := by decide +kernel
theorem dX11_wantsFor_11 : decode cX11_wantsFor 11 = .ok (.imul, 1) := by decide +kernel
theorem dX11_wantsFor_12 : decode cX11_wantsFor 12 = .ok (.aload_n 0, 1) := by decide +kernel
theorem dX11_wantsFor_13 : decode cX11_wantsFor 13 = .ok (.getfield 23, 3) := by decide +kernel
theorem dX11_wantsFor_16 : decode cX11_wantsFor 16 = .ok (.bipush 14, 2) := by decide +kernel
theorem dX11_wantsFor_18 : decode cX11_wantsFor 18 = .ok (.iaload, 1) := by decide +kernel
theorem dX11_wantsFor_19 : decode cX11_wantsFor 19 = .ok (.iload_n 2, 1) := by decide +kernel
theorem dX11_wantsFor_20 : decode cX11_wantsFor 20 = .ok (.imul, 1) := by decide +kernel
theorem dX11_wantsFor_21 : decode cX11_wantsFor 21 = .ok (.iadd, 1) := by decide +kernel
theorem dX11_wantsFor_22 : decode cX11_wantsFor 22 = .ok (.ireturn, 1) := by decide +kernel
theorem ggX11_wants_X11_in : GoodIn wsX11_wants wsX11_in := gW_in gwX11_in (fun _ h => List.mem_cons_of_mem _ (List.mem_append_right _ (List.mem_append_right _ (List.mem_append_left _ h))))
set_option maxRecDepth 20000 in
theorem gX11_wants_X11_in : GoodIn wsX11_wants (va_wsS RX11 119 yX11_in wsX11_in) := goodIn_app (goodIn_of _ (by decide +kernel)) ggX11_wants_X11_in
theorem ggX11_wants_X11_bad : GoodIn wsX11_wants wsX11_bad := gW_in gwX11_bad (fun _ h => List.mem_cons_of_mem _ (List.mem_append_right _ (List.mem_append_right _ (List.mem_append_right _ (List.mem_append_left _ h)))))
set_option maxRecDepth 20000 in
theorem gX11_wants_X11_bad : GoodIn wsX11_wants (wsV RX11 151 RX11 yX11_bad wsX11_bad) := goodIn_app (goodIn_of _ (by decide +kernel)) ggX11_wants_X11_bad
theorem ggX11_wants_X11_wantsFor : GoodIn wsX11_wants wsX11_wantsFor := gW_in gwX11_wantsFor (fun _ h => List.mem_cons_of_mem _ (List.mem_append_right _ (List.mem_append_right _ (List.mem_append_right _ (List.mem_append_right _ (h))))))
set_option maxRecDepth 20000 in
theorem gX11_wants_X11_wantsFor : GoodIn wsX11_wants (wsV RX11 180 RX11 yX11_wantsFor wsX11_wantsFor) := goodIn_app (goodIn_of _ (by decide +kernel)) ggX11_wants_X11_wantsFor
theorem dX11_wants_0 : decode cX11_wants 0 = .ok (.aload_n 0, 1) := by decide +kernel
theorem dX11_wants_1 : decode cX11_wants 1 = .ok (.iconst 0, 1) := by decide +kernel
theorem dX11_wants_2 : decode cX11_wants 2 = .ok (.putfield 85, 3) := by decide +kernel
theorem dX11_wants_5 : decode cX11_wants 5 = .ok (.aload_n 0, 1) := by decide +kernel
theorem dX11_wants_6 : decode cX11_wants 6 = .ok (.iload_n 1, 1) := by decide +kernel
theorem dX11_wants_7 : decode cX11_wants 7 = .ok (.iconst 0, 1) := by decide +kernel
theorem dX11_wants_8 : decode cX11_wants 8 = .ok (.bipush 9, 2) := by decide +kernel
theorem dX11_wants_10 : decode cX11_wants 10 = .ok (.invokestatic 119, 3) := by decide +kernel
theorem dX11_wants_13 : decode cX11_wants 13 = .ok (.ifCond .eq 13, 3) := by decide +kernel
theorem dX11_wants_16 : decode cX11_wants 16 = .ok (.iload_n 2, 1) := by decide +kernel
theorem dX11_wants_17 : decode cX11_wants 17 = .ok (.iconst 0, 1) := by decide +kernel
theorem dX11_wants_18 : decode cX11_wants 18 = .ok (.bipush 99, 2) := by decide +kernel
theorem dX11_wants_20 : decode cX11_wants 20 = .ok (.invokestatic 119, 3) := by decide +kernel
theorem dX11_wants_23 : decode cX11_wants 23 = .ok (.ifCond .ne 7, 3) := by decide +kernel
theorem dX11_wants_26 : decode cX11_wants 26 = .ok (.iconst 1, 1) := by decide +kernel
theorem dX11_wants_27 : decode cX11_wants 27 = .ok (.goto 4, 3) := by decide +kernel
theorem dX11_wants_30 : decode cX11_wants 30 = .ok (.iconst 0, 1) := by decide +kernel
theorem dX11_wants_31 : decode cX11_wants 31 = .ok (.iconst 1, 1) := by decide +kernel
theorem dX11_wants_32 : decode cX11_wants 32 = .ok (.iconst 2, 1) := by decide +kernel
theorem dX11_wants_33 : decode cX11_wants 33 = .ok (.invokevirtual 151, 3) := by decide +kernel
theorem dX11_wants_36 : decode cX11_wants 36 = .ok (.ifCond .eq 5, 3) := by decide +kernel
theorem dX11_wants_39 : decode cX11_wants 39 = .ok (.iconst 0, 1) := by decide +kernel
theorem dX11_wants_40 : decode cX11_wants 40 = .ok (.ireturn, 1) := by decide +kernel
theorem dX11_wants_41 : decode cX11_wants 41 = .ok (.aload_n 0, 1) := by decide +kernel
theorem dX11_wants_42 : decode cX11_wants 42 = .ok (.iload_n 1, 1) := by decide +kernel
theorem dX11_wants_43 : decode cX11_wants 43 = .ok (.iload_n 2, 1) := by decide +kernel
theorem dX11_wants_44 : decode cX11_wants 44 = .ok (.invokevirtual 180, 3) := by decide +kernel
theorem dX11_wants_47 : decode cX11_wants 47 = .ok (.ireturn, 1) := by decide +kernel
theorem dX11_signs_0 : decode cX11_signs 0 = .ok (.aload_n 0, 1) := by decide +kernel
theorem dX11_signs_1 : decode cX11_signs 1 = .ok (.getfield 46, 3) := by decide +kernel
theorem dX11_signs_4 : decode cX11_signs 4 = .ok (.bipush 10, 2) := by decide +kernel
theorem dX11_signs_6 : decode cX11_signs 6 = .ok (.iload_n 1, 1) := by decide +kernel
theorem dX11_signs_7 : decode cX11_signs 7 = .ok (.iastore, 1) := by decide +kernel
theorem dX11_signs_8 : decode cX11_signs 8 = .ok (.aload_n 0, 1) := by decide +kernel
theorem dX11_signs_9 : decode cX11_signs 9 = .ok (.getfield 46, 3) := by decide +kernel
theorem dX11_signs_12 : decode cX11_signs 12 = .ok (.bipush 11, 2) := by decide +kernel
theorem dX11_signs_14 : decode cX11_signs 14 = .ok (.iload_n 1, 1) := by decide +kernel
theorem dX11_signs_15 : decode cX11_signs 15 = .ok (.iconst (-1), 1) := by decide +kernel
theorem dX11_signs_16 : decode cX11_signs 16 = .ok (.if_icmp .ne 7, 3) := by decide +kernel
theorem dX11_signs_19 : decode cX11_signs 19 = .ok (.iconst (-1), 1) := by decide +kernel
theorem dX11_signs_20 : decode cX11_signs 20 = .ok (.goto 4, 3) := by decide +kernel
theorem dX11_signs_23 : decode cX11_signs 23 = .ok (.iconst 0, 1) := by decide +kernel
theorem dX11_signs_24 : decode cX11_signs 24 = .ok (.iastore, 1) := by decide +kernel
theorem dX11_signs_25 : decode cX11_signs 25 = .ok (.return_, 1) := by decide +kernel
theorem ggX11_sign_X11_isContract : GoodIn wsX11_sign wsX11_isContract := gW_in gwX11_isContract (fun _ h => List.mem_cons_of_mem _ (List.mem_append_right _ (List.mem_append_right _ (List.mem_append_left _ h))))
set_option maxRecDepth 20000 in
theorem gX11_sign_X11_isContract : GoodIn wsX11_sign (wsV RX11 177 RX11 yX11_isContract wsX11_isContract) := goodIn_app (goodIn_of _ (by decide +kernel)) ggX11_sign_X11_isContract
theorem ggX11_sign_X11_bad : GoodIn wsX11_sign wsX11_bad := gW_in gwX11_bad (fun _ h => List.mem_cons_of_mem _ (List.mem_append_right _ (List.mem_append_right _ (List.mem_append_right _ (List.mem_append_left _ h)))))
set_option maxRecDepth 20000 in
theorem gX11_sign_X11_bad : GoodIn wsX11_sign (wsV RX11 151 RX11 yX11_bad wsX11_bad) := goodIn_app (goodIn_of _ (by decide +kernel)) ggX11_sign_X11_bad
theorem ggX11_sign_X11_signs : GoodIn wsX11_sign wsX11_signs := gW_in gwX11_signs (fun _ h => List.mem_cons_of_mem _ (List.mem_append_right _ (List.mem_append_right _ (List.mem_append_right _ (List.mem_append_right _ (h))))))
set_option maxRecDepth 20000 in
theorem gX11_sign_X11_signs : GoodIn wsX11_sign (wsV RX11 183 RX11 yX11_signs wsX11_signs) := goodIn_app (goodIn_of _ (by decide +kernel)) ggX11_sign_X11_signs
theorem dX11_sign_0 : decode cX11_sign 0 = .ok (.aload_n 0, 1) := by decide +kernel
theorem dX11_sign_1 : decode cX11_sign 1 = .ok (.iconst 0, 1) := by decide +kernel
theorem dX11_sign_2 : decode cX11_sign 2 = .ok (.putfield 85, 3) := by decide +kernel
theorem dX11_sign_5 : decode cX11_sign 5 = .ok (.aload_n 0, 1) := by decide +kernel
theorem dX11_sign_6 : decode cX11_sign 6 = .ok (.iload_n 1, 1) := by decide +kernel
theorem dX11_sign_7 : decode cX11_sign 7 = .ok (.iconst (-1), 1) := by decide +kernel
theorem dX11_sign_8 : decode cX11_sign 8 = .ok (.if_icmp .eq 15, 3) := by decide +kernel
theorem dX11_sign_11 : decode cX11_sign 11 = .ok (.aload_n 0, 1) := by decide +kernel
theorem dX11_sign_12 : decode cX11_sign 12 = .ok (.iload_n 1, 1) := by decide +kernel
theorem dX11_sign_13 : decode cX11_sign 13 = .ok (.invokevirtual 177, 3) := by decide +kernel
theorem dX11_sign_16 : decode cX11_sign 16 = .ok (.ifCond .ne 7, 3) := by decide +kernel
theorem dX11_sign_19 : decode cX11_sign 19 = .ok (.iconst 1, 1) := by decide +kernel
theorem dX11_sign_20 : decode cX11_sign 20 = .ok (.goto 4, 3) := by decide +kernel
theorem dX11_sign_23 : decode cX11_sign 23 = .ok (.iconst 0, 1) := by decide +kernel
theorem dX11_sign_24 : decode cX11_sign 24 = .ok (.iconst 1, 1) := by decide +kernel
theorem dX11_sign_25 : decode cX11_sign 25 = .ok (.iconst 0, 1) := by decide +kernel
theorem dX11_sign_26 : decode cX11_sign 26 = .ok (.invokevirtual 151, 3) := by decide +kernel
theorem dX11_sign_29 : decode cX11_sign 29 = .ok (.ifCond .eq 5, 3) := by decide +kernel
theorem dX11_sign_32 : decode cX11_sign 32 = .ok (.iconst 0, 1) := by decide +kernel
theorem dX11_sign_33 : decode cX11_sign 33 = .ok (.ireturn, 1) := by decide +kernel
theorem dX11_sign_34 : decode cX11_sign 34 = .ok (.aload_n 0, 1) := by decide +kernel
theorem dX11_sign_35 : decode cX11_sign 35 = .ok (.getfield 46, 3) := by decide +kernel
theorem dX11_sign_38 : decode cX11_sign 38 = .ok (.bipush 10, 2) := by decide +kernel
theorem dX11_sign_40 : decode cX11_sign 40 = .ok (.iaload, 1) := by decide +kernel
theorem dX11_sign_41 : decode cX11_sign 41 = .ok (.istore_n 2, 1) := by decide +kernel
theorem dX11_sign_42 : decode cX11_sign 42 = .ok (.aload_n 0, 1) := by decide +kernel
theorem dX11_sign_43 : decode cX11_sign 43 = .ok (.iload_n 1, 1) := by decide +kernel
theorem dX11_sign_44 : decode cX11_sign 44 = .ok (.invokevirtual 183, 3) := by decide +kernel
theorem dX11_sign_47 : decode cX11_sign 47 = .ok (.iload_n 2, 1) := by decide +kernel
theorem dX11_sign_48 : decode cX11_sign 48 = .ok (.ireturn, 1) := by decide +kernel
theorem dX11_less_0 : decode cX11_less 0 = .ok (.iload_n 0, 1) := by decide +kernel
theorem dX11_less_1 : decode cX11_less 1 = .ok (.iload_n 1, 1) := by decide +kernel
theorem dX11_less_2 : decode cX11_less 2 = .ok (.if_icmp .ge 7, 3) := by decide +kernel
theorem dX11_less_5 : decode cX11_less 5 = .ok (.iload_n 0, 1) := by decide +kernel
theorem dX11_less_6 : decode cX11_less 6 = .ok (.goto 4, 3) := by decide +kernel
theorem dX11_less_9 : decode cX11_less 9 = .ok (.iload_n 1, 1) := by decide +kernel
theorem dX11_less_10 : decode cX11_less 10 = .ok (.ireturn, 1) := by decide +kernel
theorem ggX11_pays_X11_less : GoodIn wsX11_pays wsX11_less := gW_in gwX11_less (fun _ h => List.mem_cons_of_mem _ (List.mem_append_right _ (List.mem_append_right _ (h))))
set_option maxRecDepth 20000 in
theorem gX11_pays_X11_less : GoodIn wsX11_pays (va_wsS RX11 186 yX11_less wsX11_less) := goodIn_app (goodIn_of _ (by decide +kernel)) ggX11_pays_X11_less
theorem dX11_pays_0 : decode cX11_pays 0 = .ok (.iload_n 3, 1) := by decide +kernel
theorem dX11_pays_1 : decode cX11_pays 1 = .ok (.aload_n 0, 1) := by decide +kernel
theorem dX11_pays_2 : decode cX11_pays 2 = .ok (.getfield 46, 3) := by decide +kernel
theorem dX11_pays_5 : decode cX11_pays 5 = .ok (.iload_n 1, 1) := by decide +kernel
theorem dX11_pays_6 : decode cX11_pays 6 = .ok (.iaload, 1) := by decide +kernel
theorem dX11_pays_7 : decode cX11_pays 7 = .ok (.invokestatic 186, 3) := by decide +kernel
theorem dX11_pays_10 : decode cX11_pays 10 = .ok (.istore 4, 2) := by decide +kernel
theorem dX11_pays_12 : decode cX11_pays 12 = .ok (.aload_n 0, 1) := by decide +kernel
theorem dX11_pays_13 : decode cX11_pays 13 = .ok (.getfield 46, 3) := by decide +kernel
theorem dX11_pays_16 : decode cX11_pays 16 = .ok (.iload_n 1, 1) := by decide +kernel
theorem dX11_pays_17 : decode cX11_pays 17 = .ok (.dup2, 1) := by decide +kernel
theorem dX11_pays_18 : decode cX11_pays 18 = .ok (.iaload, 1) := by decide +kernel
theorem dX11_pays_19 : decode cX11_pays 19 = .ok (.iload 4, 2) := by decide +kernel
theorem dX11_pays_21 : decode cX11_pays 21 = .ok (.isub, 1) := by decide +kernel
theorem dX11_pays_22 : decode cX11_pays 22 = .ok (.iastore, 1) := by decide +kernel
theorem dX11_pays_23 : decode cX11_pays 23 = .ok (.aload_n 0, 1) := by decide +kernel
theorem dX11_pays_24 : decode cX11_pays 24 = .ok (.getfield 46, 3) := by decide +kernel
theorem dX11_pays_27 : decode cX11_pays 27 = .ok (.iload_n 2, 1) := by decide +kernel
theorem dX11_pays_28 : decode cX11_pays 28 = .ok (.dup2, 1) := by decide +kernel
theorem dX11_pays_29 : decode cX11_pays 29 = .ok (.iaload, 1) := by decide +kernel
theorem dX11_pays_30 : decode cX11_pays 30 = .ok (.iload 4, 2) := by decide +kernel
theorem dX11_pays_32 : decode cX11_pays 32 = .ok (.iadd, 1) := by decide +kernel
theorem dX11_pays_33 : decode cX11_pays 33 = .ok (.iastore, 1) := by decide +kernel
theorem dX11_pays_34 : decode cX11_pays 34 = .ok (.return_, 1) := by decide +kernel
theorem ggX11_fears_X11_less : GoodIn wsX11_fears wsX11_less := gW_in gwX11_less (fun _ h => List.mem_cons_of_mem _ (List.mem_append_right _ (List.mem_append_right _ (h))))
set_option maxRecDepth 20000 in
theorem gX11_fears_X11_less : GoodIn wsX11_fears (va_wsS RX11 186 yX11_less wsX11_less) := goodIn_app (goodIn_of _ (by decide +kernel)) ggX11_fears_X11_less
theorem dX11_fears_0 : decode cX11_fears 0 = .ok (.aload_n 0, 1) := by decide +kernel
theorem dX11_fears_1 : decode cX11_fears 1 = .ok (.getfield 46, 3) := by decide +kernel
theorem dX11_fears_4 : decode cX11_fears 4 = .ok (.iconst 5, 1) := by decide +kernel
theorem dX11_fears_5 : decode cX11_fears 5 = .ok (.bipush 100, 2) := by decide +kernel
theorem dX11_fears_7 : decode cX11_fears 7 = .ok (.aload_n 0, 1) := by decide +kernel
theorem dX11_fears_8 : decode cX11_fears 8 = .ok (.getfield 46, 3) := by decide +kernel
theorem dX11_fears_11 : decode cX11_fears 11 = .ok (.iconst 5, 1) := by decide +kernel
theorem dX11_fears_12 : decode cX11_fears 12 = .ok (.iaload, 1) := by decide +kernel
theorem dX11_fears_13 : decode cX11_fears 13 = .ok (.iload_n 1, 1) := by decide +kernel
theorem dX11_fears_14 : decode cX11_fears 14 = .ok (.iadd, 1) := by decide +kernel
theorem dX11_fears_15 : decode cX11_fears 15 = .ok (.invokestatic 186, 3) := by decide +kernel
theorem dX11_fears_18 : decode cX11_fears 18 = .ok (.iastore, 1) := by decide +kernel
theorem dX11_fears_19 : decode cX11_fears 19 = .ok (.return_, 1) := by decide +kernel
theorem dX11_weakest_0 : decode cX11_weakest 0 = .ok (.iconst 0, 1) := by decide +kernel
theorem dX11_weakest_1 : decode cX11_weakest 1 = .ok (.istore_n 1, 1) := by decide +kernel
theorem dX11_weakest_2 : decode cX11_weakest 2 = .ok (.iconst 1, 1) := by decide +kernel
theorem dX11_weakest_3 : decode cX11_weakest 3 = .ok (.istore_n 2, 1) := by decide +kernel
theorem dX11_weakest_4 : decode cX11_weakest 4 = .ok (.iload_n 2, 1) := by decide +kernel
theorem dX11_weakest_5 : decode cX11_weakest 5 = .ok (.aload_n 0, 1) := by decide +kernel
theorem dX11_weakest_6 : decode cX11_weakest 6 = .ok (.getfield 23, 3) := by decide +kernel
theorem dX11_weakest_9 : decode cX11_weakest 9 = .ok (.iconst 0, 1) := by decide +kernel
theorem dX11_weakest_10 : decode cX11_weakest 10 = .ok (.iaload, 1) := by decide +kernel
theorem dX11_weakest_11 : decode cX11_weakest 11 = .ok (.if_icmp .ge 36, 3) := by decide +kernel
theorem dX11_weakest_14 : decode cX11_weakest 14 = .ok (.aload_n 0, 1) := by decide +kernel
theorem dX11_weakest_15 : decode cX11_weakest 15 = .ok (.getfield 46, 3) := by decide +kernel
theorem dX11_weakest_18 : decode cX11_weakest 18 = .ok (.bipush 12, 2) := by decide +kernel
theorem dX11_weakest_20 : decode cX11_weakest 20 = .ok (.iload_n 2, 1) := by decide +kernel
theorem dX11_weakest_21 : decode cX11_weakest 21 = .ok (.iadd, 1) := by decide +kernel
theorem dX11_weakest_22 : decode cX11_weakest 22 = .ok (.iaload, 1) := by decide +kernel
theorem dX11_weakest_23 : decode cX11_weakest 23 = .ok (.aload_n 0, 1) := by decide +kernel
theorem dX11_weakest_24 : decode cX11_weakest 24 = .ok (.getfield 46, 3) := by decide +kernel
theorem dX11_weakest_27 : decode cX11_weakest 27 = .ok (.bipush 12, 2) := by decide +kernel
theorem dX11_weakest_29 : decode cX11_weakest 29 = .ok (.iload_n 1, 1) := by decide +kernel
theorem dX11_weakest_30 : decode cX11_weakest 30 = .ok (.iadd, 1) := by decide +kernel
theorem dX11_weakest_31 : decode cX11_weakest 31 = .ok (.iaload, 1) := by decide +kernel
theorem dX11_weakest_32 : decode cX11_weakest 32 = .ok (.if_icmp .ge 7, 3) := by decide +kernel
theorem dX11_weakest_35 : decode cX11_weakest 35 = .ok (.iload_n 2, 1) := by decide +kernel
theorem dX11_weakest_36 : decode cX11_weakest 36 = .ok (.goto 4, 3) := by decide +kernel
theorem dX11_weakest_39 : decode cX11_weakest 39 = .ok (.iload_n 1, 1) := by decide +kernel
theorem dX11_weakest_40 : decode cX11_weakest 40 = .ok (.istore_n 1, 1) := by decide +kernel
theorem dX11_weakest_41 : decode cX11_weakest 41 = .ok (.iinc 2 1, 3) := by decide +kernel
theorem dX11_weakest_44 : decode cX11_weakest 44 = .ok (.goto (-40), 3) := by decide +kernel
theorem dX11_weakest_47 : decode cX11_weakest 47 = .ok (.iload_n 1, 1) := by decide +kernel
theorem dX11_weakest_48 : decode cX11_weakest 48 = .ok (.ireturn, 1) := by decide +kernel
theorem ggX11_shoots_X11_weakest : GoodIn wsX11_shoots wsX11_weakest := gW_in gwX11_weakest (fun _ h => List.mem_cons_of_mem _ (List.mem_append_right _ (List.mem_append_right _ (List.mem_append_left _ h))))
set_option maxRecDepth 20000 in
theorem gX11_shoots_X11_weakest : GoodIn wsX11_shoots (wsV RX11 189 RX11 yX11_weakest wsX11_weakest) := goodIn_app (goodIn_of _ (by decide +kernel)) ggX11_shoots_X11_weakest
theorem ggX11_shoots_X11_fears : GoodIn wsX11_shoots wsX11_fears := gW_in gwX11_fears (fun _ h => List.mem_cons_of_mem _ (List.mem_append_right _ (List.mem_append_right _ (List.mem_append_right _ (List.mem_append_left _ h)))))
set_option maxRecDepth 20000 in
theorem gX11_shoots_X11_fears : GoodIn wsX11_shoots (wsV RX11 196 RX11 yX11_fears wsX11_fears) := goodIn_app (goodIn_of _ (by decide +kernel)) ggX11_shoots_X11_fears
theorem ggX11_shoots_X11_pays : GoodIn wsX11_shoots wsX11_pays := gW_in gwX11_pays (fun _ h => List.mem_cons_of_mem _ (List.mem_append_right _ (List.mem_append_right _ (List.mem_append_right _ (List.mem_append_right _ (h))))))
set_option maxRecDepth 20000 in
theorem gX11_shoots_X11_pays : GoodIn wsX11_shoots (wsV RX11 199 RX11 yX11_pays wsX11_pays) := goodIn_app (goodIn_of _ (by decide +kernel)) ggX11_shoots_X11_pays
theorem dX11_shoots_0 : decode cX11_shoots 0 = .ok (.aload_n 2, 1) := by decide +kernel
theorem dX11_shoots_1 : decode cX11_shoots 1 = .ok (.aload_n 0, 1) := by decide +kernel
theorem dX11_shoots_2 : decode cX11_shoots 2 = .ok (.getfield 46, 3) := by decide +kernel
theorem dX11_shoots_5 : decode cX11_shoots 5 = .ok (.bipush 11, 2) := by decide +kernel
theorem dX11_shoots_7 : decode cX11_shoots 7 = .ok (.iaload, 1) := by decide +kernel
theorem dX11_shoots_8 : decode cX11_shoots 8 = .ok (.iaload, 1) := by decide +kernel
theorem dX11_shoots_9 : decode cX11_shoots 9 = .ok (.istore_n 3, 1) := by decide +kernel
theorem dX11_shoots_10 : decode cX11_shoots 10 = .ok (.iconst 0, 1) := by decide +kernel
theorem dX11_shoots_11 : decode cX11_shoots 11 = .ok (.istore 4, 2) := by decide +kernel
theorem dX11_shoots_13 : decode cX11_shoots 13 = .ok (.iconst 1, 1) := by decide +kernel
theorem dX11_shoots_14 : decode cX11_shoots 14 = .ok (.istore 5, 2) := by decide +kernel
theorem dX11_shoots_16 : decode cX11_shoots 16 = .ok (.iload 5, 2) := by decide +kernel
theorem dX11_shoots_18 : decode cX11_shoots 18 = .ok (.aload_n 1, 1) := by decide +kernel
theorem dX11_shoots_19 : decode cX11_shoots 19 = .ok (.iconst 3, 1) := by decide +kernel
theorem dX11_shoots_20 : decode cX11_shoots 20 = .ok (.iaload, 1) := by decide +kernel
theorem dX11_shoots_21 : decode cX11_shoots 21 = .ok (.if_icmp .gt 185, 3) := by decide +kernel
theorem dX11_shoots_24 : decode cX11_shoots 24 = .ok (.aload_n 0, 1) := by decide +kernel
theorem dX11_shoots_25 : decode cX11_shoots 25 = .ok (.getfield 23, 3) := by decide +kernel
theorem dX11_shoots_28 : decode cX11_shoots 28 = .ok (.iconst 0, 1) := by decide +kernel
theorem dX11_shoots_29 : decode cX11_shoots 29 = .ok (.iaload, 1) := by decide +kernel
theorem dX11_shoots_30 : decode cX11_shoots 30 = .ok (.ifCond .le 176, 3) := by decide +kernel
theorem dX11_shoots_33 : decode cX11_shoots 33 = .ok (.iload_n 3, 1) := by decide +kernel
theorem dX11_shoots_34 : decode cX11_shoots 34 = .ok (.iconst (-1), 1) := by decide +kernel
theorem dX11_shoots_35 : decode cX11_shoots 35 = .ok (.if_icmp .ne 10, 3) := by decide +kernel
theorem dX11_shoots_38 : decode cX11_shoots 38 = .ok (.aload_n 0, 1) := by decide +kernel
theorem dX11_shoots_39 : decode cX11_shoots 39 = .ok (.invokevirtual 189, 3) := by decide +kernel
theorem dX11_shoots_42 : decode cX11_shoots 42 = .ok (.goto 4, 3) := by decide +kernel
theorem dX11_shoots_45 : decode cX11_shoots 45 = .ok (.iload_n 3, 1) := by decide +kernel
theorem dX11_shoots_46 : decode cX11_shoots 46 = .ok (.istore 6, 2) := by decide +kernel
theorem dX11_shoots_48 : decode cX11_shoots 48 = .ok (.aload_n 0, 1) := by decide +kernel
theorem dX11_shoots_49 : decode cX11_shoots 49 = .ok (.getfield 192, 3) := by decide +kernel
theorem dX11_shoots_52 : decode cX11_shoots 52 = .ok (.ifCond .eq 22, 3) := by decide +kernel
theorem dX11_shoots_55 : decode cX11_shoots 55 = .ok (.aload_n 0, 1) := by decide +kernel
theorem dX11_shoots_56 : decode cX11_shoots 56 = .ok (.getfield 55, 3) := by decide +kernel
theorem dX11_shoots_59 : decode cX11_shoots 59 = .ok (.aload_n 0, 1) := by decide +kernel
theorem dX11_shoots_60 : decode cX11_shoots 60 = .ok (.getfield 46, 3) := by decide +kernel
theorem dX11_shoots_63 : decode cX11_shoots 63 = .ok (.bipush 24, 2) := by decide +kernel
theorem dX11_shoots_65 : decode cX11_shoots 65 = .ok (.iaload, 1) := by decide +kernel
theorem dX11_shoots_66 : decode cX11_shoots 66 = .ok (.aaload, 1) := by decide +kernel
theorem dX11_shoots_67 : decode cX11_shoots 67 = .ok (.iload 6, 2) := by decide +kernel
theorem dX11_shoots_69 : decode cX11_shoots 69 = .ok (.dup2, 1) := by decide +kernel
theorem dX11_shoots_70 : decode cX11_shoots 70 = .ok (.iaload, 1) := by decide +kernel
theorem dX11_shoots_71 : decode cX11_shoots 71 = .ok (.iconst 1, 1) := by decide +kernel
theorem dX11_shoots_72 : decode cX11_shoots 72 = .ok (.iadd, 1) := by decide +kernel
theorem dX11_shoots_73 : decode cX11_shoots 73 = .ok (.iastore, 1) := by decide +kernel
theorem dX11_shoots_74 : decode cX11_shoots 74 = .ok (.aload_n 0, 1) := by decide +kernel
theorem dX11_shoots_75 : decode cX11_shoots 75 = .ok (.getfield 46, 3) := by decide +kernel
theorem dX11_shoots_78 : decode cX11_shoots 78 = .ok (.bipush 9, 2) := by decide +kernel
theorem dX11_shoots_80 : decode cX11_shoots 80 = .ok (.dup2, 1) := by decide +kernel
theorem dX11_shoots_81 : decode cX11_shoots 81 = .ok (.iaload, 1) := by decide +kernel
theorem dX11_shoots_82 : decode cX11_shoots 82 = .ok (.iconst 1, 1) := by decide +kernel
theorem dX11_shoots_83 : decode cX11_shoots 83 = .ok (.iadd, 1) := by decide +kernel
theorem dX11_shoots_84 : decode cX11_shoots 84 = .ok (.iastore, 1) := by decide +kernel
theorem dX11_shoots_85 : decode cX11_shoots 85 = .ok (.aload_n 0, 1) := by decide +kernel
theorem dX11_shoots_86 : decode cX11_shoots 86 = .ok (.getfield 46, 3) := by decide +kernel
theorem dX11_shoots_89 : decode cX11_shoots 89 = .ok (.bipush 12, 2) := by decide +kernel
theorem dX11_shoots_91 : decode cX11_shoots 91 = .ok (.iload 6, 2) := by decide +kernel
theorem dX11_shoots_93 : decode cX11_shoots 93 = .ok (.iadd, 1) := by decide +kernel
theorem dX11_shoots_94 : decode cX11_shoots 94 = .ok (.dup2, 1) := by decide +kernel
theorem dX11_shoots_95 : decode cX11_shoots 95 = .ok (.iaload, 1) := by decide +kernel
theorem dX11_shoots_96 : decode cX11_shoots 96 = .ok (.aload_n 1, 1) := by decide +kernel
theorem dX11_shoots_97 : decode cX11_shoots 97 = .ok (.iconst 2, 1) := by decide +kernel
theorem dX11_shoots_98 : decode cX11_shoots 98 = .ok (.iaload, 1) := by decide +kernel
theorem dX11_shoots_99 : decode cX11_shoots 99 = .ok (.iconst 5, 1) := by decide +kernel
theorem dX11_shoots_100 : decode cX11_shoots 100 = .ok (.if_icmp .ge 14, 3) := by decide +kernel
theorem dX11_shoots_103 : decode cX11_shoots 103 = .ok (.iload 5, 2) := by decide +kernel
theorem dX11_shoots_105 : decode cX11_shoots 105 = .ok (.iconst 2, 1) := by decide +kernel
theorem dX11_shoots_106 : decode cX11_shoots 106 = .ok (.irem, 1) := by decide +kernel
theorem dX11_shoots_107 : decode cX11_shoots 107 = .ok (.ifCond .ne 7, 3) := by decide +kernel
theorem dX11_shoots_110 : decode cX11_shoots 110 = .ok (.iconst 2, 1) := by decide +kernel
theorem dX11_shoots_111 : decode cX11_shoots 111 = .ok (.goto 4, 3) := by decide +kernel
theorem dX11_shoots_114 : decode cX11_shoots 114 = .ok (.iconst 1, 1) := by decide +kernel
theorem dX11_shoots_115 : decode cX11_shoots 115 = .ok (.isub, 1) := by decide +kernel
theorem dX11_shoots_116 : decode cX11_shoots 116 = .ok (.iastore, 1) := by decide +kernel
theorem dX11_shoots_117 : decode cX11_shoots 117 = .ok (.aload_n 0, 1) := by decide +kernel
theorem dX11_shoots_118 : decode cX11_shoots 118 = .ok (.getfield 46, 3) := by decide +kernel
theorem dX11_shoots_121 : decode cX11_shoots 121 = .ok (.bipush 12, 2) := by decide +kernel
theorem dX11_shoots_123 : decode cX11_shoots 123 = .ok (.iload 6, 2) := by decide +kernel
theorem dX11_shoots_125 : decode cX11_shoots 125 = .ok (.iadd, 1) := by decide +kernel
theorem dX11_shoots_126 : decode cX11_shoots 126 = .ok (.iaload, 1) := by decide +kernel
theorem dX11_shoots_127 : decode cX11_shoots 127 = .ok (.ifCond .le 6, 3) := by decide +kernel
theorem dX11_shoots_130 : decode cX11_shoots 130 = .ok (.goto 70, 3) := by decide +kernel
theorem dX11_shoots_133 : decode cX11_shoots 133 = .ok (.aload_n 0, 1) := by decide +kernel
theorem dX11_shoots_134 : decode cX11_shoots 134 = .ok (.getfield 46, 3) := by decide +kernel
theorem dX11_shoots_137 : decode cX11_shoots 137 = .ok (.bipush 12, 2) := by decide +kernel
theorem dX11_shoots_139 : decode cX11_shoots 139 = .ok (.iload 6, 2) := by decide +kernel
theorem dX11_shoots_141 : decode cX11_shoots 141 = .ok (.iadd, 1) := by decide +kernel
theorem dX11_shoots_142 : decode cX11_shoots 142 = .ok (.aload_n 0, 1) := by decide +kernel
theorem dX11_shoots_143 : decode cX11_shoots 143 = .ok (.getfield 31, 3) := by decide +kernel
theorem dX11_shoots_146 : decode cX11_shoots 146 = .ok (.iload 6, 2) := by decide +kernel
theorem dX11_shoots_148 : decode cX11_shoots 148 = .ok (.aaload, 1) := by decide +kernel
theorem dX11_shoots_149 : decode cX11_shoots 149 = .ok (.iconst 0, 1) := by decide +kernel
theorem dX11_shoots_150 : decode cX11_shoots 150 = .ok (.iaload, 1) := by decide +kernel
theorem dX11_shoots_151 : decode cX11_shoots 151 = .ok (.iastore, 1) := by decide +kernel
theorem dX11_shoots_152 : decode cX11_shoots 152 = .ok (.aload_n 0, 1) := by decide +kernel
theorem dX11_shoots_153 : decode cX11_shoots 153 = .ok (.getfield 46, 3) := by decide +kernel
theorem dX11_shoots_156 : decode cX11_shoots 156 = .ok (.bipush 18, 2) := by decide +kernel
theorem dX11_shoots_158 : decode cX11_shoots 158 = .ok (.iload 6, 2) := by decide +kernel
theorem dX11_shoots_160 : decode cX11_shoots 160 = .ok (.iadd, 1) := by decide +kernel
theorem dX11_shoots_161 : decode cX11_shoots 161 = .ok (.dup2, 1) := by decide +kernel
theorem dX11_shoots_162 : decode cX11_shoots 162 = .ok (.iaload, 1) := by decide +kernel
theorem dX11_shoots_163 : decode cX11_shoots 163 = .ok (.iconst 1, 1) := by decide +kernel
theorem dX11_shoots_164 : decode cX11_shoots 164 = .ok (.iadd, 1) := by decide +kernel
theorem dX11_shoots_165 : decode cX11_shoots 165 = .ok (.iastore, 1) := by decide +kernel
theorem dX11_shoots_166 : decode cX11_shoots 166 = .ok (.aload_n 0, 1) := by decide +kernel
theorem dX11_shoots_167 : decode cX11_shoots 167 = .ok (.getfield 46, 3) := by decide +kernel
theorem dX11_shoots_170 : decode cX11_shoots 170 = .ok (.bipush 6, 2) := by decide +kernel
theorem dX11_shoots_172 : decode cX11_shoots 172 = .ok (.dup2, 1) := by decide +kernel
theorem dX11_shoots_173 : decode cX11_shoots 173 = .ok (.iaload, 1) := by decide +kernel
theorem dX11_shoots_174 : decode cX11_shoots 174 = .ok (.iconst 1, 1) := by decide +kernel
theorem dX11_shoots_175 : decode cX11_shoots 175 = .ok (.iadd, 1) := by decide +kernel
theorem dX11_shoots_176 : decode cX11_shoots 176 = .ok (.iastore, 1) := by decide +kernel
theorem dX11_shoots_177 : decode cX11_shoots 177 = .ok (.iconst 1, 1) := by decide +kernel
theorem dX11_shoots_178 : decode cX11_shoots 178 = .ok (.istore 4, 2) := by decide +kernel
theorem dX11_shoots_180 : decode cX11_shoots 180 = .ok (.aload_n 0, 1) := by decide +kernel
theorem dX11_shoots_181 : decode cX11_shoots 181 = .ok (.aload_n 0, 1) := by decide +kernel
theorem dX11_shoots_182 : decode cX11_shoots 182 = .ok (.getfield 23, 3) := by decide +kernel
theorem dX11_shoots_185 : decode cX11_shoots 185 = .ok (.bipush 10, 2) := by decide +kernel
theorem dX11_shoots_187 : decode cX11_shoots 187 = .ok (.iaload, 1) := by decide +kernel
theorem dX11_shoots_188 : decode cX11_shoots 188 = .ok (.invokevirtual 196, 3) := by decide +kernel
theorem dX11_shoots_191 : decode cX11_shoots 191 = .ok (.aload_n 0, 1) := by decide +kernel
theorem dX11_shoots_192 : decode cX11_shoots 192 = .ok (.iconst 0, 1) := by decide +kernel
theorem dX11_shoots_193 : decode cX11_shoots 193 = .ok (.iconst 1, 1) := by decide +kernel
theorem dX11_shoots_194 : decode cX11_shoots 194 = .ok (.aload_n 1, 1) := by decide +kernel
theorem dX11_shoots_195 : decode cX11_shoots 195 = .ok (.iconst 4, 1) := by decide +kernel
theorem dX11_shoots_196 : decode cX11_shoots 196 = .ok (.iaload, 1) := by decide +kernel
theorem dX11_shoots_197 : decode cX11_shoots 197 = .ok (.invokevirtual 199, 3) := by decide +kernel
theorem dX11_shoots_200 : decode cX11_shoots 200 = .ok (.iinc 5 1, 3) := by decide +kernel
theorem dX11_shoots_203 : decode cX11_shoots 203 = .ok (.goto (-187), 3) := by decide +kernel
theorem dX11_shoots_206 : decode cX11_shoots 206 = .ok (.aload_n 0, 1) := by decide +kernel
theorem dX11_shoots_207 : decode cX11_shoots 207 = .ok (.getfield 46, 3) := by decide +kernel
theorem dX11_shoots_210 : decode cX11_shoots 210 = .ok (.bipush 7, 2) := by decide +kernel
theorem dX11_shoots_212 : decode cX11_shoots 212 = .ok (.dup2, 1) := by decide +kernel
theorem dX11_shoots_213 : decode cX11_shoots 213 = .ok (.iaload, 1) := by decide +kernel
theorem dX11_shoots_214 : decode cX11_shoots 214 = .ok (.iload_n 3, 1) := by decide +kernel
theorem dX11_shoots_215 : decode cX11_shoots 215 = .ok (.iconst (-1), 1) := by decide +kernel
theorem dX11_shoots_216 : decode cX11_shoots 216 = .ok (.if_icmp .eq 12, 3) := by decide +kernel
theorem dX11_shoots_219 : decode cX11_shoots 219 = .ok (.iload 4, 2) := by decide +kernel
theorem dX11_shoots_221 : decode cX11_shoots 221 = .ok (.ifCond .ne 7, 3) := by decide +kernel
theorem dX11_shoots_224 : decode cX11_shoots 224 = .ok (.iconst 1, 1) := by decide +kernel
theorem dX11_shoots_225 : decode cX11_shoots 225 = .ok (.goto 4, 3) := by decide +kernel
theorem dX11_shoots_228 : decode cX11_shoots 228 = .ok (.iconst 0, 1) := by decide +kernel
theorem dX11_shoots_229 : decode cX11_shoots 229 = .ok (.iadd, 1) := by decide +kernel
theorem dX11_shoots_230 : decode cX11_shoots 230 = .ok (.iastore, 1) := by decide +kernel
theorem dX11_shoots_231 : decode cX11_shoots 231 = .ok (.aload_n 0, 1) := by decide +kernel
theorem dX11_shoots_232 : decode cX11_shoots 232 = .ok (.aload_n 0, 1) := by decide +kernel
theorem dX11_shoots_233 : decode cX11_shoots 233 = .ok (.getfield 23, 3) := by decide +kernel
theorem dX11_shoots_236 : decode cX11_shoots 236 = .ok (.bipush 15, 2) := by decide +kernel
theorem dX11_shoots_238 : decode cX11_shoots 238 = .ok (.aload_n 1, 1) := by decide +kernel
theorem dX11_shoots_239 : decode cX11_shoots 239 = .ok (.iconst 2, 1) := by decide +kernel
theorem dX11_shoots_240 : decode cX11_shoots 240 = .ok (.iaload, 1) := by decide +kernel
theorem dX11_shoots_241 : decode cX11_shoots 241 = .ok (.iadd, 1) := by decide +kernel
theorem dX11_shoots_242 : decode cX11_shoots 242 = .ok (.iaload, 1) := by decide +kernel
theorem dX11_shoots_243 : decode cX11_shoots 243 = .ok (.invokevirtual 196, 3) := by decide +kernel
theorem dX11_shoots_246 : decode cX11_shoots 246 = .ok (.return_, 1) := by decide +kernel
theorem ggX11_underContract_X11_signs : GoodIn wsX11_underContract wsX11_signs := gW_in gwX11_signs (fun _ h => List.mem_cons_of_mem _ (List.mem_append_right _ (List.mem_append_right _ (List.mem_append_left _ h))))
set_option maxRecDepth 20000 in
theorem gX11_underContract_X11_signs : GoodIn wsX11_underContract (wsV RX11 183 RX11 yX11_signs wsX11_signs) := goodIn_app (goodIn_of _ (by decide +kernel)) ggX11_underContract_X11_signs
theorem ggX11_underContract_X11_pays : GoodIn wsX11_underContract wsX11_pays := gW_in gwX11_pays (fun _ h => List.mem_cons_of_mem _ (List.mem_append_right _ (List.mem_append_right _ (List.mem_append_right _ (List.mem_append_left _ h)))))
set_option maxRecDepth 20000 in
theorem gX11_underContract_X11_pays : GoodIn wsX11_underContract (wsV RX11 199 RX11 yX11_pays wsX11_pays) := goodIn_app (goodIn_of _ (by decide +kernel)) ggX11_underContract_X11_pays
theorem ggX11_underContract_X11_shoots : GoodIn wsX11_underContract wsX11_shoots := gW_in gwX11_shoots (fun _ h => List.mem_cons_of_mem _ (List.mem_append_right _ (List.mem_append_right _ (List.mem_append_right _ (List.mem_append_right _ (h))))))
set_option maxRecDepth 20000 in
theorem gX11_underContract_X11_shoots : GoodIn wsX11_underContract (wsV RX11 203 RX11 yX11_shoots wsX11_shoots) := goodIn_app (goodIn_of _ (by decide +kernel)) ggX11_underContract_X11_shoots
theorem dX11_underContract_0 : decode cX11_underContract 0 = .ok (.aload_n 0, 1) := by decide +kernel
theorem dX11_underContract_1 : decode cX11_underContract 1 = .ok (.getfield 40, 3) := by decide +kernel
theorem dX11_underContract_4 : decode cX11_underContract 4 = .ok (.aload_n 0, 1) := by decide +kernel
theorem dX11_underContract_5 : decode cX11_underContract 5 = .ok (.getfield 46, 3) := by decide +kernel
theorem dX11_underContract_8 : decode cX11_underContract 8 = .ok (.bipush 10, 2) := by decide +kernel
theorem dX11_underContract_10 : decode cX11_underContract 10 = .ok (.iaload, 1) := by decide +kernel
theorem dX11_underContract_11 : decode cX11_underContract 11 = .ok (.aaload, 1) := by decide +kernel
theorem dX11_underContract_12 : decode cX11_underContract 12 = .ok (.astore_n 1, 1) := by decide +kernel
theorem dX11_underContract_13 : decode cX11_underContract 13 = .ok (.aload_n 0, 1) := by decide +kernel
theorem dX11_underContract_14 : decode cX11_underContract 14 = .ok (.getfield 46, 3) := by decide +kernel
theorem dX11_underContract_17 : decode cX11_underContract 17 = .ok (.bipush 24, 2) := by decide +kernel
theorem dX11_underContract_19 : decode cX11_underContract 19 = .ok (.iaload, 1) := by decide +kernel
theorem dX11_underContract_20 : decode cX11_underContract 20 = .ok (.bipush 12, 2) := by decide +kernel
theorem dX11_underContract_22 : decode cX11_underContract 22 = .ok (.irem, 1) := by decide +kernel
theorem dX11_underContract_23 : decode cX11_underContract 23 = .ok (.istore_n 2, 1) := by decide +kernel
theorem dX11_underContract_24 : decode cX11_underContract 24 = .ok (.iload_n 2, 1) := by decide +kernel
theorem dX11_underContract_25 : decode cX11_underContract 25 = .ok (.bipush 9, 2) := by decide +kernel
theorem dX11_underContract_27 : decode cX11_underContract 27 = .ok (.if_icmp .gt 8, 3) := by decide +kernel
theorem dX11_underContract_30 : decode cX11_underContract 30 = .ok (.iload_n 2, 1) := by decide +kernel
theorem dX11_underContract_31 : decode cX11_underContract 31 = .ok (.iconst 2, 1) := by decide +kernel
theorem dX11_underContract_32 : decode cX11_underContract 32 = .ok (.if_icmp .ge 9, 3) := by decide +kernel
theorem dX11_underContract_35 : decode cX11_underContract 35 = .ok (.aload_n 1, 1) := by decide +kernel
theorem dX11_underContract_36 : decode cX11_underContract 36 = .ok (.iconst 1, 1) := by decide +kernel
theorem dX11_underContract_37 : decode cX11_underContract 37 = .ok (.iaload, 1) := by decide +kernel
theorem dX11_underContract_38 : decode cX11_underContract 38 = .ok (.goto 6, 3) := by decide +kernel
theorem dX11_underContract_41 : decode cX11_underContract 41 = .ok (.aload_n 1, 1) := by decide +kernel
theorem dX11_underContract_42 : decode cX11_underContract 42 = .ok (.iconst 0, 1) := by decide +kernel
theorem dX11_underContract_43 : decode cX11_underContract 43 = .ok (.iaload, 1) := by decide +kernel
theorem dX11_underContract_44 : decode cX11_underContract 44 = .ok (.istore_n 3, 1) := by decide +kernel
theorem dX11_underContract_45 : decode cX11_underContract 45 = .ok (.aload_n 0, 1) := by decide +kernel
theorem dX11_underContract_46 : decode cX11_underContract 46 = .ok (.getfield 46, 3) := by decide +kernel
theorem dX11_underContract_49 : decode cX11_underContract 49 = .ok (.iconst 0, 1) := by decide +kernel
theorem dX11_underContract_50 : decode cX11_underContract 50 = .ok (.iaload, 1) := by decide +kernel
theorem dX11_underContract_51 : decode cX11_underContract 51 = .ok (.iload_n 3, 1) := by decide +kernel
theorem dX11_underContract_52 : decode cX11_underContract 52 = .ok (.if_icmp .ge 20, 3) := by decide +kernel
theorem dX11_underContract_55 : decode cX11_underContract 55 = .ok (.aload_n 0, 1) := by decide +kernel
theorem dX11_underContract_56 : decode cX11_underContract 56 = .ok (.getfield 46, 3) := by decide +kernel
theorem dX11_underContract_59 : decode cX11_underContract 59 = .ok (.bipush 8, 2) := by decide +kernel
theorem dX11_underContract_61 : decode cX11_underContract 61 = .ok (.dup2, 1) := by decide +kernel
theorem dX11_underContract_62 : decode cX11_underContract 62 = .ok (.iaload, 1) := by decide +kernel
theorem dX11_underContract_63 : decode cX11_underContract 63 = .ok (.iconst 1, 1) := by decide +kernel
theorem dX11_underContract_64 : decode cX11_underContract 64 = .ok (.iadd, 1) := by decide +kernel
theorem dX11_underContract_65 : decode cX11_underContract 65 = .ok (.iastore, 1) := by decide +kernel
theorem dX11_underContract_66 : decode cX11_underContract 66 = .ok (.aload_n 0, 1) := by decide +kernel
theorem dX11_underContract_67 : decode cX11_underContract 67 = .ok (.iconst (-1), 1) := by decide +kernel
theorem dX11_underContract_68 : decode cX11_underContract 68 = .ok (.invokevirtual 183, 3) := by decide +kernel
theorem dX11_underContract_71 : decode cX11_underContract 71 = .ok (.return_, 1) := by decide +kernel
theorem dX11_underContract_72 : decode cX11_underContract 72 = .ok (.aload_n 0, 1) := by decide +kernel
theorem dX11_underContract_73 : decode cX11_underContract 73 = .ok (.iconst 0, 1) := by decide +kernel
theorem dX11_underContract_74 : decode cX11_underContract 74 = .ok (.iconst 1, 1) := by decide +kernel
theorem dX11_underContract_75 : decode cX11_underContract 75 = .ok (.iload_n 3, 1) := by decide +kernel
theorem dX11_underContract_76 : decode cX11_underContract 76 = .ok (.invokevirtual 199, 3) := by decide +kernel
theorem dX11_underContract_79 : decode cX11_underContract 79 = .ok (.aload_n 0, 1) := by decide +kernel
theorem dX11_underContract_80 : decode cX11_underContract 80 = .ok (.aload_n 1, 1) := by decide +kernel
theorem dX11_underContract_81 : decode cX11_underContract 81 = .ok (.aload_n 0, 1) := by decide +kernel
theorem dX11_underContract_82 : decode cX11_underContract 82 = .ok (.getfield 43, 3) := by decide +kernel
theorem dX11_underContract_85 : decode cX11_underContract 85 = .ok (.aload_n 0, 1) := by decide +kernel
theorem dX11_underContract_86 : decode cX11_underContract 86 = .ok (.getfield 46, 3) := by decide +kernel
theorem dX11_underContract_89 : decode cX11_underContract 89 = .ok (.bipush 10, 2) := by decide +kernel
theorem dX11_underContract_91 : decode cX11_underContract 91 = .ok (.iaload, 1) := by decide +kernel
theorem dX11_underContract_92 : decode cX11_underContract 92 = .ok (.aaload, 1) := by decide +kernel
theorem dX11_underContract_93 : decode cX11_underContract 93 = .ok (.invokevirtual 203, 3) := by decide +kernel
theorem dX11_underContract_96 : decode cX11_underContract 96 = .ok (.return_, 1) := by decide +kernel
theorem ggX11_mends_X11_less : GoodIn wsX11_mends wsX11_less := gW_in gwX11_less (fun _ h => List.mem_cons_of_mem _ (List.mem_append_right _ (List.mem_append_right _ (List.mem_append_left _ h))))
set_option maxRecDepth 20000 in
theorem gX11_mends_X11_less : GoodIn wsX11_mends (va_wsS RX11 186 yX11_less wsX11_less) := goodIn_app (goodIn_of _ (by decide +kernel)) ggX11_mends_X11_less
theorem ggX11_mends_X11_pays : GoodIn wsX11_mends wsX11_pays := gW_in gwX11_pays (fun _ h => List.mem_cons_of_mem _ (List.mem_append_right _ (List.mem_append_right _ (List.mem_append_right _ (h)))))
set_option maxRecDepth 20000 in
theorem gX11_mends_X11_pays : GoodIn wsX11_mends (wsV RX11 199 RX11 yX11_pays wsX11_pays) := goodIn_app (goodIn_of _ (by decide +kernel)) ggX11_mends_X11_pays
theorem dX11_mends_0 : decode cX11_mends 0 = .ok (.aload_n 0, 1) := by decide +kernel
theorem dX11_mends_1 : decode cX11_mends 1 = .ok (.getfield 23, 3) := by decide +kernel
theorem dX11_mends_4 : decode cX11_mends 4 = .ok (.bipush 12, 2) := by decide +kernel
theorem dX11_mends_6 : decode cX11_mends 6 = .ok (.iaload, 1) := by decide +kernel
theorem dX11_mends_7 : decode cX11_mends 7 = .ok (.istore_n 1, 1) := by decide +kernel
theorem dX11_mends_8 : decode cX11_mends 8 = .ok (.iconst 0, 1) := by decide +kernel
theorem dX11_mends_9 : decode cX11_mends 9 = .ok (.istore_n 2, 1) := by decide +kernel
theorem dX11_mends_10 : decode cX11_mends 10 = .ok (.iload_n 2, 1) := by decide +kernel
theorem dX11_mends_11 : decode cX11_mends 11 = .ok (.aload_n 0, 1) := by decide +kernel
theorem dX11_mends_12 : decode cX11_mends 12 = .ok (.getfield 23, 3) := by decide +kernel
theorem dX11_mends_15 : decode cX11_mends 15 = .ok (.iconst 0, 1) := by decide +kernel
theorem dX11_mends_16 : decode cX11_mends 16 = .ok (.iaload, 1) := by decide +kernel
theorem dX11_mends_17 : decode cX11_mends 17 = .ok (.if_icmp .ge 82, 3) := by decide +kernel
theorem dX11_mends_20 : decode cX11_mends 20 = .ok (.aload_n 0, 1) := by decide +kernel
theorem dX11_mends_21 : decode cX11_mends 21 = .ok (.getfield 31, 3) := by decide +kernel
theorem dX11_mends_24 : decode cX11_mends 24 = .ok (.iload_n 2, 1) := by decide +kernel
theorem dX11_mends_25 : decode cX11_mends 25 = .ok (.aaload, 1) := by decide +kernel
theorem dX11_mends_26 : decode cX11_mends 26 = .ok (.iconst 1, 1) := by decide +kernel
theorem dX11_mends_27 : decode cX11_mends 27 = .ok (.iaload, 1) := by decide +kernel
theorem dX11_mends_28 : decode cX11_mends 28 = .ok (.aload_n 0, 1) := by decide +kernel
theorem dX11_mends_29 : decode cX11_mends 29 = .ok (.getfield 31, 3) := by decide +kernel
theorem dX11_mends_32 : decode cX11_mends 32 = .ok (.iload_n 2, 1) := by decide +kernel
theorem dX11_mends_33 : decode cX11_mends 33 = .ok (.aaload, 1) := by decide +kernel
theorem dX11_mends_34 : decode cX11_mends 34 = .ok (.iconst 0, 1) := by decide +kernel
theorem dX11_mends_35 : decode cX11_mends 35 = .ok (.iaload, 1) := by decide +kernel
theorem dX11_mends_36 : decode cX11_mends 36 = .ok (.aload_n 0, 1) := by decide +kernel
theorem dX11_mends_37 : decode cX11_mends 37 = .ok (.getfield 46, 3) := by decide +kernel
theorem dX11_mends_40 : decode cX11_mends 40 = .ok (.bipush 12, 2) := by decide +kernel
theorem dX11_mends_42 : decode cX11_mends 42 = .ok (.iload_n 2, 1) := by decide +kernel
theorem dX11_mends_43 : decode cX11_mends 43 = .ok (.iadd, 1) := by decide +kernel
theorem dX11_mends_44 : decode cX11_mends 44 = .ok (.iaload, 1) := by decide +kernel
theorem dX11_mends_45 : decode cX11_mends 45 = .ok (.isub, 1) := by decide +kernel
theorem dX11_mends_46 : decode cX11_mends 46 = .ok (.invokestatic 186, 3) := by decide +kernel
theorem dX11_mends_49 : decode cX11_mends 49 = .ok (.istore_n 3, 1) := by decide +kernel
theorem dX11_mends_50 : decode cX11_mends 50 = .ok (.iload_n 1, 1) := by decide +kernel
theorem dX11_mends_51 : decode cX11_mends 51 = .ok (.ifCond .ne 7, 3) := by decide +kernel
theorem dX11_mends_54 : decode cX11_mends 54 = .ok (.iload_n 3, 1) := by decide +kernel
theorem dX11_mends_55 : decode cX11_mends 55 = .ok (.goto 15, 3) := by decide +kernel
theorem dX11_mends_58 : decode cX11_mends 58 = .ok (.iload_n 3, 1) := by decide +kernel
theorem dX11_mends_59 : decode cX11_mends 59 = .ok (.aload_n 0, 1) := by decide +kernel
theorem dX11_mends_60 : decode cX11_mends 60 = .ok (.getfield 46, 3) := by decide +kernel
theorem dX11_mends_63 : decode cX11_mends 63 = .ok (.iconst 0, 1) := by decide +kernel
theorem dX11_mends_64 : decode cX11_mends 64 = .ok (.iaload, 1) := by decide +kernel
theorem dX11_mends_65 : decode cX11_mends 65 = .ok (.iload_n 1, 1) := by decide +kernel
theorem dX11_mends_66 : decode cX11_mends 66 = .ok (.idiv, 1) := by decide +kernel
theorem dX11_mends_67 : decode cX11_mends 67 = .ok (.invokestatic 186, 3) := by decide +kernel
theorem dX11_mends_70 : decode cX11_mends 70 = .ok (.istore_n 3, 1) := by decide +kernel
theorem dX11_mends_71 : decode cX11_mends 71 = .ok (.aload_n 0, 1) := by decide +kernel
theorem dX11_mends_72 : decode cX11_mends 72 = .ok (.iconst 0, 1) := by decide +kernel
theorem dX11_mends_73 : decode cX11_mends 73 = .ok (.iconst 2, 1) := by decide +kernel
theorem dX11_mends_74 : decode cX11_mends 74 = .ok (.iload_n 1, 1) := by decide +kernel
theorem dX11_mends_75 : decode cX11_mends 75 = .ok (.iload_n 3, 1) := by decide +kernel
theorem dX11_mends_76 : decode cX11_mends 76 = .ok (.imul, 1) := by decide +kernel
theorem dX11_mends_77 : decode cX11_mends 77 = .ok (.invokevirtual 199, 3) := by decide +kernel
theorem dX11_mends_80 : decode cX11_mends 80 = .ok (.aload_n 0, 1) := by decide +kernel
theorem dX11_mends_81 : decode cX11_mends 81 = .ok (.getfield 46, 3) := by decide +kernel
theorem dX11_mends_84 : decode cX11_mends 84 = .ok (.bipush 12, 2) := by decide +kernel
theorem dX11_mends_86 : decode cX11_mends 86 = .ok (.iload_n 2, 1) := by decide +kernel
theorem dX11_mends_87 : decode cX11_mends 87 = .ok (.iadd, 1) := by decide +kernel
theorem dX11_mends_88 : decode cX11_mends 88 = .ok (.dup2, 1) := by decide +kernel
theorem dX11_mends_89 : decode cX11_mends 89 = .ok (.iaload, 1) := by decide +kernel
theorem dX11_mends_90 : decode cX11_mends 90 = .ok (.iload_n 3, 1) := by decide +kernel
theorem dX11_mends_91 : decode cX11_mends 91 = .ok (.iadd, 1) := by decide +kernel
theorem dX11_mends_92 : decode cX11_mends 92 = .ok (.iastore, 1) := by decide +kernel
theorem dX11_mends_93 : decode cX11_mends 93 = .ok (.iinc 2 1, 3) := by decide +kernel
theorem dX11_mends_96 : decode cX11_mends 96 = .ok (.goto (-86), 3) := by decide +kernel
theorem dX11_mends_99 : decode cX11_mends 99 = .ok (.return_, 1) := by decide +kernel
theorem ggX11_monthGoes_X11_pays : GoodIn wsX11_monthGoes wsX11_pays := gW_in gwX11_pays (fun _ h => List.mem_cons_of_mem _ (List.mem_append_right _ (List.mem_append_right _ (List.mem_append_left _ h))))
set_option maxRecDepth 20000 in
theorem gX11_monthGoes_X11_pays : GoodIn wsX11_monthGoes (wsV RX11 199 RX11 yX11_pays wsX11_pays) := goodIn_app (goodIn_of _ (by decide +kernel)) ggX11_monthGoes_X11_pays
theorem ggX11_monthGoes_X11_underContract : GoodIn wsX11_monthGoes wsX11_underContract := gW_in gwX11_underContract (fun _ h => List.mem_cons_of_mem _ (List.mem_append_right _ (List.mem_append_right _ (List.mem_append_right _ (List.mem_append_left _ h)))))
set_option maxRecDepth 20000 in
theorem gX11_monthGoes_X11_underContract : GoodIn wsX11_monthGoes (wsV RX11 207 RX11 yX11_underContract wsX11_underContract) := goodIn_app (goodIn_of _ (by decide +kernel)) ggX11_monthGoes_X11_underContract
theorem ggX11_monthGoes_X11_mends : GoodIn wsX11_monthGoes wsX11_mends := gW_in gwX11_mends (fun _ h => List.mem_cons_of_mem _ (List.mem_append_right _ (List.mem_append_right _ (List.mem_append_right _ (List.mem_append_right _ (List.mem_append_left _ h))))))
set_option maxRecDepth 20000 in
theorem gX11_monthGoes_X11_mends : GoodIn wsX11_monthGoes (wsV RX11 210 RX11 yX11_mends wsX11_mends) := goodIn_app (goodIn_of _ (by decide +kernel)) ggX11_monthGoes_X11_mends
theorem ggX11_monthGoes_X11_deserts : GoodIn wsX11_monthGoes wsX11_deserts := gW_in gwX11_deserts (fun _ h => List.mem_cons_of_mem _ (List.mem_append_right _ (List.mem_append_right _ (List.mem_append_right _ (List.mem_append_right _ (List.mem_append_right _ (List.mem_append_left _ h)))))))
set_option maxRecDepth 20000 in
theorem gX11_monthGoes_X11_deserts : GoodIn wsX11_monthGoes (wsV RX11 213 RX11 yX11_deserts wsX11_deserts) := goodIn_app (goodIn_of _ (by decide +kernel)) ggX11_monthGoes_X11_deserts
theorem ggX11_monthGoes_X11_signs : GoodIn wsX11_monthGoes wsX11_signs := gW_in gwX11_signs (fun _ h => List.mem_cons_of_mem _ (List.mem_append_right _ (List.mem_append_right _ (List.mem_append_right _ (List.mem_append_right _ (List.mem_append_right _ (List.mem_append_right _ (h))))))))
set_option maxRecDepth 20000 in
theorem gX11_monthGoes_X11_signs : GoodIn wsX11_monthGoes (wsV RX11 183 RX11 yX11_signs wsX11_signs) := goodIn_app (goodIn_of _ (by decide +kernel)) ggX11_monthGoes_X11_signs
theorem dX11_monthGoes_0 : decode cX11_monthGoes 0 = .ok (.aload_n 0, 1) := by decide +kernel
theorem dX11_monthGoes_1 : decode cX11_monthGoes 1 = .ok (.iconst 2, 1) := by decide +kernel
theorem dX11_monthGoes_2 : decode cX11_monthGoes 2 = .ok (.iconst 0, 1) := by decide +kernel
theorem dX11_monthGoes_3 : decode cX11_monthGoes 3 = .ok (.aload_n 0, 1) := by decide +kernel
theorem dX11_monthGoes_4 : decode cX11_monthGoes 4 = .ok (.getfield 46, 3) := by decide +kernel
theorem dX11_monthGoes_7 : decode cX11_monthGoes 7 = .ok (.iconst 3, 1) := by decide +kernel
theorem dX11_monthGoes_8 : decode cX11_monthGoes 8 = .ok (.iaload, 1) := by decide +kernel
theorem dX11_monthGoes_9 : decode cX11_monthGoes 9 = .ok (.aload_n 0, 1) := by decide +kernel
theorem dX11_monthGoes_10 : decode cX11_monthGoes 10 = .ok (.getfield 23, 3) := by decide +kernel
theorem dX11_monthGoes_13 : decode cX11_monthGoes 13 = .ok (.bipush 8, 2) := by decide +kernel
theorem dX11_monthGoes_15 : decode cX11_monthGoes 15 = .ok (.iaload, 1) := by decide +kernel
theorem dX11_monthGoes_16 : decode cX11_monthGoes 16 = .ok (.imul, 1) := by decide +kernel
theorem dX11_monthGoes_17 : decode cX11_monthGoes 17 = .ok (.aload_n 0, 1) := by decide +kernel
theorem dX11_monthGoes_18 : decode cX11_monthGoes 18 = .ok (.getfield 46, 3) := by decide +kernel
theorem dX11_monthGoes_21 : decode cX11_monthGoes 21 = .ok (.iconst 5, 1) := by decide +kernel
theorem dX11_monthGoes_22 : decode cX11_monthGoes 22 = .ok (.iaload, 1) := by decide +kernel
theorem dX11_monthGoes_23 : decode cX11_monthGoes 23 = .ok (.imul, 1) := by decide +kernel
theorem dX11_monthGoes_24 : decode cX11_monthGoes 24 = .ok (.sipush 10000, 3) := by decide +kernel
theorem dX11_monthGoes_27 : decode cX11_monthGoes 27 = .ok (.idiv, 1) := by decide +kernel
theorem dX11_monthGoes_28 : decode cX11_monthGoes 28 = .ok (.invokevirtual 199, 3) := by decide +kernel
theorem dX11_monthGoes_31 : decode cX11_monthGoes 31 = .ok (.aload_n 0, 1) := by decide +kernel
theorem dX11_monthGoes_32 : decode cX11_monthGoes 32 = .ok (.getfield 46, 3) := by decide +kernel
theorem dX11_monthGoes_35 : decode cX11_monthGoes 35 = .ok (.bipush 10, 2) := by decide +kernel
theorem dX11_monthGoes_37 : decode cX11_monthGoes 37 = .ok (.iaload, 1) := by decide +kernel
theorem dX11_monthGoes_38 : decode cX11_monthGoes 38 = .ok (.iconst (-1), 1) := by decide +kernel
theorem dX11_monthGoes_39 : decode cX11_monthGoes 39 = .ok (.if_icmp .eq 7, 3) := by decide +kernel
theorem dX11_monthGoes_42 : decode cX11_monthGoes 42 = .ok (.aload_n 0, 1) := by decide +kernel
theorem dX11_monthGoes_43 : decode cX11_monthGoes 43 = .ok (.invokevirtual 207, 3) := by decide +kernel
theorem dX11_monthGoes_46 : decode cX11_monthGoes 46 = .ok (.aload_n 0, 1) := by decide +kernel
theorem dX11_monthGoes_47 : decode cX11_monthGoes 47 = .ok (.getfield 46, 3) := by decide +kernel
theorem dX11_monthGoes_50 : decode cX11_monthGoes 50 = .ok (.iconst 5, 1) := by decide +kernel
theorem dX11_monthGoes_51 : decode cX11_monthGoes 51 = .ok (.aload_n 0, 1) := by decide +kernel
theorem dX11_monthGoes_52 : decode cX11_monthGoes 52 = .ok (.getfield 46, 3) := by decide +kernel
theorem dX11_monthGoes_55 : decode cX11_monthGoes 55 = .ok (.iconst 5, 1) := by decide +kernel
theorem dX11_monthGoes_56 : decode cX11_monthGoes 56 = .ok (.iaload, 1) := by decide +kernel
theorem dX11_monthGoes_57 : decode cX11_monthGoes 57 = .ok (.aload_n 0, 1) := by decide +kernel
theorem dX11_monthGoes_58 : decode cX11_monthGoes 58 = .ok (.getfield 23, 3) := by decide +kernel
theorem dX11_monthGoes_61 : decode cX11_monthGoes 61 = .ok (.bipush 11, 2) := by decide +kernel
theorem dX11_monthGoes_63 : decode cX11_monthGoes 63 = .ok (.iaload, 1) := by decide +kernel
theorem dX11_monthGoes_64 : decode cX11_monthGoes 64 = .ok (.if_icmp .ge 7, 3) := by decide +kernel
theorem dX11_monthGoes_67 : decode cX11_monthGoes 67 = .ok (.iconst 0, 1) := by decide +kernel
theorem dX11_monthGoes_68 : decode cX11_monthGoes 68 = .ok (.goto 17, 3) := by decide +kernel
theorem dX11_monthGoes_71 : decode cX11_monthGoes 71 = .ok (.aload_n 0, 1) := by decide +kernel
theorem dX11_monthGoes_72 : decode cX11_monthGoes 72 = .ok (.getfield 46, 3) := by decide +kernel
theorem dX11_monthGoes_75 : decode cX11_monthGoes 75 = .ok (.iconst 5, 1) := by decide +kernel
theorem dX11_monthGoes_76 : decode cX11_monthGoes 76 = .ok (.iaload, 1) := by decide +kernel
theorem dX11_monthGoes_77 : decode cX11_monthGoes 77 = .ok (.aload_n 0, 1) := by decide +kernel
theorem dX11_monthGoes_78 : decode cX11_monthGoes 78 = .ok (.getfield 23, 3) := by decide +kernel
theorem dX11_monthGoes_81 : decode cX11_monthGoes 81 = .ok (.bipush 11, 2) := by decide +kernel
theorem dX11_monthGoes_83 : decode cX11_monthGoes 83 = .ok (.iaload, 1) := by decide +kernel
theorem dX11_monthGoes_84 : decode cX11_monthGoes 84 = .ok (.isub, 1) := by decide +kernel
theorem dX11_monthGoes_85 : decode cX11_monthGoes 85 = .ok (.iastore, 1) := by decide +kernel
theorem dX11_monthGoes_86 : decode cX11_monthGoes 86 = .ok (.aload_n 0, 1) := by decide +kernel
theorem dX11_monthGoes_87 : decode cX11_monthGoes 87 = .ok (.invokevirtual 210, 3) := by decide +kernel
theorem dX11_monthGoes_90 : decode cX11_monthGoes 90 = .ok (.aload_n 0, 1) := by decide +kernel
theorem dX11_monthGoes_91 : decode cX11_monthGoes 91 = .ok (.iconst 0, 1) := by decide +kernel
theorem dX11_monthGoes_92 : decode cX11_monthGoes 92 = .ok (.iconst 2, 1) := by decide +kernel
theorem dX11_monthGoes_93 : decode cX11_monthGoes 93 = .ok (.aload_n 0, 1) := by decide +kernel
theorem dX11_monthGoes_94 : decode cX11_monthGoes 94 = .ok (.getfield 46, 3) := by decide +kernel
theorem dX11_monthGoes_97 : decode cX11_monthGoes 97 = .ok (.iconst 3, 1) := by decide +kernel
theorem dX11_monthGoes_98 : decode cX11_monthGoes 98 = .ok (.iaload, 1) := by decide +kernel
theorem dX11_monthGoes_99 : decode cX11_monthGoes 99 = .ok (.bipush 10, 2) := by decide +kernel
theorem dX11_monthGoes_101 : decode cX11_monthGoes 101 = .ok (.idiv, 1) := by decide +kernel
theorem dX11_monthGoes_102 : decode cX11_monthGoes 102 = .ok (.aload_n 0, 1) := by decide +kernel
theorem dX11_monthGoes_103 : decode cX11_monthGoes 103 = .ok (.getfield 23, 3) := by decide +kernel
theorem dX11_monthGoes_106 : decode cX11_monthGoes 106 = .ok (.iconst 3, 1) := by decide +kernel
theorem dX11_monthGoes_107 : decode cX11_monthGoes 107 = .ok (.iaload, 1) := by decide +kernel
theorem dX11_monthGoes_108 : decode cX11_monthGoes 108 = .ok (.imul, 1) := by decide +kernel
theorem dX11_monthGoes_109 : decode cX11_monthGoes 109 = .ok (.invokevirtual 199, 3) := by decide +kernel
theorem dX11_monthGoes_112 : decode cX11_monthGoes 112 = .ok (.aload_n 0, 1) := by decide +kernel
theorem dX11_monthGoes_113 : decode cX11_monthGoes 113 = .ok (.iconst 1, 1) := by decide +kernel
theorem dX11_monthGoes_114 : decode cX11_monthGoes 114 = .ok (.iconst 2, 1) := by decide +kernel
theorem dX11_monthGoes_115 : decode cX11_monthGoes 115 = .ok (.aload_n 0, 1) := by decide +kernel
theorem dX11_monthGoes_116 : decode cX11_monthGoes 116 = .ok (.getfield 46, 3) := by decide +kernel
theorem dX11_monthGoes_119 : decode cX11_monthGoes 119 = .ok (.iconst 4, 1) := by decide +kernel
theorem dX11_monthGoes_120 : decode cX11_monthGoes 120 = .ok (.iaload, 1) := by decide +kernel
theorem dX11_monthGoes_121 : decode cX11_monthGoes 121 = .ok (.bipush 10, 2) := by decide +kernel
theorem dX11_monthGoes_123 : decode cX11_monthGoes 123 = .ok (.idiv, 1) := by decide +kernel
theorem dX11_monthGoes_124 : decode cX11_monthGoes 124 = .ok (.aload_n 0, 1) := by decide +kernel
theorem dX11_monthGoes_125 : decode cX11_monthGoes 125 = .ok (.getfield 23, 3) := by decide +kernel
theorem dX11_monthGoes_128 : decode cX11_monthGoes 128 = .ok (.bipush 6, 2) := by decide +kernel
theorem dX11_monthGoes_130 : decode cX11_monthGoes 130 = .ok (.iaload, 1) := by decide +kernel
theorem dX11_monthGoes_131 : decode cX11_monthGoes 131 = .ok (.imul, 1) := by decide +kernel
theorem dX11_monthGoes_132 : decode cX11_monthGoes 132 = .ok (.invokevirtual 199, 3) := by decide +kernel
theorem dX11_monthGoes_135 : decode cX11_monthGoes 135 = .ok (.aload_n 0, 1) := by decide +kernel
theorem dX11_monthGoes_136 : decode cX11_monthGoes 136 = .ok (.invokevirtual 213, 3) := by decide +kernel
theorem dX11_monthGoes_139 : decode cX11_monthGoes 139 = .ok (.aload_n 0, 1) := by decide +kernel
theorem dX11_monthGoes_140 : decode cX11_monthGoes 140 = .ok (.getfield 46, 3) := by decide +kernel
