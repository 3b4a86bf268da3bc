set_option maxHeartbeats 8000000 in
set_option maxRecDepth 100000 in
theorem lc_feed {p : Program} {e : Env} {s : State} {m : MethodId} {below : List Frame} {meth : Method} {c : Code} {Q : State → Prop} (l : Launch) (hlt : l.stackTraces = false) (g : he_G) {b Ln : Nat} {xs : Nat → Int32} (C0 : lw_C p s m meth c b Ln xs g) (i : Nat) (hi : i + 6 ≤ Ln) (hL : Ln ≤ 3072) (x0 m0 o0 : Nat) (S : AbS) (t : Int32) (fo : Nat → Int64) (W9 : va_W) (hOk : okS S) (hI : IL g x0 m0 o0 S S t fo W9) {H : Heap} {locs : List Loc} {ls : Array Slot} (hP : va_P g.1 vwCl W9 H) (hD : va_D (lw_A s) W9) (hS : va_S (lw_A s) s.heap H locs) (hl : lv_has ls 8 [(0, .ref b), (1, .ref x0), (2, .ref m0), (3, .ref o0), (4, .int (nI i))]) (kk : ∀ (S2 : AbS) (t2 : Int32) (fo2 : Nat → Int64) (W2 : va_W) (H2 : Heap) (locs2 : List Loc) (ls2 : Array Slot), okS S2 → IL g x0 m0 o0 S2 S2 t2 fo2 W2 → va_P g.1 vwCl W2 H2 → va_D (lw_A s) W2 → va_S (lw_A s) s.heap H2 locs2 → lv_has ls2 8 [(0, .ref b), (1, .ref x0), (2, .ref m0), (3, .ref o0), (4, .int (nI i))] → W p l e room_1 s m #[Value.ref b] below meth c H2 locs2 (1000 + 4 * (i + 6)) (100000 + 700 * (i + 6)) Q (F0 m 1341 ls2 [])) : W p l e room_1 s m #[Value.ref b] below meth c H locs (1000 + 4 * i) (100000 + 700 * i) Q (F0 m 188 ls []) := by
  obtain ⟨hx, hb, hr, hml, hown, hts, hX, hbl, hlk, hK, hE, hA, hbA, hNc⟩ := C0
  obtain ⟨fx, fm, Rc, Rm, rfl, hc, hm⟩ := hI
  refine lv_aload_n hx hb dL_law_188 rfl (lv_at hl 1 rfl) ?_
  refine lv_aload_n hx hb dL_law_189 rfl (lv_at hl 0 rfl) ?_
  refine lv_iload hx hb dL_law_190 (lv_at hl 4 rfl) ?_
  refine lv_iconst (v := 1) hx hb dL_law_192 (by decide) ?_
  refine lv_iadd hx hb dL_law_193 ?_
  refine he_top (nI (i + 1)) (nI_add i 1) ?_
  refine he_sld hx hb hX hbl hbA hS (i + 1) rfl (by omega) (by omega) (xs (i + 1)) rfl dL_law_194 ?_
  refine lv_aload_n hx hb dL_law_195 rfl (lv_at hl 0 rfl) ?_
  refine lv_iload hx hb dL_law_196 (lv_at hl 4 rfl) ?_
  refine lv_iconst (v := 2) hx hb dL_law_198 (by decide) ?_
  refine lv_iadd hx hb dL_law_199 ?_
  refine he_top (nI (i + 2)) (nI_add i 2) ?_
  refine he_sld hx hb hX hbl hbA hS (i + 2) rfl (by omega) (by omega) (xs (i + 2)) rfl dL_law_200 ?_
  refine lv_aload_n hx hb dL_law_201 rfl (lv_at hl 0 rfl) ?_
  refine lv_iload hx hb dL_law_202 (lv_at hl 4 rfl) ?_
  refine lv_iconst (v := 3) hx hb dL_law_204 (by decide) ?_
  refine lv_iadd hx hb dL_law_205 ?_
  refine he_top (nI (i + 3)) (nI_add i 3) ?_
  refine he_sld hx hb hX hbl hbA hS (i + 3) rfl (by omega) (by omega) (xs (i + 3)) rfl dL_law_206 ?_
  refine lv_aload_n hx hb dL_law_207 rfl (lv_at hl 0 rfl) ?_
  refine lv_iload hx hb dL_law_208 (lv_at hl 4 rfl) ?_
  refine lv_iconst (v := 4) hx hb dL_law_210 (by decide) ?_
  refine lv_iadd hx hb dL_law_211 ?_
  refine he_top (nI (i + 4)) (nI_add i 4) ?_
  refine he_sld hx hb hX hbl hbA hS (i + 4) rfl (by omega) (by omega) (xs (i + 4)) rfl dL_law_212 ?_
  refine lv_aload_n hx hb dL_law_213 rfl (lv_at hl 0 rfl) ?_
  refine lv_iload hx hb dL_law_214 (lv_at hl 4 rfl) ?_
  refine lv_iconst (v := 5) hx hb dL_law_216 (by decide) ?_
  refine lv_iadd hx hb dL_law_217 ?_
  refine he_top (nI (i + 5)) (nI_add i 5) ?_
  refine he_sld hx hb hX hbl hbA hS (i + 5) rfl (by omega) (by omega) (xs (i + 5)) rfl dL_law_218 ?_
  refine he_ci (wc := ([(x0, .inr (9, fx)), (m0, .inr (10, fm)), (aL g o0 1 fo)] ++ (Rc ++ Rm))) (wr := []) (va_runV (As := [.int (xs (i + 1)), .int (xs (i + 2)), .int (xs (i + 3)), .int (xs (i + 4)), .int (xs (i + 5))]) (rest := []) ⟨hx, hb, hml, hown, hts⟩ (il_cI (k_feed l hlt g x0 S _ (xs (i + 1)) (xs (i + 2)) (xs (i + 3)) (xs (i + 4)) (xs (i + 5)) hc) hm H.size) (cwV 5 hts gL_law_X10_feed rfl rfl rfl (by decide +kernel) ⟨Nat.le_of_ble_eq_true rfl, Nat.le_of_ble_eq_true rfl⟩) (he_preV (wc := ([(x0, .inr (9, fx)), (m0, .inr (10, fm)), (aL g o0 1 fo)] ++ (Rc ++ Rm))) hK hP hD hS hA hE (List.range (([(x0, .inr (9, fx)), (m0, .inr (10, fm)), (aL g o0 1 fo)] ++ (Rc ++ Rm)) : va_W).length) (he_all _) (he_allnd _) 0 rfl rfl) rfl rfl hl.1 rfl (lv_room (Nat.le_of_ble_eq_true rfl)) dL_law_219 ⟨(by show 1000 + 4 * i + 0 ≤ 601024; omega), (by show 100000 + 700 * i + 0 ≤ 7293034; omega)⟩) hP hD hS hA (List.range (([(x0, .inr (9, fx)), (m0, .inr (10, fm)), (aL g o0 1 fo)] ++ (Rc ++ Rm)) : va_W).length) [] (he_all _) rfl rfl (fun _ h9 => absurd h9 List.not_mem_nil) (fun r_1 u_2 H locs hu_3 hP hD hS => ?_)
  obtain ⟨hI9, hp219⟩ := hu_3
  obtain ⟨fx_q_4, fm_q_4, Rc_q_4, Rm_q_4, rfl, hc, hm⟩ := hI9
  have hP : va_P g.1 vwCl ([(x0, .inr (9, fx_q_4)), (m0, .inr (10, fm_q_4)), (aL g o0 1 fo)] ++ (Rc_q_4 ++ Rm_q_4)) H := hP
  have hD : va_D (lw_A s) ([(x0, .inr (9, fx_q_4)), (m0, .inr (10, fm_q_4)), (aL g o0 1 fo)] ++ (Rc_q_4 ++ Rm_q_4)) := hD
  refine lv_pop hx hb dL_law_222 rfl ?_
  refine lv_aload_n hx hb dL_law_223 rfl (lv_at hl 2 rfl) ?_
  refine lv_aload_n hx hb dL_law_224 rfl (lv_at hl 0 rfl) ?_
  refine lv_iload hx hb dL_law_225 (lv_at hl 4 rfl) ?_
  refine lv_iconst (v := 1) hx hb dL_law_227 (by decide) ?_
  refine lv_iadd hx hb dL_law_228 ?_
  refine he_top (nI (i + 1)) (nI_add i 1) ?_
  refine he_sld hx hb hX hbl hbA hS (i + 1) rfl (by omega) (by omega) (xs (i + 1)) rfl dL_law_229 ?_
  refine lv_aload_n hx hb dL_law_230 rfl (lv_at hl 0 rfl) ?_
  refine lv_iload hx hb dL_law_231 (lv_at hl 4 rfl) ?_
  refine lv_iconst (v := 2) hx hb dL_law_233 (by decide) ?_
  refine lv_iadd hx hb dL_law_234 ?_
  refine he_top (nI (i + 2)) (nI_add i 2) ?_
  refine he_sld hx hb hX hbl hbA hS (i + 2) rfl (by omega) (by omega) (xs (i + 2)) rfl dL_law_235 ?_
  refine lv_aload_n hx hb dL_law_236 rfl (lv_at hl 0 rfl) ?_
  refine lv_iload hx hb dL_law_237 (lv_at hl 4 rfl) ?_
  refine lv_iconst (v := 3) hx hb dL_law_239 (by decide) ?_
  refine lv_iadd hx hb dL_law_240 ?_
  refine he_top (nI (i + 3)) (nI_add i 3) ?_
  refine he_sld hx hb hX hbl hbA hS (i + 3) rfl (by omega) (by omega) (xs (i + 3)) rfl dL_law_241 ?_
  refine lv_aload_n hx hb dL_law_242 rfl (lv_at hl 0 rfl) ?_
  refine lv_iload hx hb dL_law_243 (lv_at hl 4 rfl) ?_
  refine lv_iconst (v := 4) hx hb dL_law_245 (by decide) ?_
  refine lv_iadd hx hb dL_law_246 ?_
  refine he_top (nI (i + 4)) (nI_add i 4) ?_
  refine he_sld hx hb hX hbl hbA hS (i + 4) rfl (by omega) (by omega) (xs (i + 4)) rfl dL_law_247 ?_
  refine lv_aload_n hx hb dL_law_248 rfl (lv_at hl 0 rfl) ?_
  refine lv_iload hx hb dL_law_249 (lv_at hl 4 rfl) ?_
  refine lv_iconst (v := 5) hx hb dL_law_251 (by decide) ?_
  refine lv_iadd hx hb dL_law_252 ?_
  refine he_top (nI (i + 5)) (nI_add i 5) ?_
  refine he_sld hx hb hX hbl hbA hS (i + 5) rfl (by omega) (by omega) (xs (i + 5)) rfl dL_law_253 ?_
  refine he_ci (wc := ([(x0, .inr (9, fx_q_4)), (m0, .inr (10, fm_q_4)), (aL g o0 1 fo)] ++ (Rc_q_4 ++ Rm_q_4))) (wr := []) (va_runV (As := [.int (xs (i + 1)), .int (xs (i + 2)), .int (xs (i + 3)), .int (xs (i + 4)), .int (xs (i + 5))]) (rest := []) ⟨hx, hb, hml, hown, hts⟩ (il_mI (j_feed l g m0 S t _ (xs (i + 1)) (xs (i + 2)) (xs (i + 3)) (xs (i + 4)) (xs (i + 5)) hm) hc H.size) (cwV 5 hts gL_law_X11_feed rfl rfl rfl (by decide +kernel) ⟨Nat.le_of_ble_eq_true rfl, Nat.le_of_ble_eq_true rfl⟩) (he_preV (wc := ([(x0, .inr (9, fx_q_4)), (m0, .inr (10, fm_q_4)), (aL g o0 1 fo)] ++ (Rc_q_4 ++ Rm_q_4))) hK hP hD hS hA hE (List.range (([(x0, .inr (9, fx_q_4)), (m0, .inr (10, fm_q_4)), (aL g o0 1 fo)] ++ (Rc_q_4 ++ Rm_q_4)) : va_W).length) (he_all _) (he_allnd _) 1 rfl rfl) rfl rfl hl.1 rfl (lv_room (Nat.le_of_ble_eq_true rfl)) dL_law_254 ⟨(by show 1000 + 4 * i + 0 + 0 ≤ 601024; omega), (by show 100000 + 700 * i + 0 + 0 ≤ 7293034; omega)⟩) hP hD hS hA (List.range (([(x0, .inr (9, fx_q_4)), (m0, .inr (10, fm_q_4)), (aL g o0 1 fo)] ++ (Rc_q_4 ++ Rm_q_4)) : va_W).length) [] (he_all _) rfl rfl (fun _ h9 => absurd h9 List.not_mem_nil) (fun r_5 u_6 H locs hu_7 hP hD hS => ?_)
  obtain ⟨t_254, hI9, ht254, hm254⟩ := hu_7
  obtain ⟨fx_q_8, fm_q_8, Rc_q_8, Rm_q_8, rfl, hc, hm⟩ := hI9
  have hP : va_P g.1 vwCl ([(x0, .inr (9, fx_q_8)), (m0, .inr (10, fm_q_8)), (aL g o0 1 fo)] ++ (Rc_q_8 ++ Rm_q_8)) H := hP
  have hD : va_D (lw_A s) ([(x0, .inr (9, fx_q_8)), (m0, .inr (10, fm_q_8)), (aL g o0 1 fo)] ++ (Rc_q_8 ++ Rm_q_8)) := hD
  refine lv_pop hx hb dL_law_257 rfl ?_
  refine lv_goto (tgt := 1341) hx hb dL_law_258 (by decide) ?_
  refine W.widen (k := 1000 + 4 * (i + 6)) (n := 100000 + 700 * (i + 6)) (by show 1000 + 4 * i + 0 + 0 ≤ 1000 + 4 * (i + 6); omega) (by show 100000 + 700 * i + 0 + 0 ≤ 100000 + 700 * (i + 6); omega) ?_
  exact kk ((sp_feed S (xs (i + 1)) (xs (i + 2)) (xs (i + 3)) (xs (i + 4)) (xs (i + 5))).2.2) t_254 fo _ H locs ls (ok_feed _ _ _ _ _ hOk) ⟨_, _, _, _, rfl, hc, hm⟩ hP hD hS (lv_sub hl [0, 1, 2, 3, 4] rfl)
set_option maxHeartbeats 8000000 in
set_option maxRecDepth 100000 in
theorem lc_siege {p : Program} {e : Env} {s : State} {m : MethodId} {below : List Frame} {meth : Method} {c : Code} {Q : State → Prop} (l : Launch) (hlt : l.stackTraces = false) (g : he_G) {b Ln : Nat} {xs : Nat → Int32} (C0 : lw_C p s m meth c b Ln xs g) (i : Nat) (hi : i + 6 ≤ Ln) (hL : Ln ≤ 3072) (x0 m0 o0 : Nat) (S : AbS) (t : Int32) (fo : Nat → Int64) (W9 : va_W) (hOk : okS S) (hI : IL g x0 m0 o0 S S t fo W9) {H : Heap} {locs : List Loc} {ls : Array Slot} (hP : va_P g.1 vwCl W9 H) (hD : va_D (lw_A s) W9) (hS : va_S (lw_A s) s.heap H locs) (hl : lv_has ls 8 [(0, .ref b), (1, .ref x0), (2, .ref m0), (3, .ref o0), (4, .int (nI i))]) (kk : ∀ (S2 : AbS) (t2 : Int32) (fo2 : Nat → Int64) (W2 : va_W) (H2 : Heap) (locs2 : List Loc) (ls2 : Array Slot), okS S2 → IL g x0 m0 o0 S2 S2 t2 fo2 W2 → va_P g.1 vwCl W2 H2 → va_D (lw_A s) W2 → va_S (lw_A s) s.heap H2 locs2 → lv_has ls2 8 [(0, .ref b), (1, .ref x0), (2, .ref m0), (3, .ref o0), (4, .int (nI i))] → W p l e room_1 s m #[Value.ref b] below meth c H2 locs2 (1000 + 4 * (i + 6)) (100000 + 700 * (i + 6)) Q (F0 m 1341 ls2 [])) : W p l e room_1 s m #[Value.ref b] below meth c H locs (1000 + 4 * i) (100000 + 700 * i) Q (F0 m 261 ls []) := by
  obtain ⟨hx, hb, hr, hml, hown, hts, hX, hbl, hlk, hK, hE, hA, hbA, hNc⟩ := C0
  obtain ⟨fx, fm, Rc, Rm, rfl, hc, hm⟩ := hI
  refine lv_aload_n hx hb dL_law_261 rfl (lv_at hl 1 rfl) ?_
  refine lv_aload_n hx hb dL_law_262 rfl (lv_at hl 0 rfl) ?_
  refine lv_iload hx hb dL_law_263 (lv_at hl 4 rfl) ?_
  refine lv_iconst (v := 1) hx hb dL_law_265 (by decide) ?_
  refine lv_iadd hx hb dL_law_266 ?_
  refine he_top (nI (i + 1)) (nI_add i 1) ?_
  refine he_sld hx hb hX hbl hbA hS (i + 1) rfl (by omega) (by omega) (xs (i + 1)) rfl dL_law_267 ?_
  refine lv_aload_n hx hb dL_law_268 rfl (lv_at hl 3 rfl) ?_
  refine he_ci (wc := ([(x0, .inr (9, fx)), (m0, .inr (10, fm)), (aL g o0 1 fo)] ++ (Rc ++ Rm))) (wr := []) (vx_runSW (As := [.ref x0, .int (xs (i + 1)), .ref o0]) (rest := []) ⟨hx, hb, hml, hown, hts⟩ (w_siege l hlt g x0 m0 o0 S S t fo _ (xs (i + 1)) ⟨_, _, _, _, rfl, hc, hm⟩ H.size) (vx_cwSW 3 hts gL_law_L_siege rfl rfl rfl (by decide +kernel) ⟨Nat.le_of_ble_eq_true rfl, Nat.le_of_ble_eq_true rfl⟩) (he_preS (wc := ([(x0, .inr (9, fx)), (m0, .inr (10, fm)), (aL g o0 1 fo)] ++ (Rc ++ Rm))) hK hP hD hS hA hE (List.range (([(x0, .inr (9, fx)), (m0, .inr (10, fm)), (aL g o0 1 fo)] ++ (Rc ++ Rm)) : va_W).length) (he_all _) (he_allnd _)) rfl rfl hl.1 rfl (lv_room (Nat.le_of_ble_eq_true rfl)) dL_law_269 ⟨(by show 1000 + 4 * i + 1 ≤ 601024; omega), (by show 100000 + 700 * i + 6 ≤ 7293034; omega)⟩) hP hD hS hA (List.range (([(x0, .inr (9, fx)), (m0, .inr (10, fm)), (aL g o0 1 fo)] ++ (Rc ++ Rm)) : va_W).length) [] (he_all _) rfl rfl (fun _ h9 => absurd h9 List.not_mem_nil) (fun r_1 u_2 H locs hu_3 hP hD hS => ?_)
  obtain ⟨fo_269, hI9, hr269, ho269⟩ := hu_3
  obtain ⟨fx_q_4, fm_q_4, Rc_q_4, Rm_q_4, rfl, hc, hm⟩ := hI9
  have hP : va_P g.1 vwCl ([(x0, .inr (9, fx_q_4)), (m0, .inr (10, fm_q_4)), (aL g o0 1 fo_269)] ++ (Rc_q_4 ++ Rm_q_4)) H := hP
  have hD : va_D (lw_A s) ([(x0, .inr (9, fx_q_4)), (m0, .inr (10, fm_q_4)), (aL g o0 1 fo_269)] ++ (Rc_q_4 ++ Rm_q_4)) := hD
  refine lv_istore (lv' := [(5, .int r_1), (0, .ref b), (1, .ref x0), (2, .ref m0), (3, .ref o0), (4, .int (nI i))]) hx hb dL_law_272 hl (by decide) rfl (fun ls hl => ?_)
  refine lv_aload_n hx hb dL_law_274 rfl (lv_at hl 3 rfl) ?_
  refine lv_aload_n hx hb dL_law_275 rfl (lv_at hl 1 rfl) ?_
  refine lv_iload hx hb dL_law_276 (lv_at hl 5 rfl) ?_
  refine lv_iconst (v := 1) hx hb dL_law_278 (by decide) ?_
  refine lv_iadd hx hb dL_law_279 ?_
  refine he_top (nI (i + 1)) (nI_add i 1) ?_
  refine he_sld hx hb hX hbl hbA hS (i + 1) rfl (by omega) (by omega) (xs (i + 1)) rfl dL_law_280 ?_
  refine he_ci (wc := ([(x0, .inr (9, fx_q_4)), (m0, .inr (10, fm_q_4)), (aL g o0 1 fo_269)] ++ (Rc_q_4 ++ Rm_q_4))) (wr := []) (va_runV (As := [.int (xs (i + 1))]) (rest := []) ⟨hx, hb, hml, hown, hts⟩ (il_mI (j_siege l g m0 S t _ (xs (i + 1)) hm) hc H.size) (cwV 1 hts gL_law_X11_siege rfl rfl rfl (by decide +kernel) ⟨Nat.le_of_ble_eq_true rfl, Nat.le_of_ble_eq_true rfl⟩) (he_preV (wc := ([(x0, .inr (9, fx_q_4)), (m0, .inr (10, fm_q_4)), (aL g o0 1 fo_269)] ++ (Rc_q_4 ++ Rm_q_4))) hK hP hD hS hA hE (List.range (([(x0, .inr (9, fx_q_4)), (m0, .inr (10, fm_q_4)), (aL g o0 1 fo_269)] ++ (Rc_q_4 ++ Rm_q_4)) : va_W).length) (he_all _) (he_allnd _) 1 rfl rfl) rfl rfl hl.1 rfl (lv_room (Nat.le_of_ble_eq_true rfl)) dL_law_281 ⟨(by show 1000 + 4 * i + 1 + 1 ≤ 601024; omega), (by show 100000 + 700 * i + 6 + 15 ≤ 7293034; omega)⟩) hP hD hS hA (List.range (([(x0, .inr (9, fx_q_4)), (m0, .inr (10, fm_q_4)), (aL g o0 1 fo_269)] ++ (Rc_q_4 ++ Rm_q_4)) : va_W).length) [] (he_all _) rfl rfl (fun _ h9 => absurd h9 List.not_mem_nil) (fun r_5 u_6 H locs hu_7 hP hD hS => ?_)
  obtain ⟨t_281, hI9, ht281, hm281⟩ := hu_7
  obtain ⟨fx_q_8, fm_q_8, Rc_q_8, Rm_q_8, rfl, hc, hm⟩ := hI9
  have hP : va_P g.1 vwCl ([(x0, .inr (9, fx_q_8)), (m0, .inr (10, fm_q_8)), (aL g o0 1 fo_269)] ++ (Rc_q_8 ++ Rm_q_8)) H := hP
  have hD : va_D (lw_A s) ([(x0, .inr (9, fx_q_8)), (m0, .inr (10, fm_q_8)), (aL g o0 1 fo_269)] ++ (Rc_q_8 ++ Rm_q_8)) := hD
  refine lv_istore (lv' := [(6, .int r_5), (5, .int r_1), (0, .ref b), (1, .ref x0), (2, .ref m0), (3, .ref o0), (4, .int (nI i))]) hx hb dL_law_284 hl (by decide) rfl (fun ls hl => ?_)
  refine lv_goto (tgt := 1341) hx hb dL_law_286 (by decide) ?_
  refine W.widen (k := 1000 + 4 * (i + 6)) (n := 100000 + 700 * (i + 6)) (by show 1000 + 4 * i + 1 + 1 ≤ 1000 + 4 * (i + 6); omega) (by show 100000 + 700 * i + 6 + 15 ≤ 100000 + 700 * (i + 6); omega) ?_
  exact kk ((sp_siege S (xs (i + 1))).2.2) t_281 fo_269 _ H locs ls (ok_siege _ hOk) ⟨_, _, _, _, rfl, hc, hm⟩ hP hD hS (lv_sub hl [2, 3, 4, 5, 6] rfl)
set_option maxHeartbeats 8000000 in
set_option maxRecDepth 100000 in
theorem lc_contract {p : Program} {e : Env} {s : State} {m : MethodId} {below : List Frame} {meth : Method} {c : Code} {Q : State → Prop} (l : Launch) (hlt : l.stackTraces = false) (g : he_G) {b Ln : Nat} {xs : Nat → Int32} (C0 : lw_C p s m meth c b Ln xs g) (i : Nat) (hi : i + 6 ≤ Ln) (hL : Ln ≤ 3072) (x0 m0 o0 : Nat) (S : AbS) (t : Int32) (fo : Nat → Int64) (W9 : va_W) (hOk : okS S) (hI : IL g x0 m0 o0 S S t fo W9) {H : Heap} {locs : List Loc} {ls : Array Slot} (hP : va_P g.1 vwCl W9 H) (hD : va_D (lw_A s) W9) (hS : va_S (lw_A s) s.heap H locs) (hl : lv_has ls 8 [(0, .ref b), (1, .ref x0), (2, .ref m0), (3, .ref o0), (4, .int (nI i))]) (kk : ∀ (S2 : AbS) (t2 : Int32) (fo2 : Nat → Int64) (W2 : va_W) (H2 : Heap) (locs2 : List Loc) (ls2 : Array Slot), okS S2 → IL g x0 m0 o0 S2 S2 t2 fo2 W2 → va_P g.1 vwCl W2 H2 → va_D (lw_A s) W2 → va_S (lw_A s) s.heap H2 locs2 → lv_has ls2 8 [(0, .ref b), (1, .ref x0), (2, .ref m0), (3, .ref o0), (4, .int (nI i))] → W p l e room_1 s m #[Value.ref b] below meth c H2 locs2 (1000 + 4 * (i + 6)) (100000 + 700 * (i + 6)) Q (F0 m 1341 ls2 [])) : W p l e room_1 s m #[Value.ref b] below meth c H locs (1000 + 4 * i) (100000 + 700 * i) Q (F0 m 289 ls []) := by
  obtain ⟨hx, hb, hr, hml, hown, hts, hX, hbl, hlk, hK, hE, hA, hbA, hNc⟩ := C0
  obtain ⟨fx, fm, Rc, Rm, rfl, hc, hm⟩ := hI
  refine lv_aload_n hx hb dL_law_289 rfl (lv_at hl 1 rfl) ?_
  refine lv_aload_n hx hb dL_law_290 rfl (lv_at hl 0 rfl) ?_
  refine lv_iload hx hb dL_law_291 (lv_at hl 4 rfl) ?_
  refine lv_iconst (v := 1) hx hb dL_law_293 (by decide) ?_
  refine lv_iadd hx hb dL_law_294 ?_
  refine he_top (nI (i + 1)) (nI_add i 1) ?_
  refine he_sld hx hb hX hbl hbA hS (i + 1) rfl (by omega) (by omega) (xs (i + 1)) rfl dL_law_295 ?_
  refine lv_aload_n hx hb dL_law_296 rfl (lv_at hl 3 rfl) ?_
  refine he_ci (wc := ([(x0, .inr (9, fx)), (m0, .inr (10, fm)), (aL g o0 1 fo)] ++ (Rc ++ Rm))) (wr := []) (vx_runSW (As := [.ref x0, .int (xs (i + 1)), .ref o0]) (rest := []) ⟨hx, hb, hml, hown, hts⟩ (w_contract l hlt g x0 m0 o0 S S t fo _ (xs (i + 1)) ⟨_, _, _, _, rfl, hc, hm⟩ H.size) (vx_cwSW 3 hts gL_law_L_contract rfl rfl rfl (by decide +kernel) ⟨Nat.le_of_ble_eq_true rfl, Nat.le_of_ble_eq_true rfl⟩) (he_preS (wc := ([(x0, .inr (9, fx)), (m0, .inr (10, fm)), (aL g o0 1 fo)] ++ (Rc ++ Rm))) hK hP hD hS hA hE (List.range (([(x0, .inr (9, fx)), (m0, .inr (10, fm)), (aL g o0 1 fo)] ++ (Rc ++ Rm)) : va_W).length) (he_all _) (he_allnd _)) rfl rfl hl.1 rfl (lv_room (Nat.le_of_ble_eq_true rfl)) dL_law_297 ⟨(by show 1000 + 4 * i + 1 ≤ 601024; omega), (by show 100000 + 700 * i + 6 ≤ 7293034; omega)⟩) hP hD hS hA (List.range (([(x0, .inr (9, fx)), (m0, .inr (10, fm)), (aL g o0 1 fo)] ++ (Rc ++ Rm)) : va_W).length) [] (he_all _) rfl rfl (fun _ h9 => absurd h9 List.not_mem_nil) (fun r_1 u_2 H locs hu_3 hP hD hS => ?_)
  obtain ⟨fo_297, hI9, hr297, ho297⟩ := hu_3
  obtain ⟨fx_q_4, fm_q_4, Rc_q_4, Rm_q_4, rfl, hc, hm⟩ := hI9
  have hP : va_P g.1 vwCl ([(x0, .inr (9, fx_q_4)), (m0, .inr (10, fm_q_4)), (aL g o0 1 fo_297)] ++ (Rc_q_4 ++ Rm_q_4)) H := hP
  have hD : va_D (lw_A s) ([(x0, .inr (9, fx_q_4)), (m0, .inr (10, fm_q_4)), (aL g o0 1 fo_297)] ++ (Rc_q_4 ++ Rm_q_4)) := hD
  refine lv_istore (lv' := [(5, .int r_1), (0, .ref b), (1, .ref x0), (2, .ref m0), (3, .ref o0), (4, .int (nI i))]) hx hb dL_law_300 hl (by decide) rfl (fun ls hl => ?_)
  refine lv_aload_n hx hb dL_law_302 rfl (lv_at hl 3 rfl) ?_
  refine lv_aload_n hx hb dL_law_303 rfl (lv_at hl 1 rfl) ?_
  refine lv_iload hx hb dL_law_304 (lv_at hl 5 rfl) ?_
  refine lv_iconst (v := 1) hx hb dL_law_306 (by decide) ?_
  refine lv_iadd hx hb dL_law_307 ?_
  refine he_top (nI (i + 1)) (nI_add i 1) ?_
  refine he_sld hx hb hX hbl hbA hS (i + 1) rfl (by omega) (by omega) (xs (i + 1)) rfl dL_law_308 ?_
  refine he_ci (wc := ([(x0, .inr (9, fx_q_4)), (m0, .inr (10, fm_q_4)), (aL g o0 1 fo_297)] ++ (Rc_q_4 ++ Rm_q_4))) (wr := []) (va_runV (As := [.int (xs (i + 1))]) (rest := []) ⟨hx, hb, hml, hown, hts⟩ (il_mI (j_contract l g m0 S t _ (xs (i + 1)) hm) hc H.size) (cwV 1 hts gL_law_X11_contract rfl rfl rfl (by decide +kernel) ⟨Nat.le_of_ble_eq_true rfl, Nat.le_of_ble_eq_true rfl⟩) (he_preV (wc := ([(x0, .inr (9, fx_q_4)), (m0, .inr (10, fm_q_4)), (aL g o0 1 fo_297)] ++ (Rc_q_4 ++ Rm_q_4))) hK hP hD hS hA hE (List.range (([(x0, .inr (9, fx_q_4)), (m0, .inr (10, fm_q_4)), (aL g o0 1 fo_297)] ++ (Rc_q_4 ++ Rm_q_4)) : va_W).length) (he_all _) (he_allnd _) 1 rfl rfl) rfl rfl hl.1 rfl (lv_room (Nat.le_of_ble_eq_true rfl)) dL_law_309 ⟨(by show 1000 + 4 * i + 1 + 0 ≤ 601024; omega), (by show 100000 + 700 * i + 6 + 0 ≤ 7293034; omega)⟩) hP hD hS hA (List.range (([(x0, .inr (9, fx_q_4)), (m0, .inr (10, fm_q_4)), (aL g o0 1 fo_297)] ++ (Rc_q_4 ++ Rm_q_4)) : va_W).length) [] (he_all _) rfl rfl (fun _ h9 => absurd h9 List.not_mem_nil) (fun r_5 u_6 H locs hu_7 hP hD hS => ?_)
  obtain ⟨t_309, hI9, ht309, hm309⟩ := hu_7
  obtain ⟨fx_q_8, fm_q_8, Rc_q_8, Rm_q_8, rfl, hc, hm⟩ := hI9
  have hP : va_P g.1 vwCl ([(x0, .inr (9, fx_q_8)), (m0, .inr (10, fm_q_8)), (aL g o0 1 fo_297)] ++ (Rc_q_8 ++ Rm_q_8)) H := hP
  have hD : va_D (lw_A s) ([(x0, .inr (9, fx_q_8)), (m0, .inr (10, fm_q_8)), (aL g o0 1 fo_297)] ++ (Rc_q_8 ++ Rm_q_8)) := hD
  refine lv_istore (lv' := [(6, .int r_5), (5, .int r_1), (0, .ref b), (1, .ref x0), (2, .ref m0), (3, .ref o0), (4, .int (nI i))]) hx hb dL_law_312 hl (by decide) rfl (fun ls hl => ?_)
  refine lv_goto (tgt := 1341) hx hb dL_law_314 (by decide) ?_
  refine W.widen (k := 1000 + 4 * (i + 6)) (n := 100000 + 700 * (i + 6)) (by show 1000 + 4 * i + 1 + 0 ≤ 1000 + 4 * (i + 6); omega) (by show 100000 + 700 * i + 6 + 0 ≤ 100000 + 700 * (i + 6); omega) ?_
  exact kk ((sp_contract S (xs (i + 1))).2.2) t_309 fo_297 _ H locs ls (ok_contract _ hOk) ⟨_, _, _, _, rfl, hc, hm⟩ hP hD hS (lv_sub hl [2, 3, 4, 5, 6] rfl)
set_option maxHeartbeats 8000000 in
set_option maxRecDepth 100000 in
theorem lc_fault {p : Program} {e : Env} {s : State} {m : MethodId} {below : List Frame} {meth : Method} {c : Code} {Q : State → Prop} (l : Launch) (hlt : l.stackTraces = false) (g : he_G) {b Ln : Nat} {xs : Nat → Int32} (C0 : lw_C p s m meth c b Ln xs g) (i : Nat) (hi : i + 6 ≤ Ln) (hL : Ln ≤ 3072) (x0 m0 o0 : Nat) (S : AbS) (t : Int32) (fo : Nat → Int64) (W9 : va_W) (hOk : okS S) (hI : IL g x0 m0 o0 S S t fo W9) {H : Heap} {locs : List Loc} {ls : Array Slot} (hP : va_P g.1 vwCl W9 H) (hD : va_D (lw_A s) W9) (hS : va_S (lw_A s) s.heap H locs) (hl : lv_has ls 8 [(0, .ref b), (1, .ref x0), (2, .ref m0), (3, .ref o0), (4, .int (nI i))]) (kk : ∀ (S2 : AbS) (t2 : Int32) (fo2 : Nat → Int64) (W2 : va_W) (H2 : Heap) (locs2 : List Loc) (ls2 : Array Slot), okS S2 → IL g x0 m0 o0 S2 S2 t2 fo2 W2 → va_P g.1 vwCl W2 H2 → va_D (lw_A s) W2 → va_S (lw_A s) s.heap H2 locs2 → lv_has ls2 8 [(0, .ref b), (1, .ref x0), (2, .ref m0), (3, .ref o0), (4, .int (nI i))] → W p l e room_1 s m #[Value.ref b] below meth c H2 locs2 (1000 + 4 * (i + 6)) (100000 + 700 * (i + 6)) Q (F0 m 1341 ls2 [])) : W p l e room_1 s m #[Value.ref b] below meth c H locs (1000 + 4 * i) (100000 + 700 * i) Q (F0 m 317 ls []) := by
  obtain ⟨hx, hb, hr, hml, hown, hts, hX, hbl, hlk, hK, hE, hA, hbA, hNc⟩ := C0
  obtain ⟨fx, fm, Rc, Rm, rfl, hc, hm⟩ := hI
  refine lv_aload_n hx hb dL_law_317 rfl (lv_at hl 1 rfl) ?_
  refine he_ci (wc := ([(x0, .inr (9, fx)), (m0, .inr (10, fm)), (aL g o0 1 fo)] ++ (Rc ++ Rm))) (wr := []) (va_runV (As := []) (rest := []) ⟨hx, hb, hml, hown, hts⟩ (il_cI (k_fault l hlt g x0 S _  hc) hm H.size) (cwV 0 hts gL_law_X10_fault rfl rfl rfl (by decide +kernel) ⟨Nat.le_of_ble_eq_true rfl, Nat.le_of_ble_eq_true rfl⟩) (he_preV (wc := ([(x0, .inr (9, fx)), (m0, .inr (10, fm)), (aL g o0 1 fo)] ++ (Rc ++ Rm))) hK hP hD hS hA hE (List.range (([(x0, .inr (9, fx)), (m0, .inr (10, fm)), (aL g o0 1 fo)] ++ (Rc ++ Rm)) : va_W).length) (he_all _) (he_allnd _) 0 rfl rfl) rfl rfl hl.1 rfl (lv_room (Nat.le_of_ble_eq_true rfl)) dL_law_318 ⟨(by show 1000 + 4 * i + 0 ≤ 601024; omega), (by show 100000 + 700 * i + 0 ≤ 7293034; omega)⟩) hP hD hS hA (List.range (([(x0, .inr (9, fx)), (m0, .inr (10, fm)), (aL g o0 1 fo)] ++ (Rc ++ Rm)) : va_W).length) [] (he_all _) rfl rfl (fun _ h9 => absurd h9 List.not_mem_nil) (fun r_1 u_2 H locs hu_3 hP hD hS => ?_)
  obtain ⟨hI9, hp318⟩ := hu_3
  obtain ⟨fx_q_4, fm_q_4, Rc_q_4, Rm_q_4, rfl, hc, hm⟩ := hI9
  have hP : va_P g.1 vwCl ([(x0, .inr (9, fx_q_4)), (m0, .inr (10, fm_q_4)), (aL g o0 1 fo)] ++ (Rc_q_4 ++ Rm_q_4)) H := hP
  have hD : va_D (lw_A s) ([(x0, .inr (9, fx_q_4)), (m0, .inr (10, fm_q_4)), (aL g o0 1 fo)] ++ (Rc_q_4 ++ Rm_q_4)) := hD
  refine lv_aload_n hx hb dL_law_321 rfl (lv_at hl 2 rfl) ?_
  refine he_ci (wc := ([(x0, .inr (9, fx_q_4)), (m0, .inr (10, fm_q_4)), (aL g o0 1 fo)] ++ (Rc_q_4 ++ Rm_q_4))) (wr := []) (va_runV (As := []) (rest := [.int r_1]) ⟨hx, hb, hml, hown, hts⟩ (il_mI (j_fault l g m0 S t _  hm) hc H.size) (cwV 0 hts gL_law_X11_fault rfl rfl rfl (by decide +kernel) ⟨Nat.le_of_ble_eq_true rfl, Nat.le_of_ble_eq_true rfl⟩) (he_preV (wc := ([(x0, .inr (9, fx_q_4)), (m0, .inr (10, fm_q_4)), (aL g o0 1 fo)] ++ (Rc_q_4 ++ Rm_q_4))) hK hP hD hS hA hE (List.range (([(x0, .inr (9, fx_q_4)), (m0, .inr (10, fm_q_4)), (aL g o0 1 fo)] ++ (Rc_q_4 ++ Rm_q_4)) : va_W).length) (he_all _) (he_allnd _) 1 rfl rfl) rfl rfl hl.1 rfl (lv_room (Nat.le_of_ble_eq_true rfl)) dL_law_322 ⟨(by show 1000 + 4 * i + 0 + 0 ≤ 601024; omega), (by show 100000 + 700 * i + 0 + 0 ≤ 7293034; omega)⟩) hP hD hS hA (List.range (([(x0, .inr (9, fx_q_4)), (m0, .inr (10, fm_q_4)), (aL g o0 1 fo)] ++ (Rc_q_4 ++ Rm_q_4)) : va_W).length) [] (he_all _) rfl rfl (fun _ h9 => absurd h9 List.not_mem_nil) (fun r_5 u_6 H locs hu_7 hP hD hS => ?_)
  obtain ⟨t_322, hI9, ht322, hm322⟩ := hu_7
  obtain ⟨fx_q_8, fm_q_8, Rc_q_8, Rm_q_8, rfl, hc, hm⟩ := hI9
  have hP : va_P g.1 vwCl ([(x0, .inr (9, fx_q_8)), (m0, .inr (10, fm_q_8)), (aL g o0 1 fo)] ++ (Rc_q_8 ++ Rm_q_8)) H := hP
  have hD : va_D (lw_A s) ([(x0, .inr (9, fx_q_8)), (m0, .inr (10, fm_q_8)), (aL g o0 1 fo)] ++ (Rc_q_8 ++ Rm_q_8)) := hD
  refine lv_icmp_eq (tgt := 1341) hx hb dL_law_325 (by decide) (fun c9 => ?_) (fun c9 => absurd (hp318.trans (hm322 (sp0_fault _)).symm) c9)
  refine W.widen (k := 1000 + 4 * (i + 6)) (n := 100000 + 700 * (i + 6)) (by show 1000 + 4 * i + 0 + 0 ≤ 1000 + 4 * (i + 6); omega) (by show 100000 + 700 * i + 0 + 0 ≤ 100000 + 700 * (i + 6); omega) ?_
  exact kk ((sp_fault S).2.2) t_322 fo _ H locs ls (ok_fault hOk) ⟨_, _, _, _, rfl, hc, hm⟩ hP hD hS (lv_sub hl [0, 1, 2, 3, 4] rfl)
set_option maxHeartbeats 8000000 in
set_option maxRecDepth 100000 in
theorem lc_told {p : Program} {e : Env} {s : State} {m : MethodId} {below : List Frame} {meth : Method} {c : Code} {Q : State → Prop} (l : Launch) (hlt : l.stackTraces = false) (g : he_G) {b Ln : Nat} {xs : Nat → Int32} (C0 : lw_C p s m meth c b Ln xs g) (i : Nat) (hi : i + 6 ≤ Ln) (hL : Ln ≤ 3072) (x0 m0 o0 : Nat) (S : AbS) (t : Int32) (fo : Nat → Int64) (W9 : va_W) (hOk : okS S) (hI : IL g x0 m0 o0 S S t fo W9) {H : Heap} {locs : List Loc} {ls : Array Slot} (hP : va_P g.1 vwCl W9 H) (hD : va_D (lw_A s) W9) (hS : va_S (lw_A s) s.heap H locs) (hl : lv_has ls 8 [(0, .ref b), (1, .ref x0), (2, .ref m0), (3, .ref o0), (4, .int (nI i))]) (kk : ∀ (S2 : AbS) (t2 : Int32) (fo2 : Nat → Int64) (W2 : va_W) (H2 : Heap) (locs2 : List Loc) (ls2 : Array Slot), okS S2 → IL g x0 m0 o0 S2 S2 t2 fo2 W2 → va_P g.1 vwCl W2 H2 → va_D (lw_A s) W2 → va_S (lw_A s) s.heap H2 locs2 → lv_has ls2 8 [(0, .ref b), (1, .ref x0), (2, .ref m0), (3, .ref o0), (4, .int (nI i))] → W p l e room_1 s m #[Value.ref b] below meth c H2 locs2 (1000 + 4 * (i + 6)) (100000 + 700 * (i + 6)) Q (F0 m 1341 ls2 [])) : W p l e room_1 s m #[Value.ref b] below meth c H locs (1000 + 4 * i) (100000 + 700 * i) Q (F0 m 330 ls []) := by
  obtain ⟨hx, hb, hr, hml, hown, hts, hX, hbl, hlk, hK, hE, hA, hbA, hNc⟩ := C0
  obtain ⟨fx, fm, Rc, Rm, rfl, hc, hm⟩ := hI
  refine lv_aload_n hx hb dL_law_330 rfl (lv_at hl 1 rfl) ?_
  refine lv_aload_n hx hb dL_law_331 rfl (lv_at hl 0 rfl) ?_
  refine lv_iload hx hb dL_law_332 (lv_at hl 4 rfl) ?_
  refine lv_iconst (v := 1) hx hb dL_law_334 (by decide) ?_
  refine lv_iadd hx hb dL_law_335 ?_
  refine he_top (nI (i + 1)) (nI_add i 1) ?_
  refine he_sld hx hb hX hbl hbA hS (i + 1) rfl (by omega) (by omega) (xs (i + 1)) rfl dL_law_336 ?_
  refine lv_aload_n hx hb dL_law_337 rfl (lv_at hl 3 rfl) ?_
  refine he_ci (wc := ([(x0, .inr (9, fx)), (m0, .inr (10, fm)), (aL g o0 1 fo)] ++ (Rc ++ Rm))) (wr := []) (vx_runSW (As := [.ref x0, .int (xs (i + 1)), .ref o0]) (rest := []) ⟨hx, hb, hml, hown, hts⟩ (w_told l hlt g x0 m0 o0 S S t fo _ (xs (i + 1)) ⟨_, _, _, _, rfl, hc, hm⟩ H.size) (vx_cwSW 3 hts gL_law_L_told rfl rfl rfl (by decide +kernel) ⟨Nat.le_of_ble_eq_true rfl, Nat.le_of_ble_eq_true rfl⟩) (he_preS (wc := ([(x0, .inr (9, fx)), (m0, .inr (10, fm)), (aL g o0 1 fo)] ++ (Rc ++ Rm))) hK hP hD hS hA hE (List.range (([(x0, .inr (9, fx)), (m0, .inr (10, fm)), (aL g o0 1 fo)] ++ (Rc ++ Rm)) : va_W).length) (he_all _) (he_allnd _)) rfl rfl hl.1 rfl (lv_room (Nat.le_of_ble_eq_true rfl)) dL_law_338 ⟨(by show 1000 + 4 * i + 1 ≤ 601024; omega), (by show 100000 + 700 * i + 6 ≤ 7293034; omega)⟩) hP hD hS hA (List.range (([(x0, .inr (9, fx)), (m0, .inr (10, fm)), (aL g o0 1 fo)] ++ (Rc ++ Rm)) : va_W).length) [] (he_all _) rfl rfl (fun _ h9 => absurd h9 List.not_mem_nil) (fun r_1 u_2 H locs hu_3 hP hD hS => ?_)
  obtain ⟨fo_338, hI9, hr338, ho338⟩ := hu_3
  obtain ⟨fx_q_4, fm_q_4, Rc_q_4, Rm_q_4, rfl, hc, hm⟩ := hI9
  have hP : va_P g.1 vwCl ([(x0, .inr (9, fx_q_4)), (m0, .inr (10, fm_q_4)), (aL g o0 1 fo_338)] ++ (Rc_q_4 ++ Rm_q_4)) H := hP
  have hD : va_D (lw_A s) ([(x0, .inr (9, fx_q_4)), (m0, .inr (10, fm_q_4)), (aL g o0 1 fo_338)] ++ (Rc_q_4 ++ Rm_q_4)) := hD
  refine lv_istore (lv' := [(5, .int r_1), (0, .ref b), (1, .ref x0), (2, .ref m0), (3, .ref o0), (4, .int (nI i))]) hx hb dL_law_341 hl (by decide) rfl (fun ls hl => ?_)
  refine lv_aload_n hx hb dL_law_343 rfl (lv_at hl 3 rfl) ?_
  refine lv_aload_n hx hb dL_law_344 rfl (lv_at hl 1 rfl) ?_
  refine lv_iload hx hb dL_law_345 (lv_at hl 5 rfl) ?_
  refine lv_iconst (v := 1) hx hb dL_law_347 (by decide) ?_
  refine lv_iadd hx hb dL_law_348 ?_
  refine he_top (nI (i + 1)) (nI_add i 1) ?_
  refine he_sld hx hb hX hbl hbA hS (i + 1) rfl (by omega) (by omega) (xs (i + 1)) rfl dL_law_349 ?_
  refine he_ci (wc := ([(x0, .inr (9, fx_q_4)), (m0, .inr (10, fm_q_4)), (aL g o0 1 fo_338)] ++ (Rc_q_4 ++ Rm_q_4))) (wr := []) (va_runV (As := [.int (xs (i + 1))]) (rest := []) ⟨hx, hb, hml, hown, hts⟩ (il_mI (j_told l g m0 S t _ (xs (i + 1)) hm) hc H.size) (cwV 1 hts gL_law_X11_told rfl rfl rfl (by decide +kernel) ⟨Nat.le_of_ble_eq_true rfl, Nat.le_of_ble_eq_true rfl⟩) (he_preV (wc := ([(x0, .inr (9, fx_q_4)), (m0, .inr (10, fm_q_4)), (aL g o0 1 fo_338)] ++ (Rc_q_4 ++ Rm_q_4))) hK hP hD hS hA hE (List.range (([(x0, .inr (9, fx_q_4)), (m0, .inr (10, fm_q_4)), (aL g o0 1 fo_338)] ++ (Rc_q_4 ++ Rm_q_4)) : va_W).length) (he_all _) (he_allnd _) 1 rfl rfl) rfl rfl hl.1 rfl (lv_room (Nat.le_of_ble_eq_true rfl)) dL_law_350 ⟨(by show 1000 + 4 * i + 1 + 0 ≤ 601024; omega), (by show 100000 + 700 * i + 6 + 0 ≤ 7293034; omega)⟩) hP hD hS hA (List.range (([(x0, .inr (9, fx_q_4)), (m0, .inr (10, fm_q_4)), (aL g o0 1 fo_338)] ++ (Rc_q_4 ++ Rm_q_4)) : va_W).length) [] (he_all _) rfl rfl (fun _ h9 => absurd h9 List.not_mem_nil) (fun r_5 u_6 H locs hu_7 hP hD hS => ?_)
  obtain ⟨t_350, hI9, ht350, hm350⟩ := hu_7
  obtain ⟨fx_q_8, fm_q_8, Rc_q_8, Rm_q_8, rfl, hc, hm⟩ := hI9
  have hP : va_P g.1 vwCl ([(x0, .inr (9, fx_q_8)), (m0, .inr (10, fm_q_8)), (aL g o0 1 fo_338)] ++ (Rc_q_8 ++ Rm_q_8)) H := hP
  have hD : va_D (lw_A s) ([(x0, .inr (9, fx_q_8)), (m0, .inr (10, fm_q_8)), (aL g o0 1 fo_338)] ++ (Rc_q_8 ++ Rm_q_8)) := hD
  refine lv_istore (lv' := [(6, .int r_5), (5, .int r_1), (0, .ref b), (1, .ref x0), (2, .ref m0), (3, .ref o0), (4, .int (nI i))]) hx hb dL_law_353 hl (by decide) rfl (fun ls hl => ?_)
  refine lv_goto (tgt := 1341) hx hb dL_law_355 (by decide) ?_
  refine W.widen (k := 1000 + 4 * (i + 6)) (n := 100000 + 700 * (i + 6)) (by show 1000 + 4 * i + 1 + 0 ≤ 1000 + 4 * (i + 6); omega) (by show 100000 + 700 * i + 6 + 0 ≤ 100000 + 700 * (i + 6); omega) ?_
  exact kk ((sp_told S (xs (i + 1))).2.2) t_350 fo_338 _ H locs ls (ok_told _ hOk) ⟨_, _, _, _, rfl, hc, hm⟩ hP hD hS (lv_sub hl [2, 3, 4, 5, 6] rfl)
set_option maxHeartbeats 8000000 in
set_option maxRecDepth 100000 in
theorem lc_wall {p : Program} {e : Env} {s : State} {m : MethodId} {below : List Frame} {meth : Method} {c : Code} {Q : State → Prop} (l : Launch) (hlt : l.stackTraces = false) (g : he_G) {b Ln : Nat} {xs : Nat → Int32} (C0 : lw_C p s m meth c b Ln xs g) (i : Nat) (hi : i + 6 ≤ Ln) (hL : Ln ≤ 3072) (x0 m0 o0 : Nat) (S : AbS) (t : Int32) (fo : Nat → Int64) (W9 : va_W) (hOk : okS S) (hI : IL g x0 m0 o0 S S t fo W9) {H : Heap} {locs : List Loc} {ls : Array Slot} (hP : va_P g.1 vwCl W9 H) (hD : va_D (lw_A s) W9) (hS : va_S (lw_A s) s.heap H locs) (hl : lv_has ls 8 [(0, .ref b), (1, .ref x0), (2, .ref m0), (3, .ref o0), (4, .int (nI i))]) (kk : ∀ (S2 : AbS) (t2 : Int32) (fo2 : Nat → Int64) (W2 : va_W) (H2 : Heap) (locs2 : List Loc) (ls2 : Array Slot), okS S2 → IL g x0 m0 o0 S2 S2 t2 fo2 W2 → va_P g.1 vwCl W2 H2 → va_D (lw_A s) W2 → va_S (lw_A s) s.heap H2 locs2 → lv_has ls2 8 [(0, .ref b), (1, .ref x0), (2, .ref m0), (3, .ref o0), (4, .int (nI i))] → W p l e room_1 s m #[Value.ref b] below meth c H2 locs2 (1000 + 4 * (i + 6)) (100000 + 700 * (i + 6)) Q (F0 m 1341 ls2 [])) : W p l e room_1 s m #[Value.ref b] below meth c H locs (1000 + 4 * i) (100000 + 700 * i) Q (F0 m 358 ls []) := by
  obtain ⟨hx, hb, hr, hml, hown, hts, hX, hbl, hlk, hK, hE, hA, hbA, hNc⟩ := C0
  obtain ⟨fx, fm, Rc, Rm, rfl, hc, hm⟩ := hI
  refine lv_aload_n hx hb dL_law_358 rfl (lv_at hl 1 rfl) ?_
  refine lv_aload_n hx hb dL_law_359 rfl (lv_at hl 0 rfl) ?_
  refine lv_iload hx hb dL_law_360 (lv_at hl 4 rfl) ?_
  refine lv_iconst (v := 1) hx hb dL_law_362 (by decide) ?_
  refine lv_iadd hx hb dL_law_363 ?_
  refine he_top (nI (i + 1)) (nI_add i 1) ?_
  refine he_sld hx hb hX hbl hbA hS (i + 1) rfl (by omega) (by omega) (xs (i + 1)) rfl dL_law_364 ?_
  refine lv_aload_n hx hb dL_law_365 rfl (lv_at hl 0 rfl) ?_
  refine lv_iload hx hb dL_law_366 (lv_at hl 4 rfl) ?_
  refine lv_iconst (v := 2) hx hb dL_law_368 (by decide) ?_
  refine lv_iadd hx hb dL_law_369 ?_
  refine he_top (nI (i + 2)) (nI_add i 2) ?_
  refine he_sld hx hb hX hbl hbA hS (i + 2) rfl (by omega) (by omega) (xs (i + 2)) rfl dL_law_370 ?_
  refine lv_aload_n hx hb dL_law_371 rfl (lv_at hl 3 rfl) ?_
  refine he_ci (wc := ([(x0, .inr (9, fx)), (m0, .inr (10, fm)), (aL g o0 1 fo)] ++ (Rc ++ Rm))) (wr := []) (vx_runSW (As := [.ref x0, .int (xs (i + 1)), .int (xs (i + 2)), .ref o0]) (rest := []) ⟨hx, hb, hml, hown, hts⟩ (w_wall l hlt g x0 m0 o0 S S t fo _ (xs (i + 1)) (xs (i + 2)) ⟨_, _, _, _, rfl, hc, hm⟩ H.size) (vx_cwSW 4 hts gL_law_L_wall rfl rfl rfl (by decide +kernel) ⟨Nat.le_of_ble_eq_true rfl, Nat.le_of_ble_eq_true rfl⟩) (he_preSN (wc := ([(x0, .inr (9, fx)), (m0, .inr (10, fm)), (aL g o0 1 fo)] ++ (Rc ++ Rm))) hNc hK hP hD hS hA hE (List.range (([(x0, .inr (9, fx)), (m0, .inr (10, fm)), (aL g o0 1 fo)] ++ (Rc ++ Rm)) : va_W).length) (he_all _) (he_allnd _)) rfl rfl hl.1 rfl (lv_room (Nat.le_of_ble_eq_true rfl)) dL_law_372 ⟨(by show 1000 + 4 * i + 1 ≤ 601024; omega), (by show 100000 + 700 * i + 6 ≤ 7293034; omega)⟩) hP hD hS hA (List.range (([(x0, .inr (9, fx)), (m0, .inr (10, fm)), (aL g o0 1 fo)] ++ (Rc ++ Rm)) : va_W).length) [] (he_all _) rfl rfl (fun _ h9 => absurd h9 List.not_mem_nil) (fun r_1 u_2 H locs hu_3 hP hD hS => ?_)
  obtain ⟨fo_372, hI9, hr372, ho372⟩ := hu_3
  obtain ⟨fx_q_4, fm_q_4, Rc_q_4, Rm_q_4, rfl, hc, hm⟩ := hI9
  have hP : va_P g.1 vwCl ([(x0, .inr (9, fx_q_4)), (m0, .inr (10, fm_q_4)), (aL g o0 1 fo_372)] ++ (Rc_q_4 ++ Rm_q_4)) H := hP
  have hD : va_D (lw_A s) ([(x0, .inr (9, fx_q_4)), (m0, .inr (10, fm_q_4)), (aL g o0 1 fo_372)] ++ (Rc_q_4 ++ Rm_q_4)) := hD
  refine lv_istore (lv' := [(5, .int r_1), (0, .ref b), (1, .ref x0), (2, .ref m0), (3, .ref o0), (4, .int (nI i))]) hx hb dL_law_375 hl (by decide) rfl (fun ls hl => ?_)
  refine lv_aload_n hx hb dL_law_377 rfl (lv_at hl 3 rfl) ?_
  refine lv_aload_n hx hb dL_law_378 rfl (lv_at hl 1 rfl) ?_
  refine lv_iload hx hb dL_law_379 (lv_at hl 5 rfl) ?_
  refine lv_iconst (v := 1) hx hb dL_law_381 (by decide) ?_
  refine lv_iadd hx hb dL_law_382 ?_
  refine he_top (nI (i + 1)) (nI_add i 1) ?_
  refine he_sld hx hb hX hbl hbA hS (i + 1) rfl (by omega) (by omega) (xs (i + 1)) rfl dL_law_383 ?_
  refine lv_aload_n hx hb dL_law_384 rfl (lv_at hl 1 rfl) ?_
  refine lv_iload hx hb dL_law_385 (lv_at hl 5 rfl) ?_
  refine lv_iconst (v := 2) hx hb dL_law_387 (by decide) ?_
  refine lv_iadd hx hb dL_law_388 ?_
  refine he_top (nI (i + 2)) (nI_add i 2) ?_
  refine he_sld hx hb hX hbl hbA hS (i + 2) rfl (by omega) (by omega) (xs (i + 2)) rfl dL_law_389 ?_
  refine he_ci (wc := ([(x0, .inr (9, fx_q_4)), (m0, .inr (10, fm_q_4)), (aL g o0 1 fo_372)] ++ (Rc_q_4 ++ Rm_q_4))) (wr := []) (va_runV (As := [.int (xs (i + 1)), .int (xs (i + 2))]) (rest := []) ⟨hx, hb, hml, hown, hts⟩ (il_mI (j_wall l g m0 S t _ (xs (i + 1)) (xs (i + 2)) hm) hc H.size) (cwV 2 hts gL_law_X11_wall rfl rfl rfl (by decide +kernel) ⟨Nat.le_of_ble_eq_true rfl, Nat.le_of_ble_eq_true rfl⟩) (he_preV (wc := ([(x0, .inr (9, fx_q_4)), (m0, .inr (10, fm_q_4)), (aL g o0 1 fo_372)] ++ (Rc_q_4 ++ Rm_q_4))) hK hP hD hS hA hE (List.range (([(x0, .inr (9, fx_q_4)), (m0, .inr (10, fm_q_4)), (aL g o0 1 fo_372)] ++ (Rc_q_4 ++ Rm_q_4)) : va_W).length) (he_all _) (he_allnd _) 1 rfl rfl) rfl rfl hl.1 rfl (lv_room (Nat.le_of_ble_eq_true rfl)) dL_law_390 ⟨(by show 1000 + 4 * i + 1 + 0 ≤ 601024; omega), (by show 100000 + 700 * i + 6 + 0 ≤ 7293034; omega)⟩) hP hD hS hA (List.range (([(x0, .inr (9, fx_q_4)), (m0, .inr (10, fm_q_4)), (aL g o0 1 fo_372)] ++ (Rc_q_4 ++ Rm_q_4)) : va_W).length) [] (he_all _) rfl rfl (fun _ h9 => absurd h9 List.not_mem_nil) (fun r_5 u_6 H locs hu_7 hP hD hS => ?_)
  obtain ⟨t_390, hI9, ht390, hm390⟩ := hu_7
  obtain ⟨fx_q_8, fm_q_8, Rc_q_8, Rm_q_8, rfl, hc, hm⟩ := hI9
  have hP : va_P g.1 vwCl ([(x0, .inr (9, fx_q_8)), (m0, .inr (10, fm_q_8)), (aL g o0 1 fo_372)] ++ (Rc_q_8 ++ Rm_q_8)) H := hP
  have hD : va_D (lw_A s) ([(x0, .inr (9, fx_q_8)), (m0, .inr (10, fm_q_8)), (aL g o0 1 fo_372)] ++ (Rc_q_8 ++ Rm_q_8)) := hD
  refine lv_istore (lv' := [(6, .int r_5), (5, .int r_1), (0, .ref b), (1, .ref x0), (2, .ref m0), (3, .ref o0), (4, .int (nI i))]) hx hb dL_law_393 hl (by decide) rfl (fun ls hl => ?_)
  refine lv_goto (tgt := 1341) hx hb dL_law_395 (by decide) ?_
  refine W.widen (k := 1000 + 4 * (i + 6)) (n := 100000 + 700 * (i + 6)) (by show 1000 + 4 * i + 1 + 0 ≤ 1000 + 4 * (i + 6); omega) (by show 100000 + 700 * i + 6 + 0 ≤ 100000 + 700 * (i + 6); omega) ?_
  exact kk ((sp_wall S (xs (i + 1)) (xs (i + 2))).2.2) t_390 fo_372 _ H locs ls (ok_wall _ _ hOk) ⟨_, _, _, _, rfl, hc, hm⟩ hP hD hS (lv_sub hl [2, 3, 4, 5, 6] rfl)
set_option maxHeartbeats 8000000 in
set_option maxRecDepth 100000 in
theorem lc_rule {p : Program} {e : Env} {s : State} {m : MethodId} {below : List Frame} {meth : Method} {c : Code} {Q : State → Prop} (l : Launch) (hlt : l.stackTraces = false) (g : he_G) {b Ln : Nat} {xs : Nat → Int32} (C0 : lw_C p s m meth c b Ln xs g) (i : Nat) (hi : i + 6 ≤ Ln) (hL : Ln ≤ 3072) (x0 m0 o0 : Nat) (S : AbS) (t : Int32) (fo : Nat → Int64) (W9 : va_W) (hOk : okS S) (hI : IL g x0 m0 o0 S S t fo W9) {H : Heap} {locs : List Loc} {ls : Array Slot} (hP : va_P g.1 vwCl W9 H) (hD : va_D (lw_A s) W9) (hS : va_S (lw_A s) s.heap H locs) (hl : lv_has ls 8 [(0, .ref b), (1, .ref x0), (2, .ref m0), (3, .ref o0), (4, .int (nI i))]) (kk : ∀ (S2 : AbS) (t2 : Int32) (fo2 : Nat → Int64) (W2 : va_W) (H2 : Heap) (locs2 : List Loc) (ls2 : Array Slot), okS S2 → IL g x0 m0 o0 S2 S2 t2 fo2 W2 → va_P g.1 vwCl W2 H2 → va_D (lw_A s) W2 → va_S (lw_A s) s.heap H2 locs2 → lv_has ls2 8 [(0, .ref b), (1, .ref x0), (2, .ref m0), (3, .ref o0), (4, .int (nI i))] → W p l e room_1 s m #[Value.ref b] below meth c H2 locs2 (1000 + 4 * (i + 6)) (100000 + 700 * (i + 6)) Q (F0 m 1341 ls2 [])) : W p l e room_1 s m #[Value.ref b] below meth c H locs (1000 + 4 * i) (100000 + 700 * i) Q (F0 m 398 ls []) := by
  obtain ⟨hx, hb, hr, hml, hown, hts, hX, hbl, hlk, hK, hE, hA, hbA, hNc⟩ := C0
  obtain ⟨fx, fm, Rc, Rm, rfl, hc, hm⟩ := hI
  refine lv_aload_n hx hb dL_law_398 rfl (lv_at hl 1 rfl) ?_
  refine lv_aload_n hx hb dL_law_399 rfl (lv_at hl 0 rfl) ?_
  refine lv_iload hx hb dL_law_400 (lv_at hl 4 rfl) ?_
  refine lv_iconst (v := 1) hx hb dL_law_402 (by decide) ?_
  refine lv_iadd hx hb dL_law_403 ?_
  refine he_top (nI (i + 1)) (nI_add i 1) ?_
  refine he_sld hx hb hX hbl hbA hS (i + 1) rfl (by omega) (by omega) (xs (i + 1)) rfl dL_law_404 ?_
  refine lv_aload_n hx hb dL_law_405 rfl (lv_at hl 0 rfl) ?_
  refine lv_iload hx hb dL_law_406 (lv_at hl 4 rfl) ?_
  refine lv_iconst (v := 2) hx hb dL_law_408 (by decide) ?_
  refine lv_iadd hx hb dL_law_409 ?_
  refine he_top (nI (i + 2)) (nI_add i 2) ?_
  refine he_sld hx hb hX hbl hbA hS (i + 2) rfl (by omega) (by omega) (xs (i + 2)) rfl dL_law_410 ?_
  refine lv_aload_n hx hb dL_law_411 rfl (lv_at hl 3 rfl) ?_
  refine he_ci (wc := ([(x0, .inr (9, fx)), (m0, .inr (10, fm)), (aL g o0 1 fo)] ++ (Rc ++ Rm))) (wr := []) (vx_runSW (As := [.ref x0, .int (xs (i + 1)), .int (xs (i + 2)), .ref o0]) (rest := []) ⟨hx, hb, hml, hown, hts⟩ (w_rule l hlt g x0 m0 o0 S S t fo _ (xs (i + 1)) (xs (i + 2)) ⟨_, _, _, _, rfl, hc, hm⟩ H.size) (vx_cwSW 4 hts gL_law_L_rule rfl rfl rfl (by decide +kernel) ⟨Nat.le_of_ble_eq_true rfl, Nat.le_of_ble_eq_true rfl⟩) (he_preS (wc := ([(x0, .inr (9, fx)), (m0, .inr (10, fm)), (aL g o0 1 fo)] ++ (Rc ++ Rm))) hK hP hD hS hA hE (List.range (([(x0, .inr (9, fx)), (m0, .inr (10, fm)), (aL g o0 1 fo)] ++ (Rc ++ Rm)) : va_W).length) (he_all _) (he_allnd _)) rfl rfl hl.1 rfl (lv_room (Nat.le_of_ble_eq_true rfl)) dL_law_412 ⟨(by show 1000 + 4 * i + 1 ≤ 601024; omega), (by show 100000 + 700 * i + 6 ≤ 7293034; omega)⟩) hP hD hS hA (List.range (([(x0, .inr (9, fx)), (m0, .inr (10, fm)), (aL g o0 1 fo)] ++ (Rc ++ Rm)) : va_W).length) [] (he_all _) rfl rfl (fun _ h9 => absurd h9 List.not_mem_nil) (fun r_1 u_2 H locs hu_3 hP hD hS => ?_)
  obtain ⟨fo_412, hI9, hr412, ho412⟩ := hu_3
  obtain ⟨fx_q_4, fm_q_4, Rc_q_4, Rm_q_4, rfl, hc, hm⟩ := hI9
  have hP : va_P g.1 vwCl ([(x0, .inr (9, fx_q_4)), (m0, .inr (10, fm_q_4)), (aL g o0 1 fo_412)] ++ (Rc_q_4 ++ Rm_q_4)) H := hP
  have hD : va_D (lw_A s) ([(x0, .inr (9, fx_q_4)), (m0, .inr (10, fm_q_4)), (aL g o0 1 fo_412)] ++ (Rc_q_4 ++ Rm_q_4)) := hD
  refine lv_istore (lv' := [(5, .int r_1), (0, .ref b), (1, .ref x0), (2, .ref m0), (3, .ref o0), (4, .int (nI i))]) hx hb dL_law_415 hl (by decide) rfl (fun ls hl => ?_)
  refine lv_aload_n hx hb dL_law_417 rfl (lv_at hl 3 rfl) ?_
  refine lv_aload_n hx hb dL_law_418 rfl (lv_at hl 1 rfl) ?_
  refine lv_iload hx hb dL_law_419 (lv_at hl 5 rfl) ?_
  refine lv_iconst (v := 1) hx hb dL_law_421 (by decide) ?_
  refine lv_iadd hx hb dL_law_422 ?_
  refine he_top (nI (i + 1)) (nI_add i 1) ?_
  refine he_sld hx hb hX hbl hbA hS (i + 1) rfl (by omega) (by omega) (xs (i + 1)) rfl dL_law_423 ?_
  refine lv_aload_n hx hb dL_law_424 rfl (lv_at hl 1 rfl) ?_
  refine lv_iload hx hb dL_law_425 (lv_at hl 5 rfl) ?_
  refine lv_iconst (v := 2) hx hb dL_law_427 (by decide) ?_
  refine lv_iadd hx hb dL_law_428 ?_
  refine he_top (nI (i + 2)) (nI_add i 2) ?_
  refine he_sld hx hb hX hbl hbA hS (i + 2) rfl (by omega) (by omega) (xs (i + 2)) rfl dL_law_429 ?_
  refine he_ci (wc := ([(x0, .inr (9, fx_q_4)), (m0, .inr (10, fm_q_4)), (aL g o0 1 fo_412)] ++ (Rc_q_4 ++ Rm_q_4))) (wr := []) (va_runV (As := [.int (xs (i + 1)), .int (xs (i + 2))]) (rest := []) ⟨hx, hb, hml, hown, hts⟩ (il_mI (j_rule l g m0 S t _ (xs (i + 1)) (xs (i + 2)) hm) hc H.size) (cwV 2 hts gL_law_X11_rule rfl rfl rfl (by decide +kernel) ⟨Nat.le_of_ble_eq_true rfl, Nat.le_of_ble_eq_true rfl⟩) (he_preV (wc := ([(x0, .inr (9, fx_q_4)), (m0, .inr (10, fm_q_4)), (aL g o0 1 fo_412)] ++ (Rc_q_4 ++ Rm_q_4))) hK hP hD hS hA hE (List.range (([(x0, .inr (9, fx_q_4)), (m0, .inr (10, fm_q_4)), (aL g o0 1 fo_412)] ++ (Rc_q_4 ++ Rm_q_4)) : va_W).length) (he_all _) (he_allnd _) 1 rfl rfl) rfl rfl hl.1 rfl (lv_room (Nat.le_of_ble_eq_true rfl)) dL_law_430 ⟨(by show 1000 + 4 * i + 1 + 0 ≤ 601024; omega), (by show 100000 + 700 * i + 6 + 0 ≤ 7293034; omega)⟩) hP hD hS hA (List.range (([(x0, .inr (9, fx_q_4)), (m0, .inr (10, fm_q_4)), (aL g o0 1 fo_412)] ++ (Rc_q_4 ++ Rm_q_4)) : va_W).length) [] (he_all _) rfl rfl (fun _ h9 => absurd h9 List.not_mem_nil) (fun r_5 u_6 H locs hu_7 hP hD hS => ?_)
  obtain ⟨t_430, hI9, ht430, hm430⟩ := hu_7
  obtain ⟨fx_q_8, fm_q_8, Rc_q_8, Rm_q_8, rfl, hc, hm⟩ := hI9
  have hP : va_P g.1 vwCl ([(x0, .inr (9, fx_q_8)), (m0, .inr (10, fm_q_8)), (aL g o0 1 fo_412)] ++ (Rc_q_8 ++ Rm_q_8)) H := hP
  have hD : va_D (lw_A s) ([(x0, .inr (9, fx_q_8)), (m0, .inr (10, fm_q_8)), (aL g o0 1 fo_412)] ++ (Rc_q_8 ++ Rm_q_8)) := hD
  refine lv_istore (lv' := [(6, .int r_5), (5, .int r_1), (0, .ref b), (1, .ref x0), (2, .ref m0), (3, .ref o0), (4, .int (nI i))]) hx hb dL_law_433 hl (by decide) rfl (fun ls hl => ?_)
  refine lv_goto (tgt := 1341) hx hb dL_law_435 (by decide) ?_
  refine W.widen (k := 1000 + 4 * (i + 6)) (n := 100000 + 700 * (i + 6)) (by show 1000 + 4 * i + 1 + 0 ≤ 1000 + 4 * (i + 6); omega) (by show 100000 + 700 * i + 6 + 0 ≤ 100000 + 700 * (i + 6); omega) ?_
  exact kk ((sp_rule S (xs (i + 1)) (xs (i + 2))).2.2) t_430 fo_412 _ H locs ls (ok_rule _ _ hOk) ⟨_, _, _, _, rfl, hc, hm⟩ hP hD hS (lv_sub hl [2, 3, 4, 5, 6] rfl)
set_option maxHeartbeats 8000000 in
set_option maxRecDepth 100000 in
theorem lc_wants {p : Program} {e : Env} {s : State} {m : MethodId} {below : List Frame} {meth : Method} {c : Code} {Q : State → Prop} (l : Launch) (hlt : l.stackTraces = false) (g : he_G) {b Ln : Nat} {xs : Nat → Int32} (C0 : lw_C p s m meth c b Ln xs g) (i : Nat) (hi : i + 6 ≤ Ln) (hL : Ln ≤ 3072) (x0 m0 o0 : Nat) (S : AbS) (t : Int32) (fo : Nat → Int64) (W9 : va_W) (hOk : okS S) (hI : IL g x0 m0 o0 S S t fo W9) {H : Heap} {locs : List Loc} {ls : Array Slot} (hP : va_P g.1 vwCl W9 H) (hD : va_D (lw_A s) W9) (hS : va_S (lw_A s) s.heap H locs) (hl : lv_has ls 8 [(0, .ref b), (1, .ref x0), (2, .ref m0), (3, .ref o0), (4, .int (nI i))]) (kk : ∀ (S2 : AbS) (t2 : Int32) (fo2 : Nat → Int64) (W2 : va_W) (H2 : Heap) (locs2 : List Loc) (ls2 : Array Slot), okS S2 → IL g x0 m0 o0 S2 S2 t2 fo2 W2 → va_P g.1 vwCl W2 H2 → va_D (lw_A s) W2 → va_S (lw_A s) s.heap H2 locs2 → lv_has ls2 8 [(0, .ref b), (1, .ref x0), (2, .ref m0), (3, .ref o0), (4, .int (nI i))] → W p l e room_1 s m #[Value.ref b] below meth c H2 locs2 (1000 + 4 * (i + 6)) (100000 + 700 * (i + 6)) Q (F0 m 1341 ls2 [])) : W p l e room_1 s m #[Value.ref b] below meth c H locs (1000 + 4 * i) (100000 + 700 * i) Q (F0 m 438 ls []) := by
  obtain ⟨hx, hb, hr, hml, hown, hts, hX, hbl, hlk, hK, hE, hA, hbA, hNc⟩ := C0
  obtain ⟨fx, fm, Rc, Rm, rfl, hc, hm⟩ := hI
  refine lv_aload_n hx hb dL_law_438 rfl (lv_at hl 1 rfl) ?_
  refine lv_aload_n hx hb dL_law_439 rfl (lv_at hl 0 rfl) ?_
  refine lv_iload hx hb dL_law_440 (lv_at hl 4 rfl) ?_
  refine lv_iconst (v := 1) hx hb dL_law_442 (by decide) ?_
  refine lv_iadd hx hb dL_law_443 ?_
  refine he_top (nI (i + 1)) (nI_add i 1) ?_
  refine he_sld hx hb hX hbl hbA hS (i + 1) rfl (by omega) (by omega) (xs (i + 1)) rfl dL_law_444 ?_
  refine lv_aload_n hx hb dL_law_445 rfl (lv_at hl 0 rfl) ?_
  refine lv_iload hx hb dL_law_446 (lv_at hl 4 rfl) ?_
  refine lv_iconst (v := 2) hx hb dL_law_448 (by decide) ?_
  refine lv_iadd hx hb dL_law_449 ?_
  refine he_top (nI (i + 2)) (nI_add i 2) ?_
  refine he_sld hx hb hX hbl hbA hS (i + 2) rfl (by omega) (by omega) (xs (i + 2)) rfl dL_law_450 ?_
  refine lv_aload_n hx hb dL_law_451 rfl (lv_at hl 3 rfl) ?_
  refine he_ci (wc := ([(x0, .inr (9, fx)), (m0, .inr (10, fm)), (aL g o0 1 fo)] ++ (Rc ++ Rm))) (wr := []) (vx_runSW (As := [.ref x0, .int (xs (i + 1)), .int (xs (i + 2)), .ref o0]) (rest := []) ⟨hx, hb, hml, hown, hts⟩ (w_wants l hlt g x0 m0 o0 S S t fo _ (xs (i + 1)) (xs (i + 2)) ⟨_, _, _, _, rfl, hc, hm⟩ H.size) (vx_cwSW 4 hts gL_law_L_wants rfl rfl rfl (by decide +kernel) ⟨Nat.le_of_ble_eq_true rfl, Nat.le_of_ble_eq_true rfl⟩) (he_preS (wc := ([(x0, .inr (9, fx)), (m0, .inr (10, fm)), (aL g o0 1 fo)] ++ (Rc ++ Rm))) hK hP hD hS hA hE (List.range (([(x0, .inr (9, fx)), (m0, .inr (10, fm)), (aL g o0 1 fo)] ++ (Rc ++ Rm)) : va_W).length) (he_all _) (he_allnd _)) rfl rfl hl.1 rfl (lv_room (Nat.le_of_ble_eq_true rfl)) dL_law_452 ⟨(by show 1000 + 4 * i + 1 ≤ 601024; omega), (by show 100000 + 700 * i + 6 ≤ 7293034; omega)⟩) hP hD hS hA (List.range (([(x0, .inr (9, fx)), (m0, .inr (10, fm)), (aL g o0 1 fo)] ++ (Rc ++ Rm)) : va_W).length) [] (he_all _) rfl rfl (fun _ h9 => absurd h9 List.not_mem_nil) (fun r_1 u_2 H locs hu_3 hP hD hS => ?_)
  obtain ⟨fo_452, hI9, hr452, ho452⟩ := hu_3
  obtain ⟨fx_q_4, fm_q_4, Rc_q_4, Rm_q_4, rfl, hc, hm⟩ := hI9
  have hP : va_P g.1 vwCl ([(x0, .inr (9, fx_q_4)), (m0, .inr (10, fm_q_4)), (aL g o0 1 fo_452)] ++ (Rc_q_4 ++ Rm_q_4)) H := hP
  have hD : va_D (lw_A s) ([(x0, .inr (9, fx_q_4)), (m0, .inr (10, fm_q_4)), (aL g o0 1 fo_452)] ++ (Rc_q_4 ++ Rm_q_4)) := hD
  refine lv_istore (lv' := [(5, .int r_1), (0, .ref b), (1, .ref x0), (2, .ref m0), (3, .ref o0), (4, .int (nI i))]) hx hb dL_law_455 hl (by decide) rfl (fun ls hl => ?_)
  refine lv_aload_n hx hb dL_law_457 rfl (lv_at hl 3 rfl) ?_
  refine lv_aload_n hx hb dL_law_458 rfl (lv_at hl 1 rfl) ?_
  refine lv_iload hx hb dL_law_459 (lv_at hl 5 rfl) ?_
  refine lv_iconst (v := 1) hx hb dL_law_461 (by decide) ?_
  refine lv_iadd hx hb dL_law_462 ?_
  refine he_top (nI (i + 1)) (nI_add i 1) ?_
  refine he_sld hx hb hX hbl hbA hS (i + 1) rfl (by omega) (by omega) (xs (i + 1)) rfl dL_law_463 ?_
  refine lv_aload_n hx hb dL_law_464 rfl (lv_at hl 1 rfl) ?_
  refine lv_iload hx hb dL_law_465 (lv_at hl 5 rfl) ?_
  refine lv_iconst (v := 2) hx hb dL_law_467 (by decide) ?_
  refine lv_iadd hx hb dL_law_468 ?_
  refine he_top (nI (i + 2)) (nI_add i 2) ?_
  refine he_sld hx hb hX hbl hbA hS (i + 2) rfl (by omega) (by omega) (xs (i + 2)) rfl dL_law_469 ?_
  refine he_ci (wc := ([(x0, .inr (9, fx_q_4)), (m0, .inr (10, fm_q_4)), (aL g o0 1 fo_452)] ++ (Rc_q_4 ++ Rm_q_4))) (wr := []) (va_runV (As := [.int (xs (i + 1)), .int (xs (i + 2))]) (rest := []) ⟨hx, hb, hml, hown, hts⟩ (il_mI (j_wants l g m0 S t _ (xs (i + 1)) (xs (i + 2)) hm) hc H.size) (cwV 2 hts gL_law_X11_wants rfl rfl rfl (by decide +kernel) ⟨Nat.le_of_ble_eq_true rfl, Nat.le_of_ble_eq_true rfl⟩) (he_preV (wc := ([(x0, .inr (9, fx_q_4)), (m0, .inr (10, fm_q_4)), (aL g o0 1 fo_452)] ++ (Rc_q_4 ++ Rm_q_4))) hK hP hD hS hA hE (List.range (([(x0, .inr (9, fx_q_4)), (m0, .inr (10, fm_q_4)), (aL g o0 1 fo_452)] ++ (Rc_q_4 ++ Rm_q_4)) : va_W).length) (he_all _) (he_allnd _) 1 rfl rfl) rfl rfl hl.1 rfl (lv_room (Nat.le_of_ble_eq_true rfl)) dL_law_470 ⟨(by show 1000 + 4 * i + 1 + 0 ≤ 601024; omega), (by show 100000 + 700 * i + 6 + 0 ≤ 7293034; omega)⟩) hP hD hS hA (List.range (([(x0, .inr (9, fx_q_4)), (m0, .inr (10, fm_q_4)), (aL g o0 1 fo_452)] ++ (Rc_q_4 ++ Rm_q_4)) : va_W).length) [] (he_all _) rfl rfl (fun _ h9 => absurd h9 List.not_mem_nil) (fun r_5 u_6 H locs hu_7 hP hD hS => ?_)
  obtain ⟨t_470, hI9, ht470, hm470⟩ := hu_7
  obtain ⟨fx_q_8, fm_q_8, Rc_q_8, Rm_q_8, rfl, hc, hm⟩ := hI9
  have hP : va_P g.1 vwCl ([(x0, .inr (9, fx_q_8)), (m0, .inr (10, fm_q_8)), (aL g o0 1 fo_452)] ++ (Rc_q_8 ++ Rm_q_8)) H := hP
  have hD : va_D (lw_A s) ([(x0, .inr (9, fx_q_8)), (m0, .inr (10, fm_q_8)), (aL g o0 1 fo_452)] ++ (Rc_q_8 ++ Rm_q_8)) := hD
  refine lv_istore (lv' := [(6, .int r_5), (5, .int r_1), (0, .ref b), (1, .ref x0), (2, .ref m0), (3, .ref o0), (4, .int (nI i))]) hx hb dL_law_473 hl (by decide) rfl (fun ls hl => ?_)
  refine lv_goto (tgt := 1341) hx hb dL_law_475 (by decide) ?_
  refine W.widen (k := 1000 + 4 * (i + 6)) (n := 100000 + 700 * (i + 6)) (by show 1000 + 4 * i + 1 + 0 ≤ 1000 + 4 * (i + 6); omega) (by show 100000 + 700 * i + 6 + 0 ≤ 100000 + 700 * (i + 6); omega) ?_
  exact kk ((sp_wants S (xs (i + 1)) (xs (i + 2))).2.2) t_470 fo_452 _ H locs ls (ok_wants _ _ hOk) ⟨_, _, _, _, rfl, hc, hm⟩ hP hD hS (lv_sub hl [2, 3, 4, 5, 6] rfl)
set_option maxHeartbeats 8000000 in
set_option maxRecDepth 100000 in
theorem lc_sign {p : Program} {e : Env} {s : State} {m : MethodId} {below : List Frame} {meth : Method} {c : Code} {Q : State → Prop} (l : Launch) (hlt : l.stackTraces = false) (g : he_G) {b Ln : Nat} {xs : Nat → Int32} (C0 : lw_C p s m meth c b Ln xs g) (i : Nat) (hi : i + 6 ≤ Ln) (hL : Ln ≤ 3072) (x0 m0 o0 : Nat) (S : AbS) (t : Int32) (fo : Nat → Int64) (W9 : va_W) (hOk : okS S) (hI : IL g x0 m0 o0 S S t fo W9) {H : Heap} {locs : List Loc} {ls : Array Slot} (hP : va_P g.1 vwCl W9 H) (hD : va_D (lw_A s) W9) (hS : va_S (lw_A s) s.heap H locs) (hl : lv_has ls 8 [(0, .ref b), (1, .ref x0), (2, .ref m0), (3, .ref o0), (4, .int (nI i))]) (kk : ∀ (S2 : AbS) (t2 : Int32) (fo2 : Nat → Int64) (W2 : va_W) (H2 : Heap) (locs2 : List Loc) (ls2 : Array Slot), okS S2 → IL g x0 m0 o0 S2 S2 t2 fo2 W2 → va_P g.1 vwCl W2 H2 → va_D (lw_A s) W2 → va_S (lw_A s) s.heap H2 locs2 → lv_has ls2 8 [(0, .ref b), (1, .ref x0), (2, .ref m0), (3, .ref o0), (4, .int (nI i))] → W p l e room_1 s m #[Value.ref b] below meth c H2 locs2 (1000 + 4 * (i + 6)) (100000 + 700 * (i + 6)) Q (F0 m 1341 ls2 [])) : W p l e room_1 s m #[Value.ref b] below meth c H locs (1000 + 4 * i) (100000 + 700 * i) Q (F0 m 478 ls []) := by
  obtain ⟨hx, hb, hr, hml, hown, hts, hX, hbl, hlk, hK, hE, hA, hbA, hNc⟩ := C0
  obtain ⟨fx, fm, Rc, Rm, rfl, hc, hm⟩ := hI
  refine lv_aload_n hx hb dL_law_478 rfl (lv_at hl 1 rfl) ?_
  refine lv_aload_n hx hb dL_law_479 rfl (lv_at hl 0 rfl) ?_
  refine lv_iload hx hb dL_law_480 (lv_at hl 4 rfl) ?_
  refine lv_iconst (v := 1) hx hb dL_law_482 (by decide) ?_
  refine lv_iadd hx hb dL_law_483 ?_
  refine he_top (nI (i + 1)) (nI_add i 1) ?_
  refine he_sld hx hb hX hbl hbA hS (i + 1) rfl (by omega) (by omega) (xs (i + 1)) rfl dL_law_484 ?_
  refine lv_aload_n hx hb dL_law_485 rfl (lv_at hl 3 rfl) ?_
  refine he_ci (wc := ([(x0, .inr (9, fx)), (m0, .inr (10, fm)), (aL g o0 1 fo)] ++ (Rc ++ Rm))) (wr := []) (vx_runSW (As := [.ref x0, .int (xs (i + 1)), .ref o0]) (rest := []) ⟨hx, hb, hml, hown, hts⟩ (w_sign l hlt g x0 m0 o0 S S t fo _ (xs (i + 1)) ⟨_, _, _, _, rfl, hc, hm⟩ H.size) (vx_cwSW 3 hts gL_law_L_sign rfl rfl rfl (by decide +kernel) ⟨Nat.le_of_ble_eq_true rfl, Nat.le_of_ble_eq_true rfl⟩) (he_preS (wc := ([(x0, .inr (9, fx)), (m0, .inr (10, fm)), (aL g o0 1 fo)] ++ (Rc ++ Rm))) hK hP hD hS hA hE (List.range (([(x0, .inr (9, fx)), (m0, .inr (10, fm)), (aL g o0 1 fo)] ++ (Rc ++ Rm)) : va_W).length) (he_all _) (he_allnd _)) rfl rfl hl.1 rfl (lv_room (Nat.le_of_ble_eq_true rfl)) dL_law_486 ⟨(by show 1000 + 4 * i + 1 ≤ 601024; omega), (by show 100000 + 700 * i + 6 ≤ 7293034; omega)⟩) hP hD hS hA (List.range (([(x0, .inr (9, fx)), (m0, .inr (10, fm)), (aL g o0 1 fo)] ++ (Rc ++ Rm)) : va_W).length) [] (he_all _) rfl rfl (fun _ h9 => absurd h9 List.not_mem_nil) (fun r_1 u_2 H locs hu_3 hP hD hS => ?_)
  obtain ⟨fo_486, hI9, hr486, ho486⟩ := hu_3
  obtain ⟨fx_q_4, fm_q_4, Rc_q_4, Rm_q_4, rfl, hc, hm⟩ := hI9
  have hP : va_P g.1 vwCl ([(x0, .inr (9, fx_q_4)), (m0, .inr (10, fm_q_4)), (aL g o0 1 fo_486)] ++ (Rc_q_4 ++ Rm_q_4)) H := hP
  have hD : va_D (lw_A s) ([(x0, .inr (9, fx_q_4)), (m0, .inr (10, fm_q_4)), (aL g o0 1 fo_486)] ++ (Rc_q_4 ++ Rm_q_4)) := hD
  refine lv_istore (lv' := [(5, .int r_1), (0, .ref b), (1, .ref x0), (2, .ref m0), (3, .ref o0), (4, .int (nI i))]) hx hb dL_law_489 hl (by decide) rfl (fun ls hl => ?_)
  refine lv_aload_n hx hb dL_law_491 rfl (lv_at hl 3 rfl) ?_
  refine lv_aload_n hx hb dL_law_492 rfl (lv_at hl 1 rfl) ?_
  refine lv_iload hx hb dL_law_493 (lv_at hl 5 rfl) ?_
  refine lv_iconst (v := 1) hx hb dL_law_495 (by decide) ?_
  refine lv_iadd hx hb dL_law_496 ?_
  refine he_top (nI (i + 1)) (nI_add i 1) ?_
  refine he_sld hx hb hX hbl hbA hS (i + 1) rfl (by omega) (by omega) (xs (i + 1)) rfl dL_law_497 ?_
  refine he_ci (wc := ([(x0, .inr (9, fx_q_4)), (m0, .inr (10, fm_q_4)), (aL g o0 1 fo_486)] ++ (Rc_q_4 ++ Rm_q_4))) (wr := []) (va_runV (As := [.int (xs (i + 1))]) (rest := []) ⟨hx, hb, hml, hown, hts⟩ (il_mI (j_sign l g m0 S t _ (xs (i + 1)) hm) hc H.size) (cwV 1 hts gL_law_X11_sign rfl rfl rfl (by decide +kernel) ⟨Nat.le_of_ble_eq_true rfl, Nat.le_of_ble_eq_true rfl⟩) (he_preV (wc := ([(x0, .inr (9, fx_q_4)), (m0, .inr (10, fm_q_4)), (aL g o0 1 fo_486)] ++ (Rc_q_4 ++ Rm_q_4))) hK hP hD hS hA hE (List.range (([(x0, .inr (9, fx_q_4)), (m0, .inr (10, fm_q_4)), (aL g o0 1 fo_486)] ++ (Rc_q_4 ++ Rm_q_4)) : va_W).length) (he_all _) (he_allnd _) 1 rfl rfl) rfl rfl hl.1 rfl (lv_room (Nat.le_of_ble_eq_true rfl)) dL_law_498 ⟨(by show 1000 + 4 * i + 1 + 0 ≤ 601024; omega), (by show 100000 + 700 * i + 6 + 0 ≤ 7293034; omega)⟩) hP hD hS hA (List.range (([(x0, .inr (9, fx_q_4)), (m0, .inr (10, fm_q_4)), (aL g o0 1 fo_486)] ++ (Rc_q_4 ++ Rm_q_4)) : va_W).length) [] (he_all _) rfl rfl (fun _ h9 => absurd h9 List.not_mem_nil) (fun r_5 u_6 H locs hu_7 hP hD hS => ?_)
  obtain ⟨t_498, hI9, ht498, hm498⟩ := hu_7
  obtain ⟨fx_q_8, fm_q_8, Rc_q_8, Rm_q_8, rfl, hc, hm⟩ := hI9
  have hP : va_P g.1 vwCl ([(x0, .inr (9, fx_q_8)), (m0, .inr (10, fm_q_8)), (aL g o0 1 fo_486)] ++ (Rc_q_8 ++ Rm_q_8)) H := hP
  have hD : va_D (lw_A s) ([(x0, .inr (9, fx_q_8)), (m0, .inr (10, fm_q_8)), (aL g o0 1 fo_486)] ++ (Rc_q_8 ++ Rm_q_8)) := hD
  refine lv_istore (lv' := [(6, .int r_5), (5, .int r_1), (0, .ref b), (1, .ref x0), (2, .ref m0), (3, .ref o0), (4, .int (nI i))]) hx hb dL_law_501 hl (by decide) rfl (fun ls hl => ?_)
  refine lv_goto (tgt := 1341) hx hb dL_law_503 (by decide) ?_
  refine W.widen (k := 1000 + 4 * (i + 6)) (n := 100000 + 700 * (i + 6)) (by show 1000 + 4 * i + 1 + 0 ≤ 1000 + 4 * (i + 6); omega) (by show 100000 + 700 * i + 6 + 0 ≤ 100000 + 700 * (i + 6); omega) ?_
  exact kk ((sp_sign S (xs (i + 1))).2.2) t_498 fo_486 _ H locs ls (ok_sign _ hOk) ⟨_, _, _, _, rfl, hc, hm⟩ hP hD hS (lv_sub hl [2, 3, 4, 5, 6] rfl)
set_option maxHeartbeats 8000000 in
set_option maxRecDepth 100000 in
theorem lc_months {p : Program} {e : Env} {s : State} {m : MethodId} {below : List Frame} {meth : Method} {c : Code} {Q : State → Prop} (l : Launch) (hlt : l.stackTraces = false) (g : he_G) {b Ln : Nat} {xs : Nat → Int32} (C0 : lw_C p s m meth c b Ln xs g) (i : Nat) (hi : i + 6 ≤ Ln) (hL : Ln ≤ 3072) (x0 m0 o0 : Nat) (S : AbS) (t : Int32) (fo : Nat → Int64) (W9 : va_W) (hOk : okS S) (hI : IL g x0 m0 o0 S S t fo W9) {H : Heap} {locs : List Loc} {ls : Array Slot} (hP : va_P g.1 vwCl W9 H) (hD : va_D (lw_A s) W9) (hS : va_S (lw_A s) s.heap H locs) (hl : lv_has ls 8 [(0, .ref b), (1, .ref x0), (2, .ref m0), (3, .ref o0), (4, .int (nI i))]) (kk : ∀ (S2 : AbS) (t2 : Int32) (fo2 : Nat → Int64) (W2 : va_W) (H2 : Heap) (locs2 : List Loc) (ls2 : Array Slot), okS S2 → IL g x0 m0 o0 S2 S2 t2 fo2 W2 → va_P g.1 vwCl W2 H2 → va_D (lw_A s) W2 → va_S (lw_A s) s.heap H2 locs2 → lv_has ls2 8 [(0, .ref b), (1, .ref x0), (2, .ref m0), (3, .ref o0), (4, .int (nI i))] → W p l e room_1 s m #[Value.ref b] below meth c H2 locs2 (1000 + 4 * (i + 6)) (100000 + 700 * (i + 6)) Q (F0 m 1341 ls2 [])) : W p l e room_1 s m #[Value.ref b] below meth c H locs (1000 + 4 * i) (100000 + 700 * i) Q (F0 m 506 ls []) := by
  obtain ⟨hx, hb, hr, hml, hown, hts, hX, hbl, hlk, hK, hE, hA, hbA, hNc⟩ := C0
  obtain ⟨fx, fm, Rc, Rm, rfl, hc, hm⟩ := hI
  refine lv_aload_n hx hb dL_law_506 rfl (lv_at hl 1 rfl) ?_
  refine lv_aload_n hx hb dL_law_507 rfl (lv_at hl 0 rfl) ?_
  refine lv_iload hx hb dL_law_508 (lv_at hl 4 rfl) ?_
  refine lv_iconst (v := 1) hx hb dL_law_510 (by decide) ?_
  refine lv_iadd hx hb dL_law_511 ?_
  refine he_top (nI (i + 1)) (nI_add i 1) ?_
  refine he_sld hx hb hX hbl hbA hS (i + 1) rfl (by omega) (by omega) (xs (i + 1)) rfl dL_law_512 ?_
  refine lv_aload_n hx hb dL_law_513 rfl (lv_at hl 3 rfl) ?_
  refine he_ci (wc := ([(x0, .inr (9, fx)), (m0, .inr (10, fm)), (aL g o0 1 fo)] ++ (Rc ++ Rm))) (wr := []) (vx_runSW (As := [.ref x0, .int (xs (i + 1)), .ref o0]) (rest := []) ⟨hx, hb, hml, hown, hts⟩ (w_months l hlt g x0 m0 o0 S S t fo _ (xs (i + 1)) hOk ⟨_, _, _, _, rfl, hc, hm⟩ H.size) (vx_cwSW 3 hts gL_law_L_months rfl rfl rfl (by decide +kernel) ⟨Nat.le_of_ble_eq_true rfl, Nat.le_of_ble_eq_true rfl⟩) (he_preS (wc := ([(x0, .inr (9, fx)), (m0, .inr (10, fm)), (aL g o0 1 fo)] ++ (Rc ++ Rm))) hK hP hD hS hA hE (List.range (([(x0, .inr (9, fx)), (m0, .inr (10, fm)), (aL g o0 1 fo)] ++ (Rc ++ Rm)) : va_W).length) (he_all _) (he_allnd _)) rfl rfl hl.1 rfl (lv_room (Nat.le_of_ble_eq_true rfl)) dL_law_514 ⟨(by show 1000 + 4 * i + 1 ≤ 601024; omega), (by show 100000 + 700 * i + 6 ≤ 7293034; omega)⟩) hP hD hS hA (List.range (([(x0, .inr (9, fx)), (m0, .inr (10, fm)), (aL g o0 1 fo)] ++ (Rc ++ Rm)) : va_W).length) [] (he_all _) rfl rfl (fun _ h9 => absurd h9 List.not_mem_nil) (fun r_1 u_2 H locs hu_3 hP hD hS => ?_)
  obtain ⟨fo_514, hI9, hr514, ho514⟩ := hu_3
  obtain ⟨fx_q_4, fm_q_4, Rc_q_4, Rm_q_4, rfl, hc, hm⟩ := hI9
  have hP : va_P g.1 vwCl ([(x0, .inr (9, fx_q_4)), (m0, .inr (10, fm_q_4)), (aL g o0 1 fo_514)] ++ (Rc_q_4 ++ Rm_q_4)) H := hP
  have hD : va_D (lw_A s) ([(x0, .inr (9, fx_q_4)), (m0, .inr (10, fm_q_4)), (aL g o0 1 fo_514)] ++ (Rc_q_4 ++ Rm_q_4)) := hD
  refine lv_istore (lv' := [(5, .int r_1), (0, .ref b), (1, .ref x0), (2, .ref m0), (3, .ref o0), (4, .int (nI i))]) hx hb dL_law_517 hl (by decide) rfl (fun ls hl => ?_)
  refine lv_aload_n hx hb dL_law_519 rfl (lv_at hl 3 rfl) ?_
  refine lv_aload_n hx hb dL_law_520 rfl (lv_at hl 1 rfl) ?_
  refine lv_iload hx hb dL_law_521 (lv_at hl 5 rfl) ?_
  refine lv_iconst (v := 1) hx hb dL_law_523 (by decide) ?_
  refine lv_iadd hx hb dL_law_524 ?_
  refine he_top (nI (i + 1)) (nI_add i 1) ?_
  refine he_sld hx hb hX hbl hbA hS (i + 1) rfl (by omega) (by omega) (xs (i + 1)) rfl dL_law_525 ?_
  refine he_ci (wc := ([(x0, .inr (9, fx_q_4)), (m0, .inr (10, fm_q_4)), (aL g o0 1 fo_514)] ++ (Rc_q_4 ++ Rm_q_4))) (wr := []) (va_runV (As := [.int (xs (i + 1))]) (rest := []) ⟨hx, hb, hml, hown, hts⟩ (il_mI (j_months l g m0 S t _ (xs (i + 1)) hOk hm) hc H.size) (cwV 1 hts gL_law_X11_months rfl rfl rfl (by decide +kernel) ⟨Nat.le_of_ble_eq_true rfl, Nat.le_of_ble_eq_true rfl⟩) (he_preV (wc := ([(x0, .inr (9, fx_q_4)), (m0, .inr (10, fm_q_4)), (aL g o0 1 fo_514)] ++ (Rc_q_4 ++ Rm_q_4))) hK hP hD hS hA hE (List.range (([(x0, .inr (9, fx_q_4)), (m0, .inr (10, fm_q_4)), (aL g o0 1 fo_514)] ++ (Rc_q_4 ++ Rm_q_4)) : va_W).length) (he_all _) (he_allnd _) 1 rfl rfl) rfl rfl hl.1 rfl (lv_room (Nat.le_of_ble_eq_true rfl)) dL_law_526 ⟨(by show 1000 + 4 * i + 1 + 0 ≤ 601024; omega), (by show 100000 + 700 * i + 6 + 0 ≤ 7293034; omega)⟩) hP hD hS hA (List.range (([(x0, .inr (9, fx_q_4)), (m0, .inr (10, fm_q_4)), (aL g o0 1 fo_514)] ++ (Rc_q_4 ++ Rm_q_4)) : va_W).length) [] (he_all _) rfl rfl (fun _ h9 => absurd h9 List.not_mem_nil) (fun r_5 u_6 H locs hu_7 hP hD hS => ?_)
  obtain ⟨t_526, hI9, ht526, hm526⟩ := hu_7
  obtain ⟨fx_q_8, fm_q_8, Rc_q_8, Rm_q_8, rfl, hc, hm⟩ := hI9
  have hP : va_P g.1 vwCl ([(x0, .inr (9, fx_q_8)), (m0, .inr (10, fm_q_8)), (aL g o0 1 fo_514)] ++ (Rc_q_8 ++ Rm_q_8)) H := hP
  have hD : va_D (lw_A s) ([(x0, .inr (9, fx_q_8)), (m0, .inr (10, fm_q_8)), (aL g o0 1 fo_514)] ++ (Rc_q_8 ++ Rm_q_8)) := hD
  refine lv_istore (lv' := [(6, .int r_5), (5, .int r_1), (0, .ref b), (1, .ref x0), (2, .ref m0), (3, .ref o0), (4, .int (nI i))]) hx hb dL_law_529 hl (by decide) rfl (fun ls hl => ?_)
  refine lv_goto (tgt := 1341) hx hb dL_law_531 (by decide) ?_
  refine W.widen (k := 1000 + 4 * (i + 6)) (n := 100000 + 700 * (i + 6)) (by show 1000 + 4 * i + 1 + 0 ≤ 1000 + 4 * (i + 6); omega) (by show 100000 + 700 * i + 6 + 0 ≤ 100000 + 700 * (i + 6); omega) ?_
  exact kk ((sp_months S (xs (i + 1))).2.2) t_526 fo_514 _ H locs ls (ok_months _ hOk) ⟨_, _, _, _, rfl, hc, hm⟩ hP hD hS (lv_sub hl [2, 3, 4, 5, 6] rfl)
