set_option maxHeartbeats 8000000 in
set_option maxRecDepth 100000 in
theorem lc_undo {p : Program} {e : Env} {s : State} {m : MethodId} {below : List Frame} {meth : Method} {c : Code} {Q : State → Prop} (l : Launch) (hlt : l.stackTraces = false) (g : he_G) {b Ln : Nat} {xs : Nat → Int32} (C0 : lw_C p s m meth c b Ln xs g) (i : Nat) (hi : i + 6 ≤ Ln) (hL : Ln ≤ 3072) (x0 m0 o0 : Nat) (S : AbS) (t : Int32) (fo : Nat → Int64) (W9 : va_W) (hOk : okS S) (hI : IL g x0 m0 o0 S S t fo W9) {H : Heap} {locs : List Loc} {ls : Array Slot} (hP : va_P g.1 vwCl W9 H) (hD : va_D (lw_A s) W9) (hS : va_S (lw_A s) s.heap H locs) (hl : lv_has ls 8 [(0, .ref b), (1, .ref x0), (2, .ref m0), (3, .ref o0), (4, .int (nI i))]) (kk : ∀ (S2 : AbS) (t2 : Int32) (fo2 : Nat → Int64) (W2 : va_W) (H2 : Heap) (locs2 : List Loc) (ls2 : Array Slot), okS S2 → IL g x0 m0 o0 S2 S2 t2 fo2 W2 → va_P g.1 vwCl W2 H2 → va_D (lw_A s) W2 → va_S (lw_A s) s.heap H2 locs2 → lv_has ls2 8 [(0, .ref b), (1, .ref x0), (2, .ref m0), (3, .ref o0), (4, .int (nI i))] → W p l e room_1 s m #[Value.ref b] below meth c H2 locs2 (1000 + 4 * (i + 6)) (100000 + 700 * (i + 6)) Q (F0 m 1341 ls2 [])) : W p l e room_1 s m #[Value.ref b] below meth c H locs (1000 + 4 * i) (100000 + 700 * i) Q (F0 m 534 ls []) := by
  obtain ⟨hx, hb, hr, hml, hown, hts, hX, hbl, hlk, hK, hE, hA, hbA, hNc⟩ := C0
  obtain ⟨fx, fm, Rc, Rm, rfl, hc, hm⟩ := hI
  refine lv_aload_n hx hb dL_law_534 rfl (lv_at hl 1 rfl) ?_
  refine lv_aload_n hx hb dL_law_535 rfl (lv_at hl 0 rfl) ?_
  refine lv_iload hx hb dL_law_536 (lv_at hl 4 rfl) ?_
  refine lv_iconst (v := 1) hx hb dL_law_538 (by decide) ?_
  refine lv_iadd hx hb dL_law_539 ?_
  refine he_top (nI (i + 1)) (nI_add i 1) ?_
  refine he_sld hx hb hX hbl hbA hS (i + 1) rfl (by omega) (by omega) (xs (i + 1)) rfl dL_law_540 ?_
  refine lv_aload_n hx hb dL_law_541 rfl (lv_at hl 3 rfl) ?_
  refine he_ci (wc := ([(x0, .inr (9, fx)), (m0, .inr (10, fm)), (aL g o0 1 fo)] ++ (Rc ++ Rm))) (wr := []) (vx_runSW (As := [.ref x0, .int (xs (i + 1)), .ref o0]) (rest := []) ⟨hx, hb, hml, hown, hts⟩ (w_undo l hlt g x0 m0 o0 S S t fo _ (xs (i + 1)) ⟨_, _, _, _, rfl, hc, hm⟩ H.size) (vx_cwSW 3 hts gL_law_L_undo rfl rfl rfl (by decide +kernel) ⟨Nat.le_of_ble_eq_true rfl, Nat.le_of_ble_eq_true rfl⟩) (he_preS (wc := ([(x0, .inr (9, fx)), (m0, .inr (10, fm)), (aL g o0 1 fo)] ++ (Rc ++ Rm))) hK hP hD hS hA hE (List.range (([(x0, .inr (9, fx)), (m0, .inr (10, fm)), (aL g o0 1 fo)] ++ (Rc ++ Rm)) : va_W).length) (he_all _) (he_allnd _)) rfl rfl hl.1 rfl (lv_room (Nat.le_of_ble_eq_true rfl)) dL_law_542 ⟨(by show 1000 + 4 * i + 1 ≤ 601024; omega), (by show 100000 + 700 * i + 6 ≤ 7293034; omega)⟩) hP hD hS hA (List.range (([(x0, .inr (9, fx)), (m0, .inr (10, fm)), (aL g o0 1 fo)] ++ (Rc ++ Rm)) : va_W).length) [] (he_all _) rfl rfl (fun _ h9 => absurd h9 List.not_mem_nil) (fun r_1 u_2 H locs hu_3 hP hD hS => ?_)
  obtain ⟨fo_542, hI9, hr542, ho542⟩ := hu_3
  obtain ⟨fx_q_4, fm_q_4, Rc_q_4, Rm_q_4, rfl, hc, hm⟩ := hI9
  have hP : va_P g.1 vwCl ([(x0, .inr (9, fx_q_4)), (m0, .inr (10, fm_q_4)), (aL g o0 1 fo_542)] ++ (Rc_q_4 ++ Rm_q_4)) H := hP
  have hD : va_D (lw_A s) ([(x0, .inr (9, fx_q_4)), (m0, .inr (10, fm_q_4)), (aL g o0 1 fo_542)] ++ (Rc_q_4 ++ Rm_q_4)) := hD
  refine lv_istore (lv' := [(5, .int r_1), (0, .ref b), (1, .ref x0), (2, .ref m0), (3, .ref o0), (4, .int (nI i))]) hx hb dL_law_545 hl (by decide) rfl (fun ls hl => ?_)
  refine lv_aload_n hx hb dL_law_547 rfl (lv_at hl 3 rfl) ?_
  refine lv_aload_n hx hb dL_law_548 rfl (lv_at hl 1 rfl) ?_
  refine lv_iload hx hb dL_law_549 (lv_at hl 5 rfl) ?_
  refine lv_iconst (v := 1) hx hb dL_law_551 (by decide) ?_
  refine lv_iadd hx hb dL_law_552 ?_
  refine he_top (nI (i + 1)) (nI_add i 1) ?_
  refine he_sld hx hb hX hbl hbA hS (i + 1) rfl (by omega) (by omega) (xs (i + 1)) rfl dL_law_553 ?_
  refine he_ci (wc := ([(x0, .inr (9, fx_q_4)), (m0, .inr (10, fm_q_4)), (aL g o0 1 fo_542)] ++ (Rc_q_4 ++ Rm_q_4))) (wr := []) (va_runV (As := [.int (xs (i + 1))]) (rest := []) ⟨hx, hb, hml, hown, hts⟩ (il_mI (j_undo l g m0 S t _ (xs (i + 1)) hm) hc H.size) (cwV 1 hts gL_law_X11_undo rfl rfl rfl (by decide +kernel) ⟨Nat.le_of_ble_eq_true rfl, Nat.le_of_ble_eq_true rfl⟩) (he_preV (wc := ([(x0, .inr (9, fx_q_4)), (m0, .inr (10, fm_q_4)), (aL g o0 1 fo_542)] ++ (Rc_q_4 ++ Rm_q_4))) hK hP hD hS hA hE (List.range (([(x0, .inr (9, fx_q_4)), (m0, .inr (10, fm_q_4)), (aL g o0 1 fo_542)] ++ (Rc_q_4 ++ Rm_q_4)) : va_W).length) (he_all _) (he_allnd _) 1 rfl rfl) rfl rfl hl.1 rfl (lv_room (Nat.le_of_ble_eq_true rfl)) dL_law_554 ⟨(by show 1000 + 4 * i + 1 + 0 ≤ 601024; omega), (by show 100000 + 700 * i + 6 + 0 ≤ 7293034; omega)⟩) hP hD hS hA (List.range (([(x0, .inr (9, fx_q_4)), (m0, .inr (10, fm_q_4)), (aL g o0 1 fo_542)] ++ (Rc_q_4 ++ Rm_q_4)) : va_W).length) [] (he_all _) rfl rfl (fun _ h9 => absurd h9 List.not_mem_nil) (fun r_5 u_6 H locs hu_7 hP hD hS => ?_)
  obtain ⟨t_554, hI9, ht554, hm554⟩ := hu_7
  obtain ⟨fx_q_8, fm_q_8, Rc_q_8, Rm_q_8, rfl, hc, hm⟩ := hI9
  have hP : va_P g.1 vwCl ([(x0, .inr (9, fx_q_8)), (m0, .inr (10, fm_q_8)), (aL g o0 1 fo_542)] ++ (Rc_q_8 ++ Rm_q_8)) H := hP
  have hD : va_D (lw_A s) ([(x0, .inr (9, fx_q_8)), (m0, .inr (10, fm_q_8)), (aL g o0 1 fo_542)] ++ (Rc_q_8 ++ Rm_q_8)) := hD
  refine lv_istore (lv' := [(6, .int r_5), (5, .int r_1), (0, .ref b), (1, .ref x0), (2, .ref m0), (3, .ref o0), (4, .int (nI i))]) hx hb dL_law_557 hl (by decide) rfl (fun ls hl => ?_)
  refine lv_goto (tgt := 1341) hx hb dL_law_559 (by decide) ?_
  refine W.widen (k := 1000 + 4 * (i + 6)) (n := 100000 + 700 * (i + 6)) (by show 1000 + 4 * i + 1 + 0 ≤ 1000 + 4 * (i + 6); omega) (by show 100000 + 700 * i + 6 + 0 ≤ 100000 + 700 * (i + 6); omega) ?_
  exact kk ((sp_undo S (xs (i + 1))).2.2) t_554 fo_542 _ H locs ls (ok_undo _ hOk) ⟨_, _, _, _, rfl, hc, hm⟩ hP hD hS (lv_sub hl [2, 3, 4, 5, 6] rfl)
set_option maxHeartbeats 8000000 in
set_option maxRecDepth 100000 in
theorem lc_sums {p : Program} {e : Env} {s : State} {m : MethodId} {below : List Frame} {meth : Method} {c : Code} {Q : State → Prop} (l : Launch) (hlt : l.stackTraces = false) (g : he_G) {b Ln : Nat} {xs : Nat → Int32} (C0 : lw_C p s m meth c b Ln xs g) (i : Nat) (hi : i + 6 ≤ Ln) (hL : Ln ≤ 3072) (x0 m0 o0 : Nat) (S : AbS) (t : Int32) (fo : Nat → Int64) (W9 : va_W) (hOk : okS S) (hI : IL g x0 m0 o0 S S t fo W9) {H : Heap} {locs : List Loc} {ls : Array Slot} (hP : va_P g.1 vwCl W9 H) (hD : va_D (lw_A s) W9) (hS : va_S (lw_A s) s.heap H locs) (hl : lv_has ls 8 [(0, .ref b), (1, .ref x0), (2, .ref m0), (3, .ref o0), (4, .int (nI i))]) (kk : ∀ (S2 : AbS) (t2 : Int32) (fo2 : Nat → Int64) (W2 : va_W) (H2 : Heap) (locs2 : List Loc) (ls2 : Array Slot), okS S2 → IL g x0 m0 o0 S2 S2 t2 fo2 W2 → va_P g.1 vwCl W2 H2 → va_D (lw_A s) W2 → va_S (lw_A s) s.heap H2 locs2 → lv_has ls2 8 [(0, .ref b), (1, .ref x0), (2, .ref m0), (3, .ref o0), (4, .int (nI i))] → W p l e room_1 s m #[Value.ref b] below meth c H2 locs2 (1000 + 4 * (i + 6)) (100000 + 700 * (i + 6)) Q (F0 m 1341 ls2 [])) : W p l e room_1 s m #[Value.ref b] below meth c H locs (1000 + 4 * i) (100000 + 700 * i) Q (F0 m 562 ls []) := by
  obtain ⟨hx, hb, hr, hml, hown, hts, hX, hbl, hlk, hK, hE, hA, hbA, hNc⟩ := C0
  obtain ⟨fx, fm, Rc, Rm, rfl, hc, hm⟩ := hI
  refine lv_aload_n hx hb dL_law_562 rfl (lv_at hl 1 rfl) ?_
  refine lv_aload_n hx hb dL_law_563 rfl (lv_at hl 0 rfl) ?_
  refine lv_iload hx hb dL_law_564 (lv_at hl 4 rfl) ?_
  refine lv_iconst (v := 1) hx hb dL_law_566 (by decide) ?_
  refine lv_iadd hx hb dL_law_567 ?_
  refine he_top (nI (i + 1)) (nI_add i 1) ?_
  refine he_sld hx hb hX hbl hbA hS (i + 1) rfl (by omega) (by omega) (xs (i + 1)) rfl dL_law_568 ?_
  refine lv_aload_n hx hb dL_law_569 rfl (lv_at hl 3 rfl) ?_
  refine he_ci (wc := ([(x0, .inr (9, fx)), (m0, .inr (10, fm)), (aL g o0 1 fo)] ++ (Rc ++ Rm))) (wr := []) (vx_runSW (As := [.ref x0, .int (xs (i + 1)), .ref o0]) (rest := []) ⟨hx, hb, hml, hown, hts⟩ (w_sums l hlt g x0 m0 o0 S S t fo _ (xs (i + 1)) ⟨_, _, _, _, rfl, hc, hm⟩ H.size) (vx_cwSW 3 hts gL_law_L_sums rfl rfl rfl (by decide +kernel) ⟨Nat.le_of_ble_eq_true rfl, Nat.le_of_ble_eq_true rfl⟩) (he_preS (wc := ([(x0, .inr (9, fx)), (m0, .inr (10, fm)), (aL g o0 1 fo)] ++ (Rc ++ Rm))) hK hP hD hS hA hE (List.range (([(x0, .inr (9, fx)), (m0, .inr (10, fm)), (aL g o0 1 fo)] ++ (Rc ++ Rm)) : va_W).length) (he_all _) (he_allnd _)) rfl rfl hl.1 rfl (lv_room (Nat.le_of_ble_eq_true rfl)) dL_law_570 ⟨(by show 1000 + 4 * i + 1 ≤ 601024; omega), (by show 100000 + 700 * i + 6 ≤ 7293034; omega)⟩) hP hD hS hA (List.range (([(x0, .inr (9, fx)), (m0, .inr (10, fm)), (aL g o0 1 fo)] ++ (Rc ++ Rm)) : va_W).length) [] (he_all _) rfl rfl (fun _ h9 => absurd h9 List.not_mem_nil) (fun r_1 u_2 H locs hu_3 hP hD hS => ?_)
  obtain ⟨fo_570, hI9, hr570, ho570⟩ := hu_3
  obtain ⟨fx_q_4, fm_q_4, Rc_q_4, Rm_q_4, rfl, hc, hm⟩ := hI9
  have hP : va_P g.1 vwCl ([(x0, .inr (9, fx_q_4)), (m0, .inr (10, fm_q_4)), (aL g o0 1 fo_570)] ++ (Rc_q_4 ++ Rm_q_4)) H := hP
  have hD : va_D (lw_A s) ([(x0, .inr (9, fx_q_4)), (m0, .inr (10, fm_q_4)), (aL g o0 1 fo_570)] ++ (Rc_q_4 ++ Rm_q_4)) := hD
  refine lv_istore (lv' := [(5, .int r_1), (0, .ref b), (1, .ref x0), (2, .ref m0), (3, .ref o0), (4, .int (nI i))]) hx hb dL_law_573 hl (by decide) rfl (fun ls hl => ?_)
  refine lv_aload_n hx hb dL_law_575 rfl (lv_at hl 3 rfl) ?_
  refine lv_aload_n hx hb dL_law_576 rfl (lv_at hl 1 rfl) ?_
  refine lv_iload hx hb dL_law_577 (lv_at hl 5 rfl) ?_
  refine lv_iconst (v := 1) hx hb dL_law_579 (by decide) ?_
  refine lv_iadd hx hb dL_law_580 ?_
  refine he_top (nI (i + 1)) (nI_add i 1) ?_
  refine he_sld hx hb hX hbl hbA hS (i + 1) rfl (by omega) (by omega) (xs (i + 1)) rfl dL_law_581 ?_
  refine he_ci (wc := ([(x0, .inr (9, fx_q_4)), (m0, .inr (10, fm_q_4)), (aL g o0 1 fo_570)] ++ (Rc_q_4 ++ Rm_q_4))) (wr := []) (va_runV (As := [.int (xs (i + 1))]) (rest := []) ⟨hx, hb, hml, hown, hts⟩ (il_mI (j_sums l g m0 S t _ (xs (i + 1)) hm) hc H.size) (cwV 1 hts gL_law_X11_sums rfl rfl rfl (by decide +kernel) ⟨Nat.le_of_ble_eq_true rfl, Nat.le_of_ble_eq_true rfl⟩) (he_preV (wc := ([(x0, .inr (9, fx_q_4)), (m0, .inr (10, fm_q_4)), (aL g o0 1 fo_570)] ++ (Rc_q_4 ++ Rm_q_4))) hK hP hD hS hA hE (List.range (([(x0, .inr (9, fx_q_4)), (m0, .inr (10, fm_q_4)), (aL g o0 1 fo_570)] ++ (Rc_q_4 ++ Rm_q_4)) : va_W).length) (he_all _) (he_allnd _) 1 rfl rfl) rfl rfl hl.1 rfl (lv_room (Nat.le_of_ble_eq_true rfl)) dL_law_582 ⟨(by show 1000 + 4 * i + 1 + 0 ≤ 601024; omega), (by show 100000 + 700 * i + 6 + 0 ≤ 7293034; omega)⟩) hP hD hS hA (List.range (([(x0, .inr (9, fx_q_4)), (m0, .inr (10, fm_q_4)), (aL g o0 1 fo_570)] ++ (Rc_q_4 ++ Rm_q_4)) : va_W).length) [] (he_all _) rfl rfl (fun _ h9 => absurd h9 List.not_mem_nil) (fun r_5 u_6 H locs hu_7 hP hD hS => ?_)
  obtain ⟨t_582, hI9, ht582, hm582⟩ := hu_7
  obtain ⟨fx_q_8, fm_q_8, Rc_q_8, Rm_q_8, rfl, hc, hm⟩ := hI9
  have hP : va_P g.1 vwCl ([(x0, .inr (9, fx_q_8)), (m0, .inr (10, fm_q_8)), (aL g o0 1 fo_570)] ++ (Rc_q_8 ++ Rm_q_8)) H := hP
  have hD : va_D (lw_A s) ([(x0, .inr (9, fx_q_8)), (m0, .inr (10, fm_q_8)), (aL g o0 1 fo_570)] ++ (Rc_q_8 ++ Rm_q_8)) := hD
  refine lv_istore (lv' := [(6, .int r_5), (5, .int r_1), (0, .ref b), (1, .ref x0), (2, .ref m0), (3, .ref o0), (4, .int (nI i))]) hx hb dL_law_585 hl (by decide) rfl (fun ls hl => ?_)
  refine lv_goto (tgt := 1341) hx hb dL_law_587 (by decide) ?_
  refine W.widen (k := 1000 + 4 * (i + 6)) (n := 100000 + 700 * (i + 6)) (by show 1000 + 4 * i + 1 + 0 ≤ 1000 + 4 * (i + 6); omega) (by show 100000 + 700 * i + 6 + 0 ≤ 100000 + 700 * (i + 6); omega) ?_
  exact kk ((sp_sums S (xs (i + 1))).2.2) t_582 fo_570 _ H locs ls (ok_sums _ hOk) ⟨_, _, _, _, rfl, hc, hm⟩ hP hD hS (lv_sub hl [2, 3, 4, 5, 6] rfl)
set_option maxHeartbeats 8000000 in
set_option maxRecDepth 100000 in
theorem lc_corks {p : Program} {e : Env} {s : State} {m : MethodId} {below : List Frame} {meth : Method} {c : Code} {Q : State → Prop} (l : Launch) (hlt : l.stackTraces = false) (g : he_G) {b Ln : Nat} {xs : Nat → Int32} (C0 : lw_C p s m meth c b Ln xs g) (i : Nat) (hi : i + 6 ≤ Ln) (hL : Ln ≤ 3072) (x0 m0 o0 : Nat) (S : AbS) (t : Int32) (fo : Nat → Int64) (W9 : va_W) (hOk : okS S) (hI : IL g x0 m0 o0 S S t fo W9) {H : Heap} {locs : List Loc} {ls : Array Slot} (hP : va_P g.1 vwCl W9 H) (hD : va_D (lw_A s) W9) (hS : va_S (lw_A s) s.heap H locs) (hl : lv_has ls 8 [(0, .ref b), (1, .ref x0), (2, .ref m0), (3, .ref o0), (4, .int (nI i))]) (kk : ∀ (S2 : AbS) (t2 : Int32) (fo2 : Nat → Int64) (W2 : va_W) (H2 : Heap) (locs2 : List Loc) (ls2 : Array Slot), okS S2 → IL g x0 m0 o0 S2 S2 t2 fo2 W2 → va_P g.1 vwCl W2 H2 → va_D (lw_A s) W2 → va_S (lw_A s) s.heap H2 locs2 → lv_has ls2 8 [(0, .ref b), (1, .ref x0), (2, .ref m0), (3, .ref o0), (4, .int (nI i))] → W p l e room_1 s m #[Value.ref b] below meth c H2 locs2 (1000 + 4 * (i + 6)) (100000 + 700 * (i + 6)) Q (F0 m 1341 ls2 [])) : W p l e room_1 s m #[Value.ref b] below meth c H locs (1000 + 4 * i) (100000 + 700 * i) Q (F0 m 590 ls []) := by
  obtain ⟨hx, hb, hr, hml, hown, hts, hX, hbl, hlk, hK, hE, hA, hbA, hNc⟩ := C0
  obtain ⟨fx, fm, Rc, Rm, rfl, hc, hm⟩ := hI
  refine lv_aload_n hx hb dL_law_590 rfl (lv_at hl 1 rfl) ?_
  refine lv_aload_n hx hb dL_law_591 rfl (lv_at hl 0 rfl) ?_
  refine lv_iload hx hb dL_law_592 (lv_at hl 4 rfl) ?_
  refine lv_iconst (v := 1) hx hb dL_law_594 (by decide) ?_
  refine lv_iadd hx hb dL_law_595 ?_
  refine he_top (nI (i + 1)) (nI_add i 1) ?_
  refine he_sld hx hb hX hbl hbA hS (i + 1) rfl (by omega) (by omega) (xs (i + 1)) rfl dL_law_596 ?_
  refine lv_aload_n hx hb dL_law_597 rfl (lv_at hl 0 rfl) ?_
  refine lv_iload hx hb dL_law_598 (lv_at hl 4 rfl) ?_
  refine lv_iconst (v := 2) hx hb dL_law_600 (by decide) ?_
  refine lv_iadd hx hb dL_law_601 ?_
  refine he_top (nI (i + 2)) (nI_add i 2) ?_
  refine he_sld hx hb hX hbl hbA hS (i + 2) rfl (by omega) (by omega) (xs (i + 2)) rfl dL_law_602 ?_
  refine lv_aload_n hx hb dL_law_603 rfl (lv_at hl 3 rfl) ?_
  refine he_ci (wc := ([(x0, .inr (9, fx)), (m0, .inr (10, fm)), (aL g o0 1 fo)] ++ (Rc ++ Rm))) (wr := []) (vx_runSW (As := [.ref x0, .int (xs (i + 1)), .int (xs (i + 2)), .ref o0]) (rest := []) ⟨hx, hb, hml, hown, hts⟩ (w_corks l hlt g x0 m0 o0 S S t fo _ (xs (i + 1)) (xs (i + 2)) ⟨_, _, _, _, rfl, hc, hm⟩ H.size) (vx_cwSW 4 hts gL_law_L_corks rfl rfl rfl (by decide +kernel) ⟨Nat.le_of_ble_eq_true rfl, Nat.le_of_ble_eq_true rfl⟩) (he_preSN (wc := ([(x0, .inr (9, fx)), (m0, .inr (10, fm)), (aL g o0 1 fo)] ++ (Rc ++ Rm))) hNc hK hP hD hS hA hE (List.range (([(x0, .inr (9, fx)), (m0, .inr (10, fm)), (aL g o0 1 fo)] ++ (Rc ++ Rm)) : va_W).length) (he_all _) (he_allnd _)) rfl rfl hl.1 rfl (lv_room (Nat.le_of_ble_eq_true rfl)) dL_law_604 ⟨(by show 1000 + 4 * i + 1 ≤ 601024; omega), (by show 100000 + 700 * i + 6 ≤ 7293034; omega)⟩) hP hD hS hA (List.range (([(x0, .inr (9, fx)), (m0, .inr (10, fm)), (aL g o0 1 fo)] ++ (Rc ++ Rm)) : va_W).length) [] (he_all _) rfl rfl (fun _ h9 => absurd h9 List.not_mem_nil) (fun r_1 u_2 H locs hu_3 hP hD hS => ?_)
  obtain ⟨fo_604, hI9, hr604, ho604⟩ := hu_3
  obtain ⟨fx_q_4, fm_q_4, Rc_q_4, Rm_q_4, rfl, hc, hm⟩ := hI9
  have hP : va_P g.1 vwCl ([(x0, .inr (9, fx_q_4)), (m0, .inr (10, fm_q_4)), (aL g o0 1 fo_604)] ++ (Rc_q_4 ++ Rm_q_4)) H := hP
  have hD : va_D (lw_A s) ([(x0, .inr (9, fx_q_4)), (m0, .inr (10, fm_q_4)), (aL g o0 1 fo_604)] ++ (Rc_q_4 ++ Rm_q_4)) := hD
  refine lv_istore (lv' := [(5, .int r_1), (0, .ref b), (1, .ref x0), (2, .ref m0), (3, .ref o0), (4, .int (nI i))]) hx hb dL_law_607 hl (by decide) rfl (fun ls hl => ?_)
  refine lv_aload_n hx hb dL_law_609 rfl (lv_at hl 3 rfl) ?_
  refine lv_aload_n hx hb dL_law_610 rfl (lv_at hl 1 rfl) ?_
  refine lv_iload hx hb dL_law_611 (lv_at hl 5 rfl) ?_
  refine lv_iconst (v := 1) hx hb dL_law_613 (by decide) ?_
  refine lv_iadd hx hb dL_law_614 ?_
  refine he_top (nI (i + 1)) (nI_add i 1) ?_
  refine he_sld hx hb hX hbl hbA hS (i + 1) rfl (by omega) (by omega) (xs (i + 1)) rfl dL_law_615 ?_
  refine lv_aload_n hx hb dL_law_616 rfl (lv_at hl 1 rfl) ?_
  refine lv_iload hx hb dL_law_617 (lv_at hl 5 rfl) ?_
  refine lv_iconst (v := 2) hx hb dL_law_619 (by decide) ?_
  refine lv_iadd hx hb dL_law_620 ?_
  refine he_top (nI (i + 2)) (nI_add i 2) ?_
  refine he_sld hx hb hX hbl hbA hS (i + 2) rfl (by omega) (by omega) (xs (i + 2)) rfl dL_law_621 ?_
  refine he_ci (wc := ([(x0, .inr (9, fx_q_4)), (m0, .inr (10, fm_q_4)), (aL g o0 1 fo_604)] ++ (Rc_q_4 ++ Rm_q_4))) (wr := []) (va_runV (As := [.int (xs (i + 1)), .int (xs (i + 2))]) (rest := []) ⟨hx, hb, hml, hown, hts⟩ (il_mI (j_corks l g m0 S t _ (xs (i + 1)) (xs (i + 2)) hm) hc H.size) (cwV 2 hts gL_law_X11_corks rfl rfl rfl (by decide +kernel) ⟨Nat.le_of_ble_eq_true rfl, Nat.le_of_ble_eq_true rfl⟩) (he_preV (wc := ([(x0, .inr (9, fx_q_4)), (m0, .inr (10, fm_q_4)), (aL g o0 1 fo_604)] ++ (Rc_q_4 ++ Rm_q_4))) hK hP hD hS hA hE (List.range (([(x0, .inr (9, fx_q_4)), (m0, .inr (10, fm_q_4)), (aL g o0 1 fo_604)] ++ (Rc_q_4 ++ Rm_q_4)) : va_W).length) (he_all _) (he_allnd _) 1 rfl rfl) rfl rfl hl.1 rfl (lv_room (Nat.le_of_ble_eq_true rfl)) dL_law_622 ⟨(by show 1000 + 4 * i + 1 + 0 ≤ 601024; omega), (by show 100000 + 700 * i + 6 + 0 ≤ 7293034; omega)⟩) hP hD hS hA (List.range (([(x0, .inr (9, fx_q_4)), (m0, .inr (10, fm_q_4)), (aL g o0 1 fo_604)] ++ (Rc_q_4 ++ Rm_q_4)) : va_W).length) [] (he_all _) rfl rfl (fun _ h9 => absurd h9 List.not_mem_nil) (fun r_5 u_6 H locs hu_7 hP hD hS => ?_)
  obtain ⟨t_622, hI9, ht622, hm622⟩ := hu_7
  obtain ⟨fx_q_8, fm_q_8, Rc_q_8, Rm_q_8, rfl, hc, hm⟩ := hI9
  have hP : va_P g.1 vwCl ([(x0, .inr (9, fx_q_8)), (m0, .inr (10, fm_q_8)), (aL g o0 1 fo_604)] ++ (Rc_q_8 ++ Rm_q_8)) H := hP
  have hD : va_D (lw_A s) ([(x0, .inr (9, fx_q_8)), (m0, .inr (10, fm_q_8)), (aL g o0 1 fo_604)] ++ (Rc_q_8 ++ Rm_q_8)) := hD
  refine lv_istore (lv' := [(6, .int r_5), (5, .int r_1), (0, .ref b), (1, .ref x0), (2, .ref m0), (3, .ref o0), (4, .int (nI i))]) hx hb dL_law_625 hl (by decide) rfl (fun ls hl => ?_)
  refine lv_goto (tgt := 1341) hx hb dL_law_627 (by decide) ?_
  refine W.widen (k := 1000 + 4 * (i + 6)) (n := 100000 + 700 * (i + 6)) (by show 1000 + 4 * i + 1 + 0 ≤ 1000 + 4 * (i + 6); omega) (by show 100000 + 700 * i + 6 + 0 ≤ 100000 + 700 * (i + 6); omega) ?_
  exact kk ((sp_corks S (xs (i + 1)) (xs (i + 2))).2.2) t_622 fo_604 _ H locs ls (ok_corks _ _ hOk) ⟨_, _, _, _, rfl, hc, hm⟩ hP hD hS (lv_sub hl [2, 3, 4, 5, 6] rfl)
set_option maxHeartbeats 8000000 in
set_option maxRecDepth 100000 in
theorem lc_would {p : Program} {e : Env} {s : State} {m : MethodId} {below : List Frame} {meth : Method} {c : Code} {Q : State → Prop} (l : Launch) (hlt : l.stackTraces = false) (g : he_G) {b Ln : Nat} {xs : Nat → Int32} (C0 : lw_C p s m meth c b Ln xs g) (i : Nat) (hi : i + 6 ≤ Ln) (hL : Ln ≤ 3072) (x0 m0 o0 : Nat) (S : AbS) (t : Int32) (fo : Nat → Int64) (W9 : va_W) (hOk : okS S) (hI : IL g x0 m0 o0 S S t fo W9) {H : Heap} {locs : List Loc} {ls : Array Slot} (hP : va_P g.1 vwCl W9 H) (hD : va_D (lw_A s) W9) (hS : va_S (lw_A s) s.heap H locs) (hl : lv_has ls 8 [(0, .ref b), (1, .ref x0), (2, .ref m0), (3, .ref o0), (4, .int (nI i))]) (kk : ∀ (S2 : AbS) (t2 : Int32) (fo2 : Nat → Int64) (W2 : va_W) (H2 : Heap) (locs2 : List Loc) (ls2 : Array Slot), okS S2 → IL g x0 m0 o0 S2 S2 t2 fo2 W2 → va_P g.1 vwCl W2 H2 → va_D (lw_A s) W2 → va_S (lw_A s) s.heap H2 locs2 → lv_has ls2 8 [(0, .ref b), (1, .ref x0), (2, .ref m0), (3, .ref o0), (4, .int (nI i))] → W p l e room_1 s m #[Value.ref b] below meth c H2 locs2 (1000 + 4 * (i + 6)) (100000 + 700 * (i + 6)) Q (F0 m 1341 ls2 [])) : W p l e room_1 s m #[Value.ref b] below meth c H locs (1000 + 4 * i) (100000 + 700 * i) Q (F0 m 630 ls []) := by
  obtain ⟨hx, hb, hr, hml, hown, hts, hX, hbl, hlk, hK, hE, hA, hbA, hNc⟩ := C0
  obtain ⟨fx, fm, Rc, Rm, rfl, hc, hm⟩ := hI
  refine lv_aload_n hx hb dL_law_630 rfl (lv_at hl 1 rfl) ?_
  refine lv_aload_n hx hb dL_law_631 rfl (lv_at hl 0 rfl) ?_
  refine lv_iload hx hb dL_law_632 (lv_at hl 4 rfl) ?_
  refine lv_iconst (v := 1) hx hb dL_law_634 (by decide) ?_
  refine lv_iadd hx hb dL_law_635 ?_
  refine he_top (nI (i + 1)) (nI_add i 1) ?_
  refine he_sld hx hb hX hbl hbA hS (i + 1) rfl (by omega) (by omega) (xs (i + 1)) rfl dL_law_636 ?_
  refine lv_aload_n hx hb dL_law_637 rfl (lv_at hl 0 rfl) ?_
  refine lv_iload hx hb dL_law_638 (lv_at hl 4 rfl) ?_
  refine lv_iconst (v := 2) hx hb dL_law_640 (by decide) ?_
  refine lv_iadd hx hb dL_law_641 ?_
  refine he_top (nI (i + 2)) (nI_add i 2) ?_
  refine he_sld hx hb hX hbl hbA hS (i + 2) rfl (by omega) (by omega) (xs (i + 2)) rfl dL_law_642 ?_
  refine lv_aload_n hx hb dL_law_643 rfl (lv_at hl 0 rfl) ?_
  refine lv_iload hx hb dL_law_644 (lv_at hl 4 rfl) ?_
  refine lv_iconst (v := 3) hx hb dL_law_646 (by decide) ?_
  refine lv_iadd hx hb dL_law_647 ?_
  refine he_top (nI (i + 3)) (nI_add i 3) ?_
  refine he_sld hx hb hX hbl hbA hS (i + 3) rfl (by omega) (by omega) (xs (i + 3)) rfl dL_law_648 ?_
  refine lv_aload_n hx hb dL_law_649 rfl (lv_at hl 3 rfl) ?_
  refine he_ci (wc := ([(x0, .inr (9, fx)), (m0, .inr (10, fm)), (aL g o0 1 fo)] ++ (Rc ++ Rm))) (wr := []) (vx_runSW (As := [.ref x0, .int (xs (i + 1)), .int (xs (i + 2)), .int (xs (i + 3)), .ref o0]) (rest := []) ⟨hx, hb, hml, hown, hts⟩ (w_would l hlt g x0 m0 o0 S S t fo _ (xs (i + 1)) (xs (i + 2)) (xs (i + 3)) ⟨_, _, _, _, rfl, hc, hm⟩ H.size) (vx_cwSW 5 hts gL_law_L_would rfl rfl rfl (by decide +kernel) ⟨Nat.le_of_ble_eq_true rfl, Nat.le_of_ble_eq_true rfl⟩) (he_preS (wc := ([(x0, .inr (9, fx)), (m0, .inr (10, fm)), (aL g o0 1 fo)] ++ (Rc ++ Rm))) hK hP hD hS hA hE (List.range (([(x0, .inr (9, fx)), (m0, .inr (10, fm)), (aL g o0 1 fo)] ++ (Rc ++ Rm)) : va_W).length) (he_all _) (he_allnd _)) rfl rfl hl.1 rfl (lv_room (Nat.le_of_ble_eq_true rfl)) dL_law_650 ⟨(by show 1000 + 4 * i + 1 ≤ 601024; omega), (by show 100000 + 700 * i + 6 ≤ 7293034; omega)⟩) hP hD hS hA (List.range (([(x0, .inr (9, fx)), (m0, .inr (10, fm)), (aL g o0 1 fo)] ++ (Rc ++ Rm)) : va_W).length) [] (he_all _) rfl rfl (fun _ h9 => absurd h9 List.not_mem_nil) (fun r_1 u_2 H locs hu_3 hP hD hS => ?_)
  obtain ⟨fo_650, hI9, hr650, ho650⟩ := hu_3
  obtain ⟨fx_q_4, fm_q_4, Rc_q_4, Rm_q_4, rfl, hc, hm⟩ := hI9
  have hP : va_P g.1 vwCl ([(x0, .inr (9, fx_q_4)), (m0, .inr (10, fm_q_4)), (aL g o0 1 fo_650)] ++ (Rc_q_4 ++ Rm_q_4)) H := hP
  have hD : va_D (lw_A s) ([(x0, .inr (9, fx_q_4)), (m0, .inr (10, fm_q_4)), (aL g o0 1 fo_650)] ++ (Rc_q_4 ++ Rm_q_4)) := hD
  refine lv_istore (lv' := [(5, .int r_1), (0, .ref b), (1, .ref x0), (2, .ref m0), (3, .ref o0), (4, .int (nI i))]) hx hb dL_law_653 hl (by decide) rfl (fun ls hl => ?_)
  refine lv_aload_n hx hb dL_law_655 rfl (lv_at hl 3 rfl) ?_
  refine lv_aload_n hx hb dL_law_656 rfl (lv_at hl 1 rfl) ?_
  refine lv_iload hx hb dL_law_657 (lv_at hl 5 rfl) ?_
  refine lv_iconst (v := 1) hx hb dL_law_659 (by decide) ?_
  refine lv_iadd hx hb dL_law_660 ?_
  refine he_top (nI (i + 1)) (nI_add i 1) ?_
  refine he_sld hx hb hX hbl hbA hS (i + 1) rfl (by omega) (by omega) (xs (i + 1)) rfl dL_law_661 ?_
  refine lv_aload_n hx hb dL_law_662 rfl (lv_at hl 1 rfl) ?_
  refine lv_iload hx hb dL_law_663 (lv_at hl 5 rfl) ?_
  refine lv_iconst (v := 2) hx hb dL_law_665 (by decide) ?_
  refine lv_iadd hx hb dL_law_666 ?_
  refine he_top (nI (i + 2)) (nI_add i 2) ?_
  refine he_sld hx hb hX hbl hbA hS (i + 2) rfl (by omega) (by omega) (xs (i + 2)) rfl dL_law_667 ?_
  refine lv_aload_n hx hb dL_law_668 rfl (lv_at hl 1 rfl) ?_
  refine lv_iload hx hb dL_law_669 (lv_at hl 5 rfl) ?_
  refine lv_iconst (v := 3) hx hb dL_law_671 (by decide) ?_
  refine lv_iadd hx hb dL_law_672 ?_
  refine he_top (nI (i + 3)) (nI_add i 3) ?_
  refine he_sld hx hb hX hbl hbA hS (i + 3) rfl (by omega) (by omega) (xs (i + 3)) rfl dL_law_673 ?_
  refine he_ci (wc := ([(x0, .inr (9, fx_q_4)), (m0, .inr (10, fm_q_4)), (aL g o0 1 fo_650)] ++ (Rc_q_4 ++ Rm_q_4))) (wr := []) (va_runV (As := [.int (xs (i + 1)), .int (xs (i + 2)), .int (xs (i + 3))]) (rest := []) ⟨hx, hb, hml, hown, hts⟩ (il_mI (j_would l g m0 S t _ (xs (i + 1)) (xs (i + 2)) (xs (i + 3)) hm) hc H.size) (cwV 3 hts gL_law_X11_would rfl rfl rfl (by decide +kernel) ⟨Nat.le_of_ble_eq_true rfl, Nat.le_of_ble_eq_true rfl⟩) (he_preV (wc := ([(x0, .inr (9, fx_q_4)), (m0, .inr (10, fm_q_4)), (aL g o0 1 fo_650)] ++ (Rc_q_4 ++ Rm_q_4))) hK hP hD hS hA hE (List.range (([(x0, .inr (9, fx_q_4)), (m0, .inr (10, fm_q_4)), (aL g o0 1 fo_650)] ++ (Rc_q_4 ++ Rm_q_4)) : va_W).length) (he_all _) (he_allnd _) 1 rfl rfl) rfl rfl hl.1 rfl (lv_room (Nat.le_of_ble_eq_true rfl)) dL_law_674 ⟨(by show 1000 + 4 * i + 1 + 0 ≤ 601024; omega), (by show 100000 + 700 * i + 6 + 0 ≤ 7293034; omega)⟩) hP hD hS hA (List.range (([(x0, .inr (9, fx_q_4)), (m0, .inr (10, fm_q_4)), (aL g o0 1 fo_650)] ++ (Rc_q_4 ++ Rm_q_4)) : va_W).length) [] (he_all _) rfl rfl (fun _ h9 => absurd h9 List.not_mem_nil) (fun r_5 u_6 H locs hu_7 hP hD hS => ?_)
  obtain ⟨t_674, hI9, ht674, hm674⟩ := hu_7
  obtain ⟨fx_q_8, fm_q_8, Rc_q_8, Rm_q_8, rfl, hc, hm⟩ := hI9
  have hP : va_P g.1 vwCl ([(x0, .inr (9, fx_q_8)), (m0, .inr (10, fm_q_8)), (aL g o0 1 fo_650)] ++ (Rc_q_8 ++ Rm_q_8)) H := hP
  have hD : va_D (lw_A s) ([(x0, .inr (9, fx_q_8)), (m0, .inr (10, fm_q_8)), (aL g o0 1 fo_650)] ++ (Rc_q_8 ++ Rm_q_8)) := hD
  refine lv_istore (lv' := [(6, .int r_5), (5, .int r_1), (0, .ref b), (1, .ref x0), (2, .ref m0), (3, .ref o0), (4, .int (nI i))]) hx hb dL_law_677 hl (by decide) rfl (fun ls hl => ?_)
  refine lv_goto (tgt := 1341) hx hb dL_law_679 (by decide) ?_
  refine W.widen (k := 1000 + 4 * (i + 6)) (n := 100000 + 700 * (i + 6)) (by show 1000 + 4 * i + 1 + 0 ≤ 1000 + 4 * (i + 6); omega) (by show 100000 + 700 * i + 6 + 0 ≤ 100000 + 700 * (i + 6); omega) ?_
  exact kk ((sp_would S (xs (i + 1)) (xs (i + 2)) (xs (i + 3))).2.2) t_674 fo_650 _ H locs ls (ok_would _ _ _ hOk) ⟨_, _, _, _, rfl, hc, hm⟩ hP hD hS (lv_sub hl [2, 3, 4, 5, 6] rfl)
set_option maxHeartbeats 8000000 in
set_option maxRecDepth 100000 in
theorem lc_best {p : Program} {e : Env} {s : State} {m : MethodId} {below : List Frame} {meth : Method} {c : Code} {Q : State → Prop} (l : Launch) (hlt : l.stackTraces = false) (g : he_G) {b Ln : Nat} {xs : Nat → Int32} (C0 : lw_C p s m meth c b Ln xs g) (i : Nat) (hi : i + 6 ≤ Ln) (hL : Ln ≤ 3072) (x0 m0 o0 : Nat) (S : AbS) (t : Int32) (fo : Nat → Int64) (W9 : va_W) (hOk : okS S) (hI : IL g x0 m0 o0 S S t fo W9) {H : Heap} {locs : List Loc} {ls : Array Slot} (hP : va_P g.1 vwCl W9 H) (hD : va_D (lw_A s) W9) (hS : va_S (lw_A s) s.heap H locs) (hl : lv_has ls 8 [(0, .ref b), (1, .ref x0), (2, .ref m0), (3, .ref o0), (4, .int (nI i))]) (kk : ∀ (S2 : AbS) (t2 : Int32) (fo2 : Nat → Int64) (W2 : va_W) (H2 : Heap) (locs2 : List Loc) (ls2 : Array Slot), okS S2 → IL g x0 m0 o0 S2 S2 t2 fo2 W2 → va_P g.1 vwCl W2 H2 → va_D (lw_A s) W2 → va_S (lw_A s) s.heap H2 locs2 → lv_has ls2 8 [(0, .ref b), (1, .ref x0), (2, .ref m0), (3, .ref o0), (4, .int (nI i))] → W p l e room_1 s m #[Value.ref b] below meth c H2 locs2 (1000 + 4 * (i + 6)) (100000 + 700 * (i + 6)) Q (F0 m 1341 ls2 [])) : W p l e room_1 s m #[Value.ref b] below meth c H locs (1000 + 4 * i) (100000 + 700 * i) Q (F0 m 682 ls []) := by
  obtain ⟨hx, hb, hr, hml, hown, hts, hX, hbl, hlk, hK, hE, hA, hbA, hNc⟩ := C0
  obtain ⟨fx, fm, Rc, Rm, rfl, hc, hm⟩ := hI
  refine lv_aload_n hx hb dL_law_682 rfl (lv_at hl 1 rfl) ?_
  refine lv_aload_n hx hb dL_law_683 rfl (lv_at hl 0 rfl) ?_
  refine lv_iload hx hb dL_law_684 (lv_at hl 4 rfl) ?_
  refine lv_iconst (v := 1) hx hb dL_law_686 (by decide) ?_
  refine lv_iadd hx hb dL_law_687 ?_
  refine he_top (nI (i + 1)) (nI_add i 1) ?_
  refine he_sld hx hb hX hbl hbA hS (i + 1) rfl (by omega) (by omega) (xs (i + 1)) rfl dL_law_688 ?_
  refine lv_aload_n hx hb dL_law_689 rfl (lv_at hl 0 rfl) ?_
  refine lv_iload hx hb dL_law_690 (lv_at hl 4 rfl) ?_
  refine lv_iconst (v := 2) hx hb dL_law_692 (by decide) ?_
  refine lv_iadd hx hb dL_law_693 ?_
  refine he_top (nI (i + 2)) (nI_add i 2) ?_
  refine he_sld hx hb hX hbl hbA hS (i + 2) rfl (by omega) (by omega) (xs (i + 2)) rfl dL_law_694 ?_
  refine lv_aload_n hx hb dL_law_695 rfl (lv_at hl 3 rfl) ?_
  refine he_ci (wc := ([(x0, .inr (9, fx)), (m0, .inr (10, fm)), (aL g o0 1 fo)] ++ (Rc ++ Rm))) (wr := []) (vx_runSW (As := [.ref x0, .int (xs (i + 1)), .int (xs (i + 2)), .ref o0]) (rest := []) ⟨hx, hb, hml, hown, hts⟩ (w_best l hlt g x0 m0 o0 S S t fo _ (xs (i + 1)) (xs (i + 2)) ⟨_, _, _, _, rfl, hc, hm⟩ H.size) (vx_cwSW 4 hts gL_law_L_best rfl rfl rfl (by decide +kernel) ⟨Nat.le_of_ble_eq_true rfl, Nat.le_of_ble_eq_true rfl⟩) (he_preS (wc := ([(x0, .inr (9, fx)), (m0, .inr (10, fm)), (aL g o0 1 fo)] ++ (Rc ++ Rm))) hK hP hD hS hA hE (List.range (([(x0, .inr (9, fx)), (m0, .inr (10, fm)), (aL g o0 1 fo)] ++ (Rc ++ Rm)) : va_W).length) (he_all _) (he_allnd _)) rfl rfl hl.1 rfl (lv_room (Nat.le_of_ble_eq_true rfl)) dL_law_696 ⟨(by show 1000 + 4 * i + 1 ≤ 601024; omega), (by show 100000 + 700 * i + 6 ≤ 7293034; omega)⟩) hP hD hS hA (List.range (([(x0, .inr (9, fx)), (m0, .inr (10, fm)), (aL g o0 1 fo)] ++ (Rc ++ Rm)) : va_W).length) [] (he_all _) rfl rfl (fun _ h9 => absurd h9 List.not_mem_nil) (fun r_1 u_2 H locs hu_3 hP hD hS => ?_)
  obtain ⟨fo_696, hI9, hr696, ho696⟩ := hu_3
  obtain ⟨fx_q_4, fm_q_4, Rc_q_4, Rm_q_4, rfl, hc, hm⟩ := hI9
  have hP : va_P g.1 vwCl ([(x0, .inr (9, fx_q_4)), (m0, .inr (10, fm_q_4)), (aL g o0 1 fo_696)] ++ (Rc_q_4 ++ Rm_q_4)) H := hP
  have hD : va_D (lw_A s) ([(x0, .inr (9, fx_q_4)), (m0, .inr (10, fm_q_4)), (aL g o0 1 fo_696)] ++ (Rc_q_4 ++ Rm_q_4)) := hD
  refine lv_istore (lv' := [(5, .int r_1), (0, .ref b), (1, .ref x0), (2, .ref m0), (3, .ref o0), (4, .int (nI i))]) hx hb dL_law_699 hl (by decide) rfl (fun ls hl => ?_)
  refine lv_aload_n hx hb dL_law_701 rfl (lv_at hl 3 rfl) ?_
  refine lv_aload_n hx hb dL_law_702 rfl (lv_at hl 1 rfl) ?_
  refine lv_iload hx hb dL_law_703 (lv_at hl 5 rfl) ?_
  refine lv_iconst (v := 1) hx hb dL_law_705 (by decide) ?_
  refine lv_iadd hx hb dL_law_706 ?_
  refine he_top (nI (i + 1)) (nI_add i 1) ?_
  refine he_sld hx hb hX hbl hbA hS (i + 1) rfl (by omega) (by omega) (xs (i + 1)) rfl dL_law_707 ?_
  refine lv_aload_n hx hb dL_law_708 rfl (lv_at hl 1 rfl) ?_
  refine lv_iload hx hb dL_law_709 (lv_at hl 5 rfl) ?_
  refine lv_iconst (v := 2) hx hb dL_law_711 (by decide) ?_
  refine lv_iadd hx hb dL_law_712 ?_
  refine he_top (nI (i + 2)) (nI_add i 2) ?_
  refine he_sld hx hb hX hbl hbA hS (i + 2) rfl (by omega) (by omega) (xs (i + 2)) rfl dL_law_713 ?_
  refine he_ci (wc := ([(x0, .inr (9, fx_q_4)), (m0, .inr (10, fm_q_4)), (aL g o0 1 fo_696)] ++ (Rc_q_4 ++ Rm_q_4))) (wr := []) (va_runV (As := [.int (xs (i + 1)), .int (xs (i + 2))]) (rest := []) ⟨hx, hb, hml, hown, hts⟩ (il_mI (j_best l g m0 S t _ (xs (i + 1)) (xs (i + 2)) hm) hc H.size) (cwV 2 hts gL_law_X11_best rfl rfl rfl (by decide +kernel) ⟨Nat.le_of_ble_eq_true rfl, Nat.le_of_ble_eq_true rfl⟩) (he_preV (wc := ([(x0, .inr (9, fx_q_4)), (m0, .inr (10, fm_q_4)), (aL g o0 1 fo_696)] ++ (Rc_q_4 ++ Rm_q_4))) hK hP hD hS hA hE (List.range (([(x0, .inr (9, fx_q_4)), (m0, .inr (10, fm_q_4)), (aL g o0 1 fo_696)] ++ (Rc_q_4 ++ Rm_q_4)) : va_W).length) (he_all _) (he_allnd _) 1 rfl rfl) rfl rfl hl.1 rfl (lv_room (Nat.le_of_ble_eq_true rfl)) dL_law_714 ⟨(by show 1000 + 4 * i + 1 + 0 ≤ 601024; omega), (by show 100000 + 700 * i + 6 + 0 ≤ 7293034; omega)⟩) hP hD hS hA (List.range (([(x0, .inr (9, fx_q_4)), (m0, .inr (10, fm_q_4)), (aL g o0 1 fo_696)] ++ (Rc_q_4 ++ Rm_q_4)) : va_W).length) [] (he_all _) rfl rfl (fun _ h9 => absurd h9 List.not_mem_nil) (fun r_5 u_6 H locs hu_7 hP hD hS => ?_)
  obtain ⟨t_714, hI9, ht714, hm714⟩ := hu_7
  obtain ⟨fx_q_8, fm_q_8, Rc_q_8, Rm_q_8, rfl, hc, hm⟩ := hI9
  have hP : va_P g.1 vwCl ([(x0, .inr (9, fx_q_8)), (m0, .inr (10, fm_q_8)), (aL g o0 1 fo_696)] ++ (Rc_q_8 ++ Rm_q_8)) H := hP
  have hD : va_D (lw_A s) ([(x0, .inr (9, fx_q_8)), (m0, .inr (10, fm_q_8)), (aL g o0 1 fo_696)] ++ (Rc_q_8 ++ Rm_q_8)) := hD
  refine lv_istore (lv' := [(6, .int r_5), (5, .int r_1), (0, .ref b), (1, .ref x0), (2, .ref m0), (3, .ref o0), (4, .int (nI i))]) hx hb dL_law_717 hl (by decide) rfl (fun ls hl => ?_)
  refine lv_goto (tgt := 1341) hx hb dL_law_719 (by decide) ?_
  refine W.widen (k := 1000 + 4 * (i + 6)) (n := 100000 + 700 * (i + 6)) (by show 1000 + 4 * i + 1 + 0 ≤ 1000 + 4 * (i + 6); omega) (by show 100000 + 700 * i + 6 + 0 ≤ 100000 + 700 * (i + 6); omega) ?_
  exact kk ((sp_best S (xs (i + 1)) (xs (i + 2))).2.2) t_714 fo_696 _ H locs ls (ok_best _ _ hOk) ⟨_, _, _, _, rfl, hc, hm⟩ hP hD hS (lv_sub hl [2, 3, 4, 5, 6] rfl)
set_option maxHeartbeats 8000000 in
set_option maxRecDepth 100000 in
theorem lc_offer {p : Program} {e : Env} {s : State} {m : MethodId} {below : List Frame} {meth : Method} {c : Code} {Q : State → Prop} (l : Launch) (hlt : l.stackTraces = false) (g : he_G) {b Ln : Nat} {xs : Nat → Int32} (C0 : lw_C p s m meth c b Ln xs g) (i : Nat) (hi : i + 6 ≤ Ln) (hL : Ln ≤ 3072) (x0 m0 o0 : Nat) (S : AbS) (t : Int32) (fo : Nat → Int64) (W9 : va_W) (hOk : okS S) (hI : IL g x0 m0 o0 S S t fo W9) {H : Heap} {locs : List Loc} {ls : Array Slot} (hP : va_P g.1 vwCl W9 H) (hD : va_D (lw_A s) W9) (hS : va_S (lw_A s) s.heap H locs) (hl : lv_has ls 8 [(0, .ref b), (1, .ref x0), (2, .ref m0), (3, .ref o0), (4, .int (nI i))]) (kk : ∀ (S2 : AbS) (t2 : Int32) (fo2 : Nat → Int64) (W2 : va_W) (H2 : Heap) (locs2 : List Loc) (ls2 : Array Slot), okS S2 → IL g x0 m0 o0 S2 S2 t2 fo2 W2 → va_P g.1 vwCl W2 H2 → va_D (lw_A s) W2 → va_S (lw_A s) s.heap H2 locs2 → lv_has ls2 8 [(0, .ref b), (1, .ref x0), (2, .ref m0), (3, .ref o0), (4, .int (nI i))] → W p l e room_1 s m #[Value.ref b] below meth c H2 locs2 (1000 + 4 * (i + 6)) (100000 + 700 * (i + 6)) Q (F0 m 1341 ls2 [])) : W p l e room_1 s m #[Value.ref b] below meth c H locs (1000 + 4 * i) (100000 + 700 * i) Q (F0 m 722 ls []) := by
  obtain ⟨hx, hb, hr, hml, hown, hts, hX, hbl, hlk, hK, hE, hA, hbA, hNc⟩ := C0
  obtain ⟨fx, fm, Rc, Rm, rfl, hc, hm⟩ := hI
  refine lv_aload_n hx hb dL_law_722 rfl (lv_at hl 1 rfl) ?_
  refine lv_aload_n hx hb dL_law_723 rfl (lv_at hl 0 rfl) ?_
  refine lv_iload hx hb dL_law_724 (lv_at hl 4 rfl) ?_
  refine lv_iconst (v := 1) hx hb dL_law_726 (by decide) ?_
  refine lv_iadd hx hb dL_law_727 ?_
  refine he_top (nI (i + 1)) (nI_add i 1) ?_
  refine he_sld hx hb hX hbl hbA hS (i + 1) rfl (by omega) (by omega) (xs (i + 1)) rfl dL_law_728 ?_
  refine lv_aload_n hx hb dL_law_729 rfl (lv_at hl 0 rfl) ?_
  refine lv_iload hx hb dL_law_730 (lv_at hl 4 rfl) ?_
  refine lv_iconst (v := 2) hx hb dL_law_732 (by decide) ?_
  refine lv_iadd hx hb dL_law_733 ?_
  refine he_top (nI (i + 2)) (nI_add i 2) ?_
  refine he_sld hx hb hX hbl hbA hS (i + 2) rfl (by omega) (by omega) (xs (i + 2)) rfl dL_law_734 ?_
  refine lv_aload_n hx hb dL_law_735 rfl (lv_at hl 3 rfl) ?_
  refine he_ci (wc := ([(x0, .inr (9, fx)), (m0, .inr (10, fm)), (aL g o0 1 fo)] ++ (Rc ++ Rm))) (wr := []) (vx_runSW (As := [.ref x0, .int (xs (i + 1)), .int (xs (i + 2)), .ref o0]) (rest := []) ⟨hx, hb, hml, hown, hts⟩ (w_offer l hlt g x0 m0 o0 S S t fo _ (xs (i + 1)) (xs (i + 2)) ⟨_, _, _, _, rfl, hc, hm⟩ H.size) (vx_cwSW 4 hts gL_law_L_offer rfl rfl rfl (by decide +kernel) ⟨Nat.le_of_ble_eq_true rfl, Nat.le_of_ble_eq_true rfl⟩) (he_preS (wc := ([(x0, .inr (9, fx)), (m0, .inr (10, fm)), (aL g o0 1 fo)] ++ (Rc ++ Rm))) hK hP hD hS hA hE (List.range (([(x0, .inr (9, fx)), (m0, .inr (10, fm)), (aL g o0 1 fo)] ++ (Rc ++ Rm)) : va_W).length) (he_all _) (he_allnd _)) rfl rfl hl.1 rfl (lv_room (Nat.le_of_ble_eq_true rfl)) dL_law_736 ⟨(by show 1000 + 4 * i + 1 ≤ 601024; omega), (by show 100000 + 700 * i + 6 ≤ 7293034; omega)⟩) hP hD hS hA (List.range (([(x0, .inr (9, fx)), (m0, .inr (10, fm)), (aL g o0 1 fo)] ++ (Rc ++ Rm)) : va_W).length) [] (he_all _) rfl rfl (fun _ h9 => absurd h9 List.not_mem_nil) (fun r_1 u_2 H locs hu_3 hP hD hS => ?_)
  obtain ⟨fo_736, hI9, hr736, ho736⟩ := hu_3
  obtain ⟨fx_q_4, fm_q_4, Rc_q_4, Rm_q_4, rfl, hc, hm⟩ := hI9
  have hP : va_P g.1 vwCl ([(x0, .inr (9, fx_q_4)), (m0, .inr (10, fm_q_4)), (aL g o0 1 fo_736)] ++ (Rc_q_4 ++ Rm_q_4)) H := hP
  have hD : va_D (lw_A s) ([(x0, .inr (9, fx_q_4)), (m0, .inr (10, fm_q_4)), (aL g o0 1 fo_736)] ++ (Rc_q_4 ++ Rm_q_4)) := hD
  refine lv_istore (lv' := [(5, .int r_1), (0, .ref b), (1, .ref x0), (2, .ref m0), (3, .ref o0), (4, .int (nI i))]) hx hb dL_law_739 hl (by decide) rfl (fun ls hl => ?_)
  refine lv_aload_n hx hb dL_law_741 rfl (lv_at hl 3 rfl) ?_
  refine lv_aload_n hx hb dL_law_742 rfl (lv_at hl 1 rfl) ?_
  refine lv_iload hx hb dL_law_743 (lv_at hl 5 rfl) ?_
  refine lv_iconst (v := 1) hx hb dL_law_745 (by decide) ?_
  refine lv_iadd hx hb dL_law_746 ?_
  refine he_top (nI (i + 1)) (nI_add i 1) ?_
  refine he_sld hx hb hX hbl hbA hS (i + 1) rfl (by omega) (by omega) (xs (i + 1)) rfl dL_law_747 ?_
  refine lv_aload_n hx hb dL_law_748 rfl (lv_at hl 1 rfl) ?_
  refine lv_iload hx hb dL_law_749 (lv_at hl 5 rfl) ?_
  refine lv_iconst (v := 2) hx hb dL_law_751 (by decide) ?_
  refine lv_iadd hx hb dL_law_752 ?_
  refine he_top (nI (i + 2)) (nI_add i 2) ?_
  refine he_sld hx hb hX hbl hbA hS (i + 2) rfl (by omega) (by omega) (xs (i + 2)) rfl dL_law_753 ?_
  refine he_ci (wc := ([(x0, .inr (9, fx_q_4)), (m0, .inr (10, fm_q_4)), (aL g o0 1 fo_736)] ++ (Rc_q_4 ++ Rm_q_4))) (wr := []) (va_runV (As := [.int (xs (i + 1)), .int (xs (i + 2))]) (rest := []) ⟨hx, hb, hml, hown, hts⟩ (il_mI (j_offer l g m0 S t _ (xs (i + 1)) (xs (i + 2)) hm) hc H.size) (cwV 2 hts gL_law_X11_offer rfl rfl rfl (by decide +kernel) ⟨Nat.le_of_ble_eq_true rfl, Nat.le_of_ble_eq_true rfl⟩) (he_preV (wc := ([(x0, .inr (9, fx_q_4)), (m0, .inr (10, fm_q_4)), (aL g o0 1 fo_736)] ++ (Rc_q_4 ++ Rm_q_4))) hK hP hD hS hA hE (List.range (([(x0, .inr (9, fx_q_4)), (m0, .inr (10, fm_q_4)), (aL g o0 1 fo_736)] ++ (Rc_q_4 ++ Rm_q_4)) : va_W).length) (he_all _) (he_allnd _) 1 rfl rfl) rfl rfl hl.1 rfl (lv_room (Nat.le_of_ble_eq_true rfl)) dL_law_754 ⟨(by show 1000 + 4 * i + 1 + 0 ≤ 601024; omega), (by show 100000 + 700 * i + 6 + 0 ≤ 7293034; omega)⟩) hP hD hS hA (List.range (([(x0, .inr (9, fx_q_4)), (m0, .inr (10, fm_q_4)), (aL g o0 1 fo_736)] ++ (Rc_q_4 ++ Rm_q_4)) : va_W).length) [] (he_all _) rfl rfl (fun _ h9 => absurd h9 List.not_mem_nil) (fun r_5 u_6 H locs hu_7 hP hD hS => ?_)
  obtain ⟨t_754, hI9, ht754, hm754⟩ := hu_7
  obtain ⟨fx_q_8, fm_q_8, Rc_q_8, Rm_q_8, rfl, hc, hm⟩ := hI9
  have hP : va_P g.1 vwCl ([(x0, .inr (9, fx_q_8)), (m0, .inr (10, fm_q_8)), (aL g o0 1 fo_736)] ++ (Rc_q_8 ++ Rm_q_8)) H := hP
  have hD : va_D (lw_A s) ([(x0, .inr (9, fx_q_8)), (m0, .inr (10, fm_q_8)), (aL g o0 1 fo_736)] ++ (Rc_q_8 ++ Rm_q_8)) := hD
  refine lv_istore (lv' := [(6, .int r_5), (5, .int r_1), (0, .ref b), (1, .ref x0), (2, .ref m0), (3, .ref o0), (4, .int (nI i))]) hx hb dL_law_757 hl (by decide) rfl (fun ls hl => ?_)
  refine lv_goto (tgt := 1341) hx hb dL_law_759 (by decide) ?_
  refine W.widen (k := 1000 + 4 * (i + 6)) (n := 100000 + 700 * (i + 6)) (by show 1000 + 4 * i + 1 + 0 ≤ 1000 + 4 * (i + 6); omega) (by show 100000 + 700 * i + 6 + 0 ≤ 100000 + 700 * (i + 6); omega) ?_
  exact kk ((sp_offer S (xs (i + 1)) (xs (i + 2))).2.2) t_754 fo_736 _ H locs ls (ok_offer _ _ hOk) ⟨_, _, _, _, rfl, hc, hm⟩ hP hD hS (lv_sub hl [2, 3, 4, 5, 6] rfl)
set_option maxHeartbeats 8000000 in
set_option maxRecDepth 100000 in
theorem lc_nearest {p : Program} {e : Env} {s : State} {m : MethodId} {below : List Frame} {meth : Method} {c : Code} {Q : State → Prop} (l : Launch) (hlt : l.stackTraces = false) (g : he_G) {b Ln : Nat} {xs : Nat → Int32} (C0 : lw_C p s m meth c b Ln xs g) (i : Nat) (hi : i + 6 ≤ Ln) (hL : Ln ≤ 3072) (x0 m0 o0 : Nat) (S : AbS) (t : Int32) (fo : Nat → Int64) (W9 : va_W) (hOk : okS S) (hI : IL g x0 m0 o0 S S t fo W9) {H : Heap} {locs : List Loc} {ls : Array Slot} (hP : va_P g.1 vwCl W9 H) (hD : va_D (lw_A s) W9) (hS : va_S (lw_A s) s.heap H locs) (hl : lv_has ls 8 [(0, .ref b), (1, .ref x0), (2, .ref m0), (3, .ref o0), (4, .int (nI i))]) (kk : ∀ (S2 : AbS) (t2 : Int32) (fo2 : Nat → Int64) (W2 : va_W) (H2 : Heap) (locs2 : List Loc) (ls2 : Array Slot), okS S2 → IL g x0 m0 o0 S2 S2 t2 fo2 W2 → va_P g.1 vwCl W2 H2 → va_D (lw_A s) W2 → va_S (lw_A s) s.heap H2 locs2 → lv_has ls2 8 [(0, .ref b), (1, .ref x0), (2, .ref m0), (3, .ref o0), (4, .int (nI i))] → W p l e room_1 s m #[Value.ref b] below meth c H2 locs2 (1000 + 4 * (i + 6)) (100000 + 700 * (i + 6)) Q (F0 m 1341 ls2 [])) : W p l e room_1 s m #[Value.ref b] below meth c H locs (1000 + 4 * i) (100000 + 700 * i) Q (F0 m 762 ls []) := by
  obtain ⟨hx, hb, hr, hml, hown, hts, hX, hbl, hlk, hK, hE, hA, hbA, hNc⟩ := C0
  obtain ⟨fx, fm, Rc, Rm, rfl, hc, hm⟩ := hI
  refine lv_aload_n hx hb dL_law_762 rfl (lv_at hl 1 rfl) ?_
  refine lv_aload_n hx hb dL_law_763 rfl (lv_at hl 0 rfl) ?_
  refine lv_iload hx hb dL_law_764 (lv_at hl 4 rfl) ?_
  refine lv_iconst (v := 1) hx hb dL_law_766 (by decide) ?_
  refine lv_iadd hx hb dL_law_767 ?_
  refine he_top (nI (i + 1)) (nI_add i 1) ?_
  refine he_sld hx hb hX hbl hbA hS (i + 1) rfl (by omega) (by omega) (xs (i + 1)) rfl dL_law_768 ?_
  refine lv_aload_n hx hb dL_law_769 rfl (lv_at hl 0 rfl) ?_
  refine lv_iload hx hb dL_law_770 (lv_at hl 4 rfl) ?_
  refine lv_iconst (v := 2) hx hb dL_law_772 (by decide) ?_
  refine lv_iadd hx hb dL_law_773 ?_
  refine he_top (nI (i + 2)) (nI_add i 2) ?_
  refine he_sld hx hb hX hbl hbA hS (i + 2) rfl (by omega) (by omega) (xs (i + 2)) rfl dL_law_774 ?_
  refine lv_aload_n hx hb dL_law_775 rfl (lv_at hl 3 rfl) ?_
  refine he_ci (wc := ([(x0, .inr (9, fx)), (m0, .inr (10, fm)), (aL g o0 1 fo)] ++ (Rc ++ Rm))) (wr := []) (vx_runSW (As := [.ref x0, .int (xs (i + 1)), .int (xs (i + 2)), .ref o0]) (rest := []) ⟨hx, hb, hml, hown, hts⟩ (w_nearest l hlt g x0 m0 o0 S S t fo _ (xs (i + 1)) (xs (i + 2)) ⟨_, _, _, _, rfl, hc, hm⟩ H.size) (vx_cwSW 4 hts gL_law_L_nearest rfl rfl rfl (by decide +kernel) ⟨Nat.le_of_ble_eq_true rfl, Nat.le_of_ble_eq_true rfl⟩) (he_preS (wc := ([(x0, .inr (9, fx)), (m0, .inr (10, fm)), (aL g o0 1 fo)] ++ (Rc ++ Rm))) hK hP hD hS hA hE (List.range (([(x0, .inr (9, fx)), (m0, .inr (10, fm)), (aL g o0 1 fo)] ++ (Rc ++ Rm)) : va_W).length) (he_all _) (he_allnd _)) rfl rfl hl.1 rfl (lv_room (Nat.le_of_ble_eq_true rfl)) dL_law_776 ⟨(by show 1000 + 4 * i + 1 ≤ 601024; omega), (by show 100000 + 700 * i + 6 ≤ 7293034; omega)⟩) hP hD hS hA (List.range (([(x0, .inr (9, fx)), (m0, .inr (10, fm)), (aL g o0 1 fo)] ++ (Rc ++ Rm)) : va_W).length) [] (he_all _) rfl rfl (fun _ h9 => absurd h9 List.not_mem_nil) (fun r_1 u_2 H locs hu_3 hP hD hS => ?_)
  obtain ⟨fo_776, hI9, hr776, ho776⟩ := hu_3
  obtain ⟨fx_q_4, fm_q_4, Rc_q_4, Rm_q_4, rfl, hc, hm⟩ := hI9
  have hP : va_P g.1 vwCl ([(x0, .inr (9, fx_q_4)), (m0, .inr (10, fm_q_4)), (aL g o0 1 fo_776)] ++ (Rc_q_4 ++ Rm_q_4)) H := hP
  have hD : va_D (lw_A s) ([(x0, .inr (9, fx_q_4)), (m0, .inr (10, fm_q_4)), (aL g o0 1 fo_776)] ++ (Rc_q_4 ++ Rm_q_4)) := hD
  refine lv_istore (lv' := [(5, .int r_1), (0, .ref b), (1, .ref x0), (2, .ref m0), (3, .ref o0), (4, .int (nI i))]) hx hb dL_law_779 hl (by decide) rfl (fun ls hl => ?_)
  refine lv_aload_n hx hb dL_law_781 rfl (lv_at hl 3 rfl) ?_
  refine lv_aload_n hx hb dL_law_782 rfl (lv_at hl 1 rfl) ?_
  refine lv_iload hx hb dL_law_783 (lv_at hl 5 rfl) ?_
  refine lv_iconst (v := 1) hx hb dL_law_785 (by decide) ?_
  refine lv_iadd hx hb dL_law_786 ?_
  refine he_top (nI (i + 1)) (nI_add i 1) ?_
  refine he_sld hx hb hX hbl hbA hS (i + 1) rfl (by omega) (by omega) (xs (i + 1)) rfl dL_law_787 ?_
  refine lv_aload_n hx hb dL_law_788 rfl (lv_at hl 1 rfl) ?_
  refine lv_iload hx hb dL_law_789 (lv_at hl 5 rfl) ?_
  refine lv_iconst (v := 2) hx hb dL_law_791 (by decide) ?_
  refine lv_iadd hx hb dL_law_792 ?_
  refine he_top (nI (i + 2)) (nI_add i 2) ?_
  refine he_sld hx hb hX hbl hbA hS (i + 2) rfl (by omega) (by omega) (xs (i + 2)) rfl dL_law_793 ?_
  refine he_ci (wc := ([(x0, .inr (9, fx_q_4)), (m0, .inr (10, fm_q_4)), (aL g o0 1 fo_776)] ++ (Rc_q_4 ++ Rm_q_4))) (wr := []) (va_runV (As := [.int (xs (i + 1)), .int (xs (i + 2))]) (rest := []) ⟨hx, hb, hml, hown, hts⟩ (il_mI (j_nearest l g m0 S t _ (xs (i + 1)) (xs (i + 2)) hm) hc H.size) (cwV 2 hts gL_law_X11_nearest rfl rfl rfl (by decide +kernel) ⟨Nat.le_of_ble_eq_true rfl, Nat.le_of_ble_eq_true rfl⟩) (he_preV (wc := ([(x0, .inr (9, fx_q_4)), (m0, .inr (10, fm_q_4)), (aL g o0 1 fo_776)] ++ (Rc_q_4 ++ Rm_q_4))) hK hP hD hS hA hE (List.range (([(x0, .inr (9, fx_q_4)), (m0, .inr (10, fm_q_4)), (aL g o0 1 fo_776)] ++ (Rc_q_4 ++ Rm_q_4)) : va_W).length) (he_all _) (he_allnd _) 1 rfl rfl) rfl rfl hl.1 rfl (lv_room (Nat.le_of_ble_eq_true rfl)) dL_law_794 ⟨(by show 1000 + 4 * i + 1 + 0 ≤ 601024; omega), (by show 100000 + 700 * i + 6 + 0 ≤ 7293034; omega)⟩) hP hD hS hA (List.range (([(x0, .inr (9, fx_q_4)), (m0, .inr (10, fm_q_4)), (aL g o0 1 fo_776)] ++ (Rc_q_4 ++ Rm_q_4)) : va_W).length) [] (he_all _) rfl rfl (fun _ h9 => absurd h9 List.not_mem_nil) (fun r_5 u_6 H locs hu_7 hP hD hS => ?_)
  obtain ⟨t_794, hI9, ht794, hm794⟩ := hu_7
  obtain ⟨fx_q_8, fm_q_8, Rc_q_8, Rm_q_8, rfl, hc, hm⟩ := hI9
  have hP : va_P g.1 vwCl ([(x0, .inr (9, fx_q_8)), (m0, .inr (10, fm_q_8)), (aL g o0 1 fo_776)] ++ (Rc_q_8 ++ Rm_q_8)) H := hP
  have hD : va_D (lw_A s) ([(x0, .inr (9, fx_q_8)), (m0, .inr (10, fm_q_8)), (aL g o0 1 fo_776)] ++ (Rc_q_8 ++ Rm_q_8)) := hD
  refine lv_istore (lv' := [(6, .int r_5), (5, .int r_1), (0, .ref b), (1, .ref x0), (2, .ref m0), (3, .ref o0), (4, .int (nI i))]) hx hb dL_law_797 hl (by decide) rfl (fun ls hl => ?_)
  refine lv_goto (tgt := 1341) hx hb dL_law_799 (by decide) ?_
  refine W.widen (k := 1000 + 4 * (i + 6)) (n := 100000 + 700 * (i + 6)) (by show 1000 + 4 * i + 1 + 0 ≤ 1000 + 4 * (i + 6); omega) (by show 100000 + 700 * i + 6 + 0 ≤ 100000 + 700 * (i + 6); omega) ?_
  exact kk ((sp_nearest S (xs (i + 1)) (xs (i + 2))).2.2) t_794 fo_776 _ H locs ls (ok_nearest _ _ hOk) ⟨_, _, _, _, rfl, hc, hm⟩ hP hD hS (lv_sub hl [2, 3, 4, 5, 6] rfl)
set_option maxHeartbeats 8000000 in
set_option maxRecDepth 100000 in
theorem lc_stop {p : Program} {e : Env} {s : State} {m : MethodId} {below : List Frame} {meth : Method} {c : Code} {Q : State → Prop} (l : Launch) (hlt : l.stackTraces = false) (g : he_G) {b Ln : Nat} {xs : Nat → Int32} (C0 : lw_C p s m meth c b Ln xs g) (i : Nat) (hi : i + 6 ≤ Ln) (hL : Ln ≤ 3072) (x0 m0 o0 : Nat) (S : AbS) (t : Int32) (fo : Nat → Int64) (W9 : va_W) (hOk : okS S) (hI : IL g x0 m0 o0 S S t fo W9) {H : Heap} {locs : List Loc} {ls : Array Slot} (hP : va_P g.1 vwCl W9 H) (hD : va_D (lw_A s) W9) (hS : va_S (lw_A s) s.heap H locs) (hl : lv_has ls 8 [(0, .ref b), (1, .ref x0), (2, .ref m0), (3, .ref o0), (4, .int (nI i))]) (kk : ∀ (S2 : AbS) (t2 : Int32) (fo2 : Nat → Int64) (W2 : va_W) (H2 : Heap) (locs2 : List Loc) (ls2 : Array Slot), okS S2 → IL g x0 m0 o0 S2 S2 t2 fo2 W2 → va_P g.1 vwCl W2 H2 → va_D (lw_A s) W2 → va_S (lw_A s) s.heap H2 locs2 → lv_has ls2 8 [(0, .ref b), (1, .ref x0), (2, .ref m0), (3, .ref o0), (4, .int (nI i))] → W p l e room_1 s m #[Value.ref b] below meth c H2 locs2 (1000 + 4 * (i + 6)) (100000 + 700 * (i + 6)) Q (F0 m 1341 ls2 [])) : W p l e room_1 s m #[Value.ref b] below meth c H locs (1000 + 4 * i) (100000 + 700 * i) Q (F0 m 802 ls []) := by
  obtain ⟨hx, hb, hr, hml, hown, hts, hX, hbl, hlk, hK, hE, hA, hbA, hNc⟩ := C0
  obtain ⟨fx, fm, Rc, Rm, rfl, hc, hm⟩ := hI
  refine lv_aload_n hx hb dL_law_802 rfl (lv_at hl 1 rfl) ?_
  refine lv_aload_n hx hb dL_law_803 rfl (lv_at hl 0 rfl) ?_
  refine lv_iload hx hb dL_law_804 (lv_at hl 4 rfl) ?_
  refine lv_iconst (v := 1) hx hb dL_law_806 (by decide) ?_
  refine lv_iadd hx hb dL_law_807 ?_
  refine he_top (nI (i + 1)) (nI_add i 1) ?_
  refine he_sld hx hb hX hbl hbA hS (i + 1) rfl (by omega) (by omega) (xs (i + 1)) rfl dL_law_808 ?_
  refine lv_aload_n hx hb dL_law_809 rfl (lv_at hl 0 rfl) ?_
  refine lv_iload hx hb dL_law_810 (lv_at hl 4 rfl) ?_
  refine lv_iconst (v := 2) hx hb dL_law_812 (by decide) ?_
  refine lv_iadd hx hb dL_law_813 ?_
  refine he_top (nI (i + 2)) (nI_add i 2) ?_
  refine he_sld hx hb hX hbl hbA hS (i + 2) rfl (by omega) (by omega) (xs (i + 2)) rfl dL_law_814 ?_
  refine lv_aload_n hx hb dL_law_815 rfl (lv_at hl 3 rfl) ?_
  refine he_ci (wc := ([(x0, .inr (9, fx)), (m0, .inr (10, fm)), (aL g o0 1 fo)] ++ (Rc ++ Rm))) (wr := []) (vx_runSW (As := [.ref x0, .int (xs (i + 1)), .int (xs (i + 2)), .ref o0]) (rest := []) ⟨hx, hb, hml, hown, hts⟩ (w_stop l hlt g x0 m0 o0 S S t fo _ (xs (i + 1)) (xs (i + 2)) ⟨_, _, _, _, rfl, hc, hm⟩ H.size) (vx_cwSW 4 hts gL_law_L_stop rfl rfl rfl (by decide +kernel) ⟨Nat.le_of_ble_eq_true rfl, Nat.le_of_ble_eq_true rfl⟩) (he_preS (wc := ([(x0, .inr (9, fx)), (m0, .inr (10, fm)), (aL g o0 1 fo)] ++ (Rc ++ Rm))) hK hP hD hS hA hE (List.range (([(x0, .inr (9, fx)), (m0, .inr (10, fm)), (aL g o0 1 fo)] ++ (Rc ++ Rm)) : va_W).length) (he_all _) (he_allnd _)) rfl rfl hl.1 rfl (lv_room (Nat.le_of_ble_eq_true rfl)) dL_law_816 ⟨(by show 1000 + 4 * i + 1 ≤ 601024; omega), (by show 100000 + 700 * i + 6 ≤ 7293034; omega)⟩) hP hD hS hA (List.range (([(x0, .inr (9, fx)), (m0, .inr (10, fm)), (aL g o0 1 fo)] ++ (Rc ++ Rm)) : va_W).length) [] (he_all _) rfl rfl (fun _ h9 => absurd h9 List.not_mem_nil) (fun r_1 u_2 H locs hu_3 hP hD hS => ?_)
  obtain ⟨fo_816, hI9, hr816, ho816⟩ := hu_3
  obtain ⟨fx_q_4, fm_q_4, Rc_q_4, Rm_q_4, rfl, hc, hm⟩ := hI9
  have hP : va_P g.1 vwCl ([(x0, .inr (9, fx_q_4)), (m0, .inr (10, fm_q_4)), (aL g o0 1 fo_816)] ++ (Rc_q_4 ++ Rm_q_4)) H := hP
  have hD : va_D (lw_A s) ([(x0, .inr (9, fx_q_4)), (m0, .inr (10, fm_q_4)), (aL g o0 1 fo_816)] ++ (Rc_q_4 ++ Rm_q_4)) := hD
  refine lv_istore (lv' := [(5, .int r_1), (0, .ref b), (1, .ref x0), (2, .ref m0), (3, .ref o0), (4, .int (nI i))]) hx hb dL_law_819 hl (by decide) rfl (fun ls hl => ?_)
  refine lv_aload_n hx hb dL_law_821 rfl (lv_at hl 3 rfl) ?_
  refine lv_aload_n hx hb dL_law_822 rfl (lv_at hl 1 rfl) ?_
  refine lv_iload hx hb dL_law_823 (lv_at hl 5 rfl) ?_
  refine lv_iconst (v := 1) hx hb dL_law_825 (by decide) ?_
  refine lv_iadd hx hb dL_law_826 ?_
  refine he_top (nI (i + 1)) (nI_add i 1) ?_
  refine he_sld hx hb hX hbl hbA hS (i + 1) rfl (by omega) (by omega) (xs (i + 1)) rfl dL_law_827 ?_
  refine lv_aload_n hx hb dL_law_828 rfl (lv_at hl 1 rfl) ?_
  refine lv_iload hx hb dL_law_829 (lv_at hl 5 rfl) ?_
  refine lv_iconst (v := 2) hx hb dL_law_831 (by decide) ?_
  refine lv_iadd hx hb dL_law_832 ?_
  refine he_top (nI (i + 2)) (nI_add i 2) ?_
  refine he_sld hx hb hX hbl hbA hS (i + 2) rfl (by omega) (by omega) (xs (i + 2)) rfl dL_law_833 ?_
  refine he_ci (wc := ([(x0, .inr (9, fx_q_4)), (m0, .inr (10, fm_q_4)), (aL g o0 1 fo_816)] ++ (Rc_q_4 ++ Rm_q_4))) (wr := []) (va_runV (As := [.int (xs (i + 1)), .int (xs (i + 2))]) (rest := []) ⟨hx, hb, hml, hown, hts⟩ (il_mI (j_stop l g m0 S t _ (xs (i + 1)) (xs (i + 2)) hm) hc H.size) (cwV 2 hts gL_law_X11_stop rfl rfl rfl (by decide +kernel) ⟨Nat.le_of_ble_eq_true rfl, Nat.le_of_ble_eq_true rfl⟩) (he_preV (wc := ([(x0, .inr (9, fx_q_4)), (m0, .inr (10, fm_q_4)), (aL g o0 1 fo_816)] ++ (Rc_q_4 ++ Rm_q_4))) hK hP hD hS hA hE (List.range (([(x0, .inr (9, fx_q_4)), (m0, .inr (10, fm_q_4)), (aL g o0 1 fo_816)] ++ (Rc_q_4 ++ Rm_q_4)) : va_W).length) (he_all _) (he_allnd _) 1 rfl rfl) rfl rfl hl.1 rfl (lv_room (Nat.le_of_ble_eq_true rfl)) dL_law_834 ⟨(by show 1000 + 4 * i + 1 + 0 ≤ 601024; omega), (by show 100000 + 700 * i + 6 + 0 ≤ 7293034; omega)⟩) hP hD hS hA (List.range (([(x0, .inr (9, fx_q_4)), (m0, .inr (10, fm_q_4)), (aL g o0 1 fo_816)] ++ (Rc_q_4 ++ Rm_q_4)) : va_W).length) [] (he_all _) rfl rfl (fun _ h9 => absurd h9 List.not_mem_nil) (fun r_5 u_6 H locs hu_7 hP hD hS => ?_)
  obtain ⟨t_834, hI9, ht834, hm834⟩ := hu_7
  obtain ⟨fx_q_8, fm_q_8, Rc_q_8, Rm_q_8, rfl, hc, hm⟩ := hI9
  have hP : va_P g.1 vwCl ([(x0, .inr (9, fx_q_8)), (m0, .inr (10, fm_q_8)), (aL g o0 1 fo_816)] ++ (Rc_q_8 ++ Rm_q_8)) H := hP
  have hD : va_D (lw_A s) ([(x0, .inr (9, fx_q_8)), (m0, .inr (10, fm_q_8)), (aL g o0 1 fo_816)] ++ (Rc_q_8 ++ Rm_q_8)) := hD
  refine lv_istore (lv' := [(6, .int r_5), (5, .int r_1), (0, .ref b), (1, .ref x0), (2, .ref m0), (3, .ref o0), (4, .int (nI i))]) hx hb dL_law_837 hl (by decide) rfl (fun ls hl => ?_)
  refine lv_goto (tgt := 1341) hx hb dL_law_839 (by decide) ?_
  refine W.widen (k := 1000 + 4 * (i + 6)) (n := 100000 + 700 * (i + 6)) (by show 1000 + 4 * i + 1 + 0 ≤ 1000 + 4 * (i + 6); omega) (by show 100000 + 700 * i + 6 + 0 ≤ 100000 + 700 * (i + 6); omega) ?_
  exact kk ((sp_stop S (xs (i + 1)) (xs (i + 2))).2.2) t_834 fo_816 _ H locs ls (ok_stop _ _ hOk) ⟨_, _, _, _, rfl, hc, hm⟩ hP hD hS (lv_sub hl [2, 3, 4, 5, 6] rfl)
set_option maxHeartbeats 8000000 in
set_option maxRecDepth 100000 in
theorem lc_odds {p : Program} {e : Env} {s : State} {m : MethodId} {below : List Frame} {meth : Method} {c : Code} {Q : State → Prop} (l : Launch) (hlt : l.stackTraces = false) (g : he_G) {b Ln : Nat} {xs : Nat → Int32} (C0 : lw_C p s m meth c b Ln xs g) (i : Nat) (hi : i + 6 ≤ Ln) (hL : Ln ≤ 3072) (x0 m0 o0 : Nat) (S : AbS) (t : Int32) (fo : Nat → Int64) (W9 : va_W) (hOk : okS S) (hI : IL g x0 m0 o0 S S t fo W9) {H : Heap} {locs : List Loc} {ls : Array Slot} (hP : va_P g.1 vwCl W9 H) (hD : va_D (lw_A s) W9) (hS : va_S (lw_A s) s.heap H locs) (hl : lv_has ls 8 [(0, .ref b), (1, .ref x0), (2, .ref m0), (3, .ref o0), (4, .int (nI i))]) (kk : ∀ (S2 : AbS) (t2 : Int32) (fo2 : Nat → Int64) (W2 : va_W) (H2 : Heap) (locs2 : List Loc) (ls2 : Array Slot), okS S2 → IL g x0 m0 o0 S2 S2 t2 fo2 W2 → va_P g.1 vwCl W2 H2 → va_D (lw_A s) W2 → va_S (lw_A s) s.heap H2 locs2 → lv_has ls2 8 [(0, .ref b), (1, .ref x0), (2, .ref m0), (3, .ref o0), (4, .int (nI i))] → W p l e room_1 s m #[Value.ref b] below meth c H2 locs2 (1000 + 4 * (i + 6)) (100000 + 700 * (i + 6)) Q (F0 m 1341 ls2 [])) : W p l e room_1 s m #[Value.ref b] below meth c H locs (1000 + 4 * i) (100000 + 700 * i) Q (F0 m 842 ls []) := by
  obtain ⟨hx, hb, hr, hml, hown, hts, hX, hbl, hlk, hK, hE, hA, hbA, hNc⟩ := C0
  obtain ⟨fx, fm, Rc, Rm, rfl, hc, hm⟩ := hI
  refine lv_aload_n hx hb dL_law_842 rfl (lv_at hl 1 rfl) ?_
  refine lv_aload_n hx hb dL_law_843 rfl (lv_at hl 0 rfl) ?_
  refine lv_iload hx hb dL_law_844 (lv_at hl 4 rfl) ?_
  refine lv_iconst (v := 1) hx hb dL_law_846 (by decide) ?_
  refine lv_iadd hx hb dL_law_847 ?_
  refine he_top (nI (i + 1)) (nI_add i 1) ?_
  refine he_sld hx hb hX hbl hbA hS (i + 1) rfl (by omega) (by omega) (xs (i + 1)) rfl dL_law_848 ?_
  refine lv_aload_n hx hb dL_law_849 rfl (lv_at hl 0 rfl) ?_
  refine lv_iload hx hb dL_law_850 (lv_at hl 4 rfl) ?_
  refine lv_iconst (v := 2) hx hb dL_law_852 (by decide) ?_
  refine lv_iadd hx hb dL_law_853 ?_
  refine he_top (nI (i + 2)) (nI_add i 2) ?_
  refine he_sld hx hb hX hbl hbA hS (i + 2) rfl (by omega) (by omega) (xs (i + 2)) rfl dL_law_854 ?_
  refine he_ci (wc := ([(x0, .inr (9, fx)), (m0, .inr (10, fm)), (aL g o0 1 fo)] ++ (Rc ++ Rm))) (wr := []) (vx_runSW (As := [.ref x0, .int (xs (i + 1)), .int (xs (i + 2))]) (rest := []) ⟨hx, hb, hml, hown, hts⟩ (w_odds l hlt g x0 m0 o0 S S t fo _ (xs (i + 1)) (xs (i + 2)) ⟨_, _, _, _, rfl, hc, hm⟩ H.size) (vx_cwSW 3 hts gL_law_L_odds rfl rfl rfl (by decide +kernel) ⟨Nat.le_of_ble_eq_true rfl, Nat.le_of_ble_eq_true rfl⟩) (he_preS (wc := ([(x0, .inr (9, fx)), (m0, .inr (10, fm)), (aL g o0 1 fo)] ++ (Rc ++ Rm))) hK hP hD hS hA hE (List.range (([(x0, .inr (9, fx)), (m0, .inr (10, fm)), (aL g o0 1 fo)] ++ (Rc ++ Rm)) : va_W).length) (he_all _) (he_allnd _)) rfl rfl hl.1 rfl (lv_room (Nat.le_of_ble_eq_true rfl)) dL_law_855 ⟨(by show 1000 + 4 * i + 1 ≤ 601024; omega), (by show 100000 + 700 * i + 6 ≤ 7293034; omega)⟩) hP hD hS hA (List.range (([(x0, .inr (9, fx)), (m0, .inr (10, fm)), (aL g o0 1 fo)] ++ (Rc ++ Rm)) : va_W).length) [] (he_all _) rfl rfl (fun _ h9 => absurd h9 List.not_mem_nil) (fun r_1 u_2 H locs hu_3 hP hD hS => ?_)
  obtain ⟨fo_855, hI9, hr855, ho855⟩ := hu_3
  obtain ⟨fx_q_4, fm_q_4, Rc_q_4, Rm_q_4, rfl, hc, hm⟩ := hI9
  have hP : va_P g.1 vwCl ([(x0, .inr (9, fx_q_4)), (m0, .inr (10, fm_q_4)), (aL g o0 1 fo_855)] ++ (Rc_q_4 ++ Rm_q_4)) H := hP
  have hD : va_D (lw_A s) ([(x0, .inr (9, fx_q_4)), (m0, .inr (10, fm_q_4)), (aL g o0 1 fo_855)] ++ (Rc_q_4 ++ Rm_q_4)) := hD
  refine lv_istore (lv' := [(5, .int r_1), (0, .ref b), (1, .ref x0), (2, .ref m0), (3, .ref o0), (4, .int (nI i))]) hx hb dL_law_858 hl (by decide) rfl (fun ls hl => ?_)
  refine lv_aload_n hx hb dL_law_860 rfl (lv_at hl 3 rfl) ?_
  refine lv_aload_n hx hb dL_law_861 rfl (lv_at hl 1 rfl) ?_
  refine lv_iload hx hb dL_law_862 (lv_at hl 5 rfl) ?_
  refine lv_iconst (v := 1) hx hb dL_law_864 (by decide) ?_
  refine lv_iadd hx hb dL_law_865 ?_
  refine he_top (nI (i + 1)) (nI_add i 1) ?_
  refine he_sld hx hb hX hbl hbA hS (i + 1) rfl (by omega) (by omega) (xs (i + 1)) rfl dL_law_866 ?_
  refine lv_aload_n hx hb dL_law_867 rfl (lv_at hl 1 rfl) ?_
  refine lv_iload hx hb dL_law_868 (lv_at hl 5 rfl) ?_
  refine lv_iconst (v := 2) hx hb dL_law_870 (by decide) ?_
  refine lv_iadd hx hb dL_law_871 ?_
  refine he_top (nI (i + 2)) (nI_add i 2) ?_
  refine he_sld hx hb hX hbl hbA hS (i + 2) rfl (by omega) (by omega) (xs (i + 2)) rfl dL_law_872 ?_
  refine he_cv (wc := ([(x0, .inr (9, fx_q_4)), (m0, .inr (10, fm_q_4)), (aL g o0 1 fo_855)] ++ (Rc_q_4 ++ Rm_q_4))) (wr := []) (va_runV (As := [.int (xs (i + 1)), .int (xs (i + 2))]) (rest := []) ⟨hx, hb, hml, hown, hts⟩ (il_mV (j_odds l g m0 S t _ (xs (i + 1)) (xs (i + 2)) hm) hc H.size) (cwV 2 hts gL_law_X11_odds rfl rfl rfl (by decide +kernel) ⟨Nat.le_of_ble_eq_true rfl, Nat.le_of_ble_eq_true rfl⟩) (he_preV (wc := ([(x0, .inr (9, fx_q_4)), (m0, .inr (10, fm_q_4)), (aL g o0 1 fo_855)] ++ (Rc_q_4 ++ Rm_q_4))) hK hP hD hS hA hE (List.range (([(x0, .inr (9, fx_q_4)), (m0, .inr (10, fm_q_4)), (aL g o0 1 fo_855)] ++ (Rc_q_4 ++ Rm_q_4)) : va_W).length) (he_all _) (he_allnd _) 1 rfl rfl) rfl rfl hl.1 rfl (lv_room (Nat.le_of_ble_eq_true rfl)) dL_law_873 ⟨(by show 1000 + 4 * i + 1 + 0 ≤ 601024; omega), (by show 100000 + 700 * i + 6 + 0 ≤ 7293034; omega)⟩) hP hD hS hA (List.range (([(x0, .inr (9, fx_q_4)), (m0, .inr (10, fm_q_4)), (aL g o0 1 fo_855)] ++ (Rc_q_4 ++ Rm_q_4)) : va_W).length) [] (he_all _) rfl rfl (fun _ h9 => absurd h9 List.not_mem_nil) (fun u_6 H locs hu_7 hP hD hS => ?_)
  obtain ⟨t_873, hI9, ht873, hm873⟩ := hu_7
  obtain ⟨fx_q_8, fm_q_8, Rc_q_8, Rm_q_8, rfl, hc, hm⟩ := hI9
  have hP : va_P g.1 vwCl ([(x0, .inr (9, fx_q_8)), (m0, .inr (10, fm_q_8)), (aL g o0 1 fo_855)] ++ (Rc_q_8 ++ Rm_q_8)) H := hP
  have hD : va_D (lw_A s) ([(x0, .inr (9, fx_q_8)), (m0, .inr (10, fm_q_8)), (aL g o0 1 fo_855)] ++ (Rc_q_8 ++ Rm_q_8)) := hD
  refine lv_goto (tgt := 1341) hx hb dL_law_876 (by decide) ?_
  refine W.widen (k := 1000 + 4 * (i + 6)) (n := 100000 + 700 * (i + 6)) (by show 1000 + 4 * i + 1 + 0 ≤ 1000 + 4 * (i + 6); omega) (by show 100000 + 700 * i + 6 + 0 ≤ 100000 + 700 * (i + 6); omega) ?_
  exact kk ((sp_odds S (xs (i + 1)) (xs (i + 2))).2.2) t_873 fo_855 _ H locs ls (ok_odds _ _ hOk) ⟨_, _, _, _, rfl, hc, hm⟩ hP hD hS (lv_sub hl [1, 2, 3, 4, 5] rfl)
set_option maxHeartbeats 8000000 in
set_option maxRecDepth 100000 in
theorem lc_kind {p : Program} {e : Env} {s : State} {m : MethodId} {below : List Frame} {meth : Method} {c : Code} {Q : State → Prop} (l : Launch) (hlt : l.stackTraces = false) (g : he_G) {b Ln : Nat} {xs : Nat → Int32} (C0 : lw_C p s m meth c b Ln xs g) (i : Nat) (hi : i + 6 ≤ Ln) (hL : Ln ≤ 3072) (x0 m0 o0 : Nat) (S : AbS) (t : Int32) (fo : Nat → Int64) (W9 : va_W) (hOk : okS S) (hI : IL g x0 m0 o0 S S t fo W9) {H : Heap} {locs : List Loc} {ls : Array Slot} (hP : va_P g.1 vwCl W9 H) (hD : va_D (lw_A s) W9) (hS : va_S (lw_A s) s.heap H locs) (hl : lv_has ls 8 [(0, .ref b), (1, .ref x0), (2, .ref m0), (3, .ref o0), (4, .int (nI i))]) (kk : ∀ (S2 : AbS) (t2 : Int32) (fo2 : Nat → Int64) (W2 : va_W) (H2 : Heap) (locs2 : List Loc) (ls2 : Array Slot), okS S2 → IL g x0 m0 o0 S2 S2 t2 fo2 W2 → va_P g.1 vwCl W2 H2 → va_D (lw_A s) W2 → va_S (lw_A s) s.heap H2 locs2 → lv_has ls2 8 [(0, .ref b), (1, .ref x0), (2, .ref m0), (3, .ref o0), (4, .int (nI i))] → W p l e room_1 s m #[Value.ref b] below meth c H2 locs2 (1000 + 4 * (i + 6)) (100000 + 700 * (i + 6)) Q (F0 m 1341 ls2 [])) : W p l e room_1 s m #[Value.ref b] below meth c H locs (1000 + 4 * i) (100000 + 700 * i) Q (F0 m 879 ls []) := by
  obtain ⟨hx, hb, hr, hml, hown, hts, hX, hbl, hlk, hK, hE, hA, hbA, hNc⟩ := C0
  obtain ⟨fx, fm, Rc, Rm, rfl, hc, hm⟩ := hI
  refine lv_aload_n hx hb dL_law_879 rfl (lv_at hl 1 rfl) ?_
  refine lv_aload_n hx hb dL_law_880 rfl (lv_at hl 0 rfl) ?_
  refine lv_iload hx hb dL_law_881 (lv_at hl 4 rfl) ?_
  refine lv_iconst (v := 1) hx hb dL_law_883 (by decide) ?_
  refine lv_iadd hx hb dL_law_884 ?_
  refine he_top (nI (i + 1)) (nI_add i 1) ?_
  refine he_sld hx hb hX hbl hbA hS (i + 1) rfl (by omega) (by omega) (xs (i + 1)) rfl dL_law_885 ?_
  refine lv_aload_n hx hb dL_law_886 rfl (lv_at hl 0 rfl) ?_
  refine lv_iload hx hb dL_law_887 (lv_at hl 4 rfl) ?_
  refine lv_iconst (v := 2) hx hb dL_law_889 (by decide) ?_
  refine lv_iadd hx hb dL_law_890 ?_
  refine he_top (nI (i + 2)) (nI_add i 2) ?_
  refine he_sld hx hb hX hbl hbA hS (i + 2) rfl (by omega) (by omega) (xs (i + 2)) rfl dL_law_891 ?_
  refine lv_aload_n hx hb dL_law_892 rfl (lv_at hl 0 rfl) ?_
  refine lv_iload hx hb dL_law_893 (lv_at hl 4 rfl) ?_
  refine lv_iconst (v := 3) hx hb dL_law_895 (by decide) ?_
  refine lv_iadd hx hb dL_law_896 ?_
  refine he_top (nI (i + 3)) (nI_add i 3) ?_
  refine he_sld hx hb hX hbl hbA hS (i + 3) rfl (by omega) (by omega) (xs (i + 3)) rfl dL_law_897 ?_
  refine he_ci (wc := ([(x0, .inr (9, fx)), (m0, .inr (10, fm)), (aL g o0 1 fo)] ++ (Rc ++ Rm))) (wr := []) (vx_runSW (As := [.ref x0, .int (xs (i + 1)), .int (xs (i + 2)), .int (xs (i + 3))]) (rest := []) ⟨hx, hb, hml, hown, hts⟩ (w_kind l hlt g x0 m0 o0 S S t fo _ (xs (i + 1)) (xs (i + 2)) (xs (i + 3)) ⟨_, _, _, _, rfl, hc, hm⟩ H.size) (vx_cwSW 4 hts gL_law_L_kind rfl rfl rfl (by decide +kernel) ⟨Nat.le_of_ble_eq_true rfl, Nat.le_of_ble_eq_true rfl⟩) (he_preS (wc := ([(x0, .inr (9, fx)), (m0, .inr (10, fm)), (aL g o0 1 fo)] ++ (Rc ++ Rm))) hK hP hD hS hA hE (List.range (([(x0, .inr (9, fx)), (m0, .inr (10, fm)), (aL g o0 1 fo)] ++ (Rc ++ Rm)) : va_W).length) (he_all _) (he_allnd _)) rfl rfl hl.1 rfl (lv_room (Nat.le_of_ble_eq_true rfl)) dL_law_898 ⟨(by show 1000 + 4 * i + 1 ≤ 601024; omega), (by show 100000 + 700 * i + 6 ≤ 7293034; omega)⟩) hP hD hS hA (List.range (([(x0, .inr (9, fx)), (m0, .inr (10, fm)), (aL g o0 1 fo)] ++ (Rc ++ Rm)) : va_W).length) [] (he_all _) rfl rfl (fun _ h9 => absurd h9 List.not_mem_nil) (fun r_1 u_2 H locs hu_3 hP hD hS => ?_)
  obtain ⟨fo_898, hI9, hr898, ho898⟩ := hu_3
  obtain ⟨fx_q_4, fm_q_4, Rc_q_4, Rm_q_4, rfl, hc, hm⟩ := hI9
  have hP : va_P g.1 vwCl ([(x0, .inr (9, fx_q_4)), (m0, .inr (10, fm_q_4)), (aL g o0 1 fo_898)] ++ (Rc_q_4 ++ Rm_q_4)) H := hP
  have hD : va_D (lw_A s) ([(x0, .inr (9, fx_q_4)), (m0, .inr (10, fm_q_4)), (aL g o0 1 fo_898)] ++ (Rc_q_4 ++ Rm_q_4)) := hD
  refine lv_istore (lv' := [(5, .int r_1), (0, .ref b), (1, .ref x0), (2, .ref m0), (3, .ref o0), (4, .int (nI i))]) hx hb dL_law_901 hl (by decide) rfl (fun ls hl => ?_)
  refine lv_aload_n hx hb dL_law_903 rfl (lv_at hl 3 rfl) ?_
  refine lv_aload_n hx hb dL_law_904 rfl (lv_at hl 1 rfl) ?_
  refine lv_iload hx hb dL_law_905 (lv_at hl 5 rfl) ?_
  refine lv_iconst (v := 1) hx hb dL_law_907 (by decide) ?_
  refine lv_iadd hx hb dL_law_908 ?_
  refine he_top (nI (i + 1)) (nI_add i 1) ?_
  refine he_sld hx hb hX hbl hbA hS (i + 1) rfl (by omega) (by omega) (xs (i + 1)) rfl dL_law_909 ?_
  refine lv_aload_n hx hb dL_law_910 rfl (lv_at hl 1 rfl) ?_
  refine lv_iload hx hb dL_law_911 (lv_at hl 5 rfl) ?_
  refine lv_iconst (v := 2) hx hb dL_law_913 (by decide) ?_
  refine lv_iadd hx hb dL_law_914 ?_
  refine he_top (nI (i + 2)) (nI_add i 2) ?_
  refine he_sld hx hb hX hbl hbA hS (i + 2) rfl (by omega) (by omega) (xs (i + 2)) rfl dL_law_915 ?_
  refine lv_aload_n hx hb dL_law_916 rfl (lv_at hl 1 rfl) ?_
  refine lv_iload hx hb dL_law_917 (lv_at hl 5 rfl) ?_
  refine lv_iconst (v := 3) hx hb dL_law_919 (by decide) ?_
  refine lv_iadd hx hb dL_law_920 ?_
  refine he_top (nI (i + 3)) (nI_add i 3) ?_
  refine he_sld hx hb hX hbl hbA hS (i + 3) rfl (by omega) (by omega) (xs (i + 3)) rfl dL_law_921 ?_
  refine he_cv (wc := ([(x0, .inr (9, fx_q_4)), (m0, .inr (10, fm_q_4)), (aL g o0 1 fo_898)] ++ (Rc_q_4 ++ Rm_q_4))) (wr := []) (va_runV (As := [.int (xs (i + 1)), .int (xs (i + 2)), .int (xs (i + 3))]) (rest := []) ⟨hx, hb, hml, hown, hts⟩ (il_mV (j_kind l g m0 S t _ (xs (i + 1)) (xs (i + 2)) (xs (i + 3)) hm) hc H.size) (cwV 3 hts gL_law_X11_kind rfl rfl rfl (by decide +kernel) ⟨Nat.le_of_ble_eq_true rfl, Nat.le_of_ble_eq_true rfl⟩) (he_preV (wc := ([(x0, .inr (9, fx_q_4)), (m0, .inr (10, fm_q_4)), (aL g o0 1 fo_898)] ++ (Rc_q_4 ++ Rm_q_4))) hK hP hD hS hA hE (List.range (([(x0, .inr (9, fx_q_4)), (m0, .inr (10, fm_q_4)), (aL g o0 1 fo_898)] ++ (Rc_q_4 ++ Rm_q_4)) : va_W).length) (he_all _) (he_allnd _) 1 rfl rfl) rfl rfl hl.1 rfl (lv_room (Nat.le_of_ble_eq_true rfl)) dL_law_922 ⟨(by show 1000 + 4 * i + 1 + 0 ≤ 601024; omega), (by show 100000 + 700 * i + 6 + 0 ≤ 7293034; omega)⟩) hP hD hS hA (List.range (([(x0, .inr (9, fx_q_4)), (m0, .inr (10, fm_q_4)), (aL g o0 1 fo_898)] ++ (Rc_q_4 ++ Rm_q_4)) : va_W).length) [] (he_all _) rfl rfl (fun _ h9 => absurd h9 List.not_mem_nil) (fun u_6 H locs hu_7 hP hD hS => ?_)
  obtain ⟨t_922, hI9, ht922, hm922⟩ := hu_7
  obtain ⟨fx_q_8, fm_q_8, Rc_q_8, Rm_q_8, rfl, hc, hm⟩ := hI9
  have hP : va_P g.1 vwCl ([(x0, .inr (9, fx_q_8)), (m0, .inr (10, fm_q_8)), (aL g o0 1 fo_898)] ++ (Rc_q_8 ++ Rm_q_8)) H := hP
  have hD : va_D (lw_A s) ([(x0, .inr (9, fx_q_8)), (m0, .inr (10, fm_q_8)), (aL g o0 1 fo_898)] ++ (Rc_q_8 ++ Rm_q_8)) := hD
  refine lv_goto (tgt := 1341) hx hb dL_law_925 (by decide) ?_
  refine W.widen (k := 1000 + 4 * (i + 6)) (n := 100000 + 700 * (i + 6)) (by show 1000 + 4 * i + 1 + 0 ≤ 1000 + 4 * (i + 6); omega) (by show 100000 + 700 * i + 6 + 0 ≤ 100000 + 700 * (i + 6); omega) ?_
  exact kk ((sp_kind S (xs (i + 1)) (xs (i + 2)) (xs (i + 3))).2.2) t_922 fo_898 _ H locs ls (ok_kind _ _ _ hOk) ⟨_, _, _, _, rfl, hc, hm⟩ hP hD hS (lv_sub hl [1, 2, 3, 4, 5] rfl)
