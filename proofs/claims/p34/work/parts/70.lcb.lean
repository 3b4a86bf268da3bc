section
set_option maxHeartbeats 8000000 in
set_option maxRecDepth 100000 in
theorem lc_undo {p : Program} {e : Env} {s : State} {m : MethodId} {below : List Frame} {meth : Method} {c : Code} {Q : State → Prop} (l : Launch) (hlt : l.stackTraces = false) (g : he_G) {b Ln : Nat} {xs : Nat → Int32} (C0 : lw_C p s m meth c b Ln xs g) (i : Nat) (hi : i + 6 ≤ Ln) (hL : Ln ≤ 3072) (x0 m0 o0 : Nat) (S : AbS) (t : Int32) (fo : Nat → Int64) (W9 : va_W) (hOk : okS S) (hI : IL g x0 m0 o0 S S t fo W9) {H : Heap} {locs : List Loc} {ls : Array Slot} (hP : va_P g.1 vwCl W9 H) (hD : va_D (lw_A s) W9) (hS : va_S (lw_A s) s.heap H locs) (hl : lv_has ls 8 [(0, .ref b), (1, .ref x0), (2, .ref m0), (3, .ref o0), (4, .int (nI i))]) (kk : ∀ (S2 : AbS) (t2 : Int32) (fo2 : Nat → Int64) (W2 : va_W) (H2 : Heap) (locs2 : List Loc) (ls2 : Array Slot), okS S2 → IL g x0 m0 o0 S2 S2 t2 fo2 W2 → va_P g.1 vwCl W2 H2 → va_D (lw_A s) W2 → va_S (lw_A s) s.heap H2 locs2 → lv_has ls2 8 [(0, .ref b), (1, .ref x0), (2, .ref m0), (3, .ref o0), (4, .int (nI i))] → W p l e room_1 s m #[Value.ref b] below meth c H2 locs2 (1000 + 4 * (i + 6)) (100000 + 700 * (i + 6)) Q (F0 m 1341 ls2 [])) : W p l e room_1 s m #[Value.ref b] below meth c H locs (1000 + 4 * i) (100000 + 700 * i) Q (F0 m 534 ls []) := by
  obtain ⟨hx, hb, hr, hml, hown, hts, hX, hbl, hlk, hK, hE, hA, hbA, hNc⟩ := C0
  obtain ⟨fx, fm, Rc, Rm, rfl, hc, hm⟩ := hI
  refine lv_aload_n hx hb dL_law_534 rfl (lv_at hl 1 rfl) ?_
  refine lv_aload_n hx hb dL_law_535 rfl (lv_at hl 0 rfl) ?_
  refine lv_iload hx hb dL_law_536 (lv_at hl 4 rfl) ?_
  refine lv_iconst (v := 1) hx hb dL_law_538 (by decide) ?_
  refine lv_iadd hx hb dL_law_539 ?_
  refine he_top (nI (i + 1)) (nI_add i 1) ?_
  refine he_sld hx hb hX hbl hbA hS (i + 1) rfl (by omega) (by omega) (xs (i + 1)) rfl dL_law_540 ?_
  refine lv_aload_n hx hb dL_law_541 rfl (lv_at hl 3 rfl) ?_
  refine he_ci (wc := ([(x0, .inr (9, fx)), (m0, .inr (10, fm)), (aL g o0 1 fo)] ++ (Rc ++ Rm))) (wr := []) (vx_runSW (As := [.ref x0, .int (xs (i + 1)), .ref o0]) (rest := []) ⟨hx, hb, hml, hown, hts⟩ (w_undo l hlt g x0 m0 o0 S S t fo _ (xs (i + 1)) ⟨_, _, _, _, rfl, hc, hm⟩ H.size) (vx_cwSW 3 hts gL_law_L_undo rfl rfl rfl (by decide +kernel) ⟨Nat.le_of_ble_eq_true rfl, Nat.le_of_ble_eq_true rfl⟩) (he_preS (wc := ([(x0, .inr (9, fx)), (m0, .inr (10, fm)), (aL g o0 1 fo)] ++ (Rc ++ Rm))) hK hP hD hS hA hE (List.range (([(x0, .inr (9, fx)), (m0, .inr (10, fm)), (aL g o0 1 fo)] ++ (Rc ++ Rm)) : va_W).length) (he_all _) (he_allnd _)) rfl rfl hl.1 rfl (lv_room (Nat.le_of_ble_eq_true rfl)) dL_law_542 ⟨(by show 1000 + 4 * i + 1 ≤ 601024; omega), (by show 100000 + 700 * i + 6 ≤ 7293034; omega)⟩) hP hD hS hA (List.range (([(x0, .inr (9, fx)), (m0, .inr (10, fm)), (aL g o0 1 fo)] ++ (Rc ++ Rm)) : va_W).length) [] (he_all _) rfl rfl (fun _ h9 => absurd h9 List.not_mem_nil) (fun r_1 u_2 H locs hu_3 hP hD hS => ?_)
  obtain ⟨fo_542, hI9, hr542, ho542⟩ := hu_3
  obtain ⟨fx_q_4, fm_q_4, Rc_q_4, Rm_q_4, rfl, hc, hm⟩ := hI9
  have hP : va_P g.1 vwCl ([(x0, .inr (9, fx_q_4)), (m0, .inr (10, fm_q_4)), (aL g o0 1 fo_542)] ++ (Rc_q_4 ++ Rm_q_4)) H := hP
  have hD : va_D (lw_A s) ([(x0, .inr (9, fx_q_4)), (m0, .inr (10, fm_q_4)), (aL g o0 1 fo_542)] ++ (Rc_q_4 ++ Rm_q_4)) := hD
  refine lv_istore (lv' := [(5, .int r_1), (0, .ref b), (1, .ref x0), (2, .ref m0), (3, .ref o0), (4, .int (nI i))]) hx hb dL_law_545 hl (by decide) rfl (fun ls hl => ?_)
  refine lv_aload_n hx hb dL_law_547 rfl (lv_at hl 3 rfl) ?_
  refine lv_aload_n hx hb dL_law_548 rfl (lv_at hl 1 rfl) ?_
  refine lv_iload hx hb dL_law_549 (lv_at hl 5 rfl) ?_
  refine lv_iconst (v := 1) hx hb dL_law_551 (by decide) ?_
  refine lv_iadd hx hb dL_law_552 ?_
  refine he_top (nI (i + 1)) (nI_add i 1) ?_
  refine he_sld hx hb hX hbl hbA hS (i + 1) rfl (by omega) (by omega) (xs (i + 1)) rfl dL_law_553 ?_
  refine he_ci (wc := ([(x0, .inr (9, fx_q_4)), (m0, .inr (10, fm_q_4)), (aL g o0 1 fo_542)] ++ (Rc_q_4 ++ Rm_q_4))) (wr := []) (va_runV (As := [.int (xs (i + 1))]) (rest := []) ⟨hx, hb, hml, hown, hts⟩ (il_mI (j_undo l g m0 S t _ (xs (i + 1)) hm) hc H.size) (cwV 1 hts gL_law_X11_undo rfl rfl rfl (by decide +kernel) ⟨Nat.le_of_ble_eq_true rfl, Nat.le_of_ble_eq_true rfl⟩) (he_preV (wc := ([(x0, .inr (9, fx_q_4)), (m0, .inr (10, fm_q_4)), (aL g o0 1 fo_542)] ++ (Rc_q_4 ++ Rm_q_4))) hK hP hD hS hA hE (List.range (([(x0, .inr (9, fx_q_4)), (m0, .inr (10, fm_q_4)), (aL g o0 1 fo_542)] ++ (Rc_q_4 ++ Rm_q_4)) : va_W).length) (he_all _) (he_allnd _) 1 rfl rfl) rfl rfl hl.1 rfl (lv_room (Nat.le_of_ble_eq_true rfl)) dL_law_554 ⟨(by show 1000 + 4 * i + 1 + 0 ≤ 601024; omega), (by show 100000 + 700 * i + 6 + 0 ≤ 7293034; omega)⟩) hP hD hS hA (List.range (([(x0, .inr (9, fx_q_4)), (m0, .inr (10, fm_q_4)), (aL g o0 1 fo_542)] ++ (Rc_q_4 ++ Rm_q_4)) : va_W).length) [] (he_all _) rfl rfl (fun _ h9 => absurd h9 List.not_mem_nil) (fun r_5 u_6 H locs hu_7 hP hD hS => ?_)
  obtain ⟨t_554, hI9, ht554, hm554⟩ := hu_7
  obtain ⟨fx_q_8, fm_q_8, Rc_q_8, Rm_q_8, rfl, hc, hm⟩ := hI9
  have hP : va_P g.1 vwCl ([(x0, .inr (9, fx_q_8)), (m0, .inr (10, fm_q_8)), (aL g o0 1 fo_542)] ++ (Rc_q_8 ++ Rm_q_8)) H := hP
  have hD : va_D (lw_A s) ([(x0, .inr (9, fx_q_8)), (m0, .inr (10, fm_q_8)), (aL g o0 1 fo_542)] ++ (Rc_q_8 ++ Rm_q_8)) := hD
  refine lv_istore (lv' := [(6, .int r_5), (5, .int r_1), (0, .ref b), (1, .ref x0), (2, .ref m0), (3, .ref o0), (4, .int (nI i))]) hx hb dL_law_557 hl (by decide) rfl (fun ls hl => ?_)
  refine lv_goto (tgt := 1341) hx hb dL_law_559 (by decide) ?_
  refine W.widen (k := 1000 + 4 * (i + 6)) (n := 100000 + 700 * (i + 6)) (by show 1000 + 4 * i + 1 + 0 ≤ 1000 + 4 * (i + 6); omega) (by show 100000 + 700 * i + 6 + 0 ≤ 100000 + 700 * (i + 6); omega) ?_
  exact kk ((sp_undo S (xs (i + 1))).2.2) t_554 fo_542 _ H locs ls (ok_undo _ hOk) ⟨_, _, _, _, rfl, hc, hm⟩ hP hD hS (lv_sub hl [2, 3, 4, 5, 6] rfl)
set_option maxHeartbeats 8000000 in
set_option maxRecDepth 100000 in
theorem lc_sums {p : Program} {e : Env} {s : State} {m : MethodId} {below : List Frame} {meth : Method} {c : Code} {Q : State → Prop} (l : Launch) (hlt : l.stackTraces = false) (g : he_G) {b Ln : Nat} {xs : Nat → Int32} (C0 : lw_C p s m meth c b Ln xs g) (i : Nat) (hi : i + 6 ≤ Ln) (hL : Ln ≤ 3072) (x0 m0 o0 : Nat) (S : AbS) (t : Int32) (fo : Nat → Int64) (W9 : va_W) (hOk : okS S) (hI : IL g x0 m0 o0 S S t fo W9) {H : Heap} {locs : List Loc} {ls : Array Slot} (hP : va_P g.1 vwCl W9 H) (hD : va_D (lw_A s) W9) (hS : va_S (lw_A s) s.heap H locs) (hl : lv_has ls 8 [(0, .ref b), (1, .ref x0), (2, .ref m0), (3, .ref o0), (4, .int (nI i))]) (kk : ∀ (S2 : AbS) (t2 : Int32) (fo2 : Nat → Int64) (W2 : va_W) (H2 : Heap) (locs2 : List Loc) (ls2 : Array Slot), okS S2 → IL g x0 m0 o0 S2 S2 t2 fo2 W2 → va_P g.1 vwCl W2 H2 → va_D (lw_A s) W2 → va_S (lw_A s) s.heap H2 locs2 → lv_has ls2 8 [(0, .ref b), (1, .ref x0), (2, .ref m0), (3, .ref o0), (4, .int (nI i))] → W p l e room_1 s m #[Value.ref b] below meth c H2 locs2 (1000 + 4 * (i + 6)) (100000 + 700 * (i + 6)) Q (F0 m 1341 ls2 [])) : W p l e room_1 s m #[Value.ref b] below meth c H locs (1000 + 4 * i) (100000 + 700 * i) Q (F0 m 562 ls []) := by
  obtain ⟨hx, hb, hr, hml, hown, hts, hX, hbl, hlk, hK, hE, hA, hbA, hNc⟩ := C0
  obtain ⟨fx, fm, Rc, Rm, rfl, hc, hm⟩ := hI
  refine lv_aload_n hx hb dL_law_562 rfl (lv_at hl 1 rfl) ?_
  refine lv_aload_n hx hb dL_law_563 rfl (lv_at hl 0 rfl) ?_
  refine lv_iload hx hb dL_law_564 (lv_at hl 4 rfl) ?_
  refine lv_iconst (v := 1) hx hb dL_law_566 (by decide) ?_
  refine lv_iadd hx hb dL_law_567 ?_
  refine he_top (nI (i + 1)) (nI_add i 1) ?_
  refine he_sld hx hb hX hbl hbA hS (i + 1) rfl (by omega) (by omega) (xs (i + 1)) rfl dL_law_568 ?_
  refine lv_aload_n hx hb dL_law_569 rfl (lv_at hl 3 rfl) ?_
  refine he_ci (wc := ([(x0, .inr (9, fx)), (m0, .inr (10, fm)), (aL g o0 1 fo)] ++ (Rc ++ Rm))) (wr := []) (vx_runSW (As := [.ref x0, .int (xs (i + 1)), .ref o0]) (rest := []) ⟨hx, hb, hml, hown, hts⟩ (w_sums l hlt g x0 m0 o0 S S t fo _ (xs (i + 1)) ⟨_, _, _, _, rfl, hc, hm⟩ H.size) (vx_cwSW 3 hts gL_law_L_sums rfl rfl rfl (by decide +kernel) ⟨Nat.le_of_ble_eq_true rfl, Nat.le_of_ble_eq_true rfl⟩) (he_preS (wc := ([(x0, .inr (9, fx)), (m0, .inr (10, fm)), (aL g o0 1 fo)] ++ (Rc ++ Rm))) hK hP hD hS hA hE (List.range (([(x0, .inr (9, fx)), (m0, .inr (10, fm)), (aL g o0 1 fo)] ++ (Rc ++ Rm)) : va_W).length) (he_all _) (he_allnd _)) rfl rfl hl.1 rfl (lv_room (Nat.le_of_ble_eq_true rfl)) dL_law_570 ⟨(by show 1000 + 4 * i + 1 ≤ 601024; omega), (by show 100000 + 700 * i + 6 ≤ 7293034; omega)⟩) hP hD hS hA (List.range (([(x0, .inr (9, fx)), (m0, .inr (10, fm)), (aL g o0 1 fo)] ++ (Rc ++ Rm)) : va_W).length) [] (he_all _) rfl rfl (fun _ h9 => absurd h9 List.not_mem_nil) (fun r_1 u_2 H locs hu_3 hP hD hS => ?_)
  obtain ⟨fo_570, hI9, hr570, ho570⟩ := hu_3
  obtain ⟨fx_q_4, fm_q_4, Rc_q_4, Rm_q_4, rfl, hc, hm⟩ := hI9
  have hP : va_P g.1 vwCl ([(x0, .inr (9, fx_q_4)), (m0, .inr (10, fm_q_4)), (aL g o0 1 fo_570)] ++ (Rc_q_4 ++ Rm_q_4)) H := hP
  have hD : va_D (lw_A s) ([(x0, .inr (9, fx_q_4)), (m0, .inr (10, fm_q_4)), (aL g o0 1 fo_570)] ++ (Rc_q_4 ++ Rm_q_4)) := hD
  refine lv_istore (lv' := [(5, .int r_1), (0, .ref b), (1, .ref x0), (2, .ref m0), (3, .ref o0), (4, .int (nI i))]) hx hb dL_law_573 hl (by decide) rfl (fun ls hl => ?_)
  refine lv_aload_n hx hb dL_law_575 rfl (lv_at hl 3 rfl) ?_
  refine lv_aload_n hx hb dL_law_576 rfl (lv_at hl 1 rfl) ?_
  refine lv_iload hx hb dL_law_577 (lv_at hl 5 rfl) ?_
  refine lv_iconst (v := 1) hx hb dL_law_579 (by decide) ?_
  refine lv_iadd hx hb dL_law_580 ?_
  refine he_top (nI (i + 1)) (nI_add i 1) ?_
  refine he_sld hx hb hX hbl hbA hS (i + 1) rfl (by omega) (by omega) (xs (i + 1)) rfl dL_law_581 ?_
  refine he_ci (wc := ([(x0, .inr (9, fx_q_4)), (m0, .inr (10, fm_q_4)), (aL g o0 1 fo_570)] ++ (Rc_q_4 ++ Rm_q_4))) (wr := []) (va_runV (As := [.int (xs (i + 1))]) (rest := []) ⟨hx, hb, hml, hown, hts⟩ (il_mI (j_sums l g m0 S t _ (xs (i + 1)) hm) hc H.size) (cwV 1 hts gL_law_X11_sums rfl rfl rfl (by decide +kernel) ⟨Nat.le_of_ble_eq_true rfl, Nat.le_of_ble_eq_true rfl⟩) (he_preV (wc := ([(x0, .inr (9, fx_q_4)), (m0, .inr (10, fm_q_4)), (aL g o0 1 fo_570)] ++ (Rc_q_4 ++ Rm_q_4))) hK hP hD hS hA hE (List.range (([(x0, .inr (9, fx_q_4)), (m0, .inr (10, fm_q_4)), (aL g o0 1 fo_570)] ++ (Rc_q_4 ++ Rm_q_4)) : va_W).length) (he_all _) (he_allnd _) 1 rfl rfl) rfl rfl hl.1 rfl (lv_room (Nat.le_of_ble_eq_true rfl)) dL_law_582 ⟨(by show 1000 + 4 * i + 1 + 0 ≤ 601024; omega), (by show 100000 + 700 * i + 6 + 0 ≤ 7293034; omega)⟩) hP hD hS hA (List.range (([(x0, .inr (9, fx_q_4)), (m0, .inr (10, fm_q_4)), (aL g o0 1 fo_570)] ++ (Rc_q_4 ++ Rm_q_4)) : va_W).length) [] (he_all _) rfl rfl (fun _ h9 => absurd h9 List.not_mem_nil) (fun r_5 u_6 H locs hu_7 hP hD hS => ?_)
  obtain ⟨t_582, hI9, ht582, hm582⟩ := hu_7
  obtain ⟨fx_q_8, fm_q_8, Rc_q_8, Rm_q_8, rfl, hc, hm⟩ := hI9
  have hP : va_P g.1 vwCl ([(x0, .inr (9, fx_q_8)), (m0, .inr (10, fm_q_8)), (aL g o0 1 fo_570)] ++ (Rc_q_8 ++ Rm_q_8)) H := hP
  have hD : va_D (lw_A s) ([(x0, .inr (9, fx_q_8)), (m0, .inr (10, fm_q_8)), (aL g o0 1 fo_570)] ++ (Rc_q_8 ++ Rm_q_8)) := hD
  refine lv_istore (lv' := [(6, .int r_5), (5, .int r_1), (0, .ref b), (1, .ref x0), (2, .ref m0), (3, .ref o0), (4, .int (nI i))]) hx hb dL_law_585 hl (by decide) rfl (fun ls hl => ?_)
  refine lv_goto (tgt := 1341) hx hb dL_law_587 (by decide) ?_
  refine W.widen (k := 1000 + 4 * (i + 6)) (n := 100000 + 700 * (i + 6)) (by show 1000 + 4 * i + 1 + 0 ≤ 1000 + 4 * (i + 6); omega) (by show 100000 + 700 * i + 6 + 0 ≤ 100000 + 700 * (i + 6); omega) ?_
  exact kk ((sp_sums S (xs (i + 1))).2.2) t_582 fo_570 _ H locs ls (ok_sums _ hOk) ⟨_, _, _, _, rfl, hc, hm⟩ hP hD hS (lv_sub hl [2, 3, 4, 5, 6] rfl)
set_option maxHeartbeats 8000000 in
set_option maxRecDepth 100000 in
theorem lc_corks {p : Program} {e : Env} {s : State} {m : MethodId} {below : List Frame} {meth : Method} {c : Code} {Q : State → Prop} (l : Launch) (hlt : l.stackTraces = false) (g : he_G) {b Ln : Nat} {xs : Nat → Int32} (C0 : lw_C p s m meth c b Ln xs g) (i : Nat) (hi : i + 6 ≤ Ln) (hL : Ln ≤ 3072) (x0 m0 o0 : Nat) (S : AbS) (t : Int32) (fo : Nat → Int64) (W9 : va_W) (hOk : okS S) (hI : IL g x0 m0 o0 S S t fo W9) {H : Heap} {locs : List Loc} {ls : Array Slot} (hP : va_P g.1 vwCl W9 H) (hD : va_D (lw_A s) W9) (hS : va_S (lw_A s) s.heap H locs) (hl : lv_has ls 8 [(0, .ref b), (1, .ref x0), (2, .ref m0), (3, .ref o0), (4, .int (nI i))]) (kk : ∀ (S2 : AbS) (t2 : Int32) (fo2 : Nat → Int64) (W2 : va_W) (H2 : Heap) (locs2 : List Loc) (ls2 : Array Slot), okS S2 → IL g x0 m0 o0 S2 S2 t2 fo2 W2 → va_P g.1 vwCl W2 H2 → va_D (lw_A s) W2 → va_S (lw_A s) s.heap H2 locs2 → lv_has ls2 8 [(0, .ref b), (1, .ref x0), (2, .ref m0), (3, .ref o0), (4, .int (nI i))] → W p l e room_1 s m #[Value.ref b] below meth c H2 locs2 (1000 + 4 * (i + 6)) (100000 + 700 * (i + 6)) Q (F0 m 1341 ls2 [])) : W p l e room_1 s m #[Value.ref b] below meth c H locs (1000 + 4 * i) (100000 + 700 * i) Q (F0 m 590 ls []) := by
  obtain ⟨hx, hb, hr, hml, hown, hts, hX, hbl, hlk, hK, hE, hA, hbA, hNc⟩ := C0
  obtain ⟨fx, fm, Rc, Rm, rfl, hc, hm⟩ := hI
  refine lv_aload_n hx hb dL_law_590 rfl (lv_at hl 1 rfl) ?_
  refine lv_aload_n hx hb dL_law_591 rfl (lv_at hl 0 rfl) ?_
  refine lv_iload hx hb dL_law_592 (lv_at hl 4 rfl) ?_
  refine lv_iconst (v := 1) hx hb dL_law_594 (by decide) ?_
  refine lv_iadd hx hb dL_law_595 ?_
  refine he_top (nI (i + 1)) (nI_add i 1) ?_
  refine he_sld hx hb hX hbl hbA hS (i + 1) rfl (by omega) (by omega) (xs (i + 1)) rfl dL_law_596 ?_
  refine lv_aload_n hx hb dL_law_597 rfl (lv_at hl 0 rfl) ?_
  refine lv_iload hx hb dL_law_598 (lv_at hl 4 rfl) ?_
  refine lv_iconst (v := 2) hx hb dL_law_600 (by decide) ?_
  refine lv_iadd hx hb dL_law_601 ?_
  refine he_top (nI (i + 2)) (nI_add i 2) ?_
  refine he_sld hx hb hX hbl hbA hS (i + 2) rfl (by omega) (by omega) (xs (i + 2)) rfl dL_law_602 ?_
  refine lv_aload_n hx hb dL_law_603 rfl (lv_at hl 3 rfl) ?_
  refine he_ci (wc := ([(x0, .inr (9, fx)), (m0, .inr (10, fm)), (aL g o0 1 fo)] ++ (Rc ++ Rm))) (wr := []) (vx_runSW (As := [.ref x0, .int (xs (i + 1)), .int (xs (i + 2)), .ref o0]) (rest := []) ⟨hx, hb, hml, hown, hts⟩ (w_corks l hlt g x0 m0 o0 S S t fo _ (xs (i + 1)) (xs (i + 2)) ⟨_, _, _, _, rfl, hc, hm⟩ H.size) (vx_cwSW 4 hts gL_law_L_corks rfl rfl rfl (by decide +kernel) ⟨Nat.le_of_ble_eq_true rfl, Nat.le_of_ble_eq_true rfl⟩) (he_preSN (wc := ([(x0, .inr (9, fx)), (m0, .inr (10, fm)), (aL g o0 1 fo)] ++ (Rc ++ Rm))) hNc hK hP hD hS hA hE (List.range (([(x0, .inr (9, fx)), (m0, .inr (10, fm)), (aL g o0 1 fo)] ++ (Rc ++ Rm)) : va_W).length) (he_all _) (he_allnd _)) rfl rfl hl.1 rfl (lv_room (Nat.le_of_ble_eq_true rfl)) dL_law_604 ⟨(by show 1000 + 4 * i + 1 ≤ 601024; omega), (by show 100000 + 700 * i + 6 ≤ 7293034; omega)⟩) hP hD hS hA (List.range (([(x0, .inr (9, fx)), (m0, .inr (10, fm)), (aL g o0 1 fo)] ++ (Rc ++ Rm)) : va_W).length) [] (he_all _) rfl rfl (fun _ h9 => absurd h9 List.not_mem_nil) (fun r_1 u_2 H locs hu_3 hP hD hS => ?_)
  obtain ⟨fo_604, hI9, hr604, ho604⟩ := hu_3
  obtain ⟨fx_q_4, fm_q_4, Rc_q_4, Rm_q_4, rfl, hc, hm⟩ := hI9
  have hP : va_P g.1 vwCl ([(x0, .inr (9, fx_q_4)), (m0, .inr (10, fm_q_4)), (aL g o0 1 fo_604)] ++ (Rc_q_4 ++ Rm_q_4)) H := hP
  have hD : va_D (lw_A s) ([(x0, .inr (9, fx_q_4)), (m0, .inr (10, fm_q_4)), (aL g o0 1 fo_604)] ++ (Rc_q_4 ++ Rm_q_4)) := hD
  refine lv_istore (lv' := [(5, .int r_1), (0, .ref b), (1, .ref x0), (2, .ref m0), (3, .ref o0), (4, .int (nI i))]) hx hb dL_law_607 hl (by decide) rfl (fun ls hl => ?_)
  refine lv_aload_n hx hb dL_law_609 rfl (lv_at hl 3 rfl) ?_
  refine lv_aload_n hx hb dL_law_610 rfl (lv_at hl 1 rfl) ?_
  refine lv_iload hx hb dL_law_611 (lv_at hl 5 rfl) ?_
  refine lv_iconst (v := 1) hx hb dL_law_613 (by decide) ?_
  refine lv_iadd hx hb dL_law_614 ?_
  refine he_top (nI (i + 1)) (nI_add i 1) ?_
  refine he_sld hx hb hX hbl hbA hS (i + 1) rfl (by omega) (by omega) (xs (i + 1)) rfl dL_law_615 ?_
  refine lv_aload_n hx hb dL_law_616 rfl (lv_at hl 1 rfl) ?_
  refine lv_iload hx hb dL_law_617 (lv_at hl 5 rfl) ?_
  refine lv_iconst (v := 2) hx hb dL_law_619 (by decide) ?_
  refine lv_iadd hx hb dL_law_620 ?_
  refine he_top (nI (i + 2)) (nI_add i 2) ?_
  refine he_sld hx hb hX hbl hbA hS (i + 2) rfl (by omega) (by omega) (xs (i + 2)) rfl dL_law_621 ?_
  refine he_ci (wc := ([(x0, .inr (9, fx_q_4)), (m0, .inr (10, fm_q_4)), (aL g o0 1 fo_604)] ++ (Rc_q_4 ++ Rm_q_4))) (wr := []) (va_runV (As := [.int (xs (i + 1)), .int (xs (i + 2))]) (rest := []) ⟨hx, hb, hml, hown, hts⟩ (il_mI (j_corks l g m0 S t _ (xs (i + 1)) (xs (i + 2)) hm) hc H.size) (cwV 2 hts gL_law_X11_corks rfl rfl rfl (by decide +kernel) ⟨Nat.le_of_ble_eq_true rfl, Nat.le_of_ble_eq_true rfl⟩) (he_preV (wc := ([(x0, .inr (9, fx_q_4)), (m0, .inr (10, fm_q_4)), (aL g o0 1 fo_604)] ++ (Rc_q_4 ++ Rm_q_4))) hK hP hD hS hA hE (List.range (([(x0, .inr (9, fx_q_4)), (m0, .inr (10, fm_q_4)), (aL g o0 1 fo_604)] ++ (Rc_q_4 ++ Rm_q_4)) : va_W).length) (he_all _) (he_allnd _) 1 rfl rfl) rfl rfl hl.1 rfl (lv_room (Nat.le_of_ble_eq_true rfl)) dL_law_622 ⟨(by show 1000 + 4 * i + 1 + 0 ≤ 601024; omega), (by show 100000 + 700 * i + 6 + 0 ≤ 7293034; omega)⟩) hP hD hS hA (List.range (([(x0, .inr (9, fx_q_4)), (m0, .inr (10, fm_q_4)), (aL g o0 1 fo_604)] ++ (Rc_q_4 ++ Rm_q_4)) : va_W).length) [] (he_all _) rfl rfl (fun _ h9 => absurd h9 List.not_mem_nil) (fun r_5 u_6 H locs hu_7 hP hD hS => ?_)
  obtain ⟨t_622, hI9, ht622, hm622⟩ := hu_7
  obtain ⟨fx_q_8, fm_q_8, Rc_q_8, Rm_q_8, rfl, hc, hm⟩ := hI9
  have hP : va_P g.1 vwCl ([(x0, .inr (9, fx_q_8)), (m0, .inr (10, fm_q_8)), (aL g o0 1 fo_604)] ++ (Rc_q_8 ++ Rm_q_8)) H := hP
  have hD : va_D (lw_A s) ([(x0, .inr (9, fx_q_8)), (m0, .inr (10, fm_q_8)), (aL g o0 1 fo_604)] ++ (Rc_q_8 ++ Rm_q_8)) := hD
  refine lv_istore (lv' := [(6, .int r_5), (5, .int r_1), (0, .ref b), (1, .ref x0), (2, .ref m0), (3, .ref o0), (4, .int (nI i))]) hx hb dL_law_625 hl (by decide) rfl (fun ls hl => ?_)
  refine lv_goto (tgt := 1341) hx hb dL_law_627 (by decide) ?_
  refine W.widen (k := 1000 + 4 * (i + 6)) (n := 100000 + 700 * (i + 6)) (by show 1000 + 4 * i + 1 + 0 ≤ 1000 + 4 * (i + 6); omega) (by show 100000 + 700 * i + 6 + 0 ≤ 100000 + 700 * (i + 6); omega) ?_
  exact kk ((sp_corks S (xs (i + 1)) (xs (i + 2))).2.2) t_622 fo_604 _ H locs ls (ok_corks _ _ hOk) ⟨_, _, _, _, rfl, hc, hm⟩ hP hD hS (lv_sub hl [2, 3, 4, 5, 6] rfl)
set_option maxHeartbeats 8000000 in
set_option maxRecDepth 100000 in
theorem lc_would {p : Program} {e : Env} {s : State} {m : MethodId} {below : List Frame} {meth : Method} {c : Code} {Q : State → Prop} (l : Launch) (hlt : l.stackTraces = false) (g : he_G) {b Ln : Nat} {xs : Nat → Int32} (C0 : lw_C p s m meth c b Ln xs g) (i : Nat) (hi : i + 6 ≤ Ln) (hL : Ln ≤ 3072) (x0 m0 o0 : Nat) (S : AbS) (t : Int32) (fo : Nat → Int64) (W9 : va_W) (hOk : okS S) (hI : IL g x0 m0 o0 S S t fo W9) {H : Heap} {locs : List Loc} {ls : Array Slot} (hP : va_P g.1 vwCl W9 H) (hD : va_D (lw_A s) W9) (hS : va_S (lw_A s) s.heap H locs) (hl : lv_has ls 8 [(0, .ref b), (1, .ref x0), (2, .ref m0), (3, .ref o0), (4, .int (nI i))]) (kk : ∀ (S2 : AbS) (t2 : Int32) (fo2 : Nat → Int64) (W2 : va_W) (H2 : Heap) (locs2 : List Loc) (ls2 : Array Slot), okS S2 → IL g x0 m0 o0 S2 S2 t2 fo2 W2 → va_P g.1 vwCl W2 H2 → va_D (lw_A s) W2 → va_S (lw_A s) s.heap H2 locs2 → lv_has ls2 8 [(0, .ref b), (1, .ref x0), (2, .ref m0), (3, .ref o0), (4, .int (nI i))] → W p l e room_1 s m #[Value.ref b] below meth c H2 locs2 (1000 + 4 * (i + 6)) (100000 + 700 * (i + 6)) Q (F0 m 1341 ls2 [])) : W p l e room_1 s m #[Value.ref b] below meth c H locs (1000 + 4 * i) (100000 + 700 * i) Q (F0 m 630 ls []) := by
  obtain ⟨hx, hb, hr, hml, hown, hts, hX, hbl, hlk, hK, hE, hA, hbA, hNc⟩ := C0
  obtain ⟨fx, fm, Rc, Rm, rfl, hc, hm⟩ := hI
  refine lv_aload_n hx hb dL_law_630 rfl (lv_at hl 1 rfl) ?_
  refine lv_aload_n hx hb dL_law_631 rfl (lv_at hl 0 rfl) ?_
  refine lv_iload hx hb dL_law_632 (lv_at hl 4 rfl) ?_
  refine lv_iconst (v := 1) hx hb dL_law_634 (by decide) ?_
  refine lv_iadd hx hb dL_law_635 ?_
  refine he_top (nI (i + 1)) (nI_add i 1) ?_
  refine he_sld hx hb hX hbl hbA hS (i + 1) rfl (by omega) (by omega) (xs (i + 1)) rfl dL_law_636 ?_
  refine lv_aload_n hx hb dL_law_637 rfl (lv_at hl 0 rfl) ?_
  refine lv_iload hx hb dL_law_638 (lv_at hl 4 rfl) ?_
  refine lv_iconst (v := 2) hx hb dL_law_640 (by decide) ?_
  refine lv_iadd hx hb dL_law_641 ?_
  refine he_top (nI (i + 2)) (nI_add i 2) ?_
  refine he_sld hx hb hX hbl hbA hS (i + 2) rfl (by omega) (by omega) (xs (i + 2)) rfl dL_law_642 ?_
  refine lv_aload_n hx hb dL_law_643 rfl (lv_at hl 0 rfl) ?_
  refine lv_iload hx hb dL_law_644 (lv_at hl 4 rfl) ?_
  refine lv_iconst (v := 3) hx hb dL_law_646 (by decide) ?_
  refine lv_iadd hx hb dL_law_647 ?_
  refine he_top (nI (i + 3)) (nI_add i 3) ?_
  refine he_sld hx hb hX hbl hbA hS (i + 3) rfl (by omega) (by omega) (xs (i + 3)) rfl dL_law_648 ?_
  refine lv_aload_n hx hb dL_law_649 rfl (lv_at hl 3 rfl) ?_
  refine he_ci (wc := ([(x0, .inr (9, fx)), (m0, .inr (10, fm)), (aL g o0 1 fo)] ++ (Rc ++ Rm))) (wr := []) (vx_runSW (As := [.ref x0, .int (xs (i + 1)), .int (xs (i + 2)), .int (xs (i + 3)), .ref o0]) (rest := []) ⟨hx, hb, hml, hown, hts⟩ (w_would l hlt g x0 m0 o0 S S t fo _ (xs (i + 1)) (xs (i + 2)) (xs (i + 3)) ⟨_, _, _, _, rfl, hc, hm⟩ H.size) (vx_cwSW 5 hts gL_law_L_would rfl rfl rfl (by decide +kernel) ⟨Nat.le_of_ble_eq_true rfl, Nat.le_of_ble_eq_true rfl⟩) (he_preS (wc := ([(x0, .inr (9, fx)), (m0, .inr (10, fm)), (aL g o0 1 fo)] ++ (Rc ++ Rm))) hK hP hD hS hA hE (List.range (([(x0, .inr (9, fx)), (m0, .inr (10, fm)), (aL g o0 1 fo)] ++ (Rc ++ Rm)) : va_W).length) (he_all _) (he_allnd _)) rfl rfl hl.1 rfl (lv_room (Nat.le_of_ble_eq_true rfl)) dL_law_650 ⟨(by show 1000 + 4 * i + 1 ≤ 601024; omega), (by show 100000 + 700 * i + 6 ≤ 7293034; omega)⟩) hP hD hS hA (List.range (([(x0, .inr (9, fx)), (m0, .inr (10, fm)), (aL g o0 1 fo)] ++ (Rc ++ Rm)) : va_W).length) [] (he_all _) rfl rfl (fun _ h9 => absurd h9 List.not_mem_nil) (fun r_1 u_2 H locs hu_3 hP hD hS => ?_)
  obtain ⟨fo_650, hI9, hr650, ho650⟩ := hu_3
  obtain ⟨fx_q_4, fm_q_4, Rc_q_4, Rm_q_4, rfl, hc, hm⟩ := hI9
  have hP : va_P g.1 vwCl ([(x0, .inr (9, fx_q_4)), (m0, .inr (10, fm_q_4)), (aL g o0 1 fo_650)] ++ (Rc_q_4 ++ Rm_q_4)) H := hP
  have hD : va_D (lw_A s) ([(x0, .inr (9, fx_q_4)), (m0, .inr (10, fm_q_4)), (aL g o0 1 fo_650)] ++ (Rc_q_4 ++ Rm_q_4)) := hD
  refine lv_istore (lv' := [(5, .int r_1), (0, .ref b), (1, .ref x0), (2, .ref m0), (3, .ref o0), (4, .int (nI i))]) hx hb dL_law_653 hl (by decide) rfl (fun ls hl => ?_)
  refine lv_aload_n hx hb dL_law_655 rfl (lv_at hl 3 rfl) ?_
  refine lv_aload_n hx hb dL_law_656 rfl (lv_at hl 1 rfl) ?_
  refine lv_iload hx hb dL_law_657 (lv_at hl 5 rfl) ?_
  refine lv_iconst (v := 1) hx hb dL_law_659 (by decide) ?_
  refine lv_iadd hx hb dL_law_660 ?_
  refine he_top (nI (i + 1)) (nI_add i 1) ?_
  refine he_sld hx hb hX hbl hbA hS (i + 1) rfl (by omega) (by omega) (xs (i + 1)) rfl dL_law_661 ?_
  refine lv_aload_n hx hb dL_law_662 rfl (lv_at hl 1 rfl) ?_
  refine lv_iload hx hb dL_law_663 (lv_at hl 5 rfl) ?_
  refine lv_iconst (v := 2) hx hb dL_law_665 (by decide) ?_
  refine lv_iadd hx hb dL_law_666 ?_
  refine he_top (nI (i + 2)) (nI_add i 2) ?_
  refine he_sld hx hb hX hbl hbA hS (i + 2) rfl (by omega) (by omega) (xs (i + 2)) rfl dL_law_667 ?_
  refine lv_aload_n hx hb dL_law_668 rfl (lv_at hl 1 rfl) ?_
  refine lv_iload hx hb dL_law_669 (lv_at hl 5 rfl) ?_
  refine lv_iconst (v := 3) hx hb dL_law_671 (by decide) ?_
  refine lv_iadd hx hb dL_law_672 ?_
  refine he_top (nI (i + 3)) (nI_add i 3) ?_
  refine he_sld hx hb hX hbl hbA hS (i + 3) rfl (by omega) (by omega) (xs (i + 3)) rfl dL_law_673 ?_
  refine he_ci (wc := ([(x0, .inr (9, fx_q_4)), (m0, .inr (10, fm_q_4)), (aL g o0 1 fo_650)] ++ (Rc_q_4 ++ Rm_q_4))) (wr := []) (va_runV (As := [.int (xs (i + 1)), .int (xs (i + 2)), .int (xs (i + 3))]) (rest := []) ⟨hx, hb, hml, hown, hts⟩ (il_mI (j_would l g m0 S t _ (xs (i + 1)) (xs (i + 2)) (xs (i + 3)) hm) hc H.size) (cwV 3 hts gL_law_X11_would rfl rfl rfl (by decide +kernel) ⟨Nat.le_of_ble_eq_true rfl, Nat.le_of_ble_eq_true rfl⟩) (he_preV (wc := ([(x0, .inr (9, fx_q_4)), (m0, .inr (10, fm_q_4)), (aL g o0 1 fo_650)] ++ (Rc_q_4 ++ Rm_q_4))) hK hP hD hS hA hE (List.range (([(x0, .inr (9, fx_q_4)), (m0, .inr (10, fm_q_4)), (aL g o0 1 fo_650)] ++ (Rc_q_4 ++ Rm_q_4)) : va_W).length) (he_all _) (he_allnd _) 1 rfl rfl) rfl rfl hl.1 rfl (lv_room (Nat.le_of_ble_eq_true rfl)) dL_law_674 ⟨(by show 1000 + 4 * i + 1 + 0 ≤ 601024; omega), (by show 100000 + 700 * i + 6 + 0 ≤ 7293034; omega)⟩) hP hD hS hA (List.range (([(x0, .inr (9, fx_q_4)), (m0, .inr (10, fm_q_4)), (aL g o0 1 fo_650)] ++ (Rc_q_4 ++ Rm_q_4)) : va_W).length) [] (he_all _) rfl rfl (fun _ h9 => absurd h9 List.not_mem_nil) (fun r_5 u_6 H locs hu_7 hP hD hS => ?_)
  obtain ⟨t_674, hI9, ht674, hm674⟩ := hu_7
  obtain ⟨fx_q_8, fm_q_8, Rc_q_8, Rm_q_8, rfl, hc, hm⟩ := hI9
  have hP : va_P g.1 vwCl ([(x0, .inr (9, fx_q_8)), (m0, .inr (10, fm_q_8)), (aL g o0 1 fo_650)] ++ (Rc_q_8 ++ Rm_q_8)) H := hP
  have hD : va_D (lw_A s) ([(x0, .inr (9, fx_q_8)), (m0, .inr (10, fm_q_8)), (aL g o0 1 fo_650)] ++ (Rc_q_8 ++ Rm_q_8)) := hD
  refine lv_istore (lv' := [(6, .int r_5), (5, .int r_1), (0, .ref b), (1, .ref x0), (2, .ref m0), (3, .ref o0), (4, .int (nI i))]) hx hb dL_law_677 hl (by decide) rfl (fun ls hl => ?_)
  refine lv_goto (tgt := 1341) hx hb dL_law_679 (by decide) ?_
  refine W.widen (k := 1000 + 4 * (i + 6)) (n := 100000 + 700 * (i + 6)) (by show 1000 + 4 * i + 1 + 0 ≤ 1000 + 4 * (i + 6); omega) (by show 100000 + 700 * i + 6 + 0 ≤ 100000 + 700 * (i + 6); omega) ?_
  exact kk ((sp_would S (xs (i + 1)) (xs (i + 2)) (xs (i + 3))).2.2) t_674 fo_650 _ H locs ls (ok_would _ _ _ hOk) ⟨_, _, _, _, rfl, hc, hm⟩ hP hD hS (lv_sub hl [2, 3, 4, 5, 6] rfl)
set_option maxHeartbeats 8000000 in
set_option maxRecDepth 100000 in
theorem lc_best {p : Program} {e : Env} {s : State} {m : MethodId} {below : List Frame} {meth : Method} {c : Code} {Q : State → Prop} (l : Launch) (hlt : l.stackTraces = false) (g : he_G) {b Ln : Nat} {xs : Nat → Int32} (C0 : lw_C p s m meth c b Ln xs g) (i : Nat) (hi : i + 6 ≤ Ln) (hL : Ln ≤ 3072) (x0 m0 o0 : Nat) (S : AbS) (t : Int32) (fo : Nat → Int64) (W9 : va_W) (hOk : okS S) (hI : IL g x0 m0 o0 S S t fo W9) {H : Heap} {locs : List Loc} {ls : Array Slot} (hP : va_P g.1 vwCl W9 H) (hD : va_D (lw_A s) W9) (hS : va_S (lw_A s) s.heap H locs) (hl : lv_has ls 8 [(0, .ref b), (1, .ref x0), (2, .ref m0), (3, .ref o0), (4, .int (nI i))]) (kk : ∀ (S2 : AbS) (t2 : Int32) (fo2 : Nat → Int64) (W2 : va_W) (H2 : Heap) (locs2 : List Loc) (ls2 : Array Slot), okS S2 → IL g x0 m0 o0 S2 S2 t2 fo2 W2 → va_P g.1 vwCl W2 H2 → va_D (lw_A s) W2 → va_S (lw_A s) s.heap H2 locs2 → lv_has ls2 8 [(0, .ref b), (1, .ref x0), (2, .ref m0), (3, .ref o0), (4, .int (nI i))] → W p l e room_1 s m #[Value.ref b] below meth c H2 locs2 (1000 + 4 * (i + 6)) (100000 + 700 * (i + 6)) Q (F0 m 1341 ls2 [])) : W p l e room_1 s m #[Value.ref b] below meth c H locs (1000 + 4 * i) (100000 + 700 * i) Q (F0 m 682 ls []) := by
  obtain ⟨hx, hb, hr, hml, hown, hts, hX, hbl, hlk, hK, hE, hA, hbA, hNc⟩ := C0
  obtain ⟨fx, fm, Rc, Rm, rfl, hc, hm⟩ := hI
  refine lv_aload_n hx hb dL_law_682 rfl (lv_at hl 1 rfl) ?_
  refine lv_aload_n hx hb dL_law_683 rfl (lv_at hl 0 rfl) ?_
  refine lv_iload hx hb dL_law_684 (lv_at hl 4 rfl) ?_
  refine lv_iconst (v := 1) hx hb dL_law_686 (by decide) ?_
  refine lv_iadd hx hb dL_law_687 ?_
  refine he_top (nI (i + 1)) (nI_add i 1) ?_
  refine he_sld hx hb hX hbl hbA hS (i + 1) rfl (by omega) (by omega) (xs (i + 1)) rfl dL_law_688 ?_
  refine lv_aload_n hx hb dL_law_689 rfl (lv_at hl 0 rfl) ?_
  refine lv_iload hx hb dL_law_690 (lv_at hl 4 rfl) ?_
  refine lv_iconst (v := 2) hx hb dL_law_692 (by decide) ?_
  refine lv_iadd hx hb dL_law_693 ?_
  refine he_top (nI (i + 2)) (nI_add i 2) ?_
  refine he_sld hx hb hX hbl hbA hS (i + 2) rfl (by omega) (by omega) (xs (i + 2)) rfl dL_law_694 ?_
  refine lv_aload_n hx hb dL_law_695 rfl (lv_at hl 3 rfl) ?_
  refine he_ci (wc := ([(x0, .inr (9, fx)), (m0, .inr (10, fm)), (aL g o0 1 fo)] ++ (Rc ++ Rm))) (wr := []) (vx_runSW (As := [.ref x0, .int (xs (i + 1)), .int (xs (i + 2)), .ref o0]) (rest := []) ⟨hx, hb, hml, hown, hts⟩ (w_best l hlt g x0 m0 o0 S S t fo _ (xs (i + 1)) (xs (i + 2)) ⟨_, _, _, _, rfl, hc, hm⟩ H.size) (vx_cwSW 4 hts gL_law_L_best rfl rfl rfl (by decide +kernel) ⟨Nat.le_of_ble_eq_true rfl, Nat.le_of_ble_eq_true rfl⟩) (he_preS (wc := ([(x0, .inr (9, fx)), (m0, .inr (10, fm)), (aL g o0 1 fo)] ++ (Rc ++ Rm))) hK hP hD hS hA hE (List.range (([(x0, .inr (9, fx)), (m0, .inr (10, fm)), (aL g o0 1 fo)] ++ (Rc ++ Rm)) : va_W).length) (he_all _) (he_allnd _)) rfl rfl hl.1 rfl (lv_room (Nat.le_of_ble_eq_true rfl)) dL_law_696 ⟨(by show 1000 + 4 * i + 1 ≤ 601024; omega), (by show 100000 + 700 * i + 6 ≤ 7293034; omega)⟩) hP hD hS hA (List.range (([(x0, .inr (9, fx)), (m0, .inr (10, fm)), (aL g o0 1 fo)] ++ (Rc ++ Rm)) : va_W).length) [] (he_all _) rfl rfl (fun _ h9 => absurd h9 List.not_mem_nil) (fun r_1 u_2 H locs hu_3 hP hD hS => ?_)
  obtain ⟨fo_696, hI9, hr696, ho696⟩ := hu_3
  obtain ⟨fx_q_4, fm_q_4, Rc_q_4, Rm_q_4, rfl, hc, hm⟩ := hI9
  have hP : va_P g.1 vwCl ([(x0, .inr (9, fx_q_4)), (m0, .inr (10, fm_q_4)), (aL g o0 1 fo_696)] ++ (Rc_q_4 ++ Rm_q_4)) H := hP
  have hD : va_D (lw_A s) ([(x0, .inr (9, fx_q_4)), (m0, .inr (10, fm_q_4)), (aL g o0 1 fo_696)] ++ (Rc_q_4 ++ Rm_q_4)) := hD
  refine lv_istore (lv' := [(5, .int r_1), (0, .ref b), (1, .ref x0), (2, .ref m0), (3, .ref o0), (4, .int (nI i))]) hx hb dL_law_699 hl (by decide) rfl (fun ls hl => ?_)
  refine lv_aload_n hx hb dL_law_701 rfl (lv_at hl 3 rfl) ?_
  refine lv_aload_n hx hb dL_law_702 rfl (lv_at hl 1 rfl) ?_
  refine lv_iload hx hb dL_law_703 (lv_at hl 5 rfl) ?_
  refine lv_iconst (v := 1) hx hb dL_law_705 (by decide) ?_
  refine lv_iadd hx hb dL_law_706 ?_
  refine he_top (nI (i + 1)) (nI_add i 1) ?_
  refine he_sld hx hb hX hbl hbA hS (i + 1) rfl (by omega) (by omega) (xs (i + 1)) rfl dL_law_707 ?_
  refine lv_aload_n hx hb dL_law_708 rfl (lv_at hl 1 rfl) ?_
  refine lv_iload hx hb dL_law_709 (lv_at hl 5 rfl) ?_
  refine lv_iconst (v := 2) hx hb dL_law_711 (by decide) ?_
  refine lv_iadd hx hb dL_law_712 ?_
  refine he_top (nI (i + 2)) (nI_add i 2) ?_
  refine he_sld hx hb hX hbl hbA hS (i + 2) rfl (by omega) (by omega) (xs (i + 2)) rfl dL_law_713 ?_
  refine he_ci (wc := ([(x0, .inr (9, fx_q_4)), (m0, .inr (10, fm_q_4)), (aL g o0 1 fo_696)] ++ (Rc_q_4 ++ Rm_q_4))) (wr := []) (va_runV (As := [.int (xs (i + 1)), .int (xs (i + 2))]) (rest := []) ⟨hx, hb, hml, hown, hts⟩ (il_mI (j_best l g m0 S t _ (xs (i + 1)) (xs (i + 2)) hm) hc H.size) (cwV 2 hts gL_law_X11_best rfl rfl rfl (by decide +kernel) ⟨Nat.le_of_ble_eq_true rfl, Nat.le_of_ble_eq_true rfl⟩) (he_preV (wc := ([(x0, .inr (9, fx_q_4)), (m0, .inr (10, fm_q_4)), (aL g o0 1 fo_696)] ++ (Rc_q_4 ++ Rm_q_4))) hK hP hD hS hA hE (List.range (([(x0, .inr (9, fx_q_4)), (m0, .inr (10, fm_q_4)), (aL g o0 1 fo_696)] ++ (Rc_q_4 ++ Rm_q_4)) : va_W).length) (he_all _) (he_allnd _) 1 rfl rfl) rfl rfl hl.1 rfl (lv_room (Nat.le_of_ble_eq_true rfl)) dL_law_714 ⟨(by show 1000 + 4 * i + 1 + 0 ≤ 601024; omega), (by show 100000 + 700 * i + 6 + 0 ≤ 7293034; omega)⟩) hP hD hS hA (List.range (([(x0, .inr (9, fx_q_4)), (m0, .inr (10, fm_q_4)), (aL g o0 1 fo_696)] ++ (Rc_q_4 ++ Rm_q_4)) : va_W).length) [] (he_all _) rfl rfl (fun _ h9 => absurd h9 List.not_mem_nil) (fun r_5 u_6 H locs hu_7 hP hD hS => ?_)
  obtain ⟨t_714, hI9, ht714, hm714⟩ := hu_7
  obtain ⟨fx_q_8, fm_q_8, Rc_q_8, Rm_q_8, rfl, hc, hm⟩ := hI9
  have hP : va_P g.1 vwCl ([(x0, .inr (9, fx_q_8)), (m0, .inr (10, fm_q_8)), (aL g o0 1 fo_696)] ++ (Rc_q_8 ++ Rm_q_8)) H := hP
  have hD : va_D (lw_A s) ([(x0, .inr (9, fx_q_8)), (m0, .inr (10, fm_q_8)), (aL g o0 1 fo_696)] ++ (Rc_q_8 ++ Rm_q_8)) := hD
  refine lv_istore (lv' := [(6, .int r_5), (5, .int r_1), (0, .ref b), (1, .ref x0), (2, .ref m0), (3, .ref o0), (4, .int (nI i))]) hx hb dL_law_717 hl (by decide) rfl (fun ls hl => ?_)
  refine lv_goto (tgt := 1341) hx hb dL_law_719 (by decide) ?_
  refine W.widen (k := 1000 + 4 * (i + 6)) (n := 100000 + 700 * (i + 6)) (by show 1000 + 4 * i + 1 + 0 ≤ 1000 + 4 * (i + 6); omega) (by show 100000 + 700 * i + 6 + 0 ≤ 100000 + 700 * (i + 6); omega) ?_
  exact kk ((sp_best S (xs (i + 1)) (xs (i + 2))).2.2) t_714 fo_696 _ H locs ls (ok_best _ _ hOk) ⟨_, _, _, _, rfl, hc, hm⟩ hP hD hS (lv_sub hl [2, 3, 4, 5, 6] rfl)
set_option maxHeartbeats 8000000 in
set_option maxRecDepth 100000 in
theorem lc_offer {p : Program} {e : Env} {s : State} {m : MethodId} {below : List Frame} {meth : Method} {c : Code} {Q : State → Prop} (l : Launch) (hlt : l.stackTraces = false) (g : he_G) {b Ln : Nat} {xs : Nat → Int32} (C0 : lw_C p s m meth c b Ln xs g) (i : Nat) (hi : i + 6 ≤ Ln) (hL : Ln ≤ 3072) (x0 m0 o0 : Nat) (S : AbS) (t : Int32) (fo : Nat → Int64) (W9 : va_W) (hOk : okS S) (hI : IL g x0 m0 o0 S S t fo W9) {H : Heap} {locs : List Loc} {ls : Array Slot} (hP : va_P g.1 vwCl W9 H) (hD : va_D (lw_A s) W9) (hS : va_S (lw_A s) s.heap H locs) (hl : lv_has ls 8 [(0, .ref b), (1, .ref x0), (2, .ref m0), (3, .ref o0), (4, .int (nI i))]) (kk : ∀ (S2 : AbS) (t2 : Int32) (fo2 : Nat → Int64) (W2 : va_W) (H2 : Heap) (locs2 : List Loc) (ls2 : Array Slot), okS S2 → IL g x0 m0 o0 S2 S2 t2 fo2 W2 → va_P g.1 vwCl W2 H2 → va_D (lw_A s) W2 → va_S (lw_A s) s.heap H2 locs2 → lv_has ls2 8 [(0, .ref b), (1, .ref x0), (2, .ref m0), (3, .ref o0), (4, .int (nI i))] → W p l e room_1 s m #[Value.ref b] below meth c H2 locs2 (1000 + 4 * (i + 6)) (100000 + 700 * (i + 6)) Q (F0 m 1341 ls2 [])) : W p l e room_1 s m #[Value.ref b] below meth c H locs (1000 + 4 * i) (100000 + 700 * i) Q (F0 m 722 ls []) := by
  obtain ⟨hx, hb, hr, hml, hown, hts, hX, hbl, hlk, hK, hE, hA, hbA, hNc⟩ := C0
  obtain ⟨fx, fm, Rc, Rm, rfl, hc, hm⟩ := hI
  refine lv_aload_n hx hb dL_law_722 rfl (lv_at hl 1 rfl) ?_
  refine lv_aload_n hx hb dL_law_723 rfl (lv_at hl 0 rfl) ?_
  refine lv_iload hx hb dL_law_724 (lv_at hl 4 rfl) ?_
  refine lv_iconst (v := 1) hx hb dL_law_726 (by decide) ?_
  refine lv_iadd hx hb dL_law_727 ?_
  refine he_top (nI (i + 1)) (nI_add i 1) ?_
  refine he_sld hx hb hX hbl hbA hS (i + 1) rfl (by omega) (by omega) (xs (i + 1)) rfl dL_law_728 ?_
  refine lv_aload_n hx hb dL_law_729 rfl (lv_at hl 0 rfl) ?_
  refine lv_iload hx hb dL_law_730 (lv_at hl 4 rfl) ?_
  refine lv_iconst (v := 2) hx hb dL_law_732 (by decide) ?_
  refine lv_iadd hx hb dL_law_733 ?_
  refine he_top (nI (i + 2)) (nI_add i 2) ?_
  refine he_sld hx hb hX hbl hbA hS (i + 2) rfl (by omega) (by omega) (xs (i + 2)) rfl dL_law_734 ?_
  refine lv_aload_n hx hb dL_law_735 rfl (lv_at hl 3 rfl) ?_
  refine he_ci (wc := ([(x0, .inr (9, fx)), (m0, .inr (10, fm)), (aL g o0 1 fo)] ++ (Rc ++ Rm))) (wr := []) (vx_runSW (As := [.ref x0, .int (xs (i + 1)), .int (xs (i + 2)), .ref o0]) (rest := []) ⟨hx, hb, hml, hown, hts⟩ (w_offer l hlt g x0 m0 o0 S S t fo _ (xs (i + 1)) (xs (i + 2)) ⟨_, _, _, _, rfl, hc, hm⟩ H.size) (vx_cwSW 4 hts gL_law_L_offer rfl rfl rfl (by decide +kernel) ⟨Nat.le_of_ble_eq_true rfl, Nat.le_of_ble_eq_true rfl⟩) (he_preS (wc := ([(x0, .inr (9, fx)), (m0, .inr (10, fm)), (aL g o0 1 fo)] ++ (Rc ++ Rm))) hK hP hD hS hA hE (List.range (([(x0, .inr (9, fx)), (m0, .inr (10, fm)), (aL g o0 1 fo)] ++ (Rc ++ Rm)) : va_W).length) (he_all _) (he_allnd _)) rfl rfl hl.1 rfl (lv_room (Nat.le_of_ble_eq_true rfl)) dL_law_736 ⟨(by show 1000 + 4 * i + 1 ≤ 601024; omega), (by show 100000 + 700 * i + 6 ≤ 7293034; omega)⟩) hP hD hS hA (List.range (([(x0, .inr (9, fx)), (m0, .inr (10, fm)), (aL g o0 1 fo)] ++ (Rc ++ Rm)) : va_W).length) [] (he_all _) rfl rfl (fun _ h9 => absurd h9 List.not_mem_nil) (fun r_1 u_2 H locs hu_3 hP hD hS => ?_)
  obtain ⟨fo_736, hI9, hr736, ho736⟩ := hu_3
  obtain ⟨fx_q_4, fm_q_4, Rc_q_4, Rm_q_4, rfl, hc, hm⟩ := hI9
  have hP : va_P g.1 vwCl ([(x0, .inr (9, fx_q_4)), (m0, .inr (10, fm_q_4)), (aL g o0 1 fo_736)] ++ (Rc_q_4 ++ Rm_q_4)) H := hP
  have hD : va_D (lw_A s) ([(x0, .inr (9, fx_q_4)), (m0, .inr (10, fm_q_4)), (aL g o0 1 fo_736)] ++ (Rc_q_4 ++ Rm_q_4)) := hD
  refine lv_istore (lv' := [(5, .int r_1), (0, .ref b), (1, .ref x0), (2, .ref m0), (3, .ref o0), (4, .int (nI i))]) hx hb dL_law_739 hl (by decide) rfl (fun ls hl => ?_)
  refine lv_aload_n hx hb dL_law_741 rfl (lv_at hl 3 rfl) ?_
  refine lv_aload_n hx hb dL_law_742 rfl (lv_at hl 1 rfl) ?_
  refine lv_iload hx hb dL_law_743 (lv_at hl 5 rfl) ?_
  refine lv_iconst (v := 1) hx hb dL_law_745 (by decide) ?_
  refine lv_iadd hx hb dL_law_746 ?_
  refine he_top (nI (i + 1)) (nI_add i 1) ?_
  refine he_sld hx hb hX hbl hbA hS (i + 1) rfl (by omega) (by omega) (xs (i + 1)) rfl dL_law_747 ?_
  refine lv_aload_n hx hb dL_law_748 rfl (lv_at hl 1 rfl) ?_
  refine lv_iload hx hb dL_law_749 (lv_at hl 5 rfl) ?_
  refine lv_iconst (v := 2) hx hb dL_law_751 (by decide) ?_
  refine lv_iadd hx hb dL_law_752 ?_
  refine he_top (nI (i + 2)) (nI_add i 2) ?_
  refine he_sld hx hb hX hbl hbA hS (i + 2) rfl (by omega) (by omega) (xs (i + 2)) rfl dL_law_753 ?_
  refine he_ci (wc := ([(x0, .inr (9, fx_q_4)), (m0, .inr (10, fm_q_4)), (aL g o0 1 fo_736)] ++ (Rc_q_4 ++ Rm_q_4))) (wr := []) (va_runV (As := [.int (xs (i + 1)), .int (xs (i + 2))]) (rest := []) ⟨hx, hb, hml, hown, hts⟩ (il_mI (j_offer l g m0 S t _ (xs (i + 1)) (xs (i + 2)) hm) hc H.size) (cwV 2 hts gL_law_X11_offer rfl rfl rfl (by decide +kernel) ⟨Nat.le_of_ble_eq_true rfl, Nat.le_of_ble_eq_true rfl⟩) (he_preV (wc := ([(x0, .inr (9, fx_q_4)), (m0, .inr (10, fm_q_4)), (aL g o0 1 fo_736)] ++ (Rc_q_4 ++ Rm_q_4))) hK hP hD hS hA hE (List.range (([(x0, .inr (9, fx_q_4)), (m0, .inr (10, fm_q_4)), (aL g o0 1 fo_736)] ++ (Rc_q_4 ++ Rm_q_4)) : va_W).length) (he_all _) (he_allnd _) 1 rfl rfl) rfl rfl hl.1 rfl (lv_room (Nat.le_of_ble_eq_true rfl)) dL_law_754 ⟨(by show 1000 + 4 * i + 1 + 0 ≤ 601024; omega), (by show 100000 + 700 * i + 6 + 0 ≤ 7293034; omega)⟩) hP hD hS hA (List.range (([(x0, .inr (9, fx_q_4)), (m0, .inr (10, fm_q_4)), (aL g o0 1 fo_736)] ++ (Rc_q_4 ++ Rm_q_4)) : va_W).length) [] (he_all _) rfl rfl (fun _ h9 => absurd h9 List.not_mem_nil) (fun r_5 u_6 H locs hu_7 hP hD hS => ?_)
  obtain ⟨t_754, hI9, ht754, hm754⟩ := hu_7
  obtain ⟨fx_q_8, fm_q_8, Rc_q_8, Rm_q_8, rfl, hc, hm⟩ := hI9
  have hP : va_P g.1 vwCl ([(x0, .inr (9, fx_q_8)), (m0, .inr (10, fm_q_8)), (aL g o0 1 fo_736)] ++ (Rc_q_8 ++ Rm_q_8)) H := hP
  have hD : va_D (lw_A s) ([(x0, .inr (9, fx_q_8)), (m0, .inr (10, fm_q_8)), (aL g o0 1 fo_736)] ++ (Rc_q_8 ++ Rm_q_8)) := hD
  refine lv_istore (lv' := [(6, .int r_5), (5, .int r_1), (0, .ref b), (1, .ref x0), (2, .ref m0), (3, .ref o0), (4, .int (nI i))]) hx hb dL_law_757 hl (by decide) rfl (fun ls hl => ?_)
  refine lv_goto (tgt := 1341) hx hb dL_law_759 (by decide) ?_
  refine W.widen (k := 1000 + 4 * (i + 6)) (n := 100000 + 700 * (i + 6)) (by show 1000 + 4 * i + 1 + 0 ≤ 1000 + 4 * (i + 6); omega) (by show 100000 + 700 * i + 6 + 0 ≤ 100000 + 700 * (i + 6); omega) ?_
  exact kk ((sp_offer S (xs (i + 1)) (xs (i + 2))).2.2) t_754 fo_736 _ H locs ls (ok_offer _ _ hOk) ⟨_, _, _, _, rfl, hc, hm⟩ hP hD hS (lv_sub hl [2, 3, 4, 5, 6] rfl)
set_option maxHeartbeats 8000000 in
set_option maxRecDepth 100000 in
theorem lc_nearest {p : Program} {e : Env} {s : State} {m : MethodId} {below : List Frame} {meth : Method} {c : Code} {Q : State → Prop} (l : Launch) (hlt : l.stackTraces = false) (g : he_G) {b Ln : Nat} {xs : Nat → Int32} (C0 : lw_C p s m meth c b Ln xs g) (i : Nat) (hi : i + 6 ≤ Ln) (hL : Ln ≤ 3072) (x0 m0 o0 : Nat) (S : AbS) (t : Int32) (fo : Nat → Int64) (W9 : va_W) (hOk : okS S) (hI : IL g x0 m0 o0 S S t fo W9) {H : Heap} {locs : List Loc} {ls : Array Slot} (hP : va_P g.1 vwCl W9 H) (hD : va_D (lw_A s) W9) (hS : va_S (lw_A s) s.heap H locs) (hl : lv_has ls 8 [(0, .ref b), (1, .ref x0), (2, .ref m0), (3, .ref o0), (4, .int (nI i))]) (kk : ∀ (S2 : AbS) (t2 : Int32) (fo2 : Nat → Int64) (W2 : va_W) (H2 : Heap) (locs2 : List Loc) (ls2 : Array Slot), okS S2 → IL g x0 m0 o0 S2 S2 t2 fo2 W2 → va_P g.1 vwCl W2 H2 → va_D (lw_A s) W2 → va_S (lw_A s) s.heap H2 locs2 → lv_has ls2 8 [(0, .ref b), (1, .ref x0), (2, .ref m0), (3, .ref o0), (4, .int (nI i))] → W p l e room_1 s m #[Value.ref b] below meth c H2 locs2 (1000 + 4 * (i + 6)) (100000 + 700 * (i + 6)) Q (F0 m 1341 ls2 [])) : W p l e room_1 s m #[Value.ref b] below meth c H locs (1000 + 4 * i) (100000 + 700 * i) Q (F0 m 762 ls []) := by
  obtain ⟨hx, hb, hr, hml, hown, hts, hX, hbl, hlk, hK, hE, hA, hbA, hNc⟩ := C0
  obtain ⟨fx, fm, Rc, Rm, rfl, hc, hm⟩ := hI
  refine lv_aload_n hx hb dL_law_762 rfl (lv_at hl 1 rfl) ?_
  refine lv_aload_n hx hb dL_law_763 rfl (lv_at hl 0 rfl) ?_
  refine lv_iload hx hb dL_law_764 (lv_at hl 4 rfl) ?_
  refine lv_iconst (v := 1) hx hb dL_law_766 (by decide) ?_
  refine lv_iadd hx hb dL_law_767 ?_
  refine he_top (nI (i + 1)) (nI_add i 1) ?_
  refine he_sld hx hb hX hbl hbA hS (i + 1) rfl (by omega) (by omega) (xs (i + 1)) rfl dL_law_768 ?_
  refine lv_aload_n hx hb dL_law_769 rfl (lv_at hl 0 rfl) ?_
  refine lv_iload hx hb dL_law_770 (lv_at hl 4 rfl) ?_
  refine lv_iconst (v := 2) hx hb dL_law_772 (by decide) ?_
  refine lv_iadd hx hb dL_law_773 ?_
  refine he_top (nI (i + 2)) (nI_add i 2) ?_
  refine he_sld hx hb hX hbl hbA hS (i + 2) rfl (by omega) (by omega) (xs (i + 2)) rfl dL_law_774 ?_
  refine lv_aload_n hx hb dL_law_775 rfl (lv_at hl 3 rfl) ?_
  refine he_ci (wc := ([(x0, .inr (9, fx)), (m0, .inr (10, fm)), (aL g o0 1 fo)] ++ (Rc ++ Rm))) (wr := []) (vx_runSW (As := [.ref x0, .int (xs (i + 1)), .int (xs (i + 2)), .ref o0]) (rest := []) ⟨hx, hb, hml, hown, hts⟩ (w_nearest l hlt g x0 m0 o0 S S t fo _ (xs (i + 1)) (xs (i + 2)) ⟨_, _, _, _, rfl, hc, hm⟩ H.size) (vx_cwSW 4 hts gL_law_L_nearest rfl rfl rfl (by decide +kernel) ⟨Nat.le_of_ble_eq_true rfl, Nat.le_of_ble_eq_true rfl⟩) (he_preS (wc := ([(x0, .inr (9, fx)), (m0, .inr (10, fm)), (aL g o0 1 fo)] ++ (Rc ++ Rm))) hK hP hD hS hA hE (List.range (([(x0, .inr (9, fx)), (m0, .inr (10, fm)), (aL g o0 1 fo)] ++ (Rc ++ Rm)) : va_W).length) (he_all _) (he_allnd _)) rfl rfl hl.1 rfl (lv_room (Nat.le_of_ble_eq_true rfl)) dL_law_776 ⟨(by show 1000 + 4 * i + 1 ≤ 601024; omega), (by show 100000 + 700 * i + 6 ≤ 7293034; omega)⟩) hP hD hS hA (List.range (([(x0, .inr (9, fx)), (m0, .inr (10, fm)), (aL g o0 1 fo)] ++ (Rc ++ Rm)) : va_W).length) [] (he_all _) rfl rfl (fun _ h9 => absurd h9 List.not_mem_nil) (fun r_1 u_2 H locs hu_3 hP hD hS => ?_)
  obtain ⟨fo_776, hI9, hr776, ho776⟩ := hu_3
  obtain ⟨fx_q_4, fm_q_4, Rc_q_4, Rm_q_4, rfl, hc, hm⟩ := hI9
  have hP : va_P g.1 vwCl ([(x0, .inr (9, fx_q_4)), (m0, .inr (10, fm_q_4)), (aL g o0 1 fo_776)] ++ (Rc_q_4 ++ Rm_q_4)) H := hP
  have hD : va_D (lw_A s) ([(x0, .inr (9, fx_q_4)), (m0, .inr (10, fm_q_4)), (aL g o0 1 fo_776)] ++ (Rc_q_4 ++ Rm_q_4)) := hD
  refine lv_istore (lv' := [(5, .int r_1), (0, .ref b), (1, .ref x0), (2, .ref m0), (3, .ref o0), (4, .int (nI i))]) hx hb dL_law_779 hl (by decide) rfl (fun ls hl => ?_)
  refine lv_aload_n hx hb dL_law_781 rfl (lv_at hl 3 rfl) ?_
  refine lv_aload_n hx hb dL_law_782 rfl (lv_at hl 1 rfl) ?_
  refine lv_iload hx hb dL_law_783 (lv_at hl 5 rfl) ?_
  refine lv_iconst (v := 1) hx hb dL_law_785 (by decide) ?_
  refine lv_iadd hx hb dL_law_786 ?_
  refine he_top (nI (i + 1)) (nI_add i 1) ?_
  refine he_sld hx hb hX hbl hbA hS (i + 1) rfl (by omega) (by omega) (xs (i + 1)) rfl dL_law_787 ?_
  refine lv_aload_n hx hb dL_law_788 rfl (lv_at hl 1 rfl) ?_
  refine lv_iload hx hb dL_law_789 (lv_at hl 5 rfl) ?_
  refine lv_iconst (v := 2) hx hb dL_law_791 (by decide) ?_
  refine lv_iadd hx hb dL_law_792 ?_
  refine he_top (nI (i + 2)) (nI_add i 2) ?_
  refine he_sld hx hb hX hbl hbA hS (i + 2) rfl (by omega) (by omega) (xs (i + 2)) rfl dL_law_793 ?_
  refine he_ci (wc := ([(x0, .inr (9, fx_q_4)), (m0, .inr (10, fm_q_4)), (aL g o0 1 fo_776)] ++ (Rc_q_4 ++ Rm_q_4))) (wr := []) (va_runV (As := [.int (xs (i + 1)), .int (xs (i + 2))]) (rest := []) ⟨hx, hb, hml, hown, hts⟩ (il_mI (j_nearest l g m0 S t _ (xs (i + 1)) (xs (i + 2)) hm) hc H.size) (cwV 2 hts gL_law_X11_nearest rfl rfl rfl (by decide +kernel) ⟨Nat.le_of_ble_eq_true rfl, Nat.le_of_ble_eq_true rfl⟩) (he_preV (wc := ([(x0, .inr (9, fx_q_4)), (m0, .inr (10, fm_q_4)), (aL g o0 1 fo_776)] ++ (Rc_q_4 ++ Rm_q_4))) hK hP hD hS hA hE (List.range (([(x0, .inr (9, fx_q_4)), (m0, .inr (10, fm_q_4)), (aL g o0 1 fo_776)] ++ (Rc_q_4 ++ Rm_q_4)) : va_W).length) (he_all _) (he_allnd _) 1 rfl rfl) rfl rfl hl.1 rfl (lv_room (Nat.le_of_ble_eq_true rfl)) dL_law_794 ⟨(by show 1000 + 4 * i + 1 + 0 ≤ 601024; omega), (by show 100000 + 700 * i + 6 + 0 ≤ 7293034; omega)⟩) hP hD hS hA (List.range (([(x0, .inr (9, fx_q_4)), (m0, .inr (10, fm_q_4)), (aL g o0 1 fo_776)] ++ (Rc_q_4 ++ Rm_q_4)) : va_W).length) [] (he_all _) rfl rfl (fun _ h9 => absurd h9 List.not_mem_nil) (fun r_5 u_6 H locs hu_7 hP hD hS => ?_)
  obtain ⟨t_794, hI9, ht794, hm794⟩ := hu_7
  obtain ⟨fx_q_8, fm_q_8, Rc_q_8, Rm_q_8, rfl, hc, hm⟩ := hI9
  have hP : va_P g.1 vwCl ([(x0, .inr (9, fx_q_8)), (m0, .inr (10, fm_q_8)), (aL g o0 1 fo_776)] ++ (Rc_q_8 ++ Rm_q_8)) H := hP
  have hD : va_D (lw_A s) ([(x0, .inr (9, fx_q_8)), (m0, .inr (10, fm_q_8)), (aL g o0 1 fo_776)] ++ (Rc_q_8 ++ Rm_q_8)) := hD
  refine lv_istore (lv' := [(6, .int r_5), (5, .int r_1), (0, .ref b), (1, .ref x0), (2, .ref m0), (3, .ref o0), (4, .int (nI i))]) hx hb dL_law_797 hl (by decide) rfl (fun ls hl => ?_)
  refine lv_goto (tgt := 1341) hx hb dL_law_799 (by decide) ?_
  refine W.widen (k := 1000 + 4 * (i + 6)) (n := 100000 + 700 * (i + 6)) (by show 1000 + 4 * i + 1 + 0 ≤ 1000 + 4 * (i + 6); omega) (by show 100000 + 700 * i + 6 + 0 ≤ 100000 + 700 * (i + 6); omega) ?_
  exact kk ((sp_nearest S (xs (i + 1)) (xs (i + 2))).2.2) t_794 fo_776 _ H locs ls (ok_nearest _ _ hOk) ⟨_, _, _, _, rfl, hc, hm⟩ hP hD hS (lv_sub hl [2, 3, 4, 5, 6] rfl)
set_option maxHeartbeats 8000000 in
set_option maxRecDepth 100000 in
theorem lc_stop {p : Program} {e : Env} {s : State} {m : MethodId} {below : List Frame} {meth : Method} {c : Code} {Q : State → Prop} (l : Launch) (hlt : l.stackTraces = false) (g : he_G) {b Ln : Nat} {xs : Nat → Int32} (C0 : lw_C p s m meth c b Ln xs g) (i : Nat) (hi : i + 6 ≤ Ln) (hL : Ln ≤ 3072) (x0 m0 o0 : Nat) (S : AbS) (t : Int32) (fo : Nat → Int64) (W9 : va_W) (hOk : okS S) (hI : IL g x0 m0 o0 S S t fo W9) {H : Heap} {locs : List Loc} {ls : Array Slot} (hP : va_P g.1 vwCl W9 H) (hD : va_D (lw_A s) W9) (hS : va_S (lw_A s) s.heap H locs) (hl : lv_has ls 8 [(0, .ref b), (1, .ref x0), (2, .ref m0), (3, .ref o0), (4, .int (nI i))]) (kk : ∀ (S2 : AbS) (t2 : Int32) (fo2 : Nat → Int64) (W2 : va_W) (H2 : Heap) (locs2 : List Loc) (ls2 : Array Slot), okS S2 → IL g x0 m0 o0 S2 S2 t2 fo2 W2 → va_P g.1 vwCl W2 H2 → va_D (lw_A s) W2 → va_S (lw_A s) s.heap H2 locs2 → lv_has ls2 8 [(0, .ref b), (1, .ref x0), (2, .ref m0), (3, .ref o0), (4, .int (nI i))] → W p l e room_1 s m #[Value.ref b] below meth c H2 locs2 (1000 + 4 * (i + 6)) (100000 + 700 * (i + 6)) Q (F0 m 1341 ls2 [])) : W p l e room_1 s m #[Value.ref b] below meth c H locs (1000 + 4 * i) (100000 + 700 * i) Q (F0 m 802 ls []) := by
  obtain ⟨hx, hb, hr, hml, hown, hts, hX, hbl, hlk, hK, hE, hA, hbA, hNc⟩ := C0
  obtain ⟨fx, fm, Rc, Rm, rfl, hc, hm⟩ := hI
  refine lv_aload_n hx hb dL_law_802 rfl (lv_at hl 1 rfl) ?_
  refine lv_aload_n hx hb dL_law_803 rfl (lv_at hl 0 rfl) ?_
  refine lv_iload hx hb dL_law_804 (lv_at hl 4 rfl) ?_
  refine lv_iconst (v := 1) hx hb dL_law_806 (by decide) ?_
  refine lv_iadd hx hb dL_law_807 ?_
  refine he_top (nI (i + 1)) (nI_add i 1) ?_
  refine he_sld hx hb hX hbl hbA hS (i + 1) rfl (by omega) (by omega) (xs (i + 1)) rfl dL_law_808 ?_
  refine lv_aload_n hx hb dL_law_809 rfl (lv_at hl 0 rfl) ?_
  refine lv_iload hx hb dL_law_810 (lv_at hl 4 rfl) ?_
  refine lv_iconst (v := 2) hx hb dL_law_812 (by decide) ?_
  refine lv_iadd hx hb dL_law_813 ?_
  refine he_top (nI (i + 2)) (nI_add i 2) ?_
  refine he_sld hx hb hX hbl hbA hS (i + 2) rfl (by omega) (by omega) (xs (i + 2)) rfl dL_law_814 ?_
  refine lv_aload_n hx hb dL_law_815 rfl (lv_at hl 3 rfl) ?_
  refine he_ci (wc := ([(x0, .inr (9, fx)), (m0, .inr (10, fm)), (aL g o0 1 fo)] ++ (Rc ++ Rm))) (wr := []) (vx_runSW (As := [.ref x0, .int (xs (i + 1)), .int (xs (i + 2)), .ref o0]) (rest := []) ⟨hx, hb, hml, hown, hts⟩ (w_stop l hlt g x0 m0 o0 S S t fo _ (xs (i + 1)) (xs (i + 2)) ⟨_, _, _, _, rfl, hc, hm⟩ H.size) (vx_cwSW 4 hts gL_law_L_stop rfl rfl rfl (by decide +kernel) ⟨Nat.le_of_ble_eq_true rfl, Nat.le_of_ble_eq_true rfl⟩) (he_preS (wc := ([(x0, .inr (9, fx)), (m0, .inr (10, fm)), (aL g o0 1 fo)] ++ (Rc ++ Rm))) hK hP hD hS hA hE (List.range (([(x0, .inr (9, fx)), (m0, .inr (10, fm)), (aL g o0 1 fo)] ++ (Rc ++ Rm)) : va_W).length) (he_all _) (he_allnd _)) rfl rfl hl.1 rfl (lv_room (Nat.le_of_ble_eq_true rfl)) dL_law_816 ⟨(by show 1000 + 4 * i + 1 ≤ 601024; omega), (by show 100000 + 700 * i + 6 ≤ 7293034; omega)⟩) hP hD hS hA (List.range (([(x0, .inr (9, fx)), (m0, .inr (10, fm)), (aL g o0 1 fo)] ++ (Rc ++ Rm)) : va_W).length) [] (he_all _) rfl rfl (fun _ h9 => absurd h9 List.not_mem_nil) (fun r_1 u_2 H locs hu_3 hP hD hS => ?_)
  obtain ⟨fo_816, hI9, hr816, ho816⟩ := hu_3
  obtain ⟨fx_q_4, fm_q_4, Rc_q_4, Rm_q_4, rfl, hc, hm⟩ := hI9
  have hP : va_P g.1 vwCl ([(x0, .inr (9, fx_q_4)), (m0, .inr (10, fm_q_4)), (aL g o0 1 fo_816)] ++ (Rc_q_4 ++ Rm_q_4)) H := hP
  have hD : va_D (lw_A s) ([(x0, .inr (9, fx_q_4)), (m0, .inr (10, fm_q_4)), (aL g o0 1 fo_816)] ++ (Rc_q_4 ++ Rm_q_4)) := hD
  refine lv_istore (lv' := [(5, .int r_1), (0, .ref b), (1, .ref x0), (2, .ref m0), (3, .ref o0), (4, .int (nI i))]) hx hb dL_law_819 hl (by decide) rfl (fun ls hl => ?_)
  refine lv_aload_n hx hb dL_law_821 rfl (lv_at hl 3 rfl) ?_
  refine lv_aload_n hx hb dL_law_822 rfl (lv_at hl 1 rfl) ?_
  refine lv_iload hx hb dL_law_823 (lv_at hl 5 rfl) ?_
  refine lv_iconst (v := 1) hx hb dL_law_825 (by decide) ?_
  refine lv_iadd hx hb dL_law_826 ?_
  refine he_top (nI (i + 1)) (nI_add i 1) ?_
  refine he_sld hx hb hX hbl hbA hS (i + 1) rfl (by omega) (by omega) (xs (i + 1)) rfl dL_law_827 ?_
  refine lv_aload_n hx hb dL_law_828 rfl (lv_at hl 1 rfl) ?_
  refine lv_iload hx hb dL_law_829 (lv_at hl 5 rfl) ?_
  refine lv_iconst (v := 2) hx hb dL_law_831 (by decide) ?_
  refine lv_iadd hx hb dL_law_832 ?_
  refine he_top (nI (i + 2)) (nI_add i 2) ?_
  refine he_sld hx hb hX hbl hbA hS (i + 2) rfl (by omega) (by omega) (xs (i + 2)) rfl dL_law_833 ?_
  refine he_ci (wc := ([(x0, .inr (9, fx_q_4)), (m0, .inr (10, fm_q_4)), (aL g o0 1 fo_816)] ++ (Rc_q_4 ++ Rm_q_4))) (wr := []) (va_runV (As := [.int (xs (i + 1)), .int (xs (i + 2))]) (rest := []) ⟨hx, hb, hml, hown, hts⟩ (il_mI (j_stop l g m0 S t _ (xs (i + 1)) (xs (i + 2)) hm) hc H.size) (cwV 2 hts gL_law_X11_stop rfl rfl rfl (by decide +kernel) ⟨Nat.le_of_ble_eq_true rfl, Nat.le_of_ble_eq_true rfl⟩) (he_preV (wc := ([(x0, .inr (9, fx_q_4)), (m0, .inr (10, fm_q_4)), (aL g o0 1 fo_816)] ++ (Rc_q_4 ++ Rm_q_4))) hK hP hD hS hA hE (List.range (([(x0, .inr (9, fx_q_4)), (m0, .inr (10, fm_q_4)), (aL g o0 1 fo_816)] ++ (Rc_q_4 ++ Rm_q_4)) : va_W).length) (he_all _) (he_allnd _) 1 rfl rfl) rfl rfl hl.1 rfl (lv_room (Nat.le_of_ble_eq_true rfl)) dL_law_834 ⟨(by show 1000 + 4 * i + 1 + 0 ≤ 601024; omega), (by show 100000 + 700 * i + 6 + 0 ≤ 7293034; omega)⟩) hP hD hS hA (List.range (([(x0, .inr (9, fx_q_4)), (m0, .inr (10, fm_q_4)), (aL g o0 1 fo_816)] ++ (Rc_q_4 ++ Rm_q_4)) : va_W).length) [] (he_all _) rfl rfl (fun _ h9 => absurd h9 List.not_mem_nil) (fun r_5 u_6 H locs hu_7 hP hD hS => ?_)
  obtain ⟨t_834, hI9, ht834, hm834⟩ := hu_7
  obtain ⟨fx_q_8, fm_q_8, Rc_q_8, Rm_q_8, rfl, hc, hm⟩ := hI9
  have hP : va_P g.1 vwCl ([(x0, .inr (9, fx_q_8)), (m0, .inr (10, fm_q_8)), (aL g o0 1 fo_816)] ++ (Rc_q_8 ++ Rm_q_8)) H := hP
  have hD : va_D (lw_A s) ([(x0, .inr (9, fx_q_8)), (m0, .inr (10, fm_q_8)), (aL g o0 1 fo_816)] ++ (Rc_q_8 ++ Rm_q_8)) := hD
  refine lv_istore (lv' := [(6, .int r_5), (5, .int r_1), (0, .ref b), (1, .ref x0), (2, .ref m0), (3, .ref o0), (4, .int (nI i))]) hx hb dL_law_837 hl (by decide) rfl (fun ls hl => ?_)
  refine lv_goto (tgt := 1341) hx hb dL_law_839 (by decide) ?_
  refine W.widen (k := 1000 + 4 * (i + 6)) (n := 100000 + 700 * (i + 6)) (by show 1000 + 4 * i + 1 + 0 ≤ 1000 + 4 * (i + 6); omega) (by show 100000 + 700 * i + 6 + 0 ≤ 100000 + 700 * (i + 6); omega) ?_
  exact kk ((sp_stop S (xs (i + 1)) (xs (i + 2))).2.2) t_834 fo_816 _ H locs ls (ok_stop _ _ hOk) ⟨_, _, _, _, rfl, hc, hm⟩ hP hD hS (lv_sub hl [2, 3, 4, 5, 6] rfl)
set_option maxHeartbeats 8000000 in
set_option maxRecDepth 100000 in
theorem lc_odds {p : Program} {e : Env} {s : State} {m : MethodId} {below : List Frame} {meth : Method} {c : Code} {Q : State → Prop} (l : Launch) (hlt : l.stackTraces = false) (g : he_G) {b Ln : Nat} {xs : Nat → Int32} (C0 : lw_C p s m meth c b Ln xs g) (i : Nat) (hi : i + 6 ≤ Ln) (hL : Ln ≤ 3072) (x0 m0 o0 : Nat) (S : AbS) (t : Int32) (fo : Nat → Int64) (W9 : va_W) (hOk : okS S) (hI : IL g x0 m0 o0 S S t fo W9) {H : Heap} {locs : List Loc} {ls : Array Slot} (hP : va_P g.1 vwCl W9 H) (hD : va_D (lw_A s) W9) (hS : va_S (lw_A s) s.heap H locs) (hl : lv_has ls 8 [(0, .ref b), (1, .ref x0), (2, .ref m0), (3, .ref o0), (4, .int (nI i))]) (kk : ∀ (S2 : AbS) (t2 : Int32) (fo2 : Nat → Int64) (W2 : va_W) (H2 : Heap) (locs2 : List Loc) (ls2 : Array Slot), okS S2 → IL g x0 m0 o0 S2 S2 t2 fo2 W2 → va_P g.1 vwCl W2 H2 → va_D (lw_A s) W2 → va_S (lw_A s) s.heap H2 locs2 → lv_has ls2 8 [(0, .ref b), (1, .ref x0), (2, .ref m0), (3, .ref o0), (4, .int (nI i))] → W p l e room_1 s m #[Value.ref b] below meth c H2 locs2 (1000 + 4 * (i + 6)) (100000 + 700 * (i + 6)) Q (F0 m 1341 ls2 [])) : W p l e room_1 s m #[Value.ref b] below meth c H locs (1000 + 4 * i) (100000 + 700 * i) Q (F0 m 842 ls []) := by
  obtain ⟨hx, hb, hr, hml, hown, hts, hX, hbl, hlk, hK, hE, hA, hbA, hNc⟩ := C0
  obtain ⟨fx, fm, Rc, Rm, rfl, hc, hm⟩ := hI
  refine lv_aload_n hx hb dL_law_842 rfl (lv_at hl 1 rfl) ?_
  refine lv_aload_n hx hb dL_law_843 rfl (lv_at hl 0 rfl) ?_
  refine lv_iload hx hb dL_law_844 (lv_at hl 4 rfl) ?_
  refine lv_iconst (v := 1) hx hb dL_law_846 (by decide) ?_
  refine lv_iadd hx hb dL_law_847 ?_
  refine he_top (nI (i + 1)) (nI_add i 1) ?_
  refine he_sld hx hb hX hbl hbA hS (i + 1) rfl (by omega) (by omega) (xs (i + 1)) rfl dL_law_848 ?_
  refine lv_aload_n hx hb dL_law_849 rfl (lv_at hl 0 rfl) ?_
  refine lv_iload hx hb dL_law_850 (lv_at hl 4 rfl) ?_
  refine lv_iconst (v := 2) hx hb dL_law_852 (by decide) ?_
  refine lv_iadd hx hb dL_law_853 ?_
  refine he_top (nI (i + 2)) (nI_add i 2) ?_
  refine he_sld hx hb hX hbl hbA hS (i + 2) rfl (by omega) (by omega) (xs (i + 2)) rfl dL_law_854 ?_
  refine he_ci (wc := ([(x0, .inr (9, fx)), (m0, .inr (10, fm)), (aL g o0 1 fo)] ++ (Rc ++ Rm))) (wr := []) (vx_runSW (As := [.ref x0, .int (xs (i + 1)), .int (xs (i + 2))]) (rest := []) ⟨hx, hb, hml, hown, hts⟩ (w_odds l hlt g x0 m0 o0 S S t fo _ (xs (i + 1)) (xs (i + 2)) ⟨_, _, _, _, rfl, hc, hm⟩ H.size) (vx_cwSW 3 hts gL_law_L_odds rfl rfl rfl (by decide +kernel) ⟨Nat.le_of_ble_eq_true rfl, Nat.le_of_ble_eq_true rfl⟩) (he_preS (wc := ([(x0, .inr (9, fx)), (m0, .inr (10, fm)), (aL g o0 1 fo)] ++ (Rc ++ Rm))) hK hP hD hS hA hE (List.range (([(x0, .inr (9, fx)), (m0, .inr (10, fm)), (aL g o0 1 fo)] ++ (Rc ++ Rm)) : va_W).length) (he_all _) (he_allnd _)) rfl rfl hl.1 rfl (lv_room (Nat.le_of_ble_eq_true rfl)) dL_law_855 ⟨(by show 1000 + 4 * i + 1 ≤ 601024; omega), (by show 100000 + 700 * i + 6 ≤ 7293034; omega)⟩) hP hD hS hA (List.range (([(x0, .inr (9, fx)), (m0, .inr (10, fm)), (aL g o0 1 fo)] ++ (Rc ++ Rm)) : va_W).length) [] (he_all _) rfl rfl (fun _ h9 => absurd h9 List.not_mem_nil) (fun r_1 u_2 H locs hu_3 hP hD hS => ?_)
  obtain ⟨fo_855, hI9, hr855, ho855⟩ := hu_3
  obtain ⟨fx_q_4, fm_q_4, Rc_q_4, Rm_q_4, rfl, hc, hm⟩ := hI9
  have hP : va_P g.1 vwCl ([(x0, .inr (9, fx_q_4)), (m0, .inr (10, fm_q_4)), (aL g o0 1 fo_855)] ++ (Rc_q_4 ++ Rm_q_4)) H := hP
  have hD : va_D (lw_A s) ([(x0, .inr (9, fx_q_4)), (m0, .inr (10, fm_q_4)), (aL g o0 1 fo_855)] ++ (Rc_q_4 ++ Rm_q_4)) := hD
  refine lv_istore (lv' := [(5, .int r_1), (0, .ref b), (1, .ref x0), (2, .ref m0), (3, .ref o0), (4, .int (nI i))]) hx hb dL_law_858 hl (by decide) rfl (fun ls hl => ?_)
  refine lv_aload_n hx hb dL_law_860 rfl (lv_at hl 3 rfl) ?_
  refine lv_aload_n hx hb dL_law_861 rfl (lv_at hl 1 rfl) ?_
  refine lv_iload hx hb dL_law_862 (lv_at hl 5 rfl) ?_
  refine lv_iconst (v := 1) hx hb dL_law_864 (by decide) ?_
  refine lv_iadd hx hb dL_law_865 ?_
  refine he_top (nI (i + 1)) (nI_add i 1) ?_
  refine he_sld hx hb hX hbl hbA hS (i + 1) rfl (by omega) (by omega) (xs (i + 1)) rfl dL_law_866 ?_
  refine lv_aload_n hx hb dL_law_867 rfl (lv_at hl 1 rfl) ?_
  refine lv_iload hx hb dL_law_868 (lv_at hl 5 rfl) ?_
  refine lv_iconst (v := 2) hx hb dL_law_870 (by decide) ?_
  refine lv_iadd hx hb dL_law_871 ?_
  refine he_top (nI (i + 2)) (nI_add i 2) ?_
  refine he_sld hx hb hX hbl hbA hS (i + 2) rfl (by omega) (by omega) (xs (i + 2)) rfl dL_law_872 ?_
  refine he_cv (wc := ([(x0, .inr (9, fx_q_4)), (m0, .inr (10, fm_q_4)), (aL g o0 1 fo_855)] ++ (Rc_q_4 ++ Rm_q_4))) (wr := []) (va_runV (As := [.int (xs (i + 1)), .int (xs (i + 2))]) (rest := []) ⟨hx, hb, hml, hown, hts⟩ (il_mV (j_odds l g m0 S t _ (xs (i + 1)) (xs (i + 2)) hm) hc H.size) (cwV 2 hts gL_law_X11_odds rfl rfl rfl (by decide +kernel) ⟨Nat.le_of_ble_eq_true rfl, Nat.le_of_ble_eq_true rfl⟩) (he_preV (wc := ([(x0, .inr (9, fx_q_4)), (m0, .inr (10, fm_q_4)), (aL g o0 1 fo_855)] ++ (Rc_q_4 ++ Rm_q_4))) hK hP hD hS hA hE (List.range (([(x0, .inr (9, fx_q_4)), (m0, .inr (10, fm_q_4)), (aL g o0 1 fo_855)] ++ (Rc_q_4 ++ Rm_q_4)) : va_W).length) (he_all _) (he_allnd _) 1 rfl rfl) rfl rfl hl.1 rfl (lv_room (Nat.le_of_ble_eq_true rfl)) dL_law_873 ⟨(by show 1000 + 4 * i + 1 + 0 ≤ 601024; omega), (by show 100000 + 700 * i + 6 + 0 ≤ 7293034; omega)⟩) hP hD hS hA (List.range (([(x0, .inr (9, fx_q_4)), (m0, .inr (10, fm_q_4)), (aL g o0 1 fo_855)] ++ (Rc_q_4 ++ Rm_q_4)) : va_W).length) [] (he_all _) rfl rfl (fun _ h9 => absurd h9 List.not_mem_nil) (fun u_6 H locs hu_7 hP hD hS => ?_)
  obtain ⟨t_873, hI9, ht873, hm873⟩ := hu_7
  obtain ⟨fx_q_8, fm_q_8, Rc_q_8, Rm_q_8, rfl, hc, hm⟩ := hI9
  have hP : va_P g.1 vwCl ([(x0, .inr (9, fx_q_8)), (m0, .inr (10, fm_q_8)), (aL g o0 1 fo_855)] ++ (Rc_q_8 ++ Rm_q_8)) H := hP
  have hD : va_D (lw_A s) ([(x0, .inr (9, fx_q_8)), (m0, .inr (10, fm_q_8)), (aL g o0 1 fo_855)] ++ (Rc_q_8 ++ Rm_q_8)) := hD
  refine lv_goto (tgt := 1341) hx hb dL_law_876 (by decide) ?_
  refine W.widen (k := 1000 + 4 * (i + 6)) (n := 100000 + 700 * (i + 6)) (by show 1000 + 4 * i + 1 + 0 ≤ 1000 + 4 * (i + 6); omega) (by show 100000 + 700 * i + 6 + 0 ≤ 100000 + 700 * (i + 6); omega) ?_
  exact kk ((sp_odds S (xs (i + 1)) (xs (i + 2))).2.2) t_873 fo_855 _ H locs ls (ok_odds _ _ hOk) ⟨_, _, _, _, rfl, hc, hm⟩ hP hD hS (lv_sub hl [1, 2, 3, 4, 5] rfl)
set_option maxHeartbeats 8000000 in
set_option maxRecDepth 100000 in
theorem lc_kind {p : Program} {e : Env} {s : State} {m : MethodId} {below : List Frame} {meth : Method} {c : Code} {Q : State → Prop} (l : Launch) (hlt : l.stackTraces = false) (g : he_G) {b Ln : Nat} {xs : Nat → Int32} (C0 : lw_C p s m meth c b Ln xs g) (i : Nat) (hi : i + 6 ≤ Ln) (hL : Ln ≤ 3072) (x0 m0 o0 : Nat) (S : AbS) (t : Int32) (fo : Nat → Int64) (W9 : va_W) (hOk : okS S) (hI : IL g x0 m0 o0 S S t fo W9) {H : Heap} {locs : List Loc} {ls : Array Slot} (hP : va_P g.1 vwCl W9 H) (hD : va_D (lw_A s) W9) (hS : va_S (lw_A s) s.heap H locs) (hl : lv_has ls 8 [(0, .ref b), (1, .ref x0), (2, .ref m0), (3, .ref o0), (4, .int (nI i))]) (kk : ∀ (S2 : AbS) (t2 : Int32) (fo2 : Nat → Int64) (W2 : va_W) (H2 : Heap) (locs2 : List Loc) (ls2 : Array Slot), okS S2 → IL g x0 m0 o0 S2 S2 t2 fo2 W2 → va_P g.1 vwCl W2 H2 → va_D (lw_A s) W2 → va_S (lw_A s) s.heap H2 locs2 → lv_has ls2 8 [(0, .ref b), (1, .ref x0), (2, .ref m0), (3, .ref o0), (4, .int (nI i))] → W p l e room_1 s m #[Value.ref b] below meth c H2 locs2 (1000 + 4 * (i + 6)) (100000 + 700 * (i + 6)) Q (F0 m 1341 ls2 [])) : W p l e room_1 s m #[Value.ref b] below meth c H locs (1000 + 4 * i) (100000 + 700 * i) Q (F0 m 879 ls []) := by
  obtain ⟨hx, hb, hr, hml, hown, hts, hX, hbl, hlk, hK, hE, hA, hbA, hNc⟩ := C0
  obtain ⟨fx, fm, Rc, Rm, rfl, hc, hm⟩ := hI
  refine lv_aload_n hx hb dL_law_879 rfl (lv_at hl 1 rfl) ?_
  refine lv_aload_n hx hb dL_law_880 rfl (lv_at hl 0 rfl) ?_
  refine lv_iload hx hb dL_law_881 (lv_at hl 4 rfl) ?_
  refine lv_iconst (v := 1) hx hb dL_law_883 (by decide) ?_
  refine lv_iadd hx hb dL_law_884 ?_
  refine he_top (nI (i + 1)) (nI_add i 1) ?_
  refine he_sld hx hb hX hbl hbA hS (i + 1) rfl (by omega) (by omega) (xs (i + 1)) rfl dL_law_885 ?_
  refine lv_aload_n hx hb dL_law_886 rfl (lv_at hl 0 rfl) ?_
  refine lv_iload hx hb dL_law_887 (lv_at hl 4 rfl) ?_
  refine lv_iconst (v := 2) hx hb dL_law_889 (by decide) ?_
  refine lv_iadd hx hb dL_law_890 ?_
  refine he_top (nI (i + 2)) (nI_add i 2) ?_
  refine he_sld hx hb hX hbl hbA hS (i + 2) rfl (by omega) (by omega) (xs (i + 2)) rfl dL_law_891 ?_
  refine lv_aload_n hx hb dL_law_892 rfl (lv_at hl 0 rfl) ?_
  refine lv_iload hx hb dL_law_893 (lv_at hl 4 rfl) ?_
  refine lv_iconst (v := 3) hx hb dL_law_895 (by decide) ?_
  refine lv_iadd hx hb dL_law_896 ?_
  refine he_top (nI (i + 3)) (nI_add i 3) ?_
  refine he_sld hx hb hX hbl hbA hS (i + 3) rfl (by omega) (by omega) (xs (i + 3)) rfl dL_law_897 ?_
  refine he_ci (wc := ([(x0, .inr (9, fx)), (m0, .inr (10, fm)), (aL g o0 1 fo)] ++ (Rc ++ Rm))) (wr := []) (vx_runSW (As := [.ref x0, .int (xs (i + 1)), .int (xs (i + 2)), .int (xs (i + 3))]) (rest := []) ⟨hx, hb, hml, hown, hts⟩ (w_kind l hlt g x0 m0 o0 S S t fo _ (xs (i + 1)) (xs (i + 2)) (xs (i + 3)) ⟨_, _, _, _, rfl, hc, hm⟩ H.size) (vx_cwSW 4 hts gL_law_L_kind rfl rfl rfl (by decide +kernel) ⟨Nat.le_of_ble_eq_true rfl, Nat.le_of_ble_eq_true rfl⟩) (he_preS (wc := ([(x0, .inr (9, fx)), (m0, .inr (10, fm)), (aL g o0 1 fo)] ++ (Rc ++ Rm))) hK hP hD hS hA hE (List.range (([(x0, .inr (9, fx)), (m0, .inr (10, fm)), (aL g o0 1 fo)] ++ (Rc ++ Rm)) : va_W).length) (he_all _) (he_allnd _)) rfl rfl hl.1 rfl (lv_room (Nat.le_of_ble_eq_true rfl)) dL_law_898 ⟨(by show 1000 + 4 * i + 1 ≤ 601024; omega), (by show 100000 + 700 * i + 6 ≤ 7293034; omega)⟩) hP hD hS hA (List.range (([(x0, .inr (9, fx)), (m0, .inr (10, fm)), (aL g o0 1 fo)] ++ (Rc ++ Rm)) : va_W).length) [] (he_all _) rfl rfl (fun _ h9 => absurd h9 List.not_mem_nil) (fun r_1 u_2 H locs hu_3 hP hD hS => ?_)
  obtain ⟨fo_898, hI9, hr898, ho898⟩ := hu_3
  obtain ⟨fx_q_4, fm_q_4, Rc_q_4, Rm_q_4, rfl, hc, hm⟩ := hI9
  have hP : va_P g.1 vwCl ([(x0, .inr (9, fx_q_4)), (m0, .inr (10, fm_q_4)), (aL g o0 1 fo_898)] ++ (Rc_q_4 ++ Rm_q_4)) H := hP
  have hD : va_D (lw_A s) ([(x0, .inr (9, fx_q_4)), (m0, .inr (10, fm_q_4)), (aL g o0 1 fo_898)] ++ (Rc_q_4 ++ Rm_q_4)) := hD
  refine lv_istore (lv' := [(5, .int r_1), (0, .ref b), (1, .ref x0), (2, .ref m0), (3, .ref o0), (4, .int (nI i))]) hx hb dL_law_901 hl (by decide) rfl (fun ls hl => ?_)
  refine lv_aload_n hx hb dL_law_903 rfl (lv_at hl 3 rfl) ?_
  refine lv_aload_n hx hb dL_law_904 rfl (lv_at hl 1 rfl) ?_
  refine lv_iload hx hb dL_law_905 (lv_at hl 5 rfl) ?_
  refine lv_iconst (v := 1) hx hb dL_law_907 (by decide) ?_
  refine lv_iadd hx hb dL_law_908 ?_
  refine he_top (nI (i + 1)) (nI_add i 1) ?_
  refine he_sld hx hb hX hbl hbA hS (i + 1) rfl (by omega) (by omega) (xs (i + 1)) rfl dL_law_909 ?_
  refine lv_aload_n hx hb dL_law_910 rfl (lv_at hl 1 rfl) ?_
  refine lv_iload hx hb dL_law_911 (lv_at hl 5 rfl) ?_
  refine lv_iconst (v := 2) hx hb dL_law_913 (by decide) ?_
  refine lv_iadd hx hb dL_law_914 ?_
  refine he_top (nI (i + 2)) (nI_add i 2) ?_
  refine he_sld hx hb hX hbl hbA hS (i + 2) rfl (by omega) (by omega) (xs (i + 2)) rfl dL_law_915 ?_
  refine lv_aload_n hx hb dL_law_916 rfl (lv_at hl 1 rfl) ?_
  refine lv_iload hx hb dL_law_917 (lv_at hl 5 rfl) ?_
  refine lv_iconst (v := 3) hx hb dL_law_919 (by decide) ?_
  refine lv_iadd hx hb dL_law_920 ?_
  refine he_top (nI (i + 3)) (nI_add i 3) ?_
  refine he_sld hx hb hX hbl hbA hS (i + 3) rfl (by omega) (by omega) (xs (i + 3)) rfl dL_law_921 ?_
  refine he_cv (wc := ([(x0, .inr (9, fx_q_4)), (m0, .inr (10, fm_q_4)), (aL g o0 1 fo_898)] ++ (Rc_q_4 ++ Rm_q_4))) (wr := []) (va_runV (As := [.int (xs (i + 1)), .int (xs (i + 2)), .int (xs (i + 3))]) (rest := []) ⟨hx, hb, hml, hown, hts⟩ (il_mV (j_kind l g m0 S t _ (xs (i + 1)) (xs (i + 2)) (xs (i + 3)) hm) hc H.size) (cwV 3 hts gL_law_X11_kind rfl rfl rfl (by decide +kernel) ⟨Nat.le_of_ble_eq_true rfl, Nat.le_of_ble_eq_true rfl⟩) (he_preV (wc := ([(x0, .inr (9, fx_q_4)), (m0, .inr (10, fm_q_4)), (aL g o0 1 fo_898)] ++ (Rc_q_4 ++ Rm_q_4))) hK hP hD hS hA hE (List.range (([(x0, .inr (9, fx_q_4)), (m0, .inr (10, fm_q_4)), (aL g o0 1 fo_898)] ++ (Rc_q_4 ++ Rm_q_4)) : va_W).length) (he_all _) (he_allnd _) 1 rfl rfl) rfl rfl hl.1 rfl (lv_room (Nat.le_of_ble_eq_true rfl)) dL_law_922 ⟨(by show 1000 + 4 * i + 1 + 0 ≤ 601024; omega), (by show 100000 + 700 * i + 6 + 0 ≤ 7293034; omega)⟩) hP hD hS hA (List.range (([(x0, .inr (9, fx_q_4)), (m0, .inr (10, fm_q_4)), (aL g o0 1 fo_898)] ++ (Rc_q_4 ++ Rm_q_4)) : va_W).length) [] (he_all _) rfl rfl (fun _ h9 => absurd h9 List.not_mem_nil) (fun u_6 H locs hu_7 hP hD hS => ?_)
  obtain ⟨t_922, hI9, ht922, hm922⟩ := hu_7
  obtain ⟨fx_q_8, fm_q_8, Rc_q_8, Rm_q_8, rfl, hc, hm⟩ := hI9
  have hP : va_P g.1 vwCl ([(x0, .inr (9, fx_q_8)), (m0, .inr (10, fm_q_8)), (aL g o0 1 fo_898)] ++ (Rc_q_8 ++ Rm_q_8)) H := hP
  have hD : va_D (lw_A s) ([(x0, .inr (9, fx_q_8)), (m0, .inr (10, fm_q_8)), (aL g o0 1 fo_898)] ++ (Rc_q_8 ++ Rm_q_8)) := hD
  refine lv_goto (tgt := 1341) hx hb dL_law_925 (by decide) ?_
  refine W.widen (k := 1000 + 4 * (i + 6)) (n := 100000 + 700 * (i + 6)) (by show 1000 + 4 * i + 1 + 0 ≤ 1000 + 4 * (i + 6); omega) (by show 100000 + 700 * i + 6 + 0 ≤ 100000 + 700 * (i + 6); omega) ?_
  exact kk ((sp_kind S (xs (i + 1)) (xs (i + 2)) (xs (i + 3))).2.2) t_922 fo_898 _ H locs ls (ok_kind _ _ _ hOk) ⟨_, _, _, _, rfl, hc, hm⟩ hP hD hS (lv_sub hl [1, 2, 3, 4, 5] rfl)
end
section
set_option maxHeartbeats 8000000 in
set_option maxRecDepth 100000 in
theorem lc_seen {p : Program} {e : Env} {s : State} {m : MethodId} {below : List Frame} {meth : Method} {c : Code} {Q : State → Prop} (l : Launch) (hlt : l.stackTraces = false) (g : he_G) {b Ln : Nat} {xs : Nat → Int32} (C0 : lw_C p s m meth c b Ln xs g) (i : Nat) (hi : i + 6 ≤ Ln) (hL : Ln ≤ 3072) (x0 m0 o0 : Nat) (S : AbS) (t : Int32) (fo : Nat → Int64) (W9 : va_W) (hOk : okS S) (hI : IL g x0 m0 o0 S S t fo W9) {H : Heap} {locs : List Loc} {ls : Array Slot} (hP : va_P g.1 vwCl W9 H) (hD : va_D (lw_A s) W9) (hS : va_S (lw_A s) s.heap H locs) (hl : lv_has ls 8 [(0, .ref b), (1, .ref x0), (2, .ref m0), (3, .ref o0), (4, .int (nI i))]) (kk : ∀ (S2 : AbS) (t2 : Int32) (fo2 : Nat → Int64) (W2 : va_W) (H2 : Heap) (locs2 : List Loc) (ls2 : Array Slot), okS S2 → IL g x0 m0 o0 S2 S2 t2 fo2 W2 → va_P g.1 vwCl W2 H2 → va_D (lw_A s) W2 → va_S (lw_A s) s.heap H2 locs2 → lv_has ls2 8 [(0, .ref b), (1, .ref x0), (2, .ref m0), (3, .ref o0), (4, .int (nI i))] → W p l e room_1 s m #[Value.ref b] below meth c H2 locs2 (1000 + 4 * (i + 6)) (100000 + 700 * (i + 6)) Q (F0 m 1341 ls2 [])) : W p l e room_1 s m #[Value.ref b] below meth c H locs (1000 + 4 * i) (100000 + 700 * i) Q (F0 m 928 ls []) := by
  obtain ⟨hx, hb, hr, hml, hown, hts, hX, hbl, hlk, hK, hE, hA, hbA, hNc⟩ := C0
  obtain ⟨fx, fm, Rc, Rm, rfl, hc, hm⟩ := hI
  refine lv_aload_n hx hb dL_law_928 rfl (lv_at hl 1 rfl) ?_
  refine lv_aload_n hx hb dL_law_929 rfl (lv_at hl 0 rfl) ?_
  refine lv_iload hx hb dL_law_930 (lv_at hl 4 rfl) ?_
  refine lv_iconst (v := 1) hx hb dL_law_932 (by decide) ?_
  refine lv_iadd hx hb dL_law_933 ?_
  refine he_top (nI (i + 1)) (nI_add i 1) ?_
  refine he_sld hx hb hX hbl hbA hS (i + 1) rfl (by omega) (by omega) (xs (i + 1)) rfl dL_law_934 ?_
  refine lv_aload_n hx hb dL_law_935 rfl (lv_at hl 3 rfl) ?_
  refine he_ci (wc := ([(x0, .inr (9, fx)), (m0, .inr (10, fm)), (aL g o0 1 fo)] ++ (Rc ++ Rm))) (wr := []) (vx_runSW (As := [.ref x0, .int (xs (i + 1)), .ref o0]) (rest := []) ⟨hx, hb, hml, hown, hts⟩ (w_seen l hlt g x0 m0 o0 S S t fo _ (xs (i + 1)) ⟨_, _, _, _, rfl, hc, hm⟩ H.size) (vx_cwSW 3 hts gL_law_L_seen rfl rfl rfl (by decide +kernel) ⟨Nat.le_of_ble_eq_true rfl, Nat.le_of_ble_eq_true rfl⟩) (he_preS (wc := ([(x0, .inr (9, fx)), (m0, .inr (10, fm)), (aL g o0 1 fo)] ++ (Rc ++ Rm))) hK hP hD hS hA hE (List.range (([(x0, .inr (9, fx)), (m0, .inr (10, fm)), (aL g o0 1 fo)] ++ (Rc ++ Rm)) : va_W).length) (he_all _) (he_allnd _)) rfl rfl hl.1 rfl (lv_room (Nat.le_of_ble_eq_true rfl)) dL_law_936 ⟨(by show 1000 + 4 * i + 1 ≤ 601024; omega), (by show 100000 + 700 * i + 6 ≤ 7293034; omega)⟩) hP hD hS hA (List.range (([(x0, .inr (9, fx)), (m0, .inr (10, fm)), (aL g o0 1 fo)] ++ (Rc ++ Rm)) : va_W).length) [] (he_all _) rfl rfl (fun _ h9 => absurd h9 List.not_mem_nil) (fun r_1 u_2 H locs hu_3 hP hD hS => ?_)
  obtain ⟨fo_936, hI9, hr936, ho936⟩ := hu_3
  obtain ⟨fx_q_4, fm_q_4, Rc_q_4, Rm_q_4, rfl, hc, hm⟩ := hI9
  have hP : va_P g.1 vwCl ([(x0, .inr (9, fx_q_4)), (m0, .inr (10, fm_q_4)), (aL g o0 1 fo_936)] ++ (Rc_q_4 ++ Rm_q_4)) H := hP
  have hD : va_D (lw_A s) ([(x0, .inr (9, fx_q_4)), (m0, .inr (10, fm_q_4)), (aL g o0 1 fo_936)] ++ (Rc_q_4 ++ Rm_q_4)) := hD
  refine lv_istore (lv' := [(5, .int r_1), (0, .ref b), (1, .ref x0), (2, .ref m0), (3, .ref o0), (4, .int (nI i))]) hx hb dL_law_939 hl (by decide) rfl (fun ls hl => ?_)
  refine lv_aload_n hx hb dL_law_941 rfl (lv_at hl 3 rfl) ?_
  refine lv_aload_n hx hb dL_law_942 rfl (lv_at hl 1 rfl) ?_
  refine lv_iload hx hb dL_law_943 (lv_at hl 5 rfl) ?_
  refine lv_iconst (v := 1) hx hb dL_law_945 (by decide) ?_
  refine lv_iadd hx hb dL_law_946 ?_
  refine he_top (nI (i + 1)) (nI_add i 1) ?_
  refine he_sld hx hb hX hbl hbA hS (i + 1) rfl (by omega) (by omega) (xs (i + 1)) rfl dL_law_947 ?_
  refine he_ci (wc := ([(x0, .inr (9, fx_q_4)), (m0, .inr (10, fm_q_4)), (aL g o0 1 fo_936)] ++ (Rc_q_4 ++ Rm_q_4))) (wr := []) (va_runV (As := [.int (xs (i + 1))]) (rest := []) ⟨hx, hb, hml, hown, hts⟩ (il_mI (j_seen l g m0 S t _ (xs (i + 1)) hm) hc H.size) (cwV 1 hts gL_law_X11_seen rfl rfl rfl (by decide +kernel) ⟨Nat.le_of_ble_eq_true rfl, Nat.le_of_ble_eq_true rfl⟩) (he_preV (wc := ([(x0, .inr (9, fx_q_4)), (m0, .inr (10, fm_q_4)), (aL g o0 1 fo_936)] ++ (Rc_q_4 ++ Rm_q_4))) hK hP hD hS hA hE (List.range (([(x0, .inr (9, fx_q_4)), (m0, .inr (10, fm_q_4)), (aL g o0 1 fo_936)] ++ (Rc_q_4 ++ Rm_q_4)) : va_W).length) (he_all _) (he_allnd _) 1 rfl rfl) rfl rfl hl.1 rfl (lv_room (Nat.le_of_ble_eq_true rfl)) dL_law_948 ⟨(by show 1000 + 4 * i + 1 + 0 ≤ 601024; omega), (by show 100000 + 700 * i + 6 + 0 ≤ 7293034; omega)⟩) hP hD hS hA (List.range (([(x0, .inr (9, fx_q_4)), (m0, .inr (10, fm_q_4)), (aL g o0 1 fo_936)] ++ (Rc_q_4 ++ Rm_q_4)) : va_W).length) [] (he_all _) rfl rfl (fun _ h9 => absurd h9 List.not_mem_nil) (fun r_5 u_6 H locs hu_7 hP hD hS => ?_)
  obtain ⟨t_948, hI9, ht948, hm948⟩ := hu_7
  obtain ⟨fx_q_8, fm_q_8, Rc_q_8, Rm_q_8, rfl, hc, hm⟩ := hI9
  have hP : va_P g.1 vwCl ([(x0, .inr (9, fx_q_8)), (m0, .inr (10, fm_q_8)), (aL g o0 1 fo_936)] ++ (Rc_q_8 ++ Rm_q_8)) H := hP
  have hD : va_D (lw_A s) ([(x0, .inr (9, fx_q_8)), (m0, .inr (10, fm_q_8)), (aL g o0 1 fo_936)] ++ (Rc_q_8 ++ Rm_q_8)) := hD
  refine lv_istore (lv' := [(6, .int r_5), (5, .int r_1), (0, .ref b), (1, .ref x0), (2, .ref m0), (3, .ref o0), (4, .int (nI i))]) hx hb dL_law_951 hl (by decide) rfl (fun ls hl => ?_)
  refine lv_goto (tgt := 1341) hx hb dL_law_953 (by decide) ?_
  refine W.widen (k := 1000 + 4 * (i + 6)) (n := 100000 + 700 * (i + 6)) (by show 1000 + 4 * i + 1 + 0 ≤ 1000 + 4 * (i + 6); omega) (by show 100000 + 700 * i + 6 + 0 ≤ 100000 + 700 * (i + 6); omega) ?_
  exact kk ((sp_seen S (xs (i + 1))).2.2) t_948 fo_936 _ H locs ls (ok_seen _ hOk) ⟨_, _, _, _, rfl, hc, hm⟩ hP hD hS (lv_sub hl [2, 3, 4, 5, 6] rfl)
set_option maxHeartbeats 8000000 in
set_option maxRecDepth 100000 in
theorem lc_spy {p : Program} {e : Env} {s : State} {m : MethodId} {below : List Frame} {meth : Method} {c : Code} {Q : State → Prop} (l : Launch) (hlt : l.stackTraces = false) (g : he_G) {b Ln : Nat} {xs : Nat → Int32} (C0 : lw_C p s m meth c b Ln xs g) (i : Nat) (hi : i + 6 ≤ Ln) (hL : Ln ≤ 3072) (x0 m0 o0 : Nat) (S : AbS) (t : Int32) (fo : Nat → Int64) (W9 : va_W) (hOk : okS S) (hI : IL g x0 m0 o0 S S t fo W9) {H : Heap} {locs : List Loc} {ls : Array Slot} (hP : va_P g.1 vwCl W9 H) (hD : va_D (lw_A s) W9) (hS : va_S (lw_A s) s.heap H locs) (hl : lv_has ls 8 [(0, .ref b), (1, .ref x0), (2, .ref m0), (3, .ref o0), (4, .int (nI i))]) (kk : ∀ (S2 : AbS) (t2 : Int32) (fo2 : Nat → Int64) (W2 : va_W) (H2 : Heap) (locs2 : List Loc) (ls2 : Array Slot), okS S2 → IL g x0 m0 o0 S2 S2 t2 fo2 W2 → va_P g.1 vwCl W2 H2 → va_D (lw_A s) W2 → va_S (lw_A s) s.heap H2 locs2 → lv_has ls2 8 [(0, .ref b), (1, .ref x0), (2, .ref m0), (3, .ref o0), (4, .int (nI i))] → W p l e room_1 s m #[Value.ref b] below meth c H2 locs2 (1000 + 4 * (i + 6)) (100000 + 700 * (i + 6)) Q (F0 m 1341 ls2 [])) : W p l e room_1 s m #[Value.ref b] below meth c H locs (1000 + 4 * i) (100000 + 700 * i) Q (F0 m 956 ls []) := by
  obtain ⟨hx, hb, hr, hml, hown, hts, hX, hbl, hlk, hK, hE, hA, hbA, hNc⟩ := C0
  obtain ⟨fx, fm, Rc, Rm, rfl, hc, hm⟩ := hI
  refine lv_aload_n hx hb dL_law_956 rfl (lv_at hl 1 rfl) ?_
  refine lv_aload_n hx hb dL_law_957 rfl (lv_at hl 0 rfl) ?_
  refine lv_iload hx hb dL_law_958 (lv_at hl 4 rfl) ?_
  refine lv_iconst (v := 1) hx hb dL_law_960 (by decide) ?_
  refine lv_iadd hx hb dL_law_961 ?_
  refine he_top (nI (i + 1)) (nI_add i 1) ?_
  refine he_sld hx hb hX hbl hbA hS (i + 1) rfl (by omega) (by omega) (xs (i + 1)) rfl dL_law_962 ?_
  refine lv_if_eq (tgt := 970) hx hb dL_law_963 (by decide) (fun c_1 => ?_) (fun c_1 => ?_)
  · refine lv_iconst (v := 0) hx hb dL_law_970 (by decide) ?_
    refine lv_aload_n hx hb dL_law_971 rfl (lv_at hl 0 rfl) ?_
    refine lv_iload hx hb dL_law_972 (lv_at hl 4 rfl) ?_
    refine lv_iconst (v := 2) hx hb dL_law_974 (by decide) ?_
    refine lv_iadd hx hb dL_law_975 ?_
    refine he_top (nI (i + 2)) (nI_add i 2) ?_
    refine he_sld hx hb hX hbl hbA hS (i + 2) rfl (by omega) (by omega) (xs (i + 2)) rfl dL_law_976 ?_
    refine lv_aload_n hx hb dL_law_977 rfl (lv_at hl 3 rfl) ?_
    refine he_ci (wc := ([(x0, .inr (9, fx)), (m0, .inr (10, fm)), (aL g o0 1 fo)] ++ (Rc ++ Rm))) (wr := []) (vx_runSW (As := [.ref x0, .int 0, .int (xs (i + 2)), .ref o0]) (rest := []) ⟨hx, hb, hml, hown, hts⟩ (w_spy l hlt g x0 m0 o0 S S t fo _ 0 (xs (i + 2)) (by first | exact Or.inl rfl | exact Or.inr rfl | assumption) ⟨_, _, _, _, rfl, hc, hm⟩ H.size) (vx_cwSW 4 hts gL_law_L_spy rfl rfl rfl (by decide +kernel) ⟨Nat.le_of_ble_eq_true rfl, Nat.le_of_ble_eq_true rfl⟩) (he_preS (wc := ([(x0, .inr (9, fx)), (m0, .inr (10, fm)), (aL g o0 1 fo)] ++ (Rc ++ Rm))) hK hP hD hS hA hE (List.range (([(x0, .inr (9, fx)), (m0, .inr (10, fm)), (aL g o0 1 fo)] ++ (Rc ++ Rm)) : va_W).length) (he_all _) (he_allnd _)) rfl rfl hl.1 rfl (lv_room (Nat.le_of_ble_eq_true rfl)) dL_law_978 ⟨(by show 1000 + 4 * i + 1 ≤ 601024; omega), (by show 100000 + 700 * i + 6 ≤ 7293034; omega)⟩) hP hD hS hA (List.range (([(x0, .inr (9, fx)), (m0, .inr (10, fm)), (aL g o0 1 fo)] ++ (Rc ++ Rm)) : va_W).length) [] (he_all _) rfl rfl (fun _ h9 => absurd h9 List.not_mem_nil) (fun r_2 u_3 H locs hu_4 hP hD hS => ?_)
    obtain ⟨fo_978, hI9, hr978, ho978⟩ := hu_4
    obtain ⟨fx_q_5, fm_q_5, Rc_q_5, Rm_q_5, rfl, hc, hm⟩ := hI9
    have hP : va_P g.1 vwCl ([(x0, .inr (9, fx_q_5)), (m0, .inr (10, fm_q_5)), (aL g o0 1 fo_978)] ++ (Rc_q_5 ++ Rm_q_5)) H := hP
    have hD : va_D (lw_A s) ([(x0, .inr (9, fx_q_5)), (m0, .inr (10, fm_q_5)), (aL g o0 1 fo_978)] ++ (Rc_q_5 ++ Rm_q_5)) := hD
    refine lv_istore (lv' := [(5, .int r_2), (0, .ref b), (1, .ref x0), (2, .ref m0), (3, .ref o0), (4, .int (nI i))]) hx hb dL_law_981 hl (by decide) rfl (fun ls hl => ?_)
    refine lv_aload_n hx hb dL_law_983 rfl (lv_at hl 3 rfl) ?_
    refine lv_aload_n hx hb dL_law_984 rfl (lv_at hl 1 rfl) ?_
    refine lv_iload hx hb dL_law_985 (lv_at hl 5 rfl) ?_
    refine lv_iconst (v := 1) hx hb dL_law_987 (by decide) ?_
    refine lv_iadd hx hb dL_law_988 ?_
    refine he_top (nI (i + 1)) (nI_add i 1) ?_
    refine he_sld hx hb hX hbl hbA hS (i + 1) rfl (by omega) (by omega) (xs (i + 1)) rfl dL_law_989 ?_
    refine lv_if_eq (tgt := 997) hx hb dL_law_990 (by decide) (fun c_6 => ?_) (fun c_6 => ?_)
    · refine lv_iconst (v := 0) hx hb dL_law_997 (by decide) ?_
      refine lv_aload_n hx hb dL_law_998 rfl (lv_at hl 1 rfl) ?_
      refine lv_iload hx hb dL_law_999 (lv_at hl 5 rfl) ?_
      refine lv_iconst (v := 2) hx hb dL_law_1001 (by decide) ?_
      refine lv_iadd hx hb dL_law_1002 ?_
      refine he_top (nI (i + 2)) (nI_add i 2) ?_
      refine he_sld hx hb hX hbl hbA hS (i + 2) rfl (by omega) (by omega) (xs (i + 2)) rfl dL_law_1003 ?_
      refine he_ci (wc := ([(x0, .inr (9, fx_q_5)), (m0, .inr (10, fm_q_5)), (aL g o0 1 fo_978)] ++ (Rc_q_5 ++ Rm_q_5))) (wr := []) (va_runV (As := [.int 0, .int (xs (i + 2))]) (rest := []) ⟨hx, hb, hml, hown, hts⟩ (il_mI (j_spy l g m0 S t _ 0 (xs (i + 2)) (by first | exact Or.inl rfl | exact Or.inr rfl | assumption) hm) hc H.size) (cwV 2 hts gL_law_X11_spy rfl rfl rfl (by decide +kernel) ⟨Nat.le_of_ble_eq_true rfl, Nat.le_of_ble_eq_true rfl⟩) (he_preV (wc := ([(x0, .inr (9, fx_q_5)), (m0, .inr (10, fm_q_5)), (aL g o0 1 fo_978)] ++ (Rc_q_5 ++ Rm_q_5))) hK hP hD hS hA hE (List.range (([(x0, .inr (9, fx_q_5)), (m0, .inr (10, fm_q_5)), (aL g o0 1 fo_978)] ++ (Rc_q_5 ++ Rm_q_5)) : va_W).length) (he_all _) (he_allnd _) 1 rfl rfl) rfl rfl hl.1 rfl (lv_room (Nat.le_of_ble_eq_true rfl)) dL_law_1004 ⟨(by show 1000 + 4 * i + 1 + 0 ≤ 601024; omega), (by show 100000 + 700 * i + 6 + 0 ≤ 7293034; omega)⟩) hP hD hS hA (List.range (([(x0, .inr (9, fx_q_5)), (m0, .inr (10, fm_q_5)), (aL g o0 1 fo_978)] ++ (Rc_q_5 ++ Rm_q_5)) : va_W).length) [] (he_all _) rfl rfl (fun _ h9 => absurd h9 List.not_mem_nil) (fun r_7 u_8 H locs hu_9 hP hD hS => ?_)
      obtain ⟨t_1004, hI9, ht1004, hm1004⟩ := hu_9
      obtain ⟨fx_q_10, fm_q_10, Rc_q_10, Rm_q_10, rfl, hc, hm⟩ := hI9
      have hP : va_P g.1 vwCl ([(x0, .inr (9, fx_q_10)), (m0, .inr (10, fm_q_10)), (aL g o0 1 fo_978)] ++ (Rc_q_10 ++ Rm_q_10)) H := hP
      have hD : va_D (lw_A s) ([(x0, .inr (9, fx_q_10)), (m0, .inr (10, fm_q_10)), (aL g o0 1 fo_978)] ++ (Rc_q_10 ++ Rm_q_10)) := hD
      refine lv_istore (lv' := [(6, .int r_7), (5, .int r_2), (0, .ref b), (1, .ref x0), (2, .ref m0), (3, .ref o0), (4, .int (nI i))]) hx hb dL_law_1007 hl (by decide) rfl (fun ls hl => ?_)
      refine lv_goto (tgt := 1341) hx hb dL_law_1009 (by decide) ?_
      refine W.widen (k := 1000 + 4 * (i + 6)) (n := 100000 + 700 * (i + 6)) (by show 1000 + 4 * i + 1 + 0 ≤ 1000 + 4 * (i + 6); omega) (by show 100000 + 700 * i + 6 + 0 ≤ 100000 + 700 * (i + 6); omega) ?_
      exact kk ((sp_spy S 0 (xs (i + 2))).2.2) t_1004 fo_978 _ H locs ls (ok_spy _ _ hOk) ⟨_, _, _, _, rfl, hc, hm⟩ hP hD hS (lv_sub hl [2, 3, 4, 5, 6] rfl)
    · exact absurd c_1 c_6
  · refine lv_iconst (v := 1) hx hb dL_law_966 (by decide) ?_
    refine lv_goto (tgt := 971) hx hb dL_law_967 (by decide) ?_
    refine lv_aload_n hx hb dL_law_971 rfl (lv_at hl 0 rfl) ?_
    refine lv_iload hx hb dL_law_972 (lv_at hl 4 rfl) ?_
    refine lv_iconst (v := 2) hx hb dL_law_974 (by decide) ?_
    refine lv_iadd hx hb dL_law_975 ?_
    refine he_top (nI (i + 2)) (nI_add i 2) ?_
    refine he_sld hx hb hX hbl hbA hS (i + 2) rfl (by omega) (by omega) (xs (i + 2)) rfl dL_law_976 ?_
    refine lv_aload_n hx hb dL_law_977 rfl (lv_at hl 3 rfl) ?_
    refine he_ci (wc := ([(x0, .inr (9, fx)), (m0, .inr (10, fm)), (aL g o0 1 fo)] ++ (Rc ++ Rm))) (wr := []) (vx_runSW (As := [.ref x0, .int 1, .int (xs (i + 2)), .ref o0]) (rest := []) ⟨hx, hb, hml, hown, hts⟩ (w_spy l hlt g x0 m0 o0 S S t fo _ 1 (xs (i + 2)) (by first | exact Or.inl rfl | exact Or.inr rfl | assumption) ⟨_, _, _, _, rfl, hc, hm⟩ H.size) (vx_cwSW 4 hts gL_law_L_spy rfl rfl rfl (by decide +kernel) ⟨Nat.le_of_ble_eq_true rfl, Nat.le_of_ble_eq_true rfl⟩) (he_preS (wc := ([(x0, .inr (9, fx)), (m0, .inr (10, fm)), (aL g o0 1 fo)] ++ (Rc ++ Rm))) hK hP hD hS hA hE (List.range (([(x0, .inr (9, fx)), (m0, .inr (10, fm)), (aL g o0 1 fo)] ++ (Rc ++ Rm)) : va_W).length) (he_all _) (he_allnd _)) rfl rfl hl.1 rfl (lv_room (Nat.le_of_ble_eq_true rfl)) dL_law_978 ⟨(by show 1000 + 4 * i + 1 ≤ 601024; omega), (by show 100000 + 700 * i + 6 ≤ 7293034; omega)⟩) hP hD hS hA (List.range (([(x0, .inr (9, fx)), (m0, .inr (10, fm)), (aL g o0 1 fo)] ++ (Rc ++ Rm)) : va_W).length) [] (he_all _) rfl rfl (fun _ h9 => absurd h9 List.not_mem_nil) (fun r_11 u_12 H locs hu_13 hP hD hS => ?_)
    obtain ⟨fo_978, hI9, hr978, ho978⟩ := hu_13
    obtain ⟨fx_q_14, fm_q_14, Rc_q_14, Rm_q_14, rfl, hc, hm⟩ := hI9
    have hP : va_P g.1 vwCl ([(x0, .inr (9, fx_q_14)), (m0, .inr (10, fm_q_14)), (aL g o0 1 fo_978)] ++ (Rc_q_14 ++ Rm_q_14)) H := hP
    have hD : va_D (lw_A s) ([(x0, .inr (9, fx_q_14)), (m0, .inr (10, fm_q_14)), (aL g o0 1 fo_978)] ++ (Rc_q_14 ++ Rm_q_14)) := hD
    refine lv_istore (lv' := [(5, .int r_11), (0, .ref b), (1, .ref x0), (2, .ref m0), (3, .ref o0), (4, .int (nI i))]) hx hb dL_law_981 hl (by decide) rfl (fun ls hl => ?_)
    refine lv_aload_n hx hb dL_law_983 rfl (lv_at hl 3 rfl) ?_
    refine lv_aload_n hx hb dL_law_984 rfl (lv_at hl 1 rfl) ?_
    refine lv_iload hx hb dL_law_985 (lv_at hl 5 rfl) ?_
    refine lv_iconst (v := 1) hx hb dL_law_987 (by decide) ?_
    refine lv_iadd hx hb dL_law_988 ?_
    refine he_top (nI (i + 1)) (nI_add i 1) ?_
    refine he_sld hx hb hX hbl hbA hS (i + 1) rfl (by omega) (by omega) (xs (i + 1)) rfl dL_law_989 ?_
    refine lv_if_eq (tgt := 997) hx hb dL_law_990 (by decide) (fun c_15 => ?_) (fun c_15 => ?_)
    · exact absurd c_15 c_1
    · refine lv_iconst (v := 1) hx hb dL_law_993 (by decide) ?_
      refine lv_goto (tgt := 998) hx hb dL_law_994 (by decide) ?_
      refine lv_aload_n hx hb dL_law_998 rfl (lv_at hl 1 rfl) ?_
      refine lv_iload hx hb dL_law_999 (lv_at hl 5 rfl) ?_
      refine lv_iconst (v := 2) hx hb dL_law_1001 (by decide) ?_
      refine lv_iadd hx hb dL_law_1002 ?_
      refine he_top (nI (i + 2)) (nI_add i 2) ?_
      refine he_sld hx hb hX hbl hbA hS (i + 2) rfl (by omega) (by omega) (xs (i + 2)) rfl dL_law_1003 ?_
      refine he_ci (wc := ([(x0, .inr (9, fx_q_14)), (m0, .inr (10, fm_q_14)), (aL g o0 1 fo_978)] ++ (Rc_q_14 ++ Rm_q_14))) (wr := []) (va_runV (As := [.int 1, .int (xs (i + 2))]) (rest := []) ⟨hx, hb, hml, hown, hts⟩ (il_mI (j_spy l g m0 S t _ 1 (xs (i + 2)) (by first | exact Or.inl rfl | exact Or.inr rfl | assumption) hm) hc H.size) (cwV 2 hts gL_law_X11_spy rfl rfl rfl (by decide +kernel) ⟨Nat.le_of_ble_eq_true rfl, Nat.le_of_ble_eq_true rfl⟩) (he_preV (wc := ([(x0, .inr (9, fx_q_14)), (m0, .inr (10, fm_q_14)), (aL g o0 1 fo_978)] ++ (Rc_q_14 ++ Rm_q_14))) hK hP hD hS hA hE (List.range (([(x0, .inr (9, fx_q_14)), (m0, .inr (10, fm_q_14)), (aL g o0 1 fo_978)] ++ (Rc_q_14 ++ Rm_q_14)) : va_W).length) (he_all _) (he_allnd _) 1 rfl rfl) rfl rfl hl.1 rfl (lv_room (Nat.le_of_ble_eq_true rfl)) dL_law_1004 ⟨(by show 1000 + 4 * i + 1 + 0 ≤ 601024; omega), (by show 100000 + 700 * i + 6 + 0 ≤ 7293034; omega)⟩) hP hD hS hA (List.range (([(x0, .inr (9, fx_q_14)), (m0, .inr (10, fm_q_14)), (aL g o0 1 fo_978)] ++ (Rc_q_14 ++ Rm_q_14)) : va_W).length) [] (he_all _) rfl rfl (fun _ h9 => absurd h9 List.not_mem_nil) (fun r_16 u_17 H locs hu_18 hP hD hS => ?_)
      obtain ⟨t_1004, hI9, ht1004, hm1004⟩ := hu_18
      obtain ⟨fx_q_19, fm_q_19, Rc_q_19, Rm_q_19, rfl, hc, hm⟩ := hI9
      have hP : va_P g.1 vwCl ([(x0, .inr (9, fx_q_19)), (m0, .inr (10, fm_q_19)), (aL g o0 1 fo_978)] ++ (Rc_q_19 ++ Rm_q_19)) H := hP
      have hD : va_D (lw_A s) ([(x0, .inr (9, fx_q_19)), (m0, .inr (10, fm_q_19)), (aL g o0 1 fo_978)] ++ (Rc_q_19 ++ Rm_q_19)) := hD
      refine lv_istore (lv' := [(6, .int r_16), (5, .int r_11), (0, .ref b), (1, .ref x0), (2, .ref m0), (3, .ref o0), (4, .int (nI i))]) hx hb dL_law_1007 hl (by decide) rfl (fun ls hl => ?_)
      refine lv_goto (tgt := 1341) hx hb dL_law_1009 (by decide) ?_
      refine W.widen (k := 1000 + 4 * (i + 6)) (n := 100000 + 700 * (i + 6)) (by show 1000 + 4 * i + 1 + 0 ≤ 1000 + 4 * (i + 6); omega) (by show 100000 + 700 * i + 6 + 0 ≤ 100000 + 700 * (i + 6); omega) ?_
      exact kk ((sp_spy S 1 (xs (i + 2))).2.2) t_1004 fo_978 _ H locs ls (ok_spy _ _ hOk) ⟨_, _, _, _, rfl, hc, hm⟩ hP hD hS (lv_sub hl [2, 3, 4, 5, 6] rfl)
set_option maxHeartbeats 8000000 in
set_option maxRecDepth 100000 in
theorem lc_believed {p : Program} {e : Env} {s : State} {m : MethodId} {below : List Frame} {meth : Method} {c : Code} {Q : State → Prop} (l : Launch) (hlt : l.stackTraces = false) (g : he_G) {b Ln : Nat} {xs : Nat → Int32} (C0 : lw_C p s m meth c b Ln xs g) (i : Nat) (hi : i + 6 ≤ Ln) (hL : Ln ≤ 3072) (x0 m0 o0 : Nat) (S : AbS) (t : Int32) (fo : Nat → Int64) (W9 : va_W) (hOk : okS S) (hI : IL g x0 m0 o0 S S t fo W9) {H : Heap} {locs : List Loc} {ls : Array Slot} (hP : va_P g.1 vwCl W9 H) (hD : va_D (lw_A s) W9) (hS : va_S (lw_A s) s.heap H locs) (hl : lv_has ls 8 [(0, .ref b), (1, .ref x0), (2, .ref m0), (3, .ref o0), (4, .int (nI i))]) (kk : ∀ (S2 : AbS) (t2 : Int32) (fo2 : Nat → Int64) (W2 : va_W) (H2 : Heap) (locs2 : List Loc) (ls2 : Array Slot), okS S2 → IL g x0 m0 o0 S2 S2 t2 fo2 W2 → va_P g.1 vwCl W2 H2 → va_D (lw_A s) W2 → va_S (lw_A s) s.heap H2 locs2 → lv_has ls2 8 [(0, .ref b), (1, .ref x0), (2, .ref m0), (3, .ref o0), (4, .int (nI i))] → W p l e room_1 s m #[Value.ref b] below meth c H2 locs2 (1000 + 4 * (i + 6)) (100000 + 700 * (i + 6)) Q (F0 m 1341 ls2 [])) : W p l e room_1 s m #[Value.ref b] below meth c H locs (1000 + 4 * i) (100000 + 700 * i) Q (F0 m 1012 ls []) := by
  obtain ⟨hx, hb, hr, hml, hown, hts, hX, hbl, hlk, hK, hE, hA, hbA, hNc⟩ := C0
  obtain ⟨fx, fm, Rc, Rm, rfl, hc, hm⟩ := hI
  refine lv_aload_n hx hb dL_law_1012 rfl (lv_at hl 1 rfl) ?_
  refine lv_aload_n hx hb dL_law_1013 rfl (lv_at hl 0 rfl) ?_
  refine lv_iload hx hb dL_law_1014 (lv_at hl 4 rfl) ?_
  refine lv_iconst (v := 1) hx hb dL_law_1016 (by decide) ?_
  refine lv_iadd hx hb dL_law_1017 ?_
  refine he_top (nI (i + 1)) (nI_add i 1) ?_
  refine he_sld hx hb hX hbl hbA hS (i + 1) rfl (by omega) (by omega) (xs (i + 1)) rfl dL_law_1018 ?_
  refine lv_aload_n hx hb dL_law_1019 rfl (lv_at hl 3 rfl) ?_
  refine he_ci (wc := ([(x0, .inr (9, fx)), (m0, .inr (10, fm)), (aL g o0 1 fo)] ++ (Rc ++ Rm))) (wr := []) (vx_runSW (As := [.ref x0, .int (xs (i + 1)), .ref o0]) (rest := []) ⟨hx, hb, hml, hown, hts⟩ (w_believed l hlt g x0 m0 o0 S S t fo _ (xs (i + 1)) ⟨_, _, _, _, rfl, hc, hm⟩ H.size) (vx_cwSW 3 hts gL_law_L_believed rfl rfl rfl (by decide +kernel) ⟨Nat.le_of_ble_eq_true rfl, Nat.le_of_ble_eq_true rfl⟩) (he_preS (wc := ([(x0, .inr (9, fx)), (m0, .inr (10, fm)), (aL g o0 1 fo)] ++ (Rc ++ Rm))) hK hP hD hS hA hE (List.range (([(x0, .inr (9, fx)), (m0, .inr (10, fm)), (aL g o0 1 fo)] ++ (Rc ++ Rm)) : va_W).length) (he_all _) (he_allnd _)) rfl rfl hl.1 rfl (lv_room (Nat.le_of_ble_eq_true rfl)) dL_law_1020 ⟨(by show 1000 + 4 * i + 1 ≤ 601024; omega), (by show 100000 + 700 * i + 6 ≤ 7293034; omega)⟩) hP hD hS hA (List.range (([(x0, .inr (9, fx)), (m0, .inr (10, fm)), (aL g o0 1 fo)] ++ (Rc ++ Rm)) : va_W).length) [] (he_all _) rfl rfl (fun _ h9 => absurd h9 List.not_mem_nil) (fun r_1 u_2 H locs hu_3 hP hD hS => ?_)
  obtain ⟨fo_1020, hI9, hr1020, ho1020⟩ := hu_3
  obtain ⟨fx_q_4, fm_q_4, Rc_q_4, Rm_q_4, rfl, hc, hm⟩ := hI9
  have hP : va_P g.1 vwCl ([(x0, .inr (9, fx_q_4)), (m0, .inr (10, fm_q_4)), (aL g o0 1 fo_1020)] ++ (Rc_q_4 ++ Rm_q_4)) H := hP
  have hD : va_D (lw_A s) ([(x0, .inr (9, fx_q_4)), (m0, .inr (10, fm_q_4)), (aL g o0 1 fo_1020)] ++ (Rc_q_4 ++ Rm_q_4)) := hD
  refine lv_istore (lv' := [(5, .int r_1), (0, .ref b), (1, .ref x0), (2, .ref m0), (3, .ref o0), (4, .int (nI i))]) hx hb dL_law_1023 hl (by decide) rfl (fun ls hl => ?_)
  refine lv_aload_n hx hb dL_law_1025 rfl (lv_at hl 3 rfl) ?_
  refine lv_aload_n hx hb dL_law_1026 rfl (lv_at hl 1 rfl) ?_
  refine lv_iload hx hb dL_law_1027 (lv_at hl 5 rfl) ?_
  refine lv_iconst (v := 1) hx hb dL_law_1029 (by decide) ?_
  refine lv_iadd hx hb dL_law_1030 ?_
  refine he_top (nI (i + 1)) (nI_add i 1) ?_
  refine he_sld hx hb hX hbl hbA hS (i + 1) rfl (by omega) (by omega) (xs (i + 1)) rfl dL_law_1031 ?_
  refine he_cj (wc := ([(x0, .inr (9, fx_q_4)), (m0, .inr (10, fm_q_4)), (aL g o0 1 fo_1020)] ++ (Rc_q_4 ++ Rm_q_4))) (wr := []) (va_runV (As := [.int (xs (i + 1))]) (rest := []) ⟨hx, hb, hml, hown, hts⟩ (il_mJ (j_believed l g m0 S t _ (xs (i + 1)) hm) hc H.size) (cwV 1 hts gL_law_X11_believed rfl rfl rfl (by decide +kernel) ⟨Nat.le_of_ble_eq_true rfl, Nat.le_of_ble_eq_true rfl⟩) (he_preV (wc := ([(x0, .inr (9, fx_q_4)), (m0, .inr (10, fm_q_4)), (aL g o0 1 fo_1020)] ++ (Rc_q_4 ++ Rm_q_4))) hK hP hD hS hA hE (List.range (([(x0, .inr (9, fx_q_4)), (m0, .inr (10, fm_q_4)), (aL g o0 1 fo_1020)] ++ (Rc_q_4 ++ Rm_q_4)) : va_W).length) (he_all _) (he_allnd _) 1 rfl rfl) rfl rfl hl.1 rfl (lv_room (Nat.le_of_ble_eq_true rfl)) dL_law_1032 ⟨(by show 1000 + 4 * i + 1 + 0 ≤ 601024; omega), (by show 100000 + 700 * i + 6 + 0 ≤ 7293034; omega)⟩) hP hD hS hA (List.range (([(x0, .inr (9, fx_q_4)), (m0, .inr (10, fm_q_4)), (aL g o0 1 fo_1020)] ++ (Rc_q_4 ++ Rm_q_4)) : va_W).length) [] (he_all _) rfl rfl (fun _ h9 => absurd h9 List.not_mem_nil) (fun r_5 u_6 H locs hu_7 hP hD hS => ?_)
  obtain ⟨t_1032, hI9, ht1032, hm1032⟩ := hu_7
  obtain ⟨fx_q_8, fm_q_8, Rc_q_8, Rm_q_8, rfl, hc, hm⟩ := hI9
  have hP : va_P g.1 vwCl ([(x0, .inr (9, fx_q_8)), (m0, .inr (10, fm_q_8)), (aL g o0 1 fo_1020)] ++ (Rc_q_8 ++ Rm_q_8)) H := hP
  have hD : va_D (lw_A s) ([(x0, .inr (9, fx_q_8)), (m0, .inr (10, fm_q_8)), (aL g o0 1 fo_1020)] ++ (Rc_q_8 ++ Rm_q_8)) := hD
  refine lv_lstore (lv' := [(6, .long r_5), (5, .int r_1), (0, .ref b), (1, .ref x0), (2, .ref m0), (3, .ref o0), (4, .int (nI i))]) hx hb dL_law_1035 hl (by decide) rfl (fun ls hl => ?_)
  refine lv_goto (tgt := 1341) hx hb dL_law_1037 (by decide) ?_
  refine W.widen (k := 1000 + 4 * (i + 6)) (n := 100000 + 700 * (i + 6)) (by show 1000 + 4 * i + 1 + 0 ≤ 1000 + 4 * (i + 6); omega) (by show 100000 + 700 * i + 6 + 0 ≤ 100000 + 700 * (i + 6); omega) ?_
  exact kk ((sp_believed S (xs (i + 1))).2.2) t_1032 fo_1020 _ H locs ls (ok_believed _ hOk) ⟨_, _, _, _, rfl, hc, hm⟩ hP hD hS (lv_sub hl [2, 3, 4, 5, 6] rfl)
set_option maxHeartbeats 8000000 in
set_option maxRecDepth 100000 in
theorem lc_earnest {p : Program} {e : Env} {s : State} {m : MethodId} {below : List Frame} {meth : Method} {c : Code} {Q : State → Prop} (l : Launch) (hlt : l.stackTraces = false) (g : he_G) {b Ln : Nat} {xs : Nat → Int32} (C0 : lw_C p s m meth c b Ln xs g) (i : Nat) (hi : i + 6 ≤ Ln) (hL : Ln ≤ 3072) (x0 m0 o0 : Nat) (S : AbS) (t : Int32) (fo : Nat → Int64) (W9 : va_W) (hOk : okS S) (hI : IL g x0 m0 o0 S S t fo W9) {H : Heap} {locs : List Loc} {ls : Array Slot} (hP : va_P g.1 vwCl W9 H) (hD : va_D (lw_A s) W9) (hS : va_S (lw_A s) s.heap H locs) (hl : lv_has ls 8 [(0, .ref b), (1, .ref x0), (2, .ref m0), (3, .ref o0), (4, .int (nI i))]) (kk : ∀ (S2 : AbS) (t2 : Int32) (fo2 : Nat → Int64) (W2 : va_W) (H2 : Heap) (locs2 : List Loc) (ls2 : Array Slot), okS S2 → IL g x0 m0 o0 S2 S2 t2 fo2 W2 → va_P g.1 vwCl W2 H2 → va_D (lw_A s) W2 → va_S (lw_A s) s.heap H2 locs2 → lv_has ls2 8 [(0, .ref b), (1, .ref x0), (2, .ref m0), (3, .ref o0), (4, .int (nI i))] → W p l e room_1 s m #[Value.ref b] below meth c H2 locs2 (1000 + 4 * (i + 6)) (100000 + 700 * (i + 6)) Q (F0 m 1341 ls2 [])) : W p l e room_1 s m #[Value.ref b] below meth c H locs (1000 + 4 * i) (100000 + 700 * i) Q (F0 m 1040 ls []) := by
  obtain ⟨hx, hb, hr, hml, hown, hts, hX, hbl, hlk, hK, hE, hA, hbA, hNc⟩ := C0
  obtain ⟨fx, fm, Rc, Rm, rfl, hc, hm⟩ := hI
  refine lv_aload_n hx hb dL_law_1040 rfl (lv_at hl 1 rfl) ?_
  refine lv_aload_n hx hb dL_law_1041 rfl (lv_at hl 0 rfl) ?_
  refine lv_iload hx hb dL_law_1042 (lv_at hl 4 rfl) ?_
  refine lv_iconst (v := 1) hx hb dL_law_1044 (by decide) ?_
  refine lv_iadd hx hb dL_law_1045 ?_
  refine he_top (nI (i + 1)) (nI_add i 1) ?_
  refine he_sld hx hb hX hbl hbA hS (i + 1) rfl (by omega) (by omega) (xs (i + 1)) rfl dL_law_1046 ?_
  refine lv_aload_n hx hb dL_law_1047 rfl (lv_at hl 0 rfl) ?_
  refine lv_iload hx hb dL_law_1048 (lv_at hl 4 rfl) ?_
  refine lv_iconst (v := 2) hx hb dL_law_1050 (by decide) ?_
  refine lv_iadd hx hb dL_law_1051 ?_
  refine he_top (nI (i + 2)) (nI_add i 2) ?_
  refine he_sld hx hb hX hbl hbA hS (i + 2) rfl (by omega) (by omega) (xs (i + 2)) rfl dL_law_1052 ?_
  refine lv_aload_n hx hb dL_law_1053 rfl (lv_at hl 0 rfl) ?_
  refine lv_iload hx hb dL_law_1054 (lv_at hl 4 rfl) ?_
  refine lv_iconst (v := 3) hx hb dL_law_1056 (by decide) ?_
  refine lv_iadd hx hb dL_law_1057 ?_
  refine he_top (nI (i + 3)) (nI_add i 3) ?_
  refine he_sld hx hb hX hbl hbA hS (i + 3) rfl (by omega) (by omega) (xs (i + 3)) rfl dL_law_1058 ?_
  refine lv_aload_n hx hb dL_law_1059 rfl (lv_at hl 3 rfl) ?_
  refine he_ci (wc := ([(x0, .inr (9, fx)), (m0, .inr (10, fm)), (aL g o0 1 fo)] ++ (Rc ++ Rm))) (wr := []) (vx_runSW (As := [.ref x0, .int (xs (i + 1)), .int (xs (i + 2)), .int (xs (i + 3)), .ref o0]) (rest := []) ⟨hx, hb, hml, hown, hts⟩ (w_earnest l hlt g x0 m0 o0 S S t fo _ (xs (i + 1)) (xs (i + 2)) (xs (i + 3)) hOk ⟨_, _, _, _, rfl, hc, hm⟩ H.size) (vx_cwSW 5 hts gL_law_L_earnest rfl rfl rfl (by decide +kernel) ⟨Nat.le_of_ble_eq_true rfl, Nat.le_of_ble_eq_true rfl⟩) (he_preS (wc := ([(x0, .inr (9, fx)), (m0, .inr (10, fm)), (aL g o0 1 fo)] ++ (Rc ++ Rm))) hK hP hD hS hA hE (List.range (([(x0, .inr (9, fx)), (m0, .inr (10, fm)), (aL g o0 1 fo)] ++ (Rc ++ Rm)) : va_W).length) (he_all _) (he_allnd _)) rfl rfl hl.1 rfl (lv_room (Nat.le_of_ble_eq_true rfl)) dL_law_1060 ⟨(by show 1000 + 4 * i + 1 ≤ 601024; omega), (by show 100000 + 700 * i + 6 ≤ 7293034; omega)⟩) hP hD hS hA (List.range (([(x0, .inr (9, fx)), (m0, .inr (10, fm)), (aL g o0 1 fo)] ++ (Rc ++ Rm)) : va_W).length) [] (he_all _) rfl rfl (fun _ h9 => absurd h9 List.not_mem_nil) (fun r_1 u_2 H locs hu_3 hP hD hS => ?_)
  obtain ⟨fo_1060, hI9, hr1060, ho1060⟩ := hu_3
  obtain ⟨fx_q_4, fm_q_4, Rc_q_4, Rm_q_4, rfl, hc, hm⟩ := hI9
  have hP : va_P g.1 vwCl ([(x0, .inr (9, fx_q_4)), (m0, .inr (10, fm_q_4)), (aL g o0 1 fo_1060)] ++ (Rc_q_4 ++ Rm_q_4)) H := hP
  have hD : va_D (lw_A s) ([(x0, .inr (9, fx_q_4)), (m0, .inr (10, fm_q_4)), (aL g o0 1 fo_1060)] ++ (Rc_q_4 ++ Rm_q_4)) := hD
  refine lv_istore (lv' := [(5, .int r_1), (0, .ref b), (1, .ref x0), (2, .ref m0), (3, .ref o0), (4, .int (nI i))]) hx hb dL_law_1063 hl (by decide) rfl (fun ls hl => ?_)
  refine lv_aload_n hx hb dL_law_1065 rfl (lv_at hl 3 rfl) ?_
  refine lv_aload_n hx hb dL_law_1066 rfl (lv_at hl 1 rfl) ?_
  refine lv_iload hx hb dL_law_1067 (lv_at hl 5 rfl) ?_
  refine lv_iconst (v := 1) hx hb dL_law_1069 (by decide) ?_
  refine lv_iadd hx hb dL_law_1070 ?_
  refine he_top (nI (i + 1)) (nI_add i 1) ?_
  refine he_sld hx hb hX hbl hbA hS (i + 1) rfl (by omega) (by omega) (xs (i + 1)) rfl dL_law_1071 ?_
  refine lv_aload_n hx hb dL_law_1072 rfl (lv_at hl 1 rfl) ?_
  refine lv_iload hx hb dL_law_1073 (lv_at hl 5 rfl) ?_
  refine lv_iconst (v := 2) hx hb dL_law_1075 (by decide) ?_
  refine lv_iadd hx hb dL_law_1076 ?_
  refine he_top (nI (i + 2)) (nI_add i 2) ?_
  refine he_sld hx hb hX hbl hbA hS (i + 2) rfl (by omega) (by omega) (xs (i + 2)) rfl dL_law_1077 ?_
  refine lv_aload_n hx hb dL_law_1078 rfl (lv_at hl 1 rfl) ?_
  refine lv_iload hx hb dL_law_1079 (lv_at hl 5 rfl) ?_
  refine lv_iconst (v := 3) hx hb dL_law_1081 (by decide) ?_
  refine lv_iadd hx hb dL_law_1082 ?_
  refine he_top (nI (i + 3)) (nI_add i 3) ?_
  refine he_sld hx hb hX hbl hbA hS (i + 3) rfl (by omega) (by omega) (xs (i + 3)) rfl dL_law_1083 ?_
  refine he_ci (wc := ([(x0, .inr (9, fx_q_4)), (m0, .inr (10, fm_q_4)), (aL g o0 1 fo_1060)] ++ (Rc_q_4 ++ Rm_q_4))) (wr := []) (va_runV (As := [.int (xs (i + 1)), .int (xs (i + 2)), .int (xs (i + 3))]) (rest := []) ⟨hx, hb, hml, hown, hts⟩ (il_mI (j_earnest l g m0 S t _ (xs (i + 1)) (xs (i + 2)) (xs (i + 3)) hOk hm) hc H.size) (cwV 3 hts gL_law_X11_earnest rfl rfl rfl (by decide +kernel) ⟨Nat.le_of_ble_eq_true rfl, Nat.le_of_ble_eq_true rfl⟩) (he_preV (wc := ([(x0, .inr (9, fx_q_4)), (m0, .inr (10, fm_q_4)), (aL g o0 1 fo_1060)] ++ (Rc_q_4 ++ Rm_q_4))) hK hP hD hS hA hE (List.range (([(x0, .inr (9, fx_q_4)), (m0, .inr (10, fm_q_4)), (aL g o0 1 fo_1060)] ++ (Rc_q_4 ++ Rm_q_4)) : va_W).length) (he_all _) (he_allnd _) 1 rfl rfl) rfl rfl hl.1 rfl (lv_room (Nat.le_of_ble_eq_true rfl)) dL_law_1084 ⟨(by show 1000 + 4 * i + 1 + 0 ≤ 601024; omega), (by show 100000 + 700 * i + 6 + 0 ≤ 7293034; omega)⟩) hP hD hS hA (List.range (([(x0, .inr (9, fx_q_4)), (m0, .inr (10, fm_q_4)), (aL g o0 1 fo_1060)] ++ (Rc_q_4 ++ Rm_q_4)) : va_W).length) [] (he_all _) rfl rfl (fun _ h9 => absurd h9 List.not_mem_nil) (fun r_5 u_6 H locs hu_7 hP hD hS => ?_)
  obtain ⟨t_1084, hI9, ht1084, hm1084⟩ := hu_7
  obtain ⟨fx_q_8, fm_q_8, Rc_q_8, Rm_q_8, rfl, hc, hm⟩ := hI9
  have hP : va_P g.1 vwCl ([(x0, .inr (9, fx_q_8)), (m0, .inr (10, fm_q_8)), (aL g o0 1 fo_1060)] ++ (Rc_q_8 ++ Rm_q_8)) H := hP
  have hD : va_D (lw_A s) ([(x0, .inr (9, fx_q_8)), (m0, .inr (10, fm_q_8)), (aL g o0 1 fo_1060)] ++ (Rc_q_8 ++ Rm_q_8)) := hD
  refine lv_istore (lv' := [(6, .int r_5), (5, .int r_1), (0, .ref b), (1, .ref x0), (2, .ref m0), (3, .ref o0), (4, .int (nI i))]) hx hb dL_law_1087 hl (by decide) rfl (fun ls hl => ?_)
  refine lv_goto (tgt := 1341) hx hb dL_law_1089 (by decide) ?_
  refine W.widen (k := 1000 + 4 * (i + 6)) (n := 100000 + 700 * (i + 6)) (by show 1000 + 4 * i + 1 + 0 ≤ 1000 + 4 * (i + 6); omega) (by show 100000 + 700 * i + 6 + 0 ≤ 100000 + 700 * (i + 6); omega) ?_
  exact kk ((sp_earnest S (xs (i + 1)) (xs (i + 2)) (xs (i + 3))).2.2) t_1084 fo_1060 _ H locs ls (ok_earnest _ _ _ hOk) ⟨_, _, _, _, rfl, hc, hm⟩ hP hD hS (lv_sub hl [2, 3, 4, 5, 6] rfl)
set_option maxHeartbeats 8000000 in
set_option maxRecDepth 100000 in
theorem lc_stands {p : Program} {e : Env} {s : State} {m : MethodId} {below : List Frame} {meth : Method} {c : Code} {Q : State → Prop} (l : Launch) (hlt : l.stackTraces = false) (g : he_G) {b Ln : Nat} {xs : Nat → Int32} (C0 : lw_C p s m meth c b Ln xs g) (i : Nat) (hi : i + 6 ≤ Ln) (hL : Ln ≤ 3072) (x0 m0 o0 : Nat) (S : AbS) (t : Int32) (fo : Nat → Int64) (W9 : va_W) (hOk : okS S) (hI : IL g x0 m0 o0 S S t fo W9) {H : Heap} {locs : List Loc} {ls : Array Slot} (hP : va_P g.1 vwCl W9 H) (hD : va_D (lw_A s) W9) (hS : va_S (lw_A s) s.heap H locs) (hl : lv_has ls 8 [(0, .ref b), (1, .ref x0), (2, .ref m0), (3, .ref o0), (4, .int (nI i))]) (kk : ∀ (S2 : AbS) (t2 : Int32) (fo2 : Nat → Int64) (W2 : va_W) (H2 : Heap) (locs2 : List Loc) (ls2 : Array Slot), okS S2 → IL g x0 m0 o0 S2 S2 t2 fo2 W2 → va_P g.1 vwCl W2 H2 → va_D (lw_A s) W2 → va_S (lw_A s) s.heap H2 locs2 → lv_has ls2 8 [(0, .ref b), (1, .ref x0), (2, .ref m0), (3, .ref o0), (4, .int (nI i))] → W p l e room_1 s m #[Value.ref b] below meth c H2 locs2 (1000 + 4 * (i + 6)) (100000 + 700 * (i + 6)) Q (F0 m 1341 ls2 [])) : W p l e room_1 s m #[Value.ref b] below meth c H locs (1000 + 4 * i) (100000 + 700 * i) Q (F0 m 1092 ls []) := by
  obtain ⟨hx, hb, hr, hml, hown, hts, hX, hbl, hlk, hK, hE, hA, hbA, hNc⟩ := C0
  obtain ⟨fx, fm, Rc, Rm, rfl, hc, hm⟩ := hI
  refine lv_aload_n hx hb dL_law_1092 rfl (lv_at hl 1 rfl) ?_
  refine lv_aload_n hx hb dL_law_1093 rfl (lv_at hl 0 rfl) ?_
  refine lv_iload hx hb dL_law_1094 (lv_at hl 4 rfl) ?_
  refine lv_iconst (v := 1) hx hb dL_law_1096 (by decide) ?_
  refine lv_iadd hx hb dL_law_1097 ?_
  refine he_top (nI (i + 1)) (nI_add i 1) ?_
  refine he_sld hx hb hX hbl hbA hS (i + 1) rfl (by omega) (by omega) (xs (i + 1)) rfl dL_law_1098 ?_
  refine lv_aload_n hx hb dL_law_1099 rfl (lv_at hl 0 rfl) ?_
  refine lv_iload hx hb dL_law_1100 (lv_at hl 4 rfl) ?_
  refine lv_iconst (v := 2) hx hb dL_law_1102 (by decide) ?_
  refine lv_iadd hx hb dL_law_1103 ?_
  refine he_top (nI (i + 2)) (nI_add i 2) ?_
  refine he_sld hx hb hX hbl hbA hS (i + 2) rfl (by omega) (by omega) (xs (i + 2)) rfl dL_law_1104 ?_
  refine lv_aload_n hx hb dL_law_1105 rfl (lv_at hl 3 rfl) ?_
  refine he_ci (wc := ([(x0, .inr (9, fx)), (m0, .inr (10, fm)), (aL g o0 1 fo)] ++ (Rc ++ Rm))) (wr := []) (vx_runSW (As := [.ref x0, .int (xs (i + 1)), .int (xs (i + 2)), .ref o0]) (rest := []) ⟨hx, hb, hml, hown, hts⟩ (w_stands l hlt g x0 m0 o0 S S t fo _ (xs (i + 1)) (xs (i + 2)) hOk ⟨_, _, _, _, rfl, hc, hm⟩ H.size) (vx_cwSW 4 hts gL_law_L_stands rfl rfl rfl (by decide +kernel) ⟨Nat.le_of_ble_eq_true rfl, Nat.le_of_ble_eq_true rfl⟩) (he_preS (wc := ([(x0, .inr (9, fx)), (m0, .inr (10, fm)), (aL g o0 1 fo)] ++ (Rc ++ Rm))) hK hP hD hS hA hE (List.range (([(x0, .inr (9, fx)), (m0, .inr (10, fm)), (aL g o0 1 fo)] ++ (Rc ++ Rm)) : va_W).length) (he_all _) (he_allnd _)) rfl rfl hl.1 rfl (lv_room (Nat.le_of_ble_eq_true rfl)) dL_law_1106 ⟨(by show 1000 + 4 * i + 1 ≤ 601024; omega), (by show 100000 + 700 * i + 6 ≤ 7293034; omega)⟩) hP hD hS hA (List.range (([(x0, .inr (9, fx)), (m0, .inr (10, fm)), (aL g o0 1 fo)] ++ (Rc ++ Rm)) : va_W).length) [] (he_all _) rfl rfl (fun _ h9 => absurd h9 List.not_mem_nil) (fun r_1 u_2 H locs hu_3 hP hD hS => ?_)
  obtain ⟨fo_1106, hI9, hr1106, ho1106⟩ := hu_3
  obtain ⟨fx_q_4, fm_q_4, Rc_q_4, Rm_q_4, rfl, hc, hm⟩ := hI9
  have hP : va_P g.1 vwCl ([(x0, .inr (9, fx_q_4)), (m0, .inr (10, fm_q_4)), (aL g o0 1 fo_1106)] ++ (Rc_q_4 ++ Rm_q_4)) H := hP
  have hD : va_D (lw_A s) ([(x0, .inr (9, fx_q_4)), (m0, .inr (10, fm_q_4)), (aL g o0 1 fo_1106)] ++ (Rc_q_4 ++ Rm_q_4)) := hD
  refine lv_istore (lv' := [(5, .int r_1), (0, .ref b), (1, .ref x0), (2, .ref m0), (3, .ref o0), (4, .int (nI i))]) hx hb dL_law_1109 hl (by decide) rfl (fun ls hl => ?_)
  refine lv_aload_n hx hb dL_law_1111 rfl (lv_at hl 3 rfl) ?_
  refine lv_aload_n hx hb dL_law_1112 rfl (lv_at hl 1 rfl) ?_
  refine lv_iload hx hb dL_law_1113 (lv_at hl 5 rfl) ?_
  refine lv_iconst (v := 1) hx hb dL_law_1115 (by decide) ?_
  refine lv_iadd hx hb dL_law_1116 ?_
  refine he_top (nI (i + 1)) (nI_add i 1) ?_
  refine he_sld hx hb hX hbl hbA hS (i + 1) rfl (by omega) (by omega) (xs (i + 1)) rfl dL_law_1117 ?_
  refine lv_aload_n hx hb dL_law_1118 rfl (lv_at hl 1 rfl) ?_
  refine lv_iload hx hb dL_law_1119 (lv_at hl 5 rfl) ?_
  refine lv_iconst (v := 2) hx hb dL_law_1121 (by decide) ?_
  refine lv_iadd hx hb dL_law_1122 ?_
  refine he_top (nI (i + 2)) (nI_add i 2) ?_
  refine he_sld hx hb hX hbl hbA hS (i + 2) rfl (by omega) (by omega) (xs (i + 2)) rfl dL_law_1123 ?_
  refine he_ci (wc := ([(x0, .inr (9, fx_q_4)), (m0, .inr (10, fm_q_4)), (aL g o0 1 fo_1106)] ++ (Rc_q_4 ++ Rm_q_4))) (wr := []) (va_runV (As := [.int (xs (i + 1)), .int (xs (i + 2))]) (rest := []) ⟨hx, hb, hml, hown, hts⟩ (il_mI (j_stands l g m0 S t _ (xs (i + 1)) (xs (i + 2)) hOk hm) hc H.size) (cwV 2 hts gL_law_X11_stands rfl rfl rfl (by decide +kernel) ⟨Nat.le_of_ble_eq_true rfl, Nat.le_of_ble_eq_true rfl⟩) (he_preV (wc := ([(x0, .inr (9, fx_q_4)), (m0, .inr (10, fm_q_4)), (aL g o0 1 fo_1106)] ++ (Rc_q_4 ++ Rm_q_4))) hK hP hD hS hA hE (List.range (([(x0, .inr (9, fx_q_4)), (m0, .inr (10, fm_q_4)), (aL g o0 1 fo_1106)] ++ (Rc_q_4 ++ Rm_q_4)) : va_W).length) (he_all _) (he_allnd _) 1 rfl rfl) rfl rfl hl.1 rfl (lv_room (Nat.le_of_ble_eq_true rfl)) dL_law_1124 ⟨(by show 1000 + 4 * i + 1 + 0 ≤ 601024; omega), (by show 100000 + 700 * i + 6 + 0 ≤ 7293034; omega)⟩) hP hD hS hA (List.range (([(x0, .inr (9, fx_q_4)), (m0, .inr (10, fm_q_4)), (aL g o0 1 fo_1106)] ++ (Rc_q_4 ++ Rm_q_4)) : va_W).length) [] (he_all _) rfl rfl (fun _ h9 => absurd h9 List.not_mem_nil) (fun r_5 u_6 H locs hu_7 hP hD hS => ?_)
  obtain ⟨t_1124, hI9, ht1124, hm1124⟩ := hu_7
  obtain ⟨fx_q_8, fm_q_8, Rc_q_8, Rm_q_8, rfl, hc, hm⟩ := hI9
  have hP : va_P g.1 vwCl ([(x0, .inr (9, fx_q_8)), (m0, .inr (10, fm_q_8)), (aL g o0 1 fo_1106)] ++ (Rc_q_8 ++ Rm_q_8)) H := hP
  have hD : va_D (lw_A s) ([(x0, .inr (9, fx_q_8)), (m0, .inr (10, fm_q_8)), (aL g o0 1 fo_1106)] ++ (Rc_q_8 ++ Rm_q_8)) := hD
  refine lv_istore (lv' := [(6, .int r_5), (5, .int r_1), (0, .ref b), (1, .ref x0), (2, .ref m0), (3, .ref o0), (4, .int (nI i))]) hx hb dL_law_1127 hl (by decide) rfl (fun ls hl => ?_)
  refine lv_goto (tgt := 1341) hx hb dL_law_1129 (by decide) ?_
  refine W.widen (k := 1000 + 4 * (i + 6)) (n := 100000 + 700 * (i + 6)) (by show 1000 + 4 * i + 1 + 0 ≤ 1000 + 4 * (i + 6); omega) (by show 100000 + 700 * i + 6 + 0 ≤ 100000 + 700 * (i + 6); omega) ?_
  exact kk ((sp_stands S (xs (i + 1)) (xs (i + 2))).2.2) t_1124 fo_1106 _ H locs ls (ok_stands _ _ hOk) ⟨_, _, _, _, rfl, hc, hm⟩ hP hD hS (lv_sub hl [2, 3, 4, 5, 6] rfl)
set_option maxHeartbeats 8000000 in
set_option maxRecDepth 100000 in
theorem lc_show {p : Program} {e : Env} {s : State} {m : MethodId} {below : List Frame} {meth : Method} {c : Code} {Q : State → Prop} (l : Launch) (hlt : l.stackTraces = false) (g : he_G) {b Ln : Nat} {xs : Nat → Int32} (C0 : lw_C p s m meth c b Ln xs g) (i : Nat) (hi : i + 6 ≤ Ln) (hL : Ln ≤ 3072) (x0 m0 o0 : Nat) (S : AbS) (t : Int32) (fo : Nat → Int64) (W9 : va_W) (hOk : okS S) (hI : IL g x0 m0 o0 S S t fo W9) {H : Heap} {locs : List Loc} {ls : Array Slot} (hP : va_P g.1 vwCl W9 H) (hD : va_D (lw_A s) W9) (hS : va_S (lw_A s) s.heap H locs) (hl : lv_has ls 8 [(0, .ref b), (1, .ref x0), (2, .ref m0), (3, .ref o0), (4, .int (nI i))]) (kk : ∀ (S2 : AbS) (t2 : Int32) (fo2 : Nat → Int64) (W2 : va_W) (H2 : Heap) (locs2 : List Loc) (ls2 : Array Slot), okS S2 → IL g x0 m0 o0 S2 S2 t2 fo2 W2 → va_P g.1 vwCl W2 H2 → va_D (lw_A s) W2 → va_S (lw_A s) s.heap H2 locs2 → lv_has ls2 8 [(0, .ref b), (1, .ref x0), (2, .ref m0), (3, .ref o0), (4, .int (nI i))] → W p l e room_1 s m #[Value.ref b] below meth c H2 locs2 (1000 + 4 * (i + 6)) (100000 + 700 * (i + 6)) Q (F0 m 1341 ls2 [])) : W p l e room_1 s m #[Value.ref b] below meth c H locs (1000 + 4 * i) (100000 + 700 * i) Q (F0 m 1132 ls []) := by
  obtain ⟨hx, hb, hr, hml, hown, hts, hX, hbl, hlk, hK, hE, hA, hbA, hNc⟩ := C0
  obtain ⟨fx, fm, Rc, Rm, rfl, hc, hm⟩ := hI
  refine lv_aload_n hx hb dL_law_1132 rfl (lv_at hl 1 rfl) ?_
  refine lv_aload_n hx hb dL_law_1133 rfl (lv_at hl 0 rfl) ?_
  refine lv_iload hx hb dL_law_1134 (lv_at hl 4 rfl) ?_
  refine lv_iconst (v := 1) hx hb dL_law_1136 (by decide) ?_
  refine lv_iadd hx hb dL_law_1137 ?_
  refine he_top (nI (i + 1)) (nI_add i 1) ?_
  refine he_sld hx hb hX hbl hbA hS (i + 1) rfl (by omega) (by omega) (xs (i + 1)) rfl dL_law_1138 ?_
  refine lv_aload_n hx hb dL_law_1139 rfl (lv_at hl 0 rfl) ?_
  refine lv_iload hx hb dL_law_1140 (lv_at hl 4 rfl) ?_
  refine lv_iconst (v := 2) hx hb dL_law_1142 (by decide) ?_
  refine lv_iadd hx hb dL_law_1143 ?_
  refine he_top (nI (i + 2)) (nI_add i 2) ?_
  refine he_sld hx hb hX hbl hbA hS (i + 2) rfl (by omega) (by omega) (xs (i + 2)) rfl dL_law_1144 ?_
  refine lv_aload_n hx hb dL_law_1145 rfl (lv_at hl 3 rfl) ?_
  refine he_ci (wc := ([(x0, .inr (9, fx)), (m0, .inr (10, fm)), (aL g o0 1 fo)] ++ (Rc ++ Rm))) (wr := []) (vx_runSW (As := [.ref x0, .int (xs (i + 1)), .int (xs (i + 2)), .ref o0]) (rest := []) ⟨hx, hb, hml, hown, hts⟩ (w_show l hlt g x0 m0 o0 S S t fo _ (xs (i + 1)) (xs (i + 2)) hOk ⟨_, _, _, _, rfl, hc, hm⟩ H.size) (vx_cwSW 4 hts gL_law_L_show rfl rfl rfl (by decide +kernel) ⟨Nat.le_of_ble_eq_true rfl, Nat.le_of_ble_eq_true rfl⟩) (he_preS (wc := ([(x0, .inr (9, fx)), (m0, .inr (10, fm)), (aL g o0 1 fo)] ++ (Rc ++ Rm))) hK hP hD hS hA hE (List.range (([(x0, .inr (9, fx)), (m0, .inr (10, fm)), (aL g o0 1 fo)] ++ (Rc ++ Rm)) : va_W).length) (he_all _) (he_allnd _)) rfl rfl hl.1 rfl (lv_room (Nat.le_of_ble_eq_true rfl)) dL_law_1146 ⟨(by show 1000 + 4 * i + 1 ≤ 601024; omega), (by show 100000 + 700 * i + 6 ≤ 7293034; omega)⟩) hP hD hS hA (List.range (([(x0, .inr (9, fx)), (m0, .inr (10, fm)), (aL g o0 1 fo)] ++ (Rc ++ Rm)) : va_W).length) [] (he_all _) rfl rfl (fun _ h9 => absurd h9 List.not_mem_nil) (fun r_1 u_2 H locs hu_3 hP hD hS => ?_)
  obtain ⟨fo_1146, hI9, hr1146, ho1146⟩ := hu_3
  obtain ⟨fx_q_4, fm_q_4, Rc_q_4, Rm_q_4, rfl, hc, hm⟩ := hI9
  have hP : va_P g.1 vwCl ([(x0, .inr (9, fx_q_4)), (m0, .inr (10, fm_q_4)), (aL g o0 1 fo_1146)] ++ (Rc_q_4 ++ Rm_q_4)) H := hP
  have hD : va_D (lw_A s) ([(x0, .inr (9, fx_q_4)), (m0, .inr (10, fm_q_4)), (aL g o0 1 fo_1146)] ++ (Rc_q_4 ++ Rm_q_4)) := hD
  refine lv_istore (lv' := [(5, .int r_1), (0, .ref b), (1, .ref x0), (2, .ref m0), (3, .ref o0), (4, .int (nI i))]) hx hb dL_law_1149 hl (by decide) rfl (fun ls hl => ?_)
  refine lv_aload_n hx hb dL_law_1151 rfl (lv_at hl 3 rfl) ?_
  refine lv_aload_n hx hb dL_law_1152 rfl (lv_at hl 1 rfl) ?_
  refine lv_iload hx hb dL_law_1153 (lv_at hl 5 rfl) ?_
  refine lv_iconst (v := 1) hx hb dL_law_1155 (by decide) ?_
  refine lv_iadd hx hb dL_law_1156 ?_
  refine he_top (nI (i + 1)) (nI_add i 1) ?_
  refine he_sld hx hb hX hbl hbA hS (i + 1) rfl (by omega) (by omega) (xs (i + 1)) rfl dL_law_1157 ?_
  refine lv_aload_n hx hb dL_law_1158 rfl (lv_at hl 1 rfl) ?_
  refine lv_iload hx hb dL_law_1159 (lv_at hl 5 rfl) ?_
  refine lv_iconst (v := 2) hx hb dL_law_1161 (by decide) ?_
  refine lv_iadd hx hb dL_law_1162 ?_
  refine he_top (nI (i + 2)) (nI_add i 2) ?_
  refine he_sld hx hb hX hbl hbA hS (i + 2) rfl (by omega) (by omega) (xs (i + 2)) rfl dL_law_1163 ?_
  refine he_ci (wc := ([(x0, .inr (9, fx_q_4)), (m0, .inr (10, fm_q_4)), (aL g o0 1 fo_1146)] ++ (Rc_q_4 ++ Rm_q_4))) (wr := []) (va_runV (As := [.int (xs (i + 1)), .int (xs (i + 2))]) (rest := []) ⟨hx, hb, hml, hown, hts⟩ (il_mI (j_show l g m0 S t _ (xs (i + 1)) (xs (i + 2)) hOk hm) hc H.size) (cwV 2 hts gL_law_X11_show rfl rfl rfl (by decide +kernel) ⟨Nat.le_of_ble_eq_true rfl, Nat.le_of_ble_eq_true rfl⟩) (he_preV (wc := ([(x0, .inr (9, fx_q_4)), (m0, .inr (10, fm_q_4)), (aL g o0 1 fo_1146)] ++ (Rc_q_4 ++ Rm_q_4))) hK hP hD hS hA hE (List.range (([(x0, .inr (9, fx_q_4)), (m0, .inr (10, fm_q_4)), (aL g o0 1 fo_1146)] ++ (Rc_q_4 ++ Rm_q_4)) : va_W).length) (he_all _) (he_allnd _) 1 rfl rfl) rfl rfl hl.1 rfl (lv_room (Nat.le_of_ble_eq_true rfl)) dL_law_1164 ⟨(by show 1000 + 4 * i + 1 + 0 ≤ 601024; omega), (by show 100000 + 700 * i + 6 + 0 ≤ 7293034; omega)⟩) hP hD hS hA (List.range (([(x0, .inr (9, fx_q_4)), (m0, .inr (10, fm_q_4)), (aL g o0 1 fo_1146)] ++ (Rc_q_4 ++ Rm_q_4)) : va_W).length) [] (he_all _) rfl rfl (fun _ h9 => absurd h9 List.not_mem_nil) (fun r_5 u_6 H locs hu_7 hP hD hS => ?_)
  obtain ⟨t_1164, hI9, ht1164, hm1164⟩ := hu_7
  obtain ⟨fx_q_8, fm_q_8, Rc_q_8, Rm_q_8, rfl, hc, hm⟩ := hI9
  have hP : va_P g.1 vwCl ([(x0, .inr (9, fx_q_8)), (m0, .inr (10, fm_q_8)), (aL g o0 1 fo_1146)] ++ (Rc_q_8 ++ Rm_q_8)) H := hP
  have hD : va_D (lw_A s) ([(x0, .inr (9, fx_q_8)), (m0, .inr (10, fm_q_8)), (aL g o0 1 fo_1146)] ++ (Rc_q_8 ++ Rm_q_8)) := hD
  refine lv_istore (lv' := [(6, .int r_5), (5, .int r_1), (0, .ref b), (1, .ref x0), (2, .ref m0), (3, .ref o0), (4, .int (nI i))]) hx hb dL_law_1167 hl (by decide) rfl (fun ls hl => ?_)
  refine lv_goto (tgt := 1341) hx hb dL_law_1169 (by decide) ?_
  refine W.widen (k := 1000 + 4 * (i + 6)) (n := 100000 + 700 * (i + 6)) (by show 1000 + 4 * i + 1 + 0 ≤ 1000 + 4 * (i + 6); omega) (by show 100000 + 700 * i + 6 + 0 ≤ 100000 + 700 * (i + 6); omega) ?_
  exact kk ((sp_show S (xs (i + 1)) (xs (i + 2))).2.2) t_1164 fo_1146 _ H locs ls (ok_show _ _ hOk) ⟨_, _, _, _, rfl, hc, hm⟩ hP hD hS (lv_sub hl [2, 3, 4, 5, 6] rfl)
set_option maxHeartbeats 8000000 in
set_option maxRecDepth 100000 in
theorem lc_offers {p : Program} {e : Env} {s : State} {m : MethodId} {below : List Frame} {meth : Method} {c : Code} {Q : State → Prop} (l : Launch) (hlt : l.stackTraces = false) (g : he_G) {b Ln : Nat} {xs : Nat → Int32} (C0 : lw_C p s m meth c b Ln xs g) (i : Nat) (hi : i + 6 ≤ Ln) (hL : Ln ≤ 3072) (x0 m0 o0 : Nat) (S : AbS) (t : Int32) (fo : Nat → Int64) (W9 : va_W) (hOk : okS S) (hI : IL g x0 m0 o0 S S t fo W9) {H : Heap} {locs : List Loc} {ls : Array Slot} (hP : va_P g.1 vwCl W9 H) (hD : va_D (lw_A s) W9) (hS : va_S (lw_A s) s.heap H locs) (hl : lv_has ls 8 [(0, .ref b), (1, .ref x0), (2, .ref m0), (3, .ref o0), (4, .int (nI i))]) (kk : ∀ (S2 : AbS) (t2 : Int32) (fo2 : Nat → Int64) (W2 : va_W) (H2 : Heap) (locs2 : List Loc) (ls2 : Array Slot), okS S2 → IL g x0 m0 o0 S2 S2 t2 fo2 W2 → va_P g.1 vwCl W2 H2 → va_D (lw_A s) W2 → va_S (lw_A s) s.heap H2 locs2 → lv_has ls2 8 [(0, .ref b), (1, .ref x0), (2, .ref m0), (3, .ref o0), (4, .int (nI i))] → W p l e room_1 s m #[Value.ref b] below meth c H2 locs2 (1000 + 4 * (i + 6)) (100000 + 700 * (i + 6)) Q (F0 m 1341 ls2 [])) : W p l e room_1 s m #[Value.ref b] below meth c H locs (1000 + 4 * i) (100000 + 700 * i) Q (F0 m 1172 ls []) := by
  obtain ⟨hx, hb, hr, hml, hown, hts, hX, hbl, hlk, hK, hE, hA, hbA, hNc⟩ := C0
  obtain ⟨fx, fm, Rc, Rm, rfl, hc, hm⟩ := hI
  refine lv_aload_n hx hb dL_law_1172 rfl (lv_at hl 1 rfl) ?_
  refine lv_aload_n hx hb dL_law_1173 rfl (lv_at hl 0 rfl) ?_
  refine lv_iload hx hb dL_law_1174 (lv_at hl 4 rfl) ?_
  refine lv_iconst (v := 1) hx hb dL_law_1176 (by decide) ?_
  refine lv_iadd hx hb dL_law_1177 ?_
  refine he_top (nI (i + 1)) (nI_add i 1) ?_
  refine he_sld hx hb hX hbl hbA hS (i + 1) rfl (by omega) (by omega) (xs (i + 1)) rfl dL_law_1178 ?_
  refine lv_aload_n hx hb dL_law_1179 rfl (lv_at hl 0 rfl) ?_
  refine lv_iload hx hb dL_law_1180 (lv_at hl 4 rfl) ?_
  refine lv_iconst (v := 2) hx hb dL_law_1182 (by decide) ?_
  refine lv_iadd hx hb dL_law_1183 ?_
  refine he_top (nI (i + 2)) (nI_add i 2) ?_
  refine he_sld hx hb hX hbl hbA hS (i + 2) rfl (by omega) (by omega) (xs (i + 2)) rfl dL_law_1184 ?_
  refine lv_aload_n hx hb dL_law_1185 rfl (lv_at hl 0 rfl) ?_
  refine lv_iload hx hb dL_law_1186 (lv_at hl 4 rfl) ?_
  refine lv_iconst (v := 3) hx hb dL_law_1188 (by decide) ?_
  refine lv_iadd hx hb dL_law_1189 ?_
  refine he_top (nI (i + 3)) (nI_add i 3) ?_
  refine he_sld hx hb hX hbl hbA hS (i + 3) rfl (by omega) (by omega) (xs (i + 3)) rfl dL_law_1190 ?_
  refine lv_aload_n hx hb dL_law_1191 rfl (lv_at hl 3 rfl) ?_
  refine he_ci (wc := ([(x0, .inr (9, fx)), (m0, .inr (10, fm)), (aL g o0 1 fo)] ++ (Rc ++ Rm))) (wr := []) (vx_runSW (As := [.ref x0, .int (xs (i + 1)), .int (xs (i + 2)), .int (xs (i + 3)), .ref o0]) (rest := []) ⟨hx, hb, hml, hown, hts⟩ (w_offers l hlt g x0 m0 o0 S S t fo _ (xs (i + 1)) (xs (i + 2)) (xs (i + 3)) ⟨_, _, _, _, rfl, hc, hm⟩ H.size) (vx_cwSW 5 hts gL_law_L_offers rfl rfl rfl (by decide +kernel) ⟨Nat.le_of_ble_eq_true rfl, Nat.le_of_ble_eq_true rfl⟩) (he_preS (wc := ([(x0, .inr (9, fx)), (m0, .inr (10, fm)), (aL g o0 1 fo)] ++ (Rc ++ Rm))) hK hP hD hS hA hE (List.range (([(x0, .inr (9, fx)), (m0, .inr (10, fm)), (aL g o0 1 fo)] ++ (Rc ++ Rm)) : va_W).length) (he_all _) (he_allnd _)) rfl rfl hl.1 rfl (lv_room (Nat.le_of_ble_eq_true rfl)) dL_law_1192 ⟨(by show 1000 + 4 * i + 1 ≤ 601024; omega), (by show 100000 + 700 * i + 6 ≤ 7293034; omega)⟩) hP hD hS hA (List.range (([(x0, .inr (9, fx)), (m0, .inr (10, fm)), (aL g o0 1 fo)] ++ (Rc ++ Rm)) : va_W).length) [] (he_all _) rfl rfl (fun _ h9 => absurd h9 List.not_mem_nil) (fun r_1 u_2 H locs hu_3 hP hD hS => ?_)
  obtain ⟨fo_1192, hI9, hr1192, ho1192⟩ := hu_3
  obtain ⟨fx_q_4, fm_q_4, Rc_q_4, Rm_q_4, rfl, hc, hm⟩ := hI9
  have hP : va_P g.1 vwCl ([(x0, .inr (9, fx_q_4)), (m0, .inr (10, fm_q_4)), (aL g o0 1 fo_1192)] ++ (Rc_q_4 ++ Rm_q_4)) H := hP
  have hD : va_D (lw_A s) ([(x0, .inr (9, fx_q_4)), (m0, .inr (10, fm_q_4)), (aL g o0 1 fo_1192)] ++ (Rc_q_4 ++ Rm_q_4)) := hD
  refine lv_istore (lv' := [(5, .int r_1), (0, .ref b), (1, .ref x0), (2, .ref m0), (3, .ref o0), (4, .int (nI i))]) hx hb dL_law_1195 hl (by decide) rfl (fun ls hl => ?_)
  refine lv_aload_n hx hb dL_law_1197 rfl (lv_at hl 3 rfl) ?_
  refine lv_aload_n hx hb dL_law_1198 rfl (lv_at hl 1 rfl) ?_
  refine lv_iload hx hb dL_law_1199 (lv_at hl 5 rfl) ?_
  refine lv_iconst (v := 1) hx hb dL_law_1201 (by decide) ?_
  refine lv_iadd hx hb dL_law_1202 ?_
  refine he_top (nI (i + 1)) (nI_add i 1) ?_
  refine he_sld hx hb hX hbl hbA hS (i + 1) rfl (by omega) (by omega) (xs (i + 1)) rfl dL_law_1203 ?_
  refine lv_aload_n hx hb dL_law_1204 rfl (lv_at hl 1 rfl) ?_
  refine lv_iload hx hb dL_law_1205 (lv_at hl 5 rfl) ?_
  refine lv_iconst (v := 2) hx hb dL_law_1207 (by decide) ?_
  refine lv_iadd hx hb dL_law_1208 ?_
  refine he_top (nI (i + 2)) (nI_add i 2) ?_
  refine he_sld hx hb hX hbl hbA hS (i + 2) rfl (by omega) (by omega) (xs (i + 2)) rfl dL_law_1209 ?_
  refine lv_aload_n hx hb dL_law_1210 rfl (lv_at hl 1 rfl) ?_
  refine lv_iload hx hb dL_law_1211 (lv_at hl 5 rfl) ?_
  refine lv_iconst (v := 3) hx hb dL_law_1213 (by decide) ?_
  refine lv_iadd hx hb dL_law_1214 ?_
  refine he_top (nI (i + 3)) (nI_add i 3) ?_
  refine he_sld hx hb hX hbl hbA hS (i + 3) rfl (by omega) (by omega) (xs (i + 3)) rfl dL_law_1215 ?_
  refine he_ci (wc := ([(x0, .inr (9, fx_q_4)), (m0, .inr (10, fm_q_4)), (aL g o0 1 fo_1192)] ++ (Rc_q_4 ++ Rm_q_4))) (wr := []) (va_runV (As := [.int (xs (i + 1)), .int (xs (i + 2)), .int (xs (i + 3))]) (rest := []) ⟨hx, hb, hml, hown, hts⟩ (il_mI (j_offers l g m0 S t _ (xs (i + 1)) (xs (i + 2)) (xs (i + 3)) hm) hc H.size) (cwV 3 hts gL_law_X11_offers rfl rfl rfl (by decide +kernel) ⟨Nat.le_of_ble_eq_true rfl, Nat.le_of_ble_eq_true rfl⟩) (he_preV (wc := ([(x0, .inr (9, fx_q_4)), (m0, .inr (10, fm_q_4)), (aL g o0 1 fo_1192)] ++ (Rc_q_4 ++ Rm_q_4))) hK hP hD hS hA hE (List.range (([(x0, .inr (9, fx_q_4)), (m0, .inr (10, fm_q_4)), (aL g o0 1 fo_1192)] ++ (Rc_q_4 ++ Rm_q_4)) : va_W).length) (he_all _) (he_allnd _) 1 rfl rfl) rfl rfl hl.1 rfl (lv_room (Nat.le_of_ble_eq_true rfl)) dL_law_1216 ⟨(by show 1000 + 4 * i + 1 + 0 ≤ 601024; omega), (by show 100000 + 700 * i + 6 + 0 ≤ 7293034; omega)⟩) hP hD hS hA (List.range (([(x0, .inr (9, fx_q_4)), (m0, .inr (10, fm_q_4)), (aL g o0 1 fo_1192)] ++ (Rc_q_4 ++ Rm_q_4)) : va_W).length) [] (he_all _) rfl rfl (fun _ h9 => absurd h9 List.not_mem_nil) (fun r_5 u_6 H locs hu_7 hP hD hS => ?_)
  obtain ⟨t_1216, hI9, ht1216, hm1216⟩ := hu_7
  obtain ⟨fx_q_8, fm_q_8, Rc_q_8, Rm_q_8, rfl, hc, hm⟩ := hI9
  have hP : va_P g.1 vwCl ([(x0, .inr (9, fx_q_8)), (m0, .inr (10, fm_q_8)), (aL g o0 1 fo_1192)] ++ (Rc_q_8 ++ Rm_q_8)) H := hP
  have hD : va_D (lw_A s) ([(x0, .inr (9, fx_q_8)), (m0, .inr (10, fm_q_8)), (aL g o0 1 fo_1192)] ++ (Rc_q_8 ++ Rm_q_8)) := hD
  refine lv_istore (lv' := [(6, .int r_5), (5, .int r_1), (0, .ref b), (1, .ref x0), (2, .ref m0), (3, .ref o0), (4, .int (nI i))]) hx hb dL_law_1219 hl (by decide) rfl (fun ls hl => ?_)
  refine lv_goto (tgt := 1341) hx hb dL_law_1221 (by decide) ?_
  refine W.widen (k := 1000 + 4 * (i + 6)) (n := 100000 + 700 * (i + 6)) (by show 1000 + 4 * i + 1 + 0 ≤ 1000 + 4 * (i + 6); omega) (by show 100000 + 700 * i + 6 + 0 ≤ 100000 + 700 * (i + 6); omega) ?_
  exact kk ((sp_offers S (xs (i + 1)) (xs (i + 2)) (xs (i + 3))).2.2) t_1216 fo_1192 _ H locs ls (ok_offers _ _ _ hOk) ⟨_, _, _, _, rfl, hc, hm⟩ hP hD hS (lv_sub hl [2, 3, 4, 5, 6] rfl)
set_option maxHeartbeats 8000000 in
set_option maxRecDepth 100000 in
theorem lc_most {p : Program} {e : Env} {s : State} {m : MethodId} {below : List Frame} {meth : Method} {c : Code} {Q : State → Prop} (l : Launch) (hlt : l.stackTraces = false) (g : he_G) {b Ln : Nat} {xs : Nat → Int32} (C0 : lw_C p s m meth c b Ln xs g) (i : Nat) (hi : i + 6 ≤ Ln) (hL : Ln ≤ 3072) (x0 m0 o0 : Nat) (S : AbS) (t : Int32) (fo : Nat → Int64) (W9 : va_W) (hOk : okS S) (hI : IL g x0 m0 o0 S S t fo W9) {H : Heap} {locs : List Loc} {ls : Array Slot} (hP : va_P g.1 vwCl W9 H) (hD : va_D (lw_A s) W9) (hS : va_S (lw_A s) s.heap H locs) (hl : lv_has ls 8 [(0, .ref b), (1, .ref x0), (2, .ref m0), (3, .ref o0), (4, .int (nI i))]) (kk : ∀ (S2 : AbS) (t2 : Int32) (fo2 : Nat → Int64) (W2 : va_W) (H2 : Heap) (locs2 : List Loc) (ls2 : Array Slot), okS S2 → IL g x0 m0 o0 S2 S2 t2 fo2 W2 → va_P g.1 vwCl W2 H2 → va_D (lw_A s) W2 → va_S (lw_A s) s.heap H2 locs2 → lv_has ls2 8 [(0, .ref b), (1, .ref x0), (2, .ref m0), (3, .ref o0), (4, .int (nI i))] → W p l e room_1 s m #[Value.ref b] below meth c H2 locs2 (1000 + 4 * (i + 6)) (100000 + 700 * (i + 6)) Q (F0 m 1341 ls2 [])) : W p l e room_1 s m #[Value.ref b] below meth c H locs (1000 + 4 * i) (100000 + 700 * i) Q (F0 m 1224 ls []) := by
  obtain ⟨hx, hb, hr, hml, hown, hts, hX, hbl, hlk, hK, hE, hA, hbA, hNc⟩ := C0
  obtain ⟨fx, fm, Rc, Rm, rfl, hc, hm⟩ := hI
  refine lv_aload_n hx hb dL_law_1224 rfl (lv_at hl 1 rfl) ?_
  refine he_ci (wc := ([(x0, .inr (9, fx)), (m0, .inr (10, fm)), (aL g o0 1 fo)] ++ (Rc ++ Rm))) (wr := []) (va_runV (As := []) (rest := []) ⟨hx, hb, hml, hown, hts⟩ (il_cI (k_most l hlt g x0 S _  (im_O hm) hc) hm H.size) (cwV 0 hts gL_law_X10_most rfl rfl rfl (by decide +kernel) ⟨Nat.le_of_ble_eq_true rfl, Nat.le_of_ble_eq_true rfl⟩) (he_preV (wc := ([(x0, .inr (9, fx)), (m0, .inr (10, fm)), (aL g o0 1 fo)] ++ (Rc ++ Rm))) hK hP hD hS hA hE (List.range (([(x0, .inr (9, fx)), (m0, .inr (10, fm)), (aL g o0 1 fo)] ++ (Rc ++ Rm)) : va_W).length) (he_all _) (he_allnd _) 0 rfl rfl) rfl rfl hl.1 rfl (lv_room (Nat.le_of_ble_eq_true rfl)) dL_law_1225 ⟨(by show 1000 + 4 * i + 0 ≤ 601024; omega), (by show 100000 + 700 * i + 0 ≤ 7293034; omega)⟩) hP hD hS hA (List.range (([(x0, .inr (9, fx)), (m0, .inr (10, fm)), (aL g o0 1 fo)] ++ (Rc ++ Rm)) : va_W).length) [] (he_all _) rfl rfl (fun _ h9 => absurd h9 List.not_mem_nil) (fun r_1 u_2 H locs hu_3 hP hD hS => ?_)
  obtain ⟨hI9, hp1225⟩ := hu_3
  obtain ⟨fx_q_4, fm_q_4, Rc_q_4, Rm_q_4, rfl, hc, hm⟩ := hI9
  have hP : va_P g.1 vwCl ([(x0, .inr (9, fx_q_4)), (m0, .inr (10, fm_q_4)), (aL g o0 1 fo)] ++ (Rc_q_4 ++ Rm_q_4)) H := hP
  have hD : va_D (lw_A s) ([(x0, .inr (9, fx_q_4)), (m0, .inr (10, fm_q_4)), (aL g o0 1 fo)] ++ (Rc_q_4 ++ Rm_q_4)) := hD
  refine lv_pop hx hb dL_law_1228 rfl ?_
  refine lv_aload_n hx hb dL_law_1229 rfl (lv_at hl 2 rfl) ?_
  refine he_ci (wc := ([(x0, .inr (9, fx_q_4)), (m0, .inr (10, fm_q_4)), (aL g o0 1 fo)] ++ (Rc_q_4 ++ Rm_q_4))) (wr := []) (va_runV (As := []) (rest := []) ⟨hx, hb, hml, hown, hts⟩ (il_mI (j_most l g m0 S t _  hm) hc H.size) (cwV 0 hts gL_law_X11_most rfl rfl rfl (by decide +kernel) ⟨Nat.le_of_ble_eq_true rfl, Nat.le_of_ble_eq_true rfl⟩) (he_preV (wc := ([(x0, .inr (9, fx_q_4)), (m0, .inr (10, fm_q_4)), (aL g o0 1 fo)] ++ (Rc_q_4 ++ Rm_q_4))) hK hP hD hS hA hE (List.range (([(x0, .inr (9, fx_q_4)), (m0, .inr (10, fm_q_4)), (aL g o0 1 fo)] ++ (Rc_q_4 ++ Rm_q_4)) : va_W).length) (he_all _) (he_allnd _) 1 rfl rfl) rfl rfl hl.1 rfl (lv_room (Nat.le_of_ble_eq_true rfl)) dL_law_1230 ⟨(by show 1000 + 4 * i + 0 + 0 ≤ 601024; omega), (by show 100000 + 700 * i + 0 + 0 ≤ 7293034; omega)⟩) hP hD hS hA (List.range (([(x0, .inr (9, fx_q_4)), (m0, .inr (10, fm_q_4)), (aL g o0 1 fo)] ++ (Rc_q_4 ++ Rm_q_4)) : va_W).length) [] (he_all _) rfl rfl (fun _ h9 => absurd h9 List.not_mem_nil) (fun r_5 u_6 H locs hu_7 hP hD hS => ?_)
  obtain ⟨t_1230, hI9, ht1230, hm1230⟩ := hu_7
  obtain ⟨fx_q_8, fm_q_8, Rc_q_8, Rm_q_8, rfl, hc, hm⟩ := hI9
  have hP : va_P g.1 vwCl ([(x0, .inr (9, fx_q_8)), (m0, .inr (10, fm_q_8)), (aL g o0 1 fo)] ++ (Rc_q_8 ++ Rm_q_8)) H := hP
  have hD : va_D (lw_A s) ([(x0, .inr (9, fx_q_8)), (m0, .inr (10, fm_q_8)), (aL g o0 1 fo)] ++ (Rc_q_8 ++ Rm_q_8)) := hD
  refine lv_pop hx hb dL_law_1233 rfl ?_
  refine lv_goto (tgt := 1341) hx hb dL_law_1234 (by decide) ?_
  refine W.widen (k := 1000 + 4 * (i + 6)) (n := 100000 + 700 * (i + 6)) (by show 1000 + 4 * i + 0 + 0 ≤ 1000 + 4 * (i + 6); omega) (by show 100000 + 700 * i + 0 + 0 ≤ 100000 + 700 * (i + 6); omega) ?_
  exact kk ((sp_most S).2.2) t_1230 fo _ H locs ls (ok_most hOk) ⟨_, _, _, _, rfl, hc, hm⟩ hP hD hS (lv_sub hl [0, 1, 2, 3, 4] rfl)
set_option maxHeartbeats 8000000 in
set_option maxRecDepth 100000 in
theorem lc_serves {p : Program} {e : Env} {s : State} {m : MethodId} {below : List Frame} {meth : Method} {c : Code} {Q : State → Prop} (l : Launch) (hlt : l.stackTraces = false) (g : he_G) {b Ln : Nat} {xs : Nat → Int32} (C0 : lw_C p s m meth c b Ln xs g) (i : Nat) (hi : i + 6 ≤ Ln) (hL : Ln ≤ 3072) (x0 m0 o0 : Nat) (S : AbS) (t : Int32) (fo : Nat → Int64) (W9 : va_W) (hOk : okS S) (hI : IL g x0 m0 o0 S S t fo W9) {H : Heap} {locs : List Loc} {ls : Array Slot} (hP : va_P g.1 vwCl W9 H) (hD : va_D (lw_A s) W9) (hS : va_S (lw_A s) s.heap H locs) (hl : lv_has ls 8 [(0, .ref b), (1, .ref x0), (2, .ref m0), (3, .ref o0), (4, .int (nI i))]) (kk : ∀ (S2 : AbS) (t2 : Int32) (fo2 : Nat → Int64) (W2 : va_W) (H2 : Heap) (locs2 : List Loc) (ls2 : Array Slot), okS S2 → IL g x0 m0 o0 S2 S2 t2 fo2 W2 → va_P g.1 vwCl W2 H2 → va_D (lw_A s) W2 → va_S (lw_A s) s.heap H2 locs2 → lv_has ls2 8 [(0, .ref b), (1, .ref x0), (2, .ref m0), (3, .ref o0), (4, .int (nI i))] → W p l e room_1 s m #[Value.ref b] below meth c H2 locs2 (1000 + 4 * (i + 6)) (100000 + 700 * (i + 6)) Q (F0 m 1341 ls2 [])) : W p l e room_1 s m #[Value.ref b] below meth c H locs (1000 + 4 * i) (100000 + 700 * i) Q (F0 m 1237 ls []) := by
  obtain ⟨hx, hb, hr, hml, hown, hts, hX, hbl, hlk, hK, hE, hA, hbA, hNc⟩ := C0
  obtain ⟨fx, fm, Rc, Rm, rfl, hc, hm⟩ := hI
  refine lv_aload_n hx hb dL_law_1237 rfl (lv_at hl 1 rfl) ?_
  refine lv_aload_n hx hb dL_law_1238 rfl (lv_at hl 0 rfl) ?_
  refine lv_iload hx hb dL_law_1239 (lv_at hl 4 rfl) ?_
  refine lv_iconst (v := 1) hx hb dL_law_1241 (by decide) ?_
  refine lv_iadd hx hb dL_law_1242 ?_
  refine he_top (nI (i + 1)) (nI_add i 1) ?_
  refine he_sld hx hb hX hbl hbA hS (i + 1) rfl (by omega) (by omega) (xs (i + 1)) rfl dL_law_1243 ?_
  refine lv_aload_n hx hb dL_law_1244 rfl (lv_at hl 3 rfl) ?_
  refine he_ci (wc := ([(x0, .inr (9, fx)), (m0, .inr (10, fm)), (aL g o0 1 fo)] ++ (Rc ++ Rm))) (wr := []) (vx_runSW (As := [.ref x0, .int (xs (i + 1)), .ref o0]) (rest := []) ⟨hx, hb, hml, hown, hts⟩ (w_serves l hlt g x0 m0 o0 S S t fo _ (xs (i + 1)) (im_O hm) ⟨_, _, _, _, rfl, hc, hm⟩ H.size) (vx_cwSW 3 hts gL_law_L_serves rfl rfl rfl (by decide +kernel) ⟨Nat.le_of_ble_eq_true rfl, Nat.le_of_ble_eq_true rfl⟩) (he_preS (wc := ([(x0, .inr (9, fx)), (m0, .inr (10, fm)), (aL g o0 1 fo)] ++ (Rc ++ Rm))) hK hP hD hS hA hE (List.range (([(x0, .inr (9, fx)), (m0, .inr (10, fm)), (aL g o0 1 fo)] ++ (Rc ++ Rm)) : va_W).length) (he_all _) (he_allnd _)) rfl rfl hl.1 rfl (lv_room (Nat.le_of_ble_eq_true rfl)) dL_law_1245 ⟨(by show 1000 + 4 * i + 1 ≤ 601024; omega), (by show 100000 + 700 * i + 6 ≤ 7293034; omega)⟩) hP hD hS hA (List.range (([(x0, .inr (9, fx)), (m0, .inr (10, fm)), (aL g o0 1 fo)] ++ (Rc ++ Rm)) : va_W).length) [] (he_all _) rfl rfl (fun _ h9 => absurd h9 List.not_mem_nil) (fun r_1 u_2 H locs hu_3 hP hD hS => ?_)
  obtain ⟨fo_1245, hI9, hr1245, ho1245⟩ := hu_3
  obtain ⟨fx_q_4, fm_q_4, Rc_q_4, Rm_q_4, rfl, hc, hm⟩ := hI9
  have hP : va_P g.1 vwCl ([(x0, .inr (9, fx_q_4)), (m0, .inr (10, fm_q_4)), (aL g o0 1 fo_1245)] ++ (Rc_q_4 ++ Rm_q_4)) H := hP
  have hD : va_D (lw_A s) ([(x0, .inr (9, fx_q_4)), (m0, .inr (10, fm_q_4)), (aL g o0 1 fo_1245)] ++ (Rc_q_4 ++ Rm_q_4)) := hD
  refine lv_istore (lv' := [(5, .int r_1), (0, .ref b), (1, .ref x0), (2, .ref m0), (3, .ref o0), (4, .int (nI i))]) hx hb dL_law_1248 hl (by decide) rfl (fun ls hl => ?_)
  refine lv_aload_n hx hb dL_law_1250 rfl (lv_at hl 3 rfl) ?_
  refine lv_aload_n hx hb dL_law_1251 rfl (lv_at hl 1 rfl) ?_
  refine lv_iload hx hb dL_law_1252 (lv_at hl 5 rfl) ?_
  refine lv_iconst (v := 1) hx hb dL_law_1254 (by decide) ?_
  refine lv_iadd hx hb dL_law_1255 ?_
  refine he_top (nI (i + 1)) (nI_add i 1) ?_
  refine he_sld hx hb hX hbl hbA hS (i + 1) rfl (by omega) (by omega) (xs (i + 1)) rfl dL_law_1256 ?_
  refine he_ci (wc := ([(x0, .inr (9, fx_q_4)), (m0, .inr (10, fm_q_4)), (aL g o0 1 fo_1245)] ++ (Rc_q_4 ++ Rm_q_4))) (wr := []) (va_runV (As := [.int (xs (i + 1))]) (rest := []) ⟨hx, hb, hml, hown, hts⟩ (il_mI (j_serves l g m0 S t _ (xs (i + 1)) hm) hc H.size) (cwV 1 hts gL_law_X11_serves rfl rfl rfl (by decide +kernel) ⟨Nat.le_of_ble_eq_true rfl, Nat.le_of_ble_eq_true rfl⟩) (he_preV (wc := ([(x0, .inr (9, fx_q_4)), (m0, .inr (10, fm_q_4)), (aL g o0 1 fo_1245)] ++ (Rc_q_4 ++ Rm_q_4))) hK hP hD hS hA hE (List.range (([(x0, .inr (9, fx_q_4)), (m0, .inr (10, fm_q_4)), (aL g o0 1 fo_1245)] ++ (Rc_q_4 ++ Rm_q_4)) : va_W).length) (he_all _) (he_allnd _) 1 rfl rfl) rfl rfl hl.1 rfl (lv_room (Nat.le_of_ble_eq_true rfl)) dL_law_1257 ⟨(by show 1000 + 4 * i + 1 + 0 ≤ 601024; omega), (by show 100000 + 700 * i + 6 + 0 ≤ 7293034; omega)⟩) hP hD hS hA (List.range (([(x0, .inr (9, fx_q_4)), (m0, .inr (10, fm_q_4)), (aL g o0 1 fo_1245)] ++ (Rc_q_4 ++ Rm_q_4)) : va_W).length) [] (he_all _) rfl rfl (fun _ h9 => absurd h9 List.not_mem_nil) (fun r_5 u_6 H locs hu_7 hP hD hS => ?_)
  obtain ⟨t_1257, hI9, ht1257, hm1257⟩ := hu_7
  obtain ⟨fx_q_8, fm_q_8, Rc_q_8, Rm_q_8, rfl, hc, hm⟩ := hI9
  have hP : va_P g.1 vwCl ([(x0, .inr (9, fx_q_8)), (m0, .inr (10, fm_q_8)), (aL g o0 1 fo_1245)] ++ (Rc_q_8 ++ Rm_q_8)) H := hP
  have hD : va_D (lw_A s) ([(x0, .inr (9, fx_q_8)), (m0, .inr (10, fm_q_8)), (aL g o0 1 fo_1245)] ++ (Rc_q_8 ++ Rm_q_8)) := hD
  refine lv_istore (lv' := [(6, .int r_5), (5, .int r_1), (0, .ref b), (1, .ref x0), (2, .ref m0), (3, .ref o0), (4, .int (nI i))]) hx hb dL_law_1260 hl (by decide) rfl (fun ls hl => ?_)
  refine lv_goto (tgt := 1341) hx hb dL_law_1262 (by decide) ?_
  refine W.widen (k := 1000 + 4 * (i + 6)) (n := 100000 + 700 * (i + 6)) (by show 1000 + 4 * i + 1 + 0 ≤ 1000 + 4 * (i + 6); omega) (by show 100000 + 700 * i + 6 + 0 ≤ 100000 + 700 * (i + 6); omega) ?_
  exact kk ((sp_serves S (xs (i + 1))).2.2) t_1257 fo_1245 _ H locs ls (ok_serves _ hOk) ⟨_, _, _, _, rfl, hc, hm⟩ hP hD hS (lv_sub hl [2, 3, 4, 5, 6] rfl)
end
section
set_option maxHeartbeats 8000000 in
set_option maxRecDepth 100000 in
theorem lc_image {p : Program} {e : Env} {s : State} {m : MethodId} {below : List Frame} {meth : Method} {c : Code} {Q : State → Prop} (l : Launch) (hlt : l.stackTraces = false) (g : he_G) {b Ln : Nat} {xs : Nat → Int32} (C0 : lw_C p s m meth c b Ln xs g) (i : Nat) (hi : i + 6 ≤ Ln) (hL : Ln ≤ 3072) (x0 m0 o0 : Nat) (S : AbS) (t : Int32) (fo : Nat → Int64) (W9 : va_W) (hOk : okS S) (hI : IL g x0 m0 o0 S S t fo W9) {H : Heap} {locs : List Loc} {ls : Array Slot} (hP : va_P g.1 vwCl W9 H) (hD : va_D (lw_A s) W9) (hS : va_S (lw_A s) s.heap H locs) (hl : lv_has ls 8 [(0, .ref b), (1, .ref x0), (2, .ref m0), (3, .ref o0), (4, .int (nI i))]) (kk : ∀ (S2 : AbS) (t2 : Int32) (fo2 : Nat → Int64) (W2 : va_W) (H2 : Heap) (locs2 : List Loc) (ls2 : Array Slot), okS S2 → IL g x0 m0 o0 S2 S2 t2 fo2 W2 → va_P g.1 vwCl W2 H2 → va_D (lw_A s) W2 → va_S (lw_A s) s.heap H2 locs2 → lv_has ls2 8 [(0, .ref b), (1, .ref x0), (2, .ref m0), (3, .ref o0), (4, .int (nI i))] → W p l e room_1 s m #[Value.ref b] below meth c H2 locs2 (1000 + 4 * (i + 6)) (100000 + 700 * (i + 6)) Q (F0 m 1341 ls2 [])) : W p l e room_1 s m #[Value.ref b] below meth c H locs (1000 + 4 * i) (100000 + 700 * i) Q (F0 m 1265 ls []) := by
  obtain ⟨hx, hb, hr, hml, hown, hts, hX, hbl, hlk, hK, hE, hA, hbA, hNc⟩ := C0
  obtain ⟨fx, fm, Rc, Rm, rfl, hc, hm⟩ := hI
  refine lv_aload_n hx hb dL_law_1265 rfl (lv_at hl 1 rfl) ?_
  refine he_ci (wc := ([(x0, .inr (9, fx)), (m0, .inr (10, fm)), (aL g o0 1 fo)] ++ (Rc ++ Rm))) (wr := []) (va_runV (As := []) (rest := []) ⟨hx, hb, hml, hown, hts⟩ (il_cI (k_image l hlt g x0 S _  hc) hm H.size) (cwV 0 hts gL_law_X10_image rfl rfl rfl (by decide +kernel) ⟨Nat.le_of_ble_eq_true rfl, Nat.le_of_ble_eq_true rfl⟩) (he_preV (wc := ([(x0, .inr (9, fx)), (m0, .inr (10, fm)), (aL g o0 1 fo)] ++ (Rc ++ Rm))) hK hP hD hS hA hE (List.range (([(x0, .inr (9, fx)), (m0, .inr (10, fm)), (aL g o0 1 fo)] ++ (Rc ++ Rm)) : va_W).length) (he_all _) (he_allnd _) 0 rfl rfl) rfl rfl hl.1 rfl (lv_room (Nat.le_of_ble_eq_true rfl)) dL_law_1266 ⟨(by show 1000 + 4 * i + 12 ≤ 601024; omega), (by show 100000 + 700 * i + 3730 ≤ 7293034; omega)⟩) hP hD hS hA (List.range (([(x0, .inr (9, fx)), (m0, .inr (10, fm)), (aL g o0 1 fo)] ++ (Rc ++ Rm)) : va_W).length) [] (he_all _) rfl rfl (fun _ h9 => absurd h9 List.not_mem_nil) (fun r_1 u_2 H locs hu_3 hP hD hS => ?_)
  obtain ⟨hI9, hp1266⟩ := hu_3
  obtain ⟨fx_q_4, fm_q_4, Rc_q_4, Rm_q_4, rfl, hc, hm⟩ := hI9
  have hP : va_P g.1 vwCl ([(x0, .inr (9, fx_q_4)), (m0, .inr (10, fm_q_4)), (aL g o0 1 fo)] ++ (Rc_q_4 ++ Rm_q_4)) H := hP
  have hD : va_D (lw_A s) ([(x0, .inr (9, fx_q_4)), (m0, .inr (10, fm_q_4)), (aL g o0 1 fo)] ++ (Rc_q_4 ++ Rm_q_4)) := hD
  refine lv_pop hx hb dL_law_1269 rfl ?_
  refine lv_aload_n hx hb dL_law_1270 rfl (lv_at hl 2 rfl) ?_
  refine he_ci (wc := ([(x0, .inr (9, fx_q_4)), (m0, .inr (10, fm_q_4)), (aL g o0 1 fo)] ++ (Rc_q_4 ++ Rm_q_4))) (wr := []) (va_runV (As := []) (rest := []) ⟨hx, hb, hml, hown, hts⟩ (il_mI (j_image l g m0 S t _  hm) hc H.size) (cwV 0 hts gL_law_X11_image rfl rfl rfl (by decide +kernel) ⟨Nat.le_of_ble_eq_true rfl, Nat.le_of_ble_eq_true rfl⟩) (he_preV (wc := ([(x0, .inr (9, fx_q_4)), (m0, .inr (10, fm_q_4)), (aL g o0 1 fo)] ++ (Rc_q_4 ++ Rm_q_4))) hK hP hD hS hA hE (List.range (([(x0, .inr (9, fx_q_4)), (m0, .inr (10, fm_q_4)), (aL g o0 1 fo)] ++ (Rc_q_4 ++ Rm_q_4)) : va_W).length) (he_all _) (he_allnd _) 1 rfl rfl) rfl rfl hl.1 rfl (lv_room (Nat.le_of_ble_eq_true rfl)) dL_law_1271 ⟨(by show 1000 + 4 * i + 12 + 0 ≤ 601024; omega), (by show 100000 + 700 * i + 3730 + 0 ≤ 7293034; omega)⟩) hP hD hS hA (List.range (([(x0, .inr (9, fx_q_4)), (m0, .inr (10, fm_q_4)), (aL g o0 1 fo)] ++ (Rc_q_4 ++ Rm_q_4)) : va_W).length) [] (he_all _) rfl rfl (fun _ h9 => absurd h9 List.not_mem_nil) (fun r_5 u_6 H locs hu_7 hP hD hS => ?_)
  obtain ⟨t_1271, hI9, ht1271, hm1271⟩ := hu_7
  obtain ⟨fx_q_8, fm_q_8, Rc_q_8, Rm_q_8, rfl, hc, hm⟩ := hI9
  have hP : va_P g.1 vwCl ([(x0, .inr (9, fx_q_8)), (m0, .inr (10, fm_q_8)), (aL g o0 1 fo)] ++ (Rc_q_8 ++ Rm_q_8)) H := hP
  have hD : va_D (lw_A s) ([(x0, .inr (9, fx_q_8)), (m0, .inr (10, fm_q_8)), (aL g o0 1 fo)] ++ (Rc_q_8 ++ Rm_q_8)) := hD
  refine lv_pop hx hb dL_law_1274 rfl ?_
  refine lv_goto (tgt := 1341) hx hb dL_law_1275 (by decide) ?_
  refine W.widen (k := 1000 + 4 * (i + 6)) (n := 100000 + 700 * (i + 6)) (by show 1000 + 4 * i + 12 + 0 ≤ 1000 + 4 * (i + 6); omega) (by show 100000 + 700 * i + 3730 + 0 ≤ 100000 + 700 * (i + 6); omega) ?_
  exact kk ((sp_image S).2.2) t_1271 fo _ H locs ls (ok_image hOk) ⟨_, _, _, _, rfl, hc, hm⟩ hP hD hS (lv_sub hl [0, 1, 2, 3, 4] rfl)
set_option maxHeartbeats 8000000 in
set_option maxRecDepth 100000 in
theorem lc_restore {p : Program} {e : Env} {s : State} {m : MethodId} {below : List Frame} {meth : Method} {c : Code} {Q : State → Prop} (l : Launch) (hlt : l.stackTraces = false) (g : he_G) {b Ln : Nat} {xs : Nat → Int32} (C0 : lw_C p s m meth c b Ln xs g) (i : Nat) (hi : i + 6 ≤ Ln) (hL : Ln ≤ 3072) (x0 m0 o0 : Nat) (S : AbS) (t : Int32) (fo : Nat → Int64) (W9 : va_W) (hOk : okS S) (hI : IL g x0 m0 o0 S S t fo W9) {H : Heap} {locs : List Loc} {ls : Array Slot} (hP : va_P g.1 vwCl W9 H) (hD : va_D (lw_A s) W9) (hS : va_S (lw_A s) s.heap H locs) (hl : lv_has ls 8 [(0, .ref b), (1, .ref x0), (2, .ref m0), (3, .ref o0), (4, .int (nI i))]) (kk : ∀ (S2 : AbS) (t2 : Int32) (fo2 : Nat → Int64) (W2 : va_W) (H2 : Heap) (locs2 : List Loc) (ls2 : Array Slot), okS S2 → IL g x0 m0 o0 S2 S2 t2 fo2 W2 → va_P g.1 vwCl W2 H2 → va_D (lw_A s) W2 → va_S (lw_A s) s.heap H2 locs2 → lv_has ls2 8 [(0, .ref b), (1, .ref x0), (2, .ref m0), (3, .ref o0), (4, .int (nI i))] → W p l e room_1 s m #[Value.ref b] below meth c H2 locs2 (1000 + 4 * (i + 6)) (100000 + 700 * (i + 6)) Q (F0 m 1341 ls2 [])) : W p l e room_1 s m #[Value.ref b] below meth c H locs (1000 + 4 * i) (100000 + 700 * i) Q (F0 m 1278 ls []) := by
  obtain ⟨hx, hb, hr, hml, hown, hts, hX, hbl, hlk, hK, hE, hA, hbA, hNc⟩ := C0
  obtain ⟨fx, fm, Rc, Rm, rfl, hc, hm⟩ := hI
  refine lv_aload_n hx hb dL_law_1278 rfl (lv_at hl 1 rfl) ?_
  refine he_ci (wc := ([(x0, .inr (9, fx)), (m0, .inr (10, fm)), (aL g o0 1 fo)] ++ (Rc ++ Rm))) (wr := []) (va_runV (As := []) (rest := []) ⟨hx, hb, hml, hown, hts⟩ (il_cI (k_restore l hlt g x0 S _  hc) hm H.size) (cwV 0 hts gL_law_X10_restore rfl rfl rfl (by decide +kernel) ⟨Nat.le_of_ble_eq_true rfl, Nat.le_of_ble_eq_true rfl⟩) (he_preV (wc := ([(x0, .inr (9, fx)), (m0, .inr (10, fm)), (aL g o0 1 fo)] ++ (Rc ++ Rm))) hK hP hD hS hA hE (List.range (([(x0, .inr (9, fx)), (m0, .inr (10, fm)), (aL g o0 1 fo)] ++ (Rc ++ Rm)) : va_W).length) (he_all _) (he_allnd _) 0 rfl rfl) rfl rfl hl.1 rfl (lv_room (Nat.le_of_ble_eq_true rfl)) dL_law_1279 ⟨(by show 1000 + 4 * i + 0 ≤ 601024; omega), (by show 100000 + 700 * i + 0 ≤ 7293034; omega)⟩) hP hD hS hA (List.range (([(x0, .inr (9, fx)), (m0, .inr (10, fm)), (aL g o0 1 fo)] ++ (Rc ++ Rm)) : va_W).length) [] (he_all _) rfl rfl (fun _ h9 => absurd h9 List.not_mem_nil) (fun r_1 u_2 H locs hu_3 hP hD hS => ?_)
  obtain ⟨hI9, hp1279⟩ := hu_3
  obtain ⟨fx_q_4, fm_q_4, Rc_q_4, Rm_q_4, rfl, hc, hm⟩ := hI9
  have hP : va_P g.1 vwCl ([(x0, .inr (9, fx_q_4)), (m0, .inr (10, fm_q_4)), (aL g o0 1 fo)] ++ (Rc_q_4 ++ Rm_q_4)) H := hP
  have hD : va_D (lw_A s) ([(x0, .inr (9, fx_q_4)), (m0, .inr (10, fm_q_4)), (aL g o0 1 fo)] ++ (Rc_q_4 ++ Rm_q_4)) := hD
  refine lv_pop hx hb dL_law_1282 rfl ?_
  refine lv_aload_n hx hb dL_law_1283 rfl (lv_at hl 2 rfl) ?_
  refine he_ci (wc := ([(x0, .inr (9, fx_q_4)), (m0, .inr (10, fm_q_4)), (aL g o0 1 fo)] ++ (Rc_q_4 ++ Rm_q_4))) (wr := []) (va_runV (As := []) (rest := []) ⟨hx, hb, hml, hown, hts⟩ (il_mI (j_restore l g m0 S t _  hm) hc H.size) (cwV 0 hts gL_law_X11_restore rfl rfl rfl (by decide +kernel) ⟨Nat.le_of_ble_eq_true rfl, Nat.le_of_ble_eq_true rfl⟩) (he_preV (wc := ([(x0, .inr (9, fx_q_4)), (m0, .inr (10, fm_q_4)), (aL g o0 1 fo)] ++ (Rc_q_4 ++ Rm_q_4))) hK hP hD hS hA hE (List.range (([(x0, .inr (9, fx_q_4)), (m0, .inr (10, fm_q_4)), (aL g o0 1 fo)] ++ (Rc_q_4 ++ Rm_q_4)) : va_W).length) (he_all _) (he_allnd _) 1 rfl rfl) rfl rfl hl.1 rfl (lv_room (Nat.le_of_ble_eq_true rfl)) dL_law_1284 ⟨(by show 1000 + 4 * i + 0 + 0 ≤ 601024; omega), (by show 100000 + 700 * i + 0 + 0 ≤ 7293034; omega)⟩) hP hD hS hA (List.range (([(x0, .inr (9, fx_q_4)), (m0, .inr (10, fm_q_4)), (aL g o0 1 fo)] ++ (Rc_q_4 ++ Rm_q_4)) : va_W).length) [] (he_all _) rfl rfl (fun _ h9 => absurd h9 List.not_mem_nil) (fun r_5 u_6 H locs hu_7 hP hD hS => ?_)
  obtain ⟨t_1284, hI9, ht1284, hm1284⟩ := hu_7
  obtain ⟨fx_q_8, fm_q_8, Rc_q_8, Rm_q_8, rfl, hc, hm⟩ := hI9
  have hP : va_P g.1 vwCl ([(x0, .inr (9, fx_q_8)), (m0, .inr (10, fm_q_8)), (aL g o0 1 fo)] ++ (Rc_q_8 ++ Rm_q_8)) H := hP
  have hD : va_D (lw_A s) ([(x0, .inr (9, fx_q_8)), (m0, .inr (10, fm_q_8)), (aL g o0 1 fo)] ++ (Rc_q_8 ++ Rm_q_8)) := hD
  refine lv_pop hx hb dL_law_1287 rfl ?_
  refine lv_goto (tgt := 1341) hx hb dL_law_1288 (by decide) ?_
  refine W.widen (k := 1000 + 4 * (i + 6)) (n := 100000 + 700 * (i + 6)) (by show 1000 + 4 * i + 0 + 0 ≤ 1000 + 4 * (i + 6); omega) (by show 100000 + 700 * i + 0 + 0 ≤ 100000 + 700 * (i + 6); omega) ?_
  exact kk ((sp_restore S).2.2) t_1284 fo _ H locs ls (ok_restore hOk) ⟨_, _, _, _, rfl, hc, hm⟩ hP hD hS (lv_sub hl [0, 1, 2, 3, 4] rfl)
set_option maxHeartbeats 8000000 in
set_option maxRecDepth 100000 in
theorem lc_status {p : Program} {e : Env} {s : State} {m : MethodId} {below : List Frame} {meth : Method} {c : Code} {Q : State → Prop} (l : Launch) (hlt : l.stackTraces = false) (g : he_G) {b Ln : Nat} {xs : Nat → Int32} (C0 : lw_C p s m meth c b Ln xs g) (i : Nat) (hi : i + 6 ≤ Ln) (hL : Ln ≤ 3072) (x0 m0 o0 : Nat) (S : AbS) (t : Int32) (fo : Nat → Int64) (W9 : va_W) (hOk : okS S) (hI : IL g x0 m0 o0 S S t fo W9) {H : Heap} {locs : List Loc} {ls : Array Slot} (hP : va_P g.1 vwCl W9 H) (hD : va_D (lw_A s) W9) (hS : va_S (lw_A s) s.heap H locs) (hl : lv_has ls 8 [(0, .ref b), (1, .ref x0), (2, .ref m0), (3, .ref o0), (4, .int (nI i))]) (kk : ∀ (S2 : AbS) (t2 : Int32) (fo2 : Nat → Int64) (W2 : va_W) (H2 : Heap) (locs2 : List Loc) (ls2 : Array Slot), okS S2 → IL g x0 m0 o0 S2 S2 t2 fo2 W2 → va_P g.1 vwCl W2 H2 → va_D (lw_A s) W2 → va_S (lw_A s) s.heap H2 locs2 → lv_has ls2 8 [(0, .ref b), (1, .ref x0), (2, .ref m0), (3, .ref o0), (4, .int (nI i))] → W p l e room_1 s m #[Value.ref b] below meth c H2 locs2 (1000 + 4 * (i + 6)) (100000 + 700 * (i + 6)) Q (F0 m 1341 ls2 [])) : W p l e room_1 s m #[Value.ref b] below meth c H locs (1000 + 4 * i) (100000 + 700 * i) Q (F0 m 1291 ls []) := by
  obtain ⟨hx, hb, hr, hml, hown, hts, hX, hbl, hlk, hK, hE, hA, hbA, hNc⟩ := C0
  obtain ⟨fx, fm, Rc, Rm, rfl, hc, hm⟩ := hI
  refine lv_aload_n hx hb dL_law_1291 rfl (lv_at hl 1 rfl) ?_
  refine lv_aload_n hx hb dL_law_1292 rfl (lv_at hl 0 rfl) ?_
  refine lv_iload hx hb dL_law_1293 (lv_at hl 4 rfl) ?_
  refine lv_iconst (v := 1) hx hb dL_law_1295 (by decide) ?_
  refine lv_iadd hx hb dL_law_1296 ?_
  refine he_top (nI (i + 1)) (nI_add i 1) ?_
  refine he_sld hx hb hX hbl hbA hS (i + 1) rfl (by omega) (by omega) (xs (i + 1)) rfl dL_law_1297 ?_
  refine he_ci (wc := ([(x0, .inr (9, fx)), (m0, .inr (10, fm)), (aL g o0 1 fo)] ++ (Rc ++ Rm))) (wr := []) (va_runV (As := [.int (xs (i + 1))]) (rest := []) ⟨hx, hb, hml, hown, hts⟩ (il_cI (k_status l hlt g x0 S _ (xs (i + 1)) hc) hm H.size) (cwV 1 hts gL_law_X10_status rfl rfl rfl (by decide +kernel) ⟨Nat.le_of_ble_eq_true rfl, Nat.le_of_ble_eq_true rfl⟩) (he_preV (wc := ([(x0, .inr (9, fx)), (m0, .inr (10, fm)), (aL g o0 1 fo)] ++ (Rc ++ Rm))) hK hP hD hS hA hE (List.range (([(x0, .inr (9, fx)), (m0, .inr (10, fm)), (aL g o0 1 fo)] ++ (Rc ++ Rm)) : va_W).length) (he_all _) (he_allnd _) 0 rfl rfl) rfl rfl hl.1 rfl (lv_room (Nat.le_of_ble_eq_true rfl)) dL_law_1298 ⟨(by show 1000 + 4 * i + 0 ≤ 601024; omega), (by show 100000 + 700 * i + 0 ≤ 7293034; omega)⟩) hP hD hS hA (List.range (([(x0, .inr (9, fx)), (m0, .inr (10, fm)), (aL g o0 1 fo)] ++ (Rc ++ Rm)) : va_W).length) [] (he_all _) rfl rfl (fun _ h9 => absurd h9 List.not_mem_nil) (fun r_1 u_2 H locs hu_3 hP hD hS => ?_)
  obtain ⟨hI9, hp1298⟩ := hu_3
  obtain ⟨fx_q_4, fm_q_4, Rc_q_4, Rm_q_4, rfl, hc, hm⟩ := hI9
  have hP : va_P g.1 vwCl ([(x0, .inr (9, fx_q_4)), (m0, .inr (10, fm_q_4)), (aL g o0 1 fo)] ++ (Rc_q_4 ++ Rm_q_4)) H := hP
  have hD : va_D (lw_A s) ([(x0, .inr (9, fx_q_4)), (m0, .inr (10, fm_q_4)), (aL g o0 1 fo)] ++ (Rc_q_4 ++ Rm_q_4)) := hD
  refine lv_pop hx hb dL_law_1301 rfl ?_
  refine lv_aload_n hx hb dL_law_1302 rfl (lv_at hl 2 rfl) ?_
  refine lv_aload_n hx hb dL_law_1303 rfl (lv_at hl 0 rfl) ?_
  refine lv_iload hx hb dL_law_1304 (lv_at hl 4 rfl) ?_
  refine lv_iconst (v := 1) hx hb dL_law_1306 (by decide) ?_
  refine lv_iadd hx hb dL_law_1307 ?_
  refine he_top (nI (i + 1)) (nI_add i 1) ?_
  refine he_sld hx hb hX hbl hbA hS (i + 1) rfl (by omega) (by omega) (xs (i + 1)) rfl dL_law_1308 ?_
  refine he_ci (wc := ([(x0, .inr (9, fx_q_4)), (m0, .inr (10, fm_q_4)), (aL g o0 1 fo)] ++ (Rc_q_4 ++ Rm_q_4))) (wr := []) (va_runV (As := [.int (xs (i + 1))]) (rest := []) ⟨hx, hb, hml, hown, hts⟩ (il_mI (j_status l g m0 S t _ (xs (i + 1)) hm) hc H.size) (cwV 1 hts gL_law_X11_status rfl rfl rfl (by decide +kernel) ⟨Nat.le_of_ble_eq_true rfl, Nat.le_of_ble_eq_true rfl⟩) (he_preV (wc := ([(x0, .inr (9, fx_q_4)), (m0, .inr (10, fm_q_4)), (aL g o0 1 fo)] ++ (Rc_q_4 ++ Rm_q_4))) hK hP hD hS hA hE (List.range (([(x0, .inr (9, fx_q_4)), (m0, .inr (10, fm_q_4)), (aL g o0 1 fo)] ++ (Rc_q_4 ++ Rm_q_4)) : va_W).length) (he_all _) (he_allnd _) 1 rfl rfl) rfl rfl hl.1 rfl (lv_room (Nat.le_of_ble_eq_true rfl)) dL_law_1309 ⟨(by show 1000 + 4 * i + 0 + 0 ≤ 601024; omega), (by show 100000 + 700 * i + 0 + 0 ≤ 7293034; omega)⟩) hP hD hS hA (List.range (([(x0, .inr (9, fx_q_4)), (m0, .inr (10, fm_q_4)), (aL g o0 1 fo)] ++ (Rc_q_4 ++ Rm_q_4)) : va_W).length) [] (he_all _) rfl rfl (fun _ h9 => absurd h9 List.not_mem_nil) (fun r_5 u_6 H locs hu_7 hP hD hS => ?_)
  obtain ⟨t_1309, hI9, ht1309, hm1309⟩ := hu_7
  obtain ⟨fx_q_8, fm_q_8, Rc_q_8, Rm_q_8, rfl, hc, hm⟩ := hI9
  have hP : va_P g.1 vwCl ([(x0, .inr (9, fx_q_8)), (m0, .inr (10, fm_q_8)), (aL g o0 1 fo)] ++ (Rc_q_8 ++ Rm_q_8)) H := hP
  have hD : va_D (lw_A s) ([(x0, .inr (9, fx_q_8)), (m0, .inr (10, fm_q_8)), (aL g o0 1 fo)] ++ (Rc_q_8 ++ Rm_q_8)) := hD
  refine lv_pop hx hb dL_law_1312 rfl ?_
  refine lv_goto (tgt := 1341) hx hb dL_law_1313 (by decide) ?_
  refine W.widen (k := 1000 + 4 * (i + 6)) (n := 100000 + 700 * (i + 6)) (by show 1000 + 4 * i + 0 + 0 ≤ 1000 + 4 * (i + 6); omega) (by show 100000 + 700 * i + 0 + 0 ≤ 100000 + 700 * (i + 6); omega) ?_
  exact kk ((sp_status S (xs (i + 1))).2.2) t_1309 fo _ H locs ls (ok_status _ hOk) ⟨_, _, _, _, rfl, hc, hm⟩ hP hD hS (lv_sub hl [0, 1, 2, 3, 4] rfl)
set_option maxHeartbeats 8000000 in
set_option maxRecDepth 100000 in
theorem lc_count {p : Program} {e : Env} {s : State} {m : MethodId} {below : List Frame} {meth : Method} {c : Code} {Q : State → Prop} (l : Launch) (hlt : l.stackTraces = false) (g : he_G) {b Ln : Nat} {xs : Nat → Int32} (C0 : lw_C p s m meth c b Ln xs g) (i : Nat) (hi : i + 6 ≤ Ln) (hL : Ln ≤ 3072) (x0 m0 o0 : Nat) (S : AbS) (t : Int32) (fo : Nat → Int64) (W9 : va_W) (hOk : okS S) (hI : IL g x0 m0 o0 S S t fo W9) {H : Heap} {locs : List Loc} {ls : Array Slot} (hP : va_P g.1 vwCl W9 H) (hD : va_D (lw_A s) W9) (hS : va_S (lw_A s) s.heap H locs) (hl : lv_has ls 8 [(0, .ref b), (1, .ref x0), (2, .ref m0), (3, .ref o0), (4, .int (nI i))]) (kk : ∀ (S2 : AbS) (t2 : Int32) (fo2 : Nat → Int64) (W2 : va_W) (H2 : Heap) (locs2 : List Loc) (ls2 : Array Slot), okS S2 → IL g x0 m0 o0 S2 S2 t2 fo2 W2 → va_P g.1 vwCl W2 H2 → va_D (lw_A s) W2 → va_S (lw_A s) s.heap H2 locs2 → lv_has ls2 8 [(0, .ref b), (1, .ref x0), (2, .ref m0), (3, .ref o0), (4, .int (nI i))] → W p l e room_1 s m #[Value.ref b] below meth c H2 locs2 (1000 + 4 * (i + 6)) (100000 + 700 * (i + 6)) Q (F0 m 1341 ls2 [])) : W p l e room_1 s m #[Value.ref b] below meth c H locs (1000 + 4 * i) (100000 + 700 * i) Q (F0 m 1316 ls []) := by
  obtain ⟨hx, hb, hr, hml, hown, hts, hX, hbl, hlk, hK, hE, hA, hbA, hNc⟩ := C0
  obtain ⟨fx, fm, Rc, Rm, rfl, hc, hm⟩ := hI
  refine lv_aload_n hx hb dL_law_1316 rfl (lv_at hl 1 rfl) ?_
  refine lv_aload_n hx hb dL_law_1317 rfl (lv_at hl 0 rfl) ?_
  refine lv_iload hx hb dL_law_1318 (lv_at hl 4 rfl) ?_
  refine lv_iconst (v := 1) hx hb dL_law_1320 (by decide) ?_
  refine lv_iadd hx hb dL_law_1321 ?_
  refine he_top (nI (i + 1)) (nI_add i 1) ?_
  refine he_sld hx hb hX hbl hbA hS (i + 1) rfl (by omega) (by omega) (xs (i + 1)) rfl dL_law_1322 ?_
  refine he_ci (wc := ([(x0, .inr (9, fx)), (m0, .inr (10, fm)), (aL g o0 1 fo)] ++ (Rc ++ Rm))) (wr := []) (va_runV (As := [.int (xs (i + 1))]) (rest := []) ⟨hx, hb, hml, hown, hts⟩ (il_cI (k_count l hlt g x0 S _ (xs (i + 1)) hc) hm H.size) (cwV 1 hts gL_law_X10_count rfl rfl rfl (by decide +kernel) ⟨Nat.le_of_ble_eq_true rfl, Nat.le_of_ble_eq_true rfl⟩) (he_preV (wc := ([(x0, .inr (9, fx)), (m0, .inr (10, fm)), (aL g o0 1 fo)] ++ (Rc ++ Rm))) hK hP hD hS hA hE (List.range (([(x0, .inr (9, fx)), (m0, .inr (10, fm)), (aL g o0 1 fo)] ++ (Rc ++ Rm)) : va_W).length) (he_all _) (he_allnd _) 0 rfl rfl) rfl rfl hl.1 rfl (lv_room (Nat.le_of_ble_eq_true rfl)) dL_law_1323 ⟨(by show 1000 + 4 * i + 0 ≤ 601024; omega), (by show 100000 + 700 * i + 0 ≤ 7293034; omega)⟩) hP hD hS hA (List.range (([(x0, .inr (9, fx)), (m0, .inr (10, fm)), (aL g o0 1 fo)] ++ (Rc ++ Rm)) : va_W).length) [] (he_all _) rfl rfl (fun _ h9 => absurd h9 List.not_mem_nil) (fun r_1 u_2 H locs hu_3 hP hD hS => ?_)
  obtain ⟨hI9, hp1323⟩ := hu_3
  obtain ⟨fx_q_4, fm_q_4, Rc_q_4, Rm_q_4, rfl, hc, hm⟩ := hI9
  have hP : va_P g.1 vwCl ([(x0, .inr (9, fx_q_4)), (m0, .inr (10, fm_q_4)), (aL g o0 1 fo)] ++ (Rc_q_4 ++ Rm_q_4)) H := hP
  have hD : va_D (lw_A s) ([(x0, .inr (9, fx_q_4)), (m0, .inr (10, fm_q_4)), (aL g o0 1 fo)] ++ (Rc_q_4 ++ Rm_q_4)) := hD
  refine lv_aload_n hx hb dL_law_1326 rfl (lv_at hl 2 rfl) ?_
  refine lv_aload_n hx hb dL_law_1327 rfl (lv_at hl 0 rfl) ?_
  refine lv_iload hx hb dL_law_1328 (lv_at hl 4 rfl) ?_
  refine lv_iconst (v := 1) hx hb dL_law_1330 (by decide) ?_
  refine lv_iadd hx hb dL_law_1331 ?_
  refine he_top (nI (i + 1)) (nI_add i 1) ?_
  refine he_sld hx hb hX hbl hbA hS (i + 1) rfl (by omega) (by omega) (xs (i + 1)) rfl dL_law_1332 ?_
  refine he_ci (wc := ([(x0, .inr (9, fx_q_4)), (m0, .inr (10, fm_q_4)), (aL g o0 1 fo)] ++ (Rc_q_4 ++ Rm_q_4))) (wr := []) (va_runV (As := [.int (xs (i + 1))]) (rest := [.int r_1]) ⟨hx, hb, hml, hown, hts⟩ (il_mI (j_count l g m0 S t _ (xs (i + 1)) hm) hc H.size) (cwV 1 hts gL_law_X11_count rfl rfl rfl (by decide +kernel) ⟨Nat.le_of_ble_eq_true rfl, Nat.le_of_ble_eq_true rfl⟩) (he_preV (wc := ([(x0, .inr (9, fx_q_4)), (m0, .inr (10, fm_q_4)), (aL g o0 1 fo)] ++ (Rc_q_4 ++ Rm_q_4))) hK hP hD hS hA hE (List.range (([(x0, .inr (9, fx_q_4)), (m0, .inr (10, fm_q_4)), (aL g o0 1 fo)] ++ (Rc_q_4 ++ Rm_q_4)) : va_W).length) (he_all _) (he_allnd _) 1 rfl rfl) rfl rfl hl.1 rfl (lv_room (Nat.le_of_ble_eq_true rfl)) dL_law_1333 ⟨(by show 1000 + 4 * i + 0 + 0 ≤ 601024; omega), (by show 100000 + 700 * i + 0 + 0 ≤ 7293034; omega)⟩) hP hD hS hA (List.range (([(x0, .inr (9, fx_q_4)), (m0, .inr (10, fm_q_4)), (aL g o0 1 fo)] ++ (Rc_q_4 ++ Rm_q_4)) : va_W).length) [] (he_all _) rfl rfl (fun _ h9 => absurd h9 List.not_mem_nil) (fun r_5 u_6 H locs hu_7 hP hD hS => ?_)
  obtain ⟨t_1333, hI9, ht1333, hm1333⟩ := hu_7
  obtain ⟨fx_q_8, fm_q_8, Rc_q_8, Rm_q_8, rfl, hc, hm⟩ := hI9
  have hP : va_P g.1 vwCl ([(x0, .inr (9, fx_q_8)), (m0, .inr (10, fm_q_8)), (aL g o0 1 fo)] ++ (Rc_q_8 ++ Rm_q_8)) H := hP
  have hD : va_D (lw_A s) ([(x0, .inr (9, fx_q_8)), (m0, .inr (10, fm_q_8)), (aL g o0 1 fo)] ++ (Rc_q_8 ++ Rm_q_8)) := hD
  refine lv_icmp_eq (tgt := 1341) hx hb dL_law_1336 (by decide) (fun c9 => ?_) (fun c9 => absurd (hp1323.trans (hm1333 (sp0_count _ _)).symm) c9)
  refine W.widen (k := 1000 + 4 * (i + 6)) (n := 100000 + 700 * (i + 6)) (by show 1000 + 4 * i + 0 + 0 ≤ 1000 + 4 * (i + 6); omega) (by show 100000 + 700 * i + 0 + 0 ≤ 100000 + 700 * (i + 6); omega) ?_
  exact kk ((sp_count S (xs (i + 1))).2.2) t_1333 fo _ H locs ls (ok_count _ hOk) ⟨_, _, _, _, rfl, hc, hm⟩ hP hD hS (lv_sub hl [0, 1, 2, 3, 4] rfl)
end
section
theorem lp_cmp {Ln i : Nat} (hL : Ln ≤ 3072) (hi : i ≤ 3072) (h : ¬ (Int32.ofNat Ln - 6 < nI i)) : i + 6 ≤ Ln := by
  rcases Nat.lt_or_ge Ln 6 with q | q
  · exfalso
    have h9 : ∀ n : Nat, n ≤ 5 → Int32.ofNat n - 6 < 0 := by decide
    exact h (Int32.lt_of_lt_of_le (h9 Ln (by omega)) (nI_pos' (by omega)))
  · rw [show Int32.ofNat Ln - 6 = nI (Ln - 6) from pk_sub (a := Ln) (b := 6) q] at h
    have := (nI_ltI (a := Ln - 6) (b := i) (by omega) (by omega)).mpr
    rcases Nat.lt_or_ge (Ln - 6) i with c | c
    · exact absurd (this c) h
    · omega
theorem ts_out {x : Int32} (h : ¬ ∃ n : Nat, n ≤ 32 ∧ x = nI n) : x.toInt < 0 ∨ 32 < x.toInt := by
  apply Decidable.byContradiction
  intro h9
  apply h
  refine ⟨x.toInt.toNat, by omega, ?_⟩
  rw [← Int32.toInt_inj]
  show x.toInt = (Int32.ofNat x.toInt.toNat).toInt
  rw [Int32.toInt_ofNat_of_lt (by omega)]
  omega
set_option maxHeartbeats 8000000 in
set_option maxRecDepth 100000 in
theorem lw_loop {p : Program} {e : Env} {s : State} {m : MethodId} {below : List Frame} {meth : Method} {c : Code} (l : Launch) (hlt : l.stackTraces = false) (g : he_G) {b Ln : Nat} {xs : Nat → Int32} (C0 : lw_C p s m meth c b Ln xs g) (hL : Ln ≤ 3072) (x0 m0 o0 : Nat) : ∀ (n9 i : Nat) (S : AbS) (t : Int32) (fo : Nat → Int64) (W9 : va_W) (H : Heap) (locs : List Loc) (ls : Array Slot), Ln + 6 - i < n9 → i ≤ Ln → okS S → IL g x0 m0 o0 S S t fo W9 → va_P g.1 vwCl W9 H → va_D (lw_A s) W9 → va_S (lw_A s) s.heap H locs → lv_has ls 8 [(0, .ref b), (1, .ref x0), (2, .ref m0), (3, .ref o0), (4, .int (nI i))] → W p l e room_1 s m #[Value.ref b] below meth c H locs (1000 + 4 * i) (100000 + 700 * i) (lw_Z below #[Value.ref b] s) (F0 m 23 ls []) := by
  intro n9
  induction n9 with
  | zero => intro i S t fo W9 H locs ls hm9; exact absurd hm9 (Nat.not_lt_zero _)
  | succ n9 ih =>
    intro i S t fo W9 H locs ls hm9 hiL hOk hI hP hD hS hl
    have C1 := C0
    obtain ⟨hx, hb, hr, hml, hown, hts, hX, hbl, hlk, hK, hE, hA, hbA, hNc⟩ := C1
    refine lv_iload hx hb dL_law_23 (lv_at hl 4 rfl) ?_
    refine lv_aload_n hx hb dL_law_25 rfl (lv_at hl 0 rfl) ?_
    refine va_slen hx hb hX hbl hbA hS dL_law_26 ?_
    refine lv_bipush (v := 6) hx hb dL_law_27 (by decide) ?_
    refine lv_isub hx hb dL_law_29 ?_
    refine lv_icmp_gt (tgt := 1347) hx hb dL_law_30 (by decide) (fun c1 => ?_) (fun c1 => ?_)
    · refine lv_iconst (v := 1) hx hb dL_law_1347 (by decide) ?_
      refine va_forget (fun q hq => hS.2.2 q hq) ?_
      refine W.widen (k := 601024) (n := 7293034) (by omega) (by omega) ?_
      exact lw_ret hx hb hr hlk dL_law_1348
    · have hi6 : i + 6 ≤ Ln := lp_cmp hL (by omega) c1
      have kk : ∀ (S2 : AbS) (t2 : Int32) (fo2 : Nat → Int64) (W2 : va_W) (H2 : Heap) (locs2 : List Loc) (ls2 : Array Slot), okS S2 → IL g x0 m0 o0 S2 S2 t2 fo2 W2 → va_P g.1 vwCl W2 H2 → va_D (lw_A s) W2 → va_S (lw_A s) s.heap H2 locs2 → lv_has ls2 8 [(0, .ref b), (1, .ref x0), (2, .ref m0), (3, .ref o0), (4, .int (nI i))] → W p l e room_1 s m #[Value.ref b] below meth c H2 locs2 (1000 + 4 * (i + 6)) (100000 + 700 * (i + 6)) (lw_Z below #[Value.ref b] s) (F0 m 1341 ls2 []) := by
        intro S2 t2 fo2 W2 H2 locs2 ls2 hOk2 hI2 hP2 hD2 hS2 hl2
        refine lv_iinc (v := nI (i + 6)) (lv' := [(4, .int (nI (i + 6))), (0, .ref b), (1, .ref x0), (2, .ref m0), (3, .ref o0)]) hx hb dL_law_1341 hl2 (k := 4) rfl (nI_add i 6) (by decide) rfl (fun ls hl => ?_)
        refine lv_goto (tgt := 23) hx hb dL_law_1344 (by decide) ?_
        exact ih (i + 6) S2 t2 fo2 W2 H2 locs2 ls (by omega) hi6 hOk2 hI2 hP2 hD2 hS2 (lv_sub hl [1, 2, 3, 4, 0] rfl)
      refine lv_aload_n hx hb dL_law_33 rfl (lv_at hl 0 rfl) ?_
      refine lv_iload hx hb dL_law_34 (lv_at hl 4 rfl) ?_
      refine he_sld hx hb hX hbl hbA hS (i) rfl (by omega) (by omega) (xs i) rfl dL_law_36 ?_
      refine lv_bipush (v := 63) hx hb dL_law_37 (by decide) ?_
      refine lv_iand hx hb dL_law_39 ?_
      rcases Decidable.em (∃ n : Nat, n ≤ 32 ∧ xs i &&& 63 = nI n) with ⟨n, hn, e⟩ | hno
      · rcases (show n = 0 ∨ n = 1 ∨ n = 2 ∨ n = 3 ∨ n = 4 ∨ n = 5 ∨ n = 6 ∨ n = 7 ∨ n = 8 ∨ n = 9 ∨ n = 10 ∨ n = 11 ∨ n = 12 ∨ n = 13 ∨ n = 14 ∨ n = 15 ∨ n = 16 ∨ n = 17 ∨ n = 18 ∨ n = 19 ∨ n = 20 ∨ n = 21 ∨ n = 22 ∨ n = 23 ∨ n = 24 ∨ n = 25 ∨ n = 26 ∨ n = 27 ∨ n = 28 ∨ n = 29 ∨ n = 30 ∨ n = 31 ∨ n = 32 by omega) with rfl | rfl | rfl | rfl | rfl | rfl | rfl | rfl | rfl | rfl | rfl | rfl | rfl | rfl | rfl | rfl | rfl | rfl | rfl | rfl | rfl | rfl | rfl | rfl | rfl | rfl | rfl | rfl | rfl | rfl | rfl | rfl | rfl
        · refine he_top (0) e ?_
          refine lv_tableIn (tgt := 188) hx hb dL_law_40 (by decide) (by decide) rfl (by decide) ?_
          exact lc_feed l hlt g C0 i hi6 hL x0 m0 o0 S t fo W9 hOk hI hP hD hS hl kk
        · refine he_top (1) e ?_
          refine lv_tableIn (tgt := 261) hx hb dL_law_40 (by decide) (by decide) rfl (by decide) ?_
          exact lc_siege l hlt g C0 i hi6 hL x0 m0 o0 S t fo W9 hOk hI hP hD hS hl kk
        · refine he_top (2) e ?_
          refine lv_tableIn (tgt := 289) hx hb dL_law_40 (by decide) (by decide) rfl (by decide) ?_
          exact lc_contract l hlt g C0 i hi6 hL x0 m0 o0 S t fo W9 hOk hI hP hD hS hl kk
        · refine he_top (3) e ?_
          refine lv_tableIn (tgt := 317) hx hb dL_law_40 (by decide) (by decide) rfl (by decide) ?_
          exact lc_fault l hlt g C0 i hi6 hL x0 m0 o0 S t fo W9 hOk hI hP hD hS hl kk
        · refine he_top (4) e ?_
          refine lv_tableIn (tgt := 330) hx hb dL_law_40 (by decide) (by decide) rfl (by decide) ?_
          exact lc_told l hlt g C0 i hi6 hL x0 m0 o0 S t fo W9 hOk hI hP hD hS hl kk
        · refine he_top (5) e ?_
          refine lv_tableIn (tgt := 358) hx hb dL_law_40 (by decide) (by decide) rfl (by decide) ?_
          exact lc_wall l hlt g C0 i hi6 hL x0 m0 o0 S t fo W9 hOk hI hP hD hS hl kk
        · refine he_top (6) e ?_
          refine lv_tableIn (tgt := 398) hx hb dL_law_40 (by decide) (by decide) rfl (by decide) ?_
          exact lc_rule l hlt g C0 i hi6 hL x0 m0 o0 S t fo W9 hOk hI hP hD hS hl kk
        · refine he_top (7) e ?_
          refine lv_tableIn (tgt := 438) hx hb dL_law_40 (by decide) (by decide) rfl (by decide) ?_
          exact lc_wants l hlt g C0 i hi6 hL x0 m0 o0 S t fo W9 hOk hI hP hD hS hl kk
        · refine he_top (8) e ?_
          refine lv_tableIn (tgt := 478) hx hb dL_law_40 (by decide) (by decide) rfl (by decide) ?_
          exact lc_sign l hlt g C0 i hi6 hL x0 m0 o0 S t fo W9 hOk hI hP hD hS hl kk
        · refine he_top (9) e ?_
          refine lv_tableIn (tgt := 506) hx hb dL_law_40 (by decide) (by decide) rfl (by decide) ?_
          exact lc_months l hlt g C0 i hi6 hL x0 m0 o0 S t fo W9 hOk hI hP hD hS hl kk
        · refine he_top (10) e ?_
          refine lv_tableIn (tgt := 534) hx hb dL_law_40 (by decide) (by decide) rfl (by decide) ?_
          exact lc_undo l hlt g C0 i hi6 hL x0 m0 o0 S t fo W9 hOk hI hP hD hS hl kk
        · refine he_top (11) e ?_
          refine lv_tableIn (tgt := 562) hx hb dL_law_40 (by decide) (by decide) rfl (by decide) ?_
          exact lc_sums l hlt g C0 i hi6 hL x0 m0 o0 S t fo W9 hOk hI hP hD hS hl kk
        · refine he_top (12) e ?_
          refine lv_tableIn (tgt := 590) hx hb dL_law_40 (by decide) (by decide) rfl (by decide) ?_
          exact lc_corks l hlt g C0 i hi6 hL x0 m0 o0 S t fo W9 hOk hI hP hD hS hl kk
        · refine he_top (13) e ?_
          refine lv_tableIn (tgt := 630) hx hb dL_law_40 (by decide) (by decide) rfl (by decide) ?_
          exact lc_would l hlt g C0 i hi6 hL x0 m0 o0 S t fo W9 hOk hI hP hD hS hl kk
        · refine he_top (14) e ?_
          refine lv_tableIn (tgt := 682) hx hb dL_law_40 (by decide) (by decide) rfl (by decide) ?_
          exact lc_best l hlt g C0 i hi6 hL x0 m0 o0 S t fo W9 hOk hI hP hD hS hl kk
        · refine he_top (15) e ?_
          refine lv_tableIn (tgt := 722) hx hb dL_law_40 (by decide) (by decide) rfl (by decide) ?_
          exact lc_offer l hlt g C0 i hi6 hL x0 m0 o0 S t fo W9 hOk hI hP hD hS hl kk
        · refine he_top (16) e ?_
          refine lv_tableIn (tgt := 762) hx hb dL_law_40 (by decide) (by decide) rfl (by decide) ?_
          exact lc_nearest l hlt g C0 i hi6 hL x0 m0 o0 S t fo W9 hOk hI hP hD hS hl kk
        · refine he_top (17) e ?_
          refine lv_tableIn (tgt := 802) hx hb dL_law_40 (by decide) (by decide) rfl (by decide) ?_
          exact lc_stop l hlt g C0 i hi6 hL x0 m0 o0 S t fo W9 hOk hI hP hD hS hl kk
        · refine he_top (18) e ?_
          refine lv_tableIn (tgt := 842) hx hb dL_law_40 (by decide) (by decide) rfl (by decide) ?_
          exact lc_odds l hlt g C0 i hi6 hL x0 m0 o0 S t fo W9 hOk hI hP hD hS hl kk
        · refine he_top (19) e ?_
          refine lv_tableIn (tgt := 879) hx hb dL_law_40 (by decide) (by decide) rfl (by decide) ?_
          exact lc_kind l hlt g C0 i hi6 hL x0 m0 o0 S t fo W9 hOk hI hP hD hS hl kk
        · refine he_top (20) e ?_
          refine lv_tableIn (tgt := 928) hx hb dL_law_40 (by decide) (by decide) rfl (by decide) ?_
          exact lc_seen l hlt g C0 i hi6 hL x0 m0 o0 S t fo W9 hOk hI hP hD hS hl kk
        · refine he_top (21) e ?_
          refine lv_tableIn (tgt := 956) hx hb dL_law_40 (by decide) (by decide) rfl (by decide) ?_
          exact lc_spy l hlt g C0 i hi6 hL x0 m0 o0 S t fo W9 hOk hI hP hD hS hl kk
        · refine he_top (22) e ?_
          refine lv_tableIn (tgt := 1012) hx hb dL_law_40 (by decide) (by decide) rfl (by decide) ?_
          exact lc_believed l hlt g C0 i hi6 hL x0 m0 o0 S t fo W9 hOk hI hP hD hS hl kk
        · refine he_top (23) e ?_
          refine lv_tableIn (tgt := 1040) hx hb dL_law_40 (by decide) (by decide) rfl (by decide) ?_
          exact lc_earnest l hlt g C0 i hi6 hL x0 m0 o0 S t fo W9 hOk hI hP hD hS hl kk
        · refine he_top (24) e ?_
          refine lv_tableIn (tgt := 1092) hx hb dL_law_40 (by decide) (by decide) rfl (by decide) ?_
          exact lc_stands l hlt g C0 i hi6 hL x0 m0 o0 S t fo W9 hOk hI hP hD hS hl kk
        · refine he_top (25) e ?_
          refine lv_tableIn (tgt := 1132) hx hb dL_law_40 (by decide) (by decide) rfl (by decide) ?_
          exact lc_show l hlt g C0 i hi6 hL x0 m0 o0 S t fo W9 hOk hI hP hD hS hl kk
        · refine he_top (26) e ?_
          refine lv_tableIn (tgt := 1172) hx hb dL_law_40 (by decide) (by decide) rfl (by decide) ?_
          exact lc_offers l hlt g C0 i hi6 hL x0 m0 o0 S t fo W9 hOk hI hP hD hS hl kk
        · refine he_top (27) e ?_
          refine lv_tableIn (tgt := 1224) hx hb dL_law_40 (by decide) (by decide) rfl (by decide) ?_
          exact lc_most l hlt g C0 i hi6 hL x0 m0 o0 S t fo W9 hOk hI hP hD hS hl kk
        · refine he_top (28) e ?_
          refine lv_tableIn (tgt := 1237) hx hb dL_law_40 (by decide) (by decide) rfl (by decide) ?_
          exact lc_serves l hlt g C0 i hi6 hL x0 m0 o0 S t fo W9 hOk hI hP hD hS hl kk
        · refine he_top (29) e ?_
          refine lv_tableIn (tgt := 1265) hx hb dL_law_40 (by decide) (by decide) rfl (by decide) ?_
          exact lc_image l hlt g C0 i hi6 hL x0 m0 o0 S t fo W9 hOk hI hP hD hS hl kk
        · refine he_top (30) e ?_
          refine lv_tableIn (tgt := 1278) hx hb dL_law_40 (by decide) (by decide) rfl (by decide) ?_
          exact lc_restore l hlt g C0 i hi6 hL x0 m0 o0 S t fo W9 hOk hI hP hD hS hl kk
        · refine he_top (31) e ?_
          refine lv_tableIn (tgt := 1291) hx hb dL_law_40 (by decide) (by decide) rfl (by decide) ?_
          exact lc_status l hlt g C0 i hi6 hL x0 m0 o0 S t fo W9 hOk hI hP hD hS hl kk
        · refine he_top (32) e ?_
          refine lv_tableIn (tgt := 1316) hx hb dL_law_40 (by decide) (by decide) rfl (by decide) ?_
          exact lc_count l hlt g C0 i hi6 hL x0 m0 o0 S t fo W9 hOk hI hP hD hS hl kk
      · refine lv_tableOut (tgt := 1341) hx hb dL_law_40 (ts_out hno) (by decide) ?_
        refine W.widen (k := 1000 + 4 * (i + 6)) (n := 100000 + 700 * (i + 6)) (by omega) (by omega) ?_
        exact kk S t fo W9 H locs ls hOk hI hP hD hS hl
end
section
/-! the law's entry: the classes, the statics, the texts, as the Statement gives them -/
/-- what holds at the law's entry: the machine, the code, the tables' words, the script of L ints xs at the cell b, what the Statement gives of the start -/
def lw_At (p : Program) (s : State) (m : MethodId) (meth : Method) (c : Code) (b L : Nat) (xs : Nat → Int32) : Prop :=
  p.tables.exec = Jvm.exec ∧ c.code = code ∧ meth.sig.returnType = ret ∧ c.maxLocals = 8 ∧ s.vm.findClass R_law = some m.cls ∧ (∀ w ∈ lw_tbl, w.before #[Value.ref b] s = true) ∧ va_X b L xs s s.heap ∧ b < s.heap.size ∧ meth.locks = false ∧ (Jvm.Cond.and given_1 narrow_1).before #[Value.ref b] s = true
theorem lw_Ta {args : Array Value} {s : State} {C n : String} {N : Nat} {tb : List Int32} {A : Nat → Prop} (hN : N < 2 ^ 31) (hl : (Cond.laysStatic C n "[I").before args s = true) (hini : (Cond.initialized C).before args s = true) (harr : (Cond.arrayOf (.static C n "[I") .int).before args s = true) (hlen : (Cond.eq (.length (.static C n "[I")) (.int (Int32.ofNat N))).before args s = true) (hel : ∀ j : Nat, j < N → (Cond.eq (.elem (.static C n "[I") (.int (Int32.ofNat j))) (.int (tb.getD j 0))).before args s = true) (hA : ∀ a : Nat, a < s.heap.size → ¬ A a) : he_Ta C n N tb A s s.heap := by
  obtain ⟨t, h1, h2⟩ := va_Tof (f := he_tab tb) hN harr (va_eqt hlen) (fun j hj => va_eqt (hel j hj)) hA
  exact ⟨t, va_Zof hl hini h1 hA, h2⟩
theorem lw_S {args : Array Value} {s : State} {own tx : String} {k : Nat} (h1 : (Cond.stringRef own k tx).before args s = true) (h2 : (Cond.exactly (.string own k) "java/lang/String").before args s = true) : ∃ a : Nat, vk_R own k tx a s := by
  obtain ⟨a, c, cell, k9, q1, -⟩ := Cond.exactly_spec (args := args) (first := s) (o := none) (s := s) (idx := []) h2
  exact ⟨a, vk_R.of h1 q1⟩
theorem lw_Sr {args : Array Value} {s : State} {own tx : String} {k : Nat} {byt : List Int32} {A : Nat → Prop} (h1 : (Cond.stringRef own k tx).before args s = true) (hex : (Cond.exactly (.string own k) "java/lang/String").before args s = true) (hco : (Cond.eq (.field (.string own k) "java/lang/String" "coder" "B") (.int 0)).before args s = true) (har : (Cond.arrayOf (.field (.string own k) "java/lang/String" "value" "[B") .byte).before args s = true) (hN : byt.length < 2 ^ 31) (hle : (Cond.eq (.length (.field (.string own k) "java/lang/String" "value" "[B")) (.int (Int32.ofNat byt.length))).before args s = true) (hel : ∀ j : Nat, j < byt.length → (Cond.eq (.elem (.field (.string own k) "java/lang/String" "value" "[B") (.int (Int32.ofNat j))) (.int (byt.getD j 0))).before args s = true) (hA : ∀ a : Nat, a < s.heap.size → ¬ A a) : ∃ a v : Nat, he_Sr own k tx byt a v A s s.heap := by
  obtain ⟨adK, adV, hS, hev⟩ := vk_Sof (args := args) (s := s) (N := 1) (tm := fun _ => .string own k) (len := [byt.length]) (byt := [byt]) (A := A) (fun i hi => by obtain rfl : i = 0 := (by omega); exact hN) (fun i hi => hex) (fun i hi => hco) (fun i hi => har) (fun i hi => by obtain rfl : i = 0 := (by omega); exact hle) (fun i hi j hj => by obtain rfl : i = 0 := (by omega); exact hel j hj) (fun i j hi hj hne => absurd (by omega) hne) hA
  exact ⟨adK 0, adV 0, vk_R.of h1 (hev 0 (by decide)), (hS.1 0 (by decide)).1, (hS.1 0 (by decide)).2.1, (hS.1 0 (by decide)).2.2.1, (hS.1 0 (by decide)).2.2.2⟩
theorem lw_eg5 : ∀ j : Nat, j < he_w6.length → (flatC (Jvm.Cond.and given_1 narrow_1))[222 + j]? = some (Cond.eq (.elem (.field (.string RX6 34) "java/lang/String" "value" "[B") (.int (Int32.ofNat j))) (.int (he_w6.getD j 0))) := by decide +kernel
theorem lw_el5 : ∀ j : Nat, j < he_w6.length → Cond.eq (.elem (.field (.string RX6 34) "java/lang/String" "value" "[B") (.int (Int32.ofNat j))) (.int (he_w6.getD j 0)) ∈ flatC (Jvm.Cond.and given_1 narrow_1) := fun j hj => List.mem_of_getElem? (i := 222 + j) (lw_eg5 j hj)
theorem lw_eg6 : ∀ j : Nat, j < he_w5.length → (flatC (Jvm.Cond.and given_1 narrow_1))[178 + j]? = some (Cond.eq (.elem (.field (.string RX5 32) "java/lang/String" "value" "[B") (.int (Int32.ofNat j))) (.int (he_w5.getD j 0))) := by decide +kernel
theorem lw_el6 : ∀ j : Nat, j < he_w5.length → Cond.eq (.elem (.field (.string RX5 32) "java/lang/String" "value" "[B") (.int (Int32.ofNat j))) (.int (he_w5.getD j 0)) ∈ flatC (Jvm.Cond.and given_1 narrow_1) := fun j hj => List.mem_of_getElem? (i := 178 + j) (lw_eg6 j hj)
theorem lw_nest : ∀ q ∈ he_nest, Cond.methodLinkNest q.1 q.2.1 q.2.2 "HiredEnemy" ∈ lw_tbl := by decide +kernel
theorem lw_decl : ∀ x ∈ he_decl, Cond.declares x ∈ lw_tbl := by decide +kernel
theorem lw_cast : ∀ q ∈ he_cast, Cond.castable q.1 q.2 ∈ lw_tbl := by decide +kernel
theorem lw_eg1 : ∀ j : Nat, j < 24 → (flatC (Jvm.Cond.and given_1 narrow_1))[7 + j]? = some (Cond.eq (.elem (.static RX6 "UNTOLD" "[I") (.int (Int32.ofNat j))) (.int (he_untold.getD j 0))) := by decide +kernel
theorem lw_el1 : ∀ j : Nat, j < 24 → Cond.eq (.elem (.static RX6 "UNTOLD" "[I") (.int (Int32.ofNat j))) (.int (he_untold.getD j 0)) ∈ flatC (Jvm.Cond.and given_1 narrow_1) := fun j hj => List.mem_of_getElem? (i := 7 + j) (lw_eg1 j hj)
theorem lw_eg2 : ∀ j : Nat, j < 8 → (flatC (Jvm.Cond.and given_1 narrow_1))[41 + j]? = some (Cond.eq (.elem (.static RX6 "NUMBERS" "[I") (.int (Int32.ofNat j))) (.int (he_numbers.getD j 0))) := by decide +kernel
theorem lw_el2 : ∀ j : Nat, j < 8 → Cond.eq (.elem (.static RX6 "NUMBERS" "[I") (.int (Int32.ofNat j))) (.int (he_numbers.getD j 0)) ∈ flatC (Jvm.Cond.and given_1 narrow_1) := fun j hj => List.mem_of_getElem? (i := 41 + j) (lw_eg2 j hj)
theorem lw_eg3 : ∀ j : Nat, j < 24 → (flatC (Jvm.Cond.and given_1 narrow_1))[61 + j]? = some (Cond.eq (.elem (.static RX6 "HIGH" "[I") (.int (Int32.ofNat j))) (.int (he_high.getD j 0))) := by decide +kernel
theorem lw_el3 : ∀ j : Nat, j < 24 → Cond.eq (.elem (.static RX6 "HIGH" "[I") (.int (Int32.ofNat j))) (.int (he_high.getD j 0)) ∈ flatC (Jvm.Cond.and given_1 narrow_1) := fun j hj => List.mem_of_getElem? (i := 61 + j) (lw_eg3 j hj)
theorem lw_eg4 : ∀ j : Nat, j < 6 → (flatC (Jvm.Cond.and given_1 narrow_1))[52 + j]? = some (Cond.eq (.elem (.static RX5 "HIGH" "[I") (.int (Int32.ofNat j))) (.int (he_pacthigh.getD j 0))) := by decide +kernel
theorem lw_el4 : ∀ j : Nat, j < 6 → Cond.eq (.elem (.static RX5 "HIGH" "[I") (.int (Int32.ofNat j))) (.int (he_pacthigh.getD j 0)) ∈ flatC (Jvm.Cond.and given_1 narrow_1) := fun j hj => List.mem_of_getElem? (i := 52 + j) (lw_eg4 j hj)
set_option maxHeartbeats 4000000 in
theorem lw_W0 {s : State} {b : Nat} (hts : ∀ w ∈ lw_tbl, w.before #[Value.ref b] s = true) (hgv : (Jvm.Cond.and given_1 narrow_1).before #[Value.ref b] s = true) : ∃ a6 v6 a5 v5 : Nat, ∀ g : he_G, g.2 10 = a6 → g.2 20 = v6 → g.2 11 = a5 → g.2 21 = v5 → he_W g (lw_A s) s s.heap := by
  have hs := flat_of_before _ hgv
  have hA : ∀ a : Nat, a < s.heap.size → ¬ lw_A s a := fun a h => Nat.not_le.mpr h
  obtain ⟨a6, v6, h6⟩ := lw_Sr (byt := he_w6) (A := lw_A s) (hts (.stringRef RX6 34 "wall duke enemy town fear near mason cost") (by decide +kernel)) (hs _ (by decide +kernel)) (hs _ (by decide +kernel)) (hs _ (by decide +kernel)) (by decide) (hs _ (by decide +kernel)) (fun j hj => hs _ (lw_el5 j hj)) hA
  obtain ⟨a5, v5, h5⟩ := lw_Sr (byt := he_w5) (A := lw_A s) (hts (.stringRef RX5 32 "pay winter near corks bonus till breach") (by decide +kernel)) (hs _ (by decide +kernel)) (hs _ (by decide +kernel)) (hs _ (by decide +kernel)) (by decide) (hs _ (by decide +kernel)) (fun j hj => hs _ (lw_el6 j hj)) hA
  refine ⟨a6, v6, a5, v5, fun g e1 e2 e3 e4 => ⟨⟨va_Zof (hts (.laysStatic RJ0 "COMPACT_STRINGS" "Z") (by decide +kernel)) (hts (.initialized RJ0) (by decide +kernel)) (va_eqt (hs (.eq (.static RJ0 "COMPACT_STRINGS" "Z") (.int 1)) (by decide +kernel))) hA, va_Zqof (hts (.laysStatic RJ3 "SIOOBE_FORMATTER" "Ljava/util/function/BiFunction;") (by decide +kernel)) (hts (.initialized RJ3) (by decide +kernel)) (hs (.isRef (.static RJ3 "SIOOBE_FORMATTER" "Ljava/util/function/BiFunction;")) (by decide +kernel)) hA⟩, ?_, ?_⟩⟩
  · rw [e1, e2]; exact h6
  · rw [e3, e4]; exact h5
set_option maxHeartbeats 4000000 in
theorem lw_E0 {g : he_G} {s : State} {b : Nat} (hW : he_W g (lw_A s) s s.heap) (hts : ∀ w ∈ lw_tbl, w.before #[Value.ref b] s = true) (hgv : (Jvm.Cond.and given_1 narrow_1).before #[Value.ref b] s = true) : he_E g (lw_A s) s s.heap := by
  have hs := flat_of_before _ hgv
  have hA : ∀ a : Nat, a < s.heap.size → ¬ lw_A s a := fun a h => Nat.not_le.mpr h
  refine ⟨?_, ?_, ?_, ?_, ?_, ?_, ?_, ?_, ?_, ?_, ?_, ?_, ?_, ?_, ?_, ?_, hW⟩
  · exact lw_Ta (by decide) (hts _ (by decide +kernel)) (hts _ (by decide +kernel)) (hs _ (by decide +kernel)) (hs _ (by decide +kernel)) (fun j hj => hs _ (lw_el1 j hj)) hA
  · exact lw_Ta (by decide) (hts _ (by decide +kernel)) (hts _ (by decide +kernel)) (hs _ (by decide +kernel)) (hs _ (by decide +kernel)) (fun j hj => hs _ (lw_el2 j hj)) hA
  · exact lw_Ta (by decide) (hts _ (by decide +kernel)) (hts _ (by decide +kernel)) (hs _ (by decide +kernel)) (hs _ (by decide +kernel)) (fun j hj => hs _ (lw_el3 j hj)) hA
  · exact lw_Ta (by decide) (hts _ (by decide +kernel)) (hts _ (by decide +kernel)) (hs _ (by decide +kernel)) (hs _ (by decide +kernel)) (fun j hj => hs _ (lw_el4 j hj)) hA
  · exact vx_Zqof (hts _ (by decide +kernel)) (hts _ (by decide +kernel)) (hs _ (by decide +kernel)) hA
  · exact vx_Zqof (hts _ (by decide +kernel)) (hts _ (by decide +kernel)) (hs _ (by decide +kernel)) hA
  · exact lw_S (hts _ (by decide +kernel)) (hs _ (by decide +kernel))
  · exact lw_S (hts _ (by decide +kernel)) (hs _ (by decide +kernel))
  · exact lw_S (hts _ (by decide +kernel)) (hs _ (by decide +kernel))
  · exact fun q hq => va_Nw.of rfl (hts _ (lw_nest q hq))
  · exact fun q hq => va_Nw.of rfl (hts _ (lw_decl q hq))
  · exact va_AO.of (hts (.arrayOver (.object RX5)) (by decide +kernel))
  · exact va_AO.of (hts (.arrayOver (.object RX8)) (by decide +kernel))
  · exact hts (.arrayOver (.array .int)) (by decide +kernel)
  · exact fun q hq => va_Nw.of rfl (hts _ (lw_cast q hq))
  · exact va_Nc.of (hs _ (by decide +kernel))
set_option maxHeartbeats 4000000 in
theorem lw_prep {p : Program} {s : State} {m : MethodId} {meth : Method} {c : Code} {b L : Nat} {xs : Nat → Int32} (C0 : lw_At p s m meth c b L xs) : ∃ g : he_G, lw_C p s m meth c b L xs g := by
  obtain ⟨hx, hb, hr, hml, hown, hts, hX, hbl, hlk, hgv⟩ := C0
  obtain ⟨c0, i0, k0⟩ := u_known (C := RX0) (T := TX0) (N := 1) (n := 1) hts inX0 (hts (.instantiable RX0 1) (by decide +kernel))
  obtain ⟨c1, i1, k1⟩ := u_known (C := RX1) (T := TX1) (N := 5) (n := 5) hts inX1 (hts (.instantiable RX1 5) (by decide +kernel))
  obtain ⟨c2, i2, k2⟩ := u_known (C := RX2) (T := TX2) (N := 7) (n := 7) hts inX2 (hts (.instantiable RX2 7) (by decide +kernel))
  obtain ⟨c3, i3, k3⟩ := u_known (C := RX3) (T := TX3) (N := 2) (n := 2) hts inX3 (hts (.instantiable RX3 2) (by decide +kernel))
  obtain ⟨c4, i4, k4⟩ := u_known (C := RX4) (T := TX4) (N := 3) (n := 3) hts inX4 (hts (.instantiable RX4 3) (by decide +kernel))
  obtain ⟨c5, i5, k5⟩ := u_known (C := RX5) (T := TX5) (N := 3) (n := 3) hts inX5 (hts (.instantiable RX5 3) (by decide +kernel))
  obtain ⟨c6, i6, k6⟩ := u_known (C := RX6) (T := TX6) (N := 5) (n := 5) hts inX6 (hts (.instantiable RX6 5) (by decide +kernel))
  obtain ⟨c7, i7, k7⟩ := u_known (C := RX7) (T := TX7) (N := 6) (n := 6) hts inX7 (hts (.instantiable RX7 6) (by decide +kernel))
  obtain ⟨c8, i8, k8⟩ := u_known (C := RX8) (T := TX8) (N := 4) (n := 4) hts inX8 (hts (.instantiable RX8 4) (by decide +kernel))
  obtain ⟨c9, i9, k9⟩ := u_known (C := RX10) (T := TX10) (N := 13) (n := 13) hts inX10 (hts (.instantiable RX10 13) (by decide +kernel))
  obtain ⟨c10, i10, k10⟩ := u_known (C := RX11) (T := TX11) (N := 35) (n := 35) hts inX11 (hts (.instantiable RX11 35) (by decide +kernel))
  obtain ⟨a0, ka0, co0, p0, q0, r0⟩ := Cond.arrayClass_spec (hts (.arrayClass .byte) (by decide +kernel))
  obtain ⟨a1, ka1, co1, p1, q1, r1⟩ := Cond.arrayClass_spec (hts (.arrayClass .int) (by decide +kernel))
  obtain ⟨a5, ka5, co5, p5, q5, r5⟩ := Cond.arrayClass_spec (hts (.arrayClass .long) (by decide +kernel))
  obtain ⟨co2, a2, ka2, x2, -, q2, r2, p2⟩ := Cond.arrayOver_spec (hts (.arrayOver (.object RX5)) (by decide +kernel))
  obtain ⟨co3, a3, ka3, x3, -, q3, r3, p3⟩ := Cond.arrayOver_spec (hts (.arrayOver (.object RX8)) (by decide +kernel))
  obtain ⟨co4, a4, ka4, x4, -, q4, r4, p4⟩ := arrayOverA_spec (hts (.arrayOver (.array .int)) (by decide +kernel))
  obtain ⟨a6, v6, a7, v7, hW9⟩ := lw_W0 hts hgv
  refine ⟨((fun k => [c0, c1, c2, c3, c4, c5, c6, c7, c8, c9, c10].getD k c0, fun k => [i0, i1, i2, i3, i4, i5, i6, i7, i8, i9, i10].getD k i0), fun k => [a0, a1, a2, a3, a4, a5, a0, a0, a0, a0, a6, a7, a0, a0, a0, a0, a0, a0, a0, a0, v6, v7].getD k a0), hx, hb, hr, hml, hown, fun w h => hts w (wsL_law_in w h), hX, hbl, hlk, ⟨?_, ?_⟩, lw_E0 (hW9 _ rfl rfl rfl rfl) hts hgv, fun _ h => h, Nat.not_le.mpr hbl, va_Nc.of (flat_of_before _ hgv _ (by decide +kernel))⟩
  · intro k q hq
    match k, hq with
    | 0, hq => cases hq; exact k0
    | 1, hq => cases hq; exact k1
    | 2, hq => cases hq; exact k2
    | 3, hq => cases hq; exact k3
    | 4, hq => cases hq; exact k4
    | 5, hq => cases hq; exact k5
    | 6, hq => cases hq; exact k6
    | 7, hq => cases hq; exact k7
    | 8, hq => cases hq; exact k8
    | 9, hq => cases hq; exact k9
    | 10, hq => cases hq; exact k10
    | k + 11, hq => exact absurd hq (by simp [vwCl])
  · intro k q hq
    match k, hq with
    | 0, hq => cases hq; exact ⟨fun n z => ⟨fun k h => (by cases h), ka0, q0, co0, r0⟩, p0⟩
    | 1, hq => cases hq; exact ⟨fun n z => ⟨fun k h => (by cases h), ka1, q1, co1, r1⟩, p1⟩
    | 2, hq => cases hq; exact ⟨fun n z => ⟨fun k h => (by cases h), ka2, q2, co2, r2⟩, ka2, co2, q2, r2, x2, p2⟩
    | 3, hq => cases hq; exact ⟨fun n z => ⟨fun k h => (by cases h), ka3, q3, co3, r3⟩, ka3, co3, q3, r3, x3, p3⟩
    | 4, hq => cases hq; exact ⟨fun n z => ⟨fun k h => (by cases h), ka4, q4, co4, r4⟩, p4⟩
    | 5, hq => cases hq; exact ⟨fun n z => ⟨fun k h => (by cases h), ka5, q5, co5, r5⟩, p5⟩
    | k + 6, hq => exact absurd hq (by simp [he_ty])
end
section
/-- as it begins -/
def S00 : AbS := ((fun _ => 0), (fun _ => 0), (fun i => if i = 0 then (fun _ => -1) else fun _ => 0), (fun _ => ((fun _ => 0), fun _ _ => 0)), sgR9 [] (fun _ _ => 0))
theorem S00_5 : S00.2.2.2.2 5 = bgA 0 tnA (fun _ => 0) := by
  show sgR9 [] (fun _ _ => 0) 5 = _
  unfold sgR9
  rw [if_neg (by decide), if_neg (by decide), if_neg (by decide), if_pos rfl]
  rfl
theorem ok_S00 : okS S00 := by
  have hT := bdI_A bdI_0
  exact ⟨⟨by show 0 ≤ 6; decide, by show 0 ≤ 6; decide, by show 0 ≤ 120; decide, hT.1, fun k hk => absurd hk (Nat.not_lt_zero k), bg_bd (by decide) hT (R4 := fun _ => 0) (fun k hk => absurd hk (Nat.not_lt_zero k)), Or.inl ⟨rfl, rfl⟩, fun c hc => absurd hc (Nat.not_lt_zero c), fun t ht => absurd ht (Nat.not_lt_zero t)⟩, fun j hj => absurd hj (Nat.not_lt_zero j)⟩
set_option maxHeartbeats 8000000 in
set_option maxRecDepth 100000 in
theorem whole_start {p : Program} {e : Env} {s : State} {m : MethodId} {below : List Frame} {meth : Method} {c : Code} (l : Launch) (hlt : l.stackTraces = false) {b L : Nat} {xs : Nat → Int32} (hL : L ≤ 3072) (C0 : lw_At p s m meth c b L xs) : W p l e room_1 s m #[Value.ref b] below meth c s.heap [] 0 0 (lw_Z below #[Value.ref b] s) (entryFrame m ([Value.ref b] : List Value).toArray 8) := by
  obtain ⟨g, C1⟩ := lw_prep C0
  have C2 := C1
  obtain ⟨hx, hb, hr, hml, hown, hts, hX, hbl, hlk, hK, hE, hA, hbA, hNc⟩ := C2
  have hS : va_S (lw_A s) s.heap s.heap [] := va_S.rf
  have hP : va_P g.1 vwCl [] s.heap := fun k q h => by simp at h
  have hD : va_D (lw_A s) [] := ⟨fun i j p q h => by simp at h, fun k q h => by simp at h⟩
  have hl := lv_entry ([.ref b]) (n := 8) (Nat.le_of_ble_eq_true rfl)
  rw [lg_entry_eq]
  generalize (lg_sl ([.ref b]) ++ List.replicate (8 - (lg_sl ([.ref b])).length) Slot.unset).toArray = ls at hl ⊢
  have hl : lv_has ls 8 [(0, .ref b)] := hl
  have cl8 := hts (.classLink RL 8 RX10) (by decide +kernel)
  have instX10 := hts (.instantiable RX10 13) (by decide +kernel)
  have iniX10 := hts (.initialized RX10) (by decide +kernel)
  have inX10 : ∀ w ∈ wsX100, w ∈ wsL_law := by decide +kernel
  have lk100 := hts (.methodLink RL 100 yX10_init) (by decide +kernel)
  have im_yX10_init := hts (.instanceMethod yX10_init) (by decide +kernel)
  have cl101 := hts (.classLink RL 101 RX11) (by decide +kernel)
  have instX11 := hts (.instantiable RX11 35) (by decide +kernel)
  have iniX11 := hts (.initialized RX11) (by decide +kernel)
  have inX11 : ∀ w ∈ wsX110, w ∈ wsL_law := by decide +kernel
  have lk103 := hts (.methodLink RL 103 yX11_init) (by decide +kernel)
  have im_yX11_init := hts (.instanceMethod yX11_init) (by decide +kernel)
  have harr_long := hts (.arrayClass .long) (by decide +kernel)
  refine va_new (ci := 9) (fs := [.null, .int 0, .null, .null, .null, .null, .int 0, .null, .null, .int 0, .null, .null, .null]) (T := TX10) (N := 13) hx hb hts inX10 tyX10 tyX10_ok hown cl8 instX10 iniX10 hK hP hD hS hA rfl (by decide) (Nat.le_of_ble_eq_true rfl) (Nat.le_of_ble_eq_true rfl) dL_law_0 (fun q_1 H hP hD hS => ?_)
  have hP : va_P g.1 vwCl [(q_1, .inr (9, [.null, .int 0, .null, .null, .null, .null, .int 0, .null, .null, .int 0, .null, .null, .null]))] H := hP
  have hD : va_D (lw_A s) [(q_1, .inr (9, [.null, .int 0, .null, .null, .null, .null, .int 0, .null, .null, .int 0, .null, .null, .null]))] := hD
  refine W.widen (k := 1) (n := 13) (Nat.le_of_ble_eq_true rfl) (Nat.le_of_ble_eq_true rfl) ?_
  refine lv_dup hx hb dL_law_3 rfl ?_
  refine he_cv (wc := [(q_1, .inr (9, [.null, .int 0, .null, .null, .null, .null, .int 0, .null, .null, .int 0, .null, .null, .null]))]) (wr := []) (va_runI (As := []) (rest := [.ref q_1]) ⟨hx, hb, hml, hown, hts⟩ (c_X10_init l g q_1 H.size) (cwI 0 hts gL_law_X10_init rfl rfl rfl iniX10 lk100 im_yX10_init rfl (by decide +kernel) ⟨Nat.le_of_ble_eq_true rfl, Nat.le_of_ble_eq_true rfl⟩) (he_preS (wc := [(q_1, .inr (9, [.null, .int 0, .null, .null, .null, .null, .int 0, .null, .null, .int 0, .null, .null, .null]))]) hK hP hD hS hA hE [0] rfl rfl) rfl rfl hl.1 rfl (lv_room (Nat.le_of_ble_eq_true rfl)) dL_law_4 ⟨(Nat.le_of_ble_eq_true rfl), (Nat.le_of_ble_eq_true rfl)⟩) hP hD hS hA [0] [] rfl rfl rfl (by decide) (fun u_3 H locs h_4 hP hD hS => ?_)
  have hP : va_P g.1 vwCl [(oX10 q_1 (u_3 0) 0 (u_3 1) (u_3 4) (u_3 9) (u_3 14) 0 (u_3 15) (u_3 27) 0 (u_3 28) (u_3 31) (u_3 35)), (aB g (u_3 0) 500 (fun _ => 0)), (oX7 (u_3 1) (u_3 3) 0 0 0 (-1) (u_3 2)), (aB g (u_3 3) 0 (fun _ => 0)), (aI g (u_3 2) 3 (fun _ => 0)), (oX6 (u_3 4) (u_3 5) (u_3 6) (u_3 7) (u_3 8) 0), (aI g (u_3 5) 24 (flF unF (fun _ => 0) 24)), (aI g (u_3 6) 10 (flF nrF (fun _ => 0) 10)), (aI g (u_3 7) 6 (fun _ => 0)), (aI g (u_3 8) 6 (fun _ => 0)), (oX6 (u_3 9) (u_3 10) (u_3 11) (u_3 12) (u_3 13) 0), (aI g (u_3 10) 24 (flF unF (fun _ => 0) 24)), (aI g (u_3 11) 10 (flF nrF (fun _ => 0) 10)), (aI g (u_3 12) 6 (fun _ => 0)), (aI g (u_3 13) 6 (fun _ => 0)), (aP g (u_3 14) 7 (va_up (va_up (va_up (va_up (va_up (va_up (va_up (fun _ => none) 0 (some (u_3 36))) 1 (some (u_3 39))) 2 (some (u_3 42))) 3 (some (u_3 45))) 4 (some (u_3 48))) 5 (some (u_3 51))) 6 (some (u_3 54)))), (oX8 (u_3 15) (u_3 16) (u_3 19) (u_3 21) (u_3 24)), (oX4 (u_3 16) (u_3 17) (u_3 18) 0), (aI g (u_3 17) 24 (beginF (flF unF (fun _ => 0) 24) (fun _ => 0) 0 (fun _ => 0))), (aI g (u_3 18) 6 (fun _ => 0)), (oX0 (u_3 19) (u_3 20)), (aI g (u_3 20) 3600 (fun _ => 0)), (oX2 (u_3 21) (u_3 22) (u_3 23) 1 1 1 1 0), (aI g (u_3 22) 4 (upd (upd (upd (upd (fun _ => 0) 0 8) 1 8) 2 8) 3 8)), (aI g (u_3 23) 4 (upd (upd (upd (upd (fun _ => 0) 0 8) 1 8) 2 8) 3 8)), (oX3 (u_3 24) (u_3 25) (u_3 26)), (aI g (u_3 25) 36 (fun _ => 0)), (aI g (u_3 26) 39 (fun _ => 0)), (aS g (u_3 27) 3 (fun _ => none)), (oX4 (u_3 28) (u_3 29) (u_3 30) 0), (aI g (u_3 29) 24 (fun _ => 0)), (aI g (u_3 30) 6 (fun _ => 0)), (oX1 (u_3 31) (u_3 32) (u_3 33) (u_3 34) 0 0), (aI g (u_3 32) 3 (fun _ => 0)), (aI g (u_3 33) 3 (fun _ => 0)), (aI g (u_3 34) 3 (fun _ => 0)), (aI g (u_3 35) 3 (fun _ => 0)), (oX5 (u_3 36) (u_3 37) (u_3 38) 0), (aI g (u_3 37) 6 (fun _ => 0)), (aI g (u_3 38) 36 (fun _ => 0)), (oX5 (u_3 39) (u_3 40) (u_3 41) 0), (aI g (u_3 40) 6 (fun _ => 0)), (aI g (u_3 41) 36 (fun _ => 0)), (oX5 (u_3 42) (u_3 43) (u_3 44) 0), (aI g (u_3 43) 6 (fun _ => 0)), (aI g (u_3 44) 36 (fun _ => 0)), (oX5 (u_3 45) (u_3 46) (u_3 47) 0), (aI g (u_3 46) 6 (fun _ => 0)), (aI g (u_3 47) 36 (fun _ => 0)), (oX5 (u_3 48) (u_3 49) (u_3 50) 0), (aI g (u_3 49) 6 (fun _ => 0)), (aI g (u_3 50) 36 (fun _ => 0)), (oX5 (u_3 51) (u_3 52) (u_3 53) 0), (aI g (u_3 52) 6 (fun _ => 0)), (aI g (u_3 53) 36 (fun _ => 0)), (oX5 (u_3 54) (u_3 55) (u_3 56) 0), (aI g (u_3 55) 6 (fun _ => 0)), (aI g (u_3 56) 36 (fun _ => 0))] H := hP
  have hD : va_D (lw_A s) [(oX10 q_1 (u_3 0) 0 (u_3 1) (u_3 4) (u_3 9) (u_3 14) 0 (u_3 15) (u_3 27) 0 (u_3 28) (u_3 31) (u_3 35)), (aB g (u_3 0) 500 (fun _ => 0)), (oX7 (u_3 1) (u_3 3) 0 0 0 (-1) (u_3 2)), (aB g (u_3 3) 0 (fun _ => 0)), (aI g (u_3 2) 3 (fun _ => 0)), (oX6 (u_3 4) (u_3 5) (u_3 6) (u_3 7) (u_3 8) 0), (aI g (u_3 5) 24 (flF unF (fun _ => 0) 24)), (aI g (u_3 6) 10 (flF nrF (fun _ => 0) 10)), (aI g (u_3 7) 6 (fun _ => 0)), (aI g (u_3 8) 6 (fun _ => 0)), (oX6 (u_3 9) (u_3 10) (u_3 11) (u_3 12) (u_3 13) 0), (aI g (u_3 10) 24 (flF unF (fun _ => 0) 24)), (aI g (u_3 11) 10 (flF nrF (fun _ => 0) 10)), (aI g (u_3 12) 6 (fun _ => 0)), (aI g (u_3 13) 6 (fun _ => 0)), (aP g (u_3 14) 7 (va_up (va_up (va_up (va_up (va_up (va_up (va_up (fun _ => none) 0 (some (u_3 36))) 1 (some (u_3 39))) 2 (some (u_3 42))) 3 (some (u_3 45))) 4 (some (u_3 48))) 5 (some (u_3 51))) 6 (some (u_3 54)))), (oX8 (u_3 15) (u_3 16) (u_3 19) (u_3 21) (u_3 24)), (oX4 (u_3 16) (u_3 17) (u_3 18) 0), (aI g (u_3 17) 24 (beginF (flF unF (fun _ => 0) 24) (fun _ => 0) 0 (fun _ => 0))), (aI g (u_3 18) 6 (fun _ => 0)), (oX0 (u_3 19) (u_3 20)), (aI g (u_3 20) 3600 (fun _ => 0)), (oX2 (u_3 21) (u_3 22) (u_3 23) 1 1 1 1 0), (aI g (u_3 22) 4 (upd (upd (upd (upd (fun _ => 0) 0 8) 1 8) 2 8) 3 8)), (aI g (u_3 23) 4 (upd (upd (upd (upd (fun _ => 0) 0 8) 1 8) 2 8) 3 8)), (oX3 (u_3 24) (u_3 25) (u_3 26)), (aI g (u_3 25) 36 (fun _ => 0)), (aI g (u_3 26) 39 (fun _ => 0)), (aS g (u_3 27) 3 (fun _ => none)), (oX4 (u_3 28) (u_3 29) (u_3 30) 0), (aI g (u_3 29) 24 (fun _ => 0)), (aI g (u_3 30) 6 (fun _ => 0)), (oX1 (u_3 31) (u_3 32) (u_3 33) (u_3 34) 0 0), (aI g (u_3 32) 3 (fun _ => 0)), (aI g (u_3 33) 3 (fun _ => 0)), (aI g (u_3 34) 3 (fun _ => 0)), (aI g (u_3 35) 3 (fun _ => 0)), (oX5 (u_3 36) (u_3 37) (u_3 38) 0), (aI g (u_3 37) 6 (fun _ => 0)), (aI g (u_3 38) 36 (fun _ => 0)), (oX5 (u_3 39) (u_3 40) (u_3 41) 0), (aI g (u_3 40) 6 (fun _ => 0)), (aI g (u_3 41) 36 (fun _ => 0)), (oX5 (u_3 42) (u_3 43) (u_3 44) 0), (aI g (u_3 43) 6 (fun _ => 0)), (aI g (u_3 44) 36 (fun _ => 0)), (oX5 (u_3 45) (u_3 46) (u_3 47) 0), (aI g (u_3 46) 6 (fun _ => 0)), (aI g (u_3 47) 36 (fun _ => 0)), (oX5 (u_3 48) (u_3 49) (u_3 50) 0), (aI g (u_3 49) 6 (fun _ => 0)), (aI g (u_3 50) 36 (fun _ => 0)), (oX5 (u_3 51) (u_3 52) (u_3 53) 0), (aI g (u_3 52) 6 (fun _ => 0)), (aI g (u_3 53) 36 (fun _ => 0)), (oX5 (u_3 54) (u_3 55) (u_3 56) 0), (aI g (u_3 55) 6 (fun _ => 0)), (aI g (u_3 56) 36 (fun _ => 0))] := hD
  refine W.widen (k := 58) (n := 4729) (Nat.le_of_ble_eq_true rfl) (Nat.le_of_ble_eq_true rfl) ?_
  refine lv_astore_n (lv' := [(1, .ref q_1), (0, .ref b)]) hx hb dL_law_7 rfl hl (by decide) rfl (fun ls hl => ?_)
  refine va_new (ci := 10) (fs := [.int 0, .int 0, .int 0, .int 0, .int 0, .int 0, .int 0, .int 0, .null, .null, .null, .null, .null, .null, .int 0, .null, .null, .null, .null, .null, .null, .null, .null, .int 0, .int 0, .int 0, .int 0, .int 0, .int 0, .null, .null, .null, .null, .int 0, .null]) (T := TX11) (N := 35) hx hb hts inX11 tyX11 tyX11_ok hown cl101 instX11 iniX11 hK hP hD hS hA rfl (by decide) (Nat.le_of_ble_eq_true rfl) (Nat.le_of_ble_eq_true rfl) dL_law_8 (fun q_5 H hP hD hS => ?_)
  have hP : va_P g.1 vwCl [(oX10 q_1 (u_3 0) 0 (u_3 1) (u_3 4) (u_3 9) (u_3 14) 0 (u_3 15) (u_3 27) 0 (u_3 28) (u_3 31) (u_3 35)), (aB g (u_3 0) 500 (fun _ => 0)), (oX7 (u_3 1) (u_3 3) 0 0 0 (-1) (u_3 2)), (aB g (u_3 3) 0 (fun _ => 0)), (aI g (u_3 2) 3 (fun _ => 0)), (oX6 (u_3 4) (u_3 5) (u_3 6) (u_3 7) (u_3 8) 0), (aI g (u_3 5) 24 (flF unF (fun _ => 0) 24)), (aI g (u_3 6) 10 (flF nrF (fun _ => 0) 10)), (aI g (u_3 7) 6 (fun _ => 0)), (aI g (u_3 8) 6 (fun _ => 0)), (oX6 (u_3 9) (u_3 10) (u_3 11) (u_3 12) (u_3 13) 0), (aI g (u_3 10) 24 (flF unF (fun _ => 0) 24)), (aI g (u_3 11) 10 (flF nrF (fun _ => 0) 10)), (aI g (u_3 12) 6 (fun _ => 0)), (aI g (u_3 13) 6 (fun _ => 0)), (aP g (u_3 14) 7 (va_up (va_up (va_up (va_up (va_up (va_up (va_up (fun _ => none) 0 (some (u_3 36))) 1 (some (u_3 39))) 2 (some (u_3 42))) 3 (some (u_3 45))) 4 (some (u_3 48))) 5 (some (u_3 51))) 6 (some (u_3 54)))), (oX8 (u_3 15) (u_3 16) (u_3 19) (u_3 21) (u_3 24)), (oX4 (u_3 16) (u_3 17) (u_3 18) 0), (aI g (u_3 17) 24 (beginF (flF unF (fun _ => 0) 24) (fun _ => 0) 0 (fun _ => 0))), (aI g (u_3 18) 6 (fun _ => 0)), (oX0 (u_3 19) (u_3 20)), (aI g (u_3 20) 3600 (fun _ => 0)), (oX2 (u_3 21) (u_3 22) (u_3 23) 1 1 1 1 0), (aI g (u_3 22) 4 (upd (upd (upd (upd (fun _ => 0) 0 8) 1 8) 2 8) 3 8)), (aI g (u_3 23) 4 (upd (upd (upd (upd (fun _ => 0) 0 8) 1 8) 2 8) 3 8)), (oX3 (u_3 24) (u_3 25) (u_3 26)), (aI g (u_3 25) 36 (fun _ => 0)), (aI g (u_3 26) 39 (fun _ => 0)), (aS g (u_3 27) 3 (fun _ => none)), (oX4 (u_3 28) (u_3 29) (u_3 30) 0), (aI g (u_3 29) 24 (fun _ => 0)), (aI g (u_3 30) 6 (fun _ => 0)), (oX1 (u_3 31) (u_3 32) (u_3 33) (u_3 34) 0 0), (aI g (u_3 32) 3 (fun _ => 0)), (aI g (u_3 33) 3 (fun _ => 0)), (aI g (u_3 34) 3 (fun _ => 0)), (aI g (u_3 35) 3 (fun _ => 0)), (oX5 (u_3 36) (u_3 37) (u_3 38) 0), (aI g (u_3 37) 6 (fun _ => 0)), (aI g (u_3 38) 36 (fun _ => 0)), (oX5 (u_3 39) (u_3 40) (u_3 41) 0), (aI g (u_3 40) 6 (fun _ => 0)), (aI g (u_3 41) 36 (fun _ => 0)), (oX5 (u_3 42) (u_3 43) (u_3 44) 0), (aI g (u_3 43) 6 (fun _ => 0)), (aI g (u_3 44) 36 (fun _ => 0)), (oX5 (u_3 45) (u_3 46) (u_3 47) 0), (aI g (u_3 46) 6 (fun _ => 0)), (aI g (u_3 47) 36 (fun _ => 0)), (oX5 (u_3 48) (u_3 49) (u_3 50) 0), (aI g (u_3 49) 6 (fun _ => 0)), (aI g (u_3 50) 36 (fun _ => 0)), (oX5 (u_3 51) (u_3 52) (u_3 53) 0), (aI g (u_3 52) 6 (fun _ => 0)), (aI g (u_3 53) 36 (fun _ => 0)), (oX5 (u_3 54) (u_3 55) (u_3 56) 0), (aI g (u_3 55) 6 (fun _ => 0)), (aI g (u_3 56) 36 (fun _ => 0)), (q_5, .inr (10, [.int 0, .int 0, .int 0, .int 0, .int 0, .int 0, .int 0, .int 0, .null, .null, .null, .null, .null, .null, .int 0, .null, .null, .null, .null, .null, .null, .null, .null, .int 0, .int 0, .int 0, .int 0, .int 0, .int 0, .null, .null, .null, .null, .int 0, .null]))] H := hP
  have hD : va_D (lw_A s) [(oX10 q_1 (u_3 0) 0 (u_3 1) (u_3 4) (u_3 9) (u_3 14) 0 (u_3 15) (u_3 27) 0 (u_3 28) (u_3 31) (u_3 35)), (aB g (u_3 0) 500 (fun _ => 0)), (oX7 (u_3 1) (u_3 3) 0 0 0 (-1) (u_3 2)), (aB g (u_3 3) 0 (fun _ => 0)), (aI g (u_3 2) 3 (fun _ => 0)), (oX6 (u_3 4) (u_3 5) (u_3 6) (u_3 7) (u_3 8) 0), (aI g (u_3 5) 24 (flF unF (fun _ => 0) 24)), (aI g (u_3 6) 10 (flF nrF (fun _ => 0) 10)), (aI g (u_3 7) 6 (fun _ => 0)), (aI g (u_3 8) 6 (fun _ => 0)), (oX6 (u_3 9) (u_3 10) (u_3 11) (u_3 12) (u_3 13) 0), (aI g (u_3 10) 24 (flF unF (fun _ => 0) 24)), (aI g (u_3 11) 10 (flF nrF (fun _ => 0) 10)), (aI g (u_3 12) 6 (fun _ => 0)), (aI g (u_3 13) 6 (fun _ => 0)), (aP g (u_3 14) 7 (va_up (va_up (va_up (va_up (va_up (va_up (va_up (fun _ => none) 0 (some (u_3 36))) 1 (some (u_3 39))) 2 (some (u_3 42))) 3 (some (u_3 45))) 4 (some (u_3 48))) 5 (some (u_3 51))) 6 (some (u_3 54)))), (oX8 (u_3 15) (u_3 16) (u_3 19) (u_3 21) (u_3 24)), (oX4 (u_3 16) (u_3 17) (u_3 18) 0), (aI g (u_3 17) 24 (beginF (flF unF (fun _ => 0) 24) (fun _ => 0) 0 (fun _ => 0))), (aI g (u_3 18) 6 (fun _ => 0)), (oX0 (u_3 19) (u_3 20)), (aI g (u_3 20) 3600 (fun _ => 0)), (oX2 (u_3 21) (u_3 22) (u_3 23) 1 1 1 1 0), (aI g (u_3 22) 4 (upd (upd (upd (upd (fun _ => 0) 0 8) 1 8) 2 8) 3 8)), (aI g (u_3 23) 4 (upd (upd (upd (upd (fun _ => 0) 0 8) 1 8) 2 8) 3 8)), (oX3 (u_3 24) (u_3 25) (u_3 26)), (aI g (u_3 25) 36 (fun _ => 0)), (aI g (u_3 26) 39 (fun _ => 0)), (aS g (u_3 27) 3 (fun _ => none)), (oX4 (u_3 28) (u_3 29) (u_3 30) 0), (aI g (u_3 29) 24 (fun _ => 0)), (aI g (u_3 30) 6 (fun _ => 0)), (oX1 (u_3 31) (u_3 32) (u_3 33) (u_3 34) 0 0), (aI g (u_3 32) 3 (fun _ => 0)), (aI g (u_3 33) 3 (fun _ => 0)), (aI g (u_3 34) 3 (fun _ => 0)), (aI g (u_3 35) 3 (fun _ => 0)), (oX5 (u_3 36) (u_3 37) (u_3 38) 0), (aI g (u_3 37) 6 (fun _ => 0)), (aI g (u_3 38) 36 (fun _ => 0)), (oX5 (u_3 39) (u_3 40) (u_3 41) 0), (aI g (u_3 40) 6 (fun _ => 0)), (aI g (u_3 41) 36 (fun _ => 0)), (oX5 (u_3 42) (u_3 43) (u_3 44) 0), (aI g (u_3 43) 6 (fun _ => 0)), (aI g (u_3 44) 36 (fun _ => 0)), (oX5 (u_3 45) (u_3 46) (u_3 47) 0), (aI g (u_3 46) 6 (fun _ => 0)), (aI g (u_3 47) 36 (fun _ => 0)), (oX5 (u_3 48) (u_3 49) (u_3 50) 0), (aI g (u_3 49) 6 (fun _ => 0)), (aI g (u_3 50) 36 (fun _ => 0)), (oX5 (u_3 51) (u_3 52) (u_3 53) 0), (aI g (u_3 52) 6 (fun _ => 0)), (aI g (u_3 53) 36 (fun _ => 0)), (oX5 (u_3 54) (u_3 55) (u_3 56) 0), (aI g (u_3 55) 6 (fun _ => 0)), (aI g (u_3 56) 36 (fun _ => 0)), (q_5, .inr (10, [.int 0, .int 0, .int 0, .int 0, .int 0, .int 0, .int 0, .int 0, .null, .null, .null, .null, .null, .null, .int 0, .null, .null, .null, .null, .null, .null, .null, .null, .int 0, .int 0, .int 0, .int 0, .int 0, .int 0, .null, .null, .null, .null, .int 0, .null]))] := hD
  refine W.widen (k := 59) (n := 4764) (Nat.le_of_ble_eq_true rfl) (Nat.le_of_ble_eq_true rfl) ?_
  refine lv_dup hx hb dL_law_11 rfl ?_
  refine he_cv (wc := [(q_5, .inr (10, [.int 0, .int 0, .int 0, .int 0, .int 0, .int 0, .int 0, .int 0, .null, .null, .null, .null, .null, .null, .int 0, .null, .null, .null, .null, .null, .null, .null, .null, .int 0, .int 0, .int 0, .int 0, .int 0, .int 0, .null, .null, .null, .null, .int 0, .null]))]) (wr := [(oX10 q_1 (u_3 0) 0 (u_3 1) (u_3 4) (u_3 9) (u_3 14) 0 (u_3 15) (u_3 27) 0 (u_3 28) (u_3 31) (u_3 35)), (aB g (u_3 0) 500 (fun _ => 0)), (oX7 (u_3 1) (u_3 3) 0 0 0 (-1) (u_3 2)), (aB g (u_3 3) 0 (fun _ => 0)), (aI g (u_3 2) 3 (fun _ => 0)), (oX6 (u_3 4) (u_3 5) (u_3 6) (u_3 7) (u_3 8) 0), (aI g (u_3 5) 24 (flF unF (fun _ => 0) 24)), (aI g (u_3 6) 10 (flF nrF (fun _ => 0) 10)), (aI g (u_3 7) 6 (fun _ => 0)), (aI g (u_3 8) 6 (fun _ => 0)), (oX6 (u_3 9) (u_3 10) (u_3 11) (u_3 12) (u_3 13) 0), (aI g (u_3 10) 24 (flF unF (fun _ => 0) 24)), (aI g (u_3 11) 10 (flF nrF (fun _ => 0) 10)), (aI g (u_3 12) 6 (fun _ => 0)), (aI g (u_3 13) 6 (fun _ => 0)), (aP g (u_3 14) 7 (va_up (va_up (va_up (va_up (va_up (va_up (va_up (fun _ => none) 0 (some (u_3 36))) 1 (some (u_3 39))) 2 (some (u_3 42))) 3 (some (u_3 45))) 4 (some (u_3 48))) 5 (some (u_3 51))) 6 (some (u_3 54)))), (oX8 (u_3 15) (u_3 16) (u_3 19) (u_3 21) (u_3 24)), (oX4 (u_3 16) (u_3 17) (u_3 18) 0), (aI g (u_3 17) 24 (beginF (flF unF (fun _ => 0) 24) (fun _ => 0) 0 (fun _ => 0))), (aI g (u_3 18) 6 (fun _ => 0)), (oX0 (u_3 19) (u_3 20)), (aI g (u_3 20) 3600 (fun _ => 0)), (oX2 (u_3 21) (u_3 22) (u_3 23) 1 1 1 1 0), (aI g (u_3 22) 4 (upd (upd (upd (upd (fun _ => 0) 0 8) 1 8) 2 8) 3 8)), (aI g (u_3 23) 4 (upd (upd (upd (upd (fun _ => 0) 0 8) 1 8) 2 8) 3 8)), (oX3 (u_3 24) (u_3 25) (u_3 26)), (aI g (u_3 25) 36 (fun _ => 0)), (aI g (u_3 26) 39 (fun _ => 0)), (aS g (u_3 27) 3 (fun _ => none)), (oX4 (u_3 28) (u_3 29) (u_3 30) 0), (aI g (u_3 29) 24 (fun _ => 0)), (aI g (u_3 30) 6 (fun _ => 0)), (oX1 (u_3 31) (u_3 32) (u_3 33) (u_3 34) 0 0), (aI g (u_3 32) 3 (fun _ => 0)), (aI g (u_3 33) 3 (fun _ => 0)), (aI g (u_3 34) 3 (fun _ => 0)), (aI g (u_3 35) 3 (fun _ => 0)), (oX5 (u_3 36) (u_3 37) (u_3 38) 0), (aI g (u_3 37) 6 (fun _ => 0)), (aI g (u_3 38) 36 (fun _ => 0)), (oX5 (u_3 39) (u_3 40) (u_3 41) 0), (aI g (u_3 40) 6 (fun _ => 0)), (aI g (u_3 41) 36 (fun _ => 0)), (oX5 (u_3 42) (u_3 43) (u_3 44) 0), (aI g (u_3 43) 6 (fun _ => 0)), (aI g (u_3 44) 36 (fun _ => 0)), (oX5 (u_3 45) (u_3 46) (u_3 47) 0), (aI g (u_3 46) 6 (fun _ => 0)), (aI g (u_3 47) 36 (fun _ => 0)), (oX5 (u_3 48) (u_3 49) (u_3 50) 0), (aI g (u_3 49) 6 (fun _ => 0)), (aI g (u_3 50) 36 (fun _ => 0)), (oX5 (u_3 51) (u_3 52) (u_3 53) 0), (aI g (u_3 52) 6 (fun _ => 0)), (aI g (u_3 53) 36 (fun _ => 0)), (oX5 (u_3 54) (u_3 55) (u_3 56) 0), (aI g (u_3 55) 6 (fun _ => 0)), (aI g (u_3 56) 36 (fun _ => 0))]) (va_runI (As := []) (rest := [.ref q_5]) ⟨hx, hb, hml, hown, hts⟩ (r_X11_init l g q_5 H.size) (cwI 0 hts gL_law_X11_init rfl rfl rfl iniX11 lk103 im_yX11_init rfl (by decide +kernel) ⟨Nat.le_of_ble_eq_true rfl, Nat.le_of_ble_eq_true rfl⟩) (he_preS (wc := [(q_5, .inr (10, [.int 0, .int 0, .int 0, .int 0, .int 0, .int 0, .int 0, .int 0, .null, .null, .null, .null, .null, .null, .int 0, .null, .null, .null, .null, .null, .null, .null, .null, .int 0, .int 0, .int 0, .int 0, .int 0, .int 0, .null, .null, .null, .null, .int 0, .null]))]) hK hP hD hS hA hE [58] rfl rfl) rfl rfl hl.1 rfl (lv_room (Nat.le_of_ble_eq_true rfl)) dL_law_12 ⟨(Nat.le_of_ble_eq_true rfl), (Nat.le_of_ble_eq_true rfl)⟩) hP hD hS hA [58] [0, 1, 2, 3, 4, 5, 6, 7, 8, 9, 10, 11, 12, 13, 14, 15, 16, 17, 18, 19, 20, 21, 22, 23, 24, 25, 26, 27, 28, 29, 30, 31, 32, 33, 34, 35, 36, 37, 38, 39, 40, 41, 42, 43, 44, 45, 46, 47, 48, 49, 50, 51, 52, 53, 54, 55, 56, 57] rfl rfl rfl (by decide) (fun u_7 H locs h_8 hP hD hS => ?_)
  try dsimp only at h_8
  obtain ⟨hf_9, hf_10, hf_11, hf_12, hf_13, hf_14, hf_15, hf_16, hf_17, hf_18, hf_19, hf_20, hf_21, hf_22, hf_23, hf_24, hf_25, hf_26, hf_27, hf_28, hf_29, hf_30, hf_31, hf_32, hf_33, hf_34, hf_35, hf_36, hf_37, hf_38, hf_39, hf_40, hf_41, hf_42, hf_43, hf_44, hf_45, hf_46, hf_47, hf_48, hf_49, hf_50, hf_51, hf_52, hf_53, hf_54, hf_55, hf_56, hf_57, hf_58, hf_59, hf_60, hf_61, hf_62, hf_63, hf_64, hf_65, hf_66, hf_67, hf_68, hf_69, hf_70, hf_71, hf_72, hf_73, hf_74, hf_75, hf_76, hf_77, hf_78, hf_79, hf_80, hf_81, hf_82, hf_83, hf_84, hf_85, hf_86, hf_87, hf_88, hf_89⟩ := h_8
  have hP : va_P g.1 vwCl ([(oX10 q_1 (u_3 0) 0 (u_3 1) (u_3 4) (u_3 9) (u_3 14) 0 (u_3 15) (u_3 27) 0 (u_3 28) (u_3 31) (u_3 35)), (aB g (u_3 0) 500 (fun _ => 0)), (oX7 (u_3 1) (u_3 3) 0 0 0 (-1) (u_3 2)), (aB g (u_3 3) 0 (fun _ => 0)), (aI g (u_3 2) 3 (fun _ => 0)), (oX6 (u_3 4) (u_3 5) (u_3 6) (u_3 7) (u_3 8) 0), (aI g (u_3 5) 24 (flF unF (fun _ => 0) 24)), (aI g (u_3 6) 10 (flF nrF (fun _ => 0) 10)), (aI g (u_3 7) 6 (fun _ => 0)), (aI g (u_3 8) 6 (fun _ => 0)), (oX6 (u_3 9) (u_3 10) (u_3 11) (u_3 12) (u_3 13) 0), (aI g (u_3 10) 24 (flF unF (fun _ => 0) 24)), (aI g (u_3 11) 10 (flF nrF (fun _ => 0) 10)), (aI g (u_3 12) 6 (fun _ => 0)), (aI g (u_3 13) 6 (fun _ => 0)), (aP g (u_3 14) 7 (va_up (va_up (va_up (va_up (va_up (va_up (va_up (fun _ => none) 0 (some (u_3 36))) 1 (some (u_3 39))) 2 (some (u_3 42))) 3 (some (u_3 45))) 4 (some (u_3 48))) 5 (some (u_3 51))) 6 (some (u_3 54)))), (oX8 (u_3 15) (u_3 16) (u_3 19) (u_3 21) (u_3 24)), (oX4 (u_3 16) (u_3 17) (u_3 18) 0), (aI g (u_3 17) 24 (beginF (flF unF (fun _ => 0) 24) (fun _ => 0) 0 (fun _ => 0))), (aI g (u_3 18) 6 (fun _ => 0)), (oX0 (u_3 19) (u_3 20)), (aI g (u_3 20) 3600 (fun _ => 0)), (oX2 (u_3 21) (u_3 22) (u_3 23) 1 1 1 1 0), (aI g (u_3 22) 4 (upd (upd (upd (upd (fun _ => 0) 0 8) 1 8) 2 8) 3 8)), (aI g (u_3 23) 4 (upd (upd (upd (upd (fun _ => 0) 0 8) 1 8) 2 8) 3 8)), (oX3 (u_3 24) (u_3 25) (u_3 26)), (aI g (u_3 25) 36 (fun _ => 0)), (aI g (u_3 26) 39 (fun _ => 0)), (aS g (u_3 27) 3 (fun _ => none)), (oX4 (u_3 28) (u_3 29) (u_3 30) 0), (aI g (u_3 29) 24 (fun _ => 0)), (aI g (u_3 30) 6 (fun _ => 0)), (oX1 (u_3 31) (u_3 32) (u_3 33) (u_3 34) 0 0), (aI g (u_3 32) 3 (fun _ => 0)), (aI g (u_3 33) 3 (fun _ => 0)), (aI g (u_3 34) 3 (fun _ => 0)), (aI g (u_3 35) 3 (fun _ => 0)), (oX5 (u_3 36) (u_3 37) (u_3 38) 0), (aI g (u_3 37) 6 (fun _ => 0)), (aI g (u_3 38) 36 (fun _ => 0)), (oX5 (u_3 39) (u_3 40) (u_3 41) 0), (aI g (u_3 40) 6 (fun _ => 0)), (aI g (u_3 41) 36 (fun _ => 0)), (oX5 (u_3 42) (u_3 43) (u_3 44) 0), (aI g (u_3 43) 6 (fun _ => 0)), (aI g (u_3 44) 36 (fun _ => 0)), (oX5 (u_3 45) (u_3 46) (u_3 47) 0), (aI g (u_3 46) 6 (fun _ => 0)), (aI g (u_3 47) 36 (fun _ => 0)), (oX5 (u_3 48) (u_3 49) (u_3 50) 0), (aI g (u_3 49) 6 (fun _ => 0)), (aI g (u_3 50) 36 (fun _ => 0)), (oX5 (u_3 51) (u_3 52) (u_3 53) 0), (aI g (u_3 52) 6 (fun _ => 0)), (aI g (u_3 53) 36 (fun _ => 0)), (oX5 (u_3 54) (u_3 55) (u_3 56) 0), (aI g (u_3 55) 6 (fun _ => 0)), (aI g (u_3 56) 36 (fun _ => 0)), (oX11 q_5 0 0 0 (-1) 0 0 0 0 (u_7.1 0) (u_7.1 1) (u_7.1 2) (u_7.1 3) (u_7.1 4) (u_7.1 5) 0 (u_7.1 6) (u_7.1 7) (u_7.1 8) (u_7.1 9) (u_7.1 10) (u_7.1 11) (u_7.1 12) (u_7.1 13) 0 1 1 0 0 0 (u_7.1 14) (u_7.1 15) (u_7.1 16) (u_7.1 17) 0 (u_7.1 18)), (aI g (u_7.1 0) 500 (fun _ => 0)), (aI g (u_7.1 1) 3 (fun _ => 0)), (aI g (u_7.1 2) 25 (tnF (fun _ => 0))), (aI g (u_7.1 3) 25 (flF (tnF (fun _ => 0)) (fun _ => 0) 25)), (aI g (u_7.1 6) 7 (fun _ => 0)), (aI g (u_7.1 7) 36 (fun _ => 0)), (aI g (u_7.1 10) 25 u_7.2.2.2.2.2), (aI g (u_7.1 11) 25 (fun _ => 0)), (aM g (u_7.1 4) 6 (he_ro 6 (u_7.2.2.2.2.1 1))), (aM g (u_7.1 5) 6 (he_ro 6 (u_7.2.2.2.2.1 2))), (aM g (u_7.1 8) 7 (he_ro 7 (u_7.2.2.2.2.1 3))), (aM g (u_7.1 9) 7 (he_ro 7 (u_7.2.2.2.2.1 4))), (aM g (u_7.1 12) 121 (he_ro 121 (u_7.2.2.2.2.1 5))), (aM g (u_7.1 13) 120 (he_ro 120 (u_7.2.2.2.2.1 6))), (aM g (u_7.1 14) 4 (he_ro 4 (u_7.2.2.2.2.1 7))), (aM g (u_7.1 15) 12 (he_ro 12 (u_7.2.2.2.2.1 8))), (aM g (u_7.1 16) 2 (he_ro 2 (u_7.2.2.2.2.1 9))), (aM g (u_7.1 17) 3 (he_ro 3 (u_7.2.2.2.2.1 10))), (aM g (u_7.1 18) 13 (he_ro 13 (u_7.2.2.2.2.1 11)))] ++ he_pl g u_7.2.1 u_7.2.2.1 u_7.2.2.2.1) H := hP
  have hD : va_D (lw_A s) ([(oX10 q_1 (u_3 0) 0 (u_3 1) (u_3 4) (u_3 9) (u_3 14) 0 (u_3 15) (u_3 27) 0 (u_3 28) (u_3 31) (u_3 35)), (aB g (u_3 0) 500 (fun _ => 0)), (oX7 (u_3 1) (u_3 3) 0 0 0 (-1) (u_3 2)), (aB g (u_3 3) 0 (fun _ => 0)), (aI g (u_3 2) 3 (fun _ => 0)), (oX6 (u_3 4) (u_3 5) (u_3 6) (u_3 7) (u_3 8) 0), (aI g (u_3 5) 24 (flF unF (fun _ => 0) 24)), (aI g (u_3 6) 10 (flF nrF (fun _ => 0) 10)), (aI g (u_3 7) 6 (fun _ => 0)), (aI g (u_3 8) 6 (fun _ => 0)), (oX6 (u_3 9) (u_3 10) (u_3 11) (u_3 12) (u_3 13) 0), (aI g (u_3 10) 24 (flF unF (fun _ => 0) 24)), (aI g (u_3 11) 10 (flF nrF (fun _ => 0) 10)), (aI g (u_3 12) 6 (fun _ => 0)), (aI g (u_3 13) 6 (fun _ => 0)), (aP g (u_3 14) 7 (va_up (va_up (va_up (va_up (va_up (va_up (va_up (fun _ => none) 0 (some (u_3 36))) 1 (some (u_3 39))) 2 (some (u_3 42))) 3 (some (u_3 45))) 4 (some (u_3 48))) 5 (some (u_3 51))) 6 (some (u_3 54)))), (oX8 (u_3 15) (u_3 16) (u_3 19) (u_3 21) (u_3 24)), (oX4 (u_3 16) (u_3 17) (u_3 18) 0), (aI g (u_3 17) 24 (beginF (flF unF (fun _ => 0) 24) (fun _ => 0) 0 (fun _ => 0))), (aI g (u_3 18) 6 (fun _ => 0)), (oX0 (u_3 19) (u_3 20)), (aI g (u_3 20) 3600 (fun _ => 0)), (oX2 (u_3 21) (u_3 22) (u_3 23) 1 1 1 1 0), (aI g (u_3 22) 4 (upd (upd (upd (upd (fun _ => 0) 0 8) 1 8) 2 8) 3 8)), (aI g (u_3 23) 4 (upd (upd (upd (upd (fun _ => 0) 0 8) 1 8) 2 8) 3 8)), (oX3 (u_3 24) (u_3 25) (u_3 26)), (aI g (u_3 25) 36 (fun _ => 0)), (aI g (u_3 26) 39 (fun _ => 0)), (aS g (u_3 27) 3 (fun _ => none)), (oX4 (u_3 28) (u_3 29) (u_3 30) 0), (aI g (u_3 29) 24 (fun _ => 0)), (aI g (u_3 30) 6 (fun _ => 0)), (oX1 (u_3 31) (u_3 32) (u_3 33) (u_3 34) 0 0), (aI g (u_3 32) 3 (fun _ => 0)), (aI g (u_3 33) 3 (fun _ => 0)), (aI g (u_3 34) 3 (fun _ => 0)), (aI g (u_3 35) 3 (fun _ => 0)), (oX5 (u_3 36) (u_3 37) (u_3 38) 0), (aI g (u_3 37) 6 (fun _ => 0)), (aI g (u_3 38) 36 (fun _ => 0)), (oX5 (u_3 39) (u_3 40) (u_3 41) 0), (aI g (u_3 40) 6 (fun _ => 0)), (aI g (u_3 41) 36 (fun _ => 0)), (oX5 (u_3 42) (u_3 43) (u_3 44) 0), (aI g (u_3 43) 6 (fun _ => 0)), (aI g (u_3 44) 36 (fun _ => 0)), (oX5 (u_3 45) (u_3 46) (u_3 47) 0), (aI g (u_3 46) 6 (fun _ => 0)), (aI g (u_3 47) 36 (fun _ => 0)), (oX5 (u_3 48) (u_3 49) (u_3 50) 0), (aI g (u_3 49) 6 (fun _ => 0)), (aI g (u_3 50) 36 (fun _ => 0)), (oX5 (u_3 51) (u_3 52) (u_3 53) 0), (aI g (u_3 52) 6 (fun _ => 0)), (aI g (u_3 53) 36 (fun _ => 0)), (oX5 (u_3 54) (u_3 55) (u_3 56) 0), (aI g (u_3 55) 6 (fun _ => 0)), (aI g (u_3 56) 36 (fun _ => 0)), (oX11 q_5 0 0 0 (-1) 0 0 0 0 (u_7.1 0) (u_7.1 1) (u_7.1 2) (u_7.1 3) (u_7.1 4) (u_7.1 5) 0 (u_7.1 6) (u_7.1 7) (u_7.1 8) (u_7.1 9) (u_7.1 10) (u_7.1 11) (u_7.1 12) (u_7.1 13) 0 1 1 0 0 0 (u_7.1 14) (u_7.1 15) (u_7.1 16) (u_7.1 17) 0 (u_7.1 18)), (aI g (u_7.1 0) 500 (fun _ => 0)), (aI g (u_7.1 1) 3 (fun _ => 0)), (aI g (u_7.1 2) 25 (tnF (fun _ => 0))), (aI g (u_7.1 3) 25 (flF (tnF (fun _ => 0)) (fun _ => 0) 25)), (aI g (u_7.1 6) 7 (fun _ => 0)), (aI g (u_7.1 7) 36 (fun _ => 0)), (aI g (u_7.1 10) 25 u_7.2.2.2.2.2), (aI g (u_7.1 11) 25 (fun _ => 0)), (aM g (u_7.1 4) 6 (he_ro 6 (u_7.2.2.2.2.1 1))), (aM g (u_7.1 5) 6 (he_ro 6 (u_7.2.2.2.2.1 2))), (aM g (u_7.1 8) 7 (he_ro 7 (u_7.2.2.2.2.1 3))), (aM g (u_7.1 9) 7 (he_ro 7 (u_7.2.2.2.2.1 4))), (aM g (u_7.1 12) 121 (he_ro 121 (u_7.2.2.2.2.1 5))), (aM g (u_7.1 13) 120 (he_ro 120 (u_7.2.2.2.2.1 6))), (aM g (u_7.1 14) 4 (he_ro 4 (u_7.2.2.2.2.1 7))), (aM g (u_7.1 15) 12 (he_ro 12 (u_7.2.2.2.2.1 8))), (aM g (u_7.1 16) 2 (he_ro 2 (u_7.2.2.2.2.1 9))), (aM g (u_7.1 17) 3 (he_ro 3 (u_7.2.2.2.2.1 10))), (aM g (u_7.1 18) 13 (he_ro 13 (u_7.2.2.2.2.1 11)))] ++ he_pl g u_7.2.1 u_7.2.2.1 u_7.2.2.2.1) := hD
  refine W.widen (k := 380) (n := 21441) (Nat.le_of_ble_eq_true rfl) (Nat.le_of_ble_eq_true rfl) ?_
  refine lv_astore_n (lv' := [(2, .ref q_5), (1, .ref q_1), (0, .ref b)]) hx hb dL_law_15 rfl hl (by decide) rfl (fun ls hl => ?_)
  refine lv_iconst (v := 1) hx hb dL_law_16 (by decide) ?_
  refine he_newl hx hb harr_long hK hP hD hS hA 1 (by decide) (by decide) (by decide) (Nat.le_of_ble_eq_true rfl) (Nat.le_of_ble_eq_true rfl) dL_law_17 (fun q_90 H hP hD hS => ?_)
  have hP := va_P.swap hP
  have hD := va_D.swap hD
  have hP : va_P g.1 vwCl ([(oX10 q_1 (u_3 0) 0 (u_3 1) (u_3 4) (u_3 9) (u_3 14) 0 (u_3 15) (u_3 27) 0 (u_3 28) (u_3 31) (u_3 35)), (aB g (u_3 0) 500 (fun _ => 0)), (oX7 (u_3 1) (u_3 3) 0 0 0 (-1) (u_3 2)), (aB g (u_3 3) 0 (fun _ => 0)), (aI g (u_3 2) 3 (fun _ => 0)), (oX6 (u_3 4) (u_3 5) (u_3 6) (u_3 7) (u_3 8) 0), (aI g (u_3 5) 24 (flF unF (fun _ => 0) 24)), (aI g (u_3 6) 10 (flF nrF (fun _ => 0) 10)), (aI g (u_3 7) 6 (fun _ => 0)), (aI g (u_3 8) 6 (fun _ => 0)), (oX6 (u_3 9) (u_3 10) (u_3 11) (u_3 12) (u_3 13) 0), (aI g (u_3 10) 24 (flF unF (fun _ => 0) 24)), (aI g (u_3 11) 10 (flF nrF (fun _ => 0) 10)), (aI g (u_3 12) 6 (fun _ => 0)), (aI g (u_3 13) 6 (fun _ => 0)), (aP g (u_3 14) 7 (va_up (va_up (va_up (va_up (va_up (va_up (va_up (fun _ => none) 0 (some (u_3 36))) 1 (some (u_3 39))) 2 (some (u_3 42))) 3 (some (u_3 45))) 4 (some (u_3 48))) 5 (some (u_3 51))) 6 (some (u_3 54)))), (oX8 (u_3 15) (u_3 16) (u_3 19) (u_3 21) (u_3 24)), (oX4 (u_3 16) (u_3 17) (u_3 18) 0), (aI g (u_3 17) 24 (beginF (flF unF (fun _ => 0) 24) (fun _ => 0) 0 (fun _ => 0))), (aI g (u_3 18) 6 (fun _ => 0)), (oX0 (u_3 19) (u_3 20)), (aI g (u_3 20) 3600 (fun _ => 0)), (oX2 (u_3 21) (u_3 22) (u_3 23) 1 1 1 1 0), (aI g (u_3 22) 4 (upd (upd (upd (upd (fun _ => 0) 0 8) 1 8) 2 8) 3 8)), (aI g (u_3 23) 4 (upd (upd (upd (upd (fun _ => 0) 0 8) 1 8) 2 8) 3 8)), (oX3 (u_3 24) (u_3 25) (u_3 26)), (aI g (u_3 25) 36 (fun _ => 0)), (aI g (u_3 26) 39 (fun _ => 0)), (aS g (u_3 27) 3 (fun _ => none)), (oX4 (u_3 28) (u_3 29) (u_3 30) 0), (aI g (u_3 29) 24 (fun _ => 0)), (aI g (u_3 30) 6 (fun _ => 0)), (oX1 (u_3 31) (u_3 32) (u_3 33) (u_3 34) 0 0), (aI g (u_3 32) 3 (fun _ => 0)), (aI g (u_3 33) 3 (fun _ => 0)), (aI g (u_3 34) 3 (fun _ => 0)), (aI g (u_3 35) 3 (fun _ => 0)), (oX5 (u_3 36) (u_3 37) (u_3 38) 0), (aI g (u_3 37) 6 (fun _ => 0)), (aI g (u_3 38) 36 (fun _ => 0)), (oX5 (u_3 39) (u_3 40) (u_3 41) 0), (aI g (u_3 40) 6 (fun _ => 0)), (aI g (u_3 41) 36 (fun _ => 0)), (oX5 (u_3 42) (u_3 43) (u_3 44) 0), (aI g (u_3 43) 6 (fun _ => 0)), (aI g (u_3 44) 36 (fun _ => 0)), (oX5 (u_3 45) (u_3 46) (u_3 47) 0), (aI g (u_3 46) 6 (fun _ => 0)), (aI g (u_3 47) 36 (fun _ => 0)), (oX5 (u_3 48) (u_3 49) (u_3 50) 0), (aI g (u_3 49) 6 (fun _ => 0)), (aI g (u_3 50) 36 (fun _ => 0)), (oX5 (u_3 51) (u_3 52) (u_3 53) 0), (aI g (u_3 52) 6 (fun _ => 0)), (aI g (u_3 53) 36 (fun _ => 0)), (oX5 (u_3 54) (u_3 55) (u_3 56) 0), (aI g (u_3 55) 6 (fun _ => 0)), (aI g (u_3 56) 36 (fun _ => 0)), (oX11 q_5 0 0 0 (-1) 0 0 0 0 (u_7.1 0) (u_7.1 1) (u_7.1 2) (u_7.1 3) (u_7.1 4) (u_7.1 5) 0 (u_7.1 6) (u_7.1 7) (u_7.1 8) (u_7.1 9) (u_7.1 10) (u_7.1 11) (u_7.1 12) (u_7.1 13) 0 1 1 0 0 0 (u_7.1 14) (u_7.1 15) (u_7.1 16) (u_7.1 17) 0 (u_7.1 18)), (aI g (u_7.1 0) 500 (fun _ => 0)), (aI g (u_7.1 1) 3 (fun _ => 0)), (aI g (u_7.1 2) 25 (tnF (fun _ => 0))), (aI g (u_7.1 3) 25 (flF (tnF (fun _ => 0)) (fun _ => 0) 25)), (aI g (u_7.1 6) 7 (fun _ => 0)), (aI g (u_7.1 7) 36 (fun _ => 0)), (aI g (u_7.1 10) 25 u_7.2.2.2.2.2), (aI g (u_7.1 11) 25 (fun _ => 0)), (aM g (u_7.1 4) 6 (he_ro 6 (u_7.2.2.2.2.1 1))), (aM g (u_7.1 5) 6 (he_ro 6 (u_7.2.2.2.2.1 2))), (aM g (u_7.1 8) 7 (he_ro 7 (u_7.2.2.2.2.1 3))), (aM g (u_7.1 9) 7 (he_ro 7 (u_7.2.2.2.2.1 4))), (aM g (u_7.1 12) 121 (he_ro 121 (u_7.2.2.2.2.1 5))), (aM g (u_7.1 13) 120 (he_ro 120 (u_7.2.2.2.2.1 6))), (aM g (u_7.1 14) 4 (he_ro 4 (u_7.2.2.2.2.1 7))), (aM g (u_7.1 15) 12 (he_ro 12 (u_7.2.2.2.2.1 8))), (aM g (u_7.1 16) 2 (he_ro 2 (u_7.2.2.2.2.1 9))), (aM g (u_7.1 17) 3 (he_ro 3 (u_7.2.2.2.2.1 10))), (aM g (u_7.1 18) 13 (he_ro 13 (u_7.2.2.2.2.1 11))), (aL g q_90 1 (fun _ => 0))] ++ he_pl g u_7.2.1 u_7.2.2.1 u_7.2.2.2.1) H := hP
  have hD : va_D (lw_A s) ([(oX10 q_1 (u_3 0) 0 (u_3 1) (u_3 4) (u_3 9) (u_3 14) 0 (u_3 15) (u_3 27) 0 (u_3 28) (u_3 31) (u_3 35)), (aB g (u_3 0) 500 (fun _ => 0)), (oX7 (u_3 1) (u_3 3) 0 0 0 (-1) (u_3 2)), (aB g (u_3 3) 0 (fun _ => 0)), (aI g (u_3 2) 3 (fun _ => 0)), (oX6 (u_3 4) (u_3 5) (u_3 6) (u_3 7) (u_3 8) 0), (aI g (u_3 5) 24 (flF unF (fun _ => 0) 24)), (aI g (u_3 6) 10 (flF nrF (fun _ => 0) 10)), (aI g (u_3 7) 6 (fun _ => 0)), (aI g (u_3 8) 6 (fun _ => 0)), (oX6 (u_3 9) (u_3 10) (u_3 11) (u_3 12) (u_3 13) 0), (aI g (u_3 10) 24 (flF unF (fun _ => 0) 24)), (aI g (u_3 11) 10 (flF nrF (fun _ => 0) 10)), (aI g (u_3 12) 6 (fun _ => 0)), (aI g (u_3 13) 6 (fun _ => 0)), (aP g (u_3 14) 7 (va_up (va_up (va_up (va_up (va_up (va_up (va_up (fun _ => none) 0 (some (u_3 36))) 1 (some (u_3 39))) 2 (some (u_3 42))) 3 (some (u_3 45))) 4 (some (u_3 48))) 5 (some (u_3 51))) 6 (some (u_3 54)))), (oX8 (u_3 15) (u_3 16) (u_3 19) (u_3 21) (u_3 24)), (oX4 (u_3 16) (u_3 17) (u_3 18) 0), (aI g (u_3 17) 24 (beginF (flF unF (fun _ => 0) 24) (fun _ => 0) 0 (fun _ => 0))), (aI g (u_3 18) 6 (fun _ => 0)), (oX0 (u_3 19) (u_3 20)), (aI g (u_3 20) 3600 (fun _ => 0)), (oX2 (u_3 21) (u_3 22) (u_3 23) 1 1 1 1 0), (aI g (u_3 22) 4 (upd (upd (upd (upd (fun _ => 0) 0 8) 1 8) 2 8) 3 8)), (aI g (u_3 23) 4 (upd (upd (upd (upd (fun _ => 0) 0 8) 1 8) 2 8) 3 8)), (oX3 (u_3 24) (u_3 25) (u_3 26)), (aI g (u_3 25) 36 (fun _ => 0)), (aI g (u_3 26) 39 (fun _ => 0)), (aS g (u_3 27) 3 (fun _ => none)), (oX4 (u_3 28) (u_3 29) (u_3 30) 0), (aI g (u_3 29) 24 (fun _ => 0)), (aI g (u_3 30) 6 (fun _ => 0)), (oX1 (u_3 31) (u_3 32) (u_3 33) (u_3 34) 0 0), (aI g (u_3 32) 3 (fun _ => 0)), (aI g (u_3 33) 3 (fun _ => 0)), (aI g (u_3 34) 3 (fun _ => 0)), (aI g (u_3 35) 3 (fun _ => 0)), (oX5 (u_3 36) (u_3 37) (u_3 38) 0), (aI g (u_3 37) 6 (fun _ => 0)), (aI g (u_3 38) 36 (fun _ => 0)), (oX5 (u_3 39) (u_3 40) (u_3 41) 0), (aI g (u_3 40) 6 (fun _ => 0)), (aI g (u_3 41) 36 (fun _ => 0)), (oX5 (u_3 42) (u_3 43) (u_3 44) 0), (aI g (u_3 43) 6 (fun _ => 0)), (aI g (u_3 44) 36 (fun _ => 0)), (oX5 (u_3 45) (u_3 46) (u_3 47) 0), (aI g (u_3 46) 6 (fun _ => 0)), (aI g (u_3 47) 36 (fun _ => 0)), (oX5 (u_3 48) (u_3 49) (u_3 50) 0), (aI g (u_3 49) 6 (fun _ => 0)), (aI g (u_3 50) 36 (fun _ => 0)), (oX5 (u_3 51) (u_3 52) (u_3 53) 0), (aI g (u_3 52) 6 (fun _ => 0)), (aI g (u_3 53) 36 (fun _ => 0)), (oX5 (u_3 54) (u_3 55) (u_3 56) 0), (aI g (u_3 55) 6 (fun _ => 0)), (aI g (u_3 56) 36 (fun _ => 0)), (oX11 q_5 0 0 0 (-1) 0 0 0 0 (u_7.1 0) (u_7.1 1) (u_7.1 2) (u_7.1 3) (u_7.1 4) (u_7.1 5) 0 (u_7.1 6) (u_7.1 7) (u_7.1 8) (u_7.1 9) (u_7.1 10) (u_7.1 11) (u_7.1 12) (u_7.1 13) 0 1 1 0 0 0 (u_7.1 14) (u_7.1 15) (u_7.1 16) (u_7.1 17) 0 (u_7.1 18)), (aI g (u_7.1 0) 500 (fun _ => 0)), (aI g (u_7.1 1) 3 (fun _ => 0)), (aI g (u_7.1 2) 25 (tnF (fun _ => 0))), (aI g (u_7.1 3) 25 (flF (tnF (fun _ => 0)) (fun _ => 0) 25)), (aI g (u_7.1 6) 7 (fun _ => 0)), (aI g (u_7.1 7) 36 (fun _ => 0)), (aI g (u_7.1 10) 25 u_7.2.2.2.2.2), (aI g (u_7.1 11) 25 (fun _ => 0)), (aM g (u_7.1 4) 6 (he_ro 6 (u_7.2.2.2.2.1 1))), (aM g (u_7.1 5) 6 (he_ro 6 (u_7.2.2.2.2.1 2))), (aM g (u_7.1 8) 7 (he_ro 7 (u_7.2.2.2.2.1 3))), (aM g (u_7.1 9) 7 (he_ro 7 (u_7.2.2.2.2.1 4))), (aM g (u_7.1 12) 121 (he_ro 121 (u_7.2.2.2.2.1 5))), (aM g (u_7.1 13) 120 (he_ro 120 (u_7.2.2.2.2.1 6))), (aM g (u_7.1 14) 4 (he_ro 4 (u_7.2.2.2.2.1 7))), (aM g (u_7.1 15) 12 (he_ro 12 (u_7.2.2.2.2.1 8))), (aM g (u_7.1 16) 2 (he_ro 2 (u_7.2.2.2.2.1 9))), (aM g (u_7.1 17) 3 (he_ro 3 (u_7.2.2.2.2.1 10))), (aM g (u_7.1 18) 13 (he_ro 13 (u_7.2.2.2.2.1 11))), (aL g q_90 1 (fun _ => 0))] ++ he_pl g u_7.2.1 u_7.2.2.1 u_7.2.2.2.1) := hD
  refine W.widen (k := 381) (n := 21442) (Nat.le_of_ble_eq_true rfl) (Nat.le_of_ble_eq_true rfl) ?_
  refine lv_astore_n (lv' := [(3, .ref q_90), (2, .ref q_5), (1, .ref q_1), (0, .ref b)]) hx hb dL_law_19 rfl hl (by decide) rfl (fun ls hl => ?_)
  refine lv_iconst (v := 0) hx hb dL_law_20 (by decide) ?_
  refine lv_istore (lv' := [(4, .int 0), (3, .ref q_90), (2, .ref q_5), (1, .ref q_1), (0, .ref b)]) hx hb dL_law_21 hl (by decide) rfl (fun ls hl => ?_)
  have hP := he_Psub (X := [(oX10 q_1 (u_3 0) 0 (u_3 1) (u_3 4) (u_3 9) (u_3 14) 0 (u_3 15) (u_3 27) 0 (u_3 28) (u_3 31) (u_3 35)), (aB g (u_3 0) 500 (fun _ => 0)), (oX7 (u_3 1) (u_3 3) 0 0 0 (-1) (u_3 2)), (aB g (u_3 3) 0 (fun _ => 0)), (aI g (u_3 2) 3 (fun _ => 0)), (oX6 (u_3 4) (u_3 5) (u_3 6) (u_3 7) (u_3 8) 0), (aI g (u_3 5) 24 (flF unF (fun _ => 0) 24)), (aI g (u_3 6) 10 (flF nrF (fun _ => 0) 10)), (aI g (u_3 7) 6 (fun _ => 0)), (aI g (u_3 8) 6 (fun _ => 0)), (oX6 (u_3 9) (u_3 10) (u_3 11) (u_3 12) (u_3 13) 0), (aI g (u_3 10) 24 (flF unF (fun _ => 0) 24)), (aI g (u_3 11) 10 (flF nrF (fun _ => 0) 10)), (aI g (u_3 12) 6 (fun _ => 0)), (aI g (u_3 13) 6 (fun _ => 0)), (aP g (u_3 14) 7 (va_up (va_up (va_up (va_up (va_up (va_up (va_up (fun _ => none) 0 (some (u_3 36))) 1 (some (u_3 39))) 2 (some (u_3 42))) 3 (some (u_3 45))) 4 (some (u_3 48))) 5 (some (u_3 51))) 6 (some (u_3 54)))), (oX8 (u_3 15) (u_3 16) (u_3 19) (u_3 21) (u_3 24)), (oX4 (u_3 16) (u_3 17) (u_3 18) 0), (aI g (u_3 17) 24 (beginF (flF unF (fun _ => 0) 24) (fun _ => 0) 0 (fun _ => 0))), (aI g (u_3 18) 6 (fun _ => 0)), (oX0 (u_3 19) (u_3 20)), (aI g (u_3 20) 3600 (fun _ => 0)), (oX2 (u_3 21) (u_3 22) (u_3 23) 1 1 1 1 0), (aI g (u_3 22) 4 (upd (upd (upd (upd (fun _ => 0) 0 8) 1 8) 2 8) 3 8)), (aI g (u_3 23) 4 (upd (upd (upd (upd (fun _ => 0) 0 8) 1 8) 2 8) 3 8)), (oX3 (u_3 24) (u_3 25) (u_3 26)), (aI g (u_3 25) 36 (fun _ => 0)), (aI g (u_3 26) 39 (fun _ => 0)), (aS g (u_3 27) 3 (fun _ => none)), (oX4 (u_3 28) (u_3 29) (u_3 30) 0), (aI g (u_3 29) 24 (fun _ => 0)), (aI g (u_3 30) 6 (fun _ => 0)), (oX1 (u_3 31) (u_3 32) (u_3 33) (u_3 34) 0 0), (aI g (u_3 32) 3 (fun _ => 0)), (aI g (u_3 33) 3 (fun _ => 0)), (aI g (u_3 34) 3 (fun _ => 0)), (aI g (u_3 35) 3 (fun _ => 0)), (oX5 (u_3 36) (u_3 37) (u_3 38) 0), (aI g (u_3 37) 6 (fun _ => 0)), (aI g (u_3 38) 36 (fun _ => 0)), (oX5 (u_3 39) (u_3 40) (u_3 41) 0), (aI g (u_3 40) 6 (fun _ => 0)), (aI g (u_3 41) 36 (fun _ => 0)), (oX5 (u_3 42) (u_3 43) (u_3 44) 0), (aI g (u_3 43) 6 (fun _ => 0)), (aI g (u_3 44) 36 (fun _ => 0)), (oX5 (u_3 45) (u_3 46) (u_3 47) 0), (aI g (u_3 46) 6 (fun _ => 0)), (aI g (u_3 47) 36 (fun _ => 0)), (oX5 (u_3 48) (u_3 49) (u_3 50) 0), (aI g (u_3 49) 6 (fun _ => 0)), (aI g (u_3 50) 36 (fun _ => 0)), (oX5 (u_3 51) (u_3 52) (u_3 53) 0), (aI g (u_3 52) 6 (fun _ => 0)), (aI g (u_3 53) 36 (fun _ => 0)), (oX5 (u_3 54) (u_3 55) (u_3 56) 0), (aI g (u_3 55) 6 (fun _ => 0)), (aI g (u_3 56) 36 (fun _ => 0)), (oX11 q_5 0 0 0 (-1) 0 0 0 0 (u_7.1 0) (u_7.1 1) (u_7.1 2) (u_7.1 3) (u_7.1 4) (u_7.1 5) 0 (u_7.1 6) (u_7.1 7) (u_7.1 8) (u_7.1 9) (u_7.1 10) (u_7.1 11) (u_7.1 12) (u_7.1 13) 0 1 1 0 0 0 (u_7.1 14) (u_7.1 15) (u_7.1 16) (u_7.1 17) 0 (u_7.1 18)), (aI g (u_7.1 0) 500 (fun _ => 0)), (aI g (u_7.1 1) 3 (fun _ => 0)), (aI g (u_7.1 2) 25 (tnF (fun _ => 0))), (aI g (u_7.1 3) 25 (flF (tnF (fun _ => 0)) (fun _ => 0) 25)), (aI g (u_7.1 6) 7 (fun _ => 0)), (aI g (u_7.1 7) 36 (fun _ => 0)), (aI g (u_7.1 10) 25 u_7.2.2.2.2.2), (aI g (u_7.1 11) 25 (fun _ => 0)), (aM g (u_7.1 4) 6 (he_ro 6 (u_7.2.2.2.2.1 1))), (aM g (u_7.1 5) 6 (he_ro 6 (u_7.2.2.2.2.1 2))), (aM g (u_7.1 8) 7 (he_ro 7 (u_7.2.2.2.2.1 3))), (aM g (u_7.1 9) 7 (he_ro 7 (u_7.2.2.2.2.1 4))), (aM g (u_7.1 12) 121 (he_ro 121 (u_7.2.2.2.2.1 5))), (aM g (u_7.1 13) 120 (he_ro 120 (u_7.2.2.2.2.1 6))), (aM g (u_7.1 14) 4 (he_ro 4 (u_7.2.2.2.2.1 7))), (aM g (u_7.1 15) 12 (he_ro 12 (u_7.2.2.2.2.1 8))), (aM g (u_7.1 16) 2 (he_ro 2 (u_7.2.2.2.2.1 9))), (aM g (u_7.1 17) 3 (he_ro 3 (u_7.2.2.2.2.1 10))), (aM g (u_7.1 18) 13 (he_ro 13 (u_7.2.2.2.2.1 11))), (aL g q_90 1 (fun _ => 0))]) (X2 := [(oX10 q_1 (u_3 0) 0 (u_3 1) (u_3 4) (u_3 9) (u_3 14) 0 (u_3 15) (u_3 27) 0 (u_3 28) (u_3 31) (u_3 35)), (oX11 q_5 0 0 0 (-1) 0 0 0 0 (u_7.1 0) (u_7.1 1) (u_7.1 2) (u_7.1 3) (u_7.1 4) (u_7.1 5) 0 (u_7.1 6) (u_7.1 7) (u_7.1 8) (u_7.1 9) (u_7.1 10) (u_7.1 11) (u_7.1 12) (u_7.1 13) 0 1 1 0 0 0 (u_7.1 14) (u_7.1 15) (u_7.1 16) (u_7.1 17) 0 (u_7.1 18)), (aL g q_90 1 (fun _ => 0)), (aB g (u_3 0) 500 (fun _ => 0)), (oX7 (u_3 1) (u_3 3) 0 0 0 (-1) (u_3 2)), (aI g (u_3 2) 3 (fun _ => 0)), (oX6 (u_3 4) (u_3 5) (u_3 6) (u_3 7) (u_3 8) 0), (aI g (u_3 5) 24 (flF unF (fun _ => 0) 24)), (aI g (u_3 6) 10 (flF nrF (fun _ => 0) 10)), (aI g (u_3 7) 6 (fun _ => 0)), (aI g (u_3 8) 6 (fun _ => 0)), (oX6 (u_3 9) (u_3 10) (u_3 11) (u_3 12) (u_3 13) 0), (aI g (u_3 10) 24 (flF unF (fun _ => 0) 24)), (aI g (u_3 11) 10 (flF nrF (fun _ => 0) 10)), (aI g (u_3 12) 6 (fun _ => 0)), (aI g (u_3 13) 6 (fun _ => 0)), (aP g (u_3 14) 7 (va_up (va_up (va_up (va_up (va_up (va_up (va_up (fun _ => none) 0 (some (u_3 36))) 1 (some (u_3 39))) 2 (some (u_3 42))) 3 (some (u_3 45))) 4 (some (u_3 48))) 5 (some (u_3 51))) 6 (some (u_3 54)))), (oX8 (u_3 15) (u_3 16) (u_3 19) (u_3 21) (u_3 24)), (oX4 (u_3 16) (u_3 17) (u_3 18) 0), (aI g (u_3 17) 24 (beginF (flF unF (fun _ => 0) 24) (fun _ => 0) 0 (fun _ => 0))), (aI g (u_3 18) 6 (fun _ => 0)), (oX0 (u_3 19) (u_3 20)), (aI g (u_3 20) 3600 (fun _ => 0)), (oX2 (u_3 21) (u_3 22) (u_3 23) 1 1 1 1 0), (aI g (u_3 22) 4 (upd (upd (upd (upd (fun _ => 0) 0 8) 1 8) 2 8) 3 8)), (aI g (u_3 23) 4 (upd (upd (upd (upd (fun _ => 0) 0 8) 1 8) 2 8) 3 8)), (oX3 (u_3 24) (u_3 25) (u_3 26)), (aI g (u_3 25) 36 (fun _ => 0)), (aI g (u_3 26) 39 (fun _ => 0)), (aS g (u_3 27) 3 (fun _ => none)), (oX4 (u_3 28) (u_3 29) (u_3 30) 0), (aI g (u_3 29) 24 (fun _ => 0)), (aI g (u_3 30) 6 (fun _ => 0)), (oX1 (u_3 31) (u_3 32) (u_3 33) (u_3 34) 0 0), (aI g (u_3 32) 3 (fun _ => 0)), (aI g (u_3 33) 3 (fun _ => 0)), (aI g (u_3 34) 3 (fun _ => 0)), (aI g (u_3 35) 3 (fun _ => 0)), (oX5 (u_3 36) (u_3 37) (u_3 38) 0), (aI g (u_3 37) 6 (fun _ => 0)), (aI g (u_3 38) 36 (fun _ => 0)), (oX5 (u_3 39) (u_3 40) (u_3 41) 0), (aI g (u_3 40) 6 (fun _ => 0)), (aI g (u_3 41) 36 (fun _ => 0)), (oX5 (u_3 42) (u_3 43) (u_3 44) 0), (aI g (u_3 43) 6 (fun _ => 0)), (aI g (u_3 44) 36 (fun _ => 0)), (oX5 (u_3 45) (u_3 46) (u_3 47) 0), (aI g (u_3 46) 6 (fun _ => 0)), (aI g (u_3 47) 36 (fun _ => 0)), (oX5 (u_3 48) (u_3 49) (u_3 50) 0), (aI g (u_3 49) 6 (fun _ => 0)), (aI g (u_3 50) 36 (fun _ => 0)), (oX5 (u_3 51) (u_3 52) (u_3 53) 0), (aI g (u_3 52) 6 (fun _ => 0)), (aI g (u_3 53) 36 (fun _ => 0)), (oX5 (u_3 54) (u_3 55) (u_3 56) 0), (aI g (u_3 55) 6 (fun _ => 0)), (aI g (u_3 56) 36 (fun _ => 0)), (aI g (u_7.1 0) 500 (fun _ => 0)), (aI g (u_7.1 1) 3 (fun _ => 0)), (aI g (u_7.1 2) 25 (tnF (fun _ => 0))), (aI g (u_7.1 3) 25 (flF (tnF (fun _ => 0)) (fun _ => 0) 25)), (aI g (u_7.1 6) 7 (fun _ => 0)), (aI g (u_7.1 7) 36 (fun _ => 0)), (aI g (u_7.1 10) 25 u_7.2.2.2.2.2), (aI g (u_7.1 11) 25 (fun _ => 0)), (aM g (u_7.1 4) 6 (he_ro 6 (u_7.2.2.2.2.1 1))), (aM g (u_7.1 5) 6 (he_ro 6 (u_7.2.2.2.2.1 2))), (aM g (u_7.1 8) 7 (he_ro 7 (u_7.2.2.2.2.1 3))), (aM g (u_7.1 9) 7 (he_ro 7 (u_7.2.2.2.2.1 4))), (aM g (u_7.1 12) 121 (he_ro 121 (u_7.2.2.2.2.1 5))), (aM g (u_7.1 13) 120 (he_ro 120 (u_7.2.2.2.2.1 6))), (aM g (u_7.1 14) 4 (he_ro 4 (u_7.2.2.2.2.1 7))), (aM g (u_7.1 15) 12 (he_ro 12 (u_7.2.2.2.2.1 8))), (aM g (u_7.1 16) 2 (he_ro 2 (u_7.2.2.2.2.1 9))), (aM g (u_7.1 17) 3 (he_ro 3 (u_7.2.2.2.2.1 10))), (aM g (u_7.1 18) 13 (he_ro 13 (u_7.2.2.2.2.1 11)))]) (P := (he_pl g u_7.2.1 u_7.2.2.1 u_7.2.2.2.1)) hP [0, 58, 78, 1, 2, 4, 5, 6, 7, 8, 9, 10, 11, 12, 13, 14, 15, 16, 17, 18, 19, 20, 21, 22, 23, 24, 25, 26, 27, 28, 29, 30, 31, 32, 33, 34, 35, 36, 37, 38, 39, 40, 41, 42, 43, 44, 45, 46, 47, 48, 49, 50, 51, 52, 53, 54, 55, 56, 57, 59, 60, 61, 62, 63, 64, 65, 66, 67, 68, 69, 70, 71, 72, 73, 74, 75, 76, 77] rfl
  have hD := he_Dsub (X := [(oX10 q_1 (u_3 0) 0 (u_3 1) (u_3 4) (u_3 9) (u_3 14) 0 (u_3 15) (u_3 27) 0 (u_3 28) (u_3 31) (u_3 35)), (aB g (u_3 0) 500 (fun _ => 0)), (oX7 (u_3 1) (u_3 3) 0 0 0 (-1) (u_3 2)), (aB g (u_3 3) 0 (fun _ => 0)), (aI g (u_3 2) 3 (fun _ => 0)), (oX6 (u_3 4) (u_3 5) (u_3 6) (u_3 7) (u_3 8) 0), (aI g (u_3 5) 24 (flF unF (fun _ => 0) 24)), (aI g (u_3 6) 10 (flF nrF (fun _ => 0) 10)), (aI g (u_3 7) 6 (fun _ => 0)), (aI g (u_3 8) 6 (fun _ => 0)), (oX6 (u_3 9) (u_3 10) (u_3 11) (u_3 12) (u_3 13) 0), (aI g (u_3 10) 24 (flF unF (fun _ => 0) 24)), (aI g (u_3 11) 10 (flF nrF (fun _ => 0) 10)), (aI g (u_3 12) 6 (fun _ => 0)), (aI g (u_3 13) 6 (fun _ => 0)), (aP g (u_3 14) 7 (va_up (va_up (va_up (va_up (va_up (va_up (va_up (fun _ => none) 0 (some (u_3 36))) 1 (some (u_3 39))) 2 (some (u_3 42))) 3 (some (u_3 45))) 4 (some (u_3 48))) 5 (some (u_3 51))) 6 (some (u_3 54)))), (oX8 (u_3 15) (u_3 16) (u_3 19) (u_3 21) (u_3 24)), (oX4 (u_3 16) (u_3 17) (u_3 18) 0), (aI g (u_3 17) 24 (beginF (flF unF (fun _ => 0) 24) (fun _ => 0) 0 (fun _ => 0))), (aI g (u_3 18) 6 (fun _ => 0)), (oX0 (u_3 19) (u_3 20)), (aI g (u_3 20) 3600 (fun _ => 0)), (oX2 (u_3 21) (u_3 22) (u_3 23) 1 1 1 1 0), (aI g (u_3 22) 4 (upd (upd (upd (upd (fun _ => 0) 0 8) 1 8) 2 8) 3 8)), (aI g (u_3 23) 4 (upd (upd (upd (upd (fun _ => 0) 0 8) 1 8) 2 8) 3 8)), (oX3 (u_3 24) (u_3 25) (u_3 26)), (aI g (u_3 25) 36 (fun _ => 0)), (aI g (u_3 26) 39 (fun _ => 0)), (aS g (u_3 27) 3 (fun _ => none)), (oX4 (u_3 28) (u_3 29) (u_3 30) 0), (aI g (u_3 29) 24 (fun _ => 0)), (aI g (u_3 30) 6 (fun _ => 0)), (oX1 (u_3 31) (u_3 32) (u_3 33) (u_3 34) 0 0), (aI g (u_3 32) 3 (fun _ => 0)), (aI g (u_3 33) 3 (fun _ => 0)), (aI g (u_3 34) 3 (fun _ => 0)), (aI g (u_3 35) 3 (fun _ => 0)), (oX5 (u_3 36) (u_3 37) (u_3 38) 0), (aI g (u_3 37) 6 (fun _ => 0)), (aI g (u_3 38) 36 (fun _ => 0)), (oX5 (u_3 39) (u_3 40) (u_3 41) 0), (aI g (u_3 40) 6 (fun _ => 0)), (aI g (u_3 41) 36 (fun _ => 0)), (oX5 (u_3 42) (u_3 43) (u_3 44) 0), (aI g (u_3 43) 6 (fun _ => 0)), (aI g (u_3 44) 36 (fun _ => 0)), (oX5 (u_3 45) (u_3 46) (u_3 47) 0), (aI g (u_3 46) 6 (fun _ => 0)), (aI g (u_3 47) 36 (fun _ => 0)), (oX5 (u_3 48) (u_3 49) (u_3 50) 0), (aI g (u_3 49) 6 (fun _ => 0)), (aI g (u_3 50) 36 (fun _ => 0)), (oX5 (u_3 51) (u_3 52) (u_3 53) 0), (aI g (u_3 52) 6 (fun _ => 0)), (aI g (u_3 53) 36 (fun _ => 0)), (oX5 (u_3 54) (u_3 55) (u_3 56) 0), (aI g (u_3 55) 6 (fun _ => 0)), (aI g (u_3 56) 36 (fun _ => 0)), (oX11 q_5 0 0 0 (-1) 0 0 0 0 (u_7.1 0) (u_7.1 1) (u_7.1 2) (u_7.1 3) (u_7.1 4) (u_7.1 5) 0 (u_7.1 6) (u_7.1 7) (u_7.1 8) (u_7.1 9) (u_7.1 10) (u_7.1 11) (u_7.1 12) (u_7.1 13) 0 1 1 0 0 0 (u_7.1 14) (u_7.1 15) (u_7.1 16) (u_7.1 17) 0 (u_7.1 18)), (aI g (u_7.1 0) 500 (fun _ => 0)), (aI g (u_7.1 1) 3 (fun _ => 0)), (aI g (u_7.1 2) 25 (tnF (fun _ => 0))), (aI g (u_7.1 3) 25 (flF (tnF (fun _ => 0)) (fun _ => 0) 25)), (aI g (u_7.1 6) 7 (fun _ => 0)), (aI g (u_7.1 7) 36 (fun _ => 0)), (aI g (u_7.1 10) 25 u_7.2.2.2.2.2), (aI g (u_7.1 11) 25 (fun _ => 0)), (aM g (u_7.1 4) 6 (he_ro 6 (u_7.2.2.2.2.1 1))), (aM g (u_7.1 5) 6 (he_ro 6 (u_7.2.2.2.2.1 2))), (aM g (u_7.1 8) 7 (he_ro 7 (u_7.2.2.2.2.1 3))), (aM g (u_7.1 9) 7 (he_ro 7 (u_7.2.2.2.2.1 4))), (aM g (u_7.1 12) 121 (he_ro 121 (u_7.2.2.2.2.1 5))), (aM g (u_7.1 13) 120 (he_ro 120 (u_7.2.2.2.2.1 6))), (aM g (u_7.1 14) 4 (he_ro 4 (u_7.2.2.2.2.1 7))), (aM g (u_7.1 15) 12 (he_ro 12 (u_7.2.2.2.2.1 8))), (aM g (u_7.1 16) 2 (he_ro 2 (u_7.2.2.2.2.1 9))), (aM g (u_7.1 17) 3 (he_ro 3 (u_7.2.2.2.2.1 10))), (aM g (u_7.1 18) 13 (he_ro 13 (u_7.2.2.2.2.1 11))), (aL g q_90 1 (fun _ => 0))]) (X2 := [(oX10 q_1 (u_3 0) 0 (u_3 1) (u_3 4) (u_3 9) (u_3 14) 0 (u_3 15) (u_3 27) 0 (u_3 28) (u_3 31) (u_3 35)), (oX11 q_5 0 0 0 (-1) 0 0 0 0 (u_7.1 0) (u_7.1 1) (u_7.1 2) (u_7.1 3) (u_7.1 4) (u_7.1 5) 0 (u_7.1 6) (u_7.1 7) (u_7.1 8) (u_7.1 9) (u_7.1 10) (u_7.1 11) (u_7.1 12) (u_7.1 13) 0 1 1 0 0 0 (u_7.1 14) (u_7.1 15) (u_7.1 16) (u_7.1 17) 0 (u_7.1 18)), (aL g q_90 1 (fun _ => 0)), (aB g (u_3 0) 500 (fun _ => 0)), (oX7 (u_3 1) (u_3 3) 0 0 0 (-1) (u_3 2)), (aI g (u_3 2) 3 (fun _ => 0)), (oX6 (u_3 4) (u_3 5) (u_3 6) (u_3 7) (u_3 8) 0), (aI g (u_3 5) 24 (flF unF (fun _ => 0) 24)), (aI g (u_3 6) 10 (flF nrF (fun _ => 0) 10)), (aI g (u_3 7) 6 (fun _ => 0)), (aI g (u_3 8) 6 (fun _ => 0)), (oX6 (u_3 9) (u_3 10) (u_3 11) (u_3 12) (u_3 13) 0), (aI g (u_3 10) 24 (flF unF (fun _ => 0) 24)), (aI g (u_3 11) 10 (flF nrF (fun _ => 0) 10)), (aI g (u_3 12) 6 (fun _ => 0)), (aI g (u_3 13) 6 (fun _ => 0)), (aP g (u_3 14) 7 (va_up (va_up (va_up (va_up (va_up (va_up (va_up (fun _ => none) 0 (some (u_3 36))) 1 (some (u_3 39))) 2 (some (u_3 42))) 3 (some (u_3 45))) 4 (some (u_3 48))) 5 (some (u_3 51))) 6 (some (u_3 54)))), (oX8 (u_3 15) (u_3 16) (u_3 19) (u_3 21) (u_3 24)), (oX4 (u_3 16) (u_3 17) (u_3 18) 0), (aI g (u_3 17) 24 (beginF (flF unF (fun _ => 0) 24) (fun _ => 0) 0 (fun _ => 0))), (aI g (u_3 18) 6 (fun _ => 0)), (oX0 (u_3 19) (u_3 20)), (aI g (u_3 20) 3600 (fun _ => 0)), (oX2 (u_3 21) (u_3 22) (u_3 23) 1 1 1 1 0), (aI g (u_3 22) 4 (upd (upd (upd (upd (fun _ => 0) 0 8) 1 8) 2 8) 3 8)), (aI g (u_3 23) 4 (upd (upd (upd (upd (fun _ => 0) 0 8) 1 8) 2 8) 3 8)), (oX3 (u_3 24) (u_3 25) (u_3 26)), (aI g (u_3 25) 36 (fun _ => 0)), (aI g (u_3 26) 39 (fun _ => 0)), (aS g (u_3 27) 3 (fun _ => none)), (oX4 (u_3 28) (u_3 29) (u_3 30) 0), (aI g (u_3 29) 24 (fun _ => 0)), (aI g (u_3 30) 6 (fun _ => 0)), (oX1 (u_3 31) (u_3 32) (u_3 33) (u_3 34) 0 0), (aI g (u_3 32) 3 (fun _ => 0)), (aI g (u_3 33) 3 (fun _ => 0)), (aI g (u_3 34) 3 (fun _ => 0)), (aI g (u_3 35) 3 (fun _ => 0)), (oX5 (u_3 36) (u_3 37) (u_3 38) 0), (aI g (u_3 37) 6 (fun _ => 0)), (aI g (u_3 38) 36 (fun _ => 0)), (oX5 (u_3 39) (u_3 40) (u_3 41) 0), (aI g (u_3 40) 6 (fun _ => 0)), (aI g (u_3 41) 36 (fun _ => 0)), (oX5 (u_3 42) (u_3 43) (u_3 44) 0), (aI g (u_3 43) 6 (fun _ => 0)), (aI g (u_3 44) 36 (fun _ => 0)), (oX5 (u_3 45) (u_3 46) (u_3 47) 0), (aI g (u_3 46) 6 (fun _ => 0)), (aI g (u_3 47) 36 (fun _ => 0)), (oX5 (u_3 48) (u_3 49) (u_3 50) 0), (aI g (u_3 49) 6 (fun _ => 0)), (aI g (u_3 50) 36 (fun _ => 0)), (oX5 (u_3 51) (u_3 52) (u_3 53) 0), (aI g (u_3 52) 6 (fun _ => 0)), (aI g (u_3 53) 36 (fun _ => 0)), (oX5 (u_3 54) (u_3 55) (u_3 56) 0), (aI g (u_3 55) 6 (fun _ => 0)), (aI g (u_3 56) 36 (fun _ => 0)), (aI g (u_7.1 0) 500 (fun _ => 0)), (aI g (u_7.1 1) 3 (fun _ => 0)), (aI g (u_7.1 2) 25 (tnF (fun _ => 0))), (aI g (u_7.1 3) 25 (flF (tnF (fun _ => 0)) (fun _ => 0) 25)), (aI g (u_7.1 6) 7 (fun _ => 0)), (aI g (u_7.1 7) 36 (fun _ => 0)), (aI g (u_7.1 10) 25 u_7.2.2.2.2.2), (aI g (u_7.1 11) 25 (fun _ => 0)), (aM g (u_7.1 4) 6 (he_ro 6 (u_7.2.2.2.2.1 1))), (aM g (u_7.1 5) 6 (he_ro 6 (u_7.2.2.2.2.1 2))), (aM g (u_7.1 8) 7 (he_ro 7 (u_7.2.2.2.2.1 3))), (aM g (u_7.1 9) 7 (he_ro 7 (u_7.2.2.2.2.1 4))), (aM g (u_7.1 12) 121 (he_ro 121 (u_7.2.2.2.2.1 5))), (aM g (u_7.1 13) 120 (he_ro 120 (u_7.2.2.2.2.1 6))), (aM g (u_7.1 14) 4 (he_ro 4 (u_7.2.2.2.2.1 7))), (aM g (u_7.1 15) 12 (he_ro 12 (u_7.2.2.2.2.1 8))), (aM g (u_7.1 16) 2 (he_ro 2 (u_7.2.2.2.2.1 9))), (aM g (u_7.1 17) 3 (he_ro 3 (u_7.2.2.2.2.1 10))), (aM g (u_7.1 18) 13 (he_ro 13 (u_7.2.2.2.2.1 11)))]) (P := (he_pl g u_7.2.1 u_7.2.2.1 u_7.2.2.2.1)) hD [0, 58, 78, 1, 2, 4, 5, 6, 7, 8, 9, 10, 11, 12, 13, 14, 15, 16, 17, 18, 19, 20, 21, 22, 23, 24, 25, 26, 27, 28, 29, 30, 31, 32, 33, 34, 35, 36, 37, 38, 39, 40, 41, 42, 43, 44, 45, 46, 47, 48, 49, 50, 51, 52, 53, 54, 55, 56, 57, 59, 60, 61, 62, 63, 64, 65, 66, 67, 68, 69, 70, 71, 72, 73, 74, 75, 76, 77] rfl rfl rfl
  have hP : va_P g.1 vwCl ([(oX10 q_1 (u_3 0) 0 (u_3 1) (u_3 4) (u_3 9) (u_3 14) 0 (u_3 15) (u_3 27) 0 (u_3 28) (u_3 31) (u_3 35)), (oX11 q_5 0 0 0 (-1) 0 0 0 0 (u_7.1 0) (u_7.1 1) (u_7.1 2) (u_7.1 3) (u_7.1 4) (u_7.1 5) 0 (u_7.1 6) (u_7.1 7) (u_7.1 8) (u_7.1 9) (u_7.1 10) (u_7.1 11) (u_7.1 12) (u_7.1 13) 0 1 1 0 0 0 (u_7.1 14) (u_7.1 15) (u_7.1 16) (u_7.1 17) 0 (u_7.1 18)), (aL g q_90 1 (fun _ => 0))] ++ ([(aB g (u_3 0) 500 (fun _ => 0)), (oX7 (u_3 1) (u_3 3) 0 0 0 (-1) (u_3 2)), (aI g (u_3 2) 3 (fun _ => 0)), (oX6 (u_3 4) (u_3 5) (u_3 6) (u_3 7) (u_3 8) 0), (aI g (u_3 5) 24 (flF unF (fun _ => 0) 24)), (aI g (u_3 6) 10 (flF nrF (fun _ => 0) 10)), (aI g (u_3 7) 6 (fun _ => 0)), (aI g (u_3 8) 6 (fun _ => 0)), (oX6 (u_3 9) (u_3 10) (u_3 11) (u_3 12) (u_3 13) 0), (aI g (u_3 10) 24 (flF unF (fun _ => 0) 24)), (aI g (u_3 11) 10 (flF nrF (fun _ => 0) 10)), (aI g (u_3 12) 6 (fun _ => 0)), (aI g (u_3 13) 6 (fun _ => 0)), (aP g (u_3 14) 7 (va_up (va_up (va_up (va_up (va_up (va_up (va_up (fun _ => none) 0 (some (u_3 36))) 1 (some (u_3 39))) 2 (some (u_3 42))) 3 (some (u_3 45))) 4 (some (u_3 48))) 5 (some (u_3 51))) 6 (some (u_3 54)))), (oX8 (u_3 15) (u_3 16) (u_3 19) (u_3 21) (u_3 24)), (oX4 (u_3 16) (u_3 17) (u_3 18) 0), (aI g (u_3 17) 24 (beginF (flF unF (fun _ => 0) 24) (fun _ => 0) 0 (fun _ => 0))), (aI g (u_3 18) 6 (fun _ => 0)), (oX0 (u_3 19) (u_3 20)), (aI g (u_3 20) 3600 (fun _ => 0)), (oX2 (u_3 21) (u_3 22) (u_3 23) 1 1 1 1 0), (aI g (u_3 22) 4 (upd (upd (upd (upd (fun _ => 0) 0 8) 1 8) 2 8) 3 8)), (aI g (u_3 23) 4 (upd (upd (upd (upd (fun _ => 0) 0 8) 1 8) 2 8) 3 8)), (oX3 (u_3 24) (u_3 25) (u_3 26)), (aI g (u_3 25) 36 (fun _ => 0)), (aI g (u_3 26) 39 (fun _ => 0)), (aS g (u_3 27) 3 (fun _ => none)), (oX4 (u_3 28) (u_3 29) (u_3 30) 0), (aI g (u_3 29) 24 (fun _ => 0)), (aI g (u_3 30) 6 (fun _ => 0)), (oX1 (u_3 31) (u_3 32) (u_3 33) (u_3 34) 0 0), (aI g (u_3 32) 3 (fun _ => 0)), (aI g (u_3 33) 3 (fun _ => 0)), (aI g (u_3 34) 3 (fun _ => 0)), (aI g (u_3 35) 3 (fun _ => 0)), (oX5 (u_3 36) (u_3 37) (u_3 38) 0), (aI g (u_3 37) 6 (fun _ => 0)), (aI g (u_3 38) 36 (fun _ => 0)), (oX5 (u_3 39) (u_3 40) (u_3 41) 0), (aI g (u_3 40) 6 (fun _ => 0)), (aI g (u_3 41) 36 (fun _ => 0)), (oX5 (u_3 42) (u_3 43) (u_3 44) 0), (aI g (u_3 43) 6 (fun _ => 0)), (aI g (u_3 44) 36 (fun _ => 0)), (oX5 (u_3 45) (u_3 46) (u_3 47) 0), (aI g (u_3 46) 6 (fun _ => 0)), (aI g (u_3 47) 36 (fun _ => 0)), (oX5 (u_3 48) (u_3 49) (u_3 50) 0), (aI g (u_3 49) 6 (fun _ => 0)), (aI g (u_3 50) 36 (fun _ => 0)), (oX5 (u_3 51) (u_3 52) (u_3 53) 0), (aI g (u_3 52) 6 (fun _ => 0)), (aI g (u_3 53) 36 (fun _ => 0)), (oX5 (u_3 54) (u_3 55) (u_3 56) 0), (aI g (u_3 55) 6 (fun _ => 0)), (aI g (u_3 56) 36 (fun _ => 0))] ++ ([(aI g (u_7.1 0) 500 (fun _ => 0)), (aI g (u_7.1 1) 3 (fun _ => 0)), (aI g (u_7.1 2) 25 (tnF (fun _ => 0))), (aI g (u_7.1 3) 25 (flF (tnF (fun _ => 0)) (fun _ => 0) 25)), (aI g (u_7.1 6) 7 (fun _ => 0)), (aI g (u_7.1 7) 36 (fun _ => 0)), (aI g (u_7.1 10) 25 u_7.2.2.2.2.2), (aI g (u_7.1 11) 25 (fun _ => 0)), (aM g (u_7.1 4) 6 (he_ro 6 (u_7.2.2.2.2.1 1))), (aM g (u_7.1 5) 6 (he_ro 6 (u_7.2.2.2.2.1 2))), (aM g (u_7.1 8) 7 (he_ro 7 (u_7.2.2.2.2.1 3))), (aM g (u_7.1 9) 7 (he_ro 7 (u_7.2.2.2.2.1 4))), (aM g (u_7.1 12) 121 (he_ro 121 (u_7.2.2.2.2.1 5))), (aM g (u_7.1 13) 120 (he_ro 120 (u_7.2.2.2.2.1 6))), (aM g (u_7.1 14) 4 (he_ro 4 (u_7.2.2.2.2.1 7))), (aM g (u_7.1 15) 12 (he_ro 12 (u_7.2.2.2.2.1 8))), (aM g (u_7.1 16) 2 (he_ro 2 (u_7.2.2.2.2.1 9))), (aM g (u_7.1 17) 3 (he_ro 3 (u_7.2.2.2.2.1 10))), (aM g (u_7.1 18) 13 (he_ro 13 (u_7.2.2.2.2.1 11)))] ++ (he_pl g u_7.2.1 u_7.2.2.1 u_7.2.2.2.1)))) H := hP
  have hD : va_D (lw_A s) ([(oX10 q_1 (u_3 0) 0 (u_3 1) (u_3 4) (u_3 9) (u_3 14) 0 (u_3 15) (u_3 27) 0 (u_3 28) (u_3 31) (u_3 35)), (oX11 q_5 0 0 0 (-1) 0 0 0 0 (u_7.1 0) (u_7.1 1) (u_7.1 2) (u_7.1 3) (u_7.1 4) (u_7.1 5) 0 (u_7.1 6) (u_7.1 7) (u_7.1 8) (u_7.1 9) (u_7.1 10) (u_7.1 11) (u_7.1 12) (u_7.1 13) 0 1 1 0 0 0 (u_7.1 14) (u_7.1 15) (u_7.1 16) (u_7.1 17) 0 (u_7.1 18)), (aL g q_90 1 (fun _ => 0))] ++ ([(aB g (u_3 0) 500 (fun _ => 0)), (oX7 (u_3 1) (u_3 3) 0 0 0 (-1) (u_3 2)), (aI g (u_3 2) 3 (fun _ => 0)), (oX6 (u_3 4) (u_3 5) (u_3 6) (u_3 7) (u_3 8) 0), (aI g (u_3 5) 24 (flF unF (fun _ => 0) 24)), (aI g (u_3 6) 10 (flF nrF (fun _ => 0) 10)), (aI g (u_3 7) 6 (fun _ => 0)), (aI g (u_3 8) 6 (fun _ => 0)), (oX6 (u_3 9) (u_3 10) (u_3 11) (u_3 12) (u_3 13) 0), (aI g (u_3 10) 24 (flF unF (fun _ => 0) 24)), (aI g (u_3 11) 10 (flF nrF (fun _ => 0) 10)), (aI g (u_3 12) 6 (fun _ => 0)), (aI g (u_3 13) 6 (fun _ => 0)), (aP g (u_3 14) 7 (va_up (va_up (va_up (va_up (va_up (va_up (va_up (fun _ => none) 0 (some (u_3 36))) 1 (some (u_3 39))) 2 (some (u_3 42))) 3 (some (u_3 45))) 4 (some (u_3 48))) 5 (some (u_3 51))) 6 (some (u_3 54)))), (oX8 (u_3 15) (u_3 16) (u_3 19) (u_3 21) (u_3 24)), (oX4 (u_3 16) (u_3 17) (u_3 18) 0), (aI g (u_3 17) 24 (beginF (flF unF (fun _ => 0) 24) (fun _ => 0) 0 (fun _ => 0))), (aI g (u_3 18) 6 (fun _ => 0)), (oX0 (u_3 19) (u_3 20)), (aI g (u_3 20) 3600 (fun _ => 0)), (oX2 (u_3 21) (u_3 22) (u_3 23) 1 1 1 1 0), (aI g (u_3 22) 4 (upd (upd (upd (upd (fun _ => 0) 0 8) 1 8) 2 8) 3 8)), (aI g (u_3 23) 4 (upd (upd (upd (upd (fun _ => 0) 0 8) 1 8) 2 8) 3 8)), (oX3 (u_3 24) (u_3 25) (u_3 26)), (aI g (u_3 25) 36 (fun _ => 0)), (aI g (u_3 26) 39 (fun _ => 0)), (aS g (u_3 27) 3 (fun _ => none)), (oX4 (u_3 28) (u_3 29) (u_3 30) 0), (aI g (u_3 29) 24 (fun _ => 0)), (aI g (u_3 30) 6 (fun _ => 0)), (oX1 (u_3 31) (u_3 32) (u_3 33) (u_3 34) 0 0), (aI g (u_3 32) 3 (fun _ => 0)), (aI g (u_3 33) 3 (fun _ => 0)), (aI g (u_3 34) 3 (fun _ => 0)), (aI g (u_3 35) 3 (fun _ => 0)), (oX5 (u_3 36) (u_3 37) (u_3 38) 0), (aI g (u_3 37) 6 (fun _ => 0)), (aI g (u_3 38) 36 (fun _ => 0)), (oX5 (u_3 39) (u_3 40) (u_3 41) 0), (aI g (u_3 40) 6 (fun _ => 0)), (aI g (u_3 41) 36 (fun _ => 0)), (oX5 (u_3 42) (u_3 43) (u_3 44) 0), (aI g (u_3 43) 6 (fun _ => 0)), (aI g (u_3 44) 36 (fun _ => 0)), (oX5 (u_3 45) (u_3 46) (u_3 47) 0), (aI g (u_3 46) 6 (fun _ => 0)), (aI g (u_3 47) 36 (fun _ => 0)), (oX5 (u_3 48) (u_3 49) (u_3 50) 0), (aI g (u_3 49) 6 (fun _ => 0)), (aI g (u_3 50) 36 (fun _ => 0)), (oX5 (u_3 51) (u_3 52) (u_3 53) 0), (aI g (u_3 52) 6 (fun _ => 0)), (aI g (u_3 53) 36 (fun _ => 0)), (oX5 (u_3 54) (u_3 55) (u_3 56) 0), (aI g (u_3 55) 6 (fun _ => 0)), (aI g (u_3 56) 36 (fun _ => 0))] ++ ([(aI g (u_7.1 0) 500 (fun _ => 0)), (aI g (u_7.1 1) 3 (fun _ => 0)), (aI g (u_7.1 2) 25 (tnF (fun _ => 0))), (aI g (u_7.1 3) 25 (flF (tnF (fun _ => 0)) (fun _ => 0) 25)), (aI g (u_7.1 6) 7 (fun _ => 0)), (aI g (u_7.1 7) 36 (fun _ => 0)), (aI g (u_7.1 10) 25 u_7.2.2.2.2.2), (aI g (u_7.1 11) 25 (fun _ => 0)), (aM g (u_7.1 4) 6 (he_ro 6 (u_7.2.2.2.2.1 1))), (aM g (u_7.1 5) 6 (he_ro 6 (u_7.2.2.2.2.1 2))), (aM g (u_7.1 8) 7 (he_ro 7 (u_7.2.2.2.2.1 3))), (aM g (u_7.1 9) 7 (he_ro 7 (u_7.2.2.2.2.1 4))), (aM g (u_7.1 12) 121 (he_ro 121 (u_7.2.2.2.2.1 5))), (aM g (u_7.1 13) 120 (he_ro 120 (u_7.2.2.2.2.1 6))), (aM g (u_7.1 14) 4 (he_ro 4 (u_7.2.2.2.2.1 7))), (aM g (u_7.1 15) 12 (he_ro 12 (u_7.2.2.2.2.1 8))), (aM g (u_7.1 16) 2 (he_ro 2 (u_7.2.2.2.2.1 9))), (aM g (u_7.1 17) 3 (he_ro 3 (u_7.2.2.2.2.1 10))), (aM g (u_7.1 18) 13 (he_ro 13 (u_7.2.2.2.2.1 11)))] ++ (he_pl g u_7.2.1 u_7.2.2.1 u_7.2.2.2.1)))) := hD
  refine W.widen (k := 1000 + 4 * 0) (n := 100000 + 700 * 0) (Nat.le_of_ble_eq_true rfl) (Nat.le_of_ble_eq_true rfl) ?_
  have hIC : IC g q_1 S00 ((oX10 q_1 (u_3 0) 0 (u_3 1) (u_3 4) (u_3 9) (u_3 14) 0 (u_3 15) (u_3 27) 0 (u_3 28) (u_3 31) (u_3 35)) :: [(aB g (u_3 0) 500 (fun _ => 0)), (oX7 (u_3 1) (u_3 3) 0 0 0 (-1) (u_3 2)), (aI g (u_3 2) 3 (fun _ => 0)), (oX6 (u_3 4) (u_3 5) (u_3 6) (u_3 7) (u_3 8) 0), (aI g (u_3 5) 24 (flF unF (fun _ => 0) 24)), (aI g (u_3 6) 10 (flF nrF (fun _ => 0) 10)), (aI g (u_3 7) 6 (fun _ => 0)), (aI g (u_3 8) 6 (fun _ => 0)), (oX6 (u_3 9) (u_3 10) (u_3 11) (u_3 12) (u_3 13) 0), (aI g (u_3 10) 24 (flF unF (fun _ => 0) 24)), (aI g (u_3 11) 10 (flF nrF (fun _ => 0) 10)), (aI g (u_3 12) 6 (fun _ => 0)), (aI g (u_3 13) 6 (fun _ => 0)), (aP g (u_3 14) 7 (va_up (va_up (va_up (va_up (va_up (va_up (va_up (fun _ => none) 0 (some (u_3 36))) 1 (some (u_3 39))) 2 (some (u_3 42))) 3 (some (u_3 45))) 4 (some (u_3 48))) 5 (some (u_3 51))) 6 (some (u_3 54)))), (oX8 (u_3 15) (u_3 16) (u_3 19) (u_3 21) (u_3 24)), (oX4 (u_3 16) (u_3 17) (u_3 18) 0), (aI g (u_3 17) 24 (beginF (flF unF (fun _ => 0) 24) (fun _ => 0) 0 (fun _ => 0))), (aI g (u_3 18) 6 (fun _ => 0)), (oX0 (u_3 19) (u_3 20)), (aI g (u_3 20) 3600 (fun _ => 0)), (oX2 (u_3 21) (u_3 22) (u_3 23) 1 1 1 1 0), (aI g (u_3 22) 4 (upd (upd (upd (upd (fun _ => 0) 0 8) 1 8) 2 8) 3 8)), (aI g (u_3 23) 4 (upd (upd (upd (upd (fun _ => 0) 0 8) 1 8) 2 8) 3 8)), (oX3 (u_3 24) (u_3 25) (u_3 26)), (aI g (u_3 25) 36 (fun _ => 0)), (aI g (u_3 26) 39 (fun _ => 0)), (aS g (u_3 27) 3 (fun _ => none)), (oX4 (u_3 28) (u_3 29) (u_3 30) 0), (aI g (u_3 29) 24 (fun _ => 0)), (aI g (u_3 30) 6 (fun _ => 0)), (oX1 (u_3 31) (u_3 32) (u_3 33) (u_3 34) 0 0), (aI g (u_3 32) 3 (fun _ => 0)), (aI g (u_3 33) 3 (fun _ => 0)), (aI g (u_3 34) 3 (fun _ => 0)), (aI g (u_3 35) 3 (fun _ => 0)), (oX5 (u_3 36) (u_3 37) (u_3 38) 0), (aI g (u_3 37) 6 (fun _ => 0)), (aI g (u_3 38) 36 (fun _ => 0)), (oX5 (u_3 39) (u_3 40) (u_3 41) 0), (aI g (u_3 40) 6 (fun _ => 0)), (aI g (u_3 41) 36 (fun _ => 0)), (oX5 (u_3 42) (u_3 43) (u_3 44) 0), (aI g (u_3 43) 6 (fun _ => 0)), (aI g (u_3 44) 36 (fun _ => 0)), (oX5 (u_3 45) (u_3 46) (u_3 47) 0), (aI g (u_3 46) 6 (fun _ => 0)), (aI g (u_3 47) 36 (fun _ => 0)), (oX5 (u_3 48) (u_3 49) (u_3 50) 0), (aI g (u_3 49) 6 (fun _ => 0)), (aI g (u_3 50) 36 (fun _ => 0)), (oX5 (u_3 51) (u_3 52) (u_3 53) 0), (aI g (u_3 52) 6 (fun _ => 0)), (aI g (u_3 53) 36 (fun _ => 0)), (oX5 (u_3 54) (u_3 55) (u_3 56) 0), (aI g (u_3 55) 6 (fun _ => 0)), (aI g (u_3 56) 36 (fun _ => 0))]) := ⟨u_3, (fun i9 => [0, 0, 0, (-1), 0, 1, 1, 0, 0, 0, 0, 0, 0, 0, 0, 0, 0, 0].getD i9 0), (fun i9 => [1, 1].getD i9 0), (fun i9 => [fun _ => 0, fun _ => 0, flF unF (fun _ => 0) 24, flF nrF (fun _ => 0) 10, fun _ => 0, fun _ => 0, flF unF (fun _ => 0) 24, flF nrF (fun _ => 0) 10, fun _ => 0, fun _ => 0, beginF (flF unF (fun _ => 0) 24) (fun _ => 0) 0 (fun _ => 0), fun _ => 0, fun _ => 0, upd (upd (upd (upd (fun _ => 0) 0 8) 1 8) 2 8) 3 8, upd (upd (upd (upd (fun _ => 0) 0 8) 1 8) 2 8) 3 8, fun _ => 0, fun _ => 0, fun _ => 0, fun _ => 0, fun _ => 0, fun _ => 0, fun _ => 0, fun _ => 0, fun _ => 0, fun _ => 0, fun _ => 0, fun _ => 0, fun _ => 0, fun _ => 0, fun _ => 0, fun _ => 0, fun _ => 0, fun _ => 0, fun _ => 0, fun _ => 0, fun _ => 0, fun _ => 0].getD i9 (fun _ => 0)), 0, 0, 0, 0, 0, va_up (va_up (va_up (va_up (va_up (va_up (va_up (fun _ => none) 0 (some (u_3 36))) 1 (some (u_3 39))) 2 (some (u_3 42))) 3 (some (u_3 45))) 4 (some (u_3 48))) 5 (some (u_3 51))) 6 (some (u_3 54)), fun _ => none, [], rfl, by decide, by decide, by decide, by decide, rfl, ⟨0, by decide, rfl⟩, fun k9 hk9 => (by decide : (-1 : Int32) ≤ 0), rfl, ⟨0, by decide, rfl⟩, fun k9 hk9 => (by decide : (-1 : Int32) ≤ 0), rfl, ⟨0, by decide, rfl⟩, fun k9 hk9 => (by decide : (-1 : Int32) ≤ 0), rfl, ⟨0, by decide, rfl⟩, fun k9 hk9 => (by decide : (-1 : Int32) ≤ 0), rfl, ⟨0, by decide, rfl⟩, fun k9 hk9 => (by decide : (-1 : Int32) ≤ 0), rfl, ⟨0, by decide, rfl⟩, fun k9 hk9 => (by decide : (-1 : Int32) ≤ 0), rfl, ⟨0, by decide, rfl⟩, fun k9 hk9 => (by decide : (-1 : Int32) ≤ 0), rfl, rfl, rfl, rfl, rfl, by decide, rfl, (fun j hj => absurd hj (Nat.not_lt_zero j)), rfl, (fun i hi => rfl), ⟨mt_0 (fun _ => 0) (fun _ => 0), (fun k9 h9 => absurd h9 (Nat.not_lt_zero k9))⟩, (by show nowC 0 (beginF (flF unF (fun _ => 0) 24) (fun _ => 0) 0 (fun _ => 0)) (S00.2.2.2.2 5); rw [S00_5]; exact bg_now (by decide) (mt_0 (fun _ => 0) (fun _ => 0)) (fun k9 h9 => absurd h9 (Nat.not_lt_zero k9))), (fun t9 h9 => absurd h9 (Nat.not_lt_zero t9)), (fun h9 => absurd h9 (by decide)), (fun h9 => absurd h9 (by decide)), (fun h9 => absurd h9 (by decide)), (fun h9 => absurd h9 (by decide)), (fun h9 => absurd h9 (by decide)), (fun h9 => absurd h9 (by decide)), (fun m9 h9 => ⟨rfl, rfl, rfl⟩), (fun b9 h9 => rfl), ⟨[], by decide, by decide, rfl, fun j hj => rfl, fun q hq => absurd hq List.not_mem_nil, (fun j hj => absurd hj (Nat.not_lt_zero j))⟩⟩
  have hIM : IM g q_5 S00 0 ((oX11 q_5 0 0 0 (-1) 0 0 0 0 (u_7.1 0) (u_7.1 1) (u_7.1 2) (u_7.1 3) (u_7.1 4) (u_7.1 5) 0 (u_7.1 6) (u_7.1 7) (u_7.1 8) (u_7.1 9) (u_7.1 10) (u_7.1 11) (u_7.1 12) (u_7.1 13) 0 1 1 0 0 0 (u_7.1 14) (u_7.1 15) (u_7.1 16) (u_7.1 17) 0 (u_7.1 18)) :: ([(aI g (u_7.1 0) 500 (fun _ => 0)), (aI g (u_7.1 1) 3 (fun _ => 0)), (aI g (u_7.1 2) 25 (tnF (fun _ => 0))), (aI g (u_7.1 3) 25 (flF (tnF (fun _ => 0)) (fun _ => 0) 25)), (aI g (u_7.1 6) 7 (fun _ => 0)), (aI g (u_7.1 7) 36 (fun _ => 0)), (aI g (u_7.1 10) 25 u_7.2.2.2.2.2), (aI g (u_7.1 11) 25 (fun _ => 0)), (aM g (u_7.1 4) 6 (he_ro 6 (u_7.2.2.2.2.1 1))), (aM g (u_7.1 5) 6 (he_ro 6 (u_7.2.2.2.2.1 2))), (aM g (u_7.1 8) 7 (he_ro 7 (u_7.2.2.2.2.1 3))), (aM g (u_7.1 9) 7 (he_ro 7 (u_7.2.2.2.2.1 4))), (aM g (u_7.1 12) 121 (he_ro 121 (u_7.2.2.2.2.1 5))), (aM g (u_7.1 13) 120 (he_ro 120 (u_7.2.2.2.2.1 6))), (aM g (u_7.1 14) 4 (he_ro 4 (u_7.2.2.2.2.1 7))), (aM g (u_7.1 15) 12 (he_ro 12 (u_7.2.2.2.2.1 8))), (aM g (u_7.1 16) 2 (he_ro 2 (u_7.2.2.2.2.1 9))), (aM g (u_7.1 17) 3 (he_ro 3 (u_7.2.2.2.2.1 10))), (aM g (u_7.1 18) 13 (he_ro 13 (u_7.2.2.2.2.1 11)))] ++ (he_pl g u_7.2.1 u_7.2.2.1 u_7.2.2.2.1))) := ⟨u_7.1, (fun i9 => [0, (-1), 0, 0, 0, 0, 0, 0].getD i9 0), (fun i9 => [fun _ => 0, fun _ => 0, tnF (fun _ => 0), flF (tnF (fun _ => 0)) (fun _ => 0) 25, fun _ => 0, fun _ => 0, u_7.2.2.2.2.2, fun _ => 0].getD i9 (fun _ => 0)), 0, 0, 1, 1, 0, 0, 0, 0, u_7.2.1, u_7.2.2.1, u_7.2.2.2.1, (u_7.2.2.2.2.1 1), (u_7.2.2.2.2.1 2), (u_7.2.2.2.2.1 3), (u_7.2.2.2.2.1 4), (u_7.2.2.2.2.1 5), (u_7.2.2.2.2.1 6), (u_7.2.2.2.2.1 7), (u_7.2.2.2.2.1 8), (u_7.2.2.2.2.1 9), (u_7.2.2.2.2.1 10), (u_7.2.2.2.2.1 11), (fun _ => 0), (fun _ _ => 0), rfl, by decide, rfl, by decide, by decide, by decide, by decide, by decide, by decide, by decide, ⟨hf_87, Or.inl hf_86⟩, (fun _ _ => Nat.zero_le _), MI_new hf_88, ⟨hf_9, hf_10, hf_11, hf_12, hf_13, hf_14, hf_15, hf_16, hf_17, hf_18, hf_19⟩, ⟨hf_20, hf_21, hf_22, hf_23, hf_24, hf_25, hf_26, hf_27, hf_28, hf_29, hf_30, hf_31, hf_32, hf_33, hf_34, hf_35, hf_36, hf_37, hf_38, hf_39, hf_40, hf_41, hf_42, hf_43, hf_44, hf_45, hf_46, hf_47, hf_48, hf_49, hf_50, hf_51, hf_52, hf_53, hf_54, hf_55, hf_56, hf_57, hf_58, hf_59, hf_60, hf_61, hf_62, hf_63, hf_64, hf_65, hf_66, hf_67, hf_68, hf_69, hf_70, hf_71, hf_72, hf_73, hf_74⟩, ⟨hf_75, hf_76, hf_77, hf_78, hf_79, hf_80, hf_81, hf_82, hf_83, hf_84, hf_85⟩, rfl, rfl, rfl, rfl, rfl, rfl, (fun j hj => absurd hj (Nat.not_lt_zero j)), rfl, (fun i hi => rfl), kpL_0, ⟨(fun i9 h1 h2 => by show flF (tnF (fun _ => 0)) (fun _ => 0) 25 i9 = tnA i9; unfold flF; rw [if_pos h2]; exact tn_A _ i9 h1 h2), fun k9 h9 => absurd h9 (Nat.not_lt_zero k9)⟩, (fun i9 h9 => (by rw [S00_5]; exact hf_89 i9 h9)), (fun t9 h9 => absurd h9 (Nat.not_lt_zero t9)), (fun t9 h9 => absurd h9 (Nat.not_lt_zero t9)), of_new (L := []) (R := fun _ _ => 0) hf_88⟩
  exact lw_loop l hlt g C1 hL q_1 q_5 q_90 (L + 7) 0 S00 0 _ _ _ _ _ (by omega) (Nat.zero_le _) ok_S00 ⟨_, _, _, _, rfl, hIC, hIM⟩ hP hD hS (lv_sub hl [4, 3, 2, 1, 0] rfl)
end
