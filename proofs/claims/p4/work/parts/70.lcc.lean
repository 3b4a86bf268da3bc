set_option maxHeartbeats 8000000 in
set_option maxRecDepth 100000 in
theorem lc_seen {p : Program} {e : Env} {s : State} {m : MethodId} {below : List Frame} {meth : Method} {c : Code} {Q : State → Prop} (l : Launch) (hlt : l.stackTraces = false) (g : he_G) {b Ln : Nat} {xs : Nat → Int32} (C0 : lw_C p s m meth c b Ln xs g) (i : Nat) (hi : i + 6 ≤ Ln) (hL : Ln ≤ 3072) (x0 m0 o0 : Nat) (S : AbS) (t : Int32) (fo : Nat → Int64) (W9 : va_W) (hI : IL g x0 m0 o0 S S t fo W9) {H : Heap} {locs : List Loc} {ls : Array Slot} (hP : va_P g.1 vwCl W9 H) (hD : va_D (lw_A s) W9) (hS : va_S (lw_A s) s.heap H locs) (hl : lv_has ls 8 [(0, .ref b), (1, .ref x0), (2, .ref m0), (3, .ref o0), (4, .int (nI i))]) (kk : ∀ (S2 : AbS) (t2 : Int32) (fo2 : Nat → Int64) (W2 : va_W) (H2 : Heap) (locs2 : List Loc) (ls2 : Array Slot), IL g x0 m0 o0 S2 S2 t2 fo2 W2 → va_P g.1 vwCl W2 H2 → va_D (lw_A s) W2 → va_S (lw_A s) s.heap H2 locs2 → lv_has ls2 8 [(0, .ref b), (1, .ref x0), (2, .ref m0), (3, .ref o0), (4, .int (nI i))] → W p l e room_1 s m #[Value.ref b] below meth c H2 locs2 (1000 + 4 * (i + 6)) (100000 + 700 * (i + 6)) Q (F0 m 1369 ls2 [])) : W p l e room_1 s m #[Value.ref b] below meth c H locs (1000 + 4 * i) (100000 + 700 * i) Q (F0 m 956 ls []) := by
  obtain ⟨hx, hb, hr, hml, hown, hts, hX, hbl, hlk, hK, hE, hA, hbA, hNc⟩ := C0
  obtain ⟨fx, fm, Rc, Rm, rfl, hc, hm⟩ := hI
  refine lv_aload_n hx hb dL_law_956 rfl (lv_at hl 1 rfl) ?_
  refine lv_aload_n hx hb dL_law_957 rfl (lv_at hl 0 rfl) ?_
  refine lv_iload hx hb dL_law_958 (lv_at hl 4 rfl) ?_
  refine lv_iconst (v := 1) hx hb dL_law_960 (by decide) ?_
  refine lv_iadd hx hb dL_law_961 ?_
  refine he_top (nI (i + 1)) (nI_add i 1) ?_
  refine he_sld hx hb hX hbl hbA hS (i + 1) rfl (by omega) (by omega) (xs (i + 1)) rfl dL_law_962 ?_
  refine lv_aload_n hx hb dL_law_963 rfl (lv_at hl 3 rfl) ?_
  refine he_ci (wc := ([(x0, .inr (9, fx)), (m0, .inr (10, fm)), (aL g o0 1 fo)] ++ (Rc ++ Rm))) (wr := []) (vx_runSW (As := [.ref x0, .int (xs (i + 1)), .ref o0]) (rest := []) ⟨hx, hb, hml, hown, hts⟩ (w_seen l hlt g x0 m0 o0 S S t fo _ (xs (i + 1)) ⟨_, _, _, _, rfl, hc, hm⟩ H.size) (vx_cwSW 3 hts gL_law_L_seen rfl rfl rfl (by decide +kernel) ⟨Nat.le_of_ble_eq_true rfl, Nat.le_of_ble_eq_true rfl⟩) (he_preS (wc := ([(x0, .inr (9, fx)), (m0, .inr (10, fm)), (aL g o0 1 fo)] ++ (Rc ++ Rm))) hK hP hD hS hA hE (List.range (([(x0, .inr (9, fx)), (m0, .inr (10, fm)), (aL g o0 1 fo)] ++ (Rc ++ Rm)) : va_W).length) (he_all _) (he_allnd _)) rfl rfl hl.1 rfl (lv_room (Nat.le_of_ble_eq_true rfl)) dL_law_964 ⟨(by show 1000 + 4 * i + 1 ≤ 601024; omega), (by show 100000 + 700 * i + 6 ≤ 7293034; omega)⟩) hP hD hS hA (List.range (([(x0, .inr (9, fx)), (m0, .inr (10, fm)), (aL g o0 1 fo)] ++ (Rc ++ Rm)) : va_W).length) [] (he_all _) rfl rfl (fun _ h9 => absurd h9 List.not_mem_nil) (fun r_1 u_2 H locs hu_3 hP hD hS => ?_)
  obtain ⟨fo_964, hI9, hr964, ho964⟩ := hu_3
  obtain ⟨fx_q_4, fm_q_4, Rc_q_4, Rm_q_4, rfl, hc, hm⟩ := hI9
  have hP : va_P g.1 vwCl ([(x0, .inr (9, fx_q_4)), (m0, .inr (10, fm_q_4)), (aL g o0 1 fo_964)] ++ (Rc_q_4 ++ Rm_q_4)) H := hP
  have hD : va_D (lw_A s) ([(x0, .inr (9, fx_q_4)), (m0, .inr (10, fm_q_4)), (aL g o0 1 fo_964)] ++ (Rc_q_4 ++ Rm_q_4)) := hD
  refine lv_istore (lv' := [(5, .int r_1), (0, .ref b), (1, .ref x0), (2, .ref m0), (3, .ref o0), (4, .int (nI i))]) hx hb dL_law_967 hl (by decide) rfl (fun ls hl => ?_)
  refine lv_aload_n hx hb dL_law_969 rfl (lv_at hl 3 rfl) ?_
  refine lv_aload_n hx hb dL_law_970 rfl (lv_at hl 1 rfl) ?_
  refine lv_iload hx hb dL_law_971 (lv_at hl 5 rfl) ?_
  refine lv_iconst (v := 1) hx hb dL_law_973 (by decide) ?_
  refine lv_iadd hx hb dL_law_974 ?_
  refine he_top (nI (i + 1)) (nI_add i 1) ?_
  refine he_sld hx hb hX hbl hbA hS (i + 1) rfl (by omega) (by omega) (xs (i + 1)) rfl dL_law_975 ?_
  refine he_ci (wc := ([(x0, .inr (9, fx_q_4)), (m0, .inr (10, fm_q_4)), (aL g o0 1 fo_964)] ++ (Rc_q_4 ++ Rm_q_4))) (wr := []) (va_runV (As := [.int (xs (i + 1))]) (rest := []) ⟨hx, hb, hml, hown, hts⟩ (il_mI (j_seen l g m0 S t _ (xs (i + 1)) hm) hc H.size) (cwV 1 hts gL_law_X11_seen rfl rfl rfl (by decide +kernel) ⟨Nat.le_of_ble_eq_true rfl, Nat.le_of_ble_eq_true rfl⟩) (he_preV (wc := ([(x0, .inr (9, fx_q_4)), (m0, .inr (10, fm_q_4)), (aL g o0 1 fo_964)] ++ (Rc_q_4 ++ Rm_q_4))) hK hP hD hS hA hE (List.range (([(x0, .inr (9, fx_q_4)), (m0, .inr (10, fm_q_4)), (aL g o0 1 fo_964)] ++ (Rc_q_4 ++ Rm_q_4)) : va_W).length) (he_all _) (he_allnd _) 1 rfl rfl) rfl rfl hl.1 rfl (lv_room (Nat.le_of_ble_eq_true rfl)) dL_law_976 ⟨(by show 1000 + 4 * i + 1 + 0 ≤ 601024; omega), (by show 100000 + 700 * i + 6 + 0 ≤ 7293034; omega)⟩) hP hD hS hA (List.range (([(x0, .inr (9, fx_q_4)), (m0, .inr (10, fm_q_4)), (aL g o0 1 fo_964)] ++ (Rc_q_4 ++ Rm_q_4)) : va_W).length) [] (he_all _) rfl rfl (fun _ h9 => absurd h9 List.not_mem_nil) (fun r_5 u_6 H locs hu_7 hP hD hS => ?_)
  obtain ⟨t_976, hI9, ht976, hm976⟩ := hu_7
  obtain ⟨fx_q_8, fm_q_8, Rc_q_8, Rm_q_8, rfl, hc, hm⟩ := hI9
  have hP : va_P g.1 vwCl ([(x0, .inr (9, fx_q_8)), (m0, .inr (10, fm_q_8)), (aL g o0 1 fo_964)] ++ (Rc_q_8 ++ Rm_q_8)) H := hP
  have hD : va_D (lw_A s) ([(x0, .inr (9, fx_q_8)), (m0, .inr (10, fm_q_8)), (aL g o0 1 fo_964)] ++ (Rc_q_8 ++ Rm_q_8)) := hD
  refine lv_istore (lv' := [(6, .int r_5), (5, .int r_1), (0, .ref b), (1, .ref x0), (2, .ref m0), (3, .ref o0), (4, .int (nI i))]) hx hb dL_law_979 hl (by decide) rfl (fun ls hl => ?_)
  refine lv_goto (tgt := 1369) hx hb dL_law_981 (by decide) ?_
  refine W.widen (k := 1000 + 4 * (i + 6)) (n := 100000 + 700 * (i + 6)) (by show 1000 + 4 * i + 1 + 0 ≤ 1000 + 4 * (i + 6); omega) (by show 100000 + 700 * i + 6 + 0 ≤ 100000 + 700 * (i + 6); omega) ?_
  exact kk ((sp_seen S (xs (i + 1))).2.2) t_976 fo_964 _ H locs ls ⟨_, _, _, _, rfl, hc, hm⟩ hP hD hS (lv_sub hl [2, 3, 4, 5, 6] rfl)
set_option maxHeartbeats 8000000 in
set_option maxRecDepth 100000 in
theorem lc_spy {p : Program} {e : Env} {s : State} {m : MethodId} {below : List Frame} {meth : Method} {c : Code} {Q : State → Prop} (l : Launch) (hlt : l.stackTraces = false) (g : he_G) {b Ln : Nat} {xs : Nat → Int32} (C0 : lw_C p s m meth c b Ln xs g) (i : Nat) (hi : i + 6 ≤ Ln) (hL : Ln ≤ 3072) (x0 m0 o0 : Nat) (S : AbS) (t : Int32) (fo : Nat → Int64) (W9 : va_W) (hI : IL g x0 m0 o0 S S t fo W9) {H : Heap} {locs : List Loc} {ls : Array Slot} (hP : va_P g.1 vwCl W9 H) (hD : va_D (lw_A s) W9) (hS : va_S (lw_A s) s.heap H locs) (hl : lv_has ls 8 [(0, .ref b), (1, .ref x0), (2, .ref m0), (3, .ref o0), (4, .int (nI i))]) (kk : ∀ (S2 : AbS) (t2 : Int32) (fo2 : Nat → Int64) (W2 : va_W) (H2 : Heap) (locs2 : List Loc) (ls2 : Array Slot), IL g x0 m0 o0 S2 S2 t2 fo2 W2 → va_P g.1 vwCl W2 H2 → va_D (lw_A s) W2 → va_S (lw_A s) s.heap H2 locs2 → lv_has ls2 8 [(0, .ref b), (1, .ref x0), (2, .ref m0), (3, .ref o0), (4, .int (nI i))] → W p l e room_1 s m #[Value.ref b] below meth c H2 locs2 (1000 + 4 * (i + 6)) (100000 + 700 * (i + 6)) Q (F0 m 1369 ls2 [])) : W p l e room_1 s m #[Value.ref b] below meth c H locs (1000 + 4 * i) (100000 + 700 * i) Q (F0 m 984 ls []) := by
  obtain ⟨hx, hb, hr, hml, hown, hts, hX, hbl, hlk, hK, hE, hA, hbA, hNc⟩ := C0
  obtain ⟨fx, fm, Rc, Rm, rfl, hc, hm⟩ := hI
  refine lv_aload_n hx hb dL_law_984 rfl (lv_at hl 1 rfl) ?_
  refine lv_aload_n hx hb dL_law_985 rfl (lv_at hl 0 rfl) ?_
  refine lv_iload hx hb dL_law_986 (lv_at hl 4 rfl) ?_
  refine lv_iconst (v := 1) hx hb dL_law_988 (by decide) ?_
  refine lv_iadd hx hb dL_law_989 ?_
  refine he_top (nI (i + 1)) (nI_add i 1) ?_
  refine he_sld hx hb hX hbl hbA hS (i + 1) rfl (by omega) (by omega) (xs (i + 1)) rfl dL_law_990 ?_
  refine lv_if_eq (tgt := 998) hx hb dL_law_991 (by decide) (fun c_1 => ?_) (fun c_1 => ?_)
  · refine lv_iconst (v := 0) hx hb dL_law_998 (by decide) ?_
    refine lv_aload_n hx hb dL_law_999 rfl (lv_at hl 0 rfl) ?_
    refine lv_iload hx hb dL_law_1000 (lv_at hl 4 rfl) ?_
    refine lv_iconst (v := 2) hx hb dL_law_1002 (by decide) ?_
    refine lv_iadd hx hb dL_law_1003 ?_
    refine he_top (nI (i + 2)) (nI_add i 2) ?_
    refine he_sld hx hb hX hbl hbA hS (i + 2) rfl (by omega) (by omega) (xs (i + 2)) rfl dL_law_1004 ?_
    refine lv_aload_n hx hb dL_law_1005 rfl (lv_at hl 3 rfl) ?_
    refine he_ci (wc := ([(x0, .inr (9, fx)), (m0, .inr (10, fm)), (aL g o0 1 fo)] ++ (Rc ++ Rm))) (wr := []) (vx_runSW (As := [.ref x0, .int 0, .int (xs (i + 2)), .ref o0]) (rest := []) ⟨hx, hb, hml, hown, hts⟩ (w_spy l hlt g x0 m0 o0 S S t fo _ 0 (xs (i + 2)) (by first | exact Or.inl rfl | exact Or.inr rfl | assumption) ⟨_, _, _, _, rfl, hc, hm⟩ H.size) (vx_cwSW 4 hts gL_law_L_spy rfl rfl rfl (by decide +kernel) ⟨Nat.le_of_ble_eq_true rfl, Nat.le_of_ble_eq_true rfl⟩) (he_preS (wc := ([(x0, .inr (9, fx)), (m0, .inr (10, fm)), (aL g o0 1 fo)] ++ (Rc ++ Rm))) hK hP hD hS hA hE (List.range (([(x0, .inr (9, fx)), (m0, .inr (10, fm)), (aL g o0 1 fo)] ++ (Rc ++ Rm)) : va_W).length) (he_all _) (he_allnd _)) rfl rfl hl.1 rfl (lv_room (Nat.le_of_ble_eq_true rfl)) dL_law_1006 ⟨(by show 1000 + 4 * i + 1 ≤ 601024; omega), (by show 100000 + 700 * i + 6 ≤ 7293034; omega)⟩) hP hD hS hA (List.range (([(x0, .inr (9, fx)), (m0, .inr (10, fm)), (aL g o0 1 fo)] ++ (Rc ++ Rm)) : va_W).length) [] (he_all _) rfl rfl (fun _ h9 => absurd h9 List.not_mem_nil) (fun r_2 u_3 H locs hu_4 hP hD hS => ?_)
    obtain ⟨fo_1006, hI9, hr1006, ho1006⟩ := hu_4
    obtain ⟨fx_q_5, fm_q_5, Rc_q_5, Rm_q_5, rfl, hc, hm⟩ := hI9
    have hP : va_P g.1 vwCl ([(x0, .inr (9, fx_q_5)), (m0, .inr (10, fm_q_5)), (aL g o0 1 fo_1006)] ++ (Rc_q_5 ++ Rm_q_5)) H := hP
    have hD : va_D (lw_A s) ([(x0, .inr (9, fx_q_5)), (m0, .inr (10, fm_q_5)), (aL g o0 1 fo_1006)] ++ (Rc_q_5 ++ Rm_q_5)) := hD
    refine lv_istore (lv' := [(5, .int r_2), (0, .ref b), (1, .ref x0), (2, .ref m0), (3, .ref o0), (4, .int (nI i))]) hx hb dL_law_1009 hl (by decide) rfl (fun ls hl => ?_)
    refine lv_aload_n hx hb dL_law_1011 rfl (lv_at hl 3 rfl) ?_
    refine lv_aload_n hx hb dL_law_1012 rfl (lv_at hl 1 rfl) ?_
    refine lv_iload hx hb dL_law_1013 (lv_at hl 5 rfl) ?_
    refine lv_iconst (v := 1) hx hb dL_law_1015 (by decide) ?_
    refine lv_iadd hx hb dL_law_1016 ?_
    refine he_top (nI (i + 1)) (nI_add i 1) ?_
    refine he_sld hx hb hX hbl hbA hS (i + 1) rfl (by omega) (by omega) (xs (i + 1)) rfl dL_law_1017 ?_
    refine lv_if_eq (tgt := 1025) hx hb dL_law_1018 (by decide) (fun c_6 => ?_) (fun c_6 => ?_)
    · refine lv_iconst (v := 0) hx hb dL_law_1025 (by decide) ?_
      refine lv_aload_n hx hb dL_law_1026 rfl (lv_at hl 1 rfl) ?_
      refine lv_iload hx hb dL_law_1027 (lv_at hl 5 rfl) ?_
      refine lv_iconst (v := 2) hx hb dL_law_1029 (by decide) ?_
      refine lv_iadd hx hb dL_law_1030 ?_
      refine he_top (nI (i + 2)) (nI_add i 2) ?_
      refine he_sld hx hb hX hbl hbA hS (i + 2) rfl (by omega) (by omega) (xs (i + 2)) rfl dL_law_1031 ?_
      refine he_ci (wc := ([(x0, .inr (9, fx_q_5)), (m0, .inr (10, fm_q_5)), (aL g o0 1 fo_1006)] ++ (Rc_q_5 ++ Rm_q_5))) (wr := []) (va_runV (As := [.int 0, .int (xs (i + 2))]) (rest := []) ⟨hx, hb, hml, hown, hts⟩ (il_mI (j_spy l g m0 S t _ 0 (xs (i + 2)) (by first | exact Or.inl rfl | exact Or.inr rfl | assumption) hm) hc H.size) (cwV 2 hts gL_law_X11_spy rfl rfl rfl (by decide +kernel) ⟨Nat.le_of_ble_eq_true rfl, Nat.le_of_ble_eq_true rfl⟩) (he_preV (wc := ([(x0, .inr (9, fx_q_5)), (m0, .inr (10, fm_q_5)), (aL g o0 1 fo_1006)] ++ (Rc_q_5 ++ Rm_q_5))) hK hP hD hS hA hE (List.range (([(x0, .inr (9, fx_q_5)), (m0, .inr (10, fm_q_5)), (aL g o0 1 fo_1006)] ++ (Rc_q_5 ++ Rm_q_5)) : va_W).length) (he_all _) (he_allnd _) 1 rfl rfl) rfl rfl hl.1 rfl (lv_room (Nat.le_of_ble_eq_true rfl)) dL_law_1032 ⟨(by show 1000 + 4 * i + 1 + 0 ≤ 601024; omega), (by show 100000 + 700 * i + 6 + 0 ≤ 7293034; omega)⟩) hP hD hS hA (List.range (([(x0, .inr (9, fx_q_5)), (m0, .inr (10, fm_q_5)), (aL g o0 1 fo_1006)] ++ (Rc_q_5 ++ Rm_q_5)) : va_W).length) [] (he_all _) rfl rfl (fun _ h9 => absurd h9 List.not_mem_nil) (fun r_7 u_8 H locs hu_9 hP hD hS => ?_)
      obtain ⟨t_1032, hI9, ht1032, hm1032⟩ := hu_9
      obtain ⟨fx_q_10, fm_q_10, Rc_q_10, Rm_q_10, rfl, hc, hm⟩ := hI9
      have hP : va_P g.1 vwCl ([(x0, .inr (9, fx_q_10)), (m0, .inr (10, fm_q_10)), (aL g o0 1 fo_1006)] ++ (Rc_q_10 ++ Rm_q_10)) H := hP
      have hD : va_D (lw_A s) ([(x0, .inr (9, fx_q_10)), (m0, .inr (10, fm_q_10)), (aL g o0 1 fo_1006)] ++ (Rc_q_10 ++ Rm_q_10)) := hD
      refine lv_istore (lv' := [(6, .int r_7), (5, .int r_2), (0, .ref b), (1, .ref x0), (2, .ref m0), (3, .ref o0), (4, .int (nI i))]) hx hb dL_law_1035 hl (by decide) rfl (fun ls hl => ?_)
      refine lv_goto (tgt := 1369) hx hb dL_law_1037 (by decide) ?_
      refine W.widen (k := 1000 + 4 * (i + 6)) (n := 100000 + 700 * (i + 6)) (by show 1000 + 4 * i + 1 + 0 ≤ 1000 + 4 * (i + 6); omega) (by show 100000 + 700 * i + 6 + 0 ≤ 100000 + 700 * (i + 6); omega) ?_
      exact kk ((sp_spy S 0 (xs (i + 2))).2.2) t_1032 fo_1006 _ H locs ls ⟨_, _, _, _, rfl, hc, hm⟩ hP hD hS (lv_sub hl [2, 3, 4, 5, 6] rfl)
    · exact absurd c_1 c_6
  · refine lv_iconst (v := 1) hx hb dL_law_994 (by decide) ?_
    refine lv_goto (tgt := 999) hx hb dL_law_995 (by decide) ?_
    refine lv_aload_n hx hb dL_law_999 rfl (lv_at hl 0 rfl) ?_
    refine lv_iload hx hb dL_law_1000 (lv_at hl 4 rfl) ?_
    refine lv_iconst (v := 2) hx hb dL_law_1002 (by decide) ?_
    refine lv_iadd hx hb dL_law_1003 ?_
    refine he_top (nI (i + 2)) (nI_add i 2) ?_
    refine he_sld hx hb hX hbl hbA hS (i + 2) rfl (by omega) (by omega) (xs (i + 2)) rfl dL_law_1004 ?_
    refine lv_aload_n hx hb dL_law_1005 rfl (lv_at hl 3 rfl) ?_
    refine he_ci (wc := ([(x0, .inr (9, fx)), (m0, .inr (10, fm)), (aL g o0 1 fo)] ++ (Rc ++ Rm))) (wr := []) (vx_runSW (As := [.ref x0, .int 1, .int (xs (i + 2)), .ref o0]) (rest := []) ⟨hx, hb, hml, hown, hts⟩ (w_spy l hlt g x0 m0 o0 S S t fo _ 1 (xs (i + 2)) (by first | exact Or.inl rfl | exact Or.inr rfl | assumption) ⟨_, _, _, _, rfl, hc, hm⟩ H.size) (vx_cwSW 4 hts gL_law_L_spy rfl rfl rfl (by decide +kernel) ⟨Nat.le_of_ble_eq_true rfl, Nat.le_of_ble_eq_true rfl⟩) (he_preS (wc := ([(x0, .inr (9, fx)), (m0, .inr (10, fm)), (aL g o0 1 fo)] ++ (Rc ++ Rm))) hK hP hD hS hA hE (List.range (([(x0, .inr (9, fx)), (m0, .inr (10, fm)), (aL g o0 1 fo)] ++ (Rc ++ Rm)) : va_W).length) (he_all _) (he_allnd _)) rfl rfl hl.1 rfl (lv_room (Nat.le_of_ble_eq_true rfl)) dL_law_1006 ⟨(by show 1000 + 4 * i + 1 ≤ 601024; omega), (by show 100000 + 700 * i + 6 ≤ 7293034; omega)⟩) hP hD hS hA (List.range (([(x0, .inr (9, fx)), (m0, .inr (10, fm)), (aL g o0 1 fo)] ++ (Rc ++ Rm)) : va_W).length) [] (he_all _) rfl rfl (fun _ h9 => absurd h9 List.not_mem_nil) (fun r_11 u_12 H locs hu_13 hP hD hS => ?_)
    obtain ⟨fo_1006, hI9, hr1006, ho1006⟩ := hu_13
    obtain ⟨fx_q_14, fm_q_14, Rc_q_14, Rm_q_14, rfl, hc, hm⟩ := hI9
    have hP : va_P g.1 vwCl ([(x0, .inr (9, fx_q_14)), (m0, .inr (10, fm_q_14)), (aL g o0 1 fo_1006)] ++ (Rc_q_14 ++ Rm_q_14)) H := hP
    have hD : va_D (lw_A s) ([(x0, .inr (9, fx_q_14)), (m0, .inr (10, fm_q_14)), (aL g o0 1 fo_1006)] ++ (Rc_q_14 ++ Rm_q_14)) := hD
    refine lv_istore (lv' := [(5, .int r_11), (0, .ref b), (1, .ref x0), (2, .ref m0), (3, .ref o0), (4, .int (nI i))]) hx hb dL_law_1009 hl (by decide) rfl (fun ls hl => ?_)
    refine lv_aload_n hx hb dL_law_1011 rfl (lv_at hl 3 rfl) ?_
    refine lv_aload_n hx hb dL_law_1012 rfl (lv_at hl 1 rfl) ?_
    refine lv_iload hx hb dL_law_1013 (lv_at hl 5 rfl) ?_
    refine lv_iconst (v := 1) hx hb dL_law_1015 (by decide) ?_
    refine lv_iadd hx hb dL_law_1016 ?_
    refine he_top (nI (i + 1)) (nI_add i 1) ?_
    refine he_sld hx hb hX hbl hbA hS (i + 1) rfl (by omega) (by omega) (xs (i + 1)) rfl dL_law_1017 ?_
    refine lv_if_eq (tgt := 1025) hx hb dL_law_1018 (by decide) (fun c_15 => ?_) (fun c_15 => ?_)
    · exact absurd c_15 c_1
    · refine lv_iconst (v := 1) hx hb dL_law_1021 (by decide) ?_
      refine lv_goto (tgt := 1026) hx hb dL_law_1022 (by decide) ?_
      refine lv_aload_n hx hb dL_law_1026 rfl (lv_at hl 1 rfl) ?_
      refine lv_iload hx hb dL_law_1027 (lv_at hl 5 rfl) ?_
      refine lv_iconst (v := 2) hx hb dL_law_1029 (by decide) ?_
      refine lv_iadd hx hb dL_law_1030 ?_
      refine he_top (nI (i + 2)) (nI_add i 2) ?_
      refine he_sld hx hb hX hbl hbA hS (i + 2) rfl (by omega) (by omega) (xs (i + 2)) rfl dL_law_1031 ?_
      refine he_ci (wc := ([(x0, .inr (9, fx_q_14)), (m0, .inr (10, fm_q_14)), (aL g o0 1 fo_1006)] ++ (Rc_q_14 ++ Rm_q_14))) (wr := []) (va_runV (As := [.int 1, .int (xs (i + 2))]) (rest := []) ⟨hx, hb, hml, hown, hts⟩ (il_mI (j_spy l g m0 S t _ 1 (xs (i + 2)) (by first | exact Or.inl rfl | exact Or.inr rfl | assumption) hm) hc H.size) (cwV 2 hts gL_law_X11_spy rfl rfl rfl (by decide +kernel) ⟨Nat.le_of_ble_eq_true rfl, Nat.le_of_ble_eq_true rfl⟩) (he_preV (wc := ([(x0, .inr (9, fx_q_14)), (m0, .inr (10, fm_q_14)), (aL g o0 1 fo_1006)] ++ (Rc_q_14 ++ Rm_q_14))) hK hP hD hS hA hE (List.range (([(x0, .inr (9, fx_q_14)), (m0, .inr (10, fm_q_14)), (aL g o0 1 fo_1006)] ++ (Rc_q_14 ++ Rm_q_14)) : va_W).length) (he_all _) (he_allnd _) 1 rfl rfl) rfl rfl hl.1 rfl (lv_room (Nat.le_of_ble_eq_true rfl)) dL_law_1032 ⟨(by show 1000 + 4 * i + 1 + 0 ≤ 601024; omega), (by show 100000 + 700 * i + 6 + 0 ≤ 7293034; omega)⟩) hP hD hS hA (List.range (([(x0, .inr (9, fx_q_14)), (m0, .inr (10, fm_q_14)), (aL g o0 1 fo_1006)] ++ (Rc_q_14 ++ Rm_q_14)) : va_W).length) [] (he_all _) rfl rfl (fun _ h9 => absurd h9 List.not_mem_nil) (fun r_16 u_17 H locs hu_18 hP hD hS => ?_)
      obtain ⟨t_1032, hI9, ht1032, hm1032⟩ := hu_18
      obtain ⟨fx_q_19, fm_q_19, Rc_q_19, Rm_q_19, rfl, hc, hm⟩ := hI9
      have hP : va_P g.1 vwCl ([(x0, .inr (9, fx_q_19)), (m0, .inr (10, fm_q_19)), (aL g o0 1 fo_1006)] ++ (Rc_q_19 ++ Rm_q_19)) H := hP
      have hD : va_D (lw_A s) ([(x0, .inr (9, fx_q_19)), (m0, .inr (10, fm_q_19)), (aL g o0 1 fo_1006)] ++ (Rc_q_19 ++ Rm_q_19)) := hD
      refine lv_istore (lv' := [(6, .int r_16), (5, .int r_11), (0, .ref b), (1, .ref x0), (2, .ref m0), (3, .ref o0), (4, .int (nI i))]) hx hb dL_law_1035 hl (by decide) rfl (fun ls hl => ?_)
      refine lv_goto (tgt := 1369) hx hb dL_law_1037 (by decide) ?_
      refine W.widen (k := 1000 + 4 * (i + 6)) (n := 100000 + 700 * (i + 6)) (by show 1000 + 4 * i + 1 + 0 ≤ 1000 + 4 * (i + 6); omega) (by show 100000 + 700 * i + 6 + 0 ≤ 100000 + 700 * (i + 6); omega) ?_
      exact kk ((sp_spy S 1 (xs (i + 2))).2.2) t_1032 fo_1006 _ H locs ls ⟨_, _, _, _, rfl, hc, hm⟩ hP hD hS (lv_sub hl [2, 3, 4, 5, 6] rfl)
set_option maxHeartbeats 8000000 in
set_option maxRecDepth 100000 in
theorem lc_believed {p : Program} {e : Env} {s : State} {m : MethodId} {below : List Frame} {meth : Method} {c : Code} {Q : State → Prop} (l : Launch) (hlt : l.stackTraces = false) (g : he_G) {b Ln : Nat} {xs : Nat → Int32} (C0 : lw_C p s m meth c b Ln xs g) (i : Nat) (hi : i + 6 ≤ Ln) (hL : Ln ≤ 3072) (x0 m0 o0 : Nat) (S : AbS) (t : Int32) (fo : Nat → Int64) (W9 : va_W) (hI : IL g x0 m0 o0 S S t fo W9) {H : Heap} {locs : List Loc} {ls : Array Slot} (hP : va_P g.1 vwCl W9 H) (hD : va_D (lw_A s) W9) (hS : va_S (lw_A s) s.heap H locs) (hl : lv_has ls 8 [(0, .ref b), (1, .ref x0), (2, .ref m0), (3, .ref o0), (4, .int (nI i))]) (kk : ∀ (S2 : AbS) (t2 : Int32) (fo2 : Nat → Int64) (W2 : va_W) (H2 : Heap) (locs2 : List Loc) (ls2 : Array Slot), IL g x0 m0 o0 S2 S2 t2 fo2 W2 → va_P g.1 vwCl W2 H2 → va_D (lw_A s) W2 → va_S (lw_A s) s.heap H2 locs2 → lv_has ls2 8 [(0, .ref b), (1, .ref x0), (2, .ref m0), (3, .ref o0), (4, .int (nI i))] → W p l e room_1 s m #[Value.ref b] below meth c H2 locs2 (1000 + 4 * (i + 6)) (100000 + 700 * (i + 6)) Q (F0 m 1369 ls2 [])) : W p l e room_1 s m #[Value.ref b] below meth c H locs (1000 + 4 * i) (100000 + 700 * i) Q (F0 m 1040 ls []) := by
  obtain ⟨hx, hb, hr, hml, hown, hts, hX, hbl, hlk, hK, hE, hA, hbA, hNc⟩ := C0
  obtain ⟨fx, fm, Rc, Rm, rfl, hc, hm⟩ := hI
  refine lv_aload_n hx hb dL_law_1040 rfl (lv_at hl 1 rfl) ?_
  refine lv_aload_n hx hb dL_law_1041 rfl (lv_at hl 0 rfl) ?_
  refine lv_iload hx hb dL_law_1042 (lv_at hl 4 rfl) ?_
  refine lv_iconst (v := 1) hx hb dL_law_1044 (by decide) ?_
  refine lv_iadd hx hb dL_law_1045 ?_
  refine he_top (nI (i + 1)) (nI_add i 1) ?_
  refine he_sld hx hb hX hbl hbA hS (i + 1) rfl (by omega) (by omega) (xs (i + 1)) rfl dL_law_1046 ?_
  refine lv_aload_n hx hb dL_law_1047 rfl (lv_at hl 3 rfl) ?_
  refine he_ci (wc := ([(x0, .inr (9, fx)), (m0, .inr (10, fm)), (aL g o0 1 fo)] ++ (Rc ++ Rm))) (wr := []) (vx_runSW (As := [.ref x0, .int (xs (i + 1)), .ref o0]) (rest := []) ⟨hx, hb, hml, hown, hts⟩ (w_believed l hlt g x0 m0 o0 S S t fo _ (xs (i + 1)) ⟨_, _, _, _, rfl, hc, hm⟩ H.size) (vx_cwSW 3 hts gL_law_L_believed rfl rfl rfl (by decide +kernel) ⟨Nat.le_of_ble_eq_true rfl, Nat.le_of_ble_eq_true rfl⟩) (he_preS (wc := ([(x0, .inr (9, fx)), (m0, .inr (10, fm)), (aL g o0 1 fo)] ++ (Rc ++ Rm))) hK hP hD hS hA hE (List.range (([(x0, .inr (9, fx)), (m0, .inr (10, fm)), (aL g o0 1 fo)] ++ (Rc ++ Rm)) : va_W).length) (he_all _) (he_allnd _)) rfl rfl hl.1 rfl (lv_room (Nat.le_of_ble_eq_true rfl)) dL_law_1048 ⟨(by show 1000 + 4 * i + 1 ≤ 601024; omega), (by show 100000 + 700 * i + 6 ≤ 7293034; omega)⟩) hP hD hS hA (List.range (([(x0, .inr (9, fx)), (m0, .inr (10, fm)), (aL g o0 1 fo)] ++ (Rc ++ Rm)) : va_W).length) [] (he_all _) rfl rfl (fun _ h9 => absurd h9 List.not_mem_nil) (fun r_1 u_2 H locs hu_3 hP hD hS => ?_)
  obtain ⟨fo_1048, hI9, hr1048, ho1048⟩ := hu_3
  obtain ⟨fx_q_4, fm_q_4, Rc_q_4, Rm_q_4, rfl, hc, hm⟩ := hI9
  have hP : va_P g.1 vwCl ([(x0, .inr (9, fx_q_4)), (m0, .inr (10, fm_q_4)), (aL g o0 1 fo_1048)] ++ (Rc_q_4 ++ Rm_q_4)) H := hP
  have hD : va_D (lw_A s) ([(x0, .inr (9, fx_q_4)), (m0, .inr (10, fm_q_4)), (aL g o0 1 fo_1048)] ++ (Rc_q_4 ++ Rm_q_4)) := hD
  refine lv_istore (lv' := [(5, .int r_1), (0, .ref b), (1, .ref x0), (2, .ref m0), (3, .ref o0), (4, .int (nI i))]) hx hb dL_law_1051 hl (by decide) rfl (fun ls hl => ?_)
  refine lv_aload_n hx hb dL_law_1053 rfl (lv_at hl 3 rfl) ?_
  refine lv_aload_n hx hb dL_law_1054 rfl (lv_at hl 1 rfl) ?_
  refine lv_iload hx hb dL_law_1055 (lv_at hl 5 rfl) ?_
  refine lv_iconst (v := 1) hx hb dL_law_1057 (by decide) ?_
  refine lv_iadd hx hb dL_law_1058 ?_
  refine he_top (nI (i + 1)) (nI_add i 1) ?_
  refine he_sld hx hb hX hbl hbA hS (i + 1) rfl (by omega) (by omega) (xs (i + 1)) rfl dL_law_1059 ?_
  refine he_cj (wc := ([(x0, .inr (9, fx_q_4)), (m0, .inr (10, fm_q_4)), (aL g o0 1 fo_1048)] ++ (Rc_q_4 ++ Rm_q_4))) (wr := []) (va_runV (As := [.int (xs (i + 1))]) (rest := []) ⟨hx, hb, hml, hown, hts⟩ (il_mJ (j_believed l g m0 S t _ (xs (i + 1)) hm) hc H.size) (cwV 1 hts gL_law_X11_believed rfl rfl rfl (by decide +kernel) ⟨Nat.le_of_ble_eq_true rfl, Nat.le_of_ble_eq_true rfl⟩) (he_preV (wc := ([(x0, .inr (9, fx_q_4)), (m0, .inr (10, fm_q_4)), (aL g o0 1 fo_1048)] ++ (Rc_q_4 ++ Rm_q_4))) hK hP hD hS hA hE (List.range (([(x0, .inr (9, fx_q_4)), (m0, .inr (10, fm_q_4)), (aL g o0 1 fo_1048)] ++ (Rc_q_4 ++ Rm_q_4)) : va_W).length) (he_all _) (he_allnd _) 1 rfl rfl) rfl rfl hl.1 rfl (lv_room (Nat.le_of_ble_eq_true rfl)) dL_law_1060 ⟨(by show 1000 + 4 * i + 1 + 0 ≤ 601024; omega), (by show 100000 + 700 * i + 6 + 0 ≤ 7293034; omega)⟩) hP hD hS hA (List.range (([(x0, .inr (9, fx_q_4)), (m0, .inr (10, fm_q_4)), (aL g o0 1 fo_1048)] ++ (Rc_q_4 ++ Rm_q_4)) : va_W).length) [] (he_all _) rfl rfl (fun _ h9 => absurd h9 List.not_mem_nil) (fun r_5 u_6 H locs hu_7 hP hD hS => ?_)
  obtain ⟨t_1060, hI9, ht1060, hm1060⟩ := hu_7
  obtain ⟨fx_q_8, fm_q_8, Rc_q_8, Rm_q_8, rfl, hc, hm⟩ := hI9
  have hP : va_P g.1 vwCl ([(x0, .inr (9, fx_q_8)), (m0, .inr (10, fm_q_8)), (aL g o0 1 fo_1048)] ++ (Rc_q_8 ++ Rm_q_8)) H := hP
  have hD : va_D (lw_A s) ([(x0, .inr (9, fx_q_8)), (m0, .inr (10, fm_q_8)), (aL g o0 1 fo_1048)] ++ (Rc_q_8 ++ Rm_q_8)) := hD
  refine lv_lstore (lv' := [(6, .long r_5), (5, .int r_1), (0, .ref b), (1, .ref x0), (2, .ref m0), (3, .ref o0), (4, .int (nI i))]) hx hb dL_law_1063 hl (by decide) rfl (fun ls hl => ?_)
  refine lv_goto (tgt := 1369) hx hb dL_law_1065 (by decide) ?_
  refine W.widen (k := 1000 + 4 * (i + 6)) (n := 100000 + 700 * (i + 6)) (by show 1000 + 4 * i + 1 + 0 ≤ 1000 + 4 * (i + 6); omega) (by show 100000 + 700 * i + 6 + 0 ≤ 100000 + 700 * (i + 6); omega) ?_
  exact kk ((sp_believed S (xs (i + 1))).2.2) t_1060 fo_1048 _ H locs ls ⟨_, _, _, _, rfl, hc, hm⟩ hP hD hS (lv_sub hl [2, 3, 4, 5, 6] rfl)
set_option maxHeartbeats 8000000 in
set_option maxRecDepth 100000 in
theorem lc_earnest {p : Program} {e : Env} {s : State} {m : MethodId} {below : List Frame} {meth : Method} {c : Code} {Q : State → Prop} (l : Launch) (hlt : l.stackTraces = false) (g : he_G) {b Ln : Nat} {xs : Nat → Int32} (C0 : lw_C p s m meth c b Ln xs g) (i : Nat) (hi : i + 6 ≤ Ln) (hL : Ln ≤ 3072) (x0 m0 o0 : Nat) (S : AbS) (t : Int32) (fo : Nat → Int64) (W9 : va_W) (hI : IL g x0 m0 o0 S S t fo W9) {H : Heap} {locs : List Loc} {ls : Array Slot} (hP : va_P g.1 vwCl W9 H) (hD : va_D (lw_A s) W9) (hS : va_S (lw_A s) s.heap H locs) (hl : lv_has ls 8 [(0, .ref b), (1, .ref x0), (2, .ref m0), (3, .ref o0), (4, .int (nI i))]) (kk : ∀ (S2 : AbS) (t2 : Int32) (fo2 : Nat → Int64) (W2 : va_W) (H2 : Heap) (locs2 : List Loc) (ls2 : Array Slot), IL g x0 m0 o0 S2 S2 t2 fo2 W2 → va_P g.1 vwCl W2 H2 → va_D (lw_A s) W2 → va_S (lw_A s) s.heap H2 locs2 → lv_has ls2 8 [(0, .ref b), (1, .ref x0), (2, .ref m0), (3, .ref o0), (4, .int (nI i))] → W p l e room_1 s m #[Value.ref b] below meth c H2 locs2 (1000 + 4 * (i + 6)) (100000 + 700 * (i + 6)) Q (F0 m 1369 ls2 [])) : W p l e room_1 s m #[Value.ref b] below meth c H locs (1000 + 4 * i) (100000 + 700 * i) Q (F0 m 1068 ls []) := by
  obtain ⟨hx, hb, hr, hml, hown, hts, hX, hbl, hlk, hK, hE, hA, hbA, hNc⟩ := C0
  obtain ⟨fx, fm, Rc, Rm, rfl, hc, hm⟩ := hI
  refine lv_aload_n hx hb dL_law_1068 rfl (lv_at hl 1 rfl) ?_
  refine lv_aload_n hx hb dL_law_1069 rfl (lv_at hl 0 rfl) ?_
  refine lv_iload hx hb dL_law_1070 (lv_at hl 4 rfl) ?_
  refine lv_iconst (v := 1) hx hb dL_law_1072 (by decide) ?_
  refine lv_iadd hx hb dL_law_1073 ?_
  refine he_top (nI (i + 1)) (nI_add i 1) ?_
  refine he_sld hx hb hX hbl hbA hS (i + 1) rfl (by omega) (by omega) (xs (i + 1)) rfl dL_law_1074 ?_
  refine lv_aload_n hx hb dL_law_1075 rfl (lv_at hl 0 rfl) ?_
  refine lv_iload hx hb dL_law_1076 (lv_at hl 4 rfl) ?_
  refine lv_iconst (v := 2) hx hb dL_law_1078 (by decide) ?_
  refine lv_iadd hx hb dL_law_1079 ?_
  refine he_top (nI (i + 2)) (nI_add i 2) ?_
  refine he_sld hx hb hX hbl hbA hS (i + 2) rfl (by omega) (by omega) (xs (i + 2)) rfl dL_law_1080 ?_
  refine lv_aload_n hx hb dL_law_1081 rfl (lv_at hl 0 rfl) ?_
  refine lv_iload hx hb dL_law_1082 (lv_at hl 4 rfl) ?_
  refine lv_iconst (v := 3) hx hb dL_law_1084 (by decide) ?_
  refine lv_iadd hx hb dL_law_1085 ?_
  refine he_top (nI (i + 3)) (nI_add i 3) ?_
  refine he_sld hx hb hX hbl hbA hS (i + 3) rfl (by omega) (by omega) (xs (i + 3)) rfl dL_law_1086 ?_
  refine lv_aload_n hx hb dL_law_1087 rfl (lv_at hl 3 rfl) ?_
  refine he_ci (wc := ([(x0, .inr (9, fx)), (m0, .inr (10, fm)), (aL g o0 1 fo)] ++ (Rc ++ Rm))) (wr := []) (vx_runSW (As := [.ref x0, .int (xs (i + 1)), .int (xs (i + 2)), .int (xs (i + 3)), .ref o0]) (rest := []) ⟨hx, hb, hml, hown, hts⟩ (w_earnest l hlt g x0 m0 o0 S S t fo _ (xs (i + 1)) (xs (i + 2)) (xs (i + 3)) ⟨_, _, _, _, rfl, hc, hm⟩ H.size) (vx_cwSW 5 hts gL_law_L_earnest rfl rfl rfl (by decide +kernel) ⟨Nat.le_of_ble_eq_true rfl, Nat.le_of_ble_eq_true rfl⟩) (he_preS (wc := ([(x0, .inr (9, fx)), (m0, .inr (10, fm)), (aL g o0 1 fo)] ++ (Rc ++ Rm))) hK hP hD hS hA hE (List.range (([(x0, .inr (9, fx)), (m0, .inr (10, fm)), (aL g o0 1 fo)] ++ (Rc ++ Rm)) : va_W).length) (he_all _) (he_allnd _)) rfl rfl hl.1 rfl (lv_room (Nat.le_of_ble_eq_true rfl)) dL_law_1088 ⟨(by show 1000 + 4 * i + 1 ≤ 601024; omega), (by show 100000 + 700 * i + 6 ≤ 7293034; omega)⟩) hP hD hS hA (List.range (([(x0, .inr (9, fx)), (m0, .inr (10, fm)), (aL g o0 1 fo)] ++ (Rc ++ Rm)) : va_W).length) [] (he_all _) rfl rfl (fun _ h9 => absurd h9 List.not_mem_nil) (fun r_1 u_2 H locs hu_3 hP hD hS => ?_)
  obtain ⟨fo_1088, hI9, hr1088, ho1088⟩ := hu_3
  obtain ⟨fx_q_4, fm_q_4, Rc_q_4, Rm_q_4, rfl, hc, hm⟩ := hI9
  have hP : va_P g.1 vwCl ([(x0, .inr (9, fx_q_4)), (m0, .inr (10, fm_q_4)), (aL g o0 1 fo_1088)] ++ (Rc_q_4 ++ Rm_q_4)) H := hP
  have hD : va_D (lw_A s) ([(x0, .inr (9, fx_q_4)), (m0, .inr (10, fm_q_4)), (aL g o0 1 fo_1088)] ++ (Rc_q_4 ++ Rm_q_4)) := hD
  refine lv_istore (lv' := [(5, .int r_1), (0, .ref b), (1, .ref x0), (2, .ref m0), (3, .ref o0), (4, .int (nI i))]) hx hb dL_law_1091 hl (by decide) rfl (fun ls hl => ?_)
  refine lv_aload_n hx hb dL_law_1093 rfl (lv_at hl 3 rfl) ?_
  refine lv_aload_n hx hb dL_law_1094 rfl (lv_at hl 1 rfl) ?_
  refine lv_iload hx hb dL_law_1095 (lv_at hl 5 rfl) ?_
  refine lv_iconst (v := 1) hx hb dL_law_1097 (by decide) ?_
  refine lv_iadd hx hb dL_law_1098 ?_
  refine he_top (nI (i + 1)) (nI_add i 1) ?_
  refine he_sld hx hb hX hbl hbA hS (i + 1) rfl (by omega) (by omega) (xs (i + 1)) rfl dL_law_1099 ?_
  refine lv_aload_n hx hb dL_law_1100 rfl (lv_at hl 1 rfl) ?_
  refine lv_iload hx hb dL_law_1101 (lv_at hl 5 rfl) ?_
  refine lv_iconst (v := 2) hx hb dL_law_1103 (by decide) ?_
  refine lv_iadd hx hb dL_law_1104 ?_
  refine he_top (nI (i + 2)) (nI_add i 2) ?_
  refine he_sld hx hb hX hbl hbA hS (i + 2) rfl (by omega) (by omega) (xs (i + 2)) rfl dL_law_1105 ?_
  refine lv_aload_n hx hb dL_law_1106 rfl (lv_at hl 1 rfl) ?_
  refine lv_iload hx hb dL_law_1107 (lv_at hl 5 rfl) ?_
  refine lv_iconst (v := 3) hx hb dL_law_1109 (by decide) ?_
  refine lv_iadd hx hb dL_law_1110 ?_
  refine he_top (nI (i + 3)) (nI_add i 3) ?_
  refine he_sld hx hb hX hbl hbA hS (i + 3) rfl (by omega) (by omega) (xs (i + 3)) rfl dL_law_1111 ?_
  refine he_ci (wc := ([(x0, .inr (9, fx_q_4)), (m0, .inr (10, fm_q_4)), (aL g o0 1 fo_1088)] ++ (Rc_q_4 ++ Rm_q_4))) (wr := []) (va_runV (As := [.int (xs (i + 1)), .int (xs (i + 2)), .int (xs (i + 3))]) (rest := []) ⟨hx, hb, hml, hown, hts⟩ (il_mI (j_earnest l g m0 S t _ (xs (i + 1)) (xs (i + 2)) (xs (i + 3)) hm) hc H.size) (cwV 3 hts gL_law_X11_earnest rfl rfl rfl (by decide +kernel) ⟨Nat.le_of_ble_eq_true rfl, Nat.le_of_ble_eq_true rfl⟩) (he_preV (wc := ([(x0, .inr (9, fx_q_4)), (m0, .inr (10, fm_q_4)), (aL g o0 1 fo_1088)] ++ (Rc_q_4 ++ Rm_q_4))) hK hP hD hS hA hE (List.range (([(x0, .inr (9, fx_q_4)), (m0, .inr (10, fm_q_4)), (aL g o0 1 fo_1088)] ++ (Rc_q_4 ++ Rm_q_4)) : va_W).length) (he_all _) (he_allnd _) 1 rfl rfl) rfl rfl hl.1 rfl (lv_room (Nat.le_of_ble_eq_true rfl)) dL_law_1112 ⟨(by show 1000 + 4 * i + 1 + 0 ≤ 601024; omega), (by show 100000 + 700 * i + 6 + 0 ≤ 7293034; omega)⟩) hP hD hS hA (List.range (([(x0, .inr (9, fx_q_4)), (m0, .inr (10, fm_q_4)), (aL g o0 1 fo_1088)] ++ (Rc_q_4 ++ Rm_q_4)) : va_W).length) [] (he_all _) rfl rfl (fun _ h9 => absurd h9 List.not_mem_nil) (fun r_5 u_6 H locs hu_7 hP hD hS => ?_)
  obtain ⟨t_1112, hI9, ht1112, hm1112⟩ := hu_7
  obtain ⟨fx_q_8, fm_q_8, Rc_q_8, Rm_q_8, rfl, hc, hm⟩ := hI9
  have hP : va_P g.1 vwCl ([(x0, .inr (9, fx_q_8)), (m0, .inr (10, fm_q_8)), (aL g o0 1 fo_1088)] ++ (Rc_q_8 ++ Rm_q_8)) H := hP
  have hD : va_D (lw_A s) ([(x0, .inr (9, fx_q_8)), (m0, .inr (10, fm_q_8)), (aL g o0 1 fo_1088)] ++ (Rc_q_8 ++ Rm_q_8)) := hD
  refine lv_istore (lv' := [(6, .int r_5), (5, .int r_1), (0, .ref b), (1, .ref x0), (2, .ref m0), (3, .ref o0), (4, .int (nI i))]) hx hb dL_law_1115 hl (by decide) rfl (fun ls hl => ?_)
  refine lv_goto (tgt := 1369) hx hb dL_law_1117 (by decide) ?_
  refine W.widen (k := 1000 + 4 * (i + 6)) (n := 100000 + 700 * (i + 6)) (by show 1000 + 4 * i + 1 + 0 ≤ 1000 + 4 * (i + 6); omega) (by show 100000 + 700 * i + 6 + 0 ≤ 100000 + 700 * (i + 6); omega) ?_
  exact kk ((sp_earnest S (xs (i + 1)) (xs (i + 2)) (xs (i + 3))).2.2) t_1112 fo_1088 _ H locs ls ⟨_, _, _, _, rfl, hc, hm⟩ hP hD hS (lv_sub hl [2, 3, 4, 5, 6] rfl)
set_option maxHeartbeats 8000000 in
set_option maxRecDepth 100000 in
theorem lc_stands {p : Program} {e : Env} {s : State} {m : MethodId} {below : List Frame} {meth : Method} {c : Code} {Q : State → Prop} (l : Launch) (hlt : l.stackTraces = false) (g : he_G) {b Ln : Nat} {xs : Nat → Int32} (C0 : lw_C p s m meth c b Ln xs g) (i : Nat) (hi : i + 6 ≤ Ln) (hL : Ln ≤ 3072) (x0 m0 o0 : Nat) (S : AbS) (t : Int32) (fo : Nat → Int64) (W9 : va_W) (hI : IL g x0 m0 o0 S S t fo W9) {H : Heap} {locs : List Loc} {ls : Array Slot} (hP : va_P g.1 vwCl W9 H) (hD : va_D (lw_A s) W9) (hS : va_S (lw_A s) s.heap H locs) (hl : lv_has ls 8 [(0, .ref b), (1, .ref x0), (2, .ref m0), (3, .ref o0), (4, .int (nI i))]) (kk : ∀ (S2 : AbS) (t2 : Int32) (fo2 : Nat → Int64) (W2 : va_W) (H2 : Heap) (locs2 : List Loc) (ls2 : Array Slot), IL g x0 m0 o0 S2 S2 t2 fo2 W2 → va_P g.1 vwCl W2 H2 → va_D (lw_A s) W2 → va_S (lw_A s) s.heap H2 locs2 → lv_has ls2 8 [(0, .ref b), (1, .ref x0), (2, .ref m0), (3, .ref o0), (4, .int (nI i))] → W p l e room_1 s m #[Value.ref b] below meth c H2 locs2 (1000 + 4 * (i + 6)) (100000 + 700 * (i + 6)) Q (F0 m 1369 ls2 [])) : W p l e room_1 s m #[Value.ref b] below meth c H locs (1000 + 4 * i) (100000 + 700 * i) Q (F0 m 1120 ls []) := by
  obtain ⟨hx, hb, hr, hml, hown, hts, hX, hbl, hlk, hK, hE, hA, hbA, hNc⟩ := C0
  obtain ⟨fx, fm, Rc, Rm, rfl, hc, hm⟩ := hI
  refine lv_aload_n hx hb dL_law_1120 rfl (lv_at hl 1 rfl) ?_
  refine lv_aload_n hx hb dL_law_1121 rfl (lv_at hl 0 rfl) ?_
  refine lv_iload hx hb dL_law_1122 (lv_at hl 4 rfl) ?_
  refine lv_iconst (v := 1) hx hb dL_law_1124 (by decide) ?_
  refine lv_iadd hx hb dL_law_1125 ?_
  refine he_top (nI (i + 1)) (nI_add i 1) ?_
  refine he_sld hx hb hX hbl hbA hS (i + 1) rfl (by omega) (by omega) (xs (i + 1)) rfl dL_law_1126 ?_
  refine lv_aload_n hx hb dL_law_1127 rfl (lv_at hl 0 rfl) ?_
  refine lv_iload hx hb dL_law_1128 (lv_at hl 4 rfl) ?_
  refine lv_iconst (v := 2) hx hb dL_law_1130 (by decide) ?_
  refine lv_iadd hx hb dL_law_1131 ?_
  refine he_top (nI (i + 2)) (nI_add i 2) ?_
  refine he_sld hx hb hX hbl hbA hS (i + 2) rfl (by omega) (by omega) (xs (i + 2)) rfl dL_law_1132 ?_
  refine lv_aload_n hx hb dL_law_1133 rfl (lv_at hl 3 rfl) ?_
  refine he_ci (wc := ([(x0, .inr (9, fx)), (m0, .inr (10, fm)), (aL g o0 1 fo)] ++ (Rc ++ Rm))) (wr := []) (vx_runSW (As := [.ref x0, .int (xs (i + 1)), .int (xs (i + 2)), .ref o0]) (rest := []) ⟨hx, hb, hml, hown, hts⟩ (w_stands l hlt g x0 m0 o0 S S t fo _ (xs (i + 1)) (xs (i + 2)) ⟨_, _, _, _, rfl, hc, hm⟩ H.size) (vx_cwSW 4 hts gL_law_L_stands rfl rfl rfl (by decide +kernel) ⟨Nat.le_of_ble_eq_true rfl, Nat.le_of_ble_eq_true rfl⟩) (he_preS (wc := ([(x0, .inr (9, fx)), (m0, .inr (10, fm)), (aL g o0 1 fo)] ++ (Rc ++ Rm))) hK hP hD hS hA hE (List.range (([(x0, .inr (9, fx)), (m0, .inr (10, fm)), (aL g o0 1 fo)] ++ (Rc ++ Rm)) : va_W).length) (he_all _) (he_allnd _)) rfl rfl hl.1 rfl (lv_room (Nat.le_of_ble_eq_true rfl)) dL_law_1134 ⟨(by show 1000 + 4 * i + 1 ≤ 601024; omega), (by show 100000 + 700 * i + 6 ≤ 7293034; omega)⟩) hP hD hS hA (List.range (([(x0, .inr (9, fx)), (m0, .inr (10, fm)), (aL g o0 1 fo)] ++ (Rc ++ Rm)) : va_W).length) [] (he_all _) rfl rfl (fun _ h9 => absurd h9 List.not_mem_nil) (fun r_1 u_2 H locs hu_3 hP hD hS => ?_)
  obtain ⟨fo_1134, hI9, hr1134, ho1134⟩ := hu_3
  obtain ⟨fx_q_4, fm_q_4, Rc_q_4, Rm_q_4, rfl, hc, hm⟩ := hI9
  have hP : va_P g.1 vwCl ([(x0, .inr (9, fx_q_4)), (m0, .inr (10, fm_q_4)), (aL g o0 1 fo_1134)] ++ (Rc_q_4 ++ Rm_q_4)) H := hP
  have hD : va_D (lw_A s) ([(x0, .inr (9, fx_q_4)), (m0, .inr (10, fm_q_4)), (aL g o0 1 fo_1134)] ++ (Rc_q_4 ++ Rm_q_4)) := hD
  refine lv_istore (lv' := [(5, .int r_1), (0, .ref b), (1, .ref x0), (2, .ref m0), (3, .ref o0), (4, .int (nI i))]) hx hb dL_law_1137 hl (by decide) rfl (fun ls hl => ?_)
  refine lv_aload_n hx hb dL_law_1139 rfl (lv_at hl 3 rfl) ?_
  refine lv_aload_n hx hb dL_law_1140 rfl (lv_at hl 1 rfl) ?_
  refine lv_iload hx hb dL_law_1141 (lv_at hl 5 rfl) ?_
  refine lv_iconst (v := 1) hx hb dL_law_1143 (by decide) ?_
  refine lv_iadd hx hb dL_law_1144 ?_
  refine he_top (nI (i + 1)) (nI_add i 1) ?_
  refine he_sld hx hb hX hbl hbA hS (i + 1) rfl (by omega) (by omega) (xs (i + 1)) rfl dL_law_1145 ?_
  refine lv_aload_n hx hb dL_law_1146 rfl (lv_at hl 1 rfl) ?_
  refine lv_iload hx hb dL_law_1147 (lv_at hl 5 rfl) ?_
  refine lv_iconst (v := 2) hx hb dL_law_1149 (by decide) ?_
  refine lv_iadd hx hb dL_law_1150 ?_
  refine he_top (nI (i + 2)) (nI_add i 2) ?_
  refine he_sld hx hb hX hbl hbA hS (i + 2) rfl (by omega) (by omega) (xs (i + 2)) rfl dL_law_1151 ?_
  refine he_ci (wc := ([(x0, .inr (9, fx_q_4)), (m0, .inr (10, fm_q_4)), (aL g o0 1 fo_1134)] ++ (Rc_q_4 ++ Rm_q_4))) (wr := []) (va_runV (As := [.int (xs (i + 1)), .int (xs (i + 2))]) (rest := []) ⟨hx, hb, hml, hown, hts⟩ (il_mI (j_stands l g m0 S t _ (xs (i + 1)) (xs (i + 2)) hm) hc H.size) (cwV 2 hts gL_law_X11_stands rfl rfl rfl (by decide +kernel) ⟨Nat.le_of_ble_eq_true rfl, Nat.le_of_ble_eq_true rfl⟩) (he_preV (wc := ([(x0, .inr (9, fx_q_4)), (m0, .inr (10, fm_q_4)), (aL g o0 1 fo_1134)] ++ (Rc_q_4 ++ Rm_q_4))) hK hP hD hS hA hE (List.range (([(x0, .inr (9, fx_q_4)), (m0, .inr (10, fm_q_4)), (aL g o0 1 fo_1134)] ++ (Rc_q_4 ++ Rm_q_4)) : va_W).length) (he_all _) (he_allnd _) 1 rfl rfl) rfl rfl hl.1 rfl (lv_room (Nat.le_of_ble_eq_true rfl)) dL_law_1152 ⟨(by show 1000 + 4 * i + 1 + 0 ≤ 601024; omega), (by show 100000 + 700 * i + 6 + 0 ≤ 7293034; omega)⟩) hP hD hS hA (List.range (([(x0, .inr (9, fx_q_4)), (m0, .inr (10, fm_q_4)), (aL g o0 1 fo_1134)] ++ (Rc_q_4 ++ Rm_q_4)) : va_W).length) [] (he_all _) rfl rfl (fun _ h9 => absurd h9 List.not_mem_nil) (fun r_5 u_6 H locs hu_7 hP hD hS => ?_)
  obtain ⟨t_1152, hI9, ht1152, hm1152⟩ := hu_7
  obtain ⟨fx_q_8, fm_q_8, Rc_q_8, Rm_q_8, rfl, hc, hm⟩ := hI9
  have hP : va_P g.1 vwCl ([(x0, .inr (9, fx_q_8)), (m0, .inr (10, fm_q_8)), (aL g o0 1 fo_1134)] ++ (Rc_q_8 ++ Rm_q_8)) H := hP
  have hD : va_D (lw_A s) ([(x0, .inr (9, fx_q_8)), (m0, .inr (10, fm_q_8)), (aL g o0 1 fo_1134)] ++ (Rc_q_8 ++ Rm_q_8)) := hD
  refine lv_istore (lv' := [(6, .int r_5), (5, .int r_1), (0, .ref b), (1, .ref x0), (2, .ref m0), (3, .ref o0), (4, .int (nI i))]) hx hb dL_law_1155 hl (by decide) rfl (fun ls hl => ?_)
  refine lv_goto (tgt := 1369) hx hb dL_law_1157 (by decide) ?_
  refine W.widen (k := 1000 + 4 * (i + 6)) (n := 100000 + 700 * (i + 6)) (by show 1000 + 4 * i + 1 + 0 ≤ 1000 + 4 * (i + 6); omega) (by show 100000 + 700 * i + 6 + 0 ≤ 100000 + 700 * (i + 6); omega) ?_
  exact kk ((sp_stands S (xs (i + 1)) (xs (i + 2))).2.2) t_1152 fo_1134 _ H locs ls ⟨_, _, _, _, rfl, hc, hm⟩ hP hD hS (lv_sub hl [2, 3, 4, 5, 6] rfl)
set_option maxHeartbeats 8000000 in
set_option maxRecDepth 100000 in
theorem lc_show {p : Program} {e : Env} {s : State} {m : MethodId} {below : List Frame} {meth : Method} {c : Code} {Q : State → Prop} (l : Launch) (hlt : l.stackTraces = false) (g : he_G) {b Ln : Nat} {xs : Nat → Int32} (C0 : lw_C p s m meth c b Ln xs g) (i : Nat) (hi : i + 6 ≤ Ln) (hL : Ln ≤ 3072) (x0 m0 o0 : Nat) (S : AbS) (t : Int32) (fo : Nat → Int64) (W9 : va_W) (hI : IL g x0 m0 o0 S S t fo W9) {H : Heap} {locs : List Loc} {ls : Array Slot} (hP : va_P g.1 vwCl W9 H) (hD : va_D (lw_A s) W9) (hS : va_S (lw_A s) s.heap H locs) (hl : lv_has ls 8 [(0, .ref b), (1, .ref x0), (2, .ref m0), (3, .ref o0), (4, .int (nI i))]) (kk : ∀ (S2 : AbS) (t2 : Int32) (fo2 : Nat → Int64) (W2 : va_W) (H2 : Heap) (locs2 : List Loc) (ls2 : Array Slot), IL g x0 m0 o0 S2 S2 t2 fo2 W2 → va_P g.1 vwCl W2 H2 → va_D (lw_A s) W2 → va_S (lw_A s) s.heap H2 locs2 → lv_has ls2 8 [(0, .ref b), (1, .ref x0), (2, .ref m0), (3, .ref o0), (4, .int (nI i))] → W p l e room_1 s m #[Value.ref b] below meth c H2 locs2 (1000 + 4 * (i + 6)) (100000 + 700 * (i + 6)) Q (F0 m 1369 ls2 [])) : W p l e room_1 s m #[Value.ref b] below meth c H locs (1000 + 4 * i) (100000 + 700 * i) Q (F0 m 1160 ls []) := by
  obtain ⟨hx, hb, hr, hml, hown, hts, hX, hbl, hlk, hK, hE, hA, hbA, hNc⟩ := C0
  obtain ⟨fx, fm, Rc, Rm, rfl, hc, hm⟩ := hI
  refine lv_aload_n hx hb dL_law_1160 rfl (lv_at hl 1 rfl) ?_
  refine lv_aload_n hx hb dL_law_1161 rfl (lv_at hl 0 rfl) ?_
  refine lv_iload hx hb dL_law_1162 (lv_at hl 4 rfl) ?_
  refine lv_iconst (v := 1) hx hb dL_law_1164 (by decide) ?_
  refine lv_iadd hx hb dL_law_1165 ?_
  refine he_top (nI (i + 1)) (nI_add i 1) ?_
  refine he_sld hx hb hX hbl hbA hS (i + 1) rfl (by omega) (by omega) (xs (i + 1)) rfl dL_law_1166 ?_
  refine lv_aload_n hx hb dL_law_1167 rfl (lv_at hl 0 rfl) ?_
  refine lv_iload hx hb dL_law_1168 (lv_at hl 4 rfl) ?_
  refine lv_iconst (v := 2) hx hb dL_law_1170 (by decide) ?_
  refine lv_iadd hx hb dL_law_1171 ?_
  refine he_top (nI (i + 2)) (nI_add i 2) ?_
  refine he_sld hx hb hX hbl hbA hS (i + 2) rfl (by omega) (by omega) (xs (i + 2)) rfl dL_law_1172 ?_
  refine lv_aload_n hx hb dL_law_1173 rfl (lv_at hl 3 rfl) ?_
  refine he_ci (wc := ([(x0, .inr (9, fx)), (m0, .inr (10, fm)), (aL g o0 1 fo)] ++ (Rc ++ Rm))) (wr := []) (vx_runSW (As := [.ref x0, .int (xs (i + 1)), .int (xs (i + 2)), .ref o0]) (rest := []) ⟨hx, hb, hml, hown, hts⟩ (w_show l hlt g x0 m0 o0 S S t fo _ (xs (i + 1)) (xs (i + 2)) ⟨_, _, _, _, rfl, hc, hm⟩ H.size) (vx_cwSW 4 hts gL_law_L_show rfl rfl rfl (by decide +kernel) ⟨Nat.le_of_ble_eq_true rfl, Nat.le_of_ble_eq_true rfl⟩) (he_preS (wc := ([(x0, .inr (9, fx)), (m0, .inr (10, fm)), (aL g o0 1 fo)] ++ (Rc ++ Rm))) hK hP hD hS hA hE (List.range (([(x0, .inr (9, fx)), (m0, .inr (10, fm)), (aL g o0 1 fo)] ++ (Rc ++ Rm)) : va_W).length) (he_all _) (he_allnd _)) rfl rfl hl.1 rfl (lv_room (Nat.le_of_ble_eq_true rfl)) dL_law_1174 ⟨(by show 1000 + 4 * i + 1 ≤ 601024; omega), (by show 100000 + 700 * i + 6 ≤ 7293034; omega)⟩) hP hD hS hA (List.range (([(x0, .inr (9, fx)), (m0, .inr (10, fm)), (aL g o0 1 fo)] ++ (Rc ++ Rm)) : va_W).length) [] (he_all _) rfl rfl (fun _ h9 => absurd h9 List.not_mem_nil) (fun r_1 u_2 H locs hu_3 hP hD hS => ?_)
  obtain ⟨fo_1174, hI9, hr1174, ho1174⟩ := hu_3
  obtain ⟨fx_q_4, fm_q_4, Rc_q_4, Rm_q_4, rfl, hc, hm⟩ := hI9
  have hP : va_P g.1 vwCl ([(x0, .inr (9, fx_q_4)), (m0, .inr (10, fm_q_4)), (aL g o0 1 fo_1174)] ++ (Rc_q_4 ++ Rm_q_4)) H := hP
  have hD : va_D (lw_A s) ([(x0, .inr (9, fx_q_4)), (m0, .inr (10, fm_q_4)), (aL g o0 1 fo_1174)] ++ (Rc_q_4 ++ Rm_q_4)) := hD
  refine lv_istore (lv' := [(5, .int r_1), (0, .ref b), (1, .ref x0), (2, .ref m0), (3, .ref o0), (4, .int (nI i))]) hx hb dL_law_1177 hl (by decide) rfl (fun ls hl => ?_)
  refine lv_aload_n hx hb dL_law_1179 rfl (lv_at hl 3 rfl) ?_
  refine lv_aload_n hx hb dL_law_1180 rfl (lv_at hl 1 rfl) ?_
  refine lv_iload hx hb dL_law_1181 (lv_at hl 5 rfl) ?_
  refine lv_iconst (v := 1) hx hb dL_law_1183 (by decide) ?_
  refine lv_iadd hx hb dL_law_1184 ?_
  refine he_top (nI (i + 1)) (nI_add i 1) ?_
  refine he_sld hx hb hX hbl hbA hS (i + 1) rfl (by omega) (by omega) (xs (i + 1)) rfl dL_law_1185 ?_
  refine lv_aload_n hx hb dL_law_1186 rfl (lv_at hl 1 rfl) ?_
  refine lv_iload hx hb dL_law_1187 (lv_at hl 5 rfl) ?_
  refine lv_iconst (v := 2) hx hb dL_law_1189 (by decide) ?_
  refine lv_iadd hx hb dL_law_1190 ?_
  refine he_top (nI (i + 2)) (nI_add i 2) ?_
  refine he_sld hx hb hX hbl hbA hS (i + 2) rfl (by omega) (by omega) (xs (i + 2)) rfl dL_law_1191 ?_
  refine he_ci (wc := ([(x0, .inr (9, fx_q_4)), (m0, .inr (10, fm_q_4)), (aL g o0 1 fo_1174)] ++ (Rc_q_4 ++ Rm_q_4))) (wr := []) (va_runV (As := [.int (xs (i + 1)), .int (xs (i + 2))]) (rest := []) ⟨hx, hb, hml, hown, hts⟩ (il_mI (j_show l g m0 S t _ (xs (i + 1)) (xs (i + 2)) hm) hc H.size) (cwV 2 hts gL_law_X11_show rfl rfl rfl (by decide +kernel) ⟨Nat.le_of_ble_eq_true rfl, Nat.le_of_ble_eq_true rfl⟩) (he_preV (wc := ([(x0, .inr (9, fx_q_4)), (m0, .inr (10, fm_q_4)), (aL g o0 1 fo_1174)] ++ (Rc_q_4 ++ Rm_q_4))) hK hP hD hS hA hE (List.range (([(x0, .inr (9, fx_q_4)), (m0, .inr (10, fm_q_4)), (aL g o0 1 fo_1174)] ++ (Rc_q_4 ++ Rm_q_4)) : va_W).length) (he_all _) (he_allnd _) 1 rfl rfl) rfl rfl hl.1 rfl (lv_room (Nat.le_of_ble_eq_true rfl)) dL_law_1192 ⟨(by show 1000 + 4 * i + 1 + 0 ≤ 601024; omega), (by show 100000 + 700 * i + 6 + 0 ≤ 7293034; omega)⟩) hP hD hS hA (List.range (([(x0, .inr (9, fx_q_4)), (m0, .inr (10, fm_q_4)), (aL g o0 1 fo_1174)] ++ (Rc_q_4 ++ Rm_q_4)) : va_W).length) [] (he_all _) rfl rfl (fun _ h9 => absurd h9 List.not_mem_nil) (fun r_5 u_6 H locs hu_7 hP hD hS => ?_)
  obtain ⟨t_1192, hI9, ht1192, hm1192⟩ := hu_7
  obtain ⟨fx_q_8, fm_q_8, Rc_q_8, Rm_q_8, rfl, hc, hm⟩ := hI9
  have hP : va_P g.1 vwCl ([(x0, .inr (9, fx_q_8)), (m0, .inr (10, fm_q_8)), (aL g o0 1 fo_1174)] ++ (Rc_q_8 ++ Rm_q_8)) H := hP
  have hD : va_D (lw_A s) ([(x0, .inr (9, fx_q_8)), (m0, .inr (10, fm_q_8)), (aL g o0 1 fo_1174)] ++ (Rc_q_8 ++ Rm_q_8)) := hD
  refine lv_istore (lv' := [(6, .int r_5), (5, .int r_1), (0, .ref b), (1, .ref x0), (2, .ref m0), (3, .ref o0), (4, .int (nI i))]) hx hb dL_law_1195 hl (by decide) rfl (fun ls hl => ?_)
  refine lv_goto (tgt := 1369) hx hb dL_law_1197 (by decide) ?_
  refine W.widen (k := 1000 + 4 * (i + 6)) (n := 100000 + 700 * (i + 6)) (by show 1000 + 4 * i + 1 + 0 ≤ 1000 + 4 * (i + 6); omega) (by show 100000 + 700 * i + 6 + 0 ≤ 100000 + 700 * (i + 6); omega) ?_
  exact kk ((sp_show S (xs (i + 1)) (xs (i + 2))).2.2) t_1192 fo_1174 _ H locs ls ⟨_, _, _, _, rfl, hc, hm⟩ hP hD hS (lv_sub hl [2, 3, 4, 5, 6] rfl)
set_option maxHeartbeats 8000000 in
set_option maxRecDepth 100000 in
theorem lc_offers {p : Program} {e : Env} {s : State} {m : MethodId} {below : List Frame} {meth : Method} {c : Code} {Q : State → Prop} (l : Launch) (hlt : l.stackTraces = false) (g : he_G) {b Ln : Nat} {xs : Nat → Int32} (C0 : lw_C p s m meth c b Ln xs g) (i : Nat) (hi : i + 6 ≤ Ln) (hL : Ln ≤ 3072) (x0 m0 o0 : Nat) (S : AbS) (t : Int32) (fo : Nat → Int64) (W9 : va_W) (hI : IL g x0 m0 o0 S S t fo W9) {H : Heap} {locs : List Loc} {ls : Array Slot} (hP : va_P g.1 vwCl W9 H) (hD : va_D (lw_A s) W9) (hS : va_S (lw_A s) s.heap H locs) (hl : lv_has ls 8 [(0, .ref b), (1, .ref x0), (2, .ref m0), (3, .ref o0), (4, .int (nI i))]) (kk : ∀ (S2 : AbS) (t2 : Int32) (fo2 : Nat → Int64) (W2 : va_W) (H2 : Heap) (locs2 : List Loc) (ls2 : Array Slot), IL g x0 m0 o0 S2 S2 t2 fo2 W2 → va_P g.1 vwCl W2 H2 → va_D (lw_A s) W2 → va_S (lw_A s) s.heap H2 locs2 → lv_has ls2 8 [(0, .ref b), (1, .ref x0), (2, .ref m0), (3, .ref o0), (4, .int (nI i))] → W p l e room_1 s m #[Value.ref b] below meth c H2 locs2 (1000 + 4 * (i + 6)) (100000 + 700 * (i + 6)) Q (F0 m 1369 ls2 [])) : W p l e room_1 s m #[Value.ref b] below meth c H locs (1000 + 4 * i) (100000 + 700 * i) Q (F0 m 1200 ls []) := by
  obtain ⟨hx, hb, hr, hml, hown, hts, hX, hbl, hlk, hK, hE, hA, hbA, hNc⟩ := C0
  obtain ⟨fx, fm, Rc, Rm, rfl, hc, hm⟩ := hI
  refine lv_aload_n hx hb dL_law_1200 rfl (lv_at hl 1 rfl) ?_
  refine lv_aload_n hx hb dL_law_1201 rfl (lv_at hl 0 rfl) ?_
  refine lv_iload hx hb dL_law_1202 (lv_at hl 4 rfl) ?_
  refine lv_iconst (v := 1) hx hb dL_law_1204 (by decide) ?_
  refine lv_iadd hx hb dL_law_1205 ?_
  refine he_top (nI (i + 1)) (nI_add i 1) ?_
  refine he_sld hx hb hX hbl hbA hS (i + 1) rfl (by omega) (by omega) (xs (i + 1)) rfl dL_law_1206 ?_
  refine lv_aload_n hx hb dL_law_1207 rfl (lv_at hl 0 rfl) ?_
  refine lv_iload hx hb dL_law_1208 (lv_at hl 4 rfl) ?_
  refine lv_iconst (v := 2) hx hb dL_law_1210 (by decide) ?_
  refine lv_iadd hx hb dL_law_1211 ?_
  refine he_top (nI (i + 2)) (nI_add i 2) ?_
  refine he_sld hx hb hX hbl hbA hS (i + 2) rfl (by omega) (by omega) (xs (i + 2)) rfl dL_law_1212 ?_
  refine lv_aload_n hx hb dL_law_1213 rfl (lv_at hl 0 rfl) ?_
  refine lv_iload hx hb dL_law_1214 (lv_at hl 4 rfl) ?_
  refine lv_iconst (v := 3) hx hb dL_law_1216 (by decide) ?_
  refine lv_iadd hx hb dL_law_1217 ?_
  refine he_top (nI (i + 3)) (nI_add i 3) ?_
  refine he_sld hx hb hX hbl hbA hS (i + 3) rfl (by omega) (by omega) (xs (i + 3)) rfl dL_law_1218 ?_
  refine lv_aload_n hx hb dL_law_1219 rfl (lv_at hl 3 rfl) ?_
  refine he_ci (wc := ([(x0, .inr (9, fx)), (m0, .inr (10, fm)), (aL g o0 1 fo)] ++ (Rc ++ Rm))) (wr := []) (vx_runSW (As := [.ref x0, .int (xs (i + 1)), .int (xs (i + 2)), .int (xs (i + 3)), .ref o0]) (rest := []) ⟨hx, hb, hml, hown, hts⟩ (w_offers l hlt g x0 m0 o0 S S t fo _ (xs (i + 1)) (xs (i + 2)) (xs (i + 3)) ⟨_, _, _, _, rfl, hc, hm⟩ H.size) (vx_cwSW 5 hts gL_law_L_offers rfl rfl rfl (by decide +kernel) ⟨Nat.le_of_ble_eq_true rfl, Nat.le_of_ble_eq_true rfl⟩) (he_preS (wc := ([(x0, .inr (9, fx)), (m0, .inr (10, fm)), (aL g o0 1 fo)] ++ (Rc ++ Rm))) hK hP hD hS hA hE (List.range (([(x0, .inr (9, fx)), (m0, .inr (10, fm)), (aL g o0 1 fo)] ++ (Rc ++ Rm)) : va_W).length) (he_all _) (he_allnd _)) rfl rfl hl.1 rfl (lv_room (Nat.le_of_ble_eq_true rfl)) dL_law_1220 ⟨(by show 1000 + 4 * i + 1 ≤ 601024; omega), (by show 100000 + 700 * i + 6 ≤ 7293034; omega)⟩) hP hD hS hA (List.range (([(x0, .inr (9, fx)), (m0, .inr (10, fm)), (aL g o0 1 fo)] ++ (Rc ++ Rm)) : va_W).length) [] (he_all _) rfl rfl (fun _ h9 => absurd h9 List.not_mem_nil) (fun r_1 u_2 H locs hu_3 hP hD hS => ?_)
  obtain ⟨fo_1220, hI9, hr1220, ho1220⟩ := hu_3
  obtain ⟨fx_q_4, fm_q_4, Rc_q_4, Rm_q_4, rfl, hc, hm⟩ := hI9
  have hP : va_P g.1 vwCl ([(x0, .inr (9, fx_q_4)), (m0, .inr (10, fm_q_4)), (aL g o0 1 fo_1220)] ++ (Rc_q_4 ++ Rm_q_4)) H := hP
  have hD : va_D (lw_A s) ([(x0, .inr (9, fx_q_4)), (m0, .inr (10, fm_q_4)), (aL g o0 1 fo_1220)] ++ (Rc_q_4 ++ Rm_q_4)) := hD
  refine lv_istore (lv' := [(5, .int r_1), (0, .ref b), (1, .ref x0), (2, .ref m0), (3, .ref o0), (4, .int (nI i))]) hx hb dL_law_1223 hl (by decide) rfl (fun ls hl => ?_)
  refine lv_aload_n hx hb dL_law_1225 rfl (lv_at hl 3 rfl) ?_
  refine lv_aload_n hx hb dL_law_1226 rfl (lv_at hl 1 rfl) ?_
  refine lv_iload hx hb dL_law_1227 (lv_at hl 5 rfl) ?_
  refine lv_iconst (v := 1) hx hb dL_law_1229 (by decide) ?_
  refine lv_iadd hx hb dL_law_1230 ?_
  refine he_top (nI (i + 1)) (nI_add i 1) ?_
  refine he_sld hx hb hX hbl hbA hS (i + 1) rfl (by omega) (by omega) (xs (i + 1)) rfl dL_law_1231 ?_
  refine lv_aload_n hx hb dL_law_1232 rfl (lv_at hl 1 rfl) ?_
  refine lv_iload hx hb dL_law_1233 (lv_at hl 5 rfl) ?_
  refine lv_iconst (v := 2) hx hb dL_law_1235 (by decide) ?_
  refine lv_iadd hx hb dL_law_1236 ?_
  refine he_top (nI (i + 2)) (nI_add i 2) ?_
  refine he_sld hx hb hX hbl hbA hS (i + 2) rfl (by omega) (by omega) (xs (i + 2)) rfl dL_law_1237 ?_
  refine lv_aload_n hx hb dL_law_1238 rfl (lv_at hl 1 rfl) ?_
  refine lv_iload hx hb dL_law_1239 (lv_at hl 5 rfl) ?_
  refine lv_iconst (v := 3) hx hb dL_law_1241 (by decide) ?_
  refine lv_iadd hx hb dL_law_1242 ?_
  refine he_top (nI (i + 3)) (nI_add i 3) ?_
  refine he_sld hx hb hX hbl hbA hS (i + 3) rfl (by omega) (by omega) (xs (i + 3)) rfl dL_law_1243 ?_
  refine he_ci (wc := ([(x0, .inr (9, fx_q_4)), (m0, .inr (10, fm_q_4)), (aL g o0 1 fo_1220)] ++ (Rc_q_4 ++ Rm_q_4))) (wr := []) (va_runV (As := [.int (xs (i + 1)), .int (xs (i + 2)), .int (xs (i + 3))]) (rest := []) ⟨hx, hb, hml, hown, hts⟩ (il_mI (j_offers l g m0 S t _ (xs (i + 1)) (xs (i + 2)) (xs (i + 3)) hm) hc H.size) (cwV 3 hts gL_law_X11_offers rfl rfl rfl (by decide +kernel) ⟨Nat.le_of_ble_eq_true rfl, Nat.le_of_ble_eq_true rfl⟩) (he_preV (wc := ([(x0, .inr (9, fx_q_4)), (m0, .inr (10, fm_q_4)), (aL g o0 1 fo_1220)] ++ (Rc_q_4 ++ Rm_q_4))) hK hP hD hS hA hE (List.range (([(x0, .inr (9, fx_q_4)), (m0, .inr (10, fm_q_4)), (aL g o0 1 fo_1220)] ++ (Rc_q_4 ++ Rm_q_4)) : va_W).length) (he_all _) (he_allnd _) 1 rfl rfl) rfl rfl hl.1 rfl (lv_room (Nat.le_of_ble_eq_true rfl)) dL_law_1244 ⟨(by show 1000 + 4 * i + 1 + 0 ≤ 601024; omega), (by show 100000 + 700 * i + 6 + 0 ≤ 7293034; omega)⟩) hP hD hS hA (List.range (([(x0, .inr (9, fx_q_4)), (m0, .inr (10, fm_q_4)), (aL g o0 1 fo_1220)] ++ (Rc_q_4 ++ Rm_q_4)) : va_W).length) [] (he_all _) rfl rfl (fun _ h9 => absurd h9 List.not_mem_nil) (fun r_5 u_6 H locs hu_7 hP hD hS => ?_)
  obtain ⟨t_1244, hI9, ht1244, hm1244⟩ := hu_7
  obtain ⟨fx_q_8, fm_q_8, Rc_q_8, Rm_q_8, rfl, hc, hm⟩ := hI9
  have hP : va_P g.1 vwCl ([(x0, .inr (9, fx_q_8)), (m0, .inr (10, fm_q_8)), (aL g o0 1 fo_1220)] ++ (Rc_q_8 ++ Rm_q_8)) H := hP
  have hD : va_D (lw_A s) ([(x0, .inr (9, fx_q_8)), (m0, .inr (10, fm_q_8)), (aL g o0 1 fo_1220)] ++ (Rc_q_8 ++ Rm_q_8)) := hD
  refine lv_istore (lv' := [(6, .int r_5), (5, .int r_1), (0, .ref b), (1, .ref x0), (2, .ref m0), (3, .ref o0), (4, .int (nI i))]) hx hb dL_law_1247 hl (by decide) rfl (fun ls hl => ?_)
  refine lv_goto (tgt := 1369) hx hb dL_law_1249 (by decide) ?_
  refine W.widen (k := 1000 + 4 * (i + 6)) (n := 100000 + 700 * (i + 6)) (by show 1000 + 4 * i + 1 + 0 ≤ 1000 + 4 * (i + 6); omega) (by show 100000 + 700 * i + 6 + 0 ≤ 100000 + 700 * (i + 6); omega) ?_
  exact kk ((sp_offers S (xs (i + 1)) (xs (i + 2)) (xs (i + 3))).2.2) t_1244 fo_1220 _ H locs ls ⟨_, _, _, _, rfl, hc, hm⟩ hP hD hS (lv_sub hl [2, 3, 4, 5, 6] rfl)
set_option maxHeartbeats 8000000 in
set_option maxRecDepth 100000 in
theorem lc_most {p : Program} {e : Env} {s : State} {m : MethodId} {below : List Frame} {meth : Method} {c : Code} {Q : State → Prop} (l : Launch) (hlt : l.stackTraces = false) (g : he_G) {b Ln : Nat} {xs : Nat → Int32} (C0 : lw_C p s m meth c b Ln xs g) (i : Nat) (hi : i + 6 ≤ Ln) (hL : Ln ≤ 3072) (x0 m0 o0 : Nat) (S : AbS) (t : Int32) (fo : Nat → Int64) (W9 : va_W) (hI : IL g x0 m0 o0 S S t fo W9) {H : Heap} {locs : List Loc} {ls : Array Slot} (hP : va_P g.1 vwCl W9 H) (hD : va_D (lw_A s) W9) (hS : va_S (lw_A s) s.heap H locs) (hl : lv_has ls 8 [(0, .ref b), (1, .ref x0), (2, .ref m0), (3, .ref o0), (4, .int (nI i))]) (kk : ∀ (S2 : AbS) (t2 : Int32) (fo2 : Nat → Int64) (W2 : va_W) (H2 : Heap) (locs2 : List Loc) (ls2 : Array Slot), IL g x0 m0 o0 S2 S2 t2 fo2 W2 → va_P g.1 vwCl W2 H2 → va_D (lw_A s) W2 → va_S (lw_A s) s.heap H2 locs2 → lv_has ls2 8 [(0, .ref b), (1, .ref x0), (2, .ref m0), (3, .ref o0), (4, .int (nI i))] → W p l e room_1 s m #[Value.ref b] below meth c H2 locs2 (1000 + 4 * (i + 6)) (100000 + 700 * (i + 6)) Q (F0 m 1369 ls2 [])) : W p l e room_1 s m #[Value.ref b] below meth c H locs (1000 + 4 * i) (100000 + 700 * i) Q (F0 m 1252 ls []) := by
  obtain ⟨hx, hb, hr, hml, hown, hts, hX, hbl, hlk, hK, hE, hA, hbA, hNc⟩ := C0
  obtain ⟨fx, fm, Rc, Rm, rfl, hc, hm⟩ := hI
  refine lv_aload_n hx hb dL_law_1252 rfl (lv_at hl 1 rfl) ?_
  refine he_ci (wc := ([(x0, .inr (9, fx)), (m0, .inr (10, fm)), (aL g o0 1 fo)] ++ (Rc ++ Rm))) (wr := []) (va_runV (As := []) (rest := []) ⟨hx, hb, hml, hown, hts⟩ (il_cI (k_most l hlt g x0 S _  hc) hm H.size) (cwV 0 hts gL_law_X10_most rfl rfl rfl (by decide +kernel) ⟨Nat.le_of_ble_eq_true rfl, Nat.le_of_ble_eq_true rfl⟩) (he_preV (wc := ([(x0, .inr (9, fx)), (m0, .inr (10, fm)), (aL g o0 1 fo)] ++ (Rc ++ Rm))) hK hP hD hS hA hE (List.range (([(x0, .inr (9, fx)), (m0, .inr (10, fm)), (aL g o0 1 fo)] ++ (Rc ++ Rm)) : va_W).length) (he_all _) (he_allnd _) 0 rfl rfl) rfl rfl hl.1 rfl (lv_room (Nat.le_of_ble_eq_true rfl)) dL_law_1253 ⟨(by show 1000 + 4 * i + 0 ≤ 601024; omega), (by show 100000 + 700 * i + 0 ≤ 7293034; omega)⟩) hP hD hS hA (List.range (([(x0, .inr (9, fx)), (m0, .inr (10, fm)), (aL g o0 1 fo)] ++ (Rc ++ Rm)) : va_W).length) [] (he_all _) rfl rfl (fun _ h9 => absurd h9 List.not_mem_nil) (fun r_1 u_2 H locs hu_3 hP hD hS => ?_)
  obtain ⟨hI9, hp1253⟩ := hu_3
  obtain ⟨fx_q_4, fm_q_4, Rc_q_4, Rm_q_4, rfl, hc, hm⟩ := hI9
  have hP : va_P g.1 vwCl ([(x0, .inr (9, fx_q_4)), (m0, .inr (10, fm_q_4)), (aL g o0 1 fo)] ++ (Rc_q_4 ++ Rm_q_4)) H := hP
  have hD : va_D (lw_A s) ([(x0, .inr (9, fx_q_4)), (m0, .inr (10, fm_q_4)), (aL g o0 1 fo)] ++ (Rc_q_4 ++ Rm_q_4)) := hD
  refine lv_pop hx hb dL_law_1256 rfl ?_
  refine lv_aload_n hx hb dL_law_1257 rfl (lv_at hl 2 rfl) ?_
  refine he_ci (wc := ([(x0, .inr (9, fx_q_4)), (m0, .inr (10, fm_q_4)), (aL g o0 1 fo)] ++ (Rc_q_4 ++ Rm_q_4))) (wr := []) (va_runV (As := []) (rest := []) ⟨hx, hb, hml, hown, hts⟩ (il_mI (j_most l g m0 S t _  hm) hc H.size) (cwV 0 hts gL_law_X11_most rfl rfl rfl (by decide +kernel) ⟨Nat.le_of_ble_eq_true rfl, Nat.le_of_ble_eq_true rfl⟩) (he_preV (wc := ([(x0, .inr (9, fx_q_4)), (m0, .inr (10, fm_q_4)), (aL g o0 1 fo)] ++ (Rc_q_4 ++ Rm_q_4))) hK hP hD hS hA hE (List.range (([(x0, .inr (9, fx_q_4)), (m0, .inr (10, fm_q_4)), (aL g o0 1 fo)] ++ (Rc_q_4 ++ Rm_q_4)) : va_W).length) (he_all _) (he_allnd _) 1 rfl rfl) rfl rfl hl.1 rfl (lv_room (Nat.le_of_ble_eq_true rfl)) dL_law_1258 ⟨(by show 1000 + 4 * i + 0 + 0 ≤ 601024; omega), (by show 100000 + 700 * i + 0 + 0 ≤ 7293034; omega)⟩) hP hD hS hA (List.range (([(x0, .inr (9, fx_q_4)), (m0, .inr (10, fm_q_4)), (aL g o0 1 fo)] ++ (Rc_q_4 ++ Rm_q_4)) : va_W).length) [] (he_all _) rfl rfl (fun _ h9 => absurd h9 List.not_mem_nil) (fun r_5 u_6 H locs hu_7 hP hD hS => ?_)
  obtain ⟨t_1258, hI9, ht1258, hm1258⟩ := hu_7
  obtain ⟨fx_q_8, fm_q_8, Rc_q_8, Rm_q_8, rfl, hc, hm⟩ := hI9
  have hP : va_P g.1 vwCl ([(x0, .inr (9, fx_q_8)), (m0, .inr (10, fm_q_8)), (aL g o0 1 fo)] ++ (Rc_q_8 ++ Rm_q_8)) H := hP
  have hD : va_D (lw_A s) ([(x0, .inr (9, fx_q_8)), (m0, .inr (10, fm_q_8)), (aL g o0 1 fo)] ++ (Rc_q_8 ++ Rm_q_8)) := hD
  refine lv_pop hx hb dL_law_1261 rfl ?_
  refine lv_goto (tgt := 1369) hx hb dL_law_1262 (by decide) ?_
  refine W.widen (k := 1000 + 4 * (i + 6)) (n := 100000 + 700 * (i + 6)) (by show 1000 + 4 * i + 0 + 0 ≤ 1000 + 4 * (i + 6); omega) (by show 100000 + 700 * i + 0 + 0 ≤ 100000 + 700 * (i + 6); omega) ?_
  exact kk ((sp_most S).2.2) t_1258 fo _ H locs ls ⟨_, _, _, _, rfl, hc, hm⟩ hP hD hS (lv_sub hl [0, 1, 2, 3, 4] rfl)
set_option maxHeartbeats 8000000 in
set_option maxRecDepth 100000 in
theorem lc_serves {p : Program} {e : Env} {s : State} {m : MethodId} {below : List Frame} {meth : Method} {c : Code} {Q : State → Prop} (l : Launch) (hlt : l.stackTraces = false) (g : he_G) {b Ln : Nat} {xs : Nat → Int32} (C0 : lw_C p s m meth c b Ln xs g) (i : Nat) (hi : i + 6 ≤ Ln) (hL : Ln ≤ 3072) (x0 m0 o0 : Nat) (S : AbS) (t : Int32) (fo : Nat → Int64) (W9 : va_W) (hI : IL g x0 m0 o0 S S t fo W9) {H : Heap} {locs : List Loc} {ls : Array Slot} (hP : va_P g.1 vwCl W9 H) (hD : va_D (lw_A s) W9) (hS : va_S (lw_A s) s.heap H locs) (hl : lv_has ls 8 [(0, .ref b), (1, .ref x0), (2, .ref m0), (3, .ref o0), (4, .int (nI i))]) (kk : ∀ (S2 : AbS) (t2 : Int32) (fo2 : Nat → Int64) (W2 : va_W) (H2 : Heap) (locs2 : List Loc) (ls2 : Array Slot), IL g x0 m0 o0 S2 S2 t2 fo2 W2 → va_P g.1 vwCl W2 H2 → va_D (lw_A s) W2 → va_S (lw_A s) s.heap H2 locs2 → lv_has ls2 8 [(0, .ref b), (1, .ref x0), (2, .ref m0), (3, .ref o0), (4, .int (nI i))] → W p l e room_1 s m #[Value.ref b] below meth c H2 locs2 (1000 + 4 * (i + 6)) (100000 + 700 * (i + 6)) Q (F0 m 1369 ls2 [])) : W p l e room_1 s m #[Value.ref b] below meth c H locs (1000 + 4 * i) (100000 + 700 * i) Q (F0 m 1265 ls []) := by
  obtain ⟨hx, hb, hr, hml, hown, hts, hX, hbl, hlk, hK, hE, hA, hbA, hNc⟩ := C0
  obtain ⟨fx, fm, Rc, Rm, rfl, hc, hm⟩ := hI
  refine lv_aload_n hx hb dL_law_1265 rfl (lv_at hl 1 rfl) ?_
  refine lv_aload_n hx hb dL_law_1266 rfl (lv_at hl 0 rfl) ?_
  refine lv_iload hx hb dL_law_1267 (lv_at hl 4 rfl) ?_
  refine lv_iconst (v := 1) hx hb dL_law_1269 (by decide) ?_
  refine lv_iadd hx hb dL_law_1270 ?_
  refine he_top (nI (i + 1)) (nI_add i 1) ?_
  refine he_sld hx hb hX hbl hbA hS (i + 1) rfl (by omega) (by omega) (xs (i + 1)) rfl dL_law_1271 ?_
  refine lv_aload_n hx hb dL_law_1272 rfl (lv_at hl 3 rfl) ?_
  refine he_ci (wc := ([(x0, .inr (9, fx)), (m0, .inr (10, fm)), (aL g o0 1 fo)] ++ (Rc ++ Rm))) (wr := []) (vx_runSW (As := [.ref x0, .int (xs (i + 1)), .ref o0]) (rest := []) ⟨hx, hb, hml, hown, hts⟩ (w_serves l hlt g x0 m0 o0 S S t fo _ (xs (i + 1)) ⟨_, _, _, _, rfl, hc, hm⟩ H.size) (vx_cwSW 3 hts gL_law_L_serves rfl rfl rfl (by decide +kernel) ⟨Nat.le_of_ble_eq_true rfl, Nat.le_of_ble_eq_true rfl⟩) (he_preS (wc := ([(x0, .inr (9, fx)), (m0, .inr (10, fm)), (aL g o0 1 fo)] ++ (Rc ++ Rm))) hK hP hD hS hA hE (List.range (([(x0, .inr (9, fx)), (m0, .inr (10, fm)), (aL g o0 1 fo)] ++ (Rc ++ Rm)) : va_W).length) (he_all _) (he_allnd _)) rfl rfl hl.1 rfl (lv_room (Nat.le_of_ble_eq_true rfl)) dL_law_1273 ⟨(by show 1000 + 4 * i + 1 ≤ 601024; omega), (by show 100000 + 700 * i + 6 ≤ 7293034; omega)⟩) hP hD hS hA (List.range (([(x0, .inr (9, fx)), (m0, .inr (10, fm)), (aL g o0 1 fo)] ++ (Rc ++ Rm)) : va_W).length) [] (he_all _) rfl rfl (fun _ h9 => absurd h9 List.not_mem_nil) (fun r_1 u_2 H locs hu_3 hP hD hS => ?_)
  obtain ⟨fo_1273, hI9, hr1273, ho1273⟩ := hu_3
  obtain ⟨fx_q_4, fm_q_4, Rc_q_4, Rm_q_4, rfl, hc, hm⟩ := hI9
  have hP : va_P g.1 vwCl ([(x0, .inr (9, fx_q_4)), (m0, .inr (10, fm_q_4)), (aL g o0 1 fo_1273)] ++ (Rc_q_4 ++ Rm_q_4)) H := hP
  have hD : va_D (lw_A s) ([(x0, .inr (9, fx_q_4)), (m0, .inr (10, fm_q_4)), (aL g o0 1 fo_1273)] ++ (Rc_q_4 ++ Rm_q_4)) := hD
  refine lv_istore (lv' := [(5, .int r_1), (0, .ref b), (1, .ref x0), (2, .ref m0), (3, .ref o0), (4, .int (nI i))]) hx hb dL_law_1276 hl (by decide) rfl (fun ls hl => ?_)
  refine lv_aload_n hx hb dL_law_1278 rfl (lv_at hl 3 rfl) ?_
  refine lv_aload_n hx hb dL_law_1279 rfl (lv_at hl 1 rfl) ?_
  refine lv_iload hx hb dL_law_1280 (lv_at hl 5 rfl) ?_
  refine lv_iconst (v := 1) hx hb dL_law_1282 (by decide) ?_
  refine lv_iadd hx hb dL_law_1283 ?_
  refine he_top (nI (i + 1)) (nI_add i 1) ?_
  refine he_sld hx hb hX hbl hbA hS (i + 1) rfl (by omega) (by omega) (xs (i + 1)) rfl dL_law_1284 ?_
  refine he_ci (wc := ([(x0, .inr (9, fx_q_4)), (m0, .inr (10, fm_q_4)), (aL g o0 1 fo_1273)] ++ (Rc_q_4 ++ Rm_q_4))) (wr := []) (va_runV (As := [.int (xs (i + 1))]) (rest := []) ⟨hx, hb, hml, hown, hts⟩ (il_mI (j_serves l g m0 S t _ (xs (i + 1)) hm) hc H.size) (cwV 1 hts gL_law_X11_serves rfl rfl rfl (by decide +kernel) ⟨Nat.le_of_ble_eq_true rfl, Nat.le_of_ble_eq_true rfl⟩) (he_preV (wc := ([(x0, .inr (9, fx_q_4)), (m0, .inr (10, fm_q_4)), (aL g o0 1 fo_1273)] ++ (Rc_q_4 ++ Rm_q_4))) hK hP hD hS hA hE (List.range (([(x0, .inr (9, fx_q_4)), (m0, .inr (10, fm_q_4)), (aL g o0 1 fo_1273)] ++ (Rc_q_4 ++ Rm_q_4)) : va_W).length) (he_all _) (he_allnd _) 1 rfl rfl) rfl rfl hl.1 rfl (lv_room (Nat.le_of_ble_eq_true rfl)) dL_law_1285 ⟨(by show 1000 + 4 * i + 1 + 0 ≤ 601024; omega), (by show 100000 + 700 * i + 6 + 0 ≤ 7293034; omega)⟩) hP hD hS hA (List.range (([(x0, .inr (9, fx_q_4)), (m0, .inr (10, fm_q_4)), (aL g o0 1 fo_1273)] ++ (Rc_q_4 ++ Rm_q_4)) : va_W).length) [] (he_all _) rfl rfl (fun _ h9 => absurd h9 List.not_mem_nil) (fun r_5 u_6 H locs hu_7 hP hD hS => ?_)
  obtain ⟨t_1285, hI9, ht1285, hm1285⟩ := hu_7
  obtain ⟨fx_q_8, fm_q_8, Rc_q_8, Rm_q_8, rfl, hc, hm⟩ := hI9
  have hP : va_P g.1 vwCl ([(x0, .inr (9, fx_q_8)), (m0, .inr (10, fm_q_8)), (aL g o0 1 fo_1273)] ++ (Rc_q_8 ++ Rm_q_8)) H := hP
  have hD : va_D (lw_A s) ([(x0, .inr (9, fx_q_8)), (m0, .inr (10, fm_q_8)), (aL g o0 1 fo_1273)] ++ (Rc_q_8 ++ Rm_q_8)) := hD
  refine lv_istore (lv' := [(6, .int r_5), (5, .int r_1), (0, .ref b), (1, .ref x0), (2, .ref m0), (3, .ref o0), (4, .int (nI i))]) hx hb dL_law_1288 hl (by decide) rfl (fun ls hl => ?_)
  refine lv_goto (tgt := 1369) hx hb dL_law_1290 (by decide) ?_
  refine W.widen (k := 1000 + 4 * (i + 6)) (n := 100000 + 700 * (i + 6)) (by show 1000 + 4 * i + 1 + 0 ≤ 1000 + 4 * (i + 6); omega) (by show 100000 + 700 * i + 6 + 0 ≤ 100000 + 700 * (i + 6); omega) ?_
  exact kk ((sp_serves S (xs (i + 1))).2.2) t_1285 fo_1273 _ H locs ls ⟨_, _, _, _, rfl, hc, hm⟩ hP hD hS (lv_sub hl [2, 3, 4, 5, 6] rfl)
