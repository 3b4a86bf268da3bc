set_option maxHeartbeats 8000000 in
set_option maxRecDepth 100000 in
theorem lc_kind {p : Program} {e : Env} {s : State} {m : MethodId} {below : List Frame} {meth : Method} {c : Code} {Q : State → Prop} (l : Launch) (hlt : l.stackTraces = false) (g : he_G) {b Ln : Nat} {xs : Nat → Int32} (C0 : lw_C p s m meth c b Ln xs g) (i : Nat) (hi : i + 6 ≤ Ln) (hL : Ln ≤ 3072) (x0 m0 o0 k : Nat) (t : Int32) (W9 : va_W) (hI : IL g x0 m0 o0 k k t W9) {H : Heap} {locs : List Loc} {ls : Array Slot} (hP : va_P g.1 vwCl W9 H) (hD : va_D (lw_A s) W9) (hS : va_S (lw_A s) s.heap H locs) (hl : lv_has ls 8 [(0, .ref b), (1, .ref x0), (2, .ref m0), (3, .ref o0), (4, .int (nI i))]) (kk : ∀ (k2 : Nat) (t2 : Int32) (W2 : va_W) (H2 : Heap) (locs2 : List Loc) (ls2 : Array Slot), IL g x0 m0 o0 k2 k2 t2 W2 → va_P g.1 vwCl W2 H2 → va_D (lw_A s) W2 → va_S (lw_A s) s.heap H2 locs2 → lv_has ls2 8 [(0, .ref b), (1, .ref x0), (2, .ref m0), (3, .ref o0), (4, .int (nI i))] → W p l e room_1 s m #[Value.ref b] below meth c H2 locs2 (1000 + 4 * (i + 6)) (100000 + 700 * (i + 6)) Q (F0 m 1352 ls2 [])) : W p l e room_1 s m #[Value.ref b] below meth c H locs (1000 + 4 * i) (100000 + 700 * i) Q (F0 m 879 ls []) := by
  obtain ⟨hx, hb, hr, hml, hown, hts, hX, hbl, hlk, hK, hE, hA, hbA, hNc⟩ := C0
  obtain ⟨fx, fm, fo, Rc, Rm, rfl, hc, hm⟩ := hI
  refine lv_aload_n hx hb dL_law_879 rfl (lv_at hl 1 rfl) ?_
  refine lv_aload_n hx hb dL_law_880 rfl (lv_at hl 0 rfl) ?_
  refine lv_iload hx hb dL_law_881 (lv_at hl 4 rfl) ?_
  refine lv_iconst (v := 1) hx hb dL_law_883 (by decide) ?_
  refine lv_iadd hx hb dL_law_884 ?_
  refine he_top (nI (i + 1)) (nI_add i 1) ?_
  refine he_sld hx hb hX hbl hbA hS (i + 1) rfl (by omega) (by omega) (xs (i + 1)) rfl dL_law_885 ?_
  refine lv_aload_n hx hb dL_law_886 rfl (lv_at hl 0 rfl) ?_
  refine lv_iload hx hb dL_law_887 (lv_at hl 4 rfl) ?_
  refine lv_iconst (v := 2) hx hb dL_law_889 (by decide) ?_
  refine lv_iadd hx hb dL_law_890 ?_
  refine he_top (nI (i + 2)) (nI_add i 2) ?_
  refine he_sld hx hb hX hbl hbA hS (i + 2) rfl (by omega) (by omega) (xs (i + 2)) rfl dL_law_891 ?_
  refine lv_aload_n hx hb dL_law_892 rfl (lv_at hl 0 rfl) ?_
  refine lv_iload hx hb dL_law_893 (lv_at hl 4 rfl) ?_
  refine lv_iconst (v := 3) hx hb dL_law_895 (by decide) ?_
  refine lv_iadd hx hb dL_law_896 ?_
  refine he_top (nI (i + 3)) (nI_add i 3) ?_
  refine he_sld hx hb hX hbl hbA hS (i + 3) rfl (by omega) (by omega) (xs (i + 3)) rfl dL_law_897 ?_
  refine he_ci (wc := ([(x0, .inr (9, fx)), (m0, .inr (10, fm)), (o0, .inl (g.2 5, 1, .inr (.inl  fo)))] ++ (Rc ++ Rm))) (wr := []) (vx_runSW (As := [.ref x0, .int (xs (i + 1)), .int (xs (i + 2)), .int (xs (i + 3))]) (rest := []) ⟨hx, hb, hml, hown, hts⟩ (w_kind l hlt g x0 m0 o0 k k t _ (xs (i + 1)) (xs (i + 2)) (xs (i + 3)) ⟨_, _, _, _, _, rfl, hc, hm⟩ H.size) (vx_cwSW 4 hts gL_law_L_kind rfl rfl rfl (by decide +kernel) ⟨Nat.le_of_ble_eq_true rfl, Nat.le_of_ble_eq_true rfl⟩) (he_preS (wc := ([(x0, .inr (9, fx)), (m0, .inr (10, fm)), (o0, .inl (g.2 5, 1, .inr (.inl  fo)))] ++ (Rc ++ Rm))) hK hP hD hS hA hE (List.range (([(x0, .inr (9, fx)), (m0, .inr (10, fm)), (o0, .inl (g.2 5, 1, .inr (.inl  fo)))] ++ (Rc ++ Rm)) : va_W).length) (he_all _) (he_allnd _)) rfl rfl hl.1 rfl (lv_room (Nat.le_of_ble_eq_true rfl)) dL_law_898 ⟨(by show 1000 + 4 * i + 1 ≤ 1109424; omega), (by show 100000 + 700 * i + 6 ≤ 5767833; omega)⟩) hP hD hS hA (List.range (([(x0, .inr (9, fx)), (m0, .inr (10, fm)), (o0, .inl (g.2 5, 1, .inr (.inl  fo)))] ++ (Rc ++ Rm)) : va_W).length) [] (he_all _) rfl rfl (fun _ h9 => absurd h9 List.not_mem_nil) (fun r_1 u_2 H locs hu_3 hP hD hS => ?_)
  obtain ⟨hI9, hp898⟩ := hu_3
  obtain ⟨fx_q_4, fm_q_4, fo_q_4, Rc_q_4, Rm_q_4, rfl, hc, hm⟩ := hI9
  have hP : va_P g.1 vwCl ([(x0, .inr (9, fx_q_4)), (m0, .inr (10, fm_q_4)), (o0, .inl (g.2 5, 1, .inr (.inl  fo_q_4)))] ++ (Rc_q_4 ++ Rm_q_4)) H := hP
  have hD : va_D (lw_A s) ([(x0, .inr (9, fx_q_4)), (m0, .inr (10, fm_q_4)), (o0, .inl (g.2 5, 1, .inr (.inl  fo_q_4)))] ++ (Rc_q_4 ++ Rm_q_4)) := hD
  refine lv_istore (lv' := [(5, .int r_1), (0, .ref b), (1, .ref x0), (2, .ref m0), (3, .ref o0), (4, .int (nI i))]) hx hb dL_law_901 hl (by decide) rfl (fun ls hl => ?_)
  refine lv_aload_n hx hb dL_law_903 rfl (lv_at hl 3 rfl) ?_
  refine lv_aload_n hx hb dL_law_904 rfl (lv_at hl 1 rfl) ?_
  refine lv_iload hx hb dL_law_905 (lv_at hl 5 rfl) ?_
  refine lv_iconst (v := 1) hx hb dL_law_907 (by decide) ?_
  refine lv_iadd hx hb dL_law_908 ?_
  refine he_top (nI (i + 1)) (nI_add i 1) ?_
  refine he_sld hx hb hX hbl hbA hS (i + 1) rfl (by omega) (by omega) (xs (i + 1)) rfl dL_law_909 ?_
  refine lv_aload_n hx hb dL_law_910 rfl (lv_at hl 1 rfl) ?_
  refine lv_iload hx hb dL_law_911 (lv_at hl 5 rfl) ?_
  refine lv_iconst (v := 2) hx hb dL_law_913 (by decide) ?_
  refine lv_iadd hx hb dL_law_914 ?_
  refine he_top (nI (i + 2)) (nI_add i 2) ?_
  refine he_sld hx hb hX hbl hbA hS (i + 2) rfl (by omega) (by omega) (xs (i + 2)) rfl dL_law_915 ?_
  refine lv_aload_n hx hb dL_law_916 rfl (lv_at hl 1 rfl) ?_
  refine lv_iload hx hb dL_law_917 (lv_at hl 5 rfl) ?_
  refine lv_iconst (v := 3) hx hb dL_law_919 (by decide) ?_
  refine lv_iadd hx hb dL_law_920 ?_
  refine he_top (nI (i + 3)) (nI_add i 3) ?_
  refine he_sld hx hb hX hbl hbA hS (i + 3) rfl (by omega) (by omega) (xs (i + 3)) rfl dL_law_921 ?_
  refine he_cv (wc := ([(x0, .inr (9, fx_q_4)), (m0, .inr (10, fm_q_4)), (o0, .inl (g.2 5, 1, .inr (.inl  fo_q_4)))] ++ (Rc_q_4 ++ Rm_q_4))) (wr := []) (va_runV (As := [.int (xs (i + 1)), .int (xs (i + 2)), .int (xs (i + 3))]) (rest := []) ⟨hx, hb, hml, hown, hts⟩ (il_mV (j_kind l g m0 k t _ (xs (i + 1)) (xs (i + 2)) (xs (i + 3)) hm) hc H.size) (cwV 3 hts gL_law_X11_kind rfl rfl rfl (by decide +kernel) ⟨Nat.le_of_ble_eq_true rfl, Nat.le_of_ble_eq_true rfl⟩) (he_preV (wc := ([(x0, .inr (9, fx_q_4)), (m0, .inr (10, fm_q_4)), (o0, .inl (g.2 5, 1, .inr (.inl  fo_q_4)))] ++ (Rc_q_4 ++ Rm_q_4))) hK hP hD hS hA hE (List.range (([(x0, .inr (9, fx_q_4)), (m0, .inr (10, fm_q_4)), (o0, .inl (g.2 5, 1, .inr (.inl  fo_q_4)))] ++ (Rc_q_4 ++ Rm_q_4)) : va_W).length) (he_all _) (he_allnd _) 1 rfl rfl) rfl rfl hl.1 rfl (lv_room (Nat.le_of_ble_eq_true rfl)) dL_law_922 ⟨(by show 1000 + 4 * i + 1 + 0 ≤ 1109424; omega), (by show 100000 + 700 * i + 6 + 0 ≤ 5767833; omega)⟩) hP hD hS hA (List.range (([(x0, .inr (9, fx_q_4)), (m0, .inr (10, fm_q_4)), (o0, .inl (g.2 5, 1, .inr (.inl  fo_q_4)))] ++ (Rc_q_4 ++ Rm_q_4)) : va_W).length) [] (he_all _) rfl rfl (fun _ h9 => absurd h9 List.not_mem_nil) (fun u_6 H locs hu_7 hP hD hS => ?_)
  obtain ⟨t_922, hI9, hm922⟩ := hu_7
  obtain ⟨fx_q_8, fm_q_8, fo_q_8, Rc_q_8, Rm_q_8, rfl, hc, hm⟩ := hI9
  have hP : va_P g.1 vwCl ([(x0, .inr (9, fx_q_8)), (m0, .inr (10, fm_q_8)), (o0, .inl (g.2 5, 1, .inr (.inl  fo_q_8)))] ++ (Rc_q_8 ++ Rm_q_8)) H := hP
  have hD : va_D (lw_A s) ([(x0, .inr (9, fx_q_8)), (m0, .inr (10, fm_q_8)), (o0, .inl (g.2 5, 1, .inr (.inl  fo_q_8)))] ++ (Rc_q_8 ++ Rm_q_8)) := hD
  refine lv_aload_n hx hb dL_law_925 rfl (lv_at hl 3 rfl) ?_
  refine he_ci (wc := ([(x0, .inr (9, fx_q_8)), (m0, .inr (10, fm_q_8)), (o0, .inl (g.2 5, 1, .inr (.inl  fo_q_8)))] ++ (Rc_q_8 ++ Rm_q_8))) (wr := []) (va_runV (As := []) (rest := []) ⟨hx, hb, hml, hown, hts⟩ (il_mI (pr := fun r t2 => r = t_922) (j_thrown2 l g m0 k t_922 _ hm) hc H.size) (cwV 0 hts gL_law_X11_thrown rfl rfl rfl (by decide +kernel) ⟨Nat.le_of_ble_eq_true rfl, Nat.le_of_ble_eq_true rfl⟩) (he_preV (wc := ([(x0, .inr (9, fx_q_8)), (m0, .inr (10, fm_q_8)), (o0, .inl (g.2 5, 1, .inr (.inl  fo_q_8)))] ++ (Rc_q_8 ++ Rm_q_8))) hK hP hD hS hA hE (List.range (([(x0, .inr (9, fx_q_8)), (m0, .inr (10, fm_q_8)), (o0, .inl (g.2 5, 1, .inr (.inl  fo_q_8)))] ++ (Rc_q_8 ++ Rm_q_8)) : va_W).length) (he_all _) (he_allnd _) 1 rfl rfl) rfl rfl hl.1 rfl (lv_room (Nat.le_of_ble_eq_true rfl)) dL_law_926 ⟨(by show 1000 + 4 * i + 1 + 0 + 0 ≤ 1109424; omega), (by show 100000 + 700 * i + 6 + 0 + 0 ≤ 5767833; omega)⟩) hP hD hS hA (List.range (([(x0, .inr (9, fx_q_8)), (m0, .inr (10, fm_q_8)), (o0, .inl (g.2 5, 1, .inr (.inl  fo_q_8)))] ++ (Rc_q_8 ++ Rm_q_8)) : va_W).length) [] (he_all _) rfl rfl (fun _ h9 => absurd h9 List.not_mem_nil) (fun r_9 u_10 H locs hu_11 hP hD hS => ?_)
  obtain ⟨t9, hI9, hr9⟩ := hu_11
  obtain ⟨fx_q_12, fm_q_12, fo_q_12, Rc_q_12, Rm_q_12, rfl, hc, hm⟩ := hI9
  have hP : va_P g.1 vwCl ([(x0, .inr (9, fx_q_12)), (m0, .inr (10, fm_q_12)), (o0, .inl (g.2 5, 1, .inr (.inl  fo_q_12)))] ++ (Rc_q_12 ++ Rm_q_12)) H := hP
  have hD : va_D (lw_A s) ([(x0, .inr (9, fx_q_12)), (m0, .inr (10, fm_q_12)), (o0, .inl (g.2 5, 1, .inr (.inl  fo_q_12)))] ++ (Rc_q_12 ++ Rm_q_12)) := hD
  refine lv_iload hx hb dL_law_929 (lv_at hl 0 rfl) ?_
  refine lv_icmp_eq (tgt := 936) hx hb dL_law_931 (by decide) (fun c9 => ?_) (fun c9 => absurd (by rw [hr9]; exact th_eq hm922 hp898 (fun h9 => h9.2.elim h9.1.1 (fun h8 => h8.elim h9.1.2.1 h9.1.2.2))) c9)
  refine lv_goto (tgt := 1352) hx hb dL_law_936 (by decide) ?_
  refine W.widen (k := 1000 + 4 * (i + 6)) (n := 100000 + 700 * (i + 6)) (by show 1000 + 4 * i + 1 + 0 + 0 ≤ 1000 + 4 * (i + 6); omega) (by show 100000 + 700 * i + 6 + 0 + 0 ≤ 100000 + 700 * (i + 6); omega) ?_
  exact kk k t9 _ H locs ls ⟨_, _, _, _, _, rfl, hc, hm⟩ hP hD hS (lv_sub hl [1, 2, 3, 4, 5] rfl)
set_option maxHeartbeats 8000000 in
set_option maxRecDepth 100000 in
theorem lc_seen {p : Program} {e : Env} {s : State} {m : MethodId} {below : List Frame} {meth : Method} {c : Code} {Q : State → Prop} (l : Launch) (hlt : l.stackTraces = false) (g : he_G) {b Ln : Nat} {xs : Nat → Int32} (C0 : lw_C p s m meth c b Ln xs g) (i : Nat) (hi : i + 6 ≤ Ln) (hL : Ln ≤ 3072) (x0 m0 o0 k : Nat) (t : Int32) (W9 : va_W) (hI : IL g x0 m0 o0 k k t W9) {H : Heap} {locs : List Loc} {ls : Array Slot} (hP : va_P g.1 vwCl W9 H) (hD : va_D (lw_A s) W9) (hS : va_S (lw_A s) s.heap H locs) (hl : lv_has ls 8 [(0, .ref b), (1, .ref x0), (2, .ref m0), (3, .ref o0), (4, .int (nI i))]) (kk : ∀ (k2 : Nat) (t2 : Int32) (W2 : va_W) (H2 : Heap) (locs2 : List Loc) (ls2 : Array Slot), IL g x0 m0 o0 k2 k2 t2 W2 → va_P g.1 vwCl W2 H2 → va_D (lw_A s) W2 → va_S (lw_A s) s.heap H2 locs2 → lv_has ls2 8 [(0, .ref b), (1, .ref x0), (2, .ref m0), (3, .ref o0), (4, .int (nI i))] → W p l e room_1 s m #[Value.ref b] below meth c H2 locs2 (1000 + 4 * (i + 6)) (100000 + 700 * (i + 6)) Q (F0 m 1352 ls2 [])) : W p l e room_1 s m #[Value.ref b] below meth c H locs (1000 + 4 * i) (100000 + 700 * i) Q (F0 m 939 ls []) := by
  obtain ⟨hx, hb, hr, hml, hown, hts, hX, hbl, hlk, hK, hE, hA, hbA, hNc⟩ := C0
  obtain ⟨fx, fm, fo, Rc, Rm, rfl, hc, hm⟩ := hI
  refine lv_aload_n hx hb dL_law_939 rfl (lv_at hl 1 rfl) ?_
  refine lv_aload_n hx hb dL_law_940 rfl (lv_at hl 0 rfl) ?_
  refine lv_iload hx hb dL_law_941 (lv_at hl 4 rfl) ?_
  refine lv_iconst (v := 1) hx hb dL_law_943 (by decide) ?_
  refine lv_iadd hx hb dL_law_944 ?_
  refine he_top (nI (i + 1)) (nI_add i 1) ?_
  refine he_sld hx hb hX hbl hbA hS (i + 1) rfl (by omega) (by omega) (xs (i + 1)) rfl dL_law_945 ?_
  refine lv_aload_n hx hb dL_law_946 rfl (lv_at hl 3 rfl) ?_
  refine he_ci (wc := ([(x0, .inr (9, fx)), (m0, .inr (10, fm)), (o0, .inl (g.2 5, 1, .inr (.inl  fo)))] ++ (Rc ++ Rm))) (wr := []) (vx_runSW (As := [.ref x0, .int (xs (i + 1)), .ref o0]) (rest := []) ⟨hx, hb, hml, hown, hts⟩ (w_seen l hlt g x0 m0 o0 k k t _ (xs (i + 1)) ⟨_, _, _, _, _, rfl, hc, hm⟩ H.size) (vx_cwSW 3 hts gL_law_L_seen rfl rfl rfl (by decide +kernel) ⟨Nat.le_of_ble_eq_true rfl, Nat.le_of_ble_eq_true rfl⟩) (he_preS (wc := ([(x0, .inr (9, fx)), (m0, .inr (10, fm)), (o0, .inl (g.2 5, 1, .inr (.inl  fo)))] ++ (Rc ++ Rm))) hK hP hD hS hA hE (List.range (([(x0, .inr (9, fx)), (m0, .inr (10, fm)), (o0, .inl (g.2 5, 1, .inr (.inl  fo)))] ++ (Rc ++ Rm)) : va_W).length) (he_all _) (he_allnd _)) rfl rfl hl.1 rfl (lv_room (Nat.le_of_ble_eq_true rfl)) dL_law_947 ⟨(by show 1000 + 4 * i + 1 ≤ 1109424; omega), (by show 100000 + 700 * i + 6 ≤ 5767833; omega)⟩) hP hD hS hA (List.range (([(x0, .inr (9, fx)), (m0, .inr (10, fm)), (o0, .inl (g.2 5, 1, .inr (.inl  fo)))] ++ (Rc ++ Rm)) : va_W).length) [] (he_all _) rfl rfl (fun _ h9 => absurd h9 List.not_mem_nil) (fun r_1 u_2 H locs hu_3 hP hD hS => ?_)
  obtain ⟨hI9, hp947⟩ := hu_3
  obtain ⟨fx_q_4, fm_q_4, fo_q_4, Rc_q_4, Rm_q_4, rfl, hc, hm⟩ := hI9
  have hP : va_P g.1 vwCl ([(x0, .inr (9, fx_q_4)), (m0, .inr (10, fm_q_4)), (o0, .inl (g.2 5, 1, .inr (.inl  fo_q_4)))] ++ (Rc_q_4 ++ Rm_q_4)) H := hP
  have hD : va_D (lw_A s) ([(x0, .inr (9, fx_q_4)), (m0, .inr (10, fm_q_4)), (o0, .inl (g.2 5, 1, .inr (.inl  fo_q_4)))] ++ (Rc_q_4 ++ Rm_q_4)) := hD
  refine lv_istore (lv' := [(5, .int r_1), (0, .ref b), (1, .ref x0), (2, .ref m0), (3, .ref o0), (4, .int (nI i))]) hx hb dL_law_950 hl (by decide) rfl (fun ls hl => ?_)
  refine lv_aload_n hx hb dL_law_952 rfl (lv_at hl 3 rfl) ?_
  refine lv_aload_n hx hb dL_law_953 rfl (lv_at hl 1 rfl) ?_
  refine lv_iload hx hb dL_law_954 (lv_at hl 5 rfl) ?_
  refine lv_iconst (v := 1) hx hb dL_law_956 (by decide) ?_
  refine lv_iadd hx hb dL_law_957 ?_
  refine he_top (nI (i + 1)) (nI_add i 1) ?_
  refine he_sld hx hb hX hbl hbA hS (i + 1) rfl (by omega) (by omega) (xs (i + 1)) rfl dL_law_958 ?_
  refine he_ci (wc := ([(x0, .inr (9, fx_q_4)), (m0, .inr (10, fm_q_4)), (o0, .inl (g.2 5, 1, .inr (.inl  fo_q_4)))] ++ (Rc_q_4 ++ Rm_q_4))) (wr := []) (va_runV (As := [.int (xs (i + 1))]) (rest := []) ⟨hx, hb, hml, hown, hts⟩ (il_mI (j_seen l g m0 k t _ (xs (i + 1)) hm) hc H.size) (cwV 1 hts gL_law_X11_seen rfl rfl rfl (by decide +kernel) ⟨Nat.le_of_ble_eq_true rfl, Nat.le_of_ble_eq_true rfl⟩) (he_preV (wc := ([(x0, .inr (9, fx_q_4)), (m0, .inr (10, fm_q_4)), (o0, .inl (g.2 5, 1, .inr (.inl  fo_q_4)))] ++ (Rc_q_4 ++ Rm_q_4))) hK hP hD hS hA hE (List.range (([(x0, .inr (9, fx_q_4)), (m0, .inr (10, fm_q_4)), (o0, .inl (g.2 5, 1, .inr (.inl  fo_q_4)))] ++ (Rc_q_4 ++ Rm_q_4)) : va_W).length) (he_all _) (he_allnd _) 1 rfl rfl) rfl rfl hl.1 rfl (lv_room (Nat.le_of_ble_eq_true rfl)) dL_law_959 ⟨(by show 1000 + 4 * i + 1 + 0 ≤ 1109424; omega), (by show 100000 + 700 * i + 6 + 0 ≤ 5767833; omega)⟩) hP hD hS hA (List.range (([(x0, .inr (9, fx_q_4)), (m0, .inr (10, fm_q_4)), (o0, .inl (g.2 5, 1, .inr (.inl  fo_q_4)))] ++ (Rc_q_4 ++ Rm_q_4)) : va_W).length) [] (he_all _) rfl rfl (fun _ h9 => absurd h9 List.not_mem_nil) (fun r_5 u_6 H locs hu_7 hP hD hS => ?_)
  obtain ⟨t_959, hI9, hm959⟩ := hu_7
  obtain ⟨fx_q_8, fm_q_8, fo_q_8, Rc_q_8, Rm_q_8, rfl, hc, hm⟩ := hI9
  have hP : va_P g.1 vwCl ([(x0, .inr (9, fx_q_8)), (m0, .inr (10, fm_q_8)), (o0, .inl (g.2 5, 1, .inr (.inl  fo_q_8)))] ++ (Rc_q_8 ++ Rm_q_8)) H := hP
  have hD : va_D (lw_A s) ([(x0, .inr (9, fx_q_8)), (m0, .inr (10, fm_q_8)), (o0, .inl (g.2 5, 1, .inr (.inl  fo_q_8)))] ++ (Rc_q_8 ++ Rm_q_8)) := hD
  refine lv_istore (lv' := [(6, .int r_5), (5, .int r_1), (0, .ref b), (1, .ref x0), (2, .ref m0), (3, .ref o0), (4, .int (nI i))]) hx hb dL_law_962 hl (by decide) rfl (fun ls hl => ?_)
  refine lv_goto (tgt := 1352) hx hb dL_law_964 (by decide) ?_
  refine W.widen (k := 1000 + 4 * (i + 6)) (n := 100000 + 700 * (i + 6)) (by show 1000 + 4 * i + 1 + 0 ≤ 1000 + 4 * (i + 6); omega) (by show 100000 + 700 * i + 6 + 0 ≤ 100000 + 700 * (i + 6); omega) ?_
  exact kk k t_959 _ H locs ls ⟨_, _, _, _, _, rfl, hc, hm⟩ hP hD hS (lv_sub hl [2, 3, 4, 5, 6] rfl)
set_option maxHeartbeats 8000000 in
set_option maxRecDepth 100000 in
theorem lc_spy {p : Program} {e : Env} {s : State} {m : MethodId} {below : List Frame} {meth : Method} {c : Code} {Q : State → Prop} (l : Launch) (hlt : l.stackTraces = false) (g : he_G) {b Ln : Nat} {xs : Nat → Int32} (C0 : lw_C p s m meth c b Ln xs g) (i : Nat) (hi : i + 6 ≤ Ln) (hL : Ln ≤ 3072) (x0 m0 o0 k : Nat) (t : Int32) (W9 : va_W) (hI : IL g x0 m0 o0 k k t W9) {H : Heap} {locs : List Loc} {ls : Array Slot} (hP : va_P g.1 vwCl W9 H) (hD : va_D (lw_A s) W9) (hS : va_S (lw_A s) s.heap H locs) (hl : lv_has ls 8 [(0, .ref b), (1, .ref x0), (2, .ref m0), (3, .ref o0), (4, .int (nI i))]) (kk : ∀ (k2 : Nat) (t2 : Int32) (W2 : va_W) (H2 : Heap) (locs2 : List Loc) (ls2 : Array Slot), IL g x0 m0 o0 k2 k2 t2 W2 → va_P g.1 vwCl W2 H2 → va_D (lw_A s) W2 → va_S (lw_A s) s.heap H2 locs2 → lv_has ls2 8 [(0, .ref b), (1, .ref x0), (2, .ref m0), (3, .ref o0), (4, .int (nI i))] → W p l e room_1 s m #[Value.ref b] below meth c H2 locs2 (1000 + 4 * (i + 6)) (100000 + 700 * (i + 6)) Q (F0 m 1352 ls2 [])) : W p l e room_1 s m #[Value.ref b] below meth c H locs (1000 + 4 * i) (100000 + 700 * i) Q (F0 m 967 ls []) := by
  obtain ⟨hx, hb, hr, hml, hown, hts, hX, hbl, hlk, hK, hE, hA, hbA, hNc⟩ := C0
  obtain ⟨fx, fm, fo, Rc, Rm, rfl, hc, hm⟩ := hI
  refine lv_aload_n hx hb dL_law_967 rfl (lv_at hl 1 rfl) ?_
  refine lv_aload_n hx hb dL_law_968 rfl (lv_at hl 0 rfl) ?_
  refine lv_iload hx hb dL_law_969 (lv_at hl 4 rfl) ?_
  refine lv_iconst (v := 1) hx hb dL_law_971 (by decide) ?_
  refine lv_iadd hx hb dL_law_972 ?_
  refine he_top (nI (i + 1)) (nI_add i 1) ?_
  refine he_sld hx hb hX hbl hbA hS (i + 1) rfl (by omega) (by omega) (xs (i + 1)) rfl dL_law_973 ?_
  refine lv_if_eq (tgt := 981) hx hb dL_law_974 (by decide) (fun c_1 => ?_) (fun c_1 => ?_)
  · refine lv_iconst (v := 0) hx hb dL_law_981 (by decide) ?_
    refine lv_aload_n hx hb dL_law_982 rfl (lv_at hl 0 rfl) ?_
    refine lv_iload hx hb dL_law_983 (lv_at hl 4 rfl) ?_
    refine lv_iconst (v := 2) hx hb dL_law_985 (by decide) ?_
    refine lv_iadd hx hb dL_law_986 ?_
    refine he_top (nI (i + 2)) (nI_add i 2) ?_
    refine he_sld hx hb hX hbl hbA hS (i + 2) rfl (by omega) (by omega) (xs (i + 2)) rfl dL_law_987 ?_
    refine lv_aload_n hx hb dL_law_988 rfl (lv_at hl 3 rfl) ?_
    refine he_ci (wc := ([(x0, .inr (9, fx)), (m0, .inr (10, fm)), (o0, .inl (g.2 5, 1, .inr (.inl  fo)))] ++ (Rc ++ Rm))) (wr := []) (vx_runSW (As := [.ref x0, .int 0, .int (xs (i + 2)), .ref o0]) (rest := []) ⟨hx, hb, hml, hown, hts⟩ (w_spy l hlt g x0 m0 o0 k k t _ 0 (xs (i + 2)) (by first | exact Or.inl rfl | exact Or.inr rfl | assumption) ⟨_, _, _, _, _, rfl, hc, hm⟩ H.size) (vx_cwSW 4 hts gL_law_L_spy rfl rfl rfl (by decide +kernel) ⟨Nat.le_of_ble_eq_true rfl, Nat.le_of_ble_eq_true rfl⟩) (he_preS (wc := ([(x0, .inr (9, fx)), (m0, .inr (10, fm)), (o0, .inl (g.2 5, 1, .inr (.inl  fo)))] ++ (Rc ++ Rm))) hK hP hD hS hA hE (List.range (([(x0, .inr (9, fx)), (m0, .inr (10, fm)), (o0, .inl (g.2 5, 1, .inr (.inl  fo)))] ++ (Rc ++ Rm)) : va_W).length) (he_all _) (he_allnd _)) rfl rfl hl.1 rfl (lv_room (Nat.le_of_ble_eq_true rfl)) dL_law_989 ⟨(by show 1000 + 4 * i + 1 ≤ 1109424; omega), (by show 100000 + 700 * i + 6 ≤ 5767833; omega)⟩) hP hD hS hA (List.range (([(x0, .inr (9, fx)), (m0, .inr (10, fm)), (o0, .inl (g.2 5, 1, .inr (.inl  fo)))] ++ (Rc ++ Rm)) : va_W).length) [] (he_all _) rfl rfl (fun _ h9 => absurd h9 List.not_mem_nil) (fun r_2 u_3 H locs hu_4 hP hD hS => ?_)
    obtain ⟨hI9, hp989⟩ := hu_4
    obtain ⟨fx_q_5, fm_q_5, fo_q_5, Rc_q_5, Rm_q_5, rfl, hc, hm⟩ := hI9
    have hP : va_P g.1 vwCl ([(x0, .inr (9, fx_q_5)), (m0, .inr (10, fm_q_5)), (o0, .inl (g.2 5, 1, .inr (.inl  fo_q_5)))] ++ (Rc_q_5 ++ Rm_q_5)) H := hP
    have hD : va_D (lw_A s) ([(x0, .inr (9, fx_q_5)), (m0, .inr (10, fm_q_5)), (o0, .inl (g.2 5, 1, .inr (.inl  fo_q_5)))] ++ (Rc_q_5 ++ Rm_q_5)) := hD
    refine lv_istore (lv' := [(5, .int r_2), (0, .ref b), (1, .ref x0), (2, .ref m0), (3, .ref o0), (4, .int (nI i))]) hx hb dL_law_992 hl (by decide) rfl (fun ls hl => ?_)
    refine lv_aload_n hx hb dL_law_994 rfl (lv_at hl 3 rfl) ?_
    refine lv_aload_n hx hb dL_law_995 rfl (lv_at hl 1 rfl) ?_
    refine lv_iload hx hb dL_law_996 (lv_at hl 5 rfl) ?_
    refine lv_iconst (v := 1) hx hb dL_law_998 (by decide) ?_
    refine lv_iadd hx hb dL_law_999 ?_
    refine he_top (nI (i + 1)) (nI_add i 1) ?_
    refine he_sld hx hb hX hbl hbA hS (i + 1) rfl (by omega) (by omega) (xs (i + 1)) rfl dL_law_1000 ?_
    refine lv_if_eq (tgt := 1008) hx hb dL_law_1001 (by decide) (fun c_6 => ?_) (fun c_6 => ?_)
    · refine lv_iconst (v := 0) hx hb dL_law_1008 (by decide) ?_
      refine lv_aload_n hx hb dL_law_1009 rfl (lv_at hl 1 rfl) ?_
      refine lv_iload hx hb dL_law_1010 (lv_at hl 5 rfl) ?_
      refine lv_iconst (v := 2) hx hb dL_law_1012 (by decide) ?_
      refine lv_iadd hx hb dL_law_1013 ?_
      refine he_top (nI (i + 2)) (nI_add i 2) ?_
      refine he_sld hx hb hX hbl hbA hS (i + 2) rfl (by omega) (by omega) (xs (i + 2)) rfl dL_law_1014 ?_
      refine he_ci (wc := ([(x0, .inr (9, fx_q_5)), (m0, .inr (10, fm_q_5)), (o0, .inl (g.2 5, 1, .inr (.inl  fo_q_5)))] ++ (Rc_q_5 ++ Rm_q_5))) (wr := []) (va_runV (As := [.int 0, .int (xs (i + 2))]) (rest := []) ⟨hx, hb, hml, hown, hts⟩ (il_mI (j_spy l g m0 k t _ 0 (xs (i + 2)) (by first | exact Or.inl rfl | exact Or.inr rfl | assumption) hm) hc H.size) (cwV 2 hts gL_law_X11_spy rfl rfl rfl (by decide +kernel) ⟨Nat.le_of_ble_eq_true rfl, Nat.le_of_ble_eq_true rfl⟩) (he_preV (wc := ([(x0, .inr (9, fx_q_5)), (m0, .inr (10, fm_q_5)), (o0, .inl (g.2 5, 1, .inr (.inl  fo_q_5)))] ++ (Rc_q_5 ++ Rm_q_5))) hK hP hD hS hA hE (List.range (([(x0, .inr (9, fx_q_5)), (m0, .inr (10, fm_q_5)), (o0, .inl (g.2 5, 1, .inr (.inl  fo_q_5)))] ++ (Rc_q_5 ++ Rm_q_5)) : va_W).length) (he_all _) (he_allnd _) 1 rfl rfl) rfl rfl hl.1 rfl (lv_room (Nat.le_of_ble_eq_true rfl)) dL_law_1015 ⟨(by show 1000 + 4 * i + 1 + 0 ≤ 1109424; omega), (by show 100000 + 700 * i + 6 + 0 ≤ 5767833; omega)⟩) hP hD hS hA (List.range (([(x0, .inr (9, fx_q_5)), (m0, .inr (10, fm_q_5)), (o0, .inl (g.2 5, 1, .inr (.inl  fo_q_5)))] ++ (Rc_q_5 ++ Rm_q_5)) : va_W).length) [] (he_all _) rfl rfl (fun _ h9 => absurd h9 List.not_mem_nil) (fun r_7 u_8 H locs hu_9 hP hD hS => ?_)
      obtain ⟨t_1015, hI9, hm1015⟩ := hu_9
      obtain ⟨fx_q_10, fm_q_10, fo_q_10, Rc_q_10, Rm_q_10, rfl, hc, hm⟩ := hI9
      have hP : va_P g.1 vwCl ([(x0, .inr (9, fx_q_10)), (m0, .inr (10, fm_q_10)), (o0, .inl (g.2 5, 1, .inr (.inl  fo_q_10)))] ++ (Rc_q_10 ++ Rm_q_10)) H := hP
      have hD : va_D (lw_A s) ([(x0, .inr (9, fx_q_10)), (m0, .inr (10, fm_q_10)), (o0, .inl (g.2 5, 1, .inr (.inl  fo_q_10)))] ++ (Rc_q_10 ++ Rm_q_10)) := hD
      refine lv_istore (lv' := [(6, .int r_7), (5, .int r_2), (0, .ref b), (1, .ref x0), (2, .ref m0), (3, .ref o0), (4, .int (nI i))]) hx hb dL_law_1018 hl (by decide) rfl (fun ls hl => ?_)
      refine lv_goto (tgt := 1352) hx hb dL_law_1020 (by decide) ?_
      refine W.widen (k := 1000 + 4 * (i + 6)) (n := 100000 + 700 * (i + 6)) (by show 1000 + 4 * i + 1 + 0 ≤ 1000 + 4 * (i + 6); omega) (by show 100000 + 700 * i + 6 + 0 ≤ 100000 + 700 * (i + 6); omega) ?_
      exact kk k t_1015 _ H locs ls ⟨_, _, _, _, _, rfl, hc, hm⟩ hP hD hS (lv_sub hl [2, 3, 4, 5, 6] rfl)
    · refine lv_iconst (v := 1) hx hb dL_law_1004 (by decide) ?_
      refine lv_goto (tgt := 1009) hx hb dL_law_1005 (by decide) ?_
      refine lv_aload_n hx hb dL_law_1009 rfl (lv_at hl 1 rfl) ?_
      refine lv_iload hx hb dL_law_1010 (lv_at hl 5 rfl) ?_
      refine lv_iconst (v := 2) hx hb dL_law_1012 (by decide) ?_
      refine lv_iadd hx hb dL_law_1013 ?_
      refine he_top (nI (i + 2)) (nI_add i 2) ?_
      refine he_sld hx hb hX hbl hbA hS (i + 2) rfl (by omega) (by omega) (xs (i + 2)) rfl dL_law_1014 ?_
      refine he_ci (wc := ([(x0, .inr (9, fx_q_5)), (m0, .inr (10, fm_q_5)), (o0, .inl (g.2 5, 1, .inr (.inl  fo_q_5)))] ++ (Rc_q_5 ++ Rm_q_5))) (wr := []) (va_runV (As := [.int 1, .int (xs (i + 2))]) (rest := []) ⟨hx, hb, hml, hown, hts⟩ (il_mI (j_spy l g m0 k t _ 1 (xs (i + 2)) (by first | exact Or.inl rfl | exact Or.inr rfl | assumption) hm) hc H.size) (cwV 2 hts gL_law_X11_spy rfl rfl rfl (by decide +kernel) ⟨Nat.le_of_ble_eq_true rfl, Nat.le_of_ble_eq_true rfl⟩) (he_preV (wc := ([(x0, .inr (9, fx_q_5)), (m0, .inr (10, fm_q_5)), (o0, .inl (g.2 5, 1, .inr (.inl  fo_q_5)))] ++ (Rc_q_5 ++ Rm_q_5))) hK hP hD hS hA hE (List.range (([(x0, .inr (9, fx_q_5)), (m0, .inr (10, fm_q_5)), (o0, .inl (g.2 5, 1, .inr (.inl  fo_q_5)))] ++ (Rc_q_5 ++ Rm_q_5)) : va_W).length) (he_all _) (he_allnd _) 1 rfl rfl) rfl rfl hl.1 rfl (lv_room (Nat.le_of_ble_eq_true rfl)) dL_law_1015 ⟨(by show 1000 + 4 * i + 1 + 0 ≤ 1109424; omega), (by show 100000 + 700 * i + 6 + 0 ≤ 5767833; omega)⟩) hP hD hS hA (List.range (([(x0, .inr (9, fx_q_5)), (m0, .inr (10, fm_q_5)), (o0, .inl (g.2 5, 1, .inr (.inl  fo_q_5)))] ++ (Rc_q_5 ++ Rm_q_5)) : va_W).length) [] (he_all _) rfl rfl (fun _ h9 => absurd h9 List.not_mem_nil) (fun r_11 u_12 H locs hu_13 hP hD hS => ?_)
      obtain ⟨t_1015, hI9, hm1015⟩ := hu_13
      obtain ⟨fx_q_14, fm_q_14, fo_q_14, Rc_q_14, Rm_q_14, rfl, hc, hm⟩ := hI9
      have hP : va_P g.1 vwCl ([(x0, .inr (9, fx_q_14)), (m0, .inr (10, fm_q_14)), (o0, .inl (g.2 5, 1, .inr (.inl  fo_q_14)))] ++ (Rc_q_14 ++ Rm_q_14)) H := hP
      have hD : va_D (lw_A s) ([(x0, .inr (9, fx_q_14)), (m0, .inr (10, fm_q_14)), (o0, .inl (g.2 5, 1, .inr (.inl  fo_q_14)))] ++ (Rc_q_14 ++ Rm_q_14)) := hD
      refine lv_istore (lv' := [(6, .int r_11), (5, .int r_2), (0, .ref b), (1, .ref x0), (2, .ref m0), (3, .ref o0), (4, .int (nI i))]) hx hb dL_law_1018 hl (by decide) rfl (fun ls hl => ?_)
      refine lv_goto (tgt := 1352) hx hb dL_law_1020 (by decide) ?_
      refine W.widen (k := 1000 + 4 * (i + 6)) (n := 100000 + 700 * (i + 6)) (by show 1000 + 4 * i + 1 + 0 ≤ 1000 + 4 * (i + 6); omega) (by show 100000 + 700 * i + 6 + 0 ≤ 100000 + 700 * (i + 6); omega) ?_
      exact kk k t_1015 _ H locs ls ⟨_, _, _, _, _, rfl, hc, hm⟩ hP hD hS (lv_sub hl [2, 3, 4, 5, 6] rfl)
  · refine lv_iconst (v := 1) hx hb dL_law_977 (by decide) ?_
    refine lv_goto (tgt := 982) hx hb dL_law_978 (by decide) ?_
    refine lv_aload_n hx hb dL_law_982 rfl (lv_at hl 0 rfl) ?_
    refine lv_iload hx hb dL_law_983 (lv_at hl 4 rfl) ?_
    refine lv_iconst (v := 2) hx hb dL_law_985 (by decide) ?_
    refine lv_iadd hx hb dL_law_986 ?_
    refine he_top (nI (i + 2)) (nI_add i 2) ?_
    refine he_sld hx hb hX hbl hbA hS (i + 2) rfl (by omega) (by omega) (xs (i + 2)) rfl dL_law_987 ?_
    refine lv_aload_n hx hb dL_law_988 rfl (lv_at hl 3 rfl) ?_
    refine he_ci (wc := ([(x0, .inr (9, fx)), (m0, .inr (10, fm)), (o0, .inl (g.2 5, 1, .inr (.inl  fo)))] ++ (Rc ++ Rm))) (wr := []) (vx_runSW (As := [.ref x0, .int 1, .int (xs (i + 2)), .ref o0]) (rest := []) ⟨hx, hb, hml, hown, hts⟩ (w_spy l hlt g x0 m0 o0 k k t _ 1 (xs (i + 2)) (by first | exact Or.inl rfl | exact Or.inr rfl | assumption) ⟨_, _, _, _, _, rfl, hc, hm⟩ H.size) (vx_cwSW 4 hts gL_law_L_spy rfl rfl rfl (by decide +kernel) ⟨Nat.le_of_ble_eq_true rfl, Nat.le_of_ble_eq_true rfl⟩) (he_preS (wc := ([(x0, .inr (9, fx)), (m0, .inr (10, fm)), (o0, .inl (g.2 5, 1, .inr (.inl  fo)))] ++ (Rc ++ Rm))) hK hP hD hS hA hE (List.range (([(x0, .inr (9, fx)), (m0, .inr (10, fm)), (o0, .inl (g.2 5, 1, .inr (.inl  fo)))] ++ (Rc ++ Rm)) : va_W).length) (he_all _) (he_allnd _)) rfl rfl hl.1 rfl (lv_room (Nat.le_of_ble_eq_true rfl)) dL_law_989 ⟨(by show 1000 + 4 * i + 1 ≤ 1109424; omega), (by show 100000 + 700 * i + 6 ≤ 5767833; omega)⟩) hP hD hS hA (List.range (([(x0, .inr (9, fx)), (m0, .inr (10, fm)), (o0, .inl (g.2 5, 1, .inr (.inl  fo)))] ++ (Rc ++ Rm)) : va_W).length) [] (he_all _) rfl rfl (fun _ h9 => absurd h9 List.not_mem_nil) (fun r_15 u_16 H locs hu_17 hP hD hS => ?_)
    obtain ⟨hI9, hp989⟩ := hu_17
    obtain ⟨fx_q_18, fm_q_18, fo_q_18, Rc_q_18, Rm_q_18, rfl, hc, hm⟩ := hI9
    have hP : va_P g.1 vwCl ([(x0, .inr (9, fx_q_18)), (m0, .inr (10, fm_q_18)), (o0, .inl (g.2 5, 1, .inr (.inl  fo_q_18)))] ++ (Rc_q_18 ++ Rm_q_18)) H := hP
    have hD : va_D (lw_A s) ([(x0, .inr (9, fx_q_18)), (m0, .inr (10, fm_q_18)), (o0, .inl (g.2 5, 1, .inr (.inl  fo_q_18)))] ++ (Rc_q_18 ++ Rm_q_18)) := hD
    refine lv_istore (lv' := [(5, .int r_15), (0, .ref b), (1, .ref x0), (2, .ref m0), (3, .ref o0), (4, .int (nI i))]) hx hb dL_law_992 hl (by decide) rfl (fun ls hl => ?_)
    refine lv_aload_n hx hb dL_law_994 rfl (lv_at hl 3 rfl) ?_
    refine lv_aload_n hx hb dL_law_995 rfl (lv_at hl 1 rfl) ?_
    refine lv_iload hx hb dL_law_996 (lv_at hl 5 rfl) ?_
    refine lv_iconst (v := 1) hx hb dL_law_998 (by decide) ?_
    refine lv_iadd hx hb dL_law_999 ?_
    refine he_top (nI (i + 1)) (nI_add i 1) ?_
    refine he_sld hx hb hX hbl hbA hS (i + 1) rfl (by omega) (by omega) (xs (i + 1)) rfl dL_law_1000 ?_
    refine lv_if_eq (tgt := 1008) hx hb dL_law_1001 (by decide) (fun c_19 => ?_) (fun c_19 => ?_)
    · refine lv_iconst (v := 0) hx hb dL_law_1008 (by decide) ?_
      refine lv_aload_n hx hb dL_law_1009 rfl (lv_at hl 1 rfl) ?_
      refine lv_iload hx hb dL_law_1010 (lv_at hl 5 rfl) ?_
      refine lv_iconst (v := 2) hx hb dL_law_1012 (by decide) ?_
      refine lv_iadd hx hb dL_law_1013 ?_
      refine he_top (nI (i + 2)) (nI_add i 2) ?_
      refine he_sld hx hb hX hbl hbA hS (i + 2) rfl (by omega) (by omega) (xs (i + 2)) rfl dL_law_1014 ?_
      refine he_ci (wc := ([(x0, .inr (9, fx_q_18)), (m0, .inr (10, fm_q_18)), (o0, .inl (g.2 5, 1, .inr (.inl  fo_q_18)))] ++ (Rc_q_18 ++ Rm_q_18))) (wr := []) (va_runV (As := [.int 0, .int (xs (i + 2))]) (rest := []) ⟨hx, hb, hml, hown, hts⟩ (il_mI (j_spy l g m0 k t _ 0 (xs (i + 2)) (by first | exact Or.inl rfl | exact Or.inr rfl | assumption) hm) hc H.size) (cwV 2 hts gL_law_X11_spy rfl rfl rfl (by decide +kernel) ⟨Nat.le_of_ble_eq_true rfl, Nat.le_of_ble_eq_true rfl⟩) (he_preV (wc := ([(x0, .inr (9, fx_q_18)), (m0, .inr (10, fm_q_18)), (o0, .inl (g.2 5, 1, .inr (.inl  fo_q_18)))] ++ (Rc_q_18 ++ Rm_q_18))) hK hP hD hS hA hE (List.range (([(x0, .inr (9, fx_q_18)), (m0, .inr (10, fm_q_18)), (o0, .inl (g.2 5, 1, .inr (.inl  fo_q_18)))] ++ (Rc_q_18 ++ Rm_q_18)) : va_W).length) (he_all _) (he_allnd _) 1 rfl rfl) rfl rfl hl.1 rfl (lv_room (Nat.le_of_ble_eq_true rfl)) dL_law_1015 ⟨(by show 1000 + 4 * i + 1 + 0 ≤ 1109424; omega), (by show 100000 + 700 * i + 6 + 0 ≤ 5767833; omega)⟩) hP hD hS hA (List.range (([(x0, .inr (9, fx_q_18)), (m0, .inr (10, fm_q_18)), (o0, .inl (g.2 5, 1, .inr (.inl  fo_q_18)))] ++ (Rc_q_18 ++ Rm_q_18)) : va_W).length) [] (he_all _) rfl rfl (fun _ h9 => absurd h9 List.not_mem_nil) (fun r_20 u_21 H locs hu_22 hP hD hS => ?_)
      obtain ⟨t_1015, hI9, hm1015⟩ := hu_22
      obtain ⟨fx_q_23, fm_q_23, fo_q_23, Rc_q_23, Rm_q_23, rfl, hc, hm⟩ := hI9
      have hP : va_P g.1 vwCl ([(x0, .inr (9, fx_q_23)), (m0, .inr (10, fm_q_23)), (o0, .inl (g.2 5, 1, .inr (.inl  fo_q_23)))] ++ (Rc_q_23 ++ Rm_q_23)) H := hP
      have hD : va_D (lw_A s) ([(x0, .inr (9, fx_q_23)), (m0, .inr (10, fm_q_23)), (o0, .inl (g.2 5, 1, .inr (.inl  fo_q_23)))] ++ (Rc_q_23 ++ Rm_q_23)) := hD
      refine lv_istore (lv' := [(6, .int r_20), (5, .int r_15), (0, .ref b), (1, .ref x0), (2, .ref m0), (3, .ref o0), (4, .int (nI i))]) hx hb dL_law_1018 hl (by decide) rfl (fun ls hl => ?_)
      refine lv_goto (tgt := 1352) hx hb dL_law_1020 (by decide) ?_
      refine W.widen (k := 1000 + 4 * (i + 6)) (n := 100000 + 700 * (i + 6)) (by show 1000 + 4 * i + 1 + 0 ≤ 1000 + 4 * (i + 6); omega) (by show 100000 + 700 * i + 6 + 0 ≤ 100000 + 700 * (i + 6); omega) ?_
      exact kk k t_1015 _ H locs ls ⟨_, _, _, _, _, rfl, hc, hm⟩ hP hD hS (lv_sub hl [2, 3, 4, 5, 6] rfl)
    · refine lv_iconst (v := 1) hx hb dL_law_1004 (by decide) ?_
      refine lv_goto (tgt := 1009) hx hb dL_law_1005 (by decide) ?_
      refine lv_aload_n hx hb dL_law_1009 rfl (lv_at hl 1 rfl) ?_
      refine lv_iload hx hb dL_law_1010 (lv_at hl 5 rfl) ?_
      refine lv_iconst (v := 2) hx hb dL_law_1012 (by decide) ?_
      refine lv_iadd hx hb dL_law_1013 ?_
      refine he_top (nI (i + 2)) (nI_add i 2) ?_
      refine he_sld hx hb hX hbl hbA hS (i + 2) rfl (by omega) (by omega) (xs (i + 2)) rfl dL_law_1014 ?_
      refine he_ci (wc := ([(x0, .inr (9, fx_q_18)), (m0, .inr (10, fm_q_18)), (o0, .inl (g.2 5, 1, .inr (.inl  fo_q_18)))] ++ (Rc_q_18 ++ Rm_q_18))) (wr := []) (va_runV (As := [.int 1, .int (xs (i + 2))]) (rest := []) ⟨hx, hb, hml, hown, hts⟩ (il_mI (j_spy l g m0 k t _ 1 (xs (i + 2)) (by first | exact Or.inl rfl | exact Or.inr rfl | assumption) hm) hc H.size) (cwV 2 hts gL_law_X11_spy rfl rfl rfl (by decide +kernel) ⟨Nat.le_of_ble_eq_true rfl, Nat.le_of_ble_eq_true rfl⟩) (he_preV (wc := ([(x0, .inr (9, fx_q_18)), (m0, .inr (10, fm_q_18)), (o0, .inl (g.2 5, 1, .inr (.inl  fo_q_18)))] ++ (Rc_q_18 ++ Rm_q_18))) hK hP hD hS hA hE (List.range (([(x0, .inr (9, fx_q_18)), (m0, .inr (10, fm_q_18)), (o0, .inl (g.2 5, 1, .inr (.inl  fo_q_18)))] ++ (Rc_q_18 ++ Rm_q_18)) : va_W).length) (he_all _) (he_allnd _) 1 rfl rfl) rfl rfl hl.1 rfl (lv_room (Nat.le_of_ble_eq_true rfl)) dL_law_1015 ⟨(by show 1000 + 4 * i + 1 + 0 ≤ 1109424; omega), (by show 100000 + 700 * i + 6 + 0 ≤ 5767833; omega)⟩) hP hD hS hA (List.range (([(x0, .inr (9, fx_q_18)), (m0, .inr (10, fm_q_18)), (o0, .inl (g.2 5, 1, .inr (.inl  fo_q_18)))] ++ (Rc_q_18 ++ Rm_q_18)) : va_W).length) [] (he_all _) rfl rfl (fun _ h9 => absurd h9 List.not_mem_nil) (fun r_24 u_25 H locs hu_26 hP hD hS => ?_)
      obtain ⟨t_1015, hI9, hm1015⟩ := hu_26
      obtain ⟨fx_q_27, fm_q_27, fo_q_27, Rc_q_27, Rm_q_27, rfl, hc, hm⟩ := hI9
      have hP : va_P g.1 vwCl ([(x0, .inr (9, fx_q_27)), (m0, .inr (10, fm_q_27)), (o0, .inl (g.2 5, 1, .inr (.inl  fo_q_27)))] ++ (Rc_q_27 ++ Rm_q_27)) H := hP
      have hD : va_D (lw_A s) ([(x0, .inr (9, fx_q_27)), (m0, .inr (10, fm_q_27)), (o0, .inl (g.2 5, 1, .inr (.inl  fo_q_27)))] ++ (Rc_q_27 ++ Rm_q_27)) := hD
      refine lv_istore (lv' := [(6, .int r_24), (5, .int r_15), (0, .ref b), (1, .ref x0), (2, .ref m0), (3, .ref o0), (4, .int (nI i))]) hx hb dL_law_1018 hl (by decide) rfl (fun ls hl => ?_)
      refine lv_goto (tgt := 1352) hx hb dL_law_1020 (by decide) ?_
      refine W.widen (k := 1000 + 4 * (i + 6)) (n := 100000 + 700 * (i + 6)) (by show 1000 + 4 * i + 1 + 0 ≤ 1000 + 4 * (i + 6); omega) (by show 100000 + 700 * i + 6 + 0 ≤ 100000 + 700 * (i + 6); omega) ?_
      exact kk k t_1015 _ H locs ls ⟨_, _, _, _, _, rfl, hc, hm⟩ hP hD hS (lv_sub hl [2, 3, 4, 5, 6] rfl)
set_option maxHeartbeats 8000000 in
set_option maxRecDepth 100000 in
theorem lc_believed {p : Program} {e : Env} {s : State} {m : MethodId} {below : List Frame} {meth : Method} {c : Code} {Q : State → Prop} (l : Launch) (hlt : l.stackTraces = false) (g : he_G) {b Ln : Nat} {xs : Nat → Int32} (C0 : lw_C p s m meth c b Ln xs g) (i : Nat) (hi : i + 6 ≤ Ln) (hL : Ln ≤ 3072) (x0 m0 o0 k : Nat) (t : Int32) (W9 : va_W) (hI : IL g x0 m0 o0 k k t W9) {H : Heap} {locs : List Loc} {ls : Array Slot} (hP : va_P g.1 vwCl W9 H) (hD : va_D (lw_A s) W9) (hS : va_S (lw_A s) s.heap H locs) (hl : lv_has ls 8 [(0, .ref b), (1, .ref x0), (2, .ref m0), (3, .ref o0), (4, .int (nI i))]) (kk : ∀ (k2 : Nat) (t2 : Int32) (W2 : va_W) (H2 : Heap) (locs2 : List Loc) (ls2 : Array Slot), IL g x0 m0 o0 k2 k2 t2 W2 → va_P g.1 vwCl W2 H2 → va_D (lw_A s) W2 → va_S (lw_A s) s.heap H2 locs2 → lv_has ls2 8 [(0, .ref b), (1, .ref x0), (2, .ref m0), (3, .ref o0), (4, .int (nI i))] → W p l e room_1 s m #[Value.ref b] below meth c H2 locs2 (1000 + 4 * (i + 6)) (100000 + 700 * (i + 6)) Q (F0 m 1352 ls2 [])) : W p l e room_1 s m #[Value.ref b] below meth c H locs (1000 + 4 * i) (100000 + 700 * i) Q (F0 m 1023 ls []) := by
  obtain ⟨hx, hb, hr, hml, hown, hts, hX, hbl, hlk, hK, hE, hA, hbA, hNc⟩ := C0
  obtain ⟨fx, fm, fo, Rc, Rm, rfl, hc, hm⟩ := hI
  refine lv_aload_n hx hb dL_law_1023 rfl (lv_at hl 1 rfl) ?_
  refine lv_aload_n hx hb dL_law_1024 rfl (lv_at hl 0 rfl) ?_
  refine lv_iload hx hb dL_law_1025 (lv_at hl 4 rfl) ?_
  refine lv_iconst (v := 1) hx hb dL_law_1027 (by decide) ?_
  refine lv_iadd hx hb dL_law_1028 ?_
  refine he_top (nI (i + 1)) (nI_add i 1) ?_
  refine he_sld hx hb hX hbl hbA hS (i + 1) rfl (by omega) (by omega) (xs (i + 1)) rfl dL_law_1029 ?_
  refine lv_aload_n hx hb dL_law_1030 rfl (lv_at hl 3 rfl) ?_
  refine he_ci (wc := ([(x0, .inr (9, fx)), (m0, .inr (10, fm)), (o0, .inl (g.2 5, 1, .inr (.inl  fo)))] ++ (Rc ++ Rm))) (wr := []) (vx_runSW (As := [.ref x0, .int (xs (i + 1)), .ref o0]) (rest := []) ⟨hx, hb, hml, hown, hts⟩ (w_believed l hlt g x0 m0 o0 k k t _ (xs (i + 1)) ⟨_, _, _, _, _, rfl, hc, hm⟩ H.size) (vx_cwSW 3 hts gL_law_L_believed rfl rfl rfl (by decide +kernel) ⟨Nat.le_of_ble_eq_true rfl, Nat.le_of_ble_eq_true rfl⟩) (he_preS (wc := ([(x0, .inr (9, fx)), (m0, .inr (10, fm)), (o0, .inl (g.2 5, 1, .inr (.inl  fo)))] ++ (Rc ++ Rm))) hK hP hD hS hA hE (List.range (([(x0, .inr (9, fx)), (m0, .inr (10, fm)), (o0, .inl (g.2 5, 1, .inr (.inl  fo)))] ++ (Rc ++ Rm)) : va_W).length) (he_all _) (he_allnd _)) rfl rfl hl.1 rfl (lv_room (Nat.le_of_ble_eq_true rfl)) dL_law_1031 ⟨(by show 1000 + 4 * i + 1 ≤ 1109424; omega), (by show 100000 + 700 * i + 6 ≤ 5767833; omega)⟩) hP hD hS hA (List.range (([(x0, .inr (9, fx)), (m0, .inr (10, fm)), (o0, .inl (g.2 5, 1, .inr (.inl  fo)))] ++ (Rc ++ Rm)) : va_W).length) [] (he_all _) rfl rfl (fun _ h9 => absurd h9 List.not_mem_nil) (fun r_1 u_2 H locs hu_3 hP hD hS => ?_)
  obtain ⟨hI9, hp1031⟩ := hu_3
  obtain ⟨fx_q_4, fm_q_4, fo_q_4, Rc_q_4, Rm_q_4, rfl, hc, hm⟩ := hI9
  have hP : va_P g.1 vwCl ([(x0, .inr (9, fx_q_4)), (m0, .inr (10, fm_q_4)), (o0, .inl (g.2 5, 1, .inr (.inl  fo_q_4)))] ++ (Rc_q_4 ++ Rm_q_4)) H := hP
  have hD : va_D (lw_A s) ([(x0, .inr (9, fx_q_4)), (m0, .inr (10, fm_q_4)), (o0, .inl (g.2 5, 1, .inr (.inl  fo_q_4)))] ++ (Rc_q_4 ++ Rm_q_4)) := hD
  refine lv_istore (lv' := [(5, .int r_1), (0, .ref b), (1, .ref x0), (2, .ref m0), (3, .ref o0), (4, .int (nI i))]) hx hb dL_law_1034 hl (by decide) rfl (fun ls hl => ?_)
  refine lv_aload_n hx hb dL_law_1036 rfl (lv_at hl 3 rfl) ?_
  refine lv_aload_n hx hb dL_law_1037 rfl (lv_at hl 1 rfl) ?_
  refine lv_iload hx hb dL_law_1038 (lv_at hl 5 rfl) ?_
  refine lv_iconst (v := 1) hx hb dL_law_1040 (by decide) ?_
  refine lv_iadd hx hb dL_law_1041 ?_
  refine he_top (nI (i + 1)) (nI_add i 1) ?_
  refine he_sld hx hb hX hbl hbA hS (i + 1) rfl (by omega) (by omega) (xs (i + 1)) rfl dL_law_1042 ?_
  refine he_cj (wc := ([(x0, .inr (9, fx_q_4)), (m0, .inr (10, fm_q_4)), (o0, .inl (g.2 5, 1, .inr (.inl  fo_q_4)))] ++ (Rc_q_4 ++ Rm_q_4))) (wr := []) (va_runV (As := [.int (xs (i + 1))]) (rest := []) ⟨hx, hb, hml, hown, hts⟩ (il_mJ (j_believed l g m0 k t _ (xs (i + 1)) hm) hc H.size) (cwV 1 hts gL_law_X11_believed rfl rfl rfl (by decide +kernel) ⟨Nat.le_of_ble_eq_true rfl, Nat.le_of_ble_eq_true rfl⟩) (he_preV (wc := ([(x0, .inr (9, fx_q_4)), (m0, .inr (10, fm_q_4)), (o0, .inl (g.2 5, 1, .inr (.inl  fo_q_4)))] ++ (Rc_q_4 ++ Rm_q_4))) hK hP hD hS hA hE (List.range (([(x0, .inr (9, fx_q_4)), (m0, .inr (10, fm_q_4)), (o0, .inl (g.2 5, 1, .inr (.inl  fo_q_4)))] ++ (Rc_q_4 ++ Rm_q_4)) : va_W).length) (he_all _) (he_allnd _) 1 rfl rfl) rfl rfl hl.1 rfl (lv_room (Nat.le_of_ble_eq_true rfl)) dL_law_1043 ⟨(by show 1000 + 4 * i + 1 + 0 ≤ 1109424; omega), (by show 100000 + 700 * i + 6 + 0 ≤ 5767833; omega)⟩) hP hD hS hA (List.range (([(x0, .inr (9, fx_q_4)), (m0, .inr (10, fm_q_4)), (o0, .inl (g.2 5, 1, .inr (.inl  fo_q_4)))] ++ (Rc_q_4 ++ Rm_q_4)) : va_W).length) [] (he_all _) rfl rfl (fun _ h9 => absurd h9 List.not_mem_nil) (fun r_5 u_6 H locs hu_7 hP hD hS => ?_)
  obtain ⟨t_1043, hI9, hm1043⟩ := hu_7
  obtain ⟨fx_q_8, fm_q_8, fo_q_8, Rc_q_8, Rm_q_8, rfl, hc, hm⟩ := hI9
  have hP : va_P g.1 vwCl ([(x0, .inr (9, fx_q_8)), (m0, .inr (10, fm_q_8)), (o0, .inl (g.2 5, 1, .inr (.inl  fo_q_8)))] ++ (Rc_q_8 ++ Rm_q_8)) H := hP
  have hD : va_D (lw_A s) ([(x0, .inr (9, fx_q_8)), (m0, .inr (10, fm_q_8)), (o0, .inl (g.2 5, 1, .inr (.inl  fo_q_8)))] ++ (Rc_q_8 ++ Rm_q_8)) := hD
  refine lv_lstore (lv' := [(6, .long r_5), (5, .int r_1), (0, .ref b), (1, .ref x0), (2, .ref m0), (3, .ref o0), (4, .int (nI i))]) hx hb dL_law_1046 hl (by decide) rfl (fun ls hl => ?_)
  refine lv_goto (tgt := 1352) hx hb dL_law_1048 (by decide) ?_
  refine W.widen (k := 1000 + 4 * (i + 6)) (n := 100000 + 700 * (i + 6)) (by show 1000 + 4 * i + 1 + 0 ≤ 1000 + 4 * (i + 6); omega) (by show 100000 + 700 * i + 6 + 0 ≤ 100000 + 700 * (i + 6); omega) ?_
  exact kk k t_1043 _ H locs ls ⟨_, _, _, _, _, rfl, hc, hm⟩ hP hD hS (lv_sub hl [2, 3, 4, 5, 6] rfl)
set_option maxHeartbeats 8000000 in
set_option maxRecDepth 100000 in
theorem lc_earnest {p : Program} {e : Env} {s : State} {m : MethodId} {below : List Frame} {meth : Method} {c : Code} {Q : State → Prop} (l : Launch) (hlt : l.stackTraces = false) (g : he_G) {b Ln : Nat} {xs : Nat → Int32} (C0 : lw_C p s m meth c b Ln xs g) (i : Nat) (hi : i + 6 ≤ Ln) (hL : Ln ≤ 3072) (x0 m0 o0 k : Nat) (t : Int32) (W9 : va_W) (hI : IL g x0 m0 o0 k k t W9) {H : Heap} {locs : List Loc} {ls : Array Slot} (hP : va_P g.1 vwCl W9 H) (hD : va_D (lw_A s) W9) (hS : va_S (lw_A s) s.heap H locs) (hl : lv_has ls 8 [(0, .ref b), (1, .ref x0), (2, .ref m0), (3, .ref o0), (4, .int (nI i))]) (kk : ∀ (k2 : Nat) (t2 : Int32) (W2 : va_W) (H2 : Heap) (locs2 : List Loc) (ls2 : Array Slot), IL g x0 m0 o0 k2 k2 t2 W2 → va_P g.1 vwCl W2 H2 → va_D (lw_A s) W2 → va_S (lw_A s) s.heap H2 locs2 → lv_has ls2 8 [(0, .ref b), (1, .ref x0), (2, .ref m0), (3, .ref o0), (4, .int (nI i))] → W p l e room_1 s m #[Value.ref b] below meth c H2 locs2 (1000 + 4 * (i + 6)) (100000 + 700 * (i + 6)) Q (F0 m 1352 ls2 [])) : W p l e room_1 s m #[Value.ref b] below meth c H locs (1000 + 4 * i) (100000 + 700 * i) Q (F0 m 1051 ls []) := by
  obtain ⟨hx, hb, hr, hml, hown, hts, hX, hbl, hlk, hK, hE, hA, hbA, hNc⟩ := C0
  obtain ⟨fx, fm, fo, Rc, Rm, rfl, hc, hm⟩ := hI
  refine lv_aload_n hx hb dL_law_1051 rfl (lv_at hl 1 rfl) ?_
  refine lv_aload_n hx hb dL_law_1052 rfl (lv_at hl 0 rfl) ?_
  refine lv_iload hx hb dL_law_1053 (lv_at hl 4 rfl) ?_
  refine lv_iconst (v := 1) hx hb dL_law_1055 (by decide) ?_
  refine lv_iadd hx hb dL_law_1056 ?_
  refine he_top (nI (i + 1)) (nI_add i 1) ?_
  refine he_sld hx hb hX hbl hbA hS (i + 1) rfl (by omega) (by omega) (xs (i + 1)) rfl dL_law_1057 ?_
  refine lv_aload_n hx hb dL_law_1058 rfl (lv_at hl 0 rfl) ?_
  refine lv_iload hx hb dL_law_1059 (lv_at hl 4 rfl) ?_
  refine lv_iconst (v := 2) hx hb dL_law_1061 (by decide) ?_
  refine lv_iadd hx hb dL_law_1062 ?_
  refine he_top (nI (i + 2)) (nI_add i 2) ?_
  refine he_sld hx hb hX hbl hbA hS (i + 2) rfl (by omega) (by omega) (xs (i + 2)) rfl dL_law_1063 ?_
  refine lv_aload_n hx hb dL_law_1064 rfl (lv_at hl 0 rfl) ?_
  refine lv_iload hx hb dL_law_1065 (lv_at hl 4 rfl) ?_
  refine lv_iconst (v := 3) hx hb dL_law_1067 (by decide) ?_
  refine lv_iadd hx hb dL_law_1068 ?_
  refine he_top (nI (i + 3)) (nI_add i 3) ?_
  refine he_sld hx hb hX hbl hbA hS (i + 3) rfl (by omega) (by omega) (xs (i + 3)) rfl dL_law_1069 ?_
  refine lv_aload_n hx hb dL_law_1070 rfl (lv_at hl 3 rfl) ?_
  refine he_ci (wc := ([(x0, .inr (9, fx)), (m0, .inr (10, fm)), (o0, .inl (g.2 5, 1, .inr (.inl  fo)))] ++ (Rc ++ Rm))) (wr := []) (vx_runSW (As := [.ref x0, .int (xs (i + 1)), .int (xs (i + 2)), .int (xs (i + 3)), .ref o0]) (rest := []) ⟨hx, hb, hml, hown, hts⟩ (w_earnest l hlt g x0 m0 o0 k k t _ (xs (i + 1)) (xs (i + 2)) (xs (i + 3)) ⟨_, _, _, _, _, rfl, hc, hm⟩ H.size) (vx_cwSW 5 hts gL_law_L_earnest rfl rfl rfl (by decide +kernel) ⟨Nat.le_of_ble_eq_true rfl, Nat.le_of_ble_eq_true rfl⟩) (he_preS (wc := ([(x0, .inr (9, fx)), (m0, .inr (10, fm)), (o0, .inl (g.2 5, 1, .inr (.inl  fo)))] ++ (Rc ++ Rm))) hK hP hD hS hA hE (List.range (([(x0, .inr (9, fx)), (m0, .inr (10, fm)), (o0, .inl (g.2 5, 1, .inr (.inl  fo)))] ++ (Rc ++ Rm)) : va_W).length) (he_all _) (he_allnd _)) rfl rfl hl.1 rfl (lv_room (Nat.le_of_ble_eq_true rfl)) dL_law_1071 ⟨(by show 1000 + 4 * i + 1 ≤ 1109424; omega), (by show 100000 + 700 * i + 6 ≤ 5767833; omega)⟩) hP hD hS hA (List.range (([(x0, .inr (9, fx)), (m0, .inr (10, fm)), (o0, .inl (g.2 5, 1, .inr (.inl  fo)))] ++ (Rc ++ Rm)) : va_W).length) [] (he_all _) rfl rfl (fun _ h9 => absurd h9 List.not_mem_nil) (fun r_1 u_2 H locs hu_3 hP hD hS => ?_)
  obtain ⟨hI9, hp1071⟩ := hu_3
  obtain ⟨fx_q_4, fm_q_4, fo_q_4, Rc_q_4, Rm_q_4, rfl, hc, hm⟩ := hI9
  have hP : va_P g.1 vwCl ([(x0, .inr (9, fx_q_4)), (m0, .inr (10, fm_q_4)), (o0, .inl (g.2 5, 1, .inr (.inl  fo_q_4)))] ++ (Rc_q_4 ++ Rm_q_4)) H := hP
  have hD : va_D (lw_A s) ([(x0, .inr (9, fx_q_4)), (m0, .inr (10, fm_q_4)), (o0, .inl (g.2 5, 1, .inr (.inl  fo_q_4)))] ++ (Rc_q_4 ++ Rm_q_4)) := hD
  refine lv_istore (lv' := [(5, .int r_1), (0, .ref b), (1, .ref x0), (2, .ref m0), (3, .ref o0), (4, .int (nI i))]) hx hb dL_law_1074 hl (by decide) rfl (fun ls hl => ?_)
  refine lv_aload_n hx hb dL_law_1076 rfl (lv_at hl 3 rfl) ?_
  refine lv_aload_n hx hb dL_law_1077 rfl (lv_at hl 1 rfl) ?_
  refine lv_iload hx hb dL_law_1078 (lv_at hl 5 rfl) ?_
  refine lv_iconst (v := 1) hx hb dL_law_1080 (by decide) ?_
  refine lv_iadd hx hb dL_law_1081 ?_
  refine he_top (nI (i + 1)) (nI_add i 1) ?_
  refine he_sld hx hb hX hbl hbA hS (i + 1) rfl (by omega) (by omega) (xs (i + 1)) rfl dL_law_1082 ?_
  refine lv_aload_n hx hb dL_law_1083 rfl (lv_at hl 1 rfl) ?_
  refine lv_iload hx hb dL_law_1084 (lv_at hl 5 rfl) ?_
  refine lv_iconst (v := 2) hx hb dL_law_1086 (by decide) ?_
  refine lv_iadd hx hb dL_law_1087 ?_
  refine he_top (nI (i + 2)) (nI_add i 2) ?_
  refine he_sld hx hb hX hbl hbA hS (i + 2) rfl (by omega) (by omega) (xs (i + 2)) rfl dL_law_1088 ?_
  refine lv_aload_n hx hb dL_law_1089 rfl (lv_at hl 1 rfl) ?_
  refine lv_iload hx hb dL_law_1090 (lv_at hl 5 rfl) ?_
  refine lv_iconst (v := 3) hx hb dL_law_1092 (by decide) ?_
  refine lv_iadd hx hb dL_law_1093 ?_
  refine he_top (nI (i + 3)) (nI_add i 3) ?_
  refine he_sld hx hb hX hbl hbA hS (i + 3) rfl (by omega) (by omega) (xs (i + 3)) rfl dL_law_1094 ?_
  refine he_ci (wc := ([(x0, .inr (9, fx_q_4)), (m0, .inr (10, fm_q_4)), (o0, .inl (g.2 5, 1, .inr (.inl  fo_q_4)))] ++ (Rc_q_4 ++ Rm_q_4))) (wr := []) (va_runV (As := [.int (xs (i + 1)), .int (xs (i + 2)), .int (xs (i + 3))]) (rest := []) ⟨hx, hb, hml, hown, hts⟩ (il_mI (j_earnest l g m0 k t _ (xs (i + 1)) (xs (i + 2)) (xs (i + 3)) hm) hc H.size) (cwV 3 hts gL_law_X11_earnest rfl rfl rfl (by decide +kernel) ⟨Nat.le_of_ble_eq_true rfl, Nat.le_of_ble_eq_true rfl⟩) (he_preV (wc := ([(x0, .inr (9, fx_q_4)), (m0, .inr (10, fm_q_4)), (o0, .inl (g.2 5, 1, .inr (.inl  fo_q_4)))] ++ (Rc_q_4 ++ Rm_q_4))) hK hP hD hS hA hE (List.range (([(x0, .inr (9, fx_q_4)), (m0, .inr (10, fm_q_4)), (o0, .inl (g.2 5, 1, .inr (.inl  fo_q_4)))] ++ (Rc_q_4 ++ Rm_q_4)) : va_W).length) (he_all _) (he_allnd _) 1 rfl rfl) rfl rfl hl.1 rfl (lv_room (Nat.le_of_ble_eq_true rfl)) dL_law_1095 ⟨(by show 1000 + 4 * i + 1 + 0 ≤ 1109424; omega), (by show 100000 + 700 * i + 6 + 0 ≤ 5767833; omega)⟩) hP hD hS hA (List.range (([(x0, .inr (9, fx_q_4)), (m0, .inr (10, fm_q_4)), (o0, .inl (g.2 5, 1, .inr (.inl  fo_q_4)))] ++ (Rc_q_4 ++ Rm_q_4)) : va_W).length) [] (he_all _) rfl rfl (fun _ h9 => absurd h9 List.not_mem_nil) (fun r_5 u_6 H locs hu_7 hP hD hS => ?_)
  obtain ⟨t_1095, hI9, hm1095⟩ := hu_7
  obtain ⟨fx_q_8, fm_q_8, fo_q_8, Rc_q_8, Rm_q_8, rfl, hc, hm⟩ := hI9
  have hP : va_P g.1 vwCl ([(x0, .inr (9, fx_q_8)), (m0, .inr (10, fm_q_8)), (o0, .inl (g.2 5, 1, .inr (.inl  fo_q_8)))] ++ (Rc_q_8 ++ Rm_q_8)) H := hP
  have hD : va_D (lw_A s) ([(x0, .inr (9, fx_q_8)), (m0, .inr (10, fm_q_8)), (o0, .inl (g.2 5, 1, .inr (.inl  fo_q_8)))] ++ (Rc_q_8 ++ Rm_q_8)) := hD
  refine lv_istore (lv' := [(6, .int r_5), (5, .int r_1), (0, .ref b), (1, .ref x0), (2, .ref m0), (3, .ref o0), (4, .int (nI i))]) hx hb dL_law_1098 hl (by decide) rfl (fun ls hl => ?_)
  refine lv_goto (tgt := 1352) hx hb dL_law_1100 (by decide) ?_
  refine W.widen (k := 1000 + 4 * (i + 6)) (n := 100000 + 700 * (i + 6)) (by show 1000 + 4 * i + 1 + 0 ≤ 1000 + 4 * (i + 6); omega) (by show 100000 + 700 * i + 6 + 0 ≤ 100000 + 700 * (i + 6); omega) ?_
  exact kk k t_1095 _ H locs ls ⟨_, _, _, _, _, rfl, hc, hm⟩ hP hD hS (lv_sub hl [2, 3, 4, 5, 6] rfl)
set_option maxHeartbeats 8000000 in
set_option maxRecDepth 100000 in
theorem lc_stands {p : Program} {e : Env} {s : State} {m : MethodId} {below : List Frame} {meth : Method} {c : Code} {Q : State → Prop} (l : Launch) (hlt : l.stackTraces = false) (g : he_G) {b Ln : Nat} {xs : Nat → Int32} (C0 : lw_C p s m meth c b Ln xs g) (i : Nat) (hi : i + 6 ≤ Ln) (hL : Ln ≤ 3072) (x0 m0 o0 k : Nat) (t : Int32) (W9 : va_W) (hI : IL g x0 m0 o0 k k t W9) {H : Heap} {locs : List Loc} {ls : Array Slot} (hP : va_P g.1 vwCl W9 H) (hD : va_D (lw_A s) W9) (hS : va_S (lw_A s) s.heap H locs) (hl : lv_has ls 8 [(0, .ref b), (1, .ref x0), (2, .ref m0), (3, .ref o0), (4, .int (nI i))]) (kk : ∀ (k2 : Nat) (t2 : Int32) (W2 : va_W) (H2 : Heap) (locs2 : List Loc) (ls2 : Array Slot), IL g x0 m0 o0 k2 k2 t2 W2 → va_P g.1 vwCl W2 H2 → va_D (lw_A s) W2 → va_S (lw_A s) s.heap H2 locs2 → lv_has ls2 8 [(0, .ref b), (1, .ref x0), (2, .ref m0), (3, .ref o0), (4, .int (nI i))] → W p l e room_1 s m #[Value.ref b] below meth c H2 locs2 (1000 + 4 * (i + 6)) (100000 + 700 * (i + 6)) Q (F0 m 1352 ls2 [])) : W p l e room_1 s m #[Value.ref b] below meth c H locs (1000 + 4 * i) (100000 + 700 * i) Q (F0 m 1103 ls []) := by
  obtain ⟨hx, hb, hr, hml, hown, hts, hX, hbl, hlk, hK, hE, hA, hbA, hNc⟩ := C0
  obtain ⟨fx, fm, fo, Rc, Rm, rfl, hc, hm⟩ := hI
  refine lv_aload_n hx hb dL_law_1103 rfl (lv_at hl 1 rfl) ?_
  refine lv_aload_n hx hb dL_law_1104 rfl (lv_at hl 0 rfl) ?_
  refine lv_iload hx hb dL_law_1105 (lv_at hl 4 rfl) ?_
  refine lv_iconst (v := 1) hx hb dL_law_1107 (by decide) ?_
  refine lv_iadd hx hb dL_law_1108 ?_
  refine he_top (nI (i + 1)) (nI_add i 1) ?_
  refine he_sld hx hb hX hbl hbA hS (i + 1) rfl (by omega) (by omega) (xs (i + 1)) rfl dL_law_1109 ?_
  refine lv_aload_n hx hb dL_law_1110 rfl (lv_at hl 0 rfl) ?_
  refine lv_iload hx hb dL_law_1111 (lv_at hl 4 rfl) ?_
  refine lv_iconst (v := 2) hx hb dL_law_1113 (by decide) ?_
  refine lv_iadd hx hb dL_law_1114 ?_
  refine he_top (nI (i + 2)) (nI_add i 2) ?_
  refine he_sld hx hb hX hbl hbA hS (i + 2) rfl (by omega) (by omega) (xs (i + 2)) rfl dL_law_1115 ?_
  refine lv_aload_n hx hb dL_law_1116 rfl (lv_at hl 3 rfl) ?_
  refine he_ci (wc := ([(x0, .inr (9, fx)), (m0, .inr (10, fm)), (o0, .inl (g.2 5, 1, .inr (.inl  fo)))] ++ (Rc ++ Rm))) (wr := []) (vx_runSW (As := [.ref x0, .int (xs (i + 1)), .int (xs (i + 2)), .ref o0]) (rest := []) ⟨hx, hb, hml, hown, hts⟩ (w_stands l hlt g x0 m0 o0 k k t _ (xs (i + 1)) (xs (i + 2)) ⟨_, _, _, _, _, rfl, hc, hm⟩ H.size) (vx_cwSW 4 hts gL_law_L_stands rfl rfl rfl (by decide +kernel) ⟨Nat.le_of_ble_eq_true rfl, Nat.le_of_ble_eq_true rfl⟩) (he_preS (wc := ([(x0, .inr (9, fx)), (m0, .inr (10, fm)), (o0, .inl (g.2 5, 1, .inr (.inl  fo)))] ++ (Rc ++ Rm))) hK hP hD hS hA hE (List.range (([(x0, .inr (9, fx)), (m0, .inr (10, fm)), (o0, .inl (g.2 5, 1, .inr (.inl  fo)))] ++ (Rc ++ Rm)) : va_W).length) (he_all _) (he_allnd _)) rfl rfl hl.1 rfl (lv_room (Nat.le_of_ble_eq_true rfl)) dL_law_1117 ⟨(by show 1000 + 4 * i + 1 ≤ 1109424; omega), (by show 100000 + 700 * i + 6 ≤ 5767833; omega)⟩) hP hD hS hA (List.range (([(x0, .inr (9, fx)), (m0, .inr (10, fm)), (o0, .inl (g.2 5, 1, .inr (.inl  fo)))] ++ (Rc ++ Rm)) : va_W).length) [] (he_all _) rfl rfl (fun _ h9 => absurd h9 List.not_mem_nil) (fun r_1 u_2 H locs hu_3 hP hD hS => ?_)
  obtain ⟨hI9, hp1117⟩ := hu_3
  obtain ⟨fx_q_4, fm_q_4, fo_q_4, Rc_q_4, Rm_q_4, rfl, hc, hm⟩ := hI9
  have hP : va_P g.1 vwCl ([(x0, .inr (9, fx_q_4)), (m0, .inr (10, fm_q_4)), (o0, .inl (g.2 5, 1, .inr (.inl  fo_q_4)))] ++ (Rc_q_4 ++ Rm_q_4)) H := hP
  have hD : va_D (lw_A s) ([(x0, .inr (9, fx_q_4)), (m0, .inr (10, fm_q_4)), (o0, .inl (g.2 5, 1, .inr (.inl  fo_q_4)))] ++ (Rc_q_4 ++ Rm_q_4)) := hD
  refine lv_istore (lv' := [(5, .int r_1), (0, .ref b), (1, .ref x0), (2, .ref m0), (3, .ref o0), (4, .int (nI i))]) hx hb dL_law_1120 hl (by decide) rfl (fun ls hl => ?_)
  refine lv_aload_n hx hb dL_law_1122 rfl (lv_at hl 3 rfl) ?_
  refine lv_aload_n hx hb dL_law_1123 rfl (lv_at hl 1 rfl) ?_
  refine lv_iload hx hb dL_law_1124 (lv_at hl 5 rfl) ?_
  refine lv_iconst (v := 1) hx hb dL_law_1126 (by decide) ?_
  refine lv_iadd hx hb dL_law_1127 ?_
  refine he_top (nI (i + 1)) (nI_add i 1) ?_
  refine he_sld hx hb hX hbl hbA hS (i + 1) rfl (by omega) (by omega) (xs (i + 1)) rfl dL_law_1128 ?_
  refine lv_aload_n hx hb dL_law_1129 rfl (lv_at hl 1 rfl) ?_
  refine lv_iload hx hb dL_law_1130 (lv_at hl 5 rfl) ?_
  refine lv_iconst (v := 2) hx hb dL_law_1132 (by decide) ?_
  refine lv_iadd hx hb dL_law_1133 ?_
  refine he_top (nI (i + 2)) (nI_add i 2) ?_
  refine he_sld hx hb hX hbl hbA hS (i + 2) rfl (by omega) (by omega) (xs (i + 2)) rfl dL_law_1134 ?_
  refine he_ci (wc := ([(x0, .inr (9, fx_q_4)), (m0, .inr (10, fm_q_4)), (o0, .inl (g.2 5, 1, .inr (.inl  fo_q_4)))] ++ (Rc_q_4 ++ Rm_q_4))) (wr := []) (va_runV (As := [.int (xs (i + 1)), .int (xs (i + 2))]) (rest := []) ⟨hx, hb, hml, hown, hts⟩ (il_mI (j_stands l g m0 k t _ (xs (i + 1)) (xs (i + 2)) hm) hc H.size) (cwV 2 hts gL_law_X11_stands rfl rfl rfl (by decide +kernel) ⟨Nat.le_of_ble_eq_true rfl, Nat.le_of_ble_eq_true rfl⟩) (he_preV (wc := ([(x0, .inr (9, fx_q_4)), (m0, .inr (10, fm_q_4)), (o0, .inl (g.2 5, 1, .inr (.inl  fo_q_4)))] ++ (Rc_q_4 ++ Rm_q_4))) hK hP hD hS hA hE (List.range (([(x0, .inr (9, fx_q_4)), (m0, .inr (10, fm_q_4)), (o0, .inl (g.2 5, 1, .inr (.inl  fo_q_4)))] ++ (Rc_q_4 ++ Rm_q_4)) : va_W).length) (he_all _) (he_allnd _) 1 rfl rfl) rfl rfl hl.1 rfl (lv_room (Nat.le_of_ble_eq_true rfl)) dL_law_1135 ⟨(by show 1000 + 4 * i + 1 + 0 ≤ 1109424; omega), (by show 100000 + 700 * i + 6 + 0 ≤ 5767833; omega)⟩) hP hD hS hA (List.range (([(x0, .inr (9, fx_q_4)), (m0, .inr (10, fm_q_4)), (o0, .inl (g.2 5, 1, .inr (.inl  fo_q_4)))] ++ (Rc_q_4 ++ Rm_q_4)) : va_W).length) [] (he_all _) rfl rfl (fun _ h9 => absurd h9 List.not_mem_nil) (fun r_5 u_6 H locs hu_7 hP hD hS => ?_)
  obtain ⟨t_1135, hI9, hm1135⟩ := hu_7
  obtain ⟨fx_q_8, fm_q_8, fo_q_8, Rc_q_8, Rm_q_8, rfl, hc, hm⟩ := hI9
  have hP : va_P g.1 vwCl ([(x0, .inr (9, fx_q_8)), (m0, .inr (10, fm_q_8)), (o0, .inl (g.2 5, 1, .inr (.inl  fo_q_8)))] ++ (Rc_q_8 ++ Rm_q_8)) H := hP
  have hD : va_D (lw_A s) ([(x0, .inr (9, fx_q_8)), (m0, .inr (10, fm_q_8)), (o0, .inl (g.2 5, 1, .inr (.inl  fo_q_8)))] ++ (Rc_q_8 ++ Rm_q_8)) := hD
  refine lv_istore (lv' := [(6, .int r_5), (5, .int r_1), (0, .ref b), (1, .ref x0), (2, .ref m0), (3, .ref o0), (4, .int (nI i))]) hx hb dL_law_1138 hl (by decide) rfl (fun ls hl => ?_)
  refine lv_goto (tgt := 1352) hx hb dL_law_1140 (by decide) ?_
  refine W.widen (k := 1000 + 4 * (i + 6)) (n := 100000 + 700 * (i + 6)) (by show 1000 + 4 * i + 1 + 0 ≤ 1000 + 4 * (i + 6); omega) (by show 100000 + 700 * i + 6 + 0 ≤ 100000 + 700 * (i + 6); omega) ?_
  exact kk k t_1135 _ H locs ls ⟨_, _, _, _, _, rfl, hc, hm⟩ hP hD hS (lv_sub hl [2, 3, 4, 5, 6] rfl)
set_option maxHeartbeats 8000000 in
set_option maxRecDepth 100000 in
theorem lc_show {p : Program} {e : Env} {s : State} {m : MethodId} {below : List Frame} {meth : Method} {c : Code} {Q : State → Prop} (l : Launch) (hlt : l.stackTraces = false) (g : he_G) {b Ln : Nat} {xs : Nat → Int32} (C0 : lw_C p s m meth c b Ln xs g) (i : Nat) (hi : i + 6 ≤ Ln) (hL : Ln ≤ 3072) (x0 m0 o0 k : Nat) (t : Int32) (W9 : va_W) (hI : IL g x0 m0 o0 k k t W9) {H : Heap} {locs : List Loc} {ls : Array Slot} (hP : va_P g.1 vwCl W9 H) (hD : va_D (lw_A s) W9) (hS : va_S (lw_A s) s.heap H locs) (hl : lv_has ls 8 [(0, .ref b), (1, .ref x0), (2, .ref m0), (3, .ref o0), (4, .int (nI i))]) (kk : ∀ (k2 : Nat) (t2 : Int32) (W2 : va_W) (H2 : Heap) (locs2 : List Loc) (ls2 : Array Slot), IL g x0 m0 o0 k2 k2 t2 W2 → va_P g.1 vwCl W2 H2 → va_D (lw_A s) W2 → va_S (lw_A s) s.heap H2 locs2 → lv_has ls2 8 [(0, .ref b), (1, .ref x0), (2, .ref m0), (3, .ref o0), (4, .int (nI i))] → W p l e room_1 s m #[Value.ref b] below meth c H2 locs2 (1000 + 4 * (i + 6)) (100000 + 700 * (i + 6)) Q (F0 m 1352 ls2 [])) : W p l e room_1 s m #[Value.ref b] below meth c H locs (1000 + 4 * i) (100000 + 700 * i) Q (F0 m 1143 ls []) := by
  obtain ⟨hx, hb, hr, hml, hown, hts, hX, hbl, hlk, hK, hE, hA, hbA, hNc⟩ := C0
  obtain ⟨fx, fm, fo, Rc, Rm, rfl, hc, hm⟩ := hI
  refine lv_aload_n hx hb dL_law_1143 rfl (lv_at hl 1 rfl) ?_
  refine lv_aload_n hx hb dL_law_1144 rfl (lv_at hl 0 rfl) ?_
  refine lv_iload hx hb dL_law_1145 (lv_at hl 4 rfl) ?_
  refine lv_iconst (v := 1) hx hb dL_law_1147 (by decide) ?_
  refine lv_iadd hx hb dL_law_1148 ?_
  refine he_top (nI (i + 1)) (nI_add i 1) ?_
  refine he_sld hx hb hX hbl hbA hS (i + 1) rfl (by omega) (by omega) (xs (i + 1)) rfl dL_law_1149 ?_
  refine lv_aload_n hx hb dL_law_1150 rfl (lv_at hl 0 rfl) ?_
  refine lv_iload hx hb dL_law_1151 (lv_at hl 4 rfl) ?_
  refine lv_iconst (v := 2) hx hb dL_law_1153 (by decide) ?_
  refine lv_iadd hx hb dL_law_1154 ?_
  refine he_top (nI (i + 2)) (nI_add i 2) ?_
  refine he_sld hx hb hX hbl hbA hS (i + 2) rfl (by omega) (by omega) (xs (i + 2)) rfl dL_law_1155 ?_
  refine lv_aload_n hx hb dL_law_1156 rfl (lv_at hl 3 rfl) ?_
  refine he_ci (wc := ([(x0, .inr (9, fx)), (m0, .inr (10, fm)), (o0, .inl (g.2 5, 1, .inr (.inl  fo)))] ++ (Rc ++ Rm))) (wr := []) (vx_runSW (As := [.ref x0, .int (xs (i + 1)), .int (xs (i + 2)), .ref o0]) (rest := []) ⟨hx, hb, hml, hown, hts⟩ (w_show l hlt g x0 m0 o0 k k t _ (xs (i + 1)) (xs (i + 2)) ⟨_, _, _, _, _, rfl, hc, hm⟩ H.size) (vx_cwSW 4 hts gL_law_L_show rfl rfl rfl (by decide +kernel) ⟨Nat.le_of_ble_eq_true rfl, Nat.le_of_ble_eq_true rfl⟩) (he_preS (wc := ([(x0, .inr (9, fx)), (m0, .inr (10, fm)), (o0, .inl (g.2 5, 1, .inr (.inl  fo)))] ++ (Rc ++ Rm))) hK hP hD hS hA hE (List.range (([(x0, .inr (9, fx)), (m0, .inr (10, fm)), (o0, .inl (g.2 5, 1, .inr (.inl  fo)))] ++ (Rc ++ Rm)) : va_W).length) (he_all _) (he_allnd _)) rfl rfl hl.1 rfl (lv_room (Nat.le_of_ble_eq_true rfl)) dL_law_1157 ⟨(by show 1000 + 4 * i + 1 ≤ 1109424; omega), (by show 100000 + 700 * i + 6 ≤ 5767833; omega)⟩) hP hD hS hA (List.range (([(x0, .inr (9, fx)), (m0, .inr (10, fm)), (o0, .inl (g.2 5, 1, .inr (.inl  fo)))] ++ (Rc ++ Rm)) : va_W).length) [] (he_all _) rfl rfl (fun _ h9 => absurd h9 List.not_mem_nil) (fun r_1 u_2 H locs hu_3 hP hD hS => ?_)
  obtain ⟨hI9, hp1157⟩ := hu_3
  obtain ⟨fx_q_4, fm_q_4, fo_q_4, Rc_q_4, Rm_q_4, rfl, hc, hm⟩ := hI9
  have hP : va_P g.1 vwCl ([(x0, .inr (9, fx_q_4)), (m0, .inr (10, fm_q_4)), (o0, .inl (g.2 5, 1, .inr (.inl  fo_q_4)))] ++ (Rc_q_4 ++ Rm_q_4)) H := hP
  have hD : va_D (lw_A s) ([(x0, .inr (9, fx_q_4)), (m0, .inr (10, fm_q_4)), (o0, .inl (g.2 5, 1, .inr (.inl  fo_q_4)))] ++ (Rc_q_4 ++ Rm_q_4)) := hD
  refine lv_istore (lv' := [(5, .int r_1), (0, .ref b), (1, .ref x0), (2, .ref m0), (3, .ref o0), (4, .int (nI i))]) hx hb dL_law_1160 hl (by decide) rfl (fun ls hl => ?_)
  refine lv_aload_n hx hb dL_law_1162 rfl (lv_at hl 3 rfl) ?_
  refine lv_aload_n hx hb dL_law_1163 rfl (lv_at hl 1 rfl) ?_
  refine lv_iload hx hb dL_law_1164 (lv_at hl 5 rfl) ?_
  refine lv_iconst (v := 1) hx hb dL_law_1166 (by decide) ?_
  refine lv_iadd hx hb dL_law_1167 ?_
  refine he_top (nI (i + 1)) (nI_add i 1) ?_
  refine he_sld hx hb hX hbl hbA hS (i + 1) rfl (by omega) (by omega) (xs (i + 1)) rfl dL_law_1168 ?_
  refine lv_aload_n hx hb dL_law_1169 rfl (lv_at hl 1 rfl) ?_
  refine lv_iload hx hb dL_law_1170 (lv_at hl 5 rfl) ?_
  refine lv_iconst (v := 2) hx hb dL_law_1172 (by decide) ?_
  refine lv_iadd hx hb dL_law_1173 ?_
  refine he_top (nI (i + 2)) (nI_add i 2) ?_
  refine he_sld hx hb hX hbl hbA hS (i + 2) rfl (by omega) (by omega) (xs (i + 2)) rfl dL_law_1174 ?_
  refine he_ci (wc := ([(x0, .inr (9, fx_q_4)), (m0, .inr (10, fm_q_4)), (o0, .inl (g.2 5, 1, .inr (.inl  fo_q_4)))] ++ (Rc_q_4 ++ Rm_q_4))) (wr := []) (va_runV (As := [.int (xs (i + 1)), .int (xs (i + 2))]) (rest := []) ⟨hx, hb, hml, hown, hts⟩ (il_mI (j_show l g m0 k t _ (xs (i + 1)) (xs (i + 2)) hm) hc H.size) (cwV 2 hts gL_law_X11_show rfl rfl rfl (by decide +kernel) ⟨Nat.le_of_ble_eq_true rfl, Nat.le_of_ble_eq_true rfl⟩) (he_preV (wc := ([(x0, .inr (9, fx_q_4)), (m0, .inr (10, fm_q_4)), (o0, .inl (g.2 5, 1, .inr (.inl  fo_q_4)))] ++ (Rc_q_4 ++ Rm_q_4))) hK hP hD hS hA hE (List.range (([(x0, .inr (9, fx_q_4)), (m0, .inr (10, fm_q_4)), (o0, .inl (g.2 5, 1, .inr (.inl  fo_q_4)))] ++ (Rc_q_4 ++ Rm_q_4)) : va_W).length) (he_all _) (he_allnd _) 1 rfl rfl) rfl rfl hl.1 rfl (lv_room (Nat.le_of_ble_eq_true rfl)) dL_law_1175 ⟨(by show 1000 + 4 * i + 1 + 0 ≤ 1109424; omega), (by show 100000 + 700 * i + 6 + 0 ≤ 5767833; omega)⟩) hP hD hS hA (List.range (([(x0, .inr (9, fx_q_4)), (m0, .inr (10, fm_q_4)), (o0, .inl (g.2 5, 1, .inr (.inl  fo_q_4)))] ++ (Rc_q_4 ++ Rm_q_4)) : va_W).length) [] (he_all _) rfl rfl (fun _ h9 => absurd h9 List.not_mem_nil) (fun r_5 u_6 H locs hu_7 hP hD hS => ?_)
  obtain ⟨t_1175, hI9, hm1175⟩ := hu_7
  obtain ⟨fx_q_8, fm_q_8, fo_q_8, Rc_q_8, Rm_q_8, rfl, hc, hm⟩ := hI9
  have hP : va_P g.1 vwCl ([(x0, .inr (9, fx_q_8)), (m0, .inr (10, fm_q_8)), (o0, .inl (g.2 5, 1, .inr (.inl  fo_q_8)))] ++ (Rc_q_8 ++ Rm_q_8)) H := hP
  have hD : va_D (lw_A s) ([(x0, .inr (9, fx_q_8)), (m0, .inr (10, fm_q_8)), (o0, .inl (g.2 5, 1, .inr (.inl  fo_q_8)))] ++ (Rc_q_8 ++ Rm_q_8)) := hD
  refine lv_istore (lv' := [(6, .int r_5), (5, .int r_1), (0, .ref b), (1, .ref x0), (2, .ref m0), (3, .ref o0), (4, .int (nI i))]) hx hb dL_law_1178 hl (by decide) rfl (fun ls hl => ?_)
  refine lv_goto (tgt := 1352) hx hb dL_law_1180 (by decide) ?_
  refine W.widen (k := 1000 + 4 * (i + 6)) (n := 100000 + 700 * (i + 6)) (by show 1000 + 4 * i + 1 + 0 ≤ 1000 + 4 * (i + 6); omega) (by show 100000 + 700 * i + 6 + 0 ≤ 100000 + 700 * (i + 6); omega) ?_
  exact kk k t_1175 _ H locs ls ⟨_, _, _, _, _, rfl, hc, hm⟩ hP hD hS (lv_sub hl [2, 3, 4, 5, 6] rfl)
