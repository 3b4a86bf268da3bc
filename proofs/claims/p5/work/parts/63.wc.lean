set_option maxHeartbeats 8000000 in
set_option maxRecDepth 100000 in
theorem w_seen (l : Launch) (hlt : l.stackTraces = false) (g : he_G) (x0 m0 o0 : Nat) (Sx Sm : AbS) (t : Int32) (fo : Nat → Int64) (W : va_W) (x_ : Int32) (hI : IL g x0 m0 o0 Sx Sm t fo W) : he_I l yL_seen wsL_seen 8 125 1 6 g [.ref x0, .int x_, .ref o0] W (fun (r : Int32) (W2 : va_W) => ∃ fo2 : Nat → Int64, IL g x0 m0 o0 (sp_seen Sx x_).2.2 Sm t fo2 W2 ∧ r = (sp_seen Sx x_).1 ∧ ((sp_seen Sx x_).1 = 0 → fo2 0 = Int32.toInt64 (sp_seen Sx x_).2.1)) (fun W2 => W2) := by
  obtain ⟨fx, fm, Rc, Rm, rfl, hc, hm⟩ := hI
  refine he_beginH (l := l) (g := g) (y := yL_seen) (wl := wsL_seen) (fr := 8) (lo := 125) (mc := 1) (ms := 6) (av := [.ref x0, .int x_, .ref o0]) (ws := [(x0, .inr (9, fx)), (m0, .inr (10, fm)), (aL g o0 1 fo)] ++ (Rc ++ Rm)) (cc := cL_seen) (maxL := 4) (ret := (some .int)) (hh := [(0, 9, 12, 13)]) (fun A => va_Qi (fun (r : Int32) (W2 : va_W) => ∃ fo2 : Nat → Int64, IL g x0 m0 o0 (sp_seen Sx x_).2.2 Sm t fo2 W2 ∧ r = (sp_seen Sx x_).1 ∧ ((sp_seen Sx x_).1 = 0 → fo2 0 = Int32.toInt64 (sp_seen Sx x_).2.1)) (fun u t => he_post g A ((fun (W2 : va_W) => W2) u) t) A) (by decide) rfl (Nat.le_of_ble_eq_true rfl) ?_
  intro p e s m args below meth c A ls H locs Q hQ htab hB
  obtain ⟨hx, hb, hr, hml, hown, hts, hlk, hin, hP, hK, hD, hS, hA, hE, hl⟩ := hB
  have hl : lv_has ls 4 [(0, .ref x0), (1, .int x_), (2, .ref o0)] := hl
  have cl13 := hts (.classLink RL 13 "java/lang/IllegalArgumentException") (by decide +kernel)
  refine lv_aload_n hx hb dL_seen_0 rfl (lv_at hl 2 rfl) ?_
  refine lv_iconst (v := 0) hx hb dL_seen_1 (by decide) ?_
  refine lv_aload_n hx hb dL_seen_2 rfl (lv_at hl 0 rfl) ?_
  refine lv_iload_n hx hb dL_seen_3 rfl (lv_at hl 1 rfl) ?_
  rcases k_seen l hlt g x0 Sx _ x_ hc with ⟨hcd, h9⟩ | ⟨hcd, W9, hI9, h9⟩
  · refine he_ci (wc := ([(x0, .inr (9, fx)), (m0, .inr (10, fm)), (aL g o0 1 fo)] ++ (Rc ++ Rm))) (wr := []) (va_runV (As := [.int x_]) (rest := [.int 0, .ref o0]) ⟨hx, hb, hml, hown, hts⟩ (il_cI h9 hm H.size) (cwV 1 hts gL_seen_X10_seen rfl rfl rfl (by decide +kernel) ⟨Nat.le_of_ble_eq_true rfl, Nat.le_of_ble_eq_true rfl⟩) (he_preV (wc := ([(x0, .inr (9, fx)), (m0, .inr (10, fm)), (aL g o0 1 fo)] ++ (Rc ++ Rm))) hK hP hD hS hA hE (List.range (([(x0, .inr (9, fx)), (m0, .inr (10, fm)), (aL g o0 1 fo)] ++ (Rc ++ Rm)) : va_W).length) (he_all _) (he_allnd _) 0 rfl rfl) rfl rfl hl.1 rfl (lv_room (Nat.le_of_ble_eq_true rfl)) dL_seen_4 ⟨(Nat.le_of_ble_eq_true rfl), (Nat.le_of_ble_eq_true rfl)⟩) hP hD hS hA (List.range (([(x0, .inr (9, fx)), (m0, .inr (10, fm)), (aL g o0 1 fo)] ++ (Rc ++ Rm)) : va_W).length) [] (he_all _) rfl rfl (fun _ h9 => absurd h9 List.not_mem_nil) (fun r_1 u_2 H locs hu_3 hP hD hS => ?_)
    obtain ⟨hI9, hp4⟩ := hu_3
    obtain ⟨fx_q_4, fm_q_4, Rc_q_4, Rm_q_4, rfl, hc, hm⟩ := hI9
    have hP : va_P g.1 vwCl ([(x0, .inr (9, fx_q_4)), (m0, .inr (10, fm_q_4)), (aL g o0 1 fo)] ++ (Rc_q_4 ++ Rm_q_4)) H := hP
    have hD : va_D A ([(x0, .inr (9, fx_q_4)), (m0, .inr (10, fm_q_4)), (aL g o0 1 fo)] ++ (Rc_q_4 ++ Rm_q_4)) := hD
    refine lv_i2l (v := Int32.toInt64 r_1) hx hb dL_seen_7 rfl ?_
    refine he_last hx hb hK hP hD hS 2 rfl 0 (by decide) (by decide) (by decide) dL_seen_8 (fun H locs hP hD hS => ?_)
    have hP : va_P g.1 vwCl ([(x0, .inr (9, fx_q_4)), (m0, .inr (10, fm_q_4)), (aL g o0 1 (vp_updL fo 0 (Int32.toInt64 r_1)))] ++ (Rc_q_4 ++ Rm_q_4)) H := hP
    have hD : va_D A ([(x0, .inr (9, fx_q_4)), (m0, .inr (10, fm_q_4)), (aL g o0 1 (vp_updL fo 0 (Int32.toInt64 r_1)))] ++ (Rc_q_4 ++ Rm_q_4)) := hD
    refine lv_goto (tgt := 15) hx hb dL_seen_9 (by decide) ?_
    refine lv_iconst (v := 0) hx hb dL_seen_15 (by decide) ?_
    exact he_ri hQ hx hb hr hlk hP hD hS dL_seen_16 (Nat.le_of_ble_eq_true rfl) (Nat.le_of_ble_eq_true rfl) ([(x0, .inr (9, fx_q_4)), (m0, .inr (10, fm_q_4)), (aL g o0 1 (vp_updL fo 0 (Int32.toInt64 r_1)))] ++ (Rc_q_4 ++ Rm_q_4)) rfl ⟨(vp_updL fo 0 (Int32.toInt64 r_1)), ⟨_, _, _, _, rfl, hc, hm⟩, hcd.symm, fun _ => (by rw [show (vp_updL fo 0 (Int32.toInt64 r_1)) 0 = _ from vp_updL_s _ _ _]; exact (congrArg Int32.toInt64 hp4))⟩
  · obtain ⟨W8, hI8, h8⟩ := il_Ti (o0 := o0) (fo := fo) h9 hI9 hm
    refine he_xi (En := "java/lang/IllegalArgumentException") (wx := W8) (wc := ([(x0, .inr (9, fx)), (m0, .inr (10, fm)), (aL g o0 1 fo)] ++ (Rc ++ Rm))) (wr := []) (vx_runV (As := [.int x_]) (rest := [.int 0, .ref o0]) ⟨hx, hb, hml, hown, hts⟩ (h8 H.size) (cwV 1 hts gL_seen_X10_seen rfl rfl rfl (by decide +kernel) ⟨Nat.le_of_ble_eq_true rfl, Nat.le_of_ble_eq_true rfl⟩) (he_preV (wc := ([(x0, .inr (9, fx)), (m0, .inr (10, fm)), (aL g o0 1 fo)] ++ (Rc ++ Rm))) hK hP hD hS hA hE (List.range (([(x0, .inr (9, fx)), (m0, .inr (10, fm)), (aL g o0 1 fo)] ++ (Rc ++ Rm)) : va_W).length) (he_all _) (he_allnd _) 0 rfl rfl) rfl rfl hl.1 rfl (lv_room (Nat.le_of_ble_eq_true rfl)) dL_seen_4 ⟨(Nat.le_of_ble_eq_true rfl), (Nat.le_of_ble_eq_true rfl)⟩) hP hD hS hA (List.range (([(x0, .inr (9, fx)), (m0, .inr (10, fm)), (aL g o0 1 fo)] ++ (Rc ++ Rm)) : va_W).length) [] (he_all _) rfl rfl (fun _ h9 => absurd h9 List.not_mem_nil) (fun ce q9 H locs hP hD hS hce hcv hcl => ?_)
    obtain ⟨fx_q_5, fm_q_5, Rc_q_5, Rm_q_5, rfl, hc, hm⟩ := hI8
    have hP : va_P g.1 vwCl ([(x0, .inr (9, fx_q_5)), (m0, .inr (10, fm_q_5)), (aL g o0 1 fo)] ++ (Rc_q_5 ++ Rm_q_5)) H := hP
    have hD : va_D A ([(x0, .inr (9, fx_q_5)), (m0, .inr (10, fm_q_5)), (aL g o0 1 fo)] ++ (Rc_q_5 ++ Rm_q_5)) := hD
    refine vx_catch (name := "java/lang/IllegalArgumentException") (E := "java/lang/IllegalArgumentException") hown [] ⟨0, 9, 12, 13⟩ [] htab (fun z h9 => nomatch h9) (by decide) (by decide) cl13 (va_Nw.use rfl (hE.cast ("java/lang/IllegalArgumentException", "java/lang/IllegalArgumentException") (by decide))) hce hcv hcl ?_
    refine W.widen (k := 1) (n := 6) (Nat.le_of_ble_eq_true rfl) (Nat.le_of_ble_eq_true rfl) ?_
    refine lv_astore_n (lv' := [(3, .ref q9), (0, .ref x0), (1, .int x_), (2, .ref o0)]) hx hb dL_seen_12 rfl hl (by decide) rfl (fun ls hl => ?_)
    refine lv_iconst (v := 1) hx hb dL_seen_13 (by decide) ?_
    exact he_ri hQ hx hb hr hlk hP hD hS dL_seen_14 (Nat.le_of_ble_eq_true rfl) (Nat.le_of_ble_eq_true rfl) ([(x0, .inr (9, fx_q_5)), (m0, .inr (10, fm_q_5)), (aL g o0 1 fo)] ++ (Rc_q_5 ++ Rm_q_5)) rfl ⟨fo, ⟨_, _, _, _, rfl, hc, hm⟩, hcd.symm, fun h9 => absurd (hcd.symm.trans h9) (by decide)⟩
set_option maxHeartbeats 8000000 in
set_option maxRecDepth 100000 in
theorem w_spy (l : Launch) (hlt : l.stackTraces = false) (g : he_G) (x0 m0 o0 : Nat) (Sx Sm : AbS) (t : Int32) (fo : Nat → Int64) (W : va_W) (b_ : Int32) (x_ : Int32) (hb01 : b_ = 0 ∨ b_ = 1) (hI : IL g x0 m0 o0 Sx Sm t fo W) : he_I l yL_spy wsL_spy 8 126 1 6 g [.ref x0, .int b_, .int x_, .ref o0] W (fun (r : Int32) (W2 : va_W) => ∃ fo2 : Nat → Int64, IL g x0 m0 o0 (sp_spy Sx b_ x_).2.2 Sm t fo2 W2 ∧ r = (sp_spy Sx b_ x_).1 ∧ ((sp_spy Sx b_ x_).1 = 0 → fo2 0 = Int32.toInt64 (sp_spy Sx b_ x_).2.1)) (fun W2 => W2) := by
  obtain ⟨fx, fm, Rc, Rm, rfl, hc, hm⟩ := hI
  refine he_beginH (l := l) (g := g) (y := yL_spy) (wl := wsL_spy) (fr := 8) (lo := 126) (mc := 1) (ms := 6) (av := [.ref x0, .int b_, .int x_, .ref o0]) (ws := [(x0, .inr (9, fx)), (m0, .inr (10, fm)), (aL g o0 1 fo)] ++ (Rc ++ Rm)) (cc := cL_spy) (maxL := 5) (ret := (some .int)) (hh := [(0, 10, 13, 13)]) (fun A => va_Qi (fun (r : Int32) (W2 : va_W) => ∃ fo2 : Nat → Int64, IL g x0 m0 o0 (sp_spy Sx b_ x_).2.2 Sm t fo2 W2 ∧ r = (sp_spy Sx b_ x_).1 ∧ ((sp_spy Sx b_ x_).1 = 0 → fo2 0 = Int32.toInt64 (sp_spy Sx b_ x_).2.1)) (fun u t => he_post g A ((fun (W2 : va_W) => W2) u) t) A) (by decide) rfl (Nat.le_of_ble_eq_true rfl) ?_
  intro p e s m args below meth c A ls H locs Q hQ htab hB
  obtain ⟨hx, hb, hr, hml, hown, hts, hlk, hin, hP, hK, hD, hS, hA, hE, hl⟩ := hB
  have hl : lv_has ls 5 [(0, .ref x0), (1, .int b_), (2, .int x_), (3, .ref o0)] := hl
  have cl13 := hts (.classLink RL 13 "java/lang/IllegalArgumentException") (by decide +kernel)
  refine lv_aload_n hx hb dL_spy_0 rfl (lv_at hl 3 rfl) ?_
  refine lv_iconst (v := 0) hx hb dL_spy_1 (by decide) ?_
  refine lv_aload_n hx hb dL_spy_2 rfl (lv_at hl 0 rfl) ?_
  refine lv_iload_n hx hb dL_spy_3 rfl (lv_at hl 1 rfl) ?_
  refine lv_iload_n hx hb dL_spy_4 rfl (lv_at hl 2 rfl) ?_
  rcases k_spy l hlt g x0 Sx _ b_ x_ (by first | exact Or.inl rfl | exact Or.inr rfl | assumption) hc with ⟨hcd, h9⟩ | ⟨hcd, W9, hI9, h9⟩
  · refine he_ci (wc := ([(x0, .inr (9, fx)), (m0, .inr (10, fm)), (aL g o0 1 fo)] ++ (Rc ++ Rm))) (wr := []) (va_runV (As := [.int b_, .int x_]) (rest := [.int 0, .ref o0]) ⟨hx, hb, hml, hown, hts⟩ (il_cI h9 hm H.size) (cwV 2 hts gL_spy_X10_spy rfl rfl rfl (by decide +kernel) ⟨Nat.le_of_ble_eq_true rfl, Nat.le_of_ble_eq_true rfl⟩) (he_preV (wc := ([(x0, .inr (9, fx)), (m0, .inr (10, fm)), (aL g o0 1 fo)] ++ (Rc ++ Rm))) hK hP hD hS hA hE (List.range (([(x0, .inr (9, fx)), (m0, .inr (10, fm)), (aL g o0 1 fo)] ++ (Rc ++ Rm)) : va_W).length) (he_all _) (he_allnd _) 0 rfl rfl) rfl rfl hl.1 rfl (lv_room (Nat.le_of_ble_eq_true rfl)) dL_spy_5 ⟨(Nat.le_of_ble_eq_true rfl), (Nat.le_of_ble_eq_true rfl)⟩) hP hD hS hA (List.range (([(x0, .inr (9, fx)), (m0, .inr (10, fm)), (aL g o0 1 fo)] ++ (Rc ++ Rm)) : va_W).length) [] (he_all _) rfl rfl (fun _ h9 => absurd h9 List.not_mem_nil) (fun r_1 u_2 H locs hu_3 hP hD hS => ?_)
    obtain ⟨hI9, hp5⟩ := hu_3
    obtain ⟨fx_q_4, fm_q_4, Rc_q_4, Rm_q_4, rfl, hc, hm⟩ := hI9
    have hP : va_P g.1 vwCl ([(x0, .inr (9, fx_q_4)), (m0, .inr (10, fm_q_4)), (aL g o0 1 fo)] ++ (Rc_q_4 ++ Rm_q_4)) H := hP
    have hD : va_D A ([(x0, .inr (9, fx_q_4)), (m0, .inr (10, fm_q_4)), (aL g o0 1 fo)] ++ (Rc_q_4 ++ Rm_q_4)) := hD
    refine lv_i2l (v := Int32.toInt64 r_1) hx hb dL_spy_8 rfl ?_
    refine he_last hx hb hK hP hD hS 2 rfl 0 (by decide) (by decide) (by decide) dL_spy_9 (fun H locs hP hD hS => ?_)
    have hP : va_P g.1 vwCl ([(x0, .inr (9, fx_q_4)), (m0, .inr (10, fm_q_4)), (aL g o0 1 (vp_updL fo 0 (Int32.toInt64 r_1)))] ++ (Rc_q_4 ++ Rm_q_4)) H := hP
    have hD : va_D A ([(x0, .inr (9, fx_q_4)), (m0, .inr (10, fm_q_4)), (aL g o0 1 (vp_updL fo 0 (Int32.toInt64 r_1)))] ++ (Rc_q_4 ++ Rm_q_4)) := hD
    refine lv_goto (tgt := 17) hx hb dL_spy_10 (by decide) ?_
    refine lv_iconst (v := 0) hx hb dL_spy_17 (by decide) ?_
    exact he_ri hQ hx hb hr hlk hP hD hS dL_spy_18 (Nat.le_of_ble_eq_true rfl) (Nat.le_of_ble_eq_true rfl) ([(x0, .inr (9, fx_q_4)), (m0, .inr (10, fm_q_4)), (aL g o0 1 (vp_updL fo 0 (Int32.toInt64 r_1)))] ++ (Rc_q_4 ++ Rm_q_4)) rfl ⟨(vp_updL fo 0 (Int32.toInt64 r_1)), ⟨_, _, _, _, rfl, hc, hm⟩, hcd.symm, fun _ => (by rw [show (vp_updL fo 0 (Int32.toInt64 r_1)) 0 = _ from vp_updL_s _ _ _]; exact (congrArg Int32.toInt64 hp5))⟩
  · obtain ⟨W8, hI8, h8⟩ := il_Ti (o0 := o0) (fo := fo) h9 hI9 hm
    refine he_xi (En := "java/lang/IllegalArgumentException") (wx := W8) (wc := ([(x0, .inr (9, fx)), (m0, .inr (10, fm)), (aL g o0 1 fo)] ++ (Rc ++ Rm))) (wr := []) (vx_runV (As := [.int b_, .int x_]) (rest := [.int 0, .ref o0]) ⟨hx, hb, hml, hown, hts⟩ (h8 H.size) (cwV 2 hts gL_spy_X10_spy rfl rfl rfl (by decide +kernel) ⟨Nat.le_of_ble_eq_true rfl, Nat.le_of_ble_eq_true rfl⟩) (he_preV (wc := ([(x0, .inr (9, fx)), (m0, .inr (10, fm)), (aL g o0 1 fo)] ++ (Rc ++ Rm))) hK hP hD hS hA hE (List.range (([(x0, .inr (9, fx)), (m0, .inr (10, fm)), (aL g o0 1 fo)] ++ (Rc ++ Rm)) : va_W).length) (he_all _) (he_allnd _) 0 rfl rfl) rfl rfl hl.1 rfl (lv_room (Nat.le_of_ble_eq_true rfl)) dL_spy_5 ⟨(Nat.le_of_ble_eq_true rfl), (Nat.le_of_ble_eq_true rfl)⟩) hP hD hS hA (List.range (([(x0, .inr (9, fx)), (m0, .inr (10, fm)), (aL g o0 1 fo)] ++ (Rc ++ Rm)) : va_W).length) [] (he_all _) rfl rfl (fun _ h9 => absurd h9 List.not_mem_nil) (fun ce q9 H locs hP hD hS hce hcv hcl => ?_)
    obtain ⟨fx_q_5, fm_q_5, Rc_q_5, Rm_q_5, rfl, hc, hm⟩ := hI8
    have hP : va_P g.1 vwCl ([(x0, .inr (9, fx_q_5)), (m0, .inr (10, fm_q_5)), (aL g o0 1 fo)] ++ (Rc_q_5 ++ Rm_q_5)) H := hP
    have hD : va_D A ([(x0, .inr (9, fx_q_5)), (m0, .inr (10, fm_q_5)), (aL g o0 1 fo)] ++ (Rc_q_5 ++ Rm_q_5)) := hD
    refine vx_catch (name := "java/lang/IllegalArgumentException") (E := "java/lang/IllegalArgumentException") hown [] ⟨0, 10, 13, 13⟩ [] htab (fun z h9 => nomatch h9) (by decide) (by decide) cl13 (va_Nw.use rfl (hE.cast ("java/lang/IllegalArgumentException", "java/lang/IllegalArgumentException") (by decide))) hce hcv hcl ?_
    refine W.widen (k := 1) (n := 6) (Nat.le_of_ble_eq_true rfl) (Nat.le_of_ble_eq_true rfl) ?_
    refine lv_astore (lv' := [(4, .ref q9), (0, .ref x0), (1, .int b_), (2, .int x_), (3, .ref o0)]) hx hb dL_spy_13 hl (by decide) rfl (fun ls hl => ?_)
    refine lv_iconst (v := 1) hx hb dL_spy_15 (by decide) ?_
    exact he_ri hQ hx hb hr hlk hP hD hS dL_spy_16 (Nat.le_of_ble_eq_true rfl) (Nat.le_of_ble_eq_true rfl) ([(x0, .inr (9, fx_q_5)), (m0, .inr (10, fm_q_5)), (aL g o0 1 fo)] ++ (Rc_q_5 ++ Rm_q_5)) rfl ⟨fo, ⟨_, _, _, _, rfl, hc, hm⟩, hcd.symm, fun h9 => absurd (hcd.symm.trans h9) (by decide)⟩
set_option maxHeartbeats 8000000 in
set_option maxRecDepth 100000 in
theorem w_believed (l : Launch) (hlt : l.stackTraces = false) (g : he_G) (x0 m0 o0 : Nat) (Sx Sm : AbS) (t : Int32) (fo : Nat → Int64) (W : va_W) (x_ : Int32) (hI : IL g x0 m0 o0 Sx Sm t fo W) : he_I l yL_believed wsL_believed 8 124 1 6 g [.ref x0, .int x_, .ref o0] W (fun (r : Int32) (W2 : va_W) => ∃ fo2 : Nat → Int64, IL g x0 m0 o0 (sp_believed Sx x_).2.2 Sm t fo2 W2 ∧ r = (sp_believed Sx x_).1 ∧ True) (fun W2 => W2) := by
  obtain ⟨fx, fm, Rc, Rm, rfl, hc, hm⟩ := hI
  refine he_beginH (l := l) (g := g) (y := yL_believed) (wl := wsL_believed) (fr := 8) (lo := 124) (mc := 1) (ms := 6) (av := [.ref x0, .int x_, .ref o0]) (ws := [(x0, .inr (9, fx)), (m0, .inr (10, fm)), (aL g o0 1 fo)] ++ (Rc ++ Rm)) (cc := cL_believed) (maxL := 4) (ret := (some .int)) (hh := [(0, 8, 11, 13)]) (fun A => va_Qi (fun (r : Int32) (W2 : va_W) => ∃ fo2 : Nat → Int64, IL g x0 m0 o0 (sp_believed Sx x_).2.2 Sm t fo2 W2 ∧ r = (sp_believed Sx x_).1 ∧ True) (fun u t => he_post g A ((fun (W2 : va_W) => W2) u) t) A) (by decide) rfl (Nat.le_of_ble_eq_true rfl) ?_
  intro p e s m args below meth c A ls H locs Q hQ htab hB
  obtain ⟨hx, hb, hr, hml, hown, hts, hlk, hin, hP, hK, hD, hS, hA, hE, hl⟩ := hB
  have hl : lv_has ls 4 [(0, .ref x0), (1, .int x_), (2, .ref o0)] := hl
  have cl13 := hts (.classLink RL 13 "java/lang/IllegalArgumentException") (by decide +kernel)
  refine lv_aload_n hx hb dL_believed_0 rfl (lv_at hl 2 rfl) ?_
  refine lv_iconst (v := 0) hx hb dL_believed_1 (by decide) ?_
  refine lv_aload_n hx hb dL_believed_2 rfl (lv_at hl 0 rfl) ?_
  refine lv_iload_n hx hb dL_believed_3 rfl (lv_at hl 1 rfl) ?_
  rcases k_believed l hlt g x0 Sx _ x_ hc with ⟨hcd, h9⟩ | ⟨hcd, W9, hI9, h9⟩
  · refine he_cj (wc := ([(x0, .inr (9, fx)), (m0, .inr (10, fm)), (aL g o0 1 fo)] ++ (Rc ++ Rm))) (wr := []) (va_runV (As := [.int x_]) (rest := [.int 0, .ref o0]) ⟨hx, hb, hml, hown, hts⟩ (il_cJ h9 hm H.size) (cwV 1 hts gL_believed_X10_believed rfl rfl rfl (by decide +kernel) ⟨Nat.le_of_ble_eq_true rfl, Nat.le_of_ble_eq_true rfl⟩) (he_preV (wc := ([(x0, .inr (9, fx)), (m0, .inr (10, fm)), (aL g o0 1 fo)] ++ (Rc ++ Rm))) hK hP hD hS hA hE (List.range (([(x0, .inr (9, fx)), (m0, .inr (10, fm)), (aL g o0 1 fo)] ++ (Rc ++ Rm)) : va_W).length) (he_all _) (he_allnd _) 0 rfl rfl) rfl rfl hl.1 rfl (lv_room (Nat.le_of_ble_eq_true rfl)) dL_believed_4 ⟨(Nat.le_of_ble_eq_true rfl), (Nat.le_of_ble_eq_true rfl)⟩) hP hD hS hA (List.range (([(x0, .inr (9, fx)), (m0, .inr (10, fm)), (aL g o0 1 fo)] ++ (Rc ++ Rm)) : va_W).length) [] (he_all _) rfl rfl (fun _ h9 => absurd h9 List.not_mem_nil) (fun r_1 u_2 H locs hu_3 hP hD hS => ?_)
    obtain ⟨hI9, hp4⟩ := hu_3
    obtain ⟨fx_q_4, fm_q_4, Rc_q_4, Rm_q_4, rfl, hc, hm⟩ := hI9
    have hP : va_P g.1 vwCl ([(x0, .inr (9, fx_q_4)), (m0, .inr (10, fm_q_4)), (aL g o0 1 fo)] ++ (Rc_q_4 ++ Rm_q_4)) H := hP
    have hD : va_D A ([(x0, .inr (9, fx_q_4)), (m0, .inr (10, fm_q_4)), (aL g o0 1 fo)] ++ (Rc_q_4 ++ Rm_q_4)) := hD
    refine he_last hx hb hK hP hD hS 2 rfl 0 (by decide) (by decide) (by decide) dL_believed_7 (fun H locs hP hD hS => ?_)
    have hP : va_P g.1 vwCl ([(x0, .inr (9, fx_q_4)), (m0, .inr (10, fm_q_4)), (aL g o0 1 (vp_updL fo 0 r_1))] ++ (Rc_q_4 ++ Rm_q_4)) H := hP
    have hD : va_D A ([(x0, .inr (9, fx_q_4)), (m0, .inr (10, fm_q_4)), (aL g o0 1 (vp_updL fo 0 r_1))] ++ (Rc_q_4 ++ Rm_q_4)) := hD
    refine lv_goto (tgt := 14) hx hb dL_believed_8 (by decide) ?_
    refine lv_iconst (v := 0) hx hb dL_believed_14 (by decide) ?_
    exact he_ri hQ hx hb hr hlk hP hD hS dL_believed_15 (Nat.le_of_ble_eq_true rfl) (Nat.le_of_ble_eq_true rfl) ([(x0, .inr (9, fx_q_4)), (m0, .inr (10, fm_q_4)), (aL g o0 1 (vp_updL fo 0 r_1))] ++ (Rc_q_4 ++ Rm_q_4)) rfl ⟨(vp_updL fo 0 r_1), ⟨_, _, _, _, rfl, hc, hm⟩, hcd.symm, trivial⟩
  · obtain ⟨W8, hI8, h8⟩ := il_Tj (o0 := o0) (fo := fo) h9 hI9 hm
    refine he_xj (En := "java/lang/IllegalArgumentException") (wx := W8) (wc := ([(x0, .inr (9, fx)), (m0, .inr (10, fm)), (aL g o0 1 fo)] ++ (Rc ++ Rm))) (wr := []) (vx_runV (As := [.int x_]) (rest := [.int 0, .ref o0]) ⟨hx, hb, hml, hown, hts⟩ (h8 H.size) (cwV 1 hts gL_believed_X10_believed rfl rfl rfl (by decide +kernel) ⟨Nat.le_of_ble_eq_true rfl, Nat.le_of_ble_eq_true rfl⟩) (he_preV (wc := ([(x0, .inr (9, fx)), (m0, .inr (10, fm)), (aL g o0 1 fo)] ++ (Rc ++ Rm))) hK hP hD hS hA hE (List.range (([(x0, .inr (9, fx)), (m0, .inr (10, fm)), (aL g o0 1 fo)] ++ (Rc ++ Rm)) : va_W).length) (he_all _) (he_allnd _) 0 rfl rfl) rfl rfl hl.1 rfl (lv_room (Nat.le_of_ble_eq_true rfl)) dL_believed_4 ⟨(Nat.le_of_ble_eq_true rfl), (Nat.le_of_ble_eq_true rfl)⟩) hP hD hS hA (List.range (([(x0, .inr (9, fx)), (m0, .inr (10, fm)), (aL g o0 1 fo)] ++ (Rc ++ Rm)) : va_W).length) [] (he_all _) rfl rfl (fun _ h9 => absurd h9 List.not_mem_nil) (fun ce q9 H locs hP hD hS hce hcv hcl => ?_)
    obtain ⟨fx_q_5, fm_q_5, Rc_q_5, Rm_q_5, rfl, hc, hm⟩ := hI8
    have hP : va_P g.1 vwCl ([(x0, .inr (9, fx_q_5)), (m0, .inr (10, fm_q_5)), (aL g o0 1 fo)] ++ (Rc_q_5 ++ Rm_q_5)) H := hP
    have hD : va_D A ([(x0, .inr (9, fx_q_5)), (m0, .inr (10, fm_q_5)), (aL g o0 1 fo)] ++ (Rc_q_5 ++ Rm_q_5)) := hD
    refine vx_catch (name := "java/lang/IllegalArgumentException") (E := "java/lang/IllegalArgumentException") hown [] ⟨0, 8, 11, 13⟩ [] htab (fun z h9 => nomatch h9) (by decide) (by decide) cl13 (va_Nw.use rfl (hE.cast ("java/lang/IllegalArgumentException", "java/lang/IllegalArgumentException") (by decide))) hce hcv hcl ?_
    refine W.widen (k := 1) (n := 6) (Nat.le_of_ble_eq_true rfl) (Nat.le_of_ble_eq_true rfl) ?_
    refine lv_astore_n (lv' := [(3, .ref q9), (0, .ref x0), (1, .int x_), (2, .ref o0)]) hx hb dL_believed_11 rfl hl (by decide) rfl (fun ls hl => ?_)
    refine lv_iconst (v := 1) hx hb dL_believed_12 (by decide) ?_
    exact he_ri hQ hx hb hr hlk hP hD hS dL_believed_13 (Nat.le_of_ble_eq_true rfl) (Nat.le_of_ble_eq_true rfl) ([(x0, .inr (9, fx_q_5)), (m0, .inr (10, fm_q_5)), (aL g o0 1 fo)] ++ (Rc_q_5 ++ Rm_q_5)) rfl ⟨fo, ⟨_, _, _, _, rfl, hc, hm⟩, hcd.symm, trivial⟩
set_option maxHeartbeats 8000000 in
set_option maxRecDepth 100000 in
theorem w_earnest (l : Launch) (hlt : l.stackTraces = false) (g : he_G) (x0 m0 o0 : Nat) (Sx Sm : AbS) (t : Int32) (fo : Nat → Int64) (W : va_W) (x_ : Int32) (y_ : Int32) (z_ : Int32) (hOk : okS Sx) (hI : IL g x0 m0 o0 Sx Sm t fo W) : he_I l yL_earnest wsL_earnest 8 126 1 6 g [.ref x0, .int x_, .int y_, .int z_, .ref o0] W (fun (r : Int32) (W2 : va_W) => ∃ fo2 : Nat → Int64, IL g x0 m0 o0 (sp_earnest Sx x_ y_ z_).2.2 Sm t fo2 W2 ∧ r = (sp_earnest Sx x_ y_ z_).1 ∧ ((sp_earnest Sx x_ y_ z_).1 = 0 → fo2 0 = Int32.toInt64 (sp_earnest Sx x_ y_ z_).2.1)) (fun W2 => W2) := by
  obtain ⟨fx, fm, Rc, Rm, rfl, hc, hm⟩ := hI
  refine he_beginH (l := l) (g := g) (y := yL_earnest) (wl := wsL_earnest) (fr := 8) (lo := 126) (mc := 1) (ms := 6) (av := [.ref x0, .int x_, .int y_, .int z_, .ref o0]) (ws := [(x0, .inr (9, fx)), (m0, .inr (10, fm)), (aL g o0 1 fo)] ++ (Rc ++ Rm)) (cc := cL_earnest) (maxL := 6) (ret := (some .int)) (hh := [(0, 12, 15, 13)]) (fun A => va_Qi (fun (r : Int32) (W2 : va_W) => ∃ fo2 : Nat → Int64, IL g x0 m0 o0 (sp_earnest Sx x_ y_ z_).2.2 Sm t fo2 W2 ∧ r = (sp_earnest Sx x_ y_ z_).1 ∧ ((sp_earnest Sx x_ y_ z_).1 = 0 → fo2 0 = Int32.toInt64 (sp_earnest Sx x_ y_ z_).2.1)) (fun u t => he_post g A ((fun (W2 : va_W) => W2) u) t) A) (by decide) rfl (Nat.le_of_ble_eq_true rfl) ?_
  intro p e s m args below meth c A ls H locs Q hQ htab hB
  obtain ⟨hx, hb, hr, hml, hown, hts, hlk, hin, hP, hK, hD, hS, hA, hE, hl⟩ := hB
  have hl : lv_has ls 6 [(0, .ref x0), (1, .int x_), (2, .int y_), (3, .int z_), (4, .ref o0)] := hl
  have cl13 := hts (.classLink RL 13 "java/lang/IllegalArgumentException") (by decide +kernel)
  refine lv_aload hx hb dL_earnest_0 (lv_at hl 4 rfl) ?_
  refine lv_iconst (v := 0) hx hb dL_earnest_2 (by decide) ?_
  refine lv_aload_n hx hb dL_earnest_3 rfl (lv_at hl 0 rfl) ?_
  refine lv_iload_n hx hb dL_earnest_4 rfl (lv_at hl 1 rfl) ?_
  refine lv_iload_n hx hb dL_earnest_5 rfl (lv_at hl 2 rfl) ?_
  refine lv_iload_n hx hb dL_earnest_6 rfl (lv_at hl 3 rfl) ?_
  rcases k_earnest l hlt g x0 Sx _ x_ y_ z_ hOk hc with ⟨hcd, h9⟩ | ⟨hcd, W9, hI9, h9⟩
  · refine he_ci (wc := ([(x0, .inr (9, fx)), (m0, .inr (10, fm)), (aL g o0 1 fo)] ++ (Rc ++ Rm))) (wr := []) (va_runV (As := [.int x_, .int y_, .int z_]) (rest := [.int 0, .ref o0]) ⟨hx, hb, hml, hown, hts⟩ (il_cI h9 hm H.size) (cwV 3 hts gL_earnest_X10_earnest rfl rfl rfl (by decide +kernel) ⟨Nat.le_of_ble_eq_true rfl, Nat.le_of_ble_eq_true rfl⟩) (he_preV (wc := ([(x0, .inr (9, fx)), (m0, .inr (10, fm)), (aL g o0 1 fo)] ++ (Rc ++ Rm))) hK hP hD hS hA hE (List.range (([(x0, .inr (9, fx)), (m0, .inr (10, fm)), (aL g o0 1 fo)] ++ (Rc ++ Rm)) : va_W).length) (he_all _) (he_allnd _) 0 rfl rfl) rfl rfl hl.1 rfl (lv_room (Nat.le_of_ble_eq_true rfl)) dL_earnest_7 ⟨(Nat.le_of_ble_eq_true rfl), (Nat.le_of_ble_eq_true rfl)⟩) hP hD hS hA (List.range (([(x0, .inr (9, fx)), (m0, .inr (10, fm)), (aL g o0 1 fo)] ++ (Rc ++ Rm)) : va_W).length) [] (he_all _) rfl rfl (fun _ h9 => absurd h9 List.not_mem_nil) (fun r_1 u_2 H locs hu_3 hP hD hS => ?_)
    obtain ⟨hI9, hp7⟩ := hu_3
    obtain ⟨fx_q_4, fm_q_4, Rc_q_4, Rm_q_4, rfl, hc, hm⟩ := hI9
    have hP : va_P g.1 vwCl ([(x0, .inr (9, fx_q_4)), (m0, .inr (10, fm_q_4)), (aL g o0 1 fo)] ++ (Rc_q_4 ++ Rm_q_4)) H := hP
    have hD : va_D A ([(x0, .inr (9, fx_q_4)), (m0, .inr (10, fm_q_4)), (aL g o0 1 fo)] ++ (Rc_q_4 ++ Rm_q_4)) := hD
    refine lv_i2l (v := Int32.toInt64 r_1) hx hb dL_earnest_10 rfl ?_
    refine he_last hx hb hK hP hD hS 2 rfl 0 (by decide) (by decide) (by decide) dL_earnest_11 (fun H locs hP hD hS => ?_)
    have hP : va_P g.1 vwCl ([(x0, .inr (9, fx_q_4)), (m0, .inr (10, fm_q_4)), (aL g o0 1 (vp_updL fo 0 (Int32.toInt64 r_1)))] ++ (Rc_q_4 ++ Rm_q_4)) H := hP
    have hD : va_D A ([(x0, .inr (9, fx_q_4)), (m0, .inr (10, fm_q_4)), (aL g o0 1 (vp_updL fo 0 (Int32.toInt64 r_1)))] ++ (Rc_q_4 ++ Rm_q_4)) := hD
    refine lv_goto (tgt := 19) hx hb dL_earnest_12 (by decide) ?_
    refine lv_iconst (v := 0) hx hb dL_earnest_19 (by decide) ?_
    exact he_ri hQ hx hb hr hlk hP hD hS dL_earnest_20 (Nat.le_of_ble_eq_true rfl) (Nat.le_of_ble_eq_true rfl) ([(x0, .inr (9, fx_q_4)), (m0, .inr (10, fm_q_4)), (aL g o0 1 (vp_updL fo 0 (Int32.toInt64 r_1)))] ++ (Rc_q_4 ++ Rm_q_4)) rfl ⟨(vp_updL fo 0 (Int32.toInt64 r_1)), ⟨_, _, _, _, rfl, hc, hm⟩, hcd.symm, fun _ => (by rw [show (vp_updL fo 0 (Int32.toInt64 r_1)) 0 = _ from vp_updL_s _ _ _]; exact (congrArg Int32.toInt64 hp7))⟩
  · obtain ⟨W8, hI8, h8⟩ := il_Ti (o0 := o0) (fo := fo) h9 hI9 hm
    refine he_xi (En := "java/lang/IllegalArgumentException") (wx := W8) (wc := ([(x0, .inr (9, fx)), (m0, .inr (10, fm)), (aL g o0 1 fo)] ++ (Rc ++ Rm))) (wr := []) (vx_runV (As := [.int x_, .int y_, .int z_]) (rest := [.int 0, .ref o0]) ⟨hx, hb, hml, hown, hts⟩ (h8 H.size) (cwV 3 hts gL_earnest_X10_earnest rfl rfl rfl (by decide +kernel) ⟨Nat.le_of_ble_eq_true rfl, Nat.le_of_ble_eq_true rfl⟩) (he_preV (wc := ([(x0, .inr (9, fx)), (m0, .inr (10, fm)), (aL g o0 1 fo)] ++ (Rc ++ Rm))) hK hP hD hS hA hE (List.range (([(x0, .inr (9, fx)), (m0, .inr (10, fm)), (aL g o0 1 fo)] ++ (Rc ++ Rm)) : va_W).length) (he_all _) (he_allnd _) 0 rfl rfl) rfl rfl hl.1 rfl (lv_room (Nat.le_of_ble_eq_true rfl)) dL_earnest_7 ⟨(Nat.le_of_ble_eq_true rfl), (Nat.le_of_ble_eq_true rfl)⟩) hP hD hS hA (List.range (([(x0, .inr (9, fx)), (m0, .inr (10, fm)), (aL g o0 1 fo)] ++ (Rc ++ Rm)) : va_W).length) [] (he_all _) rfl rfl (fun _ h9 => absurd h9 List.not_mem_nil) (fun ce q9 H locs hP hD hS hce hcv hcl => ?_)
    obtain ⟨fx_q_5, fm_q_5, Rc_q_5, Rm_q_5, rfl, hc, hm⟩ := hI8
    have hP : va_P g.1 vwCl ([(x0, .inr (9, fx_q_5)), (m0, .inr (10, fm_q_5)), (aL g o0 1 fo)] ++ (Rc_q_5 ++ Rm_q_5)) H := hP
    have hD : va_D A ([(x0, .inr (9, fx_q_5)), (m0, .inr (10, fm_q_5)), (aL g o0 1 fo)] ++ (Rc_q_5 ++ Rm_q_5)) := hD
    refine vx_catch (name := "java/lang/IllegalArgumentException") (E := "java/lang/IllegalArgumentException") hown [] ⟨0, 12, 15, 13⟩ [] htab (fun z h9 => nomatch h9) (by decide) (by decide) cl13 (va_Nw.use rfl (hE.cast ("java/lang/IllegalArgumentException", "java/lang/IllegalArgumentException") (by decide))) hce hcv hcl ?_
    refine W.widen (k := 1) (n := 6) (Nat.le_of_ble_eq_true rfl) (Nat.le_of_ble_eq_true rfl) ?_
    refine lv_astore (lv' := [(5, .ref q9), (0, .ref x0), (1, .int x_), (2, .int y_), (3, .int z_), (4, .ref o0)]) hx hb dL_earnest_15 hl (by decide) rfl (fun ls hl => ?_)
    refine lv_iconst (v := 1) hx hb dL_earnest_17 (by decide) ?_
    exact he_ri hQ hx hb hr hlk hP hD hS dL_earnest_18 (Nat.le_of_ble_eq_true rfl) (Nat.le_of_ble_eq_true rfl) ([(x0, .inr (9, fx_q_5)), (m0, .inr (10, fm_q_5)), (aL g o0 1 fo)] ++ (Rc_q_5 ++ Rm_q_5)) rfl ⟨fo, ⟨_, _, _, _, rfl, hc, hm⟩, hcd.symm, fun h9 => absurd (hcd.symm.trans h9) (by decide)⟩
set_option maxHeartbeats 8000000 in
set_option maxRecDepth 100000 in
theorem w_stands (l : Launch) (hlt : l.stackTraces = false) (g : he_G) (x0 m0 o0 : Nat) (Sx Sm : AbS) (t : Int32) (fo : Nat → Int64) (W : va_W) (x_ : Int32) (y_ : Int32) (hOk : okS Sx) (hI : IL g x0 m0 o0 Sx Sm t fo W) : he_I l yL_stands wsL_stands 8 125 1 6 g [.ref x0, .int x_, .int y_, .ref o0] W (fun (r : Int32) (W2 : va_W) => ∃ fo2 : Nat → Int64, IL g x0 m0 o0 (sp_stands Sx x_ y_).2.2 Sm t fo2 W2 ∧ r = (sp_stands Sx x_ y_).1 ∧ ((sp_stands Sx x_ y_).1 = 0 → fo2 0 = Int32.toInt64 (sp_stands Sx x_ y_).2.1)) (fun W2 => W2) := by
  obtain ⟨fx, fm, Rc, Rm, rfl, hc, hm⟩ := hI
  refine he_beginH (l := l) (g := g) (y := yL_stands) (wl := wsL_stands) (fr := 8) (lo := 125) (mc := 1) (ms := 6) (av := [.ref x0, .int x_, .int y_, .ref o0]) (ws := [(x0, .inr (9, fx)), (m0, .inr (10, fm)), (aL g o0 1 fo)] ++ (Rc ++ Rm)) (cc := cL_stands) (maxL := 5) (ret := (some .int)) (hh := [(0, 10, 13, 13)]) (fun A => va_Qi (fun (r : Int32) (W2 : va_W) => ∃ fo2 : Nat → Int64, IL g x0 m0 o0 (sp_stands Sx x_ y_).2.2 Sm t fo2 W2 ∧ r = (sp_stands Sx x_ y_).1 ∧ ((sp_stands Sx x_ y_).1 = 0 → fo2 0 = Int32.toInt64 (sp_stands Sx x_ y_).2.1)) (fun u t => he_post g A ((fun (W2 : va_W) => W2) u) t) A) (by decide) rfl (Nat.le_of_ble_eq_true rfl) ?_
  intro p e s m args below meth c A ls H locs Q hQ htab hB
  obtain ⟨hx, hb, hr, hml, hown, hts, hlk, hin, hP, hK, hD, hS, hA, hE, hl⟩ := hB
  have hl : lv_has ls 5 [(0, .ref x0), (1, .int x_), (2, .int y_), (3, .ref o0)] := hl
  have cl13 := hts (.classLink RL 13 "java/lang/IllegalArgumentException") (by decide +kernel)
  refine lv_aload_n hx hb dL_stands_0 rfl (lv_at hl 3 rfl) ?_
  refine lv_iconst (v := 0) hx hb dL_stands_1 (by decide) ?_
  refine lv_aload_n hx hb dL_stands_2 rfl (lv_at hl 0 rfl) ?_
  refine lv_iload_n hx hb dL_stands_3 rfl (lv_at hl 1 rfl) ?_
  refine lv_iload_n hx hb dL_stands_4 rfl (lv_at hl 2 rfl) ?_
  rcases k_stands l hlt g x0 Sx _ x_ y_ hOk hc with ⟨hcd, h9⟩ | ⟨hcd, W9, hI9, h9⟩
  · refine he_ci (wc := ([(x0, .inr (9, fx)), (m0, .inr (10, fm)), (aL g o0 1 fo)] ++ (Rc ++ Rm))) (wr := []) (va_runV (As := [.int x_, .int y_]) (rest := [.int 0, .ref o0]) ⟨hx, hb, hml, hown, hts⟩ (il_cI h9 hm H.size) (cwV 2 hts gL_stands_X10_stands rfl rfl rfl (by decide +kernel) ⟨Nat.le_of_ble_eq_true rfl, Nat.le_of_ble_eq_true rfl⟩) (he_preV (wc := ([(x0, .inr (9, fx)), (m0, .inr (10, fm)), (aL g o0 1 fo)] ++ (Rc ++ Rm))) hK hP hD hS hA hE (List.range (([(x0, .inr (9, fx)), (m0, .inr (10, fm)), (aL g o0 1 fo)] ++ (Rc ++ Rm)) : va_W).length) (he_all _) (he_allnd _) 0 rfl rfl) rfl rfl hl.1 rfl (lv_room (Nat.le_of_ble_eq_true rfl)) dL_stands_5 ⟨(Nat.le_of_ble_eq_true rfl), (Nat.le_of_ble_eq_true rfl)⟩) hP hD hS hA (List.range (([(x0, .inr (9, fx)), (m0, .inr (10, fm)), (aL g o0 1 fo)] ++ (Rc ++ Rm)) : va_W).length) [] (he_all _) rfl rfl (fun _ h9 => absurd h9 List.not_mem_nil) (fun r_1 u_2 H locs hu_3 hP hD hS => ?_)
    obtain ⟨hI9, hp5⟩ := hu_3
    obtain ⟨fx_q_4, fm_q_4, Rc_q_4, Rm_q_4, rfl, hc, hm⟩ := hI9
    have hP : va_P g.1 vwCl ([(x0, .inr (9, fx_q_4)), (m0, .inr (10, fm_q_4)), (aL g o0 1 fo)] ++ (Rc_q_4 ++ Rm_q_4)) H := hP
    have hD : va_D A ([(x0, .inr (9, fx_q_4)), (m0, .inr (10, fm_q_4)), (aL g o0 1 fo)] ++ (Rc_q_4 ++ Rm_q_4)) := hD
    refine lv_i2l (v := Int32.toInt64 r_1) hx hb dL_stands_8 rfl ?_
    refine he_last hx hb hK hP hD hS 2 rfl 0 (by decide) (by decide) (by decide) dL_stands_9 (fun H locs hP hD hS => ?_)
    have hP : va_P g.1 vwCl ([(x0, .inr (9, fx_q_4)), (m0, .inr (10, fm_q_4)), (aL g o0 1 (vp_updL fo 0 (Int32.toInt64 r_1)))] ++ (Rc_q_4 ++ Rm_q_4)) H := hP
    have hD : va_D A ([(x0, .inr (9, fx_q_4)), (m0, .inr (10, fm_q_4)), (aL g o0 1 (vp_updL fo 0 (Int32.toInt64 r_1)))] ++ (Rc_q_4 ++ Rm_q_4)) := hD
    refine lv_goto (tgt := 17) hx hb dL_stands_10 (by decide) ?_
    refine lv_iconst (v := 0) hx hb dL_stands_17 (by decide) ?_
    exact he_ri hQ hx hb hr hlk hP hD hS dL_stands_18 (Nat.le_of_ble_eq_true rfl) (Nat.le_of_ble_eq_true rfl) ([(x0, .inr (9, fx_q_4)), (m0, .inr (10, fm_q_4)), (aL g o0 1 (vp_updL fo 0 (Int32.toInt64 r_1)))] ++ (Rc_q_4 ++ Rm_q_4)) rfl ⟨(vp_updL fo 0 (Int32.toInt64 r_1)), ⟨_, _, _, _, rfl, hc, hm⟩, hcd.symm, fun _ => (by rw [show (vp_updL fo 0 (Int32.toInt64 r_1)) 0 = _ from vp_updL_s _ _ _]; exact (congrArg Int32.toInt64 hp5))⟩
  · obtain ⟨W8, hI8, h8⟩ := il_Ti (o0 := o0) (fo := fo) h9 hI9 hm
    refine he_xi (En := "java/lang/IllegalArgumentException") (wx := W8) (wc := ([(x0, .inr (9, fx)), (m0, .inr (10, fm)), (aL g o0 1 fo)] ++ (Rc ++ Rm))) (wr := []) (vx_runV (As := [.int x_, .int y_]) (rest := [.int 0, .ref o0]) ⟨hx, hb, hml, hown, hts⟩ (h8 H.size) (cwV 2 hts gL_stands_X10_stands rfl rfl rfl (by decide +kernel) ⟨Nat.le_of_ble_eq_true rfl, Nat.le_of_ble_eq_true rfl⟩) (he_preV (wc := ([(x0, .inr (9, fx)), (m0, .inr (10, fm)), (aL g o0 1 fo)] ++ (Rc ++ Rm))) hK hP hD hS hA hE (List.range (([(x0, .inr (9, fx)), (m0, .inr (10, fm)), (aL g o0 1 fo)] ++ (Rc ++ Rm)) : va_W).length) (he_all _) (he_allnd _) 0 rfl rfl) rfl rfl hl.1 rfl (lv_room (Nat.le_of_ble_eq_true rfl)) dL_stands_5 ⟨(Nat.le_of_ble_eq_true rfl), (Nat.le_of_ble_eq_true rfl)⟩) hP hD hS hA (List.range (([(x0, .inr (9, fx)), (m0, .inr (10, fm)), (aL g o0 1 fo)] ++ (Rc ++ Rm)) : va_W).length) [] (he_all _) rfl rfl (fun _ h9 => absurd h9 List.not_mem_nil) (fun ce q9 H locs hP hD hS hce hcv hcl => ?_)
    obtain ⟨fx_q_5, fm_q_5, Rc_q_5, Rm_q_5, rfl, hc, hm⟩ := hI8
    have hP : va_P g.1 vwCl ([(x0, .inr (9, fx_q_5)), (m0, .inr (10, fm_q_5)), (aL g o0 1 fo)] ++ (Rc_q_5 ++ Rm_q_5)) H := hP
    have hD : va_D A ([(x0, .inr (9, fx_q_5)), (m0, .inr (10, fm_q_5)), (aL g o0 1 fo)] ++ (Rc_q_5 ++ Rm_q_5)) := hD
    refine vx_catch (name := "java/lang/IllegalArgumentException") (E := "java/lang/IllegalArgumentException") hown [] ⟨0, 10, 13, 13⟩ [] htab (fun z h9 => nomatch h9) (by decide) (by decide) cl13 (va_Nw.use rfl (hE.cast ("java/lang/IllegalArgumentException", "java/lang/IllegalArgumentException") (by decide))) hce hcv hcl ?_
    refine W.widen (k := 1) (n := 6) (Nat.le_of_ble_eq_true rfl) (Nat.le_of_ble_eq_true rfl) ?_
    refine lv_astore (lv' := [(4, .ref q9), (0, .ref x0), (1, .int x_), (2, .int y_), (3, .ref o0)]) hx hb dL_stands_13 hl (by decide) rfl (fun ls hl => ?_)
    refine lv_iconst (v := 1) hx hb dL_stands_15 (by decide) ?_
    exact he_ri hQ hx hb hr hlk hP hD hS dL_stands_16 (Nat.le_of_ble_eq_true rfl) (Nat.le_of_ble_eq_true rfl) ([(x0, .inr (9, fx_q_5)), (m0, .inr (10, fm_q_5)), (aL g o0 1 fo)] ++ (Rc_q_5 ++ Rm_q_5)) rfl ⟨fo, ⟨_, _, _, _, rfl, hc, hm⟩, hcd.symm, fun h9 => absurd (hcd.symm.trans h9) (by decide)⟩
set_option maxHeartbeats 8000000 in
set_option maxRecDepth 100000 in
theorem w_show (l : Launch) (hlt : l.stackTraces = false) (g : he_G) (x0 m0 o0 : Nat) (Sx Sm : AbS) (t : Int32) (fo : Nat → Int64) (W : va_W) (x_ : Int32) (y_ : Int32) (hOk : okS Sx) (hI : IL g x0 m0 o0 Sx Sm t fo W) : he_I l yL_show wsL_show 8 129 1 6 g [.ref x0, .int x_, .int y_, .ref o0] W (fun (r : Int32) (W2 : va_W) => ∃ fo2 : Nat → Int64, IL g x0 m0 o0 (sp_show Sx x_ y_).2.2 Sm t fo2 W2 ∧ r = (sp_show Sx x_ y_).1 ∧ ((sp_show Sx x_ y_).1 = 0 → fo2 0 = Int32.toInt64 (sp_show Sx x_ y_).2.1)) (fun W2 => W2) := by
  obtain ⟨fx, fm, Rc, Rm, rfl, hc, hm⟩ := hI
  refine he_beginH (l := l) (g := g) (y := yL_show) (wl := wsL_show) (fr := 8) (lo := 129) (mc := 1) (ms := 6) (av := [.ref x0, .int x_, .int y_, .ref o0]) (ws := [(x0, .inr (9, fx)), (m0, .inr (10, fm)), (aL g o0 1 fo)] ++ (Rc ++ Rm)) (cc := cL_show) (maxL := 5) (ret := (some .int)) (hh := [(0, 10, 13, 13)]) (fun A => va_Qi (fun (r : Int32) (W2 : va_W) => ∃ fo2 : Nat → Int64, IL g x0 m0 o0 (sp_show Sx x_ y_).2.2 Sm t fo2 W2 ∧ r = (sp_show Sx x_ y_).1 ∧ ((sp_show Sx x_ y_).1 = 0 → fo2 0 = Int32.toInt64 (sp_show Sx x_ y_).2.1)) (fun u t => he_post g A ((fun (W2 : va_W) => W2) u) t) A) (by decide) rfl (Nat.le_of_ble_eq_true rfl) ?_
  intro p e s m args below meth c A ls H locs Q hQ htab hB
  obtain ⟨hx, hb, hr, hml, hown, hts, hlk, hin, hP, hK, hD, hS, hA, hE, hl⟩ := hB
  have hl : lv_has ls 5 [(0, .ref x0), (1, .int x_), (2, .int y_), (3, .ref o0)] := hl
  have cl13 := hts (.classLink RL 13 "java/lang/IllegalArgumentException") (by decide +kernel)
  refine lv_aload_n hx hb dL_show_0 rfl (lv_at hl 3 rfl) ?_
  refine lv_iconst (v := 0) hx hb dL_show_1 (by decide) ?_
  refine lv_aload_n hx hb dL_show_2 rfl (lv_at hl 0 rfl) ?_
  refine lv_iload_n hx hb dL_show_3 rfl (lv_at hl 1 rfl) ?_
  refine lv_iload_n hx hb dL_show_4 rfl (lv_at hl 2 rfl) ?_
  rcases k_show l hlt g x0 Sx _ x_ y_ hOk hc with ⟨hcd, h9⟩ | ⟨hcd, W9, hI9, h9⟩
  · refine he_ci (wc := ([(x0, .inr (9, fx)), (m0, .inr (10, fm)), (aL g o0 1 fo)] ++ (Rc ++ Rm))) (wr := []) (va_runV (As := [.int x_, .int y_]) (rest := [.int 0, .ref o0]) ⟨hx, hb, hml, hown, hts⟩ (il_cI h9 hm H.size) (cwV 2 hts gL_show_X10_show rfl rfl rfl (by decide +kernel) ⟨Nat.le_of_ble_eq_true rfl, Nat.le_of_ble_eq_true rfl⟩) (he_preV (wc := ([(x0, .inr (9, fx)), (m0, .inr (10, fm)), (aL g o0 1 fo)] ++ (Rc ++ Rm))) hK hP hD hS hA hE (List.range (([(x0, .inr (9, fx)), (m0, .inr (10, fm)), (aL g o0 1 fo)] ++ (Rc ++ Rm)) : va_W).length) (he_all _) (he_allnd _) 0 rfl rfl) rfl rfl hl.1 rfl (lv_room (Nat.le_of_ble_eq_true rfl)) dL_show_5 ⟨(Nat.le_of_ble_eq_true rfl), (Nat.le_of_ble_eq_true rfl)⟩) hP hD hS hA (List.range (([(x0, .inr (9, fx)), (m0, .inr (10, fm)), (aL g o0 1 fo)] ++ (Rc ++ Rm)) : va_W).length) [] (he_all _) rfl rfl (fun _ h9 => absurd h9 List.not_mem_nil) (fun r_1 u_2 H locs hu_3 hP hD hS => ?_)
    obtain ⟨hI9, hp5⟩ := hu_3
    obtain ⟨fx_q_4, fm_q_4, Rc_q_4, Rm_q_4, rfl, hc, hm⟩ := hI9
    have hP : va_P g.1 vwCl ([(x0, .inr (9, fx_q_4)), (m0, .inr (10, fm_q_4)), (aL g o0 1 fo)] ++ (Rc_q_4 ++ Rm_q_4)) H := hP
    have hD : va_D A ([(x0, .inr (9, fx_q_4)), (m0, .inr (10, fm_q_4)), (aL g o0 1 fo)] ++ (Rc_q_4 ++ Rm_q_4)) := hD
    refine lv_i2l (v := Int32.toInt64 r_1) hx hb dL_show_8 rfl ?_
    refine he_last hx hb hK hP hD hS 2 rfl 0 (by decide) (by decide) (by decide) dL_show_9 (fun H locs hP hD hS => ?_)
    have hP : va_P g.1 vwCl ([(x0, .inr (9, fx_q_4)), (m0, .inr (10, fm_q_4)), (aL g o0 1 (vp_updL fo 0 (Int32.toInt64 r_1)))] ++ (Rc_q_4 ++ Rm_q_4)) H := hP
    have hD : va_D A ([(x0, .inr (9, fx_q_4)), (m0, .inr (10, fm_q_4)), (aL g o0 1 (vp_updL fo 0 (Int32.toInt64 r_1)))] ++ (Rc_q_4 ++ Rm_q_4)) := hD
    refine lv_goto (tgt := 17) hx hb dL_show_10 (by decide) ?_
    refine lv_iconst (v := 0) hx hb dL_show_17 (by decide) ?_
    exact he_ri hQ hx hb hr hlk hP hD hS dL_show_18 (Nat.le_of_ble_eq_true rfl) (Nat.le_of_ble_eq_true rfl) ([(x0, .inr (9, fx_q_4)), (m0, .inr (10, fm_q_4)), (aL g o0 1 (vp_updL fo 0 (Int32.toInt64 r_1)))] ++ (Rc_q_4 ++ Rm_q_4)) rfl ⟨(vp_updL fo 0 (Int32.toInt64 r_1)), ⟨_, _, _, _, rfl, hc, hm⟩, hcd.symm, fun _ => (by rw [show (vp_updL fo 0 (Int32.toInt64 r_1)) 0 = _ from vp_updL_s _ _ _]; exact (congrArg Int32.toInt64 hp5))⟩
  · obtain ⟨W8, hI8, h8⟩ := il_Ti (o0 := o0) (fo := fo) h9 hI9 hm
    refine he_xi (En := "java/lang/IllegalArgumentException") (wx := W8) (wc := ([(x0, .inr (9, fx)), (m0, .inr (10, fm)), (aL g o0 1 fo)] ++ (Rc ++ Rm))) (wr := []) (vx_runV (As := [.int x_, .int y_]) (rest := [.int 0, .ref o0]) ⟨hx, hb, hml, hown, hts⟩ (h8 H.size) (cwV 2 hts gL_show_X10_show rfl rfl rfl (by decide +kernel) ⟨Nat.le_of_ble_eq_true rfl, Nat.le_of_ble_eq_true rfl⟩) (he_preV (wc := ([(x0, .inr (9, fx)), (m0, .inr (10, fm)), (aL g o0 1 fo)] ++ (Rc ++ Rm))) hK hP hD hS hA hE (List.range (([(x0, .inr (9, fx)), (m0, .inr (10, fm)), (aL g o0 1 fo)] ++ (Rc ++ Rm)) : va_W).length) (he_all _) (he_allnd _) 0 rfl rfl) rfl rfl hl.1 rfl (lv_room (Nat.le_of_ble_eq_true rfl)) dL_show_5 ⟨(Nat.le_of_ble_eq_true rfl), (Nat.le_of_ble_eq_true rfl)⟩) hP hD hS hA (List.range (([(x0, .inr (9, fx)), (m0, .inr (10, fm)), (aL g o0 1 fo)] ++ (Rc ++ Rm)) : va_W).length) [] (he_all _) rfl rfl (fun _ h9 => absurd h9 List.not_mem_nil) (fun ce q9 H locs hP hD hS hce hcv hcl => ?_)
    obtain ⟨fx_q_5, fm_q_5, Rc_q_5, Rm_q_5, rfl, hc, hm⟩ := hI8
    have hP : va_P g.1 vwCl ([(x0, .inr (9, fx_q_5)), (m0, .inr (10, fm_q_5)), (aL g o0 1 fo)] ++ (Rc_q_5 ++ Rm_q_5)) H := hP
    have hD : va_D A ([(x0, .inr (9, fx_q_5)), (m0, .inr (10, fm_q_5)), (aL g o0 1 fo)] ++ (Rc_q_5 ++ Rm_q_5)) := hD
    refine vx_catch (name := "java/lang/IllegalArgumentException") (E := "java/lang/IllegalArgumentException") hown [] ⟨0, 10, 13, 13⟩ [] htab (fun z h9 => nomatch h9) (by decide) (by decide) cl13 (va_Nw.use rfl (hE.cast ("java/lang/IllegalArgumentException", "java/lang/IllegalArgumentException") (by decide))) hce hcv hcl ?_
    refine W.widen (k := 1) (n := 6) (Nat.le_of_ble_eq_true rfl) (Nat.le_of_ble_eq_true rfl) ?_
    refine lv_astore (lv' := [(4, .ref q9), (0, .ref x0), (1, .int x_), (2, .int y_), (3, .ref o0)]) hx hb dL_show_13 hl (by decide) rfl (fun ls hl => ?_)
    refine lv_iconst (v := 1) hx hb dL_show_15 (by decide) ?_
    exact he_ri hQ hx hb hr hlk hP hD hS dL_show_16 (Nat.le_of_ble_eq_true rfl) (Nat.le_of_ble_eq_true rfl) ([(x0, .inr (9, fx_q_5)), (m0, .inr (10, fm_q_5)), (aL g o0 1 fo)] ++ (Rc_q_5 ++ Rm_q_5)) rfl ⟨fo, ⟨_, _, _, _, rfl, hc, hm⟩, hcd.symm, fun h9 => absurd (hcd.symm.trans h9) (by decide)⟩
set_option maxHeartbeats 8000000 in
set_option maxRecDepth 100000 in
theorem w_offers (l : Launch) (hlt : l.stackTraces = false) (g : he_G) (x0 m0 o0 : Nat) (Sx Sm : AbS) (t : Int32) (fo : Nat → Int64) (W : va_W) (x_ : Int32) (y_ : Int32) (z_ : Int32) (hI : IL g x0 m0 o0 Sx Sm t fo W) : he_I l yL_offers wsL_offers 8 126 1 6 g [.ref x0, .int x_, .int y_, .int z_, .ref o0] W (fun (r : Int32) (W2 : va_W) => ∃ fo2 : Nat → Int64, IL g x0 m0 o0 (sp_offers Sx x_ y_ z_).2.2 Sm t fo2 W2 ∧ r = (sp_offers Sx x_ y_ z_).1 ∧ ((sp_offers Sx x_ y_ z_).1 = 0 → fo2 0 = Int32.toInt64 (sp_offers Sx x_ y_ z_).2.1)) (fun W2 => W2) := by
  obtain ⟨fx, fm, Rc, Rm, rfl, hc, hm⟩ := hI
  refine he_beginH (l := l) (g := g) (y := yL_offers) (wl := wsL_offers) (fr := 8) (lo := 126) (mc := 1) (ms := 6) (av := [.ref x0, .int x_, .int y_, .int z_, .ref o0]) (ws := [(x0, .inr (9, fx)), (m0, .inr (10, fm)), (aL g o0 1 fo)] ++ (Rc ++ Rm)) (cc := cL_offers) (maxL := 6) (ret := (some .int)) (hh := [(0, 12, 15, 13)]) (fun A => va_Qi (fun (r : Int32) (W2 : va_W) => ∃ fo2 : Nat → Int64, IL g x0 m0 o0 (sp_offers Sx x_ y_ z_).2.2 Sm t fo2 W2 ∧ r = (sp_offers Sx x_ y_ z_).1 ∧ ((sp_offers Sx x_ y_ z_).1 = 0 → fo2 0 = Int32.toInt64 (sp_offers Sx x_ y_ z_).2.1)) (fun u t => he_post g A ((fun (W2 : va_W) => W2) u) t) A) (by decide) rfl (Nat.le_of_ble_eq_true rfl) ?_
  intro p e s m args below meth c A ls H locs Q hQ htab hB
  obtain ⟨hx, hb, hr, hml, hown, hts, hlk, hin, hP, hK, hD, hS, hA, hE, hl⟩ := hB
  have hl : lv_has ls 6 [(0, .ref x0), (1, .int x_), (2, .int y_), (3, .int z_), (4, .ref o0)] := hl
  have cl13 := hts (.classLink RL 13 "java/lang/IllegalArgumentException") (by decide +kernel)
  refine lv_aload hx hb dL_offers_0 (lv_at hl 4 rfl) ?_
  refine lv_iconst (v := 0) hx hb dL_offers_2 (by decide) ?_
  refine lv_aload_n hx hb dL_offers_3 rfl (lv_at hl 0 rfl) ?_
  refine lv_iload_n hx hb dL_offers_4 rfl (lv_at hl 1 rfl) ?_
  refine lv_iload_n hx hb dL_offers_5 rfl (lv_at hl 2 rfl) ?_
  refine lv_iload_n hx hb dL_offers_6 rfl (lv_at hl 3 rfl) ?_
  rcases k_offers l hlt g x0 Sx _ x_ y_ z_ hc with ⟨hcd, h9⟩ | ⟨hcd, W9, hI9, h9⟩
  · refine he_ci (wc := ([(x0, .inr (9, fx)), (m0, .inr (10, fm)), (aL g o0 1 fo)] ++ (Rc ++ Rm))) (wr := []) (va_runV (As := [.int x_, .int y_, .int z_]) (rest := [.int 0, .ref o0]) ⟨hx, hb, hml, hown, hts⟩ (il_cI h9 hm H.size) (cwV 3 hts gL_offers_X10_offers rfl rfl rfl (by decide +kernel) ⟨Nat.le_of_ble_eq_true rfl, Nat.le_of_ble_eq_true rfl⟩) (he_preV (wc := ([(x0, .inr (9, fx)), (m0, .inr (10, fm)), (aL g o0 1 fo)] ++ (Rc ++ Rm))) hK hP hD hS hA hE (List.range (([(x0, .inr (9, fx)), (m0, .inr (10, fm)), (aL g o0 1 fo)] ++ (Rc ++ Rm)) : va_W).length) (he_all _) (he_allnd _) 0 rfl rfl) rfl rfl hl.1 rfl (lv_room (Nat.le_of_ble_eq_true rfl)) dL_offers_7 ⟨(Nat.le_of_ble_eq_true rfl), (Nat.le_of_ble_eq_true rfl)⟩) hP hD hS hA (List.range (([(x0, .inr (9, fx)), (m0, .inr (10, fm)), (aL g o0 1 fo)] ++ (Rc ++ Rm)) : va_W).length) [] (he_all _) rfl rfl (fun _ h9 => absurd h9 List.not_mem_nil) (fun r_1 u_2 H locs hu_3 hP hD hS => ?_)
    obtain ⟨hI9, hp7⟩ := hu_3
    obtain ⟨fx_q_4, fm_q_4, Rc_q_4, Rm_q_4, rfl, hc, hm⟩ := hI9
    have hP : va_P g.1 vwCl ([(x0, .inr (9, fx_q_4)), (m0, .inr (10, fm_q_4)), (aL g o0 1 fo)] ++ (Rc_q_4 ++ Rm_q_4)) H := hP
    have hD : va_D A ([(x0, .inr (9, fx_q_4)), (m0, .inr (10, fm_q_4)), (aL g o0 1 fo)] ++ (Rc_q_4 ++ Rm_q_4)) := hD
    refine lv_i2l (v := Int32.toInt64 r_1) hx hb dL_offers_10 rfl ?_
    refine he_last hx hb hK hP hD hS 2 rfl 0 (by decide) (by decide) (by decide) dL_offers_11 (fun H locs hP hD hS => ?_)
    have hP : va_P g.1 vwCl ([(x0, .inr (9, fx_q_4)), (m0, .inr (10, fm_q_4)), (aL g o0 1 (vp_updL fo 0 (Int32.toInt64 r_1)))] ++ (Rc_q_4 ++ Rm_q_4)) H := hP
    have hD : va_D A ([(x0, .inr (9, fx_q_4)), (m0, .inr (10, fm_q_4)), (aL g o0 1 (vp_updL fo 0 (Int32.toInt64 r_1)))] ++ (Rc_q_4 ++ Rm_q_4)) := hD
    refine lv_goto (tgt := 19) hx hb dL_offers_12 (by decide) ?_
    refine lv_iconst (v := 0) hx hb dL_offers_19 (by decide) ?_
    exact he_ri hQ hx hb hr hlk hP hD hS dL_offers_20 (Nat.le_of_ble_eq_true rfl) (Nat.le_of_ble_eq_true rfl) ([(x0, .inr (9, fx_q_4)), (m0, .inr (10, fm_q_4)), (aL g o0 1 (vp_updL fo 0 (Int32.toInt64 r_1)))] ++ (Rc_q_4 ++ Rm_q_4)) rfl ⟨(vp_updL fo 0 (Int32.toInt64 r_1)), ⟨_, _, _, _, rfl, hc, hm⟩, hcd.symm, fun _ => (by rw [show (vp_updL fo 0 (Int32.toInt64 r_1)) 0 = _ from vp_updL_s _ _ _]; exact (congrArg Int32.toInt64 hp7))⟩
  · obtain ⟨W8, hI8, h8⟩ := il_Ti (o0 := o0) (fo := fo) h9 hI9 hm
    refine he_xi (En := "java/lang/IllegalArgumentException") (wx := W8) (wc := ([(x0, .inr (9, fx)), (m0, .inr (10, fm)), (aL g o0 1 fo)] ++ (Rc ++ Rm))) (wr := []) (vx_runV (As := [.int x_, .int y_, .int z_]) (rest := [.int 0, .ref o0]) ⟨hx, hb, hml, hown, hts⟩ (h8 H.size) (cwV 3 hts gL_offers_X10_offers rfl rfl rfl (by decide +kernel) ⟨Nat.le_of_ble_eq_true rfl, Nat.le_of_ble_eq_true rfl⟩) (he_preV (wc := ([(x0, .inr (9, fx)), (m0, .inr (10, fm)), (aL g o0 1 fo)] ++ (Rc ++ Rm))) hK hP hD hS hA hE (List.range (([(x0, .inr (9, fx)), (m0, .inr (10, fm)), (aL g o0 1 fo)] ++ (Rc ++ Rm)) : va_W).length) (he_all _) (he_allnd _) 0 rfl rfl) rfl rfl hl.1 rfl (lv_room (Nat.le_of_ble_eq_true rfl)) dL_offers_7 ⟨(Nat.le_of_ble_eq_true rfl), (Nat.le_of_ble_eq_true rfl)⟩) hP hD hS hA (List.range (([(x0, .inr (9, fx)), (m0, .inr (10, fm)), (aL g o0 1 fo)] ++ (Rc ++ Rm)) : va_W).length) [] (he_all _) rfl rfl (fun _ h9 => absurd h9 List.not_mem_nil) (fun ce q9 H locs hP hD hS hce hcv hcl => ?_)
    obtain ⟨fx_q_5, fm_q_5, Rc_q_5, Rm_q_5, rfl, hc, hm⟩ := hI8
    have hP : va_P g.1 vwCl ([(x0, .inr (9, fx_q_5)), (m0, .inr (10, fm_q_5)), (aL g o0 1 fo)] ++ (Rc_q_5 ++ Rm_q_5)) H := hP
    have hD : va_D A ([(x0, .inr (9, fx_q_5)), (m0, .inr (10, fm_q_5)), (aL g o0 1 fo)] ++ (Rc_q_5 ++ Rm_q_5)) := hD
    refine vx_catch (name := "java/lang/IllegalArgumentException") (E := "java/lang/IllegalArgumentException") hown [] ⟨0, 12, 15, 13⟩ [] htab (fun z h9 => nomatch h9) (by decide) (by decide) cl13 (va_Nw.use rfl (hE.cast ("java/lang/IllegalArgumentException", "java/lang/IllegalArgumentException") (by decide))) hce hcv hcl ?_
    refine W.widen (k := 1) (n := 6) (Nat.le_of_ble_eq_true rfl) (Nat.le_of_ble_eq_true rfl) ?_
    refine lv_astore (lv' := [(5, .ref q9), (0, .ref x0), (1, .int x_), (2, .int y_), (3, .int z_), (4, .ref o0)]) hx hb dL_offers_15 hl (by decide) rfl (fun ls hl => ?_)
    refine lv_iconst (v := 1) hx hb dL_offers_17 (by decide) ?_
    exact he_ri hQ hx hb hr hlk hP hD hS dL_offers_18 (Nat.le_of_ble_eq_true rfl) (Nat.le_of_ble_eq_true rfl) ([(x0, .inr (9, fx_q_5)), (m0, .inr (10, fm_q_5)), (aL g o0 1 fo)] ++ (Rc_q_5 ++ Rm_q_5)) rfl ⟨fo, ⟨_, _, _, _, rfl, hc, hm⟩, hcd.symm, fun h9 => absurd (hcd.symm.trans h9) (by decide)⟩
set_option maxHeartbeats 8000000 in
set_option maxRecDepth 100000 in
theorem w_serves (l : Launch) (hlt : l.stackTraces = false) (g : he_G) (x0 m0 o0 : Nat) (Sx Sm : AbS) (t : Int32) (fo : Nat → Int64) (W : va_W) (x_ : Int32) (hO : okO Sx.2.2.2.2) (hI : IL g x0 m0 o0 Sx Sm t fo W) : he_I l yL_serves wsL_serves 8 124 1 6 g [.ref x0, .int x_, .ref o0] W (fun (r : Int32) (W2 : va_W) => ∃ fo2 : Nat → Int64, IL g x0 m0 o0 (sp_serves Sx x_).2.2 Sm t fo2 W2 ∧ r = (sp_serves Sx x_).1 ∧ ((sp_serves Sx x_).1 = 0 → fo2 0 = Int32.toInt64 (sp_serves Sx x_).2.1)) (fun W2 => W2) := by
  obtain ⟨fx, fm, Rc, Rm, rfl, hc, hm⟩ := hI
  refine he_beginH (l := l) (g := g) (y := yL_serves) (wl := wsL_serves) (fr := 8) (lo := 124) (mc := 1) (ms := 6) (av := [.ref x0, .int x_, .ref o0]) (ws := [(x0, .inr (9, fx)), (m0, .inr (10, fm)), (aL g o0 1 fo)] ++ (Rc ++ Rm)) (cc := cL_serves) (maxL := 4) (ret := (some .int)) (hh := [(0, 9, 12, 13)]) (fun A => va_Qi (fun (r : Int32) (W2 : va_W) => ∃ fo2 : Nat → Int64, IL g x0 m0 o0 (sp_serves Sx x_).2.2 Sm t fo2 W2 ∧ r = (sp_serves Sx x_).1 ∧ ((sp_serves Sx x_).1 = 0 → fo2 0 = Int32.toInt64 (sp_serves Sx x_).2.1)) (fun u t => he_post g A ((fun (W2 : va_W) => W2) u) t) A) (by decide) rfl (Nat.le_of_ble_eq_true rfl) ?_
  intro p e s m args below meth c A ls H locs Q hQ htab hB
  obtain ⟨hx, hb, hr, hml, hown, hts, hlk, hin, hP, hK, hD, hS, hA, hE, hl⟩ := hB
  have hl : lv_has ls 4 [(0, .ref x0), (1, .int x_), (2, .ref o0)] := hl
  have cl13 := hts (.classLink RL 13 "java/lang/IllegalArgumentException") (by decide +kernel)
  refine lv_aload_n hx hb dL_serves_0 rfl (lv_at hl 2 rfl) ?_
  refine lv_iconst (v := 0) hx hb dL_serves_1 (by decide) ?_
  refine lv_aload_n hx hb dL_serves_2 rfl (lv_at hl 0 rfl) ?_
  refine lv_iload_n hx hb dL_serves_3 rfl (lv_at hl 1 rfl) ?_
  rcases k_serves l hlt g x0 Sx _ x_ hO hc with ⟨hcd, h9⟩ | ⟨hcd, W9, hI9, h9⟩
  · refine he_ci (wc := ([(x0, .inr (9, fx)), (m0, .inr (10, fm)), (aL g o0 1 fo)] ++ (Rc ++ Rm))) (wr := []) (va_runV (As := [.int x_]) (rest := [.int 0, .ref o0]) ⟨hx, hb, hml, hown, hts⟩ (il_cI h9 hm H.size) (cwV 1 hts gL_serves_X10_serves rfl rfl rfl (by decide +kernel) ⟨Nat.le_of_ble_eq_true rfl, Nat.le_of_ble_eq_true rfl⟩) (he_preV (wc := ([(x0, .inr (9, fx)), (m0, .inr (10, fm)), (aL g o0 1 fo)] ++ (Rc ++ Rm))) hK hP hD hS hA hE (List.range (([(x0, .inr (9, fx)), (m0, .inr (10, fm)), (aL g o0 1 fo)] ++ (Rc ++ Rm)) : va_W).length) (he_all _) (he_allnd _) 0 rfl rfl) rfl rfl hl.1 rfl (lv_room (Nat.le_of_ble_eq_true rfl)) dL_serves_4 ⟨(Nat.le_of_ble_eq_true rfl), (Nat.le_of_ble_eq_true rfl)⟩) hP hD hS hA (List.range (([(x0, .inr (9, fx)), (m0, .inr (10, fm)), (aL g o0 1 fo)] ++ (Rc ++ Rm)) : va_W).length) [] (he_all _) rfl rfl (fun _ h9 => absurd h9 List.not_mem_nil) (fun r_1 u_2 H locs hu_3 hP hD hS => ?_)
    obtain ⟨hI9, hp4⟩ := hu_3
    obtain ⟨fx_q_4, fm_q_4, Rc_q_4, Rm_q_4, rfl, hc, hm⟩ := hI9
    have hP : va_P g.1 vwCl ([(x0, .inr (9, fx_q_4)), (m0, .inr (10, fm_q_4)), (aL g o0 1 fo)] ++ (Rc_q_4 ++ Rm_q_4)) H := hP
    have hD : va_D A ([(x0, .inr (9, fx_q_4)), (m0, .inr (10, fm_q_4)), (aL g o0 1 fo)] ++ (Rc_q_4 ++ Rm_q_4)) := hD
    refine lv_i2l (v := Int32.toInt64 r_1) hx hb dL_serves_7 rfl ?_
    refine he_last hx hb hK hP hD hS 2 rfl 0 (by decide) (by decide) (by decide) dL_serves_8 (fun H locs hP hD hS => ?_)
    have hP : va_P g.1 vwCl ([(x0, .inr (9, fx_q_4)), (m0, .inr (10, fm_q_4)), (aL g o0 1 (vp_updL fo 0 (Int32.toInt64 r_1)))] ++ (Rc_q_4 ++ Rm_q_4)) H := hP
    have hD : va_D A ([(x0, .inr (9, fx_q_4)), (m0, .inr (10, fm_q_4)), (aL g o0 1 (vp_updL fo 0 (Int32.toInt64 r_1)))] ++ (Rc_q_4 ++ Rm_q_4)) := hD
    refine lv_goto (tgt := 15) hx hb dL_serves_9 (by decide) ?_
    refine lv_iconst (v := 0) hx hb dL_serves_15 (by decide) ?_
    exact he_ri hQ hx hb hr hlk hP hD hS dL_serves_16 (Nat.le_of_ble_eq_true rfl) (Nat.le_of_ble_eq_true rfl) ([(x0, .inr (9, fx_q_4)), (m0, .inr (10, fm_q_4)), (aL g o0 1 (vp_updL fo 0 (Int32.toInt64 r_1)))] ++ (Rc_q_4 ++ Rm_q_4)) rfl ⟨(vp_updL fo 0 (Int32.toInt64 r_1)), ⟨_, _, _, _, rfl, hc, hm⟩, hcd.symm, fun _ => (by rw [show (vp_updL fo 0 (Int32.toInt64 r_1)) 0 = _ from vp_updL_s _ _ _]; exact (congrArg Int32.toInt64 hp4))⟩
  · obtain ⟨W8, hI8, h8⟩ := il_Ti (o0 := o0) (fo := fo) h9 hI9 hm
    refine he_xi (En := "java/lang/IllegalArgumentException") (wx := W8) (wc := ([(x0, .inr (9, fx)), (m0, .inr (10, fm)), (aL g o0 1 fo)] ++ (Rc ++ Rm))) (wr := []) (vx_runV (As := [.int x_]) (rest := [.int 0, .ref o0]) ⟨hx, hb, hml, hown, hts⟩ (h8 H.size) (cwV 1 hts gL_serves_X10_serves rfl rfl rfl (by decide +kernel) ⟨Nat.le_of_ble_eq_true rfl, Nat.le_of_ble_eq_true rfl⟩) (he_preV (wc := ([(x0, .inr (9, fx)), (m0, .inr (10, fm)), (aL g o0 1 fo)] ++ (Rc ++ Rm))) hK hP hD hS hA hE (List.range (([(x0, .inr (9, fx)), (m0, .inr (10, fm)), (aL g o0 1 fo)] ++ (Rc ++ Rm)) : va_W).length) (he_all _) (he_allnd _) 0 rfl rfl) rfl rfl hl.1 rfl (lv_room (Nat.le_of_ble_eq_true rfl)) dL_serves_4 ⟨(Nat.le_of_ble_eq_true rfl), (Nat.le_of_ble_eq_true rfl)⟩) hP hD hS hA (List.range (([(x0, .inr (9, fx)), (m0, .inr (10, fm)), (aL g o0 1 fo)] ++ (Rc ++ Rm)) : va_W).length) [] (he_all _) rfl rfl (fun _ h9 => absurd h9 List.not_mem_nil) (fun ce q9 H locs hP hD hS hce hcv hcl => ?_)
    obtain ⟨fx_q_5, fm_q_5, Rc_q_5, Rm_q_5, rfl, hc, hm⟩ := hI8
    have hP : va_P g.1 vwCl ([(x0, .inr (9, fx_q_5)), (m0, .inr (10, fm_q_5)), (aL g o0 1 fo)] ++ (Rc_q_5 ++ Rm_q_5)) H := hP
    have hD : va_D A ([(x0, .inr (9, fx_q_5)), (m0, .inr (10, fm_q_5)), (aL g o0 1 fo)] ++ (Rc_q_5 ++ Rm_q_5)) := hD
    refine vx_catch (name := "java/lang/IllegalArgumentException") (E := "java/lang/IllegalArgumentException") hown [] ⟨0, 9, 12, 13⟩ [] htab (fun z h9 => nomatch h9) (by decide) (by decide) cl13 (va_Nw.use rfl (hE.cast ("java/lang/IllegalArgumentException", "java/lang/IllegalArgumentException") (by decide))) hce hcv hcl ?_
    refine W.widen (k := 1) (n := 6) (Nat.le_of_ble_eq_true rfl) (Nat.le_of_ble_eq_true rfl) ?_
    refine lv_astore_n (lv' := [(3, .ref q9), (0, .ref x0), (1, .int x_), (2, .ref o0)]) hx hb dL_serves_12 rfl hl (by decide) rfl (fun ls hl => ?_)
    refine lv_iconst (v := 1) hx hb dL_serves_13 (by decide) ?_
    exact he_ri hQ hx hb hr hlk hP hD hS dL_serves_14 (Nat.le_of_ble_eq_true rfl) (Nat.le_of_ble_eq_true rfl) ([(x0, .inr (9, fx_q_5)), (m0, .inr (10, fm_q_5)), (aL g o0 1 fo)] ++ (Rc_q_5 ++ Rm_q_5)) rfl ⟨fo, ⟨_, _, _, _, rfl, hc, hm⟩, hcd.symm, fun h9 => absurd (hcd.symm.trans h9) (by decide)⟩
