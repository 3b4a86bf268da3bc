set_option maxHeartbeats 8000000 in
set_option maxRecDepth 100000 in
theorem w_sums (l : Launch) (hlt : l.stackTraces = false) (g : he_G) (x0 m0 o0 : Nat) (Sx Sm : AbS) (t : Int32) (fo : Nat → Int64) (W : va_W) (x_ : Int32) (hI : IL g x0 m0 o0 Sx Sm t fo W) : he_I l yL_sums wsL_sums 8 124 1 6 g [.ref x0, .int x_, .ref o0] W (fun (r : Int32) (W2 : va_W) => ∃ fo2 : Nat → Int64, IL g x0 m0 o0 (sp_sums Sx x_).2.2 Sm t fo2 W2 ∧ r = (sp_sums Sx x_).1 ∧ ((sp_sums Sx x_).1 = 0 → fo2 0 = Int32.toInt64 (sp_sums Sx x_).2.1)) (fun W2 => W2) := by
  obtain ⟨fx, fm, Rc, Rm, rfl, hc, hm⟩ := hI
  refine he_beginH (l := l) (g := g) (y := yL_sums) (wl := wsL_sums) (fr := 8) (lo := 124) (mc := 1) (ms := 6) (av := [.ref x0, .int x_, .ref o0]) (ws := [(x0, .inr (9, fx)), (m0, .inr (10, fm)), (aL g o0 1 fo)] ++ (Rc ++ Rm)) (cc := cL_sums) (maxL := 4) (ret := (some .int)) (hh := [(0, 9, 12, 13)]) (fun A => va_Qi (fun (r : Int32) (W2 : va_W) => ∃ fo2 : Nat → Int64, IL g x0 m0 o0 (sp_sums Sx x_).2.2 Sm t fo2 W2 ∧ r = (sp_sums Sx x_).1 ∧ ((sp_sums Sx x_).1 = 0 → fo2 0 = Int32.toInt64 (sp_sums Sx x_).2.1)) (fun u t => he_post g A ((fun (W2 : va_W) => W2) u) t) A) (by decide) rfl (Nat.le_of_ble_eq_true rfl) ?_
  intro p e s m args below meth c A ls H locs Q hQ htab hB
  obtain ⟨hx, hb, hr, hml, hown, hts, hlk, hin, hP, hK, hD, hS, hA, hE, hl⟩ := hB
  have hl : lv_has ls 4 [(0, .ref x0), (1, .int x_), (2, .ref o0)] := hl
  have cl13 := hts (.classLink RL 13 "java/lang/IllegalArgumentException") (by decide +kernel)
  refine lv_aload_n hx hb dL_sums_0 rfl (lv_at hl 2 rfl) ?_
  refine lv_iconst (v := 0) hx hb dL_sums_1 (by decide) ?_
  refine lv_aload_n hx hb dL_sums_2 rfl (lv_at hl 0 rfl) ?_
  refine lv_iload_n hx hb dL_sums_3 rfl (lv_at hl 1 rfl) ?_
  rcases k_sums l hlt g x0 Sx _ x_ hc with ⟨hcd, h9⟩ | ⟨hcd, W9, hI9, h9⟩
  · refine he_ci (wc := ([(x0, .inr (9, fx)), (m0, .inr (10, fm)), (aL g o0 1 fo)] ++ (Rc ++ Rm))) (wr := []) (va_runV (As := [.int x_]) (rest := [.int 0, .ref o0]) ⟨hx, hb, hml, hown, hts⟩ (il_cI h9 hm H.size) (cwV 1 hts gL_sums_X10_sums rfl rfl rfl (by decide +kernel) ⟨Nat.le_of_ble_eq_true rfl, Nat.le_of_ble_eq_true rfl⟩) (he_preV (wc := ([(x0, .inr (9, fx)), (m0, .inr (10, fm)), (aL g o0 1 fo)] ++ (Rc ++ Rm))) hK hP hD hS hA hE (List.range (([(x0, .inr (9, fx)), (m0, .inr (10, fm)), (aL g o0 1 fo)] ++ (Rc ++ Rm)) : va_W).length) (he_all _) (he_allnd _) 0 rfl rfl) rfl rfl hl.1 rfl (lv_room (Nat.le_of_ble_eq_true rfl)) dL_sums_4 ⟨(Nat.le_of_ble_eq_true rfl), (Nat.le_of_ble_eq_true rfl)⟩) hP hD hS hA (List.range (([(x0, .inr (9, fx)), (m0, .inr (10, fm)), (aL g o0 1 fo)] ++ (Rc ++ Rm)) : va_W).length) [] (he_all _) rfl rfl (fun _ h9 => absurd h9 List.not_mem_nil) (fun r_1 u_2 H locs hu_3 hP hD hS => ?_)
    obtain ⟨hI9, hp4⟩ := hu_3
    obtain ⟨fx_q_4, fm_q_4, Rc_q_4, Rm_q_4, rfl, hc, hm⟩ := hI9
    have hP : va_P g.1 vwCl ([(x0, .inr (9, fx_q_4)), (m0, .inr (10, fm_q_4)), (aL g o0 1 fo)] ++ (Rc_q_4 ++ Rm_q_4)) H := hP
    have hD : va_D A ([(x0, .inr (9, fx_q_4)), (m0, .inr (10, fm_q_4)), (aL g o0 1 fo)] ++ (Rc_q_4 ++ Rm_q_4)) := hD
    refine lv_i2l (v := Int32.toInt64 r_1) hx hb dL_sums_7 rfl ?_
    refine he_last hx hb hK hP hD hS 2 rfl 0 (by decide) (by decide) (by decide) dL_sums_8 (fun H locs hP hD hS => ?_)
    have hP : va_P g.1 vwCl ([(x0, .inr (9, fx_q_4)), (m0, .inr (10, fm_q_4)), (aL g o0 1 (vp_updL fo 0 (Int32.toInt64 r_1)))] ++ (Rc_q_4 ++ Rm_q_4)) H := hP
    have hD : va_D A ([(x0, .inr (9, fx_q_4)), (m0, .inr (10, fm_q_4)), (aL g o0 1 (vp_updL fo 0 (Int32.toInt64 r_1)))] ++ (Rc_q_4 ++ Rm_q_4)) := hD
    refine lv_goto (tgt := 15) hx hb dL_sums_9 (by decide) ?_
    refine lv_iconst (v := 0) hx hb dL_sums_15 (by decide) ?_
    exact he_ri hQ hx hb hr hlk hP hD hS dL_sums_16 (Nat.le_of_ble_eq_true rfl) (Nat.le_of_ble_eq_true rfl) ([(x0, .inr (9, fx_q_4)), (m0, .inr (10, fm_q_4)), (aL g o0 1 (vp_updL fo 0 (Int32.toInt64 r_1)))] ++ (Rc_q_4 ++ Rm_q_4)) rfl ⟨(vp_updL fo 0 (Int32.toInt64 r_1)), ⟨_, _, _, _, rfl, hc, hm⟩, hcd.symm, fun _ => (by rw [show (vp_updL fo 0 (Int32.toInt64 r_1)) 0 = _ from vp_updL_s _ _ _]; exact (congrArg Int32.toInt64 hp4))⟩
  · obtain ⟨W8, hI8, h8⟩ := il_Ti (o0 := o0) (fo := fo) h9 hI9 hm
    refine he_xi (En := "java/lang/IllegalArgumentException") (wx := W8) (wc := ([(x0, .inr (9, fx)), (m0, .inr (10, fm)), (aL g o0 1 fo)] ++ (Rc ++ Rm))) (wr := []) (vx_runV (As := [.int x_]) (rest := [.int 0, .ref o0]) ⟨hx, hb, hml, hown, hts⟩ (h8 H.size) (cwV 1 hts gL_sums_X10_sums rfl rfl rfl (by decide +kernel) ⟨Nat.le_of_ble_eq_true rfl, Nat.le_of_ble_eq_true rfl⟩) (he_preV (wc := ([(x0, .inr (9, fx)), (m0, .inr (10, fm)), (aL g o0 1 fo)] ++ (Rc ++ Rm))) hK hP hD hS hA hE (List.range (([(x0, .inr (9, fx)), (m0, .inr (10, fm)), (aL g o0 1 fo)] ++ (Rc ++ Rm)) : va_W).length) (he_all _) (he_allnd _) 0 rfl rfl) rfl rfl hl.1 rfl (lv_room (Nat.le_of_ble_eq_true rfl)) dL_sums_4 ⟨(Nat.le_of_ble_eq_true rfl), (Nat.le_of_ble_eq_true rfl)⟩) hP hD hS hA (List.range (([(x0, .inr (9, fx)), (m0, .inr (10, fm)), (aL g o0 1 fo)] ++ (Rc ++ Rm)) : va_W).length) [] (he_all _) rfl rfl (fun _ h9 => absurd h9 List.not_mem_nil) (fun ce q9 H locs hP hD hS hce hcv hcl => ?_)
    obtain ⟨fx_q_5, fm_q_5, Rc_q_5, Rm_q_5, rfl, hc, hm⟩ := hI8
    have hP : va_P g.1 vwCl ([(x0, .inr (9, fx_q_5)), (m0, .inr (10, fm_q_5)), (aL g o0 1 fo)] ++ (Rc_q_5 ++ Rm_q_5)) H := hP
    have hD : va_D A ([(x0, .inr (9, fx_q_5)), (m0, .inr (10, fm_q_5)), (aL g o0 1 fo)] ++ (Rc_q_5 ++ Rm_q_5)) := hD
    refine vx_catch (name := "java/lang/IllegalArgumentException") (E := "java/lang/IllegalArgumentException") hown [] ⟨0, 9, 12, 13⟩ [] htab (fun z h9 => nomatch h9) (by decide) (by decide) cl13 (va_Nw.use rfl (hE.cast ("java/lang/IllegalArgumentException", "java/lang/IllegalArgumentException") (by decide))) hce hcv hcl ?_
    refine W.widen (k := 1) (n := 6) (Nat.le_of_ble_eq_true rfl) (Nat.le_of_ble_eq_true rfl) ?_
    refine lv_astore_n (lv' := [(3, .ref q9), (0, .ref x0), (1, .int x_), (2, .ref o0)]) hx hb dL_sums_12 rfl hl (by decide) rfl (fun ls hl => ?_)
    refine lv_iconst (v := 1) hx hb dL_sums_13 (by decide) ?_
    exact he_ri hQ hx hb hr hlk hP hD hS dL_sums_14 (Nat.le_of_ble_eq_true rfl) (Nat.le_of_ble_eq_true rfl) ([(x0, .inr (9, fx_q_5)), (m0, .inr (10, fm_q_5)), (aL g o0 1 fo)] ++ (Rc_q_5 ++ Rm_q_5)) rfl ⟨fo, ⟨_, _, _, _, rfl, hc, hm⟩, hcd.symm, fun h9 => absurd (hcd.symm.trans h9) (by decide)⟩
set_option maxHeartbeats 8000000 in
set_option maxRecDepth 100000 in
theorem w_corks (l : Launch) (hlt : l.stackTraces = false) (g : he_G) (x0 m0 o0 : Nat) (Sx Sm : AbS) (t : Int32) (fo : Nat → Int64) (W : va_W) (x_ : Int32) (y_ : Int32) (hI : IL g x0 m0 o0 Sx Sm t fo W) : he_IN l yL_corks wsL_corks 8 125 1 6 g [.ref x0, .int x_, .int y_, .ref o0] W (fun (r : Int32) (W2 : va_W) => ∃ fo2 : Nat → Int64, IL g x0 m0 o0 (sp_corks Sx x_ y_).2.2 Sm t fo2 W2 ∧ r = (sp_corks Sx x_ y_).1 ∧ ((sp_corks Sx x_ y_).1 = 0 → fo2 0 = Int32.toInt64 (sp_corks Sx x_ y_).2.1)) (fun W2 => W2) := by
  obtain ⟨fx, fm, Rc, Rm, rfl, hc, hm⟩ := hI
  refine he_beginHN (l := l) (g := g) (y := yL_corks) (wl := wsL_corks) (fr := 8) (lo := 125) (mc := 1) (ms := 6) (av := [.ref x0, .int x_, .int y_, .ref o0]) (ws := [(x0, .inr (9, fx)), (m0, .inr (10, fm)), (aL g o0 1 fo)] ++ (Rc ++ Rm)) (cc := cL_corks) (maxL := 5) (ret := (some .int)) (hh := [(0, 10, 13, 25), (0, 10, 17, 13)]) (fun A => va_Qi (fun (r : Int32) (W2 : va_W) => ∃ fo2 : Nat → Int64, IL g x0 m0 o0 (sp_corks Sx x_ y_).2.2 Sm t fo2 W2 ∧ r = (sp_corks Sx x_ y_).1 ∧ ((sp_corks Sx x_ y_).1 = 0 → fo2 0 = Int32.toInt64 (sp_corks Sx x_ y_).2.1)) (fun u t => he_post g A ((fun (W2 : va_W) => W2) u) t) A) (by decide) rfl (Nat.le_of_ble_eq_true rfl) ?_
  intro p e s m args below meth c A ls H locs Q hQ htab hNc hB
  obtain ⟨hx, hb, hr, hml, hown, hts, hlk, hin, hP, hK, hD, hS, hA, hE, hl⟩ := hB
  have hl : lv_has ls 5 [(0, .ref x0), (1, .int x_), (2, .int y_), (3, .ref o0)] := hl
  have cl25 := hts (.classLink RL 25 "java/lang/IndexOutOfBoundsException") (by decide +kernel)
  have cl13 := hts (.classLink RL 13 "java/lang/IllegalArgumentException") (by decide +kernel)
  refine lv_aload_n hx hb dL_corks_0 rfl (lv_at hl 3 rfl) ?_
  refine lv_iconst (v := 0) hx hb dL_corks_1 (by decide) ?_
  refine lv_aload_n hx hb dL_corks_2 rfl (lv_at hl 0 rfl) ?_
  refine lv_iload_n hx hb dL_corks_3 rfl (lv_at hl 1 rfl) ?_
  refine lv_iload_n hx hb dL_corks_4 rfl (lv_at hl 2 rfl) ?_
  rcases k_corks l hlt g x0 Sx _ x_ y_ hc with ⟨hcd, h9⟩ | ⟨hcd, W9, hI9, h9⟩ | ⟨hcd, W9, hI9, h9⟩
  · refine he_ci (wc := ([(x0, .inr (9, fx)), (m0, .inr (10, fm)), (aL g o0 1 fo)] ++ (Rc ++ Rm))) (wr := []) (va_runV (As := [.int x_, .int y_]) (rest := [.int 0, .ref o0]) ⟨hx, hb, hml, hown, hts⟩ (il_cI h9 hm H.size) (cwV 2 hts gL_corks_X10_corks rfl rfl rfl (by decide +kernel) ⟨Nat.le_of_ble_eq_true rfl, Nat.le_of_ble_eq_true rfl⟩) (he_preV (wc := ([(x0, .inr (9, fx)), (m0, .inr (10, fm)), (aL g o0 1 fo)] ++ (Rc ++ Rm))) hK hP hD hS hA hE (List.range (([(x0, .inr (9, fx)), (m0, .inr (10, fm)), (aL g o0 1 fo)] ++ (Rc ++ Rm)) : va_W).length) (he_all _) (he_allnd _) 0 rfl rfl) rfl rfl hl.1 rfl (lv_room (Nat.le_of_ble_eq_true rfl)) dL_corks_5 ⟨(Nat.le_of_ble_eq_true rfl), (Nat.le_of_ble_eq_true rfl)⟩) hP hD hS hA (List.range (([(x0, .inr (9, fx)), (m0, .inr (10, fm)), (aL g o0 1 fo)] ++ (Rc ++ Rm)) : va_W).length) [] (he_all _) rfl rfl (fun _ h9 => absurd h9 List.not_mem_nil) (fun r_1 u_2 H locs hu_3 hP hD hS => ?_)
    obtain ⟨hI9, hp5⟩ := hu_3
    obtain ⟨fx_q_4, fm_q_4, Rc_q_4, Rm_q_4, rfl, hc, hm⟩ := hI9
    have hP : va_P g.1 vwCl ([(x0, .inr (9, fx_q_4)), (m0, .inr (10, fm_q_4)), (aL g o0 1 fo)] ++ (Rc_q_4 ++ Rm_q_4)) H := hP
    have hD : va_D A ([(x0, .inr (9, fx_q_4)), (m0, .inr (10, fm_q_4)), (aL g o0 1 fo)] ++ (Rc_q_4 ++ Rm_q_4)) := hD
    refine lv_i2l (v := Int32.toInt64 r_1) hx hb dL_corks_8 rfl ?_
    refine he_last hx hb hK hP hD hS 2 rfl 0 (by decide) (by decide) (by decide) dL_corks_9 (fun H locs hP hD hS => ?_)
    have hP : va_P g.1 vwCl ([(x0, .inr (9, fx_q_4)), (m0, .inr (10, fm_q_4)), (aL g o0 1 (vp_updL fo 0 (Int32.toInt64 r_1)))] ++ (Rc_q_4 ++ Rm_q_4)) H := hP
    have hD : va_D A ([(x0, .inr (9, fx_q_4)), (m0, .inr (10, fm_q_4)), (aL g o0 1 (vp_updL fo 0 (Int32.toInt64 r_1)))] ++ (Rc_q_4 ++ Rm_q_4)) := hD
    refine lv_goto (tgt := 21) hx hb dL_corks_10 (by decide) ?_
    refine lv_iconst (v := 0) hx hb dL_corks_21 (by decide) ?_
    exact he_ri hQ hx hb hr hlk hP hD hS dL_corks_22 (Nat.le_of_ble_eq_true rfl) (Nat.le_of_ble_eq_true rfl) ([(x0, .inr (9, fx_q_4)), (m0, .inr (10, fm_q_4)), (aL g o0 1 (vp_updL fo 0 (Int32.toInt64 r_1)))] ++ (Rc_q_4 ++ Rm_q_4)) rfl ⟨(vp_updL fo 0 (Int32.toInt64 r_1)), ⟨_, _, _, _, rfl, hc, hm⟩, hcd.symm, fun _ => (by rw [show (vp_updL fo 0 (Int32.toInt64 r_1)) 0 = _ from vp_updL_s _ _ _]; exact (congrArg Int32.toInt64 hp5))⟩
  · obtain ⟨W8, hI8, h8⟩ := il_Ti (o0 := o0) (fo := fo) h9 hI9 hm
    refine he_xi (En := "java/lang/IndexOutOfBoundsException") (wx := W8) (wc := ([(x0, .inr (9, fx)), (m0, .inr (10, fm)), (aL g o0 1 fo)] ++ (Rc ++ Rm))) (wr := []) (vx_runV (As := [.int x_, .int y_]) (rest := [.int 0, .ref o0]) ⟨hx, hb, hml, hown, hts⟩ (h8 H.size) (cwV 2 hts gL_corks_X10_corks rfl rfl rfl (by decide +kernel) ⟨Nat.le_of_ble_eq_true rfl, Nat.le_of_ble_eq_true rfl⟩) (he_preV (wc := ([(x0, .inr (9, fx)), (m0, .inr (10, fm)), (aL g o0 1 fo)] ++ (Rc ++ Rm))) hK hP hD hS hA hE (List.range (([(x0, .inr (9, fx)), (m0, .inr (10, fm)), (aL g o0 1 fo)] ++ (Rc ++ Rm)) : va_W).length) (he_all _) (he_allnd _) 0 rfl rfl) rfl rfl hl.1 rfl (lv_room (Nat.le_of_ble_eq_true rfl)) dL_corks_5 ⟨(Nat.le_of_ble_eq_true rfl), (Nat.le_of_ble_eq_true rfl)⟩) hP hD hS hA (List.range (([(x0, .inr (9, fx)), (m0, .inr (10, fm)), (aL g o0 1 fo)] ++ (Rc ++ Rm)) : va_W).length) [] (he_all _) rfl rfl (fun _ h9 => absurd h9 List.not_mem_nil) (fun ce q9 H locs hP hD hS hce hcv hcl => ?_)
    obtain ⟨fx_q_5, fm_q_5, Rc_q_5, Rm_q_5, rfl, hc, hm⟩ := hI8
    have hP : va_P g.1 vwCl ([(x0, .inr (9, fx_q_5)), (m0, .inr (10, fm_q_5)), (aL g o0 1 fo)] ++ (Rc_q_5 ++ Rm_q_5)) H := hP
    have hD : va_D A ([(x0, .inr (9, fx_q_5)), (m0, .inr (10, fm_q_5)), (aL g o0 1 fo)] ++ (Rc_q_5 ++ Rm_q_5)) := hD
    refine vx_catch (name := "java/lang/IndexOutOfBoundsException") (E := "java/lang/IndexOutOfBoundsException") hown [] ⟨0, 10, 13, 25⟩ [⟨0, 10, 17, 13⟩] htab (fun z h9 => nomatch h9) (by decide) (by decide) cl25 (va_Nw.use rfl (hE.cast ("java/lang/IndexOutOfBoundsException", "java/lang/IndexOutOfBoundsException") (by decide))) hce hcv hcl ?_
    refine W.widen (k := 1) (n := 6) (Nat.le_of_ble_eq_true rfl) (Nat.le_of_ble_eq_true rfl) ?_
    refine lv_astore (lv' := [(4, .ref q9), (0, .ref x0), (1, .int x_), (2, .int y_), (3, .ref o0)]) hx hb dL_corks_13 hl (by decide) rfl (fun ls hl => ?_)
    refine lv_iconst (v := 1) hx hb dL_corks_15 (by decide) ?_
    exact he_ri hQ hx hb hr hlk hP hD hS dL_corks_16 (Nat.le_of_ble_eq_true rfl) (Nat.le_of_ble_eq_true rfl) ([(x0, .inr (9, fx_q_5)), (m0, .inr (10, fm_q_5)), (aL g o0 1 fo)] ++ (Rc_q_5 ++ Rm_q_5)) rfl ⟨fo, ⟨_, _, _, _, rfl, hc, hm⟩, hcd.symm, fun h9 => absurd (hcd.symm.trans h9) (by decide)⟩
  · obtain ⟨W8, hI8, h8⟩ := il_Ti (o0 := o0) (fo := fo) h9 hI9 hm
    refine he_xi (En := "java/lang/IllegalArgumentException") (wx := W8) (wc := ([(x0, .inr (9, fx)), (m0, .inr (10, fm)), (aL g o0 1 fo)] ++ (Rc ++ Rm))) (wr := []) (vx_runV (As := [.int x_, .int y_]) (rest := [.int 0, .ref o0]) ⟨hx, hb, hml, hown, hts⟩ (h8 H.size) (cwV 2 hts gL_corks_X10_corks rfl rfl rfl (by decide +kernel) ⟨Nat.le_of_ble_eq_true rfl, Nat.le_of_ble_eq_true rfl⟩) (he_preV (wc := ([(x0, .inr (9, fx)), (m0, .inr (10, fm)), (aL g o0 1 fo)] ++ (Rc ++ Rm))) hK hP hD hS hA hE (List.range (([(x0, .inr (9, fx)), (m0, .inr (10, fm)), (aL g o0 1 fo)] ++ (Rc ++ Rm)) : va_W).length) (he_all _) (he_allnd _) 0 rfl rfl) rfl rfl hl.1 rfl (lv_room (Nat.le_of_ble_eq_true rfl)) dL_corks_5 ⟨(Nat.le_of_ble_eq_true rfl), (Nat.le_of_ble_eq_true rfl)⟩) hP hD hS hA (List.range (([(x0, .inr (9, fx)), (m0, .inr (10, fm)), (aL g o0 1 fo)] ++ (Rc ++ Rm)) : va_W).length) [] (he_all _) rfl rfl (fun _ h9 => absurd h9 List.not_mem_nil) (fun ce q9 H locs hP hD hS hce hcv hcl => ?_)
    obtain ⟨fx_q_6, fm_q_6, Rc_q_6, Rm_q_6, rfl, hc, hm⟩ := hI8
    have hP : va_P g.1 vwCl ([(x0, .inr (9, fx_q_6)), (m0, .inr (10, fm_q_6)), (aL g o0 1 fo)] ++ (Rc_q_6 ++ Rm_q_6)) H := hP
    have hD : va_D A ([(x0, .inr (9, fx_q_6)), (m0, .inr (10, fm_q_6)), (aL g o0 1 fo)] ++ (Rc_q_6 ++ Rm_q_6)) := hD
    refine vx_catch (name := "java/lang/IllegalArgumentException") (E := "java/lang/IllegalArgumentException") hown [⟨0, 10, 13, 25⟩] ⟨0, 10, 17, 13⟩ [] htab (fun z h9 => by obtain rfl := List.mem_singleton.mp h9; exact Or.inr ⟨by decide, "java/lang/IndexOutOfBoundsException", cl25, hNc⟩) (by decide) (by decide) cl13 (va_Nw.use rfl (hE.cast ("java/lang/IllegalArgumentException", "java/lang/IllegalArgumentException") (by decide))) hce hcv hcl ?_
    refine W.widen (k := 1) (n := 6) (Nat.le_of_ble_eq_true rfl) (Nat.le_of_ble_eq_true rfl) ?_
    refine lv_astore (lv' := [(4, .ref q9), (0, .ref x0), (1, .int x_), (2, .int y_), (3, .ref o0)]) hx hb dL_corks_17 hl (by decide) rfl (fun ls hl => ?_)
    refine lv_iconst (v := 2) hx hb dL_corks_19 (by decide) ?_
    exact he_ri hQ hx hb hr hlk hP hD hS dL_corks_20 (Nat.le_of_ble_eq_true rfl) (Nat.le_of_ble_eq_true rfl) ([(x0, .inr (9, fx_q_6)), (m0, .inr (10, fm_q_6)), (aL g o0 1 fo)] ++ (Rc_q_6 ++ Rm_q_6)) rfl ⟨fo, ⟨_, _, _, _, rfl, hc, hm⟩, hcd.symm, fun h9 => absurd (hcd.symm.trans h9) (by decide)⟩
set_option maxHeartbeats 8000000 in
set_option maxRecDepth 100000 in
theorem w_would (l : Launch) (hlt : l.stackTraces = false) (g : he_G) (x0 m0 o0 : Nat) (Sx Sm : AbS) (t : Int32) (fo : Nat → Int64) (W : va_W) (x_ : Int32) (y_ : Int32) (z_ : Int32) (hI : IL g x0 m0 o0 Sx Sm t fo W) : he_I l yL_would wsL_would 9 177 1 6 g [.ref x0, .int x_, .int y_, .int z_, .ref o0] W (fun (r : Int32) (W2 : va_W) => ∃ fo2 : Nat → Int64, IL g x0 m0 o0 (sp_would Sx x_ y_ z_).2.2 Sm t fo2 W2 ∧ r = (sp_would Sx x_ y_ z_).1 ∧ True) (fun W2 => W2) := by
  obtain ⟨fx, fm, Rc, Rm, rfl, hc, hm⟩ := hI
  refine he_beginH (l := l) (g := g) (y := yL_would) (wl := wsL_would) (fr := 9) (lo := 177) (mc := 1) (ms := 6) (av := [.ref x0, .int x_, .int y_, .int z_, .ref o0]) (ws := [(x0, .inr (9, fx)), (m0, .inr (10, fm)), (aL g o0 1 fo)] ++ (Rc ++ Rm)) (cc := cL_would) (maxL := 6) (ret := (some .int)) (hh := [(0, 12, 15, 30), (0, 12, 19, 13)]) (fun A => va_Qi (fun (r : Int32) (W2 : va_W) => ∃ fo2 : Nat → Int64, IL g x0 m0 o0 (sp_would Sx x_ y_ z_).2.2 Sm t fo2 W2 ∧ r = (sp_would Sx x_ y_ z_).1 ∧ True) (fun u t => he_post g A ((fun (W2 : va_W) => W2) u) t) A) (by decide) rfl (Nat.le_of_ble_eq_true rfl) ?_
  intro p e s m args below meth c A ls H locs Q hQ htab hB
  obtain ⟨hx, hb, hr, hml, hown, hts, hlk, hin, hP, hK, hD, hS, hA, hE, hl⟩ := hB
  have hl : lv_has ls 6 [(0, .ref x0), (1, .int x_), (2, .int y_), (3, .int z_), (4, .ref o0)] := hl
  have cl30 := hts (.classLink RL 30 "java/util/NoSuchElementException") (by decide +kernel)
  have cl13 := hts (.classLink RL 13 "java/lang/IllegalArgumentException") (by decide +kernel)
  refine lv_aload hx hb dL_would_0 (lv_at hl 4 rfl) ?_
  refine lv_iconst (v := 0) hx hb dL_would_2 (by decide) ?_
  refine lv_aload_n hx hb dL_would_3 rfl (lv_at hl 0 rfl) ?_
  refine lv_iload_n hx hb dL_would_4 rfl (lv_at hl 1 rfl) ?_
  refine lv_iload_n hx hb dL_would_5 rfl (lv_at hl 2 rfl) ?_
  refine lv_iload_n hx hb dL_would_6 rfl (lv_at hl 3 rfl) ?_
  rcases k_would l hlt g x0 Sx _ x_ y_ z_ hc with ⟨hcd, h9⟩ | ⟨hcd, W9, hI9, h9⟩ | ⟨hcd, W9, hI9, h9⟩
  · refine he_ci (wc := ([(x0, .inr (9, fx)), (m0, .inr (10, fm)), (aL g o0 1 fo)] ++ (Rc ++ Rm))) (wr := []) (va_runV (As := [.int x_, .int y_, .int z_]) (rest := [.int 0, .ref o0]) ⟨hx, hb, hml, hown, hts⟩ (il_cI h9 hm H.size) (cwV 3 hts gL_would_X10_would rfl rfl rfl (by decide +kernel) ⟨Nat.le_of_ble_eq_true rfl, Nat.le_of_ble_eq_true rfl⟩) (he_preV (wc := ([(x0, .inr (9, fx)), (m0, .inr (10, fm)), (aL g o0 1 fo)] ++ (Rc ++ Rm))) hK hP hD hS hA hE (List.range (([(x0, .inr (9, fx)), (m0, .inr (10, fm)), (aL g o0 1 fo)] ++ (Rc ++ Rm)) : va_W).length) (he_all _) (he_allnd _) 0 rfl rfl) rfl rfl hl.1 rfl (lv_room (Nat.le_of_ble_eq_true rfl)) dL_would_7 ⟨(Nat.le_of_ble_eq_true rfl), (Nat.le_of_ble_eq_true rfl)⟩) hP hD hS hA (List.range (([(x0, .inr (9, fx)), (m0, .inr (10, fm)), (aL g o0 1 fo)] ++ (Rc ++ Rm)) : va_W).length) [] (he_all _) rfl rfl (fun _ h9 => absurd h9 List.not_mem_nil) (fun r_1 u_2 H locs hu_3 hP hD hS => ?_)
    obtain ⟨hI9, hp7⟩ := hu_3
    obtain ⟨fx_q_4, fm_q_4, Rc_q_4, Rm_q_4, rfl, hc, hm⟩ := hI9
    have hP : va_P g.1 vwCl ([(x0, .inr (9, fx_q_4)), (m0, .inr (10, fm_q_4)), (aL g o0 1 fo)] ++ (Rc_q_4 ++ Rm_q_4)) H := hP
    have hD : va_D A ([(x0, .inr (9, fx_q_4)), (m0, .inr (10, fm_q_4)), (aL g o0 1 fo)] ++ (Rc_q_4 ++ Rm_q_4)) := hD
    refine lv_i2l (v := Int32.toInt64 r_1) hx hb dL_would_10 rfl ?_
    refine he_last hx hb hK hP hD hS 2 rfl 0 (by decide) (by decide) (by decide) dL_would_11 (fun H locs hP hD hS => ?_)
    have hP : va_P g.1 vwCl ([(x0, .inr (9, fx_q_4)), (m0, .inr (10, fm_q_4)), (aL g o0 1 (vp_updL fo 0 (Int32.toInt64 r_1)))] ++ (Rc_q_4 ++ Rm_q_4)) H := hP
    have hD : va_D A ([(x0, .inr (9, fx_q_4)), (m0, .inr (10, fm_q_4)), (aL g o0 1 (vp_updL fo 0 (Int32.toInt64 r_1)))] ++ (Rc_q_4 ++ Rm_q_4)) := hD
    refine lv_goto (tgt := 23) hx hb dL_would_12 (by decide) ?_
    refine lv_iconst (v := 0) hx hb dL_would_23 (by decide) ?_
    exact he_ri hQ hx hb hr hlk hP hD hS dL_would_24 (Nat.le_of_ble_eq_true rfl) (Nat.le_of_ble_eq_true rfl) ([(x0, .inr (9, fx_q_4)), (m0, .inr (10, fm_q_4)), (aL g o0 1 (vp_updL fo 0 (Int32.toInt64 r_1)))] ++ (Rc_q_4 ++ Rm_q_4)) rfl ⟨(vp_updL fo 0 (Int32.toInt64 r_1)), ⟨_, _, _, _, rfl, hc, hm⟩, hcd.symm, trivial⟩
  · obtain ⟨W8, hI8, h8⟩ := il_Ti (o0 := o0) (fo := fo) h9 hI9 hm
    refine he_xi (En := "java/util/NoSuchElementException") (wx := W8) (wc := ([(x0, .inr (9, fx)), (m0, .inr (10, fm)), (aL g o0 1 fo)] ++ (Rc ++ Rm))) (wr := []) (vx_runV (As := [.int x_, .int y_, .int z_]) (rest := [.int 0, .ref o0]) ⟨hx, hb, hml, hown, hts⟩ (h8 H.size) (cwV 3 hts gL_would_X10_would rfl rfl rfl (by decide +kernel) ⟨Nat.le_of_ble_eq_true rfl, Nat.le_of_ble_eq_true rfl⟩) (he_preV (wc := ([(x0, .inr (9, fx)), (m0, .inr (10, fm)), (aL g o0 1 fo)] ++ (Rc ++ Rm))) hK hP hD hS hA hE (List.range (([(x0, .inr (9, fx)), (m0, .inr (10, fm)), (aL g o0 1 fo)] ++ (Rc ++ Rm)) : va_W).length) (he_all _) (he_allnd _) 0 rfl rfl) rfl rfl hl.1 rfl (lv_room (Nat.le_of_ble_eq_true rfl)) dL_would_7 ⟨(Nat.le_of_ble_eq_true rfl), (Nat.le_of_ble_eq_true rfl)⟩) hP hD hS hA (List.range (([(x0, .inr (9, fx)), (m0, .inr (10, fm)), (aL g o0 1 fo)] ++ (Rc ++ Rm)) : va_W).length) [] (he_all _) rfl rfl (fun _ h9 => absurd h9 List.not_mem_nil) (fun ce q9 H locs hP hD hS hce hcv hcl => ?_)
    obtain ⟨fx_q_5, fm_q_5, Rc_q_5, Rm_q_5, rfl, hc, hm⟩ := hI8
    have hP : va_P g.1 vwCl ([(x0, .inr (9, fx_q_5)), (m0, .inr (10, fm_q_5)), (aL g o0 1 fo)] ++ (Rc_q_5 ++ Rm_q_5)) H := hP
    have hD : va_D A ([(x0, .inr (9, fx_q_5)), (m0, .inr (10, fm_q_5)), (aL g o0 1 fo)] ++ (Rc_q_5 ++ Rm_q_5)) := hD
    refine vx_catch (name := "java/util/NoSuchElementException") (E := "java/util/NoSuchElementException") hown [] ⟨0, 12, 15, 30⟩ [⟨0, 12, 19, 13⟩] htab (fun z h9 => nomatch h9) (by decide) (by decide) cl30 (va_Nw.use rfl (hE.cast ("java/util/NoSuchElementException", "java/util/NoSuchElementException") (by decide))) hce hcv hcl ?_
    refine W.widen (k := 1) (n := 6) (Nat.le_of_ble_eq_true rfl) (Nat.le_of_ble_eq_true rfl) ?_
    refine lv_astore (lv' := [(5, .ref q9), (0, .ref x0), (1, .int x_), (2, .int y_), (3, .int z_), (4, .ref o0)]) hx hb dL_would_15 hl (by decide) rfl (fun ls hl => ?_)
    refine lv_iconst (v := 1) hx hb dL_would_17 (by decide) ?_
    exact he_ri hQ hx hb hr hlk hP hD hS dL_would_18 (Nat.le_of_ble_eq_true rfl) (Nat.le_of_ble_eq_true rfl) ([(x0, .inr (9, fx_q_5)), (m0, .inr (10, fm_q_5)), (aL g o0 1 fo)] ++ (Rc_q_5 ++ Rm_q_5)) rfl ⟨fo, ⟨_, _, _, _, rfl, hc, hm⟩, hcd.symm, trivial⟩
  · obtain ⟨W8, hI8, h8⟩ := il_Ti (o0 := o0) (fo := fo) h9 hI9 hm
    refine he_xi (En := "java/lang/IllegalArgumentException") (wx := W8) (wc := ([(x0, .inr (9, fx)), (m0, .inr (10, fm)), (aL g o0 1 fo)] ++ (Rc ++ Rm))) (wr := []) (vx_runV (As := [.int x_, .int y_, .int z_]) (rest := [.int 0, .ref o0]) ⟨hx, hb, hml, hown, hts⟩ (h8 H.size) (cwV 3 hts gL_would_X10_would rfl rfl rfl (by decide +kernel) ⟨Nat.le_of_ble_eq_true rfl, Nat.le_of_ble_eq_true rfl⟩) (he_preV (wc := ([(x0, .inr (9, fx)), (m0, .inr (10, fm)), (aL g o0 1 fo)] ++ (Rc ++ Rm))) hK hP hD hS hA hE (List.range (([(x0, .inr (9, fx)), (m0, .inr (10, fm)), (aL g o0 1 fo)] ++ (Rc ++ Rm)) : va_W).length) (he_all _) (he_allnd _) 0 rfl rfl) rfl rfl hl.1 rfl (lv_room (Nat.le_of_ble_eq_true rfl)) dL_would_7 ⟨(Nat.le_of_ble_eq_true rfl), (Nat.le_of_ble_eq_true rfl)⟩) hP hD hS hA (List.range (([(x0, .inr (9, fx)), (m0, .inr (10, fm)), (aL g o0 1 fo)] ++ (Rc ++ Rm)) : va_W).length) [] (he_all _) rfl rfl (fun _ h9 => absurd h9 List.not_mem_nil) (fun ce q9 H locs hP hD hS hce hcv hcl => ?_)
    obtain ⟨fx_q_6, fm_q_6, Rc_q_6, Rm_q_6, rfl, hc, hm⟩ := hI8
    have hP : va_P g.1 vwCl ([(x0, .inr (9, fx_q_6)), (m0, .inr (10, fm_q_6)), (aL g o0 1 fo)] ++ (Rc_q_6 ++ Rm_q_6)) H := hP
    have hD : va_D A ([(x0, .inr (9, fx_q_6)), (m0, .inr (10, fm_q_6)), (aL g o0 1 fo)] ++ (Rc_q_6 ++ Rm_q_6)) := hD
    refine vx_catch (name := "java/lang/IllegalArgumentException") (E := "java/lang/IllegalArgumentException") hown [⟨0, 12, 15, 30⟩] ⟨0, 12, 19, 13⟩ [] htab (fun z h9 => by obtain rfl := List.mem_singleton.mp h9; exact Or.inr ⟨by decide, "java/util/NoSuchElementException", cl30, hE.nc⟩) (by decide) (by decide) cl13 (va_Nw.use rfl (hE.cast ("java/lang/IllegalArgumentException", "java/lang/IllegalArgumentException") (by decide))) hce hcv hcl ?_
    refine W.widen (k := 1) (n := 6) (Nat.le_of_ble_eq_true rfl) (Nat.le_of_ble_eq_true rfl) ?_
    refine lv_astore (lv' := [(5, .ref q9), (0, .ref x0), (1, .int x_), (2, .int y_), (3, .int z_), (4, .ref o0)]) hx hb dL_would_19 hl (by decide) rfl (fun ls hl => ?_)
    refine lv_iconst (v := 2) hx hb dL_would_21 (by decide) ?_
    exact he_ri hQ hx hb hr hlk hP hD hS dL_would_22 (Nat.le_of_ble_eq_true rfl) (Nat.le_of_ble_eq_true rfl) ([(x0, .inr (9, fx_q_6)), (m0, .inr (10, fm_q_6)), (aL g o0 1 fo)] ++ (Rc_q_6 ++ Rm_q_6)) rfl ⟨fo, ⟨_, _, _, _, rfl, hc, hm⟩, hcd.symm, trivial⟩
set_option maxHeartbeats 8000000 in
set_option maxRecDepth 100000 in
theorem w_best (l : Launch) (hlt : l.stackTraces = false) (g : he_G) (x0 m0 o0 : Nat) (Sx Sm : AbS) (t : Int32) (fo : Nat → Int64) (W : va_W) (x_ : Int32) (y_ : Int32) (hI : IL g x0 m0 o0 Sx Sm t fo W) : he_I l yL_best wsL_best 8 180 1 6 g [.ref x0, .int x_, .int y_, .ref o0] W (fun (r : Int32) (W2 : va_W) => ∃ fo2 : Nat → Int64, IL g x0 m0 o0 (sp_best Sx x_ y_).2.2 Sm t fo2 W2 ∧ r = (sp_best Sx x_ y_).1 ∧ True) (fun W2 => W2) := by
  obtain ⟨fx, fm, Rc, Rm, rfl, hc, hm⟩ := hI
  refine he_beginH (l := l) (g := g) (y := yL_best) (wl := wsL_best) (fr := 8) (lo := 180) (mc := 1) (ms := 6) (av := [.ref x0, .int x_, .int y_, .ref o0]) (ws := [(x0, .inr (9, fx)), (m0, .inr (10, fm)), (aL g o0 1 fo)] ++ (Rc ++ Rm)) (cc := cL_best) (maxL := 5) (ret := (some .int)) (hh := [(0, 10, 13, 13)]) (fun A => va_Qi (fun (r : Int32) (W2 : va_W) => ∃ fo2 : Nat → Int64, IL g x0 m0 o0 (sp_best Sx x_ y_).2.2 Sm t fo2 W2 ∧ r = (sp_best Sx x_ y_).1 ∧ True) (fun u t => he_post g A ((fun (W2 : va_W) => W2) u) t) A) (by decide) rfl (Nat.le_of_ble_eq_true rfl) ?_
  intro p e s m args below meth c A ls H locs Q hQ htab hB
  obtain ⟨hx, hb, hr, hml, hown, hts, hlk, hin, hP, hK, hD, hS, hA, hE, hl⟩ := hB
  have hl : lv_has ls 5 [(0, .ref x0), (1, .int x_), (2, .int y_), (3, .ref o0)] := hl
  have cl13 := hts (.classLink RL 13 "java/lang/IllegalArgumentException") (by decide +kernel)
  refine lv_aload_n hx hb dL_best_0 rfl (lv_at hl 3 rfl) ?_
  refine lv_iconst (v := 0) hx hb dL_best_1 (by decide) ?_
  refine lv_aload_n hx hb dL_best_2 rfl (lv_at hl 0 rfl) ?_
  refine lv_iload_n hx hb dL_best_3 rfl (lv_at hl 1 rfl) ?_
  refine lv_iload_n hx hb dL_best_4 rfl (lv_at hl 2 rfl) ?_
  rcases k_best l hlt g x0 Sx _ x_ y_ hc with ⟨hcd, h9⟩ | ⟨hcd, W9, hI9, h9⟩
  · refine he_ci (wc := ([(x0, .inr (9, fx)), (m0, .inr (10, fm)), (aL g o0 1 fo)] ++ (Rc ++ Rm))) (wr := []) (va_runV (As := [.int x_, .int y_]) (rest := [.int 0, .ref o0]) ⟨hx, hb, hml, hown, hts⟩ (il_cI h9 hm H.size) (cwV 2 hts gL_best_X10_best rfl rfl rfl (by decide +kernel) ⟨Nat.le_of_ble_eq_true rfl, Nat.le_of_ble_eq_true rfl⟩) (he_preV (wc := ([(x0, .inr (9, fx)), (m0, .inr (10, fm)), (aL g o0 1 fo)] ++ (Rc ++ Rm))) hK hP hD hS hA hE (List.range (([(x0, .inr (9, fx)), (m0, .inr (10, fm)), (aL g o0 1 fo)] ++ (Rc ++ Rm)) : va_W).length) (he_all _) (he_allnd _) 0 rfl rfl) rfl rfl hl.1 rfl (lv_room (Nat.le_of_ble_eq_true rfl)) dL_best_5 ⟨(Nat.le_of_ble_eq_true rfl), (Nat.le_of_ble_eq_true rfl)⟩) hP hD hS hA (List.range (([(x0, .inr (9, fx)), (m0, .inr (10, fm)), (aL g o0 1 fo)] ++ (Rc ++ Rm)) : va_W).length) [] (he_all _) rfl rfl (fun _ h9 => absurd h9 List.not_mem_nil) (fun r_1 u_2 H locs hu_3 hP hD hS => ?_)
    obtain ⟨hI9, hp5⟩ := hu_3
    obtain ⟨fx_q_4, fm_q_4, Rc_q_4, Rm_q_4, rfl, hc, hm⟩ := hI9
    have hP : va_P g.1 vwCl ([(x0, .inr (9, fx_q_4)), (m0, .inr (10, fm_q_4)), (aL g o0 1 fo)] ++ (Rc_q_4 ++ Rm_q_4)) H := hP
    have hD : va_D A ([(x0, .inr (9, fx_q_4)), (m0, .inr (10, fm_q_4)), (aL g o0 1 fo)] ++ (Rc_q_4 ++ Rm_q_4)) := hD
    refine lv_i2l (v := Int32.toInt64 r_1) hx hb dL_best_8 rfl ?_
    refine he_last hx hb hK hP hD hS 2 rfl 0 (by decide) (by decide) (by decide) dL_best_9 (fun H locs hP hD hS => ?_)
    have hP : va_P g.1 vwCl ([(x0, .inr (9, fx_q_4)), (m0, .inr (10, fm_q_4)), (aL g o0 1 (vp_updL fo 0 (Int32.toInt64 r_1)))] ++ (Rc_q_4 ++ Rm_q_4)) H := hP
    have hD : va_D A ([(x0, .inr (9, fx_q_4)), (m0, .inr (10, fm_q_4)), (aL g o0 1 (vp_updL fo 0 (Int32.toInt64 r_1)))] ++ (Rc_q_4 ++ Rm_q_4)) := hD
    refine lv_goto (tgt := 17) hx hb dL_best_10 (by decide) ?_
    refine lv_iconst (v := 0) hx hb dL_best_17 (by decide) ?_
    exact he_ri hQ hx hb hr hlk hP hD hS dL_best_18 (Nat.le_of_ble_eq_true rfl) (Nat.le_of_ble_eq_true rfl) ([(x0, .inr (9, fx_q_4)), (m0, .inr (10, fm_q_4)), (aL g o0 1 (vp_updL fo 0 (Int32.toInt64 r_1)))] ++ (Rc_q_4 ++ Rm_q_4)) rfl ⟨(vp_updL fo 0 (Int32.toInt64 r_1)), ⟨_, _, _, _, rfl, hc, hm⟩, hcd.symm, trivial⟩
  · obtain ⟨W8, hI8, h8⟩ := il_Ti (o0 := o0) (fo := fo) h9 hI9 hm
    refine he_xi (En := "java/lang/IllegalArgumentException") (wx := W8) (wc := ([(x0, .inr (9, fx)), (m0, .inr (10, fm)), (aL g o0 1 fo)] ++ (Rc ++ Rm))) (wr := []) (vx_runV (As := [.int x_, .int y_]) (rest := [.int 0, .ref o0]) ⟨hx, hb, hml, hown, hts⟩ (h8 H.size) (cwV 2 hts gL_best_X10_best rfl rfl rfl (by decide +kernel) ⟨Nat.le_of_ble_eq_true rfl, Nat.le_of_ble_eq_true rfl⟩) (he_preV (wc := ([(x0, .inr (9, fx)), (m0, .inr (10, fm)), (aL g o0 1 fo)] ++ (Rc ++ Rm))) hK hP hD hS hA hE (List.range (([(x0, .inr (9, fx)), (m0, .inr (10, fm)), (aL g o0 1 fo)] ++ (Rc ++ Rm)) : va_W).length) (he_all _) (he_allnd _) 0 rfl rfl) rfl rfl hl.1 rfl (lv_room (Nat.le_of_ble_eq_true rfl)) dL_best_5 ⟨(Nat.le_of_ble_eq_true rfl), (Nat.le_of_ble_eq_true rfl)⟩) hP hD hS hA (List.range (([(x0, .inr (9, fx)), (m0, .inr (10, fm)), (aL g o0 1 fo)] ++ (Rc ++ Rm)) : va_W).length) [] (he_all _) rfl rfl (fun _ h9 => absurd h9 List.not_mem_nil) (fun ce q9 H locs hP hD hS hce hcv hcl => ?_)
    obtain ⟨fx_q_5, fm_q_5, Rc_q_5, Rm_q_5, rfl, hc, hm⟩ := hI8
    have hP : va_P g.1 vwCl ([(x0, .inr (9, fx_q_5)), (m0, .inr (10, fm_q_5)), (aL g o0 1 fo)] ++ (Rc_q_5 ++ Rm_q_5)) H := hP
    have hD : va_D A ([(x0, .inr (9, fx_q_5)), (m0, .inr (10, fm_q_5)), (aL g o0 1 fo)] ++ (Rc_q_5 ++ Rm_q_5)) := hD
    refine vx_catch (name := "java/lang/IllegalArgumentException") (E := "java/lang/IllegalArgumentException") hown [] ⟨0, 10, 13, 13⟩ [] htab (fun z h9 => nomatch h9) (by decide) (by decide) cl13 (va_Nw.use rfl (hE.cast ("java/lang/IllegalArgumentException", "java/lang/IllegalArgumentException") (by decide))) hce hcv hcl ?_
    refine W.widen (k := 1) (n := 6) (Nat.le_of_ble_eq_true rfl) (Nat.le_of_ble_eq_true rfl) ?_
    refine lv_astore (lv' := [(4, .ref q9), (0, .ref x0), (1, .int x_), (2, .int y_), (3, .ref o0)]) hx hb dL_best_13 hl (by decide) rfl (fun ls hl => ?_)
    refine lv_iconst (v := 1) hx hb dL_best_15 (by decide) ?_
    exact he_ri hQ hx hb hr hlk hP hD hS dL_best_16 (Nat.le_of_ble_eq_true rfl) (Nat.le_of_ble_eq_true rfl) ([(x0, .inr (9, fx_q_5)), (m0, .inr (10, fm_q_5)), (aL g o0 1 fo)] ++ (Rc_q_5 ++ Rm_q_5)) rfl ⟨fo, ⟨_, _, _, _, rfl, hc, hm⟩, hcd.symm, trivial⟩
set_option maxHeartbeats 8000000 in
set_option maxRecDepth 100000 in
theorem w_offer (l : Launch) (hlt : l.stackTraces = false) (g : he_G) (x0 m0 o0 : Nat) (Sx Sm : AbS) (t : Int32) (fo : Nat → Int64) (W : va_W) (x_ : Int32) (y_ : Int32) (hI : IL g x0 m0 o0 Sx Sm t fo W) : he_I l yL_offer wsL_offer 8 182 1 6 g [.ref x0, .int x_, .int y_, .ref o0] W (fun (r : Int32) (W2 : va_W) => ∃ fo2 : Nat → Int64, IL g x0 m0 o0 (sp_offer Sx x_ y_).2.2 Sm t fo2 W2 ∧ r = (sp_offer Sx x_ y_).1 ∧ True) (fun W2 => W2) := by
  obtain ⟨fx, fm, Rc, Rm, rfl, hc, hm⟩ := hI
  refine he_beginH (l := l) (g := g) (y := yL_offer) (wl := wsL_offer) (fr := 8) (lo := 182) (mc := 1) (ms := 6) (av := [.ref x0, .int x_, .int y_, .ref o0]) (ws := [(x0, .inr (9, fx)), (m0, .inr (10, fm)), (aL g o0 1 fo)] ++ (Rc ++ Rm)) (cc := cL_offer) (maxL := 5) (ret := (some .int)) (hh := [(0, 10, 13, 13)]) (fun A => va_Qi (fun (r : Int32) (W2 : va_W) => ∃ fo2 : Nat → Int64, IL g x0 m0 o0 (sp_offer Sx x_ y_).2.2 Sm t fo2 W2 ∧ r = (sp_offer Sx x_ y_).1 ∧ True) (fun u t => he_post g A ((fun (W2 : va_W) => W2) u) t) A) (by decide) rfl (Nat.le_of_ble_eq_true rfl) ?_
  intro p e s m args below meth c A ls H locs Q hQ htab hB
  obtain ⟨hx, hb, hr, hml, hown, hts, hlk, hin, hP, hK, hD, hS, hA, hE, hl⟩ := hB
  have hl : lv_has ls 5 [(0, .ref x0), (1, .int x_), (2, .int y_), (3, .ref o0)] := hl
  have cl13 := hts (.classLink RL 13 "java/lang/IllegalArgumentException") (by decide +kernel)
  refine lv_aload_n hx hb dL_offer_0 rfl (lv_at hl 3 rfl) ?_
  refine lv_iconst (v := 0) hx hb dL_offer_1 (by decide) ?_
  refine lv_aload_n hx hb dL_offer_2 rfl (lv_at hl 0 rfl) ?_
  refine lv_iload_n hx hb dL_offer_3 rfl (lv_at hl 1 rfl) ?_
  refine lv_iload_n hx hb dL_offer_4 rfl (lv_at hl 2 rfl) ?_
  rcases k_offer l hlt g x0 Sx _ x_ y_ hc with ⟨hcd, h9⟩ | ⟨hcd, W9, hI9, h9⟩
  · refine he_ci (wc := ([(x0, .inr (9, fx)), (m0, .inr (10, fm)), (aL g o0 1 fo)] ++ (Rc ++ Rm))) (wr := []) (va_runV (As := [.int x_, .int y_]) (rest := [.int 0, .ref o0]) ⟨hx, hb, hml, hown, hts⟩ (il_cI h9 hm H.size) (cwV 2 hts gL_offer_X10_offer rfl rfl rfl (by decide +kernel) ⟨Nat.le_of_ble_eq_true rfl, Nat.le_of_ble_eq_true rfl⟩) (he_preV (wc := ([(x0, .inr (9, fx)), (m0, .inr (10, fm)), (aL g o0 1 fo)] ++ (Rc ++ Rm))) hK hP hD hS hA hE (List.range (([(x0, .inr (9, fx)), (m0, .inr (10, fm)), (aL g o0 1 fo)] ++ (Rc ++ Rm)) : va_W).length) (he_all _) (he_allnd _) 0 rfl rfl) rfl rfl hl.1 rfl (lv_room (Nat.le_of_ble_eq_true rfl)) dL_offer_5 ⟨(Nat.le_of_ble_eq_true rfl), (Nat.le_of_ble_eq_true rfl)⟩) hP hD hS hA (List.range (([(x0, .inr (9, fx)), (m0, .inr (10, fm)), (aL g o0 1 fo)] ++ (Rc ++ Rm)) : va_W).length) [] (he_all _) rfl rfl (fun _ h9 => absurd h9 List.not_mem_nil) (fun r_1 u_2 H locs hu_3 hP hD hS => ?_)
    obtain ⟨hI9, hp5⟩ := hu_3
    obtain ⟨fx_q_4, fm_q_4, Rc_q_4, Rm_q_4, rfl, hc, hm⟩ := hI9
    have hP : va_P g.1 vwCl ([(x0, .inr (9, fx_q_4)), (m0, .inr (10, fm_q_4)), (aL g o0 1 fo)] ++ (Rc_q_4 ++ Rm_q_4)) H := hP
    have hD : va_D A ([(x0, .inr (9, fx_q_4)), (m0, .inr (10, fm_q_4)), (aL g o0 1 fo)] ++ (Rc_q_4 ++ Rm_q_4)) := hD
    refine lv_i2l (v := Int32.toInt64 r_1) hx hb dL_offer_8 rfl ?_
    refine he_last hx hb hK hP hD hS 2 rfl 0 (by decide) (by decide) (by decide) dL_offer_9 (fun H locs hP hD hS => ?_)
    have hP : va_P g.1 vwCl ([(x0, .inr (9, fx_q_4)), (m0, .inr (10, fm_q_4)), (aL g o0 1 (vp_updL fo 0 (Int32.toInt64 r_1)))] ++ (Rc_q_4 ++ Rm_q_4)) H := hP
    have hD : va_D A ([(x0, .inr (9, fx_q_4)), (m0, .inr (10, fm_q_4)), (aL g o0 1 (vp_updL fo 0 (Int32.toInt64 r_1)))] ++ (Rc_q_4 ++ Rm_q_4)) := hD
    refine lv_goto (tgt := 17) hx hb dL_offer_10 (by decide) ?_
    refine lv_iconst (v := 0) hx hb dL_offer_17 (by decide) ?_
    exact he_ri hQ hx hb hr hlk hP hD hS dL_offer_18 (Nat.le_of_ble_eq_true rfl) (Nat.le_of_ble_eq_true rfl) ([(x0, .inr (9, fx_q_4)), (m0, .inr (10, fm_q_4)), (aL g o0 1 (vp_updL fo 0 (Int32.toInt64 r_1)))] ++ (Rc_q_4 ++ Rm_q_4)) rfl ⟨(vp_updL fo 0 (Int32.toInt64 r_1)), ⟨_, _, _, _, rfl, hc, hm⟩, hcd.symm, trivial⟩
  · obtain ⟨W8, hI8, h8⟩ := il_Ti (o0 := o0) (fo := fo) h9 hI9 hm
    refine he_xi (En := "java/lang/IllegalArgumentException") (wx := W8) (wc := ([(x0, .inr (9, fx)), (m0, .inr (10, fm)), (aL g o0 1 fo)] ++ (Rc ++ Rm))) (wr := []) (vx_runV (As := [.int x_, .int y_]) (rest := [.int 0, .ref o0]) ⟨hx, hb, hml, hown, hts⟩ (h8 H.size) (cwV 2 hts gL_offer_X10_offer rfl rfl rfl (by decide +kernel) ⟨Nat.le_of_ble_eq_true rfl, Nat.le_of_ble_eq_true rfl⟩) (he_preV (wc := ([(x0, .inr (9, fx)), (m0, .inr (10, fm)), (aL g o0 1 fo)] ++ (Rc ++ Rm))) hK hP hD hS hA hE (List.range (([(x0, .inr (9, fx)), (m0, .inr (10, fm)), (aL g o0 1 fo)] ++ (Rc ++ Rm)) : va_W).length) (he_all _) (he_allnd _) 0 rfl rfl) rfl rfl hl.1 rfl (lv_room (Nat.le_of_ble_eq_true rfl)) dL_offer_5 ⟨(Nat.le_of_ble_eq_true rfl), (Nat.le_of_ble_eq_true rfl)⟩) hP hD hS hA (List.range (([(x0, .inr (9, fx)), (m0, .inr (10, fm)), (aL g o0 1 fo)] ++ (Rc ++ Rm)) : va_W).length) [] (he_all _) rfl rfl (fun _ h9 => absurd h9 List.not_mem_nil) (fun ce q9 H locs hP hD hS hce hcv hcl => ?_)
    obtain ⟨fx_q_5, fm_q_5, Rc_q_5, Rm_q_5, rfl, hc, hm⟩ := hI8
    have hP : va_P g.1 vwCl ([(x0, .inr (9, fx_q_5)), (m0, .inr (10, fm_q_5)), (aL g o0 1 fo)] ++ (Rc_q_5 ++ Rm_q_5)) H := hP
    have hD : va_D A ([(x0, .inr (9, fx_q_5)), (m0, .inr (10, fm_q_5)), (aL g o0 1 fo)] ++ (Rc_q_5 ++ Rm_q_5)) := hD
    refine vx_catch (name := "java/lang/IllegalArgumentException") (E := "java/lang/IllegalArgumentException") hown [] ⟨0, 10, 13, 13⟩ [] htab (fun z h9 => nomatch h9) (by decide) (by decide) cl13 (va_Nw.use rfl (hE.cast ("java/lang/IllegalArgumentException", "java/lang/IllegalArgumentException") (by decide))) hce hcv hcl ?_
    refine W.widen (k := 1) (n := 6) (Nat.le_of_ble_eq_true rfl) (Nat.le_of_ble_eq_true rfl) ?_
    refine lv_astore (lv' := [(4, .ref q9), (0, .ref x0), (1, .int x_), (2, .int y_), (3, .ref o0)]) hx hb dL_offer_13 hl (by decide) rfl (fun ls hl => ?_)
    refine lv_iconst (v := 1) hx hb dL_offer_15 (by decide) ?_
    exact he_ri hQ hx hb hr hlk hP hD hS dL_offer_16 (Nat.le_of_ble_eq_true rfl) (Nat.le_of_ble_eq_true rfl) ([(x0, .inr (9, fx_q_5)), (m0, .inr (10, fm_q_5)), (aL g o0 1 fo)] ++ (Rc_q_5 ++ Rm_q_5)) rfl ⟨fo, ⟨_, _, _, _, rfl, hc, hm⟩, hcd.symm, trivial⟩
set_option maxHeartbeats 8000000 in
set_option maxRecDepth 100000 in
theorem w_nearest (l : Launch) (hlt : l.stackTraces = false) (g : he_G) (x0 m0 o0 : Nat) (Sx Sm : AbS) (t : Int32) (fo : Nat → Int64) (W : va_W) (x_ : Int32) (y_ : Int32) (hI : IL g x0 m0 o0 Sx Sm t fo W) : he_I l yL_nearest wsL_nearest 8 126 1 6 g [.ref x0, .int x_, .int y_, .ref o0] W (fun (r : Int32) (W2 : va_W) => ∃ fo2 : Nat → Int64, IL g x0 m0 o0 (sp_nearest Sx x_ y_).2.2 Sm t fo2 W2 ∧ r = (sp_nearest Sx x_ y_).1 ∧ ((sp_nearest Sx x_ y_).1 = 0 → fo2 0 = Int32.toInt64 (sp_nearest Sx x_ y_).2.1)) (fun W2 => W2) := by
  obtain ⟨fx, fm, Rc, Rm, rfl, hc, hm⟩ := hI
  refine he_beginH (l := l) (g := g) (y := yL_nearest) (wl := wsL_nearest) (fr := 8) (lo := 126) (mc := 1) (ms := 6) (av := [.ref x0, .int x_, .int y_, .ref o0]) (ws := [(x0, .inr (9, fx)), (m0, .inr (10, fm)), (aL g o0 1 fo)] ++ (Rc ++ Rm)) (cc := cL_nearest) (maxL := 5) (ret := (some .int)) (hh := [(0, 10, 13, 13)]) (fun A => va_Qi (fun (r : Int32) (W2 : va_W) => ∃ fo2 : Nat → Int64, IL g x0 m0 o0 (sp_nearest Sx x_ y_).2.2 Sm t fo2 W2 ∧ r = (sp_nearest Sx x_ y_).1 ∧ ((sp_nearest Sx x_ y_).1 = 0 → fo2 0 = Int32.toInt64 (sp_nearest Sx x_ y_).2.1)) (fun u t => he_post g A ((fun (W2 : va_W) => W2) u) t) A) (by decide) rfl (Nat.le_of_ble_eq_true rfl) ?_
  intro p e s m args below meth c A ls H locs Q hQ htab hB
  obtain ⟨hx, hb, hr, hml, hown, hts, hlk, hin, hP, hK, hD, hS, hA, hE, hl⟩ := hB
  have hl : lv_has ls 5 [(0, .ref x0), (1, .int x_), (2, .int y_), (3, .ref o0)] := hl
  have cl13 := hts (.classLink RL 13 "java/lang/IllegalArgumentException") (by decide +kernel)
  refine lv_aload_n hx hb dL_nearest_0 rfl (lv_at hl 3 rfl) ?_
  refine lv_iconst (v := 0) hx hb dL_nearest_1 (by decide) ?_
  refine lv_aload_n hx hb dL_nearest_2 rfl (lv_at hl 0 rfl) ?_
  refine lv_iload_n hx hb dL_nearest_3 rfl (lv_at hl 1 rfl) ?_
  refine lv_iload_n hx hb dL_nearest_4 rfl (lv_at hl 2 rfl) ?_
  rcases k_nearest l hlt g x0 Sx _ x_ y_ hc with ⟨hcd, h9⟩ | ⟨hcd, W9, hI9, h9⟩
  · refine he_ci (wc := ([(x0, .inr (9, fx)), (m0, .inr (10, fm)), (aL g o0 1 fo)] ++ (Rc ++ Rm))) (wr := []) (va_runV (As := [.int x_, .int y_]) (rest := [.int 0, .ref o0]) ⟨hx, hb, hml, hown, hts⟩ (il_cI h9 hm H.size) (cwV 2 hts gL_nearest_X10_nearest rfl rfl rfl (by decide +kernel) ⟨Nat.le_of_ble_eq_true rfl, Nat.le_of_ble_eq_true rfl⟩) (he_preV (wc := ([(x0, .inr (9, fx)), (m0, .inr (10, fm)), (aL g o0 1 fo)] ++ (Rc ++ Rm))) hK hP hD hS hA hE (List.range (([(x0, .inr (9, fx)), (m0, .inr (10, fm)), (aL g o0 1 fo)] ++ (Rc ++ Rm)) : va_W).length) (he_all _) (he_allnd _) 0 rfl rfl) rfl rfl hl.1 rfl (lv_room (Nat.le_of_ble_eq_true rfl)) dL_nearest_5 ⟨(Nat.le_of_ble_eq_true rfl), (Nat.le_of_ble_eq_true rfl)⟩) hP hD hS hA (List.range (([(x0, .inr (9, fx)), (m0, .inr (10, fm)), (aL g o0 1 fo)] ++ (Rc ++ Rm)) : va_W).length) [] (he_all _) rfl rfl (fun _ h9 => absurd h9 List.not_mem_nil) (fun r_1 u_2 H locs hu_3 hP hD hS => ?_)
    obtain ⟨hI9, hp5⟩ := hu_3
    obtain ⟨fx_q_4, fm_q_4, Rc_q_4, Rm_q_4, rfl, hc, hm⟩ := hI9
    have hP : va_P g.1 vwCl ([(x0, .inr (9, fx_q_4)), (m0, .inr (10, fm_q_4)), (aL g o0 1 fo)] ++ (Rc_q_4 ++ Rm_q_4)) H := hP
    have hD : va_D A ([(x0, .inr (9, fx_q_4)), (m0, .inr (10, fm_q_4)), (aL g o0 1 fo)] ++ (Rc_q_4 ++ Rm_q_4)) := hD
    refine lv_i2l (v := Int32.toInt64 r_1) hx hb dL_nearest_8 rfl ?_
    refine he_last hx hb hK hP hD hS 2 rfl 0 (by decide) (by decide) (by decide) dL_nearest_9 (fun H locs hP hD hS => ?_)
    have hP : va_P g.1 vwCl ([(x0, .inr (9, fx_q_4)), (m0, .inr (10, fm_q_4)), (aL g o0 1 (vp_updL fo 0 (Int32.toInt64 r_1)))] ++ (Rc_q_4 ++ Rm_q_4)) H := hP
    have hD : va_D A ([(x0, .inr (9, fx_q_4)), (m0, .inr (10, fm_q_4)), (aL g o0 1 (vp_updL fo 0 (Int32.toInt64 r_1)))] ++ (Rc_q_4 ++ Rm_q_4)) := hD
    refine lv_goto (tgt := 17) hx hb dL_nearest_10 (by decide) ?_
    refine lv_iconst (v := 0) hx hb dL_nearest_17 (by decide) ?_
    exact he_ri hQ hx hb hr hlk hP hD hS dL_nearest_18 (Nat.le_of_ble_eq_true rfl) (Nat.le_of_ble_eq_true rfl) ([(x0, .inr (9, fx_q_4)), (m0, .inr (10, fm_q_4)), (aL g o0 1 (vp_updL fo 0 (Int32.toInt64 r_1)))] ++ (Rc_q_4 ++ Rm_q_4)) rfl ⟨(vp_updL fo 0 (Int32.toInt64 r_1)), ⟨_, _, _, _, rfl, hc, hm⟩, hcd.symm, fun _ => (by rw [show (vp_updL fo 0 (Int32.toInt64 r_1)) 0 = _ from vp_updL_s _ _ _]; exact (congrArg Int32.toInt64 hp5))⟩
  · obtain ⟨W8, hI8, h8⟩ := il_Ti (o0 := o0) (fo := fo) h9 hI9 hm
    refine he_xi (En := "java/lang/IllegalArgumentException") (wx := W8) (wc := ([(x0, .inr (9, fx)), (m0, .inr (10, fm)), (aL g o0 1 fo)] ++ (Rc ++ Rm))) (wr := []) (vx_runV (As := [.int x_, .int y_]) (rest := [.int 0, .ref o0]) ⟨hx, hb, hml, hown, hts⟩ (h8 H.size) (cwV 2 hts gL_nearest_X10_nearest rfl rfl rfl (by decide +kernel) ⟨Nat.le_of_ble_eq_true rfl, Nat.le_of_ble_eq_true rfl⟩) (he_preV (wc := ([(x0, .inr (9, fx)), (m0, .inr (10, fm)), (aL g o0 1 fo)] ++ (Rc ++ Rm))) hK hP hD hS hA hE (List.range (([(x0, .inr (9, fx)), (m0, .inr (10, fm)), (aL g o0 1 fo)] ++ (Rc ++ Rm)) : va_W).length) (he_all _) (he_allnd _) 0 rfl rfl) rfl rfl hl.1 rfl (lv_room (Nat.le_of_ble_eq_true rfl)) dL_nearest_5 ⟨(Nat.le_of_ble_eq_true rfl), (Nat.le_of_ble_eq_true rfl)⟩) hP hD hS hA (List.range (([(x0, .inr (9, fx)), (m0, .inr (10, fm)), (aL g o0 1 fo)] ++ (Rc ++ Rm)) : va_W).length) [] (he_all _) rfl rfl (fun _ h9 => absurd h9 List.not_mem_nil) (fun ce q9 H locs hP hD hS hce hcv hcl => ?_)
    obtain ⟨fx_q_5, fm_q_5, Rc_q_5, Rm_q_5, rfl, hc, hm⟩ := hI8
    have hP : va_P g.1 vwCl ([(x0, .inr (9, fx_q_5)), (m0, .inr (10, fm_q_5)), (aL g o0 1 fo)] ++ (Rc_q_5 ++ Rm_q_5)) H := hP
    have hD : va_D A ([(x0, .inr (9, fx_q_5)), (m0, .inr (10, fm_q_5)), (aL g o0 1 fo)] ++ (Rc_q_5 ++ Rm_q_5)) := hD
    refine vx_catch (name := "java/lang/IllegalArgumentException") (E := "java/lang/IllegalArgumentException") hown [] ⟨0, 10, 13, 13⟩ [] htab (fun z h9 => nomatch h9) (by decide) (by decide) cl13 (va_Nw.use rfl (hE.cast ("java/lang/IllegalArgumentException", "java/lang/IllegalArgumentException") (by decide))) hce hcv hcl ?_
    refine W.widen (k := 1) (n := 6) (Nat.le_of_ble_eq_true rfl) (Nat.le_of_ble_eq_true rfl) ?_
    refine lv_astore (lv' := [(4, .ref q9), (0, .ref x0), (1, .int x_), (2, .int y_), (3, .ref o0)]) hx hb dL_nearest_13 hl (by decide) rfl (fun ls hl => ?_)
    refine lv_iconst (v := 1) hx hb dL_nearest_15 (by decide) ?_
    exact he_ri hQ hx hb hr hlk hP hD hS dL_nearest_16 (Nat.le_of_ble_eq_true rfl) (Nat.le_of_ble_eq_true rfl) ([(x0, .inr (9, fx_q_5)), (m0, .inr (10, fm_q_5)), (aL g o0 1 fo)] ++ (Rc_q_5 ++ Rm_q_5)) rfl ⟨fo, ⟨_, _, _, _, rfl, hc, hm⟩, hcd.symm, fun h9 => absurd (hcd.symm.trans h9) (by decide)⟩
set_option maxHeartbeats 8000000 in
set_option maxRecDepth 100000 in
theorem w_stop (l : Launch) (hlt : l.stackTraces = false) (g : he_G) (x0 m0 o0 : Nat) (Sx Sm : AbS) (t : Int32) (fo : Nat → Int64) (W : va_W) (x_ : Int32) (y_ : Int32) (hI : IL g x0 m0 o0 Sx Sm t fo W) : he_I l yL_stop wsL_stop 8 157 1 6 g [.ref x0, .int x_, .int y_, .ref o0] W (fun (r : Int32) (W2 : va_W) => ∃ fo2 : Nat → Int64, IL g x0 m0 o0 (sp_stop Sx x_ y_).2.2 Sm t fo2 W2 ∧ r = (sp_stop Sx x_ y_).1 ∧ True) (fun W2 => W2) := by
  obtain ⟨fx, fm, Rc, Rm, rfl, hc, hm⟩ := hI
  refine he_beginH (l := l) (g := g) (y := yL_stop) (wl := wsL_stop) (fr := 8) (lo := 157) (mc := 1) (ms := 6) (av := [.ref x0, .int x_, .int y_, .ref o0]) (ws := [(x0, .inr (9, fx)), (m0, .inr (10, fm)), (aL g o0 1 fo)] ++ (Rc ++ Rm)) (cc := cL_stop) (maxL := 5) (ret := (some .int)) (hh := [(0, 10, 13, 13)]) (fun A => va_Qi (fun (r : Int32) (W2 : va_W) => ∃ fo2 : Nat → Int64, IL g x0 m0 o0 (sp_stop Sx x_ y_).2.2 Sm t fo2 W2 ∧ r = (sp_stop Sx x_ y_).1 ∧ True) (fun u t => he_post g A ((fun (W2 : va_W) => W2) u) t) A) (by decide) rfl (Nat.le_of_ble_eq_true rfl) ?_
  intro p e s m args below meth c A ls H locs Q hQ htab hB
  obtain ⟨hx, hb, hr, hml, hown, hts, hlk, hin, hP, hK, hD, hS, hA, hE, hl⟩ := hB
  have hl : lv_has ls 5 [(0, .ref x0), (1, .int x_), (2, .int y_), (3, .ref o0)] := hl
  have cl13 := hts (.classLink RL 13 "java/lang/IllegalArgumentException") (by decide +kernel)
  refine lv_aload_n hx hb dL_stop_0 rfl (lv_at hl 3 rfl) ?_
  refine lv_iconst (v := 0) hx hb dL_stop_1 (by decide) ?_
  refine lv_aload_n hx hb dL_stop_2 rfl (lv_at hl 0 rfl) ?_
  refine lv_iload_n hx hb dL_stop_3 rfl (lv_at hl 1 rfl) ?_
  refine lv_iload_n hx hb dL_stop_4 rfl (lv_at hl 2 rfl) ?_
  rcases k_stop l hlt g x0 Sx _ x_ y_ hc with ⟨hcd, h9⟩ | ⟨hcd, W9, hI9, h9⟩
  · refine he_ci (wc := ([(x0, .inr (9, fx)), (m0, .inr (10, fm)), (aL g o0 1 fo)] ++ (Rc ++ Rm))) (wr := []) (va_runV (As := [.int x_, .int y_]) (rest := [.int 0, .ref o0]) ⟨hx, hb, hml, hown, hts⟩ (il_cI h9 hm H.size) (cwV 2 hts gL_stop_X10_stop rfl rfl rfl (by decide +kernel) ⟨Nat.le_of_ble_eq_true rfl, Nat.le_of_ble_eq_true rfl⟩) (he_preV (wc := ([(x0, .inr (9, fx)), (m0, .inr (10, fm)), (aL g o0 1 fo)] ++ (Rc ++ Rm))) hK hP hD hS hA hE (List.range (([(x0, .inr (9, fx)), (m0, .inr (10, fm)), (aL g o0 1 fo)] ++ (Rc ++ Rm)) : va_W).length) (he_all _) (he_allnd _) 0 rfl rfl) rfl rfl hl.1 rfl (lv_room (Nat.le_of_ble_eq_true rfl)) dL_stop_5 ⟨(Nat.le_of_ble_eq_true rfl), (Nat.le_of_ble_eq_true rfl)⟩) hP hD hS hA (List.range (([(x0, .inr (9, fx)), (m0, .inr (10, fm)), (aL g o0 1 fo)] ++ (Rc ++ Rm)) : va_W).length) [] (he_all _) rfl rfl (fun _ h9 => absurd h9 List.not_mem_nil) (fun r_1 u_2 H locs hu_3 hP hD hS => ?_)
    obtain ⟨hI9, hp5⟩ := hu_3
    obtain ⟨fx_q_4, fm_q_4, Rc_q_4, Rm_q_4, rfl, hc, hm⟩ := hI9
    have hP : va_P g.1 vwCl ([(x0, .inr (9, fx_q_4)), (m0, .inr (10, fm_q_4)), (aL g o0 1 fo)] ++ (Rc_q_4 ++ Rm_q_4)) H := hP
    have hD : va_D A ([(x0, .inr (9, fx_q_4)), (m0, .inr (10, fm_q_4)), (aL g o0 1 fo)] ++ (Rc_q_4 ++ Rm_q_4)) := hD
    refine lv_i2l (v := Int32.toInt64 r_1) hx hb dL_stop_8 rfl ?_
    refine he_last hx hb hK hP hD hS 2 rfl 0 (by decide) (by decide) (by decide) dL_stop_9 (fun H locs hP hD hS => ?_)
    have hP : va_P g.1 vwCl ([(x0, .inr (9, fx_q_4)), (m0, .inr (10, fm_q_4)), (aL g o0 1 (vp_updL fo 0 (Int32.toInt64 r_1)))] ++ (Rc_q_4 ++ Rm_q_4)) H := hP
    have hD : va_D A ([(x0, .inr (9, fx_q_4)), (m0, .inr (10, fm_q_4)), (aL g o0 1 (vp_updL fo 0 (Int32.toInt64 r_1)))] ++ (Rc_q_4 ++ Rm_q_4)) := hD
    refine lv_goto (tgt := 17) hx hb dL_stop_10 (by decide) ?_
    refine lv_iconst (v := 0) hx hb dL_stop_17 (by decide) ?_
    exact he_ri hQ hx hb hr hlk hP hD hS dL_stop_18 (Nat.le_of_ble_eq_true rfl) (Nat.le_of_ble_eq_true rfl) ([(x0, .inr (9, fx_q_4)), (m0, .inr (10, fm_q_4)), (aL g o0 1 (vp_updL fo 0 (Int32.toInt64 r_1)))] ++ (Rc_q_4 ++ Rm_q_4)) rfl ⟨(vp_updL fo 0 (Int32.toInt64 r_1)), ⟨_, _, _, _, rfl, hc, hm⟩, hcd.symm, trivial⟩
  · obtain ⟨W8, hI8, h8⟩ := il_Ti (o0 := o0) (fo := fo) h9 hI9 hm
    refine he_xi (En := "java/lang/IllegalArgumentException") (wx := W8) (wc := ([(x0, .inr (9, fx)), (m0, .inr (10, fm)), (aL g o0 1 fo)] ++ (Rc ++ Rm))) (wr := []) (vx_runV (As := [.int x_, .int y_]) (rest := [.int 0, .ref o0]) ⟨hx, hb, hml, hown, hts⟩ (h8 H.size) (cwV 2 hts gL_stop_X10_stop rfl rfl rfl (by decide +kernel) ⟨Nat.le_of_ble_eq_true rfl, Nat.le_of_ble_eq_true rfl⟩) (he_preV (wc := ([(x0, .inr (9, fx)), (m0, .inr (10, fm)), (aL g o0 1 fo)] ++ (Rc ++ Rm))) hK hP hD hS hA hE (List.range (([(x0, .inr (9, fx)), (m0, .inr (10, fm)), (aL g o0 1 fo)] ++ (Rc ++ Rm)) : va_W).length) (he_all _) (he_allnd _) 0 rfl rfl) rfl rfl hl.1 rfl (lv_room (Nat.le_of_ble_eq_true rfl)) dL_stop_5 ⟨(Nat.le_of_ble_eq_true rfl), (Nat.le_of_ble_eq_true rfl)⟩) hP hD hS hA (List.range (([(x0, .inr (9, fx)), (m0, .inr (10, fm)), (aL g o0 1 fo)] ++ (Rc ++ Rm)) : va_W).length) [] (he_all _) rfl rfl (fun _ h9 => absurd h9 List.not_mem_nil) (fun ce q9 H locs hP hD hS hce hcv hcl => ?_)
    obtain ⟨fx_q_5, fm_q_5, Rc_q_5, Rm_q_5, rfl, hc, hm⟩ := hI8
    have hP : va_P g.1 vwCl ([(x0, .inr (9, fx_q_5)), (m0, .inr (10, fm_q_5)), (aL g o0 1 fo)] ++ (Rc_q_5 ++ Rm_q_5)) H := hP
    have hD : va_D A ([(x0, .inr (9, fx_q_5)), (m0, .inr (10, fm_q_5)), (aL g o0 1 fo)] ++ (Rc_q_5 ++ Rm_q_5)) := hD
    refine vx_catch (name := "java/lang/IllegalArgumentException") (E := "java/lang/IllegalArgumentException") hown [] ⟨0, 10, 13, 13⟩ [] htab (fun z h9 => nomatch h9) (by decide) (by decide) cl13 (va_Nw.use rfl (hE.cast ("java/lang/IllegalArgumentException", "java/lang/IllegalArgumentException") (by decide))) hce hcv hcl ?_
    refine W.widen (k := 1) (n := 6) (Nat.le_of_ble_eq_true rfl) (Nat.le_of_ble_eq_true rfl) ?_
    refine lv_astore (lv' := [(4, .ref q9), (0, .ref x0), (1, .int x_), (2, .int y_), (3, .ref o0)]) hx hb dL_stop_13 hl (by decide) rfl (fun ls hl => ?_)
    refine lv_iconst (v := 1) hx hb dL_stop_15 (by decide) ?_
    exact he_ri hQ hx hb hr hlk hP hD hS dL_stop_16 (Nat.le_of_ble_eq_true rfl) (Nat.le_of_ble_eq_true rfl) ([(x0, .inr (9, fx_q_5)), (m0, .inr (10, fm_q_5)), (aL g o0 1 fo)] ++ (Rc_q_5 ++ Rm_q_5)) rfl ⟨fo, ⟨_, _, _, _, rfl, hc, hm⟩, hcd.symm, trivial⟩
set_option maxHeartbeats 8000000 in
set_option maxRecDepth 100000 in
theorem w_odds (l : Launch) (hlt : l.stackTraces = false) (g : he_G) (x0 m0 o0 : Nat) (Sx Sm : AbS) (t : Int32) (fo : Nat → Int64) (W : va_W) (x_ : Int32) (y_ : Int32) (hI : IL g x0 m0 o0 Sx Sm t fo W) : he_I l yL_odds wsL_odds 8 125 1 6 g [.ref x0, .int x_, .int y_] W (fun (r : Int32) (W2 : va_W) => ∃ fo2 : Nat → Int64, IL g x0 m0 o0 (sp_odds Sx x_ y_).2.2 Sm t fo2 W2 ∧ r = (sp_odds Sx x_ y_).1 ∧ True) (fun W2 => W2) := by
  obtain ⟨fx, fm, Rc, Rm, rfl, hc, hm⟩ := hI
  refine he_beginH (l := l) (g := g) (y := yL_odds) (wl := wsL_odds) (fr := 8) (lo := 125) (mc := 1) (ms := 6) (av := [.ref x0, .int x_, .int y_]) (ws := [(x0, .inr (9, fx)), (m0, .inr (10, fm)), (aL g o0 1 fo)] ++ (Rc ++ Rm)) (cc := cL_odds) (maxL := 4) (ret := (some .int)) (hh := [(0, 6, 9, 13)]) (fun A => va_Qi (fun (r : Int32) (W2 : va_W) => ∃ fo2 : Nat → Int64, IL g x0 m0 o0 (sp_odds Sx x_ y_).2.2 Sm t fo2 W2 ∧ r = (sp_odds Sx x_ y_).1 ∧ True) (fun u t => he_post g A ((fun (W2 : va_W) => W2) u) t) A) (by decide) rfl (Nat.le_of_ble_eq_true rfl) ?_
  intro p e s m args below meth c A ls H locs Q hQ htab hB
  obtain ⟨hx, hb, hr, hml, hown, hts, hlk, hin, hP, hK, hD, hS, hA, hE, hl⟩ := hB
  have hl : lv_has ls 4 [(0, .ref x0), (1, .int x_), (2, .int y_)] := hl
  have cl13 := hts (.classLink RL 13 "java/lang/IllegalArgumentException") (by decide +kernel)
  refine lv_aload_n hx hb dL_odds_0 rfl (lv_at hl 0 rfl) ?_
  refine lv_iload_n hx hb dL_odds_1 rfl (lv_at hl 1 rfl) ?_
  refine lv_iload_n hx hb dL_odds_2 rfl (lv_at hl 2 rfl) ?_
  rcases k_odds l hlt g x0 Sx _ x_ y_ hc with ⟨hcd, h9⟩ | ⟨hcd, W9, hI9, h9⟩
  · refine he_cv (wc := ([(x0, .inr (9, fx)), (m0, .inr (10, fm)), (aL g o0 1 fo)] ++ (Rc ++ Rm))) (wr := []) (va_runV (As := [.int x_, .int y_]) (rest := []) ⟨hx, hb, hml, hown, hts⟩ (il_cV h9 hm H.size) (cwV 2 hts gL_odds_X10_odds rfl rfl rfl (by decide +kernel) ⟨Nat.le_of_ble_eq_true rfl, Nat.le_of_ble_eq_true rfl⟩) (he_preV (wc := ([(x0, .inr (9, fx)), (m0, .inr (10, fm)), (aL g o0 1 fo)] ++ (Rc ++ Rm))) hK hP hD hS hA hE (List.range (([(x0, .inr (9, fx)), (m0, .inr (10, fm)), (aL g o0 1 fo)] ++ (Rc ++ Rm)) : va_W).length) (he_all _) (he_allnd _) 0 rfl rfl) rfl rfl hl.1 rfl (lv_room (Nat.le_of_ble_eq_true rfl)) dL_odds_3 ⟨(Nat.le_of_ble_eq_true rfl), (Nat.le_of_ble_eq_true rfl)⟩) hP hD hS hA (List.range (([(x0, .inr (9, fx)), (m0, .inr (10, fm)), (aL g o0 1 fo)] ++ (Rc ++ Rm)) : va_W).length) [] (he_all _) rfl rfl (fun _ h9 => absurd h9 List.not_mem_nil) (fun u_2 H locs hu_3 hP hD hS => ?_)
    obtain ⟨hI9, hp3⟩ := hu_3
    obtain ⟨fx_q_4, fm_q_4, Rc_q_4, Rm_q_4, rfl, hc, hm⟩ := hI9
    have hP : va_P g.1 vwCl ([(x0, .inr (9, fx_q_4)), (m0, .inr (10, fm_q_4)), (aL g o0 1 fo)] ++ (Rc_q_4 ++ Rm_q_4)) H := hP
    have hD : va_D A ([(x0, .inr (9, fx_q_4)), (m0, .inr (10, fm_q_4)), (aL g o0 1 fo)] ++ (Rc_q_4 ++ Rm_q_4)) := hD
    refine lv_goto (tgt := 12) hx hb dL_odds_6 (by decide) ?_
    refine lv_iconst (v := 0) hx hb dL_odds_12 (by decide) ?_
    exact he_ri hQ hx hb hr hlk hP hD hS dL_odds_13 (Nat.le_of_ble_eq_true rfl) (Nat.le_of_ble_eq_true rfl) ([(x0, .inr (9, fx_q_4)), (m0, .inr (10, fm_q_4)), (aL g o0 1 fo)] ++ (Rc_q_4 ++ Rm_q_4)) rfl ⟨fo, ⟨_, _, _, _, rfl, hc, hm⟩, hcd.symm, trivial⟩
  · obtain ⟨W8, hI8, h8⟩ := il_Tv (o0 := o0) (fo := fo) h9 hI9 hm
    refine he_xv (En := "java/lang/IllegalArgumentException") (wx := W8) (wc := ([(x0, .inr (9, fx)), (m0, .inr (10, fm)), (aL g o0 1 fo)] ++ (Rc ++ Rm))) (wr := []) (vx_runV (As := [.int x_, .int y_]) (rest := []) ⟨hx, hb, hml, hown, hts⟩ (h8 H.size) (cwV 2 hts gL_odds_X10_odds rfl rfl rfl (by decide +kernel) ⟨Nat.le_of_ble_eq_true rfl, Nat.le_of_ble_eq_true rfl⟩) (he_preV (wc := ([(x0, .inr (9, fx)), (m0, .inr (10, fm)), (aL g o0 1 fo)] ++ (Rc ++ Rm))) hK hP hD hS hA hE (List.range (([(x0, .inr (9, fx)), (m0, .inr (10, fm)), (aL g o0 1 fo)] ++ (Rc ++ Rm)) : va_W).length) (he_all _) (he_allnd _) 0 rfl rfl) rfl rfl hl.1 rfl (lv_room (Nat.le_of_ble_eq_true rfl)) dL_odds_3 ⟨(Nat.le_of_ble_eq_true rfl), (Nat.le_of_ble_eq_true rfl)⟩) hP hD hS hA (List.range (([(x0, .inr (9, fx)), (m0, .inr (10, fm)), (aL g o0 1 fo)] ++ (Rc ++ Rm)) : va_W).length) [] (he_all _) rfl rfl (fun _ h9 => absurd h9 List.not_mem_nil) (fun ce q9 H locs hP hD hS hce hcv hcl => ?_)
    obtain ⟨fx_q_5, fm_q_5, Rc_q_5, Rm_q_5, rfl, hc, hm⟩ := hI8
    have hP : va_P g.1 vwCl ([(x0, .inr (9, fx_q_5)), (m0, .inr (10, fm_q_5)), (aL g o0 1 fo)] ++ (Rc_q_5 ++ Rm_q_5)) H := hP
    have hD : va_D A ([(x0, .inr (9, fx_q_5)), (m0, .inr (10, fm_q_5)), (aL g o0 1 fo)] ++ (Rc_q_5 ++ Rm_q_5)) := hD
    refine vx_catch (name := "java/lang/IllegalArgumentException") (E := "java/lang/IllegalArgumentException") hown [] ⟨0, 6, 9, 13⟩ [] htab (fun z h9 => nomatch h9) (by decide) (by decide) cl13 (va_Nw.use rfl (hE.cast ("java/lang/IllegalArgumentException", "java/lang/IllegalArgumentException") (by decide))) hce hcv hcl ?_
    refine W.widen (k := 1) (n := 6) (Nat.le_of_ble_eq_true rfl) (Nat.le_of_ble_eq_true rfl) ?_
    refine lv_astore_n (lv' := [(3, .ref q9), (0, .ref x0), (1, .int x_), (2, .int y_)]) hx hb dL_odds_9 rfl hl (by decide) rfl (fun ls hl => ?_)
    refine lv_iconst (v := 1) hx hb dL_odds_10 (by decide) ?_
    exact he_ri hQ hx hb hr hlk hP hD hS dL_odds_11 (Nat.le_of_ble_eq_true rfl) (Nat.le_of_ble_eq_true rfl) ([(x0, .inr (9, fx_q_5)), (m0, .inr (10, fm_q_5)), (aL g o0 1 fo)] ++ (Rc_q_5 ++ Rm_q_5)) rfl ⟨fo, ⟨_, _, _, _, rfl, hc, hm⟩, hcd.symm, trivial⟩
set_option maxHeartbeats 8000000 in
set_option maxRecDepth 100000 in
theorem w_kind (l : Launch) (hlt : l.stackTraces = false) (g : he_G) (x0 m0 o0 : Nat) (Sx Sm : AbS) (t : Int32) (fo : Nat → Int64) (W : va_W) (x_ : Int32) (y_ : Int32) (z_ : Int32) (hI : IL g x0 m0 o0 Sx Sm t fo W) : he_I l yL_kind wsL_kind 8 126 1 6 g [.ref x0, .int x_, .int y_, .int z_] W (fun (r : Int32) (W2 : va_W) => ∃ fo2 : Nat → Int64, IL g x0 m0 o0 (sp_kind Sx x_ y_ z_).2.2 Sm t fo2 W2 ∧ r = (sp_kind Sx x_ y_ z_).1 ∧ True) (fun W2 => W2) := by
  obtain ⟨fx, fm, Rc, Rm, rfl, hc, hm⟩ := hI
  refine he_beginH (l := l) (g := g) (y := yL_kind) (wl := wsL_kind) (fr := 8) (lo := 126) (mc := 1) (ms := 6) (av := [.ref x0, .int x_, .int y_, .int z_]) (ws := [(x0, .inr (9, fx)), (m0, .inr (10, fm)), (aL g o0 1 fo)] ++ (Rc ++ Rm)) (cc := cL_kind) (maxL := 5) (ret := (some .int)) (hh := [(0, 7, 10, 13)]) (fun A => va_Qi (fun (r : Int32) (W2 : va_W) => ∃ fo2 : Nat → Int64, IL g x0 m0 o0 (sp_kind Sx x_ y_ z_).2.2 Sm t fo2 W2 ∧ r = (sp_kind Sx x_ y_ z_).1 ∧ True) (fun u t => he_post g A ((fun (W2 : va_W) => W2) u) t) A) (by decide) rfl (Nat.le_of_ble_eq_true rfl) ?_
  intro p e s m args below meth c A ls H locs Q hQ htab hB
  obtain ⟨hx, hb, hr, hml, hown, hts, hlk, hin, hP, hK, hD, hS, hA, hE, hl⟩ := hB
  have hl : lv_has ls 5 [(0, .ref x0), (1, .int x_), (2, .int y_), (3, .int z_)] := hl
  have cl13 := hts (.classLink RL 13 "java/lang/IllegalArgumentException") (by decide +kernel)
  refine lv_aload_n hx hb dL_kind_0 rfl (lv_at hl 0 rfl) ?_
  refine lv_iload_n hx hb dL_kind_1 rfl (lv_at hl 1 rfl) ?_
  refine lv_iload_n hx hb dL_kind_2 rfl (lv_at hl 2 rfl) ?_
  refine lv_iload_n hx hb dL_kind_3 rfl (lv_at hl 3 rfl) ?_
  rcases k_kind l hlt g x0 Sx _ x_ y_ z_ hc with ⟨hcd, h9⟩ | ⟨hcd, W9, hI9, h9⟩
  · refine he_cv (wc := ([(x0, .inr (9, fx)), (m0, .inr (10, fm)), (aL g o0 1 fo)] ++ (Rc ++ Rm))) (wr := []) (va_runV (As := [.int x_, .int y_, .int z_]) (rest := []) ⟨hx, hb, hml, hown, hts⟩ (il_cV h9 hm H.size) (cwV 3 hts gL_kind_X10_kind rfl rfl rfl (by decide +kernel) ⟨Nat.le_of_ble_eq_true rfl, Nat.le_of_ble_eq_true rfl⟩) (he_preV (wc := ([(x0, .inr (9, fx)), (m0, .inr (10, fm)), (aL g o0 1 fo)] ++ (Rc ++ Rm))) hK hP hD hS hA hE (List.range (([(x0, .inr (9, fx)), (m0, .inr (10, fm)), (aL g o0 1 fo)] ++ (Rc ++ Rm)) : va_W).length) (he_all _) (he_allnd _) 0 rfl rfl) rfl rfl hl.1 rfl (lv_room (Nat.le_of_ble_eq_true rfl)) dL_kind_4 ⟨(Nat.le_of_ble_eq_true rfl), (Nat.le_of_ble_eq_true rfl)⟩) hP hD hS hA (List.range (([(x0, .inr (9, fx)), (m0, .inr (10, fm)), (aL g o0 1 fo)] ++ (Rc ++ Rm)) : va_W).length) [] (he_all _) rfl rfl (fun _ h9 => absurd h9 List.not_mem_nil) (fun u_2 H locs hu_3 hP hD hS => ?_)
    obtain ⟨hI9, hp4⟩ := hu_3
    obtain ⟨fx_q_4, fm_q_4, Rc_q_4, Rm_q_4, rfl, hc, hm⟩ := hI9
    have hP : va_P g.1 vwCl ([(x0, .inr (9, fx_q_4)), (m0, .inr (10, fm_q_4)), (aL g o0 1 fo)] ++ (Rc_q_4 ++ Rm_q_4)) H := hP
    have hD : va_D A ([(x0, .inr (9, fx_q_4)), (m0, .inr (10, fm_q_4)), (aL g o0 1 fo)] ++ (Rc_q_4 ++ Rm_q_4)) := hD
    refine lv_goto (tgt := 14) hx hb dL_kind_7 (by decide) ?_
    refine lv_iconst (v := 0) hx hb dL_kind_14 (by decide) ?_
    exact he_ri hQ hx hb hr hlk hP hD hS dL_kind_15 (Nat.le_of_ble_eq_true rfl) (Nat.le_of_ble_eq_true rfl) ([(x0, .inr (9, fx_q_4)), (m0, .inr (10, fm_q_4)), (aL g o0 1 fo)] ++ (Rc_q_4 ++ Rm_q_4)) rfl ⟨fo, ⟨_, _, _, _, rfl, hc, hm⟩, hcd.symm, trivial⟩
  · obtain ⟨W8, hI8, h8⟩ := il_Tv (o0 := o0) (fo := fo) h9 hI9 hm
    refine he_xv (En := "java/lang/IllegalArgumentException") (wx := W8) (wc := ([(x0, .inr (9, fx)), (m0, .inr (10, fm)), (aL g o0 1 fo)] ++ (Rc ++ Rm))) (wr := []) (vx_runV (As := [.int x_, .int y_, .int z_]) (rest := []) ⟨hx, hb, hml, hown, hts⟩ (h8 H.size) (cwV 3 hts gL_kind_X10_kind rfl rfl rfl (by decide +kernel) ⟨Nat.le_of_ble_eq_true rfl, Nat.le_of_ble_eq_true rfl⟩) (he_preV (wc := ([(x0, .inr (9, fx)), (m0, .inr (10, fm)), (aL g o0 1 fo)] ++ (Rc ++ Rm))) hK hP hD hS hA hE (List.range (([(x0, .inr (9, fx)), (m0, .inr (10, fm)), (aL g o0 1 fo)] ++ (Rc ++ Rm)) : va_W).length) (he_all _) (he_allnd _) 0 rfl rfl) rfl rfl hl.1 rfl (lv_room (Nat.le_of_ble_eq_true rfl)) dL_kind_4 ⟨(Nat.le_of_ble_eq_true rfl), (Nat.le_of_ble_eq_true rfl)⟩) hP hD hS hA (List.range (([(x0, .inr (9, fx)), (m0, .inr (10, fm)), (aL g o0 1 fo)] ++ (Rc ++ Rm)) : va_W).length) [] (he_all _) rfl rfl (fun _ h9 => absurd h9 List.not_mem_nil) (fun ce q9 H locs hP hD hS hce hcv hcl => ?_)
    obtain ⟨fx_q_5, fm_q_5, Rc_q_5, Rm_q_5, rfl, hc, hm⟩ := hI8
    have hP : va_P g.1 vwCl ([(x0, .inr (9, fx_q_5)), (m0, .inr (10, fm_q_5)), (aL g o0 1 fo)] ++ (Rc_q_5 ++ Rm_q_5)) H := hP
    have hD : va_D A ([(x0, .inr (9, fx_q_5)), (m0, .inr (10, fm_q_5)), (aL g o0 1 fo)] ++ (Rc_q_5 ++ Rm_q_5)) := hD
    refine vx_catch (name := "java/lang/IllegalArgumentException") (E := "java/lang/IllegalArgumentException") hown [] ⟨0, 7, 10, 13⟩ [] htab (fun z h9 => nomatch h9) (by decide) (by decide) cl13 (va_Nw.use rfl (hE.cast ("java/lang/IllegalArgumentException", "java/lang/IllegalArgumentException") (by decide))) hce hcv hcl ?_
    refine W.widen (k := 1) (n := 6) (Nat.le_of_ble_eq_true rfl) (Nat.le_of_ble_eq_true rfl) ?_
    refine lv_astore (lv' := [(4, .ref q9), (0, .ref x0), (1, .int x_), (2, .int y_), (3, .int z_)]) hx hb dL_kind_10 hl (by decide) rfl (fun ls hl => ?_)
    refine lv_iconst (v := 1) hx hb dL_kind_12 (by decide) ?_
    exact he_ri hQ hx hb hr hlk hP hD hS dL_kind_13 (Nat.le_of_ble_eq_true rfl) (Nat.le_of_ble_eq_true rfl) ([(x0, .inr (9, fx_q_5)), (m0, .inr (10, fm_q_5)), (aL g o0 1 fo)] ++ (Rc_q_5 ++ Rm_q_5)) rfl ⟨fo, ⟨_, _, _, _, rfl, hc, hm⟩, hcd.symm, trivial⟩
