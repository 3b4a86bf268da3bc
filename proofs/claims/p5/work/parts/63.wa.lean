set_option maxHeartbeats 8000000 in
set_option maxRecDepth 100000 in
theorem w_siege (l : Launch) (hlt : l.stackTraces = false) (g : he_G) (x0 m0 o0 : Nat) (Sx Sm : AbS) (t : Int32) (fo : Nat → Int64) (W : va_W) (x_ : Int32) (hI : IL g x0 m0 o0 Sx Sm t fo W) : he_I l yL_siege wsL_siege 9 208 1 6 g [.ref x0, .int x_, .ref o0] W (fun (r : Int32) (W2 : va_W) => ∃ fo2 : Nat → Int64, IL g x0 m0 o0 (sp_siege Sx x_).2.2 Sm t fo2 W2 ∧ r = (sp_siege Sx x_).1 ∧ ((sp_siege Sx x_).1 = 0 → fo2 0 = Int32.toInt64 (sp_siege Sx x_).2.1)) (fun W2 => W2) := by
  obtain ⟨fx, fm, Rc, Rm, rfl, hc, hm⟩ := hI
  refine he_beginH (l := l) (g := g) (y := yL_siege) (wl := wsL_siege) (fr := 9) (lo := 208) (mc := 1) (ms := 6) (av := [.ref x0, .int x_, .ref o0]) (ws := [(x0, .inr (9, fx)), (m0, .inr (10, fm)), (aL g o0 1 fo)] ++ (Rc ++ Rm)) (cc := cL_siege) (maxL := 4) (ret := (some .int)) (hh := [(0, 9, 12, 13)]) (fun A => va_Qi (fun (r : Int32) (W2 : va_W) => ∃ fo2 : Nat → Int64, IL g x0 m0 o0 (sp_siege Sx x_).2.2 Sm t fo2 W2 ∧ r = (sp_siege Sx x_).1 ∧ ((sp_siege Sx x_).1 = 0 → fo2 0 = Int32.toInt64 (sp_siege Sx x_).2.1)) (fun u t => he_post g A ((fun (W2 : va_W) => W2) u) t) A) (by decide) rfl (Nat.le_of_ble_eq_true rfl) ?_
  intro p e s m args below meth c A ls H locs Q hQ htab hB
  obtain ⟨hx, hb, hr, hml, hown, hts, hlk, hin, hP, hK, hD, hS, hA, hE, hl⟩ := hB
  have hl : lv_has ls 4 [(0, .ref x0), (1, .int x_), (2, .ref o0)] := hl
  have cl13 := hts (.classLink RL 13 "java/lang/IllegalArgumentException") (by decide +kernel)
  refine lv_aload_n hx hb dL_siege_0 rfl (lv_at hl 2 rfl) ?_
  refine lv_iconst (v := 0) hx hb dL_siege_1 (by decide) ?_
  refine lv_aload_n hx hb dL_siege_2 rfl (lv_at hl 0 rfl) ?_
  refine lv_iload_n hx hb dL_siege_3 rfl (lv_at hl 1 rfl) ?_
  rcases k_siege l hlt g x0 Sx _ x_ hc with ⟨hcd, h9⟩ | ⟨hcd, W9, hI9, h9⟩
  · refine he_ci (wc := ([(x0, .inr (9, fx)), (m0, .inr (10, fm)), (aL g o0 1 fo)] ++ (Rc ++ Rm))) (wr := []) (va_runV (As := [.int x_]) (rest := [.int 0, .ref o0]) ⟨hx, hb, hml, hown, hts⟩ (il_cI h9 hm H.size) (cwV 1 hts gL_siege_X10_siege rfl rfl rfl (by decide +kernel) ⟨Nat.le_of_ble_eq_true rfl, Nat.le_of_ble_eq_true rfl⟩) (he_preV (wc := ([(x0, .inr (9, fx)), (m0, .inr (10, fm)), (aL g o0 1 fo)] ++ (Rc ++ Rm))) hK hP hD hS hA hE (List.range (([(x0, .inr (9, fx)), (m0, .inr (10, fm)), (aL g o0 1 fo)] ++ (Rc ++ Rm)) : va_W).length) (he_all _) (he_allnd _) 0 rfl rfl) rfl rfl hl.1 rfl (lv_room (Nat.le_of_ble_eq_true rfl)) dL_siege_4 ⟨(Nat.le_of_ble_eq_true rfl), (Nat.le_of_ble_eq_true rfl)⟩) hP hD hS hA (List.range (([(x0, .inr (9, fx)), (m0, .inr (10, fm)), (aL g o0 1 fo)] ++ (Rc ++ Rm)) : va_W).length) [] (he_all _) rfl rfl (fun _ h9 => absurd h9 List.not_mem_nil) (fun r_1 u_2 H locs hu_3 hP hD hS => ?_)
    obtain ⟨hI9, hp4⟩ := hu_3
    obtain ⟨fx_q_4, fm_q_4, Rc_q_4, Rm_q_4, rfl, hc, hm⟩ := hI9
    have hP : va_P g.1 vwCl ([(x0, .inr (9, fx_q_4)), (m0, .inr (10, fm_q_4)), (aL g o0 1 fo)] ++ (Rc_q_4 ++ Rm_q_4)) H := hP
    have hD : va_D A ([(x0, .inr (9, fx_q_4)), (m0, .inr (10, fm_q_4)), (aL g o0 1 fo)] ++ (Rc_q_4 ++ Rm_q_4)) := hD
    refine lv_i2l (v := Int32.toInt64 r_1) hx hb dL_siege_7 rfl ?_
    refine he_last hx hb hK hP hD hS 2 rfl 0 (by decide) (by decide) (by decide) dL_siege_8 (fun H locs hP hD hS => ?_)
    have hP : va_P g.1 vwCl ([(x0, .inr (9, fx_q_4)), (m0, .inr (10, fm_q_4)), (aL g o0 1 (vp_updL fo 0 (Int32.toInt64 r_1)))] ++ (Rc_q_4 ++ Rm_q_4)) H := hP
    have hD : va_D A ([(x0, .inr (9, fx_q_4)), (m0, .inr (10, fm_q_4)), (aL g o0 1 (vp_updL fo 0 (Int32.toInt64 r_1)))] ++ (Rc_q_4 ++ Rm_q_4)) := hD
    refine lv_goto (tgt := 15) hx hb dL_siege_9 (by decide) ?_
    refine lv_iconst (v := 0) hx hb dL_siege_15 (by decide) ?_
    exact he_ri hQ hx hb hr hlk hP hD hS dL_siege_16 (Nat.le_of_ble_eq_true rfl) (Nat.le_of_ble_eq_true rfl) ([(x0, .inr (9, fx_q_4)), (m0, .inr (10, fm_q_4)), (aL g o0 1 (vp_updL fo 0 (Int32.toInt64 r_1)))] ++ (Rc_q_4 ++ Rm_q_4)) rfl ⟨(vp_updL fo 0 (Int32.toInt64 r_1)), ⟨_, _, _, _, rfl, hc, hm⟩, hcd.symm, fun _ => (by rw [show (vp_updL fo 0 (Int32.toInt64 r_1)) 0 = _ from vp_updL_s _ _ _]; exact (congrArg Int32.toInt64 hp4))⟩
  · obtain ⟨W8, hI8, h8⟩ := il_Ti (o0 := o0) (fo := fo) h9 hI9 hm
    refine he_xi (En := "java/lang/IllegalArgumentException") (wx := W8) (wc := ([(x0, .inr (9, fx)), (m0, .inr (10, fm)), (aL g o0 1 fo)] ++ (Rc ++ Rm))) (wr := []) (vx_runV (As := [.int x_]) (rest := [.int 0, .ref o0]) ⟨hx, hb, hml, hown, hts⟩ (h8 H.size) (cwV 1 hts gL_siege_X10_siege rfl rfl rfl (by decide +kernel) ⟨Nat.le_of_ble_eq_true rfl, Nat.le_of_ble_eq_true rfl⟩) (he_preV (wc := ([(x0, .inr (9, fx)), (m0, .inr (10, fm)), (aL g o0 1 fo)] ++ (Rc ++ Rm))) hK hP hD hS hA hE (List.range (([(x0, .inr (9, fx)), (m0, .inr (10, fm)), (aL g o0 1 fo)] ++ (Rc ++ Rm)) : va_W).length) (he_all _) (he_allnd _) 0 rfl rfl) rfl rfl hl.1 rfl (lv_room (Nat.le_of_ble_eq_true rfl)) dL_siege_4 ⟨(Nat.le_of_ble_eq_true rfl), (Nat.le_of_ble_eq_true rfl)⟩) hP hD hS hA (List.range (([(x0, .inr (9, fx)), (m0, .inr (10, fm)), (aL g o0 1 fo)] ++ (Rc ++ Rm)) : va_W).length) [] (he_all _) rfl rfl (fun _ h9 => absurd h9 List.not_mem_nil) (fun ce q9 H locs hP hD hS hce hcv hcl => ?_)
    obtain ⟨fx_q_5, fm_q_5, Rc_q_5, Rm_q_5, rfl, hc, hm⟩ := hI8
    have hP : va_P g.1 vwCl ([(x0, .inr (9, fx_q_5)), (m0, .inr (10, fm_q_5)), (aL g o0 1 fo)] ++ (Rc_q_5 ++ Rm_q_5)) H := hP
    have hD : va_D A ([(x0, .inr (9, fx_q_5)), (m0, .inr (10, fm_q_5)), (aL g o0 1 fo)] ++ (Rc_q_5 ++ Rm_q_5)) := hD
    refine vx_catch (name := "java/lang/IllegalArgumentException") (E := "java/lang/IllegalArgumentException") hown [] ⟨0, 9, 12, 13⟩ [] htab (fun z h9 => nomatch h9) (by decide) (by decide) cl13 (va_Nw.use rfl (hE.cast ("java/lang/IllegalArgumentException", "java/lang/IllegalArgumentException") (by decide))) hce hcv hcl ?_
    refine W.widen (k := 1) (n := 6) (Nat.le_of_ble_eq_true rfl) (Nat.le_of_ble_eq_true rfl) ?_
    refine lv_astore_n (lv' := [(3, .ref q9), (0, .ref x0), (1, .int x_), (2, .ref o0)]) hx hb dL_siege_12 rfl hl (by decide) rfl (fun ls hl => ?_)
    refine lv_iconst (v := 1) hx hb dL_siege_13 (by decide) ?_
    exact he_ri hQ hx hb hr hlk hP hD hS dL_siege_14 (Nat.le_of_ble_eq_true rfl) (Nat.le_of_ble_eq_true rfl) ([(x0, .inr (9, fx_q_5)), (m0, .inr (10, fm_q_5)), (aL g o0 1 fo)] ++ (Rc_q_5 ++ Rm_q_5)) rfl ⟨fo, ⟨_, _, _, _, rfl, hc, hm⟩, hcd.symm, fun h9 => absurd (hcd.symm.trans h9) (by decide)⟩
set_option maxHeartbeats 8000000 in
set_option maxRecDepth 100000 in
theorem w_contract (l : Launch) (hlt : l.stackTraces = false) (g : he_G) (x0 m0 o0 : Nat) (Sx Sm : AbS) (t : Int32) (fo : Nat → Int64) (W : va_W) (x_ : Int32) (hI : IL g x0 m0 o0 Sx Sm t fo W) : he_I l yL_contract wsL_contract 9 208 1 6 g [.ref x0, .int x_, .ref o0] W (fun (r : Int32) (W2 : va_W) => ∃ fo2 : Nat → Int64, IL g x0 m0 o0 (sp_contract Sx x_).2.2 Sm t fo2 W2 ∧ r = (sp_contract Sx x_).1 ∧ ((sp_contract Sx x_).1 = 0 → fo2 0 = Int32.toInt64 (sp_contract Sx x_).2.1)) (fun W2 => W2) := by
  obtain ⟨fx, fm, Rc, Rm, rfl, hc, hm⟩ := hI
  refine he_beginH (l := l) (g := g) (y := yL_contract) (wl := wsL_contract) (fr := 9) (lo := 208) (mc := 1) (ms := 6) (av := [.ref x0, .int x_, .ref o0]) (ws := [(x0, .inr (9, fx)), (m0, .inr (10, fm)), (aL g o0 1 fo)] ++ (Rc ++ Rm)) (cc := cL_contract) (maxL := 4) (ret := (some .int)) (hh := [(0, 9, 12, 13)]) (fun A => va_Qi (fun (r : Int32) (W2 : va_W) => ∃ fo2 : Nat → Int64, IL g x0 m0 o0 (sp_contract Sx x_).2.2 Sm t fo2 W2 ∧ r = (sp_contract Sx x_).1 ∧ ((sp_contract Sx x_).1 = 0 → fo2 0 = Int32.toInt64 (sp_contract Sx x_).2.1)) (fun u t => he_post g A ((fun (W2 : va_W) => W2) u) t) A) (by decide) rfl (Nat.le_of_ble_eq_true rfl) ?_
  intro p e s m args below meth c A ls H locs Q hQ htab hB
  obtain ⟨hx, hb, hr, hml, hown, hts, hlk, hin, hP, hK, hD, hS, hA, hE, hl⟩ := hB
  have hl : lv_has ls 4 [(0, .ref x0), (1, .int x_), (2, .ref o0)] := hl
  have cl13 := hts (.classLink RL 13 "java/lang/IllegalArgumentException") (by decide +kernel)
  refine lv_aload_n hx hb dL_contract_0 rfl (lv_at hl 2 rfl) ?_
  refine lv_iconst (v := 0) hx hb dL_contract_1 (by decide) ?_
  refine lv_aload_n hx hb dL_contract_2 rfl (lv_at hl 0 rfl) ?_
  refine lv_iload_n hx hb dL_contract_3 rfl (lv_at hl 1 rfl) ?_
  rcases k_contract l hlt g x0 Sx _ x_ hc with ⟨hcd, h9⟩ | ⟨hcd, W9, hI9, h9⟩
  · refine he_ci (wc := ([(x0, .inr (9, fx)), (m0, .inr (10, fm)), (aL g o0 1 fo)] ++ (Rc ++ Rm))) (wr := []) (va_runV (As := [.int x_]) (rest := [.int 0, .ref o0]) ⟨hx, hb, hml, hown, hts⟩ (il_cI h9 hm H.size) (cwV 1 hts gL_contract_X10_contract rfl rfl rfl (by decide +kernel) ⟨Nat.le_of_ble_eq_true rfl, Nat.le_of_ble_eq_true rfl⟩) (he_preV (wc := ([(x0, .inr (9, fx)), (m0, .inr (10, fm)), (aL g o0 1 fo)] ++ (Rc ++ Rm))) hK hP hD hS hA hE (List.range (([(x0, .inr (9, fx)), (m0, .inr (10, fm)), (aL g o0 1 fo)] ++ (Rc ++ Rm)) : va_W).length) (he_all _) (he_allnd _) 0 rfl rfl) rfl rfl hl.1 rfl (lv_room (Nat.le_of_ble_eq_true rfl)) dL_contract_4 ⟨(Nat.le_of_ble_eq_true rfl), (Nat.le_of_ble_eq_true rfl)⟩) hP hD hS hA (List.range (([(x0, .inr (9, fx)), (m0, .inr (10, fm)), (aL g o0 1 fo)] ++ (Rc ++ Rm)) : va_W).length) [] (he_all _) rfl rfl (fun _ h9 => absurd h9 List.not_mem_nil) (fun r_1 u_2 H locs hu_3 hP hD hS => ?_)
    obtain ⟨hI9, hp4⟩ := hu_3
    obtain ⟨fx_q_4, fm_q_4, Rc_q_4, Rm_q_4, rfl, hc, hm⟩ := hI9
    have hP : va_P g.1 vwCl ([(x0, .inr (9, fx_q_4)), (m0, .inr (10, fm_q_4)), (aL g o0 1 fo)] ++ (Rc_q_4 ++ Rm_q_4)) H := hP
    have hD : va_D A ([(x0, .inr (9, fx_q_4)), (m0, .inr (10, fm_q_4)), (aL g o0 1 fo)] ++ (Rc_q_4 ++ Rm_q_4)) := hD
    refine lv_i2l (v := Int32.toInt64 r_1) hx hb dL_contract_7 rfl ?_
    refine he_last hx hb hK hP hD hS 2 rfl 0 (by decide) (by decide) (by decide) dL_contract_8 (fun H locs hP hD hS => ?_)
    have hP : va_P g.1 vwCl ([(x0, .inr (9, fx_q_4)), (m0, .inr (10, fm_q_4)), (aL g o0 1 (vp_updL fo 0 (Int32.toInt64 r_1)))] ++ (Rc_q_4 ++ Rm_q_4)) H := hP
    have hD : va_D A ([(x0, .inr (9, fx_q_4)), (m0, .inr (10, fm_q_4)), (aL g o0 1 (vp_updL fo 0 (Int32.toInt64 r_1)))] ++ (Rc_q_4 ++ Rm_q_4)) := hD
    refine lv_goto (tgt := 15) hx hb dL_contract_9 (by decide) ?_
    refine lv_iconst (v := 0) hx hb dL_contract_15 (by decide) ?_
    exact he_ri hQ hx hb hr hlk hP hD hS dL_contract_16 (Nat.le_of_ble_eq_true rfl) (Nat.le_of_ble_eq_true rfl) ([(x0, .inr (9, fx_q_4)), (m0, .inr (10, fm_q_4)), (aL g o0 1 (vp_updL fo 0 (Int32.toInt64 r_1)))] ++ (Rc_q_4 ++ Rm_q_4)) rfl ⟨(vp_updL fo 0 (Int32.toInt64 r_1)), ⟨_, _, _, _, rfl, hc, hm⟩, hcd.symm, fun _ => (by rw [show (vp_updL fo 0 (Int32.toInt64 r_1)) 0 = _ from vp_updL_s _ _ _]; exact (congrArg Int32.toInt64 hp4))⟩
  · obtain ⟨W8, hI8, h8⟩ := il_Ti (o0 := o0) (fo := fo) h9 hI9 hm
    refine he_xi (En := "java/lang/IllegalArgumentException") (wx := W8) (wc := ([(x0, .inr (9, fx)), (m0, .inr (10, fm)), (aL g o0 1 fo)] ++ (Rc ++ Rm))) (wr := []) (vx_runV (As := [.int x_]) (rest := [.int 0, .ref o0]) ⟨hx, hb, hml, hown, hts⟩ (h8 H.size) (cwV 1 hts gL_contract_X10_contract rfl rfl rfl (by decide +kernel) ⟨Nat.le_of_ble_eq_true rfl, Nat.le_of_ble_eq_true rfl⟩) (he_preV (wc := ([(x0, .inr (9, fx)), (m0, .inr (10, fm)), (aL g o0 1 fo)] ++ (Rc ++ Rm))) hK hP hD hS hA hE (List.range (([(x0, .inr (9, fx)), (m0, .inr (10, fm)), (aL g o0 1 fo)] ++ (Rc ++ Rm)) : va_W).length) (he_all _) (he_allnd _) 0 rfl rfl) rfl rfl hl.1 rfl (lv_room (Nat.le_of_ble_eq_true rfl)) dL_contract_4 ⟨(Nat.le_of_ble_eq_true rfl), (Nat.le_of_ble_eq_true rfl)⟩) hP hD hS hA (List.range (([(x0, .inr (9, fx)), (m0, .inr (10, fm)), (aL g o0 1 fo)] ++ (Rc ++ Rm)) : va_W).length) [] (he_all _) rfl rfl (fun _ h9 => absurd h9 List.not_mem_nil) (fun ce q9 H locs hP hD hS hce hcv hcl => ?_)
    obtain ⟨fx_q_5, fm_q_5, Rc_q_5, Rm_q_5, rfl, hc, hm⟩ := hI8
    have hP : va_P g.1 vwCl ([(x0, .inr (9, fx_q_5)), (m0, .inr (10, fm_q_5)), (aL g o0 1 fo)] ++ (Rc_q_5 ++ Rm_q_5)) H := hP
    have hD : va_D A ([(x0, .inr (9, fx_q_5)), (m0, .inr (10, fm_q_5)), (aL g o0 1 fo)] ++ (Rc_q_5 ++ Rm_q_5)) := hD
    refine vx_catch (name := "java/lang/IllegalArgumentException") (E := "java/lang/IllegalArgumentException") hown [] ⟨0, 9, 12, 13⟩ [] htab (fun z h9 => nomatch h9) (by decide) (by decide) cl13 (va_Nw.use rfl (hE.cast ("java/lang/IllegalArgumentException", "java/lang/IllegalArgumentException") (by decide))) hce hcv hcl ?_
    refine W.widen (k := 1) (n := 6) (Nat.le_of_ble_eq_true rfl) (Nat.le_of_ble_eq_true rfl) ?_
    refine lv_astore_n (lv' := [(3, .ref q9), (0, .ref x0), (1, .int x_), (2, .ref o0)]) hx hb dL_contract_12 rfl hl (by decide) rfl (fun ls hl => ?_)
    refine lv_iconst (v := 1) hx hb dL_contract_13 (by decide) ?_
    exact he_ri hQ hx hb hr hlk hP hD hS dL_contract_14 (Nat.le_of_ble_eq_true rfl) (Nat.le_of_ble_eq_true rfl) ([(x0, .inr (9, fx_q_5)), (m0, .inr (10, fm_q_5)), (aL g o0 1 fo)] ++ (Rc_q_5 ++ Rm_q_5)) rfl ⟨fo, ⟨_, _, _, _, rfl, hc, hm⟩, hcd.symm, fun h9 => absurd (hcd.symm.trans h9) (by decide)⟩
set_option maxHeartbeats 8000000 in
set_option maxRecDepth 100000 in
theorem w_told (l : Launch) (hlt : l.stackTraces = false) (g : he_G) (x0 m0 o0 : Nat) (Sx Sm : AbS) (t : Int32) (fo : Nat → Int64) (W : va_W) (x_ : Int32) (hI : IL g x0 m0 o0 Sx Sm t fo W) : he_I l yL_told wsL_told 8 126 1 6 g [.ref x0, .int x_, .ref o0] W (fun (r : Int32) (W2 : va_W) => ∃ fo2 : Nat → Int64, IL g x0 m0 o0 (sp_told Sx x_).2.2 Sm t fo2 W2 ∧ r = (sp_told Sx x_).1 ∧ ((sp_told Sx x_).1 = 0 → fo2 0 = Int32.toInt64 (sp_told Sx x_).2.1)) (fun W2 => W2) := by
  obtain ⟨fx, fm, Rc, Rm, rfl, hc, hm⟩ := hI
  refine he_beginH (l := l) (g := g) (y := yL_told) (wl := wsL_told) (fr := 8) (lo := 126) (mc := 1) (ms := 6) (av := [.ref x0, .int x_, .ref o0]) (ws := [(x0, .inr (9, fx)), (m0, .inr (10, fm)), (aL g o0 1 fo)] ++ (Rc ++ Rm)) (cc := cL_told) (maxL := 4) (ret := (some .int)) (hh := [(0, 9, 12, 13)]) (fun A => va_Qi (fun (r : Int32) (W2 : va_W) => ∃ fo2 : Nat → Int64, IL g x0 m0 o0 (sp_told Sx x_).2.2 Sm t fo2 W2 ∧ r = (sp_told Sx x_).1 ∧ ((sp_told Sx x_).1 = 0 → fo2 0 = Int32.toInt64 (sp_told Sx x_).2.1)) (fun u t => he_post g A ((fun (W2 : va_W) => W2) u) t) A) (by decide) rfl (Nat.le_of_ble_eq_true rfl) ?_
  intro p e s m args below meth c A ls H locs Q hQ htab hB
  obtain ⟨hx, hb, hr, hml, hown, hts, hlk, hin, hP, hK, hD, hS, hA, hE, hl⟩ := hB
  have hl : lv_has ls 4 [(0, .ref x0), (1, .int x_), (2, .ref o0)] := hl
  have cl13 := hts (.classLink RL 13 "java/lang/IllegalArgumentException") (by decide +kernel)
  refine lv_aload_n hx hb dL_told_0 rfl (lv_at hl 2 rfl) ?_
  refine lv_iconst (v := 0) hx hb dL_told_1 (by decide) ?_
  refine lv_aload_n hx hb dL_told_2 rfl (lv_at hl 0 rfl) ?_
  refine lv_iload_n hx hb dL_told_3 rfl (lv_at hl 1 rfl) ?_
  rcases k_told l hlt g x0 Sx _ x_ hc with ⟨hcd, h9⟩ | ⟨hcd, W9, hI9, h9⟩
  · refine he_ci (wc := ([(x0, .inr (9, fx)), (m0, .inr (10, fm)), (aL g o0 1 fo)] ++ (Rc ++ Rm))) (wr := []) (va_runV (As := [.int x_]) (rest := [.int 0, .ref o0]) ⟨hx, hb, hml, hown, hts⟩ (il_cI h9 hm H.size) (cwV 1 hts gL_told_X10_told rfl rfl rfl (by decide +kernel) ⟨Nat.le_of_ble_eq_true rfl, Nat.le_of_ble_eq_true rfl⟩) (he_preV (wc := ([(x0, .inr (9, fx)), (m0, .inr (10, fm)), (aL g o0 1 fo)] ++ (Rc ++ Rm))) hK hP hD hS hA hE (List.range (([(x0, .inr (9, fx)), (m0, .inr (10, fm)), (aL g o0 1 fo)] ++ (Rc ++ Rm)) : va_W).length) (he_all _) (he_allnd _) 0 rfl rfl) rfl rfl hl.1 rfl (lv_room (Nat.le_of_ble_eq_true rfl)) dL_told_4 ⟨(Nat.le_of_ble_eq_true rfl), (Nat.le_of_ble_eq_true rfl)⟩) hP hD hS hA (List.range (([(x0, .inr (9, fx)), (m0, .inr (10, fm)), (aL g o0 1 fo)] ++ (Rc ++ Rm)) : va_W).length) [] (he_all _) rfl rfl (fun _ h9 => absurd h9 List.not_mem_nil) (fun r_1 u_2 H locs hu_3 hP hD hS => ?_)
    obtain ⟨hI9, hp4⟩ := hu_3
    obtain ⟨fx_q_4, fm_q_4, Rc_q_4, Rm_q_4, rfl, hc, hm⟩ := hI9
    have hP : va_P g.1 vwCl ([(x0, .inr (9, fx_q_4)), (m0, .inr (10, fm_q_4)), (aL g o0 1 fo)] ++ (Rc_q_4 ++ Rm_q_4)) H := hP
    have hD : va_D A ([(x0, .inr (9, fx_q_4)), (m0, .inr (10, fm_q_4)), (aL g o0 1 fo)] ++ (Rc_q_4 ++ Rm_q_4)) := hD
    refine lv_i2l (v := Int32.toInt64 r_1) hx hb dL_told_7 rfl ?_
    refine he_last hx hb hK hP hD hS 2 rfl 0 (by decide) (by decide) (by decide) dL_told_8 (fun H locs hP hD hS => ?_)
    have hP : va_P g.1 vwCl ([(x0, .inr (9, fx_q_4)), (m0, .inr (10, fm_q_4)), (aL g o0 1 (vp_updL fo 0 (Int32.toInt64 r_1)))] ++ (Rc_q_4 ++ Rm_q_4)) H := hP
    have hD : va_D A ([(x0, .inr (9, fx_q_4)), (m0, .inr (10, fm_q_4)), (aL g o0 1 (vp_updL fo 0 (Int32.toInt64 r_1)))] ++ (Rc_q_4 ++ Rm_q_4)) := hD
    refine lv_goto (tgt := 15) hx hb dL_told_9 (by decide) ?_
    refine lv_iconst (v := 0) hx hb dL_told_15 (by decide) ?_
    exact he_ri hQ hx hb hr hlk hP hD hS dL_told_16 (Nat.le_of_ble_eq_true rfl) (Nat.le_of_ble_eq_true rfl) ([(x0, .inr (9, fx_q_4)), (m0, .inr (10, fm_q_4)), (aL g o0 1 (vp_updL fo 0 (Int32.toInt64 r_1)))] ++ (Rc_q_4 ++ Rm_q_4)) rfl ⟨(vp_updL fo 0 (Int32.toInt64 r_1)), ⟨_, _, _, _, rfl, hc, hm⟩, hcd.symm, fun _ => (by rw [show (vp_updL fo 0 (Int32.toInt64 r_1)) 0 = _ from vp_updL_s _ _ _]; exact (congrArg Int32.toInt64 hp4))⟩
  · obtain ⟨W8, hI8, h8⟩ := il_Ti (o0 := o0) (fo := fo) h9 hI9 hm
    refine he_xi (En := "java/lang/IllegalArgumentException") (wx := W8) (wc := ([(x0, .inr (9, fx)), (m0, .inr (10, fm)), (aL g o0 1 fo)] ++ (Rc ++ Rm))) (wr := []) (vx_runV (As := [.int x_]) (rest := [.int 0, .ref o0]) ⟨hx, hb, hml, hown, hts⟩ (h8 H.size) (cwV 1 hts gL_told_X10_told rfl rfl rfl (by decide +kernel) ⟨Nat.le_of_ble_eq_true rfl, Nat.le_of_ble_eq_true rfl⟩) (he_preV (wc := ([(x0, .inr (9, fx)), (m0, .inr (10, fm)), (aL g o0 1 fo)] ++ (Rc ++ Rm))) hK hP hD hS hA hE (List.range (([(x0, .inr (9, fx)), (m0, .inr (10, fm)), (aL g o0 1 fo)] ++ (Rc ++ Rm)) : va_W).length) (he_all _) (he_allnd _) 0 rfl rfl) rfl rfl hl.1 rfl (lv_room (Nat.le_of_ble_eq_true rfl)) dL_told_4 ⟨(Nat.le_of_ble_eq_true rfl), (Nat.le_of_ble_eq_true rfl)⟩) hP hD hS hA (List.range (([(x0, .inr (9, fx)), (m0, .inr (10, fm)), (aL g o0 1 fo)] ++ (Rc ++ Rm)) : va_W).length) [] (he_all _) rfl rfl (fun _ h9 => absurd h9 List.not_mem_nil) (fun ce q9 H locs hP hD hS hce hcv hcl => ?_)
    obtain ⟨fx_q_5, fm_q_5, Rc_q_5, Rm_q_5, rfl, hc, hm⟩ := hI8
    have hP : va_P g.1 vwCl ([(x0, .inr (9, fx_q_5)), (m0, .inr (10, fm_q_5)), (aL g o0 1 fo)] ++ (Rc_q_5 ++ Rm_q_5)) H := hP
    have hD : va_D A ([(x0, .inr (9, fx_q_5)), (m0, .inr (10, fm_q_5)), (aL g o0 1 fo)] ++ (Rc_q_5 ++ Rm_q_5)) := hD
    refine vx_catch (name := "java/lang/IllegalArgumentException") (E := "java/lang/IllegalArgumentException") hown [] ⟨0, 9, 12, 13⟩ [] htab (fun z h9 => nomatch h9) (by decide) (by decide) cl13 (va_Nw.use rfl (hE.cast ("java/lang/IllegalArgumentException", "java/lang/IllegalArgumentException") (by decide))) hce hcv hcl ?_
    refine W.widen (k := 1) (n := 6) (Nat.le_of_ble_eq_true rfl) (Nat.le_of_ble_eq_true rfl) ?_
    refine lv_astore_n (lv' := [(3, .ref q9), (0, .ref x0), (1, .int x_), (2, .ref o0)]) hx hb dL_told_12 rfl hl (by decide) rfl (fun ls hl => ?_)
    refine lv_iconst (v := 1) hx hb dL_told_13 (by decide) ?_
    exact he_ri hQ hx hb hr hlk hP hD hS dL_told_14 (Nat.le_of_ble_eq_true rfl) (Nat.le_of_ble_eq_true rfl) ([(x0, .inr (9, fx_q_5)), (m0, .inr (10, fm_q_5)), (aL g o0 1 fo)] ++ (Rc_q_5 ++ Rm_q_5)) rfl ⟨fo, ⟨_, _, _, _, rfl, hc, hm⟩, hcd.symm, fun h9 => absurd (hcd.symm.trans h9) (by decide)⟩
set_option maxHeartbeats 8000000 in
set_option maxRecDepth 100000 in
theorem w_wall (l : Launch) (hlt : l.stackTraces = false) (g : he_G) (x0 m0 o0 : Nat) (Sx Sm : AbS) (t : Int32) (fo : Nat → Int64) (W : va_W) (x_ : Int32) (y_ : Int32) (hI : IL g x0 m0 o0 Sx Sm t fo W) : he_IN l yL_wall wsL_wall 8 125 1 6 g [.ref x0, .int x_, .int y_, .ref o0] W (fun (r : Int32) (W2 : va_W) => ∃ fo2 : Nat → Int64, IL g x0 m0 o0 (sp_wall Sx x_ y_).2.2 Sm t fo2 W2 ∧ r = (sp_wall Sx x_ y_).1 ∧ ((sp_wall Sx x_ y_).1 = 0 → fo2 0 = Int32.toInt64 (sp_wall Sx x_ y_).2.1)) (fun W2 => W2) := by
  obtain ⟨fx, fm, Rc, Rm, rfl, hc, hm⟩ := hI
  refine he_beginHN (l := l) (g := g) (y := yL_wall) (wl := wsL_wall) (fr := 8) (lo := 125) (mc := 1) (ms := 6) (av := [.ref x0, .int x_, .int y_, .ref o0]) (ws := [(x0, .inr (9, fx)), (m0, .inr (10, fm)), (aL g o0 1 fo)] ++ (Rc ++ Rm)) (cc := cL_wall) (maxL := 5) (ret := (some .int)) (hh := [(0, 10, 13, 25), (0, 10, 17, 13)]) (fun A => va_Qi (fun (r : Int32) (W2 : va_W) => ∃ fo2 : Nat → Int64, IL g x0 m0 o0 (sp_wall Sx x_ y_).2.2 Sm t fo2 W2 ∧ r = (sp_wall Sx x_ y_).1 ∧ ((sp_wall Sx x_ y_).1 = 0 → fo2 0 = Int32.toInt64 (sp_wall Sx x_ y_).2.1)) (fun u t => he_post g A ((fun (W2 : va_W) => W2) u) t) A) (by decide) rfl (Nat.le_of_ble_eq_true rfl) ?_
  intro p e s m args below meth c A ls H locs Q hQ htab hNc hB
  obtain ⟨hx, hb, hr, hml, hown, hts, hlk, hin, hP, hK, hD, hS, hA, hE, hl⟩ := hB
  have hl : lv_has ls 5 [(0, .ref x0), (1, .int x_), (2, .int y_), (3, .ref o0)] := hl
  have cl25 := hts (.classLink RL 25 "java/lang/IndexOutOfBoundsException") (by decide +kernel)
  have cl13 := hts (.classLink RL 13 "java/lang/IllegalArgumentException") (by decide +kernel)
  refine lv_aload_n hx hb dL_wall_0 rfl (lv_at hl 3 rfl) ?_
  refine lv_iconst (v := 0) hx hb dL_wall_1 (by decide) ?_
  refine lv_aload_n hx hb dL_wall_2 rfl (lv_at hl 0 rfl) ?_
  refine lv_iload_n hx hb dL_wall_3 rfl (lv_at hl 1 rfl) ?_
  refine lv_iload_n hx hb dL_wall_4 rfl (lv_at hl 2 rfl) ?_
  rcases k_wall l hlt g x0 Sx _ x_ y_ hc with ⟨hcd, h9⟩ | ⟨hcd, W9, hI9, h9⟩ | ⟨hcd, W9, hI9, h9⟩
  · refine he_ci (wc := ([(x0, .inr (9, fx)), (m0, .inr (10, fm)), (aL g o0 1 fo)] ++ (Rc ++ Rm))) (wr := []) (va_runV (As := [.int x_, .int y_]) (rest := [.int 0, .ref o0]) ⟨hx, hb, hml, hown, hts⟩ (il_cI h9 hm H.size) (cwV 2 hts gL_wall_X10_wall rfl rfl rfl (by decide +kernel) ⟨Nat.le_of_ble_eq_true rfl, Nat.le_of_ble_eq_true rfl⟩) (he_preV (wc := ([(x0, .inr (9, fx)), (m0, .inr (10, fm)), (aL g o0 1 fo)] ++ (Rc ++ Rm))) hK hP hD hS hA hE (List.range (([(x0, .inr (9, fx)), (m0, .inr (10, fm)), (aL g o0 1 fo)] ++ (Rc ++ Rm)) : va_W).length) (he_all _) (he_allnd _) 0 rfl rfl) rfl rfl hl.1 rfl (lv_room (Nat.le_of_ble_eq_true rfl)) dL_wall_5 ⟨(Nat.le_of_ble_eq_true rfl), (Nat.le_of_ble_eq_true rfl)⟩) hP hD hS hA (List.range (([(x0, .inr (9, fx)), (m0, .inr (10, fm)), (aL g o0 1 fo)] ++ (Rc ++ Rm)) : va_W).length) [] (he_all _) rfl rfl (fun _ h9 => absurd h9 List.not_mem_nil) (fun r_1 u_2 H locs hu_3 hP hD hS => ?_)
    obtain ⟨hI9, hp5⟩ := hu_3
    obtain ⟨fx_q_4, fm_q_4, Rc_q_4, Rm_q_4, rfl, hc, hm⟩ := hI9
    have hP : va_P g.1 vwCl ([(x0, .inr (9, fx_q_4)), (m0, .inr (10, fm_q_4)), (aL g o0 1 fo)] ++ (Rc_q_4 ++ Rm_q_4)) H := hP
    have hD : va_D A ([(x0, .inr (9, fx_q_4)), (m0, .inr (10, fm_q_4)), (aL g o0 1 fo)] ++ (Rc_q_4 ++ Rm_q_4)) := hD
    refine lv_i2l (v := Int32.toInt64 r_1) hx hb dL_wall_8 rfl ?_
    refine he_last hx hb hK hP hD hS 2 rfl 0 (by decide) (by decide) (by decide) dL_wall_9 (fun H locs hP hD hS => ?_)
    have hP : va_P g.1 vwCl ([(x0, .inr (9, fx_q_4)), (m0, .inr (10, fm_q_4)), (aL g o0 1 (vp_updL fo 0 (Int32.toInt64 r_1)))] ++ (Rc_q_4 ++ Rm_q_4)) H := hP
    have hD : va_D A ([(x0, .inr (9, fx_q_4)), (m0, .inr (10, fm_q_4)), (aL g o0 1 (vp_updL fo 0 (Int32.toInt64 r_1)))] ++ (Rc_q_4 ++ Rm_q_4)) := hD
    refine lv_goto (tgt := 21) hx hb dL_wall_10 (by decide) ?_
    refine lv_iconst (v := 0) hx hb dL_wall_21 (by decide) ?_
    exact he_ri hQ hx hb hr hlk hP hD hS dL_wall_22 (Nat.le_of_ble_eq_true rfl) (Nat.le_of_ble_eq_true rfl) ([(x0, .inr (9, fx_q_4)), (m0, .inr (10, fm_q_4)), (aL g o0 1 (vp_updL fo 0 (Int32.toInt64 r_1)))] ++ (Rc_q_4 ++ Rm_q_4)) rfl ⟨(vp_updL fo 0 (Int32.toInt64 r_1)), ⟨_, _, _, _, rfl, hc, hm⟩, hcd.symm, fun _ => (by rw [show (vp_updL fo 0 (Int32.toInt64 r_1)) 0 = _ from vp_updL_s _ _ _]; exact (congrArg Int32.toInt64 hp5))⟩
  · obtain ⟨W8, hI8, h8⟩ := il_Ti (o0 := o0) (fo := fo) h9 hI9 hm
    refine he_xi (En := "java/lang/IndexOutOfBoundsException") (wx := W8) (wc := ([(x0, .inr (9, fx)), (m0, .inr (10, fm)), (aL g o0 1 fo)] ++ (Rc ++ Rm))) (wr := []) (vx_runV (As := [.int x_, .int y_]) (rest := [.int 0, .ref o0]) ⟨hx, hb, hml, hown, hts⟩ (h8 H.size) (cwV 2 hts gL_wall_X10_wall rfl rfl rfl (by decide +kernel) ⟨Nat.le_of_ble_eq_true rfl, Nat.le_of_ble_eq_true rfl⟩) (he_preV (wc := ([(x0, .inr (9, fx)), (m0, .inr (10, fm)), (aL g o0 1 fo)] ++ (Rc ++ Rm))) hK hP hD hS hA hE (List.range (([(x0, .inr (9, fx)), (m0, .inr (10, fm)), (aL g o0 1 fo)] ++ (Rc ++ Rm)) : va_W).length) (he_all _) (he_allnd _) 0 rfl rfl) rfl rfl hl.1 rfl (lv_room (Nat.le_of_ble_eq_true rfl)) dL_wall_5 ⟨(Nat.le_of_ble_eq_true rfl), (Nat.le_of_ble_eq_true rfl)⟩) hP hD hS hA (List.range (([(x0, .inr (9, fx)), (m0, .inr (10, fm)), (aL g o0 1 fo)] ++ (Rc ++ Rm)) : va_W).length) [] (he_all _) rfl rfl (fun _ h9 => absurd h9 List.not_mem_nil) (fun ce q9 H locs hP hD hS hce hcv hcl => ?_)
    obtain ⟨fx_q_5, fm_q_5, Rc_q_5, Rm_q_5, rfl, hc, hm⟩ := hI8
    have hP : va_P g.1 vwCl ([(x0, .inr (9, fx_q_5)), (m0, .inr (10, fm_q_5)), (aL g o0 1 fo)] ++ (Rc_q_5 ++ Rm_q_5)) H := hP
    have hD : va_D A ([(x0, .inr (9, fx_q_5)), (m0, .inr (10, fm_q_5)), (aL g o0 1 fo)] ++ (Rc_q_5 ++ Rm_q_5)) := hD
    refine vx_catch (name := "java/lang/IndexOutOfBoundsException") (E := "java/lang/IndexOutOfBoundsException") hown [] ⟨0, 10, 13, 25⟩ [⟨0, 10, 17, 13⟩] htab (fun z h9 => nomatch h9) (by decide) (by decide) cl25 (va_Nw.use rfl (hE.cast ("java/lang/IndexOutOfBoundsException", "java/lang/IndexOutOfBoundsException") (by decide))) hce hcv hcl ?_
    refine W.widen (k := 1) (n := 6) (Nat.le_of_ble_eq_true rfl) (Nat.le_of_ble_eq_true rfl) ?_
    refine lv_astore (lv' := [(4, .ref q9), (0, .ref x0), (1, .int x_), (2, .int y_), (3, .ref o0)]) hx hb dL_wall_13 hl (by decide) rfl (fun ls hl => ?_)
    refine lv_iconst (v := 1) hx hb dL_wall_15 (by decide) ?_
    exact he_ri hQ hx hb hr hlk hP hD hS dL_wall_16 (Nat.le_of_ble_eq_true rfl) (Nat.le_of_ble_eq_true rfl) ([(x0, .inr (9, fx_q_5)), (m0, .inr (10, fm_q_5)), (aL g o0 1 fo)] ++ (Rc_q_5 ++ Rm_q_5)) rfl ⟨fo, ⟨_, _, _, _, rfl, hc, hm⟩, hcd.symm, fun h9 => absurd (hcd.symm.trans h9) (by decide)⟩
  · obtain ⟨W8, hI8, h8⟩ := il_Ti (o0 := o0) (fo := fo) h9 hI9 hm
    refine he_xi (En := "java/lang/IllegalArgumentException") (wx := W8) (wc := ([(x0, .inr (9, fx)), (m0, .inr (10, fm)), (aL g o0 1 fo)] ++ (Rc ++ Rm))) (wr := []) (vx_runV (As := [.int x_, .int y_]) (rest := [.int 0, .ref o0]) ⟨hx, hb, hml, hown, hts⟩ (h8 H.size) (cwV 2 hts gL_wall_X10_wall rfl rfl rfl (by decide +kernel) ⟨Nat.le_of_ble_eq_true rfl, Nat.le_of_ble_eq_true rfl⟩) (he_preV (wc := ([(x0, .inr (9, fx)), (m0, .inr (10, fm)), (aL g o0 1 fo)] ++ (Rc ++ Rm))) hK hP hD hS hA hE (List.range (([(x0, .inr (9, fx)), (m0, .inr (10, fm)), (aL g o0 1 fo)] ++ (Rc ++ Rm)) : va_W).length) (he_all _) (he_allnd _) 0 rfl rfl) rfl rfl hl.1 rfl (lv_room (Nat.le_of_ble_eq_true rfl)) dL_wall_5 ⟨(Nat.le_of_ble_eq_true rfl), (Nat.le_of_ble_eq_true rfl)⟩) hP hD hS hA (List.range (([(x0, .inr (9, fx)), (m0, .inr (10, fm)), (aL g o0 1 fo)] ++ (Rc ++ Rm)) : va_W).length) [] (he_all _) rfl rfl (fun _ h9 => absurd h9 List.not_mem_nil) (fun ce q9 H locs hP hD hS hce hcv hcl => ?_)
    obtain ⟨fx_q_6, fm_q_6, Rc_q_6, Rm_q_6, rfl, hc, hm⟩ := hI8
    have hP : va_P g.1 vwCl ([(x0, .inr (9, fx_q_6)), (m0, .inr (10, fm_q_6)), (aL g o0 1 fo)] ++ (Rc_q_6 ++ Rm_q_6)) H := hP
    have hD : va_D A ([(x0, .inr (9, fx_q_6)), (m0, .inr (10, fm_q_6)), (aL g o0 1 fo)] ++ (Rc_q_6 ++ Rm_q_6)) := hD
    refine vx_catch (name := "java/lang/IllegalArgumentException") (E := "java/lang/IllegalArgumentException") hown [⟨0, 10, 13, 25⟩] ⟨0, 10, 17, 13⟩ [] htab (fun z h9 => by obtain rfl := List.mem_singleton.mp h9; exact Or.inr ⟨by decide, "java/lang/IndexOutOfBoundsException", cl25, hNc⟩) (by decide) (by decide) cl13 (va_Nw.use rfl (hE.cast ("java/lang/IllegalArgumentException", "java/lang/IllegalArgumentException") (by decide))) hce hcv hcl ?_
    refine W.widen (k := 1) (n := 6) (Nat.le_of_ble_eq_true rfl) (Nat.le_of_ble_eq_true rfl) ?_
    refine lv_astore (lv' := [(4, .ref q9), (0, .ref x0), (1, .int x_), (2, .int y_), (3, .ref o0)]) hx hb dL_wall_17 hl (by decide) rfl (fun ls hl => ?_)
    refine lv_iconst (v := 2) hx hb dL_wall_19 (by decide) ?_
    exact he_ri hQ hx hb hr hlk hP hD hS dL_wall_20 (Nat.le_of_ble_eq_true rfl) (Nat.le_of_ble_eq_true rfl) ([(x0, .inr (9, fx_q_6)), (m0, .inr (10, fm_q_6)), (aL g o0 1 fo)] ++ (Rc_q_6 ++ Rm_q_6)) rfl ⟨fo, ⟨_, _, _, _, rfl, hc, hm⟩, hcd.symm, fun h9 => absurd (hcd.symm.trans h9) (by decide)⟩
set_option maxHeartbeats 8000000 in
set_option maxRecDepth 100000 in
theorem w_rule (l : Launch) (hlt : l.stackTraces = false) (g : he_G) (x0 m0 o0 : Nat) (Sx Sm : AbS) (t : Int32) (fo : Nat → Int64) (W : va_W) (x_ : Int32) (y_ : Int32) (hI : IL g x0 m0 o0 Sx Sm t fo W) : he_I l yL_rule wsL_rule 8 125 1 6 g [.ref x0, .int x_, .int y_, .ref o0] W (fun (r : Int32) (W2 : va_W) => ∃ fo2 : Nat → Int64, IL g x0 m0 o0 (sp_rule Sx x_ y_).2.2 Sm t fo2 W2 ∧ r = (sp_rule Sx x_ y_).1 ∧ ((sp_rule Sx x_ y_).1 = 0 → fo2 0 = Int32.toInt64 (sp_rule Sx x_ y_).2.1)) (fun W2 => W2) := by
  obtain ⟨fx, fm, Rc, Rm, rfl, hc, hm⟩ := hI
  refine he_beginH (l := l) (g := g) (y := yL_rule) (wl := wsL_rule) (fr := 8) (lo := 125) (mc := 1) (ms := 6) (av := [.ref x0, .int x_, .int y_, .ref o0]) (ws := [(x0, .inr (9, fx)), (m0, .inr (10, fm)), (aL g o0 1 fo)] ++ (Rc ++ Rm)) (cc := cL_rule) (maxL := 5) (ret := (some .int)) (hh := [(0, 10, 13, 30), (0, 10, 17, 13)]) (fun A => va_Qi (fun (r : Int32) (W2 : va_W) => ∃ fo2 : Nat → Int64, IL g x0 m0 o0 (sp_rule Sx x_ y_).2.2 Sm t fo2 W2 ∧ r = (sp_rule Sx x_ y_).1 ∧ ((sp_rule Sx x_ y_).1 = 0 → fo2 0 = Int32.toInt64 (sp_rule Sx x_ y_).2.1)) (fun u t => he_post g A ((fun (W2 : va_W) => W2) u) t) A) (by decide) rfl (Nat.le_of_ble_eq_true rfl) ?_
  intro p e s m args below meth c A ls H locs Q hQ htab hB
  obtain ⟨hx, hb, hr, hml, hown, hts, hlk, hin, hP, hK, hD, hS, hA, hE, hl⟩ := hB
  have hl : lv_has ls 5 [(0, .ref x0), (1, .int x_), (2, .int y_), (3, .ref o0)] := hl
  have cl30 := hts (.classLink RL 30 "java/util/NoSuchElementException") (by decide +kernel)
  have cl13 := hts (.classLink RL 13 "java/lang/IllegalArgumentException") (by decide +kernel)
  refine lv_aload_n hx hb dL_rule_0 rfl (lv_at hl 3 rfl) ?_
  refine lv_iconst (v := 0) hx hb dL_rule_1 (by decide) ?_
  refine lv_aload_n hx hb dL_rule_2 rfl (lv_at hl 0 rfl) ?_
  refine lv_iload_n hx hb dL_rule_3 rfl (lv_at hl 1 rfl) ?_
  refine lv_iload_n hx hb dL_rule_4 rfl (lv_at hl 2 rfl) ?_
  rcases k_rule l hlt g x0 Sx _ x_ y_ hc with ⟨hcd, h9⟩ | ⟨hcd, W9, hI9, h9⟩ | ⟨hcd, W9, hI9, h9⟩
  · refine he_ci (wc := ([(x0, .inr (9, fx)), (m0, .inr (10, fm)), (aL g o0 1 fo)] ++ (Rc ++ Rm))) (wr := []) (va_runV (As := [.int x_, .int y_]) (rest := [.int 0, .ref o0]) ⟨hx, hb, hml, hown, hts⟩ (il_cI h9 hm H.size) (cwV 2 hts gL_rule_X10_rule rfl rfl rfl (by decide +kernel) ⟨Nat.le_of_ble_eq_true rfl, Nat.le_of_ble_eq_true rfl⟩) (he_preV (wc := ([(x0, .inr (9, fx)), (m0, .inr (10, fm)), (aL g o0 1 fo)] ++ (Rc ++ Rm))) hK hP hD hS hA hE (List.range (([(x0, .inr (9, fx)), (m0, .inr (10, fm)), (aL g o0 1 fo)] ++ (Rc ++ Rm)) : va_W).length) (he_all _) (he_allnd _) 0 rfl rfl) rfl rfl hl.1 rfl (lv_room (Nat.le_of_ble_eq_true rfl)) dL_rule_5 ⟨(Nat.le_of_ble_eq_true rfl), (Nat.le_of_ble_eq_true rfl)⟩) hP hD hS hA (List.range (([(x0, .inr (9, fx)), (m0, .inr (10, fm)), (aL g o0 1 fo)] ++ (Rc ++ Rm)) : va_W).length) [] (he_all _) rfl rfl (fun _ h9 => absurd h9 List.not_mem_nil) (fun r_1 u_2 H locs hu_3 hP hD hS => ?_)
    obtain ⟨hI9, hp5⟩ := hu_3
    obtain ⟨fx_q_4, fm_q_4, Rc_q_4, Rm_q_4, rfl, hc, hm⟩ := hI9
    have hP : va_P g.1 vwCl ([(x0, .inr (9, fx_q_4)), (m0, .inr (10, fm_q_4)), (aL g o0 1 fo)] ++ (Rc_q_4 ++ Rm_q_4)) H := hP
    have hD : va_D A ([(x0, .inr (9, fx_q_4)), (m0, .inr (10, fm_q_4)), (aL g o0 1 fo)] ++ (Rc_q_4 ++ Rm_q_4)) := hD
    refine lv_i2l (v := Int32.toInt64 r_1) hx hb dL_rule_8 rfl ?_
    refine he_last hx hb hK hP hD hS 2 rfl 0 (by decide) (by decide) (by decide) dL_rule_9 (fun H locs hP hD hS => ?_)
    have hP : va_P g.1 vwCl ([(x0, .inr (9, fx_q_4)), (m0, .inr (10, fm_q_4)), (aL g o0 1 (vp_updL fo 0 (Int32.toInt64 r_1)))] ++ (Rc_q_4 ++ Rm_q_4)) H := hP
    have hD : va_D A ([(x0, .inr (9, fx_q_4)), (m0, .inr (10, fm_q_4)), (aL g o0 1 (vp_updL fo 0 (Int32.toInt64 r_1)))] ++ (Rc_q_4 ++ Rm_q_4)) := hD
    refine lv_goto (tgt := 21) hx hb dL_rule_10 (by decide) ?_
    refine lv_iconst (v := 0) hx hb dL_rule_21 (by decide) ?_
    exact he_ri hQ hx hb hr hlk hP hD hS dL_rule_22 (Nat.le_of_ble_eq_true rfl) (Nat.le_of_ble_eq_true rfl) ([(x0, .inr (9, fx_q_4)), (m0, .inr (10, fm_q_4)), (aL g o0 1 (vp_updL fo 0 (Int32.toInt64 r_1)))] ++ (Rc_q_4 ++ Rm_q_4)) rfl ⟨(vp_updL fo 0 (Int32.toInt64 r_1)), ⟨_, _, _, _, rfl, hc, hm⟩, hcd.symm, fun _ => (by rw [show (vp_updL fo 0 (Int32.toInt64 r_1)) 0 = _ from vp_updL_s _ _ _]; exact (congrArg Int32.toInt64 hp5))⟩
  · obtain ⟨W8, hI8, h8⟩ := il_Ti (o0 := o0) (fo := fo) h9 hI9 hm
    refine he_xi (En := "java/util/NoSuchElementException") (wx := W8) (wc := ([(x0, .inr (9, fx)), (m0, .inr (10, fm)), (aL g o0 1 fo)] ++ (Rc ++ Rm))) (wr := []) (vx_runV (As := [.int x_, .int y_]) (rest := [.int 0, .ref o0]) ⟨hx, hb, hml, hown, hts⟩ (h8 H.size) (cwV 2 hts gL_rule_X10_rule rfl rfl rfl (by decide +kernel) ⟨Nat.le_of_ble_eq_true rfl, Nat.le_of_ble_eq_true rfl⟩) (he_preV (wc := ([(x0, .inr (9, fx)), (m0, .inr (10, fm)), (aL g o0 1 fo)] ++ (Rc ++ Rm))) hK hP hD hS hA hE (List.range (([(x0, .inr (9, fx)), (m0, .inr (10, fm)), (aL g o0 1 fo)] ++ (Rc ++ Rm)) : va_W).length) (he_all _) (he_allnd _) 0 rfl rfl) rfl rfl hl.1 rfl (lv_room (Nat.le_of_ble_eq_true rfl)) dL_rule_5 ⟨(Nat.le_of_ble_eq_true rfl), (Nat.le_of_ble_eq_true rfl)⟩) hP hD hS hA (List.range (([(x0, .inr (9, fx)), (m0, .inr (10, fm)), (aL g o0 1 fo)] ++ (Rc ++ Rm)) : va_W).length) [] (he_all _) rfl rfl (fun _ h9 => absurd h9 List.not_mem_nil) (fun ce q9 H locs hP hD hS hce hcv hcl => ?_)
    obtain ⟨fx_q_5, fm_q_5, Rc_q_5, Rm_q_5, rfl, hc, hm⟩ := hI8
    have hP : va_P g.1 vwCl ([(x0, .inr (9, fx_q_5)), (m0, .inr (10, fm_q_5)), (aL g o0 1 fo)] ++ (Rc_q_5 ++ Rm_q_5)) H := hP
    have hD : va_D A ([(x0, .inr (9, fx_q_5)), (m0, .inr (10, fm_q_5)), (aL g o0 1 fo)] ++ (Rc_q_5 ++ Rm_q_5)) := hD
    refine vx_catch (name := "java/util/NoSuchElementException") (E := "java/util/NoSuchElementException") hown [] ⟨0, 10, 13, 30⟩ [⟨0, 10, 17, 13⟩] htab (fun z h9 => nomatch h9) (by decide) (by decide) cl30 (va_Nw.use rfl (hE.cast ("java/util/NoSuchElementException", "java/util/NoSuchElementException") (by decide))) hce hcv hcl ?_
    refine W.widen (k := 1) (n := 6) (Nat.le_of_ble_eq_true rfl) (Nat.le_of_ble_eq_true rfl) ?_
    refine lv_astore (lv' := [(4, .ref q9), (0, .ref x0), (1, .int x_), (2, .int y_), (3, .ref o0)]) hx hb dL_rule_13 hl (by decide) rfl (fun ls hl => ?_)
    refine lv_iconst (v := 1) hx hb dL_rule_15 (by decide) ?_
    exact he_ri hQ hx hb hr hlk hP hD hS dL_rule_16 (Nat.le_of_ble_eq_true rfl) (Nat.le_of_ble_eq_true rfl) ([(x0, .inr (9, fx_q_5)), (m0, .inr (10, fm_q_5)), (aL g o0 1 fo)] ++ (Rc_q_5 ++ Rm_q_5)) rfl ⟨fo, ⟨_, _, _, _, rfl, hc, hm⟩, hcd.symm, fun h9 => absurd (hcd.symm.trans h9) (by decide)⟩
  · obtain ⟨W8, hI8, h8⟩ := il_Ti (o0 := o0) (fo := fo) h9 hI9 hm
    refine he_xi (En := "java/lang/IllegalArgumentException") (wx := W8) (wc := ([(x0, .inr (9, fx)), (m0, .inr (10, fm)), (aL g o0 1 fo)] ++ (Rc ++ Rm))) (wr := []) (vx_runV (As := [.int x_, .int y_]) (rest := [.int 0, .ref o0]) ⟨hx, hb, hml, hown, hts⟩ (h8 H.size) (cwV 2 hts gL_rule_X10_rule rfl rfl rfl (by decide +kernel) ⟨Nat.le_of_ble_eq_true rfl, Nat.le_of_ble_eq_true rfl⟩) (he_preV (wc := ([(x0, .inr (9, fx)), (m0, .inr (10, fm)), (aL g o0 1 fo)] ++ (Rc ++ Rm))) hK hP hD hS hA hE (List.range (([(x0, .inr (9, fx)), (m0, .inr (10, fm)), (aL g o0 1 fo)] ++ (Rc ++ Rm)) : va_W).length) (he_all _) (he_allnd _) 0 rfl rfl) rfl rfl hl.1 rfl (lv_room (Nat.le_of_ble_eq_true rfl)) dL_rule_5 ⟨(Nat.le_of_ble_eq_true rfl), (Nat.le_of_ble_eq_true rfl)⟩) hP hD hS hA (List.range (([(x0, .inr (9, fx)), (m0, .inr (10, fm)), (aL g o0 1 fo)] ++ (Rc ++ Rm)) : va_W).length) [] (he_all _) rfl rfl (fun _ h9 => absurd h9 List.not_mem_nil) (fun ce q9 H locs hP hD hS hce hcv hcl => ?_)
    obtain ⟨fx_q_6, fm_q_6, Rc_q_6, Rm_q_6, rfl, hc, hm⟩ := hI8
    have hP : va_P g.1 vwCl ([(x0, .inr (9, fx_q_6)), (m0, .inr (10, fm_q_6)), (aL g o0 1 fo)] ++ (Rc_q_6 ++ Rm_q_6)) H := hP
    have hD : va_D A ([(x0, .inr (9, fx_q_6)), (m0, .inr (10, fm_q_6)), (aL g o0 1 fo)] ++ (Rc_q_6 ++ Rm_q_6)) := hD
    refine vx_catch (name := "java/lang/IllegalArgumentException") (E := "java/lang/IllegalArgumentException") hown [⟨0, 10, 13, 30⟩] ⟨0, 10, 17, 13⟩ [] htab (fun z h9 => by obtain rfl := List.mem_singleton.mp h9; exact Or.inr ⟨by decide, "java/util/NoSuchElementException", cl30, hE.nc⟩) (by decide) (by decide) cl13 (va_Nw.use rfl (hE.cast ("java/lang/IllegalArgumentException", "java/lang/IllegalArgumentException") (by decide))) hce hcv hcl ?_
    refine W.widen (k := 1) (n := 6) (Nat.le_of_ble_eq_true rfl) (Nat.le_of_ble_eq_true rfl) ?_
    refine lv_astore (lv' := [(4, .ref q9), (0, .ref x0), (1, .int x_), (2, .int y_), (3, .ref o0)]) hx hb dL_rule_17 hl (by decide) rfl (fun ls hl => ?_)
    refine lv_iconst (v := 2) hx hb dL_rule_19 (by decide) ?_
    exact he_ri hQ hx hb hr hlk hP hD hS dL_rule_20 (Nat.le_of_ble_eq_true rfl) (Nat.le_of_ble_eq_true rfl) ([(x0, .inr (9, fx_q_6)), (m0, .inr (10, fm_q_6)), (aL g o0 1 fo)] ++ (Rc_q_6 ++ Rm_q_6)) rfl ⟨fo, ⟨_, _, _, _, rfl, hc, hm⟩, hcd.symm, fun h9 => absurd (hcd.symm.trans h9) (by decide)⟩
set_option maxHeartbeats 8000000 in
set_option maxRecDepth 100000 in
theorem w_wants (l : Launch) (hlt : l.stackTraces = false) (g : he_G) (x0 m0 o0 : Nat) (Sx Sm : AbS) (t : Int32) (fo : Nat → Int64) (W : va_W) (x_ : Int32) (y_ : Int32) (hI : IL g x0 m0 o0 Sx Sm t fo W) : he_I l yL_wants wsL_wants 8 125 1 6 g [.ref x0, .int x_, .int y_, .ref o0] W (fun (r : Int32) (W2 : va_W) => ∃ fo2 : Nat → Int64, IL g x0 m0 o0 (sp_wants Sx x_ y_).2.2 Sm t fo2 W2 ∧ r = (sp_wants Sx x_ y_).1 ∧ ((sp_wants Sx x_ y_).1 = 0 → fo2 0 = Int32.toInt64 (sp_wants Sx x_ y_).2.1)) (fun W2 => W2) := by
  obtain ⟨fx, fm, Rc, Rm, rfl, hc, hm⟩ := hI
  refine he_beginH (l := l) (g := g) (y := yL_wants) (wl := wsL_wants) (fr := 8) (lo := 125) (mc := 1) (ms := 6) (av := [.ref x0, .int x_, .int y_, .ref o0]) (ws := [(x0, .inr (9, fx)), (m0, .inr (10, fm)), (aL g o0 1 fo)] ++ (Rc ++ Rm)) (cc := cL_wants) (maxL := 5) (ret := (some .int)) (hh := [(0, 10, 13, 13)]) (fun A => va_Qi (fun (r : Int32) (W2 : va_W) => ∃ fo2 : Nat → Int64, IL g x0 m0 o0 (sp_wants Sx x_ y_).2.2 Sm t fo2 W2 ∧ r = (sp_wants Sx x_ y_).1 ∧ ((sp_wants Sx x_ y_).1 = 0 → fo2 0 = Int32.toInt64 (sp_wants Sx x_ y_).2.1)) (fun u t => he_post g A ((fun (W2 : va_W) => W2) u) t) A) (by decide) rfl (Nat.le_of_ble_eq_true rfl) ?_
  intro p e s m args below meth c A ls H locs Q hQ htab hB
  obtain ⟨hx, hb, hr, hml, hown, hts, hlk, hin, hP, hK, hD, hS, hA, hE, hl⟩ := hB
  have hl : lv_has ls 5 [(0, .ref x0), (1, .int x_), (2, .int y_), (3, .ref o0)] := hl
  have cl13 := hts (.classLink RL 13 "java/lang/IllegalArgumentException") (by decide +kernel)
  refine lv_aload_n hx hb dL_wants_0 rfl (lv_at hl 3 rfl) ?_
  refine lv_iconst (v := 0) hx hb dL_wants_1 (by decide) ?_
  refine lv_aload_n hx hb dL_wants_2 rfl (lv_at hl 0 rfl) ?_
  refine lv_iload_n hx hb dL_wants_3 rfl (lv_at hl 1 rfl) ?_
  refine lv_iload_n hx hb dL_wants_4 rfl (lv_at hl 2 rfl) ?_
  rcases k_wants l hlt g x0 Sx _ x_ y_ hc with ⟨hcd, h9⟩ | ⟨hcd, W9, hI9, h9⟩
  · refine he_ci (wc := ([(x0, .inr (9, fx)), (m0, .inr (10, fm)), (aL g o0 1 fo)] ++ (Rc ++ Rm))) (wr := []) (va_runV (As := [.int x_, .int y_]) (rest := [.int 0, .ref o0]) ⟨hx, hb, hml, hown, hts⟩ (il_cI h9 hm H.size) (cwV 2 hts gL_wants_X10_wants rfl rfl rfl (by decide +kernel) ⟨Nat.le_of_ble_eq_true rfl, Nat.le_of_ble_eq_true rfl⟩) (he_preV (wc := ([(x0, .inr (9, fx)), (m0, .inr (10, fm)), (aL g o0 1 fo)] ++ (Rc ++ Rm))) hK hP hD hS hA hE (List.range (([(x0, .inr (9, fx)), (m0, .inr (10, fm)), (aL g o0 1 fo)] ++ (Rc ++ Rm)) : va_W).length) (he_all _) (he_allnd _) 0 rfl rfl) rfl rfl hl.1 rfl (lv_room (Nat.le_of_ble_eq_true rfl)) dL_wants_5 ⟨(Nat.le_of_ble_eq_true rfl), (Nat.le_of_ble_eq_true rfl)⟩) hP hD hS hA (List.range (([(x0, .inr (9, fx)), (m0, .inr (10, fm)), (aL g o0 1 fo)] ++ (Rc ++ Rm)) : va_W).length) [] (he_all _) rfl rfl (fun _ h9 => absurd h9 List.not_mem_nil) (fun r_1 u_2 H locs hu_3 hP hD hS => ?_)
    obtain ⟨hI9, hp5⟩ := hu_3
    obtain ⟨fx_q_4, fm_q_4, Rc_q_4, Rm_q_4, rfl, hc, hm⟩ := hI9
    have hP : va_P g.1 vwCl ([(x0, .inr (9, fx_q_4)), (m0, .inr (10, fm_q_4)), (aL g o0 1 fo)] ++ (Rc_q_4 ++ Rm_q_4)) H := hP
    have hD : va_D A ([(x0, .inr (9, fx_q_4)), (m0, .inr (10, fm_q_4)), (aL g o0 1 fo)] ++ (Rc_q_4 ++ Rm_q_4)) := hD
    refine lv_i2l (v := Int32.toInt64 r_1) hx hb dL_wants_8 rfl ?_
    refine he_last hx hb hK hP hD hS 2 rfl 0 (by decide) (by decide) (by decide) dL_wants_9 (fun H locs hP hD hS => ?_)
    have hP : va_P g.1 vwCl ([(x0, .inr (9, fx_q_4)), (m0, .inr (10, fm_q_4)), (aL g o0 1 (vp_updL fo 0 (Int32.toInt64 r_1)))] ++ (Rc_q_4 ++ Rm_q_4)) H := hP
    have hD : va_D A ([(x0, .inr (9, fx_q_4)), (m0, .inr (10, fm_q_4)), (aL g o0 1 (vp_updL fo 0 (Int32.toInt64 r_1)))] ++ (Rc_q_4 ++ Rm_q_4)) := hD
    refine lv_goto (tgt := 17) hx hb dL_wants_10 (by decide) ?_
    refine lv_iconst (v := 0) hx hb dL_wants_17 (by decide) ?_
    exact he_ri hQ hx hb hr hlk hP hD hS dL_wants_18 (Nat.le_of_ble_eq_true rfl) (Nat.le_of_ble_eq_true rfl) ([(x0, .inr (9, fx_q_4)), (m0, .inr (10, fm_q_4)), (aL g o0 1 (vp_updL fo 0 (Int32.toInt64 r_1)))] ++ (Rc_q_4 ++ Rm_q_4)) rfl ⟨(vp_updL fo 0 (Int32.toInt64 r_1)), ⟨_, _, _, _, rfl, hc, hm⟩, hcd.symm, fun _ => (by rw [show (vp_updL fo 0 (Int32.toInt64 r_1)) 0 = _ from vp_updL_s _ _ _]; exact (congrArg Int32.toInt64 hp5))⟩
  · obtain ⟨W8, hI8, h8⟩ := il_Ti (o0 := o0) (fo := fo) h9 hI9 hm
    refine he_xi (En := "java/lang/IllegalArgumentException") (wx := W8) (wc := ([(x0, .inr (9, fx)), (m0, .inr (10, fm)), (aL g o0 1 fo)] ++ (Rc ++ Rm))) (wr := []) (vx_runV (As := [.int x_, .int y_]) (rest := [.int 0, .ref o0]) ⟨hx, hb, hml, hown, hts⟩ (h8 H.size) (cwV 2 hts gL_wants_X10_wants rfl rfl rfl (by decide +kernel) ⟨Nat.le_of_ble_eq_true rfl, Nat.le_of_ble_eq_true rfl⟩) (he_preV (wc := ([(x0, .inr (9, fx)), (m0, .inr (10, fm)), (aL g o0 1 fo)] ++ (Rc ++ Rm))) hK hP hD hS hA hE (List.range (([(x0, .inr (9, fx)), (m0, .inr (10, fm)), (aL g o0 1 fo)] ++ (Rc ++ Rm)) : va_W).length) (he_all _) (he_allnd _) 0 rfl rfl) rfl rfl hl.1 rfl (lv_room (Nat.le_of_ble_eq_true rfl)) dL_wants_5 ⟨(Nat.le_of_ble_eq_true rfl), (Nat.le_of_ble_eq_true rfl)⟩) hP hD hS hA (List.range (([(x0, .inr (9, fx)), (m0, .inr (10, fm)), (aL g o0 1 fo)] ++ (Rc ++ Rm)) : va_W).length) [] (he_all _) rfl rfl (fun _ h9 => absurd h9 List.not_mem_nil) (fun ce q9 H locs hP hD hS hce hcv hcl => ?_)
    obtain ⟨fx_q_5, fm_q_5, Rc_q_5, Rm_q_5, rfl, hc, hm⟩ := hI8
    have hP : va_P g.1 vwCl ([(x0, .inr (9, fx_q_5)), (m0, .inr (10, fm_q_5)), (aL g o0 1 fo)] ++ (Rc_q_5 ++ Rm_q_5)) H := hP
    have hD : va_D A ([(x0, .inr (9, fx_q_5)), (m0, .inr (10, fm_q_5)), (aL g o0 1 fo)] ++ (Rc_q_5 ++ Rm_q_5)) := hD
    refine vx_catch (name := "java/lang/IllegalArgumentException") (E := "java/lang/IllegalArgumentException") hown [] ⟨0, 10, 13, 13⟩ [] htab (fun z h9 => nomatch h9) (by decide) (by decide) cl13 (va_Nw.use rfl (hE.cast ("java/lang/IllegalArgumentException", "java/lang/IllegalArgumentException") (by decide))) hce hcv hcl ?_
    refine W.widen (k := 1) (n := 6) (Nat.le_of_ble_eq_true rfl) (Nat.le_of_ble_eq_true rfl) ?_
    refine lv_astore (lv' := [(4, .ref q9), (0, .ref x0), (1, .int x_), (2, .int y_), (3, .ref o0)]) hx hb dL_wants_13 hl (by decide) rfl (fun ls hl => ?_)
    refine lv_iconst (v := 1) hx hb dL_wants_15 (by decide) ?_
    exact he_ri hQ hx hb hr hlk hP hD hS dL_wants_16 (Nat.le_of_ble_eq_true rfl) (Nat.le_of_ble_eq_true rfl) ([(x0, .inr (9, fx_q_5)), (m0, .inr (10, fm_q_5)), (aL g o0 1 fo)] ++ (Rc_q_5 ++ Rm_q_5)) rfl ⟨fo, ⟨_, _, _, _, rfl, hc, hm⟩, hcd.symm, fun h9 => absurd (hcd.symm.trans h9) (by decide)⟩
set_option maxHeartbeats 8000000 in
set_option maxRecDepth 100000 in
theorem w_sign (l : Launch) (hlt : l.stackTraces = false) (g : he_G) (x0 m0 o0 : Nat) (Sx Sm : AbS) (t : Int32) (fo : Nat → Int64) (W : va_W) (x_ : Int32) (hI : IL g x0 m0 o0 Sx Sm t fo W) : he_I l yL_sign wsL_sign 9 146 1 6 g [.ref x0, .int x_, .ref o0] W (fun (r : Int32) (W2 : va_W) => ∃ fo2 : Nat → Int64, IL g x0 m0 o0 (sp_sign Sx x_).2.2 Sm t fo2 W2 ∧ r = (sp_sign Sx x_).1 ∧ ((sp_sign Sx x_).1 = 0 → fo2 0 = Int32.toInt64 (sp_sign Sx x_).2.1)) (fun W2 => W2) := by
  obtain ⟨fx, fm, Rc, Rm, rfl, hc, hm⟩ := hI
  refine he_beginH (l := l) (g := g) (y := yL_sign) (wl := wsL_sign) (fr := 9) (lo := 146) (mc := 1) (ms := 6) (av := [.ref x0, .int x_, .ref o0]) (ws := [(x0, .inr (9, fx)), (m0, .inr (10, fm)), (aL g o0 1 fo)] ++ (Rc ++ Rm)) (cc := cL_sign) (maxL := 4) (ret := (some .int)) (hh := [(0, 9, 12, 30)]) (fun A => va_Qi (fun (r : Int32) (W2 : va_W) => ∃ fo2 : Nat → Int64, IL g x0 m0 o0 (sp_sign Sx x_).2.2 Sm t fo2 W2 ∧ r = (sp_sign Sx x_).1 ∧ ((sp_sign Sx x_).1 = 0 → fo2 0 = Int32.toInt64 (sp_sign Sx x_).2.1)) (fun u t => he_post g A ((fun (W2 : va_W) => W2) u) t) A) (by decide) rfl (Nat.le_of_ble_eq_true rfl) ?_
  intro p e s m args below meth c A ls H locs Q hQ htab hB
  obtain ⟨hx, hb, hr, hml, hown, hts, hlk, hin, hP, hK, hD, hS, hA, hE, hl⟩ := hB
  have hl : lv_has ls 4 [(0, .ref x0), (1, .int x_), (2, .ref o0)] := hl
  have cl30 := hts (.classLink RL 30 "java/util/NoSuchElementException") (by decide +kernel)
  refine lv_aload_n hx hb dL_sign_0 rfl (lv_at hl 2 rfl) ?_
  refine lv_iconst (v := 0) hx hb dL_sign_1 (by decide) ?_
  refine lv_aload_n hx hb dL_sign_2 rfl (lv_at hl 0 rfl) ?_
  refine lv_iload_n hx hb dL_sign_3 rfl (lv_at hl 1 rfl) ?_
  rcases k_sign l hlt g x0 Sx _ x_ hc with ⟨hcd, h9⟩ | ⟨hcd, W9, hI9, h9⟩
  · refine he_ci (wc := ([(x0, .inr (9, fx)), (m0, .inr (10, fm)), (aL g o0 1 fo)] ++ (Rc ++ Rm))) (wr := []) (va_runV (As := [.int x_]) (rest := [.int 0, .ref o0]) ⟨hx, hb, hml, hown, hts⟩ (il_cI h9 hm H.size) (cwV 1 hts gL_sign_X10_sign rfl rfl rfl (by decide +kernel) ⟨Nat.le_of_ble_eq_true rfl, Nat.le_of_ble_eq_true rfl⟩) (he_preV (wc := ([(x0, .inr (9, fx)), (m0, .inr (10, fm)), (aL g o0 1 fo)] ++ (Rc ++ Rm))) hK hP hD hS hA hE (List.range (([(x0, .inr (9, fx)), (m0, .inr (10, fm)), (aL g o0 1 fo)] ++ (Rc ++ Rm)) : va_W).length) (he_all _) (he_allnd _) 0 rfl rfl) rfl rfl hl.1 rfl (lv_room (Nat.le_of_ble_eq_true rfl)) dL_sign_4 ⟨(Nat.le_of_ble_eq_true rfl), (Nat.le_of_ble_eq_true rfl)⟩) hP hD hS hA (List.range (([(x0, .inr (9, fx)), (m0, .inr (10, fm)), (aL g o0 1 fo)] ++ (Rc ++ Rm)) : va_W).length) [] (he_all _) rfl rfl (fun _ h9 => absurd h9 List.not_mem_nil) (fun r_1 u_2 H locs hu_3 hP hD hS => ?_)
    obtain ⟨hI9, hp4⟩ := hu_3
    obtain ⟨fx_q_4, fm_q_4, Rc_q_4, Rm_q_4, rfl, hc, hm⟩ := hI9
    have hP : va_P g.1 vwCl ([(x0, .inr (9, fx_q_4)), (m0, .inr (10, fm_q_4)), (aL g o0 1 fo)] ++ (Rc_q_4 ++ Rm_q_4)) H := hP
    have hD : va_D A ([(x0, .inr (9, fx_q_4)), (m0, .inr (10, fm_q_4)), (aL g o0 1 fo)] ++ (Rc_q_4 ++ Rm_q_4)) := hD
    refine lv_i2l (v := Int32.toInt64 r_1) hx hb dL_sign_7 rfl ?_
    refine he_last hx hb hK hP hD hS 2 rfl 0 (by decide) (by decide) (by decide) dL_sign_8 (fun H locs hP hD hS => ?_)
    have hP : va_P g.1 vwCl ([(x0, .inr (9, fx_q_4)), (m0, .inr (10, fm_q_4)), (aL g o0 1 (vp_updL fo 0 (Int32.toInt64 r_1)))] ++ (Rc_q_4 ++ Rm_q_4)) H := hP
    have hD : va_D A ([(x0, .inr (9, fx_q_4)), (m0, .inr (10, fm_q_4)), (aL g o0 1 (vp_updL fo 0 (Int32.toInt64 r_1)))] ++ (Rc_q_4 ++ Rm_q_4)) := hD
    refine lv_goto (tgt := 15) hx hb dL_sign_9 (by decide) ?_
    refine lv_iconst (v := 0) hx hb dL_sign_15 (by decide) ?_
    exact he_ri hQ hx hb hr hlk hP hD hS dL_sign_16 (Nat.le_of_ble_eq_true rfl) (Nat.le_of_ble_eq_true rfl) ([(x0, .inr (9, fx_q_4)), (m0, .inr (10, fm_q_4)), (aL g o0 1 (vp_updL fo 0 (Int32.toInt64 r_1)))] ++ (Rc_q_4 ++ Rm_q_4)) rfl ⟨(vp_updL fo 0 (Int32.toInt64 r_1)), ⟨_, _, _, _, rfl, hc, hm⟩, hcd.symm, fun _ => (by rw [show (vp_updL fo 0 (Int32.toInt64 r_1)) 0 = _ from vp_updL_s _ _ _]; exact (congrArg Int32.toInt64 hp4))⟩
  · obtain ⟨W8, hI8, h8⟩ := il_Ti (o0 := o0) (fo := fo) h9 hI9 hm
    refine he_xi (En := "java/util/NoSuchElementException") (wx := W8) (wc := ([(x0, .inr (9, fx)), (m0, .inr (10, fm)), (aL g o0 1 fo)] ++ (Rc ++ Rm))) (wr := []) (vx_runV (As := [.int x_]) (rest := [.int 0, .ref o0]) ⟨hx, hb, hml, hown, hts⟩ (h8 H.size) (cwV 1 hts gL_sign_X10_sign rfl rfl rfl (by decide +kernel) ⟨Nat.le_of_ble_eq_true rfl, Nat.le_of_ble_eq_true rfl⟩) (he_preV (wc := ([(x0, .inr (9, fx)), (m0, .inr (10, fm)), (aL g o0 1 fo)] ++ (Rc ++ Rm))) hK hP hD hS hA hE (List.range (([(x0, .inr (9, fx)), (m0, .inr (10, fm)), (aL g o0 1 fo)] ++ (Rc ++ Rm)) : va_W).length) (he_all _) (he_allnd _) 0 rfl rfl) rfl rfl hl.1 rfl (lv_room (Nat.le_of_ble_eq_true rfl)) dL_sign_4 ⟨(Nat.le_of_ble_eq_true rfl), (Nat.le_of_ble_eq_true rfl)⟩) hP hD hS hA (List.range (([(x0, .inr (9, fx)), (m0, .inr (10, fm)), (aL g o0 1 fo)] ++ (Rc ++ Rm)) : va_W).length) [] (he_all _) rfl rfl (fun _ h9 => absurd h9 List.not_mem_nil) (fun ce q9 H locs hP hD hS hce hcv hcl => ?_)
    obtain ⟨fx_q_5, fm_q_5, Rc_q_5, Rm_q_5, rfl, hc, hm⟩ := hI8
    have hP : va_P g.1 vwCl ([(x0, .inr (9, fx_q_5)), (m0, .inr (10, fm_q_5)), (aL g o0 1 fo)] ++ (Rc_q_5 ++ Rm_q_5)) H := hP
    have hD : va_D A ([(x0, .inr (9, fx_q_5)), (m0, .inr (10, fm_q_5)), (aL g o0 1 fo)] ++ (Rc_q_5 ++ Rm_q_5)) := hD
    refine vx_catch (name := "java/util/NoSuchElementException") (E := "java/util/NoSuchElementException") hown [] ⟨0, 9, 12, 30⟩ [] htab (fun z h9 => nomatch h9) (by decide) (by decide) cl30 (va_Nw.use rfl (hE.cast ("java/util/NoSuchElementException", "java/util/NoSuchElementException") (by decide))) hce hcv hcl ?_
    refine W.widen (k := 1) (n := 6) (Nat.le_of_ble_eq_true rfl) (Nat.le_of_ble_eq_true rfl) ?_
    refine lv_astore_n (lv' := [(3, .ref q9), (0, .ref x0), (1, .int x_), (2, .ref o0)]) hx hb dL_sign_12 rfl hl (by decide) rfl (fun ls hl => ?_)
    refine lv_iconst (v := 1) hx hb dL_sign_13 (by decide) ?_
    exact he_ri hQ hx hb hr hlk hP hD hS dL_sign_14 (Nat.le_of_ble_eq_true rfl) (Nat.le_of_ble_eq_true rfl) ([(x0, .inr (9, fx_q_5)), (m0, .inr (10, fm_q_5)), (aL g o0 1 fo)] ++ (Rc_q_5 ++ Rm_q_5)) rfl ⟨fo, ⟨_, _, _, _, rfl, hc, hm⟩, hcd.symm, fun h9 => absurd (hcd.symm.trans h9) (by decide)⟩
set_option maxHeartbeats 8000000 in
set_option maxRecDepth 100000 in
theorem w_months (l : Launch) (hlt : l.stackTraces = false) (g : he_G) (x0 m0 o0 : Nat) (Sx Sm : AbS) (t : Int32) (fo : Nat → Int64) (W : va_W) (x_ : Int32) (hOk : okS Sx) (hI : IL g x0 m0 o0 Sx Sm t fo W) : he_I l yL_months wsL_months 8 132 1 6 g [.ref x0, .int x_, .ref o0] W (fun (r : Int32) (W2 : va_W) => ∃ fo2 : Nat → Int64, IL g x0 m0 o0 (sp_months Sx x_).2.2 Sm t fo2 W2 ∧ r = (sp_months Sx x_).1 ∧ ((sp_months Sx x_).1 = 0 → fo2 0 = Int32.toInt64 (sp_months Sx x_).2.1)) (fun W2 => W2) := by
  obtain ⟨fx, fm, Rc, Rm, rfl, hc, hm⟩ := hI
  refine he_beginH (l := l) (g := g) (y := yL_months) (wl := wsL_months) (fr := 8) (lo := 132) (mc := 1) (ms := 6) (av := [.ref x0, .int x_, .ref o0]) (ws := [(x0, .inr (9, fx)), (m0, .inr (10, fm)), (aL g o0 1 fo)] ++ (Rc ++ Rm)) (cc := cL_months) (maxL := 4) (ret := (some .int)) (hh := [(0, 9, 12, 13)]) (fun A => va_Qi (fun (r : Int32) (W2 : va_W) => ∃ fo2 : Nat → Int64, IL g x0 m0 o0 (sp_months Sx x_).2.2 Sm t fo2 W2 ∧ r = (sp_months Sx x_).1 ∧ ((sp_months Sx x_).1 = 0 → fo2 0 = Int32.toInt64 (sp_months Sx x_).2.1)) (fun u t => he_post g A ((fun (W2 : va_W) => W2) u) t) A) (by decide) rfl (Nat.le_of_ble_eq_true rfl) ?_
  intro p e s m args below meth c A ls H locs Q hQ htab hB
  obtain ⟨hx, hb, hr, hml, hown, hts, hlk, hin, hP, hK, hD, hS, hA, hE, hl⟩ := hB
  have hl : lv_has ls 4 [(0, .ref x0), (1, .int x_), (2, .ref o0)] := hl
  have cl13 := hts (.classLink RL 13 "java/lang/IllegalArgumentException") (by decide +kernel)
  refine lv_aload_n hx hb dL_months_0 rfl (lv_at hl 2 rfl) ?_
  refine lv_iconst (v := 0) hx hb dL_months_1 (by decide) ?_
  refine lv_aload_n hx hb dL_months_2 rfl (lv_at hl 0 rfl) ?_
  refine lv_iload_n hx hb dL_months_3 rfl (lv_at hl 1 rfl) ?_
  rcases k_months l hlt g x0 Sx _ x_ hOk hc with ⟨hcd, h9⟩ | ⟨hcd, W9, hI9, h9⟩
  · refine he_ci (wc := ([(x0, .inr (9, fx)), (m0, .inr (10, fm)), (aL g o0 1 fo)] ++ (Rc ++ Rm))) (wr := []) (va_runV (As := [.int x_]) (rest := [.int 0, .ref o0]) ⟨hx, hb, hml, hown, hts⟩ (il_cI h9 hm H.size) (cwV 1 hts gL_months_X10_months rfl rfl rfl (by decide +kernel) ⟨Nat.le_of_ble_eq_true rfl, Nat.le_of_ble_eq_true rfl⟩) (he_preV (wc := ([(x0, .inr (9, fx)), (m0, .inr (10, fm)), (aL g o0 1 fo)] ++ (Rc ++ Rm))) hK hP hD hS hA hE (List.range (([(x0, .inr (9, fx)), (m0, .inr (10, fm)), (aL g o0 1 fo)] ++ (Rc ++ Rm)) : va_W).length) (he_all _) (he_allnd _) 0 rfl rfl) rfl rfl hl.1 rfl (lv_room (Nat.le_of_ble_eq_true rfl)) dL_months_4 ⟨(Nat.le_of_ble_eq_true rfl), (Nat.le_of_ble_eq_true rfl)⟩) hP hD hS hA (List.range (([(x0, .inr (9, fx)), (m0, .inr (10, fm)), (aL g o0 1 fo)] ++ (Rc ++ Rm)) : va_W).length) [] (he_all _) rfl rfl (fun _ h9 => absurd h9 List.not_mem_nil) (fun r_1 u_2 H locs hu_3 hP hD hS => ?_)
    obtain ⟨hI9, hp4⟩ := hu_3
    obtain ⟨fx_q_4, fm_q_4, Rc_q_4, Rm_q_4, rfl, hc, hm⟩ := hI9
    have hP : va_P g.1 vwCl ([(x0, .inr (9, fx_q_4)), (m0, .inr (10, fm_q_4)), (aL g o0 1 fo)] ++ (Rc_q_4 ++ Rm_q_4)) H := hP
    have hD : va_D A ([(x0, .inr (9, fx_q_4)), (m0, .inr (10, fm_q_4)), (aL g o0 1 fo)] ++ (Rc_q_4 ++ Rm_q_4)) := hD
    refine lv_i2l (v := Int32.toInt64 r_1) hx hb dL_months_7 rfl ?_
    refine he_last hx hb hK hP hD hS 2 rfl 0 (by decide) (by decide) (by decide) dL_months_8 (fun H locs hP hD hS => ?_)
    have hP : va_P g.1 vwCl ([(x0, .inr (9, fx_q_4)), (m0, .inr (10, fm_q_4)), (aL g o0 1 (vp_updL fo 0 (Int32.toInt64 r_1)))] ++ (Rc_q_4 ++ Rm_q_4)) H := hP
    have hD : va_D A ([(x0, .inr (9, fx_q_4)), (m0, .inr (10, fm_q_4)), (aL g o0 1 (vp_updL fo 0 (Int32.toInt64 r_1)))] ++ (Rc_q_4 ++ Rm_q_4)) := hD
    refine lv_goto (tgt := 15) hx hb dL_months_9 (by decide) ?_
    refine lv_iconst (v := 0) hx hb dL_months_15 (by decide) ?_
    exact he_ri hQ hx hb hr hlk hP hD hS dL_months_16 (Nat.le_of_ble_eq_true rfl) (Nat.le_of_ble_eq_true rfl) ([(x0, .inr (9, fx_q_4)), (m0, .inr (10, fm_q_4)), (aL g o0 1 (vp_updL fo 0 (Int32.toInt64 r_1)))] ++ (Rc_q_4 ++ Rm_q_4)) rfl ⟨(vp_updL fo 0 (Int32.toInt64 r_1)), ⟨_, _, _, _, rfl, hc, hm⟩, hcd.symm, fun _ => (by rw [show (vp_updL fo 0 (Int32.toInt64 r_1)) 0 = _ from vp_updL_s _ _ _]; exact (congrArg Int32.toInt64 hp4))⟩
  · obtain ⟨W8, hI8, h8⟩ := il_Ti (o0 := o0) (fo := fo) h9 hI9 hm
    refine he_xi (En := "java/lang/IllegalArgumentException") (wx := W8) (wc := ([(x0, .inr (9, fx)), (m0, .inr (10, fm)), (aL g o0 1 fo)] ++ (Rc ++ Rm))) (wr := []) (vx_runV (As := [.int x_]) (rest := [.int 0, .ref o0]) ⟨hx, hb, hml, hown, hts⟩ (h8 H.size) (cwV 1 hts gL_months_X10_months rfl rfl rfl (by decide +kernel) ⟨Nat.le_of_ble_eq_true rfl, Nat.le_of_ble_eq_true rfl⟩) (he_preV (wc := ([(x0, .inr (9, fx)), (m0, .inr (10, fm)), (aL g o0 1 fo)] ++ (Rc ++ Rm))) hK hP hD hS hA hE (List.range (([(x0, .inr (9, fx)), (m0, .inr (10, fm)), (aL g o0 1 fo)] ++ (Rc ++ Rm)) : va_W).length) (he_all _) (he_allnd _) 0 rfl rfl) rfl rfl hl.1 rfl (lv_room (Nat.le_of_ble_eq_true rfl)) dL_months_4 ⟨(Nat.le_of_ble_eq_true rfl), (Nat.le_of_ble_eq_true rfl)⟩) hP hD hS hA (List.range (([(x0, .inr (9, fx)), (m0, .inr (10, fm)), (aL g o0 1 fo)] ++ (Rc ++ Rm)) : va_W).length) [] (he_all _) rfl rfl (fun _ h9 => absurd h9 List.not_mem_nil) (fun ce q9 H locs hP hD hS hce hcv hcl => ?_)
    obtain ⟨fx_q_5, fm_q_5, Rc_q_5, Rm_q_5, rfl, hc, hm⟩ := hI8
    have hP : va_P g.1 vwCl ([(x0, .inr (9, fx_q_5)), (m0, .inr (10, fm_q_5)), (aL g o0 1 fo)] ++ (Rc_q_5 ++ Rm_q_5)) H := hP
    have hD : va_D A ([(x0, .inr (9, fx_q_5)), (m0, .inr (10, fm_q_5)), (aL g o0 1 fo)] ++ (Rc_q_5 ++ Rm_q_5)) := hD
    refine vx_catch (name := "java/lang/IllegalArgumentException") (E := "java/lang/IllegalArgumentException") hown [] ⟨0, 9, 12, 13⟩ [] htab (fun z h9 => nomatch h9) (by decide) (by decide) cl13 (va_Nw.use rfl (hE.cast ("java/lang/IllegalArgumentException", "java/lang/IllegalArgumentException") (by decide))) hce hcv hcl ?_
    refine W.widen (k := 1) (n := 6) (Nat.le_of_ble_eq_true rfl) (Nat.le_of_ble_eq_true rfl) ?_
    refine lv_astore_n (lv' := [(3, .ref q9), (0, .ref x0), (1, .int x_), (2, .ref o0)]) hx hb dL_months_12 rfl hl (by decide) rfl (fun ls hl => ?_)
    refine lv_iconst (v := 1) hx hb dL_months_13 (by decide) ?_
    exact he_ri hQ hx hb hr hlk hP hD hS dL_months_14 (Nat.le_of_ble_eq_true rfl) (Nat.le_of_ble_eq_true rfl) ([(x0, .inr (9, fx_q_5)), (m0, .inr (10, fm_q_5)), (aL g o0 1 fo)] ++ (Rc_q_5 ++ Rm_q_5)) rfl ⟨fo, ⟨_, _, _, _, rfl, hc, hm⟩, hcd.symm, fun h9 => absurd (hcd.symm.trans h9) (by decide)⟩
set_option maxHeartbeats 8000000 in
set_option maxRecDepth 100000 in
theorem w_undo (l : Launch) (hlt : l.stackTraces = false) (g : he_G) (x0 m0 o0 : Nat) (Sx Sm : AbS) (t : Int32) (fo : Nat → Int64) (W : va_W) (x_ : Int32) (hI : IL g x0 m0 o0 Sx Sm t fo W) : he_I l yL_undo wsL_undo 8 125 1 6 g [.ref x0, .int x_, .ref o0] W (fun (r : Int32) (W2 : va_W) => ∃ fo2 : Nat → Int64, IL g x0 m0 o0 (sp_undo Sx x_).2.2 Sm t fo2 W2 ∧ r = (sp_undo Sx x_).1 ∧ ((sp_undo Sx x_).1 = 0 → fo2 0 = Int32.toInt64 (sp_undo Sx x_).2.1)) (fun W2 => W2) := by
  obtain ⟨fx, fm, Rc, Rm, rfl, hc, hm⟩ := hI
  refine he_beginH (l := l) (g := g) (y := yL_undo) (wl := wsL_undo) (fr := 8) (lo := 125) (mc := 1) (ms := 6) (av := [.ref x0, .int x_, .ref o0]) (ws := [(x0, .inr (9, fx)), (m0, .inr (10, fm)), (aL g o0 1 fo)] ++ (Rc ++ Rm)) (cc := cL_undo) (maxL := 4) (ret := (some .int)) (hh := [(0, 9, 12, 13)]) (fun A => va_Qi (fun (r : Int32) (W2 : va_W) => ∃ fo2 : Nat → Int64, IL g x0 m0 o0 (sp_undo Sx x_).2.2 Sm t fo2 W2 ∧ r = (sp_undo Sx x_).1 ∧ ((sp_undo Sx x_).1 = 0 → fo2 0 = Int32.toInt64 (sp_undo Sx x_).2.1)) (fun u t => he_post g A ((fun (W2 : va_W) => W2) u) t) A) (by decide) rfl (Nat.le_of_ble_eq_true rfl) ?_
  intro p e s m args below meth c A ls H locs Q hQ htab hB
  obtain ⟨hx, hb, hr, hml, hown, hts, hlk, hin, hP, hK, hD, hS, hA, hE, hl⟩ := hB
  have hl : lv_has ls 4 [(0, .ref x0), (1, .int x_), (2, .ref o0)] := hl
  have cl13 := hts (.classLink RL 13 "java/lang/IllegalArgumentException") (by decide +kernel)
  refine lv_aload_n hx hb dL_undo_0 rfl (lv_at hl 2 rfl) ?_
  refine lv_iconst (v := 0) hx hb dL_undo_1 (by decide) ?_
  refine lv_aload_n hx hb dL_undo_2 rfl (lv_at hl 0 rfl) ?_
  refine lv_iload_n hx hb dL_undo_3 rfl (lv_at hl 1 rfl) ?_
  rcases k_undo l hlt g x0 Sx _ x_ hc with ⟨hcd, h9⟩ | ⟨hcd, W9, hI9, h9⟩
  · refine he_ci (wc := ([(x0, .inr (9, fx)), (m0, .inr (10, fm)), (aL g o0 1 fo)] ++ (Rc ++ Rm))) (wr := []) (va_runV (As := [.int x_]) (rest := [.int 0, .ref o0]) ⟨hx, hb, hml, hown, hts⟩ (il_cI h9 hm H.size) (cwV 1 hts gL_undo_X10_undo rfl rfl rfl (by decide +kernel) ⟨Nat.le_of_ble_eq_true rfl, Nat.le_of_ble_eq_true rfl⟩) (he_preV (wc := ([(x0, .inr (9, fx)), (m0, .inr (10, fm)), (aL g o0 1 fo)] ++ (Rc ++ Rm))) hK hP hD hS hA hE (List.range (([(x0, .inr (9, fx)), (m0, .inr (10, fm)), (aL g o0 1 fo)] ++ (Rc ++ Rm)) : va_W).length) (he_all _) (he_allnd _) 0 rfl rfl) rfl rfl hl.1 rfl (lv_room (Nat.le_of_ble_eq_true rfl)) dL_undo_4 ⟨(Nat.le_of_ble_eq_true rfl), (Nat.le_of_ble_eq_true rfl)⟩) hP hD hS hA (List.range (([(x0, .inr (9, fx)), (m0, .inr (10, fm)), (aL g o0 1 fo)] ++ (Rc ++ Rm)) : va_W).length) [] (he_all _) rfl rfl (fun _ h9 => absurd h9 List.not_mem_nil) (fun r_1 u_2 H locs hu_3 hP hD hS => ?_)
    obtain ⟨hI9, hp4⟩ := hu_3
    obtain ⟨fx_q_4, fm_q_4, Rc_q_4, Rm_q_4, rfl, hc, hm⟩ := hI9
    have hP : va_P g.1 vwCl ([(x0, .inr (9, fx_q_4)), (m0, .inr (10, fm_q_4)), (aL g o0 1 fo)] ++ (Rc_q_4 ++ Rm_q_4)) H := hP
    have hD : va_D A ([(x0, .inr (9, fx_q_4)), (m0, .inr (10, fm_q_4)), (aL g o0 1 fo)] ++ (Rc_q_4 ++ Rm_q_4)) := hD
    refine lv_i2l (v := Int32.toInt64 r_1) hx hb dL_undo_7 rfl ?_
    refine he_last hx hb hK hP hD hS 2 rfl 0 (by decide) (by decide) (by decide) dL_undo_8 (fun H locs hP hD hS => ?_)
    have hP : va_P g.1 vwCl ([(x0, .inr (9, fx_q_4)), (m0, .inr (10, fm_q_4)), (aL g o0 1 (vp_updL fo 0 (Int32.toInt64 r_1)))] ++ (Rc_q_4 ++ Rm_q_4)) H := hP
    have hD : va_D A ([(x0, .inr (9, fx_q_4)), (m0, .inr (10, fm_q_4)), (aL g o0 1 (vp_updL fo 0 (Int32.toInt64 r_1)))] ++ (Rc_q_4 ++ Rm_q_4)) := hD
    refine lv_goto (tgt := 15) hx hb dL_undo_9 (by decide) ?_
    refine lv_iconst (v := 0) hx hb dL_undo_15 (by decide) ?_
    exact he_ri hQ hx hb hr hlk hP hD hS dL_undo_16 (Nat.le_of_ble_eq_true rfl) (Nat.le_of_ble_eq_true rfl) ([(x0, .inr (9, fx_q_4)), (m0, .inr (10, fm_q_4)), (aL g o0 1 (vp_updL fo 0 (Int32.toInt64 r_1)))] ++ (Rc_q_4 ++ Rm_q_4)) rfl ⟨(vp_updL fo 0 (Int32.toInt64 r_1)), ⟨_, _, _, _, rfl, hc, hm⟩, hcd.symm, fun _ => (by rw [show (vp_updL fo 0 (Int32.toInt64 r_1)) 0 = _ from vp_updL_s _ _ _]; exact (congrArg Int32.toInt64 hp4))⟩
  · obtain ⟨W8, hI8, h8⟩ := il_Ti (o0 := o0) (fo := fo) h9 hI9 hm
    refine he_xi (En := "java/lang/IllegalArgumentException") (wx := W8) (wc := ([(x0, .inr (9, fx)), (m0, .inr (10, fm)), (aL g o0 1 fo)] ++ (Rc ++ Rm))) (wr := []) (vx_runV (As := [.int x_]) (rest := [.int 0, .ref o0]) ⟨hx, hb, hml, hown, hts⟩ (h8 H.size) (cwV 1 hts gL_undo_X10_undo rfl rfl rfl (by decide +kernel) ⟨Nat.le_of_ble_eq_true rfl, Nat.le_of_ble_eq_true rfl⟩) (he_preV (wc := ([(x0, .inr (9, fx)), (m0, .inr (10, fm)), (aL g o0 1 fo)] ++ (Rc ++ Rm))) hK hP hD hS hA hE (List.range (([(x0, .inr (9, fx)), (m0, .inr (10, fm)), (aL g o0 1 fo)] ++ (Rc ++ Rm)) : va_W).length) (he_all _) (he_allnd _) 0 rfl rfl) rfl rfl hl.1 rfl (lv_room (Nat.le_of_ble_eq_true rfl)) dL_undo_4 ⟨(Nat.le_of_ble_eq_true rfl), (Nat.le_of_ble_eq_true rfl)⟩) hP hD hS hA (List.range (([(x0, .inr (9, fx)), (m0, .inr (10, fm)), (aL g o0 1 fo)] ++ (Rc ++ Rm)) : va_W).length) [] (he_all _) rfl rfl (fun _ h9 => absurd h9 List.not_mem_nil) (fun ce q9 H locs hP hD hS hce hcv hcl => ?_)
    obtain ⟨fx_q_5, fm_q_5, Rc_q_5, Rm_q_5, rfl, hc, hm⟩ := hI8
    have hP : va_P g.1 vwCl ([(x0, .inr (9, fx_q_5)), (m0, .inr (10, fm_q_5)), (aL g o0 1 fo)] ++ (Rc_q_5 ++ Rm_q_5)) H := hP
    have hD : va_D A ([(x0, .inr (9, fx_q_5)), (m0, .inr (10, fm_q_5)), (aL g o0 1 fo)] ++ (Rc_q_5 ++ Rm_q_5)) := hD
    refine vx_catch (name := "java/lang/IllegalArgumentException") (E := "java/lang/IllegalArgumentException") hown [] ⟨0, 9, 12, 13⟩ [] htab (fun z h9 => nomatch h9) (by decide) (by decide) cl13 (va_Nw.use rfl (hE.cast ("java/lang/IllegalArgumentException", "java/lang/IllegalArgumentException") (by decide))) hce hcv hcl ?_
    refine W.widen (k := 1) (n := 6) (Nat.le_of_ble_eq_true rfl) (Nat.le_of_ble_eq_true rfl) ?_
    refine lv_astore_n (lv' := [(3, .ref q9), (0, .ref x0), (1, .int x_), (2, .ref o0)]) hx hb dL_undo_12 rfl hl (by decide) rfl (fun ls hl => ?_)
    refine lv_iconst (v := 1) hx hb dL_undo_13 (by decide) ?_
    exact he_ri hQ hx hb hr hlk hP hD hS dL_undo_14 (Nat.le_of_ble_eq_true rfl) (Nat.le_of_ble_eq_true rfl) ([(x0, .inr (9, fx_q_5)), (m0, .inr (10, fm_q_5)), (aL g o0 1 fo)] ++ (Rc_q_5 ++ Rm_q_5)) rfl ⟨fo, ⟨_, _, _, _, rfl, hc, hm⟩, hcd.symm, fun h9 => absurd (hcd.symm.trans h9) (by decide)⟩
