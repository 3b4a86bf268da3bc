section
set_option maxHeartbeats 4000000 in
set_option maxRecDepth 100000 in
theorem g_X10_wants (l : Launch) (g : he_G) (x0 : Nat) (y0 : Nat) (z0 : Nat) (dr : Nat) (pa : Nat) (s0 : Nat) (im : Nat) (tr : Nat) (v0 : Nat) (rf : Nat) (ta : Int32) (to_ : Int32) (ki : Int32) (p0 : Nat) (p1 : Nat) (p2 : Nat) (p3 : Nat) (p4 : Nat) (w : Int32) (sd : Nat → Int32) (x : Int32) (y : Int32) (hok0 : ¬ he_within x 0 9 = 0) (hok1 : ¬ he_within y 0 99 = 0) : he_I l yX10_wants wsX10_wants 1 22 0 0 g [.ref x0, .int x, .int y] [(oX10 x0 y0 ta z0 p0 dr pa to_ s0 im ki tr v0 rf), (oX6 p0 p1 p2 p3 p4 w), (aI g p1 24 sd)] (fun (r : Int32) (u : Unit) => r = wantF sd x y) (fun (u : Unit) => [(oX10 x0 y0 ta z0 p0 dr pa to_ s0 im ki tr v0 rf), (oX6 p0 p1 p2 p3 p4 w), (aI g p1 24 sd)]) := by
  refine he_begin (l := l) (g := g) (y := yX10_wants) (wl := wsX10_wants) (fr := 1) (lo := 22) (mc := 0) (ms := 0) (av := [.ref x0, .int x, .int y]) (ws := [(oX10 x0 y0 ta z0 p0 dr pa to_ s0 im ki tr v0 rf), (oX6 p0 p1 p2 p3 p4 w), (aI g p1 24 sd)]) (cc := cX10_wants) (maxL := 3) (ret := (some .int)) (fun A => va_Qi (fun (r : Int32) (u : Unit) => r = wantF sd x y) (fun u t => he_post g A ((fun (u : Unit) => [(oX10 x0 y0 ta z0 p0 dr pa to_ s0 im ki tr v0 rf), (oX6 p0 p1 p2 p3 p4 w), (aI g p1 24 sd)]) u) t) A) (by decide) rfl (Nat.le_of_ble_eq_true rfl) ?_
  intro p e s m args below meth c A ls H locs Q hQ hB
  obtain ⟨hx, hb, hr, hml, hown, hts, hlk, hin, hP, hK, hD, hS, hA, hE, hl⟩ := hB
  have hl : lv_has ls 3 [(0, .ref x0), (1, .int x), (2, .int y)] := hl
  have f23 := hts (.fieldLink RX10 23 "HiredEnemy" "plan" "LHiredEnemy$Plan;") (iwoX10_wants (k := 0) rfl)
  have inX10 : ∀ w ∈ wsX100, w ∈ wsX10_wants := innX10_wants_X10
  refine lv_aload_n hx hb dX10_wants_0 rfl (lv_at hl 0 rfl) ?_
  refine lv_iload_n hx hb dX10_wants_1 rfl (lv_at hl 1 rfl) ?_
  refine lv_iconst (v := 0) hx hb dX10_wants_2 (by decide) ?_
  refine lv_bipush (v := 9) hx hb dX10_wants_3 (by decide) ?_
  refine he_ci (wc := []) (wr := [(oX10 x0 y0 ta z0 p0 dr pa to_ s0 im ki tr v0 rf), (oX6 p0 p1 p2 p3 p4 w), (aI g p1 24 sd)]) (va_runS (As := [.int x, .int 0, .int 9]) (rest := [.ref x0]) ⟨hx, hb, hml, hown, hts⟩ (c_X10_within l g x 0 9 H.size) (va_cwS 3 hts gX10_wants_X10_within rfl rfl rfl (by decide +kernel) ⟨Nat.le_of_ble_eq_true rfl, Nat.le_of_ble_eq_true rfl⟩) (he_preS (wc := []) hK hP hD hS hA hE [] rfl rfl) rfl rfl hl.1 rfl (lv_room (Nat.le_of_ble_eq_true rfl)) dX10_wants_5 ⟨(Nat.le_of_ble_eq_true rfl), (Nat.le_of_ble_eq_true rfl)⟩) hP hD hS hA [] [0, 1, 2] rfl rfl rfl (by decide) (fun r_1 u_2 H locs h_3 hP hD hS => ?_)
  subst h_3
  have hP : va_P g.1 vwCl [(oX10 x0 y0 ta z0 p0 dr pa to_ s0 im ki tr v0 rf), (oX6 p0 p1 p2 p3 p4 w), (aI g p1 24 sd)] H := hP
  have hD : va_D A [(oX10 x0 y0 ta z0 p0 dr pa to_ s0 im ki tr v0 rf), (oX6 p0 p1 p2 p3 p4 w), (aI g p1 24 sd)] := hD
  refine he_top (1) (he_within_1 hok0) ?_
  refine lv_if_eq (tgt := 25) hx hb dX10_wants_8 (by decide) (fun c_4 => ?_) (fun c_4 => ?_)
  · exact absurd c_4 (by decide)
  · refine lv_iload_n hx hb dX10_wants_11 rfl (lv_at hl 2 rfl) ?_
    refine lv_iconst (v := 0) hx hb dX10_wants_12 (by decide) ?_
    refine lv_bipush (v := 99) hx hb dX10_wants_13 (by decide) ?_
    refine he_ci (wc := []) (wr := [(oX10 x0 y0 ta z0 p0 dr pa to_ s0 im ki tr v0 rf), (oX6 p0 p1 p2 p3 p4 w), (aI g p1 24 sd)]) (va_runS (As := [.int y, .int 0, .int 99]) (rest := [.ref x0]) ⟨hx, hb, hml, hown, hts⟩ (c_X10_within l g y 0 99 H.size) (va_cwS 3 hts gX10_wants_X10_within rfl rfl rfl (by decide +kernel) ⟨Nat.le_of_ble_eq_true rfl, Nat.le_of_ble_eq_true rfl⟩) (he_preS (wc := []) hK hP hD hS hA hE [] rfl rfl) rfl rfl hl.1 rfl (lv_room (Nat.le_of_ble_eq_true rfl)) dX10_wants_15 ⟨(Nat.le_of_ble_eq_true rfl), (Nat.le_of_ble_eq_true rfl)⟩) hP hD hS hA [] [0, 1, 2] rfl rfl rfl (by decide) (fun r_5 u_6 H locs h_7 hP hD hS => ?_)
    subst h_7
    have hP : va_P g.1 vwCl [(oX10 x0 y0 ta z0 p0 dr pa to_ s0 im ki tr v0 rf), (oX6 p0 p1 p2 p3 p4 w), (aI g p1 24 sd)] H := hP
    have hD : va_D A [(oX10 x0 y0 ta z0 p0 dr pa to_ s0 im ki tr v0 rf), (oX6 p0 p1 p2 p3 p4 w), (aI g p1 24 sd)] := hD
    refine he_top (1) (he_within_1 hok1) ?_
    refine lv_if_eq (tgt := 25) hx hb dX10_wants_18 (by decide) (fun c_8 => ?_) (fun c_8 => ?_)
    · exact absurd c_8 (by decide)
    · refine lv_iconst (v := 1) hx hb dX10_wants_21 (by decide) ?_
      refine lv_goto (tgt := 26) hx hb dX10_wants_22 (by decide) ?_
      refine he_cv (wc := []) (wr := [(oX10 x0 y0 ta z0 p0 dr pa to_ s0 im ki tr v0 rf), (oX6 p0 p1 p2 p3 p4 w), (aI g p1 24 sd)]) (va_runV (As := [.int 1]) (rest := []) ⟨hx, hb, hml, hown, hts⟩ (c_X10_demand1 l g x0 H.size) (cwV 1 hts gX10_wants_X10_demand rfl rfl rfl (by decide +kernel) ⟨Nat.le_of_ble_eq_true rfl, Nat.le_of_ble_eq_true rfl⟩) (he_preV (wc := []) hK hP hD hS hA hE [] rfl rfl 0 rfl rfl) rfl rfl hl.1 rfl (lv_room (Nat.le_of_ble_eq_true rfl)) dX10_wants_26 ⟨(Nat.le_of_ble_eq_true rfl), (Nat.le_of_ble_eq_true rfl)⟩) hP hD hS hA [] [0, 1, 2] rfl rfl rfl (by decide) (fun u_10 H locs h_11 hP hD hS => ?_)
      have hP : va_P g.1 vwCl [(oX10 x0 y0 ta z0 p0 dr pa to_ s0 im ki tr v0 rf), (oX6 p0 p1 p2 p3 p4 w), (aI g p1 24 sd)] H := hP
      have hD : va_D A [(oX10 x0 y0 ta z0 p0 dr pa to_ s0 im ki tr v0 rf), (oX6 p0 p1 p2 p3 p4 w), (aI g p1 24 sd)] := hD
      refine lv_aload_n hx hb dX10_wants_29 rfl (lv_at hl 0 rfl) ?_
      refine va_get (v := .ref p0) (T := TX10) (N := 13) hx hb hts inX10 hown hK hP 0 rfl rfl 3 (by decide) f23 (fun _ h9 => h9) rfl dX10_wants_30 ?_
      refine lv_iload_n hx hb dX10_wants_33 rfl (lv_at hl 1 rfl) ?_
      refine lv_iload_n hx hb dX10_wants_34 rfl (lv_at hl 2 rfl) ?_
      refine he_ci (wc := [(oX6 p0 p1 p2 p3 p4 w), (aI g p1 24 sd)]) (wr := [(oX10 x0 y0 ta z0 p0 dr pa to_ s0 im ki tr v0 rf)]) (va_runV (As := [.int x, .int y]) (rest := []) ⟨hx, hb, hml, hown, hts⟩ (c_X6_wanted l g p0 p1 p2 p3 p4 w sd x y H.size) (cwV 2 hts gX10_wants_X6_wanted rfl rfl rfl (by decide +kernel) ⟨Nat.le_of_ble_eq_true rfl, Nat.le_of_ble_eq_true rfl⟩) (he_preV (wc := [(oX6 p0 p1 p2 p3 p4 w), (aI g p1 24 sd)]) hK hP hD hS hA hE [1, 2] rfl rfl 1 rfl rfl) rfl rfl hl.1 rfl (lv_room (Nat.le_of_ble_eq_true rfl)) dX10_wants_35 ⟨(Nat.le_of_ble_eq_true rfl), (Nat.le_of_ble_eq_true rfl)⟩) hP hD hS hA [1, 2] [0] rfl rfl rfl (by decide) (fun r_12 u_13 H locs h_14 hP hD hS => ?_)
      subst h_14
      have hP : va_P g.1 vwCl [(oX10 x0 y0 ta z0 p0 dr pa to_ s0 im ki tr v0 rf), (oX6 p0 p1 p2 p3 p4 w), (aI g p1 24 sd)] H := hP
      have hD : va_D A [(oX10 x0 y0 ta z0 p0 dr pa to_ s0 im ki tr v0 rf), (oX6 p0 p1 p2 p3 p4 w), (aI g p1 24 sd)] := hD
      exact he_ri hQ hx hb hr hlk hP hD hS dX10_wants_38 (Nat.le_of_ble_eq_true rfl) (Nat.le_of_ble_eq_true rfl) (()) (rfl) (rfl)
set_option maxHeartbeats 4000000 in
set_option maxRecDepth 100000 in
theorem g_X10_signN (l : Launch) (g : he_G) (x0 : Nat) (y0 : Nat) (z0 : Nat) (p0 : Nat) (dr : Nat) (pa : Nat) (s0 : Nat) (im : Nat) (tr : Nat) (v0 : Nat) (rf : Nat) (ta : Int32) (to_ : Int32) (ki : Int32) (a0 : Nat) (b0 : Nat) (e0 : Nat) (h0 : Nat) (q0 : Nat) (q1 : Nat) (mo : Int32) (f : Nat → Int32)  : he_I l yX10_sign wsX10_sign 1 21 0 0 g [.ref x0, .int (-1)] [(oX10 x0 y0 ta z0 p0 dr pa to_ s0 im ki tr v0 rf), (oX8 s0 h0 a0 b0 e0), (oX4 h0 q0 q1 mo), (aI g q0 24 f)] (fun (r : Int32) (u : Unit) => r = f 10) (fun (u : Unit) => [(oX10 x0 y0 ta z0 p0 dr pa to_ s0 im ki tr v0 rf), (oX8 s0 h0 a0 b0 e0), (oX4 h0 q0 q1 mo), (aI g q0 24 (fcF f (-1) mo))]) := by
  refine he_begin (l := l) (g := g) (y := yX10_sign) (wl := wsX10_sign) (fr := 1) (lo := 21) (mc := 0) (ms := 0) (av := [.ref x0, .int (-1)]) (ws := [(oX10 x0 y0 ta z0 p0 dr pa to_ s0 im ki tr v0 rf), (oX8 s0 h0 a0 b0 e0), (oX4 h0 q0 q1 mo), (aI g q0 24 f)]) (cc := cX10_sign) (maxL := 3) (ret := (some .int)) (fun A => va_Qi (fun (r : Int32) (u : Unit) => r = f 10) (fun u t => he_post g A ((fun (u : Unit) => [(oX10 x0 y0 ta z0 p0 dr pa to_ s0 im ki tr v0 rf), (oX8 s0 h0 a0 b0 e0), (oX4 h0 q0 q1 mo), (aI g q0 24 (fcF f (-1) mo))]) u) t) A) (by decide) rfl (Nat.le_of_ble_eq_true rfl) ?_
  intro p e s m args below meth c A ls H locs Q hQ hB
  obtain ⟨hx, hb, hr, hml, hown, hts, hlk, hin, hP, hK, hD, hS, hA, hE, hl⟩ := hB
  have hl : lv_has ls 3 [(0, .ref x0), (1, .int (-1))] := hl
  have f39 := hts (.fieldLink RX10 39 "HiredEnemy" "scene" "LHiredEnemy$Scene;") (iwoX10_sign (k := 0) rfl)
  have inX10 : ∀ w ∈ wsX100, w ∈ wsX10_sign := innX10_sign_X10
  have f66 := hts (.fieldLink RX10 66 "HiredEnemy$Scene" "course" "LHiredEnemy$Course;") (iwoX10_sign (k := 1) rfl)
  have inX8 : ∀ w ∈ wsX80, w ∈ wsX10_sign := innX10_sign_X8
  have f111 := hts (.fieldLink RX10 111 "HiredEnemy$Course" "now" "[I") (iwoX10_sign (k := 2) rfl)
  have inX4 : ∀ w ∈ wsX40, w ∈ wsX10_sign := innX10_sign_X4
  refine lv_aload_n hx hb dX10_sign_0 rfl (lv_at hl 0 rfl) ?_
  refine lv_iload_n hx hb dX10_sign_1 rfl (lv_at hl 1 rfl) ?_
  refine he_cv (wc := []) (wr := [(oX10 x0 y0 ta z0 p0 dr pa to_ s0 im ki tr v0 rf), (oX8 s0 h0 a0 b0 e0), (oX4 h0 q0 q1 mo), (aI g q0 24 f)]) (va_runV (As := [.int (-1)]) (rest := []) ⟨hx, hb, hml, hown, hts⟩ (g_X10_demandCNn l g x0 H.size) (cwV 1 hts gX10_sign_X10_demandContractOrNone rfl rfl rfl (by decide +kernel) ⟨Nat.le_of_ble_eq_true rfl, Nat.le_of_ble_eq_true rfl⟩) (he_preV (wc := []) hK hP hD hS hA hE [] rfl rfl 0 rfl rfl) rfl rfl hl.1 rfl (lv_room (Nat.le_of_ble_eq_true rfl)) dX10_sign_2 ⟨(Nat.le_of_ble_eq_true rfl), (Nat.le_of_ble_eq_true rfl)⟩) hP hD hS hA [] [0, 1, 2, 3] rfl rfl rfl (by decide) (fun u_2 H locs h_3 hP hD hS => ?_)
  have hP : va_P g.1 vwCl [(oX10 x0 y0 ta z0 p0 dr pa to_ s0 im ki tr v0 rf), (oX8 s0 h0 a0 b0 e0), (oX4 h0 q0 q1 mo), (aI g q0 24 f)] H := hP
  have hD : va_D A [(oX10 x0 y0 ta z0 p0 dr pa to_ s0 im ki tr v0 rf), (oX8 s0 h0 a0 b0 e0), (oX4 h0 q0 q1 mo), (aI g q0 24 f)] := hD
  refine lv_aload_n hx hb dX10_sign_5 rfl (lv_at hl 0 rfl) ?_
  refine va_get (v := .ref s0) (T := TX10) (N := 13) hx hb hts inX10 hown hK hP 0 rfl rfl 7 (by decide) f39 (fun _ h9 => h9) rfl dX10_sign_6 ?_
  refine va_get (v := .ref h0) (T := TX8) (N := 4) hx hb hts inX8 hown hK hP 1 rfl rfl 0 (by decide) f66 (fun _ h9 => h9) rfl dX10_sign_9 ?_
  refine va_get (v := .ref q0) (T := TX4) (N := 3) hx hb hts inX4 hown hK hP 2 rfl rfl 0 (by decide) f111 (fun _ h9 => h9) rfl dX10_sign_12 ?_
  refine lv_bipush (v := 10) hx hb dX10_sign_15 (by decide) ?_
  refine he_iald hx hb hK hP 3 rfl (10) (by decide) (by decide) (by first | decide | assumption) (f 10) rfl dX10_sign_17 ?_
  refine lv_istore_n (lv' := [(2, .int (f 10)), (0, .ref x0), (1, .int (-1))]) hx hb dX10_sign_18 rfl hl (by decide) rfl (fun ls hl => ?_)
  refine lv_aload_n hx hb dX10_sign_19 rfl (lv_at hl 1 rfl) ?_
  refine va_get (v := .ref s0) (T := TX10) (N := 13) hx hb hts inX10 hown hK hP 0 rfl rfl 7 (by decide) f39 (fun _ h9 => h9) rfl dX10_sign_20 ?_
  refine va_get (v := .ref h0) (T := TX8) (N := 4) hx hb hts inX8 hown hK hP 1 rfl rfl 0 (by decide) f66 (fun _ h9 => h9) rfl dX10_sign_23 ?_
  refine lv_iload_n hx hb dX10_sign_26 rfl (lv_at hl 2 rfl) ?_
  refine he_cv (wc := [(oX4 h0 q0 q1 mo), (aI g q0 24 f)]) (wr := [(oX10 x0 y0 ta z0 p0 dr pa to_ s0 im ki tr v0 rf), (oX8 s0 h0 a0 b0 e0)]) (va_runV (As := [.int (-1)]) (rest := []) ⟨hx, hb, hml, hown, hts⟩ (c_X4_pledge l g h0 q0 q1 mo f (-1) H.size) (cwV 1 hts gX10_sign_X4_pledge rfl rfl rfl (by decide +kernel) ⟨Nat.le_of_ble_eq_true rfl, Nat.le_of_ble_eq_true rfl⟩) (he_preV (wc := [(oX4 h0 q0 q1 mo), (aI g q0 24 f)]) hK hP hD hS hA hE [2, 3] rfl rfl 2 rfl rfl) rfl rfl hl.1 rfl (lv_room (Nat.le_of_ble_eq_true rfl)) dX10_sign_27 ⟨(Nat.le_of_ble_eq_true rfl), (Nat.le_of_ble_eq_true rfl)⟩) hP hD hS hA [2, 3] [0, 1] rfl rfl rfl (by decide) (fun u_5 H locs h_6 hP hD hS => ?_)
  have hP : va_P g.1 vwCl [(oX10 x0 y0 ta z0 p0 dr pa to_ s0 im ki tr v0 rf), (oX8 s0 h0 a0 b0 e0), (oX4 h0 q0 q1 mo), (aI g q0 24 (fcF f (-1) mo))] H := hP
  have hD : va_D A [(oX10 x0 y0 ta z0 p0 dr pa to_ s0 im ki tr v0 rf), (oX8 s0 h0 a0 b0 e0), (oX4 h0 q0 q1 mo), (aI g q0 24 (fcF f (-1) mo))] := hD
  refine lv_iload_n hx hb dX10_sign_30 rfl (lv_at hl 0 rfl) ?_
  exact he_ri hQ hx hb hr hlk hP hD hS dX10_sign_31 (Nat.le_of_ble_eq_true rfl) (Nat.le_of_ble_eq_true rfl) (()) (rfl) (rfl)
set_option maxHeartbeats 4000000 in
set_option maxRecDepth 100000 in
theorem g_X10_sign (l : Launch) (g : he_G) (x0 : Nat) (y0 : Nat) (z0 : Nat) (p0 : Nat) (dr : Nat) (pa : Nat) (s0 : Nat) (im : Nat) (tr : Nat) (v0 : Nat) (rf : Nat) (ta : Int32) (to_ : Int32) (ki : Int32) (a0 : Nat) (b0 : Nat) (e0 : Nat) (h0 : Nat) (q0 : Nat) (q1 : Nat) (mo : Int32) (f : Nat → Int32) (x : Int32) (hyes : ¬ he_within x 0 (to_ - 1) = 0) (hx1 : ¬ x = -1) : he_I l yX10_sign wsX10_sign 3 64 0 0 g [.ref x0, .int x] [(oX10 x0 y0 ta z0 p0 dr pa to_ s0 im ki tr v0 rf), (oX8 s0 h0 a0 b0 e0), (oX4 h0 q0 q1 mo), (aI g q0 24 f)] (fun (r : Int32) (u : Unit) => r = f 10) (fun (u : Unit) => [(oX10 x0 y0 ta z0 p0 dr pa to_ s0 im ki tr v0 rf), (oX8 s0 h0 a0 b0 e0), (oX4 h0 q0 q1 mo), (aI g q0 24 (fcF f x mo))]) := by
  refine he_begin (l := l) (g := g) (y := yX10_sign) (wl := wsX10_sign) (fr := 3) (lo := 64) (mc := 0) (ms := 0) (av := [.ref x0, .int x]) (ws := [(oX10 x0 y0 ta z0 p0 dr pa to_ s0 im ki tr v0 rf), (oX8 s0 h0 a0 b0 e0), (oX4 h0 q0 q1 mo), (aI g q0 24 f)]) (cc := cX10_sign) (maxL := 3) (ret := (some .int)) (fun A => va_Qi (fun (r : Int32) (u : Unit) => r = f 10) (fun u t => he_post g A ((fun (u : Unit) => [(oX10 x0 y0 ta z0 p0 dr pa to_ s0 im ki tr v0 rf), (oX8 s0 h0 a0 b0 e0), (oX4 h0 q0 q1 mo), (aI g q0 24 (fcF f x mo))]) u) t) A) (by decide) rfl (Nat.le_of_ble_eq_true rfl) ?_
  intro p e s m args below meth c A ls H locs Q hQ hB
  obtain ⟨hx, hb, hr, hml, hown, hts, hlk, hin, hP, hK, hD, hS, hA, hE, hl⟩ := hB
  have hl : lv_has ls 3 [(0, .ref x0), (1, .int x)] := hl
  have f39 := hts (.fieldLink RX10 39 "HiredEnemy" "scene" "LHiredEnemy$Scene;") (iwoX10_sign (k := 0) rfl)
  have inX10 : ∀ w ∈ wsX100, w ∈ wsX10_sign := innX10_sign_X10
  have f66 := hts (.fieldLink RX10 66 "HiredEnemy$Scene" "course" "LHiredEnemy$Course;") (iwoX10_sign (k := 1) rfl)
  have inX8 : ∀ w ∈ wsX80, w ∈ wsX10_sign := innX10_sign_X8
  have f111 := hts (.fieldLink RX10 111 "HiredEnemy$Course" "now" "[I") (iwoX10_sign (k := 2) rfl)
  have inX4 : ∀ w ∈ wsX40, w ∈ wsX10_sign := innX10_sign_X4
  refine lv_aload_n hx hb dX10_sign_0 rfl (lv_at hl 0 rfl) ?_
  refine lv_iload_n hx hb dX10_sign_1 rfl (lv_at hl 1 rfl) ?_
  refine he_cv (wc := [(oX10 x0 y0 ta z0 p0 dr pa to_ s0 im ki tr v0 rf)]) (wr := [(oX8 s0 h0 a0 b0 e0), (oX4 h0 q0 q1 mo), (aI g q0 24 f)]) (va_runV (As := [.int x]) (rest := []) ⟨hx, hb, hml, hown, hts⟩ (g_X10_demandCN1 l g x0 y0 z0 p0 dr pa s0 im tr v0 rf ta to_ ki x (by first | assumption | decide | omega) (by first | assumption | decide | omega) H.size) (cwV 1 hts gX10_sign_X10_demandContractOrNone rfl rfl rfl (by decide +kernel) ⟨Nat.le_of_ble_eq_true rfl, Nat.le_of_ble_eq_true rfl⟩) (he_preV (wc := [(oX10 x0 y0 ta z0 p0 dr pa to_ s0 im ki tr v0 rf)]) hK hP hD hS hA hE [0] rfl rfl 0 rfl rfl) rfl rfl hl.1 rfl (lv_room (Nat.le_of_ble_eq_true rfl)) dX10_sign_2 ⟨(Nat.le_of_ble_eq_true rfl), (Nat.le_of_ble_eq_true rfl)⟩) hP hD hS hA [0] [1, 2, 3] rfl rfl rfl (by decide) (fun u_2 H locs h_3 hP hD hS => ?_)
  have hP : va_P g.1 vwCl [(oX8 s0 h0 a0 b0 e0), (oX4 h0 q0 q1 mo), (aI g q0 24 f), (oX10 x0 y0 ta z0 p0 dr pa to_ s0 im ki tr v0 rf)] H := hP
  have hD : va_D A [(oX8 s0 h0 a0 b0 e0), (oX4 h0 q0 q1 mo), (aI g q0 24 f), (oX10 x0 y0 ta z0 p0 dr pa to_ s0 im ki tr v0 rf)] := hD
  refine lv_aload_n hx hb dX10_sign_5 rfl (lv_at hl 0 rfl) ?_
  refine va_get (v := .ref s0) (T := TX10) (N := 13) hx hb hts inX10 hown hK hP 3 rfl rfl 7 (by decide) f39 (fun _ h9 => h9) rfl dX10_sign_6 ?_
  refine va_get (v := .ref h0) (T := TX8) (N := 4) hx hb hts inX8 hown hK hP 0 rfl rfl 0 (by decide) f66 (fun _ h9 => h9) rfl dX10_sign_9 ?_
  refine va_get (v := .ref q0) (T := TX4) (N := 3) hx hb hts inX4 hown hK hP 1 rfl rfl 0 (by decide) f111 (fun _ h9 => h9) rfl dX10_sign_12 ?_
  refine lv_bipush (v := 10) hx hb dX10_sign_15 (by decide) ?_
  refine he_iald hx hb hK hP 2 rfl (10) (by decide) (by decide) (by first | decide | assumption) (f 10) rfl dX10_sign_17 ?_
  refine lv_istore_n (lv' := [(2, .int (f 10)), (0, .ref x0), (1, .int x)]) hx hb dX10_sign_18 rfl hl (by decide) rfl (fun ls hl => ?_)
  refine lv_aload_n hx hb dX10_sign_19 rfl (lv_at hl 1 rfl) ?_
  refine va_get (v := .ref s0) (T := TX10) (N := 13) hx hb hts inX10 hown hK hP 3 rfl rfl 7 (by decide) f39 (fun _ h9 => h9) rfl dX10_sign_20 ?_
  refine va_get (v := .ref h0) (T := TX8) (N := 4) hx hb hts inX8 hown hK hP 0 rfl rfl 0 (by decide) f66 (fun _ h9 => h9) rfl dX10_sign_23 ?_
  refine lv_iload_n hx hb dX10_sign_26 rfl (lv_at hl 2 rfl) ?_
  refine he_cv (wc := [(oX4 h0 q0 q1 mo), (aI g q0 24 f)]) (wr := [(oX8 s0 h0 a0 b0 e0), (oX10 x0 y0 ta z0 p0 dr pa to_ s0 im ki tr v0 rf)]) (va_runV (As := [.int x]) (rest := []) ⟨hx, hb, hml, hown, hts⟩ (c_X4_pledge l g h0 q0 q1 mo f x H.size) (cwV 1 hts gX10_sign_X4_pledge rfl rfl rfl (by decide +kernel) ⟨Nat.le_of_ble_eq_true rfl, Nat.le_of_ble_eq_true rfl⟩) (he_preV (wc := [(oX4 h0 q0 q1 mo), (aI g q0 24 f)]) hK hP hD hS hA hE [1, 2] rfl rfl 1 rfl rfl) rfl rfl hl.1 rfl (lv_room (Nat.le_of_ble_eq_true rfl)) dX10_sign_27 ⟨(Nat.le_of_ble_eq_true rfl), (Nat.le_of_ble_eq_true rfl)⟩) hP hD hS hA [1, 2] [0, 3] rfl rfl rfl (by decide) (fun u_5 H locs h_6 hP hD hS => ?_)
  have hP : va_P g.1 vwCl [(oX8 s0 h0 a0 b0 e0), (oX10 x0 y0 ta z0 p0 dr pa to_ s0 im ki tr v0 rf), (oX4 h0 q0 q1 mo), (aI g q0 24 (fcF f x mo))] H := hP
  have hD : va_D A [(oX8 s0 h0 a0 b0 e0), (oX10 x0 y0 ta z0 p0 dr pa to_ s0 im ki tr v0 rf), (oX4 h0 q0 q1 mo), (aI g q0 24 (fcF f x mo))] := hD
  refine lv_iload_n hx hb dX10_sign_30 rfl (lv_at hl 0 rfl) ?_
  have hP := hP.sub (ws' := [(oX10 x0 y0 ta z0 p0 dr pa to_ s0 im ki tr v0 rf), (oX8 s0 h0 a0 b0 e0), (oX4 h0 q0 q1 mo), (aI g q0 24 (fcF f x mo))]) [1, 0, 2, 3] rfl
  have hD := hD.sub (ws' := [(oX10 x0 y0 ta z0 p0 dr pa to_ s0 im ki tr v0 rf), (oX8 s0 h0 a0 b0 e0), (oX4 h0 q0 q1 mo), (aI g q0 24 (fcF f x mo))]) [1, 0, 2, 3] (by decide) rfl
  exact he_ri hQ hx hb hr hlk hP hD hS dX10_sign_31 (Nat.le_of_ble_eq_true rfl) (Nat.le_of_ble_eq_true rfl) (()) (rfl) (rfl)
set_option maxHeartbeats 4000000 in
set_option maxRecDepth 100000 in
theorem g_X10_undo (l : Launch) (g : he_G) (x0 : Nat) (y0 : Nat) (z0 : Nat) (p0 : Nat) (dr : Nat) (pa : Nat) (s0 : Nat) (im : Nat) (tr : Nat) (v0 : Nat) (rf : Nat) (ta : Int32) (to_ : Int32) (ki : Int32) (a0 : Nat) (b0 : Nat) (e0 : Nat) (h0 : Nat) (q0 : Nat) (q1 : Nat) (k : Nat) (a1 : Nat) (f : Nat → Int32) (ln : Nat → Int32) (n : Nat) (hn1 : 1 ≤ n) (hn2 : n ≤ 120) (hk : k ≤ 120) : he_I l yX10_undo wsX10_undo 2 44 0 0 g [.ref x0, .int (nI n)] [(oX10 x0 y0 ta z0 p0 dr pa to_ s0 im ki tr v0 rf), (oX8 s0 h0 a0 b0 e0), (oX4 h0 q0 q1 (nI k)), (aI g q0 24 f), (oX0 a0 a1), (aI g a1 3600 ln)] (fun (r : Int32) (u : Nat × (Nat → Int32)) => u.1 = k - min n k ∧ r = nI (k - u.1) ∧ ((u.1 = k ∧ u.2 = f) ∨ (u.1 < k ∧ u.2 = va_cpy ln f (u.1 * 30) 0 24))) (fun (u : Nat × (Nat → Int32)) => [(oX10 x0 y0 ta z0 p0 dr pa to_ s0 im ki tr v0 rf), (oX8 s0 h0 a0 b0 e0), (oX4 h0 q0 q1 (nI u.1)), (aI g q0 24 u.2), (oX0 a0 a1), (aI g a1 3600 ln)]) := by
  refine he_begin (l := l) (g := g) (y := yX10_undo) (wl := wsX10_undo) (fr := 2) (lo := 44) (mc := 0) (ms := 0) (av := [.ref x0, .int (nI n)]) (ws := [(oX10 x0 y0 ta z0 p0 dr pa to_ s0 im ki tr v0 rf), (oX8 s0 h0 a0 b0 e0), (oX4 h0 q0 q1 (nI k)), (aI g q0 24 f), (oX0 a0 a1), (aI g a1 3600 ln)]) (cc := cX10_undo) (maxL := 3) (ret := (some .int)) (fun A => va_Qi (fun (r : Int32) (u : Nat × (Nat → Int32)) => u.1 = k - min n k ∧ r = nI (k - u.1) ∧ ((u.1 = k ∧ u.2 = f) ∨ (u.1 < k ∧ u.2 = va_cpy ln f (u.1 * 30) 0 24))) (fun u t => he_post g A ((fun (u : Nat × (Nat → Int32)) => [(oX10 x0 y0 ta z0 p0 dr pa to_ s0 im ki tr v0 rf), (oX8 s0 h0 a0 b0 e0), (oX4 h0 q0 q1 (nI u.1)), (aI g q0 24 u.2), (oX0 a0 a1), (aI g a1 3600 ln)]) u) t) A) (by decide) rfl (Nat.le_of_ble_eq_true rfl) ?_
  intro p e s m args below meth c A ls H locs Q hQ hB
  obtain ⟨hx, hb, hr, hml, hown, hts, hlk, hin, hP, hK, hD, hS, hA, hE, hl⟩ := hB
  have hl : lv_has ls 3 [(0, .ref x0), (1, .int (nI n))] := hl
  have f39 := hts (.fieldLink RX10 39 "HiredEnemy" "scene" "LHiredEnemy$Scene;") (iwoX10_undo (k := 0) rfl)
  have inX10 : ∀ w ∈ wsX100, w ∈ wsX10_undo := innX10_undo_X10
  have f66 := hts (.fieldLink RX10 66 "HiredEnemy$Scene" "course" "LHiredEnemy$Course;") (iwoX10_undo (k := 1) rfl)
  have inX8 : ∀ w ∈ wsX80, w ∈ wsX10_undo := innX10_undo_X8
  have f114 := hts (.fieldLink RX10 114 "HiredEnemy$Course" "month" "I") (iwoX10_undo (k := 2) rfl)
  have inX4 : ∀ w ∈ wsX40, w ∈ wsX10_undo := innX10_undo_X4
  have ml164 := hts (.methodLink RX10 164 Lib.Math.min.name) (iwoX10_undo (k := 3) rfl)
  have msmin := hts (.static Lib.Math.min.name) (iwoX10_undo (k := 4) rfl)
  have mi := hts (.initialized "java/lang/Math") (iwoX10_undo (k := 5) rfl)
  have mcmin := hts (.code Lib.Math.min.name Lib.Math.min.code 2 (some .int)) (iwoX10_undo (k := 6) rfl)
  have f143 := hts (.fieldLink RX10 143 "HiredEnemy$Scene" "annals" "LHiredEnemy$Annals;") (iwoX10_undo (k := 7) rfl)
  refine lv_aload_n hx hb dX10_undo_0 rfl (lv_at hl 0 rfl) ?_
  refine lv_iload_n hx hb dX10_undo_1 rfl (lv_at hl 1 rfl) ?_
  refine lv_iconst (v := 1) hx hb dX10_undo_2 (by decide) ?_
  refine lv_bipush (v := 120) hx hb dX10_undo_3 (by decide) ?_
  refine he_ci (wc := []) (wr := [(oX10 x0 y0 ta z0 p0 dr pa to_ s0 im ki tr v0 rf), (oX8 s0 h0 a0 b0 e0), (oX4 h0 q0 q1 (nI k)), (aI g q0 24 f), (oX0 a0 a1), (aI g a1 3600 ln)]) (va_runS (As := [.int (nI n), .int 1, .int 120]) (rest := [.ref x0]) ⟨hx, hb, hml, hown, hts⟩ (c_X10_within l g (nI n) 1 120 H.size) (va_cwS 3 hts gX10_undo_X10_within rfl rfl rfl (by decide +kernel) ⟨Nat.le_of_ble_eq_true rfl, Nat.le_of_ble_eq_true rfl⟩) (he_preS (wc := []) hK hP hD hS hA hE [] rfl rfl) rfl rfl hl.1 rfl (lv_room (Nat.le_of_ble_eq_true rfl)) dX10_undo_5 ⟨(Nat.le_of_ble_eq_true rfl), (Nat.le_of_ble_eq_true rfl)⟩) hP hD hS hA [] [0, 1, 2, 3, 4, 5] rfl rfl rfl (by decide) (fun r_1 u_2 H locs h_3 hP hD hS => ?_)
  subst h_3
  have hP : va_P g.1 vwCl [(oX10 x0 y0 ta z0 p0 dr pa to_ s0 im ki tr v0 rf), (oX8 s0 h0 a0 b0 e0), (oX4 h0 q0 q1 (nI k)), (aI g q0 24 f), (oX0 a0 a1), (aI g a1 3600 ln)] H := hP
  have hD : va_D A [(oX10 x0 y0 ta z0 p0 dr pa to_ s0 im ki tr v0 rf), (oX8 s0 h0 a0 b0 e0), (oX4 h0 q0 q1 (nI k)), (aI g q0 24 f), (oX0 a0 a1), (aI g a1 3600 ln)] := hD
  refine he_top (1) (he_within_in (a0 := 1) (B := 120) rfl rfl (by omega) (by omega) (by decide)) ?_
  refine he_cv (wc := []) (wr := [(oX10 x0 y0 ta z0 p0 dr pa to_ s0 im ki tr v0 rf), (oX8 s0 h0 a0 b0 e0), (oX4 h0 q0 q1 (nI k)), (aI g q0 24 f), (oX0 a0 a1), (aI g a1 3600 ln)]) (va_runV (As := [.int 1]) (rest := []) ⟨hx, hb, hml, hown, hts⟩ (c_X10_demand1 l g x0 H.size) (cwV 1 hts gX10_undo_X10_demand rfl rfl rfl (by decide +kernel) ⟨Nat.le_of_ble_eq_true rfl, Nat.le_of_ble_eq_true rfl⟩) (he_preV (wc := []) hK hP hD hS hA hE [] rfl rfl 0 rfl rfl) rfl rfl hl.1 rfl (lv_room (Nat.le_of_ble_eq_true rfl)) dX10_undo_8 ⟨(Nat.le_of_ble_eq_true rfl), (Nat.le_of_ble_eq_true rfl)⟩) hP hD hS hA [] [0, 1, 2, 3, 4, 5] rfl rfl rfl (by decide) (fun u_5 H locs h_6 hP hD hS => ?_)
  have hP : va_P g.1 vwCl [(oX10 x0 y0 ta z0 p0 dr pa to_ s0 im ki tr v0 rf), (oX8 s0 h0 a0 b0 e0), (oX4 h0 q0 q1 (nI k)), (aI g q0 24 f), (oX0 a0 a1), (aI g a1 3600 ln)] H := hP
  have hD : va_D A [(oX10 x0 y0 ta z0 p0 dr pa to_ s0 im ki tr v0 rf), (oX8 s0 h0 a0 b0 e0), (oX4 h0 q0 q1 (nI k)), (aI g q0 24 f), (oX0 a0 a1), (aI g a1 3600 ln)] := hD
  refine lv_iload_n hx hb dX10_undo_11 rfl (lv_at hl 1 rfl) ?_
  refine lv_aload_n hx hb dX10_undo_12 rfl (lv_at hl 0 rfl) ?_
  refine va_get (v := .ref s0) (T := TX10) (N := 13) hx hb hts inX10 hown hK hP 0 rfl rfl 7 (by decide) f39 (fun _ h9 => h9) rfl dX10_undo_13 ?_
  refine va_get (v := .ref h0) (T := TX8) (N := 4) hx hb hts inX8 hown hK hP 1 rfl rfl 0 (by decide) f66 (fun _ h9 => h9) rfl dX10_undo_16 ?_
  refine va_get (v := .int (nI k)) (T := TX4) (N := 3) hx hb hts inX4 hown hK hP 2 rfl rfl 2 (by decide) f114 (fun _ h9 => h9) rfl dX10_undo_19 ?_
  refine va_mmin hx hb (by rw [hml]; exact hl.1.symm) hown ml164 msmin mi mcmin (by decide) (Nat.le_of_ble_eq_true rfl) (Nat.le_of_ble_eq_true rfl) (Nat.le_of_ble_eq_true rfl) dX10_undo_22 ?_
  refine he_top (nI (min n k)) (nI_min (by omega) (by omega)) ?_
  refine lv_istore_n (lv' := [(2, .int (nI (min n k))), (0, .ref x0), (1, .int (nI n))]) hx hb dX10_undo_25 rfl hl (by decide) rfl (fun ls hl => ?_)
  refine lv_iload_n hx hb dX10_undo_26 rfl (lv_at hl 0 rfl) ?_
  refine lv_if_le (tgt := 59) hx hb dX10_undo_27 (by decide) (fun c_7 => ?_) (fun c_7 => ?_)
  · have h27 : min n k = 0 := by have := he_cle (x := nI (min n k)) (y := 0) (a := min n k) (b := 0) rfl (by decide) (by omega) (by decide); have := this.mp c_7; omega
    refine lv_iload_n hx hb dX10_undo_59 rfl (lv_at hl 0 rfl) ?_
    exact he_ri hQ hx hb hr hlk hP hD hS dX10_undo_60 (Nat.le_of_ble_eq_true rfl) (Nat.le_of_ble_eq_true rfl) ((k, f)) (rfl) (⟨by first | rfl | (dsimp only; omega) | omega, congrArg nI (by first | rfl | (dsimp only; omega) | omega), Or.inl ⟨rfl, rfl⟩⟩)
  · have h27 : 0 < min n k := by have := he_cle (x := nI (min n k)) (y := 0) (a := min n k) (b := 0) rfl (by decide) (by omega) (by decide); exact Nat.pos_of_ne_zero (fun h8 => c_7 (this.mpr (by omega)))
    refine lv_aload_n hx hb dX10_undo_30 rfl (lv_at hl 1 rfl) ?_
    refine va_get (v := .ref s0) (T := TX10) (N := 13) hx hb hts inX10 hown hK hP 0 rfl rfl 7 (by decide) f39 (fun _ h9 => h9) rfl dX10_undo_31 ?_
    refine va_get (v := .ref a0) (T := TX8) (N := 4) hx hb hts inX8 hown hK hP 1 rfl rfl 1 (by decide) f143 (fun _ h9 => h9) rfl dX10_undo_34 ?_
    refine lv_aload_n hx hb dX10_undo_37 rfl (lv_at hl 1 rfl) ?_
    refine va_get (v := .ref s0) (T := TX10) (N := 13) hx hb hts inX10 hown hK hP 0 rfl rfl 7 (by decide) f39 (fun _ h9 => h9) rfl dX10_undo_38 ?_
    refine va_get (v := .ref h0) (T := TX8) (N := 4) hx hb hts inX8 hown hK hP 1 rfl rfl 0 (by decide) f66 (fun _ h9 => h9) rfl dX10_undo_41 ?_
    refine lv_aload_n hx hb dX10_undo_44 rfl (lv_at hl 1 rfl) ?_
    refine va_get (v := .ref s0) (T := TX10) (N := 13) hx hb hts inX10 hown hK hP 0 rfl rfl 7 (by decide) f39 (fun _ h9 => h9) rfl dX10_undo_45 ?_
    refine va_get (v := .ref h0) (T := TX8) (N := 4) hx hb hts inX8 hown hK hP 1 rfl rfl 0 (by decide) f66 (fun _ h9 => h9) rfl dX10_undo_48 ?_
    refine va_get (v := .int (nI k)) (T := TX4) (N := 3) hx hb hts inX4 hown hK hP 2 rfl rfl 2 (by decide) f114 (fun _ h9 => h9) rfl dX10_undo_51 ?_
    refine lv_iload_n hx hb dX10_undo_54 rfl (lv_at hl 0 rfl) ?_
    refine lv_isub hx hb dX10_undo_55 ?_
    refine he_top (nI (k - min n k)) (pk_sub (by omega)) ?_
    refine he_cv (wc := [(oX0 a0 a1), (aI g a1 3600 ln), (oX4 h0 q0 q1 (nI k)), (aI g q0 24 f)]) (wr := [(oX10 x0 y0 ta z0 p0 dr pa to_ s0 im ki tr v0 rf), (oX8 s0 h0 a0 b0 e0)]) (va_runV (As := [.ref h0, .int (nI (k - min n k))]) (rest := []) ⟨hx, hb, hml, hown, hts⟩ (g_X0_giveBack l g a0 a1 ln h0 q0 q1 (nI k) (k - min n k) f (by first | assumption | decide | omega) H.size) (cwV 2 hts gX10_undo_X0_giveBack rfl rfl rfl (by decide +kernel) ⟨Nat.le_of_ble_eq_true rfl, Nat.le_of_ble_eq_true rfl⟩) (he_preV (wc := [(oX0 a0 a1), (aI g a1 3600 ln), (oX4 h0 q0 q1 (nI k)), (aI g q0 24 f)]) hK hP hD hS hA hE [4, 5, 2, 3] rfl rfl 4 rfl rfl) rfl rfl hl.1 rfl (lv_room (Nat.le_of_ble_eq_true rfl)) dX10_undo_56 ⟨(Nat.le_of_ble_eq_true rfl), (Nat.le_of_ble_eq_true rfl)⟩) hP hD hS hA [4, 5, 2, 3] [0, 1] rfl rfl rfl (by decide) (fun u_9 H locs h_10 hP hD hS => ?_)
    have hP : va_P g.1 vwCl [(oX10 x0 y0 ta z0 p0 dr pa to_ s0 im ki tr v0 rf), (oX8 s0 h0 a0 b0 e0), (oX0 a0 a1), (aI g a1 3600 ln), (oX4 h0 q0 q1 (nI (k - min n k))), (aI g q0 24 (va_cpy ln f ((k - min n k) * 30) 0 24))] H := hP
    have hD : va_D A [(oX10 x0 y0 ta z0 p0 dr pa to_ s0 im ki tr v0 rf), (oX8 s0 h0 a0 b0 e0), (oX0 a0 a1), (aI g a1 3600 ln), (oX4 h0 q0 q1 (nI (k - min n k))), (aI g q0 24 (va_cpy ln f ((k - min n k) * 30) 0 24))] := hD
    refine lv_iload_n hx hb dX10_undo_59 rfl (lv_at hl 0 rfl) ?_
    have hP := hP.sub (ws' := [(oX10 x0 y0 ta z0 p0 dr pa to_ s0 im ki tr v0 rf), (oX8 s0 h0 a0 b0 e0), (oX4 h0 q0 q1 (nI (k - min n k))), (aI g q0 24 (va_cpy ln f ((k - min n k) * 30) 0 24)), (oX0 a0 a1), (aI g a1 3600 ln)]) [0, 1, 4, 5, 2, 3] rfl
    have hD := hD.sub (ws' := [(oX10 x0 y0 ta z0 p0 dr pa to_ s0 im ki tr v0 rf), (oX8 s0 h0 a0 b0 e0), (oX4 h0 q0 q1 (nI (k - min n k))), (aI g q0 24 (va_cpy ln f ((k - min n k) * 30) 0 24)), (oX0 a0 a1), (aI g a1 3600 ln)]) [0, 1, 4, 5, 2, 3] (by decide) rfl
    exact he_ri hQ hx hb hr hlk hP hD hS dX10_undo_60 (Nat.le_of_ble_eq_true rfl) (Nat.le_of_ble_eq_true rfl) (((k - min n k), va_cpy ln f ((k - min n k) * 30) 0 24)) (rfl) (⟨by first | rfl | (dsimp only; omega) | omega, congrArg nI (by first | rfl | (dsimp only; omega) | omega), Or.inr ⟨by (try dsimp only); omega, rfl⟩⟩)
set_option maxHeartbeats 4000000 in
set_option maxRecDepth 100000 in
theorem g_X10_sums (l : Launch) (g : he_G) (x0 : Nat) (y0 : Nat) (z0 : Nat) (p0 : Nat) (dr : Nat) (pa : Nat) (s0 : Nat) (im : Nat) (tr : Nat) (v0 : Nat) (rf : Nat) (ta : Int32) (to_ : Int32) (ki : Int32) (a0 : Nat) (b0 : Nat) (e0 : Nat) (h0 : Nat) (q0 : Nat) (q1 : Nat) (mo : Int32) (f : Nat → Int32) (x : Int32) (hok0 : ¬ he_within x 0 9 = 0) : he_I l yX10_sums wsX10_sums 1 22 0 0 g [.ref x0, .int x] [(oX10 x0 y0 ta z0 p0 dr pa to_ s0 im ki tr v0 rf), (oX8 s0 h0 a0 b0 e0), (oX4 h0 q0 q1 mo), (aI g q0 24 f)] (fun (r : Int32) (u : Unit) => r = f x.toNatClampNeg) (fun (u : Unit) => [(oX10 x0 y0 ta z0 p0 dr pa to_ s0 im ki tr v0 rf), (oX8 s0 h0 a0 b0 e0), (oX4 h0 q0 q1 mo), (aI g q0 24 f)]) := by
  refine he_begin (l := l) (g := g) (y := yX10_sums) (wl := wsX10_sums) (fr := 1) (lo := 22) (mc := 0) (ms := 0) (av := [.ref x0, .int x]) (ws := [(oX10 x0 y0 ta z0 p0 dr pa to_ s0 im ki tr v0 rf), (oX8 s0 h0 a0 b0 e0), (oX4 h0 q0 q1 mo), (aI g q0 24 f)]) (cc := cX10_sums) (maxL := 2) (ret := (some .int)) (fun A => va_Qi (fun (r : Int32) (u : Unit) => r = f x.toNatClampNeg) (fun u t => he_post g A ((fun (u : Unit) => [(oX10 x0 y0 ta z0 p0 dr pa to_ s0 im ki tr v0 rf), (oX8 s0 h0 a0 b0 e0), (oX4 h0 q0 q1 mo), (aI g q0 24 f)]) u) t) A) (by decide) rfl (Nat.le_of_ble_eq_true rfl) ?_
  intro p e s m args below meth c A ls H locs Q hQ hB
  obtain ⟨hx, hb, hr, hml, hown, hts, hlk, hin, hP, hK, hD, hS, hA, hE, hl⟩ := hB
  have hl : lv_has ls 2 [(0, .ref x0), (1, .int x)] := hl
  have f39 := hts (.fieldLink RX10 39 "HiredEnemy" "scene" "LHiredEnemy$Scene;") (iwoX10_sums (k := 0) rfl)
  have inX10 : ∀ w ∈ wsX100, w ∈ wsX10_sums := innX10_sums_X10
  have f66 := hts (.fieldLink RX10 66 "HiredEnemy$Scene" "course" "LHiredEnemy$Course;") (iwoX10_sums (k := 1) rfl)
  have inX8 : ∀ w ∈ wsX80, w ∈ wsX10_sums := innX10_sums_X8
  have f111 := hts (.fieldLink RX10 111 "HiredEnemy$Course" "now" "[I") (iwoX10_sums (k := 2) rfl)
  have inX4 : ∀ w ∈ wsX40, w ∈ wsX10_sums := innX10_sums_X4
  refine lv_aload_n hx hb dX10_sums_0 rfl (lv_at hl 0 rfl) ?_
  refine lv_iload_n hx hb dX10_sums_1 rfl (lv_at hl 1 rfl) ?_
  refine lv_iconst (v := 0) hx hb dX10_sums_2 (by decide) ?_
  refine lv_bipush (v := 9) hx hb dX10_sums_3 (by decide) ?_
  refine he_ci (wc := []) (wr := [(oX10 x0 y0 ta z0 p0 dr pa to_ s0 im ki tr v0 rf), (oX8 s0 h0 a0 b0 e0), (oX4 h0 q0 q1 mo), (aI g q0 24 f)]) (va_runS (As := [.int x, .int 0, .int 9]) (rest := [.ref x0]) ⟨hx, hb, hml, hown, hts⟩ (c_X10_within l g x 0 9 H.size) (va_cwS 3 hts gX10_sums_X10_within rfl rfl rfl (by decide +kernel) ⟨Nat.le_of_ble_eq_true rfl, Nat.le_of_ble_eq_true rfl⟩) (he_preS (wc := []) hK hP hD hS hA hE [] rfl rfl) rfl rfl hl.1 rfl (lv_room (Nat.le_of_ble_eq_true rfl)) dX10_sums_5 ⟨(Nat.le_of_ble_eq_true rfl), (Nat.le_of_ble_eq_true rfl)⟩) hP hD hS hA [] [0, 1, 2, 3] rfl rfl rfl (by decide) (fun r_1 u_2 H locs h_3 hP hD hS => ?_)
  subst h_3
  have hP : va_P g.1 vwCl [(oX10 x0 y0 ta z0 p0 dr pa to_ s0 im ki tr v0 rf), (oX8 s0 h0 a0 b0 e0), (oX4 h0 q0 q1 mo), (aI g q0 24 f)] H := hP
  have hD : va_D A [(oX10 x0 y0 ta z0 p0 dr pa to_ s0 im ki tr v0 rf), (oX8 s0 h0 a0 b0 e0), (oX4 h0 q0 q1 mo), (aI g q0 24 f)] := hD
  refine he_top (1) (he_within_1 hok0) ?_
  refine he_cv (wc := []) (wr := [(oX10 x0 y0 ta z0 p0 dr pa to_ s0 im ki tr v0 rf), (oX8 s0 h0 a0 b0 e0), (oX4 h0 q0 q1 mo), (aI g q0 24 f)]) (va_runV (As := [.int 1]) (rest := []) ⟨hx, hb, hml, hown, hts⟩ (c_X10_demand1 l g x0 H.size) (cwV 1 hts gX10_sums_X10_demand rfl rfl rfl (by decide +kernel) ⟨Nat.le_of_ble_eq_true rfl, Nat.le_of_ble_eq_true rfl⟩) (he_preV (wc := []) hK hP hD hS hA hE [] rfl rfl 0 rfl rfl) rfl rfl hl.1 rfl (lv_room (Nat.le_of_ble_eq_true rfl)) dX10_sums_8 ⟨(Nat.le_of_ble_eq_true rfl), (Nat.le_of_ble_eq_true rfl)⟩) hP hD hS hA [] [0, 1, 2, 3] rfl rfl rfl (by decide) (fun u_5 H locs h_6 hP hD hS => ?_)
  have hP : va_P g.1 vwCl [(oX10 x0 y0 ta z0 p0 dr pa to_ s0 im ki tr v0 rf), (oX8 s0 h0 a0 b0 e0), (oX4 h0 q0 q1 mo), (aI g q0 24 f)] H := hP
  have hD : va_D A [(oX10 x0 y0 ta z0 p0 dr pa to_ s0 im ki tr v0 rf), (oX8 s0 h0 a0 b0 e0), (oX4 h0 q0 q1 mo), (aI g q0 24 f)] := hD
  refine lv_aload_n hx hb dX10_sums_11 rfl (lv_at hl 0 rfl) ?_
  refine va_get (v := .ref s0) (T := TX10) (N := 13) hx hb hts inX10 hown hK hP 0 rfl rfl 7 (by decide) f39 (fun _ h9 => h9) rfl dX10_sums_12 ?_
  refine va_get (v := .ref h0) (T := TX8) (N := 4) hx hb hts inX8 hown hK hP 1 rfl rfl 0 (by decide) f66 (fun _ h9 => h9) rfl dX10_sums_15 ?_
  refine va_get (v := .ref q0) (T := TX4) (N := 3) hx hb hts inX4 hown hK hP 2 rfl rfl 0 (by decide) f111 (fun _ h9 => h9) rfl dX10_sums_18 ?_
  refine lv_iload_n hx hb dX10_sums_21 rfl (lv_at hl 1 rfl) ?_
  refine he_iald hx hb hK hP 3 rfl (x.toNatClampNeg) (he_within_nat (B := 9) rfl (by decide) hok0).1 (Nat.lt_of_le_of_lt (he_within_nat (B := 9) rfl (by decide) hok0).2 (by decide)) (by first | decide | assumption) (f x.toNatClampNeg) rfl dX10_sums_22 ?_
  exact he_ri hQ hx hb hr hlk hP hD hS dX10_sums_23 (Nat.le_of_ble_eq_true rfl) (Nat.le_of_ble_eq_true rfl) (()) (rfl) (rfl)
set_option maxHeartbeats 4000000 in
set_option maxRecDepth 100000 in
theorem g_X10_would (l : Launch) (g : he_G) (x0 : Nat) (y0 : Nat) (z0 : Nat) (dr : Nat) (pa : Nat) (s0 : Nat) (im : Nat) (tr : Nat) (v0 : Nat) (rf : Nat) (nt : Nat) (ta : Int32) (ki : Int32) (p0 : Nat) (p1 : Nat) (p2 : Nat) (p3 : Nat) (p4 : Nat) (w : Nat) (sd : Nat → Int32) (fn : Nat → Int32) (st : Nat → Int32) (me : Nat → Int32) (a0 : Nat) (b0 : Nat) (e0 : Nat) (h0 : Nat) (q0 : Nat) (q1 : Nat) (mo : Int32) (f : Nat → Int32) (r0 : Nat) (r1 : Nat) (mo1 : Int32) (f1 : Nat → Int32) (sh : Nat → Int32) (n : Nat) (pf : Nat → Option Nat) (t0 : Nat) (t1 : Nat) (t2 : Nat) (pw : Int32) (pd : Nat → Int32) (wb : Nat → Int32) (ck : Nat) (ci : Nat) (x : Int32) (hw6 : w ≤ 6) (hwb : ∀ k, k < 36 → -1 ≤ wb k) (hck : pd 3 = nI ck) (hc99 : ck ≤ 99) (hc7 : ci < 7) (hpf : pf ci = some t0) (hn1 : 1 ≤ n) (hn2 : n ≤ 60) (hci : ci < nt) (hnt : nt ≤ 6) (hok0 : ¬ he_within x 0 9 = 0) : he_I l yX10_would wsX10_would 7 154 0 0 g [.ref x0, .int (nI ci), .int (nI n), .int x] [(oX10 x0 y0 ta z0 p0 dr pa (nI nt) s0 im ki tr v0 rf), (oX4 tr r0 r1 mo1), (aI g r0 24 f1), (aI g r1 6 sh), (oX6 p0 p1 p2 p3 p4 (nI w)), (aI g p1 24 sd), (aI g p2 10 fn), (aI g p3 6 st), (aI g p4 6 me), (aP g pa 7 pf), (oX5 t0 t1 t2 pw), (aI g t1 6 pd), (aI g t2 36 wb), (oX8 s0 h0 a0 b0 e0), (oX4 h0 q0 q1 mo), (aI g q0 24 f)] (fun (r : Int32) (u : Int32 × (Nat → Int32) × (Nat → Int32)) => True) (fun (u : Int32 × (Nat → Int32) × (Nat → Int32)) => [(oX10 x0 y0 ta z0 p0 dr pa (nI nt) s0 im ki tr v0 rf), (oX4 tr r0 r1 u.1), (aI g r0 24 u.2.1), (aI g r1 6 u.2.2), (oX6 p0 p1 p2 p3 p4 (nI w)), (aI g p1 24 sd), (aI g p2 10 fn), (aI g p3 6 st), (aI g p4 6 me), (aP g pa 7 pf), (oX5 t0 t1 t2 pw), (aI g t1 6 pd), (aI g t2 36 wb), (oX8 s0 h0 a0 b0 e0), (oX4 h0 q0 q1 mo), (aI g q0 24 f)]) := by
  refine he_begin (l := l) (g := g) (y := yX10_would) (wl := wsX10_would) (fr := 7) (lo := 154) (mc := 0) (ms := 0) (av := [.ref x0, .int (nI ci), .int (nI n), .int x]) (ws := [(oX10 x0 y0 ta z0 p0 dr pa (nI nt) s0 im ki tr v0 rf), (oX4 tr r0 r1 mo1), (aI g r0 24 f1), (aI g r1 6 sh), (oX6 p0 p1 p2 p3 p4 (nI w)), (aI g p1 24 sd), (aI g p2 10 fn), (aI g p3 6 st), (aI g p4 6 me), (aP g pa 7 pf), (oX5 t0 t1 t2 pw), (aI g t1 6 pd), (aI g t2 36 wb), (oX8 s0 h0 a0 b0 e0), (oX4 h0 q0 q1 mo), (aI g q0 24 f)]) (cc := cX10_would) (maxL := 4) (ret := (some .int)) (fun A => va_Qi (fun (r : Int32) (u : Int32 × (Nat → Int32) × (Nat → Int32)) => True) (fun u t => he_post g A ((fun (u : Int32 × (Nat → Int32) × (Nat → Int32)) => [(oX10 x0 y0 ta z0 p0 dr pa (nI nt) s0 im ki tr v0 rf), (oX4 tr r0 r1 u.1), (aI g r0 24 u.2.1), (aI g r1 6 u.2.2), (oX6 p0 p1 p2 p3 p4 (nI w)), (aI g p1 24 sd), (aI g p2 10 fn), (aI g p3 6 st), (aI g p4 6 me), (aP g pa 7 pf), (oX5 t0 t1 t2 pw), (aI g t1 6 pd), (aI g t2 36 wb), (oX8 s0 h0 a0 b0 e0), (oX4 h0 q0 q1 mo), (aI g q0 24 f)]) u) t) A) (by decide) rfl (Nat.le_of_ble_eq_true rfl) ?_
  intro p e s m args below meth c A ls H locs Q hQ hB
  obtain ⟨hx, hb, hr, hml, hown, hts, hlk, hin, hP, hK, hD, hS, hA, hE, hl⟩ := hB
  have hl : lv_has ls 4 [(0, .ref x0), (1, .int (nI ci)), (2, .int (nI n)), (3, .int x)] := hl
  have f50 := hts (.fieldLink RX10 50 "HiredEnemy" "trial" "LHiredEnemy$Course;") (iwoX10_would (k := 0) rfl)
  have inX10 : ∀ w ∈ wsX100, w ∈ wsX10_would := innX10_would_X10
  have f111 := hts (.fieldLink RX10 111 "HiredEnemy$Course" "now" "[I") (iwoX10_would (k := 1) rfl)
  have inX4 : ∀ w ∈ wsX40, w ∈ wsX10_would := innX10_would_X4
  refine lv_aload_n hx hb dX10_would_0 rfl (lv_at hl 0 rfl) ?_
  refine lv_iload_n hx hb dX10_would_1 rfl (lv_at hl 1 rfl) ?_
  refine he_cv (wc := [(oX10 x0 y0 ta z0 p0 dr pa (nI nt) s0 im ki tr v0 rf)]) (wr := [(oX4 tr r0 r1 mo1), (aI g r0 24 f1), (aI g r1 6 sh), (oX6 p0 p1 p2 p3 p4 (nI w)), (aI g p1 24 sd), (aI g p2 10 fn), (aI g p3 6 st), (aI g p4 6 me), (aP g pa 7 pf), (oX5 t0 t1 t2 pw), (aI g t1 6 pd), (aI g t2 36 wb), (oX8 s0 h0 a0 b0 e0), (oX4 h0 q0 q1 mo), (aI g q0 24 f)]) (va_runV (As := [.int (nI ci)]) (rest := []) ⟨hx, hb, hml, hown, hts⟩ (g_X10_demandCN1 l g x0 y0 z0 p0 dr pa s0 im tr v0 rf ta (nI nt) ki (nI ci) (wall_in hci (by omega)) (nI_nm1 (by omega)) H.size) (cwV 1 hts gX10_would_X10_demandContractOrNone rfl rfl rfl (by decide +kernel) ⟨Nat.le_of_ble_eq_true rfl, Nat.le_of_ble_eq_true rfl⟩) (he_preV (wc := [(oX10 x0 y0 ta z0 p0 dr pa (nI nt) s0 im ki tr v0 rf)]) hK hP hD hS hA hE [0] rfl rfl 0 rfl rfl) rfl rfl hl.1 rfl (lv_room (Nat.le_of_ble_eq_true rfl)) dX10_would_2 ⟨(Nat.le_of_ble_eq_true rfl), (Nat.le_of_ble_eq_true rfl)⟩) hP hD hS hA [0] [1, 2, 3, 4, 5, 6, 7, 8, 9, 10, 11, 12, 13, 14, 15] rfl rfl rfl (by decide) (fun u_2 H locs h_3 hP hD hS => ?_)
  have hP : va_P g.1 vwCl [(oX4 tr r0 r1 mo1), (aI g r0 24 f1), (aI g r1 6 sh), (oX6 p0 p1 p2 p3 p4 (nI w)), (aI g p1 24 sd), (aI g p2 10 fn), (aI g p3 6 st), (aI g p4 6 me), (aP g pa 7 pf), (oX5 t0 t1 t2 pw), (aI g t1 6 pd), (aI g t2 36 wb), (oX8 s0 h0 a0 b0 e0), (oX4 h0 q0 q1 mo), (aI g q0 24 f), (oX10 x0 y0 ta z0 p0 dr pa (nI nt) s0 im ki tr v0 rf)] H := hP
  have hD : va_D A [(oX4 tr r0 r1 mo1), (aI g r0 24 f1), (aI g r1 6 sh), (oX6 p0 p1 p2 p3 p4 (nI w)), (aI g p1 24 sd), (aI g p2 10 fn), (aI g p3 6 st), (aI g p4 6 me), (aP g pa 7 pf), (oX5 t0 t1 t2 pw), (aI g t1 6 pd), (aI g t2 36 wb), (oX8 s0 h0 a0 b0 e0), (oX4 h0 q0 q1 mo), (aI g q0 24 f), (oX10 x0 y0 ta z0 p0 dr pa (nI nt) s0 im ki tr v0 rf)] := hD
  refine lv_aload_n hx hb dX10_would_5 rfl (lv_at hl 0 rfl) ?_
  refine lv_iload_n hx hb dX10_would_6 rfl (lv_at hl 2 rfl) ?_
  refine lv_iconst (v := 1) hx hb dX10_would_7 (by decide) ?_
  refine lv_bipush (v := 60) hx hb dX10_would_8 (by decide) ?_
  refine he_ci (wc := []) (wr := [(oX4 tr r0 r1 mo1), (aI g r0 24 f1), (aI g r1 6 sh), (oX6 p0 p1 p2 p3 p4 (nI w)), (aI g p1 24 sd), (aI g p2 10 fn), (aI g p3 6 st), (aI g p4 6 me), (aP g pa 7 pf), (oX5 t0 t1 t2 pw), (aI g t1 6 pd), (aI g t2 36 wb), (oX8 s0 h0 a0 b0 e0), (oX4 h0 q0 q1 mo), (aI g q0 24 f), (oX10 x0 y0 ta z0 p0 dr pa (nI nt) s0 im ki tr v0 rf)]) (va_runS (As := [.int (nI n), .int 1, .int 60]) (rest := [.ref x0]) ⟨hx, hb, hml, hown, hts⟩ (c_X10_within l g (nI n) 1 60 H.size) (va_cwS 3 hts gX10_would_X10_within rfl rfl rfl (by decide +kernel) ⟨Nat.le_of_ble_eq_true rfl, Nat.le_of_ble_eq_true rfl⟩) (he_preS (wc := []) hK hP hD hS hA hE [] rfl rfl) rfl rfl hl.1 rfl (lv_room (Nat.le_of_ble_eq_true rfl)) dX10_would_10 ⟨(Nat.le_of_ble_eq_true rfl), (Nat.le_of_ble_eq_true rfl)⟩) hP hD hS hA [] [0, 1, 2, 3, 4, 5, 6, 7, 8, 9, 10, 11, 12, 13, 14, 15] rfl rfl rfl (by decide) (fun r_4 u_5 H locs h_6 hP hD hS => ?_)
  subst h_6
  have hP : va_P g.1 vwCl [(oX4 tr r0 r1 mo1), (aI g r0 24 f1), (aI g r1 6 sh), (oX6 p0 p1 p2 p3 p4 (nI w)), (aI g p1 24 sd), (aI g p2 10 fn), (aI g p3 6 st), (aI g p4 6 me), (aP g pa 7 pf), (oX5 t0 t1 t2 pw), (aI g t1 6 pd), (aI g t2 36 wb), (oX8 s0 h0 a0 b0 e0), (oX4 h0 q0 q1 mo), (aI g q0 24 f), (oX10 x0 y0 ta z0 p0 dr pa (nI nt) s0 im ki tr v0 rf)] H := hP
  have hD : va_D A [(oX4 tr r0 r1 mo1), (aI g r0 24 f1), (aI g r1 6 sh), (oX6 p0 p1 p2 p3 p4 (nI w)), (aI g p1 24 sd), (aI g p2 10 fn), (aI g p3 6 st), (aI g p4 6 me), (aP g pa 7 pf), (oX5 t0 t1 t2 pw), (aI g t1 6 pd), (aI g t2 36 wb), (oX8 s0 h0 a0 b0 e0), (oX4 h0 q0 q1 mo), (aI g q0 24 f), (oX10 x0 y0 ta z0 p0 dr pa (nI nt) s0 im ki tr v0 rf)] := hD
  refine he_top (1) (he_within_in (a0 := 1) (B := 60) rfl rfl (by omega) (by omega) (by decide)) ?_
  refine lv_if_eq (tgt := 30) hx hb dX10_would_13 (by decide) (fun c_7 => ?_) (fun c_7 => ?_)
  · exact absurd c_7 (by decide)
  · refine lv_iload_n hx hb dX10_would_16 rfl (lv_at hl 3 rfl) ?_
    refine lv_iconst (v := 0) hx hb dX10_would_17 (by decide) ?_
    refine lv_bipush (v := 9) hx hb dX10_would_18 (by decide) ?_
    refine he_ci (wc := []) (wr := [(oX4 tr r0 r1 mo1), (aI g r0 24 f1), (aI g r1 6 sh), (oX6 p0 p1 p2 p3 p4 (nI w)), (aI g p1 24 sd), (aI g p2 10 fn), (aI g p3 6 st), (aI g p4 6 me), (aP g pa 7 pf), (oX5 t0 t1 t2 pw), (aI g t1 6 pd), (aI g t2 36 wb), (oX8 s0 h0 a0 b0 e0), (oX4 h0 q0 q1 mo), (aI g q0 24 f), (oX10 x0 y0 ta z0 p0 dr pa (nI nt) s0 im ki tr v0 rf)]) (va_runS (As := [.int x, .int 0, .int 9]) (rest := [.ref x0]) ⟨hx, hb, hml, hown, hts⟩ (c_X10_within l g x 0 9 H.size) (va_cwS 3 hts gX10_would_X10_within rfl rfl rfl (by decide +kernel) ⟨Nat.le_of_ble_eq_true rfl, Nat.le_of_ble_eq_true rfl⟩) (he_preS (wc := []) hK hP hD hS hA hE [] rfl rfl) rfl rfl hl.1 rfl (lv_room (Nat.le_of_ble_eq_true rfl)) dX10_would_20 ⟨(Nat.le_of_ble_eq_true rfl), (Nat.le_of_ble_eq_true rfl)⟩) hP hD hS hA [] [0, 1, 2, 3, 4, 5, 6, 7, 8, 9, 10, 11, 12, 13, 14, 15] rfl rfl rfl (by decide) (fun r_8 u_9 H locs h_10 hP hD hS => ?_)
    subst h_10
    have hP : va_P g.1 vwCl [(oX4 tr r0 r1 mo1), (aI g r0 24 f1), (aI g r1 6 sh), (oX6 p0 p1 p2 p3 p4 (nI w)), (aI g p1 24 sd), (aI g p2 10 fn), (aI g p3 6 st), (aI g p4 6 me), (aP g pa 7 pf), (oX5 t0 t1 t2 pw), (aI g t1 6 pd), (aI g t2 36 wb), (oX8 s0 h0 a0 b0 e0), (oX4 h0 q0 q1 mo), (aI g q0 24 f), (oX10 x0 y0 ta z0 p0 dr pa (nI nt) s0 im ki tr v0 rf)] H := hP
    have hD : va_D A [(oX4 tr r0 r1 mo1), (aI g r0 24 f1), (aI g r1 6 sh), (oX6 p0 p1 p2 p3 p4 (nI w)), (aI g p1 24 sd), (aI g p2 10 fn), (aI g p3 6 st), (aI g p4 6 me), (aP g pa 7 pf), (oX5 t0 t1 t2 pw), (aI g t1 6 pd), (aI g t2 36 wb), (oX8 s0 h0 a0 b0 e0), (oX4 h0 q0 q1 mo), (aI g q0 24 f), (oX10 x0 y0 ta z0 p0 dr pa (nI nt) s0 im ki tr v0 rf)] := hD
    refine he_top (1) (he_within_1 hok0) ?_
    refine lv_if_eq (tgt := 30) hx hb dX10_would_23 (by decide) (fun c_11 => ?_) (fun c_11 => ?_)
    · exact absurd c_11 (by decide)
    · refine lv_iconst (v := 1) hx hb dX10_would_26 (by decide) ?_
      refine lv_goto (tgt := 31) hx hb dX10_would_27 (by decide) ?_
      refine he_cv (wc := []) (wr := [(oX4 tr r0 r1 mo1), (aI g r0 24 f1), (aI g r1 6 sh), (oX6 p0 p1 p2 p3 p4 (nI w)), (aI g p1 24 sd), (aI g p2 10 fn), (aI g p3 6 st), (aI g p4 6 me), (aP g pa 7 pf), (oX5 t0 t1 t2 pw), (aI g t1 6 pd), (aI g t2 36 wb), (oX8 s0 h0 a0 b0 e0), (oX4 h0 q0 q1 mo), (aI g q0 24 f), (oX10 x0 y0 ta z0 p0 dr pa (nI nt) s0 im ki tr v0 rf)]) (va_runV (As := [.int 1]) (rest := []) ⟨hx, hb, hml, hown, hts⟩ (c_X10_demand1 l g x0 H.size) (cwV 1 hts gX10_would_X10_demand rfl rfl rfl (by decide +kernel) ⟨Nat.le_of_ble_eq_true rfl, Nat.le_of_ble_eq_true rfl⟩) (he_preV (wc := []) hK hP hD hS hA hE [] rfl rfl 15 rfl rfl) rfl rfl hl.1 rfl (lv_room (Nat.le_of_ble_eq_true rfl)) dX10_would_31 ⟨(Nat.le_of_ble_eq_true rfl), (Nat.le_of_ble_eq_true rfl)⟩) hP hD hS hA [] [0, 1, 2, 3, 4, 5, 6, 7, 8, 9, 10, 11, 12, 13, 14, 15] rfl rfl rfl (by decide) (fun u_13 H locs h_14 hP hD hS => ?_)
      have hP : va_P g.1 vwCl [(oX4 tr r0 r1 mo1), (aI g r0 24 f1), (aI g r1 6 sh), (oX6 p0 p1 p2 p3 p4 (nI w)), (aI g p1 24 sd), (aI g p2 10 fn), (aI g p3 6 st), (aI g p4 6 me), (aP g pa 7 pf), (oX5 t0 t1 t2 pw), (aI g t1 6 pd), (aI g t2 36 wb), (oX8 s0 h0 a0 b0 e0), (oX4 h0 q0 q1 mo), (aI g q0 24 f), (oX10 x0 y0 ta z0 p0 dr pa (nI nt) s0 im ki tr v0 rf)] H := hP
      have hD : va_D A [(oX4 tr r0 r1 mo1), (aI g r0 24 f1), (aI g r1 6 sh), (oX6 p0 p1 p2 p3 p4 (nI w)), (aI g p1 24 sd), (aI g p2 10 fn), (aI g p3 6 st), (aI g p4 6 me), (aP g pa 7 pf), (oX5 t0 t1 t2 pw), (aI g t1 6 pd), (aI g t2 36 wb), (oX8 s0 h0 a0 b0 e0), (oX4 h0 q0 q1 mo), (aI g q0 24 f), (oX10 x0 y0 ta z0 p0 dr pa (nI nt) s0 im ki tr v0 rf)] := hD
      refine lv_aload_n hx hb dX10_would_34 rfl (lv_at hl 0 rfl) ?_
      refine lv_iload_n hx hb dX10_would_35 rfl (lv_at hl 1 rfl) ?_
      refine lv_iload_n hx hb dX10_would_36 rfl (lv_at hl 2 rfl) ?_
      refine he_ci (wc := [(oX10 x0 y0 ta z0 p0 dr pa (nI nt) s0 im ki tr v0 rf), (oX4 tr r0 r1 mo1), (aI g r0 24 f1), (aI g r1 6 sh), (oX6 p0 p1 p2 p3 p4 (nI w)), (aI g p1 24 sd), (aI g p2 10 fn), (aI g p3 6 st), (aI g p4 6 me), (aP g pa 7 pf), (oX5 t0 t1 t2 pw), (aI g t1 6 pd), (aI g t2 36 wb), (oX8 s0 h0 a0 b0 e0), (oX4 h0 q0 q1 mo), (aI g q0 24 f)]) (wr := []) (va_runV (As := [.int (nI ci), .int (nI n)]) (rest := []) ⟨hx, hb, hml, hown, hts⟩ (g_X10_trySigned l g x0 y0 z0 dr pa s0 im tr v0 rf ta (nI nt) ki p0 p1 p2 p3 p4 w sd fn st me a0 b0 e0 h0 q0 q1 mo f r0 r1 mo1 f1 sh n pf t0 t1 t2 pw pd wb ck ci (by first | assumption | decide | omega) (by first | assumption | decide | omega) (by first | assumption | decide | omega) (by first | assumption | decide | omega) (by first | assumption | decide | omega) (by first | assumption | decide | omega) hn2 H.size) (cwV 2 hts gX10_would_X10_trySigned rfl rfl rfl (by decide +kernel) ⟨Nat.le_of_ble_eq_true rfl, Nat.le_of_ble_eq_true rfl⟩) (he_preV (wc := [(oX10 x0 y0 ta z0 p0 dr pa (nI nt) s0 im ki tr v0 rf), (oX4 tr r0 r1 mo1), (aI g r0 24 f1), (aI g r1 6 sh), (oX6 p0 p1 p2 p3 p4 (nI w)), (aI g p1 24 sd), (aI g p2 10 fn), (aI g p3 6 st), (aI g p4 6 me), (aP g pa 7 pf), (oX5 t0 t1 t2 pw), (aI g t1 6 pd), (aI g t2 36 wb), (oX8 s0 h0 a0 b0 e0), (oX4 h0 q0 q1 mo), (aI g q0 24 f)]) hK hP hD hS hA hE [15, 0, 1, 2, 3, 4, 5, 6, 7, 8, 9, 10, 11, 12, 13, 14] rfl rfl 15 rfl rfl) rfl rfl hl.1 rfl (lv_room (Nat.le_of_ble_eq_true rfl)) dX10_would_37 ⟨(Nat.le_of_ble_eq_true rfl), (Nat.le_of_ble_eq_true rfl)⟩) hP hD hS hA [15, 0, 1, 2, 3, 4, 5, 6, 7, 8, 9, 10, 11, 12, 13, 14] [] rfl rfl rfl (by decide) (fun r_15 u_16 H locs h_17 hP hD hS => ?_)
      obtain ⟨um_18, uf_19, us_20⟩ := u_16
      have hP : va_P g.1 vwCl [(oX10 x0 y0 ta z0 p0 dr pa (nI nt) s0 im ki tr v0 rf), (oX4 tr r0 r1 um_18), (aI g r0 24 uf_19), (aI g r1 6 us_20), (oX6 p0 p1 p2 p3 p4 (nI w)), (aI g p1 24 sd), (aI g p2 10 fn), (aI g p3 6 st), (aI g p4 6 me), (aP g pa 7 pf), (oX5 t0 t1 t2 pw), (aI g t1 6 pd), (aI g t2 36 wb), (oX8 s0 h0 a0 b0 e0), (oX4 h0 q0 q1 mo), (aI g q0 24 f)] H := hP
      have hD : va_D A [(oX10 x0 y0 ta z0 p0 dr pa (nI nt) s0 im ki tr v0 rf), (oX4 tr r0 r1 um_18), (aI g r0 24 uf_19), (aI g r1 6 us_20), (oX6 p0 p1 p2 p3 p4 (nI w)), (aI g p1 24 sd), (aI g p2 10 fn), (aI g p3 6 st), (aI g p4 6 me), (aP g pa 7 pf), (oX5 t0 t1 t2 pw), (aI g t1 6 pd), (aI g t2 36 wb), (oX8 s0 h0 a0 b0 e0), (oX4 h0 q0 q1 mo), (aI g q0 24 f)] := hD
      refine lv_pop hx hb dX10_would_40 rfl ?_
      refine lv_aload_n hx hb dX10_would_41 rfl (lv_at hl 0 rfl) ?_
      refine va_get (v := .ref tr) (T := TX10) (N := 13) hx hb hts inX10 hown hK hP 0 rfl rfl 10 (by decide) f50 (fun _ h9 => h9) rfl dX10_would_42 ?_
      refine va_get (v := .ref r0) (T := TX4) (N := 3) hx hb hts inX4 hown hK hP 1 rfl rfl 0 (by decide) f111 (fun _ h9 => h9) rfl dX10_would_45 ?_
      refine lv_iload_n hx hb dX10_would_48 rfl (lv_at hl 3 rfl) ?_
      refine he_iald hx hb hK hP 2 rfl (x.toNatClampNeg) (he_within_nat (B := 9) rfl (by decide) hok0).1 (Nat.lt_of_le_of_lt (he_within_nat (B := 9) rfl (by decide) hok0).2 (by decide)) (by first | decide | assumption) (uf_19 x.toNatClampNeg) rfl dX10_would_49 ?_
      exact he_ri hQ hx hb hr hlk hP hD hS dX10_would_50 (Nat.le_of_ble_eq_true rfl) (Nat.le_of_ble_eq_true rfl) ((um_18, uf_19, us_20)) (rfl) (trivial)
set_option maxHeartbeats 4000000 in
set_option maxRecDepth 100000 in
theorem g_X10_wouldN (l : Launch) (g : he_G) (x0 : Nat) (y0 : Nat) (z0 : Nat) (dr : Nat) (pa : Nat) (s0 : Nat) (im : Nat) (tr : Nat) (v0 : Nat) (rf : Nat) (ta : Int32) (to_ : Int32) (ki : Int32) (p0 : Nat) (p1 : Nat) (p2 : Nat) (p3 : Nat) (p4 : Nat) (w : Nat) (sd : Nat → Int32) (st : Nat → Int32) (me : Nat → Int32) (a0 : Nat) (b0 : Nat) (e0 : Nat) (h0 : Nat) (q0 : Nat) (q1 : Nat) (mo : Int32) (f : Nat → Int32) (r0 : Nat) (r1 : Nat) (mo1 : Int32) (f1 : Nat → Int32) (sh : Nat → Int32) (n : Nat) (x : Int32) (hw6 : w ≤ 6) (hn1 : 1 ≤ n) (hn2 : n ≤ 60) (hok0 : ¬ he_within x 0 9 = 0) : he_I l yX10_would wsX10_would 6 127 0 0 g [.ref x0, .int (-1), .int (nI n), .int x] [(oX10 x0 y0 ta z0 p0 dr pa to_ s0 im ki tr v0 rf), (oX4 tr r0 r1 mo1), (aI g r0 24 f1), (aI g r1 6 sh), (oX6 p0 p1 p2 p3 p4 (nI w)), (aI g p1 24 sd), (aI g p3 6 st), (aI g p4 6 me), (oX8 s0 h0 a0 b0 e0), (oX4 h0 q0 q1 mo), (aI g q0 24 f)] (fun (r : Int32) (u : Int32 × (Nat → Int32) × (Nat → Int32)) => True) (fun (u : Int32 × (Nat → Int32) × (Nat → Int32)) => [(oX10 x0 y0 ta z0 p0 dr pa to_ s0 im ki tr v0 rf), (oX4 tr r0 r1 u.1), (aI g r0 24 u.2.1), (aI g r1 6 u.2.2), (oX6 p0 p1 p2 p3 p4 (nI w)), (aI g p1 24 sd), (aI g p3 6 st), (aI g p4 6 me), (oX8 s0 h0 a0 b0 e0), (oX4 h0 q0 q1 mo), (aI g q0 24 f)]) := by
  refine he_begin (l := l) (g := g) (y := yX10_would) (wl := wsX10_would) (fr := 6) (lo := 127) (mc := 0) (ms := 0) (av := [.ref x0, .int (-1), .int (nI n), .int x]) (ws := [(oX10 x0 y0 ta z0 p0 dr pa to_ s0 im ki tr v0 rf), (oX4 tr r0 r1 mo1), (aI g r0 24 f1), (aI g r1 6 sh), (oX6 p0 p1 p2 p3 p4 (nI w)), (aI g p1 24 sd), (aI g p3 6 st), (aI g p4 6 me), (oX8 s0 h0 a0 b0 e0), (oX4 h0 q0 q1 mo), (aI g q0 24 f)]) (cc := cX10_would) (maxL := 4) (ret := (some .int)) (fun A => va_Qi (fun (r : Int32) (u : Int32 × (Nat → Int32) × (Nat → Int32)) => True) (fun u t => he_post g A ((fun (u : Int32 × (Nat → Int32) × (Nat → Int32)) => [(oX10 x0 y0 ta z0 p0 dr pa to_ s0 im ki tr v0 rf), (oX4 tr r0 r1 u.1), (aI g r0 24 u.2.1), (aI g r1 6 u.2.2), (oX6 p0 p1 p2 p3 p4 (nI w)), (aI g p1 24 sd), (aI g p3 6 st), (aI g p4 6 me), (oX8 s0 h0 a0 b0 e0), (oX4 h0 q0 q1 mo), (aI g q0 24 f)]) u) t) A) (by decide) rfl (Nat.le_of_ble_eq_true rfl) ?_
  intro p e s m args below meth c A ls H locs Q hQ hB
  obtain ⟨hx, hb, hr, hml, hown, hts, hlk, hin, hP, hK, hD, hS, hA, hE, hl⟩ := hB
  have hl : lv_has ls 4 [(0, .ref x0), (1, .int (-1)), (2, .int (nI n)), (3, .int x)] := hl
  have f50 := hts (.fieldLink RX10 50 "HiredEnemy" "trial" "LHiredEnemy$Course;") (iwoX10_would (k := 0) rfl)
  have inX10 : ∀ w ∈ wsX100, w ∈ wsX10_would := innX10_would_X10
  have f111 := hts (.fieldLink RX10 111 "HiredEnemy$Course" "now" "[I") (iwoX10_would (k := 1) rfl)
  have inX4 : ∀ w ∈ wsX40, w ∈ wsX10_would := innX10_would_X4
  refine lv_aload_n hx hb dX10_would_0 rfl (lv_at hl 0 rfl) ?_
  refine lv_iload_n hx hb dX10_would_1 rfl (lv_at hl 1 rfl) ?_
  refine he_cv (wc := []) (wr := [(oX10 x0 y0 ta z0 p0 dr pa to_ s0 im ki tr v0 rf), (oX4 tr r0 r1 mo1), (aI g r0 24 f1), (aI g r1 6 sh), (oX6 p0 p1 p2 p3 p4 (nI w)), (aI g p1 24 sd), (aI g p3 6 st), (aI g p4 6 me), (oX8 s0 h0 a0 b0 e0), (oX4 h0 q0 q1 mo), (aI g q0 24 f)]) (va_runV (As := [.int (-1)]) (rest := []) ⟨hx, hb, hml, hown, hts⟩ (g_X10_demandCNn l g x0 H.size) (cwV 1 hts gX10_would_X10_demandContractOrNone rfl rfl rfl (by decide +kernel) ⟨Nat.le_of_ble_eq_true rfl, Nat.le_of_ble_eq_true rfl⟩) (he_preV (wc := []) hK hP hD hS hA hE [] rfl rfl 0 rfl rfl) rfl rfl hl.1 rfl (lv_room (Nat.le_of_ble_eq_true rfl)) dX10_would_2 ⟨(Nat.le_of_ble_eq_true rfl), (Nat.le_of_ble_eq_true rfl)⟩) hP hD hS hA [] [0, 1, 2, 3, 4, 5, 6, 7, 8, 9, 10] rfl rfl rfl (by decide) (fun u_2 H locs h_3 hP hD hS => ?_)
  have hP : va_P g.1 vwCl [(oX10 x0 y0 ta z0 p0 dr pa to_ s0 im ki tr v0 rf), (oX4 tr r0 r1 mo1), (aI g r0 24 f1), (aI g r1 6 sh), (oX6 p0 p1 p2 p3 p4 (nI w)), (aI g p1 24 sd), (aI g p3 6 st), (aI g p4 6 me), (oX8 s0 h0 a0 b0 e0), (oX4 h0 q0 q1 mo), (aI g q0 24 f)] H := hP
  have hD : va_D A [(oX10 x0 y0 ta z0 p0 dr pa to_ s0 im ki tr v0 rf), (oX4 tr r0 r1 mo1), (aI g r0 24 f1), (aI g r1 6 sh), (oX6 p0 p1 p2 p3 p4 (nI w)), (aI g p1 24 sd), (aI g p3 6 st), (aI g p4 6 me), (oX8 s0 h0 a0 b0 e0), (oX4 h0 q0 q1 mo), (aI g q0 24 f)] := hD
  refine lv_aload_n hx hb dX10_would_5 rfl (lv_at hl 0 rfl) ?_
  refine lv_iload_n hx hb dX10_would_6 rfl (lv_at hl 2 rfl) ?_
  refine lv_iconst (v := 1) hx hb dX10_would_7 (by decide) ?_
  refine lv_bipush (v := 60) hx hb dX10_would_8 (by decide) ?_
  refine he_ci (wc := []) (wr := [(oX10 x0 y0 ta z0 p0 dr pa to_ s0 im ki tr v0 rf), (oX4 tr r0 r1 mo1), (aI g r0 24 f1), (aI g r1 6 sh), (oX6 p0 p1 p2 p3 p4 (nI w)), (aI g p1 24 sd), (aI g p3 6 st), (aI g p4 6 me), (oX8 s0 h0 a0 b0 e0), (oX4 h0 q0 q1 mo), (aI g q0 24 f)]) (va_runS (As := [.int (nI n), .int 1, .int 60]) (rest := [.ref x0]) ⟨hx, hb, hml, hown, hts⟩ (c_X10_within l g (nI n) 1 60 H.size) (va_cwS 3 hts gX10_would_X10_within rfl rfl rfl (by decide +kernel) ⟨Nat.le_of_ble_eq_true rfl, Nat.le_of_ble_eq_true rfl⟩) (he_preS (wc := []) hK hP hD hS hA hE [] rfl rfl) rfl rfl hl.1 rfl (lv_room (Nat.le_of_ble_eq_true rfl)) dX10_would_10 ⟨(Nat.le_of_ble_eq_true rfl), (Nat.le_of_ble_eq_true rfl)⟩) hP hD hS hA [] [0, 1, 2, 3, 4, 5, 6, 7, 8, 9, 10] rfl rfl rfl (by decide) (fun r_4 u_5 H locs h_6 hP hD hS => ?_)
  subst h_6
  have hP : va_P g.1 vwCl [(oX10 x0 y0 ta z0 p0 dr pa to_ s0 im ki tr v0 rf), (oX4 tr r0 r1 mo1), (aI g r0 24 f1), (aI g r1 6 sh), (oX6 p0 p1 p2 p3 p4 (nI w)), (aI g p1 24 sd), (aI g p3 6 st), (aI g p4 6 me), (oX8 s0 h0 a0 b0 e0), (oX4 h0 q0 q1 mo), (aI g q0 24 f)] H := hP
  have hD : va_D A [(oX10 x0 y0 ta z0 p0 dr pa to_ s0 im ki tr v0 rf), (oX4 tr r0 r1 mo1), (aI g r0 24 f1), (aI g r1 6 sh), (oX6 p0 p1 p2 p3 p4 (nI w)), (aI g p1 24 sd), (aI g p3 6 st), (aI g p4 6 me), (oX8 s0 h0 a0 b0 e0), (oX4 h0 q0 q1 mo), (aI g q0 24 f)] := hD
  refine he_top (1) (he_within_in (a0 := 1) (B := 60) rfl rfl (by omega) (by omega) (by decide)) ?_
  refine lv_if_eq (tgt := 30) hx hb dX10_would_13 (by decide) (fun c_7 => ?_) (fun c_7 => ?_)
  · exact absurd c_7 (by decide)
  · refine lv_iload_n hx hb dX10_would_16 rfl (lv_at hl 3 rfl) ?_
    refine lv_iconst (v := 0) hx hb dX10_would_17 (by decide) ?_
    refine lv_bipush (v := 9) hx hb dX10_would_18 (by decide) ?_
    refine he_ci (wc := []) (wr := [(oX10 x0 y0 ta z0 p0 dr pa to_ s0 im ki tr v0 rf), (oX4 tr r0 r1 mo1), (aI g r0 24 f1), (aI g r1 6 sh), (oX6 p0 p1 p2 p3 p4 (nI w)), (aI g p1 24 sd), (aI g p3 6 st), (aI g p4 6 me), (oX8 s0 h0 a0 b0 e0), (oX4 h0 q0 q1 mo), (aI g q0 24 f)]) (va_runS (As := [.int x, .int 0, .int 9]) (rest := [.ref x0]) ⟨hx, hb, hml, hown, hts⟩ (c_X10_within l g x 0 9 H.size) (va_cwS 3 hts gX10_would_X10_within rfl rfl rfl (by decide +kernel) ⟨Nat.le_of_ble_eq_true rfl, Nat.le_of_ble_eq_true rfl⟩) (he_preS (wc := []) hK hP hD hS hA hE [] rfl rfl) rfl rfl hl.1 rfl (lv_room (Nat.le_of_ble_eq_true rfl)) dX10_would_20 ⟨(Nat.le_of_ble_eq_true rfl), (Nat.le_of_ble_eq_true rfl)⟩) hP hD hS hA [] [0, 1, 2, 3, 4, 5, 6, 7, 8, 9, 10] rfl rfl rfl (by decide) (fun r_8 u_9 H locs h_10 hP hD hS => ?_)
    subst h_10
    have hP : va_P g.1 vwCl [(oX10 x0 y0 ta z0 p0 dr pa to_ s0 im ki tr v0 rf), (oX4 tr r0 r1 mo1), (aI g r0 24 f1), (aI g r1 6 sh), (oX6 p0 p1 p2 p3 p4 (nI w)), (aI g p1 24 sd), (aI g p3 6 st), (aI g p4 6 me), (oX8 s0 h0 a0 b0 e0), (oX4 h0 q0 q1 mo), (aI g q0 24 f)] H := hP
    have hD : va_D A [(oX10 x0 y0 ta z0 p0 dr pa to_ s0 im ki tr v0 rf), (oX4 tr r0 r1 mo1), (aI g r0 24 f1), (aI g r1 6 sh), (oX6 p0 p1 p2 p3 p4 (nI w)), (aI g p1 24 sd), (aI g p3 6 st), (aI g p4 6 me), (oX8 s0 h0 a0 b0 e0), (oX4 h0 q0 q1 mo), (aI g q0 24 f)] := hD
    refine he_top (1) (he_within_1 hok0) ?_
    refine lv_if_eq (tgt := 30) hx hb dX10_would_23 (by decide) (fun c_11 => ?_) (fun c_11 => ?_)
    · exact absurd c_11 (by decide)
    · refine lv_iconst (v := 1) hx hb dX10_would_26 (by decide) ?_
      refine lv_goto (tgt := 31) hx hb dX10_would_27 (by decide) ?_
      refine he_cv (wc := []) (wr := [(oX10 x0 y0 ta z0 p0 dr pa to_ s0 im ki tr v0 rf), (oX4 tr r0 r1 mo1), (aI g r0 24 f1), (aI g r1 6 sh), (oX6 p0 p1 p2 p3 p4 (nI w)), (aI g p1 24 sd), (aI g p3 6 st), (aI g p4 6 me), (oX8 s0 h0 a0 b0 e0), (oX4 h0 q0 q1 mo), (aI g q0 24 f)]) (va_runV (As := [.int 1]) (rest := []) ⟨hx, hb, hml, hown, hts⟩ (c_X10_demand1 l g x0 H.size) (cwV 1 hts gX10_would_X10_demand rfl rfl rfl (by decide +kernel) ⟨Nat.le_of_ble_eq_true rfl, Nat.le_of_ble_eq_true rfl⟩) (he_preV (wc := []) hK hP hD hS hA hE [] rfl rfl 0 rfl rfl) rfl rfl hl.1 rfl (lv_room (Nat.le_of_ble_eq_true rfl)) dX10_would_31 ⟨(Nat.le_of_ble_eq_true rfl), (Nat.le_of_ble_eq_true rfl)⟩) hP hD hS hA [] [0, 1, 2, 3, 4, 5, 6, 7, 8, 9, 10] rfl rfl rfl (by decide) (fun u_13 H locs h_14 hP hD hS => ?_)
      have hP : va_P g.1 vwCl [(oX10 x0 y0 ta z0 p0 dr pa to_ s0 im ki tr v0 rf), (oX4 tr r0 r1 mo1), (aI g r0 24 f1), (aI g r1 6 sh), (oX6 p0 p1 p2 p3 p4 (nI w)), (aI g p1 24 sd), (aI g p3 6 st), (aI g p4 6 me), (oX8 s0 h0 a0 b0 e0), (oX4 h0 q0 q1 mo), (aI g q0 24 f)] H := hP
      have hD : va_D A [(oX10 x0 y0 ta z0 p0 dr pa to_ s0 im ki tr v0 rf), (oX4 tr r0 r1 mo1), (aI g r0 24 f1), (aI g r1 6 sh), (oX6 p0 p1 p2 p3 p4 (nI w)), (aI g p1 24 sd), (aI g p3 6 st), (aI g p4 6 me), (oX8 s0 h0 a0 b0 e0), (oX4 h0 q0 q1 mo), (aI g q0 24 f)] := hD
      refine lv_aload_n hx hb dX10_would_34 rfl (lv_at hl 0 rfl) ?_
      refine lv_iload_n hx hb dX10_would_35 rfl (lv_at hl 1 rfl) ?_
      refine lv_iload_n hx hb dX10_would_36 rfl (lv_at hl 2 rfl) ?_
      refine he_ci (wc := [(oX10 x0 y0 ta z0 p0 dr pa to_ s0 im ki tr v0 rf), (oX4 tr r0 r1 mo1), (aI g r0 24 f1), (aI g r1 6 sh), (oX6 p0 p1 p2 p3 p4 (nI w)), (aI g p1 24 sd), (aI g p3 6 st), (aI g p4 6 me), (oX8 s0 h0 a0 b0 e0), (oX4 h0 q0 q1 mo), (aI g q0 24 f)]) (wr := []) (va_runV (As := [.int (-1), .int (nI n)]) (rest := []) ⟨hx, hb, hml, hown, hts⟩ (g_X10_trySignedN l g x0 y0 z0 dr pa s0 im tr v0 rf ta to_ ki p0 p1 p2 p3 p4 w sd st me a0 b0 e0 h0 q0 q1 mo f r0 r1 mo1 f1 sh n (by first | assumption | decide | omega) hn2 H.size) (cwV 2 hts gX10_would_X10_trySigned rfl rfl rfl (by decide +kernel) ⟨Nat.le_of_ble_eq_true rfl, Nat.le_of_ble_eq_true rfl⟩) (he_preV (wc := [(oX10 x0 y0 ta z0 p0 dr pa to_ s0 im ki tr v0 rf), (oX4 tr r0 r1 mo1), (aI g r0 24 f1), (aI g r1 6 sh), (oX6 p0 p1 p2 p3 p4 (nI w)), (aI g p1 24 sd), (aI g p3 6 st), (aI g p4 6 me), (oX8 s0 h0 a0 b0 e0), (oX4 h0 q0 q1 mo), (aI g q0 24 f)]) hK hP hD hS hA hE [0, 1, 2, 3, 4, 5, 6, 7, 8, 9, 10] rfl rfl 0 rfl rfl) rfl rfl hl.1 rfl (lv_room (Nat.le_of_ble_eq_true rfl)) dX10_would_37 ⟨(Nat.le_of_ble_eq_true rfl), (Nat.le_of_ble_eq_true rfl)⟩) hP hD hS hA [0, 1, 2, 3, 4, 5, 6, 7, 8, 9, 10] [] rfl rfl rfl (by decide) (fun r_15 u_16 H locs h_17 hP hD hS => ?_)
      obtain ⟨um_18, uf_19, us_20⟩ := u_16
      have hP : va_P g.1 vwCl [(oX10 x0 y0 ta z0 p0 dr pa to_ s0 im ki tr v0 rf), (oX4 tr r0 r1 um_18), (aI g r0 24 uf_19), (aI g r1 6 us_20), (oX6 p0 p1 p2 p3 p4 (nI w)), (aI g p1 24 sd), (aI g p3 6 st), (aI g p4 6 me), (oX8 s0 h0 a0 b0 e0), (oX4 h0 q0 q1 mo), (aI g q0 24 f)] H := hP
      have hD : va_D A [(oX10 x0 y0 ta z0 p0 dr pa to_ s0 im ki tr v0 rf), (oX4 tr r0 r1 um_18), (aI g r0 24 uf_19), (aI g r1 6 us_20), (oX6 p0 p1 p2 p3 p4 (nI w)), (aI g p1 24 sd), (aI g p3 6 st), (aI g p4 6 me), (oX8 s0 h0 a0 b0 e0), (oX4 h0 q0 q1 mo), (aI g q0 24 f)] := hD
      refine lv_pop hx hb dX10_would_40 rfl ?_
      refine lv_aload_n hx hb dX10_would_41 rfl (lv_at hl 0 rfl) ?_
      refine va_get (v := .ref tr) (T := TX10) (N := 13) hx hb hts inX10 hown hK hP 0 rfl rfl 10 (by decide) f50 (fun _ h9 => h9) rfl dX10_would_42 ?_
      refine va_get (v := .ref r0) (T := TX4) (N := 3) hx hb hts inX4 hown hK hP 1 rfl rfl 0 (by decide) f111 (fun _ h9 => h9) rfl dX10_would_45 ?_
      refine lv_iload_n hx hb dX10_would_48 rfl (lv_at hl 3 rfl) ?_
      refine he_iald hx hb hK hP 2 rfl (x.toNatClampNeg) (he_within_nat (B := 9) rfl (by decide) hok0).1 (Nat.lt_of_le_of_lt (he_within_nat (B := 9) rfl (by decide) hok0).2 (by decide)) (by first | decide | assumption) (uf_19 x.toNatClampNeg) rfl dX10_would_49 ?_
      exact he_ri hQ hx hb hr hlk hP hD hS dX10_would_50 (Nat.le_of_ble_eq_true rfl) (Nat.le_of_ble_eq_true rfl) ((um_18, uf_19, us_20)) (rfl) (trivial)
set_option maxHeartbeats 4000000 in
set_option maxRecDepth 100000 in
theorem g_X10_stop0 (l : Launch) (g : he_G) (x0 : Nat) (y0 : Nat) (z0 : Nat) (dr : Nat) (pa : Nat) (s0 : Nat) (im : Nat) (tr : Nat) (v0 : Nat) (rf : Nat) (ta : Int32) (to_ : Int32) (ki : Int32) (p0 : Nat) (p1 : Nat) (p2 : Nat) (p3 : Nat) (p4 : Nat) (w : Nat) (sd : Nat → Int32) (fn : Nat → Int32) (st : Nat → Int32) (me : Nat → Int32) (a0 : Nat) (b0 : Nat) (e0 : Nat) (h0 : Nat) (q0 : Nat) (q1 : Nat) (mo : Int32) (f : Nat → Int32) (r0 : Nat) (r1 : Nat) (mo1 : Int32) (f1 : Nat → Int32) (sh : Nat → Int32) (n : Nat) (pf : Nat → Option Nat) (t0 : Nat) (t1 : Nat) (t2 : Nat) (pw : Int32) (pd : Nat → Int32) (wb : Nat → Int32) (ck : Nat) (ci : Nat) (hw6 : w ≤ 6) (hwb : ∀ k, k < 36 → -1 ≤ wb k) (hck : pd 3 = nI ck) (hc99 : ck ≤ 99) (hc7 : ci < 7) (hpf : pf ci = some t0) (hn1 : 1 ≤ n) (hn2 : n ≤ 60) (hF : (f 10 = nI ci ∨ he_within (f 10) 0 6 = 0)) : he_I l yX10_stop wsX10_stop 6 132 0 0 g [.ref x0, .int (nI n), .int 0] [(oX10 x0 y0 ta z0 p0 dr pa to_ s0 im ki tr v0 rf), (oX4 tr r0 r1 mo1), (aI g r0 24 f1), (aI g r1 6 sh), (oX6 p0 p1 p2 p3 p4 (nI w)), (aI g p1 24 sd), (aI g p2 10 fn), (aI g p3 6 st), (aI g p4 6 me), (aP g pa 7 pf), (oX5 t0 t1 t2 pw), (aI g t1 6 pd), (aI g t2 36 wb), (oX8 s0 h0 a0 b0 e0), (oX4 h0 q0 q1 mo), (aI g q0 24 f)] (fun (r : Int32) (u : Int32 × (Nat → Int32) × (Nat → Int32)) => True) (fun (u : Int32 × (Nat → Int32) × (Nat → Int32)) => [(oX10 x0 y0 ta z0 p0 dr pa to_ s0 im ki tr v0 rf), (oX4 tr r0 r1 u.1), (aI g r0 24 u.2.1), (aI g r1 6 u.2.2), (oX6 p0 p1 p2 p3 p4 (nI w)), (aI g p1 24 sd), (aI g p2 10 fn), (aI g p3 6 st), (aI g p4 6 me), (aP g pa 7 pf), (oX5 t0 t1 t2 pw), (aI g t1 6 pd), (aI g t2 36 wb), (oX8 s0 h0 a0 b0 e0), (oX4 h0 q0 q1 mo), (aI g q0 24 f)]) := by
  refine he_begin (l := l) (g := g) (y := yX10_stop) (wl := wsX10_stop) (fr := 6) (lo := 132) (mc := 0) (ms := 0) (av := [.ref x0, .int (nI n), .int 0]) (ws := [(oX10 x0 y0 ta z0 p0 dr pa to_ s0 im ki tr v0 rf), (oX4 tr r0 r1 mo1), (aI g r0 24 f1), (aI g r1 6 sh), (oX6 p0 p1 p2 p3 p4 (nI w)), (aI g p1 24 sd), (aI g p2 10 fn), (aI g p3 6 st), (aI g p4 6 me), (aP g pa 7 pf), (oX5 t0 t1 t2 pw), (aI g t1 6 pd), (aI g t2 36 wb), (oX8 s0 h0 a0 b0 e0), (oX4 h0 q0 q1 mo), (aI g q0 24 f)]) (cc := cX10_stop) (maxL := 6) (ret := (some .int)) (fun A => va_Qi (fun (r : Int32) (u : Int32 × (Nat → Int32) × (Nat → Int32)) => True) (fun u t => he_post g A ((fun (u : Int32 × (Nat → Int32) × (Nat → Int32)) => [(oX10 x0 y0 ta z0 p0 dr pa to_ s0 im ki tr v0 rf), (oX4 tr r0 r1 u.1), (aI g r0 24 u.2.1), (aI g r1 6 u.2.2), (oX6 p0 p1 p2 p3 p4 (nI w)), (aI g p1 24 sd), (aI g p2 10 fn), (aI g p3 6 st), (aI g p4 6 me), (aP g pa 7 pf), (oX5 t0 t1 t2 pw), (aI g t1 6 pd), (aI g t2 36 wb), (oX8 s0 h0 a0 b0 e0), (oX4 h0 q0 q1 mo), (aI g q0 24 f)]) u) t) A) (by decide) rfl (Nat.le_of_ble_eq_true rfl) ?_
  intro p e s m args below meth c A ls H locs Q hQ hB
  obtain ⟨hx, hb, hr, hml, hown, hts, hlk, hin, hP, hK, hD, hS, hA, hE, hl⟩ := hB
  have hl : lv_has ls 6 [(0, .ref x0), (1, .int (nI n)), (2, .int 0)] := hl
  have f50 := hts (.fieldLink RX10 50 "HiredEnemy" "trial" "LHiredEnemy$Course;") (iwoX10_stop (k := 0) rfl)
  have inX10 : ∀ w ∈ wsX100, w ∈ wsX10_stop := innX10_stop_X10
  have f39 := hts (.fieldLink RX10 39 "HiredEnemy" "scene" "LHiredEnemy$Scene;") (iwoX10_stop (k := 1) rfl)
  have f66 := hts (.fieldLink RX10 66 "HiredEnemy$Scene" "course" "LHiredEnemy$Course;") (iwoX10_stop (k := 2) rfl)
  have inX8 : ∀ w ∈ wsX80, w ∈ wsX10_stop := innX10_stop_X8
  have f111 := hts (.fieldLink RX10 111 "HiredEnemy$Course" "now" "[I") (iwoX10_stop (k := 3) rfl)
  have inX4 : ∀ w ∈ wsX40, w ∈ wsX10_stop := innX10_stop_X4
  refine lv_aload_n hx hb dX10_stop_0 rfl (lv_at hl 0 rfl) ?_
  refine lv_iload_n hx hb dX10_stop_1 rfl (lv_at hl 1 rfl) ?_
  refine lv_iconst (v := 1) hx hb dX10_stop_2 (by decide) ?_
  refine lv_bipush (v := 60) hx hb dX10_stop_3 (by decide) ?_
  refine he_ci (wc := []) (wr := [(oX10 x0 y0 ta z0 p0 dr pa to_ s0 im ki tr v0 rf), (oX4 tr r0 r1 mo1), (aI g r0 24 f1), (aI g r1 6 sh), (oX6 p0 p1 p2 p3 p4 (nI w)), (aI g p1 24 sd), (aI g p2 10 fn), (aI g p3 6 st), (aI g p4 6 me), (aP g pa 7 pf), (oX5 t0 t1 t2 pw), (aI g t1 6 pd), (aI g t2 36 wb), (oX8 s0 h0 a0 b0 e0), (oX4 h0 q0 q1 mo), (aI g q0 24 f)]) (va_runS (As := [.int (nI n), .int 1, .int 60]) (rest := [.ref x0]) ⟨hx, hb, hml, hown, hts⟩ (c_X10_within l g (nI n) 1 60 H.size) (va_cwS 3 hts gX10_stop_X10_within rfl rfl rfl (by decide +kernel) ⟨Nat.le_of_ble_eq_true rfl, Nat.le_of_ble_eq_true rfl⟩) (he_preS (wc := []) hK hP hD hS hA hE [] rfl rfl) rfl rfl hl.1 rfl (lv_room (Nat.le_of_ble_eq_true rfl)) dX10_stop_5 ⟨(Nat.le_of_ble_eq_true rfl), (Nat.le_of_ble_eq_true rfl)⟩) hP hD hS hA [] [0, 1, 2, 3, 4, 5, 6, 7, 8, 9, 10, 11, 12, 13, 14, 15] rfl rfl rfl (by decide) (fun r_1 u_2 H locs h_3 hP hD hS => ?_)
  subst h_3
  have hP : va_P g.1 vwCl [(oX10 x0 y0 ta z0 p0 dr pa to_ s0 im ki tr v0 rf), (oX4 tr r0 r1 mo1), (aI g r0 24 f1), (aI g r1 6 sh), (oX6 p0 p1 p2 p3 p4 (nI w)), (aI g p1 24 sd), (aI g p2 10 fn), (aI g p3 6 st), (aI g p4 6 me), (aP g pa 7 pf), (oX5 t0 t1 t2 pw), (aI g t1 6 pd), (aI g t2 36 wb), (oX8 s0 h0 a0 b0 e0), (oX4 h0 q0 q1 mo), (aI g q0 24 f)] H := hP
  have hD : va_D A [(oX10 x0 y0 ta z0 p0 dr pa to_ s0 im ki tr v0 rf), (oX4 tr r0 r1 mo1), (aI g r0 24 f1), (aI g r1 6 sh), (oX6 p0 p1 p2 p3 p4 (nI w)), (aI g p1 24 sd), (aI g p2 10 fn), (aI g p3 6 st), (aI g p4 6 me), (aP g pa 7 pf), (oX5 t0 t1 t2 pw), (aI g t1 6 pd), (aI g t2 36 wb), (oX8 s0 h0 a0 b0 e0), (oX4 h0 q0 q1 mo), (aI g q0 24 f)] := hD
  refine he_top (1) (he_within_in (a0 := 1) (B := 60) rfl rfl (by omega) (by omega) (by decide)) ?_
  refine lv_if_eq (tgt := 24) hx hb dX10_stop_8 (by decide) (fun c_4 => ?_) (fun c_4 => ?_)
  · exact absurd c_4 (by decide)
  · refine lv_iload_n hx hb dX10_stop_11 rfl (lv_at hl 2 rfl) ?_
    refine lv_iconst (v := 0) hx hb dX10_stop_12 (by decide) ?_
    refine lv_iconst (v := 1) hx hb dX10_stop_13 (by decide) ?_
    refine he_ci (wc := []) (wr := [(oX10 x0 y0 ta z0 p0 dr pa to_ s0 im ki tr v0 rf), (oX4 tr r0 r1 mo1), (aI g r0 24 f1), (aI g r1 6 sh), (oX6 p0 p1 p2 p3 p4 (nI w)), (aI g p1 24 sd), (aI g p2 10 fn), (aI g p3 6 st), (aI g p4 6 me), (aP g pa 7 pf), (oX5 t0 t1 t2 pw), (aI g t1 6 pd), (aI g t2 36 wb), (oX8 s0 h0 a0 b0 e0), (oX4 h0 q0 q1 mo), (aI g q0 24 f)]) (va_runS (As := [.int 0, .int 0, .int 1]) (rest := [.ref x0]) ⟨hx, hb, hml, hown, hts⟩ (c_X10_within l g 0 0 1 H.size) (va_cwS 3 hts gX10_stop_X10_within rfl rfl rfl (by decide +kernel) ⟨Nat.le_of_ble_eq_true rfl, Nat.le_of_ble_eq_true rfl⟩) (he_preS (wc := []) hK hP hD hS hA hE [] rfl rfl) rfl rfl hl.1 rfl (lv_room (Nat.le_of_ble_eq_true rfl)) dX10_stop_14 ⟨(Nat.le_of_ble_eq_true rfl), (Nat.le_of_ble_eq_true rfl)⟩) hP hD hS hA [] [0, 1, 2, 3, 4, 5, 6, 7, 8, 9, 10, 11, 12, 13, 14, 15] rfl rfl rfl (by decide) (fun r_5 u_6 H locs h_7 hP hD hS => ?_)
    subst h_7
    have hP : va_P g.1 vwCl [(oX10 x0 y0 ta z0 p0 dr pa to_ s0 im ki tr v0 rf), (oX4 tr r0 r1 mo1), (aI g r0 24 f1), (aI g r1 6 sh), (oX6 p0 p1 p2 p3 p4 (nI w)), (aI g p1 24 sd), (aI g p2 10 fn), (aI g p3 6 st), (aI g p4 6 me), (aP g pa 7 pf), (oX5 t0 t1 t2 pw), (aI g t1 6 pd), (aI g t2 36 wb), (oX8 s0 h0 a0 b0 e0), (oX4 h0 q0 q1 mo), (aI g q0 24 f)] H := hP
    have hD : va_D A [(oX10 x0 y0 ta z0 p0 dr pa to_ s0 im ki tr v0 rf), (oX4 tr r0 r1 mo1), (aI g r0 24 f1), (aI g r1 6 sh), (oX6 p0 p1 p2 p3 p4 (nI w)), (aI g p1 24 sd), (aI g p2 10 fn), (aI g p3 6 st), (aI g p4 6 me), (aP g pa 7 pf), (oX5 t0 t1 t2 pw), (aI g t1 6 pd), (aI g t2 36 wb), (oX8 s0 h0 a0 b0 e0), (oX4 h0 q0 q1 mo), (aI g q0 24 f)] := hD
    refine he_top (1) (by decide) ?_
    refine lv_if_eq (tgt := 24) hx hb dX10_stop_17 (by decide) (fun c_8 => ?_) (fun c_8 => ?_)
    · exact absurd c_8 (by decide)
    · refine lv_iconst (v := 1) hx hb dX10_stop_20 (by decide) ?_
      refine lv_goto (tgt := 25) hx hb dX10_stop_21 (by decide) ?_
      refine he_cv (wc := []) (wr := [(oX10 x0 y0 ta z0 p0 dr pa to_ s0 im ki tr v0 rf), (oX4 tr r0 r1 mo1), (aI g r0 24 f1), (aI g r1 6 sh), (oX6 p0 p1 p2 p3 p4 (nI w)), (aI g p1 24 sd), (aI g p2 10 fn), (aI g p3 6 st), (aI g p4 6 me), (aP g pa 7 pf), (oX5 t0 t1 t2 pw), (aI g t1 6 pd), (aI g t2 36 wb), (oX8 s0 h0 a0 b0 e0), (oX4 h0 q0 q1 mo), (aI g q0 24 f)]) (va_runV (As := [.int 1]) (rest := []) ⟨hx, hb, hml, hown, hts⟩ (c_X10_demand1 l g x0 H.size) (cwV 1 hts gX10_stop_X10_demand rfl rfl rfl (by decide +kernel) ⟨Nat.le_of_ble_eq_true rfl, Nat.le_of_ble_eq_true rfl⟩) (he_preV (wc := []) hK hP hD hS hA hE [] rfl rfl 0 rfl rfl) rfl rfl hl.1 rfl (lv_room (Nat.le_of_ble_eq_true rfl)) dX10_stop_25 ⟨(Nat.le_of_ble_eq_true rfl), (Nat.le_of_ble_eq_true rfl)⟩) hP hD hS hA [] [0, 1, 2, 3, 4, 5, 6, 7, 8, 9, 10, 11, 12, 13, 14, 15] rfl rfl rfl (by decide) (fun u_10 H locs h_11 hP hD hS => ?_)
      have hP : va_P g.1 vwCl [(oX10 x0 y0 ta z0 p0 dr pa to_ s0 im ki tr v0 rf), (oX4 tr r0 r1 mo1), (aI g r0 24 f1), (aI g r1 6 sh), (oX6 p0 p1 p2 p3 p4 (nI w)), (aI g p1 24 sd), (aI g p2 10 fn), (aI g p3 6 st), (aI g p4 6 me), (aP g pa 7 pf), (oX5 t0 t1 t2 pw), (aI g t1 6 pd), (aI g t2 36 wb), (oX8 s0 h0 a0 b0 e0), (oX4 h0 q0 q1 mo), (aI g q0 24 f)] H := hP
      have hD : va_D A [(oX10 x0 y0 ta z0 p0 dr pa to_ s0 im ki tr v0 rf), (oX4 tr r0 r1 mo1), (aI g r0 24 f1), (aI g r1 6 sh), (oX6 p0 p1 p2 p3 p4 (nI w)), (aI g p1 24 sd), (aI g p2 10 fn), (aI g p3 6 st), (aI g p4 6 me), (aP g pa 7 pf), (oX5 t0 t1 t2 pw), (aI g t1 6 pd), (aI g t2 36 wb), (oX8 s0 h0 a0 b0 e0), (oX4 h0 q0 q1 mo), (aI g q0 24 f)] := hD
      refine lv_iconst (v := 0) hx hb dX10_stop_28 (by decide) ?_
      refine lv_istore_n (lv' := [(3, .int 0), (0, .ref x0), (1, .int (nI n)), (2, .int 0)]) hx hb dX10_stop_29 rfl hl (by decide) rfl (fun ls hl => ?_)
      refine lv_iconst (v := (-1)) hx hb dX10_stop_30 (by decide) ?_
      refine lv_istore (lv' := [(4, .int (-1)), (3, .int 0), (0, .ref x0), (1, .int (nI n)), (2, .int 0)]) hx hb dX10_stop_31 hl (by decide) rfl (fun ls hl => ?_)
      refine lv_iconst (v := 0) hx hb dX10_stop_33 (by decide) ?_
      refine lv_istore (lv' := [(5, .int 0), (4, .int (-1)), (3, .int 0), (0, .ref x0), (1, .int (nI n)), (2, .int 0)]) hx hb dX10_stop_34 hl (by decide) rfl (fun ls hl => ?_)
      have loop36 : ∀ (n9 : Nat) (j : Nat) (bm : Int32) (ms : Int32) (mj : Int32) (F : Nat → Int32) (G : Nat → Int32), n + 1 - j < n9 → (j ≤ n + 1) → ∀ (H : Heap) (locs : List Loc) (ls : Array Slot), va_P g.1 vwCl [(oX10 x0 y0 ta z0 p0 dr pa to_ s0 im ki tr v0 rf), (oX4 tr r0 r1 mj), (aI g r0 24 F), (aI g r1 6 G), (oX6 p0 p1 p2 p3 p4 (nI w)), (aI g p1 24 sd), (aI g p2 10 fn), (aI g p3 6 st), (aI g p4 6 me), (aP g pa 7 pf), (oX5 t0 t1 t2 pw), (aI g t1 6 pd), (aI g t2 36 wb), (oX8 s0 h0 a0 b0 e0), (oX4 h0 q0 q1 mo), (aI g q0 24 f)] H → va_D A [(oX10 x0 y0 ta z0 p0 dr pa to_ s0 im ki tr v0 rf), (oX4 tr r0 r1 mj), (aI g r0 24 F), (aI g r1 6 G), (oX6 p0 p1 p2 p3 p4 (nI w)), (aI g p1 24 sd), (aI g p2 10 fn), (aI g p3 6 st), (aI g p4 6 me), (aP g pa 7 pf), (oX5 t0 t1 t2 pw), (aI g t1 6 pd), (aI g t2 36 wb), (oX8 s0 h0 a0 b0 e0), (oX4 h0 q0 q1 mo), (aI g q0 24 f)] → va_S A s.heap H locs → lv_has ls 6 [(0, .ref x0), (1, .int (nI n)), (2, .int 0), (3, .int bm), (4, .int ms), (5, .int (nI j))] → W p l e (he_room 6 132 0 0) s m args below meth c H locs 0 0 Q (F0 m 36 ls []) := by
        intro n9
        induction n9 with
        | zero => intro j bm ms mj F G hm9; exact absurd hm9 (Nat.not_lt_zero _)
        | succ n9 ih36 =>
          intro j bm ms mj F G hm9 hj H locs ls hP hD hS hl
          refine lv_iload hx hb dX10_stop_36 (lv_at hl 5 rfl) ?_
          refine lv_iload_n hx hb dX10_stop_38 rfl (lv_at hl 1 rfl) ?_
          refine lv_icmp_gt (tgt := 112) hx hb dX10_stop_39 (by decide) (fun c_12 => ?_) (fun c_12 => ?_)
          · have k_13 : n < j := (he_clt (a := n) (b := j) rfl rfl (by omega) (by omega)).mp c_12
            refine lv_iload_n hx hb dX10_stop_112 rfl (lv_at hl 2 rfl) ?_
            refine lv_if_ne (tgt := 120) hx hb dX10_stop_113 (by decide) (fun c_14 => ?_) (fun c_14 => ?_)
            · exact absurd (by decide) c_14
            · refine lv_iload_n hx hb dX10_stop_116 rfl (lv_at hl 3 rfl) ?_
              refine lv_goto (tgt := 122) hx hb dX10_stop_117 (by decide) ?_
              exact he_ri hQ hx hb hr hlk hP hD hS dX10_stop_122 (Nat.le_of_ble_eq_true rfl) (Nat.le_of_ble_eq_true rfl) ((mj, F, G)) (rfl) (trivial)
          · have k_15 : ¬ (n < j) := fun h9 => c_12 ((he_clt (a := n) (b := j) rfl rfl (by omega) (by omega)).mpr h9)
            refine lv_aload_n hx hb dX10_stop_42 rfl (lv_at hl 0 rfl) ?_
            refine va_get (v := .ref tr) (T := TX10) (N := 13) hx hb hts inX10 hown hK hP 0 rfl rfl 10 (by decide) f50 (fun _ h9 => h9) rfl dX10_stop_43 ?_
            refine lv_aload_n hx hb dX10_stop_46 rfl (lv_at hl 0 rfl) ?_
            refine va_get (v := .ref s0) (T := TX10) (N := 13) hx hb hts inX10 hown hK hP 0 rfl rfl 7 (by decide) f39 (fun _ h9 => h9) rfl dX10_stop_47 ?_
            refine va_get (v := .ref h0) (T := TX8) (N := 4) hx hb hts inX8 hown hK hP 13 rfl rfl 0 (by decide) f66 (fun _ h9 => h9) rfl dX10_stop_50 ?_
            refine he_cv (wc := [(oX4 tr r0 r1 mj), (aI g r0 24 F), (oX4 h0 q0 q1 mo), (aI g q0 24 f)]) (wr := [(oX10 x0 y0 ta z0 p0 dr pa to_ s0 im ki tr v0 rf), (aI g r1 6 G), (oX6 p0 p1 p2 p3 p4 (nI w)), (aI g p1 24 sd), (aI g p2 10 fn), (aI g p3 6 st), (aI g p4 6 me), (aP g pa 7 pf), (oX5 t0 t1 t2 pw), (aI g t1 6 pd), (aI g t2 36 wb), (oX8 s0 h0 a0 b0 e0)]) (va_runV (As := [.ref h0]) (rest := []) ⟨hx, hb, hml, hown, hts⟩ (c_X4_take l g tr r0 r1 mj F h0 q0 q1 mo f H.size) (cwV 1 hts gX10_stop_X4_take rfl rfl rfl (by decide +kernel) ⟨Nat.le_of_ble_eq_true rfl, Nat.le_of_ble_eq_true rfl⟩) (he_preV (wc := [(oX4 tr r0 r1 mj), (aI g r0 24 F), (oX4 h0 q0 q1 mo), (aI g q0 24 f)]) hK hP hD hS hA hE [1, 2, 14, 15] rfl rfl 1 rfl rfl) rfl rfl hl.1 rfl (lv_room (Nat.le_of_ble_eq_true rfl)) dX10_stop_53 ⟨(Nat.le_of_ble_eq_true rfl), (Nat.le_of_ble_eq_true rfl)⟩) hP hD hS hA [1, 2, 14, 15] [0, 3, 4, 5, 6, 7, 8, 9, 10, 11, 12, 13] rfl rfl rfl (by decide) (fun u_17 H locs h_18 hP hD hS => ?_)
            have hP : va_P g.1 vwCl [(oX10 x0 y0 ta z0 p0 dr pa to_ s0 im ki tr v0 rf), (aI g r1 6 G), (oX6 p0 p1 p2 p3 p4 (nI w)), (aI g p1 24 sd), (aI g p2 10 fn), (aI g p3 6 st), (aI g p4 6 me), (aP g pa 7 pf), (oX5 t0 t1 t2 pw), (aI g t1 6 pd), (aI g t2 36 wb), (oX8 s0 h0 a0 b0 e0), (oX4 tr r0 r1 mo), (aI g r0 24 (va_cpy f F 0 0 24)), (oX4 h0 q0 q1 mo), (aI g q0 24 f)] H := hP
            have hD : va_D A [(oX10 x0 y0 ta z0 p0 dr pa to_ s0 im ki tr v0 rf), (aI g r1 6 G), (oX6 p0 p1 p2 p3 p4 (nI w)), (aI g p1 24 sd), (aI g p2 10 fn), (aI g p3 6 st), (aI g p4 6 me), (aP g pa 7 pf), (oX5 t0 t1 t2 pw), (aI g t1 6 pd), (aI g t2 36 wb), (oX8 s0 h0 a0 b0 e0), (oX4 tr r0 r1 mo), (aI g r0 24 (va_cpy f F 0 0 24)), (oX4 h0 q0 q1 mo), (aI g q0 24 f)] := hD
            refine lv_aload_n hx hb dX10_stop_56 rfl (lv_at hl 0 rfl) ?_
            refine lv_iload hx hb dX10_stop_57 (lv_at hl 5 rfl) ?_
            refine he_cv (wc := [(oX10 x0 y0 ta z0 p0 dr pa to_ s0 im ki tr v0 rf), (oX4 tr r0 r1 mo), (aI g r0 24 (va_cpy f F 0 0 24)), (aI g r1 6 G), (oX6 p0 p1 p2 p3 p4 (nI w)), (aI g p1 24 sd), (aI g p2 10 fn), (aI g p3 6 st), (aI g p4 6 me), (aP g pa 7 pf), (oX5 t0 t1 t2 pw), (aI g t1 6 pd), (aI g t2 36 wb)]) (wr := [(oX8 s0 h0 a0 b0 e0), (oX4 h0 q0 q1 mo), (aI g q0 24 f)]) (va_runV (As := [.int (nI j)]) (rest := []) ⟨hx, hb, hml, hown, hts⟩ (g_X10_passTried l g x0 y0 z0 dr pa s0 im tr v0 rf ta to_ ki p0 p1 p2 p3 p4 w sd fn st me r0 r1 mo (va_cpy f F 0 0 24) G j pf t0 t1 t2 pw pd wb ck ci (by first | assumption | decide | omega) (by first | assumption | decide | omega) (by first | assumption | decide | omega) (by first | assumption | decide | omega) (by first | assumption | decide | omega) (by first | assumption | decide | omega) (by rw [cpy_in (by decide)]; exact hF) (by omega) H.size) (cwV 1 hts gX10_stop_X10_passTried rfl rfl rfl (by decide +kernel) ⟨Nat.le_of_ble_eq_true rfl, Nat.le_of_ble_eq_true rfl⟩) (he_preV (wc := [(oX10 x0 y0 ta z0 p0 dr pa to_ s0 im ki tr v0 rf), (oX4 tr r0 r1 mo), (aI g r0 24 (va_cpy f F 0 0 24)), (aI g r1 6 G), (oX6 p0 p1 p2 p3 p4 (nI w)), (aI g p1 24 sd), (aI g p2 10 fn), (aI g p3 6 st), (aI g p4 6 me), (aP g pa 7 pf), (oX5 t0 t1 t2 pw), (aI g t1 6 pd), (aI g t2 36 wb)]) hK hP hD hS hA hE [0, 12, 13, 1, 2, 3, 4, 5, 6, 7, 8, 9, 10] rfl rfl 0 rfl rfl) rfl rfl hl.1 rfl (lv_room (Nat.le_of_ble_eq_true rfl)) dX10_stop_59 ⟨(Nat.le_of_ble_eq_true rfl), (Nat.le_of_ble_eq_true rfl)⟩) hP hD hS hA [0, 12, 13, 1, 2, 3, 4, 5, 6, 7, 8, 9, 10] [11, 14, 15] rfl rfl rfl (by decide) (fun u_20 H locs h_21 hP hD hS => ?_)
            obtain ⟨um_22, uf_23, us_24⟩ := u_20
            try dsimp only at h_21
            have hf_25 := h_21
            have hP : va_P g.1 vwCl [(oX8 s0 h0 a0 b0 e0), (oX4 h0 q0 q1 mo), (aI g q0 24 f), (oX10 x0 y0 ta z0 p0 dr pa to_ s0 im ki tr v0 rf), (oX4 tr r0 r1 um_22), (aI g r0 24 uf_23), (aI g r1 6 us_24), (oX6 p0 p1 p2 p3 p4 (nI w)), (aI g p1 24 sd), (aI g p2 10 fn), (aI g p3 6 st), (aI g p4 6 me), (aP g pa 7 pf), (oX5 t0 t1 t2 pw), (aI g t1 6 pd), (aI g t2 36 wb)] H := hP
            have hD : va_D A [(oX8 s0 h0 a0 b0 e0), (oX4 h0 q0 q1 mo), (aI g q0 24 f), (oX10 x0 y0 ta z0 p0 dr pa to_ s0 im ki tr v0 rf), (oX4 tr r0 r1 um_22), (aI g r0 24 uf_23), (aI g r1 6 us_24), (oX6 p0 p1 p2 p3 p4 (nI w)), (aI g p1 24 sd), (aI g p2 10 fn), (aI g p3 6 st), (aI g p4 6 me), (aP g pa 7 pf), (oX5 t0 t1 t2 pw), (aI g t1 6 pd), (aI g t2 36 wb)] := hD
            refine lv_aload_n hx hb dX10_stop_62 rfl (lv_at hl 0 rfl) ?_
            refine va_get (v := .ref tr) (T := TX10) (N := 13) hx hb hts inX10 hown hK hP 3 rfl rfl 10 (by decide) f50 (fun _ h9 => h9) rfl dX10_stop_63 ?_
            refine lv_iconst (v := (-1)) hx hb dX10_stop_66 (by decide) ?_
            refine he_cv (wc := [(oX4 tr r0 r1 um_22), (aI g r0 24 uf_23)]) (wr := [(oX8 s0 h0 a0 b0 e0), (oX4 h0 q0 q1 mo), (aI g q0 24 f), (oX10 x0 y0 ta z0 p0 dr pa to_ s0 im ki tr v0 rf), (aI g r1 6 us_24), (oX6 p0 p1 p2 p3 p4 (nI w)), (aI g p1 24 sd), (aI g p2 10 fn), (aI g p3 6 st), (aI g p4 6 me), (aP g pa 7 pf), (oX5 t0 t1 t2 pw), (aI g t1 6 pd), (aI g t2 36 wb)]) (va_runV (As := [.int (-1)]) (rest := []) ⟨hx, hb, hml, hown, hts⟩ (c_X4_pledge l g tr r0 r1 um_22 uf_23 (-1) H.size) (cwV 1 hts gX10_stop_X4_pledge rfl rfl rfl (by decide +kernel) ⟨Nat.le_of_ble_eq_true rfl, Nat.le_of_ble_eq_true rfl⟩) (he_preV (wc := [(oX4 tr r0 r1 um_22), (aI g r0 24 uf_23)]) hK hP hD hS hA hE [4, 5] rfl rfl 4 rfl rfl) rfl rfl hl.1 rfl (lv_room (Nat.le_of_ble_eq_true rfl)) dX10_stop_67 ⟨(Nat.le_of_ble_eq_true rfl), (Nat.le_of_ble_eq_true rfl)⟩) hP hD hS hA [4, 5] [0, 1, 2, 3, 6, 7, 8, 9, 10, 11, 12, 13, 14, 15] rfl rfl rfl (by decide) (fun u_27 H locs h_28 hP hD hS => ?_)
            have hP : va_P g.1 vwCl [(oX8 s0 h0 a0 b0 e0), (oX4 h0 q0 q1 mo), (aI g q0 24 f), (oX10 x0 y0 ta z0 p0 dr pa to_ s0 im ki tr v0 rf), (aI g r1 6 us_24), (oX6 p0 p1 p2 p3 p4 (nI w)), (aI g p1 24 sd), (aI g p2 10 fn), (aI g p3 6 st), (aI g p4 6 me), (aP g pa 7 pf), (oX5 t0 t1 t2 pw), (aI g t1 6 pd), (aI g t2 36 wb), (oX4 tr r0 r1 um_22), (aI g r0 24 (fcF uf_23 (-1) um_22))] H := hP
            have hD : va_D A [(oX8 s0 h0 a0 b0 e0), (oX4 h0 q0 q1 mo), (aI g q0 24 f), (oX10 x0 y0 ta z0 p0 dr pa to_ s0 im ki tr v0 rf), (aI g r1 6 us_24), (oX6 p0 p1 p2 p3 p4 (nI w)), (aI g p1 24 sd), (aI g p2 10 fn), (aI g p3 6 st), (aI g p4 6 me), (aP g pa 7 pf), (oX5 t0 t1 t2 pw), (aI g t1 6 pd), (aI g t2 36 wb), (oX4 tr r0 r1 um_22), (aI g r0 24 (fcF uf_23 (-1) um_22))] := hD
            refine lv_aload_n hx hb dX10_stop_70 rfl (lv_at hl 0 rfl) ?_
            refine lv_iload_n hx hb dX10_stop_71 rfl (lv_at hl 1 rfl) ?_
            refine lv_iload hx hb dX10_stop_72 (lv_at hl 5 rfl) ?_
            refine lv_isub hx hb dX10_stop_74 ?_
            refine he_top (nI (n - j)) (pk_sub (by omega)) ?_
            refine he_cv (wc := [(oX10 x0 y0 ta z0 p0 dr pa to_ s0 im ki tr v0 rf), (oX4 tr r0 r1 um_22), (aI g r0 24 (fcF uf_23 (-1) um_22)), (aI g r1 6 us_24), (oX6 p0 p1 p2 p3 p4 (nI w)), (aI g p1 24 sd), (aI g p3 6 st), (aI g p4 6 me)]) (wr := [(oX8 s0 h0 a0 b0 e0), (oX4 h0 q0 q1 mo), (aI g q0 24 f), (aI g p2 10 fn), (aP g pa 7 pf), (oX5 t0 t1 t2 pw), (aI g t1 6 pd), (aI g t2 36 wb)]) (va_runV (As := [.int (nI (n - j))]) (rest := []) ⟨hx, hb, hml, hown, hts⟩ (g_X10_passTriedN l g x0 y0 z0 dr pa s0 im tr v0 rf ta to_ ki p0 p1 p2 p3 p4 w sd st me r0 r1 um_22 (fcF uf_23 (-1) um_22) us_24 (n - j) (by first | assumption | decide | omega) (by rw [fcF_10]; exact m1_out 6) (by omega) H.size) (cwV 1 hts gX10_stop_X10_passTried rfl rfl rfl (by decide +kernel) ⟨Nat.le_of_ble_eq_true rfl, Nat.le_of_ble_eq_true rfl⟩) (he_preV (wc := [(oX10 x0 y0 ta z0 p0 dr pa to_ s0 im ki tr v0 rf), (oX4 tr r0 r1 um_22), (aI g r0 24 (fcF uf_23 (-1) um_22)), (aI g r1 6 us_24), (oX6 p0 p1 p2 p3 p4 (nI w)), (aI g p1 24 sd), (aI g p3 6 st), (aI g p4 6 me)]) hK hP hD hS hA hE [3, 14, 15, 4, 5, 6, 8, 9] rfl rfl 3 rfl rfl) rfl rfl hl.1 rfl (lv_room (Nat.le_of_ble_eq_true rfl)) dX10_stop_75 ⟨(Nat.le_of_ble_eq_true rfl), (Nat.le_of_ble_eq_true rfl)⟩) hP hD hS hA [3, 14, 15, 4, 5, 6, 8, 9] [0, 1, 2, 7, 10, 11, 12, 13] rfl rfl rfl (by decide) (fun u_30 H locs h_31 hP hD hS => ?_)
            obtain ⟨um_32, uf_33, us_34⟩ := u_30
            have hP : va_P g.1 vwCl [(oX8 s0 h0 a0 b0 e0), (oX4 h0 q0 q1 mo), (aI g q0 24 f), (aI g p2 10 fn), (aP g pa 7 pf), (oX5 t0 t1 t2 pw), (aI g t1 6 pd), (aI g t2 36 wb), (oX10 x0 y0 ta z0 p0 dr pa to_ s0 im ki tr v0 rf), (oX4 tr r0 r1 um_32), (aI g r0 24 uf_33), (aI g r1 6 us_34), (oX6 p0 p1 p2 p3 p4 (nI w)), (aI g p1 24 sd), (aI g p3 6 st), (aI g p4 6 me)] H := hP
            have hD : va_D A [(oX8 s0 h0 a0 b0 e0), (oX4 h0 q0 q1 mo), (aI g q0 24 f), (aI g p2 10 fn), (aP g pa 7 pf), (oX5 t0 t1 t2 pw), (aI g t1 6 pd), (aI g t2 36 wb), (oX10 x0 y0 ta z0 p0 dr pa to_ s0 im ki tr v0 rf), (oX4 tr r0 r1 um_32), (aI g r0 24 uf_33), (aI g r1 6 us_34), (oX6 p0 p1 p2 p3 p4 (nI w)), (aI g p1 24 sd), (aI g p3 6 st), (aI g p4 6 me)] := hD
            refine lv_aload_n hx hb dX10_stop_78 rfl (lv_at hl 0 rfl) ?_
            refine va_get (v := .ref tr) (T := TX10) (N := 13) hx hb hts inX10 hown hK hP 8 rfl rfl 10 (by decide) f50 (fun _ h9 => h9) rfl dX10_stop_79 ?_
            refine va_get (v := .ref r0) (T := TX4) (N := 3) hx hb hts inX4 hown hK hP 9 rfl rfl 0 (by decide) f111 (fun _ h9 => h9) rfl dX10_stop_82 ?_
            refine lv_iconst (v := 0) hx hb dX10_stop_85 (by decide) ?_
            refine he_iald hx hb hK hP 10 rfl (0) (by decide) (by decide) (by first | decide | assumption) (uf_33 0) rfl dX10_stop_86 ?_
            refine lv_iload hx hb dX10_stop_87 (lv_at hl 4 rfl) ?_
            refine lv_icmp_le (tgt := 106) hx hb dX10_stop_89 (by decide) (fun c_35 => ?_) (fun c_35 => ?_)
            · refine lv_iinc (v := nI (j + 1)) (lv' := [(5, .int (nI (j + 1))), (0, .ref x0), (1, .int (nI n)), (2, .int 0), (3, .int bm), (4, .int ms)]) hx hb dX10_stop_106 hl (k := 5) rfl (nI_1 j) (by decide) rfl (fun ls hl => ?_)
              refine lv_goto (tgt := 36) hx hb dX10_stop_109 (by decide) ?_
              exact ih36 (j + 1) bm ms um_32 uf_33 us_34 (by omega) (by omega) _ _ _ (hP.sub [8, 9, 10, 11, 12, 13, 3, 14, 15, 4, 5, 6, 7, 0, 1, 2] rfl) (hD.sub [8, 9, 10, 11, 12, 13, 3, 14, 15, 4, 5, 6, 7, 0, 1, 2] (by decide) rfl) hS (lv_sub hl [1, 2, 3, 4, 5, 0] rfl)
            · refine lv_aload_n hx hb dX10_stop_92 rfl (lv_at hl 0 rfl) ?_
              refine va_get (v := .ref tr) (T := TX10) (N := 13) hx hb hts inX10 hown hK hP 8 rfl rfl 10 (by decide) f50 (fun _ h9 => h9) rfl dX10_stop_93 ?_
              refine va_get (v := .ref r0) (T := TX4) (N := 3) hx hb hts inX4 hown hK hP 9 rfl rfl 0 (by decide) f111 (fun _ h9 => h9) rfl dX10_stop_96 ?_
              refine lv_iconst (v := 0) hx hb dX10_stop_99 (by decide) ?_
              refine he_iald hx hb hK hP 10 rfl (0) (by decide) (by decide) (by first | decide | assumption) (uf_33 0) rfl dX10_stop_100 ?_
              refine lv_istore (lv' := [(4, .int (uf_33 0)), (0, .ref x0), (1, .int (nI n)), (2, .int 0), (3, .int bm), (5, .int (nI j))]) hx hb dX10_stop_101 hl (by decide) rfl (fun ls hl => ?_)
              refine lv_iload hx hb dX10_stop_103 (lv_at hl 5 rfl) ?_
              refine lv_istore_n (lv' := [(3, .int (nI j)), (4, .int (uf_33 0)), (0, .ref x0), (1, .int (nI n)), (2, .int 0), (5, .int (nI j))]) hx hb dX10_stop_105 rfl hl (by decide) rfl (fun ls hl => ?_)
              refine lv_iinc (v := nI (j + 1)) (lv' := [(5, .int (nI (j + 1))), (3, .int (nI j)), (4, .int (uf_33 0)), (0, .ref x0), (1, .int (nI n)), (2, .int 0)]) hx hb dX10_stop_106 hl (k := 5) rfl (nI_1 j) (by decide) rfl (fun ls hl => ?_)
              refine lv_goto (tgt := 36) hx hb dX10_stop_109 (by decide) ?_
              exact ih36 (j + 1) (nI j) (uf_33 0) um_32 uf_33 us_34 (by omega) (by omega) _ _ _ (hP.sub [8, 9, 10, 11, 12, 13, 3, 14, 15, 4, 5, 6, 7, 0, 1, 2] rfl) (hD.sub [8, 9, 10, 11, 12, 13, 3, 14, 15, 4, 5, 6, 7, 0, 1, 2] (by decide) rfl) hS (lv_sub hl [3, 4, 5, 1, 2, 0] rfl)
      exact loop36 ((n + 1 - 0) + 1) 0 0 (-1) mo1 f1 sh (Nat.lt_succ_self _) (Nat.zero_le _) _ _ _ hP hD hS (lv_sub hl [3, 4, 5, 2, 1, 0] rfl)
set_option maxHeartbeats 4000000 in
set_option maxRecDepth 100000 in
theorem g_X10_stop1 (l : Launch) (g : he_G) (x0 : Nat) (y0 : Nat) (z0 : Nat) (dr : Nat) (pa : Nat) (s0 : Nat) (im : Nat) (tr : Nat) (v0 : Nat) (rf : Nat) (ta : Int32) (to_ : Int32) (ki : Int32) (p0 : Nat) (p1 : Nat) (p2 : Nat) (p3 : Nat) (p4 : Nat) (w : Nat) (sd : Nat → Int32) (fn : Nat → Int32) (st : Nat → Int32) (me : Nat → Int32) (a0 : Nat) (b0 : Nat) (e0 : Nat) (h0 : Nat) (q0 : Nat) (q1 : Nat) (mo : Int32) (f : Nat → Int32) (r0 : Nat) (r1 : Nat) (mo1 : Int32) (f1 : Nat → Int32) (sh : Nat → Int32) (n : Nat) (pf : Nat → Option Nat) (t0 : Nat) (t1 : Nat) (t2 : Nat) (pw : Int32) (pd : Nat → Int32) (wb : Nat → Int32) (ck : Nat) (ci : Nat) (hw6 : w ≤ 6) (hwb : ∀ k, k < 36 → -1 ≤ wb k) (hck : pd 3 = nI ck) (hc99 : ck ≤ 99) (hc7 : ci < 7) (hpf : pf ci = some t0) (hn1 : 1 ≤ n) (hn2 : n ≤ 60) (hF : (f 10 = nI ci ∨ he_within (f 10) 0 6 = 0)) : he_I l yX10_stop wsX10_stop 6 132 0 0 g [.ref x0, .int (nI n), .int 1] [(oX10 x0 y0 ta z0 p0 dr pa to_ s0 im ki tr v0 rf), (oX4 tr r0 r1 mo1), (aI g r0 24 f1), (aI g r1 6 sh), (oX6 p0 p1 p2 p3 p4 (nI w)), (aI g p1 24 sd), (aI g p2 10 fn), (aI g p3 6 st), (aI g p4 6 me), (aP g pa 7 pf), (oX5 t0 t1 t2 pw), (aI g t1 6 pd), (aI g t2 36 wb), (oX8 s0 h0 a0 b0 e0), (oX4 h0 q0 q1 mo), (aI g q0 24 f)] (fun (r : Int32) (u : Int32 × (Nat → Int32) × (Nat → Int32)) => True) (fun (u : Int32 × (Nat → Int32) × (Nat → Int32)) => [(oX10 x0 y0 ta z0 p0 dr pa to_ s0 im ki tr v0 rf), (oX4 tr r0 r1 u.1), (aI g r0 24 u.2.1), (aI g r1 6 u.2.2), (oX6 p0 p1 p2 p3 p4 (nI w)), (aI g p1 24 sd), (aI g p2 10 fn), (aI g p3 6 st), (aI g p4 6 me), (aP g pa 7 pf), (oX5 t0 t1 t2 pw), (aI g t1 6 pd), (aI g t2 36 wb), (oX8 s0 h0 a0 b0 e0), (oX4 h0 q0 q1 mo), (aI g q0 24 f)]) := by
  refine he_begin (l := l) (g := g) (y := yX10_stop) (wl := wsX10_stop) (fr := 6) (lo := 132) (mc := 0) (ms := 0) (av := [.ref x0, .int (nI n), .int 1]) (ws := [(oX10 x0 y0 ta z0 p0 dr pa to_ s0 im ki tr v0 rf), (oX4 tr r0 r1 mo1), (aI g r0 24 f1), (aI g r1 6 sh), (oX6 p0 p1 p2 p3 p4 (nI w)), (aI g p1 24 sd), (aI g p2 10 fn), (aI g p3 6 st), (aI g p4 6 me), (aP g pa 7 pf), (oX5 t0 t1 t2 pw), (aI g t1 6 pd), (aI g t2 36 wb), (oX8 s0 h0 a0 b0 e0), (oX4 h0 q0 q1 mo), (aI g q0 24 f)]) (cc := cX10_stop) (maxL := 6) (ret := (some .int)) (fun A => va_Qi (fun (r : Int32) (u : Int32 × (Nat → Int32) × (Nat → Int32)) => True) (fun u t => he_post g A ((fun (u : Int32 × (Nat → Int32) × (Nat → Int32)) => [(oX10 x0 y0 ta z0 p0 dr pa to_ s0 im ki tr v0 rf), (oX4 tr r0 r1 u.1), (aI g r0 24 u.2.1), (aI g r1 6 u.2.2), (oX6 p0 p1 p2 p3 p4 (nI w)), (aI g p1 24 sd), (aI g p2 10 fn), (aI g p3 6 st), (aI g p4 6 me), (aP g pa 7 pf), (oX5 t0 t1 t2 pw), (aI g t1 6 pd), (aI g t2 36 wb), (oX8 s0 h0 a0 b0 e0), (oX4 h0 q0 q1 mo), (aI g q0 24 f)]) u) t) A) (by decide) rfl (Nat.le_of_ble_eq_true rfl) ?_
  intro p e s m args below meth c A ls H locs Q hQ hB
  obtain ⟨hx, hb, hr, hml, hown, hts, hlk, hin, hP, hK, hD, hS, hA, hE, hl⟩ := hB
  have hl : lv_has ls 6 [(0, .ref x0), (1, .int (nI n)), (2, .int 1)] := hl
  have f50 := hts (.fieldLink RX10 50 "HiredEnemy" "trial" "LHiredEnemy$Course;") (iwoX10_stop (k := 0) rfl)
  have inX10 : ∀ w ∈ wsX100, w ∈ wsX10_stop := innX10_stop_X10
  have f39 := hts (.fieldLink RX10 39 "HiredEnemy" "scene" "LHiredEnemy$Scene;") (iwoX10_stop (k := 1) rfl)
  have f66 := hts (.fieldLink RX10 66 "HiredEnemy$Scene" "course" "LHiredEnemy$Course;") (iwoX10_stop (k := 2) rfl)
  have inX8 : ∀ w ∈ wsX80, w ∈ wsX10_stop := innX10_stop_X8
  have f111 := hts (.fieldLink RX10 111 "HiredEnemy$Course" "now" "[I") (iwoX10_stop (k := 3) rfl)
  have inX4 : ∀ w ∈ wsX40, w ∈ wsX10_stop := innX10_stop_X4
  refine lv_aload_n hx hb dX10_stop_0 rfl (lv_at hl 0 rfl) ?_
  refine lv_iload_n hx hb dX10_stop_1 rfl (lv_at hl 1 rfl) ?_
  refine lv_iconst (v := 1) hx hb dX10_stop_2 (by decide) ?_
  refine lv_bipush (v := 60) hx hb dX10_stop_3 (by decide) ?_
  refine he_ci (wc := []) (wr := [(oX10 x0 y0 ta z0 p0 dr pa to_ s0 im ki tr v0 rf), (oX4 tr r0 r1 mo1), (aI g r0 24 f1), (aI g r1 6 sh), (oX6 p0 p1 p2 p3 p4 (nI w)), (aI g p1 24 sd), (aI g p2 10 fn), (aI g p3 6 st), (aI g p4 6 me), (aP g pa 7 pf), (oX5 t0 t1 t2 pw), (aI g t1 6 pd), (aI g t2 36 wb), (oX8 s0 h0 a0 b0 e0), (oX4 h0 q0 q1 mo), (aI g q0 24 f)]) (va_runS (As := [.int (nI n), .int 1, .int 60]) (rest := [.ref x0]) ⟨hx, hb, hml, hown, hts⟩ (c_X10_within l g (nI n) 1 60 H.size) (va_cwS 3 hts gX10_stop_X10_within rfl rfl rfl (by decide +kernel) ⟨Nat.le_of_ble_eq_true rfl, Nat.le_of_ble_eq_true rfl⟩) (he_preS (wc := []) hK hP hD hS hA hE [] rfl rfl) rfl rfl hl.1 rfl (lv_room (Nat.le_of_ble_eq_true rfl)) dX10_stop_5 ⟨(Nat.le_of_ble_eq_true rfl), (Nat.le_of_ble_eq_true rfl)⟩) hP hD hS hA [] [0, 1, 2, 3, 4, 5, 6, 7, 8, 9, 10, 11, 12, 13, 14, 15] rfl rfl rfl (by decide) (fun r_1 u_2 H locs h_3 hP hD hS => ?_)
  subst h_3
  have hP : va_P g.1 vwCl [(oX10 x0 y0 ta z0 p0 dr pa to_ s0 im ki tr v0 rf), (oX4 tr r0 r1 mo1), (aI g r0 24 f1), (aI g r1 6 sh), (oX6 p0 p1 p2 p3 p4 (nI w)), (aI g p1 24 sd), (aI g p2 10 fn), (aI g p3 6 st), (aI g p4 6 me), (aP g pa 7 pf), (oX5 t0 t1 t2 pw), (aI g t1 6 pd), (aI g t2 36 wb), (oX8 s0 h0 a0 b0 e0), (oX4 h0 q0 q1 mo), (aI g q0 24 f)] H := hP
  have hD : va_D A [(oX10 x0 y0 ta z0 p0 dr pa to_ s0 im ki tr v0 rf), (oX4 tr r0 r1 mo1), (aI g r0 24 f1), (aI g r1 6 sh), (oX6 p0 p1 p2 p3 p4 (nI w)), (aI g p1 24 sd), (aI g p2 10 fn), (aI g p3 6 st), (aI g p4 6 me), (aP g pa 7 pf), (oX5 t0 t1 t2 pw), (aI g t1 6 pd), (aI g t2 36 wb), (oX8 s0 h0 a0 b0 e0), (oX4 h0 q0 q1 mo), (aI g q0 24 f)] := hD
  refine he_top (1) (he_within_in (a0 := 1) (B := 60) rfl rfl (by omega) (by omega) (by decide)) ?_
  refine lv_if_eq (tgt := 24) hx hb dX10_stop_8 (by decide) (fun c_4 => ?_) (fun c_4 => ?_)
  · exact absurd c_4 (by decide)
  · refine lv_iload_n hx hb dX10_stop_11 rfl (lv_at hl 2 rfl) ?_
    refine lv_iconst (v := 0) hx hb dX10_stop_12 (by decide) ?_
    refine lv_iconst (v := 1) hx hb dX10_stop_13 (by decide) ?_
    refine he_ci (wc := []) (wr := [(oX10 x0 y0 ta z0 p0 dr pa to_ s0 im ki tr v0 rf), (oX4 tr r0 r1 mo1), (aI g r0 24 f1), (aI g r1 6 sh), (oX6 p0 p1 p2 p3 p4 (nI w)), (aI g p1 24 sd), (aI g p2 10 fn), (aI g p3 6 st), (aI g p4 6 me), (aP g pa 7 pf), (oX5 t0 t1 t2 pw), (aI g t1 6 pd), (aI g t2 36 wb), (oX8 s0 h0 a0 b0 e0), (oX4 h0 q0 q1 mo), (aI g q0 24 f)]) (va_runS (As := [.int 1, .int 0, .int 1]) (rest := [.ref x0]) ⟨hx, hb, hml, hown, hts⟩ (c_X10_within l g 1 0 1 H.size) (va_cwS 3 hts gX10_stop_X10_within rfl rfl rfl (by decide +kernel) ⟨Nat.le_of_ble_eq_true rfl, Nat.le_of_ble_eq_true rfl⟩) (he_preS (wc := []) hK hP hD hS hA hE [] rfl rfl) rfl rfl hl.1 rfl (lv_room (Nat.le_of_ble_eq_true rfl)) dX10_stop_14 ⟨(Nat.le_of_ble_eq_true rfl), (Nat.le_of_ble_eq_true rfl)⟩) hP hD hS hA [] [0, 1, 2, 3, 4, 5, 6, 7, 8, 9, 10, 11, 12, 13, 14, 15] rfl rfl rfl (by decide) (fun r_5 u_6 H locs h_7 hP hD hS => ?_)
    subst h_7
    have hP : va_P g.1 vwCl [(oX10 x0 y0 ta z0 p0 dr pa to_ s0 im ki tr v0 rf), (oX4 tr r0 r1 mo1), (aI g r0 24 f1), (aI g r1 6 sh), (oX6 p0 p1 p2 p3 p4 (nI w)), (aI g p1 24 sd), (aI g p2 10 fn), (aI g p3 6 st), (aI g p4 6 me), (aP g pa 7 pf), (oX5 t0 t1 t2 pw), (aI g t1 6 pd), (aI g t2 36 wb), (oX8 s0 h0 a0 b0 e0), (oX4 h0 q0 q1 mo), (aI g q0 24 f)] H := hP
    have hD : va_D A [(oX10 x0 y0 ta z0 p0 dr pa to_ s0 im ki tr v0 rf), (oX4 tr r0 r1 mo1), (aI g r0 24 f1), (aI g r1 6 sh), (oX6 p0 p1 p2 p3 p4 (nI w)), (aI g p1 24 sd), (aI g p2 10 fn), (aI g p3 6 st), (aI g p4 6 me), (aP g pa 7 pf), (oX5 t0 t1 t2 pw), (aI g t1 6 pd), (aI g t2 36 wb), (oX8 s0 h0 a0 b0 e0), (oX4 h0 q0 q1 mo), (aI g q0 24 f)] := hD
    refine he_top (1) (by decide) ?_
    refine lv_if_eq (tgt := 24) hx hb dX10_stop_17 (by decide) (fun c_8 => ?_) (fun c_8 => ?_)
    · exact absurd c_8 (by decide)
    · refine lv_iconst (v := 1) hx hb dX10_stop_20 (by decide) ?_
      refine lv_goto (tgt := 25) hx hb dX10_stop_21 (by decide) ?_
      refine he_cv (wc := []) (wr := [(oX10 x0 y0 ta z0 p0 dr pa to_ s0 im ki tr v0 rf), (oX4 tr r0 r1 mo1), (aI g r0 24 f1), (aI g r1 6 sh), (oX6 p0 p1 p2 p3 p4 (nI w)), (aI g p1 24 sd), (aI g p2 10 fn), (aI g p3 6 st), (aI g p4 6 me), (aP g pa 7 pf), (oX5 t0 t1 t2 pw), (aI g t1 6 pd), (aI g t2 36 wb), (oX8 s0 h0 a0 b0 e0), (oX4 h0 q0 q1 mo), (aI g q0 24 f)]) (va_runV (As := [.int 1]) (rest := []) ⟨hx, hb, hml, hown, hts⟩ (c_X10_demand1 l g x0 H.size) (cwV 1 hts gX10_stop_X10_demand rfl rfl rfl (by decide +kernel) ⟨Nat.le_of_ble_eq_true rfl, Nat.le_of_ble_eq_true rfl⟩) (he_preV (wc := []) hK hP hD hS hA hE [] rfl rfl 0 rfl rfl) rfl rfl hl.1 rfl (lv_room (Nat.le_of_ble_eq_true rfl)) dX10_stop_25 ⟨(Nat.le_of_ble_eq_true rfl), (Nat.le_of_ble_eq_true rfl)⟩) hP hD hS hA [] [0, 1, 2, 3, 4, 5, 6, 7, 8, 9, 10, 11, 12, 13, 14, 15] rfl rfl rfl (by decide) (fun u_10 H locs h_11 hP hD hS => ?_)
      have hP : va_P g.1 vwCl [(oX10 x0 y0 ta z0 p0 dr pa to_ s0 im ki tr v0 rf), (oX4 tr r0 r1 mo1), (aI g r0 24 f1), (aI g r1 6 sh), (oX6 p0 p1 p2 p3 p4 (nI w)), (aI g p1 24 sd), (aI g p2 10 fn), (aI g p3 6 st), (aI g p4 6 me), (aP g pa 7 pf), (oX5 t0 t1 t2 pw), (aI g t1 6 pd), (aI g t2 36 wb), (oX8 s0 h0 a0 b0 e0), (oX4 h0 q0 q1 mo), (aI g q0 24 f)] H := hP
      have hD : va_D A [(oX10 x0 y0 ta z0 p0 dr pa to_ s0 im ki tr v0 rf), (oX4 tr r0 r1 mo1), (aI g r0 24 f1), (aI g r1 6 sh), (oX6 p0 p1 p2 p3 p4 (nI w)), (aI g p1 24 sd), (aI g p2 10 fn), (aI g p3 6 st), (aI g p4 6 me), (aP g pa 7 pf), (oX5 t0 t1 t2 pw), (aI g t1 6 pd), (aI g t2 36 wb), (oX8 s0 h0 a0 b0 e0), (oX4 h0 q0 q1 mo), (aI g q0 24 f)] := hD
      refine lv_iconst (v := 0) hx hb dX10_stop_28 (by decide) ?_
      refine lv_istore_n (lv' := [(3, .int 0), (0, .ref x0), (1, .int (nI n)), (2, .int 1)]) hx hb dX10_stop_29 rfl hl (by decide) rfl (fun ls hl => ?_)
      refine lv_iconst (v := (-1)) hx hb dX10_stop_30 (by decide) ?_
      refine lv_istore (lv' := [(4, .int (-1)), (3, .int 0), (0, .ref x0), (1, .int (nI n)), (2, .int 1)]) hx hb dX10_stop_31 hl (by decide) rfl (fun ls hl => ?_)
      refine lv_iconst (v := 0) hx hb dX10_stop_33 (by decide) ?_
      refine lv_istore (lv' := [(5, .int 0), (4, .int (-1)), (3, .int 0), (0, .ref x0), (1, .int (nI n)), (2, .int 1)]) hx hb dX10_stop_34 hl (by decide) rfl (fun ls hl => ?_)
      have loop36 : ∀ (n9 : Nat) (j : Nat) (bm : Int32) (ms : Int32) (mj : Int32) (F : Nat → Int32) (G : Nat → Int32), n + 1 - j < n9 → (j ≤ n + 1) → ∀ (H : Heap) (locs : List Loc) (ls : Array Slot), va_P g.1 vwCl [(oX10 x0 y0 ta z0 p0 dr pa to_ s0 im ki tr v0 rf), (oX4 tr r0 r1 mj), (aI g r0 24 F), (aI g r1 6 G), (oX6 p0 p1 p2 p3 p4 (nI w)), (aI g p1 24 sd), (aI g p2 10 fn), (aI g p3 6 st), (aI g p4 6 me), (aP g pa 7 pf), (oX5 t0 t1 t2 pw), (aI g t1 6 pd), (aI g t2 36 wb), (oX8 s0 h0 a0 b0 e0), (oX4 h0 q0 q1 mo), (aI g q0 24 f)] H → va_D A [(oX10 x0 y0 ta z0 p0 dr pa to_ s0 im ki tr v0 rf), (oX4 tr r0 r1 mj), (aI g r0 24 F), (aI g r1 6 G), (oX6 p0 p1 p2 p3 p4 (nI w)), (aI g p1 24 sd), (aI g p2 10 fn), (aI g p3 6 st), (aI g p4 6 me), (aP g pa 7 pf), (oX5 t0 t1 t2 pw), (aI g t1 6 pd), (aI g t2 36 wb), (oX8 s0 h0 a0 b0 e0), (oX4 h0 q0 q1 mo), (aI g q0 24 f)] → va_S A s.heap H locs → lv_has ls 6 [(0, .ref x0), (1, .int (nI n)), (2, .int 1), (3, .int bm), (4, .int ms), (5, .int (nI j))] → W p l e (he_room 6 132 0 0) s m args below meth c H locs 0 0 Q (F0 m 36 ls []) := by
        intro n9
        induction n9 with
        | zero => intro j bm ms mj F G hm9; exact absurd hm9 (Nat.not_lt_zero _)
        | succ n9 ih36 =>
          intro j bm ms mj F G hm9 hj H locs ls hP hD hS hl
          refine lv_iload hx hb dX10_stop_36 (lv_at hl 5 rfl) ?_
          refine lv_iload_n hx hb dX10_stop_38 rfl (lv_at hl 1 rfl) ?_
          refine lv_icmp_gt (tgt := 112) hx hb dX10_stop_39 (by decide) (fun c_12 => ?_) (fun c_12 => ?_)
          · have k_13 : n < j := (he_clt (a := n) (b := j) rfl rfl (by omega) (by omega)).mp c_12
            refine lv_iload_n hx hb dX10_stop_112 rfl (lv_at hl 2 rfl) ?_
            refine lv_if_ne (tgt := 120) hx hb dX10_stop_113 (by decide) (fun c_14 => ?_) (fun c_14 => ?_)
            · refine lv_iload hx hb dX10_stop_120 (lv_at hl 4 rfl) ?_
              exact he_ri hQ hx hb hr hlk hP hD hS dX10_stop_122 (Nat.le_of_ble_eq_true rfl) (Nat.le_of_ble_eq_true rfl) ((mj, F, G)) (rfl) (trivial)
            · exact absurd c_14 (by decide)
          · have k_15 : ¬ (n < j) := fun h9 => c_12 ((he_clt (a := n) (b := j) rfl rfl (by omega) (by omega)).mpr h9)
            refine lv_aload_n hx hb dX10_stop_42 rfl (lv_at hl 0 rfl) ?_
            refine va_get (v := .ref tr) (T := TX10) (N := 13) hx hb hts inX10 hown hK hP 0 rfl rfl 10 (by decide) f50 (fun _ h9 => h9) rfl dX10_stop_43 ?_
            refine lv_aload_n hx hb dX10_stop_46 rfl (lv_at hl 0 rfl) ?_
            refine va_get (v := .ref s0) (T := TX10) (N := 13) hx hb hts inX10 hown hK hP 0 rfl rfl 7 (by decide) f39 (fun _ h9 => h9) rfl dX10_stop_47 ?_
            refine va_get (v := .ref h0) (T := TX8) (N := 4) hx hb hts inX8 hown hK hP 13 rfl rfl 0 (by decide) f66 (fun _ h9 => h9) rfl dX10_stop_50 ?_
            refine he_cv (wc := [(oX4 tr r0 r1 mj), (aI g r0 24 F), (oX4 h0 q0 q1 mo), (aI g q0 24 f)]) (wr := [(oX10 x0 y0 ta z0 p0 dr pa to_ s0 im ki tr v0 rf), (aI g r1 6 G), (oX6 p0 p1 p2 p3 p4 (nI w)), (aI g p1 24 sd), (aI g p2 10 fn), (aI g p3 6 st), (aI g p4 6 me), (aP g pa 7 pf), (oX5 t0 t1 t2 pw), (aI g t1 6 pd), (aI g t2 36 wb), (oX8 s0 h0 a0 b0 e0)]) (va_runV (As := [.ref h0]) (rest := []) ⟨hx, hb, hml, hown, hts⟩ (c_X4_take l g tr r0 r1 mj F h0 q0 q1 mo f H.size) (cwV 1 hts gX10_stop_X4_take rfl rfl rfl (by decide +kernel) ⟨Nat.le_of_ble_eq_true rfl, Nat.le_of_ble_eq_true rfl⟩) (he_preV (wc := [(oX4 tr r0 r1 mj), (aI g r0 24 F), (oX4 h0 q0 q1 mo), (aI g q0 24 f)]) hK hP hD hS hA hE [1, 2, 14, 15] rfl rfl 1 rfl rfl) rfl rfl hl.1 rfl (lv_room (Nat.le_of_ble_eq_true rfl)) dX10_stop_53 ⟨(Nat.le_of_ble_eq_true rfl), (Nat.le_of_ble_eq_true rfl)⟩) hP hD hS hA [1, 2, 14, 15] [0, 3, 4, 5, 6, 7, 8, 9, 10, 11, 12, 13] rfl rfl rfl (by decide) (fun u_17 H locs h_18 hP hD hS => ?_)
            have hP : va_P g.1 vwCl [(oX10 x0 y0 ta z0 p0 dr pa to_ s0 im ki tr v0 rf), (aI g r1 6 G), (oX6 p0 p1 p2 p3 p4 (nI w)), (aI g p1 24 sd), (aI g p2 10 fn), (aI g p3 6 st), (aI g p4 6 me), (aP g pa 7 pf), (oX5 t0 t1 t2 pw), (aI g t1 6 pd), (aI g t2 36 wb), (oX8 s0 h0 a0 b0 e0), (oX4 tr r0 r1 mo), (aI g r0 24 (va_cpy f F 0 0 24)), (oX4 h0 q0 q1 mo), (aI g q0 24 f)] H := hP
            have hD : va_D A [(oX10 x0 y0 ta z0 p0 dr pa to_ s0 im ki tr v0 rf), (aI g r1 6 G), (oX6 p0 p1 p2 p3 p4 (nI w)), (aI g p1 24 sd), (aI g p2 10 fn), (aI g p3 6 st), (aI g p4 6 me), (aP g pa 7 pf), (oX5 t0 t1 t2 pw), (aI g t1 6 pd), (aI g t2 36 wb), (oX8 s0 h0 a0 b0 e0), (oX4 tr r0 r1 mo), (aI g r0 24 (va_cpy f F 0 0 24)), (oX4 h0 q0 q1 mo), (aI g q0 24 f)] := hD
            refine lv_aload_n hx hb dX10_stop_56 rfl (lv_at hl 0 rfl) ?_
            refine lv_iload hx hb dX10_stop_57 (lv_at hl 5 rfl) ?_
            refine he_cv (wc := [(oX10 x0 y0 ta z0 p0 dr pa to_ s0 im ki tr v0 rf), (oX4 tr r0 r1 mo), (aI g r0 24 (va_cpy f F 0 0 24)), (aI g r1 6 G), (oX6 p0 p1 p2 p3 p4 (nI w)), (aI g p1 24 sd), (aI g p2 10 fn), (aI g p3 6 st), (aI g p4 6 me), (aP g pa 7 pf), (oX5 t0 t1 t2 pw), (aI g t1 6 pd), (aI g t2 36 wb)]) (wr := [(oX8 s0 h0 a0 b0 e0), (oX4 h0 q0 q1 mo), (aI g q0 24 f)]) (va_runV (As := [.int (nI j)]) (rest := []) ⟨hx, hb, hml, hown, hts⟩ (g_X10_passTried l g x0 y0 z0 dr pa s0 im tr v0 rf ta to_ ki p0 p1 p2 p3 p4 w sd fn st me r0 r1 mo (va_cpy f F 0 0 24) G j pf t0 t1 t2 pw pd wb ck ci (by first | assumption | decide | omega) (by first | assumption | decide | omega) (by first | assumption | decide | omega) (by first | assumption | decide | omega) (by first | assumption | decide | omega) (by first | assumption | decide | omega) (by rw [cpy_in (by decide)]; exact hF) (by omega) H.size) (cwV 1 hts gX10_stop_X10_passTried rfl rfl rfl (by decide +kernel) ⟨Nat.le_of_ble_eq_true rfl, Nat.le_of_ble_eq_true rfl⟩) (he_preV (wc := [(oX10 x0 y0 ta z0 p0 dr pa to_ s0 im ki tr v0 rf), (oX4 tr r0 r1 mo), (aI g r0 24 (va_cpy f F 0 0 24)), (aI g r1 6 G), (oX6 p0 p1 p2 p3 p4 (nI w)), (aI g p1 24 sd), (aI g p2 10 fn), (aI g p3 6 st), (aI g p4 6 me), (aP g pa 7 pf), (oX5 t0 t1 t2 pw), (aI g t1 6 pd), (aI g t2 36 wb)]) hK hP hD hS hA hE [0, 12, 13, 1, 2, 3, 4, 5, 6, 7, 8, 9, 10] rfl rfl 0 rfl rfl) rfl rfl hl.1 rfl (lv_room (Nat.le_of_ble_eq_true rfl)) dX10_stop_59 ⟨(Nat.le_of_ble_eq_true rfl), (Nat.le_of_ble_eq_true rfl)⟩) hP hD hS hA [0, 12, 13, 1, 2, 3, 4, 5, 6, 7, 8, 9, 10] [11, 14, 15] rfl rfl rfl (by decide) (fun u_20 H locs h_21 hP hD hS => ?_)
            obtain ⟨um_22, uf_23, us_24⟩ := u_20
            try dsimp only at h_21
            have hf_25 := h_21
            have hP : va_P g.1 vwCl [(oX8 s0 h0 a0 b0 e0), (oX4 h0 q0 q1 mo), (aI g q0 24 f), (oX10 x0 y0 ta z0 p0 dr pa to_ s0 im ki tr v0 rf), (oX4 tr r0 r1 um_22), (aI g r0 24 uf_23), (aI g r1 6 us_24), (oX6 p0 p1 p2 p3 p4 (nI w)), (aI g p1 24 sd), (aI g p2 10 fn), (aI g p3 6 st), (aI g p4 6 me), (aP g pa 7 pf), (oX5 t0 t1 t2 pw), (aI g t1 6 pd), (aI g t2 36 wb)] H := hP
            have hD : va_D A [(oX8 s0 h0 a0 b0 e0), (oX4 h0 q0 q1 mo), (aI g q0 24 f), (oX10 x0 y0 ta z0 p0 dr pa to_ s0 im ki tr v0 rf), (oX4 tr r0 r1 um_22), (aI g r0 24 uf_23), (aI g r1 6 us_24), (oX6 p0 p1 p2 p3 p4 (nI w)), (aI g p1 24 sd), (aI g p2 10 fn), (aI g p3 6 st), (aI g p4 6 me), (aP g pa 7 pf), (oX5 t0 t1 t2 pw), (aI g t1 6 pd), (aI g t2 36 wb)] := hD
            refine lv_aload_n hx hb dX10_stop_62 rfl (lv_at hl 0 rfl) ?_
            refine va_get (v := .ref tr) (T := TX10) (N := 13) hx hb hts inX10 hown hK hP 3 rfl rfl 10 (by decide) f50 (fun _ h9 => h9) rfl dX10_stop_63 ?_
            refine lv_iconst (v := (-1)) hx hb dX10_stop_66 (by decide) ?_
            refine he_cv (wc := [(oX4 tr r0 r1 um_22), (aI g r0 24 uf_23)]) (wr := [(oX8 s0 h0 a0 b0 e0), (oX4 h0 q0 q1 mo), (aI g q0 24 f), (oX10 x0 y0 ta z0 p0 dr pa to_ s0 im ki tr v0 rf), (aI g r1 6 us_24), (oX6 p0 p1 p2 p3 p4 (nI w)), (aI g p1 24 sd), (aI g p2 10 fn), (aI g p3 6 st), (aI g p4 6 me), (aP g pa 7 pf), (oX5 t0 t1 t2 pw), (aI g t1 6 pd), (aI g t2 36 wb)]) (va_runV (As := [.int (-1)]) (rest := []) ⟨hx, hb, hml, hown, hts⟩ (c_X4_pledge l g tr r0 r1 um_22 uf_23 (-1) H.size) (cwV 1 hts gX10_stop_X4_pledge rfl rfl rfl (by decide +kernel) ⟨Nat.le_of_ble_eq_true rfl, Nat.le_of_ble_eq_true rfl⟩) (he_preV (wc := [(oX4 tr r0 r1 um_22), (aI g r0 24 uf_23)]) hK hP hD hS hA hE [4, 5] rfl rfl 4 rfl rfl) rfl rfl hl.1 rfl (lv_room (Nat.le_of_ble_eq_true rfl)) dX10_stop_67 ⟨(Nat.le_of_ble_eq_true rfl), (Nat.le_of_ble_eq_true rfl)⟩) hP hD hS hA [4, 5] [0, 1, 2, 3, 6, 7, 8, 9, 10, 11, 12, 13, 14, 15] rfl rfl rfl (by decide) (fun u_27 H locs h_28 hP hD hS => ?_)
            have hP : va_P g.1 vwCl [(oX8 s0 h0 a0 b0 e0), (oX4 h0 q0 q1 mo), (aI g q0 24 f), (oX10 x0 y0 ta z0 p0 dr pa to_ s0 im ki tr v0 rf), (aI g r1 6 us_24), (oX6 p0 p1 p2 p3 p4 (nI w)), (aI g p1 24 sd), (aI g p2 10 fn), (aI g p3 6 st), (aI g p4 6 me), (aP g pa 7 pf), (oX5 t0 t1 t2 pw), (aI g t1 6 pd), (aI g t2 36 wb), (oX4 tr r0 r1 um_22), (aI g r0 24 (fcF uf_23 (-1) um_22))] H := hP
            have hD : va_D A [(oX8 s0 h0 a0 b0 e0), (oX4 h0 q0 q1 mo), (aI g q0 24 f), (oX10 x0 y0 ta z0 p0 dr pa to_ s0 im ki tr v0 rf), (aI g r1 6 us_24), (oX6 p0 p1 p2 p3 p4 (nI w)), (aI g p1 24 sd), (aI g p2 10 fn), (aI g p3 6 st), (aI g p4 6 me), (aP g pa 7 pf), (oX5 t0 t1 t2 pw), (aI g t1 6 pd), (aI g t2 36 wb), (oX4 tr r0 r1 um_22), (aI g r0 24 (fcF uf_23 (-1) um_22))] := hD
            refine lv_aload_n hx hb dX10_stop_70 rfl (lv_at hl 0 rfl) ?_
            refine lv_iload_n hx hb dX10_stop_71 rfl (lv_at hl 1 rfl) ?_
            refine lv_iload hx hb dX10_stop_72 (lv_at hl 5 rfl) ?_
            refine lv_isub hx hb dX10_stop_74 ?_
            refine he_top (nI (n - j)) (pk_sub (by omega)) ?_
            refine he_cv (wc := [(oX10 x0 y0 ta z0 p0 dr pa to_ s0 im ki tr v0 rf), (oX4 tr r0 r1 um_22), (aI g r0 24 (fcF uf_23 (-1) um_22)), (aI g r1 6 us_24), (oX6 p0 p1 p2 p3 p4 (nI w)), (aI g p1 24 sd), (aI g p3 6 st), (aI g p4 6 me)]) (wr := [(oX8 s0 h0 a0 b0 e0), (oX4 h0 q0 q1 mo), (aI g q0 24 f), (aI g p2 10 fn), (aP g pa 7 pf), (oX5 t0 t1 t2 pw), (aI g t1 6 pd), (aI g t2 36 wb)]) (va_runV (As := [.int (nI (n - j))]) (rest := []) ⟨hx, hb, hml, hown, hts⟩ (g_X10_passTriedN l g x0 y0 z0 dr pa s0 im tr v0 rf ta to_ ki p0 p1 p2 p3 p4 w sd st me r0 r1 um_22 (fcF uf_23 (-1) um_22) us_24 (n - j) (by first | assumption | decide | omega) (by rw [fcF_10]; exact m1_out 6) (by omega) H.size) (cwV 1 hts gX10_stop_X10_passTried rfl rfl rfl (by decide +kernel) ⟨Nat.le_of_ble_eq_true rfl, Nat.le_of_ble_eq_true rfl⟩) (he_preV (wc := [(oX10 x0 y0 ta z0 p0 dr pa to_ s0 im ki tr v0 rf), (oX4 tr r0 r1 um_22), (aI g r0 24 (fcF uf_23 (-1) um_22)), (aI g r1 6 us_24), (oX6 p0 p1 p2 p3 p4 (nI w)), (aI g p1 24 sd), (aI g p3 6 st), (aI g p4 6 me)]) hK hP hD hS hA hE [3, 14, 15, 4, 5, 6, 8, 9] rfl rfl 3 rfl rfl) rfl rfl hl.1 rfl (lv_room (Nat.le_of_ble_eq_true rfl)) dX10_stop_75 ⟨(Nat.le_of_ble_eq_true rfl), (Nat.le_of_ble_eq_true rfl)⟩) hP hD hS hA [3, 14, 15, 4, 5, 6, 8, 9] [0, 1, 2, 7, 10, 11, 12, 13] rfl rfl rfl (by decide) (fun u_30 H locs h_31 hP hD hS => ?_)
            obtain ⟨um_32, uf_33, us_34⟩ := u_30
            have hP : va_P g.1 vwCl [(oX8 s0 h0 a0 b0 e0), (oX4 h0 q0 q1 mo), (aI g q0 24 f), (aI g p2 10 fn), (aP g pa 7 pf), (oX5 t0 t1 t2 pw), (aI g t1 6 pd), (aI g t2 36 wb), (oX10 x0 y0 ta z0 p0 dr pa to_ s0 im ki tr v0 rf), (oX4 tr r0 r1 um_32), (aI g r0 24 uf_33), (aI g r1 6 us_34), (oX6 p0 p1 p2 p3 p4 (nI w)), (aI g p1 24 sd), (aI g p3 6 st), (aI g p4 6 me)] H := hP
            have hD : va_D A [(oX8 s0 h0 a0 b0 e0), (oX4 h0 q0 q1 mo), (aI g q0 24 f), (aI g p2 10 fn), (aP g pa 7 pf), (oX5 t0 t1 t2 pw), (aI g t1 6 pd), (aI g t2 36 wb), (oX10 x0 y0 ta z0 p0 dr pa to_ s0 im ki tr v0 rf), (oX4 tr r0 r1 um_32), (aI g r0 24 uf_33), (aI g r1 6 us_34), (oX6 p0 p1 p2 p3 p4 (nI w)), (aI g p1 24 sd), (aI g p3 6 st), (aI g p4 6 me)] := hD
            refine lv_aload_n hx hb dX10_stop_78 rfl (lv_at hl 0 rfl) ?_
            refine va_get (v := .ref tr) (T := TX10) (N := 13) hx hb hts inX10 hown hK hP 8 rfl rfl 10 (by decide) f50 (fun _ h9 => h9) rfl dX10_stop_79 ?_
            refine va_get (v := .ref r0) (T := TX4) (N := 3) hx hb hts inX4 hown hK hP 9 rfl rfl 0 (by decide) f111 (fun _ h9 => h9) rfl dX10_stop_82 ?_
            refine lv_iconst (v := 0) hx hb dX10_stop_85 (by decide) ?_
            refine he_iald hx hb hK hP 10 rfl (0) (by decide) (by decide) (by first | decide | assumption) (uf_33 0) rfl dX10_stop_86 ?_
            refine lv_iload hx hb dX10_stop_87 (lv_at hl 4 rfl) ?_
            refine lv_icmp_le (tgt := 106) hx hb dX10_stop_89 (by decide) (fun c_35 => ?_) (fun c_35 => ?_)
            · refine lv_iinc (v := nI (j + 1)) (lv' := [(5, .int (nI (j + 1))), (0, .ref x0), (1, .int (nI n)), (2, .int 1), (3, .int bm), (4, .int ms)]) hx hb dX10_stop_106 hl (k := 5) rfl (nI_1 j) (by decide) rfl (fun ls hl => ?_)
              refine lv_goto (tgt := 36) hx hb dX10_stop_109 (by decide) ?_
              exact ih36 (j + 1) bm ms um_32 uf_33 us_34 (by omega) (by omega) _ _ _ (hP.sub [8, 9, 10, 11, 12, 13, 3, 14, 15, 4, 5, 6, 7, 0, 1, 2] rfl) (hD.sub [8, 9, 10, 11, 12, 13, 3, 14, 15, 4, 5, 6, 7, 0, 1, 2] (by decide) rfl) hS (lv_sub hl [1, 2, 3, 4, 5, 0] rfl)
            · refine lv_aload_n hx hb dX10_stop_92 rfl (lv_at hl 0 rfl) ?_
              refine va_get (v := .ref tr) (T := TX10) (N := 13) hx hb hts inX10 hown hK hP 8 rfl rfl 10 (by decide) f50 (fun _ h9 => h9) rfl dX10_stop_93 ?_
              refine va_get (v := .ref r0) (T := TX4) (N := 3) hx hb hts inX4 hown hK hP 9 rfl rfl 0 (by decide) f111 (fun _ h9 => h9) rfl dX10_stop_96 ?_
              refine lv_iconst (v := 0) hx hb dX10_stop_99 (by decide) ?_
              refine he_iald hx hb hK hP 10 rfl (0) (by decide) (by decide) (by first | decide | assumption) (uf_33 0) rfl dX10_stop_100 ?_
              refine lv_istore (lv' := [(4, .int (uf_33 0)), (0, .ref x0), (1, .int (nI n)), (2, .int 1), (3, .int bm), (5, .int (nI j))]) hx hb dX10_stop_101 hl (by decide) rfl (fun ls hl => ?_)
              refine lv_iload hx hb dX10_stop_103 (lv_at hl 5 rfl) ?_
              refine lv_istore_n (lv' := [(3, .int (nI j)), (4, .int (uf_33 0)), (0, .ref x0), (1, .int (nI n)), (2, .int 1), (5, .int (nI j))]) hx hb dX10_stop_105 rfl hl (by decide) rfl (fun ls hl => ?_)
              refine lv_iinc (v := nI (j + 1)) (lv' := [(5, .int (nI (j + 1))), (3, .int (nI j)), (4, .int (uf_33 0)), (0, .ref x0), (1, .int (nI n)), (2, .int 1)]) hx hb dX10_stop_106 hl (k := 5) rfl (nI_1 j) (by decide) rfl (fun ls hl => ?_)
              refine lv_goto (tgt := 36) hx hb dX10_stop_109 (by decide) ?_
              exact ih36 (j + 1) (nI j) (uf_33 0) um_32 uf_33 us_34 (by omega) (by omega) _ _ _ (hP.sub [8, 9, 10, 11, 12, 13, 3, 14, 15, 4, 5, 6, 7, 0, 1, 2] rfl) (hD.sub [8, 9, 10, 11, 12, 13, 3, 14, 15, 4, 5, 6, 7, 0, 1, 2] (by decide) rfl) hS (lv_sub hl [3, 4, 5, 1, 2, 0] rfl)
      exact loop36 ((n + 1 - 0) + 1) 0 0 (-1) mo1 f1 sh (Nat.lt_succ_self _) (Nat.zero_le _) _ _ _ hP hD hS (lv_sub hl [3, 4, 5, 2, 1, 0] rfl)
set_option maxHeartbeats 4000000 in
set_option maxRecDepth 100000 in
theorem g_X10_stopN0 (l : Launch) (g : he_G) (x0 : Nat) (y0 : Nat) (z0 : Nat) (dr : Nat) (pa : Nat) (s0 : Nat) (im : Nat) (tr : Nat) (v0 : Nat) (rf : Nat) (ta : Int32) (to_ : Int32) (ki : Int32) (p0 : Nat) (p1 : Nat) (p2 : Nat) (p3 : Nat) (p4 : Nat) (w : Nat) (sd : Nat → Int32) (st : Nat → Int32) (me : Nat → Int32) (a0 : Nat) (b0 : Nat) (e0 : Nat) (h0 : Nat) (q0 : Nat) (q1 : Nat) (mo : Int32) (f : Nat → Int32) (r0 : Nat) (r1 : Nat) (mo1 : Int32) (f1 : Nat → Int32) (sh : Nat → Int32) (n : Nat) (hw6 : w ≤ 6) (hn1 : 1 ≤ n) (hn2 : n ≤ 60) (hno : he_within (f 10) 0 6 = 0) : he_I l yX10_stop wsX10_stop 5 105 0 0 g [.ref x0, .int (nI n), .int 0] [(oX10 x0 y0 ta z0 p0 dr pa to_ s0 im ki tr v0 rf), (oX4 tr r0 r1 mo1), (aI g r0 24 f1), (aI g r1 6 sh), (oX6 p0 p1 p2 p3 p4 (nI w)), (aI g p1 24 sd), (aI g p3 6 st), (aI g p4 6 me), (oX8 s0 h0 a0 b0 e0), (oX4 h0 q0 q1 mo), (aI g q0 24 f)] (fun (r : Int32) (u : Int32 × (Nat → Int32) × (Nat → Int32)) => True) (fun (u : Int32 × (Nat → Int32) × (Nat → Int32)) => [(oX10 x0 y0 ta z0 p0 dr pa to_ s0 im ki tr v0 rf), (oX4 tr r0 r1 u.1), (aI g r0 24 u.2.1), (aI g r1 6 u.2.2), (oX6 p0 p1 p2 p3 p4 (nI w)), (aI g p1 24 sd), (aI g p3 6 st), (aI g p4 6 me), (oX8 s0 h0 a0 b0 e0), (oX4 h0 q0 q1 mo), (aI g q0 24 f)]) := by
  refine he_begin (l := l) (g := g) (y := yX10_stop) (wl := wsX10_stop) (fr := 5) (lo := 105) (mc := 0) (ms := 0) (av := [.ref x0, .int (nI n), .int 0]) (ws := [(oX10 x0 y0 ta z0 p0 dr pa to_ s0 im ki tr v0 rf), (oX4 tr r0 r1 mo1), (aI g r0 24 f1), (aI g r1 6 sh), (oX6 p0 p1 p2 p3 p4 (nI w)), (aI g p1 24 sd), (aI g p3 6 st), (aI g p4 6 me), (oX8 s0 h0 a0 b0 e0), (oX4 h0 q0 q1 mo), (aI g q0 24 f)]) (cc := cX10_stop) (maxL := 6) (ret := (some .int)) (fun A => va_Qi (fun (r : Int32) (u : Int32 × (Nat → Int32) × (Nat → Int32)) => True) (fun u t => he_post g A ((fun (u : Int32 × (Nat → Int32) × (Nat → Int32)) => [(oX10 x0 y0 ta z0 p0 dr pa to_ s0 im ki tr v0 rf), (oX4 tr r0 r1 u.1), (aI g r0 24 u.2.1), (aI g r1 6 u.2.2), (oX6 p0 p1 p2 p3 p4 (nI w)), (aI g p1 24 sd), (aI g p3 6 st), (aI g p4 6 me), (oX8 s0 h0 a0 b0 e0), (oX4 h0 q0 q1 mo), (aI g q0 24 f)]) u) t) A) (by decide) rfl (Nat.le_of_ble_eq_true rfl) ?_
  intro p e s m args below meth c A ls H locs Q hQ hB
  obtain ⟨hx, hb, hr, hml, hown, hts, hlk, hin, hP, hK, hD, hS, hA, hE, hl⟩ := hB
  have hl : lv_has ls 6 [(0, .ref x0), (1, .int (nI n)), (2, .int 0)] := hl
  have f50 := hts (.fieldLink RX10 50 "HiredEnemy" "trial" "LHiredEnemy$Course;") (iwoX10_stop (k := 0) rfl)
  have inX10 : ∀ w ∈ wsX100, w ∈ wsX10_stop := innX10_stop_X10
  have f39 := hts (.fieldLink RX10 39 "HiredEnemy" "scene" "LHiredEnemy$Scene;") (iwoX10_stop (k := 1) rfl)
  have f66 := hts (.fieldLink RX10 66 "HiredEnemy$Scene" "course" "LHiredEnemy$Course;") (iwoX10_stop (k := 2) rfl)
  have inX8 : ∀ w ∈ wsX80, w ∈ wsX10_stop := innX10_stop_X8
  have f111 := hts (.fieldLink RX10 111 "HiredEnemy$Course" "now" "[I") (iwoX10_stop (k := 3) rfl)
  have inX4 : ∀ w ∈ wsX40, w ∈ wsX10_stop := innX10_stop_X4
  refine lv_aload_n hx hb dX10_stop_0 rfl (lv_at hl 0 rfl) ?_
  refine lv_iload_n hx hb dX10_stop_1 rfl (lv_at hl 1 rfl) ?_
  refine lv_iconst (v := 1) hx hb dX10_stop_2 (by decide) ?_
  refine lv_bipush (v := 60) hx hb dX10_stop_3 (by decide) ?_
  refine he_ci (wc := []) (wr := [(oX10 x0 y0 ta z0 p0 dr pa to_ s0 im ki tr v0 rf), (oX4 tr r0 r1 mo1), (aI g r0 24 f1), (aI g r1 6 sh), (oX6 p0 p1 p2 p3 p4 (nI w)), (aI g p1 24 sd), (aI g p3 6 st), (aI g p4 6 me), (oX8 s0 h0 a0 b0 e0), (oX4 h0 q0 q1 mo), (aI g q0 24 f)]) (va_runS (As := [.int (nI n), .int 1, .int 60]) (rest := [.ref x0]) ⟨hx, hb, hml, hown, hts⟩ (c_X10_within l g (nI n) 1 60 H.size) (va_cwS 3 hts gX10_stop_X10_within rfl rfl rfl (by decide +kernel) ⟨Nat.le_of_ble_eq_true rfl, Nat.le_of_ble_eq_true rfl⟩) (he_preS (wc := []) hK hP hD hS hA hE [] rfl rfl) rfl rfl hl.1 rfl (lv_room (Nat.le_of_ble_eq_true rfl)) dX10_stop_5 ⟨(Nat.le_of_ble_eq_true rfl), (Nat.le_of_ble_eq_true rfl)⟩) hP hD hS hA [] [0, 1, 2, 3, 4, 5, 6, 7, 8, 9, 10] rfl rfl rfl (by decide) (fun r_1 u_2 H locs h_3 hP hD hS => ?_)
  subst h_3
  have hP : va_P g.1 vwCl [(oX10 x0 y0 ta z0 p0 dr pa to_ s0 im ki tr v0 rf), (oX4 tr r0 r1 mo1), (aI g r0 24 f1), (aI g r1 6 sh), (oX6 p0 p1 p2 p3 p4 (nI w)), (aI g p1 24 sd), (aI g p3 6 st), (aI g p4 6 me), (oX8 s0 h0 a0 b0 e0), (oX4 h0 q0 q1 mo), (aI g q0 24 f)] H := hP
  have hD : va_D A [(oX10 x0 y0 ta z0 p0 dr pa to_ s0 im ki tr v0 rf), (oX4 tr r0 r1 mo1), (aI g r0 24 f1), (aI g r1 6 sh), (oX6 p0 p1 p2 p3 p4 (nI w)), (aI g p1 24 sd), (aI g p3 6 st), (aI g p4 6 me), (oX8 s0 h0 a0 b0 e0), (oX4 h0 q0 q1 mo), (aI g q0 24 f)] := hD
  refine he_top (1) (he_within_in (a0 := 1) (B := 60) rfl rfl (by omega) (by omega) (by decide)) ?_
  refine lv_if_eq (tgt := 24) hx hb dX10_stop_8 (by decide) (fun c_4 => ?_) (fun c_4 => ?_)
  · exact absurd c_4 (by decide)
  · refine lv_iload_n hx hb dX10_stop_11 rfl (lv_at hl 2 rfl) ?_
    refine lv_iconst (v := 0) hx hb dX10_stop_12 (by decide) ?_
    refine lv_iconst (v := 1) hx hb dX10_stop_13 (by decide) ?_
    refine he_ci (wc := []) (wr := [(oX10 x0 y0 ta z0 p0 dr pa to_ s0 im ki tr v0 rf), (oX4 tr r0 r1 mo1), (aI g r0 24 f1), (aI g r1 6 sh), (oX6 p0 p1 p2 p3 p4 (nI w)), (aI g p1 24 sd), (aI g p3 6 st), (aI g p4 6 me), (oX8 s0 h0 a0 b0 e0), (oX4 h0 q0 q1 mo), (aI g q0 24 f)]) (va_runS (As := [.int 0, .int 0, .int 1]) (rest := [.ref x0]) ⟨hx, hb, hml, hown, hts⟩ (c_X10_within l g 0 0 1 H.size) (va_cwS 3 hts gX10_stop_X10_within rfl rfl rfl (by decide +kernel) ⟨Nat.le_of_ble_eq_true rfl, Nat.le_of_ble_eq_true rfl⟩) (he_preS (wc := []) hK hP hD hS hA hE [] rfl rfl) rfl rfl hl.1 rfl (lv_room (Nat.le_of_ble_eq_true rfl)) dX10_stop_14 ⟨(Nat.le_of_ble_eq_true rfl), (Nat.le_of_ble_eq_true rfl)⟩) hP hD hS hA [] [0, 1, 2, 3, 4, 5, 6, 7, 8, 9, 10] rfl rfl rfl (by decide) (fun r_5 u_6 H locs h_7 hP hD hS => ?_)
    subst h_7
    have hP : va_P g.1 vwCl [(oX10 x0 y0 ta z0 p0 dr pa to_ s0 im ki tr v0 rf), (oX4 tr r0 r1 mo1), (aI g r0 24 f1), (aI g r1 6 sh), (oX6 p0 p1 p2 p3 p4 (nI w)), (aI g p1 24 sd), (aI g p3 6 st), (aI g p4 6 me), (oX8 s0 h0 a0 b0 e0), (oX4 h0 q0 q1 mo), (aI g q0 24 f)] H := hP
    have hD : va_D A [(oX10 x0 y0 ta z0 p0 dr pa to_ s0 im ki tr v0 rf), (oX4 tr r0 r1 mo1), (aI g r0 24 f1), (aI g r1 6 sh), (oX6 p0 p1 p2 p3 p4 (nI w)), (aI g p1 24 sd), (aI g p3 6 st), (aI g p4 6 me), (oX8 s0 h0 a0 b0 e0), (oX4 h0 q0 q1 mo), (aI g q0 24 f)] := hD
    refine he_top (1) (by decide) ?_
    refine lv_if_eq (tgt := 24) hx hb dX10_stop_17 (by decide) (fun c_8 => ?_) (fun c_8 => ?_)
    · exact absurd c_8 (by decide)
    · refine lv_iconst (v := 1) hx hb dX10_stop_20 (by decide) ?_
      refine lv_goto (tgt := 25) hx hb dX10_stop_21 (by decide) ?_
      refine he_cv (wc := []) (wr := [(oX10 x0 y0 ta z0 p0 dr pa to_ s0 im ki tr v0 rf), (oX4 tr r0 r1 mo1), (aI g r0 24 f1), (aI g r1 6 sh), (oX6 p0 p1 p2 p3 p4 (nI w)), (aI g p1 24 sd), (aI g p3 6 st), (aI g p4 6 me), (oX8 s0 h0 a0 b0 e0), (oX4 h0 q0 q1 mo), (aI g q0 24 f)]) (va_runV (As := [.int 1]) (rest := []) ⟨hx, hb, hml, hown, hts⟩ (c_X10_demand1 l g x0 H.size) (cwV 1 hts gX10_stop_X10_demand rfl rfl rfl (by decide +kernel) ⟨Nat.le_of_ble_eq_true rfl, Nat.le_of_ble_eq_true rfl⟩) (he_preV (wc := []) hK hP hD hS hA hE [] rfl rfl 0 rfl rfl) rfl rfl hl.1 rfl (lv_room (Nat.le_of_ble_eq_true rfl)) dX10_stop_25 ⟨(Nat.le_of_ble_eq_true rfl), (Nat.le_of_ble_eq_true rfl)⟩) hP hD hS hA [] [0, 1, 2, 3, 4, 5, 6, 7, 8, 9, 10] rfl rfl rfl (by decide) (fun u_10 H locs h_11 hP hD hS => ?_)
      have hP : va_P g.1 vwCl [(oX10 x0 y0 ta z0 p0 dr pa to_ s0 im ki tr v0 rf), (oX4 tr r0 r1 mo1), (aI g r0 24 f1), (aI g r1 6 sh), (oX6 p0 p1 p2 p3 p4 (nI w)), (aI g p1 24 sd), (aI g p3 6 st), (aI g p4 6 me), (oX8 s0 h0 a0 b0 e0), (oX4 h0 q0 q1 mo), (aI g q0 24 f)] H := hP
      have hD : va_D A [(oX10 x0 y0 ta z0 p0 dr pa to_ s0 im ki tr v0 rf), (oX4 tr r0 r1 mo1), (aI g r0 24 f1), (aI g r1 6 sh), (oX6 p0 p1 p2 p3 p4 (nI w)), (aI g p1 24 sd), (aI g p3 6 st), (aI g p4 6 me), (oX8 s0 h0 a0 b0 e0), (oX4 h0 q0 q1 mo), (aI g q0 24 f)] := hD
      refine lv_iconst (v := 0) hx hb dX10_stop_28 (by decide) ?_
      refine lv_istore_n (lv' := [(3, .int 0), (0, .ref x0), (1, .int (nI n)), (2, .int 0)]) hx hb dX10_stop_29 rfl hl (by decide) rfl (fun ls hl => ?_)
      refine lv_iconst (v := (-1)) hx hb dX10_stop_30 (by decide) ?_
      refine lv_istore (lv' := [(4, .int (-1)), (3, .int 0), (0, .ref x0), (1, .int (nI n)), (2, .int 0)]) hx hb dX10_stop_31 hl (by decide) rfl (fun ls hl => ?_)
      refine lv_iconst (v := 0) hx hb dX10_stop_33 (by decide) ?_
      refine lv_istore (lv' := [(5, .int 0), (4, .int (-1)), (3, .int 0), (0, .ref x0), (1, .int (nI n)), (2, .int 0)]) hx hb dX10_stop_34 hl (by decide) rfl (fun ls hl => ?_)
      have loop36 : ∀ (n9 : Nat) (j : Nat) (bm : Int32) (ms : Int32) (mj : Int32) (F : Nat → Int32) (G : Nat → Int32), n + 1 - j < n9 → (j ≤ n + 1) → ∀ (H : Heap) (locs : List Loc) (ls : Array Slot), va_P g.1 vwCl [(oX10 x0 y0 ta z0 p0 dr pa to_ s0 im ki tr v0 rf), (oX4 tr r0 r1 mj), (aI g r0 24 F), (aI g r1 6 G), (oX6 p0 p1 p2 p3 p4 (nI w)), (aI g p1 24 sd), (aI g p3 6 st), (aI g p4 6 me), (oX8 s0 h0 a0 b0 e0), (oX4 h0 q0 q1 mo), (aI g q0 24 f)] H → va_D A [(oX10 x0 y0 ta z0 p0 dr pa to_ s0 im ki tr v0 rf), (oX4 tr r0 r1 mj), (aI g r0 24 F), (aI g r1 6 G), (oX6 p0 p1 p2 p3 p4 (nI w)), (aI g p1 24 sd), (aI g p3 6 st), (aI g p4 6 me), (oX8 s0 h0 a0 b0 e0), (oX4 h0 q0 q1 mo), (aI g q0 24 f)] → va_S A s.heap H locs → lv_has ls 6 [(0, .ref x0), (1, .int (nI n)), (2, .int 0), (3, .int bm), (4, .int ms), (5, .int (nI j))] → W p l e (he_room 5 105 0 0) s m args below meth c H locs 0 0 Q (F0 m 36 ls []) := by
        intro n9
        induction n9 with
        | zero => intro j bm ms mj F G hm9; exact absurd hm9 (Nat.not_lt_zero _)
        | succ n9 ih36 =>
          intro j bm ms mj F G hm9 hj H locs ls hP hD hS hl
          refine lv_iload hx hb dX10_stop_36 (lv_at hl 5 rfl) ?_
          refine lv_iload_n hx hb dX10_stop_38 rfl (lv_at hl 1 rfl) ?_
          refine lv_icmp_gt (tgt := 112) hx hb dX10_stop_39 (by decide) (fun c_12 => ?_) (fun c_12 => ?_)
          · have k_13 : n < j := (he_clt (a := n) (b := j) rfl rfl (by omega) (by omega)).mp c_12
            refine lv_iload_n hx hb dX10_stop_112 rfl (lv_at hl 2 rfl) ?_
            refine lv_if_ne (tgt := 120) hx hb dX10_stop_113 (by decide) (fun c_14 => ?_) (fun c_14 => ?_)
            · exact absurd (by decide) c_14
            · refine lv_iload_n hx hb dX10_stop_116 rfl (lv_at hl 3 rfl) ?_
              refine lv_goto (tgt := 122) hx hb dX10_stop_117 (by decide) ?_
              exact he_ri hQ hx hb hr hlk hP hD hS dX10_stop_122 (Nat.le_of_ble_eq_true rfl) (Nat.le_of_ble_eq_true rfl) ((mj, F, G)) (rfl) (trivial)
          · have k_15 : ¬ (n < j) := fun h9 => c_12 ((he_clt (a := n) (b := j) rfl rfl (by omega) (by omega)).mpr h9)
            refine lv_aload_n hx hb dX10_stop_42 rfl (lv_at hl 0 rfl) ?_
            refine va_get (v := .ref tr) (T := TX10) (N := 13) hx hb hts inX10 hown hK hP 0 rfl rfl 10 (by decide) f50 (fun _ h9 => h9) rfl dX10_stop_43 ?_
            refine lv_aload_n hx hb dX10_stop_46 rfl (lv_at hl 0 rfl) ?_
            refine va_get (v := .ref s0) (T := TX10) (N := 13) hx hb hts inX10 hown hK hP 0 rfl rfl 7 (by decide) f39 (fun _ h9 => h9) rfl dX10_stop_47 ?_
            refine va_get (v := .ref h0) (T := TX8) (N := 4) hx hb hts inX8 hown hK hP 8 rfl rfl 0 (by decide) f66 (fun _ h9 => h9) rfl dX10_stop_50 ?_
            refine he_cv (wc := [(oX4 tr r0 r1 mj), (aI g r0 24 F), (oX4 h0 q0 q1 mo), (aI g q0 24 f)]) (wr := [(oX10 x0 y0 ta z0 p0 dr pa to_ s0 im ki tr v0 rf), (aI g r1 6 G), (oX6 p0 p1 p2 p3 p4 (nI w)), (aI g p1 24 sd), (aI g p3 6 st), (aI g p4 6 me), (oX8 s0 h0 a0 b0 e0)]) (va_runV (As := [.ref h0]) (rest := []) ⟨hx, hb, hml, hown, hts⟩ (c_X4_take l g tr r0 r1 mj F h0 q0 q1 mo f H.size) (cwV 1 hts gX10_stop_X4_take rfl rfl rfl (by decide +kernel) ⟨Nat.le_of_ble_eq_true rfl, Nat.le_of_ble_eq_true rfl⟩) (he_preV (wc := [(oX4 tr r0 r1 mj), (aI g r0 24 F), (oX4 h0 q0 q1 mo), (aI g q0 24 f)]) hK hP hD hS hA hE [1, 2, 9, 10] rfl rfl 1 rfl rfl) rfl rfl hl.1 rfl (lv_room (Nat.le_of_ble_eq_true rfl)) dX10_stop_53 ⟨(Nat.le_of_ble_eq_true rfl), (Nat.le_of_ble_eq_true rfl)⟩) hP hD hS hA [1, 2, 9, 10] [0, 3, 4, 5, 6, 7, 8] rfl rfl rfl (by decide) (fun u_17 H locs h_18 hP hD hS => ?_)
            have hP : va_P g.1 vwCl [(oX10 x0 y0 ta z0 p0 dr pa to_ s0 im ki tr v0 rf), (aI g r1 6 G), (oX6 p0 p1 p2 p3 p4 (nI w)), (aI g p1 24 sd), (aI g p3 6 st), (aI g p4 6 me), (oX8 s0 h0 a0 b0 e0), (oX4 tr r0 r1 mo), (aI g r0 24 (va_cpy f F 0 0 24)), (oX4 h0 q0 q1 mo), (aI g q0 24 f)] H := hP
            have hD : va_D A [(oX10 x0 y0 ta z0 p0 dr pa to_ s0 im ki tr v0 rf), (aI g r1 6 G), (oX6 p0 p1 p2 p3 p4 (nI w)), (aI g p1 24 sd), (aI g p3 6 st), (aI g p4 6 me), (oX8 s0 h0 a0 b0 e0), (oX4 tr r0 r1 mo), (aI g r0 24 (va_cpy f F 0 0 24)), (oX4 h0 q0 q1 mo), (aI g q0 24 f)] := hD
            refine lv_aload_n hx hb dX10_stop_56 rfl (lv_at hl 0 rfl) ?_
            refine lv_iload hx hb dX10_stop_57 (lv_at hl 5 rfl) ?_
            refine he_cv (wc := [(oX10 x0 y0 ta z0 p0 dr pa to_ s0 im ki tr v0 rf), (oX4 tr r0 r1 mo), (aI g r0 24 (va_cpy f F 0 0 24)), (aI g r1 6 G), (oX6 p0 p1 p2 p3 p4 (nI w)), (aI g p1 24 sd), (aI g p3 6 st), (aI g p4 6 me)]) (wr := [(oX8 s0 h0 a0 b0 e0), (oX4 h0 q0 q1 mo), (aI g q0 24 f)]) (va_runV (As := [.int (nI j)]) (rest := []) ⟨hx, hb, hml, hown, hts⟩ (g_X10_passTriedN l g x0 y0 z0 dr pa s0 im tr v0 rf ta to_ ki p0 p1 p2 p3 p4 w sd st me r0 r1 mo (va_cpy f F 0 0 24) G j (by first | assumption | decide | omega) (by rw [cpy_in (by decide)]; exact hno) (by omega) H.size) (cwV 1 hts gX10_stop_X10_passTried rfl rfl rfl (by decide +kernel) ⟨Nat.le_of_ble_eq_true rfl, Nat.le_of_ble_eq_true rfl⟩) (he_preV (wc := [(oX10 x0 y0 ta z0 p0 dr pa to_ s0 im ki tr v0 rf), (oX4 tr r0 r1 mo), (aI g r0 24 (va_cpy f F 0 0 24)), (aI g r1 6 G), (oX6 p0 p1 p2 p3 p4 (nI w)), (aI g p1 24 sd), (aI g p3 6 st), (aI g p4 6 me)]) hK hP hD hS hA hE [0, 7, 8, 1, 2, 3, 4, 5] rfl rfl 0 rfl rfl) rfl rfl hl.1 rfl (lv_room (Nat.le_of_ble_eq_true rfl)) dX10_stop_59 ⟨(Nat.le_of_ble_eq_true rfl), (Nat.le_of_ble_eq_true rfl)⟩) hP hD hS hA [0, 7, 8, 1, 2, 3, 4, 5] [6, 9, 10] rfl rfl rfl (by decide) (fun u_20 H locs h_21 hP hD hS => ?_)
            obtain ⟨um_22, uf_23, us_24⟩ := u_20
            have hP : va_P g.1 vwCl [(oX8 s0 h0 a0 b0 e0), (oX4 h0 q0 q1 mo), (aI g q0 24 f), (oX10 x0 y0 ta z0 p0 dr pa to_ s0 im ki tr v0 rf), (oX4 tr r0 r1 um_22), (aI g r0 24 uf_23), (aI g r1 6 us_24), (oX6 p0 p1 p2 p3 p4 (nI w)), (aI g p1 24 sd), (aI g p3 6 st), (aI g p4 6 me)] H := hP
            have hD : va_D A [(oX8 s0 h0 a0 b0 e0), (oX4 h0 q0 q1 mo), (aI g q0 24 f), (oX10 x0 y0 ta z0 p0 dr pa to_ s0 im ki tr v0 rf), (oX4 tr r0 r1 um_22), (aI g r0 24 uf_23), (aI g r1 6 us_24), (oX6 p0 p1 p2 p3 p4 (nI w)), (aI g p1 24 sd), (aI g p3 6 st), (aI g p4 6 me)] := hD
            refine lv_aload_n hx hb dX10_stop_62 rfl (lv_at hl 0 rfl) ?_
            refine va_get (v := .ref tr) (T := TX10) (N := 13) hx hb hts inX10 hown hK hP 3 rfl rfl 10 (by decide) f50 (fun _ h9 => h9) rfl dX10_stop_63 ?_
            refine lv_iconst (v := (-1)) hx hb dX10_stop_66 (by decide) ?_
            refine he_cv (wc := [(oX4 tr r0 r1 um_22), (aI g r0 24 uf_23)]) (wr := [(oX8 s0 h0 a0 b0 e0), (oX4 h0 q0 q1 mo), (aI g q0 24 f), (oX10 x0 y0 ta z0 p0 dr pa to_ s0 im ki tr v0 rf), (aI g r1 6 us_24), (oX6 p0 p1 p2 p3 p4 (nI w)), (aI g p1 24 sd), (aI g p3 6 st), (aI g p4 6 me)]) (va_runV (As := [.int (-1)]) (rest := []) ⟨hx, hb, hml, hown, hts⟩ (c_X4_pledge l g tr r0 r1 um_22 uf_23 (-1) H.size) (cwV 1 hts gX10_stop_X4_pledge rfl rfl rfl (by decide +kernel) ⟨Nat.le_of_ble_eq_true rfl, Nat.le_of_ble_eq_true rfl⟩) (he_preV (wc := [(oX4 tr r0 r1 um_22), (aI g r0 24 uf_23)]) hK hP hD hS hA hE [4, 5] rfl rfl 4 rfl rfl) rfl rfl hl.1 rfl (lv_room (Nat.le_of_ble_eq_true rfl)) dX10_stop_67 ⟨(Nat.le_of_ble_eq_true rfl), (Nat.le_of_ble_eq_true rfl)⟩) hP hD hS hA [4, 5] [0, 1, 2, 3, 6, 7, 8, 9, 10] rfl rfl rfl (by decide) (fun u_26 H locs h_27 hP hD hS => ?_)
            have hP : va_P g.1 vwCl [(oX8 s0 h0 a0 b0 e0), (oX4 h0 q0 q1 mo), (aI g q0 24 f), (oX10 x0 y0 ta z0 p0 dr pa to_ s0 im ki tr v0 rf), (aI g r1 6 us_24), (oX6 p0 p1 p2 p3 p4 (nI w)), (aI g p1 24 sd), (aI g p3 6 st), (aI g p4 6 me), (oX4 tr r0 r1 um_22), (aI g r0 24 (fcF uf_23 (-1) um_22))] H := hP
            have hD : va_D A [(oX8 s0 h0 a0 b0 e0), (oX4 h0 q0 q1 mo), (aI g q0 24 f), (oX10 x0 y0 ta z0 p0 dr pa to_ s0 im ki tr v0 rf), (aI g r1 6 us_24), (oX6 p0 p1 p2 p3 p4 (nI w)), (aI g p1 24 sd), (aI g p3 6 st), (aI g p4 6 me), (oX4 tr r0 r1 um_22), (aI g r0 24 (fcF uf_23 (-1) um_22))] := hD
            refine lv_aload_n hx hb dX10_stop_70 rfl (lv_at hl 0 rfl) ?_
            refine lv_iload_n hx hb dX10_stop_71 rfl (lv_at hl 1 rfl) ?_
            refine lv_iload hx hb dX10_stop_72 (lv_at hl 5 rfl) ?_
            refine lv_isub hx hb dX10_stop_74 ?_
            refine he_top (nI (n - j)) (pk_sub (by omega)) ?_
            refine he_cv (wc := [(oX10 x0 y0 ta z0 p0 dr pa to_ s0 im ki tr v0 rf), (oX4 tr r0 r1 um_22), (aI g r0 24 (fcF uf_23 (-1) um_22)), (aI g r1 6 us_24), (oX6 p0 p1 p2 p3 p4 (nI w)), (aI g p1 24 sd), (aI g p3 6 st), (aI g p4 6 me)]) (wr := [(oX8 s0 h0 a0 b0 e0), (oX4 h0 q0 q1 mo), (aI g q0 24 f)]) (va_runV (As := [.int (nI (n - j))]) (rest := []) ⟨hx, hb, hml, hown, hts⟩ (g_X10_passTriedN l g x0 y0 z0 dr pa s0 im tr v0 rf ta to_ ki p0 p1 p2 p3 p4 w sd st me r0 r1 um_22 (fcF uf_23 (-1) um_22) us_24 (n - j) (by first | assumption | decide | omega) (by rw [fcF_10]; exact m1_out 6) (by omega) H.size) (cwV 1 hts gX10_stop_X10_passTried rfl rfl rfl (by decide +kernel) ⟨Nat.le_of_ble_eq_true rfl, Nat.le_of_ble_eq_true rfl⟩) (he_preV (wc := [(oX10 x0 y0 ta z0 p0 dr pa to_ s0 im ki tr v0 rf), (oX4 tr r0 r1 um_22), (aI g r0 24 (fcF uf_23 (-1) um_22)), (aI g r1 6 us_24), (oX6 p0 p1 p2 p3 p4 (nI w)), (aI g p1 24 sd), (aI g p3 6 st), (aI g p4 6 me)]) hK hP hD hS hA hE [3, 9, 10, 4, 5, 6, 7, 8] rfl rfl 3 rfl rfl) rfl rfl hl.1 rfl (lv_room (Nat.le_of_ble_eq_true rfl)) dX10_stop_75 ⟨(Nat.le_of_ble_eq_true rfl), (Nat.le_of_ble_eq_true rfl)⟩) hP hD hS hA [3, 9, 10, 4, 5, 6, 7, 8] [0, 1, 2] rfl rfl rfl (by decide) (fun u_29 H locs h_30 hP hD hS => ?_)
            obtain ⟨um_31, uf_32, us_33⟩ := u_29
            have hP : va_P g.1 vwCl [(oX8 s0 h0 a0 b0 e0), (oX4 h0 q0 q1 mo), (aI g q0 24 f), (oX10 x0 y0 ta z0 p0 dr pa to_ s0 im ki tr v0 rf), (oX4 tr r0 r1 um_31), (aI g r0 24 uf_32), (aI g r1 6 us_33), (oX6 p0 p1 p2 p3 p4 (nI w)), (aI g p1 24 sd), (aI g p3 6 st), (aI g p4 6 me)] H := hP
            have hD : va_D A [(oX8 s0 h0 a0 b0 e0), (oX4 h0 q0 q1 mo), (aI g q0 24 f), (oX10 x0 y0 ta z0 p0 dr pa to_ s0 im ki tr v0 rf), (oX4 tr r0 r1 um_31), (aI g r0 24 uf_32), (aI g r1 6 us_33), (oX6 p0 p1 p2 p3 p4 (nI w)), (aI g p1 24 sd), (aI g p3 6 st), (aI g p4 6 me)] := hD
            refine lv_aload_n hx hb dX10_stop_78 rfl (lv_at hl 0 rfl) ?_
            refine va_get (v := .ref tr) (T := TX10) (N := 13) hx hb hts inX10 hown hK hP 3 rfl rfl 10 (by decide) f50 (fun _ h9 => h9) rfl dX10_stop_79 ?_
            refine va_get (v := .ref r0) (T := TX4) (N := 3) hx hb hts inX4 hown hK hP 4 rfl rfl 0 (by decide) f111 (fun _ h9 => h9) rfl dX10_stop_82 ?_
            refine lv_iconst (v := 0) hx hb dX10_stop_85 (by decide) ?_
            refine he_iald hx hb hK hP 5 rfl (0) (by decide) (by decide) (by first | decide | assumption) (uf_32 0) rfl dX10_stop_86 ?_
            refine lv_iload hx hb dX10_stop_87 (lv_at hl 4 rfl) ?_
            refine lv_icmp_le (tgt := 106) hx hb dX10_stop_89 (by decide) (fun c_34 => ?_) (fun c_34 => ?_)
            · refine lv_iinc (v := nI (j + 1)) (lv' := [(5, .int (nI (j + 1))), (0, .ref x0), (1, .int (nI n)), (2, .int 0), (3, .int bm), (4, .int ms)]) hx hb dX10_stop_106 hl (k := 5) rfl (nI_1 j) (by decide) rfl (fun ls hl => ?_)
              refine lv_goto (tgt := 36) hx hb dX10_stop_109 (by decide) ?_
              exact ih36 (j + 1) bm ms um_31 uf_32 us_33 (by omega) (by omega) _ _ _ (hP.sub [3, 4, 5, 6, 7, 8, 9, 10, 0, 1, 2] rfl) (hD.sub [3, 4, 5, 6, 7, 8, 9, 10, 0, 1, 2] (by decide) rfl) hS (lv_sub hl [1, 2, 3, 4, 5, 0] rfl)
            · refine lv_aload_n hx hb dX10_stop_92 rfl (lv_at hl 0 rfl) ?_
              refine va_get (v := .ref tr) (T := TX10) (N := 13) hx hb hts inX10 hown hK hP 3 rfl rfl 10 (by decide) f50 (fun _ h9 => h9) rfl dX10_stop_93 ?_
              refine va_get (v := .ref r0) (T := TX4) (N := 3) hx hb hts inX4 hown hK hP 4 rfl rfl 0 (by decide) f111 (fun _ h9 => h9) rfl dX10_stop_96 ?_
              refine lv_iconst (v := 0) hx hb dX10_stop_99 (by decide) ?_
              refine he_iald hx hb hK hP 5 rfl (0) (by decide) (by decide) (by first | decide | assumption) (uf_32 0) rfl dX10_stop_100 ?_
              refine lv_istore (lv' := [(4, .int (uf_32 0)), (0, .ref x0), (1, .int (nI n)), (2, .int 0), (3, .int bm), (5, .int (nI j))]) hx hb dX10_stop_101 hl (by decide) rfl (fun ls hl => ?_)
              refine lv_iload hx hb dX10_stop_103 (lv_at hl 5 rfl) ?_
              refine lv_istore_n (lv' := [(3, .int (nI j)), (4, .int (uf_32 0)), (0, .ref x0), (1, .int (nI n)), (2, .int 0), (5, .int (nI j))]) hx hb dX10_stop_105 rfl hl (by decide) rfl (fun ls hl => ?_)
              refine lv_iinc (v := nI (j + 1)) (lv' := [(5, .int (nI (j + 1))), (3, .int (nI j)), (4, .int (uf_32 0)), (0, .ref x0), (1, .int (nI n)), (2, .int 0)]) hx hb dX10_stop_106 hl (k := 5) rfl (nI_1 j) (by decide) rfl (fun ls hl => ?_)
              refine lv_goto (tgt := 36) hx hb dX10_stop_109 (by decide) ?_
              exact ih36 (j + 1) (nI j) (uf_32 0) um_31 uf_32 us_33 (by omega) (by omega) _ _ _ (hP.sub [3, 4, 5, 6, 7, 8, 9, 10, 0, 1, 2] rfl) (hD.sub [3, 4, 5, 6, 7, 8, 9, 10, 0, 1, 2] (by decide) rfl) hS (lv_sub hl [3, 4, 5, 1, 2, 0] rfl)
      exact loop36 ((n + 1 - 0) + 1) 0 0 (-1) mo1 f1 sh (Nat.lt_succ_self _) (Nat.zero_le _) _ _ _ hP hD hS (lv_sub hl [3, 4, 5, 2, 1, 0] rfl)
end
section
set_option maxHeartbeats 4000000 in
set_option maxRecDepth 100000 in
theorem g_X10_stopN1 (l : Launch) (g : he_G) (x0 : Nat) (y0 : Nat) (z0 : Nat) (dr : Nat) (pa : Nat) (s0 : Nat) (im : Nat) (tr : Nat) (v0 : Nat) (rf : Nat) (ta : Int32) (to_ : Int32) (ki : Int32) (p0 : Nat) (p1 : Nat) (p2 : Nat) (p3 : Nat) (p4 : Nat) (w : Nat) (sd : Nat → Int32) (st : Nat → Int32) (me : Nat → Int32) (a0 : Nat) (b0 : Nat) (e0 : Nat) (h0 : Nat) (q0 : Nat) (q1 : Nat) (mo : Int32) (f : Nat → Int32) (r0 : Nat) (r1 : Nat) (mo1 : Int32) (f1 : Nat → Int32) (sh : Nat → Int32) (n : Nat) (hw6 : w ≤ 6) (hn1 : 1 ≤ n) (hn2 : n ≤ 60) (hno : he_within (f 10) 0 6 = 0) : he_I l yX10_stop wsX10_stop 5 105 0 0 g [.ref x0, .int (nI n), .int 1] [(oX10 x0 y0 ta z0 p0 dr pa to_ s0 im ki tr v0 rf), (oX4 tr r0 r1 mo1), (aI g r0 24 f1), (aI g r1 6 sh), (oX6 p0 p1 p2 p3 p4 (nI w)), (aI g p1 24 sd), (aI g p3 6 st), (aI g p4 6 me), (oX8 s0 h0 a0 b0 e0), (oX4 h0 q0 q1 mo), (aI g q0 24 f)] (fun (r : Int32) (u : Int32 × (Nat → Int32) × (Nat → Int32)) => True) (fun (u : Int32 × (Nat → Int32) × (Nat → Int32)) => [(oX10 x0 y0 ta z0 p0 dr pa to_ s0 im ki tr v0 rf), (oX4 tr r0 r1 u.1), (aI g r0 24 u.2.1), (aI g r1 6 u.2.2), (oX6 p0 p1 p2 p3 p4 (nI w)), (aI g p1 24 sd), (aI g p3 6 st), (aI g p4 6 me), (oX8 s0 h0 a0 b0 e0), (oX4 h0 q0 q1 mo), (aI g q0 24 f)]) := by
  refine he_begin (l := l) (g := g) (y := yX10_stop) (wl := wsX10_stop) (fr := 5) (lo := 105) (mc := 0) (ms := 0) (av := [.ref x0, .int (nI n), .int 1]) (ws := [(oX10 x0 y0 ta z0 p0 dr pa to_ s0 im ki tr v0 rf), (oX4 tr r0 r1 mo1), (aI g r0 24 f1), (aI g r1 6 sh), (oX6 p0 p1 p2 p3 p4 (nI w)), (aI g p1 24 sd), (aI g p3 6 st), (aI g p4 6 me), (oX8 s0 h0 a0 b0 e0), (oX4 h0 q0 q1 mo), (aI g q0 24 f)]) (cc := cX10_stop) (maxL := 6) (ret := (some .int)) (fun A => va_Qi (fun (r : Int32) (u : Int32 × (Nat → Int32) × (Nat → Int32)) => True) (fun u t => he_post g A ((fun (u : Int32 × (Nat → Int32) × (Nat → Int32)) => [(oX10 x0 y0 ta z0 p0 dr pa to_ s0 im ki tr v0 rf), (oX4 tr r0 r1 u.1), (aI g r0 24 u.2.1), (aI g r1 6 u.2.2), (oX6 p0 p1 p2 p3 p4 (nI w)), (aI g p1 24 sd), (aI g p3 6 st), (aI g p4 6 me), (oX8 s0 h0 a0 b0 e0), (oX4 h0 q0 q1 mo), (aI g q0 24 f)]) u) t) A) (by decide) rfl (Nat.le_of_ble_eq_true rfl) ?_
  intro p e s m args below meth c A ls H locs Q hQ hB
  obtain ⟨hx, hb, hr, hml, hown, hts, hlk, hin, hP, hK, hD, hS, hA, hE, hl⟩ := hB
  have hl : lv_has ls 6 [(0, .ref x0), (1, .int (nI n)), (2, .int 1)] := hl
  have f50 := hts (.fieldLink RX10 50 "HiredEnemy" "trial" "LHiredEnemy$Course;") (iwoX10_stop (k := 0) rfl)
  have inX10 : ∀ w ∈ wsX100, w ∈ wsX10_stop := innX10_stop_X10
  have f39 := hts (.fieldLink RX10 39 "HiredEnemy" "scene" "LHiredEnemy$Scene;") (iwoX10_stop (k := 1) rfl)
  have f66 := hts (.fieldLink RX10 66 "HiredEnemy$Scene" "course" "LHiredEnemy$Course;") (iwoX10_stop (k := 2) rfl)
  have inX8 : ∀ w ∈ wsX80, w ∈ wsX10_stop := innX10_stop_X8
  have f111 := hts (.fieldLink RX10 111 "HiredEnemy$Course" "now" "[I") (iwoX10_stop (k := 3) rfl)
  have inX4 : ∀ w ∈ wsX40, w ∈ wsX10_stop := innX10_stop_X4
  refine lv_aload_n hx hb dX10_stop_0 rfl (lv_at hl 0 rfl) ?_
  refine lv_iload_n hx hb dX10_stop_1 rfl (lv_at hl 1 rfl) ?_
  refine lv_iconst (v := 1) hx hb dX10_stop_2 (by decide) ?_
  refine lv_bipush (v := 60) hx hb dX10_stop_3 (by decide) ?_
  refine he_ci (wc := []) (wr := [(oX10 x0 y0 ta z0 p0 dr pa to_ s0 im ki tr v0 rf), (oX4 tr r0 r1 mo1), (aI g r0 24 f1), (aI g r1 6 sh), (oX6 p0 p1 p2 p3 p4 (nI w)), (aI g p1 24 sd), (aI g p3 6 st), (aI g p4 6 me), (oX8 s0 h0 a0 b0 e0), (oX4 h0 q0 q1 mo), (aI g q0 24 f)]) (va_runS (As := [.int (nI n), .int 1, .int 60]) (rest := [.ref x0]) ⟨hx, hb, hml, hown, hts⟩ (c_X10_within l g (nI n) 1 60 H.size) (va_cwS 3 hts gX10_stop_X10_within rfl rfl rfl (by decide +kernel) ⟨Nat.le_of_ble_eq_true rfl, Nat.le_of_ble_eq_true rfl⟩) (he_preS (wc := []) hK hP hD hS hA hE [] rfl rfl) rfl rfl hl.1 rfl (lv_room (Nat.le_of_ble_eq_true rfl)) dX10_stop_5 ⟨(Nat.le_of_ble_eq_true rfl), (Nat.le_of_ble_eq_true rfl)⟩) hP hD hS hA [] [0, 1, 2, 3, 4, 5, 6, 7, 8, 9, 10] rfl rfl rfl (by decide) (fun r_1 u_2 H locs h_3 hP hD hS => ?_)
  subst h_3
  have hP : va_P g.1 vwCl [(oX10 x0 y0 ta z0 p0 dr pa to_ s0 im ki tr v0 rf), (oX4 tr r0 r1 mo1), (aI g r0 24 f1), (aI g r1 6 sh), (oX6 p0 p1 p2 p3 p4 (nI w)), (aI g p1 24 sd), (aI g p3 6 st), (aI g p4 6 me), (oX8 s0 h0 a0 b0 e0), (oX4 h0 q0 q1 mo), (aI g q0 24 f)] H := hP
  have hD : va_D A [(oX10 x0 y0 ta z0 p0 dr pa to_ s0 im ki tr v0 rf), (oX4 tr r0 r1 mo1), (aI g r0 24 f1), (aI g r1 6 sh), (oX6 p0 p1 p2 p3 p4 (nI w)), (aI g p1 24 sd), (aI g p3 6 st), (aI g p4 6 me), (oX8 s0 h0 a0 b0 e0), (oX4 h0 q0 q1 mo), (aI g q0 24 f)] := hD
  refine he_top (1) (he_within_in (a0 := 1) (B := 60) rfl rfl (by omega) (by omega) (by decide)) ?_
  refine lv_if_eq (tgt := 24) hx hb dX10_stop_8 (by decide) (fun c_4 => ?_) (fun c_4 => ?_)
  · exact absurd c_4 (by decide)
  · refine lv_iload_n hx hb dX10_stop_11 rfl (lv_at hl 2 rfl) ?_
    refine lv_iconst (v := 0) hx hb dX10_stop_12 (by decide) ?_
    refine lv_iconst (v := 1) hx hb dX10_stop_13 (by decide) ?_
    refine he_ci (wc := []) (wr := [(oX10 x0 y0 ta z0 p0 dr pa to_ s0 im ki tr v0 rf), (oX4 tr r0 r1 mo1), (aI g r0 24 f1), (aI g r1 6 sh), (oX6 p0 p1 p2 p3 p4 (nI w)), (aI g p1 24 sd), (aI g p3 6 st), (aI g p4 6 me), (oX8 s0 h0 a0 b0 e0), (oX4 h0 q0 q1 mo), (aI g q0 24 f)]) (va_runS (As := [.int 1, .int 0, .int 1]) (rest := [.ref x0]) ⟨hx, hb, hml, hown, hts⟩ (c_X10_within l g 1 0 1 H.size) (va_cwS 3 hts gX10_stop_X10_within rfl rfl rfl (by decide +kernel) ⟨Nat.le_of_ble_eq_true rfl, Nat.le_of_ble_eq_true rfl⟩) (he_preS (wc := []) hK hP hD hS hA hE [] rfl rfl) rfl rfl hl.1 rfl (lv_room (Nat.le_of_ble_eq_true rfl)) dX10_stop_14 ⟨(Nat.le_of_ble_eq_true rfl), (Nat.le_of_ble_eq_true rfl)⟩) hP hD hS hA [] [0, 1, 2, 3, 4, 5, 6, 7, 8, 9, 10] rfl rfl rfl (by decide) (fun r_5 u_6 H locs h_7 hP hD hS => ?_)
    subst h_7
    have hP : va_P g.1 vwCl [(oX10 x0 y0 ta z0 p0 dr pa to_ s0 im ki tr v0 rf), (oX4 tr r0 r1 mo1), (aI g r0 24 f1), (aI g r1 6 sh), (oX6 p0 p1 p2 p3 p4 (nI w)), (aI g p1 24 sd), (aI g p3 6 st), (aI g p4 6 me), (oX8 s0 h0 a0 b0 e0), (oX4 h0 q0 q1 mo), (aI g q0 24 f)] H := hP
    have hD : va_D A [(oX10 x0 y0 ta z0 p0 dr pa to_ s0 im ki tr v0 rf), (oX4 tr r0 r1 mo1), (aI g r0 24 f1), (aI g r1 6 sh), (oX6 p0 p1 p2 p3 p4 (nI w)), (aI g p1 24 sd), (aI g p3 6 st), (aI g p4 6 me), (oX8 s0 h0 a0 b0 e0), (oX4 h0 q0 q1 mo), (aI g q0 24 f)] := hD
    refine he_top (1) (by decide) ?_
    refine lv_if_eq (tgt := 24) hx hb dX10_stop_17 (by decide) (fun c_8 => ?_) (fun c_8 => ?_)
    · exact absurd c_8 (by decide)
    · refine lv_iconst (v := 1) hx hb dX10_stop_20 (by decide) ?_
      refine lv_goto (tgt := 25) hx hb dX10_stop_21 (by decide) ?_
      refine he_cv (wc := []) (wr := [(oX10 x0 y0 ta z0 p0 dr pa to_ s0 im ki tr v0 rf), (oX4 tr r0 r1 mo1), (aI g r0 24 f1), (aI g r1 6 sh), (oX6 p0 p1 p2 p3 p4 (nI w)), (aI g p1 24 sd), (aI g p3 6 st), (aI g p4 6 me), (oX8 s0 h0 a0 b0 e0), (oX4 h0 q0 q1 mo), (aI g q0 24 f)]) (va_runV (As := [.int 1]) (rest := []) ⟨hx, hb, hml, hown, hts⟩ (c_X10_demand1 l g x0 H.size) (cwV 1 hts gX10_stop_X10_demand rfl rfl rfl (by decide +kernel) ⟨Nat.le_of_ble_eq_true rfl, Nat.le_of_ble_eq_true rfl⟩) (he_preV (wc := []) hK hP hD hS hA hE [] rfl rfl 0 rfl rfl) rfl rfl hl.1 rfl (lv_room (Nat.le_of_ble_eq_true rfl)) dX10_stop_25 ⟨(Nat.le_of_ble_eq_true rfl), (Nat.le_of_ble_eq_true rfl)⟩) hP hD hS hA [] [0, 1, 2, 3, 4, 5, 6, 7, 8, 9, 10] rfl rfl rfl (by decide) (fun u_10 H locs h_11 hP hD hS => ?_)
      have hP : va_P g.1 vwCl [(oX10 x0 y0 ta z0 p0 dr pa to_ s0 im ki tr v0 rf), (oX4 tr r0 r1 mo1), (aI g r0 24 f1), (aI g r1 6 sh), (oX6 p0 p1 p2 p3 p4 (nI w)), (aI g p1 24 sd), (aI g p3 6 st), (aI g p4 6 me), (oX8 s0 h0 a0 b0 e0), (oX4 h0 q0 q1 mo), (aI g q0 24 f)] H := hP
      have hD : va_D A [(oX10 x0 y0 ta z0 p0 dr pa to_ s0 im ki tr v0 rf), (oX4 tr r0 r1 mo1), (aI g r0 24 f1), (aI g r1 6 sh), (oX6 p0 p1 p2 p3 p4 (nI w)), (aI g p1 24 sd), (aI g p3 6 st), (aI g p4 6 me), (oX8 s0 h0 a0 b0 e0), (oX4 h0 q0 q1 mo), (aI g q0 24 f)] := hD
      refine lv_iconst (v := 0) hx hb dX10_stop_28 (by decide) ?_
      refine lv_istore_n (lv' := [(3, .int 0), (0, .ref x0), (1, .int (nI n)), (2, .int 1)]) hx hb dX10_stop_29 rfl hl (by decide) rfl (fun ls hl => ?_)
      refine lv_iconst (v := (-1)) hx hb dX10_stop_30 (by decide) ?_
      refine lv_istore (lv' := [(4, .int (-1)), (3, .int 0), (0, .ref x0), (1, .int (nI n)), (2, .int 1)]) hx hb dX10_stop_31 hl (by decide) rfl (fun ls hl => ?_)
      refine lv_iconst (v := 0) hx hb dX10_stop_33 (by decide) ?_
      refine lv_istore (lv' := [(5, .int 0), (4, .int (-1)), (3, .int 0), (0, .ref x0), (1, .int (nI n)), (2, .int 1)]) hx hb dX10_stop_34 hl (by decide) rfl (fun ls hl => ?_)
      have loop36 : ∀ (n9 : Nat) (j : Nat) (bm : Int32) (ms : Int32) (mj : Int32) (F : Nat → Int32) (G : Nat → Int32), n + 1 - j < n9 → (j ≤ n + 1) → ∀ (H : Heap) (locs : List Loc) (ls : Array Slot), va_P g.1 vwCl [(oX10 x0 y0 ta z0 p0 dr pa to_ s0 im ki tr v0 rf), (oX4 tr r0 r1 mj), (aI g r0 24 F), (aI g r1 6 G), (oX6 p0 p1 p2 p3 p4 (nI w)), (aI g p1 24 sd), (aI g p3 6 st), (aI g p4 6 me), (oX8 s0 h0 a0 b0 e0), (oX4 h0 q0 q1 mo), (aI g q0 24 f)] H → va_D A [(oX10 x0 y0 ta z0 p0 dr pa to_ s0 im ki tr v0 rf), (oX4 tr r0 r1 mj), (aI g r0 24 F), (aI g r1 6 G), (oX6 p0 p1 p2 p3 p4 (nI w)), (aI g p1 24 sd), (aI g p3 6 st), (aI g p4 6 me), (oX8 s0 h0 a0 b0 e0), (oX4 h0 q0 q1 mo), (aI g q0 24 f)] → va_S A s.heap H locs → lv_has ls 6 [(0, .ref x0), (1, .int (nI n)), (2, .int 1), (3, .int bm), (4, .int ms), (5, .int (nI j))] → W p l e (he_room 5 105 0 0) s m args below meth c H locs 0 0 Q (F0 m 36 ls []) := by
        intro n9
        induction n9 with
        | zero => intro j bm ms mj F G hm9; exact absurd hm9 (Nat.not_lt_zero _)
        | succ n9 ih36 =>
          intro j bm ms mj F G hm9 hj H locs ls hP hD hS hl
          refine lv_iload hx hb dX10_stop_36 (lv_at hl 5 rfl) ?_
          refine lv_iload_n hx hb dX10_stop_38 rfl (lv_at hl 1 rfl) ?_
          refine lv_icmp_gt (tgt := 112) hx hb dX10_stop_39 (by decide) (fun c_12 => ?_) (fun c_12 => ?_)
          · have k_13 : n < j := (he_clt (a := n) (b := j) rfl rfl (by omega) (by omega)).mp c_12
            refine lv_iload_n hx hb dX10_stop_112 rfl (lv_at hl 2 rfl) ?_
            refine lv_if_ne (tgt := 120) hx hb dX10_stop_113 (by decide) (fun c_14 => ?_) (fun c_14 => ?_)
            · refine lv_iload hx hb dX10_stop_120 (lv_at hl 4 rfl) ?_
              exact he_ri hQ hx hb hr hlk hP hD hS dX10_stop_122 (Nat.le_of_ble_eq_true rfl) (Nat.le_of_ble_eq_true rfl) ((mj, F, G)) (rfl) (trivial)
            · exact absurd c_14 (by decide)
          · have k_15 : ¬ (n < j) := fun h9 => c_12 ((he_clt (a := n) (b := j) rfl rfl (by omega) (by omega)).mpr h9)
            refine lv_aload_n hx hb dX10_stop_42 rfl (lv_at hl 0 rfl) ?_
            refine va_get (v := .ref tr) (T := TX10) (N := 13) hx hb hts inX10 hown hK hP 0 rfl rfl 10 (by decide) f50 (fun _ h9 => h9) rfl dX10_stop_43 ?_
            refine lv_aload_n hx hb dX10_stop_46 rfl (lv_at hl 0 rfl) ?_
            refine va_get (v := .ref s0) (T := TX10) (N := 13) hx hb hts inX10 hown hK hP 0 rfl rfl 7 (by decide) f39 (fun _ h9 => h9) rfl dX10_stop_47 ?_
            refine va_get (v := .ref h0) (T := TX8) (N := 4) hx hb hts inX8 hown hK hP 8 rfl rfl 0 (by decide) f66 (fun _ h9 => h9) rfl dX10_stop_50 ?_
            refine he_cv (wc := [(oX4 tr r0 r1 mj), (aI g r0 24 F), (oX4 h0 q0 q1 mo), (aI g q0 24 f)]) (wr := [(oX10 x0 y0 ta z0 p0 dr pa to_ s0 im ki tr v0 rf), (aI g r1 6 G), (oX6 p0 p1 p2 p3 p4 (nI w)), (aI g p1 24 sd), (aI g p3 6 st), (aI g p4 6 me), (oX8 s0 h0 a0 b0 e0)]) (va_runV (As := [.ref h0]) (rest := []) ⟨hx, hb, hml, hown, hts⟩ (c_X4_take l g tr r0 r1 mj F h0 q0 q1 mo f H.size) (cwV 1 hts gX10_stop_X4_take rfl rfl rfl (by decide +kernel) ⟨Nat.le_of_ble_eq_true rfl, Nat.le_of_ble_eq_true rfl⟩) (he_preV (wc := [(oX4 tr r0 r1 mj), (aI g r0 24 F), (oX4 h0 q0 q1 mo), (aI g q0 24 f)]) hK hP hD hS hA hE [1, 2, 9, 10] rfl rfl 1 rfl rfl) rfl rfl hl.1 rfl (lv_room (Nat.le_of_ble_eq_true rfl)) dX10_stop_53 ⟨(Nat.le_of_ble_eq_true rfl), (Nat.le_of_ble_eq_true rfl)⟩) hP hD hS hA [1, 2, 9, 10] [0, 3, 4, 5, 6, 7, 8] rfl rfl rfl (by decide) (fun u_17 H locs h_18 hP hD hS => ?_)
            have hP : va_P g.1 vwCl [(oX10 x0 y0 ta z0 p0 dr pa to_ s0 im ki tr v0 rf), (aI g r1 6 G), (oX6 p0 p1 p2 p3 p4 (nI w)), (aI g p1 24 sd), (aI g p3 6 st), (aI g p4 6 me), (oX8 s0 h0 a0 b0 e0), (oX4 tr r0 r1 mo), (aI g r0 24 (va_cpy f F 0 0 24)), (oX4 h0 q0 q1 mo), (aI g q0 24 f)] H := hP
            have hD : va_D A [(oX10 x0 y0 ta z0 p0 dr pa to_ s0 im ki tr v0 rf), (aI g r1 6 G), (oX6 p0 p1 p2 p3 p4 (nI w)), (aI g p1 24 sd), (aI g p3 6 st), (aI g p4 6 me), (oX8 s0 h0 a0 b0 e0), (oX4 tr r0 r1 mo), (aI g r0 24 (va_cpy f F 0 0 24)), (oX4 h0 q0 q1 mo), (aI g q0 24 f)] := hD
            refine lv_aload_n hx hb dX10_stop_56 rfl (lv_at hl 0 rfl) ?_
            refine lv_iload hx hb dX10_stop_57 (lv_at hl 5 rfl) ?_
            refine he_cv (wc := [(oX10 x0 y0 ta z0 p0 dr pa to_ s0 im ki tr v0 rf), (oX4 tr r0 r1 mo), (aI g r0 24 (va_cpy f F 0 0 24)), (aI g r1 6 G), (oX6 p0 p1 p2 p3 p4 (nI w)), (aI g p1 24 sd), (aI g p3 6 st), (aI g p4 6 me)]) (wr := [(oX8 s0 h0 a0 b0 e0), (oX4 h0 q0 q1 mo), (aI g q0 24 f)]) (va_runV (As := [.int (nI j)]) (rest := []) ⟨hx, hb, hml, hown, hts⟩ (g_X10_passTriedN l g x0 y0 z0 dr pa s0 im tr v0 rf ta to_ ki p0 p1 p2 p3 p4 w sd st me r0 r1 mo (va_cpy f F 0 0 24) G j (by first | assumption | decide | omega) (by rw [cpy_in (by decide)]; exact hno) (by omega) H.size) (cwV 1 hts gX10_stop_X10_passTried rfl rfl rfl (by decide +kernel) ⟨Nat.le_of_ble_eq_true rfl, Nat.le_of_ble_eq_true rfl⟩) (he_preV (wc := [(oX10 x0 y0 ta z0 p0 dr pa to_ s0 im ki tr v0 rf), (oX4 tr r0 r1 mo), (aI g r0 24 (va_cpy f F 0 0 24)), (aI g r1 6 G), (oX6 p0 p1 p2 p3 p4 (nI w)), (aI g p1 24 sd), (aI g p3 6 st), (aI g p4 6 me)]) hK hP hD hS hA hE [0, 7, 8, 1, 2, 3, 4, 5] rfl rfl 0 rfl rfl) rfl rfl hl.1 rfl (lv_room (Nat.le_of_ble_eq_true rfl)) dX10_stop_59 ⟨(Nat.le_of_ble_eq_true rfl), (Nat.le_of_ble_eq_true rfl)⟩) hP hD hS hA [0, 7, 8, 1, 2, 3, 4, 5] [6, 9, 10] rfl rfl rfl (by decide) (fun u_20 H locs h_21 hP hD hS => ?_)
            obtain ⟨um_22, uf_23, us_24⟩ := u_20
            have hP : va_P g.1 vwCl [(oX8 s0 h0 a0 b0 e0), (oX4 h0 q0 q1 mo), (aI g q0 24 f), (oX10 x0 y0 ta z0 p0 dr pa to_ s0 im ki tr v0 rf), (oX4 tr r0 r1 um_22), (aI g r0 24 uf_23), (aI g r1 6 us_24), (oX6 p0 p1 p2 p3 p4 (nI w)), (aI g p1 24 sd), (aI g p3 6 st), (aI g p4 6 me)] H := hP
            have hD : va_D A [(oX8 s0 h0 a0 b0 e0), (oX4 h0 q0 q1 mo), (aI g q0 24 f), (oX10 x0 y0 ta z0 p0 dr pa to_ s0 im ki tr v0 rf), (oX4 tr r0 r1 um_22), (aI g r0 24 uf_23), (aI g r1 6 us_24), (oX6 p0 p1 p2 p3 p4 (nI w)), (aI g p1 24 sd), (aI g p3 6 st), (aI g p4 6 me)] := hD
            refine lv_aload_n hx hb dX10_stop_62 rfl (lv_at hl 0 rfl) ?_
            refine va_get (v := .ref tr) (T := TX10) (N := 13) hx hb hts inX10 hown hK hP 3 rfl rfl 10 (by decide) f50 (fun _ h9 => h9) rfl dX10_stop_63 ?_
            refine lv_iconst (v := (-1)) hx hb dX10_stop_66 (by decide) ?_
            refine he_cv (wc := [(oX4 tr r0 r1 um_22), (aI g r0 24 uf_23)]) (wr := [(oX8 s0 h0 a0 b0 e0), (oX4 h0 q0 q1 mo), (aI g q0 24 f), (oX10 x0 y0 ta z0 p0 dr pa to_ s0 im ki tr v0 rf), (aI g r1 6 us_24), (oX6 p0 p1 p2 p3 p4 (nI w)), (aI g p1 24 sd), (aI g p3 6 st), (aI g p4 6 me)]) (va_runV (As := [.int (-1)]) (rest := []) ⟨hx, hb, hml, hown, hts⟩ (c_X4_pledge l g tr r0 r1 um_22 uf_23 (-1) H.size) (cwV 1 hts gX10_stop_X4_pledge rfl rfl rfl (by decide +kernel) ⟨Nat.le_of_ble_eq_true rfl, Nat.le_of_ble_eq_true rfl⟩) (he_preV (wc := [(oX4 tr r0 r1 um_22), (aI g r0 24 uf_23)]) hK hP hD hS hA hE [4, 5] rfl rfl 4 rfl rfl) rfl rfl hl.1 rfl (lv_room (Nat.le_of_ble_eq_true rfl)) dX10_stop_67 ⟨(Nat.le_of_ble_eq_true rfl), (Nat.le_of_ble_eq_true rfl)⟩) hP hD hS hA [4, 5] [0, 1, 2, 3, 6, 7, 8, 9, 10] rfl rfl rfl (by decide) (fun u_26 H locs h_27 hP hD hS => ?_)
            have hP : va_P g.1 vwCl [(oX8 s0 h0 a0 b0 e0), (oX4 h0 q0 q1 mo), (aI g q0 24 f), (oX10 x0 y0 ta z0 p0 dr pa to_ s0 im ki tr v0 rf), (aI g r1 6 us_24), (oX6 p0 p1 p2 p3 p4 (nI w)), (aI g p1 24 sd), (aI g p3 6 st), (aI g p4 6 me), (oX4 tr r0 r1 um_22), (aI g r0 24 (fcF uf_23 (-1) um_22))] H := hP
            have hD : va_D A [(oX8 s0 h0 a0 b0 e0), (oX4 h0 q0 q1 mo), (aI g q0 24 f), (oX10 x0 y0 ta z0 p0 dr pa to_ s0 im ki tr v0 rf), (aI g r1 6 us_24), (oX6 p0 p1 p2 p3 p4 (nI w)), (aI g p1 24 sd), (aI g p3 6 st), (aI g p4 6 me), (oX4 tr r0 r1 um_22), (aI g r0 24 (fcF uf_23 (-1) um_22))] := hD
            refine lv_aload_n hx hb dX10_stop_70 rfl (lv_at hl 0 rfl) ?_
            refine lv_iload_n hx hb dX10_stop_71 rfl (lv_at hl 1 rfl) ?_
            refine lv_iload hx hb dX10_stop_72 (lv_at hl 5 rfl) ?_
            refine lv_isub hx hb dX10_stop_74 ?_
            refine he_top (nI (n - j)) (pk_sub (by omega)) ?_
            refine he_cv (wc := [(oX10 x0 y0 ta z0 p0 dr pa to_ s0 im ki tr v0 rf), (oX4 tr r0 r1 um_22), (aI g r0 24 (fcF uf_23 (-1) um_22)), (aI g r1 6 us_24), (oX6 p0 p1 p2 p3 p4 (nI w)), (aI g p1 24 sd), (aI g p3 6 st), (aI g p4 6 me)]) (wr := [(oX8 s0 h0 a0 b0 e0), (oX4 h0 q0 q1 mo), (aI g q0 24 f)]) (va_runV (As := [.int (nI (n - j))]) (rest := []) ⟨hx, hb, hml, hown, hts⟩ (g_X10_passTriedN l g x0 y0 z0 dr pa s0 im tr v0 rf ta to_ ki p0 p1 p2 p3 p4 w sd st me r0 r1 um_22 (fcF uf_23 (-1) um_22) us_24 (n - j) (by first | assumption | decide | omega) (by rw [fcF_10]; exact m1_out 6) (by omega) H.size) (cwV 1 hts gX10_stop_X10_passTried rfl rfl rfl (by decide +kernel) ⟨Nat.le_of_ble_eq_true rfl, Nat.le_of_ble_eq_true rfl⟩) (he_preV (wc := [(oX10 x0 y0 ta z0 p0 dr pa to_ s0 im ki tr v0 rf), (oX4 tr r0 r1 um_22), (aI g r0 24 (fcF uf_23 (-1) um_22)), (aI g r1 6 us_24), (oX6 p0 p1 p2 p3 p4 (nI w)), (aI g p1 24 sd), (aI g p3 6 st), (aI g p4 6 me)]) hK hP hD hS hA hE [3, 9, 10, 4, 5, 6, 7, 8] rfl rfl 3 rfl rfl) rfl rfl hl.1 rfl (lv_room (Nat.le_of_ble_eq_true rfl)) dX10_stop_75 ⟨(Nat.le_of_ble_eq_true rfl), (Nat.le_of_ble_eq_true rfl)⟩) hP hD hS hA [3, 9, 10, 4, 5, 6, 7, 8] [0, 1, 2] rfl rfl rfl (by decide) (fun u_29 H locs h_30 hP hD hS => ?_)
            obtain ⟨um_31, uf_32, us_33⟩ := u_29
            have hP : va_P g.1 vwCl [(oX8 s0 h0 a0 b0 e0), (oX4 h0 q0 q1 mo), (aI g q0 24 f), (oX10 x0 y0 ta z0 p0 dr pa to_ s0 im ki tr v0 rf), (oX4 tr r0 r1 um_31), (aI g r0 24 uf_32), (aI g r1 6 us_33), (oX6 p0 p1 p2 p3 p4 (nI w)), (aI g p1 24 sd), (aI g p3 6 st), (aI g p4 6 me)] H := hP
            have hD : va_D A [(oX8 s0 h0 a0 b0 e0), (oX4 h0 q0 q1 mo), (aI g q0 24 f), (oX10 x0 y0 ta z0 p0 dr pa to_ s0 im ki tr v0 rf), (oX4 tr r0 r1 um_31), (aI g r0 24 uf_32), (aI g r1 6 us_33), (oX6 p0 p1 p2 p3 p4 (nI w)), (aI g p1 24 sd), (aI g p3 6 st), (aI g p4 6 me)] := hD
            refine lv_aload_n hx hb dX10_stop_78 rfl (lv_at hl 0 rfl) ?_
            refine va_get (v := .ref tr) (T := TX10) (N := 13) hx hb hts inX10 hown hK hP 3 rfl rfl 10 (by decide) f50 (fun _ h9 => h9) rfl dX10_stop_79 ?_
            refine va_get (v := .ref r0) (T := TX4) (N := 3) hx hb hts inX4 hown hK hP 4 rfl rfl 0 (by decide) f111 (fun _ h9 => h9) rfl dX10_stop_82 ?_
            refine lv_iconst (v := 0) hx hb dX10_stop_85 (by decide) ?_
            refine he_iald hx hb hK hP 5 rfl (0) (by decide) (by decide) (by first | decide | assumption) (uf_32 0) rfl dX10_stop_86 ?_
            refine lv_iload hx hb dX10_stop_87 (lv_at hl 4 rfl) ?_
            refine lv_icmp_le (tgt := 106) hx hb dX10_stop_89 (by decide) (fun c_34 => ?_) (fun c_34 => ?_)
            · refine lv_iinc (v := nI (j + 1)) (lv' := [(5, .int (nI (j + 1))), (0, .ref x0), (1, .int (nI n)), (2, .int 1), (3, .int bm), (4, .int ms)]) hx hb dX10_stop_106 hl (k := 5) rfl (nI_1 j) (by decide) rfl (fun ls hl => ?_)
              refine lv_goto (tgt := 36) hx hb dX10_stop_109 (by decide) ?_
              exact ih36 (j + 1) bm ms um_31 uf_32 us_33 (by omega) (by omega) _ _ _ (hP.sub [3, 4, 5, 6, 7, 8, 9, 10, 0, 1, 2] rfl) (hD.sub [3, 4, 5, 6, 7, 8, 9, 10, 0, 1, 2] (by decide) rfl) hS (lv_sub hl [1, 2, 3, 4, 5, 0] rfl)
            · refine lv_aload_n hx hb dX10_stop_92 rfl (lv_at hl 0 rfl) ?_
              refine va_get (v := .ref tr) (T := TX10) (N := 13) hx hb hts inX10 hown hK hP 3 rfl rfl 10 (by decide) f50 (fun _ h9 => h9) rfl dX10_stop_93 ?_
              refine va_get (v := .ref r0) (T := TX4) (N := 3) hx hb hts inX4 hown hK hP 4 rfl rfl 0 (by decide) f111 (fun _ h9 => h9) rfl dX10_stop_96 ?_
              refine lv_iconst (v := 0) hx hb dX10_stop_99 (by decide) ?_
              refine he_iald hx hb hK hP 5 rfl (0) (by decide) (by decide) (by first | decide | assumption) (uf_32 0) rfl dX10_stop_100 ?_
              refine lv_istore (lv' := [(4, .int (uf_32 0)), (0, .ref x0), (1, .int (nI n)), (2, .int 1), (3, .int bm), (5, .int (nI j))]) hx hb dX10_stop_101 hl (by decide) rfl (fun ls hl => ?_)
              refine lv_iload hx hb dX10_stop_103 (lv_at hl 5 rfl) ?_
              refine lv_istore_n (lv' := [(3, .int (nI j)), (4, .int (uf_32 0)), (0, .ref x0), (1, .int (nI n)), (2, .int 1), (5, .int (nI j))]) hx hb dX10_stop_105 rfl hl (by decide) rfl (fun ls hl => ?_)
              refine lv_iinc (v := nI (j + 1)) (lv' := [(5, .int (nI (j + 1))), (3, .int (nI j)), (4, .int (uf_32 0)), (0, .ref x0), (1, .int (nI n)), (2, .int 1)]) hx hb dX10_stop_106 hl (k := 5) rfl (nI_1 j) (by decide) rfl (fun ls hl => ?_)
              refine lv_goto (tgt := 36) hx hb dX10_stop_109 (by decide) ?_
              exact ih36 (j + 1) (nI j) (uf_32 0) um_31 uf_32 us_33 (by omega) (by omega) _ _ _ (hP.sub [3, 4, 5, 6, 7, 8, 9, 10, 0, 1, 2] rfl) (hD.sub [3, 4, 5, 6, 7, 8, 9, 10, 0, 1, 2] (by decide) rfl) hS (lv_sub hl [3, 4, 5, 1, 2, 0] rfl)
      exact loop36 ((n + 1 - 0) + 1) 0 0 (-1) mo1 f1 sh (Nat.lt_succ_self _) (Nat.zero_le _) _ _ _ hP hD hS (lv_sub hl [3, 4, 5, 2, 1, 0] rfl)
set_option maxHeartbeats 4000000 in
set_option maxRecDepth 100000 in
theorem g_X10_offer0 (l : Launch) (g : he_G) (x0 : Nat) (y0 : Nat) (z0 : Nat) (dr : Nat) (pa : Nat) (s0 : Nat) (im : Nat) (tr : Nat) (v0 : Nat) (rf : Nat) (ta : Int32) (to_ : Int32) (ki : Int32) (p0 : Nat) (p1 : Nat) (p2 : Nat) (p3 : Nat) (p4 : Nat) (w : Nat) (sd : Nat → Int32) (fn : Nat → Int32) (st : Nat → Int32) (me : Nat → Int32) (a0 : Nat) (b0 : Nat) (e0 : Nat) (h0 : Nat) (q0 : Nat) (q1 : Nat) (mo : Int32) (f : Nat → Int32) (r0 : Nat) (r1 : Nat) (mo1 : Int32) (f1 : Nat → Int32) (sh : Nat → Int32) (n : Nat) (pf : Nat → Option Nat) (t0 : Nat) (t1 : Nat) (t2 : Nat) (pw : Int32) (pd : Nat → Int32) (wb : Nat → Int32) (hw6 : w ≤ 6) (hn1 : 1 ≤ n) (hn2 : n ≤ 60) (hpf : pf 6 = some t0) (hpv : (∃ ck, ck ≤ 99 ∧ pd 3 = nI ck)) (hwv : (∀ k, k < 36 → -1 ≤ wb k)) : he_I l yX10_offer wsX10_offer 7 154 0 0 g [.ref x0, .int (nI n), .int 0] [(oX10 x0 y0 ta z0 p0 dr pa to_ s0 im ki tr v0 rf), (oX4 tr r0 r1 mo1), (aI g r0 24 f1), (aI g r1 6 sh), (oX6 p0 p1 p2 p3 p4 (nI w)), (aI g p1 24 sd), (aI g p2 10 fn), (aI g p3 6 st), (aI g p4 6 me), (aP g pa 7 pf), (oX5 t0 t1 t2 pw), (aI g t1 6 pd), (aI g t2 36 wb), (oX8 s0 h0 a0 b0 e0), (oX4 h0 q0 q1 mo), (aI g q0 24 f)] (fun (r : Int32) (u : (Nat → Int32) × (Nat → Int32) × Int32 × Int32 × (Nat → Int32) × (Nat → Int32)) => (∃ ck, ck ≤ 99 ∧ u.1 3 = nI ck) ∧ ((∀ k, k < 36 → -1 ≤ u.2.1 k))) (fun (u : (Nat → Int32) × (Nat → Int32) × Int32 × Int32 × (Nat → Int32) × (Nat → Int32)) => [(oX10 x0 y0 ta z0 p0 dr pa to_ s0 im ki tr v0 rf), (oX4 tr r0 r1 u.2.2.2.1), (aI g r0 24 u.2.2.2.2.1), (aI g r1 6 u.2.2.2.2.2), (oX6 p0 p1 p2 p3 p4 (nI w)), (aI g p1 24 sd), (aI g p2 10 fn), (aI g p3 6 st), (aI g p4 6 me), (aP g pa 7 pf), (oX5 t0 t1 t2 u.2.2.1), (aI g t1 6 u.1), (aI g t2 36 u.2.1), (oX8 s0 h0 a0 b0 e0), (oX4 h0 q0 q1 mo), (aI g q0 24 f)]) := by
  refine he_begin (l := l) (g := g) (y := yX10_offer) (wl := wsX10_offer) (fr := 7) (lo := 154) (mc := 0) (ms := 0) (av := [.ref x0, .int (nI n), .int 0]) (ws := [(oX10 x0 y0 ta z0 p0 dr pa to_ s0 im ki tr v0 rf), (oX4 tr r0 r1 mo1), (aI g r0 24 f1), (aI g r1 6 sh), (oX6 p0 p1 p2 p3 p4 (nI w)), (aI g p1 24 sd), (aI g p2 10 fn), (aI g p3 6 st), (aI g p4 6 me), (aP g pa 7 pf), (oX5 t0 t1 t2 pw), (aI g t1 6 pd), (aI g t2 36 wb), (oX8 s0 h0 a0 b0 e0), (oX4 h0 q0 q1 mo), (aI g q0 24 f)]) (cc := cX10_offer) (maxL := 9) (ret := (some .int)) (fun A => va_Qi (fun (r : Int32) (u : (Nat → Int32) × (Nat → Int32) × Int32 × Int32 × (Nat → Int32) × (Nat → Int32)) => (∃ ck, ck ≤ 99 ∧ u.1 3 = nI ck) ∧ ((∀ k, k < 36 → -1 ≤ u.2.1 k))) (fun u t => he_post g A ((fun (u : (Nat → Int32) × (Nat → Int32) × Int32 × Int32 × (Nat → Int32) × (Nat → Int32)) => [(oX10 x0 y0 ta z0 p0 dr pa to_ s0 im ki tr v0 rf), (oX4 tr r0 r1 u.2.2.2.1), (aI g r0 24 u.2.2.2.2.1), (aI g r1 6 u.2.2.2.2.2), (oX6 p0 p1 p2 p3 p4 (nI w)), (aI g p1 24 sd), (aI g p2 10 fn), (aI g p3 6 st), (aI g p4 6 me), (aP g pa 7 pf), (oX5 t0 t1 t2 u.2.2.1), (aI g t1 6 u.1), (aI g t2 36 u.2.1), (oX8 s0 h0 a0 b0 e0), (oX4 h0 q0 q1 mo), (aI g q0 24 f)]) u) t) A) (by decide) rfl (Nat.le_of_ble_eq_true rfl) ?_
  intro p e s m args below meth c A ls H locs Q hQ hB
  obtain ⟨hx, hb, hr, hml, hown, hts, hlk, hin, hP, hK, hD, hS, hA, hE, hl⟩ := hB
  have hl : lv_has ls 9 [(0, .ref x0), (1, .int (nI n)), (2, .int 0)] := hl
  have f32 := hts (.fieldLink RX10 32 "HiredEnemy" "pacts" "[LHiredEnemy$Pact;") (iwoX10_offer (k := 0) rfl)
  have inX10 : ∀ w ∈ wsX100, w ∈ wsX10_offer := innX10_offer_X10
  have f23 := hts (.fieldLink RX10 23 "HiredEnemy" "plan" "LHiredEnemy$Plan;") (iwoX10_offer (k := 1) rfl)
  refine lv_aload_n hx hb dX10_offer_0 rfl (lv_at hl 0 rfl) ?_
  refine lv_iload_n hx hb dX10_offer_1 rfl (lv_at hl 1 rfl) ?_
  refine lv_iconst (v := 1) hx hb dX10_offer_2 (by decide) ?_
  refine lv_bipush (v := 60) hx hb dX10_offer_3 (by decide) ?_
  refine he_ci (wc := []) (wr := [(oX10 x0 y0 ta z0 p0 dr pa to_ s0 im ki tr v0 rf), (oX4 tr r0 r1 mo1), (aI g r0 24 f1), (aI g r1 6 sh), (oX6 p0 p1 p2 p3 p4 (nI w)), (aI g p1 24 sd), (aI g p2 10 fn), (aI g p3 6 st), (aI g p4 6 me), (aP g pa 7 pf), (oX5 t0 t1 t2 pw), (aI g t1 6 pd), (aI g t2 36 wb), (oX8 s0 h0 a0 b0 e0), (oX4 h0 q0 q1 mo), (aI g q0 24 f)]) (va_runS (As := [.int (nI n), .int 1, .int 60]) (rest := [.ref x0]) ⟨hx, hb, hml, hown, hts⟩ (c_X10_within l g (nI n) 1 60 H.size) (va_cwS 3 hts gX10_offer_X10_within rfl rfl rfl (by decide +kernel) ⟨Nat.le_of_ble_eq_true rfl, Nat.le_of_ble_eq_true rfl⟩) (he_preS (wc := []) hK hP hD hS hA hE [] rfl rfl) rfl rfl hl.1 rfl (lv_room (Nat.le_of_ble_eq_true rfl)) dX10_offer_5 ⟨(Nat.le_of_ble_eq_true rfl), (Nat.le_of_ble_eq_true rfl)⟩) hP hD hS hA [] [0, 1, 2, 3, 4, 5, 6, 7, 8, 9, 10, 11, 12, 13, 14, 15] rfl rfl rfl (by decide) (fun r_1 u_2 H locs h_3 hP hD hS => ?_)
  subst h_3
  have hP : va_P g.1 vwCl [(oX10 x0 y0 ta z0 p0 dr pa to_ s0 im ki tr v0 rf), (oX4 tr r0 r1 mo1), (aI g r0 24 f1), (aI g r1 6 sh), (oX6 p0 p1 p2 p3 p4 (nI w)), (aI g p1 24 sd), (aI g p2 10 fn), (aI g p3 6 st), (aI g p4 6 me), (aP g pa 7 pf), (oX5 t0 t1 t2 pw), (aI g t1 6 pd), (aI g t2 36 wb), (oX8 s0 h0 a0 b0 e0), (oX4 h0 q0 q1 mo), (aI g q0 24 f)] H := hP
  have hD : va_D A [(oX10 x0 y0 ta z0 p0 dr pa to_ s0 im ki tr v0 rf), (oX4 tr r0 r1 mo1), (aI g r0 24 f1), (aI g r1 6 sh), (oX6 p0 p1 p2 p3 p4 (nI w)), (aI g p1 24 sd), (aI g p2 10 fn), (aI g p3 6 st), (aI g p4 6 me), (aP g pa 7 pf), (oX5 t0 t1 t2 pw), (aI g t1 6 pd), (aI g t2 36 wb), (oX8 s0 h0 a0 b0 e0), (oX4 h0 q0 q1 mo), (aI g q0 24 f)] := hD
  refine he_top (1) (he_within_in (a0 := 1) (B := 60) rfl rfl (by omega) (by omega) (by decide)) ?_
  refine lv_if_eq (tgt := 24) hx hb dX10_offer_8 (by decide) (fun c_4 => ?_) (fun c_4 => ?_)
  · exact absurd c_4 (by decide)
  · refine lv_iload_n hx hb dX10_offer_11 rfl (lv_at hl 2 rfl) ?_
    refine lv_iconst (v := 0) hx hb dX10_offer_12 (by decide) ?_
    refine lv_iconst (v := 3) hx hb dX10_offer_13 (by decide) ?_
    refine he_ci (wc := []) (wr := [(oX10 x0 y0 ta z0 p0 dr pa to_ s0 im ki tr v0 rf), (oX4 tr r0 r1 mo1), (aI g r0 24 f1), (aI g r1 6 sh), (oX6 p0 p1 p2 p3 p4 (nI w)), (aI g p1 24 sd), (aI g p2 10 fn), (aI g p3 6 st), (aI g p4 6 me), (aP g pa 7 pf), (oX5 t0 t1 t2 pw), (aI g t1 6 pd), (aI g t2 36 wb), (oX8 s0 h0 a0 b0 e0), (oX4 h0 q0 q1 mo), (aI g q0 24 f)]) (va_runS (As := [.int 0, .int 0, .int 3]) (rest := [.ref x0]) ⟨hx, hb, hml, hown, hts⟩ (c_X10_within l g 0 0 3 H.size) (va_cwS 3 hts gX10_offer_X10_within rfl rfl rfl (by decide +kernel) ⟨Nat.le_of_ble_eq_true rfl, Nat.le_of_ble_eq_true rfl⟩) (he_preS (wc := []) hK hP hD hS hA hE [] rfl rfl) rfl rfl hl.1 rfl (lv_room (Nat.le_of_ble_eq_true rfl)) dX10_offer_14 ⟨(Nat.le_of_ble_eq_true rfl), (Nat.le_of_ble_eq_true rfl)⟩) hP hD hS hA [] [0, 1, 2, 3, 4, 5, 6, 7, 8, 9, 10, 11, 12, 13, 14, 15] rfl rfl rfl (by decide) (fun r_5 u_6 H locs h_7 hP hD hS => ?_)
    subst h_7
    have hP : va_P g.1 vwCl [(oX10 x0 y0 ta z0 p0 dr pa to_ s0 im ki tr v0 rf), (oX4 tr r0 r1 mo1), (aI g r0 24 f1), (aI g r1 6 sh), (oX6 p0 p1 p2 p3 p4 (nI w)), (aI g p1 24 sd), (aI g p2 10 fn), (aI g p3 6 st), (aI g p4 6 me), (aP g pa 7 pf), (oX5 t0 t1 t2 pw), (aI g t1 6 pd), (aI g t2 36 wb), (oX8 s0 h0 a0 b0 e0), (oX4 h0 q0 q1 mo), (aI g q0 24 f)] H := hP
    have hD : va_D A [(oX10 x0 y0 ta z0 p0 dr pa to_ s0 im ki tr v0 rf), (oX4 tr r0 r1 mo1), (aI g r0 24 f1), (aI g r1 6 sh), (oX6 p0 p1 p2 p3 p4 (nI w)), (aI g p1 24 sd), (aI g p2 10 fn), (aI g p3 6 st), (aI g p4 6 me), (aP g pa 7 pf), (oX5 t0 t1 t2 pw), (aI g t1 6 pd), (aI g t2 36 wb), (oX8 s0 h0 a0 b0 e0), (oX4 h0 q0 q1 mo), (aI g q0 24 f)] := hD
    refine he_top (1) (by decide) ?_
    refine lv_if_eq (tgt := 24) hx hb dX10_offer_17 (by decide) (fun c_8 => ?_) (fun c_8 => ?_)
    · exact absurd c_8 (by decide)
    · refine lv_iconst (v := 1) hx hb dX10_offer_20 (by decide) ?_
      refine lv_goto (tgt := 25) hx hb dX10_offer_21 (by decide) ?_
      refine he_cv (wc := []) (wr := [(oX10 x0 y0 ta z0 p0 dr pa to_ s0 im ki tr v0 rf), (oX4 tr r0 r1 mo1), (aI g r0 24 f1), (aI g r1 6 sh), (oX6 p0 p1 p2 p3 p4 (nI w)), (aI g p1 24 sd), (aI g p2 10 fn), (aI g p3 6 st), (aI g p4 6 me), (aP g pa 7 pf), (oX5 t0 t1 t2 pw), (aI g t1 6 pd), (aI g t2 36 wb), (oX8 s0 h0 a0 b0 e0), (oX4 h0 q0 q1 mo), (aI g q0 24 f)]) (va_runV (As := [.int 1]) (rest := []) ⟨hx, hb, hml, hown, hts⟩ (c_X10_demand1 l g x0 H.size) (cwV 1 hts gX10_offer_X10_demand rfl rfl rfl (by decide +kernel) ⟨Nat.le_of_ble_eq_true rfl, Nat.le_of_ble_eq_true rfl⟩) (he_preV (wc := []) hK hP hD hS hA hE [] rfl rfl 0 rfl rfl) rfl rfl hl.1 rfl (lv_room (Nat.le_of_ble_eq_true rfl)) dX10_offer_25 ⟨(Nat.le_of_ble_eq_true rfl), (Nat.le_of_ble_eq_true rfl)⟩) hP hD hS hA [] [0, 1, 2, 3, 4, 5, 6, 7, 8, 9, 10, 11, 12, 13, 14, 15] rfl rfl rfl (by decide) (fun u_10 H locs h_11 hP hD hS => ?_)
      have hP : va_P g.1 vwCl [(oX10 x0 y0 ta z0 p0 dr pa to_ s0 im ki tr v0 rf), (oX4 tr r0 r1 mo1), (aI g r0 24 f1), (aI g r1 6 sh), (oX6 p0 p1 p2 p3 p4 (nI w)), (aI g p1 24 sd), (aI g p2 10 fn), (aI g p3 6 st), (aI g p4 6 me), (aP g pa 7 pf), (oX5 t0 t1 t2 pw), (aI g t1 6 pd), (aI g t2 36 wb), (oX8 s0 h0 a0 b0 e0), (oX4 h0 q0 q1 mo), (aI g q0 24 f)] H := hP
      have hD : va_D A [(oX10 x0 y0 ta z0 p0 dr pa to_ s0 im ki tr v0 rf), (oX4 tr r0 r1 mo1), (aI g r0 24 f1), (aI g r1 6 sh), (oX6 p0 p1 p2 p3 p4 (nI w)), (aI g p1 24 sd), (aI g p2 10 fn), (aI g p3 6 st), (aI g p4 6 me), (aP g pa 7 pf), (oX5 t0 t1 t2 pw), (aI g t1 6 pd), (aI g t2 36 wb), (oX8 s0 h0 a0 b0 e0), (oX4 h0 q0 q1 mo), (aI g q0 24 f)] := hD
      refine lv_iconst (v := 0) hx hb dX10_offer_28 (by decide) ?_
      refine lv_istore_n (lv' := [(3, .int 0), (0, .ref x0), (1, .int (nI n)), (2, .int 0)]) hx hb dX10_offer_29 rfl hl (by decide) rfl (fun ls hl => ?_)
      refine lv_iconst (v := 0) hx hb dX10_offer_30 (by decide) ?_
      refine lv_istore (lv' := [(4, .int 0), (3, .int 0), (0, .ref x0), (1, .int (nI n)), (2, .int 0)]) hx hb dX10_offer_31 hl (by decide) rfl (fun ls hl => ?_)
      refine lv_iconst (v := (-1)) hx hb dX10_offer_33 (by decide) ?_
      refine lv_istore (lv' := [(5, .int (-1)), (4, .int 0), (3, .int 0), (0, .ref x0), (1, .int (nI n)), (2, .int 0)]) hx hb dX10_offer_34 hl (by decide) rfl (fun ls hl => ?_)
      refine lv_iconst (v := 0) hx hb dX10_offer_36 (by decide) ?_
      refine lv_istore (lv' := [(6, .int 0), (5, .int (-1)), (4, .int 0), (3, .int 0), (0, .ref x0), (1, .int (nI n)), (2, .int 0)]) hx hb dX10_offer_37 hl (by decide) rfl (fun ls hl => ?_)
      have loop39 : ∀ (n9 : Nat) (r : Nat) (bn : Int32) (bc : Int32) (bm : Int32) (pv : Nat → Int32) (wv : Nat → Int32) (pz : Int32) (mj : Int32) (F : Nat → Int32) (G : Nat → Int32), 10 - r < n9 → (r ≤ 10) → ((∃ ck, ck ≤ 99 ∧ pv 3 = nI ck)) → (∀ k, k < 36 → -1 ≤ wv k) → ∀ (H : Heap) (locs : List Loc) (ls : Array Slot), va_P g.1 vwCl [(oX10 x0 y0 ta z0 p0 dr pa to_ s0 im ki tr v0 rf), (oX4 tr r0 r1 mj), (aI g r0 24 F), (aI g r1 6 G), (oX6 p0 p1 p2 p3 p4 (nI w)), (aI g p1 24 sd), (aI g p2 10 fn), (aI g p3 6 st), (aI g p4 6 me), (aP g pa 7 pf), (oX5 t0 t1 t2 pz), (aI g t1 6 pv), (aI g t2 36 wv), (oX8 s0 h0 a0 b0 e0), (oX4 h0 q0 q1 mo), (aI g q0 24 f)] H → va_D A [(oX10 x0 y0 ta z0 p0 dr pa to_ s0 im ki tr v0 rf), (oX4 tr r0 r1 mj), (aI g r0 24 F), (aI g r1 6 G), (oX6 p0 p1 p2 p3 p4 (nI w)), (aI g p1 24 sd), (aI g p2 10 fn), (aI g p3 6 st), (aI g p4 6 me), (aP g pa 7 pf), (oX5 t0 t1 t2 pz), (aI g t1 6 pv), (aI g t2 36 wv), (oX8 s0 h0 a0 b0 e0), (oX4 h0 q0 q1 mo), (aI g q0 24 f)] → va_S A s.heap H locs → lv_has ls 9 [(0, .ref x0), (1, .int (nI n)), (2, .int 0), (3, .int bn), (4, .int bc), (5, .int bm), (6, .int (nI r))] → W p l e (he_room 7 154 0 0) s m args below meth c H locs 0 0 Q (F0 m 39 ls []) := by
        intro n9
        induction n9 with
        | zero => intro r bn bc bm pv wv pz mj F G hm9; exact absurd hm9 (Nat.not_lt_zero _)
        | succ n9 ih39 =>
          intro r bn bc bm pv wv pz mj F G hm9 hr10 hpv hwv H locs ls hP hD hS hl
          refine lv_iload hx hb dX10_offer_39 (lv_at hl 6 rfl) ?_
          refine lv_bipush (v := 9) hx hb dX10_offer_41 (by decide) ?_
          refine lv_icmp_gt (tgt := 121) hx hb dX10_offer_43 (by decide) (fun c_12 => ?_) (fun c_12 => ?_)
          · have k_13 : 9 < r := (he_clt (a := 9) (b := r) (by decide) rfl (by omega) (by omega)).mp c_12
            refine lv_iload_n hx hb dX10_offer_121 rfl (lv_at hl 2 rfl) ?_
            refine lv_tableIn (tgt := 148) hx hb dX10_offer_122 (by decide) (by decide) rfl (by decide) ?_
            refine lv_iload_n hx hb dX10_offer_148 rfl (lv_at hl 3 rfl) ?_
            exact he_ri hQ hx hb hr hlk hP hD hS dX10_offer_149 (Nat.le_of_ble_eq_true rfl) (Nat.le_of_ble_eq_true rfl) ((pv, wv, pz, mj, F, G)) (rfl) (⟨hpv, hwv⟩)
          · have k_14 : ¬ (9 < r) := fun h9 => c_12 ((he_clt (a := 9) (b := r) (by decide) rfl (by omega) (by omega)).mpr h9)
            refine lv_iconst (v := 0) hx hb dX10_offer_46 (by decide) ?_
            refine lv_istore (lv' := [(7, .int 0), (0, .ref x0), (1, .int (nI n)), (2, .int 0), (3, .int bn), (4, .int bc), (5, .int bm), (6, .int (nI r))]) hx hb dX10_offer_47 hl (by decide) rfl (fun ls hl => ?_)
            have loop49 : ∀ (n9 : Nat) (c9 : Nat) (bn : Int32) (bc : Int32) (bm : Int32) (pv : Nat → Int32) (wv : Nat → Int32) (pz : Int32) (mj : Int32) (F : Nat → Int32) (G : Nat → Int32), 21 - c9 < n9 → (c9 ≤ 21) → ((∃ ck, ck ≤ 99 ∧ pv 3 = nI ck)) → (∀ k, k < 36 → -1 ≤ wv k) → ∀ (H : Heap) (locs : List Loc) (ls : Array Slot), va_P g.1 vwCl [(oX10 x0 y0 ta z0 p0 dr pa to_ s0 im ki tr v0 rf), (oX4 tr r0 r1 mj), (aI g r0 24 F), (aI g r1 6 G), (oX6 p0 p1 p2 p3 p4 (nI w)), (aI g p1 24 sd), (aI g p2 10 fn), (aI g p3 6 st), (aI g p4 6 me), (aP g pa 7 pf), (oX5 t0 t1 t2 pz), (aI g t1 6 pv), (aI g t2 36 wv), (oX8 s0 h0 a0 b0 e0), (oX4 h0 q0 q1 mo), (aI g q0 24 f)] H → va_D A [(oX10 x0 y0 ta z0 p0 dr pa to_ s0 im ki tr v0 rf), (oX4 tr r0 r1 mj), (aI g r0 24 F), (aI g r1 6 G), (oX6 p0 p1 p2 p3 p4 (nI w)), (aI g p1 24 sd), (aI g p2 10 fn), (aI g p3 6 st), (aI g p4 6 me), (aP g pa 7 pf), (oX5 t0 t1 t2 pz), (aI g t1 6 pv), (aI g t2 36 wv), (oX8 s0 h0 a0 b0 e0), (oX4 h0 q0 q1 mo), (aI g q0 24 f)] → va_S A s.heap H locs → lv_has ls 9 [(0, .ref x0), (1, .int (nI n)), (2, .int 0), (3, .int bn), (4, .int bc), (5, .int bm), (6, .int (nI r)), (7, .int (nI c9))] → W p l e (he_room 7 154 0 0) s m args below meth c H locs 0 0 Q (F0 m 49 ls []) := by
              intro n9
              induction n9 with
              | zero => intro c9 bn bc bm pv wv pz mj F G hm9; exact absurd hm9 (Nat.not_lt_zero _)
              | succ n9 ih49 =>
                intro c9 bn bc bm pv wv pz mj F G hm9 hc hpv hwv H locs ls hP hD hS hl
                refine lv_iload hx hb dX10_offer_49 (lv_at hl 7 rfl) ?_
                refine lv_bipush (v := 20) hx hb dX10_offer_51 (by decide) ?_
                refine lv_icmp_gt (tgt := 115) hx hb dX10_offer_53 (by decide) (fun c_15 => ?_) (fun c_15 => ?_)
                · have k_16 : 20 < c9 := (he_clt (a := 20) (b := c9) (by decide) rfl (by omega) (by omega)).mp c_15
                  refine lv_iinc (v := nI (r + 1)) (lv' := [(6, .int (nI (r + 1))), (0, .ref x0), (1, .int (nI n)), (2, .int 0), (3, .int bn), (4, .int bc), (5, .int bm), (7, .int (nI c9))]) hx hb dX10_offer_115 hl (k := 6) rfl (nI_1 r) (by decide) rfl (fun ls hl => ?_)
                  refine lv_goto (tgt := 39) hx hb dX10_offer_118 (by decide) ?_
                  exact ih39 (r + 1) bn bc bm pv wv pz mj F G (by omega) (by omega) hpv hwv _ _ _ hP hD hS (lv_sub hl [1, 2, 3, 4, 5, 6, 0] rfl)
                · have k_17 : ¬ (20 < c9) := fun h9 => c_15 ((he_clt (a := 20) (b := c9) (by decide) rfl (by omega) (by omega)).mpr h9)
                  refine lv_aload_n hx hb dX10_offer_56 rfl (lv_at hl 0 rfl) ?_
                  refine va_get (v := .ref pa) (T := TX10) (N := 13) hx hb hts inX10 hown hK hP 0 rfl rfl 5 (by decide) f32 (fun _ h9 => h9) rfl dX10_offer_57 ?_
                  refine lv_bipush (v := 6) hx hb dX10_offer_60 (by decide) ?_
                  refine he_ald hx hb 2 rfl hK hP 9 rfl (6) (by decide) (by decide) (by first | decide | assumption) (.ref t0) (by rw [hpf]; rfl) dX10_offer_62 ?_
                  refine lv_aload_n hx hb dX10_offer_63 rfl (lv_at hl 0 rfl) ?_
                  refine va_get (v := .ref p0) (T := TX10) (N := 13) hx hb hts inX10 hown hK hP 0 rfl rfl 3 (by decide) f23 (fun _ h9 => h9) rfl dX10_offer_64 ?_
                  refine lv_iload hx hb dX10_offer_67 (lv_at hl 6 rfl) ?_
                  refine lv_iload hx hb dX10_offer_69 (lv_at hl 7 rfl) ?_
                  refine he_ci (wc := [(oX6 p0 p1 p2 p3 p4 (nI w)), (aI g p1 24 sd)]) (wr := [(oX10 x0 y0 ta z0 p0 dr pa to_ s0 im ki tr v0 rf), (oX4 tr r0 r1 mj), (aI g r0 24 F), (aI g r1 6 G), (aI g p2 10 fn), (aI g p3 6 st), (aI g p4 6 me), (aP g pa 7 pf), (oX5 t0 t1 t2 pz), (aI g t1 6 pv), (aI g t2 36 wv), (oX8 s0 h0 a0 b0 e0), (oX4 h0 q0 q1 mo), (aI g q0 24 f)]) (va_runV (As := [.int (nI r), .int (nI c9)]) (rest := [.ref t0]) ⟨hx, hb, hml, hown, hts⟩ (c_X6_wanted l g p0 p1 p2 p3 p4 (nI w) sd (nI r) (nI c9) H.size) (cwV 2 hts gX10_offer_X6_wanted rfl rfl rfl (by decide +kernel) ⟨Nat.le_of_ble_eq_true rfl, Nat.le_of_ble_eq_true rfl⟩) (he_preV (wc := [(oX6 p0 p1 p2 p3 p4 (nI w)), (aI g p1 24 sd)]) hK hP hD hS hA hE [4, 5] rfl rfl 4 rfl rfl) rfl rfl hl.1 rfl (lv_room (Nat.le_of_ble_eq_true rfl)) dX10_offer_71 ⟨(Nat.le_of_ble_eq_true rfl), (Nat.le_of_ble_eq_true rfl)⟩) hP hD hS hA [4, 5] [0, 1, 2, 3, 6, 7, 8, 9, 10, 11, 12, 13, 14, 15] rfl rfl rfl (by decide) (fun r_18 u_19 H locs h_20 hP hD hS => ?_)
                  subst h_20
                  have hP : va_P g.1 vwCl [(oX10 x0 y0 ta z0 p0 dr pa to_ s0 im ki tr v0 rf), (oX4 tr r0 r1 mj), (aI g r0 24 F), (aI g r1 6 G), (aI g p2 10 fn), (aI g p3 6 st), (aI g p4 6 me), (aP g pa 7 pf), (oX5 t0 t1 t2 pz), (aI g t1 6 pv), (aI g t2 36 wv), (oX8 s0 h0 a0 b0 e0), (oX4 h0 q0 q1 mo), (aI g q0 24 f), (oX6 p0 p1 p2 p3 p4 (nI w)), (aI g p1 24 sd)] H := hP
                  have hD : va_D A [(oX10 x0 y0 ta z0 p0 dr pa to_ s0 im ki tr v0 rf), (oX4 tr r0 r1 mj), (aI g r0 24 F), (aI g r1 6 G), (aI g p2 10 fn), (aI g p3 6 st), (aI g p4 6 me), (aP g pa 7 pf), (oX5 t0 t1 t2 pz), (aI g t1 6 pv), (aI g t2 36 wv), (oX8 s0 h0 a0 b0 e0), (oX4 h0 q0 q1 mo), (aI g q0 24 f), (oX6 p0 p1 p2 p3 p4 (nI w)), (aI g p1 24 sd)] := hD
                  refine lv_iload hx hb dX10_offer_74 (lv_at hl 6 rfl) ?_
                  refine lv_iload hx hb dX10_offer_76 (lv_at hl 7 rfl) ?_
                  refine lv_iload_n hx hb dX10_offer_78 rfl (lv_at hl 1 rfl) ?_
                  refine he_cv (wc := [(oX5 t0 t1 t2 pz), (aI g t1 6 pv), (aI g t2 36 wv)]) (wr := [(oX10 x0 y0 ta z0 p0 dr pa to_ s0 im ki tr v0 rf), (oX4 tr r0 r1 mj), (aI g r0 24 F), (aI g r1 6 G), (aI g p2 10 fn), (aI g p3 6 st), (aI g p4 6 me), (aP g pa 7 pf), (oX8 s0 h0 a0 b0 e0), (oX4 h0 q0 q1 mo), (aI g q0 24 f), (oX6 p0 p1 p2 p3 p4 (nI w)), (aI g p1 24 sd)]) (va_runV (As := [.int (wantF sd (nI r) (nI c9)), .int (nI r), .int (nI c9), .int (nI n)]) (rest := []) ⟨hx, hb, hml, hown, hts⟩ (c_X5_propose l g t0 t1 t2 pz pv wv (wantF sd (nI r) (nI c9)) (nI r) (nI c9) (nI n) H.size) (cwV 4 hts gX10_offer_X5_propose rfl rfl rfl (by decide +kernel) ⟨Nat.le_of_ble_eq_true rfl, Nat.le_of_ble_eq_true rfl⟩) (he_preV (wc := [(oX5 t0 t1 t2 pz), (aI g t1 6 pv), (aI g t2 36 wv)]) hK hP hD hS hA hE [8, 9, 10] rfl rfl 8 rfl rfl) rfl rfl hl.1 rfl (lv_room (Nat.le_of_ble_eq_true rfl)) dX10_offer_79 ⟨(Nat.le_of_ble_eq_true rfl), (Nat.le_of_ble_eq_true rfl)⟩) hP hD hS hA [8, 9, 10] [0, 1, 2, 3, 4, 5, 6, 7, 11, 12, 13, 14, 15] rfl rfl rfl (by decide) (fun u_22 H locs h_23 hP hD hS => ?_)
                  have hP : va_P g.1 vwCl [(oX10 x0 y0 ta z0 p0 dr pa to_ s0 im ki tr v0 rf), (oX4 tr r0 r1 mj), (aI g r0 24 F), (aI g r1 6 G), (aI g p2 10 fn), (aI g p3 6 st), (aI g p4 6 me), (aP g pa 7 pf), (oX8 s0 h0 a0 b0 e0), (oX4 h0 q0 q1 mo), (aI g q0 24 f), (oX6 p0 p1 p2 p3 p4 (nI w)), (aI g p1 24 sd), (oX5 t0 t1 t2 0), (aI g t1 6 (prP pv (wantF sd (nI r) (nI c9)) (nI r) (nI c9) (nI n))), (aI g t2 36 (flF (fun _ => -1) wv 36))] H := hP
                  have hD : va_D A [(oX10 x0 y0 ta z0 p0 dr pa to_ s0 im ki tr v0 rf), (oX4 tr r0 r1 mj), (aI g r0 24 F), (aI g r1 6 G), (aI g p2 10 fn), (aI g p3 6 st), (aI g p4 6 me), (aP g pa 7 pf), (oX8 s0 h0 a0 b0 e0), (oX4 h0 q0 q1 mo), (aI g q0 24 f), (oX6 p0 p1 p2 p3 p4 (nI w)), (aI g p1 24 sd), (oX5 t0 t1 t2 0), (aI g t1 6 (prP pv (wantF sd (nI r) (nI c9)) (nI r) (nI c9) (nI n))), (aI g t2 36 (flF (fun _ => -1) wv 36))] := hD
                  refine lv_aload_n hx hb dX10_offer_82 rfl (lv_at hl 0 rfl) ?_
                  refine lv_bipush (v := 6) hx hb dX10_offer_83 (by decide) ?_
                  refine lv_iload_n hx hb dX10_offer_85 rfl (lv_at hl 1 rfl) ?_
                  refine he_ci (wc := [(oX10 x0 y0 ta z0 p0 dr pa to_ s0 im ki tr v0 rf), (oX4 tr r0 r1 mj), (aI g r0 24 F), (aI g r1 6 G), (oX6 p0 p1 p2 p3 p4 (nI w)), (aI g p1 24 sd), (aI g p2 10 fn), (aI g p3 6 st), (aI g p4 6 me), (aP g pa 7 pf), (oX5 t0 t1 t2 0), (aI g t1 6 (prP pv (wantF sd (nI r) (nI c9)) (nI r) (nI c9) (nI n))), (aI g t2 36 (flF (fun _ => -1) wv 36)), (oX8 s0 h0 a0 b0 e0), (oX4 h0 q0 q1 mo), (aI g q0 24 f)]) (wr := []) (va_runV (As := [.int 6, .int (nI n)]) (rest := []) ⟨hx, hb, hml, hown, hts⟩ (g_X10_trySigned l g x0 y0 z0 dr pa s0 im tr v0 rf ta to_ ki p0 p1 p2 p3 p4 w sd fn st me a0 b0 e0 h0 q0 q1 mo f r0 r1 mj F G n pf t0 t1 t2 0 (prP pv (wantF sd (nI r) (nI c9)) (nI r) (nI c9) (nI n)) (flF (fun _ => -1) wv 36) c9 6 (by first | assumption | decide | omega) (fl_m1 _) (prP_3 _ _ _ _ _) (by omega) (by decide) hpf hn2 H.size) (cwV 2 hts gX10_offer_X10_trySigned rfl rfl rfl (by decide +kernel) ⟨Nat.le_of_ble_eq_true rfl, Nat.le_of_ble_eq_true rfl⟩) (he_preV (wc := [(oX10 x0 y0 ta z0 p0 dr pa to_ s0 im ki tr v0 rf), (oX4 tr r0 r1 mj), (aI g r0 24 F), (aI g r1 6 G), (oX6 p0 p1 p2 p3 p4 (nI w)), (aI g p1 24 sd), (aI g p2 10 fn), (aI g p3 6 st), (aI g p4 6 me), (aP g pa 7 pf), (oX5 t0 t1 t2 0), (aI g t1 6 (prP pv (wantF sd (nI r) (nI c9)) (nI r) (nI c9) (nI n))), (aI g t2 36 (flF (fun _ => -1) wv 36)), (oX8 s0 h0 a0 b0 e0), (oX4 h0 q0 q1 mo), (aI g q0 24 f)]) hK hP hD hS hA hE [0, 1, 2, 3, 11, 12, 4, 5, 6, 7, 13, 14, 15, 8, 9, 10] rfl rfl 0 rfl rfl) rfl rfl hl.1 rfl (lv_room (Nat.le_of_ble_eq_true rfl)) dX10_offer_86 ⟨(Nat.le_of_ble_eq_true rfl), (Nat.le_of_ble_eq_true rfl)⟩) hP hD hS hA [0, 1, 2, 3, 11, 12, 4, 5, 6, 7, 13, 14, 15, 8, 9, 10] [] rfl rfl rfl (by decide) (fun r_24 u_25 H locs h_26 hP hD hS => ?_)
                  obtain ⟨um_27, uf_28, us_29⟩ := u_25
                  have hP : va_P g.1 vwCl [(oX10 x0 y0 ta z0 p0 dr pa to_ s0 im ki tr v0 rf), (oX4 tr r0 r1 um_27), (aI g r0 24 uf_28), (aI g r1 6 us_29), (oX6 p0 p1 p2 p3 p4 (nI w)), (aI g p1 24 sd), (aI g p2 10 fn), (aI g p3 6 st), (aI g p4 6 me), (aP g pa 7 pf), (oX5 t0 t1 t2 0), (aI g t1 6 (prP pv (wantF sd (nI r) (nI c9)) (nI r) (nI c9) (nI n))), (aI g t2 36 (flF (fun _ => -1) wv 36)), (oX8 s0 h0 a0 b0 e0), (oX4 h0 q0 q1 mo), (aI g q0 24 f)] H := hP
                  have hD : va_D A [(oX10 x0 y0 ta z0 p0 dr pa to_ s0 im ki tr v0 rf), (oX4 tr r0 r1 um_27), (aI g r0 24 uf_28), (aI g r1 6 us_29), (oX6 p0 p1 p2 p3 p4 (nI w)), (aI g p1 24 sd), (aI g p2 10 fn), (aI g p3 6 st), (aI g p4 6 me), (aP g pa 7 pf), (oX5 t0 t1 t2 0), (aI g t1 6 (prP pv (wantF sd (nI r) (nI c9)) (nI r) (nI c9) (nI n))), (aI g t2 36 (flF (fun _ => -1) wv 36)), (oX8 s0 h0 a0 b0 e0), (oX4 h0 q0 q1 mo), (aI g q0 24 f)] := hD
                  refine lv_istore (lv' := [(8, .int r_24), (0, .ref x0), (1, .int (nI n)), (2, .int 0), (3, .int bn), (4, .int bc), (5, .int bm), (6, .int (nI r)), (7, .int (nI c9))]) hx hb dX10_offer_89 hl (by decide) rfl (fun ls hl => ?_)
                  refine lv_iload hx hb dX10_offer_91 (lv_at hl 0 rfl) ?_
                  refine lv_iload hx hb dX10_offer_93 (lv_at hl 6 rfl) ?_
                  refine lv_icmp_le (tgt := 109) hx hb dX10_offer_95 (by decide) (fun c_30 => ?_) (fun c_30 => ?_)
                  · refine lv_iinc (v := nI (c9 + 1)) (lv' := [(7, .int (nI (c9 + 1))), (8, .int r_24), (0, .ref x0), (1, .int (nI n)), (2, .int 0), (3, .int bn), (4, .int bc), (5, .int bm), (6, .int (nI r))]) hx hb dX10_offer_109 hl (k := 8) rfl (nI_1 c9) (by decide) rfl (fun ls hl => ?_)
                    refine lv_goto (tgt := 49) hx hb dX10_offer_112 (by decide) ?_
                    exact ih49 (c9 + 1) bn bc bm (prP pv (wantF sd (nI r) (nI c9)) (nI r) (nI c9) (nI n)) (flF (fun _ => -1) wv 36) 0 um_27 uf_28 us_29 (by omega) (by omega) ⟨c9, by omega, prP_3 _ _ _ _ _⟩ (fl_m1 _) _ _ _ hP hD hS (lv_sub hl [2, 3, 4, 5, 6, 7, 8, 0] rfl)
                  · refine lv_iload hx hb dX10_offer_98 (lv_at hl 0 rfl) ?_
                    refine lv_istore (lv' := [(5, .int r_24), (8, .int r_24), (0, .ref x0), (1, .int (nI n)), (2, .int 0), (3, .int bn), (4, .int bc), (6, .int (nI r)), (7, .int (nI c9))]) hx hb dX10_offer_100 hl (by decide) rfl (fun ls hl => ?_)
                    refine lv_iload hx hb dX10_offer_102 (lv_at hl 7 rfl) ?_
                    refine lv_istore_n (lv' := [(3, .int (nI r)), (5, .int r_24), (8, .int r_24), (0, .ref x0), (1, .int (nI n)), (2, .int 0), (4, .int bc), (6, .int (nI r)), (7, .int (nI c9))]) hx hb dX10_offer_104 rfl hl (by decide) rfl (fun ls hl => ?_)
                    refine lv_iload hx hb dX10_offer_105 (lv_at hl 8 rfl) ?_
                    refine lv_istore (lv' := [(4, .int (nI c9)), (3, .int (nI r)), (5, .int r_24), (8, .int r_24), (0, .ref x0), (1, .int (nI n)), (2, .int 0), (6, .int (nI r)), (7, .int (nI c9))]) hx hb dX10_offer_107 hl (by decide) rfl (fun ls hl => ?_)
                    refine lv_iinc (v := nI (c9 + 1)) (lv' := [(7, .int (nI (c9 + 1))), (4, .int (nI c9)), (3, .int (nI r)), (5, .int r_24), (8, .int r_24), (0, .ref x0), (1, .int (nI n)), (2, .int 0), (6, .int (nI r))]) hx hb dX10_offer_109 hl (k := 8) rfl (nI_1 c9) (by decide) rfl (fun ls hl => ?_)
                    refine lv_goto (tgt := 49) hx hb dX10_offer_112 (by decide) ?_
                    exact ih49 (c9 + 1) (nI r) (nI c9) r_24 (prP pv (wantF sd (nI r) (nI c9)) (nI r) (nI c9) (nI n)) (flF (fun _ => -1) wv 36) 0 um_27 uf_28 us_29 (by omega) (by omega) ⟨c9, by omega, prP_3 _ _ _ _ _⟩ (fl_m1 _) _ _ _ hP hD hS (lv_sub hl [5, 6, 7, 2, 1, 3, 8, 0] rfl)
            exact loop49 ((21 - 0) + 1) 0 bn bc bm pv wv pz mj F G (Nat.lt_succ_self _) (Nat.zero_le _) hpv hwv _ _ _ hP hD hS (lv_sub hl [1, 2, 3, 4, 5, 6, 7, 0] rfl)
      exact loop39 ((10 - 0) + 1) 0 0 0 (-1) pd wb pw mo1 f1 sh (Nat.lt_succ_self _) (Nat.zero_le _) hpv hwv _ _ _ hP hD hS (lv_sub hl [4, 5, 6, 3, 2, 1, 0] rfl)
set_option maxHeartbeats 4000000 in
set_option maxRecDepth 100000 in
theorem g_X10_offer1 (l : Launch) (g : he_G) (x0 : Nat) (y0 : Nat) (z0 : Nat) (dr : Nat) (pa : Nat) (s0 : Nat) (im : Nat) (tr : Nat) (v0 : Nat) (rf : Nat) (ta : Int32) (to_ : Int32) (ki : Int32) (p0 : Nat) (p1 : Nat) (p2 : Nat) (p3 : Nat) (p4 : Nat) (w : Nat) (sd : Nat → Int32) (fn : Nat → Int32) (st : Nat → Int32) (me : Nat → Int32) (a0 : Nat) (b0 : Nat) (e0 : Nat) (h0 : Nat) (q0 : Nat) (q1 : Nat) (mo : Int32) (f : Nat → Int32) (r0 : Nat) (r1 : Nat) (mo1 : Int32) (f1 : Nat → Int32) (sh : Nat → Int32) (n : Nat) (pf : Nat → Option Nat) (t0 : Nat) (t1 : Nat) (t2 : Nat) (pw : Int32) (pd : Nat → Int32) (wb : Nat → Int32) (hw6 : w ≤ 6) (hn1 : 1 ≤ n) (hn2 : n ≤ 60) (hpf : pf 6 = some t0) (hpv : (∃ ck, ck ≤ 99 ∧ pd 3 = nI ck)) (hwv : (∀ k, k < 36 → -1 ≤ wb k)) : he_I l yX10_offer wsX10_offer 7 154 0 0 g [.ref x0, .int (nI n), .int 1] [(oX10 x0 y0 ta z0 p0 dr pa to_ s0 im ki tr v0 rf), (oX4 tr r0 r1 mo1), (aI g r0 24 f1), (aI g r1 6 sh), (oX6 p0 p1 p2 p3 p4 (nI w)), (aI g p1 24 sd), (aI g p2 10 fn), (aI g p3 6 st), (aI g p4 6 me), (aP g pa 7 pf), (oX5 t0 t1 t2 pw), (aI g t1 6 pd), (aI g t2 36 wb), (oX8 s0 h0 a0 b0 e0), (oX4 h0 q0 q1 mo), (aI g q0 24 f)] (fun (r : Int32) (u : (Nat → Int32) × (Nat → Int32) × Int32 × Int32 × (Nat → Int32) × (Nat → Int32)) => (∃ ck, ck ≤ 99 ∧ u.1 3 = nI ck) ∧ ((∀ k, k < 36 → -1 ≤ u.2.1 k))) (fun (u : (Nat → Int32) × (Nat → Int32) × Int32 × Int32 × (Nat → Int32) × (Nat → Int32)) => [(oX10 x0 y0 ta z0 p0 dr pa to_ s0 im ki tr v0 rf), (oX4 tr r0 r1 u.2.2.2.1), (aI g r0 24 u.2.2.2.2.1), (aI g r1 6 u.2.2.2.2.2), (oX6 p0 p1 p2 p3 p4 (nI w)), (aI g p1 24 sd), (aI g p2 10 fn), (aI g p3 6 st), (aI g p4 6 me), (aP g pa 7 pf), (oX5 t0 t1 t2 u.2.2.1), (aI g t1 6 u.1), (aI g t2 36 u.2.1), (oX8 s0 h0 a0 b0 e0), (oX4 h0 q0 q1 mo), (aI g q0 24 f)]) := by
  refine he_begin (l := l) (g := g) (y := yX10_offer) (wl := wsX10_offer) (fr := 7) (lo := 154) (mc := 0) (ms := 0) (av := [.ref x0, .int (nI n), .int 1]) (ws := [(oX10 x0 y0 ta z0 p0 dr pa to_ s0 im ki tr v0 rf), (oX4 tr r0 r1 mo1), (aI g r0 24 f1), (aI g r1 6 sh), (oX6 p0 p1 p2 p3 p4 (nI w)), (aI g p1 24 sd), (aI g p2 10 fn), (aI g p3 6 st), (aI g p4 6 me), (aP g pa 7 pf), (oX5 t0 t1 t2 pw), (aI g t1 6 pd), (aI g t2 36 wb), (oX8 s0 h0 a0 b0 e0), (oX4 h0 q0 q1 mo), (aI g q0 24 f)]) (cc := cX10_offer) (maxL := 9) (ret := (some .int)) (fun A => va_Qi (fun (r : Int32) (u : (Nat → Int32) × (Nat → Int32) × Int32 × Int32 × (Nat → Int32) × (Nat → Int32)) => (∃ ck, ck ≤ 99 ∧ u.1 3 = nI ck) ∧ ((∀ k, k < 36 → -1 ≤ u.2.1 k))) (fun u t => he_post g A ((fun (u : (Nat → Int32) × (Nat → Int32) × Int32 × Int32 × (Nat → Int32) × (Nat → Int32)) => [(oX10 x0 y0 ta z0 p0 dr pa to_ s0 im ki tr v0 rf), (oX4 tr r0 r1 u.2.2.2.1), (aI g r0 24 u.2.2.2.2.1), (aI g r1 6 u.2.2.2.2.2), (oX6 p0 p1 p2 p3 p4 (nI w)), (aI g p1 24 sd), (aI g p2 10 fn), (aI g p3 6 st), (aI g p4 6 me), (aP g pa 7 pf), (oX5 t0 t1 t2 u.2.2.1), (aI g t1 6 u.1), (aI g t2 36 u.2.1), (oX8 s0 h0 a0 b0 e0), (oX4 h0 q0 q1 mo), (aI g q0 24 f)]) u) t) A) (by decide) rfl (Nat.le_of_ble_eq_true rfl) ?_
  intro p e s m args below meth c A ls H locs Q hQ hB
  obtain ⟨hx, hb, hr, hml, hown, hts, hlk, hin, hP, hK, hD, hS, hA, hE, hl⟩ := hB
  have hl : lv_has ls 9 [(0, .ref x0), (1, .int (nI n)), (2, .int 1)] := hl
  have f32 := hts (.fieldLink RX10 32 "HiredEnemy" "pacts" "[LHiredEnemy$Pact;") (iwoX10_offer (k := 0) rfl)
  have inX10 : ∀ w ∈ wsX100, w ∈ wsX10_offer := innX10_offer_X10
  have f23 := hts (.fieldLink RX10 23 "HiredEnemy" "plan" "LHiredEnemy$Plan;") (iwoX10_offer (k := 1) rfl)
  refine lv_aload_n hx hb dX10_offer_0 rfl (lv_at hl 0 rfl) ?_
  refine lv_iload_n hx hb dX10_offer_1 rfl (lv_at hl 1 rfl) ?_
  refine lv_iconst (v := 1) hx hb dX10_offer_2 (by decide) ?_
  refine lv_bipush (v := 60) hx hb dX10_offer_3 (by decide) ?_
  refine he_ci (wc := []) (wr := [(oX10 x0 y0 ta z0 p0 dr pa to_ s0 im ki tr v0 rf), (oX4 tr r0 r1 mo1), (aI g r0 24 f1), (aI g r1 6 sh), (oX6 p0 p1 p2 p3 p4 (nI w)), (aI g p1 24 sd), (aI g p2 10 fn), (aI g p3 6 st), (aI g p4 6 me), (aP g pa 7 pf), (oX5 t0 t1 t2 pw), (aI g t1 6 pd), (aI g t2 36 wb), (oX8 s0 h0 a0 b0 e0), (oX4 h0 q0 q1 mo), (aI g q0 24 f)]) (va_runS (As := [.int (nI n), .int 1, .int 60]) (rest := [.ref x0]) ⟨hx, hb, hml, hown, hts⟩ (c_X10_within l g (nI n) 1 60 H.size) (va_cwS 3 hts gX10_offer_X10_within rfl rfl rfl (by decide +kernel) ⟨Nat.le_of_ble_eq_true rfl, Nat.le_of_ble_eq_true rfl⟩) (he_preS (wc := []) hK hP hD hS hA hE [] rfl rfl) rfl rfl hl.1 rfl (lv_room (Nat.le_of_ble_eq_true rfl)) dX10_offer_5 ⟨(Nat.le_of_ble_eq_true rfl), (Nat.le_of_ble_eq_true rfl)⟩) hP hD hS hA [] [0, 1, 2, 3, 4, 5, 6, 7, 8, 9, 10, 11, 12, 13, 14, 15] rfl rfl rfl (by decide) (fun r_1 u_2 H locs h_3 hP hD hS => ?_)
  subst h_3
  have hP : va_P g.1 vwCl [(oX10 x0 y0 ta z0 p0 dr pa to_ s0 im ki tr v0 rf), (oX4 tr r0 r1 mo1), (aI g r0 24 f1), (aI g r1 6 sh), (oX6 p0 p1 p2 p3 p4 (nI w)), (aI g p1 24 sd), (aI g p2 10 fn), (aI g p3 6 st), (aI g p4 6 me), (aP g pa 7 pf), (oX5 t0 t1 t2 pw), (aI g t1 6 pd), (aI g t2 36 wb), (oX8 s0 h0 a0 b0 e0), (oX4 h0 q0 q1 mo), (aI g q0 24 f)] H := hP
  have hD : va_D A [(oX10 x0 y0 ta z0 p0 dr pa to_ s0 im ki tr v0 rf), (oX4 tr r0 r1 mo1), (aI g r0 24 f1), (aI g r1 6 sh), (oX6 p0 p1 p2 p3 p4 (nI w)), (aI g p1 24 sd), (aI g p2 10 fn), (aI g p3 6 st), (aI g p4 6 me), (aP g pa 7 pf), (oX5 t0 t1 t2 pw), (aI g t1 6 pd), (aI g t2 36 wb), (oX8 s0 h0 a0 b0 e0), (oX4 h0 q0 q1 mo), (aI g q0 24 f)] := hD
  refine he_top (1) (he_within_in (a0 := 1) (B := 60) rfl rfl (by omega) (by omega) (by decide)) ?_
  refine lv_if_eq (tgt := 24) hx hb dX10_offer_8 (by decide) (fun c_4 => ?_) (fun c_4 => ?_)
  · exact absurd c_4 (by decide)
  · refine lv_iload_n hx hb dX10_offer_11 rfl (lv_at hl 2 rfl) ?_
    refine lv_iconst (v := 0) hx hb dX10_offer_12 (by decide) ?_
    refine lv_iconst (v := 3) hx hb dX10_offer_13 (by decide) ?_
    refine he_ci (wc := []) (wr := [(oX10 x0 y0 ta z0 p0 dr pa to_ s0 im ki tr v0 rf), (oX4 tr r0 r1 mo1), (aI g r0 24 f1), (aI g r1 6 sh), (oX6 p0 p1 p2 p3 p4 (nI w)), (aI g p1 24 sd), (aI g p2 10 fn), (aI g p3 6 st), (aI g p4 6 me), (aP g pa 7 pf), (oX5 t0 t1 t2 pw), (aI g t1 6 pd), (aI g t2 36 wb), (oX8 s0 h0 a0 b0 e0), (oX4 h0 q0 q1 mo), (aI g q0 24 f)]) (va_runS (As := [.int 1, .int 0, .int 3]) (rest := [.ref x0]) ⟨hx, hb, hml, hown, hts⟩ (c_X10_within l g 1 0 3 H.size) (va_cwS 3 hts gX10_offer_X10_within rfl rfl rfl (by decide +kernel) ⟨Nat.le_of_ble_eq_true rfl, Nat.le_of_ble_eq_true rfl⟩) (he_preS (wc := []) hK hP hD hS hA hE [] rfl rfl) rfl rfl hl.1 rfl (lv_room (Nat.le_of_ble_eq_true rfl)) dX10_offer_14 ⟨(Nat.le_of_ble_eq_true rfl), (Nat.le_of_ble_eq_true rfl)⟩) hP hD hS hA [] [0, 1, 2, 3, 4, 5, 6, 7, 8, 9, 10, 11, 12, 13, 14, 15] rfl rfl rfl (by decide) (fun r_5 u_6 H locs h_7 hP hD hS => ?_)
    subst h_7
    have hP : va_P g.1 vwCl [(oX10 x0 y0 ta z0 p0 dr pa to_ s0 im ki tr v0 rf), (oX4 tr r0 r1 mo1), (aI g r0 24 f1), (aI g r1 6 sh), (oX6 p0 p1 p2 p3 p4 (nI w)), (aI g p1 24 sd), (aI g p2 10 fn), (aI g p3 6 st), (aI g p4 6 me), (aP g pa 7 pf), (oX5 t0 t1 t2 pw), (aI g t1 6 pd), (aI g t2 36 wb), (oX8 s0 h0 a0 b0 e0), (oX4 h0 q0 q1 mo), (aI g q0 24 f)] H := hP
    have hD : va_D A [(oX10 x0 y0 ta z0 p0 dr pa to_ s0 im ki tr v0 rf), (oX4 tr r0 r1 mo1), (aI g r0 24 f1), (aI g r1 6 sh), (oX6 p0 p1 p2 p3 p4 (nI w)), (aI g p1 24 sd), (aI g p2 10 fn), (aI g p3 6 st), (aI g p4 6 me), (aP g pa 7 pf), (oX5 t0 t1 t2 pw), (aI g t1 6 pd), (aI g t2 36 wb), (oX8 s0 h0 a0 b0 e0), (oX4 h0 q0 q1 mo), (aI g q0 24 f)] := hD
    refine he_top (1) (by decide) ?_
    refine lv_if_eq (tgt := 24) hx hb dX10_offer_17 (by decide) (fun c_8 => ?_) (fun c_8 => ?_)
    · exact absurd c_8 (by decide)
    · refine lv_iconst (v := 1) hx hb dX10_offer_20 (by decide) ?_
      refine lv_goto (tgt := 25) hx hb dX10_offer_21 (by decide) ?_
      refine he_cv (wc := []) (wr := [(oX10 x0 y0 ta z0 p0 dr pa to_ s0 im ki tr v0 rf), (oX4 tr r0 r1 mo1), (aI g r0 24 f1), (aI g r1 6 sh), (oX6 p0 p1 p2 p3 p4 (nI w)), (aI g p1 24 sd), (aI g p2 10 fn), (aI g p3 6 st), (aI g p4 6 me), (aP g pa 7 pf), (oX5 t0 t1 t2 pw), (aI g t1 6 pd), (aI g t2 36 wb), (oX8 s0 h0 a0 b0 e0), (oX4 h0 q0 q1 mo), (aI g q0 24 f)]) (va_runV (As := [.int 1]) (rest := []) ⟨hx, hb, hml, hown, hts⟩ (c_X10_demand1 l g x0 H.size) (cwV 1 hts gX10_offer_X10_demand rfl rfl rfl (by decide +kernel) ⟨Nat.le_of_ble_eq_true rfl, Nat.le_of_ble_eq_true rfl⟩) (he_preV (wc := []) hK hP hD hS hA hE [] rfl rfl 0 rfl rfl) rfl rfl hl.1 rfl (lv_room (Nat.le_of_ble_eq_true rfl)) dX10_offer_25 ⟨(Nat.le_of_ble_eq_true rfl), (Nat.le_of_ble_eq_true rfl)⟩) hP hD hS hA [] [0, 1, 2, 3, 4, 5, 6, 7, 8, 9, 10, 11, 12, 13, 14, 15] rfl rfl rfl (by decide) (fun u_10 H locs h_11 hP hD hS => ?_)
      have hP : va_P g.1 vwCl [(oX10 x0 y0 ta z0 p0 dr pa to_ s0 im ki tr v0 rf), (oX4 tr r0 r1 mo1), (aI g r0 24 f1), (aI g r1 6 sh), (oX6 p0 p1 p2 p3 p4 (nI w)), (aI g p1 24 sd), (aI g p2 10 fn), (aI g p3 6 st), (aI g p4 6 me), (aP g pa 7 pf), (oX5 t0 t1 t2 pw), (aI g t1 6 pd), (aI g t2 36 wb), (oX8 s0 h0 a0 b0 e0), (oX4 h0 q0 q1 mo), (aI g q0 24 f)] H := hP
      have hD : va_D A [(oX10 x0 y0 ta z0 p0 dr pa to_ s0 im ki tr v0 rf), (oX4 tr r0 r1 mo1), (aI g r0 24 f1), (aI g r1 6 sh), (oX6 p0 p1 p2 p3 p4 (nI w)), (aI g p1 24 sd), (aI g p2 10 fn), (aI g p3 6 st), (aI g p4 6 me), (aP g pa 7 pf), (oX5 t0 t1 t2 pw), (aI g t1 6 pd), (aI g t2 36 wb), (oX8 s0 h0 a0 b0 e0), (oX4 h0 q0 q1 mo), (aI g q0 24 f)] := hD
      refine lv_iconst (v := 0) hx hb dX10_offer_28 (by decide) ?_
      refine lv_istore_n (lv' := [(3, .int 0), (0, .ref x0), (1, .int (nI n)), (2, .int 1)]) hx hb dX10_offer_29 rfl hl (by decide) rfl (fun ls hl => ?_)
      refine lv_iconst (v := 0) hx hb dX10_offer_30 (by decide) ?_
      refine lv_istore (lv' := [(4, .int 0), (3, .int 0), (0, .ref x0), (1, .int (nI n)), (2, .int 1)]) hx hb dX10_offer_31 hl (by decide) rfl (fun ls hl => ?_)
      refine lv_iconst (v := (-1)) hx hb dX10_offer_33 (by decide) ?_
      refine lv_istore (lv' := [(5, .int (-1)), (4, .int 0), (3, .int 0), (0, .ref x0), (1, .int (nI n)), (2, .int 1)]) hx hb dX10_offer_34 hl (by decide) rfl (fun ls hl => ?_)
      refine lv_iconst (v := 0) hx hb dX10_offer_36 (by decide) ?_
      refine lv_istore (lv' := [(6, .int 0), (5, .int (-1)), (4, .int 0), (3, .int 0), (0, .ref x0), (1, .int (nI n)), (2, .int 1)]) hx hb dX10_offer_37 hl (by decide) rfl (fun ls hl => ?_)
      have loop39 : ∀ (n9 : Nat) (r : Nat) (bn : Int32) (bc : Int32) (bm : Int32) (pv : Nat → Int32) (wv : Nat → Int32) (pz : Int32) (mj : Int32) (F : Nat → Int32) (G : Nat → Int32), 10 - r < n9 → (r ≤ 10) → ((∃ ck, ck ≤ 99 ∧ pv 3 = nI ck)) → (∀ k, k < 36 → -1 ≤ wv k) → ∀ (H : Heap) (locs : List Loc) (ls : Array Slot), va_P g.1 vwCl [(oX10 x0 y0 ta z0 p0 dr pa to_ s0 im ki tr v0 rf), (oX4 tr r0 r1 mj), (aI g r0 24 F), (aI g r1 6 G), (oX6 p0 p1 p2 p3 p4 (nI w)), (aI g p1 24 sd), (aI g p2 10 fn), (aI g p3 6 st), (aI g p4 6 me), (aP g pa 7 pf), (oX5 t0 t1 t2 pz), (aI g t1 6 pv), (aI g t2 36 wv), (oX8 s0 h0 a0 b0 e0), (oX4 h0 q0 q1 mo), (aI g q0 24 f)] H → va_D A [(oX10 x0 y0 ta z0 p0 dr pa to_ s0 im ki tr v0 rf), (oX4 tr r0 r1 mj), (aI g r0 24 F), (aI g r1 6 G), (oX6 p0 p1 p2 p3 p4 (nI w)), (aI g p1 24 sd), (aI g p2 10 fn), (aI g p3 6 st), (aI g p4 6 me), (aP g pa 7 pf), (oX5 t0 t1 t2 pz), (aI g t1 6 pv), (aI g t2 36 wv), (oX8 s0 h0 a0 b0 e0), (oX4 h0 q0 q1 mo), (aI g q0 24 f)] → va_S A s.heap H locs → lv_has ls 9 [(0, .ref x0), (1, .int (nI n)), (2, .int 1), (3, .int bn), (4, .int bc), (5, .int bm), (6, .int (nI r))] → W p l e (he_room 7 154 0 0) s m args below meth c H locs 0 0 Q (F0 m 39 ls []) := by
        intro n9
        induction n9 with
        | zero => intro r bn bc bm pv wv pz mj F G hm9; exact absurd hm9 (Nat.not_lt_zero _)
        | succ n9 ih39 =>
          intro r bn bc bm pv wv pz mj F G hm9 hr10 hpv hwv H locs ls hP hD hS hl
          refine lv_iload hx hb dX10_offer_39 (lv_at hl 6 rfl) ?_
          refine lv_bipush (v := 9) hx hb dX10_offer_41 (by decide) ?_
          refine lv_icmp_gt (tgt := 121) hx hb dX10_offer_43 (by decide) (fun c_12 => ?_) (fun c_12 => ?_)
          · have k_13 : 9 < r := (he_clt (a := 9) (b := r) (by decide) rfl (by omega) (by omega)).mp c_12
            refine lv_iload_n hx hb dX10_offer_121 rfl (lv_at hl 2 rfl) ?_
            refine lv_tableIn (tgt := 150) hx hb dX10_offer_122 (by decide) (by decide) rfl (by decide) ?_
            refine lv_iload hx hb dX10_offer_150 (lv_at hl 4 rfl) ?_
            exact he_ri hQ hx hb hr hlk hP hD hS dX10_offer_152 (Nat.le_of_ble_eq_true rfl) (Nat.le_of_ble_eq_true rfl) ((pv, wv, pz, mj, F, G)) (rfl) (⟨hpv, hwv⟩)
          · have k_14 : ¬ (9 < r) := fun h9 => c_12 ((he_clt (a := 9) (b := r) (by decide) rfl (by omega) (by omega)).mpr h9)
            refine lv_iconst (v := 0) hx hb dX10_offer_46 (by decide) ?_
            refine lv_istore (lv' := [(7, .int 0), (0, .ref x0), (1, .int (nI n)), (2, .int 1), (3, .int bn), (4, .int bc), (5, .int bm), (6, .int (nI r))]) hx hb dX10_offer_47 hl (by decide) rfl (fun ls hl => ?_)
            have loop49 : ∀ (n9 : Nat) (c9 : Nat) (bn : Int32) (bc : Int32) (bm : Int32) (pv : Nat → Int32) (wv : Nat → Int32) (pz : Int32) (mj : Int32) (F : Nat → Int32) (G : Nat → Int32), 21 - c9 < n9 → (c9 ≤ 21) → ((∃ ck, ck ≤ 99 ∧ pv 3 = nI ck)) → (∀ k, k < 36 → -1 ≤ wv k) → ∀ (H : Heap) (locs : List Loc) (ls : Array Slot), va_P g.1 vwCl [(oX10 x0 y0 ta z0 p0 dr pa to_ s0 im ki tr v0 rf), (oX4 tr r0 r1 mj), (aI g r0 24 F), (aI g r1 6 G), (oX6 p0 p1 p2 p3 p4 (nI w)), (aI g p1 24 sd), (aI g p2 10 fn), (aI g p3 6 st), (aI g p4 6 me), (aP g pa 7 pf), (oX5 t0 t1 t2 pz), (aI g t1 6 pv), (aI g t2 36 wv), (oX8 s0 h0 a0 b0 e0), (oX4 h0 q0 q1 mo), (aI g q0 24 f)] H → va_D A [(oX10 x0 y0 ta z0 p0 dr pa to_ s0 im ki tr v0 rf), (oX4 tr r0 r1 mj), (aI g r0 24 F), (aI g r1 6 G), (oX6 p0 p1 p2 p3 p4 (nI w)), (aI g p1 24 sd), (aI g p2 10 fn), (aI g p3 6 st), (aI g p4 6 me), (aP g pa 7 pf), (oX5 t0 t1 t2 pz), (aI g t1 6 pv), (aI g t2 36 wv), (oX8 s0 h0 a0 b0 e0), (oX4 h0 q0 q1 mo), (aI g q0 24 f)] → va_S A s.heap H locs → lv_has ls 9 [(0, .ref x0), (1, .int (nI n)), (2, .int 1), (3, .int bn), (4, .int bc), (5, .int bm), (6, .int (nI r)), (7, .int (nI c9))] → W p l e (he_room 7 154 0 0) s m args below meth c H locs 0 0 Q (F0 m 49 ls []) := by
              intro n9
              induction n9 with
              | zero => intro c9 bn bc bm pv wv pz mj F G hm9; exact absurd hm9 (Nat.not_lt_zero _)
              | succ n9 ih49 =>
                intro c9 bn bc bm pv wv pz mj F G hm9 hc hpv hwv H locs ls hP hD hS hl
                refine lv_iload hx hb dX10_offer_49 (lv_at hl 7 rfl) ?_
                refine lv_bipush (v := 20) hx hb dX10_offer_51 (by decide) ?_
                refine lv_icmp_gt (tgt := 115) hx hb dX10_offer_53 (by decide) (fun c_15 => ?_) (fun c_15 => ?_)
                · have k_16 : 20 < c9 := (he_clt (a := 20) (b := c9) (by decide) rfl (by omega) (by omega)).mp c_15
                  refine lv_iinc (v := nI (r + 1)) (lv' := [(6, .int (nI (r + 1))), (0, .ref x0), (1, .int (nI n)), (2, .int 1), (3, .int bn), (4, .int bc), (5, .int bm), (7, .int (nI c9))]) hx hb dX10_offer_115 hl (k := 6) rfl (nI_1 r) (by decide) rfl (fun ls hl => ?_)
                  refine lv_goto (tgt := 39) hx hb dX10_offer_118 (by decide) ?_
                  exact ih39 (r + 1) bn bc bm pv wv pz mj F G (by omega) (by omega) hpv hwv _ _ _ hP hD hS (lv_sub hl [1, 2, 3, 4, 5, 6, 0] rfl)
                · have k_17 : ¬ (20 < c9) := fun h9 => c_15 ((he_clt (a := 20) (b := c9) (by decide) rfl (by omega) (by omega)).mpr h9)
                  refine lv_aload_n hx hb dX10_offer_56 rfl (lv_at hl 0 rfl) ?_
                  refine va_get (v := .ref pa) (T := TX10) (N := 13) hx hb hts inX10 hown hK hP 0 rfl rfl 5 (by decide) f32 (fun _ h9 => h9) rfl dX10_offer_57 ?_
                  refine lv_bipush (v := 6) hx hb dX10_offer_60 (by decide) ?_
                  refine he_ald hx hb 2 rfl hK hP 9 rfl (6) (by decide) (by decide) (by first | decide | assumption) (.ref t0) (by rw [hpf]; rfl) dX10_offer_62 ?_
                  refine lv_aload_n hx hb dX10_offer_63 rfl (lv_at hl 0 rfl) ?_
                  refine va_get (v := .ref p0) (T := TX10) (N := 13) hx hb hts inX10 hown hK hP 0 rfl rfl 3 (by decide) f23 (fun _ h9 => h9) rfl dX10_offer_64 ?_
                  refine lv_iload hx hb dX10_offer_67 (lv_at hl 6 rfl) ?_
                  refine lv_iload hx hb dX10_offer_69 (lv_at hl 7 rfl) ?_
                  refine he_ci (wc := [(oX6 p0 p1 p2 p3 p4 (nI w)), (aI g p1 24 sd)]) (wr := [(oX10 x0 y0 ta z0 p0 dr pa to_ s0 im ki tr v0 rf), (oX4 tr r0 r1 mj), (aI g r0 24 F), (aI g r1 6 G), (aI g p2 10 fn), (aI g p3 6 st), (aI g p4 6 me), (aP g pa 7 pf), (oX5 t0 t1 t2 pz), (aI g t1 6 pv), (aI g t2 36 wv), (oX8 s0 h0 a0 b0 e0), (oX4 h0 q0 q1 mo), (aI g q0 24 f)]) (va_runV (As := [.int (nI r), .int (nI c9)]) (rest := [.ref t0]) ⟨hx, hb, hml, hown, hts⟩ (c_X6_wanted l g p0 p1 p2 p3 p4 (nI w) sd (nI r) (nI c9) H.size) (cwV 2 hts gX10_offer_X6_wanted rfl rfl rfl (by decide +kernel) ⟨Nat.le_of_ble_eq_true rfl, Nat.le_of_ble_eq_true rfl⟩) (he_preV (wc := [(oX6 p0 p1 p2 p3 p4 (nI w)), (aI g p1 24 sd)]) hK hP hD hS hA hE [4, 5] rfl rfl 4 rfl rfl) rfl rfl hl.1 rfl (lv_room (Nat.le_of_ble_eq_true rfl)) dX10_offer_71 ⟨(Nat.le_of_ble_eq_true rfl), (Nat.le_of_ble_eq_true rfl)⟩) hP hD hS hA [4, 5] [0, 1, 2, 3, 6, 7, 8, 9, 10, 11, 12, 13, 14, 15] rfl rfl rfl (by decide) (fun r_18 u_19 H locs h_20 hP hD hS => ?_)
                  subst h_20
                  have hP : va_P g.1 vwCl [(oX10 x0 y0 ta z0 p0 dr pa to_ s0 im ki tr v0 rf), (oX4 tr r0 r1 mj), (aI g r0 24 F), (aI g r1 6 G), (aI g p2 10 fn), (aI g p3 6 st), (aI g p4 6 me), (aP g pa 7 pf), (oX5 t0 t1 t2 pz), (aI g t1 6 pv), (aI g t2 36 wv), (oX8 s0 h0 a0 b0 e0), (oX4 h0 q0 q1 mo), (aI g q0 24 f), (oX6 p0 p1 p2 p3 p4 (nI w)), (aI g p1 24 sd)] H := hP
                  have hD : va_D A [(oX10 x0 y0 ta z0 p0 dr pa to_ s0 im ki tr v0 rf), (oX4 tr r0 r1 mj), (aI g r0 24 F), (aI g r1 6 G), (aI g p2 10 fn), (aI g p3 6 st), (aI g p4 6 me), (aP g pa 7 pf), (oX5 t0 t1 t2 pz), (aI g t1 6 pv), (aI g t2 36 wv), (oX8 s0 h0 a0 b0 e0), (oX4 h0 q0 q1 mo), (aI g q0 24 f), (oX6 p0 p1 p2 p3 p4 (nI w)), (aI g p1 24 sd)] := hD
                  refine lv_iload hx hb dX10_offer_74 (lv_at hl 6 rfl) ?_
                  refine lv_iload hx hb dX10_offer_76 (lv_at hl 7 rfl) ?_
                  refine lv_iload_n hx hb dX10_offer_78 rfl (lv_at hl 1 rfl) ?_
                  refine he_cv (wc := [(oX5 t0 t1 t2 pz), (aI g t1 6 pv), (aI g t2 36 wv)]) (wr := [(oX10 x0 y0 ta z0 p0 dr pa to_ s0 im ki tr v0 rf), (oX4 tr r0 r1 mj), (aI g r0 24 F), (aI g r1 6 G), (aI g p2 10 fn), (aI g p3 6 st), (aI g p4 6 me), (aP g pa 7 pf), (oX8 s0 h0 a0 b0 e0), (oX4 h0 q0 q1 mo), (aI g q0 24 f), (oX6 p0 p1 p2 p3 p4 (nI w)), (aI g p1 24 sd)]) (va_runV (As := [.int (wantF sd (nI r) (nI c9)), .int (nI r), .int (nI c9), .int (nI n)]) (rest := []) ⟨hx, hb, hml, hown, hts⟩ (c_X5_propose l g t0 t1 t2 pz pv wv (wantF sd (nI r) (nI c9)) (nI r) (nI c9) (nI n) H.size) (cwV 4 hts gX10_offer_X5_propose rfl rfl rfl (by decide +kernel) ⟨Nat.le_of_ble_eq_true rfl, Nat.le_of_ble_eq_true rfl⟩) (he_preV (wc := [(oX5 t0 t1 t2 pz), (aI g t1 6 pv), (aI g t2 36 wv)]) hK hP hD hS hA hE [8, 9, 10] rfl rfl 8 rfl rfl) rfl rfl hl.1 rfl (lv_room (Nat.le_of_ble_eq_true rfl)) dX10_offer_79 ⟨(Nat.le_of_ble_eq_true rfl), (Nat.le_of_ble_eq_true rfl)⟩) hP hD hS hA [8, 9, 10] [0, 1, 2, 3, 4, 5, 6, 7, 11, 12, 13, 14, 15] rfl rfl rfl (by decide) (fun u_22 H locs h_23 hP hD hS => ?_)
                  have hP : va_P g.1 vwCl [(oX10 x0 y0 ta z0 p0 dr pa to_ s0 im ki tr v0 rf), (oX4 tr r0 r1 mj), (aI g r0 24 F), (aI g r1 6 G), (aI g p2 10 fn), (aI g p3 6 st), (aI g p4 6 me), (aP g pa 7 pf), (oX8 s0 h0 a0 b0 e0), (oX4 h0 q0 q1 mo), (aI g q0 24 f), (oX6 p0 p1 p2 p3 p4 (nI w)), (aI g p1 24 sd), (oX5 t0 t1 t2 0), (aI g t1 6 (prP pv (wantF sd (nI r) (nI c9)) (nI r) (nI c9) (nI n))), (aI g t2 36 (flF (fun _ => -1) wv 36))] H := hP
                  have hD : va_D A [(oX10 x0 y0 ta z0 p0 dr pa to_ s0 im ki tr v0 rf), (oX4 tr r0 r1 mj), (aI g r0 24 F), (aI g r1 6 G), (aI g p2 10 fn), (aI g p3 6 st), (aI g p4 6 me), (aP g pa 7 pf), (oX8 s0 h0 a0 b0 e0), (oX4 h0 q0 q1 mo), (aI g q0 24 f), (oX6 p0 p1 p2 p3 p4 (nI w)), (aI g p1 24 sd), (oX5 t0 t1 t2 0), (aI g t1 6 (prP pv (wantF sd (nI r) (nI c9)) (nI r) (nI c9) (nI n))), (aI g t2 36 (flF (fun _ => -1) wv 36))] := hD
                  refine lv_aload_n hx hb dX10_offer_82 rfl (lv_at hl 0 rfl) ?_
                  refine lv_bipush (v := 6) hx hb dX10_offer_83 (by decide) ?_
                  refine lv_iload_n hx hb dX10_offer_85 rfl (lv_at hl 1 rfl) ?_
                  refine he_ci (wc := [(oX10 x0 y0 ta z0 p0 dr pa to_ s0 im ki tr v0 rf), (oX4 tr r0 r1 mj), (aI g r0 24 F), (aI g r1 6 G), (oX6 p0 p1 p2 p3 p4 (nI w)), (aI g p1 24 sd), (aI g p2 10 fn), (aI g p3 6 st), (aI g p4 6 me), (aP g pa 7 pf), (oX5 t0 t1 t2 0), (aI g t1 6 (prP pv (wantF sd (nI r) (nI c9)) (nI r) (nI c9) (nI n))), (aI g t2 36 (flF (fun _ => -1) wv 36)), (oX8 s0 h0 a0 b0 e0), (oX4 h0 q0 q1 mo), (aI g q0 24 f)]) (wr := []) (va_runV (As := [.int 6, .int (nI n)]) (rest := []) ⟨hx, hb, hml, hown, hts⟩ (g_X10_trySigned l g x0 y0 z0 dr pa s0 im tr v0 rf ta to_ ki p0 p1 p2 p3 p4 w sd fn st me a0 b0 e0 h0 q0 q1 mo f r0 r1 mj F G n pf t0 t1 t2 0 (prP pv (wantF sd (nI r) (nI c9)) (nI r) (nI c9) (nI n)) (flF (fun _ => -1) wv 36) c9 6 (by first | assumption | decide | omega) (fl_m1 _) (prP_3 _ _ _ _ _) (by omega) (by decide) hpf hn2 H.size) (cwV 2 hts gX10_offer_X10_trySigned rfl rfl rfl (by decide +kernel) ⟨Nat.le_of_ble_eq_true rfl, Nat.le_of_ble_eq_true rfl⟩) (he_preV (wc := [(oX10 x0 y0 ta z0 p0 dr pa to_ s0 im ki tr v0 rf), (oX4 tr r0 r1 mj), (aI g r0 24 F), (aI g r1 6 G), (oX6 p0 p1 p2 p3 p4 (nI w)), (aI g p1 24 sd), (aI g p2 10 fn), (aI g p3 6 st), (aI g p4 6 me), (aP g pa 7 pf), (oX5 t0 t1 t2 0), (aI g t1 6 (prP pv (wantF sd (nI r) (nI c9)) (nI r) (nI c9) (nI n))), (aI g t2 36 (flF (fun _ => -1) wv 36)), (oX8 s0 h0 a0 b0 e0), (oX4 h0 q0 q1 mo), (aI g q0 24 f)]) hK hP hD hS hA hE [0, 1, 2, 3, 11, 12, 4, 5, 6, 7, 13, 14, 15, 8, 9, 10] rfl rfl 0 rfl rfl) rfl rfl hl.1 rfl (lv_room (Nat.le_of_ble_eq_true rfl)) dX10_offer_86 ⟨(Nat.le_of_ble_eq_true rfl), (Nat.le_of_ble_eq_true rfl)⟩) hP hD hS hA [0, 1, 2, 3, 11, 12, 4, 5, 6, 7, 13, 14, 15, 8, 9, 10] [] rfl rfl rfl (by decide) (fun r_24 u_25 H locs h_26 hP hD hS => ?_)
                  obtain ⟨um_27, uf_28, us_29⟩ := u_25
                  have hP : va_P g.1 vwCl [(oX10 x0 y0 ta z0 p0 dr pa to_ s0 im ki tr v0 rf), (oX4 tr r0 r1 um_27), (aI g r0 24 uf_28), (aI g r1 6 us_29), (oX6 p0 p1 p2 p3 p4 (nI w)), (aI g p1 24 sd), (aI g p2 10 fn), (aI g p3 6 st), (aI g p4 6 me), (aP g pa 7 pf), (oX5 t0 t1 t2 0), (aI g t1 6 (prP pv (wantF sd (nI r) (nI c9)) (nI r) (nI c9) (nI n))), (aI g t2 36 (flF (fun _ => -1) wv 36)), (oX8 s0 h0 a0 b0 e0), (oX4 h0 q0 q1 mo), (aI g q0 24 f)] H := hP
                  have hD : va_D A [(oX10 x0 y0 ta z0 p0 dr pa to_ s0 im ki tr v0 rf), (oX4 tr r0 r1 um_27), (aI g r0 24 uf_28), (aI g r1 6 us_29), (oX6 p0 p1 p2 p3 p4 (nI w)), (aI g p1 24 sd), (aI g p2 10 fn), (aI g p3 6 st), (aI g p4 6 me), (aP g pa 7 pf), (oX5 t0 t1 t2 0), (aI g t1 6 (prP pv (wantF sd (nI r) (nI c9)) (nI r) (nI c9) (nI n))), (aI g t2 36 (flF (fun _ => -1) wv 36)), (oX8 s0 h0 a0 b0 e0), (oX4 h0 q0 q1 mo), (aI g q0 24 f)] := hD
                  refine lv_istore (lv' := [(8, .int r_24), (0, .ref x0), (1, .int (nI n)), (2, .int 1), (3, .int bn), (4, .int bc), (5, .int bm), (6, .int (nI r)), (7, .int (nI c9))]) hx hb dX10_offer_89 hl (by decide) rfl (fun ls hl => ?_)
                  refine lv_iload hx hb dX10_offer_91 (lv_at hl 0 rfl) ?_
                  refine lv_iload hx hb dX10_offer_93 (lv_at hl 6 rfl) ?_
                  refine lv_icmp_le (tgt := 109) hx hb dX10_offer_95 (by decide) (fun c_30 => ?_) (fun c_30 => ?_)
                  · refine lv_iinc (v := nI (c9 + 1)) (lv' := [(7, .int (nI (c9 + 1))), (8, .int r_24), (0, .ref x0), (1, .int (nI n)), (2, .int 1), (3, .int bn), (4, .int bc), (5, .int bm), (6, .int (nI r))]) hx hb dX10_offer_109 hl (k := 8) rfl (nI_1 c9) (by decide) rfl (fun ls hl => ?_)
                    refine lv_goto (tgt := 49) hx hb dX10_offer_112 (by decide) ?_
                    exact ih49 (c9 + 1) bn bc bm (prP pv (wantF sd (nI r) (nI c9)) (nI r) (nI c9) (nI n)) (flF (fun _ => -1) wv 36) 0 um_27 uf_28 us_29 (by omega) (by omega) ⟨c9, by omega, prP_3 _ _ _ _ _⟩ (fl_m1 _) _ _ _ hP hD hS (lv_sub hl [2, 3, 4, 5, 6, 7, 8, 0] rfl)
                  · refine lv_iload hx hb dX10_offer_98 (lv_at hl 0 rfl) ?_
                    refine lv_istore (lv' := [(5, .int r_24), (8, .int r_24), (0, .ref x0), (1, .int (nI n)), (2, .int 1), (3, .int bn), (4, .int bc), (6, .int (nI r)), (7, .int (nI c9))]) hx hb dX10_offer_100 hl (by decide) rfl (fun ls hl => ?_)
                    refine lv_iload hx hb dX10_offer_102 (lv_at hl 7 rfl) ?_
                    refine lv_istore_n (lv' := [(3, .int (nI r)), (5, .int r_24), (8, .int r_24), (0, .ref x0), (1, .int (nI n)), (2, .int 1), (4, .int bc), (6, .int (nI r)), (7, .int (nI c9))]) hx hb dX10_offer_104 rfl hl (by decide) rfl (fun ls hl => ?_)
                    refine lv_iload hx hb dX10_offer_105 (lv_at hl 8 rfl) ?_
                    refine lv_istore (lv' := [(4, .int (nI c9)), (3, .int (nI r)), (5, .int r_24), (8, .int r_24), (0, .ref x0), (1, .int (nI n)), (2, .int 1), (6, .int (nI r)), (7, .int (nI c9))]) hx hb dX10_offer_107 hl (by decide) rfl (fun ls hl => ?_)
                    refine lv_iinc (v := nI (c9 + 1)) (lv' := [(7, .int (nI (c9 + 1))), (4, .int (nI c9)), (3, .int (nI r)), (5, .int r_24), (8, .int r_24), (0, .ref x0), (1, .int (nI n)), (2, .int 1), (6, .int (nI r))]) hx hb dX10_offer_109 hl (k := 8) rfl (nI_1 c9) (by decide) rfl (fun ls hl => ?_)
                    refine lv_goto (tgt := 49) hx hb dX10_offer_112 (by decide) ?_
                    exact ih49 (c9 + 1) (nI r) (nI c9) r_24 (prP pv (wantF sd (nI r) (nI c9)) (nI r) (nI c9) (nI n)) (flF (fun _ => -1) wv 36) 0 um_27 uf_28 us_29 (by omega) (by omega) ⟨c9, by omega, prP_3 _ _ _ _ _⟩ (fl_m1 _) _ _ _ hP hD hS (lv_sub hl [5, 6, 7, 2, 1, 3, 8, 0] rfl)
            exact loop49 ((21 - 0) + 1) 0 bn bc bm pv wv pz mj F G (Nat.lt_succ_self _) (Nat.zero_le _) hpv hwv _ _ _ hP hD hS (lv_sub hl [1, 2, 3, 4, 5, 6, 7, 0] rfl)
      exact loop39 ((10 - 0) + 1) 0 0 0 (-1) pd wb pw mo1 f1 sh (Nat.lt_succ_self _) (Nat.zero_le _) hpv hwv _ _ _ hP hD hS (lv_sub hl [4, 5, 6, 3, 2, 1, 0] rfl)
set_option maxHeartbeats 4000000 in
set_option maxRecDepth 100000 in
theorem g_X10_offer2 (l : Launch) (g : he_G) (x0 : Nat) (y0 : Nat) (z0 : Nat) (dr : Nat) (pa : Nat) (s0 : Nat) (im : Nat) (tr : Nat) (v0 : Nat) (rf : Nat) (ta : Int32) (to_ : Int32) (ki : Int32) (p0 : Nat) (p1 : Nat) (p2 : Nat) (p3 : Nat) (p4 : Nat) (w : Nat) (sd : Nat → Int32) (fn : Nat → Int32) (st : Nat → Int32) (me : Nat → Int32) (a0 : Nat) (b0 : Nat) (e0 : Nat) (h0 : Nat) (q0 : Nat) (q1 : Nat) (mo : Int32) (f : Nat → Int32) (r0 : Nat) (r1 : Nat) (mo1 : Int32) (f1 : Nat → Int32) (sh : Nat → Int32) (n : Nat) (pf : Nat → Option Nat) (t0 : Nat) (t1 : Nat) (t2 : Nat) (pw : Int32) (pd : Nat → Int32) (wb : Nat → Int32) (hw6 : w ≤ 6) (hn1 : 1 ≤ n) (hn2 : n ≤ 60) (hpf : pf 6 = some t0) (hpv : (∃ ck, ck ≤ 99 ∧ pd 3 = nI ck)) (hwv : (∀ k, k < 36 → -1 ≤ wb k)) : he_I l yX10_offer wsX10_offer 7 154 0 0 g [.ref x0, .int (nI n), .int 2] [(oX10 x0 y0 ta z0 p0 dr pa to_ s0 im ki tr v0 rf), (oX4 tr r0 r1 mo1), (aI g r0 24 f1), (aI g r1 6 sh), (oX6 p0 p1 p2 p3 p4 (nI w)), (aI g p1 24 sd), (aI g p2 10 fn), (aI g p3 6 st), (aI g p4 6 me), (aP g pa 7 pf), (oX5 t0 t1 t2 pw), (aI g t1 6 pd), (aI g t2 36 wb), (oX8 s0 h0 a0 b0 e0), (oX4 h0 q0 q1 mo), (aI g q0 24 f)] (fun (r : Int32) (u : (Nat → Int32) × (Nat → Int32) × Int32 × Int32 × (Nat → Int32) × (Nat → Int32)) => (∃ ck, ck ≤ 99 ∧ u.1 3 = nI ck) ∧ ((∀ k, k < 36 → -1 ≤ u.2.1 k))) (fun (u : (Nat → Int32) × (Nat → Int32) × Int32 × Int32 × (Nat → Int32) × (Nat → Int32)) => [(oX10 x0 y0 ta z0 p0 dr pa to_ s0 im ki tr v0 rf), (oX4 tr r0 r1 u.2.2.2.1), (aI g r0 24 u.2.2.2.2.1), (aI g r1 6 u.2.2.2.2.2), (oX6 p0 p1 p2 p3 p4 (nI w)), (aI g p1 24 sd), (aI g p2 10 fn), (aI g p3 6 st), (aI g p4 6 me), (aP g pa 7 pf), (oX5 t0 t1 t2 u.2.2.1), (aI g t1 6 u.1), (aI g t2 36 u.2.1), (oX8 s0 h0 a0 b0 e0), (oX4 h0 q0 q1 mo), (aI g q0 24 f)]) := by
  refine he_begin (l := l) (g := g) (y := yX10_offer) (wl := wsX10_offer) (fr := 7) (lo := 154) (mc := 0) (ms := 0) (av := [.ref x0, .int (nI n), .int 2]) (ws := [(oX10 x0 y0 ta z0 p0 dr pa to_ s0 im ki tr v0 rf), (oX4 tr r0 r1 mo1), (aI g r0 24 f1), (aI g r1 6 sh), (oX6 p0 p1 p2 p3 p4 (nI w)), (aI g p1 24 sd), (aI g p2 10 fn), (aI g p3 6 st), (aI g p4 6 me), (aP g pa 7 pf), (oX5 t0 t1 t2 pw), (aI g t1 6 pd), (aI g t2 36 wb), (oX8 s0 h0 a0 b0 e0), (oX4 h0 q0 q1 mo), (aI g q0 24 f)]) (cc := cX10_offer) (maxL := 9) (ret := (some .int)) (fun A => va_Qi (fun (r : Int32) (u : (Nat → Int32) × (Nat → Int32) × Int32 × Int32 × (Nat → Int32) × (Nat → Int32)) => (∃ ck, ck ≤ 99 ∧ u.1 3 = nI ck) ∧ ((∀ k, k < 36 → -1 ≤ u.2.1 k))) (fun u t => he_post g A ((fun (u : (Nat → Int32) × (Nat → Int32) × Int32 × Int32 × (Nat → Int32) × (Nat → Int32)) => [(oX10 x0 y0 ta z0 p0 dr pa to_ s0 im ki tr v0 rf), (oX4 tr r0 r1 u.2.2.2.1), (aI g r0 24 u.2.2.2.2.1), (aI g r1 6 u.2.2.2.2.2), (oX6 p0 p1 p2 p3 p4 (nI w)), (aI g p1 24 sd), (aI g p2 10 fn), (aI g p3 6 st), (aI g p4 6 me), (aP g pa 7 pf), (oX5 t0 t1 t2 u.2.2.1), (aI g t1 6 u.1), (aI g t2 36 u.2.1), (oX8 s0 h0 a0 b0 e0), (oX4 h0 q0 q1 mo), (aI g q0 24 f)]) u) t) A) (by decide) rfl (Nat.le_of_ble_eq_true rfl) ?_
  intro p e s m args below meth c A ls H locs Q hQ hB
  obtain ⟨hx, hb, hr, hml, hown, hts, hlk, hin, hP, hK, hD, hS, hA, hE, hl⟩ := hB
  have hl : lv_has ls 9 [(0, .ref x0), (1, .int (nI n)), (2, .int 2)] := hl
  have f23 := hts (.fieldLink RX10 23 "HiredEnemy" "plan" "LHiredEnemy$Plan;") (iwoX10_offer (k := 1) rfl)
  have inX10 : ∀ w ∈ wsX100, w ∈ wsX10_offer := innX10_offer_X10
  have f32 := hts (.fieldLink RX10 32 "HiredEnemy" "pacts" "[LHiredEnemy$Pact;") (iwoX10_offer (k := 0) rfl)
  refine lv_aload_n hx hb dX10_offer_0 rfl (lv_at hl 0 rfl) ?_
  refine lv_iload_n hx hb dX10_offer_1 rfl (lv_at hl 1 rfl) ?_
  refine lv_iconst (v := 1) hx hb dX10_offer_2 (by decide) ?_
  refine lv_bipush (v := 60) hx hb dX10_offer_3 (by decide) ?_
  refine he_ci (wc := []) (wr := [(oX10 x0 y0 ta z0 p0 dr pa to_ s0 im ki tr v0 rf), (oX4 tr r0 r1 mo1), (aI g r0 24 f1), (aI g r1 6 sh), (oX6 p0 p1 p2 p3 p4 (nI w)), (aI g p1 24 sd), (aI g p2 10 fn), (aI g p3 6 st), (aI g p4 6 me), (aP g pa 7 pf), (oX5 t0 t1 t2 pw), (aI g t1 6 pd), (aI g t2 36 wb), (oX8 s0 h0 a0 b0 e0), (oX4 h0 q0 q1 mo), (aI g q0 24 f)]) (va_runS (As := [.int (nI n), .int 1, .int 60]) (rest := [.ref x0]) ⟨hx, hb, hml, hown, hts⟩ (c_X10_within l g (nI n) 1 60 H.size) (va_cwS 3 hts gX10_offer_X10_within rfl rfl rfl (by decide +kernel) ⟨Nat.le_of_ble_eq_true rfl, Nat.le_of_ble_eq_true rfl⟩) (he_preS (wc := []) hK hP hD hS hA hE [] rfl rfl) rfl rfl hl.1 rfl (lv_room (Nat.le_of_ble_eq_true rfl)) dX10_offer_5 ⟨(Nat.le_of_ble_eq_true rfl), (Nat.le_of_ble_eq_true rfl)⟩) hP hD hS hA [] [0, 1, 2, 3, 4, 5, 6, 7, 8, 9, 10, 11, 12, 13, 14, 15] rfl rfl rfl (by decide) (fun r_1 u_2 H locs h_3 hP hD hS => ?_)
  subst h_3
  have hP : va_P g.1 vwCl [(oX10 x0 y0 ta z0 p0 dr pa to_ s0 im ki tr v0 rf), (oX4 tr r0 r1 mo1), (aI g r0 24 f1), (aI g r1 6 sh), (oX6 p0 p1 p2 p3 p4 (nI w)), (aI g p1 24 sd), (aI g p2 10 fn), (aI g p3 6 st), (aI g p4 6 me), (aP g pa 7 pf), (oX5 t0 t1 t2 pw), (aI g t1 6 pd), (aI g t2 36 wb), (oX8 s0 h0 a0 b0 e0), (oX4 h0 q0 q1 mo), (aI g q0 24 f)] H := hP
  have hD : va_D A [(oX10 x0 y0 ta z0 p0 dr pa to_ s0 im ki tr v0 rf), (oX4 tr r0 r1 mo1), (aI g r0 24 f1), (aI g r1 6 sh), (oX6 p0 p1 p2 p3 p4 (nI w)), (aI g p1 24 sd), (aI g p2 10 fn), (aI g p3 6 st), (aI g p4 6 me), (aP g pa 7 pf), (oX5 t0 t1 t2 pw), (aI g t1 6 pd), (aI g t2 36 wb), (oX8 s0 h0 a0 b0 e0), (oX4 h0 q0 q1 mo), (aI g q0 24 f)] := hD
  refine he_top (1) (he_within_in (a0 := 1) (B := 60) rfl rfl (by omega) (by omega) (by decide)) ?_
  refine lv_if_eq (tgt := 24) hx hb dX10_offer_8 (by decide) (fun c_4 => ?_) (fun c_4 => ?_)
  · exact absurd c_4 (by decide)
  · refine lv_iload_n hx hb dX10_offer_11 rfl (lv_at hl 2 rfl) ?_
    refine lv_iconst (v := 0) hx hb dX10_offer_12 (by decide) ?_
    refine lv_iconst (v := 3) hx hb dX10_offer_13 (by decide) ?_
    refine he_ci (wc := []) (wr := [(oX10 x0 y0 ta z0 p0 dr pa to_ s0 im ki tr v0 rf), (oX4 tr r0 r1 mo1), (aI g r0 24 f1), (aI g r1 6 sh), (oX6 p0 p1 p2 p3 p4 (nI w)), (aI g p1 24 sd), (aI g p2 10 fn), (aI g p3 6 st), (aI g p4 6 me), (aP g pa 7 pf), (oX5 t0 t1 t2 pw), (aI g t1 6 pd), (aI g t2 36 wb), (oX8 s0 h0 a0 b0 e0), (oX4 h0 q0 q1 mo), (aI g q0 24 f)]) (va_runS (As := [.int 2, .int 0, .int 3]) (rest := [.ref x0]) ⟨hx, hb, hml, hown, hts⟩ (c_X10_within l g 2 0 3 H.size) (va_cwS 3 hts gX10_offer_X10_within rfl rfl rfl (by decide +kernel) ⟨Nat.le_of_ble_eq_true rfl, Nat.le_of_ble_eq_true rfl⟩) (he_preS (wc := []) hK hP hD hS hA hE [] rfl rfl) rfl rfl hl.1 rfl (lv_room (Nat.le_of_ble_eq_true rfl)) dX10_offer_14 ⟨(Nat.le_of_ble_eq_true rfl), (Nat.le_of_ble_eq_true rfl)⟩) hP hD hS hA [] [0, 1, 2, 3, 4, 5, 6, 7, 8, 9, 10, 11, 12, 13, 14, 15] rfl rfl rfl (by decide) (fun r_5 u_6 H locs h_7 hP hD hS => ?_)
    subst h_7
    have hP : va_P g.1 vwCl [(oX10 x0 y0 ta z0 p0 dr pa to_ s0 im ki tr v0 rf), (oX4 tr r0 r1 mo1), (aI g r0 24 f1), (aI g r1 6 sh), (oX6 p0 p1 p2 p3 p4 (nI w)), (aI g p1 24 sd), (aI g p2 10 fn), (aI g p3 6 st), (aI g p4 6 me), (aP g pa 7 pf), (oX5 t0 t1 t2 pw), (aI g t1 6 pd), (aI g t2 36 wb), (oX8 s0 h0 a0 b0 e0), (oX4 h0 q0 q1 mo), (aI g q0 24 f)] H := hP
    have hD : va_D A [(oX10 x0 y0 ta z0 p0 dr pa to_ s0 im ki tr v0 rf), (oX4 tr r0 r1 mo1), (aI g r0 24 f1), (aI g r1 6 sh), (oX6 p0 p1 p2 p3 p4 (nI w)), (aI g p1 24 sd), (aI g p2 10 fn), (aI g p3 6 st), (aI g p4 6 me), (aP g pa 7 pf), (oX5 t0 t1 t2 pw), (aI g t1 6 pd), (aI g t2 36 wb), (oX8 s0 h0 a0 b0 e0), (oX4 h0 q0 q1 mo), (aI g q0 24 f)] := hD
    refine he_top (1) (by decide) ?_
    refine lv_if_eq (tgt := 24) hx hb dX10_offer_17 (by decide) (fun c_8 => ?_) (fun c_8 => ?_)
    · exact absurd c_8 (by decide)
    · refine lv_iconst (v := 1) hx hb dX10_offer_20 (by decide) ?_
      refine lv_goto (tgt := 25) hx hb dX10_offer_21 (by decide) ?_
      refine he_cv (wc := []) (wr := [(oX10 x0 y0 ta z0 p0 dr pa to_ s0 im ki tr v0 rf), (oX4 tr r0 r1 mo1), (aI g r0 24 f1), (aI g r1 6 sh), (oX6 p0 p1 p2 p3 p4 (nI w)), (aI g p1 24 sd), (aI g p2 10 fn), (aI g p3 6 st), (aI g p4 6 me), (aP g pa 7 pf), (oX5 t0 t1 t2 pw), (aI g t1 6 pd), (aI g t2 36 wb), (oX8 s0 h0 a0 b0 e0), (oX4 h0 q0 q1 mo), (aI g q0 24 f)]) (va_runV (As := [.int 1]) (rest := []) ⟨hx, hb, hml, hown, hts⟩ (c_X10_demand1 l g x0 H.size) (cwV 1 hts gX10_offer_X10_demand rfl rfl rfl (by decide +kernel) ⟨Nat.le_of_ble_eq_true rfl, Nat.le_of_ble_eq_true rfl⟩) (he_preV (wc := []) hK hP hD hS hA hE [] rfl rfl 0 rfl rfl) rfl rfl hl.1 rfl (lv_room (Nat.le_of_ble_eq_true rfl)) dX10_offer_25 ⟨(Nat.le_of_ble_eq_true rfl), (Nat.le_of_ble_eq_true rfl)⟩) hP hD hS hA [] [0, 1, 2, 3, 4, 5, 6, 7, 8, 9, 10, 11, 12, 13, 14, 15] rfl rfl rfl (by decide) (fun u_10 H locs h_11 hP hD hS => ?_)
      have hP : va_P g.1 vwCl [(oX10 x0 y0 ta z0 p0 dr pa to_ s0 im ki tr v0 rf), (oX4 tr r0 r1 mo1), (aI g r0 24 f1), (aI g r1 6 sh), (oX6 p0 p1 p2 p3 p4 (nI w)), (aI g p1 24 sd), (aI g p2 10 fn), (aI g p3 6 st), (aI g p4 6 me), (aP g pa 7 pf), (oX5 t0 t1 t2 pw), (aI g t1 6 pd), (aI g t2 36 wb), (oX8 s0 h0 a0 b0 e0), (oX4 h0 q0 q1 mo), (aI g q0 24 f)] H := hP
      have hD : va_D A [(oX10 x0 y0 ta z0 p0 dr pa to_ s0 im ki tr v0 rf), (oX4 tr r0 r1 mo1), (aI g r0 24 f1), (aI g r1 6 sh), (oX6 p0 p1 p2 p3 p4 (nI w)), (aI g p1 24 sd), (aI g p2 10 fn), (aI g p3 6 st), (aI g p4 6 me), (aP g pa 7 pf), (oX5 t0 t1 t2 pw), (aI g t1 6 pd), (aI g t2 36 wb), (oX8 s0 h0 a0 b0 e0), (oX4 h0 q0 q1 mo), (aI g q0 24 f)] := hD
      refine lv_iconst (v := 0) hx hb dX10_offer_28 (by decide) ?_
      refine lv_istore_n (lv' := [(3, .int 0), (0, .ref x0), (1, .int (nI n)), (2, .int 2)]) hx hb dX10_offer_29 rfl hl (by decide) rfl (fun ls hl => ?_)
      refine lv_iconst (v := 0) hx hb dX10_offer_30 (by decide) ?_
      refine lv_istore (lv' := [(4, .int 0), (3, .int 0), (0, .ref x0), (1, .int (nI n)), (2, .int 2)]) hx hb dX10_offer_31 hl (by decide) rfl (fun ls hl => ?_)
      refine lv_iconst (v := (-1)) hx hb dX10_offer_33 (by decide) ?_
      refine lv_istore (lv' := [(5, .int (-1)), (4, .int 0), (3, .int 0), (0, .ref x0), (1, .int (nI n)), (2, .int 2)]) hx hb dX10_offer_34 hl (by decide) rfl (fun ls hl => ?_)
      refine lv_iconst (v := 0) hx hb dX10_offer_36 (by decide) ?_
      refine lv_istore (lv' := [(6, .int 0), (5, .int (-1)), (4, .int 0), (3, .int 0), (0, .ref x0), (1, .int (nI n)), (2, .int 2)]) hx hb dX10_offer_37 hl (by decide) rfl (fun ls hl => ?_)
      have loop39 : ∀ (n9 : Nat) (r : Nat) (bn : Int32) (bc : Int32) (bm : Int32) (pv : Nat → Int32) (wv : Nat → Int32) (pz : Int32) (mj : Int32) (F : Nat → Int32) (G : Nat → Int32), 10 - r < n9 → (r ≤ 10) → ((∃ ck, ck ≤ 99 ∧ pv 3 = nI ck)) → (∀ k, k < 36 → -1 ≤ wv k) → ∀ (H : Heap) (locs : List Loc) (ls : Array Slot), va_P g.1 vwCl [(oX10 x0 y0 ta z0 p0 dr pa to_ s0 im ki tr v0 rf), (oX4 tr r0 r1 mj), (aI g r0 24 F), (aI g r1 6 G), (oX6 p0 p1 p2 p3 p4 (nI w)), (aI g p1 24 sd), (aI g p2 10 fn), (aI g p3 6 st), (aI g p4 6 me), (aP g pa 7 pf), (oX5 t0 t1 t2 pz), (aI g t1 6 pv), (aI g t2 36 wv), (oX8 s0 h0 a0 b0 e0), (oX4 h0 q0 q1 mo), (aI g q0 24 f)] H → va_D A [(oX10 x0 y0 ta z0 p0 dr pa to_ s0 im ki tr v0 rf), (oX4 tr r0 r1 mj), (aI g r0 24 F), (aI g r1 6 G), (oX6 p0 p1 p2 p3 p4 (nI w)), (aI g p1 24 sd), (aI g p2 10 fn), (aI g p3 6 st), (aI g p4 6 me), (aP g pa 7 pf), (oX5 t0 t1 t2 pz), (aI g t1 6 pv), (aI g t2 36 wv), (oX8 s0 h0 a0 b0 e0), (oX4 h0 q0 q1 mo), (aI g q0 24 f)] → va_S A s.heap H locs → lv_has ls 9 [(0, .ref x0), (1, .int (nI n)), (2, .int 2), (3, .int bn), (4, .int bc), (5, .int bm), (6, .int (nI r))] → W p l e (he_room 7 154 0 0) s m args below meth c H locs 0 0 Q (F0 m 39 ls []) := by
        intro n9
        induction n9 with
        | zero => intro r bn bc bm pv wv pz mj F G hm9; exact absurd hm9 (Nat.not_lt_zero _)
        | succ n9 ih39 =>
          intro r bn bc bm pv wv pz mj F G hm9 hr10 hpv hwv H locs ls hP hD hS hl
          refine lv_iload hx hb dX10_offer_39 (lv_at hl 6 rfl) ?_
          refine lv_bipush (v := 9) hx hb dX10_offer_41 (by decide) ?_
          refine lv_icmp_gt (tgt := 121) hx hb dX10_offer_43 (by decide) (fun c_12 => ?_) (fun c_12 => ?_)
          · have k_13 : 9 < r := (he_clt (a := 9) (b := r) (by decide) rfl (by omega) (by omega)).mp c_12
            refine lv_iload_n hx hb dX10_offer_121 rfl (lv_at hl 2 rfl) ?_
            refine lv_tableIn (tgt := 153) hx hb dX10_offer_122 (by decide) (by decide) rfl (by decide) ?_
            refine lv_aload_n hx hb dX10_offer_153 rfl (lv_at hl 0 rfl) ?_
            refine va_get (v := .ref p0) (T := TX10) (N := 13) hx hb hts inX10 hown hK hP 0 rfl rfl 3 (by decide) f23 (fun _ h9 => h9) rfl dX10_offer_154 ?_
            refine lv_iload_n hx hb dX10_offer_157 rfl (lv_at hl 3 rfl) ?_
            refine lv_iload hx hb dX10_offer_158 (lv_at hl 4 rfl) ?_
            refine he_ci (wc := [(oX6 p0 p1 p2 p3 p4 (nI w)), (aI g p1 24 sd)]) (wr := [(oX10 x0 y0 ta z0 p0 dr pa to_ s0 im ki tr v0 rf), (oX4 tr r0 r1 mj), (aI g r0 24 F), (aI g r1 6 G), (aI g p2 10 fn), (aI g p3 6 st), (aI g p4 6 me), (aP g pa 7 pf), (oX5 t0 t1 t2 pz), (aI g t1 6 pv), (aI g t2 36 wv), (oX8 s0 h0 a0 b0 e0), (oX4 h0 q0 q1 mo), (aI g q0 24 f)]) (va_runV (As := [.int bn, .int bc]) (rest := []) ⟨hx, hb, hml, hown, hts⟩ (c_X6_wanted l g p0 p1 p2 p3 p4 (nI w) sd bn bc H.size) (cwV 2 hts gX10_offer_X6_wanted rfl rfl rfl (by decide +kernel) ⟨Nat.le_of_ble_eq_true rfl, Nat.le_of_ble_eq_true rfl⟩) (he_preV (wc := [(oX6 p0 p1 p2 p3 p4 (nI w)), (aI g p1 24 sd)]) hK hP hD hS hA hE [4, 5] rfl rfl 4 rfl rfl) rfl rfl hl.1 rfl (lv_room (Nat.le_of_ble_eq_true rfl)) dX10_offer_160 ⟨(Nat.le_of_ble_eq_true rfl), (Nat.le_of_ble_eq_true rfl)⟩) hP hD hS hA [4, 5] [0, 1, 2, 3, 6, 7, 8, 9, 10, 11, 12, 13, 14, 15] rfl rfl rfl (by decide) (fun r_14 u_15 H locs h_16 hP hD hS => ?_)
            subst h_16
            have hP : va_P g.1 vwCl [(oX10 x0 y0 ta z0 p0 dr pa to_ s0 im ki tr v0 rf), (oX4 tr r0 r1 mj), (aI g r0 24 F), (aI g r1 6 G), (aI g p2 10 fn), (aI g p3 6 st), (aI g p4 6 me), (aP g pa 7 pf), (oX5 t0 t1 t2 pz), (aI g t1 6 pv), (aI g t2 36 wv), (oX8 s0 h0 a0 b0 e0), (oX4 h0 q0 q1 mo), (aI g q0 24 f), (oX6 p0 p1 p2 p3 p4 (nI w)), (aI g p1 24 sd)] H := hP
            have hD : va_D A [(oX10 x0 y0 ta z0 p0 dr pa to_ s0 im ki tr v0 rf), (oX4 tr r0 r1 mj), (aI g r0 24 F), (aI g r1 6 G), (aI g p2 10 fn), (aI g p3 6 st), (aI g p4 6 me), (aP g pa 7 pf), (oX5 t0 t1 t2 pz), (aI g t1 6 pv), (aI g t2 36 wv), (oX8 s0 h0 a0 b0 e0), (oX4 h0 q0 q1 mo), (aI g q0 24 f), (oX6 p0 p1 p2 p3 p4 (nI w)), (aI g p1 24 sd)] := hD
            have hP := hP.sub (ws' := [(oX10 x0 y0 ta z0 p0 dr pa to_ s0 im ki tr v0 rf), (oX4 tr r0 r1 mj), (aI g r0 24 F), (aI g r1 6 G), (oX6 p0 p1 p2 p3 p4 (nI w)), (aI g p1 24 sd), (aI g p2 10 fn), (aI g p3 6 st), (aI g p4 6 me), (aP g pa 7 pf), (oX5 t0 t1 t2 pz), (aI g t1 6 pv), (aI g t2 36 wv), (oX8 s0 h0 a0 b0 e0), (oX4 h0 q0 q1 mo), (aI g q0 24 f)]) [0, 1, 2, 3, 14, 15, 4, 5, 6, 7, 8, 9, 10, 11, 12, 13] rfl
            have hD := hD.sub (ws' := [(oX10 x0 y0 ta z0 p0 dr pa to_ s0 im ki tr v0 rf), (oX4 tr r0 r1 mj), (aI g r0 24 F), (aI g r1 6 G), (oX6 p0 p1 p2 p3 p4 (nI w)), (aI g p1 24 sd), (aI g p2 10 fn), (aI g p3 6 st), (aI g p4 6 me), (aP g pa 7 pf), (oX5 t0 t1 t2 pz), (aI g t1 6 pv), (aI g t2 36 wv), (oX8 s0 h0 a0 b0 e0), (oX4 h0 q0 q1 mo), (aI g q0 24 f)]) [0, 1, 2, 3, 14, 15, 4, 5, 6, 7, 8, 9, 10, 11, 12, 13] (by decide) rfl
            exact he_ri hQ hx hb hr hlk hP hD hS dX10_offer_163 (Nat.le_of_ble_eq_true rfl) (Nat.le_of_ble_eq_true rfl) ((pv, wv, pz, mj, F, G)) (rfl) (⟨hpv, hwv⟩)
          · have k_17 : ¬ (9 < r) := fun h9 => c_12 ((he_clt (a := 9) (b := r) (by decide) rfl (by omega) (by omega)).mpr h9)
            refine lv_iconst (v := 0) hx hb dX10_offer_46 (by decide) ?_
            refine lv_istore (lv' := [(7, .int 0), (0, .ref x0), (1, .int (nI n)), (2, .int 2), (3, .int bn), (4, .int bc), (5, .int bm), (6, .int (nI r))]) hx hb dX10_offer_47 hl (by decide) rfl (fun ls hl => ?_)
            have loop49 : ∀ (n9 : Nat) (c9 : Nat) (bn : Int32) (bc : Int32) (bm : Int32) (pv : Nat → Int32) (wv : Nat → Int32) (pz : Int32) (mj : Int32) (F : Nat → Int32) (G : Nat → Int32), 21 - c9 < n9 → (c9 ≤ 21) → ((∃ ck, ck ≤ 99 ∧ pv 3 = nI ck)) → (∀ k, k < 36 → -1 ≤ wv k) → ∀ (H : Heap) (locs : List Loc) (ls : Array Slot), va_P g.1 vwCl [(oX10 x0 y0 ta z0 p0 dr pa to_ s0 im ki tr v0 rf), (oX4 tr r0 r1 mj), (aI g r0 24 F), (aI g r1 6 G), (oX6 p0 p1 p2 p3 p4 (nI w)), (aI g p1 24 sd), (aI g p2 10 fn), (aI g p3 6 st), (aI g p4 6 me), (aP g pa 7 pf), (oX5 t0 t1 t2 pz), (aI g t1 6 pv), (aI g t2 36 wv), (oX8 s0 h0 a0 b0 e0), (oX4 h0 q0 q1 mo), (aI g q0 24 f)] H → va_D A [(oX10 x0 y0 ta z0 p0 dr pa to_ s0 im ki tr v0 rf), (oX4 tr r0 r1 mj), (aI g r0 24 F), (aI g r1 6 G), (oX6 p0 p1 p2 p3 p4 (nI w)), (aI g p1 24 sd), (aI g p2 10 fn), (aI g p3 6 st), (aI g p4 6 me), (aP g pa 7 pf), (oX5 t0 t1 t2 pz), (aI g t1 6 pv), (aI g t2 36 wv), (oX8 s0 h0 a0 b0 e0), (oX4 h0 q0 q1 mo), (aI g q0 24 f)] → va_S A s.heap H locs → lv_has ls 9 [(0, .ref x0), (1, .int (nI n)), (2, .int 2), (3, .int bn), (4, .int bc), (5, .int bm), (6, .int (nI r)), (7, .int (nI c9))] → W p l e (he_room 7 154 0 0) s m args below meth c H locs 0 0 Q (F0 m 49 ls []) := by
              intro n9
              induction n9 with
              | zero => intro c9 bn bc bm pv wv pz mj F G hm9; exact absurd hm9 (Nat.not_lt_zero _)
              | succ n9 ih49 =>
                intro c9 bn bc bm pv wv pz mj F G hm9 hc hpv hwv H locs ls hP hD hS hl
                refine lv_iload hx hb dX10_offer_49 (lv_at hl 7 rfl) ?_
                refine lv_bipush (v := 20) hx hb dX10_offer_51 (by decide) ?_
                refine lv_icmp_gt (tgt := 115) hx hb dX10_offer_53 (by decide) (fun c_18 => ?_) (fun c_18 => ?_)
                · have k_19 : 20 < c9 := (he_clt (a := 20) (b := c9) (by decide) rfl (by omega) (by omega)).mp c_18
                  refine lv_iinc (v := nI (r + 1)) (lv' := [(6, .int (nI (r + 1))), (0, .ref x0), (1, .int (nI n)), (2, .int 2), (3, .int bn), (4, .int bc), (5, .int bm), (7, .int (nI c9))]) hx hb dX10_offer_115 hl (k := 6) rfl (nI_1 r) (by decide) rfl (fun ls hl => ?_)
                  refine lv_goto (tgt := 39) hx hb dX10_offer_118 (by decide) ?_
                  exact ih39 (r + 1) bn bc bm pv wv pz mj F G (by omega) (by omega) hpv hwv _ _ _ hP hD hS (lv_sub hl [1, 2, 3, 4, 5, 6, 0] rfl)
                · have k_20 : ¬ (20 < c9) := fun h9 => c_18 ((he_clt (a := 20) (b := c9) (by decide) rfl (by omega) (by omega)).mpr h9)
                  refine lv_aload_n hx hb dX10_offer_56 rfl (lv_at hl 0 rfl) ?_
                  refine va_get (v := .ref pa) (T := TX10) (N := 13) hx hb hts inX10 hown hK hP 0 rfl rfl 5 (by decide) f32 (fun _ h9 => h9) rfl dX10_offer_57 ?_
                  refine lv_bipush (v := 6) hx hb dX10_offer_60 (by decide) ?_
                  refine he_ald hx hb 2 rfl hK hP 9 rfl (6) (by decide) (by decide) (by first | decide | assumption) (.ref t0) (by rw [hpf]; rfl) dX10_offer_62 ?_
                  refine lv_aload_n hx hb dX10_offer_63 rfl (lv_at hl 0 rfl) ?_
                  refine va_get (v := .ref p0) (T := TX10) (N := 13) hx hb hts inX10 hown hK hP 0 rfl rfl 3 (by decide) f23 (fun _ h9 => h9) rfl dX10_offer_64 ?_
                  refine lv_iload hx hb dX10_offer_67 (lv_at hl 6 rfl) ?_
                  refine lv_iload hx hb dX10_offer_69 (lv_at hl 7 rfl) ?_
                  refine he_ci (wc := [(oX6 p0 p1 p2 p3 p4 (nI w)), (aI g p1 24 sd)]) (wr := [(oX10 x0 y0 ta z0 p0 dr pa to_ s0 im ki tr v0 rf), (oX4 tr r0 r1 mj), (aI g r0 24 F), (aI g r1 6 G), (aI g p2 10 fn), (aI g p3 6 st), (aI g p4 6 me), (aP g pa 7 pf), (oX5 t0 t1 t2 pz), (aI g t1 6 pv), (aI g t2 36 wv), (oX8 s0 h0 a0 b0 e0), (oX4 h0 q0 q1 mo), (aI g q0 24 f)]) (va_runV (As := [.int (nI r), .int (nI c9)]) (rest := [.ref t0]) ⟨hx, hb, hml, hown, hts⟩ (c_X6_wanted l g p0 p1 p2 p3 p4 (nI w) sd (nI r) (nI c9) H.size) (cwV 2 hts gX10_offer_X6_wanted rfl rfl rfl (by decide +kernel) ⟨Nat.le_of_ble_eq_true rfl, Nat.le_of_ble_eq_true rfl⟩) (he_preV (wc := [(oX6 p0 p1 p2 p3 p4 (nI w)), (aI g p1 24 sd)]) hK hP hD hS hA hE [4, 5] rfl rfl 4 rfl rfl) rfl rfl hl.1 rfl (lv_room (Nat.le_of_ble_eq_true rfl)) dX10_offer_71 ⟨(Nat.le_of_ble_eq_true rfl), (Nat.le_of_ble_eq_true rfl)⟩) hP hD hS hA [4, 5] [0, 1, 2, 3, 6, 7, 8, 9, 10, 11, 12, 13, 14, 15] rfl rfl rfl (by decide) (fun r_21 u_22 H locs h_23 hP hD hS => ?_)
                  subst h_23
                  have hP : va_P g.1 vwCl [(oX10 x0 y0 ta z0 p0 dr pa to_ s0 im ki tr v0 rf), (oX4 tr r0 r1 mj), (aI g r0 24 F), (aI g r1 6 G), (aI g p2 10 fn), (aI g p3 6 st), (aI g p4 6 me), (aP g pa 7 pf), (oX5 t0 t1 t2 pz), (aI g t1 6 pv), (aI g t2 36 wv), (oX8 s0 h0 a0 b0 e0), (oX4 h0 q0 q1 mo), (aI g q0 24 f), (oX6 p0 p1 p2 p3 p4 (nI w)), (aI g p1 24 sd)] H := hP
                  have hD : va_D A [(oX10 x0 y0 ta z0 p0 dr pa to_ s0 im ki tr v0 rf), (oX4 tr r0 r1 mj), (aI g r0 24 F), (aI g r1 6 G), (aI g p2 10 fn), (aI g p3 6 st), (aI g p4 6 me), (aP g pa 7 pf), (oX5 t0 t1 t2 pz), (aI g t1 6 pv), (aI g t2 36 wv), (oX8 s0 h0 a0 b0 e0), (oX4 h0 q0 q1 mo), (aI g q0 24 f), (oX6 p0 p1 p2 p3 p4 (nI w)), (aI g p1 24 sd)] := hD
                  refine lv_iload hx hb dX10_offer_74 (lv_at hl 6 rfl) ?_
                  refine lv_iload hx hb dX10_offer_76 (lv_at hl 7 rfl) ?_
                  refine lv_iload_n hx hb dX10_offer_78 rfl (lv_at hl 1 rfl) ?_
                  refine he_cv (wc := [(oX5 t0 t1 t2 pz), (aI g t1 6 pv), (aI g t2 36 wv)]) (wr := [(oX10 x0 y0 ta z0 p0 dr pa to_ s0 im ki tr v0 rf), (oX4 tr r0 r1 mj), (aI g r0 24 F), (aI g r1 6 G), (aI g p2 10 fn), (aI g p3 6 st), (aI g p4 6 me), (aP g pa 7 pf), (oX8 s0 h0 a0 b0 e0), (oX4 h0 q0 q1 mo), (aI g q0 24 f), (oX6 p0 p1 p2 p3 p4 (nI w)), (aI g p1 24 sd)]) (va_runV (As := [.int (wantF sd (nI r) (nI c9)), .int (nI r), .int (nI c9), .int (nI n)]) (rest := []) ⟨hx, hb, hml, hown, hts⟩ (c_X5_propose l g t0 t1 t2 pz pv wv (wantF sd (nI r) (nI c9)) (nI r) (nI c9) (nI n) H.size) (cwV 4 hts gX10_offer_X5_propose rfl rfl rfl (by decide +kernel) ⟨Nat.le_of_ble_eq_true rfl, Nat.le_of_ble_eq_true rfl⟩) (he_preV (wc := [(oX5 t0 t1 t2 pz), (aI g t1 6 pv), (aI g t2 36 wv)]) hK hP hD hS hA hE [8, 9, 10] rfl rfl 8 rfl rfl) rfl rfl hl.1 rfl (lv_room (Nat.le_of_ble_eq_true rfl)) dX10_offer_79 ⟨(Nat.le_of_ble_eq_true rfl), (Nat.le_of_ble_eq_true rfl)⟩) hP hD hS hA [8, 9, 10] [0, 1, 2, 3, 4, 5, 6, 7, 11, 12, 13, 14, 15] rfl rfl rfl (by decide) (fun u_25 H locs h_26 hP hD hS => ?_)
                  have hP : va_P g.1 vwCl [(oX10 x0 y0 ta z0 p0 dr pa to_ s0 im ki tr v0 rf), (oX4 tr r0 r1 mj), (aI g r0 24 F), (aI g r1 6 G), (aI g p2 10 fn), (aI g p3 6 st), (aI g p4 6 me), (aP g pa 7 pf), (oX8 s0 h0 a0 b0 e0), (oX4 h0 q0 q1 mo), (aI g q0 24 f), (oX6 p0 p1 p2 p3 p4 (nI w)), (aI g p1 24 sd), (oX5 t0 t1 t2 0), (aI g t1 6 (prP pv (wantF sd (nI r) (nI c9)) (nI r) (nI c9) (nI n))), (aI g t2 36 (flF (fun _ => -1) wv 36))] H := hP
                  have hD : va_D A [(oX10 x0 y0 ta z0 p0 dr pa to_ s0 im ki tr v0 rf), (oX4 tr r0 r1 mj), (aI g r0 24 F), (aI g r1 6 G), (aI g p2 10 fn), (aI g p3 6 st), (aI g p4 6 me), (aP g pa 7 pf), (oX8 s0 h0 a0 b0 e0), (oX4 h0 q0 q1 mo), (aI g q0 24 f), (oX6 p0 p1 p2 p3 p4 (nI w)), (aI g p1 24 sd), (oX5 t0 t1 t2 0), (aI g t1 6 (prP pv (wantF sd (nI r) (nI c9)) (nI r) (nI c9) (nI n))), (aI g t2 36 (flF (fun _ => -1) wv 36))] := hD
                  refine lv_aload_n hx hb dX10_offer_82 rfl (lv_at hl 0 rfl) ?_
                  refine lv_bipush (v := 6) hx hb dX10_offer_83 (by decide) ?_
                  refine lv_iload_n hx hb dX10_offer_85 rfl (lv_at hl 1 rfl) ?_
                  refine he_ci (wc := [(oX10 x0 y0 ta z0 p0 dr pa to_ s0 im ki tr v0 rf), (oX4 tr r0 r1 mj), (aI g r0 24 F), (aI g r1 6 G), (oX6 p0 p1 p2 p3 p4 (nI w)), (aI g p1 24 sd), (aI g p2 10 fn), (aI g p3 6 st), (aI g p4 6 me), (aP g pa 7 pf), (oX5 t0 t1 t2 0), (aI g t1 6 (prP pv (wantF sd (nI r) (nI c9)) (nI r) (nI c9) (nI n))), (aI g t2 36 (flF (fun _ => -1) wv 36)), (oX8 s0 h0 a0 b0 e0), (oX4 h0 q0 q1 mo), (aI g q0 24 f)]) (wr := []) (va_runV (As := [.int 6, .int (nI n)]) (rest := []) ⟨hx, hb, hml, hown, hts⟩ (g_X10_trySigned l g x0 y0 z0 dr pa s0 im tr v0 rf ta to_ ki p0 p1 p2 p3 p4 w sd fn st me a0 b0 e0 h0 q0 q1 mo f r0 r1 mj F G n pf t0 t1 t2 0 (prP pv (wantF sd (nI r) (nI c9)) (nI r) (nI c9) (nI n)) (flF (fun _ => -1) wv 36) c9 6 (by first | assumption | decide | omega) (fl_m1 _) (prP_3 _ _ _ _ _) (by omega) (by decide) hpf hn2 H.size) (cwV 2 hts gX10_offer_X10_trySigned rfl rfl rfl (by decide +kernel) ⟨Nat.le_of_ble_eq_true rfl, Nat.le_of_ble_eq_true rfl⟩) (he_preV (wc := [(oX10 x0 y0 ta z0 p0 dr pa to_ s0 im ki tr v0 rf), (oX4 tr r0 r1 mj), (aI g r0 24 F), (aI g r1 6 G), (oX6 p0 p1 p2 p3 p4 (nI w)), (aI g p1 24 sd), (aI g p2 10 fn), (aI g p3 6 st), (aI g p4 6 me), (aP g pa 7 pf), (oX5 t0 t1 t2 0), (aI g t1 6 (prP pv (wantF sd (nI r) (nI c9)) (nI r) (nI c9) (nI n))), (aI g t2 36 (flF (fun _ => -1) wv 36)), (oX8 s0 h0 a0 b0 e0), (oX4 h0 q0 q1 mo), (aI g q0 24 f)]) hK hP hD hS hA hE [0, 1, 2, 3, 11, 12, 4, 5, 6, 7, 13, 14, 15, 8, 9, 10] rfl rfl 0 rfl rfl) rfl rfl hl.1 rfl (lv_room (Nat.le_of_ble_eq_true rfl)) dX10_offer_86 ⟨(Nat.le_of_ble_eq_true rfl), (Nat.le_of_ble_eq_true rfl)⟩) hP hD hS hA [0, 1, 2, 3, 11, 12, 4, 5, 6, 7, 13, 14, 15, 8, 9, 10] [] rfl rfl rfl (by decide) (fun r_27 u_28 H locs h_29 hP hD hS => ?_)
                  obtain ⟨um_30, uf_31, us_32⟩ := u_28
                  have hP : va_P g.1 vwCl [(oX10 x0 y0 ta z0 p0 dr pa to_ s0 im ki tr v0 rf), (oX4 tr r0 r1 um_30), (aI g r0 24 uf_31), (aI g r1 6 us_32), (oX6 p0 p1 p2 p3 p4 (nI w)), (aI g p1 24 sd), (aI g p2 10 fn), (aI g p3 6 st), (aI g p4 6 me), (aP g pa 7 pf), (oX5 t0 t1 t2 0), (aI g t1 6 (prP pv (wantF sd (nI r) (nI c9)) (nI r) (nI c9) (nI n))), (aI g t2 36 (flF (fun _ => -1) wv 36)), (oX8 s0 h0 a0 b0 e0), (oX4 h0 q0 q1 mo), (aI g q0 24 f)] H := hP
                  have hD : va_D A [(oX10 x0 y0 ta z0 p0 dr pa to_ s0 im ki tr v0 rf), (oX4 tr r0 r1 um_30), (aI g r0 24 uf_31), (aI g r1 6 us_32), (oX6 p0 p1 p2 p3 p4 (nI w)), (aI g p1 24 sd), (aI g p2 10 fn), (aI g p3 6 st), (aI g p4 6 me), (aP g pa 7 pf), (oX5 t0 t1 t2 0), (aI g t1 6 (prP pv (wantF sd (nI r) (nI c9)) (nI r) (nI c9) (nI n))), (aI g t2 36 (flF (fun _ => -1) wv 36)), (oX8 s0 h0 a0 b0 e0), (oX4 h0 q0 q1 mo), (aI g q0 24 f)] := hD
                  refine lv_istore (lv' := [(8, .int r_27), (0, .ref x0), (1, .int (nI n)), (2, .int 2), (3, .int bn), (4, .int bc), (5, .int bm), (6, .int (nI r)), (7, .int (nI c9))]) hx hb dX10_offer_89 hl (by decide) rfl (fun ls hl => ?_)
                  refine lv_iload hx hb dX10_offer_91 (lv_at hl 0 rfl) ?_
                  refine lv_iload hx hb dX10_offer_93 (lv_at hl 6 rfl) ?_
                  refine lv_icmp_le (tgt := 109) hx hb dX10_offer_95 (by decide) (fun c_33 => ?_) (fun c_33 => ?_)
                  · refine lv_iinc (v := nI (c9 + 1)) (lv' := [(7, .int (nI (c9 + 1))), (8, .int r_27), (0, .ref x0), (1, .int (nI n)), (2, .int 2), (3, .int bn), (4, .int bc), (5, .int bm), (6, .int (nI r))]) hx hb dX10_offer_109 hl (k := 8) rfl (nI_1 c9) (by decide) rfl (fun ls hl => ?_)
                    refine lv_goto (tgt := 49) hx hb dX10_offer_112 (by decide) ?_
                    exact ih49 (c9 + 1) bn bc bm (prP pv (wantF sd (nI r) (nI c9)) (nI r) (nI c9) (nI n)) (flF (fun _ => -1) wv 36) 0 um_30 uf_31 us_32 (by omega) (by omega) ⟨c9, by omega, prP_3 _ _ _ _ _⟩ (fl_m1 _) _ _ _ hP hD hS (lv_sub hl [2, 3, 4, 5, 6, 7, 8, 0] rfl)
                  · refine lv_iload hx hb dX10_offer_98 (lv_at hl 0 rfl) ?_
                    refine lv_istore (lv' := [(5, .int r_27), (8, .int r_27), (0, .ref x0), (1, .int (nI n)), (2, .int 2), (3, .int bn), (4, .int bc), (6, .int (nI r)), (7, .int (nI c9))]) hx hb dX10_offer_100 hl (by decide) rfl (fun ls hl => ?_)
                    refine lv_iload hx hb dX10_offer_102 (lv_at hl 7 rfl) ?_
                    refine lv_istore_n (lv' := [(3, .int (nI r)), (5, .int r_27), (8, .int r_27), (0, .ref x0), (1, .int (nI n)), (2, .int 2), (4, .int bc), (6, .int (nI r)), (7, .int (nI c9))]) hx hb dX10_offer_104 rfl hl (by decide) rfl (fun ls hl => ?_)
                    refine lv_iload hx hb dX10_offer_105 (lv_at hl 8 rfl) ?_
                    refine lv_istore (lv' := [(4, .int (nI c9)), (3, .int (nI r)), (5, .int r_27), (8, .int r_27), (0, .ref x0), (1, .int (nI n)), (2, .int 2), (6, .int (nI r)), (7, .int (nI c9))]) hx hb dX10_offer_107 hl (by decide) rfl (fun ls hl => ?_)
                    refine lv_iinc (v := nI (c9 + 1)) (lv' := [(7, .int (nI (c9 + 1))), (4, .int (nI c9)), (3, .int (nI r)), (5, .int r_27), (8, .int r_27), (0, .ref x0), (1, .int (nI n)), (2, .int 2), (6, .int (nI r))]) hx hb dX10_offer_109 hl (k := 8) rfl (nI_1 c9) (by decide) rfl (fun ls hl => ?_)
                    refine lv_goto (tgt := 49) hx hb dX10_offer_112 (by decide) ?_
                    exact ih49 (c9 + 1) (nI r) (nI c9) r_27 (prP pv (wantF sd (nI r) (nI c9)) (nI r) (nI c9) (nI n)) (flF (fun _ => -1) wv 36) 0 um_30 uf_31 us_32 (by omega) (by omega) ⟨c9, by omega, prP_3 _ _ _ _ _⟩ (fl_m1 _) _ _ _ hP hD hS (lv_sub hl [5, 6, 7, 2, 1, 3, 8, 0] rfl)
            exact loop49 ((21 - 0) + 1) 0 bn bc bm pv wv pz mj F G (Nat.lt_succ_self _) (Nat.zero_le _) hpv hwv _ _ _ hP hD hS (lv_sub hl [1, 2, 3, 4, 5, 6, 7, 0] rfl)
      exact loop39 ((10 - 0) + 1) 0 0 0 (-1) pd wb pw mo1 f1 sh (Nat.lt_succ_self _) (Nat.zero_le _) hpv hwv _ _ _ hP hD hS (lv_sub hl [4, 5, 6, 3, 2, 1, 0] rfl)
set_option maxHeartbeats 4000000 in
set_option maxRecDepth 100000 in
theorem g_X10_offer3 (l : Launch) (g : he_G) (x0 : Nat) (y0 : Nat) (z0 : Nat) (dr : Nat) (pa : Nat) (s0 : Nat) (im : Nat) (tr : Nat) (v0 : Nat) (rf : Nat) (ta : Int32) (to_ : Int32) (ki : Int32) (p0 : Nat) (p1 : Nat) (p2 : Nat) (p3 : Nat) (p4 : Nat) (w : Nat) (sd : Nat → Int32) (fn : Nat → Int32) (st : Nat → Int32) (me : Nat → Int32) (a0 : Nat) (b0 : Nat) (e0 : Nat) (h0 : Nat) (q0 : Nat) (q1 : Nat) (mo : Int32) (f : Nat → Int32) (r0 : Nat) (r1 : Nat) (mo1 : Int32) (f1 : Nat → Int32) (sh : Nat → Int32) (n : Nat) (pf : Nat → Option Nat) (t0 : Nat) (t1 : Nat) (t2 : Nat) (pw : Int32) (pd : Nat → Int32) (wb : Nat → Int32) (hw6 : w ≤ 6) (hn1 : 1 ≤ n) (hn2 : n ≤ 60) (hpf : pf 6 = some t0) (hpv : (∃ ck, ck ≤ 99 ∧ pd 3 = nI ck)) (hwv : (∀ k, k < 36 → -1 ≤ wb k)) : he_I l yX10_offer wsX10_offer 7 154 0 0 g [.ref x0, .int (nI n), .int 3] [(oX10 x0 y0 ta z0 p0 dr pa to_ s0 im ki tr v0 rf), (oX4 tr r0 r1 mo1), (aI g r0 24 f1), (aI g r1 6 sh), (oX6 p0 p1 p2 p3 p4 (nI w)), (aI g p1 24 sd), (aI g p2 10 fn), (aI g p3 6 st), (aI g p4 6 me), (aP g pa 7 pf), (oX5 t0 t1 t2 pw), (aI g t1 6 pd), (aI g t2 36 wb), (oX8 s0 h0 a0 b0 e0), (oX4 h0 q0 q1 mo), (aI g q0 24 f)] (fun (r : Int32) (u : (Nat → Int32) × (Nat → Int32) × Int32 × Int32 × (Nat → Int32) × (Nat → Int32)) => (∃ ck, ck ≤ 99 ∧ u.1 3 = nI ck) ∧ ((∀ k, k < 36 → -1 ≤ u.2.1 k))) (fun (u : (Nat → Int32) × (Nat → Int32) × Int32 × Int32 × (Nat → Int32) × (Nat → Int32)) => [(oX10 x0 y0 ta z0 p0 dr pa to_ s0 im ki tr v0 rf), (oX4 tr r0 r1 u.2.2.2.1), (aI g r0 24 u.2.2.2.2.1), (aI g r1 6 u.2.2.2.2.2), (oX6 p0 p1 p2 p3 p4 (nI w)), (aI g p1 24 sd), (aI g p2 10 fn), (aI g p3 6 st), (aI g p4 6 me), (aP g pa 7 pf), (oX5 t0 t1 t2 u.2.2.1), (aI g t1 6 u.1), (aI g t2 36 u.2.1), (oX8 s0 h0 a0 b0 e0), (oX4 h0 q0 q1 mo), (aI g q0 24 f)]) := by
  refine he_begin (l := l) (g := g) (y := yX10_offer) (wl := wsX10_offer) (fr := 7) (lo := 154) (mc := 0) (ms := 0) (av := [.ref x0, .int (nI n), .int 3]) (ws := [(oX10 x0 y0 ta z0 p0 dr pa to_ s0 im ki tr v0 rf), (oX4 tr r0 r1 mo1), (aI g r0 24 f1), (aI g r1 6 sh), (oX6 p0 p1 p2 p3 p4 (nI w)), (aI g p1 24 sd), (aI g p2 10 fn), (aI g p3 6 st), (aI g p4 6 me), (aP g pa 7 pf), (oX5 t0 t1 t2 pw), (aI g t1 6 pd), (aI g t2 36 wb), (oX8 s0 h0 a0 b0 e0), (oX4 h0 q0 q1 mo), (aI g q0 24 f)]) (cc := cX10_offer) (maxL := 9) (ret := (some .int)) (fun A => va_Qi (fun (r : Int32) (u : (Nat → Int32) × (Nat → Int32) × Int32 × Int32 × (Nat → Int32) × (Nat → Int32)) => (∃ ck, ck ≤ 99 ∧ u.1 3 = nI ck) ∧ ((∀ k, k < 36 → -1 ≤ u.2.1 k))) (fun u t => he_post g A ((fun (u : (Nat → Int32) × (Nat → Int32) × Int32 × Int32 × (Nat → Int32) × (Nat → Int32)) => [(oX10 x0 y0 ta z0 p0 dr pa to_ s0 im ki tr v0 rf), (oX4 tr r0 r1 u.2.2.2.1), (aI g r0 24 u.2.2.2.2.1), (aI g r1 6 u.2.2.2.2.2), (oX6 p0 p1 p2 p3 p4 (nI w)), (aI g p1 24 sd), (aI g p2 10 fn), (aI g p3 6 st), (aI g p4 6 me), (aP g pa 7 pf), (oX5 t0 t1 t2 u.2.2.1), (aI g t1 6 u.1), (aI g t2 36 u.2.1), (oX8 s0 h0 a0 b0 e0), (oX4 h0 q0 q1 mo), (aI g q0 24 f)]) u) t) A) (by decide) rfl (Nat.le_of_ble_eq_true rfl) ?_
  intro p e s m args below meth c A ls H locs Q hQ hB
  obtain ⟨hx, hb, hr, hml, hown, hts, hlk, hin, hP, hK, hD, hS, hA, hE, hl⟩ := hB
  have hl : lv_has ls 9 [(0, .ref x0), (1, .int (nI n)), (2, .int 3)] := hl
  have f32 := hts (.fieldLink RX10 32 "HiredEnemy" "pacts" "[LHiredEnemy$Pact;") (iwoX10_offer (k := 0) rfl)
  have inX10 : ∀ w ∈ wsX100, w ∈ wsX10_offer := innX10_offer_X10
  have f23 := hts (.fieldLink RX10 23 "HiredEnemy" "plan" "LHiredEnemy$Plan;") (iwoX10_offer (k := 1) rfl)
  refine lv_aload_n hx hb dX10_offer_0 rfl (lv_at hl 0 rfl) ?_
  refine lv_iload_n hx hb dX10_offer_1 rfl (lv_at hl 1 rfl) ?_
  refine lv_iconst (v := 1) hx hb dX10_offer_2 (by decide) ?_
  refine lv_bipush (v := 60) hx hb dX10_offer_3 (by decide) ?_
  refine he_ci (wc := []) (wr := [(oX10 x0 y0 ta z0 p0 dr pa to_ s0 im ki tr v0 rf), (oX4 tr r0 r1 mo1), (aI g r0 24 f1), (aI g r1 6 sh), (oX6 p0 p1 p2 p3 p4 (nI w)), (aI g p1 24 sd), (aI g p2 10 fn), (aI g p3 6 st), (aI g p4 6 me), (aP g pa 7 pf), (oX5 t0 t1 t2 pw), (aI g t1 6 pd), (aI g t2 36 wb), (oX8 s0 h0 a0 b0 e0), (oX4 h0 q0 q1 mo), (aI g q0 24 f)]) (va_runS (As := [.int (nI n), .int 1, .int 60]) (rest := [.ref x0]) ⟨hx, hb, hml, hown, hts⟩ (c_X10_within l g (nI n) 1 60 H.size) (va_cwS 3 hts gX10_offer_X10_within rfl rfl rfl (by decide +kernel) ⟨Nat.le_of_ble_eq_true rfl, Nat.le_of_ble_eq_true rfl⟩) (he_preS (wc := []) hK hP hD hS hA hE [] rfl rfl) rfl rfl hl.1 rfl (lv_room (Nat.le_of_ble_eq_true rfl)) dX10_offer_5 ⟨(Nat.le_of_ble_eq_true rfl), (Nat.le_of_ble_eq_true rfl)⟩) hP hD hS hA [] [0, 1, 2, 3, 4, 5, 6, 7, 8, 9, 10, 11, 12, 13, 14, 15] rfl rfl rfl (by decide) (fun r_1 u_2 H locs h_3 hP hD hS => ?_)
  subst h_3
  have hP : va_P g.1 vwCl [(oX10 x0 y0 ta z0 p0 dr pa to_ s0 im ki tr v0 rf), (oX4 tr r0 r1 mo1), (aI g r0 24 f1), (aI g r1 6 sh), (oX6 p0 p1 p2 p3 p4 (nI w)), (aI g p1 24 sd), (aI g p2 10 fn), (aI g p3 6 st), (aI g p4 6 me), (aP g pa 7 pf), (oX5 t0 t1 t2 pw), (aI g t1 6 pd), (aI g t2 36 wb), (oX8 s0 h0 a0 b0 e0), (oX4 h0 q0 q1 mo), (aI g q0 24 f)] H := hP
  have hD : va_D A [(oX10 x0 y0 ta z0 p0 dr pa to_ s0 im ki tr v0 rf), (oX4 tr r0 r1 mo1), (aI g r0 24 f1), (aI g r1 6 sh), (oX6 p0 p1 p2 p3 p4 (nI w)), (aI g p1 24 sd), (aI g p2 10 fn), (aI g p3 6 st), (aI g p4 6 me), (aP g pa 7 pf), (oX5 t0 t1 t2 pw), (aI g t1 6 pd), (aI g t2 36 wb), (oX8 s0 h0 a0 b0 e0), (oX4 h0 q0 q1 mo), (aI g q0 24 f)] := hD
  refine he_top (1) (he_within_in (a0 := 1) (B := 60) rfl rfl (by omega) (by omega) (by decide)) ?_
  refine lv_if_eq (tgt := 24) hx hb dX10_offer_8 (by decide) (fun c_4 => ?_) (fun c_4 => ?_)
  · exact absurd c_4 (by decide)
  · refine lv_iload_n hx hb dX10_offer_11 rfl (lv_at hl 2 rfl) ?_
    refine lv_iconst (v := 0) hx hb dX10_offer_12 (by decide) ?_
    refine lv_iconst (v := 3) hx hb dX10_offer_13 (by decide) ?_
    refine he_ci (wc := []) (wr := [(oX10 x0 y0 ta z0 p0 dr pa to_ s0 im ki tr v0 rf), (oX4 tr r0 r1 mo1), (aI g r0 24 f1), (aI g r1 6 sh), (oX6 p0 p1 p2 p3 p4 (nI w)), (aI g p1 24 sd), (aI g p2 10 fn), (aI g p3 6 st), (aI g p4 6 me), (aP g pa 7 pf), (oX5 t0 t1 t2 pw), (aI g t1 6 pd), (aI g t2 36 wb), (oX8 s0 h0 a0 b0 e0), (oX4 h0 q0 q1 mo), (aI g q0 24 f)]) (va_runS (As := [.int 3, .int 0, .int 3]) (rest := [.ref x0]) ⟨hx, hb, hml, hown, hts⟩ (c_X10_within l g 3 0 3 H.size) (va_cwS 3 hts gX10_offer_X10_within rfl rfl rfl (by decide +kernel) ⟨Nat.le_of_ble_eq_true rfl, Nat.le_of_ble_eq_true rfl⟩) (he_preS (wc := []) hK hP hD hS hA hE [] rfl rfl) rfl rfl hl.1 rfl (lv_room (Nat.le_of_ble_eq_true rfl)) dX10_offer_14 ⟨(Nat.le_of_ble_eq_true rfl), (Nat.le_of_ble_eq_true rfl)⟩) hP hD hS hA [] [0, 1, 2, 3, 4, 5, 6, 7, 8, 9, 10, 11, 12, 13, 14, 15] rfl rfl rfl (by decide) (fun r_5 u_6 H locs h_7 hP hD hS => ?_)
    subst h_7
    have hP : va_P g.1 vwCl [(oX10 x0 y0 ta z0 p0 dr pa to_ s0 im ki tr v0 rf), (oX4 tr r0 r1 mo1), (aI g r0 24 f1), (aI g r1 6 sh), (oX6 p0 p1 p2 p3 p4 (nI w)), (aI g p1 24 sd), (aI g p2 10 fn), (aI g p3 6 st), (aI g p4 6 me), (aP g pa 7 pf), (oX5 t0 t1 t2 pw), (aI g t1 6 pd), (aI g t2 36 wb), (oX8 s0 h0 a0 b0 e0), (oX4 h0 q0 q1 mo), (aI g q0 24 f)] H := hP
    have hD : va_D A [(oX10 x0 y0 ta z0 p0 dr pa to_ s0 im ki tr v0 rf), (oX4 tr r0 r1 mo1), (aI g r0 24 f1), (aI g r1 6 sh), (oX6 p0 p1 p2 p3 p4 (nI w)), (aI g p1 24 sd), (aI g p2 10 fn), (aI g p3 6 st), (aI g p4 6 me), (aP g pa 7 pf), (oX5 t0 t1 t2 pw), (aI g t1 6 pd), (aI g t2 36 wb), (oX8 s0 h0 a0 b0 e0), (oX4 h0 q0 q1 mo), (aI g q0 24 f)] := hD
    refine he_top (1) (by decide) ?_
    refine lv_if_eq (tgt := 24) hx hb dX10_offer_17 (by decide) (fun c_8 => ?_) (fun c_8 => ?_)
    · exact absurd c_8 (by decide)
    · refine lv_iconst (v := 1) hx hb dX10_offer_20 (by decide) ?_
      refine lv_goto (tgt := 25) hx hb dX10_offer_21 (by decide) ?_
      refine he_cv (wc := []) (wr := [(oX10 x0 y0 ta z0 p0 dr pa to_ s0 im ki tr v0 rf), (oX4 tr r0 r1 mo1), (aI g r0 24 f1), (aI g r1 6 sh), (oX6 p0 p1 p2 p3 p4 (nI w)), (aI g p1 24 sd), (aI g p2 10 fn), (aI g p3 6 st), (aI g p4 6 me), (aP g pa 7 pf), (oX5 t0 t1 t2 pw), (aI g t1 6 pd), (aI g t2 36 wb), (oX8 s0 h0 a0 b0 e0), (oX4 h0 q0 q1 mo), (aI g q0 24 f)]) (va_runV (As := [.int 1]) (rest := []) ⟨hx, hb, hml, hown, hts⟩ (c_X10_demand1 l g x0 H.size) (cwV 1 hts gX10_offer_X10_demand rfl rfl rfl (by decide +kernel) ⟨Nat.le_of_ble_eq_true rfl, Nat.le_of_ble_eq_true rfl⟩) (he_preV (wc := []) hK hP hD hS hA hE [] rfl rfl 0 rfl rfl) rfl rfl hl.1 rfl (lv_room (Nat.le_of_ble_eq_true rfl)) dX10_offer_25 ⟨(Nat.le_of_ble_eq_true rfl), (Nat.le_of_ble_eq_true rfl)⟩) hP hD hS hA [] [0, 1, 2, 3, 4, 5, 6, 7, 8, 9, 10, 11, 12, 13, 14, 15] rfl rfl rfl (by decide) (fun u_10 H locs h_11 hP hD hS => ?_)
      have hP : va_P g.1 vwCl [(oX10 x0 y0 ta z0 p0 dr pa to_ s0 im ki tr v0 rf), (oX4 tr r0 r1 mo1), (aI g r0 24 f1), (aI g r1 6 sh), (oX6 p0 p1 p2 p3 p4 (nI w)), (aI g p1 24 sd), (aI g p2 10 fn), (aI g p3 6 st), (aI g p4 6 me), (aP g pa 7 pf), (oX5 t0 t1 t2 pw), (aI g t1 6 pd), (aI g t2 36 wb), (oX8 s0 h0 a0 b0 e0), (oX4 h0 q0 q1 mo), (aI g q0 24 f)] H := hP
      have hD : va_D A [(oX10 x0 y0 ta z0 p0 dr pa to_ s0 im ki tr v0 rf), (oX4 tr r0 r1 mo1), (aI g r0 24 f1), (aI g r1 6 sh), (oX6 p0 p1 p2 p3 p4 (nI w)), (aI g p1 24 sd), (aI g p2 10 fn), (aI g p3 6 st), (aI g p4 6 me), (aP g pa 7 pf), (oX5 t0 t1 t2 pw), (aI g t1 6 pd), (aI g t2 36 wb), (oX8 s0 h0 a0 b0 e0), (oX4 h0 q0 q1 mo), (aI g q0 24 f)] := hD
      refine lv_iconst (v := 0) hx hb dX10_offer_28 (by decide) ?_
      refine lv_istore_n (lv' := [(3, .int 0), (0, .ref x0), (1, .int (nI n)), (2, .int 3)]) hx hb dX10_offer_29 rfl hl (by decide) rfl (fun ls hl => ?_)
      refine lv_iconst (v := 0) hx hb dX10_offer_30 (by decide) ?_
      refine lv_istore (lv' := [(4, .int 0), (3, .int 0), (0, .ref x0), (1, .int (nI n)), (2, .int 3)]) hx hb dX10_offer_31 hl (by decide) rfl (fun ls hl => ?_)
      refine lv_iconst (v := (-1)) hx hb dX10_offer_33 (by decide) ?_
      refine lv_istore (lv' := [(5, .int (-1)), (4, .int 0), (3, .int 0), (0, .ref x0), (1, .int (nI n)), (2, .int 3)]) hx hb dX10_offer_34 hl (by decide) rfl (fun ls hl => ?_)
      refine lv_iconst (v := 0) hx hb dX10_offer_36 (by decide) ?_
      refine lv_istore (lv' := [(6, .int 0), (5, .int (-1)), (4, .int 0), (3, .int 0), (0, .ref x0), (1, .int (nI n)), (2, .int 3)]) hx hb dX10_offer_37 hl (by decide) rfl (fun ls hl => ?_)
      have loop39 : ∀ (n9 : Nat) (r : Nat) (bn : Int32) (bc : Int32) (bm : Int32) (pv : Nat → Int32) (wv : Nat → Int32) (pz : Int32) (mj : Int32) (F : Nat → Int32) (G : Nat → Int32), 10 - r < n9 → (r ≤ 10) → ((∃ ck, ck ≤ 99 ∧ pv 3 = nI ck)) → (∀ k, k < 36 → -1 ≤ wv k) → ∀ (H : Heap) (locs : List Loc) (ls : Array Slot), va_P g.1 vwCl [(oX10 x0 y0 ta z0 p0 dr pa to_ s0 im ki tr v0 rf), (oX4 tr r0 r1 mj), (aI g r0 24 F), (aI g r1 6 G), (oX6 p0 p1 p2 p3 p4 (nI w)), (aI g p1 24 sd), (aI g p2 10 fn), (aI g p3 6 st), (aI g p4 6 me), (aP g pa 7 pf), (oX5 t0 t1 t2 pz), (aI g t1 6 pv), (aI g t2 36 wv), (oX8 s0 h0 a0 b0 e0), (oX4 h0 q0 q1 mo), (aI g q0 24 f)] H → va_D A [(oX10 x0 y0 ta z0 p0 dr pa to_ s0 im ki tr v0 rf), (oX4 tr r0 r1 mj), (aI g r0 24 F), (aI g r1 6 G), (oX6 p0 p1 p2 p3 p4 (nI w)), (aI g p1 24 sd), (aI g p2 10 fn), (aI g p3 6 st), (aI g p4 6 me), (aP g pa 7 pf), (oX5 t0 t1 t2 pz), (aI g t1 6 pv), (aI g t2 36 wv), (oX8 s0 h0 a0 b0 e0), (oX4 h0 q0 q1 mo), (aI g q0 24 f)] → va_S A s.heap H locs → lv_has ls 9 [(0, .ref x0), (1, .int (nI n)), (2, .int 3), (3, .int bn), (4, .int bc), (5, .int bm), (6, .int (nI r))] → W p l e (he_room 7 154 0 0) s m args below meth c H locs 0 0 Q (F0 m 39 ls []) := by
        intro n9
        induction n9 with
        | zero => intro r bn bc bm pv wv pz mj F G hm9; exact absurd hm9 (Nat.not_lt_zero _)
        | succ n9 ih39 =>
          intro r bn bc bm pv wv pz mj F G hm9 hr10 hpv hwv H locs ls hP hD hS hl
          refine lv_iload hx hb dX10_offer_39 (lv_at hl 6 rfl) ?_
          refine lv_bipush (v := 9) hx hb dX10_offer_41 (by decide) ?_
          refine lv_icmp_gt (tgt := 121) hx hb dX10_offer_43 (by decide) (fun c_12 => ?_) (fun c_12 => ?_)
          · have k_13 : 9 < r := (he_clt (a := 9) (b := r) (by decide) rfl (by omega) (by omega)).mp c_12
            refine lv_iload_n hx hb dX10_offer_121 rfl (lv_at hl 2 rfl) ?_
            refine lv_tableOut (tgt := 164) hx hb dX10_offer_122 (by decide) (by decide) ?_
            refine lv_iload hx hb dX10_offer_164 (lv_at hl 5 rfl) ?_
            exact he_ri hQ hx hb hr hlk hP hD hS dX10_offer_166 (Nat.le_of_ble_eq_true rfl) (Nat.le_of_ble_eq_true rfl) ((pv, wv, pz, mj, F, G)) (rfl) (⟨hpv, hwv⟩)
          · have k_14 : ¬ (9 < r) := fun h9 => c_12 ((he_clt (a := 9) (b := r) (by decide) rfl (by omega) (by omega)).mpr h9)
            refine lv_iconst (v := 0) hx hb dX10_offer_46 (by decide) ?_
            refine lv_istore (lv' := [(7, .int 0), (0, .ref x0), (1, .int (nI n)), (2, .int 3), (3, .int bn), (4, .int bc), (5, .int bm), (6, .int (nI r))]) hx hb dX10_offer_47 hl (by decide) rfl (fun ls hl => ?_)
            have loop49 : ∀ (n9 : Nat) (c9 : Nat) (bn : Int32) (bc : Int32) (bm : Int32) (pv : Nat → Int32) (wv : Nat → Int32) (pz : Int32) (mj : Int32) (F : Nat → Int32) (G : Nat → Int32), 21 - c9 < n9 → (c9 ≤ 21) → ((∃ ck, ck ≤ 99 ∧ pv 3 = nI ck)) → (∀ k, k < 36 → -1 ≤ wv k) → ∀ (H : Heap) (locs : List Loc) (ls : Array Slot), va_P g.1 vwCl [(oX10 x0 y0 ta z0 p0 dr pa to_ s0 im ki tr v0 rf), (oX4 tr r0 r1 mj), (aI g r0 24 F), (aI g r1 6 G), (oX6 p0 p1 p2 p3 p4 (nI w)), (aI g p1 24 sd), (aI g p2 10 fn), (aI g p3 6 st), (aI g p4 6 me), (aP g pa 7 pf), (oX5 t0 t1 t2 pz), (aI g t1 6 pv), (aI g t2 36 wv), (oX8 s0 h0 a0 b0 e0), (oX4 h0 q0 q1 mo), (aI g q0 24 f)] H → va_D A [(oX10 x0 y0 ta z0 p0 dr pa to_ s0 im ki tr v0 rf), (oX4 tr r0 r1 mj), (aI g r0 24 F), (aI g r1 6 G), (oX6 p0 p1 p2 p3 p4 (nI w)), (aI g p1 24 sd), (aI g p2 10 fn), (aI g p3 6 st), (aI g p4 6 me), (aP g pa 7 pf), (oX5 t0 t1 t2 pz), (aI g t1 6 pv), (aI g t2 36 wv), (oX8 s0 h0 a0 b0 e0), (oX4 h0 q0 q1 mo), (aI g q0 24 f)] → va_S A s.heap H locs → lv_has ls 9 [(0, .ref x0), (1, .int (nI n)), (2, .int 3), (3, .int bn), (4, .int bc), (5, .int bm), (6, .int (nI r)), (7, .int (nI c9))] → W p l e (he_room 7 154 0 0) s m args below meth c H locs 0 0 Q (F0 m 49 ls []) := by
              intro n9
              induction n9 with
              | zero => intro c9 bn bc bm pv wv pz mj F G hm9; exact absurd hm9 (Nat.not_lt_zero _)
              | succ n9 ih49 =>
                intro c9 bn bc bm pv wv pz mj F G hm9 hc hpv hwv H locs ls hP hD hS hl
                refine lv_iload hx hb dX10_offer_49 (lv_at hl 7 rfl) ?_
                refine lv_bipush (v := 20) hx hb dX10_offer_51 (by decide) ?_
                refine lv_icmp_gt (tgt := 115) hx hb dX10_offer_53 (by decide) (fun c_15 => ?_) (fun c_15 => ?_)
                · have k_16 : 20 < c9 := (he_clt (a := 20) (b := c9) (by decide) rfl (by omega) (by omega)).mp c_15
                  refine lv_iinc (v := nI (r + 1)) (lv' := [(6, .int (nI (r + 1))), (0, .ref x0), (1, .int (nI n)), (2, .int 3), (3, .int bn), (4, .int bc), (5, .int bm), (7, .int (nI c9))]) hx hb dX10_offer_115 hl (k := 6) rfl (nI_1 r) (by decide) rfl (fun ls hl => ?_)
                  refine lv_goto (tgt := 39) hx hb dX10_offer_118 (by decide) ?_
                  exact ih39 (r + 1) bn bc bm pv wv pz mj F G (by omega) (by omega) hpv hwv _ _ _ hP hD hS (lv_sub hl [1, 2, 3, 4, 5, 6, 0] rfl)
                · have k_17 : ¬ (20 < c9) := fun h9 => c_15 ((he_clt (a := 20) (b := c9) (by decide) rfl (by omega) (by omega)).mpr h9)
                  refine lv_aload_n hx hb dX10_offer_56 rfl (lv_at hl 0 rfl) ?_
                  refine va_get (v := .ref pa) (T := TX10) (N := 13) hx hb hts inX10 hown hK hP 0 rfl rfl 5 (by decide) f32 (fun _ h9 => h9) rfl dX10_offer_57 ?_
                  refine lv_bipush (v := 6) hx hb dX10_offer_60 (by decide) ?_
                  refine he_ald hx hb 2 rfl hK hP 9 rfl (6) (by decide) (by decide) (by first | decide | assumption) (.ref t0) (by rw [hpf]; rfl) dX10_offer_62 ?_
                  refine lv_aload_n hx hb dX10_offer_63 rfl (lv_at hl 0 rfl) ?_
                  refine va_get (v := .ref p0) (T := TX10) (N := 13) hx hb hts inX10 hown hK hP 0 rfl rfl 3 (by decide) f23 (fun _ h9 => h9) rfl dX10_offer_64 ?_
                  refine lv_iload hx hb dX10_offer_67 (lv_at hl 6 rfl) ?_
                  refine lv_iload hx hb dX10_offer_69 (lv_at hl 7 rfl) ?_
                  refine he_ci (wc := [(oX6 p0 p1 p2 p3 p4 (nI w)), (aI g p1 24 sd)]) (wr := [(oX10 x0 y0 ta z0 p0 dr pa to_ s0 im ki tr v0 rf), (oX4 tr r0 r1 mj), (aI g r0 24 F), (aI g r1 6 G), (aI g p2 10 fn), (aI g p3 6 st), (aI g p4 6 me), (aP g pa 7 pf), (oX5 t0 t1 t2 pz), (aI g t1 6 pv), (aI g t2 36 wv), (oX8 s0 h0 a0 b0 e0), (oX4 h0 q0 q1 mo), (aI g q0 24 f)]) (va_runV (As := [.int (nI r), .int (nI c9)]) (rest := [.ref t0]) ⟨hx, hb, hml, hown, hts⟩ (c_X6_wanted l g p0 p1 p2 p3 p4 (nI w) sd (nI r) (nI c9) H.size) (cwV 2 hts gX10_offer_X6_wanted rfl rfl rfl (by decide +kernel) ⟨Nat.le_of_ble_eq_true rfl, Nat.le_of_ble_eq_true rfl⟩) (he_preV (wc := [(oX6 p0 p1 p2 p3 p4 (nI w)), (aI g p1 24 sd)]) hK hP hD hS hA hE [4, 5] rfl rfl 4 rfl rfl) rfl rfl hl.1 rfl (lv_room (Nat.le_of_ble_eq_true rfl)) dX10_offer_71 ⟨(Nat.le_of_ble_eq_true rfl), (Nat.le_of_ble_eq_true rfl)⟩) hP hD hS hA [4, 5] [0, 1, 2, 3, 6, 7, 8, 9, 10, 11, 12, 13, 14, 15] rfl rfl rfl (by decide) (fun r_18 u_19 H locs h_20 hP hD hS => ?_)
                  subst h_20
                  have hP : va_P g.1 vwCl [(oX10 x0 y0 ta z0 p0 dr pa to_ s0 im ki tr v0 rf), (oX4 tr r0 r1 mj), (aI g r0 24 F), (aI g r1 6 G), (aI g p2 10 fn), (aI g p3 6 st), (aI g p4 6 me), (aP g pa 7 pf), (oX5 t0 t1 t2 pz), (aI g t1 6 pv), (aI g t2 36 wv), (oX8 s0 h0 a0 b0 e0), (oX4 h0 q0 q1 mo), (aI g q0 24 f), (oX6 p0 p1 p2 p3 p4 (nI w)), (aI g p1 24 sd)] H := hP
                  have hD : va_D A [(oX10 x0 y0 ta z0 p0 dr pa to_ s0 im ki tr v0 rf), (oX4 tr r0 r1 mj), (aI g r0 24 F), (aI g r1 6 G), (aI g p2 10 fn), (aI g p3 6 st), (aI g p4 6 me), (aP g pa 7 pf), (oX5 t0 t1 t2 pz), (aI g t1 6 pv), (aI g t2 36 wv), (oX8 s0 h0 a0 b0 e0), (oX4 h0 q0 q1 mo), (aI g q0 24 f), (oX6 p0 p1 p2 p3 p4 (nI w)), (aI g p1 24 sd)] := hD
                  refine lv_iload hx hb dX10_offer_74 (lv_at hl 6 rfl) ?_
                  refine lv_iload hx hb dX10_offer_76 (lv_at hl 7 rfl) ?_
                  refine lv_iload_n hx hb dX10_offer_78 rfl (lv_at hl 1 rfl) ?_
                  refine he_cv (wc := [(oX5 t0 t1 t2 pz), (aI g t1 6 pv), (aI g t2 36 wv)]) (wr := [(oX10 x0 y0 ta z0 p0 dr pa to_ s0 im ki tr v0 rf), (oX4 tr r0 r1 mj), (aI g r0 24 F), (aI g r1 6 G), (aI g p2 10 fn), (aI g p3 6 st), (aI g p4 6 me), (aP g pa 7 pf), (oX8 s0 h0 a0 b0 e0), (oX4 h0 q0 q1 mo), (aI g q0 24 f), (oX6 p0 p1 p2 p3 p4 (nI w)), (aI g p1 24 sd)]) (va_runV (As := [.int (wantF sd (nI r) (nI c9)), .int (nI r), .int (nI c9), .int (nI n)]) (rest := []) ⟨hx, hb, hml, hown, hts⟩ (c_X5_propose l g t0 t1 t2 pz pv wv (wantF sd (nI r) (nI c9)) (nI r) (nI c9) (nI n) H.size) (cwV 4 hts gX10_offer_X5_propose rfl rfl rfl (by decide +kernel) ⟨Nat.le_of_ble_eq_true rfl, Nat.le_of_ble_eq_true rfl⟩) (he_preV (wc := [(oX5 t0 t1 t2 pz), (aI g t1 6 pv), (aI g t2 36 wv)]) hK hP hD hS hA hE [8, 9, 10] rfl rfl 8 rfl rfl) rfl rfl hl.1 rfl (lv_room (Nat.le_of_ble_eq_true rfl)) dX10_offer_79 ⟨(Nat.le_of_ble_eq_true rfl), (Nat.le_of_ble_eq_true rfl)⟩) hP hD hS hA [8, 9, 10] [0, 1, 2, 3, 4, 5, 6, 7, 11, 12, 13, 14, 15] rfl rfl rfl (by decide) (fun u_22 H locs h_23 hP hD hS => ?_)
                  have hP : va_P g.1 vwCl [(oX10 x0 y0 ta z0 p0 dr pa to_ s0 im ki tr v0 rf), (oX4 tr r0 r1 mj), (aI g r0 24 F), (aI g r1 6 G), (aI g p2 10 fn), (aI g p3 6 st), (aI g p4 6 me), (aP g pa 7 pf), (oX8 s0 h0 a0 b0 e0), (oX4 h0 q0 q1 mo), (aI g q0 24 f), (oX6 p0 p1 p2 p3 p4 (nI w)), (aI g p1 24 sd), (oX5 t0 t1 t2 0), (aI g t1 6 (prP pv (wantF sd (nI r) (nI c9)) (nI r) (nI c9) (nI n))), (aI g t2 36 (flF (fun _ => -1) wv 36))] H := hP
                  have hD : va_D A [(oX10 x0 y0 ta z0 p0 dr pa to_ s0 im ki tr v0 rf), (oX4 tr r0 r1 mj), (aI g r0 24 F), (aI g r1 6 G), (aI g p2 10 fn), (aI g p3 6 st), (aI g p4 6 me), (aP g pa 7 pf), (oX8 s0 h0 a0 b0 e0), (oX4 h0 q0 q1 mo), (aI g q0 24 f), (oX6 p0 p1 p2 p3 p4 (nI w)), (aI g p1 24 sd), (oX5 t0 t1 t2 0), (aI g t1 6 (prP pv (wantF sd (nI r) (nI c9)) (nI r) (nI c9) (nI n))), (aI g t2 36 (flF (fun _ => -1) wv 36))] := hD
                  refine lv_aload_n hx hb dX10_offer_82 rfl (lv_at hl 0 rfl) ?_
                  refine lv_bipush (v := 6) hx hb dX10_offer_83 (by decide) ?_
                  refine lv_iload_n hx hb dX10_offer_85 rfl (lv_at hl 1 rfl) ?_
                  refine he_ci (wc := [(oX10 x0 y0 ta z0 p0 dr pa to_ s0 im ki tr v0 rf), (oX4 tr r0 r1 mj), (aI g r0 24 F), (aI g r1 6 G), (oX6 p0 p1 p2 p3 p4 (nI w)), (aI g p1 24 sd), (aI g p2 10 fn), (aI g p3 6 st), (aI g p4 6 me), (aP g pa 7 pf), (oX5 t0 t1 t2 0), (aI g t1 6 (prP pv (wantF sd (nI r) (nI c9)) (nI r) (nI c9) (nI n))), (aI g t2 36 (flF (fun _ => -1) wv 36)), (oX8 s0 h0 a0 b0 e0), (oX4 h0 q0 q1 mo), (aI g q0 24 f)]) (wr := []) (va_runV (As := [.int 6, .int (nI n)]) (rest := []) ⟨hx, hb, hml, hown, hts⟩ (g_X10_trySigned l g x0 y0 z0 dr pa s0 im tr v0 rf ta to_ ki p0 p1 p2 p3 p4 w sd fn st me a0 b0 e0 h0 q0 q1 mo f r0 r1 mj F G n pf t0 t1 t2 0 (prP pv (wantF sd (nI r) (nI c9)) (nI r) (nI c9) (nI n)) (flF (fun _ => -1) wv 36) c9 6 (by first | assumption | decide | omega) (fl_m1 _) (prP_3 _ _ _ _ _) (by omega) (by decide) hpf hn2 H.size) (cwV 2 hts gX10_offer_X10_trySigned rfl rfl rfl (by decide +kernel) ⟨Nat.le_of_ble_eq_true rfl, Nat.le_of_ble_eq_true rfl⟩) (he_preV (wc := [(oX10 x0 y0 ta z0 p0 dr pa to_ s0 im ki tr v0 rf), (oX4 tr r0 r1 mj), (aI g r0 24 F), (aI g r1 6 G), (oX6 p0 p1 p2 p3 p4 (nI w)), (aI g p1 24 sd), (aI g p2 10 fn), (aI g p3 6 st), (aI g p4 6 me), (aP g pa 7 pf), (oX5 t0 t1 t2 0), (aI g t1 6 (prP pv (wantF sd (nI r) (nI c9)) (nI r) (nI c9) (nI n))), (aI g t2 36 (flF (fun _ => -1) wv 36)), (oX8 s0 h0 a0 b0 e0), (oX4 h0 q0 q1 mo), (aI g q0 24 f)]) hK hP hD hS hA hE [0, 1, 2, 3, 11, 12, 4, 5, 6, 7, 13, 14, 15, 8, 9, 10] rfl rfl 0 rfl rfl) rfl rfl hl.1 rfl (lv_room (Nat.le_of_ble_eq_true rfl)) dX10_offer_86 ⟨(Nat.le_of_ble_eq_true rfl), (Nat.le_of_ble_eq_true rfl)⟩) hP hD hS hA [0, 1, 2, 3, 11, 12, 4, 5, 6, 7, 13, 14, 15, 8, 9, 10] [] rfl rfl rfl (by decide) (fun r_24 u_25 H locs h_26 hP hD hS => ?_)
                  obtain ⟨um_27, uf_28, us_29⟩ := u_25
                  have hP : va_P g.1 vwCl [(oX10 x0 y0 ta z0 p0 dr pa to_ s0 im ki tr v0 rf), (oX4 tr r0 r1 um_27), (aI g r0 24 uf_28), (aI g r1 6 us_29), (oX6 p0 p1 p2 p3 p4 (nI w)), (aI g p1 24 sd), (aI g p2 10 fn), (aI g p3 6 st), (aI g p4 6 me), (aP g pa 7 pf), (oX5 t0 t1 t2 0), (aI g t1 6 (prP pv (wantF sd (nI r) (nI c9)) (nI r) (nI c9) (nI n))), (aI g t2 36 (flF (fun _ => -1) wv 36)), (oX8 s0 h0 a0 b0 e0), (oX4 h0 q0 q1 mo), (aI g q0 24 f)] H := hP
                  have hD : va_D A [(oX10 x0 y0 ta z0 p0 dr pa to_ s0 im ki tr v0 rf), (oX4 tr r0 r1 um_27), (aI g r0 24 uf_28), (aI g r1 6 us_29), (oX6 p0 p1 p2 p3 p4 (nI w)), (aI g p1 24 sd), (aI g p2 10 fn), (aI g p3 6 st), (aI g p4 6 me), (aP g pa 7 pf), (oX5 t0 t1 t2 0), (aI g t1 6 (prP pv (wantF sd (nI r) (nI c9)) (nI r) (nI c9) (nI n))), (aI g t2 36 (flF (fun _ => -1) wv 36)), (oX8 s0 h0 a0 b0 e0), (oX4 h0 q0 q1 mo), (aI g q0 24 f)] := hD
                  refine lv_istore (lv' := [(8, .int r_24), (0, .ref x0), (1, .int (nI n)), (2, .int 3), (3, .int bn), (4, .int bc), (5, .int bm), (6, .int (nI r)), (7, .int (nI c9))]) hx hb dX10_offer_89 hl (by decide) rfl (fun ls hl => ?_)
                  refine lv_iload hx hb dX10_offer_91 (lv_at hl 0 rfl) ?_
                  refine lv_iload hx hb dX10_offer_93 (lv_at hl 6 rfl) ?_
                  refine lv_icmp_le (tgt := 109) hx hb dX10_offer_95 (by decide) (fun c_30 => ?_) (fun c_30 => ?_)
                  · refine lv_iinc (v := nI (c9 + 1)) (lv' := [(7, .int (nI (c9 + 1))), (8, .int r_24), (0, .ref x0), (1, .int (nI n)), (2, .int 3), (3, .int bn), (4, .int bc), (5, .int bm), (6, .int (nI r))]) hx hb dX10_offer_109 hl (k := 8) rfl (nI_1 c9) (by decide) rfl (fun ls hl => ?_)
                    refine lv_goto (tgt := 49) hx hb dX10_offer_112 (by decide) ?_
                    exact ih49 (c9 + 1) bn bc bm (prP pv (wantF sd (nI r) (nI c9)) (nI r) (nI c9) (nI n)) (flF (fun _ => -1) wv 36) 0 um_27 uf_28 us_29 (by omega) (by omega) ⟨c9, by omega, prP_3 _ _ _ _ _⟩ (fl_m1 _) _ _ _ hP hD hS (lv_sub hl [2, 3, 4, 5, 6, 7, 8, 0] rfl)
                  · refine lv_iload hx hb dX10_offer_98 (lv_at hl 0 rfl) ?_
                    refine lv_istore (lv' := [(5, .int r_24), (8, .int r_24), (0, .ref x0), (1, .int (nI n)), (2, .int 3), (3, .int bn), (4, .int bc), (6, .int (nI r)), (7, .int (nI c9))]) hx hb dX10_offer_100 hl (by decide) rfl (fun ls hl => ?_)
                    refine lv_iload hx hb dX10_offer_102 (lv_at hl 7 rfl) ?_
                    refine lv_istore_n (lv' := [(3, .int (nI r)), (5, .int r_24), (8, .int r_24), (0, .ref x0), (1, .int (nI n)), (2, .int 3), (4, .int bc), (6, .int (nI r)), (7, .int (nI c9))]) hx hb dX10_offer_104 rfl hl (by decide) rfl (fun ls hl => ?_)
                    refine lv_iload hx hb dX10_offer_105 (lv_at hl 8 rfl) ?_
                    refine lv_istore (lv' := [(4, .int (nI c9)), (3, .int (nI r)), (5, .int r_24), (8, .int r_24), (0, .ref x0), (1, .int (nI n)), (2, .int 3), (6, .int (nI r)), (7, .int (nI c9))]) hx hb dX10_offer_107 hl (by decide) rfl (fun ls hl => ?_)
                    refine lv_iinc (v := nI (c9 + 1)) (lv' := [(7, .int (nI (c9 + 1))), (4, .int (nI c9)), (3, .int (nI r)), (5, .int r_24), (8, .int r_24), (0, .ref x0), (1, .int (nI n)), (2, .int 3), (6, .int (nI r))]) hx hb dX10_offer_109 hl (k := 8) rfl (nI_1 c9) (by decide) rfl (fun ls hl => ?_)
                    refine lv_goto (tgt := 49) hx hb dX10_offer_112 (by decide) ?_
                    exact ih49 (c9 + 1) (nI r) (nI c9) r_24 (prP pv (wantF sd (nI r) (nI c9)) (nI r) (nI c9) (nI n)) (flF (fun _ => -1) wv 36) 0 um_27 uf_28 us_29 (by omega) (by omega) ⟨c9, by omega, prP_3 _ _ _ _ _⟩ (fl_m1 _) _ _ _ hP hD hS (lv_sub hl [5, 6, 7, 2, 1, 3, 8, 0] rfl)
            exact loop49 ((21 - 0) + 1) 0 bn bc bm pv wv pz mj F G (Nat.lt_succ_self _) (Nat.zero_le _) hpv hwv _ _ _ hP hD hS (lv_sub hl [1, 2, 3, 4, 5, 6, 7, 0] rfl)
      exact loop39 ((10 - 0) + 1) 0 0 0 (-1) pd wb pw mo1 f1 sh (Nat.lt_succ_self _) (Nat.zero_le _) hpv hwv _ _ _ hP hD hS (lv_sub hl [4, 5, 6, 3, 2, 1, 0] rfl)
set_option maxHeartbeats 4000000 in
set_option maxRecDepth 100000 in
theorem g_X10_odds (l : Launch) (g : he_G) (x0 : Nat) (y0 : Nat) (z0 : Nat) (p0 : Nat) (dr : Nat) (pa : Nat) (s0 : Nat) (im : Nat) (tr : Nat) (v0 : Nat) (rf : Nat) (ta : Int32) (to_ : Int32) (ki : Int32) (h0 : Nat) (a0 : Nat) (e0 : Nat) (b0 : Nat) (b1 : Nat) (b2 : Nat) (x : Int32) (y : Int32) (rl : Int64) (hd : Int64) (th : Int32) (i1 : Int32) (i2 : Int32) (hok0 : ¬ he_within i1 1 99 = 0) (hok1 : ¬ he_within i2 1 99 = 0) : he_V l yX10_odds wsX10_odds 2 42 0 0 g [.ref x0, .int i1, .int i2] [(oX10 x0 y0 ta z0 p0 dr pa to_ s0 im ki tr v0 rf), (oX8 s0 h0 a0 b0 e0), (oX2 b0 b1 b2 x y rl hd th)] (fun (u : Unit) => True) (fun (u : Unit) => [(oX10 x0 y0 ta z0 p0 dr pa to_ s0 im ki tr v0 rf), (oX8 s0 h0 a0 b0 e0), (oX2 b0 b1 b2 i1 i2 (Int32.toInt64 i1) (Int32.toInt64 i2) 0)]) := by
  refine he_begin (l := l) (g := g) (y := yX10_odds) (wl := wsX10_odds) (fr := 2) (lo := 42) (mc := 0) (ms := 0) (av := [.ref x0, .int i1, .int i2]) (ws := [(oX10 x0 y0 ta z0 p0 dr pa to_ s0 im ki tr v0 rf), (oX8 s0 h0 a0 b0 e0), (oX2 b0 b1 b2 x y rl hd th)]) (cc := cX10_odds) (maxL := 3) (ret := none) (fun A => va_Qv (fun (u : Unit) => True) (fun u t => he_post g A ((fun (u : Unit) => [(oX10 x0 y0 ta z0 p0 dr pa to_ s0 im ki tr v0 rf), (oX8 s0 h0 a0 b0 e0), (oX2 b0 b1 b2 i1 i2 (Int32.toInt64 i1) (Int32.toInt64 i2) 0)]) u) t) A) (by decide) rfl (Nat.le_of_ble_eq_true rfl) ?_
  intro p e s m args below meth c A ls H locs Q hQ hB
  obtain ⟨hx, hb, hr, hml, hown, hts, hlk, hin, hP, hK, hD, hS, hA, hE, hl⟩ := hB
  have hl : lv_has ls 3 [(0, .ref x0), (1, .int i1), (2, .int i2)] := hl
  have f39 := hts (.fieldLink RX10 39 "HiredEnemy" "scene" "LHiredEnemy$Scene;") (iwoX10_odds (k := 0) rfl)
  have inX10 : ∀ w ∈ wsX100, w ∈ wsX10_odds := innX10_odds_X10
  have f189 := hts (.fieldLink RX10 189 "HiredEnemy$Scene" "belief" "LHiredEnemy$Belief;") (iwoX10_odds (k := 1) rfl)
  have inX8 : ∀ w ∈ wsX80, w ∈ wsX10_odds := innX10_odds_X8
  refine lv_aload_n hx hb dX10_odds_0 rfl (lv_at hl 0 rfl) ?_
  refine lv_iload_n hx hb dX10_odds_1 rfl (lv_at hl 1 rfl) ?_
  refine lv_iconst (v := 1) hx hb dX10_odds_2 (by decide) ?_
  refine lv_bipush (v := 99) hx hb dX10_odds_3 (by decide) ?_
  refine he_ci (wc := []) (wr := [(oX10 x0 y0 ta z0 p0 dr pa to_ s0 im ki tr v0 rf), (oX8 s0 h0 a0 b0 e0), (oX2 b0 b1 b2 x y rl hd th)]) (va_runS (As := [.int i1, .int 1, .int 99]) (rest := [.ref x0]) ⟨hx, hb, hml, hown, hts⟩ (c_X10_within l g i1 1 99 H.size) (va_cwS 3 hts gX10_odds_X10_within rfl rfl rfl (by decide +kernel) ⟨Nat.le_of_ble_eq_true rfl, Nat.le_of_ble_eq_true rfl⟩) (he_preS (wc := []) hK hP hD hS hA hE [] rfl rfl) rfl rfl hl.1 rfl (lv_room (Nat.le_of_ble_eq_true rfl)) dX10_odds_5 ⟨(Nat.le_of_ble_eq_true rfl), (Nat.le_of_ble_eq_true rfl)⟩) hP hD hS hA [] [0, 1, 2] rfl rfl rfl (by decide) (fun r_1 u_2 H locs h_3 hP hD hS => ?_)
  subst h_3
  have hP : va_P g.1 vwCl [(oX10 x0 y0 ta z0 p0 dr pa to_ s0 im ki tr v0 rf), (oX8 s0 h0 a0 b0 e0), (oX2 b0 b1 b2 x y rl hd th)] H := hP
  have hD : va_D A [(oX10 x0 y0 ta z0 p0 dr pa to_ s0 im ki tr v0 rf), (oX8 s0 h0 a0 b0 e0), (oX2 b0 b1 b2 x y rl hd th)] := hD
  refine he_top (1) (he_within_1 hok0) ?_
  refine lv_if_eq (tgt := 25) hx hb dX10_odds_8 (by decide) (fun c_4 => ?_) (fun c_4 => ?_)
  · exact absurd c_4 (by decide)
  · refine lv_iload_n hx hb dX10_odds_11 rfl (lv_at hl 2 rfl) ?_
    refine lv_iconst (v := 1) hx hb dX10_odds_12 (by decide) ?_
    refine lv_bipush (v := 99) hx hb dX10_odds_13 (by decide) ?_
    refine he_ci (wc := []) (wr := [(oX10 x0 y0 ta z0 p0 dr pa to_ s0 im ki tr v0 rf), (oX8 s0 h0 a0 b0 e0), (oX2 b0 b1 b2 x y rl hd th)]) (va_runS (As := [.int i2, .int 1, .int 99]) (rest := [.ref x0]) ⟨hx, hb, hml, hown, hts⟩ (c_X10_within l g i2 1 99 H.size) (va_cwS 3 hts gX10_odds_X10_within rfl rfl rfl (by decide +kernel) ⟨Nat.le_of_ble_eq_true rfl, Nat.le_of_ble_eq_true rfl⟩) (he_preS (wc := []) hK hP hD hS hA hE [] rfl rfl) rfl rfl hl.1 rfl (lv_room (Nat.le_of_ble_eq_true rfl)) dX10_odds_15 ⟨(Nat.le_of_ble_eq_true rfl), (Nat.le_of_ble_eq_true rfl)⟩) hP hD hS hA [] [0, 1, 2] rfl rfl rfl (by decide) (fun r_5 u_6 H locs h_7 hP hD hS => ?_)
    subst h_7
    have hP : va_P g.1 vwCl [(oX10 x0 y0 ta z0 p0 dr pa to_ s0 im ki tr v0 rf), (oX8 s0 h0 a0 b0 e0), (oX2 b0 b1 b2 x y rl hd th)] H := hP
    have hD : va_D A [(oX10 x0 y0 ta z0 p0 dr pa to_ s0 im ki tr v0 rf), (oX8 s0 h0 a0 b0 e0), (oX2 b0 b1 b2 x y rl hd th)] := hD
    refine he_top (1) (he_within_1 hok1) ?_
    refine lv_if_eq (tgt := 25) hx hb dX10_odds_18 (by decide) (fun c_8 => ?_) (fun c_8 => ?_)
    · exact absurd c_8 (by decide)
    · refine lv_iconst (v := 1) hx hb dX10_odds_21 (by decide) ?_
      refine lv_goto (tgt := 26) hx hb dX10_odds_22 (by decide) ?_
      refine he_cv (wc := []) (wr := [(oX10 x0 y0 ta z0 p0 dr pa to_ s0 im ki tr v0 rf), (oX8 s0 h0 a0 b0 e0), (oX2 b0 b1 b2 x y rl hd th)]) (va_runV (As := [.int 1]) (rest := []) ⟨hx, hb, hml, hown, hts⟩ (c_X10_demand1 l g x0 H.size) (cwV 1 hts gX10_odds_X10_demand rfl rfl rfl (by decide +kernel) ⟨Nat.le_of_ble_eq_true rfl, Nat.le_of_ble_eq_true rfl⟩) (he_preV (wc := []) hK hP hD hS hA hE [] rfl rfl 0 rfl rfl) rfl rfl hl.1 rfl (lv_room (Nat.le_of_ble_eq_true rfl)) dX10_odds_26 ⟨(Nat.le_of_ble_eq_true rfl), (Nat.le_of_ble_eq_true rfl)⟩) hP hD hS hA [] [0, 1, 2] rfl rfl rfl (by decide) (fun u_10 H locs h_11 hP hD hS => ?_)
      have hP : va_P g.1 vwCl [(oX10 x0 y0 ta z0 p0 dr pa to_ s0 im ki tr v0 rf), (oX8 s0 h0 a0 b0 e0), (oX2 b0 b1 b2 x y rl hd th)] H := hP
      have hD : va_D A [(oX10 x0 y0 ta z0 p0 dr pa to_ s0 im ki tr v0 rf), (oX8 s0 h0 a0 b0 e0), (oX2 b0 b1 b2 x y rl hd th)] := hD
      refine lv_aload_n hx hb dX10_odds_29 rfl (lv_at hl 0 rfl) ?_
      refine va_get (v := .ref s0) (T := TX10) (N := 13) hx hb hts inX10 hown hK hP 0 rfl rfl 7 (by decide) f39 (fun _ h9 => h9) rfl dX10_odds_30 ?_
      refine va_get (v := .ref b0) (T := TX8) (N := 4) hx hb hts inX8 hown hK hP 1 rfl rfl 2 (by decide) f189 (fun _ h9 => h9) rfl dX10_odds_33 ?_
      refine lv_iload_n hx hb dX10_odds_36 rfl (lv_at hl 1 rfl) ?_
      refine lv_iload_n hx hb dX10_odds_37 rfl (lv_at hl 2 rfl) ?_
      refine he_cv (wc := [(oX2 b0 b1 b2 x y rl hd th)]) (wr := [(oX10 x0 y0 ta z0 p0 dr pa to_ s0 im ki tr v0 rf), (oX8 s0 h0 a0 b0 e0)]) (va_runV (As := [.int i1, .int i2]) (rest := []) ⟨hx, hb, hml, hown, hts⟩ (c_X2_start l g b0 b1 b2 x y rl hd th i1 i2 H.size) (cwV 2 hts gX10_odds_X2_start rfl rfl rfl (by decide +kernel) ⟨Nat.le_of_ble_eq_true rfl, Nat.le_of_ble_eq_true rfl⟩) (he_preV (wc := [(oX2 b0 b1 b2 x y rl hd th)]) hK hP hD hS hA hE [2] rfl rfl 2 rfl rfl) rfl rfl hl.1 rfl (lv_room (Nat.le_of_ble_eq_true rfl)) dX10_odds_38 ⟨(Nat.le_of_ble_eq_true rfl), (Nat.le_of_ble_eq_true rfl)⟩) hP hD hS hA [2] [0, 1] rfl rfl rfl (by decide) (fun u_13 H locs h_14 hP hD hS => ?_)
      have hP : va_P g.1 vwCl [(oX10 x0 y0 ta z0 p0 dr pa to_ s0 im ki tr v0 rf), (oX8 s0 h0 a0 b0 e0), (oX2 b0 b1 b2 i1 i2 (Int32.toInt64 i1) (Int32.toInt64 i2) 0)] H := hP
      have hD : va_D A [(oX10 x0 y0 ta z0 p0 dr pa to_ s0 im ki tr v0 rf), (oX8 s0 h0 a0 b0 e0), (oX2 b0 b1 b2 i1 i2 (Int32.toInt64 i1) (Int32.toInt64 i2) 0)] := hD
      exact he_rv hQ hx hb hr hlk hP hD hS dX10_odds_41 (Nat.le_of_ble_eq_true rfl) (Nat.le_of_ble_eq_true rfl) (()) (rfl) (trivial)
set_option maxHeartbeats 4000000 in
set_option maxRecDepth 100000 in
theorem g_X10_kind (l : Launch) (g : he_G) (x0 : Nat) (y0 : Nat) (z0 : Nat) (p0 : Nat) (dr : Nat) (pa : Nat) (s0 : Nat) (im : Nat) (tr : Nat) (v0 : Nat) (rf : Nat) (ta : Int32) (to_ : Int32) (ki : Int32) (h0 : Nat) (a0 : Nat) (e0 : Nat) (b0 : Nat) (b1 : Nat) (b2 : Nat) (x : Int32) (y : Int32) (rl : Int64) (hd : Int64) (th : Int32) (fr : Nat → Int32) (fh : Nat → Int32) (i1 : Int32) (i2 : Int32) (i3 : Int32) (hok0 : ¬ he_within i1 0 3 = 0) (hok1 : ¬ he_within i2 1 16 = 0) (hok2 : ¬ he_within i3 1 16 = 0) : he_V l yX10_kind wsX10_kind 1 22 0 0 g [.ref x0, .int i1, .int i2, .int i3] [(oX10 x0 y0 ta z0 p0 dr pa to_ s0 im ki tr v0 rf), (oX8 s0 h0 a0 b0 e0), (oX2 b0 b1 b2 x y rl hd th), (aI g b1 4 fr), (aI g b2 4 fh)] (fun (u : Unit) => True) (fun (u : Unit) => [(oX10 x0 y0 ta z0 p0 dr pa to_ s0 im ki tr v0 rf), (oX8 s0 h0 a0 b0 e0), (oX2 b0 b1 b2 x y rl hd th), (aI g b1 4 (upd fr i1.toNatClampNeg i2)), (aI g b2 4 (upd fh i1.toNatClampNeg i3))]) := by
  refine he_begin (l := l) (g := g) (y := yX10_kind) (wl := wsX10_kind) (fr := 1) (lo := 22) (mc := 0) (ms := 0) (av := [.ref x0, .int i1, .int i2, .int i3]) (ws := [(oX10 x0 y0 ta z0 p0 dr pa to_ s0 im ki tr v0 rf), (oX8 s0 h0 a0 b0 e0), (oX2 b0 b1 b2 x y rl hd th), (aI g b1 4 fr), (aI g b2 4 fh)]) (cc := cX10_kind) (maxL := 4) (ret := none) (fun A => va_Qv (fun (u : Unit) => True) (fun u t => he_post g A ((fun (u : Unit) => [(oX10 x0 y0 ta z0 p0 dr pa to_ s0 im ki tr v0 rf), (oX8 s0 h0 a0 b0 e0), (oX2 b0 b1 b2 x y rl hd th), (aI g b1 4 (upd fr i1.toNatClampNeg i2)), (aI g b2 4 (upd fh i1.toNatClampNeg i3))]) u) t) A) (by decide) rfl (Nat.le_of_ble_eq_true rfl) ?_
  intro p e s m args below meth c A ls H locs Q hQ hB
  obtain ⟨hx, hb, hr, hml, hown, hts, hlk, hin, hP, hK, hD, hS, hA, hE, hl⟩ := hB
  have hl : lv_has ls 4 [(0, .ref x0), (1, .int i1), (2, .int i2), (3, .int i3)] := hl
  have f39 := hts (.fieldLink RX10 39 "HiredEnemy" "scene" "LHiredEnemy$Scene;") (iwoX10_kind (k := 0) rfl)
  have inX10 : ∀ w ∈ wsX100, w ∈ wsX10_kind := innX10_kind_X10
  have f189 := hts (.fieldLink RX10 189 "HiredEnemy$Scene" "belief" "LHiredEnemy$Belief;") (iwoX10_kind (k := 1) rfl)
  have inX8 : ∀ w ∈ wsX80, w ∈ wsX10_kind := innX10_kind_X8
  have f199 := hts (.fieldLink RX10 199 "HiredEnemy$Belief" "ifReal" "[I") (iwoX10_kind (k := 2) rfl)
  have inX2 : ∀ w ∈ wsX20, w ∈ wsX10_kind := innX10_kind_X2
  have f202 := hts (.fieldLink RX10 202 "HiredEnemy$Belief" "ifHired" "[I") (iwoX10_kind (k := 3) rfl)
  refine lv_aload_n hx hb dX10_kind_0 rfl (lv_at hl 0 rfl) ?_
  refine lv_iload_n hx hb dX10_kind_1 rfl (lv_at hl 1 rfl) ?_
  refine lv_iconst (v := 0) hx hb dX10_kind_2 (by decide) ?_
  refine lv_iconst (v := 3) hx hb dX10_kind_3 (by decide) ?_
  refine he_ci (wc := []) (wr := [(oX10 x0 y0 ta z0 p0 dr pa to_ s0 im ki tr v0 rf), (oX8 s0 h0 a0 b0 e0), (oX2 b0 b1 b2 x y rl hd th), (aI g b1 4 fr), (aI g b2 4 fh)]) (va_runS (As := [.int i1, .int 0, .int 3]) (rest := [.ref x0]) ⟨hx, hb, hml, hown, hts⟩ (c_X10_within l g i1 0 3 H.size) (va_cwS 3 hts gX10_kind_X10_within rfl rfl rfl (by decide +kernel) ⟨Nat.le_of_ble_eq_true rfl, Nat.le_of_ble_eq_true rfl⟩) (he_preS (wc := []) hK hP hD hS hA hE [] rfl rfl) rfl rfl hl.1 rfl (lv_room (Nat.le_of_ble_eq_true rfl)) dX10_kind_4 ⟨(Nat.le_of_ble_eq_true rfl), (Nat.le_of_ble_eq_true rfl)⟩) hP hD hS hA [] [0, 1, 2, 3, 4] rfl rfl rfl (by decide) (fun r_1 u_2 H locs h_3 hP hD hS => ?_)
  subst h_3
  have hP : va_P g.1 vwCl [(oX10 x0 y0 ta z0 p0 dr pa to_ s0 im ki tr v0 rf), (oX8 s0 h0 a0 b0 e0), (oX2 b0 b1 b2 x y rl hd th), (aI g b1 4 fr), (aI g b2 4 fh)] H := hP
  have hD : va_D A [(oX10 x0 y0 ta z0 p0 dr pa to_ s0 im ki tr v0 rf), (oX8 s0 h0 a0 b0 e0), (oX2 b0 b1 b2 x y rl hd th), (aI g b1 4 fr), (aI g b2 4 fh)] := hD
  refine he_top (1) (he_within_1 hok0) ?_
  refine lv_if_eq (tgt := 34) hx hb dX10_kind_7 (by decide) (fun c_4 => ?_) (fun c_4 => ?_)
  · exact absurd c_4 (by decide)
  · refine lv_iload_n hx hb dX10_kind_10 rfl (lv_at hl 2 rfl) ?_
    refine lv_iconst (v := 1) hx hb dX10_kind_11 (by decide) ?_
    refine lv_bipush (v := 16) hx hb dX10_kind_12 (by decide) ?_
    refine he_ci (wc := []) (wr := [(oX10 x0 y0 ta z0 p0 dr pa to_ s0 im ki tr v0 rf), (oX8 s0 h0 a0 b0 e0), (oX2 b0 b1 b2 x y rl hd th), (aI g b1 4 fr), (aI g b2 4 fh)]) (va_runS (As := [.int i2, .int 1, .int 16]) (rest := [.ref x0]) ⟨hx, hb, hml, hown, hts⟩ (c_X10_within l g i2 1 16 H.size) (va_cwS 3 hts gX10_kind_X10_within rfl rfl rfl (by decide +kernel) ⟨Nat.le_of_ble_eq_true rfl, Nat.le_of_ble_eq_true rfl⟩) (he_preS (wc := []) hK hP hD hS hA hE [] rfl rfl) rfl rfl hl.1 rfl (lv_room (Nat.le_of_ble_eq_true rfl)) dX10_kind_14 ⟨(Nat.le_of_ble_eq_true rfl), (Nat.le_of_ble_eq_true rfl)⟩) hP hD hS hA [] [0, 1, 2, 3, 4] rfl rfl rfl (by decide) (fun r_5 u_6 H locs h_7 hP hD hS => ?_)
    subst h_7
    have hP : va_P g.1 vwCl [(oX10 x0 y0 ta z0 p0 dr pa to_ s0 im ki tr v0 rf), (oX8 s0 h0 a0 b0 e0), (oX2 b0 b1 b2 x y rl hd th), (aI g b1 4 fr), (aI g b2 4 fh)] H := hP
    have hD : va_D A [(oX10 x0 y0 ta z0 p0 dr pa to_ s0 im ki tr v0 rf), (oX8 s0 h0 a0 b0 e0), (oX2 b0 b1 b2 x y rl hd th), (aI g b1 4 fr), (aI g b2 4 fh)] := hD
    refine he_top (1) (he_within_1 hok1) ?_
    refine lv_if_eq (tgt := 34) hx hb dX10_kind_17 (by decide) (fun c_8 => ?_) (fun c_8 => ?_)
    · exact absurd c_8 (by decide)
    · refine lv_iload_n hx hb dX10_kind_20 rfl (lv_at hl 3 rfl) ?_
      refine lv_iconst (v := 1) hx hb dX10_kind_21 (by decide) ?_
      refine lv_bipush (v := 16) hx hb dX10_kind_22 (by decide) ?_
      refine he_ci (wc := []) (wr := [(oX10 x0 y0 ta z0 p0 dr pa to_ s0 im ki tr v0 rf), (oX8 s0 h0 a0 b0 e0), (oX2 b0 b1 b2 x y rl hd th), (aI g b1 4 fr), (aI g b2 4 fh)]) (va_runS (As := [.int i3, .int 1, .int 16]) (rest := [.ref x0]) ⟨hx, hb, hml, hown, hts⟩ (c_X10_within l g i3 1 16 H.size) (va_cwS 3 hts gX10_kind_X10_within rfl rfl rfl (by decide +kernel) ⟨Nat.le_of_ble_eq_true rfl, Nat.le_of_ble_eq_true rfl⟩) (he_preS (wc := []) hK hP hD hS hA hE [] rfl rfl) rfl rfl hl.1 rfl (lv_room (Nat.le_of_ble_eq_true rfl)) dX10_kind_24 ⟨(Nat.le_of_ble_eq_true rfl), (Nat.le_of_ble_eq_true rfl)⟩) hP hD hS hA [] [0, 1, 2, 3, 4] rfl rfl rfl (by decide) (fun r_9 u_10 H locs h_11 hP hD hS => ?_)
      subst h_11
      have hP : va_P g.1 vwCl [(oX10 x0 y0 ta z0 p0 dr pa to_ s0 im ki tr v0 rf), (oX8 s0 h0 a0 b0 e0), (oX2 b0 b1 b2 x y rl hd th), (aI g b1 4 fr), (aI g b2 4 fh)] H := hP
      have hD : va_D A [(oX10 x0 y0 ta z0 p0 dr pa to_ s0 im ki tr v0 rf), (oX8 s0 h0 a0 b0 e0), (oX2 b0 b1 b2 x y rl hd th), (aI g b1 4 fr), (aI g b2 4 fh)] := hD
      refine he_top (1) (he_within_1 hok2) ?_
      refine lv_if_eq (tgt := 34) hx hb dX10_kind_27 (by decide) (fun c_12 => ?_) (fun c_12 => ?_)
      · exact absurd c_12 (by decide)
      · refine lv_iconst (v := 1) hx hb dX10_kind_30 (by decide) ?_
        refine lv_goto (tgt := 35) hx hb dX10_kind_31 (by decide) ?_
        refine he_cv (wc := []) (wr := [(oX10 x0 y0 ta z0 p0 dr pa to_ s0 im ki tr v0 rf), (oX8 s0 h0 a0 b0 e0), (oX2 b0 b1 b2 x y rl hd th), (aI g b1 4 fr), (aI g b2 4 fh)]) (va_runV (As := [.int 1]) (rest := []) ⟨hx, hb, hml, hown, hts⟩ (c_X10_demand1 l g x0 H.size) (cwV 1 hts gX10_kind_X10_demand rfl rfl rfl (by decide +kernel) ⟨Nat.le_of_ble_eq_true rfl, Nat.le_of_ble_eq_true rfl⟩) (he_preV (wc := []) hK hP hD hS hA hE [] rfl rfl 0 rfl rfl) rfl rfl hl.1 rfl (lv_room (Nat.le_of_ble_eq_true rfl)) dX10_kind_35 ⟨(Nat.le_of_ble_eq_true rfl), (Nat.le_of_ble_eq_true rfl)⟩) hP hD hS hA [] [0, 1, 2, 3, 4] rfl rfl rfl (by decide) (fun u_14 H locs h_15 hP hD hS => ?_)
        have hP : va_P g.1 vwCl [(oX10 x0 y0 ta z0 p0 dr pa to_ s0 im ki tr v0 rf), (oX8 s0 h0 a0 b0 e0), (oX2 b0 b1 b2 x y rl hd th), (aI g b1 4 fr), (aI g b2 4 fh)] H := hP
        have hD : va_D A [(oX10 x0 y0 ta z0 p0 dr pa to_ s0 im ki tr v0 rf), (oX8 s0 h0 a0 b0 e0), (oX2 b0 b1 b2 x y rl hd th), (aI g b1 4 fr), (aI g b2 4 fh)] := hD
        refine lv_aload_n hx hb dX10_kind_38 rfl (lv_at hl 0 rfl) ?_
        refine va_get (v := .ref s0) (T := TX10) (N := 13) hx hb hts inX10 hown hK hP 0 rfl rfl 7 (by decide) f39 (fun _ h9 => h9) rfl dX10_kind_39 ?_
        refine va_get (v := .ref b0) (T := TX8) (N := 4) hx hb hts inX8 hown hK hP 1 rfl rfl 2 (by decide) f189 (fun _ h9 => h9) rfl dX10_kind_42 ?_
        refine va_get (v := .ref b1) (T := TX2) (N := 7) hx hb hts inX2 hown hK hP 2 rfl rfl 0 (by decide) f199 (fun _ h9 => h9) rfl dX10_kind_45 ?_
        refine lv_iload_n hx hb dX10_kind_48 rfl (lv_at hl 1 rfl) ?_
        refine lv_iload_n hx hb dX10_kind_49 rfl (lv_at hl 2 rfl) ?_
        refine he_iast hx hb hK hP hD hS 3 rfl (i1.toNatClampNeg) (he_within_nat (B := 3) rfl (by decide) hok0).1 (Nat.lt_of_le_of_lt (he_within_nat (B := 3) rfl (by decide) hok0).2 (by decide)) (by first | decide | assumption) dX10_kind_50 (fun H locs hP hD hS => ?_)
        have hP : va_P g.1 vwCl [(oX10 x0 y0 ta z0 p0 dr pa to_ s0 im ki tr v0 rf), (oX8 s0 h0 a0 b0 e0), (oX2 b0 b1 b2 x y rl hd th), (aI g b1 4 (upd fr i1.toNatClampNeg i2)), (aI g b2 4 fh)] H := hP
        have hD : va_D A [(oX10 x0 y0 ta z0 p0 dr pa to_ s0 im ki tr v0 rf), (oX8 s0 h0 a0 b0 e0), (oX2 b0 b1 b2 x y rl hd th), (aI g b1 4 (upd fr i1.toNatClampNeg i2)), (aI g b2 4 fh)] := hD
        refine lv_aload_n hx hb dX10_kind_51 rfl (lv_at hl 0 rfl) ?_
        refine va_get (v := .ref s0) (T := TX10) (N := 13) hx hb hts inX10 hown hK hP 0 rfl rfl 7 (by decide) f39 (fun _ h9 => h9) rfl dX10_kind_52 ?_
        refine va_get (v := .ref b0) (T := TX8) (N := 4) hx hb hts inX8 hown hK hP 1 rfl rfl 2 (by decide) f189 (fun _ h9 => h9) rfl dX10_kind_55 ?_
        refine va_get (v := .ref b2) (T := TX2) (N := 7) hx hb hts inX2 hown hK hP 2 rfl rfl 1 (by decide) f202 (fun _ h9 => h9) rfl dX10_kind_58 ?_
        refine lv_iload_n hx hb dX10_kind_61 rfl (lv_at hl 1 rfl) ?_
        refine lv_iload_n hx hb dX10_kind_62 rfl (lv_at hl 3 rfl) ?_
        refine he_iast hx hb hK hP hD hS 4 rfl (i1.toNatClampNeg) (he_within_nat (B := 3) rfl (by decide) hok0).1 (Nat.lt_of_le_of_lt (he_within_nat (B := 3) rfl (by decide) hok0).2 (by decide)) (by first | decide | assumption) dX10_kind_63 (fun H locs hP hD hS => ?_)
        have hP : va_P g.1 vwCl [(oX10 x0 y0 ta z0 p0 dr pa to_ s0 im ki tr v0 rf), (oX8 s0 h0 a0 b0 e0), (oX2 b0 b1 b2 x y rl hd th), (aI g b1 4 (upd fr i1.toNatClampNeg i2)), (aI g b2 4 (upd fh i1.toNatClampNeg i3))] H := hP
        have hD : va_D A [(oX10 x0 y0 ta z0 p0 dr pa to_ s0 im ki tr v0 rf), (oX8 s0 h0 a0 b0 e0), (oX2 b0 b1 b2 x y rl hd th), (aI g b1 4 (upd fr i1.toNatClampNeg i2)), (aI g b2 4 (upd fh i1.toNatClampNeg i3))] := hD
        exact he_rv hQ hx hb hr hlk hP hD hS dX10_kind_64 (Nat.le_of_ble_eq_true rfl) (Nat.le_of_ble_eq_true rfl) (()) (rfl) (trivial)
set_option maxHeartbeats 4000000 in
set_option maxRecDepth 100000 in
theorem g_X10_seen (l : Launch) (g : he_G) (x0 : Nat) (y0 : Nat) (z0 : Nat) (p0 : Nat) (dr : Nat) (pa : Nat) (s0 : Nat) (im : Nat) (tr : Nat) (v0 : Nat) (rf : Nat) (ta : Int32) (to_ : Int32) (ki : Int32) (h0 : Nat) (a0 : Nat) (e0 : Nat) (b0 : Nat) (b1 : Nat) (b2 : Nat) (x : Int32) (y : Int32) (rl : Int64) (hd : Int64) (th : Int32) (fr : Nat → Int32) (fh : Nat → Int32) (i1 : Int32) (hok0 : ¬ he_within i1 0 3 = 0) (hth : th < 12) : he_I l yX10_seen wsX10_seen 1 22 0 0 g [.ref x0, .int i1] [(oX10 x0 y0 ta z0 p0 dr pa to_ s0 im ki tr v0 rf), (oX8 s0 h0 a0 b0 e0), (oX2 b0 b1 b2 x y rl hd th), (aI g b1 4 fr), (aI g b2 4 fh)] (fun (r : Int32) (u : Unit) => r = th + 1) (fun (u : Unit) => [(oX10 x0 y0 ta z0 p0 dr pa to_ s0 im ki tr v0 rf), (oX8 s0 h0 a0 b0 e0), (oX2 b0 b1 b2 x y (rl * Int32.toInt64 (fr i1.toNatClampNeg)) (hd * Int32.toInt64 (fh i1.toNatClampNeg)) (th + 1)), (aI g b1 4 fr), (aI g b2 4 fh)]) := by
  refine he_begin (l := l) (g := g) (y := yX10_seen) (wl := wsX10_seen) (fr := 1) (lo := 22) (mc := 0) (ms := 0) (av := [.ref x0, .int i1]) (ws := [(oX10 x0 y0 ta z0 p0 dr pa to_ s0 im ki tr v0 rf), (oX8 s0 h0 a0 b0 e0), (oX2 b0 b1 b2 x y rl hd th), (aI g b1 4 fr), (aI g b2 4 fh)]) (cc := cX10_seen) (maxL := 3) (ret := (some .int)) (fun A => va_Qi (fun (r : Int32) (u : Unit) => r = th + 1) (fun u t => he_post g A ((fun (u : Unit) => [(oX10 x0 y0 ta z0 p0 dr pa to_ s0 im ki tr v0 rf), (oX8 s0 h0 a0 b0 e0), (oX2 b0 b1 b2 x y (rl * Int32.toInt64 (fr i1.toNatClampNeg)) (hd * Int32.toInt64 (fh i1.toNatClampNeg)) (th + 1)), (aI g b1 4 fr), (aI g b2 4 fh)]) u) t) A) (by decide) rfl (Nat.le_of_ble_eq_true rfl) ?_
  intro p e s m args below meth c A ls H locs Q hQ hB
  obtain ⟨hx, hb, hr, hml, hown, hts, hlk, hin, hP, hK, hD, hS, hA, hE, hl⟩ := hB
  have hl : lv_has ls 3 [(0, .ref x0), (1, .int i1)] := hl
  have f39 := hts (.fieldLink RX10 39 "HiredEnemy" "scene" "LHiredEnemy$Scene;") (iwoX10_seen (k := 0) rfl)
  have inX10 : ∀ w ∈ wsX100, w ∈ wsX10_seen := innX10_seen_X10
  have f189 := hts (.fieldLink RX10 189 "HiredEnemy$Scene" "belief" "LHiredEnemy$Belief;") (iwoX10_seen (k := 1) rfl)
  have inX8 : ∀ w ∈ wsX80, w ∈ wsX10_seen := innX10_seen_X8
  have f199 := hts (.fieldLink RX10 199 "HiredEnemy$Belief" "ifReal" "[I") (iwoX10_seen (k := 2) rfl)
  have inX2 : ∀ w ∈ wsX20, w ∈ wsX10_seen := innX10_seen_X2
  have f202 := hts (.fieldLink RX10 202 "HiredEnemy$Belief" "ifHired" "[I") (iwoX10_seen (k := 3) rfl)
  refine lv_aload_n hx hb dX10_seen_0 rfl (lv_at hl 0 rfl) ?_
  refine lv_iload_n hx hb dX10_seen_1 rfl (lv_at hl 1 rfl) ?_
  refine lv_iconst (v := 0) hx hb dX10_seen_2 (by decide) ?_
  refine lv_iconst (v := 3) hx hb dX10_seen_3 (by decide) ?_
  refine he_ci (wc := []) (wr := [(oX10 x0 y0 ta z0 p0 dr pa to_ s0 im ki tr v0 rf), (oX8 s0 h0 a0 b0 e0), (oX2 b0 b1 b2 x y rl hd th), (aI g b1 4 fr), (aI g b2 4 fh)]) (va_runS (As := [.int i1, .int 0, .int 3]) (rest := [.ref x0]) ⟨hx, hb, hml, hown, hts⟩ (c_X10_within l g i1 0 3 H.size) (va_cwS 3 hts gX10_seen_X10_within rfl rfl rfl (by decide +kernel) ⟨Nat.le_of_ble_eq_true rfl, Nat.le_of_ble_eq_true rfl⟩) (he_preS (wc := []) hK hP hD hS hA hE [] rfl rfl) rfl rfl hl.1 rfl (lv_room (Nat.le_of_ble_eq_true rfl)) dX10_seen_4 ⟨(Nat.le_of_ble_eq_true rfl), (Nat.le_of_ble_eq_true rfl)⟩) hP hD hS hA [] [0, 1, 2, 3, 4] rfl rfl rfl (by decide) (fun r_1 u_2 H locs h_3 hP hD hS => ?_)
  subst h_3
  have hP : va_P g.1 vwCl [(oX10 x0 y0 ta z0 p0 dr pa to_ s0 im ki tr v0 rf), (oX8 s0 h0 a0 b0 e0), (oX2 b0 b1 b2 x y rl hd th), (aI g b1 4 fr), (aI g b2 4 fh)] H := hP
  have hD : va_D A [(oX10 x0 y0 ta z0 p0 dr pa to_ s0 im ki tr v0 rf), (oX8 s0 h0 a0 b0 e0), (oX2 b0 b1 b2 x y rl hd th), (aI g b1 4 fr), (aI g b2 4 fh)] := hD
  refine he_top (1) (he_within_1 hok0) ?_
  refine he_cv (wc := []) (wr := [(oX10 x0 y0 ta z0 p0 dr pa to_ s0 im ki tr v0 rf), (oX8 s0 h0 a0 b0 e0), (oX2 b0 b1 b2 x y rl hd th), (aI g b1 4 fr), (aI g b2 4 fh)]) (va_runV (As := [.int 1]) (rest := []) ⟨hx, hb, hml, hown, hts⟩ (c_X10_demand1 l g x0 H.size) (cwV 1 hts gX10_seen_X10_demand rfl rfl rfl (by decide +kernel) ⟨Nat.le_of_ble_eq_true rfl, Nat.le_of_ble_eq_true rfl⟩) (he_preV (wc := []) hK hP hD hS hA hE [] rfl rfl 0 rfl rfl) rfl rfl hl.1 rfl (lv_room (Nat.le_of_ble_eq_true rfl)) dX10_seen_7 ⟨(Nat.le_of_ble_eq_true rfl), (Nat.le_of_ble_eq_true rfl)⟩) hP hD hS hA [] [0, 1, 2, 3, 4] rfl rfl rfl (by decide) (fun u_5 H locs h_6 hP hD hS => ?_)
  have hP : va_P g.1 vwCl [(oX10 x0 y0 ta z0 p0 dr pa to_ s0 im ki tr v0 rf), (oX8 s0 h0 a0 b0 e0), (oX2 b0 b1 b2 x y rl hd th), (aI g b1 4 fr), (aI g b2 4 fh)] H := hP
  have hD : va_D A [(oX10 x0 y0 ta z0 p0 dr pa to_ s0 im ki tr v0 rf), (oX8 s0 h0 a0 b0 e0), (oX2 b0 b1 b2 x y rl hd th), (aI g b1 4 fr), (aI g b2 4 fh)] := hD
  refine lv_aload_n hx hb dX10_seen_10 rfl (lv_at hl 0 rfl) ?_
  refine va_get (v := .ref s0) (T := TX10) (N := 13) hx hb hts inX10 hown hK hP 0 rfl rfl 7 (by decide) f39 (fun _ h9 => h9) rfl dX10_seen_11 ?_
  refine va_get (v := .ref b0) (T := TX8) (N := 4) hx hb hts inX8 hown hK hP 1 rfl rfl 2 (by decide) f189 (fun _ h9 => h9) rfl dX10_seen_14 ?_
  refine lv_astore_n (lv' := [(2, .ref b0), (0, .ref x0), (1, .int i1)]) hx hb dX10_seen_17 rfl hl (by decide) rfl (fun ls hl => ?_)
  refine lv_aload_n hx hb dX10_seen_18 rfl (lv_at hl 0 rfl) ?_
  refine lv_aload_n hx hb dX10_seen_19 rfl (lv_at hl 0 rfl) ?_
  refine va_get (v := .ref b1) (T := TX2) (N := 7) hx hb hts inX2 hown hK hP 2 rfl rfl 0 (by decide) f199 (fun _ h9 => h9) rfl dX10_seen_20 ?_
  refine lv_iload_n hx hb dX10_seen_23 rfl (lv_at hl 2 rfl) ?_
  refine he_iald hx hb hK hP 3 rfl (i1.toNatClampNeg) (he_within_nat (B := 3) rfl (by decide) hok0).1 (Nat.lt_of_le_of_lt (he_within_nat (B := 3) rfl (by decide) hok0).2 (by decide)) (by first | decide | assumption) (fr i1.toNatClampNeg) rfl dX10_seen_24 ?_
  refine lv_aload_n hx hb dX10_seen_25 rfl (lv_at hl 0 rfl) ?_
  refine va_get (v := .ref b2) (T := TX2) (N := 7) hx hb hts inX2 hown hK hP 2 rfl rfl 1 (by decide) f202 (fun _ h9 => h9) rfl dX10_seen_26 ?_
  refine lv_iload_n hx hb dX10_seen_29 rfl (lv_at hl 2 rfl) ?_
  refine he_iald hx hb hK hP 4 rfl (i1.toNatClampNeg) (he_within_nat (B := 3) rfl (by decide) hok0).1 (Nat.lt_of_le_of_lt (he_within_nat (B := 3) rfl (by decide) hok0).2 (by decide)) (by first | decide | assumption) (fh i1.toNatClampNeg) rfl dX10_seen_30 ?_
  refine he_ci (wc := [(oX2 b0 b1 b2 x y rl hd th)]) (wr := [(oX10 x0 y0 ta z0 p0 dr pa to_ s0 im ki tr v0 rf), (oX8 s0 h0 a0 b0 e0), (aI g b1 4 fr), (aI g b2 4 fh)]) (va_runV (As := [.int (fr i1.toNatClampNeg), .int (fh i1.toNatClampNeg)]) (rest := []) ⟨hx, hb, hml, hown, hts⟩ (g_X2_add l g b0 b1 b2 x y rl hd th (fr i1.toNatClampNeg) (fh i1.toNatClampNeg) (by first | assumption | decide | omega) H.size) (cwV 2 hts gX10_seen_X2_add rfl rfl rfl (by decide +kernel) ⟨Nat.le_of_ble_eq_true rfl, Nat.le_of_ble_eq_true rfl⟩) (he_preV (wc := [(oX2 b0 b1 b2 x y rl hd th)]) hK hP hD hS hA hE [2] rfl rfl 2 rfl rfl) rfl rfl hl.1 rfl (lv_room (Nat.le_of_ble_eq_true rfl)) dX10_seen_31 ⟨(Nat.le_of_ble_eq_true rfl), (Nat.le_of_ble_eq_true rfl)⟩) hP hD hS hA [2] [0, 1, 3, 4] rfl rfl rfl (by decide) (fun r_7 u_8 H locs h_9 hP hD hS => ?_)
  subst h_9
  have hP : va_P g.1 vwCl [(oX10 x0 y0 ta z0 p0 dr pa to_ s0 im ki tr v0 rf), (oX8 s0 h0 a0 b0 e0), (aI g b1 4 fr), (aI g b2 4 fh), (oX2 b0 b1 b2 x y (rl * Int32.toInt64 (fr i1.toNatClampNeg)) (hd * Int32.toInt64 (fh i1.toNatClampNeg)) (th + 1))] H := hP
  have hD : va_D A [(oX10 x0 y0 ta z0 p0 dr pa to_ s0 im ki tr v0 rf), (oX8 s0 h0 a0 b0 e0), (aI g b1 4 fr), (aI g b2 4 fh), (oX2 b0 b1 b2 x y (rl * Int32.toInt64 (fr i1.toNatClampNeg)) (hd * Int32.toInt64 (fh i1.toNatClampNeg)) (th + 1))] := hD
  have hP := hP.sub (ws' := [(oX10 x0 y0 ta z0 p0 dr pa to_ s0 im ki tr v0 rf), (oX8 s0 h0 a0 b0 e0), (oX2 b0 b1 b2 x y (rl * Int32.toInt64 (fr i1.toNatClampNeg)) (hd * Int32.toInt64 (fh i1.toNatClampNeg)) (th + 1)), (aI g b1 4 fr), (aI g b2 4 fh)]) [0, 1, 4, 2, 3] rfl
  have hD := hD.sub (ws' := [(oX10 x0 y0 ta z0 p0 dr pa to_ s0 im ki tr v0 rf), (oX8 s0 h0 a0 b0 e0), (oX2 b0 b1 b2 x y (rl * Int32.toInt64 (fr i1.toNatClampNeg)) (hd * Int32.toInt64 (fh i1.toNatClampNeg)) (th + 1)), (aI g b1 4 fr), (aI g b2 4 fh)]) [0, 1, 4, 2, 3] (by decide) rfl
  exact he_ri hQ hx hb hr hlk hP hD hS dX10_seen_34 (Nat.le_of_ble_eq_true rfl) (Nat.le_of_ble_eq_true rfl) (()) (rfl) (rfl)
set_option maxHeartbeats 4000000 in
set_option maxRecDepth 100000 in
theorem g_X10_spy0 (l : Launch) (g : he_G) (x0 : Nat) (y0 : Nat) (z0 : Nat) (p0 : Nat) (dr : Nat) (pa : Nat) (s0 : Nat) (im : Nat) (tr : Nat) (v0 : Nat) (rf : Nat) (ta : Int32) (to_ : Int32) (ki : Int32) (h0 : Nat) (a0 : Nat) (e0 : Nat) (b0 : Nat) (b1 : Nat) (b2 : Nat) (x : Int32) (y : Int32) (rl : Int64) (hd : Int64) (th : Int32) (i1 : Int32) (hok0 : ¬ he_within i1 1 15 = 0) (hth : th < 12) : he_I l yX10_spy wsX10_spy 1 22 0 0 g [.ref x0, .int 0, .int i1] [(oX10 x0 y0 ta z0 p0 dr pa to_ s0 im ki tr v0 rf), (oX8 s0 h0 a0 b0 e0), (oX2 b0 b1 b2 x y rl hd th)] (fun (r : Int32) (u : Unit) => r = th + 1) (fun (u : Unit) => [(oX10 x0 y0 ta z0 p0 dr pa to_ s0 im ki tr v0 rf), (oX8 s0 h0 a0 b0 e0), (oX2 b0 b1 b2 x y (rl * Int32.toInt64 (16 - i1)) (hd * Int32.toInt64 i1) (th + 1))]) := by
  refine he_begin (l := l) (g := g) (y := yX10_spy) (wl := wsX10_spy) (fr := 1) (lo := 22) (mc := 0) (ms := 0) (av := [.ref x0, .int 0, .int i1]) (ws := [(oX10 x0 y0 ta z0 p0 dr pa to_ s0 im ki tr v0 rf), (oX8 s0 h0 a0 b0 e0), (oX2 b0 b1 b2 x y rl hd th)]) (cc := cX10_spy) (maxL := 4) (ret := (some .int)) (fun A => va_Qi (fun (r : Int32) (u : Unit) => r = th + 1) (fun u t => he_post g A ((fun (u : Unit) => [(oX10 x0 y0 ta z0 p0 dr pa to_ s0 im ki tr v0 rf), (oX8 s0 h0 a0 b0 e0), (oX2 b0 b1 b2 x y (rl * Int32.toInt64 (16 - i1)) (hd * Int32.toInt64 i1) (th + 1))]) u) t) A) (by decide) rfl (Nat.le_of_ble_eq_true rfl) ?_
  intro p e s m args below meth c A ls H locs Q hQ hB
  obtain ⟨hx, hb, hr, hml, hown, hts, hlk, hin, hP, hK, hD, hS, hA, hE, hl⟩ := hB
  have hl : lv_has ls 4 [(0, .ref x0), (1, .int 0), (2, .int i1)] := hl
  have f39 := hts (.fieldLink RX10 39 "HiredEnemy" "scene" "LHiredEnemy$Scene;") (iwoX10_spy (k := 0) rfl)
  have inX10 : ∀ w ∈ wsX100, w ∈ wsX10_spy := innX10_spy_X10
  have f189 := hts (.fieldLink RX10 189 "HiredEnemy$Scene" "belief" "LHiredEnemy$Belief;") (iwoX10_spy (k := 1) rfl)
  have inX8 : ∀ w ∈ wsX80, w ∈ wsX10_spy := innX10_spy_X8
  refine lv_aload_n hx hb dX10_spy_0 rfl (lv_at hl 0 rfl) ?_
  refine lv_iload_n hx hb dX10_spy_1 rfl (lv_at hl 2 rfl) ?_
  refine lv_iconst (v := 1) hx hb dX10_spy_2 (by decide) ?_
  refine lv_bipush (v := 15) hx hb dX10_spy_3 (by decide) ?_
  refine he_ci (wc := []) (wr := [(oX10 x0 y0 ta z0 p0 dr pa to_ s0 im ki tr v0 rf), (oX8 s0 h0 a0 b0 e0), (oX2 b0 b1 b2 x y rl hd th)]) (va_runS (As := [.int i1, .int 1, .int 15]) (rest := [.ref x0]) ⟨hx, hb, hml, hown, hts⟩ (c_X10_within l g i1 1 15 H.size) (va_cwS 3 hts gX10_spy_X10_within rfl rfl rfl (by decide +kernel) ⟨Nat.le_of_ble_eq_true rfl, Nat.le_of_ble_eq_true rfl⟩) (he_preS (wc := []) hK hP hD hS hA hE [] rfl rfl) rfl rfl hl.1 rfl (lv_room (Nat.le_of_ble_eq_true rfl)) dX10_spy_5 ⟨(Nat.le_of_ble_eq_true rfl), (Nat.le_of_ble_eq_true rfl)⟩) hP hD hS hA [] [0, 1, 2] rfl rfl rfl (by decide) (fun r_1 u_2 H locs h_3 hP hD hS => ?_)
  subst h_3
  have hP : va_P g.1 vwCl [(oX10 x0 y0 ta z0 p0 dr pa to_ s0 im ki tr v0 rf), (oX8 s0 h0 a0 b0 e0), (oX2 b0 b1 b2 x y rl hd th)] H := hP
  have hD : va_D A [(oX10 x0 y0 ta z0 p0 dr pa to_ s0 im ki tr v0 rf), (oX8 s0 h0 a0 b0 e0), (oX2 b0 b1 b2 x y rl hd th)] := hD
  refine he_top (1) (he_within_1 hok0) ?_
  refine he_cv (wc := []) (wr := [(oX10 x0 y0 ta z0 p0 dr pa to_ s0 im ki tr v0 rf), (oX8 s0 h0 a0 b0 e0), (oX2 b0 b1 b2 x y rl hd th)]) (va_runV (As := [.int 1]) (rest := []) ⟨hx, hb, hml, hown, hts⟩ (c_X10_demand1 l g x0 H.size) (cwV 1 hts gX10_spy_X10_demand rfl rfl rfl (by decide +kernel) ⟨Nat.le_of_ble_eq_true rfl, Nat.le_of_ble_eq_true rfl⟩) (he_preV (wc := []) hK hP hD hS hA hE [] rfl rfl 0 rfl rfl) rfl rfl hl.1 rfl (lv_room (Nat.le_of_ble_eq_true rfl)) dX10_spy_8 ⟨(Nat.le_of_ble_eq_true rfl), (Nat.le_of_ble_eq_true rfl)⟩) hP hD hS hA [] [0, 1, 2] rfl rfl rfl (by decide) (fun u_5 H locs h_6 hP hD hS => ?_)
  have hP : va_P g.1 vwCl [(oX10 x0 y0 ta z0 p0 dr pa to_ s0 im ki tr v0 rf), (oX8 s0 h0 a0 b0 e0), (oX2 b0 b1 b2 x y rl hd th)] H := hP
  have hD : va_D A [(oX10 x0 y0 ta z0 p0 dr pa to_ s0 im ki tr v0 rf), (oX8 s0 h0 a0 b0 e0), (oX2 b0 b1 b2 x y rl hd th)] := hD
  refine lv_bipush (v := 16) hx hb dX10_spy_11 (by decide) ?_
  refine lv_iload_n hx hb dX10_spy_13 rfl (lv_at hl 2 rfl) ?_
  refine lv_isub hx hb dX10_spy_14 ?_
  refine lv_istore_n (lv' := [(3, .int (16 - i1)), (0, .ref x0), (1, .int 0), (2, .int i1)]) hx hb dX10_spy_15 rfl hl (by decide) rfl (fun ls hl => ?_)
  refine lv_iload_n hx hb dX10_spy_16 rfl (lv_at hl 2 rfl) ?_
  refine lv_if_eq (tgt := 35) hx hb dX10_spy_17 (by decide) (fun c_7 => ?_) (fun c_7 => ?_)
  · refine lv_aload_n hx hb dX10_spy_35 rfl (lv_at hl 1 rfl) ?_
    refine va_get (v := .ref s0) (T := TX10) (N := 13) hx hb hts inX10 hown hK hP 0 rfl rfl 7 (by decide) f39 (fun _ h9 => h9) rfl dX10_spy_36 ?_
    refine va_get (v := .ref b0) (T := TX8) (N := 4) hx hb hts inX8 hown hK hP 1 rfl rfl 2 (by decide) f189 (fun _ h9 => h9) rfl dX10_spy_39 ?_
    refine lv_iload_n hx hb dX10_spy_42 rfl (lv_at hl 0 rfl) ?_
    refine lv_iload_n hx hb dX10_spy_43 rfl (lv_at hl 3 rfl) ?_
    refine he_ci (wc := [(oX2 b0 b1 b2 x y rl hd th)]) (wr := [(oX10 x0 y0 ta z0 p0 dr pa to_ s0 im ki tr v0 rf), (oX8 s0 h0 a0 b0 e0)]) (va_runV (As := [.int (16 - i1), .int i1]) (rest := []) ⟨hx, hb, hml, hown, hts⟩ (g_X2_add l g b0 b1 b2 x y rl hd th (16 - i1) i1 (by first | assumption | decide | omega) H.size) (cwV 2 hts gX10_spy_X2_add rfl rfl rfl (by decide +kernel) ⟨Nat.le_of_ble_eq_true rfl, Nat.le_of_ble_eq_true rfl⟩) (he_preV (wc := [(oX2 b0 b1 b2 x y rl hd th)]) hK hP hD hS hA hE [2] rfl rfl 2 rfl rfl) rfl rfl hl.1 rfl (lv_room (Nat.le_of_ble_eq_true rfl)) dX10_spy_44 ⟨(Nat.le_of_ble_eq_true rfl), (Nat.le_of_ble_eq_true rfl)⟩) hP hD hS hA [2] [0, 1] rfl rfl rfl (by decide) (fun r_8 u_9 H locs h_10 hP hD hS => ?_)
    subst h_10
    have hP : va_P g.1 vwCl [(oX10 x0 y0 ta z0 p0 dr pa to_ s0 im ki tr v0 rf), (oX8 s0 h0 a0 b0 e0), (oX2 b0 b1 b2 x y (rl * Int32.toInt64 (16 - i1)) (hd * Int32.toInt64 i1) (th + 1))] H := hP
    have hD : va_D A [(oX10 x0 y0 ta z0 p0 dr pa to_ s0 im ki tr v0 rf), (oX8 s0 h0 a0 b0 e0), (oX2 b0 b1 b2 x y (rl * Int32.toInt64 (16 - i1)) (hd * Int32.toInt64 i1) (th + 1))] := hD
    exact he_ri hQ hx hb hr hlk hP hD hS dX10_spy_47 (Nat.le_of_ble_eq_true rfl) (Nat.le_of_ble_eq_true rfl) (()) (rfl) (rfl)
  · exact absurd (by decide) c_7
set_option maxHeartbeats 4000000 in
set_option maxRecDepth 100000 in
theorem g_X10_spy1 (l : Launch) (g : he_G) (x0 : Nat) (y0 : Nat) (z0 : Nat) (p0 : Nat) (dr : Nat) (pa : Nat) (s0 : Nat) (im : Nat) (tr : Nat) (v0 : Nat) (rf : Nat) (ta : Int32) (to_ : Int32) (ki : Int32) (h0 : Nat) (a0 : Nat) (e0 : Nat) (b0 : Nat) (b1 : Nat) (b2 : Nat) (x : Int32) (y : Int32) (rl : Int64) (hd : Int64) (th : Int32) (i1 : Int32) (hok0 : ¬ he_within i1 1 15 = 0) (hth : th < 12) : he_I l yX10_spy wsX10_spy 1 22 0 0 g [.ref x0, .int 1, .int i1] [(oX10 x0 y0 ta z0 p0 dr pa to_ s0 im ki tr v0 rf), (oX8 s0 h0 a0 b0 e0), (oX2 b0 b1 b2 x y rl hd th)] (fun (r : Int32) (u : Unit) => r = th + 1) (fun (u : Unit) => [(oX10 x0 y0 ta z0 p0 dr pa to_ s0 im ki tr v0 rf), (oX8 s0 h0 a0 b0 e0), (oX2 b0 b1 b2 x y (rl * Int32.toInt64 i1) (hd * Int32.toInt64 (16 - i1)) (th + 1))]) := by
  refine he_begin (l := l) (g := g) (y := yX10_spy) (wl := wsX10_spy) (fr := 1) (lo := 22) (mc := 0) (ms := 0) (av := [.ref x0, .int 1, .int i1]) (ws := [(oX10 x0 y0 ta z0 p0 dr pa to_ s0 im ki tr v0 rf), (oX8 s0 h0 a0 b0 e0), (oX2 b0 b1 b2 x y rl hd th)]) (cc := cX10_spy) (maxL := 4) (ret := (some .int)) (fun A => va_Qi (fun (r : Int32) (u : Unit) => r = th + 1) (fun u t => he_post g A ((fun (u : Unit) => [(oX10 x0 y0 ta z0 p0 dr pa to_ s0 im ki tr v0 rf), (oX8 s0 h0 a0 b0 e0), (oX2 b0 b1 b2 x y (rl * Int32.toInt64 i1) (hd * Int32.toInt64 (16 - i1)) (th + 1))]) u) t) A) (by decide) rfl (Nat.le_of_ble_eq_true rfl) ?_
  intro p e s m args below meth c A ls H locs Q hQ hB
  obtain ⟨hx, hb, hr, hml, hown, hts, hlk, hin, hP, hK, hD, hS, hA, hE, hl⟩ := hB
  have hl : lv_has ls 4 [(0, .ref x0), (1, .int 1), (2, .int i1)] := hl
  have f39 := hts (.fieldLink RX10 39 "HiredEnemy" "scene" "LHiredEnemy$Scene;") (iwoX10_spy (k := 0) rfl)
  have inX10 : ∀ w ∈ wsX100, w ∈ wsX10_spy := innX10_spy_X10
  have f189 := hts (.fieldLink RX10 189 "HiredEnemy$Scene" "belief" "LHiredEnemy$Belief;") (iwoX10_spy (k := 1) rfl)
  have inX8 : ∀ w ∈ wsX80, w ∈ wsX10_spy := innX10_spy_X8
  refine lv_aload_n hx hb dX10_spy_0 rfl (lv_at hl 0 rfl) ?_
  refine lv_iload_n hx hb dX10_spy_1 rfl (lv_at hl 2 rfl) ?_
  refine lv_iconst (v := 1) hx hb dX10_spy_2 (by decide) ?_
  refine lv_bipush (v := 15) hx hb dX10_spy_3 (by decide) ?_
  refine he_ci (wc := []) (wr := [(oX10 x0 y0 ta z0 p0 dr pa to_ s0 im ki tr v0 rf), (oX8 s0 h0 a0 b0 e0), (oX2 b0 b1 b2 x y rl hd th)]) (va_runS (As := [.int i1, .int 1, .int 15]) (rest := [.ref x0]) ⟨hx, hb, hml, hown, hts⟩ (c_X10_within l g i1 1 15 H.size) (va_cwS 3 hts gX10_spy_X10_within rfl rfl rfl (by decide +kernel) ⟨Nat.le_of_ble_eq_true rfl, Nat.le_of_ble_eq_true rfl⟩) (he_preS (wc := []) hK hP hD hS hA hE [] rfl rfl) rfl rfl hl.1 rfl (lv_room (Nat.le_of_ble_eq_true rfl)) dX10_spy_5 ⟨(Nat.le_of_ble_eq_true rfl), (Nat.le_of_ble_eq_true rfl)⟩) hP hD hS hA [] [0, 1, 2] rfl rfl rfl (by decide) (fun r_1 u_2 H locs h_3 hP hD hS => ?_)
  subst h_3
  have hP : va_P g.1 vwCl [(oX10 x0 y0 ta z0 p0 dr pa to_ s0 im ki tr v0 rf), (oX8 s0 h0 a0 b0 e0), (oX2 b0 b1 b2 x y rl hd th)] H := hP
  have hD : va_D A [(oX10 x0 y0 ta z0 p0 dr pa to_ s0 im ki tr v0 rf), (oX8 s0 h0 a0 b0 e0), (oX2 b0 b1 b2 x y rl hd th)] := hD
  refine he_top (1) (he_within_1 hok0) ?_
  refine he_cv (wc := []) (wr := [(oX10 x0 y0 ta z0 p0 dr pa to_ s0 im ki tr v0 rf), (oX8 s0 h0 a0 b0 e0), (oX2 b0 b1 b2 x y rl hd th)]) (va_runV (As := [.int 1]) (rest := []) ⟨hx, hb, hml, hown, hts⟩ (c_X10_demand1 l g x0 H.size) (cwV 1 hts gX10_spy_X10_demand rfl rfl rfl (by decide +kernel) ⟨Nat.le_of_ble_eq_true rfl, Nat.le_of_ble_eq_true rfl⟩) (he_preV (wc := []) hK hP hD hS hA hE [] rfl rfl 0 rfl rfl) rfl rfl hl.1 rfl (lv_room (Nat.le_of_ble_eq_true rfl)) dX10_spy_8 ⟨(Nat.le_of_ble_eq_true rfl), (Nat.le_of_ble_eq_true rfl)⟩) hP hD hS hA [] [0, 1, 2] rfl rfl rfl (by decide) (fun u_5 H locs h_6 hP hD hS => ?_)
  have hP : va_P g.1 vwCl [(oX10 x0 y0 ta z0 p0 dr pa to_ s0 im ki tr v0 rf), (oX8 s0 h0 a0 b0 e0), (oX2 b0 b1 b2 x y rl hd th)] H := hP
  have hD : va_D A [(oX10 x0 y0 ta z0 p0 dr pa to_ s0 im ki tr v0 rf), (oX8 s0 h0 a0 b0 e0), (oX2 b0 b1 b2 x y rl hd th)] := hD
  refine lv_bipush (v := 16) hx hb dX10_spy_11 (by decide) ?_
  refine lv_iload_n hx hb dX10_spy_13 rfl (lv_at hl 2 rfl) ?_
  refine lv_isub hx hb dX10_spy_14 ?_
  refine lv_istore_n (lv' := [(3, .int (16 - i1)), (0, .ref x0), (1, .int 1), (2, .int i1)]) hx hb dX10_spy_15 rfl hl (by decide) rfl (fun ls hl => ?_)
  refine lv_iload_n hx hb dX10_spy_16 rfl (lv_at hl 2 rfl) ?_
  refine lv_if_eq (tgt := 35) hx hb dX10_spy_17 (by decide) (fun c_7 => ?_) (fun c_7 => ?_)
  · exact absurd c_7 (by decide)
  · refine lv_aload_n hx hb dX10_spy_20 rfl (lv_at hl 1 rfl) ?_
    refine va_get (v := .ref s0) (T := TX10) (N := 13) hx hb hts inX10 hown hK hP 0 rfl rfl 7 (by decide) f39 (fun _ h9 => h9) rfl dX10_spy_21 ?_
    refine va_get (v := .ref b0) (T := TX8) (N := 4) hx hb hts inX8 hown hK hP 1 rfl rfl 2 (by decide) f189 (fun _ h9 => h9) rfl dX10_spy_24 ?_
    refine lv_iload_n hx hb dX10_spy_27 rfl (lv_at hl 3 rfl) ?_
    refine lv_iload_n hx hb dX10_spy_28 rfl (lv_at hl 0 rfl) ?_
    refine he_ci (wc := [(oX2 b0 b1 b2 x y rl hd th)]) (wr := [(oX10 x0 y0 ta z0 p0 dr pa to_ s0 im ki tr v0 rf), (oX8 s0 h0 a0 b0 e0)]) (va_runV (As := [.int i1, .int (16 - i1)]) (rest := []) ⟨hx, hb, hml, hown, hts⟩ (g_X2_add l g b0 b1 b2 x y rl hd th i1 (16 - i1) (by first | assumption | decide | omega) H.size) (cwV 2 hts gX10_spy_X2_add rfl rfl rfl (by decide +kernel) ⟨Nat.le_of_ble_eq_true rfl, Nat.le_of_ble_eq_true rfl⟩) (he_preV (wc := [(oX2 b0 b1 b2 x y rl hd th)]) hK hP hD hS hA hE [2] rfl rfl 2 rfl rfl) rfl rfl hl.1 rfl (lv_room (Nat.le_of_ble_eq_true rfl)) dX10_spy_29 ⟨(Nat.le_of_ble_eq_true rfl), (Nat.le_of_ble_eq_true rfl)⟩) hP hD hS hA [2] [0, 1] rfl rfl rfl (by decide) (fun r_8 u_9 H locs h_10 hP hD hS => ?_)
    subst h_10
    have hP : va_P g.1 vwCl [(oX10 x0 y0 ta z0 p0 dr pa to_ s0 im ki tr v0 rf), (oX8 s0 h0 a0 b0 e0), (oX2 b0 b1 b2 x y (rl * Int32.toInt64 i1) (hd * Int32.toInt64 (16 - i1)) (th + 1))] H := hP
    have hD : va_D A [(oX10 x0 y0 ta z0 p0 dr pa to_ s0 im ki tr v0 rf), (oX8 s0 h0 a0 b0 e0), (oX2 b0 b1 b2 x y (rl * Int32.toInt64 i1) (hd * Int32.toInt64 (16 - i1)) (th + 1))] := hD
    refine lv_goto (tgt := 47) hx hb dX10_spy_32 (by decide) ?_
    exact he_ri hQ hx hb hr hlk hP hD hS dX10_spy_47 (Nat.le_of_ble_eq_true rfl) (Nat.le_of_ble_eq_true rfl) (()) (rfl) (rfl)
set_option maxHeartbeats 4000000 in
set_option maxRecDepth 100000 in
theorem g_X10_seenF (l : Launch) (g : he_G) (x0 : Nat) (y0 : Nat) (z0 : Nat) (p0 : Nat) (dr : Nat) (pa : Nat) (s0 : Nat) (im : Nat) (tr : Nat) (v0 : Nat) (rf : Nat) (ta : Int32) (to_ : Int32) (ki : Int32) (h0 : Nat) (a0 : Nat) (e0 : Nat) (b0 : Nat) (b1 : Nat) (b2 : Nat) (x : Int32) (y : Int32) (rl : Int64) (hd : Int64) (th : Int32) (fr : Nat → Int32) (fh : Nat → Int32) (i1 : Int32) (hok0 : ¬ he_within i1 0 3 = 0) (hth : ¬ th < 12) : he_I l yX10_seen wsX10_seen 1 22 0 0 g [.ref x0, .int i1] [(oX10 x0 y0 ta z0 p0 dr pa to_ s0 im ki tr v0 rf), (oX8 s0 h0 a0 b0 e0), (oX2 b0 b1 b2 x y rl hd th), (aI g b1 4 fr), (aI g b2 4 fh)] (fun (r : Int32) (u : Unit) => r = (-1)) (fun (u : Unit) => [(oX10 x0 y0 ta z0 p0 dr pa to_ s0 im ki tr v0 rf), (oX8 s0 h0 a0 b0 e0), (oX2 b0 b1 b2 x y rl hd th), (aI g b1 4 fr), (aI g b2 4 fh)]) := by
  refine he_begin (l := l) (g := g) (y := yX10_seen) (wl := wsX10_seen) (fr := 1) (lo := 22) (mc := 0) (ms := 0) (av := [.ref x0, .int i1]) (ws := [(oX10 x0 y0 ta z0 p0 dr pa to_ s0 im ki tr v0 rf), (oX8 s0 h0 a0 b0 e0), (oX2 b0 b1 b2 x y rl hd th), (aI g b1 4 fr), (aI g b2 4 fh)]) (cc := cX10_seen) (maxL := 3) (ret := (some .int)) (fun A => va_Qi (fun (r : Int32) (u : Unit) => r = (-1)) (fun u t => he_post g A ((fun (u : Unit) => [(oX10 x0 y0 ta z0 p0 dr pa to_ s0 im ki tr v0 rf), (oX8 s0 h0 a0 b0 e0), (oX2 b0 b1 b2 x y rl hd th), (aI g b1 4 fr), (aI g b2 4 fh)]) u) t) A) (by decide) rfl (Nat.le_of_ble_eq_true rfl) ?_
  intro p e s m args below meth c A ls H locs Q hQ hB
  obtain ⟨hx, hb, hr, hml, hown, hts, hlk, hin, hP, hK, hD, hS, hA, hE, hl⟩ := hB
  have hl : lv_has ls 3 [(0, .ref x0), (1, .int i1)] := hl
  have f39 := hts (.fieldLink RX10 39 "HiredEnemy" "scene" "LHiredEnemy$Scene;") (iwoX10_seen (k := 0) rfl)
  have inX10 : ∀ w ∈ wsX100, w ∈ wsX10_seen := innX10_seen_X10
  have f189 := hts (.fieldLink RX10 189 "HiredEnemy$Scene" "belief" "LHiredEnemy$Belief;") (iwoX10_seen (k := 1) rfl)
  have inX8 : ∀ w ∈ wsX80, w ∈ wsX10_seen := innX10_seen_X8
  have f199 := hts (.fieldLink RX10 199 "HiredEnemy$Belief" "ifReal" "[I") (iwoX10_seen (k := 2) rfl)
  have inX2 : ∀ w ∈ wsX20, w ∈ wsX10_seen := innX10_seen_X2
  have f202 := hts (.fieldLink RX10 202 "HiredEnemy$Belief" "ifHired" "[I") (iwoX10_seen (k := 3) rfl)
  refine lv_aload_n hx hb dX10_seen_0 rfl (lv_at hl 0 rfl) ?_
  refine lv_iload_n hx hb dX10_seen_1 rfl (lv_at hl 1 rfl) ?_
  refine lv_iconst (v := 0) hx hb dX10_seen_2 (by decide) ?_
  refine lv_iconst (v := 3) hx hb dX10_seen_3 (by decide) ?_
  refine he_ci (wc := []) (wr := [(oX10 x0 y0 ta z0 p0 dr pa to_ s0 im ki tr v0 rf), (oX8 s0 h0 a0 b0 e0), (oX2 b0 b1 b2 x y rl hd th), (aI g b1 4 fr), (aI g b2 4 fh)]) (va_runS (As := [.int i1, .int 0, .int 3]) (rest := [.ref x0]) ⟨hx, hb, hml, hown, hts⟩ (c_X10_within l g i1 0 3 H.size) (va_cwS 3 hts gX10_seen_X10_within rfl rfl rfl (by decide +kernel) ⟨Nat.le_of_ble_eq_true rfl, Nat.le_of_ble_eq_true rfl⟩) (he_preS (wc := []) hK hP hD hS hA hE [] rfl rfl) rfl rfl hl.1 rfl (lv_room (Nat.le_of_ble_eq_true rfl)) dX10_seen_4 ⟨(Nat.le_of_ble_eq_true rfl), (Nat.le_of_ble_eq_true rfl)⟩) hP hD hS hA [] [0, 1, 2, 3, 4] rfl rfl rfl (by decide) (fun r_1 u_2 H locs h_3 hP hD hS => ?_)
  subst h_3
  have hP : va_P g.1 vwCl [(oX10 x0 y0 ta z0 p0 dr pa to_ s0 im ki tr v0 rf), (oX8 s0 h0 a0 b0 e0), (oX2 b0 b1 b2 x y rl hd th), (aI g b1 4 fr), (aI g b2 4 fh)] H := hP
  have hD : va_D A [(oX10 x0 y0 ta z0 p0 dr pa to_ s0 im ki tr v0 rf), (oX8 s0 h0 a0 b0 e0), (oX2 b0 b1 b2 x y rl hd th), (aI g b1 4 fr), (aI g b2 4 fh)] := hD
  refine he_top (1) (he_within_1 hok0) ?_
  refine he_cv (wc := []) (wr := [(oX10 x0 y0 ta z0 p0 dr pa to_ s0 im ki tr v0 rf), (oX8 s0 h0 a0 b0 e0), (oX2 b0 b1 b2 x y rl hd th), (aI g b1 4 fr), (aI g b2 4 fh)]) (va_runV (As := [.int 1]) (rest := []) ⟨hx, hb, hml, hown, hts⟩ (c_X10_demand1 l g x0 H.size) (cwV 1 hts gX10_seen_X10_demand rfl rfl rfl (by decide +kernel) ⟨Nat.le_of_ble_eq_true rfl, Nat.le_of_ble_eq_true rfl⟩) (he_preV (wc := []) hK hP hD hS hA hE [] rfl rfl 0 rfl rfl) rfl rfl hl.1 rfl (lv_room (Nat.le_of_ble_eq_true rfl)) dX10_seen_7 ⟨(Nat.le_of_ble_eq_true rfl), (Nat.le_of_ble_eq_true rfl)⟩) hP hD hS hA [] [0, 1, 2, 3, 4] rfl rfl rfl (by decide) (fun u_5 H locs h_6 hP hD hS => ?_)
  have hP : va_P g.1 vwCl [(oX10 x0 y0 ta z0 p0 dr pa to_ s0 im ki tr v0 rf), (oX8 s0 h0 a0 b0 e0), (oX2 b0 b1 b2 x y rl hd th), (aI g b1 4 fr), (aI g b2 4 fh)] H := hP
  have hD : va_D A [(oX10 x0 y0 ta z0 p0 dr pa to_ s0 im ki tr v0 rf), (oX8 s0 h0 a0 b0 e0), (oX2 b0 b1 b2 x y rl hd th), (aI g b1 4 fr), (aI g b2 4 fh)] := hD
  refine lv_aload_n hx hb dX10_seen_10 rfl (lv_at hl 0 rfl) ?_
  refine va_get (v := .ref s0) (T := TX10) (N := 13) hx hb hts inX10 hown hK hP 0 rfl rfl 7 (by decide) f39 (fun _ h9 => h9) rfl dX10_seen_11 ?_
  refine va_get (v := .ref b0) (T := TX8) (N := 4) hx hb hts inX8 hown hK hP 1 rfl rfl 2 (by decide) f189 (fun _ h9 => h9) rfl dX10_seen_14 ?_
  refine lv_astore_n (lv' := [(2, .ref b0), (0, .ref x0), (1, .int i1)]) hx hb dX10_seen_17 rfl hl (by decide) rfl (fun ls hl => ?_)
  refine lv_aload_n hx hb dX10_seen_18 rfl (lv_at hl 0 rfl) ?_
  refine lv_aload_n hx hb dX10_seen_19 rfl (lv_at hl 0 rfl) ?_
  refine va_get (v := .ref b1) (T := TX2) (N := 7) hx hb hts inX2 hown hK hP 2 rfl rfl 0 (by decide) f199 (fun _ h9 => h9) rfl dX10_seen_20 ?_
  refine lv_iload_n hx hb dX10_seen_23 rfl (lv_at hl 2 rfl) ?_
  refine he_iald hx hb hK hP 3 rfl (i1.toNatClampNeg) (he_within_nat (B := 3) rfl (by decide) hok0).1 (Nat.lt_of_le_of_lt (he_within_nat (B := 3) rfl (by decide) hok0).2 (by decide)) (by first | decide | assumption) (fr i1.toNatClampNeg) rfl dX10_seen_24 ?_
  refine lv_aload_n hx hb dX10_seen_25 rfl (lv_at hl 0 rfl) ?_
  refine va_get (v := .ref b2) (T := TX2) (N := 7) hx hb hts inX2 hown hK hP 2 rfl rfl 1 (by decide) f202 (fun _ h9 => h9) rfl dX10_seen_26 ?_
  refine lv_iload_n hx hb dX10_seen_29 rfl (lv_at hl 2 rfl) ?_
  refine he_iald hx hb hK hP 4 rfl (i1.toNatClampNeg) (he_within_nat (B := 3) rfl (by decide) hok0).1 (Nat.lt_of_le_of_lt (he_within_nat (B := 3) rfl (by decide) hok0).2 (by decide)) (by first | decide | assumption) (fh i1.toNatClampNeg) rfl dX10_seen_30 ?_
  refine he_ci (wc := [(oX2 b0 b1 b2 x y rl hd th)]) (wr := [(oX10 x0 y0 ta z0 p0 dr pa to_ s0 im ki tr v0 rf), (oX8 s0 h0 a0 b0 e0), (aI g b1 4 fr), (aI g b2 4 fh)]) (va_runV (As := [.int (fr i1.toNatClampNeg), .int (fh i1.toNatClampNeg)]) (rest := []) ⟨hx, hb, hml, hown, hts⟩ (g_X2_addF l g b0 b1 b2 x y rl hd th (fr i1.toNatClampNeg) (fh i1.toNatClampNeg) (by first | assumption | decide | omega) H.size) (cwV 2 hts gX10_seen_X2_add rfl rfl rfl (by decide +kernel) ⟨Nat.le_of_ble_eq_true rfl, Nat.le_of_ble_eq_true rfl⟩) (he_preV (wc := [(oX2 b0 b1 b2 x y rl hd th)]) hK hP hD hS hA hE [2] rfl rfl 2 rfl rfl) rfl rfl hl.1 rfl (lv_room (Nat.le_of_ble_eq_true rfl)) dX10_seen_31 ⟨(Nat.le_of_ble_eq_true rfl), (Nat.le_of_ble_eq_true rfl)⟩) hP hD hS hA [2] [0, 1, 3, 4] rfl rfl rfl (by decide) (fun r_7 u_8 H locs h_9 hP hD hS => ?_)
  subst h_9
  have hP : va_P g.1 vwCl [(oX10 x0 y0 ta z0 p0 dr pa to_ s0 im ki tr v0 rf), (oX8 s0 h0 a0 b0 e0), (aI g b1 4 fr), (aI g b2 4 fh), (oX2 b0 b1 b2 x y rl hd th)] H := hP
  have hD : va_D A [(oX10 x0 y0 ta z0 p0 dr pa to_ s0 im ki tr v0 rf), (oX8 s0 h0 a0 b0 e0), (aI g b1 4 fr), (aI g b2 4 fh), (oX2 b0 b1 b2 x y rl hd th)] := hD
  have hP := hP.sub (ws' := [(oX10 x0 y0 ta z0 p0 dr pa to_ s0 im ki tr v0 rf), (oX8 s0 h0 a0 b0 e0), (oX2 b0 b1 b2 x y rl hd th), (aI g b1 4 fr), (aI g b2 4 fh)]) [0, 1, 4, 2, 3] rfl
  have hD := hD.sub (ws' := [(oX10 x0 y0 ta z0 p0 dr pa to_ s0 im ki tr v0 rf), (oX8 s0 h0 a0 b0 e0), (oX2 b0 b1 b2 x y rl hd th), (aI g b1 4 fr), (aI g b2 4 fh)]) [0, 1, 4, 2, 3] (by decide) rfl
  exact he_ri hQ hx hb hr hlk hP hD hS dX10_seen_34 (Nat.le_of_ble_eq_true rfl) (Nat.le_of_ble_eq_true rfl) (()) (rfl) (rfl)
set_option maxHeartbeats 4000000 in
set_option maxRecDepth 100000 in
theorem g_X10_spyF0 (l : Launch) (g : he_G) (x0 : Nat) (y0 : Nat) (z0 : Nat) (p0 : Nat) (dr : Nat) (pa : Nat) (s0 : Nat) (im : Nat) (tr : Nat) (v0 : Nat) (rf : Nat) (ta : Int32) (to_ : Int32) (ki : Int32) (h0 : Nat) (a0 : Nat) (e0 : Nat) (b0 : Nat) (b1 : Nat) (b2 : Nat) (x : Int32) (y : Int32) (rl : Int64) (hd : Int64) (th : Int32) (i1 : Int32) (hok0 : ¬ he_within i1 1 15 = 0) (hth : ¬ th < 12) : he_I l yX10_spy wsX10_spy 1 22 0 0 g [.ref x0, .int 0, .int i1] [(oX10 x0 y0 ta z0 p0 dr pa to_ s0 im ki tr v0 rf), (oX8 s0 h0 a0 b0 e0), (oX2 b0 b1 b2 x y rl hd th)] (fun (r : Int32) (u : Unit) => r = (-1)) (fun (u : Unit) => [(oX10 x0 y0 ta z0 p0 dr pa to_ s0 im ki tr v0 rf), (oX8 s0 h0 a0 b0 e0), (oX2 b0 b1 b2 x y rl hd th)]) := by
  refine he_begin (l := l) (g := g) (y := yX10_spy) (wl := wsX10_spy) (fr := 1) (lo := 22) (mc := 0) (ms := 0) (av := [.ref x0, .int 0, .int i1]) (ws := [(oX10 x0 y0 ta z0 p0 dr pa to_ s0 im ki tr v0 rf), (oX8 s0 h0 a0 b0 e0), (oX2 b0 b1 b2 x y rl hd th)]) (cc := cX10_spy) (maxL := 4) (ret := (some .int)) (fun A => va_Qi (fun (r : Int32) (u : Unit) => r = (-1)) (fun u t => he_post g A ((fun (u : Unit) => [(oX10 x0 y0 ta z0 p0 dr pa to_ s0 im ki tr v0 rf), (oX8 s0 h0 a0 b0 e0), (oX2 b0 b1 b2 x y rl hd th)]) u) t) A) (by decide) rfl (Nat.le_of_ble_eq_true rfl) ?_
  intro p e s m args below meth c A ls H locs Q hQ hB
  obtain ⟨hx, hb, hr, hml, hown, hts, hlk, hin, hP, hK, hD, hS, hA, hE, hl⟩ := hB
  have hl : lv_has ls 4 [(0, .ref x0), (1, .int 0), (2, .int i1)] := hl
  have f39 := hts (.fieldLink RX10 39 "HiredEnemy" "scene" "LHiredEnemy$Scene;") (iwoX10_spy (k := 0) rfl)
  have inX10 : ∀ w ∈ wsX100, w ∈ wsX10_spy := innX10_spy_X10
  have f189 := hts (.fieldLink RX10 189 "HiredEnemy$Scene" "belief" "LHiredEnemy$Belief;") (iwoX10_spy (k := 1) rfl)
  have inX8 : ∀ w ∈ wsX80, w ∈ wsX10_spy := innX10_spy_X8
  refine lv_aload_n hx hb dX10_spy_0 rfl (lv_at hl 0 rfl) ?_
  refine lv_iload_n hx hb dX10_spy_1 rfl (lv_at hl 2 rfl) ?_
  refine lv_iconst (v := 1) hx hb dX10_spy_2 (by decide) ?_
  refine lv_bipush (v := 15) hx hb dX10_spy_3 (by decide) ?_
  refine he_ci (wc := []) (wr := [(oX10 x0 y0 ta z0 p0 dr pa to_ s0 im ki tr v0 rf), (oX8 s0 h0 a0 b0 e0), (oX2 b0 b1 b2 x y rl hd th)]) (va_runS (As := [.int i1, .int 1, .int 15]) (rest := [.ref x0]) ⟨hx, hb, hml, hown, hts⟩ (c_X10_within l g i1 1 15 H.size) (va_cwS 3 hts gX10_spy_X10_within rfl rfl rfl (by decide +kernel) ⟨Nat.le_of_ble_eq_true rfl, Nat.le_of_ble_eq_true rfl⟩) (he_preS (wc := []) hK hP hD hS hA hE [] rfl rfl) rfl rfl hl.1 rfl (lv_room (Nat.le_of_ble_eq_true rfl)) dX10_spy_5 ⟨(Nat.le_of_ble_eq_true rfl), (Nat.le_of_ble_eq_true rfl)⟩) hP hD hS hA [] [0, 1, 2] rfl rfl rfl (by decide) (fun r_1 u_2 H locs h_3 hP hD hS => ?_)
  subst h_3
  have hP : va_P g.1 vwCl [(oX10 x0 y0 ta z0 p0 dr pa to_ s0 im ki tr v0 rf), (oX8 s0 h0 a0 b0 e0), (oX2 b0 b1 b2 x y rl hd th)] H := hP
  have hD : va_D A [(oX10 x0 y0 ta z0 p0 dr pa to_ s0 im ki tr v0 rf), (oX8 s0 h0 a0 b0 e0), (oX2 b0 b1 b2 x y rl hd th)] := hD
  refine he_top (1) (he_within_1 hok0) ?_
  refine he_cv (wc := []) (wr := [(oX10 x0 y0 ta z0 p0 dr pa to_ s0 im ki tr v0 rf), (oX8 s0 h0 a0 b0 e0), (oX2 b0 b1 b2 x y rl hd th)]) (va_runV (As := [.int 1]) (rest := []) ⟨hx, hb, hml, hown, hts⟩ (c_X10_demand1 l g x0 H.size) (cwV 1 hts gX10_spy_X10_demand rfl rfl rfl (by decide +kernel) ⟨Nat.le_of_ble_eq_true rfl, Nat.le_of_ble_eq_true rfl⟩) (he_preV (wc := []) hK hP hD hS hA hE [] rfl rfl 0 rfl rfl) rfl rfl hl.1 rfl (lv_room (Nat.le_of_ble_eq_true rfl)) dX10_spy_8 ⟨(Nat.le_of_ble_eq_true rfl), (Nat.le_of_ble_eq_true rfl)⟩) hP hD hS hA [] [0, 1, 2] rfl rfl rfl (by decide) (fun u_5 H locs h_6 hP hD hS => ?_)
  have hP : va_P g.1 vwCl [(oX10 x0 y0 ta z0 p0 dr pa to_ s0 im ki tr v0 rf), (oX8 s0 h0 a0 b0 e0), (oX2 b0 b1 b2 x y rl hd th)] H := hP
  have hD : va_D A [(oX10 x0 y0 ta z0 p0 dr pa to_ s0 im ki tr v0 rf), (oX8 s0 h0 a0 b0 e0), (oX2 b0 b1 b2 x y rl hd th)] := hD
  refine lv_bipush (v := 16) hx hb dX10_spy_11 (by decide) ?_
  refine lv_iload_n hx hb dX10_spy_13 rfl (lv_at hl 2 rfl) ?_
  refine lv_isub hx hb dX10_spy_14 ?_
  refine lv_istore_n (lv' := [(3, .int (16 - i1)), (0, .ref x0), (1, .int 0), (2, .int i1)]) hx hb dX10_spy_15 rfl hl (by decide) rfl (fun ls hl => ?_)
  refine lv_iload_n hx hb dX10_spy_16 rfl (lv_at hl 2 rfl) ?_
  refine lv_if_eq (tgt := 35) hx hb dX10_spy_17 (by decide) (fun c_7 => ?_) (fun c_7 => ?_)
  · refine lv_aload_n hx hb dX10_spy_35 rfl (lv_at hl 1 rfl) ?_
    refine va_get (v := .ref s0) (T := TX10) (N := 13) hx hb hts inX10 hown hK hP 0 rfl rfl 7 (by decide) f39 (fun _ h9 => h9) rfl dX10_spy_36 ?_
    refine va_get (v := .ref b0) (T := TX8) (N := 4) hx hb hts inX8 hown hK hP 1 rfl rfl 2 (by decide) f189 (fun _ h9 => h9) rfl dX10_spy_39 ?_
    refine lv_iload_n hx hb dX10_spy_42 rfl (lv_at hl 0 rfl) ?_
    refine lv_iload_n hx hb dX10_spy_43 rfl (lv_at hl 3 rfl) ?_
    refine he_ci (wc := [(oX2 b0 b1 b2 x y rl hd th)]) (wr := [(oX10 x0 y0 ta z0 p0 dr pa to_ s0 im ki tr v0 rf), (oX8 s0 h0 a0 b0 e0)]) (va_runV (As := [.int (16 - i1), .int i1]) (rest := []) ⟨hx, hb, hml, hown, hts⟩ (g_X2_addF l g b0 b1 b2 x y rl hd th (16 - i1) i1 (by first | assumption | decide | omega) H.size) (cwV 2 hts gX10_spy_X2_add rfl rfl rfl (by decide +kernel) ⟨Nat.le_of_ble_eq_true rfl, Nat.le_of_ble_eq_true rfl⟩) (he_preV (wc := [(oX2 b0 b1 b2 x y rl hd th)]) hK hP hD hS hA hE [2] rfl rfl 2 rfl rfl) rfl rfl hl.1 rfl (lv_room (Nat.le_of_ble_eq_true rfl)) dX10_spy_44 ⟨(Nat.le_of_ble_eq_true rfl), (Nat.le_of_ble_eq_true rfl)⟩) hP hD hS hA [2] [0, 1] rfl rfl rfl (by decide) (fun r_8 u_9 H locs h_10 hP hD hS => ?_)
    subst h_10
    have hP : va_P g.1 vwCl [(oX10 x0 y0 ta z0 p0 dr pa to_ s0 im ki tr v0 rf), (oX8 s0 h0 a0 b0 e0), (oX2 b0 b1 b2 x y rl hd th)] H := hP
    have hD : va_D A [(oX10 x0 y0 ta z0 p0 dr pa to_ s0 im ki tr v0 rf), (oX8 s0 h0 a0 b0 e0), (oX2 b0 b1 b2 x y rl hd th)] := hD
    exact he_ri hQ hx hb hr hlk hP hD hS dX10_spy_47 (Nat.le_of_ble_eq_true rfl) (Nat.le_of_ble_eq_true rfl) (()) (rfl) (rfl)
  · exact absurd (by decide) c_7
set_option maxHeartbeats 4000000 in
set_option maxRecDepth 100000 in
theorem g_X10_spyF1 (l : Launch) (g : he_G) (x0 : Nat) (y0 : Nat) (z0 : Nat) (p0 : Nat) (dr : Nat) (pa : Nat) (s0 : Nat) (im : Nat) (tr : Nat) (v0 : Nat) (rf : Nat) (ta : Int32) (to_ : Int32) (ki : Int32) (h0 : Nat) (a0 : Nat) (e0 : Nat) (b0 : Nat) (b1 : Nat) (b2 : Nat) (x : Int32) (y : Int32) (rl : Int64) (hd : Int64) (th : Int32) (i1 : Int32) (hok0 : ¬ he_within i1 1 15 = 0) (hth : ¬ th < 12) : he_I l yX10_spy wsX10_spy 1 22 0 0 g [.ref x0, .int 1, .int i1] [(oX10 x0 y0 ta z0 p0 dr pa to_ s0 im ki tr v0 rf), (oX8 s0 h0 a0 b0 e0), (oX2 b0 b1 b2 x y rl hd th)] (fun (r : Int32) (u : Unit) => r = (-1)) (fun (u : Unit) => [(oX10 x0 y0 ta z0 p0 dr pa to_ s0 im ki tr v0 rf), (oX8 s0 h0 a0 b0 e0), (oX2 b0 b1 b2 x y rl hd th)]) := by
  refine he_begin (l := l) (g := g) (y := yX10_spy) (wl := wsX10_spy) (fr := 1) (lo := 22) (mc := 0) (ms := 0) (av := [.ref x0, .int 1, .int i1]) (ws := [(oX10 x0 y0 ta z0 p0 dr pa to_ s0 im ki tr v0 rf), (oX8 s0 h0 a0 b0 e0), (oX2 b0 b1 b2 x y rl hd th)]) (cc := cX10_spy) (maxL := 4) (ret := (some .int)) (fun A => va_Qi (fun (r : Int32) (u : Unit) => r = (-1)) (fun u t => he_post g A ((fun (u : Unit) => [(oX10 x0 y0 ta z0 p0 dr pa to_ s0 im ki tr v0 rf), (oX8 s0 h0 a0 b0 e0), (oX2 b0 b1 b2 x y rl hd th)]) u) t) A) (by decide) rfl (Nat.le_of_ble_eq_true rfl) ?_
  intro p e s m args below meth c A ls H locs Q hQ hB
  obtain ⟨hx, hb, hr, hml, hown, hts, hlk, hin, hP, hK, hD, hS, hA, hE, hl⟩ := hB
  have hl : lv_has ls 4 [(0, .ref x0), (1, .int 1), (2, .int i1)] := hl
  have f39 := hts (.fieldLink RX10 39 "HiredEnemy" "scene" "LHiredEnemy$Scene;") (iwoX10_spy (k := 0) rfl)
  have inX10 : ∀ w ∈ wsX100, w ∈ wsX10_spy := innX10_spy_X10
  have f189 := hts (.fieldLink RX10 189 "HiredEnemy$Scene" "belief" "LHiredEnemy$Belief;") (iwoX10_spy (k := 1) rfl)
  have inX8 : ∀ w ∈ wsX80, w ∈ wsX10_spy := innX10_spy_X8
  refine lv_aload_n hx hb dX10_spy_0 rfl (lv_at hl 0 rfl) ?_
  refine lv_iload_n hx hb dX10_spy_1 rfl (lv_at hl 2 rfl) ?_
  refine lv_iconst (v := 1) hx hb dX10_spy_2 (by decide) ?_
  refine lv_bipush (v := 15) hx hb dX10_spy_3 (by decide) ?_
  refine he_ci (wc := []) (wr := [(oX10 x0 y0 ta z0 p0 dr pa to_ s0 im ki tr v0 rf), (oX8 s0 h0 a0 b0 e0), (oX2 b0 b1 b2 x y rl hd th)]) (va_runS (As := [.int i1, .int 1, .int 15]) (rest := [.ref x0]) ⟨hx, hb, hml, hown, hts⟩ (c_X10_within l g i1 1 15 H.size) (va_cwS 3 hts gX10_spy_X10_within rfl rfl rfl (by decide +kernel) ⟨Nat.le_of_ble_eq_true rfl, Nat.le_of_ble_eq_true rfl⟩) (he_preS (wc := []) hK hP hD hS hA hE [] rfl rfl) rfl rfl hl.1 rfl (lv_room (Nat.le_of_ble_eq_true rfl)) dX10_spy_5 ⟨(Nat.le_of_ble_eq_true rfl), (Nat.le_of_ble_eq_true rfl)⟩) hP hD hS hA [] [0, 1, 2] rfl rfl rfl (by decide) (fun r_1 u_2 H locs h_3 hP hD hS => ?_)
  subst h_3
  have hP : va_P g.1 vwCl [(oX10 x0 y0 ta z0 p0 dr pa to_ s0 im ki tr v0 rf), (oX8 s0 h0 a0 b0 e0), (oX2 b0 b1 b2 x y rl hd th)] H := hP
  have hD : va_D A [(oX10 x0 y0 ta z0 p0 dr pa to_ s0 im ki tr v0 rf), (oX8 s0 h0 a0 b0 e0), (oX2 b0 b1 b2 x y rl hd th)] := hD
  refine he_top (1) (he_within_1 hok0) ?_
  refine he_cv (wc := []) (wr := [(oX10 x0 y0 ta z0 p0 dr pa to_ s0 im ki tr v0 rf), (oX8 s0 h0 a0 b0 e0), (oX2 b0 b1 b2 x y rl hd th)]) (va_runV (As := [.int 1]) (rest := []) ⟨hx, hb, hml, hown, hts⟩ (c_X10_demand1 l g x0 H.size) (cwV 1 hts gX10_spy_X10_demand rfl rfl rfl (by decide +kernel) ⟨Nat.le_of_ble_eq_true rfl, Nat.le_of_ble_eq_true rfl⟩) (he_preV (wc := []) hK hP hD hS hA hE [] rfl rfl 0 rfl rfl) rfl rfl hl.1 rfl (lv_room (Nat.le_of_ble_eq_true rfl)) dX10_spy_8 ⟨(Nat.le_of_ble_eq_true rfl), (Nat.le_of_ble_eq_true rfl)⟩) hP hD hS hA [] [0, 1, 2] rfl rfl rfl (by decide) (fun u_5 H locs h_6 hP hD hS => ?_)
  have hP : va_P g.1 vwCl [(oX10 x0 y0 ta z0 p0 dr pa to_ s0 im ki tr v0 rf), (oX8 s0 h0 a0 b0 e0), (oX2 b0 b1 b2 x y rl hd th)] H := hP
  have hD : va_D A [(oX10 x0 y0 ta z0 p0 dr pa to_ s0 im ki tr v0 rf), (oX8 s0 h0 a0 b0 e0), (oX2 b0 b1 b2 x y rl hd th)] := hD
  refine lv_bipush (v := 16) hx hb dX10_spy_11 (by decide) ?_
  refine lv_iload_n hx hb dX10_spy_13 rfl (lv_at hl 2 rfl) ?_
  refine lv_isub hx hb dX10_spy_14 ?_
  refine lv_istore_n (lv' := [(3, .int (16 - i1)), (0, .ref x0), (1, .int 1), (2, .int i1)]) hx hb dX10_spy_15 rfl hl (by decide) rfl (fun ls hl => ?_)
  refine lv_iload_n hx hb dX10_spy_16 rfl (lv_at hl 2 rfl) ?_
  refine lv_if_eq (tgt := 35) hx hb dX10_spy_17 (by decide) (fun c_7 => ?_) (fun c_7 => ?_)
  · exact absurd c_7 (by decide)
  · refine lv_aload_n hx hb dX10_spy_20 rfl (lv_at hl 1 rfl) ?_
    refine va_get (v := .ref s0) (T := TX10) (N := 13) hx hb hts inX10 hown hK hP 0 rfl rfl 7 (by decide) f39 (fun _ h9 => h9) rfl dX10_spy_21 ?_
    refine va_get (v := .ref b0) (T := TX8) (N := 4) hx hb hts inX8 hown hK hP 1 rfl rfl 2 (by decide) f189 (fun _ h9 => h9) rfl dX10_spy_24 ?_
    refine lv_iload_n hx hb dX10_spy_27 rfl (lv_at hl 3 rfl) ?_
    refine lv_iload_n hx hb dX10_spy_28 rfl (lv_at hl 0 rfl) ?_
    refine he_ci (wc := [(oX2 b0 b1 b2 x y rl hd th)]) (wr := [(oX10 x0 y0 ta z0 p0 dr pa to_ s0 im ki tr v0 rf), (oX8 s0 h0 a0 b0 e0)]) (va_runV (As := [.int i1, .int (16 - i1)]) (rest := []) ⟨hx, hb, hml, hown, hts⟩ (g_X2_addF l g b0 b1 b2 x y rl hd th i1 (16 - i1) (by first | assumption | decide | omega) H.size) (cwV 2 hts gX10_spy_X2_add rfl rfl rfl (by decide +kernel) ⟨Nat.le_of_ble_eq_true rfl, Nat.le_of_ble_eq_true rfl⟩) (he_preV (wc := [(oX2 b0 b1 b2 x y rl hd th)]) hK hP hD hS hA hE [2] rfl rfl 2 rfl rfl) rfl rfl hl.1 rfl (lv_room (Nat.le_of_ble_eq_true rfl)) dX10_spy_29 ⟨(Nat.le_of_ble_eq_true rfl), (Nat.le_of_ble_eq_true rfl)⟩) hP hD hS hA [2] [0, 1] rfl rfl rfl (by decide) (fun r_8 u_9 H locs h_10 hP hD hS => ?_)
    subst h_10
    have hP : va_P g.1 vwCl [(oX10 x0 y0 ta z0 p0 dr pa to_ s0 im ki tr v0 rf), (oX8 s0 h0 a0 b0 e0), (oX2 b0 b1 b2 x y rl hd th)] H := hP
    have hD : va_D A [(oX10 x0 y0 ta z0 p0 dr pa to_ s0 im ki tr v0 rf), (oX8 s0 h0 a0 b0 e0), (oX2 b0 b1 b2 x y rl hd th)] := hD
    refine lv_goto (tgt := 47) hx hb dX10_spy_32 (by decide) ?_
    exact he_ri hQ hx hb hr hlk hP hD hS dX10_spy_47 (Nat.le_of_ble_eq_true rfl) (Nat.le_of_ble_eq_true rfl) (()) (rfl) (rfl)
set_option maxHeartbeats 4000000 in
set_option maxRecDepth 100000 in
theorem g_X10_believed0 (l : Launch) (g : he_G) (x0 : Nat) (y0 : Nat) (z0 : Nat) (p0 : Nat) (dr : Nat) (pa : Nat) (s0 : Nat) (im : Nat) (tr : Nat) (v0 : Nat) (rf : Nat) (ta : Int32) (to_ : Int32) (ki : Int32) (h0 : Nat) (a0 : Nat) (e0 : Nat) (b0 : Nat) (b1 : Nat) (b2 : Nat) (x : Int32) (y : Int32) (rl : Int64) (hd : Int64) (th : Int32)  : he_J l yX10_believed wsX10_believed 1 28 0 0 g [.ref x0, .int 0] [(oX10 x0 y0 ta z0 p0 dr pa to_ s0 im ki tr v0 rf), (oX8 s0 h0 a0 b0 e0), (oX2 b0 b1 b2 x y rl hd th)] (fun (r : Int64) (u : Unit) => True) (fun (u : Unit) => [(oX10 x0 y0 ta z0 p0 dr pa to_ s0 im ki tr v0 rf), (oX8 s0 h0 a0 b0 e0), (oX2 b0 b1 b2 x y rl hd th)]) := by
  refine he_begin (l := l) (g := g) (y := yX10_believed) (wl := wsX10_believed) (fr := 1) (lo := 28) (mc := 0) (ms := 0) (av := [.ref x0, .int 0]) (ws := [(oX10 x0 y0 ta z0 p0 dr pa to_ s0 im ki tr v0 rf), (oX8 s0 h0 a0 b0 e0), (oX2 b0 b1 b2 x y rl hd th)]) (cc := cX10_believed) (maxL := 2) (ret := (some .long)) (fun A => va_Ql (fun (r : Int64) (u : Unit) => True) (fun u t => he_post g A ((fun (u : Unit) => [(oX10 x0 y0 ta z0 p0 dr pa to_ s0 im ki tr v0 rf), (oX8 s0 h0 a0 b0 e0), (oX2 b0 b1 b2 x y rl hd th)]) u) t) A) (by decide) rfl (Nat.le_of_ble_eq_true rfl) ?_
  intro p e s m args below meth c A ls H locs Q hQ hB
  obtain ⟨hx, hb, hr, hml, hown, hts, hlk, hin, hP, hK, hD, hS, hA, hE, hl⟩ := hB
  have hl : lv_has ls 2 [(0, .ref x0), (1, .int 0)] := hl
  have f39 := hts (.fieldLink RX10 39 "HiredEnemy" "scene" "LHiredEnemy$Scene;") (iwoX10_believed (k := 0) rfl)
  have inX10 : ∀ w ∈ wsX100, w ∈ wsX10_believed := innX10_believed_X10
  have f189 := hts (.fieldLink RX10 189 "HiredEnemy$Scene" "belief" "LHiredEnemy$Belief;") (iwoX10_believed (k := 1) rfl)
  have inX8 : ∀ w ∈ wsX80, w ∈ wsX10_believed := innX10_believed_X8
  refine lv_aload_n hx hb dX10_believed_0 rfl (lv_at hl 0 rfl) ?_
  refine lv_iload_n hx hb dX10_believed_1 rfl (lv_at hl 1 rfl) ?_
  refine lv_iconst (v := 0) hx hb dX10_believed_2 (by decide) ?_
  refine lv_iconst (v := 1) hx hb dX10_believed_3 (by decide) ?_
  refine he_ci (wc := []) (wr := [(oX10 x0 y0 ta z0 p0 dr pa to_ s0 im ki tr v0 rf), (oX8 s0 h0 a0 b0 e0), (oX2 b0 b1 b2 x y rl hd th)]) (va_runS (As := [.int 0, .int 0, .int 1]) (rest := [.ref x0]) ⟨hx, hb, hml, hown, hts⟩ (c_X10_within l g 0 0 1 H.size) (va_cwS 3 hts gX10_believed_X10_within rfl rfl rfl (by decide +kernel) ⟨Nat.le_of_ble_eq_true rfl, Nat.le_of_ble_eq_true rfl⟩) (he_preS (wc := []) hK hP hD hS hA hE [] rfl rfl) rfl rfl hl.1 rfl (lv_room (Nat.le_of_ble_eq_true rfl)) dX10_believed_4 ⟨(Nat.le_of_ble_eq_true rfl), (Nat.le_of_ble_eq_true rfl)⟩) hP hD hS hA [] [0, 1, 2] rfl rfl rfl (by decide) (fun r_1 u_2 H locs h_3 hP hD hS => ?_)
  subst h_3
  have hP : va_P g.1 vwCl [(oX10 x0 y0 ta z0 p0 dr pa to_ s0 im ki tr v0 rf), (oX8 s0 h0 a0 b0 e0), (oX2 b0 b1 b2 x y rl hd th)] H := hP
  have hD : va_D A [(oX10 x0 y0 ta z0 p0 dr pa to_ s0 im ki tr v0 rf), (oX8 s0 h0 a0 b0 e0), (oX2 b0 b1 b2 x y rl hd th)] := hD
  refine he_top (1) (by decide) ?_
  refine he_cv (wc := []) (wr := [(oX10 x0 y0 ta z0 p0 dr pa to_ s0 im ki tr v0 rf), (oX8 s0 h0 a0 b0 e0), (oX2 b0 b1 b2 x y rl hd th)]) (va_runV (As := [.int 1]) (rest := []) ⟨hx, hb, hml, hown, hts⟩ (c_X10_demand1 l g x0 H.size) (cwV 1 hts gX10_believed_X10_demand rfl rfl rfl (by decide +kernel) ⟨Nat.le_of_ble_eq_true rfl, Nat.le_of_ble_eq_true rfl⟩) (he_preV (wc := []) hK hP hD hS hA hE [] rfl rfl 0 rfl rfl) rfl rfl hl.1 rfl (lv_room (Nat.le_of_ble_eq_true rfl)) dX10_believed_7 ⟨(Nat.le_of_ble_eq_true rfl), (Nat.le_of_ble_eq_true rfl)⟩) hP hD hS hA [] [0, 1, 2] rfl rfl rfl (by decide) (fun u_5 H locs h_6 hP hD hS => ?_)
  have hP : va_P g.1 vwCl [(oX10 x0 y0 ta z0 p0 dr pa to_ s0 im ki tr v0 rf), (oX8 s0 h0 a0 b0 e0), (oX2 b0 b1 b2 x y rl hd th)] H := hP
  have hD : va_D A [(oX10 x0 y0 ta z0 p0 dr pa to_ s0 im ki tr v0 rf), (oX8 s0 h0 a0 b0 e0), (oX2 b0 b1 b2 x y rl hd th)] := hD
  refine lv_aload_n hx hb dX10_believed_10 rfl (lv_at hl 0 rfl) ?_
  refine va_get (v := .ref s0) (T := TX10) (N := 13) hx hb hts inX10 hown hK hP 0 rfl rfl 7 (by decide) f39 (fun _ h9 => h9) rfl dX10_believed_11 ?_
  refine va_get (v := .ref b0) (T := TX8) (N := 4) hx hb hts inX8 hown hK hP 1 rfl rfl 2 (by decide) f189 (fun _ h9 => h9) rfl dX10_believed_14 ?_
  refine lv_iload_n hx hb dX10_believed_17 rfl (lv_at hl 1 rfl) ?_
  refine lv_if_ne (tgt := 25) hx hb dX10_believed_18 (by decide) (fun c_7 => ?_) (fun c_7 => ?_)
  · exact absurd (by decide) c_7
  · refine lv_iconst (v := 1) hx hb dX10_believed_21 (by decide) ?_
    refine lv_goto (tgt := 26) hx hb dX10_believed_22 (by decide) ?_
    refine he_cj (wc := [(oX2 b0 b1 b2 x y rl hd th)]) (wr := [(oX10 x0 y0 ta z0 p0 dr pa to_ s0 im ki tr v0 rf), (oX8 s0 h0 a0 b0 e0)]) (va_runV (As := [.int 1]) (rest := []) ⟨hx, hb, hml, hown, hts⟩ (g_X2_least l g b0 b1 b2 x y rl hd th 1 H.size) (cwV 1 hts gX10_believed_X2_leastTerm rfl rfl rfl (by decide +kernel) ⟨Nat.le_of_ble_eq_true rfl, Nat.le_of_ble_eq_true rfl⟩) (he_preV (wc := [(oX2 b0 b1 b2 x y rl hd th)]) hK hP hD hS hA hE [2] rfl rfl 2 rfl rfl) rfl rfl hl.1 rfl (lv_room (Nat.le_of_ble_eq_true rfl)) dX10_believed_26 ⟨(Nat.le_of_ble_eq_true rfl), (Nat.le_of_ble_eq_true rfl)⟩) hP hD hS hA [2] [0, 1] rfl rfl rfl (by decide) (fun r_8 u_9 H locs h_10 hP hD hS => ?_)
    have hP : va_P g.1 vwCl [(oX10 x0 y0 ta z0 p0 dr pa to_ s0 im ki tr v0 rf), (oX8 s0 h0 a0 b0 e0), (oX2 b0 b1 b2 x y rl hd th)] H := hP
    have hD : va_D A [(oX10 x0 y0 ta z0 p0 dr pa to_ s0 im ki tr v0 rf), (oX8 s0 h0 a0 b0 e0), (oX2 b0 b1 b2 x y rl hd th)] := hD
    exact he_rj hQ hx hb hr hlk hP hD hS dX10_believed_29 (Nat.le_of_ble_eq_true rfl) (Nat.le_of_ble_eq_true rfl) (()) (rfl) (trivial)
end
