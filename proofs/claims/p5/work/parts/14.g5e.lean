set_option maxHeartbeats 4000000 in
set_option maxRecDepth 100000 in
theorem g_X10_believed1 (l : Launch) (g : he_G) (x0 : Nat) (y0 : Nat) (z0 : Nat) (p0 : Nat) (dr : Nat) (pa : Nat) (s0 : Nat) (im : Nat) (tr : Nat) (v0 : Nat) (rf : Nat) (ta : Int32) (to_ : Int32) (ki : Int32) (h0 : Nat) (a0 : Nat) (e0 : Nat) (b0 : Nat) (b1 : Nat) (b2 : Nat) (x : Int32) (y : Int32) (rl : Int64) (hd : Int64) (th : Int32)  : he_J l yX10_believed wsX10_believed 1 28 0 0 g [.ref x0, .int 1] [(oX10 x0 y0 ta z0 p0 dr pa to_ s0 im ki tr v0 rf), (oX8 s0 h0 a0 b0 e0), (oX2 b0 b1 b2 x y rl hd th)] (fun (r : Int64) (u : Unit) => True) (fun (u : Unit) => [(oX10 x0 y0 ta z0 p0 dr pa to_ s0 im ki tr v0 rf), (oX8 s0 h0 a0 b0 e0), (oX2 b0 b1 b2 x y rl hd th)]) := by
  refine he_begin (l := l) (g := g) (y := yX10_believed) (wl := wsX10_believed) (fr := 1) (lo := 28) (mc := 0) (ms := 0) (av := [.ref x0, .int 1]) (ws := [(oX10 x0 y0 ta z0 p0 dr pa to_ s0 im ki tr v0 rf), (oX8 s0 h0 a0 b0 e0), (oX2 b0 b1 b2 x y rl hd th)]) (cc := cX10_believed) (maxL := 2) (ret := (some .long)) (fun A => va_Ql (fun (r : Int64) (u : Unit) => True) (fun u t => he_post g A ((fun (u : Unit) => [(oX10 x0 y0 ta z0 p0 dr pa to_ s0 im ki tr v0 rf), (oX8 s0 h0 a0 b0 e0), (oX2 b0 b1 b2 x y rl hd th)]) u) t) A) (by decide) rfl (Nat.le_of_ble_eq_true rfl) ?_
  intro p e s m args below meth c A ls H locs Q hQ hB
  obtain ⟨hx, hb, hr, hml, hown, hts, hlk, hin, hP, hK, hD, hS, hA, hE, hl⟩ := hB
  have hl : lv_has ls 2 [(0, .ref x0), (1, .int 1)] := hl
  have f39 := hts (.fieldLink RX10 39 "HiredEnemy" "scene" "LHiredEnemy$Scene;") (iwoX10_believed (k := 0) rfl)
  have inX10 : ∀ w ∈ wsX100, w ∈ wsX10_believed := innX10_believed_X10
  have f189 := hts (.fieldLink RX10 189 "HiredEnemy$Scene" "belief" "LHiredEnemy$Belief;") (iwoX10_believed (k := 1) rfl)
  have inX8 : ∀ w ∈ wsX80, w ∈ wsX10_believed := innX10_believed_X8
  refine lv_aload_n hx hb dX10_believed_0 rfl (lv_at hl 0 rfl) ?_
  refine lv_iload_n hx hb dX10_believed_1 rfl (lv_at hl 1 rfl) ?_
  refine lv_iconst (v := 0) hx hb dX10_believed_2 (by decide) ?_
  refine lv_iconst (v := 1) hx hb dX10_believed_3 (by decide) ?_
  refine he_ci (wc := []) (wr := [(oX10 x0 y0 ta z0 p0 dr pa to_ s0 im ki tr v0 rf), (oX8 s0 h0 a0 b0 e0), (oX2 b0 b1 b2 x y rl hd th)]) (va_runS (As := [.int 1, .int 0, .int 1]) (rest := [.ref x0]) ⟨hx, hb, hml, hown, hts⟩ (c_X10_within l g 1 0 1 H.size) (va_cwS 3 hts gX10_believed_X10_within rfl rfl rfl (by decide +kernel) ⟨Nat.le_of_ble_eq_true rfl, Nat.le_of_ble_eq_true rfl⟩) (he_preS (wc := []) hK hP hD hS hA hE [] rfl rfl) rfl rfl hl.1 rfl (lv_room (Nat.le_of_ble_eq_true rfl)) dX10_believed_4 ⟨(Nat.le_of_ble_eq_true rfl), (Nat.le_of_ble_eq_true rfl)⟩) hP hD hS hA [] [0, 1, 2] rfl rfl rfl (by decide) (fun r_1 u_2 H locs h_3 hP hD hS => ?_)
  subst h_3
  have hP : va_P g.1 vwCl [(oX10 x0 y0 ta z0 p0 dr pa to_ s0 im ki tr v0 rf), (oX8 s0 h0 a0 b0 e0), (oX2 b0 b1 b2 x y rl hd th)] H := hP
  have hD : va_D A [(oX10 x0 y0 ta z0 p0 dr pa to_ s0 im ki tr v0 rf), (oX8 s0 h0 a0 b0 e0), (oX2 b0 b1 b2 x y rl hd th)] := hD
  refine he_top (1) (by decide) ?_
  refine he_cv (wc := []) (wr := [(oX10 x0 y0 ta z0 p0 dr pa to_ s0 im ki tr v0 rf), (oX8 s0 h0 a0 b0 e0), (oX2 b0 b1 b2 x y rl hd th)]) (va_runV (As := [.int 1]) (rest := []) ⟨hx, hb, hml, hown, hts⟩ (c_X10_demand1 l g x0 H.size) (cwV 1 hts gX10_believed_X10_demand rfl rfl rfl (by decide +kernel) ⟨Nat.le_of_ble_eq_true rfl, Nat.le_of_ble_eq_true rfl⟩) (he_preV (wc := []) hK hP hD hS hA hE [] rfl rfl 0 rfl rfl) rfl rfl hl.1 rfl (lv_room (Nat.le_of_ble_eq_true rfl)) dX10_believed_7 ⟨(Nat.le_of_ble_eq_true rfl), (Nat.le_of_ble_eq_true rfl)⟩) hP hD hS hA [] [0, 1, 2] rfl rfl rfl (by decide) (fun u_5 H locs h_6 hP hD hS => ?_)
  have hP : va_P g.1 vwCl [(oX10 x0 y0 ta z0 p0 dr pa to_ s0 im ki tr v0 rf), (oX8 s0 h0 a0 b0 e0), (oX2 b0 b1 b2 x y rl hd th)] H := hP
  have hD : va_D A [(oX10 x0 y0 ta z0 p0 dr pa to_ s0 im ki tr v0 rf), (oX8 s0 h0 a0 b0 e0), (oX2 b0 b1 b2 x y rl hd th)] := hD
  refine lv_aload_n hx hb dX10_believed_10 rfl (lv_at hl 0 rfl) ?_
  refine va_get (v := .ref s0) (T := TX10) (N := 13) hx hb hts inX10 hown hK hP 0 rfl rfl 7 (by decide) f39 (fun _ h9 => h9) rfl dX10_believed_11 ?_
  refine va_get (v := .ref b0) (T := TX8) (N := 4) hx hb hts inX8 hown hK hP 1 rfl rfl 2 (by decide) f189 (fun _ h9 => h9) rfl dX10_believed_14 ?_
  refine lv_iload_n hx hb dX10_believed_17 rfl (lv_at hl 1 rfl) ?_
  refine lv_if_ne (tgt := 25) hx hb dX10_believed_18 (by decide) (fun c_7 => ?_) (fun c_7 => ?_)
  · refine lv_iconst (v := 0) hx hb dX10_believed_25 (by decide) ?_
    refine he_cj (wc := [(oX2 b0 b1 b2 x y rl hd th)]) (wr := [(oX10 x0 y0 ta z0 p0 dr pa to_ s0 im ki tr v0 rf), (oX8 s0 h0 a0 b0 e0)]) (va_runV (As := [.int 0]) (rest := []) ⟨hx, hb, hml, hown, hts⟩ (g_X2_least l g b0 b1 b2 x y rl hd th 0 H.size) (cwV 1 hts gX10_believed_X2_leastTerm rfl rfl rfl (by decide +kernel) ⟨Nat.le_of_ble_eq_true rfl, Nat.le_of_ble_eq_true rfl⟩) (he_preV (wc := [(oX2 b0 b1 b2 x y rl hd th)]) hK hP hD hS hA hE [2] rfl rfl 2 rfl rfl) rfl rfl hl.1 rfl (lv_room (Nat.le_of_ble_eq_true rfl)) dX10_believed_26 ⟨(Nat.le_of_ble_eq_true rfl), (Nat.le_of_ble_eq_true rfl)⟩) hP hD hS hA [2] [0, 1] rfl rfl rfl (by decide) (fun r_8 u_9 H locs h_10 hP hD hS => ?_)
    have hP : va_P g.1 vwCl [(oX10 x0 y0 ta z0 p0 dr pa to_ s0 im ki tr v0 rf), (oX8 s0 h0 a0 b0 e0), (oX2 b0 b1 b2 x y rl hd th)] H := hP
    have hD : va_D A [(oX10 x0 y0 ta z0 p0 dr pa to_ s0 im ki tr v0 rf), (oX8 s0 h0 a0 b0 e0), (oX2 b0 b1 b2 x y rl hd th)] := hD
    exact he_rj hQ hx hb hr hlk hP hD hS dX10_believed_29 (Nat.le_of_ble_eq_true rfl) (Nat.le_of_ble_eq_true rfl) (()) (rfl) (trivial)
  · exact absurd c_7 (by decide)
set_option maxHeartbeats 4000000 in
set_option maxRecDepth 100000 in
theorem g_X10_earnest0 (l : Launch) (g : he_G) (x0 : Nat) (y0 : Nat) (z0 : Nat) (dr : Nat) (pa : Nat) (s0 : Nat) (im : Nat) (tr : Nat) (v0 : Nat) (rf : Nat) (ta : Int32) (to_ : Int32) (ki : Int32) (p0 : Nat) (p1 : Nat) (p2 : Nat) (p3 : Nat) (p4 : Nat) (w : Nat) (st : Nat → Int32) (v1 : Nat) (v2 : Nat) (v3 : Nat) (ww : Int32) (dg : Int32) (wo : Nat → Int32) (he_ : Nat → Int32) (pf : Nat → Int32) (a : Nat) (d : Nat) (hw6 : w ≤ 6) (ha6 : a ≤ 6) (hd6 : d ≤ 6) : he_I l yX10_earnest wsX10_earnest 3 74 0 0 g [.ref x0, .int (nI a), .int (nI d), .int 0] [(oX10 x0 y0 ta z0 p0 dr pa to_ s0 im ki tr v0 rf), (oX6 p0 p1 p2 p3 p4 (nI w)), (aI g p3 6 st), (oX1 v0 v1 v2 v3 ww dg), (aI g v1 3 wo), (aI g v2 3 he_), (aI g v3 3 pf)] (fun (r : Int32) (u : Nat × Int32 × (Nat → Int32) × (Nat → Int32) × (Nat → Int32)) => True) (fun (u : Nat × Int32 × (Nat → Int32) × (Nat → Int32) × (Nat → Int32)) => [(oX10 x0 y0 ta z0 p0 dr pa to_ s0 im ki tr v0 rf), (oX6 p0 p1 p2 p3 p4 (nI w)), (aI g p3 6 st), (oX1 v0 v1 v2 v3 (nI u.1) u.2.1), (aI g v1 3 u.2.2.1), (aI g v2 3 u.2.2.2.1), (aI g v3 3 u.2.2.2.2)]) := by
  refine he_begin (l := l) (g := g) (y := yX10_earnest) (wl := wsX10_earnest) (fr := 3) (lo := 74) (mc := 0) (ms := 0) (av := [.ref x0, .int (nI a), .int (nI d), .int 0]) (ws := [(oX10 x0 y0 ta z0 p0 dr pa to_ s0 im ki tr v0 rf), (oX6 p0 p1 p2 p3 p4 (nI w)), (aI g p3 6 st), (oX1 v0 v1 v2 v3 ww dg), (aI g v1 3 wo), (aI g v2 3 he_), (aI g v3 3 pf)]) (cc := cX10_earnest) (maxL := 4) (ret := (some .int)) (fun A => va_Qi (fun (r : Int32) (u : Nat × Int32 × (Nat → Int32) × (Nat → Int32) × (Nat → Int32)) => True) (fun u t => he_post g A ((fun (u : Nat × Int32 × (Nat → Int32) × (Nat → Int32) × (Nat → Int32)) => [(oX10 x0 y0 ta z0 p0 dr pa to_ s0 im ki tr v0 rf), (oX6 p0 p1 p2 p3 p4 (nI w)), (aI g p3 6 st), (oX1 v0 v1 v2 v3 (nI u.1) u.2.1), (aI g v1 3 u.2.2.1), (aI g v2 3 u.2.2.2.1), (aI g v3 3 u.2.2.2.2)]) u) t) A) (by decide) rfl (Nat.le_of_ble_eq_true rfl) ?_
  intro p e s m args below meth c A ls H locs Q hQ hB
  obtain ⟨hx, hb, hr, hml, hown, hts, hlk, hin, hP, hK, hD, hS, hA, hE, hl⟩ := hB
  have hl : lv_has ls 4 [(0, .ref x0), (1, .int (nI a)), (2, .int (nI d)), (3, .int 0)] := hl
  have f57 := hts (.fieldLink RX10 57 "HiredEnemy" "battle" "LHiredEnemy$Battle;") (iwoX10_earnest (k := 0) rfl)
  have inX10 : ∀ w ∈ wsX100, w ∈ wsX10_earnest := innX10_earnest_X10
  have f23 := hts (.fieldLink RX10 23 "HiredEnemy" "plan" "LHiredEnemy$Plan;") (iwoX10_earnest (k := 1) rfl)
  refine lv_aload_n hx hb dX10_earnest_0 rfl (lv_at hl 0 rfl) ?_
  refine lv_iload_n hx hb dX10_earnest_1 rfl (lv_at hl 1 rfl) ?_
  refine lv_iconst (v := 0) hx hb dX10_earnest_2 (by decide) ?_
  refine lv_bipush (v := 6) hx hb dX10_earnest_3 (by decide) ?_
  refine he_ci (wc := []) (wr := [(oX10 x0 y0 ta z0 p0 dr pa to_ s0 im ki tr v0 rf), (oX6 p0 p1 p2 p3 p4 (nI w)), (aI g p3 6 st), (oX1 v0 v1 v2 v3 ww dg), (aI g v1 3 wo), (aI g v2 3 he_), (aI g v3 3 pf)]) (va_runS (As := [.int (nI a), .int 0, .int 6]) (rest := [.ref x0]) ⟨hx, hb, hml, hown, hts⟩ (c_X10_within l g (nI a) 0 6 H.size) (va_cwS 3 hts gX10_earnest_X10_within rfl rfl rfl (by decide +kernel) ⟨Nat.le_of_ble_eq_true rfl, Nat.le_of_ble_eq_true rfl⟩) (he_preS (wc := []) hK hP hD hS hA hE [] rfl rfl) rfl rfl hl.1 rfl (lv_room (Nat.le_of_ble_eq_true rfl)) dX10_earnest_5 ⟨(Nat.le_of_ble_eq_true rfl), (Nat.le_of_ble_eq_true rfl)⟩) hP hD hS hA [] [0, 1, 2, 3, 4, 5, 6] rfl rfl rfl (by decide) (fun r_1 u_2 H locs h_3 hP hD hS => ?_)
  subst h_3
  have hP : va_P g.1 vwCl [(oX10 x0 y0 ta z0 p0 dr pa to_ s0 im ki tr v0 rf), (oX6 p0 p1 p2 p3 p4 (nI w)), (aI g p3 6 st), (oX1 v0 v1 v2 v3 ww dg), (aI g v1 3 wo), (aI g v2 3 he_), (aI g v3 3 pf)] H := hP
  have hD : va_D A [(oX10 x0 y0 ta z0 p0 dr pa to_ s0 im ki tr v0 rf), (oX6 p0 p1 p2 p3 p4 (nI w)), (aI g p3 6 st), (oX1 v0 v1 v2 v3 ww dg), (aI g v1 3 wo), (aI g v2 3 he_), (aI g v3 3 pf)] := hD
  refine he_top (1) (he_within_in (a0 := 0) (B := 6) rfl rfl (by omega) (by omega) (by decide)) ?_
  refine lv_if_eq (tgt := 34) hx hb dX10_earnest_8 (by decide) (fun c_4 => ?_) (fun c_4 => ?_)
  · exact absurd c_4 (by decide)
  · refine lv_iload_n hx hb dX10_earnest_11 rfl (lv_at hl 2 rfl) ?_
    refine lv_iconst (v := 0) hx hb dX10_earnest_12 (by decide) ?_
    refine lv_bipush (v := 6) hx hb dX10_earnest_13 (by decide) ?_
    refine he_ci (wc := []) (wr := [(oX10 x0 y0 ta z0 p0 dr pa to_ s0 im ki tr v0 rf), (oX6 p0 p1 p2 p3 p4 (nI w)), (aI g p3 6 st), (oX1 v0 v1 v2 v3 ww dg), (aI g v1 3 wo), (aI g v2 3 he_), (aI g v3 3 pf)]) (va_runS (As := [.int (nI d), .int 0, .int 6]) (rest := [.ref x0]) ⟨hx, hb, hml, hown, hts⟩ (c_X10_within l g (nI d) 0 6 H.size) (va_cwS 3 hts gX10_earnest_X10_within rfl rfl rfl (by decide +kernel) ⟨Nat.le_of_ble_eq_true rfl, Nat.le_of_ble_eq_true rfl⟩) (he_preS (wc := []) hK hP hD hS hA hE [] rfl rfl) rfl rfl hl.1 rfl (lv_room (Nat.le_of_ble_eq_true rfl)) dX10_earnest_15 ⟨(Nat.le_of_ble_eq_true rfl), (Nat.le_of_ble_eq_true rfl)⟩) hP hD hS hA [] [0, 1, 2, 3, 4, 5, 6] rfl rfl rfl (by decide) (fun r_5 u_6 H locs h_7 hP hD hS => ?_)
    subst h_7
    have hP : va_P g.1 vwCl [(oX10 x0 y0 ta z0 p0 dr pa to_ s0 im ki tr v0 rf), (oX6 p0 p1 p2 p3 p4 (nI w)), (aI g p3 6 st), (oX1 v0 v1 v2 v3 ww dg), (aI g v1 3 wo), (aI g v2 3 he_), (aI g v3 3 pf)] H := hP
    have hD : va_D A [(oX10 x0 y0 ta z0 p0 dr pa to_ s0 im ki tr v0 rf), (oX6 p0 p1 p2 p3 p4 (nI w)), (aI g p3 6 st), (oX1 v0 v1 v2 v3 ww dg), (aI g v1 3 wo), (aI g v2 3 he_), (aI g v3 3 pf)] := hD
    refine he_top (1) (he_within_in (a0 := 0) (B := 6) rfl rfl (by omega) (by omega) (by decide)) ?_
    refine lv_if_eq (tgt := 34) hx hb dX10_earnest_18 (by decide) (fun c_8 => ?_) (fun c_8 => ?_)
    · exact absurd c_8 (by decide)
    · refine lv_iload_n hx hb dX10_earnest_21 rfl (lv_at hl 3 rfl) ?_
      refine lv_iconst (v := 0) hx hb dX10_earnest_22 (by decide) ?_
      refine lv_iconst (v := 1) hx hb dX10_earnest_23 (by decide) ?_
      refine he_ci (wc := []) (wr := [(oX10 x0 y0 ta z0 p0 dr pa to_ s0 im ki tr v0 rf), (oX6 p0 p1 p2 p3 p4 (nI w)), (aI g p3 6 st), (oX1 v0 v1 v2 v3 ww dg), (aI g v1 3 wo), (aI g v2 3 he_), (aI g v3 3 pf)]) (va_runS (As := [.int 0, .int 0, .int 1]) (rest := [.ref x0]) ⟨hx, hb, hml, hown, hts⟩ (c_X10_within l g 0 0 1 H.size) (va_cwS 3 hts gX10_earnest_X10_within rfl rfl rfl (by decide +kernel) ⟨Nat.le_of_ble_eq_true rfl, Nat.le_of_ble_eq_true rfl⟩) (he_preS (wc := []) hK hP hD hS hA hE [] rfl rfl) rfl rfl hl.1 rfl (lv_room (Nat.le_of_ble_eq_true rfl)) dX10_earnest_24 ⟨(Nat.le_of_ble_eq_true rfl), (Nat.le_of_ble_eq_true rfl)⟩) hP hD hS hA [] [0, 1, 2, 3, 4, 5, 6] rfl rfl rfl (by decide) (fun r_9 u_10 H locs h_11 hP hD hS => ?_)
      subst h_11
      have hP : va_P g.1 vwCl [(oX10 x0 y0 ta z0 p0 dr pa to_ s0 im ki tr v0 rf), (oX6 p0 p1 p2 p3 p4 (nI w)), (aI g p3 6 st), (oX1 v0 v1 v2 v3 ww dg), (aI g v1 3 wo), (aI g v2 3 he_), (aI g v3 3 pf)] H := hP
      have hD : va_D A [(oX10 x0 y0 ta z0 p0 dr pa to_ s0 im ki tr v0 rf), (oX6 p0 p1 p2 p3 p4 (nI w)), (aI g p3 6 st), (oX1 v0 v1 v2 v3 ww dg), (aI g v1 3 wo), (aI g v2 3 he_), (aI g v3 3 pf)] := hD
      refine he_top (1) (by decide) ?_
      refine lv_if_eq (tgt := 34) hx hb dX10_earnest_27 (by decide) (fun c_12 => ?_) (fun c_12 => ?_)
      · exact absurd c_12 (by decide)
      · refine lv_iconst (v := 1) hx hb dX10_earnest_30 (by decide) ?_
        refine lv_goto (tgt := 35) hx hb dX10_earnest_31 (by decide) ?_
        refine he_cv (wc := []) (wr := [(oX10 x0 y0 ta z0 p0 dr pa to_ s0 im ki tr v0 rf), (oX6 p0 p1 p2 p3 p4 (nI w)), (aI g p3 6 st), (oX1 v0 v1 v2 v3 ww dg), (aI g v1 3 wo), (aI g v2 3 he_), (aI g v3 3 pf)]) (va_runV (As := [.int 1]) (rest := []) ⟨hx, hb, hml, hown, hts⟩ (c_X10_demand1 l g x0 H.size) (cwV 1 hts gX10_earnest_X10_demand rfl rfl rfl (by decide +kernel) ⟨Nat.le_of_ble_eq_true rfl, Nat.le_of_ble_eq_true rfl⟩) (he_preV (wc := []) hK hP hD hS hA hE [] rfl rfl 0 rfl rfl) rfl rfl hl.1 rfl (lv_room (Nat.le_of_ble_eq_true rfl)) dX10_earnest_35 ⟨(Nat.le_of_ble_eq_true rfl), (Nat.le_of_ble_eq_true rfl)⟩) hP hD hS hA [] [0, 1, 2, 3, 4, 5, 6] rfl rfl rfl (by decide) (fun u_14 H locs h_15 hP hD hS => ?_)
        have hP : va_P g.1 vwCl [(oX10 x0 y0 ta z0 p0 dr pa to_ s0 im ki tr v0 rf), (oX6 p0 p1 p2 p3 p4 (nI w)), (aI g p3 6 st), (oX1 v0 v1 v2 v3 ww dg), (aI g v1 3 wo), (aI g v2 3 he_), (aI g v3 3 pf)] H := hP
        have hD : va_D A [(oX10 x0 y0 ta z0 p0 dr pa to_ s0 im ki tr v0 rf), (oX6 p0 p1 p2 p3 p4 (nI w)), (aI g p3 6 st), (oX1 v0 v1 v2 v3 ww dg), (aI g v1 3 wo), (aI g v2 3 he_), (aI g v3 3 pf)] := hD
        refine lv_aload_n hx hb dX10_earnest_38 rfl (lv_at hl 0 rfl) ?_
        refine va_get (v := .ref v0) (T := TX10) (N := 13) hx hb hts inX10 hown hK hP 0 rfl rfl 11 (by decide) f57 (fun _ h9 => h9) rfl dX10_earnest_39 ?_
        refine lv_aload_n hx hb dX10_earnest_42 rfl (lv_at hl 0 rfl) ?_
        refine va_get (v := .ref p0) (T := TX10) (N := 13) hx hb hts inX10 hown hK hP 0 rfl rfl 3 (by decide) f23 (fun _ h9 => h9) rfl dX10_earnest_43 ?_
        refine he_cv (wc := [(oX1 v0 v1 v2 v3 ww dg), (aI g v1 3 wo), (aI g v2 3 he_), (aI g v3 3 pf), (oX6 p0 p1 p2 p3 p4 (nI w)), (aI g p3 6 st)]) (wr := [(oX10 x0 y0 ta z0 p0 dr pa to_ s0 im ki tr v0 rf)]) (va_runV (As := [.ref p0]) (rest := []) ⟨hx, hb, hml, hown, hts⟩ (g_X1_prepare l g v0 v1 v2 v3 ww dg wo he_ pf p0 p1 p2 p3 p4 w st (by first | assumption | decide | omega) H.size) (cwV 1 hts gX10_earnest_X1_prepare rfl rfl rfl (by decide +kernel) ⟨Nat.le_of_ble_eq_true rfl, Nat.le_of_ble_eq_true rfl⟩) (he_preV (wc := [(oX1 v0 v1 v2 v3 ww dg), (aI g v1 3 wo), (aI g v2 3 he_), (aI g v3 3 pf), (oX6 p0 p1 p2 p3 p4 (nI w)), (aI g p3 6 st)]) hK hP hD hS hA hE [3, 4, 5, 6, 1, 2] rfl rfl 3 rfl rfl) rfl rfl hl.1 rfl (lv_room (Nat.le_of_ble_eq_true rfl)) dX10_earnest_46 ⟨(Nat.le_of_ble_eq_true rfl), (Nat.le_of_ble_eq_true rfl)⟩) hP hD hS hA [3, 4, 5, 6, 1, 2] [0] rfl rfl rfl (by decide) (fun u_17 H locs h_18 hP hD hS => ?_)
        obtain ⟨uv_19, uo_20, uh_21⟩ := u_17
        try dsimp only at h_18
        have hf_22 := h_18
        have hP : va_P g.1 vwCl [(oX10 x0 y0 ta z0 p0 dr pa to_ s0 im ki tr v0 rf), (oX1 v0 v1 v2 v3 (nI uv_19) dg), (aI g v1 3 uo_20), (aI g v2 3 uh_21), (aI g v3 3 pf), (oX6 p0 p1 p2 p3 p4 (nI w)), (aI g p3 6 st)] H := hP
        have hD : va_D A [(oX10 x0 y0 ta z0 p0 dr pa to_ s0 im ki tr v0 rf), (oX1 v0 v1 v2 v3 (nI uv_19) dg), (aI g v1 3 uo_20), (aI g v2 3 uh_21), (aI g v3 3 pf), (oX6 p0 p1 p2 p3 p4 (nI w)), (aI g p3 6 st)] := hD
        refine lv_iload_n hx hb dX10_earnest_49 rfl (lv_at hl 3 rfl) ?_
        refine lv_if_ne (tgt := 72) hx hb dX10_earnest_50 (by decide) (fun c_23 => ?_) (fun c_23 => ?_)
        · exact absurd (by decide) c_23
        · refine lv_aload_n hx hb dX10_earnest_53 rfl (lv_at hl 0 rfl) ?_
          refine va_get (v := .ref v0) (T := TX10) (N := 13) hx hb hts inX10 hown hK hP 0 rfl rfl 11 (by decide) f57 (fun _ h9 => h9) rfl dX10_earnest_54 ?_
          refine lv_aload_n hx hb dX10_earnest_57 rfl (lv_at hl 0 rfl) ?_
          refine va_get (v := .ref v0) (T := TX10) (N := 13) hx hb hts inX10 hown hK hP 0 rfl rfl 11 (by decide) f57 (fun _ h9 => h9) rfl dX10_earnest_58 ?_
          refine he_ci (wc := [(oX1 v0 v1 v2 v3 (nI uv_19) dg), (aI g v1 3 uo_20), (aI g v2 3 uh_21), (aI g v3 3 pf)]) (wr := [(oX10 x0 y0 ta z0 p0 dr pa to_ s0 im ki tr v0 rf), (oX6 p0 p1 p2 p3 p4 (nI w)), (aI g p3 6 st)]) (va_runV (As := []) (rest := [.ref v0]) ⟨hx, hb, hml, hown, hts⟩ (g_X1_all l g v0 v1 v2 v3 uv_19 dg uo_20 uh_21 pf (by first | assumption | decide | omega) H.size) (cwV 0 hts gX10_earnest_X1_all rfl rfl rfl (by decide +kernel) ⟨Nat.le_of_ble_eq_true rfl, Nat.le_of_ble_eq_true rfl⟩) (he_preV (wc := [(oX1 v0 v1 v2 v3 (nI uv_19) dg), (aI g v1 3 uo_20), (aI g v2 3 uh_21), (aI g v3 3 pf)]) hK hP hD hS hA hE [1, 2, 3, 4] rfl rfl 1 rfl rfl) rfl rfl hl.1 rfl (lv_room (Nat.le_of_ble_eq_true rfl)) dX10_earnest_61 ⟨(Nat.le_of_ble_eq_true rfl), (Nat.le_of_ble_eq_true rfl)⟩) hP hD hS hA [1, 2, 3, 4] [0, 5, 6] rfl rfl rfl (by decide) (fun r_24 u_25 H locs h_26 hP hD hS => ?_)
          subst h_26
          have hP : va_P g.1 vwCl [(oX10 x0 y0 ta z0 p0 dr pa to_ s0 im ki tr v0 rf), (oX6 p0 p1 p2 p3 p4 (nI w)), (aI g p3 6 st), (oX1 v0 v1 v2 v3 (nI uv_19) dg), (aI g v1 3 uo_20), (aI g v2 3 uh_21), (aI g v3 3 pf)] H := hP
          have hD : va_D A [(oX10 x0 y0 ta z0 p0 dr pa to_ s0 im ki tr v0 rf), (oX6 p0 p1 p2 p3 p4 (nI w)), (aI g p3 6 st), (oX1 v0 v1 v2 v3 (nI uv_19) dg), (aI g v1 3 uo_20), (aI g v2 3 uh_21), (aI g v3 3 pf)] := hD
          refine lv_iload_n hx hb dX10_earnest_64 rfl (lv_at hl 1 rfl) ?_
          refine lv_iload_n hx hb dX10_earnest_65 rfl (lv_at hl 2 rfl) ?_
          refine he_ci (wc := [(oX1 v0 v1 v2 v3 (nI uv_19) dg), (aI g v1 3 uo_20), (aI g v2 3 uh_21), (aI g v3 3 pf)]) (wr := [(oX10 x0 y0 ta z0 p0 dr pa to_ s0 im ki tr v0 rf), (oX6 p0 p1 p2 p3 p4 (nI w)), (aI g p3 6 st)]) (va_runV (As := [.int (nI (allN uv_19)), .int (nI a), .int (nI d)]) (rest := []) ⟨hx, hb, hml, hown, hts⟩ (g_X1_safe l g v0 v1 v2 v3 uv_19 dg uo_20 uh_21 pf (nI (allN uv_19)) (nI a) d (by first | assumption | decide | omega) (by first | assumption | decide | omega) H.size) (cwV 3 hts gX10_earnest_X1_safe rfl rfl rfl (by decide +kernel) ⟨Nat.le_of_ble_eq_true rfl, Nat.le_of_ble_eq_true rfl⟩) (he_preV (wc := [(oX1 v0 v1 v2 v3 (nI uv_19) dg), (aI g v1 3 uo_20), (aI g v2 3 uh_21), (aI g v3 3 pf)]) hK hP hD hS hA hE [3, 4, 5, 6] rfl rfl 3 rfl rfl) rfl rfl hl.1 rfl (lv_room (Nat.le_of_ble_eq_true rfl)) dX10_earnest_66 ⟨(Nat.le_of_ble_eq_true rfl), (Nat.le_of_ble_eq_true rfl)⟩) hP hD hS hA [3, 4, 5, 6] [0, 1, 2] rfl rfl rfl (by decide) (fun r_27 u_28 H locs h_29 hP hD hS => ?_)
          obtain ⟨ud_30, uf_31⟩ := u_28
          have hP : va_P g.1 vwCl [(oX10 x0 y0 ta z0 p0 dr pa to_ s0 im ki tr v0 rf), (oX6 p0 p1 p2 p3 p4 (nI w)), (aI g p3 6 st), (oX1 v0 v1 v2 v3 (nI uv_19) ud_30), (aI g v1 3 uo_20), (aI g v2 3 uh_21), (aI g v3 3 uf_31)] H := hP
          have hD : va_D A [(oX10 x0 y0 ta z0 p0 dr pa to_ s0 im ki tr v0 rf), (oX6 p0 p1 p2 p3 p4 (nI w)), (aI g p3 6 st), (oX1 v0 v1 v2 v3 (nI uv_19) ud_30), (aI g v1 3 uo_20), (aI g v2 3 uh_21), (aI g v3 3 uf_31)] := hD
          refine lv_goto (tgt := 81) hx hb dX10_earnest_69 (by decide) ?_
          exact he_ri hQ hx hb hr hlk hP hD hS dX10_earnest_81 (Nat.le_of_ble_eq_true rfl) (Nat.le_of_ble_eq_true rfl) ((uv_19, ud_30, uo_20, uh_21, uf_31)) (rfl) (trivial)
set_option maxHeartbeats 4000000 in
set_option maxRecDepth 100000 in
theorem g_X10_earnest1 (l : Launch) (g : he_G) (x0 : Nat) (y0 : Nat) (z0 : Nat) (dr : Nat) (pa : Nat) (s0 : Nat) (im : Nat) (tr : Nat) (v0 : Nat) (rf : Nat) (ta : Int32) (to_ : Int32) (ki : Int32) (p0 : Nat) (p1 : Nat) (p2 : Nat) (p3 : Nat) (p4 : Nat) (w : Nat) (st : Nat → Int32) (v1 : Nat) (v2 : Nat) (v3 : Nat) (ww : Int32) (dg : Int32) (wo : Nat → Int32) (he_ : Nat → Int32) (pf : Nat → Int32) (a : Nat) (d : Nat) (hw6 : w ≤ 6) (ha6 : a ≤ 6) (hd6 : d ≤ 6) : he_I l yX10_earnest wsX10_earnest 4 85 0 0 g [.ref x0, .int (nI a), .int (nI d), .int 1] [(oX10 x0 y0 ta z0 p0 dr pa to_ s0 im ki tr v0 rf), (oX6 p0 p1 p2 p3 p4 (nI w)), (aI g p3 6 st), (oX1 v0 v1 v2 v3 ww dg), (aI g v1 3 wo), (aI g v2 3 he_), (aI g v3 3 pf)] (fun (r : Int32) (u : Nat × Int32 × (Nat → Int32) × (Nat → Int32) × (Nat → Int32)) => True) (fun (u : Nat × Int32 × (Nat → Int32) × (Nat → Int32) × (Nat → Int32)) => [(oX10 x0 y0 ta z0 p0 dr pa to_ s0 im ki tr v0 rf), (oX6 p0 p1 p2 p3 p4 (nI w)), (aI g p3 6 st), (oX1 v0 v1 v2 v3 (nI u.1) u.2.1), (aI g v1 3 u.2.2.1), (aI g v2 3 u.2.2.2.1), (aI g v3 3 u.2.2.2.2)]) := by
  refine he_begin (l := l) (g := g) (y := yX10_earnest) (wl := wsX10_earnest) (fr := 4) (lo := 85) (mc := 0) (ms := 0) (av := [.ref x0, .int (nI a), .int (nI d), .int 1]) (ws := [(oX10 x0 y0 ta z0 p0 dr pa to_ s0 im ki tr v0 rf), (oX6 p0 p1 p2 p3 p4 (nI w)), (aI g p3 6 st), (oX1 v0 v1 v2 v3 ww dg), (aI g v1 3 wo), (aI g v2 3 he_), (aI g v3 3 pf)]) (cc := cX10_earnest) (maxL := 4) (ret := (some .int)) (fun A => va_Qi (fun (r : Int32) (u : Nat × Int32 × (Nat → Int32) × (Nat → Int32) × (Nat → Int32)) => True) (fun u t => he_post g A ((fun (u : Nat × Int32 × (Nat → Int32) × (Nat → Int32) × (Nat → Int32)) => [(oX10 x0 y0 ta z0 p0 dr pa to_ s0 im ki tr v0 rf), (oX6 p0 p1 p2 p3 p4 (nI w)), (aI g p3 6 st), (oX1 v0 v1 v2 v3 (nI u.1) u.2.1), (aI g v1 3 u.2.2.1), (aI g v2 3 u.2.2.2.1), (aI g v3 3 u.2.2.2.2)]) u) t) A) (by decide) rfl (Nat.le_of_ble_eq_true rfl) ?_
  intro p e s m args below meth c A ls H locs Q hQ hB
  obtain ⟨hx, hb, hr, hml, hown, hts, hlk, hin, hP, hK, hD, hS, hA, hE, hl⟩ := hB
  have hl : lv_has ls 4 [(0, .ref x0), (1, .int (nI a)), (2, .int (nI d)), (3, .int 1)] := hl
  have f57 := hts (.fieldLink RX10 57 "HiredEnemy" "battle" "LHiredEnemy$Battle;") (iwoX10_earnest (k := 0) rfl)
  have inX10 : ∀ w ∈ wsX100, w ∈ wsX10_earnest := innX10_earnest_X10
  have f23 := hts (.fieldLink RX10 23 "HiredEnemy" "plan" "LHiredEnemy$Plan;") (iwoX10_earnest (k := 1) rfl)
  refine lv_aload_n hx hb dX10_earnest_0 rfl (lv_at hl 0 rfl) ?_
  refine lv_iload_n hx hb dX10_earnest_1 rfl (lv_at hl 1 rfl) ?_
  refine lv_iconst (v := 0) hx hb dX10_earnest_2 (by decide) ?_
  refine lv_bipush (v := 6) hx hb dX10_earnest_3 (by decide) ?_
  refine he_ci (wc := []) (wr := [(oX10 x0 y0 ta z0 p0 dr pa to_ s0 im ki tr v0 rf), (oX6 p0 p1 p2 p3 p4 (nI w)), (aI g p3 6 st), (oX1 v0 v1 v2 v3 ww dg), (aI g v1 3 wo), (aI g v2 3 he_), (aI g v3 3 pf)]) (va_runS (As := [.int (nI a), .int 0, .int 6]) (rest := [.ref x0]) ⟨hx, hb, hml, hown, hts⟩ (c_X10_within l g (nI a) 0 6 H.size) (va_cwS 3 hts gX10_earnest_X10_within rfl rfl rfl (by decide +kernel) ⟨Nat.le_of_ble_eq_true rfl, Nat.le_of_ble_eq_true rfl⟩) (he_preS (wc := []) hK hP hD hS hA hE [] rfl rfl) rfl rfl hl.1 rfl (lv_room (Nat.le_of_ble_eq_true rfl)) dX10_earnest_5 ⟨(Nat.le_of_ble_eq_true rfl), (Nat.le_of_ble_eq_true rfl)⟩) hP hD hS hA [] [0, 1, 2, 3, 4, 5, 6] rfl rfl rfl (by decide) (fun r_1 u_2 H locs h_3 hP hD hS => ?_)
  subst h_3
  have hP : va_P g.1 vwCl [(oX10 x0 y0 ta z0 p0 dr pa to_ s0 im ki tr v0 rf), (oX6 p0 p1 p2 p3 p4 (nI w)), (aI g p3 6 st), (oX1 v0 v1 v2 v3 ww dg), (aI g v1 3 wo), (aI g v2 3 he_), (aI g v3 3 pf)] H := hP
  have hD : va_D A [(oX10 x0 y0 ta z0 p0 dr pa to_ s0 im ki tr v0 rf), (oX6 p0 p1 p2 p3 p4 (nI w)), (aI g p3 6 st), (oX1 v0 v1 v2 v3 ww dg), (aI g v1 3 wo), (aI g v2 3 he_), (aI g v3 3 pf)] := hD
  refine he_top (1) (he_within_in (a0 := 0) (B := 6) rfl rfl (by omega) (by omega) (by decide)) ?_
  refine lv_if_eq (tgt := 34) hx hb dX10_earnest_8 (by decide) (fun c_4 => ?_) (fun c_4 => ?_)
  · exact absurd c_4 (by decide)
  · refine lv_iload_n hx hb dX10_earnest_11 rfl (lv_at hl 2 rfl) ?_
    refine lv_iconst (v := 0) hx hb dX10_earnest_12 (by decide) ?_
    refine lv_bipush (v := 6) hx hb dX10_earnest_13 (by decide) ?_
    refine he_ci (wc := []) (wr := [(oX10 x0 y0 ta z0 p0 dr pa to_ s0 im ki tr v0 rf), (oX6 p0 p1 p2 p3 p4 (nI w)), (aI g p3 6 st), (oX1 v0 v1 v2 v3 ww dg), (aI g v1 3 wo), (aI g v2 3 he_), (aI g v3 3 pf)]) (va_runS (As := [.int (nI d), .int 0, .int 6]) (rest := [.ref x0]) ⟨hx, hb, hml, hown, hts⟩ (c_X10_within l g (nI d) 0 6 H.size) (va_cwS 3 hts gX10_earnest_X10_within rfl rfl rfl (by decide +kernel) ⟨Nat.le_of_ble_eq_true rfl, Nat.le_of_ble_eq_true rfl⟩) (he_preS (wc := []) hK hP hD hS hA hE [] rfl rfl) rfl rfl hl.1 rfl (lv_room (Nat.le_of_ble_eq_true rfl)) dX10_earnest_15 ⟨(Nat.le_of_ble_eq_true rfl), (Nat.le_of_ble_eq_true rfl)⟩) hP hD hS hA [] [0, 1, 2, 3, 4, 5, 6] rfl rfl rfl (by decide) (fun r_5 u_6 H locs h_7 hP hD hS => ?_)
    subst h_7
    have hP : va_P g.1 vwCl [(oX10 x0 y0 ta z0 p0 dr pa to_ s0 im ki tr v0 rf), (oX6 p0 p1 p2 p3 p4 (nI w)), (aI g p3 6 st), (oX1 v0 v1 v2 v3 ww dg), (aI g v1 3 wo), (aI g v2 3 he_), (aI g v3 3 pf)] H := hP
    have hD : va_D A [(oX10 x0 y0 ta z0 p0 dr pa to_ s0 im ki tr v0 rf), (oX6 p0 p1 p2 p3 p4 (nI w)), (aI g p3 6 st), (oX1 v0 v1 v2 v3 ww dg), (aI g v1 3 wo), (aI g v2 3 he_), (aI g v3 3 pf)] := hD
    refine he_top (1) (he_within_in (a0 := 0) (B := 6) rfl rfl (by omega) (by omega) (by decide)) ?_
    refine lv_if_eq (tgt := 34) hx hb dX10_earnest_18 (by decide) (fun c_8 => ?_) (fun c_8 => ?_)
    · exact absurd c_8 (by decide)
    · refine lv_iload_n hx hb dX10_earnest_21 rfl (lv_at hl 3 rfl) ?_
      refine lv_iconst (v := 0) hx hb dX10_earnest_22 (by decide) ?_
      refine lv_iconst (v := 1) hx hb dX10_earnest_23 (by decide) ?_
      refine he_ci (wc := []) (wr := [(oX10 x0 y0 ta z0 p0 dr pa to_ s0 im ki tr v0 rf), (oX6 p0 p1 p2 p3 p4 (nI w)), (aI g p3 6 st), (oX1 v0 v1 v2 v3 ww dg), (aI g v1 3 wo), (aI g v2 3 he_), (aI g v3 3 pf)]) (va_runS (As := [.int 1, .int 0, .int 1]) (rest := [.ref x0]) ⟨hx, hb, hml, hown, hts⟩ (c_X10_within l g 1 0 1 H.size) (va_cwS 3 hts gX10_earnest_X10_within rfl rfl rfl (by decide +kernel) ⟨Nat.le_of_ble_eq_true rfl, Nat.le_of_ble_eq_true rfl⟩) (he_preS (wc := []) hK hP hD hS hA hE [] rfl rfl) rfl rfl hl.1 rfl (lv_room (Nat.le_of_ble_eq_true rfl)) dX10_earnest_24 ⟨(Nat.le_of_ble_eq_true rfl), (Nat.le_of_ble_eq_true rfl)⟩) hP hD hS hA [] [0, 1, 2, 3, 4, 5, 6] rfl rfl rfl (by decide) (fun r_9 u_10 H locs h_11 hP hD hS => ?_)
      subst h_11
      have hP : va_P g.1 vwCl [(oX10 x0 y0 ta z0 p0 dr pa to_ s0 im ki tr v0 rf), (oX6 p0 p1 p2 p3 p4 (nI w)), (aI g p3 6 st), (oX1 v0 v1 v2 v3 ww dg), (aI g v1 3 wo), (aI g v2 3 he_), (aI g v3 3 pf)] H := hP
      have hD : va_D A [(oX10 x0 y0 ta z0 p0 dr pa to_ s0 im ki tr v0 rf), (oX6 p0 p1 p2 p3 p4 (nI w)), (aI g p3 6 st), (oX1 v0 v1 v2 v3 ww dg), (aI g v1 3 wo), (aI g v2 3 he_), (aI g v3 3 pf)] := hD
      refine he_top (1) (by decide) ?_
      refine lv_if_eq (tgt := 34) hx hb dX10_earnest_27 (by decide) (fun c_12 => ?_) (fun c_12 => ?_)
      · exact absurd c_12 (by decide)
      · refine lv_iconst (v := 1) hx hb dX10_earnest_30 (by decide) ?_
        refine lv_goto (tgt := 35) hx hb dX10_earnest_31 (by decide) ?_
        refine he_cv (wc := []) (wr := [(oX10 x0 y0 ta z0 p0 dr pa to_ s0 im ki tr v0 rf), (oX6 p0 p1 p2 p3 p4 (nI w)), (aI g p3 6 st), (oX1 v0 v1 v2 v3 ww dg), (aI g v1 3 wo), (aI g v2 3 he_), (aI g v3 3 pf)]) (va_runV (As := [.int 1]) (rest := []) ⟨hx, hb, hml, hown, hts⟩ (c_X10_demand1 l g x0 H.size) (cwV 1 hts gX10_earnest_X10_demand rfl rfl rfl (by decide +kernel) ⟨Nat.le_of_ble_eq_true rfl, Nat.le_of_ble_eq_true rfl⟩) (he_preV (wc := []) hK hP hD hS hA hE [] rfl rfl 0 rfl rfl) rfl rfl hl.1 rfl (lv_room (Nat.le_of_ble_eq_true rfl)) dX10_earnest_35 ⟨(Nat.le_of_ble_eq_true rfl), (Nat.le_of_ble_eq_true rfl)⟩) hP hD hS hA [] [0, 1, 2, 3, 4, 5, 6] rfl rfl rfl (by decide) (fun u_14 H locs h_15 hP hD hS => ?_)
        have hP : va_P g.1 vwCl [(oX10 x0 y0 ta z0 p0 dr pa to_ s0 im ki tr v0 rf), (oX6 p0 p1 p2 p3 p4 (nI w)), (aI g p3 6 st), (oX1 v0 v1 v2 v3 ww dg), (aI g v1 3 wo), (aI g v2 3 he_), (aI g v3 3 pf)] H := hP
        have hD : va_D A [(oX10 x0 y0 ta z0 p0 dr pa to_ s0 im ki tr v0 rf), (oX6 p0 p1 p2 p3 p4 (nI w)), (aI g p3 6 st), (oX1 v0 v1 v2 v3 ww dg), (aI g v1 3 wo), (aI g v2 3 he_), (aI g v3 3 pf)] := hD
        refine lv_aload_n hx hb dX10_earnest_38 rfl (lv_at hl 0 rfl) ?_
        refine va_get (v := .ref v0) (T := TX10) (N := 13) hx hb hts inX10 hown hK hP 0 rfl rfl 11 (by decide) f57 (fun _ h9 => h9) rfl dX10_earnest_39 ?_
        refine lv_aload_n hx hb dX10_earnest_42 rfl (lv_at hl 0 rfl) ?_
        refine va_get (v := .ref p0) (T := TX10) (N := 13) hx hb hts inX10 hown hK hP 0 rfl rfl 3 (by decide) f23 (fun _ h9 => h9) rfl dX10_earnest_43 ?_
        refine he_cv (wc := [(oX1 v0 v1 v2 v3 ww dg), (aI g v1 3 wo), (aI g v2 3 he_), (aI g v3 3 pf), (oX6 p0 p1 p2 p3 p4 (nI w)), (aI g p3 6 st)]) (wr := [(oX10 x0 y0 ta z0 p0 dr pa to_ s0 im ki tr v0 rf)]) (va_runV (As := [.ref p0]) (rest := []) ⟨hx, hb, hml, hown, hts⟩ (g_X1_prepare l g v0 v1 v2 v3 ww dg wo he_ pf p0 p1 p2 p3 p4 w st (by first | assumption | decide | omega) H.size) (cwV 1 hts gX10_earnest_X1_prepare rfl rfl rfl (by decide +kernel) ⟨Nat.le_of_ble_eq_true rfl, Nat.le_of_ble_eq_true rfl⟩) (he_preV (wc := [(oX1 v0 v1 v2 v3 ww dg), (aI g v1 3 wo), (aI g v2 3 he_), (aI g v3 3 pf), (oX6 p0 p1 p2 p3 p4 (nI w)), (aI g p3 6 st)]) hK hP hD hS hA hE [3, 4, 5, 6, 1, 2] rfl rfl 3 rfl rfl) rfl rfl hl.1 rfl (lv_room (Nat.le_of_ble_eq_true rfl)) dX10_earnest_46 ⟨(Nat.le_of_ble_eq_true rfl), (Nat.le_of_ble_eq_true rfl)⟩) hP hD hS hA [3, 4, 5, 6, 1, 2] [0] rfl rfl rfl (by decide) (fun u_17 H locs h_18 hP hD hS => ?_)
        obtain ⟨uv_19, uo_20, uh_21⟩ := u_17
        try dsimp only at h_18
        have hf_22 := h_18
        have hP : va_P g.1 vwCl [(oX10 x0 y0 ta z0 p0 dr pa to_ s0 im ki tr v0 rf), (oX1 v0 v1 v2 v3 (nI uv_19) dg), (aI g v1 3 uo_20), (aI g v2 3 uh_21), (aI g v3 3 pf), (oX6 p0 p1 p2 p3 p4 (nI w)), (aI g p3 6 st)] H := hP
        have hD : va_D A [(oX10 x0 y0 ta z0 p0 dr pa to_ s0 im ki tr v0 rf), (oX1 v0 v1 v2 v3 (nI uv_19) dg), (aI g v1 3 uo_20), (aI g v2 3 uh_21), (aI g v3 3 pf), (oX6 p0 p1 p2 p3 p4 (nI w)), (aI g p3 6 st)] := hD
        refine lv_iload_n hx hb dX10_earnest_49 rfl (lv_at hl 3 rfl) ?_
        refine lv_if_ne (tgt := 72) hx hb dX10_earnest_50 (by decide) (fun c_23 => ?_) (fun c_23 => ?_)
        · refine lv_aload_n hx hb dX10_earnest_72 rfl (lv_at hl 0 rfl) ?_
          refine va_get (v := .ref v0) (T := TX10) (N := 13) hx hb hts inX10 hown hK hP 0 rfl rfl 11 (by decide) f57 (fun _ h9 => h9) rfl dX10_earnest_73 ?_
          refine lv_iload_n hx hb dX10_earnest_76 rfl (lv_at hl 1 rfl) ?_
          refine lv_iload_n hx hb dX10_earnest_77 rfl (lv_at hl 2 rfl) ?_
          refine he_ci (wc := [(oX1 v0 v1 v2 v3 (nI uv_19) dg), (aI g v1 3 uo_20), (aI g v2 3 uh_21), (aI g v3 3 pf)]) (wr := [(oX10 x0 y0 ta z0 p0 dr pa to_ s0 im ki tr v0 rf), (oX6 p0 p1 p2 p3 p4 (nI w)), (aI g p3 6 st)]) (va_runV (As := [.int (nI a), .int (nI d)]) (rest := []) ⟨hx, hb, hml, hown, hts⟩ (g_X1_sure l g v0 v1 v2 v3 uv_19 dg uo_20 uh_21 pf a (nI d) (by first | assumption | decide | omega) (by first | assumption | decide | omega) H.size) (cwV 2 hts gX10_earnest_X1_sure rfl rfl rfl (by decide +kernel) ⟨Nat.le_of_ble_eq_true rfl, Nat.le_of_ble_eq_true rfl⟩) (he_preV (wc := [(oX1 v0 v1 v2 v3 (nI uv_19) dg), (aI g v1 3 uo_20), (aI g v2 3 uh_21), (aI g v3 3 pf)]) hK hP hD hS hA hE [1, 2, 3, 4] rfl rfl 1 rfl rfl) rfl rfl hl.1 rfl (lv_room (Nat.le_of_ble_eq_true rfl)) dX10_earnest_78 ⟨(Nat.le_of_ble_eq_true rfl), (Nat.le_of_ble_eq_true rfl)⟩) hP hD hS hA [1, 2, 3, 4] [0, 5, 6] rfl rfl rfl (by decide) (fun r_24 u_25 H locs h_26 hP hD hS => ?_)
          obtain ⟨uf_27, rfl⟩ : ∃ z, z = u_25 := ⟨_, rfl⟩
          have hP : va_P g.1 vwCl [(oX10 x0 y0 ta z0 p0 dr pa to_ s0 im ki tr v0 rf), (oX6 p0 p1 p2 p3 p4 (nI w)), (aI g p3 6 st), (oX1 v0 v1 v2 v3 (nI uv_19) dg), (aI g v1 3 uo_20), (aI g v2 3 uh_21), (aI g v3 3 uf_27)] H := hP
          have hD : va_D A [(oX10 x0 y0 ta z0 p0 dr pa to_ s0 im ki tr v0 rf), (oX6 p0 p1 p2 p3 p4 (nI w)), (aI g p3 6 st), (oX1 v0 v1 v2 v3 (nI uv_19) dg), (aI g v1 3 uo_20), (aI g v2 3 uh_21), (aI g v3 3 uf_27)] := hD
          exact he_ri hQ hx hb hr hlk hP hD hS dX10_earnest_81 (Nat.le_of_ble_eq_true rfl) (Nat.le_of_ble_eq_true rfl) ((uv_19, dg, uo_20, uh_21, uf_27)) (rfl) (trivial)
        · exact absurd c_23 (by decide)
set_option maxHeartbeats 4000000 in
set_option maxRecDepth 100000 in
theorem g_X10_stands (l : Launch) (g : he_G) (x0 : Nat) (y0 : Nat) (z0 : Nat) (dr : Nat) (pa : Nat) (s0 : Nat) (im : Nat) (tr : Nat) (v0 : Nat) (rf : Nat) (ta : Int32) (to_ : Int32) (ki : Int32) (p0 : Nat) (p1 : Nat) (p2 : Nat) (p3 : Nat) (p4 : Nat) (w : Nat) (st : Nat → Int32) (v1 : Nat) (v2 : Nat) (v3 : Nat) (ww : Int32) (dg : Int32) (wo : Nat → Int32) (he_ : Nat → Int32) (pf : Nat → Int32) (a : Nat) (d : Nat) (hw6 : w ≤ 6) (ha6 : a ≤ 6) (hd6 : d ≤ 6) : he_I l yX10_stands wsX10_stands 3 74 0 0 g [.ref x0, .int (nI a), .int (nI d)] [(oX10 x0 y0 ta z0 p0 dr pa to_ s0 im ki tr v0 rf), (oX6 p0 p1 p2 p3 p4 (nI w)), (aI g p3 6 st), (oX1 v0 v1 v2 v3 ww dg), (aI g v1 3 wo), (aI g v2 3 he_), (aI g v3 3 pf)] (fun (r : Int32) (u : Nat × Int32 × (Nat → Int32) × (Nat → Int32) × (Nat → Int32)) => True) (fun (u : Nat × Int32 × (Nat → Int32) × (Nat → Int32) × (Nat → Int32)) => [(oX10 x0 y0 ta z0 p0 dr pa to_ s0 im ki tr v0 rf), (oX6 p0 p1 p2 p3 p4 (nI w)), (aI g p3 6 st), (oX1 v0 v1 v2 v3 (nI u.1) u.2.1), (aI g v1 3 u.2.2.1), (aI g v2 3 u.2.2.2.1), (aI g v3 3 u.2.2.2.2)]) := by
  refine he_begin (l := l) (g := g) (y := yX10_stands) (wl := wsX10_stands) (fr := 3) (lo := 74) (mc := 0) (ms := 0) (av := [.ref x0, .int (nI a), .int (nI d)]) (ws := [(oX10 x0 y0 ta z0 p0 dr pa to_ s0 im ki tr v0 rf), (oX6 p0 p1 p2 p3 p4 (nI w)), (aI g p3 6 st), (oX1 v0 v1 v2 v3 ww dg), (aI g v1 3 wo), (aI g v2 3 he_), (aI g v3 3 pf)]) (cc := cX10_stands) (maxL := 3) (ret := (some .int)) (fun A => va_Qi (fun (r : Int32) (u : Nat × Int32 × (Nat → Int32) × (Nat → Int32) × (Nat → Int32)) => True) (fun u t => he_post g A ((fun (u : Nat × Int32 × (Nat → Int32) × (Nat → Int32) × (Nat → Int32)) => [(oX10 x0 y0 ta z0 p0 dr pa to_ s0 im ki tr v0 rf), (oX6 p0 p1 p2 p3 p4 (nI w)), (aI g p3 6 st), (oX1 v0 v1 v2 v3 (nI u.1) u.2.1), (aI g v1 3 u.2.2.1), (aI g v2 3 u.2.2.2.1), (aI g v3 3 u.2.2.2.2)]) u) t) A) (by decide) rfl (Nat.le_of_ble_eq_true rfl) ?_
  intro p e s m args below meth c A ls H locs Q hQ hB
  obtain ⟨hx, hb, hr, hml, hown, hts, hlk, hin, hP, hK, hD, hS, hA, hE, hl⟩ := hB
  have hl : lv_has ls 3 [(0, .ref x0), (1, .int (nI a)), (2, .int (nI d))] := hl
  have f57 := hts (.fieldLink RX10 57 "HiredEnemy" "battle" "LHiredEnemy$Battle;") (iwoX10_stands (k := 0) rfl)
  have inX10 : ∀ w ∈ wsX100, w ∈ wsX10_stands := innX10_stands_X10
  have f23 := hts (.fieldLink RX10 23 "HiredEnemy" "plan" "LHiredEnemy$Plan;") (iwoX10_stands (k := 1) rfl)
  have f226 := hts (.fieldLink RX10 226 "HiredEnemy$Battle" "safeDigits" "I") (iwoX10_stands (k := 2) rfl)
  have inX1 : ∀ w ∈ wsX10, w ∈ wsX10_stands := innX10_stands_X1
  refine lv_aload_n hx hb dX10_stands_0 rfl (lv_at hl 0 rfl) ?_
  refine lv_iload_n hx hb dX10_stands_1 rfl (lv_at hl 1 rfl) ?_
  refine lv_iconst (v := 0) hx hb dX10_stands_2 (by decide) ?_
  refine lv_bipush (v := 6) hx hb dX10_stands_3 (by decide) ?_
  refine he_ci (wc := []) (wr := [(oX10 x0 y0 ta z0 p0 dr pa to_ s0 im ki tr v0 rf), (oX6 p0 p1 p2 p3 p4 (nI w)), (aI g p3 6 st), (oX1 v0 v1 v2 v3 ww dg), (aI g v1 3 wo), (aI g v2 3 he_), (aI g v3 3 pf)]) (va_runS (As := [.int (nI a), .int 0, .int 6]) (rest := [.ref x0]) ⟨hx, hb, hml, hown, hts⟩ (c_X10_within l g (nI a) 0 6 H.size) (va_cwS 3 hts gX10_stands_X10_within rfl rfl rfl (by decide +kernel) ⟨Nat.le_of_ble_eq_true rfl, Nat.le_of_ble_eq_true rfl⟩) (he_preS (wc := []) hK hP hD hS hA hE [] rfl rfl) rfl rfl hl.1 rfl (lv_room (Nat.le_of_ble_eq_true rfl)) dX10_stands_5 ⟨(Nat.le_of_ble_eq_true rfl), (Nat.le_of_ble_eq_true rfl)⟩) hP hD hS hA [] [0, 1, 2, 3, 4, 5, 6] rfl rfl rfl (by decide) (fun r_1 u_2 H locs h_3 hP hD hS => ?_)
  subst h_3
  have hP : va_P g.1 vwCl [(oX10 x0 y0 ta z0 p0 dr pa to_ s0 im ki tr v0 rf), (oX6 p0 p1 p2 p3 p4 (nI w)), (aI g p3 6 st), (oX1 v0 v1 v2 v3 ww dg), (aI g v1 3 wo), (aI g v2 3 he_), (aI g v3 3 pf)] H := hP
  have hD : va_D A [(oX10 x0 y0 ta z0 p0 dr pa to_ s0 im ki tr v0 rf), (oX6 p0 p1 p2 p3 p4 (nI w)), (aI g p3 6 st), (oX1 v0 v1 v2 v3 ww dg), (aI g v1 3 wo), (aI g v2 3 he_), (aI g v3 3 pf)] := hD
  refine he_top (1) (he_within_in (a0 := 0) (B := 6) rfl rfl (by omega) (by omega) (by decide)) ?_
  refine lv_if_eq (tgt := 25) hx hb dX10_stands_8 (by decide) (fun c_4 => ?_) (fun c_4 => ?_)
  · exact absurd c_4 (by decide)
  · refine lv_iload_n hx hb dX10_stands_11 rfl (lv_at hl 2 rfl) ?_
    refine lv_iconst (v := 0) hx hb dX10_stands_12 (by decide) ?_
    refine lv_bipush (v := 6) hx hb dX10_stands_13 (by decide) ?_
    refine he_ci (wc := []) (wr := [(oX10 x0 y0 ta z0 p0 dr pa to_ s0 im ki tr v0 rf), (oX6 p0 p1 p2 p3 p4 (nI w)), (aI g p3 6 st), (oX1 v0 v1 v2 v3 ww dg), (aI g v1 3 wo), (aI g v2 3 he_), (aI g v3 3 pf)]) (va_runS (As := [.int (nI d), .int 0, .int 6]) (rest := [.ref x0]) ⟨hx, hb, hml, hown, hts⟩ (c_X10_within l g (nI d) 0 6 H.size) (va_cwS 3 hts gX10_stands_X10_within rfl rfl rfl (by decide +kernel) ⟨Nat.le_of_ble_eq_true rfl, Nat.le_of_ble_eq_true rfl⟩) (he_preS (wc := []) hK hP hD hS hA hE [] rfl rfl) rfl rfl hl.1 rfl (lv_room (Nat.le_of_ble_eq_true rfl)) dX10_stands_15 ⟨(Nat.le_of_ble_eq_true rfl), (Nat.le_of_ble_eq_true rfl)⟩) hP hD hS hA [] [0, 1, 2, 3, 4, 5, 6] rfl rfl rfl (by decide) (fun r_5 u_6 H locs h_7 hP hD hS => ?_)
    subst h_7
    have hP : va_P g.1 vwCl [(oX10 x0 y0 ta z0 p0 dr pa to_ s0 im ki tr v0 rf), (oX6 p0 p1 p2 p3 p4 (nI w)), (aI g p3 6 st), (oX1 v0 v1 v2 v3 ww dg), (aI g v1 3 wo), (aI g v2 3 he_), (aI g v3 3 pf)] H := hP
    have hD : va_D A [(oX10 x0 y0 ta z0 p0 dr pa to_ s0 im ki tr v0 rf), (oX6 p0 p1 p2 p3 p4 (nI w)), (aI g p3 6 st), (oX1 v0 v1 v2 v3 ww dg), (aI g v1 3 wo), (aI g v2 3 he_), (aI g v3 3 pf)] := hD
    refine he_top (1) (he_within_in (a0 := 0) (B := 6) rfl rfl (by omega) (by omega) (by decide)) ?_
    refine lv_if_eq (tgt := 25) hx hb dX10_stands_18 (by decide) (fun c_8 => ?_) (fun c_8 => ?_)
    · exact absurd c_8 (by decide)
    · refine lv_iconst (v := 1) hx hb dX10_stands_21 (by decide) ?_
      refine lv_goto (tgt := 26) hx hb dX10_stands_22 (by decide) ?_
      refine he_cv (wc := []) (wr := [(oX10 x0 y0 ta z0 p0 dr pa to_ s0 im ki tr v0 rf), (oX6 p0 p1 p2 p3 p4 (nI w)), (aI g p3 6 st), (oX1 v0 v1 v2 v3 ww dg), (aI g v1 3 wo), (aI g v2 3 he_), (aI g v3 3 pf)]) (va_runV (As := [.int 1]) (rest := []) ⟨hx, hb, hml, hown, hts⟩ (c_X10_demand1 l g x0 H.size) (cwV 1 hts gX10_stands_X10_demand rfl rfl rfl (by decide +kernel) ⟨Nat.le_of_ble_eq_true rfl, Nat.le_of_ble_eq_true rfl⟩) (he_preV (wc := []) hK hP hD hS hA hE [] rfl rfl 0 rfl rfl) rfl rfl hl.1 rfl (lv_room (Nat.le_of_ble_eq_true rfl)) dX10_stands_26 ⟨(Nat.le_of_ble_eq_true rfl), (Nat.le_of_ble_eq_true rfl)⟩) hP hD hS hA [] [0, 1, 2, 3, 4, 5, 6] rfl rfl rfl (by decide) (fun u_10 H locs h_11 hP hD hS => ?_)
      have hP : va_P g.1 vwCl [(oX10 x0 y0 ta z0 p0 dr pa to_ s0 im ki tr v0 rf), (oX6 p0 p1 p2 p3 p4 (nI w)), (aI g p3 6 st), (oX1 v0 v1 v2 v3 ww dg), (aI g v1 3 wo), (aI g v2 3 he_), (aI g v3 3 pf)] H := hP
      have hD : va_D A [(oX10 x0 y0 ta z0 p0 dr pa to_ s0 im ki tr v0 rf), (oX6 p0 p1 p2 p3 p4 (nI w)), (aI g p3 6 st), (oX1 v0 v1 v2 v3 ww dg), (aI g v1 3 wo), (aI g v2 3 he_), (aI g v3 3 pf)] := hD
      refine lv_aload_n hx hb dX10_stands_29 rfl (lv_at hl 0 rfl) ?_
      refine va_get (v := .ref v0) (T := TX10) (N := 13) hx hb hts inX10 hown hK hP 0 rfl rfl 11 (by decide) f57 (fun _ h9 => h9) rfl dX10_stands_30 ?_
      refine lv_aload_n hx hb dX10_stands_33 rfl (lv_at hl 0 rfl) ?_
      refine va_get (v := .ref p0) (T := TX10) (N := 13) hx hb hts inX10 hown hK hP 0 rfl rfl 3 (by decide) f23 (fun _ h9 => h9) rfl dX10_stands_34 ?_
      refine he_cv (wc := [(oX1 v0 v1 v2 v3 ww dg), (aI g v1 3 wo), (aI g v2 3 he_), (aI g v3 3 pf), (oX6 p0 p1 p2 p3 p4 (nI w)), (aI g p3 6 st)]) (wr := [(oX10 x0 y0 ta z0 p0 dr pa to_ s0 im ki tr v0 rf)]) (va_runV (As := [.ref p0]) (rest := []) ⟨hx, hb, hml, hown, hts⟩ (g_X1_prepare l g v0 v1 v2 v3 ww dg wo he_ pf p0 p1 p2 p3 p4 w st (by first | assumption | decide | omega) H.size) (cwV 1 hts gX10_stands_X1_prepare rfl rfl rfl (by decide +kernel) ⟨Nat.le_of_ble_eq_true rfl, Nat.le_of_ble_eq_true rfl⟩) (he_preV (wc := [(oX1 v0 v1 v2 v3 ww dg), (aI g v1 3 wo), (aI g v2 3 he_), (aI g v3 3 pf), (oX6 p0 p1 p2 p3 p4 (nI w)), (aI g p3 6 st)]) hK hP hD hS hA hE [3, 4, 5, 6, 1, 2] rfl rfl 3 rfl rfl) rfl rfl hl.1 rfl (lv_room (Nat.le_of_ble_eq_true rfl)) dX10_stands_37 ⟨(Nat.le_of_ble_eq_true rfl), (Nat.le_of_ble_eq_true rfl)⟩) hP hD hS hA [3, 4, 5, 6, 1, 2] [0] rfl rfl rfl (by decide) (fun u_13 H locs h_14 hP hD hS => ?_)
      obtain ⟨uv_15, uo_16, uh_17⟩ := u_13
      try dsimp only at h_14
      have hf_18 := h_14
      have hP : va_P g.1 vwCl [(oX10 x0 y0 ta z0 p0 dr pa to_ s0 im ki tr v0 rf), (oX1 v0 v1 v2 v3 (nI uv_15) dg), (aI g v1 3 uo_16), (aI g v2 3 uh_17), (aI g v3 3 pf), (oX6 p0 p1 p2 p3 p4 (nI w)), (aI g p3 6 st)] H := hP
      have hD : va_D A [(oX10 x0 y0 ta z0 p0 dr pa to_ s0 im ki tr v0 rf), (oX1 v0 v1 v2 v3 (nI uv_15) dg), (aI g v1 3 uo_16), (aI g v2 3 uh_17), (aI g v3 3 pf), (oX6 p0 p1 p2 p3 p4 (nI w)), (aI g p3 6 st)] := hD
      refine lv_aload_n hx hb dX10_stands_40 rfl (lv_at hl 0 rfl) ?_
      refine va_get (v := .ref v0) (T := TX10) (N := 13) hx hb hts inX10 hown hK hP 0 rfl rfl 11 (by decide) f57 (fun _ h9 => h9) rfl dX10_stands_41 ?_
      refine lv_aload_n hx hb dX10_stands_44 rfl (lv_at hl 0 rfl) ?_
      refine va_get (v := .ref v0) (T := TX10) (N := 13) hx hb hts inX10 hown hK hP 0 rfl rfl 11 (by decide) f57 (fun _ h9 => h9) rfl dX10_stands_45 ?_
      refine he_ci (wc := [(oX1 v0 v1 v2 v3 (nI uv_15) dg), (aI g v1 3 uo_16), (aI g v2 3 uh_17), (aI g v3 3 pf)]) (wr := [(oX10 x0 y0 ta z0 p0 dr pa to_ s0 im ki tr v0 rf), (oX6 p0 p1 p2 p3 p4 (nI w)), (aI g p3 6 st)]) (va_runV (As := []) (rest := [.ref v0]) ⟨hx, hb, hml, hown, hts⟩ (g_X1_all l g v0 v1 v2 v3 uv_15 dg uo_16 uh_17 pf (by first | assumption | decide | omega) H.size) (cwV 0 hts gX10_stands_X1_all rfl rfl rfl (by decide +kernel) ⟨Nat.le_of_ble_eq_true rfl, Nat.le_of_ble_eq_true rfl⟩) (he_preV (wc := [(oX1 v0 v1 v2 v3 (nI uv_15) dg), (aI g v1 3 uo_16), (aI g v2 3 uh_17), (aI g v3 3 pf)]) hK hP hD hS hA hE [1, 2, 3, 4] rfl rfl 1 rfl rfl) rfl rfl hl.1 rfl (lv_room (Nat.le_of_ble_eq_true rfl)) dX10_stands_48 ⟨(Nat.le_of_ble_eq_true rfl), (Nat.le_of_ble_eq_true rfl)⟩) hP hD hS hA [1, 2, 3, 4] [0, 5, 6] rfl rfl rfl (by decide) (fun r_19 u_20 H locs h_21 hP hD hS => ?_)
      subst h_21
      have hP : va_P g.1 vwCl [(oX10 x0 y0 ta z0 p0 dr pa to_ s0 im ki tr v0 rf), (oX6 p0 p1 p2 p3 p4 (nI w)), (aI g p3 6 st), (oX1 v0 v1 v2 v3 (nI uv_15) dg), (aI g v1 3 uo_16), (aI g v2 3 uh_17), (aI g v3 3 pf)] H := hP
      have hD : va_D A [(oX10 x0 y0 ta z0 p0 dr pa to_ s0 im ki tr v0 rf), (oX6 p0 p1 p2 p3 p4 (nI w)), (aI g p3 6 st), (oX1 v0 v1 v2 v3 (nI uv_15) dg), (aI g v1 3 uo_16), (aI g v2 3 uh_17), (aI g v3 3 pf)] := hD
      refine lv_iload_n hx hb dX10_stands_51 rfl (lv_at hl 1 rfl) ?_
      refine lv_iload_n hx hb dX10_stands_52 rfl (lv_at hl 2 rfl) ?_
      refine he_ci (wc := [(oX1 v0 v1 v2 v3 (nI uv_15) dg), (aI g v1 3 uo_16), (aI g v2 3 uh_17), (aI g v3 3 pf)]) (wr := [(oX10 x0 y0 ta z0 p0 dr pa to_ s0 im ki tr v0 rf), (oX6 p0 p1 p2 p3 p4 (nI w)), (aI g p3 6 st)]) (va_runV (As := [.int (nI (allN uv_15)), .int (nI a), .int (nI d)]) (rest := []) ⟨hx, hb, hml, hown, hts⟩ (g_X1_safe l g v0 v1 v2 v3 uv_15 dg uo_16 uh_17 pf (nI (allN uv_15)) (nI a) d (by first | assumption | decide | omega) (by first | assumption | decide | omega) H.size) (cwV 3 hts gX10_stands_X1_safe rfl rfl rfl (by decide +kernel) ⟨Nat.le_of_ble_eq_true rfl, Nat.le_of_ble_eq_true rfl⟩) (he_preV (wc := [(oX1 v0 v1 v2 v3 (nI uv_15) dg), (aI g v1 3 uo_16), (aI g v2 3 uh_17), (aI g v3 3 pf)]) hK hP hD hS hA hE [3, 4, 5, 6] rfl rfl 3 rfl rfl) rfl rfl hl.1 rfl (lv_room (Nat.le_of_ble_eq_true rfl)) dX10_stands_53 ⟨(Nat.le_of_ble_eq_true rfl), (Nat.le_of_ble_eq_true rfl)⟩) hP hD hS hA [3, 4, 5, 6] [0, 1, 2] rfl rfl rfl (by decide) (fun r_22 u_23 H locs h_24 hP hD hS => ?_)
      obtain ⟨ud_25, uf_26⟩ := u_23
      have hP : va_P g.1 vwCl [(oX10 x0 y0 ta z0 p0 dr pa to_ s0 im ki tr v0 rf), (oX6 p0 p1 p2 p3 p4 (nI w)), (aI g p3 6 st), (oX1 v0 v1 v2 v3 (nI uv_15) ud_25), (aI g v1 3 uo_16), (aI g v2 3 uh_17), (aI g v3 3 uf_26)] H := hP
      have hD : va_D A [(oX10 x0 y0 ta z0 p0 dr pa to_ s0 im ki tr v0 rf), (oX6 p0 p1 p2 p3 p4 (nI w)), (aI g p3 6 st), (oX1 v0 v1 v2 v3 (nI uv_15) ud_25), (aI g v1 3 uo_16), (aI g v2 3 uh_17), (aI g v3 3 uf_26)] := hD
      refine lv_pop hx hb dX10_stands_56 rfl ?_
      refine lv_aload_n hx hb dX10_stands_57 rfl (lv_at hl 0 rfl) ?_
      refine va_get (v := .ref v0) (T := TX10) (N := 13) hx hb hts inX10 hown hK hP 0 rfl rfl 11 (by decide) f57 (fun _ h9 => h9) rfl dX10_stands_58 ?_
      refine va_get (v := .int ud_25) (T := TX1) (N := 5) hx hb hts inX1 hown hK hP 3 rfl rfl 4 (by decide) f226 (fun _ h9 => h9) rfl dX10_stands_61 ?_
      exact he_ri hQ hx hb hr hlk hP hD hS dX10_stands_64 (Nat.le_of_ble_eq_true rfl) (Nat.le_of_ble_eq_true rfl) ((uv_15, ud_25, uo_16, uh_17, uf_26)) (rfl) (trivial)
set_option maxHeartbeats 4000000 in
set_option maxRecDepth 100000 in
theorem g_X10_show (l : Launch) (g : he_G) (x0 : Nat) (y0 : Nat) (z0 : Nat) (dr : Nat) (pa : Nat) (s0 : Nat) (im : Nat) (tr : Nat) (v0 : Nat) (rf : Nat) (ta : Int32) (to_ : Int32) (ki : Int32) (p0 : Nat) (p1 : Nat) (p2 : Nat) (p3 : Nat) (p4 : Nat) (w : Nat) (st : Nat → Int32) (v1 : Nat) (v2 : Nat) (v3 : Nat) (ww : Int32) (dg : Int32) (wo : Nat → Int32) (he_ : Nat → Int32) (pf : Nat → Int32) (a : Nat) (d : Nat) (hw6 : w ≤ 6) (ha6 : a ≤ 6) (hd6 : d ≤ 6) : he_I l yX10_show wsX10_show 3 74 0 0 g [.ref x0, .int (nI a), .int (nI d)] [(oX10 x0 y0 ta z0 p0 dr pa to_ s0 im ki tr v0 rf), (oX6 p0 p1 p2 p3 p4 (nI w)), (aI g p3 6 st), (oX1 v0 v1 v2 v3 ww dg), (aI g v1 3 wo), (aI g v2 3 he_), (aI g v3 3 pf)] (fun (r : Int32) (u : Nat × Int32 × (Nat → Int32) × (Nat → Int32) × (Nat → Int32)) => True) (fun (u : Nat × Int32 × (Nat → Int32) × (Nat → Int32) × (Nat → Int32)) => [(oX10 x0 y0 ta z0 p0 dr pa to_ s0 im ki tr v0 rf), (oX6 p0 p1 p2 p3 p4 (nI w)), (aI g p3 6 st), (oX1 v0 v1 v2 v3 (nI u.1) u.2.1), (aI g v1 3 u.2.2.1), (aI g v2 3 u.2.2.2.1), (aI g v3 3 u.2.2.2.2)]) := by
  refine he_begin (l := l) (g := g) (y := yX10_show) (wl := wsX10_show) (fr := 3) (lo := 74) (mc := 0) (ms := 0) (av := [.ref x0, .int (nI a), .int (nI d)]) (ws := [(oX10 x0 y0 ta z0 p0 dr pa to_ s0 im ki tr v0 rf), (oX6 p0 p1 p2 p3 p4 (nI w)), (aI g p3 6 st), (oX1 v0 v1 v2 v3 ww dg), (aI g v1 3 wo), (aI g v2 3 he_), (aI g v3 3 pf)]) (cc := cX10_show) (maxL := 7) (ret := (some .int)) (fun A => va_Qi (fun (r : Int32) (u : Nat × Int32 × (Nat → Int32) × (Nat → Int32) × (Nat → Int32)) => True) (fun u t => he_post g A ((fun (u : Nat × Int32 × (Nat → Int32) × (Nat → Int32) × (Nat → Int32)) => [(oX10 x0 y0 ta z0 p0 dr pa to_ s0 im ki tr v0 rf), (oX6 p0 p1 p2 p3 p4 (nI w)), (aI g p3 6 st), (oX1 v0 v1 v2 v3 (nI u.1) u.2.1), (aI g v1 3 u.2.2.1), (aI g v2 3 u.2.2.2.1), (aI g v3 3 u.2.2.2.2)]) u) t) A) (by decide) rfl (Nat.le_of_ble_eq_true rfl) ?_
  intro p e s m args below meth c A ls H locs Q hQ hB
  obtain ⟨hx, hb, hr, hml, hown, hts, hlk, hin, hP, hK, hD, hS, hA, hE, hl⟩ := hB
  have hl : lv_has ls 7 [(0, .ref x0), (1, .int (nI a)), (2, .int (nI d))] := hl
  have f57 := hts (.fieldLink RX10 57 "HiredEnemy" "battle" "LHiredEnemy$Battle;") (iwoX10_show (k := 0) rfl)
  have inX10 : ∀ w ∈ wsX100, w ∈ wsX10_show := innX10_show_X10
  have f23 := hts (.fieldLink RX10 23 "HiredEnemy" "plan" "LHiredEnemy$Plan;") (iwoX10_show (k := 1) rfl)
  have f229 := hts (.fieldLink RX10 229 "HiredEnemy$Battle" "walls" "I") (iwoX10_show (k := 2) rfl)
  have inX1 : ∀ w ∈ wsX10, w ∈ wsX10_show := innX10_show_X1
  refine lv_aload_n hx hb dX10_show_0 rfl (lv_at hl 0 rfl) ?_
  refine lv_iload_n hx hb dX10_show_1 rfl (lv_at hl 1 rfl) ?_
  refine lv_iconst (v := 0) hx hb dX10_show_2 (by decide) ?_
  refine lv_bipush (v := 6) hx hb dX10_show_3 (by decide) ?_
  refine he_ci (wc := []) (wr := [(oX10 x0 y0 ta z0 p0 dr pa to_ s0 im ki tr v0 rf), (oX6 p0 p1 p2 p3 p4 (nI w)), (aI g p3 6 st), (oX1 v0 v1 v2 v3 ww dg), (aI g v1 3 wo), (aI g v2 3 he_), (aI g v3 3 pf)]) (va_runS (As := [.int (nI a), .int 0, .int 6]) (rest := [.ref x0]) ⟨hx, hb, hml, hown, hts⟩ (c_X10_within l g (nI a) 0 6 H.size) (va_cwS 3 hts gX10_show_X10_within rfl rfl rfl (by decide +kernel) ⟨Nat.le_of_ble_eq_true rfl, Nat.le_of_ble_eq_true rfl⟩) (he_preS (wc := []) hK hP hD hS hA hE [] rfl rfl) rfl rfl hl.1 rfl (lv_room (Nat.le_of_ble_eq_true rfl)) dX10_show_5 ⟨(Nat.le_of_ble_eq_true rfl), (Nat.le_of_ble_eq_true rfl)⟩) hP hD hS hA [] [0, 1, 2, 3, 4, 5, 6] rfl rfl rfl (by decide) (fun r_1 u_2 H locs h_3 hP hD hS => ?_)
  subst h_3
  have hP : va_P g.1 vwCl [(oX10 x0 y0 ta z0 p0 dr pa to_ s0 im ki tr v0 rf), (oX6 p0 p1 p2 p3 p4 (nI w)), (aI g p3 6 st), (oX1 v0 v1 v2 v3 ww dg), (aI g v1 3 wo), (aI g v2 3 he_), (aI g v3 3 pf)] H := hP
  have hD : va_D A [(oX10 x0 y0 ta z0 p0 dr pa to_ s0 im ki tr v0 rf), (oX6 p0 p1 p2 p3 p4 (nI w)), (aI g p3 6 st), (oX1 v0 v1 v2 v3 ww dg), (aI g v1 3 wo), (aI g v2 3 he_), (aI g v3 3 pf)] := hD
  refine he_top (1) (he_within_in (a0 := 0) (B := 6) rfl rfl (by omega) (by omega) (by decide)) ?_
  refine lv_if_eq (tgt := 25) hx hb dX10_show_8 (by decide) (fun c_4 => ?_) (fun c_4 => ?_)
  · exact absurd c_4 (by decide)
  · refine lv_iload_n hx hb dX10_show_11 rfl (lv_at hl 2 rfl) ?_
    refine lv_iconst (v := 0) hx hb dX10_show_12 (by decide) ?_
    refine lv_bipush (v := 6) hx hb dX10_show_13 (by decide) ?_
    refine he_ci (wc := []) (wr := [(oX10 x0 y0 ta z0 p0 dr pa to_ s0 im ki tr v0 rf), (oX6 p0 p1 p2 p3 p4 (nI w)), (aI g p3 6 st), (oX1 v0 v1 v2 v3 ww dg), (aI g v1 3 wo), (aI g v2 3 he_), (aI g v3 3 pf)]) (va_runS (As := [.int (nI d), .int 0, .int 6]) (rest := [.ref x0]) ⟨hx, hb, hml, hown, hts⟩ (c_X10_within l g (nI d) 0 6 H.size) (va_cwS 3 hts gX10_show_X10_within rfl rfl rfl (by decide +kernel) ⟨Nat.le_of_ble_eq_true rfl, Nat.le_of_ble_eq_true rfl⟩) (he_preS (wc := []) hK hP hD hS hA hE [] rfl rfl) rfl rfl hl.1 rfl (lv_room (Nat.le_of_ble_eq_true rfl)) dX10_show_15 ⟨(Nat.le_of_ble_eq_true rfl), (Nat.le_of_ble_eq_true rfl)⟩) hP hD hS hA [] [0, 1, 2, 3, 4, 5, 6] rfl rfl rfl (by decide) (fun r_5 u_6 H locs h_7 hP hD hS => ?_)
    subst h_7
    have hP : va_P g.1 vwCl [(oX10 x0 y0 ta z0 p0 dr pa to_ s0 im ki tr v0 rf), (oX6 p0 p1 p2 p3 p4 (nI w)), (aI g p3 6 st), (oX1 v0 v1 v2 v3 ww dg), (aI g v1 3 wo), (aI g v2 3 he_), (aI g v3 3 pf)] H := hP
    have hD : va_D A [(oX10 x0 y0 ta z0 p0 dr pa to_ s0 im ki tr v0 rf), (oX6 p0 p1 p2 p3 p4 (nI w)), (aI g p3 6 st), (oX1 v0 v1 v2 v3 ww dg), (aI g v1 3 wo), (aI g v2 3 he_), (aI g v3 3 pf)] := hD
    refine he_top (1) (he_within_in (a0 := 0) (B := 6) rfl rfl (by omega) (by omega) (by decide)) ?_
    refine lv_if_eq (tgt := 25) hx hb dX10_show_18 (by decide) (fun c_8 => ?_) (fun c_8 => ?_)
    · exact absurd c_8 (by decide)
    · refine lv_iconst (v := 1) hx hb dX10_show_21 (by decide) ?_
      refine lv_goto (tgt := 26) hx hb dX10_show_22 (by decide) ?_
      refine he_cv (wc := []) (wr := [(oX10 x0 y0 ta z0 p0 dr pa to_ s0 im ki tr v0 rf), (oX6 p0 p1 p2 p3 p4 (nI w)), (aI g p3 6 st), (oX1 v0 v1 v2 v3 ww dg), (aI g v1 3 wo), (aI g v2 3 he_), (aI g v3 3 pf)]) (va_runV (As := [.int 1]) (rest := []) ⟨hx, hb, hml, hown, hts⟩ (c_X10_demand1 l g x0 H.size) (cwV 1 hts gX10_show_X10_demand rfl rfl rfl (by decide +kernel) ⟨Nat.le_of_ble_eq_true rfl, Nat.le_of_ble_eq_true rfl⟩) (he_preV (wc := []) hK hP hD hS hA hE [] rfl rfl 0 rfl rfl) rfl rfl hl.1 rfl (lv_room (Nat.le_of_ble_eq_true rfl)) dX10_show_26 ⟨(Nat.le_of_ble_eq_true rfl), (Nat.le_of_ble_eq_true rfl)⟩) hP hD hS hA [] [0, 1, 2, 3, 4, 5, 6] rfl rfl rfl (by decide) (fun u_10 H locs h_11 hP hD hS => ?_)
      have hP : va_P g.1 vwCl [(oX10 x0 y0 ta z0 p0 dr pa to_ s0 im ki tr v0 rf), (oX6 p0 p1 p2 p3 p4 (nI w)), (aI g p3 6 st), (oX1 v0 v1 v2 v3 ww dg), (aI g v1 3 wo), (aI g v2 3 he_), (aI g v3 3 pf)] H := hP
      have hD : va_D A [(oX10 x0 y0 ta z0 p0 dr pa to_ s0 im ki tr v0 rf), (oX6 p0 p1 p2 p3 p4 (nI w)), (aI g p3 6 st), (oX1 v0 v1 v2 v3 ww dg), (aI g v1 3 wo), (aI g v2 3 he_), (aI g v3 3 pf)] := hD
      refine lv_aload_n hx hb dX10_show_29 rfl (lv_at hl 0 rfl) ?_
      refine va_get (v := .ref v0) (T := TX10) (N := 13) hx hb hts inX10 hown hK hP 0 rfl rfl 11 (by decide) f57 (fun _ h9 => h9) rfl dX10_show_30 ?_
      refine lv_aload_n hx hb dX10_show_33 rfl (lv_at hl 0 rfl) ?_
      refine va_get (v := .ref p0) (T := TX10) (N := 13) hx hb hts inX10 hown hK hP 0 rfl rfl 3 (by decide) f23 (fun _ h9 => h9) rfl dX10_show_34 ?_
      refine he_cv (wc := [(oX1 v0 v1 v2 v3 ww dg), (aI g v1 3 wo), (aI g v2 3 he_), (aI g v3 3 pf), (oX6 p0 p1 p2 p3 p4 (nI w)), (aI g p3 6 st)]) (wr := [(oX10 x0 y0 ta z0 p0 dr pa to_ s0 im ki tr v0 rf)]) (va_runV (As := [.ref p0]) (rest := []) ⟨hx, hb, hml, hown, hts⟩ (g_X1_prepare l g v0 v1 v2 v3 ww dg wo he_ pf p0 p1 p2 p3 p4 w st (by first | assumption | decide | omega) H.size) (cwV 1 hts gX10_show_X1_prepare rfl rfl rfl (by decide +kernel) ⟨Nat.le_of_ble_eq_true rfl, Nat.le_of_ble_eq_true rfl⟩) (he_preV (wc := [(oX1 v0 v1 v2 v3 ww dg), (aI g v1 3 wo), (aI g v2 3 he_), (aI g v3 3 pf), (oX6 p0 p1 p2 p3 p4 (nI w)), (aI g p3 6 st)]) hK hP hD hS hA hE [3, 4, 5, 6, 1, 2] rfl rfl 3 rfl rfl) rfl rfl hl.1 rfl (lv_room (Nat.le_of_ble_eq_true rfl)) dX10_show_37 ⟨(Nat.le_of_ble_eq_true rfl), (Nat.le_of_ble_eq_true rfl)⟩) hP hD hS hA [3, 4, 5, 6, 1, 2] [0] rfl rfl rfl (by decide) (fun u_13 H locs h_14 hP hD hS => ?_)
      obtain ⟨uv_15, uo_16, uh_17⟩ := u_13
      try dsimp only at h_14
      have hf_18 := h_14
      have hP : va_P g.1 vwCl [(oX10 x0 y0 ta z0 p0 dr pa to_ s0 im ki tr v0 rf), (oX1 v0 v1 v2 v3 (nI uv_15) dg), (aI g v1 3 uo_16), (aI g v2 3 uh_17), (aI g v3 3 pf), (oX6 p0 p1 p2 p3 p4 (nI w)), (aI g p3 6 st)] H := hP
      have hD : va_D A [(oX10 x0 y0 ta z0 p0 dr pa to_ s0 im ki tr v0 rf), (oX1 v0 v1 v2 v3 (nI uv_15) dg), (aI g v1 3 uo_16), (aI g v2 3 uh_17), (aI g v3 3 pf), (oX6 p0 p1 p2 p3 p4 (nI w)), (aI g p3 6 st)] := hD
      refine lv_aload_n hx hb dX10_show_40 rfl (lv_at hl 0 rfl) ?_
      refine va_get (v := .ref v0) (T := TX10) (N := 13) hx hb hts inX10 hown hK hP 0 rfl rfl 11 (by decide) f57 (fun _ h9 => h9) rfl dX10_show_41 ?_
      refine lv_aload_n hx hb dX10_show_44 rfl (lv_at hl 0 rfl) ?_
      refine va_get (v := .ref v0) (T := TX10) (N := 13) hx hb hts inX10 hown hK hP 0 rfl rfl 11 (by decide) f57 (fun _ h9 => h9) rfl dX10_show_45 ?_
      refine he_ci (wc := [(oX1 v0 v1 v2 v3 (nI uv_15) dg), (aI g v1 3 uo_16), (aI g v2 3 uh_17), (aI g v3 3 pf)]) (wr := [(oX10 x0 y0 ta z0 p0 dr pa to_ s0 im ki tr v0 rf), (oX6 p0 p1 p2 p3 p4 (nI w)), (aI g p3 6 st)]) (va_runV (As := []) (rest := [.ref v0]) ⟨hx, hb, hml, hown, hts⟩ (g_X1_all l g v0 v1 v2 v3 uv_15 dg uo_16 uh_17 pf (by first | assumption | decide | omega) H.size) (cwV 0 hts gX10_show_X1_all rfl rfl rfl (by decide +kernel) ⟨Nat.le_of_ble_eq_true rfl, Nat.le_of_ble_eq_true rfl⟩) (he_preV (wc := [(oX1 v0 v1 v2 v3 (nI uv_15) dg), (aI g v1 3 uo_16), (aI g v2 3 uh_17), (aI g v3 3 pf)]) hK hP hD hS hA hE [1, 2, 3, 4] rfl rfl 1 rfl rfl) rfl rfl hl.1 rfl (lv_room (Nat.le_of_ble_eq_true rfl)) dX10_show_48 ⟨(Nat.le_of_ble_eq_true rfl), (Nat.le_of_ble_eq_true rfl)⟩) hP hD hS hA [1, 2, 3, 4] [0, 5, 6] rfl rfl rfl (by decide) (fun r_19 u_20 H locs h_21 hP hD hS => ?_)
      subst h_21
      have hP : va_P g.1 vwCl [(oX10 x0 y0 ta z0 p0 dr pa to_ s0 im ki tr v0 rf), (oX6 p0 p1 p2 p3 p4 (nI w)), (aI g p3 6 st), (oX1 v0 v1 v2 v3 (nI uv_15) dg), (aI g v1 3 uo_16), (aI g v2 3 uh_17), (aI g v3 3 pf)] H := hP
      have hD : va_D A [(oX10 x0 y0 ta z0 p0 dr pa to_ s0 im ki tr v0 rf), (oX6 p0 p1 p2 p3 p4 (nI w)), (aI g p3 6 st), (oX1 v0 v1 v2 v3 (nI uv_15) dg), (aI g v1 3 uo_16), (aI g v2 3 uh_17), (aI g v3 3 pf)] := hD
      refine lv_iload_n hx hb dX10_show_51 rfl (lv_at hl 1 rfl) ?_
      refine lv_iload_n hx hb dX10_show_52 rfl (lv_at hl 2 rfl) ?_
      refine he_ci (wc := [(oX1 v0 v1 v2 v3 (nI uv_15) dg), (aI g v1 3 uo_16), (aI g v2 3 uh_17), (aI g v3 3 pf)]) (wr := [(oX10 x0 y0 ta z0 p0 dr pa to_ s0 im ki tr v0 rf), (oX6 p0 p1 p2 p3 p4 (nI w)), (aI g p3 6 st)]) (va_runV (As := [.int (nI (allN uv_15)), .int (nI a), .int (nI d)]) (rest := []) ⟨hx, hb, hml, hown, hts⟩ (g_X1_safe l g v0 v1 v2 v3 uv_15 dg uo_16 uh_17 pf (nI (allN uv_15)) (nI a) d (by first | assumption | decide | omega) (by first | assumption | decide | omega) H.size) (cwV 3 hts gX10_show_X1_safe rfl rfl rfl (by decide +kernel) ⟨Nat.le_of_ble_eq_true rfl, Nat.le_of_ble_eq_true rfl⟩) (he_preV (wc := [(oX1 v0 v1 v2 v3 (nI uv_15) dg), (aI g v1 3 uo_16), (aI g v2 3 uh_17), (aI g v3 3 pf)]) hK hP hD hS hA hE [3, 4, 5, 6] rfl rfl 3 rfl rfl) rfl rfl hl.1 rfl (lv_room (Nat.le_of_ble_eq_true rfl)) dX10_show_53 ⟨(Nat.le_of_ble_eq_true rfl), (Nat.le_of_ble_eq_true rfl)⟩) hP hD hS hA [3, 4, 5, 6] [0, 1, 2] rfl rfl rfl (by decide) (fun r_22 u_23 H locs h_24 hP hD hS => ?_)
      obtain ⟨ud_25, uf_26⟩ := u_23
      have hP : va_P g.1 vwCl [(oX10 x0 y0 ta z0 p0 dr pa to_ s0 im ki tr v0 rf), (oX6 p0 p1 p2 p3 p4 (nI w)), (aI g p3 6 st), (oX1 v0 v1 v2 v3 (nI uv_15) ud_25), (aI g v1 3 uo_16), (aI g v2 3 uh_17), (aI g v3 3 uf_26)] H := hP
      have hD : va_D A [(oX10 x0 y0 ta z0 p0 dr pa to_ s0 im ki tr v0 rf), (oX6 p0 p1 p2 p3 p4 (nI w)), (aI g p3 6 st), (oX1 v0 v1 v2 v3 (nI uv_15) ud_25), (aI g v1 3 uo_16), (aI g v2 3 uh_17), (aI g v3 3 uf_26)] := hD
      refine lv_istore_n (lv' := [(3, .int r_22), (0, .ref x0), (1, .int (nI a)), (2, .int (nI d))]) hx hb dX10_show_56 rfl hl (by decide) rfl (fun ls hl => ?_)
      refine lv_iconst (v := 0) hx hb dX10_show_57 (by decide) ?_
      refine lv_istore (lv' := [(4, .int 0), (3, .int r_22), (0, .ref x0), (1, .int (nI a)), (2, .int (nI d))]) hx hb dX10_show_58 hl (by decide) rfl (fun ls hl => ?_)
      refine lv_iconst (v := 0) hx hb dX10_show_60 (by decide) ?_
      refine lv_istore (lv' := [(5, .int 0), (4, .int 0), (3, .int r_22), (0, .ref x0), (1, .int (nI a)), (2, .int (nI d))]) hx hb dX10_show_61 hl (by decide) rfl (fun ls hl => ?_)
      have loop63 : ∀ (n9 : Nat) (j : Nat) (rs_ : Int32) (sd9 : Int32) (dd : Int32) (pu : Nat → Int32), 3 - j < n9 → (j ≤ 3) → ∀ (H : Heap) (locs : List Loc) (ls : Array Slot), va_P g.1 vwCl [(oX10 x0 y0 ta z0 p0 dr pa to_ s0 im ki tr v0 rf), (oX6 p0 p1 p2 p3 p4 (nI w)), (aI g p3 6 st), (oX1 v0 v1 v2 v3 (nI uv_15) dd), (aI g v1 3 uo_16), (aI g v2 3 uh_17), (aI g v3 3 pu)] H → va_D A [(oX10 x0 y0 ta z0 p0 dr pa to_ s0 im ki tr v0 rf), (oX6 p0 p1 p2 p3 p4 (nI w)), (aI g p3 6 st), (oX1 v0 v1 v2 v3 (nI uv_15) dd), (aI g v1 3 uo_16), (aI g v2 3 uh_17), (aI g v3 3 pu)] → va_S A s.heap H locs → lv_has ls 7 [(0, .ref x0), (1, .int (nI a)), (2, .int (nI d)), (3, .int sd9), (4, .int rs_), (5, .int (nI j))] → W p l e (he_room 3 74 0 0) s m args below meth c H locs 0 0 Q (F0 m 63 ls []) := by
        intro n9
        induction n9 with
        | zero => intro j rs_ sd9 dd pu hm9; exact absurd hm9 (Nat.not_lt_zero _)
        | succ n9 ih63 =>
          intro j rs_ sd9 dd pu hm9 hj H locs ls hP hD hS hl
          refine lv_iload hx hb dX10_show_63 (lv_at hl 5 rfl) ?_
          refine lv_aload_n hx hb dX10_show_65 rfl (lv_at hl 0 rfl) ?_
          refine va_get (v := .ref v0) (T := TX10) (N := 13) hx hb hts inX10 hown hK hP 0 rfl rfl 11 (by decide) f57 (fun _ h9 => h9) rfl dX10_show_66 ?_
          refine va_get (v := .int (nI uv_15)) (T := TX1) (N := 5) hx hb hts inX1 hown hK hP 3 rfl rfl 3 (by decide) f229 (fun _ h9 => h9) rfl dX10_show_69 ?_
          refine lv_icmp_ge (tgt := 121) hx hb dX10_show_72 (by decide) (fun c_27 => ?_) (fun c_27 => ?_)
          · refine lv_iload hx hb dX10_show_121 (lv_at hl 4 rfl) ?_
            exact he_ri hQ hx hb hr hlk hP hD hS dX10_show_123 (Nat.le_of_ble_eq_true rfl) (Nat.le_of_ble_eq_true rfl) ((uv_15, dd, uo_16, uh_17, pu)) (rfl) (trivial)
          · have hj9 : j < uv_15 := (he_clt (a := j) (b := uv_15) rfl rfl (by omega) (by omega)).mp (Int32.not_le.mp c_27)
            refine lv_aload_n hx hb dX10_show_75 rfl (lv_at hl 0 rfl) ?_
            refine va_get (v := .ref v0) (T := TX10) (N := 13) hx hb hts inX10 hown hK hP 0 rfl rfl 11 (by decide) f57 (fun _ h9 => h9) rfl dX10_show_76 ?_
            refine he_ci (wc := [(oX1 v0 v1 v2 v3 (nI uv_15) dd), (aI g v1 3 uo_16), (aI g v2 3 uh_17), (aI g v3 3 pu)]) (wr := [(oX10 x0 y0 ta z0 p0 dr pa to_ s0 im ki tr v0 rf), (oX6 p0 p1 p2 p3 p4 (nI w)), (aI g p3 6 st)]) (va_runV (As := []) (rest := []) ⟨hx, hb, hml, hown, hts⟩ (g_X1_all l g v0 v1 v2 v3 uv_15 dd uo_16 uh_17 pu (by first | assumption | decide | omega) H.size) (cwV 0 hts gX10_show_X1_all rfl rfl rfl (by decide +kernel) ⟨Nat.le_of_ble_eq_true rfl, Nat.le_of_ble_eq_true rfl⟩) (he_preV (wc := [(oX1 v0 v1 v2 v3 (nI uv_15) dd), (aI g v1 3 uo_16), (aI g v2 3 uh_17), (aI g v3 3 pu)]) hK hP hD hS hA hE [3, 4, 5, 6] rfl rfl 3 rfl rfl) rfl rfl hl.1 rfl (lv_room (Nat.le_of_ble_eq_true rfl)) dX10_show_79 ⟨(Nat.le_of_ble_eq_true rfl), (Nat.le_of_ble_eq_true rfl)⟩) hP hD hS hA [3, 4, 5, 6] [0, 1, 2] rfl rfl rfl (by decide) (fun r_28 u_29 H locs h_30 hP hD hS => ?_)
            subst h_30
            have hP : va_P g.1 vwCl [(oX10 x0 y0 ta z0 p0 dr pa to_ s0 im ki tr v0 rf), (oX6 p0 p1 p2 p3 p4 (nI w)), (aI g p3 6 st), (oX1 v0 v1 v2 v3 (nI uv_15) dd), (aI g v1 3 uo_16), (aI g v2 3 uh_17), (aI g v3 3 pu)] H := hP
            have hD : va_D A [(oX10 x0 y0 ta z0 p0 dr pa to_ s0 im ki tr v0 rf), (oX6 p0 p1 p2 p3 p4 (nI w)), (aI g p3 6 st), (oX1 v0 v1 v2 v3 (nI uv_15) dd), (aI g v1 3 uo_16), (aI g v2 3 uh_17), (aI g v3 3 pu)] := hD
            refine lv_iconst (v := 1) hx hb dX10_show_82 (by decide) ?_
            refine lv_iload hx hb dX10_show_83 (lv_at hl 5 rfl) ?_
            refine lv_ishl hx hb dX10_show_85 ?_
            refine lv_iconst (v := (-1)) hx hb dX10_show_86 (by decide) ?_
            refine lv_ixor hx hb dX10_show_87 ?_
            refine lv_iand hx hb dX10_show_88 ?_
            refine lv_istore (lv' := [(6, .int ((nI (allN uv_15)) &&& ((1 <<< ((nI j) &&& 31)) ^^^ (-1)))), (0, .ref x0), (1, .int (nI a)), (2, .int (nI d)), (3, .int sd9), (4, .int rs_), (5, .int (nI j))]) hx hb dX10_show_89 hl (by decide) rfl (fun ls hl => ?_)
            refine lv_aload_n hx hb dX10_show_91 rfl (lv_at hl 1 rfl) ?_
            refine va_get (v := .ref v0) (T := TX10) (N := 13) hx hb hts inX10 hown hK hP 0 rfl rfl 11 (by decide) f57 (fun _ h9 => h9) rfl dX10_show_92 ?_
            refine lv_iload hx hb dX10_show_95 (lv_at hl 0 rfl) ?_
            refine lv_iload_n hx hb dX10_show_97 rfl (lv_at hl 2 rfl) ?_
            refine lv_iload_n hx hb dX10_show_98 rfl (lv_at hl 3 rfl) ?_
            refine he_ci (wc := [(oX1 v0 v1 v2 v3 (nI uv_15) dd), (aI g v1 3 uo_16), (aI g v2 3 uh_17), (aI g v3 3 pu)]) (wr := [(oX10 x0 y0 ta z0 p0 dr pa to_ s0 im ki tr v0 rf), (oX6 p0 p1 p2 p3 p4 (nI w)), (aI g p3 6 st)]) (va_runV (As := [.int ((nI (allN uv_15)) &&& ((1 <<< ((nI j) &&& 31)) ^^^ (-1))), .int (nI a), .int (nI d)]) (rest := []) ⟨hx, hb, hml, hown, hts⟩ (g_X1_safe l g v0 v1 v2 v3 uv_15 dd uo_16 uh_17 pu ((nI (allN uv_15)) &&& ((1 <<< ((nI j) &&& 31)) ^^^ (-1))) (nI a) d (by first | assumption | decide | omega) (by first | assumption | decide | omega) H.size) (cwV 3 hts gX10_show_X1_safe rfl rfl rfl (by decide +kernel) ⟨Nat.le_of_ble_eq_true rfl, Nat.le_of_ble_eq_true rfl⟩) (he_preV (wc := [(oX1 v0 v1 v2 v3 (nI uv_15) dd), (aI g v1 3 uo_16), (aI g v2 3 uh_17), (aI g v3 3 pu)]) hK hP hD hS hA hE [3, 4, 5, 6] rfl rfl 3 rfl rfl) rfl rfl hl.1 rfl (lv_room (Nat.le_of_ble_eq_true rfl)) dX10_show_99 ⟨(Nat.le_of_ble_eq_true rfl), (Nat.le_of_ble_eq_true rfl)⟩) hP hD hS hA [3, 4, 5, 6] [0, 1, 2] rfl rfl rfl (by decide) (fun r_31 u_32 H locs h_33 hP hD hS => ?_)
            obtain ⟨ud_34, uf_35⟩ := u_32
            have hP : va_P g.1 vwCl [(oX10 x0 y0 ta z0 p0 dr pa to_ s0 im ki tr v0 rf), (oX6 p0 p1 p2 p3 p4 (nI w)), (aI g p3 6 st), (oX1 v0 v1 v2 v3 (nI uv_15) ud_34), (aI g v1 3 uo_16), (aI g v2 3 uh_17), (aI g v3 3 uf_35)] H := hP
            have hD : va_D A [(oX10 x0 y0 ta z0 p0 dr pa to_ s0 im ki tr v0 rf), (oX6 p0 p1 p2 p3 p4 (nI w)), (aI g p3 6 st), (oX1 v0 v1 v2 v3 (nI uv_15) ud_34), (aI g v1 3 uo_16), (aI g v2 3 uh_17), (aI g v3 3 uf_35)] := hD
            refine lv_iload_n hx hb dX10_show_102 rfl (lv_at hl 4 rfl) ?_
            refine lv_icmp_ne (tgt := 115) hx hb dX10_show_103 (by decide) (fun c_36 => ?_) (fun c_36 => ?_)
            · refine lv_iinc (v := nI (j + 1)) (lv' := [(5, .int (nI (j + 1))), (6, .int ((nI (allN uv_15)) &&& ((1 <<< ((nI j) &&& 31)) ^^^ (-1)))), (0, .ref x0), (1, .int (nI a)), (2, .int (nI d)), (3, .int sd9), (4, .int rs_)]) hx hb dX10_show_115 hl (k := 6) rfl (nI_1 j) (by decide) rfl (fun ls hl => ?_)
              refine lv_goto (tgt := 63) hx hb dX10_show_118 (by decide) ?_
              exact ih63 (j + 1) rs_ sd9 ud_34 uf_35 (by omega) (by omega) _ _ _ hP hD hS (lv_sub hl [2, 3, 4, 5, 6, 0] rfl)
            · refine lv_iload hx hb dX10_show_106 (lv_at hl 5 rfl) ?_
              refine lv_iconst (v := 1) hx hb dX10_show_108 (by decide) ?_
              refine lv_iload hx hb dX10_show_109 (lv_at hl 6 rfl) ?_
              refine lv_ishl hx hb dX10_show_111 ?_
              refine lv_ior hx hb dX10_show_112 ?_
              refine lv_istore (lv' := [(4, .int (rs_ ||| (1 <<< ((nI j) &&& 31)))), (6, .int ((nI (allN uv_15)) &&& ((1 <<< ((nI j) &&& 31)) ^^^ (-1)))), (0, .ref x0), (1, .int (nI a)), (2, .int (nI d)), (3, .int sd9), (5, .int (nI j))]) hx hb dX10_show_113 hl (by decide) rfl (fun ls hl => ?_)
              refine lv_iinc (v := nI (j + 1)) (lv' := [(5, .int (nI (j + 1))), (4, .int (rs_ ||| (1 <<< ((nI j) &&& 31)))), (6, .int ((nI (allN uv_15)) &&& ((1 <<< ((nI j) &&& 31)) ^^^ (-1)))), (0, .ref x0), (1, .int (nI a)), (2, .int (nI d)), (3, .int sd9)]) hx hb dX10_show_115 hl (k := 6) rfl (nI_1 j) (by decide) rfl (fun ls hl => ?_)
              refine lv_goto (tgt := 63) hx hb dX10_show_118 (by decide) ?_
              exact ih63 (j + 1) (rs_ ||| (1 <<< ((nI j) &&& 31))) sd9 ud_34 uf_35 (by omega) (by omega) _ _ _ hP hD hS (lv_sub hl [3, 4, 5, 6, 1, 0] rfl)
      exact loop63 ((3 - 0) + 1) 0 0 r_22 ud_25 uf_26 (Nat.lt_succ_self _) (Nat.zero_le _) _ _ _ hP hD hS (lv_sub hl [3, 4, 5, 2, 1, 0] rfl)
set_option maxHeartbeats 4000000 in
set_option maxRecDepth 100000 in
theorem g_X10_offers (l : Launch) (g : he_G) (x0 : Nat) (y0 : Nat) (z0 : Nat) (p0 : Nat) (dr : Nat) (pa : Nat) (s0 : Nat) (im : Nat) (tr : Nat) (v0 : Nat) (rf : Nat) (ta : Int32) (to_ : Int32) (ki : Int32) (h0 : Nat) (a0 : Nat) (b0 : Nat) (e0 : Nat) (e1 : Nat) (e2 : Nat) (co : Nat → Int32) (i : Nat) (j : Nat) (z : Int32) (hi1 : 1 ≤ i) (hi2 : i ≤ 2) (hj : j ≤ 11) (hok0 : ¬ he_within z 0 999 = 0) : he_I l yX10_offers wsX10_offers 1 25 0 0 g [.ref x0, .int (nI i), .int (nI j), .int z] [(oX10 x0 y0 ta z0 p0 dr pa to_ s0 im ki tr v0 rf), (oX8 s0 h0 a0 b0 e0), (oX3 e0 e1 e2), (aI g e1 36 co)] (fun (r : Int32) (u : Unit) => r = co (j * 3 + i)) (fun (u : Unit) => [(oX10 x0 y0 ta z0 p0 dr pa to_ s0 im ki tr v0 rf), (oX8 s0 h0 a0 b0 e0), (oX3 e0 e1 e2), (aI g e1 36 (upd co (j * 3 + i) z))]) := by
  refine he_begin (l := l) (g := g) (y := yX10_offers) (wl := wsX10_offers) (fr := 1) (lo := 25) (mc := 0) (ms := 0) (av := [.ref x0, .int (nI i), .int (nI j), .int z]) (ws := [(oX10 x0 y0 ta z0 p0 dr pa to_ s0 im ki tr v0 rf), (oX8 s0 h0 a0 b0 e0), (oX3 e0 e1 e2), (aI g e1 36 co)]) (cc := cX10_offers) (maxL := 4) (ret := (some .int)) (fun A => va_Qi (fun (r : Int32) (u : Unit) => r = co (j * 3 + i)) (fun u t => he_post g A ((fun (u : Unit) => [(oX10 x0 y0 ta z0 p0 dr pa to_ s0 im ki tr v0 rf), (oX8 s0 h0 a0 b0 e0), (oX3 e0 e1 e2), (aI g e1 36 (upd co (j * 3 + i) z))]) u) t) A) (by decide) rfl (Nat.le_of_ble_eq_true rfl) ?_
  intro p e s m args below meth c A ls H locs Q hQ hB
  obtain ⟨hx, hb, hr, hml, hown, hts, hlk, hin, hP, hK, hD, hS, hA, hE, hl⟩ := hB
  have hl : lv_has ls 4 [(0, .ref x0), (1, .int (nI i)), (2, .int (nI j)), (3, .int z)] := hl
  have f39 := hts (.fieldLink RX10 39 "HiredEnemy" "scene" "LHiredEnemy$Scene;") (iwoX10_offers (k := 0) rfl)
  have inX10 : ∀ w ∈ wsX100, w ∈ wsX10_offers := innX10_offers_X10
  have f232 := hts (.fieldLink RX10 232 "HiredEnemy$Scene" "bids" "LHiredEnemy$Bids;") (iwoX10_offers (k := 1) rfl)
  have inX8 : ∀ w ∈ wsX80, w ∈ wsX10_offers := innX10_offers_X8
  refine lv_aload_n hx hb dX10_offers_0 rfl (lv_at hl 0 rfl) ?_
  refine lv_iload_n hx hb dX10_offers_1 rfl (lv_at hl 1 rfl) ?_
  refine lv_iconst (v := 1) hx hb dX10_offers_2 (by decide) ?_
  refine lv_iconst (v := 2) hx hb dX10_offers_3 (by decide) ?_
  refine he_ci (wc := []) (wr := [(oX10 x0 y0 ta z0 p0 dr pa to_ s0 im ki tr v0 rf), (oX8 s0 h0 a0 b0 e0), (oX3 e0 e1 e2), (aI g e1 36 co)]) (va_runS (As := [.int (nI i), .int 1, .int 2]) (rest := [.ref x0]) ⟨hx, hb, hml, hown, hts⟩ (c_X10_within l g (nI i) 1 2 H.size) (va_cwS 3 hts gX10_offers_X10_within rfl rfl rfl (by decide +kernel) ⟨Nat.le_of_ble_eq_true rfl, Nat.le_of_ble_eq_true rfl⟩) (he_preS (wc := []) hK hP hD hS hA hE [] rfl rfl) rfl rfl hl.1 rfl (lv_room (Nat.le_of_ble_eq_true rfl)) dX10_offers_4 ⟨(Nat.le_of_ble_eq_true rfl), (Nat.le_of_ble_eq_true rfl)⟩) hP hD hS hA [] [0, 1, 2, 3] rfl rfl rfl (by decide) (fun r_1 u_2 H locs h_3 hP hD hS => ?_)
  subst h_3
  have hP : va_P g.1 vwCl [(oX10 x0 y0 ta z0 p0 dr pa to_ s0 im ki tr v0 rf), (oX8 s0 h0 a0 b0 e0), (oX3 e0 e1 e2), (aI g e1 36 co)] H := hP
  have hD : va_D A [(oX10 x0 y0 ta z0 p0 dr pa to_ s0 im ki tr v0 rf), (oX8 s0 h0 a0 b0 e0), (oX3 e0 e1 e2), (aI g e1 36 co)] := hD
  refine he_top (1) (he_within_in (a0 := 1) (B := 2) rfl rfl (by omega) (by omega) (by decide)) ?_
  refine lv_if_eq (tgt := 35) hx hb dX10_offers_7 (by decide) (fun c_4 => ?_) (fun c_4 => ?_)
  · exact absurd c_4 (by decide)
  · refine lv_iload_n hx hb dX10_offers_10 rfl (lv_at hl 2 rfl) ?_
    refine lv_iconst (v := 0) hx hb dX10_offers_11 (by decide) ?_
    refine lv_bipush (v := 11) hx hb dX10_offers_12 (by decide) ?_
    refine he_ci (wc := []) (wr := [(oX10 x0 y0 ta z0 p0 dr pa to_ s0 im ki tr v0 rf), (oX8 s0 h0 a0 b0 e0), (oX3 e0 e1 e2), (aI g e1 36 co)]) (va_runS (As := [.int (nI j), .int 0, .int 11]) (rest := [.ref x0]) ⟨hx, hb, hml, hown, hts⟩ (c_X10_within l g (nI j) 0 11 H.size) (va_cwS 3 hts gX10_offers_X10_within rfl rfl rfl (by decide +kernel) ⟨Nat.le_of_ble_eq_true rfl, Nat.le_of_ble_eq_true rfl⟩) (he_preS (wc := []) hK hP hD hS hA hE [] rfl rfl) rfl rfl hl.1 rfl (lv_room (Nat.le_of_ble_eq_true rfl)) dX10_offers_14 ⟨(Nat.le_of_ble_eq_true rfl), (Nat.le_of_ble_eq_true rfl)⟩) hP hD hS hA [] [0, 1, 2, 3] rfl rfl rfl (by decide) (fun r_5 u_6 H locs h_7 hP hD hS => ?_)
    subst h_7
    have hP : va_P g.1 vwCl [(oX10 x0 y0 ta z0 p0 dr pa to_ s0 im ki tr v0 rf), (oX8 s0 h0 a0 b0 e0), (oX3 e0 e1 e2), (aI g e1 36 co)] H := hP
    have hD : va_D A [(oX10 x0 y0 ta z0 p0 dr pa to_ s0 im ki tr v0 rf), (oX8 s0 h0 a0 b0 e0), (oX3 e0 e1 e2), (aI g e1 36 co)] := hD
    refine he_top (1) (he_within_in (a0 := 0) (B := 11) rfl rfl (by omega) (by omega) (by decide)) ?_
    refine lv_if_eq (tgt := 35) hx hb dX10_offers_17 (by decide) (fun c_8 => ?_) (fun c_8 => ?_)
    · exact absurd c_8 (by decide)
    · refine lv_iload_n hx hb dX10_offers_20 rfl (lv_at hl 3 rfl) ?_
      refine lv_iconst (v := 0) hx hb dX10_offers_21 (by decide) ?_
      refine lv_sipush (v := 999) hx hb dX10_offers_22 (by decide) ?_
      refine he_ci (wc := []) (wr := [(oX10 x0 y0 ta z0 p0 dr pa to_ s0 im ki tr v0 rf), (oX8 s0 h0 a0 b0 e0), (oX3 e0 e1 e2), (aI g e1 36 co)]) (va_runS (As := [.int z, .int 0, .int 999]) (rest := [.ref x0]) ⟨hx, hb, hml, hown, hts⟩ (c_X10_within l g z 0 999 H.size) (va_cwS 3 hts gX10_offers_X10_within rfl rfl rfl (by decide +kernel) ⟨Nat.le_of_ble_eq_true rfl, Nat.le_of_ble_eq_true rfl⟩) (he_preS (wc := []) hK hP hD hS hA hE [] rfl rfl) rfl rfl hl.1 rfl (lv_room (Nat.le_of_ble_eq_true rfl)) dX10_offers_25 ⟨(Nat.le_of_ble_eq_true rfl), (Nat.le_of_ble_eq_true rfl)⟩) hP hD hS hA [] [0, 1, 2, 3] rfl rfl rfl (by decide) (fun r_9 u_10 H locs h_11 hP hD hS => ?_)
      subst h_11
      have hP : va_P g.1 vwCl [(oX10 x0 y0 ta z0 p0 dr pa to_ s0 im ki tr v0 rf), (oX8 s0 h0 a0 b0 e0), (oX3 e0 e1 e2), (aI g e1 36 co)] H := hP
      have hD : va_D A [(oX10 x0 y0 ta z0 p0 dr pa to_ s0 im ki tr v0 rf), (oX8 s0 h0 a0 b0 e0), (oX3 e0 e1 e2), (aI g e1 36 co)] := hD
      refine he_top (1) (he_within_1 hok0) ?_
      refine lv_if_eq (tgt := 35) hx hb dX10_offers_28 (by decide) (fun c_12 => ?_) (fun c_12 => ?_)
      · exact absurd c_12 (by decide)
      · refine lv_iconst (v := 1) hx hb dX10_offers_31 (by decide) ?_
        refine lv_goto (tgt := 36) hx hb dX10_offers_32 (by decide) ?_
        refine he_cv (wc := []) (wr := [(oX10 x0 y0 ta z0 p0 dr pa to_ s0 im ki tr v0 rf), (oX8 s0 h0 a0 b0 e0), (oX3 e0 e1 e2), (aI g e1 36 co)]) (va_runV (As := [.int 1]) (rest := []) ⟨hx, hb, hml, hown, hts⟩ (c_X10_demand1 l g x0 H.size) (cwV 1 hts gX10_offers_X10_demand rfl rfl rfl (by decide +kernel) ⟨Nat.le_of_ble_eq_true rfl, Nat.le_of_ble_eq_true rfl⟩) (he_preV (wc := []) hK hP hD hS hA hE [] rfl rfl 0 rfl rfl) rfl rfl hl.1 rfl (lv_room (Nat.le_of_ble_eq_true rfl)) dX10_offers_36 ⟨(Nat.le_of_ble_eq_true rfl), (Nat.le_of_ble_eq_true rfl)⟩) hP hD hS hA [] [0, 1, 2, 3] rfl rfl rfl (by decide) (fun u_14 H locs h_15 hP hD hS => ?_)
        have hP : va_P g.1 vwCl [(oX10 x0 y0 ta z0 p0 dr pa to_ s0 im ki tr v0 rf), (oX8 s0 h0 a0 b0 e0), (oX3 e0 e1 e2), (aI g e1 36 co)] H := hP
        have hD : va_D A [(oX10 x0 y0 ta z0 p0 dr pa to_ s0 im ki tr v0 rf), (oX8 s0 h0 a0 b0 e0), (oX3 e0 e1 e2), (aI g e1 36 co)] := hD
        refine lv_aload_n hx hb dX10_offers_39 rfl (lv_at hl 0 rfl) ?_
        refine va_get (v := .ref s0) (T := TX10) (N := 13) hx hb hts inX10 hown hK hP 0 rfl rfl 7 (by decide) f39 (fun _ h9 => h9) rfl dX10_offers_40 ?_
        refine va_get (v := .ref e0) (T := TX8) (N := 4) hx hb hts inX8 hown hK hP 1 rfl rfl 3 (by decide) f232 (fun _ h9 => h9) rfl dX10_offers_43 ?_
        refine lv_iload_n hx hb dX10_offers_46 rfl (lv_at hl 1 rfl) ?_
        refine lv_iload_n hx hb dX10_offers_47 rfl (lv_at hl 2 rfl) ?_
        refine lv_iload_n hx hb dX10_offers_48 rfl (lv_at hl 3 rfl) ?_
        refine he_ci (wc := [(oX3 e0 e1 e2), (aI g e1 36 co)]) (wr := [(oX10 x0 y0 ta z0 p0 dr pa to_ s0 im ki tr v0 rf), (oX8 s0 h0 a0 b0 e0)]) (va_runV (As := [.int (nI i), .int (nI j), .int z]) (rest := []) ⟨hx, hb, hml, hown, hts⟩ (c_X3_bid l g e0 e1 e2 co i j z (by first | assumption | decide | omega) (by first | assumption | decide | omega) H.size) (cwV 3 hts gX10_offers_X3_bid rfl rfl rfl (by decide +kernel) ⟨Nat.le_of_ble_eq_true rfl, Nat.le_of_ble_eq_true rfl⟩) (he_preV (wc := [(oX3 e0 e1 e2), (aI g e1 36 co)]) hK hP hD hS hA hE [2, 3] rfl rfl 2 rfl rfl) rfl rfl hl.1 rfl (lv_room (Nat.le_of_ble_eq_true rfl)) dX10_offers_49 ⟨(Nat.le_of_ble_eq_true rfl), (Nat.le_of_ble_eq_true rfl)⟩) hP hD hS hA [2, 3] [0, 1] rfl rfl rfl (by decide) (fun r_16 u_17 H locs h_18 hP hD hS => ?_)
        subst h_18
        have hP : va_P g.1 vwCl [(oX10 x0 y0 ta z0 p0 dr pa to_ s0 im ki tr v0 rf), (oX8 s0 h0 a0 b0 e0), (oX3 e0 e1 e2), (aI g e1 36 (upd co (j * 3 + i) z))] H := hP
        have hD : va_D A [(oX10 x0 y0 ta z0 p0 dr pa to_ s0 im ki tr v0 rf), (oX8 s0 h0 a0 b0 e0), (oX3 e0 e1 e2), (aI g e1 36 (upd co (j * 3 + i) z))] := hD
        exact he_ri hQ hx hb hr hlk hP hD hS dX10_offers_52 (Nat.le_of_ble_eq_true rfl) (Nat.le_of_ble_eq_true rfl) (()) (rfl) (rfl)
set_option maxHeartbeats 4000000 in
set_option maxRecDepth 100000 in
theorem g_X10_most (l : Launch) (g : he_G) (x0 : Nat) (y0 : Nat) (z0 : Nat) (p0 : Nat) (dr : Nat) (pa : Nat) (s0 : Nat) (im : Nat) (tr : Nat) (v0 : Nat) (rf : Nat) (ta : Int32) (to_ : Int32) (ki : Int32) (h0 : Nat) (a0 : Nat) (b0 : Nat) (e0 : Nat) (e1 : Nat) (e2 : Nat) (co : Nat → Int32) (re_ : Nat → Int32)  : he_I l yX10_most wsX10_most 3 68 0 0 g [.ref x0] [(oX10 x0 y0 ta z0 p0 dr pa to_ s0 im ki tr v0 rf), (oX8 s0 h0 a0 b0 e0), (oX3 e0 e1 e2), (aI g e1 36 co), (aI g e2 39 re_)] (fun (r : Int32) (u : Nat → Int32) => True) (fun (u : Nat → Int32) => [(oX10 x0 y0 ta z0 p0 dr pa to_ s0 im ki tr v0 rf), (oX8 s0 h0 a0 b0 e0), (oX3 e0 e1 e2), (aI g e1 36 co), (aI g e2 39 u)]) := by
  refine he_begin (l := l) (g := g) (y := yX10_most) (wl := wsX10_most) (fr := 3) (lo := 68) (mc := 0) (ms := 0) (av := [.ref x0]) (ws := [(oX10 x0 y0 ta z0 p0 dr pa to_ s0 im ki tr v0 rf), (oX8 s0 h0 a0 b0 e0), (oX3 e0 e1 e2), (aI g e1 36 co), (aI g e2 39 re_)]) (cc := cX10_most) (maxL := 1) (ret := (some .int)) (fun A => va_Qi (fun (r : Int32) (u : Nat → Int32) => True) (fun u t => he_post g A ((fun (u : Nat → Int32) => [(oX10 x0 y0 ta z0 p0 dr pa to_ s0 im ki tr v0 rf), (oX8 s0 h0 a0 b0 e0), (oX3 e0 e1 e2), (aI g e1 36 co), (aI g e2 39 u)]) u) t) A) (by decide) rfl (Nat.le_of_ble_eq_true rfl) ?_
  intro p e s m args below meth c A ls H locs Q hQ hB
  obtain ⟨hx, hb, hr, hml, hown, hts, hlk, hin, hP, hK, hD, hS, hA, hE, hl⟩ := hB
  have hl : lv_has ls 1 [(0, .ref x0)] := hl
  have f39 := hts (.fieldLink RX10 39 "HiredEnemy" "scene" "LHiredEnemy$Scene;") (iwoX10_most (k := 0) rfl)
  have inX10 : ∀ w ∈ wsX100, w ∈ wsX10_most := innX10_most_X10
  have f232 := hts (.fieldLink RX10 232 "HiredEnemy$Scene" "bids" "LHiredEnemy$Bids;") (iwoX10_most (k := 1) rfl)
  have inX8 : ∀ w ∈ wsX80, w ∈ wsX10_most := innX10_most_X8
  refine lv_aload_n hx hb dX10_most_0 rfl (lv_at hl 0 rfl) ?_
  refine va_get (v := .ref s0) (T := TX10) (N := 13) hx hb hts inX10 hown hK hP 0 rfl rfl 7 (by decide) f39 (fun _ h9 => h9) rfl dX10_most_1 ?_
  refine va_get (v := .ref e0) (T := TX8) (N := 4) hx hb hts inX8 hown hK hP 1 rfl rfl 3 (by decide) f232 (fun _ h9 => h9) rfl dX10_most_4 ?_
  refine he_ci (wc := [(oX3 e0 e1 e2), (aI g e1 36 co), (aI g e2 39 re_)]) (wr := [(oX10 x0 y0 ta z0 p0 dr pa to_ s0 im ki tr v0 rf), (oX8 s0 h0 a0 b0 e0)]) (va_runV (As := []) (rest := []) ⟨hx, hb, hml, hown, hts⟩ (g_X3_mostCoin l g e0 e1 e2 co re_ H.size) (cwV 0 hts gX10_most_X3_mostCoin rfl rfl rfl (by decide +kernel) ⟨Nat.le_of_ble_eq_true rfl, Nat.le_of_ble_eq_true rfl⟩) (he_preV (wc := [(oX3 e0 e1 e2), (aI g e1 36 co), (aI g e2 39 re_)]) hK hP hD hS hA hE [2, 3, 4] rfl rfl 2 rfl rfl) rfl rfl hl.1 rfl (lv_room (Nat.le_of_ble_eq_true rfl)) dX10_most_7 ⟨(Nat.le_of_ble_eq_true rfl), (Nat.le_of_ble_eq_true rfl)⟩) hP hD hS hA [2, 3, 4] [0, 1] rfl rfl rfl (by decide) (fun r_1 u_2 H locs h_3 hP hD hS => ?_)
  obtain ⟨ur_4, rfl⟩ : ∃ z, z = u_2 := ⟨_, rfl⟩
  have hP : va_P g.1 vwCl [(oX10 x0 y0 ta z0 p0 dr pa to_ s0 im ki tr v0 rf), (oX8 s0 h0 a0 b0 e0), (oX3 e0 e1 e2), (aI g e1 36 co), (aI g e2 39 ur_4)] H := hP
  have hD : va_D A [(oX10 x0 y0 ta z0 p0 dr pa to_ s0 im ki tr v0 rf), (oX8 s0 h0 a0 b0 e0), (oX3 e0 e1 e2), (aI g e1 36 co), (aI g e2 39 ur_4)] := hD
  exact he_ri hQ hx hb hr hlk hP hD hS dX10_most_10 (Nat.le_of_ble_eq_true rfl) (Nat.le_of_ble_eq_true rfl) (ur_4) (rfl) (trivial)
set_option maxHeartbeats 4000000 in
set_option maxRecDepth 100000 in
theorem g_X10_serves (l : Launch) (g : he_G) (x0 : Nat) (y0 : Nat) (z0 : Nat) (p0 : Nat) (dr : Nat) (pa : Nat) (s0 : Nat) (im : Nat) (tr : Nat) (v0 : Nat) (rf : Nat) (ta : Int32) (to_ : Int32) (ki : Int32) (h0 : Nat) (a0 : Nat) (b0 : Nat) (e0 : Nat) (e1 : Nat) (e2 : Nat) (co : Nat → Int32) (re_ : Nat → Int32) (j : Nat) (hj : j ≤ 11) : he_I l yX10_serves wsX10_serves 4 91 0 0 g [.ref x0, .int (nI j)] [(oX10 x0 y0 ta z0 p0 dr pa to_ s0 im ki tr v0 rf), (oX8 s0 h0 a0 b0 e0), (oX3 e0 e1 e2), (aI g e1 36 co), (aI g e2 39 re_)] (fun (r : Int32) (u : Nat → Int32) => True) (fun (u : Nat → Int32) => [(oX10 x0 y0 ta z0 p0 dr pa to_ s0 im ki tr v0 rf), (oX8 s0 h0 a0 b0 e0), (oX3 e0 e1 e2), (aI g e1 36 co), (aI g e2 39 u)]) := by
  refine he_begin (l := l) (g := g) (y := yX10_serves) (wl := wsX10_serves) (fr := 4) (lo := 91) (mc := 0) (ms := 0) (av := [.ref x0, .int (nI j)]) (ws := [(oX10 x0 y0 ta z0 p0 dr pa to_ s0 im ki tr v0 rf), (oX8 s0 h0 a0 b0 e0), (oX3 e0 e1 e2), (aI g e1 36 co), (aI g e2 39 re_)]) (cc := cX10_serves) (maxL := 2) (ret := (some .int)) (fun A => va_Qi (fun (r : Int32) (u : Nat → Int32) => True) (fun u t => he_post g A ((fun (u : Nat → Int32) => [(oX10 x0 y0 ta z0 p0 dr pa to_ s0 im ki tr v0 rf), (oX8 s0 h0 a0 b0 e0), (oX3 e0 e1 e2), (aI g e1 36 co), (aI g e2 39 u)]) u) t) A) (by decide) rfl (Nat.le_of_ble_eq_true rfl) ?_
  intro p e s m args below meth c A ls H locs Q hQ hB
  obtain ⟨hx, hb, hr, hml, hown, hts, hlk, hin, hP, hK, hD, hS, hA, hE, hl⟩ := hB
  have hl : lv_has ls 2 [(0, .ref x0), (1, .int (nI j))] := hl
  have f39 := hts (.fieldLink RX10 39 "HiredEnemy" "scene" "LHiredEnemy$Scene;") (iwoX10_serves (k := 0) rfl)
  have inX10 : ∀ w ∈ wsX100, w ∈ wsX10_serves := innX10_serves_X10
  have f232 := hts (.fieldLink RX10 232 "HiredEnemy$Scene" "bids" "LHiredEnemy$Bids;") (iwoX10_serves (k := 1) rfl)
  have inX8 : ∀ w ∈ wsX80, w ∈ wsX10_serves := innX10_serves_X8
  refine lv_aload_n hx hb dX10_serves_0 rfl (lv_at hl 0 rfl) ?_
  refine lv_iload_n hx hb dX10_serves_1 rfl (lv_at hl 1 rfl) ?_
  refine lv_iconst (v := 0) hx hb dX10_serves_2 (by decide) ?_
  refine lv_bipush (v := 11) hx hb dX10_serves_3 (by decide) ?_
  refine he_ci (wc := []) (wr := [(oX10 x0 y0 ta z0 p0 dr pa to_ s0 im ki tr v0 rf), (oX8 s0 h0 a0 b0 e0), (oX3 e0 e1 e2), (aI g e1 36 co), (aI g e2 39 re_)]) (va_runS (As := [.int (nI j), .int 0, .int 11]) (rest := [.ref x0]) ⟨hx, hb, hml, hown, hts⟩ (c_X10_within l g (nI j) 0 11 H.size) (va_cwS 3 hts gX10_serves_X10_within rfl rfl rfl (by decide +kernel) ⟨Nat.le_of_ble_eq_true rfl, Nat.le_of_ble_eq_true rfl⟩) (he_preS (wc := []) hK hP hD hS hA hE [] rfl rfl) rfl rfl hl.1 rfl (lv_room (Nat.le_of_ble_eq_true rfl)) dX10_serves_5 ⟨(Nat.le_of_ble_eq_true rfl), (Nat.le_of_ble_eq_true rfl)⟩) hP hD hS hA [] [0, 1, 2, 3, 4] rfl rfl rfl (by decide) (fun r_1 u_2 H locs h_3 hP hD hS => ?_)
  subst h_3
  have hP : va_P g.1 vwCl [(oX10 x0 y0 ta z0 p0 dr pa to_ s0 im ki tr v0 rf), (oX8 s0 h0 a0 b0 e0), (oX3 e0 e1 e2), (aI g e1 36 co), (aI g e2 39 re_)] H := hP
  have hD : va_D A [(oX10 x0 y0 ta z0 p0 dr pa to_ s0 im ki tr v0 rf), (oX8 s0 h0 a0 b0 e0), (oX3 e0 e1 e2), (aI g e1 36 co), (aI g e2 39 re_)] := hD
  refine he_top (1) (he_within_in (a0 := 0) (B := 11) rfl rfl (by omega) (by omega) (by decide)) ?_
  refine he_cv (wc := []) (wr := [(oX10 x0 y0 ta z0 p0 dr pa to_ s0 im ki tr v0 rf), (oX8 s0 h0 a0 b0 e0), (oX3 e0 e1 e2), (aI g e1 36 co), (aI g e2 39 re_)]) (va_runV (As := [.int 1]) (rest := []) ⟨hx, hb, hml, hown, hts⟩ (c_X10_demand1 l g x0 H.size) (cwV 1 hts gX10_serves_X10_demand rfl rfl rfl (by decide +kernel) ⟨Nat.le_of_ble_eq_true rfl, Nat.le_of_ble_eq_true rfl⟩) (he_preV (wc := []) hK hP hD hS hA hE [] rfl rfl 0 rfl rfl) rfl rfl hl.1 rfl (lv_room (Nat.le_of_ble_eq_true rfl)) dX10_serves_8 ⟨(Nat.le_of_ble_eq_true rfl), (Nat.le_of_ble_eq_true rfl)⟩) hP hD hS hA [] [0, 1, 2, 3, 4] rfl rfl rfl (by decide) (fun u_5 H locs h_6 hP hD hS => ?_)
  have hP : va_P g.1 vwCl [(oX10 x0 y0 ta z0 p0 dr pa to_ s0 im ki tr v0 rf), (oX8 s0 h0 a0 b0 e0), (oX3 e0 e1 e2), (aI g e1 36 co), (aI g e2 39 re_)] H := hP
  have hD : va_D A [(oX10 x0 y0 ta z0 p0 dr pa to_ s0 im ki tr v0 rf), (oX8 s0 h0 a0 b0 e0), (oX3 e0 e1 e2), (aI g e1 36 co), (aI g e2 39 re_)] := hD
  refine lv_aload_n hx hb dX10_serves_11 rfl (lv_at hl 0 rfl) ?_
  refine va_get (v := .ref s0) (T := TX10) (N := 13) hx hb hts inX10 hown hK hP 0 rfl rfl 7 (by decide) f39 (fun _ h9 => h9) rfl dX10_serves_12 ?_
  refine va_get (v := .ref e0) (T := TX8) (N := 4) hx hb hts inX8 hown hK hP 1 rfl rfl 3 (by decide) f232 (fun _ h9 => h9) rfl dX10_serves_15 ?_
  refine lv_iload_n hx hb dX10_serves_18 rfl (lv_at hl 1 rfl) ?_
  refine he_ci (wc := [(oX3 e0 e1 e2), (aI g e1 36 co), (aI g e2 39 re_)]) (wr := [(oX10 x0 y0 ta z0 p0 dr pa to_ s0 im ki tr v0 rf), (oX8 s0 h0 a0 b0 e0)]) (va_runV (As := [.int (nI j)]) (rest := []) ⟨hx, hb, hml, hown, hts⟩ (g_X3_served l g e0 e1 e2 co re_ j (by first | assumption | decide | omega) H.size) (cwV 1 hts gX10_serves_X3_served rfl rfl rfl (by decide +kernel) ⟨Nat.le_of_ble_eq_true rfl, Nat.le_of_ble_eq_true rfl⟩) (he_preV (wc := [(oX3 e0 e1 e2), (aI g e1 36 co), (aI g e2 39 re_)]) hK hP hD hS hA hE [2, 3, 4] rfl rfl 2 rfl rfl) rfl rfl hl.1 rfl (lv_room (Nat.le_of_ble_eq_true rfl)) dX10_serves_19 ⟨(Nat.le_of_ble_eq_true rfl), (Nat.le_of_ble_eq_true rfl)⟩) hP hD hS hA [2, 3, 4] [0, 1] rfl rfl rfl (by decide) (fun r_7 u_8 H locs h_9 hP hD hS => ?_)
  obtain ⟨ur_10, rfl⟩ : ∃ z, z = u_8 := ⟨_, rfl⟩
  have hP : va_P g.1 vwCl [(oX10 x0 y0 ta z0 p0 dr pa to_ s0 im ki tr v0 rf), (oX8 s0 h0 a0 b0 e0), (oX3 e0 e1 e2), (aI g e1 36 co), (aI g e2 39 ur_10)] H := hP
  have hD : va_D A [(oX10 x0 y0 ta z0 p0 dr pa to_ s0 im ki tr v0 rf), (oX8 s0 h0 a0 b0 e0), (oX3 e0 e1 e2), (aI g e1 36 co), (aI g e2 39 ur_10)] := hD
  exact he_ri hQ hx hb hr hlk hP hD hS dX10_serves_22 (Nat.le_of_ble_eq_true rfl) (Nat.le_of_ble_eq_true rfl) (ur_10) (rfl) (trivial)
set_option maxHeartbeats 4000000 in
set_option maxRecDepth 100000 in
theorem g_X10_status (l : Launch) (g : he_G) (x0 : Nat) (y0 : Nat) (z0 : Nat) (p0 : Nat) (dr : Nat) (pa : Nat) (s0 : Nat) (im : Nat) (tr : Nat) (v0 : Nat) (rf : Nat) (ta : Int32) (to_ : Int32) (ki : Int32) (rc : Nat → Int32) (x : Int32) (hok0 : ¬ he_within x 0 2 = 0) : he_I l yX10_status wsX10_status 1 22 0 0 g [.ref x0, .int x] [(oX10 x0 y0 ta z0 p0 dr pa to_ s0 im ki tr v0 rf), (aI g rf 3 rc)] (fun (r : Int32) (u : Unit) => r = rc x.toNatClampNeg) (fun (u : Unit) => [(oX10 x0 y0 ta z0 p0 dr pa to_ s0 im ki tr v0 rf), (aI g rf 3 rc)]) := by
  refine he_begin (l := l) (g := g) (y := yX10_status) (wl := wsX10_status) (fr := 1) (lo := 22) (mc := 0) (ms := 0) (av := [.ref x0, .int x]) (ws := [(oX10 x0 y0 ta z0 p0 dr pa to_ s0 im ki tr v0 rf), (aI g rf 3 rc)]) (cc := cX10_status) (maxL := 2) (ret := (some .int)) (fun A => va_Qi (fun (r : Int32) (u : Unit) => r = rc x.toNatClampNeg) (fun u t => he_post g A ((fun (u : Unit) => [(oX10 x0 y0 ta z0 p0 dr pa to_ s0 im ki tr v0 rf), (aI g rf 3 rc)]) u) t) A) (by decide) rfl (Nat.le_of_ble_eq_true rfl) ?_
  intro p e s m args below meth c A ls H locs Q hQ hB
  obtain ⟨hx, hb, hr, hml, hown, hts, hlk, hin, hP, hK, hD, hS, hA, hE, hl⟩ := hB
  have hl : lv_has ls 2 [(0, .ref x0), (1, .int x)] := hl
  have f61 := hts (.fieldLink RX10 61 "HiredEnemy" "refused" "[I") (iwoX10_status (k := 0) rfl)
  have inX10 : ∀ w ∈ wsX100, w ∈ wsX10_status := innX10_status_X10
  refine lv_iload_n hx hb dX10_status_0 rfl (lv_at hl 1 rfl) ?_
  refine lv_iconst (v := 0) hx hb dX10_status_1 (by decide) ?_
  refine lv_aload_n hx hb dX10_status_2 rfl (lv_at hl 0 rfl) ?_
  refine va_get (v := .ref rf) (T := TX10) (N := 13) hx hb hts inX10 hown hK hP 0 rfl rfl 12 (by decide) f61 (fun _ h9 => h9) rfl dX10_status_3 ?_
  refine va_alen (v := 3) hx hb hK hP 1 1 rfl rfl rfl dX10_status_6 ?_
  refine lv_iconst (v := 1) hx hb dX10_status_7 (by decide) ?_
  refine lv_isub hx hb dX10_status_8 ?_
  refine he_top (2) (by decide) ?_
  refine he_ci (wc := []) (wr := [(oX10 x0 y0 ta z0 p0 dr pa to_ s0 im ki tr v0 rf), (aI g rf 3 rc)]) (va_runS (As := [.int x, .int 0, .int 2]) (rest := []) ⟨hx, hb, hml, hown, hts⟩ (c_X10_within l g x 0 2 H.size) (va_cwS 3 hts gX10_status_X10_within rfl rfl rfl (by decide +kernel) ⟨Nat.le_of_ble_eq_true rfl, Nat.le_of_ble_eq_true rfl⟩) (he_preS (wc := []) hK hP hD hS hA hE [] rfl rfl) rfl rfl hl.1 rfl (lv_room (Nat.le_of_ble_eq_true rfl)) dX10_status_9 ⟨(Nat.le_of_ble_eq_true rfl), (Nat.le_of_ble_eq_true rfl)⟩) hP hD hS hA [] [0, 1] rfl rfl rfl (by decide) (fun r_1 u_2 H locs h_3 hP hD hS => ?_)
  subst h_3
  have hP : va_P g.1 vwCl [(oX10 x0 y0 ta z0 p0 dr pa to_ s0 im ki tr v0 rf), (aI g rf 3 rc)] H := hP
  have hD : va_D A [(oX10 x0 y0 ta z0 p0 dr pa to_ s0 im ki tr v0 rf), (aI g rf 3 rc)] := hD
  refine he_top (1) (he_within_1 hok0) ?_
  refine lv_if_eq (tgt := 24) hx hb dX10_status_12 (by decide) (fun c_4 => ?_) (fun c_4 => ?_)
  · exact absurd c_4 (by decide)
  · refine lv_aload_n hx hb dX10_status_15 rfl (lv_at hl 0 rfl) ?_
    refine va_get (v := .ref rf) (T := TX10) (N := 13) hx hb hts inX10 hown hK hP 0 rfl rfl 12 (by decide) f61 (fun _ h9 => h9) rfl dX10_status_16 ?_
    refine lv_iload_n hx hb dX10_status_19 rfl (lv_at hl 1 rfl) ?_
    refine he_iald hx hb hK hP 1 rfl (x.toNatClampNeg) (he_within_nat (B := 2) rfl (by decide) hok0).1 (Nat.lt_of_le_of_lt (he_within_nat (B := 2) rfl (by decide) hok0).2 (by decide)) (by first | decide | assumption) (rc x.toNatClampNeg) rfl dX10_status_20 ?_
    refine lv_goto (tgt := 25) hx hb dX10_status_21 (by decide) ?_
    exact he_ri hQ hx hb hr hlk hP hD hS dX10_status_25 (Nat.le_of_ble_eq_true rfl) (Nat.le_of_ble_eq_true rfl) (()) (rfl) (rfl)
set_option maxHeartbeats 4000000 in
set_option maxRecDepth 100000 in
theorem g_X10_statusN (l : Launch) (g : he_G) (x0 : Nat) (y0 : Nat) (z0 : Nat) (p0 : Nat) (dr : Nat) (pa : Nat) (s0 : Nat) (im : Nat) (tr : Nat) (v0 : Nat) (rf : Nat) (ta : Int32) (to_ : Int32) (ki : Int32) (rc : Nat → Int32) (x : Int32) (hno : he_within x 0 2 = 0) : he_I l yX10_status wsX10_status 1 22 0 0 g [.ref x0, .int x] [(oX10 x0 y0 ta z0 p0 dr pa to_ s0 im ki tr v0 rf), (aI g rf 3 rc)] (fun (r : Int32) (u : Unit) => r = (-1)) (fun (u : Unit) => [(oX10 x0 y0 ta z0 p0 dr pa to_ s0 im ki tr v0 rf), (aI g rf 3 rc)]) := by
  refine he_begin (l := l) (g := g) (y := yX10_status) (wl := wsX10_status) (fr := 1) (lo := 22) (mc := 0) (ms := 0) (av := [.ref x0, .int x]) (ws := [(oX10 x0 y0 ta z0 p0 dr pa to_ s0 im ki tr v0 rf), (aI g rf 3 rc)]) (cc := cX10_status) (maxL := 2) (ret := (some .int)) (fun A => va_Qi (fun (r : Int32) (u : Unit) => r = (-1)) (fun u t => he_post g A ((fun (u : Unit) => [(oX10 x0 y0 ta z0 p0 dr pa to_ s0 im ki tr v0 rf), (aI g rf 3 rc)]) u) t) A) (by decide) rfl (Nat.le_of_ble_eq_true rfl) ?_
  intro p e s m args below meth c A ls H locs Q hQ hB
  obtain ⟨hx, hb, hr, hml, hown, hts, hlk, hin, hP, hK, hD, hS, hA, hE, hl⟩ := hB
  have hl : lv_has ls 2 [(0, .ref x0), (1, .int x)] := hl
  have f61 := hts (.fieldLink RX10 61 "HiredEnemy" "refused" "[I") (iwoX10_status (k := 0) rfl)
  have inX10 : ∀ w ∈ wsX100, w ∈ wsX10_status := innX10_status_X10
  refine lv_iload_n hx hb dX10_status_0 rfl (lv_at hl 1 rfl) ?_
  refine lv_iconst (v := 0) hx hb dX10_status_1 (by decide) ?_
  refine lv_aload_n hx hb dX10_status_2 rfl (lv_at hl 0 rfl) ?_
  refine va_get (v := .ref rf) (T := TX10) (N := 13) hx hb hts inX10 hown hK hP 0 rfl rfl 12 (by decide) f61 (fun _ h9 => h9) rfl dX10_status_3 ?_
  refine va_alen (v := 3) hx hb hK hP 1 1 rfl rfl rfl dX10_status_6 ?_
  refine lv_iconst (v := 1) hx hb dX10_status_7 (by decide) ?_
  refine lv_isub hx hb dX10_status_8 ?_
  refine he_top (2) (by decide) ?_
  refine he_ci (wc := []) (wr := [(oX10 x0 y0 ta z0 p0 dr pa to_ s0 im ki tr v0 rf), (aI g rf 3 rc)]) (va_runS (As := [.int x, .int 0, .int 2]) (rest := []) ⟨hx, hb, hml, hown, hts⟩ (c_X10_within l g x 0 2 H.size) (va_cwS 3 hts gX10_status_X10_within rfl rfl rfl (by decide +kernel) ⟨Nat.le_of_ble_eq_true rfl, Nat.le_of_ble_eq_true rfl⟩) (he_preS (wc := []) hK hP hD hS hA hE [] rfl rfl) rfl rfl hl.1 rfl (lv_room (Nat.le_of_ble_eq_true rfl)) dX10_status_9 ⟨(Nat.le_of_ble_eq_true rfl), (Nat.le_of_ble_eq_true rfl)⟩) hP hD hS hA [] [0, 1] rfl rfl rfl (by decide) (fun r_1 u_2 H locs h_3 hP hD hS => ?_)
  subst h_3
  have hP : va_P g.1 vwCl [(oX10 x0 y0 ta z0 p0 dr pa to_ s0 im ki tr v0 rf), (aI g rf 3 rc)] H := hP
  have hD : va_D A [(oX10 x0 y0 ta z0 p0 dr pa to_ s0 im ki tr v0 rf), (aI g rf 3 rc)] := hD
  refine he_top (0) hno ?_
  refine lv_if_eq (tgt := 24) hx hb dX10_status_12 (by decide) (fun c_4 => ?_) (fun c_4 => ?_)
  · refine lv_iconst (v := (-1)) hx hb dX10_status_24 (by decide) ?_
    exact he_ri hQ hx hb hr hlk hP hD hS dX10_status_25 (Nat.le_of_ble_eq_true rfl) (Nat.le_of_ble_eq_true rfl) (()) (rfl) (rfl)
  · exact absurd (by decide) c_4
set_option maxHeartbeats 4000000 in
set_option maxRecDepth 100000 in
theorem g_X10_count0 (l : Launch) (g : he_G) (x0 : Nat) (y0 : Nat) (z0 : Nat) (p0 : Nat) (dr : Nat) (pa : Nat) (s0 : Nat) (im : Nat) (tr : Nat) (v0 : Nat) (rf : Nat) (ta : Int32) (to_ : Int32) (ki : Int32) (h0 : Nat) (a0 : Nat) (e0 : Nat) (b0 : Nat) (b1 : Nat) (b2 : Nat) (x : Int32) (y : Int32) (rl : Int64) (hd : Int64) (th : Int32)  : he_I l yX10_count wsX10_count 0 0 0 0 g [.ref x0, .int 0] [(oX10 x0 y0 ta z0 p0 dr pa to_ s0 im ki tr v0 rf), (oX8 s0 h0 a0 b0 e0), (oX2 b0 b1 b2 x y rl hd th)] (fun (r : Int32) (u : Unit) => r = ki) (fun (u : Unit) => [(oX10 x0 y0 ta z0 p0 dr pa to_ s0 im ki tr v0 rf), (oX8 s0 h0 a0 b0 e0), (oX2 b0 b1 b2 x y rl hd th)]) := by
  refine he_begin (l := l) (g := g) (y := yX10_count) (wl := wsX10_count) (fr := 0) (lo := 0) (mc := 0) (ms := 0) (av := [.ref x0, .int 0]) (ws := [(oX10 x0 y0 ta z0 p0 dr pa to_ s0 im ki tr v0 rf), (oX8 s0 h0 a0 b0 e0), (oX2 b0 b1 b2 x y rl hd th)]) (cc := cX10_count) (maxL := 2) (ret := (some .int)) (fun A => va_Qi (fun (r : Int32) (u : Unit) => r = ki) (fun u t => he_post g A ((fun (u : Unit) => [(oX10 x0 y0 ta z0 p0 dr pa to_ s0 im ki tr v0 rf), (oX8 s0 h0 a0 b0 e0), (oX2 b0 b1 b2 x y rl hd th)]) u) t) A) (by decide) rfl (Nat.le_of_ble_eq_true rfl) ?_
  intro p e s m args below meth c A ls H locs Q hQ hB
  obtain ⟨hx, hb, hr, hml, hown, hts, hlk, hin, hP, hK, hD, hS, hA, hE, hl⟩ := hB
  have hl : lv_has ls 2 [(0, .ref x0), (1, .int 0)] := hl
  have f95 := hts (.fieldLink RX10 95 "HiredEnemy" "imagesKept" "I") (iwoX10_count (k := 0) rfl)
  have inX10 : ∀ w ∈ wsX100, w ∈ wsX10_count := innX10_count_X10
  refine lv_iload_n hx hb dX10_count_0 rfl (lv_at hl 1 rfl) ?_
  refine lv_tableIn (tgt := 28) hx hb dX10_count_1 (by decide) (by decide) rfl (by decide) ?_
  refine lv_aload_n hx hb dX10_count_28 rfl (lv_at hl 0 rfl) ?_
  refine va_get (v := .int ki) (T := TX10) (N := 13) hx hb hts inX10 hown hK hP 0 rfl rfl 9 (by decide) f95 (fun _ h9 => h9) rfl dX10_count_29 ?_
  exact he_ri hQ hx hb hr hlk hP hD hS dX10_count_32 (Nat.le_of_ble_eq_true rfl) (Nat.le_of_ble_eq_true rfl) (()) (rfl) (rfl)
set_option maxHeartbeats 4000000 in
set_option maxRecDepth 100000 in
theorem g_X10_count1 (l : Launch) (g : he_G) (x0 : Nat) (y0 : Nat) (z0 : Nat) (p0 : Nat) (dr : Nat) (pa : Nat) (s0 : Nat) (im : Nat) (tr : Nat) (v0 : Nat) (rf : Nat) (ta : Int32) (to_ : Int32) (ki : Int32) (h0 : Nat) (a0 : Nat) (e0 : Nat) (b0 : Nat) (b1 : Nat) (b2 : Nat) (x : Int32) (y : Int32) (rl : Int64) (hd : Int64) (th : Int32)  : he_I l yX10_count wsX10_count 0 0 0 0 g [.ref x0, .int 1] [(oX10 x0 y0 ta z0 p0 dr pa to_ s0 im ki tr v0 rf), (oX8 s0 h0 a0 b0 e0), (oX2 b0 b1 b2 x y rl hd th)] (fun (r : Int32) (u : Unit) => r = ta) (fun (u : Unit) => [(oX10 x0 y0 ta z0 p0 dr pa to_ s0 im ki tr v0 rf), (oX8 s0 h0 a0 b0 e0), (oX2 b0 b1 b2 x y rl hd th)]) := by
  refine he_begin (l := l) (g := g) (y := yX10_count) (wl := wsX10_count) (fr := 0) (lo := 0) (mc := 0) (ms := 0) (av := [.ref x0, .int 1]) (ws := [(oX10 x0 y0 ta z0 p0 dr pa to_ s0 im ki tr v0 rf), (oX8 s0 h0 a0 b0 e0), (oX2 b0 b1 b2 x y rl hd th)]) (cc := cX10_count) (maxL := 2) (ret := (some .int)) (fun A => va_Qi (fun (r : Int32) (u : Unit) => r = ta) (fun u t => he_post g A ((fun (u : Unit) => [(oX10 x0 y0 ta z0 p0 dr pa to_ s0 im ki tr v0 rf), (oX8 s0 h0 a0 b0 e0), (oX2 b0 b1 b2 x y rl hd th)]) u) t) A) (by decide) rfl (Nat.le_of_ble_eq_true rfl) ?_
  intro p e s m args below meth c A ls H locs Q hQ hB
  obtain ⟨hx, hb, hr, hml, hown, hts, hlk, hin, hP, hK, hD, hS, hA, hE, hl⟩ := hB
  have hl : lv_has ls 2 [(0, .ref x0), (1, .int 1)] := hl
  have f73 := hts (.fieldLink RX10 73 "HiredEnemy" "taped" "I") (iwoX10_count (k := 1) rfl)
  have inX10 : ∀ w ∈ wsX100, w ∈ wsX10_count := innX10_count_X10
  refine lv_iload_n hx hb dX10_count_0 rfl (lv_at hl 1 rfl) ?_
  refine lv_tableIn (tgt := 33) hx hb dX10_count_1 (by decide) (by decide) rfl (by decide) ?_
  refine lv_aload_n hx hb dX10_count_33 rfl (lv_at hl 0 rfl) ?_
  refine va_get (v := .int ta) (T := TX10) (N := 13) hx hb hts inX10 hown hK hP 0 rfl rfl 1 (by decide) f73 (fun _ h9 => h9) rfl dX10_count_34 ?_
  exact he_ri hQ hx hb hr hlk hP hD hS dX10_count_37 (Nat.le_of_ble_eq_true rfl) (Nat.le_of_ble_eq_true rfl) (()) (rfl) (rfl)
set_option maxHeartbeats 4000000 in
set_option maxRecDepth 100000 in
theorem g_X10_count2 (l : Launch) (g : he_G) (x0 : Nat) (y0 : Nat) (z0 : Nat) (p0 : Nat) (dr : Nat) (pa : Nat) (s0 : Nat) (im : Nat) (tr : Nat) (v0 : Nat) (rf : Nat) (ta : Int32) (to_ : Int32) (ki : Int32) (h0 : Nat) (a0 : Nat) (e0 : Nat) (b0 : Nat) (b1 : Nat) (b2 : Nat) (x : Int32) (y : Int32) (rl : Int64) (hd : Int64) (th : Int32)  : he_I l yX10_count wsX10_count 0 0 0 0 g [.ref x0, .int 2] [(oX10 x0 y0 ta z0 p0 dr pa to_ s0 im ki tr v0 rf), (oX8 s0 h0 a0 b0 e0), (oX2 b0 b1 b2 x y rl hd th)] (fun (r : Int32) (u : Unit) => r = th) (fun (u : Unit) => [(oX10 x0 y0 ta z0 p0 dr pa to_ s0 im ki tr v0 rf), (oX8 s0 h0 a0 b0 e0), (oX2 b0 b1 b2 x y rl hd th)]) := by
  refine he_begin (l := l) (g := g) (y := yX10_count) (wl := wsX10_count) (fr := 0) (lo := 0) (mc := 0) (ms := 0) (av := [.ref x0, .int 2]) (ws := [(oX10 x0 y0 ta z0 p0 dr pa to_ s0 im ki tr v0 rf), (oX8 s0 h0 a0 b0 e0), (oX2 b0 b1 b2 x y rl hd th)]) (cc := cX10_count) (maxL := 2) (ret := (some .int)) (fun A => va_Qi (fun (r : Int32) (u : Unit) => r = th) (fun u t => he_post g A ((fun (u : Unit) => [(oX10 x0 y0 ta z0 p0 dr pa to_ s0 im ki tr v0 rf), (oX8 s0 h0 a0 b0 e0), (oX2 b0 b1 b2 x y rl hd th)]) u) t) A) (by decide) rfl (Nat.le_of_ble_eq_true rfl) ?_
  intro p e s m args below meth c A ls H locs Q hQ hB
  obtain ⟨hx, hb, hr, hml, hown, hts, hlk, hin, hP, hK, hD, hS, hA, hE, hl⟩ := hB
  have hl : lv_has ls 2 [(0, .ref x0), (1, .int 2)] := hl
  have f39 := hts (.fieldLink RX10 39 "HiredEnemy" "scene" "LHiredEnemy$Scene;") (iwoX10_count (k := 2) rfl)
  have inX10 : ∀ w ∈ wsX100, w ∈ wsX10_count := innX10_count_X10
  have f189 := hts (.fieldLink RX10 189 "HiredEnemy$Scene" "belief" "LHiredEnemy$Belief;") (iwoX10_count (k := 3) rfl)
  have inX8 : ∀ w ∈ wsX80, w ∈ wsX10_count := innX10_count_X8
  have f248 := hts (.fieldLink RX10 248 "HiredEnemy$Belief" "things" "I") (iwoX10_count (k := 4) rfl)
  have inX2 : ∀ w ∈ wsX20, w ∈ wsX10_count := innX10_count_X2
  refine lv_iload_n hx hb dX10_count_0 rfl (lv_at hl 1 rfl) ?_
  refine lv_tableIn (tgt := 38) hx hb dX10_count_1 (by decide) (by decide) rfl (by decide) ?_
  refine lv_aload_n hx hb dX10_count_38 rfl (lv_at hl 0 rfl) ?_
  refine va_get (v := .ref s0) (T := TX10) (N := 13) hx hb hts inX10 hown hK hP 0 rfl rfl 7 (by decide) f39 (fun _ h9 => h9) rfl dX10_count_39 ?_
  refine va_get (v := .ref b0) (T := TX8) (N := 4) hx hb hts inX8 hown hK hP 1 rfl rfl 2 (by decide) f189 (fun _ h9 => h9) rfl dX10_count_42 ?_
  refine va_get (v := .int th) (T := TX2) (N := 7) hx hb hts inX2 hown hK hP 2 rfl rfl 6 (by decide) f248 (fun _ h9 => h9) rfl dX10_count_45 ?_
  exact he_ri hQ hx hb hr hlk hP hD hS dX10_count_48 (Nat.le_of_ble_eq_true rfl) (Nat.le_of_ble_eq_true rfl) (()) (rfl) (rfl)
set_option maxHeartbeats 4000000 in
set_option maxRecDepth 100000 in
theorem g_X10_countN (l : Launch) (g : he_G) (x0 : Nat) (y0 : Nat) (z0 : Nat) (p0 : Nat) (dr : Nat) (pa : Nat) (s0 : Nat) (im : Nat) (tr : Nat) (v0 : Nat) (rf : Nat) (ta : Int32) (to_ : Int32) (ki : Int32) (x : Int32) (hout : x.toInt < 0 ∨ 2 < x.toInt) : he_I l yX10_count wsX10_count 0 0 0 0 g [.ref x0, .int x] [(oX10 x0 y0 ta z0 p0 dr pa to_ s0 im ki tr v0 rf)] (fun (r : Int32) (u : Unit) => r = (-1)) (fun (u : Unit) => [(oX10 x0 y0 ta z0 p0 dr pa to_ s0 im ki tr v0 rf)]) := by
  refine he_begin (l := l) (g := g) (y := yX10_count) (wl := wsX10_count) (fr := 0) (lo := 0) (mc := 0) (ms := 0) (av := [.ref x0, .int x]) (ws := [(oX10 x0 y0 ta z0 p0 dr pa to_ s0 im ki tr v0 rf)]) (cc := cX10_count) (maxL := 2) (ret := (some .int)) (fun A => va_Qi (fun (r : Int32) (u : Unit) => r = (-1)) (fun u t => he_post g A ((fun (u : Unit) => [(oX10 x0 y0 ta z0 p0 dr pa to_ s0 im ki tr v0 rf)]) u) t) A) (by decide) rfl (Nat.le_of_ble_eq_true rfl) ?_
  intro p e s m args below meth c A ls H locs Q hQ hB
  obtain ⟨hx, hb, hr, hml, hown, hts, hlk, hin, hP, hK, hD, hS, hA, hE, hl⟩ := hB
  have hl : lv_has ls 2 [(0, .ref x0), (1, .int x)] := hl
  refine lv_iload_n hx hb dX10_count_0 rfl (lv_at hl 1 rfl) ?_
  refine lv_tableOut (tgt := 49) hx hb dX10_count_1 hout (by decide) ?_
  refine lv_iconst (v := (-1)) hx hb dX10_count_49 (by decide) ?_
  exact he_ri hQ hx hb hr hlk hP hD hS dX10_count_50 (Nat.le_of_ble_eq_true rfl) (Nat.le_of_ble_eq_true rfl) (()) (rfl) (rfl)
