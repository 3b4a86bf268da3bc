set_option maxHeartbeats 4000000 in
set_option maxRecDepth 100000 in
theorem g_X10_kindX (l : Launch) (g : he_G) (x0 : Nat) (y0 : Nat) (z0 : Nat) (p0 : Nat) (dr : Nat) (pa : Nat) (s0 : Nat) (im : Nat) (tr : Nat) (v0 : Nat) (rf : Nat) (ta : Int32) (to_ : Int32) (ki : Int32) (rc : Nat → Int32) (x : Int32) (y : Int32) (z : Int32) (hlt : l.stackTraces = false) (hbad : he_within x 0 3 = 0 ∨ he_within y 1 16 = 0 ∨ he_within z 1 16 = 0) : he_T he_QTv l yX10_kind wsX10_kind 7 103 1 6 g [.ref x0, .int x, .int y, .int z] [(oX10 x0 y0 ta z0 p0 dr pa to_ s0 im ki tr v0 rf), (aI g rf 3 rc)] "java/lang/IllegalArgumentException" [(oX10 x0 y0 ta z0 p0 dr pa to_ s0 im ki tr v0 rf), (aI g rf 3 (upd rc 2 (rc 2 + 1)))] := by
  refine he_beginX (l := l) (g := g) (y := yX10_kind) (wl := wsX10_kind) (fr := 7) (lo := 103) (mc := 1) (ms := 6) (av := [.ref x0, .int x, .int y, .int z]) (ws := [(oX10 x0 y0 ta z0 p0 dr pa to_ s0 im ki tr v0 rf), (aI g rf 3 rc)]) (cc := cX10_kind) (maxL := 4) (ret := none) he_QTv (by decide) rfl (Nat.le_of_ble_eq_true rfl) ?_
  intro p e s m args below meth c A ls H locs Q hQ hne hB
  obtain ⟨hx, hb, hr, hml, hown, hts, hlk, hin, hP, hK, hD, hS, hA, hE, hl⟩ := hB
  have hl : lv_has ls 4 [(0, .ref x0), (1, .int x), (2, .int y), (3, .int z)] := hl
  refine lv_aload_n hx hb dX10_kind_0 rfl (lv_at hl 0 rfl) ?_
  refine lv_iload_n hx hb dX10_kind_1 rfl (lv_at hl 1 rfl) ?_
  refine lv_iconst (v := 0) hx hb dX10_kind_2 (by decide) ?_
  refine lv_iconst (v := 3) hx hb dX10_kind_3 (by decide) ?_
  refine he_ci (wc := []) (wr := [(oX10 x0 y0 ta z0 p0 dr pa to_ s0 im ki tr v0 rf), (aI g rf 3 rc)]) (va_runS (As := [.int x, .int 0, .int 3]) (rest := [.ref x0]) ⟨hx, hb, hml, hown, hts⟩ (c_X10_within l g x 0 3 H.size) (va_cwS 3 hts gX10_kind_X10_within rfl rfl rfl (by decide +kernel) ⟨Nat.le_of_ble_eq_true rfl, Nat.le_of_ble_eq_true rfl⟩) (he_preS (wc := []) hK hP hD hS hA hE [] rfl rfl) rfl rfl hl.1 rfl (lv_room (Nat.le_of_ble_eq_true rfl)) dX10_kind_4 ⟨(Nat.le_of_ble_eq_true rfl), (Nat.le_of_ble_eq_true rfl)⟩) hP hD hS hA [] [0, 1] rfl rfl rfl (by decide) (fun r_1 u_2 H locs h_3 hP hD hS => ?_)
  subst h_3
  have hP : va_P g.1 vwCl [(oX10 x0 y0 ta z0 p0 dr pa to_ s0 im ki tr v0 rf), (aI g rf 3 rc)] H := hP
  have hD : va_D A [(oX10 x0 y0 ta z0 p0 dr pa to_ s0 im ki tr v0 rf), (aI g rf 3 rc)] := hD
  refine lv_if_eq (tgt := 34) hx hb dX10_kind_7 (by decide) (fun c_4 => ?_) (fun c_4 => ?_)
  · refine lv_iconst (v := 0) hx hb dX10_kind_34 (by decide) ?_
    refine he_xv (En := "java/lang/IllegalArgumentException") (wx := [(oX10 x0 y0 ta z0 p0 dr pa to_ s0 im ki tr v0 rf), (aI g rf 3 (upd rc 2 (rc 2 + 1)))]) (wc := [(oX10 x0 y0 ta z0 p0 dr pa to_ s0 im ki tr v0 rf), (aI g rf 3 rc)]) (wr := []) (vx_runV (As := [.int 0]) (rest := []) ⟨hx, hb, hml, hown, hts⟩ (g_X10_demand0 l g x0 y0 z0 p0 dr pa s0 im tr v0 rf ta to_ ki rc hlt H.size) (cwV 1 hts gX10_kind_X10_demand rfl rfl rfl (by decide +kernel) ⟨Nat.le_of_ble_eq_true rfl, Nat.le_of_ble_eq_true rfl⟩) (he_preV (wc := [(oX10 x0 y0 ta z0 p0 dr pa to_ s0 im ki tr v0 rf), (aI g rf 3 rc)]) hK hP hD hS hA hE [0, 1] rfl rfl 0 rfl rfl) rfl rfl hl.1 rfl (lv_room (Nat.le_of_ble_eq_true rfl)) dX10_kind_35 ⟨(Nat.le_of_ble_eq_true rfl), (Nat.le_of_ble_eq_true rfl)⟩) hP hD hS hA [0, 1] [] rfl rfl rfl (by decide) (fun ce q9 H locs hP hD hS hce hcv hcl => ?_)
    have hP : va_P g.1 vwCl [(oX10 x0 y0 ta z0 p0 dr pa to_ s0 im ki tr v0 rf), (aI g rf 3 (upd rc 2 (rc 2 + 1)))] H := hP
    have hD : va_D A [(oX10 x0 y0 ta z0 p0 dr pa to_ s0 im ki tr v0 rf), (aI g rf 3 (upd rc 2 (rc 2 + 1)))] := hD
    exact he_out hQ hlk hne hP hD hS hce hcv hcl (Nat.le_of_ble_eq_true rfl) (Nat.le_of_ble_eq_true rfl)
  · refine lv_iload_n hx hb dX10_kind_10 rfl (lv_at hl 2 rfl) ?_
    refine lv_iconst (v := 1) hx hb dX10_kind_11 (by decide) ?_
    refine lv_bipush (v := 16) hx hb dX10_kind_12 (by decide) ?_
    refine he_ci (wc := []) (wr := [(oX10 x0 y0 ta z0 p0 dr pa to_ s0 im ki tr v0 rf), (aI g rf 3 rc)]) (va_runS (As := [.int y, .int 1, .int 16]) (rest := [.ref x0]) ⟨hx, hb, hml, hown, hts⟩ (c_X10_within l g y 1 16 H.size) (va_cwS 3 hts gX10_kind_X10_within rfl rfl rfl (by decide +kernel) ⟨Nat.le_of_ble_eq_true rfl, Nat.le_of_ble_eq_true rfl⟩) (he_preS (wc := []) hK hP hD hS hA hE [] rfl rfl) rfl rfl hl.1 rfl (lv_room (Nat.le_of_ble_eq_true rfl)) dX10_kind_14 ⟨(Nat.le_of_ble_eq_true rfl), (Nat.le_of_ble_eq_true rfl)⟩) hP hD hS hA [] [0, 1] rfl rfl rfl (by decide) (fun r_5 u_6 H locs h_7 hP hD hS => ?_)
    subst h_7
    have hP : va_P g.1 vwCl [(oX10 x0 y0 ta z0 p0 dr pa to_ s0 im ki tr v0 rf), (aI g rf 3 rc)] H := hP
    have hD : va_D A [(oX10 x0 y0 ta z0 p0 dr pa to_ s0 im ki tr v0 rf), (aI g rf 3 rc)] := hD
    refine lv_if_eq (tgt := 34) hx hb dX10_kind_17 (by decide) (fun c_8 => ?_) (fun c_8 => ?_)
    · refine lv_iconst (v := 0) hx hb dX10_kind_34 (by decide) ?_
      refine he_xv (En := "java/lang/IllegalArgumentException") (wx := [(oX10 x0 y0 ta z0 p0 dr pa to_ s0 im ki tr v0 rf), (aI g rf 3 (upd rc 2 (rc 2 + 1)))]) (wc := [(oX10 x0 y0 ta z0 p0 dr pa to_ s0 im ki tr v0 rf), (aI g rf 3 rc)]) (wr := []) (vx_runV (As := [.int 0]) (rest := []) ⟨hx, hb, hml, hown, hts⟩ (g_X10_demand0 l g x0 y0 z0 p0 dr pa s0 im tr v0 rf ta to_ ki rc hlt H.size) (cwV 1 hts gX10_kind_X10_demand rfl rfl rfl (by decide +kernel) ⟨Nat.le_of_ble_eq_true rfl, Nat.le_of_ble_eq_true rfl⟩) (he_preV (wc := [(oX10 x0 y0 ta z0 p0 dr pa to_ s0 im ki tr v0 rf), (aI g rf 3 rc)]) hK hP hD hS hA hE [0, 1] rfl rfl 0 rfl rfl) rfl rfl hl.1 rfl (lv_room (Nat.le_of_ble_eq_true rfl)) dX10_kind_35 ⟨(Nat.le_of_ble_eq_true rfl), (Nat.le_of_ble_eq_true rfl)⟩) hP hD hS hA [0, 1] [] rfl rfl rfl (by decide) (fun ce q9 H locs hP hD hS hce hcv hcl => ?_)
      have hP : va_P g.1 vwCl [(oX10 x0 y0 ta z0 p0 dr pa to_ s0 im ki tr v0 rf), (aI g rf 3 (upd rc 2 (rc 2 + 1)))] H := hP
      have hD : va_D A [(oX10 x0 y0 ta z0 p0 dr pa to_ s0 im ki tr v0 rf), (aI g rf 3 (upd rc 2 (rc 2 + 1)))] := hD
      exact he_out hQ hlk hne hP hD hS hce hcv hcl (Nat.le_of_ble_eq_true rfl) (Nat.le_of_ble_eq_true rfl)
    · refine lv_iload_n hx hb dX10_kind_20 rfl (lv_at hl 3 rfl) ?_
      refine lv_iconst (v := 1) hx hb dX10_kind_21 (by decide) ?_
      refine lv_bipush (v := 16) hx hb dX10_kind_22 (by decide) ?_
      refine he_ci (wc := []) (wr := [(oX10 x0 y0 ta z0 p0 dr pa to_ s0 im ki tr v0 rf), (aI g rf 3 rc)]) (va_runS (As := [.int z, .int 1, .int 16]) (rest := [.ref x0]) ⟨hx, hb, hml, hown, hts⟩ (c_X10_within l g z 1 16 H.size) (va_cwS 3 hts gX10_kind_X10_within rfl rfl rfl (by decide +kernel) ⟨Nat.le_of_ble_eq_true rfl, Nat.le_of_ble_eq_true rfl⟩) (he_preS (wc := []) hK hP hD hS hA hE [] rfl rfl) rfl rfl hl.1 rfl (lv_room (Nat.le_of_ble_eq_true rfl)) dX10_kind_24 ⟨(Nat.le_of_ble_eq_true rfl), (Nat.le_of_ble_eq_true rfl)⟩) hP hD hS hA [] [0, 1] rfl rfl rfl (by decide) (fun r_9 u_10 H locs h_11 hP hD hS => ?_)
      subst h_11
      have hP : va_P g.1 vwCl [(oX10 x0 y0 ta z0 p0 dr pa to_ s0 im ki tr v0 rf), (aI g rf 3 rc)] H := hP
      have hD : va_D A [(oX10 x0 y0 ta z0 p0 dr pa to_ s0 im ki tr v0 rf), (aI g rf 3 rc)] := hD
      refine lv_if_eq (tgt := 34) hx hb dX10_kind_27 (by decide) (fun c_12 => ?_) (fun c_12 => ?_)
      · refine lv_iconst (v := 0) hx hb dX10_kind_34 (by decide) ?_
        refine he_xv (En := "java/lang/IllegalArgumentException") (wx := [(oX10 x0 y0 ta z0 p0 dr pa to_ s0 im ki tr v0 rf), (aI g rf 3 (upd rc 2 (rc 2 + 1)))]) (wc := [(oX10 x0 y0 ta z0 p0 dr pa to_ s0 im ki tr v0 rf), (aI g rf 3 rc)]) (wr := []) (vx_runV (As := [.int 0]) (rest := []) ⟨hx, hb, hml, hown, hts⟩ (g_X10_demand0 l g x0 y0 z0 p0 dr pa s0 im tr v0 rf ta to_ ki rc hlt H.size) (cwV 1 hts gX10_kind_X10_demand rfl rfl rfl (by decide +kernel) ⟨Nat.le_of_ble_eq_true rfl, Nat.le_of_ble_eq_true rfl⟩) (he_preV (wc := [(oX10 x0 y0 ta z0 p0 dr pa to_ s0 im ki tr v0 rf), (aI g rf 3 rc)]) hK hP hD hS hA hE [0, 1] rfl rfl 0 rfl rfl) rfl rfl hl.1 rfl (lv_room (Nat.le_of_ble_eq_true rfl)) dX10_kind_35 ⟨(Nat.le_of_ble_eq_true rfl), (Nat.le_of_ble_eq_true rfl)⟩) hP hD hS hA [0, 1] [] rfl rfl rfl (by decide) (fun ce q9 H locs hP hD hS hce hcv hcl => ?_)
        have hP : va_P g.1 vwCl [(oX10 x0 y0 ta z0 p0 dr pa to_ s0 im ki tr v0 rf), (aI g rf 3 (upd rc 2 (rc 2 + 1)))] H := hP
        have hD : va_D A [(oX10 x0 y0 ta z0 p0 dr pa to_ s0 im ki tr v0 rf), (aI g rf 3 (upd rc 2 (rc 2 + 1)))] := hD
        exact he_out hQ hlk hne hP hD hS hce hcv hcl (Nat.le_of_ble_eq_true rfl) (Nat.le_of_ble_eq_true rfl)
      · refine lv_iconst (v := 1) hx hb dX10_kind_30 (by decide) ?_
        refine lv_goto (tgt := 35) hx hb dX10_kind_31 (by decide) ?_
        exact absurd hbad (by rintro (h9 | h9 | h9) <;> contradiction)
set_option maxHeartbeats 4000000 in
set_option maxRecDepth 100000 in
theorem g_X10_seenX (l : Launch) (g : he_G) (x0 : Nat) (y0 : Nat) (z0 : Nat) (p0 : Nat) (dr : Nat) (pa : Nat) (s0 : Nat) (im : Nat) (tr : Nat) (v0 : Nat) (rf : Nat) (ta : Int32) (to_ : Int32) (ki : Int32) (rc : Nat → Int32) (x : Int32) (hlt : l.stackTraces = false) (hbad : he_within x 0 3 = 0) : he_T he_QTi l yX10_seen wsX10_seen 7 103 1 6 g [.ref x0, .int x] [(oX10 x0 y0 ta z0 p0 dr pa to_ s0 im ki tr v0 rf), (aI g rf 3 rc)] "java/lang/IllegalArgumentException" [(oX10 x0 y0 ta z0 p0 dr pa to_ s0 im ki tr v0 rf), (aI g rf 3 (upd rc 2 (rc 2 + 1)))] := by
  refine he_beginX (l := l) (g := g) (y := yX10_seen) (wl := wsX10_seen) (fr := 7) (lo := 103) (mc := 1) (ms := 6) (av := [.ref x0, .int x]) (ws := [(oX10 x0 y0 ta z0 p0 dr pa to_ s0 im ki tr v0 rf), (aI g rf 3 rc)]) (cc := cX10_seen) (maxL := 3) (ret := (some .int)) he_QTi (by decide) rfl (Nat.le_of_ble_eq_true rfl) ?_
  intro p e s m args below meth c A ls H locs Q hQ hne hB
  obtain ⟨hx, hb, hr, hml, hown, hts, hlk, hin, hP, hK, hD, hS, hA, hE, hl⟩ := hB
  have hl : lv_has ls 3 [(0, .ref x0), (1, .int x)] := hl
  refine lv_aload_n hx hb dX10_seen_0 rfl (lv_at hl 0 rfl) ?_
  refine lv_iload_n hx hb dX10_seen_1 rfl (lv_at hl 1 rfl) ?_
  refine lv_iconst (v := 0) hx hb dX10_seen_2 (by decide) ?_
  refine lv_iconst (v := 3) hx hb dX10_seen_3 (by decide) ?_
  refine he_ci (wc := []) (wr := [(oX10 x0 y0 ta z0 p0 dr pa to_ s0 im ki tr v0 rf), (aI g rf 3 rc)]) (va_runS (As := [.int x, .int 0, .int 3]) (rest := [.ref x0]) ⟨hx, hb, hml, hown, hts⟩ (c_X10_within l g x 0 3 H.size) (va_cwS 3 hts gX10_seen_X10_within rfl rfl rfl (by decide +kernel) ⟨Nat.le_of_ble_eq_true rfl, Nat.le_of_ble_eq_true rfl⟩) (he_preS (wc := []) hK hP hD hS hA hE [] rfl rfl) rfl rfl hl.1 rfl (lv_room (Nat.le_of_ble_eq_true rfl)) dX10_seen_4 ⟨(Nat.le_of_ble_eq_true rfl), (Nat.le_of_ble_eq_true rfl)⟩) hP hD hS hA [] [0, 1] rfl rfl rfl (by decide) (fun r_1 u_2 H locs h_3 hP hD hS => ?_)
  subst h_3
  have hP : va_P g.1 vwCl [(oX10 x0 y0 ta z0 p0 dr pa to_ s0 im ki tr v0 rf), (aI g rf 3 rc)] H := hP
  have hD : va_D A [(oX10 x0 y0 ta z0 p0 dr pa to_ s0 im ki tr v0 rf), (aI g rf 3 rc)] := hD
  refine he_top (0) hbad ?_
  refine he_xv (En := "java/lang/IllegalArgumentException") (wx := [(oX10 x0 y0 ta z0 p0 dr pa to_ s0 im ki tr v0 rf), (aI g rf 3 (upd rc 2 (rc 2 + 1)))]) (wc := [(oX10 x0 y0 ta z0 p0 dr pa to_ s0 im ki tr v0 rf), (aI g rf 3 rc)]) (wr := []) (vx_runV (As := [.int 0]) (rest := []) ⟨hx, hb, hml, hown, hts⟩ (g_X10_demand0 l g x0 y0 z0 p0 dr pa s0 im tr v0 rf ta to_ ki rc hlt H.size) (cwV 1 hts gX10_seen_X10_demand rfl rfl rfl (by decide +kernel) ⟨Nat.le_of_ble_eq_true rfl, Nat.le_of_ble_eq_true rfl⟩) (he_preV (wc := [(oX10 x0 y0 ta z0 p0 dr pa to_ s0 im ki tr v0 rf), (aI g rf 3 rc)]) hK hP hD hS hA hE [0, 1] rfl rfl 0 rfl rfl) rfl rfl hl.1 rfl (lv_room (Nat.le_of_ble_eq_true rfl)) dX10_seen_7 ⟨(Nat.le_of_ble_eq_true rfl), (Nat.le_of_ble_eq_true rfl)⟩) hP hD hS hA [0, 1] [] rfl rfl rfl (by decide) (fun ce q9 H locs hP hD hS hce hcv hcl => ?_)
  have hP : va_P g.1 vwCl [(oX10 x0 y0 ta z0 p0 dr pa to_ s0 im ki tr v0 rf), (aI g rf 3 (upd rc 2 (rc 2 + 1)))] H := hP
  have hD : va_D A [(oX10 x0 y0 ta z0 p0 dr pa to_ s0 im ki tr v0 rf), (aI g rf 3 (upd rc 2 (rc 2 + 1)))] := hD
  exact he_out hQ hlk hne hP hD hS hce hcv hcl (Nat.le_of_ble_eq_true rfl) (Nat.le_of_ble_eq_true rfl)
set_option maxHeartbeats 4000000 in
set_option maxRecDepth 100000 in
theorem g_X10_spyX (l : Launch) (g : he_G) (x0 : Nat) (y0 : Nat) (z0 : Nat) (p0 : Nat) (dr : Nat) (pa : Nat) (s0 : Nat) (im : Nat) (tr : Nat) (v0 : Nat) (rf : Nat) (ta : Int32) (to_ : Int32) (ki : Int32) (rc : Nat → Int32) (b : Int32) (x : Int32) (hlt : l.stackTraces = false) (hbad : he_within x 1 15 = 0) : he_T he_QTi l yX10_spy wsX10_spy 7 103 1 6 g [.ref x0, .int b, .int x] [(oX10 x0 y0 ta z0 p0 dr pa to_ s0 im ki tr v0 rf), (aI g rf 3 rc)] "java/lang/IllegalArgumentException" [(oX10 x0 y0 ta z0 p0 dr pa to_ s0 im ki tr v0 rf), (aI g rf 3 (upd rc 2 (rc 2 + 1)))] := by
  refine he_beginX (l := l) (g := g) (y := yX10_spy) (wl := wsX10_spy) (fr := 7) (lo := 103) (mc := 1) (ms := 6) (av := [.ref x0, .int b, .int x]) (ws := [(oX10 x0 y0 ta z0 p0 dr pa to_ s0 im ki tr v0 rf), (aI g rf 3 rc)]) (cc := cX10_spy) (maxL := 4) (ret := (some .int)) he_QTi (by decide) rfl (Nat.le_of_ble_eq_true rfl) ?_
  intro p e s m args below meth c A ls H locs Q hQ hne hB
  obtain ⟨hx, hb, hr, hml, hown, hts, hlk, hin, hP, hK, hD, hS, hA, hE, hl⟩ := hB
  have hl : lv_has ls 4 [(0, .ref x0), (1, .int b), (2, .int x)] := hl
  refine lv_aload_n hx hb dX10_spy_0 rfl (lv_at hl 0 rfl) ?_
  refine lv_iload_n hx hb dX10_spy_1 rfl (lv_at hl 2 rfl) ?_
  refine lv_iconst (v := 1) hx hb dX10_spy_2 (by decide) ?_
  refine lv_bipush (v := 15) hx hb dX10_spy_3 (by decide) ?_
  refine he_ci (wc := []) (wr := [(oX10 x0 y0 ta z0 p0 dr pa to_ s0 im ki tr v0 rf), (aI g rf 3 rc)]) (va_runS (As := [.int x, .int 1, .int 15]) (rest := [.ref x0]) ⟨hx, hb, hml, hown, hts⟩ (c_X10_within l g x 1 15 H.size) (va_cwS 3 hts gX10_spy_X10_within rfl rfl rfl (by decide +kernel) ⟨Nat.le_of_ble_eq_true rfl, Nat.le_of_ble_eq_true rfl⟩) (he_preS (wc := []) hK hP hD hS hA hE [] rfl rfl) rfl rfl hl.1 rfl (lv_room (Nat.le_of_ble_eq_true rfl)) dX10_spy_5 ⟨(Nat.le_of_ble_eq_true rfl), (Nat.le_of_ble_eq_true rfl)⟩) hP hD hS hA [] [0, 1] rfl rfl rfl (by decide) (fun r_1 u_2 H locs h_3 hP hD hS => ?_)
  subst h_3
  have hP : va_P g.1 vwCl [(oX10 x0 y0 ta z0 p0 dr pa to_ s0 im ki tr v0 rf), (aI g rf 3 rc)] H := hP
  have hD : va_D A [(oX10 x0 y0 ta z0 p0 dr pa to_ s0 im ki tr v0 rf), (aI g rf 3 rc)] := hD
  refine he_top (0) hbad ?_
  refine he_xv (En := "java/lang/IllegalArgumentException") (wx := [(oX10 x0 y0 ta z0 p0 dr pa to_ s0 im ki tr v0 rf), (aI g rf 3 (upd rc 2 (rc 2 + 1)))]) (wc := [(oX10 x0 y0 ta z0 p0 dr pa to_ s0 im ki tr v0 rf), (aI g rf 3 rc)]) (wr := []) (vx_runV (As := [.int 0]) (rest := []) ⟨hx, hb, hml, hown, hts⟩ (g_X10_demand0 l g x0 y0 z0 p0 dr pa s0 im tr v0 rf ta to_ ki rc hlt H.size) (cwV 1 hts gX10_spy_X10_demand rfl rfl rfl (by decide +kernel) ⟨Nat.le_of_ble_eq_true rfl, Nat.le_of_ble_eq_true rfl⟩) (he_preV (wc := [(oX10 x0 y0 ta z0 p0 dr pa to_ s0 im ki tr v0 rf), (aI g rf 3 rc)]) hK hP hD hS hA hE [0, 1] rfl rfl 0 rfl rfl) rfl rfl hl.1 rfl (lv_room (Nat.le_of_ble_eq_true rfl)) dX10_spy_8 ⟨(Nat.le_of_ble_eq_true rfl), (Nat.le_of_ble_eq_true rfl)⟩) hP hD hS hA [0, 1] [] rfl rfl rfl (by decide) (fun ce q9 H locs hP hD hS hce hcv hcl => ?_)
  have hP : va_P g.1 vwCl [(oX10 x0 y0 ta z0 p0 dr pa to_ s0 im ki tr v0 rf), (aI g rf 3 (upd rc 2 (rc 2 + 1)))] H := hP
  have hD : va_D A [(oX10 x0 y0 ta z0 p0 dr pa to_ s0 im ki tr v0 rf), (aI g rf 3 (upd rc 2 (rc 2 + 1)))] := hD
  exact he_out hQ hlk hne hP hD hS hce hcv hcl (Nat.le_of_ble_eq_true rfl) (Nat.le_of_ble_eq_true rfl)
set_option maxHeartbeats 4000000 in
set_option maxRecDepth 100000 in
theorem g_X10_believedX (l : Launch) (g : he_G) (x0 : Nat) (y0 : Nat) (z0 : Nat) (p0 : Nat) (dr : Nat) (pa : Nat) (s0 : Nat) (im : Nat) (tr : Nat) (v0 : Nat) (rf : Nat) (ta : Int32) (to_ : Int32) (ki : Int32) (rc : Nat → Int32) (x : Int32) (hlt : l.stackTraces = false) (hbad : he_within x 0 1 = 0) : he_T he_QTj l yX10_believed wsX10_believed 7 103 1 6 g [.ref x0, .int x] [(oX10 x0 y0 ta z0 p0 dr pa to_ s0 im ki tr v0 rf), (aI g rf 3 rc)] "java/lang/IllegalArgumentException" [(oX10 x0 y0 ta z0 p0 dr pa to_ s0 im ki tr v0 rf), (aI g rf 3 (upd rc 2 (rc 2 + 1)))] := by
  refine he_beginX (l := l) (g := g) (y := yX10_believed) (wl := wsX10_believed) (fr := 7) (lo := 103) (mc := 1) (ms := 6) (av := [.ref x0, .int x]) (ws := [(oX10 x0 y0 ta z0 p0 dr pa to_ s0 im ki tr v0 rf), (aI g rf 3 rc)]) (cc := cX10_believed) (maxL := 2) (ret := (some .long)) he_QTj (by decide) rfl (Nat.le_of_ble_eq_true rfl) ?_
  intro p e s m args below meth c A ls H locs Q hQ hne hB
  obtain ⟨hx, hb, hr, hml, hown, hts, hlk, hin, hP, hK, hD, hS, hA, hE, hl⟩ := hB
  have hl : lv_has ls 2 [(0, .ref x0), (1, .int x)] := hl
  refine lv_aload_n hx hb dX10_believed_0 rfl (lv_at hl 0 rfl) ?_
  refine lv_iload_n hx hb dX10_believed_1 rfl (lv_at hl 1 rfl) ?_
  refine lv_iconst (v := 0) hx hb dX10_believed_2 (by decide) ?_
  refine lv_iconst (v := 1) hx hb dX10_believed_3 (by decide) ?_
  refine he_ci (wc := []) (wr := [(oX10 x0 y0 ta z0 p0 dr pa to_ s0 im ki tr v0 rf), (aI g rf 3 rc)]) (va_runS (As := [.int x, .int 0, .int 1]) (rest := [.ref x0]) ⟨hx, hb, hml, hown, hts⟩ (c_X10_within l g x 0 1 H.size) (va_cwS 3 hts gX10_believed_X10_within rfl rfl rfl (by decide +kernel) ⟨Nat.le_of_ble_eq_true rfl, Nat.le_of_ble_eq_true rfl⟩) (he_preS (wc := []) hK hP hD hS hA hE [] rfl rfl) rfl rfl hl.1 rfl (lv_room (Nat.le_of_ble_eq_true rfl)) dX10_believed_4 ⟨(Nat.le_of_ble_eq_true rfl), (Nat.le_of_ble_eq_true rfl)⟩) hP hD hS hA [] [0, 1] rfl rfl rfl (by decide) (fun r_1 u_2 H locs h_3 hP hD hS => ?_)
  subst h_3
  have hP : va_P g.1 vwCl [(oX10 x0 y0 ta z0 p0 dr pa to_ s0 im ki tr v0 rf), (aI g rf 3 rc)] H := hP
  have hD : va_D A [(oX10 x0 y0 ta z0 p0 dr pa to_ s0 im ki tr v0 rf), (aI g rf 3 rc)] := hD
  refine he_top (0) hbad ?_
  refine he_xv (En := "java/lang/IllegalArgumentException") (wx := [(oX10 x0 y0 ta z0 p0 dr pa to_ s0 im ki tr v0 rf), (aI g rf 3 (upd rc 2 (rc 2 + 1)))]) (wc := [(oX10 x0 y0 ta z0 p0 dr pa to_ s0 im ki tr v0 rf), (aI g rf 3 rc)]) (wr := []) (vx_runV (As := [.int 0]) (rest := []) ⟨hx, hb, hml, hown, hts⟩ (g_X10_demand0 l g x0 y0 z0 p0 dr pa s0 im tr v0 rf ta to_ ki rc hlt H.size) (cwV 1 hts gX10_believed_X10_demand rfl rfl rfl (by decide +kernel) ⟨Nat.le_of_ble_eq_true rfl, Nat.le_of_ble_eq_true rfl⟩) (he_preV (wc := [(oX10 x0 y0 ta z0 p0 dr pa to_ s0 im ki tr v0 rf), (aI g rf 3 rc)]) hK hP hD hS hA hE [0, 1] rfl rfl 0 rfl rfl) rfl rfl hl.1 rfl (lv_room (Nat.le_of_ble_eq_true rfl)) dX10_believed_7 ⟨(Nat.le_of_ble_eq_true rfl), (Nat.le_of_ble_eq_true rfl)⟩) hP hD hS hA [0, 1] [] rfl rfl rfl (by decide) (fun ce q9 H locs hP hD hS hce hcv hcl => ?_)
  have hP : va_P g.1 vwCl [(oX10 x0 y0 ta z0 p0 dr pa to_ s0 im ki tr v0 rf), (aI g rf 3 (upd rc 2 (rc 2 + 1)))] H := hP
  have hD : va_D A [(oX10 x0 y0 ta z0 p0 dr pa to_ s0 im ki tr v0 rf), (aI g rf 3 (upd rc 2 (rc 2 + 1)))] := hD
  exact he_out hQ hlk hne hP hD hS hce hcv hcl (Nat.le_of_ble_eq_true rfl) (Nat.le_of_ble_eq_true rfl)
set_option maxHeartbeats 4000000 in
set_option maxRecDepth 100000 in
theorem g_X10_earnestX (l : Launch) (g : he_G) (x0 : Nat) (y0 : Nat) (z0 : Nat) (p0 : Nat) (dr : Nat) (pa : Nat) (s0 : Nat) (im : Nat) (tr : Nat) (v0 : Nat) (rf : Nat) (ta : Int32) (to_ : Int32) (ki : Int32) (rc : Nat → Int32) (x : Int32) (y : Int32) (z : Int32) (hlt : l.stackTraces = false) (hbad : he_within x 0 6 = 0 ∨ he_within y 0 6 = 0 ∨ he_within z 0 1 = 0) : he_T he_QTi l yX10_earnest wsX10_earnest 7 103 1 6 g [.ref x0, .int x, .int y, .int z] [(oX10 x0 y0 ta z0 p0 dr pa to_ s0 im ki tr v0 rf), (aI g rf 3 rc)] "java/lang/IllegalArgumentException" [(oX10 x0 y0 ta z0 p0 dr pa to_ s0 im ki tr v0 rf), (aI g rf 3 (upd rc 2 (rc 2 + 1)))] := by
  refine he_beginX (l := l) (g := g) (y := yX10_earnest) (wl := wsX10_earnest) (fr := 7) (lo := 103) (mc := 1) (ms := 6) (av := [.ref x0, .int x, .int y, .int z]) (ws := [(oX10 x0 y0 ta z0 p0 dr pa to_ s0 im ki tr v0 rf), (aI g rf 3 rc)]) (cc := cX10_earnest) (maxL := 4) (ret := (some .int)) he_QTi (by decide) rfl (Nat.le_of_ble_eq_true rfl) ?_
  intro p e s m args below meth c A ls H locs Q hQ hne hB
  obtain ⟨hx, hb, hr, hml, hown, hts, hlk, hin, hP, hK, hD, hS, hA, hE, hl⟩ := hB
  have hl : lv_has ls 4 [(0, .ref x0), (1, .int x), (2, .int y), (3, .int z)] := hl
  refine lv_aload_n hx hb dX10_earnest_0 rfl (lv_at hl 0 rfl) ?_
  refine lv_iload_n hx hb dX10_earnest_1 rfl (lv_at hl 1 rfl) ?_
  refine lv_iconst (v := 0) hx hb dX10_earnest_2 (by decide) ?_
  refine lv_bipush (v := 6) hx hb dX10_earnest_3 (by decide) ?_
  refine he_ci (wc := []) (wr := [(oX10 x0 y0 ta z0 p0 dr pa to_ s0 im ki tr v0 rf), (aI g rf 3 rc)]) (va_runS (As := [.int x, .int 0, .int 6]) (rest := [.ref x0]) ⟨hx, hb, hml, hown, hts⟩ (c_X10_within l g x 0 6 H.size) (va_cwS 3 hts gX10_earnest_X10_within rfl rfl rfl (by decide +kernel) ⟨Nat.le_of_ble_eq_true rfl, Nat.le_of_ble_eq_true rfl⟩) (he_preS (wc := []) hK hP hD hS hA hE [] rfl rfl) rfl rfl hl.1 rfl (lv_room (Nat.le_of_ble_eq_true rfl)) dX10_earnest_5 ⟨(Nat.le_of_ble_eq_true rfl), (Nat.le_of_ble_eq_true rfl)⟩) hP hD hS hA [] [0, 1] rfl rfl rfl (by decide) (fun r_1 u_2 H locs h_3 hP hD hS => ?_)
  subst h_3
  have hP : va_P g.1 vwCl [(oX10 x0 y0 ta z0 p0 dr pa to_ s0 im ki tr v0 rf), (aI g rf 3 rc)] H := hP
  have hD : va_D A [(oX10 x0 y0 ta z0 p0 dr pa to_ s0 im ki tr v0 rf), (aI g rf 3 rc)] := hD
  refine lv_if_eq (tgt := 34) hx hb dX10_earnest_8 (by decide) (fun c_4 => ?_) (fun c_4 => ?_)
  · refine lv_iconst (v := 0) hx hb dX10_earnest_34 (by decide) ?_
    refine he_xv (En := "java/lang/IllegalArgumentException") (wx := [(oX10 x0 y0 ta z0 p0 dr pa to_ s0 im ki tr v0 rf), (aI g rf 3 (upd rc 2 (rc 2 + 1)))]) (wc := [(oX10 x0 y0 ta z0 p0 dr pa to_ s0 im ki tr v0 rf), (aI g rf 3 rc)]) (wr := []) (vx_runV (As := [.int 0]) (rest := []) ⟨hx, hb, hml, hown, hts⟩ (g_X10_demand0 l g x0 y0 z0 p0 dr pa s0 im tr v0 rf ta to_ ki rc hlt H.size) (cwV 1 hts gX10_earnest_X10_demand rfl rfl rfl (by decide +kernel) ⟨Nat.le_of_ble_eq_true rfl, Nat.le_of_ble_eq_true rfl⟩) (he_preV (wc := [(oX10 x0 y0 ta z0 p0 dr pa to_ s0 im ki tr v0 rf), (aI g rf 3 rc)]) hK hP hD hS hA hE [0, 1] rfl rfl 0 rfl rfl) rfl rfl hl.1 rfl (lv_room (Nat.le_of_ble_eq_true rfl)) dX10_earnest_35 ⟨(Nat.le_of_ble_eq_true rfl), (Nat.le_of_ble_eq_true rfl)⟩) hP hD hS hA [0, 1] [] rfl rfl rfl (by decide) (fun ce q9 H locs hP hD hS hce hcv hcl => ?_)
    have hP : va_P g.1 vwCl [(oX10 x0 y0 ta z0 p0 dr pa to_ s0 im ki tr v0 rf), (aI g rf 3 (upd rc 2 (rc 2 + 1)))] H := hP
    have hD : va_D A [(oX10 x0 y0 ta z0 p0 dr pa to_ s0 im ki tr v0 rf), (aI g rf 3 (upd rc 2 (rc 2 + 1)))] := hD
    exact he_out hQ hlk hne hP hD hS hce hcv hcl (Nat.le_of_ble_eq_true rfl) (Nat.le_of_ble_eq_true rfl)
  · refine lv_iload_n hx hb dX10_earnest_11 rfl (lv_at hl 2 rfl) ?_
    refine lv_iconst (v := 0) hx hb dX10_earnest_12 (by decide) ?_
    refine lv_bipush (v := 6) hx hb dX10_earnest_13 (by decide) ?_
    refine he_ci (wc := []) (wr := [(oX10 x0 y0 ta z0 p0 dr pa to_ s0 im ki tr v0 rf), (aI g rf 3 rc)]) (va_runS (As := [.int y, .int 0, .int 6]) (rest := [.ref x0]) ⟨hx, hb, hml, hown, hts⟩ (c_X10_within l g y 0 6 H.size) (va_cwS 3 hts gX10_earnest_X10_within rfl rfl rfl (by decide +kernel) ⟨Nat.le_of_ble_eq_true rfl, Nat.le_of_ble_eq_true rfl⟩) (he_preS (wc := []) hK hP hD hS hA hE [] rfl rfl) rfl rfl hl.1 rfl (lv_room (Nat.le_of_ble_eq_true rfl)) dX10_earnest_15 ⟨(Nat.le_of_ble_eq_true rfl), (Nat.le_of_ble_eq_true rfl)⟩) hP hD hS hA [] [0, 1] rfl rfl rfl (by decide) (fun r_5 u_6 H locs h_7 hP hD hS => ?_)
    subst h_7
    have hP : va_P g.1 vwCl [(oX10 x0 y0 ta z0 p0 dr pa to_ s0 im ki tr v0 rf), (aI g rf 3 rc)] H := hP
    have hD : va_D A [(oX10 x0 y0 ta z0 p0 dr pa to_ s0 im ki tr v0 rf), (aI g rf 3 rc)] := hD
    refine lv_if_eq (tgt := 34) hx hb dX10_earnest_18 (by decide) (fun c_8 => ?_) (fun c_8 => ?_)
    · refine lv_iconst (v := 0) hx hb dX10_earnest_34 (by decide) ?_
      refine he_xv (En := "java/lang/IllegalArgumentException") (wx := [(oX10 x0 y0 ta z0 p0 dr pa to_ s0 im ki tr v0 rf), (aI g rf 3 (upd rc 2 (rc 2 + 1)))]) (wc := [(oX10 x0 y0 ta z0 p0 dr pa to_ s0 im ki tr v0 rf), (aI g rf 3 rc)]) (wr := []) (vx_runV (As := [.int 0]) (rest := []) ⟨hx, hb, hml, hown, hts⟩ (g_X10_demand0 l g x0 y0 z0 p0 dr pa s0 im tr v0 rf ta to_ ki rc hlt H.size) (cwV 1 hts gX10_earnest_X10_demand rfl rfl rfl (by decide +kernel) ⟨Nat.le_of_ble_eq_true rfl, Nat.le_of_ble_eq_true rfl⟩) (he_preV (wc := [(oX10 x0 y0 ta z0 p0 dr pa to_ s0 im ki tr v0 rf), (aI g rf 3 rc)]) hK hP hD hS hA hE [0, 1] rfl rfl 0 rfl rfl) rfl rfl hl.1 rfl (lv_room (Nat.le_of_ble_eq_true rfl)) dX10_earnest_35 ⟨(Nat.le_of_ble_eq_true rfl), (Nat.le_of_ble_eq_true rfl)⟩) hP hD hS hA [0, 1] [] rfl rfl rfl (by decide) (fun ce q9 H locs hP hD hS hce hcv hcl => ?_)
      have hP : va_P g.1 vwCl [(oX10 x0 y0 ta z0 p0 dr pa to_ s0 im ki tr v0 rf), (aI g rf 3 (upd rc 2 (rc 2 + 1)))] H := hP
      have hD : va_D A [(oX10 x0 y0 ta z0 p0 dr pa to_ s0 im ki tr v0 rf), (aI g rf 3 (upd rc 2 (rc 2 + 1)))] := hD
      exact he_out hQ hlk hne hP hD hS hce hcv hcl (Nat.le_of_ble_eq_true rfl) (Nat.le_of_ble_eq_true rfl)
    · refine lv_iload_n hx hb dX10_earnest_21 rfl (lv_at hl 3 rfl) ?_
      refine lv_iconst (v := 0) hx hb dX10_earnest_22 (by decide) ?_
      refine lv_iconst (v := 1) hx hb dX10_earnest_23 (by decide) ?_
      refine he_ci (wc := []) (wr := [(oX10 x0 y0 ta z0 p0 dr pa to_ s0 im ki tr v0 rf), (aI g rf 3 rc)]) (va_runS (As := [.int z, .int 0, .int 1]) (rest := [.ref x0]) ⟨hx, hb, hml, hown, hts⟩ (c_X10_within l g z 0 1 H.size) (va_cwS 3 hts gX10_earnest_X10_within rfl rfl rfl (by decide +kernel) ⟨Nat.le_of_ble_eq_true rfl, Nat.le_of_ble_eq_true rfl⟩) (he_preS (wc := []) hK hP hD hS hA hE [] rfl rfl) rfl rfl hl.1 rfl (lv_room (Nat.le_of_ble_eq_true rfl)) dX10_earnest_24 ⟨(Nat.le_of_ble_eq_true rfl), (Nat.le_of_ble_eq_true rfl)⟩) hP hD hS hA [] [0, 1] rfl rfl rfl (by decide) (fun r_9 u_10 H locs h_11 hP hD hS => ?_)
      subst h_11
      have hP : va_P g.1 vwCl [(oX10 x0 y0 ta z0 p0 dr pa to_ s0 im ki tr v0 rf), (aI g rf 3 rc)] H := hP
      have hD : va_D A [(oX10 x0 y0 ta z0 p0 dr pa to_ s0 im ki tr v0 rf), (aI g rf 3 rc)] := hD
      refine lv_if_eq (tgt := 34) hx hb dX10_earnest_27 (by decide) (fun c_12 => ?_) (fun c_12 => ?_)
      · refine lv_iconst (v := 0) hx hb dX10_earnest_34 (by decide) ?_
        refine he_xv (En := "java/lang/IllegalArgumentException") (wx := [(oX10 x0 y0 ta z0 p0 dr pa to_ s0 im ki tr v0 rf), (aI g rf 3 (upd rc 2 (rc 2 + 1)))]) (wc := [(oX10 x0 y0 ta z0 p0 dr pa to_ s0 im ki tr v0 rf), (aI g rf 3 rc)]) (wr := []) (vx_runV (As := [.int 0]) (rest := []) ⟨hx, hb, hml, hown, hts⟩ (g_X10_demand0 l g x0 y0 z0 p0 dr pa s0 im tr v0 rf ta to_ ki rc hlt H.size) (cwV 1 hts gX10_earnest_X10_demand rfl rfl rfl (by decide +kernel) ⟨Nat.le_of_ble_eq_true rfl, Nat.le_of_ble_eq_true rfl⟩) (he_preV (wc := [(oX10 x0 y0 ta z0 p0 dr pa to_ s0 im ki tr v0 rf), (aI g rf 3 rc)]) hK hP hD hS hA hE [0, 1] rfl rfl 0 rfl rfl) rfl rfl hl.1 rfl (lv_room (Nat.le_of_ble_eq_true rfl)) dX10_earnest_35 ⟨(Nat.le_of_ble_eq_true rfl), (Nat.le_of_ble_eq_true rfl)⟩) hP hD hS hA [0, 1] [] rfl rfl rfl (by decide) (fun ce q9 H locs hP hD hS hce hcv hcl => ?_)
        have hP : va_P g.1 vwCl [(oX10 x0 y0 ta z0 p0 dr pa to_ s0 im ki tr v0 rf), (aI g rf 3 (upd rc 2 (rc 2 + 1)))] H := hP
        have hD : va_D A [(oX10 x0 y0 ta z0 p0 dr pa to_ s0 im ki tr v0 rf), (aI g rf 3 (upd rc 2 (rc 2 + 1)))] := hD
        exact he_out hQ hlk hne hP hD hS hce hcv hcl (Nat.le_of_ble_eq_true rfl) (Nat.le_of_ble_eq_true rfl)
      · refine lv_iconst (v := 1) hx hb dX10_earnest_30 (by decide) ?_
        refine lv_goto (tgt := 35) hx hb dX10_earnest_31 (by decide) ?_
        exact absurd hbad (by rintro (h9 | h9 | h9) <;> contradiction)
set_option maxHeartbeats 4000000 in
set_option maxRecDepth 100000 in
theorem g_X10_standsX (l : Launch) (g : he_G) (x0 : Nat) (y0 : Nat) (z0 : Nat) (p0 : Nat) (dr : Nat) (pa : Nat) (s0 : Nat) (im : Nat) (tr : Nat) (v0 : Nat) (rf : Nat) (ta : Int32) (to_ : Int32) (ki : Int32) (rc : Nat → Int32) (x : Int32) (y : Int32) (hlt : l.stackTraces = false) (hbad : he_within x 0 6 = 0 ∨ he_within y 0 6 = 0) : he_T he_QTi l yX10_stands wsX10_stands 7 103 1 6 g [.ref x0, .int x, .int y] [(oX10 x0 y0 ta z0 p0 dr pa to_ s0 im ki tr v0 rf), (aI g rf 3 rc)] "java/lang/IllegalArgumentException" [(oX10 x0 y0 ta z0 p0 dr pa to_ s0 im ki tr v0 rf), (aI g rf 3 (upd rc 2 (rc 2 + 1)))] := by
  refine he_beginX (l := l) (g := g) (y := yX10_stands) (wl := wsX10_stands) (fr := 7) (lo := 103) (mc := 1) (ms := 6) (av := [.ref x0, .int x, .int y]) (ws := [(oX10 x0 y0 ta z0 p0 dr pa to_ s0 im ki tr v0 rf), (aI g rf 3 rc)]) (cc := cX10_stands) (maxL := 3) (ret := (some .int)) he_QTi (by decide) rfl (Nat.le_of_ble_eq_true rfl) ?_
  intro p e s m args below meth c A ls H locs Q hQ hne hB
  obtain ⟨hx, hb, hr, hml, hown, hts, hlk, hin, hP, hK, hD, hS, hA, hE, hl⟩ := hB
  have hl : lv_has ls 3 [(0, .ref x0), (1, .int x), (2, .int y)] := hl
  refine lv_aload_n hx hb dX10_stands_0 rfl (lv_at hl 0 rfl) ?_
  refine lv_iload_n hx hb dX10_stands_1 rfl (lv_at hl 1 rfl) ?_
  refine lv_iconst (v := 0) hx hb dX10_stands_2 (by decide) ?_
  refine lv_bipush (v := 6) hx hb dX10_stands_3 (by decide) ?_
  refine he_ci (wc := []) (wr := [(oX10 x0 y0 ta z0 p0 dr pa to_ s0 im ki tr v0 rf), (aI g rf 3 rc)]) (va_runS (As := [.int x, .int 0, .int 6]) (rest := [.ref x0]) ⟨hx, hb, hml, hown, hts⟩ (c_X10_within l g x 0 6 H.size) (va_cwS 3 hts gX10_stands_X10_within rfl rfl rfl (by decide +kernel) ⟨Nat.le_of_ble_eq_true rfl, Nat.le_of_ble_eq_true rfl⟩) (he_preS (wc := []) hK hP hD hS hA hE [] rfl rfl) rfl rfl hl.1 rfl (lv_room (Nat.le_of_ble_eq_true rfl)) dX10_stands_5 ⟨(Nat.le_of_ble_eq_true rfl), (Nat.le_of_ble_eq_true rfl)⟩) hP hD hS hA [] [0, 1] rfl rfl rfl (by decide) (fun r_1 u_2 H locs h_3 hP hD hS => ?_)
  subst h_3
  have hP : va_P g.1 vwCl [(oX10 x0 y0 ta z0 p0 dr pa to_ s0 im ki tr v0 rf), (aI g rf 3 rc)] H := hP
  have hD : va_D A [(oX10 x0 y0 ta z0 p0 dr pa to_ s0 im ki tr v0 rf), (aI g rf 3 rc)] := hD
  refine lv_if_eq (tgt := 25) hx hb dX10_stands_8 (by decide) (fun c_4 => ?_) (fun c_4 => ?_)
  · refine lv_iconst (v := 0) hx hb dX10_stands_25 (by decide) ?_
    refine he_xv (En := "java/lang/IllegalArgumentException") (wx := [(oX10 x0 y0 ta z0 p0 dr pa to_ s0 im ki tr v0 rf), (aI g rf 3 (upd rc 2 (rc 2 + 1)))]) (wc := [(oX10 x0 y0 ta z0 p0 dr pa to_ s0 im ki tr v0 rf), (aI g rf 3 rc)]) (wr := []) (vx_runV (As := [.int 0]) (rest := []) ⟨hx, hb, hml, hown, hts⟩ (g_X10_demand0 l g x0 y0 z0 p0 dr pa s0 im tr v0 rf ta to_ ki rc hlt H.size) (cwV 1 hts gX10_stands_X10_demand rfl rfl rfl (by decide +kernel) ⟨Nat.le_of_ble_eq_true rfl, Nat.le_of_ble_eq_true rfl⟩) (he_preV (wc := [(oX10 x0 y0 ta z0 p0 dr pa to_ s0 im ki tr v0 rf), (aI g rf 3 rc)]) hK hP hD hS hA hE [0, 1] rfl rfl 0 rfl rfl) rfl rfl hl.1 rfl (lv_room (Nat.le_of_ble_eq_true rfl)) dX10_stands_26 ⟨(Nat.le_of_ble_eq_true rfl), (Nat.le_of_ble_eq_true rfl)⟩) hP hD hS hA [0, 1] [] rfl rfl rfl (by decide) (fun ce q9 H locs hP hD hS hce hcv hcl => ?_)
    have hP : va_P g.1 vwCl [(oX10 x0 y0 ta z0 p0 dr pa to_ s0 im ki tr v0 rf), (aI g rf 3 (upd rc 2 (rc 2 + 1)))] H := hP
    have hD : va_D A [(oX10 x0 y0 ta z0 p0 dr pa to_ s0 im ki tr v0 rf), (aI g rf 3 (upd rc 2 (rc 2 + 1)))] := hD
    exact he_out hQ hlk hne hP hD hS hce hcv hcl (Nat.le_of_ble_eq_true rfl) (Nat.le_of_ble_eq_true rfl)
  · refine lv_iload_n hx hb dX10_stands_11 rfl (lv_at hl 2 rfl) ?_
    refine lv_iconst (v := 0) hx hb dX10_stands_12 (by decide) ?_
    refine lv_bipush (v := 6) hx hb dX10_stands_13 (by decide) ?_
    refine he_ci (wc := []) (wr := [(oX10 x0 y0 ta z0 p0 dr pa to_ s0 im ki tr v0 rf), (aI g rf 3 rc)]) (va_runS (As := [.int y, .int 0, .int 6]) (rest := [.ref x0]) ⟨hx, hb, hml, hown, hts⟩ (c_X10_within l g y 0 6 H.size) (va_cwS 3 hts gX10_stands_X10_within rfl rfl rfl (by decide +kernel) ⟨Nat.le_of_ble_eq_true rfl, Nat.le_of_ble_eq_true rfl⟩) (he_preS (wc := []) hK hP hD hS hA hE [] rfl rfl) rfl rfl hl.1 rfl (lv_room (Nat.le_of_ble_eq_true rfl)) dX10_stands_15 ⟨(Nat.le_of_ble_eq_true rfl), (Nat.le_of_ble_eq_true rfl)⟩) hP hD hS hA [] [0, 1] rfl rfl rfl (by decide) (fun r_5 u_6 H locs h_7 hP hD hS => ?_)
    subst h_7
    have hP : va_P g.1 vwCl [(oX10 x0 y0 ta z0 p0 dr pa to_ s0 im ki tr v0 rf), (aI g rf 3 rc)] H := hP
    have hD : va_D A [(oX10 x0 y0 ta z0 p0 dr pa to_ s0 im ki tr v0 rf), (aI g rf 3 rc)] := hD
    refine lv_if_eq (tgt := 25) hx hb dX10_stands_18 (by decide) (fun c_8 => ?_) (fun c_8 => ?_)
    · refine lv_iconst (v := 0) hx hb dX10_stands_25 (by decide) ?_
      refine he_xv (En := "java/lang/IllegalArgumentException") (wx := [(oX10 x0 y0 ta z0 p0 dr pa to_ s0 im ki tr v0 rf), (aI g rf 3 (upd rc 2 (rc 2 + 1)))]) (wc := [(oX10 x0 y0 ta z0 p0 dr pa to_ s0 im ki tr v0 rf), (aI g rf 3 rc)]) (wr := []) (vx_runV (As := [.int 0]) (rest := []) ⟨hx, hb, hml, hown, hts⟩ (g_X10_demand0 l g x0 y0 z0 p0 dr pa s0 im tr v0 rf ta to_ ki rc hlt H.size) (cwV 1 hts gX10_stands_X10_demand rfl rfl rfl (by decide +kernel) ⟨Nat.le_of_ble_eq_true rfl, Nat.le_of_ble_eq_true rfl⟩) (he_preV (wc := [(oX10 x0 y0 ta z0 p0 dr pa to_ s0 im ki tr v0 rf), (aI g rf 3 rc)]) hK hP hD hS hA hE [0, 1] rfl rfl 0 rfl rfl) rfl rfl hl.1 rfl (lv_room (Nat.le_of_ble_eq_true rfl)) dX10_stands_26 ⟨(Nat.le_of_ble_eq_true rfl), (Nat.le_of_ble_eq_true rfl)⟩) hP hD hS hA [0, 1] [] rfl rfl rfl (by decide) (fun ce q9 H locs hP hD hS hce hcv hcl => ?_)
      have hP : va_P g.1 vwCl [(oX10 x0 y0 ta z0 p0 dr pa to_ s0 im ki tr v0 rf), (aI g rf 3 (upd rc 2 (rc 2 + 1)))] H := hP
      have hD : va_D A [(oX10 x0 y0 ta z0 p0 dr pa to_ s0 im ki tr v0 rf), (aI g rf 3 (upd rc 2 (rc 2 + 1)))] := hD
      exact he_out hQ hlk hne hP hD hS hce hcv hcl (Nat.le_of_ble_eq_true rfl) (Nat.le_of_ble_eq_true rfl)
    · refine lv_iconst (v := 1) hx hb dX10_stands_21 (by decide) ?_
      refine lv_goto (tgt := 26) hx hb dX10_stands_22 (by decide) ?_
      exact absurd hbad (by rintro (h9 | h9) <;> contradiction)
set_option maxHeartbeats 4000000 in
set_option maxRecDepth 100000 in
theorem g_X10_showX (l : Launch) (g : he_G) (x0 : Nat) (y0 : Nat) (z0 : Nat) (p0 : Nat) (dr : Nat) (pa : Nat) (s0 : Nat) (im : Nat) (tr : Nat) (v0 : Nat) (rf : Nat) (ta : Int32) (to_ : Int32) (ki : Int32) (rc : Nat → Int32) (x : Int32) (y : Int32) (hlt : l.stackTraces = false) (hbad : he_within x 0 6 = 0 ∨ he_within y 0 6 = 0) : he_T he_QTi l yX10_show wsX10_show 7 103 1 6 g [.ref x0, .int x, .int y] [(oX10 x0 y0 ta z0 p0 dr pa to_ s0 im ki tr v0 rf), (aI g rf 3 rc)] "java/lang/IllegalArgumentException" [(oX10 x0 y0 ta z0 p0 dr pa to_ s0 im ki tr v0 rf), (aI g rf 3 (upd rc 2 (rc 2 + 1)))] := by
  refine he_beginX (l := l) (g := g) (y := yX10_show) (wl := wsX10_show) (fr := 7) (lo := 103) (mc := 1) (ms := 6) (av := [.ref x0, .int x, .int y]) (ws := [(oX10 x0 y0 ta z0 p0 dr pa to_ s0 im ki tr v0 rf), (aI g rf 3 rc)]) (cc := cX10_show) (maxL := 7) (ret := (some .int)) he_QTi (by decide) rfl (Nat.le_of_ble_eq_true rfl) ?_
  intro p e s m args below meth c A ls H locs Q hQ hne hB
  obtain ⟨hx, hb, hr, hml, hown, hts, hlk, hin, hP, hK, hD, hS, hA, hE, hl⟩ := hB
  have hl : lv_has ls 7 [(0, .ref x0), (1, .int x), (2, .int y)] := hl
  refine lv_aload_n hx hb dX10_show_0 rfl (lv_at hl 0 rfl) ?_
  refine lv_iload_n hx hb dX10_show_1 rfl (lv_at hl 1 rfl) ?_
  refine lv_iconst (v := 0) hx hb dX10_show_2 (by decide) ?_
  refine lv_bipush (v := 6) hx hb dX10_show_3 (by decide) ?_
  refine he_ci (wc := []) (wr := [(oX10 x0 y0 ta z0 p0 dr pa to_ s0 im ki tr v0 rf), (aI g rf 3 rc)]) (va_runS (As := [.int x, .int 0, .int 6]) (rest := [.ref x0]) ⟨hx, hb, hml, hown, hts⟩ (c_X10_within l g x 0 6 H.size) (va_cwS 3 hts gX10_show_X10_within rfl rfl rfl (by decide +kernel) ⟨Nat.le_of_ble_eq_true rfl, Nat.le_of_ble_eq_true rfl⟩) (he_preS (wc := []) hK hP hD hS hA hE [] rfl rfl) rfl rfl hl.1 rfl (lv_room (Nat.le_of_ble_eq_true rfl)) dX10_show_5 ⟨(Nat.le_of_ble_eq_true rfl), (Nat.le_of_ble_eq_true rfl)⟩) hP hD hS hA [] [0, 1] rfl rfl rfl (by decide) (fun r_1 u_2 H locs h_3 hP hD hS => ?_)
  subst h_3
  have hP : va_P g.1 vwCl [(oX10 x0 y0 ta z0 p0 dr pa to_ s0 im ki tr v0 rf), (aI g rf 3 rc)] H := hP
  have hD : va_D A [(oX10 x0 y0 ta z0 p0 dr pa to_ s0 im ki tr v0 rf), (aI g rf 3 rc)] := hD
  refine lv_if_eq (tgt := 25) hx hb dX10_show_8 (by decide) (fun c_4 => ?_) (fun c_4 => ?_)
  · refine lv_iconst (v := 0) hx hb dX10_show_25 (by decide) ?_
    refine he_xv (En := "java/lang/IllegalArgumentException") (wx := [(oX10 x0 y0 ta z0 p0 dr pa to_ s0 im ki tr v0 rf), (aI g rf 3 (upd rc 2 (rc 2 + 1)))]) (wc := [(oX10 x0 y0 ta z0 p0 dr pa to_ s0 im ki tr v0 rf), (aI g rf 3 rc)]) (wr := []) (vx_runV (As := [.int 0]) (rest := []) ⟨hx, hb, hml, hown, hts⟩ (g_X10_demand0 l g x0 y0 z0 p0 dr pa s0 im tr v0 rf ta to_ ki rc hlt H.size) (cwV 1 hts gX10_show_X10_demand rfl rfl rfl (by decide +kernel) ⟨Nat.le_of_ble_eq_true rfl, Nat.le_of_ble_eq_true rfl⟩) (he_preV (wc := [(oX10 x0 y0 ta z0 p0 dr pa to_ s0 im ki tr v0 rf), (aI g rf 3 rc)]) hK hP hD hS hA hE [0, 1] rfl rfl 0 rfl rfl) rfl rfl hl.1 rfl (lv_room (Nat.le_of_ble_eq_true rfl)) dX10_show_26 ⟨(Nat.le_of_ble_eq_true rfl), (Nat.le_of_ble_eq_true rfl)⟩) hP hD hS hA [0, 1] [] rfl rfl rfl (by decide) (fun ce q9 H locs hP hD hS hce hcv hcl => ?_)
    have hP : va_P g.1 vwCl [(oX10 x0 y0 ta z0 p0 dr pa to_ s0 im ki tr v0 rf), (aI g rf 3 (upd rc 2 (rc 2 + 1)))] H := hP
    have hD : va_D A [(oX10 x0 y0 ta z0 p0 dr pa to_ s0 im ki tr v0 rf), (aI g rf 3 (upd rc 2 (rc 2 + 1)))] := hD
    exact he_out hQ hlk hne hP hD hS hce hcv hcl (Nat.le_of_ble_eq_true rfl) (Nat.le_of_ble_eq_true rfl)
  · refine lv_iload_n hx hb dX10_show_11 rfl (lv_at hl 2 rfl) ?_
    refine lv_iconst (v := 0) hx hb dX10_show_12 (by decide) ?_
    refine lv_bipush (v := 6) hx hb dX10_show_13 (by decide) ?_
    refine he_ci (wc := []) (wr := [(oX10 x0 y0 ta z0 p0 dr pa to_ s0 im ki tr v0 rf), (aI g rf 3 rc)]) (va_runS (As := [.int y, .int 0, .int 6]) (rest := [.ref x0]) ⟨hx, hb, hml, hown, hts⟩ (c_X10_within l g y 0 6 H.size) (va_cwS 3 hts gX10_show_X10_within rfl rfl rfl (by decide +kernel) ⟨Nat.le_of_ble_eq_true rfl, Nat.le_of_ble_eq_true rfl⟩) (he_preS (wc := []) hK hP hD hS hA hE [] rfl rfl) rfl rfl hl.1 rfl (lv_room (Nat.le_of_ble_eq_true rfl)) dX10_show_15 ⟨(Nat.le_of_ble_eq_true rfl), (Nat.le_of_ble_eq_true rfl)⟩) hP hD hS hA [] [0, 1] rfl rfl rfl (by decide) (fun r_5 u_6 H locs h_7 hP hD hS => ?_)
    subst h_7
    have hP : va_P g.1 vwCl [(oX10 x0 y0 ta z0 p0 dr pa to_ s0 im ki tr v0 rf), (aI g rf 3 rc)] H := hP
    have hD : va_D A [(oX10 x0 y0 ta z0 p0 dr pa to_ s0 im ki tr v0 rf), (aI g rf 3 rc)] := hD
    refine lv_if_eq (tgt := 25) hx hb dX10_show_18 (by decide) (fun c_8 => ?_) (fun c_8 => ?_)
    · refine lv_iconst (v := 0) hx hb dX10_show_25 (by decide) ?_
      refine he_xv (En := "java/lang/IllegalArgumentException") (wx := [(oX10 x0 y0 ta z0 p0 dr pa to_ s0 im ki tr v0 rf), (aI g rf 3 (upd rc 2 (rc 2 + 1)))]) (wc := [(oX10 x0 y0 ta z0 p0 dr pa to_ s0 im ki tr v0 rf), (aI g rf 3 rc)]) (wr := []) (vx_runV (As := [.int 0]) (rest := []) ⟨hx, hb, hml, hown, hts⟩ (g_X10_demand0 l g x0 y0 z0 p0 dr pa s0 im tr v0 rf ta to_ ki rc hlt H.size) (cwV 1 hts gX10_show_X10_demand rfl rfl rfl (by decide +kernel) ⟨Nat.le_of_ble_eq_true rfl, Nat.le_of_ble_eq_true rfl⟩) (he_preV (wc := [(oX10 x0 y0 ta z0 p0 dr pa to_ s0 im ki tr v0 rf), (aI g rf 3 rc)]) hK hP hD hS hA hE [0, 1] rfl rfl 0 rfl rfl) rfl rfl hl.1 rfl (lv_room (Nat.le_of_ble_eq_true rfl)) dX10_show_26 ⟨(Nat.le_of_ble_eq_true rfl), (Nat.le_of_ble_eq_true rfl)⟩) hP hD hS hA [0, 1] [] rfl rfl rfl (by decide) (fun ce q9 H locs hP hD hS hce hcv hcl => ?_)
      have hP : va_P g.1 vwCl [(oX10 x0 y0 ta z0 p0 dr pa to_ s0 im ki tr v0 rf), (aI g rf 3 (upd rc 2 (rc 2 + 1)))] H := hP
      have hD : va_D A [(oX10 x0 y0 ta z0 p0 dr pa to_ s0 im ki tr v0 rf), (aI g rf 3 (upd rc 2 (rc 2 + 1)))] := hD
      exact he_out hQ hlk hne hP hD hS hce hcv hcl (Nat.le_of_ble_eq_true rfl) (Nat.le_of_ble_eq_true rfl)
    · refine lv_iconst (v := 1) hx hb dX10_show_21 (by decide) ?_
      refine lv_goto (tgt := 26) hx hb dX10_show_22 (by decide) ?_
      exact absurd hbad (by rintro (h9 | h9) <;> contradiction)
set_option maxHeartbeats 4000000 in
set_option maxRecDepth 100000 in
theorem g_X10_offersX (l : Launch) (g : he_G) (x0 : Nat) (y0 : Nat) (z0 : Nat) (p0 : Nat) (dr : Nat) (pa : Nat) (s0 : Nat) (im : Nat) (tr : Nat) (v0 : Nat) (rf : Nat) (ta : Int32) (to_ : Int32) (ki : Int32) (rc : Nat → Int32) (x : Int32) (y : Int32) (z : Int32) (hlt : l.stackTraces = false) (hbad : he_within x 1 2 = 0 ∨ he_within y 0 11 = 0 ∨ he_within z 0 999 = 0) : he_T he_QTi l yX10_offers wsX10_offers 7 103 1 6 g [.ref x0, .int x, .int y, .int z] [(oX10 x0 y0 ta z0 p0 dr pa to_ s0 im ki tr v0 rf), (aI g rf 3 rc)] "java/lang/IllegalArgumentException" [(oX10 x0 y0 ta z0 p0 dr pa to_ s0 im ki tr v0 rf), (aI g rf 3 (upd rc 2 (rc 2 + 1)))] := by
  refine he_beginX (l := l) (g := g) (y := yX10_offers) (wl := wsX10_offers) (fr := 7) (lo := 103) (mc := 1) (ms := 6) (av := [.ref x0, .int x, .int y, .int z]) (ws := [(oX10 x0 y0 ta z0 p0 dr pa to_ s0 im ki tr v0 rf), (aI g rf 3 rc)]) (cc := cX10_offers) (maxL := 4) (ret := (some .int)) he_QTi (by decide) rfl (Nat.le_of_ble_eq_true rfl) ?_
  intro p e s m args below meth c A ls H locs Q hQ hne hB
  obtain ⟨hx, hb, hr, hml, hown, hts, hlk, hin, hP, hK, hD, hS, hA, hE, hl⟩ := hB
  have hl : lv_has ls 4 [(0, .ref x0), (1, .int x), (2, .int y), (3, .int z)] := hl
  refine lv_aload_n hx hb dX10_offers_0 rfl (lv_at hl 0 rfl) ?_
  refine lv_iload_n hx hb dX10_offers_1 rfl (lv_at hl 1 rfl) ?_
  refine lv_iconst (v := 1) hx hb dX10_offers_2 (by decide) ?_
  refine lv_iconst (v := 2) hx hb dX10_offers_3 (by decide) ?_
  refine he_ci (wc := []) (wr := [(oX10 x0 y0 ta z0 p0 dr pa to_ s0 im ki tr v0 rf), (aI g rf 3 rc)]) (va_runS (As := [.int x, .int 1, .int 2]) (rest := [.ref x0]) ⟨hx, hb, hml, hown, hts⟩ (c_X10_within l g x 1 2 H.size) (va_cwS 3 hts gX10_offers_X10_within rfl rfl rfl (by decide +kernel) ⟨Nat.le_of_ble_eq_true rfl, Nat.le_of_ble_eq_true rfl⟩) (he_preS (wc := []) hK hP hD hS hA hE [] rfl rfl) rfl rfl hl.1 rfl (lv_room (Nat.le_of_ble_eq_true rfl)) dX10_offers_4 ⟨(Nat.le_of_ble_eq_true rfl), (Nat.le_of_ble_eq_true rfl)⟩) hP hD hS hA [] [0, 1] rfl rfl rfl (by decide) (fun r_1 u_2 H locs h_3 hP hD hS => ?_)
  subst h_3
  have hP : va_P g.1 vwCl [(oX10 x0 y0 ta z0 p0 dr pa to_ s0 im ki tr v0 rf), (aI g rf 3 rc)] H := hP
  have hD : va_D A [(oX10 x0 y0 ta z0 p0 dr pa to_ s0 im ki tr v0 rf), (aI g rf 3 rc)] := hD
  refine lv_if_eq (tgt := 35) hx hb dX10_offers_7 (by decide) (fun c_4 => ?_) (fun c_4 => ?_)
  · refine lv_iconst (v := 0) hx hb dX10_offers_35 (by decide) ?_
    refine he_xv (En := "java/lang/IllegalArgumentException") (wx := [(oX10 x0 y0 ta z0 p0 dr pa to_ s0 im ki tr v0 rf), (aI g rf 3 (upd rc 2 (rc 2 + 1)))]) (wc := [(oX10 x0 y0 ta z0 p0 dr pa to_ s0 im ki tr v0 rf), (aI g rf 3 rc)]) (wr := []) (vx_runV (As := [.int 0]) (rest := []) ⟨hx, hb, hml, hown, hts⟩ (g_X10_demand0 l g x0 y0 z0 p0 dr pa s0 im tr v0 rf ta to_ ki rc hlt H.size) (cwV 1 hts gX10_offers_X10_demand rfl rfl rfl (by decide +kernel) ⟨Nat.le_of_ble_eq_true rfl, Nat.le_of_ble_eq_true rfl⟩) (he_preV (wc := [(oX10 x0 y0 ta z0 p0 dr pa to_ s0 im ki tr v0 rf), (aI g rf 3 rc)]) hK hP hD hS hA hE [0, 1] rfl rfl 0 rfl rfl) rfl rfl hl.1 rfl (lv_room (Nat.le_of_ble_eq_true rfl)) dX10_offers_36 ⟨(Nat.le_of_ble_eq_true rfl), (Nat.le_of_ble_eq_true rfl)⟩) hP hD hS hA [0, 1] [] rfl rfl rfl (by decide) (fun ce q9 H locs hP hD hS hce hcv hcl => ?_)
    have hP : va_P g.1 vwCl [(oX10 x0 y0 ta z0 p0 dr pa to_ s0 im ki tr v0 rf), (aI g rf 3 (upd rc 2 (rc 2 + 1)))] H := hP
    have hD : va_D A [(oX10 x0 y0 ta z0 p0 dr pa to_ s0 im ki tr v0 rf), (aI g rf 3 (upd rc 2 (rc 2 + 1)))] := hD
    exact he_out hQ hlk hne hP hD hS hce hcv hcl (Nat.le_of_ble_eq_true rfl) (Nat.le_of_ble_eq_true rfl)
  · refine lv_iload_n hx hb dX10_offers_10 rfl (lv_at hl 2 rfl) ?_
    refine lv_iconst (v := 0) hx hb dX10_offers_11 (by decide) ?_
    refine lv_bipush (v := 11) hx hb dX10_offers_12 (by decide) ?_
    refine he_ci (wc := []) (wr := [(oX10 x0 y0 ta z0 p0 dr pa to_ s0 im ki tr v0 rf), (aI g rf 3 rc)]) (va_runS (As := [.int y, .int 0, .int 11]) (rest := [.ref x0]) ⟨hx, hb, hml, hown, hts⟩ (c_X10_within l g y 0 11 H.size) (va_cwS 3 hts gX10_offers_X10_within rfl rfl rfl (by decide +kernel) ⟨Nat.le_of_ble_eq_true rfl, Nat.le_of_ble_eq_true rfl⟩) (he_preS (wc := []) hK hP hD hS hA hE [] rfl rfl) rfl rfl hl.1 rfl (lv_room (Nat.le_of_ble_eq_true rfl)) dX10_offers_14 ⟨(Nat.le_of_ble_eq_true rfl), (Nat.le_of_ble_eq_true rfl)⟩) hP hD hS hA [] [0, 1] rfl rfl rfl (by decide) (fun r_5 u_6 H locs h_7 hP hD hS => ?_)
    subst h_7
    have hP : va_P g.1 vwCl [(oX10 x0 y0 ta z0 p0 dr pa to_ s0 im ki tr v0 rf), (aI g rf 3 rc)] H := hP
    have hD : va_D A [(oX10 x0 y0 ta z0 p0 dr pa to_ s0 im ki tr v0 rf), (aI g rf 3 rc)] := hD
    refine lv_if_eq (tgt := 35) hx hb dX10_offers_17 (by decide) (fun c_8 => ?_) (fun c_8 => ?_)
    · refine lv_iconst (v := 0) hx hb dX10_offers_35 (by decide) ?_
      refine he_xv (En := "java/lang/IllegalArgumentException") (wx := [(oX10 x0 y0 ta z0 p0 dr pa to_ s0 im ki tr v0 rf), (aI g rf 3 (upd rc 2 (rc 2 + 1)))]) (wc := [(oX10 x0 y0 ta z0 p0 dr pa to_ s0 im ki tr v0 rf), (aI g rf 3 rc)]) (wr := []) (vx_runV (As := [.int 0]) (rest := []) ⟨hx, hb, hml, hown, hts⟩ (g_X10_demand0 l g x0 y0 z0 p0 dr pa s0 im tr v0 rf ta to_ ki rc hlt H.size) (cwV 1 hts gX10_offers_X10_demand rfl rfl rfl (by decide +kernel) ⟨Nat.le_of_ble_eq_true rfl, Nat.le_of_ble_eq_true rfl⟩) (he_preV (wc := [(oX10 x0 y0 ta z0 p0 dr pa to_ s0 im ki tr v0 rf), (aI g rf 3 rc)]) hK hP hD hS hA hE [0, 1] rfl rfl 0 rfl rfl) rfl rfl hl.1 rfl (lv_room (Nat.le_of_ble_eq_true rfl)) dX10_offers_36 ⟨(Nat.le_of_ble_eq_true rfl), (Nat.le_of_ble_eq_true rfl)⟩) hP hD hS hA [0, 1] [] rfl rfl rfl (by decide) (fun ce q9 H locs hP hD hS hce hcv hcl => ?_)
      have hP : va_P g.1 vwCl [(oX10 x0 y0 ta z0 p0 dr pa to_ s0 im ki tr v0 rf), (aI g rf 3 (upd rc 2 (rc 2 + 1)))] H := hP
      have hD : va_D A [(oX10 x0 y0 ta z0 p0 dr pa to_ s0 im ki tr v0 rf), (aI g rf 3 (upd rc 2 (rc 2 + 1)))] := hD
      exact he_out hQ hlk hne hP hD hS hce hcv hcl (Nat.le_of_ble_eq_true rfl) (Nat.le_of_ble_eq_true rfl)
    · refine lv_iload_n hx hb dX10_offers_20 rfl (lv_at hl 3 rfl) ?_
      refine lv_iconst (v := 0) hx hb dX10_offers_21 (by decide) ?_
      refine lv_sipush (v := 999) hx hb dX10_offers_22 (by decide) ?_
      refine he_ci (wc := []) (wr := [(oX10 x0 y0 ta z0 p0 dr pa to_ s0 im ki tr v0 rf), (aI g rf 3 rc)]) (va_runS (As := [.int z, .int 0, .int 999]) (rest := [.ref x0]) ⟨hx, hb, hml, hown, hts⟩ (c_X10_within l g z 0 999 H.size) (va_cwS 3 hts gX10_offers_X10_within rfl rfl rfl (by decide +kernel) ⟨Nat.le_of_ble_eq_true rfl, Nat.le_of_ble_eq_true rfl⟩) (he_preS (wc := []) hK hP hD hS hA hE [] rfl rfl) rfl rfl hl.1 rfl (lv_room (Nat.le_of_ble_eq_true rfl)) dX10_offers_25 ⟨(Nat.le_of_ble_eq_true rfl), (Nat.le_of_ble_eq_true rfl)⟩) hP hD hS hA [] [0, 1] rfl rfl rfl (by decide) (fun r_9 u_10 H locs h_11 hP hD hS => ?_)
      subst h_11
      have hP : va_P g.1 vwCl [(oX10 x0 y0 ta z0 p0 dr pa to_ s0 im ki tr v0 rf), (aI g rf 3 rc)] H := hP
      have hD : va_D A [(oX10 x0 y0 ta z0 p0 dr pa to_ s0 im ki tr v0 rf), (aI g rf 3 rc)] := hD
      refine lv_if_eq (tgt := 35) hx hb dX10_offers_28 (by decide) (fun c_12 => ?_) (fun c_12 => ?_)
      · refine lv_iconst (v := 0) hx hb dX10_offers_35 (by decide) ?_
        refine he_xv (En := "java/lang/IllegalArgumentException") (wx := [(oX10 x0 y0 ta z0 p0 dr pa to_ s0 im ki tr v0 rf), (aI g rf 3 (upd rc 2 (rc 2 + 1)))]) (wc := [(oX10 x0 y0 ta z0 p0 dr pa to_ s0 im ki tr v0 rf), (aI g rf 3 rc)]) (wr := []) (vx_runV (As := [.int 0]) (rest := []) ⟨hx, hb, hml, hown, hts⟩ (g_X10_demand0 l g x0 y0 z0 p0 dr pa s0 im tr v0 rf ta to_ ki rc hlt H.size) (cwV 1 hts gX10_offers_X10_demand rfl rfl rfl (by decide +kernel) ⟨Nat.le_of_ble_eq_true rfl, Nat.le_of_ble_eq_true rfl⟩) (he_preV (wc := [(oX10 x0 y0 ta z0 p0 dr pa to_ s0 im ki tr v0 rf), (aI g rf 3 rc)]) hK hP hD hS hA hE [0, 1] rfl rfl 0 rfl rfl) rfl rfl hl.1 rfl (lv_room (Nat.le_of_ble_eq_true rfl)) dX10_offers_36 ⟨(Nat.le_of_ble_eq_true rfl), (Nat.le_of_ble_eq_true rfl)⟩) hP hD hS hA [0, 1] [] rfl rfl rfl (by decide) (fun ce q9 H locs hP hD hS hce hcv hcl => ?_)
        have hP : va_P g.1 vwCl [(oX10 x0 y0 ta z0 p0 dr pa to_ s0 im ki tr v0 rf), (aI g rf 3 (upd rc 2 (rc 2 + 1)))] H := hP
        have hD : va_D A [(oX10 x0 y0 ta z0 p0 dr pa to_ s0 im ki tr v0 rf), (aI g rf 3 (upd rc 2 (rc 2 + 1)))] := hD
        exact he_out hQ hlk hne hP hD hS hce hcv hcl (Nat.le_of_ble_eq_true rfl) (Nat.le_of_ble_eq_true rfl)
      · refine lv_iconst (v := 1) hx hb dX10_offers_31 (by decide) ?_
        refine lv_goto (tgt := 36) hx hb dX10_offers_32 (by decide) ?_
        exact absurd hbad (by rintro (h9 | h9 | h9) <;> contradiction)
set_option maxHeartbeats 4000000 in
set_option maxRecDepth 100000 in
theorem g_X10_servesX (l : Launch) (g : he_G) (x0 : Nat) (y0 : Nat) (z0 : Nat) (p0 : Nat) (dr : Nat) (pa : Nat) (s0 : Nat) (im : Nat) (tr : Nat) (v0 : Nat) (rf : Nat) (ta : Int32) (to_ : Int32) (ki : Int32) (rc : Nat → Int32) (x : Int32) (hlt : l.stackTraces = false) (hbad : he_within x 0 11 = 0) : he_T he_QTi l yX10_serves wsX10_serves 7 103 1 6 g [.ref x0, .int x] [(oX10 x0 y0 ta z0 p0 dr pa to_ s0 im ki tr v0 rf), (aI g rf 3 rc)] "java/lang/IllegalArgumentException" [(oX10 x0 y0 ta z0 p0 dr pa to_ s0 im ki tr v0 rf), (aI g rf 3 (upd rc 2 (rc 2 + 1)))] := by
  refine he_beginX (l := l) (g := g) (y := yX10_serves) (wl := wsX10_serves) (fr := 7) (lo := 103) (mc := 1) (ms := 6) (av := [.ref x0, .int x]) (ws := [(oX10 x0 y0 ta z0 p0 dr pa to_ s0 im ki tr v0 rf), (aI g rf 3 rc)]) (cc := cX10_serves) (maxL := 2) (ret := (some .int)) he_QTi (by decide) rfl (Nat.le_of_ble_eq_true rfl) ?_
  intro p e s m args below meth c A ls H locs Q hQ hne hB
  obtain ⟨hx, hb, hr, hml, hown, hts, hlk, hin, hP, hK, hD, hS, hA, hE, hl⟩ := hB
  have hl : lv_has ls 2 [(0, .ref x0), (1, .int x)] := hl
  refine lv_aload_n hx hb dX10_serves_0 rfl (lv_at hl 0 rfl) ?_
  refine lv_iload_n hx hb dX10_serves_1 rfl (lv_at hl 1 rfl) ?_
  refine lv_iconst (v := 0) hx hb dX10_serves_2 (by decide) ?_
  refine lv_bipush (v := 11) hx hb dX10_serves_3 (by decide) ?_
  refine he_ci (wc := []) (wr := [(oX10 x0 y0 ta z0 p0 dr pa to_ s0 im ki tr v0 rf), (aI g rf 3 rc)]) (va_runS (As := [.int x, .int 0, .int 11]) (rest := [.ref x0]) ⟨hx, hb, hml, hown, hts⟩ (c_X10_within l g x 0 11 H.size) (va_cwS 3 hts gX10_serves_X10_within rfl rfl rfl (by decide +kernel) ⟨Nat.le_of_ble_eq_true rfl, Nat.le_of_ble_eq_true rfl⟩) (he_preS (wc := []) hK hP hD hS hA hE [] rfl rfl) rfl rfl hl.1 rfl (lv_room (Nat.le_of_ble_eq_true rfl)) dX10_serves_5 ⟨(Nat.le_of_ble_eq_true rfl), (Nat.le_of_ble_eq_true rfl)⟩) hP hD hS hA [] [0, 1] rfl rfl rfl (by decide) (fun r_1 u_2 H locs h_3 hP hD hS => ?_)
  subst h_3
  have hP : va_P g.1 vwCl [(oX10 x0 y0 ta z0 p0 dr pa to_ s0 im ki tr v0 rf), (aI g rf 3 rc)] H := hP
  have hD : va_D A [(oX10 x0 y0 ta z0 p0 dr pa to_ s0 im ki tr v0 rf), (aI g rf 3 rc)] := hD
  refine he_top (0) hbad ?_
  refine he_xv (En := "java/lang/IllegalArgumentException") (wx := [(oX10 x0 y0 ta z0 p0 dr pa to_ s0 im ki tr v0 rf), (aI g rf 3 (upd rc 2 (rc 2 + 1)))]) (wc := [(oX10 x0 y0 ta z0 p0 dr pa to_ s0 im ki tr v0 rf), (aI g rf 3 rc)]) (wr := []) (vx_runV (As := [.int 0]) (rest := []) ⟨hx, hb, hml, hown, hts⟩ (g_X10_demand0 l g x0 y0 z0 p0 dr pa s0 im tr v0 rf ta to_ ki rc hlt H.size) (cwV 1 hts gX10_serves_X10_demand rfl rfl rfl (by decide +kernel) ⟨Nat.le_of_ble_eq_true rfl, Nat.le_of_ble_eq_true rfl⟩) (he_preV (wc := [(oX10 x0 y0 ta z0 p0 dr pa to_ s0 im ki tr v0 rf), (aI g rf 3 rc)]) hK hP hD hS hA hE [0, 1] rfl rfl 0 rfl rfl) rfl rfl hl.1 rfl (lv_room (Nat.le_of_ble_eq_true rfl)) dX10_serves_8 ⟨(Nat.le_of_ble_eq_true rfl), (Nat.le_of_ble_eq_true rfl)⟩) hP hD hS hA [0, 1] [] rfl rfl rfl (by decide) (fun ce q9 H locs hP hD hS hce hcv hcl => ?_)
  have hP : va_P g.1 vwCl [(oX10 x0 y0 ta z0 p0 dr pa to_ s0 im ki tr v0 rf), (aI g rf 3 (upd rc 2 (rc 2 + 1)))] H := hP
  have hD : va_D A [(oX10 x0 y0 ta z0 p0 dr pa to_ s0 im ki tr v0 rf), (aI g rf 3 (upd rc 2 (rc 2 + 1)))] := hD
  exact he_out hQ hlk hne hP hD hS hce hcv hcl (Nat.le_of_ble_eq_true rfl) (Nat.le_of_ble_eq_true rfl)
set_option maxHeartbeats 4000000 in
set_option maxRecDepth 100000 in
theorem g_X10_signX (l : Launch) (g : he_G) (x0 : Nat) (y0 : Nat) (z0 : Nat) (p0 : Nat) (dr : Nat) (pa : Nat) (s0 : Nat) (im : Nat) (tr : Nat) (v0 : Nat) (rf : Nat) (ta : Int32) (to_ : Int32) (ki : Int32) (rc : Nat → Int32) (x : Int32) (hlt : l.stackTraces = false) (hno : he_within x 0 (to_ - 1) = 0) (hx1 : ¬ x = -1) : he_T he_QTi l yX10_sign wsX10_sign 8 124 1 6 g [.ref x0, .int x] [(oX10 x0 y0 ta z0 p0 dr pa to_ s0 im ki tr v0 rf), (aI g rf 3 rc)] "java/util/NoSuchElementException" [(oX10 x0 y0 ta z0 p0 dr pa to_ s0 im ki tr v0 rf), (aI g rf 3 (upd rc 0 (rc 0 + 1)))] := by
  refine he_beginX (l := l) (g := g) (y := yX10_sign) (wl := wsX10_sign) (fr := 8) (lo := 124) (mc := 1) (ms := 6) (av := [.ref x0, .int x]) (ws := [(oX10 x0 y0 ta z0 p0 dr pa to_ s0 im ki tr v0 rf), (aI g rf 3 rc)]) (cc := cX10_sign) (maxL := 3) (ret := (some .int)) he_QTi (by decide) rfl (Nat.le_of_ble_eq_true rfl) ?_
  intro p e s m args below meth c A ls H locs Q hQ hne hB
  obtain ⟨hx, hb, hr, hml, hown, hts, hlk, hin, hP, hK, hD, hS, hA, hE, hl⟩ := hB
  have hl : lv_has ls 3 [(0, .ref x0), (1, .int x)] := hl
  refine lv_aload_n hx hb dX10_sign_0 rfl (lv_at hl 0 rfl) ?_
  refine lv_iload_n hx hb dX10_sign_1 rfl (lv_at hl 1 rfl) ?_
  refine he_xv (En := "java/util/NoSuchElementException") (wx := [(oX10 x0 y0 ta z0 p0 dr pa to_ s0 im ki tr v0 rf), (aI g rf 3 (upd rc 0 (rc 0 + 1)))]) (wc := [(oX10 x0 y0 ta z0 p0 dr pa to_ s0 im ki tr v0 rf), (aI g rf 3 rc)]) (wr := []) (vx_runV (As := [.int x]) (rest := []) ⟨hx, hb, hml, hown, hts⟩ (g_X10_demandCN0 l g x0 y0 z0 p0 dr pa s0 im tr v0 rf ta to_ ki rc x hlt (by first | assumption | decide | omega) (by first | assumption | decide | omega) H.size) (cwV 1 hts gX10_sign_X10_demandContractOrNone rfl rfl rfl (by decide +kernel) ⟨Nat.le_of_ble_eq_true rfl, Nat.le_of_ble_eq_true rfl⟩) (he_preV (wc := [(oX10 x0 y0 ta z0 p0 dr pa to_ s0 im ki tr v0 rf), (aI g rf 3 rc)]) hK hP hD hS hA hE [0, 1] rfl rfl 0 rfl rfl) rfl rfl hl.1 rfl (lv_room (Nat.le_of_ble_eq_true rfl)) dX10_sign_2 ⟨(Nat.le_of_ble_eq_true rfl), (Nat.le_of_ble_eq_true rfl)⟩) hP hD hS hA [0, 1] [] rfl rfl rfl (by decide) (fun ce q9 H locs hP hD hS hce hcv hcl => ?_)
  have hP : va_P g.1 vwCl [(oX10 x0 y0 ta z0 p0 dr pa to_ s0 im ki tr v0 rf), (aI g rf 3 (upd rc 0 (rc 0 + 1)))] H := hP
  have hD : va_D A [(oX10 x0 y0 ta z0 p0 dr pa to_ s0 im ki tr v0 rf), (aI g rf 3 (upd rc 0 (rc 0 + 1)))] := hD
  exact he_out hQ hlk hne hP hD hS hce hcv hcl (Nat.le_of_ble_eq_true rfl) (Nat.le_of_ble_eq_true rfl)
set_option maxHeartbeats 4000000 in
set_option maxRecDepth 100000 in
theorem g_X10_wouldXc (l : Launch) (g : he_G) (x0 : Nat) (y0 : Nat) (z0 : Nat) (p0 : Nat) (dr : Nat) (pa : Nat) (s0 : Nat) (im : Nat) (tr : Nat) (v0 : Nat) (rf : Nat) (ta : Int32) (to_ : Int32) (ki : Int32) (rc : Nat → Int32) (x : Int32) (y : Int32) (z : Int32) (hlt : l.stackTraces = false) (hno : he_within x 0 (to_ - 1) = 0) (hx1 : ¬ x = -1) : he_T he_QTi l yX10_would wsX10_would 8 124 1 6 g [.ref x0, .int x, .int y, .int z] [(oX10 x0 y0 ta z0 p0 dr pa to_ s0 im ki tr v0 rf), (aI g rf 3 rc)] "java/util/NoSuchElementException" [(oX10 x0 y0 ta z0 p0 dr pa to_ s0 im ki tr v0 rf), (aI g rf 3 (upd rc 0 (rc 0 + 1)))] := by
  refine he_beginX (l := l) (g := g) (y := yX10_would) (wl := wsX10_would) (fr := 8) (lo := 124) (mc := 1) (ms := 6) (av := [.ref x0, .int x, .int y, .int z]) (ws := [(oX10 x0 y0 ta z0 p0 dr pa to_ s0 im ki tr v0 rf), (aI g rf 3 rc)]) (cc := cX10_would) (maxL := 4) (ret := (some .int)) he_QTi (by decide) rfl (Nat.le_of_ble_eq_true rfl) ?_
  intro p e s m args below meth c A ls H locs Q hQ hne hB
  obtain ⟨hx, hb, hr, hml, hown, hts, hlk, hin, hP, hK, hD, hS, hA, hE, hl⟩ := hB
  have hl : lv_has ls 4 [(0, .ref x0), (1, .int x), (2, .int y), (3, .int z)] := hl
  refine lv_aload_n hx hb dX10_would_0 rfl (lv_at hl 0 rfl) ?_
  refine lv_iload_n hx hb dX10_would_1 rfl (lv_at hl 1 rfl) ?_
  refine he_xv (En := "java/util/NoSuchElementException") (wx := [(oX10 x0 y0 ta z0 p0 dr pa to_ s0 im ki tr v0 rf), (aI g rf 3 (upd rc 0 (rc 0 + 1)))]) (wc := [(oX10 x0 y0 ta z0 p0 dr pa to_ s0 im ki tr v0 rf), (aI g rf 3 rc)]) (wr := []) (vx_runV (As := [.int x]) (rest := []) ⟨hx, hb, hml, hown, hts⟩ (g_X10_demandCN0 l g x0 y0 z0 p0 dr pa s0 im tr v0 rf ta to_ ki rc x hlt (by first | assumption | decide | omega) (by first | assumption | decide | omega) H.size) (cwV 1 hts gX10_would_X10_demandContractOrNone rfl rfl rfl (by decide +kernel) ⟨Nat.le_of_ble_eq_true rfl, Nat.le_of_ble_eq_true rfl⟩) (he_preV (wc := [(oX10 x0 y0 ta z0 p0 dr pa to_ s0 im ki tr v0 rf), (aI g rf 3 rc)]) hK hP hD hS hA hE [0, 1] rfl rfl 0 rfl rfl) rfl rfl hl.1 rfl (lv_room (Nat.le_of_ble_eq_true rfl)) dX10_would_2 ⟨(Nat.le_of_ble_eq_true rfl), (Nat.le_of_ble_eq_true rfl)⟩) hP hD hS hA [0, 1] [] rfl rfl rfl (by decide) (fun ce q9 H locs hP hD hS hce hcv hcl => ?_)
  have hP : va_P g.1 vwCl [(oX10 x0 y0 ta z0 p0 dr pa to_ s0 im ki tr v0 rf), (aI g rf 3 (upd rc 0 (rc 0 + 1)))] H := hP
  have hD : va_D A [(oX10 x0 y0 ta z0 p0 dr pa to_ s0 im ki tr v0 rf), (aI g rf 3 (upd rc 0 (rc 0 + 1)))] := hD
  exact he_out hQ hlk hne hP hD hS hce hcv hcl (Nat.le_of_ble_eq_true rfl) (Nat.le_of_ble_eq_true rfl)
set_option maxHeartbeats 4000000 in
set_option maxRecDepth 100000 in
theorem g_X10_wouldXn (l : Launch) (g : he_G) (x0 : Nat) (y0 : Nat) (z0 : Nat) (p0 : Nat) (dr : Nat) (pa : Nat) (s0 : Nat) (im : Nat) (tr : Nat) (v0 : Nat) (rf : Nat) (ta : Int32) (to_ : Int32) (ki : Int32) (rc : Nat → Int32) (y : Int32) (z : Int32) (hlt : l.stackTraces = false) (hbad : he_within y 1 60 = 0 ∨ he_within z 0 9 = 0) : he_T he_QTi l yX10_would wsX10_would 7 103 1 6 g [.ref x0, .int (-1), .int y, .int z] [(oX10 x0 y0 ta z0 p0 dr pa to_ s0 im ki tr v0 rf), (aI g rf 3 rc)] "java/lang/IllegalArgumentException" [(oX10 x0 y0 ta z0 p0 dr pa to_ s0 im ki tr v0 rf), (aI g rf 3 (upd rc 2 (rc 2 + 1)))] := by
  refine he_beginX (l := l) (g := g) (y := yX10_would) (wl := wsX10_would) (fr := 7) (lo := 103) (mc := 1) (ms := 6) (av := [.ref x0, .int (-1), .int y, .int z]) (ws := [(oX10 x0 y0 ta z0 p0 dr pa to_ s0 im ki tr v0 rf), (aI g rf 3 rc)]) (cc := cX10_would) (maxL := 4) (ret := (some .int)) he_QTi (by decide) rfl (Nat.le_of_ble_eq_true rfl) ?_
  intro p e s m args below meth c A ls H locs Q hQ hne hB
  obtain ⟨hx, hb, hr, hml, hown, hts, hlk, hin, hP, hK, hD, hS, hA, hE, hl⟩ := hB
  have hl : lv_has ls 4 [(0, .ref x0), (1, .int (-1)), (2, .int y), (3, .int z)] := hl
  refine lv_aload_n hx hb dX10_would_0 rfl (lv_at hl 0 rfl) ?_
  refine lv_iload_n hx hb dX10_would_1 rfl (lv_at hl 1 rfl) ?_
  refine he_cv (wc := []) (wr := [(oX10 x0 y0 ta z0 p0 dr pa to_ s0 im ki tr v0 rf), (aI g rf 3 rc)]) (va_runV (As := [.int (-1)]) (rest := []) ⟨hx, hb, hml, hown, hts⟩ (g_X10_demandCNn l g x0 H.size) (cwV 1 hts gX10_would_X10_demandContractOrNone rfl rfl rfl (by decide +kernel) ⟨Nat.le_of_ble_eq_true rfl, Nat.le_of_ble_eq_true rfl⟩) (he_preV (wc := []) hK hP hD hS hA hE [] rfl rfl 0 rfl rfl) rfl rfl hl.1 rfl (lv_room (Nat.le_of_ble_eq_true rfl)) dX10_would_2 ⟨(Nat.le_of_ble_eq_true rfl), (Nat.le_of_ble_eq_true rfl)⟩) hP hD hS hA [] [0, 1] rfl rfl rfl (by decide) (fun u_2 H locs h_3 hP hD hS => ?_)
  have hP : va_P g.1 vwCl [(oX10 x0 y0 ta z0 p0 dr pa to_ s0 im ki tr v0 rf), (aI g rf 3 rc)] H := hP
  have hD : va_D A [(oX10 x0 y0 ta z0 p0 dr pa to_ s0 im ki tr v0 rf), (aI g rf 3 rc)] := hD
  refine lv_aload_n hx hb dX10_would_5 rfl (lv_at hl 0 rfl) ?_
  refine lv_iload_n hx hb dX10_would_6 rfl (lv_at hl 2 rfl) ?_
  refine lv_iconst (v := 1) hx hb dX10_would_7 (by decide) ?_
  refine lv_bipush (v := 60) hx hb dX10_would_8 (by decide) ?_
  refine he_ci (wc := []) (wr := [(oX10 x0 y0 ta z0 p0 dr pa to_ s0 im ki tr v0 rf), (aI g rf 3 rc)]) (va_runS (As := [.int y, .int 1, .int 60]) (rest := [.ref x0]) ⟨hx, hb, hml, hown, hts⟩ (c_X10_within l g y 1 60 H.size) (va_cwS 3 hts gX10_would_X10_within rfl rfl rfl (by decide +kernel) ⟨Nat.le_of_ble_eq_true rfl, Nat.le_of_ble_eq_true rfl⟩) (he_preS (wc := []) hK hP hD hS hA hE [] rfl rfl) rfl rfl hl.1 rfl (lv_room (Nat.le_of_ble_eq_true rfl)) dX10_would_10 ⟨(Nat.le_of_ble_eq_true rfl), (Nat.le_of_ble_eq_true rfl)⟩) hP hD hS hA [] [0, 1] rfl rfl rfl (by decide) (fun r_4 u_5 H locs h_6 hP hD hS => ?_)
  subst h_6
  have hP : va_P g.1 vwCl [(oX10 x0 y0 ta z0 p0 dr pa to_ s0 im ki tr v0 rf), (aI g rf 3 rc)] H := hP
  have hD : va_D A [(oX10 x0 y0 ta z0 p0 dr pa to_ s0 im ki tr v0 rf), (aI g rf 3 rc)] := hD
  refine lv_if_eq (tgt := 30) hx hb dX10_would_13 (by decide) (fun c_7 => ?_) (fun c_7 => ?_)
  · refine lv_iconst (v := 0) hx hb dX10_would_30 (by decide) ?_
    refine he_xv (En := "java/lang/IllegalArgumentException") (wx := [(oX10 x0 y0 ta z0 p0 dr pa to_ s0 im ki tr v0 rf), (aI g rf 3 (upd rc 2 (rc 2 + 1)))]) (wc := [(oX10 x0 y0 ta z0 p0 dr pa to_ s0 im ki tr v0 rf), (aI g rf 3 rc)]) (wr := []) (vx_runV (As := [.int 0]) (rest := []) ⟨hx, hb, hml, hown, hts⟩ (g_X10_demand0 l g x0 y0 z0 p0 dr pa s0 im tr v0 rf ta to_ ki rc hlt H.size) (cwV 1 hts gX10_would_X10_demand rfl rfl rfl (by decide +kernel) ⟨Nat.le_of_ble_eq_true rfl, Nat.le_of_ble_eq_true rfl⟩) (he_preV (wc := [(oX10 x0 y0 ta z0 p0 dr pa to_ s0 im ki tr v0 rf), (aI g rf 3 rc)]) hK hP hD hS hA hE [0, 1] rfl rfl 0 rfl rfl) rfl rfl hl.1 rfl (lv_room (Nat.le_of_ble_eq_true rfl)) dX10_would_31 ⟨(Nat.le_of_ble_eq_true rfl), (Nat.le_of_ble_eq_true rfl)⟩) hP hD hS hA [0, 1] [] rfl rfl rfl (by decide) (fun ce q9 H locs hP hD hS hce hcv hcl => ?_)
    have hP : va_P g.1 vwCl [(oX10 x0 y0 ta z0 p0 dr pa to_ s0 im ki tr v0 rf), (aI g rf 3 (upd rc 2 (rc 2 + 1)))] H := hP
    have hD : va_D A [(oX10 x0 y0 ta z0 p0 dr pa to_ s0 im ki tr v0 rf), (aI g rf 3 (upd rc 2 (rc 2 + 1)))] := hD
    exact he_out hQ hlk hne hP hD hS hce hcv hcl (Nat.le_of_ble_eq_true rfl) (Nat.le_of_ble_eq_true rfl)
  · refine lv_iload_n hx hb dX10_would_16 rfl (lv_at hl 3 rfl) ?_
    refine lv_iconst (v := 0) hx hb dX10_would_17 (by decide) ?_
    refine lv_bipush (v := 9) hx hb dX10_would_18 (by decide) ?_
    refine he_ci (wc := []) (wr := [(oX10 x0 y0 ta z0 p0 dr pa to_ s0 im ki tr v0 rf), (aI g rf 3 rc)]) (va_runS (As := [.int z, .int 0, .int 9]) (rest := [.ref x0]) ⟨hx, hb, hml, hown, hts⟩ (c_X10_within l g z 0 9 H.size) (va_cwS 3 hts gX10_would_X10_within rfl rfl rfl (by decide +kernel) ⟨Nat.le_of_ble_eq_true rfl, Nat.le_of_ble_eq_true rfl⟩) (he_preS (wc := []) hK hP hD hS hA hE [] rfl rfl) rfl rfl hl.1 rfl (lv_room (Nat.le_of_ble_eq_true rfl)) dX10_would_20 ⟨(Nat.le_of_ble_eq_true rfl), (Nat.le_of_ble_eq_true rfl)⟩) hP hD hS hA [] [0, 1] rfl rfl rfl (by decide) (fun r_8 u_9 H locs h_10 hP hD hS => ?_)
    subst h_10
    have hP : va_P g.1 vwCl [(oX10 x0 y0 ta z0 p0 dr pa to_ s0 im ki tr v0 rf), (aI g rf 3 rc)] H := hP
    have hD : va_D A [(oX10 x0 y0 ta z0 p0 dr pa to_ s0 im ki tr v0 rf), (aI g rf 3 rc)] := hD
    refine lv_if_eq (tgt := 30) hx hb dX10_would_23 (by decide) (fun c_11 => ?_) (fun c_11 => ?_)
    · refine lv_iconst (v := 0) hx hb dX10_would_30 (by decide) ?_
      refine he_xv (En := "java/lang/IllegalArgumentException") (wx := [(oX10 x0 y0 ta z0 p0 dr pa to_ s0 im ki tr v0 rf), (aI g rf 3 (upd rc 2 (rc 2 + 1)))]) (wc := [(oX10 x0 y0 ta z0 p0 dr pa to_ s0 im ki tr v0 rf), (aI g rf 3 rc)]) (wr := []) (vx_runV (As := [.int 0]) (rest := []) ⟨hx, hb, hml, hown, hts⟩ (g_X10_demand0 l g x0 y0 z0 p0 dr pa s0 im tr v0 rf ta to_ ki rc hlt H.size) (cwV 1 hts gX10_would_X10_demand rfl rfl rfl (by decide +kernel) ⟨Nat.le_of_ble_eq_true rfl, Nat.le_of_ble_eq_true rfl⟩) (he_preV (wc := [(oX10 x0 y0 ta z0 p0 dr pa to_ s0 im ki tr v0 rf), (aI g rf 3 rc)]) hK hP hD hS hA hE [0, 1] rfl rfl 0 rfl rfl) rfl rfl hl.1 rfl (lv_room (Nat.le_of_ble_eq_true rfl)) dX10_would_31 ⟨(Nat.le_of_ble_eq_true rfl), (Nat.le_of_ble_eq_true rfl)⟩) hP hD hS hA [0, 1] [] rfl rfl rfl (by decide) (fun ce q9 H locs hP hD hS hce hcv hcl => ?_)
      have hP : va_P g.1 vwCl [(oX10 x0 y0 ta z0 p0 dr pa to_ s0 im ki tr v0 rf), (aI g rf 3 (upd rc 2 (rc 2 + 1)))] H := hP
      have hD : va_D A [(oX10 x0 y0 ta z0 p0 dr pa to_ s0 im ki tr v0 rf), (aI g rf 3 (upd rc 2 (rc 2 + 1)))] := hD
      exact he_out hQ hlk hne hP hD hS hce hcv hcl (Nat.le_of_ble_eq_true rfl) (Nat.le_of_ble_eq_true rfl)
    · refine lv_iconst (v := 1) hx hb dX10_would_26 (by decide) ?_
      refine lv_goto (tgt := 31) hx hb dX10_would_27 (by decide) ?_
      exact absurd hbad (by rintro (h9 | h9) <;> contradiction)
set_option maxHeartbeats 4000000 in
set_option maxRecDepth 100000 in
theorem g_X10_wouldX (l : Launch) (g : he_G) (x0 : Nat) (y0 : Nat) (z0 : Nat) (p0 : Nat) (dr : Nat) (pa : Nat) (s0 : Nat) (im : Nat) (tr : Nat) (v0 : Nat) (rf : Nat) (ta : Int32) (to_ : Int32) (ki : Int32) (rc : Nat → Int32) (x : Int32) (y : Int32) (z : Int32) (hlt : l.stackTraces = false) (hbad : he_within y 1 60 = 0 ∨ he_within z 0 9 = 0) (hyes : ¬ he_within x 0 (to_ - 1) = 0) (hx1 : ¬ x = -1) : he_T he_QTi l yX10_would wsX10_would 7 103 1 6 g [.ref x0, .int x, .int y, .int z] [(oX10 x0 y0 ta z0 p0 dr pa to_ s0 im ki tr v0 rf), (aI g rf 3 rc)] "java/lang/IllegalArgumentException" [(oX10 x0 y0 ta z0 p0 dr pa to_ s0 im ki tr v0 rf), (aI g rf 3 (upd rc 2 (rc 2 + 1)))] := by
  refine he_beginX (l := l) (g := g) (y := yX10_would) (wl := wsX10_would) (fr := 7) (lo := 103) (mc := 1) (ms := 6) (av := [.ref x0, .int x, .int y, .int z]) (ws := [(oX10 x0 y0 ta z0 p0 dr pa to_ s0 im ki tr v0 rf), (aI g rf 3 rc)]) (cc := cX10_would) (maxL := 4) (ret := (some .int)) he_QTi (by decide) rfl (Nat.le_of_ble_eq_true rfl) ?_
  intro p e s m args below meth c A ls H locs Q hQ hne hB
  obtain ⟨hx, hb, hr, hml, hown, hts, hlk, hin, hP, hK, hD, hS, hA, hE, hl⟩ := hB
  have hl : lv_has ls 4 [(0, .ref x0), (1, .int x), (2, .int y), (3, .int z)] := hl
  refine lv_aload_n hx hb dX10_would_0 rfl (lv_at hl 0 rfl) ?_
  refine lv_iload_n hx hb dX10_would_1 rfl (lv_at hl 1 rfl) ?_
  refine he_cv (wc := [(oX10 x0 y0 ta z0 p0 dr pa to_ s0 im ki tr v0 rf)]) (wr := [(aI g rf 3 rc)]) (va_runV (As := [.int x]) (rest := []) ⟨hx, hb, hml, hown, hts⟩ (g_X10_demandCN1 l g x0 y0 z0 p0 dr pa s0 im tr v0 rf ta to_ ki x (by first | assumption | decide | omega) (by first | assumption | decide | omega) H.size) (cwV 1 hts gX10_would_X10_demandContractOrNone rfl rfl rfl (by decide +kernel) ⟨Nat.le_of_ble_eq_true rfl, Nat.le_of_ble_eq_true rfl⟩) (he_preV (wc := [(oX10 x0 y0 ta z0 p0 dr pa to_ s0 im ki tr v0 rf)]) hK hP hD hS hA hE [0] rfl rfl 0 rfl rfl) rfl rfl hl.1 rfl (lv_room (Nat.le_of_ble_eq_true rfl)) dX10_would_2 ⟨(Nat.le_of_ble_eq_true rfl), (Nat.le_of_ble_eq_true rfl)⟩) hP hD hS hA [0] [1] rfl rfl rfl (by decide) (fun u_2 H locs h_3 hP hD hS => ?_)
  have hP : va_P g.1 vwCl [(aI g rf 3 rc), (oX10 x0 y0 ta z0 p0 dr pa to_ s0 im ki tr v0 rf)] H := hP
  have hD : va_D A [(aI g rf 3 rc), (oX10 x0 y0 ta z0 p0 dr pa to_ s0 im ki tr v0 rf)] := hD
  refine lv_aload_n hx hb dX10_would_5 rfl (lv_at hl 0 rfl) ?_
  refine lv_iload_n hx hb dX10_would_6 rfl (lv_at hl 2 rfl) ?_
  refine lv_iconst (v := 1) hx hb dX10_would_7 (by decide) ?_
  refine lv_bipush (v := 60) hx hb dX10_would_8 (by decide) ?_
  refine he_ci (wc := []) (wr := [(aI g rf 3 rc), (oX10 x0 y0 ta z0 p0 dr pa to_ s0 im ki tr v0 rf)]) (va_runS (As := [.int y, .int 1, .int 60]) (rest := [.ref x0]) ⟨hx, hb, hml, hown, hts⟩ (c_X10_within l g y 1 60 H.size) (va_cwS 3 hts gX10_would_X10_within rfl rfl rfl (by decide +kernel) ⟨Nat.le_of_ble_eq_true rfl, Nat.le_of_ble_eq_true rfl⟩) (he_preS (wc := []) hK hP hD hS hA hE [] rfl rfl) rfl rfl hl.1 rfl (lv_room (Nat.le_of_ble_eq_true rfl)) dX10_would_10 ⟨(Nat.le_of_ble_eq_true rfl), (Nat.le_of_ble_eq_true rfl)⟩) hP hD hS hA [] [0, 1] rfl rfl rfl (by decide) (fun r_4 u_5 H locs h_6 hP hD hS => ?_)
  subst h_6
  have hP : va_P g.1 vwCl [(aI g rf 3 rc), (oX10 x0 y0 ta z0 p0 dr pa to_ s0 im ki tr v0 rf)] H := hP
  have hD : va_D A [(aI g rf 3 rc), (oX10 x0 y0 ta z0 p0 dr pa to_ s0 im ki tr v0 rf)] := hD
  refine lv_if_eq (tgt := 30) hx hb dX10_would_13 (by decide) (fun c_7 => ?_) (fun c_7 => ?_)
  · refine lv_iconst (v := 0) hx hb dX10_would_30 (by decide) ?_
    refine he_xv (En := "java/lang/IllegalArgumentException") (wx := [(oX10 x0 y0 ta z0 p0 dr pa to_ s0 im ki tr v0 rf), (aI g rf 3 (upd rc 2 (rc 2 + 1)))]) (wc := [(oX10 x0 y0 ta z0 p0 dr pa to_ s0 im ki tr v0 rf), (aI g rf 3 rc)]) (wr := []) (vx_runV (As := [.int 0]) (rest := []) ⟨hx, hb, hml, hown, hts⟩ (g_X10_demand0 l g x0 y0 z0 p0 dr pa s0 im tr v0 rf ta to_ ki rc hlt H.size) (cwV 1 hts gX10_would_X10_demand rfl rfl rfl (by decide +kernel) ⟨Nat.le_of_ble_eq_true rfl, Nat.le_of_ble_eq_true rfl⟩) (he_preV (wc := [(oX10 x0 y0 ta z0 p0 dr pa to_ s0 im ki tr v0 rf), (aI g rf 3 rc)]) hK hP hD hS hA hE [1, 0] rfl rfl 1 rfl rfl) rfl rfl hl.1 rfl (lv_room (Nat.le_of_ble_eq_true rfl)) dX10_would_31 ⟨(Nat.le_of_ble_eq_true rfl), (Nat.le_of_ble_eq_true rfl)⟩) hP hD hS hA [1, 0] [] rfl rfl rfl (by decide) (fun ce q9 H locs hP hD hS hce hcv hcl => ?_)
    have hP : va_P g.1 vwCl [(oX10 x0 y0 ta z0 p0 dr pa to_ s0 im ki tr v0 rf), (aI g rf 3 (upd rc 2 (rc 2 + 1)))] H := hP
    have hD : va_D A [(oX10 x0 y0 ta z0 p0 dr pa to_ s0 im ki tr v0 rf), (aI g rf 3 (upd rc 2 (rc 2 + 1)))] := hD
    exact he_out hQ hlk hne hP hD hS hce hcv hcl (Nat.le_of_ble_eq_true rfl) (Nat.le_of_ble_eq_true rfl)
  · refine lv_iload_n hx hb dX10_would_16 rfl (lv_at hl 3 rfl) ?_
    refine lv_iconst (v := 0) hx hb dX10_would_17 (by decide) ?_
    refine lv_bipush (v := 9) hx hb dX10_would_18 (by decide) ?_
    refine he_ci (wc := []) (wr := [(aI g rf 3 rc), (oX10 x0 y0 ta z0 p0 dr pa to_ s0 im ki tr v0 rf)]) (va_runS (As := [.int z, .int 0, .int 9]) (rest := [.ref x0]) ⟨hx, hb, hml, hown, hts⟩ (c_X10_within l g z 0 9 H.size) (va_cwS 3 hts gX10_would_X10_within rfl rfl rfl (by decide +kernel) ⟨Nat.le_of_ble_eq_true rfl, Nat.le_of_ble_eq_true rfl⟩) (he_preS (wc := []) hK hP hD hS hA hE [] rfl rfl) rfl rfl hl.1 rfl (lv_room (Nat.le_of_ble_eq_true rfl)) dX10_would_20 ⟨(Nat.le_of_ble_eq_true rfl), (Nat.le_of_ble_eq_true rfl)⟩) hP hD hS hA [] [0, 1] rfl rfl rfl (by decide) (fun r_8 u_9 H locs h_10 hP hD hS => ?_)
    subst h_10
    have hP : va_P g.1 vwCl [(aI g rf 3 rc), (oX10 x0 y0 ta z0 p0 dr pa to_ s0 im ki tr v0 rf)] H := hP
    have hD : va_D A [(aI g rf 3 rc), (oX10 x0 y0 ta z0 p0 dr pa to_ s0 im ki tr v0 rf)] := hD
    refine lv_if_eq (tgt := 30) hx hb dX10_would_23 (by decide) (fun c_11 => ?_) (fun c_11 => ?_)
    · refine lv_iconst (v := 0) hx hb dX10_would_30 (by decide) ?_
      refine he_xv (En := "java/lang/IllegalArgumentException") (wx := [(oX10 x0 y0 ta z0 p0 dr pa to_ s0 im ki tr v0 rf), (aI g rf 3 (upd rc 2 (rc 2 + 1)))]) (wc := [(oX10 x0 y0 ta z0 p0 dr pa to_ s0 im ki tr v0 rf), (aI g rf 3 rc)]) (wr := []) (vx_runV (As := [.int 0]) (rest := []) ⟨hx, hb, hml, hown, hts⟩ (g_X10_demand0 l g x0 y0 z0 p0 dr pa s0 im tr v0 rf ta to_ ki rc hlt H.size) (cwV 1 hts gX10_would_X10_demand rfl rfl rfl (by decide +kernel) ⟨Nat.le_of_ble_eq_true rfl, Nat.le_of_ble_eq_true rfl⟩) (he_preV (wc := [(oX10 x0 y0 ta z0 p0 dr pa to_ s0 im ki tr v0 rf), (aI g rf 3 rc)]) hK hP hD hS hA hE [1, 0] rfl rfl 1 rfl rfl) rfl rfl hl.1 rfl (lv_room (Nat.le_of_ble_eq_true rfl)) dX10_would_31 ⟨(Nat.le_of_ble_eq_true rfl), (Nat.le_of_ble_eq_true rfl)⟩) hP hD hS hA [1, 0] [] rfl rfl rfl (by decide) (fun ce q9 H locs hP hD hS hce hcv hcl => ?_)
      have hP : va_P g.1 vwCl [(oX10 x0 y0 ta z0 p0 dr pa to_ s0 im ki tr v0 rf), (aI g rf 3 (upd rc 2 (rc 2 + 1)))] H := hP
      have hD : va_D A [(oX10 x0 y0 ta z0 p0 dr pa to_ s0 im ki tr v0 rf), (aI g rf 3 (upd rc 2 (rc 2 + 1)))] := hD
      exact he_out hQ hlk hne hP hD hS hce hcv hcl (Nat.le_of_ble_eq_true rfl) (Nat.le_of_ble_eq_true rfl)
    · refine lv_iconst (v := 1) hx hb dX10_would_26 (by decide) ?_
      refine lv_goto (tgt := 31) hx hb dX10_would_27 (by decide) ?_
      exact absurd hbad (by rintro (h9 | h9) <;> contradiction)
set_option maxHeartbeats 4000000 in
set_option maxRecDepth 100000 in
theorem g_X10_ruleXc (l : Launch) (g : he_G) (x0 : Nat) (y0 : Nat) (z0 : Nat) (p0 : Nat) (dr : Nat) (pa : Nat) (s0 : Nat) (im : Nat) (tr : Nat) (v0 : Nat) (rf : Nat) (ta : Int32) (to_ : Int32) (ki : Int32) (rc : Nat → Int32) (x : Int32) (y : Int32) (hlt : l.stackTraces = false) (hno : he_within x 0 (to_ - 1) = 0) : he_T he_QTi l yX10_rule wsX10_rule 7 103 1 6 g [.ref x0, .int x, .int y] [(oX10 x0 y0 ta z0 p0 dr pa to_ s0 im ki tr v0 rf), (aI g rf 3 rc)] "java/util/NoSuchElementException" [(oX10 x0 y0 ta z0 p0 dr pa to_ s0 im ki tr v0 rf), (aI g rf 3 (upd rc 0 (rc 0 + 1)))] := by
  refine he_beginX (l := l) (g := g) (y := yX10_rule) (wl := wsX10_rule) (fr := 7) (lo := 103) (mc := 1) (ms := 6) (av := [.ref x0, .int x, .int y]) (ws := [(oX10 x0 y0 ta z0 p0 dr pa to_ s0 im ki tr v0 rf), (aI g rf 3 rc)]) (cc := cX10_rule) (maxL := 3) (ret := (some .int)) he_QTi (by decide) rfl (Nat.le_of_ble_eq_true rfl) ?_
  intro p e s m args below meth c A ls H locs Q hQ hne hB
  obtain ⟨hx, hb, hr, hml, hown, hts, hlk, hin, hP, hK, hD, hS, hA, hE, hl⟩ := hB
  have hl : lv_has ls 3 [(0, .ref x0), (1, .int x), (2, .int y)] := hl
  refine lv_aload_n hx hb dX10_rule_0 rfl (lv_at hl 0 rfl) ?_
  refine lv_iload_n hx hb dX10_rule_1 rfl (lv_at hl 1 rfl) ?_
  refine he_xv (En := "java/util/NoSuchElementException") (wx := [(oX10 x0 y0 ta z0 p0 dr pa to_ s0 im ki tr v0 rf), (aI g rf 3 (upd rc 0 (rc 0 + 1)))]) (wc := [(oX10 x0 y0 ta z0 p0 dr pa to_ s0 im ki tr v0 rf), (aI g rf 3 rc)]) (wr := []) (vx_runV (As := [.int x]) (rest := []) ⟨hx, hb, hml, hown, hts⟩ (g_X10_demandContract0 l g x0 y0 z0 p0 dr pa s0 im tr v0 rf ta to_ ki rc x hlt (by first | assumption | decide | omega) H.size) (cwV 1 hts gX10_rule_X10_demandContract rfl rfl rfl (by decide +kernel) ⟨Nat.le_of_ble_eq_true rfl, Nat.le_of_ble_eq_true rfl⟩) (he_preV (wc := [(oX10 x0 y0 ta z0 p0 dr pa to_ s0 im ki tr v0 rf), (aI g rf 3 rc)]) hK hP hD hS hA hE [0, 1] rfl rfl 0 rfl rfl) rfl rfl hl.1 rfl (lv_room (Nat.le_of_ble_eq_true rfl)) dX10_rule_2 ⟨(Nat.le_of_ble_eq_true rfl), (Nat.le_of_ble_eq_true rfl)⟩) hP hD hS hA [0, 1] [] rfl rfl rfl (by decide) (fun ce q9 H locs hP hD hS hce hcv hcl => ?_)
  have hP : va_P g.1 vwCl [(oX10 x0 y0 ta z0 p0 dr pa to_ s0 im ki tr v0 rf), (aI g rf 3 (upd rc 0 (rc 0 + 1)))] H := hP
  have hD : va_D A [(oX10 x0 y0 ta z0 p0 dr pa to_ s0 im ki tr v0 rf), (aI g rf 3 (upd rc 0 (rc 0 + 1)))] := hD
  exact he_out hQ hlk hne hP hD hS hce hcv hcl (Nat.le_of_ble_eq_true rfl) (Nat.le_of_ble_eq_true rfl)
