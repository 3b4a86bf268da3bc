set_option maxHeartbeats 4000000 in
set_option maxRecDepth 100000 in
theorem g_X10_ruleX (l : Launch) (g : he_G) (x0 : Nat) (y0 : Nat) (z0 : Nat) (p0 : Nat) (dr : Nat) (pa : Nat) (s0 : Nat) (im : Nat) (tr : Nat) (v0 : Nat) (rf : Nat) (ta : Int32) (to_ : Int32) (ki : Int32) (rc : Nat → Int32) (x : Int32) (y : Int32) (hlt : l.stackTraces = false) (hbad : he_within y 0 6 = 0) (hyes : ¬ he_within x 0 (to_ - 1) = 0) : he_T he_QTi l yX10_rule wsX10_rule 7 103 1 6 g [.ref x0, .int x, .int y] [(oX10 x0 y0 ta z0 p0 dr pa to_ s0 im ki tr v0 rf), (aI g rf 3 rc)] "java/lang/IllegalArgumentException" [(oX10 x0 y0 ta z0 p0 dr pa to_ s0 im ki tr v0 rf), (aI g rf 3 (upd rc 2 (rc 2 + 1)))] := by
  refine he_beginX (l := l) (g := g) (y := yX10_rule) (wl := wsX10_rule) (fr := 7) (lo := 103) (mc := 1) (ms := 6) (av := [.ref x0, .int x, .int y]) (ws := [(oX10 x0 y0 ta z0 p0 dr pa to_ s0 im ki tr v0 rf), (aI g rf 3 rc)]) (cc := cX10_rule) (maxL := 3) (ret := (some .int)) he_QTi (by decide) rfl (Nat.le_of_ble_eq_true rfl) ?_
  intro p e s m args below meth c A ls H locs Q hQ hne hB
  obtain ⟨hx, hb, hr, hml, hown, hts, hlk, hin, hP, hK, hD, hS, hA, hE, hl⟩ := hB
  have hl : lv_has ls 3 [(0, .ref x0), (1, .int x), (2, .int y)] := hl
  refine lv_aload_n hx hb dX10_rule_0 rfl (lv_at hl 0 rfl) ?_
  refine lv_iload_n hx hb dX10_rule_1 rfl (lv_at hl 1 rfl) ?_
  refine he_cv (wc := [(oX10 x0 y0 ta z0 p0 dr pa to_ s0 im ki tr v0 rf)]) (wr := [(aI g rf 3 rc)]) (va_runV (As := [.int x]) (rest := []) ⟨hx, hb, hml, hown, hts⟩ (g_X10_demandContract1 l g x0 y0 z0 p0 dr pa s0 im tr v0 rf ta to_ ki x (by first | assumption | decide | omega) H.size) (cwV 1 hts gX10_rule_X10_demandContract rfl rfl rfl (by decide +kernel) ⟨Nat.le_of_ble_eq_true rfl, Nat.le_of_ble_eq_true rfl⟩) (he_preV (wc := [(oX10 x0 y0 ta z0 p0 dr pa to_ s0 im ki tr v0 rf)]) hK hP hD hS hA hE [0] rfl rfl 0 rfl rfl) rfl rfl hl.1 rfl (lv_room (Nat.le_of_ble_eq_true rfl)) dX10_rule_2 ⟨(Nat.le_of_ble_eq_true rfl), (Nat.le_of_ble_eq_true rfl)⟩) hP hD hS hA [0] [1] rfl rfl rfl (by decide) (fun u_2 H locs h_3 hP hD hS => ?_)
  have hP : va_P g.1 vwCl [(aI g rf 3 rc), (oX10 x0 y0 ta z0 p0 dr pa to_ s0 im ki tr v0 rf)] H := hP
  have hD : va_D A [(aI g rf 3 rc), (oX10 x0 y0 ta z0 p0 dr pa to_ s0 im ki tr v0 rf)] := hD
  refine lv_aload_n hx hb dX10_rule_5 rfl (lv_at hl 0 rfl) ?_
  refine lv_iload_n hx hb dX10_rule_6 rfl (lv_at hl 2 rfl) ?_
  refine lv_iconst (v := 0) hx hb dX10_rule_7 (by decide) ?_
  refine lv_bipush (v := 6) hx hb dX10_rule_8 (by decide) ?_
  refine he_ci (wc := []) (wr := [(aI g rf 3 rc), (oX10 x0 y0 ta z0 p0 dr pa to_ s0 im ki tr v0 rf)]) (va_runS (As := [.int y, .int 0, .int 6]) (rest := [.ref x0]) ⟨hx, hb, hml, hown, hts⟩ (c_X10_within l g y 0 6 H.size) (va_cwS 3 hts gX10_rule_X10_within rfl rfl rfl (by decide +kernel) ⟨Nat.le_of_ble_eq_true rfl, Nat.le_of_ble_eq_true rfl⟩) (he_preS (wc := []) hK hP hD hS hA hE [] rfl rfl) rfl rfl hl.1 rfl (lv_room (Nat.le_of_ble_eq_true rfl)) dX10_rule_10 ⟨(Nat.le_of_ble_eq_true rfl), (Nat.le_of_ble_eq_true rfl)⟩) hP hD hS hA [] [0, 1] rfl rfl rfl (by decide) (fun r_4 u_5 H locs h_6 hP hD hS => ?_)
  subst h_6
  have hP : va_P g.1 vwCl [(aI g rf 3 rc), (oX10 x0 y0 ta z0 p0 dr pa to_ s0 im ki tr v0 rf)] H := hP
  have hD : va_D A [(aI g rf 3 rc), (oX10 x0 y0 ta z0 p0 dr pa to_ s0 im ki tr v0 rf)] := hD
  refine he_top (0) hbad ?_
  refine he_xv (En := "java/lang/IllegalArgumentException") (wx := [(oX10 x0 y0 ta z0 p0 dr pa to_ s0 im ki tr v0 rf), (aI g rf 3 (upd rc 2 (rc 2 + 1)))]) (wc := [(oX10 x0 y0 ta z0 p0 dr pa to_ s0 im ki tr v0 rf), (aI g rf 3 rc)]) (wr := []) (vx_runV (As := [.int 0]) (rest := []) ⟨hx, hb, hml, hown, hts⟩ (g_X10_demand0 l g x0 y0 z0 p0 dr pa s0 im tr v0 rf ta to_ ki rc hlt H.size) (cwV 1 hts gX10_rule_X10_demand rfl rfl rfl (by decide +kernel) ⟨Nat.le_of_ble_eq_true rfl, Nat.le_of_ble_eq_true rfl⟩) (he_preV (wc := [(oX10 x0 y0 ta z0 p0 dr pa to_ s0 im ki tr v0 rf), (aI g rf 3 rc)]) hK hP hD hS hA hE [1, 0] rfl rfl 1 rfl rfl) rfl rfl hl.1 rfl (lv_room (Nat.le_of_ble_eq_true rfl)) dX10_rule_13 ⟨(Nat.le_of_ble_eq_true rfl), (Nat.le_of_ble_eq_true rfl)⟩) hP hD hS hA [1, 0] [] rfl rfl rfl (by decide) (fun ce q9 H locs hP hD hS hce hcv hcl => ?_)
  have hP : va_P g.1 vwCl [(oX10 x0 y0 ta z0 p0 dr pa to_ s0 im ki tr v0 rf), (aI g rf 3 (upd rc 2 (rc 2 + 1)))] H := hP
  have hD : va_D A [(oX10 x0 y0 ta z0 p0 dr pa to_ s0 im ki tr v0 rf), (aI g rf 3 (upd rc 2 (rc 2 + 1)))] := hD
  exact he_out hQ hlk hne hP hD hS hce hcv hcl (Nat.le_of_ble_eq_true rfl) (Nat.le_of_ble_eq_true rfl)
set_option maxHeartbeats 4000000 in
set_option maxRecDepth 100000 in
theorem g_X10_wallXw (l : Launch) (g : he_G) (x0 : Nat) (y0 : Nat) (z0 : Nat) (dr : Nat) (pa : Nat) (s0 : Nat) (im : Nat) (tr : Nat) (v0 : Nat) (rf : Nat) (ta : Int32) (to_ : Int32) (ki : Int32) (p0 : Nat) (p1 : Nat) (p2 : Nat) (p3 : Nat) (p4 : Nat) (w : Nat) (rc : Nat → Int32) (x : Int32) (y : Int32) (hlt : l.stackTraces = false) (hw6 : w ≤ 6) (hno : he_within x 0 (nI w - 1) = 0) : he_T he_QTi l yX10_wall wsX10_wall 7 103 1 6 g [.ref x0, .int x, .int y] [(oX10 x0 y0 ta z0 p0 dr pa to_ s0 im ki tr v0 rf), (aI g rf 3 rc), (oX6 p0 p1 p2 p3 p4 (nI w))] "java/lang/IndexOutOfBoundsException" [(oX10 x0 y0 ta z0 p0 dr pa to_ s0 im ki tr v0 rf), (aI g rf 3 (upd rc 1 (rc 1 + 1))), (oX6 p0 p1 p2 p3 p4 (nI w))] := by
  refine he_beginX (l := l) (g := g) (y := yX10_wall) (wl := wsX10_wall) (fr := 7) (lo := 103) (mc := 1) (ms := 6) (av := [.ref x0, .int x, .int y]) (ws := [(oX10 x0 y0 ta z0 p0 dr pa to_ s0 im ki tr v0 rf), (aI g rf 3 rc), (oX6 p0 p1 p2 p3 p4 (nI w))]) (cc := cX10_wall) (maxL := 3) (ret := (some .int)) he_QTi (by decide) rfl (Nat.le_of_ble_eq_true rfl) ?_
  intro p e s m args below meth c A ls H locs Q hQ hne hB
  obtain ⟨hx, hb, hr, hml, hown, hts, hlk, hin, hP, hK, hD, hS, hA, hE, hl⟩ := hB
  have hl : lv_has ls 3 [(0, .ref x0), (1, .int x), (2, .int y)] := hl
  refine lv_aload_n hx hb dX10_wall_0 rfl (lv_at hl 0 rfl) ?_
  refine lv_iload_n hx hb dX10_wall_1 rfl (lv_at hl 1 rfl) ?_
  refine he_xv (En := "java/lang/IndexOutOfBoundsException") (wx := [(oX10 x0 y0 ta z0 p0 dr pa to_ s0 im ki tr v0 rf), (aI g rf 3 (upd rc 1 (rc 1 + 1))), (oX6 p0 p1 p2 p3 p4 (nI w))]) (wc := [(oX10 x0 y0 ta z0 p0 dr pa to_ s0 im ki tr v0 rf), (aI g rf 3 rc), (oX6 p0 p1 p2 p3 p4 (nI w))]) (wr := []) (vx_runV (As := [.int x]) (rest := []) ⟨hx, hb, hml, hown, hts⟩ (g_X10_demandWall0 l g x0 y0 z0 dr pa s0 im tr v0 rf ta to_ ki p0 p1 p2 p3 p4 w rc x hlt (by first | assumption | decide | omega) (by first | assumption | decide | omega) H.size) (cwV 1 hts gX10_wall_X10_demandWall rfl rfl rfl (by decide +kernel) ⟨Nat.le_of_ble_eq_true rfl, Nat.le_of_ble_eq_true rfl⟩) (he_preV (wc := [(oX10 x0 y0 ta z0 p0 dr pa to_ s0 im ki tr v0 rf), (aI g rf 3 rc), (oX6 p0 p1 p2 p3 p4 (nI w))]) hK hP hD hS hA hE [0, 1, 2] rfl rfl 0 rfl rfl) rfl rfl hl.1 rfl (lv_room (Nat.le_of_ble_eq_true rfl)) dX10_wall_2 ⟨(Nat.le_of_ble_eq_true rfl), (Nat.le_of_ble_eq_true rfl)⟩) hP hD hS hA [0, 1, 2] [] rfl rfl rfl (by decide) (fun ce q9 H locs hP hD hS hce hcv hcl => ?_)
  have hP : va_P g.1 vwCl [(oX10 x0 y0 ta z0 p0 dr pa to_ s0 im ki tr v0 rf), (aI g rf 3 (upd rc 1 (rc 1 + 1))), (oX6 p0 p1 p2 p3 p4 (nI w))] H := hP
  have hD : va_D A [(oX10 x0 y0 ta z0 p0 dr pa to_ s0 im ki tr v0 rf), (aI g rf 3 (upd rc 1 (rc 1 + 1))), (oX6 p0 p1 p2 p3 p4 (nI w))] := hD
  exact he_out hQ hlk hne hP hD hS hce hcv hcl (Nat.le_of_ble_eq_true rfl) (Nat.le_of_ble_eq_true rfl)
set_option maxHeartbeats 4000000 in
set_option maxRecDepth 100000 in
theorem g_X10_wallX (l : Launch) (g : he_G) (x0 : Nat) (y0 : Nat) (z0 : Nat) (dr : Nat) (pa : Nat) (s0 : Nat) (im : Nat) (tr : Nat) (v0 : Nat) (rf : Nat) (ta : Int32) (to_ : Int32) (ki : Int32) (p0 : Nat) (p1 : Nat) (p2 : Nat) (p3 : Nat) (p4 : Nat) (w : Nat) (rc : Nat → Int32) (x : Int32) (y : Int32) (hlt : l.stackTraces = false) (hbad : he_within y 0 3 = 0) (hyes : ¬ he_within x 0 (nI w - 1) = 0) : he_T he_QTi l yX10_wall wsX10_wall 7 103 1 6 g [.ref x0, .int x, .int y] [(oX10 x0 y0 ta z0 p0 dr pa to_ s0 im ki tr v0 rf), (aI g rf 3 rc), (oX6 p0 p1 p2 p3 p4 (nI w))] "java/lang/IllegalArgumentException" [(oX10 x0 y0 ta z0 p0 dr pa to_ s0 im ki tr v0 rf), (aI g rf 3 (upd rc 2 (rc 2 + 1))), (oX6 p0 p1 p2 p3 p4 (nI w))] := by
  refine he_beginX (l := l) (g := g) (y := yX10_wall) (wl := wsX10_wall) (fr := 7) (lo := 103) (mc := 1) (ms := 6) (av := [.ref x0, .int x, .int y]) (ws := [(oX10 x0 y0 ta z0 p0 dr pa to_ s0 im ki tr v0 rf), (aI g rf 3 rc), (oX6 p0 p1 p2 p3 p4 (nI w))]) (cc := cX10_wall) (maxL := 3) (ret := (some .int)) he_QTi (by decide) rfl (Nat.le_of_ble_eq_true rfl) ?_
  intro p e s m args below meth c A ls H locs Q hQ hne hB
  obtain ⟨hx, hb, hr, hml, hown, hts, hlk, hin, hP, hK, hD, hS, hA, hE, hl⟩ := hB
  have hl : lv_has ls 3 [(0, .ref x0), (1, .int x), (2, .int y)] := hl
  refine lv_aload_n hx hb dX10_wall_0 rfl (lv_at hl 0 rfl) ?_
  refine lv_iload_n hx hb dX10_wall_1 rfl (lv_at hl 1 rfl) ?_
  refine he_cv (wc := [(oX10 x0 y0 ta z0 p0 dr pa to_ s0 im ki tr v0 rf), (oX6 p0 p1 p2 p3 p4 (nI w))]) (wr := [(aI g rf 3 rc)]) (va_runV (As := [.int x]) (rest := []) ⟨hx, hb, hml, hown, hts⟩ (g_X10_demandWall1 l g x0 y0 z0 dr pa s0 im tr v0 rf ta to_ ki p0 p1 p2 p3 p4 w x (by first | assumption | decide | omega) H.size) (cwV 1 hts gX10_wall_X10_demandWall rfl rfl rfl (by decide +kernel) ⟨Nat.le_of_ble_eq_true rfl, Nat.le_of_ble_eq_true rfl⟩) (he_preV (wc := [(oX10 x0 y0 ta z0 p0 dr pa to_ s0 im ki tr v0 rf), (oX6 p0 p1 p2 p3 p4 (nI w))]) hK hP hD hS hA hE [0, 2] rfl rfl 0 rfl rfl) rfl rfl hl.1 rfl (lv_room (Nat.le_of_ble_eq_true rfl)) dX10_wall_2 ⟨(Nat.le_of_ble_eq_true rfl), (Nat.le_of_ble_eq_true rfl)⟩) hP hD hS hA [0, 2] [1] rfl rfl rfl (by decide) (fun u_2 H locs h_3 hP hD hS => ?_)
  have hP : va_P g.1 vwCl [(aI g rf 3 rc), (oX10 x0 y0 ta z0 p0 dr pa to_ s0 im ki tr v0 rf), (oX6 p0 p1 p2 p3 p4 (nI w))] H := hP
  have hD : va_D A [(aI g rf 3 rc), (oX10 x0 y0 ta z0 p0 dr pa to_ s0 im ki tr v0 rf), (oX6 p0 p1 p2 p3 p4 (nI w))] := hD
  refine lv_aload_n hx hb dX10_wall_5 rfl (lv_at hl 0 rfl) ?_
  refine lv_iload_n hx hb dX10_wall_6 rfl (lv_at hl 2 rfl) ?_
  refine lv_iconst (v := 0) hx hb dX10_wall_7 (by decide) ?_
  refine lv_iconst (v := 3) hx hb dX10_wall_8 (by decide) ?_
  refine he_ci (wc := []) (wr := [(aI g rf 3 rc), (oX10 x0 y0 ta z0 p0 dr pa to_ s0 im ki tr v0 rf), (oX6 p0 p1 p2 p3 p4 (nI w))]) (va_runS (As := [.int y, .int 0, .int 3]) (rest := [.ref x0]) ⟨hx, hb, hml, hown, hts⟩ (c_X10_within l g y 0 3 H.size) (va_cwS 3 hts gX10_wall_X10_within rfl rfl rfl (by decide +kernel) ⟨Nat.le_of_ble_eq_true rfl, Nat.le_of_ble_eq_true rfl⟩) (he_preS (wc := []) hK hP hD hS hA hE [] rfl rfl) rfl rfl hl.1 rfl (lv_room (Nat.le_of_ble_eq_true rfl)) dX10_wall_9 ⟨(Nat.le_of_ble_eq_true rfl), (Nat.le_of_ble_eq_true rfl)⟩) hP hD hS hA [] [0, 1, 2] rfl rfl rfl (by decide) (fun r_4 u_5 H locs h_6 hP hD hS => ?_)
  subst h_6
  have hP : va_P g.1 vwCl [(aI g rf 3 rc), (oX10 x0 y0 ta z0 p0 dr pa to_ s0 im ki tr v0 rf), (oX6 p0 p1 p2 p3 p4 (nI w))] H := hP
  have hD : va_D A [(aI g rf 3 rc), (oX10 x0 y0 ta z0 p0 dr pa to_ s0 im ki tr v0 rf), (oX6 p0 p1 p2 p3 p4 (nI w))] := hD
  refine he_top (0) hbad ?_
  refine he_xv (En := "java/lang/IllegalArgumentException") (wx := [(oX10 x0 y0 ta z0 p0 dr pa to_ s0 im ki tr v0 rf), (aI g rf 3 (upd rc 2 (rc 2 + 1)))]) (wc := [(oX10 x0 y0 ta z0 p0 dr pa to_ s0 im ki tr v0 rf), (aI g rf 3 rc)]) (wr := [(oX6 p0 p1 p2 p3 p4 (nI w))]) (vx_runV (As := [.int 0]) (rest := []) ⟨hx, hb, hml, hown, hts⟩ (g_X10_demand0 l g x0 y0 z0 p0 dr pa s0 im tr v0 rf ta to_ ki rc hlt H.size) (cwV 1 hts gX10_wall_X10_demand rfl rfl rfl (by decide +kernel) ⟨Nat.le_of_ble_eq_true rfl, Nat.le_of_ble_eq_true rfl⟩) (he_preV (wc := [(oX10 x0 y0 ta z0 p0 dr pa to_ s0 im ki tr v0 rf), (aI g rf 3 rc)]) hK hP hD hS hA hE [1, 0] rfl rfl 1 rfl rfl) rfl rfl hl.1 rfl (lv_room (Nat.le_of_ble_eq_true rfl)) dX10_wall_12 ⟨(Nat.le_of_ble_eq_true rfl), (Nat.le_of_ble_eq_true rfl)⟩) hP hD hS hA [1, 0] [2] rfl rfl rfl (by decide) (fun ce q9 H locs hP hD hS hce hcv hcl => ?_)
  have hP : va_P g.1 vwCl [(oX6 p0 p1 p2 p3 p4 (nI w)), (oX10 x0 y0 ta z0 p0 dr pa to_ s0 im ki tr v0 rf), (aI g rf 3 (upd rc 2 (rc 2 + 1)))] H := hP
  have hD : va_D A [(oX6 p0 p1 p2 p3 p4 (nI w)), (oX10 x0 y0 ta z0 p0 dr pa to_ s0 im ki tr v0 rf), (aI g rf 3 (upd rc 2 (rc 2 + 1)))] := hD
  have hP := hP.sub (ws' := [(oX10 x0 y0 ta z0 p0 dr pa to_ s0 im ki tr v0 rf), (aI g rf 3 (upd rc 2 (rc 2 + 1))), (oX6 p0 p1 p2 p3 p4 (nI w))]) [1, 2, 0] rfl
  have hD := hD.sub (ws' := [(oX10 x0 y0 ta z0 p0 dr pa to_ s0 im ki tr v0 rf), (aI g rf 3 (upd rc 2 (rc 2 + 1))), (oX6 p0 p1 p2 p3 p4 (nI w))]) [1, 2, 0] (by decide) rfl
  exact he_out hQ hlk hne hP hD hS hce hcv hcl (Nat.le_of_ble_eq_true rfl) (Nat.le_of_ble_eq_true rfl)
set_option maxHeartbeats 4000000 in
set_option maxRecDepth 100000 in
theorem g_X10_corksXw (l : Launch) (g : he_G) (x0 : Nat) (y0 : Nat) (z0 : Nat) (dr : Nat) (pa : Nat) (s0 : Nat) (im : Nat) (tr : Nat) (v0 : Nat) (rf : Nat) (ta : Int32) (to_ : Int32) (ki : Int32) (p0 : Nat) (p1 : Nat) (p2 : Nat) (p3 : Nat) (p4 : Nat) (w : Nat) (rc : Nat → Int32) (x : Int32) (y : Int32) (hlt : l.stackTraces = false) (hw6 : w ≤ 6) (hno : he_within y 0 (nI w - 1) = 0) : he_T he_QTi l yX10_corks wsX10_corks 7 103 1 6 g [.ref x0, .int x, .int y] [(oX10 x0 y0 ta z0 p0 dr pa to_ s0 im ki tr v0 rf), (aI g rf 3 rc), (oX6 p0 p1 p2 p3 p4 (nI w))] "java/lang/IndexOutOfBoundsException" [(oX10 x0 y0 ta z0 p0 dr pa to_ s0 im ki tr v0 rf), (aI g rf 3 (upd rc 1 (rc 1 + 1))), (oX6 p0 p1 p2 p3 p4 (nI w))] := by
  refine he_beginX (l := l) (g := g) (y := yX10_corks) (wl := wsX10_corks) (fr := 7) (lo := 103) (mc := 1) (ms := 6) (av := [.ref x0, .int x, .int y]) (ws := [(oX10 x0 y0 ta z0 p0 dr pa to_ s0 im ki tr v0 rf), (aI g rf 3 rc), (oX6 p0 p1 p2 p3 p4 (nI w))]) (cc := cX10_corks) (maxL := 3) (ret := (some .int)) he_QTi (by decide) rfl (Nat.le_of_ble_eq_true rfl) ?_
  intro p e s m args below meth c A ls H locs Q hQ hne hB
  obtain ⟨hx, hb, hr, hml, hown, hts, hlk, hin, hP, hK, hD, hS, hA, hE, hl⟩ := hB
  have hl : lv_has ls 3 [(0, .ref x0), (1, .int x), (2, .int y)] := hl
  refine lv_aload_n hx hb dX10_corks_0 rfl (lv_at hl 0 rfl) ?_
  refine lv_iload_n hx hb dX10_corks_1 rfl (lv_at hl 2 rfl) ?_
  refine he_xv (En := "java/lang/IndexOutOfBoundsException") (wx := [(oX10 x0 y0 ta z0 p0 dr pa to_ s0 im ki tr v0 rf), (aI g rf 3 (upd rc 1 (rc 1 + 1))), (oX6 p0 p1 p2 p3 p4 (nI w))]) (wc := [(oX10 x0 y0 ta z0 p0 dr pa to_ s0 im ki tr v0 rf), (aI g rf 3 rc), (oX6 p0 p1 p2 p3 p4 (nI w))]) (wr := []) (vx_runV (As := [.int y]) (rest := []) ⟨hx, hb, hml, hown, hts⟩ (g_X10_demandWall0 l g x0 y0 z0 dr pa s0 im tr v0 rf ta to_ ki p0 p1 p2 p3 p4 w rc y hlt (by first | assumption | decide | omega) (by first | assumption | decide | omega) H.size) (cwV 1 hts gX10_corks_X10_demandWall rfl rfl rfl (by decide +kernel) ⟨Nat.le_of_ble_eq_true rfl, Nat.le_of_ble_eq_true rfl⟩) (he_preV (wc := [(oX10 x0 y0 ta z0 p0 dr pa to_ s0 im ki tr v0 rf), (aI g rf 3 rc), (oX6 p0 p1 p2 p3 p4 (nI w))]) hK hP hD hS hA hE [0, 1, 2] rfl rfl 0 rfl rfl) rfl rfl hl.1 rfl (lv_room (Nat.le_of_ble_eq_true rfl)) dX10_corks_2 ⟨(Nat.le_of_ble_eq_true rfl), (Nat.le_of_ble_eq_true rfl)⟩) hP hD hS hA [0, 1, 2] [] rfl rfl rfl (by decide) (fun ce q9 H locs hP hD hS hce hcv hcl => ?_)
  have hP : va_P g.1 vwCl [(oX10 x0 y0 ta z0 p0 dr pa to_ s0 im ki tr v0 rf), (aI g rf 3 (upd rc 1 (rc 1 + 1))), (oX6 p0 p1 p2 p3 p4 (nI w))] H := hP
  have hD : va_D A [(oX10 x0 y0 ta z0 p0 dr pa to_ s0 im ki tr v0 rf), (aI g rf 3 (upd rc 1 (rc 1 + 1))), (oX6 p0 p1 p2 p3 p4 (nI w))] := hD
  exact he_out hQ hlk hne hP hD hS hce hcv hcl (Nat.le_of_ble_eq_true rfl) (Nat.le_of_ble_eq_true rfl)
set_option maxHeartbeats 4000000 in
set_option maxRecDepth 100000 in
theorem g_X10_corksX (l : Launch) (g : he_G) (x0 : Nat) (y0 : Nat) (z0 : Nat) (dr : Nat) (pa : Nat) (s0 : Nat) (im : Nat) (tr : Nat) (v0 : Nat) (rf : Nat) (ta : Int32) (to_ : Int32) (ki : Int32) (p0 : Nat) (p1 : Nat) (p2 : Nat) (p3 : Nat) (p4 : Nat) (w : Nat) (rc : Nat → Int32) (x : Int32) (y : Int32) (hlt : l.stackTraces = false) (hbad : he_within x 0 119 = 0) (hyes : ¬ he_within y 0 (nI w - 1) = 0) : he_T he_QTi l yX10_corks wsX10_corks 7 103 1 6 g [.ref x0, .int x, .int y] [(oX10 x0 y0 ta z0 p0 dr pa to_ s0 im ki tr v0 rf), (aI g rf 3 rc), (oX6 p0 p1 p2 p3 p4 (nI w))] "java/lang/IllegalArgumentException" [(oX10 x0 y0 ta z0 p0 dr pa to_ s0 im ki tr v0 rf), (aI g rf 3 (upd rc 2 (rc 2 + 1))), (oX6 p0 p1 p2 p3 p4 (nI w))] := by
  refine he_beginX (l := l) (g := g) (y := yX10_corks) (wl := wsX10_corks) (fr := 7) (lo := 103) (mc := 1) (ms := 6) (av := [.ref x0, .int x, .int y]) (ws := [(oX10 x0 y0 ta z0 p0 dr pa to_ s0 im ki tr v0 rf), (aI g rf 3 rc), (oX6 p0 p1 p2 p3 p4 (nI w))]) (cc := cX10_corks) (maxL := 3) (ret := (some .int)) he_QTi (by decide) rfl (Nat.le_of_ble_eq_true rfl) ?_
  intro p e s m args below meth c A ls H locs Q hQ hne hB
  obtain ⟨hx, hb, hr, hml, hown, hts, hlk, hin, hP, hK, hD, hS, hA, hE, hl⟩ := hB
  have hl : lv_has ls 3 [(0, .ref x0), (1, .int x), (2, .int y)] := hl
  refine lv_aload_n hx hb dX10_corks_0 rfl (lv_at hl 0 rfl) ?_
  refine lv_iload_n hx hb dX10_corks_1 rfl (lv_at hl 2 rfl) ?_
  refine he_cv (wc := [(oX10 x0 y0 ta z0 p0 dr pa to_ s0 im ki tr v0 rf), (oX6 p0 p1 p2 p3 p4 (nI w))]) (wr := [(aI g rf 3 rc)]) (va_runV (As := [.int y]) (rest := []) ⟨hx, hb, hml, hown, hts⟩ (g_X10_demandWall1 l g x0 y0 z0 dr pa s0 im tr v0 rf ta to_ ki p0 p1 p2 p3 p4 w y (by first | assumption | decide | omega) H.size) (cwV 1 hts gX10_corks_X10_demandWall rfl rfl rfl (by decide +kernel) ⟨Nat.le_of_ble_eq_true rfl, Nat.le_of_ble_eq_true rfl⟩) (he_preV (wc := [(oX10 x0 y0 ta z0 p0 dr pa to_ s0 im ki tr v0 rf), (oX6 p0 p1 p2 p3 p4 (nI w))]) hK hP hD hS hA hE [0, 2] rfl rfl 0 rfl rfl) rfl rfl hl.1 rfl (lv_room (Nat.le_of_ble_eq_true rfl)) dX10_corks_2 ⟨(Nat.le_of_ble_eq_true rfl), (Nat.le_of_ble_eq_true rfl)⟩) hP hD hS hA [0, 2] [1] rfl rfl rfl (by decide) (fun u_2 H locs h_3 hP hD hS => ?_)
  have hP : va_P g.1 vwCl [(aI g rf 3 rc), (oX10 x0 y0 ta z0 p0 dr pa to_ s0 im ki tr v0 rf), (oX6 p0 p1 p2 p3 p4 (nI w))] H := hP
  have hD : va_D A [(aI g rf 3 rc), (oX10 x0 y0 ta z0 p0 dr pa to_ s0 im ki tr v0 rf), (oX6 p0 p1 p2 p3 p4 (nI w))] := hD
  refine lv_aload_n hx hb dX10_corks_5 rfl (lv_at hl 0 rfl) ?_
  refine lv_iload_n hx hb dX10_corks_6 rfl (lv_at hl 1 rfl) ?_
  refine lv_iconst (v := 0) hx hb dX10_corks_7 (by decide) ?_
  refine lv_bipush (v := 119) hx hb dX10_corks_8 (by decide) ?_
  refine he_ci (wc := []) (wr := [(aI g rf 3 rc), (oX10 x0 y0 ta z0 p0 dr pa to_ s0 im ki tr v0 rf), (oX6 p0 p1 p2 p3 p4 (nI w))]) (va_runS (As := [.int x, .int 0, .int 119]) (rest := [.ref x0]) ⟨hx, hb, hml, hown, hts⟩ (c_X10_within l g x 0 119 H.size) (va_cwS 3 hts gX10_corks_X10_within rfl rfl rfl (by decide +kernel) ⟨Nat.le_of_ble_eq_true rfl, Nat.le_of_ble_eq_true rfl⟩) (he_preS (wc := []) hK hP hD hS hA hE [] rfl rfl) rfl rfl hl.1 rfl (lv_room (Nat.le_of_ble_eq_true rfl)) dX10_corks_10 ⟨(Nat.le_of_ble_eq_true rfl), (Nat.le_of_ble_eq_true rfl)⟩) hP hD hS hA [] [0, 1, 2] rfl rfl rfl (by decide) (fun r_4 u_5 H locs h_6 hP hD hS => ?_)
  subst h_6
  have hP : va_P g.1 vwCl [(aI g rf 3 rc), (oX10 x0 y0 ta z0 p0 dr pa to_ s0 im ki tr v0 rf), (oX6 p0 p1 p2 p3 p4 (nI w))] H := hP
  have hD : va_D A [(aI g rf 3 rc), (oX10 x0 y0 ta z0 p0 dr pa to_ s0 im ki tr v0 rf), (oX6 p0 p1 p2 p3 p4 (nI w))] := hD
  refine he_top (0) hbad ?_
  refine he_xv (En := "java/lang/IllegalArgumentException") (wx := [(oX10 x0 y0 ta z0 p0 dr pa to_ s0 im ki tr v0 rf), (aI g rf 3 (upd rc 2 (rc 2 + 1)))]) (wc := [(oX10 x0 y0 ta z0 p0 dr pa to_ s0 im ki tr v0 rf), (aI g rf 3 rc)]) (wr := [(oX6 p0 p1 p2 p3 p4 (nI w))]) (vx_runV (As := [.int 0]) (rest := []) ⟨hx, hb, hml, hown, hts⟩ (g_X10_demand0 l g x0 y0 z0 p0 dr pa s0 im tr v0 rf ta to_ ki rc hlt H.size) (cwV 1 hts gX10_corks_X10_demand rfl rfl rfl (by decide +kernel) ⟨Nat.le_of_ble_eq_true rfl, Nat.le_of_ble_eq_true rfl⟩) (he_preV (wc := [(oX10 x0 y0 ta z0 p0 dr pa to_ s0 im ki tr v0 rf), (aI g rf 3 rc)]) hK hP hD hS hA hE [1, 0] rfl rfl 1 rfl rfl) rfl rfl hl.1 rfl (lv_room (Nat.le_of_ble_eq_true rfl)) dX10_corks_13 ⟨(Nat.le_of_ble_eq_true rfl), (Nat.le_of_ble_eq_true rfl)⟩) hP hD hS hA [1, 0] [2] rfl rfl rfl (by decide) (fun ce q9 H locs hP hD hS hce hcv hcl => ?_)
  have hP : va_P g.1 vwCl [(oX6 p0 p1 p2 p3 p4 (nI w)), (oX10 x0 y0 ta z0 p0 dr pa to_ s0 im ki tr v0 rf), (aI g rf 3 (upd rc 2 (rc 2 + 1)))] H := hP
  have hD : va_D A [(oX6 p0 p1 p2 p3 p4 (nI w)), (oX10 x0 y0 ta z0 p0 dr pa to_ s0 im ki tr v0 rf), (aI g rf 3 (upd rc 2 (rc 2 + 1)))] := hD
  have hP := hP.sub (ws' := [(oX10 x0 y0 ta z0 p0 dr pa to_ s0 im ki tr v0 rf), (aI g rf 3 (upd rc 2 (rc 2 + 1))), (oX6 p0 p1 p2 p3 p4 (nI w))]) [1, 2, 0] rfl
  have hD := hD.sub (ws' := [(oX10 x0 y0 ta z0 p0 dr pa to_ s0 im ki tr v0 rf), (aI g rf 3 (upd rc 2 (rc 2 + 1))), (oX6 p0 p1 p2 p3 p4 (nI w))]) [1, 2, 0] (by decide) rfl
  exact he_out hQ hlk hne hP hD hS hce hcv hcl (Nat.le_of_ble_eq_true rfl) (Nat.le_of_ble_eq_true rfl)
set_option maxHeartbeats 4000000 in
set_option maxRecDepth 100000 in
theorem g_X10_siegeX (l : Launch) (g : he_G) (x0 : Nat) (y0 : Nat) (z0 : Nat) (p0 : Nat) (dr : Nat) (pa : Nat) (s0 : Nat) (im : Nat) (tr : Nat) (v0 : Nat) (rf : Nat) (ta : Int32) (to_ : Int32) (ki : Int32) (rc : Nat → Int32) (x : Int32) (hlt : l.stackTraces = false) (hbad : x < 0 ∨ ta < x) : he_T he_QTi l yX10_siege wsX10_siege 7 103 1 6 g [.ref x0, .int x] [(oX10 x0 y0 ta z0 p0 dr pa to_ s0 im ki tr v0 rf), (aI g rf 3 rc)] "java/lang/IllegalArgumentException" [(oX10 x0 y0 ta z0 p0 dr pa to_ s0 im ki tr v0 rf), (aI g rf 3 (upd rc 2 (rc 2 + 1)))] := by
  refine he_beginX (l := l) (g := g) (y := yX10_siege) (wl := wsX10_siege) (fr := 7) (lo := 103) (mc := 1) (ms := 6) (av := [.ref x0, .int x]) (ws := [(oX10 x0 y0 ta z0 p0 dr pa to_ s0 im ki tr v0 rf), (aI g rf 3 rc)]) (cc := cX10_siege) (maxL := 4) (ret := (some .int)) he_QTi (by decide) rfl (Nat.le_of_ble_eq_true rfl) ?_
  intro p e s m args below meth c A ls H locs Q hQ hne hB
  obtain ⟨hx, hb, hr, hml, hown, hts, hlk, hin, hP, hK, hD, hS, hA, hE, hl⟩ := hB
  have hl : lv_has ls 4 [(0, .ref x0), (1, .int x)] := hl
  have f73 := hts (.fieldLink RX10 73 "HiredEnemy" "taped" "I") (iwoX10_siege (k := 0) rfl)
  have inX10 : ∀ w ∈ wsX100, w ∈ wsX10_siege := innX10_siege_X10
  refine lv_aload_n hx hb dX10_siege_0 rfl (lv_at hl 0 rfl) ?_
  refine lv_iload_n hx hb dX10_siege_1 rfl (lv_at hl 1 rfl) ?_
  refine lv_if_lt (tgt := 17) hx hb dX10_siege_2 (by decide) (fun c_1 => ?_) (fun c_1 => ?_)
  · refine lv_iconst (v := 0) hx hb dX10_siege_17 (by decide) ?_
    refine he_xv (En := "java/lang/IllegalArgumentException") (wx := [(oX10 x0 y0 ta z0 p0 dr pa to_ s0 im ki tr v0 rf), (aI g rf 3 (upd rc 2 (rc 2 + 1)))]) (wc := [(oX10 x0 y0 ta z0 p0 dr pa to_ s0 im ki tr v0 rf), (aI g rf 3 rc)]) (wr := []) (vx_runV (As := [.int 0]) (rest := []) ⟨hx, hb, hml, hown, hts⟩ (g_X10_demand0 l g x0 y0 z0 p0 dr pa s0 im tr v0 rf ta to_ ki rc hlt H.size) (cwV 1 hts gX10_siege_X10_demand rfl rfl rfl (by decide +kernel) ⟨Nat.le_of_ble_eq_true rfl, Nat.le_of_ble_eq_true rfl⟩) (he_preV (wc := [(oX10 x0 y0 ta z0 p0 dr pa to_ s0 im ki tr v0 rf), (aI g rf 3 rc)]) hK hP hD hS hA hE [0, 1] rfl rfl 0 rfl rfl) rfl rfl hl.1 rfl (lv_room (Nat.le_of_ble_eq_true rfl)) dX10_siege_18 ⟨(Nat.le_of_ble_eq_true rfl), (Nat.le_of_ble_eq_true rfl)⟩) hP hD hS hA [0, 1] [] rfl rfl rfl (by decide) (fun ce q9 H locs hP hD hS hce hcv hcl => ?_)
    have hP : va_P g.1 vwCl [(oX10 x0 y0 ta z0 p0 dr pa to_ s0 im ki tr v0 rf), (aI g rf 3 (upd rc 2 (rc 2 + 1)))] H := hP
    have hD : va_D A [(oX10 x0 y0 ta z0 p0 dr pa to_ s0 im ki tr v0 rf), (aI g rf 3 (upd rc 2 (rc 2 + 1)))] := hD
    exact he_out hQ hlk hne hP hD hS hce hcv hcl (Nat.le_of_ble_eq_true rfl) (Nat.le_of_ble_eq_true rfl)
  · refine lv_iload_n hx hb dX10_siege_5 rfl (lv_at hl 1 rfl) ?_
    refine lv_aload_n hx hb dX10_siege_6 rfl (lv_at hl 0 rfl) ?_
    refine va_get (v := .int ta) (T := TX10) (N := 13) hx hb hts inX10 hown hK hP 0 rfl rfl 1 (by decide) f73 (fun _ h9 => h9) rfl dX10_siege_7 ?_
    refine lv_icmp_gt (tgt := 17) hx hb dX10_siege_10 (by decide) (fun c_2 => ?_) (fun c_2 => ?_)
    · refine lv_iconst (v := 0) hx hb dX10_siege_17 (by decide) ?_
      refine he_xv (En := "java/lang/IllegalArgumentException") (wx := [(oX10 x0 y0 ta z0 p0 dr pa to_ s0 im ki tr v0 rf), (aI g rf 3 (upd rc 2 (rc 2 + 1)))]) (wc := [(oX10 x0 y0 ta z0 p0 dr pa to_ s0 im ki tr v0 rf), (aI g rf 3 rc)]) (wr := []) (vx_runV (As := [.int 0]) (rest := []) ⟨hx, hb, hml, hown, hts⟩ (g_X10_demand0 l g x0 y0 z0 p0 dr pa s0 im tr v0 rf ta to_ ki rc hlt H.size) (cwV 1 hts gX10_siege_X10_demand rfl rfl rfl (by decide +kernel) ⟨Nat.le_of_ble_eq_true rfl, Nat.le_of_ble_eq_true rfl⟩) (he_preV (wc := [(oX10 x0 y0 ta z0 p0 dr pa to_ s0 im ki tr v0 rf), (aI g rf 3 rc)]) hK hP hD hS hA hE [0, 1] rfl rfl 0 rfl rfl) rfl rfl hl.1 rfl (lv_room (Nat.le_of_ble_eq_true rfl)) dX10_siege_18 ⟨(Nat.le_of_ble_eq_true rfl), (Nat.le_of_ble_eq_true rfl)⟩) hP hD hS hA [0, 1] [] rfl rfl rfl (by decide) (fun ce q9 H locs hP hD hS hce hcv hcl => ?_)
      have hP : va_P g.1 vwCl [(oX10 x0 y0 ta z0 p0 dr pa to_ s0 im ki tr v0 rf), (aI g rf 3 (upd rc 2 (rc 2 + 1)))] H := hP
      have hD : va_D A [(oX10 x0 y0 ta z0 p0 dr pa to_ s0 im ki tr v0 rf), (aI g rf 3 (upd rc 2 (rc 2 + 1)))] := hD
      exact he_out hQ hlk hne hP hD hS hce hcv hcl (Nat.le_of_ble_eq_true rfl) (Nat.le_of_ble_eq_true rfl)
    · refine lv_iconst (v := 1) hx hb dX10_siege_13 (by decide) ?_
      refine lv_goto (tgt := 18) hx hb dX10_siege_14 (by decide) ?_
      exact absurd hbad (by rintro (h9 | h9) <;> contradiction)
set_option maxHeartbeats 4000000 in
set_option maxRecDepth 100000 in
theorem g_X10_contractX (l : Launch) (g : he_G) (x0 : Nat) (y0 : Nat) (z0 : Nat) (p0 : Nat) (dr : Nat) (pa : Nat) (s0 : Nat) (im : Nat) (tr : Nat) (v0 : Nat) (rf : Nat) (ta : Int32) (to_ : Int32) (ki : Int32) (rc : Nat → Int32) (x : Int32) (hlt : l.stackTraces = false) (hbad : x < 0 ∨ ta < x ∨ 200 < x) : he_T he_QTi l yX10_contract wsX10_contract 7 103 1 6 g [.ref x0, .int x] [(oX10 x0 y0 ta z0 p0 dr pa to_ s0 im ki tr v0 rf), (aI g rf 3 rc)] "java/lang/IllegalArgumentException" [(oX10 x0 y0 ta z0 p0 dr pa to_ s0 im ki tr v0 rf), (aI g rf 3 (upd rc 2 (rc 2 + 1)))] := by
  refine he_beginX (l := l) (g := g) (y := yX10_contract) (wl := wsX10_contract) (fr := 7) (lo := 103) (mc := 1) (ms := 6) (av := [.ref x0, .int x]) (ws := [(oX10 x0 y0 ta z0 p0 dr pa to_ s0 im ki tr v0 rf), (aI g rf 3 rc)]) (cc := cX10_contract) (maxL := 4) (ret := (some .int)) he_QTi (by decide) rfl (Nat.le_of_ble_eq_true rfl) ?_
  intro p e s m args below meth c A ls H locs Q hQ hne hB
  obtain ⟨hx, hb, hr, hml, hown, hts, hlk, hin, hP, hK, hD, hS, hA, hE, hl⟩ := hB
  have hl : lv_has ls 4 [(0, .ref x0), (1, .int x)] := hl
  have f73 := hts (.fieldLink RX10 73 "HiredEnemy" "taped" "I") (iwoX10_contract (k := 0) rfl)
  have inX10 : ∀ w ∈ wsX100, w ∈ wsX10_contract := innX10_contract_X10
  refine lv_aload_n hx hb dX10_contract_0 rfl (lv_at hl 0 rfl) ?_
  refine lv_iload_n hx hb dX10_contract_1 rfl (lv_at hl 1 rfl) ?_
  refine lv_if_lt (tgt := 24) hx hb dX10_contract_2 (by decide) (fun c_1 => ?_) (fun c_1 => ?_)
  · refine lv_iconst (v := 0) hx hb dX10_contract_24 (by decide) ?_
    refine he_xv (En := "java/lang/IllegalArgumentException") (wx := [(oX10 x0 y0 ta z0 p0 dr pa to_ s0 im ki tr v0 rf), (aI g rf 3 (upd rc 2 (rc 2 + 1)))]) (wc := [(oX10 x0 y0 ta z0 p0 dr pa to_ s0 im ki tr v0 rf), (aI g rf 3 rc)]) (wr := []) (vx_runV (As := [.int 0]) (rest := []) ⟨hx, hb, hml, hown, hts⟩ (g_X10_demand0 l g x0 y0 z0 p0 dr pa s0 im tr v0 rf ta to_ ki rc hlt H.size) (cwV 1 hts gX10_contract_X10_demand rfl rfl rfl (by decide +kernel) ⟨Nat.le_of_ble_eq_true rfl, Nat.le_of_ble_eq_true rfl⟩) (he_preV (wc := [(oX10 x0 y0 ta z0 p0 dr pa to_ s0 im ki tr v0 rf), (aI g rf 3 rc)]) hK hP hD hS hA hE [0, 1] rfl rfl 0 rfl rfl) rfl rfl hl.1 rfl (lv_room (Nat.le_of_ble_eq_true rfl)) dX10_contract_25 ⟨(Nat.le_of_ble_eq_true rfl), (Nat.le_of_ble_eq_true rfl)⟩) hP hD hS hA [0, 1] [] rfl rfl rfl (by decide) (fun ce q9 H locs hP hD hS hce hcv hcl => ?_)
    have hP : va_P g.1 vwCl [(oX10 x0 y0 ta z0 p0 dr pa to_ s0 im ki tr v0 rf), (aI g rf 3 (upd rc 2 (rc 2 + 1)))] H := hP
    have hD : va_D A [(oX10 x0 y0 ta z0 p0 dr pa to_ s0 im ki tr v0 rf), (aI g rf 3 (upd rc 2 (rc 2 + 1)))] := hD
    exact he_out hQ hlk hne hP hD hS hce hcv hcl (Nat.le_of_ble_eq_true rfl) (Nat.le_of_ble_eq_true rfl)
  · refine lv_iload_n hx hb dX10_contract_5 rfl (lv_at hl 1 rfl) ?_
    refine lv_aload_n hx hb dX10_contract_6 rfl (lv_at hl 0 rfl) ?_
    refine va_get (v := .int ta) (T := TX10) (N := 13) hx hb hts inX10 hown hK hP 0 rfl rfl 1 (by decide) f73 (fun _ h9 => h9) rfl dX10_contract_7 ?_
    refine lv_icmp_gt (tgt := 24) hx hb dX10_contract_10 (by decide) (fun c_2 => ?_) (fun c_2 => ?_)
    · refine lv_iconst (v := 0) hx hb dX10_contract_24 (by decide) ?_
      refine he_xv (En := "java/lang/IllegalArgumentException") (wx := [(oX10 x0 y0 ta z0 p0 dr pa to_ s0 im ki tr v0 rf), (aI g rf 3 (upd rc 2 (rc 2 + 1)))]) (wc := [(oX10 x0 y0 ta z0 p0 dr pa to_ s0 im ki tr v0 rf), (aI g rf 3 rc)]) (wr := []) (vx_runV (As := [.int 0]) (rest := []) ⟨hx, hb, hml, hown, hts⟩ (g_X10_demand0 l g x0 y0 z0 p0 dr pa s0 im tr v0 rf ta to_ ki rc hlt H.size) (cwV 1 hts gX10_contract_X10_demand rfl rfl rfl (by decide +kernel) ⟨Nat.le_of_ble_eq_true rfl, Nat.le_of_ble_eq_true rfl⟩) (he_preV (wc := [(oX10 x0 y0 ta z0 p0 dr pa to_ s0 im ki tr v0 rf), (aI g rf 3 rc)]) hK hP hD hS hA hE [0, 1] rfl rfl 0 rfl rfl) rfl rfl hl.1 rfl (lv_room (Nat.le_of_ble_eq_true rfl)) dX10_contract_25 ⟨(Nat.le_of_ble_eq_true rfl), (Nat.le_of_ble_eq_true rfl)⟩) hP hD hS hA [0, 1] [] rfl rfl rfl (by decide) (fun ce q9 H locs hP hD hS hce hcv hcl => ?_)
      have hP : va_P g.1 vwCl [(oX10 x0 y0 ta z0 p0 dr pa to_ s0 im ki tr v0 rf), (aI g rf 3 (upd rc 2 (rc 2 + 1)))] H := hP
      have hD : va_D A [(oX10 x0 y0 ta z0 p0 dr pa to_ s0 im ki tr v0 rf), (aI g rf 3 (upd rc 2 (rc 2 + 1)))] := hD
      exact he_out hQ hlk hne hP hD hS hce hcv hcl (Nat.le_of_ble_eq_true rfl) (Nat.le_of_ble_eq_true rfl)
    · refine lv_iload_n hx hb dX10_contract_13 rfl (lv_at hl 1 rfl) ?_
      refine lv_sipush (v := 200) hx hb dX10_contract_14 (by decide) ?_
      refine lv_icmp_gt (tgt := 24) hx hb dX10_contract_17 (by decide) (fun c_3 => ?_) (fun c_3 => ?_)
      · refine lv_iconst (v := 0) hx hb dX10_contract_24 (by decide) ?_
        refine he_xv (En := "java/lang/IllegalArgumentException") (wx := [(oX10 x0 y0 ta z0 p0 dr pa to_ s0 im ki tr v0 rf), (aI g rf 3 (upd rc 2 (rc 2 + 1)))]) (wc := [(oX10 x0 y0 ta z0 p0 dr pa to_ s0 im ki tr v0 rf), (aI g rf 3 rc)]) (wr := []) (vx_runV (As := [.int 0]) (rest := []) ⟨hx, hb, hml, hown, hts⟩ (g_X10_demand0 l g x0 y0 z0 p0 dr pa s0 im tr v0 rf ta to_ ki rc hlt H.size) (cwV 1 hts gX10_contract_X10_demand rfl rfl rfl (by decide +kernel) ⟨Nat.le_of_ble_eq_true rfl, Nat.le_of_ble_eq_true rfl⟩) (he_preV (wc := [(oX10 x0 y0 ta z0 p0 dr pa to_ s0 im ki tr v0 rf), (aI g rf 3 rc)]) hK hP hD hS hA hE [0, 1] rfl rfl 0 rfl rfl) rfl rfl hl.1 rfl (lv_room (Nat.le_of_ble_eq_true rfl)) dX10_contract_25 ⟨(Nat.le_of_ble_eq_true rfl), (Nat.le_of_ble_eq_true rfl)⟩) hP hD hS hA [0, 1] [] rfl rfl rfl (by decide) (fun ce q9 H locs hP hD hS hce hcv hcl => ?_)
        have hP : va_P g.1 vwCl [(oX10 x0 y0 ta z0 p0 dr pa to_ s0 im ki tr v0 rf), (aI g rf 3 (upd rc 2 (rc 2 + 1)))] H := hP
        have hD : va_D A [(oX10 x0 y0 ta z0 p0 dr pa to_ s0 im ki tr v0 rf), (aI g rf 3 (upd rc 2 (rc 2 + 1)))] := hD
        exact he_out hQ hlk hne hP hD hS hce hcv hcl (Nat.le_of_ble_eq_true rfl) (Nat.le_of_ble_eq_true rfl)
      · refine lv_iconst (v := 1) hx hb dX10_contract_20 (by decide) ?_
        refine lv_goto (tgt := 25) hx hb dX10_contract_21 (by decide) ?_
        exact absurd hbad (by rintro (h9 | h9 | h9) <;> contradiction)
