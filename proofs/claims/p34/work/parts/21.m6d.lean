section
set_option maxHeartbeats 4000000 in
set_option maxRecDepth 100000 in
theorem h_X11_wants (l : Launch) (g : he_G) (m0 : Nat) (fd : Nat) (rfm : Nat) (rt_ : Nat) (to_ : Nat) (rw_ : Nat) (wa : Nat) (rk : Nat) (rb : Nat) (cn : Nat) (br : Nat) (sm : Nat) (as_ : Nat) (go : Nat) (sh_ : Nat) (ki : Nat) (tg : Nat) (of_ : Nat) (kp : Nat) (rs : Nat) (ta : Int32) (sz_ : Int32) (pl : Int32) (at_ : Int32) (fa : Int32) (fw : Int32) (cs : Int32) (ct : Int32) (ir : Int32) (oa : Int32) (ob : Int32) (th : Int32) (ig : Int32) (sp_ : Int32) (sf : Int32) (tw : Int32) (tl : Nat → Int32) (x : Int32) (y : Int32) (hok0 : ¬ he_within x 0 9 = 0) (hok1 : ¬ he_within y 0 99 = 0) : he_I l yX11_wants wsX11_wants 1 23 0 0 g [.ref m0, .int x, .int y] [(oX11 m0 tw ta sz_ pl at_ fa fw cs fd rfm rt_ to_ rw_ wa ct rk rb cn br sm as_ go sh_ ir oa ob th ig sp_ ki tg of_ kp sf rs), (aI g to_ 25 tl)] (fun (r : Int32) (u : Unit) => r = mwF tl x y) (fun (u : Unit) => [(oX11 m0 0 ta sz_ pl at_ fa fw cs fd rfm rt_ to_ rw_ wa ct rk rb cn br sm as_ go sh_ ir oa ob th ig sp_ ki tg of_ kp sf rs), (aI g to_ 25 tl)]) := by
  refine he_begin (l := l) (g := g) (y := yX11_wants) (wl := wsX11_wants) (fr := 1) (lo := 23) (mc := 0) (ms := 0) (av := [.ref m0, .int x, .int y]) (ws := [(oX11 m0 tw ta sz_ pl at_ fa fw cs fd rfm rt_ to_ rw_ wa ct rk rb cn br sm as_ go sh_ ir oa ob th ig sp_ ki tg of_ kp sf rs), (aI g to_ 25 tl)]) (cc := cX11_wants) (maxL := 3) (ret := (some .int)) (fun A => va_Qi (fun (r : Int32) (u : Unit) => r = mwF tl x y) (fun u t => he_post g A ((fun (u : Unit) => [(oX11 m0 0 ta sz_ pl at_ fa fw cs fd rfm rt_ to_ rw_ wa ct rk rb cn br sm as_ go sh_ ir oa ob th ig sp_ ki tg of_ kp sf rs), (aI g to_ 25 tl)]) u) t) A) (by decide) rfl (Nat.le_of_ble_eq_true rfl) ?_
  intro p e s m args below meth c A ls H locs Q hQ hB
  obtain ⟨hx, hb, hr, hml, hown, hts, hlk, hin, hP, hK, hD, hS, hA, hE, hl⟩ := hB
  have hl : lv_has ls 3 [(0, .ref m0), (1, .int x), (2, .int y)] := hl
  have f85 := hts (.fieldLink RX11 85 "HiredEnemyModel" "thrown" "I") (iwoX11_wants (k := 0) rfl)
  have inX11 : ∀ w ∈ wsX110, w ∈ wsX11_wants := innX11_wants_X11
  refine lv_aload_n hx hb dX11_wants_0 rfl (lv_at hl 0 rfl) ?_
  refine lv_iconst (v := 0) hx hb dX11_wants_1 (by decide) ?_
  refine va_put (v := .int 0) (ty := .int) (T := TX11) (N := 35) hx hb hts inX11 tyX11 tyX11_ok nmX11 hown hK hP hD hS 0 rfl rfl 0 (by decide) f85 (fun _ h9 => h9) rfl (by decide +kernel) rfl rfl (Nat.le_of_ble_eq_true rfl) dX11_wants_2 (fun H locs hP hD hS => ?_)
  have hP : va_P g.1 vwCl [(oX11 m0 0 ta sz_ pl at_ fa fw cs fd rfm rt_ to_ rw_ wa ct rk rb cn br sm as_ go sh_ ir oa ob th ig sp_ ki tg of_ kp sf rs), (aI g to_ 25 tl)] H := hP
  have hD : va_D A [(oX11 m0 0 ta sz_ pl at_ fa fw cs fd rfm rt_ to_ rw_ wa ct rk rb cn br sm as_ go sh_ ir oa ob th ig sp_ ki tg of_ kp sf rs), (aI g to_ 25 tl)] := hD
  refine lv_aload_n hx hb dX11_wants_5 rfl (lv_at hl 0 rfl) ?_
  refine lv_iload_n hx hb dX11_wants_6 rfl (lv_at hl 1 rfl) ?_
  refine lv_iconst (v := 0) hx hb dX11_wants_7 (by decide) ?_
  refine lv_bipush (v := 9) hx hb dX11_wants_8 (by decide) ?_
  refine he_ci (wc := []) (wr := [(oX11 m0 0 ta sz_ pl at_ fa fw cs fd rfm rt_ to_ rw_ wa ct rk rb cn br sm as_ go sh_ ir oa ob th ig sp_ ki tg of_ kp sf rs), (aI g to_ 25 tl)]) (va_runS (As := [.int x, .int 0, .int 9]) (rest := [.ref m0]) ⟨hx, hb, hml, hown, hts⟩ (c_X11_in l g x 0 9 H.size) (va_cwS 3 hts gX11_wants_X11_in rfl rfl rfl (by decide +kernel) ⟨Nat.le_of_ble_eq_true rfl, Nat.le_of_ble_eq_true rfl⟩) (he_preS (wc := []) hK hP hD hS hA hE [] rfl rfl) rfl rfl hl.1 rfl (lv_room (Nat.le_of_ble_eq_true rfl)) dX11_wants_10 ⟨(Nat.le_of_ble_eq_true rfl), (Nat.le_of_ble_eq_true rfl)⟩) hP hD hS hA [] [0, 1] rfl rfl rfl (by decide) (fun r_1 u_2 H locs h_3 hP hD hS => ?_)
  subst h_3
  have hP : va_P g.1 vwCl [(oX11 m0 0 ta sz_ pl at_ fa fw cs fd rfm rt_ to_ rw_ wa ct rk rb cn br sm as_ go sh_ ir oa ob th ig sp_ ki tg of_ kp sf rs), (aI g to_ 25 tl)] H := hP
  have hD : va_D A [(oX11 m0 0 ta sz_ pl at_ fa fw cs fd rfm rt_ to_ rw_ wa ct rk rb cn br sm as_ go sh_ ir oa ob th ig sp_ ki tg of_ kp sf rs), (aI g to_ 25 tl)] := hD
  refine he_top (1) (he_within_1 hok0) ?_
  refine lv_if_eq (tgt := 26) hx hb dX11_wants_13 (by decide) (fun c_4 => ?_) (fun c_4 => ?_)
  · exact absurd c_4 (by decide)
  · refine lv_iload_n hx hb dX11_wants_16 rfl (lv_at hl 2 rfl) ?_
    refine lv_iconst (v := 0) hx hb dX11_wants_17 (by decide) ?_
    refine lv_bipush (v := 99) hx hb dX11_wants_18 (by decide) ?_
    refine he_ci (wc := []) (wr := [(oX11 m0 0 ta sz_ pl at_ fa fw cs fd rfm rt_ to_ rw_ wa ct rk rb cn br sm as_ go sh_ ir oa ob th ig sp_ ki tg of_ kp sf rs), (aI g to_ 25 tl)]) (va_runS (As := [.int y, .int 0, .int 99]) (rest := [.ref m0]) ⟨hx, hb, hml, hown, hts⟩ (c_X11_in l g y 0 99 H.size) (va_cwS 3 hts gX11_wants_X11_in rfl rfl rfl (by decide +kernel) ⟨Nat.le_of_ble_eq_true rfl, Nat.le_of_ble_eq_true rfl⟩) (he_preS (wc := []) hK hP hD hS hA hE [] rfl rfl) rfl rfl hl.1 rfl (lv_room (Nat.le_of_ble_eq_true rfl)) dX11_wants_20 ⟨(Nat.le_of_ble_eq_true rfl), (Nat.le_of_ble_eq_true rfl)⟩) hP hD hS hA [] [0, 1] rfl rfl rfl (by decide) (fun r_5 u_6 H locs h_7 hP hD hS => ?_)
    subst h_7
    have hP : va_P g.1 vwCl [(oX11 m0 0 ta sz_ pl at_ fa fw cs fd rfm rt_ to_ rw_ wa ct rk rb cn br sm as_ go sh_ ir oa ob th ig sp_ ki tg of_ kp sf rs), (aI g to_ 25 tl)] H := hP
    have hD : va_D A [(oX11 m0 0 ta sz_ pl at_ fa fw cs fd rfm rt_ to_ rw_ wa ct rk rb cn br sm as_ go sh_ ir oa ob th ig sp_ ki tg of_ kp sf rs), (aI g to_ 25 tl)] := hD
    refine he_top (1) (he_within_1 hok1) ?_
    refine lv_if_ne (tgt := 30) hx hb dX11_wants_23 (by decide) (fun c_8 => ?_) (fun c_8 => ?_)
    · refine lv_iconst (v := 0) hx hb dX11_wants_30 (by decide) ?_
      refine lv_iconst (v := 1) hx hb dX11_wants_31 (by decide) ?_
      refine lv_iconst (v := 2) hx hb dX11_wants_32 (by decide) ?_
      refine he_ci (wc := [(oX11 m0 0 ta sz_ pl at_ fa fw cs fd rfm rt_ to_ rw_ wa ct rk rb cn br sm as_ go sh_ ir oa ob th ig sp_ ki tg of_ kp sf rs)]) (wr := [(aI g to_ 25 tl)]) (va_runV (As := [.int 0, .int 1, .int 2]) (rest := []) ⟨hx, hb, hml, hown, hts⟩ (c_X11_bad0 l g m0 fd rfm rt_ to_ rw_ wa rk rb cn br sm as_ go sh_ ki tg of_ kp rs ta sz_ pl at_ fa fw cs ct ir oa ob th ig sp_ sf 1 2 H.size) (cwV 3 hts gX11_wants_X11_bad rfl rfl rfl (by decide +kernel) ⟨Nat.le_of_ble_eq_true rfl, Nat.le_of_ble_eq_true rfl⟩) (he_preV (wc := [(oX11 m0 0 ta sz_ pl at_ fa fw cs fd rfm rt_ to_ rw_ wa ct rk rb cn br sm as_ go sh_ ir oa ob th ig sp_ ki tg of_ kp sf rs)]) hK hP hD hS hA hE [0] rfl rfl 0 rfl rfl) rfl rfl hl.1 rfl (lv_room (Nat.le_of_ble_eq_true rfl)) dX11_wants_33 ⟨(Nat.le_of_ble_eq_true rfl), (Nat.le_of_ble_eq_true rfl)⟩) hP hD hS hA [0] [1] rfl rfl rfl (by decide) (fun r_9 u_10 H locs h_11 hP hD hS => ?_)
      subst h_11
      have hP : va_P g.1 vwCl [(aI g to_ 25 tl), (oX11 m0 0 ta sz_ pl at_ fa fw cs fd rfm rt_ to_ rw_ wa ct rk rb cn br sm as_ go sh_ ir oa ob th ig sp_ ki tg of_ kp sf rs)] H := hP
      have hD : va_D A [(aI g to_ 25 tl), (oX11 m0 0 ta sz_ pl at_ fa fw cs fd rfm rt_ to_ rw_ wa ct rk rb cn br sm as_ go sh_ ir oa ob th ig sp_ ki tg of_ kp sf rs)] := hD
      refine lv_if_eq (tgt := 41) hx hb dX11_wants_36 (by decide) (fun c_12 => ?_) (fun c_12 => ?_)
      · refine lv_aload_n hx hb dX11_wants_41 rfl (lv_at hl 0 rfl) ?_
        refine lv_iload_n hx hb dX11_wants_42 rfl (lv_at hl 1 rfl) ?_
        refine lv_iload_n hx hb dX11_wants_43 rfl (lv_at hl 2 rfl) ?_
        refine he_ci (wc := [(oX11 m0 0 ta sz_ pl at_ fa fw cs fd rfm rt_ to_ rw_ wa ct rk rb cn br sm as_ go sh_ ir oa ob th ig sp_ ki tg of_ kp sf rs), (aI g to_ 25 tl)]) (wr := []) (va_runV (As := [.int x, .int y]) (rest := []) ⟨hx, hb, hml, hown, hts⟩ (c_X11_wantsFor l g m0 fd rfm rt_ to_ rw_ wa rk rb cn br sm as_ go sh_ ki tg of_ kp rs ta sz_ pl at_ fa fw cs ct ir oa ob th ig sp_ sf 0 tl x y H.size) (cwV 2 hts gX11_wants_X11_wantsFor rfl rfl rfl (by decide +kernel) ⟨Nat.le_of_ble_eq_true rfl, Nat.le_of_ble_eq_true rfl⟩) (he_preV (wc := [(oX11 m0 0 ta sz_ pl at_ fa fw cs fd rfm rt_ to_ rw_ wa ct rk rb cn br sm as_ go sh_ ir oa ob th ig sp_ ki tg of_ kp sf rs), (aI g to_ 25 tl)]) hK hP hD hS hA hE [1, 0] rfl rfl 1 rfl rfl) rfl rfl hl.1 rfl (lv_room (Nat.le_of_ble_eq_true rfl)) dX11_wants_44 ⟨(Nat.le_of_ble_eq_true rfl), (Nat.le_of_ble_eq_true rfl)⟩) hP hD hS hA [1, 0] [] rfl rfl rfl (by decide) (fun r_13 u_14 H locs h_15 hP hD hS => ?_)
        subst h_15
        have hP : va_P g.1 vwCl [(oX11 m0 0 ta sz_ pl at_ fa fw cs fd rfm rt_ to_ rw_ wa ct rk rb cn br sm as_ go sh_ ir oa ob th ig sp_ ki tg of_ kp sf rs), (aI g to_ 25 tl)] H := hP
        have hD : va_D A [(oX11 m0 0 ta sz_ pl at_ fa fw cs fd rfm rt_ to_ rw_ wa ct rk rb cn br sm as_ go sh_ ir oa ob th ig sp_ ki tg of_ kp sf rs), (aI g to_ 25 tl)] := hD
        exact he_ri hQ hx hb hr hlk hP hD hS dX11_wants_47 (Nat.le_of_ble_eq_true rfl) (Nat.le_of_ble_eq_true rfl) (()) (rfl) (rfl)
      · exact absurd (by decide) c_12
    · exact absurd c_8 (by decide)
set_option maxHeartbeats 4000000 in
set_option maxRecDepth 100000 in
theorem h_X11_signN (l : Launch) (g : he_G) (m0 : Nat) (fd : Nat) (rfm : Nat) (rt_ : Nat) (to_ : Nat) (rw_ : Nat) (wa : Nat) (rk : Nat) (rb : Nat) (cn : Nat) (br : Nat) (sm : Nat) (as_ : Nat) (go : Nat) (sh_ : Nat) (ki : Nat) (tg : Nat) (of_ : Nat) (kp : Nat) (rs : Nat) (ta : Int32) (sz_ : Int32) (pl : Int32) (at_ : Int32) (fa : Int32) (fw : Int32) (cs : Int32) (ct : Int32) (ir : Int32) (oa : Int32) (ob : Int32) (th : Int32) (ig : Int32) (sp_ : Int32) (sf : Int32) (tw : Int32) (f : Nat → Int32)  : he_I l yX11_sign wsX11_sign 1 23 0 0 g [.ref m0, .int (-1)] [(oX11 m0 tw ta sz_ pl at_ fa fw cs fd rfm rt_ to_ rw_ wa ct rk rb cn br sm as_ go sh_ ir oa ob th ig sp_ ki tg of_ kp sf rs), (aI g sm 25 f)] (fun (r : Int32) (u : Unit) => r = f 10) (fun (u : Unit) => [(oX11 m0 0 ta sz_ pl at_ fa fw cs fd rfm rt_ to_ rw_ wa ct rk rb cn br sm as_ go sh_ ir oa ob th ig sp_ ki tg of_ kp sf rs), (aI g sm 25 (sgF f (-1)))]) := by
  refine he_begin (l := l) (g := g) (y := yX11_sign) (wl := wsX11_sign) (fr := 1) (lo := 23) (mc := 0) (ms := 0) (av := [.ref m0, .int (-1)]) (ws := [(oX11 m0 tw ta sz_ pl at_ fa fw cs fd rfm rt_ to_ rw_ wa ct rk rb cn br sm as_ go sh_ ir oa ob th ig sp_ ki tg of_ kp sf rs), (aI g sm 25 f)]) (cc := cX11_sign) (maxL := 3) (ret := (some .int)) (fun A => va_Qi (fun (r : Int32) (u : Unit) => r = f 10) (fun u t => he_post g A ((fun (u : Unit) => [(oX11 m0 0 ta sz_ pl at_ fa fw cs fd rfm rt_ to_ rw_ wa ct rk rb cn br sm as_ go sh_ ir oa ob th ig sp_ ki tg of_ kp sf rs), (aI g sm 25 (sgF f (-1)))]) u) t) A) (by decide) rfl (Nat.le_of_ble_eq_true rfl) ?_
  intro p e s m args below meth c A ls H locs Q hQ hB
  obtain ⟨hx, hb, hr, hml, hown, hts, hlk, hin, hP, hK, hD, hS, hA, hE, hl⟩ := hB
  have hl : lv_has ls 3 [(0, .ref m0), (1, .int (-1))] := hl
  have f85 := hts (.fieldLink RX11 85 "HiredEnemyModel" "thrown" "I") (iwoX11_sign (k := 0) rfl)
  have inX11 : ∀ w ∈ wsX110, w ∈ wsX11_sign := innX11_sign_X11
  have f46 := hts (.fieldLink RX11 46 "HiredEnemyModel" "s" "[I") (iwoX11_sign (k := 1) rfl)
  refine lv_aload_n hx hb dX11_sign_0 rfl (lv_at hl 0 rfl) ?_
  refine lv_iconst (v := 0) hx hb dX11_sign_1 (by decide) ?_
  refine va_put (v := .int 0) (ty := .int) (T := TX11) (N := 35) hx hb hts inX11 tyX11 tyX11_ok nmX11 hown hK hP hD hS 0 rfl rfl 0 (by decide) f85 (fun _ h9 => h9) rfl (by decide +kernel) rfl rfl (Nat.le_of_ble_eq_true rfl) dX11_sign_2 (fun H locs hP hD hS => ?_)
  have hP : va_P g.1 vwCl [(oX11 m0 0 ta sz_ pl at_ fa fw cs fd rfm rt_ to_ rw_ wa ct rk rb cn br sm as_ go sh_ ir oa ob th ig sp_ ki tg of_ kp sf rs), (aI g sm 25 f)] H := hP
  have hD : va_D A [(oX11 m0 0 ta sz_ pl at_ fa fw cs fd rfm rt_ to_ rw_ wa ct rk rb cn br sm as_ go sh_ ir oa ob th ig sp_ ki tg of_ kp sf rs), (aI g sm 25 f)] := hD
  refine lv_aload_n hx hb dX11_sign_5 rfl (lv_at hl 0 rfl) ?_
  refine lv_iload_n hx hb dX11_sign_6 rfl (lv_at hl 1 rfl) ?_
  refine lv_iconst (v := (-1)) hx hb dX11_sign_7 (by decide) ?_
  refine lv_icmp_eq (tgt := 23) hx hb dX11_sign_8 (by decide) (fun c_1 => ?_) (fun c_1 => ?_)
  · refine lv_iconst (v := 0) hx hb dX11_sign_23 (by decide) ?_
    refine lv_iconst (v := 1) hx hb dX11_sign_24 (by decide) ?_
    refine lv_iconst (v := 0) hx hb dX11_sign_25 (by decide) ?_
    refine he_ci (wc := [(oX11 m0 0 ta sz_ pl at_ fa fw cs fd rfm rt_ to_ rw_ wa ct rk rb cn br sm as_ go sh_ ir oa ob th ig sp_ ki tg of_ kp sf rs)]) (wr := [(aI g sm 25 f)]) (va_runV (As := [.int 0, .int 1, .int 0]) (rest := []) ⟨hx, hb, hml, hown, hts⟩ (c_X11_bad0 l g m0 fd rfm rt_ to_ rw_ wa rk rb cn br sm as_ go sh_ ki tg of_ kp rs ta sz_ pl at_ fa fw cs ct ir oa ob th ig sp_ sf 1 0 H.size) (cwV 3 hts gX11_sign_X11_bad rfl rfl rfl (by decide +kernel) ⟨Nat.le_of_ble_eq_true rfl, Nat.le_of_ble_eq_true rfl⟩) (he_preV (wc := [(oX11 m0 0 ta sz_ pl at_ fa fw cs fd rfm rt_ to_ rw_ wa ct rk rb cn br sm as_ go sh_ ir oa ob th ig sp_ ki tg of_ kp sf rs)]) hK hP hD hS hA hE [0] rfl rfl 0 rfl rfl) rfl rfl hl.1 rfl (lv_room (Nat.le_of_ble_eq_true rfl)) dX11_sign_26 ⟨(Nat.le_of_ble_eq_true rfl), (Nat.le_of_ble_eq_true rfl)⟩) hP hD hS hA [0] [1] rfl rfl rfl (by decide) (fun r_2 u_3 H locs h_4 hP hD hS => ?_)
    subst h_4
    have hP : va_P g.1 vwCl [(aI g sm 25 f), (oX11 m0 0 ta sz_ pl at_ fa fw cs fd rfm rt_ to_ rw_ wa ct rk rb cn br sm as_ go sh_ ir oa ob th ig sp_ ki tg of_ kp sf rs)] H := hP
    have hD : va_D A [(aI g sm 25 f), (oX11 m0 0 ta sz_ pl at_ fa fw cs fd rfm rt_ to_ rw_ wa ct rk rb cn br sm as_ go sh_ ir oa ob th ig sp_ ki tg of_ kp sf rs)] := hD
    refine lv_if_eq (tgt := 34) hx hb dX11_sign_29 (by decide) (fun c_5 => ?_) (fun c_5 => ?_)
    · refine lv_aload_n hx hb dX11_sign_34 rfl (lv_at hl 0 rfl) ?_
      refine va_get (v := .ref sm) (T := TX11) (N := 35) hx hb hts inX11 hown hK hP 1 rfl rfl 19 (by decide) f46 (fun _ h9 => h9) rfl dX11_sign_35 ?_
      refine lv_bipush (v := 10) hx hb dX11_sign_38 (by decide) ?_
      refine he_iald hx hb hK hP 0 rfl (10) (by decide) (by decide) (by first | decide | assumption) (f 10) rfl dX11_sign_40 ?_
      refine lv_istore_n (lv' := [(2, .int (f 10)), (0, .ref m0), (1, .int (-1))]) hx hb dX11_sign_41 rfl hl (by decide) rfl (fun ls hl => ?_)
      refine lv_aload_n hx hb dX11_sign_42 rfl (lv_at hl 1 rfl) ?_
      refine lv_iload_n hx hb dX11_sign_43 rfl (lv_at hl 2 rfl) ?_
      refine he_cv (wc := [(oX11 m0 0 ta sz_ pl at_ fa fw cs fd rfm rt_ to_ rw_ wa ct rk rb cn br sm as_ go sh_ ir oa ob th ig sp_ ki tg of_ kp sf rs), (aI g sm 25 f)]) (wr := []) (va_runV (As := [.int (-1)]) (rest := []) ⟨hx, hb, hml, hown, hts⟩ (c_X11_signs l g m0 fd rfm rt_ to_ rw_ wa rk rb cn br sm as_ go sh_ ki tg of_ kp rs ta sz_ pl at_ fa fw cs ct ir oa ob th ig sp_ sf 0 f (-1) H.size) (cwV 1 hts gX11_sign_X11_signs rfl rfl rfl (by decide +kernel) ⟨Nat.le_of_ble_eq_true rfl, Nat.le_of_ble_eq_true rfl⟩) (he_preV (wc := [(oX11 m0 0 ta sz_ pl at_ fa fw cs fd rfm rt_ to_ rw_ wa ct rk rb cn br sm as_ go sh_ ir oa ob th ig sp_ ki tg of_ kp sf rs), (aI g sm 25 f)]) hK hP hD hS hA hE [1, 0] rfl rfl 1 rfl rfl) rfl rfl hl.1 rfl (lv_room (Nat.le_of_ble_eq_true rfl)) dX11_sign_44 ⟨(Nat.le_of_ble_eq_true rfl), (Nat.le_of_ble_eq_true rfl)⟩) hP hD hS hA [1, 0] [] rfl rfl rfl (by decide) (fun u_7 H locs h_8 hP hD hS => ?_)
      have hP : va_P g.1 vwCl [(oX11 m0 0 ta sz_ pl at_ fa fw cs fd rfm rt_ to_ rw_ wa ct rk rb cn br sm as_ go sh_ ir oa ob th ig sp_ ki tg of_ kp sf rs), (aI g sm 25 (sgF f (-1)))] H := hP
      have hD : va_D A [(oX11 m0 0 ta sz_ pl at_ fa fw cs fd rfm rt_ to_ rw_ wa ct rk rb cn br sm as_ go sh_ ir oa ob th ig sp_ ki tg of_ kp sf rs), (aI g sm 25 (sgF f (-1)))] := hD
      refine lv_iload_n hx hb dX11_sign_47 rfl (lv_at hl 0 rfl) ?_
      exact he_ri hQ hx hb hr hlk hP hD hS dX11_sign_48 (Nat.le_of_ble_eq_true rfl) (Nat.le_of_ble_eq_true rfl) (()) (rfl) (rfl)
    · exact absurd (by decide) c_5
  · exact absurd (by decide) c_1
set_option maxHeartbeats 4000000 in
set_option maxRecDepth 100000 in
theorem h_X11_sign (l : Launch) (g : he_G) (m0 : Nat) (fd : Nat) (rfm : Nat) (rt_ : Nat) (to_ : Nat) (rw_ : Nat) (wa : Nat) (rk : Nat) (rb : Nat) (cn : Nat) (br : Nat) (sm : Nat) (as_ : Nat) (go : Nat) (sh_ : Nat) (ki : Nat) (tg : Nat) (of_ : Nat) (kp : Nat) (rs : Nat) (ta : Int32) (sz_ : Int32) (pl : Int32) (at_ : Int32) (fa : Int32) (fw : Int32) (cs : Int32) (ir : Int32) (oa : Int32) (ob : Int32) (th : Int32) (ig : Int32) (sp_ : Int32) (sf : Int32) (tw : Int32) (nt : Nat) (f : Nat → Int32) (ci : Nat) (hci : ci < nt) (hnt : nt ≤ 6) : he_I l yX11_sign wsX11_sign 2 43 0 0 g [.ref m0, .int (nI ci)] [(oX11 m0 tw ta sz_ pl at_ fa fw cs fd rfm rt_ to_ rw_ wa (nI nt) rk rb cn br sm as_ go sh_ ir oa ob th ig sp_ ki tg of_ kp sf rs), (aI g sm 25 f)] (fun (r : Int32) (u : Unit) => r = f 10) (fun (u : Unit) => [(oX11 m0 0 ta sz_ pl at_ fa fw cs fd rfm rt_ to_ rw_ wa (nI nt) rk rb cn br sm as_ go sh_ ir oa ob th ig sp_ ki tg of_ kp sf rs), (aI g sm 25 (sgF f (nI ci)))]) := by
  refine he_begin (l := l) (g := g) (y := yX11_sign) (wl := wsX11_sign) (fr := 2) (lo := 43) (mc := 0) (ms := 0) (av := [.ref m0, .int (nI ci)]) (ws := [(oX11 m0 tw ta sz_ pl at_ fa fw cs fd rfm rt_ to_ rw_ wa (nI nt) rk rb cn br sm as_ go sh_ ir oa ob th ig sp_ ki tg of_ kp sf rs), (aI g sm 25 f)]) (cc := cX11_sign) (maxL := 3) (ret := (some .int)) (fun A => va_Qi (fun (r : Int32) (u : Unit) => r = f 10) (fun u t => he_post g A ((fun (u : Unit) => [(oX11 m0 0 ta sz_ pl at_ fa fw cs fd rfm rt_ to_ rw_ wa (nI nt) rk rb cn br sm as_ go sh_ ir oa ob th ig sp_ ki tg of_ kp sf rs), (aI g sm 25 (sgF f (nI ci)))]) u) t) A) (by decide) rfl (Nat.le_of_ble_eq_true rfl) ?_
  intro p e s m args below meth c A ls H locs Q hQ hB
  obtain ⟨hx, hb, hr, hml, hown, hts, hlk, hin, hP, hK, hD, hS, hA, hE, hl⟩ := hB
  have hl : lv_has ls 3 [(0, .ref m0), (1, .int (nI ci))] := hl
  have f85 := hts (.fieldLink RX11 85 "HiredEnemyModel" "thrown" "I") (iwoX11_sign (k := 0) rfl)
  have inX11 : ∀ w ∈ wsX110, w ∈ wsX11_sign := innX11_sign_X11
  have f46 := hts (.fieldLink RX11 46 "HiredEnemyModel" "s" "[I") (iwoX11_sign (k := 1) rfl)
  refine lv_aload_n hx hb dX11_sign_0 rfl (lv_at hl 0 rfl) ?_
  refine lv_iconst (v := 0) hx hb dX11_sign_1 (by decide) ?_
  refine va_put (v := .int 0) (ty := .int) (T := TX11) (N := 35) hx hb hts inX11 tyX11 tyX11_ok nmX11 hown hK hP hD hS 0 rfl rfl 0 (by decide) f85 (fun _ h9 => h9) rfl (by decide +kernel) rfl rfl (Nat.le_of_ble_eq_true rfl) dX11_sign_2 (fun H locs hP hD hS => ?_)
  have hP : va_P g.1 vwCl [(oX11 m0 0 ta sz_ pl at_ fa fw cs fd rfm rt_ to_ rw_ wa (nI nt) rk rb cn br sm as_ go sh_ ir oa ob th ig sp_ ki tg of_ kp sf rs), (aI g sm 25 f)] H := hP
  have hD : va_D A [(oX11 m0 0 ta sz_ pl at_ fa fw cs fd rfm rt_ to_ rw_ wa (nI nt) rk rb cn br sm as_ go sh_ ir oa ob th ig sp_ ki tg of_ kp sf rs), (aI g sm 25 f)] := hD
  refine lv_aload_n hx hb dX11_sign_5 rfl (lv_at hl 0 rfl) ?_
  refine lv_iload_n hx hb dX11_sign_6 rfl (lv_at hl 1 rfl) ?_
  refine lv_iconst (v := (-1)) hx hb dX11_sign_7 (by decide) ?_
  refine lv_icmp_eq (tgt := 23) hx hb dX11_sign_8 (by decide) (fun c_1 => ?_) (fun c_1 => ?_)
  · exact absurd c_1 (nI_nm1 (by omega))
  · refine lv_aload_n hx hb dX11_sign_11 rfl (lv_at hl 0 rfl) ?_
    refine lv_iload_n hx hb dX11_sign_12 rfl (lv_at hl 1 rfl) ?_
    refine he_ci (wc := [(oX11 m0 0 ta sz_ pl at_ fa fw cs fd rfm rt_ to_ rw_ wa (nI nt) rk rb cn br sm as_ go sh_ ir oa ob th ig sp_ ki tg of_ kp sf rs)]) (wr := [(aI g sm 25 f)]) (va_runV (As := [.int (nI ci)]) (rest := [.ref m0]) ⟨hx, hb, hml, hown, hts⟩ (h_X11_isContract l g m0 fd rfm rt_ to_ rw_ wa rk rb cn br sm as_ go sh_ ki tg of_ kp rs ta sz_ pl at_ fa fw cs (nI nt) ir oa ob th ig sp_ sf 0 (nI ci) H.size) (cwV 1 hts gX11_sign_X11_isContract rfl rfl rfl (by decide +kernel) ⟨Nat.le_of_ble_eq_true rfl, Nat.le_of_ble_eq_true rfl⟩) (he_preV (wc := [(oX11 m0 0 ta sz_ pl at_ fa fw cs fd rfm rt_ to_ rw_ wa (nI nt) rk rb cn br sm as_ go sh_ ir oa ob th ig sp_ ki tg of_ kp sf rs)]) hK hP hD hS hA hE [0] rfl rfl 0 rfl rfl) rfl rfl hl.1 rfl (lv_room (Nat.le_of_ble_eq_true rfl)) dX11_sign_13 ⟨(Nat.le_of_ble_eq_true rfl), (Nat.le_of_ble_eq_true rfl)⟩) hP hD hS hA [0] [1] rfl rfl rfl (by decide) (fun r_2 u_3 H locs h_4 hP hD hS => ?_)
    subst h_4
    have hP : va_P g.1 vwCl [(aI g sm 25 f), (oX11 m0 0 ta sz_ pl at_ fa fw cs fd rfm rt_ to_ rw_ wa (nI nt) rk rb cn br sm as_ go sh_ ir oa ob th ig sp_ ki tg of_ kp sf rs)] H := hP
    have hD : va_D A [(aI g sm 25 f), (oX11 m0 0 ta sz_ pl at_ fa fw cs fd rfm rt_ to_ rw_ wa (nI nt) rk rb cn br sm as_ go sh_ ir oa ob th ig sp_ ki tg of_ kp sf rs)] := hD
    refine he_top (1) (he_within_1 (wall_in hci (by omega))) ?_
    refine lv_if_ne (tgt := 23) hx hb dX11_sign_16 (by decide) (fun c_5 => ?_) (fun c_5 => ?_)
    · refine lv_iconst (v := 0) hx hb dX11_sign_23 (by decide) ?_
      refine lv_iconst (v := 1) hx hb dX11_sign_24 (by decide) ?_
      refine lv_iconst (v := 0) hx hb dX11_sign_25 (by decide) ?_
      refine he_ci (wc := [(oX11 m0 0 ta sz_ pl at_ fa fw cs fd rfm rt_ to_ rw_ wa (nI nt) rk rb cn br sm as_ go sh_ ir oa ob th ig sp_ ki tg of_ kp sf rs)]) (wr := [(aI g sm 25 f)]) (va_runV (As := [.int 0, .int 1, .int 0]) (rest := []) ⟨hx, hb, hml, hown, hts⟩ (c_X11_bad0 l g m0 fd rfm rt_ to_ rw_ wa rk rb cn br sm as_ go sh_ ki tg of_ kp rs ta sz_ pl at_ fa fw cs (nI nt) ir oa ob th ig sp_ sf 1 0 H.size) (cwV 3 hts gX11_sign_X11_bad rfl rfl rfl (by decide +kernel) ⟨Nat.le_of_ble_eq_true rfl, Nat.le_of_ble_eq_true rfl⟩) (he_preV (wc := [(oX11 m0 0 ta sz_ pl at_ fa fw cs fd rfm rt_ to_ rw_ wa (nI nt) rk rb cn br sm as_ go sh_ ir oa ob th ig sp_ ki tg of_ kp sf rs)]) hK hP hD hS hA hE [1] rfl rfl 1 rfl rfl) rfl rfl hl.1 rfl (lv_room (Nat.le_of_ble_eq_true rfl)) dX11_sign_26 ⟨(Nat.le_of_ble_eq_true rfl), (Nat.le_of_ble_eq_true rfl)⟩) hP hD hS hA [1] [0] rfl rfl rfl (by decide) (fun r_6 u_7 H locs h_8 hP hD hS => ?_)
      subst h_8
      have hP : va_P g.1 vwCl [(aI g sm 25 f), (oX11 m0 0 ta sz_ pl at_ fa fw cs fd rfm rt_ to_ rw_ wa (nI nt) rk rb cn br sm as_ go sh_ ir oa ob th ig sp_ ki tg of_ kp sf rs)] H := hP
      have hD : va_D A [(aI g sm 25 f), (oX11 m0 0 ta sz_ pl at_ fa fw cs fd rfm rt_ to_ rw_ wa (nI nt) rk rb cn br sm as_ go sh_ ir oa ob th ig sp_ ki tg of_ kp sf rs)] := hD
      refine lv_if_eq (tgt := 34) hx hb dX11_sign_29 (by decide) (fun c_9 => ?_) (fun c_9 => ?_)
      · refine lv_aload_n hx hb dX11_sign_34 rfl (lv_at hl 0 rfl) ?_
        refine va_get (v := .ref sm) (T := TX11) (N := 35) hx hb hts inX11 hown hK hP 1 rfl rfl 19 (by decide) f46 (fun _ h9 => h9) rfl dX11_sign_35 ?_
        refine lv_bipush (v := 10) hx hb dX11_sign_38 (by decide) ?_
        refine he_iald hx hb hK hP 0 rfl (10) (by decide) (by decide) (by first | decide | assumption) (f 10) rfl dX11_sign_40 ?_
        refine lv_istore_n (lv' := [(2, .int (f 10)), (0, .ref m0), (1, .int (nI ci))]) hx hb dX11_sign_41 rfl hl (by decide) rfl (fun ls hl => ?_)
        refine lv_aload_n hx hb dX11_sign_42 rfl (lv_at hl 1 rfl) ?_
        refine lv_iload_n hx hb dX11_sign_43 rfl (lv_at hl 2 rfl) ?_
        refine he_cv (wc := [(oX11 m0 0 ta sz_ pl at_ fa fw cs fd rfm rt_ to_ rw_ wa (nI nt) rk rb cn br sm as_ go sh_ ir oa ob th ig sp_ ki tg of_ kp sf rs), (aI g sm 25 f)]) (wr := []) (va_runV (As := [.int (nI ci)]) (rest := []) ⟨hx, hb, hml, hown, hts⟩ (c_X11_signs l g m0 fd rfm rt_ to_ rw_ wa rk rb cn br sm as_ go sh_ ki tg of_ kp rs ta sz_ pl at_ fa fw cs (nI nt) ir oa ob th ig sp_ sf 0 f (nI ci) H.size) (cwV 1 hts gX11_sign_X11_signs rfl rfl rfl (by decide +kernel) ⟨Nat.le_of_ble_eq_true rfl, Nat.le_of_ble_eq_true rfl⟩) (he_preV (wc := [(oX11 m0 0 ta sz_ pl at_ fa fw cs fd rfm rt_ to_ rw_ wa (nI nt) rk rb cn br sm as_ go sh_ ir oa ob th ig sp_ ki tg of_ kp sf rs), (aI g sm 25 f)]) hK hP hD hS hA hE [1, 0] rfl rfl 1 rfl rfl) rfl rfl hl.1 rfl (lv_room (Nat.le_of_ble_eq_true rfl)) dX11_sign_44 ⟨(Nat.le_of_ble_eq_true rfl), (Nat.le_of_ble_eq_true rfl)⟩) hP hD hS hA [1, 0] [] rfl rfl rfl (by decide) (fun u_11 H locs h_12 hP hD hS => ?_)
        have hP : va_P g.1 vwCl [(oX11 m0 0 ta sz_ pl at_ fa fw cs fd rfm rt_ to_ rw_ wa (nI nt) rk rb cn br sm as_ go sh_ ir oa ob th ig sp_ ki tg of_ kp sf rs), (aI g sm 25 (sgF f (nI ci)))] H := hP
        have hD : va_D A [(oX11 m0 0 ta sz_ pl at_ fa fw cs fd rfm rt_ to_ rw_ wa (nI nt) rk rb cn br sm as_ go sh_ ir oa ob th ig sp_ ki tg of_ kp sf rs), (aI g sm 25 (sgF f (nI ci)))] := hD
        refine lv_iload_n hx hb dX11_sign_47 rfl (lv_at hl 0 rfl) ?_
        exact he_ri hQ hx hb hr hlk hP hD hS dX11_sign_48 (Nat.le_of_ble_eq_true rfl) (Nat.le_of_ble_eq_true rfl) (()) (rfl) (rfl)
      · exact absurd (by decide) c_9
    · exact absurd c_5 (by decide)
set_option maxHeartbeats 4000000 in
set_option maxRecDepth 100000 in
theorem h_X11_sums (l : Launch) (g : he_G) (m0 : Nat) (fd : Nat) (rfm : Nat) (rt_ : Nat) (to_ : Nat) (rw_ : Nat) (wa : Nat) (rk : Nat) (rb : Nat) (cn : Nat) (br : Nat) (sm : Nat) (as_ : Nat) (go : Nat) (sh_ : Nat) (ki : Nat) (tg : Nat) (of_ : Nat) (kp : Nat) (rs : Nat) (ta : Int32) (sz_ : Int32) (pl : Int32) (at_ : Int32) (fa : Int32) (fw : Int32) (cs : Int32) (ct : Int32) (ir : Int32) (oa : Int32) (ob : Int32) (th : Int32) (ig : Int32) (sp_ : Int32) (sf : Int32) (tw : Int32) (f : Nat → Int32) (x : Int32) (hok0 : ¬ he_within x 0 9 = 0) : he_I l yX11_sums wsX11_sums 1 23 0 0 g [.ref m0, .int x] [(oX11 m0 tw ta sz_ pl at_ fa fw cs fd rfm rt_ to_ rw_ wa ct rk rb cn br sm as_ go sh_ ir oa ob th ig sp_ ki tg of_ kp sf rs), (aI g sm 25 f)] (fun (r : Int32) (u : Unit) => r = f x.toNatClampNeg) (fun (u : Unit) => [(oX11 m0 0 ta sz_ pl at_ fa fw cs fd rfm rt_ to_ rw_ wa ct rk rb cn br sm as_ go sh_ ir oa ob th ig sp_ ki tg of_ kp sf rs), (aI g sm 25 f)]) := by
  refine he_begin (l := l) (g := g) (y := yX11_sums) (wl := wsX11_sums) (fr := 1) (lo := 23) (mc := 0) (ms := 0) (av := [.ref m0, .int x]) (ws := [(oX11 m0 tw ta sz_ pl at_ fa fw cs fd rfm rt_ to_ rw_ wa ct rk rb cn br sm as_ go sh_ ir oa ob th ig sp_ ki tg of_ kp sf rs), (aI g sm 25 f)]) (cc := cX11_sums) (maxL := 2) (ret := (some .int)) (fun A => va_Qi (fun (r : Int32) (u : Unit) => r = f x.toNatClampNeg) (fun u t => he_post g A ((fun (u : Unit) => [(oX11 m0 0 ta sz_ pl at_ fa fw cs fd rfm rt_ to_ rw_ wa ct rk rb cn br sm as_ go sh_ ir oa ob th ig sp_ ki tg of_ kp sf rs), (aI g sm 25 f)]) u) t) A) (by decide) rfl (Nat.le_of_ble_eq_true rfl) ?_
  intro p e s m args below meth c A ls H locs Q hQ hB
  obtain ⟨hx, hb, hr, hml, hown, hts, hlk, hin, hP, hK, hD, hS, hA, hE, hl⟩ := hB
  have hl : lv_has ls 2 [(0, .ref m0), (1, .int x)] := hl
  have f85 := hts (.fieldLink RX11 85 "HiredEnemyModel" "thrown" "I") (iwoX11_sums (k := 0) rfl)
  have inX11 : ∀ w ∈ wsX110, w ∈ wsX11_sums := innX11_sums_X11
  have f46 := hts (.fieldLink RX11 46 "HiredEnemyModel" "s" "[I") (iwoX11_sums (k := 1) rfl)
  refine lv_aload_n hx hb dX11_sums_0 rfl (lv_at hl 0 rfl) ?_
  refine lv_iconst (v := 0) hx hb dX11_sums_1 (by decide) ?_
  refine va_put (v := .int 0) (ty := .int) (T := TX11) (N := 35) hx hb hts inX11 tyX11 tyX11_ok nmX11 hown hK hP hD hS 0 rfl rfl 0 (by decide) f85 (fun _ h9 => h9) rfl (by decide +kernel) rfl rfl (Nat.le_of_ble_eq_true rfl) dX11_sums_2 (fun H locs hP hD hS => ?_)
  have hP : va_P g.1 vwCl [(oX11 m0 0 ta sz_ pl at_ fa fw cs fd rfm rt_ to_ rw_ wa ct rk rb cn br sm as_ go sh_ ir oa ob th ig sp_ ki tg of_ kp sf rs), (aI g sm 25 f)] H := hP
  have hD : va_D A [(oX11 m0 0 ta sz_ pl at_ fa fw cs fd rfm rt_ to_ rw_ wa ct rk rb cn br sm as_ go sh_ ir oa ob th ig sp_ ki tg of_ kp sf rs), (aI g sm 25 f)] := hD
  refine lv_aload_n hx hb dX11_sums_5 rfl (lv_at hl 0 rfl) ?_
  refine lv_iload_n hx hb dX11_sums_6 rfl (lv_at hl 1 rfl) ?_
  refine lv_iconst (v := 0) hx hb dX11_sums_7 (by decide) ?_
  refine lv_bipush (v := 9) hx hb dX11_sums_8 (by decide) ?_
  refine he_ci (wc := []) (wr := [(oX11 m0 0 ta sz_ pl at_ fa fw cs fd rfm rt_ to_ rw_ wa ct rk rb cn br sm as_ go sh_ ir oa ob th ig sp_ ki tg of_ kp sf rs), (aI g sm 25 f)]) (va_runS (As := [.int x, .int 0, .int 9]) (rest := [.ref m0]) ⟨hx, hb, hml, hown, hts⟩ (c_X11_in l g x 0 9 H.size) (va_cwS 3 hts gX11_sums_X11_in rfl rfl rfl (by decide +kernel) ⟨Nat.le_of_ble_eq_true rfl, Nat.le_of_ble_eq_true rfl⟩) (he_preS (wc := []) hK hP hD hS hA hE [] rfl rfl) rfl rfl hl.1 rfl (lv_room (Nat.le_of_ble_eq_true rfl)) dX11_sums_10 ⟨(Nat.le_of_ble_eq_true rfl), (Nat.le_of_ble_eq_true rfl)⟩) hP hD hS hA [] [0, 1] rfl rfl rfl (by decide) (fun r_1 u_2 H locs h_3 hP hD hS => ?_)
  subst h_3
  have hP : va_P g.1 vwCl [(oX11 m0 0 ta sz_ pl at_ fa fw cs fd rfm rt_ to_ rw_ wa ct rk rb cn br sm as_ go sh_ ir oa ob th ig sp_ ki tg of_ kp sf rs), (aI g sm 25 f)] H := hP
  have hD : va_D A [(oX11 m0 0 ta sz_ pl at_ fa fw cs fd rfm rt_ to_ rw_ wa ct rk rb cn br sm as_ go sh_ ir oa ob th ig sp_ ki tg of_ kp sf rs), (aI g sm 25 f)] := hD
  refine he_top (1) (he_within_1 hok0) ?_
  refine lv_if_ne (tgt := 20) hx hb dX11_sums_13 (by decide) (fun c_4 => ?_) (fun c_4 => ?_)
  · refine lv_iconst (v := 0) hx hb dX11_sums_20 (by decide) ?_
    refine lv_iconst (v := 1) hx hb dX11_sums_21 (by decide) ?_
    refine lv_iconst (v := 2) hx hb dX11_sums_22 (by decide) ?_
    refine he_ci (wc := [(oX11 m0 0 ta sz_ pl at_ fa fw cs fd rfm rt_ to_ rw_ wa ct rk rb cn br sm as_ go sh_ ir oa ob th ig sp_ ki tg of_ kp sf rs)]) (wr := [(aI g sm 25 f)]) (va_runV (As := [.int 0, .int 1, .int 2]) (rest := []) ⟨hx, hb, hml, hown, hts⟩ (c_X11_bad0 l g m0 fd rfm rt_ to_ rw_ wa rk rb cn br sm as_ go sh_ ki tg of_ kp rs ta sz_ pl at_ fa fw cs ct ir oa ob th ig sp_ sf 1 2 H.size) (cwV 3 hts gX11_sums_X11_bad rfl rfl rfl (by decide +kernel) ⟨Nat.le_of_ble_eq_true rfl, Nat.le_of_ble_eq_true rfl⟩) (he_preV (wc := [(oX11 m0 0 ta sz_ pl at_ fa fw cs fd rfm rt_ to_ rw_ wa ct rk rb cn br sm as_ go sh_ ir oa ob th ig sp_ ki tg of_ kp sf rs)]) hK hP hD hS hA hE [0] rfl rfl 0 rfl rfl) rfl rfl hl.1 rfl (lv_room (Nat.le_of_ble_eq_true rfl)) dX11_sums_23 ⟨(Nat.le_of_ble_eq_true rfl), (Nat.le_of_ble_eq_true rfl)⟩) hP hD hS hA [0] [1] rfl rfl rfl (by decide) (fun r_5 u_6 H locs h_7 hP hD hS => ?_)
    subst h_7
    have hP : va_P g.1 vwCl [(aI g sm 25 f), (oX11 m0 0 ta sz_ pl at_ fa fw cs fd rfm rt_ to_ rw_ wa ct rk rb cn br sm as_ go sh_ ir oa ob th ig sp_ ki tg of_ kp sf rs)] H := hP
    have hD : va_D A [(aI g sm 25 f), (oX11 m0 0 ta sz_ pl at_ fa fw cs fd rfm rt_ to_ rw_ wa ct rk rb cn br sm as_ go sh_ ir oa ob th ig sp_ ki tg of_ kp sf rs)] := hD
    refine lv_if_eq (tgt := 31) hx hb dX11_sums_26 (by decide) (fun c_8 => ?_) (fun c_8 => ?_)
    · refine lv_aload_n hx hb dX11_sums_31 rfl (lv_at hl 0 rfl) ?_
      refine va_get (v := .ref sm) (T := TX11) (N := 35) hx hb hts inX11 hown hK hP 1 rfl rfl 19 (by decide) f46 (fun _ h9 => h9) rfl dX11_sums_32 ?_
      refine lv_iload_n hx hb dX11_sums_35 rfl (lv_at hl 1 rfl) ?_
      refine he_iald hx hb hK hP 0 rfl (x.toNatClampNeg) (he_within_nat (B := 9) rfl (by decide) hok0).1 (Nat.lt_of_le_of_lt (he_within_nat (B := 9) rfl (by decide) hok0).2 (by decide)) (by first | decide | assumption) (f x.toNatClampNeg) rfl dX11_sums_36 ?_
      have hP := hP.sub (ws' := [(oX11 m0 0 ta sz_ pl at_ fa fw cs fd rfm rt_ to_ rw_ wa ct rk rb cn br sm as_ go sh_ ir oa ob th ig sp_ ki tg of_ kp sf rs), (aI g sm 25 f)]) [1, 0] rfl
      have hD := hD.sub (ws' := [(oX11 m0 0 ta sz_ pl at_ fa fw cs fd rfm rt_ to_ rw_ wa ct rk rb cn br sm as_ go sh_ ir oa ob th ig sp_ ki tg of_ kp sf rs), (aI g sm 25 f)]) [1, 0] (by decide) rfl
      exact he_ri hQ hx hb hr hlk hP hD hS dX11_sums_37 (Nat.le_of_ble_eq_true rfl) (Nat.le_of_ble_eq_true rfl) (()) (rfl) (rfl)
    · exact absurd (by decide) c_8
  · exact absurd c_4 (by decide)
set_option maxHeartbeats 4000000 in
set_option maxRecDepth 100000 in
theorem h_X11_would (l : Launch) (g : he_G) (m0 : Nat) (fd : Nat) (rfm : Nat) (rt_ : Nat) (to_ : Nat) (rw_ : Nat) (wa : Nat) (rk : Nat) (rb : Nat) (cn : Nat) (br : Nat) (sm : Nat) (as_ : Nat) (go : Nat) (sh_ : Nat) (ki : Nat) (tg : Nat) (of_ : Nat) (kp : Nat) (rs : Nat) (ta : Int32) (sz_ : Int32) (pl : Int32) (at_ : Int32) (fa : Int32) (fw : Int32) (cs : Int32) (ir : Int32) (oa : Int32) (ob : Int32) (th : Int32) (ig : Int32) (sp_ : Int32) (sf : Int32) (tw : Int32) (nt : Nat) (tl : Nat → Int32) (f : Nat → Int32) (g0 : Nat → Int32) (w : Nat) (L : List Nat) (ln : Nat → Nat) (M : Nat → Nat → Int32) (r2 : Nat → Nat) (r3 : Nat → Nat) (r4 : Nat → Nat) (r6 : Nat → Nat) (ci : Nat) (q2 : Nat) (ck : Nat) (q5 : Nat) (mm : Nat) (n : Nat) (k : Nat) (htl : tl 0 = nI w) (hw6 : w ≤ 6) (h24 : f 24 = nI mm) (hm120 : mm ≤ 120) (hir : ir = 0) (hci : ci < 7) (hbo : bOk (M (r4 ci))) (hq2 : M (r3 ci) 2 = nI q2) (hq9 : q2 ≤ 9) (hck : M (r3 ci) 3 = nI ck) (hc99 : ck ≤ 99) (hq5 : M (r3 ci) 5 = nI q5) (hq36 : q5 ≤ 36) (hq0 : 0 < q5) (hcn : ci < nt) (hnt : nt ≤ 6) (hk : k ≤ 9) (hn1 : 1 ≤ n) (hn2 : n ≤ 60) (F_r2 : ∀ i, i < 6 → r2 i ∈ L ∧ ln (r2 i) = 2 ∧ True) (F_r3 : ∀ i, i < 7 → r3 i ∈ L ∧ ln (r3 i) = 7 ∧ True) (F_r4 : ∀ i, i < 7 → r4 i ∈ L ∧ ln (r4 i) = 36 ∧ True) (F_r6 : ∀ i, i < 120 → r6 i ∈ L ∧ ln (r6 i) = 6 ∧ True) (D_r3_r6 : ∀ i j, i < 7 → j < 120 → r3 i ≠ r6 j) (D_r4_r6 : ∀ i j, i < 7 → j < 120 → r4 i ≠ r6 j) : he_I l yX11_would wsX11_would 7 160 0 0 g [.ref m0, .int (nI ci), .int (nI n), .int (nI k)] ([(oX11 m0 tw ta sz_ pl at_ fa fw cs fd rfm rt_ to_ rw_ wa (nI nt) rk rb cn br sm as_ go sh_ ir oa ob th ig sp_ ki tg of_ kp sf rs), (aI g to_ 25 tl), (aI g sm 25 f), (aM g wa 6 (he_ro 6 r2)), (aM g sh_ 120 (he_ro 120 r6)), (aM g cn 7 (he_ro 7 r3)), (aM g br 7 (he_ro 7 r4)), (aI g as_ 25 g0)] ++ he_pl g L ln M) (fun (r : Int32) (u : (Nat → Int32) × (Nat → Int32) × (Nat → Nat → Int32)) => a25 f u.1 ∧ mEx r6 120 M u.2.2 ∧ u.2.2 = M) (fun (u : (Nat → Int32) × (Nat → Int32) × (Nat → Nat → Int32)) => [(oX11 m0 0 ta sz_ pl at_ fa fw cs fd rfm rt_ to_ rw_ wa (nI nt) rk rb cn br sm as_ go sh_ ir oa ob th ig sp_ ki tg of_ kp sf rs), (aI g to_ 25 tl), (aI g sm 25 u.1), (aM g wa 6 (he_ro 6 r2)), (aM g sh_ 120 (he_ro 120 r6)), (aM g cn 7 (he_ro 7 r3)), (aM g br 7 (he_ro 7 r4)), (aI g as_ 25 u.2.1)] ++ he_pl g L ln u.2.2) := by
  refine he_begin (l := l) (g := g) (y := yX11_would) (wl := wsX11_would) (fr := 7) (lo := 160) (mc := 0) (ms := 0) (av := [.ref m0, .int (nI ci), .int (nI n), .int (nI k)]) (ws := ([(oX11 m0 tw ta sz_ pl at_ fa fw cs fd rfm rt_ to_ rw_ wa (nI nt) rk rb cn br sm as_ go sh_ ir oa ob th ig sp_ ki tg of_ kp sf rs), (aI g to_ 25 tl), (aI g sm 25 f), (aM g wa 6 (he_ro 6 r2)), (aM g sh_ 120 (he_ro 120 r6)), (aM g cn 7 (he_ro 7 r3)), (aM g br 7 (he_ro 7 r4)), (aI g as_ 25 g0)] ++ he_pl g L ln M)) (cc := cX11_would) (maxL := 4) (ret := (some .int)) (fun A => va_Qi (fun (r : Int32) (u : (Nat → Int32) × (Nat → Int32) × (Nat → Nat → Int32)) => a25 f u.1 ∧ mEx r6 120 M u.2.2 ∧ u.2.2 = M) (fun u t => he_post g A ((fun (u : (Nat → Int32) × (Nat → Int32) × (Nat → Nat → Int32)) => [(oX11 m0 0 ta sz_ pl at_ fa fw cs fd rfm rt_ to_ rw_ wa (nI nt) rk rb cn br sm as_ go sh_ ir oa ob th ig sp_ ki tg of_ kp sf rs), (aI g to_ 25 tl), (aI g sm 25 u.1), (aM g wa 6 (he_ro 6 r2)), (aM g sh_ 120 (he_ro 120 r6)), (aM g cn 7 (he_ro 7 r3)), (aM g br 7 (he_ro 7 r4)), (aI g as_ 25 u.2.1)] ++ he_pl g L ln u.2.2) u) t) A) (by decide) rfl (Nat.le_of_ble_eq_true rfl) ?_
  intro p e s m args below meth c A ls H locs Q hQ hB
  obtain ⟨hx, hb, hr, hml, hown, hts, hlk, hin, hP, hK, hD, hS, hA, hE, hl⟩ := hB
  have hl : lv_has ls 4 [(0, .ref m0), (1, .int (nI ci)), (2, .int (nI n)), (3, .int (nI k))] := hl
  have f85 := hts (.fieldLink RX11 85 "HiredEnemyModel" "thrown" "I") (iwoX11_would (k := 0) rfl)
  have inX11 : ∀ w ∈ wsX110, w ∈ wsX11_would := innX11_would_X11
  refine lv_aload_n hx hb dX11_would_0 rfl (lv_at hl 0 rfl) ?_
  refine lv_iconst (v := 0) hx hb dX11_would_1 (by decide) ?_
  refine va_put (v := .int 0) (ty := .int) (T := TX11) (N := 35) hx hb hts inX11 tyX11 tyX11_ok nmX11 hown hK hP hD hS 0 rfl rfl 0 (by decide) f85 (fun _ h9 => h9) rfl (by decide +kernel) rfl rfl (Nat.le_of_ble_eq_true rfl) dX11_would_2 (fun H locs hP hD hS => ?_)
  have hP : va_P g.1 vwCl ([(oX11 m0 0 ta sz_ pl at_ fa fw cs fd rfm rt_ to_ rw_ wa (nI nt) rk rb cn br sm as_ go sh_ ir oa ob th ig sp_ ki tg of_ kp sf rs), (aI g to_ 25 tl), (aI g sm 25 f), (aM g wa 6 (he_ro 6 r2)), (aM g sh_ 120 (he_ro 120 r6)), (aM g cn 7 (he_ro 7 r3)), (aM g br 7 (he_ro 7 r4)), (aI g as_ 25 g0)] ++ he_pl g L ln M) H := hP
  have hD : va_D A ([(oX11 m0 0 ta sz_ pl at_ fa fw cs fd rfm rt_ to_ rw_ wa (nI nt) rk rb cn br sm as_ go sh_ ir oa ob th ig sp_ ki tg of_ kp sf rs), (aI g to_ 25 tl), (aI g sm 25 f), (aM g wa 6 (he_ro 6 r2)), (aM g sh_ 120 (he_ro 120 r6)), (aM g cn 7 (he_ro 7 r3)), (aM g br 7 (he_ro 7 r4)), (aI g as_ 25 g0)] ++ he_pl g L ln M) := hD
  refine lv_aload_n hx hb dX11_would_5 rfl (lv_at hl 0 rfl) ?_
  refine lv_iload_n hx hb dX11_would_6 rfl (lv_at hl 1 rfl) ?_
  refine lv_iconst (v := (-1)) hx hb dX11_would_7 (by decide) ?_
  refine lv_icmp_eq (tgt := 23) hx hb dX11_would_8 (by decide) (fun c_1 => ?_) (fun c_1 => ?_)
  · exact absurd c_1 (nI_nm1 (by omega))
  · refine lv_aload_n hx hb dX11_would_11 rfl (lv_at hl 0 rfl) ?_
    refine lv_iload_n hx hb dX11_would_12 rfl (lv_at hl 1 rfl) ?_
    refine he_ci (wc := [(oX11 m0 0 ta sz_ pl at_ fa fw cs fd rfm rt_ to_ rw_ wa (nI nt) rk rb cn br sm as_ go sh_ ir oa ob th ig sp_ ki tg of_ kp sf rs)]) (wr := ([(aI g to_ 25 tl), (aI g sm 25 f), (aM g wa 6 (he_ro 6 r2)), (aM g sh_ 120 (he_ro 120 r6)), (aM g cn 7 (he_ro 7 r3)), (aM g br 7 (he_ro 7 r4)), (aI g as_ 25 g0)] ++ (he_pl g L ln M))) (va_runV (As := [.int (nI ci)]) (rest := [.ref m0]) ⟨hx, hb, hml, hown, hts⟩ (h_X11_isContract l g m0 fd rfm rt_ to_ rw_ wa rk rb cn br sm as_ go sh_ ki tg of_ kp rs ta sz_ pl at_ fa fw cs (nI nt) ir oa ob th ig sp_ sf 0 (nI ci) H.size) (cwV 1 hts gX11_would_X11_isContract rfl rfl rfl (by decide +kernel) ⟨Nat.le_of_ble_eq_true rfl, Nat.le_of_ble_eq_true rfl⟩) (he_preV (wc := [(oX11 m0 0 ta sz_ pl at_ fa fw cs fd rfm rt_ to_ rw_ wa (nI nt) rk rb cn br sm as_ go sh_ ir oa ob th ig sp_ ki tg of_ kp sf rs)]) hK hP hD hS hA hE [0] rfl rfl 0 rfl rfl) rfl rfl hl.1 rfl (lv_room (Nat.le_of_ble_eq_true rfl)) dX11_would_13 ⟨(Nat.le_of_ble_eq_true rfl), (Nat.le_of_ble_eq_true rfl)⟩) hP hD hS hA [0] (he_is [1, 2, 3, 4, 5, 6, 7] [(oX11 m0 0 ta sz_ pl at_ fa fw cs fd rfm rt_ to_ rw_ wa (nI nt) rk rb cn br sm as_ go sh_ ir oa ob th ig sp_ ki tg of_ kp sf rs), (aI g to_ 25 tl), (aI g sm 25 f), (aM g wa 6 (he_ro 6 r2)), (aM g sh_ 120 (he_ro 120 r6)), (aM g cn 7 (he_ro 7 r3)), (aM g br 7 (he_ro 7 r4)), (aI g as_ 25 g0)] (he_pl g L ln M)) rfl (he_ixP rfl) (he_ndP rfl rfl) (he_disN (by decide) rfl) (fun r_2 u_3 H locs h_4 hP hD hS => ?_)
    have hP := va_P.swap hP
    have hD := va_D.swap hD
    subst h_4
    have hP : va_P g.1 vwCl ([(aI g to_ 25 tl), (aI g sm 25 f), (aM g wa 6 (he_ro 6 r2)), (aM g sh_ 120 (he_ro 120 r6)), (aM g cn 7 (he_ro 7 r3)), (aM g br 7 (he_ro 7 r4)), (aI g as_ 25 g0), (oX11 m0 0 ta sz_ pl at_ fa fw cs fd rfm rt_ to_ rw_ wa (nI nt) rk rb cn br sm as_ go sh_ ir oa ob th ig sp_ ki tg of_ kp sf rs)] ++ he_pl g L ln M) H := hP
    have hD : va_D A ([(aI g to_ 25 tl), (aI g sm 25 f), (aM g wa 6 (he_ro 6 r2)), (aM g sh_ 120 (he_ro 120 r6)), (aM g cn 7 (he_ro 7 r3)), (aM g br 7 (he_ro 7 r4)), (aI g as_ 25 g0), (oX11 m0 0 ta sz_ pl at_ fa fw cs fd rfm rt_ to_ rw_ wa (nI nt) rk rb cn br sm as_ go sh_ ir oa ob th ig sp_ ki tg of_ kp sf rs)] ++ he_pl g L ln M) := hD
    refine he_top (1) (he_within_1 (wall_in hcn (by omega))) ?_
    refine lv_if_ne (tgt := 23) hx hb dX11_would_16 (by decide) (fun c_5 => ?_) (fun c_5 => ?_)
    · refine lv_iconst (v := 0) hx hb dX11_would_23 (by decide) ?_
      refine lv_iconst (v := 1) hx hb dX11_would_24 (by decide) ?_
      refine lv_iconst (v := 0) hx hb dX11_would_25 (by decide) ?_
      refine he_ci (wc := [(oX11 m0 0 ta sz_ pl at_ fa fw cs fd rfm rt_ to_ rw_ wa (nI nt) rk rb cn br sm as_ go sh_ ir oa ob th ig sp_ ki tg of_ kp sf rs)]) (wr := ([(aI g to_ 25 tl), (aI g sm 25 f), (aM g wa 6 (he_ro 6 r2)), (aM g sh_ 120 (he_ro 120 r6)), (aM g cn 7 (he_ro 7 r3)), (aM g br 7 (he_ro 7 r4)), (aI g as_ 25 g0)] ++ (he_pl g L ln M))) (va_runV (As := [.int 0, .int 1, .int 0]) (rest := []) ⟨hx, hb, hml, hown, hts⟩ (c_X11_bad0 l g m0 fd rfm rt_ to_ rw_ wa rk rb cn br sm as_ go sh_ ki tg of_ kp rs ta sz_ pl at_ fa fw cs (nI nt) ir oa ob th ig sp_ sf 1 0 H.size) (cwV 3 hts gX11_would_X11_bad rfl rfl rfl (by decide +kernel) ⟨Nat.le_of_ble_eq_true rfl, Nat.le_of_ble_eq_true rfl⟩) (he_preV (wc := [(oX11 m0 0 ta sz_ pl at_ fa fw cs fd rfm rt_ to_ rw_ wa (nI nt) rk rb cn br sm as_ go sh_ ir oa ob th ig sp_ ki tg of_ kp sf rs)]) hK hP hD hS hA hE [7] rfl rfl 7 rfl rfl) rfl rfl hl.1 rfl (lv_room (Nat.le_of_ble_eq_true rfl)) dX11_would_26 ⟨(Nat.le_of_ble_eq_true rfl), (Nat.le_of_ble_eq_true rfl)⟩) hP hD hS hA [7] (he_is [0, 1, 2, 3, 4, 5, 6] [(aI g to_ 25 tl), (aI g sm 25 f), (aM g wa 6 (he_ro 6 r2)), (aM g sh_ 120 (he_ro 120 r6)), (aM g cn 7 (he_ro 7 r3)), (aM g br 7 (he_ro 7 r4)), (aI g as_ 25 g0), (oX11 m0 0 ta sz_ pl at_ fa fw cs fd rfm rt_ to_ rw_ wa (nI nt) rk rb cn br sm as_ go sh_ ir oa ob th ig sp_ ki tg of_ kp sf rs)] (he_pl g L ln M)) rfl (he_ixP rfl) (he_ndP rfl rfl) (he_disN (by decide) rfl) (fun r_6 u_7 H locs h_8 hP hD hS => ?_)
      have hP := va_P.swap hP
      have hD := va_D.swap hD
      subst h_8
      have hP : va_P g.1 vwCl ([(aI g to_ 25 tl), (aI g sm 25 f), (aM g wa 6 (he_ro 6 r2)), (aM g sh_ 120 (he_ro 120 r6)), (aM g cn 7 (he_ro 7 r3)), (aM g br 7 (he_ro 7 r4)), (aI g as_ 25 g0), (oX11 m0 0 ta sz_ pl at_ fa fw cs fd rfm rt_ to_ rw_ wa (nI nt) rk rb cn br sm as_ go sh_ ir oa ob th ig sp_ ki tg of_ kp sf rs)] ++ he_pl g L ln M) H := hP
      have hD : va_D A ([(aI g to_ 25 tl), (aI g sm 25 f), (aM g wa 6 (he_ro 6 r2)), (aM g sh_ 120 (he_ro 120 r6)), (aM g cn 7 (he_ro 7 r3)), (aM g br 7 (he_ro 7 r4)), (aI g as_ 25 g0), (oX11 m0 0 ta sz_ pl at_ fa fw cs fd rfm rt_ to_ rw_ wa (nI nt) rk rb cn br sm as_ go sh_ ir oa ob th ig sp_ ki tg of_ kp sf rs)] ++ he_pl g L ln M) := hD
      refine lv_if_ne (tgt := 63) hx hb dX11_would_29 (by decide) (fun c_9 => ?_) (fun c_9 => ?_)
      · exact absurd (by decide) c_9
      · refine lv_aload_n hx hb dX11_would_32 rfl (lv_at hl 0 rfl) ?_
        refine lv_iload_n hx hb dX11_would_33 rfl (lv_at hl 2 rfl) ?_
        refine he_ci (wc := []) (wr := ([(aI g to_ 25 tl), (aI g sm 25 f), (aM g wa 6 (he_ro 6 r2)), (aM g sh_ 120 (he_ro 120 r6)), (aM g cn 7 (he_ro 7 r3)), (aM g br 7 (he_ro 7 r4)), (aI g as_ 25 g0), (oX11 m0 0 ta sz_ pl at_ fa fw cs fd rfm rt_ to_ rw_ wa (nI nt) rk rb cn br sm as_ go sh_ ir oa ob th ig sp_ ki tg of_ kp sf rs)] ++ (he_pl g L ln M))) (va_runS (As := [.int (nI n)]) (rest := [.ref m0]) ⟨hx, hb, hml, hown, hts⟩ (c_X11_areMonths l g (nI n) H.size) (va_cwS 1 hts gX11_would_X11_areMonths rfl rfl rfl (by decide +kernel) ⟨Nat.le_of_ble_eq_true rfl, Nat.le_of_ble_eq_true rfl⟩) (he_preS (wc := []) hK hP hD hS hA hE [] rfl rfl) rfl rfl hl.1 rfl (lv_room (Nat.le_of_ble_eq_true rfl)) dX11_would_34 ⟨(Nat.le_of_ble_eq_true rfl), (Nat.le_of_ble_eq_true rfl)⟩) hP hD hS hA [] (he_is [0, 1, 2, 3, 4, 5, 6, 7] [(aI g to_ 25 tl), (aI g sm 25 f), (aM g wa 6 (he_ro 6 r2)), (aM g sh_ 120 (he_ro 120 r6)), (aM g cn 7 (he_ro 7 r3)), (aM g br 7 (he_ro 7 r4)), (aI g as_ 25 g0), (oX11 m0 0 ta sz_ pl at_ fa fw cs fd rfm rt_ to_ rw_ wa (nI nt) rk rb cn br sm as_ go sh_ ir oa ob th ig sp_ ki tg of_ kp sf rs)] (he_pl g L ln M)) rfl (he_ixP rfl) (he_ndP rfl rfl) (he_disN (by decide) rfl) (fun r_10 u_11 H locs h_12 hP hD hS => ?_)
        have hP := va_P.swap hP
        have hD := va_D.swap hD
        subst h_12
        have hP : va_P g.1 vwCl ([(aI g to_ 25 tl), (aI g sm 25 f), (aM g wa 6 (he_ro 6 r2)), (aM g sh_ 120 (he_ro 120 r6)), (aM g cn 7 (he_ro 7 r3)), (aM g br 7 (he_ro 7 r4)), (aI g as_ 25 g0), (oX11 m0 0 ta sz_ pl at_ fa fw cs fd rfm rt_ to_ rw_ wa (nI nt) rk rb cn br sm as_ go sh_ ir oa ob th ig sp_ ki tg of_ kp sf rs)] ++ he_pl g L ln M) H := hP
        have hD : va_D A ([(aI g to_ 25 tl), (aI g sm 25 f), (aM g wa 6 (he_ro 6 r2)), (aM g sh_ 120 (he_ro 120 r6)), (aM g cn 7 (he_ro 7 r3)), (aM g br 7 (he_ro 7 r4)), (aI g as_ 25 g0), (oX11 m0 0 ta sz_ pl at_ fa fw cs fd rfm rt_ to_ rw_ wa (nI nt) rk rb cn br sm as_ go sh_ ir oa ob th ig sp_ ki tg of_ kp sf rs)] ++ he_pl g L ln M) := hD
        refine he_top (1) (he_within_in (a0 := 1) (B := 60) rfl rfl (by omega) (by omega) (by decide)) ?_
        refine lv_if_eq (tgt := 50) hx hb dX11_would_37 (by decide) (fun c_13 => ?_) (fun c_13 => ?_)
        · exact absurd c_13 (by decide)
        · refine lv_iload_n hx hb dX11_would_40 rfl (lv_at hl 3 rfl) ?_
          refine lv_iconst (v := 0) hx hb dX11_would_41 (by decide) ?_
          refine lv_bipush (v := 9) hx hb dX11_would_42 (by decide) ?_
          refine he_ci (wc := []) (wr := ([(aI g to_ 25 tl), (aI g sm 25 f), (aM g wa 6 (he_ro 6 r2)), (aM g sh_ 120 (he_ro 120 r6)), (aM g cn 7 (he_ro 7 r3)), (aM g br 7 (he_ro 7 r4)), (aI g as_ 25 g0), (oX11 m0 0 ta sz_ pl at_ fa fw cs fd rfm rt_ to_ rw_ wa (nI nt) rk rb cn br sm as_ go sh_ ir oa ob th ig sp_ ki tg of_ kp sf rs)] ++ (he_pl g L ln M))) (va_runS (As := [.int (nI k), .int 0, .int 9]) (rest := [.ref m0]) ⟨hx, hb, hml, hown, hts⟩ (c_X11_in l g (nI k) 0 9 H.size) (va_cwS 3 hts gX11_would_X11_in rfl rfl rfl (by decide +kernel) ⟨Nat.le_of_ble_eq_true rfl, Nat.le_of_ble_eq_true rfl⟩) (he_preS (wc := []) hK hP hD hS hA hE [] rfl rfl) rfl rfl hl.1 rfl (lv_room (Nat.le_of_ble_eq_true rfl)) dX11_would_44 ⟨(Nat.le_of_ble_eq_true rfl), (Nat.le_of_ble_eq_true rfl)⟩) hP hD hS hA [] (he_is [0, 1, 2, 3, 4, 5, 6, 7] [(aI g to_ 25 tl), (aI g sm 25 f), (aM g wa 6 (he_ro 6 r2)), (aM g sh_ 120 (he_ro 120 r6)), (aM g cn 7 (he_ro 7 r3)), (aM g br 7 (he_ro 7 r4)), (aI g as_ 25 g0), (oX11 m0 0 ta sz_ pl at_ fa fw cs fd rfm rt_ to_ rw_ wa (nI nt) rk rb cn br sm as_ go sh_ ir oa ob th ig sp_ ki tg of_ kp sf rs)] (he_pl g L ln M)) rfl (he_ixP rfl) (he_ndP rfl rfl) (he_disN (by decide) rfl) (fun r_14 u_15 H locs h_16 hP hD hS => ?_)
          have hP := va_P.swap hP
          have hD := va_D.swap hD
          subst h_16
          have hP : va_P g.1 vwCl ([(aI g to_ 25 tl), (aI g sm 25 f), (aM g wa 6 (he_ro 6 r2)), (aM g sh_ 120 (he_ro 120 r6)), (aM g cn 7 (he_ro 7 r3)), (aM g br 7 (he_ro 7 r4)), (aI g as_ 25 g0), (oX11 m0 0 ta sz_ pl at_ fa fw cs fd rfm rt_ to_ rw_ wa (nI nt) rk rb cn br sm as_ go sh_ ir oa ob th ig sp_ ki tg of_ kp sf rs)] ++ he_pl g L ln M) H := hP
          have hD : va_D A ([(aI g to_ 25 tl), (aI g sm 25 f), (aM g wa 6 (he_ro 6 r2)), (aM g sh_ 120 (he_ro 120 r6)), (aM g cn 7 (he_ro 7 r3)), (aM g br 7 (he_ro 7 r4)), (aI g as_ 25 g0), (oX11 m0 0 ta sz_ pl at_ fa fw cs fd rfm rt_ to_ rw_ wa (nI nt) rk rb cn br sm as_ go sh_ ir oa ob th ig sp_ ki tg of_ kp sf rs)] ++ he_pl g L ln M) := hD
          refine he_top (1) (he_within_in (a0 := 0) (B := 9) rfl rfl (by omega) (by omega) (by decide)) ?_
          refine lv_if_ne (tgt := 54) hx hb dX11_would_47 (by decide) (fun c_17 => ?_) (fun c_17 => ?_)
          · refine lv_iconst (v := 0) hx hb dX11_would_54 (by decide) ?_
            refine lv_iconst (v := 2) hx hb dX11_would_55 (by decide) ?_
            refine lv_iconst (v := 2) hx hb dX11_would_56 (by decide) ?_
            refine he_ci (wc := [(oX11 m0 0 ta sz_ pl at_ fa fw cs fd rfm rt_ to_ rw_ wa (nI nt) rk rb cn br sm as_ go sh_ ir oa ob th ig sp_ ki tg of_ kp sf rs)]) (wr := ([(aI g to_ 25 tl), (aI g sm 25 f), (aM g wa 6 (he_ro 6 r2)), (aM g sh_ 120 (he_ro 120 r6)), (aM g cn 7 (he_ro 7 r3)), (aM g br 7 (he_ro 7 r4)), (aI g as_ 25 g0)] ++ (he_pl g L ln M))) (va_runV (As := [.int 0, .int 2, .int 2]) (rest := []) ⟨hx, hb, hml, hown, hts⟩ (c_X11_bad0 l g m0 fd rfm rt_ to_ rw_ wa rk rb cn br sm as_ go sh_ ki tg of_ kp rs ta sz_ pl at_ fa fw cs (nI nt) ir oa ob th ig sp_ sf 2 2 H.size) (cwV 3 hts gX11_would_X11_bad rfl rfl rfl (by decide +kernel) ⟨Nat.le_of_ble_eq_true rfl, Nat.le_of_ble_eq_true rfl⟩) (he_preV (wc := [(oX11 m0 0 ta sz_ pl at_ fa fw cs fd rfm rt_ to_ rw_ wa (nI nt) rk rb cn br sm as_ go sh_ ir oa ob th ig sp_ ki tg of_ kp sf rs)]) hK hP hD hS hA hE [7] rfl rfl 7 rfl rfl) rfl rfl hl.1 rfl (lv_room (Nat.le_of_ble_eq_true rfl)) dX11_would_57 ⟨(Nat.le_of_ble_eq_true rfl), (Nat.le_of_ble_eq_true rfl)⟩) hP hD hS hA [7] (he_is [0, 1, 2, 3, 4, 5, 6] [(aI g to_ 25 tl), (aI g sm 25 f), (aM g wa 6 (he_ro 6 r2)), (aM g sh_ 120 (he_ro 120 r6)), (aM g cn 7 (he_ro 7 r3)), (aM g br 7 (he_ro 7 r4)), (aI g as_ 25 g0), (oX11 m0 0 ta sz_ pl at_ fa fw cs fd rfm rt_ to_ rw_ wa (nI nt) rk rb cn br sm as_ go sh_ ir oa ob th ig sp_ ki tg of_ kp sf rs)] (he_pl g L ln M)) rfl (he_ixP rfl) (he_ndP rfl rfl) (he_disN (by decide) rfl) (fun r_18 u_19 H locs h_20 hP hD hS => ?_)
            have hP := va_P.swap hP
            have hD := va_D.swap hD
            subst h_20
            have hP : va_P g.1 vwCl ([(aI g to_ 25 tl), (aI g sm 25 f), (aM g wa 6 (he_ro 6 r2)), (aM g sh_ 120 (he_ro 120 r6)), (aM g cn 7 (he_ro 7 r3)), (aM g br 7 (he_ro 7 r4)), (aI g as_ 25 g0), (oX11 m0 0 ta sz_ pl at_ fa fw cs fd rfm rt_ to_ rw_ wa (nI nt) rk rb cn br sm as_ go sh_ ir oa ob th ig sp_ ki tg of_ kp sf rs)] ++ he_pl g L ln M) H := hP
            have hD : va_D A ([(aI g to_ 25 tl), (aI g sm 25 f), (aM g wa 6 (he_ro 6 r2)), (aM g sh_ 120 (he_ro 120 r6)), (aM g cn 7 (he_ro 7 r3)), (aM g br 7 (he_ro 7 r4)), (aI g as_ 25 g0), (oX11 m0 0 ta sz_ pl at_ fa fw cs fd rfm rt_ to_ rw_ wa (nI nt) rk rb cn br sm as_ go sh_ ir oa ob th ig sp_ ki tg of_ kp sf rs)] ++ he_pl g L ln M) := hD
            refine lv_if_eq (tgt := 65) hx hb dX11_would_60 (by decide) (fun c_21 => ?_) (fun c_21 => ?_)
            · refine lv_aload_n hx hb dX11_would_65 rfl (lv_at hl 0 rfl) ?_
              refine lv_iload_n hx hb dX11_would_66 rfl (lv_at hl 1 rfl) ?_
              refine lv_iload_n hx hb dX11_would_67 rfl (lv_at hl 2 rfl) ?_
              refine lv_iload_n hx hb dX11_would_68 rfl (lv_at hl 3 rfl) ?_
              refine he_ci (wc := ([(oX11 m0 0 ta sz_ pl at_ fa fw cs fd rfm rt_ to_ rw_ wa (nI nt) rk rb cn br sm as_ go sh_ ir oa ob th ig sp_ ki tg of_ kp sf rs), (aI g to_ 25 tl), (aI g sm 25 f), (aM g wa 6 (he_ro 6 r2)), (aM g sh_ 120 (he_ro 120 r6)), (aM g cn 7 (he_ro 7 r3)), (aM g br 7 (he_ro 7 r4)), (aI g as_ 25 g0)] ++ (he_pl g L ln M))) (wr := []) (va_runV (As := [.int (nI ci), .int (nI n), .int (nI k)]) (rest := []) ⟨hx, hb, hml, hown, hts⟩ (h_X11_by l g m0 fd rfm rt_ to_ rw_ wa rk rb cn br sm as_ go sh_ ki tg of_ kp rs ta sz_ pl at_ fa fw cs (nI nt) ir oa ob th ig sp_ sf 0 tl f g0 w L ln M r2 r3 r4 r6 ci q2 ck q5 mm n k (by first | assumption | decide | omega) (by first | assumption | decide | omega) (by first | assumption | decide | omega) (by first | assumption | decide | omega) (by first | assumption | decide | omega) (by first | assumption | decide | omega) (by first | assumption | decide | omega) (by first | assumption | decide | omega) (by first | assumption | decide | omega) (by first | assumption | decide | omega) (by first | assumption | decide | omega) (by first | assumption | decide | omega) (by omega) (by first | assumption | decide | omega) (by omega) (by first | assumption | decide | omega) (by first | assumption | decide | omega) (by first | assumption | decide | omega) (by first | assumption | decide | omega) (by first | assumption | decide | omega) (by first | assumption | decide | omega) H.size) (cwV 3 hts gX11_would_X11_by rfl rfl rfl (by decide +kernel) ⟨Nat.le_of_ble_eq_true rfl, Nat.le_of_ble_eq_true rfl⟩) (he_preV (wc := ([(oX11 m0 0 ta sz_ pl at_ fa fw cs fd rfm rt_ to_ rw_ wa (nI nt) rk rb cn br sm as_ go sh_ ir oa ob th ig sp_ ki tg of_ kp sf rs), (aI g to_ 25 tl), (aI g sm 25 f), (aM g wa 6 (he_ro 6 r2)), (aM g sh_ 120 (he_ro 120 r6)), (aM g cn 7 (he_ro 7 r3)), (aM g br 7 (he_ro 7 r4)), (aI g as_ 25 g0)] ++ (he_pl g L ln M))) hK hP hD hS hA hE (he_is [7, 0, 1, 2, 3, 4, 5, 6] [(aI g to_ 25 tl), (aI g sm 25 f), (aM g wa 6 (he_ro 6 r2)), (aM g sh_ 120 (he_ro 120 r6)), (aM g cn 7 (he_ro 7 r3)), (aM g br 7 (he_ro 7 r4)), (aI g as_ 25 g0), (oX11 m0 0 ta sz_ pl at_ fa fw cs fd rfm rt_ to_ rw_ wa (nI nt) rk rb cn br sm as_ go sh_ ir oa ob th ig sp_ ki tg of_ kp sf rs)] (he_pl g L ln M)) (he_ixP rfl) (he_ndP rfl rfl) 7 rfl rfl) rfl rfl hl.1 rfl (lv_room (Nat.le_of_ble_eq_true rfl)) dX11_would_69 ⟨(Nat.le_of_ble_eq_true rfl), (Nat.le_of_ble_eq_true rfl)⟩) hP hD hS hA (he_is [7, 0, 1, 2, 3, 4, 5, 6] [(aI g to_ 25 tl), (aI g sm 25 f), (aM g wa 6 (he_ro 6 r2)), (aM g sh_ 120 (he_ro 120 r6)), (aM g cn 7 (he_ro 7 r3)), (aM g br 7 (he_ro 7 r4)), (aI g as_ 25 g0), (oX11 m0 0 ta sz_ pl at_ fa fw cs fd rfm rt_ to_ rw_ wa (nI nt) rk rb cn br sm as_ go sh_ ir oa ob th ig sp_ ki tg of_ kp sf rs)] (he_pl g L ln M)) [] (he_ixP rfl) rfl rfl (he_disP (by decide) rfl) (fun r_22 u_23 H locs h_24 hP hD hS => ?_)
              obtain ⟨uf_25, ug_26, Mu_27⟩ := u_23
              try dsimp only at h_24
              obtain ⟨hf_28, hf_29, hf_30⟩ := h_24
              have hP : va_P g.1 vwCl ([(oX11 m0 0 ta sz_ pl at_ fa fw cs fd rfm rt_ to_ rw_ wa (nI nt) rk rb cn br sm as_ go sh_ ir oa ob th ig sp_ ki tg of_ kp sf rs), (aI g to_ 25 tl), (aI g sm 25 uf_25), (aM g wa 6 (he_ro 6 r2)), (aM g sh_ 120 (he_ro 120 r6)), (aM g cn 7 (he_ro 7 r3)), (aM g br 7 (he_ro 7 r4)), (aI g as_ 25 ug_26)] ++ he_pl g L ln Mu_27) H := hP
              have hD : va_D A ([(oX11 m0 0 ta sz_ pl at_ fa fw cs fd rfm rt_ to_ rw_ wa (nI nt) rk rb cn br sm as_ go sh_ ir oa ob th ig sp_ ki tg of_ kp sf rs), (aI g to_ 25 tl), (aI g sm 25 uf_25), (aM g wa 6 (he_ro 6 r2)), (aM g sh_ 120 (he_ro 120 r6)), (aM g cn 7 (he_ro 7 r3)), (aM g br 7 (he_ro 7 r4)), (aI g as_ 25 ug_26)] ++ he_pl g L ln Mu_27) := hD
              exact he_ri hQ hx hb hr hlk hP hD hS dX11_would_72 (Nat.le_of_ble_eq_true rfl) (Nat.le_of_ble_eq_true rfl) ((uf_25, ug_26, Mu_27)) (rfl) (by (try dsimp only); exact ⟨hf_28, hf_29, hf_30⟩)
            · exact absurd (by decide) c_21
          · exact absurd c_17 (by decide)
    · exact absurd c_5 (by decide)
set_option maxHeartbeats 4000000 in
set_option maxRecDepth 100000 in
theorem h_X11_wouldN (l : Launch) (g : he_G) (m0 : Nat) (fd : Nat) (rfm : Nat) (rt_ : Nat) (to_ : Nat) (rw_ : Nat) (wa : Nat) (rk : Nat) (rb : Nat) (cn : Nat) (br : Nat) (sm : Nat) (as_ : Nat) (go : Nat) (sh_ : Nat) (ki : Nat) (tg : Nat) (of_ : Nat) (kp : Nat) (rs : Nat) (ta : Int32) (sz_ : Int32) (pl : Int32) (at_ : Int32) (fa : Int32) (fw : Int32) (cs : Int32) (ct : Int32) (ir : Int32) (oa : Int32) (ob : Int32) (th : Int32) (ig : Int32) (sp_ : Int32) (sf : Int32) (tw : Int32) (tl : Nat → Int32) (f : Nat → Int32) (g0 : Nat → Int32) (w : Nat) (L : List Nat) (ln : Nat → Nat) (M : Nat → Nat → Int32) (r2 : Nat → Nat) (mm : Nat) (n : Nat) (k : Nat) (htl : tl 0 = nI w) (hw6 : w ≤ 6) (h24 : f 24 = nI mm) (hm120 : mm ≤ 120) (hk : k ≤ 9) (hn1 : 1 ≤ n) (hn2 : n ≤ 60) (F_r2 : ∀ i, i < 6 → r2 i ∈ L ∧ ln (r2 i) = 2 ∧ True) : he_I l yX11_would wsX11_would 6 134 0 0 g [.ref m0, .int (-1), .int (nI n), .int (nI k)] ([(oX11 m0 tw ta sz_ pl at_ fa fw cs fd rfm rt_ to_ rw_ wa ct rk rb cn br sm as_ go sh_ ir oa ob th ig sp_ ki tg of_ kp sf rs), (aI g to_ 25 tl), (aI g sm 25 f), (aM g wa 6 (he_ro 6 r2)), (aI g as_ 25 g0)] ++ he_pl g L ln M) (fun (r : Int32) (u : (Nat → Int32) × (Nat → Int32)) => a25 f u.1) (fun (u : (Nat → Int32) × (Nat → Int32)) => [(oX11 m0 0 ta sz_ pl at_ fa fw cs fd rfm rt_ to_ rw_ wa ct rk rb cn br sm as_ go sh_ ir oa ob th ig sp_ ki tg of_ kp sf rs), (aI g to_ 25 tl), (aI g sm 25 u.1), (aM g wa 6 (he_ro 6 r2)), (aI g as_ 25 u.2)] ++ he_pl g L ln M) := by
  refine he_begin (l := l) (g := g) (y := yX11_would) (wl := wsX11_would) (fr := 6) (lo := 134) (mc := 0) (ms := 0) (av := [.ref m0, .int (-1), .int (nI n), .int (nI k)]) (ws := ([(oX11 m0 tw ta sz_ pl at_ fa fw cs fd rfm rt_ to_ rw_ wa ct rk rb cn br sm as_ go sh_ ir oa ob th ig sp_ ki tg of_ kp sf rs), (aI g to_ 25 tl), (aI g sm 25 f), (aM g wa 6 (he_ro 6 r2)), (aI g as_ 25 g0)] ++ he_pl g L ln M)) (cc := cX11_would) (maxL := 4) (ret := (some .int)) (fun A => va_Qi (fun (r : Int32) (u : (Nat → Int32) × (Nat → Int32)) => a25 f u.1) (fun u t => he_post g A ((fun (u : (Nat → Int32) × (Nat → Int32)) => [(oX11 m0 0 ta sz_ pl at_ fa fw cs fd rfm rt_ to_ rw_ wa ct rk rb cn br sm as_ go sh_ ir oa ob th ig sp_ ki tg of_ kp sf rs), (aI g to_ 25 tl), (aI g sm 25 u.1), (aM g wa 6 (he_ro 6 r2)), (aI g as_ 25 u.2)] ++ he_pl g L ln M) u) t) A) (by decide) rfl (Nat.le_of_ble_eq_true rfl) ?_
  intro p e s m args below meth c A ls H locs Q hQ hB
  obtain ⟨hx, hb, hr, hml, hown, hts, hlk, hin, hP, hK, hD, hS, hA, hE, hl⟩ := hB
  have hl : lv_has ls 4 [(0, .ref m0), (1, .int (-1)), (2, .int (nI n)), (3, .int (nI k))] := hl
  have f85 := hts (.fieldLink RX11 85 "HiredEnemyModel" "thrown" "I") (iwoX11_would (k := 0) rfl)
  have inX11 : ∀ w ∈ wsX110, w ∈ wsX11_would := innX11_would_X11
  refine lv_aload_n hx hb dX11_would_0 rfl (lv_at hl 0 rfl) ?_
  refine lv_iconst (v := 0) hx hb dX11_would_1 (by decide) ?_
  refine va_put (v := .int 0) (ty := .int) (T := TX11) (N := 35) hx hb hts inX11 tyX11 tyX11_ok nmX11 hown hK hP hD hS 0 rfl rfl 0 (by decide) f85 (fun _ h9 => h9) rfl (by decide +kernel) rfl rfl (Nat.le_of_ble_eq_true rfl) dX11_would_2 (fun H locs hP hD hS => ?_)
  have hP : va_P g.1 vwCl ([(oX11 m0 0 ta sz_ pl at_ fa fw cs fd rfm rt_ to_ rw_ wa ct rk rb cn br sm as_ go sh_ ir oa ob th ig sp_ ki tg of_ kp sf rs), (aI g to_ 25 tl), (aI g sm 25 f), (aM g wa 6 (he_ro 6 r2)), (aI g as_ 25 g0)] ++ he_pl g L ln M) H := hP
  have hD : va_D A ([(oX11 m0 0 ta sz_ pl at_ fa fw cs fd rfm rt_ to_ rw_ wa ct rk rb cn br sm as_ go sh_ ir oa ob th ig sp_ ki tg of_ kp sf rs), (aI g to_ 25 tl), (aI g sm 25 f), (aM g wa 6 (he_ro 6 r2)), (aI g as_ 25 g0)] ++ he_pl g L ln M) := hD
  refine lv_aload_n hx hb dX11_would_5 rfl (lv_at hl 0 rfl) ?_
  refine lv_iload_n hx hb dX11_would_6 rfl (lv_at hl 1 rfl) ?_
  refine lv_iconst (v := (-1)) hx hb dX11_would_7 (by decide) ?_
  refine lv_icmp_eq (tgt := 23) hx hb dX11_would_8 (by decide) (fun c_1 => ?_) (fun c_1 => ?_)
  · refine lv_iconst (v := 0) hx hb dX11_would_23 (by decide) ?_
    refine lv_iconst (v := 1) hx hb dX11_would_24 (by decide) ?_
    refine lv_iconst (v := 0) hx hb dX11_would_25 (by decide) ?_
    refine he_ci (wc := [(oX11 m0 0 ta sz_ pl at_ fa fw cs fd rfm rt_ to_ rw_ wa ct rk rb cn br sm as_ go sh_ ir oa ob th ig sp_ ki tg of_ kp sf rs)]) (wr := ([(aI g to_ 25 tl), (aI g sm 25 f), (aM g wa 6 (he_ro 6 r2)), (aI g as_ 25 g0)] ++ (he_pl g L ln M))) (va_runV (As := [.int 0, .int 1, .int 0]) (rest := []) ⟨hx, hb, hml, hown, hts⟩ (c_X11_bad0 l g m0 fd rfm rt_ to_ rw_ wa rk rb cn br sm as_ go sh_ ki tg of_ kp rs ta sz_ pl at_ fa fw cs ct ir oa ob th ig sp_ sf 1 0 H.size) (cwV 3 hts gX11_would_X11_bad rfl rfl rfl (by decide +kernel) ⟨Nat.le_of_ble_eq_true rfl, Nat.le_of_ble_eq_true rfl⟩) (he_preV (wc := [(oX11 m0 0 ta sz_ pl at_ fa fw cs fd rfm rt_ to_ rw_ wa ct rk rb cn br sm as_ go sh_ ir oa ob th ig sp_ ki tg of_ kp sf rs)]) hK hP hD hS hA hE [0] rfl rfl 0 rfl rfl) rfl rfl hl.1 rfl (lv_room (Nat.le_of_ble_eq_true rfl)) dX11_would_26 ⟨(Nat.le_of_ble_eq_true rfl), (Nat.le_of_ble_eq_true rfl)⟩) hP hD hS hA [0] (he_is [1, 2, 3, 4] [(oX11 m0 0 ta sz_ pl at_ fa fw cs fd rfm rt_ to_ rw_ wa ct rk rb cn br sm as_ go sh_ ir oa ob th ig sp_ ki tg of_ kp sf rs), (aI g to_ 25 tl), (aI g sm 25 f), (aM g wa 6 (he_ro 6 r2)), (aI g as_ 25 g0)] (he_pl g L ln M)) rfl (he_ixP rfl) (he_ndP rfl rfl) (he_disN (by decide) rfl) (fun r_2 u_3 H locs h_4 hP hD hS => ?_)
    have hP := va_P.swap hP
    have hD := va_D.swap hD
    subst h_4
    have hP : va_P g.1 vwCl ([(aI g to_ 25 tl), (aI g sm 25 f), (aM g wa 6 (he_ro 6 r2)), (aI g as_ 25 g0), (oX11 m0 0 ta sz_ pl at_ fa fw cs fd rfm rt_ to_ rw_ wa ct rk rb cn br sm as_ go sh_ ir oa ob th ig sp_ ki tg of_ kp sf rs)] ++ he_pl g L ln M) H := hP
    have hD : va_D A ([(aI g to_ 25 tl), (aI g sm 25 f), (aM g wa 6 (he_ro 6 r2)), (aI g as_ 25 g0), (oX11 m0 0 ta sz_ pl at_ fa fw cs fd rfm rt_ to_ rw_ wa ct rk rb cn br sm as_ go sh_ ir oa ob th ig sp_ ki tg of_ kp sf rs)] ++ he_pl g L ln M) := hD
    refine lv_if_ne (tgt := 63) hx hb dX11_would_29 (by decide) (fun c_5 => ?_) (fun c_5 => ?_)
    · exact absurd (by decide) c_5
    · refine lv_aload_n hx hb dX11_would_32 rfl (lv_at hl 0 rfl) ?_
      refine lv_iload_n hx hb dX11_would_33 rfl (lv_at hl 2 rfl) ?_
      refine he_ci (wc := []) (wr := ([(aI g to_ 25 tl), (aI g sm 25 f), (aM g wa 6 (he_ro 6 r2)), (aI g as_ 25 g0), (oX11 m0 0 ta sz_ pl at_ fa fw cs fd rfm rt_ to_ rw_ wa ct rk rb cn br sm as_ go sh_ ir oa ob th ig sp_ ki tg of_ kp sf rs)] ++ (he_pl g L ln M))) (va_runS (As := [.int (nI n)]) (rest := [.ref m0]) ⟨hx, hb, hml, hown, hts⟩ (c_X11_areMonths l g (nI n) H.size) (va_cwS 1 hts gX11_would_X11_areMonths rfl rfl rfl (by decide +kernel) ⟨Nat.le_of_ble_eq_true rfl, Nat.le_of_ble_eq_true rfl⟩) (he_preS (wc := []) hK hP hD hS hA hE [] rfl rfl) rfl rfl hl.1 rfl (lv_room (Nat.le_of_ble_eq_true rfl)) dX11_would_34 ⟨(Nat.le_of_ble_eq_true rfl), (Nat.le_of_ble_eq_true rfl)⟩) hP hD hS hA [] (he_is [0, 1, 2, 3, 4] [(aI g to_ 25 tl), (aI g sm 25 f), (aM g wa 6 (he_ro 6 r2)), (aI g as_ 25 g0), (oX11 m0 0 ta sz_ pl at_ fa fw cs fd rfm rt_ to_ rw_ wa ct rk rb cn br sm as_ go sh_ ir oa ob th ig sp_ ki tg of_ kp sf rs)] (he_pl g L ln M)) rfl (he_ixP rfl) (he_ndP rfl rfl) (he_disN (by decide) rfl) (fun r_6 u_7 H locs h_8 hP hD hS => ?_)
      have hP := va_P.swap hP
      have hD := va_D.swap hD
      subst h_8
      have hP : va_P g.1 vwCl ([(aI g to_ 25 tl), (aI g sm 25 f), (aM g wa 6 (he_ro 6 r2)), (aI g as_ 25 g0), (oX11 m0 0 ta sz_ pl at_ fa fw cs fd rfm rt_ to_ rw_ wa ct rk rb cn br sm as_ go sh_ ir oa ob th ig sp_ ki tg of_ kp sf rs)] ++ he_pl g L ln M) H := hP
      have hD : va_D A ([(aI g to_ 25 tl), (aI g sm 25 f), (aM g wa 6 (he_ro 6 r2)), (aI g as_ 25 g0), (oX11 m0 0 ta sz_ pl at_ fa fw cs fd rfm rt_ to_ rw_ wa ct rk rb cn br sm as_ go sh_ ir oa ob th ig sp_ ki tg of_ kp sf rs)] ++ he_pl g L ln M) := hD
      refine he_top (1) (he_within_in (a0 := 1) (B := 60) rfl rfl (by omega) (by omega) (by decide)) ?_
      refine lv_if_eq (tgt := 50) hx hb dX11_would_37 (by decide) (fun c_9 => ?_) (fun c_9 => ?_)
      · exact absurd c_9 (by decide)
      · refine lv_iload_n hx hb dX11_would_40 rfl (lv_at hl 3 rfl) ?_
        refine lv_iconst (v := 0) hx hb dX11_would_41 (by decide) ?_
        refine lv_bipush (v := 9) hx hb dX11_would_42 (by decide) ?_
        refine he_ci (wc := []) (wr := ([(aI g to_ 25 tl), (aI g sm 25 f), (aM g wa 6 (he_ro 6 r2)), (aI g as_ 25 g0), (oX11 m0 0 ta sz_ pl at_ fa fw cs fd rfm rt_ to_ rw_ wa ct rk rb cn br sm as_ go sh_ ir oa ob th ig sp_ ki tg of_ kp sf rs)] ++ (he_pl g L ln M))) (va_runS (As := [.int (nI k), .int 0, .int 9]) (rest := [.ref m0]) ⟨hx, hb, hml, hown, hts⟩ (c_X11_in l g (nI k) 0 9 H.size) (va_cwS 3 hts gX11_would_X11_in rfl rfl rfl (by decide +kernel) ⟨Nat.le_of_ble_eq_true rfl, Nat.le_of_ble_eq_true rfl⟩) (he_preS (wc := []) hK hP hD hS hA hE [] rfl rfl) rfl rfl hl.1 rfl (lv_room (Nat.le_of_ble_eq_true rfl)) dX11_would_44 ⟨(Nat.le_of_ble_eq_true rfl), (Nat.le_of_ble_eq_true rfl)⟩) hP hD hS hA [] (he_is [0, 1, 2, 3, 4] [(aI g to_ 25 tl), (aI g sm 25 f), (aM g wa 6 (he_ro 6 r2)), (aI g as_ 25 g0), (oX11 m0 0 ta sz_ pl at_ fa fw cs fd rfm rt_ to_ rw_ wa ct rk rb cn br sm as_ go sh_ ir oa ob th ig sp_ ki tg of_ kp sf rs)] (he_pl g L ln M)) rfl (he_ixP rfl) (he_ndP rfl rfl) (he_disN (by decide) rfl) (fun r_10 u_11 H locs h_12 hP hD hS => ?_)
        have hP := va_P.swap hP
        have hD := va_D.swap hD
        subst h_12
        have hP : va_P g.1 vwCl ([(aI g to_ 25 tl), (aI g sm 25 f), (aM g wa 6 (he_ro 6 r2)), (aI g as_ 25 g0), (oX11 m0 0 ta sz_ pl at_ fa fw cs fd rfm rt_ to_ rw_ wa ct rk rb cn br sm as_ go sh_ ir oa ob th ig sp_ ki tg of_ kp sf rs)] ++ he_pl g L ln M) H := hP
        have hD : va_D A ([(aI g to_ 25 tl), (aI g sm 25 f), (aM g wa 6 (he_ro 6 r2)), (aI g as_ 25 g0), (oX11 m0 0 ta sz_ pl at_ fa fw cs fd rfm rt_ to_ rw_ wa ct rk rb cn br sm as_ go sh_ ir oa ob th ig sp_ ki tg of_ kp sf rs)] ++ he_pl g L ln M) := hD
        refine he_top (1) (he_within_in (a0 := 0) (B := 9) rfl rfl (by omega) (by omega) (by decide)) ?_
        refine lv_if_ne (tgt := 54) hx hb dX11_would_47 (by decide) (fun c_13 => ?_) (fun c_13 => ?_)
        · refine lv_iconst (v := 0) hx hb dX11_would_54 (by decide) ?_
          refine lv_iconst (v := 2) hx hb dX11_would_55 (by decide) ?_
          refine lv_iconst (v := 2) hx hb dX11_would_56 (by decide) ?_
          refine he_ci (wc := [(oX11 m0 0 ta sz_ pl at_ fa fw cs fd rfm rt_ to_ rw_ wa ct rk rb cn br sm as_ go sh_ ir oa ob th ig sp_ ki tg of_ kp sf rs)]) (wr := ([(aI g to_ 25 tl), (aI g sm 25 f), (aM g wa 6 (he_ro 6 r2)), (aI g as_ 25 g0)] ++ (he_pl g L ln M))) (va_runV (As := [.int 0, .int 2, .int 2]) (rest := []) ⟨hx, hb, hml, hown, hts⟩ (c_X11_bad0 l g m0 fd rfm rt_ to_ rw_ wa rk rb cn br sm as_ go sh_ ki tg of_ kp rs ta sz_ pl at_ fa fw cs ct ir oa ob th ig sp_ sf 2 2 H.size) (cwV 3 hts gX11_would_X11_bad rfl rfl rfl (by decide +kernel) ⟨Nat.le_of_ble_eq_true rfl, Nat.le_of_ble_eq_true rfl⟩) (he_preV (wc := [(oX11 m0 0 ta sz_ pl at_ fa fw cs fd rfm rt_ to_ rw_ wa ct rk rb cn br sm as_ go sh_ ir oa ob th ig sp_ ki tg of_ kp sf rs)]) hK hP hD hS hA hE [4] rfl rfl 4 rfl rfl) rfl rfl hl.1 rfl (lv_room (Nat.le_of_ble_eq_true rfl)) dX11_would_57 ⟨(Nat.le_of_ble_eq_true rfl), (Nat.le_of_ble_eq_true rfl)⟩) hP hD hS hA [4] (he_is [0, 1, 2, 3] [(aI g to_ 25 tl), (aI g sm 25 f), (aM g wa 6 (he_ro 6 r2)), (aI g as_ 25 g0), (oX11 m0 0 ta sz_ pl at_ fa fw cs fd rfm rt_ to_ rw_ wa ct rk rb cn br sm as_ go sh_ ir oa ob th ig sp_ ki tg of_ kp sf rs)] (he_pl g L ln M)) rfl (he_ixP rfl) (he_ndP rfl rfl) (he_disN (by decide) rfl) (fun r_14 u_15 H locs h_16 hP hD hS => ?_)
          have hP := va_P.swap hP
          have hD := va_D.swap hD
          subst h_16
          have hP : va_P g.1 vwCl ([(aI g to_ 25 tl), (aI g sm 25 f), (aM g wa 6 (he_ro 6 r2)), (aI g as_ 25 g0), (oX11 m0 0 ta sz_ pl at_ fa fw cs fd rfm rt_ to_ rw_ wa ct rk rb cn br sm as_ go sh_ ir oa ob th ig sp_ ki tg of_ kp sf rs)] ++ he_pl g L ln M) H := hP
          have hD : va_D A ([(aI g to_ 25 tl), (aI g sm 25 f), (aM g wa 6 (he_ro 6 r2)), (aI g as_ 25 g0), (oX11 m0 0 ta sz_ pl at_ fa fw cs fd rfm rt_ to_ rw_ wa ct rk rb cn br sm as_ go sh_ ir oa ob th ig sp_ ki tg of_ kp sf rs)] ++ he_pl g L ln M) := hD
          refine lv_if_eq (tgt := 65) hx hb dX11_would_60 (by decide) (fun c_17 => ?_) (fun c_17 => ?_)
          · refine lv_aload_n hx hb dX11_would_65 rfl (lv_at hl 0 rfl) ?_
            refine lv_iload_n hx hb dX11_would_66 rfl (lv_at hl 1 rfl) ?_
            refine lv_iload_n hx hb dX11_would_67 rfl (lv_at hl 2 rfl) ?_
            refine lv_iload_n hx hb dX11_would_68 rfl (lv_at hl 3 rfl) ?_
            refine he_ci (wc := ([(oX11 m0 0 ta sz_ pl at_ fa fw cs fd rfm rt_ to_ rw_ wa ct rk rb cn br sm as_ go sh_ ir oa ob th ig sp_ ki tg of_ kp sf rs), (aI g to_ 25 tl), (aI g sm 25 f), (aM g wa 6 (he_ro 6 r2)), (aI g as_ 25 g0)] ++ (he_pl g L ln M))) (wr := []) (va_runV (As := [.int (-1), .int (nI n), .int (nI k)]) (rest := []) ⟨hx, hb, hml, hown, hts⟩ (h_X11_byN l g m0 fd rfm rt_ to_ rw_ wa rk rb cn br sm as_ go sh_ ki tg of_ kp rs ta sz_ pl at_ fa fw cs ct ir oa ob th ig sp_ sf 0 tl f g0 w L ln M r2 mm n k (by first | assumption | decide | omega) (by first | assumption | decide | omega) (by first | assumption | decide | omega) (by omega) (by omega) (by first | assumption | decide | omega) H.size) (cwV 3 hts gX11_would_X11_by rfl rfl rfl (by decide +kernel) ⟨Nat.le_of_ble_eq_true rfl, Nat.le_of_ble_eq_true rfl⟩) (he_preV (wc := ([(oX11 m0 0 ta sz_ pl at_ fa fw cs fd rfm rt_ to_ rw_ wa ct rk rb cn br sm as_ go sh_ ir oa ob th ig sp_ ki tg of_ kp sf rs), (aI g to_ 25 tl), (aI g sm 25 f), (aM g wa 6 (he_ro 6 r2)), (aI g as_ 25 g0)] ++ (he_pl g L ln M))) hK hP hD hS hA hE (he_is [4, 0, 1, 2, 3] [(aI g to_ 25 tl), (aI g sm 25 f), (aM g wa 6 (he_ro 6 r2)), (aI g as_ 25 g0), (oX11 m0 0 ta sz_ pl at_ fa fw cs fd rfm rt_ to_ rw_ wa ct rk rb cn br sm as_ go sh_ ir oa ob th ig sp_ ki tg of_ kp sf rs)] (he_pl g L ln M)) (he_ixP rfl) (he_ndP rfl rfl) 4 rfl rfl) rfl rfl hl.1 rfl (lv_room (Nat.le_of_ble_eq_true rfl)) dX11_would_69 ⟨(Nat.le_of_ble_eq_true rfl), (Nat.le_of_ble_eq_true rfl)⟩) hP hD hS hA (he_is [4, 0, 1, 2, 3] [(aI g to_ 25 tl), (aI g sm 25 f), (aM g wa 6 (he_ro 6 r2)), (aI g as_ 25 g0), (oX11 m0 0 ta sz_ pl at_ fa fw cs fd rfm rt_ to_ rw_ wa ct rk rb cn br sm as_ go sh_ ir oa ob th ig sp_ ki tg of_ kp sf rs)] (he_pl g L ln M)) [] (he_ixP rfl) rfl rfl (he_disP (by decide) rfl) (fun r_18 u_19 H locs h_20 hP hD hS => ?_)
            obtain ⟨uf_21, ug_22⟩ := u_19
            try dsimp only at h_20
            have hf_23 := h_20
            have hP : va_P g.1 vwCl ([(oX11 m0 0 ta sz_ pl at_ fa fw cs fd rfm rt_ to_ rw_ wa ct rk rb cn br sm as_ go sh_ ir oa ob th ig sp_ ki tg of_ kp sf rs), (aI g to_ 25 tl), (aI g sm 25 uf_21), (aM g wa 6 (he_ro 6 r2)), (aI g as_ 25 ug_22)] ++ he_pl g L ln M) H := hP
            have hD : va_D A ([(oX11 m0 0 ta sz_ pl at_ fa fw cs fd rfm rt_ to_ rw_ wa ct rk rb cn br sm as_ go sh_ ir oa ob th ig sp_ ki tg of_ kp sf rs), (aI g to_ 25 tl), (aI g sm 25 uf_21), (aM g wa 6 (he_ro 6 r2)), (aI g as_ 25 ug_22)] ++ he_pl g L ln M) := hD
            exact he_ri hQ hx hb hr hlk hP hD hS dX11_would_72 (Nat.le_of_ble_eq_true rfl) (Nat.le_of_ble_eq_true rfl) ((uf_21, ug_22)) (rfl) (by (try dsimp only); exact hf_23)
          · exact absurd (by decide) c_17
        · exact absurd c_13 (by decide)
  · exact absurd (by decide) c_1
set_option maxHeartbeats 4000000 in
set_option maxRecDepth 100000 in
theorem h_X11_best (l : Launch) (g : he_G) (m0 : Nat) (fd : Nat) (rfm : Nat) (rt_ : Nat) (to_ : Nat) (rw_ : Nat) (wa : Nat) (rk : Nat) (rb : Nat) (cn : Nat) (br : Nat) (sm : Nat) (as_ : Nat) (go : Nat) (sh_ : Nat) (ki : Nat) (tg : Nat) (of_ : Nat) (kp : Nat) (rs : Nat) (ta : Int32) (sz_ : Int32) (pl : Int32) (at_ : Int32) (fa : Int32) (fw : Int32) (cs : Int32) (ir : Int32) (oa : Int32) (ob : Int32) (th : Int32) (ig : Int32) (sp_ : Int32) (sf : Int32) (tw : Int32) (nt : Nat) (tl : Nat → Int32) (f : Nat → Int32) (g0 : Nat → Int32) (w : Nat) (L : List Nat) (ln : Nat → Nat) (M : Nat → Nat → Int32) (r2 : Nat → Nat) (r3 : Nat → Nat) (r4 : Nat → Nat) (r6 : Nat → Nat) (mm : Nat) (n : Nat) (TQ : Nat → Nat) (wh : Int32) (htl : tl 0 = nI w) (hw6 : w ≤ 6) (h24 : f 24 = nI mm) (hm120 : mm ≤ 120) (hir : ir = 0) (hnt : nt ≤ 6) (hca : conAll r3 r4 TQ M nt) (hn1 : 1 ≤ n) (hn2 : n ≤ 60) (hok0 : ¬ he_within wh 0 1 = 0) (F_r2 : ∀ i, i < 6 → r2 i ∈ L ∧ ln (r2 i) = 2 ∧ True) (F_r3 : ∀ i, i < 7 → r3 i ∈ L ∧ ln (r3 i) = 7 ∧ True) (F_r4 : ∀ i, i < 7 → r4 i ∈ L ∧ ln (r4 i) = 36 ∧ True) (F_r6 : ∀ i, i < 120 → r6 i ∈ L ∧ ln (r6 i) = 6 ∧ True) (D_r3_r6 : ∀ i j, i < 7 → j < 120 → r3 i ≠ r6 j) (D_r4_r6 : ∀ i j, i < 7 → j < 120 → r4 i ≠ r6 j) : he_I l yX11_best wsX11_best 7 160 0 0 g [.ref m0, .int (nI n), .int wh] ([(oX11 m0 tw ta sz_ pl at_ fa fw cs fd rfm rt_ to_ rw_ wa (nI nt) rk rb cn br sm as_ go sh_ ir oa ob th ig sp_ ki tg of_ kp sf rs), (aI g to_ 25 tl), (aI g sm 25 f), (aM g wa 6 (he_ro 6 r2)), (aM g sh_ 120 (he_ro 120 r6)), (aM g cn 7 (he_ro 7 r3)), (aM g br 7 (he_ro 7 r4)), (aI g as_ 25 g0)] ++ he_pl g L ln M) (fun (r : Int32) (u : (Nat → Int32) × (Nat → Int32) × (Nat → Nat → Int32)) => a25 f u.1 ∧ mEx r6 120 M u.2.2 ∧ u.2.2 = M) (fun (u : (Nat → Int32) × (Nat → Int32) × (Nat → Nat → Int32)) => [(oX11 m0 0 ta sz_ pl at_ fa fw cs fd rfm rt_ to_ rw_ wa (nI nt) rk rb cn br sm as_ go sh_ ir oa ob th ig sp_ ki tg of_ kp sf rs), (aI g to_ 25 tl), (aI g sm 25 u.1), (aM g wa 6 (he_ro 6 r2)), (aM g sh_ 120 (he_ro 120 r6)), (aM g cn 7 (he_ro 7 r3)), (aM g br 7 (he_ro 7 r4)), (aI g as_ 25 u.2.1)] ++ he_pl g L ln u.2.2) := by
  refine he_begin (l := l) (g := g) (y := yX11_best) (wl := wsX11_best) (fr := 7) (lo := 160) (mc := 0) (ms := 0) (av := [.ref m0, .int (nI n), .int wh]) (ws := ([(oX11 m0 tw ta sz_ pl at_ fa fw cs fd rfm rt_ to_ rw_ wa (nI nt) rk rb cn br sm as_ go sh_ ir oa ob th ig sp_ ki tg of_ kp sf rs), (aI g to_ 25 tl), (aI g sm 25 f), (aM g wa 6 (he_ro 6 r2)), (aM g sh_ 120 (he_ro 120 r6)), (aM g cn 7 (he_ro 7 r3)), (aM g br 7 (he_ro 7 r4)), (aI g as_ 25 g0)] ++ he_pl g L ln M)) (cc := cX11_best) (maxL := 7) (ret := (some .int)) (fun A => va_Qi (fun (r : Int32) (u : (Nat → Int32) × (Nat → Int32) × (Nat → Nat → Int32)) => a25 f u.1 ∧ mEx r6 120 M u.2.2 ∧ u.2.2 = M) (fun u t => he_post g A ((fun (u : (Nat → Int32) × (Nat → Int32) × (Nat → Nat → Int32)) => [(oX11 m0 0 ta sz_ pl at_ fa fw cs fd rfm rt_ to_ rw_ wa (nI nt) rk rb cn br sm as_ go sh_ ir oa ob th ig sp_ ki tg of_ kp sf rs), (aI g to_ 25 tl), (aI g sm 25 u.1), (aM g wa 6 (he_ro 6 r2)), (aM g sh_ 120 (he_ro 120 r6)), (aM g cn 7 (he_ro 7 r3)), (aM g br 7 (he_ro 7 r4)), (aI g as_ 25 u.2.1)] ++ he_pl g L ln u.2.2) u) t) A) (by decide) rfl (Nat.le_of_ble_eq_true rfl) ?_
  intro p e s m args below meth c A ls H locs Q hQ hB
  obtain ⟨hx, hb, hr, hml, hown, hts, hlk, hin, hP, hK, hD, hS, hA, hE, hl⟩ := hB
  have hl : lv_has ls 7 [(0, .ref m0), (1, .int (nI n)), (2, .int wh)] := hl
  have f85 := hts (.fieldLink RX11 85 "HiredEnemyModel" "thrown" "I") (iwoX11_best (k := 0) rfl)
  have inX11 : ∀ w ∈ wsX110, w ∈ wsX11_best := innX11_best_X11
  have f162 := hts (.fieldLink RX11 162 "HiredEnemyModel" "contracts" "I") (iwoX11_best (k := 1) rfl)
  refine lv_aload_n hx hb dX11_best_0 rfl (lv_at hl 0 rfl) ?_
  refine lv_iconst (v := 0) hx hb dX11_best_1 (by decide) ?_
  refine va_put (v := .int 0) (ty := .int) (T := TX11) (N := 35) hx hb hts inX11 tyX11 tyX11_ok nmX11 hown hK hP hD hS 0 rfl rfl 0 (by decide) f85 (fun _ h9 => h9) rfl (by decide +kernel) rfl rfl (Nat.le_of_ble_eq_true rfl) dX11_best_2 (fun H locs hP hD hS => ?_)
  have hP : va_P g.1 vwCl ([(oX11 m0 0 ta sz_ pl at_ fa fw cs fd rfm rt_ to_ rw_ wa (nI nt) rk rb cn br sm as_ go sh_ ir oa ob th ig sp_ ki tg of_ kp sf rs), (aI g to_ 25 tl), (aI g sm 25 f), (aM g wa 6 (he_ro 6 r2)), (aM g sh_ 120 (he_ro 120 r6)), (aM g cn 7 (he_ro 7 r3)), (aM g br 7 (he_ro 7 r4)), (aI g as_ 25 g0)] ++ he_pl g L ln M) H := hP
  have hD : va_D A ([(oX11 m0 0 ta sz_ pl at_ fa fw cs fd rfm rt_ to_ rw_ wa (nI nt) rk rb cn br sm as_ go sh_ ir oa ob th ig sp_ ki tg of_ kp sf rs), (aI g to_ 25 tl), (aI g sm 25 f), (aM g wa 6 (he_ro 6 r2)), (aM g sh_ 120 (he_ro 120 r6)), (aM g cn 7 (he_ro 7 r3)), (aM g br 7 (he_ro 7 r4)), (aI g as_ 25 g0)] ++ he_pl g L ln M) := hD
  refine lv_aload_n hx hb dX11_best_5 rfl (lv_at hl 0 rfl) ?_
  refine lv_iload_n hx hb dX11_best_6 rfl (lv_at hl 1 rfl) ?_
  refine he_ci (wc := []) (wr := ([(oX11 m0 0 ta sz_ pl at_ fa fw cs fd rfm rt_ to_ rw_ wa (nI nt) rk rb cn br sm as_ go sh_ ir oa ob th ig sp_ ki tg of_ kp sf rs), (aI g to_ 25 tl), (aI g sm 25 f), (aM g wa 6 (he_ro 6 r2)), (aM g sh_ 120 (he_ro 120 r6)), (aM g cn 7 (he_ro 7 r3)), (aM g br 7 (he_ro 7 r4)), (aI g as_ 25 g0)] ++ (he_pl g L ln M))) (va_runS (As := [.int (nI n)]) (rest := [.ref m0]) ⟨hx, hb, hml, hown, hts⟩ (c_X11_areMonths l g (nI n) H.size) (va_cwS 1 hts gX11_best_X11_areMonths rfl rfl rfl (by decide +kernel) ⟨Nat.le_of_ble_eq_true rfl, Nat.le_of_ble_eq_true rfl⟩) (he_preS (wc := []) hK hP hD hS hA hE [] rfl rfl) rfl rfl hl.1 rfl (lv_room (Nat.le_of_ble_eq_true rfl)) dX11_best_7 ⟨(Nat.le_of_ble_eq_true rfl), (Nat.le_of_ble_eq_true rfl)⟩) hP hD hS hA [] (he_is [0, 1, 2, 3, 4, 5, 6, 7] [(oX11 m0 0 ta sz_ pl at_ fa fw cs fd rfm rt_ to_ rw_ wa (nI nt) rk rb cn br sm as_ go sh_ ir oa ob th ig sp_ ki tg of_ kp sf rs), (aI g to_ 25 tl), (aI g sm 25 f), (aM g wa 6 (he_ro 6 r2)), (aM g sh_ 120 (he_ro 120 r6)), (aM g cn 7 (he_ro 7 r3)), (aM g br 7 (he_ro 7 r4)), (aI g as_ 25 g0)] (he_pl g L ln M)) rfl (he_ixP rfl) (he_ndP rfl rfl) (he_disN (by decide) rfl) (fun r_1 u_2 H locs h_3 hP hD hS => ?_)
  have hP := va_P.swap hP
  have hD := va_D.swap hD
  subst h_3
  have hP : va_P g.1 vwCl ([(oX11 m0 0 ta sz_ pl at_ fa fw cs fd rfm rt_ to_ rw_ wa (nI nt) rk rb cn br sm as_ go sh_ ir oa ob th ig sp_ ki tg of_ kp sf rs), (aI g to_ 25 tl), (aI g sm 25 f), (aM g wa 6 (he_ro 6 r2)), (aM g sh_ 120 (he_ro 120 r6)), (aM g cn 7 (he_ro 7 r3)), (aM g br 7 (he_ro 7 r4)), (aI g as_ 25 g0)] ++ he_pl g L ln M) H := hP
  have hD : va_D A ([(oX11 m0 0 ta sz_ pl at_ fa fw cs fd rfm rt_ to_ rw_ wa (nI nt) rk rb cn br sm as_ go sh_ ir oa ob th ig sp_ ki tg of_ kp sf rs), (aI g to_ 25 tl), (aI g sm 25 f), (aM g wa 6 (he_ro 6 r2)), (aM g sh_ 120 (he_ro 120 r6)), (aM g cn 7 (he_ro 7 r3)), (aM g br 7 (he_ro 7 r4)), (aI g as_ 25 g0)] ++ he_pl g L ln M) := hD
  refine he_top (1) (he_within_in (a0 := 1) (B := 60) rfl rfl (by omega) (by omega) (by decide)) ?_
  refine lv_if_eq (tgt := 22) hx hb dX11_best_10 (by decide) (fun c_4 => ?_) (fun c_4 => ?_)
  · exact absurd c_4 (by decide)
  · refine lv_iload_n hx hb dX11_best_13 rfl (lv_at hl 2 rfl) ?_
    refine lv_iconst (v := 0) hx hb dX11_best_14 (by decide) ?_
    refine lv_iconst (v := 1) hx hb dX11_best_15 (by decide) ?_
    refine he_ci (wc := []) (wr := ([(oX11 m0 0 ta sz_ pl at_ fa fw cs fd rfm rt_ to_ rw_ wa (nI nt) rk rb cn br sm as_ go sh_ ir oa ob th ig sp_ ki tg of_ kp sf rs), (aI g to_ 25 tl), (aI g sm 25 f), (aM g wa 6 (he_ro 6 r2)), (aM g sh_ 120 (he_ro 120 r6)), (aM g cn 7 (he_ro 7 r3)), (aM g br 7 (he_ro 7 r4)), (aI g as_ 25 g0)] ++ (he_pl g L ln M))) (va_runS (As := [.int wh, .int 0, .int 1]) (rest := [.ref m0]) ⟨hx, hb, hml, hown, hts⟩ (c_X11_in l g wh 0 1 H.size) (va_cwS 3 hts gX11_best_X11_in rfl rfl rfl (by decide +kernel) ⟨Nat.le_of_ble_eq_true rfl, Nat.le_of_ble_eq_true rfl⟩) (he_preS (wc := []) hK hP hD hS hA hE [] rfl rfl) rfl rfl hl.1 rfl (lv_room (Nat.le_of_ble_eq_true rfl)) dX11_best_16 ⟨(Nat.le_of_ble_eq_true rfl), (Nat.le_of_ble_eq_true rfl)⟩) hP hD hS hA [] (he_is [0, 1, 2, 3, 4, 5, 6, 7] [(oX11 m0 0 ta sz_ pl at_ fa fw cs fd rfm rt_ to_ rw_ wa (nI nt) rk rb cn br sm as_ go sh_ ir oa ob th ig sp_ ki tg of_ kp sf rs), (aI g to_ 25 tl), (aI g sm 25 f), (aM g wa 6 (he_ro 6 r2)), (aM g sh_ 120 (he_ro 120 r6)), (aM g cn 7 (he_ro 7 r3)), (aM g br 7 (he_ro 7 r4)), (aI g as_ 25 g0)] (he_pl g L ln M)) rfl (he_ixP rfl) (he_ndP rfl rfl) (he_disN (by decide) rfl) (fun r_5 u_6 H locs h_7 hP hD hS => ?_)
    have hP := va_P.swap hP
    have hD := va_D.swap hD
    subst h_7
    have hP : va_P g.1 vwCl ([(oX11 m0 0 ta sz_ pl at_ fa fw cs fd rfm rt_ to_ rw_ wa (nI nt) rk rb cn br sm as_ go sh_ ir oa ob th ig sp_ ki tg of_ kp sf rs), (aI g to_ 25 tl), (aI g sm 25 f), (aM g wa 6 (he_ro 6 r2)), (aM g sh_ 120 (he_ro 120 r6)), (aM g cn 7 (he_ro 7 r3)), (aM g br 7 (he_ro 7 r4)), (aI g as_ 25 g0)] ++ he_pl g L ln M) H := hP
    have hD : va_D A ([(oX11 m0 0 ta sz_ pl at_ fa fw cs fd rfm rt_ to_ rw_ wa (nI nt) rk rb cn br sm as_ go sh_ ir oa ob th ig sp_ ki tg of_ kp sf rs), (aI g to_ 25 tl), (aI g sm 25 f), (aM g wa 6 (he_ro 6 r2)), (aM g sh_ 120 (he_ro 120 r6)), (aM g cn 7 (he_ro 7 r3)), (aM g br 7 (he_ro 7 r4)), (aI g as_ 25 g0)] ++ he_pl g L ln M) := hD
    refine he_top (1) (he_within_1 hok0) ?_
    refine lv_if_ne (tgt := 26) hx hb dX11_best_19 (by decide) (fun c_8 => ?_) (fun c_8 => ?_)
    · refine lv_iconst (v := 0) hx hb dX11_best_26 (by decide) ?_
      refine lv_iconst (v := 1) hx hb dX11_best_27 (by decide) ?_
      refine lv_iconst (v := 2) hx hb dX11_best_28 (by decide) ?_
      refine he_ci (wc := [(oX11 m0 0 ta sz_ pl at_ fa fw cs fd rfm rt_ to_ rw_ wa (nI nt) rk rb cn br sm as_ go sh_ ir oa ob th ig sp_ ki tg of_ kp sf rs)]) (wr := ([(aI g to_ 25 tl), (aI g sm 25 f), (aM g wa 6 (he_ro 6 r2)), (aM g sh_ 120 (he_ro 120 r6)), (aM g cn 7 (he_ro 7 r3)), (aM g br 7 (he_ro 7 r4)), (aI g as_ 25 g0)] ++ (he_pl g L ln M))) (va_runV (As := [.int 0, .int 1, .int 2]) (rest := []) ⟨hx, hb, hml, hown, hts⟩ (c_X11_bad0 l g m0 fd rfm rt_ to_ rw_ wa rk rb cn br sm as_ go sh_ ki tg of_ kp rs ta sz_ pl at_ fa fw cs (nI nt) ir oa ob th ig sp_ sf 1 2 H.size) (cwV 3 hts gX11_best_X11_bad rfl rfl rfl (by decide +kernel) ⟨Nat.le_of_ble_eq_true rfl, Nat.le_of_ble_eq_true rfl⟩) (he_preV (wc := [(oX11 m0 0 ta sz_ pl at_ fa fw cs fd rfm rt_ to_ rw_ wa (nI nt) rk rb cn br sm as_ go sh_ ir oa ob th ig sp_ ki tg of_ kp sf rs)]) hK hP hD hS hA hE [0] rfl rfl 0 rfl rfl) rfl rfl hl.1 rfl (lv_room (Nat.le_of_ble_eq_true rfl)) dX11_best_29 ⟨(Nat.le_of_ble_eq_true rfl), (Nat.le_of_ble_eq_true rfl)⟩) hP hD hS hA [0] (he_is [1, 2, 3, 4, 5, 6, 7] [(oX11 m0 0 ta sz_ pl at_ fa fw cs fd rfm rt_ to_ rw_ wa (nI nt) rk rb cn br sm as_ go sh_ ir oa ob th ig sp_ ki tg of_ kp sf rs), (aI g to_ 25 tl), (aI g sm 25 f), (aM g wa 6 (he_ro 6 r2)), (aM g sh_ 120 (he_ro 120 r6)), (aM g cn 7 (he_ro 7 r3)), (aM g br 7 (he_ro 7 r4)), (aI g as_ 25 g0)] (he_pl g L ln M)) rfl (he_ixP rfl) (he_ndP rfl rfl) (he_disN (by decide) rfl) (fun r_9 u_10 H locs h_11 hP hD hS => ?_)
      have hP := va_P.swap hP
      have hD := va_D.swap hD
      subst h_11
      have hP : va_P g.1 vwCl ([(aI g to_ 25 tl), (aI g sm 25 f), (aM g wa 6 (he_ro 6 r2)), (aM g sh_ 120 (he_ro 120 r6)), (aM g cn 7 (he_ro 7 r3)), (aM g br 7 (he_ro 7 r4)), (aI g as_ 25 g0), (oX11 m0 0 ta sz_ pl at_ fa fw cs fd rfm rt_ to_ rw_ wa (nI nt) rk rb cn br sm as_ go sh_ ir oa ob th ig sp_ ki tg of_ kp sf rs)] ++ he_pl g L ln M) H := hP
      have hD : va_D A ([(aI g to_ 25 tl), (aI g sm 25 f), (aM g wa 6 (he_ro 6 r2)), (aM g sh_ 120 (he_ro 120 r6)), (aM g cn 7 (he_ro 7 r3)), (aM g br 7 (he_ro 7 r4)), (aI g as_ 25 g0), (oX11 m0 0 ta sz_ pl at_ fa fw cs fd rfm rt_ to_ rw_ wa (nI nt) rk rb cn br sm as_ go sh_ ir oa ob th ig sp_ ki tg of_ kp sf rs)] ++ he_pl g L ln M) := hD
      refine lv_if_eq (tgt := 37) hx hb dX11_best_32 (by decide) (fun c_12 => ?_) (fun c_12 => ?_)
      · refine lv_iconst (v := (-1)) hx hb dX11_best_37 (by decide) ?_
        refine lv_istore_n (lv' := [(3, .int (-1)), (0, .ref m0), (1, .int (nI n)), (2, .int wh)]) hx hb dX11_best_38 rfl hl (by decide) rfl (fun ls hl => ?_)
        refine lv_aload_n hx hb dX11_best_39 rfl (lv_at hl 1 rfl) ?_
        refine lv_iconst (v := (-1)) hx hb dX11_best_40 (by decide) ?_
        refine lv_iload_n hx hb dX11_best_41 rfl (lv_at hl 2 rfl) ?_
        refine lv_iconst (v := 0) hx hb dX11_best_42 (by decide) ?_
        refine he_ci (wc := ([(oX11 m0 0 ta sz_ pl at_ fa fw cs fd rfm rt_ to_ rw_ wa (nI nt) rk rb cn br sm as_ go sh_ ir oa ob th ig sp_ ki tg of_ kp sf rs), (aI g to_ 25 tl), (aI g sm 25 f), (aM g wa 6 (he_ro 6 r2)), (aI g as_ 25 g0)] ++ (he_pl g L ln M))) (wr := [(aM g sh_ 120 (he_ro 120 r6)), (aM g cn 7 (he_ro 7 r3)), (aM g br 7 (he_ro 7 r4))]) (va_runV (As := [.int (-1), .int (nI n), .int 0]) (rest := []) ⟨hx, hb, hml, hown, hts⟩ (h_X11_byN l g m0 fd rfm rt_ to_ rw_ wa rk rb cn br sm as_ go sh_ ki tg of_ kp rs ta sz_ pl at_ fa fw cs (nI nt) ir oa ob th ig sp_ sf 0 tl f g0 w L ln M r2 mm n 0 (by first | assumption | decide | omega) (by first | assumption | decide | omega) (by first | assumption | decide | omega) (by omega) (by decide) (by first | assumption | decide | omega) H.size) (cwV 3 hts gX11_best_X11_by rfl rfl rfl (by decide +kernel) ⟨Nat.le_of_ble_eq_true rfl, Nat.le_of_ble_eq_true rfl⟩) (he_preV (wc := ([(oX11 m0 0 ta sz_ pl at_ fa fw cs fd rfm rt_ to_ rw_ wa (nI nt) rk rb cn br sm as_ go sh_ ir oa ob th ig sp_ ki tg of_ kp sf rs), (aI g to_ 25 tl), (aI g sm 25 f), (aM g wa 6 (he_ro 6 r2)), (aI g as_ 25 g0)] ++ (he_pl g L ln M))) hK hP hD hS hA hE (he_is [7, 0, 1, 2, 6] [(aI g to_ 25 tl), (aI g sm 25 f), (aM g wa 6 (he_ro 6 r2)), (aM g sh_ 120 (he_ro 120 r6)), (aM g cn 7 (he_ro 7 r3)), (aM g br 7 (he_ro 7 r4)), (aI g as_ 25 g0), (oX11 m0 0 ta sz_ pl at_ fa fw cs fd rfm rt_ to_ rw_ wa (nI nt) rk rb cn br sm as_ go sh_ ir oa ob th ig sp_ ki tg of_ kp sf rs)] (he_pl g L ln M)) (he_ixP rfl) (he_ndP rfl rfl) 7 rfl rfl) rfl rfl hl.1 rfl (lv_room (Nat.le_of_ble_eq_true rfl)) dX11_best_43 ⟨(Nat.le_of_ble_eq_true rfl), (Nat.le_of_ble_eq_true rfl)⟩) hP hD hS hA (he_is [7, 0, 1, 2, 6] [(aI g to_ 25 tl), (aI g sm 25 f), (aM g wa 6 (he_ro 6 r2)), (aM g sh_ 120 (he_ro 120 r6)), (aM g cn 7 (he_ro 7 r3)), (aM g br 7 (he_ro 7 r4)), (aI g as_ 25 g0), (oX11 m0 0 ta sz_ pl at_ fa fw cs fd rfm rt_ to_ rw_ wa (nI nt) rk rb cn br sm as_ go sh_ ir oa ob th ig sp_ ki tg of_ kp sf rs)] (he_pl g L ln M)) [3, 4, 5] (he_ixP rfl) rfl rfl (he_disP (by decide) rfl) (fun r_13 u_14 H locs h_15 hP hD hS => ?_)
        obtain ⟨uf_16, ug_17⟩ := u_14
        try dsimp only at h_15
        have hf_18 := h_15
        have hP : va_P g.1 vwCl ([(aM g sh_ 120 (he_ro 120 r6)), (aM g cn 7 (he_ro 7 r3)), (aM g br 7 (he_ro 7 r4)), (oX11 m0 0 ta sz_ pl at_ fa fw cs fd rfm rt_ to_ rw_ wa (nI nt) rk rb cn br sm as_ go sh_ ir oa ob th ig sp_ ki tg of_ kp sf rs), (aI g to_ 25 tl), (aI g sm 25 uf_16), (aM g wa 6 (he_ro 6 r2)), (aI g as_ 25 ug_17)] ++ he_pl g L ln M) H := hP
        have hD : va_D A ([(aM g sh_ 120 (he_ro 120 r6)), (aM g cn 7 (he_ro 7 r3)), (aM g br 7 (he_ro 7 r4)), (oX11 m0 0 ta sz_ pl at_ fa fw cs fd rfm rt_ to_ rw_ wa (nI nt) rk rb cn br sm as_ go sh_ ir oa ob th ig sp_ ki tg of_ kp sf rs), (aI g to_ 25 tl), (aI g sm 25 uf_16), (aM g wa 6 (he_ro 6 r2)), (aI g as_ 25 ug_17)] ++ he_pl g L ln M) := hD
        refine lv_istore (lv' := [(4, .int r_13), (3, .int (-1)), (0, .ref m0), (1, .int (nI n)), (2, .int wh)]) hx hb dX11_best_46 hl (by decide) rfl (fun ls hl => ?_)
        refine lv_aload_n hx hb dX11_best_48 rfl (lv_at hl 2 rfl) ?_
        refine va_get (v := .int (nI nt)) (T := TX11) (N := 35) hx hb hts inX11 hown hK hP 3 rfl rfl 14 (by decide) f162 (fun _ h9 => h9) rfl dX11_best_49 ?_
        refine lv_iconst (v := 1) hx hb dX11_best_52 (by decide) ?_
        refine lv_isub hx hb dX11_best_53 ?_
        refine lv_istore (lv' := [(5, .int ((nI nt) - 1)), (4, .int r_13), (3, .int (-1)), (0, .ref m0), (1, .int (nI n)), (2, .int wh)]) hx hb dX11_best_54 hl (by decide) rfl (fun ls hl => ?_)
        have loop56 : ∀ (n9 : Nat) (i9 : Nat) (cm : Int32) (be : Int32) (ms : Int32) (F : Nat → Int32) (Gs : Nat → Int32) (Mj : Nat → Nat → Int32), i9 < n9 → (i9 ≤ nt) → (cm = nI i9 - 1) → (a25 f F) → (mEx r6 120 M Mj) → (Mj = M) → ∀ (H : Heap) (locs : List Loc) (ls : Array Slot), va_P g.1 vwCl ([(oX11 m0 0 ta sz_ pl at_ fa fw cs fd rfm rt_ to_ rw_ wa (nI nt) rk rb cn br sm as_ go sh_ ir oa ob th ig sp_ ki tg of_ kp sf rs), (aI g to_ 25 tl), (aI g sm 25 F), (aM g wa 6 (he_ro 6 r2)), (aM g sh_ 120 (he_ro 120 r6)), (aM g cn 7 (he_ro 7 r3)), (aM g br 7 (he_ro 7 r4)), (aI g as_ 25 Gs)] ++ he_pl g L ln Mj) H → va_D A ([(oX11 m0 0 ta sz_ pl at_ fa fw cs fd rfm rt_ to_ rw_ wa (nI nt) rk rb cn br sm as_ go sh_ ir oa ob th ig sp_ ki tg of_ kp sf rs), (aI g to_ 25 tl), (aI g sm 25 F), (aM g wa 6 (he_ro 6 r2)), (aM g sh_ 120 (he_ro 120 r6)), (aM g cn 7 (he_ro 7 r3)), (aM g br 7 (he_ro 7 r4)), (aI g as_ 25 Gs)] ++ he_pl g L ln Mj) → va_S A s.heap H locs → lv_has ls 7 [(0, .ref m0), (1, .int (nI n)), (2, .int wh), (3, .int be), (4, .int ms), (5, .int cm)] → W p l e (he_room 7 160 0 0) s m args below meth c H locs 0 0 Q (F0 m 56 ls []) := by
          intro n9
          induction n9 with
          | zero => intro i9 cm be ms F Gs Mj hm9; exact absurd hm9 (Nat.not_lt_zero _)
          | succ n9 ih56 =>
            intro i9 cm be ms F Gs Mj hm9 hi9 hmo hF hmx hzz H locs ls hP hD hS hl
            refine lv_iload hx hb dX11_best_56 (lv_at hl 5 rfl) ?_
            refine lv_if_lt (tgt := 94) hx hb dX11_best_58 (by decide) (fun c_19 => ?_) (fun c_19 => ?_)
            · refine lv_iload_n hx hb dX11_best_94 rfl (lv_at hl 2 rfl) ?_
              refine lv_if_ne (tgt := 102) hx hb dX11_best_95 (by decide) (fun c_20 => ?_) (fun c_20 => ?_)
              · refine lv_iload hx hb dX11_best_102 (lv_at hl 4 rfl) ?_
                exact he_ri hQ hx hb hr hlk hP hD hS dX11_best_104 (Nat.le_of_ble_eq_true rfl) (Nat.le_of_ble_eq_true rfl) ((F, Gs, Mj)) (rfl) (by (try dsimp only); exact ⟨hF, hmx, hzz⟩)
              · refine lv_iload_n hx hb dX11_best_98 rfl (lv_at hl 3 rfl) ?_
                refine lv_goto (tgt := 104) hx hb dX11_best_99 (by decide) ?_
                exact he_ri hQ hx hb hr hlk hP hD hS dX11_best_104 (Nat.le_of_ble_eq_true rfl) (Nat.le_of_ble_eq_true rfl) ((F, Gs, Mj)) (rfl) (by (try dsimp only); exact ⟨hF, hmx, hzz⟩)
            · obtain ⟨c9, rfl, rfl⟩ := he_down hmo c_19
              obtain ⟨hb9, ⟨q29, hq29, e29⟩, ⟨ck9, hck9, e39⟩, e59, hq0, hq36⟩ := hca c9 (by omega)
              refine lv_aload_n hx hb dX11_best_61 rfl (lv_at hl 0 rfl) ?_
              refine lv_iload hx hb dX11_best_62 (lv_at hl 5 rfl) ?_
              refine lv_iload_n hx hb dX11_best_64 rfl (lv_at hl 1 rfl) ?_
              refine lv_iconst (v := 0) hx hb dX11_best_65 (by decide) ?_
              refine he_ci (wc := ([(oX11 m0 0 ta sz_ pl at_ fa fw cs fd rfm rt_ to_ rw_ wa (nI nt) rk rb cn br sm as_ go sh_ ir oa ob th ig sp_ ki tg of_ kp sf rs), (aI g to_ 25 tl), (aI g sm 25 F), (aM g wa 6 (he_ro 6 r2)), (aM g sh_ 120 (he_ro 120 r6)), (aM g cn 7 (he_ro 7 r3)), (aM g br 7 (he_ro 7 r4)), (aI g as_ 25 Gs)] ++ (he_pl g L ln Mj))) (wr := []) (va_runV (As := [.int (nI c9), .int (nI n), .int 0]) (rest := []) ⟨hx, hb, hml, hown, hts⟩ (h_X11_by l g m0 fd rfm rt_ to_ rw_ wa rk rb cn br sm as_ go sh_ ki tg of_ kp rs ta sz_ pl at_ fa fw cs (nI nt) ir oa ob th ig sp_ sf 0 tl F Gs w L ln Mj r2 r3 r4 r6 c9 q29 ck9 (TQ c9) mm n 0 (by first | assumption | decide | omega) (by first | assumption | decide | omega) (by omega) (by rw [hmx _ (fun i hi => D_r4_r6 c9 i (by omega) hi)]; exact hb9) (by rw [hmx _ (fun i hi => D_r3_r6 c9 i (by omega) hi)]; exact e29) hq29 (by rw [hmx _ (fun i hi => D_r3_r6 c9 i (by omega) hi)]; exact e39) hck9 (by rw [hmx _ (fun i hi => D_r3_r6 c9 i (by omega) hi)]; exact e59) hq36 hq0 (a25_24 hF h24) (by omega) (by first | assumption | decide | omega) (by decide) (by first | assumption | decide | omega) (by first | assumption | decide | omega) (by first | assumption | decide | omega) (by first | assumption | decide | omega) (by first | assumption | decide | omega) (by first | assumption | decide | omega) H.size) (cwV 3 hts gX11_best_X11_by rfl rfl rfl (by decide +kernel) ⟨Nat.le_of_ble_eq_true rfl, Nat.le_of_ble_eq_true rfl⟩) (he_preV (wc := ([(oX11 m0 0 ta sz_ pl at_ fa fw cs fd rfm rt_ to_ rw_ wa (nI nt) rk rb cn br sm as_ go sh_ ir oa ob th ig sp_ ki tg of_ kp sf rs), (aI g to_ 25 tl), (aI g sm 25 F), (aM g wa 6 (he_ro 6 r2)), (aM g sh_ 120 (he_ro 120 r6)), (aM g cn 7 (he_ro 7 r3)), (aM g br 7 (he_ro 7 r4)), (aI g as_ 25 Gs)] ++ (he_pl g L ln Mj))) hK hP hD hS hA hE (he_is [0, 1, 2, 3, 4, 5, 6, 7] [(oX11 m0 0 ta sz_ pl at_ fa fw cs fd rfm rt_ to_ rw_ wa (nI nt) rk rb cn br sm as_ go sh_ ir oa ob th ig sp_ ki tg of_ kp sf rs), (aI g to_ 25 tl), (aI g sm 25 F), (aM g wa 6 (he_ro 6 r2)), (aM g sh_ 120 (he_ro 120 r6)), (aM g cn 7 (he_ro 7 r3)), (aM g br 7 (he_ro 7 r4)), (aI g as_ 25 Gs)] (he_pl g L ln Mj)) (he_ixP rfl) (he_ndP rfl rfl) 0 rfl rfl) rfl rfl hl.1 rfl (lv_room (Nat.le_of_ble_eq_true rfl)) dX11_best_66 ⟨(Nat.le_of_ble_eq_true rfl), (Nat.le_of_ble_eq_true rfl)⟩) hP hD hS hA (he_is [0, 1, 2, 3, 4, 5, 6, 7] [(oX11 m0 0 ta sz_ pl at_ fa fw cs fd rfm rt_ to_ rw_ wa (nI nt) rk rb cn br sm as_ go sh_ ir oa ob th ig sp_ ki tg of_ kp sf rs), (aI g to_ 25 tl), (aI g sm 25 F), (aM g wa 6 (he_ro 6 r2)), (aM g sh_ 120 (he_ro 120 r6)), (aM g cn 7 (he_ro 7 r3)), (aM g br 7 (he_ro 7 r4)), (aI g as_ 25 Gs)] (he_pl g L ln Mj)) [] (he_ixP rfl) rfl rfl (he_disP (by decide) rfl) (fun r_21 u_22 H locs h_23 hP hD hS => ?_)
              obtain ⟨uf_24, ug_25, Mu_26⟩ := u_22
              try dsimp only at h_23
              obtain ⟨hf_27, hf_28, hf_29⟩ := h_23
              have hP : va_P g.1 vwCl ([(oX11 m0 0 ta sz_ pl at_ fa fw cs fd rfm rt_ to_ rw_ wa (nI nt) rk rb cn br sm as_ go sh_ ir oa ob th ig sp_ ki tg of_ kp sf rs), (aI g to_ 25 tl), (aI g sm 25 uf_24), (aM g wa 6 (he_ro 6 r2)), (aM g sh_ 120 (he_ro 120 r6)), (aM g cn 7 (he_ro 7 r3)), (aM g br 7 (he_ro 7 r4)), (aI g as_ 25 ug_25)] ++ he_pl g L ln Mu_26) H := hP
              have hD : va_D A ([(oX11 m0 0 ta sz_ pl at_ fa fw cs fd rfm rt_ to_ rw_ wa (nI nt) rk rb cn br sm as_ go sh_ ir oa ob th ig sp_ ki tg of_ kp sf rs), (aI g to_ 25 tl), (aI g sm 25 uf_24), (aM g wa 6 (he_ro 6 r2)), (aM g sh_ 120 (he_ro 120 r6)), (aM g cn 7 (he_ro 7 r3)), (aM g br 7 (he_ro 7 r4)), (aI g as_ 25 ug_25)] ++ he_pl g L ln Mu_26) := hD
              refine lv_istore (lv' := [(6, .int r_21), (0, .ref m0), (1, .int (nI n)), (2, .int wh), (3, .int be), (4, .int ms), (5, .int (nI c9))]) hx hb dX11_best_69 hl (by decide) rfl (fun ls hl => ?_)
              refine lv_iload hx hb dX11_best_71 (lv_at hl 0 rfl) ?_
              refine lv_iload hx hb dX11_best_73 (lv_at hl 5 rfl) ?_
              refine lv_icmp_ge (tgt := 81) hx hb dX11_best_75 (by decide) (fun c_30 => ?_) (fun c_30 => ?_)
              · refine lv_iload hx hb dX11_best_81 (lv_at hl 6 rfl) ?_
                refine lv_istore_n (lv' := [(3, .int (nI c9)), (6, .int r_21), (0, .ref m0), (1, .int (nI n)), (2, .int wh), (4, .int ms), (5, .int (nI c9))]) hx hb dX11_best_83 rfl hl (by decide) rfl (fun ls hl => ?_)
                refine lv_iload hx hb dX11_best_84 (lv_at hl 1 rfl) ?_
                refine lv_istore (lv' := [(4, .int r_21), (3, .int (nI c9)), (6, .int r_21), (0, .ref m0), (1, .int (nI n)), (2, .int wh), (5, .int (nI c9))]) hx hb dX11_best_86 hl (by decide) rfl (fun ls hl => ?_)
                refine lv_iinc (v := nI c9 + (-1)) (lv' := [(5, .int (nI c9 + (-1))), (4, .int r_21), (3, .int (nI c9)), (6, .int r_21), (0, .ref m0), (1, .int (nI n)), (2, .int wh)]) hx hb dX11_best_88 hl (k := 6) rfl rfl (by decide) rfl (fun ls hl => ?_)
                refine lv_goto (tgt := 56) hx hb dX11_best_91 (by decide) ?_
                exact ih56 c9 (nI c9 + (-1)) (nI c9) r_21 uf_24 ug_25 Mu_26 (by omega) (by omega) (he_dec c9) (a25_t hF hf_27) (mEx_tr hmx hf_28) (Eq.trans hf_29 hzz) _ _ _ hP hD hS (lv_sub hl [4, 5, 6, 2, 1, 0] rfl)
              · refine lv_goto (tgt := 88) hx hb dX11_best_78 (by decide) ?_
                refine lv_iinc (v := nI c9 + (-1)) (lv' := [(5, .int (nI c9 + (-1))), (6, .int r_21), (0, .ref m0), (1, .int (nI n)), (2, .int wh), (3, .int be), (4, .int ms)]) hx hb dX11_best_88 hl (k := 6) rfl rfl (by decide) rfl (fun ls hl => ?_)
                refine lv_goto (tgt := 56) hx hb dX11_best_91 (by decide) ?_
                exact ih56 c9 (nI c9 + (-1)) be ms uf_24 ug_25 Mu_26 (by omega) (by omega) (he_dec c9) (a25_t hF hf_27) (mEx_tr hmx hf_28) (Eq.trans hf_29 hzz) _ _ _ hP hD hS (lv_sub hl [2, 3, 4, 5, 6, 0] rfl)
        have hP := he_Psub (X := [(aM g sh_ 120 (he_ro 120 r6)), (aM g cn 7 (he_ro 7 r3)), (aM g br 7 (he_ro 7 r4)), (oX11 m0 0 ta sz_ pl at_ fa fw cs fd rfm rt_ to_ rw_ wa (nI nt) rk rb cn br sm as_ go sh_ ir oa ob th ig sp_ ki tg of_ kp sf rs), (aI g to_ 25 tl), (aI g sm 25 uf_16), (aM g wa 6 (he_ro 6 r2)), (aI g as_ 25 ug_17)]) (X2 := [(oX11 m0 0 ta sz_ pl at_ fa fw cs fd rfm rt_ to_ rw_ wa (nI nt) rk rb cn br sm as_ go sh_ ir oa ob th ig sp_ ki tg of_ kp sf rs), (aI g to_ 25 tl), (aI g sm 25 uf_16), (aM g wa 6 (he_ro 6 r2)), (aM g sh_ 120 (he_ro 120 r6)), (aM g cn 7 (he_ro 7 r3)), (aM g br 7 (he_ro 7 r4)), (aI g as_ 25 ug_17)]) (P := (he_pl g L ln M)) hP [3, 4, 5, 6, 0, 1, 2, 7] rfl
        have hD := he_Dsub (X := [(aM g sh_ 120 (he_ro 120 r6)), (aM g cn 7 (he_ro 7 r3)), (aM g br 7 (he_ro 7 r4)), (oX11 m0 0 ta sz_ pl at_ fa fw cs fd rfm rt_ to_ rw_ wa (nI nt) rk rb cn br sm as_ go sh_ ir oa ob th ig sp_ ki tg of_ kp sf rs), (aI g to_ 25 tl), (aI g sm 25 uf_16), (aM g wa 6 (he_ro 6 r2)), (aI g as_ 25 ug_17)]) (X2 := [(oX11 m0 0 ta sz_ pl at_ fa fw cs fd rfm rt_ to_ rw_ wa (nI nt) rk rb cn br sm as_ go sh_ ir oa ob th ig sp_ ki tg of_ kp sf rs), (aI g to_ 25 tl), (aI g sm 25 uf_16), (aM g wa 6 (he_ro 6 r2)), (aM g sh_ 120 (he_ro 120 r6)), (aM g cn 7 (he_ro 7 r3)), (aM g br 7 (he_ro 7 r4)), (aI g as_ 25 ug_17)]) (P := (he_pl g L ln M)) hD [3, 4, 5, 6, 0, 1, 2, 7] rfl rfl rfl
        exact loop56 ((nt) + 1) nt (nI nt - 1) (-1) r_13 uf_16 ug_17 M (Nat.lt_succ_self _) (Nat.le_refl _) rfl hf_18 (mEx_refl _ _ _) rfl _ _ _ hP hD hS (lv_sub hl [3, 4, 5, 2, 1, 0] rfl)
      · exact absurd (by decide) c_12
    · exact absurd c_8 (by decide)
set_option maxHeartbeats 4000000 in
set_option maxRecDepth 100000 in
theorem h_X11_byOffer (l : Launch) (g : he_G) (m0 : Nat) (fd : Nat) (rfm : Nat) (rt_ : Nat) (to_ : Nat) (rw_ : Nat) (wa : Nat) (rk : Nat) (rb : Nat) (cn : Nat) (br : Nat) (sm : Nat) (as_ : Nat) (go : Nat) (sh_ : Nat) (ki : Nat) (tg : Nat) (of_ : Nat) (kp : Nat) (rs : Nat) (ta : Int32) (sz_ : Int32) (pl : Int32) (at_ : Int32) (fa : Int32) (fw : Int32) (cs : Int32) (ct : Int32) (ir : Int32) (oa : Int32) (ob : Int32) (th : Int32) (ig : Int32) (sp_ : Int32) (sf : Int32) (tw : Int32) (tl : Nat → Int32) (f : Nat → Int32) (g0 : Nat → Int32) (w : Nat) (L : List Nat) (ln : Nat → Nat) (M : Nat → Nat → Int32) (r2 : Nat → Nat) (r3 : Nat → Nat) (r4 : Nat → Nat) (r6 : Nat → Nat) (q2 : Nat) (ck : Nat) (mm : Nat) (n : Nat) (htl : tl 0 = nI w) (hw6 : w ≤ 6) (hbo : bOk (M (r4 6))) (hq2 : M (r3 6) 2 = nI q2) (hq9 : q2 ≤ 9) (hck : M (r3 6) 3 = nI ck) (hc99 : ck ≤ 99) (hq5 : M (r3 6) 5 = nI 1000) (h24 : f 24 = nI mm) (hmn : mm + n ≤ 300) (hir : ir = 0) (F_r2 : ∀ i, i < 6 → r2 i ∈ L ∧ ln (r2 i) = 2 ∧ True) (F_r3 : ∀ i, i < 7 → r3 i ∈ L ∧ ln (r3 i) = 7 ∧ True) (F_r4 : ∀ i, i < 7 → r4 i ∈ L ∧ ln (r4 i) = 36 ∧ True) (F_r6 : ∀ i, i < 120 → r6 i ∈ L ∧ ln (r6 i) = 6 ∧ True) (D_r3_r6 : ∀ i j, i < 7 → j < 120 → r3 i ≠ r6 j) (D_r4_r6 : ∀ i j, i < 7 → j < 120 → r4 i ≠ r6 j) : he_I l yX11_byOffer wsX11_byOffer 5 114 0 0 g [.ref m0, .int (nI n)] ([(oX11 m0 tw ta sz_ pl at_ fa fw cs fd rfm rt_ to_ rw_ wa ct rk rb cn br sm as_ go sh_ ir oa ob th ig sp_ ki tg of_ kp sf rs), (aI g to_ 25 tl), (aI g sm 25 f), (aM g wa 6 (he_ro 6 r2)), (aM g sh_ 120 (he_ro 120 r6)), (aM g cn 7 (he_ro 7 r3)), (aM g br 7 (he_ro 7 r4)), (aI g as_ 25 g0)] ++ he_pl g L ln M) (fun (r : Int32) (u : (Nat → Int32) × (Nat → Int32) × (Nat → Nat → Int32)) => a25 f u.1 ∧ mEx r6 120 M u.2.2 ∧ u.2.2 = M) (fun (u : (Nat → Int32) × (Nat → Int32) × (Nat → Nat → Int32)) => [(oX11 m0 tw ta sz_ pl at_ fa fw cs fd rfm rt_ to_ rw_ wa ct rk rb cn br sm as_ go sh_ ir oa ob th ig sp_ ki tg of_ kp sf rs), (aI g to_ 25 tl), (aI g sm 25 u.1), (aM g wa 6 (he_ro 6 r2)), (aM g sh_ 120 (he_ro 120 r6)), (aM g cn 7 (he_ro 7 r3)), (aM g br 7 (he_ro 7 r4)), (aI g as_ 25 u.2.1)] ++ he_pl g L ln u.2.2) := by
  refine he_begin (l := l) (g := g) (y := yX11_byOffer) (wl := wsX11_byOffer) (fr := 5) (lo := 114) (mc := 0) (ms := 0) (av := [.ref m0, .int (nI n)]) (ws := ([(oX11 m0 tw ta sz_ pl at_ fa fw cs fd rfm rt_ to_ rw_ wa ct rk rb cn br sm as_ go sh_ ir oa ob th ig sp_ ki tg of_ kp sf rs), (aI g to_ 25 tl), (aI g sm 25 f), (aM g wa 6 (he_ro 6 r2)), (aM g sh_ 120 (he_ro 120 r6)), (aM g cn 7 (he_ro 7 r3)), (aM g br 7 (he_ro 7 r4)), (aI g as_ 25 g0)] ++ he_pl g L ln M)) (cc := cX11_byOffer) (maxL := 3) (ret := (some .int)) (fun A => va_Qi (fun (r : Int32) (u : (Nat → Int32) × (Nat → Int32) × (Nat → Nat → Int32)) => a25 f u.1 ∧ mEx r6 120 M u.2.2 ∧ u.2.2 = M) (fun u t => he_post g A ((fun (u : (Nat → Int32) × (Nat → Int32) × (Nat → Nat → Int32)) => [(oX11 m0 tw ta sz_ pl at_ fa fw cs fd rfm rt_ to_ rw_ wa ct rk rb cn br sm as_ go sh_ ir oa ob th ig sp_ ki tg of_ kp sf rs), (aI g to_ 25 tl), (aI g sm 25 u.1), (aM g wa 6 (he_ro 6 r2)), (aM g sh_ 120 (he_ro 120 r6)), (aM g cn 7 (he_ro 7 r3)), (aM g br 7 (he_ro 7 r4)), (aI g as_ 25 u.2.1)] ++ he_pl g L ln u.2.2) u) t) A) (by decide) rfl (Nat.le_of_ble_eq_true rfl) ?_
  intro p e s m args below meth c A ls H locs Q hQ hB
  obtain ⟨hx, hb, hr, hml, hown, hts, hlk, hin, hP, hK, hD, hS, hA, hE, hl⟩ := hB
  have hl : lv_has ls 3 [(0, .ref m0), (1, .int (nI n))] := hl
  have f46 := hts (.fieldLink RX11 46 "HiredEnemyModel" "s" "[I") (iwoX11_byOffer (k := 0) rfl)
  have inX11 : ∀ w ∈ wsX110, w ∈ wsX11_byOffer := innX11_byOffer_X11
  refine lv_aload_n hx hb dX11_byOffer_0 rfl (lv_at hl 0 rfl) ?_
  refine he_cv (wc := [(oX11 m0 tw ta sz_ pl at_ fa fw cs fd rfm rt_ to_ rw_ wa ct rk rb cn br sm as_ go sh_ ir oa ob th ig sp_ ki tg of_ kp sf rs), (aI g sm 25 f), (aI g as_ 25 g0)]) (wr := ([(aI g to_ 25 tl), (aM g wa 6 (he_ro 6 r2)), (aM g sh_ 120 (he_ro 120 r6)), (aM g cn 7 (he_ro 7 r3)), (aM g br 7 (he_ro 7 r4))] ++ (he_pl g L ln M))) (va_runV (As := []) (rest := []) ⟨hx, hb, hml, hown, hts⟩ (c_X11_puts l g m0 fd rfm rt_ to_ rw_ wa rk rb cn br sm as_ go sh_ ki tg of_ kp rs ta sz_ pl at_ fa fw cs ct ir oa ob th ig sp_ sf tw f g0 H.size) (cwV 0 hts gX11_byOffer_X11_puts rfl rfl rfl (by decide +kernel) ⟨Nat.le_of_ble_eq_true rfl, Nat.le_of_ble_eq_true rfl⟩) (he_preV (wc := [(oX11 m0 tw ta sz_ pl at_ fa fw cs fd rfm rt_ to_ rw_ wa ct rk rb cn br sm as_ go sh_ ir oa ob th ig sp_ ki tg of_ kp sf rs), (aI g sm 25 f), (aI g as_ 25 g0)]) hK hP hD hS hA hE [0, 2, 7] rfl rfl 0 rfl rfl) rfl rfl hl.1 rfl (lv_room (Nat.le_of_ble_eq_true rfl)) dX11_byOffer_1 ⟨(Nat.le_of_ble_eq_true rfl), (Nat.le_of_ble_eq_true rfl)⟩) hP hD hS hA [0, 2, 7] (he_is [1, 3, 4, 5, 6] [(oX11 m0 tw ta sz_ pl at_ fa fw cs fd rfm rt_ to_ rw_ wa ct rk rb cn br sm as_ go sh_ ir oa ob th ig sp_ ki tg of_ kp sf rs), (aI g to_ 25 tl), (aI g sm 25 f), (aM g wa 6 (he_ro 6 r2)), (aM g sh_ 120 (he_ro 120 r6)), (aM g cn 7 (he_ro 7 r3)), (aM g br 7 (he_ro 7 r4)), (aI g as_ 25 g0)] (he_pl g L ln M)) rfl (he_ixP rfl) (he_ndP rfl rfl) (he_disN (by decide) rfl) (fun u_2 H locs h_3 hP hD hS => ?_)
  have hP := va_P.swap hP
  have hD := va_D.swap hD
  have hP : va_P g.1 vwCl ([(aI g to_ 25 tl), (aM g wa 6 (he_ro 6 r2)), (aM g sh_ 120 (he_ro 120 r6)), (aM g cn 7 (he_ro 7 r3)), (aM g br 7 (he_ro 7 r4)), (oX11 m0 tw ta sz_ pl at_ fa fw cs fd rfm rt_ to_ rw_ wa ct rk rb cn br sm as_ go sh_ ir oa ob th ig sp_ ki tg of_ kp sf rs), (aI g sm 25 f), (aI g as_ 25 (flF f g0 25))] ++ he_pl g L ln M) H := hP
  have hD : va_D A ([(aI g to_ 25 tl), (aM g wa 6 (he_ro 6 r2)), (aM g sh_ 120 (he_ro 120 r6)), (aM g cn 7 (he_ro 7 r3)), (aM g br 7 (he_ro 7 r4)), (oX11 m0 tw ta sz_ pl at_ fa fw cs fd rfm rt_ to_ rw_ wa ct rk rb cn br sm as_ go sh_ ir oa ob th ig sp_ ki tg of_ kp sf rs), (aI g sm 25 f), (aI g as_ 25 (flF f g0 25))] ++ he_pl g L ln M) := hD
  refine lv_aload_n hx hb dX11_byOffer_4 rfl (lv_at hl 0 rfl) ?_
  refine lv_bipush (v := 6) hx hb dX11_byOffer_5 (by decide) ?_
  refine he_cv (wc := [(oX11 m0 tw ta sz_ pl at_ fa fw cs fd rfm rt_ to_ rw_ wa ct rk rb cn br sm as_ go sh_ ir oa ob th ig sp_ ki tg of_ kp sf rs), (aI g sm 25 f)]) (wr := ([(aI g to_ 25 tl), (aM g wa 6 (he_ro 6 r2)), (aM g sh_ 120 (he_ro 120 r6)), (aM g cn 7 (he_ro 7 r3)), (aM g br 7 (he_ro 7 r4)), (aI g as_ 25 (flF f g0 25))] ++ (he_pl g L ln M))) (va_runV (As := [.int 6]) (rest := []) ⟨hx, hb, hml, hown, hts⟩ (c_X11_signs l g m0 fd rfm rt_ to_ rw_ wa rk rb cn br sm as_ go sh_ ki tg of_ kp rs ta sz_ pl at_ fa fw cs ct ir oa ob th ig sp_ sf tw f 6 H.size) (cwV 1 hts gX11_byOffer_X11_signs rfl rfl rfl (by decide +kernel) ⟨Nat.le_of_ble_eq_true rfl, Nat.le_of_ble_eq_true rfl⟩) (he_preV (wc := [(oX11 m0 tw ta sz_ pl at_ fa fw cs fd rfm rt_ to_ rw_ wa ct rk rb cn br sm as_ go sh_ ir oa ob th ig sp_ ki tg of_ kp sf rs), (aI g sm 25 f)]) hK hP hD hS hA hE [5, 6] rfl rfl 5 rfl rfl) rfl rfl hl.1 rfl (lv_room (Nat.le_of_ble_eq_true rfl)) dX11_byOffer_7 ⟨(Nat.le_of_ble_eq_true rfl), (Nat.le_of_ble_eq_true rfl)⟩) hP hD hS hA [5, 6] (he_is [0, 1, 2, 3, 4, 7] [(aI g to_ 25 tl), (aM g wa 6 (he_ro 6 r2)), (aM g sh_ 120 (he_ro 120 r6)), (aM g cn 7 (he_ro 7 r3)), (aM g br 7 (he_ro 7 r4)), (oX11 m0 tw ta sz_ pl at_ fa fw cs fd rfm rt_ to_ rw_ wa ct rk rb cn br sm as_ go sh_ ir oa ob th ig sp_ ki tg of_ kp sf rs), (aI g sm 25 f), (aI g as_ 25 (flF f g0 25))] (he_pl g L ln M)) rfl (he_ixP rfl) (he_ndP rfl rfl) (he_disN (by decide) rfl) (fun u_5 H locs h_6 hP hD hS => ?_)
  have hP := va_P.swap hP
  have hD := va_D.swap hD
  have hP : va_P g.1 vwCl ([(aI g to_ 25 tl), (aM g wa 6 (he_ro 6 r2)), (aM g sh_ 120 (he_ro 120 r6)), (aM g cn 7 (he_ro 7 r3)), (aM g br 7 (he_ro 7 r4)), (aI g as_ 25 (flF f g0 25)), (oX11 m0 tw ta sz_ pl at_ fa fw cs fd rfm rt_ to_ rw_ wa ct rk rb cn br sm as_ go sh_ ir oa ob th ig sp_ ki tg of_ kp sf rs), (aI g sm 25 (sgF f 6))] ++ he_pl g L ln M) H := hP
  have hD : va_D A ([(aI g to_ 25 tl), (aM g wa 6 (he_ro 6 r2)), (aM g sh_ 120 (he_ro 120 r6)), (aM g cn 7 (he_ro 7 r3)), (aM g br 7 (he_ro 7 r4)), (aI g as_ 25 (flF f g0 25)), (oX11 m0 tw ta sz_ pl at_ fa fw cs fd rfm rt_ to_ rw_ wa ct rk rb cn br sm as_ go sh_ ir oa ob th ig sp_ ki tg of_ kp sf rs), (aI g sm 25 (sgF f 6))] ++ he_pl g L ln M) := hD
  refine lv_iconst (v := 0) hx hb dX11_byOffer_10 (by decide) ?_
  refine lv_istore_n (lv' := [(2, .int 0), (0, .ref m0), (1, .int (nI n))]) hx hb dX11_byOffer_11 rfl hl (by decide) rfl (fun ls hl => ?_)
  have loop12 : ∀ (n9 : Nat) (j : Nat) (F : Nat → Int32) (Mj : Nat → Nat → Int32), n - j < n9 → (j ≤ n) → (F 10 = -1 ∨ F 10 = nI 6) → (F 24 = nI (mm + j)) → (mEx r6 120 M Mj) → (Mj = M) → ∀ (H : Heap) (locs : List Loc) (ls : Array Slot), va_P g.1 vwCl ([(oX11 m0 tw ta sz_ pl at_ fa fw cs fd rfm rt_ to_ rw_ wa ct rk rb cn br sm as_ go sh_ ir oa ob th ig sp_ ki tg of_ kp sf rs), (aI g to_ 25 tl), (aI g sm 25 F), (aM g wa 6 (he_ro 6 r2)), (aM g sh_ 120 (he_ro 120 r6)), (aM g cn 7 (he_ro 7 r3)), (aM g br 7 (he_ro 7 r4)), (aI g as_ 25 (flF f g0 25))] ++ he_pl g L ln Mj) H → va_D A ([(oX11 m0 tw ta sz_ pl at_ fa fw cs fd rfm rt_ to_ rw_ wa ct rk rb cn br sm as_ go sh_ ir oa ob th ig sp_ ki tg of_ kp sf rs), (aI g to_ 25 tl), (aI g sm 25 F), (aM g wa 6 (he_ro 6 r2)), (aM g sh_ 120 (he_ro 120 r6)), (aM g cn 7 (he_ro 7 r3)), (aM g br 7 (he_ro 7 r4)), (aI g as_ 25 (flF f g0 25))] ++ he_pl g L ln Mj) → va_S A s.heap H locs → lv_has ls 3 [(0, .ref m0), (1, .int (nI n)), (2, .int (nI j))] → W p l e (he_room 5 114 0 0) s m args below meth c H locs 0 0 Q (F0 m 12 ls []) := by
    intro n9
    induction n9 with
    | zero => intro j F Mj hm9; exact absurd hm9 (Nat.not_lt_zero _)
    | succ n9 ih12 =>
      intro j F Mj hm9 hj hF h24 hmx hzz H locs ls hP hD hS hl
      refine lv_iload_n hx hb dX11_byOffer_12 rfl (lv_at hl 2 rfl) ?_
      refine lv_iload_n hx hb dX11_byOffer_13 rfl (lv_at hl 1 rfl) ?_
      refine lv_icmp_ge (tgt := 50) hx hb dX11_byOffer_14 (by decide) (fun c_7 => ?_) (fun c_7 => ?_)
      · have k_8 : n ≤ j := (he_cle (a := n) (b := j) rfl rfl (by omega) (by omega)).mp c_7
        refine lv_aload_n hx hb dX11_byOffer_50 rfl (lv_at hl 0 rfl) ?_
        refine va_get (v := .ref sm) (T := TX11) (N := 35) hx hb hts inX11 hown hK hP 0 rfl rfl 19 (by decide) f46 (fun _ h9 => h9) rfl dX11_byOffer_51 ?_
        refine lv_iconst (v := 0) hx hb dX11_byOffer_54 (by decide) ?_
        refine he_iald hx hb hK hP 2 rfl (0) (by decide) (by decide) (by first | decide | assumption) (F 0) rfl dX11_byOffer_55 ?_
        refine lv_istore_n (lv' := [(2, .int (F 0)), (0, .ref m0), (1, .int (nI n))]) hx hb dX11_byOffer_56 rfl hl (by decide) rfl (fun ls hl => ?_)
        refine lv_aload_n hx hb dX11_byOffer_57 rfl (lv_at hl 1 rfl) ?_
        refine he_cv (wc := [(oX11 m0 tw ta sz_ pl at_ fa fw cs fd rfm rt_ to_ rw_ wa ct rk rb cn br sm as_ go sh_ ir oa ob th ig sp_ ki tg of_ kp sf rs), (aI g sm 25 F), (aI g as_ 25 (flF f g0 25))]) (wr := ([(aI g to_ 25 tl), (aM g wa 6 (he_ro 6 r2)), (aM g sh_ 120 (he_ro 120 r6)), (aM g cn 7 (he_ro 7 r3)), (aM g br 7 (he_ro 7 r4))] ++ (he_pl g L ln Mj))) (va_runV (As := []) (rest := []) ⟨hx, hb, hml, hown, hts⟩ (c_X11_takes l g m0 fd rfm rt_ to_ rw_ wa rk rb cn br sm as_ go sh_ ki tg of_ kp rs ta sz_ pl at_ fa fw cs ct ir oa ob th ig sp_ sf tw F (flF f g0 25) H.size) (cwV 0 hts gX11_byOffer_X11_takes rfl rfl rfl (by decide +kernel) ⟨Nat.le_of_ble_eq_true rfl, Nat.le_of_ble_eq_true rfl⟩) (he_preV (wc := [(oX11 m0 tw ta sz_ pl at_ fa fw cs fd rfm rt_ to_ rw_ wa ct rk rb cn br sm as_ go sh_ ir oa ob th ig sp_ ki tg of_ kp sf rs), (aI g sm 25 F), (aI g as_ 25 (flF f g0 25))]) hK hP hD hS hA hE [0, 2, 7] rfl rfl 0 rfl rfl) rfl rfl hl.1 rfl (lv_room (Nat.le_of_ble_eq_true rfl)) dX11_byOffer_58 ⟨(Nat.le_of_ble_eq_true rfl), (Nat.le_of_ble_eq_true rfl)⟩) hP hD hS hA [0, 2, 7] (he_is [1, 3, 4, 5, 6] [(oX11 m0 tw ta sz_ pl at_ fa fw cs fd rfm rt_ to_ rw_ wa ct rk rb cn br sm as_ go sh_ ir oa ob th ig sp_ ki tg of_ kp sf rs), (aI g to_ 25 tl), (aI g sm 25 F), (aM g wa 6 (he_ro 6 r2)), (aM g sh_ 120 (he_ro 120 r6)), (aM g cn 7 (he_ro 7 r3)), (aM g br 7 (he_ro 7 r4)), (aI g as_ 25 (flF f g0 25))] (he_pl g L ln Mj)) rfl (he_ixP rfl) (he_ndP rfl rfl) (he_disN (by decide) rfl) (fun u_10 H locs h_11 hP hD hS => ?_)
        have hP := va_P.swap hP
        have hD := va_D.swap hD
        have hP : va_P g.1 vwCl ([(aI g to_ 25 tl), (aM g wa 6 (he_ro 6 r2)), (aM g sh_ 120 (he_ro 120 r6)), (aM g cn 7 (he_ro 7 r3)), (aM g br 7 (he_ro 7 r4)), (oX11 m0 tw ta sz_ pl at_ fa fw cs fd rfm rt_ to_ rw_ wa ct rk rb cn br sm as_ go sh_ ir oa ob th ig sp_ ki tg of_ kp sf rs), (aI g sm 25 (flF (flF f g0 25) F 25)), (aI g as_ 25 (flF f g0 25))] ++ he_pl g L ln Mj) H := hP
        have hD : va_D A ([(aI g to_ 25 tl), (aM g wa 6 (he_ro 6 r2)), (aM g sh_ 120 (he_ro 120 r6)), (aM g cn 7 (he_ro 7 r3)), (aM g br 7 (he_ro 7 r4)), (oX11 m0 tw ta sz_ pl at_ fa fw cs fd rfm rt_ to_ rw_ wa ct rk rb cn br sm as_ go sh_ ir oa ob th ig sp_ ki tg of_ kp sf rs), (aI g sm 25 (flF (flF f g0 25) F 25)), (aI g as_ 25 (flF f g0 25))] ++ he_pl g L ln Mj) := hD
        refine lv_iload_n hx hb dX11_byOffer_61 rfl (lv_at hl 0 rfl) ?_
        have hP := he_Psub (X := [(aI g to_ 25 tl), (aM g wa 6 (he_ro 6 r2)), (aM g sh_ 120 (he_ro 120 r6)), (aM g cn 7 (he_ro 7 r3)), (aM g br 7 (he_ro 7 r4)), (oX11 m0 tw ta sz_ pl at_ fa fw cs fd rfm rt_ to_ rw_ wa ct rk rb cn br sm as_ go sh_ ir oa ob th ig sp_ ki tg of_ kp sf rs), (aI g sm 25 (flF (flF f g0 25) F 25)), (aI g as_ 25 (flF f g0 25))]) (X2 := [(oX11 m0 tw ta sz_ pl at_ fa fw cs fd rfm rt_ to_ rw_ wa ct rk rb cn br sm as_ go sh_ ir oa ob th ig sp_ ki tg of_ kp sf rs), (aI g to_ 25 tl), (aI g sm 25 (flF (flF f g0 25) F 25)), (aM g wa 6 (he_ro 6 r2)), (aM g sh_ 120 (he_ro 120 r6)), (aM g cn 7 (he_ro 7 r3)), (aM g br 7 (he_ro 7 r4)), (aI g as_ 25 (flF f g0 25))]) (P := (he_pl g L ln Mj)) hP [5, 0, 6, 1, 2, 3, 4, 7] rfl
        have hD := he_Dsub (X := [(aI g to_ 25 tl), (aM g wa 6 (he_ro 6 r2)), (aM g sh_ 120 (he_ro 120 r6)), (aM g cn 7 (he_ro 7 r3)), (aM g br 7 (he_ro 7 r4)), (oX11 m0 tw ta sz_ pl at_ fa fw cs fd rfm rt_ to_ rw_ wa ct rk rb cn br sm as_ go sh_ ir oa ob th ig sp_ ki tg of_ kp sf rs), (aI g sm 25 (flF (flF f g0 25) F 25)), (aI g as_ 25 (flF f g0 25))]) (X2 := [(oX11 m0 tw ta sz_ pl at_ fa fw cs fd rfm rt_ to_ rw_ wa ct rk rb cn br sm as_ go sh_ ir oa ob th ig sp_ ki tg of_ kp sf rs), (aI g to_ 25 tl), (aI g sm 25 (flF (flF f g0 25) F 25)), (aM g wa 6 (he_ro 6 r2)), (aM g sh_ 120 (he_ro 120 r6)), (aM g cn 7 (he_ro 7 r3)), (aM g br 7 (he_ro 7 r4)), (aI g as_ 25 (flF f g0 25))]) (P := (he_pl g L ln Mj)) hD [5, 0, 6, 1, 2, 3, 4, 7] rfl rfl rfl
        exact he_ri hQ hx hb hr hlk hP hD hS dX11_byOffer_62 (Nat.le_of_ble_eq_true rfl) (Nat.le_of_ble_eq_true rfl) ((flF (flF f g0 25) F 25, flF f g0 25, Mj)) (rfl) (by (try dsimp only); exact ⟨fun k hk => tkF f _ _ k hk, hmx, hzz⟩)
      · have k_12 : ¬ (n ≤ j) := fun h9 => c_7 ((he_cle (a := n) (b := j) rfl rfl (by omega) (by omega)).mpr h9)
        rcases hF with hno | hin
        · skip
          refine lv_aload_n hx hb dX11_byOffer_17 rfl (lv_at hl 0 rfl) ?_
          refine va_get (v := .ref sm) (T := TX11) (N := 35) hx hb hts inX11 hown hK hP 0 rfl rfl 19 (by decide) f46 (fun _ h9 => h9) rfl dX11_byOffer_18 ?_
          refine lv_bipush (v := 11) hx hb dX11_byOffer_21 (by decide) ?_
          refine lv_aload_n hx hb dX11_byOffer_23 rfl (lv_at hl 0 rfl) ?_
          refine va_get (v := .ref sm) (T := TX11) (N := 35) hx hb hts inX11 hown hK hP 0 rfl rfl 19 (by decide) f46 (fun _ h9 => h9) rfl dX11_byOffer_24 ?_
          refine lv_bipush (v := 10) hx hb dX11_byOffer_27 (by decide) ?_
          refine he_iald hx hb hK hP 2 rfl (10) (by decide) (by decide) (by first | decide | assumption) ((-1)) hno dX11_byOffer_29 ?_
          refine lv_iconst (v := (-1)) hx hb dX11_byOffer_30 (by decide) ?_
          refine lv_icmp_ne (tgt := 38) hx hb dX11_byOffer_31 (by decide) (fun c_13 => ?_) (fun c_13 => ?_)
          · exact absurd (by decide) c_13
          · refine lv_iconst (v := (-1)) hx hb dX11_byOffer_34 (by decide) ?_
            refine lv_goto (tgt := 39) hx hb dX11_byOffer_35 (by decide) ?_
            refine he_iast hx hb hK hP hD hS 2 rfl (11) (by decide) (by decide) (by first | decide | assumption) dX11_byOffer_39 (fun H locs hP hD hS => ?_)
            have hP : va_P g.1 vwCl ([(oX11 m0 tw ta sz_ pl at_ fa fw cs fd rfm rt_ to_ rw_ wa ct rk rb cn br sm as_ go sh_ ir oa ob th ig sp_ ki tg of_ kp sf rs), (aI g to_ 25 tl), (aI g sm 25 (upd F 11 (-1))), (aM g wa 6 (he_ro 6 r2)), (aM g sh_ 120 (he_ro 120 r6)), (aM g cn 7 (he_ro 7 r3)), (aM g br 7 (he_ro 7 r4)), (aI g as_ 25 (flF f g0 25))] ++ he_pl g L ln Mj) H := hP
            have hD : va_D A ([(oX11 m0 tw ta sz_ pl at_ fa fw cs fd rfm rt_ to_ rw_ wa ct rk rb cn br sm as_ go sh_ ir oa ob th ig sp_ ki tg of_ kp sf rs), (aI g to_ 25 tl), (aI g sm 25 (upd F 11 (-1))), (aM g wa 6 (he_ro 6 r2)), (aM g sh_ 120 (he_ro 120 r6)), (aM g cn 7 (he_ro 7 r3)), (aM g br 7 (he_ro 7 r4)), (aI g as_ 25 (flF f g0 25))] ++ he_pl g L ln Mj) := hD
            refine lv_aload_n hx hb dX11_byOffer_40 rfl (lv_at hl 0 rfl) ?_
            refine he_cv (wc := ([(oX11 m0 tw ta sz_ pl at_ fa fw cs fd rfm rt_ to_ rw_ wa ct rk rb cn br sm as_ go sh_ ir oa ob th ig sp_ ki tg of_ kp sf rs), (aI g to_ 25 tl), (aI g sm 25 (upd F 11 (-1))), (aM g wa 6 (he_ro 6 r2))] ++ (he_pl g L ln Mj))) (wr := [(aM g sh_ 120 (he_ro 120 r6)), (aM g cn 7 (he_ro 7 r3)), (aM g br 7 (he_ro 7 r4)), (aI g as_ 25 (flF f g0 25))]) (va_runV (As := []) (rest := []) ⟨hx, hb, hml, hown, hts⟩ (h_X11_monthN l g m0 fd rfm rt_ to_ rw_ wa rk rb cn br sm as_ go sh_ ki tg of_ kp rs ta sz_ pl at_ fa fw cs ct ir oa ob th ig sp_ sf tw tl (upd F 11 (-1)) w L ln Mj r2 (mm + j) (by first | assumption | decide | omega) (by first | assumption | decide | omega) (by rw [upd_n (by decide)]; exact hno) (by rw [upd_n (by decide)]; exact h24) (by omega) (by first | assumption | decide | omega) H.size) (cwV 0 hts gX11_byOffer_X11_monthGoes rfl rfl rfl (by decide +kernel) ⟨Nat.le_of_ble_eq_true rfl, Nat.le_of_ble_eq_true rfl⟩) (he_preV (wc := ([(oX11 m0 tw ta sz_ pl at_ fa fw cs fd rfm rt_ to_ rw_ wa ct rk rb cn br sm as_ go sh_ ir oa ob th ig sp_ ki tg of_ kp sf rs), (aI g to_ 25 tl), (aI g sm 25 (upd F 11 (-1))), (aM g wa 6 (he_ro 6 r2))] ++ (he_pl g L ln Mj))) hK hP hD hS hA hE (he_is [0, 1, 2, 3] [(oX11 m0 tw ta sz_ pl at_ fa fw cs fd rfm rt_ to_ rw_ wa ct rk rb cn br sm as_ go sh_ ir oa ob th ig sp_ ki tg of_ kp sf rs), (aI g to_ 25 tl), (aI g sm 25 (upd F 11 (-1))), (aM g wa 6 (he_ro 6 r2)), (aM g sh_ 120 (he_ro 120 r6)), (aM g cn 7 (he_ro 7 r3)), (aM g br 7 (he_ro 7 r4)), (aI g as_ 25 (flF f g0 25))] (he_pl g L ln Mj)) (he_ixP rfl) (he_ndP rfl rfl) 0 rfl rfl) rfl rfl hl.1 rfl (lv_room (Nat.le_of_ble_eq_true rfl)) dX11_byOffer_41 ⟨(Nat.le_of_ble_eq_true rfl), (Nat.le_of_ble_eq_true rfl)⟩) hP hD hS hA (he_is [0, 1, 2, 3] [(oX11 m0 tw ta sz_ pl at_ fa fw cs fd rfm rt_ to_ rw_ wa ct rk rb cn br sm as_ go sh_ ir oa ob th ig sp_ ki tg of_ kp sf rs), (aI g to_ 25 tl), (aI g sm 25 (upd F 11 (-1))), (aM g wa 6 (he_ro 6 r2)), (aM g sh_ 120 (he_ro 120 r6)), (aM g cn 7 (he_ro 7 r3)), (aM g br 7 (he_ro 7 r4)), (aI g as_ 25 (flF f g0 25))] (he_pl g L ln Mj)) [4, 5, 6, 7] (he_ixP rfl) rfl rfl (he_disP (by decide) rfl) (fun u_15 H locs h_16 hP hD hS => ?_)
            obtain ⟨uf_17, rfl⟩ : ∃ z, z = u_15 := ⟨_, rfl⟩
            try dsimp only at h_16
            obtain ⟨hf_18, hf_19⟩ := h_16
            have hP : va_P g.1 vwCl ([(aM g sh_ 120 (he_ro 120 r6)), (aM g cn 7 (he_ro 7 r3)), (aM g br 7 (he_ro 7 r4)), (aI g as_ 25 (flF f g0 25)), (oX11 m0 tw ta sz_ pl at_ fa fw cs fd rfm rt_ to_ rw_ wa ct rk rb cn br sm as_ go sh_ ir oa ob th ig sp_ ki tg of_ kp sf rs), (aI g to_ 25 tl), (aI g sm 25 uf_17), (aM g wa 6 (he_ro 6 r2))] ++ he_pl g L ln Mj) H := hP
            have hD : va_D A ([(aM g sh_ 120 (he_ro 120 r6)), (aM g cn 7 (he_ro 7 r3)), (aM g br 7 (he_ro 7 r4)), (aI g as_ 25 (flF f g0 25)), (oX11 m0 tw ta sz_ pl at_ fa fw cs fd rfm rt_ to_ rw_ wa ct rk rb cn br sm as_ go sh_ ir oa ob th ig sp_ ki tg of_ kp sf rs), (aI g to_ 25 tl), (aI g sm 25 uf_17), (aM g wa 6 (he_ro 6 r2))] ++ he_pl g L ln Mj) := hD
            refine lv_iinc (v := nI (j + 1)) (lv' := [(2, .int (nI (j + 1))), (0, .ref m0), (1, .int (nI n))]) hx hb dX11_byOffer_44 hl (k := 2) rfl (nI_1 j) (by decide) rfl (fun ls hl => ?_)
            refine lv_goto (tgt := 12) hx hb dX11_byOffer_47 (by decide) ?_
            have hP := he_Psub (X := [(aM g sh_ 120 (he_ro 120 r6)), (aM g cn 7 (he_ro 7 r3)), (aM g br 7 (he_ro 7 r4)), (aI g as_ 25 (flF f g0 25)), (oX11 m0 tw ta sz_ pl at_ fa fw cs fd rfm rt_ to_ rw_ wa ct rk rb cn br sm as_ go sh_ ir oa ob th ig sp_ ki tg of_ kp sf rs), (aI g to_ 25 tl), (aI g sm 25 uf_17), (aM g wa 6 (he_ro 6 r2))]) (X2 := [(oX11 m0 tw ta sz_ pl at_ fa fw cs fd rfm rt_ to_ rw_ wa ct rk rb cn br sm as_ go sh_ ir oa ob th ig sp_ ki tg of_ kp sf rs), (aI g to_ 25 tl), (aI g sm 25 uf_17), (aM g wa 6 (he_ro 6 r2)), (aM g sh_ 120 (he_ro 120 r6)), (aM g cn 7 (he_ro 7 r3)), (aM g br 7 (he_ro 7 r4)), (aI g as_ 25 (flF f g0 25))]) (P := (he_pl g L ln Mj)) hP [4, 5, 6, 7, 0, 1, 2, 3] rfl
            have hD := he_Dsub (X := [(aM g sh_ 120 (he_ro 120 r6)), (aM g cn 7 (he_ro 7 r3)), (aM g br 7 (he_ro 7 r4)), (aI g as_ 25 (flF f g0 25)), (oX11 m0 tw ta sz_ pl at_ fa fw cs fd rfm rt_ to_ rw_ wa ct rk rb cn br sm as_ go sh_ ir oa ob th ig sp_ ki tg of_ kp sf rs), (aI g to_ 25 tl), (aI g sm 25 uf_17), (aM g wa 6 (he_ro 6 r2))]) (X2 := [(oX11 m0 tw ta sz_ pl at_ fa fw cs fd rfm rt_ to_ rw_ wa ct rk rb cn br sm as_ go sh_ ir oa ob th ig sp_ ki tg of_ kp sf rs), (aI g to_ 25 tl), (aI g sm 25 uf_17), (aM g wa 6 (he_ro 6 r2)), (aM g sh_ 120 (he_ro 120 r6)), (aM g cn 7 (he_ro 7 r3)), (aM g br 7 (he_ro 7 r4)), (aI g as_ 25 (flF f g0 25))]) (P := (he_pl g L ln Mj)) hD [4, 5, 6, 7, 0, 1, 2, 3] rfl rfl rfl
            exact ih12 (j + 1) uf_17 Mj (by omega) (by omega) (Or.inl hf_18) (by rw [hf_19]; congr 1) hmx hzz _ _ _ hP hD hS (lv_sub hl [1, 2, 0] rfl)
        · skip
          refine lv_aload_n hx hb dX11_byOffer_17 rfl (lv_at hl 0 rfl) ?_
          refine va_get (v := .ref sm) (T := TX11) (N := 35) hx hb hts inX11 hown hK hP 0 rfl rfl 19 (by decide) f46 (fun _ h9 => h9) rfl dX11_byOffer_18 ?_
          refine lv_bipush (v := 11) hx hb dX11_byOffer_21 (by decide) ?_
          refine lv_aload_n hx hb dX11_byOffer_23 rfl (lv_at hl 0 rfl) ?_
          refine va_get (v := .ref sm) (T := TX11) (N := 35) hx hb hts inX11 hown hK hP 0 rfl rfl 19 (by decide) f46 (fun _ h9 => h9) rfl dX11_byOffer_24 ?_
          refine lv_bipush (v := 10) hx hb dX11_byOffer_27 (by decide) ?_
          refine he_iald hx hb hK hP 2 rfl (10) (by decide) (by decide) (by first | decide | assumption) (nI 6) hin dX11_byOffer_29 ?_
          refine lv_iconst (v := (-1)) hx hb dX11_byOffer_30 (by decide) ?_
          refine lv_icmp_ne (tgt := 38) hx hb dX11_byOffer_31 (by decide) (fun c_20 => ?_) (fun c_20 => ?_)
          · refine lv_iconst (v := 0) hx hb dX11_byOffer_38 (by decide) ?_
            refine he_iast hx hb hK hP hD hS 2 rfl (11) (by decide) (by decide) (by first | decide | assumption) dX11_byOffer_39 (fun H locs hP hD hS => ?_)
            have hP : va_P g.1 vwCl ([(oX11 m0 tw ta sz_ pl at_ fa fw cs fd rfm rt_ to_ rw_ wa ct rk rb cn br sm as_ go sh_ ir oa ob th ig sp_ ki tg of_ kp sf rs), (aI g to_ 25 tl), (aI g sm 25 (upd F 11 0)), (aM g wa 6 (he_ro 6 r2)), (aM g sh_ 120 (he_ro 120 r6)), (aM g cn 7 (he_ro 7 r3)), (aM g br 7 (he_ro 7 r4)), (aI g as_ 25 (flF f g0 25))] ++ he_pl g L ln Mj) H := hP
            have hD : va_D A ([(oX11 m0 tw ta sz_ pl at_ fa fw cs fd rfm rt_ to_ rw_ wa ct rk rb cn br sm as_ go sh_ ir oa ob th ig sp_ ki tg of_ kp sf rs), (aI g to_ 25 tl), (aI g sm 25 (upd F 11 0)), (aM g wa 6 (he_ro 6 r2)), (aM g sh_ 120 (he_ro 120 r6)), (aM g cn 7 (he_ro 7 r3)), (aM g br 7 (he_ro 7 r4)), (aI g as_ 25 (flF f g0 25))] ++ he_pl g L ln Mj) := hD
            refine lv_aload_n hx hb dX11_byOffer_40 rfl (lv_at hl 0 rfl) ?_
            refine he_cv (wc := ([(oX11 m0 tw ta sz_ pl at_ fa fw cs fd rfm rt_ to_ rw_ wa ct rk rb cn br sm as_ go sh_ ir oa ob th ig sp_ ki tg of_ kp sf rs), (aI g to_ 25 tl), (aI g sm 25 (upd F 11 0)), (aM g wa 6 (he_ro 6 r2)), (aM g sh_ 120 (he_ro 120 r6)), (aM g cn 7 (he_ro 7 r3)), (aM g br 7 (he_ro 7 r4))] ++ (he_pl g L ln Mj))) (wr := [(aI g as_ 25 (flF f g0 25))]) (va_runV (As := []) (rest := []) ⟨hx, hb, hml, hown, hts⟩ (h_X11_monthP l g m0 fd rfm rt_ to_ rw_ wa rk rb cn br sm as_ go sh_ ki tg of_ kp rs ta sz_ pl at_ fa fw cs ct ir oa ob th ig sp_ sf tw tl (upd F 11 0) w L ln Mj r2 r3 r4 r6 6 0 q2 ck (mm + j) 1000 (by first | assumption | decide | omega) (by first | assumption | decide | omega) (by decide) (by rw [upd_n (by decide)]; exact hin) upd_s (by decide) (by rw [hmx _ (fun i hi => D_r4_r6 6 i (by decide) hi)]; exact hbo) (by rw [hmx _ (fun i hi => D_r3_r6 6 i (by decide) hi)]; exact hq2) (by first | assumption | decide | omega) (by rw [hmx _ (fun i hi => D_r3_r6 6 i (by decide) hi)]; exact hck) (by first | assumption | decide | omega) (by rw [upd_n (by decide)]; exact h24) (Or.inl hir) (by first | assumption | decide | omega) (by first | assumption | decide | omega) (by first | assumption | decide | omega) (by first | assumption | decide | omega) (by first | assumption | decide | omega) (by first | assumption | decide | omega) (by rw [hmx _ (fun i hi => D_r3_r6 6 i (by decide) hi)]; exact hq5) (by decide) (by decide) (by omega) H.size) (cwV 0 hts gX11_byOffer_X11_monthGoes rfl rfl rfl (by decide +kernel) ⟨Nat.le_of_ble_eq_true rfl, Nat.le_of_ble_eq_true rfl⟩) (he_preV (wc := ([(oX11 m0 tw ta sz_ pl at_ fa fw cs fd rfm rt_ to_ rw_ wa ct rk rb cn br sm as_ go sh_ ir oa ob th ig sp_ ki tg of_ kp sf rs), (aI g to_ 25 tl), (aI g sm 25 (upd F 11 0)), (aM g wa 6 (he_ro 6 r2)), (aM g sh_ 120 (he_ro 120 r6)), (aM g cn 7 (he_ro 7 r3)), (aM g br 7 (he_ro 7 r4))] ++ (he_pl g L ln Mj))) hK hP hD hS hA hE (he_is [0, 1, 2, 3, 4, 5, 6] [(oX11 m0 tw ta sz_ pl at_ fa fw cs fd rfm rt_ to_ rw_ wa ct rk rb cn br sm as_ go sh_ ir oa ob th ig sp_ ki tg of_ kp sf rs), (aI g to_ 25 tl), (aI g sm 25 (upd F 11 0)), (aM g wa 6 (he_ro 6 r2)), (aM g sh_ 120 (he_ro 120 r6)), (aM g cn 7 (he_ro 7 r3)), (aM g br 7 (he_ro 7 r4)), (aI g as_ 25 (flF f g0 25))] (he_pl g L ln Mj)) (he_ixP rfl) (he_ndP rfl rfl) 0 rfl rfl) rfl rfl hl.1 rfl (lv_room (Nat.le_of_ble_eq_true rfl)) dX11_byOffer_41 ⟨(Nat.le_of_ble_eq_true rfl), (Nat.le_of_ble_eq_true rfl)⟩) hP hD hS hA (he_is [0, 1, 2, 3, 4, 5, 6] [(oX11 m0 tw ta sz_ pl at_ fa fw cs fd rfm rt_ to_ rw_ wa ct rk rb cn br sm as_ go sh_ ir oa ob th ig sp_ ki tg of_ kp sf rs), (aI g to_ 25 tl), (aI g sm 25 (upd F 11 0)), (aM g wa 6 (he_ro 6 r2)), (aM g sh_ 120 (he_ro 120 r6)), (aM g cn 7 (he_ro 7 r3)), (aM g br 7 (he_ro 7 r4)), (aI g as_ 25 (flF f g0 25))] (he_pl g L ln Mj)) [7] (he_ixP rfl) rfl rfl (he_disP (by decide) rfl) (fun u_22 H locs h_23 hP hD hS => ?_)
            obtain ⟨uf_24, Mu_25⟩ := u_22
            try dsimp only at h_23
            obtain ⟨hf_26, hf_27, hf_28, hf_29⟩ := h_23
            have hP : va_P g.1 vwCl ([(aI g as_ 25 (flF f g0 25)), (oX11 m0 tw ta sz_ pl at_ fa fw cs fd rfm rt_ to_ rw_ wa ct rk rb cn br sm as_ go sh_ ir oa ob th ig sp_ ki tg of_ kp sf rs), (aI g to_ 25 tl), (aI g sm 25 uf_24), (aM g wa 6 (he_ro 6 r2)), (aM g sh_ 120 (he_ro 120 r6)), (aM g cn 7 (he_ro 7 r3)), (aM g br 7 (he_ro 7 r4))] ++ he_pl g L ln Mu_25) H := hP
            have hD : va_D A ([(aI g as_ 25 (flF f g0 25)), (oX11 m0 tw ta sz_ pl at_ fa fw cs fd rfm rt_ to_ rw_ wa ct rk rb cn br sm as_ go sh_ ir oa ob th ig sp_ ki tg of_ kp sf rs), (aI g to_ 25 tl), (aI g sm 25 uf_24), (aM g wa 6 (he_ro 6 r2)), (aM g sh_ 120 (he_ro 120 r6)), (aM g cn 7 (he_ro 7 r3)), (aM g br 7 (he_ro 7 r4))] ++ he_pl g L ln Mu_25) := hD
            refine lv_iinc (v := nI (j + 1)) (lv' := [(2, .int (nI (j + 1))), (0, .ref m0), (1, .int (nI n))]) hx hb dX11_byOffer_44 hl (k := 2) rfl (nI_1 j) (by decide) rfl (fun ls hl => ?_)
            refine lv_goto (tgt := 12) hx hb dX11_byOffer_47 (by decide) ?_
            have hP := he_Psub (X := [(aI g as_ 25 (flF f g0 25)), (oX11 m0 tw ta sz_ pl at_ fa fw cs fd rfm rt_ to_ rw_ wa ct rk rb cn br sm as_ go sh_ ir oa ob th ig sp_ ki tg of_ kp sf rs), (aI g to_ 25 tl), (aI g sm 25 uf_24), (aM g wa 6 (he_ro 6 r2)), (aM g sh_ 120 (he_ro 120 r6)), (aM g cn 7 (he_ro 7 r3)), (aM g br 7 (he_ro 7 r4))]) (X2 := [(oX11 m0 tw ta sz_ pl at_ fa fw cs fd rfm rt_ to_ rw_ wa ct rk rb cn br sm as_ go sh_ ir oa ob th ig sp_ ki tg of_ kp sf rs), (aI g to_ 25 tl), (aI g sm 25 uf_24), (aM g wa 6 (he_ro 6 r2)), (aM g sh_ 120 (he_ro 120 r6)), (aM g cn 7 (he_ro 7 r3)), (aM g br 7 (he_ro 7 r4)), (aI g as_ 25 (flF f g0 25))]) (P := (he_pl g L ln Mu_25)) hP [1, 2, 3, 4, 5, 6, 7, 0] rfl
            have hD := he_Dsub (X := [(aI g as_ 25 (flF f g0 25)), (oX11 m0 tw ta sz_ pl at_ fa fw cs fd rfm rt_ to_ rw_ wa ct rk rb cn br sm as_ go sh_ ir oa ob th ig sp_ ki tg of_ kp sf rs), (aI g to_ 25 tl), (aI g sm 25 uf_24), (aM g wa 6 (he_ro 6 r2)), (aM g sh_ 120 (he_ro 120 r6)), (aM g cn 7 (he_ro 7 r3)), (aM g br 7 (he_ro 7 r4))]) (X2 := [(oX11 m0 tw ta sz_ pl at_ fa fw cs fd rfm rt_ to_ rw_ wa ct rk rb cn br sm as_ go sh_ ir oa ob th ig sp_ ki tg of_ kp sf rs), (aI g to_ 25 tl), (aI g sm 25 uf_24), (aM g wa 6 (he_ro 6 r2)), (aM g sh_ 120 (he_ro 120 r6)), (aM g cn 7 (he_ro 7 r3)), (aM g br 7 (he_ro 7 r4)), (aI g as_ 25 (flF f g0 25))]) (P := (he_pl g L ln Mu_25)) hD [1, 2, 3, 4, 5, 6, 7, 0] rfl rfl rfl
            exact ih12 (j + 1) uf_24 Mu_25 (by omega) (by omega) (inF_up hf_26) (by rw [hf_27]; congr 1) (mEx_tr hmx hf_28) ((hf_29 hir).trans hzz) _ _ _ hP hD hS (lv_sub hl [1, 2, 0] rfl)
          · exact absurd c_20 (nI_nm1 (by decide))
  have hP := he_Psub (X := [(aI g to_ 25 tl), (aM g wa 6 (he_ro 6 r2)), (aM g sh_ 120 (he_ro 120 r6)), (aM g cn 7 (he_ro 7 r3)), (aM g br 7 (he_ro 7 r4)), (aI g as_ 25 (flF f g0 25)), (oX11 m0 tw ta sz_ pl at_ fa fw cs fd rfm rt_ to_ rw_ wa ct rk rb cn br sm as_ go sh_ ir oa ob th ig sp_ ki tg of_ kp sf rs), (aI g sm 25 (sgF f 6))]) (X2 := [(oX11 m0 tw ta sz_ pl at_ fa fw cs fd rfm rt_ to_ rw_ wa ct rk rb cn br sm as_ go sh_ ir oa ob th ig sp_ ki tg of_ kp sf rs), (aI g to_ 25 tl), (aI g sm 25 (sgF f 6)), (aM g wa 6 (he_ro 6 r2)), (aM g sh_ 120 (he_ro 120 r6)), (aM g cn 7 (he_ro 7 r3)), (aM g br 7 (he_ro 7 r4)), (aI g as_ 25 (flF f g0 25))]) (P := (he_pl g L ln M)) hP [6, 0, 7, 1, 2, 3, 4, 5] rfl
  have hD := he_Dsub (X := [(aI g to_ 25 tl), (aM g wa 6 (he_ro 6 r2)), (aM g sh_ 120 (he_ro 120 r6)), (aM g cn 7 (he_ro 7 r3)), (aM g br 7 (he_ro 7 r4)), (aI g as_ 25 (flF f g0 25)), (oX11 m0 tw ta sz_ pl at_ fa fw cs fd rfm rt_ to_ rw_ wa ct rk rb cn br sm as_ go sh_ ir oa ob th ig sp_ ki tg of_ kp sf rs), (aI g sm 25 (sgF f 6))]) (X2 := [(oX11 m0 tw ta sz_ pl at_ fa fw cs fd rfm rt_ to_ rw_ wa ct rk rb cn br sm as_ go sh_ ir oa ob th ig sp_ ki tg of_ kp sf rs), (aI g to_ 25 tl), (aI g sm 25 (sgF f 6)), (aM g wa 6 (he_ro 6 r2)), (aM g sh_ 120 (he_ro 120 r6)), (aM g cn 7 (he_ro 7 r3)), (aM g br 7 (he_ro 7 r4)), (aI g as_ 25 (flF f g0 25))]) (P := (he_pl g L ln M)) hD [6, 0, 7, 1, 2, 3, 4, 5] rfl rfl rfl
  exact loop12 ((n - 0) + 1) 0 (sgF f 6) M (Nat.lt_succ_self _) (Nat.zero_le _) (Or.inr (sgF_10 _ _)) (by rw [sg_24]; exact h24) (mEx_refl _ _ _) rfl _ _ _ hP hD hS (lv_sub hl [1, 2, 0] rfl)
end
section
theorem inF_25 {ci it q5 : Nat} {f g : Nat → Int32} (h : a25 f g) (hF : inF ci it q5 f) : inF ci it q5 g := by
  unfold inF
  rw [h 10 (by decide), h 11 (by decide)]
  exact hF
/-- a pair of numbers 1 .. 16 -/
def p16 (f : Nat → Int32) : Prop := (∃ a : Nat, 1 ≤ a ∧ a ≤ 16 ∧ f 0 = nI a) ∧ ∃ a : Nat, 1 ≤ a ∧ a ≤ 16 ∧ f 1 = nI a
theorem w16 {x : Int32} (h : ¬ he_within x 1 16 = 0) : ∃ a : Nat, 1 ≤ a ∧ a ≤ 16 ∧ x = nI a := by
  obtain ⟨a, e, h1, h2⟩ := wi_nat (A := 1) (B := 16) rfl rfl (by decide) (by decide) h
  exact ⟨a, h1, h2, e⟩
def kOk (r7 : Nat → Nat) (M : Nat → Nat → Int32) : Prop := ∀ i, i < 4 → p16 (M (r7 i))
def tOk (r8 : Nat → Nat) (M : Nat → Nat → Int32) (n : Nat) : Prop := ∀ i, i < n → p16 (M (r8 i))
theorem p16_up {f : Nat → Int32} {x y : Int32} (hx : ∃ a : Nat, 1 ≤ a ∧ a ≤ 16 ∧ x = nI a) (hy : ∃ a : Nat, 1 ≤ a ∧ a ≤ 16 ∧ y = nI a) : p16 (upd (upd f 0 x) 1 y) := ⟨by rw [upd_n (by decide), upd_s]; exact hx, by rw [upd_s]; exact hy⟩
theorem up2 {M : Nat → Nat → Int32} {a : Nat} {x y : Int32} : va_up (va_up M a (upd (M a) 0 x)) a (upd (va_up M a (upd (M a) 0 x) a) 1 y) = va_up M a (upd (upd (M a) 0 x) 1 y) := by
  funext b
  unfold va_up
  by_cases h : b = a
  · simp [h]
  · simp [h]
set_option maxHeartbeats 4000000 in
set_option maxRecDepth 100000 in
theorem h_X11_stop (l : Launch) (g : he_G) (m0 : Nat) (fd : Nat) (rfm : Nat) (rt_ : Nat) (to_ : Nat) (rw_ : Nat) (wa : Nat) (rk : Nat) (rb : Nat) (cn : Nat) (br : Nat) (sm : Nat) (as_ : Nat) (go : Nat) (sh_ : Nat) (ki : Nat) (tg : Nat) (of_ : Nat) (kp : Nat) (rs : Nat) (ta : Int32) (sz_ : Int32) (pl : Int32) (at_ : Int32) (fa : Int32) (fw : Int32) (cs : Int32) (ct : Int32) (ir : Int32) (oa : Int32) (ob : Int32) (th : Int32) (ig : Int32) (sp_ : Int32) (sf : Int32) (tw : Int32) (tl : Nat → Int32) (f : Nat → Int32) (g0 : Nat → Int32) (w : Nat) (L : List Nat) (ln : Nat → Nat) (M : Nat → Nat → Int32) (r2 : Nat → Nat) (r3 : Nat → Nat) (r4 : Nat → Nat) (r6 : Nat → Nat) (ci : Nat) (it : Nat) (q2 : Nat) (ck : Nat) (q5 : Nat) (mm : Nat) (n : Nat) (wh : Int32) (htl : tl 0 = nI w) (hw6 : w ≤ 6) (h24 : f 24 = nI mm) (hm120 : mm ≤ 120) (hir : ir = 0) (hci : ci < 7) (hbo : bOk (M (r4 ci))) (hq2 : M (r3 ci) 2 = nI q2) (hq9 : q2 ≤ 9) (hck : M (r3 ci) 3 = nI ck) (hc99 : ck ≤ 99) (hq5 : M (r3 ci) 5 = nI q5) (hq36 : q5 ≤ 36) (hF : inF ci it q5 f) (hn1 : 1 ≤ n) (hn2 : n ≤ 60) (F_r2 : ∀ i, i < 6 → r2 i ∈ L ∧ ln (r2 i) = 2 ∧ True) (F_r3 : ∀ i, i < 7 → r3 i ∈ L ∧ ln (r3 i) = 7 ∧ True) (F_r4 : ∀ i, i < 7 → r4 i ∈ L ∧ ln (r4 i) = 36 ∧ True) (F_r6 : ∀ i, i < 120 → r6 i ∈ L ∧ ln (r6 i) = 6 ∧ True) (D_r3_r6 : ∀ i j, i < 7 → j < 120 → r3 i ≠ r6 j) (D_r4_r6 : ∀ i j, i < 7 → j < 120 → r4 i ≠ r6 j) (hok0 : ¬ he_within wh 0 1 = 0) : he_I l yX11_stop wsX11_stop 6 136 0 0 g [.ref m0, .int (nI n), .int wh] ([(oX11 m0 tw ta sz_ pl at_ fa fw cs fd rfm rt_ to_ rw_ wa ct rk rb cn br sm as_ go sh_ ir oa ob th ig sp_ ki tg of_ kp sf rs), (aI g to_ 25 tl), (aI g sm 25 f), (aM g wa 6 (he_ro 6 r2)), (aM g sh_ 120 (he_ro 120 r6)), (aM g cn 7 (he_ro 7 r3)), (aM g br 7 (he_ro 7 r4)), (aI g as_ 25 g0)] ++ he_pl g L ln M) (fun (r : Int32) (u : (Nat → Int32) × (Nat → Int32) × (Nat → Nat → Int32)) => a25 f u.1 ∧ mEx r6 120 M u.2.2 ∧ u.2.2 = M) (fun (u : (Nat → Int32) × (Nat → Int32) × (Nat → Nat → Int32)) => [(oX11 m0 0 ta sz_ pl at_ fa fw cs fd rfm rt_ to_ rw_ wa ct rk rb cn br sm as_ go sh_ ir oa ob th ig sp_ ki tg of_ kp sf rs), (aI g to_ 25 tl), (aI g sm 25 u.1), (aM g wa 6 (he_ro 6 r2)), (aM g sh_ 120 (he_ro 120 r6)), (aM g cn 7 (he_ro 7 r3)), (aM g br 7 (he_ro 7 r4)), (aI g as_ 25 u.2.1)] ++ he_pl g L ln u.2.2) := by
  refine he_begin (l := l) (g := g) (y := yX11_stop) (wl := wsX11_stop) (fr := 6) (lo := 136) (mc := 0) (ms := 0) (av := [.ref m0, .int (nI n), .int wh]) (ws := ([(oX11 m0 tw ta sz_ pl at_ fa fw cs fd rfm rt_ to_ rw_ wa ct rk rb cn br sm as_ go sh_ ir oa ob th ig sp_ ki tg of_ kp sf rs), (aI g to_ 25 tl), (aI g sm 25 f), (aM g wa 6 (he_ro 6 r2)), (aM g sh_ 120 (he_ro 120 r6)), (aM g cn 7 (he_ro 7 r3)), (aM g br 7 (he_ro 7 r4)), (aI g as_ 25 g0)] ++ he_pl g L ln M)) (cc := cX11_stop) (maxL := 7) (ret := (some .int)) (fun A => va_Qi (fun (r : Int32) (u : (Nat → Int32) × (Nat → Int32) × (Nat → Nat → Int32)) => a25 f u.1 ∧ mEx r6 120 M u.2.2 ∧ u.2.2 = M) (fun u t => he_post g A ((fun (u : (Nat → Int32) × (Nat → Int32) × (Nat → Nat → Int32)) => [(oX11 m0 0 ta sz_ pl at_ fa fw cs fd rfm rt_ to_ rw_ wa ct rk rb cn br sm as_ go sh_ ir oa ob th ig sp_ ki tg of_ kp sf rs), (aI g to_ 25 tl), (aI g sm 25 u.1), (aM g wa 6 (he_ro 6 r2)), (aM g sh_ 120 (he_ro 120 r6)), (aM g cn 7 (he_ro 7 r3)), (aM g br 7 (he_ro 7 r4)), (aI g as_ 25 u.2.1)] ++ he_pl g L ln u.2.2) u) t) A) (by decide) rfl (Nat.le_of_ble_eq_true rfl) ?_
  intro p e s m args below meth c A ls H locs Q hQ hB
  obtain ⟨hx, hb, hr, hml, hown, hts, hlk, hin, hP, hK, hD, hS, hA, hE, hl⟩ := hB
  have hl : lv_has ls 7 [(0, .ref m0), (1, .int (nI n)), (2, .int wh)] := hl
  have f85 := hts (.fieldLink RX11 85 "HiredEnemyModel" "thrown" "I") (iwoX11_stop (k := 0) rfl)
  have inX11 : ∀ w ∈ wsX110, w ∈ wsX11_stop := innX11_stop_X11
  have f46 := hts (.fieldLink RX11 46 "HiredEnemyModel" "s" "[I") (iwoX11_stop (k := 1) rfl)
  refine lv_aload_n hx hb dX11_stop_0 rfl (lv_at hl 0 rfl) ?_
  refine lv_iconst (v := 0) hx hb dX11_stop_1 (by decide) ?_
  refine va_put (v := .int 0) (ty := .int) (T := TX11) (N := 35) hx hb hts inX11 tyX11 tyX11_ok nmX11 hown hK hP hD hS 0 rfl rfl 0 (by decide) f85 (fun _ h9 => h9) rfl (by decide +kernel) rfl rfl (Nat.le_of_ble_eq_true rfl) dX11_stop_2 (fun H locs hP hD hS => ?_)
  have hP : va_P g.1 vwCl ([(oX11 m0 0 ta sz_ pl at_ fa fw cs fd rfm rt_ to_ rw_ wa ct rk rb cn br sm as_ go sh_ ir oa ob th ig sp_ ki tg of_ kp sf rs), (aI g to_ 25 tl), (aI g sm 25 f), (aM g wa 6 (he_ro 6 r2)), (aM g sh_ 120 (he_ro 120 r6)), (aM g cn 7 (he_ro 7 r3)), (aM g br 7 (he_ro 7 r4)), (aI g as_ 25 g0)] ++ he_pl g L ln M) H := hP
  have hD : va_D A ([(oX11 m0 0 ta sz_ pl at_ fa fw cs fd rfm rt_ to_ rw_ wa ct rk rb cn br sm as_ go sh_ ir oa ob th ig sp_ ki tg of_ kp sf rs), (aI g to_ 25 tl), (aI g sm 25 f), (aM g wa 6 (he_ro 6 r2)), (aM g sh_ 120 (he_ro 120 r6)), (aM g cn 7 (he_ro 7 r3)), (aM g br 7 (he_ro 7 r4)), (aI g as_ 25 g0)] ++ he_pl g L ln M) := hD
  refine lv_aload_n hx hb dX11_stop_5 rfl (lv_at hl 0 rfl) ?_
  refine lv_iload_n hx hb dX11_stop_6 rfl (lv_at hl 1 rfl) ?_
  refine he_ci (wc := []) (wr := ([(oX11 m0 0 ta sz_ pl at_ fa fw cs fd rfm rt_ to_ rw_ wa ct rk rb cn br sm as_ go sh_ ir oa ob th ig sp_ ki tg of_ kp sf rs), (aI g to_ 25 tl), (aI g sm 25 f), (aM g wa 6 (he_ro 6 r2)), (aM g sh_ 120 (he_ro 120 r6)), (aM g cn 7 (he_ro 7 r3)), (aM g br 7 (he_ro 7 r4)), (aI g as_ 25 g0)] ++ (he_pl g L ln M))) (va_runS (As := [.int (nI n)]) (rest := [.ref m0]) ⟨hx, hb, hml, hown, hts⟩ (c_X11_areMonths l g (nI n) H.size) (va_cwS 1 hts gX11_stop_X11_areMonths rfl rfl rfl (by decide +kernel) ⟨Nat.le_of_ble_eq_true rfl, Nat.le_of_ble_eq_true rfl⟩) (he_preS (wc := []) hK hP hD hS hA hE [] rfl rfl) rfl rfl hl.1 rfl (lv_room (Nat.le_of_ble_eq_true rfl)) dX11_stop_7 ⟨(Nat.le_of_ble_eq_true rfl), (Nat.le_of_ble_eq_true rfl)⟩) hP hD hS hA [] (he_is [0, 1, 2, 3, 4, 5, 6, 7] [(oX11 m0 0 ta sz_ pl at_ fa fw cs fd rfm rt_ to_ rw_ wa ct rk rb cn br sm as_ go sh_ ir oa ob th ig sp_ ki tg of_ kp sf rs), (aI g to_ 25 tl), (aI g sm 25 f), (aM g wa 6 (he_ro 6 r2)), (aM g sh_ 120 (he_ro 120 r6)), (aM g cn 7 (he_ro 7 r3)), (aM g br 7 (he_ro 7 r4)), (aI g as_ 25 g0)] (he_pl g L ln M)) rfl (he_ixP rfl) (he_ndP rfl rfl) (he_disN (by decide) rfl) (fun r_1 u_2 H locs h_3 hP hD hS => ?_)
  have hP := va_P.swap hP
  have hD := va_D.swap hD
  subst h_3
  have hP : va_P g.1 vwCl ([(oX11 m0 0 ta sz_ pl at_ fa fw cs fd rfm rt_ to_ rw_ wa ct rk rb cn br sm as_ go sh_ ir oa ob th ig sp_ ki tg of_ kp sf rs), (aI g to_ 25 tl), (aI g sm 25 f), (aM g wa 6 (he_ro 6 r2)), (aM g sh_ 120 (he_ro 120 r6)), (aM g cn 7 (he_ro 7 r3)), (aM g br 7 (he_ro 7 r4)), (aI g as_ 25 g0)] ++ he_pl g L ln M) H := hP
  have hD : va_D A ([(oX11 m0 0 ta sz_ pl at_ fa fw cs fd rfm rt_ to_ rw_ wa ct rk rb cn br sm as_ go sh_ ir oa ob th ig sp_ ki tg of_ kp sf rs), (aI g to_ 25 tl), (aI g sm 25 f), (aM g wa 6 (he_ro 6 r2)), (aM g sh_ 120 (he_ro 120 r6)), (aM g cn 7 (he_ro 7 r3)), (aM g br 7 (he_ro 7 r4)), (aI g as_ 25 g0)] ++ he_pl g L ln M) := hD
  refine he_top (1) (he_within_in (a0 := 1) (B := 60) rfl rfl (by omega) (by omega) (by decide)) ?_
  refine lv_if_eq (tgt := 22) hx hb dX11_stop_10 (by decide) (fun c_4 => ?_) (fun c_4 => ?_)
  · exact absurd c_4 (by decide)
  · refine lv_iload_n hx hb dX11_stop_13 rfl (lv_at hl 2 rfl) ?_
    refine lv_iconst (v := 0) hx hb dX11_stop_14 (by decide) ?_
    refine lv_iconst (v := 1) hx hb dX11_stop_15 (by decide) ?_
    refine he_ci (wc := []) (wr := ([(oX11 m0 0 ta sz_ pl at_ fa fw cs fd rfm rt_ to_ rw_ wa ct rk rb cn br sm as_ go sh_ ir oa ob th ig sp_ ki tg of_ kp sf rs), (aI g to_ 25 tl), (aI g sm 25 f), (aM g wa 6 (he_ro 6 r2)), (aM g sh_ 120 (he_ro 120 r6)), (aM g cn 7 (he_ro 7 r3)), (aM g br 7 (he_ro 7 r4)), (aI g as_ 25 g0)] ++ (he_pl g L ln M))) (va_runS (As := [.int wh, .int 0, .int 1]) (rest := [.ref m0]) ⟨hx, hb, hml, hown, hts⟩ (c_X11_in l g wh 0 1 H.size) (va_cwS 3 hts gX11_stop_X11_in rfl rfl rfl (by decide +kernel) ⟨Nat.le_of_ble_eq_true rfl, Nat.le_of_ble_eq_true rfl⟩) (he_preS (wc := []) hK hP hD hS hA hE [] rfl rfl) rfl rfl hl.1 rfl (lv_room (Nat.le_of_ble_eq_true rfl)) dX11_stop_16 ⟨(Nat.le_of_ble_eq_true rfl), (Nat.le_of_ble_eq_true rfl)⟩) hP hD hS hA [] (he_is [0, 1, 2, 3, 4, 5, 6, 7] [(oX11 m0 0 ta sz_ pl at_ fa fw cs fd rfm rt_ to_ rw_ wa ct rk rb cn br sm as_ go sh_ ir oa ob th ig sp_ ki tg of_ kp sf rs), (aI g to_ 25 tl), (aI g sm 25 f), (aM g wa 6 (he_ro 6 r2)), (aM g sh_ 120 (he_ro 120 r6)), (aM g cn 7 (he_ro 7 r3)), (aM g br 7 (he_ro 7 r4)), (aI g as_ 25 g0)] (he_pl g L ln M)) rfl (he_ixP rfl) (he_ndP rfl rfl) (he_disN (by decide) rfl) (fun r_5 u_6 H locs h_7 hP hD hS => ?_)
    have hP := va_P.swap hP
    have hD := va_D.swap hD
    subst h_7
    have hP : va_P g.1 vwCl ([(oX11 m0 0 ta sz_ pl at_ fa fw cs fd rfm rt_ to_ rw_ wa ct rk rb cn br sm as_ go sh_ ir oa ob th ig sp_ ki tg of_ kp sf rs), (aI g to_ 25 tl), (aI g sm 25 f), (aM g wa 6 (he_ro 6 r2)), (aM g sh_ 120 (he_ro 120 r6)), (aM g cn 7 (he_ro 7 r3)), (aM g br 7 (he_ro 7 r4)), (aI g as_ 25 g0)] ++ he_pl g L ln M) H := hP
    have hD : va_D A ([(oX11 m0 0 ta sz_ pl at_ fa fw cs fd rfm rt_ to_ rw_ wa ct rk rb cn br sm as_ go sh_ ir oa ob th ig sp_ ki tg of_ kp sf rs), (aI g to_ 25 tl), (aI g sm 25 f), (aM g wa 6 (he_ro 6 r2)), (aM g sh_ 120 (he_ro 120 r6)), (aM g cn 7 (he_ro 7 r3)), (aM g br 7 (he_ro 7 r4)), (aI g as_ 25 g0)] ++ he_pl g L ln M) := hD
    refine he_top (1) (he_within_1 hok0) ?_
    refine lv_if_ne (tgt := 26) hx hb dX11_stop_19 (by decide) (fun c_8 => ?_) (fun c_8 => ?_)
    · refine lv_iconst (v := 0) hx hb dX11_stop_26 (by decide) ?_
      refine lv_iconst (v := 1) hx hb dX11_stop_27 (by decide) ?_
      refine lv_iconst (v := 2) hx hb dX11_stop_28 (by decide) ?_
      refine he_ci (wc := [(oX11 m0 0 ta sz_ pl at_ fa fw cs fd rfm rt_ to_ rw_ wa ct rk rb cn br sm as_ go sh_ ir oa ob th ig sp_ ki tg of_ kp sf rs)]) (wr := ([(aI g to_ 25 tl), (aI g sm 25 f), (aM g wa 6 (he_ro 6 r2)), (aM g sh_ 120 (he_ro 120 r6)), (aM g cn 7 (he_ro 7 r3)), (aM g br 7 (he_ro 7 r4)), (aI g as_ 25 g0)] ++ (he_pl g L ln M))) (va_runV (As := [.int 0, .int 1, .int 2]) (rest := []) ⟨hx, hb, hml, hown, hts⟩ (c_X11_bad0 l g m0 fd rfm rt_ to_ rw_ wa rk rb cn br sm as_ go sh_ ki tg of_ kp rs ta sz_ pl at_ fa fw cs ct ir oa ob th ig sp_ sf 1 2 H.size) (cwV 3 hts gX11_stop_X11_bad rfl rfl rfl (by decide +kernel) ⟨Nat.le_of_ble_eq_true rfl, Nat.le_of_ble_eq_true rfl⟩) (he_preV (wc := [(oX11 m0 0 ta sz_ pl at_ fa fw cs fd rfm rt_ to_ rw_ wa ct rk rb cn br sm as_ go sh_ ir oa ob th ig sp_ ki tg of_ kp sf rs)]) hK hP hD hS hA hE [0] rfl rfl 0 rfl rfl) rfl rfl hl.1 rfl (lv_room (Nat.le_of_ble_eq_true rfl)) dX11_stop_29 ⟨(Nat.le_of_ble_eq_true rfl), (Nat.le_of_ble_eq_true rfl)⟩) hP hD hS hA [0] (he_is [1, 2, 3, 4, 5, 6, 7] [(oX11 m0 0 ta sz_ pl at_ fa fw cs fd rfm rt_ to_ rw_ wa ct rk rb cn br sm as_ go sh_ ir oa ob th ig sp_ ki tg of_ kp sf rs), (aI g to_ 25 tl), (aI g sm 25 f), (aM g wa 6 (he_ro 6 r2)), (aM g sh_ 120 (he_ro 120 r6)), (aM g cn 7 (he_ro 7 r3)), (aM g br 7 (he_ro 7 r4)), (aI g as_ 25 g0)] (he_pl g L ln M)) rfl (he_ixP rfl) (he_ndP rfl rfl) (he_disN (by decide) rfl) (fun r_9 u_10 H locs h_11 hP hD hS => ?_)
      have hP := va_P.swap hP
      have hD := va_D.swap hD
      subst h_11
      have hP : va_P g.1 vwCl ([(aI g to_ 25 tl), (aI g sm 25 f), (aM g wa 6 (he_ro 6 r2)), (aM g sh_ 120 (he_ro 120 r6)), (aM g cn 7 (he_ro 7 r3)), (aM g br 7 (he_ro 7 r4)), (aI g as_ 25 g0), (oX11 m0 0 ta sz_ pl at_ fa fw cs fd rfm rt_ to_ rw_ wa ct rk rb cn br sm as_ go sh_ ir oa ob th ig sp_ ki tg of_ kp sf rs)] ++ he_pl g L ln M) H := hP
      have hD : va_D A ([(aI g to_ 25 tl), (aI g sm 25 f), (aM g wa 6 (he_ro 6 r2)), (aM g sh_ 120 (he_ro 120 r6)), (aM g cn 7 (he_ro 7 r3)), (aM g br 7 (he_ro 7 r4)), (aI g as_ 25 g0), (oX11 m0 0 ta sz_ pl at_ fa fw cs fd rfm rt_ to_ rw_ wa ct rk rb cn br sm as_ go sh_ ir oa ob th ig sp_ ki tg of_ kp sf rs)] ++ he_pl g L ln M) := hD
      refine lv_if_eq (tgt := 37) hx hb dX11_stop_32 (by decide) (fun c_12 => ?_) (fun c_12 => ?_)
      · refine lv_iconst (v := 0) hx hb dX11_stop_37 (by decide) ?_
        refine lv_istore_n (lv' := [(3, .int 0), (0, .ref m0), (1, .int (nI n)), (2, .int wh)]) hx hb dX11_stop_38 rfl hl (by decide) rfl (fun ls hl => ?_)
        refine lv_iconst (v := (-1)) hx hb dX11_stop_39 (by decide) ?_
        refine lv_istore (lv' := [(4, .int (-1)), (3, .int 0), (0, .ref m0), (1, .int (nI n)), (2, .int wh)]) hx hb dX11_stop_40 hl (by decide) rfl (fun ls hl => ?_)
        refine lv_iconst (v := 0) hx hb dX11_stop_42 (by decide) ?_
        refine lv_istore (lv' := [(5, .int 0), (4, .int (-1)), (3, .int 0), (0, .ref m0), (1, .int (nI n)), (2, .int wh)]) hx hb dX11_stop_43 hl (by decide) rfl (fun ls hl => ?_)
        have loop45 : ∀ (n9 : Nat) (j : Nat) (be : Int32) (ms : Int32) (F : Nat → Int32) (Gs : Nat → Int32) (Mj : Nat → Nat → Int32), n + 1 - j < n9 → (j ≤ n + 1) → (a25 f F) → (mEx r6 120 M Mj) → (Mj = M) → ∀ (H : Heap) (locs : List Loc) (ls : Array Slot), va_P g.1 vwCl ([(oX11 m0 0 ta sz_ pl at_ fa fw cs fd rfm rt_ to_ rw_ wa ct rk rb cn br sm as_ go sh_ ir oa ob th ig sp_ ki tg of_ kp sf rs), (aI g to_ 25 tl), (aI g sm 25 F), (aM g wa 6 (he_ro 6 r2)), (aM g sh_ 120 (he_ro 120 r6)), (aM g cn 7 (he_ro 7 r3)), (aM g br 7 (he_ro 7 r4)), (aI g as_ 25 Gs)] ++ he_pl g L ln Mj) H → va_D A ([(oX11 m0 0 ta sz_ pl at_ fa fw cs fd rfm rt_ to_ rw_ wa ct rk rb cn br sm as_ go sh_ ir oa ob th ig sp_ ki tg of_ kp sf rs), (aI g to_ 25 tl), (aI g sm 25 F), (aM g wa 6 (he_ro 6 r2)), (aM g sh_ 120 (he_ro 120 r6)), (aM g cn 7 (he_ro 7 r3)), (aM g br 7 (he_ro 7 r4)), (aI g as_ 25 Gs)] ++ he_pl g L ln Mj) → va_S A s.heap H locs → lv_has ls 7 [(0, .ref m0), (1, .int (nI n)), (2, .int wh), (3, .int be), (4, .int ms), (5, .int (nI j))] → W p l e (he_room 6 136 0 0) s m args below meth c H locs 0 0 Q (F0 m 45 ls []) := by
          intro n9
          induction n9 with
          | zero => intro j be ms F Gs Mj hm9; exact absurd hm9 (Nat.not_lt_zero _)
          | succ n9 ih45 =>
            intro j be ms F Gs Mj hm9 hj hF9 hmx hzz H locs ls hP hD hS hl
            refine lv_iload hx hb dX11_stop_45 (lv_at hl 5 rfl) ?_
            refine lv_iload_n hx hb dX11_stop_47 rfl (lv_at hl 1 rfl) ?_
            refine lv_icmp_gt (tgt := 109) hx hb dX11_stop_48 (by decide) (fun c_13 => ?_) (fun c_13 => ?_)
            · have k_14 : n < j := (he_clt (a := n) (b := j) rfl rfl (by omega) (by omega)).mp c_13
              refine lv_iload_n hx hb dX11_stop_109 rfl (lv_at hl 2 rfl) ?_
              refine lv_if_ne (tgt := 117) hx hb dX11_stop_110 (by decide) (fun c_15 => ?_) (fun c_15 => ?_)
              · refine lv_iload hx hb dX11_stop_117 (lv_at hl 4 rfl) ?_
                exact he_ri hQ hx hb hr hlk hP hD hS dX11_stop_119 (Nat.le_of_ble_eq_true rfl) (Nat.le_of_ble_eq_true rfl) ((F, Gs, Mj)) (rfl) (by (try dsimp only); exact ⟨hF9, hmx, hzz⟩)
              · refine lv_iload_n hx hb dX11_stop_113 rfl (lv_at hl 3 rfl) ?_
                refine lv_goto (tgt := 119) hx hb dX11_stop_114 (by decide) ?_
                exact he_ri hQ hx hb hr hlk hP hD hS dX11_stop_119 (Nat.le_of_ble_eq_true rfl) (Nat.le_of_ble_eq_true rfl) ((F, Gs, Mj)) (rfl) (by (try dsimp only); exact ⟨hF9, hmx, hzz⟩)
            · have k_16 : ¬ (n < j) := fun h9 => c_13 ((he_clt (a := n) (b := j) rfl rfl (by omega) (by omega)).mpr h9)
              refine lv_aload_n hx hb dX11_stop_51 rfl (lv_at hl 0 rfl) ?_
              refine he_cv (wc := [(oX11 m0 0 ta sz_ pl at_ fa fw cs fd rfm rt_ to_ rw_ wa ct rk rb cn br sm as_ go sh_ ir oa ob th ig sp_ ki tg of_ kp sf rs), (aI g sm 25 F), (aI g as_ 25 Gs)]) (wr := ([(aI g to_ 25 tl), (aM g wa 6 (he_ro 6 r2)), (aM g sh_ 120 (he_ro 120 r6)), (aM g cn 7 (he_ro 7 r3)), (aM g br 7 (he_ro 7 r4))] ++ (he_pl g L ln Mj))) (va_runV (As := []) (rest := []) ⟨hx, hb, hml, hown, hts⟩ (c_X11_puts l g m0 fd rfm rt_ to_ rw_ wa rk rb cn br sm as_ go sh_ ki tg of_ kp rs ta sz_ pl at_ fa fw cs ct ir oa ob th ig sp_ sf 0 F Gs H.size) (cwV 0 hts gX11_stop_X11_puts rfl rfl rfl (by decide +kernel) ⟨Nat.le_of_ble_eq_true rfl, Nat.le_of_ble_eq_true rfl⟩) (he_preV (wc := [(oX11 m0 0 ta sz_ pl at_ fa fw cs fd rfm rt_ to_ rw_ wa ct rk rb cn br sm as_ go sh_ ir oa ob th ig sp_ ki tg of_ kp sf rs), (aI g sm 25 F), (aI g as_ 25 Gs)]) hK hP hD hS hA hE [0, 2, 7] rfl rfl 0 rfl rfl) rfl rfl hl.1 rfl (lv_room (Nat.le_of_ble_eq_true rfl)) dX11_stop_52 ⟨(Nat.le_of_ble_eq_true rfl), (Nat.le_of_ble_eq_true rfl)⟩) hP hD hS hA [0, 2, 7] (he_is [1, 3, 4, 5, 6] [(oX11 m0 0 ta sz_ pl at_ fa fw cs fd rfm rt_ to_ rw_ wa ct rk rb cn br sm as_ go sh_ ir oa ob th ig sp_ ki tg of_ kp sf rs), (aI g to_ 25 tl), (aI g sm 25 F), (aM g wa 6 (he_ro 6 r2)), (aM g sh_ 120 (he_ro 120 r6)), (aM g cn 7 (he_ro 7 r3)), (aM g br 7 (he_ro 7 r4)), (aI g as_ 25 Gs)] (he_pl g L ln Mj)) rfl (he_ixP rfl) (he_ndP rfl rfl) (he_disN (by decide) rfl) (fun u_18 H locs h_19 hP hD hS => ?_)
              have hP := va_P.swap hP
              have hD := va_D.swap hD
              have hP : va_P g.1 vwCl ([(aI g to_ 25 tl), (aM g wa 6 (he_ro 6 r2)), (aM g sh_ 120 (he_ro 120 r6)), (aM g cn 7 (he_ro 7 r3)), (aM g br 7 (he_ro 7 r4)), (oX11 m0 0 ta sz_ pl at_ fa fw cs fd rfm rt_ to_ rw_ wa ct rk rb cn br sm as_ go sh_ ir oa ob th ig sp_ ki tg of_ kp sf rs), (aI g sm 25 F), (aI g as_ 25 (flF F Gs 25))] ++ he_pl g L ln Mj) H := hP
              have hD : va_D A ([(aI g to_ 25 tl), (aM g wa 6 (he_ro 6 r2)), (aM g sh_ 120 (he_ro 120 r6)), (aM g cn 7 (he_ro 7 r3)), (aM g br 7 (he_ro 7 r4)), (oX11 m0 0 ta sz_ pl at_ fa fw cs fd rfm rt_ to_ rw_ wa ct rk rb cn br sm as_ go sh_ ir oa ob th ig sp_ ki tg of_ kp sf rs), (aI g sm 25 F), (aI g as_ 25 (flF F Gs 25))] ++ he_pl g L ln Mj) := hD
              refine lv_aload_n hx hb dX11_stop_55 rfl (lv_at hl 0 rfl) ?_
              refine lv_iload hx hb dX11_stop_56 (lv_at hl 5 rfl) ?_
              refine he_cv (wc := ([(oX11 m0 0 ta sz_ pl at_ fa fw cs fd rfm rt_ to_ rw_ wa ct rk rb cn br sm as_ go sh_ ir oa ob th ig sp_ ki tg of_ kp sf rs), (aI g to_ 25 tl), (aI g sm 25 F), (aM g wa 6 (he_ro 6 r2)), (aM g sh_ 120 (he_ro 120 r6)), (aM g cn 7 (he_ro 7 r3)), (aM g br 7 (he_ro 7 r4))] ++ (he_pl g L ln Mj))) (wr := [(aI g as_ 25 (flF F Gs 25))]) (va_runV (As := [.int (nI j)]) (rest := []) ⟨hx, hb, hml, hown, hts⟩ (h_X11_goesOn l g m0 fd rfm rt_ to_ rw_ wa rk rb cn br sm as_ go sh_ ki tg of_ kp rs ta sz_ pl at_ fa fw cs ct ir oa ob th ig sp_ sf 0 tl F w L ln Mj r2 r3 r4 r6 ci it q2 ck q5 mm j (by first | assumption | decide | omega) (by first | assumption | decide | omega) (by first | assumption | decide | omega) (by rw [hmx _ (fun i hi => D_r4_r6 ci i hci hi)]; exact hbo) (by rw [hmx _ (fun i hi => D_r3_r6 ci i hci hi)]; exact hq2) (by first | assumption | decide | omega) (by rw [hmx _ (fun i hi => D_r3_r6 ci i hci hi)]; exact hck) (by first | assumption | decide | omega) (by rw [hmx _ (fun i hi => D_r3_r6 ci i hci hi)]; exact hq5) (by first | assumption | decide | omega) (inF_25 hF9 hF) (a25_24 hF9 h24) (by omega) (by first | assumption | decide | omega) (by first | assumption | decide | omega) (by first | assumption | decide | omega) (by first | assumption | decide | omega) (by first | assumption | decide | omega) (by first | assumption | decide | omega) (by first | assumption | decide | omega) H.size) (cwV 1 hts gX11_stop_X11_goesOn rfl rfl rfl (by decide +kernel) ⟨Nat.le_of_ble_eq_true rfl, Nat.le_of_ble_eq_true rfl⟩) (he_preV (wc := ([(oX11 m0 0 ta sz_ pl at_ fa fw cs fd rfm rt_ to_ rw_ wa ct rk rb cn br sm as_ go sh_ ir oa ob th ig sp_ ki tg of_ kp sf rs), (aI g to_ 25 tl), (aI g sm 25 F), (aM g wa 6 (he_ro 6 r2)), (aM g sh_ 120 (he_ro 120 r6)), (aM g cn 7 (he_ro 7 r3)), (aM g br 7 (he_ro 7 r4))] ++ (he_pl g L ln Mj))) hK hP hD hS hA hE (he_is [5, 0, 6, 1, 2, 3, 4] [(aI g to_ 25 tl), (aM g wa 6 (he_ro 6 r2)), (aM g sh_ 120 (he_ro 120 r6)), (aM g cn 7 (he_ro 7 r3)), (aM g br 7 (he_ro 7 r4)), (oX11 m0 0 ta sz_ pl at_ fa fw cs fd rfm rt_ to_ rw_ wa ct rk rb cn br sm as_ go sh_ ir oa ob th ig sp_ ki tg of_ kp sf rs), (aI g sm 25 F), (aI g as_ 25 (flF F Gs 25))] (he_pl g L ln Mj)) (he_ixP rfl) (he_ndP rfl rfl) 5 rfl rfl) rfl rfl hl.1 rfl (lv_room (Nat.le_of_ble_eq_true rfl)) dX11_stop_58 ⟨(Nat.le_of_ble_eq_true rfl), (Nat.le_of_ble_eq_true rfl)⟩) hP hD hS hA (he_is [5, 0, 6, 1, 2, 3, 4] [(aI g to_ 25 tl), (aM g wa 6 (he_ro 6 r2)), (aM g sh_ 120 (he_ro 120 r6)), (aM g cn 7 (he_ro 7 r3)), (aM g br 7 (he_ro 7 r4)), (oX11 m0 0 ta sz_ pl at_ fa fw cs fd rfm rt_ to_ rw_ wa ct rk rb cn br sm as_ go sh_ ir oa ob th ig sp_ ki tg of_ kp sf rs), (aI g sm 25 F), (aI g as_ 25 (flF F Gs 25))] (he_pl g L ln Mj)) [7] (he_ixP rfl) rfl rfl (he_disP (by decide) rfl) (fun u_21 H locs h_22 hP hD hS => ?_)
              obtain ⟨ui_23, uf_24, Mu_25⟩ := u_21
              try dsimp only at h_22
              obtain ⟨hf_26, hf_27, hf_28, hf_29⟩ := h_22
              have hP : va_P g.1 vwCl ([(aI g as_ 25 (flF F Gs 25)), (oX11 m0 0 ta sz_ pl at_ fa fw cs fd rfm rt_ to_ rw_ wa ct rk rb cn br sm as_ go sh_ ir oa ob th ig sp_ ki tg of_ kp sf rs), (aI g to_ 25 tl), (aI g sm 25 uf_24), (aM g wa 6 (he_ro 6 r2)), (aM g sh_ 120 (he_ro 120 r6)), (aM g cn 7 (he_ro 7 r3)), (aM g br 7 (he_ro 7 r4))] ++ he_pl g L ln Mu_25) H := hP
              have hD : va_D A ([(aI g as_ 25 (flF F Gs 25)), (oX11 m0 0 ta sz_ pl at_ fa fw cs fd rfm rt_ to_ rw_ wa ct rk rb cn br sm as_ go sh_ ir oa ob th ig sp_ ki tg of_ kp sf rs), (aI g to_ 25 tl), (aI g sm 25 uf_24), (aM g wa 6 (he_ro 6 r2)), (aM g sh_ 120 (he_ro 120 r6)), (aM g cn 7 (he_ro 7 r3)), (aM g br 7 (he_ro 7 r4))] ++ he_pl g L ln Mu_25) := hD
              have HG24 := hf_27
              refine lv_aload_n hx hb dX11_stop_61 rfl (lv_at hl 0 rfl) ?_
              refine lv_iconst (v := (-1)) hx hb dX11_stop_62 (by decide) ?_
              refine he_cv (wc := [(oX11 m0 0 ta sz_ pl at_ fa fw cs fd rfm rt_ to_ rw_ wa ct rk rb cn br sm as_ go sh_ ir oa ob th ig sp_ ki tg of_ kp sf rs), (aI g sm 25 uf_24)]) (wr := ([(aI g as_ 25 (flF F Gs 25)), (aI g to_ 25 tl), (aM g wa 6 (he_ro 6 r2)), (aM g sh_ 120 (he_ro 120 r6)), (aM g cn 7 (he_ro 7 r3)), (aM g br 7 (he_ro 7 r4))] ++ (he_pl g L ln Mu_25))) (va_runV (As := [.int (-1)]) (rest := []) ⟨hx, hb, hml, hown, hts⟩ (c_X11_signs l g m0 fd rfm rt_ to_ rw_ wa rk rb cn br sm as_ go sh_ ki tg of_ kp rs ta sz_ pl at_ fa fw cs ct ir oa ob th ig sp_ sf 0 uf_24 (-1) H.size) (cwV 1 hts gX11_stop_X11_signs rfl rfl rfl (by decide +kernel) ⟨Nat.le_of_ble_eq_true rfl, Nat.le_of_ble_eq_true rfl⟩) (he_preV (wc := [(oX11 m0 0 ta sz_ pl at_ fa fw cs fd rfm rt_ to_ rw_ wa ct rk rb cn br sm as_ go sh_ ir oa ob th ig sp_ ki tg of_ kp sf rs), (aI g sm 25 uf_24)]) hK hP hD hS hA hE [1, 3] rfl rfl 1 rfl rfl) rfl rfl hl.1 rfl (lv_room (Nat.le_of_ble_eq_true rfl)) dX11_stop_63 ⟨(Nat.le_of_ble_eq_true rfl), (Nat.le_of_ble_eq_true rfl)⟩) hP hD hS hA [1, 3] (he_is [0, 2, 4, 5, 6, 7] [(aI g as_ 25 (flF F Gs 25)), (oX11 m0 0 ta sz_ pl at_ fa fw cs fd rfm rt_ to_ rw_ wa ct rk rb cn br sm as_ go sh_ ir oa ob th ig sp_ ki tg of_ kp sf rs), (aI g to_ 25 tl), (aI g sm 25 uf_24), (aM g wa 6 (he_ro 6 r2)), (aM g sh_ 120 (he_ro 120 r6)), (aM g cn 7 (he_ro 7 r3)), (aM g br 7 (he_ro 7 r4))] (he_pl g L ln Mu_25)) rfl (he_ixP rfl) (he_ndP rfl rfl) (he_disN (by decide) rfl) (fun u_31 H locs h_32 hP hD hS => ?_)
              have hP := va_P.swap hP
              have hD := va_D.swap hD
              have hP : va_P g.1 vwCl ([(aI g as_ 25 (flF F Gs 25)), (aI g to_ 25 tl), (aM g wa 6 (he_ro 6 r2)), (aM g sh_ 120 (he_ro 120 r6)), (aM g cn 7 (he_ro 7 r3)), (aM g br 7 (he_ro 7 r4)), (oX11 m0 0 ta sz_ pl at_ fa fw cs fd rfm rt_ to_ rw_ wa ct rk rb cn br sm as_ go sh_ ir oa ob th ig sp_ ki tg of_ kp sf rs), (aI g sm 25 (sgF uf_24 (-1)))] ++ he_pl g L ln Mu_25) H := hP
              have hD : va_D A ([(aI g as_ 25 (flF F Gs 25)), (aI g to_ 25 tl), (aM g wa 6 (he_ro 6 r2)), (aM g sh_ 120 (he_ro 120 r6)), (aM g cn 7 (he_ro 7 r3)), (aM g br 7 (he_ro 7 r4)), (oX11 m0 0 ta sz_ pl at_ fa fw cs fd rfm rt_ to_ rw_ wa ct rk rb cn br sm as_ go sh_ ir oa ob th ig sp_ ki tg of_ kp sf rs), (aI g sm 25 (sgF uf_24 (-1)))] ++ he_pl g L ln Mu_25) := hD
              refine lv_aload_n hx hb dX11_stop_66 rfl (lv_at hl 0 rfl) ?_
              refine lv_iload_n hx hb dX11_stop_67 rfl (lv_at hl 1 rfl) ?_
              refine lv_iload hx hb dX11_stop_68 (lv_at hl 5 rfl) ?_
              refine lv_isub hx hb dX11_stop_70 ?_
              refine he_top (nI (n - j)) (pk_sub (by omega)) ?_
              refine he_cv (wc := ([(oX11 m0 0 ta sz_ pl at_ fa fw cs fd rfm rt_ to_ rw_ wa ct rk rb cn br sm as_ go sh_ ir oa ob th ig sp_ ki tg of_ kp sf rs), (aI g to_ 25 tl), (aI g sm 25 (sgF uf_24 (-1))), (aM g wa 6 (he_ro 6 r2))] ++ (he_pl g L ln Mu_25))) (wr := [(aI g as_ 25 (flF F Gs 25)), (aM g sh_ 120 (he_ro 120 r6)), (aM g cn 7 (he_ro 7 r3)), (aM g br 7 (he_ro 7 r4))]) (va_runV (As := [.int (nI (n - j))]) (rest := []) ⟨hx, hb, hml, hown, hts⟩ (h_X11_goesOnN l g m0 fd rfm rt_ to_ rw_ wa rk rb cn br sm as_ go sh_ ki tg of_ kp rs ta sz_ pl at_ fa fw cs ct ir oa ob th ig sp_ sf 0 tl (sgF uf_24 (-1)) w L ln Mu_25 r2 (mm + j) (n - j) (by first | assumption | decide | omega) (by first | assumption | decide | omega) (sgF_10 _ _) (by rw [sg_24]; exact HG24) (by omega) (by first | assumption | decide | omega) H.size) (cwV 1 hts gX11_stop_X11_goesOn rfl rfl rfl (by decide +kernel) ⟨Nat.le_of_ble_eq_true rfl, Nat.le_of_ble_eq_true rfl⟩) (he_preV (wc := ([(oX11 m0 0 ta sz_ pl at_ fa fw cs fd rfm rt_ to_ rw_ wa ct rk rb cn br sm as_ go sh_ ir oa ob th ig sp_ ki tg of_ kp sf rs), (aI g to_ 25 tl), (aI g sm 25 (sgF uf_24 (-1))), (aM g wa 6 (he_ro 6 r2))] ++ (he_pl g L ln Mu_25))) hK hP hD hS hA hE (he_is [6, 1, 7, 2] [(aI g as_ 25 (flF F Gs 25)), (aI g to_ 25 tl), (aM g wa 6 (he_ro 6 r2)), (aM g sh_ 120 (he_ro 120 r6)), (aM g cn 7 (he_ro 7 r3)), (aM g br 7 (he_ro 7 r4)), (oX11 m0 0 ta sz_ pl at_ fa fw cs fd rfm rt_ to_ rw_ wa ct rk rb cn br sm as_ go sh_ ir oa ob th ig sp_ ki tg of_ kp sf rs), (aI g sm 25 (sgF uf_24 (-1)))] (he_pl g L ln Mu_25)) (he_ixP rfl) (he_ndP rfl rfl) 6 rfl rfl) rfl rfl hl.1 rfl (lv_room (Nat.le_of_ble_eq_true rfl)) dX11_stop_71 ⟨(Nat.le_of_ble_eq_true rfl), (Nat.le_of_ble_eq_true rfl)⟩) hP hD hS hA (he_is [6, 1, 7, 2] [(aI g as_ 25 (flF F Gs 25)), (aI g to_ 25 tl), (aM g wa 6 (he_ro 6 r2)), (aM g sh_ 120 (he_ro 120 r6)), (aM g cn 7 (he_ro 7 r3)), (aM g br 7 (he_ro 7 r4)), (oX11 m0 0 ta sz_ pl at_ fa fw cs fd rfm rt_ to_ rw_ wa ct rk rb cn br sm as_ go sh_ ir oa ob th ig sp_ ki tg of_ kp sf rs), (aI g sm 25 (sgF uf_24 (-1)))] (he_pl g L ln Mu_25)) [0, 3, 4, 5] (he_ixP rfl) rfl rfl (he_disP (by decide) rfl) (fun u_34 H locs h_35 hP hD hS => ?_)
              obtain ⟨uf_36, rfl⟩ : ∃ z, z = u_34 := ⟨_, rfl⟩
              try dsimp only at h_35
              obtain ⟨hf_37, hf_38⟩ := h_35
              have hP : va_P g.1 vwCl ([(aI g as_ 25 (flF F Gs 25)), (aM g sh_ 120 (he_ro 120 r6)), (aM g cn 7 (he_ro 7 r3)), (aM g br 7 (he_ro 7 r4)), (oX11 m0 0 ta sz_ pl at_ fa fw cs fd rfm rt_ to_ rw_ wa ct rk rb cn br sm as_ go sh_ ir oa ob th ig sp_ ki tg of_ kp sf rs), (aI g to_ 25 tl), (aI g sm 25 uf_36), (aM g wa 6 (he_ro 6 r2))] ++ he_pl g L ln Mu_25) H := hP
              have hD : va_D A ([(aI g as_ 25 (flF F Gs 25)), (aM g sh_ 120 (he_ro 120 r6)), (aM g cn 7 (he_ro 7 r3)), (aM g br 7 (he_ro 7 r4)), (oX11 m0 0 ta sz_ pl at_ fa fw cs fd rfm rt_ to_ rw_ wa ct rk rb cn br sm as_ go sh_ ir oa ob th ig sp_ ki tg of_ kp sf rs), (aI g to_ 25 tl), (aI g sm 25 uf_36), (aM g wa 6 (he_ro 6 r2))] ++ he_pl g L ln Mu_25) := hD
              refine lv_aload_n hx hb dX11_stop_74 rfl (lv_at hl 0 rfl) ?_
              refine va_get (v := .ref sm) (T := TX11) (N := 35) hx hb hts inX11 hown hK hP 4 rfl rfl 19 (by decide) f46 (fun _ h9 => h9) rfl dX11_stop_75 ?_
              refine lv_iconst (v := 0) hx hb dX11_stop_78 (by decide) ?_
              refine he_iald hx hb hK hP 6 rfl (0) (by decide) (by decide) (by first | decide | assumption) (uf_36 0) rfl dX11_stop_79 ?_
              refine lv_istore (lv' := [(6, .int (uf_36 0)), (0, .ref m0), (1, .int (nI n)), (2, .int wh), (3, .int be), (4, .int ms), (5, .int (nI j))]) hx hb dX11_stop_80 hl (by decide) rfl (fun ls hl => ?_)
              refine lv_aload_n hx hb dX11_stop_82 rfl (lv_at hl 1 rfl) ?_
              refine he_cv (wc := [(oX11 m0 0 ta sz_ pl at_ fa fw cs fd rfm rt_ to_ rw_ wa ct rk rb cn br sm as_ go sh_ ir oa ob th ig sp_ ki tg of_ kp sf rs), (aI g sm 25 uf_36), (aI g as_ 25 (flF F Gs 25))]) (wr := ([(aM g sh_ 120 (he_ro 120 r6)), (aM g cn 7 (he_ro 7 r3)), (aM g br 7 (he_ro 7 r4)), (aI g to_ 25 tl), (aM g wa 6 (he_ro 6 r2))] ++ (he_pl g L ln Mu_25))) (va_runV (As := []) (rest := []) ⟨hx, hb, hml, hown, hts⟩ (c_X11_takes l g m0 fd rfm rt_ to_ rw_ wa rk rb cn br sm as_ go sh_ ki tg of_ kp rs ta sz_ pl at_ fa fw cs ct ir oa ob th ig sp_ sf 0 uf_36 (flF F Gs 25) H.size) (cwV 0 hts gX11_stop_X11_takes rfl rfl rfl (by decide +kernel) ⟨Nat.le_of_ble_eq_true rfl, Nat.le_of_ble_eq_true rfl⟩) (he_preV (wc := [(oX11 m0 0 ta sz_ pl at_ fa fw cs fd rfm rt_ to_ rw_ wa ct rk rb cn br sm as_ go sh_ ir oa ob th ig sp_ ki tg of_ kp sf rs), (aI g sm 25 uf_36), (aI g as_ 25 (flF F Gs 25))]) hK hP hD hS hA hE [4, 6, 0] rfl rfl 4 rfl rfl) rfl rfl hl.1 rfl (lv_room (Nat.le_of_ble_eq_true rfl)) dX11_stop_83 ⟨(Nat.le_of_ble_eq_true rfl), (Nat.le_of_ble_eq_true rfl)⟩) hP hD hS hA [4, 6, 0] (he_is [1, 2, 3, 5, 7] [(aI g as_ 25 (flF F Gs 25)), (aM g sh_ 120 (he_ro 120 r6)), (aM g cn 7 (he_ro 7 r3)), (aM g br 7 (he_ro 7 r4)), (oX11 m0 0 ta sz_ pl at_ fa fw cs fd rfm rt_ to_ rw_ wa ct rk rb cn br sm as_ go sh_ ir oa ob th ig sp_ ki tg of_ kp sf rs), (aI g to_ 25 tl), (aI g sm 25 uf_36), (aM g wa 6 (he_ro 6 r2))] (he_pl g L ln Mu_25)) rfl (he_ixP rfl) (he_ndP rfl rfl) (he_disN (by decide) rfl) (fun u_40 H locs h_41 hP hD hS => ?_)
              have hP := va_P.swap hP
              have hD := va_D.swap hD
              have hP : va_P g.1 vwCl ([(aM g sh_ 120 (he_ro 120 r6)), (aM g cn 7 (he_ro 7 r3)), (aM g br 7 (he_ro 7 r4)), (aI g to_ 25 tl), (aM g wa 6 (he_ro 6 r2)), (oX11 m0 0 ta sz_ pl at_ fa fw cs fd rfm rt_ to_ rw_ wa ct rk rb cn br sm as_ go sh_ ir oa ob th ig sp_ ki tg of_ kp sf rs), (aI g sm 25 (flF (flF F Gs 25) uf_36 25)), (aI g as_ 25 (flF F Gs 25))] ++ he_pl g L ln Mu_25) H := hP
              have hD : va_D A ([(aM g sh_ 120 (he_ro 120 r6)), (aM g cn 7 (he_ro 7 r3)), (aM g br 7 (he_ro 7 r4)), (aI g to_ 25 tl), (aM g wa 6 (he_ro 6 r2)), (oX11 m0 0 ta sz_ pl at_ fa fw cs fd rfm rt_ to_ rw_ wa ct rk rb cn br sm as_ go sh_ ir oa ob th ig sp_ ki tg of_ kp sf rs), (aI g sm 25 (flF (flF F Gs 25) uf_36 25)), (aI g as_ 25 (flF F Gs 25))] ++ he_pl g L ln Mu_25) := hD
              refine lv_iload hx hb dX11_stop_86 (lv_at hl 0 rfl) ?_
              refine lv_iload hx hb dX11_stop_88 (lv_at hl 5 rfl) ?_
              refine lv_icmp_gt (tgt := 96) hx hb dX11_stop_90 (by decide) (fun c_42 => ?_) (fun c_42 => ?_)
              · refine lv_iload hx hb dX11_stop_96 (lv_at hl 6 rfl) ?_
                refine lv_istore_n (lv' := [(3, .int (nI j)), (6, .int (uf_36 0)), (0, .ref m0), (1, .int (nI n)), (2, .int wh), (4, .int ms), (5, .int (nI j))]) hx hb dX11_stop_98 rfl hl (by decide) rfl (fun ls hl => ?_)
                refine lv_iload hx hb dX11_stop_99 (lv_at hl 1 rfl) ?_
                refine lv_istore (lv' := [(4, .int (uf_36 0)), (3, .int (nI j)), (6, .int (uf_36 0)), (0, .ref m0), (1, .int (nI n)), (2, .int wh), (5, .int (nI j))]) hx hb dX11_stop_101 hl (by decide) rfl (fun ls hl => ?_)
                refine lv_iinc (v := nI (j + 1)) (lv' := [(5, .int (nI (j + 1))), (4, .int (uf_36 0)), (3, .int (nI j)), (6, .int (uf_36 0)), (0, .ref m0), (1, .int (nI n)), (2, .int wh)]) hx hb dX11_stop_103 hl (k := 6) rfl (nI_1 j) (by decide) rfl (fun ls hl => ?_)
                refine lv_goto (tgt := 45) hx hb dX11_stop_106 (by decide) ?_
                have hP := he_Psub (X := [(aM g sh_ 120 (he_ro 120 r6)), (aM g cn 7 (he_ro 7 r3)), (aM g br 7 (he_ro 7 r4)), (aI g to_ 25 tl), (aM g wa 6 (he_ro 6 r2)), (oX11 m0 0 ta sz_ pl at_ fa fw cs fd rfm rt_ to_ rw_ wa ct rk rb cn br sm as_ go sh_ ir oa ob th ig sp_ ki tg of_ kp sf rs), (aI g sm 25 (flF (flF F Gs 25) uf_36 25)), (aI g as_ 25 (flF F Gs 25))]) (X2 := [(oX11 m0 0 ta sz_ pl at_ fa fw cs fd rfm rt_ to_ rw_ wa ct rk rb cn br sm as_ go sh_ ir oa ob th ig sp_ ki tg of_ kp sf rs), (aI g to_ 25 tl), (aI g sm 25 (flF (flF F Gs 25) uf_36 25)), (aM g wa 6 (he_ro 6 r2)), (aM g sh_ 120 (he_ro 120 r6)), (aM g cn 7 (he_ro 7 r3)), (aM g br 7 (he_ro 7 r4)), (aI g as_ 25 (flF F Gs 25))]) (P := (he_pl g L ln Mu_25)) hP [5, 3, 6, 4, 0, 1, 2, 7] rfl
                have hD := he_Dsub (X := [(aM g sh_ 120 (he_ro 120 r6)), (aM g cn 7 (he_ro 7 r3)), (aM g br 7 (he_ro 7 r4)), (aI g to_ 25 tl), (aM g wa 6 (he_ro 6 r2)), (oX11 m0 0 ta sz_ pl at_ fa fw cs fd rfm rt_ to_ rw_ wa ct rk rb cn br sm as_ go sh_ ir oa ob th ig sp_ ki tg of_ kp sf rs), (aI g sm 25 (flF (flF F Gs 25) uf_36 25)), (aI g as_ 25 (flF F Gs 25))]) (X2 := [(oX11 m0 0 ta sz_ pl at_ fa fw cs fd rfm rt_ to_ rw_ wa ct rk rb cn br sm as_ go sh_ ir oa ob th ig sp_ ki tg of_ kp sf rs), (aI g to_ 25 tl), (aI g sm 25 (flF (flF F Gs 25) uf_36 25)), (aM g wa 6 (he_ro 6 r2)), (aM g sh_ 120 (he_ro 120 r6)), (aM g cn 7 (he_ro 7 r3)), (aM g br 7 (he_ro 7 r4)), (aI g as_ 25 (flF F Gs 25))]) (P := (he_pl g L ln Mu_25)) hD [5, 3, 6, 4, 0, 1, 2, 7] rfl rfl rfl
                exact ih45 (j + 1) (nI j) (uf_36 0) (flF (flF F Gs 25) uf_36 25) (flF F Gs 25) Mu_25 (by omega) (by omega) (a25_t hF9 (fun k hk => tkF F _ _ k hk)) (mEx_tr hmx hf_28) (Eq.trans hf_29 hzz) _ _ _ hP hD hS (lv_sub hl [4, 5, 6, 2, 1, 0] rfl)
              · refine lv_goto (tgt := 103) hx hb dX11_stop_93 (by decide) ?_
                refine lv_iinc (v := nI (j + 1)) (lv' := [(5, .int (nI (j + 1))), (6, .int (uf_36 0)), (0, .ref m0), (1, .int (nI n)), (2, .int wh), (3, .int be), (4, .int ms)]) hx hb dX11_stop_103 hl (k := 6) rfl (nI_1 j) (by decide) rfl (fun ls hl => ?_)
                refine lv_goto (tgt := 45) hx hb dX11_stop_106 (by decide) ?_
                have hP := he_Psub (X := [(aM g sh_ 120 (he_ro 120 r6)), (aM g cn 7 (he_ro 7 r3)), (aM g br 7 (he_ro 7 r4)), (aI g to_ 25 tl), (aM g wa 6 (he_ro 6 r2)), (oX11 m0 0 ta sz_ pl at_ fa fw cs fd rfm rt_ to_ rw_ wa ct rk rb cn br sm as_ go sh_ ir oa ob th ig sp_ ki tg of_ kp sf rs), (aI g sm 25 (flF (flF F Gs 25) uf_36 25)), (aI g as_ 25 (flF F Gs 25))]) (X2 := [(oX11 m0 0 ta sz_ pl at_ fa fw cs fd rfm rt_ to_ rw_ wa ct rk rb cn br sm as_ go sh_ ir oa ob th ig sp_ ki tg of_ kp sf rs), (aI g to_ 25 tl), (aI g sm 25 (flF (flF F Gs 25) uf_36 25)), (aM g wa 6 (he_ro 6 r2)), (aM g sh_ 120 (he_ro 120 r6)), (aM g cn 7 (he_ro 7 r3)), (aM g br 7 (he_ro 7 r4)), (aI g as_ 25 (flF F Gs 25))]) (P := (he_pl g L ln Mu_25)) hP [5, 3, 6, 4, 0, 1, 2, 7] rfl
                have hD := he_Dsub (X := [(aM g sh_ 120 (he_ro 120 r6)), (aM g cn 7 (he_ro 7 r3)), (aM g br 7 (he_ro 7 r4)), (aI g to_ 25 tl), (aM g wa 6 (he_ro 6 r2)), (oX11 m0 0 ta sz_ pl at_ fa fw cs fd rfm rt_ to_ rw_ wa ct rk rb cn br sm as_ go sh_ ir oa ob th ig sp_ ki tg of_ kp sf rs), (aI g sm 25 (flF (flF F Gs 25) uf_36 25)), (aI g as_ 25 (flF F Gs 25))]) (X2 := [(oX11 m0 0 ta sz_ pl at_ fa fw cs fd rfm rt_ to_ rw_ wa ct rk rb cn br sm as_ go sh_ ir oa ob th ig sp_ ki tg of_ kp sf rs), (aI g to_ 25 tl), (aI g sm 25 (flF (flF F Gs 25) uf_36 25)), (aM g wa 6 (he_ro 6 r2)), (aM g sh_ 120 (he_ro 120 r6)), (aM g cn 7 (he_ro 7 r3)), (aM g br 7 (he_ro 7 r4)), (aI g as_ 25 (flF F Gs 25))]) (P := (he_pl g L ln Mu_25)) hD [5, 3, 6, 4, 0, 1, 2, 7] rfl rfl rfl
                exact ih45 (j + 1) be ms (flF (flF F Gs 25) uf_36 25) (flF F Gs 25) Mu_25 (by omega) (by omega) (a25_t hF9 (fun k hk => tkF F _ _ k hk)) (mEx_tr hmx hf_28) (Eq.trans hf_29 hzz) _ _ _ hP hD hS (lv_sub hl [2, 3, 4, 5, 6, 0] rfl)
        have hP := he_Psub (X := [(aI g to_ 25 tl), (aI g sm 25 f), (aM g wa 6 (he_ro 6 r2)), (aM g sh_ 120 (he_ro 120 r6)), (aM g cn 7 (he_ro 7 r3)), (aM g br 7 (he_ro 7 r4)), (aI g as_ 25 g0), (oX11 m0 0 ta sz_ pl at_ fa fw cs fd rfm rt_ to_ rw_ wa ct rk rb cn br sm as_ go sh_ ir oa ob th ig sp_ ki tg of_ kp sf rs)]) (X2 := [(oX11 m0 0 ta sz_ pl at_ fa fw cs fd rfm rt_ to_ rw_ wa ct rk rb cn br sm as_ go sh_ ir oa ob th ig sp_ ki tg of_ kp sf rs), (aI g to_ 25 tl), (aI g sm 25 f), (aM g wa 6 (he_ro 6 r2)), (aM g sh_ 120 (he_ro 120 r6)), (aM g cn 7 (he_ro 7 r3)), (aM g br 7 (he_ro 7 r4)), (aI g as_ 25 g0)]) (P := (he_pl g L ln M)) hP [7, 0, 1, 2, 3, 4, 5, 6] rfl
        have hD := he_Dsub (X := [(aI g to_ 25 tl), (aI g sm 25 f), (aM g wa 6 (he_ro 6 r2)), (aM g sh_ 120 (he_ro 120 r6)), (aM g cn 7 (he_ro 7 r3)), (aM g br 7 (he_ro 7 r4)), (aI g as_ 25 g0), (oX11 m0 0 ta sz_ pl at_ fa fw cs fd rfm rt_ to_ rw_ wa ct rk rb cn br sm as_ go sh_ ir oa ob th ig sp_ ki tg of_ kp sf rs)]) (X2 := [(oX11 m0 0 ta sz_ pl at_ fa fw cs fd rfm rt_ to_ rw_ wa ct rk rb cn br sm as_ go sh_ ir oa ob th ig sp_ ki tg of_ kp sf rs), (aI g to_ 25 tl), (aI g sm 25 f), (aM g wa 6 (he_ro 6 r2)), (aM g sh_ 120 (he_ro 120 r6)), (aM g cn 7 (he_ro 7 r3)), (aM g br 7 (he_ro 7 r4)), (aI g as_ 25 g0)]) (P := (he_pl g L ln M)) hD [7, 0, 1, 2, 3, 4, 5, 6] rfl rfl rfl
        exact loop45 ((n + 1 - 0) + 1) 0 0 (-1) f g0 M (Nat.lt_succ_self _) (Nat.zero_le _) (fun _ _ => rfl) (mEx_refl _ _ _) rfl _ _ _ hP hD hS (lv_sub hl [3, 4, 5, 2, 1, 0] rfl)
      · exact absurd (by decide) c_12
    · exact absurd c_8 (by decide)
set_option maxHeartbeats 4000000 in
set_option maxRecDepth 100000 in
theorem h_X11_stopN (l : Launch) (g : he_G) (m0 : Nat) (fd : Nat) (rfm : Nat) (rt_ : Nat) (to_ : Nat) (rw_ : Nat) (wa : Nat) (rk : Nat) (rb : Nat) (cn : Nat) (br : Nat) (sm : Nat) (as_ : Nat) (go : Nat) (sh_ : Nat) (ki : Nat) (tg : Nat) (of_ : Nat) (kp : Nat) (rs : Nat) (ta : Int32) (sz_ : Int32) (pl : Int32) (at_ : Int32) (fa : Int32) (fw : Int32) (cs : Int32) (ct : Int32) (ir : Int32) (oa : Int32) (ob : Int32) (th : Int32) (ig : Int32) (sp_ : Int32) (sf : Int32) (tw : Int32) (tl : Nat → Int32) (f : Nat → Int32) (g0 : Nat → Int32) (w : Nat) (L : List Nat) (ln : Nat → Nat) (M : Nat → Nat → Int32) (r2 : Nat → Nat) (mm : Nat) (n : Nat) (wh : Int32) (htl : tl 0 = nI w) (hw6 : w ≤ 6) (h24 : f 24 = nI mm) (hm120 : mm ≤ 120) (h10 : f 10 = -1) (hn1 : 1 ≤ n) (hn2 : n ≤ 60) (F_r2 : ∀ i, i < 6 → r2 i ∈ L ∧ ln (r2 i) = 2 ∧ True) (hok0 : ¬ he_within wh 0 1 = 0) : he_I l yX11_stop wsX11_stop 5 110 0 0 g [.ref m0, .int (nI n), .int wh] ([(oX11 m0 tw ta sz_ pl at_ fa fw cs fd rfm rt_ to_ rw_ wa ct rk rb cn br sm as_ go sh_ ir oa ob th ig sp_ ki tg of_ kp sf rs), (aI g to_ 25 tl), (aI g sm 25 f), (aM g wa 6 (he_ro 6 r2)), (aI g as_ 25 g0)] ++ he_pl g L ln M) (fun (r : Int32) (u : (Nat → Int32) × (Nat → Int32)) => a25 f u.1) (fun (u : (Nat → Int32) × (Nat → Int32)) => [(oX11 m0 0 ta sz_ pl at_ fa fw cs fd rfm rt_ to_ rw_ wa ct rk rb cn br sm as_ go sh_ ir oa ob th ig sp_ ki tg of_ kp sf rs), (aI g to_ 25 tl), (aI g sm 25 u.1), (aM g wa 6 (he_ro 6 r2)), (aI g as_ 25 u.2)] ++ he_pl g L ln M) := by
  refine he_begin (l := l) (g := g) (y := yX11_stop) (wl := wsX11_stop) (fr := 5) (lo := 110) (mc := 0) (ms := 0) (av := [.ref m0, .int (nI n), .int wh]) (ws := ([(oX11 m0 tw ta sz_ pl at_ fa fw cs fd rfm rt_ to_ rw_ wa ct rk rb cn br sm as_ go sh_ ir oa ob th ig sp_ ki tg of_ kp sf rs), (aI g to_ 25 tl), (aI g sm 25 f), (aM g wa 6 (he_ro 6 r2)), (aI g as_ 25 g0)] ++ he_pl g L ln M)) (cc := cX11_stop) (maxL := 7) (ret := (some .int)) (fun A => va_Qi (fun (r : Int32) (u : (Nat → Int32) × (Nat → Int32)) => a25 f u.1) (fun u t => he_post g A ((fun (u : (Nat → Int32) × (Nat → Int32)) => [(oX11 m0 0 ta sz_ pl at_ fa fw cs fd rfm rt_ to_ rw_ wa ct rk rb cn br sm as_ go sh_ ir oa ob th ig sp_ ki tg of_ kp sf rs), (aI g to_ 25 tl), (aI g sm 25 u.1), (aM g wa 6 (he_ro 6 r2)), (aI g as_ 25 u.2)] ++ he_pl g L ln M) u) t) A) (by decide) rfl (Nat.le_of_ble_eq_true rfl) ?_
  intro p e s m args below meth c A ls H locs Q hQ hB
  obtain ⟨hx, hb, hr, hml, hown, hts, hlk, hin, hP, hK, hD, hS, hA, hE, hl⟩ := hB
  have hl : lv_has ls 7 [(0, .ref m0), (1, .int (nI n)), (2, .int wh)] := hl
  have f85 := hts (.fieldLink RX11 85 "HiredEnemyModel" "thrown" "I") (iwoX11_stop (k := 0) rfl)
  have inX11 : ∀ w ∈ wsX110, w ∈ wsX11_stop := innX11_stop_X11
  have f46 := hts (.fieldLink RX11 46 "HiredEnemyModel" "s" "[I") (iwoX11_stop (k := 1) rfl)
  refine lv_aload_n hx hb dX11_stop_0 rfl (lv_at hl 0 rfl) ?_
  refine lv_iconst (v := 0) hx hb dX11_stop_1 (by decide) ?_
  refine va_put (v := .int 0) (ty := .int) (T := TX11) (N := 35) hx hb hts inX11 tyX11 tyX11_ok nmX11 hown hK hP hD hS 0 rfl rfl 0 (by decide) f85 (fun _ h9 => h9) rfl (by decide +kernel) rfl rfl (Nat.le_of_ble_eq_true rfl) dX11_stop_2 (fun H locs hP hD hS => ?_)
  have hP : va_P g.1 vwCl ([(oX11 m0 0 ta sz_ pl at_ fa fw cs fd rfm rt_ to_ rw_ wa ct rk rb cn br sm as_ go sh_ ir oa ob th ig sp_ ki tg of_ kp sf rs), (aI g to_ 25 tl), (aI g sm 25 f), (aM g wa 6 (he_ro 6 r2)), (aI g as_ 25 g0)] ++ he_pl g L ln M) H := hP
  have hD : va_D A ([(oX11 m0 0 ta sz_ pl at_ fa fw cs fd rfm rt_ to_ rw_ wa ct rk rb cn br sm as_ go sh_ ir oa ob th ig sp_ ki tg of_ kp sf rs), (aI g to_ 25 tl), (aI g sm 25 f), (aM g wa 6 (he_ro 6 r2)), (aI g as_ 25 g0)] ++ he_pl g L ln M) := hD
  refine lv_aload_n hx hb dX11_stop_5 rfl (lv_at hl 0 rfl) ?_
  refine lv_iload_n hx hb dX11_stop_6 rfl (lv_at hl 1 rfl) ?_
  refine he_ci (wc := []) (wr := ([(oX11 m0 0 ta sz_ pl at_ fa fw cs fd rfm rt_ to_ rw_ wa ct rk rb cn br sm as_ go sh_ ir oa ob th ig sp_ ki tg of_ kp sf rs), (aI g to_ 25 tl), (aI g sm 25 f), (aM g wa 6 (he_ro 6 r2)), (aI g as_ 25 g0)] ++ (he_pl g L ln M))) (va_runS (As := [.int (nI n)]) (rest := [.ref m0]) ⟨hx, hb, hml, hown, hts⟩ (c_X11_areMonths l g (nI n) H.size) (va_cwS 1 hts gX11_stop_X11_areMonths rfl rfl rfl (by decide +kernel) ⟨Nat.le_of_ble_eq_true rfl, Nat.le_of_ble_eq_true rfl⟩) (he_preS (wc := []) hK hP hD hS hA hE [] rfl rfl) rfl rfl hl.1 rfl (lv_room (Nat.le_of_ble_eq_true rfl)) dX11_stop_7 ⟨(Nat.le_of_ble_eq_true rfl), (Nat.le_of_ble_eq_true rfl)⟩) hP hD hS hA [] (he_is [0, 1, 2, 3, 4] [(oX11 m0 0 ta sz_ pl at_ fa fw cs fd rfm rt_ to_ rw_ wa ct rk rb cn br sm as_ go sh_ ir oa ob th ig sp_ ki tg of_ kp sf rs), (aI g to_ 25 tl), (aI g sm 25 f), (aM g wa 6 (he_ro 6 r2)), (aI g as_ 25 g0)] (he_pl g L ln M)) rfl (he_ixP rfl) (he_ndP rfl rfl) (he_disN (by decide) rfl) (fun r_1 u_2 H locs h_3 hP hD hS => ?_)
  have hP := va_P.swap hP
  have hD := va_D.swap hD
  subst h_3
  have hP : va_P g.1 vwCl ([(oX11 m0 0 ta sz_ pl at_ fa fw cs fd rfm rt_ to_ rw_ wa ct rk rb cn br sm as_ go sh_ ir oa ob th ig sp_ ki tg of_ kp sf rs), (aI g to_ 25 tl), (aI g sm 25 f), (aM g wa 6 (he_ro 6 r2)), (aI g as_ 25 g0)] ++ he_pl g L ln M) H := hP
  have hD : va_D A ([(oX11 m0 0 ta sz_ pl at_ fa fw cs fd rfm rt_ to_ rw_ wa ct rk rb cn br sm as_ go sh_ ir oa ob th ig sp_ ki tg of_ kp sf rs), (aI g to_ 25 tl), (aI g sm 25 f), (aM g wa 6 (he_ro 6 r2)), (aI g as_ 25 g0)] ++ he_pl g L ln M) := hD
  refine he_top (1) (he_within_in (a0 := 1) (B := 60) rfl rfl (by omega) (by omega) (by decide)) ?_
  refine lv_if_eq (tgt := 22) hx hb dX11_stop_10 (by decide) (fun c_4 => ?_) (fun c_4 => ?_)
  · exact absurd c_4 (by decide)
  · refine lv_iload_n hx hb dX11_stop_13 rfl (lv_at hl 2 rfl) ?_
    refine lv_iconst (v := 0) hx hb dX11_stop_14 (by decide) ?_
    refine lv_iconst (v := 1) hx hb dX11_stop_15 (by decide) ?_
    refine he_ci (wc := []) (wr := ([(oX11 m0 0 ta sz_ pl at_ fa fw cs fd rfm rt_ to_ rw_ wa ct rk rb cn br sm as_ go sh_ ir oa ob th ig sp_ ki tg of_ kp sf rs), (aI g to_ 25 tl), (aI g sm 25 f), (aM g wa 6 (he_ro 6 r2)), (aI g as_ 25 g0)] ++ (he_pl g L ln M))) (va_runS (As := [.int wh, .int 0, .int 1]) (rest := [.ref m0]) ⟨hx, hb, hml, hown, hts⟩ (c_X11_in l g wh 0 1 H.size) (va_cwS 3 hts gX11_stop_X11_in rfl rfl rfl (by decide +kernel) ⟨Nat.le_of_ble_eq_true rfl, Nat.le_of_ble_eq_true rfl⟩) (he_preS (wc := []) hK hP hD hS hA hE [] rfl rfl) rfl rfl hl.1 rfl (lv_room (Nat.le_of_ble_eq_true rfl)) dX11_stop_16 ⟨(Nat.le_of_ble_eq_true rfl), (Nat.le_of_ble_eq_true rfl)⟩) hP hD hS hA [] (he_is [0, 1, 2, 3, 4] [(oX11 m0 0 ta sz_ pl at_ fa fw cs fd rfm rt_ to_ rw_ wa ct rk rb cn br sm as_ go sh_ ir oa ob th ig sp_ ki tg of_ kp sf rs), (aI g to_ 25 tl), (aI g sm 25 f), (aM g wa 6 (he_ro 6 r2)), (aI g as_ 25 g0)] (he_pl g L ln M)) rfl (he_ixP rfl) (he_ndP rfl rfl) (he_disN (by decide) rfl) (fun r_5 u_6 H locs h_7 hP hD hS => ?_)
    have hP := va_P.swap hP
    have hD := va_D.swap hD
    subst h_7
    have hP : va_P g.1 vwCl ([(oX11 m0 0 ta sz_ pl at_ fa fw cs fd rfm rt_ to_ rw_ wa ct rk rb cn br sm as_ go sh_ ir oa ob th ig sp_ ki tg of_ kp sf rs), (aI g to_ 25 tl), (aI g sm 25 f), (aM g wa 6 (he_ro 6 r2)), (aI g as_ 25 g0)] ++ he_pl g L ln M) H := hP
    have hD : va_D A ([(oX11 m0 0 ta sz_ pl at_ fa fw cs fd rfm rt_ to_ rw_ wa ct rk rb cn br sm as_ go sh_ ir oa ob th ig sp_ ki tg of_ kp sf rs), (aI g to_ 25 tl), (aI g sm 25 f), (aM g wa 6 (he_ro 6 r2)), (aI g as_ 25 g0)] ++ he_pl g L ln M) := hD
    refine he_top (1) (he_within_1 hok0) ?_
    refine lv_if_ne (tgt := 26) hx hb dX11_stop_19 (by decide) (fun c_8 => ?_) (fun c_8 => ?_)
    · refine lv_iconst (v := 0) hx hb dX11_stop_26 (by decide) ?_
      refine lv_iconst (v := 1) hx hb dX11_stop_27 (by decide) ?_
      refine lv_iconst (v := 2) hx hb dX11_stop_28 (by decide) ?_
      refine he_ci (wc := [(oX11 m0 0 ta sz_ pl at_ fa fw cs fd rfm rt_ to_ rw_ wa ct rk rb cn br sm as_ go sh_ ir oa ob th ig sp_ ki tg of_ kp sf rs)]) (wr := ([(aI g to_ 25 tl), (aI g sm 25 f), (aM g wa 6 (he_ro 6 r2)), (aI g as_ 25 g0)] ++ (he_pl g L ln M))) (va_runV (As := [.int 0, .int 1, .int 2]) (rest := []) ⟨hx, hb, hml, hown, hts⟩ (c_X11_bad0 l g m0 fd rfm rt_ to_ rw_ wa rk rb cn br sm as_ go sh_ ki tg of_ kp rs ta sz_ pl at_ fa fw cs ct ir oa ob th ig sp_ sf 1 2 H.size) (cwV 3 hts gX11_stop_X11_bad rfl rfl rfl (by decide +kernel) ⟨Nat.le_of_ble_eq_true rfl, Nat.le_of_ble_eq_true rfl⟩) (he_preV (wc := [(oX11 m0 0 ta sz_ pl at_ fa fw cs fd rfm rt_ to_ rw_ wa ct rk rb cn br sm as_ go sh_ ir oa ob th ig sp_ ki tg of_ kp sf rs)]) hK hP hD hS hA hE [0] rfl rfl 0 rfl rfl) rfl rfl hl.1 rfl (lv_room (Nat.le_of_ble_eq_true rfl)) dX11_stop_29 ⟨(Nat.le_of_ble_eq_true rfl), (Nat.le_of_ble_eq_true rfl)⟩) hP hD hS hA [0] (he_is [1, 2, 3, 4] [(oX11 m0 0 ta sz_ pl at_ fa fw cs fd rfm rt_ to_ rw_ wa ct rk rb cn br sm as_ go sh_ ir oa ob th ig sp_ ki tg of_ kp sf rs), (aI g to_ 25 tl), (aI g sm 25 f), (aM g wa 6 (he_ro 6 r2)), (aI g as_ 25 g0)] (he_pl g L ln M)) rfl (he_ixP rfl) (he_ndP rfl rfl) (he_disN (by decide) rfl) (fun r_9 u_10 H locs h_11 hP hD hS => ?_)
      have hP := va_P.swap hP
      have hD := va_D.swap hD
      subst h_11
      have hP : va_P g.1 vwCl ([(aI g to_ 25 tl), (aI g sm 25 f), (aM g wa 6 (he_ro 6 r2)), (aI g as_ 25 g0), (oX11 m0 0 ta sz_ pl at_ fa fw cs fd rfm rt_ to_ rw_ wa ct rk rb cn br sm as_ go sh_ ir oa ob th ig sp_ ki tg of_ kp sf rs)] ++ he_pl g L ln M) H := hP
      have hD : va_D A ([(aI g to_ 25 tl), (aI g sm 25 f), (aM g wa 6 (he_ro 6 r2)), (aI g as_ 25 g0), (oX11 m0 0 ta sz_ pl at_ fa fw cs fd rfm rt_ to_ rw_ wa ct rk rb cn br sm as_ go sh_ ir oa ob th ig sp_ ki tg of_ kp sf rs)] ++ he_pl g L ln M) := hD
      refine lv_if_eq (tgt := 37) hx hb dX11_stop_32 (by decide) (fun c_12 => ?_) (fun c_12 => ?_)
      · refine lv_iconst (v := 0) hx hb dX11_stop_37 (by decide) ?_
        refine lv_istore_n (lv' := [(3, .int 0), (0, .ref m0), (1, .int (nI n)), (2, .int wh)]) hx hb dX11_stop_38 rfl hl (by decide) rfl (fun ls hl => ?_)
        refine lv_iconst (v := (-1)) hx hb dX11_stop_39 (by decide) ?_
        refine lv_istore (lv' := [(4, .int (-1)), (3, .int 0), (0, .ref m0), (1, .int (nI n)), (2, .int wh)]) hx hb dX11_stop_40 hl (by decide) rfl (fun ls hl => ?_)
        refine lv_iconst (v := 0) hx hb dX11_stop_42 (by decide) ?_
        refine lv_istore (lv' := [(5, .int 0), (4, .int (-1)), (3, .int 0), (0, .ref m0), (1, .int (nI n)), (2, .int wh)]) hx hb dX11_stop_43 hl (by decide) rfl (fun ls hl => ?_)
        have loop45 : ∀ (n9 : Nat) (j : Nat) (be : Int32) (ms : Int32) (F : Nat → Int32) (Gs : Nat → Int32), n + 1 - j < n9 → (j ≤ n + 1) → (a25 f F) → ∀ (H : Heap) (locs : List Loc) (ls : Array Slot), va_P g.1 vwCl ([(oX11 m0 0 ta sz_ pl at_ fa fw cs fd rfm rt_ to_ rw_ wa ct rk rb cn br sm as_ go sh_ ir oa ob th ig sp_ ki tg of_ kp sf rs), (aI g to_ 25 tl), (aI g sm 25 F), (aM g wa 6 (he_ro 6 r2)), (aI g as_ 25 Gs)] ++ he_pl g L ln M) H → va_D A ([(oX11 m0 0 ta sz_ pl at_ fa fw cs fd rfm rt_ to_ rw_ wa ct rk rb cn br sm as_ go sh_ ir oa ob th ig sp_ ki tg of_ kp sf rs), (aI g to_ 25 tl), (aI g sm 25 F), (aM g wa 6 (he_ro 6 r2)), (aI g as_ 25 Gs)] ++ he_pl g L ln M) → va_S A s.heap H locs → lv_has ls 7 [(0, .ref m0), (1, .int (nI n)), (2, .int wh), (3, .int be), (4, .int ms), (5, .int (nI j))] → W p l e (he_room 5 110 0 0) s m args below meth c H locs 0 0 Q (F0 m 45 ls []) := by
          intro n9
          induction n9 with
          | zero => intro j be ms F Gs hm9; exact absurd hm9 (Nat.not_lt_zero _)
          | succ n9 ih45 =>
            intro j be ms F Gs hm9 hj hF9 H locs ls hP hD hS hl
            refine lv_iload hx hb dX11_stop_45 (lv_at hl 5 rfl) ?_
            refine lv_iload_n hx hb dX11_stop_47 rfl (lv_at hl 1 rfl) ?_
            refine lv_icmp_gt (tgt := 109) hx hb dX11_stop_48 (by decide) (fun c_13 => ?_) (fun c_13 => ?_)
            · have k_14 : n < j := (he_clt (a := n) (b := j) rfl rfl (by omega) (by omega)).mp c_13
              refine lv_iload_n hx hb dX11_stop_109 rfl (lv_at hl 2 rfl) ?_
              refine lv_if_ne (tgt := 117) hx hb dX11_stop_110 (by decide) (fun c_15 => ?_) (fun c_15 => ?_)
              · refine lv_iload hx hb dX11_stop_117 (lv_at hl 4 rfl) ?_
                exact he_ri hQ hx hb hr hlk hP hD hS dX11_stop_119 (Nat.le_of_ble_eq_true rfl) (Nat.le_of_ble_eq_true rfl) ((F, Gs)) (rfl) (by (try dsimp only); exact hF9)
              · refine lv_iload_n hx hb dX11_stop_113 rfl (lv_at hl 3 rfl) ?_
                refine lv_goto (tgt := 119) hx hb dX11_stop_114 (by decide) ?_
                exact he_ri hQ hx hb hr hlk hP hD hS dX11_stop_119 (Nat.le_of_ble_eq_true rfl) (Nat.le_of_ble_eq_true rfl) ((F, Gs)) (rfl) (by (try dsimp only); exact hF9)
            · have k_16 : ¬ (n < j) := fun h9 => c_13 ((he_clt (a := n) (b := j) rfl rfl (by omega) (by omega)).mpr h9)
              refine lv_aload_n hx hb dX11_stop_51 rfl (lv_at hl 0 rfl) ?_
              refine he_cv (wc := [(oX11 m0 0 ta sz_ pl at_ fa fw cs fd rfm rt_ to_ rw_ wa ct rk rb cn br sm as_ go sh_ ir oa ob th ig sp_ ki tg of_ kp sf rs), (aI g sm 25 F), (aI g as_ 25 Gs)]) (wr := ([(aI g to_ 25 tl), (aM g wa 6 (he_ro 6 r2))] ++ (he_pl g L ln M))) (va_runV (As := []) (rest := []) ⟨hx, hb, hml, hown, hts⟩ (c_X11_puts l g m0 fd rfm rt_ to_ rw_ wa rk rb cn br sm as_ go sh_ ki tg of_ kp rs ta sz_ pl at_ fa fw cs ct ir oa ob th ig sp_ sf 0 F Gs H.size) (cwV 0 hts gX11_stop_X11_puts rfl rfl rfl (by decide +kernel) ⟨Nat.le_of_ble_eq_true rfl, Nat.le_of_ble_eq_true rfl⟩) (he_preV (wc := [(oX11 m0 0 ta sz_ pl at_ fa fw cs fd rfm rt_ to_ rw_ wa ct rk rb cn br sm as_ go sh_ ir oa ob th ig sp_ ki tg of_ kp sf rs), (aI g sm 25 F), (aI g as_ 25 Gs)]) hK hP hD hS hA hE [0, 2, 4] rfl rfl 0 rfl rfl) rfl rfl hl.1 rfl (lv_room (Nat.le_of_ble_eq_true rfl)) dX11_stop_52 ⟨(Nat.le_of_ble_eq_true rfl), (Nat.le_of_ble_eq_true rfl)⟩) hP hD hS hA [0, 2, 4] (he_is [1, 3] [(oX11 m0 0 ta sz_ pl at_ fa fw cs fd rfm rt_ to_ rw_ wa ct rk rb cn br sm as_ go sh_ ir oa ob th ig sp_ ki tg of_ kp sf rs), (aI g to_ 25 tl), (aI g sm 25 F), (aM g wa 6 (he_ro 6 r2)), (aI g as_ 25 Gs)] (he_pl g L ln M)) rfl (he_ixP rfl) (he_ndP rfl rfl) (he_disN (by decide) rfl) (fun u_18 H locs h_19 hP hD hS => ?_)
              have hP := va_P.swap hP
              have hD := va_D.swap hD
              have hP : va_P g.1 vwCl ([(aI g to_ 25 tl), (aM g wa 6 (he_ro 6 r2)), (oX11 m0 0 ta sz_ pl at_ fa fw cs fd rfm rt_ to_ rw_ wa ct rk rb cn br sm as_ go sh_ ir oa ob th ig sp_ ki tg of_ kp sf rs), (aI g sm 25 F), (aI g as_ 25 (flF F Gs 25))] ++ he_pl g L ln M) H := hP
              have hD : va_D A ([(aI g to_ 25 tl), (aM g wa 6 (he_ro 6 r2)), (oX11 m0 0 ta sz_ pl at_ fa fw cs fd rfm rt_ to_ rw_ wa ct rk rb cn br sm as_ go sh_ ir oa ob th ig sp_ ki tg of_ kp sf rs), (aI g sm 25 F), (aI g as_ 25 (flF F Gs 25))] ++ he_pl g L ln M) := hD
              refine lv_aload_n hx hb dX11_stop_55 rfl (lv_at hl 0 rfl) ?_
              refine lv_iload hx hb dX11_stop_56 (lv_at hl 5 rfl) ?_
              refine he_cv (wc := ([(oX11 m0 0 ta sz_ pl at_ fa fw cs fd rfm rt_ to_ rw_ wa ct rk rb cn br sm as_ go sh_ ir oa ob th ig sp_ ki tg of_ kp sf rs), (aI g to_ 25 tl), (aI g sm 25 F), (aM g wa 6 (he_ro 6 r2))] ++ (he_pl g L ln M))) (wr := [(aI g as_ 25 (flF F Gs 25))]) (va_runV (As := [.int (nI j)]) (rest := []) ⟨hx, hb, hml, hown, hts⟩ (h_X11_goesOnN l g m0 fd rfm rt_ to_ rw_ wa rk rb cn br sm as_ go sh_ ki tg of_ kp rs ta sz_ pl at_ fa fw cs ct ir oa ob th ig sp_ sf 0 tl F w L ln M r2 mm j (by first | assumption | decide | omega) (by first | assumption | decide | omega) ((hF9 10 (by decide)).trans h10) (a25_24 hF9 h24) (by omega) (by first | assumption | decide | omega) H.size) (cwV 1 hts gX11_stop_X11_goesOn rfl rfl rfl (by decide +kernel) ⟨Nat.le_of_ble_eq_true rfl, Nat.le_of_ble_eq_true rfl⟩) (he_preV (wc := ([(oX11 m0 0 ta sz_ pl at_ fa fw cs fd rfm rt_ to_ rw_ wa ct rk rb cn br sm as_ go sh_ ir oa ob th ig sp_ ki tg of_ kp sf rs), (aI g to_ 25 tl), (aI g sm 25 F), (aM g wa 6 (he_ro 6 r2))] ++ (he_pl g L ln M))) hK hP hD hS hA hE (he_is [2, 0, 3, 1] [(aI g to_ 25 tl), (aM g wa 6 (he_ro 6 r2)), (oX11 m0 0 ta sz_ pl at_ fa fw cs fd rfm rt_ to_ rw_ wa ct rk rb cn br sm as_ go sh_ ir oa ob th ig sp_ ki tg of_ kp sf rs), (aI g sm 25 F), (aI g as_ 25 (flF F Gs 25))] (he_pl g L ln M)) (he_ixP rfl) (he_ndP rfl rfl) 2 rfl rfl) rfl rfl hl.1 rfl (lv_room (Nat.le_of_ble_eq_true rfl)) dX11_stop_58 ⟨(Nat.le_of_ble_eq_true rfl), (Nat.le_of_ble_eq_true rfl)⟩) hP hD hS hA (he_is [2, 0, 3, 1] [(aI g to_ 25 tl), (aM g wa 6 (he_ro 6 r2)), (oX11 m0 0 ta sz_ pl at_ fa fw cs fd rfm rt_ to_ rw_ wa ct rk rb cn br sm as_ go sh_ ir oa ob th ig sp_ ki tg of_ kp sf rs), (aI g sm 25 F), (aI g as_ 25 (flF F Gs 25))] (he_pl g L ln M)) [4] (he_ixP rfl) rfl rfl (he_disP (by decide) rfl) (fun u_21 H locs h_22 hP hD hS => ?_)
              obtain ⟨uf_23, rfl⟩ : ∃ z, z = u_21 := ⟨_, rfl⟩
              try dsimp only at h_22
              obtain ⟨hf_24, hf_25⟩ := h_22
              have hP : va_P g.1 vwCl ([(aI g as_ 25 (flF F Gs 25)), (oX11 m0 0 ta sz_ pl at_ fa fw cs fd rfm rt_ to_ rw_ wa ct rk rb cn br sm as_ go sh_ ir oa ob th ig sp_ ki tg of_ kp sf rs), (aI g to_ 25 tl), (aI g sm 25 uf_23), (aM g wa 6 (he_ro 6 r2))] ++ he_pl g L ln M) H := hP
              have hD : va_D A ([(aI g as_ 25 (flF F Gs 25)), (oX11 m0 0 ta sz_ pl at_ fa fw cs fd rfm rt_ to_ rw_ wa ct rk rb cn br sm as_ go sh_ ir oa ob th ig sp_ ki tg of_ kp sf rs), (aI g to_ 25 tl), (aI g sm 25 uf_23), (aM g wa 6 (he_ro 6 r2))] ++ he_pl g L ln M) := hD
              have HG24 := hf_25
              refine lv_aload_n hx hb dX11_stop_61 rfl (lv_at hl 0 rfl) ?_
              refine lv_iconst (v := (-1)) hx hb dX11_stop_62 (by decide) ?_
              refine he_cv (wc := [(oX11 m0 0 ta sz_ pl at_ fa fw cs fd rfm rt_ to_ rw_ wa ct rk rb cn br sm as_ go sh_ ir oa ob th ig sp_ ki tg of_ kp sf rs), (aI g sm 25 uf_23)]) (wr := ([(aI g as_ 25 (flF F Gs 25)), (aI g to_ 25 tl), (aM g wa 6 (he_ro 6 r2))] ++ (he_pl g L ln M))) (va_runV (As := [.int (-1)]) (rest := []) ⟨hx, hb, hml, hown, hts⟩ (c_X11_signs l g m0 fd rfm rt_ to_ rw_ wa rk rb cn br sm as_ go sh_ ki tg of_ kp rs ta sz_ pl at_ fa fw cs ct ir oa ob th ig sp_ sf 0 uf_23 (-1) H.size) (cwV 1 hts gX11_stop_X11_signs rfl rfl rfl (by decide +kernel) ⟨Nat.le_of_ble_eq_true rfl, Nat.le_of_ble_eq_true rfl⟩) (he_preV (wc := [(oX11 m0 0 ta sz_ pl at_ fa fw cs fd rfm rt_ to_ rw_ wa ct rk rb cn br sm as_ go sh_ ir oa ob th ig sp_ ki tg of_ kp sf rs), (aI g sm 25 uf_23)]) hK hP hD hS hA hE [1, 3] rfl rfl 1 rfl rfl) rfl rfl hl.1 rfl (lv_room (Nat.le_of_ble_eq_true rfl)) dX11_stop_63 ⟨(Nat.le_of_ble_eq_true rfl), (Nat.le_of_ble_eq_true rfl)⟩) hP hD hS hA [1, 3] (he_is [0, 2, 4] [(aI g as_ 25 (flF F Gs 25)), (oX11 m0 0 ta sz_ pl at_ fa fw cs fd rfm rt_ to_ rw_ wa ct rk rb cn br sm as_ go sh_ ir oa ob th ig sp_ ki tg of_ kp sf rs), (aI g to_ 25 tl), (aI g sm 25 uf_23), (aM g wa 6 (he_ro 6 r2))] (he_pl g L ln M)) rfl (he_ixP rfl) (he_ndP rfl rfl) (he_disN (by decide) rfl) (fun u_27 H locs h_28 hP hD hS => ?_)
              have hP := va_P.swap hP
              have hD := va_D.swap hD
              have hP : va_P g.1 vwCl ([(aI g as_ 25 (flF F Gs 25)), (aI g to_ 25 tl), (aM g wa 6 (he_ro 6 r2)), (oX11 m0 0 ta sz_ pl at_ fa fw cs fd rfm rt_ to_ rw_ wa ct rk rb cn br sm as_ go sh_ ir oa ob th ig sp_ ki tg of_ kp sf rs), (aI g sm 25 (sgF uf_23 (-1)))] ++ he_pl g L ln M) H := hP
              have hD : va_D A ([(aI g as_ 25 (flF F Gs 25)), (aI g to_ 25 tl), (aM g wa 6 (he_ro 6 r2)), (oX11 m0 0 ta sz_ pl at_ fa fw cs fd rfm rt_ to_ rw_ wa ct rk rb cn br sm as_ go sh_ ir oa ob th ig sp_ ki tg of_ kp sf rs), (aI g sm 25 (sgF uf_23 (-1)))] ++ he_pl g L ln M) := hD
              refine lv_aload_n hx hb dX11_stop_66 rfl (lv_at hl 0 rfl) ?_
              refine lv_iload_n hx hb dX11_stop_67 rfl (lv_at hl 1 rfl) ?_
              refine lv_iload hx hb dX11_stop_68 (lv_at hl 5 rfl) ?_
              refine lv_isub hx hb dX11_stop_70 ?_
              refine he_top (nI (n - j)) (pk_sub (by omega)) ?_
              refine he_cv (wc := ([(oX11 m0 0 ta sz_ pl at_ fa fw cs fd rfm rt_ to_ rw_ wa ct rk rb cn br sm as_ go sh_ ir oa ob th ig sp_ ki tg of_ kp sf rs), (aI g to_ 25 tl), (aI g sm 25 (sgF uf_23 (-1))), (aM g wa 6 (he_ro 6 r2))] ++ (he_pl g L ln M))) (wr := [(aI g as_ 25 (flF F Gs 25))]) (va_runV (As := [.int (nI (n - j))]) (rest := []) ⟨hx, hb, hml, hown, hts⟩ (h_X11_goesOnN l g m0 fd rfm rt_ to_ rw_ wa rk rb cn br sm as_ go sh_ ki tg of_ kp rs ta sz_ pl at_ fa fw cs ct ir oa ob th ig sp_ sf 0 tl (sgF uf_23 (-1)) w L ln M r2 (mm + j) (n - j) (by first | assumption | decide | omega) (by first | assumption | decide | omega) (sgF_10 _ _) (by rw [sg_24]; exact HG24) (by omega) (by first | assumption | decide | omega) H.size) (cwV 1 hts gX11_stop_X11_goesOn rfl rfl rfl (by decide +kernel) ⟨Nat.le_of_ble_eq_true rfl, Nat.le_of_ble_eq_true rfl⟩) (he_preV (wc := ([(oX11 m0 0 ta sz_ pl at_ fa fw cs fd rfm rt_ to_ rw_ wa ct rk rb cn br sm as_ go sh_ ir oa ob th ig sp_ ki tg of_ kp sf rs), (aI g to_ 25 tl), (aI g sm 25 (sgF uf_23 (-1))), (aM g wa 6 (he_ro 6 r2))] ++ (he_pl g L ln M))) hK hP hD hS hA hE (he_is [3, 1, 4, 2] [(aI g as_ 25 (flF F Gs 25)), (aI g to_ 25 tl), (aM g wa 6 (he_ro 6 r2)), (oX11 m0 0 ta sz_ pl at_ fa fw cs fd rfm rt_ to_ rw_ wa ct rk rb cn br sm as_ go sh_ ir oa ob th ig sp_ ki tg of_ kp sf rs), (aI g sm 25 (sgF uf_23 (-1)))] (he_pl g L ln M)) (he_ixP rfl) (he_ndP rfl rfl) 3 rfl rfl) rfl rfl hl.1 rfl (lv_room (Nat.le_of_ble_eq_true rfl)) dX11_stop_71 ⟨(Nat.le_of_ble_eq_true rfl), (Nat.le_of_ble_eq_true rfl)⟩) hP hD hS hA (he_is [3, 1, 4, 2] [(aI g as_ 25 (flF F Gs 25)), (aI g to_ 25 tl), (aM g wa 6 (he_ro 6 r2)), (oX11 m0 0 ta sz_ pl at_ fa fw cs fd rfm rt_ to_ rw_ wa ct rk rb cn br sm as_ go sh_ ir oa ob th ig sp_ ki tg of_ kp sf rs), (aI g sm 25 (sgF uf_23 (-1)))] (he_pl g L ln M)) [0] (he_ixP rfl) rfl rfl (he_disP (by decide) rfl) (fun u_30 H locs h_31 hP hD hS => ?_)
              obtain ⟨uf_32, rfl⟩ : ∃ z, z = u_30 := ⟨_, rfl⟩
              try dsimp only at h_31
              obtain ⟨hf_33, hf_34⟩ := h_31
              have hP : va_P g.1 vwCl ([(aI g as_ 25 (flF F Gs 25)), (oX11 m0 0 ta sz_ pl at_ fa fw cs fd rfm rt_ to_ rw_ wa ct rk rb cn br sm as_ go sh_ ir oa ob th ig sp_ ki tg of_ kp sf rs), (aI g to_ 25 tl), (aI g sm 25 uf_32), (aM g wa 6 (he_ro 6 r2))] ++ he_pl g L ln M) H := hP
              have hD : va_D A ([(aI g as_ 25 (flF F Gs 25)), (oX11 m0 0 ta sz_ pl at_ fa fw cs fd rfm rt_ to_ rw_ wa ct rk rb cn br sm as_ go sh_ ir oa ob th ig sp_ ki tg of_ kp sf rs), (aI g to_ 25 tl), (aI g sm 25 uf_32), (aM g wa 6 (he_ro 6 r2))] ++ he_pl g L ln M) := hD
              refine lv_aload_n hx hb dX11_stop_74 rfl (lv_at hl 0 rfl) ?_
              refine va_get (v := .ref sm) (T := TX11) (N := 35) hx hb hts inX11 hown hK hP 1 rfl rfl 19 (by decide) f46 (fun _ h9 => h9) rfl dX11_stop_75 ?_
              refine lv_iconst (v := 0) hx hb dX11_stop_78 (by decide) ?_
              refine he_iald hx hb hK hP 3 rfl (0) (by decide) (by decide) (by first | decide | assumption) (uf_32 0) rfl dX11_stop_79 ?_
              refine lv_istore (lv' := [(6, .int (uf_32 0)), (0, .ref m0), (1, .int (nI n)), (2, .int wh), (3, .int be), (4, .int ms), (5, .int (nI j))]) hx hb dX11_stop_80 hl (by decide) rfl (fun ls hl => ?_)
              refine lv_aload_n hx hb dX11_stop_82 rfl (lv_at hl 1 rfl) ?_
              refine he_cv (wc := [(oX11 m0 0 ta sz_ pl at_ fa fw cs fd rfm rt_ to_ rw_ wa ct rk rb cn br sm as_ go sh_ ir oa ob th ig sp_ ki tg of_ kp sf rs), (aI g sm 25 uf_32), (aI g as_ 25 (flF F Gs 25))]) (wr := ([(aI g to_ 25 tl), (aM g wa 6 (he_ro 6 r2))] ++ (he_pl g L ln M))) (va_runV (As := []) (rest := []) ⟨hx, hb, hml, hown, hts⟩ (c_X11_takes l g m0 fd rfm rt_ to_ rw_ wa rk rb cn br sm as_ go sh_ ki tg of_ kp rs ta sz_ pl at_ fa fw cs ct ir oa ob th ig sp_ sf 0 uf_32 (flF F Gs 25) H.size) (cwV 0 hts gX11_stop_X11_takes rfl rfl rfl (by decide +kernel) ⟨Nat.le_of_ble_eq_true rfl, Nat.le_of_ble_eq_true rfl⟩) (he_preV (wc := [(oX11 m0 0 ta sz_ pl at_ fa fw cs fd rfm rt_ to_ rw_ wa ct rk rb cn br sm as_ go sh_ ir oa ob th ig sp_ ki tg of_ kp sf rs), (aI g sm 25 uf_32), (aI g as_ 25 (flF F Gs 25))]) hK hP hD hS hA hE [1, 3, 0] rfl rfl 1 rfl rfl) rfl rfl hl.1 rfl (lv_room (Nat.le_of_ble_eq_true rfl)) dX11_stop_83 ⟨(Nat.le_of_ble_eq_true rfl), (Nat.le_of_ble_eq_true rfl)⟩) hP hD hS hA [1, 3, 0] (he_is [2, 4] [(aI g as_ 25 (flF F Gs 25)), (oX11 m0 0 ta sz_ pl at_ fa fw cs fd rfm rt_ to_ rw_ wa ct rk rb cn br sm as_ go sh_ ir oa ob th ig sp_ ki tg of_ kp sf rs), (aI g to_ 25 tl), (aI g sm 25 uf_32), (aM g wa 6 (he_ro 6 r2))] (he_pl g L ln M)) rfl (he_ixP rfl) (he_ndP rfl rfl) (he_disN (by decide) rfl) (fun u_36 H locs h_37 hP hD hS => ?_)
              have hP := va_P.swap hP
              have hD := va_D.swap hD
              have hP : va_P g.1 vwCl ([(aI g to_ 25 tl), (aM g wa 6 (he_ro 6 r2)), (oX11 m0 0 ta sz_ pl at_ fa fw cs fd rfm rt_ to_ rw_ wa ct rk rb cn br sm as_ go sh_ ir oa ob th ig sp_ ki tg of_ kp sf rs), (aI g sm 25 (flF (flF F Gs 25) uf_32 25)), (aI g as_ 25 (flF F Gs 25))] ++ he_pl g L ln M) H := hP
              have hD : va_D A ([(aI g to_ 25 tl), (aM g wa 6 (he_ro 6 r2)), (oX11 m0 0 ta sz_ pl at_ fa fw cs fd rfm rt_ to_ rw_ wa ct rk rb cn br sm as_ go sh_ ir oa ob th ig sp_ ki tg of_ kp sf rs), (aI g sm 25 (flF (flF F Gs 25) uf_32 25)), (aI g as_ 25 (flF F Gs 25))] ++ he_pl g L ln M) := hD
              refine lv_iload hx hb dX11_stop_86 (lv_at hl 0 rfl) ?_
              refine lv_iload hx hb dX11_stop_88 (lv_at hl 5 rfl) ?_
              refine lv_icmp_gt (tgt := 96) hx hb dX11_stop_90 (by decide) (fun c_38 => ?_) (fun c_38 => ?_)
              · refine lv_iload hx hb dX11_stop_96 (lv_at hl 6 rfl) ?_
                refine lv_istore_n (lv' := [(3, .int (nI j)), (6, .int (uf_32 0)), (0, .ref m0), (1, .int (nI n)), (2, .int wh), (4, .int ms), (5, .int (nI j))]) hx hb dX11_stop_98 rfl hl (by decide) rfl (fun ls hl => ?_)
                refine lv_iload hx hb dX11_stop_99 (lv_at hl 1 rfl) ?_
                refine lv_istore (lv' := [(4, .int (uf_32 0)), (3, .int (nI j)), (6, .int (uf_32 0)), (0, .ref m0), (1, .int (nI n)), (2, .int wh), (5, .int (nI j))]) hx hb dX11_stop_101 hl (by decide) rfl (fun ls hl => ?_)
                refine lv_iinc (v := nI (j + 1)) (lv' := [(5, .int (nI (j + 1))), (4, .int (uf_32 0)), (3, .int (nI j)), (6, .int (uf_32 0)), (0, .ref m0), (1, .int (nI n)), (2, .int wh)]) hx hb dX11_stop_103 hl (k := 6) rfl (nI_1 j) (by decide) rfl (fun ls hl => ?_)
                refine lv_goto (tgt := 45) hx hb dX11_stop_106 (by decide) ?_
                have hP := he_Psub (X := [(aI g to_ 25 tl), (aM g wa 6 (he_ro 6 r2)), (oX11 m0 0 ta sz_ pl at_ fa fw cs fd rfm rt_ to_ rw_ wa ct rk rb cn br sm as_ go sh_ ir oa ob th ig sp_ ki tg of_ kp sf rs), (aI g sm 25 (flF (flF F Gs 25) uf_32 25)), (aI g as_ 25 (flF F Gs 25))]) (X2 := [(oX11 m0 0 ta sz_ pl at_ fa fw cs fd rfm rt_ to_ rw_ wa ct rk rb cn br sm as_ go sh_ ir oa ob th ig sp_ ki tg of_ kp sf rs), (aI g to_ 25 tl), (aI g sm 25 (flF (flF F Gs 25) uf_32 25)), (aM g wa 6 (he_ro 6 r2)), (aI g as_ 25 (flF F Gs 25))]) (P := (he_pl g L ln M)) hP [2, 0, 3, 1, 4] rfl
                have hD := he_Dsub (X := [(aI g to_ 25 tl), (aM g wa 6 (he_ro 6 r2)), (oX11 m0 0 ta sz_ pl at_ fa fw cs fd rfm rt_ to_ rw_ wa ct rk rb cn br sm as_ go sh_ ir oa ob th ig sp_ ki tg of_ kp sf rs), (aI g sm 25 (flF (flF F Gs 25) uf_32 25)), (aI g as_ 25 (flF F Gs 25))]) (X2 := [(oX11 m0 0 ta sz_ pl at_ fa fw cs fd rfm rt_ to_ rw_ wa ct rk rb cn br sm as_ go sh_ ir oa ob th ig sp_ ki tg of_ kp sf rs), (aI g to_ 25 tl), (aI g sm 25 (flF (flF F Gs 25) uf_32 25)), (aM g wa 6 (he_ro 6 r2)), (aI g as_ 25 (flF F Gs 25))]) (P := (he_pl g L ln M)) hD [2, 0, 3, 1, 4] rfl rfl rfl
                exact ih45 (j + 1) (nI j) (uf_32 0) (flF (flF F Gs 25) uf_32 25) (flF F Gs 25) (by omega) (by omega) (a25_t hF9 (fun k hk => tkF F _ _ k hk)) _ _ _ hP hD hS (lv_sub hl [4, 5, 6, 2, 1, 0] rfl)
              · refine lv_goto (tgt := 103) hx hb dX11_stop_93 (by decide) ?_
                refine lv_iinc (v := nI (j + 1)) (lv' := [(5, .int (nI (j + 1))), (6, .int (uf_32 0)), (0, .ref m0), (1, .int (nI n)), (2, .int wh), (3, .int be), (4, .int ms)]) hx hb dX11_stop_103 hl (k := 6) rfl (nI_1 j) (by decide) rfl (fun ls hl => ?_)
                refine lv_goto (tgt := 45) hx hb dX11_stop_106 (by decide) ?_
                have hP := he_Psub (X := [(aI g to_ 25 tl), (aM g wa 6 (he_ro 6 r2)), (oX11 m0 0 ta sz_ pl at_ fa fw cs fd rfm rt_ to_ rw_ wa ct rk rb cn br sm as_ go sh_ ir oa ob th ig sp_ ki tg of_ kp sf rs), (aI g sm 25 (flF (flF F Gs 25) uf_32 25)), (aI g as_ 25 (flF F Gs 25))]) (X2 := [(oX11 m0 0 ta sz_ pl at_ fa fw cs fd rfm rt_ to_ rw_ wa ct rk rb cn br sm as_ go sh_ ir oa ob th ig sp_ ki tg of_ kp sf rs), (aI g to_ 25 tl), (aI g sm 25 (flF (flF F Gs 25) uf_32 25)), (aM g wa 6 (he_ro 6 r2)), (aI g as_ 25 (flF F Gs 25))]) (P := (he_pl g L ln M)) hP [2, 0, 3, 1, 4] rfl
                have hD := he_Dsub (X := [(aI g to_ 25 tl), (aM g wa 6 (he_ro 6 r2)), (oX11 m0 0 ta sz_ pl at_ fa fw cs fd rfm rt_ to_ rw_ wa ct rk rb cn br sm as_ go sh_ ir oa ob th ig sp_ ki tg of_ kp sf rs), (aI g sm 25 (flF (flF F Gs 25) uf_32 25)), (aI g as_ 25 (flF F Gs 25))]) (X2 := [(oX11 m0 0 ta sz_ pl at_ fa fw cs fd rfm rt_ to_ rw_ wa ct rk rb cn br sm as_ go sh_ ir oa ob th ig sp_ ki tg of_ kp sf rs), (aI g to_ 25 tl), (aI g sm 25 (flF (flF F Gs 25) uf_32 25)), (aM g wa 6 (he_ro 6 r2)), (aI g as_ 25 (flF F Gs 25))]) (P := (he_pl g L ln M)) hD [2, 0, 3, 1, 4] rfl rfl rfl
                exact ih45 (j + 1) be ms (flF (flF F Gs 25) uf_32 25) (flF F Gs 25) (by omega) (by omega) (a25_t hF9 (fun k hk => tkF F _ _ k hk)) _ _ _ hP hD hS (lv_sub hl [2, 3, 4, 5, 6, 0] rfl)
        have hP := he_Psub (X := [(aI g to_ 25 tl), (aI g sm 25 f), (aM g wa 6 (he_ro 6 r2)), (aI g as_ 25 g0), (oX11 m0 0 ta sz_ pl at_ fa fw cs fd rfm rt_ to_ rw_ wa ct rk rb cn br sm as_ go sh_ ir oa ob th ig sp_ ki tg of_ kp sf rs)]) (X2 := [(oX11 m0 0 ta sz_ pl at_ fa fw cs fd rfm rt_ to_ rw_ wa ct rk rb cn br sm as_ go sh_ ir oa ob th ig sp_ ki tg of_ kp sf rs), (aI g to_ 25 tl), (aI g sm 25 f), (aM g wa 6 (he_ro 6 r2)), (aI g as_ 25 g0)]) (P := (he_pl g L ln M)) hP [4, 0, 1, 2, 3] rfl
        have hD := he_Dsub (X := [(aI g to_ 25 tl), (aI g sm 25 f), (aM g wa 6 (he_ro 6 r2)), (aI g as_ 25 g0), (oX11 m0 0 ta sz_ pl at_ fa fw cs fd rfm rt_ to_ rw_ wa ct rk rb cn br sm as_ go sh_ ir oa ob th ig sp_ ki tg of_ kp sf rs)]) (X2 := [(oX11 m0 0 ta sz_ pl at_ fa fw cs fd rfm rt_ to_ rw_ wa ct rk rb cn br sm as_ go sh_ ir oa ob th ig sp_ ki tg of_ kp sf rs), (aI g to_ 25 tl), (aI g sm 25 f), (aM g wa 6 (he_ro 6 r2)), (aI g as_ 25 g0)]) (P := (he_pl g L ln M)) hD [4, 0, 1, 2, 3] rfl rfl rfl
        exact loop45 ((n + 1 - 0) + 1) 0 0 (-1) f g0 (Nat.lt_succ_self _) (Nat.zero_le _) (fun _ _ => rfl) _ _ _ hP hD hS (lv_sub hl [3, 4, 5, 2, 1, 0] rfl)
      · exact absurd (by decide) c_12
    · exact absurd c_8 (by decide)
set_option maxHeartbeats 4000000 in
set_option maxRecDepth 100000 in
theorem h_X11_odds (l : Launch) (g : he_G) (m0 : Nat) (fd : Nat) (rfm : Nat) (rt_ : Nat) (to_ : Nat) (rw_ : Nat) (wa : Nat) (rk : Nat) (rb : Nat) (cn : Nat) (br : Nat) (sm : Nat) (as_ : Nat) (go : Nat) (sh_ : Nat) (ki : Nat) (tg : Nat) (of_ : Nat) (kp : Nat) (rs : Nat) (ta : Int32) (sz_ : Int32) (pl : Int32) (at_ : Int32) (fa : Int32) (fw : Int32) (cs : Int32) (ct : Int32) (ir : Int32) (oa : Int32) (ob : Int32) (th : Int32) (ig : Int32) (sp_ : Int32) (sf : Int32) (tw : Int32) (x : Int32) (y : Int32) (hok0 : ¬ he_within x 1 99 = 0) (hok1 : ¬ he_within y 1 99 = 0) : he_V l yX11_odds wsX11_odds 1 23 0 0 g [.ref m0, .int x, .int y] [(oX11 m0 tw ta sz_ pl at_ fa fw cs fd rfm rt_ to_ rw_ wa ct rk rb cn br sm as_ go sh_ ir oa ob th ig sp_ ki tg of_ kp sf rs)] (fun (u : Unit) => True) (fun (u : Unit) => [(oX11 m0 0 ta sz_ pl at_ fa fw cs fd rfm rt_ to_ rw_ wa ct rk rb cn br sm as_ go sh_ ir x y 0 ig sp_ ki tg of_ kp sf rs)]) := by
  refine he_begin (l := l) (g := g) (y := yX11_odds) (wl := wsX11_odds) (fr := 1) (lo := 23) (mc := 0) (ms := 0) (av := [.ref m0, .int x, .int y]) (ws := [(oX11 m0 tw ta sz_ pl at_ fa fw cs fd rfm rt_ to_ rw_ wa ct rk rb cn br sm as_ go sh_ ir oa ob th ig sp_ ki tg of_ kp sf rs)]) (cc := cX11_odds) (maxL := 3) (ret := none) (fun A => va_Qv (fun (u : Unit) => True) (fun u t => he_post g A ((fun (u : Unit) => [(oX11 m0 0 ta sz_ pl at_ fa fw cs fd rfm rt_ to_ rw_ wa ct rk rb cn br sm as_ go sh_ ir x y 0 ig sp_ ki tg of_ kp sf rs)]) u) t) A) (by decide) rfl (Nat.le_of_ble_eq_true rfl) ?_
  intro p e s m args below meth c A ls H locs Q hQ hB
  obtain ⟨hx, hb, hr, hml, hown, hts, hlk, hin, hP, hK, hD, hS, hA, hE, hl⟩ := hB
  have hl : lv_has ls 3 [(0, .ref m0), (1, .int x), (2, .int y)] := hl
  have f85 := hts (.fieldLink RX11 85 "HiredEnemyModel" "thrown" "I") (iwoX11_odds (k := 0) rfl)
  have inX11 : ∀ w ∈ wsX110, w ∈ wsX11_odds := innX11_odds_X11
  have f58 := hts (.fieldLink RX11 58 "HiredEnemyModel" "oddsA" "I") (iwoX11_odds (k := 1) rfl)
  have f61 := hts (.fieldLink RX11 61 "HiredEnemyModel" "oddsB" "I") (iwoX11_odds (k := 2) rfl)
  have f165 := hts (.fieldLink RX11 165 "HiredEnemyModel" "things" "I") (iwoX11_odds (k := 3) rfl)
  refine lv_aload_n hx hb dX11_odds_0 rfl (lv_at hl 0 rfl) ?_
  refine lv_iconst (v := 0) hx hb dX11_odds_1 (by decide) ?_
  refine va_put (v := .int 0) (ty := .int) (T := TX11) (N := 35) hx hb hts inX11 tyX11 tyX11_ok nmX11 hown hK hP hD hS 0 rfl rfl 0 (by decide) f85 (fun _ h9 => h9) rfl (by decide +kernel) rfl rfl (Nat.le_of_ble_eq_true rfl) dX11_odds_2 (fun H locs hP hD hS => ?_)
  have hP : va_P g.1 vwCl [(oX11 m0 0 ta sz_ pl at_ fa fw cs fd rfm rt_ to_ rw_ wa ct rk rb cn br sm as_ go sh_ ir oa ob th ig sp_ ki tg of_ kp sf rs)] H := hP
  have hD : va_D A [(oX11 m0 0 ta sz_ pl at_ fa fw cs fd rfm rt_ to_ rw_ wa ct rk rb cn br sm as_ go sh_ ir oa ob th ig sp_ ki tg of_ kp sf rs)] := hD
  refine lv_aload_n hx hb dX11_odds_5 rfl (lv_at hl 0 rfl) ?_
  refine lv_iload_n hx hb dX11_odds_6 rfl (lv_at hl 1 rfl) ?_
  refine lv_iconst (v := 1) hx hb dX11_odds_7 (by decide) ?_
  refine lv_bipush (v := 99) hx hb dX11_odds_8 (by decide) ?_
  refine he_ci (wc := []) (wr := [(oX11 m0 0 ta sz_ pl at_ fa fw cs fd rfm rt_ to_ rw_ wa ct rk rb cn br sm as_ go sh_ ir oa ob th ig sp_ ki tg of_ kp sf rs)]) (va_runS (As := [.int x, .int 1, .int 99]) (rest := [.ref m0]) ⟨hx, hb, hml, hown, hts⟩ (c_X11_in l g x 1 99 H.size) (va_cwS 3 hts gX11_odds_X11_in rfl rfl rfl (by decide +kernel) ⟨Nat.le_of_ble_eq_true rfl, Nat.le_of_ble_eq_true rfl⟩) (he_preS (wc := []) hK hP hD hS hA hE [] rfl rfl) rfl rfl hl.1 rfl (lv_room (Nat.le_of_ble_eq_true rfl)) dX11_odds_10 ⟨(Nat.le_of_ble_eq_true rfl), (Nat.le_of_ble_eq_true rfl)⟩) hP hD hS hA [] [0] rfl rfl rfl (by decide) (fun r_1 u_2 H locs h_3 hP hD hS => ?_)
  subst h_3
  have hP : va_P g.1 vwCl [(oX11 m0 0 ta sz_ pl at_ fa fw cs fd rfm rt_ to_ rw_ wa ct rk rb cn br sm as_ go sh_ ir oa ob th ig sp_ ki tg of_ kp sf rs)] H := hP
  have hD : va_D A [(oX11 m0 0 ta sz_ pl at_ fa fw cs fd rfm rt_ to_ rw_ wa ct rk rb cn br sm as_ go sh_ ir oa ob th ig sp_ ki tg of_ kp sf rs)] := hD
  refine he_top (1) (he_within_1 hok0) ?_
  refine lv_if_eq (tgt := 26) hx hb dX11_odds_13 (by decide) (fun c_4 => ?_) (fun c_4 => ?_)
  · exact absurd c_4 (by decide)
  · refine lv_iload_n hx hb dX11_odds_16 rfl (lv_at hl 2 rfl) ?_
    refine lv_iconst (v := 1) hx hb dX11_odds_17 (by decide) ?_
    refine lv_bipush (v := 99) hx hb dX11_odds_18 (by decide) ?_
    refine he_ci (wc := []) (wr := [(oX11 m0 0 ta sz_ pl at_ fa fw cs fd rfm rt_ to_ rw_ wa ct rk rb cn br sm as_ go sh_ ir oa ob th ig sp_ ki tg of_ kp sf rs)]) (va_runS (As := [.int y, .int 1, .int 99]) (rest := [.ref m0]) ⟨hx, hb, hml, hown, hts⟩ (c_X11_in l g y 1 99 H.size) (va_cwS 3 hts gX11_odds_X11_in rfl rfl rfl (by decide +kernel) ⟨Nat.le_of_ble_eq_true rfl, Nat.le_of_ble_eq_true rfl⟩) (he_preS (wc := []) hK hP hD hS hA hE [] rfl rfl) rfl rfl hl.1 rfl (lv_room (Nat.le_of_ble_eq_true rfl)) dX11_odds_20 ⟨(Nat.le_of_ble_eq_true rfl), (Nat.le_of_ble_eq_true rfl)⟩) hP hD hS hA [] [0] rfl rfl rfl (by decide) (fun r_5 u_6 H locs h_7 hP hD hS => ?_)
    subst h_7
    have hP : va_P g.1 vwCl [(oX11 m0 0 ta sz_ pl at_ fa fw cs fd rfm rt_ to_ rw_ wa ct rk rb cn br sm as_ go sh_ ir oa ob th ig sp_ ki tg of_ kp sf rs)] H := hP
    have hD : va_D A [(oX11 m0 0 ta sz_ pl at_ fa fw cs fd rfm rt_ to_ rw_ wa ct rk rb cn br sm as_ go sh_ ir oa ob th ig sp_ ki tg of_ kp sf rs)] := hD
    refine he_top (1) (he_within_1 hok1) ?_
    refine lv_if_ne (tgt := 30) hx hb dX11_odds_23 (by decide) (fun c_8 => ?_) (fun c_8 => ?_)
    · refine lv_iconst (v := 0) hx hb dX11_odds_30 (by decide) ?_
      refine lv_iconst (v := 1) hx hb dX11_odds_31 (by decide) ?_
      refine lv_iconst (v := 2) hx hb dX11_odds_32 (by decide) ?_
      refine he_ci (wc := [(oX11 m0 0 ta sz_ pl at_ fa fw cs fd rfm rt_ to_ rw_ wa ct rk rb cn br sm as_ go sh_ ir oa ob th ig sp_ ki tg of_ kp sf rs)]) (wr := []) (va_runV (As := [.int 0, .int 1, .int 2]) (rest := []) ⟨hx, hb, hml, hown, hts⟩ (c_X11_bad0 l g m0 fd rfm rt_ to_ rw_ wa rk rb cn br sm as_ go sh_ ki tg of_ kp rs ta sz_ pl at_ fa fw cs ct ir oa ob th ig sp_ sf 1 2 H.size) (cwV 3 hts gX11_odds_X11_bad rfl rfl rfl (by decide +kernel) ⟨Nat.le_of_ble_eq_true rfl, Nat.le_of_ble_eq_true rfl⟩) (he_preV (wc := [(oX11 m0 0 ta sz_ pl at_ fa fw cs fd rfm rt_ to_ rw_ wa ct rk rb cn br sm as_ go sh_ ir oa ob th ig sp_ ki tg of_ kp sf rs)]) hK hP hD hS hA hE [0] rfl rfl 0 rfl rfl) rfl rfl hl.1 rfl (lv_room (Nat.le_of_ble_eq_true rfl)) dX11_odds_33 ⟨(Nat.le_of_ble_eq_true rfl), (Nat.le_of_ble_eq_true rfl)⟩) hP hD hS hA [0] [] rfl rfl rfl (by decide) (fun r_9 u_10 H locs h_11 hP hD hS => ?_)
      subst h_11
      have hP : va_P g.1 vwCl [(oX11 m0 0 ta sz_ pl at_ fa fw cs fd rfm rt_ to_ rw_ wa ct rk rb cn br sm as_ go sh_ ir oa ob th ig sp_ ki tg of_ kp sf rs)] H := hP
      have hD : va_D A [(oX11 m0 0 ta sz_ pl at_ fa fw cs fd rfm rt_ to_ rw_ wa ct rk rb cn br sm as_ go sh_ ir oa ob th ig sp_ ki tg of_ kp sf rs)] := hD
      refine lv_if_eq (tgt := 40) hx hb dX11_odds_36 (by decide) (fun c_12 => ?_) (fun c_12 => ?_)
      · refine lv_aload_n hx hb dX11_odds_40 rfl (lv_at hl 0 rfl) ?_
        refine lv_iload_n hx hb dX11_odds_41 rfl (lv_at hl 1 rfl) ?_
        refine va_put (v := .int x) (ty := .int) (T := TX11) (N := 35) hx hb hts inX11 tyX11 tyX11_ok nmX11 hown hK hP hD hS 0 rfl rfl 24 (by decide) f58 (fun _ h9 => h9) rfl (by decide +kernel) rfl rfl (Nat.le_of_ble_eq_true rfl) dX11_odds_42 (fun H locs hP hD hS => ?_)
        have hP : va_P g.1 vwCl [(oX11 m0 0 ta sz_ pl at_ fa fw cs fd rfm rt_ to_ rw_ wa ct rk rb cn br sm as_ go sh_ ir x ob th ig sp_ ki tg of_ kp sf rs)] H := hP
        have hD : va_D A [(oX11 m0 0 ta sz_ pl at_ fa fw cs fd rfm rt_ to_ rw_ wa ct rk rb cn br sm as_ go sh_ ir x ob th ig sp_ ki tg of_ kp sf rs)] := hD
        refine lv_aload_n hx hb dX11_odds_45 rfl (lv_at hl 0 rfl) ?_
        refine lv_iload_n hx hb dX11_odds_46 rfl (lv_at hl 2 rfl) ?_
        refine va_put (v := .int y) (ty := .int) (T := TX11) (N := 35) hx hb hts inX11 tyX11 tyX11_ok nmX11 hown hK hP hD hS 0 rfl rfl 25 (by decide) f61 (fun _ h9 => h9) rfl (by decide +kernel) rfl rfl (Nat.le_of_ble_eq_true rfl) dX11_odds_47 (fun H locs hP hD hS => ?_)
        have hP : va_P g.1 vwCl [(oX11 m0 0 ta sz_ pl at_ fa fw cs fd rfm rt_ to_ rw_ wa ct rk rb cn br sm as_ go sh_ ir x y th ig sp_ ki tg of_ kp sf rs)] H := hP
        have hD : va_D A [(oX11 m0 0 ta sz_ pl at_ fa fw cs fd rfm rt_ to_ rw_ wa ct rk rb cn br sm as_ go sh_ ir x y th ig sp_ ki tg of_ kp sf rs)] := hD
        refine lv_aload_n hx hb dX11_odds_50 rfl (lv_at hl 0 rfl) ?_
        refine lv_iconst (v := 0) hx hb dX11_odds_51 (by decide) ?_
        refine va_put (v := .int 0) (ty := .int) (T := TX11) (N := 35) hx hb hts inX11 tyX11 tyX11_ok nmX11 hown hK hP hD hS 0 rfl rfl 26 (by decide) f165 (fun _ h9 => h9) rfl (by decide +kernel) rfl rfl (Nat.le_of_ble_eq_true rfl) dX11_odds_52 (fun H locs hP hD hS => ?_)
        have hP : va_P g.1 vwCl [(oX11 m0 0 ta sz_ pl at_ fa fw cs fd rfm rt_ to_ rw_ wa ct rk rb cn br sm as_ go sh_ ir x y 0 ig sp_ ki tg of_ kp sf rs)] H := hP
        have hD : va_D A [(oX11 m0 0 ta sz_ pl at_ fa fw cs fd rfm rt_ to_ rw_ wa ct rk rb cn br sm as_ go sh_ ir x y 0 ig sp_ ki tg of_ kp sf rs)] := hD
        exact he_rv hQ hx hb hr hlk hP hD hS dX11_odds_55 (Nat.le_of_ble_eq_true rfl) (Nat.le_of_ble_eq_true rfl) (()) (rfl) (trivial)
      · exact absurd (by decide) c_12
    · exact absurd c_8 (by decide)
set_option maxHeartbeats 4000000 in
set_option maxRecDepth 100000 in
theorem h_X11_kind (l : Launch) (g : he_G) (m0 : Nat) (fd : Nat) (rfm : Nat) (rt_ : Nat) (to_ : Nat) (rw_ : Nat) (wa : Nat) (rk : Nat) (rb : Nat) (cn : Nat) (br : Nat) (sm : Nat) (as_ : Nat) (go : Nat) (sh_ : Nat) (ki : Nat) (tg : Nat) (of_ : Nat) (kp : Nat) (rs : Nat) (ta : Int32) (sz_ : Int32) (pl : Int32) (at_ : Int32) (fa : Int32) (fw : Int32) (cs : Int32) (ct : Int32) (ir : Int32) (oa : Int32) (ob : Int32) (th : Int32) (ig : Int32) (sp_ : Int32) (sf : Int32) (tw : Int32) (L : List Nat) (ln : Nat → Nat) (M : Nat → Nat → Int32) (r7 : Nat → Nat) (x : Int32) (y : Int32) (z : Int32) (F_r7 : ∀ i, i < 4 → r7 i ∈ L ∧ ln (r7 i) = 2 ∧ True) (hok0 : ¬ he_within x 0 3 = 0) (hok1 : ¬ he_within y 1 16 = 0) (hok2 : ¬ he_within z 1 16 = 0) : he_V l yX11_kind wsX11_kind 1 23 0 0 g [.ref m0, .int x, .int y, .int z] ([(oX11 m0 tw ta sz_ pl at_ fa fw cs fd rfm rt_ to_ rw_ wa ct rk rb cn br sm as_ go sh_ ir oa ob th ig sp_ ki tg of_ kp sf rs), (aM g ki 4 (he_ro 4 r7))] ++ he_pl g L ln M) (fun (u : Nat → Nat → Int32) => u = va_up M (r7 x.toNatClampNeg) (upd (upd (M (r7 x.toNatClampNeg)) 0 y) 1 z)) (fun (u : Nat → Nat → Int32) => [(oX11 m0 0 ta sz_ pl at_ fa fw cs fd rfm rt_ to_ rw_ wa ct rk rb cn br sm as_ go sh_ ir oa ob th ig sp_ ki tg of_ kp sf rs), (aM g ki 4 (he_ro 4 r7))] ++ he_pl g L ln u) := by
  refine he_begin (l := l) (g := g) (y := yX11_kind) (wl := wsX11_kind) (fr := 1) (lo := 23) (mc := 0) (ms := 0) (av := [.ref m0, .int x, .int y, .int z]) (ws := ([(oX11 m0 tw ta sz_ pl at_ fa fw cs fd rfm rt_ to_ rw_ wa ct rk rb cn br sm as_ go sh_ ir oa ob th ig sp_ ki tg of_ kp sf rs), (aM g ki 4 (he_ro 4 r7))] ++ he_pl g L ln M)) (cc := cX11_kind) (maxL := 4) (ret := none) (fun A => va_Qv (fun (u : Nat → Nat → Int32) => u = va_up M (r7 x.toNatClampNeg) (upd (upd (M (r7 x.toNatClampNeg)) 0 y) 1 z)) (fun u t => he_post g A ((fun (u : Nat → Nat → Int32) => [(oX11 m0 0 ta sz_ pl at_ fa fw cs fd rfm rt_ to_ rw_ wa ct rk rb cn br sm as_ go sh_ ir oa ob th ig sp_ ki tg of_ kp sf rs), (aM g ki 4 (he_ro 4 r7))] ++ he_pl g L ln u) u) t) A) (by decide) rfl (Nat.le_of_ble_eq_true rfl) ?_
  intro p e s m args below meth c A ls H locs Q hQ hB
  obtain ⟨hx, hb, hr, hml, hown, hts, hlk, hin, hP, hK, hD, hS, hA, hE, hl⟩ := hB
  have hl : lv_has ls 4 [(0, .ref m0), (1, .int x), (2, .int y), (3, .int z)] := hl
  have f85 := hts (.fieldLink RX11 85 "HiredEnemyModel" "thrown" "I") (iwoX11_kind (k := 0) rfl)
  have inX11 : ∀ w ∈ wsX110, w ∈ wsX11_kind := innX11_kind_X11
  have f64 := hts (.fieldLink RX11 64 "HiredEnemyModel" "kind" "[[I") (iwoX11_kind (k := 1) rfl)
  refine lv_aload_n hx hb dX11_kind_0 rfl (lv_at hl 0 rfl) ?_
  refine lv_iconst (v := 0) hx hb dX11_kind_1 (by decide) ?_
  refine va_put (v := .int 0) (ty := .int) (T := TX11) (N := 35) hx hb hts inX11 tyX11 tyX11_ok nmX11 hown hK hP hD hS 0 rfl rfl 0 (by decide) f85 (fun _ h9 => h9) rfl (by decide +kernel) rfl rfl (Nat.le_of_ble_eq_true rfl) dX11_kind_2 (fun H locs hP hD hS => ?_)
  have hP : va_P g.1 vwCl ([(oX11 m0 0 ta sz_ pl at_ fa fw cs fd rfm rt_ to_ rw_ wa ct rk rb cn br sm as_ go sh_ ir oa ob th ig sp_ ki tg of_ kp sf rs), (aM g ki 4 (he_ro 4 r7))] ++ he_pl g L ln M) H := hP
  have hD : va_D A ([(oX11 m0 0 ta sz_ pl at_ fa fw cs fd rfm rt_ to_ rw_ wa ct rk rb cn br sm as_ go sh_ ir oa ob th ig sp_ ki tg of_ kp sf rs), (aM g ki 4 (he_ro 4 r7))] ++ he_pl g L ln M) := hD
  refine lv_aload_n hx hb dX11_kind_5 rfl (lv_at hl 0 rfl) ?_
  refine lv_iload_n hx hb dX11_kind_6 rfl (lv_at hl 1 rfl) ?_
  refine lv_iconst (v := 0) hx hb dX11_kind_7 (by decide) ?_
  refine lv_iconst (v := 3) hx hb dX11_kind_8 (by decide) ?_
  refine he_ci (wc := []) (wr := ([(oX11 m0 0 ta sz_ pl at_ fa fw cs fd rfm rt_ to_ rw_ wa ct rk rb cn br sm as_ go sh_ ir oa ob th ig sp_ ki tg of_ kp sf rs), (aM g ki 4 (he_ro 4 r7))] ++ (he_pl g L ln M))) (va_runS (As := [.int x, .int 0, .int 3]) (rest := [.ref m0]) ⟨hx, hb, hml, hown, hts⟩ (c_X11_in l g x 0 3 H.size) (va_cwS 3 hts gX11_kind_X11_in rfl rfl rfl (by decide +kernel) ⟨Nat.le_of_ble_eq_true rfl, Nat.le_of_ble_eq_true rfl⟩) (he_preS (wc := []) hK hP hD hS hA hE [] rfl rfl) rfl rfl hl.1 rfl (lv_room (Nat.le_of_ble_eq_true rfl)) dX11_kind_9 ⟨(Nat.le_of_ble_eq_true rfl), (Nat.le_of_ble_eq_true rfl)⟩) hP hD hS hA [] (he_is [0, 1] [(oX11 m0 0 ta sz_ pl at_ fa fw cs fd rfm rt_ to_ rw_ wa ct rk rb cn br sm as_ go sh_ ir oa ob th ig sp_ ki tg of_ kp sf rs), (aM g ki 4 (he_ro 4 r7))] (he_pl g L ln M)) rfl (he_ixP rfl) (he_ndP rfl rfl) (he_disN (by decide) rfl) (fun r_1 u_2 H locs h_3 hP hD hS => ?_)
  have hP := va_P.swap hP
  have hD := va_D.swap hD
  subst h_3
  have hP : va_P g.1 vwCl ([(oX11 m0 0 ta sz_ pl at_ fa fw cs fd rfm rt_ to_ rw_ wa ct rk rb cn br sm as_ go sh_ ir oa ob th ig sp_ ki tg of_ kp sf rs), (aM g ki 4 (he_ro 4 r7))] ++ he_pl g L ln M) H := hP
  have hD : va_D A ([(oX11 m0 0 ta sz_ pl at_ fa fw cs fd rfm rt_ to_ rw_ wa ct rk rb cn br sm as_ go sh_ ir oa ob th ig sp_ ki tg of_ kp sf rs), (aM g ki 4 (he_ro 4 r7))] ++ he_pl g L ln M) := hD
  refine he_top (1) (he_within_1 hok0) ?_
  refine lv_if_eq (tgt := 35) hx hb dX11_kind_12 (by decide) (fun c_4 => ?_) (fun c_4 => ?_)
  · exact absurd c_4 (by decide)
  · refine lv_iload_n hx hb dX11_kind_15 rfl (lv_at hl 2 rfl) ?_
    refine lv_iconst (v := 1) hx hb dX11_kind_16 (by decide) ?_
    refine lv_bipush (v := 16) hx hb dX11_kind_17 (by decide) ?_
    refine he_ci (wc := []) (wr := ([(oX11 m0 0 ta sz_ pl at_ fa fw cs fd rfm rt_ to_ rw_ wa ct rk rb cn br sm as_ go sh_ ir oa ob th ig sp_ ki tg of_ kp sf rs), (aM g ki 4 (he_ro 4 r7))] ++ (he_pl g L ln M))) (va_runS (As := [.int y, .int 1, .int 16]) (rest := [.ref m0]) ⟨hx, hb, hml, hown, hts⟩ (c_X11_in l g y 1 16 H.size) (va_cwS 3 hts gX11_kind_X11_in rfl rfl rfl (by decide +kernel) ⟨Nat.le_of_ble_eq_true rfl, Nat.le_of_ble_eq_true rfl⟩) (he_preS (wc := []) hK hP hD hS hA hE [] rfl rfl) rfl rfl hl.1 rfl (lv_room (Nat.le_of_ble_eq_true rfl)) dX11_kind_19 ⟨(Nat.le_of_ble_eq_true rfl), (Nat.le_of_ble_eq_true rfl)⟩) hP hD hS hA [] (he_is [0, 1] [(oX11 m0 0 ta sz_ pl at_ fa fw cs fd rfm rt_ to_ rw_ wa ct rk rb cn br sm as_ go sh_ ir oa ob th ig sp_ ki tg of_ kp sf rs), (aM g ki 4 (he_ro 4 r7))] (he_pl g L ln M)) rfl (he_ixP rfl) (he_ndP rfl rfl) (he_disN (by decide) rfl) (fun r_5 u_6 H locs h_7 hP hD hS => ?_)
    have hP := va_P.swap hP
    have hD := va_D.swap hD
    subst h_7
    have hP : va_P g.1 vwCl ([(oX11 m0 0 ta sz_ pl at_ fa fw cs fd rfm rt_ to_ rw_ wa ct rk rb cn br sm as_ go sh_ ir oa ob th ig sp_ ki tg of_ kp sf rs), (aM g ki 4 (he_ro 4 r7))] ++ he_pl g L ln M) H := hP
    have hD : va_D A ([(oX11 m0 0 ta sz_ pl at_ fa fw cs fd rfm rt_ to_ rw_ wa ct rk rb cn br sm as_ go sh_ ir oa ob th ig sp_ ki tg of_ kp sf rs), (aM g ki 4 (he_ro 4 r7))] ++ he_pl g L ln M) := hD
    refine he_top (1) (he_within_1 hok1) ?_
    refine lv_if_eq (tgt := 35) hx hb dX11_kind_22 (by decide) (fun c_8 => ?_) (fun c_8 => ?_)
    · exact absurd c_8 (by decide)
    · refine lv_iload_n hx hb dX11_kind_25 rfl (lv_at hl 3 rfl) ?_
      refine lv_iconst (v := 1) hx hb dX11_kind_26 (by decide) ?_
      refine lv_bipush (v := 16) hx hb dX11_kind_27 (by decide) ?_
      refine he_ci (wc := []) (wr := ([(oX11 m0 0 ta sz_ pl at_ fa fw cs fd rfm rt_ to_ rw_ wa ct rk rb cn br sm as_ go sh_ ir oa ob th ig sp_ ki tg of_ kp sf rs), (aM g ki 4 (he_ro 4 r7))] ++ (he_pl g L ln M))) (va_runS (As := [.int z, .int 1, .int 16]) (rest := [.ref m0]) ⟨hx, hb, hml, hown, hts⟩ (c_X11_in l g z 1 16 H.size) (va_cwS 3 hts gX11_kind_X11_in rfl rfl rfl (by decide +kernel) ⟨Nat.le_of_ble_eq_true rfl, Nat.le_of_ble_eq_true rfl⟩) (he_preS (wc := []) hK hP hD hS hA hE [] rfl rfl) rfl rfl hl.1 rfl (lv_room (Nat.le_of_ble_eq_true rfl)) dX11_kind_29 ⟨(Nat.le_of_ble_eq_true rfl), (Nat.le_of_ble_eq_true rfl)⟩) hP hD hS hA [] (he_is [0, 1] [(oX11 m0 0 ta sz_ pl at_ fa fw cs fd rfm rt_ to_ rw_ wa ct rk rb cn br sm as_ go sh_ ir oa ob th ig sp_ ki tg of_ kp sf rs), (aM g ki 4 (he_ro 4 r7))] (he_pl g L ln M)) rfl (he_ixP rfl) (he_ndP rfl rfl) (he_disN (by decide) rfl) (fun r_9 u_10 H locs h_11 hP hD hS => ?_)
      have hP := va_P.swap hP
      have hD := va_D.swap hD
      subst h_11
      have hP : va_P g.1 vwCl ([(oX11 m0 0 ta sz_ pl at_ fa fw cs fd rfm rt_ to_ rw_ wa ct rk rb cn br sm as_ go sh_ ir oa ob th ig sp_ ki tg of_ kp sf rs), (aM g ki 4 (he_ro 4 r7))] ++ he_pl g L ln M) H := hP
      have hD : va_D A ([(oX11 m0 0 ta sz_ pl at_ fa fw cs fd rfm rt_ to_ rw_ wa ct rk rb cn br sm as_ go sh_ ir oa ob th ig sp_ ki tg of_ kp sf rs), (aM g ki 4 (he_ro 4 r7))] ++ he_pl g L ln M) := hD
      refine he_top (1) (he_within_1 hok2) ?_
      refine lv_if_ne (tgt := 39) hx hb dX11_kind_32 (by decide) (fun c_12 => ?_) (fun c_12 => ?_)
      · refine lv_iconst (v := 0) hx hb dX11_kind_39 (by decide) ?_
        refine lv_iconst (v := 1) hx hb dX11_kind_40 (by decide) ?_
        refine lv_iconst (v := 2) hx hb dX11_kind_41 (by decide) ?_
        refine he_ci (wc := [(oX11 m0 0 ta sz_ pl at_ fa fw cs fd rfm rt_ to_ rw_ wa ct rk rb cn br sm as_ go sh_ ir oa ob th ig sp_ ki tg of_ kp sf rs)]) (wr := ([(aM g ki 4 (he_ro 4 r7))] ++ (he_pl g L ln M))) (va_runV (As := [.int 0, .int 1, .int 2]) (rest := []) ⟨hx, hb, hml, hown, hts⟩ (c_X11_bad0 l g m0 fd rfm rt_ to_ rw_ wa rk rb cn br sm as_ go sh_ ki tg of_ kp rs ta sz_ pl at_ fa fw cs ct ir oa ob th ig sp_ sf 1 2 H.size) (cwV 3 hts gX11_kind_X11_bad rfl rfl rfl (by decide +kernel) ⟨Nat.le_of_ble_eq_true rfl, Nat.le_of_ble_eq_true rfl⟩) (he_preV (wc := [(oX11 m0 0 ta sz_ pl at_ fa fw cs fd rfm rt_ to_ rw_ wa ct rk rb cn br sm as_ go sh_ ir oa ob th ig sp_ ki tg of_ kp sf rs)]) hK hP hD hS hA hE [0] rfl rfl 0 rfl rfl) rfl rfl hl.1 rfl (lv_room (Nat.le_of_ble_eq_true rfl)) dX11_kind_42 ⟨(Nat.le_of_ble_eq_true rfl), (Nat.le_of_ble_eq_true rfl)⟩) hP hD hS hA [0] (he_is [1] [(oX11 m0 0 ta sz_ pl at_ fa fw cs fd rfm rt_ to_ rw_ wa ct rk rb cn br sm as_ go sh_ ir oa ob th ig sp_ ki tg of_ kp sf rs), (aM g ki 4 (he_ro 4 r7))] (he_pl g L ln M)) rfl (he_ixP rfl) (he_ndP rfl rfl) (he_disN (by decide) rfl) (fun r_13 u_14 H locs h_15 hP hD hS => ?_)
        have hP := va_P.swap hP
        have hD := va_D.swap hD
        subst h_15
        have hP : va_P g.1 vwCl ([(aM g ki 4 (he_ro 4 r7)), (oX11 m0 0 ta sz_ pl at_ fa fw cs fd rfm rt_ to_ rw_ wa ct rk rb cn br sm as_ go sh_ ir oa ob th ig sp_ ki tg of_ kp sf rs)] ++ he_pl g L ln M) H := hP
        have hD : va_D A ([(aM g ki 4 (he_ro 4 r7)), (oX11 m0 0 ta sz_ pl at_ fa fw cs fd rfm rt_ to_ rw_ wa ct rk rb cn br sm as_ go sh_ ir oa ob th ig sp_ ki tg of_ kp sf rs)] ++ he_pl g L ln M) := hD
        refine lv_if_eq (tgt := 49) hx hb dX11_kind_45 (by decide) (fun c_16 => ?_) (fun c_16 => ?_)
        · refine lv_aload_n hx hb dX11_kind_49 rfl (lv_at hl 0 rfl) ?_
          refine va_get (v := .ref ki) (T := TX11) (N := 35) hx hb hts inX11 hown hK hP 1 rfl rfl 29 (by decide) f64 (fun _ h9 => h9) rfl dX11_kind_50 ?_
          refine lv_iload_n hx hb dX11_kind_53 rfl (lv_at hl 1 rfl) ?_
          refine he_aldm hx hb hK hP 0 rfl (x.toNatClampNeg) (he_within_nat (B := 3) rfl (by decide) hok0).1 (Nat.lt_of_le_of_lt (he_within_nat (B := 3) rfl (by decide) hok0).2 (by decide)) (by decide) dX11_kind_54 ?_
          refine lv_iconst (v := 0) hx hb dX11_kind_55 (by decide) ?_
          refine lv_iload_n hx hb dX11_kind_56 rfl (lv_at hl 2 rfl) ?_
          refine he_past hx hb hK hP hD hS (F_r7 x.toNatClampNeg (Nat.lt_of_le_of_lt (he_within_nat (B := 3) rfl (by decide) hok0).2 (by decide))).1 (0) (by decide) (by rw [(F_r7 x.toNatClampNeg (Nat.lt_of_le_of_lt (he_within_nat (B := 3) rfl (by decide) hok0).2 (by decide))).2.1]; exact (by decide)) (by rw [(F_r7 x.toNatClampNeg (Nat.lt_of_le_of_lt (he_within_nat (B := 3) rfl (by decide) hok0).2 (by decide))).2.1]; decide) dX11_kind_57 (fun H locs hP hD hS => ?_)
          have hP : va_P g.1 vwCl ([(aM g ki 4 (he_ro 4 r7)), (oX11 m0 0 ta sz_ pl at_ fa fw cs fd rfm rt_ to_ rw_ wa ct rk rb cn br sm as_ go sh_ ir oa ob th ig sp_ ki tg of_ kp sf rs)] ++ he_pl g L ln (va_up M (r7 x.toNatClampNeg) (upd (M (r7 x.toNatClampNeg)) 0 y))) H := hP
          have hD : va_D A ([(aM g ki 4 (he_ro 4 r7)), (oX11 m0 0 ta sz_ pl at_ fa fw cs fd rfm rt_ to_ rw_ wa ct rk rb cn br sm as_ go sh_ ir oa ob th ig sp_ ki tg of_ kp sf rs)] ++ he_pl g L ln (va_up M (r7 x.toNatClampNeg) (upd (M (r7 x.toNatClampNeg)) 0 y))) := hD
          refine lv_aload_n hx hb dX11_kind_58 rfl (lv_at hl 0 rfl) ?_
          refine va_get (v := .ref ki) (T := TX11) (N := 35) hx hb hts inX11 hown hK hP 1 rfl rfl 29 (by decide) f64 (fun _ h9 => h9) rfl dX11_kind_59 ?_
          refine lv_iload_n hx hb dX11_kind_62 rfl (lv_at hl 1 rfl) ?_
          refine he_aldm hx hb hK hP 0 rfl (x.toNatClampNeg) (he_within_nat (B := 3) rfl (by decide) hok0).1 (Nat.lt_of_le_of_lt (he_within_nat (B := 3) rfl (by decide) hok0).2 (by decide)) (by decide) dX11_kind_63 ?_
          refine lv_iconst (v := 1) hx hb dX11_kind_64 (by decide) ?_
          refine lv_iload_n hx hb dX11_kind_65 rfl (lv_at hl 3 rfl) ?_
          refine he_past hx hb hK hP hD hS (F_r7 x.toNatClampNeg (Nat.lt_of_le_of_lt (he_within_nat (B := 3) rfl (by decide) hok0).2 (by decide))).1 (1) (by decide) (by rw [(F_r7 x.toNatClampNeg (Nat.lt_of_le_of_lt (he_within_nat (B := 3) rfl (by decide) hok0).2 (by decide))).2.1]; exact (by decide)) (by rw [(F_r7 x.toNatClampNeg (Nat.lt_of_le_of_lt (he_within_nat (B := 3) rfl (by decide) hok0).2 (by decide))).2.1]; decide) dX11_kind_66 (fun H locs hP hD hS => ?_)
          have hP : va_P g.1 vwCl ([(aM g ki 4 (he_ro 4 r7)), (oX11 m0 0 ta sz_ pl at_ fa fw cs fd rfm rt_ to_ rw_ wa ct rk rb cn br sm as_ go sh_ ir oa ob th ig sp_ ki tg of_ kp sf rs)] ++ he_pl g L ln (va_up (va_up M (r7 x.toNatClampNeg) (upd (M (r7 x.toNatClampNeg)) 0 y)) (r7 x.toNatClampNeg) (upd ((va_up M (r7 x.toNatClampNeg) (upd (M (r7 x.toNatClampNeg)) 0 y)) (r7 x.toNatClampNeg)) 1 z))) H := hP
          have hD : va_D A ([(aM g ki 4 (he_ro 4 r7)), (oX11 m0 0 ta sz_ pl at_ fa fw cs fd rfm rt_ to_ rw_ wa ct rk rb cn br sm as_ go sh_ ir oa ob th ig sp_ ki tg of_ kp sf rs)] ++ he_pl g L ln (va_up (va_up M (r7 x.toNatClampNeg) (upd (M (r7 x.toNatClampNeg)) 0 y)) (r7 x.toNatClampNeg) (upd ((va_up M (r7 x.toNatClampNeg) (upd (M (r7 x.toNatClampNeg)) 0 y)) (r7 x.toNatClampNeg)) 1 z))) := hD
          have hP := he_Psub (X := [(aM g ki 4 (he_ro 4 r7)), (oX11 m0 0 ta sz_ pl at_ fa fw cs fd rfm rt_ to_ rw_ wa ct rk rb cn br sm as_ go sh_ ir oa ob th ig sp_ ki tg of_ kp sf rs)]) (X2 := [(oX11 m0 0 ta sz_ pl at_ fa fw cs fd rfm rt_ to_ rw_ wa ct rk rb cn br sm as_ go sh_ ir oa ob th ig sp_ ki tg of_ kp sf rs), (aM g ki 4 (he_ro 4 r7))]) (P := (he_pl g L ln (va_up (va_up M (r7 x.toNatClampNeg) (upd (M (r7 x.toNatClampNeg)) 0 y)) (r7 x.toNatClampNeg) (upd ((va_up M (r7 x.toNatClampNeg) (upd (M (r7 x.toNatClampNeg)) 0 y)) (r7 x.toNatClampNeg)) 1 z)))) hP [1, 0] rfl
          have hD := he_Dsub (X := [(aM g ki 4 (he_ro 4 r7)), (oX11 m0 0 ta sz_ pl at_ fa fw cs fd rfm rt_ to_ rw_ wa ct rk rb cn br sm as_ go sh_ ir oa ob th ig sp_ ki tg of_ kp sf rs)]) (X2 := [(oX11 m0 0 ta sz_ pl at_ fa fw cs fd rfm rt_ to_ rw_ wa ct rk rb cn br sm as_ go sh_ ir oa ob th ig sp_ ki tg of_ kp sf rs), (aM g ki 4 (he_ro 4 r7))]) (P := (he_pl g L ln (va_up (va_up M (r7 x.toNatClampNeg) (upd (M (r7 x.toNatClampNeg)) 0 y)) (r7 x.toNatClampNeg) (upd ((va_up M (r7 x.toNatClampNeg) (upd (M (r7 x.toNatClampNeg)) 0 y)) (r7 x.toNatClampNeg)) 1 z)))) hD [1, 0] rfl rfl rfl
          exact he_rv hQ hx hb hr hlk hP hD hS dX11_kind_67 (Nat.le_of_ble_eq_true rfl) (Nat.le_of_ble_eq_true rfl) (va_up (va_up M (r7 x.toNatClampNeg) (upd (M (r7 x.toNatClampNeg)) 0 y)) (r7 x.toNatClampNeg) (upd ((va_up M (r7 x.toNatClampNeg) (upd (M (r7 x.toNatClampNeg)) 0 y)) (r7 x.toNatClampNeg)) 1 z)) (rfl) (up2)
        · exact absurd (by decide) c_16
      · exact absurd c_12 (by decide)
set_option maxHeartbeats 4000000 in
set_option maxRecDepth 100000 in
theorem h_X11_isSeen (l : Launch) (g : he_G) (m0 : Nat) (fd : Nat) (rfm : Nat) (rt_ : Nat) (to_ : Nat) (rw_ : Nat) (wa : Nat) (rk : Nat) (rb : Nat) (cn : Nat) (br : Nat) (sm : Nat) (as_ : Nat) (go : Nat) (sh_ : Nat) (ki : Nat) (tg : Nat) (of_ : Nat) (kp : Nat) (rs : Nat) (ta : Int32) (sz_ : Int32) (pl : Int32) (at_ : Int32) (fa : Int32) (fw : Int32) (cs : Int32) (ct : Int32) (ir : Int32) (oa : Int32) (ob : Int32) (ig : Int32) (sp_ : Int32) (sf : Int32) (tw : Int32) (th : Nat) (L : List Nat) (ln : Nat → Nat) (M : Nat → Nat → Int32) (r8 : Nat → Nat) (x : Int32) (y : Int32) (F_r8 : ∀ i, i < 12 → r8 i ∈ L ∧ ln (r8 i) = 2 ∧ True) (hth : th < 12) : he_I l yX11_isSeen wsX11_isSeen 0 0 0 0 g [.ref m0, .int x, .int y] ([(oX11 m0 tw ta sz_ pl at_ fa fw cs fd rfm rt_ to_ rw_ wa ct rk rb cn br sm as_ go sh_ ir oa ob (nI th) ig sp_ ki tg of_ kp sf rs), (aM g tg 12 (he_ro 12 r8))] ++ he_pl g L ln M) (fun (r : Int32) (u : Nat → Nat → Int32) => r = nI (th + 1) ∧ u = va_up M (r8 th) (upd (upd (M (r8 th)) 0 x) 1 y)) (fun (u : Nat → Nat → Int32) => [(oX11 m0 tw ta sz_ pl at_ fa fw cs fd rfm rt_ to_ rw_ wa ct rk rb cn br sm as_ go sh_ ir oa ob (nI (th + 1)) ig sp_ ki tg of_ kp sf rs), (aM g tg 12 (he_ro 12 r8))] ++ he_pl g L ln u) := by
  refine he_begin (l := l) (g := g) (y := yX11_isSeen) (wl := wsX11_isSeen) (fr := 0) (lo := 0) (mc := 0) (ms := 0) (av := [.ref m0, .int x, .int y]) (ws := ([(oX11 m0 tw ta sz_ pl at_ fa fw cs fd rfm rt_ to_ rw_ wa ct rk rb cn br sm as_ go sh_ ir oa ob (nI th) ig sp_ ki tg of_ kp sf rs), (aM g tg 12 (he_ro 12 r8))] ++ he_pl g L ln M)) (cc := cX11_isSeen) (maxL := 3) (ret := (some .int)) (fun A => va_Qi (fun (r : Int32) (u : Nat → Nat → Int32) => r = nI (th + 1) ∧ u = va_up M (r8 th) (upd (upd (M (r8 th)) 0 x) 1 y)) (fun u t => he_post g A ((fun (u : Nat → Nat → Int32) => [(oX11 m0 tw ta sz_ pl at_ fa fw cs fd rfm rt_ to_ rw_ wa ct rk rb cn br sm as_ go sh_ ir oa ob (nI (th + 1)) ig sp_ ki tg of_ kp sf rs), (aM g tg 12 (he_ro 12 r8))] ++ he_pl g L ln u) u) t) A) (by decide) rfl (Nat.le_of_ble_eq_true rfl) ?_
  intro p e s m args below meth c A ls H locs Q hQ hB
  obtain ⟨hx, hb, hr, hml, hown, hts, hlk, hin, hP, hK, hD, hS, hA, hE, hl⟩ := hB
  have hl : lv_has ls 3 [(0, .ref m0), (1, .int x), (2, .int y)] := hl
  have f165 := hts (.fieldLink RX11 165 "HiredEnemyModel" "things" "I") (iwoX11_isSeen (k := 0) rfl)
  have inX11 : ∀ w ∈ wsX110, w ∈ wsX11_isSeen := innX11_isSeen_X11
  have f67 := hts (.fieldLink RX11 67 "HiredEnemyModel" "thing" "[[I") (iwoX11_isSeen (k := 1) rfl)
  refine lv_aload_n hx hb dX11_isSeen_0 rfl (lv_at hl 0 rfl) ?_
  refine va_get (v := .int (nI th)) (T := TX11) (N := 35) hx hb hts inX11 hown hK hP 0 rfl rfl 26 (by decide) f165 (fun _ h9 => h9) rfl dX11_isSeen_1 ?_
  refine lv_bipush (v := 12) hx hb dX11_isSeen_4 (by decide) ?_
  refine lv_icmp_ne (tgt := 11) hx hb dX11_isSeen_6 (by decide) (fun c_1 => ?_) (fun c_1 => ?_)
  · refine lv_aload_n hx hb dX11_isSeen_11 rfl (lv_at hl 0 rfl) ?_
    refine va_get (v := .ref tg) (T := TX11) (N := 35) hx hb hts inX11 hown hK hP 0 rfl rfl 30 (by decide) f67 (fun _ h9 => h9) rfl dX11_isSeen_12 ?_
    refine lv_aload_n hx hb dX11_isSeen_15 rfl (lv_at hl 0 rfl) ?_
    refine va_get (v := .int (nI th)) (T := TX11) (N := 35) hx hb hts inX11 hown hK hP 0 rfl rfl 26 (by decide) f165 (fun _ h9 => h9) rfl dX11_isSeen_16 ?_
    refine he_aldm hx hb hK hP 1 rfl (th) rfl (by first | assumption | decide | omega) (by decide) dX11_isSeen_19 ?_
    refine lv_iconst (v := 0) hx hb dX11_isSeen_20 (by decide) ?_
    refine lv_iload_n hx hb dX11_isSeen_21 rfl (lv_at hl 1 rfl) ?_
    refine he_past hx hb hK hP hD hS (F_r8 th (by first | assumption | decide | omega)).1 (0) (by decide) (by rw [(F_r8 th (by first | assumption | decide | omega)).2.1]; exact (by decide)) (by rw [(F_r8 th (by first | assumption | decide | omega)).2.1]; decide) dX11_isSeen_22 (fun H locs hP hD hS => ?_)
    have hP : va_P g.1 vwCl ([(oX11 m0 tw ta sz_ pl at_ fa fw cs fd rfm rt_ to_ rw_ wa ct rk rb cn br sm as_ go sh_ ir oa ob (nI th) ig sp_ ki tg of_ kp sf rs), (aM g tg 12 (he_ro 12 r8))] ++ he_pl g L ln (va_up M (r8 th) (upd (M (r8 th)) 0 x))) H := hP
    have hD : va_D A ([(oX11 m0 tw ta sz_ pl at_ fa fw cs fd rfm rt_ to_ rw_ wa ct rk rb cn br sm as_ go sh_ ir oa ob (nI th) ig sp_ ki tg of_ kp sf rs), (aM g tg 12 (he_ro 12 r8))] ++ he_pl g L ln (va_up M (r8 th) (upd (M (r8 th)) 0 x))) := hD
    refine lv_aload_n hx hb dX11_isSeen_23 rfl (lv_at hl 0 rfl) ?_
    refine va_get (v := .ref tg) (T := TX11) (N := 35) hx hb hts inX11 hown hK hP 0 rfl rfl 30 (by decide) f67 (fun _ h9 => h9) rfl dX11_isSeen_24 ?_
    refine lv_aload_n hx hb dX11_isSeen_27 rfl (lv_at hl 0 rfl) ?_
    refine va_get (v := .int (nI th)) (T := TX11) (N := 35) hx hb hts inX11 hown hK hP 0 rfl rfl 26 (by decide) f165 (fun _ h9 => h9) rfl dX11_isSeen_28 ?_
    refine he_aldm hx hb hK hP 1 rfl (th) rfl (by first | assumption | decide | omega) (by decide) dX11_isSeen_31 ?_
    refine lv_iconst (v := 1) hx hb dX11_isSeen_32 (by decide) ?_
    refine lv_iload_n hx hb dX11_isSeen_33 rfl (lv_at hl 2 rfl) ?_
    refine he_past hx hb hK hP hD hS (F_r8 th (by first | assumption | decide | omega)).1 (1) (by decide) (by rw [(F_r8 th (by first | assumption | decide | omega)).2.1]; exact (by decide)) (by rw [(F_r8 th (by first | assumption | decide | omega)).2.1]; decide) dX11_isSeen_34 (fun H locs hP hD hS => ?_)
    have hP : va_P g.1 vwCl ([(oX11 m0 tw ta sz_ pl at_ fa fw cs fd rfm rt_ to_ rw_ wa ct rk rb cn br sm as_ go sh_ ir oa ob (nI th) ig sp_ ki tg of_ kp sf rs), (aM g tg 12 (he_ro 12 r8))] ++ he_pl g L ln (va_up (va_up M (r8 th) (upd (M (r8 th)) 0 x)) (r8 th) (upd ((va_up M (r8 th) (upd (M (r8 th)) 0 x)) (r8 th)) 1 y))) H := hP
    have hD : va_D A ([(oX11 m0 tw ta sz_ pl at_ fa fw cs fd rfm rt_ to_ rw_ wa ct rk rb cn br sm as_ go sh_ ir oa ob (nI th) ig sp_ ki tg of_ kp sf rs), (aM g tg 12 (he_ro 12 r8))] ++ he_pl g L ln (va_up (va_up M (r8 th) (upd (M (r8 th)) 0 x)) (r8 th) (upd ((va_up M (r8 th) (upd (M (r8 th)) 0 x)) (r8 th)) 1 y))) := hD
    refine lv_aload_n hx hb dX11_isSeen_35 rfl (lv_at hl 0 rfl) ?_
    refine lv_dup hx hb dX11_isSeen_36 rfl ?_
    refine va_get (v := .int (nI th)) (T := TX11) (N := 35) hx hb hts inX11 hown hK hP 0 rfl rfl 26 (by decide) f165 (fun _ h9 => h9) rfl dX11_isSeen_37 ?_
    refine lv_iconst (v := 1) hx hb dX11_isSeen_40 (by decide) ?_
    refine lv_iadd hx hb dX11_isSeen_41 ?_
    refine he_top (nI (th + 1)) (nI_add th 1) ?_
    refine va_put (v := .int (nI (th + 1))) (ty := .int) (T := TX11) (N := 35) hx hb hts inX11 tyX11 tyX11_ok nmX11 hown hK hP hD hS 0 rfl rfl 26 (by decide) f165 (fun _ h9 => h9) rfl (by decide +kernel) rfl rfl (Nat.le_of_ble_eq_true rfl) dX11_isSeen_42 (fun H locs hP hD hS => ?_)
    have hP : va_P g.1 vwCl ([(oX11 m0 tw ta sz_ pl at_ fa fw cs fd rfm rt_ to_ rw_ wa ct rk rb cn br sm as_ go sh_ ir oa ob (nI (th + 1)) ig sp_ ki tg of_ kp sf rs), (aM g tg 12 (he_ro 12 r8))] ++ he_pl g L ln (va_up (va_up M (r8 th) (upd (M (r8 th)) 0 x)) (r8 th) (upd ((va_up M (r8 th) (upd (M (r8 th)) 0 x)) (r8 th)) 1 y))) H := hP
    have hD : va_D A ([(oX11 m0 tw ta sz_ pl at_ fa fw cs fd rfm rt_ to_ rw_ wa ct rk rb cn br sm as_ go sh_ ir oa ob (nI (th + 1)) ig sp_ ki tg of_ kp sf rs), (aM g tg 12 (he_ro 12 r8))] ++ he_pl g L ln (va_up (va_up M (r8 th) (upd (M (r8 th)) 0 x)) (r8 th) (upd ((va_up M (r8 th) (upd (M (r8 th)) 0 x)) (r8 th)) 1 y))) := hD
    refine lv_aload_n hx hb dX11_isSeen_45 rfl (lv_at hl 0 rfl) ?_
    refine va_get (v := .int (nI (th + 1))) (T := TX11) (N := 35) hx hb hts inX11 hown hK hP 0 rfl rfl 26 (by decide) f165 (fun _ h9 => h9) rfl dX11_isSeen_46 ?_
    exact he_ri hQ hx hb hr hlk hP hD hS dX11_isSeen_49 (Nat.le_of_ble_eq_true rfl) (Nat.le_of_ble_eq_true rfl) (va_up (va_up M (r8 th) (upd (M (r8 th)) 0 x)) (r8 th) (upd ((va_up M (r8 th) (upd (M (r8 th)) 0 x)) (r8 th)) 1 y)) (rfl) (⟨rfl, up2⟩)
  · exact absurd c_1 (fun h9 => absurd ((he_ceq (a := th) (b := 12) rfl (by decide) (by omega) (by decide)).mp h9) (by omega))
set_option maxHeartbeats 4000000 in
set_option maxRecDepth 100000 in
theorem h_X11_isSeenF (l : Launch) (g : he_G) (m0 : Nat) (fd : Nat) (rfm : Nat) (rt_ : Nat) (to_ : Nat) (rw_ : Nat) (wa : Nat) (rk : Nat) (rb : Nat) (cn : Nat) (br : Nat) (sm : Nat) (as_ : Nat) (go : Nat) (sh_ : Nat) (ki : Nat) (tg : Nat) (of_ : Nat) (kp : Nat) (rs : Nat) (ta : Int32) (sz_ : Int32) (pl : Int32) (at_ : Int32) (fa : Int32) (fw : Int32) (cs : Int32) (ct : Int32) (ir : Int32) (oa : Int32) (ob : Int32) (ig : Int32) (sp_ : Int32) (sf : Int32) (tw : Int32) (th : Nat) (x : Int32) (y : Int32) (hth : th = 12) : he_I l yX11_isSeen wsX11_isSeen 0 0 0 0 g [.ref m0, .int x, .int y] [(oX11 m0 tw ta sz_ pl at_ fa fw cs fd rfm rt_ to_ rw_ wa ct rk rb cn br sm as_ go sh_ ir oa ob (nI th) ig sp_ ki tg of_ kp sf rs)] (fun (r : Int32) (u : Unit) => r = (-1)) (fun (u : Unit) => [(oX11 m0 tw ta sz_ pl at_ fa fw cs fd rfm rt_ to_ rw_ wa ct rk rb cn br sm as_ go sh_ ir oa ob (nI th) ig sp_ ki tg of_ kp sf rs)]) := by
  refine he_begin (l := l) (g := g) (y := yX11_isSeen) (wl := wsX11_isSeen) (fr := 0) (lo := 0) (mc := 0) (ms := 0) (av := [.ref m0, .int x, .int y]) (ws := [(oX11 m0 tw ta sz_ pl at_ fa fw cs fd rfm rt_ to_ rw_ wa ct rk rb cn br sm as_ go sh_ ir oa ob (nI th) ig sp_ ki tg of_ kp sf rs)]) (cc := cX11_isSeen) (maxL := 3) (ret := (some .int)) (fun A => va_Qi (fun (r : Int32) (u : Unit) => r = (-1)) (fun u t => he_post g A ((fun (u : Unit) => [(oX11 m0 tw ta sz_ pl at_ fa fw cs fd rfm rt_ to_ rw_ wa ct rk rb cn br sm as_ go sh_ ir oa ob (nI th) ig sp_ ki tg of_ kp sf rs)]) u) t) A) (by decide) rfl (Nat.le_of_ble_eq_true rfl) ?_
  intro p e s m args below meth c A ls H locs Q hQ hB
  obtain ⟨hx, hb, hr, hml, hown, hts, hlk, hin, hP, hK, hD, hS, hA, hE, hl⟩ := hB
  have hl : lv_has ls 3 [(0, .ref m0), (1, .int x), (2, .int y)] := hl
  have f165 := hts (.fieldLink RX11 165 "HiredEnemyModel" "things" "I") (iwoX11_isSeen (k := 0) rfl)
  have inX11 : ∀ w ∈ wsX110, w ∈ wsX11_isSeen := innX11_isSeen_X11
  refine lv_aload_n hx hb dX11_isSeen_0 rfl (lv_at hl 0 rfl) ?_
  refine va_get (v := .int (nI th)) (T := TX11) (N := 35) hx hb hts inX11 hown hK hP 0 rfl rfl 26 (by decide) f165 (fun _ h9 => h9) rfl dX11_isSeen_1 ?_
  refine lv_bipush (v := 12) hx hb dX11_isSeen_4 (by decide) ?_
  refine lv_icmp_ne (tgt := 11) hx hb dX11_isSeen_6 (by decide) (fun c_1 => ?_) (fun c_1 => ?_)
  · exact absurd (by rw [hth]; rfl) c_1
  · refine lv_iconst (v := (-1)) hx hb dX11_isSeen_9 (by decide) ?_
    exact he_ri hQ hx hb hr hlk hP hD hS dX11_isSeen_10 (Nat.le_of_ble_eq_true rfl) (Nat.le_of_ble_eq_true rfl) (()) (rfl) (rfl)
set_option maxHeartbeats 4000000 in
set_option maxRecDepth 100000 in
theorem h_X11_seen (l : Launch) (g : he_G) (m0 : Nat) (fd : Nat) (rfm : Nat) (rt_ : Nat) (to_ : Nat) (rw_ : Nat) (wa : Nat) (rk : Nat) (rb : Nat) (cn : Nat) (br : Nat) (sm : Nat) (as_ : Nat) (go : Nat) (sh_ : Nat) (ki : Nat) (tg : Nat) (of_ : Nat) (kp : Nat) (rs : Nat) (ta : Int32) (sz_ : Int32) (pl : Int32) (at_ : Int32) (fa : Int32) (fw : Int32) (cs : Int32) (ct : Int32) (ir : Int32) (oa : Int32) (ob : Int32) (ig : Int32) (sp_ : Int32) (sf : Int32) (tw : Int32) (th : Nat) (L : List Nat) (ln : Nat → Nat) (M : Nat → Nat → Int32) (r7 : Nat → Nat) (r8 : Nat → Nat) (x : Int32) (F_r7 : ∀ i, i < 4 → r7 i ∈ L ∧ ln (r7 i) = 2 ∧ True) (F_r8 : ∀ i, i < 12 → r8 i ∈ L ∧ ln (r8 i) = 2 ∧ True) (hok0 : ¬ he_within x 0 3 = 0) (hth : th < 12) : he_I l yX11_seen wsX11_seen 1 23 0 0 g [.ref m0, .int x] ([(oX11 m0 tw ta sz_ pl at_ fa fw cs fd rfm rt_ to_ rw_ wa ct rk rb cn br sm as_ go sh_ ir oa ob (nI th) ig sp_ ki tg of_ kp sf rs), (aM g ki 4 (he_ro 4 r7)), (aM g tg 12 (he_ro 12 r8))] ++ he_pl g L ln M) (fun (r : Int32) (u : Nat → Nat → Int32) => r = nI (th + 1) ∧ u = va_up M (r8 th) (upd (upd (M (r8 th)) 0 (M (r7 x.toNatClampNeg) 0)) 1 (M (r7 x.toNatClampNeg) 1))) (fun (u : Nat → Nat → Int32) => [(oX11 m0 0 ta sz_ pl at_ fa fw cs fd rfm rt_ to_ rw_ wa ct rk rb cn br sm as_ go sh_ ir oa ob (nI (th + 1)) ig sp_ ki tg of_ kp sf rs), (aM g ki 4 (he_ro 4 r7)), (aM g tg 12 (he_ro 12 r8))] ++ he_pl g L ln u) := by
  refine he_begin (l := l) (g := g) (y := yX11_seen) (wl := wsX11_seen) (fr := 1) (lo := 23) (mc := 0) (ms := 0) (av := [.ref m0, .int x]) (ws := ([(oX11 m0 tw ta sz_ pl at_ fa fw cs fd rfm rt_ to_ rw_ wa ct rk rb cn br sm as_ go sh_ ir oa ob (nI th) ig sp_ ki tg of_ kp sf rs), (aM g ki 4 (he_ro 4 r7)), (aM g tg 12 (he_ro 12 r8))] ++ he_pl g L ln M)) (cc := cX11_seen) (maxL := 2) (ret := (some .int)) (fun A => va_Qi (fun (r : Int32) (u : Nat → Nat → Int32) => r = nI (th + 1) ∧ u = va_up M (r8 th) (upd (upd (M (r8 th)) 0 (M (r7 x.toNatClampNeg) 0)) 1 (M (r7 x.toNatClampNeg) 1))) (fun u t => he_post g A ((fun (u : Nat → Nat → Int32) => [(oX11 m0 0 ta sz_ pl at_ fa fw cs fd rfm rt_ to_ rw_ wa ct rk rb cn br sm as_ go sh_ ir oa ob (nI (th + 1)) ig sp_ ki tg of_ kp sf rs), (aM g ki 4 (he_ro 4 r7)), (aM g tg 12 (he_ro 12 r8))] ++ he_pl g L ln u) u) t) A) (by decide) rfl (Nat.le_of_ble_eq_true rfl) ?_
  intro p e s m args below meth c A ls H locs Q hQ hB
  obtain ⟨hx, hb, hr, hml, hown, hts, hlk, hin, hP, hK, hD, hS, hA, hE, hl⟩ := hB
  have hl : lv_has ls 2 [(0, .ref m0), (1, .int x)] := hl
  have f85 := hts (.fieldLink RX11 85 "HiredEnemyModel" "thrown" "I") (iwoX11_seen (k := 0) rfl)
  have inX11 : ∀ w ∈ wsX110, w ∈ wsX11_seen := innX11_seen_X11
  have f64 := hts (.fieldLink RX11 64 "HiredEnemyModel" "kind" "[[I") (iwoX11_seen (k := 1) rfl)
  refine lv_aload_n hx hb dX11_seen_0 rfl (lv_at hl 0 rfl) ?_
  refine lv_iconst (v := 0) hx hb dX11_seen_1 (by decide) ?_
  refine va_put (v := .int 0) (ty := .int) (T := TX11) (N := 35) hx hb hts inX11 tyX11 tyX11_ok nmX11 hown hK hP hD hS 0 rfl rfl 0 (by decide) f85 (fun _ h9 => h9) rfl (by decide +kernel) rfl rfl (Nat.le_of_ble_eq_true rfl) dX11_seen_2 (fun H locs hP hD hS => ?_)
  have hP : va_P g.1 vwCl ([(oX11 m0 0 ta sz_ pl at_ fa fw cs fd rfm rt_ to_ rw_ wa ct rk rb cn br sm as_ go sh_ ir oa ob (nI th) ig sp_ ki tg of_ kp sf rs), (aM g ki 4 (he_ro 4 r7)), (aM g tg 12 (he_ro 12 r8))] ++ he_pl g L ln M) H := hP
  have hD : va_D A ([(oX11 m0 0 ta sz_ pl at_ fa fw cs fd rfm rt_ to_ rw_ wa ct rk rb cn br sm as_ go sh_ ir oa ob (nI th) ig sp_ ki tg of_ kp sf rs), (aM g ki 4 (he_ro 4 r7)), (aM g tg 12 (he_ro 12 r8))] ++ he_pl g L ln M) := hD
  refine lv_aload_n hx hb dX11_seen_5 rfl (lv_at hl 0 rfl) ?_
  refine lv_iload_n hx hb dX11_seen_6 rfl (lv_at hl 1 rfl) ?_
  refine lv_iconst (v := 0) hx hb dX11_seen_7 (by decide) ?_
  refine lv_iconst (v := 3) hx hb dX11_seen_8 (by decide) ?_
  refine he_ci (wc := []) (wr := ([(oX11 m0 0 ta sz_ pl at_ fa fw cs fd rfm rt_ to_ rw_ wa ct rk rb cn br sm as_ go sh_ ir oa ob (nI th) ig sp_ ki tg of_ kp sf rs), (aM g ki 4 (he_ro 4 r7)), (aM g tg 12 (he_ro 12 r8))] ++ (he_pl g L ln M))) (va_runS (As := [.int x, .int 0, .int 3]) (rest := [.ref m0]) ⟨hx, hb, hml, hown, hts⟩ (c_X11_in l g x 0 3 H.size) (va_cwS 3 hts gX11_seen_X11_in rfl rfl rfl (by decide +kernel) ⟨Nat.le_of_ble_eq_true rfl, Nat.le_of_ble_eq_true rfl⟩) (he_preS (wc := []) hK hP hD hS hA hE [] rfl rfl) rfl rfl hl.1 rfl (lv_room (Nat.le_of_ble_eq_true rfl)) dX11_seen_9 ⟨(Nat.le_of_ble_eq_true rfl), (Nat.le_of_ble_eq_true rfl)⟩) hP hD hS hA [] (he_is [0, 1, 2] [(oX11 m0 0 ta sz_ pl at_ fa fw cs fd rfm rt_ to_ rw_ wa ct rk rb cn br sm as_ go sh_ ir oa ob (nI th) ig sp_ ki tg of_ kp sf rs), (aM g ki 4 (he_ro 4 r7)), (aM g tg 12 (he_ro 12 r8))] (he_pl g L ln M)) rfl (he_ixP rfl) (he_ndP rfl rfl) (he_disN (by decide) rfl) (fun r_1 u_2 H locs h_3 hP hD hS => ?_)
  have hP := va_P.swap hP
  have hD := va_D.swap hD
  subst h_3
  have hP : va_P g.1 vwCl ([(oX11 m0 0 ta sz_ pl at_ fa fw cs fd rfm rt_ to_ rw_ wa ct rk rb cn br sm as_ go sh_ ir oa ob (nI th) ig sp_ ki tg of_ kp sf rs), (aM g ki 4 (he_ro 4 r7)), (aM g tg 12 (he_ro 12 r8))] ++ he_pl g L ln M) H := hP
  have hD : va_D A ([(oX11 m0 0 ta sz_ pl at_ fa fw cs fd rfm rt_ to_ rw_ wa ct rk rb cn br sm as_ go sh_ ir oa ob (nI th) ig sp_ ki tg of_ kp sf rs), (aM g ki 4 (he_ro 4 r7)), (aM g tg 12 (he_ro 12 r8))] ++ he_pl g L ln M) := hD
  refine he_top (1) (he_within_1 hok0) ?_
  refine lv_if_ne (tgt := 19) hx hb dX11_seen_12 (by decide) (fun c_4 => ?_) (fun c_4 => ?_)
  · refine lv_iconst (v := 0) hx hb dX11_seen_19 (by decide) ?_
    refine lv_iconst (v := 1) hx hb dX11_seen_20 (by decide) ?_
    refine lv_iconst (v := 2) hx hb dX11_seen_21 (by decide) ?_
    refine he_ci (wc := [(oX11 m0 0 ta sz_ pl at_ fa fw cs fd rfm rt_ to_ rw_ wa ct rk rb cn br sm as_ go sh_ ir oa ob (nI th) ig sp_ ki tg of_ kp sf rs)]) (wr := ([(aM g ki 4 (he_ro 4 r7)), (aM g tg 12 (he_ro 12 r8))] ++ (he_pl g L ln M))) (va_runV (As := [.int 0, .int 1, .int 2]) (rest := []) ⟨hx, hb, hml, hown, hts⟩ (c_X11_bad0 l g m0 fd rfm rt_ to_ rw_ wa rk rb cn br sm as_ go sh_ ki tg of_ kp rs ta sz_ pl at_ fa fw cs ct ir oa ob (nI th) ig sp_ sf 1 2 H.size) (cwV 3 hts gX11_seen_X11_bad rfl rfl rfl (by decide +kernel) ⟨Nat.le_of_ble_eq_true rfl, Nat.le_of_ble_eq_true rfl⟩) (he_preV (wc := [(oX11 m0 0 ta sz_ pl at_ fa fw cs fd rfm rt_ to_ rw_ wa ct rk rb cn br sm as_ go sh_ ir oa ob (nI th) ig sp_ ki tg of_ kp sf rs)]) hK hP hD hS hA hE [0] rfl rfl 0 rfl rfl) rfl rfl hl.1 rfl (lv_room (Nat.le_of_ble_eq_true rfl)) dX11_seen_22 ⟨(Nat.le_of_ble_eq_true rfl), (Nat.le_of_ble_eq_true rfl)⟩) hP hD hS hA [0] (he_is [1, 2] [(oX11 m0 0 ta sz_ pl at_ fa fw cs fd rfm rt_ to_ rw_ wa ct rk rb cn br sm as_ go sh_ ir oa ob (nI th) ig sp_ ki tg of_ kp sf rs), (aM g ki 4 (he_ro 4 r7)), (aM g tg 12 (he_ro 12 r8))] (he_pl g L ln M)) rfl (he_ixP rfl) (he_ndP rfl rfl) (he_disN (by decide) rfl) (fun r_5 u_6 H locs h_7 hP hD hS => ?_)
    have hP := va_P.swap hP
    have hD := va_D.swap hD
    subst h_7
    have hP : va_P g.1 vwCl ([(aM g ki 4 (he_ro 4 r7)), (aM g tg 12 (he_ro 12 r8)), (oX11 m0 0 ta sz_ pl at_ fa fw cs fd rfm rt_ to_ rw_ wa ct rk rb cn br sm as_ go sh_ ir oa ob (nI th) ig sp_ ki tg of_ kp sf rs)] ++ he_pl g L ln M) H := hP
    have hD : va_D A ([(aM g ki 4 (he_ro 4 r7)), (aM g tg 12 (he_ro 12 r8)), (oX11 m0 0 ta sz_ pl at_ fa fw cs fd rfm rt_ to_ rw_ wa ct rk rb cn br sm as_ go sh_ ir oa ob (nI th) ig sp_ ki tg of_ kp sf rs)] ++ he_pl g L ln M) := hD
    refine lv_if_eq (tgt := 30) hx hb dX11_seen_25 (by decide) (fun c_8 => ?_) (fun c_8 => ?_)
    · refine lv_aload_n hx hb dX11_seen_30 rfl (lv_at hl 0 rfl) ?_
      refine lv_aload_n hx hb dX11_seen_31 rfl (lv_at hl 0 rfl) ?_
      refine va_get (v := .ref ki) (T := TX11) (N := 35) hx hb hts inX11 hown hK hP 2 rfl rfl 29 (by decide) f64 (fun _ h9 => h9) rfl dX11_seen_32 ?_
      refine lv_iload_n hx hb dX11_seen_35 rfl (lv_at hl 1 rfl) ?_
      refine he_aldm hx hb hK hP 0 rfl (x.toNatClampNeg) (he_within_nat (B := 3) rfl (by decide) hok0).1 (Nat.lt_of_le_of_lt (he_within_nat (B := 3) rfl (by decide) hok0).2 (by decide)) (by decide) dX11_seen_36 ?_
      refine lv_iconst (v := 0) hx hb dX11_seen_37 (by decide) ?_
      refine he_pald hx hb hK hP (F_r7 x.toNatClampNeg (Nat.lt_of_le_of_lt (he_within_nat (B := 3) rfl (by decide) hok0).2 (by decide))).1 (0) (by decide) (by rw [(F_r7 x.toNatClampNeg (Nat.lt_of_le_of_lt (he_within_nat (B := 3) rfl (by decide) hok0).2 (by decide))).2.1]; exact (by decide)) (by rw [(F_r7 x.toNatClampNeg (Nat.lt_of_le_of_lt (he_within_nat (B := 3) rfl (by decide) hok0).2 (by decide))).2.1]; decide) (M (r7 x.toNatClampNeg) 0) rfl dX11_seen_38 ?_
      refine lv_aload_n hx hb dX11_seen_39 rfl (lv_at hl 0 rfl) ?_
      refine va_get (v := .ref ki) (T := TX11) (N := 35) hx hb hts inX11 hown hK hP 2 rfl rfl 29 (by decide) f64 (fun _ h9 => h9) rfl dX11_seen_40 ?_
      refine lv_iload_n hx hb dX11_seen_43 rfl (lv_at hl 1 rfl) ?_
      refine he_aldm hx hb hK hP 0 rfl (x.toNatClampNeg) (he_within_nat (B := 3) rfl (by decide) hok0).1 (Nat.lt_of_le_of_lt (he_within_nat (B := 3) rfl (by decide) hok0).2 (by decide)) (by decide) dX11_seen_44 ?_
      refine lv_iconst (v := 1) hx hb dX11_seen_45 (by decide) ?_
      refine he_pald hx hb hK hP (F_r7 x.toNatClampNeg (Nat.lt_of_le_of_lt (he_within_nat (B := 3) rfl (by decide) hok0).2 (by decide))).1 (1) (by decide) (by rw [(F_r7 x.toNatClampNeg (Nat.lt_of_le_of_lt (he_within_nat (B := 3) rfl (by decide) hok0).2 (by decide))).2.1]; exact (by decide)) (by rw [(F_r7 x.toNatClampNeg (Nat.lt_of_le_of_lt (he_within_nat (B := 3) rfl (by decide) hok0).2 (by decide))).2.1]; decide) (M (r7 x.toNatClampNeg) 1) rfl dX11_seen_46 ?_
      refine he_ci (wc := ([(oX11 m0 0 ta sz_ pl at_ fa fw cs fd rfm rt_ to_ rw_ wa ct rk rb cn br sm as_ go sh_ ir oa ob (nI th) ig sp_ ki tg of_ kp sf rs), (aM g tg 12 (he_ro 12 r8))] ++ (he_pl g L ln M))) (wr := [(aM g ki 4 (he_ro 4 r7))]) (va_runV (As := [.int (M (r7 x.toNatClampNeg) 0), .int (M (r7 x.toNatClampNeg) 1)]) (rest := []) ⟨hx, hb, hml, hown, hts⟩ (h_X11_isSeen l g m0 fd rfm rt_ to_ rw_ wa rk rb cn br sm as_ go sh_ ki tg of_ kp rs ta sz_ pl at_ fa fw cs ct ir oa ob ig sp_ sf 0 th L ln M r8 (M (r7 x.toNatClampNeg) 0) (M (r7 x.toNatClampNeg) 1) (by first | assumption | decide | omega) (by first | assumption | decide | omega) H.size) (cwV 2 hts gX11_seen_X11_isSeen rfl rfl rfl (by decide +kernel) ⟨Nat.le_of_ble_eq_true rfl, Nat.le_of_ble_eq_true rfl⟩) (he_preV (wc := ([(oX11 m0 0 ta sz_ pl at_ fa fw cs fd rfm rt_ to_ rw_ wa ct rk rb cn br sm as_ go sh_ ir oa ob (nI th) ig sp_ ki tg of_ kp sf rs), (aM g tg 12 (he_ro 12 r8))] ++ (he_pl g L ln M))) hK hP hD hS hA hE (he_is [2, 1] [(aM g ki 4 (he_ro 4 r7)), (aM g tg 12 (he_ro 12 r8)), (oX11 m0 0 ta sz_ pl at_ fa fw cs fd rfm rt_ to_ rw_ wa ct rk rb cn br sm as_ go sh_ ir oa ob (nI th) ig sp_ ki tg of_ kp sf rs)] (he_pl g L ln M)) (he_ixP rfl) (he_ndP rfl rfl) 2 rfl rfl) rfl rfl hl.1 rfl (lv_room (Nat.le_of_ble_eq_true rfl)) dX11_seen_47 ⟨(Nat.le_of_ble_eq_true rfl), (Nat.le_of_ble_eq_true rfl)⟩) hP hD hS hA (he_is [2, 1] [(aM g ki 4 (he_ro 4 r7)), (aM g tg 12 (he_ro 12 r8)), (oX11 m0 0 ta sz_ pl at_ fa fw cs fd rfm rt_ to_ rw_ wa ct rk rb cn br sm as_ go sh_ ir oa ob (nI th) ig sp_ ki tg of_ kp sf rs)] (he_pl g L ln M)) [0] (he_ixP rfl) rfl rfl (he_disP (by decide) rfl) (fun r_9 u_10 H locs h_11 hP hD hS => ?_)
      obtain ⟨Mu_12, rfl⟩ : ∃ z, z = u_10 := ⟨_, rfl⟩
      try dsimp only at h_11
      obtain ⟨rfl, hf_13⟩ := h_11
      have hP : va_P g.1 vwCl ([(aM g ki 4 (he_ro 4 r7)), (oX11 m0 0 ta sz_ pl at_ fa fw cs fd rfm rt_ to_ rw_ wa ct rk rb cn br sm as_ go sh_ ir oa ob (nI (th + 1)) ig sp_ ki tg of_ kp sf rs), (aM g tg 12 (he_ro 12 r8))] ++ he_pl g L ln Mu_12) H := hP
      have hD : va_D A ([(aM g ki 4 (he_ro 4 r7)), (oX11 m0 0 ta sz_ pl at_ fa fw cs fd rfm rt_ to_ rw_ wa ct rk rb cn br sm as_ go sh_ ir oa ob (nI (th + 1)) ig sp_ ki tg of_ kp sf rs), (aM g tg 12 (he_ro 12 r8))] ++ he_pl g L ln Mu_12) := hD
      have hP := he_Psub (X := [(aM g ki 4 (he_ro 4 r7)), (oX11 m0 0 ta sz_ pl at_ fa fw cs fd rfm rt_ to_ rw_ wa ct rk rb cn br sm as_ go sh_ ir oa ob (nI (th + 1)) ig sp_ ki tg of_ kp sf rs), (aM g tg 12 (he_ro 12 r8))]) (X2 := [(oX11 m0 0 ta sz_ pl at_ fa fw cs fd rfm rt_ to_ rw_ wa ct rk rb cn br sm as_ go sh_ ir oa ob (nI (th + 1)) ig sp_ ki tg of_ kp sf rs), (aM g ki 4 (he_ro 4 r7)), (aM g tg 12 (he_ro 12 r8))]) (P := (he_pl g L ln Mu_12)) hP [1, 0, 2] rfl
      have hD := he_Dsub (X := [(aM g ki 4 (he_ro 4 r7)), (oX11 m0 0 ta sz_ pl at_ fa fw cs fd rfm rt_ to_ rw_ wa ct rk rb cn br sm as_ go sh_ ir oa ob (nI (th + 1)) ig sp_ ki tg of_ kp sf rs), (aM g tg 12 (he_ro 12 r8))]) (X2 := [(oX11 m0 0 ta sz_ pl at_ fa fw cs fd rfm rt_ to_ rw_ wa ct rk rb cn br sm as_ go sh_ ir oa ob (nI (th + 1)) ig sp_ ki tg of_ kp sf rs), (aM g ki 4 (he_ro 4 r7)), (aM g tg 12 (he_ro 12 r8))]) (P := (he_pl g L ln Mu_12)) hD [1, 0, 2] rfl rfl rfl
      exact he_ri hQ hx hb hr hlk hP hD hS dX11_seen_50 (Nat.le_of_ble_eq_true rfl) (Nat.le_of_ble_eq_true rfl) (Mu_12) (rfl) (⟨rfl, hf_13⟩)
    · exact absurd (by decide) c_8
  · exact absurd c_4 (by decide)
set_option maxHeartbeats 4000000 in
set_option maxRecDepth 100000 in
theorem h_X11_seenF (l : Launch) (g : he_G) (m0 : Nat) (fd : Nat) (rfm : Nat) (rt_ : Nat) (to_ : Nat) (rw_ : Nat) (wa : Nat) (rk : Nat) (rb : Nat) (cn : Nat) (br : Nat) (sm : Nat) (as_ : Nat) (go : Nat) (sh_ : Nat) (ki : Nat) (tg : Nat) (of_ : Nat) (kp : Nat) (rs : Nat) (ta : Int32) (sz_ : Int32) (pl : Int32) (at_ : Int32) (fa : Int32) (fw : Int32) (cs : Int32) (ct : Int32) (ir : Int32) (oa : Int32) (ob : Int32) (ig : Int32) (sp_ : Int32) (sf : Int32) (tw : Int32) (th : Nat) (L : List Nat) (ln : Nat → Nat) (M : Nat → Nat → Int32) (r7 : Nat → Nat) (x : Int32) (F_r7 : ∀ i, i < 4 → r7 i ∈ L ∧ ln (r7 i) = 2 ∧ True) (hok0 : ¬ he_within x 0 3 = 0) (hth : th = 12) : he_I l yX11_seen wsX11_seen 1 23 0 0 g [.ref m0, .int x] ([(oX11 m0 tw ta sz_ pl at_ fa fw cs fd rfm rt_ to_ rw_ wa ct rk rb cn br sm as_ go sh_ ir oa ob (nI th) ig sp_ ki tg of_ kp sf rs), (aM g ki 4 (he_ro 4 r7))] ++ he_pl g L ln M) (fun (r : Int32) (u : Unit) => r = (-1)) (fun (u : Unit) => [(oX11 m0 0 ta sz_ pl at_ fa fw cs fd rfm rt_ to_ rw_ wa ct rk rb cn br sm as_ go sh_ ir oa ob (nI th) ig sp_ ki tg of_ kp sf rs), (aM g ki 4 (he_ro 4 r7))] ++ he_pl g L ln M) := by
  refine he_begin (l := l) (g := g) (y := yX11_seen) (wl := wsX11_seen) (fr := 1) (lo := 23) (mc := 0) (ms := 0) (av := [.ref m0, .int x]) (ws := ([(oX11 m0 tw ta sz_ pl at_ fa fw cs fd rfm rt_ to_ rw_ wa ct rk rb cn br sm as_ go sh_ ir oa ob (nI th) ig sp_ ki tg of_ kp sf rs), (aM g ki 4 (he_ro 4 r7))] ++ he_pl g L ln M)) (cc := cX11_seen) (maxL := 2) (ret := (some .int)) (fun A => va_Qi (fun (r : Int32) (u : Unit) => r = (-1)) (fun u t => he_post g A ((fun (u : Unit) => [(oX11 m0 0 ta sz_ pl at_ fa fw cs fd rfm rt_ to_ rw_ wa ct rk rb cn br sm as_ go sh_ ir oa ob (nI th) ig sp_ ki tg of_ kp sf rs), (aM g ki 4 (he_ro 4 r7))] ++ he_pl g L ln M) u) t) A) (by decide) rfl (Nat.le_of_ble_eq_true rfl) ?_
  intro p e s m args below meth c A ls H locs Q hQ hB
  obtain ⟨hx, hb, hr, hml, hown, hts, hlk, hin, hP, hK, hD, hS, hA, hE, hl⟩ := hB
  have hl : lv_has ls 2 [(0, .ref m0), (1, .int x)] := hl
  have f85 := hts (.fieldLink RX11 85 "HiredEnemyModel" "thrown" "I") (iwoX11_seen (k := 0) rfl)
  have inX11 : ∀ w ∈ wsX110, w ∈ wsX11_seen := innX11_seen_X11
  have f64 := hts (.fieldLink RX11 64 "HiredEnemyModel" "kind" "[[I") (iwoX11_seen (k := 1) rfl)
  refine lv_aload_n hx hb dX11_seen_0 rfl (lv_at hl 0 rfl) ?_
  refine lv_iconst (v := 0) hx hb dX11_seen_1 (by decide) ?_
  refine va_put (v := .int 0) (ty := .int) (T := TX11) (N := 35) hx hb hts inX11 tyX11 tyX11_ok nmX11 hown hK hP hD hS 0 rfl rfl 0 (by decide) f85 (fun _ h9 => h9) rfl (by decide +kernel) rfl rfl (Nat.le_of_ble_eq_true rfl) dX11_seen_2 (fun H locs hP hD hS => ?_)
  have hP : va_P g.1 vwCl ([(oX11 m0 0 ta sz_ pl at_ fa fw cs fd rfm rt_ to_ rw_ wa ct rk rb cn br sm as_ go sh_ ir oa ob (nI th) ig sp_ ki tg of_ kp sf rs), (aM g ki 4 (he_ro 4 r7))] ++ he_pl g L ln M) H := hP
  have hD : va_D A ([(oX11 m0 0 ta sz_ pl at_ fa fw cs fd rfm rt_ to_ rw_ wa ct rk rb cn br sm as_ go sh_ ir oa ob (nI th) ig sp_ ki tg of_ kp sf rs), (aM g ki 4 (he_ro 4 r7))] ++ he_pl g L ln M) := hD
  refine lv_aload_n hx hb dX11_seen_5 rfl (lv_at hl 0 rfl) ?_
  refine lv_iload_n hx hb dX11_seen_6 rfl (lv_at hl 1 rfl) ?_
  refine lv_iconst (v := 0) hx hb dX11_seen_7 (by decide) ?_
  refine lv_iconst (v := 3) hx hb dX11_seen_8 (by decide) ?_
  refine he_ci (wc := []) (wr := ([(oX11 m0 0 ta sz_ pl at_ fa fw cs fd rfm rt_ to_ rw_ wa ct rk rb cn br sm as_ go sh_ ir oa ob (nI th) ig sp_ ki tg of_ kp sf rs), (aM g ki 4 (he_ro 4 r7))] ++ (he_pl g L ln M))) (va_runS (As := [.int x, .int 0, .int 3]) (rest := [.ref m0]) ⟨hx, hb, hml, hown, hts⟩ (c_X11_in l g x 0 3 H.size) (va_cwS 3 hts gX11_seen_X11_in rfl rfl rfl (by decide +kernel) ⟨Nat.le_of_ble_eq_true rfl, Nat.le_of_ble_eq_true rfl⟩) (he_preS (wc := []) hK hP hD hS hA hE [] rfl rfl) rfl rfl hl.1 rfl (lv_room (Nat.le_of_ble_eq_true rfl)) dX11_seen_9 ⟨(Nat.le_of_ble_eq_true rfl), (Nat.le_of_ble_eq_true rfl)⟩) hP hD hS hA [] (he_is [0, 1] [(oX11 m0 0 ta sz_ pl at_ fa fw cs fd rfm rt_ to_ rw_ wa ct rk rb cn br sm as_ go sh_ ir oa ob (nI th) ig sp_ ki tg of_ kp sf rs), (aM g ki 4 (he_ro 4 r7))] (he_pl g L ln M)) rfl (he_ixP rfl) (he_ndP rfl rfl) (he_disN (by decide) rfl) (fun r_1 u_2 H locs h_3 hP hD hS => ?_)
  have hP := va_P.swap hP
  have hD := va_D.swap hD
  subst h_3
  have hP : va_P g.1 vwCl ([(oX11 m0 0 ta sz_ pl at_ fa fw cs fd rfm rt_ to_ rw_ wa ct rk rb cn br sm as_ go sh_ ir oa ob (nI th) ig sp_ ki tg of_ kp sf rs), (aM g ki 4 (he_ro 4 r7))] ++ he_pl g L ln M) H := hP
  have hD : va_D A ([(oX11 m0 0 ta sz_ pl at_ fa fw cs fd rfm rt_ to_ rw_ wa ct rk rb cn br sm as_ go sh_ ir oa ob (nI th) ig sp_ ki tg of_ kp sf rs), (aM g ki 4 (he_ro 4 r7))] ++ he_pl g L ln M) := hD
  refine he_top (1) (he_within_1 hok0) ?_
  refine lv_if_ne (tgt := 19) hx hb dX11_seen_12 (by decide) (fun c_4 => ?_) (fun c_4 => ?_)
  · refine lv_iconst (v := 0) hx hb dX11_seen_19 (by decide) ?_
    refine lv_iconst (v := 1) hx hb dX11_seen_20 (by decide) ?_
    refine lv_iconst (v := 2) hx hb dX11_seen_21 (by decide) ?_
    refine he_ci (wc := [(oX11 m0 0 ta sz_ pl at_ fa fw cs fd rfm rt_ to_ rw_ wa ct rk rb cn br sm as_ go sh_ ir oa ob (nI th) ig sp_ ki tg of_ kp sf rs)]) (wr := ([(aM g ki 4 (he_ro 4 r7))] ++ (he_pl g L ln M))) (va_runV (As := [.int 0, .int 1, .int 2]) (rest := []) ⟨hx, hb, hml, hown, hts⟩ (c_X11_bad0 l g m0 fd rfm rt_ to_ rw_ wa rk rb cn br sm as_ go sh_ ki tg of_ kp rs ta sz_ pl at_ fa fw cs ct ir oa ob (nI th) ig sp_ sf 1 2 H.size) (cwV 3 hts gX11_seen_X11_bad rfl rfl rfl (by decide +kernel) ⟨Nat.le_of_ble_eq_true rfl, Nat.le_of_ble_eq_true rfl⟩) (he_preV (wc := [(oX11 m0 0 ta sz_ pl at_ fa fw cs fd rfm rt_ to_ rw_ wa ct rk rb cn br sm as_ go sh_ ir oa ob (nI th) ig sp_ ki tg of_ kp sf rs)]) hK hP hD hS hA hE [0] rfl rfl 0 rfl rfl) rfl rfl hl.1 rfl (lv_room (Nat.le_of_ble_eq_true rfl)) dX11_seen_22 ⟨(Nat.le_of_ble_eq_true rfl), (Nat.le_of_ble_eq_true rfl)⟩) hP hD hS hA [0] (he_is [1] [(oX11 m0 0 ta sz_ pl at_ fa fw cs fd rfm rt_ to_ rw_ wa ct rk rb cn br sm as_ go sh_ ir oa ob (nI th) ig sp_ ki tg of_ kp sf rs), (aM g ki 4 (he_ro 4 r7))] (he_pl g L ln M)) rfl (he_ixP rfl) (he_ndP rfl rfl) (he_disN (by decide) rfl) (fun r_5 u_6 H locs h_7 hP hD hS => ?_)
    have hP := va_P.swap hP
    have hD := va_D.swap hD
    subst h_7
    have hP : va_P g.1 vwCl ([(aM g ki 4 (he_ro 4 r7)), (oX11 m0 0 ta sz_ pl at_ fa fw cs fd rfm rt_ to_ rw_ wa ct rk rb cn br sm as_ go sh_ ir oa ob (nI th) ig sp_ ki tg of_ kp sf rs)] ++ he_pl g L ln M) H := hP
    have hD : va_D A ([(aM g ki 4 (he_ro 4 r7)), (oX11 m0 0 ta sz_ pl at_ fa fw cs fd rfm rt_ to_ rw_ wa ct rk rb cn br sm as_ go sh_ ir oa ob (nI th) ig sp_ ki tg of_ kp sf rs)] ++ he_pl g L ln M) := hD
    refine lv_if_eq (tgt := 30) hx hb dX11_seen_25 (by decide) (fun c_8 => ?_) (fun c_8 => ?_)
    · refine lv_aload_n hx hb dX11_seen_30 rfl (lv_at hl 0 rfl) ?_
      refine lv_aload_n hx hb dX11_seen_31 rfl (lv_at hl 0 rfl) ?_
      refine va_get (v := .ref ki) (T := TX11) (N := 35) hx hb hts inX11 hown hK hP 1 rfl rfl 29 (by decide) f64 (fun _ h9 => h9) rfl dX11_seen_32 ?_
      refine lv_iload_n hx hb dX11_seen_35 rfl (lv_at hl 1 rfl) ?_
      refine he_aldm hx hb hK hP 0 rfl (x.toNatClampNeg) (he_within_nat (B := 3) rfl (by decide) hok0).1 (Nat.lt_of_le_of_lt (he_within_nat (B := 3) rfl (by decide) hok0).2 (by decide)) (by decide) dX11_seen_36 ?_
      refine lv_iconst (v := 0) hx hb dX11_seen_37 (by decide) ?_
      refine he_pald hx hb hK hP (F_r7 x.toNatClampNeg (Nat.lt_of_le_of_lt (he_within_nat (B := 3) rfl (by decide) hok0).2 (by decide))).1 (0) (by decide) (by rw [(F_r7 x.toNatClampNeg (Nat.lt_of_le_of_lt (he_within_nat (B := 3) rfl (by decide) hok0).2 (by decide))).2.1]; exact (by decide)) (by rw [(F_r7 x.toNatClampNeg (Nat.lt_of_le_of_lt (he_within_nat (B := 3) rfl (by decide) hok0).2 (by decide))).2.1]; decide) (M (r7 x.toNatClampNeg) 0) rfl dX11_seen_38 ?_
      refine lv_aload_n hx hb dX11_seen_39 rfl (lv_at hl 0 rfl) ?_
      refine va_get (v := .ref ki) (T := TX11) (N := 35) hx hb hts inX11 hown hK hP 1 rfl rfl 29 (by decide) f64 (fun _ h9 => h9) rfl dX11_seen_40 ?_
      refine lv_iload_n hx hb dX11_seen_43 rfl (lv_at hl 1 rfl) ?_
      refine he_aldm hx hb hK hP 0 rfl (x.toNatClampNeg) (he_within_nat (B := 3) rfl (by decide) hok0).1 (Nat.lt_of_le_of_lt (he_within_nat (B := 3) rfl (by decide) hok0).2 (by decide)) (by decide) dX11_seen_44 ?_
      refine lv_iconst (v := 1) hx hb dX11_seen_45 (by decide) ?_
      refine he_pald hx hb hK hP (F_r7 x.toNatClampNeg (Nat.lt_of_le_of_lt (he_within_nat (B := 3) rfl (by decide) hok0).2 (by decide))).1 (1) (by decide) (by rw [(F_r7 x.toNatClampNeg (Nat.lt_of_le_of_lt (he_within_nat (B := 3) rfl (by decide) hok0).2 (by decide))).2.1]; exact (by decide)) (by rw [(F_r7 x.toNatClampNeg (Nat.lt_of_le_of_lt (he_within_nat (B := 3) rfl (by decide) hok0).2 (by decide))).2.1]; decide) (M (r7 x.toNatClampNeg) 1) rfl dX11_seen_46 ?_
      refine he_ci (wc := [(oX11 m0 0 ta sz_ pl at_ fa fw cs fd rfm rt_ to_ rw_ wa ct rk rb cn br sm as_ go sh_ ir oa ob (nI th) ig sp_ ki tg of_ kp sf rs)]) (wr := ([(aM g ki 4 (he_ro 4 r7))] ++ (he_pl g L ln M))) (va_runV (As := [.int (M (r7 x.toNatClampNeg) 0), .int (M (r7 x.toNatClampNeg) 1)]) (rest := []) ⟨hx, hb, hml, hown, hts⟩ (h_X11_isSeenF l g m0 fd rfm rt_ to_ rw_ wa rk rb cn br sm as_ go sh_ ki tg of_ kp rs ta sz_ pl at_ fa fw cs ct ir oa ob ig sp_ sf 0 th (M (r7 x.toNatClampNeg) 0) (M (r7 x.toNatClampNeg) 1) (by first | assumption | decide | omega) H.size) (cwV 2 hts gX11_seen_X11_isSeen rfl rfl rfl (by decide +kernel) ⟨Nat.le_of_ble_eq_true rfl, Nat.le_of_ble_eq_true rfl⟩) (he_preV (wc := [(oX11 m0 0 ta sz_ pl at_ fa fw cs fd rfm rt_ to_ rw_ wa ct rk rb cn br sm as_ go sh_ ir oa ob (nI th) ig sp_ ki tg of_ kp sf rs)]) hK hP hD hS hA hE [1] rfl rfl 1 rfl rfl) rfl rfl hl.1 rfl (lv_room (Nat.le_of_ble_eq_true rfl)) dX11_seen_47 ⟨(Nat.le_of_ble_eq_true rfl), (Nat.le_of_ble_eq_true rfl)⟩) hP hD hS hA [1] (he_is [0] [(aM g ki 4 (he_ro 4 r7)), (oX11 m0 0 ta sz_ pl at_ fa fw cs fd rfm rt_ to_ rw_ wa ct rk rb cn br sm as_ go sh_ ir oa ob (nI th) ig sp_ ki tg of_ kp sf rs)] (he_pl g L ln M)) rfl (he_ixP rfl) (he_ndP rfl rfl) (he_disN (by decide) rfl) (fun r_9 u_10 H locs h_11 hP hD hS => ?_)
      have hP := va_P.swap hP
      have hD := va_D.swap hD
      subst h_11
      have hP : va_P g.1 vwCl ([(aM g ki 4 (he_ro 4 r7)), (oX11 m0 0 ta sz_ pl at_ fa fw cs fd rfm rt_ to_ rw_ wa ct rk rb cn br sm as_ go sh_ ir oa ob (nI th) ig sp_ ki tg of_ kp sf rs)] ++ he_pl g L ln M) H := hP
      have hD : va_D A ([(aM g ki 4 (he_ro 4 r7)), (oX11 m0 0 ta sz_ pl at_ fa fw cs fd rfm rt_ to_ rw_ wa ct rk rb cn br sm as_ go sh_ ir oa ob (nI th) ig sp_ ki tg of_ kp sf rs)] ++ he_pl g L ln M) := hD
      have hP := he_Psub (X := [(aM g ki 4 (he_ro 4 r7)), (oX11 m0 0 ta sz_ pl at_ fa fw cs fd rfm rt_ to_ rw_ wa ct rk rb cn br sm as_ go sh_ ir oa ob (nI th) ig sp_ ki tg of_ kp sf rs)]) (X2 := [(oX11 m0 0 ta sz_ pl at_ fa fw cs fd rfm rt_ to_ rw_ wa ct rk rb cn br sm as_ go sh_ ir oa ob (nI th) ig sp_ ki tg of_ kp sf rs), (aM g ki 4 (he_ro 4 r7))]) (P := (he_pl g L ln M)) hP [1, 0] rfl
      have hD := he_Dsub (X := [(aM g ki 4 (he_ro 4 r7)), (oX11 m0 0 ta sz_ pl at_ fa fw cs fd rfm rt_ to_ rw_ wa ct rk rb cn br sm as_ go sh_ ir oa ob (nI th) ig sp_ ki tg of_ kp sf rs)]) (X2 := [(oX11 m0 0 ta sz_ pl at_ fa fw cs fd rfm rt_ to_ rw_ wa ct rk rb cn br sm as_ go sh_ ir oa ob (nI th) ig sp_ ki tg of_ kp sf rs), (aM g ki 4 (he_ro 4 r7))]) (P := (he_pl g L ln M)) hD [1, 0] rfl rfl rfl
      exact he_ri hQ hx hb hr hlk hP hD hS dX11_seen_50 (Nat.le_of_ble_eq_true rfl) (Nat.le_of_ble_eq_true rfl) (()) (rfl) (rfl)
    · exact absurd (by decide) c_8
  · exact absurd c_4 (by decide)
set_option maxHeartbeats 4000000 in
set_option maxRecDepth 100000 in
theorem h_X11_spy0 (l : Launch) (g : he_G) (m0 : Nat) (fd : Nat) (rfm : Nat) (rt_ : Nat) (to_ : Nat) (rw_ : Nat) (wa : Nat) (rk : Nat) (rb : Nat) (cn : Nat) (br : Nat) (sm : Nat) (as_ : Nat) (go : Nat) (sh_ : Nat) (ki : Nat) (tg : Nat) (of_ : Nat) (kp : Nat) (rs : Nat) (ta : Int32) (sz_ : Int32) (pl : Int32) (at_ : Int32) (fa : Int32) (fw : Int32) (cs : Int32) (ct : Int32) (ir : Int32) (oa : Int32) (ob : Int32) (ig : Int32) (sp_ : Int32) (sf : Int32) (tw : Int32) (th : Nat) (L : List Nat) (ln : Nat → Nat) (M : Nat → Nat → Int32) (r8 : Nat → Nat) (x : Int32) (F_r8 : ∀ i, i < 12 → r8 i ∈ L ∧ ln (r8 i) = 2 ∧ True) (hok0 : ¬ he_within x 1 15 = 0) (hth : th < 12) : he_I l yX11_spy wsX11_spy 1 23 0 0 g [.ref m0, .int 0, .int x] ([(oX11 m0 tw ta sz_ pl at_ fa fw cs fd rfm rt_ to_ rw_ wa ct rk rb cn br sm as_ go sh_ ir oa ob (nI th) ig sp_ ki tg of_ kp sf rs), (aM g tg 12 (he_ro 12 r8))] ++ he_pl g L ln M) (fun (r : Int32) (u : Nat → Nat → Int32) => r = nI (th + 1) ∧ u = va_up M (r8 th) (upd (upd (M (r8 th)) 0 (16 - x)) 1 (x))) (fun (u : Nat → Nat → Int32) => [(oX11 m0 0 ta sz_ pl at_ fa fw cs fd rfm rt_ to_ rw_ wa ct rk rb cn br sm as_ go sh_ ir oa ob (nI (th + 1)) ig sp_ ki tg of_ kp sf rs), (aM g tg 12 (he_ro 12 r8))] ++ he_pl g L ln u) := by
  refine he_begin (l := l) (g := g) (y := yX11_spy) (wl := wsX11_spy) (fr := 1) (lo := 23) (mc := 0) (ms := 0) (av := [.ref m0, .int 0, .int x]) (ws := ([(oX11 m0 tw ta sz_ pl at_ fa fw cs fd rfm rt_ to_ rw_ wa ct rk rb cn br sm as_ go sh_ ir oa ob (nI th) ig sp_ ki tg of_ kp sf rs), (aM g tg 12 (he_ro 12 r8))] ++ he_pl g L ln M)) (cc := cX11_spy) (maxL := 3) (ret := (some .int)) (fun A => va_Qi (fun (r : Int32) (u : Nat → Nat → Int32) => r = nI (th + 1) ∧ u = va_up M (r8 th) (upd (upd (M (r8 th)) 0 (16 - x)) 1 (x))) (fun u t => he_post g A ((fun (u : Nat → Nat → Int32) => [(oX11 m0 0 ta sz_ pl at_ fa fw cs fd rfm rt_ to_ rw_ wa ct rk rb cn br sm as_ go sh_ ir oa ob (nI (th + 1)) ig sp_ ki tg of_ kp sf rs), (aM g tg 12 (he_ro 12 r8))] ++ he_pl g L ln u) u) t) A) (by decide) rfl (Nat.le_of_ble_eq_true rfl) ?_
  intro p e s m args below meth c A ls H locs Q hQ hB
  obtain ⟨hx, hb, hr, hml, hown, hts, hlk, hin, hP, hK, hD, hS, hA, hE, hl⟩ := hB
  have hl : lv_has ls 3 [(0, .ref m0), (1, .int 0), (2, .int x)] := hl
  have f85 := hts (.fieldLink RX11 85 "HiredEnemyModel" "thrown" "I") (iwoX11_spy (k := 0) rfl)
  have inX11 : ∀ w ∈ wsX110, w ∈ wsX11_spy := innX11_spy_X11
  refine lv_aload_n hx hb dX11_spy_0 rfl (lv_at hl 0 rfl) ?_
  refine lv_iconst (v := 0) hx hb dX11_spy_1 (by decide) ?_
  refine va_put (v := .int 0) (ty := .int) (T := TX11) (N := 35) hx hb hts inX11 tyX11 tyX11_ok nmX11 hown hK hP hD hS 0 rfl rfl 0 (by decide) f85 (fun _ h9 => h9) rfl (by decide +kernel) rfl rfl (Nat.le_of_ble_eq_true rfl) dX11_spy_2 (fun H locs hP hD hS => ?_)
  have hP : va_P g.1 vwCl ([(oX11 m0 0 ta sz_ pl at_ fa fw cs fd rfm rt_ to_ rw_ wa ct rk rb cn br sm as_ go sh_ ir oa ob (nI th) ig sp_ ki tg of_ kp sf rs), (aM g tg 12 (he_ro 12 r8))] ++ he_pl g L ln M) H := hP
  have hD : va_D A ([(oX11 m0 0 ta sz_ pl at_ fa fw cs fd rfm rt_ to_ rw_ wa ct rk rb cn br sm as_ go sh_ ir oa ob (nI th) ig sp_ ki tg of_ kp sf rs), (aM g tg 12 (he_ro 12 r8))] ++ he_pl g L ln M) := hD
  refine lv_aload_n hx hb dX11_spy_5 rfl (lv_at hl 0 rfl) ?_
  refine lv_iload_n hx hb dX11_spy_6 rfl (lv_at hl 2 rfl) ?_
  refine lv_iconst (v := 1) hx hb dX11_spy_7 (by decide) ?_
  refine lv_bipush (v := 15) hx hb dX11_spy_8 (by decide) ?_
  refine he_ci (wc := []) (wr := ([(oX11 m0 0 ta sz_ pl at_ fa fw cs fd rfm rt_ to_ rw_ wa ct rk rb cn br sm as_ go sh_ ir oa ob (nI th) ig sp_ ki tg of_ kp sf rs), (aM g tg 12 (he_ro 12 r8))] ++ (he_pl g L ln M))) (va_runS (As := [.int x, .int 1, .int 15]) (rest := [.ref m0]) ⟨hx, hb, hml, hown, hts⟩ (c_X11_in l g x 1 15 H.size) (va_cwS 3 hts gX11_spy_X11_in rfl rfl rfl (by decide +kernel) ⟨Nat.le_of_ble_eq_true rfl, Nat.le_of_ble_eq_true rfl⟩) (he_preS (wc := []) hK hP hD hS hA hE [] rfl rfl) rfl rfl hl.1 rfl (lv_room (Nat.le_of_ble_eq_true rfl)) dX11_spy_10 ⟨(Nat.le_of_ble_eq_true rfl), (Nat.le_of_ble_eq_true rfl)⟩) hP hD hS hA [] (he_is [0, 1] [(oX11 m0 0 ta sz_ pl at_ fa fw cs fd rfm rt_ to_ rw_ wa ct rk rb cn br sm as_ go sh_ ir oa ob (nI th) ig sp_ ki tg of_ kp sf rs), (aM g tg 12 (he_ro 12 r8))] (he_pl g L ln M)) rfl (he_ixP rfl) (he_ndP rfl rfl) (he_disN (by decide) rfl) (fun r_1 u_2 H locs h_3 hP hD hS => ?_)
  have hP := va_P.swap hP
  have hD := va_D.swap hD
  subst h_3
  have hP : va_P g.1 vwCl ([(oX11 m0 0 ta sz_ pl at_ fa fw cs fd rfm rt_ to_ rw_ wa ct rk rb cn br sm as_ go sh_ ir oa ob (nI th) ig sp_ ki tg of_ kp sf rs), (aM g tg 12 (he_ro 12 r8))] ++ he_pl g L ln M) H := hP
  have hD : va_D A ([(oX11 m0 0 ta sz_ pl at_ fa fw cs fd rfm rt_ to_ rw_ wa ct rk rb cn br sm as_ go sh_ ir oa ob (nI th) ig sp_ ki tg of_ kp sf rs), (aM g tg 12 (he_ro 12 r8))] ++ he_pl g L ln M) := hD
  refine he_top (1) (he_within_1 hok0) ?_
  refine lv_if_ne (tgt := 20) hx hb dX11_spy_13 (by decide) (fun c_4 => ?_) (fun c_4 => ?_)
  · refine lv_iconst (v := 0) hx hb dX11_spy_20 (by decide) ?_
    refine lv_iconst (v := 1) hx hb dX11_spy_21 (by decide) ?_
    refine lv_iconst (v := 2) hx hb dX11_spy_22 (by decide) ?_
    refine he_ci (wc := [(oX11 m0 0 ta sz_ pl at_ fa fw cs fd rfm rt_ to_ rw_ wa ct rk rb cn br sm as_ go sh_ ir oa ob (nI th) ig sp_ ki tg of_ kp sf rs)]) (wr := ([(aM g tg 12 (he_ro 12 r8))] ++ (he_pl g L ln M))) (va_runV (As := [.int 0, .int 1, .int 2]) (rest := []) ⟨hx, hb, hml, hown, hts⟩ (c_X11_bad0 l g m0 fd rfm rt_ to_ rw_ wa rk rb cn br sm as_ go sh_ ki tg of_ kp rs ta sz_ pl at_ fa fw cs ct ir oa ob (nI th) ig sp_ sf 1 2 H.size) (cwV 3 hts gX11_spy_X11_bad rfl rfl rfl (by decide +kernel) ⟨Nat.le_of_ble_eq_true rfl, Nat.le_of_ble_eq_true rfl⟩) (he_preV (wc := [(oX11 m0 0 ta sz_ pl at_ fa fw cs fd rfm rt_ to_ rw_ wa ct rk rb cn br sm as_ go sh_ ir oa ob (nI th) ig sp_ ki tg of_ kp sf rs)]) hK hP hD hS hA hE [0] rfl rfl 0 rfl rfl) rfl rfl hl.1 rfl (lv_room (Nat.le_of_ble_eq_true rfl)) dX11_spy_23 ⟨(Nat.le_of_ble_eq_true rfl), (Nat.le_of_ble_eq_true rfl)⟩) hP hD hS hA [0] (he_is [1] [(oX11 m0 0 ta sz_ pl at_ fa fw cs fd rfm rt_ to_ rw_ wa ct rk rb cn br sm as_ go sh_ ir oa ob (nI th) ig sp_ ki tg of_ kp sf rs), (aM g tg 12 (he_ro 12 r8))] (he_pl g L ln M)) rfl (he_ixP rfl) (he_ndP rfl rfl) (he_disN (by decide) rfl) (fun r_5 u_6 H locs h_7 hP hD hS => ?_)
    have hP := va_P.swap hP
    have hD := va_D.swap hD
    subst h_7
    have hP : va_P g.1 vwCl ([(aM g tg 12 (he_ro 12 r8)), (oX11 m0 0 ta sz_ pl at_ fa fw cs fd rfm rt_ to_ rw_ wa ct rk rb cn br sm as_ go sh_ ir oa ob (nI th) ig sp_ ki tg of_ kp sf rs)] ++ he_pl g L ln M) H := hP
    have hD : va_D A ([(aM g tg 12 (he_ro 12 r8)), (oX11 m0 0 ta sz_ pl at_ fa fw cs fd rfm rt_ to_ rw_ wa ct rk rb cn br sm as_ go sh_ ir oa ob (nI th) ig sp_ ki tg of_ kp sf rs)] ++ he_pl g L ln M) := hD
    refine lv_if_eq (tgt := 31) hx hb dX11_spy_26 (by decide) (fun c_8 => ?_) (fun c_8 => ?_)
    · refine lv_aload_n hx hb dX11_spy_31 rfl (lv_at hl 0 rfl) ?_
      refine lv_iload_n hx hb dX11_spy_32 rfl (lv_at hl 1 rfl) ?_
      refine lv_if_eq (tgt := 40) hx hb dX11_spy_33 (by decide) (fun c_9 => ?_) (fun c_9 => ?_)
      · refine lv_bipush (v := 16) hx hb dX11_spy_40 (by decide) ?_
        refine lv_iload_n hx hb dX11_spy_42 rfl (lv_at hl 2 rfl) ?_
        refine lv_isub hx hb dX11_spy_43 ?_
        refine lv_iload_n hx hb dX11_spy_44 rfl (lv_at hl 1 rfl) ?_
        refine lv_if_eq (tgt := 55) hx hb dX11_spy_45 (by decide) (fun c_10 => ?_) (fun c_10 => ?_)
        · refine lv_iload_n hx hb dX11_spy_55 rfl (lv_at hl 2 rfl) ?_
          refine he_ci (wc := ([(oX11 m0 0 ta sz_ pl at_ fa fw cs fd rfm rt_ to_ rw_ wa ct rk rb cn br sm as_ go sh_ ir oa ob (nI th) ig sp_ ki tg of_ kp sf rs), (aM g tg 12 (he_ro 12 r8))] ++ (he_pl g L ln M))) (wr := []) (va_runV (As := [.int (16 - x), .int x]) (rest := []) ⟨hx, hb, hml, hown, hts⟩ (h_X11_isSeen l g m0 fd rfm rt_ to_ rw_ wa rk rb cn br sm as_ go sh_ ki tg of_ kp rs ta sz_ pl at_ fa fw cs ct ir oa ob ig sp_ sf 0 th L ln M r8 (16 - x) x (by first | assumption | decide | omega) (by first | assumption | decide | omega) H.size) (cwV 2 hts gX11_spy_X11_isSeen rfl rfl rfl (by decide +kernel) ⟨Nat.le_of_ble_eq_true rfl, Nat.le_of_ble_eq_true rfl⟩) (he_preV (wc := ([(oX11 m0 0 ta sz_ pl at_ fa fw cs fd rfm rt_ to_ rw_ wa ct rk rb cn br sm as_ go sh_ ir oa ob (nI th) ig sp_ ki tg of_ kp sf rs), (aM g tg 12 (he_ro 12 r8))] ++ (he_pl g L ln M))) hK hP hD hS hA hE (he_is [1, 0] [(aM g tg 12 (he_ro 12 r8)), (oX11 m0 0 ta sz_ pl at_ fa fw cs fd rfm rt_ to_ rw_ wa ct rk rb cn br sm as_ go sh_ ir oa ob (nI th) ig sp_ ki tg of_ kp sf rs)] (he_pl g L ln M)) (he_ixP rfl) (he_ndP rfl rfl) 1 rfl rfl) rfl rfl hl.1 rfl (lv_room (Nat.le_of_ble_eq_true rfl)) dX11_spy_56 ⟨(Nat.le_of_ble_eq_true rfl), (Nat.le_of_ble_eq_true rfl)⟩) hP hD hS hA (he_is [1, 0] [(aM g tg 12 (he_ro 12 r8)), (oX11 m0 0 ta sz_ pl at_ fa fw cs fd rfm rt_ to_ rw_ wa ct rk rb cn br sm as_ go sh_ ir oa ob (nI th) ig sp_ ki tg of_ kp sf rs)] (he_pl g L ln M)) [] (he_ixP rfl) rfl rfl (he_disP (by decide) rfl) (fun r_11 u_12 H locs h_13 hP hD hS => ?_)
          obtain ⟨Mu_14, rfl⟩ : ∃ z, z = u_12 := ⟨_, rfl⟩
          try dsimp only at h_13
          obtain ⟨rfl, hf_15⟩ := h_13
          have hP : va_P g.1 vwCl ([(oX11 m0 0 ta sz_ pl at_ fa fw cs fd rfm rt_ to_ rw_ wa ct rk rb cn br sm as_ go sh_ ir oa ob (nI (th + 1)) ig sp_ ki tg of_ kp sf rs), (aM g tg 12 (he_ro 12 r8))] ++ he_pl g L ln Mu_14) H := hP
          have hD : va_D A ([(oX11 m0 0 ta sz_ pl at_ fa fw cs fd rfm rt_ to_ rw_ wa ct rk rb cn br sm as_ go sh_ ir oa ob (nI (th + 1)) ig sp_ ki tg of_ kp sf rs), (aM g tg 12 (he_ro 12 r8))] ++ he_pl g L ln Mu_14) := hD
          exact he_ri hQ hx hb hr hlk hP hD hS dX11_spy_59 (Nat.le_of_ble_eq_true rfl) (Nat.le_of_ble_eq_true rfl) (Mu_14) (rfl) (⟨rfl, hf_15⟩)
        · exact absurd (by decide) c_10
      · exact absurd (by decide) c_9
    · exact absurd (by decide) c_8
  · exact absurd c_4 (by decide)
set_option maxHeartbeats 4000000 in
set_option maxRecDepth 100000 in
theorem h_X11_spyF0 (l : Launch) (g : he_G) (m0 : Nat) (fd : Nat) (rfm : Nat) (rt_ : Nat) (to_ : Nat) (rw_ : Nat) (wa : Nat) (rk : Nat) (rb : Nat) (cn : Nat) (br : Nat) (sm : Nat) (as_ : Nat) (go : Nat) (sh_ : Nat) (ki : Nat) (tg : Nat) (of_ : Nat) (kp : Nat) (rs : Nat) (ta : Int32) (sz_ : Int32) (pl : Int32) (at_ : Int32) (fa : Int32) (fw : Int32) (cs : Int32) (ct : Int32) (ir : Int32) (oa : Int32) (ob : Int32) (ig : Int32) (sp_ : Int32) (sf : Int32) (tw : Int32) (th : Nat) (x : Int32) (hok0 : ¬ he_within x 1 15 = 0) (hth : th = 12) : he_I l yX11_spy wsX11_spy 1 23 0 0 g [.ref m0, .int 0, .int x] [(oX11 m0 tw ta sz_ pl at_ fa fw cs fd rfm rt_ to_ rw_ wa ct rk rb cn br sm as_ go sh_ ir oa ob (nI th) ig sp_ ki tg of_ kp sf rs)] (fun (r : Int32) (u : Unit) => r = (-1)) (fun (u : Unit) => [(oX11 m0 0 ta sz_ pl at_ fa fw cs fd rfm rt_ to_ rw_ wa ct rk rb cn br sm as_ go sh_ ir oa ob (nI th) ig sp_ ki tg of_ kp sf rs)]) := by
  refine he_begin (l := l) (g := g) (y := yX11_spy) (wl := wsX11_spy) (fr := 1) (lo := 23) (mc := 0) (ms := 0) (av := [.ref m0, .int 0, .int x]) (ws := [(oX11 m0 tw ta sz_ pl at_ fa fw cs fd rfm rt_ to_ rw_ wa ct rk rb cn br sm as_ go sh_ ir oa ob (nI th) ig sp_ ki tg of_ kp sf rs)]) (cc := cX11_spy) (maxL := 3) (ret := (some .int)) (fun A => va_Qi (fun (r : Int32) (u : Unit) => r = (-1)) (fun u t => he_post g A ((fun (u : Unit) => [(oX11 m0 0 ta sz_ pl at_ fa fw cs fd rfm rt_ to_ rw_ wa ct rk rb cn br sm as_ go sh_ ir oa ob (nI th) ig sp_ ki tg of_ kp sf rs)]) u) t) A) (by decide) rfl (Nat.le_of_ble_eq_true rfl) ?_
  intro p e s m args below meth c A ls H locs Q hQ hB
  obtain ⟨hx, hb, hr, hml, hown, hts, hlk, hin, hP, hK, hD, hS, hA, hE, hl⟩ := hB
  have hl : lv_has ls 3 [(0, .ref m0), (1, .int 0), (2, .int x)] := hl
  have f85 := hts (.fieldLink RX11 85 "HiredEnemyModel" "thrown" "I") (iwoX11_spy (k := 0) rfl)
  have inX11 : ∀ w ∈ wsX110, w ∈ wsX11_spy := innX11_spy_X11
  refine lv_aload_n hx hb dX11_spy_0 rfl (lv_at hl 0 rfl) ?_
  refine lv_iconst (v := 0) hx hb dX11_spy_1 (by decide) ?_
  refine va_put (v := .int 0) (ty := .int) (T := TX11) (N := 35) hx hb hts inX11 tyX11 tyX11_ok nmX11 hown hK hP hD hS 0 rfl rfl 0 (by decide) f85 (fun _ h9 => h9) rfl (by decide +kernel) rfl rfl (Nat.le_of_ble_eq_true rfl) dX11_spy_2 (fun H locs hP hD hS => ?_)
  have hP : va_P g.1 vwCl [(oX11 m0 0 ta sz_ pl at_ fa fw cs fd rfm rt_ to_ rw_ wa ct rk rb cn br sm as_ go sh_ ir oa ob (nI th) ig sp_ ki tg of_ kp sf rs)] H := hP
  have hD : va_D A [(oX11 m0 0 ta sz_ pl at_ fa fw cs fd rfm rt_ to_ rw_ wa ct rk rb cn br sm as_ go sh_ ir oa ob (nI th) ig sp_ ki tg of_ kp sf rs)] := hD
  refine lv_aload_n hx hb dX11_spy_5 rfl (lv_at hl 0 rfl) ?_
  refine lv_iload_n hx hb dX11_spy_6 rfl (lv_at hl 2 rfl) ?_
  refine lv_iconst (v := 1) hx hb dX11_spy_7 (by decide) ?_
  refine lv_bipush (v := 15) hx hb dX11_spy_8 (by decide) ?_
  refine he_ci (wc := []) (wr := [(oX11 m0 0 ta sz_ pl at_ fa fw cs fd rfm rt_ to_ rw_ wa ct rk rb cn br sm as_ go sh_ ir oa ob (nI th) ig sp_ ki tg of_ kp sf rs)]) (va_runS (As := [.int x, .int 1, .int 15]) (rest := [.ref m0]) ⟨hx, hb, hml, hown, hts⟩ (c_X11_in l g x 1 15 H.size) (va_cwS 3 hts gX11_spy_X11_in rfl rfl rfl (by decide +kernel) ⟨Nat.le_of_ble_eq_true rfl, Nat.le_of_ble_eq_true rfl⟩) (he_preS (wc := []) hK hP hD hS hA hE [] rfl rfl) rfl rfl hl.1 rfl (lv_room (Nat.le_of_ble_eq_true rfl)) dX11_spy_10 ⟨(Nat.le_of_ble_eq_true rfl), (Nat.le_of_ble_eq_true rfl)⟩) hP hD hS hA [] [0] rfl rfl rfl (by decide) (fun r_1 u_2 H locs h_3 hP hD hS => ?_)
  subst h_3
  have hP : va_P g.1 vwCl [(oX11 m0 0 ta sz_ pl at_ fa fw cs fd rfm rt_ to_ rw_ wa ct rk rb cn br sm as_ go sh_ ir oa ob (nI th) ig sp_ ki tg of_ kp sf rs)] H := hP
  have hD : va_D A [(oX11 m0 0 ta sz_ pl at_ fa fw cs fd rfm rt_ to_ rw_ wa ct rk rb cn br sm as_ go sh_ ir oa ob (nI th) ig sp_ ki tg of_ kp sf rs)] := hD
  refine he_top (1) (he_within_1 hok0) ?_
  refine lv_if_ne (tgt := 20) hx hb dX11_spy_13 (by decide) (fun c_4 => ?_) (fun c_4 => ?_)
  · refine lv_iconst (v := 0) hx hb dX11_spy_20 (by decide) ?_
    refine lv_iconst (v := 1) hx hb dX11_spy_21 (by decide) ?_
    refine lv_iconst (v := 2) hx hb dX11_spy_22 (by decide) ?_
    refine he_ci (wc := [(oX11 m0 0 ta sz_ pl at_ fa fw cs fd rfm rt_ to_ rw_ wa ct rk rb cn br sm as_ go sh_ ir oa ob (nI th) ig sp_ ki tg of_ kp sf rs)]) (wr := []) (va_runV (As := [.int 0, .int 1, .int 2]) (rest := []) ⟨hx, hb, hml, hown, hts⟩ (c_X11_bad0 l g m0 fd rfm rt_ to_ rw_ wa rk rb cn br sm as_ go sh_ ki tg of_ kp rs ta sz_ pl at_ fa fw cs ct ir oa ob (nI th) ig sp_ sf 1 2 H.size) (cwV 3 hts gX11_spy_X11_bad rfl rfl rfl (by decide +kernel) ⟨Nat.le_of_ble_eq_true rfl, Nat.le_of_ble_eq_true rfl⟩) (he_preV (wc := [(oX11 m0 0 ta sz_ pl at_ fa fw cs fd rfm rt_ to_ rw_ wa ct rk rb cn br sm as_ go sh_ ir oa ob (nI th) ig sp_ ki tg of_ kp sf rs)]) hK hP hD hS hA hE [0] rfl rfl 0 rfl rfl) rfl rfl hl.1 rfl (lv_room (Nat.le_of_ble_eq_true rfl)) dX11_spy_23 ⟨(Nat.le_of_ble_eq_true rfl), (Nat.le_of_ble_eq_true rfl)⟩) hP hD hS hA [0] [] rfl rfl rfl (by decide) (fun r_5 u_6 H locs h_7 hP hD hS => ?_)
    subst h_7
    have hP : va_P g.1 vwCl [(oX11 m0 0 ta sz_ pl at_ fa fw cs fd rfm rt_ to_ rw_ wa ct rk rb cn br sm as_ go sh_ ir oa ob (nI th) ig sp_ ki tg of_ kp sf rs)] H := hP
    have hD : va_D A [(oX11 m0 0 ta sz_ pl at_ fa fw cs fd rfm rt_ to_ rw_ wa ct rk rb cn br sm as_ go sh_ ir oa ob (nI th) ig sp_ ki tg of_ kp sf rs)] := hD
    refine lv_if_eq (tgt := 31) hx hb dX11_spy_26 (by decide) (fun c_8 => ?_) (fun c_8 => ?_)
    · refine lv_aload_n hx hb dX11_spy_31 rfl (lv_at hl 0 rfl) ?_
      refine lv_iload_n hx hb dX11_spy_32 rfl (lv_at hl 1 rfl) ?_
      refine lv_if_eq (tgt := 40) hx hb dX11_spy_33 (by decide) (fun c_9 => ?_) (fun c_9 => ?_)
      · refine lv_bipush (v := 16) hx hb dX11_spy_40 (by decide) ?_
        refine lv_iload_n hx hb dX11_spy_42 rfl (lv_at hl 2 rfl) ?_
        refine lv_isub hx hb dX11_spy_43 ?_
        refine lv_iload_n hx hb dX11_spy_44 rfl (lv_at hl 1 rfl) ?_
        refine lv_if_eq (tgt := 55) hx hb dX11_spy_45 (by decide) (fun c_10 => ?_) (fun c_10 => ?_)
        · refine lv_iload_n hx hb dX11_spy_55 rfl (lv_at hl 2 rfl) ?_
          refine he_ci (wc := [(oX11 m0 0 ta sz_ pl at_ fa fw cs fd rfm rt_ to_ rw_ wa ct rk rb cn br sm as_ go sh_ ir oa ob (nI th) ig sp_ ki tg of_ kp sf rs)]) (wr := []) (va_runV (As := [.int (16 - x), .int x]) (rest := []) ⟨hx, hb, hml, hown, hts⟩ (h_X11_isSeenF l g m0 fd rfm rt_ to_ rw_ wa rk rb cn br sm as_ go sh_ ki tg of_ kp rs ta sz_ pl at_ fa fw cs ct ir oa ob ig sp_ sf 0 th (16 - x) x (by first | assumption | decide | omega) H.size) (cwV 2 hts gX11_spy_X11_isSeen rfl rfl rfl (by decide +kernel) ⟨Nat.le_of_ble_eq_true rfl, Nat.le_of_ble_eq_true rfl⟩) (he_preV (wc := [(oX11 m0 0 ta sz_ pl at_ fa fw cs fd rfm rt_ to_ rw_ wa ct rk rb cn br sm as_ go sh_ ir oa ob (nI th) ig sp_ ki tg of_ kp sf rs)]) hK hP hD hS hA hE [0] rfl rfl 0 rfl rfl) rfl rfl hl.1 rfl (lv_room (Nat.le_of_ble_eq_true rfl)) dX11_spy_56 ⟨(Nat.le_of_ble_eq_true rfl), (Nat.le_of_ble_eq_true rfl)⟩) hP hD hS hA [0] [] rfl rfl rfl (by decide) (fun r_11 u_12 H locs h_13 hP hD hS => ?_)
          subst h_13
          have hP : va_P g.1 vwCl [(oX11 m0 0 ta sz_ pl at_ fa fw cs fd rfm rt_ to_ rw_ wa ct rk rb cn br sm as_ go sh_ ir oa ob (nI th) ig sp_ ki tg of_ kp sf rs)] H := hP
          have hD : va_D A [(oX11 m0 0 ta sz_ pl at_ fa fw cs fd rfm rt_ to_ rw_ wa ct rk rb cn br sm as_ go sh_ ir oa ob (nI th) ig sp_ ki tg of_ kp sf rs)] := hD
          exact he_ri hQ hx hb hr hlk hP hD hS dX11_spy_59 (Nat.le_of_ble_eq_true rfl) (Nat.le_of_ble_eq_true rfl) (()) (rfl) (rfl)
        · exact absurd (by decide) c_10
      · exact absurd (by decide) c_9
    · exact absurd (by decide) c_8
  · exact absurd c_4 (by decide)
set_option maxHeartbeats 4000000 in
set_option maxRecDepth 100000 in
theorem h_X11_spy1 (l : Launch) (g : he_G) (m0 : Nat) (fd : Nat) (rfm : Nat) (rt_ : Nat) (to_ : Nat) (rw_ : Nat) (wa : Nat) (rk : Nat) (rb : Nat) (cn : Nat) (br : Nat) (sm : Nat) (as_ : Nat) (go : Nat) (sh_ : Nat) (ki : Nat) (tg : Nat) (of_ : Nat) (kp : Nat) (rs : Nat) (ta : Int32) (sz_ : Int32) (pl : Int32) (at_ : Int32) (fa : Int32) (fw : Int32) (cs : Int32) (ct : Int32) (ir : Int32) (oa : Int32) (ob : Int32) (ig : Int32) (sp_ : Int32) (sf : Int32) (tw : Int32) (th : Nat) (L : List Nat) (ln : Nat → Nat) (M : Nat → Nat → Int32) (r8 : Nat → Nat) (x : Int32) (F_r8 : ∀ i, i < 12 → r8 i ∈ L ∧ ln (r8 i) = 2 ∧ True) (hok0 : ¬ he_within x 1 15 = 0) (hth : th < 12) : he_I l yX11_spy wsX11_spy 1 23 0 0 g [.ref m0, .int 1, .int x] ([(oX11 m0 tw ta sz_ pl at_ fa fw cs fd rfm rt_ to_ rw_ wa ct rk rb cn br sm as_ go sh_ ir oa ob (nI th) ig sp_ ki tg of_ kp sf rs), (aM g tg 12 (he_ro 12 r8))] ++ he_pl g L ln M) (fun (r : Int32) (u : Nat → Nat → Int32) => r = nI (th + 1) ∧ u = va_up M (r8 th) (upd (upd (M (r8 th)) 0 (x)) 1 (16 - x))) (fun (u : Nat → Nat → Int32) => [(oX11 m0 0 ta sz_ pl at_ fa fw cs fd rfm rt_ to_ rw_ wa ct rk rb cn br sm as_ go sh_ ir oa ob (nI (th + 1)) ig sp_ ki tg of_ kp sf rs), (aM g tg 12 (he_ro 12 r8))] ++ he_pl g L ln u) := by
  refine he_begin (l := l) (g := g) (y := yX11_spy) (wl := wsX11_spy) (fr := 1) (lo := 23) (mc := 0) (ms := 0) (av := [.ref m0, .int 1, .int x]) (ws := ([(oX11 m0 tw ta sz_ pl at_ fa fw cs fd rfm rt_ to_ rw_ wa ct rk rb cn br sm as_ go sh_ ir oa ob (nI th) ig sp_ ki tg of_ kp sf rs), (aM g tg 12 (he_ro 12 r8))] ++ he_pl g L ln M)) (cc := cX11_spy) (maxL := 3) (ret := (some .int)) (fun A => va_Qi (fun (r : Int32) (u : Nat → Nat → Int32) => r = nI (th + 1) ∧ u = va_up M (r8 th) (upd (upd (M (r8 th)) 0 (x)) 1 (16 - x))) (fun u t => he_post g A ((fun (u : Nat → Nat → Int32) => [(oX11 m0 0 ta sz_ pl at_ fa fw cs fd rfm rt_ to_ rw_ wa ct rk rb cn br sm as_ go sh_ ir oa ob (nI (th + 1)) ig sp_ ki tg of_ kp sf rs), (aM g tg 12 (he_ro 12 r8))] ++ he_pl g L ln u) u) t) A) (by decide) rfl (Nat.le_of_ble_eq_true rfl) ?_
  intro p e s m args below meth c A ls H locs Q hQ hB
  obtain ⟨hx, hb, hr, hml, hown, hts, hlk, hin, hP, hK, hD, hS, hA, hE, hl⟩ := hB
  have hl : lv_has ls 3 [(0, .ref m0), (1, .int 1), (2, .int x)] := hl
  have f85 := hts (.fieldLink RX11 85 "HiredEnemyModel" "thrown" "I") (iwoX11_spy (k := 0) rfl)
  have inX11 : ∀ w ∈ wsX110, w ∈ wsX11_spy := innX11_spy_X11
  refine lv_aload_n hx hb dX11_spy_0 rfl (lv_at hl 0 rfl) ?_
  refine lv_iconst (v := 0) hx hb dX11_spy_1 (by decide) ?_
  refine va_put (v := .int 0) (ty := .int) (T := TX11) (N := 35) hx hb hts inX11 tyX11 tyX11_ok nmX11 hown hK hP hD hS 0 rfl rfl 0 (by decide) f85 (fun _ h9 => h9) rfl (by decide +kernel) rfl rfl (Nat.le_of_ble_eq_true rfl) dX11_spy_2 (fun H locs hP hD hS => ?_)
  have hP : va_P g.1 vwCl ([(oX11 m0 0 ta sz_ pl at_ fa fw cs fd rfm rt_ to_ rw_ wa ct rk rb cn br sm as_ go sh_ ir oa ob (nI th) ig sp_ ki tg of_ kp sf rs), (aM g tg 12 (he_ro 12 r8))] ++ he_pl g L ln M) H := hP
  have hD : va_D A ([(oX11 m0 0 ta sz_ pl at_ fa fw cs fd rfm rt_ to_ rw_ wa ct rk rb cn br sm as_ go sh_ ir oa ob (nI th) ig sp_ ki tg of_ kp sf rs), (aM g tg 12 (he_ro 12 r8))] ++ he_pl g L ln M) := hD
  refine lv_aload_n hx hb dX11_spy_5 rfl (lv_at hl 0 rfl) ?_
  refine lv_iload_n hx hb dX11_spy_6 rfl (lv_at hl 2 rfl) ?_
  refine lv_iconst (v := 1) hx hb dX11_spy_7 (by decide) ?_
  refine lv_bipush (v := 15) hx hb dX11_spy_8 (by decide) ?_
  refine he_ci (wc := []) (wr := ([(oX11 m0 0 ta sz_ pl at_ fa fw cs fd rfm rt_ to_ rw_ wa ct rk rb cn br sm as_ go sh_ ir oa ob (nI th) ig sp_ ki tg of_ kp sf rs), (aM g tg 12 (he_ro 12 r8))] ++ (he_pl g L ln M))) (va_runS (As := [.int x, .int 1, .int 15]) (rest := [.ref m0]) ⟨hx, hb, hml, hown, hts⟩ (c_X11_in l g x 1 15 H.size) (va_cwS 3 hts gX11_spy_X11_in rfl rfl rfl (by decide +kernel) ⟨Nat.le_of_ble_eq_true rfl, Nat.le_of_ble_eq_true rfl⟩) (he_preS (wc := []) hK hP hD hS hA hE [] rfl rfl) rfl rfl hl.1 rfl (lv_room (Nat.le_of_ble_eq_true rfl)) dX11_spy_10 ⟨(Nat.le_of_ble_eq_true rfl), (Nat.le_of_ble_eq_true rfl)⟩) hP hD hS hA [] (he_is [0, 1] [(oX11 m0 0 ta sz_ pl at_ fa fw cs fd rfm rt_ to_ rw_ wa ct rk rb cn br sm as_ go sh_ ir oa ob (nI th) ig sp_ ki tg of_ kp sf rs), (aM g tg 12 (he_ro 12 r8))] (he_pl g L ln M)) rfl (he_ixP rfl) (he_ndP rfl rfl) (he_disN (by decide) rfl) (fun r_1 u_2 H locs h_3 hP hD hS => ?_)
  have hP := va_P.swap hP
  have hD := va_D.swap hD
  subst h_3
  have hP : va_P g.1 vwCl ([(oX11 m0 0 ta sz_ pl at_ fa fw cs fd rfm rt_ to_ rw_ wa ct rk rb cn br sm as_ go sh_ ir oa ob (nI th) ig sp_ ki tg of_ kp sf rs), (aM g tg 12 (he_ro 12 r8))] ++ he_pl g L ln M) H := hP
  have hD : va_D A ([(oX11 m0 0 ta sz_ pl at_ fa fw cs fd rfm rt_ to_ rw_ wa ct rk rb cn br sm as_ go sh_ ir oa ob (nI th) ig sp_ ki tg of_ kp sf rs), (aM g tg 12 (he_ro 12 r8))] ++ he_pl g L ln M) := hD
  refine he_top (1) (he_within_1 hok0) ?_
  refine lv_if_ne (tgt := 20) hx hb dX11_spy_13 (by decide) (fun c_4 => ?_) (fun c_4 => ?_)
  · refine lv_iconst (v := 0) hx hb dX11_spy_20 (by decide) ?_
    refine lv_iconst (v := 1) hx hb dX11_spy_21 (by decide) ?_
    refine lv_iconst (v := 2) hx hb dX11_spy_22 (by decide) ?_
    refine he_ci (wc := [(oX11 m0 0 ta sz_ pl at_ fa fw cs fd rfm rt_ to_ rw_ wa ct rk rb cn br sm as_ go sh_ ir oa ob (nI th) ig sp_ ki tg of_ kp sf rs)]) (wr := ([(aM g tg 12 (he_ro 12 r8))] ++ (he_pl g L ln M))) (va_runV (As := [.int 0, .int 1, .int 2]) (rest := []) ⟨hx, hb, hml, hown, hts⟩ (c_X11_bad0 l g m0 fd rfm rt_ to_ rw_ wa rk rb cn br sm as_ go sh_ ki tg of_ kp rs ta sz_ pl at_ fa fw cs ct ir oa ob (nI th) ig sp_ sf 1 2 H.size) (cwV 3 hts gX11_spy_X11_bad rfl rfl rfl (by decide +kernel) ⟨Nat.le_of_ble_eq_true rfl, Nat.le_of_ble_eq_true rfl⟩) (he_preV (wc := [(oX11 m0 0 ta sz_ pl at_ fa fw cs fd rfm rt_ to_ rw_ wa ct rk rb cn br sm as_ go sh_ ir oa ob (nI th) ig sp_ ki tg of_ kp sf rs)]) hK hP hD hS hA hE [0] rfl rfl 0 rfl rfl) rfl rfl hl.1 rfl (lv_room (Nat.le_of_ble_eq_true rfl)) dX11_spy_23 ⟨(Nat.le_of_ble_eq_true rfl), (Nat.le_of_ble_eq_true rfl)⟩) hP hD hS hA [0] (he_is [1] [(oX11 m0 0 ta sz_ pl at_ fa fw cs fd rfm rt_ to_ rw_ wa ct rk rb cn br sm as_ go sh_ ir oa ob (nI th) ig sp_ ki tg of_ kp sf rs), (aM g tg 12 (he_ro 12 r8))] (he_pl g L ln M)) rfl (he_ixP rfl) (he_ndP rfl rfl) (he_disN (by decide) rfl) (fun r_5 u_6 H locs h_7 hP hD hS => ?_)
    have hP := va_P.swap hP
    have hD := va_D.swap hD
    subst h_7
    have hP : va_P g.1 vwCl ([(aM g tg 12 (he_ro 12 r8)), (oX11 m0 0 ta sz_ pl at_ fa fw cs fd rfm rt_ to_ rw_ wa ct rk rb cn br sm as_ go sh_ ir oa ob (nI th) ig sp_ ki tg of_ kp sf rs)] ++ he_pl g L ln M) H := hP
    have hD : va_D A ([(aM g tg 12 (he_ro 12 r8)), (oX11 m0 0 ta sz_ pl at_ fa fw cs fd rfm rt_ to_ rw_ wa ct rk rb cn br sm as_ go sh_ ir oa ob (nI th) ig sp_ ki tg of_ kp sf rs)] ++ he_pl g L ln M) := hD
    refine lv_if_eq (tgt := 31) hx hb dX11_spy_26 (by decide) (fun c_8 => ?_) (fun c_8 => ?_)
    · refine lv_aload_n hx hb dX11_spy_31 rfl (lv_at hl 0 rfl) ?_
      refine lv_iload_n hx hb dX11_spy_32 rfl (lv_at hl 1 rfl) ?_
      refine lv_if_eq (tgt := 40) hx hb dX11_spy_33 (by decide) (fun c_9 => ?_) (fun c_9 => ?_)
      · exact absurd c_9 (by decide)
      · refine lv_iload_n hx hb dX11_spy_36 rfl (lv_at hl 2 rfl) ?_
        refine lv_goto (tgt := 44) hx hb dX11_spy_37 (by decide) ?_
        refine lv_iload_n hx hb dX11_spy_44 rfl (lv_at hl 1 rfl) ?_
        refine lv_if_eq (tgt := 55) hx hb dX11_spy_45 (by decide) (fun c_10 => ?_) (fun c_10 => ?_)
        · exact absurd c_10 (by decide)
        · refine lv_bipush (v := 16) hx hb dX11_spy_48 (by decide) ?_
          refine lv_iload_n hx hb dX11_spy_50 rfl (lv_at hl 2 rfl) ?_
          refine lv_isub hx hb dX11_spy_51 ?_
          refine lv_goto (tgt := 56) hx hb dX11_spy_52 (by decide) ?_
          refine he_ci (wc := ([(oX11 m0 0 ta sz_ pl at_ fa fw cs fd rfm rt_ to_ rw_ wa ct rk rb cn br sm as_ go sh_ ir oa ob (nI th) ig sp_ ki tg of_ kp sf rs), (aM g tg 12 (he_ro 12 r8))] ++ (he_pl g L ln M))) (wr := []) (va_runV (As := [.int x, .int (16 - x)]) (rest := []) ⟨hx, hb, hml, hown, hts⟩ (h_X11_isSeen l g m0 fd rfm rt_ to_ rw_ wa rk rb cn br sm as_ go sh_ ki tg of_ kp rs ta sz_ pl at_ fa fw cs ct ir oa ob ig sp_ sf 0 th L ln M r8 x (16 - x) (by first | assumption | decide | omega) (by first | assumption | decide | omega) H.size) (cwV 2 hts gX11_spy_X11_isSeen rfl rfl rfl (by decide +kernel) ⟨Nat.le_of_ble_eq_true rfl, Nat.le_of_ble_eq_true rfl⟩) (he_preV (wc := ([(oX11 m0 0 ta sz_ pl at_ fa fw cs fd rfm rt_ to_ rw_ wa ct rk rb cn br sm as_ go sh_ ir oa ob (nI th) ig sp_ ki tg of_ kp sf rs), (aM g tg 12 (he_ro 12 r8))] ++ (he_pl g L ln M))) hK hP hD hS hA hE (he_is [1, 0] [(aM g tg 12 (he_ro 12 r8)), (oX11 m0 0 ta sz_ pl at_ fa fw cs fd rfm rt_ to_ rw_ wa ct rk rb cn br sm as_ go sh_ ir oa ob (nI th) ig sp_ ki tg of_ kp sf rs)] (he_pl g L ln M)) (he_ixP rfl) (he_ndP rfl rfl) 1 rfl rfl) rfl rfl hl.1 rfl (lv_room (Nat.le_of_ble_eq_true rfl)) dX11_spy_56 ⟨(Nat.le_of_ble_eq_true rfl), (Nat.le_of_ble_eq_true rfl)⟩) hP hD hS hA (he_is [1, 0] [(aM g tg 12 (he_ro 12 r8)), (oX11 m0 0 ta sz_ pl at_ fa fw cs fd rfm rt_ to_ rw_ wa ct rk rb cn br sm as_ go sh_ ir oa ob (nI th) ig sp_ ki tg of_ kp sf rs)] (he_pl g L ln M)) [] (he_ixP rfl) rfl rfl (he_disP (by decide) rfl) (fun r_11 u_12 H locs h_13 hP hD hS => ?_)
          obtain ⟨Mu_14, rfl⟩ : ∃ z, z = u_12 := ⟨_, rfl⟩
          try dsimp only at h_13
          obtain ⟨rfl, hf_15⟩ := h_13
          have hP : va_P g.1 vwCl ([(oX11 m0 0 ta sz_ pl at_ fa fw cs fd rfm rt_ to_ rw_ wa ct rk rb cn br sm as_ go sh_ ir oa ob (nI (th + 1)) ig sp_ ki tg of_ kp sf rs), (aM g tg 12 (he_ro 12 r8))] ++ he_pl g L ln Mu_14) H := hP
          have hD : va_D A ([(oX11 m0 0 ta sz_ pl at_ fa fw cs fd rfm rt_ to_ rw_ wa ct rk rb cn br sm as_ go sh_ ir oa ob (nI (th + 1)) ig sp_ ki tg of_ kp sf rs), (aM g tg 12 (he_ro 12 r8))] ++ he_pl g L ln Mu_14) := hD
          exact he_ri hQ hx hb hr hlk hP hD hS dX11_spy_59 (Nat.le_of_ble_eq_true rfl) (Nat.le_of_ble_eq_true rfl) (Mu_14) (rfl) (⟨rfl, hf_15⟩)
    · exact absurd (by decide) c_8
  · exact absurd c_4 (by decide)
set_option maxHeartbeats 4000000 in
set_option maxRecDepth 100000 in
theorem h_X11_spyF1 (l : Launch) (g : he_G) (m0 : Nat) (fd : Nat) (rfm : Nat) (rt_ : Nat) (to_ : Nat) (rw_ : Nat) (wa : Nat) (rk : Nat) (rb : Nat) (cn : Nat) (br : Nat) (sm : Nat) (as_ : Nat) (go : Nat) (sh_ : Nat) (ki : Nat) (tg : Nat) (of_ : Nat) (kp : Nat) (rs : Nat) (ta : Int32) (sz_ : Int32) (pl : Int32) (at_ : Int32) (fa : Int32) (fw : Int32) (cs : Int32) (ct : Int32) (ir : Int32) (oa : Int32) (ob : Int32) (ig : Int32) (sp_ : Int32) (sf : Int32) (tw : Int32) (th : Nat) (x : Int32) (hok0 : ¬ he_within x 1 15 = 0) (hth : th = 12) : he_I l yX11_spy wsX11_spy 1 23 0 0 g [.ref m0, .int 1, .int x] [(oX11 m0 tw ta sz_ pl at_ fa fw cs fd rfm rt_ to_ rw_ wa ct rk rb cn br sm as_ go sh_ ir oa ob (nI th) ig sp_ ki tg of_ kp sf rs)] (fun (r : Int32) (u : Unit) => r = (-1)) (fun (u : Unit) => [(oX11 m0 0 ta sz_ pl at_ fa fw cs fd rfm rt_ to_ rw_ wa ct rk rb cn br sm as_ go sh_ ir oa ob (nI th) ig sp_ ki tg of_ kp sf rs)]) := by
  refine he_begin (l := l) (g := g) (y := yX11_spy) (wl := wsX11_spy) (fr := 1) (lo := 23) (mc := 0) (ms := 0) (av := [.ref m0, .int 1, .int x]) (ws := [(oX11 m0 tw ta sz_ pl at_ fa fw cs fd rfm rt_ to_ rw_ wa ct rk rb cn br sm as_ go sh_ ir oa ob (nI th) ig sp_ ki tg of_ kp sf rs)]) (cc := cX11_spy) (maxL := 3) (ret := (some .int)) (fun A => va_Qi (fun (r : Int32) (u : Unit) => r = (-1)) (fun u t => he_post g A ((fun (u : Unit) => [(oX11 m0 0 ta sz_ pl at_ fa fw cs fd rfm rt_ to_ rw_ wa ct rk rb cn br sm as_ go sh_ ir oa ob (nI th) ig sp_ ki tg of_ kp sf rs)]) u) t) A) (by decide) rfl (Nat.le_of_ble_eq_true rfl) ?_
  intro p e s m args below meth c A ls H locs Q hQ hB
  obtain ⟨hx, hb, hr, hml, hown, hts, hlk, hin, hP, hK, hD, hS, hA, hE, hl⟩ := hB
  have hl : lv_has ls 3 [(0, .ref m0), (1, .int 1), (2, .int x)] := hl
  have f85 := hts (.fieldLink RX11 85 "HiredEnemyModel" "thrown" "I") (iwoX11_spy (k := 0) rfl)
  have inX11 : ∀ w ∈ wsX110, w ∈ wsX11_spy := innX11_spy_X11
  refine lv_aload_n hx hb dX11_spy_0 rfl (lv_at hl 0 rfl) ?_
  refine lv_iconst (v := 0) hx hb dX11_spy_1 (by decide) ?_
  refine va_put (v := .int 0) (ty := .int) (T := TX11) (N := 35) hx hb hts inX11 tyX11 tyX11_ok nmX11 hown hK hP hD hS 0 rfl rfl 0 (by decide) f85 (fun _ h9 => h9) rfl (by decide +kernel) rfl rfl (Nat.le_of_ble_eq_true rfl) dX11_spy_2 (fun H locs hP hD hS => ?_)
  have hP : va_P g.1 vwCl [(oX11 m0 0 ta sz_ pl at_ fa fw cs fd rfm rt_ to_ rw_ wa ct rk rb cn br sm as_ go sh_ ir oa ob (nI th) ig sp_ ki tg of_ kp sf rs)] H := hP
  have hD : va_D A [(oX11 m0 0 ta sz_ pl at_ fa fw cs fd rfm rt_ to_ rw_ wa ct rk rb cn br sm as_ go sh_ ir oa ob (nI th) ig sp_ ki tg of_ kp sf rs)] := hD
  refine lv_aload_n hx hb dX11_spy_5 rfl (lv_at hl 0 rfl) ?_
  refine lv_iload_n hx hb dX11_spy_6 rfl (lv_at hl 2 rfl) ?_
  refine lv_iconst (v := 1) hx hb dX11_spy_7 (by decide) ?_
  refine lv_bipush (v := 15) hx hb dX11_spy_8 (by decide) ?_
  refine he_ci (wc := []) (wr := [(oX11 m0 0 ta sz_ pl at_ fa fw cs fd rfm rt_ to_ rw_ wa ct rk rb cn br sm as_ go sh_ ir oa ob (nI th) ig sp_ ki tg of_ kp sf rs)]) (va_runS (As := [.int x, .int 1, .int 15]) (rest := [.ref m0]) ⟨hx, hb, hml, hown, hts⟩ (c_X11_in l g x 1 15 H.size) (va_cwS 3 hts gX11_spy_X11_in rfl rfl rfl (by decide +kernel) ⟨Nat.le_of_ble_eq_true rfl, Nat.le_of_ble_eq_true rfl⟩) (he_preS (wc := []) hK hP hD hS hA hE [] rfl rfl) rfl rfl hl.1 rfl (lv_room (Nat.le_of_ble_eq_true rfl)) dX11_spy_10 ⟨(Nat.le_of_ble_eq_true rfl), (Nat.le_of_ble_eq_true rfl)⟩) hP hD hS hA [] [0] rfl rfl rfl (by decide) (fun r_1 u_2 H locs h_3 hP hD hS => ?_)
  subst h_3
  have hP : va_P g.1 vwCl [(oX11 m0 0 ta sz_ pl at_ fa fw cs fd rfm rt_ to_ rw_ wa ct rk rb cn br sm as_ go sh_ ir oa ob (nI th) ig sp_ ki tg of_ kp sf rs)] H := hP
  have hD : va_D A [(oX11 m0 0 ta sz_ pl at_ fa fw cs fd rfm rt_ to_ rw_ wa ct rk rb cn br sm as_ go sh_ ir oa ob (nI th) ig sp_ ki tg of_ kp sf rs)] := hD
  refine he_top (1) (he_within_1 hok0) ?_
  refine lv_if_ne (tgt := 20) hx hb dX11_spy_13 (by decide) (fun c_4 => ?_) (fun c_4 => ?_)
  · refine lv_iconst (v := 0) hx hb dX11_spy_20 (by decide) ?_
    refine lv_iconst (v := 1) hx hb dX11_spy_21 (by decide) ?_
    refine lv_iconst (v := 2) hx hb dX11_spy_22 (by decide) ?_
    refine he_ci (wc := [(oX11 m0 0 ta sz_ pl at_ fa fw cs fd rfm rt_ to_ rw_ wa ct rk rb cn br sm as_ go sh_ ir oa ob (nI th) ig sp_ ki tg of_ kp sf rs)]) (wr := []) (va_runV (As := [.int 0, .int 1, .int 2]) (rest := []) ⟨hx, hb, hml, hown, hts⟩ (c_X11_bad0 l g m0 fd rfm rt_ to_ rw_ wa rk rb cn br sm as_ go sh_ ki tg of_ kp rs ta sz_ pl at_ fa fw cs ct ir oa ob (nI th) ig sp_ sf 1 2 H.size) (cwV 3 hts gX11_spy_X11_bad rfl rfl rfl (by decide +kernel) ⟨Nat.le_of_ble_eq_true rfl, Nat.le_of_ble_eq_true rfl⟩) (he_preV (wc := [(oX11 m0 0 ta sz_ pl at_ fa fw cs fd rfm rt_ to_ rw_ wa ct rk rb cn br sm as_ go sh_ ir oa ob (nI th) ig sp_ ki tg of_ kp sf rs)]) hK hP hD hS hA hE [0] rfl rfl 0 rfl rfl) rfl rfl hl.1 rfl (lv_room (Nat.le_of_ble_eq_true rfl)) dX11_spy_23 ⟨(Nat.le_of_ble_eq_true rfl), (Nat.le_of_ble_eq_true rfl)⟩) hP hD hS hA [0] [] rfl rfl rfl (by decide) (fun r_5 u_6 H locs h_7 hP hD hS => ?_)
    subst h_7
    have hP : va_P g.1 vwCl [(oX11 m0 0 ta sz_ pl at_ fa fw cs fd rfm rt_ to_ rw_ wa ct rk rb cn br sm as_ go sh_ ir oa ob (nI th) ig sp_ ki tg of_ kp sf rs)] H := hP
    have hD : va_D A [(oX11 m0 0 ta sz_ pl at_ fa fw cs fd rfm rt_ to_ rw_ wa ct rk rb cn br sm as_ go sh_ ir oa ob (nI th) ig sp_ ki tg of_ kp sf rs)] := hD
    refine lv_if_eq (tgt := 31) hx hb dX11_spy_26 (by decide) (fun c_8 => ?_) (fun c_8 => ?_)
    · refine lv_aload_n hx hb dX11_spy_31 rfl (lv_at hl 0 rfl) ?_
      refine lv_iload_n hx hb dX11_spy_32 rfl (lv_at hl 1 rfl) ?_
      refine lv_if_eq (tgt := 40) hx hb dX11_spy_33 (by decide) (fun c_9 => ?_) (fun c_9 => ?_)
      · exact absurd c_9 (by decide)
      · refine lv_iload_n hx hb dX11_spy_36 rfl (lv_at hl 2 rfl) ?_
        refine lv_goto (tgt := 44) hx hb dX11_spy_37 (by decide) ?_
        refine lv_iload_n hx hb dX11_spy_44 rfl (lv_at hl 1 rfl) ?_
        refine lv_if_eq (tgt := 55) hx hb dX11_spy_45 (by decide) (fun c_10 => ?_) (fun c_10 => ?_)
        · exact absurd c_10 (by decide)
        · refine lv_bipush (v := 16) hx hb dX11_spy_48 (by decide) ?_
          refine lv_iload_n hx hb dX11_spy_50 rfl (lv_at hl 2 rfl) ?_
          refine lv_isub hx hb dX11_spy_51 ?_
          refine lv_goto (tgt := 56) hx hb dX11_spy_52 (by decide) ?_
          refine he_ci (wc := [(oX11 m0 0 ta sz_ pl at_ fa fw cs fd rfm rt_ to_ rw_ wa ct rk rb cn br sm as_ go sh_ ir oa ob (nI th) ig sp_ ki tg of_ kp sf rs)]) (wr := []) (va_runV (As := [.int x, .int (16 - x)]) (rest := []) ⟨hx, hb, hml, hown, hts⟩ (h_X11_isSeenF l g m0 fd rfm rt_ to_ rw_ wa rk rb cn br sm as_ go sh_ ki tg of_ kp rs ta sz_ pl at_ fa fw cs ct ir oa ob ig sp_ sf 0 th x (16 - x) (by first | assumption | decide | omega) H.size) (cwV 2 hts gX11_spy_X11_isSeen rfl rfl rfl (by decide +kernel) ⟨Nat.le_of_ble_eq_true rfl, Nat.le_of_ble_eq_true rfl⟩) (he_preV (wc := [(oX11 m0 0 ta sz_ pl at_ fa fw cs fd rfm rt_ to_ rw_ wa ct rk rb cn br sm as_ go sh_ ir oa ob (nI th) ig sp_ ki tg of_ kp sf rs)]) hK hP hD hS hA hE [0] rfl rfl 0 rfl rfl) rfl rfl hl.1 rfl (lv_room (Nat.le_of_ble_eq_true rfl)) dX11_spy_56 ⟨(Nat.le_of_ble_eq_true rfl), (Nat.le_of_ble_eq_true rfl)⟩) hP hD hS hA [0] [] rfl rfl rfl (by decide) (fun r_11 u_12 H locs h_13 hP hD hS => ?_)
          subst h_13
          have hP : va_P g.1 vwCl [(oX11 m0 0 ta sz_ pl at_ fa fw cs fd rfm rt_ to_ rw_ wa ct rk rb cn br sm as_ go sh_ ir oa ob (nI th) ig sp_ ki tg of_ kp sf rs)] H := hP
          have hD : va_D A [(oX11 m0 0 ta sz_ pl at_ fa fw cs fd rfm rt_ to_ rw_ wa ct rk rb cn br sm as_ go sh_ ir oa ob (nI th) ig sp_ ki tg of_ kp sf rs)] := hD
          exact he_ri hQ hx hb hr hlk hP hD hS dX11_spy_59 (Nat.le_of_ble_eq_true rfl) (Nat.le_of_ble_eq_true rfl) (()) (rfl) (rfl)
    · exact absurd (by decide) c_8
  · exact absurd c_4 (by decide)
end
section

set_option maxHeartbeats 4000000 in
set_option maxRecDepth 100000 in
theorem h_X11_status (l : Launch) (g : he_G) (m0 : Nat) (fd : Nat) (rfm : Nat) (rt_ : Nat) (to_ : Nat) (rw_ : Nat) (wa : Nat) (rk : Nat) (rb : Nat) (cn : Nat) (br : Nat) (sm : Nat) (as_ : Nat) (go : Nat) (sh_ : Nat) (ki : Nat) (tg : Nat) (of_ : Nat) (kp : Nat) (rs : Nat) (ta : Int32) (sz_ : Int32) (pl : Int32) (at_ : Int32) (fa : Int32) (fw : Int32) (cs : Int32) (ct : Int32) (ir : Int32) (oa : Int32) (ob : Int32) (th : Int32) (ig : Int32) (sp_ : Int32) (sf : Int32) (tw : Int32) (rc : Nat → Int32) (x : Int32) (hok0 : ¬ he_within x 0 2 = 0) : he_I l yX11_status wsX11_status 1 22 0 0 g [.ref m0, .int x] [(oX11 m0 tw ta sz_ pl at_ fa fw cs fd rfm rt_ to_ rw_ wa ct rk rb cn br sm as_ go sh_ ir oa ob th ig sp_ ki tg of_ kp sf rs), (aI g rfm 3 rc)] (fun (r : Int32) (u : Unit) => r = rc x.toNatClampNeg) (fun (u : Unit) => [(oX11 m0 0 ta sz_ pl at_ fa fw cs fd rfm rt_ to_ rw_ wa ct rk rb cn br sm as_ go sh_ ir oa ob th ig sp_ ki tg of_ kp sf rs), (aI g rfm 3 rc)]) := by
  refine he_begin (l := l) (g := g) (y := yX11_status) (wl := wsX11_status) (fr := 1) (lo := 22) (mc := 0) (ms := 0) (av := [.ref m0, .int x]) (ws := [(oX11 m0 tw ta sz_ pl at_ fa fw cs fd rfm rt_ to_ rw_ wa ct rk rb cn br sm as_ go sh_ ir oa ob th ig sp_ ki tg of_ kp sf rs), (aI g rfm 3 rc)]) (cc := cX11_status) (maxL := 2) (ret := (some .int)) (fun A => va_Qi (fun (r : Int32) (u : Unit) => r = rc x.toNatClampNeg) (fun u t => he_post g A ((fun (u : Unit) => [(oX11 m0 0 ta sz_ pl at_ fa fw cs fd rfm rt_ to_ rw_ wa ct rk rb cn br sm as_ go sh_ ir oa ob th ig sp_ ki tg of_ kp sf rs), (aI g rfm 3 rc)]) u) t) A) (by decide) rfl (Nat.le_of_ble_eq_true rfl) ?_
  intro p e s m args below meth c A ls H locs Q hQ hB
  obtain ⟨hx, hb, hr, hml, hown, hts, hlk, hin, hP, hK, hD, hS, hA, hE, hl⟩ := hB
  have hl : lv_has ls 2 [(0, .ref m0), (1, .int x)] := hl
  have f85 := hts (.fieldLink RX11 85 "HiredEnemyModel" "thrown" "I") (iwoX11_status (k := 0) rfl)
  have inX11 : ∀ w ∈ wsX110, w ∈ wsX11_status := innX11_status_X11
  have f17 := hts (.fieldLink RX11 17 "HiredEnemyModel" "refused" "[I") (iwoX11_status (k := 1) rfl)
  refine lv_aload_n hx hb dX11_status_0 rfl (lv_at hl 0 rfl) ?_
  refine lv_iconst (v := 0) hx hb dX11_status_1 (by decide) ?_
  refine va_put (v := .int 0) (ty := .int) (T := TX11) (N := 35) hx hb hts inX11 tyX11 tyX11_ok nmX11 hown hK hP hD hS 0 rfl rfl 0 (by decide) f85 (fun _ h9 => h9) rfl (by decide +kernel) rfl rfl (Nat.le_of_ble_eq_true rfl) dX11_status_2 (fun H locs hP hD hS => ?_)
  have hP : va_P g.1 vwCl [(oX11 m0 0 ta sz_ pl at_ fa fw cs fd rfm rt_ to_ rw_ wa ct rk rb cn br sm as_ go sh_ ir oa ob th ig sp_ ki tg of_ kp sf rs), (aI g rfm 3 rc)] H := hP
  have hD : va_D A [(oX11 m0 0 ta sz_ pl at_ fa fw cs fd rfm rt_ to_ rw_ wa ct rk rb cn br sm as_ go sh_ ir oa ob th ig sp_ ki tg of_ kp sf rs), (aI g rfm 3 rc)] := hD
  refine lv_iload_n hx hb dX11_status_5 rfl (lv_at hl 1 rfl) ?_
  refine lv_iconst (v := 0) hx hb dX11_status_6 (by decide) ?_
  refine lv_iconst (v := 2) hx hb dX11_status_7 (by decide) ?_
  refine he_ci (wc := []) (wr := [(oX11 m0 0 ta sz_ pl at_ fa fw cs fd rfm rt_ to_ rw_ wa ct rk rb cn br sm as_ go sh_ ir oa ob th ig sp_ ki tg of_ kp sf rs), (aI g rfm 3 rc)]) (va_runS (As := [.int x, .int 0, .int 2]) (rest := []) ⟨hx, hb, hml, hown, hts⟩ (c_X11_in l g x 0 2 H.size) (va_cwS 3 hts gX11_status_X11_in rfl rfl rfl (by decide +kernel) ⟨Nat.le_of_ble_eq_true rfl, Nat.le_of_ble_eq_true rfl⟩) (he_preS (wc := []) hK hP hD hS hA hE [] rfl rfl) rfl rfl hl.1 rfl (lv_room (Nat.le_of_ble_eq_true rfl)) dX11_status_8 ⟨(Nat.le_of_ble_eq_true rfl), (Nat.le_of_ble_eq_true rfl)⟩) hP hD hS hA [] [0, 1] rfl rfl rfl (by decide) (fun r_1 u_2 H locs h_3 hP hD hS => ?_)
  subst h_3
  have hP : va_P g.1 vwCl [(oX11 m0 0 ta sz_ pl at_ fa fw cs fd rfm rt_ to_ rw_ wa ct rk rb cn br sm as_ go sh_ ir oa ob th ig sp_ ki tg of_ kp sf rs), (aI g rfm 3 rc)] H := hP
  have hD : va_D A [(oX11 m0 0 ta sz_ pl at_ fa fw cs fd rfm rt_ to_ rw_ wa ct rk rb cn br sm as_ go sh_ ir oa ob th ig sp_ ki tg of_ kp sf rs), (aI g rfm 3 rc)] := hD
  refine he_top (1) (he_within_1 hok0) ?_
  refine lv_if_eq (tgt := 23) hx hb dX11_status_11 (by decide) (fun c_4 => ?_) (fun c_4 => ?_)
  · exact absurd c_4 (by decide)
  · refine lv_aload_n hx hb dX11_status_14 rfl (lv_at hl 0 rfl) ?_
    refine va_get (v := .ref rfm) (T := TX11) (N := 35) hx hb hts inX11 hown hK hP 0 rfl rfl 9 (by decide) f17 (fun _ h9 => h9) rfl dX11_status_15 ?_
    refine lv_iload_n hx hb dX11_status_18 rfl (lv_at hl 1 rfl) ?_
    refine he_iald hx hb hK hP 1 rfl (x.toNatClampNeg) (he_within_nat (B := 2) rfl (by decide) hok0).1 (Nat.lt_of_le_of_lt (he_within_nat (B := 2) rfl (by decide) hok0).2 (by decide)) (by first | decide | assumption) (rc x.toNatClampNeg) rfl dX11_status_19 ?_
    refine lv_goto (tgt := 24) hx hb dX11_status_20 (by decide) ?_
    exact he_ri hQ hx hb hr hlk hP hD hS dX11_status_24 (Nat.le_of_ble_eq_true rfl) (Nat.le_of_ble_eq_true rfl) (()) (rfl) (rfl)
set_option maxHeartbeats 4000000 in
set_option maxRecDepth 100000 in
theorem h_X11_statusN (l : Launch) (g : he_G) (m0 : Nat) (fd : Nat) (rfm : Nat) (rt_ : Nat) (to_ : Nat) (rw_ : Nat) (wa : Nat) (rk : Nat) (rb : Nat) (cn : Nat) (br : Nat) (sm : Nat) (as_ : Nat) (go : Nat) (sh_ : Nat) (ki : Nat) (tg : Nat) (of_ : Nat) (kp : Nat) (rs : Nat) (ta : Int32) (sz_ : Int32) (pl : Int32) (at_ : Int32) (fa : Int32) (fw : Int32) (cs : Int32) (ct : Int32) (ir : Int32) (oa : Int32) (ob : Int32) (th : Int32) (ig : Int32) (sp_ : Int32) (sf : Int32) (tw : Int32) (x : Int32) (hno : he_within x 0 2 = 0) : he_I l yX11_status wsX11_status 1 22 0 0 g [.ref m0, .int x] [(oX11 m0 tw ta sz_ pl at_ fa fw cs fd rfm rt_ to_ rw_ wa ct rk rb cn br sm as_ go sh_ ir oa ob th ig sp_ ki tg of_ kp sf rs)] (fun (r : Int32) (u : Unit) => r = (-1)) (fun (u : Unit) => [(oX11 m0 0 ta sz_ pl at_ fa fw cs fd rfm rt_ to_ rw_ wa ct rk rb cn br sm as_ go sh_ ir oa ob th ig sp_ ki tg of_ kp sf rs)]) := by
  refine he_begin (l := l) (g := g) (y := yX11_status) (wl := wsX11_status) (fr := 1) (lo := 22) (mc := 0) (ms := 0) (av := [.ref m0, .int x]) (ws := [(oX11 m0 tw ta sz_ pl at_ fa fw cs fd rfm rt_ to_ rw_ wa ct rk rb cn br sm as_ go sh_ ir oa ob th ig sp_ ki tg of_ kp sf rs)]) (cc := cX11_status) (maxL := 2) (ret := (some .int)) (fun A => va_Qi (fun (r : Int32) (u : Unit) => r = (-1)) (fun u t => he_post g A ((fun (u : Unit) => [(oX11 m0 0 ta sz_ pl at_ fa fw cs fd rfm rt_ to_ rw_ wa ct rk rb cn br sm as_ go sh_ ir oa ob th ig sp_ ki tg of_ kp sf rs)]) u) t) A) (by decide) rfl (Nat.le_of_ble_eq_true rfl) ?_
  intro p e s m args below meth c A ls H locs Q hQ hB
  obtain ⟨hx, hb, hr, hml, hown, hts, hlk, hin, hP, hK, hD, hS, hA, hE, hl⟩ := hB
  have hl : lv_has ls 2 [(0, .ref m0), (1, .int x)] := hl
  have f85 := hts (.fieldLink RX11 85 "HiredEnemyModel" "thrown" "I") (iwoX11_status (k := 0) rfl)
  have inX11 : ∀ w ∈ wsX110, w ∈ wsX11_status := innX11_status_X11
  refine lv_aload_n hx hb dX11_status_0 rfl (lv_at hl 0 rfl) ?_
  refine lv_iconst (v := 0) hx hb dX11_status_1 (by decide) ?_
  refine va_put (v := .int 0) (ty := .int) (T := TX11) (N := 35) hx hb hts inX11 tyX11 tyX11_ok nmX11 hown hK hP hD hS 0 rfl rfl 0 (by decide) f85 (fun _ h9 => h9) rfl (by decide +kernel) rfl rfl (Nat.le_of_ble_eq_true rfl) dX11_status_2 (fun H locs hP hD hS => ?_)
  have hP : va_P g.1 vwCl [(oX11 m0 0 ta sz_ pl at_ fa fw cs fd rfm rt_ to_ rw_ wa ct rk rb cn br sm as_ go sh_ ir oa ob th ig sp_ ki tg of_ kp sf rs)] H := hP
  have hD : va_D A [(oX11 m0 0 ta sz_ pl at_ fa fw cs fd rfm rt_ to_ rw_ wa ct rk rb cn br sm as_ go sh_ ir oa ob th ig sp_ ki tg of_ kp sf rs)] := hD
  refine lv_iload_n hx hb dX11_status_5 rfl (lv_at hl 1 rfl) ?_
  refine lv_iconst (v := 0) hx hb dX11_status_6 (by decide) ?_
  refine lv_iconst (v := 2) hx hb dX11_status_7 (by decide) ?_
  refine he_ci (wc := []) (wr := [(oX11 m0 0 ta sz_ pl at_ fa fw cs fd rfm rt_ to_ rw_ wa ct rk rb cn br sm as_ go sh_ ir oa ob th ig sp_ ki tg of_ kp sf rs)]) (va_runS (As := [.int x, .int 0, .int 2]) (rest := []) ⟨hx, hb, hml, hown, hts⟩ (c_X11_in l g x 0 2 H.size) (va_cwS 3 hts gX11_status_X11_in rfl rfl rfl (by decide +kernel) ⟨Nat.le_of_ble_eq_true rfl, Nat.le_of_ble_eq_true rfl⟩) (he_preS (wc := []) hK hP hD hS hA hE [] rfl rfl) rfl rfl hl.1 rfl (lv_room (Nat.le_of_ble_eq_true rfl)) dX11_status_8 ⟨(Nat.le_of_ble_eq_true rfl), (Nat.le_of_ble_eq_true rfl)⟩) hP hD hS hA [] [0] rfl rfl rfl (by decide) (fun r_1 u_2 H locs h_3 hP hD hS => ?_)
  subst h_3
  have hP : va_P g.1 vwCl [(oX11 m0 0 ta sz_ pl at_ fa fw cs fd rfm rt_ to_ rw_ wa ct rk rb cn br sm as_ go sh_ ir oa ob th ig sp_ ki tg of_ kp sf rs)] H := hP
  have hD : va_D A [(oX11 m0 0 ta sz_ pl at_ fa fw cs fd rfm rt_ to_ rw_ wa ct rk rb cn br sm as_ go sh_ ir oa ob th ig sp_ ki tg of_ kp sf rs)] := hD
  refine he_top (0) hno ?_
  refine lv_if_eq (tgt := 23) hx hb dX11_status_11 (by decide) (fun c_4 => ?_) (fun c_4 => ?_)
  · refine lv_iconst (v := (-1)) hx hb dX11_status_23 (by decide) ?_
    exact he_ri hQ hx hb hr hlk hP hD hS dX11_status_24 (Nat.le_of_ble_eq_true rfl) (Nat.le_of_ble_eq_true rfl) (()) (rfl) (rfl)
  · exact absurd (by decide) c_4
set_option maxHeartbeats 4000000 in
set_option maxRecDepth 100000 in
theorem h_X11_count0 (l : Launch) (g : he_G) (m0 : Nat) (fd : Nat) (rfm : Nat) (rt_ : Nat) (to_ : Nat) (rw_ : Nat) (wa : Nat) (rk : Nat) (rb : Nat) (cn : Nat) (br : Nat) (sm : Nat) (as_ : Nat) (go : Nat) (sh_ : Nat) (ki : Nat) (tg : Nat) (of_ : Nat) (kp : Nat) (rs : Nat) (ta : Int32) (sz_ : Int32) (pl : Int32) (at_ : Int32) (fa : Int32) (fw : Int32) (cs : Int32) (ct : Int32) (ir : Int32) (oa : Int32) (ob : Int32) (th : Int32) (ig : Int32) (sp_ : Int32) (sf : Int32) (tw : Int32)  : he_I l yX11_count wsX11_count 0 0 0 0 g [.ref m0, .int 0] [(oX11 m0 tw ta sz_ pl at_ fa fw cs fd rfm rt_ to_ rw_ wa ct rk rb cn br sm as_ go sh_ ir oa ob th ig sp_ ki tg of_ kp sf rs)] (fun (r : Int32) (u : Unit) => r = ig) (fun (u : Unit) => [(oX11 m0 0 ta sz_ pl at_ fa fw cs fd rfm rt_ to_ rw_ wa ct rk rb cn br sm as_ go sh_ ir oa ob th ig sp_ ki tg of_ kp sf rs)]) := by
  refine he_begin (l := l) (g := g) (y := yX11_count) (wl := wsX11_count) (fr := 0) (lo := 0) (mc := 0) (ms := 0) (av := [.ref m0, .int 0]) (ws := [(oX11 m0 tw ta sz_ pl at_ fa fw cs fd rfm rt_ to_ rw_ wa ct rk rb cn br sm as_ go sh_ ir oa ob th ig sp_ ki tg of_ kp sf rs)]) (cc := cX11_count) (maxL := 2) (ret := (some .int)) (fun A => va_Qi (fun (r : Int32) (u : Unit) => r = ig) (fun u t => he_post g A ((fun (u : Unit) => [(oX11 m0 0 ta sz_ pl at_ fa fw cs fd rfm rt_ to_ rw_ wa ct rk rb cn br sm as_ go sh_ ir oa ob th ig sp_ ki tg of_ kp sf rs)]) u) t) A) (by decide) rfl (Nat.le_of_ble_eq_true rfl) ?_
  intro p e s m args below meth c A ls H locs Q hQ hB
  obtain ⟨hx, hb, hr, hml, hown, hts, hlk, hin, hP, hK, hD, hS, hA, hE, hl⟩ := hB
  have hl : lv_has ls 2 [(0, .ref m0), (1, .int 0)] := hl
  have f85 := hts (.fieldLink RX11 85 "HiredEnemyModel" "thrown" "I") (iwoX11_count (k := 0) rfl)
  have inX11 : ∀ w ∈ wsX110, w ∈ wsX11_count := innX11_count_X11
  have f168 := hts (.fieldLink RX11 168 "HiredEnemyModel" "images" "I") (iwoX11_count (k := 1) rfl)
  refine lv_aload_n hx hb dX11_count_0 rfl (lv_at hl 0 rfl) ?_
  refine lv_iconst (v := 0) hx hb dX11_count_1 (by decide) ?_
  refine va_put (v := .int 0) (ty := .int) (T := TX11) (N := 35) hx hb hts inX11 tyX11 tyX11_ok nmX11 hown hK hP hD hS 0 rfl rfl 0 (by decide) f85 (fun _ h9 => h9) rfl (by decide +kernel) rfl rfl (Nat.le_of_ble_eq_true rfl) dX11_count_2 (fun H locs hP hD hS => ?_)
  have hP : va_P g.1 vwCl [(oX11 m0 0 ta sz_ pl at_ fa fw cs fd rfm rt_ to_ rw_ wa ct rk rb cn br sm as_ go sh_ ir oa ob th ig sp_ ki tg of_ kp sf rs)] H := hP
  have hD : va_D A [(oX11 m0 0 ta sz_ pl at_ fa fw cs fd rfm rt_ to_ rw_ wa ct rk rb cn br sm as_ go sh_ ir oa ob th ig sp_ ki tg of_ kp sf rs)] := hD
  refine lv_iload_n hx hb dX11_count_5 rfl (lv_at hl 1 rfl) ?_
  refine lv_if_ne (tgt := 16) hx hb dX11_count_6 (by decide) (fun c_1 => ?_) (fun c_1 => ?_)
  · exact absurd (by decide) c_1
  · refine lv_aload_n hx hb dX11_count_9 rfl (lv_at hl 0 rfl) ?_
    refine va_get (v := .int ig) (T := TX11) (N := 35) hx hb hts inX11 hown hK hP 0 rfl rfl 27 (by decide) f168 (fun _ h9 => h9) rfl dX11_count_10 ?_
    refine lv_goto (tgt := 41) hx hb dX11_count_13 (by decide) ?_
    exact he_ri hQ hx hb hr hlk hP hD hS dX11_count_41 (Nat.le_of_ble_eq_true rfl) (Nat.le_of_ble_eq_true rfl) (()) (rfl) (rfl)
set_option maxHeartbeats 4000000 in
set_option maxRecDepth 100000 in
theorem h_X11_count1 (l : Launch) (g : he_G) (m0 : Nat) (fd : Nat) (rfm : Nat) (rt_ : Nat) (to_ : Nat) (rw_ : Nat) (wa : Nat) (rk : Nat) (rb : Nat) (cn : Nat) (br : Nat) (sm : Nat) (as_ : Nat) (go : Nat) (sh_ : Nat) (ki : Nat) (tg : Nat) (of_ : Nat) (kp : Nat) (rs : Nat) (ta : Int32) (sz_ : Int32) (pl : Int32) (at_ : Int32) (fa : Int32) (fw : Int32) (cs : Int32) (ct : Int32) (ir : Int32) (oa : Int32) (ob : Int32) (th : Int32) (ig : Int32) (sp_ : Int32) (sf : Int32) (tw : Int32)  : he_I l yX11_count wsX11_count 0 0 0 0 g [.ref m0, .int 1] [(oX11 m0 tw ta sz_ pl at_ fa fw cs fd rfm rt_ to_ rw_ wa ct rk rb cn br sm as_ go sh_ ir oa ob th ig sp_ ki tg of_ kp sf rs)] (fun (r : Int32) (u : Unit) => r = ta) (fun (u : Unit) => [(oX11 m0 0 ta sz_ pl at_ fa fw cs fd rfm rt_ to_ rw_ wa ct rk rb cn br sm as_ go sh_ ir oa ob th ig sp_ ki tg of_ kp sf rs)]) := by
  refine he_begin (l := l) (g := g) (y := yX11_count) (wl := wsX11_count) (fr := 0) (lo := 0) (mc := 0) (ms := 0) (av := [.ref m0, .int 1]) (ws := [(oX11 m0 tw ta sz_ pl at_ fa fw cs fd rfm rt_ to_ rw_ wa ct rk rb cn br sm as_ go sh_ ir oa ob th ig sp_ ki tg of_ kp sf rs)]) (cc := cX11_count) (maxL := 2) (ret := (some .int)) (fun A => va_Qi (fun (r : Int32) (u : Unit) => r = ta) (fun u t => he_post g A ((fun (u : Unit) => [(oX11 m0 0 ta sz_ pl at_ fa fw cs fd rfm rt_ to_ rw_ wa ct rk rb cn br sm as_ go sh_ ir oa ob th ig sp_ ki tg of_ kp sf rs)]) u) t) A) (by decide) rfl (Nat.le_of_ble_eq_true rfl) ?_
  intro p e s m args below meth c A ls H locs Q hQ hB
  obtain ⟨hx, hb, hr, hml, hown, hts, hlk, hin, hP, hK, hD, hS, hA, hE, hl⟩ := hB
  have hl : lv_has ls 2 [(0, .ref m0), (1, .int 1)] := hl
  have f85 := hts (.fieldLink RX11 85 "HiredEnemyModel" "thrown" "I") (iwoX11_count (k := 0) rfl)
  have inX11 : ∀ w ∈ wsX110, w ∈ wsX11_count := innX11_count_X11
  have f88 := hts (.fieldLink RX11 88 "HiredEnemyModel" "tape" "I") (iwoX11_count (k := 2) rfl)
  refine lv_aload_n hx hb dX11_count_0 rfl (lv_at hl 0 rfl) ?_
  refine lv_iconst (v := 0) hx hb dX11_count_1 (by decide) ?_
  refine va_put (v := .int 0) (ty := .int) (T := TX11) (N := 35) hx hb hts inX11 tyX11 tyX11_ok nmX11 hown hK hP hD hS 0 rfl rfl 0 (by decide) f85 (fun _ h9 => h9) rfl (by decide +kernel) rfl rfl (Nat.le_of_ble_eq_true rfl) dX11_count_2 (fun H locs hP hD hS => ?_)
  have hP : va_P g.1 vwCl [(oX11 m0 0 ta sz_ pl at_ fa fw cs fd rfm rt_ to_ rw_ wa ct rk rb cn br sm as_ go sh_ ir oa ob th ig sp_ ki tg of_ kp sf rs)] H := hP
  have hD : va_D A [(oX11 m0 0 ta sz_ pl at_ fa fw cs fd rfm rt_ to_ rw_ wa ct rk rb cn br sm as_ go sh_ ir oa ob th ig sp_ ki tg of_ kp sf rs)] := hD
  refine lv_iload_n hx hb dX11_count_5 rfl (lv_at hl 1 rfl) ?_
  refine lv_if_ne (tgt := 16) hx hb dX11_count_6 (by decide) (fun c_1 => ?_) (fun c_1 => ?_)
  · refine lv_iload_n hx hb dX11_count_16 rfl (lv_at hl 1 rfl) ?_
    refine lv_iconst (v := 1) hx hb dX11_count_17 (by decide) ?_
    refine lv_icmp_ne (tgt := 28) hx hb dX11_count_18 (by decide) (fun c_2 => ?_) (fun c_2 => ?_)
    · exact absurd (by decide) c_2
    · refine lv_aload_n hx hb dX11_count_21 rfl (lv_at hl 0 rfl) ?_
      refine va_get (v := .int ta) (T := TX11) (N := 35) hx hb hts inX11 hown hK hP 0 rfl rfl 1 (by decide) f88 (fun _ h9 => h9) rfl dX11_count_22 ?_
      refine lv_goto (tgt := 41) hx hb dX11_count_25 (by decide) ?_
      exact he_ri hQ hx hb hr hlk hP hD hS dX11_count_41 (Nat.le_of_ble_eq_true rfl) (Nat.le_of_ble_eq_true rfl) (()) (rfl) (rfl)
  · exact absurd c_1 (by decide)
end
section
set_option maxHeartbeats 4000000 in
set_option maxRecDepth 100000 in
theorem h_X11_count2 (l : Launch) (g : he_G) (m0 : Nat) (fd : Nat) (rfm : Nat) (rt_ : Nat) (to_ : Nat) (rw_ : Nat) (wa : Nat) (rk : Nat) (rb : Nat) (cn : Nat) (br : Nat) (sm : Nat) (as_ : Nat) (go : Nat) (sh_ : Nat) (ki : Nat) (tg : Nat) (of_ : Nat) (kp : Nat) (rs : Nat) (ta : Int32) (sz_ : Int32) (pl : Int32) (at_ : Int32) (fa : Int32) (fw : Int32) (cs : Int32) (ct : Int32) (ir : Int32) (oa : Int32) (ob : Int32) (th : Int32) (ig : Int32) (sp_ : Int32) (sf : Int32) (tw : Int32)  : he_I l yX11_count wsX11_count 0 0 0 0 g [.ref m0, .int 2] [(oX11 m0 tw ta sz_ pl at_ fa fw cs fd rfm rt_ to_ rw_ wa ct rk rb cn br sm as_ go sh_ ir oa ob th ig sp_ ki tg of_ kp sf rs)] (fun (r : Int32) (u : Unit) => r = th) (fun (u : Unit) => [(oX11 m0 0 ta sz_ pl at_ fa fw cs fd rfm rt_ to_ rw_ wa ct rk rb cn br sm as_ go sh_ ir oa ob th ig sp_ ki tg of_ kp sf rs)]) := by
  refine he_begin (l := l) (g := g) (y := yX11_count) (wl := wsX11_count) (fr := 0) (lo := 0) (mc := 0) (ms := 0) (av := [.ref m0, .int 2]) (ws := [(oX11 m0 tw ta sz_ pl at_ fa fw cs fd rfm rt_ to_ rw_ wa ct rk rb cn br sm as_ go sh_ ir oa ob th ig sp_ ki tg of_ kp sf rs)]) (cc := cX11_count) (maxL := 2) (ret := (some .int)) (fun A => va_Qi (fun (r : Int32) (u : Unit) => r = th) (fun u t => he_post g A ((fun (u : Unit) => [(oX11 m0 0 ta sz_ pl at_ fa fw cs fd rfm rt_ to_ rw_ wa ct rk rb cn br sm as_ go sh_ ir oa ob th ig sp_ ki tg of_ kp sf rs)]) u) t) A) (by decide) rfl (Nat.le_of_ble_eq_true rfl) ?_
  intro p e s m args below meth c A ls H locs Q hQ hB
  obtain ⟨hx, hb, hr, hml, hown, hts, hlk, hin, hP, hK, hD, hS, hA, hE, hl⟩ := hB
  have hl : lv_has ls 2 [(0, .ref m0), (1, .int 2)] := hl
  have f85 := hts (.fieldLink RX11 85 "HiredEnemyModel" "thrown" "I") (iwoX11_count (k := 0) rfl)
  have inX11 : ∀ w ∈ wsX110, w ∈ wsX11_count := innX11_count_X11
  have f165 := hts (.fieldLink RX11 165 "HiredEnemyModel" "things" "I") (iwoX11_count (k := 3) rfl)
  refine lv_aload_n hx hb dX11_count_0 rfl (lv_at hl 0 rfl) ?_
  refine lv_iconst (v := 0) hx hb dX11_count_1 (by decide) ?_
  refine va_put (v := .int 0) (ty := .int) (T := TX11) (N := 35) hx hb hts inX11 tyX11 tyX11_ok nmX11 hown hK hP hD hS 0 rfl rfl 0 (by decide) f85 (fun _ h9 => h9) rfl (by decide +kernel) rfl rfl (Nat.le_of_ble_eq_true rfl) dX11_count_2 (fun H locs hP hD hS => ?_)
  have hP : va_P g.1 vwCl [(oX11 m0 0 ta sz_ pl at_ fa fw cs fd rfm rt_ to_ rw_ wa ct rk rb cn br sm as_ go sh_ ir oa ob th ig sp_ ki tg of_ kp sf rs)] H := hP
  have hD : va_D A [(oX11 m0 0 ta sz_ pl at_ fa fw cs fd rfm rt_ to_ rw_ wa ct rk rb cn br sm as_ go sh_ ir oa ob th ig sp_ ki tg of_ kp sf rs)] := hD
  refine lv_iload_n hx hb dX11_count_5 rfl (lv_at hl 1 rfl) ?_
  refine lv_if_ne (tgt := 16) hx hb dX11_count_6 (by decide) (fun c_1 => ?_) (fun c_1 => ?_)
  · refine lv_iload_n hx hb dX11_count_16 rfl (lv_at hl 1 rfl) ?_
    refine lv_iconst (v := 1) hx hb dX11_count_17 (by decide) ?_
    refine lv_icmp_ne (tgt := 28) hx hb dX11_count_18 (by decide) (fun c_2 => ?_) (fun c_2 => ?_)
    · refine lv_iload_n hx hb dX11_count_28 rfl (lv_at hl 1 rfl) ?_
      refine lv_iconst (v := 2) hx hb dX11_count_29 (by decide) ?_
      refine lv_icmp_ne (tgt := 40) hx hb dX11_count_30 (by decide) (fun c_3 => ?_) (fun c_3 => ?_)
      · exact absurd (by decide) c_3
      · refine lv_aload_n hx hb dX11_count_33 rfl (lv_at hl 0 rfl) ?_
        refine va_get (v := .int th) (T := TX11) (N := 35) hx hb hts inX11 hown hK hP 0 rfl rfl 26 (by decide) f165 (fun _ h9 => h9) rfl dX11_count_34 ?_
        refine lv_goto (tgt := 41) hx hb dX11_count_37 (by decide) ?_
        exact he_ri hQ hx hb hr hlk hP hD hS dX11_count_41 (Nat.le_of_ble_eq_true rfl) (Nat.le_of_ble_eq_true rfl) (()) (rfl) (rfl)
    · exact absurd c_2 (by decide)
  · exact absurd c_1 (by decide)
set_option maxHeartbeats 4000000 in
set_option maxRecDepth 100000 in
theorem h_X11_countN (l : Launch) (g : he_G) (m0 : Nat) (fd : Nat) (rfm : Nat) (rt_ : Nat) (to_ : Nat) (rw_ : Nat) (wa : Nat) (rk : Nat) (rb : Nat) (cn : Nat) (br : Nat) (sm : Nat) (as_ : Nat) (go : Nat) (sh_ : Nat) (ki : Nat) (tg : Nat) (of_ : Nat) (kp : Nat) (rs : Nat) (ta : Int32) (sz_ : Int32) (pl : Int32) (at_ : Int32) (fa : Int32) (fw : Int32) (cs : Int32) (ct : Int32) (ir : Int32) (oa : Int32) (ob : Int32) (th : Int32) (ig : Int32) (sp_ : Int32) (sf : Int32) (tw : Int32) (x : Int32) (hc0 : ¬ x = 0) (hc1 : ¬ x = 1) (hc2 : ¬ x = 2) : he_I l yX11_count wsX11_count 0 0 0 0 g [.ref m0, .int x] [(oX11 m0 tw ta sz_ pl at_ fa fw cs fd rfm rt_ to_ rw_ wa ct rk rb cn br sm as_ go sh_ ir oa ob th ig sp_ ki tg of_ kp sf rs)] (fun (r : Int32) (u : Unit) => r = (-1)) (fun (u : Unit) => [(oX11 m0 0 ta sz_ pl at_ fa fw cs fd rfm rt_ to_ rw_ wa ct rk rb cn br sm as_ go sh_ ir oa ob th ig sp_ ki tg of_ kp sf rs)]) := by
  refine he_begin (l := l) (g := g) (y := yX11_count) (wl := wsX11_count) (fr := 0) (lo := 0) (mc := 0) (ms := 0) (av := [.ref m0, .int x]) (ws := [(oX11 m0 tw ta sz_ pl at_ fa fw cs fd rfm rt_ to_ rw_ wa ct rk rb cn br sm as_ go sh_ ir oa ob th ig sp_ ki tg of_ kp sf rs)]) (cc := cX11_count) (maxL := 2) (ret := (some .int)) (fun A => va_Qi (fun (r : Int32) (u : Unit) => r = (-1)) (fun u t => he_post g A ((fun (u : Unit) => [(oX11 m0 0 ta sz_ pl at_ fa fw cs fd rfm rt_ to_ rw_ wa ct rk rb cn br sm as_ go sh_ ir oa ob th ig sp_ ki tg of_ kp sf rs)]) u) t) A) (by decide) rfl (Nat.le_of_ble_eq_true rfl) ?_
  intro p e s m args below meth c A ls H locs Q hQ hB
  obtain ⟨hx, hb, hr, hml, hown, hts, hlk, hin, hP, hK, hD, hS, hA, hE, hl⟩ := hB
  have hl : lv_has ls 2 [(0, .ref m0), (1, .int x)] := hl
  have f85 := hts (.fieldLink RX11 85 "HiredEnemyModel" "thrown" "I") (iwoX11_count (k := 0) rfl)
  have inX11 : ∀ w ∈ wsX110, w ∈ wsX11_count := innX11_count_X11
  refine lv_aload_n hx hb dX11_count_0 rfl (lv_at hl 0 rfl) ?_
  refine lv_iconst (v := 0) hx hb dX11_count_1 (by decide) ?_
  refine va_put (v := .int 0) (ty := .int) (T := TX11) (N := 35) hx hb hts inX11 tyX11 tyX11_ok nmX11 hown hK hP hD hS 0 rfl rfl 0 (by decide) f85 (fun _ h9 => h9) rfl (by decide +kernel) rfl rfl (Nat.le_of_ble_eq_true rfl) dX11_count_2 (fun H locs hP hD hS => ?_)
  have hP : va_P g.1 vwCl [(oX11 m0 0 ta sz_ pl at_ fa fw cs fd rfm rt_ to_ rw_ wa ct rk rb cn br sm as_ go sh_ ir oa ob th ig sp_ ki tg of_ kp sf rs)] H := hP
  have hD : va_D A [(oX11 m0 0 ta sz_ pl at_ fa fw cs fd rfm rt_ to_ rw_ wa ct rk rb cn br sm as_ go sh_ ir oa ob th ig sp_ ki tg of_ kp sf rs)] := hD
  refine lv_iload_n hx hb dX11_count_5 rfl (lv_at hl 1 rfl) ?_
  refine lv_if_ne (tgt := 16) hx hb dX11_count_6 (by decide) (fun c_1 => ?_) (fun c_1 => ?_)
  · refine lv_iload_n hx hb dX11_count_16 rfl (lv_at hl 1 rfl) ?_
    refine lv_iconst (v := 1) hx hb dX11_count_17 (by decide) ?_
    refine lv_icmp_ne (tgt := 28) hx hb dX11_count_18 (by decide) (fun c_2 => ?_) (fun c_2 => ?_)
    · refine lv_iload_n hx hb dX11_count_28 rfl (lv_at hl 1 rfl) ?_
      refine lv_iconst (v := 2) hx hb dX11_count_29 (by decide) ?_
      refine lv_icmp_ne (tgt := 40) hx hb dX11_count_30 (by decide) (fun c_3 => ?_) (fun c_3 => ?_)
      · refine lv_iconst (v := (-1)) hx hb dX11_count_40 (by decide) ?_
        exact he_ri hQ hx hb hr hlk hP hD hS dX11_count_41 (Nat.le_of_ble_eq_true rfl) (Nat.le_of_ble_eq_true rfl) (()) (rfl) (rfl)
      · exact absurd c_3 hc2
    · exact absurd c_2 hc1
  · exact absurd c_1 hc0
set_option maxHeartbeats 4000000 in
set_option maxRecDepth 100000 in
theorem h_X11_offers (l : Launch) (g : he_G) (m0 : Nat) (fd : Nat) (rfm : Nat) (rt_ : Nat) (to_ : Nat) (rw_ : Nat) (wa : Nat) (rk : Nat) (rb : Nat) (cn : Nat) (br : Nat) (sm : Nat) (as_ : Nat) (go : Nat) (sh_ : Nat) (ki : Nat) (tg : Nat) (of_ : Nat) (kp : Nat) (rs : Nat) (ta : Int32) (sz_ : Int32) (pl : Int32) (at_ : Int32) (fa : Int32) (fw : Int32) (cs : Int32) (ct : Int32) (ir : Int32) (oa : Int32) (ob : Int32) (th : Int32) (ig : Int32) (sp_ : Int32) (sf : Int32) (tw : Int32) (L : List Nat) (ln : Nat → Nat) (M : Nat → Nat → Int32) (r9 : Nat → Nat) (i : Nat) (j : Nat) (z : Int32) (F_r9 : ∀ i, i < 2 → r9 i ∈ L ∧ ln (r9 i) = 12 ∧ True) (hi1 : 1 ≤ i) (hi2 : i ≤ 2) (hj : j ≤ 11) (hok0 : ¬ he_within z 0 999 = 0) : he_I l yX11_offers wsX11_offers 1 23 0 0 g [.ref m0, .int (nI i), .int (nI j), .int z] ([(oX11 m0 tw ta sz_ pl at_ fa fw cs fd rfm rt_ to_ rw_ wa ct rk rb cn br sm as_ go sh_ ir oa ob th ig sp_ ki tg of_ kp sf rs), (aM g of_ 2 (he_ro 2 r9))] ++ he_pl g L ln M) (fun (r : Int32) (u : Nat → Nat → Int32) => r = M (r9 (i - 1)) j ∧ u = va_up M (r9 (i - 1)) (upd (M (r9 (i - 1))) j z)) (fun (u : Nat → Nat → Int32) => [(oX11 m0 0 ta sz_ pl at_ fa fw cs fd rfm rt_ to_ rw_ wa ct rk rb cn br sm as_ go sh_ ir oa ob th ig sp_ ki tg of_ kp sf rs), (aM g of_ 2 (he_ro 2 r9))] ++ he_pl g L ln u) := by
  refine he_begin (l := l) (g := g) (y := yX11_offers) (wl := wsX11_offers) (fr := 1) (lo := 23) (mc := 0) (ms := 0) (av := [.ref m0, .int (nI i), .int (nI j), .int z]) (ws := ([(oX11 m0 tw ta sz_ pl at_ fa fw cs fd rfm rt_ to_ rw_ wa ct rk rb cn br sm as_ go sh_ ir oa ob th ig sp_ ki tg of_ kp sf rs), (aM g of_ 2 (he_ro 2 r9))] ++ he_pl g L ln M)) (cc := cX11_offers) (maxL := 5) (ret := (some .int)) (fun A => va_Qi (fun (r : Int32) (u : Nat → Nat → Int32) => r = M (r9 (i - 1)) j ∧ u = va_up M (r9 (i - 1)) (upd (M (r9 (i - 1))) j z)) (fun u t => he_post g A ((fun (u : Nat → Nat → Int32) => [(oX11 m0 0 ta sz_ pl at_ fa fw cs fd rfm rt_ to_ rw_ wa ct rk rb cn br sm as_ go sh_ ir oa ob th ig sp_ ki tg of_ kp sf rs), (aM g of_ 2 (he_ro 2 r9))] ++ he_pl g L ln u) u) t) A) (by decide) rfl (Nat.le_of_ble_eq_true rfl) ?_
  intro p e s m args below meth c A ls H locs Q hQ hB
  obtain ⟨hx, hb, hr, hml, hown, hts, hlk, hin, hP, hK, hD, hS, hA, hE, hl⟩ := hB
  have hl : lv_has ls 5 [(0, .ref m0), (1, .int (nI i)), (2, .int (nI j)), (3, .int z)] := hl
  have f85 := hts (.fieldLink RX11 85 "HiredEnemyModel" "thrown" "I") (iwoX11_offers (k := 0) rfl)
  have inX11 : ∀ w ∈ wsX110, w ∈ wsX11_offers := innX11_offers_X11
  have f70 := hts (.fieldLink RX11 70 "HiredEnemyModel" "offered" "[[I") (iwoX11_offers (k := 1) rfl)
  refine lv_aload_n hx hb dX11_offers_0 rfl (lv_at hl 0 rfl) ?_
  refine lv_iconst (v := 0) hx hb dX11_offers_1 (by decide) ?_
  refine va_put (v := .int 0) (ty := .int) (T := TX11) (N := 35) hx hb hts inX11 tyX11 tyX11_ok nmX11 hown hK hP hD hS 0 rfl rfl 0 (by decide) f85 (fun _ h9 => h9) rfl (by decide +kernel) rfl rfl (Nat.le_of_ble_eq_true rfl) dX11_offers_2 (fun H locs hP hD hS => ?_)
  have hP : va_P g.1 vwCl ([(oX11 m0 0 ta sz_ pl at_ fa fw cs fd rfm rt_ to_ rw_ wa ct rk rb cn br sm as_ go sh_ ir oa ob th ig sp_ ki tg of_ kp sf rs), (aM g of_ 2 (he_ro 2 r9))] ++ he_pl g L ln M) H := hP
  have hD : va_D A ([(oX11 m0 0 ta sz_ pl at_ fa fw cs fd rfm rt_ to_ rw_ wa ct rk rb cn br sm as_ go sh_ ir oa ob th ig sp_ ki tg of_ kp sf rs), (aM g of_ 2 (he_ro 2 r9))] ++ he_pl g L ln M) := hD
  refine lv_aload_n hx hb dX11_offers_5 rfl (lv_at hl 0 rfl) ?_
  refine lv_iload_n hx hb dX11_offers_6 rfl (lv_at hl 1 rfl) ?_
  refine lv_iconst (v := 1) hx hb dX11_offers_7 (by decide) ?_
  refine lv_iconst (v := 2) hx hb dX11_offers_8 (by decide) ?_
  refine he_ci (wc := []) (wr := ([(oX11 m0 0 ta sz_ pl at_ fa fw cs fd rfm rt_ to_ rw_ wa ct rk rb cn br sm as_ go sh_ ir oa ob th ig sp_ ki tg of_ kp sf rs), (aM g of_ 2 (he_ro 2 r9))] ++ (he_pl g L ln M))) (va_runS (As := [.int (nI i), .int 1, .int 2]) (rest := [.ref m0]) ⟨hx, hb, hml, hown, hts⟩ (c_X11_in l g (nI i) 1 2 H.size) (va_cwS 3 hts gX11_offers_X11_in rfl rfl rfl (by decide +kernel) ⟨Nat.le_of_ble_eq_true rfl, Nat.le_of_ble_eq_true rfl⟩) (he_preS (wc := []) hK hP hD hS hA hE [] rfl rfl) rfl rfl hl.1 rfl (lv_room (Nat.le_of_ble_eq_true rfl)) dX11_offers_9 ⟨(Nat.le_of_ble_eq_true rfl), (Nat.le_of_ble_eq_true rfl)⟩) hP hD hS hA [] (he_is [0, 1] [(oX11 m0 0 ta sz_ pl at_ fa fw cs fd rfm rt_ to_ rw_ wa ct rk rb cn br sm as_ go sh_ ir oa ob th ig sp_ ki tg of_ kp sf rs), (aM g of_ 2 (he_ro 2 r9))] (he_pl g L ln M)) rfl (he_ixP rfl) (he_ndP rfl rfl) (he_disN (by decide) rfl) (fun r_1 u_2 H locs h_3 hP hD hS => ?_)
  have hP := va_P.swap hP
  have hD := va_D.swap hD
  subst h_3
  have hP : va_P g.1 vwCl ([(oX11 m0 0 ta sz_ pl at_ fa fw cs fd rfm rt_ to_ rw_ wa ct rk rb cn br sm as_ go sh_ ir oa ob th ig sp_ ki tg of_ kp sf rs), (aM g of_ 2 (he_ro 2 r9))] ++ he_pl g L ln M) H := hP
  have hD : va_D A ([(oX11 m0 0 ta sz_ pl at_ fa fw cs fd rfm rt_ to_ rw_ wa ct rk rb cn br sm as_ go sh_ ir oa ob th ig sp_ ki tg of_ kp sf rs), (aM g of_ 2 (he_ro 2 r9))] ++ he_pl g L ln M) := hD
  refine he_top (1) (he_within_in (a0 := 1) (B := 2) rfl rfl (by omega) (by omega) (by decide)) ?_
  refine lv_if_eq (tgt := 36) hx hb dX11_offers_12 (by decide) (fun c_4 => ?_) (fun c_4 => ?_)
  · exact absurd c_4 (by decide)
  · refine lv_iload_n hx hb dX11_offers_15 rfl (lv_at hl 2 rfl) ?_
    refine lv_iconst (v := 0) hx hb dX11_offers_16 (by decide) ?_
    refine lv_bipush (v := 11) hx hb dX11_offers_17 (by decide) ?_
    refine he_ci (wc := []) (wr := ([(oX11 m0 0 ta sz_ pl at_ fa fw cs fd rfm rt_ to_ rw_ wa ct rk rb cn br sm as_ go sh_ ir oa ob th ig sp_ ki tg of_ kp sf rs), (aM g of_ 2 (he_ro 2 r9))] ++ (he_pl g L ln M))) (va_runS (As := [.int (nI j), .int 0, .int 11]) (rest := [.ref m0]) ⟨hx, hb, hml, hown, hts⟩ (c_X11_in l g (nI j) 0 11 H.size) (va_cwS 3 hts gX11_offers_X11_in rfl rfl rfl (by decide +kernel) ⟨Nat.le_of_ble_eq_true rfl, Nat.le_of_ble_eq_true rfl⟩) (he_preS (wc := []) hK hP hD hS hA hE [] rfl rfl) rfl rfl hl.1 rfl (lv_room (Nat.le_of_ble_eq_true rfl)) dX11_offers_19 ⟨(Nat.le_of_ble_eq_true rfl), (Nat.le_of_ble_eq_true rfl)⟩) hP hD hS hA [] (he_is [0, 1] [(oX11 m0 0 ta sz_ pl at_ fa fw cs fd rfm rt_ to_ rw_ wa ct rk rb cn br sm as_ go sh_ ir oa ob th ig sp_ ki tg of_ kp sf rs), (aM g of_ 2 (he_ro 2 r9))] (he_pl g L ln M)) rfl (he_ixP rfl) (he_ndP rfl rfl) (he_disN (by decide) rfl) (fun r_5 u_6 H locs h_7 hP hD hS => ?_)
    have hP := va_P.swap hP
    have hD := va_D.swap hD
    subst h_7
    have hP : va_P g.1 vwCl ([(oX11 m0 0 ta sz_ pl at_ fa fw cs fd rfm rt_ to_ rw_ wa ct rk rb cn br sm as_ go sh_ ir oa ob th ig sp_ ki tg of_ kp sf rs), (aM g of_ 2 (he_ro 2 r9))] ++ he_pl g L ln M) H := hP
    have hD : va_D A ([(oX11 m0 0 ta sz_ pl at_ fa fw cs fd rfm rt_ to_ rw_ wa ct rk rb cn br sm as_ go sh_ ir oa ob th ig sp_ ki tg of_ kp sf rs), (aM g of_ 2 (he_ro 2 r9))] ++ he_pl g L ln M) := hD
    refine he_top (1) (he_within_in (a0 := 0) (B := 11) rfl rfl (by omega) (by omega) (by decide)) ?_
    refine lv_if_eq (tgt := 36) hx hb dX11_offers_22 (by decide) (fun c_8 => ?_) (fun c_8 => ?_)
    · exact absurd c_8 (by decide)
    · refine lv_iload_n hx hb dX11_offers_25 rfl (lv_at hl 3 rfl) ?_
      refine lv_iconst (v := 0) hx hb dX11_offers_26 (by decide) ?_
      refine lv_sipush (v := 999) hx hb dX11_offers_27 (by decide) ?_
      refine he_ci (wc := []) (wr := ([(oX11 m0 0 ta sz_ pl at_ fa fw cs fd rfm rt_ to_ rw_ wa ct rk rb cn br sm as_ go sh_ ir oa ob th ig sp_ ki tg of_ kp sf rs), (aM g of_ 2 (he_ro 2 r9))] ++ (he_pl g L ln M))) (va_runS (As := [.int z, .int 0, .int 999]) (rest := [.ref m0]) ⟨hx, hb, hml, hown, hts⟩ (c_X11_in l g z 0 999 H.size) (va_cwS 3 hts gX11_offers_X11_in rfl rfl rfl (by decide +kernel) ⟨Nat.le_of_ble_eq_true rfl, Nat.le_of_ble_eq_true rfl⟩) (he_preS (wc := []) hK hP hD hS hA hE [] rfl rfl) rfl rfl hl.1 rfl (lv_room (Nat.le_of_ble_eq_true rfl)) dX11_offers_30 ⟨(Nat.le_of_ble_eq_true rfl), (Nat.le_of_ble_eq_true rfl)⟩) hP hD hS hA [] (he_is [0, 1] [(oX11 m0 0 ta sz_ pl at_ fa fw cs fd rfm rt_ to_ rw_ wa ct rk rb cn br sm as_ go sh_ ir oa ob th ig sp_ ki tg of_ kp sf rs), (aM g of_ 2 (he_ro 2 r9))] (he_pl g L ln M)) rfl (he_ixP rfl) (he_ndP rfl rfl) (he_disN (by decide) rfl) (fun r_9 u_10 H locs h_11 hP hD hS => ?_)
      have hP := va_P.swap hP
      have hD := va_D.swap hD
      subst h_11
      have hP : va_P g.1 vwCl ([(oX11 m0 0 ta sz_ pl at_ fa fw cs fd rfm rt_ to_ rw_ wa ct rk rb cn br sm as_ go sh_ ir oa ob th ig sp_ ki tg of_ kp sf rs), (aM g of_ 2 (he_ro 2 r9))] ++ he_pl g L ln M) H := hP
      have hD : va_D A ([(oX11 m0 0 ta sz_ pl at_ fa fw cs fd rfm rt_ to_ rw_ wa ct rk rb cn br sm as_ go sh_ ir oa ob th ig sp_ ki tg of_ kp sf rs), (aM g of_ 2 (he_ro 2 r9))] ++ he_pl g L ln M) := hD
      refine he_top (1) (he_within_1 hok0) ?_
      refine lv_if_ne (tgt := 40) hx hb dX11_offers_33 (by decide) (fun c_12 => ?_) (fun c_12 => ?_)
      · refine lv_iconst (v := 0) hx hb dX11_offers_40 (by decide) ?_
        refine lv_iconst (v := 1) hx hb dX11_offers_41 (by decide) ?_
        refine lv_iconst (v := 2) hx hb dX11_offers_42 (by decide) ?_
        refine he_ci (wc := [(oX11 m0 0 ta sz_ pl at_ fa fw cs fd rfm rt_ to_ rw_ wa ct rk rb cn br sm as_ go sh_ ir oa ob th ig sp_ ki tg of_ kp sf rs)]) (wr := ([(aM g of_ 2 (he_ro 2 r9))] ++ (he_pl g L ln M))) (va_runV (As := [.int 0, .int 1, .int 2]) (rest := []) ⟨hx, hb, hml, hown, hts⟩ (c_X11_bad0 l g m0 fd rfm rt_ to_ rw_ wa rk rb cn br sm as_ go sh_ ki tg of_ kp rs ta sz_ pl at_ fa fw cs ct ir oa ob th ig sp_ sf 1 2 H.size) (cwV 3 hts gX11_offers_X11_bad rfl rfl rfl (by decide +kernel) ⟨Nat.le_of_ble_eq_true rfl, Nat.le_of_ble_eq_true rfl⟩) (he_preV (wc := [(oX11 m0 0 ta sz_ pl at_ fa fw cs fd rfm rt_ to_ rw_ wa ct rk rb cn br sm as_ go sh_ ir oa ob th ig sp_ ki tg of_ kp sf rs)]) hK hP hD hS hA hE [0] rfl rfl 0 rfl rfl) rfl rfl hl.1 rfl (lv_room (Nat.le_of_ble_eq_true rfl)) dX11_offers_43 ⟨(Nat.le_of_ble_eq_true rfl), (Nat.le_of_ble_eq_true rfl)⟩) hP hD hS hA [0] (he_is [1] [(oX11 m0 0 ta sz_ pl at_ fa fw cs fd rfm rt_ to_ rw_ wa ct rk rb cn br sm as_ go sh_ ir oa ob th ig sp_ ki tg of_ kp sf rs), (aM g of_ 2 (he_ro 2 r9))] (he_pl g L ln M)) rfl (he_ixP rfl) (he_ndP rfl rfl) (he_disN (by decide) rfl) (fun r_13 u_14 H locs h_15 hP hD hS => ?_)
        have hP := va_P.swap hP
        have hD := va_D.swap hD
        subst h_15
        have hP : va_P g.1 vwCl ([(aM g of_ 2 (he_ro 2 r9)), (oX11 m0 0 ta sz_ pl at_ fa fw cs fd rfm rt_ to_ rw_ wa ct rk rb cn br sm as_ go sh_ ir oa ob th ig sp_ ki tg of_ kp sf rs)] ++ he_pl g L ln M) H := hP
        have hD : va_D A ([(aM g of_ 2 (he_ro 2 r9)), (oX11 m0 0 ta sz_ pl at_ fa fw cs fd rfm rt_ to_ rw_ wa ct rk rb cn br sm as_ go sh_ ir oa ob th ig sp_ ki tg of_ kp sf rs)] ++ he_pl g L ln M) := hD
        refine lv_if_eq (tgt := 51) hx hb dX11_offers_46 (by decide) (fun c_16 => ?_) (fun c_16 => ?_)
        · refine lv_aload_n hx hb dX11_offers_51 rfl (lv_at hl 0 rfl) ?_
          refine va_get (v := .ref of_) (T := TX11) (N := 35) hx hb hts inX11 hown hK hP 1 rfl rfl 31 (by decide) f70 (fun _ h9 => h9) rfl dX11_offers_52 ?_
          refine lv_iload_n hx hb dX11_offers_55 rfl (lv_at hl 1 rfl) ?_
          refine lv_iconst (v := 1) hx hb dX11_offers_56 (by decide) ?_
          refine lv_isub hx hb dX11_offers_57 ?_
          refine he_top (nI (i - 1)) (pk_sub (b := 1) hi1) ?_
          refine he_aldm hx hb hK hP 0 rfl (i - 1) rfl (by first | assumption | decide | omega) (by decide) dX11_offers_58 ?_
          refine lv_iload_n hx hb dX11_offers_59 rfl (lv_at hl 2 rfl) ?_
          refine he_pald hx hb hK hP (F_r9 (i - 1) (by first | assumption | decide | omega)).1 (j) rfl (by rw [(F_r9 (i - 1) (by first | assumption | decide | omega)).2.1]; exact (by first | assumption | decide | omega)) (by rw [(F_r9 (i - 1) (by first | assumption | decide | omega)).2.1]; decide) (M (r9 (i - 1)) j) rfl dX11_offers_60 ?_
          refine lv_istore (lv' := [(4, .int (M (r9 (i - 1)) j)), (0, .ref m0), (1, .int (nI i)), (2, .int (nI j)), (3, .int z)]) hx hb dX11_offers_61 hl (by decide) rfl (fun ls hl => ?_)
          refine lv_aload_n hx hb dX11_offers_63 rfl (lv_at hl 1 rfl) ?_
          refine va_get (v := .ref of_) (T := TX11) (N := 35) hx hb hts inX11 hown hK hP 1 rfl rfl 31 (by decide) f70 (fun _ h9 => h9) rfl dX11_offers_64 ?_
          refine lv_iload_n hx hb dX11_offers_67 rfl (lv_at hl 2 rfl) ?_
          refine lv_iconst (v := 1) hx hb dX11_offers_68 (by decide) ?_
          refine lv_isub hx hb dX11_offers_69 ?_
          refine he_top (nI (i - 1)) (pk_sub (b := 1) hi1) ?_
          refine he_aldm hx hb hK hP 0 rfl (i - 1) rfl (by first | assumption | decide | omega) (by decide) dX11_offers_70 ?_
          refine lv_iload_n hx hb dX11_offers_71 rfl (lv_at hl 3 rfl) ?_
          refine lv_iload_n hx hb dX11_offers_72 rfl (lv_at hl 4 rfl) ?_
          refine he_past hx hb hK hP hD hS (F_r9 (i - 1) (by first | assumption | decide | omega)).1 (j) rfl (by rw [(F_r9 (i - 1) (by first | assumption | decide | omega)).2.1]; exact (by first | assumption | decide | omega)) (by rw [(F_r9 (i - 1) (by first | assumption | decide | omega)).2.1]; decide) dX11_offers_73 (fun H locs hP hD hS => ?_)
          have hP : va_P g.1 vwCl ([(aM g of_ 2 (he_ro 2 r9)), (oX11 m0 0 ta sz_ pl at_ fa fw cs fd rfm rt_ to_ rw_ wa ct rk rb cn br sm as_ go sh_ ir oa ob th ig sp_ ki tg of_ kp sf rs)] ++ he_pl g L ln (va_up M (r9 (i - 1)) (upd (M (r9 (i - 1))) j z))) H := hP
          have hD : va_D A ([(aM g of_ 2 (he_ro 2 r9)), (oX11 m0 0 ta sz_ pl at_ fa fw cs fd rfm rt_ to_ rw_ wa ct rk rb cn br sm as_ go sh_ ir oa ob th ig sp_ ki tg of_ kp sf rs)] ++ he_pl g L ln (va_up M (r9 (i - 1)) (upd (M (r9 (i - 1))) j z))) := hD
          refine lv_iload hx hb dX11_offers_74 (lv_at hl 0 rfl) ?_
          have hP := he_Psub (X := [(aM g of_ 2 (he_ro 2 r9)), (oX11 m0 0 ta sz_ pl at_ fa fw cs fd rfm rt_ to_ rw_ wa ct rk rb cn br sm as_ go sh_ ir oa ob th ig sp_ ki tg of_ kp sf rs)]) (X2 := [(oX11 m0 0 ta sz_ pl at_ fa fw cs fd rfm rt_ to_ rw_ wa ct rk rb cn br sm as_ go sh_ ir oa ob th ig sp_ ki tg of_ kp sf rs), (aM g of_ 2 (he_ro 2 r9))]) (P := (he_pl g L ln (va_up M (r9 (i - 1)) (upd (M (r9 (i - 1))) j z)))) hP [1, 0] rfl
          have hD := he_Dsub (X := [(aM g of_ 2 (he_ro 2 r9)), (oX11 m0 0 ta sz_ pl at_ fa fw cs fd rfm rt_ to_ rw_ wa ct rk rb cn br sm as_ go sh_ ir oa ob th ig sp_ ki tg of_ kp sf rs)]) (X2 := [(oX11 m0 0 ta sz_ pl at_ fa fw cs fd rfm rt_ to_ rw_ wa ct rk rb cn br sm as_ go sh_ ir oa ob th ig sp_ ki tg of_ kp sf rs), (aM g of_ 2 (he_ro 2 r9))]) (P := (he_pl g L ln (va_up M (r9 (i - 1)) (upd (M (r9 (i - 1))) j z)))) hD [1, 0] rfl rfl rfl
          exact he_ri hQ hx hb hr hlk hP hD hS dX11_offers_76 (Nat.le_of_ble_eq_true rfl) (Nat.le_of_ble_eq_true rfl) (va_up M (r9 (i - 1)) (upd (M (r9 (i - 1))) j z)) (rfl) (⟨rfl, rfl⟩)
        · exact absurd (by decide) c_16
      · exact absurd c_12 (by decide)
end
