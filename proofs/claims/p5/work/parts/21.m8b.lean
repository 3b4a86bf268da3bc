set_option maxHeartbeats 4000000 in
set_option maxRecDepth 100000 in
theorem h_X11_count2 (l : Launch) (g : he_G) (m0 : Nat) (fd : Nat) (rfm : Nat) (rt_ : Nat) (to_ : Nat) (rw_ : Nat) (wa : Nat) (rk : Nat) (rb : Nat) (cn : Nat) (br : Nat) (sm : Nat) (as_ : Nat) (go : Nat) (sh_ : Nat) (ki : Nat) (tg : Nat) (of_ : Nat) (kp : Nat) (rs : Nat) (ta : Int32) (sz_ : Int32) (pl : Int32) (at_ : Int32) (fa : Int32) (fw : Int32) (cs : Int32) (ct : Int32) (ir : Int32) (oa : Int32) (ob : Int32) (th : Int32) (ig : Int32) (sp_ : Int32) (sf : Int32) (tw : Int32)  : he_I l yX11_count wsX11_count 0 0 0 0 g [.ref m0, .int 2] [(oX11 m0 tw ta sz_ pl at_ fa fw cs fd rfm rt_ to_ rw_ wa ct rk rb cn br sm as_ go sh_ ir oa ob th ig sp_ ki tg of_ kp sf rs)] (fun (r : Int32) (u : Unit) => r = th) (fun (u : Unit) => [(oX11 m0 0 ta sz_ pl at_ fa fw cs fd rfm rt_ to_ rw_ wa ct rk rb cn br sm as_ go sh_ ir oa ob th ig sp_ ki tg of_ kp sf rs)]) := by
  refine he_begin (l := l) (g := g) (y := yX11_count) (wl := wsX11_count) (fr := 0) (lo := 0) (mc := 0) (ms := 0) (av := [.ref m0, .int 2]) (ws := [(oX11 m0 tw ta sz_ pl at_ fa fw cs fd rfm rt_ to_ rw_ wa ct rk rb cn br sm as_ go sh_ ir oa ob th ig sp_ ki tg of_ kp sf rs)]) (cc := cX11_count) (maxL := 2) (ret := (some .int)) (fun A => va_Qi (fun (r : Int32) (u : Unit) => r = th) (fun u t => he_post g A ((fun (u : Unit) => [(oX11 m0 0 ta sz_ pl at_ fa fw cs fd rfm rt_ to_ rw_ wa ct rk rb cn br sm as_ go sh_ ir oa ob th ig sp_ ki tg of_ kp sf rs)]) u) t) A) (by decide) rfl (Nat.le_of_ble_eq_true rfl) ?_
  intro p e s m args below meth c A ls H locs Q hQ hB
  obtain ⟨hx, hb, hr, hml, hown, hts, hlk, hin, hP, hK, hD, hS, hA, hE, hl⟩ := hB
  have hl : lv_has ls 2 [(0, .ref m0), (1, .int 2)] := hl
  have f85 := hts (.fieldLink RX11 85 "HiredEnemyModel" "thrown" "I") (iwoX11_count (k := 0) rfl)
  have inX11 : ∀ w ∈ wsX110, w ∈ wsX11_count := innX11_count_X11
  have f165 := hts (.fieldLink RX11 165 "HiredEnemyModel" "things" "I") (iwoX11_count (k := 3) rfl)
  refine lv_aload_n hx hb dX11_count_0 rfl (lv_at hl 0 rfl) ?_
  refine lv_iconst (v := 0) hx hb dX11_count_1 (by decide) ?_
  refine va_put (v := .int 0) (ty := .int) (T := TX11) (N := 35) hx hb hts inX11 tyX11 tyX11_ok nmX11 hown hK hP hD hS 0 rfl rfl 0 (by decide) f85 (fun _ h9 => h9) rfl (by decide +kernel) rfl rfl (Nat.le_of_ble_eq_true rfl) dX11_count_2 (fun H locs hP hD hS => ?_)
  have hP : va_P g.1 vwCl [(oX11 m0 0 ta sz_ pl at_ fa fw cs fd rfm rt_ to_ rw_ wa ct rk rb cn br sm as_ go sh_ ir oa ob th ig sp_ ki tg of_ kp sf rs)] H := hP
  have hD : va_D A [(oX11 m0 0 ta sz_ pl at_ fa fw cs fd rfm rt_ to_ rw_ wa ct rk rb cn br sm as_ go sh_ ir oa ob th ig sp_ ki tg of_ kp sf rs)] := hD
  refine lv_iload_n hx hb dX11_count_5 rfl (lv_at hl 1 rfl) ?_
  refine lv_if_ne (tgt := 16) hx hb dX11_count_6 (by decide) (fun c_1 => ?_) (fun c_1 => ?_)
  · refine lv_iload_n hx hb dX11_count_16 rfl (lv_at hl 1 rfl) ?_
    refine lv_iconst (v := 1) hx hb dX11_count_17 (by decide) ?_
    refine lv_icmp_ne (tgt := 28) hx hb dX11_count_18 (by decide) (fun c_2 => ?_) (fun c_2 => ?_)
    · refine lv_iload_n hx hb dX11_count_28 rfl (lv_at hl 1 rfl) ?_
      refine lv_iconst (v := 2) hx hb dX11_count_29 (by decide) ?_
      refine lv_icmp_ne (tgt := 40) hx hb dX11_count_30 (by decide) (fun c_3 => ?_) (fun c_3 => ?_)
      · exact absurd (by decide) c_3
      · refine lv_aload_n hx hb dX11_count_33 rfl (lv_at hl 0 rfl) ?_
        refine va_get (v := .int th) (T := TX11) (N := 35) hx hb hts inX11 hown hK hP 0 rfl rfl 26 (by decide) f165 (fun _ h9 => h9) rfl dX11_count_34 ?_
        refine lv_goto (tgt := 41) hx hb dX11_count_37 (by decide) ?_
        exact he_ri hQ hx hb hr hlk hP hD hS dX11_count_41 (Nat.le_of_ble_eq_true rfl) (Nat.le_of_ble_eq_true rfl) (()) (rfl) (rfl)
    · exact absurd c_2 (by decide)
  · exact absurd c_1 (by decide)
set_option maxHeartbeats 4000000 in
set_option maxRecDepth 100000 in
theorem h_X11_countN (l : Launch) (g : he_G) (m0 : Nat) (fd : Nat) (rfm : Nat) (rt_ : Nat) (to_ : Nat) (rw_ : Nat) (wa : Nat) (rk : Nat) (rb : Nat) (cn : Nat) (br : Nat) (sm : Nat) (as_ : Nat) (go : Nat) (sh_ : Nat) (ki : Nat) (tg : Nat) (of_ : Nat) (kp : Nat) (rs : Nat) (ta : Int32) (sz_ : Int32) (pl : Int32) (at_ : Int32) (fa : Int32) (fw : Int32) (cs : Int32) (ct : Int32) (ir : Int32) (oa : Int32) (ob : Int32) (th : Int32) (ig : Int32) (sp_ : Int32) (sf : Int32) (tw : Int32) (x : Int32) (hc0 : ¬ x = 0) (hc1 : ¬ x = 1) (hc2 : ¬ x = 2) : he_I l yX11_count wsX11_count 0 0 0 0 g [.ref m0, .int x] [(oX11 m0 tw ta sz_ pl at_ fa fw cs fd rfm rt_ to_ rw_ wa ct rk rb cn br sm as_ go sh_ ir oa ob th ig sp_ ki tg of_ kp sf rs)] (fun (r : Int32) (u : Unit) => r = (-1)) (fun (u : Unit) => [(oX11 m0 0 ta sz_ pl at_ fa fw cs fd rfm rt_ to_ rw_ wa ct rk rb cn br sm as_ go sh_ ir oa ob th ig sp_ ki tg of_ kp sf rs)]) := by
  refine he_begin (l := l) (g := g) (y := yX11_count) (wl := wsX11_count) (fr := 0) (lo := 0) (mc := 0) (ms := 0) (av := [.ref m0, .int x]) (ws := [(oX11 m0 tw ta sz_ pl at_ fa fw cs fd rfm rt_ to_ rw_ wa ct rk rb cn br sm as_ go sh_ ir oa ob th ig sp_ ki tg of_ kp sf rs)]) (cc := cX11_count) (maxL := 2) (ret := (some .int)) (fun A => va_Qi (fun (r : Int32) (u : Unit) => r = (-1)) (fun u t => he_post g A ((fun (u : Unit) => [(oX11 m0 0 ta sz_ pl at_ fa fw cs fd rfm rt_ to_ rw_ wa ct rk rb cn br sm as_ go sh_ ir oa ob th ig sp_ ki tg of_ kp sf rs)]) u) t) A) (by decide) rfl (Nat.le_of_ble_eq_true rfl) ?_
  intro p e s m args below meth c A ls H locs Q hQ hB
  obtain ⟨hx, hb, hr, hml, hown, hts, hlk, hin, hP, hK, hD, hS, hA, hE, hl⟩ := hB
  have hl : lv_has ls 2 [(0, .ref m0), (1, .int x)] := hl
  have f85 := hts (.fieldLink RX11 85 "HiredEnemyModel" "thrown" "I") (iwoX11_count (k := 0) rfl)
  have inX11 : ∀ w ∈ wsX110, w ∈ wsX11_count := innX11_count_X11
  refine lv_aload_n hx hb dX11_count_0 rfl (lv_at hl 0 rfl) ?_
  refine lv_iconst (v := 0) hx hb dX11_count_1 (by decide) ?_
  refine va_put (v := .int 0) (ty := .int) (T := TX11) (N := 35) hx hb hts inX11 tyX11 tyX11_ok nmX11 hown hK hP hD hS 0 rfl rfl 0 (by decide) f85 (fun _ h9 => h9) rfl (by decide +kernel) rfl rfl (Nat.le_of_ble_eq_true rfl) dX11_count_2 (fun H locs hP hD hS => ?_)
  have hP : va_P g.1 vwCl [(oX11 m0 0 ta sz_ pl at_ fa fw cs fd rfm rt_ to_ rw_ wa ct rk rb cn br sm as_ go sh_ ir oa ob th ig sp_ ki tg of_ kp sf rs)] H := hP
  have hD : va_D A [(oX11 m0 0 ta sz_ pl at_ fa fw cs fd rfm rt_ to_ rw_ wa ct rk rb cn br sm as_ go sh_ ir oa ob th ig sp_ ki tg of_ kp sf rs)] := hD
  refine lv_iload_n hx hb dX11_count_5 rfl (lv_at hl 1 rfl) ?_
  refine lv_if_ne (tgt := 16) hx hb dX11_count_6 (by decide) (fun c_1 => ?_) (fun c_1 => ?_)
  · refine lv_iload_n hx hb dX11_count_16 rfl (lv_at hl 1 rfl) ?_
    refine lv_iconst (v := 1) hx hb dX11_count_17 (by decide) ?_
    refine lv_icmp_ne (tgt := 28) hx hb dX11_count_18 (by decide) (fun c_2 => ?_) (fun c_2 => ?_)
    · refine lv_iload_n hx hb dX11_count_28 rfl (lv_at hl 1 rfl) ?_
      refine lv_iconst (v := 2) hx hb dX11_count_29 (by decide) ?_
      refine lv_icmp_ne (tgt := 40) hx hb dX11_count_30 (by decide) (fun c_3 => ?_) (fun c_3 => ?_)
      · refine lv_iconst (v := (-1)) hx hb dX11_count_40 (by decide) ?_
        exact he_ri hQ hx hb hr hlk hP hD hS dX11_count_41 (Nat.le_of_ble_eq_true rfl) (Nat.le_of_ble_eq_true rfl) (()) (rfl) (rfl)
      · exact absurd c_3 hc2
    · exact absurd c_2 hc1
  · exact absurd c_1 hc0
set_option maxHeartbeats 4000000 in
set_option maxRecDepth 100000 in
theorem h_X11_offers (l : Launch) (g : he_G) (m0 : Nat) (fd : Nat) (rfm : Nat) (rt_ : Nat) (to_ : Nat) (rw_ : Nat) (wa : Nat) (rk : Nat) (rb : Nat) (cn : Nat) (br : Nat) (sm : Nat) (as_ : Nat) (go : Nat) (sh_ : Nat) (ki : Nat) (tg : Nat) (of_ : Nat) (kp : Nat) (rs : Nat) (ta : Int32) (sz_ : Int32) (pl : Int32) (at_ : Int32) (fa : Int32) (fw : Int32) (cs : Int32) (ct : Int32) (ir : Int32) (oa : Int32) (ob : Int32) (th : Int32) (ig : Int32) (sp_ : Int32) (sf : Int32) (tw : Int32) (L : List Nat) (ln : Nat → Nat) (M : Nat → Nat → Int32) (r9 : Nat → Nat) (i : Nat) (j : Nat) (z : Int32) (F_r9 : ∀ i, i < 2 → r9 i ∈ L ∧ ln (r9 i) = 12 ∧ True) (hi1 : 1 ≤ i) (hi2 : i ≤ 2) (hj : j ≤ 11) (hok0 : ¬ he_within z 0 999 = 0) : he_I l yX11_offers wsX11_offers 1 23 0 0 g [.ref m0, .int (nI i), .int (nI j), .int z] ([(oX11 m0 tw ta sz_ pl at_ fa fw cs fd rfm rt_ to_ rw_ wa ct rk rb cn br sm as_ go sh_ ir oa ob th ig sp_ ki tg of_ kp sf rs), (aM g of_ 2 (he_ro 2 r9))] ++ he_pl g L ln M) (fun (r : Int32) (u : Nat → Nat → Int32) => r = M (r9 (i - 1)) j ∧ u = va_up M (r9 (i - 1)) (upd (M (r9 (i - 1))) j z)) (fun (u : Nat → Nat → Int32) => [(oX11 m0 0 ta sz_ pl at_ fa fw cs fd rfm rt_ to_ rw_ wa ct rk rb cn br sm as_ go sh_ ir oa ob th ig sp_ ki tg of_ kp sf rs), (aM g of_ 2 (he_ro 2 r9))] ++ he_pl g L ln u) := by
  refine he_begin (l := l) (g := g) (y := yX11_offers) (wl := wsX11_offers) (fr := 1) (lo := 23) (mc := 0) (ms := 0) (av := [.ref m0, .int (nI i), .int (nI j), .int z]) (ws := ([(oX11 m0 tw ta sz_ pl at_ fa fw cs fd rfm rt_ to_ rw_ wa ct rk rb cn br sm as_ go sh_ ir oa ob th ig sp_ ki tg of_ kp sf rs), (aM g of_ 2 (he_ro 2 r9))] ++ he_pl g L ln M)) (cc := cX11_offers) (maxL := 5) (ret := (some .int)) (fun A => va_Qi (fun (r : Int32) (u : Nat → Nat → Int32) => r = M (r9 (i - 1)) j ∧ u = va_up M (r9 (i - 1)) (upd (M (r9 (i - 1))) j z)) (fun u t => he_post g A ((fun (u : Nat → Nat → Int32) => [(oX11 m0 0 ta sz_ pl at_ fa fw cs fd rfm rt_ to_ rw_ wa ct rk rb cn br sm as_ go sh_ ir oa ob th ig sp_ ki tg of_ kp sf rs), (aM g of_ 2 (he_ro 2 r9))] ++ he_pl g L ln u) u) t) A) (by decide) rfl (Nat.le_of_ble_eq_true rfl) ?_
  intro p e s m args below meth c A ls H locs Q hQ hB
  obtain ⟨hx, hb, hr, hml, hown, hts, hlk, hin, hP, hK, hD, hS, hA, hE, hl⟩ := hB
  have hl : lv_has ls 5 [(0, .ref m0), (1, .int (nI i)), (2, .int (nI j)), (3, .int z)] := hl
  have f85 := hts (.fieldLink RX11 85 "HiredEnemyModel" "thrown" "I") (iwoX11_offers (k := 0) rfl)
  have inX11 : ∀ w ∈ wsX110, w ∈ wsX11_offers := innX11_offers_X11
  have f70 := hts (.fieldLink RX11 70 "HiredEnemyModel" "offered" "[[I") (iwoX11_offers (k := 1) rfl)
  refine lv_aload_n hx hb dX11_offers_0 rfl (lv_at hl 0 rfl) ?_
  refine lv_iconst (v := 0) hx hb dX11_offers_1 (by decide) ?_
  refine va_put (v := .int 0) (ty := .int) (T := TX11) (N := 35) hx hb hts inX11 tyX11 tyX11_ok nmX11 hown hK hP hD hS 0 rfl rfl 0 (by decide) f85 (fun _ h9 => h9) rfl (by decide +kernel) rfl rfl (Nat.le_of_ble_eq_true rfl) dX11_offers_2 (fun H locs hP hD hS => ?_)
  have hP : va_P g.1 vwCl ([(oX11 m0 0 ta sz_ pl at_ fa fw cs fd rfm rt_ to_ rw_ wa ct rk rb cn br sm as_ go sh_ ir oa ob th ig sp_ ki tg of_ kp sf rs), (aM g of_ 2 (he_ro 2 r9))] ++ he_pl g L ln M) H := hP
  have hD : va_D A ([(oX11 m0 0 ta sz_ pl at_ fa fw cs fd rfm rt_ to_ rw_ wa ct rk rb cn br sm as_ go sh_ ir oa ob th ig sp_ ki tg of_ kp sf rs), (aM g of_ 2 (he_ro 2 r9))] ++ he_pl g L ln M) := hD
  refine lv_aload_n hx hb dX11_offers_5 rfl (lv_at hl 0 rfl) ?_
  refine lv_iload_n hx hb dX11_offers_6 rfl (lv_at hl 1 rfl) ?_
  refine lv_iconst (v := 1) hx hb dX11_offers_7 (by decide) ?_
  refine lv_iconst (v := 2) hx hb dX11_offers_8 (by decide) ?_
  refine he_ci (wc := []) (wr := ([(oX11 m0 0 ta sz_ pl at_ fa fw cs fd rfm rt_ to_ rw_ wa ct rk rb cn br sm as_ go sh_ ir oa ob th ig sp_ ki tg of_ kp sf rs), (aM g of_ 2 (he_ro 2 r9))] ++ (he_pl g L ln M))) (va_runS (As := [.int (nI i), .int 1, .int 2]) (rest := [.ref m0]) ⟨hx, hb, hml, hown, hts⟩ (c_X11_in l g (nI i) 1 2 H.size) (va_cwS 3 hts gX11_offers_X11_in rfl rfl rfl (by decide +kernel) ⟨Nat.le_of_ble_eq_true rfl, Nat.le_of_ble_eq_true rfl⟩) (he_preS (wc := []) hK hP hD hS hA hE [] rfl rfl) rfl rfl hl.1 rfl (lv_room (Nat.le_of_ble_eq_true rfl)) dX11_offers_9 ⟨(Nat.le_of_ble_eq_true rfl), (Nat.le_of_ble_eq_true rfl)⟩) hP hD hS hA [] (he_is [0, 1] [(oX11 m0 0 ta sz_ pl at_ fa fw cs fd rfm rt_ to_ rw_ wa ct rk rb cn br sm as_ go sh_ ir oa ob th ig sp_ ki tg of_ kp sf rs), (aM g of_ 2 (he_ro 2 r9))] (he_pl g L ln M)) rfl (he_ixP rfl) (he_ndP rfl rfl) (he_disN (by decide) rfl) (fun r_1 u_2 H locs h_3 hP hD hS => ?_)
  have hP := va_P.swap hP
  have hD := va_D.swap hD
  subst h_3
  have hP : va_P g.1 vwCl ([(oX11 m0 0 ta sz_ pl at_ fa fw cs fd rfm rt_ to_ rw_ wa ct rk rb cn br sm as_ go sh_ ir oa ob th ig sp_ ki tg of_ kp sf rs), (aM g of_ 2 (he_ro 2 r9))] ++ he_pl g L ln M) H := hP
  have hD : va_D A ([(oX11 m0 0 ta sz_ pl at_ fa fw cs fd rfm rt_ to_ rw_ wa ct rk rb cn br sm as_ go sh_ ir oa ob th ig sp_ ki tg of_ kp sf rs), (aM g of_ 2 (he_ro 2 r9))] ++ he_pl g L ln M) := hD
  refine he_top (1) (he_within_in (a0 := 1) (B := 2) rfl rfl (by omega) (by omega) (by decide)) ?_
  refine lv_if_eq (tgt := 36) hx hb dX11_offers_12 (by decide) (fun c_4 => ?_) (fun c_4 => ?_)
  · exact absurd c_4 (by decide)
  · refine lv_iload_n hx hb dX11_offers_15 rfl (lv_at hl 2 rfl) ?_
    refine lv_iconst (v := 0) hx hb dX11_offers_16 (by decide) ?_
    refine lv_bipush (v := 11) hx hb dX11_offers_17 (by decide) ?_
    refine he_ci (wc := []) (wr := ([(oX11 m0 0 ta sz_ pl at_ fa fw cs fd rfm rt_ to_ rw_ wa ct rk rb cn br sm as_ go sh_ ir oa ob th ig sp_ ki tg of_ kp sf rs), (aM g of_ 2 (he_ro 2 r9))] ++ (he_pl g L ln M))) (va_runS (As := [.int (nI j), .int 0, .int 11]) (rest := [.ref m0]) ⟨hx, hb, hml, hown, hts⟩ (c_X11_in l g (nI j) 0 11 H.size) (va_cwS 3 hts gX11_offers_X11_in rfl rfl rfl (by decide +kernel) ⟨Nat.le_of_ble_eq_true rfl, Nat.le_of_ble_eq_true rfl⟩) (he_preS (wc := []) hK hP hD hS hA hE [] rfl rfl) rfl rfl hl.1 rfl (lv_room (Nat.le_of_ble_eq_true rfl)) dX11_offers_19 ⟨(Nat.le_of_ble_eq_true rfl), (Nat.le_of_ble_eq_true rfl)⟩) hP hD hS hA [] (he_is [0, 1] [(oX11 m0 0 ta sz_ pl at_ fa fw cs fd rfm rt_ to_ rw_ wa ct rk rb cn br sm as_ go sh_ ir oa ob th ig sp_ ki tg of_ kp sf rs), (aM g of_ 2 (he_ro 2 r9))] (he_pl g L ln M)) rfl (he_ixP rfl) (he_ndP rfl rfl) (he_disN (by decide) rfl) (fun r_5 u_6 H locs h_7 hP hD hS => ?_)
    have hP := va_P.swap hP
    have hD := va_D.swap hD
    subst h_7
    have hP : va_P g.1 vwCl ([(oX11 m0 0 ta sz_ pl at_ fa fw cs fd rfm rt_ to_ rw_ wa ct rk rb cn br sm as_ go sh_ ir oa ob th ig sp_ ki tg of_ kp sf rs), (aM g of_ 2 (he_ro 2 r9))] ++ he_pl g L ln M) H := hP
    have hD : va_D A ([(oX11 m0 0 ta sz_ pl at_ fa fw cs fd rfm rt_ to_ rw_ wa ct rk rb cn br sm as_ go sh_ ir oa ob th ig sp_ ki tg of_ kp sf rs), (aM g of_ 2 (he_ro 2 r9))] ++ he_pl g L ln M) := hD
    refine he_top (1) (he_within_in (a0 := 0) (B := 11) rfl rfl (by omega) (by omega) (by decide)) ?_
    refine lv_if_eq (tgt := 36) hx hb dX11_offers_22 (by decide) (fun c_8 => ?_) (fun c_8 => ?_)
    · exact absurd c_8 (by decide)
    · refine lv_iload_n hx hb dX11_offers_25 rfl (lv_at hl 3 rfl) ?_
      refine lv_iconst (v := 0) hx hb dX11_offers_26 (by decide) ?_
      refine lv_sipush (v := 999) hx hb dX11_offers_27 (by decide) ?_
      refine he_ci (wc := []) (wr := ([(oX11 m0 0 ta sz_ pl at_ fa fw cs fd rfm rt_ to_ rw_ wa ct rk rb cn br sm as_ go sh_ ir oa ob th ig sp_ ki tg of_ kp sf rs), (aM g of_ 2 (he_ro 2 r9))] ++ (he_pl g L ln M))) (va_runS (As := [.int z, .int 0, .int 999]) (rest := [.ref m0]) ⟨hx, hb, hml, hown, hts⟩ (c_X11_in l g z 0 999 H.size) (va_cwS 3 hts gX11_offers_X11_in rfl rfl rfl (by decide +kernel) ⟨Nat.le_of_ble_eq_true rfl, Nat.le_of_ble_eq_true rfl⟩) (he_preS (wc := []) hK hP hD hS hA hE [] rfl rfl) rfl rfl hl.1 rfl (lv_room (Nat.le_of_ble_eq_true rfl)) dX11_offers_30 ⟨(Nat.le_of_ble_eq_true rfl), (Nat.le_of_ble_eq_true rfl)⟩) hP hD hS hA [] (he_is [0, 1] [(oX11 m0 0 ta sz_ pl at_ fa fw cs fd rfm rt_ to_ rw_ wa ct rk rb cn br sm as_ go sh_ ir oa ob th ig sp_ ki tg of_ kp sf rs), (aM g of_ 2 (he_ro 2 r9))] (he_pl g L ln M)) rfl (he_ixP rfl) (he_ndP rfl rfl) (he_disN (by decide) rfl) (fun r_9 u_10 H locs h_11 hP hD hS => ?_)
      have hP := va_P.swap hP
      have hD := va_D.swap hD
      subst h_11
      have hP : va_P g.1 vwCl ([(oX11 m0 0 ta sz_ pl at_ fa fw cs fd rfm rt_ to_ rw_ wa ct rk rb cn br sm as_ go sh_ ir oa ob th ig sp_ ki tg of_ kp sf rs), (aM g of_ 2 (he_ro 2 r9))] ++ he_pl g L ln M) H := hP
      have hD : va_D A ([(oX11 m0 0 ta sz_ pl at_ fa fw cs fd rfm rt_ to_ rw_ wa ct rk rb cn br sm as_ go sh_ ir oa ob th ig sp_ ki tg of_ kp sf rs), (aM g of_ 2 (he_ro 2 r9))] ++ he_pl g L ln M) := hD
      refine he_top (1) (he_within_1 hok0) ?_
      refine lv_if_ne (tgt := 40) hx hb dX11_offers_33 (by decide) (fun c_12 => ?_) (fun c_12 => ?_)
      · refine lv_iconst (v := 0) hx hb dX11_offers_40 (by decide) ?_
        refine lv_iconst (v := 1) hx hb dX11_offers_41 (by decide) ?_
        refine lv_iconst (v := 2) hx hb dX11_offers_42 (by decide) ?_
        refine he_ci (wc := [(oX11 m0 0 ta sz_ pl at_ fa fw cs fd rfm rt_ to_ rw_ wa ct rk rb cn br sm as_ go sh_ ir oa ob th ig sp_ ki tg of_ kp sf rs)]) (wr := ([(aM g of_ 2 (he_ro 2 r9))] ++ (he_pl g L ln M))) (va_runV (As := [.int 0, .int 1, .int 2]) (rest := []) ⟨hx, hb, hml, hown, hts⟩ (c_X11_bad0 l g m0 fd rfm rt_ to_ rw_ wa rk rb cn br sm as_ go sh_ ki tg of_ kp rs ta sz_ pl at_ fa fw cs ct ir oa ob th ig sp_ sf 1 2 H.size) (cwV 3 hts gX11_offers_X11_bad rfl rfl rfl (by decide +kernel) ⟨Nat.le_of_ble_eq_true rfl, Nat.le_of_ble_eq_true rfl⟩) (he_preV (wc := [(oX11 m0 0 ta sz_ pl at_ fa fw cs fd rfm rt_ to_ rw_ wa ct rk rb cn br sm as_ go sh_ ir oa ob th ig sp_ ki tg of_ kp sf rs)]) hK hP hD hS hA hE [0] rfl rfl 0 rfl rfl) rfl rfl hl.1 rfl (lv_room (Nat.le_of_ble_eq_true rfl)) dX11_offers_43 ⟨(Nat.le_of_ble_eq_true rfl), (Nat.le_of_ble_eq_true rfl)⟩) hP hD hS hA [0] (he_is [1] [(oX11 m0 0 ta sz_ pl at_ fa fw cs fd rfm rt_ to_ rw_ wa ct rk rb cn br sm as_ go sh_ ir oa ob th ig sp_ ki tg of_ kp sf rs), (aM g of_ 2 (he_ro 2 r9))] (he_pl g L ln M)) rfl (he_ixP rfl) (he_ndP rfl rfl) (he_disN (by decide) rfl) (fun r_13 u_14 H locs h_15 hP hD hS => ?_)
        have hP := va_P.swap hP
        have hD := va_D.swap hD
        subst h_15
        have hP : va_P g.1 vwCl ([(aM g of_ 2 (he_ro 2 r9)), (oX11 m0 0 ta sz_ pl at_ fa fw cs fd rfm rt_ to_ rw_ wa ct rk rb cn br sm as_ go sh_ ir oa ob th ig sp_ ki tg of_ kp sf rs)] ++ he_pl g L ln M) H := hP
        have hD : va_D A ([(aM g of_ 2 (he_ro 2 r9)), (oX11 m0 0 ta sz_ pl at_ fa fw cs fd rfm rt_ to_ rw_ wa ct rk rb cn br sm as_ go sh_ ir oa ob th ig sp_ ki tg of_ kp sf rs)] ++ he_pl g L ln M) := hD
        refine lv_if_eq (tgt := 51) hx hb dX11_offers_46 (by decide) (fun c_16 => ?_) (fun c_16 => ?_)
        · refine lv_aload_n hx hb dX11_offers_51 rfl (lv_at hl 0 rfl) ?_
          refine va_get (v := .ref of_) (T := TX11) (N := 35) hx hb hts inX11 hown hK hP 1 rfl rfl 31 (by decide) f70 (fun _ h9 => h9) rfl dX11_offers_52 ?_
          refine lv_iload_n hx hb dX11_offers_55 rfl (lv_at hl 1 rfl) ?_
          refine lv_iconst (v := 1) hx hb dX11_offers_56 (by decide) ?_
          refine lv_isub hx hb dX11_offers_57 ?_
          refine he_top (nI (i - 1)) (pk_sub (b := 1) hi1) ?_
          refine he_aldm hx hb hK hP 0 rfl (i - 1) rfl (by first | assumption | decide | omega) (by decide) dX11_offers_58 ?_
          refine lv_iload_n hx hb dX11_offers_59 rfl (lv_at hl 2 rfl) ?_
          refine he_pald hx hb hK hP (F_r9 (i - 1) (by first | assumption | decide | omega)).1 (j) rfl (by rw [(F_r9 (i - 1) (by first | assumption | decide | omega)).2.1]; exact (by first | assumption | decide | omega)) (by rw [(F_r9 (i - 1) (by first | assumption | decide | omega)).2.1]; decide) (M (r9 (i - 1)) j) rfl dX11_offers_60 ?_
          refine lv_istore (lv' := [(4, .int (M (r9 (i - 1)) j)), (0, .ref m0), (1, .int (nI i)), (2, .int (nI j)), (3, .int z)]) hx hb dX11_offers_61 hl (by decide) rfl (fun ls hl => ?_)
          refine lv_aload_n hx hb dX11_offers_63 rfl (lv_at hl 1 rfl) ?_
          refine va_get (v := .ref of_) (T := TX11) (N := 35) hx hb hts inX11 hown hK hP 1 rfl rfl 31 (by decide) f70 (fun _ h9 => h9) rfl dX11_offers_64 ?_
          refine lv_iload_n hx hb dX11_offers_67 rfl (lv_at hl 2 rfl) ?_
          refine lv_iconst (v := 1) hx hb dX11_offers_68 (by decide) ?_
          refine lv_isub hx hb dX11_offers_69 ?_
          refine he_top (nI (i - 1)) (pk_sub (b := 1) hi1) ?_
          refine he_aldm hx hb hK hP 0 rfl (i - 1) rfl (by first | assumption | decide | omega) (by decide) dX11_offers_70 ?_
          refine lv_iload_n hx hb dX11_offers_71 rfl (lv_at hl 3 rfl) ?_
          refine lv_iload_n hx hb dX11_offers_72 rfl (lv_at hl 4 rfl) ?_
          refine he_past hx hb hK hP hD hS (F_r9 (i - 1) (by first | assumption | decide | omega)).1 (j) rfl (by rw [(F_r9 (i - 1) (by first | assumption | decide | omega)).2.1]; exact (by first | assumption | decide | omega)) (by rw [(F_r9 (i - 1) (by first | assumption | decide | omega)).2.1]; decide) dX11_offers_73 (fun H locs hP hD hS => ?_)
          have hP : va_P g.1 vwCl ([(aM g of_ 2 (he_ro 2 r9)), (oX11 m0 0 ta sz_ pl at_ fa fw cs fd rfm rt_ to_ rw_ wa ct rk rb cn br sm as_ go sh_ ir oa ob th ig sp_ ki tg of_ kp sf rs)] ++ he_pl g L ln (va_up M (r9 (i - 1)) (upd (M (r9 (i - 1))) j z))) H := hP
          have hD : va_D A ([(aM g of_ 2 (he_ro 2 r9)), (oX11 m0 0 ta sz_ pl at_ fa fw cs fd rfm rt_ to_ rw_ wa ct rk rb cn br sm as_ go sh_ ir oa ob th ig sp_ ki tg of_ kp sf rs)] ++ he_pl g L ln (va_up M (r9 (i - 1)) (upd (M (r9 (i - 1))) j z))) := hD
          refine lv_iload hx hb dX11_offers_74 (lv_at hl 0 rfl) ?_
          have hP := he_Psub (X := [(aM g of_ 2 (he_ro 2 r9)), (oX11 m0 0 ta sz_ pl at_ fa fw cs fd rfm rt_ to_ rw_ wa ct rk rb cn br sm as_ go sh_ ir oa ob th ig sp_ ki tg of_ kp sf rs)]) (X2 := [(oX11 m0 0 ta sz_ pl at_ fa fw cs fd rfm rt_ to_ rw_ wa ct rk rb cn br sm as_ go sh_ ir oa ob th ig sp_ ki tg of_ kp sf rs), (aM g of_ 2 (he_ro 2 r9))]) (P := (he_pl g L ln (va_up M (r9 (i - 1)) (upd (M (r9 (i - 1))) j z)))) hP [1, 0] rfl
          have hD := he_Dsub (X := [(aM g of_ 2 (he_ro 2 r9)), (oX11 m0 0 ta sz_ pl at_ fa fw cs fd rfm rt_ to_ rw_ wa ct rk rb cn br sm as_ go sh_ ir oa ob th ig sp_ ki tg of_ kp sf rs)]) (X2 := [(oX11 m0 0 ta sz_ pl at_ fa fw cs fd rfm rt_ to_ rw_ wa ct rk rb cn br sm as_ go sh_ ir oa ob th ig sp_ ki tg of_ kp sf rs), (aM g of_ 2 (he_ro 2 r9))]) (P := (he_pl g L ln (va_up M (r9 (i - 1)) (upd (M (r9 (i - 1))) j z)))) hD [1, 0] rfl rfl rfl
          exact he_ri hQ hx hb hr hlk hP hD hS dX11_offers_76 (Nat.le_of_ble_eq_true rfl) (Nat.le_of_ble_eq_true rfl) (va_up M (r9 (i - 1)) (upd (M (r9 (i - 1))) j z)) (rfl) (⟨rfl, rfl⟩)
        · exact absurd (by decide) c_16
      · exact absurd c_12 (by decide)
