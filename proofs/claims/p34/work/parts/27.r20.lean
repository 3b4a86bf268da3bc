section
set_option maxHeartbeats 4000000 in
set_option maxRecDepth 100000 in
theorem r_X11_months (l : Launch) (g : he_G) (m0 : Nat) (fd : Nat) (rfm : Nat) (rt_ : Nat) (to_ : Nat) (rw_ : Nat) (wa : Nat) (rk : Nat) (rb : Nat) (cn : Nat) (br : Nat) (sm : Nat) (as_ : Nat) (go : Nat) (sh_ : Nat) (ki : Nat) (tg : Nat) (of_ : Nat) (kp : Nat) (rs : Nat) (ta : Int32) (sz_ : Int32) (pl : Int32) (at_ : Int32) (fa : Int32) (fw : Int32) (cs : Int32) (ct : Int32) (oa : Int32) (ob : Int32) (th : Int32) (ig : Int32) (sp_ : Int32) (sf : Int32) (tw : Int32) (tl : Nat → Int32) (f : Nat → Int32) (w : Nat) (L : List Nat) (ln : Nat → Nat) (M : Nat → Nat → Int32) (r2 : Nat → Nat) (r3 : Nat → Nat) (r4 : Nat → Nat) (r5 : Nat → Nat) (r6 : Nat → Nat) (ci : Nat) (q2 : Nat) (ck : Nat) (q5 : Nat) (mm : Nat) (n : Nat) (nt : Nat) (R : Rw) (TQ : Nat → Nat) (htl : tl 0 = nI w) (hw6 : w ≤ 6) (h24 : f 24 = nI mm) (hm120 : mm ≤ 120) (hn1 : 1 ≤ n) (hn2 : n ≤ 120) (hok0 : okA w nt mm R) (hdat : datR w tl M r2 R) (hN0 : eqP mP f (R 5)) (hg0 : goR r5 r6 M mm R) (hTR : ∀ c, c < nt → toN (R (10 + c) 5) = TQ c) (hgo0 : gOk nt TQ r5 M mm) (hcn : ci < nt) (hci : ci < 7) (hcon : conR (M (r3 ci)) (M (r4 ci)) (R (10 + ci)) (R (20 + ci))) (hq2 : M (r3 ci) 2 = nI q2) (hq9 : q2 ≤ 9) (hck : M (r3 ci) 3 = nI ck) (hc99 : ck ≤ 99) (hq5 : M (r3 ci) 5 = nI q5) (hq36 : q5 ≤ 36) (hF0 : R 5 10 = nI ci ∨ R 5 10 = -1) (F_r2 : ∀ i, i < 6 → r2 i ∈ L ∧ ln (r2 i) = 2 ∧ True) (F_r3 : ∀ i, i < 7 → r3 i ∈ L ∧ ln (r3 i) = 7 ∧ True) (F_r4 : ∀ i, i < 7 → r4 i ∈ L ∧ ln (r4 i) = 36 ∧ True) (F_r5 : ∀ i, i < 121 → r5 i ∈ L ∧ ln (r5 i) = 25 ∧ True) (F_r6 : ∀ i, i < 120 → r6 i ∈ L ∧ ln (r6 i) = 6 ∧ True) (D_r2_r5 : ∀ i j, i < 6 → j < 121 → r2 i ≠ r5 j) (D_r2_r6 : ∀ i j, i < 6 → j < 120 → r2 i ≠ r6 j) (D_r3_r5 : ∀ i j, i < 7 → j < 121 → r3 i ≠ r5 j) (D_r3_r6 : ∀ i j, i < 7 → j < 120 → r3 i ≠ r6 j) (D_r4_r5 : ∀ i j, i < 7 → j < 121 → r4 i ≠ r5 j) (D_r4_r6 : ∀ i j, i < 7 → j < 120 → r4 i ≠ r6 j) (D_r5_r6 : ∀ i j, i < 121 → j < 120 → r5 i ≠ r6 j) (J_r5 : ∀ a b, a < 121 → b < 121 → r5 a = r5 b → a = b) (J_r6 : ∀ a b, a < 120 → b < 120 → r6 a = r6 b → a = b) : he_I l yX11_months wsX11_months 5 114 0 0 g [.ref m0, .int (nI n)] ([(oX11 m0 tw ta sz_ pl at_ fa fw cs fd rfm rt_ to_ rw_ wa ct rk rb cn br sm as_ go sh_ 0 oa ob th ig sp_ ki tg of_ kp sf rs), (aI g to_ 25 tl), (aI g sm 25 f), (aM g wa 6 (he_ro 6 r2)), (aM g sh_ 120 (he_ro 120 r6)), (aM g cn 7 (he_ro 7 r3)), (aM g br 7 (he_ro 7 r4)), (aM g go 121 (he_ro 121 r5))] ++ he_pl g L ln M) (fun (r : Int32) (u : Nat × (Nat → Int32) × (Nat → Nat → Int32)) => r = nI (u.1 - mm) ∧ u.1 = mm + min n (120 - mm) ∧ u.2.1 24 = nI u.1 ∧ eqP mP u.2.1 ((aMs R w mm (min n (120 - mm))) 5) ∧ goR r5 r6 u.2.2 u.1 (aMs R w mm (min n (120 - mm))) ∧ mEx2 r5 r6 121 120 M u.2.2 ∧ gOk nt TQ r5 u.2.2 u.1) (fun (u : Nat × (Nat → Int32) × (Nat → Nat → Int32)) => [(oX11 m0 0 ta sz_ pl at_ fa fw cs fd rfm rt_ to_ rw_ wa ct rk rb cn br sm as_ go sh_ 0 oa ob th ig sp_ ki tg of_ kp sf rs), (aI g to_ 25 tl), (aI g sm 25 u.2.1), (aM g wa 6 (he_ro 6 r2)), (aM g sh_ 120 (he_ro 120 r6)), (aM g cn 7 (he_ro 7 r3)), (aM g br 7 (he_ro 7 r4)), (aM g go 121 (he_ro 121 r5))] ++ he_pl g L ln u.2.2) := by
  refine he_begin (l := l) (g := g) (y := yX11_months) (wl := wsX11_months) (fr := 5) (lo := 114) (mc := 0) (ms := 0) (av := [.ref m0, .int (nI n)]) (ws := ([(oX11 m0 tw ta sz_ pl at_ fa fw cs fd rfm rt_ to_ rw_ wa ct rk rb cn br sm as_ go sh_ 0 oa ob th ig sp_ ki tg of_ kp sf rs), (aI g to_ 25 tl), (aI g sm 25 f), (aM g wa 6 (he_ro 6 r2)), (aM g sh_ 120 (he_ro 120 r6)), (aM g cn 7 (he_ro 7 r3)), (aM g br 7 (he_ro 7 r4)), (aM g go 121 (he_ro 121 r5))] ++ he_pl g L ln M)) (cc := cX11_months) (maxL := 5) (ret := (some .int)) (fun A => va_Qi (fun (r : Int32) (u : Nat × (Nat → Int32) × (Nat → Nat → Int32)) => r = nI (u.1 - mm) ∧ u.1 = mm + min n (120 - mm) ∧ u.2.1 24 = nI u.1 ∧ eqP mP u.2.1 ((aMs R w mm (min n (120 - mm))) 5) ∧ goR r5 r6 u.2.2 u.1 (aMs R w mm (min n (120 - mm))) ∧ mEx2 r5 r6 121 120 M u.2.2 ∧ gOk nt TQ r5 u.2.2 u.1) (fun u t => he_post g A ((fun (u : Nat × (Nat → Int32) × (Nat → Nat → Int32)) => [(oX11 m0 0 ta sz_ pl at_ fa fw cs fd rfm rt_ to_ rw_ wa ct rk rb cn br sm as_ go sh_ 0 oa ob th ig sp_ ki tg of_ kp sf rs), (aI g to_ 25 tl), (aI g sm 25 u.2.1), (aM g wa 6 (he_ro 6 r2)), (aM g sh_ 120 (he_ro 120 r6)), (aM g cn 7 (he_ro 7 r3)), (aM g br 7 (he_ro 7 r4)), (aM g go 121 (he_ro 121 r5))] ++ he_pl g L ln u.2.2) u) t) A) (by decide) rfl (Nat.le_of_ble_eq_true rfl) ?_
  intro p e s m args below meth c A ls H locs Q hQ hB
  obtain ⟨hx, hb, hr, hml, hown, hts, hlk, hin, hP, hK, hD, hS, hA, hE, hl⟩ := hB
  have hl : lv_has ls 5 [(0, .ref m0), (1, .int (nI n))] := hl
  have f85 := hts (.fieldLink RX11 85 "HiredEnemyModel" "thrown" "I") (iwoX11_months (k := 0) rfl)
  have inX11 : ∀ w ∈ wsX110, w ∈ wsX11_months := innX11_months_X11
  have f192 := hts (.fieldLink RX11 192 "HiredEnemyModel" "isReal" "Z") (iwoX11_months (k := 1) rfl)
  have f46 := hts (.fieldLink RX11 46 "HiredEnemyModel" "s" "[I") (iwoX11_months (k := 2) rfl)
  have f55 := hts (.fieldLink RX11 55 "HiredEnemyModel" "shot" "[[I") (iwoX11_months (k := 4) rfl)
  have f52 := hts (.fieldLink RX11 52 "HiredEnemyModel" "gone" "[[I") (iwoX11_months (k := 3) rfl)
  refine lv_aload_n hx hb dX11_months_0 rfl (lv_at hl 0 rfl) ?_
  refine lv_iconst (v := 0) hx hb dX11_months_1 (by decide) ?_
  refine va_put (v := .int 0) (ty := .int) (T := TX11) (N := 35) hx hb hts inX11 tyX11 tyX11_ok nmX11 hown hK hP hD hS 0 rfl rfl 0 (by decide) f85 (fun _ h9 => h9) rfl (by decide +kernel) rfl rfl (Nat.le_of_ble_eq_true rfl) dX11_months_2 (fun H locs hP hD hS => ?_)
  have hP : va_P g.1 vwCl ([(oX11 m0 0 ta sz_ pl at_ fa fw cs fd rfm rt_ to_ rw_ wa ct rk rb cn br sm as_ go sh_ 0 oa ob th ig sp_ ki tg of_ kp sf rs), (aI g to_ 25 tl), (aI g sm 25 f), (aM g wa 6 (he_ro 6 r2)), (aM g sh_ 120 (he_ro 120 r6)), (aM g cn 7 (he_ro 7 r3)), (aM g br 7 (he_ro 7 r4)), (aM g go 121 (he_ro 121 r5))] ++ he_pl g L ln M) H := hP
  have hD : va_D A ([(oX11 m0 0 ta sz_ pl at_ fa fw cs fd rfm rt_ to_ rw_ wa ct rk rb cn br sm as_ go sh_ 0 oa ob th ig sp_ ki tg of_ kp sf rs), (aI g to_ 25 tl), (aI g sm 25 f), (aM g wa 6 (he_ro 6 r2)), (aM g sh_ 120 (he_ro 120 r6)), (aM g cn 7 (he_ro 7 r3)), (aM g br 7 (he_ro 7 r4)), (aM g go 121 (he_ro 121 r5))] ++ he_pl g L ln M) := hD
  refine lv_aload_n hx hb dX11_months_5 rfl (lv_at hl 0 rfl) ?_
  refine lv_iload_n hx hb dX11_months_6 rfl (lv_at hl 1 rfl) ?_
  refine lv_iconst (v := 1) hx hb dX11_months_7 (by decide) ?_
  refine lv_bipush (v := 120) hx hb dX11_months_8 (by decide) ?_
  refine he_ci (wc := []) (wr := ([(oX11 m0 0 ta sz_ pl at_ fa fw cs fd rfm rt_ to_ rw_ wa ct rk rb cn br sm as_ go sh_ 0 oa ob th ig sp_ ki tg of_ kp sf rs), (aI g to_ 25 tl), (aI g sm 25 f), (aM g wa 6 (he_ro 6 r2)), (aM g sh_ 120 (he_ro 120 r6)), (aM g cn 7 (he_ro 7 r3)), (aM g br 7 (he_ro 7 r4)), (aM g go 121 (he_ro 121 r5))] ++ (he_pl g L ln M))) (va_runS (As := [.int (nI n), .int 1, .int 120]) (rest := [.ref m0]) ⟨hx, hb, hml, hown, hts⟩ (c_X11_in l g (nI n) 1 120 H.size) (va_cwS 3 hts gX11_months_X11_in rfl rfl rfl (by decide +kernel) ⟨Nat.le_of_ble_eq_true rfl, Nat.le_of_ble_eq_true rfl⟩) (he_preS (wc := []) hK hP hD hS hA hE [] rfl rfl) rfl rfl hl.1 rfl (lv_room (Nat.le_of_ble_eq_true rfl)) dX11_months_10 ⟨(Nat.le_of_ble_eq_true rfl), (Nat.le_of_ble_eq_true rfl)⟩) hP hD hS hA [] (he_is [0, 1, 2, 3, 4, 5, 6, 7] [(oX11 m0 0 ta sz_ pl at_ fa fw cs fd rfm rt_ to_ rw_ wa ct rk rb cn br sm as_ go sh_ 0 oa ob th ig sp_ ki tg of_ kp sf rs), (aI g to_ 25 tl), (aI g sm 25 f), (aM g wa 6 (he_ro 6 r2)), (aM g sh_ 120 (he_ro 120 r6)), (aM g cn 7 (he_ro 7 r3)), (aM g br 7 (he_ro 7 r4)), (aM g go 121 (he_ro 121 r5))] (he_pl g L ln M)) rfl (he_ixP rfl) (he_ndP rfl rfl) (he_disN (by decide) rfl) (fun r_1 u_2 H locs h_3 hP hD hS => ?_)
  have hP := va_P.swap hP
  have hD := va_D.swap hD
  subst h_3
  have hP : va_P g.1 vwCl ([(oX11 m0 0 ta sz_ pl at_ fa fw cs fd rfm rt_ to_ rw_ wa ct rk rb cn br sm as_ go sh_ 0 oa ob th ig sp_ ki tg of_ kp sf rs), (aI g to_ 25 tl), (aI g sm 25 f), (aM g wa 6 (he_ro 6 r2)), (aM g sh_ 120 (he_ro 120 r6)), (aM g cn 7 (he_ro 7 r3)), (aM g br 7 (he_ro 7 r4)), (aM g go 121 (he_ro 121 r5))] ++ he_pl g L ln M) H := hP
  have hD : va_D A ([(oX11 m0 0 ta sz_ pl at_ fa fw cs fd rfm rt_ to_ rw_ wa ct rk rb cn br sm as_ go sh_ 0 oa ob th ig sp_ ki tg of_ kp sf rs), (aI g to_ 25 tl), (aI g sm 25 f), (aM g wa 6 (he_ro 6 r2)), (aM g sh_ 120 (he_ro 120 r6)), (aM g cn 7 (he_ro 7 r3)), (aM g br 7 (he_ro 7 r4)), (aM g go 121 (he_ro 121 r5))] ++ he_pl g L ln M) := hD
  refine he_top (1) (he_within_in (a0 := 1) (B := 120) rfl rfl (by omega) (by omega) (by decide)) ?_
  refine lv_if_ne (tgt := 20) hx hb dX11_months_13 (by decide) (fun c_4 => ?_) (fun c_4 => ?_)
  · refine lv_iconst (v := 0) hx hb dX11_months_20 (by decide) ?_
    refine lv_iconst (v := 1) hx hb dX11_months_21 (by decide) ?_
    refine lv_iconst (v := 2) hx hb dX11_months_22 (by decide) ?_
    refine he_ci (wc := [(oX11 m0 0 ta sz_ pl at_ fa fw cs fd rfm rt_ to_ rw_ wa ct rk rb cn br sm as_ go sh_ 0 oa ob th ig sp_ ki tg of_ kp sf rs)]) (wr := ([(aI g to_ 25 tl), (aI g sm 25 f), (aM g wa 6 (he_ro 6 r2)), (aM g sh_ 120 (he_ro 120 r6)), (aM g cn 7 (he_ro 7 r3)), (aM g br 7 (he_ro 7 r4)), (aM g go 121 (he_ro 121 r5))] ++ (he_pl g L ln M))) (va_runV (As := [.int 0, .int 1, .int 2]) (rest := []) ⟨hx, hb, hml, hown, hts⟩ (c_X11_bad0 l g m0 fd rfm rt_ to_ rw_ wa rk rb cn br sm as_ go sh_ ki tg of_ kp rs ta sz_ pl at_ fa fw cs ct 0 oa ob th ig sp_ sf 1 2 H.size) (cwV 3 hts gX11_months_X11_bad rfl rfl rfl (by decide +kernel) ⟨Nat.le_of_ble_eq_true rfl, Nat.le_of_ble_eq_true rfl⟩) (he_preV (wc := [(oX11 m0 0 ta sz_ pl at_ fa fw cs fd rfm rt_ to_ rw_ wa ct rk rb cn br sm as_ go sh_ 0 oa ob th ig sp_ ki tg of_ kp sf rs)]) hK hP hD hS hA hE [0] rfl rfl 0 rfl rfl) rfl rfl hl.1 rfl (lv_room (Nat.le_of_ble_eq_true rfl)) dX11_months_23 ⟨(Nat.le_of_ble_eq_true rfl), (Nat.le_of_ble_eq_true rfl)⟩) hP hD hS hA [0] (he_is [1, 2, 3, 4, 5, 6, 7] [(oX11 m0 0 ta sz_ pl at_ fa fw cs fd rfm rt_ to_ rw_ wa ct rk rb cn br sm as_ go sh_ 0 oa ob th ig sp_ ki tg of_ kp sf rs), (aI g to_ 25 tl), (aI g sm 25 f), (aM g wa 6 (he_ro 6 r2)), (aM g sh_ 120 (he_ro 120 r6)), (aM g cn 7 (he_ro 7 r3)), (aM g br 7 (he_ro 7 r4)), (aM g go 121 (he_ro 121 r5))] (he_pl g L ln M)) rfl (he_ixP rfl) (he_ndP rfl rfl) (he_disN (by decide) rfl) (fun r_5 u_6 H locs h_7 hP hD hS => ?_)
    have hP := va_P.swap hP
    have hD := va_D.swap hD
    subst h_7
    have hP : va_P g.1 vwCl ([(aI g to_ 25 tl), (aI g sm 25 f), (aM g wa 6 (he_ro 6 r2)), (aM g sh_ 120 (he_ro 120 r6)), (aM g cn 7 (he_ro 7 r3)), (aM g br 7 (he_ro 7 r4)), (aM g go 121 (he_ro 121 r5)), (oX11 m0 0 ta sz_ pl at_ fa fw cs fd rfm rt_ to_ rw_ wa ct rk rb cn br sm as_ go sh_ 0 oa ob th ig sp_ ki tg of_ kp sf rs)] ++ he_pl g L ln M) H := hP
    have hD : va_D A ([(aI g to_ 25 tl), (aI g sm 25 f), (aM g wa 6 (he_ro 6 r2)), (aM g sh_ 120 (he_ro 120 r6)), (aM g cn 7 (he_ro 7 r3)), (aM g br 7 (he_ro 7 r4)), (aM g go 121 (he_ro 121 r5)), (oX11 m0 0 ta sz_ pl at_ fa fw cs fd rfm rt_ to_ rw_ wa ct rk rb cn br sm as_ go sh_ 0 oa ob th ig sp_ ki tg of_ kp sf rs)] ++ he_pl g L ln M) := hD
    refine lv_if_eq (tgt := 31) hx hb dX11_months_26 (by decide) (fun c_8 => ?_) (fun c_8 => ?_)
    · refine lv_iconst (v := 0) hx hb dX11_months_31 (by decide) ?_
      refine lv_istore_n (lv' := [(2, .int 0), (0, .ref m0), (1, .int (nI n))]) hx hb dX11_months_32 rfl hl (by decide) rfl (fun ls hl => ?_)
      refine lv_aload_n hx hb dX11_months_33 rfl (lv_at hl 1 rfl) ?_
      refine lv_iconst (v := 1) hx hb dX11_months_34 (by decide) ?_
      refine va_put (v := .int 1) (ty := .boolean) (T := TX11) (N := 35) hx hb hts inX11 tyX11 tyX11_ok nmX11 hown hK hP hD hS 7 rfl rfl 23 (by decide) f192 (fun _ h9 => h9) rfl (by decide +kernel) rfl rfl (Nat.le_of_ble_eq_true rfl) dX11_months_35 (fun H locs hP hD hS => ?_)
      have hP : va_P g.1 vwCl ([(aI g to_ 25 tl), (aI g sm 25 f), (aM g wa 6 (he_ro 6 r2)), (aM g sh_ 120 (he_ro 120 r6)), (aM g cn 7 (he_ro 7 r3)), (aM g br 7 (he_ro 7 r4)), (aM g go 121 (he_ro 121 r5)), (oX11 m0 0 ta sz_ pl at_ fa fw cs fd rfm rt_ to_ rw_ wa ct rk rb cn br sm as_ go sh_ 1 oa ob th ig sp_ ki tg of_ kp sf rs)] ++ he_pl g L ln M) H := hP
      have hD : va_D A ([(aI g to_ 25 tl), (aI g sm 25 f), (aM g wa 6 (he_ro 6 r2)), (aM g sh_ 120 (he_ro 120 r6)), (aM g cn 7 (he_ro 7 r3)), (aM g br 7 (he_ro 7 r4)), (aM g go 121 (he_ro 121 r5)), (oX11 m0 0 ta sz_ pl at_ fa fw cs fd rfm rt_ to_ rw_ wa ct rk rb cn br sm as_ go sh_ 1 oa ob th ig sp_ ki tg of_ kp sf rs)] ++ he_pl g L ln M) := hD
      have loop38 : ∀ (n9 : Nat) (j : Nat) (F : Nat → Int32) (Mj : Nat → Nat → Int32), n - j < n9 → (j ≤ n) → (mm + j ≤ 120) → (F 24 = nI (mm + j)) → (okA w nt (mm + j) (aMs R w mm j)) → (eqP mP F ((aMs R w mm j) 5)) → ((aMs R w mm j) 5 10 = nI ci ∨ (aMs R w mm j) 5 10 = -1) → (goR r5 r6 Mj (mm + j) (aMs R w mm j)) → (mEx2 r5 r6 121 120 M Mj) → (gOk nt TQ r5 Mj (mm + j)) → ∀ (H : Heap) (locs : List Loc) (ls : Array Slot), va_P g.1 vwCl ([(oX11 m0 0 ta sz_ pl at_ fa fw cs fd rfm rt_ to_ rw_ wa ct rk rb cn br sm as_ go sh_ 1 oa ob th ig sp_ ki tg of_ kp sf rs), (aI g to_ 25 tl), (aI g sm 25 F), (aM g wa 6 (he_ro 6 r2)), (aM g sh_ 120 (he_ro 120 r6)), (aM g cn 7 (he_ro 7 r3)), (aM g br 7 (he_ro 7 r4)), (aM g go 121 (he_ro 121 r5))] ++ he_pl g L ln Mj) H → va_D A ([(oX11 m0 0 ta sz_ pl at_ fa fw cs fd rfm rt_ to_ rw_ wa ct rk rb cn br sm as_ go sh_ 1 oa ob th ig sp_ ki tg of_ kp sf rs), (aI g to_ 25 tl), (aI g sm 25 F), (aM g wa 6 (he_ro 6 r2)), (aM g sh_ 120 (he_ro 120 r6)), (aM g cn 7 (he_ro 7 r3)), (aM g br 7 (he_ro 7 r4)), (aM g go 121 (he_ro 121 r5))] ++ he_pl g L ln Mj) → va_S A s.heap H locs → lv_has ls 5 [(0, .ref m0), (1, .int (nI n)), (2, .int (nI j))] → W p l e (he_room 5 114 0 0) s m args below meth c H locs 0 0 Q (F0 m 38 ls []) := by
        intro n9
        induction n9 with
        | zero => intro j F Mj hm9; exact absurd hm9 (Nat.not_lt_zero _)
        | succ n9 ih38 =>
          intro j F Mj hm9 hj hmj h24 hok hN hF hg hmx hgo H locs ls hP hD hS hl
          refine lv_iload_n hx hb dX11_months_38 rfl (lv_at hl 2 rfl) ?_
          refine lv_iload_n hx hb dX11_months_39 rfl (lv_at hl 1 rfl) ?_
          refine lv_icmp_ge (tgt := 131) hx hb dX11_months_40 (by decide) (fun c_9 => ?_) (fun c_9 => ?_)
          · have k_10 : n ≤ j := (he_cle (a := n) (b := j) rfl rfl (by omega) (by omega)).mp c_9
            refine lv_aload_n hx hb dX11_months_131 rfl (lv_at hl 0 rfl) ?_
            refine lv_iconst (v := 0) hx hb dX11_months_132 (by decide) ?_
            refine va_put (v := .int 0) (ty := .boolean) (T := TX11) (N := 35) hx hb hts inX11 tyX11 tyX11_ok nmX11 hown hK hP hD hS 0 rfl rfl 23 (by decide) f192 (fun _ h9 => h9) rfl (by decide +kernel) rfl rfl (Nat.le_of_ble_eq_true rfl) dX11_months_133 (fun H locs hP hD hS => ?_)
            have hP : va_P g.1 vwCl ([(oX11 m0 0 ta sz_ pl at_ fa fw cs fd rfm rt_ to_ rw_ wa ct rk rb cn br sm as_ go sh_ 0 oa ob th ig sp_ ki tg of_ kp sf rs), (aI g to_ 25 tl), (aI g sm 25 F), (aM g wa 6 (he_ro 6 r2)), (aM g sh_ 120 (he_ro 120 r6)), (aM g cn 7 (he_ro 7 r3)), (aM g br 7 (he_ro 7 r4)), (aM g go 121 (he_ro 121 r5))] ++ he_pl g L ln Mj) H := hP
            have hD : va_D A ([(oX11 m0 0 ta sz_ pl at_ fa fw cs fd rfm rt_ to_ rw_ wa ct rk rb cn br sm as_ go sh_ 0 oa ob th ig sp_ ki tg of_ kp sf rs), (aI g to_ 25 tl), (aI g sm 25 F), (aM g wa 6 (he_ro 6 r2)), (aM g sh_ 120 (he_ro 120 r6)), (aM g cn 7 (he_ro 7 r3)), (aM g br 7 (he_ro 7 r4)), (aM g go 121 (he_ro 121 r5))] ++ he_pl g L ln Mj) := hD
            refine lv_iload_n hx hb dX11_months_136 rfl (lv_at hl 2 rfl) ?_
            exact he_ri hQ hx hb hr hlk hP hD hS dX11_months_137 (Nat.le_of_ble_eq_true rfl) (Nat.le_of_ble_eq_true rfl) ((mm + j, F, Mj)) (rfl) (by (try dsimp only); exact ⟨by congr 1; omega, by (try dsimp only); omega, h24, by (try dsimp only); rw [show min n (120 - mm) = j by (try dsimp only); omega]; exact hN, by (try dsimp only); rw [show min n (120 - mm) = j by (try dsimp only); omega]; exact hg, hmx, hgo⟩)
          · have k_11 : ¬ (n ≤ j) := fun h9 => c_9 ((he_cle (a := n) (b := j) rfl rfl (by omega) (by omega)).mpr h9)
            refine lv_aload_n hx hb dX11_months_43 rfl (lv_at hl 0 rfl) ?_
            refine va_get (v := .ref sm) (T := TX11) (N := 35) hx hb hts inX11 hown hK hP 0 rfl rfl 19 (by decide) f46 (fun _ h9 => h9) rfl dX11_months_44 ?_
            refine lv_bipush (v := 24) hx hb dX11_months_47 (by decide) ?_
            refine he_iald hx hb hK hP 2 rfl (24) (by decide) (by decide) (by first | decide | assumption) (nI (mm + j)) h24 dX11_months_49 ?_
            refine lv_bipush (v := 120) hx hb dX11_months_50 (by decide) ?_
            refine lv_icmp_ge (tgt := 131) hx hb dX11_months_52 (by decide) (fun c_12 => ?_) (fun c_12 => ?_)
            · have k_13 : 120 ≤ mm + j := (he_cle (a := 120) (b := mm + j) (by decide) rfl (by omega) (by omega)).mp c_12
              refine lv_aload_n hx hb dX11_months_131 rfl (lv_at hl 0 rfl) ?_
              refine lv_iconst (v := 0) hx hb dX11_months_132 (by decide) ?_
              refine va_put (v := .int 0) (ty := .boolean) (T := TX11) (N := 35) hx hb hts inX11 tyX11 tyX11_ok nmX11 hown hK hP hD hS 0 rfl rfl 23 (by decide) f192 (fun _ h9 => h9) rfl (by decide +kernel) rfl rfl (Nat.le_of_ble_eq_true rfl) dX11_months_133 (fun H locs hP hD hS => ?_)
              have hP : va_P g.1 vwCl ([(oX11 m0 0 ta sz_ pl at_ fa fw cs fd rfm rt_ to_ rw_ wa ct rk rb cn br sm as_ go sh_ 0 oa ob th ig sp_ ki tg of_ kp sf rs), (aI g to_ 25 tl), (aI g sm 25 F), (aM g wa 6 (he_ro 6 r2)), (aM g sh_ 120 (he_ro 120 r6)), (aM g cn 7 (he_ro 7 r3)), (aM g br 7 (he_ro 7 r4)), (aM g go 121 (he_ro 121 r5))] ++ he_pl g L ln Mj) H := hP
              have hD : va_D A ([(oX11 m0 0 ta sz_ pl at_ fa fw cs fd rfm rt_ to_ rw_ wa ct rk rb cn br sm as_ go sh_ 0 oa ob th ig sp_ ki tg of_ kp sf rs), (aI g to_ 25 tl), (aI g sm 25 F), (aM g wa 6 (he_ro 6 r2)), (aM g sh_ 120 (he_ro 120 r6)), (aM g cn 7 (he_ro 7 r3)), (aM g br 7 (he_ro 7 r4)), (aM g go 121 (he_ro 121 r5))] ++ he_pl g L ln Mj) := hD
              refine lv_iload_n hx hb dX11_months_136 rfl (lv_at hl 2 rfl) ?_
              exact he_ri hQ hx hb hr hlk hP hD hS dX11_months_137 (Nat.le_of_ble_eq_true rfl) (Nat.le_of_ble_eq_true rfl) ((mm + j, F, Mj)) (rfl) (by (try dsimp only); exact ⟨by congr 1; omega, by (try dsimp only); omega, h24, by (try dsimp only); rw [show min n (120 - mm) = j by (try dsimp only); omega]; exact hN, by (try dsimp only); rw [show min n (120 - mm) = j by (try dsimp only); omega]; exact hg, hmx, hgo⟩)
            · have k_14 : ¬ (120 ≤ mm + j) := fun h9 => c_12 ((he_cle (a := 120) (b := mm + j) (by decide) rfl (by omega) (by omega)).mpr h9)
              refine lv_aload_n hx hb dX11_months_55 rfl (lv_at hl 0 rfl) ?_
              refine va_get (v := .ref sm) (T := TX11) (N := 35) hx hb hts inX11 hown hK hP 0 rfl rfl 19 (by decide) f46 (fun _ h9 => h9) rfl dX11_months_56 ?_
              refine lv_bipush (v := 24) hx hb dX11_months_59 (by decide) ?_
              refine he_iald hx hb hK hP 2 rfl (24) (by decide) (by decide) (by first | decide | assumption) (nI (mm + j)) h24 dX11_months_61 ?_
              refine lv_istore_n (lv' := [(3, .int (nI (mm + j))), (0, .ref m0), (1, .int (nI n)), (2, .int (nI j))]) hx hb dX11_months_62 rfl hl (by decide) rfl (fun ls hl => ?_)
              refine lv_iconst (v := 0) hx hb dX11_months_63 (by decide) ?_
              refine lv_istore (lv' := [(4, .int 0), (3, .int (nI (mm + j))), (0, .ref m0), (1, .int (nI n)), (2, .int (nI j))]) hx hb dX11_months_64 hl (by decide) rfl (fun ls hl => ?_)
              have loop66 : ∀ (n9 : Nat) (i1 : Nat) (M1 : Nat → Nat → Int32), 25 - i1 < n9 → (i1 ≤ 25) → (rFill (r5 (mm + j)) F Mj M1 i1) → ∀ (H : Heap) (locs : List Loc) (ls : Array Slot), va_P g.1 vwCl ([(oX11 m0 0 ta sz_ pl at_ fa fw cs fd rfm rt_ to_ rw_ wa ct rk rb cn br sm as_ go sh_ 1 oa ob th ig sp_ ki tg of_ kp sf rs), (aI g to_ 25 tl), (aI g sm 25 F), (aM g wa 6 (he_ro 6 r2)), (aM g sh_ 120 (he_ro 120 r6)), (aM g cn 7 (he_ro 7 r3)), (aM g br 7 (he_ro 7 r4)), (aM g go 121 (he_ro 121 r5))] ++ he_pl g L ln M1) H → va_D A ([(oX11 m0 0 ta sz_ pl at_ fa fw cs fd rfm rt_ to_ rw_ wa ct rk rb cn br sm as_ go sh_ 1 oa ob th ig sp_ ki tg of_ kp sf rs), (aI g to_ 25 tl), (aI g sm 25 F), (aM g wa 6 (he_ro 6 r2)), (aM g sh_ 120 (he_ro 120 r6)), (aM g cn 7 (he_ro 7 r3)), (aM g br 7 (he_ro 7 r4)), (aM g go 121 (he_ro 121 r5))] ++ he_pl g L ln M1) → va_S A s.heap H locs → lv_has ls 5 [(0, .ref m0), (1, .int (nI n)), (2, .int (nI j)), (3, .int (nI (mm + j))), (4, .int (nI i1))] → W p l e (he_room 5 114 0 0) s m args below meth c H locs 0 0 Q (F0 m 66 ls []) := by
                intro n9
                induction n9 with
                | zero => intro i1 M1 hm9; exact absurd hm9 (Nat.not_lt_zero _)
                | succ n9 ih66 =>
                  intro i1 M1 hm9 hi1 hfl H locs ls hP hD hS hl
                  refine lv_iload hx hb dX11_months_66 (lv_at hl 4 rfl) ?_
                  refine lv_bipush (v := 25) hx hb dX11_months_68 (by decide) ?_
                  refine lv_icmp_ge (tgt := 95) hx hb dX11_months_70 (by decide) (fun c_15 => ?_) (fun c_15 => ?_)
                  · have k_16 : 25 ≤ i1 := (he_cle (a := 25) (b := i1) (by decide) rfl (by omega) (by omega)).mp c_15
                    obtain rfl : i1 = 25 := by omega
                    refine lv_iconst (v := 0) hx hb dX11_months_95 (by decide) ?_
                    refine lv_istore (lv' := [(4, .int 0), (0, .ref m0), (1, .int (nI n)), (2, .int (nI j)), (3, .int (nI (mm + j)))]) hx hb dX11_months_96 hl (by decide) rfl (fun ls hl => ?_)
                    have loop98 : ∀ (n9 : Nat) (i2 : Nat) (M2 : Nat → Nat → Int32), 6 - i2 < n9 → (i2 ≤ 6) → (rFill (r6 (mm + j)) (fun _ => 0) M1 M2 i2) → ∀ (H : Heap) (locs : List Loc) (ls : Array Slot), va_P g.1 vwCl ([(oX11 m0 0 ta sz_ pl at_ fa fw cs fd rfm rt_ to_ rw_ wa ct rk rb cn br sm as_ go sh_ 1 oa ob th ig sp_ ki tg of_ kp sf rs), (aI g to_ 25 tl), (aI g sm 25 F), (aM g wa 6 (he_ro 6 r2)), (aM g sh_ 120 (he_ro 120 r6)), (aM g cn 7 (he_ro 7 r3)), (aM g br 7 (he_ro 7 r4)), (aM g go 121 (he_ro 121 r5))] ++ he_pl g L ln M2) H → va_D A ([(oX11 m0 0 ta sz_ pl at_ fa fw cs fd rfm rt_ to_ rw_ wa ct rk rb cn br sm as_ go sh_ 1 oa ob th ig sp_ ki tg of_ kp sf rs), (aI g to_ 25 tl), (aI g sm 25 F), (aM g wa 6 (he_ro 6 r2)), (aM g sh_ 120 (he_ro 120 r6)), (aM g cn 7 (he_ro 7 r3)), (aM g br 7 (he_ro 7 r4)), (aM g go 121 (he_ro 121 r5))] ++ he_pl g L ln M2) → va_S A s.heap H locs → lv_has ls 5 [(0, .ref m0), (1, .int (nI n)), (2, .int (nI j)), (3, .int (nI (mm + j))), (4, .int (nI i2))] → W p l e (he_room 5 114 0 0) s m args below meth c H locs 0 0 Q (F0 m 98 ls []) := by
                      intro n9
                      induction n9 with
                      | zero => intro i2 M2 hm9; exact absurd hm9 (Nat.not_lt_zero _)
                      | succ n9 ih98 =>
                        intro i2 M2 hm9 hi2 hsx H locs ls hP hD hS hl
                        refine lv_iload hx hb dX11_months_98 (lv_at hl 4 rfl) ?_
                        refine lv_bipush (v := 6) hx hb dX11_months_100 (by decide) ?_
                        refine lv_icmp_ge (tgt := 121) hx hb dX11_months_102 (by decide) (fun c_17 => ?_) (fun c_17 => ?_)
                        · have k_18 : 6 ≤ i2 := (he_cle (a := 6) (b := i2) (by decide) rfl (by omega) (by omega)).mp c_17
                          obtain rfl : i2 = 6 := by omega
                          refine lv_aload_n hx hb dX11_months_121 rfl (lv_at hl 0 rfl) ?_
                          rcases hF with hin | hno
                          · obtain ⟨it, h11, hiq, him⟩ := now_it hok hin hcn (by rw [aMs_n (by omega) (by omega), ← hcon.1 5 (by decide)]; exact hq5) hq36
                            have hf10 : F 10 = nI ci := (hN 10 (by decide : 10 < 24)).trans hin
                            have hf11 : F 11 = nI it := (hN 11 (by decide : 11 < 24)).trans h11
                            refine he_cv (wc := ([(oX11 m0 0 ta sz_ pl at_ fa fw cs fd rfm rt_ to_ rw_ wa ct rk rb cn br sm as_ go sh_ 1 oa ob th ig sp_ ki tg of_ kp sf rs), (aI g to_ 25 tl), (aI g sm 25 F), (aM g wa 6 (he_ro 6 r2)), (aM g sh_ 120 (he_ro 120 r6)), (aM g cn 7 (he_ro 7 r3)), (aM g br 7 (he_ro 7 r4))] ++ (he_pl g L ln M2))) (wr := [(aM g go 121 (he_ro 121 r5))]) (va_runV (As := []) (rest := []) ⟨hx, hb, hml, hown, hts⟩ (r_X11_monthP l g m0 fd rfm rt_ to_ rw_ wa rk rb cn br sm as_ go sh_ ki tg of_ kp rs ta sz_ pl at_ fa fw cs ct oa ob th ig sp_ sf 0 tl F w L ln M2 r2 r3 r4 r6 ci it q2 ck (mm + j) q5 (by first | assumption | decide | omega) (by first | assumption | decide | omega) (by first | assumption | decide | omega) hf10 hf11 (by omega) (by rw [(ex_2 hmx hfl hsx (by omega) (fun i9 hi9 => D_r4_r5 ci i9 hci hi9) (fun i9 hi9 => D_r4_r6 ci i9 hci hi9)), hcon.2 it (by omega)]; exact (hok0.2.2.2.2.2.2.2.1 ci hcn).2.2.2.2 it (by omega)) (by rw [(ex_2 hmx hfl hsx (by omega) (fun i9 hi9 => D_r3_r5 ci i9 hci hi9) (fun i9 hi9 => D_r3_r6 ci i9 hci hi9))]; exact hq2) (by first | assumption | decide | omega) (by rw [(ex_2 hmx hfl hsx (by omega) (fun i9 hi9 => D_r3_r5 ci i9 hci hi9) (fun i9 hi9 => D_r3_r6 ci i9 hci hi9))]; exact hck) (by first | assumption | decide | omega) h24 (by omega) (by first | assumption | decide | omega) (by first | assumption | decide | omega) (by first | assumption | decide | omega) (by first | assumption | decide | omega) (by first | assumption | decide | omega) (by first | assumption | decide | omega) (by first | assumption | decide | omega) (by rw [(ex_2 hmx hfl hsx (by omega) (fun i9 hi9 => D_r3_r5 ci i9 hci hi9) (fun i9 hi9 => D_r3_r6 ci i9 hci hi9))]; exact hq5) (by omega) hiq (by omega) H.size) (cwV 0 hts gX11_months_X11_monthGoes rfl rfl rfl (by decide +kernel) ⟨Nat.le_of_ble_eq_true rfl, Nat.le_of_ble_eq_true rfl⟩) (he_preV (wc := ([(oX11 m0 0 ta sz_ pl at_ fa fw cs fd rfm rt_ to_ rw_ wa ct rk rb cn br sm as_ go sh_ 1 oa ob th ig sp_ ki tg of_ kp sf rs), (aI g to_ 25 tl), (aI g sm 25 F), (aM g wa 6 (he_ro 6 r2)), (aM g sh_ 120 (he_ro 120 r6)), (aM g cn 7 (he_ro 7 r3)), (aM g br 7 (he_ro 7 r4))] ++ (he_pl g L ln M2))) hK hP hD hS hA hE (he_is [0, 1, 2, 3, 4, 5, 6] [(oX11 m0 0 ta sz_ pl at_ fa fw cs fd rfm rt_ to_ rw_ wa ct rk rb cn br sm as_ go sh_ 1 oa ob th ig sp_ ki tg of_ kp sf rs), (aI g to_ 25 tl), (aI g sm 25 F), (aM g wa 6 (he_ro 6 r2)), (aM g sh_ 120 (he_ro 120 r6)), (aM g cn 7 (he_ro 7 r3)), (aM g br 7 (he_ro 7 r4)), (aM g go 121 (he_ro 121 r5))] (he_pl g L ln M2)) (he_ixP rfl) (he_ndP rfl rfl) 0 rfl rfl) rfl rfl hl.1 rfl (lv_room (Nat.le_of_ble_eq_true rfl)) dX11_months_122 ⟨(Nat.le_of_ble_eq_true rfl), (Nat.le_of_ble_eq_true rfl)⟩) hP hD hS hA (he_is [0, 1, 2, 3, 4, 5, 6] [(oX11 m0 0 ta sz_ pl at_ fa fw cs fd rfm rt_ to_ rw_ wa ct rk rb cn br sm as_ go sh_ 1 oa ob th ig sp_ ki tg of_ kp sf rs), (aI g to_ 25 tl), (aI g sm 25 F), (aM g wa 6 (he_ro 6 r2)), (aM g sh_ 120 (he_ro 120 r6)), (aM g cn 7 (he_ro 7 r3)), (aM g br 7 (he_ro 7 r4)), (aM g go 121 (he_ro 121 r5))] (he_pl g L ln M2)) [7] (he_ixP rfl) rfl rfl (he_disP (by decide) rfl) (fun u_20 H locs h_21 hP hD hS => ?_)
                            obtain ⟨uf_22, Mu_23⟩ := u_20
                            try dsimp only at h_21
                            obtain ⟨hf_24, hf_25⟩ := h_21
                            have hP : va_P g.1 vwCl ([(aM g go 121 (he_ro 121 r5)), (oX11 m0 0 ta sz_ pl at_ fa fw cs fd rfm rt_ to_ rw_ wa ct rk rb cn br sm as_ go sh_ 1 oa ob th ig sp_ ki tg of_ kp sf rs), (aI g to_ 25 tl), (aI g sm 25 uf_22), (aM g wa 6 (he_ro 6 r2)), (aM g sh_ 120 (he_ro 120 r6)), (aM g cn 7 (he_ro 7 r3)), (aM g br 7 (he_ro 7 r4))] ++ he_pl g L ln Mu_23) H := hP
                            have hD : va_D A ([(aM g go 121 (he_ro 121 r5)), (oX11 m0 0 ta sz_ pl at_ fa fw cs fd rfm rt_ to_ rw_ wa ct rk rb cn br sm as_ go sh_ 1 oa ob th ig sp_ ki tg of_ kp sf rs), (aI g to_ 25 tl), (aI g sm 25 uf_22), (aM g wa 6 (he_ro 6 r2)), (aM g sh_ 120 (he_ro 120 r6)), (aM g cn 7 (he_ro 7 r3)), (aM g br 7 (he_ro 7 r4))] ++ he_pl g L ln Mu_23) := hD
                            refine lv_iinc (v := nI (j + 1)) (lv' := [(2, .int (nI (j + 1))), (0, .ref m0), (1, .int (nI n)), (3, .int (nI (mm + j))), (4, .int 6)]) hx hb dX11_months_125 hl (k := 2) rfl (nI_1 j) (by decide) rfl (fun ls hl => ?_)
                            refine lv_goto (tgt := 38) hx hb dX11_months_128 (by decide) ?_
                            have hP := he_Psub (X := [(aM g go 121 (he_ro 121 r5)), (oX11 m0 0 ta sz_ pl at_ fa fw cs fd rfm rt_ to_ rw_ wa ct rk rb cn br sm as_ go sh_ 1 oa ob th ig sp_ ki tg of_ kp sf rs), (aI g to_ 25 tl), (aI g sm 25 uf_22), (aM g wa 6 (he_ro 6 r2)), (aM g sh_ 120 (he_ro 120 r6)), (aM g cn 7 (he_ro 7 r3)), (aM g br 7 (he_ro 7 r4))]) (X2 := [(oX11 m0 0 ta sz_ pl at_ fa fw cs fd rfm rt_ to_ rw_ wa ct rk rb cn br sm as_ go sh_ 1 oa ob th ig sp_ ki tg of_ kp sf rs), (aI g to_ 25 tl), (aI g sm 25 uf_22), (aM g wa 6 (he_ro 6 r2)), (aM g sh_ 120 (he_ro 120 r6)), (aM g cn 7 (he_ro 7 r3)), (aM g br 7 (he_ro 7 r4)), (aM g go 121 (he_ro 121 r5))]) (P := (he_pl g L ln Mu_23)) hP [1, 2, 3, 4, 5, 6, 7, 0] rfl
                            have hD := he_Dsub (X := [(aM g go 121 (he_ro 121 r5)), (oX11 m0 0 ta sz_ pl at_ fa fw cs fd rfm rt_ to_ rw_ wa ct rk rb cn br sm as_ go sh_ 1 oa ob th ig sp_ ki tg of_ kp sf rs), (aI g to_ 25 tl), (aI g sm 25 uf_22), (aM g wa 6 (he_ro 6 r2)), (aM g sh_ 120 (he_ro 120 r6)), (aM g cn 7 (he_ro 7 r3)), (aM g br 7 (he_ro 7 r4))]) (X2 := [(oX11 m0 0 ta sz_ pl at_ fa fw cs fd rfm rt_ to_ rw_ wa ct rk rb cn br sm as_ go sh_ 1 oa ob th ig sp_ ki tg of_ kp sf rs), (aI g to_ 25 tl), (aI g sm 25 uf_22), (aM g wa 6 (he_ro 6 r2)), (aM g sh_ 120 (he_ro 120 r6)), (aM g cn 7 (he_ro 7 r3)), (aM g br 7 (he_ro 7 r4)), (aM g go 121 (he_ro 121 r5))]) (P := (he_pl g L ln Mu_23)) hD [1, 2, 3, 4, 5, 6, 7, 0] rfl rfl rfl
                            exact ih38 (j + 1) uf_22 Mu_23 (by omega) (by omega) (by omega) (by rw [hf_24]; exact rMonP_24.trans (by congr 1 <;> omega)) (ok_ms hok0 (j + 1) (by omega)) (by have h9 := ro_in (mm := mm + j) (Mu := Mu_23) hok (by omega) (⟨fun i9 h1 h2 => (hdat.1 i9 h1 h2).trans (by rw [aMs_n (by decide) (by decide)]), fun k9 hk9 => by rw [(ex_2 hmx hfl hsx (by omega) (fun i9 hi9 => D_r2_r5 k9 i9 (by omega) hi9) (fun i9 hi9 => D_r2_r6 k9 i9 (by omega) hi9)), aMs_n (by decide) (by decide), aMs_n (by decide) (by decide)]; exact hdat.2 k9 hk9⟩) (by rw [(ex_2 hmx hfl hsx (by omega) (fun i9 hi9 => D_r3_r5 ci i9 hci hi9) (fun i9 hi9 => D_r3_r6 ci i9 hci hi9)), (ex_2 hmx hfl hsx (by omega) (fun i9 hi9 => D_r4_r5 ci i9 hci hi9) (fun i9 hi9 => D_r4_r6 ci i9 hci hi9)), aMs_n (by omega) (by omega), aMs_n (by omega) (by omega)]; exact hcon) hcn (by rw [(ex_2 hmx hfl hsx (by omega) (fun i9 hi9 => D_r3_r5 ci i9 hci hi9) (fun i9 hi9 => D_r3_r6 ci i9 hci hi9))]; exact hq2) hq9 (by rw [(ex_2 hmx hfl hsx (by omega) (fun i9 hi9 => D_r3_r5 ci i9 hci hi9) (fun i9 hi9 => D_r3_r6 ci i9 hci hi9))]; exact hck) hc99 (by rw [(ex_2 hmx hfl hsx (by omega) (fun i9 hi9 => D_r3_r5 ci i9 hci hi9) (fun i9 hi9 => D_r3_r6 ci i9 hci hi9))]; exact hq5) hq36 hN hin h11 hiq (fun q9 hq9 => hsx.1 q9 hq9) hf_24 hf_25; exact h9.1) (by have h9 := ro_in (mm := mm + j) (Mu := Mu_23) hok (by omega) (⟨fun i9 h1 h2 => (hdat.1 i9 h1 h2).trans (by rw [aMs_n (by decide) (by decide)]), fun k9 hk9 => by rw [(ex_2 hmx hfl hsx (by omega) (fun i9 hi9 => D_r2_r5 k9 i9 (by omega) hi9) (fun i9 hi9 => D_r2_r6 k9 i9 (by omega) hi9)), aMs_n (by decide) (by decide), aMs_n (by decide) (by decide)]; exact hdat.2 k9 hk9⟩) (by rw [(ex_2 hmx hfl hsx (by omega) (fun i9 hi9 => D_r3_r5 ci i9 hci hi9) (fun i9 hi9 => D_r3_r6 ci i9 hci hi9)), (ex_2 hmx hfl hsx (by omega) (fun i9 hi9 => D_r4_r5 ci i9 hci hi9) (fun i9 hi9 => D_r4_r6 ci i9 hci hi9)), aMs_n (by omega) (by omega), aMs_n (by omega) (by omega)]; exact hcon) hcn (by rw [(ex_2 hmx hfl hsx (by omega) (fun i9 hi9 => D_r3_r5 ci i9 hci hi9) (fun i9 hi9 => D_r3_r6 ci i9 hci hi9))]; exact hq2) hq9 (by rw [(ex_2 hmx hfl hsx (by omega) (fun i9 hi9 => D_r3_r5 ci i9 hci hi9) (fun i9 hi9 => D_r3_r6 ci i9 hci hi9))]; exact hck) hc99 (by rw [(ex_2 hmx hfl hsx (by omega) (fun i9 hi9 => D_r3_r5 ci i9 hci hi9) (fun i9 hi9 => D_r3_r6 ci i9 hci hi9))]; exact hq5) hq36 hN hin h11 hiq (fun q9 hq9 => hsx.1 q9 hq9) hf_24 hf_25; exact h9.2.1) (by have h9 := ro_in (mm := mm + j) (Mu := Mu_23) hok (by omega) (⟨fun i9 h1 h2 => (hdat.1 i9 h1 h2).trans (by rw [aMs_n (by decide) (by decide)]), fun k9 hk9 => by rw [(ex_2 hmx hfl hsx (by omega) (fun i9 hi9 => D_r2_r5 k9 i9 (by omega) hi9) (fun i9 hi9 => D_r2_r6 k9 i9 (by omega) hi9)), aMs_n (by decide) (by decide), aMs_n (by decide) (by decide)]; exact hdat.2 k9 hk9⟩) (by rw [(ex_2 hmx hfl hsx (by omega) (fun i9 hi9 => D_r3_r5 ci i9 hci hi9) (fun i9 hi9 => D_r3_r6 ci i9 hci hi9)), (ex_2 hmx hfl hsx (by omega) (fun i9 hi9 => D_r4_r5 ci i9 hci hi9) (fun i9 hi9 => D_r4_r6 ci i9 hci hi9)), aMs_n (by omega) (by omega), aMs_n (by omega) (by omega)]; exact hcon) hcn (by rw [(ex_2 hmx hfl hsx (by omega) (fun i9 hi9 => D_r3_r5 ci i9 hci hi9) (fun i9 hi9 => D_r3_r6 ci i9 hci hi9))]; exact hq2) hq9 (by rw [(ex_2 hmx hfl hsx (by omega) (fun i9 hi9 => D_r3_r5 ci i9 hci hi9) (fun i9 hi9 => D_r3_r6 ci i9 hci hi9))]; exact hck) hc99 (by rw [(ex_2 hmx hfl hsx (by omega) (fun i9 hi9 => D_r3_r5 ci i9 hci hi9) (fun i9 hi9 => D_r3_r6 ci i9 hci hi9))]; exact hq5) hq36 hN hin h11 hiq (fun q9 hq9 => hsx.1 q9 hq9) hf_24 hf_25; exact go_m1 (mm := mm + j) hg hN J_r5 J_r6 D_r5_r6 (by omega) hfl hsx h9.2.2.1 h9.2.2.2) (by have h9 := ro_in (mm := mm + j) (Mu := Mu_23) hok (by omega) (⟨fun i9 h1 h2 => (hdat.1 i9 h1 h2).trans (by rw [aMs_n (by decide) (by decide)]), fun k9 hk9 => by rw [(ex_2 hmx hfl hsx (by omega) (fun i9 hi9 => D_r2_r5 k9 i9 (by omega) hi9) (fun i9 hi9 => D_r2_r6 k9 i9 (by omega) hi9)), aMs_n (by decide) (by decide), aMs_n (by decide) (by decide)]; exact hdat.2 k9 hk9⟩) (by rw [(ex_2 hmx hfl hsx (by omega) (fun i9 hi9 => D_r3_r5 ci i9 hci hi9) (fun i9 hi9 => D_r3_r6 ci i9 hci hi9)), (ex_2 hmx hfl hsx (by omega) (fun i9 hi9 => D_r4_r5 ci i9 hci hi9) (fun i9 hi9 => D_r4_r6 ci i9 hci hi9)), aMs_n (by omega) (by omega), aMs_n (by omega) (by omega)]; exact hcon) hcn (by rw [(ex_2 hmx hfl hsx (by omega) (fun i9 hi9 => D_r3_r5 ci i9 hci hi9) (fun i9 hi9 => D_r3_r6 ci i9 hci hi9))]; exact hq2) hq9 (by rw [(ex_2 hmx hfl hsx (by omega) (fun i9 hi9 => D_r3_r5 ci i9 hci hi9) (fun i9 hi9 => D_r3_r6 ci i9 hci hi9))]; exact hck) hc99 (by rw [(ex_2 hmx hfl hsx (by omega) (fun i9 hi9 => D_r3_r5 ci i9 hci hi9) (fun i9 hi9 => D_r3_r6 ci i9 hci hi9))]; exact hq5) hq36 hN hin h11 hiq (fun q9 hq9 => hsx.1 q9 hq9) hf_24 hf_25; exact ex_3 hmx hfl hsx (by omega) h9.2.2.2) (by have h9 := ro_in (mm := mm + j) (Mu := Mu_23) hok (by omega) (⟨fun i9 h1 h2 => (hdat.1 i9 h1 h2).trans (by rw [aMs_n (by decide) (by decide)]), fun k9 hk9 => by rw [(ex_2 hmx hfl hsx (by omega) (fun i9 hi9 => D_r2_r5 k9 i9 (by omega) hi9) (fun i9 hi9 => D_r2_r6 k9 i9 (by omega) hi9)), aMs_n (by decide) (by decide), aMs_n (by decide) (by decide)]; exact hdat.2 k9 hk9⟩) (by rw [(ex_2 hmx hfl hsx (by omega) (fun i9 hi9 => D_r3_r5 ci i9 hci hi9) (fun i9 hi9 => D_r3_r6 ci i9 hci hi9)), (ex_2 hmx hfl hsx (by omega) (fun i9 hi9 => D_r4_r5 ci i9 hci hi9) (fun i9 hi9 => D_r4_r6 ci i9 hci hi9)), aMs_n (by omega) (by omega), aMs_n (by omega) (by omega)]; exact hcon) hcn (by rw [(ex_2 hmx hfl hsx (by omega) (fun i9 hi9 => D_r3_r5 ci i9 hci hi9) (fun i9 hi9 => D_r3_r6 ci i9 hci hi9))]; exact hq2) hq9 (by rw [(ex_2 hmx hfl hsx (by omega) (fun i9 hi9 => D_r3_r5 ci i9 hci hi9) (fun i9 hi9 => D_r3_r6 ci i9 hci hi9))]; exact hck) hc99 (by rw [(ex_2 hmx hfl hsx (by omega) (fun i9 hi9 => D_r3_r5 ci i9 hci hi9) (fun i9 hi9 => D_r3_r6 ci i9 hci hi9))]; exact hq5) hq36 hN hin h11 hiq (fun q9 hq9 => hsx.1 q9 hq9) hf_24 hf_25; exact gOk_m1 (mm := mm + j) J_r5 D_r5_r6 (by omega) hgo hfl hsx h9.2.2.2 (sOk_A hok hN h24 (aMs_c hok0.2.1 hTR))) _ _ _ hP hD hS (lv_sub hl [1, 2, 0] rfl)
                          · have hf10 : F 10 = -1 := (hN 10 (by decide : 10 < 24)).trans hno
                            refine he_cv (wc := ([(oX11 m0 0 ta sz_ pl at_ fa fw cs fd rfm rt_ to_ rw_ wa ct rk rb cn br sm as_ go sh_ 1 oa ob th ig sp_ ki tg of_ kp sf rs), (aI g to_ 25 tl), (aI g sm 25 F), (aM g wa 6 (he_ro 6 r2))] ++ (he_pl g L ln M2))) (wr := [(aM g sh_ 120 (he_ro 120 r6)), (aM g cn 7 (he_ro 7 r3)), (aM g br 7 (he_ro 7 r4)), (aM g go 121 (he_ro 121 r5))]) (va_runV (As := []) (rest := []) ⟨hx, hb, hml, hown, hts⟩ (r_X11_monthN l g m0 fd rfm rt_ to_ rw_ wa rk rb cn br sm as_ go sh_ ki tg of_ kp rs ta sz_ pl at_ fa fw cs ct oa ob th ig sp_ sf 0 tl F w L ln M2 r2 (mm + j) (by first | assumption | decide | omega) (by first | assumption | decide | omega) hf10 h24 (by omega) (by first | assumption | decide | omega) H.size) (cwV 0 hts gX11_months_X11_monthGoes rfl rfl rfl (by decide +kernel) ⟨Nat.le_of_ble_eq_true rfl, Nat.le_of_ble_eq_true rfl⟩) (he_preV (wc := ([(oX11 m0 0 ta sz_ pl at_ fa fw cs fd rfm rt_ to_ rw_ wa ct rk rb cn br sm as_ go sh_ 1 oa ob th ig sp_ ki tg of_ kp sf rs), (aI g to_ 25 tl), (aI g sm 25 F), (aM g wa 6 (he_ro 6 r2))] ++ (he_pl g L ln M2))) hK hP hD hS hA hE (he_is [0, 1, 2, 3] [(oX11 m0 0 ta sz_ pl at_ fa fw cs fd rfm rt_ to_ rw_ wa ct rk rb cn br sm as_ go sh_ 1 oa ob th ig sp_ ki tg of_ kp sf rs), (aI g to_ 25 tl), (aI g sm 25 F), (aM g wa 6 (he_ro 6 r2)), (aM g sh_ 120 (he_ro 120 r6)), (aM g cn 7 (he_ro 7 r3)), (aM g br 7 (he_ro 7 r4)), (aM g go 121 (he_ro 121 r5))] (he_pl g L ln M2)) (he_ixP rfl) (he_ndP rfl rfl) 0 rfl rfl) rfl rfl hl.1 rfl (lv_room (Nat.le_of_ble_eq_true rfl)) dX11_months_122 ⟨(Nat.le_of_ble_eq_true rfl), (Nat.le_of_ble_eq_true rfl)⟩) hP hD hS hA (he_is [0, 1, 2, 3] [(oX11 m0 0 ta sz_ pl at_ fa fw cs fd rfm rt_ to_ rw_ wa ct rk rb cn br sm as_ go sh_ 1 oa ob th ig sp_ ki tg of_ kp sf rs), (aI g to_ 25 tl), (aI g sm 25 F), (aM g wa 6 (he_ro 6 r2)), (aM g sh_ 120 (he_ro 120 r6)), (aM g cn 7 (he_ro 7 r3)), (aM g br 7 (he_ro 7 r4)), (aM g go 121 (he_ro 121 r5))] (he_pl g L ln M2)) [4, 5, 6, 7] (he_ixP rfl) rfl rfl (he_disP (by decide) rfl) (fun u_27 H locs h_28 hP hD hS => ?_)
                            have hP : va_P g.1 vwCl ([(aM g sh_ 120 (he_ro 120 r6)), (aM g cn 7 (he_ro 7 r3)), (aM g br 7 (he_ro 7 r4)), (aM g go 121 (he_ro 121 r5)), (oX11 m0 0 ta sz_ pl at_ fa fw cs fd rfm rt_ to_ rw_ wa ct rk rb cn br sm as_ go sh_ 1 oa ob th ig sp_ ki tg of_ kp sf rs), (aI g to_ 25 tl), (aI g sm 25 (rMonN tl (fun i => M2 (r2 i) 0) (fun i => M2 (r2 i) 1) w (mm + j) F)), (aM g wa 6 (he_ro 6 r2))] ++ he_pl g L ln M2) H := hP
                            have hD : va_D A ([(aM g sh_ 120 (he_ro 120 r6)), (aM g cn 7 (he_ro 7 r3)), (aM g br 7 (he_ro 7 r4)), (aM g go 121 (he_ro 121 r5)), (oX11 m0 0 ta sz_ pl at_ fa fw cs fd rfm rt_ to_ rw_ wa ct rk rb cn br sm as_ go sh_ 1 oa ob th ig sp_ ki tg of_ kp sf rs), (aI g to_ 25 tl), (aI g sm 25 (rMonN tl (fun i => M2 (r2 i) 0) (fun i => M2 (r2 i) 1) w (mm + j) F)), (aM g wa 6 (he_ro 6 r2))] ++ he_pl g L ln M2) := hD
                            refine lv_iinc (v := nI (j + 1)) (lv' := [(2, .int (nI (j + 1))), (0, .ref m0), (1, .int (nI n)), (3, .int (nI (mm + j))), (4, .int 6)]) hx hb dX11_months_125 hl (k := 2) rfl (nI_1 j) (by decide) rfl (fun ls hl => ?_)
                            refine lv_goto (tgt := 38) hx hb dX11_months_128 (by decide) ?_
                            have hP := he_Psub (X := [(aM g sh_ 120 (he_ro 120 r6)), (aM g cn 7 (he_ro 7 r3)), (aM g br 7 (he_ro 7 r4)), (aM g go 121 (he_ro 121 r5)), (oX11 m0 0 ta sz_ pl at_ fa fw cs fd rfm rt_ to_ rw_ wa ct rk rb cn br sm as_ go sh_ 1 oa ob th ig sp_ ki tg of_ kp sf rs), (aI g to_ 25 tl), (aI g sm 25 (rMonN tl (fun i => M2 (r2 i) 0) (fun i => M2 (r2 i) 1) w (mm + j) F)), (aM g wa 6 (he_ro 6 r2))]) (X2 := [(oX11 m0 0 ta sz_ pl at_ fa fw cs fd rfm rt_ to_ rw_ wa ct rk rb cn br sm as_ go sh_ 1 oa ob th ig sp_ ki tg of_ kp sf rs), (aI g to_ 25 tl), (aI g sm 25 (rMonN tl (fun i => M2 (r2 i) 0) (fun i => M2 (r2 i) 1) w (mm + j) F)), (aM g wa 6 (he_ro 6 r2)), (aM g sh_ 120 (he_ro 120 r6)), (aM g cn 7 (he_ro 7 r3)), (aM g br 7 (he_ro 7 r4)), (aM g go 121 (he_ro 121 r5))]) (P := (he_pl g L ln M2)) hP [4, 5, 6, 7, 0, 1, 2, 3] rfl
                            have hD := he_Dsub (X := [(aM g sh_ 120 (he_ro 120 r6)), (aM g cn 7 (he_ro 7 r3)), (aM g br 7 (he_ro 7 r4)), (aM g go 121 (he_ro 121 r5)), (oX11 m0 0 ta sz_ pl at_ fa fw cs fd rfm rt_ to_ rw_ wa ct rk rb cn br sm as_ go sh_ 1 oa ob th ig sp_ ki tg of_ kp sf rs), (aI g to_ 25 tl), (aI g sm 25 (rMonN tl (fun i => M2 (r2 i) 0) (fun i => M2 (r2 i) 1) w (mm + j) F)), (aM g wa 6 (he_ro 6 r2))]) (X2 := [(oX11 m0 0 ta sz_ pl at_ fa fw cs fd rfm rt_ to_ rw_ wa ct rk rb cn br sm as_ go sh_ 1 oa ob th ig sp_ ki tg of_ kp sf rs), (aI g to_ 25 tl), (aI g sm 25 (rMonN tl (fun i => M2 (r2 i) 0) (fun i => M2 (r2 i) 1) w (mm + j) F)), (aM g wa 6 (he_ro 6 r2)), (aM g sh_ 120 (he_ro 120 r6)), (aM g cn 7 (he_ro 7 r3)), (aM g br 7 (he_ro 7 r4)), (aM g go 121 (he_ro 121 r5))]) (P := (he_pl g L ln M2)) hD [4, 5, 6, 7, 0, 1, 2, 3] rfl rfl rfl
                            exact ih38 (j + 1) (rMonN tl (fun i => M2 (r2 i) 0) (fun i => M2 (r2 i) 1) w (mm + j) F) M2 (by omega) (by omega) (by omega) (Eq.trans upd_s (by congr 1 <;> omega)) (ok_ms hok0 (j + 1) (by omega)) (by have h9 := ro_no (mm := mm + j) hok (⟨fun i9 h1 h2 => (hdat.1 i9 h1 h2).trans (by rw [aMs_n (by decide) (by decide)]), fun k9 hk9 => by rw [(ex_2 hmx hfl hsx (by omega) (fun i9 hi9 => D_r2_r5 k9 i9 (by omega) hi9) (fun i9 hi9 => D_r2_r6 k9 i9 (by omega) hi9)), aMs_n (by decide) (by decide), aMs_n (by decide) (by decide)]; exact hdat.2 k9 hk9⟩) hN hno rfl (fun q9 hq9 => hsx.1 q9 hq9); exact h9.1) (by have h9 := ro_no (mm := mm + j) hok (⟨fun i9 h1 h2 => (hdat.1 i9 h1 h2).trans (by rw [aMs_n (by decide) (by decide)]), fun k9 hk9 => by rw [(ex_2 hmx hfl hsx (by omega) (fun i9 hi9 => D_r2_r5 k9 i9 (by omega) hi9) (fun i9 hi9 => D_r2_r6 k9 i9 (by omega) hi9)), aMs_n (by decide) (by decide), aMs_n (by decide) (by decide)]; exact hdat.2 k9 hk9⟩) hN hno rfl (fun q9 hq9 => hsx.1 q9 hq9); exact Or.inr h9.2.1) (by have h9 := ro_no (mm := mm + j) hok (⟨fun i9 h1 h2 => (hdat.1 i9 h1 h2).trans (by rw [aMs_n (by decide) (by decide)]), fun k9 hk9 => by rw [(ex_2 hmx hfl hsx (by omega) (fun i9 hi9 => D_r2_r5 k9 i9 (by omega) hi9) (fun i9 hi9 => D_r2_r6 k9 i9 (by omega) hi9)), aMs_n (by decide) (by decide), aMs_n (by decide) (by decide)]; exact hdat.2 k9 hk9⟩) hN hno rfl (fun q9 hq9 => hsx.1 q9 hq9); exact go_m1 (mm := mm + j) (Mu := M2) hg hN J_r5 J_r6 D_r5_r6 (by omega) hfl hsx h9.2.2 (fun _ _ => rfl)) (by have h9 := ro_no (mm := mm + j) hok (⟨fun i9 h1 h2 => (hdat.1 i9 h1 h2).trans (by rw [aMs_n (by decide) (by decide)]), fun k9 hk9 => by rw [(ex_2 hmx hfl hsx (by omega) (fun i9 hi9 => D_r2_r5 k9 i9 (by omega) hi9) (fun i9 hi9 => D_r2_r6 k9 i9 (by omega) hi9)), aMs_n (by decide) (by decide), aMs_n (by decide) (by decide)]; exact hdat.2 k9 hk9⟩) hN hno rfl (fun q9 hq9 => hsx.1 q9 hq9); exact ex_3 hmx hfl hsx (by omega) (fun _ _ => rfl)) (by have h9 := ro_no (mm := mm + j) hok (⟨fun i9 h1 h2 => (hdat.1 i9 h1 h2).trans (by rw [aMs_n (by decide) (by decide)]), fun k9 hk9 => by rw [(ex_2 hmx hfl hsx (by omega) (fun i9 hi9 => D_r2_r5 k9 i9 (by omega) hi9) (fun i9 hi9 => D_r2_r6 k9 i9 (by omega) hi9)), aMs_n (by decide) (by decide), aMs_n (by decide) (by decide)]; exact hdat.2 k9 hk9⟩) hN hno rfl (fun q9 hq9 => hsx.1 q9 hq9); exact gOk_m1 (mm := mm + j) J_r5 D_r5_r6 (by omega) hgo hfl hsx (fun _ _ => rfl) (sOk_A hok hN h24 (aMs_c hok0.2.1 hTR))) _ _ _ hP hD hS (lv_sub hl [1, 2, 0] rfl)
                        · have k_29 : ¬ (6 ≤ i2) := fun h9 => c_17 ((he_cle (a := 6) (b := i2) (by decide) rfl (by omega) (by omega)).mpr h9)
                          refine lv_aload_n hx hb dX11_months_105 rfl (lv_at hl 0 rfl) ?_
                          refine va_get (v := .ref sh_) (T := TX11) (N := 35) hx hb hts inX11 hown hK hP 0 rfl rfl 22 (by decide) f55 (fun _ h9 => h9) rfl dX11_months_106 ?_
                          refine lv_iload_n hx hb dX11_months_109 rfl (lv_at hl 3 rfl) ?_
                          refine he_aldm hx hb hK hP 4 rfl (mm + j) rfl (by first | assumption | decide | omega) (by decide) dX11_months_110 ?_
                          refine lv_iload hx hb dX11_months_111 (lv_at hl 4 rfl) ?_
                          refine lv_iconst (v := 0) hx hb dX11_months_113 (by decide) ?_
                          refine he_past hx hb hK hP hD hS (F_r6 (mm + j) (by first | assumption | decide | omega)).1 (i2) rfl (by rw [(F_r6 (mm + j) (by first | assumption | decide | omega)).2.1]; exact (by first | assumption | decide | omega)) (by rw [(F_r6 (mm + j) (by first | assumption | decide | omega)).2.1]; decide) dX11_months_114 (fun H locs hP hD hS => ?_)
                          have hP : va_P g.1 vwCl ([(oX11 m0 0 ta sz_ pl at_ fa fw cs fd rfm rt_ to_ rw_ wa ct rk rb cn br sm as_ go sh_ 1 oa ob th ig sp_ ki tg of_ kp sf rs), (aI g to_ 25 tl), (aI g sm 25 F), (aM g wa 6 (he_ro 6 r2)), (aM g sh_ 120 (he_ro 120 r6)), (aM g cn 7 (he_ro 7 r3)), (aM g br 7 (he_ro 7 r4)), (aM g go 121 (he_ro 121 r5))] ++ he_pl g L ln (va_up M2 (r6 (mm + j)) (upd (M2 (r6 (mm + j))) i2 0))) H := hP
                          have hD : va_D A ([(oX11 m0 0 ta sz_ pl at_ fa fw cs fd rfm rt_ to_ rw_ wa ct rk rb cn br sm as_ go sh_ 1 oa ob th ig sp_ ki tg of_ kp sf rs), (aI g to_ 25 tl), (aI g sm 25 F), (aM g wa 6 (he_ro 6 r2)), (aM g sh_ 120 (he_ro 120 r6)), (aM g cn 7 (he_ro 7 r3)), (aM g br 7 (he_ro 7 r4)), (aM g go 121 (he_ro 121 r5))] ++ he_pl g L ln (va_up M2 (r6 (mm + j)) (upd (M2 (r6 (mm + j))) i2 0))) := hD
                          refine lv_iinc (v := nI (i2 + 1)) (lv' := [(4, .int (nI (i2 + 1))), (0, .ref m0), (1, .int (nI n)), (2, .int (nI j)), (3, .int (nI (mm + j)))]) hx hb dX11_months_115 hl (k := 4) rfl (nI_1 i2) (by decide) rfl (fun ls hl => ?_)
                          refine lv_goto (tgt := 98) hx hb dX11_months_118 (by decide) ?_
                          exact ih98 (i2 + 1) (va_up M2 (r6 (mm + j)) (upd (M2 (r6 (mm + j))) i2 0)) (by omega) (by omega) (rFill_s (f := fun _ => 0) hsx) _ _ _ hP hD hS (lv_sub hl [1, 2, 3, 4, 0] rfl)
                    exact loop98 ((6 - 0) + 1) 0 M1 (Nat.lt_succ_self _) (Nat.zero_le _) (rFill_0 _ _ _) _ _ _ hP hD hS (lv_sub hl [1, 2, 3, 4, 0] rfl)
                  · have k_30 : ¬ (25 ≤ i1) := fun h9 => c_15 ((he_cle (a := 25) (b := i1) (by decide) rfl (by omega) (by omega)).mpr h9)
                    refine lv_aload_n hx hb dX11_months_73 rfl (lv_at hl 0 rfl) ?_
                    refine va_get (v := .ref go) (T := TX11) (N := 35) hx hb hts inX11 hown hK hP 0 rfl rfl 21 (by decide) f52 (fun _ h9 => h9) rfl dX11_months_74 ?_
                    refine lv_iload_n hx hb dX11_months_77 rfl (lv_at hl 3 rfl) ?_
                    refine he_aldm hx hb hK hP 7 rfl (mm + j) rfl (by first | assumption | decide | omega) (by decide) dX11_months_78 ?_
                    refine lv_iload hx hb dX11_months_79 (lv_at hl 4 rfl) ?_
                    refine lv_aload_n hx hb dX11_months_81 rfl (lv_at hl 0 rfl) ?_
                    refine va_get (v := .ref sm) (T := TX11) (N := 35) hx hb hts inX11 hown hK hP 0 rfl rfl 19 (by decide) f46 (fun _ h9 => h9) rfl dX11_months_82 ?_
                    refine lv_iload hx hb dX11_months_85 (lv_at hl 4 rfl) ?_
                    refine he_iald hx hb hK hP 2 rfl (i1) rfl (by first | assumption | decide | omega) (by first | decide | assumption) (F i1) rfl dX11_months_87 ?_
                    refine he_past hx hb hK hP hD hS (F_r5 (mm + j) (by first | assumption | decide | omega)).1 (i1) rfl (by rw [(F_r5 (mm + j) (by first | assumption | decide | omega)).2.1]; exact (by first | assumption | decide | omega)) (by rw [(F_r5 (mm + j) (by first | assumption | decide | omega)).2.1]; decide) dX11_months_88 (fun H locs hP hD hS => ?_)
                    have hP : va_P g.1 vwCl ([(oX11 m0 0 ta sz_ pl at_ fa fw cs fd rfm rt_ to_ rw_ wa ct rk rb cn br sm as_ go sh_ 1 oa ob th ig sp_ ki tg of_ kp sf rs), (aI g to_ 25 tl), (aI g sm 25 F), (aM g wa 6 (he_ro 6 r2)), (aM g sh_ 120 (he_ro 120 r6)), (aM g cn 7 (he_ro 7 r3)), (aM g br 7 (he_ro 7 r4)), (aM g go 121 (he_ro 121 r5))] ++ he_pl g L ln (va_up M1 (r5 (mm + j)) (upd (M1 (r5 (mm + j))) i1 (F i1)))) H := hP
                    have hD : va_D A ([(oX11 m0 0 ta sz_ pl at_ fa fw cs fd rfm rt_ to_ rw_ wa ct rk rb cn br sm as_ go sh_ 1 oa ob th ig sp_ ki tg of_ kp sf rs), (aI g to_ 25 tl), (aI g sm 25 F), (aM g wa 6 (he_ro 6 r2)), (aM g sh_ 120 (he_ro 120 r6)), (aM g cn 7 (he_ro 7 r3)), (aM g br 7 (he_ro 7 r4)), (aM g go 121 (he_ro 121 r5))] ++ he_pl g L ln (va_up M1 (r5 (mm + j)) (upd (M1 (r5 (mm + j))) i1 (F i1)))) := hD
                    refine lv_iinc (v := nI (i1 + 1)) (lv' := [(4, .int (nI (i1 + 1))), (0, .ref m0), (1, .int (nI n)), (2, .int (nI j)), (3, .int (nI (mm + j)))]) hx hb dX11_months_89 hl (k := 4) rfl (nI_1 i1) (by decide) rfl (fun ls hl => ?_)
                    refine lv_goto (tgt := 66) hx hb dX11_months_92 (by decide) ?_
                    exact ih66 (i1 + 1) (va_up M1 (r5 (mm + j)) (upd (M1 (r5 (mm + j))) i1 (F i1))) (by omega) (by omega) (rFill_s hfl) _ _ _ hP hD hS (lv_sub hl [1, 2, 3, 4, 0] rfl)
              exact loop66 ((25 - 0) + 1) 0 Mj (Nat.lt_succ_self _) (Nat.zero_le _) (rFill_0 _ _ _) _ _ _ hP hD hS (lv_sub hl [2, 3, 4, 1, 0] rfl)
      have hP := he_Psub (X := [(aI g to_ 25 tl), (aI g sm 25 f), (aM g wa 6 (he_ro 6 r2)), (aM g sh_ 120 (he_ro 120 r6)), (aM g cn 7 (he_ro 7 r3)), (aM g br 7 (he_ro 7 r4)), (aM g go 121 (he_ro 121 r5)), (oX11 m0 0 ta sz_ pl at_ fa fw cs fd rfm rt_ to_ rw_ wa ct rk rb cn br sm as_ go sh_ 1 oa ob th ig sp_ ki tg of_ kp sf rs)]) (X2 := [(oX11 m0 0 ta sz_ pl at_ fa fw cs fd rfm rt_ to_ rw_ wa ct rk rb cn br sm as_ go sh_ 1 oa ob th ig sp_ ki tg of_ kp sf rs), (aI g to_ 25 tl), (aI g sm 25 f), (aM g wa 6 (he_ro 6 r2)), (aM g sh_ 120 (he_ro 120 r6)), (aM g cn 7 (he_ro 7 r3)), (aM g br 7 (he_ro 7 r4)), (aM g go 121 (he_ro 121 r5))]) (P := (he_pl g L ln M)) hP [7, 0, 1, 2, 3, 4, 5, 6] rfl
      have hD := he_Dsub (X := [(aI g to_ 25 tl), (aI g sm 25 f), (aM g wa 6 (he_ro 6 r2)), (aM g sh_ 120 (he_ro 120 r6)), (aM g cn 7 (he_ro 7 r3)), (aM g br 7 (he_ro 7 r4)), (aM g go 121 (he_ro 121 r5)), (oX11 m0 0 ta sz_ pl at_ fa fw cs fd rfm rt_ to_ rw_ wa ct rk rb cn br sm as_ go sh_ 1 oa ob th ig sp_ ki tg of_ kp sf rs)]) (X2 := [(oX11 m0 0 ta sz_ pl at_ fa fw cs fd rfm rt_ to_ rw_ wa ct rk rb cn br sm as_ go sh_ 1 oa ob th ig sp_ ki tg of_ kp sf rs), (aI g to_ 25 tl), (aI g sm 25 f), (aM g wa 6 (he_ro 6 r2)), (aM g sh_ 120 (he_ro 120 r6)), (aM g cn 7 (he_ro 7 r3)), (aM g br 7 (he_ro 7 r4)), (aM g go 121 (he_ro 121 r5))]) (P := (he_pl g L ln M)) hD [7, 0, 1, 2, 3, 4, 5, 6] rfl rfl rfl
      exact loop38 ((n - 0) + 1) 0 f M (Nat.lt_succ_self _) (Nat.zero_le _) hm120 h24 hok0 hN0 hF0 hg0 (mEx2_r _ _ _ _ _) hgo0 _ _ _ hP hD hS (lv_sub hl [1, 2, 0] rfl)
    · exact absurd (by decide) c_8
  · exact absurd c_4 (by decide)
set_option maxHeartbeats 4000000 in
set_option maxRecDepth 100000 in
theorem r_X11_monthsN (l : Launch) (g : he_G) (m0 : Nat) (fd : Nat) (rfm : Nat) (rt_ : Nat) (to_ : Nat) (rw_ : Nat) (wa : Nat) (rk : Nat) (rb : Nat) (cn : Nat) (br : Nat) (sm : Nat) (as_ : Nat) (go : Nat) (sh_ : Nat) (ki : Nat) (tg : Nat) (of_ : Nat) (kp : Nat) (rs : Nat) (ta : Int32) (sz_ : Int32) (pl : Int32) (at_ : Int32) (fa : Int32) (fw : Int32) (cs : Int32) (ct : Int32) (oa : Int32) (ob : Int32) (th : Int32) (ig : Int32) (sp_ : Int32) (sf : Int32) (tw : Int32) (tl : Nat → Int32) (f : Nat → Int32) (w : Nat) (L : List Nat) (ln : Nat → Nat) (M : Nat → Nat → Int32) (r2 : Nat → Nat) (r5 : Nat → Nat) (r6 : Nat → Nat) (mm : Nat) (n : Nat) (nt : Nat) (R : Rw) (TQ : Nat → Nat) (htl : tl 0 = nI w) (hw6 : w ≤ 6) (h24 : f 24 = nI mm) (hm120 : mm ≤ 120) (hn1 : 1 ≤ n) (hn2 : n ≤ 120) (hok0 : okA w nt mm R) (hdat : datR w tl M r2 R) (hN0 : eqP mP f (R 5)) (hg0 : goR r5 r6 M mm R) (hTR : ∀ c, c < nt → toN (R (10 + c) 5) = TQ c) (hgo0 : gOk nt TQ r5 M mm) (hF0 : R 5 10 = -1) (F_r2 : ∀ i, i < 6 → r2 i ∈ L ∧ ln (r2 i) = 2 ∧ True) (F_r5 : ∀ i, i < 121 → r5 i ∈ L ∧ ln (r5 i) = 25 ∧ True) (F_r6 : ∀ i, i < 120 → r6 i ∈ L ∧ ln (r6 i) = 6 ∧ True) (D_r2_r5 : ∀ i j, i < 6 → j < 121 → r2 i ≠ r5 j) (D_r2_r6 : ∀ i j, i < 6 → j < 120 → r2 i ≠ r6 j) (D_r5_r6 : ∀ i j, i < 121 → j < 120 → r5 i ≠ r6 j) (J_r5 : ∀ a b, a < 121 → b < 121 → r5 a = r5 b → a = b) (J_r6 : ∀ a b, a < 120 → b < 120 → r6 a = r6 b → a = b) : he_I l yX11_months wsX11_months 4 88 0 0 g [.ref m0, .int (nI n)] ([(oX11 m0 tw ta sz_ pl at_ fa fw cs fd rfm rt_ to_ rw_ wa ct rk rb cn br sm as_ go sh_ 0 oa ob th ig sp_ ki tg of_ kp sf rs), (aI g to_ 25 tl), (aI g sm 25 f), (aM g wa 6 (he_ro 6 r2)), (aM g sh_ 120 (he_ro 120 r6)), (aM g go 121 (he_ro 121 r5))] ++ he_pl g L ln M) (fun (r : Int32) (u : Nat × (Nat → Int32) × (Nat → Nat → Int32)) => r = nI (u.1 - mm) ∧ u.1 = mm + min n (120 - mm) ∧ u.2.1 24 = nI u.1 ∧ eqP mP u.2.1 ((aMs R w mm (min n (120 - mm))) 5) ∧ goR r5 r6 u.2.2 u.1 (aMs R w mm (min n (120 - mm))) ∧ mEx2 r5 r6 121 120 M u.2.2 ∧ gOk nt TQ r5 u.2.2 u.1) (fun (u : Nat × (Nat → Int32) × (Nat → Nat → Int32)) => [(oX11 m0 0 ta sz_ pl at_ fa fw cs fd rfm rt_ to_ rw_ wa ct rk rb cn br sm as_ go sh_ 0 oa ob th ig sp_ ki tg of_ kp sf rs), (aI g to_ 25 tl), (aI g sm 25 u.2.1), (aM g wa 6 (he_ro 6 r2)), (aM g sh_ 120 (he_ro 120 r6)), (aM g go 121 (he_ro 121 r5))] ++ he_pl g L ln u.2.2) := by
  refine he_begin (l := l) (g := g) (y := yX11_months) (wl := wsX11_months) (fr := 4) (lo := 88) (mc := 0) (ms := 0) (av := [.ref m0, .int (nI n)]) (ws := ([(oX11 m0 tw ta sz_ pl at_ fa fw cs fd rfm rt_ to_ rw_ wa ct rk rb cn br sm as_ go sh_ 0 oa ob th ig sp_ ki tg of_ kp sf rs), (aI g to_ 25 tl), (aI g sm 25 f), (aM g wa 6 (he_ro 6 r2)), (aM g sh_ 120 (he_ro 120 r6)), (aM g go 121 (he_ro 121 r5))] ++ he_pl g L ln M)) (cc := cX11_months) (maxL := 5) (ret := (some .int)) (fun A => va_Qi (fun (r : Int32) (u : Nat × (Nat → Int32) × (Nat → Nat → Int32)) => r = nI (u.1 - mm) ∧ u.1 = mm + min n (120 - mm) ∧ u.2.1 24 = nI u.1 ∧ eqP mP u.2.1 ((aMs R w mm (min n (120 - mm))) 5) ∧ goR r5 r6 u.2.2 u.1 (aMs R w mm (min n (120 - mm))) ∧ mEx2 r5 r6 121 120 M u.2.2 ∧ gOk nt TQ r5 u.2.2 u.1) (fun u t => he_post g A ((fun (u : Nat × (Nat → Int32) × (Nat → Nat → Int32)) => [(oX11 m0 0 ta sz_ pl at_ fa fw cs fd rfm rt_ to_ rw_ wa ct rk rb cn br sm as_ go sh_ 0 oa ob th ig sp_ ki tg of_ kp sf rs), (aI g to_ 25 tl), (aI g sm 25 u.2.1), (aM g wa 6 (he_ro 6 r2)), (aM g sh_ 120 (he_ro 120 r6)), (aM g go 121 (he_ro 121 r5))] ++ he_pl g L ln u.2.2) u) t) A) (by decide) rfl (Nat.le_of_ble_eq_true rfl) ?_
  intro p e s m args below meth c A ls H locs Q hQ hB
  obtain ⟨hx, hb, hr, hml, hown, hts, hlk, hin, hP, hK, hD, hS, hA, hE, hl⟩ := hB
  have hl : lv_has ls 5 [(0, .ref m0), (1, .int (nI n))] := hl
  have f85 := hts (.fieldLink RX11 85 "HiredEnemyModel" "thrown" "I") (iwoX11_months (k := 0) rfl)
  have inX11 : ∀ w ∈ wsX110, w ∈ wsX11_months := innX11_months_X11
  have f192 := hts (.fieldLink RX11 192 "HiredEnemyModel" "isReal" "Z") (iwoX11_months (k := 1) rfl)
  have f46 := hts (.fieldLink RX11 46 "HiredEnemyModel" "s" "[I") (iwoX11_months (k := 2) rfl)
  have f55 := hts (.fieldLink RX11 55 "HiredEnemyModel" "shot" "[[I") (iwoX11_months (k := 4) rfl)
  have f52 := hts (.fieldLink RX11 52 "HiredEnemyModel" "gone" "[[I") (iwoX11_months (k := 3) rfl)
  refine lv_aload_n hx hb dX11_months_0 rfl (lv_at hl 0 rfl) ?_
  refine lv_iconst (v := 0) hx hb dX11_months_1 (by decide) ?_
  refine va_put (v := .int 0) (ty := .int) (T := TX11) (N := 35) hx hb hts inX11 tyX11 tyX11_ok nmX11 hown hK hP hD hS 0 rfl rfl 0 (by decide) f85 (fun _ h9 => h9) rfl (by decide +kernel) rfl rfl (Nat.le_of_ble_eq_true rfl) dX11_months_2 (fun H locs hP hD hS => ?_)
  have hP : va_P g.1 vwCl ([(oX11 m0 0 ta sz_ pl at_ fa fw cs fd rfm rt_ to_ rw_ wa ct rk rb cn br sm as_ go sh_ 0 oa ob th ig sp_ ki tg of_ kp sf rs), (aI g to_ 25 tl), (aI g sm 25 f), (aM g wa 6 (he_ro 6 r2)), (aM g sh_ 120 (he_ro 120 r6)), (aM g go 121 (he_ro 121 r5))] ++ he_pl g L ln M) H := hP
  have hD : va_D A ([(oX11 m0 0 ta sz_ pl at_ fa fw cs fd rfm rt_ to_ rw_ wa ct rk rb cn br sm as_ go sh_ 0 oa ob th ig sp_ ki tg of_ kp sf rs), (aI g to_ 25 tl), (aI g sm 25 f), (aM g wa 6 (he_ro 6 r2)), (aM g sh_ 120 (he_ro 120 r6)), (aM g go 121 (he_ro 121 r5))] ++ he_pl g L ln M) := hD
  refine lv_aload_n hx hb dX11_months_5 rfl (lv_at hl 0 rfl) ?_
  refine lv_iload_n hx hb dX11_months_6 rfl (lv_at hl 1 rfl) ?_
  refine lv_iconst (v := 1) hx hb dX11_months_7 (by decide) ?_
  refine lv_bipush (v := 120) hx hb dX11_months_8 (by decide) ?_
  refine he_ci (wc := []) (wr := ([(oX11 m0 0 ta sz_ pl at_ fa fw cs fd rfm rt_ to_ rw_ wa ct rk rb cn br sm as_ go sh_ 0 oa ob th ig sp_ ki tg of_ kp sf rs), (aI g to_ 25 tl), (aI g sm 25 f), (aM g wa 6 (he_ro 6 r2)), (aM g sh_ 120 (he_ro 120 r6)), (aM g go 121 (he_ro 121 r5))] ++ (he_pl g L ln M))) (va_runS (As := [.int (nI n), .int 1, .int 120]) (rest := [.ref m0]) ⟨hx, hb, hml, hown, hts⟩ (c_X11_in l g (nI n) 1 120 H.size) (va_cwS 3 hts gX11_months_X11_in rfl rfl rfl (by decide +kernel) ⟨Nat.le_of_ble_eq_true rfl, Nat.le_of_ble_eq_true rfl⟩) (he_preS (wc := []) hK hP hD hS hA hE [] rfl rfl) rfl rfl hl.1 rfl (lv_room (Nat.le_of_ble_eq_true rfl)) dX11_months_10 ⟨(Nat.le_of_ble_eq_true rfl), (Nat.le_of_ble_eq_true rfl)⟩) hP hD hS hA [] (he_is [0, 1, 2, 3, 4, 5] [(oX11 m0 0 ta sz_ pl at_ fa fw cs fd rfm rt_ to_ rw_ wa ct rk rb cn br sm as_ go sh_ 0 oa ob th ig sp_ ki tg of_ kp sf rs), (aI g to_ 25 tl), (aI g sm 25 f), (aM g wa 6 (he_ro 6 r2)), (aM g sh_ 120 (he_ro 120 r6)), (aM g go 121 (he_ro 121 r5))] (he_pl g L ln M)) rfl (he_ixP rfl) (he_ndP rfl rfl) (he_disN (by decide) rfl) (fun r_1 u_2 H locs h_3 hP hD hS => ?_)
  have hP := va_P.swap hP
  have hD := va_D.swap hD
  subst h_3
  have hP : va_P g.1 vwCl ([(oX11 m0 0 ta sz_ pl at_ fa fw cs fd rfm rt_ to_ rw_ wa ct rk rb cn br sm as_ go sh_ 0 oa ob th ig sp_ ki tg of_ kp sf rs), (aI g to_ 25 tl), (aI g sm 25 f), (aM g wa 6 (he_ro 6 r2)), (aM g sh_ 120 (he_ro 120 r6)), (aM g go 121 (he_ro 121 r5))] ++ he_pl g L ln M) H := hP
  have hD : va_D A ([(oX11 m0 0 ta sz_ pl at_ fa fw cs fd rfm rt_ to_ rw_ wa ct rk rb cn br sm as_ go sh_ 0 oa ob th ig sp_ ki tg of_ kp sf rs), (aI g to_ 25 tl), (aI g sm 25 f), (aM g wa 6 (he_ro 6 r2)), (aM g sh_ 120 (he_ro 120 r6)), (aM g go 121 (he_ro 121 r5))] ++ he_pl g L ln M) := hD
  refine he_top (1) (he_within_in (a0 := 1) (B := 120) rfl rfl (by omega) (by omega) (by decide)) ?_
  refine lv_if_ne (tgt := 20) hx hb dX11_months_13 (by decide) (fun c_4 => ?_) (fun c_4 => ?_)
  · refine lv_iconst (v := 0) hx hb dX11_months_20 (by decide) ?_
    refine lv_iconst (v := 1) hx hb dX11_months_21 (by decide) ?_
    refine lv_iconst (v := 2) hx hb dX11_months_22 (by decide) ?_
    refine he_ci (wc := [(oX11 m0 0 ta sz_ pl at_ fa fw cs fd rfm rt_ to_ rw_ wa ct rk rb cn br sm as_ go sh_ 0 oa ob th ig sp_ ki tg of_ kp sf rs)]) (wr := ([(aI g to_ 25 tl), (aI g sm 25 f), (aM g wa 6 (he_ro 6 r2)), (aM g sh_ 120 (he_ro 120 r6)), (aM g go 121 (he_ro 121 r5))] ++ (he_pl g L ln M))) (va_runV (As := [.int 0, .int 1, .int 2]) (rest := []) ⟨hx, hb, hml, hown, hts⟩ (c_X11_bad0 l g m0 fd rfm rt_ to_ rw_ wa rk rb cn br sm as_ go sh_ ki tg of_ kp rs ta sz_ pl at_ fa fw cs ct 0 oa ob th ig sp_ sf 1 2 H.size) (cwV 3 hts gX11_months_X11_bad rfl rfl rfl (by decide +kernel) ⟨Nat.le_of_ble_eq_true rfl, Nat.le_of_ble_eq_true rfl⟩) (he_preV (wc := [(oX11 m0 0 ta sz_ pl at_ fa fw cs fd rfm rt_ to_ rw_ wa ct rk rb cn br sm as_ go sh_ 0 oa ob th ig sp_ ki tg of_ kp sf rs)]) hK hP hD hS hA hE [0] rfl rfl 0 rfl rfl) rfl rfl hl.1 rfl (lv_room (Nat.le_of_ble_eq_true rfl)) dX11_months_23 ⟨(Nat.le_of_ble_eq_true rfl), (Nat.le_of_ble_eq_true rfl)⟩) hP hD hS hA [0] (he_is [1, 2, 3, 4, 5] [(oX11 m0 0 ta sz_ pl at_ fa fw cs fd rfm rt_ to_ rw_ wa ct rk rb cn br sm as_ go sh_ 0 oa ob th ig sp_ ki tg of_ kp sf rs), (aI g to_ 25 tl), (aI g sm 25 f), (aM g wa 6 (he_ro 6 r2)), (aM g sh_ 120 (he_ro 120 r6)), (aM g go 121 (he_ro 121 r5))] (he_pl g L ln M)) rfl (he_ixP rfl) (he_ndP rfl rfl) (he_disN (by decide) rfl) (fun r_5 u_6 H locs h_7 hP hD hS => ?_)
    have hP := va_P.swap hP
    have hD := va_D.swap hD
    subst h_7
    have hP : va_P g.1 vwCl ([(aI g to_ 25 tl), (aI g sm 25 f), (aM g wa 6 (he_ro 6 r2)), (aM g sh_ 120 (he_ro 120 r6)), (aM g go 121 (he_ro 121 r5)), (oX11 m0 0 ta sz_ pl at_ fa fw cs fd rfm rt_ to_ rw_ wa ct rk rb cn br sm as_ go sh_ 0 oa ob th ig sp_ ki tg of_ kp sf rs)] ++ he_pl g L ln M) H := hP
    have hD : va_D A ([(aI g to_ 25 tl), (aI g sm 25 f), (aM g wa 6 (he_ro 6 r2)), (aM g sh_ 120 (he_ro 120 r6)), (aM g go 121 (he_ro 121 r5)), (oX11 m0 0 ta sz_ pl at_ fa fw cs fd rfm rt_ to_ rw_ wa ct rk rb cn br sm as_ go sh_ 0 oa ob th ig sp_ ki tg of_ kp sf rs)] ++ he_pl g L ln M) := hD
    refine lv_if_eq (tgt := 31) hx hb dX11_months_26 (by decide) (fun c_8 => ?_) (fun c_8 => ?_)
    · refine lv_iconst (v := 0) hx hb dX11_months_31 (by decide) ?_
      refine lv_istore_n (lv' := [(2, .int 0), (0, .ref m0), (1, .int (nI n))]) hx hb dX11_months_32 rfl hl (by decide) rfl (fun ls hl => ?_)
      refine lv_aload_n hx hb dX11_months_33 rfl (lv_at hl 1 rfl) ?_
      refine lv_iconst (v := 1) hx hb dX11_months_34 (by decide) ?_
      refine va_put (v := .int 1) (ty := .boolean) (T := TX11) (N := 35) hx hb hts inX11 tyX11 tyX11_ok nmX11 hown hK hP hD hS 5 rfl rfl 23 (by decide) f192 (fun _ h9 => h9) rfl (by decide +kernel) rfl rfl (Nat.le_of_ble_eq_true rfl) dX11_months_35 (fun H locs hP hD hS => ?_)
      have hP : va_P g.1 vwCl ([(aI g to_ 25 tl), (aI g sm 25 f), (aM g wa 6 (he_ro 6 r2)), (aM g sh_ 120 (he_ro 120 r6)), (aM g go 121 (he_ro 121 r5)), (oX11 m0 0 ta sz_ pl at_ fa fw cs fd rfm rt_ to_ rw_ wa ct rk rb cn br sm as_ go sh_ 1 oa ob th ig sp_ ki tg of_ kp sf rs)] ++ he_pl g L ln M) H := hP
      have hD : va_D A ([(aI g to_ 25 tl), (aI g sm 25 f), (aM g wa 6 (he_ro 6 r2)), (aM g sh_ 120 (he_ro 120 r6)), (aM g go 121 (he_ro 121 r5)), (oX11 m0 0 ta sz_ pl at_ fa fw cs fd rfm rt_ to_ rw_ wa ct rk rb cn br sm as_ go sh_ 1 oa ob th ig sp_ ki tg of_ kp sf rs)] ++ he_pl g L ln M) := hD
      have loop38 : ∀ (n9 : Nat) (j : Nat) (F : Nat → Int32) (Mj : Nat → Nat → Int32), n - j < n9 → (j ≤ n) → (mm + j ≤ 120) → (F 24 = nI (mm + j)) → (okA w nt (mm + j) (aMs R w mm j)) → (eqP mP F ((aMs R w mm j) 5)) → ((aMs R w mm j) 5 10 = -1) → (goR r5 r6 Mj (mm + j) (aMs R w mm j)) → (mEx2 r5 r6 121 120 M Mj) → (gOk nt TQ r5 Mj (mm + j)) → ∀ (H : Heap) (locs : List Loc) (ls : Array Slot), va_P g.1 vwCl ([(oX11 m0 0 ta sz_ pl at_ fa fw cs fd rfm rt_ to_ rw_ wa ct rk rb cn br sm as_ go sh_ 1 oa ob th ig sp_ ki tg of_ kp sf rs), (aI g to_ 25 tl), (aI g sm 25 F), (aM g wa 6 (he_ro 6 r2)), (aM g sh_ 120 (he_ro 120 r6)), (aM g go 121 (he_ro 121 r5))] ++ he_pl g L ln Mj) H → va_D A ([(oX11 m0 0 ta sz_ pl at_ fa fw cs fd rfm rt_ to_ rw_ wa ct rk rb cn br sm as_ go sh_ 1 oa ob th ig sp_ ki tg of_ kp sf rs), (aI g to_ 25 tl), (aI g sm 25 F), (aM g wa 6 (he_ro 6 r2)), (aM g sh_ 120 (he_ro 120 r6)), (aM g go 121 (he_ro 121 r5))] ++ he_pl g L ln Mj) → va_S A s.heap H locs → lv_has ls 5 [(0, .ref m0), (1, .int (nI n)), (2, .int (nI j))] → W p l e (he_room 4 88 0 0) s m args below meth c H locs 0 0 Q (F0 m 38 ls []) := by
        intro n9
        induction n9 with
        | zero => intro j F Mj hm9; exact absurd hm9 (Nat.not_lt_zero _)
        | succ n9 ih38 =>
          intro j F Mj hm9 hj hmj h24 hok hN hF hg hmx hgo H locs ls hP hD hS hl
          refine lv_iload_n hx hb dX11_months_38 rfl (lv_at hl 2 rfl) ?_
          refine lv_iload_n hx hb dX11_months_39 rfl (lv_at hl 1 rfl) ?_
          refine lv_icmp_ge (tgt := 131) hx hb dX11_months_40 (by decide) (fun c_9 => ?_) (fun c_9 => ?_)
          · have k_10 : n ≤ j := (he_cle (a := n) (b := j) rfl rfl (by omega) (by omega)).mp c_9
            refine lv_aload_n hx hb dX11_months_131 rfl (lv_at hl 0 rfl) ?_
            refine lv_iconst (v := 0) hx hb dX11_months_132 (by decide) ?_
            refine va_put (v := .int 0) (ty := .boolean) (T := TX11) (N := 35) hx hb hts inX11 tyX11 tyX11_ok nmX11 hown hK hP hD hS 0 rfl rfl 23 (by decide) f192 (fun _ h9 => h9) rfl (by decide +kernel) rfl rfl (Nat.le_of_ble_eq_true rfl) dX11_months_133 (fun H locs hP hD hS => ?_)
            have hP : va_P g.1 vwCl ([(oX11 m0 0 ta sz_ pl at_ fa fw cs fd rfm rt_ to_ rw_ wa ct rk rb cn br sm as_ go sh_ 0 oa ob th ig sp_ ki tg of_ kp sf rs), (aI g to_ 25 tl), (aI g sm 25 F), (aM g wa 6 (he_ro 6 r2)), (aM g sh_ 120 (he_ro 120 r6)), (aM g go 121 (he_ro 121 r5))] ++ he_pl g L ln Mj) H := hP
            have hD : va_D A ([(oX11 m0 0 ta sz_ pl at_ fa fw cs fd rfm rt_ to_ rw_ wa ct rk rb cn br sm as_ go sh_ 0 oa ob th ig sp_ ki tg of_ kp sf rs), (aI g to_ 25 tl), (aI g sm 25 F), (aM g wa 6 (he_ro 6 r2)), (aM g sh_ 120 (he_ro 120 r6)), (aM g go 121 (he_ro 121 r5))] ++ he_pl g L ln Mj) := hD
            refine lv_iload_n hx hb dX11_months_136 rfl (lv_at hl 2 rfl) ?_
            exact he_ri hQ hx hb hr hlk hP hD hS dX11_months_137 (Nat.le_of_ble_eq_true rfl) (Nat.le_of_ble_eq_true rfl) ((mm + j, F, Mj)) (rfl) (by (try dsimp only); exact ⟨by congr 1; omega, by (try dsimp only); omega, h24, by (try dsimp only); rw [show min n (120 - mm) = j by (try dsimp only); omega]; exact hN, by (try dsimp only); rw [show min n (120 - mm) = j by (try dsimp only); omega]; exact hg, hmx, hgo⟩)
          · have k_11 : ¬ (n ≤ j) := fun h9 => c_9 ((he_cle (a := n) (b := j) rfl rfl (by omega) (by omega)).mpr h9)
            refine lv_aload_n hx hb dX11_months_43 rfl (lv_at hl 0 rfl) ?_
            refine va_get (v := .ref sm) (T := TX11) (N := 35) hx hb hts inX11 hown hK hP 0 rfl rfl 19 (by decide) f46 (fun _ h9 => h9) rfl dX11_months_44 ?_
            refine lv_bipush (v := 24) hx hb dX11_months_47 (by decide) ?_
            refine he_iald hx hb hK hP 2 rfl (24) (by decide) (by decide) (by first | decide | assumption) (nI (mm + j)) h24 dX11_months_49 ?_
            refine lv_bipush (v := 120) hx hb dX11_months_50 (by decide) ?_
            refine lv_icmp_ge (tgt := 131) hx hb dX11_months_52 (by decide) (fun c_12 => ?_) (fun c_12 => ?_)
            · have k_13 : 120 ≤ mm + j := (he_cle (a := 120) (b := mm + j) (by decide) rfl (by omega) (by omega)).mp c_12
              refine lv_aload_n hx hb dX11_months_131 rfl (lv_at hl 0 rfl) ?_
              refine lv_iconst (v := 0) hx hb dX11_months_132 (by decide) ?_
              refine va_put (v := .int 0) (ty := .boolean) (T := TX11) (N := 35) hx hb hts inX11 tyX11 tyX11_ok nmX11 hown hK hP hD hS 0 rfl rfl 23 (by decide) f192 (fun _ h9 => h9) rfl (by decide +kernel) rfl rfl (Nat.le_of_ble_eq_true rfl) dX11_months_133 (fun H locs hP hD hS => ?_)
              have hP : va_P g.1 vwCl ([(oX11 m0 0 ta sz_ pl at_ fa fw cs fd rfm rt_ to_ rw_ wa ct rk rb cn br sm as_ go sh_ 0 oa ob th ig sp_ ki tg of_ kp sf rs), (aI g to_ 25 tl), (aI g sm 25 F), (aM g wa 6 (he_ro 6 r2)), (aM g sh_ 120 (he_ro 120 r6)), (aM g go 121 (he_ro 121 r5))] ++ he_pl g L ln Mj) H := hP
              have hD : va_D A ([(oX11 m0 0 ta sz_ pl at_ fa fw cs fd rfm rt_ to_ rw_ wa ct rk rb cn br sm as_ go sh_ 0 oa ob th ig sp_ ki tg of_ kp sf rs), (aI g to_ 25 tl), (aI g sm 25 F), (aM g wa 6 (he_ro 6 r2)), (aM g sh_ 120 (he_ro 120 r6)), (aM g go 121 (he_ro 121 r5))] ++ he_pl g L ln Mj) := hD
              refine lv_iload_n hx hb dX11_months_136 rfl (lv_at hl 2 rfl) ?_
              exact he_ri hQ hx hb hr hlk hP hD hS dX11_months_137 (Nat.le_of_ble_eq_true rfl) (Nat.le_of_ble_eq_true rfl) ((mm + j, F, Mj)) (rfl) (by (try dsimp only); exact ⟨by congr 1; omega, by (try dsimp only); omega, h24, by (try dsimp only); rw [show min n (120 - mm) = j by (try dsimp only); omega]; exact hN, by (try dsimp only); rw [show min n (120 - mm) = j by (try dsimp only); omega]; exact hg, hmx, hgo⟩)
            · have k_14 : ¬ (120 ≤ mm + j) := fun h9 => c_12 ((he_cle (a := 120) (b := mm + j) (by decide) rfl (by omega) (by omega)).mpr h9)
              refine lv_aload_n hx hb dX11_months_55 rfl (lv_at hl 0 rfl) ?_
              refine va_get (v := .ref sm) (T := TX11) (N := 35) hx hb hts inX11 hown hK hP 0 rfl rfl 19 (by decide) f46 (fun _ h9 => h9) rfl dX11_months_56 ?_
              refine lv_bipush (v := 24) hx hb dX11_months_59 (by decide) ?_
              refine he_iald hx hb hK hP 2 rfl (24) (by decide) (by decide) (by first | decide | assumption) (nI (mm + j)) h24 dX11_months_61 ?_
              refine lv_istore_n (lv' := [(3, .int (nI (mm + j))), (0, .ref m0), (1, .int (nI n)), (2, .int (nI j))]) hx hb dX11_months_62 rfl hl (by decide) rfl (fun ls hl => ?_)
              refine lv_iconst (v := 0) hx hb dX11_months_63 (by decide) ?_
              refine lv_istore (lv' := [(4, .int 0), (3, .int (nI (mm + j))), (0, .ref m0), (1, .int (nI n)), (2, .int (nI j))]) hx hb dX11_months_64 hl (by decide) rfl (fun ls hl => ?_)
              have loop66 : ∀ (n9 : Nat) (i1 : Nat) (M1 : Nat → Nat → Int32), 25 - i1 < n9 → (i1 ≤ 25) → (rFill (r5 (mm + j)) F Mj M1 i1) → ∀ (H : Heap) (locs : List Loc) (ls : Array Slot), va_P g.1 vwCl ([(oX11 m0 0 ta sz_ pl at_ fa fw cs fd rfm rt_ to_ rw_ wa ct rk rb cn br sm as_ go sh_ 1 oa ob th ig sp_ ki tg of_ kp sf rs), (aI g to_ 25 tl), (aI g sm 25 F), (aM g wa 6 (he_ro 6 r2)), (aM g sh_ 120 (he_ro 120 r6)), (aM g go 121 (he_ro 121 r5))] ++ he_pl g L ln M1) H → va_D A ([(oX11 m0 0 ta sz_ pl at_ fa fw cs fd rfm rt_ to_ rw_ wa ct rk rb cn br sm as_ go sh_ 1 oa ob th ig sp_ ki tg of_ kp sf rs), (aI g to_ 25 tl), (aI g sm 25 F), (aM g wa 6 (he_ro 6 r2)), (aM g sh_ 120 (he_ro 120 r6)), (aM g go 121 (he_ro 121 r5))] ++ he_pl g L ln M1) → va_S A s.heap H locs → lv_has ls 5 [(0, .ref m0), (1, .int (nI n)), (2, .int (nI j)), (3, .int (nI (mm + j))), (4, .int (nI i1))] → W p l e (he_room 4 88 0 0) s m args below meth c H locs 0 0 Q (F0 m 66 ls []) := by
                intro n9
                induction n9 with
                | zero => intro i1 M1 hm9; exact absurd hm9 (Nat.not_lt_zero _)
                | succ n9 ih66 =>
                  intro i1 M1 hm9 hi1 hfl H locs ls hP hD hS hl
                  refine lv_iload hx hb dX11_months_66 (lv_at hl 4 rfl) ?_
                  refine lv_bipush (v := 25) hx hb dX11_months_68 (by decide) ?_
                  refine lv_icmp_ge (tgt := 95) hx hb dX11_months_70 (by decide) (fun c_15 => ?_) (fun c_15 => ?_)
                  · have k_16 : 25 ≤ i1 := (he_cle (a := 25) (b := i1) (by decide) rfl (by omega) (by omega)).mp c_15
                    obtain rfl : i1 = 25 := by omega
                    refine lv_iconst (v := 0) hx hb dX11_months_95 (by decide) ?_
                    refine lv_istore (lv' := [(4, .int 0), (0, .ref m0), (1, .int (nI n)), (2, .int (nI j)), (3, .int (nI (mm + j)))]) hx hb dX11_months_96 hl (by decide) rfl (fun ls hl => ?_)
                    have loop98 : ∀ (n9 : Nat) (i2 : Nat) (M2 : Nat → Nat → Int32), 6 - i2 < n9 → (i2 ≤ 6) → (rFill (r6 (mm + j)) (fun _ => 0) M1 M2 i2) → ∀ (H : Heap) (locs : List Loc) (ls : Array Slot), va_P g.1 vwCl ([(oX11 m0 0 ta sz_ pl at_ fa fw cs fd rfm rt_ to_ rw_ wa ct rk rb cn br sm as_ go sh_ 1 oa ob th ig sp_ ki tg of_ kp sf rs), (aI g to_ 25 tl), (aI g sm 25 F), (aM g wa 6 (he_ro 6 r2)), (aM g sh_ 120 (he_ro 120 r6)), (aM g go 121 (he_ro 121 r5))] ++ he_pl g L ln M2) H → va_D A ([(oX11 m0 0 ta sz_ pl at_ fa fw cs fd rfm rt_ to_ rw_ wa ct rk rb cn br sm as_ go sh_ 1 oa ob th ig sp_ ki tg of_ kp sf rs), (aI g to_ 25 tl), (aI g sm 25 F), (aM g wa 6 (he_ro 6 r2)), (aM g sh_ 120 (he_ro 120 r6)), (aM g go 121 (he_ro 121 r5))] ++ he_pl g L ln M2) → va_S A s.heap H locs → lv_has ls 5 [(0, .ref m0), (1, .int (nI n)), (2, .int (nI j)), (3, .int (nI (mm + j))), (4, .int (nI i2))] → W p l e (he_room 4 88 0 0) s m args below meth c H locs 0 0 Q (F0 m 98 ls []) := by
                      intro n9
                      induction n9 with
                      | zero => intro i2 M2 hm9; exact absurd hm9 (Nat.not_lt_zero _)
                      | succ n9 ih98 =>
                        intro i2 M2 hm9 hi2 hsx H locs ls hP hD hS hl
                        refine lv_iload hx hb dX11_months_98 (lv_at hl 4 rfl) ?_
                        refine lv_bipush (v := 6) hx hb dX11_months_100 (by decide) ?_
                        refine lv_icmp_ge (tgt := 121) hx hb dX11_months_102 (by decide) (fun c_17 => ?_) (fun c_17 => ?_)
                        · have k_18 : 6 ≤ i2 := (he_cle (a := 6) (b := i2) (by decide) rfl (by omega) (by omega)).mp c_17
                          obtain rfl : i2 = 6 := by omega
                          refine lv_aload_n hx hb dX11_months_121 rfl (lv_at hl 0 rfl) ?_
                          refine he_cv (wc := ([(oX11 m0 0 ta sz_ pl at_ fa fw cs fd rfm rt_ to_ rw_ wa ct rk rb cn br sm as_ go sh_ 1 oa ob th ig sp_ ki tg of_ kp sf rs), (aI g to_ 25 tl), (aI g sm 25 F), (aM g wa 6 (he_ro 6 r2))] ++ (he_pl g L ln M2))) (wr := [(aM g sh_ 120 (he_ro 120 r6)), (aM g go 121 (he_ro 121 r5))]) (va_runV (As := []) (rest := []) ⟨hx, hb, hml, hown, hts⟩ (r_X11_monthN l g m0 fd rfm rt_ to_ rw_ wa rk rb cn br sm as_ go sh_ ki tg of_ kp rs ta sz_ pl at_ fa fw cs ct oa ob th ig sp_ sf 0 tl F w L ln M2 r2 (mm + j) (by first | assumption | decide | omega) (by first | assumption | decide | omega) ((hN 10 (by decide : 10 < 24)).trans hF) h24 (by omega) (by first | assumption | decide | omega) H.size) (cwV 0 hts gX11_months_X11_monthGoes rfl rfl rfl (by decide +kernel) ⟨Nat.le_of_ble_eq_true rfl, Nat.le_of_ble_eq_true rfl⟩) (he_preV (wc := ([(oX11 m0 0 ta sz_ pl at_ fa fw cs fd rfm rt_ to_ rw_ wa ct rk rb cn br sm as_ go sh_ 1 oa ob th ig sp_ ki tg of_ kp sf rs), (aI g to_ 25 tl), (aI g sm 25 F), (aM g wa 6 (he_ro 6 r2))] ++ (he_pl g L ln M2))) hK hP hD hS hA hE (he_is [0, 1, 2, 3] [(oX11 m0 0 ta sz_ pl at_ fa fw cs fd rfm rt_ to_ rw_ wa ct rk rb cn br sm as_ go sh_ 1 oa ob th ig sp_ ki tg of_ kp sf rs), (aI g to_ 25 tl), (aI g sm 25 F), (aM g wa 6 (he_ro 6 r2)), (aM g sh_ 120 (he_ro 120 r6)), (aM g go 121 (he_ro 121 r5))] (he_pl g L ln M2)) (he_ixP rfl) (he_ndP rfl rfl) 0 rfl rfl) rfl rfl hl.1 rfl (lv_room (Nat.le_of_ble_eq_true rfl)) dX11_months_122 ⟨(Nat.le_of_ble_eq_true rfl), (Nat.le_of_ble_eq_true rfl)⟩) hP hD hS hA (he_is [0, 1, 2, 3] [(oX11 m0 0 ta sz_ pl at_ fa fw cs fd rfm rt_ to_ rw_ wa ct rk rb cn br sm as_ go sh_ 1 oa ob th ig sp_ ki tg of_ kp sf rs), (aI g to_ 25 tl), (aI g sm 25 F), (aM g wa 6 (he_ro 6 r2)), (aM g sh_ 120 (he_ro 120 r6)), (aM g go 121 (he_ro 121 r5))] (he_pl g L ln M2)) [4, 5] (he_ixP rfl) rfl rfl (he_disP (by decide) rfl) (fun u_20 H locs h_21 hP hD hS => ?_)
                          have hP : va_P g.1 vwCl ([(aM g sh_ 120 (he_ro 120 r6)), (aM g go 121 (he_ro 121 r5)), (oX11 m0 0 ta sz_ pl at_ fa fw cs fd rfm rt_ to_ rw_ wa ct rk rb cn br sm as_ go sh_ 1 oa ob th ig sp_ ki tg of_ kp sf rs), (aI g to_ 25 tl), (aI g sm 25 (rMonN tl (fun i => M2 (r2 i) 0) (fun i => M2 (r2 i) 1) w (mm + j) F)), (aM g wa 6 (he_ro 6 r2))] ++ he_pl g L ln M2) H := hP
                          have hD : va_D A ([(aM g sh_ 120 (he_ro 120 r6)), (aM g go 121 (he_ro 121 r5)), (oX11 m0 0 ta sz_ pl at_ fa fw cs fd rfm rt_ to_ rw_ wa ct rk rb cn br sm as_ go sh_ 1 oa ob th ig sp_ ki tg of_ kp sf rs), (aI g to_ 25 tl), (aI g sm 25 (rMonN tl (fun i => M2 (r2 i) 0) (fun i => M2 (r2 i) 1) w (mm + j) F)), (aM g wa 6 (he_ro 6 r2))] ++ he_pl g L ln M2) := hD
                          refine lv_iinc (v := nI (j + 1)) (lv' := [(2, .int (nI (j + 1))), (0, .ref m0), (1, .int (nI n)), (3, .int (nI (mm + j))), (4, .int 6)]) hx hb dX11_months_125 hl (k := 2) rfl (nI_1 j) (by decide) rfl (fun ls hl => ?_)
                          refine lv_goto (tgt := 38) hx hb dX11_months_128 (by decide) ?_
                          have hP := he_Psub (X := [(aM g sh_ 120 (he_ro 120 r6)), (aM g go 121 (he_ro 121 r5)), (oX11 m0 0 ta sz_ pl at_ fa fw cs fd rfm rt_ to_ rw_ wa ct rk rb cn br sm as_ go sh_ 1 oa ob th ig sp_ ki tg of_ kp sf rs), (aI g to_ 25 tl), (aI g sm 25 (rMonN tl (fun i => M2 (r2 i) 0) (fun i => M2 (r2 i) 1) w (mm + j) F)), (aM g wa 6 (he_ro 6 r2))]) (X2 := [(oX11 m0 0 ta sz_ pl at_ fa fw cs fd rfm rt_ to_ rw_ wa ct rk rb cn br sm as_ go sh_ 1 oa ob th ig sp_ ki tg of_ kp sf rs), (aI g to_ 25 tl), (aI g sm 25 (rMonN tl (fun i => M2 (r2 i) 0) (fun i => M2 (r2 i) 1) w (mm + j) F)), (aM g wa 6 (he_ro 6 r2)), (aM g sh_ 120 (he_ro 120 r6)), (aM g go 121 (he_ro 121 r5))]) (P := (he_pl g L ln M2)) hP [2, 3, 4, 5, 0, 1] rfl
                          have hD := he_Dsub (X := [(aM g sh_ 120 (he_ro 120 r6)), (aM g go 121 (he_ro 121 r5)), (oX11 m0 0 ta sz_ pl at_ fa fw cs fd rfm rt_ to_ rw_ wa ct rk rb cn br sm as_ go sh_ 1 oa ob th ig sp_ ki tg of_ kp sf rs), (aI g to_ 25 tl), (aI g sm 25 (rMonN tl (fun i => M2 (r2 i) 0) (fun i => M2 (r2 i) 1) w (mm + j) F)), (aM g wa 6 (he_ro 6 r2))]) (X2 := [(oX11 m0 0 ta sz_ pl at_ fa fw cs fd rfm rt_ to_ rw_ wa ct rk rb cn br sm as_ go sh_ 1 oa ob th ig sp_ ki tg of_ kp sf rs), (aI g to_ 25 tl), (aI g sm 25 (rMonN tl (fun i => M2 (r2 i) 0) (fun i => M2 (r2 i) 1) w (mm + j) F)), (aM g wa 6 (he_ro 6 r2)), (aM g sh_ 120 (he_ro 120 r6)), (aM g go 121 (he_ro 121 r5))]) (P := (he_pl g L ln M2)) hD [2, 3, 4, 5, 0, 1] rfl rfl rfl
                          exact ih38 (j + 1) (rMonN tl (fun i => M2 (r2 i) 0) (fun i => M2 (r2 i) 1) w (mm + j) F) M2 (by omega) (by omega) (by omega) (Eq.trans upd_s (by congr 1 <;> omega)) (ok_ms hok0 (j + 1) (by omega)) (by have h9 := ro_no (mm := mm + j) hok (⟨fun i9 h1 h2 => (hdat.1 i9 h1 h2).trans (by rw [aMs_n (by decide) (by decide)]), fun k9 hk9 => by rw [(ex_2 hmx hfl hsx (by omega) (fun i9 hi9 => D_r2_r5 k9 i9 (by omega) hi9) (fun i9 hi9 => D_r2_r6 k9 i9 (by omega) hi9)), aMs_n (by decide) (by decide), aMs_n (by decide) (by decide)]; exact hdat.2 k9 hk9⟩) hN hF rfl (fun q9 hq9 => hsx.1 q9 hq9); exact h9.1) (by have h9 := ro_no (mm := mm + j) hok (⟨fun i9 h1 h2 => (hdat.1 i9 h1 h2).trans (by rw [aMs_n (by decide) (by decide)]), fun k9 hk9 => by rw [(ex_2 hmx hfl hsx (by omega) (fun i9 hi9 => D_r2_r5 k9 i9 (by omega) hi9) (fun i9 hi9 => D_r2_r6 k9 i9 (by omega) hi9)), aMs_n (by decide) (by decide), aMs_n (by decide) (by decide)]; exact hdat.2 k9 hk9⟩) hN hF rfl (fun q9 hq9 => hsx.1 q9 hq9); exact h9.2.1) (by have h9 := ro_no (mm := mm + j) hok (⟨fun i9 h1 h2 => (hdat.1 i9 h1 h2).trans (by rw [aMs_n (by decide) (by decide)]), fun k9 hk9 => by rw [(ex_2 hmx hfl hsx (by omega) (fun i9 hi9 => D_r2_r5 k9 i9 (by omega) hi9) (fun i9 hi9 => D_r2_r6 k9 i9 (by omega) hi9)), aMs_n (by decide) (by decide), aMs_n (by decide) (by decide)]; exact hdat.2 k9 hk9⟩) hN hF rfl (fun q9 hq9 => hsx.1 q9 hq9); exact go_m1 (mm := mm + j) (Mu := M2) hg hN J_r5 J_r6 D_r5_r6 (by omega) hfl hsx h9.2.2 (fun _ _ => rfl)) (by have h9 := ro_no (mm := mm + j) hok (⟨fun i9 h1 h2 => (hdat.1 i9 h1 h2).trans (by rw [aMs_n (by decide) (by decide)]), fun k9 hk9 => by rw [(ex_2 hmx hfl hsx (by omega) (fun i9 hi9 => D_r2_r5 k9 i9 (by omega) hi9) (fun i9 hi9 => D_r2_r6 k9 i9 (by omega) hi9)), aMs_n (by decide) (by decide), aMs_n (by decide) (by decide)]; exact hdat.2 k9 hk9⟩) hN hF rfl (fun q9 hq9 => hsx.1 q9 hq9); exact ex_3 hmx hfl hsx (by omega) (fun _ _ => rfl)) (gOk_m1 (mm := mm + j) J_r5 D_r5_r6 (by omega) hgo hfl hsx (fun _ _ => rfl) (sOk_A hok hN h24 (aMs_c hok0.2.1 hTR))) _ _ _ hP hD hS (lv_sub hl [1, 2, 0] rfl)
                        · have k_22 : ¬ (6 ≤ i2) := fun h9 => c_17 ((he_cle (a := 6) (b := i2) (by decide) rfl (by omega) (by omega)).mpr h9)
                          refine lv_aload_n hx hb dX11_months_105 rfl (lv_at hl 0 rfl) ?_
                          refine va_get (v := .ref sh_) (T := TX11) (N := 35) hx hb hts inX11 hown hK hP 0 rfl rfl 22 (by decide) f55 (fun _ h9 => h9) rfl dX11_months_106 ?_
                          refine lv_iload_n hx hb dX11_months_109 rfl (lv_at hl 3 rfl) ?_
                          refine he_aldm hx hb hK hP 4 rfl (mm + j) rfl (by first | assumption | decide | omega) (by decide) dX11_months_110 ?_
                          refine lv_iload hx hb dX11_months_111 (lv_at hl 4 rfl) ?_
                          refine lv_iconst (v := 0) hx hb dX11_months_113 (by decide) ?_
                          refine he_past hx hb hK hP hD hS (F_r6 (mm + j) (by first | assumption | decide | omega)).1 (i2) rfl (by rw [(F_r6 (mm + j) (by first | assumption | decide | omega)).2.1]; exact (by first | assumption | decide | omega)) (by rw [(F_r6 (mm + j) (by first | assumption | decide | omega)).2.1]; decide) dX11_months_114 (fun H locs hP hD hS => ?_)
                          have hP : va_P g.1 vwCl ([(oX11 m0 0 ta sz_ pl at_ fa fw cs fd rfm rt_ to_ rw_ wa ct rk rb cn br sm as_ go sh_ 1 oa ob th ig sp_ ki tg of_ kp sf rs), (aI g to_ 25 tl), (aI g sm 25 F), (aM g wa 6 (he_ro 6 r2)), (aM g sh_ 120 (he_ro 120 r6)), (aM g go 121 (he_ro 121 r5))] ++ he_pl g L ln (va_up M2 (r6 (mm + j)) (upd (M2 (r6 (mm + j))) i2 0))) H := hP
                          have hD : va_D A ([(oX11 m0 0 ta sz_ pl at_ fa fw cs fd rfm rt_ to_ rw_ wa ct rk rb cn br sm as_ go sh_ 1 oa ob th ig sp_ ki tg of_ kp sf rs), (aI g to_ 25 tl), (aI g sm 25 F), (aM g wa 6 (he_ro 6 r2)), (aM g sh_ 120 (he_ro 120 r6)), (aM g go 121 (he_ro 121 r5))] ++ he_pl g L ln (va_up M2 (r6 (mm + j)) (upd (M2 (r6 (mm + j))) i2 0))) := hD
                          refine lv_iinc (v := nI (i2 + 1)) (lv' := [(4, .int (nI (i2 + 1))), (0, .ref m0), (1, .int (nI n)), (2, .int (nI j)), (3, .int (nI (mm + j)))]) hx hb dX11_months_115 hl (k := 4) rfl (nI_1 i2) (by decide) rfl (fun ls hl => ?_)
                          refine lv_goto (tgt := 98) hx hb dX11_months_118 (by decide) ?_
                          exact ih98 (i2 + 1) (va_up M2 (r6 (mm + j)) (upd (M2 (r6 (mm + j))) i2 0)) (by omega) (by omega) (rFill_s (f := fun _ => 0) hsx) _ _ _ hP hD hS (lv_sub hl [1, 2, 3, 4, 0] rfl)
                    exact loop98 ((6 - 0) + 1) 0 M1 (Nat.lt_succ_self _) (Nat.zero_le _) (rFill_0 _ _ _) _ _ _ hP hD hS (lv_sub hl [1, 2, 3, 4, 0] rfl)
                  · have k_23 : ¬ (25 ≤ i1) := fun h9 => c_15 ((he_cle (a := 25) (b := i1) (by decide) rfl (by omega) (by omega)).mpr h9)
                    refine lv_aload_n hx hb dX11_months_73 rfl (lv_at hl 0 rfl) ?_
                    refine va_get (v := .ref go) (T := TX11) (N := 35) hx hb hts inX11 hown hK hP 0 rfl rfl 21 (by decide) f52 (fun _ h9 => h9) rfl dX11_months_74 ?_
                    refine lv_iload_n hx hb dX11_months_77 rfl (lv_at hl 3 rfl) ?_
                    refine he_aldm hx hb hK hP 5 rfl (mm + j) rfl (by first | assumption | decide | omega) (by decide) dX11_months_78 ?_
                    refine lv_iload hx hb dX11_months_79 (lv_at hl 4 rfl) ?_
                    refine lv_aload_n hx hb dX11_months_81 rfl (lv_at hl 0 rfl) ?_
                    refine va_get (v := .ref sm) (T := TX11) (N := 35) hx hb hts inX11 hown hK hP 0 rfl rfl 19 (by decide) f46 (fun _ h9 => h9) rfl dX11_months_82 ?_
                    refine lv_iload hx hb dX11_months_85 (lv_at hl 4 rfl) ?_
                    refine he_iald hx hb hK hP 2 rfl (i1) rfl (by first | assumption | decide | omega) (by first | decide | assumption) (F i1) rfl dX11_months_87 ?_
                    refine he_past hx hb hK hP hD hS (F_r5 (mm + j) (by first | assumption | decide | omega)).1 (i1) rfl (by rw [(F_r5 (mm + j) (by first | assumption | decide | omega)).2.1]; exact (by first | assumption | decide | omega)) (by rw [(F_r5 (mm + j) (by first | assumption | decide | omega)).2.1]; decide) dX11_months_88 (fun H locs hP hD hS => ?_)
                    have hP : va_P g.1 vwCl ([(oX11 m0 0 ta sz_ pl at_ fa fw cs fd rfm rt_ to_ rw_ wa ct rk rb cn br sm as_ go sh_ 1 oa ob th ig sp_ ki tg of_ kp sf rs), (aI g to_ 25 tl), (aI g sm 25 F), (aM g wa 6 (he_ro 6 r2)), (aM g sh_ 120 (he_ro 120 r6)), (aM g go 121 (he_ro 121 r5))] ++ he_pl g L ln (va_up M1 (r5 (mm + j)) (upd (M1 (r5 (mm + j))) i1 (F i1)))) H := hP
                    have hD : va_D A ([(oX11 m0 0 ta sz_ pl at_ fa fw cs fd rfm rt_ to_ rw_ wa ct rk rb cn br sm as_ go sh_ 1 oa ob th ig sp_ ki tg of_ kp sf rs), (aI g to_ 25 tl), (aI g sm 25 F), (aM g wa 6 (he_ro 6 r2)), (aM g sh_ 120 (he_ro 120 r6)), (aM g go 121 (he_ro 121 r5))] ++ he_pl g L ln (va_up M1 (r5 (mm + j)) (upd (M1 (r5 (mm + j))) i1 (F i1)))) := hD
                    refine lv_iinc (v := nI (i1 + 1)) (lv' := [(4, .int (nI (i1 + 1))), (0, .ref m0), (1, .int (nI n)), (2, .int (nI j)), (3, .int (nI (mm + j)))]) hx hb dX11_months_89 hl (k := 4) rfl (nI_1 i1) (by decide) rfl (fun ls hl => ?_)
                    refine lv_goto (tgt := 66) hx hb dX11_months_92 (by decide) ?_
                    exact ih66 (i1 + 1) (va_up M1 (r5 (mm + j)) (upd (M1 (r5 (mm + j))) i1 (F i1))) (by omega) (by omega) (rFill_s hfl) _ _ _ hP hD hS (lv_sub hl [1, 2, 3, 4, 0] rfl)
              exact loop66 ((25 - 0) + 1) 0 Mj (Nat.lt_succ_self _) (Nat.zero_le _) (rFill_0 _ _ _) _ _ _ hP hD hS (lv_sub hl [2, 3, 4, 1, 0] rfl)
      have hP := he_Psub (X := [(aI g to_ 25 tl), (aI g sm 25 f), (aM g wa 6 (he_ro 6 r2)), (aM g sh_ 120 (he_ro 120 r6)), (aM g go 121 (he_ro 121 r5)), (oX11 m0 0 ta sz_ pl at_ fa fw cs fd rfm rt_ to_ rw_ wa ct rk rb cn br sm as_ go sh_ 1 oa ob th ig sp_ ki tg of_ kp sf rs)]) (X2 := [(oX11 m0 0 ta sz_ pl at_ fa fw cs fd rfm rt_ to_ rw_ wa ct rk rb cn br sm as_ go sh_ 1 oa ob th ig sp_ ki tg of_ kp sf rs), (aI g to_ 25 tl), (aI g sm 25 f), (aM g wa 6 (he_ro 6 r2)), (aM g sh_ 120 (he_ro 120 r6)), (aM g go 121 (he_ro 121 r5))]) (P := (he_pl g L ln M)) hP [5, 0, 1, 2, 3, 4] rfl
      have hD := he_Dsub (X := [(aI g to_ 25 tl), (aI g sm 25 f), (aM g wa 6 (he_ro 6 r2)), (aM g sh_ 120 (he_ro 120 r6)), (aM g go 121 (he_ro 121 r5)), (oX11 m0 0 ta sz_ pl at_ fa fw cs fd rfm rt_ to_ rw_ wa ct rk rb cn br sm as_ go sh_ 1 oa ob th ig sp_ ki tg of_ kp sf rs)]) (X2 := [(oX11 m0 0 ta sz_ pl at_ fa fw cs fd rfm rt_ to_ rw_ wa ct rk rb cn br sm as_ go sh_ 1 oa ob th ig sp_ ki tg of_ kp sf rs), (aI g to_ 25 tl), (aI g sm 25 f), (aM g wa 6 (he_ro 6 r2)), (aM g sh_ 120 (he_ro 120 r6)), (aM g go 121 (he_ro 121 r5))]) (P := (he_pl g L ln M)) hD [5, 0, 1, 2, 3, 4] rfl rfl rfl
      exact loop38 ((n - 0) + 1) 0 f M (Nat.lt_succ_self _) (Nat.zero_le _) hm120 h24 hok0 hN0 hF0 hg0 (mEx2_r _ _ _ _ _) hgo0 _ _ _ hP hD hS (lv_sub hl [1, 2, 0] rfl)
    · exact absurd (by decide) c_8
  · exact absurd c_4 (by decide)
set_option maxHeartbeats 4000000 in
set_option maxRecDepth 100000 in
theorem r_X11_undo (l : Launch) (g : he_G) (m0 : Nat) (fd : Nat) (rfm : Nat) (rt_ : Nat) (to_ : Nat) (rw_ : Nat) (wa : Nat) (rk : Nat) (rb : Nat) (cn : Nat) (br : Nat) (sm : Nat) (as_ : Nat) (go : Nat) (sh_ : Nat) (ki : Nat) (tg : Nat) (of_ : Nat) (kp : Nat) (rs : Nat) (ta : Int32) (sz_ : Int32) (pl : Int32) (at_ : Int32) (fa : Int32) (fw : Int32) (cs : Int32) (ct : Int32) (ir : Int32) (oa : Int32) (ob : Int32) (th : Int32) (ig : Int32) (sp_ : Int32) (sf : Int32) (tw : Int32) (f : Nat → Int32) (L : List Nat) (ln : Nat → Nat) (M : Nat → Nat → Int32) (r5 : Nat → Nat) (mm : Nat) (n : Nat) (h24 : f 24 = nI mm) (hm120 : mm ≤ 120) (hn1 : 1 ≤ n) (hn2 : n ≤ 120) (F_r5 : ∀ i, i < 121 → r5 i ∈ L ∧ ln (r5 i) = 25 ∧ True) : he_I l yX11_undo wsX11_undo 1 23 0 0 g [.ref m0, .int (nI n)] ([(oX11 m0 tw ta sz_ pl at_ fa fw cs fd rfm rt_ to_ rw_ wa ct rk rb cn br sm as_ go sh_ ir oa ob th ig sp_ ki tg of_ kp sf rs), (aI g sm 25 f), (aM g go 121 (he_ro 121 r5))] ++ he_pl g L ln M) (fun (r : Int32) (u : Nat × (Nat → Int32)) => r = nI (mm - u.1) ∧ u.1 = mm - min n mm ∧ ((u.1 = mm ∧ u.2 = f) ∨ (u.1 < mm ∧ u.2 = flF (M (r5 u.1)) f 25))) (fun (u : Nat × (Nat → Int32)) => [(oX11 m0 0 ta sz_ pl at_ fa fw cs fd rfm rt_ to_ rw_ wa ct rk rb cn br sm as_ go sh_ ir oa ob th ig sp_ ki tg of_ kp sf rs), (aI g sm 25 u.2), (aM g go 121 (he_ro 121 r5))] ++ he_pl g L ln M) := by
  refine he_begin (l := l) (g := g) (y := yX11_undo) (wl := wsX11_undo) (fr := 1) (lo := 23) (mc := 0) (ms := 0) (av := [.ref m0, .int (nI n)]) (ws := ([(oX11 m0 tw ta sz_ pl at_ fa fw cs fd rfm rt_ to_ rw_ wa ct rk rb cn br sm as_ go sh_ ir oa ob th ig sp_ ki tg of_ kp sf rs), (aI g sm 25 f), (aM g go 121 (he_ro 121 r5))] ++ he_pl g L ln M)) (cc := cX11_undo) (maxL := 5) (ret := (some .int)) (fun A => va_Qi (fun (r : Int32) (u : Nat × (Nat → Int32)) => r = nI (mm - u.1) ∧ u.1 = mm - min n mm ∧ ((u.1 = mm ∧ u.2 = f) ∨ (u.1 < mm ∧ u.2 = flF (M (r5 u.1)) f 25))) (fun u t => he_post g A ((fun (u : Nat × (Nat → Int32)) => [(oX11 m0 0 ta sz_ pl at_ fa fw cs fd rfm rt_ to_ rw_ wa ct rk rb cn br sm as_ go sh_ ir oa ob th ig sp_ ki tg of_ kp sf rs), (aI g sm 25 u.2), (aM g go 121 (he_ro 121 r5))] ++ he_pl g L ln M) u) t) A) (by decide) rfl (Nat.le_of_ble_eq_true rfl) ?_
  intro p e s m args below meth c A ls H locs Q hQ hB
  obtain ⟨hx, hb, hr, hml, hown, hts, hlk, hin, hP, hK, hD, hS, hA, hE, hl⟩ := hB
  have hl : lv_has ls 5 [(0, .ref m0), (1, .int (nI n))] := hl
  have f85 := hts (.fieldLink RX11 85 "HiredEnemyModel" "thrown" "I") (iwoX11_undo (k := 0) rfl)
  have inX11 : ∀ w ∈ wsX110, w ∈ wsX11_undo := innX11_undo_X11
  have f46 := hts (.fieldLink RX11 46 "HiredEnemyModel" "s" "[I") (iwoX11_undo (k := 1) rfl)
  have f52 := hts (.fieldLink RX11 52 "HiredEnemyModel" "gone" "[[I") (iwoX11_undo (k := 2) rfl)
  refine lv_aload_n hx hb dX11_undo_0 rfl (lv_at hl 0 rfl) ?_
  refine lv_iconst (v := 0) hx hb dX11_undo_1 (by decide) ?_
  refine va_put (v := .int 0) (ty := .int) (T := TX11) (N := 35) hx hb hts inX11 tyX11 tyX11_ok nmX11 hown hK hP hD hS 0 rfl rfl 0 (by decide) f85 (fun _ h9 => h9) rfl (by decide +kernel) rfl rfl (Nat.le_of_ble_eq_true rfl) dX11_undo_2 (fun H locs hP hD hS => ?_)
  have hP : va_P g.1 vwCl ([(oX11 m0 0 ta sz_ pl at_ fa fw cs fd rfm rt_ to_ rw_ wa ct rk rb cn br sm as_ go sh_ ir oa ob th ig sp_ ki tg of_ kp sf rs), (aI g sm 25 f), (aM g go 121 (he_ro 121 r5))] ++ he_pl g L ln M) H := hP
  have hD : va_D A ([(oX11 m0 0 ta sz_ pl at_ fa fw cs fd rfm rt_ to_ rw_ wa ct rk rb cn br sm as_ go sh_ ir oa ob th ig sp_ ki tg of_ kp sf rs), (aI g sm 25 f), (aM g go 121 (he_ro 121 r5))] ++ he_pl g L ln M) := hD
  refine lv_aload_n hx hb dX11_undo_5 rfl (lv_at hl 0 rfl) ?_
  refine lv_iload_n hx hb dX11_undo_6 rfl (lv_at hl 1 rfl) ?_
  refine lv_iconst (v := 1) hx hb dX11_undo_7 (by decide) ?_
  refine lv_bipush (v := 120) hx hb dX11_undo_8 (by decide) ?_
  refine he_ci (wc := []) (wr := ([(oX11 m0 0 ta sz_ pl at_ fa fw cs fd rfm rt_ to_ rw_ wa ct rk rb cn br sm as_ go sh_ ir oa ob th ig sp_ ki tg of_ kp sf rs), (aI g sm 25 f), (aM g go 121 (he_ro 121 r5))] ++ (he_pl g L ln M))) (va_runS (As := [.int (nI n), .int 1, .int 120]) (rest := [.ref m0]) ⟨hx, hb, hml, hown, hts⟩ (c_X11_in l g (nI n) 1 120 H.size) (va_cwS 3 hts gX11_undo_X11_in rfl rfl rfl (by decide +kernel) ⟨Nat.le_of_ble_eq_true rfl, Nat.le_of_ble_eq_true rfl⟩) (he_preS (wc := []) hK hP hD hS hA hE [] rfl rfl) rfl rfl hl.1 rfl (lv_room (Nat.le_of_ble_eq_true rfl)) dX11_undo_10 ⟨(Nat.le_of_ble_eq_true rfl), (Nat.le_of_ble_eq_true rfl)⟩) hP hD hS hA [] (he_is [0, 1, 2] [(oX11 m0 0 ta sz_ pl at_ fa fw cs fd rfm rt_ to_ rw_ wa ct rk rb cn br sm as_ go sh_ ir oa ob th ig sp_ ki tg of_ kp sf rs), (aI g sm 25 f), (aM g go 121 (he_ro 121 r5))] (he_pl g L ln M)) rfl (he_ixP rfl) (he_ndP rfl rfl) (he_disN (by decide) rfl) (fun r_1 u_2 H locs h_3 hP hD hS => ?_)
  have hP := va_P.swap hP
  have hD := va_D.swap hD
  subst h_3
  have hP : va_P g.1 vwCl ([(oX11 m0 0 ta sz_ pl at_ fa fw cs fd rfm rt_ to_ rw_ wa ct rk rb cn br sm as_ go sh_ ir oa ob th ig sp_ ki tg of_ kp sf rs), (aI g sm 25 f), (aM g go 121 (he_ro 121 r5))] ++ he_pl g L ln M) H := hP
  have hD : va_D A ([(oX11 m0 0 ta sz_ pl at_ fa fw cs fd rfm rt_ to_ rw_ wa ct rk rb cn br sm as_ go sh_ ir oa ob th ig sp_ ki tg of_ kp sf rs), (aI g sm 25 f), (aM g go 121 (he_ro 121 r5))] ++ he_pl g L ln M) := hD
  refine he_top (1) (he_within_in (a0 := 1) (B := 120) rfl rfl (by omega) (by omega) (by decide)) ?_
  refine lv_if_ne (tgt := 20) hx hb dX11_undo_13 (by decide) (fun c_4 => ?_) (fun c_4 => ?_)
  · refine lv_iconst (v := 0) hx hb dX11_undo_20 (by decide) ?_
    refine lv_iconst (v := 1) hx hb dX11_undo_21 (by decide) ?_
    refine lv_iconst (v := 2) hx hb dX11_undo_22 (by decide) ?_
    refine he_ci (wc := [(oX11 m0 0 ta sz_ pl at_ fa fw cs fd rfm rt_ to_ rw_ wa ct rk rb cn br sm as_ go sh_ ir oa ob th ig sp_ ki tg of_ kp sf rs)]) (wr := ([(aI g sm 25 f), (aM g go 121 (he_ro 121 r5))] ++ (he_pl g L ln M))) (va_runV (As := [.int 0, .int 1, .int 2]) (rest := []) ⟨hx, hb, hml, hown, hts⟩ (c_X11_bad0 l g m0 fd rfm rt_ to_ rw_ wa rk rb cn br sm as_ go sh_ ki tg of_ kp rs ta sz_ pl at_ fa fw cs ct ir oa ob th ig sp_ sf 1 2 H.size) (cwV 3 hts gX11_undo_X11_bad rfl rfl rfl (by decide +kernel) ⟨Nat.le_of_ble_eq_true rfl, Nat.le_of_ble_eq_true rfl⟩) (he_preV (wc := [(oX11 m0 0 ta sz_ pl at_ fa fw cs fd rfm rt_ to_ rw_ wa ct rk rb cn br sm as_ go sh_ ir oa ob th ig sp_ ki tg of_ kp sf rs)]) hK hP hD hS hA hE [0] rfl rfl 0 rfl rfl) rfl rfl hl.1 rfl (lv_room (Nat.le_of_ble_eq_true rfl)) dX11_undo_23 ⟨(Nat.le_of_ble_eq_true rfl), (Nat.le_of_ble_eq_true rfl)⟩) hP hD hS hA [0] (he_is [1, 2] [(oX11 m0 0 ta sz_ pl at_ fa fw cs fd rfm rt_ to_ rw_ wa ct rk rb cn br sm as_ go sh_ ir oa ob th ig sp_ ki tg of_ kp sf rs), (aI g sm 25 f), (aM g go 121 (he_ro 121 r5))] (he_pl g L ln M)) rfl (he_ixP rfl) (he_ndP rfl rfl) (he_disN (by decide) rfl) (fun r_5 u_6 H locs h_7 hP hD hS => ?_)
    have hP := va_P.swap hP
    have hD := va_D.swap hD
    subst h_7
    have hP : va_P g.1 vwCl ([(aI g sm 25 f), (aM g go 121 (he_ro 121 r5)), (oX11 m0 0 ta sz_ pl at_ fa fw cs fd rfm rt_ to_ rw_ wa ct rk rb cn br sm as_ go sh_ ir oa ob th ig sp_ ki tg of_ kp sf rs)] ++ he_pl g L ln M) H := hP
    have hD : va_D A ([(aI g sm 25 f), (aM g go 121 (he_ro 121 r5)), (oX11 m0 0 ta sz_ pl at_ fa fw cs fd rfm rt_ to_ rw_ wa ct rk rb cn br sm as_ go sh_ ir oa ob th ig sp_ ki tg of_ kp sf rs)] ++ he_pl g L ln M) := hD
    refine lv_if_eq (tgt := 31) hx hb dX11_undo_26 (by decide) (fun c_8 => ?_) (fun c_8 => ?_)
    · refine lv_iload_n hx hb dX11_undo_31 rfl (lv_at hl 1 rfl) ?_
      refine lv_aload_n hx hb dX11_undo_32 rfl (lv_at hl 0 rfl) ?_
      refine va_get (v := .ref sm) (T := TX11) (N := 35) hx hb hts inX11 hown hK hP 2 rfl rfl 19 (by decide) f46 (fun _ h9 => h9) rfl dX11_undo_33 ?_
      refine lv_bipush (v := 24) hx hb dX11_undo_36 (by decide) ?_
      refine he_iald hx hb hK hP 0 rfl (24) (by decide) (by decide) (by first | decide | assumption) (nI mm) h24 dX11_undo_38 ?_
      refine he_ci (wc := []) (wr := ([(aI g sm 25 f), (aM g go 121 (he_ro 121 r5)), (oX11 m0 0 ta sz_ pl at_ fa fw cs fd rfm rt_ to_ rw_ wa ct rk rb cn br sm as_ go sh_ ir oa ob th ig sp_ ki tg of_ kp sf rs)] ++ (he_pl g L ln M))) (va_runS (As := [.int (nI n), .int (nI mm)]) (rest := []) ⟨hx, hb, hml, hown, hts⟩ (c_X11_less l g (nI n) (nI mm) H.size) (va_cwS 2 hts gX11_undo_X11_less rfl rfl rfl (by decide +kernel) ⟨Nat.le_of_ble_eq_true rfl, Nat.le_of_ble_eq_true rfl⟩) (he_preS (wc := []) hK hP hD hS hA hE [] rfl rfl) rfl rfl hl.1 rfl (lv_room (Nat.le_of_ble_eq_true rfl)) dX11_undo_39 ⟨(Nat.le_of_ble_eq_true rfl), (Nat.le_of_ble_eq_true rfl)⟩) hP hD hS hA [] (he_is [0, 1, 2] [(aI g sm 25 f), (aM g go 121 (he_ro 121 r5)), (oX11 m0 0 ta sz_ pl at_ fa fw cs fd rfm rt_ to_ rw_ wa ct rk rb cn br sm as_ go sh_ ir oa ob th ig sp_ ki tg of_ kp sf rs)] (he_pl g L ln M)) rfl (he_ixP rfl) (he_ndP rfl rfl) (he_disN (by decide) rfl) (fun r_9 u_10 H locs h_11 hP hD hS => ?_)
      have hP := va_P.swap hP
      have hD := va_D.swap hD
      subst h_11
      have hP : va_P g.1 vwCl ([(aI g sm 25 f), (aM g go 121 (he_ro 121 r5)), (oX11 m0 0 ta sz_ pl at_ fa fw cs fd rfm rt_ to_ rw_ wa ct rk rb cn br sm as_ go sh_ ir oa ob th ig sp_ ki tg of_ kp sf rs)] ++ he_pl g L ln M) H := hP
      have hD : va_D A ([(aI g sm 25 f), (aM g go 121 (he_ro 121 r5)), (oX11 m0 0 ta sz_ pl at_ fa fw cs fd rfm rt_ to_ rw_ wa ct rk rb cn br sm as_ go sh_ ir oa ob th ig sp_ ki tg of_ kp sf rs)] ++ he_pl g L ln M) := hD
      refine he_top (nI (min n mm)) (nI_min (by omega) (by omega)) ?_
      refine lv_istore_n (lv' := [(2, .int (nI (min n mm))), (0, .ref m0), (1, .int (nI n))]) hx hb dX11_undo_42 rfl hl (by decide) rfl (fun ls hl => ?_)
      refine lv_aload_n hx hb dX11_undo_43 rfl (lv_at hl 1 rfl) ?_
      refine va_get (v := .ref sm) (T := TX11) (N := 35) hx hb hts inX11 hown hK hP 2 rfl rfl 19 (by decide) f46 (fun _ h9 => h9) rfl dX11_undo_44 ?_
      refine lv_bipush (v := 24) hx hb dX11_undo_47 (by decide) ?_
      refine he_iald hx hb hK hP 0 rfl (24) (by decide) (by decide) (by first | decide | assumption) (nI mm) h24 dX11_undo_49 ?_
      refine lv_iload_n hx hb dX11_undo_50 rfl (lv_at hl 0 rfl) ?_
      refine lv_isub hx hb dX11_undo_51 ?_
      refine he_top (nI (mm - min n mm)) (pk_sub (by omega)) ?_
      refine lv_istore_n (lv' := [(3, .int (nI (mm - min n mm))), (2, .int (nI (min n mm))), (0, .ref m0), (1, .int (nI n))]) hx hb dX11_undo_52 rfl hl (by decide) rfl (fun ls hl => ?_)
      refine lv_iload_n hx hb dX11_undo_53 rfl (lv_at hl 1 rfl) ?_
      refine lv_if_ne (tgt := 59) hx hb dX11_undo_54 (by decide) (fun c_12 => ?_) (fun c_12 => ?_)
      · have k_13 : ¬ (min n mm = 0) := fun h9 => c_12 ((he_ceq (a := min n mm) (b := 0) rfl (by decide) (by omega) (by omega)).mpr h9)
        refine lv_iconst (v := 0) hx hb dX11_undo_59 (by decide) ?_
        refine lv_istore (lv' := [(4, .int 0), (3, .int (nI (mm - min n mm))), (2, .int (nI (min n mm))), (0, .ref m0), (1, .int (nI n))]) hx hb dX11_undo_60 hl (by decide) rfl (fun ls hl => ?_)
        have loop62 : ∀ (n9 : Nat) (i1 : Nat), 25 - i1 < n9 → (i1 ≤ 25) → ∀ (H : Heap) (locs : List Loc) (ls : Array Slot), va_P g.1 vwCl ([(oX11 m0 0 ta sz_ pl at_ fa fw cs fd rfm rt_ to_ rw_ wa ct rk rb cn br sm as_ go sh_ ir oa ob th ig sp_ ki tg of_ kp sf rs), (aI g sm 25 (flF (M (r5 (mm - min n mm))) f i1)), (aM g go 121 (he_ro 121 r5))] ++ he_pl g L ln M) H → va_D A ([(oX11 m0 0 ta sz_ pl at_ fa fw cs fd rfm rt_ to_ rw_ wa ct rk rb cn br sm as_ go sh_ ir oa ob th ig sp_ ki tg of_ kp sf rs), (aI g sm 25 (flF (M (r5 (mm - min n mm))) f i1)), (aM g go 121 (he_ro 121 r5))] ++ he_pl g L ln M) → va_S A s.heap H locs → lv_has ls 5 [(0, .ref m0), (2, .int (nI (min n mm))), (3, .int (nI (mm - min n mm))), (4, .int (nI i1))] → W p l e (he_room 1 23 0 0) s m args below meth c H locs 0 0 Q (F0 m 62 ls []) := by
          intro n9
          induction n9 with
          | zero => intro i1 hm9; exact absurd hm9 (Nat.not_lt_zero _)
          | succ n9 ih62 =>
            intro i1 hm9 hi1 H locs ls hP hD hS hl
            refine lv_iload hx hb dX11_undo_62 (lv_at hl 3 rfl) ?_
            refine lv_bipush (v := 25) hx hb dX11_undo_64 (by decide) ?_
            refine lv_icmp_ge (tgt := 91) hx hb dX11_undo_66 (by decide) (fun c_14 => ?_) (fun c_14 => ?_)
            · have k_15 : 25 ≤ i1 := (he_cle (a := 25) (b := i1) (by decide) rfl (by omega) (by omega)).mp c_14
              obtain rfl : i1 = 25 := by omega
              refine lv_iload_n hx hb dX11_undo_91 rfl (lv_at hl 1 rfl) ?_
              exact he_ri hQ hx hb hr hlk hP hD hS dX11_undo_92 (Nat.le_of_ble_eq_true rfl) (Nat.le_of_ble_eq_true rfl) ((mm - min n mm, flF (M (r5 (mm - min n mm))) f 25)) (rfl) (by (try dsimp only); exact ⟨congrArg nI (by first | rfl | (dsimp only; omega) | omega), by first | rfl | omega, Or.inr ⟨by first | omega | (dsimp only; omega), rfl⟩⟩)
            · have k_16 : ¬ (25 ≤ i1) := fun h9 => c_14 ((he_cle (a := 25) (b := i1) (by decide) rfl (by omega) (by omega)).mpr h9)
              refine lv_aload_n hx hb dX11_undo_69 rfl (lv_at hl 0 rfl) ?_
              refine va_get (v := .ref sm) (T := TX11) (N := 35) hx hb hts inX11 hown hK hP 0 rfl rfl 19 (by decide) f46 (fun _ h9 => h9) rfl dX11_undo_70 ?_
              refine lv_iload hx hb dX11_undo_73 (lv_at hl 3 rfl) ?_
              refine lv_aload_n hx hb dX11_undo_75 rfl (lv_at hl 0 rfl) ?_
              refine va_get (v := .ref go) (T := TX11) (N := 35) hx hb hts inX11 hown hK hP 0 rfl rfl 21 (by decide) f52 (fun _ h9 => h9) rfl dX11_undo_76 ?_
              refine lv_iload_n hx hb dX11_undo_79 rfl (lv_at hl 2 rfl) ?_
              refine he_aldm hx hb hK hP 2 rfl (mm - min n mm) rfl (by first | assumption | decide | omega) (by decide) dX11_undo_80 ?_
              refine lv_iload hx hb dX11_undo_81 (lv_at hl 3 rfl) ?_
              refine he_pald hx hb hK hP (F_r5 (mm - min n mm) (by first | assumption | decide | omega)).1 (i1) rfl (by rw [(F_r5 (mm - min n mm) (by first | assumption | decide | omega)).2.1]; exact (by first | assumption | decide | omega)) (by rw [(F_r5 (mm - min n mm) (by first | assumption | decide | omega)).2.1]; decide) (M (r5 (mm - min n mm)) i1) rfl dX11_undo_83 ?_
              refine he_iast hx hb hK hP hD hS 1 rfl (i1) rfl (by first | assumption | decide | omega) (by first | decide | assumption) dX11_undo_84 (fun H locs hP hD hS => ?_)
              have hP : va_P g.1 vwCl ([(oX11 m0 0 ta sz_ pl at_ fa fw cs fd rfm rt_ to_ rw_ wa ct rk rb cn br sm as_ go sh_ ir oa ob th ig sp_ ki tg of_ kp sf rs), (aI g sm 25 (upd (flF (M (r5 (mm - min n mm))) f i1) i1 (M (r5 (mm - min n mm)) i1))), (aM g go 121 (he_ro 121 r5))] ++ he_pl g L ln M) H := hP
              have hD : va_D A ([(oX11 m0 0 ta sz_ pl at_ fa fw cs fd rfm rt_ to_ rw_ wa ct rk rb cn br sm as_ go sh_ ir oa ob th ig sp_ ki tg of_ kp sf rs), (aI g sm 25 (upd (flF (M (r5 (mm - min n mm))) f i1) i1 (M (r5 (mm - min n mm)) i1))), (aM g go 121 (he_ro 121 r5))] ++ he_pl g L ln M) := hD
              refine lv_iinc (v := nI (i1 + 1)) (lv' := [(4, .int (nI (i1 + 1))), (0, .ref m0), (2, .int (nI (min n mm))), (3, .int (nI (mm - min n mm)))]) hx hb dX11_undo_85 hl (k := 3) rfl (nI_1 i1) (by decide) rfl (fun ls hl => ?_)
              refine lv_goto (tgt := 62) hx hb dX11_undo_88 (by decide) ?_
              have hP : va_P g.1 vwCl ([(oX11 m0 0 ta sz_ pl at_ fa fw cs fd rfm rt_ to_ rw_ wa ct rk rb cn br sm as_ go sh_ ir oa ob th ig sp_ ki tg of_ kp sf rs), (aI g sm 25 (flF (M (r5 (mm - min n mm))) f (i1 + 1))), (aM g go 121 (he_ro 121 r5))] ++ he_pl g L ln M) H := by rw [← flF_s]; exact hP
              have hD : va_D A ([(oX11 m0 0 ta sz_ pl at_ fa fw cs fd rfm rt_ to_ rw_ wa ct rk rb cn br sm as_ go sh_ ir oa ob th ig sp_ ki tg of_ kp sf rs), (aI g sm 25 (flF (M (r5 (mm - min n mm))) f (i1 + 1))), (aM g go 121 (he_ro 121 r5))] ++ he_pl g L ln M) := by rw [← flF_s]; exact hD
              exact ih62 (i1 + 1) (by omega) (by omega) _ _ _ hP hD hS (lv_sub hl [1, 2, 3, 0] rfl)
        have hP : va_P g.1 vwCl ([(aI g sm 25 (flF (M (r5 (mm - min n mm))) f 0)), (aM g go 121 (he_ro 121 r5)), (oX11 m0 0 ta sz_ pl at_ fa fw cs fd rfm rt_ to_ rw_ wa ct rk rb cn br sm as_ go sh_ ir oa ob th ig sp_ ki tg of_ kp sf rs)] ++ he_pl g L ln M) H := by rw [flF_0]; exact hP
        have hD : va_D A ([(aI g sm 25 (flF (M (r5 (mm - min n mm))) f 0)), (aM g go 121 (he_ro 121 r5)), (oX11 m0 0 ta sz_ pl at_ fa fw cs fd rfm rt_ to_ rw_ wa ct rk rb cn br sm as_ go sh_ ir oa ob th ig sp_ ki tg of_ kp sf rs)] ++ he_pl g L ln M) := by rw [flF_0]; exact hD
        have hP := he_Psub (X := [(aI g sm 25 (flF (M (r5 (mm - min n mm))) f 0)), (aM g go 121 (he_ro 121 r5)), (oX11 m0 0 ta sz_ pl at_ fa fw cs fd rfm rt_ to_ rw_ wa ct rk rb cn br sm as_ go sh_ ir oa ob th ig sp_ ki tg of_ kp sf rs)]) (X2 := [(oX11 m0 0 ta sz_ pl at_ fa fw cs fd rfm rt_ to_ rw_ wa ct rk rb cn br sm as_ go sh_ ir oa ob th ig sp_ ki tg of_ kp sf rs), (aI g sm 25 (flF (M (r5 (mm - min n mm))) f 0)), (aM g go 121 (he_ro 121 r5))]) (P := (he_pl g L ln M)) hP [2, 0, 1] rfl
        have hD := he_Dsub (X := [(aI g sm 25 (flF (M (r5 (mm - min n mm))) f 0)), (aM g go 121 (he_ro 121 r5)), (oX11 m0 0 ta sz_ pl at_ fa fw cs fd rfm rt_ to_ rw_ wa ct rk rb cn br sm as_ go sh_ ir oa ob th ig sp_ ki tg of_ kp sf rs)]) (X2 := [(oX11 m0 0 ta sz_ pl at_ fa fw cs fd rfm rt_ to_ rw_ wa ct rk rb cn br sm as_ go sh_ ir oa ob th ig sp_ ki tg of_ kp sf rs), (aI g sm 25 (flF (M (r5 (mm - min n mm))) f 0)), (aM g go 121 (he_ro 121 r5))]) (P := (he_pl g L ln M)) hD [2, 0, 1] rfl rfl rfl
        exact loop62 ((25 - 0) + 1) 0 (Nat.lt_succ_self _) (Nat.zero_le _) _ _ _ hP hD hS (lv_sub hl [3, 2, 1, 0] rfl)
      · have k_17 : min n mm = 0 := (he_ceq (a := min n mm) (b := 0) rfl (by decide) (by omega) (by omega)).mp c_12
        refine lv_iconst (v := 0) hx hb dX11_undo_57 (by decide) ?_
        have hP := he_Psub (X := [(aI g sm 25 f), (aM g go 121 (he_ro 121 r5)), (oX11 m0 0 ta sz_ pl at_ fa fw cs fd rfm rt_ to_ rw_ wa ct rk rb cn br sm as_ go sh_ ir oa ob th ig sp_ ki tg of_ kp sf rs)]) (X2 := [(oX11 m0 0 ta sz_ pl at_ fa fw cs fd rfm rt_ to_ rw_ wa ct rk rb cn br sm as_ go sh_ ir oa ob th ig sp_ ki tg of_ kp sf rs), (aI g sm 25 f), (aM g go 121 (he_ro 121 r5))]) (P := (he_pl g L ln M)) hP [2, 0, 1] rfl
        have hD := he_Dsub (X := [(aI g sm 25 f), (aM g go 121 (he_ro 121 r5)), (oX11 m0 0 ta sz_ pl at_ fa fw cs fd rfm rt_ to_ rw_ wa ct rk rb cn br sm as_ go sh_ ir oa ob th ig sp_ ki tg of_ kp sf rs)]) (X2 := [(oX11 m0 0 ta sz_ pl at_ fa fw cs fd rfm rt_ to_ rw_ wa ct rk rb cn br sm as_ go sh_ ir oa ob th ig sp_ ki tg of_ kp sf rs), (aI g sm 25 f), (aM g go 121 (he_ro 121 r5))]) (P := (he_pl g L ln M)) hD [2, 0, 1] rfl rfl rfl
        exact he_ri hQ hx hb hr hlk hP hD hS dX11_undo_58 (Nat.le_of_ble_eq_true rfl) (Nat.le_of_ble_eq_true rfl) ((mm - min n mm, f)) (rfl) (by (try dsimp only); exact ⟨by (try dsimp only); rw [show mm - (mm - min n mm) = 0 by (try dsimp only); omega]; rfl, by first | rfl | omega, Or.inl ⟨by first | omega | (dsimp only; omega), rfl⟩⟩)
    · exact absurd (by decide) c_8
  · exact absurd c_4 (by decide)
end
section
def neR (tl : Nat → Int32) (p k : Int32) : Nat → Nat → Int32
  | 0, _ => -1
  | f + 1, r => if mwF tl (nI r) k ≤ p then nI r else neR tl p k f (r + 1)
set_option maxHeartbeats 4000000 in
set_option maxRecDepth 100000 in
theorem r_X11_told0 (l : Launch) (g : he_G) (m0 : Nat) (fd : Nat) (rfm : Nat) (rt_ : Nat) (to_ : Nat) (rw_ : Nat) (wa : Nat) (rk : Nat) (rb : Nat) (cn : Nat) (br : Nat) (sm : Nat) (as_ : Nat) (go : Nat) (sh_ : Nat) (ki : Nat) (tg : Nat) (of_ : Nat) (kp : Nat) (rs : Nat) (ta : Int32) (sz_ : Int32) (pl : Int32) (at_ : Int32) (fa : Int32) (fw : Int32) (cs : Int32) (ct : Int32) (ir : Int32) (oa : Int32) (ob : Int32) (th : Int32) (ig : Int32) (sp_ : Int32) (sf : Int32) (tw : Int32) (tl : Nat → Int32) (f : Nat → Int32)  : he_I l yX11_told wsX11_told 1 23 0 0 g [.ref m0, .int 0] [(oX11 m0 tw ta sz_ pl at_ fa fw cs fd rfm rt_ to_ rw_ wa ct rk rb cn br sm as_ go sh_ ir oa ob th ig sp_ ki tg of_ kp sf rs), (aI g to_ 25 tl), (aI g sm 25 f)] (fun (r : Int32) (u : Unit) => r = tl 0) (fun (u : Unit) => [(oX11 m0 0 ta sz_ pl at_ fa fw cs fd rfm rt_ to_ rw_ wa ct rk rb cn br sm as_ go sh_ ir oa ob th ig sp_ ki tg of_ kp sf rs), (aI g to_ 25 tl), (aI g sm 25 f)]) := by
  refine he_begin (l := l) (g := g) (y := yX11_told) (wl := wsX11_told) (fr := 1) (lo := 23) (mc := 0) (ms := 0) (av := [.ref m0, .int 0]) (ws := [(oX11 m0 tw ta sz_ pl at_ fa fw cs fd rfm rt_ to_ rw_ wa ct rk rb cn br sm as_ go sh_ ir oa ob th ig sp_ ki tg of_ kp sf rs), (aI g to_ 25 tl), (aI g sm 25 f)]) (cc := cX11_told) (maxL := 2) (ret := (some .int)) (fun A => va_Qi (fun (r : Int32) (u : Unit) => r = tl 0) (fun u t => he_post g A ((fun (u : Unit) => [(oX11 m0 0 ta sz_ pl at_ fa fw cs fd rfm rt_ to_ rw_ wa ct rk rb cn br sm as_ go sh_ ir oa ob th ig sp_ ki tg of_ kp sf rs), (aI g to_ 25 tl), (aI g sm 25 f)]) u) t) A) (by decide) rfl (Nat.le_of_ble_eq_true rfl) ?_
  intro p e s m args below meth c A ls H locs Q hQ hB
  obtain ⟨hx, hb, hr, hml, hown, hts, hlk, hin, hP, hK, hD, hS, hA, hE, hl⟩ := hB
  have hl : lv_has ls 2 [(0, .ref m0), (1, .int 0)] := hl
  have f85 := hts (.fieldLink RX11 85 "HiredEnemyModel" "thrown" "I") (iwoX11_told (k := 0) rfl)
  have inX11 : ∀ w ∈ wsX110, w ∈ wsX11_told := innX11_told_X11
  have f23 := hts (.fieldLink RX11 23 "HiredEnemyModel" "told" "[I") (iwoX11_told (k := 1) rfl)
  refine lv_aload_n hx hb dX11_told_0 rfl (lv_at hl 0 rfl) ?_
  refine lv_iconst (v := 0) hx hb dX11_told_1 (by decide) ?_
  refine va_put (v := .int 0) (ty := .int) (T := TX11) (N := 35) hx hb hts inX11 tyX11 tyX11_ok nmX11 hown hK hP hD hS 0 rfl rfl 0 (by decide) f85 (fun _ h9 => h9) rfl (by decide +kernel) rfl rfl (Nat.le_of_ble_eq_true rfl) dX11_told_2 (fun H locs hP hD hS => ?_)
  have hP : va_P g.1 vwCl [(oX11 m0 0 ta sz_ pl at_ fa fw cs fd rfm rt_ to_ rw_ wa ct rk rb cn br sm as_ go sh_ ir oa ob th ig sp_ ki tg of_ kp sf rs), (aI g to_ 25 tl), (aI g sm 25 f)] H := hP
  have hD : va_D A [(oX11 m0 0 ta sz_ pl at_ fa fw cs fd rfm rt_ to_ rw_ wa ct rk rb cn br sm as_ go sh_ ir oa ob th ig sp_ ki tg of_ kp sf rs), (aI g to_ 25 tl), (aI g sm 25 f)] := hD
  refine lv_aload_n hx hb dX11_told_5 rfl (lv_at hl 0 rfl) ?_
  refine lv_iload_n hx hb dX11_told_6 rfl (lv_at hl 1 rfl) ?_
  refine lv_iconst (v := 0) hx hb dX11_told_7 (by decide) ?_
  refine lv_iconst (v := 4) hx hb dX11_told_8 (by decide) ?_
  refine he_ci (wc := []) (wr := [(oX11 m0 0 ta sz_ pl at_ fa fw cs fd rfm rt_ to_ rw_ wa ct rk rb cn br sm as_ go sh_ ir oa ob th ig sp_ ki tg of_ kp sf rs), (aI g to_ 25 tl), (aI g sm 25 f)]) (va_runS (As := [.int 0, .int 0, .int 4]) (rest := [.ref m0]) ⟨hx, hb, hml, hown, hts⟩ (c_X11_in l g 0 0 4 H.size) (va_cwS 3 hts gX11_told_X11_in rfl rfl rfl (by decide +kernel) ⟨Nat.le_of_ble_eq_true rfl, Nat.le_of_ble_eq_true rfl⟩) (he_preS (wc := []) hK hP hD hS hA hE [] rfl rfl) rfl rfl hl.1 rfl (lv_room (Nat.le_of_ble_eq_true rfl)) dX11_told_9 ⟨(Nat.le_of_ble_eq_true rfl), (Nat.le_of_ble_eq_true rfl)⟩) hP hD hS hA [] [0, 1, 2] rfl rfl rfl (by decide) (fun r_1 u_2 H locs h_3 hP hD hS => ?_)
  subst h_3
  have hP : va_P g.1 vwCl [(oX11 m0 0 ta sz_ pl at_ fa fw cs fd rfm rt_ to_ rw_ wa ct rk rb cn br sm as_ go sh_ ir oa ob th ig sp_ ki tg of_ kp sf rs), (aI g to_ 25 tl), (aI g sm 25 f)] H := hP
  have hD : va_D A [(oX11 m0 0 ta sz_ pl at_ fa fw cs fd rfm rt_ to_ rw_ wa ct rk rb cn br sm as_ go sh_ ir oa ob th ig sp_ ki tg of_ kp sf rs), (aI g to_ 25 tl), (aI g sm 25 f)] := hD
  refine he_top (1) (by decide) ?_
  refine lv_if_ne (tgt := 19) hx hb dX11_told_12 (by decide) (fun c_4 => ?_) (fun c_4 => ?_)
  · refine lv_iconst (v := 0) hx hb dX11_told_19 (by decide) ?_
    refine lv_iconst (v := 1) hx hb dX11_told_20 (by decide) ?_
    refine lv_iconst (v := 2) hx hb dX11_told_21 (by decide) ?_
    refine he_ci (wc := [(oX11 m0 0 ta sz_ pl at_ fa fw cs fd rfm rt_ to_ rw_ wa ct rk rb cn br sm as_ go sh_ ir oa ob th ig sp_ ki tg of_ kp sf rs)]) (wr := [(aI g to_ 25 tl), (aI g sm 25 f)]) (va_runV (As := [.int 0, .int 1, .int 2]) (rest := []) ⟨hx, hb, hml, hown, hts⟩ (c_X11_bad0 l g m0 fd rfm rt_ to_ rw_ wa rk rb cn br sm as_ go sh_ ki tg of_ kp rs ta sz_ pl at_ fa fw cs ct ir oa ob th ig sp_ sf 1 2 H.size) (cwV 3 hts gX11_told_X11_bad rfl rfl rfl (by decide +kernel) ⟨Nat.le_of_ble_eq_true rfl, Nat.le_of_ble_eq_true rfl⟩) (he_preV (wc := [(oX11 m0 0 ta sz_ pl at_ fa fw cs fd rfm rt_ to_ rw_ wa ct rk rb cn br sm as_ go sh_ ir oa ob th ig sp_ ki tg of_ kp sf rs)]) hK hP hD hS hA hE [0] rfl rfl 0 rfl rfl) rfl rfl hl.1 rfl (lv_room (Nat.le_of_ble_eq_true rfl)) dX11_told_22 ⟨(Nat.le_of_ble_eq_true rfl), (Nat.le_of_ble_eq_true rfl)⟩) hP hD hS hA [0] [1, 2] rfl rfl rfl (by decide) (fun r_5 u_6 H locs h_7 hP hD hS => ?_)
    subst h_7
    have hP : va_P g.1 vwCl [(aI g to_ 25 tl), (aI g sm 25 f), (oX11 m0 0 ta sz_ pl at_ fa fw cs fd rfm rt_ to_ rw_ wa ct rk rb cn br sm as_ go sh_ ir oa ob th ig sp_ ki tg of_ kp sf rs)] H := hP
    have hD : va_D A [(aI g to_ 25 tl), (aI g sm 25 f), (oX11 m0 0 ta sz_ pl at_ fa fw cs fd rfm rt_ to_ rw_ wa ct rk rb cn br sm as_ go sh_ ir oa ob th ig sp_ ki tg of_ kp sf rs)] := hD
    refine lv_if_eq (tgt := 30) hx hb dX11_told_25 (by decide) (fun c_8 => ?_) (fun c_8 => ?_)
    · refine lv_iload_n hx hb dX11_told_30 rfl (lv_at hl 1 rfl) ?_
      refine lv_if_ne (tgt := 43) hx hb dX11_told_31 (by decide) (fun c_9 => ?_) (fun c_9 => ?_)
      · exact absurd (by decide) c_9
      · refine lv_aload_n hx hb dX11_told_34 rfl (lv_at hl 0 rfl) ?_
        refine va_get (v := .ref to_) (T := TX11) (N := 35) hx hb hts inX11 hown hK hP 2 rfl rfl 11 (by decide) f23 (fun _ h9 => h9) rfl dX11_told_35 ?_
        refine lv_iconst (v := 0) hx hb dX11_told_38 (by decide) ?_
        refine he_iald hx hb hK hP 0 rfl (0) (by decide) (by decide) (by first | decide | assumption) (tl 0) rfl dX11_told_39 ?_
        refine lv_goto (tgt := 81) hx hb dX11_told_40 (by decide) ?_
        have hP := hP.sub (ws' := [(oX11 m0 0 ta sz_ pl at_ fa fw cs fd rfm rt_ to_ rw_ wa ct rk rb cn br sm as_ go sh_ ir oa ob th ig sp_ ki tg of_ kp sf rs), (aI g to_ 25 tl), (aI g sm 25 f)]) [2, 0, 1] rfl
        have hD := hD.sub (ws' := [(oX11 m0 0 ta sz_ pl at_ fa fw cs fd rfm rt_ to_ rw_ wa ct rk rb cn br sm as_ go sh_ ir oa ob th ig sp_ ki tg of_ kp sf rs), (aI g to_ 25 tl), (aI g sm 25 f)]) [2, 0, 1] (by decide) rfl
        exact he_ri hQ hx hb hr hlk hP hD hS dX11_told_81 (Nat.le_of_ble_eq_true rfl) (Nat.le_of_ble_eq_true rfl) (()) (rfl) (rfl)
    · exact absurd (by decide) c_8
  · exact absurd c_4 (by decide)
set_option maxHeartbeats 4000000 in
set_option maxRecDepth 100000 in
theorem r_X11_told1 (l : Launch) (g : he_G) (m0 : Nat) (fd : Nat) (rfm : Nat) (rt_ : Nat) (to_ : Nat) (rw_ : Nat) (wa : Nat) (rk : Nat) (rb : Nat) (cn : Nat) (br : Nat) (sm : Nat) (as_ : Nat) (go : Nat) (sh_ : Nat) (ki : Nat) (tg : Nat) (of_ : Nat) (kp : Nat) (rs : Nat) (ta : Int32) (sz_ : Int32) (pl : Int32) (at_ : Int32) (fa : Int32) (fw : Int32) (cs : Int32) (ct : Int32) (ir : Int32) (oa : Int32) (ob : Int32) (th : Int32) (ig : Int32) (sp_ : Int32) (sf : Int32) (tw : Int32) (tl : Nat → Int32) (f : Nat → Int32)  : he_I l yX11_told wsX11_told 1 23 0 0 g [.ref m0, .int 1] [(oX11 m0 tw ta sz_ pl at_ fa fw cs fd rfm rt_ to_ rw_ wa ct rk rb cn br sm as_ go sh_ ir oa ob th ig sp_ ki tg of_ kp sf rs), (aI g to_ 25 tl), (aI g sm 25 f)] (fun (r : Int32) (u : Unit) => r = ct) (fun (u : Unit) => [(oX11 m0 0 ta sz_ pl at_ fa fw cs fd rfm rt_ to_ rw_ wa ct rk rb cn br sm as_ go sh_ ir oa ob th ig sp_ ki tg of_ kp sf rs), (aI g to_ 25 tl), (aI g sm 25 f)]) := by
  refine he_begin (l := l) (g := g) (y := yX11_told) (wl := wsX11_told) (fr := 1) (lo := 23) (mc := 0) (ms := 0) (av := [.ref m0, .int 1]) (ws := [(oX11 m0 tw ta sz_ pl at_ fa fw cs fd rfm rt_ to_ rw_ wa ct rk rb cn br sm as_ go sh_ ir oa ob th ig sp_ ki tg of_ kp sf rs), (aI g to_ 25 tl), (aI g sm 25 f)]) (cc := cX11_told) (maxL := 2) (ret := (some .int)) (fun A => va_Qi (fun (r : Int32) (u : Unit) => r = ct) (fun u t => he_post g A ((fun (u : Unit) => [(oX11 m0 0 ta sz_ pl at_ fa fw cs fd rfm rt_ to_ rw_ wa ct rk rb cn br sm as_ go sh_ ir oa ob th ig sp_ ki tg of_ kp sf rs), (aI g to_ 25 tl), (aI g sm 25 f)]) u) t) A) (by decide) rfl (Nat.le_of_ble_eq_true rfl) ?_
  intro p e s m args below meth c A ls H locs Q hQ hB
  obtain ⟨hx, hb, hr, hml, hown, hts, hlk, hin, hP, hK, hD, hS, hA, hE, hl⟩ := hB
  have hl : lv_has ls 2 [(0, .ref m0), (1, .int 1)] := hl
  have f85 := hts (.fieldLink RX11 85 "HiredEnemyModel" "thrown" "I") (iwoX11_told (k := 0) rfl)
  have inX11 : ∀ w ∈ wsX110, w ∈ wsX11_told := innX11_told_X11
  have f162 := hts (.fieldLink RX11 162 "HiredEnemyModel" "contracts" "I") (iwoX11_told (k := 2) rfl)
  refine lv_aload_n hx hb dX11_told_0 rfl (lv_at hl 0 rfl) ?_
  refine lv_iconst (v := 0) hx hb dX11_told_1 (by decide) ?_
  refine va_put (v := .int 0) (ty := .int) (T := TX11) (N := 35) hx hb hts inX11 tyX11 tyX11_ok nmX11 hown hK hP hD hS 0 rfl rfl 0 (by decide) f85 (fun _ h9 => h9) rfl (by decide +kernel) rfl rfl (Nat.le_of_ble_eq_true rfl) dX11_told_2 (fun H locs hP hD hS => ?_)
  have hP : va_P g.1 vwCl [(oX11 m0 0 ta sz_ pl at_ fa fw cs fd rfm rt_ to_ rw_ wa ct rk rb cn br sm as_ go sh_ ir oa ob th ig sp_ ki tg of_ kp sf rs), (aI g to_ 25 tl), (aI g sm 25 f)] H := hP
  have hD : va_D A [(oX11 m0 0 ta sz_ pl at_ fa fw cs fd rfm rt_ to_ rw_ wa ct rk rb cn br sm as_ go sh_ ir oa ob th ig sp_ ki tg of_ kp sf rs), (aI g to_ 25 tl), (aI g sm 25 f)] := hD
  refine lv_aload_n hx hb dX11_told_5 rfl (lv_at hl 0 rfl) ?_
  refine lv_iload_n hx hb dX11_told_6 rfl (lv_at hl 1 rfl) ?_
  refine lv_iconst (v := 0) hx hb dX11_told_7 (by decide) ?_
  refine lv_iconst (v := 4) hx hb dX11_told_8 (by decide) ?_
  refine he_ci (wc := []) (wr := [(oX11 m0 0 ta sz_ pl at_ fa fw cs fd rfm rt_ to_ rw_ wa ct rk rb cn br sm as_ go sh_ ir oa ob th ig sp_ ki tg of_ kp sf rs), (aI g to_ 25 tl), (aI g sm 25 f)]) (va_runS (As := [.int 1, .int 0, .int 4]) (rest := [.ref m0]) ⟨hx, hb, hml, hown, hts⟩ (c_X11_in l g 1 0 4 H.size) (va_cwS 3 hts gX11_told_X11_in rfl rfl rfl (by decide +kernel) ⟨Nat.le_of_ble_eq_true rfl, Nat.le_of_ble_eq_true rfl⟩) (he_preS (wc := []) hK hP hD hS hA hE [] rfl rfl) rfl rfl hl.1 rfl (lv_room (Nat.le_of_ble_eq_true rfl)) dX11_told_9 ⟨(Nat.le_of_ble_eq_true rfl), (Nat.le_of_ble_eq_true rfl)⟩) hP hD hS hA [] [0, 1, 2] rfl rfl rfl (by decide) (fun r_1 u_2 H locs h_3 hP hD hS => ?_)
  subst h_3
  have hP : va_P g.1 vwCl [(oX11 m0 0 ta sz_ pl at_ fa fw cs fd rfm rt_ to_ rw_ wa ct rk rb cn br sm as_ go sh_ ir oa ob th ig sp_ ki tg of_ kp sf rs), (aI g to_ 25 tl), (aI g sm 25 f)] H := hP
  have hD : va_D A [(oX11 m0 0 ta sz_ pl at_ fa fw cs fd rfm rt_ to_ rw_ wa ct rk rb cn br sm as_ go sh_ ir oa ob th ig sp_ ki tg of_ kp sf rs), (aI g to_ 25 tl), (aI g sm 25 f)] := hD
  refine he_top (1) (by decide) ?_
  refine lv_if_ne (tgt := 19) hx hb dX11_told_12 (by decide) (fun c_4 => ?_) (fun c_4 => ?_)
  · refine lv_iconst (v := 0) hx hb dX11_told_19 (by decide) ?_
    refine lv_iconst (v := 1) hx hb dX11_told_20 (by decide) ?_
    refine lv_iconst (v := 2) hx hb dX11_told_21 (by decide) ?_
    refine he_ci (wc := [(oX11 m0 0 ta sz_ pl at_ fa fw cs fd rfm rt_ to_ rw_ wa ct rk rb cn br sm as_ go sh_ ir oa ob th ig sp_ ki tg of_ kp sf rs)]) (wr := [(aI g to_ 25 tl), (aI g sm 25 f)]) (va_runV (As := [.int 0, .int 1, .int 2]) (rest := []) ⟨hx, hb, hml, hown, hts⟩ (c_X11_bad0 l g m0 fd rfm rt_ to_ rw_ wa rk rb cn br sm as_ go sh_ ki tg of_ kp rs ta sz_ pl at_ fa fw cs ct ir oa ob th ig sp_ sf 1 2 H.size) (cwV 3 hts gX11_told_X11_bad rfl rfl rfl (by decide +kernel) ⟨Nat.le_of_ble_eq_true rfl, Nat.le_of_ble_eq_true rfl⟩) (he_preV (wc := [(oX11 m0 0 ta sz_ pl at_ fa fw cs fd rfm rt_ to_ rw_ wa ct rk rb cn br sm as_ go sh_ ir oa ob th ig sp_ ki tg of_ kp sf rs)]) hK hP hD hS hA hE [0] rfl rfl 0 rfl rfl) rfl rfl hl.1 rfl (lv_room (Nat.le_of_ble_eq_true rfl)) dX11_told_22 ⟨(Nat.le_of_ble_eq_true rfl), (Nat.le_of_ble_eq_true rfl)⟩) hP hD hS hA [0] [1, 2] rfl rfl rfl (by decide) (fun r_5 u_6 H locs h_7 hP hD hS => ?_)
    subst h_7
    have hP : va_P g.1 vwCl [(aI g to_ 25 tl), (aI g sm 25 f), (oX11 m0 0 ta sz_ pl at_ fa fw cs fd rfm rt_ to_ rw_ wa ct rk rb cn br sm as_ go sh_ ir oa ob th ig sp_ ki tg of_ kp sf rs)] H := hP
    have hD : va_D A [(aI g to_ 25 tl), (aI g sm 25 f), (oX11 m0 0 ta sz_ pl at_ fa fw cs fd rfm rt_ to_ rw_ wa ct rk rb cn br sm as_ go sh_ ir oa ob th ig sp_ ki tg of_ kp sf rs)] := hD
    refine lv_if_eq (tgt := 30) hx hb dX11_told_25 (by decide) (fun c_8 => ?_) (fun c_8 => ?_)
    · refine lv_iload_n hx hb dX11_told_30 rfl (lv_at hl 1 rfl) ?_
      refine lv_if_ne (tgt := 43) hx hb dX11_told_31 (by decide) (fun c_9 => ?_) (fun c_9 => ?_)
      · refine lv_iload_n hx hb dX11_told_43 rfl (lv_at hl 1 rfl) ?_
        refine lv_iconst (v := 1) hx hb dX11_told_44 (by decide) ?_
        refine lv_icmp_ne (tgt := 55) hx hb dX11_told_45 (by decide) (fun c_10 => ?_) (fun c_10 => ?_)
        · exact absurd (by decide) c_10
        · refine lv_aload_n hx hb dX11_told_48 rfl (lv_at hl 0 rfl) ?_
          refine va_get (v := .int ct) (T := TX11) (N := 35) hx hb hts inX11 hown hK hP 2 rfl rfl 14 (by decide) f162 (fun _ h9 => h9) rfl dX11_told_49 ?_
          refine lv_goto (tgt := 81) hx hb dX11_told_52 (by decide) ?_
          have hP := hP.sub (ws' := [(oX11 m0 0 ta sz_ pl at_ fa fw cs fd rfm rt_ to_ rw_ wa ct rk rb cn br sm as_ go sh_ ir oa ob th ig sp_ ki tg of_ kp sf rs), (aI g to_ 25 tl), (aI g sm 25 f)]) [2, 0, 1] rfl
          have hD := hD.sub (ws' := [(oX11 m0 0 ta sz_ pl at_ fa fw cs fd rfm rt_ to_ rw_ wa ct rk rb cn br sm as_ go sh_ ir oa ob th ig sp_ ki tg of_ kp sf rs), (aI g to_ 25 tl), (aI g sm 25 f)]) [2, 0, 1] (by decide) rfl
          exact he_ri hQ hx hb hr hlk hP hD hS dX11_told_81 (Nat.le_of_ble_eq_true rfl) (Nat.le_of_ble_eq_true rfl) (()) (rfl) (rfl)
      · exact absurd c_9 (by decide)
    · exact absurd (by decide) c_8
  · exact absurd c_4 (by decide)
set_option maxHeartbeats 4000000 in
set_option maxRecDepth 100000 in
theorem r_X11_told2 (l : Launch) (g : he_G) (m0 : Nat) (fd : Nat) (rfm : Nat) (rt_ : Nat) (to_ : Nat) (rw_ : Nat) (wa : Nat) (rk : Nat) (rb : Nat) (cn : Nat) (br : Nat) (sm : Nat) (as_ : Nat) (go : Nat) (sh_ : Nat) (ki : Nat) (tg : Nat) (of_ : Nat) (kp : Nat) (rs : Nat) (ta : Int32) (sz_ : Int32) (pl : Int32) (at_ : Int32) (fa : Int32) (fw : Int32) (cs : Int32) (ct : Int32) (ir : Int32) (oa : Int32) (ob : Int32) (th : Int32) (ig : Int32) (sp_ : Int32) (sf : Int32) (tw : Int32) (tl : Nat → Int32) (f : Nat → Int32)  : he_I l yX11_told wsX11_told 1 23 0 0 g [.ref m0, .int 2] [(oX11 m0 tw ta sz_ pl at_ fa fw cs fd rfm rt_ to_ rw_ wa ct rk rb cn br sm as_ go sh_ ir oa ob th ig sp_ ki tg of_ kp sf rs), (aI g to_ 25 tl), (aI g sm 25 f)] (fun (r : Int32) (u : Unit) => r = f 24) (fun (u : Unit) => [(oX11 m0 0 ta sz_ pl at_ fa fw cs fd rfm rt_ to_ rw_ wa ct rk rb cn br sm as_ go sh_ ir oa ob th ig sp_ ki tg of_ kp sf rs), (aI g to_ 25 tl), (aI g sm 25 f)]) := by
  refine he_begin (l := l) (g := g) (y := yX11_told) (wl := wsX11_told) (fr := 1) (lo := 23) (mc := 0) (ms := 0) (av := [.ref m0, .int 2]) (ws := [(oX11 m0 tw ta sz_ pl at_ fa fw cs fd rfm rt_ to_ rw_ wa ct rk rb cn br sm as_ go sh_ ir oa ob th ig sp_ ki tg of_ kp sf rs), (aI g to_ 25 tl), (aI g sm 25 f)]) (cc := cX11_told) (maxL := 2) (ret := (some .int)) (fun A => va_Qi (fun (r : Int32) (u : Unit) => r = f 24) (fun u t => he_post g A ((fun (u : Unit) => [(oX11 m0 0 ta sz_ pl at_ fa fw cs fd rfm rt_ to_ rw_ wa ct rk rb cn br sm as_ go sh_ ir oa ob th ig sp_ ki tg of_ kp sf rs), (aI g to_ 25 tl), (aI g sm 25 f)]) u) t) A) (by decide) rfl (Nat.le_of_ble_eq_true rfl) ?_
  intro p e s m args below meth c A ls H locs Q hQ hB
  obtain ⟨hx, hb, hr, hml, hown, hts, hlk, hin, hP, hK, hD, hS, hA, hE, hl⟩ := hB
  have hl : lv_has ls 2 [(0, .ref m0), (1, .int 2)] := hl
  have f85 := hts (.fieldLink RX11 85 "HiredEnemyModel" "thrown" "I") (iwoX11_told (k := 0) rfl)
  have inX11 : ∀ w ∈ wsX110, w ∈ wsX11_told := innX11_told_X11
  have f46 := hts (.fieldLink RX11 46 "HiredEnemyModel" "s" "[I") (iwoX11_told (k := 3) rfl)
  refine lv_aload_n hx hb dX11_told_0 rfl (lv_at hl 0 rfl) ?_
  refine lv_iconst (v := 0) hx hb dX11_told_1 (by decide) ?_
  refine va_put (v := .int 0) (ty := .int) (T := TX11) (N := 35) hx hb hts inX11 tyX11 tyX11_ok nmX11 hown hK hP hD hS 0 rfl rfl 0 (by decide) f85 (fun _ h9 => h9) rfl (by decide +kernel) rfl rfl (Nat.le_of_ble_eq_true rfl) dX11_told_2 (fun H locs hP hD hS => ?_)
  have hP : va_P g.1 vwCl [(oX11 m0 0 ta sz_ pl at_ fa fw cs fd rfm rt_ to_ rw_ wa ct rk rb cn br sm as_ go sh_ ir oa ob th ig sp_ ki tg of_ kp sf rs), (aI g to_ 25 tl), (aI g sm 25 f)] H := hP
  have hD : va_D A [(oX11 m0 0 ta sz_ pl at_ fa fw cs fd rfm rt_ to_ rw_ wa ct rk rb cn br sm as_ go sh_ ir oa ob th ig sp_ ki tg of_ kp sf rs), (aI g to_ 25 tl), (aI g sm 25 f)] := hD
  refine lv_aload_n hx hb dX11_told_5 rfl (lv_at hl 0 rfl) ?_
  refine lv_iload_n hx hb dX11_told_6 rfl (lv_at hl 1 rfl) ?_
  refine lv_iconst (v := 0) hx hb dX11_told_7 (by decide) ?_
  refine lv_iconst (v := 4) hx hb dX11_told_8 (by decide) ?_
  refine he_ci (wc := []) (wr := [(oX11 m0 0 ta sz_ pl at_ fa fw cs fd rfm rt_ to_ rw_ wa ct rk rb cn br sm as_ go sh_ ir oa ob th ig sp_ ki tg of_ kp sf rs), (aI g to_ 25 tl), (aI g sm 25 f)]) (va_runS (As := [.int 2, .int 0, .int 4]) (rest := [.ref m0]) ⟨hx, hb, hml, hown, hts⟩ (c_X11_in l g 2 0 4 H.size) (va_cwS 3 hts gX11_told_X11_in rfl rfl rfl (by decide +kernel) ⟨Nat.le_of_ble_eq_true rfl, Nat.le_of_ble_eq_true rfl⟩) (he_preS (wc := []) hK hP hD hS hA hE [] rfl rfl) rfl rfl hl.1 rfl (lv_room (Nat.le_of_ble_eq_true rfl)) dX11_told_9 ⟨(Nat.le_of_ble_eq_true rfl), (Nat.le_of_ble_eq_true rfl)⟩) hP hD hS hA [] [0, 1, 2] rfl rfl rfl (by decide) (fun r_1 u_2 H locs h_3 hP hD hS => ?_)
  subst h_3
  have hP : va_P g.1 vwCl [(oX11 m0 0 ta sz_ pl at_ fa fw cs fd rfm rt_ to_ rw_ wa ct rk rb cn br sm as_ go sh_ ir oa ob th ig sp_ ki tg of_ kp sf rs), (aI g to_ 25 tl), (aI g sm 25 f)] H := hP
  have hD : va_D A [(oX11 m0 0 ta sz_ pl at_ fa fw cs fd rfm rt_ to_ rw_ wa ct rk rb cn br sm as_ go sh_ ir oa ob th ig sp_ ki tg of_ kp sf rs), (aI g to_ 25 tl), (aI g sm 25 f)] := hD
  refine he_top (1) (by decide) ?_
  refine lv_if_ne (tgt := 19) hx hb dX11_told_12 (by decide) (fun c_4 => ?_) (fun c_4 => ?_)
  · refine lv_iconst (v := 0) hx hb dX11_told_19 (by decide) ?_
    refine lv_iconst (v := 1) hx hb dX11_told_20 (by decide) ?_
    refine lv_iconst (v := 2) hx hb dX11_told_21 (by decide) ?_
    refine he_ci (wc := [(oX11 m0 0 ta sz_ pl at_ fa fw cs fd rfm rt_ to_ rw_ wa ct rk rb cn br sm as_ go sh_ ir oa ob th ig sp_ ki tg of_ kp sf rs)]) (wr := [(aI g to_ 25 tl), (aI g sm 25 f)]) (va_runV (As := [.int 0, .int 1, .int 2]) (rest := []) ⟨hx, hb, hml, hown, hts⟩ (c_X11_bad0 l g m0 fd rfm rt_ to_ rw_ wa rk rb cn br sm as_ go sh_ ki tg of_ kp rs ta sz_ pl at_ fa fw cs ct ir oa ob th ig sp_ sf 1 2 H.size) (cwV 3 hts gX11_told_X11_bad rfl rfl rfl (by decide +kernel) ⟨Nat.le_of_ble_eq_true rfl, Nat.le_of_ble_eq_true rfl⟩) (he_preV (wc := [(oX11 m0 0 ta sz_ pl at_ fa fw cs fd rfm rt_ to_ rw_ wa ct rk rb cn br sm as_ go sh_ ir oa ob th ig sp_ ki tg of_ kp sf rs)]) hK hP hD hS hA hE [0] rfl rfl 0 rfl rfl) rfl rfl hl.1 rfl (lv_room (Nat.le_of_ble_eq_true rfl)) dX11_told_22 ⟨(Nat.le_of_ble_eq_true rfl), (Nat.le_of_ble_eq_true rfl)⟩) hP hD hS hA [0] [1, 2] rfl rfl rfl (by decide) (fun r_5 u_6 H locs h_7 hP hD hS => ?_)
    subst h_7
    have hP : va_P g.1 vwCl [(aI g to_ 25 tl), (aI g sm 25 f), (oX11 m0 0 ta sz_ pl at_ fa fw cs fd rfm rt_ to_ rw_ wa ct rk rb cn br sm as_ go sh_ ir oa ob th ig sp_ ki tg of_ kp sf rs)] H := hP
    have hD : va_D A [(aI g to_ 25 tl), (aI g sm 25 f), (oX11 m0 0 ta sz_ pl at_ fa fw cs fd rfm rt_ to_ rw_ wa ct rk rb cn br sm as_ go sh_ ir oa ob th ig sp_ ki tg of_ kp sf rs)] := hD
    refine lv_if_eq (tgt := 30) hx hb dX11_told_25 (by decide) (fun c_8 => ?_) (fun c_8 => ?_)
    · refine lv_iload_n hx hb dX11_told_30 rfl (lv_at hl 1 rfl) ?_
      refine lv_if_ne (tgt := 43) hx hb dX11_told_31 (by decide) (fun c_9 => ?_) (fun c_9 => ?_)
      · refine lv_iload_n hx hb dX11_told_43 rfl (lv_at hl 1 rfl) ?_
        refine lv_iconst (v := 1) hx hb dX11_told_44 (by decide) ?_
        refine lv_icmp_ne (tgt := 55) hx hb dX11_told_45 (by decide) (fun c_10 => ?_) (fun c_10 => ?_)
        · refine lv_iload_n hx hb dX11_told_55 rfl (lv_at hl 1 rfl) ?_
          refine lv_iconst (v := 2) hx hb dX11_told_56 (by decide) ?_
          refine lv_icmp_ne (tgt := 70) hx hb dX11_told_57 (by decide) (fun c_11 => ?_) (fun c_11 => ?_)
          · exact absurd (by decide) c_11
          · refine lv_aload_n hx hb dX11_told_60 rfl (lv_at hl 0 rfl) ?_
            refine va_get (v := .ref sm) (T := TX11) (N := 35) hx hb hts inX11 hown hK hP 2 rfl rfl 19 (by decide) f46 (fun _ h9 => h9) rfl dX11_told_61 ?_
            refine lv_bipush (v := 24) hx hb dX11_told_64 (by decide) ?_
            refine he_iald hx hb hK hP 1 rfl (24) (by decide) (by decide) (by first | decide | assumption) (f 24) rfl dX11_told_66 ?_
            refine lv_goto (tgt := 81) hx hb dX11_told_67 (by decide) ?_
            have hP := hP.sub (ws' := [(oX11 m0 0 ta sz_ pl at_ fa fw cs fd rfm rt_ to_ rw_ wa ct rk rb cn br sm as_ go sh_ ir oa ob th ig sp_ ki tg of_ kp sf rs), (aI g to_ 25 tl), (aI g sm 25 f)]) [2, 0, 1] rfl
            have hD := hD.sub (ws' := [(oX11 m0 0 ta sz_ pl at_ fa fw cs fd rfm rt_ to_ rw_ wa ct rk rb cn br sm as_ go sh_ ir oa ob th ig sp_ ki tg of_ kp sf rs), (aI g to_ 25 tl), (aI g sm 25 f)]) [2, 0, 1] (by decide) rfl
            exact he_ri hQ hx hb hr hlk hP hD hS dX11_told_81 (Nat.le_of_ble_eq_true rfl) (Nat.le_of_ble_eq_true rfl) (()) (rfl) (rfl)
        · exact absurd c_10 (by decide)
      · exact absurd c_9 (by decide)
    · exact absurd (by decide) c_8
  · exact absurd c_4 (by decide)
set_option maxHeartbeats 4000000 in
set_option maxRecDepth 100000 in
theorem r_X11_told3 (l : Launch) (g : he_G) (m0 : Nat) (fd : Nat) (rfm : Nat) (rt_ : Nat) (to_ : Nat) (rw_ : Nat) (wa : Nat) (rk : Nat) (rb : Nat) (cn : Nat) (br : Nat) (sm : Nat) (as_ : Nat) (go : Nat) (sh_ : Nat) (ki : Nat) (tg : Nat) (of_ : Nat) (kp : Nat) (rs : Nat) (ta : Int32) (sz_ : Int32) (pl : Int32) (at_ : Int32) (fa : Int32) (fw : Int32) (cs : Int32) (ct : Int32) (ir : Int32) (oa : Int32) (ob : Int32) (th : Int32) (ig : Int32) (sp_ : Int32) (sf : Int32) (tw : Int32) (tl : Nat → Int32) (f : Nat → Int32)  : he_I l yX11_told wsX11_told 1 23 0 0 g [.ref m0, .int 3] [(oX11 m0 tw ta sz_ pl at_ fa fw cs fd rfm rt_ to_ rw_ wa ct rk rb cn br sm as_ go sh_ ir oa ob th ig sp_ ki tg of_ kp sf rs), (aI g to_ 25 tl), (aI g sm 25 f)] (fun (r : Int32) (u : Unit) => r = f 10) (fun (u : Unit) => [(oX11 m0 0 ta sz_ pl at_ fa fw cs fd rfm rt_ to_ rw_ wa ct rk rb cn br sm as_ go sh_ ir oa ob th ig sp_ ki tg of_ kp sf rs), (aI g to_ 25 tl), (aI g sm 25 f)]) := by
  refine he_begin (l := l) (g := g) (y := yX11_told) (wl := wsX11_told) (fr := 1) (lo := 23) (mc := 0) (ms := 0) (av := [.ref m0, .int 3]) (ws := [(oX11 m0 tw ta sz_ pl at_ fa fw cs fd rfm rt_ to_ rw_ wa ct rk rb cn br sm as_ go sh_ ir oa ob th ig sp_ ki tg of_ kp sf rs), (aI g to_ 25 tl), (aI g sm 25 f)]) (cc := cX11_told) (maxL := 2) (ret := (some .int)) (fun A => va_Qi (fun (r : Int32) (u : Unit) => r = f 10) (fun u t => he_post g A ((fun (u : Unit) => [(oX11 m0 0 ta sz_ pl at_ fa fw cs fd rfm rt_ to_ rw_ wa ct rk rb cn br sm as_ go sh_ ir oa ob th ig sp_ ki tg of_ kp sf rs), (aI g to_ 25 tl), (aI g sm 25 f)]) u) t) A) (by decide) rfl (Nat.le_of_ble_eq_true rfl) ?_
  intro p e s m args below meth c A ls H locs Q hQ hB
  obtain ⟨hx, hb, hr, hml, hown, hts, hlk, hin, hP, hK, hD, hS, hA, hE, hl⟩ := hB
  have hl : lv_has ls 2 [(0, .ref m0), (1, .int 3)] := hl
  have f85 := hts (.fieldLink RX11 85 "HiredEnemyModel" "thrown" "I") (iwoX11_told (k := 0) rfl)
  have inX11 : ∀ w ∈ wsX110, w ∈ wsX11_told := innX11_told_X11
  have f46 := hts (.fieldLink RX11 46 "HiredEnemyModel" "s" "[I") (iwoX11_told (k := 3) rfl)
  refine lv_aload_n hx hb dX11_told_0 rfl (lv_at hl 0 rfl) ?_
  refine lv_iconst (v := 0) hx hb dX11_told_1 (by decide) ?_
  refine va_put (v := .int 0) (ty := .int) (T := TX11) (N := 35) hx hb hts inX11 tyX11 tyX11_ok nmX11 hown hK hP hD hS 0 rfl rfl 0 (by decide) f85 (fun _ h9 => h9) rfl (by decide +kernel) rfl rfl (Nat.le_of_ble_eq_true rfl) dX11_told_2 (fun H locs hP hD hS => ?_)
  have hP : va_P g.1 vwCl [(oX11 m0 0 ta sz_ pl at_ fa fw cs fd rfm rt_ to_ rw_ wa ct rk rb cn br sm as_ go sh_ ir oa ob th ig sp_ ki tg of_ kp sf rs), (aI g to_ 25 tl), (aI g sm 25 f)] H := hP
  have hD : va_D A [(oX11 m0 0 ta sz_ pl at_ fa fw cs fd rfm rt_ to_ rw_ wa ct rk rb cn br sm as_ go sh_ ir oa ob th ig sp_ ki tg of_ kp sf rs), (aI g to_ 25 tl), (aI g sm 25 f)] := hD
  refine lv_aload_n hx hb dX11_told_5 rfl (lv_at hl 0 rfl) ?_
  refine lv_iload_n hx hb dX11_told_6 rfl (lv_at hl 1 rfl) ?_
  refine lv_iconst (v := 0) hx hb dX11_told_7 (by decide) ?_
  refine lv_iconst (v := 4) hx hb dX11_told_8 (by decide) ?_
  refine he_ci (wc := []) (wr := [(oX11 m0 0 ta sz_ pl at_ fa fw cs fd rfm rt_ to_ rw_ wa ct rk rb cn br sm as_ go sh_ ir oa ob th ig sp_ ki tg of_ kp sf rs), (aI g to_ 25 tl), (aI g sm 25 f)]) (va_runS (As := [.int 3, .int 0, .int 4]) (rest := [.ref m0]) ⟨hx, hb, hml, hown, hts⟩ (c_X11_in l g 3 0 4 H.size) (va_cwS 3 hts gX11_told_X11_in rfl rfl rfl (by decide +kernel) ⟨Nat.le_of_ble_eq_true rfl, Nat.le_of_ble_eq_true rfl⟩) (he_preS (wc := []) hK hP hD hS hA hE [] rfl rfl) rfl rfl hl.1 rfl (lv_room (Nat.le_of_ble_eq_true rfl)) dX11_told_9 ⟨(Nat.le_of_ble_eq_true rfl), (Nat.le_of_ble_eq_true rfl)⟩) hP hD hS hA [] [0, 1, 2] rfl rfl rfl (by decide) (fun r_1 u_2 H locs h_3 hP hD hS => ?_)
  subst h_3
  have hP : va_P g.1 vwCl [(oX11 m0 0 ta sz_ pl at_ fa fw cs fd rfm rt_ to_ rw_ wa ct rk rb cn br sm as_ go sh_ ir oa ob th ig sp_ ki tg of_ kp sf rs), (aI g to_ 25 tl), (aI g sm 25 f)] H := hP
  have hD : va_D A [(oX11 m0 0 ta sz_ pl at_ fa fw cs fd rfm rt_ to_ rw_ wa ct rk rb cn br sm as_ go sh_ ir oa ob th ig sp_ ki tg of_ kp sf rs), (aI g to_ 25 tl), (aI g sm 25 f)] := hD
  refine he_top (1) (by decide) ?_
  refine lv_if_ne (tgt := 19) hx hb dX11_told_12 (by decide) (fun c_4 => ?_) (fun c_4 => ?_)
  · refine lv_iconst (v := 0) hx hb dX11_told_19 (by decide) ?_
    refine lv_iconst (v := 1) hx hb dX11_told_20 (by decide) ?_
    refine lv_iconst (v := 2) hx hb dX11_told_21 (by decide) ?_
    refine he_ci (wc := [(oX11 m0 0 ta sz_ pl at_ fa fw cs fd rfm rt_ to_ rw_ wa ct rk rb cn br sm as_ go sh_ ir oa ob th ig sp_ ki tg of_ kp sf rs)]) (wr := [(aI g to_ 25 tl), (aI g sm 25 f)]) (va_runV (As := [.int 0, .int 1, .int 2]) (rest := []) ⟨hx, hb, hml, hown, hts⟩ (c_X11_bad0 l g m0 fd rfm rt_ to_ rw_ wa rk rb cn br sm as_ go sh_ ki tg of_ kp rs ta sz_ pl at_ fa fw cs ct ir oa ob th ig sp_ sf 1 2 H.size) (cwV 3 hts gX11_told_X11_bad rfl rfl rfl (by decide +kernel) ⟨Nat.le_of_ble_eq_true rfl, Nat.le_of_ble_eq_true rfl⟩) (he_preV (wc := [(oX11 m0 0 ta sz_ pl at_ fa fw cs fd rfm rt_ to_ rw_ wa ct rk rb cn br sm as_ go sh_ ir oa ob th ig sp_ ki tg of_ kp sf rs)]) hK hP hD hS hA hE [0] rfl rfl 0 rfl rfl) rfl rfl hl.1 rfl (lv_room (Nat.le_of_ble_eq_true rfl)) dX11_told_22 ⟨(Nat.le_of_ble_eq_true rfl), (Nat.le_of_ble_eq_true rfl)⟩) hP hD hS hA [0] [1, 2] rfl rfl rfl (by decide) (fun r_5 u_6 H locs h_7 hP hD hS => ?_)
    subst h_7
    have hP : va_P g.1 vwCl [(aI g to_ 25 tl), (aI g sm 25 f), (oX11 m0 0 ta sz_ pl at_ fa fw cs fd rfm rt_ to_ rw_ wa ct rk rb cn br sm as_ go sh_ ir oa ob th ig sp_ ki tg of_ kp sf rs)] H := hP
    have hD : va_D A [(aI g to_ 25 tl), (aI g sm 25 f), (oX11 m0 0 ta sz_ pl at_ fa fw cs fd rfm rt_ to_ rw_ wa ct rk rb cn br sm as_ go sh_ ir oa ob th ig sp_ ki tg of_ kp sf rs)] := hD
    refine lv_if_eq (tgt := 30) hx hb dX11_told_25 (by decide) (fun c_8 => ?_) (fun c_8 => ?_)
    · refine lv_iload_n hx hb dX11_told_30 rfl (lv_at hl 1 rfl) ?_
      refine lv_if_ne (tgt := 43) hx hb dX11_told_31 (by decide) (fun c_9 => ?_) (fun c_9 => ?_)
      · refine lv_iload_n hx hb dX11_told_43 rfl (lv_at hl 1 rfl) ?_
        refine lv_iconst (v := 1) hx hb dX11_told_44 (by decide) ?_
        refine lv_icmp_ne (tgt := 55) hx hb dX11_told_45 (by decide) (fun c_10 => ?_) (fun c_10 => ?_)
        · refine lv_iload_n hx hb dX11_told_55 rfl (lv_at hl 1 rfl) ?_
          refine lv_iconst (v := 2) hx hb dX11_told_56 (by decide) ?_
          refine lv_icmp_ne (tgt := 70) hx hb dX11_told_57 (by decide) (fun c_11 => ?_) (fun c_11 => ?_)
          · refine lv_aload_n hx hb dX11_told_70 rfl (lv_at hl 0 rfl) ?_
            refine va_get (v := .ref sm) (T := TX11) (N := 35) hx hb hts inX11 hown hK hP 2 rfl rfl 19 (by decide) f46 (fun _ h9 => h9) rfl dX11_told_71 ?_
            refine lv_bipush (v := 10) hx hb dX11_told_74 (by decide) ?_
            refine lv_iload_n hx hb dX11_told_76 rfl (lv_at hl 1 rfl) ?_
            refine lv_iadd hx hb dX11_told_77 ?_
            refine he_top (13) (by decide) ?_
            refine lv_iconst (v := 3) hx hb dX11_told_78 (by decide) ?_
            refine lv_isub hx hb dX11_told_79 ?_
            refine he_top (10) (by decide) ?_
            refine he_iald hx hb hK hP 1 rfl (10) (by decide) (by decide) (by first | decide | assumption) (f 10) rfl dX11_told_80 ?_
            have hP := hP.sub (ws' := [(oX11 m0 0 ta sz_ pl at_ fa fw cs fd rfm rt_ to_ rw_ wa ct rk rb cn br sm as_ go sh_ ir oa ob th ig sp_ ki tg of_ kp sf rs), (aI g to_ 25 tl), (aI g sm 25 f)]) [2, 0, 1] rfl
            have hD := hD.sub (ws' := [(oX11 m0 0 ta sz_ pl at_ fa fw cs fd rfm rt_ to_ rw_ wa ct rk rb cn br sm as_ go sh_ ir oa ob th ig sp_ ki tg of_ kp sf rs), (aI g to_ 25 tl), (aI g sm 25 f)]) [2, 0, 1] (by decide) rfl
            exact he_ri hQ hx hb hr hlk hP hD hS dX11_told_81 (Nat.le_of_ble_eq_true rfl) (Nat.le_of_ble_eq_true rfl) (()) (rfl) (rfl)
          · exact absurd c_11 (by decide)
        · exact absurd c_10 (by decide)
      · exact absurd c_9 (by decide)
    · exact absurd (by decide) c_8
  · exact absurd c_4 (by decide)
set_option maxHeartbeats 4000000 in
set_option maxRecDepth 100000 in
theorem r_X11_told4 (l : Launch) (g : he_G) (m0 : Nat) (fd : Nat) (rfm : Nat) (rt_ : Nat) (to_ : Nat) (rw_ : Nat) (wa : Nat) (rk : Nat) (rb : Nat) (cn : Nat) (br : Nat) (sm : Nat) (as_ : Nat) (go : Nat) (sh_ : Nat) (ki : Nat) (tg : Nat) (of_ : Nat) (kp : Nat) (rs : Nat) (ta : Int32) (sz_ : Int32) (pl : Int32) (at_ : Int32) (fa : Int32) (fw : Int32) (cs : Int32) (ct : Int32) (ir : Int32) (oa : Int32) (ob : Int32) (th : Int32) (ig : Int32) (sp_ : Int32) (sf : Int32) (tw : Int32) (tl : Nat → Int32) (f : Nat → Int32)  : he_I l yX11_told wsX11_told 1 23 0 0 g [.ref m0, .int 4] [(oX11 m0 tw ta sz_ pl at_ fa fw cs fd rfm rt_ to_ rw_ wa ct rk rb cn br sm as_ go sh_ ir oa ob th ig sp_ ki tg of_ kp sf rs), (aI g to_ 25 tl), (aI g sm 25 f)] (fun (r : Int32) (u : Unit) => r = f 11) (fun (u : Unit) => [(oX11 m0 0 ta sz_ pl at_ fa fw cs fd rfm rt_ to_ rw_ wa ct rk rb cn br sm as_ go sh_ ir oa ob th ig sp_ ki tg of_ kp sf rs), (aI g to_ 25 tl), (aI g sm 25 f)]) := by
  refine he_begin (l := l) (g := g) (y := yX11_told) (wl := wsX11_told) (fr := 1) (lo := 23) (mc := 0) (ms := 0) (av := [.ref m0, .int 4]) (ws := [(oX11 m0 tw ta sz_ pl at_ fa fw cs fd rfm rt_ to_ rw_ wa ct rk rb cn br sm as_ go sh_ ir oa ob th ig sp_ ki tg of_ kp sf rs), (aI g to_ 25 tl), (aI g sm 25 f)]) (cc := cX11_told) (maxL := 2) (ret := (some .int)) (fun A => va_Qi (fun (r : Int32) (u : Unit) => r = f 11) (fun u t => he_post g A ((fun (u : Unit) => [(oX11 m0 0 ta sz_ pl at_ fa fw cs fd rfm rt_ to_ rw_ wa ct rk rb cn br sm as_ go sh_ ir oa ob th ig sp_ ki tg of_ kp sf rs), (aI g to_ 25 tl), (aI g sm 25 f)]) u) t) A) (by decide) rfl (Nat.le_of_ble_eq_true rfl) ?_
  intro p e s m args below meth c A ls H locs Q hQ hB
  obtain ⟨hx, hb, hr, hml, hown, hts, hlk, hin, hP, hK, hD, hS, hA, hE, hl⟩ := hB
  have hl : lv_has ls 2 [(0, .ref m0), (1, .int 4)] := hl
  have f85 := hts (.fieldLink RX11 85 "HiredEnemyModel" "thrown" "I") (iwoX11_told (k := 0) rfl)
  have inX11 : ∀ w ∈ wsX110, w ∈ wsX11_told := innX11_told_X11
  have f46 := hts (.fieldLink RX11 46 "HiredEnemyModel" "s" "[I") (iwoX11_told (k := 3) rfl)
  refine lv_aload_n hx hb dX11_told_0 rfl (lv_at hl 0 rfl) ?_
  refine lv_iconst (v := 0) hx hb dX11_told_1 (by decide) ?_
  refine va_put (v := .int 0) (ty := .int) (T := TX11) (N := 35) hx hb hts inX11 tyX11 tyX11_ok nmX11 hown hK hP hD hS 0 rfl rfl 0 (by decide) f85 (fun _ h9 => h9) rfl (by decide +kernel) rfl rfl (Nat.le_of_ble_eq_true rfl) dX11_told_2 (fun H locs hP hD hS => ?_)
  have hP : va_P g.1 vwCl [(oX11 m0 0 ta sz_ pl at_ fa fw cs fd rfm rt_ to_ rw_ wa ct rk rb cn br sm as_ go sh_ ir oa ob th ig sp_ ki tg of_ kp sf rs), (aI g to_ 25 tl), (aI g sm 25 f)] H := hP
  have hD : va_D A [(oX11 m0 0 ta sz_ pl at_ fa fw cs fd rfm rt_ to_ rw_ wa ct rk rb cn br sm as_ go sh_ ir oa ob th ig sp_ ki tg of_ kp sf rs), (aI g to_ 25 tl), (aI g sm 25 f)] := hD
  refine lv_aload_n hx hb dX11_told_5 rfl (lv_at hl 0 rfl) ?_
  refine lv_iload_n hx hb dX11_told_6 rfl (lv_at hl 1 rfl) ?_
  refine lv_iconst (v := 0) hx hb dX11_told_7 (by decide) ?_
  refine lv_iconst (v := 4) hx hb dX11_told_8 (by decide) ?_
  refine he_ci (wc := []) (wr := [(oX11 m0 0 ta sz_ pl at_ fa fw cs fd rfm rt_ to_ rw_ wa ct rk rb cn br sm as_ go sh_ ir oa ob th ig sp_ ki tg of_ kp sf rs), (aI g to_ 25 tl), (aI g sm 25 f)]) (va_runS (As := [.int 4, .int 0, .int 4]) (rest := [.ref m0]) ⟨hx, hb, hml, hown, hts⟩ (c_X11_in l g 4 0 4 H.size) (va_cwS 3 hts gX11_told_X11_in rfl rfl rfl (by decide +kernel) ⟨Nat.le_of_ble_eq_true rfl, Nat.le_of_ble_eq_true rfl⟩) (he_preS (wc := []) hK hP hD hS hA hE [] rfl rfl) rfl rfl hl.1 rfl (lv_room (Nat.le_of_ble_eq_true rfl)) dX11_told_9 ⟨(Nat.le_of_ble_eq_true rfl), (Nat.le_of_ble_eq_true rfl)⟩) hP hD hS hA [] [0, 1, 2] rfl rfl rfl (by decide) (fun r_1 u_2 H locs h_3 hP hD hS => ?_)
  subst h_3
  have hP : va_P g.1 vwCl [(oX11 m0 0 ta sz_ pl at_ fa fw cs fd rfm rt_ to_ rw_ wa ct rk rb cn br sm as_ go sh_ ir oa ob th ig sp_ ki tg of_ kp sf rs), (aI g to_ 25 tl), (aI g sm 25 f)] H := hP
  have hD : va_D A [(oX11 m0 0 ta sz_ pl at_ fa fw cs fd rfm rt_ to_ rw_ wa ct rk rb cn br sm as_ go sh_ ir oa ob th ig sp_ ki tg of_ kp sf rs), (aI g to_ 25 tl), (aI g sm 25 f)] := hD
  refine he_top (1) (by decide) ?_
  refine lv_if_ne (tgt := 19) hx hb dX11_told_12 (by decide) (fun c_4 => ?_) (fun c_4 => ?_)
  · refine lv_iconst (v := 0) hx hb dX11_told_19 (by decide) ?_
    refine lv_iconst (v := 1) hx hb dX11_told_20 (by decide) ?_
    refine lv_iconst (v := 2) hx hb dX11_told_21 (by decide) ?_
    refine he_ci (wc := [(oX11 m0 0 ta sz_ pl at_ fa fw cs fd rfm rt_ to_ rw_ wa ct rk rb cn br sm as_ go sh_ ir oa ob th ig sp_ ki tg of_ kp sf rs)]) (wr := [(aI g to_ 25 tl), (aI g sm 25 f)]) (va_runV (As := [.int 0, .int 1, .int 2]) (rest := []) ⟨hx, hb, hml, hown, hts⟩ (c_X11_bad0 l g m0 fd rfm rt_ to_ rw_ wa rk rb cn br sm as_ go sh_ ki tg of_ kp rs ta sz_ pl at_ fa fw cs ct ir oa ob th ig sp_ sf 1 2 H.size) (cwV 3 hts gX11_told_X11_bad rfl rfl rfl (by decide +kernel) ⟨Nat.le_of_ble_eq_true rfl, Nat.le_of_ble_eq_true rfl⟩) (he_preV (wc := [(oX11 m0 0 ta sz_ pl at_ fa fw cs fd rfm rt_ to_ rw_ wa ct rk rb cn br sm as_ go sh_ ir oa ob th ig sp_ ki tg of_ kp sf rs)]) hK hP hD hS hA hE [0] rfl rfl 0 rfl rfl) rfl rfl hl.1 rfl (lv_room (Nat.le_of_ble_eq_true rfl)) dX11_told_22 ⟨(Nat.le_of_ble_eq_true rfl), (Nat.le_of_ble_eq_true rfl)⟩) hP hD hS hA [0] [1, 2] rfl rfl rfl (by decide) (fun r_5 u_6 H locs h_7 hP hD hS => ?_)
    subst h_7
    have hP : va_P g.1 vwCl [(aI g to_ 25 tl), (aI g sm 25 f), (oX11 m0 0 ta sz_ pl at_ fa fw cs fd rfm rt_ to_ rw_ wa ct rk rb cn br sm as_ go sh_ ir oa ob th ig sp_ ki tg of_ kp sf rs)] H := hP
    have hD : va_D A [(aI g to_ 25 tl), (aI g sm 25 f), (oX11 m0 0 ta sz_ pl at_ fa fw cs fd rfm rt_ to_ rw_ wa ct rk rb cn br sm as_ go sh_ ir oa ob th ig sp_ ki tg of_ kp sf rs)] := hD
    refine lv_if_eq (tgt := 30) hx hb dX11_told_25 (by decide) (fun c_8 => ?_) (fun c_8 => ?_)
    · refine lv_iload_n hx hb dX11_told_30 rfl (lv_at hl 1 rfl) ?_
      refine lv_if_ne (tgt := 43) hx hb dX11_told_31 (by decide) (fun c_9 => ?_) (fun c_9 => ?_)
      · refine lv_iload_n hx hb dX11_told_43 rfl (lv_at hl 1 rfl) ?_
        refine lv_iconst (v := 1) hx hb dX11_told_44 (by decide) ?_
        refine lv_icmp_ne (tgt := 55) hx hb dX11_told_45 (by decide) (fun c_10 => ?_) (fun c_10 => ?_)
        · refine lv_iload_n hx hb dX11_told_55 rfl (lv_at hl 1 rfl) ?_
          refine lv_iconst (v := 2) hx hb dX11_told_56 (by decide) ?_
          refine lv_icmp_ne (tgt := 70) hx hb dX11_told_57 (by decide) (fun c_11 => ?_) (fun c_11 => ?_)
          · refine lv_aload_n hx hb dX11_told_70 rfl (lv_at hl 0 rfl) ?_
            refine va_get (v := .ref sm) (T := TX11) (N := 35) hx hb hts inX11 hown hK hP 2 rfl rfl 19 (by decide) f46 (fun _ h9 => h9) rfl dX11_told_71 ?_
            refine lv_bipush (v := 10) hx hb dX11_told_74 (by decide) ?_
            refine lv_iload_n hx hb dX11_told_76 rfl (lv_at hl 1 rfl) ?_
            refine lv_iadd hx hb dX11_told_77 ?_
            refine he_top (14) (by decide) ?_
            refine lv_iconst (v := 3) hx hb dX11_told_78 (by decide) ?_
            refine lv_isub hx hb dX11_told_79 ?_
            refine he_top (11) (by decide) ?_
            refine he_iald hx hb hK hP 1 rfl (11) (by decide) (by decide) (by first | decide | assumption) (f 11) rfl dX11_told_80 ?_
            have hP := hP.sub (ws' := [(oX11 m0 0 ta sz_ pl at_ fa fw cs fd rfm rt_ to_ rw_ wa ct rk rb cn br sm as_ go sh_ ir oa ob th ig sp_ ki tg of_ kp sf rs), (aI g to_ 25 tl), (aI g sm 25 f)]) [2, 0, 1] rfl
            have hD := hD.sub (ws' := [(oX11 m0 0 ta sz_ pl at_ fa fw cs fd rfm rt_ to_ rw_ wa ct rk rb cn br sm as_ go sh_ ir oa ob th ig sp_ ki tg of_ kp sf rs), (aI g to_ 25 tl), (aI g sm 25 f)]) [2, 0, 1] (by decide) rfl
            exact he_ri hQ hx hb hr hlk hP hD hS dX11_told_81 (Nat.le_of_ble_eq_true rfl) (Nat.le_of_ble_eq_true rfl) (()) (rfl) (rfl)
          · exact absurd c_11 (by decide)
        · exact absurd c_10 (by decide)
      · exact absurd c_9 (by decide)
    · exact absurd (by decide) c_8
  · exact absurd c_4 (by decide)
set_option maxHeartbeats 4000000 in
set_option maxRecDepth 100000 in
theorem r_X11_wall0 (l : Launch) (g : he_G) (m0 : Nat) (fd : Nat) (rfm : Nat) (rt_ : Nat) (to_ : Nat) (rw_ : Nat) (wa : Nat) (rk : Nat) (rb : Nat) (cn : Nat) (br : Nat) (sm : Nat) (as_ : Nat) (go : Nat) (sh_ : Nat) (ki : Nat) (tg : Nat) (of_ : Nat) (kp : Nat) (rs : Nat) (ta : Int32) (sz_ : Int32) (pl : Int32) (at_ : Int32) (fa : Int32) (fw : Int32) (cs : Int32) (ct : Int32) (ir : Int32) (oa : Int32) (ob : Int32) (th : Int32) (ig : Int32) (sp_ : Int32) (sf : Int32) (tw : Int32) (tl : Nat → Int32) (f : Nat → Int32) (w : Nat) (j : Nat) (L : List Nat) (ln : Nat → Nat) (M : Nat → Nat → Int32) (r2 : Nat → Nat) (htl : tl 0 = nI w) (hw6 : w ≤ 6) (hj : j < w) (F_r2 : ∀ i, i < 6 → r2 i ∈ L ∧ ln (r2 i) = 2 ∧ True) : he_I l yX11_wall wsX11_wall 2 43 0 0 g [.ref m0, .int (nI j), .int 0] ([(oX11 m0 tw ta sz_ pl at_ fa fw cs fd rfm rt_ to_ rw_ wa ct rk rb cn br sm as_ go sh_ ir oa ob th ig sp_ ki tg of_ kp sf rs), (aI g to_ 25 tl), (aI g sm 25 f), (aM g wa 6 (he_ro 6 r2))] ++ he_pl g L ln M) (fun (r : Int32) (u : Unit) => r = M (r2 j) 0) (fun (u : Unit) => [(oX11 m0 0 ta sz_ pl at_ fa fw cs fd rfm rt_ to_ rw_ wa ct rk rb cn br sm as_ go sh_ ir oa ob th ig sp_ ki tg of_ kp sf rs), (aI g to_ 25 tl), (aI g sm 25 f), (aM g wa 6 (he_ro 6 r2))] ++ he_pl g L ln M) := by
  refine he_begin (l := l) (g := g) (y := yX11_wall) (wl := wsX11_wall) (fr := 2) (lo := 43) (mc := 0) (ms := 0) (av := [.ref m0, .int (nI j), .int 0]) (ws := ([(oX11 m0 tw ta sz_ pl at_ fa fw cs fd rfm rt_ to_ rw_ wa ct rk rb cn br sm as_ go sh_ ir oa ob th ig sp_ ki tg of_ kp sf rs), (aI g to_ 25 tl), (aI g sm 25 f), (aM g wa 6 (he_ro 6 r2))] ++ he_pl g L ln M)) (cc := cX11_wall) (maxL := 3) (ret := (some .int)) (fun A => va_Qi (fun (r : Int32) (u : Unit) => r = M (r2 j) 0) (fun u t => he_post g A ((fun (u : Unit) => [(oX11 m0 0 ta sz_ pl at_ fa fw cs fd rfm rt_ to_ rw_ wa ct rk rb cn br sm as_ go sh_ ir oa ob th ig sp_ ki tg of_ kp sf rs), (aI g to_ 25 tl), (aI g sm 25 f), (aM g wa 6 (he_ro 6 r2))] ++ he_pl g L ln M) u) t) A) (by decide) rfl (Nat.le_of_ble_eq_true rfl) ?_
  intro p e s m args below meth c A ls H locs Q hQ hB
  obtain ⟨hx, hb, hr, hml, hown, hts, hlk, hin, hP, hK, hD, hS, hA, hE, hl⟩ := hB
  have hl : lv_has ls 3 [(0, .ref m0), (1, .int (nI j)), (2, .int 0)] := hl
  have f85 := hts (.fieldLink RX11 85 "HiredEnemyModel" "thrown" "I") (iwoX11_wall (k := 0) rfl)
  have inX11 : ∀ w ∈ wsX110, w ∈ wsX11_wall := innX11_wall_X11
  have f31 := hts (.fieldLink RX11 31 "HiredEnemyModel" "wall" "[[I") (iwoX11_wall (k := 1) rfl)
  refine lv_aload_n hx hb dX11_wall_0 rfl (lv_at hl 0 rfl) ?_
  refine lv_iconst (v := 0) hx hb dX11_wall_1 (by decide) ?_
  refine va_put (v := .int 0) (ty := .int) (T := TX11) (N := 35) hx hb hts inX11 tyX11 tyX11_ok nmX11 hown hK hP hD hS 0 rfl rfl 0 (by decide) f85 (fun _ h9 => h9) rfl (by decide +kernel) rfl rfl (Nat.le_of_ble_eq_true rfl) dX11_wall_2 (fun H locs hP hD hS => ?_)
  have hP : va_P g.1 vwCl ([(oX11 m0 0 ta sz_ pl at_ fa fw cs fd rfm rt_ to_ rw_ wa ct rk rb cn br sm as_ go sh_ ir oa ob th ig sp_ ki tg of_ kp sf rs), (aI g to_ 25 tl), (aI g sm 25 f), (aM g wa 6 (he_ro 6 r2))] ++ he_pl g L ln M) H := hP
  have hD : va_D A ([(oX11 m0 0 ta sz_ pl at_ fa fw cs fd rfm rt_ to_ rw_ wa ct rk rb cn br sm as_ go sh_ ir oa ob th ig sp_ ki tg of_ kp sf rs), (aI g to_ 25 tl), (aI g sm 25 f), (aM g wa 6 (he_ro 6 r2))] ++ he_pl g L ln M) := hD
  refine lv_aload_n hx hb dX11_wall_5 rfl (lv_at hl 0 rfl) ?_
  refine lv_aload_n hx hb dX11_wall_6 rfl (lv_at hl 0 rfl) ?_
  refine lv_iload_n hx hb dX11_wall_7 rfl (lv_at hl 1 rfl) ?_
  refine he_ci (wc := [(oX11 m0 0 ta sz_ pl at_ fa fw cs fd rfm rt_ to_ rw_ wa ct rk rb cn br sm as_ go sh_ ir oa ob th ig sp_ ki tg of_ kp sf rs), (aI g to_ 25 tl)]) (wr := ([(aI g sm 25 f), (aM g wa 6 (he_ro 6 r2))] ++ (he_pl g L ln M))) (va_runV (As := [.int (nI j)]) (rest := [.ref m0]) ⟨hx, hb, hml, hown, hts⟩ (h_X11_isWall l g m0 fd rfm rt_ to_ rw_ wa rk rb cn br sm as_ go sh_ ki tg of_ kp rs ta sz_ pl at_ fa fw cs ct ir oa ob th ig sp_ sf 0 tl w (nI j) (by first | assumption | decide | omega) H.size) (cwV 1 hts gX11_wall_X11_isWall rfl rfl rfl (by decide +kernel) ⟨Nat.le_of_ble_eq_true rfl, Nat.le_of_ble_eq_true rfl⟩) (he_preV (wc := [(oX11 m0 0 ta sz_ pl at_ fa fw cs fd rfm rt_ to_ rw_ wa ct rk rb cn br sm as_ go sh_ ir oa ob th ig sp_ ki tg of_ kp sf rs), (aI g to_ 25 tl)]) hK hP hD hS hA hE [0, 1] rfl rfl 0 rfl rfl) rfl rfl hl.1 rfl (lv_room (Nat.le_of_ble_eq_true rfl)) dX11_wall_8 ⟨(Nat.le_of_ble_eq_true rfl), (Nat.le_of_ble_eq_true rfl)⟩) hP hD hS hA [0, 1] (he_is [2, 3] [(oX11 m0 0 ta sz_ pl at_ fa fw cs fd rfm rt_ to_ rw_ wa ct rk rb cn br sm as_ go sh_ ir oa ob th ig sp_ ki tg of_ kp sf rs), (aI g to_ 25 tl), (aI g sm 25 f), (aM g wa 6 (he_ro 6 r2))] (he_pl g L ln M)) rfl (he_ixP rfl) (he_ndP rfl rfl) (he_disN (by decide) rfl) (fun r_1 u_2 H locs h_3 hP hD hS => ?_)
  have hP := va_P.swap hP
  have hD := va_D.swap hD
  subst h_3
  have hP : va_P g.1 vwCl ([(aI g sm 25 f), (aM g wa 6 (he_ro 6 r2)), (oX11 m0 0 ta sz_ pl at_ fa fw cs fd rfm rt_ to_ rw_ wa ct rk rb cn br sm as_ go sh_ ir oa ob th ig sp_ ki tg of_ kp sf rs), (aI g to_ 25 tl)] ++ he_pl g L ln M) H := hP
  have hD : va_D A ([(aI g sm 25 f), (aM g wa 6 (he_ro 6 r2)), (oX11 m0 0 ta sz_ pl at_ fa fw cs fd rfm rt_ to_ rw_ wa ct rk rb cn br sm as_ go sh_ ir oa ob th ig sp_ ki tg of_ kp sf rs), (aI g to_ 25 tl)] ++ he_pl g L ln M) := hD
  refine he_top (1) (he_within_1 (wall_in hj (by omega))) ?_
  refine lv_if_ne (tgt := 18) hx hb dX11_wall_11 (by decide) (fun c_4 => ?_) (fun c_4 => ?_)
  · refine lv_iconst (v := 0) hx hb dX11_wall_18 (by decide) ?_
    refine lv_iconst (v := 1) hx hb dX11_wall_19 (by decide) ?_
    refine lv_iconst (v := 1) hx hb dX11_wall_20 (by decide) ?_
    refine he_ci (wc := [(oX11 m0 0 ta sz_ pl at_ fa fw cs fd rfm rt_ to_ rw_ wa ct rk rb cn br sm as_ go sh_ ir oa ob th ig sp_ ki tg of_ kp sf rs)]) (wr := ([(aI g sm 25 f), (aM g wa 6 (he_ro 6 r2)), (aI g to_ 25 tl)] ++ (he_pl g L ln M))) (va_runV (As := [.int 0, .int 1, .int 1]) (rest := []) ⟨hx, hb, hml, hown, hts⟩ (c_X11_bad0 l g m0 fd rfm rt_ to_ rw_ wa rk rb cn br sm as_ go sh_ ki tg of_ kp rs ta sz_ pl at_ fa fw cs ct ir oa ob th ig sp_ sf 1 1 H.size) (cwV 3 hts gX11_wall_X11_bad rfl rfl rfl (by decide +kernel) ⟨Nat.le_of_ble_eq_true rfl, Nat.le_of_ble_eq_true rfl⟩) (he_preV (wc := [(oX11 m0 0 ta sz_ pl at_ fa fw cs fd rfm rt_ to_ rw_ wa ct rk rb cn br sm as_ go sh_ ir oa ob th ig sp_ ki tg of_ kp sf rs)]) hK hP hD hS hA hE [2] rfl rfl 2 rfl rfl) rfl rfl hl.1 rfl (lv_room (Nat.le_of_ble_eq_true rfl)) dX11_wall_21 ⟨(Nat.le_of_ble_eq_true rfl), (Nat.le_of_ble_eq_true rfl)⟩) hP hD hS hA [2] (he_is [0, 1, 3] [(aI g sm 25 f), (aM g wa 6 (he_ro 6 r2)), (oX11 m0 0 ta sz_ pl at_ fa fw cs fd rfm rt_ to_ rw_ wa ct rk rb cn br sm as_ go sh_ ir oa ob th ig sp_ ki tg of_ kp sf rs), (aI g to_ 25 tl)] (he_pl g L ln M)) rfl (he_ixP rfl) (he_ndP rfl rfl) (he_disN (by decide) rfl) (fun r_5 u_6 H locs h_7 hP hD hS => ?_)
    have hP := va_P.swap hP
    have hD := va_D.swap hD
    subst h_7
    have hP : va_P g.1 vwCl ([(aI g sm 25 f), (aM g wa 6 (he_ro 6 r2)), (aI g to_ 25 tl), (oX11 m0 0 ta sz_ pl at_ fa fw cs fd rfm rt_ to_ rw_ wa ct rk rb cn br sm as_ go sh_ ir oa ob th ig sp_ ki tg of_ kp sf rs)] ++ he_pl g L ln M) H := hP
    have hD : va_D A ([(aI g sm 25 f), (aM g wa 6 (he_ro 6 r2)), (aI g to_ 25 tl), (oX11 m0 0 ta sz_ pl at_ fa fw cs fd rfm rt_ to_ rw_ wa ct rk rb cn br sm as_ go sh_ ir oa ob th ig sp_ ki tg of_ kp sf rs)] ++ he_pl g L ln M) := hD
    refine lv_if_ne (tgt := 50) hx hb dX11_wall_24 (by decide) (fun c_8 => ?_) (fun c_8 => ?_)
    · exact absurd (by decide) c_8
    · refine lv_aload_n hx hb dX11_wall_27 rfl (lv_at hl 0 rfl) ?_
      refine lv_iload_n hx hb dX11_wall_28 rfl (lv_at hl 2 rfl) ?_
      refine lv_iconst (v := 0) hx hb dX11_wall_29 (by decide) ?_
      refine lv_iconst (v := 3) hx hb dX11_wall_30 (by decide) ?_
      refine he_ci (wc := []) (wr := ([(aI g sm 25 f), (aM g wa 6 (he_ro 6 r2)), (aI g to_ 25 tl), (oX11 m0 0 ta sz_ pl at_ fa fw cs fd rfm rt_ to_ rw_ wa ct rk rb cn br sm as_ go sh_ ir oa ob th ig sp_ ki tg of_ kp sf rs)] ++ (he_pl g L ln M))) (va_runS (As := [.int 0, .int 0, .int 3]) (rest := [.ref m0]) ⟨hx, hb, hml, hown, hts⟩ (c_X11_in l g 0 0 3 H.size) (va_cwS 3 hts gX11_wall_X11_in rfl rfl rfl (by decide +kernel) ⟨Nat.le_of_ble_eq_true rfl, Nat.le_of_ble_eq_true rfl⟩) (he_preS (wc := []) hK hP hD hS hA hE [] rfl rfl) rfl rfl hl.1 rfl (lv_room (Nat.le_of_ble_eq_true rfl)) dX11_wall_31 ⟨(Nat.le_of_ble_eq_true rfl), (Nat.le_of_ble_eq_true rfl)⟩) hP hD hS hA [] (he_is [0, 1, 2, 3] [(aI g sm 25 f), (aM g wa 6 (he_ro 6 r2)), (aI g to_ 25 tl), (oX11 m0 0 ta sz_ pl at_ fa fw cs fd rfm rt_ to_ rw_ wa ct rk rb cn br sm as_ go sh_ ir oa ob th ig sp_ ki tg of_ kp sf rs)] (he_pl g L ln M)) rfl (he_ixP rfl) (he_ndP rfl rfl) (he_disN (by decide) rfl) (fun r_9 u_10 H locs h_11 hP hD hS => ?_)
      have hP := va_P.swap hP
      have hD := va_D.swap hD
      subst h_11
      have hP : va_P g.1 vwCl ([(aI g sm 25 f), (aM g wa 6 (he_ro 6 r2)), (aI g to_ 25 tl), (oX11 m0 0 ta sz_ pl at_ fa fw cs fd rfm rt_ to_ rw_ wa ct rk rb cn br sm as_ go sh_ ir oa ob th ig sp_ ki tg of_ kp sf rs)] ++ he_pl g L ln M) H := hP
      have hD : va_D A ([(aI g sm 25 f), (aM g wa 6 (he_ro 6 r2)), (aI g to_ 25 tl), (oX11 m0 0 ta sz_ pl at_ fa fw cs fd rfm rt_ to_ rw_ wa ct rk rb cn br sm as_ go sh_ ir oa ob th ig sp_ ki tg of_ kp sf rs)] ++ he_pl g L ln M) := hD
      refine he_top (1) (by decide) ?_
      refine lv_if_ne (tgt := 41) hx hb dX11_wall_34 (by decide) (fun c_12 => ?_) (fun c_12 => ?_)
      · refine lv_iconst (v := 0) hx hb dX11_wall_41 (by decide) ?_
        refine lv_iconst (v := 2) hx hb dX11_wall_42 (by decide) ?_
        refine lv_iconst (v := 2) hx hb dX11_wall_43 (by decide) ?_
        refine he_ci (wc := [(oX11 m0 0 ta sz_ pl at_ fa fw cs fd rfm rt_ to_ rw_ wa ct rk rb cn br sm as_ go sh_ ir oa ob th ig sp_ ki tg of_ kp sf rs)]) (wr := ([(aI g sm 25 f), (aM g wa 6 (he_ro 6 r2)), (aI g to_ 25 tl)] ++ (he_pl g L ln M))) (va_runV (As := [.int 0, .int 2, .int 2]) (rest := []) ⟨hx, hb, hml, hown, hts⟩ (c_X11_bad0 l g m0 fd rfm rt_ to_ rw_ wa rk rb cn br sm as_ go sh_ ki tg of_ kp rs ta sz_ pl at_ fa fw cs ct ir oa ob th ig sp_ sf 2 2 H.size) (cwV 3 hts gX11_wall_X11_bad rfl rfl rfl (by decide +kernel) ⟨Nat.le_of_ble_eq_true rfl, Nat.le_of_ble_eq_true rfl⟩) (he_preV (wc := [(oX11 m0 0 ta sz_ pl at_ fa fw cs fd rfm rt_ to_ rw_ wa ct rk rb cn br sm as_ go sh_ ir oa ob th ig sp_ ki tg of_ kp sf rs)]) hK hP hD hS hA hE [3] rfl rfl 3 rfl rfl) rfl rfl hl.1 rfl (lv_room (Nat.le_of_ble_eq_true rfl)) dX11_wall_44 ⟨(Nat.le_of_ble_eq_true rfl), (Nat.le_of_ble_eq_true rfl)⟩) hP hD hS hA [3] (he_is [0, 1, 2] [(aI g sm 25 f), (aM g wa 6 (he_ro 6 r2)), (aI g to_ 25 tl), (oX11 m0 0 ta sz_ pl at_ fa fw cs fd rfm rt_ to_ rw_ wa ct rk rb cn br sm as_ go sh_ ir oa ob th ig sp_ ki tg of_ kp sf rs)] (he_pl g L ln M)) rfl (he_ixP rfl) (he_ndP rfl rfl) (he_disN (by decide) rfl) (fun r_13 u_14 H locs h_15 hP hD hS => ?_)
        have hP := va_P.swap hP
        have hD := va_D.swap hD
        subst h_15
        have hP : va_P g.1 vwCl ([(aI g sm 25 f), (aM g wa 6 (he_ro 6 r2)), (aI g to_ 25 tl), (oX11 m0 0 ta sz_ pl at_ fa fw cs fd rfm rt_ to_ rw_ wa ct rk rb cn br sm as_ go sh_ ir oa ob th ig sp_ ki tg of_ kp sf rs)] ++ he_pl g L ln M) H := hP
        have hD : va_D A ([(aI g sm 25 f), (aM g wa 6 (he_ro 6 r2)), (aI g to_ 25 tl), (oX11 m0 0 ta sz_ pl at_ fa fw cs fd rfm rt_ to_ rw_ wa ct rk rb cn br sm as_ go sh_ ir oa ob th ig sp_ ki tg of_ kp sf rs)] ++ he_pl g L ln M) := hD
        refine lv_if_eq (tgt := 52) hx hb dX11_wall_47 (by decide) (fun c_16 => ?_) (fun c_16 => ?_)
        · refine lv_iload_n hx hb dX11_wall_52 rfl (lv_at hl 2 rfl) ?_
          refine lv_if_ne (tgt := 67) hx hb dX11_wall_53 (by decide) (fun c_17 => ?_) (fun c_17 => ?_)
          · exact absurd (by decide) c_17
          · refine lv_aload_n hx hb dX11_wall_56 rfl (lv_at hl 0 rfl) ?_
            refine va_get (v := .ref wa) (T := TX11) (N := 35) hx hb hts inX11 hown hK hP 3 rfl rfl 13 (by decide) f31 (fun _ h9 => h9) rfl dX11_wall_57 ?_
            refine lv_iload_n hx hb dX11_wall_60 rfl (lv_at hl 1 rfl) ?_
            refine he_aldm hx hb hK hP 1 rfl (j) rfl (by first | assumption | decide | omega) (by decide) dX11_wall_61 ?_
            refine lv_iconst (v := 0) hx hb dX11_wall_62 (by decide) ?_
            refine he_pald hx hb hK hP (F_r2 j (by first | assumption | decide | omega)).1 (0) (by decide) (by rw [(F_r2 j (by first | assumption | decide | omega)).2.1]; exact (by decide)) (by rw [(F_r2 j (by first | assumption | decide | omega)).2.1]; decide) (M (r2 j) 0) rfl dX11_wall_63 ?_
            refine lv_goto (tgt := 109) hx hb dX11_wall_64 (by decide) ?_
            have hP := he_Psub (X := [(aI g sm 25 f), (aM g wa 6 (he_ro 6 r2)), (aI g to_ 25 tl), (oX11 m0 0 ta sz_ pl at_ fa fw cs fd rfm rt_ to_ rw_ wa ct rk rb cn br sm as_ go sh_ ir oa ob th ig sp_ ki tg of_ kp sf rs)]) (X2 := [(oX11 m0 0 ta sz_ pl at_ fa fw cs fd rfm rt_ to_ rw_ wa ct rk rb cn br sm as_ go sh_ ir oa ob th ig sp_ ki tg of_ kp sf rs), (aI g to_ 25 tl), (aI g sm 25 f), (aM g wa 6 (he_ro 6 r2))]) (P := (he_pl g L ln M)) hP [3, 2, 0, 1] rfl
            have hD := he_Dsub (X := [(aI g sm 25 f), (aM g wa 6 (he_ro 6 r2)), (aI g to_ 25 tl), (oX11 m0 0 ta sz_ pl at_ fa fw cs fd rfm rt_ to_ rw_ wa ct rk rb cn br sm as_ go sh_ ir oa ob th ig sp_ ki tg of_ kp sf rs)]) (X2 := [(oX11 m0 0 ta sz_ pl at_ fa fw cs fd rfm rt_ to_ rw_ wa ct rk rb cn br sm as_ go sh_ ir oa ob th ig sp_ ki tg of_ kp sf rs), (aI g to_ 25 tl), (aI g sm 25 f), (aM g wa 6 (he_ro 6 r2))]) (P := (he_pl g L ln M)) hD [3, 2, 0, 1] rfl rfl rfl
            exact he_ri hQ hx hb hr hlk hP hD hS dX11_wall_109 (Nat.le_of_ble_eq_true rfl) (Nat.le_of_ble_eq_true rfl) (()) (rfl) (rfl)
        · exact absurd (by decide) c_16
      · exact absurd c_12 (by decide)
  · exact absurd c_4 (by decide)
set_option maxHeartbeats 4000000 in
set_option maxRecDepth 100000 in
theorem r_X11_wall1 (l : Launch) (g : he_G) (m0 : Nat) (fd : Nat) (rfm : Nat) (rt_ : Nat) (to_ : Nat) (rw_ : Nat) (wa : Nat) (rk : Nat) (rb : Nat) (cn : Nat) (br : Nat) (sm : Nat) (as_ : Nat) (go : Nat) (sh_ : Nat) (ki : Nat) (tg : Nat) (of_ : Nat) (kp : Nat) (rs : Nat) (ta : Int32) (sz_ : Int32) (pl : Int32) (at_ : Int32) (fa : Int32) (fw : Int32) (cs : Int32) (ct : Int32) (ir : Int32) (oa : Int32) (ob : Int32) (th : Int32) (ig : Int32) (sp_ : Int32) (sf : Int32) (tw : Int32) (tl : Nat → Int32) (f : Nat → Int32) (w : Nat) (j : Nat) (L : List Nat) (ln : Nat → Nat) (M : Nat → Nat → Int32) (r2 : Nat → Nat) (htl : tl 0 = nI w) (hw6 : w ≤ 6) (hj : j < w) (F_r2 : ∀ i, i < 6 → r2 i ∈ L ∧ ln (r2 i) = 2 ∧ True) : he_I l yX11_wall wsX11_wall 2 43 0 0 g [.ref m0, .int (nI j), .int 1] ([(oX11 m0 tw ta sz_ pl at_ fa fw cs fd rfm rt_ to_ rw_ wa ct rk rb cn br sm as_ go sh_ ir oa ob th ig sp_ ki tg of_ kp sf rs), (aI g to_ 25 tl), (aI g sm 25 f), (aM g wa 6 (he_ro 6 r2))] ++ he_pl g L ln M) (fun (r : Int32) (u : Unit) => r = f (12 + j)) (fun (u : Unit) => [(oX11 m0 0 ta sz_ pl at_ fa fw cs fd rfm rt_ to_ rw_ wa ct rk rb cn br sm as_ go sh_ ir oa ob th ig sp_ ki tg of_ kp sf rs), (aI g to_ 25 tl), (aI g sm 25 f), (aM g wa 6 (he_ro 6 r2))] ++ he_pl g L ln M) := by
  refine he_begin (l := l) (g := g) (y := yX11_wall) (wl := wsX11_wall) (fr := 2) (lo := 43) (mc := 0) (ms := 0) (av := [.ref m0, .int (nI j), .int 1]) (ws := ([(oX11 m0 tw ta sz_ pl at_ fa fw cs fd rfm rt_ to_ rw_ wa ct rk rb cn br sm as_ go sh_ ir oa ob th ig sp_ ki tg of_ kp sf rs), (aI g to_ 25 tl), (aI g sm 25 f), (aM g wa 6 (he_ro 6 r2))] ++ he_pl g L ln M)) (cc := cX11_wall) (maxL := 3) (ret := (some .int)) (fun A => va_Qi (fun (r : Int32) (u : Unit) => r = f (12 + j)) (fun u t => he_post g A ((fun (u : Unit) => [(oX11 m0 0 ta sz_ pl at_ fa fw cs fd rfm rt_ to_ rw_ wa ct rk rb cn br sm as_ go sh_ ir oa ob th ig sp_ ki tg of_ kp sf rs), (aI g to_ 25 tl), (aI g sm 25 f), (aM g wa 6 (he_ro 6 r2))] ++ he_pl g L ln M) u) t) A) (by decide) rfl (Nat.le_of_ble_eq_true rfl) ?_
  intro p e s m args below meth c A ls H locs Q hQ hB
  obtain ⟨hx, hb, hr, hml, hown, hts, hlk, hin, hP, hK, hD, hS, hA, hE, hl⟩ := hB
  have hl : lv_has ls 3 [(0, .ref m0), (1, .int (nI j)), (2, .int 1)] := hl
  have f85 := hts (.fieldLink RX11 85 "HiredEnemyModel" "thrown" "I") (iwoX11_wall (k := 0) rfl)
  have inX11 : ∀ w ∈ wsX110, w ∈ wsX11_wall := innX11_wall_X11
  have f46 := hts (.fieldLink RX11 46 "HiredEnemyModel" "s" "[I") (iwoX11_wall (k := 2) rfl)
  refine lv_aload_n hx hb dX11_wall_0 rfl (lv_at hl 0 rfl) ?_
  refine lv_iconst (v := 0) hx hb dX11_wall_1 (by decide) ?_
  refine va_put (v := .int 0) (ty := .int) (T := TX11) (N := 35) hx hb hts inX11 tyX11 tyX11_ok nmX11 hown hK hP hD hS 0 rfl rfl 0 (by decide) f85 (fun _ h9 => h9) rfl (by decide +kernel) rfl rfl (Nat.le_of_ble_eq_true rfl) dX11_wall_2 (fun H locs hP hD hS => ?_)
  have hP : va_P g.1 vwCl ([(oX11 m0 0 ta sz_ pl at_ fa fw cs fd rfm rt_ to_ rw_ wa ct rk rb cn br sm as_ go sh_ ir oa ob th ig sp_ ki tg of_ kp sf rs), (aI g to_ 25 tl), (aI g sm 25 f), (aM g wa 6 (he_ro 6 r2))] ++ he_pl g L ln M) H := hP
  have hD : va_D A ([(oX11 m0 0 ta sz_ pl at_ fa fw cs fd rfm rt_ to_ rw_ wa ct rk rb cn br sm as_ go sh_ ir oa ob th ig sp_ ki tg of_ kp sf rs), (aI g to_ 25 tl), (aI g sm 25 f), (aM g wa 6 (he_ro 6 r2))] ++ he_pl g L ln M) := hD
  refine lv_aload_n hx hb dX11_wall_5 rfl (lv_at hl 0 rfl) ?_
  refine lv_aload_n hx hb dX11_wall_6 rfl (lv_at hl 0 rfl) ?_
  refine lv_iload_n hx hb dX11_wall_7 rfl (lv_at hl 1 rfl) ?_
  refine he_ci (wc := [(oX11 m0 0 ta sz_ pl at_ fa fw cs fd rfm rt_ to_ rw_ wa ct rk rb cn br sm as_ go sh_ ir oa ob th ig sp_ ki tg of_ kp sf rs), (aI g to_ 25 tl)]) (wr := ([(aI g sm 25 f), (aM g wa 6 (he_ro 6 r2))] ++ (he_pl g L ln M))) (va_runV (As := [.int (nI j)]) (rest := [.ref m0]) ⟨hx, hb, hml, hown, hts⟩ (h_X11_isWall l g m0 fd rfm rt_ to_ rw_ wa rk rb cn br sm as_ go sh_ ki tg of_ kp rs ta sz_ pl at_ fa fw cs ct ir oa ob th ig sp_ sf 0 tl w (nI j) (by first | assumption | decide | omega) H.size) (cwV 1 hts gX11_wall_X11_isWall rfl rfl rfl (by decide +kernel) ⟨Nat.le_of_ble_eq_true rfl, Nat.le_of_ble_eq_true rfl⟩) (he_preV (wc := [(oX11 m0 0 ta sz_ pl at_ fa fw cs fd rfm rt_ to_ rw_ wa ct rk rb cn br sm as_ go sh_ ir oa ob th ig sp_ ki tg of_ kp sf rs), (aI g to_ 25 tl)]) hK hP hD hS hA hE [0, 1] rfl rfl 0 rfl rfl) rfl rfl hl.1 rfl (lv_room (Nat.le_of_ble_eq_true rfl)) dX11_wall_8 ⟨(Nat.le_of_ble_eq_true rfl), (Nat.le_of_ble_eq_true rfl)⟩) hP hD hS hA [0, 1] (he_is [2, 3] [(oX11 m0 0 ta sz_ pl at_ fa fw cs fd rfm rt_ to_ rw_ wa ct rk rb cn br sm as_ go sh_ ir oa ob th ig sp_ ki tg of_ kp sf rs), (aI g to_ 25 tl), (aI g sm 25 f), (aM g wa 6 (he_ro 6 r2))] (he_pl g L ln M)) rfl (he_ixP rfl) (he_ndP rfl rfl) (he_disN (by decide) rfl) (fun r_1 u_2 H locs h_3 hP hD hS => ?_)
  have hP := va_P.swap hP
  have hD := va_D.swap hD
  subst h_3
  have hP : va_P g.1 vwCl ([(aI g sm 25 f), (aM g wa 6 (he_ro 6 r2)), (oX11 m0 0 ta sz_ pl at_ fa fw cs fd rfm rt_ to_ rw_ wa ct rk rb cn br sm as_ go sh_ ir oa ob th ig sp_ ki tg of_ kp sf rs), (aI g to_ 25 tl)] ++ he_pl g L ln M) H := hP
  have hD : va_D A ([(aI g sm 25 f), (aM g wa 6 (he_ro 6 r2)), (oX11 m0 0 ta sz_ pl at_ fa fw cs fd rfm rt_ to_ rw_ wa ct rk rb cn br sm as_ go sh_ ir oa ob th ig sp_ ki tg of_ kp sf rs), (aI g to_ 25 tl)] ++ he_pl g L ln M) := hD
  refine he_top (1) (he_within_1 (wall_in hj (by omega))) ?_
  refine lv_if_ne (tgt := 18) hx hb dX11_wall_11 (by decide) (fun c_4 => ?_) (fun c_4 => ?_)
  · refine lv_iconst (v := 0) hx hb dX11_wall_18 (by decide) ?_
    refine lv_iconst (v := 1) hx hb dX11_wall_19 (by decide) ?_
    refine lv_iconst (v := 1) hx hb dX11_wall_20 (by decide) ?_
    refine he_ci (wc := [(oX11 m0 0 ta sz_ pl at_ fa fw cs fd rfm rt_ to_ rw_ wa ct rk rb cn br sm as_ go sh_ ir oa ob th ig sp_ ki tg of_ kp sf rs)]) (wr := ([(aI g sm 25 f), (aM g wa 6 (he_ro 6 r2)), (aI g to_ 25 tl)] ++ (he_pl g L ln M))) (va_runV (As := [.int 0, .int 1, .int 1]) (rest := []) ⟨hx, hb, hml, hown, hts⟩ (c_X11_bad0 l g m0 fd rfm rt_ to_ rw_ wa rk rb cn br sm as_ go sh_ ki tg of_ kp rs ta sz_ pl at_ fa fw cs ct ir oa ob th ig sp_ sf 1 1 H.size) (cwV 3 hts gX11_wall_X11_bad rfl rfl rfl (by decide +kernel) ⟨Nat.le_of_ble_eq_true rfl, Nat.le_of_ble_eq_true rfl⟩) (he_preV (wc := [(oX11 m0 0 ta sz_ pl at_ fa fw cs fd rfm rt_ to_ rw_ wa ct rk rb cn br sm as_ go sh_ ir oa ob th ig sp_ ki tg of_ kp sf rs)]) hK hP hD hS hA hE [2] rfl rfl 2 rfl rfl) rfl rfl hl.1 rfl (lv_room (Nat.le_of_ble_eq_true rfl)) dX11_wall_21 ⟨(Nat.le_of_ble_eq_true rfl), (Nat.le_of_ble_eq_true rfl)⟩) hP hD hS hA [2] (he_is [0, 1, 3] [(aI g sm 25 f), (aM g wa 6 (he_ro 6 r2)), (oX11 m0 0 ta sz_ pl at_ fa fw cs fd rfm rt_ to_ rw_ wa ct rk rb cn br sm as_ go sh_ ir oa ob th ig sp_ ki tg of_ kp sf rs), (aI g to_ 25 tl)] (he_pl g L ln M)) rfl (he_ixP rfl) (he_ndP rfl rfl) (he_disN (by decide) rfl) (fun r_5 u_6 H locs h_7 hP hD hS => ?_)
    have hP := va_P.swap hP
    have hD := va_D.swap hD
    subst h_7
    have hP : va_P g.1 vwCl ([(aI g sm 25 f), (aM g wa 6 (he_ro 6 r2)), (aI g to_ 25 tl), (oX11 m0 0 ta sz_ pl at_ fa fw cs fd rfm rt_ to_ rw_ wa ct rk rb cn br sm as_ go sh_ ir oa ob th ig sp_ ki tg of_ kp sf rs)] ++ he_pl g L ln M) H := hP
    have hD : va_D A ([(aI g sm 25 f), (aM g wa 6 (he_ro 6 r2)), (aI g to_ 25 tl), (oX11 m0 0 ta sz_ pl at_ fa fw cs fd rfm rt_ to_ rw_ wa ct rk rb cn br sm as_ go sh_ ir oa ob th ig sp_ ki tg of_ kp sf rs)] ++ he_pl g L ln M) := hD
    refine lv_if_ne (tgt := 50) hx hb dX11_wall_24 (by decide) (fun c_8 => ?_) (fun c_8 => ?_)
    · exact absurd (by decide) c_8
    · refine lv_aload_n hx hb dX11_wall_27 rfl (lv_at hl 0 rfl) ?_
      refine lv_iload_n hx hb dX11_wall_28 rfl (lv_at hl 2 rfl) ?_
      refine lv_iconst (v := 0) hx hb dX11_wall_29 (by decide) ?_
      refine lv_iconst (v := 3) hx hb dX11_wall_30 (by decide) ?_
      refine he_ci (wc := []) (wr := ([(aI g sm 25 f), (aM g wa 6 (he_ro 6 r2)), (aI g to_ 25 tl), (oX11 m0 0 ta sz_ pl at_ fa fw cs fd rfm rt_ to_ rw_ wa ct rk rb cn br sm as_ go sh_ ir oa ob th ig sp_ ki tg of_ kp sf rs)] ++ (he_pl g L ln M))) (va_runS (As := [.int 1, .int 0, .int 3]) (rest := [.ref m0]) ⟨hx, hb, hml, hown, hts⟩ (c_X11_in l g 1 0 3 H.size) (va_cwS 3 hts gX11_wall_X11_in rfl rfl rfl (by decide +kernel) ⟨Nat.le_of_ble_eq_true rfl, Nat.le_of_ble_eq_true rfl⟩) (he_preS (wc := []) hK hP hD hS hA hE [] rfl rfl) rfl rfl hl.1 rfl (lv_room (Nat.le_of_ble_eq_true rfl)) dX11_wall_31 ⟨(Nat.le_of_ble_eq_true rfl), (Nat.le_of_ble_eq_true rfl)⟩) hP hD hS hA [] (he_is [0, 1, 2, 3] [(aI g sm 25 f), (aM g wa 6 (he_ro 6 r2)), (aI g to_ 25 tl), (oX11 m0 0 ta sz_ pl at_ fa fw cs fd rfm rt_ to_ rw_ wa ct rk rb cn br sm as_ go sh_ ir oa ob th ig sp_ ki tg of_ kp sf rs)] (he_pl g L ln M)) rfl (he_ixP rfl) (he_ndP rfl rfl) (he_disN (by decide) rfl) (fun r_9 u_10 H locs h_11 hP hD hS => ?_)
      have hP := va_P.swap hP
      have hD := va_D.swap hD
      subst h_11
      have hP : va_P g.1 vwCl ([(aI g sm 25 f), (aM g wa 6 (he_ro 6 r2)), (aI g to_ 25 tl), (oX11 m0 0 ta sz_ pl at_ fa fw cs fd rfm rt_ to_ rw_ wa ct rk rb cn br sm as_ go sh_ ir oa ob th ig sp_ ki tg of_ kp sf rs)] ++ he_pl g L ln M) H := hP
      have hD : va_D A ([(aI g sm 25 f), (aM g wa 6 (he_ro 6 r2)), (aI g to_ 25 tl), (oX11 m0 0 ta sz_ pl at_ fa fw cs fd rfm rt_ to_ rw_ wa ct rk rb cn br sm as_ go sh_ ir oa ob th ig sp_ ki tg of_ kp sf rs)] ++ he_pl g L ln M) := hD
      refine he_top (1) (by decide) ?_
      refine lv_if_ne (tgt := 41) hx hb dX11_wall_34 (by decide) (fun c_12 => ?_) (fun c_12 => ?_)
      · refine lv_iconst (v := 0) hx hb dX11_wall_41 (by decide) ?_
        refine lv_iconst (v := 2) hx hb dX11_wall_42 (by decide) ?_
        refine lv_iconst (v := 2) hx hb dX11_wall_43 (by decide) ?_
        refine he_ci (wc := [(oX11 m0 0 ta sz_ pl at_ fa fw cs fd rfm rt_ to_ rw_ wa ct rk rb cn br sm as_ go sh_ ir oa ob th ig sp_ ki tg of_ kp sf rs)]) (wr := ([(aI g sm 25 f), (aM g wa 6 (he_ro 6 r2)), (aI g to_ 25 tl)] ++ (he_pl g L ln M))) (va_runV (As := [.int 0, .int 2, .int 2]) (rest := []) ⟨hx, hb, hml, hown, hts⟩ (c_X11_bad0 l g m0 fd rfm rt_ to_ rw_ wa rk rb cn br sm as_ go sh_ ki tg of_ kp rs ta sz_ pl at_ fa fw cs ct ir oa ob th ig sp_ sf 2 2 H.size) (cwV 3 hts gX11_wall_X11_bad rfl rfl rfl (by decide +kernel) ⟨Nat.le_of_ble_eq_true rfl, Nat.le_of_ble_eq_true rfl⟩) (he_preV (wc := [(oX11 m0 0 ta sz_ pl at_ fa fw cs fd rfm rt_ to_ rw_ wa ct rk rb cn br sm as_ go sh_ ir oa ob th ig sp_ ki tg of_ kp sf rs)]) hK hP hD hS hA hE [3] rfl rfl 3 rfl rfl) rfl rfl hl.1 rfl (lv_room (Nat.le_of_ble_eq_true rfl)) dX11_wall_44 ⟨(Nat.le_of_ble_eq_true rfl), (Nat.le_of_ble_eq_true rfl)⟩) hP hD hS hA [3] (he_is [0, 1, 2] [(aI g sm 25 f), (aM g wa 6 (he_ro 6 r2)), (aI g to_ 25 tl), (oX11 m0 0 ta sz_ pl at_ fa fw cs fd rfm rt_ to_ rw_ wa ct rk rb cn br sm as_ go sh_ ir oa ob th ig sp_ ki tg of_ kp sf rs)] (he_pl g L ln M)) rfl (he_ixP rfl) (he_ndP rfl rfl) (he_disN (by decide) rfl) (fun r_13 u_14 H locs h_15 hP hD hS => ?_)
        have hP := va_P.swap hP
        have hD := va_D.swap hD
        subst h_15
        have hP : va_P g.1 vwCl ([(aI g sm 25 f), (aM g wa 6 (he_ro 6 r2)), (aI g to_ 25 tl), (oX11 m0 0 ta sz_ pl at_ fa fw cs fd rfm rt_ to_ rw_ wa ct rk rb cn br sm as_ go sh_ ir oa ob th ig sp_ ki tg of_ kp sf rs)] ++ he_pl g L ln M) H := hP
        have hD : va_D A ([(aI g sm 25 f), (aM g wa 6 (he_ro 6 r2)), (aI g to_ 25 tl), (oX11 m0 0 ta sz_ pl at_ fa fw cs fd rfm rt_ to_ rw_ wa ct rk rb cn br sm as_ go sh_ ir oa ob th ig sp_ ki tg of_ kp sf rs)] ++ he_pl g L ln M) := hD
        refine lv_if_eq (tgt := 52) hx hb dX11_wall_47 (by decide) (fun c_16 => ?_) (fun c_16 => ?_)
        · refine lv_iload_n hx hb dX11_wall_52 rfl (lv_at hl 2 rfl) ?_
          refine lv_if_ne (tgt := 67) hx hb dX11_wall_53 (by decide) (fun c_17 => ?_) (fun c_17 => ?_)
          · refine lv_iload_n hx hb dX11_wall_67 rfl (lv_at hl 2 rfl) ?_
            refine lv_iconst (v := 1) hx hb dX11_wall_68 (by decide) ?_
            refine lv_icmp_ne (tgt := 84) hx hb dX11_wall_69 (by decide) (fun c_18 => ?_) (fun c_18 => ?_)
            · exact absurd (by decide) c_18
            · refine lv_aload_n hx hb dX11_wall_72 rfl (lv_at hl 0 rfl) ?_
              refine va_get (v := .ref sm) (T := TX11) (N := 35) hx hb hts inX11 hown hK hP 3 rfl rfl 19 (by decide) f46 (fun _ h9 => h9) rfl dX11_wall_73 ?_
              refine lv_bipush (v := 12) hx hb dX11_wall_76 (by decide) ?_
              refine lv_iload_n hx hb dX11_wall_78 rfl (lv_at hl 1 rfl) ?_
              refine lv_iadd hx hb dX11_wall_79 ?_
              refine he_top (nI (12 + j)) (nI_add 12 j) ?_
              refine he_iald hx hb hK hP 0 rfl (12 + j) rfl (by first | assumption | decide | omega) (by first | decide | assumption) (f (12 + j)) rfl dX11_wall_80 ?_
              refine lv_goto (tgt := 109) hx hb dX11_wall_81 (by decide) ?_
              have hP := he_Psub (X := [(aI g sm 25 f), (aM g wa 6 (he_ro 6 r2)), (aI g to_ 25 tl), (oX11 m0 0 ta sz_ pl at_ fa fw cs fd rfm rt_ to_ rw_ wa ct rk rb cn br sm as_ go sh_ ir oa ob th ig sp_ ki tg of_ kp sf rs)]) (X2 := [(oX11 m0 0 ta sz_ pl at_ fa fw cs fd rfm rt_ to_ rw_ wa ct rk rb cn br sm as_ go sh_ ir oa ob th ig sp_ ki tg of_ kp sf rs), (aI g to_ 25 tl), (aI g sm 25 f), (aM g wa 6 (he_ro 6 r2))]) (P := (he_pl g L ln M)) hP [3, 2, 0, 1] rfl
              have hD := he_Dsub (X := [(aI g sm 25 f), (aM g wa 6 (he_ro 6 r2)), (aI g to_ 25 tl), (oX11 m0 0 ta sz_ pl at_ fa fw cs fd rfm rt_ to_ rw_ wa ct rk rb cn br sm as_ go sh_ ir oa ob th ig sp_ ki tg of_ kp sf rs)]) (X2 := [(oX11 m0 0 ta sz_ pl at_ fa fw cs fd rfm rt_ to_ rw_ wa ct rk rb cn br sm as_ go sh_ ir oa ob th ig sp_ ki tg of_ kp sf rs), (aI g to_ 25 tl), (aI g sm 25 f), (aM g wa 6 (he_ro 6 r2))]) (P := (he_pl g L ln M)) hD [3, 2, 0, 1] rfl rfl rfl
              exact he_ri hQ hx hb hr hlk hP hD hS dX11_wall_109 (Nat.le_of_ble_eq_true rfl) (Nat.le_of_ble_eq_true rfl) (()) (rfl) (rfl)
          · exact absurd c_17 (by decide)
        · exact absurd (by decide) c_16
      · exact absurd c_12 (by decide)
  · exact absurd c_4 (by decide)
set_option maxHeartbeats 4000000 in
set_option maxRecDepth 100000 in
theorem r_X11_wall2 (l : Launch) (g : he_G) (m0 : Nat) (fd : Nat) (rfm : Nat) (rt_ : Nat) (to_ : Nat) (rw_ : Nat) (wa : Nat) (rk : Nat) (rb : Nat) (cn : Nat) (br : Nat) (sm : Nat) (as_ : Nat) (go : Nat) (sh_ : Nat) (ki : Nat) (tg : Nat) (of_ : Nat) (kp : Nat) (rs : Nat) (ta : Int32) (sz_ : Int32) (pl : Int32) (at_ : Int32) (fa : Int32) (fw : Int32) (cs : Int32) (ct : Int32) (ir : Int32) (oa : Int32) (ob : Int32) (th : Int32) (ig : Int32) (sp_ : Int32) (sf : Int32) (tw : Int32) (tl : Nat → Int32) (f : Nat → Int32) (w : Nat) (j : Nat) (L : List Nat) (ln : Nat → Nat) (M : Nat → Nat → Int32) (r2 : Nat → Nat) (htl : tl 0 = nI w) (hw6 : w ≤ 6) (hj : j < w) (F_r2 : ∀ i, i < 6 → r2 i ∈ L ∧ ln (r2 i) = 2 ∧ True) : he_I l yX11_wall wsX11_wall 2 43 0 0 g [.ref m0, .int (nI j), .int 2] ([(oX11 m0 tw ta sz_ pl at_ fa fw cs fd rfm rt_ to_ rw_ wa ct rk rb cn br sm as_ go sh_ ir oa ob th ig sp_ ki tg of_ kp sf rs), (aI g to_ 25 tl), (aI g sm 25 f), (aM g wa 6 (he_ro 6 r2))] ++ he_pl g L ln M) (fun (r : Int32) (u : Unit) => r = M (r2 j) 1) (fun (u : Unit) => [(oX11 m0 0 ta sz_ pl at_ fa fw cs fd rfm rt_ to_ rw_ wa ct rk rb cn br sm as_ go sh_ ir oa ob th ig sp_ ki tg of_ kp sf rs), (aI g to_ 25 tl), (aI g sm 25 f), (aM g wa 6 (he_ro 6 r2))] ++ he_pl g L ln M) := by
  refine he_begin (l := l) (g := g) (y := yX11_wall) (wl := wsX11_wall) (fr := 2) (lo := 43) (mc := 0) (ms := 0) (av := [.ref m0, .int (nI j), .int 2]) (ws := ([(oX11 m0 tw ta sz_ pl at_ fa fw cs fd rfm rt_ to_ rw_ wa ct rk rb cn br sm as_ go sh_ ir oa ob th ig sp_ ki tg of_ kp sf rs), (aI g to_ 25 tl), (aI g sm 25 f), (aM g wa 6 (he_ro 6 r2))] ++ he_pl g L ln M)) (cc := cX11_wall) (maxL := 3) (ret := (some .int)) (fun A => va_Qi (fun (r : Int32) (u : Unit) => r = M (r2 j) 1) (fun u t => he_post g A ((fun (u : Unit) => [(oX11 m0 0 ta sz_ pl at_ fa fw cs fd rfm rt_ to_ rw_ wa ct rk rb cn br sm as_ go sh_ ir oa ob th ig sp_ ki tg of_ kp sf rs), (aI g to_ 25 tl), (aI g sm 25 f), (aM g wa 6 (he_ro 6 r2))] ++ he_pl g L ln M) u) t) A) (by decide) rfl (Nat.le_of_ble_eq_true rfl) ?_
  intro p e s m args below meth c A ls H locs Q hQ hB
  obtain ⟨hx, hb, hr, hml, hown, hts, hlk, hin, hP, hK, hD, hS, hA, hE, hl⟩ := hB
  have hl : lv_has ls 3 [(0, .ref m0), (1, .int (nI j)), (2, .int 2)] := hl
  have f85 := hts (.fieldLink RX11 85 "HiredEnemyModel" "thrown" "I") (iwoX11_wall (k := 0) rfl)
  have inX11 : ∀ w ∈ wsX110, w ∈ wsX11_wall := innX11_wall_X11
  have f31 := hts (.fieldLink RX11 31 "HiredEnemyModel" "wall" "[[I") (iwoX11_wall (k := 1) rfl)
  refine lv_aload_n hx hb dX11_wall_0 rfl (lv_at hl 0 rfl) ?_
  refine lv_iconst (v := 0) hx hb dX11_wall_1 (by decide) ?_
  refine va_put (v := .int 0) (ty := .int) (T := TX11) (N := 35) hx hb hts inX11 tyX11 tyX11_ok nmX11 hown hK hP hD hS 0 rfl rfl 0 (by decide) f85 (fun _ h9 => h9) rfl (by decide +kernel) rfl rfl (Nat.le_of_ble_eq_true rfl) dX11_wall_2 (fun H locs hP hD hS => ?_)
  have hP : va_P g.1 vwCl ([(oX11 m0 0 ta sz_ pl at_ fa fw cs fd rfm rt_ to_ rw_ wa ct rk rb cn br sm as_ go sh_ ir oa ob th ig sp_ ki tg of_ kp sf rs), (aI g to_ 25 tl), (aI g sm 25 f), (aM g wa 6 (he_ro 6 r2))] ++ he_pl g L ln M) H := hP
  have hD : va_D A ([(oX11 m0 0 ta sz_ pl at_ fa fw cs fd rfm rt_ to_ rw_ wa ct rk rb cn br sm as_ go sh_ ir oa ob th ig sp_ ki tg of_ kp sf rs), (aI g to_ 25 tl), (aI g sm 25 f), (aM g wa 6 (he_ro 6 r2))] ++ he_pl g L ln M) := hD
  refine lv_aload_n hx hb dX11_wall_5 rfl (lv_at hl 0 rfl) ?_
  refine lv_aload_n hx hb dX11_wall_6 rfl (lv_at hl 0 rfl) ?_
  refine lv_iload_n hx hb dX11_wall_7 rfl (lv_at hl 1 rfl) ?_
  refine he_ci (wc := [(oX11 m0 0 ta sz_ pl at_ fa fw cs fd rfm rt_ to_ rw_ wa ct rk rb cn br sm as_ go sh_ ir oa ob th ig sp_ ki tg of_ kp sf rs), (aI g to_ 25 tl)]) (wr := ([(aI g sm 25 f), (aM g wa 6 (he_ro 6 r2))] ++ (he_pl g L ln M))) (va_runV (As := [.int (nI j)]) (rest := [.ref m0]) ⟨hx, hb, hml, hown, hts⟩ (h_X11_isWall l g m0 fd rfm rt_ to_ rw_ wa rk rb cn br sm as_ go sh_ ki tg of_ kp rs ta sz_ pl at_ fa fw cs ct ir oa ob th ig sp_ sf 0 tl w (nI j) (by first | assumption | decide | omega) H.size) (cwV 1 hts gX11_wall_X11_isWall rfl rfl rfl (by decide +kernel) ⟨Nat.le_of_ble_eq_true rfl, Nat.le_of_ble_eq_true rfl⟩) (he_preV (wc := [(oX11 m0 0 ta sz_ pl at_ fa fw cs fd rfm rt_ to_ rw_ wa ct rk rb cn br sm as_ go sh_ ir oa ob th ig sp_ ki tg of_ kp sf rs), (aI g to_ 25 tl)]) hK hP hD hS hA hE [0, 1] rfl rfl 0 rfl rfl) rfl rfl hl.1 rfl (lv_room (Nat.le_of_ble_eq_true rfl)) dX11_wall_8 ⟨(Nat.le_of_ble_eq_true rfl), (Nat.le_of_ble_eq_true rfl)⟩) hP hD hS hA [0, 1] (he_is [2, 3] [(oX11 m0 0 ta sz_ pl at_ fa fw cs fd rfm rt_ to_ rw_ wa ct rk rb cn br sm as_ go sh_ ir oa ob th ig sp_ ki tg of_ kp sf rs), (aI g to_ 25 tl), (aI g sm 25 f), (aM g wa 6 (he_ro 6 r2))] (he_pl g L ln M)) rfl (he_ixP rfl) (he_ndP rfl rfl) (he_disN (by decide) rfl) (fun r_1 u_2 H locs h_3 hP hD hS => ?_)
  have hP := va_P.swap hP
  have hD := va_D.swap hD
  subst h_3
  have hP : va_P g.1 vwCl ([(aI g sm 25 f), (aM g wa 6 (he_ro 6 r2)), (oX11 m0 0 ta sz_ pl at_ fa fw cs fd rfm rt_ to_ rw_ wa ct rk rb cn br sm as_ go sh_ ir oa ob th ig sp_ ki tg of_ kp sf rs), (aI g to_ 25 tl)] ++ he_pl g L ln M) H := hP
  have hD : va_D A ([(aI g sm 25 f), (aM g wa 6 (he_ro 6 r2)), (oX11 m0 0 ta sz_ pl at_ fa fw cs fd rfm rt_ to_ rw_ wa ct rk rb cn br sm as_ go sh_ ir oa ob th ig sp_ ki tg of_ kp sf rs), (aI g to_ 25 tl)] ++ he_pl g L ln M) := hD
  refine he_top (1) (he_within_1 (wall_in hj (by omega))) ?_
  refine lv_if_ne (tgt := 18) hx hb dX11_wall_11 (by decide) (fun c_4 => ?_) (fun c_4 => ?_)
  · refine lv_iconst (v := 0) hx hb dX11_wall_18 (by decide) ?_
    refine lv_iconst (v := 1) hx hb dX11_wall_19 (by decide) ?_
    refine lv_iconst (v := 1) hx hb dX11_wall_20 (by decide) ?_
    refine he_ci (wc := [(oX11 m0 0 ta sz_ pl at_ fa fw cs fd rfm rt_ to_ rw_ wa ct rk rb cn br sm as_ go sh_ ir oa ob th ig sp_ ki tg of_ kp sf rs)]) (wr := ([(aI g sm 25 f), (aM g wa 6 (he_ro 6 r2)), (aI g to_ 25 tl)] ++ (he_pl g L ln M))) (va_runV (As := [.int 0, .int 1, .int 1]) (rest := []) ⟨hx, hb, hml, hown, hts⟩ (c_X11_bad0 l g m0 fd rfm rt_ to_ rw_ wa rk rb cn br sm as_ go sh_ ki tg of_ kp rs ta sz_ pl at_ fa fw cs ct ir oa ob th ig sp_ sf 1 1 H.size) (cwV 3 hts gX11_wall_X11_bad rfl rfl rfl (by decide +kernel) ⟨Nat.le_of_ble_eq_true rfl, Nat.le_of_ble_eq_true rfl⟩) (he_preV (wc := [(oX11 m0 0 ta sz_ pl at_ fa fw cs fd rfm rt_ to_ rw_ wa ct rk rb cn br sm as_ go sh_ ir oa ob th ig sp_ ki tg of_ kp sf rs)]) hK hP hD hS hA hE [2] rfl rfl 2 rfl rfl) rfl rfl hl.1 rfl (lv_room (Nat.le_of_ble_eq_true rfl)) dX11_wall_21 ⟨(Nat.le_of_ble_eq_true rfl), (Nat.le_of_ble_eq_true rfl)⟩) hP hD hS hA [2] (he_is [0, 1, 3] [(aI g sm 25 f), (aM g wa 6 (he_ro 6 r2)), (oX11 m0 0 ta sz_ pl at_ fa fw cs fd rfm rt_ to_ rw_ wa ct rk rb cn br sm as_ go sh_ ir oa ob th ig sp_ ki tg of_ kp sf rs), (aI g to_ 25 tl)] (he_pl g L ln M)) rfl (he_ixP rfl) (he_ndP rfl rfl) (he_disN (by decide) rfl) (fun r_5 u_6 H locs h_7 hP hD hS => ?_)
    have hP := va_P.swap hP
    have hD := va_D.swap hD
    subst h_7
    have hP : va_P g.1 vwCl ([(aI g sm 25 f), (aM g wa 6 (he_ro 6 r2)), (aI g to_ 25 tl), (oX11 m0 0 ta sz_ pl at_ fa fw cs fd rfm rt_ to_ rw_ wa ct rk rb cn br sm as_ go sh_ ir oa ob th ig sp_ ki tg of_ kp sf rs)] ++ he_pl g L ln M) H := hP
    have hD : va_D A ([(aI g sm 25 f), (aM g wa 6 (he_ro 6 r2)), (aI g to_ 25 tl), (oX11 m0 0 ta sz_ pl at_ fa fw cs fd rfm rt_ to_ rw_ wa ct rk rb cn br sm as_ go sh_ ir oa ob th ig sp_ ki tg of_ kp sf rs)] ++ he_pl g L ln M) := hD
    refine lv_if_ne (tgt := 50) hx hb dX11_wall_24 (by decide) (fun c_8 => ?_) (fun c_8 => ?_)
    · exact absurd (by decide) c_8
    · refine lv_aload_n hx hb dX11_wall_27 rfl (lv_at hl 0 rfl) ?_
      refine lv_iload_n hx hb dX11_wall_28 rfl (lv_at hl 2 rfl) ?_
      refine lv_iconst (v := 0) hx hb dX11_wall_29 (by decide) ?_
      refine lv_iconst (v := 3) hx hb dX11_wall_30 (by decide) ?_
      refine he_ci (wc := []) (wr := ([(aI g sm 25 f), (aM g wa 6 (he_ro 6 r2)), (aI g to_ 25 tl), (oX11 m0 0 ta sz_ pl at_ fa fw cs fd rfm rt_ to_ rw_ wa ct rk rb cn br sm as_ go sh_ ir oa ob th ig sp_ ki tg of_ kp sf rs)] ++ (he_pl g L ln M))) (va_runS (As := [.int 2, .int 0, .int 3]) (rest := [.ref m0]) ⟨hx, hb, hml, hown, hts⟩ (c_X11_in l g 2 0 3 H.size) (va_cwS 3 hts gX11_wall_X11_in rfl rfl rfl (by decide +kernel) ⟨Nat.le_of_ble_eq_true rfl, Nat.le_of_ble_eq_true rfl⟩) (he_preS (wc := []) hK hP hD hS hA hE [] rfl rfl) rfl rfl hl.1 rfl (lv_room (Nat.le_of_ble_eq_true rfl)) dX11_wall_31 ⟨(Nat.le_of_ble_eq_true rfl), (Nat.le_of_ble_eq_true rfl)⟩) hP hD hS hA [] (he_is [0, 1, 2, 3] [(aI g sm 25 f), (aM g wa 6 (he_ro 6 r2)), (aI g to_ 25 tl), (oX11 m0 0 ta sz_ pl at_ fa fw cs fd rfm rt_ to_ rw_ wa ct rk rb cn br sm as_ go sh_ ir oa ob th ig sp_ ki tg of_ kp sf rs)] (he_pl g L ln M)) rfl (he_ixP rfl) (he_ndP rfl rfl) (he_disN (by decide) rfl) (fun r_9 u_10 H locs h_11 hP hD hS => ?_)
      have hP := va_P.swap hP
      have hD := va_D.swap hD
      subst h_11
      have hP : va_P g.1 vwCl ([(aI g sm 25 f), (aM g wa 6 (he_ro 6 r2)), (aI g to_ 25 tl), (oX11 m0 0 ta sz_ pl at_ fa fw cs fd rfm rt_ to_ rw_ wa ct rk rb cn br sm as_ go sh_ ir oa ob th ig sp_ ki tg of_ kp sf rs)] ++ he_pl g L ln M) H := hP
      have hD : va_D A ([(aI g sm 25 f), (aM g wa 6 (he_ro 6 r2)), (aI g to_ 25 tl), (oX11 m0 0 ta sz_ pl at_ fa fw cs fd rfm rt_ to_ rw_ wa ct rk rb cn br sm as_ go sh_ ir oa ob th ig sp_ ki tg of_ kp sf rs)] ++ he_pl g L ln M) := hD
      refine he_top (1) (by decide) ?_
      refine lv_if_ne (tgt := 41) hx hb dX11_wall_34 (by decide) (fun c_12 => ?_) (fun c_12 => ?_)
      · refine lv_iconst (v := 0) hx hb dX11_wall_41 (by decide) ?_
        refine lv_iconst (v := 2) hx hb dX11_wall_42 (by decide) ?_
        refine lv_iconst (v := 2) hx hb dX11_wall_43 (by decide) ?_
        refine he_ci (wc := [(oX11 m0 0 ta sz_ pl at_ fa fw cs fd rfm rt_ to_ rw_ wa ct rk rb cn br sm as_ go sh_ ir oa ob th ig sp_ ki tg of_ kp sf rs)]) (wr := ([(aI g sm 25 f), (aM g wa 6 (he_ro 6 r2)), (aI g to_ 25 tl)] ++ (he_pl g L ln M))) (va_runV (As := [.int 0, .int 2, .int 2]) (rest := []) ⟨hx, hb, hml, hown, hts⟩ (c_X11_bad0 l g m0 fd rfm rt_ to_ rw_ wa rk rb cn br sm as_ go sh_ ki tg of_ kp rs ta sz_ pl at_ fa fw cs ct ir oa ob th ig sp_ sf 2 2 H.size) (cwV 3 hts gX11_wall_X11_bad rfl rfl rfl (by decide +kernel) ⟨Nat.le_of_ble_eq_true rfl, Nat.le_of_ble_eq_true rfl⟩) (he_preV (wc := [(oX11 m0 0 ta sz_ pl at_ fa fw cs fd rfm rt_ to_ rw_ wa ct rk rb cn br sm as_ go sh_ ir oa ob th ig sp_ ki tg of_ kp sf rs)]) hK hP hD hS hA hE [3] rfl rfl 3 rfl rfl) rfl rfl hl.1 rfl (lv_room (Nat.le_of_ble_eq_true rfl)) dX11_wall_44 ⟨(Nat.le_of_ble_eq_true rfl), (Nat.le_of_ble_eq_true rfl)⟩) hP hD hS hA [3] (he_is [0, 1, 2] [(aI g sm 25 f), (aM g wa 6 (he_ro 6 r2)), (aI g to_ 25 tl), (oX11 m0 0 ta sz_ pl at_ fa fw cs fd rfm rt_ to_ rw_ wa ct rk rb cn br sm as_ go sh_ ir oa ob th ig sp_ ki tg of_ kp sf rs)] (he_pl g L ln M)) rfl (he_ixP rfl) (he_ndP rfl rfl) (he_disN (by decide) rfl) (fun r_13 u_14 H locs h_15 hP hD hS => ?_)
        have hP := va_P.swap hP
        have hD := va_D.swap hD
        subst h_15
        have hP : va_P g.1 vwCl ([(aI g sm 25 f), (aM g wa 6 (he_ro 6 r2)), (aI g to_ 25 tl), (oX11 m0 0 ta sz_ pl at_ fa fw cs fd rfm rt_ to_ rw_ wa ct rk rb cn br sm as_ go sh_ ir oa ob th ig sp_ ki tg of_ kp sf rs)] ++ he_pl g L ln M) H := hP
        have hD : va_D A ([(aI g sm 25 f), (aM g wa 6 (he_ro 6 r2)), (aI g to_ 25 tl), (oX11 m0 0 ta sz_ pl at_ fa fw cs fd rfm rt_ to_ rw_ wa ct rk rb cn br sm as_ go sh_ ir oa ob th ig sp_ ki tg of_ kp sf rs)] ++ he_pl g L ln M) := hD
        refine lv_if_eq (tgt := 52) hx hb dX11_wall_47 (by decide) (fun c_16 => ?_) (fun c_16 => ?_)
        · refine lv_iload_n hx hb dX11_wall_52 rfl (lv_at hl 2 rfl) ?_
          refine lv_if_ne (tgt := 67) hx hb dX11_wall_53 (by decide) (fun c_17 => ?_) (fun c_17 => ?_)
          · refine lv_iload_n hx hb dX11_wall_67 rfl (lv_at hl 2 rfl) ?_
            refine lv_iconst (v := 1) hx hb dX11_wall_68 (by decide) ?_
            refine lv_icmp_ne (tgt := 84) hx hb dX11_wall_69 (by decide) (fun c_18 => ?_) (fun c_18 => ?_)
            · refine lv_iload_n hx hb dX11_wall_84 rfl (lv_at hl 2 rfl) ?_
              refine lv_iconst (v := 2) hx hb dX11_wall_85 (by decide) ?_
              refine lv_icmp_ne (tgt := 100) hx hb dX11_wall_86 (by decide) (fun c_19 => ?_) (fun c_19 => ?_)
              · exact absurd (by decide) c_19
              · refine lv_aload_n hx hb dX11_wall_89 rfl (lv_at hl 0 rfl) ?_
                refine va_get (v := .ref wa) (T := TX11) (N := 35) hx hb hts inX11 hown hK hP 3 rfl rfl 13 (by decide) f31 (fun _ h9 => h9) rfl dX11_wall_90 ?_
                refine lv_iload_n hx hb dX11_wall_93 rfl (lv_at hl 1 rfl) ?_
                refine he_aldm hx hb hK hP 1 rfl (j) rfl (by first | assumption | decide | omega) (by decide) dX11_wall_94 ?_
                refine lv_iconst (v := 1) hx hb dX11_wall_95 (by decide) ?_
                refine he_pald hx hb hK hP (F_r2 j (by first | assumption | decide | omega)).1 (1) (by decide) (by rw [(F_r2 j (by first | assumption | decide | omega)).2.1]; exact (by decide)) (by rw [(F_r2 j (by first | assumption | decide | omega)).2.1]; decide) (M (r2 j) 1) rfl dX11_wall_96 ?_
                refine lv_goto (tgt := 109) hx hb dX11_wall_97 (by decide) ?_
                have hP := he_Psub (X := [(aI g sm 25 f), (aM g wa 6 (he_ro 6 r2)), (aI g to_ 25 tl), (oX11 m0 0 ta sz_ pl at_ fa fw cs fd rfm rt_ to_ rw_ wa ct rk rb cn br sm as_ go sh_ ir oa ob th ig sp_ ki tg of_ kp sf rs)]) (X2 := [(oX11 m0 0 ta sz_ pl at_ fa fw cs fd rfm rt_ to_ rw_ wa ct rk rb cn br sm as_ go sh_ ir oa ob th ig sp_ ki tg of_ kp sf rs), (aI g to_ 25 tl), (aI g sm 25 f), (aM g wa 6 (he_ro 6 r2))]) (P := (he_pl g L ln M)) hP [3, 2, 0, 1] rfl
                have hD := he_Dsub (X := [(aI g sm 25 f), (aM g wa 6 (he_ro 6 r2)), (aI g to_ 25 tl), (oX11 m0 0 ta sz_ pl at_ fa fw cs fd rfm rt_ to_ rw_ wa ct rk rb cn br sm as_ go sh_ ir oa ob th ig sp_ ki tg of_ kp sf rs)]) (X2 := [(oX11 m0 0 ta sz_ pl at_ fa fw cs fd rfm rt_ to_ rw_ wa ct rk rb cn br sm as_ go sh_ ir oa ob th ig sp_ ki tg of_ kp sf rs), (aI g to_ 25 tl), (aI g sm 25 f), (aM g wa 6 (he_ro 6 r2))]) (P := (he_pl g L ln M)) hD [3, 2, 0, 1] rfl rfl rfl
                exact he_ri hQ hx hb hr hlk hP hD hS dX11_wall_109 (Nat.le_of_ble_eq_true rfl) (Nat.le_of_ble_eq_true rfl) (()) (rfl) (rfl)
            · exact absurd c_18 (by decide)
          · exact absurd c_17 (by decide)
        · exact absurd (by decide) c_16
      · exact absurd c_12 (by decide)
  · exact absurd c_4 (by decide)
set_option maxHeartbeats 4000000 in
set_option maxRecDepth 100000 in
theorem r_X11_wall3 (l : Launch) (g : he_G) (m0 : Nat) (fd : Nat) (rfm : Nat) (rt_ : Nat) (to_ : Nat) (rw_ : Nat) (wa : Nat) (rk : Nat) (rb : Nat) (cn : Nat) (br : Nat) (sm : Nat) (as_ : Nat) (go : Nat) (sh_ : Nat) (ki : Nat) (tg : Nat) (of_ : Nat) (kp : Nat) (rs : Nat) (ta : Int32) (sz_ : Int32) (pl : Int32) (at_ : Int32) (fa : Int32) (fw : Int32) (cs : Int32) (ct : Int32) (ir : Int32) (oa : Int32) (ob : Int32) (th : Int32) (ig : Int32) (sp_ : Int32) (sf : Int32) (tw : Int32) (tl : Nat → Int32) (f : Nat → Int32) (w : Nat) (j : Nat) (L : List Nat) (ln : Nat → Nat) (M : Nat → Nat → Int32) (r2 : Nat → Nat) (htl : tl 0 = nI w) (hw6 : w ≤ 6) (hj : j < w) (F_r2 : ∀ i, i < 6 → r2 i ∈ L ∧ ln (r2 i) = 2 ∧ True) : he_I l yX11_wall wsX11_wall 2 43 0 0 g [.ref m0, .int (nI j), .int 3] ([(oX11 m0 tw ta sz_ pl at_ fa fw cs fd rfm rt_ to_ rw_ wa ct rk rb cn br sm as_ go sh_ ir oa ob th ig sp_ ki tg of_ kp sf rs), (aI g to_ 25 tl), (aI g sm 25 f), (aM g wa 6 (he_ro 6 r2))] ++ he_pl g L ln M) (fun (r : Int32) (u : Unit) => r = f (18 + j)) (fun (u : Unit) => [(oX11 m0 0 ta sz_ pl at_ fa fw cs fd rfm rt_ to_ rw_ wa ct rk rb cn br sm as_ go sh_ ir oa ob th ig sp_ ki tg of_ kp sf rs), (aI g to_ 25 tl), (aI g sm 25 f), (aM g wa 6 (he_ro 6 r2))] ++ he_pl g L ln M) := by
  refine he_begin (l := l) (g := g) (y := yX11_wall) (wl := wsX11_wall) (fr := 2) (lo := 43) (mc := 0) (ms := 0) (av := [.ref m0, .int (nI j), .int 3]) (ws := ([(oX11 m0 tw ta sz_ pl at_ fa fw cs fd rfm rt_ to_ rw_ wa ct rk rb cn br sm as_ go sh_ ir oa ob th ig sp_ ki tg of_ kp sf rs), (aI g to_ 25 tl), (aI g sm 25 f), (aM g wa 6 (he_ro 6 r2))] ++ he_pl g L ln M)) (cc := cX11_wall) (maxL := 3) (ret := (some .int)) (fun A => va_Qi (fun (r : Int32) (u : Unit) => r = f (18 + j)) (fun u t => he_post g A ((fun (u : Unit) => [(oX11 m0 0 ta sz_ pl at_ fa fw cs fd rfm rt_ to_ rw_ wa ct rk rb cn br sm as_ go sh_ ir oa ob th ig sp_ ki tg of_ kp sf rs), (aI g to_ 25 tl), (aI g sm 25 f), (aM g wa 6 (he_ro 6 r2))] ++ he_pl g L ln M) u) t) A) (by decide) rfl (Nat.le_of_ble_eq_true rfl) ?_
  intro p e s m args below meth c A ls H locs Q hQ hB
  obtain ⟨hx, hb, hr, hml, hown, hts, hlk, hin, hP, hK, hD, hS, hA, hE, hl⟩ := hB
  have hl : lv_has ls 3 [(0, .ref m0), (1, .int (nI j)), (2, .int 3)] := hl
  have f85 := hts (.fieldLink RX11 85 "HiredEnemyModel" "thrown" "I") (iwoX11_wall (k := 0) rfl)
  have inX11 : ∀ w ∈ wsX110, w ∈ wsX11_wall := innX11_wall_X11
  have f46 := hts (.fieldLink RX11 46 "HiredEnemyModel" "s" "[I") (iwoX11_wall (k := 2) rfl)
  refine lv_aload_n hx hb dX11_wall_0 rfl (lv_at hl 0 rfl) ?_
  refine lv_iconst (v := 0) hx hb dX11_wall_1 (by decide) ?_
  refine va_put (v := .int 0) (ty := .int) (T := TX11) (N := 35) hx hb hts inX11 tyX11 tyX11_ok nmX11 hown hK hP hD hS 0 rfl rfl 0 (by decide) f85 (fun _ h9 => h9) rfl (by decide +kernel) rfl rfl (Nat.le_of_ble_eq_true rfl) dX11_wall_2 (fun H locs hP hD hS => ?_)
  have hP : va_P g.1 vwCl ([(oX11 m0 0 ta sz_ pl at_ fa fw cs fd rfm rt_ to_ rw_ wa ct rk rb cn br sm as_ go sh_ ir oa ob th ig sp_ ki tg of_ kp sf rs), (aI g to_ 25 tl), (aI g sm 25 f), (aM g wa 6 (he_ro 6 r2))] ++ he_pl g L ln M) H := hP
  have hD : va_D A ([(oX11 m0 0 ta sz_ pl at_ fa fw cs fd rfm rt_ to_ rw_ wa ct rk rb cn br sm as_ go sh_ ir oa ob th ig sp_ ki tg of_ kp sf rs), (aI g to_ 25 tl), (aI g sm 25 f), (aM g wa 6 (he_ro 6 r2))] ++ he_pl g L ln M) := hD
  refine lv_aload_n hx hb dX11_wall_5 rfl (lv_at hl 0 rfl) ?_
  refine lv_aload_n hx hb dX11_wall_6 rfl (lv_at hl 0 rfl) ?_
  refine lv_iload_n hx hb dX11_wall_7 rfl (lv_at hl 1 rfl) ?_
  refine he_ci (wc := [(oX11 m0 0 ta sz_ pl at_ fa fw cs fd rfm rt_ to_ rw_ wa ct rk rb cn br sm as_ go sh_ ir oa ob th ig sp_ ki tg of_ kp sf rs), (aI g to_ 25 tl)]) (wr := ([(aI g sm 25 f), (aM g wa 6 (he_ro 6 r2))] ++ (he_pl g L ln M))) (va_runV (As := [.int (nI j)]) (rest := [.ref m0]) ⟨hx, hb, hml, hown, hts⟩ (h_X11_isWall l g m0 fd rfm rt_ to_ rw_ wa rk rb cn br sm as_ go sh_ ki tg of_ kp rs ta sz_ pl at_ fa fw cs ct ir oa ob th ig sp_ sf 0 tl w (nI j) (by first | assumption | decide | omega) H.size) (cwV 1 hts gX11_wall_X11_isWall rfl rfl rfl (by decide +kernel) ⟨Nat.le_of_ble_eq_true rfl, Nat.le_of_ble_eq_true rfl⟩) (he_preV (wc := [(oX11 m0 0 ta sz_ pl at_ fa fw cs fd rfm rt_ to_ rw_ wa ct rk rb cn br sm as_ go sh_ ir oa ob th ig sp_ ki tg of_ kp sf rs), (aI g to_ 25 tl)]) hK hP hD hS hA hE [0, 1] rfl rfl 0 rfl rfl) rfl rfl hl.1 rfl (lv_room (Nat.le_of_ble_eq_true rfl)) dX11_wall_8 ⟨(Nat.le_of_ble_eq_true rfl), (Nat.le_of_ble_eq_true rfl)⟩) hP hD hS hA [0, 1] (he_is [2, 3] [(oX11 m0 0 ta sz_ pl at_ fa fw cs fd rfm rt_ to_ rw_ wa ct rk rb cn br sm as_ go sh_ ir oa ob th ig sp_ ki tg of_ kp sf rs), (aI g to_ 25 tl), (aI g sm 25 f), (aM g wa 6 (he_ro 6 r2))] (he_pl g L ln M)) rfl (he_ixP rfl) (he_ndP rfl rfl) (he_disN (by decide) rfl) (fun r_1 u_2 H locs h_3 hP hD hS => ?_)
  have hP := va_P.swap hP
  have hD := va_D.swap hD
  subst h_3
  have hP : va_P g.1 vwCl ([(aI g sm 25 f), (aM g wa 6 (he_ro 6 r2)), (oX11 m0 0 ta sz_ pl at_ fa fw cs fd rfm rt_ to_ rw_ wa ct rk rb cn br sm as_ go sh_ ir oa ob th ig sp_ ki tg of_ kp sf rs), (aI g to_ 25 tl)] ++ he_pl g L ln M) H := hP
  have hD : va_D A ([(aI g sm 25 f), (aM g wa 6 (he_ro 6 r2)), (oX11 m0 0 ta sz_ pl at_ fa fw cs fd rfm rt_ to_ rw_ wa ct rk rb cn br sm as_ go sh_ ir oa ob th ig sp_ ki tg of_ kp sf rs), (aI g to_ 25 tl)] ++ he_pl g L ln M) := hD
  refine he_top (1) (he_within_1 (wall_in hj (by omega))) ?_
  refine lv_if_ne (tgt := 18) hx hb dX11_wall_11 (by decide) (fun c_4 => ?_) (fun c_4 => ?_)
  · refine lv_iconst (v := 0) hx hb dX11_wall_18 (by decide) ?_
    refine lv_iconst (v := 1) hx hb dX11_wall_19 (by decide) ?_
    refine lv_iconst (v := 1) hx hb dX11_wall_20 (by decide) ?_
    refine he_ci (wc := [(oX11 m0 0 ta sz_ pl at_ fa fw cs fd rfm rt_ to_ rw_ wa ct rk rb cn br sm as_ go sh_ ir oa ob th ig sp_ ki tg of_ kp sf rs)]) (wr := ([(aI g sm 25 f), (aM g wa 6 (he_ro 6 r2)), (aI g to_ 25 tl)] ++ (he_pl g L ln M))) (va_runV (As := [.int 0, .int 1, .int 1]) (rest := []) ⟨hx, hb, hml, hown, hts⟩ (c_X11_bad0 l g m0 fd rfm rt_ to_ rw_ wa rk rb cn br sm as_ go sh_ ki tg of_ kp rs ta sz_ pl at_ fa fw cs ct ir oa ob th ig sp_ sf 1 1 H.size) (cwV 3 hts gX11_wall_X11_bad rfl rfl rfl (by decide +kernel) ⟨Nat.le_of_ble_eq_true rfl, Nat.le_of_ble_eq_true rfl⟩) (he_preV (wc := [(oX11 m0 0 ta sz_ pl at_ fa fw cs fd rfm rt_ to_ rw_ wa ct rk rb cn br sm as_ go sh_ ir oa ob th ig sp_ ki tg of_ kp sf rs)]) hK hP hD hS hA hE [2] rfl rfl 2 rfl rfl) rfl rfl hl.1 rfl (lv_room (Nat.le_of_ble_eq_true rfl)) dX11_wall_21 ⟨(Nat.le_of_ble_eq_true rfl), (Nat.le_of_ble_eq_true rfl)⟩) hP hD hS hA [2] (he_is [0, 1, 3] [(aI g sm 25 f), (aM g wa 6 (he_ro 6 r2)), (oX11 m0 0 ta sz_ pl at_ fa fw cs fd rfm rt_ to_ rw_ wa ct rk rb cn br sm as_ go sh_ ir oa ob th ig sp_ ki tg of_ kp sf rs), (aI g to_ 25 tl)] (he_pl g L ln M)) rfl (he_ixP rfl) (he_ndP rfl rfl) (he_disN (by decide) rfl) (fun r_5 u_6 H locs h_7 hP hD hS => ?_)
    have hP := va_P.swap hP
    have hD := va_D.swap hD
    subst h_7
    have hP : va_P g.1 vwCl ([(aI g sm 25 f), (aM g wa 6 (he_ro 6 r2)), (aI g to_ 25 tl), (oX11 m0 0 ta sz_ pl at_ fa fw cs fd rfm rt_ to_ rw_ wa ct rk rb cn br sm as_ go sh_ ir oa ob th ig sp_ ki tg of_ kp sf rs)] ++ he_pl g L ln M) H := hP
    have hD : va_D A ([(aI g sm 25 f), (aM g wa 6 (he_ro 6 r2)), (aI g to_ 25 tl), (oX11 m0 0 ta sz_ pl at_ fa fw cs fd rfm rt_ to_ rw_ wa ct rk rb cn br sm as_ go sh_ ir oa ob th ig sp_ ki tg of_ kp sf rs)] ++ he_pl g L ln M) := hD
    refine lv_if_ne (tgt := 50) hx hb dX11_wall_24 (by decide) (fun c_8 => ?_) (fun c_8 => ?_)
    · exact absurd (by decide) c_8
    · refine lv_aload_n hx hb dX11_wall_27 rfl (lv_at hl 0 rfl) ?_
      refine lv_iload_n hx hb dX11_wall_28 rfl (lv_at hl 2 rfl) ?_
      refine lv_iconst (v := 0) hx hb dX11_wall_29 (by decide) ?_
      refine lv_iconst (v := 3) hx hb dX11_wall_30 (by decide) ?_
      refine he_ci (wc := []) (wr := ([(aI g sm 25 f), (aM g wa 6 (he_ro 6 r2)), (aI g to_ 25 tl), (oX11 m0 0 ta sz_ pl at_ fa fw cs fd rfm rt_ to_ rw_ wa ct rk rb cn br sm as_ go sh_ ir oa ob th ig sp_ ki tg of_ kp sf rs)] ++ (he_pl g L ln M))) (va_runS (As := [.int 3, .int 0, .int 3]) (rest := [.ref m0]) ⟨hx, hb, hml, hown, hts⟩ (c_X11_in l g 3 0 3 H.size) (va_cwS 3 hts gX11_wall_X11_in rfl rfl rfl (by decide +kernel) ⟨Nat.le_of_ble_eq_true rfl, Nat.le_of_ble_eq_true rfl⟩) (he_preS (wc := []) hK hP hD hS hA hE [] rfl rfl) rfl rfl hl.1 rfl (lv_room (Nat.le_of_ble_eq_true rfl)) dX11_wall_31 ⟨(Nat.le_of_ble_eq_true rfl), (Nat.le_of_ble_eq_true rfl)⟩) hP hD hS hA [] (he_is [0, 1, 2, 3] [(aI g sm 25 f), (aM g wa 6 (he_ro 6 r2)), (aI g to_ 25 tl), (oX11 m0 0 ta sz_ pl at_ fa fw cs fd rfm rt_ to_ rw_ wa ct rk rb cn br sm as_ go sh_ ir oa ob th ig sp_ ki tg of_ kp sf rs)] (he_pl g L ln M)) rfl (he_ixP rfl) (he_ndP rfl rfl) (he_disN (by decide) rfl) (fun r_9 u_10 H locs h_11 hP hD hS => ?_)
      have hP := va_P.swap hP
      have hD := va_D.swap hD
      subst h_11
      have hP : va_P g.1 vwCl ([(aI g sm 25 f), (aM g wa 6 (he_ro 6 r2)), (aI g to_ 25 tl), (oX11 m0 0 ta sz_ pl at_ fa fw cs fd rfm rt_ to_ rw_ wa ct rk rb cn br sm as_ go sh_ ir oa ob th ig sp_ ki tg of_ kp sf rs)] ++ he_pl g L ln M) H := hP
      have hD : va_D A ([(aI g sm 25 f), (aM g wa 6 (he_ro 6 r2)), (aI g to_ 25 tl), (oX11 m0 0 ta sz_ pl at_ fa fw cs fd rfm rt_ to_ rw_ wa ct rk rb cn br sm as_ go sh_ ir oa ob th ig sp_ ki tg of_ kp sf rs)] ++ he_pl g L ln M) := hD
      refine he_top (1) (by decide) ?_
      refine lv_if_ne (tgt := 41) hx hb dX11_wall_34 (by decide) (fun c_12 => ?_) (fun c_12 => ?_)
      · refine lv_iconst (v := 0) hx hb dX11_wall_41 (by decide) ?_
        refine lv_iconst (v := 2) hx hb dX11_wall_42 (by decide) ?_
        refine lv_iconst (v := 2) hx hb dX11_wall_43 (by decide) ?_
        refine he_ci (wc := [(oX11 m0 0 ta sz_ pl at_ fa fw cs fd rfm rt_ to_ rw_ wa ct rk rb cn br sm as_ go sh_ ir oa ob th ig sp_ ki tg of_ kp sf rs)]) (wr := ([(aI g sm 25 f), (aM g wa 6 (he_ro 6 r2)), (aI g to_ 25 tl)] ++ (he_pl g L ln M))) (va_runV (As := [.int 0, .int 2, .int 2]) (rest := []) ⟨hx, hb, hml, hown, hts⟩ (c_X11_bad0 l g m0 fd rfm rt_ to_ rw_ wa rk rb cn br sm as_ go sh_ ki tg of_ kp rs ta sz_ pl at_ fa fw cs ct ir oa ob th ig sp_ sf 2 2 H.size) (cwV 3 hts gX11_wall_X11_bad rfl rfl rfl (by decide +kernel) ⟨Nat.le_of_ble_eq_true rfl, Nat.le_of_ble_eq_true rfl⟩) (he_preV (wc := [(oX11 m0 0 ta sz_ pl at_ fa fw cs fd rfm rt_ to_ rw_ wa ct rk rb cn br sm as_ go sh_ ir oa ob th ig sp_ ki tg of_ kp sf rs)]) hK hP hD hS hA hE [3] rfl rfl 3 rfl rfl) rfl rfl hl.1 rfl (lv_room (Nat.le_of_ble_eq_true rfl)) dX11_wall_44 ⟨(Nat.le_of_ble_eq_true rfl), (Nat.le_of_ble_eq_true rfl)⟩) hP hD hS hA [3] (he_is [0, 1, 2] [(aI g sm 25 f), (aM g wa 6 (he_ro 6 r2)), (aI g to_ 25 tl), (oX11 m0 0 ta sz_ pl at_ fa fw cs fd rfm rt_ to_ rw_ wa ct rk rb cn br sm as_ go sh_ ir oa ob th ig sp_ ki tg of_ kp sf rs)] (he_pl g L ln M)) rfl (he_ixP rfl) (he_ndP rfl rfl) (he_disN (by decide) rfl) (fun r_13 u_14 H locs h_15 hP hD hS => ?_)
        have hP := va_P.swap hP
        have hD := va_D.swap hD
        subst h_15
        have hP : va_P g.1 vwCl ([(aI g sm 25 f), (aM g wa 6 (he_ro 6 r2)), (aI g to_ 25 tl), (oX11 m0 0 ta sz_ pl at_ fa fw cs fd rfm rt_ to_ rw_ wa ct rk rb cn br sm as_ go sh_ ir oa ob th ig sp_ ki tg of_ kp sf rs)] ++ he_pl g L ln M) H := hP
        have hD : va_D A ([(aI g sm 25 f), (aM g wa 6 (he_ro 6 r2)), (aI g to_ 25 tl), (oX11 m0 0 ta sz_ pl at_ fa fw cs fd rfm rt_ to_ rw_ wa ct rk rb cn br sm as_ go sh_ ir oa ob th ig sp_ ki tg of_ kp sf rs)] ++ he_pl g L ln M) := hD
        refine lv_if_eq (tgt := 52) hx hb dX11_wall_47 (by decide) (fun c_16 => ?_) (fun c_16 => ?_)
        · refine lv_iload_n hx hb dX11_wall_52 rfl (lv_at hl 2 rfl) ?_
          refine lv_if_ne (tgt := 67) hx hb dX11_wall_53 (by decide) (fun c_17 => ?_) (fun c_17 => ?_)
          · refine lv_iload_n hx hb dX11_wall_67 rfl (lv_at hl 2 rfl) ?_
            refine lv_iconst (v := 1) hx hb dX11_wall_68 (by decide) ?_
            refine lv_icmp_ne (tgt := 84) hx hb dX11_wall_69 (by decide) (fun c_18 => ?_) (fun c_18 => ?_)
            · refine lv_iload_n hx hb dX11_wall_84 rfl (lv_at hl 2 rfl) ?_
              refine lv_iconst (v := 2) hx hb dX11_wall_85 (by decide) ?_
              refine lv_icmp_ne (tgt := 100) hx hb dX11_wall_86 (by decide) (fun c_19 => ?_) (fun c_19 => ?_)
              · refine lv_aload_n hx hb dX11_wall_100 rfl (lv_at hl 0 rfl) ?_
                refine va_get (v := .ref sm) (T := TX11) (N := 35) hx hb hts inX11 hown hK hP 3 rfl rfl 19 (by decide) f46 (fun _ h9 => h9) rfl dX11_wall_101 ?_
                refine lv_bipush (v := 18) hx hb dX11_wall_104 (by decide) ?_
                refine lv_iload_n hx hb dX11_wall_106 rfl (lv_at hl 1 rfl) ?_
                refine lv_iadd hx hb dX11_wall_107 ?_
                refine he_top (nI (18 + j)) (nI_add 18 j) ?_
                refine he_iald hx hb hK hP 0 rfl (18 + j) rfl (by first | assumption | decide | omega) (by first | decide | assumption) (f (18 + j)) rfl dX11_wall_108 ?_
                have hP := he_Psub (X := [(aI g sm 25 f), (aM g wa 6 (he_ro 6 r2)), (aI g to_ 25 tl), (oX11 m0 0 ta sz_ pl at_ fa fw cs fd rfm rt_ to_ rw_ wa ct rk rb cn br sm as_ go sh_ ir oa ob th ig sp_ ki tg of_ kp sf rs)]) (X2 := [(oX11 m0 0 ta sz_ pl at_ fa fw cs fd rfm rt_ to_ rw_ wa ct rk rb cn br sm as_ go sh_ ir oa ob th ig sp_ ki tg of_ kp sf rs), (aI g to_ 25 tl), (aI g sm 25 f), (aM g wa 6 (he_ro 6 r2))]) (P := (he_pl g L ln M)) hP [3, 2, 0, 1] rfl
                have hD := he_Dsub (X := [(aI g sm 25 f), (aM g wa 6 (he_ro 6 r2)), (aI g to_ 25 tl), (oX11 m0 0 ta sz_ pl at_ fa fw cs fd rfm rt_ to_ rw_ wa ct rk rb cn br sm as_ go sh_ ir oa ob th ig sp_ ki tg of_ kp sf rs)]) (X2 := [(oX11 m0 0 ta sz_ pl at_ fa fw cs fd rfm rt_ to_ rw_ wa ct rk rb cn br sm as_ go sh_ ir oa ob th ig sp_ ki tg of_ kp sf rs), (aI g to_ 25 tl), (aI g sm 25 f), (aM g wa 6 (he_ro 6 r2))]) (P := (he_pl g L ln M)) hD [3, 2, 0, 1] rfl rfl rfl
                exact he_ri hQ hx hb hr hlk hP hD hS dX11_wall_109 (Nat.le_of_ble_eq_true rfl) (Nat.le_of_ble_eq_true rfl) (()) (rfl) (rfl)
              · exact absurd c_19 (by decide)
            · exact absurd c_18 (by decide)
          · exact absurd c_17 (by decide)
        · exact absurd (by decide) c_16
      · exact absurd c_12 (by decide)
  · exact absurd c_4 (by decide)
set_option maxHeartbeats 4000000 in
set_option maxRecDepth 100000 in
theorem r_X11_rule (l : Launch) (g : he_G) (m0 : Nat) (fd : Nat) (rfm : Nat) (rt_ : Nat) (to_ : Nat) (rw_ : Nat) (wa : Nat) (rk : Nat) (rb : Nat) (cn : Nat) (br : Nat) (sm : Nat) (as_ : Nat) (go : Nat) (sh_ : Nat) (ki : Nat) (tg : Nat) (of_ : Nat) (kp : Nat) (rs : Nat) (ta : Int32) (sz_ : Int32) (pl : Int32) (at_ : Int32) (fa : Int32) (fw : Int32) (cs : Int32) (ir : Int32) (oa : Int32) (ob : Int32) (th : Int32) (ig : Int32) (sp_ : Int32) (sf : Int32) (tw : Int32) (nt : Nat) (L : List Nat) (ln : Nat → Nat) (M : Nat → Nat → Int32) (r3 : Nat → Nat) (ci : Nat) (k : Nat) (hci : ci < nt) (hnt : nt ≤ 6) (hk : k ≤ 6) (F_r3 : ∀ i, i < 7 → r3 i ∈ L ∧ ln (r3 i) = 7 ∧ True) : he_I l yX11_rule wsX11_rule 2 43 0 0 g [.ref m0, .int (nI ci), .int (nI k)] ([(oX11 m0 tw ta sz_ pl at_ fa fw cs fd rfm rt_ to_ rw_ wa (nI nt) rk rb cn br sm as_ go sh_ ir oa ob th ig sp_ ki tg of_ kp sf rs), (aM g cn 7 (he_ro 7 r3))] ++ he_pl g L ln M) (fun (r : Int32) (u : Unit) => r = M (r3 ci) k) (fun (u : Unit) => [(oX11 m0 0 ta sz_ pl at_ fa fw cs fd rfm rt_ to_ rw_ wa (nI nt) rk rb cn br sm as_ go sh_ ir oa ob th ig sp_ ki tg of_ kp sf rs), (aM g cn 7 (he_ro 7 r3))] ++ he_pl g L ln M) := by
  refine he_begin (l := l) (g := g) (y := yX11_rule) (wl := wsX11_rule) (fr := 2) (lo := 43) (mc := 0) (ms := 0) (av := [.ref m0, .int (nI ci), .int (nI k)]) (ws := ([(oX11 m0 tw ta sz_ pl at_ fa fw cs fd rfm rt_ to_ rw_ wa (nI nt) rk rb cn br sm as_ go sh_ ir oa ob th ig sp_ ki tg of_ kp sf rs), (aM g cn 7 (he_ro 7 r3))] ++ he_pl g L ln M)) (cc := cX11_rule) (maxL := 3) (ret := (some .int)) (fun A => va_Qi (fun (r : Int32) (u : Unit) => r = M (r3 ci) k) (fun u t => he_post g A ((fun (u : Unit) => [(oX11 m0 0 ta sz_ pl at_ fa fw cs fd rfm rt_ to_ rw_ wa (nI nt) rk rb cn br sm as_ go sh_ ir oa ob th ig sp_ ki tg of_ kp sf rs), (aM g cn 7 (he_ro 7 r3))] ++ he_pl g L ln M) u) t) A) (by decide) rfl (Nat.le_of_ble_eq_true rfl) ?_
  intro p e s m args below meth c A ls H locs Q hQ hB
  obtain ⟨hx, hb, hr, hml, hown, hts, hlk, hin, hP, hK, hD, hS, hA, hE, hl⟩ := hB
  have hl : lv_has ls 3 [(0, .ref m0), (1, .int (nI ci)), (2, .int (nI k))] := hl
  have f85 := hts (.fieldLink RX11 85 "HiredEnemyModel" "thrown" "I") (iwoX11_rule (k := 0) rfl)
  have inX11 : ∀ w ∈ wsX110, w ∈ wsX11_rule := innX11_rule_X11
  have f40 := hts (.fieldLink RX11 40 "HiredEnemyModel" "contract" "[[I") (iwoX11_rule (k := 1) rfl)
  refine lv_aload_n hx hb dX11_rule_0 rfl (lv_at hl 0 rfl) ?_
  refine lv_iconst (v := 0) hx hb dX11_rule_1 (by decide) ?_
  refine va_put (v := .int 0) (ty := .int) (T := TX11) (N := 35) hx hb hts inX11 tyX11 tyX11_ok nmX11 hown hK hP hD hS 0 rfl rfl 0 (by decide) f85 (fun _ h9 => h9) rfl (by decide +kernel) rfl rfl (Nat.le_of_ble_eq_true rfl) dX11_rule_2 (fun H locs hP hD hS => ?_)
  have hP : va_P g.1 vwCl ([(oX11 m0 0 ta sz_ pl at_ fa fw cs fd rfm rt_ to_ rw_ wa (nI nt) rk rb cn br sm as_ go sh_ ir oa ob th ig sp_ ki tg of_ kp sf rs), (aM g cn 7 (he_ro 7 r3))] ++ he_pl g L ln M) H := hP
  have hD : va_D A ([(oX11 m0 0 ta sz_ pl at_ fa fw cs fd rfm rt_ to_ rw_ wa (nI nt) rk rb cn br sm as_ go sh_ ir oa ob th ig sp_ ki tg of_ kp sf rs), (aM g cn 7 (he_ro 7 r3))] ++ he_pl g L ln M) := hD
  refine lv_aload_n hx hb dX11_rule_5 rfl (lv_at hl 0 rfl) ?_
  refine lv_aload_n hx hb dX11_rule_6 rfl (lv_at hl 0 rfl) ?_
  refine lv_iload_n hx hb dX11_rule_7 rfl (lv_at hl 1 rfl) ?_
  refine he_ci (wc := [(oX11 m0 0 ta sz_ pl at_ fa fw cs fd rfm rt_ to_ rw_ wa (nI nt) rk rb cn br sm as_ go sh_ ir oa ob th ig sp_ ki tg of_ kp sf rs)]) (wr := ([(aM g cn 7 (he_ro 7 r3))] ++ (he_pl g L ln M))) (va_runV (As := [.int (nI ci)]) (rest := [.ref m0]) ⟨hx, hb, hml, hown, hts⟩ (h_X11_isContract l g m0 fd rfm rt_ to_ rw_ wa rk rb cn br sm as_ go sh_ ki tg of_ kp rs ta sz_ pl at_ fa fw cs (nI nt) ir oa ob th ig sp_ sf 0 (nI ci) H.size) (cwV 1 hts gX11_rule_X11_isContract rfl rfl rfl (by decide +kernel) ⟨Nat.le_of_ble_eq_true rfl, Nat.le_of_ble_eq_true rfl⟩) (he_preV (wc := [(oX11 m0 0 ta sz_ pl at_ fa fw cs fd rfm rt_ to_ rw_ wa (nI nt) rk rb cn br sm as_ go sh_ ir oa ob th ig sp_ ki tg of_ kp sf rs)]) hK hP hD hS hA hE [0] rfl rfl 0 rfl rfl) rfl rfl hl.1 rfl (lv_room (Nat.le_of_ble_eq_true rfl)) dX11_rule_8 ⟨(Nat.le_of_ble_eq_true rfl), (Nat.le_of_ble_eq_true rfl)⟩) hP hD hS hA [0] (he_is [1] [(oX11 m0 0 ta sz_ pl at_ fa fw cs fd rfm rt_ to_ rw_ wa (nI nt) rk rb cn br sm as_ go sh_ ir oa ob th ig sp_ ki tg of_ kp sf rs), (aM g cn 7 (he_ro 7 r3))] (he_pl g L ln M)) rfl (he_ixP rfl) (he_ndP rfl rfl) (he_disN (by decide) rfl) (fun r_1 u_2 H locs h_3 hP hD hS => ?_)
  have hP := va_P.swap hP
  have hD := va_D.swap hD
  subst h_3
  have hP : va_P g.1 vwCl ([(aM g cn 7 (he_ro 7 r3)), (oX11 m0 0 ta sz_ pl at_ fa fw cs fd rfm rt_ to_ rw_ wa (nI nt) rk rb cn br sm as_ go sh_ ir oa ob th ig sp_ ki tg of_ kp sf rs)] ++ he_pl g L ln M) H := hP
  have hD : va_D A ([(aM g cn 7 (he_ro 7 r3)), (oX11 m0 0 ta sz_ pl at_ fa fw cs fd rfm rt_ to_ rw_ wa (nI nt) rk rb cn br sm as_ go sh_ ir oa ob th ig sp_ ki tg of_ kp sf rs)] ++ he_pl g L ln M) := hD
  refine he_top (1) (he_within_1 (wall_in hci (by omega))) ?_
  refine lv_if_ne (tgt := 18) hx hb dX11_rule_11 (by decide) (fun c_4 => ?_) (fun c_4 => ?_)
  · refine lv_iconst (v := 0) hx hb dX11_rule_18 (by decide) ?_
    refine lv_iconst (v := 1) hx hb dX11_rule_19 (by decide) ?_
    refine lv_iconst (v := 0) hx hb dX11_rule_20 (by decide) ?_
    refine he_ci (wc := [(oX11 m0 0 ta sz_ pl at_ fa fw cs fd rfm rt_ to_ rw_ wa (nI nt) rk rb cn br sm as_ go sh_ ir oa ob th ig sp_ ki tg of_ kp sf rs)]) (wr := ([(aM g cn 7 (he_ro 7 r3))] ++ (he_pl g L ln M))) (va_runV (As := [.int 0, .int 1, .int 0]) (rest := []) ⟨hx, hb, hml, hown, hts⟩ (c_X11_bad0 l g m0 fd rfm rt_ to_ rw_ wa rk rb cn br sm as_ go sh_ ki tg of_ kp rs ta sz_ pl at_ fa fw cs (nI nt) ir oa ob th ig sp_ sf 1 0 H.size) (cwV 3 hts gX11_rule_X11_bad rfl rfl rfl (by decide +kernel) ⟨Nat.le_of_ble_eq_true rfl, Nat.le_of_ble_eq_true rfl⟩) (he_preV (wc := [(oX11 m0 0 ta sz_ pl at_ fa fw cs fd rfm rt_ to_ rw_ wa (nI nt) rk rb cn br sm as_ go sh_ ir oa ob th ig sp_ ki tg of_ kp sf rs)]) hK hP hD hS hA hE [1] rfl rfl 1 rfl rfl) rfl rfl hl.1 rfl (lv_room (Nat.le_of_ble_eq_true rfl)) dX11_rule_21 ⟨(Nat.le_of_ble_eq_true rfl), (Nat.le_of_ble_eq_true rfl)⟩) hP hD hS hA [1] (he_is [0] [(aM g cn 7 (he_ro 7 r3)), (oX11 m0 0 ta sz_ pl at_ fa fw cs fd rfm rt_ to_ rw_ wa (nI nt) rk rb cn br sm as_ go sh_ ir oa ob th ig sp_ ki tg of_ kp sf rs)] (he_pl g L ln M)) rfl (he_ixP rfl) (he_ndP rfl rfl) (he_disN (by decide) rfl) (fun r_5 u_6 H locs h_7 hP hD hS => ?_)
    have hP := va_P.swap hP
    have hD := va_D.swap hD
    subst h_7
    have hP : va_P g.1 vwCl ([(aM g cn 7 (he_ro 7 r3)), (oX11 m0 0 ta sz_ pl at_ fa fw cs fd rfm rt_ to_ rw_ wa (nI nt) rk rb cn br sm as_ go sh_ ir oa ob th ig sp_ ki tg of_ kp sf rs)] ++ he_pl g L ln M) H := hP
    have hD : va_D A ([(aM g cn 7 (he_ro 7 r3)), (oX11 m0 0 ta sz_ pl at_ fa fw cs fd rfm rt_ to_ rw_ wa (nI nt) rk rb cn br sm as_ go sh_ ir oa ob th ig sp_ ki tg of_ kp sf rs)] ++ he_pl g L ln M) := hD
    refine lv_if_ne (tgt := 51) hx hb dX11_rule_24 (by decide) (fun c_8 => ?_) (fun c_8 => ?_)
    · exact absurd (by decide) c_8
    · refine lv_aload_n hx hb dX11_rule_27 rfl (lv_at hl 0 rfl) ?_
      refine lv_iload_n hx hb dX11_rule_28 rfl (lv_at hl 2 rfl) ?_
      refine lv_iconst (v := 0) hx hb dX11_rule_29 (by decide) ?_
      refine lv_bipush (v := 6) hx hb dX11_rule_30 (by decide) ?_
      refine he_ci (wc := []) (wr := ([(aM g cn 7 (he_ro 7 r3)), (oX11 m0 0 ta sz_ pl at_ fa fw cs fd rfm rt_ to_ rw_ wa (nI nt) rk rb cn br sm as_ go sh_ ir oa ob th ig sp_ ki tg of_ kp sf rs)] ++ (he_pl g L ln M))) (va_runS (As := [.int (nI k), .int 0, .int 6]) (rest := [.ref m0]) ⟨hx, hb, hml, hown, hts⟩ (c_X11_in l g (nI k) 0 6 H.size) (va_cwS 3 hts gX11_rule_X11_in rfl rfl rfl (by decide +kernel) ⟨Nat.le_of_ble_eq_true rfl, Nat.le_of_ble_eq_true rfl⟩) (he_preS (wc := []) hK hP hD hS hA hE [] rfl rfl) rfl rfl hl.1 rfl (lv_room (Nat.le_of_ble_eq_true rfl)) dX11_rule_32 ⟨(Nat.le_of_ble_eq_true rfl), (Nat.le_of_ble_eq_true rfl)⟩) hP hD hS hA [] (he_is [0, 1] [(aM g cn 7 (he_ro 7 r3)), (oX11 m0 0 ta sz_ pl at_ fa fw cs fd rfm rt_ to_ rw_ wa (nI nt) rk rb cn br sm as_ go sh_ ir oa ob th ig sp_ ki tg of_ kp sf rs)] (he_pl g L ln M)) rfl (he_ixP rfl) (he_ndP rfl rfl) (he_disN (by decide) rfl) (fun r_9 u_10 H locs h_11 hP hD hS => ?_)
      have hP := va_P.swap hP
      have hD := va_D.swap hD
      subst h_11
      have hP : va_P g.1 vwCl ([(aM g cn 7 (he_ro 7 r3)), (oX11 m0 0 ta sz_ pl at_ fa fw cs fd rfm rt_ to_ rw_ wa (nI nt) rk rb cn br sm as_ go sh_ ir oa ob th ig sp_ ki tg of_ kp sf rs)] ++ he_pl g L ln M) H := hP
      have hD : va_D A ([(aM g cn 7 (he_ro 7 r3)), (oX11 m0 0 ta sz_ pl at_ fa fw cs fd rfm rt_ to_ rw_ wa (nI nt) rk rb cn br sm as_ go sh_ ir oa ob th ig sp_ ki tg of_ kp sf rs)] ++ he_pl g L ln M) := hD
      refine he_top (1) (he_within_in (a0 := 0) (B := 6) rfl rfl (by omega) (by omega) (by decide)) ?_
      refine lv_if_ne (tgt := 42) hx hb dX11_rule_35 (by decide) (fun c_12 => ?_) (fun c_12 => ?_)
      · refine lv_iconst (v := 0) hx hb dX11_rule_42 (by decide) ?_
        refine lv_iconst (v := 2) hx hb dX11_rule_43 (by decide) ?_
        refine lv_iconst (v := 2) hx hb dX11_rule_44 (by decide) ?_
        refine he_ci (wc := [(oX11 m0 0 ta sz_ pl at_ fa fw cs fd rfm rt_ to_ rw_ wa (nI nt) rk rb cn br sm as_ go sh_ ir oa ob th ig sp_ ki tg of_ kp sf rs)]) (wr := ([(aM g cn 7 (he_ro 7 r3))] ++ (he_pl g L ln M))) (va_runV (As := [.int 0, .int 2, .int 2]) (rest := []) ⟨hx, hb, hml, hown, hts⟩ (c_X11_bad0 l g m0 fd rfm rt_ to_ rw_ wa rk rb cn br sm as_ go sh_ ki tg of_ kp rs ta sz_ pl at_ fa fw cs (nI nt) ir oa ob th ig sp_ sf 2 2 H.size) (cwV 3 hts gX11_rule_X11_bad rfl rfl rfl (by decide +kernel) ⟨Nat.le_of_ble_eq_true rfl, Nat.le_of_ble_eq_true rfl⟩) (he_preV (wc := [(oX11 m0 0 ta sz_ pl at_ fa fw cs fd rfm rt_ to_ rw_ wa (nI nt) rk rb cn br sm as_ go sh_ ir oa ob th ig sp_ ki tg of_ kp sf rs)]) hK hP hD hS hA hE [1] rfl rfl 1 rfl rfl) rfl rfl hl.1 rfl (lv_room (Nat.le_of_ble_eq_true rfl)) dX11_rule_45 ⟨(Nat.le_of_ble_eq_true rfl), (Nat.le_of_ble_eq_true rfl)⟩) hP hD hS hA [1] (he_is [0] [(aM g cn 7 (he_ro 7 r3)), (oX11 m0 0 ta sz_ pl at_ fa fw cs fd rfm rt_ to_ rw_ wa (nI nt) rk rb cn br sm as_ go sh_ ir oa ob th ig sp_ ki tg of_ kp sf rs)] (he_pl g L ln M)) rfl (he_ixP rfl) (he_ndP rfl rfl) (he_disN (by decide) rfl) (fun r_13 u_14 H locs h_15 hP hD hS => ?_)
        have hP := va_P.swap hP
        have hD := va_D.swap hD
        subst h_15
        have hP : va_P g.1 vwCl ([(aM g cn 7 (he_ro 7 r3)), (oX11 m0 0 ta sz_ pl at_ fa fw cs fd rfm rt_ to_ rw_ wa (nI nt) rk rb cn br sm as_ go sh_ ir oa ob th ig sp_ ki tg of_ kp sf rs)] ++ he_pl g L ln M) H := hP
        have hD : va_D A ([(aM g cn 7 (he_ro 7 r3)), (oX11 m0 0 ta sz_ pl at_ fa fw cs fd rfm rt_ to_ rw_ wa (nI nt) rk rb cn br sm as_ go sh_ ir oa ob th ig sp_ ki tg of_ kp sf rs)] ++ he_pl g L ln M) := hD
        refine lv_if_eq (tgt := 53) hx hb dX11_rule_48 (by decide) (fun c_16 => ?_) (fun c_16 => ?_)
        · refine lv_aload_n hx hb dX11_rule_53 rfl (lv_at hl 0 rfl) ?_
          refine va_get (v := .ref cn) (T := TX11) (N := 35) hx hb hts inX11 hown hK hP 1 rfl rfl 17 (by decide) f40 (fun _ h9 => h9) rfl dX11_rule_54 ?_
          refine lv_iload_n hx hb dX11_rule_57 rfl (lv_at hl 1 rfl) ?_
          refine he_aldm hx hb hK hP 0 rfl (ci) rfl (by first | assumption | decide | omega) (by decide) dX11_rule_58 ?_
          refine lv_iload_n hx hb dX11_rule_59 rfl (lv_at hl 2 rfl) ?_
          refine he_pald hx hb hK hP (F_r3 ci (by first | assumption | decide | omega)).1 (k) rfl (by rw [(F_r3 ci (by first | assumption | decide | omega)).2.1]; exact (by first | assumption | decide | omega)) (by rw [(F_r3 ci (by first | assumption | decide | omega)).2.1]; decide) (M (r3 ci) k) rfl dX11_rule_60 ?_
          have hP := he_Psub (X := [(aM g cn 7 (he_ro 7 r3)), (oX11 m0 0 ta sz_ pl at_ fa fw cs fd rfm rt_ to_ rw_ wa (nI nt) rk rb cn br sm as_ go sh_ ir oa ob th ig sp_ ki tg of_ kp sf rs)]) (X2 := [(oX11 m0 0 ta sz_ pl at_ fa fw cs fd rfm rt_ to_ rw_ wa (nI nt) rk rb cn br sm as_ go sh_ ir oa ob th ig sp_ ki tg of_ kp sf rs), (aM g cn 7 (he_ro 7 r3))]) (P := (he_pl g L ln M)) hP [1, 0] rfl
          have hD := he_Dsub (X := [(aM g cn 7 (he_ro 7 r3)), (oX11 m0 0 ta sz_ pl at_ fa fw cs fd rfm rt_ to_ rw_ wa (nI nt) rk rb cn br sm as_ go sh_ ir oa ob th ig sp_ ki tg of_ kp sf rs)]) (X2 := [(oX11 m0 0 ta sz_ pl at_ fa fw cs fd rfm rt_ to_ rw_ wa (nI nt) rk rb cn br sm as_ go sh_ ir oa ob th ig sp_ ki tg of_ kp sf rs), (aM g cn 7 (he_ro 7 r3))]) (P := (he_pl g L ln M)) hD [1, 0] rfl rfl rfl
          exact he_ri hQ hx hb hr hlk hP hD hS dX11_rule_61 (Nat.le_of_ble_eq_true rfl) (Nat.le_of_ble_eq_true rfl) (()) (rfl) (rfl)
        · exact absurd (by decide) c_16
      · exact absurd c_12 (by decide)
  · exact absurd c_4 (by decide)
set_option maxHeartbeats 4000000 in
set_option maxRecDepth 100000 in
theorem r_X11_corks (l : Launch) (g : he_G) (m0 : Nat) (fd : Nat) (rfm : Nat) (rt_ : Nat) (to_ : Nat) (rw_ : Nat) (wa : Nat) (rk : Nat) (rb : Nat) (cn : Nat) (br : Nat) (sm : Nat) (as_ : Nat) (go : Nat) (sh_ : Nat) (ki : Nat) (tg : Nat) (of_ : Nat) (kp : Nat) (rs : Nat) (ta : Int32) (sz_ : Int32) (pl : Int32) (at_ : Int32) (fa : Int32) (fw : Int32) (cs : Int32) (ct : Int32) (ir : Int32) (oa : Int32) (ob : Int32) (th : Int32) (ig : Int32) (sp_ : Int32) (sf : Int32) (tw : Int32) (tl : Nat → Int32) (f : Nat → Int32) (w : Nat) (i : Nat) (j : Nat) (mm : Nat) (L : List Nat) (ln : Nat → Nat) (M : Nat → Nat → Int32) (r6 : Nat → Nat) (htl : tl 0 = nI w) (hw6 : w ≤ 6) (hj : j < w) (hi : i ≤ 119) (h24 : f 24 = nI mm) (hm : mm ≤ 120) (F_r6 : ∀ i, i < 120 → r6 i ∈ L ∧ ln (r6 i) = 6 ∧ True) : he_I l yX11_corks wsX11_corks 2 43 0 0 g [.ref m0, .int (nI i), .int (nI j)] ([(oX11 m0 tw ta sz_ pl at_ fa fw cs fd rfm rt_ to_ rw_ wa ct rk rb cn br sm as_ go sh_ ir oa ob th ig sp_ ki tg of_ kp sf rs), (aI g to_ 25 tl), (aI g sm 25 f), (aM g sh_ 120 (he_ro 120 r6))] ++ he_pl g L ln M) (fun (r : Int32) (u : Unit) => r = if i < mm then M (r6 i) j else 0) (fun (u : Unit) => [(oX11 m0 0 ta sz_ pl at_ fa fw cs fd rfm rt_ to_ rw_ wa ct rk rb cn br sm as_ go sh_ ir oa ob th ig sp_ ki tg of_ kp sf rs), (aI g to_ 25 tl), (aI g sm 25 f), (aM g sh_ 120 (he_ro 120 r6))] ++ he_pl g L ln M) := by
  refine he_begin (l := l) (g := g) (y := yX11_corks) (wl := wsX11_corks) (fr := 2) (lo := 43) (mc := 0) (ms := 0) (av := [.ref m0, .int (nI i), .int (nI j)]) (ws := ([(oX11 m0 tw ta sz_ pl at_ fa fw cs fd rfm rt_ to_ rw_ wa ct rk rb cn br sm as_ go sh_ ir oa ob th ig sp_ ki tg of_ kp sf rs), (aI g to_ 25 tl), (aI g sm 25 f), (aM g sh_ 120 (he_ro 120 r6))] ++ he_pl g L ln M)) (cc := cX11_corks) (maxL := 3) (ret := (some .int)) (fun A => va_Qi (fun (r : Int32) (u : Unit) => r = if i < mm then M (r6 i) j else 0) (fun u t => he_post g A ((fun (u : Unit) => [(oX11 m0 0 ta sz_ pl at_ fa fw cs fd rfm rt_ to_ rw_ wa ct rk rb cn br sm as_ go sh_ ir oa ob th ig sp_ ki tg of_ kp sf rs), (aI g to_ 25 tl), (aI g sm 25 f), (aM g sh_ 120 (he_ro 120 r6))] ++ he_pl g L ln M) u) t) A) (by decide) rfl (Nat.le_of_ble_eq_true rfl) ?_
  intro p e s m args below meth c A ls H locs Q hQ hB
  obtain ⟨hx, hb, hr, hml, hown, hts, hlk, hin, hP, hK, hD, hS, hA, hE, hl⟩ := hB
  have hl : lv_has ls 3 [(0, .ref m0), (1, .int (nI i)), (2, .int (nI j))] := hl
  have f85 := hts (.fieldLink RX11 85 "HiredEnemyModel" "thrown" "I") (iwoX11_corks (k := 0) rfl)
  have inX11 : ∀ w ∈ wsX110, w ∈ wsX11_corks := innX11_corks_X11
  have f46 := hts (.fieldLink RX11 46 "HiredEnemyModel" "s" "[I") (iwoX11_corks (k := 1) rfl)
  have f55 := hts (.fieldLink RX11 55 "HiredEnemyModel" "shot" "[[I") (iwoX11_corks (k := 2) rfl)
  refine lv_aload_n hx hb dX11_corks_0 rfl (lv_at hl 0 rfl) ?_
  refine lv_iconst (v := 0) hx hb dX11_corks_1 (by decide) ?_
  refine va_put (v := .int 0) (ty := .int) (T := TX11) (N := 35) hx hb hts inX11 tyX11 tyX11_ok nmX11 hown hK hP hD hS 0 rfl rfl 0 (by decide) f85 (fun _ h9 => h9) rfl (by decide +kernel) rfl rfl (Nat.le_of_ble_eq_true rfl) dX11_corks_2 (fun H locs hP hD hS => ?_)
  have hP : va_P g.1 vwCl ([(oX11 m0 0 ta sz_ pl at_ fa fw cs fd rfm rt_ to_ rw_ wa ct rk rb cn br sm as_ go sh_ ir oa ob th ig sp_ ki tg of_ kp sf rs), (aI g to_ 25 tl), (aI g sm 25 f), (aM g sh_ 120 (he_ro 120 r6))] ++ he_pl g L ln M) H := hP
  have hD : va_D A ([(oX11 m0 0 ta sz_ pl at_ fa fw cs fd rfm rt_ to_ rw_ wa ct rk rb cn br sm as_ go sh_ ir oa ob th ig sp_ ki tg of_ kp sf rs), (aI g to_ 25 tl), (aI g sm 25 f), (aM g sh_ 120 (he_ro 120 r6))] ++ he_pl g L ln M) := hD
  refine lv_aload_n hx hb dX11_corks_5 rfl (lv_at hl 0 rfl) ?_
  refine lv_aload_n hx hb dX11_corks_6 rfl (lv_at hl 0 rfl) ?_
  refine lv_iload_n hx hb dX11_corks_7 rfl (lv_at hl 2 rfl) ?_
  refine he_ci (wc := [(oX11 m0 0 ta sz_ pl at_ fa fw cs fd rfm rt_ to_ rw_ wa ct rk rb cn br sm as_ go sh_ ir oa ob th ig sp_ ki tg of_ kp sf rs), (aI g to_ 25 tl)]) (wr := ([(aI g sm 25 f), (aM g sh_ 120 (he_ro 120 r6))] ++ (he_pl g L ln M))) (va_runV (As := [.int (nI j)]) (rest := [.ref m0]) ⟨hx, hb, hml, hown, hts⟩ (h_X11_isWall l g m0 fd rfm rt_ to_ rw_ wa rk rb cn br sm as_ go sh_ ki tg of_ kp rs ta sz_ pl at_ fa fw cs ct ir oa ob th ig sp_ sf 0 tl w (nI j) (by first | assumption | decide | omega) H.size) (cwV 1 hts gX11_corks_X11_isWall rfl rfl rfl (by decide +kernel) ⟨Nat.le_of_ble_eq_true rfl, Nat.le_of_ble_eq_true rfl⟩) (he_preV (wc := [(oX11 m0 0 ta sz_ pl at_ fa fw cs fd rfm rt_ to_ rw_ wa ct rk rb cn br sm as_ go sh_ ir oa ob th ig sp_ ki tg of_ kp sf rs), (aI g to_ 25 tl)]) hK hP hD hS hA hE [0, 1] rfl rfl 0 rfl rfl) rfl rfl hl.1 rfl (lv_room (Nat.le_of_ble_eq_true rfl)) dX11_corks_8 ⟨(Nat.le_of_ble_eq_true rfl), (Nat.le_of_ble_eq_true rfl)⟩) hP hD hS hA [0, 1] (he_is [2, 3] [(oX11 m0 0 ta sz_ pl at_ fa fw cs fd rfm rt_ to_ rw_ wa ct rk rb cn br sm as_ go sh_ ir oa ob th ig sp_ ki tg of_ kp sf rs), (aI g to_ 25 tl), (aI g sm 25 f), (aM g sh_ 120 (he_ro 120 r6))] (he_pl g L ln M)) rfl (he_ixP rfl) (he_ndP rfl rfl) (he_disN (by decide) rfl) (fun r_1 u_2 H locs h_3 hP hD hS => ?_)
  have hP := va_P.swap hP
  have hD := va_D.swap hD
  subst h_3
  have hP : va_P g.1 vwCl ([(aI g sm 25 f), (aM g sh_ 120 (he_ro 120 r6)), (oX11 m0 0 ta sz_ pl at_ fa fw cs fd rfm rt_ to_ rw_ wa ct rk rb cn br sm as_ go sh_ ir oa ob th ig sp_ ki tg of_ kp sf rs), (aI g to_ 25 tl)] ++ he_pl g L ln M) H := hP
  have hD : va_D A ([(aI g sm 25 f), (aM g sh_ 120 (he_ro 120 r6)), (oX11 m0 0 ta sz_ pl at_ fa fw cs fd rfm rt_ to_ rw_ wa ct rk rb cn br sm as_ go sh_ ir oa ob th ig sp_ ki tg of_ kp sf rs), (aI g to_ 25 tl)] ++ he_pl g L ln M) := hD
  refine he_top (1) (he_within_1 (wall_in hj (by omega))) ?_
  refine lv_if_ne (tgt := 18) hx hb dX11_corks_11 (by decide) (fun c_4 => ?_) (fun c_4 => ?_)
  · refine lv_iconst (v := 0) hx hb dX11_corks_18 (by decide) ?_
    refine lv_iconst (v := 1) hx hb dX11_corks_19 (by decide) ?_
    refine lv_iconst (v := 1) hx hb dX11_corks_20 (by decide) ?_
    refine he_ci (wc := [(oX11 m0 0 ta sz_ pl at_ fa fw cs fd rfm rt_ to_ rw_ wa ct rk rb cn br sm as_ go sh_ ir oa ob th ig sp_ ki tg of_ kp sf rs)]) (wr := ([(aI g sm 25 f), (aM g sh_ 120 (he_ro 120 r6)), (aI g to_ 25 tl)] ++ (he_pl g L ln M))) (va_runV (As := [.int 0, .int 1, .int 1]) (rest := []) ⟨hx, hb, hml, hown, hts⟩ (c_X11_bad0 l g m0 fd rfm rt_ to_ rw_ wa rk rb cn br sm as_ go sh_ ki tg of_ kp rs ta sz_ pl at_ fa fw cs ct ir oa ob th ig sp_ sf 1 1 H.size) (cwV 3 hts gX11_corks_X11_bad rfl rfl rfl (by decide +kernel) ⟨Nat.le_of_ble_eq_true rfl, Nat.le_of_ble_eq_true rfl⟩) (he_preV (wc := [(oX11 m0 0 ta sz_ pl at_ fa fw cs fd rfm rt_ to_ rw_ wa ct rk rb cn br sm as_ go sh_ ir oa ob th ig sp_ ki tg of_ kp sf rs)]) hK hP hD hS hA hE [2] rfl rfl 2 rfl rfl) rfl rfl hl.1 rfl (lv_room (Nat.le_of_ble_eq_true rfl)) dX11_corks_21 ⟨(Nat.le_of_ble_eq_true rfl), (Nat.le_of_ble_eq_true rfl)⟩) hP hD hS hA [2] (he_is [0, 1, 3] [(aI g sm 25 f), (aM g sh_ 120 (he_ro 120 r6)), (oX11 m0 0 ta sz_ pl at_ fa fw cs fd rfm rt_ to_ rw_ wa ct rk rb cn br sm as_ go sh_ ir oa ob th ig sp_ ki tg of_ kp sf rs), (aI g to_ 25 tl)] (he_pl g L ln M)) rfl (he_ixP rfl) (he_ndP rfl rfl) (he_disN (by decide) rfl) (fun r_5 u_6 H locs h_7 hP hD hS => ?_)
    have hP := va_P.swap hP
    have hD := va_D.swap hD
    subst h_7
    have hP : va_P g.1 vwCl ([(aI g sm 25 f), (aM g sh_ 120 (he_ro 120 r6)), (aI g to_ 25 tl), (oX11 m0 0 ta sz_ pl at_ fa fw cs fd rfm rt_ to_ rw_ wa ct rk rb cn br sm as_ go sh_ ir oa ob th ig sp_ ki tg of_ kp sf rs)] ++ he_pl g L ln M) H := hP
    have hD : va_D A ([(aI g sm 25 f), (aM g sh_ 120 (he_ro 120 r6)), (aI g to_ 25 tl), (oX11 m0 0 ta sz_ pl at_ fa fw cs fd rfm rt_ to_ rw_ wa ct rk rb cn br sm as_ go sh_ ir oa ob th ig sp_ ki tg of_ kp sf rs)] ++ he_pl g L ln M) := hD
    refine lv_if_ne (tgt := 51) hx hb dX11_corks_24 (by decide) (fun c_8 => ?_) (fun c_8 => ?_)
    · exact absurd (by decide) c_8
    · refine lv_aload_n hx hb dX11_corks_27 rfl (lv_at hl 0 rfl) ?_
      refine lv_iload_n hx hb dX11_corks_28 rfl (lv_at hl 1 rfl) ?_
      refine lv_iconst (v := 0) hx hb dX11_corks_29 (by decide) ?_
      refine lv_bipush (v := 119) hx hb dX11_corks_30 (by decide) ?_
      refine he_ci (wc := []) (wr := ([(aI g sm 25 f), (aM g sh_ 120 (he_ro 120 r6)), (aI g to_ 25 tl), (oX11 m0 0 ta sz_ pl at_ fa fw cs fd rfm rt_ to_ rw_ wa ct rk rb cn br sm as_ go sh_ ir oa ob th ig sp_ ki tg of_ kp sf rs)] ++ (he_pl g L ln M))) (va_runS (As := [.int (nI i), .int 0, .int 119]) (rest := [.ref m0]) ⟨hx, hb, hml, hown, hts⟩ (c_X11_in l g (nI i) 0 119 H.size) (va_cwS 3 hts gX11_corks_X11_in rfl rfl rfl (by decide +kernel) ⟨Nat.le_of_ble_eq_true rfl, Nat.le_of_ble_eq_true rfl⟩) (he_preS (wc := []) hK hP hD hS hA hE [] rfl rfl) rfl rfl hl.1 rfl (lv_room (Nat.le_of_ble_eq_true rfl)) dX11_corks_32 ⟨(Nat.le_of_ble_eq_true rfl), (Nat.le_of_ble_eq_true rfl)⟩) hP hD hS hA [] (he_is [0, 1, 2, 3] [(aI g sm 25 f), (aM g sh_ 120 (he_ro 120 r6)), (aI g to_ 25 tl), (oX11 m0 0 ta sz_ pl at_ fa fw cs fd rfm rt_ to_ rw_ wa ct rk rb cn br sm as_ go sh_ ir oa ob th ig sp_ ki tg of_ kp sf rs)] (he_pl g L ln M)) rfl (he_ixP rfl) (he_ndP rfl rfl) (he_disN (by decide) rfl) (fun r_9 u_10 H locs h_11 hP hD hS => ?_)
      have hP := va_P.swap hP
      have hD := va_D.swap hD
      subst h_11
      have hP : va_P g.1 vwCl ([(aI g sm 25 f), (aM g sh_ 120 (he_ro 120 r6)), (aI g to_ 25 tl), (oX11 m0 0 ta sz_ pl at_ fa fw cs fd rfm rt_ to_ rw_ wa ct rk rb cn br sm as_ go sh_ ir oa ob th ig sp_ ki tg of_ kp sf rs)] ++ he_pl g L ln M) H := hP
      have hD : va_D A ([(aI g sm 25 f), (aM g sh_ 120 (he_ro 120 r6)), (aI g to_ 25 tl), (oX11 m0 0 ta sz_ pl at_ fa fw cs fd rfm rt_ to_ rw_ wa ct rk rb cn br sm as_ go sh_ ir oa ob th ig sp_ ki tg of_ kp sf rs)] ++ he_pl g L ln M) := hD
      refine he_top (1) (he_within_in (a0 := 0) (B := 119) rfl rfl (by omega) (by omega) (by decide)) ?_
      refine lv_if_ne (tgt := 42) hx hb dX11_corks_35 (by decide) (fun c_12 => ?_) (fun c_12 => ?_)
      · refine lv_iconst (v := 0) hx hb dX11_corks_42 (by decide) ?_
        refine lv_iconst (v := 2) hx hb dX11_corks_43 (by decide) ?_
        refine lv_iconst (v := 2) hx hb dX11_corks_44 (by decide) ?_
        refine he_ci (wc := [(oX11 m0 0 ta sz_ pl at_ fa fw cs fd rfm rt_ to_ rw_ wa ct rk rb cn br sm as_ go sh_ ir oa ob th ig sp_ ki tg of_ kp sf rs)]) (wr := ([(aI g sm 25 f), (aM g sh_ 120 (he_ro 120 r6)), (aI g to_ 25 tl)] ++ (he_pl g L ln M))) (va_runV (As := [.int 0, .int 2, .int 2]) (rest := []) ⟨hx, hb, hml, hown, hts⟩ (c_X11_bad0 l g m0 fd rfm rt_ to_ rw_ wa rk rb cn br sm as_ go sh_ ki tg of_ kp rs ta sz_ pl at_ fa fw cs ct ir oa ob th ig sp_ sf 2 2 H.size) (cwV 3 hts gX11_corks_X11_bad rfl rfl rfl (by decide +kernel) ⟨Nat.le_of_ble_eq_true rfl, Nat.le_of_ble_eq_true rfl⟩) (he_preV (wc := [(oX11 m0 0 ta sz_ pl at_ fa fw cs fd rfm rt_ to_ rw_ wa ct rk rb cn br sm as_ go sh_ ir oa ob th ig sp_ ki tg of_ kp sf rs)]) hK hP hD hS hA hE [3] rfl rfl 3 rfl rfl) rfl rfl hl.1 rfl (lv_room (Nat.le_of_ble_eq_true rfl)) dX11_corks_45 ⟨(Nat.le_of_ble_eq_true rfl), (Nat.le_of_ble_eq_true rfl)⟩) hP hD hS hA [3] (he_is [0, 1, 2] [(aI g sm 25 f), (aM g sh_ 120 (he_ro 120 r6)), (aI g to_ 25 tl), (oX11 m0 0 ta sz_ pl at_ fa fw cs fd rfm rt_ to_ rw_ wa ct rk rb cn br sm as_ go sh_ ir oa ob th ig sp_ ki tg of_ kp sf rs)] (he_pl g L ln M)) rfl (he_ixP rfl) (he_ndP rfl rfl) (he_disN (by decide) rfl) (fun r_13 u_14 H locs h_15 hP hD hS => ?_)
        have hP := va_P.swap hP
        have hD := va_D.swap hD
        subst h_15
        have hP : va_P g.1 vwCl ([(aI g sm 25 f), (aM g sh_ 120 (he_ro 120 r6)), (aI g to_ 25 tl), (oX11 m0 0 ta sz_ pl at_ fa fw cs fd rfm rt_ to_ rw_ wa ct rk rb cn br sm as_ go sh_ ir oa ob th ig sp_ ki tg of_ kp sf rs)] ++ he_pl g L ln M) H := hP
        have hD : va_D A ([(aI g sm 25 f), (aM g sh_ 120 (he_ro 120 r6)), (aI g to_ 25 tl), (oX11 m0 0 ta sz_ pl at_ fa fw cs fd rfm rt_ to_ rw_ wa ct rk rb cn br sm as_ go sh_ ir oa ob th ig sp_ ki tg of_ kp sf rs)] ++ he_pl g L ln M) := hD
        refine lv_if_eq (tgt := 53) hx hb dX11_corks_48 (by decide) (fun c_16 => ?_) (fun c_16 => ?_)
        · refine lv_iload_n hx hb dX11_corks_53 rfl (lv_at hl 1 rfl) ?_
          refine lv_aload_n hx hb dX11_corks_54 rfl (lv_at hl 0 rfl) ?_
          refine va_get (v := .ref sm) (T := TX11) (N := 35) hx hb hts inX11 hown hK hP 3 rfl rfl 19 (by decide) f46 (fun _ h9 => h9) rfl dX11_corks_55 ?_
          refine lv_bipush (v := 24) hx hb dX11_corks_58 (by decide) ?_
          refine he_iald hx hb hK hP 0 rfl (24) (by decide) (by decide) (by first | decide | assumption) (nI mm) h24 dX11_corks_60 ?_
          refine lv_icmp_ge (tgt := 75) hx hb dX11_corks_61 (by decide) (fun c_17 => ?_) (fun c_17 => ?_)
          · have k_18 : mm ≤ i := (he_cle (a := mm) (b := i) rfl rfl (by omega) (by omega)).mp c_17
            refine lv_iconst (v := 0) hx hb dX11_corks_75 (by decide) ?_
            have hP := he_Psub (X := [(aI g sm 25 f), (aM g sh_ 120 (he_ro 120 r6)), (aI g to_ 25 tl), (oX11 m0 0 ta sz_ pl at_ fa fw cs fd rfm rt_ to_ rw_ wa ct rk rb cn br sm as_ go sh_ ir oa ob th ig sp_ ki tg of_ kp sf rs)]) (X2 := [(oX11 m0 0 ta sz_ pl at_ fa fw cs fd rfm rt_ to_ rw_ wa ct rk rb cn br sm as_ go sh_ ir oa ob th ig sp_ ki tg of_ kp sf rs), (aI g to_ 25 tl), (aI g sm 25 f), (aM g sh_ 120 (he_ro 120 r6))]) (P := (he_pl g L ln M)) hP [3, 2, 0, 1] rfl
            have hD := he_Dsub (X := [(aI g sm 25 f), (aM g sh_ 120 (he_ro 120 r6)), (aI g to_ 25 tl), (oX11 m0 0 ta sz_ pl at_ fa fw cs fd rfm rt_ to_ rw_ wa ct rk rb cn br sm as_ go sh_ ir oa ob th ig sp_ ki tg of_ kp sf rs)]) (X2 := [(oX11 m0 0 ta sz_ pl at_ fa fw cs fd rfm rt_ to_ rw_ wa ct rk rb cn br sm as_ go sh_ ir oa ob th ig sp_ ki tg of_ kp sf rs), (aI g to_ 25 tl), (aI g sm 25 f), (aM g sh_ 120 (he_ro 120 r6))]) (P := (he_pl g L ln M)) hD [3, 2, 0, 1] rfl rfl rfl
            exact he_ri hQ hx hb hr hlk hP hD hS dX11_corks_76 (Nat.le_of_ble_eq_true rfl) (Nat.le_of_ble_eq_true rfl) (()) (rfl) ((by rw [if_neg (by omega)]))
          · have k_19 : ¬ (mm ≤ i) := fun h9 => c_17 ((he_cle (a := mm) (b := i) rfl rfl (by omega) (by omega)).mpr h9)
            refine lv_aload_n hx hb dX11_corks_64 rfl (lv_at hl 0 rfl) ?_
            refine va_get (v := .ref sh_) (T := TX11) (N := 35) hx hb hts inX11 hown hK hP 3 rfl rfl 22 (by decide) f55 (fun _ h9 => h9) rfl dX11_corks_65 ?_
            refine lv_iload_n hx hb dX11_corks_68 rfl (lv_at hl 1 rfl) ?_
            refine he_aldm hx hb hK hP 1 rfl (i) rfl (by first | assumption | decide | omega) (by decide) dX11_corks_69 ?_
            refine lv_iload_n hx hb dX11_corks_70 rfl (lv_at hl 2 rfl) ?_
            refine he_pald hx hb hK hP (F_r6 i (by first | assumption | decide | omega)).1 (j) rfl (by rw [(F_r6 i (by first | assumption | decide | omega)).2.1]; exact (by first | assumption | decide | omega)) (by rw [(F_r6 i (by first | assumption | decide | omega)).2.1]; decide) (M (r6 i) j) rfl dX11_corks_71 ?_
            refine lv_goto (tgt := 76) hx hb dX11_corks_72 (by decide) ?_
            have hP := he_Psub (X := [(aI g sm 25 f), (aM g sh_ 120 (he_ro 120 r6)), (aI g to_ 25 tl), (oX11 m0 0 ta sz_ pl at_ fa fw cs fd rfm rt_ to_ rw_ wa ct rk rb cn br sm as_ go sh_ ir oa ob th ig sp_ ki tg of_ kp sf rs)]) (X2 := [(oX11 m0 0 ta sz_ pl at_ fa fw cs fd rfm rt_ to_ rw_ wa ct rk rb cn br sm as_ go sh_ ir oa ob th ig sp_ ki tg of_ kp sf rs), (aI g to_ 25 tl), (aI g sm 25 f), (aM g sh_ 120 (he_ro 120 r6))]) (P := (he_pl g L ln M)) hP [3, 2, 0, 1] rfl
            have hD := he_Dsub (X := [(aI g sm 25 f), (aM g sh_ 120 (he_ro 120 r6)), (aI g to_ 25 tl), (oX11 m0 0 ta sz_ pl at_ fa fw cs fd rfm rt_ to_ rw_ wa ct rk rb cn br sm as_ go sh_ ir oa ob th ig sp_ ki tg of_ kp sf rs)]) (X2 := [(oX11 m0 0 ta sz_ pl at_ fa fw cs fd rfm rt_ to_ rw_ wa ct rk rb cn br sm as_ go sh_ ir oa ob th ig sp_ ki tg of_ kp sf rs), (aI g to_ 25 tl), (aI g sm 25 f), (aM g sh_ 120 (he_ro 120 r6))]) (P := (he_pl g L ln M)) hD [3, 2, 0, 1] rfl rfl rfl
            exact he_ri hQ hx hb hr hlk hP hD hS dX11_corks_76 (Nat.le_of_ble_eq_true rfl) (Nat.le_of_ble_eq_true rfl) (()) (rfl) ((by rw [if_pos (by omega)]))
        · exact absurd (by decide) c_16
      · exact absurd c_12 (by decide)
  · exact absurd c_4 (by decide)
set_option maxHeartbeats 4000000 in
set_option maxRecDepth 100000 in
theorem r_X11_nearest (l : Launch) (g : he_G) (m0 : Nat) (fd : Nat) (rfm : Nat) (rt_ : Nat) (to_ : Nat) (rw_ : Nat) (wa : Nat) (rk : Nat) (rb : Nat) (cn : Nat) (br : Nat) (sm : Nat) (as_ : Nat) (go : Nat) (sh_ : Nat) (ki : Nat) (tg : Nat) (of_ : Nat) (kp : Nat) (rs : Nat) (ta : Int32) (sz_ : Int32) (pl : Int32) (at_ : Int32) (fa : Int32) (fw : Int32) (cs : Int32) (ct : Int32) (ir : Int32) (oa : Int32) (ob : Int32) (th : Int32) (ig : Int32) (sp_ : Int32) (sf : Int32) (tw : Int32) (tl : Nat → Int32) (x : Int32) (y : Int32) (hok0 : ¬ he_within x 0 9999 = 0) (hok1 : ¬ he_within y 0 99 = 0) : he_I l yX11_nearest wsX11_nearest 1 23 0 0 g [.ref m0, .int x, .int y] [(oX11 m0 tw ta sz_ pl at_ fa fw cs fd rfm rt_ to_ rw_ wa ct rk rb cn br sm as_ go sh_ ir oa ob th ig sp_ ki tg of_ kp sf rs), (aI g to_ 25 tl)] (fun (r : Int32) (u : Unit) => r = neR tl x y 10 0) (fun (u : Unit) => [(oX11 m0 0 ta sz_ pl at_ fa fw cs fd rfm rt_ to_ rw_ wa ct rk rb cn br sm as_ go sh_ ir oa ob th ig sp_ ki tg of_ kp sf rs), (aI g to_ 25 tl)]) := by
  refine he_begin (l := l) (g := g) (y := yX11_nearest) (wl := wsX11_nearest) (fr := 1) (lo := 23) (mc := 0) (ms := 0) (av := [.ref m0, .int x, .int y]) (ws := [(oX11 m0 tw ta sz_ pl at_ fa fw cs fd rfm rt_ to_ rw_ wa ct rk rb cn br sm as_ go sh_ ir oa ob th ig sp_ ki tg of_ kp sf rs), (aI g to_ 25 tl)]) (cc := cX11_nearest) (maxL := 4) (ret := (some .int)) (fun A => va_Qi (fun (r : Int32) (u : Unit) => r = neR tl x y 10 0) (fun u t => he_post g A ((fun (u : Unit) => [(oX11 m0 0 ta sz_ pl at_ fa fw cs fd rfm rt_ to_ rw_ wa ct rk rb cn br sm as_ go sh_ ir oa ob th ig sp_ ki tg of_ kp sf rs), (aI g to_ 25 tl)]) u) t) A) (by decide) rfl (Nat.le_of_ble_eq_true rfl) ?_
  intro p e s m args below meth c A ls H locs Q hQ hB
  obtain ⟨hx, hb, hr, hml, hown, hts, hlk, hin, hP, hK, hD, hS, hA, hE, hl⟩ := hB
  have hl : lv_has ls 4 [(0, .ref m0), (1, .int x), (2, .int y)] := hl
  have f85 := hts (.fieldLink RX11 85 "HiredEnemyModel" "thrown" "I") (iwoX11_nearest (k := 0) rfl)
  have inX11 : ∀ w ∈ wsX110, w ∈ wsX11_nearest := innX11_nearest_X11
  refine lv_aload_n hx hb dX11_nearest_0 rfl (lv_at hl 0 rfl) ?_
  refine lv_iconst (v := 0) hx hb dX11_nearest_1 (by decide) ?_
  refine va_put (v := .int 0) (ty := .int) (T := TX11) (N := 35) hx hb hts inX11 tyX11 tyX11_ok nmX11 hown hK hP hD hS 0 rfl rfl 0 (by decide) f85 (fun _ h9 => h9) rfl (by decide +kernel) rfl rfl (Nat.le_of_ble_eq_true rfl) dX11_nearest_2 (fun H locs hP hD hS => ?_)
  have hP : va_P g.1 vwCl [(oX11 m0 0 ta sz_ pl at_ fa fw cs fd rfm rt_ to_ rw_ wa ct rk rb cn br sm as_ go sh_ ir oa ob th ig sp_ ki tg of_ kp sf rs), (aI g to_ 25 tl)] H := hP
  have hD : va_D A [(oX11 m0 0 ta sz_ pl at_ fa fw cs fd rfm rt_ to_ rw_ wa ct rk rb cn br sm as_ go sh_ ir oa ob th ig sp_ ki tg of_ kp sf rs), (aI g to_ 25 tl)] := hD
  refine lv_aload_n hx hb dX11_nearest_5 rfl (lv_at hl 0 rfl) ?_
  refine lv_iload_n hx hb dX11_nearest_6 rfl (lv_at hl 1 rfl) ?_
  refine lv_iconst (v := 0) hx hb dX11_nearest_7 (by decide) ?_
  refine lv_sipush (v := 9999) hx hb dX11_nearest_8 (by decide) ?_
  refine he_ci (wc := []) (wr := [(oX11 m0 0 ta sz_ pl at_ fa fw cs fd rfm rt_ to_ rw_ wa ct rk rb cn br sm as_ go sh_ ir oa ob th ig sp_ ki tg of_ kp sf rs), (aI g to_ 25 tl)]) (va_runS (As := [.int x, .int 0, .int 9999]) (rest := [.ref m0]) ⟨hx, hb, hml, hown, hts⟩ (c_X11_in l g x 0 9999 H.size) (va_cwS 3 hts gX11_nearest_X11_in rfl rfl rfl (by decide +kernel) ⟨Nat.le_of_ble_eq_true rfl, Nat.le_of_ble_eq_true rfl⟩) (he_preS (wc := []) hK hP hD hS hA hE [] rfl rfl) rfl rfl hl.1 rfl (lv_room (Nat.le_of_ble_eq_true rfl)) dX11_nearest_11 ⟨(Nat.le_of_ble_eq_true rfl), (Nat.le_of_ble_eq_true rfl)⟩) hP hD hS hA [] [0, 1] rfl rfl rfl (by decide) (fun r_1 u_2 H locs h_3 hP hD hS => ?_)
  subst h_3
  have hP : va_P g.1 vwCl [(oX11 m0 0 ta sz_ pl at_ fa fw cs fd rfm rt_ to_ rw_ wa ct rk rb cn br sm as_ go sh_ ir oa ob th ig sp_ ki tg of_ kp sf rs), (aI g to_ 25 tl)] H := hP
  have hD : va_D A [(oX11 m0 0 ta sz_ pl at_ fa fw cs fd rfm rt_ to_ rw_ wa ct rk rb cn br sm as_ go sh_ ir oa ob th ig sp_ ki tg of_ kp sf rs), (aI g to_ 25 tl)] := hD
  refine he_top (1) (he_within_1 hok0) ?_
  refine lv_if_eq (tgt := 27) hx hb dX11_nearest_14 (by decide) (fun c_4 => ?_) (fun c_4 => ?_)
  · exact absurd c_4 (by decide)
  · refine lv_iload_n hx hb dX11_nearest_17 rfl (lv_at hl 2 rfl) ?_
    refine lv_iconst (v := 0) hx hb dX11_nearest_18 (by decide) ?_
    refine lv_bipush (v := 99) hx hb dX11_nearest_19 (by decide) ?_
    refine he_ci (wc := []) (wr := [(oX11 m0 0 ta sz_ pl at_ fa fw cs fd rfm rt_ to_ rw_ wa ct rk rb cn br sm as_ go sh_ ir oa ob th ig sp_ ki tg of_ kp sf rs), (aI g to_ 25 tl)]) (va_runS (As := [.int y, .int 0, .int 99]) (rest := [.ref m0]) ⟨hx, hb, hml, hown, hts⟩ (c_X11_in l g y 0 99 H.size) (va_cwS 3 hts gX11_nearest_X11_in rfl rfl rfl (by decide +kernel) ⟨Nat.le_of_ble_eq_true rfl, Nat.le_of_ble_eq_true rfl⟩) (he_preS (wc := []) hK hP hD hS hA hE [] rfl rfl) rfl rfl hl.1 rfl (lv_room (Nat.le_of_ble_eq_true rfl)) dX11_nearest_21 ⟨(Nat.le_of_ble_eq_true rfl), (Nat.le_of_ble_eq_true rfl)⟩) hP hD hS hA [] [0, 1] rfl rfl rfl (by decide) (fun r_5 u_6 H locs h_7 hP hD hS => ?_)
    subst h_7
    have hP : va_P g.1 vwCl [(oX11 m0 0 ta sz_ pl at_ fa fw cs fd rfm rt_ to_ rw_ wa ct rk rb cn br sm as_ go sh_ ir oa ob th ig sp_ ki tg of_ kp sf rs), (aI g to_ 25 tl)] H := hP
    have hD : va_D A [(oX11 m0 0 ta sz_ pl at_ fa fw cs fd rfm rt_ to_ rw_ wa ct rk rb cn br sm as_ go sh_ ir oa ob th ig sp_ ki tg of_ kp sf rs), (aI g to_ 25 tl)] := hD
    refine he_top (1) (he_within_1 hok1) ?_
    refine lv_if_ne (tgt := 31) hx hb dX11_nearest_24 (by decide) (fun c_8 => ?_) (fun c_8 => ?_)
    · refine lv_iconst (v := 0) hx hb dX11_nearest_31 (by decide) ?_
      refine lv_iconst (v := 1) hx hb dX11_nearest_32 (by decide) ?_
      refine lv_iconst (v := 2) hx hb dX11_nearest_33 (by decide) ?_
      refine he_ci (wc := [(oX11 m0 0 ta sz_ pl at_ fa fw cs fd rfm rt_ to_ rw_ wa ct rk rb cn br sm as_ go sh_ ir oa ob th ig sp_ ki tg of_ kp sf rs)]) (wr := [(aI g to_ 25 tl)]) (va_runV (As := [.int 0, .int 1, .int 2]) (rest := []) ⟨hx, hb, hml, hown, hts⟩ (c_X11_bad0 l g m0 fd rfm rt_ to_ rw_ wa rk rb cn br sm as_ go sh_ ki tg of_ kp rs ta sz_ pl at_ fa fw cs ct ir oa ob th ig sp_ sf 1 2 H.size) (cwV 3 hts gX11_nearest_X11_bad rfl rfl rfl (by decide +kernel) ⟨Nat.le_of_ble_eq_true rfl, Nat.le_of_ble_eq_true rfl⟩) (he_preV (wc := [(oX11 m0 0 ta sz_ pl at_ fa fw cs fd rfm rt_ to_ rw_ wa ct rk rb cn br sm as_ go sh_ ir oa ob th ig sp_ ki tg of_ kp sf rs)]) hK hP hD hS hA hE [0] rfl rfl 0 rfl rfl) rfl rfl hl.1 rfl (lv_room (Nat.le_of_ble_eq_true rfl)) dX11_nearest_34 ⟨(Nat.le_of_ble_eq_true rfl), (Nat.le_of_ble_eq_true rfl)⟩) hP hD hS hA [0] [1] rfl rfl rfl (by decide) (fun r_9 u_10 H locs h_11 hP hD hS => ?_)
      subst h_11
      have hP : va_P g.1 vwCl [(aI g to_ 25 tl), (oX11 m0 0 ta sz_ pl at_ fa fw cs fd rfm rt_ to_ rw_ wa ct rk rb cn br sm as_ go sh_ ir oa ob th ig sp_ ki tg of_ kp sf rs)] H := hP
      have hD : va_D A [(aI g to_ 25 tl), (oX11 m0 0 ta sz_ pl at_ fa fw cs fd rfm rt_ to_ rw_ wa ct rk rb cn br sm as_ go sh_ ir oa ob th ig sp_ ki tg of_ kp sf rs)] := hD
      refine lv_if_eq (tgt := 42) hx hb dX11_nearest_37 (by decide) (fun c_12 => ?_) (fun c_12 => ?_)
      · refine lv_iconst (v := 0) hx hb dX11_nearest_42 (by decide) ?_
        refine lv_istore_n (lv' := [(3, .int 0), (0, .ref m0), (1, .int x), (2, .int y)]) hx hb dX11_nearest_43 rfl hl (by decide) rfl (fun ls hl => ?_)
        have loop44 : ∀ (n9 : Nat) (j : Nat), 10 - j < n9 → (j ≤ 10) → (∀ f9, f9 + j = 10 → neR tl x y 10 0 = neR tl x y f9 j) → ∀ (H : Heap) (locs : List Loc) (ls : Array Slot), va_P g.1 vwCl [(oX11 m0 0 ta sz_ pl at_ fa fw cs fd rfm rt_ to_ rw_ wa ct rk rb cn br sm as_ go sh_ ir oa ob th ig sp_ ki tg of_ kp sf rs), (aI g to_ 25 tl)] H → va_D A [(oX11 m0 0 ta sz_ pl at_ fa fw cs fd rfm rt_ to_ rw_ wa ct rk rb cn br sm as_ go sh_ ir oa ob th ig sp_ ki tg of_ kp sf rs), (aI g to_ 25 tl)] → va_S A s.heap H locs → lv_has ls 4 [(0, .ref m0), (1, .int x), (2, .int y), (3, .int (nI j))] → W p l e (he_room 1 23 0 0) s m args below meth c H locs 0 0 Q (F0 m 44 ls []) := by
          intro n9
          induction n9 with
          | zero => intro j hm9; exact absurd hm9 (Nat.not_lt_zero _)
          | succ n9 ih44 =>
            intro j hm9 hj hnx H locs ls hP hD hS hl
            refine lv_iload_n hx hb dX11_nearest_44 rfl (lv_at hl 3 rfl) ?_
            refine lv_bipush (v := 10) hx hb dX11_nearest_45 (by decide) ?_
            refine lv_icmp_ge (tgt := 68) hx hb dX11_nearest_47 (by decide) (fun c_13 => ?_) (fun c_13 => ?_)
            · have k_14 : 10 ≤ j := (he_cle (a := 10) (b := j) (by decide) rfl (by omega) (by omega)).mp c_13
              refine lv_iconst (v := (-1)) hx hb dX11_nearest_68 (by decide) ?_
              exact he_ri hQ hx hb hr hlk hP hD hS dX11_nearest_69 (Nat.le_of_ble_eq_true rfl) (Nat.le_of_ble_eq_true rfl) (()) (rfl) ((by rw [hnx 0 (by omega)]; rfl))
            · have k_15 : ¬ (10 ≤ j) := fun h9 => c_13 ((he_cle (a := 10) (b := j) (by decide) rfl (by omega) (by omega)).mpr h9)
              refine lv_aload_n hx hb dX11_nearest_50 rfl (lv_at hl 0 rfl) ?_
              refine lv_iload_n hx hb dX11_nearest_51 rfl (lv_at hl 3 rfl) ?_
              refine lv_iload_n hx hb dX11_nearest_52 rfl (lv_at hl 2 rfl) ?_
              refine he_ci (wc := [(oX11 m0 0 ta sz_ pl at_ fa fw cs fd rfm rt_ to_ rw_ wa ct rk rb cn br sm as_ go sh_ ir oa ob th ig sp_ ki tg of_ kp sf rs), (aI g to_ 25 tl)]) (wr := []) (va_runV (As := [.int (nI j), .int y]) (rest := []) ⟨hx, hb, hml, hown, hts⟩ (c_X11_wantsFor l g m0 fd rfm rt_ to_ rw_ wa rk rb cn br sm as_ go sh_ ki tg of_ kp rs ta sz_ pl at_ fa fw cs ct ir oa ob th ig sp_ sf 0 tl (nI j) y H.size) (cwV 2 hts gX11_nearest_X11_wantsFor rfl rfl rfl (by decide +kernel) ⟨Nat.le_of_ble_eq_true rfl, Nat.le_of_ble_eq_true rfl⟩) (he_preV (wc := [(oX11 m0 0 ta sz_ pl at_ fa fw cs fd rfm rt_ to_ rw_ wa ct rk rb cn br sm as_ go sh_ ir oa ob th ig sp_ ki tg of_ kp sf rs), (aI g to_ 25 tl)]) hK hP hD hS hA hE [0, 1] rfl rfl 0 rfl rfl) rfl rfl hl.1 rfl (lv_room (Nat.le_of_ble_eq_true rfl)) dX11_nearest_53 ⟨(Nat.le_of_ble_eq_true rfl), (Nat.le_of_ble_eq_true rfl)⟩) hP hD hS hA [0, 1] [] rfl rfl rfl (by decide) (fun r_16 u_17 H locs h_18 hP hD hS => ?_)
              subst h_18
              have hP : va_P g.1 vwCl [(oX11 m0 0 ta sz_ pl at_ fa fw cs fd rfm rt_ to_ rw_ wa ct rk rb cn br sm as_ go sh_ ir oa ob th ig sp_ ki tg of_ kp sf rs), (aI g to_ 25 tl)] H := hP
              have hD : va_D A [(oX11 m0 0 ta sz_ pl at_ fa fw cs fd rfm rt_ to_ rw_ wa ct rk rb cn br sm as_ go sh_ ir oa ob th ig sp_ ki tg of_ kp sf rs), (aI g to_ 25 tl)] := hD
              refine lv_iload_n hx hb dX11_nearest_56 rfl (lv_at hl 1 rfl) ?_
              refine lv_icmp_gt (tgt := 62) hx hb dX11_nearest_57 (by decide) (fun c_19 => ?_) (fun c_19 => ?_)
              · refine lv_iinc (v := nI (j + 1)) (lv' := [(3, .int (nI (j + 1))), (0, .ref m0), (1, .int x), (2, .int y)]) hx hb dX11_nearest_62 hl (k := 3) rfl (nI_1 j) (by decide) rfl (fun ls hl => ?_)
                refine lv_goto (tgt := 44) hx hb dX11_nearest_65 (by decide) ?_
                exact ih44 (j + 1) (by omega) (by omega) (fun f9 h9 => by rw [hnx (f9 + 1) (by omega), neR, if_neg (Int32.not_le.mpr c_19)]) _ _ _ hP hD hS (lv_sub hl [1, 2, 3, 0] rfl)
              · refine lv_iload_n hx hb dX11_nearest_60 rfl (lv_at hl 3 rfl) ?_
                exact he_ri hQ hx hb hr hlk hP hD hS dX11_nearest_61 (Nat.le_of_ble_eq_true rfl) (Nat.le_of_ble_eq_true rfl) (()) (rfl) ((by rw [hnx (9 - j + 1) (by omega), neR, if_pos (Int32.not_lt.mp c_19)]))
        exact loop44 ((10 - 0) + 1) 0 (Nat.lt_succ_self _) (Nat.zero_le _) (fun f9 h9 => by rw [show f9 = 10 by omega]) _ _ _ (hP.sub [1, 0] rfl) (hD.sub [1, 0] (by decide) rfl) hS (lv_sub hl [1, 2, 3, 0] rfl)
      · exact absurd (by decide) c_12
    · exact absurd c_8 (by decide)
end
section
/-! what a siege's text tells: the class's numbers and the reference's -/
def mtF : List (Nat × List Nat) → Nat → (Nat → Int32) → (Nat → Int32)
  | [], _, T => T
  | a :: L, w, T => mtF L (stW a.1 w) (mtR a.1 a.2 w T)
def tnA (i : Nat) : Int32 := if 15 ≤ i then nrF (i - 15) else mdV i
theorem mtR_1 {q : Nat} {vs : List Nat} {w : Nat} {sd fn T : Nat → Int32} (hq : q < 8) (hv : vbL (bd6 q) vs) (h : ∀ i, 0 < i → i < 25 → tOf sd fn i = T i) : ∀ i, 0 < i → i < 25 → tOf (stD q vs sd) (stN q vs fn) i = mtR q vs w T i := by
  have hl := hv.1
  rcases (show q = 0 ∨ q = 1 ∨ q = 2 ∨ q = 3 ∨ q = 4 ∨ q = 5 ∨ q = 6 ∨ q = 7 by omega) with rfl | rfl | rfl | rfl | rfl | rfl | rfl | rfl
  · intro i h1 h2
    have e : stD 0 vs sd = sd := by funext j; unfold stD; rw [if_pos (Or.inl rfl)]
    have e2 : mtR 0 vs w T i = T i := by unfold mtR; rw [if_pos rfl, upd_n (by omega)]
    rw [e, e2]
    exact h i h1 h2
  · obtain ⟨a, b, c, rfl⟩ : ∃ a b c, vs = [a, b, c] := by
      match vs, hl with
      | [a, b, c], _ => exact ⟨a, b, c, rfl⟩
    intro i h1 h2
    rcases Nat.lt_or_ge i 15 with c1 | c1
    · rcases (show i = 1 ∨ i = 2 ∨ i = 3 ∨ i = 4 ∨ i = 5 ∨ i = 6 ∨ i = 7 ∨ i = 8 ∨ i = 9 ∨ i = 10 ∨ i = 11 ∨ i = 12 ∨ i = 13 ∨ i = 14 by omega) with rfl | rfl | rfl | rfl | rfl | rfl | rfl | rfl | rfl | rfl | rfl | rfl | rfl | rfl <;> first | rfl | exact h _ (by decide) (by decide)
    · obtain ⟨r, rfl⟩ : ∃ r, i = 15 + r := ⟨i - 15, by omega⟩
      have e2 : mtR 1 [a, b, c] w T (15 + r) = T (15 + r) := by show upd (upd (upd T 1 _) 2 _) 3 _ (15 + r) = _; rw [upd_n (by omega), upd_n (by omega), upd_n (by omega)]
      rw [e2, ← h (15 + r) (by omega) h2, tOf_15, tOf_15]; rfl
  · obtain ⟨a, b, c, rfl⟩ : ∃ a b c, vs = [a, b, c] := by
      match vs, hl with
      | [a, b, c], _ => exact ⟨a, b, c, rfl⟩
    intro i h1 h2
    rcases Nat.lt_or_ge i 15 with c1 | c1
    · rcases (show i = 1 ∨ i = 2 ∨ i = 3 ∨ i = 4 ∨ i = 5 ∨ i = 6 ∨ i = 7 ∨ i = 8 ∨ i = 9 ∨ i = 10 ∨ i = 11 ∨ i = 12 ∨ i = 13 ∨ i = 14 by omega) with rfl | rfl | rfl | rfl | rfl | rfl | rfl | rfl | rfl | rfl | rfl | rfl | rfl | rfl <;> first | rfl | exact h _ (by decide) (by decide)
    · obtain ⟨r, rfl⟩ : ∃ r, i = 15 + r := ⟨i - 15, by omega⟩
      have e2 : mtR 2 [a, b, c] w T (15 + r) = T (15 + r) := by show upd (upd (upd T 4 _) 5 _) 6 _ (15 + r) = _; rw [upd_n (by omega), upd_n (by omega), upd_n (by omega)]
      rw [e2, ← h (15 + r) (by omega) h2, tOf_15, tOf_15]; rfl
  · obtain ⟨a, b, rfl⟩ : ∃ a b, vs = [a, b] := by
      match vs, hl with
      | [a, b], _ => exact ⟨a, b, rfl⟩
    intro i h1 h2
    rcases Nat.lt_or_ge i 15 with c1 | c1
    · rcases (show i = 1 ∨ i = 2 ∨ i = 3 ∨ i = 4 ∨ i = 5 ∨ i = 6 ∨ i = 7 ∨ i = 8 ∨ i = 9 ∨ i = 10 ∨ i = 11 ∨ i = 12 ∨ i = 13 ∨ i = 14 by omega) with rfl | rfl | rfl | rfl | rfl | rfl | rfl | rfl | rfl | rfl | rfl | rfl | rfl | rfl <;> first | rfl | exact h _ (by decide) (by decide)
    · obtain ⟨r, rfl⟩ : ∃ r, i = 15 + r := ⟨i - 15, by omega⟩
      have e2 : mtR 3 [a, b] w T (15 + r) = T (15 + r) := by show upd (upd T 7 _) 8 _ (15 + r) = _; rw [upd_n (by omega), upd_n (by omega)]
      rw [e2, ← h (15 + r) (by omega) h2, tOf_15, tOf_15]; rfl
  · obtain ⟨a, b, c, rfl⟩ : ∃ a b c, vs = [a, b, c] := by
      match vs, hl with
      | [a, b, c], _ => exact ⟨a, b, c, rfl⟩
    intro i h1 h2
    rcases Nat.lt_or_ge i 15 with c1 | c1
    · rcases (show i = 1 ∨ i = 2 ∨ i = 3 ∨ i = 4 ∨ i = 5 ∨ i = 6 ∨ i = 7 ∨ i = 8 ∨ i = 9 ∨ i = 10 ∨ i = 11 ∨ i = 12 ∨ i = 13 ∨ i = 14 by omega) with rfl | rfl | rfl | rfl | rfl | rfl | rfl | rfl | rfl | rfl | rfl | rfl | rfl | rfl <;> first | rfl | exact h _ (by decide) (by decide)
    · obtain ⟨r, rfl⟩ : ∃ r, i = 15 + r := ⟨i - 15, by omega⟩
      have e2 : mtR 4 [a, b, c] w T (15 + r) = T (15 + r) := by show upd (upd (upd T 9 _) 10 _) 11 _ (15 + r) = _; rw [upd_n (by omega), upd_n (by omega), upd_n (by omega)]
      rw [e2, ← h (15 + r) (by omega) h2, tOf_15, tOf_15]; rfl
  · obtain ⟨a, b, rfl⟩ : ∃ a b, vs = [a, b] := by
      match vs, hl with
      | [a, b], _ => exact ⟨a, b, rfl⟩
    intro i h1 h2
    have e : stD 5 [a, b] sd = sd := by funext j; unfold stD; rw [if_pos (Or.inr rfl)]
    have e3 : stN 5 [a, b] fn = upd fn a (nI b) := rfl
    have e4 : mtR 5 [a, b] w T = upd T (15 + a) (nI b) := rfl
    rw [e, e3, e4]
    rcases Nat.lt_or_ge i 15 with c1 | c1
    · rw [upd_n (by omega), ← h i h1 h2]
      unfold tOf
      rw [if_neg (by omega), if_neg (by omega)]
    · obtain ⟨r, rfl⟩ : ∃ r, i = 15 + r := ⟨i - 15, by omega⟩
      rw [tOf_15]
      by_cases c : r = a
      · rw [c, upd_s, upd_s]
      · rw [upd_n c, upd_n (by omega), ← h (15 + r) (by omega) h2, tOf_15]
  · obtain ⟨a, rfl⟩ : ∃ a, vs = [a] := by
      match vs, hl with
      | [a], _ => exact ⟨a, rfl⟩
    intro i h1 h2
    rcases Nat.lt_or_ge i 15 with c1 | c1
    · rcases (show i = 1 ∨ i = 2 ∨ i = 3 ∨ i = 4 ∨ i = 5 ∨ i = 6 ∨ i = 7 ∨ i = 8 ∨ i = 9 ∨ i = 10 ∨ i = 11 ∨ i = 12 ∨ i = 13 ∨ i = 14 by omega) with rfl | rfl | rfl | rfl | rfl | rfl | rfl | rfl | rfl | rfl | rfl | rfl | rfl | rfl <;> first | rfl | exact h _ (by decide) (by decide)
    · obtain ⟨r, rfl⟩ : ∃ r, i = 15 + r := ⟨i - 15, by omega⟩
      have e2 : mtR 6 [a] w T (15 + r) = T (15 + r) := by show upd T 12 _ (15 + r) = _; rw [upd_n (by omega)]
      rw [e2, ← h (15 + r) (by omega) h2, tOf_15, tOf_15]; rfl
  · obtain ⟨a, b, rfl⟩ : ∃ a b, vs = [a, b] := by
      match vs, hl with
      | [a, b], _ => exact ⟨a, b, rfl⟩
    intro i h1 h2
    rcases Nat.lt_or_ge i 15 with c1 | c1
    · rcases (show i = 1 ∨ i = 2 ∨ i = 3 ∨ i = 4 ∨ i = 5 ∨ i = 6 ∨ i = 7 ∨ i = 8 ∨ i = 9 ∨ i = 10 ∨ i = 11 ∨ i = 12 ∨ i = 13 ∨ i = 14 by omega) with rfl | rfl | rfl | rfl | rfl | rfl | rfl | rfl | rfl | rfl | rfl | rfl | rfl | rfl <;> first | rfl | exact h _ (by decide) (by decide)
    · obtain ⟨r, rfl⟩ : ∃ r, i = 15 + r := ⟨i - 15, by omega⟩
      have e2 : mtR 7 [a, b] w T (15 + r) = T (15 + r) := by show upd (upd T 13 _) 14 _ (15 + r) = _; rw [upd_n (by omega), upd_n (by omega)]
      rw [e2, ← h (15 + r) (by omega) h2, tOf_15, tOf_15]; rfl
theorem mt_F : ∀ (L : List (Nat × List Nat)) (w : Nat) (sd fn T : Nat → Int32), (∀ a ∈ L, a.1 < 8 ∧ vbL (bd6 a.1) a.2) → (∀ i, 0 < i → i < 25 → tOf sd fn i = T i) → ∀ i, 0 < i → i < 25 → tOf (fdD L sd) (fdN L fn) i = mtF L w T i
  | [], _, _, _, _, _, h => h
  | a :: L, w, sd, fn, T, hL, h => mt_F L (stW a.1 w) _ _ _ (fun b hb => hL b (List.mem_cons_of_mem _ hb)) (mtR_1 (hL a List.mem_cons_self).1 (hL a List.mem_cons_self).2 h)
theorem mt_0 (sd fn : Nat → Int32) : ∀ i, 0 < i → i < 25 → tOf (flF unF sd 24) (flF nrF fn 10) i = tnA i := by
  intro i h1 h2
  rcases Nat.lt_or_ge i 15 with c1 | c1
  · rcases (show i = 1 ∨ i = 2 ∨ i = 3 ∨ i = 4 ∨ i = 5 ∨ i = 6 ∨ i = 7 ∨ i = 8 ∨ i = 9 ∨ i = 10 ∨ i = 11 ∨ i = 12 ∨ i = 13 ∨ i = 14 by omega) with rfl | rfl | rfl | rfl | rfl | rfl | rfl | rfl | rfl | rfl | rfl | rfl | rfl | rfl <;> rfl
  · obtain ⟨r, rfl⟩ : ∃ r, i = 15 + r := ⟨i - 15, by omega⟩
    rw [tOf_15]
    unfold flF tnA
    rw [if_pos (by omega), if_pos (by omega), show 15 + r - 15 = r by omega]
/-- the bounds of what is told -/
def bdA (T : Nat → Int32) : Prop := bdT T ∧ (∃ a, a ≤ 9999 ∧ T 1 = nI a) ∧ (∃ a, a ≤ 999 ∧ T 2 = nI a) ∧ (∃ a, a ≤ 9999 ∧ T 4 = nI a) ∧ (∃ a, a ≤ 999 ∧ T 5 = nI a) ∧ (∃ a, a ≤ 9999 ∧ T 7 = nI a) ∧ (∃ a, a ≤ 100 ∧ T 9 = nI a) ∧ (∃ a, a ≤ 99 ∧ T 13 = nI a) ∧ ∃ a, a ≤ 99 ∧ T 14 = nI a
/-- each place's bound -/
def mxA (i : Nat) : Nat := if 15 ≤ i then 20 else [0, 9999, 999, 9, 9999, 999, 9, 9999, 100, 100, 50, 50, 9, 99, 99].getD i 0
def bdI (T : Nat → Int32) : Prop := ∀ i, 0 < i → i < 25 → ∃ a, a ≤ mxA i ∧ T i = nI a
theorem bdI_A {T : Nat → Int32} (h : bdI T) : bdA T := ⟨⟨h 3 (by decide) (by decide), h 6 (by decide) (by decide), h 8 (by decide) (by decide), h 10 (by decide) (by decide), h 11 (by decide) (by decide), h 12 (by decide) (by decide), fun r hr => by
    obtain ⟨a, h1, h2⟩ := h (15 + r) (by omega) (by omega)
    unfold mxA at h1
    rw [if_pos (by omega)] at h1
    exact ⟨a, h1, h2⟩⟩, h 1 (by decide) (by decide), h 2 (by decide) (by decide), h 4 (by decide) (by decide), h 5 (by decide) (by decide), h 7 (by decide) (by decide), h 9 (by decide) (by decide), h 13 (by decide) (by decide), h 14 (by decide) (by decide)⟩
theorem bdI_u {T : Nat → Int32} (h : bdI T) {k v : Nat} (hv : v ≤ mxA k) : bdI (upd T k (nI v)) := by
  intro i h1 h2
  by_cases e : i = k
  · subst e; rw [upd_s]; exact ⟨v, hv, rfl⟩
  · rw [upd_n e]; exact h i h1 h2
theorem bdI_0 : bdI tnA := by
  intro i h1 h2
  rcases Nat.lt_or_ge i 15 with c1 | c1
  · rcases (show i = 1 ∨ i = 2 ∨ i = 3 ∨ i = 4 ∨ i = 5 ∨ i = 6 ∨ i = 7 ∨ i = 8 ∨ i = 9 ∨ i = 10 ∨ i = 11 ∨ i = 12 ∨ i = 13 ∨ i = 14 by omega) with rfl | rfl | rfl | rfl | rfl | rfl | rfl | rfl | rfl | rfl | rfl | rfl | rfl | rfl
    · exact ⟨1000, by decide, rfl⟩
    · exact ⟨100, by decide, rfl⟩
    · exact ⟨3, by decide, rfl⟩
    · exact ⟨0, by decide, rfl⟩
    · exact ⟨100, by decide, rfl⟩
    · exact ⟨5, by decide, rfl⟩
    · exact ⟨5000, by decide, rfl⟩
    · exact ⟨20, by decide, rfl⟩
    · exact ⟨20, by decide, rfl⟩
    · exact ⟨10, by decide, rfl⟩
    · exact ⟨5, by decide, rfl⟩
    · exact ⟨1, by decide, rfl⟩
    · exact ⟨5, by decide, rfl⟩
    · exact ⟨1, by decide, rfl⟩
  · obtain ⟨r, rfl⟩ : ∃ r, i = 15 + r := ⟨i - 15, by omega⟩
    refine ⟨9 - r, ?_, ?_⟩
    · unfold mxA; rw [if_pos (by omega)]; omega
    · unfold tnA nrF
      rw [if_pos (by omega), show 15 + r - 15 = r by omega]
      exact pk_sub (a := 9) (by omega)
theorem bdI_R {q : Nat} {vs : List Nat} {w : Nat} {T : Nat → Int32} (hq : q < 8) (hv : vbL (bd6 q) vs) (h : bdI T) : bdI (mtR q vs w T) := by
  have hl := hv.1
  have hb := hv.2
  rcases (show q = 0 ∨ q = 1 ∨ q = 2 ∨ q = 3 ∨ q = 4 ∨ q = 5 ∨ q = 6 ∨ q = 7 by omega) with rfl | rfl | rfl | rfl | rfl | rfl | rfl | rfl
  · intro i h1 h2
    unfold mtR
    rw [if_pos rfl, upd_n (by omega)]
    exact h i h1 h2
  · match vs, hl with
    | [a, b, c], _ =>
      have h0 : 0 ≤ a ∧ a < 10000 := hb 0 (by decide)
      have h1 : 0 ≤ b ∧ b < 1000 := hb 1 (by decide)
      have h2 : 0 ≤ c ∧ c < 10 := hb 2 (by decide)
      exact bdI_u (bdI_u (bdI_u h (k := 1) (by show a ≤ 9999; omega)) (k := 2) (by show b ≤ 999; omega)) (k := 3) (by show c ≤ 9; omega)
  · match vs, hl with
    | [a, b, c], _ =>
      have h0 : 0 ≤ a ∧ a < 10000 := hb 0 (by decide)
      have h1 : 0 ≤ b ∧ b < 1000 := hb 1 (by decide)
      have h2 : 0 ≤ c ∧ c < 10 := hb 2 (by decide)
      exact bdI_u (bdI_u (bdI_u h (k := 4) (by show a ≤ 9999; omega)) (k := 5) (by show b ≤ 999; omega)) (k := 6) (by show c ≤ 9; omega)
  · match vs, hl with
    | [a, b], _ =>
      have h0 : 0 ≤ a ∧ a < 10000 := hb 0 (by decide)
      have h1 : 0 ≤ b ∧ b < 101 := hb 1 (by decide)
      exact bdI_u (bdI_u h (k := 7) (by show a ≤ 9999; omega)) (k := 8) (by show b ≤ 100; omega)
  · match vs, hl with
    | [a, b, c], _ =>
      have h0 : 0 ≤ a ∧ a < 101 := hb 0 (by decide)
      have h1 : 0 ≤ b ∧ b < 51 := hb 1 (by decide)
      have h2 : 0 ≤ c ∧ c < 51 := hb 2 (by decide)
      exact bdI_u (bdI_u (bdI_u h (k := 9) (by show a ≤ 100; omega)) (k := 10) (by show b ≤ 50; omega)) (k := 11) (by show c ≤ 50; omega)
  · match vs, hl with
    | [a, b], _ =>
      have h0 : 0 ≤ a ∧ a < 10 := hb 0 (by decide)
      have h1 : 0 ≤ b ∧ b < 21 := hb 1 (by decide)
      exact bdI_u h (k := 15 + a) (show b ≤ mxA (15 + a) by unfold mxA; rw [if_pos (by omega)]; omega)
  · match vs, hl with
    | [a], _ =>
      have h0 : 0 ≤ a ∧ a < 10 := hb 0 (by decide)
      exact bdI_u h (k := 12) (by show a ≤ 9; omega)
  · match vs, hl with
    | [a, b], _ =>
      have h0 : 0 ≤ a ∧ a < 100 := hb 0 (by decide)
      have h1 : 0 ≤ b ∧ b < 100 := hb 1 (by decide)
      exact bdI_u (bdI_u h (k := 13) (by show a ≤ 99; omega)) (k := 14) (by show b ≤ 99; omega)
theorem bdI_F : ∀ (L : List (Nat × List Nat)) (w : Nat) (T : Nat → Int32), (∀ a ∈ L, a.1 < 8 ∧ vbL (bd6 a.1) a.2) → bdI T → bdI (mtF L w T)
  | [], _, _, _, h => h
  | a :: L, w, T, hL, h => bdI_F L (stW a.1 w) _ (fun b hb => hL b (List.mem_cons_of_mem _ hb)) (bdI_R (hL a List.mem_cons_self).1 (hL a List.mem_cons_self).2 h)
/-- the walls told: their strengths, what is mended -/
def bdS (w : Nat) (R3 R4 : Nat → Int32) : Prop := ∀ k, k < w → (∃ s, 1 ≤ s ∧ s ≤ 99 ∧ R3 k = nI s) ∧ ∃ a, a ≤ 50 ∧ R4 k = nI a
theorem bdS_F : ∀ (L : List (Nat × List Nat)) (w : Nat) (f m : Nat → Int32), (∀ a ∈ L, a.1 < 8 ∧ vbL (bd6 a.1) a.2) → bdS w f m → bdS (fdW L w) (fdT L w f) (fdM L w m)
  | [], _, _, _, _, h => h
  | a :: L, w, f, m, hL, h => by
    refine bdS_F L (stW a.1 w) (stT a.1 a.2 w f) (stM a.1 a.2 w m) (fun b hb => hL b (List.mem_cons_of_mem _ hb)) ?_
    obtain ⟨hq, hv⟩ := hL a List.mem_cons_self
    unfold stW stT stM
    by_cases e : a.1 = 0
    · rw [if_pos e, if_pos e, if_pos e]
      rw [e] at hv
      have h0 : 1 ≤ a.2.getD 0 0 ∧ a.2.getD 0 0 < 100 := hv.2 0 (by decide)
      have h1 : 0 ≤ a.2.getD 1 0 ∧ a.2.getD 1 0 < 51 := hv.2 1 (by decide)
      intro k hk
      by_cases c : k = w
      · rw [c, upd_s, upd_s]
        exact ⟨⟨_, h0.1, by omega, rfl⟩, ⟨_, by omega, rfl⟩⟩
      · rw [upd_n c, upd_n c]
        exact h k (by omega)
    · rw [if_neg e, if_neg e, if_neg e]
      exact h
/-- from another row: alike below w -/
theorem fdT_cg : ∀ (L : List (Nat × List Nat)) (w : Nat) (f g : Nat → Int32), (∀ k, k < w → f k = g k) → ∀ k, k < fdW L w → fdT L w f k = fdT L w g k
  | [], _, _, _, h => h
  | a :: L, w, f, g, h => by
    refine fdT_cg L (stW a.1 w) _ _ ?_
    unfold stW stT
    by_cases e : a.1 = 0
    · rw [if_pos e, if_pos e, if_pos e]
      intro k hk
      by_cases c : k = w
      · rw [c, upd_s, upd_s]
      · rw [upd_n c, upd_n c]; exact h k (by omega)
    · rw [if_neg e, if_neg e, if_neg e]; exact h
theorem fdM_cg : ∀ (L : List (Nat × List Nat)) (w : Nat) (f g : Nat → Int32), (∀ k, k < w → f k = g k) → ∀ k, k < fdW L w → fdM L w f k = fdM L w g k
  | [], _, _, _, h => h
  | a :: L, w, f, g, h => by
    refine fdM_cg L (stW a.1 w) _ _ ?_
    unfold stW stM
    by_cases e : a.1 = 0
    · rw [if_pos e, if_pos e, if_pos e]
      intro k hk
      by_cases c : k = w
      · rw [c, upd_s, upd_s]
      · rw [upd_n c, upd_n c]; exact h k (by omega)
    · rw [if_neg e, if_neg e, if_neg e]; exact h
/-- how things stand at a siege's beginning -/
def bgA (w : Nat) (T R3 : Nat → Int32) : Nat → Int32 := fun i => if i = 0 then T 1 else if i = 1 then T 4 else if i = 2 then T 7 else if i = 3 then T 2 else if i = 4 then T 5 else if i = 5 then T 9 else if i = 10 ∨ i = 11 then -1 else if 12 ≤ i ∧ i < 12 + w then R3 (i - 12) else 0
/-- a contract as it is told: its breaches, its numbers -/
def ctB (L : List (Nat × List Nat)) : Nat → Int32 := fdB L (flF (fun _ => -1) (fun _ => 0) 36)
def ctC (L : List (Nat × List Nat)) : Nat → Int32 := fun i => if i = 1 then (if fdRl L (flF iniF (fun _ => 0) 7) 1 = -1 then fdRl L (flF iniF (fun _ => 0) 7) 0 else fdRl L (flF iniF (fun _ => 0) 7) 1) else if i = 6 then nI (cnF (ctB L) 36) else fdRl L (flF iniF (fun _ => 0) 7) i
/-- offers, as the class keeps them -/
def ofC (co : Nat → Int32) (R : Rw) : Prop := ∀ m, m < 12 → co (m * 3) = 0 ∧ co (m * 3 + 1) = R 30 m ∧ co (m * 3 + 2) = R 31 m
def rwU (R : Rw) (i : Nat) (f : Nat → Int32) : Rw := fun j => if j = i then f else R j
theorem rwU_n {R : Rw} {i j : Nat} {f : Nat → Int32} (h : j ≠ i) : rwU R i f j = R j := if_neg h
theorem rwU_s {R : Rw} {i : Nat} {f : Nat → Int32} : rwU R i f i = f := if_pos rfl
theorem rl_cg : ∀ (L : List (Nat × List Nat)) (f g : Nat → Int32), (∀ i, i < 6 → f i = g i) → ∀ i, i < 6 → fdRl L f i = fdRl L g i
  | [], _, _, h => h
  | a :: L, f, g, h => rl_cg L _ _ (fun i hi => by
    unfold rlD
    split
    · exact h i hi
    · by_cases e : i = a.1
      · rw [e, upd_s, upd_s]
      · rw [upd_n e, upd_n e]; exact h i hi)
theorem rb_cg : ∀ (L : List (Nat × List Nat)) (f g : Nat → Int32), (∀ i, i < 36 → f i = g i) → ∀ i, i < 36 → fdB L f i = fdB L g i
  | [], _, _, h => h
  | a :: L, f, g, h => rb_cg L _ _ (fun i hi => by
    unfold rlB
    split
    · by_cases e : i = a.2.getD 1 0
      · rw [e, upd_s, upd_s]
      · rw [upd_n e, upd_n e]; exact h i hi
    · exact h i hi)
theorem cn_cg {f g : Nat → Int32} : ∀ n, (∀ i, i < n → f i = g i) → cnF f n = cnF g n
  | 0, _ => rfl
  | n + 1, h => by rw [cnF, cnF, cn_cg n (fun i hi => h i (by omega)), h n (by omega)]
end
