theorem sv_s {o : Nat → Nat → Nat} {m la wo : Nat} (hla : la = svN o m) (hfw : fwN (rsN o (12 - m)) la (bestN (rsN o (12 - m)) la 3) 3 0 = fwN (rsN o (12 - m)) la (bestN (rsN o (12 - m)) la 3) (3 - wo) wo) (hwo : wo < 3) (h1 : ¬ mfF la wo = 0) (h2 : rsN o (12 - m) wo = bestN (rsN o (12 - m)) la 3) : wo = svN o (m + 1) := by
  rw [svN, ← hla]
  exact (fw_y hfw hwo h1 h2).symm
set_option maxHeartbeats 4000000 in
set_option maxRecDepth 100000 in
theorem r_X11_serves (l : Launch) (g : he_G) (m0 : Nat) (fd : Nat) (rfm : Nat) (rt_ : Nat) (to_ : Nat) (rw_ : Nat) (wa : Nat) (rk : Nat) (rb : Nat) (cn : Nat) (br : Nat) (sm : Nat) (as_ : Nat) (go : Nat) (sh_ : Nat) (ki : Nat) (tg : Nat) (of_ : Nat) (kp : Nat) (rs : Nat) (ta : Int32) (sz_ : Int32) (pl : Int32) (at_ : Int32) (fa : Int32) (fw : Int32) (cs : Int32) (ct : Int32) (ir : Int32) (oa : Int32) (ob : Int32) (th : Int32) (ig : Int32) (sp_ : Int32) (sf : Int32) (tw : Int32) (L : List Nat) (ln : Nat → Nat) (M : Nat → Nat → Int32) (r9 : Nat → Nat) (r11 : Nat → Nat) (o : Nat → Nat → Nat) (n : Nat) (F_r9 : ∀ i, i < 2 → r9 i ∈ L ∧ ln (r9 i) = 12 ∧ True) (F_r11 : ∀ i, i < 13 → r11 i ∈ L ∧ ln (r11 i) = 3 ∧ True) (D_r9_r11 : ∀ i j, i < 2 → j < 13 → r9 i ≠ r11 j) (J_r11 : ∀ a b, a < 13 → b < 13 → r11 a = r11 b → a = b) (ho : oOk r9 o M) (hob : ∀ d m, o d m ≤ 999) (hn : n ≤ 11) : he_I l yX11_serves wsX11_serves 3 67 0 0 g [.ref m0, .int (nI n)] ([(oX11 m0 tw ta sz_ pl at_ fa fw cs fd rfm rt_ to_ rw_ wa ct rk rb cn br sm as_ go sh_ ir oa ob th ig sp_ ki tg of_ kp sf rs), (aM g of_ 2 (he_ro 2 r9)), (aM g rs 13 (he_ro 13 r11))] ++ he_pl g L ln M) (fun (r : Int32) (u : Nat → Nat → Int32) => r = nI (svN o (n + 1)) ∧ mEx r11 13 M u) (fun (u : Nat → Nat → Int32) => [(oX11 m0 0 ta sz_ pl at_ fa fw cs fd rfm rt_ to_ rw_ wa ct rk rb cn br sm as_ go sh_ ir oa ob th ig sp_ ki tg of_ kp sf rs), (aM g of_ 2 (he_ro 2 r9)), (aM g rs 13 (he_ro 13 r11))] ++ he_pl g L ln u) := by
  refine he_begin (l := l) (g := g) (y := yX11_serves) (wl := wsX11_serves) (fr := 3) (lo := 67) (mc := 0) (ms := 0) (av := [.ref m0, .int (nI n)]) (ws := ([(oX11 m0 tw ta sz_ pl at_ fa fw cs fd rfm rt_ to_ rw_ wa ct rk rb cn br sm as_ go sh_ ir oa ob th ig sp_ ki tg of_ kp sf rs), (aM g of_ 2 (he_ro 2 r9)), (aM g rs 13 (he_ro 13 r11))] ++ he_pl g L ln M)) (cc := cX11_serves) (maxL := 6) (ret := (some .int)) (fun A => va_Qi (fun (r : Int32) (u : Nat → Nat → Int32) => r = nI (svN o (n + 1)) ∧ mEx r11 13 M u) (fun u t => he_post g A ((fun (u : Nat → Nat → Int32) => [(oX11 m0 0 ta sz_ pl at_ fa fw cs fd rfm rt_ to_ rw_ wa ct rk rb cn br sm as_ go sh_ ir oa ob th ig sp_ ki tg of_ kp sf rs), (aM g of_ 2 (he_ro 2 r9)), (aM g rs 13 (he_ro 13 r11))] ++ he_pl g L ln u) u) t) A) (by decide) rfl (Nat.le_of_ble_eq_true rfl) ?_
  intro p e s m args below meth c A ls H locs Q hQ hB
  obtain ⟨hx, hb, hr, hml, hown, hts, hlk, hin, hP, hK, hD, hS, hA, hE, hl⟩ := hB
  have hl : lv_has ls 6 [(0, .ref m0), (1, .int (nI n))] := hl
  have f85 := hts (.fieldLink RX11 85 "HiredEnemyModel" "thrown" "I") (iwoX11_serves (k := 0) rfl)
  have inX11 : ∀ w ∈ wsX110, w ∈ wsX11_serves := innX11_serves_X11
  have f76 := hts (.fieldLink RX11 76 "HiredEnemyModel" "rest" "[[I") (iwoX11_serves (k := 1) rfl)
  have f70 := hts (.fieldLink RX11 70 "HiredEnemyModel" "offered" "[[I") (iwoX11_serves (k := 2) rfl)
  refine lv_aload_n hx hb dX11_serves_0 rfl (lv_at hl 0 rfl) ?_
  refine lv_iconst (v := 0) hx hb dX11_serves_1 (by decide) ?_
  refine va_put (v := .int 0) (ty := .int) (T := TX11) (N := 35) hx hb hts inX11 tyX11 tyX11_ok nmX11 hown hK hP hD hS 0 rfl rfl 0 (by decide) f85 (fun _ h9 => h9) rfl (by decide +kernel) rfl rfl (Nat.le_of_ble_eq_true rfl) dX11_serves_2 (fun H locs hP hD hS => ?_)
  have hP : va_P g.1 vwCl ([(oX11 m0 0 ta sz_ pl at_ fa fw cs fd rfm rt_ to_ rw_ wa ct rk rb cn br sm as_ go sh_ ir oa ob th ig sp_ ki tg of_ kp sf rs), (aM g of_ 2 (he_ro 2 r9)), (aM g rs 13 (he_ro 13 r11))] ++ he_pl g L ln M) H := hP
  have hD : va_D A ([(oX11 m0 0 ta sz_ pl at_ fa fw cs fd rfm rt_ to_ rw_ wa ct rk rb cn br sm as_ go sh_ ir oa ob th ig sp_ ki tg of_ kp sf rs), (aM g of_ 2 (he_ro 2 r9)), (aM g rs 13 (he_ro 13 r11))] ++ he_pl g L ln M) := hD
  refine lv_aload_n hx hb dX11_serves_5 rfl (lv_at hl 0 rfl) ?_
  refine lv_iload_n hx hb dX11_serves_6 rfl (lv_at hl 1 rfl) ?_
  refine lv_iconst (v := 0) hx hb dX11_serves_7 (by decide) ?_
  refine lv_bipush (v := 11) hx hb dX11_serves_8 (by decide) ?_
  refine he_ci (wc := []) (wr := ([(oX11 m0 0 ta sz_ pl at_ fa fw cs fd rfm rt_ to_ rw_ wa ct rk rb cn br sm as_ go sh_ ir oa ob th ig sp_ ki tg of_ kp sf rs), (aM g of_ 2 (he_ro 2 r9)), (aM g rs 13 (he_ro 13 r11))] ++ (he_pl g L ln M))) (va_runS (As := [.int (nI n), .int 0, .int 11]) (rest := [.ref m0]) ⟨hx, hb, hml, hown, hts⟩ (c_X11_in l g (nI n) 0 11 H.size) (va_cwS 3 hts gX11_serves_X11_in rfl rfl rfl (by decide +kernel) ⟨Nat.le_of_ble_eq_true rfl, Nat.le_of_ble_eq_true rfl⟩) (he_preS (wc := []) hK hP hD hS hA hE [] rfl rfl) rfl rfl hl.1 rfl (lv_room (Nat.le_of_ble_eq_true rfl)) dX11_serves_10 ⟨(Nat.le_of_ble_eq_true rfl), (Nat.le_of_ble_eq_true rfl)⟩) hP hD hS hA [] (he_is [0, 1, 2] [(oX11 m0 0 ta sz_ pl at_ fa fw cs fd rfm rt_ to_ rw_ wa ct rk rb cn br sm as_ go sh_ ir oa ob th ig sp_ ki tg of_ kp sf rs), (aM g of_ 2 (he_ro 2 r9)), (aM g rs 13 (he_ro 13 r11))] (he_pl g L ln M)) rfl (he_ixP rfl) (he_ndP rfl rfl) (he_disN (by decide) rfl) (fun r_1 u_2 H locs h_3 hP hD hS => ?_)
  have hP := va_P.swap hP
  have hD := va_D.swap hD
  subst h_3
  have hP : va_P g.1 vwCl ([(oX11 m0 0 ta sz_ pl at_ fa fw cs fd rfm rt_ to_ rw_ wa ct rk rb cn br sm as_ go sh_ ir oa ob th ig sp_ ki tg of_ kp sf rs), (aM g of_ 2 (he_ro 2 r9)), (aM g rs 13 (he_ro 13 r11))] ++ he_pl g L ln M) H := hP
  have hD : va_D A ([(oX11 m0 0 ta sz_ pl at_ fa fw cs fd rfm rt_ to_ rw_ wa ct rk rb cn br sm as_ go sh_ ir oa ob th ig sp_ ki tg of_ kp sf rs), (aM g of_ 2 (he_ro 2 r9)), (aM g rs 13 (he_ro 13 r11))] ++ he_pl g L ln M) := hD
  refine he_top (1) (he_within_in (a0 := 0) (B := 11) rfl rfl (by omega) (by omega) (by decide)) ?_
  refine lv_if_ne (tgt := 20) hx hb dX11_serves_13 (by decide) (fun c_4 => ?_) (fun c_4 => ?_)
  · refine lv_iconst (v := 0) hx hb dX11_serves_20 (by decide) ?_
    refine lv_iconst (v := 1) hx hb dX11_serves_21 (by decide) ?_
    refine lv_iconst (v := 2) hx hb dX11_serves_22 (by decide) ?_
    refine he_ci (wc := [(oX11 m0 0 ta sz_ pl at_ fa fw cs fd rfm rt_ to_ rw_ wa ct rk rb cn br sm as_ go sh_ ir oa ob th ig sp_ ki tg of_ kp sf rs)]) (wr := ([(aM g of_ 2 (he_ro 2 r9)), (aM g rs 13 (he_ro 13 r11))] ++ (he_pl g L ln M))) (va_runV (As := [.int 0, .int 1, .int 2]) (rest := []) ⟨hx, hb, hml, hown, hts⟩ (c_X11_bad0 l g m0 fd rfm rt_ to_ rw_ wa rk rb cn br sm as_ go sh_ ki tg of_ kp rs ta sz_ pl at_ fa fw cs ct ir oa ob th ig sp_ sf 1 2 H.size) (cwV 3 hts gX11_serves_X11_bad rfl rfl rfl (by decide +kernel) ⟨Nat.le_of_ble_eq_true rfl, Nat.le_of_ble_eq_true rfl⟩) (he_preV (wc := [(oX11 m0 0 ta sz_ pl at_ fa fw cs fd rfm rt_ to_ rw_ wa ct rk rb cn br sm as_ go sh_ ir oa ob th ig sp_ ki tg of_ kp sf rs)]) hK hP hD hS hA hE [0] rfl rfl 0 rfl rfl) rfl rfl hl.1 rfl (lv_room (Nat.le_of_ble_eq_true rfl)) dX11_serves_23 ⟨(Nat.le_of_ble_eq_true rfl), (Nat.le_of_ble_eq_true rfl)⟩) hP hD hS hA [0] (he_is [1, 2] [(oX11 m0 0 ta sz_ pl at_ fa fw cs fd rfm rt_ to_ rw_ wa ct rk rb cn br sm as_ go sh_ ir oa ob th ig sp_ ki tg of_ kp sf rs), (aM g of_ 2 (he_ro 2 r9)), (aM g rs 13 (he_ro 13 r11))] (he_pl g L ln M)) rfl (he_ixP rfl) (he_ndP rfl rfl) (he_disN (by decide) rfl) (fun r_5 u_6 H locs h_7 hP hD hS => ?_)
    have hP := va_P.swap hP
    have hD := va_D.swap hD
    subst h_7
    have hP : va_P g.1 vwCl ([(aM g of_ 2 (he_ro 2 r9)), (aM g rs 13 (he_ro 13 r11)), (oX11 m0 0 ta sz_ pl at_ fa fw cs fd rfm rt_ to_ rw_ wa ct rk rb cn br sm as_ go sh_ ir oa ob th ig sp_ ki tg of_ kp sf rs)] ++ he_pl g L ln M) H := hP
    have hD : va_D A ([(aM g of_ 2 (he_ro 2 r9)), (aM g rs 13 (he_ro 13 r11)), (oX11 m0 0 ta sz_ pl at_ fa fw cs fd rfm rt_ to_ rw_ wa ct rk rb cn br sm as_ go sh_ ir oa ob th ig sp_ ki tg of_ kp sf rs)] ++ he_pl g L ln M) := hD
    refine lv_if_eq (tgt := 31) hx hb dX11_serves_26 (by decide) (fun c_8 => ?_) (fun c_8 => ?_)
    · refine lv_aload_n hx hb dX11_serves_31 rfl (lv_at hl 0 rfl) ?_
      refine he_ci (wc := ([(oX11 m0 0 ta sz_ pl at_ fa fw cs fd rfm rt_ to_ rw_ wa ct rk rb cn br sm as_ go sh_ ir oa ob th ig sp_ ki tg of_ kp sf rs), (aM g of_ 2 (he_ro 2 r9)), (aM g rs 13 (he_ro 13 r11))] ++ (he_pl g L ln M))) (wr := []) (va_runV (As := []) (rest := []) ⟨hx, hb, hml, hown, hts⟩ (h_X11_mostNow l g m0 fd rfm rt_ to_ rw_ wa rk rb cn br sm as_ go sh_ ki tg of_ kp rs ta sz_ pl at_ fa fw cs ct ir oa ob th ig sp_ sf 0 L ln M r9 r11 o (by first | assumption | decide | omega) (by first | assumption | decide | omega) (by first | assumption | decide | omega) (by first | assumption | decide | omega) (by first | assumption | decide | omega) (by first | assumption | decide | omega) H.size) (cwV 0 hts gX11_serves_X11_mostNow rfl rfl rfl (by decide +kernel) ⟨Nat.le_of_ble_eq_true rfl, Nat.le_of_ble_eq_true rfl⟩) (he_preV (wc := ([(oX11 m0 0 ta sz_ pl at_ fa fw cs fd rfm rt_ to_ rw_ wa ct rk rb cn br sm as_ go sh_ ir oa ob th ig sp_ ki tg of_ kp sf rs), (aM g of_ 2 (he_ro 2 r9)), (aM g rs 13 (he_ro 13 r11))] ++ (he_pl g L ln M))) hK hP hD hS hA hE (he_is [2, 0, 1] [(aM g of_ 2 (he_ro 2 r9)), (aM g rs 13 (he_ro 13 r11)), (oX11 m0 0 ta sz_ pl at_ fa fw cs fd rfm rt_ to_ rw_ wa ct rk rb cn br sm as_ go sh_ ir oa ob th ig sp_ ki tg of_ kp sf rs)] (he_pl g L ln M)) (he_ixP rfl) (he_ndP rfl rfl) 2 rfl rfl) rfl rfl hl.1 rfl (lv_room (Nat.le_of_ble_eq_true rfl)) dX11_serves_32 ⟨(Nat.le_of_ble_eq_true rfl), (Nat.le_of_ble_eq_true rfl)⟩) hP hD hS hA (he_is [2, 0, 1] [(aM g of_ 2 (he_ro 2 r9)), (aM g rs 13 (he_ro 13 r11)), (oX11 m0 0 ta sz_ pl at_ fa fw cs fd rfm rt_ to_ rw_ wa ct rk rb cn br sm as_ go sh_ ir oa ob th ig sp_ ki tg of_ kp sf rs)] (he_pl g L ln M)) [] (he_ixP rfl) rfl rfl (he_disP (by decide) rfl) (fun r_9 u_10 H locs h_11 hP hD hS => ?_)
      obtain ⟨Mu_12, rfl⟩ : ∃ z, z = u_10 := ⟨_, rfl⟩
      try dsimp only at h_11
      obtain ⟨rfl, hf_13, hf_14⟩ := h_11
      have hP : va_P g.1 vwCl ([(oX11 m0 0 ta sz_ pl at_ fa fw cs fd rfm rt_ to_ rw_ wa ct rk rb cn br sm as_ go sh_ ir oa ob th ig sp_ ki tg of_ kp sf rs), (aM g of_ 2 (he_ro 2 r9)), (aM g rs 13 (he_ro 13 r11))] ++ he_pl g L ln Mu_12) H := hP
      have hD : va_D A ([(oX11 m0 0 ta sz_ pl at_ fa fw cs fd rfm rt_ to_ rw_ wa ct rk rb cn br sm as_ go sh_ ir oa ob th ig sp_ ki tg of_ kp sf rs), (aM g of_ 2 (he_ro 2 r9)), (aM g rs 13 (he_ro 13 r11))] ++ he_pl g L ln Mu_12) := hD
      have hrs := hf_13
      have HX := hf_14
      refine lv_istore_n (lv' := [(2, .int (nI (bestN (rsN o 12) 0 3))), (0, .ref m0), (1, .int (nI n))]) hx hb dX11_serves_35 rfl hl (by decide) rfl (fun ls hl => ?_)
      refine lv_iconst (v := 0) hx hb dX11_serves_36 (by decide) ?_
      refine lv_istore_n (lv' := [(3, .int 0), (2, .int (nI (bestN (rsN o 12) 0 3))), (0, .ref m0), (1, .int (nI n))]) hx hb dX11_serves_37 rfl hl (by decide) rfl (fun ls hl => ?_)
      refine lv_iconst (v := 0) hx hb dX11_serves_38 (by decide) ?_
      refine lv_istore (lv' := [(4, .int 0), (3, .int 0), (2, .int (nI (bestN (rsN o 12) 0 3))), (0, .ref m0), (1, .int (nI n))]) hx hb dX11_serves_39 hl (by decide) rfl (fun ls hl => ?_)
      refine lv_iconst (v := 0) hx hb dX11_serves_41 (by decide) ?_
      refine lv_istore (lv' := [(5, .int 0), (4, .int 0), (3, .int 0), (2, .int (nI (bestN (rsN o 12) 0 3))), (0, .ref m0), (1, .int (nI n))]) hx hb dX11_serves_42 hl (by decide) rfl (fun ls hl => ?_)
      have loop44 : ∀ (n9 : Nat) (mi : Nat) (la : Nat) (wh : Nat), n + 1 - mi < n9 → (mi ≤ n + 1) → (la < 3) → (la = svN o mi ∧ wh = svN o mi) → ∀ (H : Heap) (locs : List Loc) (ls : Array Slot), va_P g.1 vwCl ([(oX11 m0 0 ta sz_ pl at_ fa fw cs fd rfm rt_ to_ rw_ wa ct rk rb cn br sm as_ go sh_ ir oa ob th ig sp_ ki tg of_ kp sf rs), (aM g of_ 2 (he_ro 2 r9)), (aM g rs 13 (he_ro 13 r11))] ++ he_pl g L ln Mu_12) H → va_D A ([(oX11 m0 0 ta sz_ pl at_ fa fw cs fd rfm rt_ to_ rw_ wa ct rk rb cn br sm as_ go sh_ ir oa ob th ig sp_ ki tg of_ kp sf rs), (aM g of_ 2 (he_ro 2 r9)), (aM g rs 13 (he_ro 13 r11))] ++ he_pl g L ln Mu_12) → va_S A s.heap H locs → lv_has ls 6 [(0, .ref m0), (1, .int (nI n)), (2, .int (nI (bestN (rsN o (12 - mi)) la 3))), (3, .int (nI la)), (4, .int (nI wh)), (5, .int (nI mi))] → W p l e (he_room 3 67 0 0) s m args below meth c H locs 0 0 Q (F0 m 44 ls []) := by
        intro n9
        induction n9 with
        | zero => intro mi la wh hm9; exact absurd hm9 (Nat.not_lt_zero _)
        | succ n9 ih44 =>
          intro mi la wh hm9 hm hla hsv H locs ls hP hD hS hl
          refine lv_iload hx hb dX11_serves_44 (lv_at hl 5 rfl) ?_
          refine lv_iload_n hx hb dX11_serves_46 rfl (lv_at hl 1 rfl) ?_
          refine lv_icmp_gt (tgt := 115) hx hb dX11_serves_47 (by decide) (fun c_15 => ?_) (fun c_15 => ?_)
          · have k_16 : n < mi := (he_clt (a := n) (b := mi) rfl rfl (by omega) (by omega)).mp c_15
            refine lv_iload hx hb dX11_serves_115 (lv_at hl 4 rfl) ?_
            exact he_ri hQ hx hb hr hlk hP hD hS dX11_serves_117 (Nat.le_of_ble_eq_true rfl) (Nat.le_of_ble_eq_true rfl) (Mu_12) (rfl) (⟨by rw [hsv.2, show mi = n + 1 by omega], HX⟩)
          · have k_17 : ¬ (n < mi) := fun h9 => c_15 ((he_clt (a := n) (b := mi) rfl rfl (by omega) (by omega)).mpr h9)
            obtain ⟨ex, hex1, hex2, hex3⟩ := best_ex (rsN o (12 - mi)) la hla
            refine lv_iconst (v := 0) hx hb dX11_serves_50 (by decide) ?_
            refine lv_istore (lv' := [(4, .int 0), (0, .ref m0), (1, .int (nI n)), (2, .int (nI (bestN (rsN o (12 - mi)) la 3))), (3, .int (nI la)), (5, .int (nI mi))]) hx hb dX11_serves_51 hl (by decide) rfl (fun ls hl => ?_)
            have loop53 : ∀ (n9 : Nat) (wo : Nat), 3 - wo < n9 → (wo ≤ ex) → (fwN (rsN o (12 - mi)) la (bestN (rsN o (12 - mi)) la 3) 3 0 = fwN (rsN o (12 - mi)) la (bestN (rsN o (12 - mi)) la 3) (3 - wo) wo) → ∀ (H : Heap) (locs : List Loc) (ls : Array Slot), va_P g.1 vwCl ([(oX11 m0 0 ta sz_ pl at_ fa fw cs fd rfm rt_ to_ rw_ wa ct rk rb cn br sm as_ go sh_ ir oa ob th ig sp_ ki tg of_ kp sf rs), (aM g of_ 2 (he_ro 2 r9)), (aM g rs 13 (he_ro 13 r11))] ++ he_pl g L ln Mu_12) H → va_D A ([(oX11 m0 0 ta sz_ pl at_ fa fw cs fd rfm rt_ to_ rw_ wa ct rk rb cn br sm as_ go sh_ ir oa ob th ig sp_ ki tg of_ kp sf rs), (aM g of_ 2 (he_ro 2 r9)), (aM g rs 13 (he_ro 13 r11))] ++ he_pl g L ln Mu_12) → va_S A s.heap H locs → lv_has ls 6 [(0, .ref m0), (1, .int (nI n)), (2, .int (nI (bestN (rsN o (12 - mi)) la 3))), (3, .int (nI la)), (4, .int (nI wo)), (5, .int (nI mi))] → W p l e (he_room 3 67 0 0) s m args below meth c H locs 0 0 Q (F0 m 53 ls []) := by
              intro n9
              induction n9 with
              | zero => intro wo hm9; exact absurd hm9 (Nat.not_lt_zero _)
              | succ n9 ih53 =>
                intro wo hm9 hwo hfw H locs ls hP hD hS hl
                refine lv_iload_n hx hb dX11_serves_53 rfl (lv_at hl 3 rfl) ?_
                refine lv_iload hx hb dX11_serves_54 (lv_at hl 4 rfl) ?_
                refine he_ci (wc := []) (wr := ([(oX11 m0 0 ta sz_ pl at_ fa fw cs fd rfm rt_ to_ rw_ wa ct rk rb cn br sm as_ go sh_ ir oa ob th ig sp_ ki tg of_ kp sf rs), (aM g of_ 2 (he_ro 2 r9)), (aM g rs 13 (he_ro 13 r11))] ++ (he_pl g L ln Mu_12))) (va_runS (As := [.int (nI la), .int (nI wo)]) (rest := []) ⟨hx, hb, hml, hown, hts⟩ (c_X11_mayServe l g la wo (by first | assumption | decide | omega) (by first | assumption | decide | omega) H.size) (va_cwS 2 hts gX11_serves_X11_mayServe rfl rfl rfl (by decide +kernel) ⟨Nat.le_of_ble_eq_true rfl, Nat.le_of_ble_eq_true rfl⟩) (he_preS (wc := []) hK hP hD hS hA hE [] rfl rfl) rfl rfl hl.1 rfl (lv_room (Nat.le_of_ble_eq_true rfl)) dX11_serves_56 ⟨(Nat.le_of_ble_eq_true rfl), (Nat.le_of_ble_eq_true rfl)⟩) hP hD hS hA [] (he_is [0, 1, 2] [(oX11 m0 0 ta sz_ pl at_ fa fw cs fd rfm rt_ to_ rw_ wa ct rk rb cn br sm as_ go sh_ ir oa ob th ig sp_ ki tg of_ kp sf rs), (aM g of_ 2 (he_ro 2 r9)), (aM g rs 13 (he_ro 13 r11))] (he_pl g L ln Mu_12)) rfl (he_ixP rfl) (he_ndP rfl rfl) (he_disN (by decide) rfl) (fun r_18 u_19 H locs h_20 hP hD hS => ?_)
                have hP := va_P.swap hP
                have hD := va_D.swap hD
                subst h_20
                have hP : va_P g.1 vwCl ([(oX11 m0 0 ta sz_ pl at_ fa fw cs fd rfm rt_ to_ rw_ wa ct rk rb cn br sm as_ go sh_ ir oa ob th ig sp_ ki tg of_ kp sf rs), (aM g of_ 2 (he_ro 2 r9)), (aM g rs 13 (he_ro 13 r11))] ++ he_pl g L ln Mu_12) H := hP
                have hD : va_D A ([(oX11 m0 0 ta sz_ pl at_ fa fw cs fd rfm rt_ to_ rw_ wa ct rk rb cn br sm as_ go sh_ ir oa ob th ig sp_ ki tg of_ kp sf rs), (aM g of_ 2 (he_ro 2 r9)), (aM g rs 13 (he_ro 13 r11))] ++ he_pl g L ln Mu_12) := hD
                refine lv_if_eq (tgt := 76) hx hb dX11_serves_59 (by decide) (fun c_21 => ?_) (fun c_21 => ?_)
                · have hne : wo ≠ ex := fun h9 => hex2 (by rw [← h9]; exact c_21)
                  refine lv_iinc (v := nI (wo + 1)) (lv' := [(4, .int (nI (wo + 1))), (0, .ref m0), (1, .int (nI n)), (2, .int (nI (bestN (rsN o (12 - mi)) la 3))), (3, .int (nI la)), (5, .int (nI mi))]) hx hb dX11_serves_76 hl (k := 4) rfl (nI_1 wo) (by decide) rfl (fun ls hl => ?_)
                  refine lv_goto (tgt := 53) hx hb dX11_serves_79 (by decide) ?_
                  exact ih53 (wo + 1) (by omega) (by omega) (fw_n hfw (by omega) (Or.inl c_21)) _ _ _ hP hD hS (lv_sub hl [1, 2, 3, 4, 0, 5] rfl)
                · refine lv_aload_n hx hb dX11_serves_62 rfl (lv_at hl 0 rfl) ?_
                  refine va_get (v := .ref rs) (T := TX11) (N := 35) hx hb hts inX11 hown hK hP 0 rfl rfl 34 (by decide) f76 (fun _ h9 => h9) rfl dX11_serves_63 ?_
                  refine lv_iload hx hb dX11_serves_66 (lv_at hl 5 rfl) ?_
                  refine he_aldm hx hb hK hP 2 rfl (mi) rfl (by first | assumption | decide | omega) (by decide) dX11_serves_68 ?_
                  refine lv_iload hx hb dX11_serves_69 (lv_at hl 4 rfl) ?_
                  refine he_pald hx hb hK hP (F_r11 mi (by first | assumption | decide | omega)).1 (wo) rfl (by rw [(F_r11 mi (by first | assumption | decide | omega)).2.1]; exact (by first | assumption | decide | omega)) (by rw [(F_r11 mi (by first | assumption | decide | omega)).2.1]; decide) (nI (rsN o (12 - mi) wo)) (rs_m hrs (by omega) (by omega)) dX11_serves_71 ?_
                  refine lv_iload_n hx hb dX11_serves_72 rfl (lv_at hl 2 rfl) ?_
                  refine lv_icmp_eq (tgt := 82) hx hb dX11_serves_73 (by decide) (fun c_22 => ?_) (fun c_22 => ?_)
                  · refine lv_iload_n hx hb dX11_serves_82 rfl (lv_at hl 2 rfl) ?_
                    refine lv_iload hx hb dX11_serves_83 (lv_at hl 4 rfl) ?_
                    refine lv_if_ne (tgt := 92) hx hb dX11_serves_85 (by decide) (fun c_23 => ?_) (fun c_23 => ?_)
                    · have k_24 : ¬ (wo = 0) := fun h9 => c_23 ((he_ceq (a := wo) (b := 0) rfl (by decide) (by omega) (by omega)).mpr h9)
                      refine lv_aload_n hx hb dX11_serves_92 rfl (lv_at hl 0 rfl) ?_
                      refine va_get (v := .ref of_) (T := TX11) (N := 35) hx hb hts inX11 hown hK hP 0 rfl rfl 31 (by decide) f70 (fun _ h9 => h9) rfl dX11_serves_93 ?_
                      refine lv_iload hx hb dX11_serves_96 (lv_at hl 4 rfl) ?_
                      refine lv_iconst (v := 1) hx hb dX11_serves_98 (by decide) ?_
                      refine lv_isub hx hb dX11_serves_99 ?_
                      refine he_top (nI (wo - 1)) (pk_sub (b := 1) (by omega)) ?_
                      refine he_aldm hx hb hK hP 1 rfl (wo - 1) rfl (by first | assumption | decide | omega) (by decide) dX11_serves_100 ?_
                      refine lv_iload hx hb dX11_serves_101 (lv_at hl 5 rfl) ?_
                      refine he_pald hx hb hK hP (F_r9 (wo - 1) (by first | assumption | decide | omega)).1 (mi) rfl (by rw [(F_r9 (wo - 1) (by first | assumption | decide | omega)).2.1]; exact (by first | assumption | decide | omega)) (by rw [(F_r9 (wo - 1) (by first | assumption | decide | omega)).2.1]; decide) (nI (o (wo - 1) mi)) (by rw [HX _ (fun i hi => D_r9_r11 (wo - 1) i (by omega) hi)]; exact ho (wo - 1) (by omega) mi (by omega)) dX11_serves_103 ?_
                      refine lv_isub hx hb dX11_serves_104 ?_
                      refine he_top (nI (bestN (rsN o (12 - (mi + 1))) wo 3)) (by have h8 := sv_next (o := o) (w := wo) (m := mi) (by omega); rw [if_neg (by omega)] at h8; rw [← c_22]; exact h8) ?_
                      refine lv_istore_n (lv' := [(2, .int (nI (bestN (rsN o (12 - (mi + 1))) wo 3))), (0, .ref m0), (1, .int (nI n)), (3, .int (nI la)), (4, .int (nI wo)), (5, .int (nI mi))]) hx hb dX11_serves_105 rfl hl (by decide) rfl (fun ls hl => ?_)
                      refine lv_iload hx hb dX11_serves_106 (lv_at hl 4 rfl) ?_
                      refine lv_istore_n (lv' := [(3, .int (nI wo)), (2, .int (nI (bestN (rsN o (12 - (mi + 1))) wo 3))), (0, .ref m0), (1, .int (nI n)), (4, .int (nI wo)), (5, .int (nI mi))]) hx hb dX11_serves_108 rfl hl (by decide) rfl (fun ls hl => ?_)
                      refine lv_iinc (v := nI (mi + 1)) (lv' := [(5, .int (nI (mi + 1))), (3, .int (nI wo)), (2, .int (nI (bestN (rsN o (12 - (mi + 1))) wo 3))), (0, .ref m0), (1, .int (nI n)), (4, .int (nI wo))]) hx hb dX11_serves_109 hl (k := 5) rfl (nI_1 mi) (by decide) rfl (fun ls hl => ?_)
                      refine lv_goto (tgt := 44) hx hb dX11_serves_112 (by decide) ?_
                      exact ih44 (mi + 1) wo wo (by omega) (by omega) (by omega) ⟨(sv_s hsv.1 hfw (by omega) c_21 (nI_j (rsN_b hob wo) (bsN_b hob (by decide)) c_22)), (sv_s hsv.1 hfw (by omega) c_21 (nI_j (rsN_b hob wo) (bsN_b hob (by decide)) c_22))⟩ _ _ _ hP hD hS (lv_sub hl [3, 4, 2, 1, 5, 0] rfl)
                    · have k_25 : wo = 0 := (he_ceq (a := wo) (b := 0) rfl (by decide) (by omega) (by omega)).mp c_23
                      refine lv_iconst (v := 0) hx hb dX11_serves_88 (by decide) ?_
                      refine lv_goto (tgt := 104) hx hb dX11_serves_89 (by decide) ?_
                      refine lv_isub hx hb dX11_serves_104 ?_
                      refine he_top (nI (bestN (rsN o (12 - (mi + 1))) wo 3)) (by have h8 := sv_next (o := o) (w := wo) (m := mi) (by omega); rw [if_pos (by omega)] at h8; rw [← c_22]; exact h8) ?_
                      refine lv_istore_n (lv' := [(2, .int (nI (bestN (rsN o (12 - (mi + 1))) wo 3))), (0, .ref m0), (1, .int (nI n)), (3, .int (nI la)), (4, .int (nI wo)), (5, .int (nI mi))]) hx hb dX11_serves_105 rfl hl (by decide) rfl (fun ls hl => ?_)
                      refine lv_iload hx hb dX11_serves_106 (lv_at hl 4 rfl) ?_
                      refine lv_istore_n (lv' := [(3, .int (nI wo)), (2, .int (nI (bestN (rsN o (12 - (mi + 1))) wo 3))), (0, .ref m0), (1, .int (nI n)), (4, .int (nI wo)), (5, .int (nI mi))]) hx hb dX11_serves_108 rfl hl (by decide) rfl (fun ls hl => ?_)
                      refine lv_iinc (v := nI (mi + 1)) (lv' := [(5, .int (nI (mi + 1))), (3, .int (nI wo)), (2, .int (nI (bestN (rsN o (12 - (mi + 1))) wo 3))), (0, .ref m0), (1, .int (nI n)), (4, .int (nI wo))]) hx hb dX11_serves_109 hl (k := 5) rfl (nI_1 mi) (by decide) rfl (fun ls hl => ?_)
                      refine lv_goto (tgt := 44) hx hb dX11_serves_112 (by decide) ?_
                      exact ih44 (mi + 1) wo wo (by omega) (by omega) (by omega) ⟨(sv_s hsv.1 hfw (by omega) c_21 (nI_j (rsN_b hob wo) (bsN_b hob (by decide)) c_22)), (sv_s hsv.1 hfw (by omega) c_21 (nI_j (rsN_b hob wo) (bsN_b hob (by decide)) c_22))⟩ _ _ _ hP hD hS (lv_sub hl [3, 4, 2, 1, 5, 0] rfl)
                  · have hne : wo ≠ ex := fun h9 => c_22 (by rw [h9, hex3])
                    refine lv_iinc (v := nI (wo + 1)) (lv' := [(4, .int (nI (wo + 1))), (0, .ref m0), (1, .int (nI n)), (2, .int (nI (bestN (rsN o (12 - mi)) la 3))), (3, .int (nI la)), (5, .int (nI mi))]) hx hb dX11_serves_76 hl (k := 4) rfl (nI_1 wo) (by decide) rfl (fun ls hl => ?_)
                    refine lv_goto (tgt := 53) hx hb dX11_serves_79 (by decide) ?_
                    exact ih53 (wo + 1) (by omega) (by omega) (fw_n hfw (by omega) (Or.inr (fun h9 => c_22 (by rw [h9])))) _ _ _ hP hD hS (lv_sub hl [1, 2, 3, 4, 0, 5] rfl)
            exact loop53 ((3 - 0) + 1) 0 (Nat.lt_succ_self _) (Nat.zero_le _) rfl _ _ _ hP hD hS (lv_sub hl [1, 2, 3, 4, 0, 5] rfl)
      exact loop44 ((n + 1 - 0) + 1) 0 0 0 (Nat.lt_succ_self _) (Nat.zero_le _) (by decide) ⟨rfl, rfl⟩ _ _ _ hP hD hS (lv_sub hl [4, 5, 3, 2, 1, 0] rfl)
    · exact absurd (by decide) c_8
  · exact absurd c_4 (by decide)
