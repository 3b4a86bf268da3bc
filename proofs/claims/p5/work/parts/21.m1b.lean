set_option maxHeartbeats 4000000 in
set_option maxRecDepth 100000 in
theorem h_X11_isWord_20_15_23_14_0_0 (l : Launch) (g : he_G) (m0 : Nat) (fd : Nat) (rfm : Nat) (rt_ : Nat) (to_ : Nat) (rw_ : Nat) (wa : Nat) (rk : Nat) (rb : Nat) (cn : Nat) (br : Nat) (sm : Nat) (as_ : Nat) (go : Nat) (sh_ : Nat) (ki : Nat) (tg : Nat) (of_ : Nat) (kp : Nat) (rs : Nat) (ta : Int32) (pl : Int32) (cs : Int32) (ct : Int32) (ir : Int32) (oa : Int32) (ob : Int32) (th : Int32) (ig : Int32) (sp_ : Int32) (sf : Int32) (tw : Int32) (n : Nat) (k : Nat) (fw : Int32) (fb : Nat → Int32) (hn : n ≤ 500) (hk : k ≤ n) : he_I l yX11_isWord wsX11_isWord 3 63 0 0 g [.ref m0, .int 20, .int 15, .int 23, .int 14, .int 0, .int 0] [(oX11 m0 tw ta (nI n) pl (nI k) 0 fw cs fd rfm rt_ to_ rw_ wa ct rk rb cn br sm as_ go sh_ ir oa ob th ig sp_ ki tg of_ kp sf rs), (aI g fd 500 fb)] (fun (r : Int32) (u : Nat) => (r = 0 ∨ r = 1) ∧ k ≤ u ∧ u ≤ n) (fun (u : Nat) => [(oX11 m0 tw ta (nI n) pl (nI u) 0 fw cs fd rfm rt_ to_ rw_ wa ct rk rb cn br sm as_ go sh_ ir oa ob th ig sp_ ki tg of_ kp sf rs), (aI g fd 500 fb)]) := by
  refine he_begin (l := l) (g := g) (y := yX11_isWord) (wl := wsX11_isWord) (fr := 3) (lo := 63) (mc := 0) (ms := 0) (av := [.ref m0, .int 20, .int 15, .int 23, .int 14, .int 0, .int 0]) (ws := [(oX11 m0 tw ta (nI n) pl (nI k) 0 fw cs fd rfm rt_ to_ rw_ wa ct rk rb cn br sm as_ go sh_ ir oa ob th ig sp_ ki tg of_ kp sf rs), (aI g fd 500 fb)]) (cc := cX11_isWord) (maxL := 7) (ret := (some .boolean)) (fun A => va_Qi (fun (r : Int32) (u : Nat) => (r = 0 ∨ r = 1) ∧ k ≤ u ∧ u ≤ n) (fun u t => he_post g A ((fun (u : Nat) => [(oX11 m0 tw ta (nI n) pl (nI u) 0 fw cs fd rfm rt_ to_ rw_ wa ct rk rb cn br sm as_ go sh_ ir oa ob th ig sp_ ki tg of_ kp sf rs), (aI g fd 500 fb)]) u) t) A) (by decide) rfl (Nat.le_of_ble_eq_true rfl) ?_
  intro p e s m args below meth c A ls H locs Q hQ hB
  obtain ⟨hx, hb, hr, hml, hown, hts, hlk, hin, hP, hK, hD, hS, hA, hE, hl⟩ := hB
  have hl : lv_has ls 7 [(0, .ref m0), (1, .int 20), (2, .int 15), (3, .int 23), (4, .int 14), (5, .int 0), (6, .int 0)] := hl
  have f101 := hts (.fieldLink RX11 101 "HiredEnemyModel" "fault" "I") (iwoX11_isWord (k := 0) rfl)
  have inX11 : ∀ w ∈ wsX110, w ∈ wsX11_isWord := innX11_isWord_X11
  refine lv_aload_n hx hb dX11_isWord_0 rfl (lv_at hl 0 rfl) ?_
  refine va_get (v := .int 0) (T := TX11) (N := 35) hx hb hts inX11 hown hK hP 0 rfl rfl 5 (by decide) f101 (fun _ h9 => h9) rfl dX11_isWord_1 ?_
  refine lv_if_ne (tgt := 30) hx hb dX11_isWord_4 (by decide) (fun c_1 => ?_) (fun c_1 => ?_)
  · exact absurd (by decide) c_1
  · refine lv_aload_n hx hb dX11_isWord_7 rfl (lv_at hl 0 rfl) ?_
    refine he_ci (wc := [(oX11 m0 tw ta (nI n) pl (nI k) 0 fw cs fd rfm rt_ to_ rw_ wa ct rk rb cn br sm as_ go sh_ ir oa ob th ig sp_ ki tg of_ kp sf rs), (aI g fd 500 fb)]) (wr := []) (va_runV (As := []) (rest := []) ⟨hx, hb, hml, hown, hts⟩ (h_X11_wordHere l g m0 fd rfm rt_ to_ rw_ wa rk rb cn br sm as_ go sh_ ki tg of_ kp rs ta pl cs ct ir oa ob th ig sp_ sf tw n k 0 fw fb (by first | assumption | decide | omega) (by first | assumption | decide | omega) H.size) (cwV 0 hts gX11_isWord_X11_wordHere rfl rfl rfl (by decide +kernel) ⟨Nat.le_of_ble_eq_true rfl, Nat.le_of_ble_eq_true rfl⟩) (he_preV (wc := [(oX11 m0 tw ta (nI n) pl (nI k) 0 fw cs fd rfm rt_ to_ rw_ wa ct rk rb cn br sm as_ go sh_ ir oa ob th ig sp_ ki tg of_ kp sf rs), (aI g fd 500 fb)]) hK hP hD hS hA hE [0, 1] rfl rfl 0 rfl rfl) rfl rfl hl.1 rfl (lv_room (Nat.le_of_ble_eq_true rfl)) dX11_isWord_8 ⟨(Nat.le_of_ble_eq_true rfl), (Nat.le_of_ble_eq_true rfl)⟩) hP hD hS hA [0, 1] [] rfl rfl rfl (by decide) (fun r_2 u_3 H locs h_4 hP hD hS => ?_)
    obtain ⟨k2_5, rfl⟩ : ∃ z, z = u_3 := ⟨_, rfl⟩
    try dsimp only at h_4
    obtain ⟨hf_6, hf_7⟩ := h_4
    have hP : va_P g.1 vwCl [(oX11 m0 tw ta (nI n) pl (nI k2_5) 0 fw cs fd rfm rt_ to_ rw_ wa ct rk rb cn br sm as_ go sh_ ir oa ob th ig sp_ ki tg of_ kp sf rs), (aI g fd 500 fb)] H := hP
    have hD : va_D A [(oX11 m0 tw ta (nI n) pl (nI k2_5) 0 fw cs fd rfm rt_ to_ rw_ wa ct rk rb cn br sm as_ go sh_ ir oa ob th ig sp_ ki tg of_ kp sf rs), (aI g fd 500 fb)] := hD
    refine lv_iload_n hx hb dX11_isWord_11 rfl (lv_at hl 1 rfl) ?_
    refine lv_iload_n hx hb dX11_isWord_12 rfl (lv_at hl 2 rfl) ?_
    refine lv_iload_n hx hb dX11_isWord_13 rfl (lv_at hl 3 rfl) ?_
    refine lv_iload hx hb dX11_isWord_14 (lv_at hl 4 rfl) ?_
    refine lv_iload hx hb dX11_isWord_16 (lv_at hl 5 rfl) ?_
    refine lv_iload hx hb dX11_isWord_18 (lv_at hl 6 rfl) ?_
    refine he_ci (wc := []) (wr := [(oX11 m0 tw ta (nI n) pl (nI k2_5) 0 fw cs fd rfm rt_ to_ rw_ wa ct rk rb cn br sm as_ go sh_ ir oa ob th ig sp_ ki tg of_ kp sf rs), (aI g fd 500 fb)]) (va_runS (As := [.int 20, .int 15, .int 23, .int 14, .int 0, .int 0]) (rest := [.int r_2]) ⟨hx, hb, hml, hown, hts⟩ (h_X11_six_20_15_23_14_0_0 l g  H.size) (va_cwS 6 hts gX11_isWord_X11_six rfl rfl rfl (by decide +kernel) ⟨Nat.le_of_ble_eq_true rfl, Nat.le_of_ble_eq_true rfl⟩) (he_preS (wc := []) hK hP hD hS hA hE [] rfl rfl) rfl rfl hl.1 rfl (lv_room (Nat.le_of_ble_eq_true rfl)) dX11_isWord_20 ⟨(Nat.le_of_ble_eq_true rfl), (Nat.le_of_ble_eq_true rfl)⟩) hP hD hS hA [] [0, 1] rfl rfl rfl (by decide) (fun r_8 u_9 H locs h_10 hP hD hS => ?_)
    subst h_10
    have hP : va_P g.1 vwCl [(oX11 m0 tw ta (nI n) pl (nI k2_5) 0 fw cs fd rfm rt_ to_ rw_ wa ct rk rb cn br sm as_ go sh_ ir oa ob th ig sp_ ki tg of_ kp sf rs), (aI g fd 500 fb)] H := hP
    have hD : va_D A [(oX11 m0 tw ta (nI n) pl (nI k2_5) 0 fw cs fd rfm rt_ to_ rw_ wa ct rk rb cn br sm as_ go sh_ ir oa ob th ig sp_ ki tg of_ kp sf rs), (aI g fd 500 fb)] := hD
    refine lv_icmp_ne (tgt := 30) hx hb dX11_isWord_23 (by decide) (fun c_11 => ?_) (fun c_11 => ?_)
    · refine lv_iconst (v := 0) hx hb dX11_isWord_30 (by decide) ?_
      exact he_rz hQ hx hb hr hlk hP hD hS dX11_isWord_31 (Nat.le_of_ble_eq_true rfl) (Nat.le_of_ble_eq_true rfl) rfl (k2_5) (rfl) (⟨Or.inl rfl, by omega, by omega⟩)
    · refine lv_iconst (v := 1) hx hb dX11_isWord_26 (by decide) ?_
      refine lv_goto (tgt := 31) hx hb dX11_isWord_27 (by decide) ?_
      exact he_rz hQ hx hb hr hlk hP hD hS dX11_isWord_31 (Nat.le_of_ble_eq_true rfl) (Nat.le_of_ble_eq_true rfl) rfl (k2_5) (rfl) (⟨Or.inr rfl, by omega, by omega⟩)
set_option maxHeartbeats 4000000 in
set_option maxRecDepth 100000 in
theorem h_X11_six_6_5_1_18_0_0 (l : Launch) (g : he_G)   : he_I l yX11_six wsX11_six 0 0 0 0 g [.int 6, .int 5, .int 1, .int 18, .int 0, .int 0] [] (fun (r : Int32) (u : Unit) => r = 121788) (fun (u : Unit) => []) := by
  refine he_begin (l := l) (g := g) (y := yX11_six) (wl := wsX11_six) (fr := 0) (lo := 0) (mc := 0) (ms := 0) (av := [.int 6, .int 5, .int 1, .int 18, .int 0, .int 0]) (ws := []) (cc := cX11_six) (maxL := 7) (ret := (some .int)) (fun A => va_Qi (fun (r : Int32) (u : Unit) => r = 121788) (fun u t => he_post g A ((fun (u : Unit) => []) u) t) A) (by decide) rfl (Nat.le_of_ble_eq_true rfl) ?_
  intro p e s m args below meth c A ls H locs Q hQ hB
  obtain ⟨hx, hb, hr, hml, hown, hts, hlk, hin, hP, hK, hD, hS, hA, hE, hl⟩ := hB
  have hl : lv_has ls 7 [(0, .int 6), (1, .int 5), (2, .int 1), (3, .int 18), (4, .int 0), (5, .int 0)] := hl
  refine lv_bipush (v := 27) hx hb dX11_six_0 (by decide) ?_
  refine lv_bipush (v := 27) hx hb dX11_six_2 (by decide) ?_
  refine lv_bipush (v := 27) hx hb dX11_six_4 (by decide) ?_
  refine lv_iload_n hx hb dX11_six_6 rfl (lv_at hl 0 rfl) ?_
  refine lv_imul hx hb dX11_six_7 ?_
  refine he_top (162) (by decide) ?_
  refine lv_iload_n hx hb dX11_six_8 rfl (lv_at hl 1 rfl) ?_
  refine lv_iadd hx hb dX11_six_9 ?_
  refine he_top (167) (by decide) ?_
  refine lv_imul hx hb dX11_six_10 ?_
  refine he_top (4509) (by decide) ?_
  refine lv_iload_n hx hb dX11_six_11 rfl (lv_at hl 2 rfl) ?_
  refine lv_iadd hx hb dX11_six_12 ?_
  refine he_top (4510) (by decide) ?_
  refine lv_imul hx hb dX11_six_13 ?_
  refine he_top (121770) (by decide) ?_
  refine lv_istore (lv' := [(6, .int 121770), (0, .int 6), (1, .int 5), (2, .int 1), (3, .int 18), (4, .int 0), (5, .int 0)]) hx hb dX11_six_14 hl (by decide) rfl (fun ls hl => ?_)
  refine lv_iload_n hx hb dX11_six_16 rfl (lv_at hl 4 rfl) ?_
  refine lv_if_ne (tgt := 28) hx hb dX11_six_17 (by decide) (fun c_1 => ?_) (fun c_1 => ?_)
  · refine lv_iload hx hb dX11_six_28 (lv_at hl 0 rfl) ?_
    refine lv_iload_n hx hb dX11_six_30 rfl (lv_at hl 4 rfl) ?_
    refine lv_iadd hx hb dX11_six_31 ?_
    refine he_top (121788) (by decide) ?_
    refine lv_istore (lv' := [(6, .int 121788), (0, .int 6), (1, .int 5), (2, .int 1), (3, .int 18), (4, .int 0), (5, .int 0)]) hx hb dX11_six_32 hl (by decide) rfl (fun ls hl => ?_)
    refine lv_iload hx hb dX11_six_34 (lv_at hl 5 rfl) ?_
    refine lv_if_ne (tgt := 44) hx hb dX11_six_36 (by decide) (fun c_2 => ?_) (fun c_2 => ?_)
    · exact absurd (by decide) c_2
    · refine lv_iload hx hb dX11_six_39 (lv_at hl 0 rfl) ?_
      refine lv_goto (tgt := 52) hx hb dX11_six_41 (by decide) ?_
      refine lv_istore (lv' := [(6, .int 121788), (0, .int 6), (1, .int 5), (2, .int 1), (3, .int 18), (4, .int 0), (5, .int 0)]) hx hb dX11_six_52 hl (by decide) rfl (fun ls hl => ?_)
      refine lv_iload hx hb dX11_six_54 (lv_at hl 6 rfl) ?_
      refine lv_if_ne (tgt := 64) hx hb dX11_six_56 (by decide) (fun c_3 => ?_) (fun c_3 => ?_)
      · exact absurd (by decide) c_3
      · refine lv_iload hx hb dX11_six_59 (lv_at hl 0 rfl) ?_
        refine lv_goto (tgt := 72) hx hb dX11_six_61 (by decide) ?_
        exact he_ri hQ hx hb hr hlk hP hD hS dX11_six_72 (Nat.le_of_ble_eq_true rfl) (Nat.le_of_ble_eq_true rfl) (()) (rfl) (rfl)
  · exact absurd c_1 (by decide)
set_option maxHeartbeats 4000000 in
set_option maxRecDepth 100000 in
theorem h_X11_isWord_6_5_1_18_0_0 (l : Launch) (g : he_G) (m0 : Nat) (fd : Nat) (rfm : Nat) (rt_ : Nat) (to_ : Nat) (rw_ : Nat) (wa : Nat) (rk : Nat) (rb : Nat) (cn : Nat) (br : Nat) (sm : Nat) (as_ : Nat) (go : Nat) (sh_ : Nat) (ki : Nat) (tg : Nat) (of_ : Nat) (kp : Nat) (rs : Nat) (ta : Int32) (pl : Int32) (cs : Int32) (ct : Int32) (ir : Int32) (oa : Int32) (ob : Int32) (th : Int32) (ig : Int32) (sp_ : Int32) (sf : Int32) (tw : Int32) (n : Nat) (k : Nat) (fw : Int32) (fb : Nat → Int32) (hn : n ≤ 500) (hk : k ≤ n) : he_I l yX11_isWord wsX11_isWord 3 63 0 0 g [.ref m0, .int 6, .int 5, .int 1, .int 18, .int 0, .int 0] [(oX11 m0 tw ta (nI n) pl (nI k) 0 fw cs fd rfm rt_ to_ rw_ wa ct rk rb cn br sm as_ go sh_ ir oa ob th ig sp_ ki tg of_ kp sf rs), (aI g fd 500 fb)] (fun (r : Int32) (u : Nat) => (r = 0 ∨ r = 1) ∧ k ≤ u ∧ u ≤ n) (fun (u : Nat) => [(oX11 m0 tw ta (nI n) pl (nI u) 0 fw cs fd rfm rt_ to_ rw_ wa ct rk rb cn br sm as_ go sh_ ir oa ob th ig sp_ ki tg of_ kp sf rs), (aI g fd 500 fb)]) := by
  refine he_begin (l := l) (g := g) (y := yX11_isWord) (wl := wsX11_isWord) (fr := 3) (lo := 63) (mc := 0) (ms := 0) (av := [.ref m0, .int 6, .int 5, .int 1, .int 18, .int 0, .int 0]) (ws := [(oX11 m0 tw ta (nI n) pl (nI k) 0 fw cs fd rfm rt_ to_ rw_ wa ct rk rb cn br sm as_ go sh_ ir oa ob th ig sp_ ki tg of_ kp sf rs), (aI g fd 500 fb)]) (cc := cX11_isWord) (maxL := 7) (ret := (some .boolean)) (fun A => va_Qi (fun (r : Int32) (u : Nat) => (r = 0 ∨ r = 1) ∧ k ≤ u ∧ u ≤ n) (fun u t => he_post g A ((fun (u : Nat) => [(oX11 m0 tw ta (nI n) pl (nI u) 0 fw cs fd rfm rt_ to_ rw_ wa ct rk rb cn br sm as_ go sh_ ir oa ob th ig sp_ ki tg of_ kp sf rs), (aI g fd 500 fb)]) u) t) A) (by decide) rfl (Nat.le_of_ble_eq_true rfl) ?_
  intro p e s m args below meth c A ls H locs Q hQ hB
  obtain ⟨hx, hb, hr, hml, hown, hts, hlk, hin, hP, hK, hD, hS, hA, hE, hl⟩ := hB
  have hl : lv_has ls 7 [(0, .ref m0), (1, .int 6), (2, .int 5), (3, .int 1), (4, .int 18), (5, .int 0), (6, .int 0)] := hl
  have f101 := hts (.fieldLink RX11 101 "HiredEnemyModel" "fault" "I") (iwoX11_isWord (k := 0) rfl)
  have inX11 : ∀ w ∈ wsX110, w ∈ wsX11_isWord := innX11_isWord_X11
  refine lv_aload_n hx hb dX11_isWord_0 rfl (lv_at hl 0 rfl) ?_
  refine va_get (v := .int 0) (T := TX11) (N := 35) hx hb hts inX11 hown hK hP 0 rfl rfl 5 (by decide) f101 (fun _ h9 => h9) rfl dX11_isWord_1 ?_
  refine lv_if_ne (tgt := 30) hx hb dX11_isWord_4 (by decide) (fun c_1 => ?_) (fun c_1 => ?_)
  · exact absurd (by decide) c_1
  · refine lv_aload_n hx hb dX11_isWord_7 rfl (lv_at hl 0 rfl) ?_
    refine he_ci (wc := [(oX11 m0 tw ta (nI n) pl (nI k) 0 fw cs fd rfm rt_ to_ rw_ wa ct rk rb cn br sm as_ go sh_ ir oa ob th ig sp_ ki tg of_ kp sf rs), (aI g fd 500 fb)]) (wr := []) (va_runV (As := []) (rest := []) ⟨hx, hb, hml, hown, hts⟩ (h_X11_wordHere l g m0 fd rfm rt_ to_ rw_ wa rk rb cn br sm as_ go sh_ ki tg of_ kp rs ta pl cs ct ir oa ob th ig sp_ sf tw n k 0 fw fb (by first | assumption | decide | omega) (by first | assumption | decide | omega) H.size) (cwV 0 hts gX11_isWord_X11_wordHere rfl rfl rfl (by decide +kernel) ⟨Nat.le_of_ble_eq_true rfl, Nat.le_of_ble_eq_true rfl⟩) (he_preV (wc := [(oX11 m0 tw ta (nI n) pl (nI k) 0 fw cs fd rfm rt_ to_ rw_ wa ct rk rb cn br sm as_ go sh_ ir oa ob th ig sp_ ki tg of_ kp sf rs), (aI g fd 500 fb)]) hK hP hD hS hA hE [0, 1] rfl rfl 0 rfl rfl) rfl rfl hl.1 rfl (lv_room (Nat.le_of_ble_eq_true rfl)) dX11_isWord_8 ⟨(Nat.le_of_ble_eq_true rfl), (Nat.le_of_ble_eq_true rfl)⟩) hP hD hS hA [0, 1] [] rfl rfl rfl (by decide) (fun r_2 u_3 H locs h_4 hP hD hS => ?_)
    obtain ⟨k2_5, rfl⟩ : ∃ z, z = u_3 := ⟨_, rfl⟩
    try dsimp only at h_4
    obtain ⟨hf_6, hf_7⟩ := h_4
    have hP : va_P g.1 vwCl [(oX11 m0 tw ta (nI n) pl (nI k2_5) 0 fw cs fd rfm rt_ to_ rw_ wa ct rk rb cn br sm as_ go sh_ ir oa ob th ig sp_ ki tg of_ kp sf rs), (aI g fd 500 fb)] H := hP
    have hD : va_D A [(oX11 m0 tw ta (nI n) pl (nI k2_5) 0 fw cs fd rfm rt_ to_ rw_ wa ct rk rb cn br sm as_ go sh_ ir oa ob th ig sp_ ki tg of_ kp sf rs), (aI g fd 500 fb)] := hD
    refine lv_iload_n hx hb dX11_isWord_11 rfl (lv_at hl 1 rfl) ?_
    refine lv_iload_n hx hb dX11_isWord_12 rfl (lv_at hl 2 rfl) ?_
    refine lv_iload_n hx hb dX11_isWord_13 rfl (lv_at hl 3 rfl) ?_
    refine lv_iload hx hb dX11_isWord_14 (lv_at hl 4 rfl) ?_
    refine lv_iload hx hb dX11_isWord_16 (lv_at hl 5 rfl) ?_
    refine lv_iload hx hb dX11_isWord_18 (lv_at hl 6 rfl) ?_
    refine he_ci (wc := []) (wr := [(oX11 m0 tw ta (nI n) pl (nI k2_5) 0 fw cs fd rfm rt_ to_ rw_ wa ct rk rb cn br sm as_ go sh_ ir oa ob th ig sp_ ki tg of_ kp sf rs), (aI g fd 500 fb)]) (va_runS (As := [.int 6, .int 5, .int 1, .int 18, .int 0, .int 0]) (rest := [.int r_2]) ⟨hx, hb, hml, hown, hts⟩ (h_X11_six_6_5_1_18_0_0 l g  H.size) (va_cwS 6 hts gX11_isWord_X11_six rfl rfl rfl (by decide +kernel) ⟨Nat.le_of_ble_eq_true rfl, Nat.le_of_ble_eq_true rfl⟩) (he_preS (wc := []) hK hP hD hS hA hE [] rfl rfl) rfl rfl hl.1 rfl (lv_room (Nat.le_of_ble_eq_true rfl)) dX11_isWord_20 ⟨(Nat.le_of_ble_eq_true rfl), (Nat.le_of_ble_eq_true rfl)⟩) hP hD hS hA [] [0, 1] rfl rfl rfl (by decide) (fun r_8 u_9 H locs h_10 hP hD hS => ?_)
    subst h_10
    have hP : va_P g.1 vwCl [(oX11 m0 tw ta (nI n) pl (nI k2_5) 0 fw cs fd rfm rt_ to_ rw_ wa ct rk rb cn br sm as_ go sh_ ir oa ob th ig sp_ ki tg of_ kp sf rs), (aI g fd 500 fb)] H := hP
    have hD : va_D A [(oX11 m0 tw ta (nI n) pl (nI k2_5) 0 fw cs fd rfm rt_ to_ rw_ wa ct rk rb cn br sm as_ go sh_ ir oa ob th ig sp_ ki tg of_ kp sf rs), (aI g fd 500 fb)] := hD
    refine lv_icmp_ne (tgt := 30) hx hb dX11_isWord_23 (by decide) (fun c_11 => ?_) (fun c_11 => ?_)
    · refine lv_iconst (v := 0) hx hb dX11_isWord_30 (by decide) ?_
      exact he_rz hQ hx hb hr hlk hP hD hS dX11_isWord_31 (Nat.le_of_ble_eq_true rfl) (Nat.le_of_ble_eq_true rfl) rfl (k2_5) (rfl) (⟨Or.inl rfl, by omega, by omega⟩)
    · refine lv_iconst (v := 1) hx hb dX11_isWord_26 (by decide) ?_
      refine lv_goto (tgt := 31) hx hb dX11_isWord_27 (by decide) ?_
      exact he_rz hQ hx hb hr hlk hP hD hS dX11_isWord_31 (Nat.le_of_ble_eq_true rfl) (Nat.le_of_ble_eq_true rfl) rfl (k2_5) (rfl) (⟨Or.inr rfl, by omega, by omega⟩)
set_option maxHeartbeats 4000000 in
set_option maxRecDepth 100000 in
theorem h_X11_six_13_1_19_15_14_0 (l : Launch) (g : he_G)   : he_I l yX11_six wsX11_six 0 0 0 0 g [.int 13, .int 1, .int 19, .int 15, .int 14, .int 0] [] (fun (r : Int32) (u : Unit) => r = 6942686) (fun (u : Unit) => []) := by
  refine he_begin (l := l) (g := g) (y := yX11_six) (wl := wsX11_six) (fr := 0) (lo := 0) (mc := 0) (ms := 0) (av := [.int 13, .int 1, .int 19, .int 15, .int 14, .int 0]) (ws := []) (cc := cX11_six) (maxL := 7) (ret := (some .int)) (fun A => va_Qi (fun (r : Int32) (u : Unit) => r = 6942686) (fun u t => he_post g A ((fun (u : Unit) => []) u) t) A) (by decide) rfl (Nat.le_of_ble_eq_true rfl) ?_
  intro p e s m args below meth c A ls H locs Q hQ hB
  obtain ⟨hx, hb, hr, hml, hown, hts, hlk, hin, hP, hK, hD, hS, hA, hE, hl⟩ := hB
  have hl : lv_has ls 7 [(0, .int 13), (1, .int 1), (2, .int 19), (3, .int 15), (4, .int 14), (5, .int 0)] := hl
  refine lv_bipush (v := 27) hx hb dX11_six_0 (by decide) ?_
  refine lv_bipush (v := 27) hx hb dX11_six_2 (by decide) ?_
  refine lv_bipush (v := 27) hx hb dX11_six_4 (by decide) ?_
  refine lv_iload_n hx hb dX11_six_6 rfl (lv_at hl 0 rfl) ?_
  refine lv_imul hx hb dX11_six_7 ?_
  refine he_top (351) (by decide) ?_
  refine lv_iload_n hx hb dX11_six_8 rfl (lv_at hl 1 rfl) ?_
  refine lv_iadd hx hb dX11_six_9 ?_
  refine he_top (352) (by decide) ?_
  refine lv_imul hx hb dX11_six_10 ?_
  refine he_top (9504) (by decide) ?_
  refine lv_iload_n hx hb dX11_six_11 rfl (lv_at hl 2 rfl) ?_
  refine lv_iadd hx hb dX11_six_12 ?_
  refine he_top (9523) (by decide) ?_
  refine lv_imul hx hb dX11_six_13 ?_
  refine he_top (257121) (by decide) ?_
  refine lv_istore (lv' := [(6, .int 257121), (0, .int 13), (1, .int 1), (2, .int 19), (3, .int 15), (4, .int 14), (5, .int 0)]) hx hb dX11_six_14 hl (by decide) rfl (fun ls hl => ?_)
  refine lv_iload_n hx hb dX11_six_16 rfl (lv_at hl 4 rfl) ?_
  refine lv_if_ne (tgt := 28) hx hb dX11_six_17 (by decide) (fun c_1 => ?_) (fun c_1 => ?_)
  · refine lv_iload hx hb dX11_six_28 (lv_at hl 0 rfl) ?_
    refine lv_iload_n hx hb dX11_six_30 rfl (lv_at hl 4 rfl) ?_
    refine lv_iadd hx hb dX11_six_31 ?_
    refine he_top (257136) (by decide) ?_
    refine lv_istore (lv' := [(6, .int 257136), (0, .int 13), (1, .int 1), (2, .int 19), (3, .int 15), (4, .int 14), (5, .int 0)]) hx hb dX11_six_32 hl (by decide) rfl (fun ls hl => ?_)
    refine lv_iload hx hb dX11_six_34 (lv_at hl 5 rfl) ?_
    refine lv_if_ne (tgt := 44) hx hb dX11_six_36 (by decide) (fun c_2 => ?_) (fun c_2 => ?_)
    · refine lv_bipush (v := 27) hx hb dX11_six_44 (by decide) ?_
      refine lv_iload hx hb dX11_six_46 (lv_at hl 0 rfl) ?_
      refine lv_imul hx hb dX11_six_48 ?_
      refine he_top (6942672) (by decide) ?_
      refine lv_iload hx hb dX11_six_49 (lv_at hl 5 rfl) ?_
      refine lv_iadd hx hb dX11_six_51 ?_
      refine he_top (6942686) (by decide) ?_
      refine lv_istore (lv' := [(6, .int 6942686), (0, .int 13), (1, .int 1), (2, .int 19), (3, .int 15), (4, .int 14), (5, .int 0)]) hx hb dX11_six_52 hl (by decide) rfl (fun ls hl => ?_)
      refine lv_iload hx hb dX11_six_54 (lv_at hl 6 rfl) ?_
      refine lv_if_ne (tgt := 64) hx hb dX11_six_56 (by decide) (fun c_3 => ?_) (fun c_3 => ?_)
      · exact absurd (by decide) c_3
      · refine lv_iload hx hb dX11_six_59 (lv_at hl 0 rfl) ?_
        refine lv_goto (tgt := 72) hx hb dX11_six_61 (by decide) ?_
        exact he_ri hQ hx hb hr hlk hP hD hS dX11_six_72 (Nat.le_of_ble_eq_true rfl) (Nat.le_of_ble_eq_true rfl) (()) (rfl) (rfl)
    · exact absurd c_2 (by decide)
  · exact absurd c_1 (by decide)
set_option maxHeartbeats 4000000 in
set_option maxRecDepth 100000 in
theorem h_X11_isWord_13_1_19_15_14_0 (l : Launch) (g : he_G) (m0 : Nat) (fd : Nat) (rfm : Nat) (rt_ : Nat) (to_ : Nat) (rw_ : Nat) (wa : Nat) (rk : Nat) (rb : Nat) (cn : Nat) (br : Nat) (sm : Nat) (as_ : Nat) (go : Nat) (sh_ : Nat) (ki : Nat) (tg : Nat) (of_ : Nat) (kp : Nat) (rs : Nat) (ta : Int32) (pl : Int32) (cs : Int32) (ct : Int32) (ir : Int32) (oa : Int32) (ob : Int32) (th : Int32) (ig : Int32) (sp_ : Int32) (sf : Int32) (tw : Int32) (n : Nat) (k : Nat) (fw : Int32) (fb : Nat → Int32) (hn : n ≤ 500) (hk : k ≤ n) : he_I l yX11_isWord wsX11_isWord 3 63 0 0 g [.ref m0, .int 13, .int 1, .int 19, .int 15, .int 14, .int 0] [(oX11 m0 tw ta (nI n) pl (nI k) 0 fw cs fd rfm rt_ to_ rw_ wa ct rk rb cn br sm as_ go sh_ ir oa ob th ig sp_ ki tg of_ kp sf rs), (aI g fd 500 fb)] (fun (r : Int32) (u : Nat) => (r = 0 ∨ r = 1) ∧ k ≤ u ∧ u ≤ n) (fun (u : Nat) => [(oX11 m0 tw ta (nI n) pl (nI u) 0 fw cs fd rfm rt_ to_ rw_ wa ct rk rb cn br sm as_ go sh_ ir oa ob th ig sp_ ki tg of_ kp sf rs), (aI g fd 500 fb)]) := by
  refine he_begin (l := l) (g := g) (y := yX11_isWord) (wl := wsX11_isWord) (fr := 3) (lo := 63) (mc := 0) (ms := 0) (av := [.ref m0, .int 13, .int 1, .int 19, .int 15, .int 14, .int 0]) (ws := [(oX11 m0 tw ta (nI n) pl (nI k) 0 fw cs fd rfm rt_ to_ rw_ wa ct rk rb cn br sm as_ go sh_ ir oa ob th ig sp_ ki tg of_ kp sf rs), (aI g fd 500 fb)]) (cc := cX11_isWord) (maxL := 7) (ret := (some .boolean)) (fun A => va_Qi (fun (r : Int32) (u : Nat) => (r = 0 ∨ r = 1) ∧ k ≤ u ∧ u ≤ n) (fun u t => he_post g A ((fun (u : Nat) => [(oX11 m0 tw ta (nI n) pl (nI u) 0 fw cs fd rfm rt_ to_ rw_ wa ct rk rb cn br sm as_ go sh_ ir oa ob th ig sp_ ki tg of_ kp sf rs), (aI g fd 500 fb)]) u) t) A) (by decide) rfl (Nat.le_of_ble_eq_true rfl) ?_
  intro p e s m args below meth c A ls H locs Q hQ hB
  obtain ⟨hx, hb, hr, hml, hown, hts, hlk, hin, hP, hK, hD, hS, hA, hE, hl⟩ := hB
  have hl : lv_has ls 7 [(0, .ref m0), (1, .int 13), (2, .int 1), (3, .int 19), (4, .int 15), (5, .int 14), (6, .int 0)] := hl
  have f101 := hts (.fieldLink RX11 101 "HiredEnemyModel" "fault" "I") (iwoX11_isWord (k := 0) rfl)
  have inX11 : ∀ w ∈ wsX110, w ∈ wsX11_isWord := innX11_isWord_X11
  refine lv_aload_n hx hb dX11_isWord_0 rfl (lv_at hl 0 rfl) ?_
  refine va_get (v := .int 0) (T := TX11) (N := 35) hx hb hts inX11 hown hK hP 0 rfl rfl 5 (by decide) f101 (fun _ h9 => h9) rfl dX11_isWord_1 ?_
  refine lv_if_ne (tgt := 30) hx hb dX11_isWord_4 (by decide) (fun c_1 => ?_) (fun c_1 => ?_)
  · exact absurd (by decide) c_1
  · refine lv_aload_n hx hb dX11_isWord_7 rfl (lv_at hl 0 rfl) ?_
    refine he_ci (wc := [(oX11 m0 tw ta (nI n) pl (nI k) 0 fw cs fd rfm rt_ to_ rw_ wa ct rk rb cn br sm as_ go sh_ ir oa ob th ig sp_ ki tg of_ kp sf rs), (aI g fd 500 fb)]) (wr := []) (va_runV (As := []) (rest := []) ⟨hx, hb, hml, hown, hts⟩ (h_X11_wordHere l g m0 fd rfm rt_ to_ rw_ wa rk rb cn br sm as_ go sh_ ki tg of_ kp rs ta pl cs ct ir oa ob th ig sp_ sf tw n k 0 fw fb (by first | assumption | decide | omega) (by first | assumption | decide | omega) H.size) (cwV 0 hts gX11_isWord_X11_wordHere rfl rfl rfl (by decide +kernel) ⟨Nat.le_of_ble_eq_true rfl, Nat.le_of_ble_eq_true rfl⟩) (he_preV (wc := [(oX11 m0 tw ta (nI n) pl (nI k) 0 fw cs fd rfm rt_ to_ rw_ wa ct rk rb cn br sm as_ go sh_ ir oa ob th ig sp_ ki tg of_ kp sf rs), (aI g fd 500 fb)]) hK hP hD hS hA hE [0, 1] rfl rfl 0 rfl rfl) rfl rfl hl.1 rfl (lv_room (Nat.le_of_ble_eq_true rfl)) dX11_isWord_8 ⟨(Nat.le_of_ble_eq_true rfl), (Nat.le_of_ble_eq_true rfl)⟩) hP hD hS hA [0, 1] [] rfl rfl rfl (by decide) (fun r_2 u_3 H locs h_4 hP hD hS => ?_)
    obtain ⟨k2_5, rfl⟩ : ∃ z, z = u_3 := ⟨_, rfl⟩
    try dsimp only at h_4
    obtain ⟨hf_6, hf_7⟩ := h_4
    have hP : va_P g.1 vwCl [(oX11 m0 tw ta (nI n) pl (nI k2_5) 0 fw cs fd rfm rt_ to_ rw_ wa ct rk rb cn br sm as_ go sh_ ir oa ob th ig sp_ ki tg of_ kp sf rs), (aI g fd 500 fb)] H := hP
    have hD : va_D A [(oX11 m0 tw ta (nI n) pl (nI k2_5) 0 fw cs fd rfm rt_ to_ rw_ wa ct rk rb cn br sm as_ go sh_ ir oa ob th ig sp_ ki tg of_ kp sf rs), (aI g fd 500 fb)] := hD
    refine lv_iload_n hx hb dX11_isWord_11 rfl (lv_at hl 1 rfl) ?_
    refine lv_iload_n hx hb dX11_isWord_12 rfl (lv_at hl 2 rfl) ?_
    refine lv_iload_n hx hb dX11_isWord_13 rfl (lv_at hl 3 rfl) ?_
    refine lv_iload hx hb dX11_isWord_14 (lv_at hl 4 rfl) ?_
    refine lv_iload hx hb dX11_isWord_16 (lv_at hl 5 rfl) ?_
    refine lv_iload hx hb dX11_isWord_18 (lv_at hl 6 rfl) ?_
    refine he_ci (wc := []) (wr := [(oX11 m0 tw ta (nI n) pl (nI k2_5) 0 fw cs fd rfm rt_ to_ rw_ wa ct rk rb cn br sm as_ go sh_ ir oa ob th ig sp_ ki tg of_ kp sf rs), (aI g fd 500 fb)]) (va_runS (As := [.int 13, .int 1, .int 19, .int 15, .int 14, .int 0]) (rest := [.int r_2]) ⟨hx, hb, hml, hown, hts⟩ (h_X11_six_13_1_19_15_14_0 l g  H.size) (va_cwS 6 hts gX11_isWord_X11_six rfl rfl rfl (by decide +kernel) ⟨Nat.le_of_ble_eq_true rfl, Nat.le_of_ble_eq_true rfl⟩) (he_preS (wc := []) hK hP hD hS hA hE [] rfl rfl) rfl rfl hl.1 rfl (lv_room (Nat.le_of_ble_eq_true rfl)) dX11_isWord_20 ⟨(Nat.le_of_ble_eq_true rfl), (Nat.le_of_ble_eq_true rfl)⟩) hP hD hS hA [] [0, 1] rfl rfl rfl (by decide) (fun r_8 u_9 H locs h_10 hP hD hS => ?_)
    subst h_10
    have hP : va_P g.1 vwCl [(oX11 m0 tw ta (nI n) pl (nI k2_5) 0 fw cs fd rfm rt_ to_ rw_ wa ct rk rb cn br sm as_ go sh_ ir oa ob th ig sp_ ki tg of_ kp sf rs), (aI g fd 500 fb)] H := hP
    have hD : va_D A [(oX11 m0 tw ta (nI n) pl (nI k2_5) 0 fw cs fd rfm rt_ to_ rw_ wa ct rk rb cn br sm as_ go sh_ ir oa ob th ig sp_ ki tg of_ kp sf rs), (aI g fd 500 fb)] := hD
    refine lv_icmp_ne (tgt := 30) hx hb dX11_isWord_23 (by decide) (fun c_11 => ?_) (fun c_11 => ?_)
    · refine lv_iconst (v := 0) hx hb dX11_isWord_30 (by decide) ?_
      exact he_rz hQ hx hb hr hlk hP hD hS dX11_isWord_31 (Nat.le_of_ble_eq_true rfl) (Nat.le_of_ble_eq_true rfl) rfl (k2_5) (rfl) (⟨Or.inl rfl, by omega, by omega⟩)
    · refine lv_iconst (v := 1) hx hb dX11_isWord_26 (by decide) ?_
      refine lv_goto (tgt := 31) hx hb dX11_isWord_27 (by decide) ?_
      exact he_rz hQ hx hb hr hlk hP hD hS dX11_isWord_31 (Nat.le_of_ble_eq_true rfl) (Nat.le_of_ble_eq_true rfl) rfl (k2_5) (rfl) (⟨Or.inr rfl, by omega, by omega⟩)
set_option maxHeartbeats 4000000 in
set_option maxRecDepth 100000 in
theorem h_X11_six_3_15_19_20_0_0 (l : Launch) (g : he_G)   : he_I l yX11_six wsX11_six 0 0 0 0 g [.int 3, .int 15, .int 19, .int 20, .int 0, .int 0] [] (fun (r : Int32) (u : Unit) => r = 70517) (fun (u : Unit) => []) := by
  refine he_begin (l := l) (g := g) (y := yX11_six) (wl := wsX11_six) (fr := 0) (lo := 0) (mc := 0) (ms := 0) (av := [.int 3, .int 15, .int 19, .int 20, .int 0, .int 0]) (ws := []) (cc := cX11_six) (maxL := 7) (ret := (some .int)) (fun A => va_Qi (fun (r : Int32) (u : Unit) => r = 70517) (fun u t => he_post g A ((fun (u : Unit) => []) u) t) A) (by decide) rfl (Nat.le_of_ble_eq_true rfl) ?_
  intro p e s m args below meth c A ls H locs Q hQ hB
  obtain ⟨hx, hb, hr, hml, hown, hts, hlk, hin, hP, hK, hD, hS, hA, hE, hl⟩ := hB
  have hl : lv_has ls 7 [(0, .int 3), (1, .int 15), (2, .int 19), (3, .int 20), (4, .int 0), (5, .int 0)] := hl
  refine lv_bipush (v := 27) hx hb dX11_six_0 (by decide) ?_
  refine lv_bipush (v := 27) hx hb dX11_six_2 (by decide) ?_
  refine lv_bipush (v := 27) hx hb dX11_six_4 (by decide) ?_
  refine lv_iload_n hx hb dX11_six_6 rfl (lv_at hl 0 rfl) ?_
  refine lv_imul hx hb dX11_six_7 ?_
  refine he_top (81) (by decide) ?_
  refine lv_iload_n hx hb dX11_six_8 rfl (lv_at hl 1 rfl) ?_
  refine lv_iadd hx hb dX11_six_9 ?_
  refine he_top (96) (by decide) ?_
  refine lv_imul hx hb dX11_six_10 ?_
  refine he_top (2592) (by decide) ?_
  refine lv_iload_n hx hb dX11_six_11 rfl (lv_at hl 2 rfl) ?_
  refine lv_iadd hx hb dX11_six_12 ?_
  refine he_top (2611) (by decide) ?_
  refine lv_imul hx hb dX11_six_13 ?_
  refine he_top (70497) (by decide) ?_
  refine lv_istore (lv' := [(6, .int 70497), (0, .int 3), (1, .int 15), (2, .int 19), (3, .int 20), (4, .int 0), (5, .int 0)]) hx hb dX11_six_14 hl (by decide) rfl (fun ls hl => ?_)
  refine lv_iload_n hx hb dX11_six_16 rfl (lv_at hl 4 rfl) ?_
  refine lv_if_ne (tgt := 28) hx hb dX11_six_17 (by decide) (fun c_1 => ?_) (fun c_1 => ?_)
  · refine lv_iload hx hb dX11_six_28 (lv_at hl 0 rfl) ?_
    refine lv_iload_n hx hb dX11_six_30 rfl (lv_at hl 4 rfl) ?_
    refine lv_iadd hx hb dX11_six_31 ?_
    refine he_top (70517) (by decide) ?_
    refine lv_istore (lv' := [(6, .int 70517), (0, .int 3), (1, .int 15), (2, .int 19), (3, .int 20), (4, .int 0), (5, .int 0)]) hx hb dX11_six_32 hl (by decide) rfl (fun ls hl => ?_)
    refine lv_iload hx hb dX11_six_34 (lv_at hl 5 rfl) ?_
    refine lv_if_ne (tgt := 44) hx hb dX11_six_36 (by decide) (fun c_2 => ?_) (fun c_2 => ?_)
    · exact absurd (by decide) c_2
    · refine lv_iload hx hb dX11_six_39 (lv_at hl 0 rfl) ?_
      refine lv_goto (tgt := 52) hx hb dX11_six_41 (by decide) ?_
      refine lv_istore (lv' := [(6, .int 70517), (0, .int 3), (1, .int 15), (2, .int 19), (3, .int 20), (4, .int 0), (5, .int 0)]) hx hb dX11_six_52 hl (by decide) rfl (fun ls hl => ?_)
      refine lv_iload hx hb dX11_six_54 (lv_at hl 6 rfl) ?_
      refine lv_if_ne (tgt := 64) hx hb dX11_six_56 (by decide) (fun c_3 => ?_) (fun c_3 => ?_)
      · exact absurd (by decide) c_3
      · refine lv_iload hx hb dX11_six_59 (lv_at hl 0 rfl) ?_
        refine lv_goto (tgt := 72) hx hb dX11_six_61 (by decide) ?_
        exact he_ri hQ hx hb hr hlk hP hD hS dX11_six_72 (Nat.le_of_ble_eq_true rfl) (Nat.le_of_ble_eq_true rfl) (()) (rfl) (rfl)
  · exact absurd c_1 (by decide)
set_option maxHeartbeats 4000000 in
set_option maxRecDepth 100000 in
theorem h_X11_isWord_3_15_19_20_0_0 (l : Launch) (g : he_G) (m0 : Nat) (fd : Nat) (rfm : Nat) (rt_ : Nat) (to_ : Nat) (rw_ : Nat) (wa : Nat) (rk : Nat) (rb : Nat) (cn : Nat) (br : Nat) (sm : Nat) (as_ : Nat) (go : Nat) (sh_ : Nat) (ki : Nat) (tg : Nat) (of_ : Nat) (kp : Nat) (rs : Nat) (ta : Int32) (pl : Int32) (cs : Int32) (ct : Int32) (ir : Int32) (oa : Int32) (ob : Int32) (th : Int32) (ig : Int32) (sp_ : Int32) (sf : Int32) (tw : Int32) (n : Nat) (k : Nat) (fw : Int32) (fb : Nat → Int32) (hn : n ≤ 500) (hk : k ≤ n) : he_I l yX11_isWord wsX11_isWord 3 63 0 0 g [.ref m0, .int 3, .int 15, .int 19, .int 20, .int 0, .int 0] [(oX11 m0 tw ta (nI n) pl (nI k) 0 fw cs fd rfm rt_ to_ rw_ wa ct rk rb cn br sm as_ go sh_ ir oa ob th ig sp_ ki tg of_ kp sf rs), (aI g fd 500 fb)] (fun (r : Int32) (u : Nat) => (r = 0 ∨ r = 1) ∧ k ≤ u ∧ u ≤ n) (fun (u : Nat) => [(oX11 m0 tw ta (nI n) pl (nI u) 0 fw cs fd rfm rt_ to_ rw_ wa ct rk rb cn br sm as_ go sh_ ir oa ob th ig sp_ ki tg of_ kp sf rs), (aI g fd 500 fb)]) := by
  refine he_begin (l := l) (g := g) (y := yX11_isWord) (wl := wsX11_isWord) (fr := 3) (lo := 63) (mc := 0) (ms := 0) (av := [.ref m0, .int 3, .int 15, .int 19, .int 20, .int 0, .int 0]) (ws := [(oX11 m0 tw ta (nI n) pl (nI k) 0 fw cs fd rfm rt_ to_ rw_ wa ct rk rb cn br sm as_ go sh_ ir oa ob th ig sp_ ki tg of_ kp sf rs), (aI g fd 500 fb)]) (cc := cX11_isWord) (maxL := 7) (ret := (some .boolean)) (fun A => va_Qi (fun (r : Int32) (u : Nat) => (r = 0 ∨ r = 1) ∧ k ≤ u ∧ u ≤ n) (fun u t => he_post g A ((fun (u : Nat) => [(oX11 m0 tw ta (nI n) pl (nI u) 0 fw cs fd rfm rt_ to_ rw_ wa ct rk rb cn br sm as_ go sh_ ir oa ob th ig sp_ ki tg of_ kp sf rs), (aI g fd 500 fb)]) u) t) A) (by decide) rfl (Nat.le_of_ble_eq_true rfl) ?_
  intro p e s m args below meth c A ls H locs Q hQ hB
  obtain ⟨hx, hb, hr, hml, hown, hts, hlk, hin, hP, hK, hD, hS, hA, hE, hl⟩ := hB
  have hl : lv_has ls 7 [(0, .ref m0), (1, .int 3), (2, .int 15), (3, .int 19), (4, .int 20), (5, .int 0), (6, .int 0)] := hl
  have f101 := hts (.fieldLink RX11 101 "HiredEnemyModel" "fault" "I") (iwoX11_isWord (k := 0) rfl)
  have inX11 : ∀ w ∈ wsX110, w ∈ wsX11_isWord := innX11_isWord_X11
  refine lv_aload_n hx hb dX11_isWord_0 rfl (lv_at hl 0 rfl) ?_
  refine va_get (v := .int 0) (T := TX11) (N := 35) hx hb hts inX11 hown hK hP 0 rfl rfl 5 (by decide) f101 (fun _ h9 => h9) rfl dX11_isWord_1 ?_
  refine lv_if_ne (tgt := 30) hx hb dX11_isWord_4 (by decide) (fun c_1 => ?_) (fun c_1 => ?_)
  · exact absurd (by decide) c_1
  · refine lv_aload_n hx hb dX11_isWord_7 rfl (lv_at hl 0 rfl) ?_
    refine he_ci (wc := [(oX11 m0 tw ta (nI n) pl (nI k) 0 fw cs fd rfm rt_ to_ rw_ wa ct rk rb cn br sm as_ go sh_ ir oa ob th ig sp_ ki tg of_ kp sf rs), (aI g fd 500 fb)]) (wr := []) (va_runV (As := []) (rest := []) ⟨hx, hb, hml, hown, hts⟩ (h_X11_wordHere l g m0 fd rfm rt_ to_ rw_ wa rk rb cn br sm as_ go sh_ ki tg of_ kp rs ta pl cs ct ir oa ob th ig sp_ sf tw n k 0 fw fb (by first | assumption | decide | omega) (by first | assumption | decide | omega) H.size) (cwV 0 hts gX11_isWord_X11_wordHere rfl rfl rfl (by decide +kernel) ⟨Nat.le_of_ble_eq_true rfl, Nat.le_of_ble_eq_true rfl⟩) (he_preV (wc := [(oX11 m0 tw ta (nI n) pl (nI k) 0 fw cs fd rfm rt_ to_ rw_ wa ct rk rb cn br sm as_ go sh_ ir oa ob th ig sp_ ki tg of_ kp sf rs), (aI g fd 500 fb)]) hK hP hD hS hA hE [0, 1] rfl rfl 0 rfl rfl) rfl rfl hl.1 rfl (lv_room (Nat.le_of_ble_eq_true rfl)) dX11_isWord_8 ⟨(Nat.le_of_ble_eq_true rfl), (Nat.le_of_ble_eq_true rfl)⟩) hP hD hS hA [0, 1] [] rfl rfl rfl (by decide) (fun r_2 u_3 H locs h_4 hP hD hS => ?_)
    obtain ⟨k2_5, rfl⟩ : ∃ z, z = u_3 := ⟨_, rfl⟩
    try dsimp only at h_4
    obtain ⟨hf_6, hf_7⟩ := h_4
    have hP : va_P g.1 vwCl [(oX11 m0 tw ta (nI n) pl (nI k2_5) 0 fw cs fd rfm rt_ to_ rw_ wa ct rk rb cn br sm as_ go sh_ ir oa ob th ig sp_ ki tg of_ kp sf rs), (aI g fd 500 fb)] H := hP
    have hD : va_D A [(oX11 m0 tw ta (nI n) pl (nI k2_5) 0 fw cs fd rfm rt_ to_ rw_ wa ct rk rb cn br sm as_ go sh_ ir oa ob th ig sp_ ki tg of_ kp sf rs), (aI g fd 500 fb)] := hD
    refine lv_iload_n hx hb dX11_isWord_11 rfl (lv_at hl 1 rfl) ?_
    refine lv_iload_n hx hb dX11_isWord_12 rfl (lv_at hl 2 rfl) ?_
    refine lv_iload_n hx hb dX11_isWord_13 rfl (lv_at hl 3 rfl) ?_
    refine lv_iload hx hb dX11_isWord_14 (lv_at hl 4 rfl) ?_
    refine lv_iload hx hb dX11_isWord_16 (lv_at hl 5 rfl) ?_
    refine lv_iload hx hb dX11_isWord_18 (lv_at hl 6 rfl) ?_
    refine he_ci (wc := []) (wr := [(oX11 m0 tw ta (nI n) pl (nI k2_5) 0 fw cs fd rfm rt_ to_ rw_ wa ct rk rb cn br sm as_ go sh_ ir oa ob th ig sp_ ki tg of_ kp sf rs), (aI g fd 500 fb)]) (va_runS (As := [.int 3, .int 15, .int 19, .int 20, .int 0, .int 0]) (rest := [.int r_2]) ⟨hx, hb, hml, hown, hts⟩ (h_X11_six_3_15_19_20_0_0 l g  H.size) (va_cwS 6 hts gX11_isWord_X11_six rfl rfl rfl (by decide +kernel) ⟨Nat.le_of_ble_eq_true rfl, Nat.le_of_ble_eq_true rfl⟩) (he_preS (wc := []) hK hP hD hS hA hE [] rfl rfl) rfl rfl hl.1 rfl (lv_room (Nat.le_of_ble_eq_true rfl)) dX11_isWord_20 ⟨(Nat.le_of_ble_eq_true rfl), (Nat.le_of_ble_eq_true rfl)⟩) hP hD hS hA [] [0, 1] rfl rfl rfl (by decide) (fun r_8 u_9 H locs h_10 hP hD hS => ?_)
    subst h_10
    have hP : va_P g.1 vwCl [(oX11 m0 tw ta (nI n) pl (nI k2_5) 0 fw cs fd rfm rt_ to_ rw_ wa ct rk rb cn br sm as_ go sh_ ir oa ob th ig sp_ ki tg of_ kp sf rs), (aI g fd 500 fb)] H := hP
    have hD : va_D A [(oX11 m0 tw ta (nI n) pl (nI k2_5) 0 fw cs fd rfm rt_ to_ rw_ wa ct rk rb cn br sm as_ go sh_ ir oa ob th ig sp_ ki tg of_ kp sf rs), (aI g fd 500 fb)] := hD
    refine lv_icmp_ne (tgt := 30) hx hb dX11_isWord_23 (by decide) (fun c_11 => ?_) (fun c_11 => ?_)
    · refine lv_iconst (v := 0) hx hb dX11_isWord_30 (by decide) ?_
      exact he_rz hQ hx hb hr hlk hP hD hS dX11_isWord_31 (Nat.le_of_ble_eq_true rfl) (Nat.le_of_ble_eq_true rfl) rfl (k2_5) (rfl) (⟨Or.inl rfl, by omega, by omega⟩)
    · refine lv_iconst (v := 1) hx hb dX11_isWord_26 (by decide) ?_
      refine lv_goto (tgt := 31) hx hb dX11_isWord_27 (by decide) ?_
      exact he_rz hQ hx hb hr hlk hP hD hS dX11_isWord_31 (Nat.le_of_ble_eq_true rfl) (Nat.le_of_ble_eq_true rfl) rfl (k2_5) (rfl) (⟨Or.inr rfl, by omega, by omega⟩)
set_option maxHeartbeats 4000000 in
set_option maxRecDepth 100000 in
theorem h_X11_six_14_5_1_18_0_0 (l : Launch) (g : he_G)   : he_I l yX11_six wsX11_six 0 0 0 0 g [.int 14, .int 5, .int 1, .int 18, .int 0, .int 0] [] (fun (r : Int32) (u : Unit) => r = 279252) (fun (u : Unit) => []) := by
  refine he_begin (l := l) (g := g) (y := yX11_six) (wl := wsX11_six) (fr := 0) (lo := 0) (mc := 0) (ms := 0) (av := [.int 14, .int 5, .int 1, .int 18, .int 0, .int 0]) (ws := []) (cc := cX11_six) (maxL := 7) (ret := (some .int)) (fun A => va_Qi (fun (r : Int32) (u : Unit) => r = 279252) (fun u t => he_post g A ((fun (u : Unit) => []) u) t) A) (by decide) rfl (Nat.le_of_ble_eq_true rfl) ?_
  intro p e s m args below meth c A ls H locs Q hQ hB
  obtain ⟨hx, hb, hr, hml, hown, hts, hlk, hin, hP, hK, hD, hS, hA, hE, hl⟩ := hB
  have hl : lv_has ls 7 [(0, .int 14), (1, .int 5), (2, .int 1), (3, .int 18), (4, .int 0), (5, .int 0)] := hl
  refine lv_bipush (v := 27) hx hb dX11_six_0 (by decide) ?_
  refine lv_bipush (v := 27) hx hb dX11_six_2 (by decide) ?_
  refine lv_bipush (v := 27) hx hb dX11_six_4 (by decide) ?_
  refine lv_iload_n hx hb dX11_six_6 rfl (lv_at hl 0 rfl) ?_
  refine lv_imul hx hb dX11_six_7 ?_
  refine he_top (378) (by decide) ?_
  refine lv_iload_n hx hb dX11_six_8 rfl (lv_at hl 1 rfl) ?_
  refine lv_iadd hx hb dX11_six_9 ?_
  refine he_top (383) (by decide) ?_
  refine lv_imul hx hb dX11_six_10 ?_
  refine he_top (10341) (by decide) ?_
  refine lv_iload_n hx hb dX11_six_11 rfl (lv_at hl 2 rfl) ?_
  refine lv_iadd hx hb dX11_six_12 ?_
  refine he_top (10342) (by decide) ?_
  refine lv_imul hx hb dX11_six_13 ?_
  refine he_top (279234) (by decide) ?_
  refine lv_istore (lv' := [(6, .int 279234), (0, .int 14), (1, .int 5), (2, .int 1), (3, .int 18), (4, .int 0), (5, .int 0)]) hx hb dX11_six_14 hl (by decide) rfl (fun ls hl => ?_)
  refine lv_iload_n hx hb dX11_six_16 rfl (lv_at hl 4 rfl) ?_
  refine lv_if_ne (tgt := 28) hx hb dX11_six_17 (by decide) (fun c_1 => ?_) (fun c_1 => ?_)
  · refine lv_iload hx hb dX11_six_28 (lv_at hl 0 rfl) ?_
    refine lv_iload_n hx hb dX11_six_30 rfl (lv_at hl 4 rfl) ?_
    refine lv_iadd hx hb dX11_six_31 ?_
    refine he_top (279252) (by decide) ?_
    refine lv_istore (lv' := [(6, .int 279252), (0, .int 14), (1, .int 5), (2, .int 1), (3, .int 18), (4, .int 0), (5, .int 0)]) hx hb dX11_six_32 hl (by decide) rfl (fun ls hl => ?_)
    refine lv_iload hx hb dX11_six_34 (lv_at hl 5 rfl) ?_
    refine lv_if_ne (tgt := 44) hx hb dX11_six_36 (by decide) (fun c_2 => ?_) (fun c_2 => ?_)
    · exact absurd (by decide) c_2
    · refine lv_iload hx hb dX11_six_39 (lv_at hl 0 rfl) ?_
      refine lv_goto (tgt := 52) hx hb dX11_six_41 (by decide) ?_
      refine lv_istore (lv' := [(6, .int 279252), (0, .int 14), (1, .int 5), (2, .int 1), (3, .int 18), (4, .int 0), (5, .int 0)]) hx hb dX11_six_52 hl (by decide) rfl (fun ls hl => ?_)
      refine lv_iload hx hb dX11_six_54 (lv_at hl 6 rfl) ?_
      refine lv_if_ne (tgt := 64) hx hb dX11_six_56 (by decide) (fun c_3 => ?_) (fun c_3 => ?_)
      · exact absurd (by decide) c_3
      · refine lv_iload hx hb dX11_six_59 (lv_at hl 0 rfl) ?_
        refine lv_goto (tgt := 72) hx hb dX11_six_61 (by decide) ?_
        exact he_ri hQ hx hb hr hlk hP hD hS dX11_six_72 (Nat.le_of_ble_eq_true rfl) (Nat.le_of_ble_eq_true rfl) (()) (rfl) (rfl)
  · exact absurd c_1 (by decide)
set_option maxHeartbeats 4000000 in
set_option maxRecDepth 100000 in
theorem h_X11_isWord_14_5_1_18_0_0 (l : Launch) (g : he_G) (m0 : Nat) (fd : Nat) (rfm : Nat) (rt_ : Nat) (to_ : Nat) (rw_ : Nat) (wa : Nat) (rk : Nat) (rb : Nat) (cn : Nat) (br : Nat) (sm : Nat) (as_ : Nat) (go : Nat) (sh_ : Nat) (ki : Nat) (tg : Nat) (of_ : Nat) (kp : Nat) (rs : Nat) (ta : Int32) (pl : Int32) (cs : Int32) (ct : Int32) (ir : Int32) (oa : Int32) (ob : Int32) (th : Int32) (ig : Int32) (sp_ : Int32) (sf : Int32) (tw : Int32) (n : Nat) (k : Nat) (fw : Int32) (fb : Nat → Int32) (hn : n ≤ 500) (hk : k ≤ n) : he_I l yX11_isWord wsX11_isWord 3 63 0 0 g [.ref m0, .int 14, .int 5, .int 1, .int 18, .int 0, .int 0] [(oX11 m0 tw ta (nI n) pl (nI k) 0 fw cs fd rfm rt_ to_ rw_ wa ct rk rb cn br sm as_ go sh_ ir oa ob th ig sp_ ki tg of_ kp sf rs), (aI g fd 500 fb)] (fun (r : Int32) (u : Nat) => (r = 0 ∨ r = 1) ∧ k ≤ u ∧ u ≤ n) (fun (u : Nat) => [(oX11 m0 tw ta (nI n) pl (nI u) 0 fw cs fd rfm rt_ to_ rw_ wa ct rk rb cn br sm as_ go sh_ ir oa ob th ig sp_ ki tg of_ kp sf rs), (aI g fd 500 fb)]) := by
  refine he_begin (l := l) (g := g) (y := yX11_isWord) (wl := wsX11_isWord) (fr := 3) (lo := 63) (mc := 0) (ms := 0) (av := [.ref m0, .int 14, .int 5, .int 1, .int 18, .int 0, .int 0]) (ws := [(oX11 m0 tw ta (nI n) pl (nI k) 0 fw cs fd rfm rt_ to_ rw_ wa ct rk rb cn br sm as_ go sh_ ir oa ob th ig sp_ ki tg of_ kp sf rs), (aI g fd 500 fb)]) (cc := cX11_isWord) (maxL := 7) (ret := (some .boolean)) (fun A => va_Qi (fun (r : Int32) (u : Nat) => (r = 0 ∨ r = 1) ∧ k ≤ u ∧ u ≤ n) (fun u t => he_post g A ((fun (u : Nat) => [(oX11 m0 tw ta (nI n) pl (nI u) 0 fw cs fd rfm rt_ to_ rw_ wa ct rk rb cn br sm as_ go sh_ ir oa ob th ig sp_ ki tg of_ kp sf rs), (aI g fd 500 fb)]) u) t) A) (by decide) rfl (Nat.le_of_ble_eq_true rfl) ?_
  intro p e s m args below meth c A ls H locs Q hQ hB
  obtain ⟨hx, hb, hr, hml, hown, hts, hlk, hin, hP, hK, hD, hS, hA, hE, hl⟩ := hB
  have hl : lv_has ls 7 [(0, .ref m0), (1, .int 14), (2, .int 5), (3, .int 1), (4, .int 18), (5, .int 0), (6, .int 0)] := hl
  have f101 := hts (.fieldLink RX11 101 "HiredEnemyModel" "fault" "I") (iwoX11_isWord (k := 0) rfl)
  have inX11 : ∀ w ∈ wsX110, w ∈ wsX11_isWord := innX11_isWord_X11
  refine lv_aload_n hx hb dX11_isWord_0 rfl (lv_at hl 0 rfl) ?_
  refine va_get (v := .int 0) (T := TX11) (N := 35) hx hb hts inX11 hown hK hP 0 rfl rfl 5 (by decide) f101 (fun _ h9 => h9) rfl dX11_isWord_1 ?_
  refine lv_if_ne (tgt := 30) hx hb dX11_isWord_4 (by decide) (fun c_1 => ?_) (fun c_1 => ?_)
  · exact absurd (by decide) c_1
  · refine lv_aload_n hx hb dX11_isWord_7 rfl (lv_at hl 0 rfl) ?_
    refine he_ci (wc := [(oX11 m0 tw ta (nI n) pl (nI k) 0 fw cs fd rfm rt_ to_ rw_ wa ct rk rb cn br sm as_ go sh_ ir oa ob th ig sp_ ki tg of_ kp sf rs), (aI g fd 500 fb)]) (wr := []) (va_runV (As := []) (rest := []) ⟨hx, hb, hml, hown, hts⟩ (h_X11_wordHere l g m0 fd rfm rt_ to_ rw_ wa rk rb cn br sm as_ go sh_ ki tg of_ kp rs ta pl cs ct ir oa ob th ig sp_ sf tw n k 0 fw fb (by first | assumption | decide | omega) (by first | assumption | decide | omega) H.size) (cwV 0 hts gX11_isWord_X11_wordHere rfl rfl rfl (by decide +kernel) ⟨Nat.le_of_ble_eq_true rfl, Nat.le_of_ble_eq_true rfl⟩) (he_preV (wc := [(oX11 m0 tw ta (nI n) pl (nI k) 0 fw cs fd rfm rt_ to_ rw_ wa ct rk rb cn br sm as_ go sh_ ir oa ob th ig sp_ ki tg of_ kp sf rs), (aI g fd 500 fb)]) hK hP hD hS hA hE [0, 1] rfl rfl 0 rfl rfl) rfl rfl hl.1 rfl (lv_room (Nat.le_of_ble_eq_true rfl)) dX11_isWord_8 ⟨(Nat.le_of_ble_eq_true rfl), (Nat.le_of_ble_eq_true rfl)⟩) hP hD hS hA [0, 1] [] rfl rfl rfl (by decide) (fun r_2 u_3 H locs h_4 hP hD hS => ?_)
    obtain ⟨k2_5, rfl⟩ : ∃ z, z = u_3 := ⟨_, rfl⟩
    try dsimp only at h_4
    obtain ⟨hf_6, hf_7⟩ := h_4
    have hP : va_P g.1 vwCl [(oX11 m0 tw ta (nI n) pl (nI k2_5) 0 fw cs fd rfm rt_ to_ rw_ wa ct rk rb cn br sm as_ go sh_ ir oa ob th ig sp_ ki tg of_ kp sf rs), (aI g fd 500 fb)] H := hP
    have hD : va_D A [(oX11 m0 tw ta (nI n) pl (nI k2_5) 0 fw cs fd rfm rt_ to_ rw_ wa ct rk rb cn br sm as_ go sh_ ir oa ob th ig sp_ ki tg of_ kp sf rs), (aI g fd 500 fb)] := hD
    refine lv_iload_n hx hb dX11_isWord_11 rfl (lv_at hl 1 rfl) ?_
    refine lv_iload_n hx hb dX11_isWord_12 rfl (lv_at hl 2 rfl) ?_
    refine lv_iload_n hx hb dX11_isWord_13 rfl (lv_at hl 3 rfl) ?_
    refine lv_iload hx hb dX11_isWord_14 (lv_at hl 4 rfl) ?_
    refine lv_iload hx hb dX11_isWord_16 (lv_at hl 5 rfl) ?_
    refine lv_iload hx hb dX11_isWord_18 (lv_at hl 6 rfl) ?_
    refine he_ci (wc := []) (wr := [(oX11 m0 tw ta (nI n) pl (nI k2_5) 0 fw cs fd rfm rt_ to_ rw_ wa ct rk rb cn br sm as_ go sh_ ir oa ob th ig sp_ ki tg of_ kp sf rs), (aI g fd 500 fb)]) (va_runS (As := [.int 14, .int 5, .int 1, .int 18, .int 0, .int 0]) (rest := [.int r_2]) ⟨hx, hb, hml, hown, hts⟩ (h_X11_six_14_5_1_18_0_0 l g  H.size) (va_cwS 6 hts gX11_isWord_X11_six rfl rfl rfl (by decide +kernel) ⟨Nat.le_of_ble_eq_true rfl, Nat.le_of_ble_eq_true rfl⟩) (he_preS (wc := []) hK hP hD hS hA hE [] rfl rfl) rfl rfl hl.1 rfl (lv_room (Nat.le_of_ble_eq_true rfl)) dX11_isWord_20 ⟨(Nat.le_of_ble_eq_true rfl), (Nat.le_of_ble_eq_true rfl)⟩) hP hD hS hA [] [0, 1] rfl rfl rfl (by decide) (fun r_8 u_9 H locs h_10 hP hD hS => ?_)
    subst h_10
    have hP : va_P g.1 vwCl [(oX11 m0 tw ta (nI n) pl (nI k2_5) 0 fw cs fd rfm rt_ to_ rw_ wa ct rk rb cn br sm as_ go sh_ ir oa ob th ig sp_ ki tg of_ kp sf rs), (aI g fd 500 fb)] H := hP
    have hD : va_D A [(oX11 m0 tw ta (nI n) pl (nI k2_5) 0 fw cs fd rfm rt_ to_ rw_ wa ct rk rb cn br sm as_ go sh_ ir oa ob th ig sp_ ki tg of_ kp sf rs), (aI g fd 500 fb)] := hD
    refine lv_icmp_ne (tgt := 30) hx hb dX11_isWord_23 (by decide) (fun c_11 => ?_) (fun c_11 => ?_)
    · refine lv_iconst (v := 0) hx hb dX11_isWord_30 (by decide) ?_
      exact he_rz hQ hx hb hr hlk hP hD hS dX11_isWord_31 (Nat.le_of_ble_eq_true rfl) (Nat.le_of_ble_eq_true rfl) rfl (k2_5) (rfl) (⟨Or.inl rfl, by omega, by omega⟩)
    · refine lv_iconst (v := 1) hx hb dX11_isWord_26 (by decide) ?_
      refine lv_goto (tgt := 31) hx hb dX11_isWord_27 (by decide) ?_
      exact he_rz hQ hx hb hr hlk hP hD hS dX11_isWord_31 (Nat.le_of_ble_eq_true rfl) (Nat.le_of_ble_eq_true rfl) rfl (k2_5) (rfl) (⟨Or.inr rfl, by omega, by omega⟩)
set_option maxHeartbeats 4000000 in
set_option maxRecDepth 100000 in
theorem h_X11_six_16_1_25_0_0_0 (l : Launch) (g : he_G)   : he_I l yX11_six wsX11_six 0 0 0 0 g [.int 16, .int 1, .int 25, .int 0, .int 0, .int 0] [] (fun (r : Int32) (u : Unit) => r = 11716) (fun (u : Unit) => []) := by
  refine he_begin (l := l) (g := g) (y := yX11_six) (wl := wsX11_six) (fr := 0) (lo := 0) (mc := 0) (ms := 0) (av := [.int 16, .int 1, .int 25, .int 0, .int 0, .int 0]) (ws := []) (cc := cX11_six) (maxL := 7) (ret := (some .int)) (fun A => va_Qi (fun (r : Int32) (u : Unit) => r = 11716) (fun u t => he_post g A ((fun (u : Unit) => []) u) t) A) (by decide) rfl (Nat.le_of_ble_eq_true rfl) ?_
  intro p e s m args below meth c A ls H locs Q hQ hB
  obtain ⟨hx, hb, hr, hml, hown, hts, hlk, hin, hP, hK, hD, hS, hA, hE, hl⟩ := hB
  have hl : lv_has ls 7 [(0, .int 16), (1, .int 1), (2, .int 25), (3, .int 0), (4, .int 0), (5, .int 0)] := hl
  refine lv_bipush (v := 27) hx hb dX11_six_0 (by decide) ?_
  refine lv_bipush (v := 27) hx hb dX11_six_2 (by decide) ?_
  refine lv_bipush (v := 27) hx hb dX11_six_4 (by decide) ?_
  refine lv_iload_n hx hb dX11_six_6 rfl (lv_at hl 0 rfl) ?_
  refine lv_imul hx hb dX11_six_7 ?_
  refine he_top (432) (by decide) ?_
  refine lv_iload_n hx hb dX11_six_8 rfl (lv_at hl 1 rfl) ?_
  refine lv_iadd hx hb dX11_six_9 ?_
  refine he_top (433) (by decide) ?_
  refine lv_imul hx hb dX11_six_10 ?_
  refine he_top (11691) (by decide) ?_
  refine lv_iload_n hx hb dX11_six_11 rfl (lv_at hl 2 rfl) ?_
  refine lv_iadd hx hb dX11_six_12 ?_
  refine he_top (11716) (by decide) ?_
  refine lv_imul hx hb dX11_six_13 ?_
  refine he_top (316332) (by decide) ?_
  refine lv_istore (lv' := [(6, .int 316332), (0, .int 16), (1, .int 1), (2, .int 25), (3, .int 0), (4, .int 0), (5, .int 0)]) hx hb dX11_six_14 hl (by decide) rfl (fun ls hl => ?_)
  refine lv_iload_n hx hb dX11_six_16 rfl (lv_at hl 4 rfl) ?_
  refine lv_if_ne (tgt := 28) hx hb dX11_six_17 (by decide) (fun c_1 => ?_) (fun c_1 => ?_)
  · exact absurd (by decide) c_1
  · refine lv_iload hx hb dX11_six_20 (lv_at hl 0 rfl) ?_
    refine lv_bipush (v := 27) hx hb dX11_six_22 (by decide) ?_
    refine lv_idiv hx hb dX11_six_24 (by decide) ?_
    refine he_top (11716) (by decide) ?_
    refine lv_goto (tgt := 32) hx hb dX11_six_25 (by decide) ?_
    refine lv_istore (lv' := [(6, .int 11716), (0, .int 16), (1, .int 1), (2, .int 25), (3, .int 0), (4, .int 0), (5, .int 0)]) hx hb dX11_six_32 hl (by decide) rfl (fun ls hl => ?_)
    refine lv_iload hx hb dX11_six_34 (lv_at hl 5 rfl) ?_
    refine lv_if_ne (tgt := 44) hx hb dX11_six_36 (by decide) (fun c_2 => ?_) (fun c_2 => ?_)
    · exact absurd (by decide) c_2
    · refine lv_iload hx hb dX11_six_39 (lv_at hl 0 rfl) ?_
      refine lv_goto (tgt := 52) hx hb dX11_six_41 (by decide) ?_
      refine lv_istore (lv' := [(6, .int 11716), (0, .int 16), (1, .int 1), (2, .int 25), (3, .int 0), (4, .int 0), (5, .int 0)]) hx hb dX11_six_52 hl (by decide) rfl (fun ls hl => ?_)
      refine lv_iload hx hb dX11_six_54 (lv_at hl 6 rfl) ?_
      refine lv_if_ne (tgt := 64) hx hb dX11_six_56 (by decide) (fun c_3 => ?_) (fun c_3 => ?_)
      · exact absurd (by decide) c_3
      · refine lv_iload hx hb dX11_six_59 (lv_at hl 0 rfl) ?_
        refine lv_goto (tgt := 72) hx hb dX11_six_61 (by decide) ?_
        exact he_ri hQ hx hb hr hlk hP hD hS dX11_six_72 (Nat.le_of_ble_eq_true rfl) (Nat.le_of_ble_eq_true rfl) (()) (rfl) (rfl)
set_option maxHeartbeats 4000000 in
set_option maxRecDepth 100000 in
theorem h_X11_isWord_16_1_25_0_0_0 (l : Launch) (g : he_G) (m0 : Nat) (fd : Nat) (rfm : Nat) (rt_ : Nat) (to_ : Nat) (rw_ : Nat) (wa : Nat) (rk : Nat) (rb : Nat) (cn : Nat) (br : Nat) (sm : Nat) (as_ : Nat) (go : Nat) (sh_ : Nat) (ki : Nat) (tg : Nat) (of_ : Nat) (kp : Nat) (rs : Nat) (ta : Int32) (pl : Int32) (cs : Int32) (ct : Int32) (ir : Int32) (oa : Int32) (ob : Int32) (th : Int32) (ig : Int32) (sp_ : Int32) (sf : Int32) (tw : Int32) (n : Nat) (k : Nat) (fw : Int32) (fb : Nat → Int32) (hn : n ≤ 500) (hk : k ≤ n) : he_I l yX11_isWord wsX11_isWord 3 63 0 0 g [.ref m0, .int 16, .int 1, .int 25, .int 0, .int 0, .int 0] [(oX11 m0 tw ta (nI n) pl (nI k) 0 fw cs fd rfm rt_ to_ rw_ wa ct rk rb cn br sm as_ go sh_ ir oa ob th ig sp_ ki tg of_ kp sf rs), (aI g fd 500 fb)] (fun (r : Int32) (u : Nat) => (r = 0 ∨ r = 1) ∧ k ≤ u ∧ u ≤ n) (fun (u : Nat) => [(oX11 m0 tw ta (nI n) pl (nI u) 0 fw cs fd rfm rt_ to_ rw_ wa ct rk rb cn br sm as_ go sh_ ir oa ob th ig sp_ ki tg of_ kp sf rs), (aI g fd 500 fb)]) := by
  refine he_begin (l := l) (g := g) (y := yX11_isWord) (wl := wsX11_isWord) (fr := 3) (lo := 63) (mc := 0) (ms := 0) (av := [.ref m0, .int 16, .int 1, .int 25, .int 0, .int 0, .int 0]) (ws := [(oX11 m0 tw ta (nI n) pl (nI k) 0 fw cs fd rfm rt_ to_ rw_ wa ct rk rb cn br sm as_ go sh_ ir oa ob th ig sp_ ki tg of_ kp sf rs), (aI g fd 500 fb)]) (cc := cX11_isWord) (maxL := 7) (ret := (some .boolean)) (fun A => va_Qi (fun (r : Int32) (u : Nat) => (r = 0 ∨ r = 1) ∧ k ≤ u ∧ u ≤ n) (fun u t => he_post g A ((fun (u : Nat) => [(oX11 m0 tw ta (nI n) pl (nI u) 0 fw cs fd rfm rt_ to_ rw_ wa ct rk rb cn br sm as_ go sh_ ir oa ob th ig sp_ ki tg of_ kp sf rs), (aI g fd 500 fb)]) u) t) A) (by decide) rfl (Nat.le_of_ble_eq_true rfl) ?_
  intro p e s m args below meth c A ls H locs Q hQ hB
  obtain ⟨hx, hb, hr, hml, hown, hts, hlk, hin, hP, hK, hD, hS, hA, hE, hl⟩ := hB
  have hl : lv_has ls 7 [(0, .ref m0), (1, .int 16), (2, .int 1), (3, .int 25), (4, .int 0), (5, .int 0), (6, .int 0)] := hl
  have f101 := hts (.fieldLink RX11 101 "HiredEnemyModel" "fault" "I") (iwoX11_isWord (k := 0) rfl)
  have inX11 : ∀ w ∈ wsX110, w ∈ wsX11_isWord := innX11_isWord_X11
  refine lv_aload_n hx hb dX11_isWord_0 rfl (lv_at hl 0 rfl) ?_
  refine va_get (v := .int 0) (T := TX11) (N := 35) hx hb hts inX11 hown hK hP 0 rfl rfl 5 (by decide) f101 (fun _ h9 => h9) rfl dX11_isWord_1 ?_
  refine lv_if_ne (tgt := 30) hx hb dX11_isWord_4 (by decide) (fun c_1 => ?_) (fun c_1 => ?_)
  · exact absurd (by decide) c_1
  · refine lv_aload_n hx hb dX11_isWord_7 rfl (lv_at hl 0 rfl) ?_
    refine he_ci (wc := [(oX11 m0 tw ta (nI n) pl (nI k) 0 fw cs fd rfm rt_ to_ rw_ wa ct rk rb cn br sm as_ go sh_ ir oa ob th ig sp_ ki tg of_ kp sf rs), (aI g fd 500 fb)]) (wr := []) (va_runV (As := []) (rest := []) ⟨hx, hb, hml, hown, hts⟩ (h_X11_wordHere l g m0 fd rfm rt_ to_ rw_ wa rk rb cn br sm as_ go sh_ ki tg of_ kp rs ta pl cs ct ir oa ob th ig sp_ sf tw n k 0 fw fb (by first | assumption | decide | omega) (by first | assumption | decide | omega) H.size) (cwV 0 hts gX11_isWord_X11_wordHere rfl rfl rfl (by decide +kernel) ⟨Nat.le_of_ble_eq_true rfl, Nat.le_of_ble_eq_true rfl⟩) (he_preV (wc := [(oX11 m0 tw ta (nI n) pl (nI k) 0 fw cs fd rfm rt_ to_ rw_ wa ct rk rb cn br sm as_ go sh_ ir oa ob th ig sp_ ki tg of_ kp sf rs), (aI g fd 500 fb)]) hK hP hD hS hA hE [0, 1] rfl rfl 0 rfl rfl) rfl rfl hl.1 rfl (lv_room (Nat.le_of_ble_eq_true rfl)) dX11_isWord_8 ⟨(Nat.le_of_ble_eq_true rfl), (Nat.le_of_ble_eq_true rfl)⟩) hP hD hS hA [0, 1] [] rfl rfl rfl (by decide) (fun r_2 u_3 H locs h_4 hP hD hS => ?_)
    obtain ⟨k2_5, rfl⟩ : ∃ z, z = u_3 := ⟨_, rfl⟩
    try dsimp only at h_4
    obtain ⟨hf_6, hf_7⟩ := h_4
    have hP : va_P g.1 vwCl [(oX11 m0 tw ta (nI n) pl (nI k2_5) 0 fw cs fd rfm rt_ to_ rw_ wa ct rk rb cn br sm as_ go sh_ ir oa ob th ig sp_ ki tg of_ kp sf rs), (aI g fd 500 fb)] H := hP
    have hD : va_D A [(oX11 m0 tw ta (nI n) pl (nI k2_5) 0 fw cs fd rfm rt_ to_ rw_ wa ct rk rb cn br sm as_ go sh_ ir oa ob th ig sp_ ki tg of_ kp sf rs), (aI g fd 500 fb)] := hD
    refine lv_iload_n hx hb dX11_isWord_11 rfl (lv_at hl 1 rfl) ?_
    refine lv_iload_n hx hb dX11_isWord_12 rfl (lv_at hl 2 rfl) ?_
    refine lv_iload_n hx hb dX11_isWord_13 rfl (lv_at hl 3 rfl) ?_
    refine lv_iload hx hb dX11_isWord_14 (lv_at hl 4 rfl) ?_
    refine lv_iload hx hb dX11_isWord_16 (lv_at hl 5 rfl) ?_
    refine lv_iload hx hb dX11_isWord_18 (lv_at hl 6 rfl) ?_
    refine he_ci (wc := []) (wr := [(oX11 m0 tw ta (nI n) pl (nI k2_5) 0 fw cs fd rfm rt_ to_ rw_ wa ct rk rb cn br sm as_ go sh_ ir oa ob th ig sp_ ki tg of_ kp sf rs), (aI g fd 500 fb)]) (va_runS (As := [.int 16, .int 1, .int 25, .int 0, .int 0, .int 0]) (rest := [.int r_2]) ⟨hx, hb, hml, hown, hts⟩ (h_X11_six_16_1_25_0_0_0 l g  H.size) (va_cwS 6 hts gX11_isWord_X11_six rfl rfl rfl (by decide +kernel) ⟨Nat.le_of_ble_eq_true rfl, Nat.le_of_ble_eq_true rfl⟩) (he_preS (wc := []) hK hP hD hS hA hE [] rfl rfl) rfl rfl hl.1 rfl (lv_room (Nat.le_of_ble_eq_true rfl)) dX11_isWord_20 ⟨(Nat.le_of_ble_eq_true rfl), (Nat.le_of_ble_eq_true rfl)⟩) hP hD hS hA [] [0, 1] rfl rfl rfl (by decide) (fun r_8 u_9 H locs h_10 hP hD hS => ?_)
    subst h_10
    have hP : va_P g.1 vwCl [(oX11 m0 tw ta (nI n) pl (nI k2_5) 0 fw cs fd rfm rt_ to_ rw_ wa ct rk rb cn br sm as_ go sh_ ir oa ob th ig sp_ ki tg of_ kp sf rs), (aI g fd 500 fb)] H := hP
    have hD : va_D A [(oX11 m0 tw ta (nI n) pl (nI k2_5) 0 fw cs fd rfm rt_ to_ rw_ wa ct rk rb cn br sm as_ go sh_ ir oa ob th ig sp_ ki tg of_ kp sf rs), (aI g fd 500 fb)] := hD
    refine lv_icmp_ne (tgt := 30) hx hb dX11_isWord_23 (by decide) (fun c_11 => ?_) (fun c_11 => ?_)
    · refine lv_iconst (v := 0) hx hb dX11_isWord_30 (by decide) ?_
      exact he_rz hQ hx hb hr hlk hP hD hS dX11_isWord_31 (Nat.le_of_ble_eq_true rfl) (Nat.le_of_ble_eq_true rfl) rfl (k2_5) (rfl) (⟨Or.inl rfl, by omega, by omega⟩)
    · refine lv_iconst (v := 1) hx hb dX11_isWord_26 (by decide) ?_
      refine lv_goto (tgt := 31) hx hb dX11_isWord_27 (by decide) ?_
      exact he_rz hQ hx hb hr hlk hP hD hS dX11_isWord_31 (Nat.le_of_ble_eq_true rfl) (Nat.le_of_ble_eq_true rfl) rfl (k2_5) (rfl) (⟨Or.inr rfl, by omega, by omega⟩)
set_option maxHeartbeats 4000000 in
set_option maxRecDepth 100000 in
theorem h_X11_six_23_9_14_20_5_18 (l : Launch) (g : he_G)   : he_I l yX11_six wsX11_six 0 0 0 0 g [.int 23, .int 9, .int 14, .int 20, .int 5, .int 18] [] (fun (r : Int32) (u : Unit) => r = 335098125) (fun (u : Unit) => []) := by
  refine he_begin (l := l) (g := g) (y := yX11_six) (wl := wsX11_six) (fr := 0) (lo := 0) (mc := 0) (ms := 0) (av := [.int 23, .int 9, .int 14, .int 20, .int 5, .int 18]) (ws := []) (cc := cX11_six) (maxL := 7) (ret := (some .int)) (fun A => va_Qi (fun (r : Int32) (u : Unit) => r = 335098125) (fun u t => he_post g A ((fun (u : Unit) => []) u) t) A) (by decide) rfl (Nat.le_of_ble_eq_true rfl) ?_
  intro p e s m args below meth c A ls H locs Q hQ hB
  obtain ⟨hx, hb, hr, hml, hown, hts, hlk, hin, hP, hK, hD, hS, hA, hE, hl⟩ := hB
  have hl : lv_has ls 7 [(0, .int 23), (1, .int 9), (2, .int 14), (3, .int 20), (4, .int 5), (5, .int 18)] := hl
  refine lv_bipush (v := 27) hx hb dX11_six_0 (by decide) ?_
  refine lv_bipush (v := 27) hx hb dX11_six_2 (by decide) ?_
  refine lv_bipush (v := 27) hx hb dX11_six_4 (by decide) ?_
  refine lv_iload_n hx hb dX11_six_6 rfl (lv_at hl 0 rfl) ?_
  refine lv_imul hx hb dX11_six_7 ?_
  refine he_top (621) (by decide) ?_
  refine lv_iload_n hx hb dX11_six_8 rfl (lv_at hl 1 rfl) ?_
  refine lv_iadd hx hb dX11_six_9 ?_
  refine he_top (630) (by decide) ?_
  refine lv_imul hx hb dX11_six_10 ?_
  refine he_top (17010) (by decide) ?_
  refine lv_iload_n hx hb dX11_six_11 rfl (lv_at hl 2 rfl) ?_
  refine lv_iadd hx hb dX11_six_12 ?_
  refine he_top (17024) (by decide) ?_
  refine lv_imul hx hb dX11_six_13 ?_
  refine he_top (459648) (by decide) ?_
  refine lv_istore (lv' := [(6, .int 459648), (0, .int 23), (1, .int 9), (2, .int 14), (3, .int 20), (4, .int 5), (5, .int 18)]) hx hb dX11_six_14 hl (by decide) rfl (fun ls hl => ?_)
  refine lv_iload_n hx hb dX11_six_16 rfl (lv_at hl 4 rfl) ?_
  refine lv_if_ne (tgt := 28) hx hb dX11_six_17 (by decide) (fun c_1 => ?_) (fun c_1 => ?_)
  · refine lv_iload hx hb dX11_six_28 (lv_at hl 0 rfl) ?_
    refine lv_iload_n hx hb dX11_six_30 rfl (lv_at hl 4 rfl) ?_
    refine lv_iadd hx hb dX11_six_31 ?_
    refine he_top (459668) (by decide) ?_
    refine lv_istore (lv' := [(6, .int 459668), (0, .int 23), (1, .int 9), (2, .int 14), (3, .int 20), (4, .int 5), (5, .int 18)]) hx hb dX11_six_32 hl (by decide) rfl (fun ls hl => ?_)
    refine lv_iload hx hb dX11_six_34 (lv_at hl 5 rfl) ?_
    refine lv_if_ne (tgt := 44) hx hb dX11_six_36 (by decide) (fun c_2 => ?_) (fun c_2 => ?_)
    · refine lv_bipush (v := 27) hx hb dX11_six_44 (by decide) ?_
      refine lv_iload hx hb dX11_six_46 (lv_at hl 0 rfl) ?_
      refine lv_imul hx hb dX11_six_48 ?_
      refine he_top (12411036) (by decide) ?_
      refine lv_iload hx hb dX11_six_49 (lv_at hl 5 rfl) ?_
      refine lv_iadd hx hb dX11_six_51 ?_
      refine he_top (12411041) (by decide) ?_
      refine lv_istore (lv' := [(6, .int 12411041), (0, .int 23), (1, .int 9), (2, .int 14), (3, .int 20), (4, .int 5), (5, .int 18)]) hx hb dX11_six_52 hl (by decide) rfl (fun ls hl => ?_)
      refine lv_iload hx hb dX11_six_54 (lv_at hl 6 rfl) ?_
      refine lv_if_ne (tgt := 64) hx hb dX11_six_56 (by decide) (fun c_3 => ?_) (fun c_3 => ?_)
      · refine lv_bipush (v := 27) hx hb dX11_six_64 (by decide) ?_
        refine lv_iload hx hb dX11_six_66 (lv_at hl 0 rfl) ?_
        refine lv_imul hx hb dX11_six_68 ?_
        refine he_top (335098107) (by decide) ?_
        refine lv_iload hx hb dX11_six_69 (lv_at hl 6 rfl) ?_
        refine lv_iadd hx hb dX11_six_71 ?_
        refine he_top (335098125) (by decide) ?_
        exact he_ri hQ hx hb hr hlk hP hD hS dX11_six_72 (Nat.le_of_ble_eq_true rfl) (Nat.le_of_ble_eq_true rfl) (()) (rfl) (rfl)
      · exact absurd c_3 (by decide)
    · exact absurd c_2 (by decide)
  · exact absurd c_1 (by decide)
set_option maxHeartbeats 4000000 in
set_option maxRecDepth 100000 in
theorem h_X11_isWord_23_9_14_20_5_18 (l : Launch) (g : he_G) (m0 : Nat) (fd : Nat) (rfm : Nat) (rt_ : Nat) (to_ : Nat) (rw_ : Nat) (wa : Nat) (rk : Nat) (rb : Nat) (cn : Nat) (br : Nat) (sm : Nat) (as_ : Nat) (go : Nat) (sh_ : Nat) (ki : Nat) (tg : Nat) (of_ : Nat) (kp : Nat) (rs : Nat) (ta : Int32) (pl : Int32) (cs : Int32) (ct : Int32) (ir : Int32) (oa : Int32) (ob : Int32) (th : Int32) (ig : Int32) (sp_ : Int32) (sf : Int32) (tw : Int32) (n : Nat) (k : Nat) (fw : Int32) (fb : Nat → Int32) (hn : n ≤ 500) (hk : k ≤ n) : he_I l yX11_isWord wsX11_isWord 3 63 0 0 g [.ref m0, .int 23, .int 9, .int 14, .int 20, .int 5, .int 18] [(oX11 m0 tw ta (nI n) pl (nI k) 0 fw cs fd rfm rt_ to_ rw_ wa ct rk rb cn br sm as_ go sh_ ir oa ob th ig sp_ ki tg of_ kp sf rs), (aI g fd 500 fb)] (fun (r : Int32) (u : Nat) => (r = 0 ∨ r = 1) ∧ k ≤ u ∧ u ≤ n) (fun (u : Nat) => [(oX11 m0 tw ta (nI n) pl (nI u) 0 fw cs fd rfm rt_ to_ rw_ wa ct rk rb cn br sm as_ go sh_ ir oa ob th ig sp_ ki tg of_ kp sf rs), (aI g fd 500 fb)]) := by
  refine he_begin (l := l) (g := g) (y := yX11_isWord) (wl := wsX11_isWord) (fr := 3) (lo := 63) (mc := 0) (ms := 0) (av := [.ref m0, .int 23, .int 9, .int 14, .int 20, .int 5, .int 18]) (ws := [(oX11 m0 tw ta (nI n) pl (nI k) 0 fw cs fd rfm rt_ to_ rw_ wa ct rk rb cn br sm as_ go sh_ ir oa ob th ig sp_ ki tg of_ kp sf rs), (aI g fd 500 fb)]) (cc := cX11_isWord) (maxL := 7) (ret := (some .boolean)) (fun A => va_Qi (fun (r : Int32) (u : Nat) => (r = 0 ∨ r = 1) ∧ k ≤ u ∧ u ≤ n) (fun u t => he_post g A ((fun (u : Nat) => [(oX11 m0 tw ta (nI n) pl (nI u) 0 fw cs fd rfm rt_ to_ rw_ wa ct rk rb cn br sm as_ go sh_ ir oa ob th ig sp_ ki tg of_ kp sf rs), (aI g fd 500 fb)]) u) t) A) (by decide) rfl (Nat.le_of_ble_eq_true rfl) ?_
  intro p e s m args below meth c A ls H locs Q hQ hB
  obtain ⟨hx, hb, hr, hml, hown, hts, hlk, hin, hP, hK, hD, hS, hA, hE, hl⟩ := hB
  have hl : lv_has ls 7 [(0, .ref m0), (1, .int 23), (2, .int 9), (3, .int 14), (4, .int 20), (5, .int 5), (6, .int 18)] := hl
  have f101 := hts (.fieldLink RX11 101 "HiredEnemyModel" "fault" "I") (iwoX11_isWord (k := 0) rfl)
  have inX11 : ∀ w ∈ wsX110, w ∈ wsX11_isWord := innX11_isWord_X11
  refine lv_aload_n hx hb dX11_isWord_0 rfl (lv_at hl 0 rfl) ?_
  refine va_get (v := .int 0) (T := TX11) (N := 35) hx hb hts inX11 hown hK hP 0 rfl rfl 5 (by decide) f101 (fun _ h9 => h9) rfl dX11_isWord_1 ?_
  refine lv_if_ne (tgt := 30) hx hb dX11_isWord_4 (by decide) (fun c_1 => ?_) (fun c_1 => ?_)
  · exact absurd (by decide) c_1
  · refine lv_aload_n hx hb dX11_isWord_7 rfl (lv_at hl 0 rfl) ?_
    refine he_ci (wc := [(oX11 m0 tw ta (nI n) pl (nI k) 0 fw cs fd rfm rt_ to_ rw_ wa ct rk rb cn br sm as_ go sh_ ir oa ob th ig sp_ ki tg of_ kp sf rs), (aI g fd 500 fb)]) (wr := []) (va_runV (As := []) (rest := []) ⟨hx, hb, hml, hown, hts⟩ (h_X11_wordHere l g m0 fd rfm rt_ to_ rw_ wa rk rb cn br sm as_ go sh_ ki tg of_ kp rs ta pl cs ct ir oa ob th ig sp_ sf tw n k 0 fw fb (by first | assumption | decide | omega) (by first | assumption | decide | omega) H.size) (cwV 0 hts gX11_isWord_X11_wordHere rfl rfl rfl (by decide +kernel) ⟨Nat.le_of_ble_eq_true rfl, Nat.le_of_ble_eq_true rfl⟩) (he_preV (wc := [(oX11 m0 tw ta (nI n) pl (nI k) 0 fw cs fd rfm rt_ to_ rw_ wa ct rk rb cn br sm as_ go sh_ ir oa ob th ig sp_ ki tg of_ kp sf rs), (aI g fd 500 fb)]) hK hP hD hS hA hE [0, 1] rfl rfl 0 rfl rfl) rfl rfl hl.1 rfl (lv_room (Nat.le_of_ble_eq_true rfl)) dX11_isWord_8 ⟨(Nat.le_of_ble_eq_true rfl), (Nat.le_of_ble_eq_true rfl)⟩) hP hD hS hA [0, 1] [] rfl rfl rfl (by decide) (fun r_2 u_3 H locs h_4 hP hD hS => ?_)
    obtain ⟨k2_5, rfl⟩ : ∃ z, z = u_3 := ⟨_, rfl⟩
    try dsimp only at h_4
    obtain ⟨hf_6, hf_7⟩ := h_4
    have hP : va_P g.1 vwCl [(oX11 m0 tw ta (nI n) pl (nI k2_5) 0 fw cs fd rfm rt_ to_ rw_ wa ct rk rb cn br sm as_ go sh_ ir oa ob th ig sp_ ki tg of_ kp sf rs), (aI g fd 500 fb)] H := hP
    have hD : va_D A [(oX11 m0 tw ta (nI n) pl (nI k2_5) 0 fw cs fd rfm rt_ to_ rw_ wa ct rk rb cn br sm as_ go sh_ ir oa ob th ig sp_ ki tg of_ kp sf rs), (aI g fd 500 fb)] := hD
    refine lv_iload_n hx hb dX11_isWord_11 rfl (lv_at hl 1 rfl) ?_
    refine lv_iload_n hx hb dX11_isWord_12 rfl (lv_at hl 2 rfl) ?_
    refine lv_iload_n hx hb dX11_isWord_13 rfl (lv_at hl 3 rfl) ?_
    refine lv_iload hx hb dX11_isWord_14 (lv_at hl 4 rfl) ?_
    refine lv_iload hx hb dX11_isWord_16 (lv_at hl 5 rfl) ?_
    refine lv_iload hx hb dX11_isWord_18 (lv_at hl 6 rfl) ?_
    refine he_ci (wc := []) (wr := [(oX11 m0 tw ta (nI n) pl (nI k2_5) 0 fw cs fd rfm rt_ to_ rw_ wa ct rk rb cn br sm as_ go sh_ ir oa ob th ig sp_ ki tg of_ kp sf rs), (aI g fd 500 fb)]) (va_runS (As := [.int 23, .int 9, .int 14, .int 20, .int 5, .int 18]) (rest := [.int r_2]) ⟨hx, hb, hml, hown, hts⟩ (h_X11_six_23_9_14_20_5_18 l g  H.size) (va_cwS 6 hts gX11_isWord_X11_six rfl rfl rfl (by decide +kernel) ⟨Nat.le_of_ble_eq_true rfl, Nat.le_of_ble_eq_true rfl⟩) (he_preS (wc := []) hK hP hD hS hA hE [] rfl rfl) rfl rfl hl.1 rfl (lv_room (Nat.le_of_ble_eq_true rfl)) dX11_isWord_20 ⟨(Nat.le_of_ble_eq_true rfl), (Nat.le_of_ble_eq_true rfl)⟩) hP hD hS hA [] [0, 1] rfl rfl rfl (by decide) (fun r_8 u_9 H locs h_10 hP hD hS => ?_)
    subst h_10
    have hP : va_P g.1 vwCl [(oX11 m0 tw ta (nI n) pl (nI k2_5) 0 fw cs fd rfm rt_ to_ rw_ wa ct rk rb cn br sm as_ go sh_ ir oa ob th ig sp_ ki tg of_ kp sf rs), (aI g fd 500 fb)] H := hP
    have hD : va_D A [(oX11 m0 tw ta (nI n) pl (nI k2_5) 0 fw cs fd rfm rt_ to_ rw_ wa ct rk rb cn br sm as_ go sh_ ir oa ob th ig sp_ ki tg of_ kp sf rs), (aI g fd 500 fb)] := hD
    refine lv_icmp_ne (tgt := 30) hx hb dX11_isWord_23 (by decide) (fun c_11 => ?_) (fun c_11 => ?_)
    · refine lv_iconst (v := 0) hx hb dX11_isWord_30 (by decide) ?_
      exact he_rz hQ hx hb hr hlk hP hD hS dX11_isWord_31 (Nat.le_of_ble_eq_true rfl) (Nat.le_of_ble_eq_true rfl) rfl (k2_5) (rfl) (⟨Or.inl rfl, by omega, by omega⟩)
    · refine lv_iconst (v := 1) hx hb dX11_isWord_26 (by decide) ?_
      refine lv_goto (tgt := 31) hx hb dX11_isWord_27 (by decide) ?_
      exact he_rz hQ hx hb hr hlk hP hD hS dX11_isWord_31 (Nat.le_of_ble_eq_true rfl) (Nat.le_of_ble_eq_true rfl) rfl (k2_5) (rfl) (⟨Or.inr rfl, by omega, by omega⟩)
set_option maxHeartbeats 4000000 in
set_option maxRecDepth 100000 in
theorem h_X11_six_3_15_18_11_19_0 (l : Launch) (g : he_G)   : he_I l yX11_six wsX11_six 0 0 0 0 g [.int 3, .int 15, .int 18, .int 11, .int 19, .int 0] [] (fun (r : Int32) (u : Unit) => r = 1903006) (fun (u : Unit) => []) := by
  refine he_begin (l := l) (g := g) (y := yX11_six) (wl := wsX11_six) (fr := 0) (lo := 0) (mc := 0) (ms := 0) (av := [.int 3, .int 15, .int 18, .int 11, .int 19, .int 0]) (ws := []) (cc := cX11_six) (maxL := 7) (ret := (some .int)) (fun A => va_Qi (fun (r : Int32) (u : Unit) => r = 1903006) (fun u t => he_post g A ((fun (u : Unit) => []) u) t) A) (by decide) rfl (Nat.le_of_ble_eq_true rfl) ?_
  intro p e s m args below meth c A ls H locs Q hQ hB
  obtain ⟨hx, hb, hr, hml, hown, hts, hlk, hin, hP, hK, hD, hS, hA, hE, hl⟩ := hB
  have hl : lv_has ls 7 [(0, .int 3), (1, .int 15), (2, .int 18), (3, .int 11), (4, .int 19), (5, .int 0)] := hl
  refine lv_bipush (v := 27) hx hb dX11_six_0 (by decide) ?_
  refine lv_bipush (v := 27) hx hb dX11_six_2 (by decide) ?_
  refine lv_bipush (v := 27) hx hb dX11_six_4 (by decide) ?_
  refine lv_iload_n hx hb dX11_six_6 rfl (lv_at hl 0 rfl) ?_
  refine lv_imul hx hb dX11_six_7 ?_
  refine he_top (81) (by decide) ?_
  refine lv_iload_n hx hb dX11_six_8 rfl (lv_at hl 1 rfl) ?_
  refine lv_iadd hx hb dX11_six_9 ?_
  refine he_top (96) (by decide) ?_
  refine lv_imul hx hb dX11_six_10 ?_
  refine he_top (2592) (by decide) ?_
  refine lv_iload_n hx hb dX11_six_11 rfl (lv_at hl 2 rfl) ?_
  refine lv_iadd hx hb dX11_six_12 ?_
  refine he_top (2610) (by decide) ?_
  refine lv_imul hx hb dX11_six_13 ?_
  refine he_top (70470) (by decide) ?_
  refine lv_istore (lv' := [(6, .int 70470), (0, .int 3), (1, .int 15), (2, .int 18), (3, .int 11), (4, .int 19), (5, .int 0)]) hx hb dX11_six_14 hl (by decide) rfl (fun ls hl => ?_)
  refine lv_iload_n hx hb dX11_six_16 rfl (lv_at hl 4 rfl) ?_
  refine lv_if_ne (tgt := 28) hx hb dX11_six_17 (by decide) (fun c_1 => ?_) (fun c_1 => ?_)
  · refine lv_iload hx hb dX11_six_28 (lv_at hl 0 rfl) ?_
    refine lv_iload_n hx hb dX11_six_30 rfl (lv_at hl 4 rfl) ?_
    refine lv_iadd hx hb dX11_six_31 ?_
    refine he_top (70481) (by decide) ?_
    refine lv_istore (lv' := [(6, .int 70481), (0, .int 3), (1, .int 15), (2, .int 18), (3, .int 11), (4, .int 19), (5, .int 0)]) hx hb dX11_six_32 hl (by decide) rfl (fun ls hl => ?_)
    refine lv_iload hx hb dX11_six_34 (lv_at hl 5 rfl) ?_
    refine lv_if_ne (tgt := 44) hx hb dX11_six_36 (by decide) (fun c_2 => ?_) (fun c_2 => ?_)
    · refine lv_bipush (v := 27) hx hb dX11_six_44 (by decide) ?_
      refine lv_iload hx hb dX11_six_46 (lv_at hl 0 rfl) ?_
      refine lv_imul hx hb dX11_six_48 ?_
      refine he_top (1902987) (by decide) ?_
      refine lv_iload hx hb dX11_six_49 (lv_at hl 5 rfl) ?_
      refine lv_iadd hx hb dX11_six_51 ?_
      refine he_top (1903006) (by decide) ?_
      refine lv_istore (lv' := [(6, .int 1903006), (0, .int 3), (1, .int 15), (2, .int 18), (3, .int 11), (4, .int 19), (5, .int 0)]) hx hb dX11_six_52 hl (by decide) rfl (fun ls hl => ?_)
      refine lv_iload hx hb dX11_six_54 (lv_at hl 6 rfl) ?_
      refine lv_if_ne (tgt := 64) hx hb dX11_six_56 (by decide) (fun c_3 => ?_) (fun c_3 => ?_)
      · exact absurd (by decide) c_3
      · refine lv_iload hx hb dX11_six_59 (lv_at hl 0 rfl) ?_
        refine lv_goto (tgt := 72) hx hb dX11_six_61 (by decide) ?_
        exact he_ri hQ hx hb hr hlk hP hD hS dX11_six_72 (Nat.le_of_ble_eq_true rfl) (Nat.le_of_ble_eq_true rfl) (()) (rfl) (rfl)
    · exact absurd c_2 (by decide)
  · exact absurd c_1 (by decide)
