set_option maxHeartbeats 4000000 in
set_option maxRecDepth 100000 in
theorem h_X11_isWord_3_15_18_11_19_0 (l : Launch) (g : he_G) (m0 : Nat) (fd : Nat) (rfm : Nat) (rt_ : Nat) (to_ : Nat) (rw_ : Nat) (wa : Nat) (rk : Nat) (rb : Nat) (cn : Nat) (br : Nat) (sm : Nat) (as_ : Nat) (go : Nat) (sh_ : Nat) (ki : Nat) (tg : Nat) (of_ : Nat) (kp : Nat) (rs : Nat) (ta : Int32) (pl : Int32) (cs : Int32) (ct : Int32) (ir : Int32) (oa : Int32) (ob : Int32) (th : Int32) (ig : Int32) (sp_ : Int32) (sf : Int32) (tw : Int32) (n : Nat) (k : Nat) (fw : Int32) (fb : Nat → Int32) (hn : n ≤ 500) (hk : k ≤ n) : he_I l yX11_isWord wsX11_isWord 3 63 0 0 g [.ref m0, .int 3, .int 15, .int 18, .int 11, .int 19, .int 0] [(oX11 m0 tw ta (nI n) pl (nI k) 0 fw cs fd rfm rt_ to_ rw_ wa ct rk rb cn br sm as_ go sh_ ir oa ob th ig sp_ ki tg of_ kp sf rs), (aI g fd 500 fb)] (fun (r : Int32) (u : Nat) => (r = 0 ∨ r = 1) ∧ k ≤ u ∧ u ≤ n) (fun (u : Nat) => [(oX11 m0 tw ta (nI n) pl (nI u) 0 fw cs fd rfm rt_ to_ rw_ wa ct rk rb cn br sm as_ go sh_ ir oa ob th ig sp_ ki tg of_ kp sf rs), (aI g fd 500 fb)]) := by
  refine he_begin (l := l) (g := g) (y := yX11_isWord) (wl := wsX11_isWord) (fr := 3) (lo := 63) (mc := 0) (ms := 0) (av := [.ref m0, .int 3, .int 15, .int 18, .int 11, .int 19, .int 0]) (ws := [(oX11 m0 tw ta (nI n) pl (nI k) 0 fw cs fd rfm rt_ to_ rw_ wa ct rk rb cn br sm as_ go sh_ ir oa ob th ig sp_ ki tg of_ kp sf rs), (aI g fd 500 fb)]) (cc := cX11_isWord) (maxL := 7) (ret := (some .boolean)) (fun A => va_Qi (fun (r : Int32) (u : Nat) => (r = 0 ∨ r = 1) ∧ k ≤ u ∧ u ≤ n) (fun u t => he_post g A ((fun (u : Nat) => [(oX11 m0 tw ta (nI n) pl (nI u) 0 fw cs fd rfm rt_ to_ rw_ wa ct rk rb cn br sm as_ go sh_ ir oa ob th ig sp_ ki tg of_ kp sf rs), (aI g fd 500 fb)]) u) t) A) (by decide) rfl (Nat.le_of_ble_eq_true rfl) ?_
  intro p e s m args below meth c A ls H locs Q hQ hB
  obtain ⟨hx, hb, hr, hml, hown, hts, hlk, hin, hP, hK, hD, hS, hA, hE, hl⟩ := hB
  have hl : lv_has ls 7 [(0, .ref m0), (1, .int 3), (2, .int 15), (3, .int 18), (4, .int 11), (5, .int 19), (6, .int 0)] := hl
  have f101 := hts (.fieldLink RX11 101 "HiredEnemyModel" "fault" "I") (iwoX11_isWord (k := 0) rfl)
  have inX11 : ∀ w ∈ wsX110, w ∈ wsX11_isWord := innX11_isWord_X11
  refine lv_aload_n hx hb dX11_isWord_0 rfl (lv_at hl 0 rfl) ?_
  refine va_get (v := .int 0) (T := TX11) (N := 35) hx hb hts inX11 hown hK hP 0 rfl rfl 5 (by decide) f101 (fun _ h9 => h9) rfl dX11_isWord_1 ?_
  refine lv_if_ne (tgt := 30) hx hb dX11_isWord_4 (by decide) (fun c_1 => ?_) (fun c_1 => ?_)
  · exact absurd (by decide) c_1
  · refine lv_aload_n hx hb dX11_isWord_7 rfl (lv_at hl 0 rfl) ?_
    refine he_ci (wc := [(oX11 m0 tw ta (nI n) pl (nI k) 0 fw cs fd rfm rt_ to_ rw_ wa ct rk rb cn br sm as_ go sh_ ir oa ob th ig sp_ ki tg of_ kp sf rs), (aI g fd 500 fb)]) (wr := []) (va_runV (As := []) (rest := []) ⟨hx, hb, hml, hown, hts⟩ (h_X11_wordHere l g m0 fd rfm rt_ to_ rw_ wa rk rb cn br sm as_ go sh_ ki tg of_ kp rs ta pl cs ct ir oa ob th ig sp_ sf tw n k 0 fw fb (by first | assumption | decide | omega) (by first | assumption | decide | omega) H.size) (cwV 0 hts gX11_isWord_X11_wordHere rfl rfl rfl (by decide +kernel) ⟨Nat.le_of_ble_eq_true rfl, Nat.le_of_ble_eq_true rfl⟩) (he_preV (wc := [(oX11 m0 tw ta (nI n) pl (nI k) 0 fw cs fd rfm rt_ to_ rw_ wa ct rk rb cn br sm as_ go sh_ ir oa ob th ig sp_ ki tg of_ kp sf rs), (aI g fd 500 fb)]) hK hP hD hS hA hE [0, 1] rfl rfl 0 rfl rfl) rfl rfl hl.1 rfl (lv_room (Nat.le_of_ble_eq_true rfl)) dX11_isWord_8 ⟨(Nat.le_of_ble_eq_true rfl), (Nat.le_of_ble_eq_true rfl)⟩) hP hD hS hA [0, 1] [] rfl rfl rfl (by decide) (fun r_2 u_3 H locs h_4 hP hD hS => ?_)
    obtain ⟨k2_5, rfl⟩ : ∃ z, z = u_3 := ⟨_, rfl⟩
    try dsimp only at h_4
    obtain ⟨hf_6, hf_7⟩ := h_4
    have hP : va_P g.1 vwCl [(oX11 m0 tw ta (nI n) pl (nI k2_5) 0 fw cs fd rfm rt_ to_ rw_ wa ct rk rb cn br sm as_ go sh_ ir oa ob th ig sp_ ki tg of_ kp sf rs), (aI g fd 500 fb)] H := hP
    have hD : va_D A [(oX11 m0 tw ta (nI n) pl (nI k2_5) 0 fw cs fd rfm rt_ to_ rw_ wa ct rk rb cn br sm as_ go sh_ ir oa ob th ig sp_ ki tg of_ kp sf rs), (aI g fd 500 fb)] := hD
    refine lv_iload_n hx hb dX11_isWord_11 rfl (lv_at hl 1 rfl) ?_
    refine lv_iload_n hx hb dX11_isWord_12 rfl (lv_at hl 2 rfl) ?_
    refine lv_iload_n hx hb dX11_isWord_13 rfl (lv_at hl 3 rfl) ?_
    refine lv_iload hx hb dX11_isWord_14 (lv_at hl 4 rfl) ?_
    refine lv_iload hx hb dX11_isWord_16 (lv_at hl 5 rfl) ?_
    refine lv_iload hx hb dX11_isWord_18 (lv_at hl 6 rfl) ?_
    refine he_ci (wc := []) (wr := [(oX11 m0 tw ta (nI n) pl (nI k2_5) 0 fw cs fd rfm rt_ to_ rw_ wa ct rk rb cn br sm as_ go sh_ ir oa ob th ig sp_ ki tg of_ kp sf rs), (aI g fd 500 fb)]) (va_runS (As := [.int 3, .int 15, .int 18, .int 11, .int 19, .int 0]) (rest := [.int r_2]) ⟨hx, hb, hml, hown, hts⟩ (h_X11_six_3_15_18_11_19_0 l g  H.size) (va_cwS 6 hts gX11_isWord_X11_six rfl rfl rfl (by decide +kernel) ⟨Nat.le_of_ble_eq_true rfl, Nat.le_of_ble_eq_true rfl⟩) (he_preS (wc := []) hK hP hD hS hA hE [] rfl rfl) rfl rfl hl.1 rfl (lv_room (Nat.le_of_ble_eq_true rfl)) dX11_isWord_20 ⟨(Nat.le_of_ble_eq_true rfl), (Nat.le_of_ble_eq_true rfl)⟩) hP hD hS hA [] [0, 1] rfl rfl rfl (by decide) (fun r_8 u_9 H locs h_10 hP hD hS => ?_)
    subst h_10
    have hP : va_P g.1 vwCl [(oX11 m0 tw ta (nI n) pl (nI k2_5) 0 fw cs fd rfm rt_ to_ rw_ wa ct rk rb cn br sm as_ go sh_ ir oa ob th ig sp_ ki tg of_ kp sf rs), (aI g fd 500 fb)] H := hP
    have hD : va_D A [(oX11 m0 tw ta (nI n) pl (nI k2_5) 0 fw cs fd rfm rt_ to_ rw_ wa ct rk rb cn br sm as_ go sh_ ir oa ob th ig sp_ ki tg of_ kp sf rs), (aI g fd 500 fb)] := hD
    refine lv_icmp_ne (tgt := 30) hx hb dX11_isWord_23 (by decide) (fun c_11 => ?_) (fun c_11 => ?_)
    · refine lv_iconst (v := 0) hx hb dX11_isWord_30 (by decide) ?_
      exact he_rz hQ hx hb hr hlk hP hD hS dX11_isWord_31 (Nat.le_of_ble_eq_true rfl) (Nat.le_of_ble_eq_true rfl) rfl (k2_5) (rfl) (⟨Or.inl rfl, by omega, by omega⟩)
    · refine lv_iconst (v := 1) hx hb dX11_isWord_26 (by decide) ?_
      refine lv_goto (tgt := 31) hx hb dX11_isWord_27 (by decide) ?_
      exact he_rz hQ hx hb hr hlk hP hD hS dX11_isWord_31 (Nat.le_of_ble_eq_true rfl) (Nat.le_of_ble_eq_true rfl) rfl (k2_5) (rfl) (⟨Or.inr rfl, by omega, by omega⟩)
set_option maxHeartbeats 4000000 in
set_option maxRecDepth 100000 in
theorem h_X11_six_2_15_14_21_19_0 (l : Launch) (g : he_G)   : he_I l yX11_six wsX11_six 0 0 0 0 g [.int 2, .int 15, .int 14, .int 21, .int 19, .int 0] [] (fun (r : Int32) (u : Unit) => r = 1368919) (fun (u : Unit) => []) := by
  refine he_begin (l := l) (g := g) (y := yX11_six) (wl := wsX11_six) (fr := 0) (lo := 0) (mc := 0) (ms := 0) (av := [.int 2, .int 15, .int 14, .int 21, .int 19, .int 0]) (ws := []) (cc := cX11_six) (maxL := 7) (ret := (some .int)) (fun A => va_Qi (fun (r : Int32) (u : Unit) => r = 1368919) (fun u t => he_post g A ((fun (u : Unit) => []) u) t) A) (by decide) rfl (Nat.le_of_ble_eq_true rfl) ?_
  intro p e s m args below meth c A ls H locs Q hQ hB
  obtain ⟨hx, hb, hr, hml, hown, hts, hlk, hin, hP, hK, hD, hS, hA, hE, hl⟩ := hB
  have hl : lv_has ls 7 [(0, .int 2), (1, .int 15), (2, .int 14), (3, .int 21), (4, .int 19), (5, .int 0)] := hl
  refine lv_bipush (v := 27) hx hb dX11_six_0 (by decide) ?_
  refine lv_bipush (v := 27) hx hb dX11_six_2 (by decide) ?_
  refine lv_bipush (v := 27) hx hb dX11_six_4 (by decide) ?_
  refine lv_iload_n hx hb dX11_six_6 rfl (lv_at hl 0 rfl) ?_
  refine lv_imul hx hb dX11_six_7 ?_
  refine he_top (54) (by decide) ?_
  refine lv_iload_n hx hb dX11_six_8 rfl (lv_at hl 1 rfl) ?_
  refine lv_iadd hx hb dX11_six_9 ?_
  refine he_top (69) (by decide) ?_
  refine lv_imul hx hb dX11_six_10 ?_
  refine he_top (1863) (by decide) ?_
  refine lv_iload_n hx hb dX11_six_11 rfl (lv_at hl 2 rfl) ?_
  refine lv_iadd hx hb dX11_six_12 ?_
  refine he_top (1877) (by decide) ?_
  refine lv_imul hx hb dX11_six_13 ?_
  refine he_top (50679) (by decide) ?_
  refine lv_istore (lv' := [(6, .int 50679), (0, .int 2), (1, .int 15), (2, .int 14), (3, .int 21), (4, .int 19), (5, .int 0)]) hx hb dX11_six_14 hl (by decide) rfl (fun ls hl => ?_)
  refine lv_iload_n hx hb dX11_six_16 rfl (lv_at hl 4 rfl) ?_
  refine lv_if_ne (tgt := 28) hx hb dX11_six_17 (by decide) (fun c_1 => ?_) (fun c_1 => ?_)
  · refine lv_iload hx hb dX11_six_28 (lv_at hl 0 rfl) ?_
    refine lv_iload_n hx hb dX11_six_30 rfl (lv_at hl 4 rfl) ?_
    refine lv_iadd hx hb dX11_six_31 ?_
    refine he_top (50700) (by decide) ?_
    refine lv_istore (lv' := [(6, .int 50700), (0, .int 2), (1, .int 15), (2, .int 14), (3, .int 21), (4, .int 19), (5, .int 0)]) hx hb dX11_six_32 hl (by decide) rfl (fun ls hl => ?_)
    refine lv_iload hx hb dX11_six_34 (lv_at hl 5 rfl) ?_
    refine lv_if_ne (tgt := 44) hx hb dX11_six_36 (by decide) (fun c_2 => ?_) (fun c_2 => ?_)
    · refine lv_bipush (v := 27) hx hb dX11_six_44 (by decide) ?_
      refine lv_iload hx hb dX11_six_46 (lv_at hl 0 rfl) ?_
      refine lv_imul hx hb dX11_six_48 ?_
      refine he_top (1368900) (by decide) ?_
      refine lv_iload hx hb dX11_six_49 (lv_at hl 5 rfl) ?_
      refine lv_iadd hx hb dX11_six_51 ?_
      refine he_top (1368919) (by decide) ?_
      refine lv_istore (lv' := [(6, .int 1368919), (0, .int 2), (1, .int 15), (2, .int 14), (3, .int 21), (4, .int 19), (5, .int 0)]) hx hb dX11_six_52 hl (by decide) rfl (fun ls hl => ?_)
      refine lv_iload hx hb dX11_six_54 (lv_at hl 6 rfl) ?_
      refine lv_if_ne (tgt := 64) hx hb dX11_six_56 (by decide) (fun c_3 => ?_) (fun c_3 => ?_)
      · exact absurd (by decide) c_3
      · refine lv_iload hx hb dX11_six_59 (lv_at hl 0 rfl) ?_
        refine lv_goto (tgt := 72) hx hb dX11_six_61 (by decide) ?_
        exact he_ri hQ hx hb hr hlk hP hD hS dX11_six_72 (Nat.le_of_ble_eq_true rfl) (Nat.le_of_ble_eq_true rfl) (()) (rfl) (rfl)
    · exact absurd c_2 (by decide)
  · exact absurd c_1 (by decide)
set_option maxHeartbeats 4000000 in
set_option maxRecDepth 100000 in
theorem h_X11_isWord_2_15_14_21_19_0 (l : Launch) (g : he_G) (m0 : Nat) (fd : Nat) (rfm : Nat) (rt_ : Nat) (to_ : Nat) (rw_ : Nat) (wa : Nat) (rk : Nat) (rb : Nat) (cn : Nat) (br : Nat) (sm : Nat) (as_ : Nat) (go : Nat) (sh_ : Nat) (ki : Nat) (tg : Nat) (of_ : Nat) (kp : Nat) (rs : Nat) (ta : Int32) (pl : Int32) (cs : Int32) (ct : Int32) (ir : Int32) (oa : Int32) (ob : Int32) (th : Int32) (ig : Int32) (sp_ : Int32) (sf : Int32) (tw : Int32) (n : Nat) (k : Nat) (fw : Int32) (fb : Nat → Int32) (hn : n ≤ 500) (hk : k ≤ n) : he_I l yX11_isWord wsX11_isWord 3 63 0 0 g [.ref m0, .int 2, .int 15, .int 14, .int 21, .int 19, .int 0] [(oX11 m0 tw ta (nI n) pl (nI k) 0 fw cs fd rfm rt_ to_ rw_ wa ct rk rb cn br sm as_ go sh_ ir oa ob th ig sp_ ki tg of_ kp sf rs), (aI g fd 500 fb)] (fun (r : Int32) (u : Nat) => (r = 0 ∨ r = 1) ∧ k ≤ u ∧ u ≤ n) (fun (u : Nat) => [(oX11 m0 tw ta (nI n) pl (nI u) 0 fw cs fd rfm rt_ to_ rw_ wa ct rk rb cn br sm as_ go sh_ ir oa ob th ig sp_ ki tg of_ kp sf rs), (aI g fd 500 fb)]) := by
  refine he_begin (l := l) (g := g) (y := yX11_isWord) (wl := wsX11_isWord) (fr := 3) (lo := 63) (mc := 0) (ms := 0) (av := [.ref m0, .int 2, .int 15, .int 14, .int 21, .int 19, .int 0]) (ws := [(oX11 m0 tw ta (nI n) pl (nI k) 0 fw cs fd rfm rt_ to_ rw_ wa ct rk rb cn br sm as_ go sh_ ir oa ob th ig sp_ ki tg of_ kp sf rs), (aI g fd 500 fb)]) (cc := cX11_isWord) (maxL := 7) (ret := (some .boolean)) (fun A => va_Qi (fun (r : Int32) (u : Nat) => (r = 0 ∨ r = 1) ∧ k ≤ u ∧ u ≤ n) (fun u t => he_post g A ((fun (u : Nat) => [(oX11 m0 tw ta (nI n) pl (nI u) 0 fw cs fd rfm rt_ to_ rw_ wa ct rk rb cn br sm as_ go sh_ ir oa ob th ig sp_ ki tg of_ kp sf rs), (aI g fd 500 fb)]) u) t) A) (by decide) rfl (Nat.le_of_ble_eq_true rfl) ?_
  intro p e s m args below meth c A ls H locs Q hQ hB
  obtain ⟨hx, hb, hr, hml, hown, hts, hlk, hin, hP, hK, hD, hS, hA, hE, hl⟩ := hB
  have hl : lv_has ls 7 [(0, .ref m0), (1, .int 2), (2, .int 15), (3, .int 14), (4, .int 21), (5, .int 19), (6, .int 0)] := hl
  have f101 := hts (.fieldLink RX11 101 "HiredEnemyModel" "fault" "I") (iwoX11_isWord (k := 0) rfl)
  have inX11 : ∀ w ∈ wsX110, w ∈ wsX11_isWord := innX11_isWord_X11
  refine lv_aload_n hx hb dX11_isWord_0 rfl (lv_at hl 0 rfl) ?_
  refine va_get (v := .int 0) (T := TX11) (N := 35) hx hb hts inX11 hown hK hP 0 rfl rfl 5 (by decide) f101 (fun _ h9 => h9) rfl dX11_isWord_1 ?_
  refine lv_if_ne (tgt := 30) hx hb dX11_isWord_4 (by decide) (fun c_1 => ?_) (fun c_1 => ?_)
  · exact absurd (by decide) c_1
  · refine lv_aload_n hx hb dX11_isWord_7 rfl (lv_at hl 0 rfl) ?_
    refine he_ci (wc := [(oX11 m0 tw ta (nI n) pl (nI k) 0 fw cs fd rfm rt_ to_ rw_ wa ct rk rb cn br sm as_ go sh_ ir oa ob th ig sp_ ki tg of_ kp sf rs), (aI g fd 500 fb)]) (wr := []) (va_runV (As := []) (rest := []) ⟨hx, hb, hml, hown, hts⟩ (h_X11_wordHere l g m0 fd rfm rt_ to_ rw_ wa rk rb cn br sm as_ go sh_ ki tg of_ kp rs ta pl cs ct ir oa ob th ig sp_ sf tw n k 0 fw fb (by first | assumption | decide | omega) (by first | assumption | decide | omega) H.size) (cwV 0 hts gX11_isWord_X11_wordHere rfl rfl rfl (by decide +kernel) ⟨Nat.le_of_ble_eq_true rfl, Nat.le_of_ble_eq_true rfl⟩) (he_preV (wc := [(oX11 m0 tw ta (nI n) pl (nI k) 0 fw cs fd rfm rt_ to_ rw_ wa ct rk rb cn br sm as_ go sh_ ir oa ob th ig sp_ ki tg of_ kp sf rs), (aI g fd 500 fb)]) hK hP hD hS hA hE [0, 1] rfl rfl 0 rfl rfl) rfl rfl hl.1 rfl (lv_room (Nat.le_of_ble_eq_true rfl)) dX11_isWord_8 ⟨(Nat.le_of_ble_eq_true rfl), (Nat.le_of_ble_eq_true rfl)⟩) hP hD hS hA [0, 1] [] rfl rfl rfl (by decide) (fun r_2 u_3 H locs h_4 hP hD hS => ?_)
    obtain ⟨k2_5, rfl⟩ : ∃ z, z = u_3 := ⟨_, rfl⟩
    try dsimp only at h_4
    obtain ⟨hf_6, hf_7⟩ := h_4
    have hP : va_P g.1 vwCl [(oX11 m0 tw ta (nI n) pl (nI k2_5) 0 fw cs fd rfm rt_ to_ rw_ wa ct rk rb cn br sm as_ go sh_ ir oa ob th ig sp_ ki tg of_ kp sf rs), (aI g fd 500 fb)] H := hP
    have hD : va_D A [(oX11 m0 tw ta (nI n) pl (nI k2_5) 0 fw cs fd rfm rt_ to_ rw_ wa ct rk rb cn br sm as_ go sh_ ir oa ob th ig sp_ ki tg of_ kp sf rs), (aI g fd 500 fb)] := hD
    refine lv_iload_n hx hb dX11_isWord_11 rfl (lv_at hl 1 rfl) ?_
    refine lv_iload_n hx hb dX11_isWord_12 rfl (lv_at hl 2 rfl) ?_
    refine lv_iload_n hx hb dX11_isWord_13 rfl (lv_at hl 3 rfl) ?_
    refine lv_iload hx hb dX11_isWord_14 (lv_at hl 4 rfl) ?_
    refine lv_iload hx hb dX11_isWord_16 (lv_at hl 5 rfl) ?_
    refine lv_iload hx hb dX11_isWord_18 (lv_at hl 6 rfl) ?_
    refine he_ci (wc := []) (wr := [(oX11 m0 tw ta (nI n) pl (nI k2_5) 0 fw cs fd rfm rt_ to_ rw_ wa ct rk rb cn br sm as_ go sh_ ir oa ob th ig sp_ ki tg of_ kp sf rs), (aI g fd 500 fb)]) (va_runS (As := [.int 2, .int 15, .int 14, .int 21, .int 19, .int 0]) (rest := [.int r_2]) ⟨hx, hb, hml, hown, hts⟩ (h_X11_six_2_15_14_21_19_0 l g  H.size) (va_cwS 6 hts gX11_isWord_X11_six rfl rfl rfl (by decide +kernel) ⟨Nat.le_of_ble_eq_true rfl, Nat.le_of_ble_eq_true rfl⟩) (he_preS (wc := []) hK hP hD hS hA hE [] rfl rfl) rfl rfl hl.1 rfl (lv_room (Nat.le_of_ble_eq_true rfl)) dX11_isWord_20 ⟨(Nat.le_of_ble_eq_true rfl), (Nat.le_of_ble_eq_true rfl)⟩) hP hD hS hA [] [0, 1] rfl rfl rfl (by decide) (fun r_8 u_9 H locs h_10 hP hD hS => ?_)
    subst h_10
    have hP : va_P g.1 vwCl [(oX11 m0 tw ta (nI n) pl (nI k2_5) 0 fw cs fd rfm rt_ to_ rw_ wa ct rk rb cn br sm as_ go sh_ ir oa ob th ig sp_ ki tg of_ kp sf rs), (aI g fd 500 fb)] H := hP
    have hD : va_D A [(oX11 m0 tw ta (nI n) pl (nI k2_5) 0 fw cs fd rfm rt_ to_ rw_ wa ct rk rb cn br sm as_ go sh_ ir oa ob th ig sp_ ki tg of_ kp sf rs), (aI g fd 500 fb)] := hD
    refine lv_icmp_ne (tgt := 30) hx hb dX11_isWord_23 (by decide) (fun c_11 => ?_) (fun c_11 => ?_)
    · refine lv_iconst (v := 0) hx hb dX11_isWord_30 (by decide) ?_
      exact he_rz hQ hx hb hr hlk hP hD hS dX11_isWord_31 (Nat.le_of_ble_eq_true rfl) (Nat.le_of_ble_eq_true rfl) rfl (k2_5) (rfl) (⟨Or.inl rfl, by omega, by omega⟩)
    · refine lv_iconst (v := 1) hx hb dX11_isWord_26 (by decide) ?_
      refine lv_goto (tgt := 31) hx hb dX11_isWord_27 (by decide) ?_
      exact he_rz hQ hx hb hr hlk hP hD hS dX11_isWord_31 (Nat.le_of_ble_eq_true rfl) (Nat.le_of_ble_eq_true rfl) rfl (k2_5) (rfl) (⟨Or.inr rfl, by omega, by omega⟩)
set_option maxHeartbeats 4000000 in
set_option maxRecDepth 100000 in
theorem h_X11_six_20_9_12_12_0_0 (l : Launch) (g : he_G)   : he_I l yX11_six wsX11_six 0 0 0 0 g [.int 20, .int 9, .int 12, .int 12, .int 0, .int 0] [] (fun (r : Int32) (u : Unit) => r = 400557) (fun (u : Unit) => []) := by
  refine he_begin (l := l) (g := g) (y := yX11_six) (wl := wsX11_six) (fr := 0) (lo := 0) (mc := 0) (ms := 0) (av := [.int 20, .int 9, .int 12, .int 12, .int 0, .int 0]) (ws := []) (cc := cX11_six) (maxL := 7) (ret := (some .int)) (fun A => va_Qi (fun (r : Int32) (u : Unit) => r = 400557) (fun u t => he_post g A ((fun (u : Unit) => []) u) t) A) (by decide) rfl (Nat.le_of_ble_eq_true rfl) ?_
  intro p e s m args below meth c A ls H locs Q hQ hB
  obtain ⟨hx, hb, hr, hml, hown, hts, hlk, hin, hP, hK, hD, hS, hA, hE, hl⟩ := hB
  have hl : lv_has ls 7 [(0, .int 20), (1, .int 9), (2, .int 12), (3, .int 12), (4, .int 0), (5, .int 0)] := hl
  refine lv_bipush (v := 27) hx hb dX11_six_0 (by decide) ?_
  refine lv_bipush (v := 27) hx hb dX11_six_2 (by decide) ?_
  refine lv_bipush (v := 27) hx hb dX11_six_4 (by decide) ?_
  refine lv_iload_n hx hb dX11_six_6 rfl (lv_at hl 0 rfl) ?_
  refine lv_imul hx hb dX11_six_7 ?_
  refine he_top (540) (by decide) ?_
  refine lv_iload_n hx hb dX11_six_8 rfl (lv_at hl 1 rfl) ?_
  refine lv_iadd hx hb dX11_six_9 ?_
  refine he_top (549) (by decide) ?_
  refine lv_imul hx hb dX11_six_10 ?_
  refine he_top (14823) (by decide) ?_
  refine lv_iload_n hx hb dX11_six_11 rfl (lv_at hl 2 rfl) ?_
  refine lv_iadd hx hb dX11_six_12 ?_
  refine he_top (14835) (by decide) ?_
  refine lv_imul hx hb dX11_six_13 ?_
  refine he_top (400545) (by decide) ?_
  refine lv_istore (lv' := [(6, .int 400545), (0, .int 20), (1, .int 9), (2, .int 12), (3, .int 12), (4, .int 0), (5, .int 0)]) hx hb dX11_six_14 hl (by decide) rfl (fun ls hl => ?_)
  refine lv_iload_n hx hb dX11_six_16 rfl (lv_at hl 4 rfl) ?_
  refine lv_if_ne (tgt := 28) hx hb dX11_six_17 (by decide) (fun c_1 => ?_) (fun c_1 => ?_)
  · refine lv_iload hx hb dX11_six_28 (lv_at hl 0 rfl) ?_
    refine lv_iload_n hx hb dX11_six_30 rfl (lv_at hl 4 rfl) ?_
    refine lv_iadd hx hb dX11_six_31 ?_
    refine he_top (400557) (by decide) ?_
    refine lv_istore (lv' := [(6, .int 400557), (0, .int 20), (1, .int 9), (2, .int 12), (3, .int 12), (4, .int 0), (5, .int 0)]) hx hb dX11_six_32 hl (by decide) rfl (fun ls hl => ?_)
    refine lv_iload hx hb dX11_six_34 (lv_at hl 5 rfl) ?_
    refine lv_if_ne (tgt := 44) hx hb dX11_six_36 (by decide) (fun c_2 => ?_) (fun c_2 => ?_)
    · exact absurd (by decide) c_2
    · refine lv_iload hx hb dX11_six_39 (lv_at hl 0 rfl) ?_
      refine lv_goto (tgt := 52) hx hb dX11_six_41 (by decide) ?_
      refine lv_istore (lv' := [(6, .int 400557), (0, .int 20), (1, .int 9), (2, .int 12), (3, .int 12), (4, .int 0), (5, .int 0)]) hx hb dX11_six_52 hl (by decide) rfl (fun ls hl => ?_)
      refine lv_iload hx hb dX11_six_54 (lv_at hl 6 rfl) ?_
      refine lv_if_ne (tgt := 64) hx hb dX11_six_56 (by decide) (fun c_3 => ?_) (fun c_3 => ?_)
      · exact absurd (by decide) c_3
      · refine lv_iload hx hb dX11_six_59 (lv_at hl 0 rfl) ?_
        refine lv_goto (tgt := 72) hx hb dX11_six_61 (by decide) ?_
        exact he_ri hQ hx hb hr hlk hP hD hS dX11_six_72 (Nat.le_of_ble_eq_true rfl) (Nat.le_of_ble_eq_true rfl) (()) (rfl) (rfl)
  · exact absurd c_1 (by decide)
set_option maxHeartbeats 4000000 in
set_option maxRecDepth 100000 in
theorem h_X11_isWord_20_9_12_12_0_0 (l : Launch) (g : he_G) (m0 : Nat) (fd : Nat) (rfm : Nat) (rt_ : Nat) (to_ : Nat) (rw_ : Nat) (wa : Nat) (rk : Nat) (rb : Nat) (cn : Nat) (br : Nat) (sm : Nat) (as_ : Nat) (go : Nat) (sh_ : Nat) (ki : Nat) (tg : Nat) (of_ : Nat) (kp : Nat) (rs : Nat) (ta : Int32) (pl : Int32) (cs : Int32) (ct : Int32) (ir : Int32) (oa : Int32) (ob : Int32) (th : Int32) (ig : Int32) (sp_ : Int32) (sf : Int32) (tw : Int32) (n : Nat) (k : Nat) (fw : Int32) (fb : Nat → Int32) (hn : n ≤ 500) (hk : k ≤ n) : he_I l yX11_isWord wsX11_isWord 3 63 0 0 g [.ref m0, .int 20, .int 9, .int 12, .int 12, .int 0, .int 0] [(oX11 m0 tw ta (nI n) pl (nI k) 0 fw cs fd rfm rt_ to_ rw_ wa ct rk rb cn br sm as_ go sh_ ir oa ob th ig sp_ ki tg of_ kp sf rs), (aI g fd 500 fb)] (fun (r : Int32) (u : Nat) => (r = 0 ∨ r = 1) ∧ k ≤ u ∧ u ≤ n) (fun (u : Nat) => [(oX11 m0 tw ta (nI n) pl (nI u) 0 fw cs fd rfm rt_ to_ rw_ wa ct rk rb cn br sm as_ go sh_ ir oa ob th ig sp_ ki tg of_ kp sf rs), (aI g fd 500 fb)]) := by
  refine he_begin (l := l) (g := g) (y := yX11_isWord) (wl := wsX11_isWord) (fr := 3) (lo := 63) (mc := 0) (ms := 0) (av := [.ref m0, .int 20, .int 9, .int 12, .int 12, .int 0, .int 0]) (ws := [(oX11 m0 tw ta (nI n) pl (nI k) 0 fw cs fd rfm rt_ to_ rw_ wa ct rk rb cn br sm as_ go sh_ ir oa ob th ig sp_ ki tg of_ kp sf rs), (aI g fd 500 fb)]) (cc := cX11_isWord) (maxL := 7) (ret := (some .boolean)) (fun A => va_Qi (fun (r : Int32) (u : Nat) => (r = 0 ∨ r = 1) ∧ k ≤ u ∧ u ≤ n) (fun u t => he_post g A ((fun (u : Nat) => [(oX11 m0 tw ta (nI n) pl (nI u) 0 fw cs fd rfm rt_ to_ rw_ wa ct rk rb cn br sm as_ go sh_ ir oa ob th ig sp_ ki tg of_ kp sf rs), (aI g fd 500 fb)]) u) t) A) (by decide) rfl (Nat.le_of_ble_eq_true rfl) ?_
  intro p e s m args below meth c A ls H locs Q hQ hB
  obtain ⟨hx, hb, hr, hml, hown, hts, hlk, hin, hP, hK, hD, hS, hA, hE, hl⟩ := hB
  have hl : lv_has ls 7 [(0, .ref m0), (1, .int 20), (2, .int 9), (3, .int 12), (4, .int 12), (5, .int 0), (6, .int 0)] := hl
  have f101 := hts (.fieldLink RX11 101 "HiredEnemyModel" "fault" "I") (iwoX11_isWord (k := 0) rfl)
  have inX11 : ∀ w ∈ wsX110, w ∈ wsX11_isWord := innX11_isWord_X11
  refine lv_aload_n hx hb dX11_isWord_0 rfl (lv_at hl 0 rfl) ?_
  refine va_get (v := .int 0) (T := TX11) (N := 35) hx hb hts inX11 hown hK hP 0 rfl rfl 5 (by decide) f101 (fun _ h9 => h9) rfl dX11_isWord_1 ?_
  refine lv_if_ne (tgt := 30) hx hb dX11_isWord_4 (by decide) (fun c_1 => ?_) (fun c_1 => ?_)
  · exact absurd (by decide) c_1
  · refine lv_aload_n hx hb dX11_isWord_7 rfl (lv_at hl 0 rfl) ?_
    refine he_ci (wc := [(oX11 m0 tw ta (nI n) pl (nI k) 0 fw cs fd rfm rt_ to_ rw_ wa ct rk rb cn br sm as_ go sh_ ir oa ob th ig sp_ ki tg of_ kp sf rs), (aI g fd 500 fb)]) (wr := []) (va_runV (As := []) (rest := []) ⟨hx, hb, hml, hown, hts⟩ (h_X11_wordHere l g m0 fd rfm rt_ to_ rw_ wa rk rb cn br sm as_ go sh_ ki tg of_ kp rs ta pl cs ct ir oa ob th ig sp_ sf tw n k 0 fw fb (by first | assumption | decide | omega) (by first | assumption | decide | omega) H.size) (cwV 0 hts gX11_isWord_X11_wordHere rfl rfl rfl (by decide +kernel) ⟨Nat.le_of_ble_eq_true rfl, Nat.le_of_ble_eq_true rfl⟩) (he_preV (wc := [(oX11 m0 tw ta (nI n) pl (nI k) 0 fw cs fd rfm rt_ to_ rw_ wa ct rk rb cn br sm as_ go sh_ ir oa ob th ig sp_ ki tg of_ kp sf rs), (aI g fd 500 fb)]) hK hP hD hS hA hE [0, 1] rfl rfl 0 rfl rfl) rfl rfl hl.1 rfl (lv_room (Nat.le_of_ble_eq_true rfl)) dX11_isWord_8 ⟨(Nat.le_of_ble_eq_true rfl), (Nat.le_of_ble_eq_true rfl)⟩) hP hD hS hA [0, 1] [] rfl rfl rfl (by decide) (fun r_2 u_3 H locs h_4 hP hD hS => ?_)
    obtain ⟨k2_5, rfl⟩ : ∃ z, z = u_3 := ⟨_, rfl⟩
    try dsimp only at h_4
    obtain ⟨hf_6, hf_7⟩ := h_4
    have hP : va_P g.1 vwCl [(oX11 m0 tw ta (nI n) pl (nI k2_5) 0 fw cs fd rfm rt_ to_ rw_ wa ct rk rb cn br sm as_ go sh_ ir oa ob th ig sp_ ki tg of_ kp sf rs), (aI g fd 500 fb)] H := hP
    have hD : va_D A [(oX11 m0 tw ta (nI n) pl (nI k2_5) 0 fw cs fd rfm rt_ to_ rw_ wa ct rk rb cn br sm as_ go sh_ ir oa ob th ig sp_ ki tg of_ kp sf rs), (aI g fd 500 fb)] := hD
    refine lv_iload_n hx hb dX11_isWord_11 rfl (lv_at hl 1 rfl) ?_
    refine lv_iload_n hx hb dX11_isWord_12 rfl (lv_at hl 2 rfl) ?_
    refine lv_iload_n hx hb dX11_isWord_13 rfl (lv_at hl 3 rfl) ?_
    refine lv_iload hx hb dX11_isWord_14 (lv_at hl 4 rfl) ?_
    refine lv_iload hx hb dX11_isWord_16 (lv_at hl 5 rfl) ?_
    refine lv_iload hx hb dX11_isWord_18 (lv_at hl 6 rfl) ?_
    refine he_ci (wc := []) (wr := [(oX11 m0 tw ta (nI n) pl (nI k2_5) 0 fw cs fd rfm rt_ to_ rw_ wa ct rk rb cn br sm as_ go sh_ ir oa ob th ig sp_ ki tg of_ kp sf rs), (aI g fd 500 fb)]) (va_runS (As := [.int 20, .int 9, .int 12, .int 12, .int 0, .int 0]) (rest := [.int r_2]) ⟨hx, hb, hml, hown, hts⟩ (h_X11_six_20_9_12_12_0_0 l g  H.size) (va_cwS 6 hts gX11_isWord_X11_six rfl rfl rfl (by decide +kernel) ⟨Nat.le_of_ble_eq_true rfl, Nat.le_of_ble_eq_true rfl⟩) (he_preS (wc := []) hK hP hD hS hA hE [] rfl rfl) rfl rfl hl.1 rfl (lv_room (Nat.le_of_ble_eq_true rfl)) dX11_isWord_20 ⟨(Nat.le_of_ble_eq_true rfl), (Nat.le_of_ble_eq_true rfl)⟩) hP hD hS hA [] [0, 1] rfl rfl rfl (by decide) (fun r_8 u_9 H locs h_10 hP hD hS => ?_)
    subst h_10
    have hP : va_P g.1 vwCl [(oX11 m0 tw ta (nI n) pl (nI k2_5) 0 fw cs fd rfm rt_ to_ rw_ wa ct rk rb cn br sm as_ go sh_ ir oa ob th ig sp_ ki tg of_ kp sf rs), (aI g fd 500 fb)] H := hP
    have hD : va_D A [(oX11 m0 tw ta (nI n) pl (nI k2_5) 0 fw cs fd rfm rt_ to_ rw_ wa ct rk rb cn br sm as_ go sh_ ir oa ob th ig sp_ ki tg of_ kp sf rs), (aI g fd 500 fb)] := hD
    refine lv_icmp_ne (tgt := 30) hx hb dX11_isWord_23 (by decide) (fun c_11 => ?_) (fun c_11 => ?_)
    · refine lv_iconst (v := 0) hx hb dX11_isWord_30 (by decide) ?_
      exact he_rz hQ hx hb hr hlk hP hD hS dX11_isWord_31 (Nat.le_of_ble_eq_true rfl) (Nat.le_of_ble_eq_true rfl) rfl (k2_5) (rfl) (⟨Or.inl rfl, by omega, by omega⟩)
    · refine lv_iconst (v := 1) hx hb dX11_isWord_26 (by decide) ?_
      refine lv_goto (tgt := 31) hx hb dX11_isWord_27 (by decide) ?_
      exact he_rz hQ hx hb hr hlk hP hD hS dX11_isWord_31 (Nat.le_of_ble_eq_true rfl) (Nat.le_of_ble_eq_true rfl) rfl (k2_5) (rfl) (⟨Or.inr rfl, by omega, by omega⟩)
set_option maxHeartbeats 4000000 in
set_option maxRecDepth 100000 in
theorem h_X11_six_2_18_5_1_3_8 (l : Launch) (g : he_G)   : he_I l yX11_six wsX11_six 0 0 0 0 g [.int 2, .int 18, .int 5, .int 1, .int 3, .int 8] [] (fun (r : Int32) (u : Unit) => r = 38362985) (fun (u : Unit) => []) := by
  refine he_begin (l := l) (g := g) (y := yX11_six) (wl := wsX11_six) (fr := 0) (lo := 0) (mc := 0) (ms := 0) (av := [.int 2, .int 18, .int 5, .int 1, .int 3, .int 8]) (ws := []) (cc := cX11_six) (maxL := 7) (ret := (some .int)) (fun A => va_Qi (fun (r : Int32) (u : Unit) => r = 38362985) (fun u t => he_post g A ((fun (u : Unit) => []) u) t) A) (by decide) rfl (Nat.le_of_ble_eq_true rfl) ?_
  intro p e s m args below meth c A ls H locs Q hQ hB
  obtain ⟨hx, hb, hr, hml, hown, hts, hlk, hin, hP, hK, hD, hS, hA, hE, hl⟩ := hB
  have hl : lv_has ls 7 [(0, .int 2), (1, .int 18), (2, .int 5), (3, .int 1), (4, .int 3), (5, .int 8)] := hl
  refine lv_bipush (v := 27) hx hb dX11_six_0 (by decide) ?_
  refine lv_bipush (v := 27) hx hb dX11_six_2 (by decide) ?_
  refine lv_bipush (v := 27) hx hb dX11_six_4 (by decide) ?_
  refine lv_iload_n hx hb dX11_six_6 rfl (lv_at hl 0 rfl) ?_
  refine lv_imul hx hb dX11_six_7 ?_
  refine he_top (54) (by decide) ?_
  refine lv_iload_n hx hb dX11_six_8 rfl (lv_at hl 1 rfl) ?_
  refine lv_iadd hx hb dX11_six_9 ?_
  refine he_top (72) (by decide) ?_
  refine lv_imul hx hb dX11_six_10 ?_
  refine he_top (1944) (by decide) ?_
  refine lv_iload_n hx hb dX11_six_11 rfl (lv_at hl 2 rfl) ?_
  refine lv_iadd hx hb dX11_six_12 ?_
  refine he_top (1949) (by decide) ?_
  refine lv_imul hx hb dX11_six_13 ?_
  refine he_top (52623) (by decide) ?_
  refine lv_istore (lv' := [(6, .int 52623), (0, .int 2), (1, .int 18), (2, .int 5), (3, .int 1), (4, .int 3), (5, .int 8)]) hx hb dX11_six_14 hl (by decide) rfl (fun ls hl => ?_)
  refine lv_iload_n hx hb dX11_six_16 rfl (lv_at hl 4 rfl) ?_
  refine lv_if_ne (tgt := 28) hx hb dX11_six_17 (by decide) (fun c_1 => ?_) (fun c_1 => ?_)
  · refine lv_iload hx hb dX11_six_28 (lv_at hl 0 rfl) ?_
    refine lv_iload_n hx hb dX11_six_30 rfl (lv_at hl 4 rfl) ?_
    refine lv_iadd hx hb dX11_six_31 ?_
    refine he_top (52624) (by decide) ?_
    refine lv_istore (lv' := [(6, .int 52624), (0, .int 2), (1, .int 18), (2, .int 5), (3, .int 1), (4, .int 3), (5, .int 8)]) hx hb dX11_six_32 hl (by decide) rfl (fun ls hl => ?_)
    refine lv_iload hx hb dX11_six_34 (lv_at hl 5 rfl) ?_
    refine lv_if_ne (tgt := 44) hx hb dX11_six_36 (by decide) (fun c_2 => ?_) (fun c_2 => ?_)
    · refine lv_bipush (v := 27) hx hb dX11_six_44 (by decide) ?_
      refine lv_iload hx hb dX11_six_46 (lv_at hl 0 rfl) ?_
      refine lv_imul hx hb dX11_six_48 ?_
      refine he_top (1420848) (by decide) ?_
      refine lv_iload hx hb dX11_six_49 (lv_at hl 5 rfl) ?_
      refine lv_iadd hx hb dX11_six_51 ?_
      refine he_top (1420851) (by decide) ?_
      refine lv_istore (lv' := [(6, .int 1420851), (0, .int 2), (1, .int 18), (2, .int 5), (3, .int 1), (4, .int 3), (5, .int 8)]) hx hb dX11_six_52 hl (by decide) rfl (fun ls hl => ?_)
      refine lv_iload hx hb dX11_six_54 (lv_at hl 6 rfl) ?_
      refine lv_if_ne (tgt := 64) hx hb dX11_six_56 (by decide) (fun c_3 => ?_) (fun c_3 => ?_)
      · refine lv_bipush (v := 27) hx hb dX11_six_64 (by decide) ?_
        refine lv_iload hx hb dX11_six_66 (lv_at hl 0 rfl) ?_
        refine lv_imul hx hb dX11_six_68 ?_
        refine he_top (38362977) (by decide) ?_
        refine lv_iload hx hb dX11_six_69 (lv_at hl 6 rfl) ?_
        refine lv_iadd hx hb dX11_six_71 ?_
        refine he_top (38362985) (by decide) ?_
        exact he_ri hQ hx hb hr hlk hP hD hS dX11_six_72 (Nat.le_of_ble_eq_true rfl) (Nat.le_of_ble_eq_true rfl) (()) (rfl) (rfl)
      · exact absurd c_3 (by decide)
    · exact absurd c_2 (by decide)
  · exact absurd c_1 (by decide)
set_option maxHeartbeats 4000000 in
set_option maxRecDepth 100000 in
theorem h_X11_isWord_2_18_5_1_3_8 (l : Launch) (g : he_G) (m0 : Nat) (fd : Nat) (rfm : Nat) (rt_ : Nat) (to_ : Nat) (rw_ : Nat) (wa : Nat) (rk : Nat) (rb : Nat) (cn : Nat) (br : Nat) (sm : Nat) (as_ : Nat) (go : Nat) (sh_ : Nat) (ki : Nat) (tg : Nat) (of_ : Nat) (kp : Nat) (rs : Nat) (ta : Int32) (pl : Int32) (cs : Int32) (ct : Int32) (ir : Int32) (oa : Int32) (ob : Int32) (th : Int32) (ig : Int32) (sp_ : Int32) (sf : Int32) (tw : Int32) (n : Nat) (k : Nat) (fw : Int32) (fb : Nat → Int32) (hn : n ≤ 500) (hk : k ≤ n) : he_I l yX11_isWord wsX11_isWord 3 63 0 0 g [.ref m0, .int 2, .int 18, .int 5, .int 1, .int 3, .int 8] [(oX11 m0 tw ta (nI n) pl (nI k) 0 fw cs fd rfm rt_ to_ rw_ wa ct rk rb cn br sm as_ go sh_ ir oa ob th ig sp_ ki tg of_ kp sf rs), (aI g fd 500 fb)] (fun (r : Int32) (u : Nat) => (r = 0 ∨ r = 1) ∧ k ≤ u ∧ u ≤ n) (fun (u : Nat) => [(oX11 m0 tw ta (nI n) pl (nI u) 0 fw cs fd rfm rt_ to_ rw_ wa ct rk rb cn br sm as_ go sh_ ir oa ob th ig sp_ ki tg of_ kp sf rs), (aI g fd 500 fb)]) := by
  refine he_begin (l := l) (g := g) (y := yX11_isWord) (wl := wsX11_isWord) (fr := 3) (lo := 63) (mc := 0) (ms := 0) (av := [.ref m0, .int 2, .int 18, .int 5, .int 1, .int 3, .int 8]) (ws := [(oX11 m0 tw ta (nI n) pl (nI k) 0 fw cs fd rfm rt_ to_ rw_ wa ct rk rb cn br sm as_ go sh_ ir oa ob th ig sp_ ki tg of_ kp sf rs), (aI g fd 500 fb)]) (cc := cX11_isWord) (maxL := 7) (ret := (some .boolean)) (fun A => va_Qi (fun (r : Int32) (u : Nat) => (r = 0 ∨ r = 1) ∧ k ≤ u ∧ u ≤ n) (fun u t => he_post g A ((fun (u : Nat) => [(oX11 m0 tw ta (nI n) pl (nI u) 0 fw cs fd rfm rt_ to_ rw_ wa ct rk rb cn br sm as_ go sh_ ir oa ob th ig sp_ ki tg of_ kp sf rs), (aI g fd 500 fb)]) u) t) A) (by decide) rfl (Nat.le_of_ble_eq_true rfl) ?_
  intro p e s m args below meth c A ls H locs Q hQ hB
  obtain ⟨hx, hb, hr, hml, hown, hts, hlk, hin, hP, hK, hD, hS, hA, hE, hl⟩ := hB
  have hl : lv_has ls 7 [(0, .ref m0), (1, .int 2), (2, .int 18), (3, .int 5), (4, .int 1), (5, .int 3), (6, .int 8)] := hl
  have f101 := hts (.fieldLink RX11 101 "HiredEnemyModel" "fault" "I") (iwoX11_isWord (k := 0) rfl)
  have inX11 : ∀ w ∈ wsX110, w ∈ wsX11_isWord := innX11_isWord_X11
  refine lv_aload_n hx hb dX11_isWord_0 rfl (lv_at hl 0 rfl) ?_
  refine va_get (v := .int 0) (T := TX11) (N := 35) hx hb hts inX11 hown hK hP 0 rfl rfl 5 (by decide) f101 (fun _ h9 => h9) rfl dX11_isWord_1 ?_
  refine lv_if_ne (tgt := 30) hx hb dX11_isWord_4 (by decide) (fun c_1 => ?_) (fun c_1 => ?_)
  · exact absurd (by decide) c_1
  · refine lv_aload_n hx hb dX11_isWord_7 rfl (lv_at hl 0 rfl) ?_
    refine he_ci (wc := [(oX11 m0 tw ta (nI n) pl (nI k) 0 fw cs fd rfm rt_ to_ rw_ wa ct rk rb cn br sm as_ go sh_ ir oa ob th ig sp_ ki tg of_ kp sf rs), (aI g fd 500 fb)]) (wr := []) (va_runV (As := []) (rest := []) ⟨hx, hb, hml, hown, hts⟩ (h_X11_wordHere l g m0 fd rfm rt_ to_ rw_ wa rk rb cn br sm as_ go sh_ ki tg of_ kp rs ta pl cs ct ir oa ob th ig sp_ sf tw n k 0 fw fb (by first | assumption | decide | omega) (by first | assumption | decide | omega) H.size) (cwV 0 hts gX11_isWord_X11_wordHere rfl rfl rfl (by decide +kernel) ⟨Nat.le_of_ble_eq_true rfl, Nat.le_of_ble_eq_true rfl⟩) (he_preV (wc := [(oX11 m0 tw ta (nI n) pl (nI k) 0 fw cs fd rfm rt_ to_ rw_ wa ct rk rb cn br sm as_ go sh_ ir oa ob th ig sp_ ki tg of_ kp sf rs), (aI g fd 500 fb)]) hK hP hD hS hA hE [0, 1] rfl rfl 0 rfl rfl) rfl rfl hl.1 rfl (lv_room (Nat.le_of_ble_eq_true rfl)) dX11_isWord_8 ⟨(Nat.le_of_ble_eq_true rfl), (Nat.le_of_ble_eq_true rfl)⟩) hP hD hS hA [0, 1] [] rfl rfl rfl (by decide) (fun r_2 u_3 H locs h_4 hP hD hS => ?_)
    obtain ⟨k2_5, rfl⟩ : ∃ z, z = u_3 := ⟨_, rfl⟩
    try dsimp only at h_4
    obtain ⟨hf_6, hf_7⟩ := h_4
    have hP : va_P g.1 vwCl [(oX11 m0 tw ta (nI n) pl (nI k2_5) 0 fw cs fd rfm rt_ to_ rw_ wa ct rk rb cn br sm as_ go sh_ ir oa ob th ig sp_ ki tg of_ kp sf rs), (aI g fd 500 fb)] H := hP
    have hD : va_D A [(oX11 m0 tw ta (nI n) pl (nI k2_5) 0 fw cs fd rfm rt_ to_ rw_ wa ct rk rb cn br sm as_ go sh_ ir oa ob th ig sp_ ki tg of_ kp sf rs), (aI g fd 500 fb)] := hD
    refine lv_iload_n hx hb dX11_isWord_11 rfl (lv_at hl 1 rfl) ?_
    refine lv_iload_n hx hb dX11_isWord_12 rfl (lv_at hl 2 rfl) ?_
    refine lv_iload_n hx hb dX11_isWord_13 rfl (lv_at hl 3 rfl) ?_
    refine lv_iload hx hb dX11_isWord_14 (lv_at hl 4 rfl) ?_
    refine lv_iload hx hb dX11_isWord_16 (lv_at hl 5 rfl) ?_
    refine lv_iload hx hb dX11_isWord_18 (lv_at hl 6 rfl) ?_
    refine he_ci (wc := []) (wr := [(oX11 m0 tw ta (nI n) pl (nI k2_5) 0 fw cs fd rfm rt_ to_ rw_ wa ct rk rb cn br sm as_ go sh_ ir oa ob th ig sp_ ki tg of_ kp sf rs), (aI g fd 500 fb)]) (va_runS (As := [.int 2, .int 18, .int 5, .int 1, .int 3, .int 8]) (rest := [.int r_2]) ⟨hx, hb, hml, hown, hts⟩ (h_X11_six_2_18_5_1_3_8 l g  H.size) (va_cwS 6 hts gX11_isWord_X11_six rfl rfl rfl (by decide +kernel) ⟨Nat.le_of_ble_eq_true rfl, Nat.le_of_ble_eq_true rfl⟩) (he_preS (wc := []) hK hP hD hS hA hE [] rfl rfl) rfl rfl hl.1 rfl (lv_room (Nat.le_of_ble_eq_true rfl)) dX11_isWord_20 ⟨(Nat.le_of_ble_eq_true rfl), (Nat.le_of_ble_eq_true rfl)⟩) hP hD hS hA [] [0, 1] rfl rfl rfl (by decide) (fun r_8 u_9 H locs h_10 hP hD hS => ?_)
    subst h_10
    have hP : va_P g.1 vwCl [(oX11 m0 tw ta (nI n) pl (nI k2_5) 0 fw cs fd rfm rt_ to_ rw_ wa ct rk rb cn br sm as_ go sh_ ir oa ob th ig sp_ ki tg of_ kp sf rs), (aI g fd 500 fb)] H := hP
    have hD : va_D A [(oX11 m0 tw ta (nI n) pl (nI k2_5) 0 fw cs fd rfm rt_ to_ rw_ wa ct rk rb cn br sm as_ go sh_ ir oa ob th ig sp_ ki tg of_ kp sf rs), (aI g fd 500 fb)] := hD
    refine lv_icmp_ne (tgt := 30) hx hb dX11_isWord_23 (by decide) (fun c_11 => ?_) (fun c_11 => ?_)
    · refine lv_iconst (v := 0) hx hb dX11_isWord_30 (by decide) ?_
      exact he_rz hQ hx hb hr hlk hP hD hS dX11_isWord_31 (Nat.le_of_ble_eq_true rfl) (Nat.le_of_ble_eq_true rfl) rfl (k2_5) (rfl) (⟨Or.inl rfl, by omega, by omega⟩)
    · refine lv_iconst (v := 1) hx hb dX11_isWord_26 (by decide) ?_
      refine lv_goto (tgt := 31) hx hb dX11_isWord_27 (by decide) ?_
      exact he_rz hQ hx hb hr hlk hP hD hS dX11_isWord_31 (Nat.le_of_ble_eq_true rfl) (Nat.le_of_ble_eq_true rfl) rfl (k2_5) (rfl) (⟨Or.inr rfl, by omega, by omega⟩)
set_option maxHeartbeats 4000000 in
set_option maxRecDepth 100000 in
theorem h_X11_closes (l : Launch) (g : he_G) (m0 : Nat) (fd : Nat) (rfm : Nat) (rt_ : Nat) (to_ : Nat) (rw_ : Nat) (wa : Nat) (rk : Nat) (rb : Nat) (cn : Nat) (br : Nat) (sm : Nat) (as_ : Nat) (go : Nat) (sh_ : Nat) (ki : Nat) (tg : Nat) (of_ : Nat) (kp : Nat) (rs : Nat) (ta : Int32) (pl : Int32) (cs : Int32) (ct : Int32) (ir : Int32) (oa : Int32) (ob : Int32) (th : Int32) (ig : Int32) (sp_ : Int32) (sf : Int32) (tw : Int32) (n : Nat) (k : Nat) (fa : Int32) (fw : Int32) (fb : Nat → Int32) (hn : n ≤ 500) (hk : k ≤ n) : he_V l yX11_closes wsX11_closes 2 41 0 0 g [.ref m0] [(oX11 m0 tw ta (nI n) pl (nI k) fa fw cs fd rfm rt_ to_ rw_ wa ct rk rb cn br sm as_ go sh_ ir oa ob th ig sp_ ki tg of_ kp sf rs), (aI g fd 500 fb)] (fun (u : Nat × Int32 × Int32) => k ≤ u.1 ∧ u.1 ≤ n ∧ (¬ u.2.1 = 0 ∨ (u.2.1 = 0 ∧ fa = 0 ∧ k < u.1))) (fun (u : Nat × Int32 × Int32) => [(oX11 m0 tw ta (nI n) pl (nI u.1) u.2.1 u.2.2 cs fd rfm rt_ to_ rw_ wa ct rk rb cn br sm as_ go sh_ ir oa ob th ig sp_ ki tg of_ kp sf rs), (aI g fd 500 fb)]) := by
  refine he_begin (l := l) (g := g) (y := yX11_closes) (wl := wsX11_closes) (fr := 2) (lo := 41) (mc := 0) (ms := 0) (av := [.ref m0]) (ws := [(oX11 m0 tw ta (nI n) pl (nI k) fa fw cs fd rfm rt_ to_ rw_ wa ct rk rb cn br sm as_ go sh_ ir oa ob th ig sp_ ki tg of_ kp sf rs), (aI g fd 500 fb)]) (cc := cX11_closes) (maxL := 1) (ret := none) (fun A => va_Qv (fun (u : Nat × Int32 × Int32) => k ≤ u.1 ∧ u.1 ≤ n ∧ (¬ u.2.1 = 0 ∨ (u.2.1 = 0 ∧ fa = 0 ∧ k < u.1))) (fun u t => he_post g A ((fun (u : Nat × Int32 × Int32) => [(oX11 m0 tw ta (nI n) pl (nI u.1) u.2.1 u.2.2 cs fd rfm rt_ to_ rw_ wa ct rk rb cn br sm as_ go sh_ ir oa ob th ig sp_ ki tg of_ kp sf rs), (aI g fd 500 fb)]) u) t) A) (by decide) rfl (Nat.le_of_ble_eq_true rfl) ?_
  intro p e s m args below meth c A ls H locs Q hQ hB
  obtain ⟨hx, hb, hr, hml, hown, hts, hlk, hin, hP, hK, hD, hS, hA, hE, hl⟩ := hB
  have hl : lv_has ls 1 [(0, .ref m0)] := hl
  have f101 := hts (.fieldLink RX11 101 "HiredEnemyModel" "fault" "I") (iwoX11_closes (k := 0) rfl)
  have inX11 : ∀ w ∈ wsX110, w ∈ wsX11_closes := innX11_closes_X11
  have f94 := hts (.fieldLink RX11 94 "HiredEnemyModel" "at" "I") (iwoX11_closes (k := 1) rfl)
  refine lv_aload_n hx hb dX11_closes_0 rfl (lv_at hl 0 rfl) ?_
  refine va_get (v := .int fa) (T := TX11) (N := 35) hx hb hts inX11 hown hK hP 0 rfl rfl 5 (by decide) f101 (fun _ h9 => h9) rfl dX11_closes_1 ?_
  refine lv_if_eq (tgt := 8) hx hb dX11_closes_4 (by decide) (fun c_1 => ?_) (fun c_1 => ?_)
  · subst c_1
    refine lv_aload_n hx hb dX11_closes_8 rfl (lv_at hl 0 rfl) ?_
    refine he_cv (wc := [(oX11 m0 tw ta (nI n) pl (nI k) 0 fw cs fd rfm rt_ to_ rw_ wa ct rk rb cn br sm as_ go sh_ ir oa ob th ig sp_ ki tg of_ kp sf rs), (aI g fd 500 fb)]) (wr := []) (va_runV (As := []) (rest := []) ⟨hx, hb, hml, hown, hts⟩ (h_X11_blanks l g m0 fd rfm rt_ to_ rw_ wa rk rb cn br sm as_ go sh_ ki tg of_ kp rs ta pl cs ct ir oa ob th ig sp_ sf tw n k 0 fw fb (by first | assumption | decide | omega) (by first | assumption | decide | omega) H.size) (cwV 0 hts gX11_closes_X11_blanks rfl rfl rfl (by decide +kernel) ⟨Nat.le_of_ble_eq_true rfl, Nat.le_of_ble_eq_true rfl⟩) (he_preV (wc := [(oX11 m0 tw ta (nI n) pl (nI k) 0 fw cs fd rfm rt_ to_ rw_ wa ct rk rb cn br sm as_ go sh_ ir oa ob th ig sp_ ki tg of_ kp sf rs), (aI g fd 500 fb)]) hK hP hD hS hA hE [0, 1] rfl rfl 0 rfl rfl) rfl rfl hl.1 rfl (lv_room (Nat.le_of_ble_eq_true rfl)) dX11_closes_9 ⟨(Nat.le_of_ble_eq_true rfl), (Nat.le_of_ble_eq_true rfl)⟩) hP hD hS hA [0, 1] [] rfl rfl rfl (by decide) (fun u_3 H locs h_4 hP hD hS => ?_)
    obtain ⟨k2_5, rfl⟩ : ∃ z, z = u_3 := ⟨_, rfl⟩
    try dsimp only at h_4
    obtain ⟨hf_6, hf_7⟩ := h_4
    have hP : va_P g.1 vwCl [(oX11 m0 tw ta (nI n) pl (nI k2_5) 0 fw cs fd rfm rt_ to_ rw_ wa ct rk rb cn br sm as_ go sh_ ir oa ob th ig sp_ ki tg of_ kp sf rs), (aI g fd 500 fb)] H := hP
    have hD : va_D A [(oX11 m0 tw ta (nI n) pl (nI k2_5) 0 fw cs fd rfm rt_ to_ rw_ wa ct rk rb cn br sm as_ go sh_ ir oa ob th ig sp_ ki tg of_ kp sf rs), (aI g fd 500 fb)] := hD
    refine lv_aload_n hx hb dX11_closes_12 rfl (lv_at hl 0 rfl) ?_
    refine lv_aload_n hx hb dX11_closes_13 rfl (lv_at hl 0 rfl) ?_
    refine va_get (v := .int (nI k2_5)) (T := TX11) (N := 35) hx hb hts inX11 hown hK hP 0 rfl rfl 4 (by decide) f94 (fun _ h9 => h9) rfl dX11_closes_14 ?_
    refine he_ci (wc := [(oX11 m0 tw ta (nI n) pl (nI k2_5) 0 fw cs fd rfm rt_ to_ rw_ wa ct rk rb cn br sm as_ go sh_ ir oa ob th ig sp_ ki tg of_ kp sf rs), (aI g fd 500 fb)]) (wr := []) (va_runV (As := [.int (nI k2_5)]) (rest := []) ⟨hx, hb, hml, hown, hts⟩ (h_X11_byteAt l g m0 fd rfm rt_ to_ rw_ wa rk rb cn br sm as_ go sh_ ki tg of_ kp rs ta pl cs ct ir oa ob th ig sp_ sf tw n k2_5 0 fw fb k2_5 (by first | assumption | decide | omega) (by first | assumption | decide | omega) H.size) (cwV 1 hts gX11_closes_X11_byteAt rfl rfl rfl (by decide +kernel) ⟨Nat.le_of_ble_eq_true rfl, Nat.le_of_ble_eq_true rfl⟩) (he_preV (wc := [(oX11 m0 tw ta (nI n) pl (nI k2_5) 0 fw cs fd rfm rt_ to_ rw_ wa ct rk rb cn br sm as_ go sh_ ir oa ob th ig sp_ ki tg of_ kp sf rs), (aI g fd 500 fb)]) hK hP hD hS hA hE [0, 1] rfl rfl 0 rfl rfl) rfl rfl hl.1 rfl (lv_room (Nat.le_of_ble_eq_true rfl)) dX11_closes_17 ⟨(Nat.le_of_ble_eq_true rfl), (Nat.le_of_ble_eq_true rfl)⟩) hP hD hS hA [0, 1] [] rfl rfl rfl (by decide) (fun r_8 u_9 H locs h_10 hP hD hS => ?_)
    subst h_10
    have hP : va_P g.1 vwCl [(oX11 m0 tw ta (nI n) pl (nI k2_5) 0 fw cs fd rfm rt_ to_ rw_ wa ct rk rb cn br sm as_ go sh_ ir oa ob th ig sp_ ki tg of_ kp sf rs), (aI g fd 500 fb)] H := hP
    have hD : va_D A [(oX11 m0 tw ta (nI n) pl (nI k2_5) 0 fw cs fd rfm rt_ to_ rw_ wa ct rk rb cn br sm as_ go sh_ ir oa ob th ig sp_ ki tg of_ kp sf rs), (aI g fd 500 fb)] := hD
    refine lv_bipush (v := 59) hx hb dX11_closes_20 (by decide) ?_
    refine lv_icmp_ne (tgt := 38) hx hb dX11_closes_22 (by decide) (fun c_11 => ?_) (fun c_11 => ?_)
    · refine lv_aload_n hx hb dX11_closes_38 rfl (lv_at hl 0 rfl) ?_
      refine lv_iconst (v := 1) hx hb dX11_closes_39 (by decide) ?_
      refine lv_aload_n hx hb dX11_closes_40 rfl (lv_at hl 0 rfl) ?_
      refine va_get (v := .int (nI k2_5)) (T := TX11) (N := 35) hx hb hts inX11 hown hK hP 0 rfl rfl 4 (by decide) f94 (fun _ h9 => h9) rfl dX11_closes_41 ?_
      refine he_cv (wc := [(oX11 m0 tw ta (nI n) pl (nI k2_5) 0 fw cs fd rfm rt_ to_ rw_ wa ct rk rb cn br sm as_ go sh_ ir oa ob th ig sp_ ki tg of_ kp sf rs), (aI g fd 500 fb)]) (wr := []) (va_runV (As := [.int 1, .int (nI k2_5)]) (rest := []) ⟨hx, hb, hml, hown, hts⟩ (h_X11_wrong l g m0 fd rfm rt_ to_ rw_ wa rk rb cn br sm as_ go sh_ ki tg of_ kp rs ta pl cs ct ir oa ob th ig sp_ sf tw n k2_5 0 fw fb 1 (nI k2_5) H.size) (cwV 2 hts gX11_closes_X11_wrong rfl rfl rfl (by decide +kernel) ⟨Nat.le_of_ble_eq_true rfl, Nat.le_of_ble_eq_true rfl⟩) (he_preV (wc := [(oX11 m0 tw ta (nI n) pl (nI k2_5) 0 fw cs fd rfm rt_ to_ rw_ wa ct rk rb cn br sm as_ go sh_ ir oa ob th ig sp_ ki tg of_ kp sf rs), (aI g fd 500 fb)]) hK hP hD hS hA hE [0, 1] rfl rfl 0 rfl rfl) rfl rfl hl.1 rfl (lv_room (Nat.le_of_ble_eq_true rfl)) dX11_closes_44 ⟨(Nat.le_of_ble_eq_true rfl), (Nat.le_of_ble_eq_true rfl)⟩) hP hD hS hA [0, 1] [] rfl rfl rfl (by decide) (fun u_13 H locs h_14 hP hD hS => ?_)
      have hP : va_P g.1 vwCl [(oX11 m0 tw ta (nI n) pl (nI k2_5) (wrF 0 1) (wrA 0 fw (nI k2_5)) cs fd rfm rt_ to_ rw_ wa ct rk rb cn br sm as_ go sh_ ir oa ob th ig sp_ ki tg of_ kp sf rs), (aI g fd 500 fb)] H := hP
      have hD : va_D A [(oX11 m0 tw ta (nI n) pl (nI k2_5) (wrF 0 1) (wrA 0 fw (nI k2_5)) cs fd rfm rt_ to_ rw_ wa ct rk rb cn br sm as_ go sh_ ir oa ob th ig sp_ ki tg of_ kp sf rs), (aI g fd 500 fb)] := hD
      exact he_rv hQ hx hb hr hlk hP hD hS dX11_closes_47 (Nat.le_of_ble_eq_true rfl) (Nat.le_of_ble_eq_true rfl) ((k2_5, wrF 0 1, wrA 0 fw (nI k2_5))) (rfl) (by (try dsimp only); exact ⟨by (try dsimp only); omega, by (try dsimp only); omega, Or.inl (by (try dsimp only); decide)⟩)
    · have hlt : k2_5 < n := bAt_lt c_11 (by decide)
      refine lv_aload_n hx hb dX11_closes_25 rfl (lv_at hl 0 rfl) ?_
      refine lv_dup hx hb dX11_closes_26 rfl ?_
      refine va_get (v := .int (nI k2_5)) (T := TX11) (N := 35) hx hb hts inX11 hown hK hP 0 rfl rfl 4 (by decide) f94 (fun _ h9 => h9) rfl dX11_closes_27 ?_
      refine lv_iconst (v := 1) hx hb dX11_closes_30 (by decide) ?_
      refine lv_iadd hx hb dX11_closes_31 ?_
      refine he_top (nI (k2_5 + 1)) (nI_add k2_5 1) ?_
      refine va_put (v := .int (nI (k2_5 + 1))) (ty := .int) (T := TX11) (N := 35) hx hb hts inX11 tyX11 tyX11_ok nmX11 hown hK hP hD hS 0 rfl rfl 4 (by decide) f94 (fun _ h9 => h9) rfl (by decide +kernel) rfl rfl (Nat.le_of_ble_eq_true rfl) dX11_closes_32 (fun H locs hP hD hS => ?_)
      have hP : va_P g.1 vwCl [(oX11 m0 tw ta (nI n) pl (nI (k2_5 + 1)) 0 fw cs fd rfm rt_ to_ rw_ wa ct rk rb cn br sm as_ go sh_ ir oa ob th ig sp_ ki tg of_ kp sf rs), (aI g fd 500 fb)] H := hP
      have hD : va_D A [(oX11 m0 tw ta (nI n) pl (nI (k2_5 + 1)) 0 fw cs fd rfm rt_ to_ rw_ wa ct rk rb cn br sm as_ go sh_ ir oa ob th ig sp_ ki tg of_ kp sf rs), (aI g fd 500 fb)] := hD
      refine lv_goto (tgt := 47) hx hb dX11_closes_35 (by decide) ?_
      exact he_rv hQ hx hb hr hlk hP hD hS dX11_closes_47 (Nat.le_of_ble_eq_true rfl) (Nat.le_of_ble_eq_true rfl) ((k2_5 + 1, 0, fw)) (rfl) (by (try dsimp only); exact ⟨by (try dsimp only); omega, by (try dsimp only); omega, Or.inr ⟨rfl, rfl, by (try dsimp only); omega⟩⟩)
  · exact he_rv hQ hx hb hr hlk hP hD hS dX11_closes_7 (Nat.le_of_ble_eq_true rfl) (Nat.le_of_ble_eq_true rfl) ((k, fa, fw)) (rfl) (by (try dsimp only); exact ⟨by (try dsimp only); omega, by (try dsimp only); omega, Or.inl c_1⟩)
set_option maxHeartbeats 4000000 in
set_option maxRecDepth 100000 in
theorem h_X11_starts (l : Launch) (g : he_G) (m0 : Nat) (fd : Nat) (rfm : Nat) (rt_ : Nat) (to_ : Nat) (rw_ : Nat) (wa : Nat) (rk : Nat) (rb : Nat) (cn : Nat) (br : Nat) (sm : Nat) (as_ : Nat) (go : Nat) (sh_ : Nat) (ki : Nat) (tg : Nat) (of_ : Nat) (kp : Nat) (rs : Nat) (ta : Int32) (sz_ : Int32) (pl : Int32) (at_ : Int32) (fa : Int32) (fw : Int32) (cs : Int32) (ct : Int32) (ir : Int32) (oa : Int32) (ob : Int32) (th : Int32) (ig : Int32) (sp_ : Int32) (sf : Int32) (tw : Int32) (n : Nat) (fb : Nat → Int32) (hn : n ≤ 500) : he_V l yX11_starts wsX11_starts 2 41 0 0 g [.ref m0, .int (nI n)] [(oX11 m0 tw ta sz_ pl at_ fa fw cs fd rfm rt_ to_ rw_ wa ct rk rb cn br sm as_ go sh_ ir oa ob th ig sp_ ki tg of_ kp sf rs), (aI g fd 500 fb)] (fun (u : Nat) => u ≤ n) (fun (u : Nat) => [(oX11 m0 tw 0 (nI n) pl (nI u) 0 (-1) 0 fd rfm rt_ to_ rw_ wa ct rk rb cn br sm as_ go sh_ ir oa ob th ig sp_ ki tg of_ kp sf rs), (aI g fd 500 fb)]) := by
  refine he_begin (l := l) (g := g) (y := yX11_starts) (wl := wsX11_starts) (fr := 2) (lo := 41) (mc := 0) (ms := 0) (av := [.ref m0, .int (nI n)]) (ws := [(oX11 m0 tw ta sz_ pl at_ fa fw cs fd rfm rt_ to_ rw_ wa ct rk rb cn br sm as_ go sh_ ir oa ob th ig sp_ ki tg of_ kp sf rs), (aI g fd 500 fb)]) (cc := cX11_starts) (maxL := 2) (ret := none) (fun A => va_Qv (fun (u : Nat) => u ≤ n) (fun u t => he_post g A ((fun (u : Nat) => [(oX11 m0 tw 0 (nI n) pl (nI u) 0 (-1) 0 fd rfm rt_ to_ rw_ wa ct rk rb cn br sm as_ go sh_ ir oa ob th ig sp_ ki tg of_ kp sf rs), (aI g fd 500 fb)]) u) t) A) (by decide) rfl (Nat.le_of_ble_eq_true rfl) ?_
  intro p e s m args below meth c A ls H locs Q hQ hB
  obtain ⟨hx, hb, hr, hml, hown, hts, hlk, hin, hP, hK, hD, hS, hA, hE, hl⟩ := hB
  have hl : lv_has ls 2 [(0, .ref m0), (1, .int (nI n))] := hl
  have f88 := hts (.fieldLink RX11 88 "HiredEnemyModel" "tape" "I") (iwoX11_starts (k := 0) rfl)
  have inX11 : ∀ w ∈ wsX110, w ∈ wsX11_starts := innX11_starts_X11
  have f91 := hts (.fieldLink RX11 91 "HiredEnemyModel" "size" "I") (iwoX11_starts (k := 1) rfl)
  have f94 := hts (.fieldLink RX11 94 "HiredEnemyModel" "at" "I") (iwoX11_starts (k := 2) rfl)
  have f101 := hts (.fieldLink RX11 101 "HiredEnemyModel" "fault" "I") (iwoX11_starts (k := 3) rfl)
  have f104 := hts (.fieldLink RX11 104 "HiredEnemyModel" "faultAt" "I") (iwoX11_starts (k := 4) rfl)
  have f131 := hts (.fieldLink RX11 131 "HiredEnemyModel" "clauses" "I") (iwoX11_starts (k := 5) rfl)
  refine lv_aload_n hx hb dX11_starts_0 rfl (lv_at hl 0 rfl) ?_
  refine lv_iconst (v := 0) hx hb dX11_starts_1 (by decide) ?_
  refine va_put (v := .int 0) (ty := .int) (T := TX11) (N := 35) hx hb hts inX11 tyX11 tyX11_ok nmX11 hown hK hP hD hS 0 rfl rfl 1 (by decide) f88 (fun _ h9 => h9) rfl (by decide +kernel) rfl rfl (Nat.le_of_ble_eq_true rfl) dX11_starts_2 (fun H locs hP hD hS => ?_)
  have hP : va_P g.1 vwCl [(oX11 m0 tw 0 sz_ pl at_ fa fw cs fd rfm rt_ to_ rw_ wa ct rk rb cn br sm as_ go sh_ ir oa ob th ig sp_ ki tg of_ kp sf rs), (aI g fd 500 fb)] H := hP
  have hD : va_D A [(oX11 m0 tw 0 sz_ pl at_ fa fw cs fd rfm rt_ to_ rw_ wa ct rk rb cn br sm as_ go sh_ ir oa ob th ig sp_ ki tg of_ kp sf rs), (aI g fd 500 fb)] := hD
  refine lv_aload_n hx hb dX11_starts_5 rfl (lv_at hl 0 rfl) ?_
  refine lv_iload_n hx hb dX11_starts_6 rfl (lv_at hl 1 rfl) ?_
  refine va_put (v := .int (nI n)) (ty := .int) (T := TX11) (N := 35) hx hb hts inX11 tyX11 tyX11_ok nmX11 hown hK hP hD hS 0 rfl rfl 2 (by decide) f91 (fun _ h9 => h9) rfl (by decide +kernel) rfl rfl (Nat.le_of_ble_eq_true rfl) dX11_starts_7 (fun H locs hP hD hS => ?_)
  have hP : va_P g.1 vwCl [(oX11 m0 tw 0 (nI n) pl at_ fa fw cs fd rfm rt_ to_ rw_ wa ct rk rb cn br sm as_ go sh_ ir oa ob th ig sp_ ki tg of_ kp sf rs), (aI g fd 500 fb)] H := hP
  have hD : va_D A [(oX11 m0 tw 0 (nI n) pl at_ fa fw cs fd rfm rt_ to_ rw_ wa ct rk rb cn br sm as_ go sh_ ir oa ob th ig sp_ ki tg of_ kp sf rs), (aI g fd 500 fb)] := hD
  refine lv_aload_n hx hb dX11_starts_10 rfl (lv_at hl 0 rfl) ?_
  refine lv_iconst (v := 0) hx hb dX11_starts_11 (by decide) ?_
  refine va_put (v := .int 0) (ty := .int) (T := TX11) (N := 35) hx hb hts inX11 tyX11 tyX11_ok nmX11 hown hK hP hD hS 0 rfl rfl 4 (by decide) f94 (fun _ h9 => h9) rfl (by decide +kernel) rfl rfl (Nat.le_of_ble_eq_true rfl) dX11_starts_12 (fun H locs hP hD hS => ?_)
  have hP : va_P g.1 vwCl [(oX11 m0 tw 0 (nI n) pl 0 fa fw cs fd rfm rt_ to_ rw_ wa ct rk rb cn br sm as_ go sh_ ir oa ob th ig sp_ ki tg of_ kp sf rs), (aI g fd 500 fb)] H := hP
  have hD : va_D A [(oX11 m0 tw 0 (nI n) pl 0 fa fw cs fd rfm rt_ to_ rw_ wa ct rk rb cn br sm as_ go sh_ ir oa ob th ig sp_ ki tg of_ kp sf rs), (aI g fd 500 fb)] := hD
  refine lv_aload_n hx hb dX11_starts_15 rfl (lv_at hl 0 rfl) ?_
  refine lv_iconst (v := 0) hx hb dX11_starts_16 (by decide) ?_
  refine va_put (v := .int 0) (ty := .int) (T := TX11) (N := 35) hx hb hts inX11 tyX11 tyX11_ok nmX11 hown hK hP hD hS 0 rfl rfl 5 (by decide) f101 (fun _ h9 => h9) rfl (by decide +kernel) rfl rfl (Nat.le_of_ble_eq_true rfl) dX11_starts_17 (fun H locs hP hD hS => ?_)
  have hP : va_P g.1 vwCl [(oX11 m0 tw 0 (nI n) pl 0 0 fw cs fd rfm rt_ to_ rw_ wa ct rk rb cn br sm as_ go sh_ ir oa ob th ig sp_ ki tg of_ kp sf rs), (aI g fd 500 fb)] H := hP
  have hD : va_D A [(oX11 m0 tw 0 (nI n) pl 0 0 fw cs fd rfm rt_ to_ rw_ wa ct rk rb cn br sm as_ go sh_ ir oa ob th ig sp_ ki tg of_ kp sf rs), (aI g fd 500 fb)] := hD
  refine lv_aload_n hx hb dX11_starts_20 rfl (lv_at hl 0 rfl) ?_
  refine lv_iconst (v := (-1)) hx hb dX11_starts_21 (by decide) ?_
  refine va_put (v := .int (-1)) (ty := .int) (T := TX11) (N := 35) hx hb hts inX11 tyX11 tyX11_ok nmX11 hown hK hP hD hS 0 rfl rfl 6 (by decide) f104 (fun _ h9 => h9) rfl (by decide +kernel) rfl rfl (Nat.le_of_ble_eq_true rfl) dX11_starts_22 (fun H locs hP hD hS => ?_)
  have hP : va_P g.1 vwCl [(oX11 m0 tw 0 (nI n) pl 0 0 (-1) cs fd rfm rt_ to_ rw_ wa ct rk rb cn br sm as_ go sh_ ir oa ob th ig sp_ ki tg of_ kp sf rs), (aI g fd 500 fb)] H := hP
  have hD : va_D A [(oX11 m0 tw 0 (nI n) pl 0 0 (-1) cs fd rfm rt_ to_ rw_ wa ct rk rb cn br sm as_ go sh_ ir oa ob th ig sp_ ki tg of_ kp sf rs), (aI g fd 500 fb)] := hD
  refine lv_aload_n hx hb dX11_starts_25 rfl (lv_at hl 0 rfl) ?_
  refine lv_iconst (v := 0) hx hb dX11_starts_26 (by decide) ?_
  refine va_put (v := .int 0) (ty := .int) (T := TX11) (N := 35) hx hb hts inX11 tyX11 tyX11_ok nmX11 hown hK hP hD hS 0 rfl rfl 7 (by decide) f131 (fun _ h9 => h9) rfl (by decide +kernel) rfl rfl (Nat.le_of_ble_eq_true rfl) dX11_starts_27 (fun H locs hP hD hS => ?_)
  have hP : va_P g.1 vwCl [(oX11 m0 tw 0 (nI n) pl 0 0 (-1) 0 fd rfm rt_ to_ rw_ wa ct rk rb cn br sm as_ go sh_ ir oa ob th ig sp_ ki tg of_ kp sf rs), (aI g fd 500 fb)] H := hP
  have hD : va_D A [(oX11 m0 tw 0 (nI n) pl 0 0 (-1) 0 fd rfm rt_ to_ rw_ wa ct rk rb cn br sm as_ go sh_ ir oa ob th ig sp_ ki tg of_ kp sf rs), (aI g fd 500 fb)] := hD
  refine lv_aload_n hx hb dX11_starts_30 rfl (lv_at hl 0 rfl) ?_
  refine he_cv (wc := [(oX11 m0 tw 0 (nI n) pl 0 0 (-1) 0 fd rfm rt_ to_ rw_ wa ct rk rb cn br sm as_ go sh_ ir oa ob th ig sp_ ki tg of_ kp sf rs), (aI g fd 500 fb)]) (wr := []) (va_runV (As := []) (rest := []) ⟨hx, hb, hml, hown, hts⟩ (h_X11_blanks l g m0 fd rfm rt_ to_ rw_ wa rk rb cn br sm as_ go sh_ ki tg of_ kp rs 0 pl 0 ct ir oa ob th ig sp_ sf tw n 0 0 (-1) fb (by first | assumption | decide | omega) (Nat.zero_le _) H.size) (cwV 0 hts gX11_starts_X11_blanks rfl rfl rfl (by decide +kernel) ⟨Nat.le_of_ble_eq_true rfl, Nat.le_of_ble_eq_true rfl⟩) (he_preV (wc := [(oX11 m0 tw 0 (nI n) pl 0 0 (-1) 0 fd rfm rt_ to_ rw_ wa ct rk rb cn br sm as_ go sh_ ir oa ob th ig sp_ ki tg of_ kp sf rs), (aI g fd 500 fb)]) hK hP hD hS hA hE [0, 1] rfl rfl 0 rfl rfl) rfl rfl hl.1 rfl (lv_room (Nat.le_of_ble_eq_true rfl)) dX11_starts_31 ⟨(Nat.le_of_ble_eq_true rfl), (Nat.le_of_ble_eq_true rfl)⟩) hP hD hS hA [0, 1] [] rfl rfl rfl (by decide) (fun u_2 H locs h_3 hP hD hS => ?_)
  obtain ⟨k2_4, rfl⟩ : ∃ z, z = u_2 := ⟨_, rfl⟩
  try dsimp only at h_3
  obtain ⟨hf_5, hf_6⟩ := h_3
  have hP : va_P g.1 vwCl [(oX11 m0 tw 0 (nI n) pl (nI k2_4) 0 (-1) 0 fd rfm rt_ to_ rw_ wa ct rk rb cn br sm as_ go sh_ ir oa ob th ig sp_ ki tg of_ kp sf rs), (aI g fd 500 fb)] H := hP
  have hD : va_D A [(oX11 m0 tw 0 (nI n) pl (nI k2_4) 0 (-1) 0 fd rfm rt_ to_ rw_ wa ct rk rb cn br sm as_ go sh_ ir oa ob th ig sp_ ki tg of_ kp sf rs), (aI g fd 500 fb)] := hD
  exact he_rv hQ hx hb hr hlk hP hD hS dX11_starts_34 (Nat.le_of_ble_eq_true rfl) (Nat.le_of_ble_eq_true rfl) (k2_4) (rfl) ((by omega))
set_option maxHeartbeats 4000000 in
set_option maxRecDepth 100000 in
theorem h_X11_kindHere (l : Launch) (g : he_G) (m0 : Nat) (fd : Nat) (rfm : Nat) (rt_ : Nat) (to_ : Nat) (rw_ : Nat) (wa : Nat) (rk : Nat) (rb : Nat) (cn : Nat) (br : Nat) (sm : Nat) (as_ : Nat) (go : Nat) (sh_ : Nat) (ki : Nat) (tg : Nat) (of_ : Nat) (kp : Nat) (rs : Nat) (ta : Int32) (pl : Int32) (cs : Int32) (ct : Int32) (ir : Int32) (oa : Int32) (ob : Int32) (th : Int32) (ig : Int32) (sp_ : Int32) (sf : Int32) (tw : Int32) (n : Nat) (k : Nat) (fw : Int32) (fb : Nat → Int32) (hn : n ≤ 500) (hk : k ≤ n) : he_I l yX11_kindHere wsX11_kindHere 4 89 0 0 g [.ref m0] [(oX11 m0 tw ta (nI n) pl (nI k) 0 fw cs fd rfm rt_ to_ rw_ wa ct rk rb cn br sm as_ go sh_ ir oa ob th ig sp_ ki tg of_ kp sf rs), (aI g fd 500 fb)] (fun (r : Int32) (u : Nat) => (r = 0 ∨ r = 1 ∨ r = 4 ∨ r = 7 ∨ r = 9 ∨ r = 12 ∨ r = 13 ∨ r = 15 ∨ r = (-1)) ∧ k ≤ u ∧ u ≤ n) (fun (u : Nat) => [(oX11 m0 tw ta (nI n) pl (nI u) 0 fw cs fd rfm rt_ to_ rw_ wa ct rk rb cn br sm as_ go sh_ ir oa ob th ig sp_ ki tg of_ kp sf rs), (aI g fd 500 fb)]) := by
  refine he_begin (l := l) (g := g) (y := yX11_kindHere) (wl := wsX11_kindHere) (fr := 4) (lo := 89) (mc := 0) (ms := 0) (av := [.ref m0]) (ws := [(oX11 m0 tw ta (nI n) pl (nI k) 0 fw cs fd rfm rt_ to_ rw_ wa ct rk rb cn br sm as_ go sh_ ir oa ob th ig sp_ ki tg of_ kp sf rs), (aI g fd 500 fb)]) (cc := cX11_kindHere) (maxL := 1) (ret := (some .int)) (fun A => va_Qi (fun (r : Int32) (u : Nat) => (r = 0 ∨ r = 1 ∨ r = 4 ∨ r = 7 ∨ r = 9 ∨ r = 12 ∨ r = 13 ∨ r = 15 ∨ r = (-1)) ∧ k ≤ u ∧ u ≤ n) (fun u t => he_post g A ((fun (u : Nat) => [(oX11 m0 tw ta (nI n) pl (nI u) 0 fw cs fd rfm rt_ to_ rw_ wa ct rk rb cn br sm as_ go sh_ ir oa ob th ig sp_ ki tg of_ kp sf rs), (aI g fd 500 fb)]) u) t) A) (by decide) rfl (Nat.le_of_ble_eq_true rfl) ?_
  intro p e s m args below meth c A ls H locs Q hQ hB
  obtain ⟨hx, hb, hr, hml, hown, hts, hlk, hin, hP, hK, hD, hS, hA, hE, hl⟩ := hB
  have hl : lv_has ls 1 [(0, .ref m0)] := hl
  refine lv_aload_n hx hb dX11_kindHere_0 rfl (lv_at hl 0 rfl) ?_
  refine lv_bipush (v := 23) hx hb dX11_kindHere_1 (by decide) ?_
  refine lv_iconst (v := 1) hx hb dX11_kindHere_3 (by decide) ?_
  refine lv_bipush (v := 12) hx hb dX11_kindHere_4 (by decide) ?_
  refine lv_bipush (v := 12) hx hb dX11_kindHere_6 (by decide) ?_
  refine lv_iconst (v := 0) hx hb dX11_kindHere_8 (by decide) ?_
  refine lv_iconst (v := 0) hx hb dX11_kindHere_9 (by decide) ?_
  refine he_ci (wc := [(oX11 m0 tw ta (nI n) pl (nI k) 0 fw cs fd rfm rt_ to_ rw_ wa ct rk rb cn br sm as_ go sh_ ir oa ob th ig sp_ ki tg of_ kp sf rs), (aI g fd 500 fb)]) (wr := []) (va_runV (As := [.int 23, .int 1, .int 12, .int 12, .int 0, .int 0]) (rest := []) ⟨hx, hb, hml, hown, hts⟩ (h_X11_isWord_23_1_12_12_0_0 l g m0 fd rfm rt_ to_ rw_ wa rk rb cn br sm as_ go sh_ ki tg of_ kp rs ta pl cs ct ir oa ob th ig sp_ sf tw n k fw fb (by first | assumption | decide | omega) (by first | assumption | decide | omega) H.size) (cwV 6 hts gX11_kindHere_X11_isWord rfl rfl rfl (by decide +kernel) ⟨Nat.le_of_ble_eq_true rfl, Nat.le_of_ble_eq_true rfl⟩) (he_preV (wc := [(oX11 m0 tw ta (nI n) pl (nI k) 0 fw cs fd rfm rt_ to_ rw_ wa ct rk rb cn br sm as_ go sh_ ir oa ob th ig sp_ ki tg of_ kp sf rs), (aI g fd 500 fb)]) hK hP hD hS hA hE [0, 1] rfl rfl 0 rfl rfl) rfl rfl hl.1 rfl (lv_room (Nat.le_of_ble_eq_true rfl)) dX11_kindHere_10 ⟨(Nat.le_of_ble_eq_true rfl), (Nat.le_of_ble_eq_true rfl)⟩) hP hD hS hA [0, 1] [] rfl rfl rfl (by decide) (fun r_1 u_2 H locs h_3 hP hD hS => ?_)
  obtain ⟨k2_4, rfl⟩ : ∃ z, z = u_2 := ⟨_, rfl⟩
  try dsimp only at h_3
  obtain ⟨hf_5, hf_6, hf_7⟩ := h_3
  have hP : va_P g.1 vwCl [(oX11 m0 tw ta (nI n) pl (nI k2_4) 0 fw cs fd rfm rt_ to_ rw_ wa ct rk rb cn br sm as_ go sh_ ir oa ob th ig sp_ ki tg of_ kp sf rs), (aI g fd 500 fb)] H := hP
  have hD : va_D A [(oX11 m0 tw ta (nI n) pl (nI k2_4) 0 fw cs fd rfm rt_ to_ rw_ wa ct rk rb cn br sm as_ go sh_ ir oa ob th ig sp_ ki tg of_ kp sf rs), (aI g fd 500 fb)] := hD
  refine lv_if_eq (tgt := 18) hx hb dX11_kindHere_13 (by decide) (fun c_8 => ?_) (fun c_8 => ?_)
  · refine lv_aload_n hx hb dX11_kindHere_18 rfl (lv_at hl 0 rfl) ?_
    refine lv_iconst (v := 4) hx hb dX11_kindHere_19 (by decide) ?_
    refine lv_bipush (v := 21) hx hb dX11_kindHere_20 (by decide) ?_
    refine lv_bipush (v := 11) hx hb dX11_kindHere_22 (by decide) ?_
    refine lv_iconst (v := 5) hx hb dX11_kindHere_24 (by decide) ?_
    refine lv_iconst (v := 0) hx hb dX11_kindHere_25 (by decide) ?_
    refine lv_iconst (v := 0) hx hb dX11_kindHere_26 (by decide) ?_
    refine he_ci (wc := [(oX11 m0 tw ta (nI n) pl (nI k2_4) 0 fw cs fd rfm rt_ to_ rw_ wa ct rk rb cn br sm as_ go sh_ ir oa ob th ig sp_ ki tg of_ kp sf rs), (aI g fd 500 fb)]) (wr := []) (va_runV (As := [.int 4, .int 21, .int 11, .int 5, .int 0, .int 0]) (rest := []) ⟨hx, hb, hml, hown, hts⟩ (h_X11_isWord_4_21_11_5_0_0 l g m0 fd rfm rt_ to_ rw_ wa rk rb cn br sm as_ go sh_ ki tg of_ kp rs ta pl cs ct ir oa ob th ig sp_ sf tw n k2_4 fw fb (by first | assumption | decide | omega) (by first | assumption | decide | omega) H.size) (cwV 6 hts gX11_kindHere_X11_isWord rfl rfl rfl (by decide +kernel) ⟨Nat.le_of_ble_eq_true rfl, Nat.le_of_ble_eq_true rfl⟩) (he_preV (wc := [(oX11 m0 tw ta (nI n) pl (nI k2_4) 0 fw cs fd rfm rt_ to_ rw_ wa ct rk rb cn br sm as_ go sh_ ir oa ob th ig sp_ ki tg of_ kp sf rs), (aI g fd 500 fb)]) hK hP hD hS hA hE [0, 1] rfl rfl 0 rfl rfl) rfl rfl hl.1 rfl (lv_room (Nat.le_of_ble_eq_true rfl)) dX11_kindHere_27 ⟨(Nat.le_of_ble_eq_true rfl), (Nat.le_of_ble_eq_true rfl)⟩) hP hD hS hA [0, 1] [] rfl rfl rfl (by decide) (fun r_9 u_10 H locs h_11 hP hD hS => ?_)
    obtain ⟨k2_12, rfl⟩ : ∃ z, z = u_10 := ⟨_, rfl⟩
    try dsimp only at h_11
    obtain ⟨hf_13, hf_14, hf_15⟩ := h_11
    have hP : va_P g.1 vwCl [(oX11 m0 tw ta (nI n) pl (nI k2_12) 0 fw cs fd rfm rt_ to_ rw_ wa ct rk rb cn br sm as_ go sh_ ir oa ob th ig sp_ ki tg of_ kp sf rs), (aI g fd 500 fb)] H := hP
    have hD : va_D A [(oX11 m0 tw ta (nI n) pl (nI k2_12) 0 fw cs fd rfm rt_ to_ rw_ wa ct rk rb cn br sm as_ go sh_ ir oa ob th ig sp_ ki tg of_ kp sf rs), (aI g fd 500 fb)] := hD
    refine lv_if_eq (tgt := 35) hx hb dX11_kindHere_30 (by decide) (fun c_16 => ?_) (fun c_16 => ?_)
    · refine lv_aload_n hx hb dX11_kindHere_35 rfl (lv_at hl 0 rfl) ?_
      refine lv_iconst (v := 5) hx hb dX11_kindHere_36 (by decide) ?_
      refine lv_bipush (v := 14) hx hb dX11_kindHere_37 (by decide) ?_
      refine lv_iconst (v := 5) hx hb dX11_kindHere_39 (by decide) ?_
      refine lv_bipush (v := 13) hx hb dX11_kindHere_40 (by decide) ?_
      refine lv_bipush (v := 25) hx hb dX11_kindHere_42 (by decide) ?_
      refine lv_iconst (v := 0) hx hb dX11_kindHere_44 (by decide) ?_
      refine he_ci (wc := [(oX11 m0 tw ta (nI n) pl (nI k2_12) 0 fw cs fd rfm rt_ to_ rw_ wa ct rk rb cn br sm as_ go sh_ ir oa ob th ig sp_ ki tg of_ kp sf rs), (aI g fd 500 fb)]) (wr := []) (va_runV (As := [.int 5, .int 14, .int 5, .int 13, .int 25, .int 0]) (rest := []) ⟨hx, hb, hml, hown, hts⟩ (h_X11_isWord_5_14_5_13_25_0 l g m0 fd rfm rt_ to_ rw_ wa rk rb cn br sm as_ go sh_ ki tg of_ kp rs ta pl cs ct ir oa ob th ig sp_ sf tw n k2_12 fw fb (by first | assumption | decide | omega) (by first | assumption | decide | omega) H.size) (cwV 6 hts gX11_kindHere_X11_isWord rfl rfl rfl (by decide +kernel) ⟨Nat.le_of_ble_eq_true rfl, Nat.le_of_ble_eq_true rfl⟩) (he_preV (wc := [(oX11 m0 tw ta (nI n) pl (nI k2_12) 0 fw cs fd rfm rt_ to_ rw_ wa ct rk rb cn br sm as_ go sh_ ir oa ob th ig sp_ ki tg of_ kp sf rs), (aI g fd 500 fb)]) hK hP hD hS hA hE [0, 1] rfl rfl 0 rfl rfl) rfl rfl hl.1 rfl (lv_room (Nat.le_of_ble_eq_true rfl)) dX11_kindHere_45 ⟨(Nat.le_of_ble_eq_true rfl), (Nat.le_of_ble_eq_true rfl)⟩) hP hD hS hA [0, 1] [] rfl rfl rfl (by decide) (fun r_17 u_18 H locs h_19 hP hD hS => ?_)
      obtain ⟨k2_20, rfl⟩ : ∃ z, z = u_18 := ⟨_, rfl⟩
      try dsimp only at h_19
      obtain ⟨hf_21, hf_22, hf_23⟩ := h_19
      have hP : va_P g.1 vwCl [(oX11 m0 tw ta (nI n) pl (nI k2_20) 0 fw cs fd rfm rt_ to_ rw_ wa ct rk rb cn br sm as_ go sh_ ir oa ob th ig sp_ ki tg of_ kp sf rs), (aI g fd 500 fb)] H := hP
      have hD : va_D A [(oX11 m0 tw ta (nI n) pl (nI k2_20) 0 fw cs fd rfm rt_ to_ rw_ wa ct rk rb cn br sm as_ go sh_ ir oa ob th ig sp_ ki tg of_ kp sf rs), (aI g fd 500 fb)] := hD
      refine lv_if_eq (tgt := 53) hx hb dX11_kindHere_48 (by decide) (fun c_24 => ?_) (fun c_24 => ?_)
      · refine lv_aload_n hx hb dX11_kindHere_53 rfl (lv_at hl 0 rfl) ?_
        refine lv_bipush (v := 20) hx hb dX11_kindHere_54 (by decide) ?_
        refine lv_bipush (v := 15) hx hb dX11_kindHere_56 (by decide) ?_
        refine lv_bipush (v := 23) hx hb dX11_kindHere_58 (by decide) ?_
        refine lv_bipush (v := 14) hx hb dX11_kindHere_60 (by decide) ?_
        refine lv_iconst (v := 0) hx hb dX11_kindHere_62 (by decide) ?_
        refine lv_iconst (v := 0) hx hb dX11_kindHere_63 (by decide) ?_
        refine he_ci (wc := [(oX11 m0 tw ta (nI n) pl (nI k2_20) 0 fw cs fd rfm rt_ to_ rw_ wa ct rk rb cn br sm as_ go sh_ ir oa ob th ig sp_ ki tg of_ kp sf rs), (aI g fd 500 fb)]) (wr := []) (va_runV (As := [.int 20, .int 15, .int 23, .int 14, .int 0, .int 0]) (rest := []) ⟨hx, hb, hml, hown, hts⟩ (h_X11_isWord_20_15_23_14_0_0 l g m0 fd rfm rt_ to_ rw_ wa rk rb cn br sm as_ go sh_ ki tg of_ kp rs ta pl cs ct ir oa ob th ig sp_ sf tw n k2_20 fw fb (by first | assumption | decide | omega) (by first | assumption | decide | omega) H.size) (cwV 6 hts gX11_kindHere_X11_isWord rfl rfl rfl (by decide +kernel) ⟨Nat.le_of_ble_eq_true rfl, Nat.le_of_ble_eq_true rfl⟩) (he_preV (wc := [(oX11 m0 tw ta (nI n) pl (nI k2_20) 0 fw cs fd rfm rt_ to_ rw_ wa ct rk rb cn br sm as_ go sh_ ir oa ob th ig sp_ ki tg of_ kp sf rs), (aI g fd 500 fb)]) hK hP hD hS hA hE [0, 1] rfl rfl 0 rfl rfl) rfl rfl hl.1 rfl (lv_room (Nat.le_of_ble_eq_true rfl)) dX11_kindHere_64 ⟨(Nat.le_of_ble_eq_true rfl), (Nat.le_of_ble_eq_true rfl)⟩) hP hD hS hA [0, 1] [] rfl rfl rfl (by decide) (fun r_25 u_26 H locs h_27 hP hD hS => ?_)
        obtain ⟨k2_28, rfl⟩ : ∃ z, z = u_26 := ⟨_, rfl⟩
        try dsimp only at h_27
        obtain ⟨hf_29, hf_30, hf_31⟩ := h_27
        have hP : va_P g.1 vwCl [(oX11 m0 tw ta (nI n) pl (nI k2_28) 0 fw cs fd rfm rt_ to_ rw_ wa ct rk rb cn br sm as_ go sh_ ir oa ob th ig sp_ ki tg of_ kp sf rs), (aI g fd 500 fb)] H := hP
        have hD : va_D A [(oX11 m0 tw ta (nI n) pl (nI k2_28) 0 fw cs fd rfm rt_ to_ rw_ wa ct rk rb cn br sm as_ go sh_ ir oa ob th ig sp_ ki tg of_ kp sf rs), (aI g fd 500 fb)] := hD
        refine lv_if_eq (tgt := 73) hx hb dX11_kindHere_67 (by decide) (fun c_32 => ?_) (fun c_32 => ?_)
        · refine lv_aload_n hx hb dX11_kindHere_73 rfl (lv_at hl 0 rfl) ?_
          refine lv_bipush (v := 6) hx hb dX11_kindHere_74 (by decide) ?_
          refine lv_iconst (v := 5) hx hb dX11_kindHere_76 (by decide) ?_
          refine lv_iconst (v := 1) hx hb dX11_kindHere_77 (by decide) ?_
          refine lv_bipush (v := 18) hx hb dX11_kindHere_78 (by decide) ?_
          refine lv_iconst (v := 0) hx hb dX11_kindHere_80 (by decide) ?_
          refine lv_iconst (v := 0) hx hb dX11_kindHere_81 (by decide) ?_
          refine he_ci (wc := [(oX11 m0 tw ta (nI n) pl (nI k2_28) 0 fw cs fd rfm rt_ to_ rw_ wa ct rk rb cn br sm as_ go sh_ ir oa ob th ig sp_ ki tg of_ kp sf rs), (aI g fd 500 fb)]) (wr := []) (va_runV (As := [.int 6, .int 5, .int 1, .int 18, .int 0, .int 0]) (rest := []) ⟨hx, hb, hml, hown, hts⟩ (h_X11_isWord_6_5_1_18_0_0 l g m0 fd rfm rt_ to_ rw_ wa rk rb cn br sm as_ go sh_ ki tg of_ kp rs ta pl cs ct ir oa ob th ig sp_ sf tw n k2_28 fw fb (by first | assumption | decide | omega) (by first | assumption | decide | omega) H.size) (cwV 6 hts gX11_kindHere_X11_isWord rfl rfl rfl (by decide +kernel) ⟨Nat.le_of_ble_eq_true rfl, Nat.le_of_ble_eq_true rfl⟩) (he_preV (wc := [(oX11 m0 tw ta (nI n) pl (nI k2_28) 0 fw cs fd rfm rt_ to_ rw_ wa ct rk rb cn br sm as_ go sh_ ir oa ob th ig sp_ ki tg of_ kp sf rs), (aI g fd 500 fb)]) hK hP hD hS hA hE [0, 1] rfl rfl 0 rfl rfl) rfl rfl hl.1 rfl (lv_room (Nat.le_of_ble_eq_true rfl)) dX11_kindHere_82 ⟨(Nat.le_of_ble_eq_true rfl), (Nat.le_of_ble_eq_true rfl)⟩) hP hD hS hA [0, 1] [] rfl rfl rfl (by decide) (fun r_33 u_34 H locs h_35 hP hD hS => ?_)
          obtain ⟨k2_36, rfl⟩ : ∃ z, z = u_34 := ⟨_, rfl⟩
          try dsimp only at h_35
          obtain ⟨hf_37, hf_38, hf_39⟩ := h_35
          have hP : va_P g.1 vwCl [(oX11 m0 tw ta (nI n) pl (nI k2_36) 0 fw cs fd rfm rt_ to_ rw_ wa ct rk rb cn br sm as_ go sh_ ir oa ob th ig sp_ ki tg of_ kp sf rs), (aI g fd 500 fb)] H := hP
          have hD : va_D A [(oX11 m0 tw ta (nI n) pl (nI k2_36) 0 fw cs fd rfm rt_ to_ rw_ wa ct rk rb cn br sm as_ go sh_ ir oa ob th ig sp_ ki tg of_ kp sf rs), (aI g fd 500 fb)] := hD
          refine lv_if_eq (tgt := 91) hx hb dX11_kindHere_85 (by decide) (fun c_40 => ?_) (fun c_40 => ?_)
          · refine lv_aload_n hx hb dX11_kindHere_91 rfl (lv_at hl 0 rfl) ?_
            refine lv_bipush (v := 13) hx hb dX11_kindHere_92 (by decide) ?_
            refine lv_iconst (v := 1) hx hb dX11_kindHere_94 (by decide) ?_
            refine lv_bipush (v := 19) hx hb dX11_kindHere_95 (by decide) ?_
            refine lv_bipush (v := 15) hx hb dX11_kindHere_97 (by decide) ?_
            refine lv_bipush (v := 14) hx hb dX11_kindHere_99 (by decide) ?_
            refine lv_iconst (v := 0) hx hb dX11_kindHere_101 (by decide) ?_
            refine he_ci (wc := [(oX11 m0 tw ta (nI n) pl (nI k2_36) 0 fw cs fd rfm rt_ to_ rw_ wa ct rk rb cn br sm as_ go sh_ ir oa ob th ig sp_ ki tg of_ kp sf rs), (aI g fd 500 fb)]) (wr := []) (va_runV (As := [.int 13, .int 1, .int 19, .int 15, .int 14, .int 0]) (rest := []) ⟨hx, hb, hml, hown, hts⟩ (h_X11_isWord_13_1_19_15_14_0 l g m0 fd rfm rt_ to_ rw_ wa rk rb cn br sm as_ go sh_ ki tg of_ kp rs ta pl cs ct ir oa ob th ig sp_ sf tw n k2_36 fw fb (by first | assumption | decide | omega) (by first | assumption | decide | omega) H.size) (cwV 6 hts gX11_kindHere_X11_isWord rfl rfl rfl (by decide +kernel) ⟨Nat.le_of_ble_eq_true rfl, Nat.le_of_ble_eq_true rfl⟩) (he_preV (wc := [(oX11 m0 tw ta (nI n) pl (nI k2_36) 0 fw cs fd rfm rt_ to_ rw_ wa ct rk rb cn br sm as_ go sh_ ir oa ob th ig sp_ ki tg of_ kp sf rs), (aI g fd 500 fb)]) hK hP hD hS hA hE [0, 1] rfl rfl 0 rfl rfl) rfl rfl hl.1 rfl (lv_room (Nat.le_of_ble_eq_true rfl)) dX11_kindHere_102 ⟨(Nat.le_of_ble_eq_true rfl), (Nat.le_of_ble_eq_true rfl)⟩) hP hD hS hA [0, 1] [] rfl rfl rfl (by decide) (fun r_41 u_42 H locs h_43 hP hD hS => ?_)
            obtain ⟨k2_44, rfl⟩ : ∃ z, z = u_42 := ⟨_, rfl⟩
            try dsimp only at h_43
            obtain ⟨hf_45, hf_46, hf_47⟩ := h_43
            have hP : va_P g.1 vwCl [(oX11 m0 tw ta (nI n) pl (nI k2_44) 0 fw cs fd rfm rt_ to_ rw_ wa ct rk rb cn br sm as_ go sh_ ir oa ob th ig sp_ ki tg of_ kp sf rs), (aI g fd 500 fb)] H := hP
            have hD : va_D A [(oX11 m0 tw ta (nI n) pl (nI k2_44) 0 fw cs fd rfm rt_ to_ rw_ wa ct rk rb cn br sm as_ go sh_ ir oa ob th ig sp_ ki tg of_ kp sf rs), (aI g fd 500 fb)] := hD
            refine lv_if_eq (tgt := 111) hx hb dX11_kindHere_105 (by decide) (fun c_48 => ?_) (fun c_48 => ?_)
            · refine lv_aload_n hx hb dX11_kindHere_111 rfl (lv_at hl 0 rfl) ?_
              refine lv_iconst (v := 3) hx hb dX11_kindHere_112 (by decide) ?_
              refine lv_bipush (v := 15) hx hb dX11_kindHere_113 (by decide) ?_
              refine lv_bipush (v := 19) hx hb dX11_kindHere_115 (by decide) ?_
              refine lv_bipush (v := 20) hx hb dX11_kindHere_117 (by decide) ?_
              refine lv_iconst (v := 0) hx hb dX11_kindHere_119 (by decide) ?_
              refine lv_iconst (v := 0) hx hb dX11_kindHere_120 (by decide) ?_
              refine he_ci (wc := [(oX11 m0 tw ta (nI n) pl (nI k2_44) 0 fw cs fd rfm rt_ to_ rw_ wa ct rk rb cn br sm as_ go sh_ ir oa ob th ig sp_ ki tg of_ kp sf rs), (aI g fd 500 fb)]) (wr := []) (va_runV (As := [.int 3, .int 15, .int 19, .int 20, .int 0, .int 0]) (rest := []) ⟨hx, hb, hml, hown, hts⟩ (h_X11_isWord_3_15_19_20_0_0 l g m0 fd rfm rt_ to_ rw_ wa rk rb cn br sm as_ go sh_ ki tg of_ kp rs ta pl cs ct ir oa ob th ig sp_ sf tw n k2_44 fw fb (by first | assumption | decide | omega) (by first | assumption | decide | omega) H.size) (cwV 6 hts gX11_kindHere_X11_isWord rfl rfl rfl (by decide +kernel) ⟨Nat.le_of_ble_eq_true rfl, Nat.le_of_ble_eq_true rfl⟩) (he_preV (wc := [(oX11 m0 tw ta (nI n) pl (nI k2_44) 0 fw cs fd rfm rt_ to_ rw_ wa ct rk rb cn br sm as_ go sh_ ir oa ob th ig sp_ ki tg of_ kp sf rs), (aI g fd 500 fb)]) hK hP hD hS hA hE [0, 1] rfl rfl 0 rfl rfl) rfl rfl hl.1 rfl (lv_room (Nat.le_of_ble_eq_true rfl)) dX11_kindHere_121 ⟨(Nat.le_of_ble_eq_true rfl), (Nat.le_of_ble_eq_true rfl)⟩) hP hD hS hA [0, 1] [] rfl rfl rfl (by decide) (fun r_49 u_50 H locs h_51 hP hD hS => ?_)
              obtain ⟨k2_52, rfl⟩ : ∃ z, z = u_50 := ⟨_, rfl⟩
              try dsimp only at h_51
              obtain ⟨hf_53, hf_54, hf_55⟩ := h_51
              have hP : va_P g.1 vwCl [(oX11 m0 tw ta (nI n) pl (nI k2_52) 0 fw cs fd rfm rt_ to_ rw_ wa ct rk rb cn br sm as_ go sh_ ir oa ob th ig sp_ ki tg of_ kp sf rs), (aI g fd 500 fb)] H := hP
              have hD : va_D A [(oX11 m0 tw ta (nI n) pl (nI k2_52) 0 fw cs fd rfm rt_ to_ rw_ wa ct rk rb cn br sm as_ go sh_ ir oa ob th ig sp_ ki tg of_ kp sf rs), (aI g fd 500 fb)] := hD
              refine lv_if_eq (tgt := 130) hx hb dX11_kindHere_124 (by decide) (fun c_56 => ?_) (fun c_56 => ?_)
              · refine lv_aload_n hx hb dX11_kindHere_130 rfl (lv_at hl 0 rfl) ?_
                refine lv_bipush (v := 14) hx hb dX11_kindHere_131 (by decide) ?_
                refine lv_iconst (v := 5) hx hb dX11_kindHere_133 (by decide) ?_
                refine lv_iconst (v := 1) hx hb dX11_kindHere_134 (by decide) ?_
                refine lv_bipush (v := 18) hx hb dX11_kindHere_135 (by decide) ?_
                refine lv_iconst (v := 0) hx hb dX11_kindHere_137 (by decide) ?_
                refine lv_iconst (v := 0) hx hb dX11_kindHere_138 (by decide) ?_
                refine he_ci (wc := [(oX11 m0 tw ta (nI n) pl (nI k2_52) 0 fw cs fd rfm rt_ to_ rw_ wa ct rk rb cn br sm as_ go sh_ ir oa ob th ig sp_ ki tg of_ kp sf rs), (aI g fd 500 fb)]) (wr := []) (va_runV (As := [.int 14, .int 5, .int 1, .int 18, .int 0, .int 0]) (rest := []) ⟨hx, hb, hml, hown, hts⟩ (h_X11_isWord_14_5_1_18_0_0 l g m0 fd rfm rt_ to_ rw_ wa rk rb cn br sm as_ go sh_ ki tg of_ kp rs ta pl cs ct ir oa ob th ig sp_ sf tw n k2_52 fw fb (by first | assumption | decide | omega) (by first | assumption | decide | omega) H.size) (cwV 6 hts gX11_kindHere_X11_isWord rfl rfl rfl (by decide +kernel) ⟨Nat.le_of_ble_eq_true rfl, Nat.le_of_ble_eq_true rfl⟩) (he_preV (wc := [(oX11 m0 tw ta (nI n) pl (nI k2_52) 0 fw cs fd rfm rt_ to_ rw_ wa ct rk rb cn br sm as_ go sh_ ir oa ob th ig sp_ ki tg of_ kp sf rs), (aI g fd 500 fb)]) hK hP hD hS hA hE [0, 1] rfl rfl 0 rfl rfl) rfl rfl hl.1 rfl (lv_room (Nat.le_of_ble_eq_true rfl)) dX11_kindHere_139 ⟨(Nat.le_of_ble_eq_true rfl), (Nat.le_of_ble_eq_true rfl)⟩) hP hD hS hA [0, 1] [] rfl rfl rfl (by decide) (fun r_57 u_58 H locs h_59 hP hD hS => ?_)
                obtain ⟨k2_60, rfl⟩ : ∃ z, z = u_58 := ⟨_, rfl⟩
                try dsimp only at h_59
                obtain ⟨hf_61, hf_62, hf_63⟩ := h_59
                have hP : va_P g.1 vwCl [(oX11 m0 tw ta (nI n) pl (nI k2_60) 0 fw cs fd rfm rt_ to_ rw_ wa ct rk rb cn br sm as_ go sh_ ir oa ob th ig sp_ ki tg of_ kp sf rs), (aI g fd 500 fb)] H := hP
                have hD : va_D A [(oX11 m0 tw ta (nI n) pl (nI k2_60) 0 fw cs fd rfm rt_ to_ rw_ wa ct rk rb cn br sm as_ go sh_ ir oa ob th ig sp_ ki tg of_ kp sf rs), (aI g fd 500 fb)] := hD
                refine lv_if_eq (tgt := 150) hx hb dX11_kindHere_142 (by decide) (fun c_64 => ?_) (fun c_64 => ?_)
                · refine lv_iconst (v := (-1)) hx hb dX11_kindHere_150 (by decide) ?_
                  exact he_ri hQ hx hb hr hlk hP hD hS dX11_kindHere_151 (Nat.le_of_ble_eq_true rfl) (Nat.le_of_ble_eq_true rfl) (k2_60) (rfl) (⟨(Or.inr (Or.inr (Or.inr (Or.inr (Or.inr (Or.inr (Or.inr (Or.inr rfl)))))))), by omega, by omega⟩)
                · refine lv_bipush (v := 15) hx hb dX11_kindHere_145 (by decide) ?_
                  refine lv_goto (tgt := 151) hx hb dX11_kindHere_147 (by decide) ?_
                  exact he_ri hQ hx hb hr hlk hP hD hS dX11_kindHere_151 (Nat.le_of_ble_eq_true rfl) (Nat.le_of_ble_eq_true rfl) (k2_60) (rfl) (⟨(Or.inr (Or.inr (Or.inr (Or.inr (Or.inr (Or.inr (Or.inr (Or.inl rfl)))))))), by omega, by omega⟩)
              · refine lv_bipush (v := 13) hx hb dX11_kindHere_127 (by decide) ?_
                exact he_ri hQ hx hb hr hlk hP hD hS dX11_kindHere_129 (Nat.le_of_ble_eq_true rfl) (Nat.le_of_ble_eq_true rfl) (k2_52) (rfl) (⟨(Or.inr (Or.inr (Or.inr (Or.inr (Or.inr (Or.inr (Or.inl rfl))))))), by omega, by omega⟩)
            · refine lv_bipush (v := 12) hx hb dX11_kindHere_108 (by decide) ?_
              exact he_ri hQ hx hb hr hlk hP hD hS dX11_kindHere_110 (Nat.le_of_ble_eq_true rfl) (Nat.le_of_ble_eq_true rfl) (k2_44) (rfl) (⟨(Or.inr (Or.inr (Or.inr (Or.inr (Or.inr (Or.inl rfl)))))), by omega, by omega⟩)
          · refine lv_bipush (v := 9) hx hb dX11_kindHere_88 (by decide) ?_
            exact he_ri hQ hx hb hr hlk hP hD hS dX11_kindHere_90 (Nat.le_of_ble_eq_true rfl) (Nat.le_of_ble_eq_true rfl) (k2_36) (rfl) (⟨(Or.inr (Or.inr (Or.inr (Or.inr (Or.inl rfl))))), by omega, by omega⟩)
        · refine lv_bipush (v := 7) hx hb dX11_kindHere_70 (by decide) ?_
          exact he_ri hQ hx hb hr hlk hP hD hS dX11_kindHere_72 (Nat.le_of_ble_eq_true rfl) (Nat.le_of_ble_eq_true rfl) (k2_28) (rfl) (⟨(Or.inr (Or.inr (Or.inr (Or.inl rfl)))), by omega, by omega⟩)
      · refine lv_iconst (v := 4) hx hb dX11_kindHere_51 (by decide) ?_
        exact he_ri hQ hx hb hr hlk hP hD hS dX11_kindHere_52 (Nat.le_of_ble_eq_true rfl) (Nat.le_of_ble_eq_true rfl) (k2_20) (rfl) (⟨(Or.inr (Or.inr (Or.inl rfl))), by omega, by omega⟩)
    · refine lv_iconst (v := 1) hx hb dX11_kindHere_33 (by decide) ?_
      exact he_ri hQ hx hb hr hlk hP hD hS dX11_kindHere_34 (Nat.le_of_ble_eq_true rfl) (Nat.le_of_ble_eq_true rfl) (k2_12) (rfl) (⟨(Or.inr (Or.inl rfl)), by omega, by omega⟩)
  · refine lv_iconst (v := 0) hx hb dX11_kindHere_16 (by decide) ?_
    exact he_ri hQ hx hb hr hlk hP hD hS dX11_kindHere_17 (Nat.le_of_ble_eq_true rfl) (Nat.le_of_ble_eq_true rfl) (k2_4) (rfl) (⟨(Or.inl rfl), by omega, by omega⟩)
set_option maxHeartbeats 4000000 in
set_option maxRecDepth 100000 in
theorem h_X11_clause (l : Launch) (g : he_G) (m0 : Nat) (fd : Nat) (rfm : Nat) (rt_ : Nat) (to_ : Nat) (rw_ : Nat) (wa : Nat) (rk : Nat) (rb : Nat) (cn : Nat) (br : Nat) (sm : Nat) (as_ : Nat) (go : Nat) (sh_ : Nat) (ki : Nat) (tg : Nat) (of_ : Nat) (kp : Nat) (rs : Nat) (ta : Int32) (pl : Int32) (ct : Int32) (ir : Int32) (oa : Int32) (ob : Int32) (th : Int32) (ig : Int32) (sp_ : Int32) (sf : Int32) (tw : Int32) (n : Nat) (k : Nat) (fw : Int32) (cs : Int32) (fb : Nat → Int32) (rt : Nat → Int32) (w : Nat) (L : List Nat) (ln : Nat → Nat) (M : Nat → Nat → Int32) (r1 : Nat → Nat) (fa : Int32) (hn : n ≤ 500) (hk : k ≤ n) (hfa : fa = 0) (F_r1 : ∀ i, i < 6 → r1 i ∈ L ∧ ln (r1 i) = 2 ∧ True) (hrt : rt 0 = nI w) (hw6 : w ≤ 6) : he_V l yX11_clause wsX11_clause 5 109 0 0 g [.ref m0] ([(oX11 m0 tw ta (nI n) pl (nI k) fa fw cs fd rfm rt_ to_ rw_ wa ct rk rb cn br sm as_ go sh_ ir oa ob th ig sp_ ki tg of_ kp sf rs), (aI g fd 500 fb), (aI g rt_ 25 rt), (aM g rw_ 6 (he_ro 6 r1))] ++ he_pl g L ln M) (fun (u : Nat × Int32 × Int32 × Int32 × Nat × (Nat → Int32) × (Nat → Nat → Int32)) => k ≤ u.1 ∧ u.1 ≤ n ∧ (¬ u.2.1 = 0 ∨ (u.2.1 = 0 ∧ k < u.1)) ∧ u.2.2.2.2.1 ≤ 6 ∧ u.2.2.2.2.2.1 0 = nI u.2.2.2.2.1 ∧ mEx r1 6 M u.2.2.2.2.2.2) (fun (u : Nat × Int32 × Int32 × Int32 × Nat × (Nat → Int32) × (Nat → Nat → Int32)) => [(oX11 m0 tw ta (nI n) pl (nI u.1) u.2.1 u.2.2.1 u.2.2.2.1 fd rfm rt_ to_ rw_ wa ct rk rb cn br sm as_ go sh_ ir oa ob th ig sp_ ki tg of_ kp sf rs), (aI g fd 500 fb), (aI g rt_ 25 u.2.2.2.2.2.1), (aM g rw_ 6 (he_ro 6 r1))] ++ he_pl g L ln u.2.2.2.2.2.2) := by
  refine he_begin (l := l) (g := g) (y := yX11_clause) (wl := wsX11_clause) (fr := 5) (lo := 109) (mc := 0) (ms := 0) (av := [.ref m0]) (ws := ([(oX11 m0 tw ta (nI n) pl (nI k) fa fw cs fd rfm rt_ to_ rw_ wa ct rk rb cn br sm as_ go sh_ ir oa ob th ig sp_ ki tg of_ kp sf rs), (aI g fd 500 fb), (aI g rt_ 25 rt), (aM g rw_ 6 (he_ro 6 r1))] ++ he_pl g L ln M)) (cc := cX11_clause) (maxL := 3) (ret := none) (fun A => va_Qv (fun (u : Nat × Int32 × Int32 × Int32 × Nat × (Nat → Int32) × (Nat → Nat → Int32)) => k ≤ u.1 ∧ u.1 ≤ n ∧ (¬ u.2.1 = 0 ∨ (u.2.1 = 0 ∧ k < u.1)) ∧ u.2.2.2.2.1 ≤ 6 ∧ u.2.2.2.2.2.1 0 = nI u.2.2.2.2.1 ∧ mEx r1 6 M u.2.2.2.2.2.2) (fun u t => he_post g A ((fun (u : Nat × Int32 × Int32 × Int32 × Nat × (Nat → Int32) × (Nat → Nat → Int32)) => [(oX11 m0 tw ta (nI n) pl (nI u.1) u.2.1 u.2.2.1 u.2.2.2.1 fd rfm rt_ to_ rw_ wa ct rk rb cn br sm as_ go sh_ ir oa ob th ig sp_ ki tg of_ kp sf rs), (aI g fd 500 fb), (aI g rt_ 25 u.2.2.2.2.2.1), (aM g rw_ 6 (he_ro 6 r1))] ++ he_pl g L ln u.2.2.2.2.2.2) u) t) A) (by decide) rfl (Nat.le_of_ble_eq_true rfl) ?_
  intro p e s m args below meth c A ls H locs Q hQ hB
  obtain ⟨hx, hb, hr, hml, hown, hts, hlk, hin, hP, hK, hD, hS, hA, hE, hl⟩ := hB
  have hl : lv_has ls 3 [(0, .ref m0)] := hl
  subst hfa
  have f131 := hts (.fieldLink RX11 131 "HiredEnemyModel" "clauses" "I") (iwoX11_clause (k := 1) rfl)
  have inX11 : ∀ w ∈ wsX110, w ∈ wsX11_clause := innX11_clause_X11
  have f94 := hts (.fieldLink RX11 94 "HiredEnemyModel" "at" "I") (iwoX11_clause (k := 0) rfl)
  have f101 := hts (.fieldLink RX11 101 "HiredEnemyModel" "fault" "I") (iwoX11_clause (k := 3) rfl)
  have f20 := hts (.fieldLink RX11 20 "HiredEnemyModel" "readTold" "[I") (iwoX11_clause (k := 2) rfl)
  have f28 := hts (.fieldLink RX11 28 "HiredEnemyModel" "readWall" "[[I") (iwoX11_clause (k := 4) rfl)
  refine lv_aload_n hx hb dX11_clause_0 rfl (lv_at hl 0 rfl) ?_
  refine he_ci (wc := [(oX11 m0 tw ta (nI n) pl (nI k) 0 fw cs fd rfm rt_ to_ rw_ wa ct rk rb cn br sm as_ go sh_ ir oa ob th ig sp_ ki tg of_ kp sf rs), (aI g fd 500 fb)]) (wr := ([(aI g rt_ 25 rt), (aM g rw_ 6 (he_ro 6 r1))] ++ (he_pl g L ln M))) (va_runV (As := []) (rest := []) ⟨hx, hb, hml, hown, hts⟩ (h_X11_kindHere l g m0 fd rfm rt_ to_ rw_ wa rk rb cn br sm as_ go sh_ ki tg of_ kp rs ta pl cs ct ir oa ob th ig sp_ sf tw n k fw fb (by first | assumption | decide | omega) (by first | assumption | decide | omega) H.size) (cwV 0 hts gX11_clause_X11_kindHere rfl rfl rfl (by decide +kernel) ⟨Nat.le_of_ble_eq_true rfl, Nat.le_of_ble_eq_true rfl⟩) (he_preV (wc := [(oX11 m0 tw ta (nI n) pl (nI k) 0 fw cs fd rfm rt_ to_ rw_ wa ct rk rb cn br sm as_ go sh_ ir oa ob th ig sp_ ki tg of_ kp sf rs), (aI g fd 500 fb)]) hK hP hD hS hA hE [0, 1] rfl rfl 0 rfl rfl) rfl rfl hl.1 rfl (lv_room (Nat.le_of_ble_eq_true rfl)) dX11_clause_1 ⟨(Nat.le_of_ble_eq_true rfl), (Nat.le_of_ble_eq_true rfl)⟩) hP hD hS hA [0, 1] (he_is [2, 3] [(oX11 m0 tw ta (nI n) pl (nI k) 0 fw cs fd rfm rt_ to_ rw_ wa ct rk rb cn br sm as_ go sh_ ir oa ob th ig sp_ ki tg of_ kp sf rs), (aI g fd 500 fb), (aI g rt_ 25 rt), (aM g rw_ 6 (he_ro 6 r1))] (he_pl g L ln M)) rfl (he_ixP rfl) (he_ndP rfl rfl) (he_disN (by decide) rfl) (fun r_1 u_2 H locs h_3 hP hD hS => ?_)
  have hP := va_P.swap hP
  have hD := va_D.swap hD
  obtain ⟨k2_4, rfl⟩ : ∃ z, z = u_2 := ⟨_, rfl⟩
  try dsimp only at h_3
  obtain ⟨hf_5, hf_6, hf_7⟩ := h_3
  have hP : va_P g.1 vwCl ([(aI g rt_ 25 rt), (aM g rw_ 6 (he_ro 6 r1)), (oX11 m0 tw ta (nI n) pl (nI k2_4) 0 fw cs fd rfm rt_ to_ rw_ wa ct rk rb cn br sm as_ go sh_ ir oa ob th ig sp_ ki tg of_ kp sf rs), (aI g fd 500 fb)] ++ he_pl g L ln M) H := hP
  have hD : va_D A ([(aI g rt_ 25 rt), (aM g rw_ 6 (he_ro 6 r1)), (oX11 m0 tw ta (nI n) pl (nI k2_4) 0 fw cs fd rfm rt_ to_ rw_ wa ct rk rb cn br sm as_ go sh_ ir oa ob th ig sp_ ki tg of_ kp sf rs), (aI g fd 500 fb)] ++ he_pl g L ln M) := hD
  rcases hf_5 with rfl | rfl | rfl | rfl | rfl | rfl | rfl | rfl | rfl
  · skip
    refine lv_istore_n (lv' := [(1, .int 0), (0, .ref m0)]) hx hb dX11_clause_4 rfl hl (by decide) rfl (fun ls hl => ?_)
    refine lv_iload_n hx hb dX11_clause_5 rfl (lv_at hl 0 rfl) ?_
    refine lv_iconst (v := (-1)) hx hb dX11_clause_6 (by decide) ?_
    refine lv_icmp_ne (tgt := 22) hx hb dX11_clause_7 (by decide) (fun c_8 => ?_) (fun c_8 => ?_)
    · refine lv_aload_n hx hb dX11_clause_22 rfl (lv_at hl 1 rfl) ?_
      refine va_get (v := .int cs) (T := TX11) (N := 35) hx hb hts inX11 hown hK hP 2 rfl rfl 7 (by decide) f131 (fun _ h9 => h9) rfl dX11_clause_23 ?_
      refine lv_bipush (v := 60) hx hb dX11_clause_26 (by decide) ?_
      refine lv_icmp_eq (tgt := 46) hx hb dX11_clause_28 (by decide) (fun c_9 => ?_) (fun c_9 => ?_)
      · refine lv_aload_n hx hb dX11_clause_46 rfl (lv_at hl 1 rfl) ?_
        refine lv_iconst (v := 3) hx hb dX11_clause_47 (by decide) ?_
        refine lv_aload_n hx hb dX11_clause_48 rfl (lv_at hl 1 rfl) ?_
        refine va_get (v := .int (nI k2_4)) (T := TX11) (N := 35) hx hb hts inX11 hown hK hP 2 rfl rfl 4 (by decide) f94 (fun _ h9 => h9) rfl dX11_clause_49 ?_
        refine he_cv (wc := [(oX11 m0 tw ta (nI n) pl (nI k2_4) 0 fw cs fd rfm rt_ to_ rw_ wa ct rk rb cn br sm as_ go sh_ ir oa ob th ig sp_ ki tg of_ kp sf rs), (aI g fd 500 fb)]) (wr := ([(aI g rt_ 25 rt), (aM g rw_ 6 (he_ro 6 r1))] ++ (he_pl g L ln M))) (va_runV (As := [.int 3, .int (nI k2_4)]) (rest := []) ⟨hx, hb, hml, hown, hts⟩ (h_X11_wrong l g m0 fd rfm rt_ to_ rw_ wa rk rb cn br sm as_ go sh_ ki tg of_ kp rs ta pl cs ct ir oa ob th ig sp_ sf tw n k2_4 0 fw fb 3 (nI k2_4) H.size) (cwV 2 hts gX11_clause_X11_wrong rfl rfl rfl (by decide +kernel) ⟨Nat.le_of_ble_eq_true rfl, Nat.le_of_ble_eq_true rfl⟩) (he_preV (wc := [(oX11 m0 tw ta (nI n) pl (nI k2_4) 0 fw cs fd rfm rt_ to_ rw_ wa ct rk rb cn br sm as_ go sh_ ir oa ob th ig sp_ ki tg of_ kp sf rs), (aI g fd 500 fb)]) hK hP hD hS hA hE [2, 3] rfl rfl 2 rfl rfl) rfl rfl hl.1 rfl (lv_room (Nat.le_of_ble_eq_true rfl)) dX11_clause_52 ⟨(Nat.le_of_ble_eq_true rfl), (Nat.le_of_ble_eq_true rfl)⟩) hP hD hS hA [2, 3] (he_is [0, 1] [(aI g rt_ 25 rt), (aM g rw_ 6 (he_ro 6 r1)), (oX11 m0 tw ta (nI n) pl (nI k2_4) 0 fw cs fd rfm rt_ to_ rw_ wa ct rk rb cn br sm as_ go sh_ ir oa ob th ig sp_ ki tg of_ kp sf rs), (aI g fd 500 fb)] (he_pl g L ln M)) rfl (he_ixP rfl) (he_ndP rfl rfl) (he_disN (by decide) rfl) (fun u_11 H locs h_12 hP hD hS => ?_)
        have hP := va_P.swap hP
        have hD := va_D.swap hD
        have hP : va_P g.1 vwCl ([(aI g rt_ 25 rt), (aM g rw_ 6 (he_ro 6 r1)), (oX11 m0 tw ta (nI n) pl (nI k2_4) (wrF 0 3) (wrA 0 fw (nI k2_4)) cs fd rfm rt_ to_ rw_ wa ct rk rb cn br sm as_ go sh_ ir oa ob th ig sp_ ki tg of_ kp sf rs), (aI g fd 500 fb)] ++ he_pl g L ln M) H := hP
        have hD : va_D A ([(aI g rt_ 25 rt), (aM g rw_ 6 (he_ro 6 r1)), (oX11 m0 tw ta (nI n) pl (nI k2_4) (wrF 0 3) (wrA 0 fw (nI k2_4)) cs fd rfm rt_ to_ rw_ wa ct rk rb cn br sm as_ go sh_ ir oa ob th ig sp_ ki tg of_ kp sf rs), (aI g fd 500 fb)] ++ he_pl g L ln M) := hD
        refine lv_aload_n hx hb dX11_clause_55 rfl (lv_at hl 1 rfl) ?_
        refine va_get (v := .int (wrF 0 3)) (T := TX11) (N := 35) hx hb hts inX11 hown hK hP 2 rfl rfl 5 (by decide) f101 (fun _ h9 => h9) rfl dX11_clause_56 ?_
        refine lv_if_eq (tgt := 63) hx hb dX11_clause_59 (by decide) (fun c_13 => ?_) (fun c_13 => ?_)
        · exact absurd c_13 (by decide)
        · have hP := he_Psub (X := [(aI g rt_ 25 rt), (aM g rw_ 6 (he_ro 6 r1)), (oX11 m0 tw ta (nI n) pl (nI k2_4) (wrF 0 3) (wrA 0 fw (nI k2_4)) cs fd rfm rt_ to_ rw_ wa ct rk rb cn br sm as_ go sh_ ir oa ob th ig sp_ ki tg of_ kp sf rs), (aI g fd 500 fb)]) (X2 := [(oX11 m0 tw ta (nI n) pl (nI k2_4) (wrF 0 3) (wrA 0 fw (nI k2_4)) cs fd rfm rt_ to_ rw_ wa ct rk rb cn br sm as_ go sh_ ir oa ob th ig sp_ ki tg of_ kp sf rs), (aI g fd 500 fb), (aI g rt_ 25 rt), (aM g rw_ 6 (he_ro 6 r1))]) (P := (he_pl g L ln M)) hP [2, 3, 0, 1] rfl
          have hD := he_Dsub (X := [(aI g rt_ 25 rt), (aM g rw_ 6 (he_ro 6 r1)), (oX11 m0 tw ta (nI n) pl (nI k2_4) (wrF 0 3) (wrA 0 fw (nI k2_4)) cs fd rfm rt_ to_ rw_ wa ct rk rb cn br sm as_ go sh_ ir oa ob th ig sp_ ki tg of_ kp sf rs), (aI g fd 500 fb)]) (X2 := [(oX11 m0 tw ta (nI n) pl (nI k2_4) (wrF 0 3) (wrA 0 fw (nI k2_4)) cs fd rfm rt_ to_ rw_ wa ct rk rb cn br sm as_ go sh_ ir oa ob th ig sp_ ki tg of_ kp sf rs), (aI g fd 500 fb), (aI g rt_ 25 rt), (aM g rw_ 6 (he_ro 6 r1))]) (P := (he_pl g L ln M)) hD [2, 3, 0, 1] rfl rfl rfl
          exact he_rv hQ hx hb hr hlk hP hD hS dX11_clause_62 (Nat.le_of_ble_eq_true rfl) (Nat.le_of_ble_eq_true rfl) ((k2_4, wrF 0 3, wrA 0 fw (nI k2_4), cs, w, rt, M)) (rfl) (by (try dsimp only); exact ⟨by (try dsimp only); omega, by (try dsimp only); omega, (Or.inl (by (try dsimp only); decide)), by (try dsimp only); omega, hrt, (mEx_refl _ _ _)⟩)
      · refine lv_iload_n hx hb dX11_clause_31 rfl (lv_at hl 0 rfl) ?_
        refine lv_if_ne (tgt := 55) hx hb dX11_clause_32 (by decide) (fun c_14 => ?_) (fun c_14 => ?_)
        · exact absurd (by decide) c_14
        · refine lv_aload_n hx hb dX11_clause_35 rfl (lv_at hl 1 rfl) ?_
          refine va_get (v := .ref rt_) (T := TX11) (N := 35) hx hb hts inX11 hown hK hP 2 rfl rfl 10 (by decide) f20 (fun _ h9 => h9) rfl dX11_clause_36 ?_
          refine lv_iconst (v := 0) hx hb dX11_clause_39 (by decide) ?_
          refine he_iald hx hb hK hP 0 rfl (0) (by decide) (by decide) (by first | decide | assumption) (nI w) hrt dX11_clause_40 ?_
          refine lv_bipush (v := 6) hx hb dX11_clause_41 (by decide) ?_
          refine lv_icmp_ne (tgt := 55) hx hb dX11_clause_43 (by decide) (fun c_15 => ?_) (fun c_15 => ?_)
          · have k_16 : ¬ (w = 6) := fun h9 => c_15 ((he_ceq (a := w) (b := 6) rfl (by decide) (by omega) (by omega)).mpr h9)
            refine lv_aload_n hx hb dX11_clause_55 rfl (lv_at hl 1 rfl) ?_
            refine va_get (v := .int 0) (T := TX11) (N := 35) hx hb hts inX11 hown hK hP 2 rfl rfl 5 (by decide) f101 (fun _ h9 => h9) rfl dX11_clause_56 ?_
            refine lv_if_eq (tgt := 63) hx hb dX11_clause_59 (by decide) (fun c_17 => ?_) (fun c_17 => ?_)
            · refine lv_aload_n hx hb dX11_clause_63 rfl (lv_at hl 1 rfl) ?_
              refine he_cv (wc := [(oX11 m0 tw ta (nI n) pl (nI k2_4) 0 fw cs fd rfm rt_ to_ rw_ wa ct rk rb cn br sm as_ go sh_ ir oa ob th ig sp_ ki tg of_ kp sf rs), (aI g fd 500 fb)]) (wr := ([(aI g rt_ 25 rt), (aM g rw_ 6 (he_ro 6 r1))] ++ (he_pl g L ln M))) (va_runV (As := []) (rest := []) ⟨hx, hb, hml, hown, hts⟩ (h_X11_skipWord l g m0 fd rfm rt_ to_ rw_ wa rk rb cn br sm as_ go sh_ ki tg of_ kp rs ta pl cs ct ir oa ob th ig sp_ sf tw n k2_4 0 fw fb (by first | assumption | decide | omega) (by first | assumption | decide | omega) H.size) (cwV 0 hts gX11_clause_X11_skipWord rfl rfl rfl (by decide +kernel) ⟨Nat.le_of_ble_eq_true rfl, Nat.le_of_ble_eq_true rfl⟩) (he_preV (wc := [(oX11 m0 tw ta (nI n) pl (nI k2_4) 0 fw cs fd rfm rt_ to_ rw_ wa ct rk rb cn br sm as_ go sh_ ir oa ob th ig sp_ ki tg of_ kp sf rs), (aI g fd 500 fb)]) hK hP hD hS hA hE [2, 3] rfl rfl 2 rfl rfl) rfl rfl hl.1 rfl (lv_room (Nat.le_of_ble_eq_true rfl)) dX11_clause_64 ⟨(Nat.le_of_ble_eq_true rfl), (Nat.le_of_ble_eq_true rfl)⟩) hP hD hS hA [2, 3] (he_is [0, 1] [(aI g rt_ 25 rt), (aM g rw_ 6 (he_ro 6 r1)), (oX11 m0 tw ta (nI n) pl (nI k2_4) 0 fw cs fd rfm rt_ to_ rw_ wa ct rk rb cn br sm as_ go sh_ ir oa ob th ig sp_ ki tg of_ kp sf rs), (aI g fd 500 fb)] (he_pl g L ln M)) rfl (he_ixP rfl) (he_ndP rfl rfl) (he_disN (by decide) rfl) (fun u_19 H locs h_20 hP hD hS => ?_)
              have hP := va_P.swap hP
              have hD := va_D.swap hD
              obtain ⟨k2_21, rfl⟩ : ∃ z, z = u_19 := ⟨_, rfl⟩
              try dsimp only at h_20
              obtain ⟨hf_22, hf_23⟩ := h_20
              have hP : va_P g.1 vwCl ([(aI g rt_ 25 rt), (aM g rw_ 6 (he_ro 6 r1)), (oX11 m0 tw ta (nI n) pl (nI k2_21) 0 fw cs fd rfm rt_ to_ rw_ wa ct rk rb cn br sm as_ go sh_ ir oa ob th ig sp_ ki tg of_ kp sf rs), (aI g fd 500 fb)] ++ he_pl g L ln M) H := hP
              have hD : va_D A ([(aI g rt_ 25 rt), (aM g rw_ 6 (he_ro 6 r1)), (oX11 m0 tw ta (nI n) pl (nI k2_21) 0 fw cs fd rfm rt_ to_ rw_ wa ct rk rb cn br sm as_ go sh_ ir oa ob th ig sp_ ki tg of_ kp sf rs), (aI g fd 500 fb)] ++ he_pl g L ln M) := hD
              refine lv_aload_n hx hb dX11_clause_67 rfl (lv_at hl 1 rfl) ?_
              refine lv_dup hx hb dX11_clause_68 rfl ?_
              refine va_get (v := .int cs) (T := TX11) (N := 35) hx hb hts inX11 hown hK hP 2 rfl rfl 7 (by decide) f131 (fun _ h9 => h9) rfl dX11_clause_69 ?_
              refine lv_iconst (v := 1) hx hb dX11_clause_72 (by decide) ?_
              refine lv_iadd hx hb dX11_clause_73 ?_
              refine va_put (v := .int (cs + 1)) (ty := .int) (T := TX11) (N := 35) hx hb hts inX11 tyX11 tyX11_ok nmX11 hown hK hP hD hS 2 rfl rfl 7 (by decide) f131 (fun _ h9 => h9) rfl (by decide +kernel) rfl rfl (Nat.le_of_ble_eq_true rfl) dX11_clause_74 (fun H locs hP hD hS => ?_)
              have hP : va_P g.1 vwCl ([(aI g rt_ 25 rt), (aM g rw_ 6 (he_ro 6 r1)), (oX11 m0 tw ta (nI n) pl (nI k2_21) 0 fw (cs + 1) fd rfm rt_ to_ rw_ wa ct rk rb cn br sm as_ go sh_ ir oa ob th ig sp_ ki tg of_ kp sf rs), (aI g fd 500 fb)] ++ he_pl g L ln M) H := hP
              have hD : va_D A ([(aI g rt_ 25 rt), (aM g rw_ 6 (he_ro 6 r1)), (oX11 m0 tw ta (nI n) pl (nI k2_21) 0 fw (cs + 1) fd rfm rt_ to_ rw_ wa ct rk rb cn br sm as_ go sh_ ir oa ob th ig sp_ ki tg of_ kp sf rs), (aI g fd 500 fb)] ++ he_pl g L ln M) := hD
              refine lv_iload_n hx hb dX11_clause_77 rfl (lv_at hl 0 rfl) ?_
              refine lv_tableIn (tgt := 148) hx hb dX11_clause_78 (by decide) (by decide) rfl (by decide) ?_
              refine lv_aload_n hx hb dX11_clause_148 rfl (lv_at hl 1 rfl) ?_
              refine va_get (v := .ref rw_) (T := TX11) (N := 35) hx hb hts inX11 hown hK hP 2 rfl rfl 12 (by decide) f28 (fun _ h9 => h9) rfl dX11_clause_149 ?_
              refine lv_aload_n hx hb dX11_clause_152 rfl (lv_at hl 1 rfl) ?_
              refine va_get (v := .ref rt_) (T := TX11) (N := 35) hx hb hts inX11 hown hK hP 2 rfl rfl 10 (by decide) f20 (fun _ h9 => h9) rfl dX11_clause_153 ?_
              refine lv_iconst (v := 0) hx hb dX11_clause_156 (by decide) ?_
              refine he_iald hx hb hK hP 0 rfl (0) (by decide) (by decide) (by first | decide | assumption) (nI w) hrt dX11_clause_157 ?_
              refine he_aldm hx hb hK hP 1 rfl (w) rfl (by first | assumption | decide | omega) (by decide) dX11_clause_158 ?_
              refine lv_astore_n (lv' := [(2, .ref (r1 w)), (1, .int 0), (0, .ref m0)]) hx hb dX11_clause_159 rfl hl (by decide) rfl (fun ls hl => ?_)
              refine lv_aload_n hx hb dX11_clause_160 rfl (lv_at hl 0 rfl) ?_
              refine lv_iconst (v := 0) hx hb dX11_clause_161 (by decide) ?_
              refine lv_aload_n hx hb dX11_clause_162 rfl (lv_at hl 2 rfl) ?_
              refine lv_iconst (v := 1) hx hb dX11_clause_163 (by decide) ?_
              refine lv_bipush (v := 99) hx hb dX11_clause_164 (by decide) ?_
              refine he_ci (wc := [(oX11 m0 tw ta (nI n) pl (nI k2_21) 0 fw (cs + 1) fd rfm rt_ to_ rw_ wa ct rk rb cn br sm as_ go sh_ ir oa ob th ig sp_ ki tg of_ kp sf rs), (aI g fd 500 fb)]) (wr := ([(aI g rt_ 25 rt), (aM g rw_ 6 (he_ro 6 r1))] ++ (he_pl g L ln M))) (va_runV (As := [.int 1, .int 99]) (rest := [.int 0, .ref (r1 w)]) ⟨hx, hb, hml, hown, hts⟩ (h_X11_number l g m0 fd rfm rt_ to_ rw_ wa rk rb cn br sm as_ go sh_ ki tg of_ kp rs ta pl (cs + 1) ct ir oa ob th ig sp_ sf tw n k2_21 0 fw fb 1 99 (by first | assumption | decide | omega) (by first | assumption | decide | omega) H.size) (cwV 2 hts gX11_clause_X11_number rfl rfl rfl (by decide +kernel) ⟨Nat.le_of_ble_eq_true rfl, Nat.le_of_ble_eq_true rfl⟩) (he_preV (wc := [(oX11 m0 tw ta (nI n) pl (nI k2_21) 0 fw (cs + 1) fd rfm rt_ to_ rw_ wa ct rk rb cn br sm as_ go sh_ ir oa ob th ig sp_ ki tg of_ kp sf rs), (aI g fd 500 fb)]) hK hP hD hS hA hE [2, 3] rfl rfl 2 rfl rfl) rfl rfl hl.1 rfl (lv_room (Nat.le_of_ble_eq_true rfl)) dX11_clause_166 ⟨(Nat.le_of_ble_eq_true rfl), (Nat.le_of_ble_eq_true rfl)⟩) hP hD hS hA [2, 3] (he_is [0, 1] [(aI g rt_ 25 rt), (aM g rw_ 6 (he_ro 6 r1)), (oX11 m0 tw ta (nI n) pl (nI k2_21) 0 fw (cs + 1) fd rfm rt_ to_ rw_ wa ct rk rb cn br sm as_ go sh_ ir oa ob th ig sp_ ki tg of_ kp sf rs), (aI g fd 500 fb)] (he_pl g L ln M)) rfl (he_ixP rfl) (he_ndP rfl rfl) (he_disN (by decide) rfl) (fun r_24 u_25 H locs h_26 hP hD hS => ?_)
              have hP := va_P.swap hP
              have hD := va_D.swap hD
              obtain ⟨k2_27, fb2_28, fw2_29⟩ := u_25
              try dsimp only at h_26
              obtain ⟨hf_30, hf_31, hf_32⟩ := h_26
              have hP : va_P g.1 vwCl ([(aI g rt_ 25 rt), (aM g rw_ 6 (he_ro 6 r1)), (oX11 m0 tw ta (nI n) pl (nI k2_27) fb2_28 fw2_29 (cs + 1) fd rfm rt_ to_ rw_ wa ct rk rb cn br sm as_ go sh_ ir oa ob th ig sp_ ki tg of_ kp sf rs), (aI g fd 500 fb)] ++ he_pl g L ln M) H := hP
              have hD : va_D A ([(aI g rt_ 25 rt), (aM g rw_ 6 (he_ro 6 r1)), (oX11 m0 tw ta (nI n) pl (nI k2_27) fb2_28 fw2_29 (cs + 1) fd rfm rt_ to_ rw_ wa ct rk rb cn br sm as_ go sh_ ir oa ob th ig sp_ ki tg of_ kp sf rs), (aI g fd 500 fb)] ++ he_pl g L ln M) := hD
              refine he_past hx hb hK hP hD hS (F_r1 w (by first | assumption | decide | omega)).1 (0) (by decide) (by rw [(F_r1 w (by first | assumption | decide | omega)).2.1]; exact (by decide)) (by rw [(F_r1 w (by first | assumption | decide | omega)).2.1]; decide) dX11_clause_169 (fun H locs hP hD hS => ?_)
              have hP : va_P g.1 vwCl ([(aI g rt_ 25 rt), (aM g rw_ 6 (he_ro 6 r1)), (oX11 m0 tw ta (nI n) pl (nI k2_27) fb2_28 fw2_29 (cs + 1) fd rfm rt_ to_ rw_ wa ct rk rb cn br sm as_ go sh_ ir oa ob th ig sp_ ki tg of_ kp sf rs), (aI g fd 500 fb)] ++ he_pl g L ln (va_up M (r1 w) (upd (M (r1 w)) 0 r_24))) H := hP
              have hD : va_D A ([(aI g rt_ 25 rt), (aM g rw_ 6 (he_ro 6 r1)), (oX11 m0 tw ta (nI n) pl (nI k2_27) fb2_28 fw2_29 (cs + 1) fd rfm rt_ to_ rw_ wa ct rk rb cn br sm as_ go sh_ ir oa ob th ig sp_ ki tg of_ kp sf rs), (aI g fd 500 fb)] ++ he_pl g L ln (va_up M (r1 w) (upd (M (r1 w)) 0 r_24))) := hD
              refine lv_aload_n hx hb dX11_clause_170 rfl (lv_at hl 0 rfl) ?_
              refine lv_iconst (v := 1) hx hb dX11_clause_171 (by decide) ?_
              refine lv_aload_n hx hb dX11_clause_172 rfl (lv_at hl 2 rfl) ?_
              refine lv_iconst (v := 0) hx hb dX11_clause_173 (by decide) ?_
              refine lv_bipush (v := 50) hx hb dX11_clause_174 (by decide) ?_
              refine he_ci (wc := [(oX11 m0 tw ta (nI n) pl (nI k2_27) fb2_28 fw2_29 (cs + 1) fd rfm rt_ to_ rw_ wa ct rk rb cn br sm as_ go sh_ ir oa ob th ig sp_ ki tg of_ kp sf rs), (aI g fd 500 fb)]) (wr := ([(aI g rt_ 25 rt), (aM g rw_ 6 (he_ro 6 r1))] ++ (he_pl g L ln (va_up M (r1 w) (upd (M (r1 w)) 0 r_24))))) (va_runV (As := [.int 0, .int 50]) (rest := [.int 1, .ref (r1 w)]) ⟨hx, hb, hml, hown, hts⟩ (h_X11_number l g m0 fd rfm rt_ to_ rw_ wa rk rb cn br sm as_ go sh_ ki tg of_ kp rs ta pl (cs + 1) ct ir oa ob th ig sp_ sf tw n k2_27 fb2_28 fw2_29 fb 0 50 (by first | assumption | decide | omega) (by first | assumption | decide | omega) H.size) (cwV 2 hts gX11_clause_X11_number rfl rfl rfl (by decide +kernel) ⟨Nat.le_of_ble_eq_true rfl, Nat.le_of_ble_eq_true rfl⟩) (he_preV (wc := [(oX11 m0 tw ta (nI n) pl (nI k2_27) fb2_28 fw2_29 (cs + 1) fd rfm rt_ to_ rw_ wa ct rk rb cn br sm as_ go sh_ ir oa ob th ig sp_ ki tg of_ kp sf rs), (aI g fd 500 fb)]) hK hP hD hS hA hE [2, 3] rfl rfl 2 rfl rfl) rfl rfl hl.1 rfl (lv_room (Nat.le_of_ble_eq_true rfl)) dX11_clause_176 ⟨(Nat.le_of_ble_eq_true rfl), (Nat.le_of_ble_eq_true rfl)⟩) hP hD hS hA [2, 3] (he_is [0, 1] [(aI g rt_ 25 rt), (aM g rw_ 6 (he_ro 6 r1)), (oX11 m0 tw ta (nI n) pl (nI k2_27) fb2_28 fw2_29 (cs + 1) fd rfm rt_ to_ rw_ wa ct rk rb cn br sm as_ go sh_ ir oa ob th ig sp_ ki tg of_ kp sf rs), (aI g fd 500 fb)] (he_pl g L ln (va_up M (r1 w) (upd (M (r1 w)) 0 r_24)))) rfl (he_ixP rfl) (he_ndP rfl rfl) (he_disN (by decide) rfl) (fun r_33 u_34 H locs h_35 hP hD hS => ?_)
              have hP := va_P.swap hP
              have hD := va_D.swap hD
              obtain ⟨k2_36, fb2_37, fw2_38⟩ := u_34
              try dsimp only at h_35
              obtain ⟨hf_39, hf_40, hf_41⟩ := h_35
              have hP : va_P g.1 vwCl ([(aI g rt_ 25 rt), (aM g rw_ 6 (he_ro 6 r1)), (oX11 m0 tw ta (nI n) pl (nI k2_36) fb2_37 fw2_38 (cs + 1) fd rfm rt_ to_ rw_ wa ct rk rb cn br sm as_ go sh_ ir oa ob th ig sp_ ki tg of_ kp sf rs), (aI g fd 500 fb)] ++ he_pl g L ln (va_up M (r1 w) (upd (M (r1 w)) 0 r_24))) H := hP
              have hD : va_D A ([(aI g rt_ 25 rt), (aM g rw_ 6 (he_ro 6 r1)), (oX11 m0 tw ta (nI n) pl (nI k2_36) fb2_37 fw2_38 (cs + 1) fd rfm rt_ to_ rw_ wa ct rk rb cn br sm as_ go sh_ ir oa ob th ig sp_ ki tg of_ kp sf rs), (aI g fd 500 fb)] ++ he_pl g L ln (va_up M (r1 w) (upd (M (r1 w)) 0 r_24))) := hD
              refine he_past hx hb hK hP hD hS (F_r1 w (by first | assumption | decide | omega)).1 (1) (by decide) (by rw [(F_r1 w (by first | assumption | decide | omega)).2.1]; exact (by decide)) (by rw [(F_r1 w (by first | assumption | decide | omega)).2.1]; decide) dX11_clause_179 (fun H locs hP hD hS => ?_)
              have hP : va_P g.1 vwCl ([(aI g rt_ 25 rt), (aM g rw_ 6 (he_ro 6 r1)), (oX11 m0 tw ta (nI n) pl (nI k2_36) fb2_37 fw2_38 (cs + 1) fd rfm rt_ to_ rw_ wa ct rk rb cn br sm as_ go sh_ ir oa ob th ig sp_ ki tg of_ kp sf rs), (aI g fd 500 fb)] ++ he_pl g L ln (va_up (va_up M (r1 w) (upd (M (r1 w)) 0 r_24)) (r1 w) (upd ((va_up M (r1 w) (upd (M (r1 w)) 0 r_24)) (r1 w)) 1 r_33))) H := hP
              have hD : va_D A ([(aI g rt_ 25 rt), (aM g rw_ 6 (he_ro 6 r1)), (oX11 m0 tw ta (nI n) pl (nI k2_36) fb2_37 fw2_38 (cs + 1) fd rfm rt_ to_ rw_ wa ct rk rb cn br sm as_ go sh_ ir oa ob th ig sp_ ki tg of_ kp sf rs), (aI g fd 500 fb)] ++ he_pl g L ln (va_up (va_up M (r1 w) (upd (M (r1 w)) 0 r_24)) (r1 w) (upd ((va_up M (r1 w) (upd (M (r1 w)) 0 r_24)) (r1 w)) 1 r_33))) := hD
              refine lv_aload_n hx hb dX11_clause_180 rfl (lv_at hl 2 rfl) ?_
              refine va_get (v := .ref rt_) (T := TX11) (N := 35) hx hb hts inX11 hown hK hP 2 rfl rfl 10 (by decide) f20 (fun _ h9 => h9) rfl dX11_clause_181 ?_
              refine lv_iconst (v := 0) hx hb dX11_clause_184 (by decide) ?_
              refine lv_dup2_11 hx hb dX11_clause_185 rfl rfl ?_
              refine he_iald hx hb hK hP 0 rfl (0) (by decide) (by decide) (by first | decide | assumption) (nI w) hrt dX11_clause_186 ?_
              refine lv_iconst (v := 1) hx hb dX11_clause_187 (by decide) ?_
              refine lv_iadd hx hb dX11_clause_188 ?_
              refine he_top (nI (w + 1)) (nI_add w 1) ?_
              refine he_iast hx hb hK hP hD hS 0 rfl (0) (by decide) (by decide) (by first | decide | assumption) dX11_clause_189 (fun H locs hP hD hS => ?_)
              have hP : va_P g.1 vwCl ([(aI g rt_ 25 (upd rt 0 (nI (w + 1)))), (aM g rw_ 6 (he_ro 6 r1)), (oX11 m0 tw ta (nI n) pl (nI k2_36) fb2_37 fw2_38 (cs + 1) fd rfm rt_ to_ rw_ wa ct rk rb cn br sm as_ go sh_ ir oa ob th ig sp_ ki tg of_ kp sf rs), (aI g fd 500 fb)] ++ he_pl g L ln (va_up (va_up M (r1 w) (upd (M (r1 w)) 0 r_24)) (r1 w) (upd ((va_up M (r1 w) (upd (M (r1 w)) 0 r_24)) (r1 w)) 1 r_33))) H := hP
              have hD : va_D A ([(aI g rt_ 25 (upd rt 0 (nI (w + 1)))), (aM g rw_ 6 (he_ro 6 r1)), (oX11 m0 tw ta (nI n) pl (nI k2_36) fb2_37 fw2_38 (cs + 1) fd rfm rt_ to_ rw_ wa ct rk rb cn br sm as_ go sh_ ir oa ob th ig sp_ ki tg of_ kp sf rs), (aI g fd 500 fb)] ++ he_pl g L ln (va_up (va_up M (r1 w) (upd (M (r1 w)) 0 r_24)) (r1 w) (upd ((va_up M (r1 w) (upd (M (r1 w)) 0 r_24)) (r1 w)) 1 r_33))) := hD
              refine lv_goto (tgt := 393) hx hb dX11_clause_190 (by decide) ?_
              refine lv_aload_n hx hb dX11_clause_393 rfl (lv_at hl 2 rfl) ?_
              refine he_cv (wc := [(oX11 m0 tw ta (nI n) pl (nI k2_36) fb2_37 fw2_38 (cs + 1) fd rfm rt_ to_ rw_ wa ct rk rb cn br sm as_ go sh_ ir oa ob th ig sp_ ki tg of_ kp sf rs), (aI g fd 500 fb)]) (wr := ([(aI g rt_ 25 (upd rt 0 (nI (w + 1)))), (aM g rw_ 6 (he_ro 6 r1))] ++ (he_pl g L ln (va_up (va_up M (r1 w) (upd (M (r1 w)) 0 r_24)) (r1 w) (upd ((va_up M (r1 w) (upd (M (r1 w)) 0 r_24)) (r1 w)) 1 r_33))))) (va_runV (As := []) (rest := []) ⟨hx, hb, hml, hown, hts⟩ (h_X11_closes l g m0 fd rfm rt_ to_ rw_ wa rk rb cn br sm as_ go sh_ ki tg of_ kp rs ta pl (cs + 1) ct ir oa ob th ig sp_ sf tw n k2_36 fb2_37 fw2_38 fb (by first | assumption | decide | omega) (by first | assumption | decide | omega) H.size) (cwV 0 hts gX11_clause_X11_closes rfl rfl rfl (by decide +kernel) ⟨Nat.le_of_ble_eq_true rfl, Nat.le_of_ble_eq_true rfl⟩) (he_preV (wc := [(oX11 m0 tw ta (nI n) pl (nI k2_36) fb2_37 fw2_38 (cs + 1) fd rfm rt_ to_ rw_ wa ct rk rb cn br sm as_ go sh_ ir oa ob th ig sp_ ki tg of_ kp sf rs), (aI g fd 500 fb)]) hK hP hD hS hA hE [2, 3] rfl rfl 2 rfl rfl) rfl rfl hl.1 rfl (lv_room (Nat.le_of_ble_eq_true rfl)) dX11_clause_394 ⟨(Nat.le_of_ble_eq_true rfl), (Nat.le_of_ble_eq_true rfl)⟩) hP hD hS hA [2, 3] (he_is [0, 1] [(aI g rt_ 25 (upd rt 0 (nI (w + 1)))), (aM g rw_ 6 (he_ro 6 r1)), (oX11 m0 tw ta (nI n) pl (nI k2_36) fb2_37 fw2_38 (cs + 1) fd rfm rt_ to_ rw_ wa ct rk rb cn br sm as_ go sh_ ir oa ob th ig sp_ ki tg of_ kp sf rs), (aI g fd 500 fb)] (he_pl g L ln (va_up (va_up M (r1 w) (upd (M (r1 w)) 0 r_24)) (r1 w) (upd ((va_up M (r1 w) (upd (M (r1 w)) 0 r_24)) (r1 w)) 1 r_33)))) rfl (he_ixP rfl) (he_ndP rfl rfl) (he_disN (by decide) rfl) (fun u_43 H locs h_44 hP hD hS => ?_)
              have hP := va_P.swap hP
              have hD := va_D.swap hD
              obtain ⟨k2_45, fb2_46, fw2_47⟩ := u_43
              try dsimp only at h_44
              obtain ⟨hf_48, hf_49, hf_50⟩ := h_44
              have hP : va_P g.1 vwCl ([(aI g rt_ 25 (upd rt 0 (nI (w + 1)))), (aM g rw_ 6 (he_ro 6 r1)), (oX11 m0 tw ta (nI n) pl (nI k2_45) fb2_46 fw2_47 (cs + 1) fd rfm rt_ to_ rw_ wa ct rk rb cn br sm as_ go sh_ ir oa ob th ig sp_ ki tg of_ kp sf rs), (aI g fd 500 fb)] ++ he_pl g L ln (va_up (va_up M (r1 w) (upd (M (r1 w)) 0 r_24)) (r1 w) (upd ((va_up M (r1 w) (upd (M (r1 w)) 0 r_24)) (r1 w)) 1 r_33))) H := hP
              have hD : va_D A ([(aI g rt_ 25 (upd rt 0 (nI (w + 1)))), (aM g rw_ 6 (he_ro 6 r1)), (oX11 m0 tw ta (nI n) pl (nI k2_45) fb2_46 fw2_47 (cs + 1) fd rfm rt_ to_ rw_ wa ct rk rb cn br sm as_ go sh_ ir oa ob th ig sp_ ki tg of_ kp sf rs), (aI g fd 500 fb)] ++ he_pl g L ln (va_up (va_up M (r1 w) (upd (M (r1 w)) 0 r_24)) (r1 w) (upd ((va_up M (r1 w) (upd (M (r1 w)) 0 r_24)) (r1 w)) 1 r_33))) := hD
              have hP := he_Psub (X := [(aI g rt_ 25 (upd rt 0 (nI (w + 1)))), (aM g rw_ 6 (he_ro 6 r1)), (oX11 m0 tw ta (nI n) pl (nI k2_45) fb2_46 fw2_47 (cs + 1) fd rfm rt_ to_ rw_ wa ct rk rb cn br sm as_ go sh_ ir oa ob th ig sp_ ki tg of_ kp sf rs), (aI g fd 500 fb)]) (X2 := [(oX11 m0 tw ta (nI n) pl (nI k2_45) fb2_46 fw2_47 (cs + 1) fd rfm rt_ to_ rw_ wa ct rk rb cn br sm as_ go sh_ ir oa ob th ig sp_ ki tg of_ kp sf rs), (aI g fd 500 fb), (aI g rt_ 25 (upd rt 0 (nI (w + 1)))), (aM g rw_ 6 (he_ro 6 r1))]) (P := (he_pl g L ln (va_up (va_up M (r1 w) (upd (M (r1 w)) 0 r_24)) (r1 w) (upd ((va_up M (r1 w) (upd (M (r1 w)) 0 r_24)) (r1 w)) 1 r_33)))) hP [2, 3, 0, 1] rfl
              have hD := he_Dsub (X := [(aI g rt_ 25 (upd rt 0 (nI (w + 1)))), (aM g rw_ 6 (he_ro 6 r1)), (oX11 m0 tw ta (nI n) pl (nI k2_45) fb2_46 fw2_47 (cs + 1) fd rfm rt_ to_ rw_ wa ct rk rb cn br sm as_ go sh_ ir oa ob th ig sp_ ki tg of_ kp sf rs), (aI g fd 500 fb)]) (X2 := [(oX11 m0 tw ta (nI n) pl (nI k2_45) fb2_46 fw2_47 (cs + 1) fd rfm rt_ to_ rw_ wa ct rk rb cn br sm as_ go sh_ ir oa ob th ig sp_ ki tg of_ kp sf rs), (aI g fd 500 fb), (aI g rt_ 25 (upd rt 0 (nI (w + 1)))), (aM g rw_ 6 (he_ro 6 r1))]) (P := (he_pl g L ln (va_up (va_up M (r1 w) (upd (M (r1 w)) 0 r_24)) (r1 w) (upd ((va_up M (r1 w) (upd (M (r1 w)) 0 r_24)) (r1 w)) 1 r_33)))) hD [2, 3, 0, 1] rfl rfl rfl
              exact he_rv hQ hx hb hr hlk hP hD hS dX11_clause_397 (Nat.le_of_ble_eq_true rfl) (Nat.le_of_ble_eq_true rfl) ((k2_45, fb2_46, fw2_47, cs + 1, w + 1, upd rt 0 (nI (w + 1)), va_up (va_up M (r1 w) (upd (M (r1 w)) 0 r_24)) (r1 w) (upd ((va_up M (r1 w) (upd (M (r1 w)) 0 r_24)) (r1 w)) 1 r_33))) (rfl) (by (try dsimp only); exact ⟨by (try dsimp only); omega, by (try dsimp only); omega, (hf_50.imp_right (fun h9 => ⟨h9.1, by have := h9.2.2; omega⟩)), by (try dsimp only); omega, (by (try dsimp only); exact upd_s), (mEx_up (mEx_up (mEx_refl _ _ _) (by (try dsimp only); omega) _) (by (try dsimp only); omega) _)⟩)
            · exact absurd (by decide) c_17
          · have k_51 : w = 6 := (he_ceq (a := w) (b := 6) rfl (by decide) (by omega) (by omega)).mp c_15
            refine lv_aload_n hx hb dX11_clause_46 rfl (lv_at hl 1 rfl) ?_
            refine lv_iconst (v := 3) hx hb dX11_clause_47 (by decide) ?_
            refine lv_aload_n hx hb dX11_clause_48 rfl (lv_at hl 1 rfl) ?_
            refine va_get (v := .int (nI k2_4)) (T := TX11) (N := 35) hx hb hts inX11 hown hK hP 2 rfl rfl 4 (by decide) f94 (fun _ h9 => h9) rfl dX11_clause_49 ?_
            refine he_cv (wc := [(oX11 m0 tw ta (nI n) pl (nI k2_4) 0 fw cs fd rfm rt_ to_ rw_ wa ct rk rb cn br sm as_ go sh_ ir oa ob th ig sp_ ki tg of_ kp sf rs), (aI g fd 500 fb)]) (wr := ([(aI g rt_ 25 rt), (aM g rw_ 6 (he_ro 6 r1))] ++ (he_pl g L ln M))) (va_runV (As := [.int 3, .int (nI k2_4)]) (rest := []) ⟨hx, hb, hml, hown, hts⟩ (h_X11_wrong l g m0 fd rfm rt_ to_ rw_ wa rk rb cn br sm as_ go sh_ ki tg of_ kp rs ta pl cs ct ir oa ob th ig sp_ sf tw n k2_4 0 fw fb 3 (nI k2_4) H.size) (cwV 2 hts gX11_clause_X11_wrong rfl rfl rfl (by decide +kernel) ⟨Nat.le_of_ble_eq_true rfl, Nat.le_of_ble_eq_true rfl⟩) (he_preV (wc := [(oX11 m0 tw ta (nI n) pl (nI k2_4) 0 fw cs fd rfm rt_ to_ rw_ wa ct rk rb cn br sm as_ go sh_ ir oa ob th ig sp_ ki tg of_ kp sf rs), (aI g fd 500 fb)]) hK hP hD hS hA hE [2, 3] rfl rfl 2 rfl rfl) rfl rfl hl.1 rfl (lv_room (Nat.le_of_ble_eq_true rfl)) dX11_clause_52 ⟨(Nat.le_of_ble_eq_true rfl), (Nat.le_of_ble_eq_true rfl)⟩) hP hD hS hA [2, 3] (he_is [0, 1] [(aI g rt_ 25 rt), (aM g rw_ 6 (he_ro 6 r1)), (oX11 m0 tw ta (nI n) pl (nI k2_4) 0 fw cs fd rfm rt_ to_ rw_ wa ct rk rb cn br sm as_ go sh_ ir oa ob th ig sp_ ki tg of_ kp sf rs), (aI g fd 500 fb)] (he_pl g L ln M)) rfl (he_ixP rfl) (he_ndP rfl rfl) (he_disN (by decide) rfl) (fun u_53 H locs h_54 hP hD hS => ?_)
            have hP := va_P.swap hP
            have hD := va_D.swap hD
            have hP : va_P g.1 vwCl ([(aI g rt_ 25 rt), (aM g rw_ 6 (he_ro 6 r1)), (oX11 m0 tw ta (nI n) pl (nI k2_4) (wrF 0 3) (wrA 0 fw (nI k2_4)) cs fd rfm rt_ to_ rw_ wa ct rk rb cn br sm as_ go sh_ ir oa ob th ig sp_ ki tg of_ kp sf rs), (aI g fd 500 fb)] ++ he_pl g L ln M) H := hP
            have hD : va_D A ([(aI g rt_ 25 rt), (aM g rw_ 6 (he_ro 6 r1)), (oX11 m0 tw ta (nI n) pl (nI k2_4) (wrF 0 3) (wrA 0 fw (nI k2_4)) cs fd rfm rt_ to_ rw_ wa ct rk rb cn br sm as_ go sh_ ir oa ob th ig sp_ ki tg of_ kp sf rs), (aI g fd 500 fb)] ++ he_pl g L ln M) := hD
            refine lv_aload_n hx hb dX11_clause_55 rfl (lv_at hl 1 rfl) ?_
            refine va_get (v := .int (wrF 0 3)) (T := TX11) (N := 35) hx hb hts inX11 hown hK hP 2 rfl rfl 5 (by decide) f101 (fun _ h9 => h9) rfl dX11_clause_56 ?_
            refine lv_if_eq (tgt := 63) hx hb dX11_clause_59 (by decide) (fun c_55 => ?_) (fun c_55 => ?_)
            · exact absurd c_55 (by decide)
            · have hP := he_Psub (X := [(aI g rt_ 25 rt), (aM g rw_ 6 (he_ro 6 r1)), (oX11 m0 tw ta (nI n) pl (nI k2_4) (wrF 0 3) (wrA 0 fw (nI k2_4)) cs fd rfm rt_ to_ rw_ wa ct rk rb cn br sm as_ go sh_ ir oa ob th ig sp_ ki tg of_ kp sf rs), (aI g fd 500 fb)]) (X2 := [(oX11 m0 tw ta (nI n) pl (nI k2_4) (wrF 0 3) (wrA 0 fw (nI k2_4)) cs fd rfm rt_ to_ rw_ wa ct rk rb cn br sm as_ go sh_ ir oa ob th ig sp_ ki tg of_ kp sf rs), (aI g fd 500 fb), (aI g rt_ 25 rt), (aM g rw_ 6 (he_ro 6 r1))]) (P := (he_pl g L ln M)) hP [2, 3, 0, 1] rfl
              have hD := he_Dsub (X := [(aI g rt_ 25 rt), (aM g rw_ 6 (he_ro 6 r1)), (oX11 m0 tw ta (nI n) pl (nI k2_4) (wrF 0 3) (wrA 0 fw (nI k2_4)) cs fd rfm rt_ to_ rw_ wa ct rk rb cn br sm as_ go sh_ ir oa ob th ig sp_ ki tg of_ kp sf rs), (aI g fd 500 fb)]) (X2 := [(oX11 m0 tw ta (nI n) pl (nI k2_4) (wrF 0 3) (wrA 0 fw (nI k2_4)) cs fd rfm rt_ to_ rw_ wa ct rk rb cn br sm as_ go sh_ ir oa ob th ig sp_ ki tg of_ kp sf rs), (aI g fd 500 fb), (aI g rt_ 25 rt), (aM g rw_ 6 (he_ro 6 r1))]) (P := (he_pl g L ln M)) hD [2, 3, 0, 1] rfl rfl rfl
              exact he_rv hQ hx hb hr hlk hP hD hS dX11_clause_62 (Nat.le_of_ble_eq_true rfl) (Nat.le_of_ble_eq_true rfl) ((k2_4, wrF 0 3, wrA 0 fw (nI k2_4), cs, w, rt, M)) (rfl) (by (try dsimp only); exact ⟨by (try dsimp only); omega, by (try dsimp only); omega, (Or.inl (by (try dsimp only); decide)), by (try dsimp only); omega, hrt, (mEx_refl _ _ _)⟩)
    · exact absurd c_8 (by decide)
  · skip
    refine lv_istore_n (lv' := [(1, .int 1), (0, .ref m0)]) hx hb dX11_clause_4 rfl hl (by decide) rfl (fun ls hl => ?_)
    refine lv_iload_n hx hb dX11_clause_5 rfl (lv_at hl 0 rfl) ?_
    refine lv_iconst (v := (-1)) hx hb dX11_clause_6 (by decide) ?_
    refine lv_icmp_ne (tgt := 22) hx hb dX11_clause_7 (by decide) (fun c_56 => ?_) (fun c_56 => ?_)
    · refine lv_aload_n hx hb dX11_clause_22 rfl (lv_at hl 1 rfl) ?_
      refine va_get (v := .int cs) (T := TX11) (N := 35) hx hb hts inX11 hown hK hP 2 rfl rfl 7 (by decide) f131 (fun _ h9 => h9) rfl dX11_clause_23 ?_
      refine lv_bipush (v := 60) hx hb dX11_clause_26 (by decide) ?_
      refine lv_icmp_eq (tgt := 46) hx hb dX11_clause_28 (by decide) (fun c_57 => ?_) (fun c_57 => ?_)
      · refine lv_aload_n hx hb dX11_clause_46 rfl (lv_at hl 1 rfl) ?_
        refine lv_iconst (v := 3) hx hb dX11_clause_47 (by decide) ?_
        refine lv_aload_n hx hb dX11_clause_48 rfl (lv_at hl 1 rfl) ?_
        refine va_get (v := .int (nI k2_4)) (T := TX11) (N := 35) hx hb hts inX11 hown hK hP 2 rfl rfl 4 (by decide) f94 (fun _ h9 => h9) rfl dX11_clause_49 ?_
        refine he_cv (wc := [(oX11 m0 tw ta (nI n) pl (nI k2_4) 0 fw cs fd rfm rt_ to_ rw_ wa ct rk rb cn br sm as_ go sh_ ir oa ob th ig sp_ ki tg of_ kp sf rs), (aI g fd 500 fb)]) (wr := ([(aI g rt_ 25 rt), (aM g rw_ 6 (he_ro 6 r1))] ++ (he_pl g L ln M))) (va_runV (As := [.int 3, .int (nI k2_4)]) (rest := []) ⟨hx, hb, hml, hown, hts⟩ (h_X11_wrong l g m0 fd rfm rt_ to_ rw_ wa rk rb cn br sm as_ go sh_ ki tg of_ kp rs ta pl cs ct ir oa ob th ig sp_ sf tw n k2_4 0 fw fb 3 (nI k2_4) H.size) (cwV 2 hts gX11_clause_X11_wrong rfl rfl rfl (by decide +kernel) ⟨Nat.le_of_ble_eq_true rfl, Nat.le_of_ble_eq_true rfl⟩) (he_preV (wc := [(oX11 m0 tw ta (nI n) pl (nI k2_4) 0 fw cs fd rfm rt_ to_ rw_ wa ct rk rb cn br sm as_ go sh_ ir oa ob th ig sp_ ki tg of_ kp sf rs), (aI g fd 500 fb)]) hK hP hD hS hA hE [2, 3] rfl rfl 2 rfl rfl) rfl rfl hl.1 rfl (lv_room (Nat.le_of_ble_eq_true rfl)) dX11_clause_52 ⟨(Nat.le_of_ble_eq_true rfl), (Nat.le_of_ble_eq_true rfl)⟩) hP hD hS hA [2, 3] (he_is [0, 1] [(aI g rt_ 25 rt), (aM g rw_ 6 (he_ro 6 r1)), (oX11 m0 tw ta (nI n) pl (nI k2_4) 0 fw cs fd rfm rt_ to_ rw_ wa ct rk rb cn br sm as_ go sh_ ir oa ob th ig sp_ ki tg of_ kp sf rs), (aI g fd 500 fb)] (he_pl g L ln M)) rfl (he_ixP rfl) (he_ndP rfl rfl) (he_disN (by decide) rfl) (fun u_59 H locs h_60 hP hD hS => ?_)
        have hP := va_P.swap hP
        have hD := va_D.swap hD
        have hP : va_P g.1 vwCl ([(aI g rt_ 25 rt), (aM g rw_ 6 (he_ro 6 r1)), (oX11 m0 tw ta (nI n) pl (nI k2_4) (wrF 0 3) (wrA 0 fw (nI k2_4)) cs fd rfm rt_ to_ rw_ wa ct rk rb cn br sm as_ go sh_ ir oa ob th ig sp_ ki tg of_ kp sf rs), (aI g fd 500 fb)] ++ he_pl g L ln M) H := hP
        have hD : va_D A ([(aI g rt_ 25 rt), (aM g rw_ 6 (he_ro 6 r1)), (oX11 m0 tw ta (nI n) pl (nI k2_4) (wrF 0 3) (wrA 0 fw (nI k2_4)) cs fd rfm rt_ to_ rw_ wa ct rk rb cn br sm as_ go sh_ ir oa ob th ig sp_ ki tg of_ kp sf rs), (aI g fd 500 fb)] ++ he_pl g L ln M) := hD
        refine lv_aload_n hx hb dX11_clause_55 rfl (lv_at hl 1 rfl) ?_
        refine va_get (v := .int (wrF 0 3)) (T := TX11) (N := 35) hx hb hts inX11 hown hK hP 2 rfl rfl 5 (by decide) f101 (fun _ h9 => h9) rfl dX11_clause_56 ?_
        refine lv_if_eq (tgt := 63) hx hb dX11_clause_59 (by decide) (fun c_61 => ?_) (fun c_61 => ?_)
        · exact absurd c_61 (by decide)
        · have hP := he_Psub (X := [(aI g rt_ 25 rt), (aM g rw_ 6 (he_ro 6 r1)), (oX11 m0 tw ta (nI n) pl (nI k2_4) (wrF 0 3) (wrA 0 fw (nI k2_4)) cs fd rfm rt_ to_ rw_ wa ct rk rb cn br sm as_ go sh_ ir oa ob th ig sp_ ki tg of_ kp sf rs), (aI g fd 500 fb)]) (X2 := [(oX11 m0 tw ta (nI n) pl (nI k2_4) (wrF 0 3) (wrA 0 fw (nI k2_4)) cs fd rfm rt_ to_ rw_ wa ct rk rb cn br sm as_ go sh_ ir oa ob th ig sp_ ki tg of_ kp sf rs), (aI g fd 500 fb), (aI g rt_ 25 rt), (aM g rw_ 6 (he_ro 6 r1))]) (P := (he_pl g L ln M)) hP [2, 3, 0, 1] rfl
          have hD := he_Dsub (X := [(aI g rt_ 25 rt), (aM g rw_ 6 (he_ro 6 r1)), (oX11 m0 tw ta (nI n) pl (nI k2_4) (wrF 0 3) (wrA 0 fw (nI k2_4)) cs fd rfm rt_ to_ rw_ wa ct rk rb cn br sm as_ go sh_ ir oa ob th ig sp_ ki tg of_ kp sf rs), (aI g fd 500 fb)]) (X2 := [(oX11 m0 tw ta (nI n) pl (nI k2_4) (wrF 0 3) (wrA 0 fw (nI k2_4)) cs fd rfm rt_ to_ rw_ wa ct rk rb cn br sm as_ go sh_ ir oa ob th ig sp_ ki tg of_ kp sf rs), (aI g fd 500 fb), (aI g rt_ 25 rt), (aM g rw_ 6 (he_ro 6 r1))]) (P := (he_pl g L ln M)) hD [2, 3, 0, 1] rfl rfl rfl
          exact he_rv hQ hx hb hr hlk hP hD hS dX11_clause_62 (Nat.le_of_ble_eq_true rfl) (Nat.le_of_ble_eq_true rfl) ((k2_4, wrF 0 3, wrA 0 fw (nI k2_4), cs, w, rt, M)) (rfl) (by (try dsimp only); exact ⟨by (try dsimp only); omega, by (try dsimp only); omega, (Or.inl (by (try dsimp only); decide)), by (try dsimp only); omega, hrt, (mEx_refl _ _ _)⟩)
      · refine lv_iload_n hx hb dX11_clause_31 rfl (lv_at hl 0 rfl) ?_
        refine lv_if_ne (tgt := 55) hx hb dX11_clause_32 (by decide) (fun c_62 => ?_) (fun c_62 => ?_)
        · refine lv_aload_n hx hb dX11_clause_55 rfl (lv_at hl 1 rfl) ?_
          refine va_get (v := .int 0) (T := TX11) (N := 35) hx hb hts inX11 hown hK hP 2 rfl rfl 5 (by decide) f101 (fun _ h9 => h9) rfl dX11_clause_56 ?_
          refine lv_if_eq (tgt := 63) hx hb dX11_clause_59 (by decide) (fun c_63 => ?_) (fun c_63 => ?_)
          · refine lv_aload_n hx hb dX11_clause_63 rfl (lv_at hl 1 rfl) ?_
            refine he_cv (wc := [(oX11 m0 tw ta (nI n) pl (nI k2_4) 0 fw cs fd rfm rt_ to_ rw_ wa ct rk rb cn br sm as_ go sh_ ir oa ob th ig sp_ ki tg of_ kp sf rs), (aI g fd 500 fb)]) (wr := ([(aI g rt_ 25 rt), (aM g rw_ 6 (he_ro 6 r1))] ++ (he_pl g L ln M))) (va_runV (As := []) (rest := []) ⟨hx, hb, hml, hown, hts⟩ (h_X11_skipWord l g m0 fd rfm rt_ to_ rw_ wa rk rb cn br sm as_ go sh_ ki tg of_ kp rs ta pl cs ct ir oa ob th ig sp_ sf tw n k2_4 0 fw fb (by first | assumption | decide | omega) (by first | assumption | decide | omega) H.size) (cwV 0 hts gX11_clause_X11_skipWord rfl rfl rfl (by decide +kernel) ⟨Nat.le_of_ble_eq_true rfl, Nat.le_of_ble_eq_true rfl⟩) (he_preV (wc := [(oX11 m0 tw ta (nI n) pl (nI k2_4) 0 fw cs fd rfm rt_ to_ rw_ wa ct rk rb cn br sm as_ go sh_ ir oa ob th ig sp_ ki tg of_ kp sf rs), (aI g fd 500 fb)]) hK hP hD hS hA hE [2, 3] rfl rfl 2 rfl rfl) rfl rfl hl.1 rfl (lv_room (Nat.le_of_ble_eq_true rfl)) dX11_clause_64 ⟨(Nat.le_of_ble_eq_true rfl), (Nat.le_of_ble_eq_true rfl)⟩) hP hD hS hA [2, 3] (he_is [0, 1] [(aI g rt_ 25 rt), (aM g rw_ 6 (he_ro 6 r1)), (oX11 m0 tw ta (nI n) pl (nI k2_4) 0 fw cs fd rfm rt_ to_ rw_ wa ct rk rb cn br sm as_ go sh_ ir oa ob th ig sp_ ki tg of_ kp sf rs), (aI g fd 500 fb)] (he_pl g L ln M)) rfl (he_ixP rfl) (he_ndP rfl rfl) (he_disN (by decide) rfl) (fun u_65 H locs h_66 hP hD hS => ?_)
            have hP := va_P.swap hP
            have hD := va_D.swap hD
            obtain ⟨k2_67, rfl⟩ : ∃ z, z = u_65 := ⟨_, rfl⟩
            try dsimp only at h_66
            obtain ⟨hf_68, hf_69⟩ := h_66
            have hP : va_P g.1 vwCl ([(aI g rt_ 25 rt), (aM g rw_ 6 (he_ro 6 r1)), (oX11 m0 tw ta (nI n) pl (nI k2_67) 0 fw cs fd rfm rt_ to_ rw_ wa ct rk rb cn br sm as_ go sh_ ir oa ob th ig sp_ ki tg of_ kp sf rs), (aI g fd 500 fb)] ++ he_pl g L ln M) H := hP
            have hD : va_D A ([(aI g rt_ 25 rt), (aM g rw_ 6 (he_ro 6 r1)), (oX11 m0 tw ta (nI n) pl (nI k2_67) 0 fw cs fd rfm rt_ to_ rw_ wa ct rk rb cn br sm as_ go sh_ ir oa ob th ig sp_ ki tg of_ kp sf rs), (aI g fd 500 fb)] ++ he_pl g L ln M) := hD
            refine lv_aload_n hx hb dX11_clause_67 rfl (lv_at hl 1 rfl) ?_
            refine lv_dup hx hb dX11_clause_68 rfl ?_
            refine va_get (v := .int cs) (T := TX11) (N := 35) hx hb hts inX11 hown hK hP 2 rfl rfl 7 (by decide) f131 (fun _ h9 => h9) rfl dX11_clause_69 ?_
            refine lv_iconst (v := 1) hx hb dX11_clause_72 (by decide) ?_
            refine lv_iadd hx hb dX11_clause_73 ?_
            refine va_put (v := .int (cs + 1)) (ty := .int) (T := TX11) (N := 35) hx hb hts inX11 tyX11 tyX11_ok nmX11 hown hK hP hD hS 2 rfl rfl 7 (by decide) f131 (fun _ h9 => h9) rfl (by decide +kernel) rfl rfl (Nat.le_of_ble_eq_true rfl) dX11_clause_74 (fun H locs hP hD hS => ?_)
            have hP : va_P g.1 vwCl ([(aI g rt_ 25 rt), (aM g rw_ 6 (he_ro 6 r1)), (oX11 m0 tw ta (nI n) pl (nI k2_67) 0 fw (cs + 1) fd rfm rt_ to_ rw_ wa ct rk rb cn br sm as_ go sh_ ir oa ob th ig sp_ ki tg of_ kp sf rs), (aI g fd 500 fb)] ++ he_pl g L ln M) H := hP
            have hD : va_D A ([(aI g rt_ 25 rt), (aM g rw_ 6 (he_ro 6 r1)), (oX11 m0 tw ta (nI n) pl (nI k2_67) 0 fw (cs + 1) fd rfm rt_ to_ rw_ wa ct rk rb cn br sm as_ go sh_ ir oa ob th ig sp_ ki tg of_ kp sf rs), (aI g fd 500 fb)] ++ he_pl g L ln M) := hD
            refine lv_iload_n hx hb dX11_clause_77 rfl (lv_at hl 0 rfl) ?_
            refine lv_tableIn (tgt := 193) hx hb dX11_clause_78 (by decide) (by decide) rfl (by decide) ?_
            refine lv_aload_n hx hb dX11_clause_193 rfl (lv_at hl 1 rfl) ?_
            refine va_get (v := .ref rt_) (T := TX11) (N := 35) hx hb hts inX11 hown hK hP 2 rfl rfl 10 (by decide) f20 (fun _ h9 => h9) rfl dX11_clause_194 ?_
            refine lv_iload_n hx hb dX11_clause_197 rfl (lv_at hl 0 rfl) ?_
            refine lv_aload_n hx hb dX11_clause_198 rfl (lv_at hl 1 rfl) ?_
            refine lv_iconst (v := 0) hx hb dX11_clause_199 (by decide) ?_
            refine lv_sipush (v := 9999) hx hb dX11_clause_200 (by decide) ?_
            refine he_ci (wc := [(oX11 m0 tw ta (nI n) pl (nI k2_67) 0 fw (cs + 1) fd rfm rt_ to_ rw_ wa ct rk rb cn br sm as_ go sh_ ir oa ob th ig sp_ ki tg of_ kp sf rs), (aI g fd 500 fb)]) (wr := ([(aI g rt_ 25 rt), (aM g rw_ 6 (he_ro 6 r1))] ++ (he_pl g L ln M))) (va_runV (As := [.int 0, .int 9999]) (rest := [.int 1, .ref rt_]) ⟨hx, hb, hml, hown, hts⟩ (h_X11_number l g m0 fd rfm rt_ to_ rw_ wa rk rb cn br sm as_ go sh_ ki tg of_ kp rs ta pl (cs + 1) ct ir oa ob th ig sp_ sf tw n k2_67 0 fw fb 0 9999 (by first | assumption | decide | omega) (by first | assumption | decide | omega) H.size) (cwV 2 hts gX11_clause_X11_number rfl rfl rfl (by decide +kernel) ⟨Nat.le_of_ble_eq_true rfl, Nat.le_of_ble_eq_true rfl⟩) (he_preV (wc := [(oX11 m0 tw ta (nI n) pl (nI k2_67) 0 fw (cs + 1) fd rfm rt_ to_ rw_ wa ct rk rb cn br sm as_ go sh_ ir oa ob th ig sp_ ki tg of_ kp sf rs), (aI g fd 500 fb)]) hK hP hD hS hA hE [2, 3] rfl rfl 2 rfl rfl) rfl rfl hl.1 rfl (lv_room (Nat.le_of_ble_eq_true rfl)) dX11_clause_203 ⟨(Nat.le_of_ble_eq_true rfl), (Nat.le_of_ble_eq_true rfl)⟩) hP hD hS hA [2, 3] (he_is [0, 1] [(aI g rt_ 25 rt), (aM g rw_ 6 (he_ro 6 r1)), (oX11 m0 tw ta (nI n) pl (nI k2_67) 0 fw (cs + 1) fd rfm rt_ to_ rw_ wa ct rk rb cn br sm as_ go sh_ ir oa ob th ig sp_ ki tg of_ kp sf rs), (aI g fd 500 fb)] (he_pl g L ln M)) rfl (he_ixP rfl) (he_ndP rfl rfl) (he_disN (by decide) rfl) (fun r_70 u_71 H locs h_72 hP hD hS => ?_)
            have hP := va_P.swap hP
            have hD := va_D.swap hD
            obtain ⟨k2_73, fb2_74, fw2_75⟩ := u_71
            try dsimp only at h_72
            obtain ⟨hf_76, hf_77, hf_78⟩ := h_72
            have hP : va_P g.1 vwCl ([(aI g rt_ 25 rt), (aM g rw_ 6 (he_ro 6 r1)), (oX11 m0 tw ta (nI n) pl (nI k2_73) fb2_74 fw2_75 (cs + 1) fd rfm rt_ to_ rw_ wa ct rk rb cn br sm as_ go sh_ ir oa ob th ig sp_ ki tg of_ kp sf rs), (aI g fd 500 fb)] ++ he_pl g L ln M) H := hP
            have hD : va_D A ([(aI g rt_ 25 rt), (aM g rw_ 6 (he_ro 6 r1)), (oX11 m0 tw ta (nI n) pl (nI k2_73) fb2_74 fw2_75 (cs + 1) fd rfm rt_ to_ rw_ wa ct rk rb cn br sm as_ go sh_ ir oa ob th ig sp_ ki tg of_ kp sf rs), (aI g fd 500 fb)] ++ he_pl g L ln M) := hD
            refine he_iast hx hb hK hP hD hS 0 rfl (1) (by decide) (by decide) (by first | decide | assumption) dX11_clause_206 (fun H locs hP hD hS => ?_)
            have hP : va_P g.1 vwCl ([(aI g rt_ 25 (upd rt 1 r_70)), (aM g rw_ 6 (he_ro 6 r1)), (oX11 m0 tw ta (nI n) pl (nI k2_73) fb2_74 fw2_75 (cs + 1) fd rfm rt_ to_ rw_ wa ct rk rb cn br sm as_ go sh_ ir oa ob th ig sp_ ki tg of_ kp sf rs), (aI g fd 500 fb)] ++ he_pl g L ln M) H := hP
            have hD : va_D A ([(aI g rt_ 25 (upd rt 1 r_70)), (aM g rw_ 6 (he_ro 6 r1)), (oX11 m0 tw ta (nI n) pl (nI k2_73) fb2_74 fw2_75 (cs + 1) fd rfm rt_ to_ rw_ wa ct rk rb cn br sm as_ go sh_ ir oa ob th ig sp_ ki tg of_ kp sf rs), (aI g fd 500 fb)] ++ he_pl g L ln M) := hD
            refine lv_aload_n hx hb dX11_clause_207 rfl (lv_at hl 1 rfl) ?_
            refine va_get (v := .ref rt_) (T := TX11) (N := 35) hx hb hts inX11 hown hK hP 2 rfl rfl 10 (by decide) f20 (fun _ h9 => h9) rfl dX11_clause_208 ?_
            refine lv_iload_n hx hb dX11_clause_211 rfl (lv_at hl 0 rfl) ?_
            refine lv_iconst (v := 1) hx hb dX11_clause_212 (by decide) ?_
            refine lv_iadd hx hb dX11_clause_213 ?_
            refine he_top (2) (by decide) ?_
            refine lv_aload_n hx hb dX11_clause_214 rfl (lv_at hl 1 rfl) ?_
            refine lv_iconst (v := 0) hx hb dX11_clause_215 (by decide) ?_
            refine lv_sipush (v := 999) hx hb dX11_clause_216 (by decide) ?_
            refine he_ci (wc := [(oX11 m0 tw ta (nI n) pl (nI k2_73) fb2_74 fw2_75 (cs + 1) fd rfm rt_ to_ rw_ wa ct rk rb cn br sm as_ go sh_ ir oa ob th ig sp_ ki tg of_ kp sf rs), (aI g fd 500 fb)]) (wr := ([(aI g rt_ 25 (upd rt 1 r_70)), (aM g rw_ 6 (he_ro 6 r1))] ++ (he_pl g L ln M))) (va_runV (As := [.int 0, .int 999]) (rest := [.int 2, .ref rt_]) ⟨hx, hb, hml, hown, hts⟩ (h_X11_number l g m0 fd rfm rt_ to_ rw_ wa rk rb cn br sm as_ go sh_ ki tg of_ kp rs ta pl (cs + 1) ct ir oa ob th ig sp_ sf tw n k2_73 fb2_74 fw2_75 fb 0 999 (by first | assumption | decide | omega) (by first | assumption | decide | omega) H.size) (cwV 2 hts gX11_clause_X11_number rfl rfl rfl (by decide +kernel) ⟨Nat.le_of_ble_eq_true rfl, Nat.le_of_ble_eq_true rfl⟩) (he_preV (wc := [(oX11 m0 tw ta (nI n) pl (nI k2_73) fb2_74 fw2_75 (cs + 1) fd rfm rt_ to_ rw_ wa ct rk rb cn br sm as_ go sh_ ir oa ob th ig sp_ ki tg of_ kp sf rs), (aI g fd 500 fb)]) hK hP hD hS hA hE [2, 3] rfl rfl 2 rfl rfl) rfl rfl hl.1 rfl (lv_room (Nat.le_of_ble_eq_true rfl)) dX11_clause_219 ⟨(Nat.le_of_ble_eq_true rfl), (Nat.le_of_ble_eq_true rfl)⟩) hP hD hS hA [2, 3] (he_is [0, 1] [(aI g rt_ 25 (upd rt 1 r_70)), (aM g rw_ 6 (he_ro 6 r1)), (oX11 m0 tw ta (nI n) pl (nI k2_73) fb2_74 fw2_75 (cs + 1) fd rfm rt_ to_ rw_ wa ct rk rb cn br sm as_ go sh_ ir oa ob th ig sp_ ki tg of_ kp sf rs), (aI g fd 500 fb)] (he_pl g L ln M)) rfl (he_ixP rfl) (he_ndP rfl rfl) (he_disN (by decide) rfl) (fun r_79 u_80 H locs h_81 hP hD hS => ?_)
            have hP := va_P.swap hP
            have hD := va_D.swap hD
            obtain ⟨k2_82, fb2_83, fw2_84⟩ := u_80
            try dsimp only at h_81
            obtain ⟨hf_85, hf_86, hf_87⟩ := h_81
            have hP : va_P g.1 vwCl ([(aI g rt_ 25 (upd rt 1 r_70)), (aM g rw_ 6 (he_ro 6 r1)), (oX11 m0 tw ta (nI n) pl (nI k2_82) fb2_83 fw2_84 (cs + 1) fd rfm rt_ to_ rw_ wa ct rk rb cn br sm as_ go sh_ ir oa ob th ig sp_ ki tg of_ kp sf rs), (aI g fd 500 fb)] ++ he_pl g L ln M) H := hP
            have hD : va_D A ([(aI g rt_ 25 (upd rt 1 r_70)), (aM g rw_ 6 (he_ro 6 r1)), (oX11 m0 tw ta (nI n) pl (nI k2_82) fb2_83 fw2_84 (cs + 1) fd rfm rt_ to_ rw_ wa ct rk rb cn br sm as_ go sh_ ir oa ob th ig sp_ ki tg of_ kp sf rs), (aI g fd 500 fb)] ++ he_pl g L ln M) := hD
            refine he_iast hx hb hK hP hD hS 0 rfl (2) (by decide) (by decide) (by first | decide | assumption) dX11_clause_222 (fun H locs hP hD hS => ?_)
            have hP : va_P g.1 vwCl ([(aI g rt_ 25 (upd (upd rt 1 r_70) 2 r_79)), (aM g rw_ 6 (he_ro 6 r1)), (oX11 m0 tw ta (nI n) pl (nI k2_82) fb2_83 fw2_84 (cs + 1) fd rfm rt_ to_ rw_ wa ct rk rb cn br sm as_ go sh_ ir oa ob th ig sp_ ki tg of_ kp sf rs), (aI g fd 500 fb)] ++ he_pl g L ln M) H := hP
            have hD : va_D A ([(aI g rt_ 25 (upd (upd rt 1 r_70) 2 r_79)), (aM g rw_ 6 (he_ro 6 r1)), (oX11 m0 tw ta (nI n) pl (nI k2_82) fb2_83 fw2_84 (cs + 1) fd rfm rt_ to_ rw_ wa ct rk rb cn br sm as_ go sh_ ir oa ob th ig sp_ ki tg of_ kp sf rs), (aI g fd 500 fb)] ++ he_pl g L ln M) := hD
            refine lv_aload_n hx hb dX11_clause_223 rfl (lv_at hl 1 rfl) ?_
            refine va_get (v := .ref rt_) (T := TX11) (N := 35) hx hb hts inX11 hown hK hP 2 rfl rfl 10 (by decide) f20 (fun _ h9 => h9) rfl dX11_clause_224 ?_
            refine lv_iload_n hx hb dX11_clause_227 rfl (lv_at hl 0 rfl) ?_
            refine lv_iconst (v := 2) hx hb dX11_clause_228 (by decide) ?_
            refine lv_iadd hx hb dX11_clause_229 ?_
            refine he_top (3) (by decide) ?_
            refine lv_aload_n hx hb dX11_clause_230 rfl (lv_at hl 1 rfl) ?_
            refine lv_iconst (v := 0) hx hb dX11_clause_231 (by decide) ?_
            refine lv_bipush (v := 9) hx hb dX11_clause_232 (by decide) ?_
            refine he_ci (wc := [(oX11 m0 tw ta (nI n) pl (nI k2_82) fb2_83 fw2_84 (cs + 1) fd rfm rt_ to_ rw_ wa ct rk rb cn br sm as_ go sh_ ir oa ob th ig sp_ ki tg of_ kp sf rs), (aI g fd 500 fb)]) (wr := ([(aI g rt_ 25 (upd (upd rt 1 r_70) 2 r_79)), (aM g rw_ 6 (he_ro 6 r1))] ++ (he_pl g L ln M))) (va_runV (As := [.int 0, .int 9]) (rest := [.int 3, .ref rt_]) ⟨hx, hb, hml, hown, hts⟩ (h_X11_number l g m0 fd rfm rt_ to_ rw_ wa rk rb cn br sm as_ go sh_ ki tg of_ kp rs ta pl (cs + 1) ct ir oa ob th ig sp_ sf tw n k2_82 fb2_83 fw2_84 fb 0 9 (by first | assumption | decide | omega) (by first | assumption | decide | omega) H.size) (cwV 2 hts gX11_clause_X11_number rfl rfl rfl (by decide +kernel) ⟨Nat.le_of_ble_eq_true rfl, Nat.le_of_ble_eq_true rfl⟩) (he_preV (wc := [(oX11 m0 tw ta (nI n) pl (nI k2_82) fb2_83 fw2_84 (cs + 1) fd rfm rt_ to_ rw_ wa ct rk rb cn br sm as_ go sh_ ir oa ob th ig sp_ ki tg of_ kp sf rs), (aI g fd 500 fb)]) hK hP hD hS hA hE [2, 3] rfl rfl 2 rfl rfl) rfl rfl hl.1 rfl (lv_room (Nat.le_of_ble_eq_true rfl)) dX11_clause_234 ⟨(Nat.le_of_ble_eq_true rfl), (Nat.le_of_ble_eq_true rfl)⟩) hP hD hS hA [2, 3] (he_is [0, 1] [(aI g rt_ 25 (upd (upd rt 1 r_70) 2 r_79)), (aM g rw_ 6 (he_ro 6 r1)), (oX11 m0 tw ta (nI n) pl (nI k2_82) fb2_83 fw2_84 (cs + 1) fd rfm rt_ to_ rw_ wa ct rk rb cn br sm as_ go sh_ ir oa ob th ig sp_ ki tg of_ kp sf rs), (aI g fd 500 fb)] (he_pl g L ln M)) rfl (he_ixP rfl) (he_ndP rfl rfl) (he_disN (by decide) rfl) (fun r_88 u_89 H locs h_90 hP hD hS => ?_)
            have hP := va_P.swap hP
            have hD := va_D.swap hD
            obtain ⟨k2_91, fb2_92, fw2_93⟩ := u_89
            try dsimp only at h_90
            obtain ⟨hf_94, hf_95, hf_96⟩ := h_90
            have hP : va_P g.1 vwCl ([(aI g rt_ 25 (upd (upd rt 1 r_70) 2 r_79)), (aM g rw_ 6 (he_ro 6 r1)), (oX11 m0 tw ta (nI n) pl (nI k2_91) fb2_92 fw2_93 (cs + 1) fd rfm rt_ to_ rw_ wa ct rk rb cn br sm as_ go sh_ ir oa ob th ig sp_ ki tg of_ kp sf rs), (aI g fd 500 fb)] ++ he_pl g L ln M) H := hP
            have hD : va_D A ([(aI g rt_ 25 (upd (upd rt 1 r_70) 2 r_79)), (aM g rw_ 6 (he_ro 6 r1)), (oX11 m0 tw ta (nI n) pl (nI k2_91) fb2_92 fw2_93 (cs + 1) fd rfm rt_ to_ rw_ wa ct rk rb cn br sm as_ go sh_ ir oa ob th ig sp_ ki tg of_ kp sf rs), (aI g fd 500 fb)] ++ he_pl g L ln M) := hD
            refine he_iast hx hb hK hP hD hS 0 rfl (3) (by decide) (by decide) (by first | decide | assumption) dX11_clause_237 (fun H locs hP hD hS => ?_)
            have hP : va_P g.1 vwCl ([(aI g rt_ 25 (upd (upd (upd rt 1 r_70) 2 r_79) 3 r_88)), (aM g rw_ 6 (he_ro 6 r1)), (oX11 m0 tw ta (nI n) pl (nI k2_91) fb2_92 fw2_93 (cs + 1) fd rfm rt_ to_ rw_ wa ct rk rb cn br sm as_ go sh_ ir oa ob th ig sp_ ki tg of_ kp sf rs), (aI g fd 500 fb)] ++ he_pl g L ln M) H := hP
            have hD : va_D A ([(aI g rt_ 25 (upd (upd (upd rt 1 r_70) 2 r_79) 3 r_88)), (aM g rw_ 6 (he_ro 6 r1)), (oX11 m0 tw ta (nI n) pl (nI k2_91) fb2_92 fw2_93 (cs + 1) fd rfm rt_ to_ rw_ wa ct rk rb cn br sm as_ go sh_ ir oa ob th ig sp_ ki tg of_ kp sf rs), (aI g fd 500 fb)] ++ he_pl g L ln M) := hD
            refine lv_goto (tgt := 393) hx hb dX11_clause_238 (by decide) ?_
            refine lv_aload_n hx hb dX11_clause_393 rfl (lv_at hl 1 rfl) ?_
            refine he_cv (wc := [(oX11 m0 tw ta (nI n) pl (nI k2_91) fb2_92 fw2_93 (cs + 1) fd rfm rt_ to_ rw_ wa ct rk rb cn br sm as_ go sh_ ir oa ob th ig sp_ ki tg of_ kp sf rs), (aI g fd 500 fb)]) (wr := ([(aI g rt_ 25 (upd (upd (upd rt 1 r_70) 2 r_79) 3 r_88)), (aM g rw_ 6 (he_ro 6 r1))] ++ (he_pl g L ln M))) (va_runV (As := []) (rest := []) ⟨hx, hb, hml, hown, hts⟩ (h_X11_closes l g m0 fd rfm rt_ to_ rw_ wa rk rb cn br sm as_ go sh_ ki tg of_ kp rs ta pl (cs + 1) ct ir oa ob th ig sp_ sf tw n k2_91 fb2_92 fw2_93 fb (by first | assumption | decide | omega) (by first | assumption | decide | omega) H.size) (cwV 0 hts gX11_clause_X11_closes rfl rfl rfl (by decide +kernel) ⟨Nat.le_of_ble_eq_true rfl, Nat.le_of_ble_eq_true rfl⟩) (he_preV (wc := [(oX11 m0 tw ta (nI n) pl (nI k2_91) fb2_92 fw2_93 (cs + 1) fd rfm rt_ to_ rw_ wa ct rk rb cn br sm as_ go sh_ ir oa ob th ig sp_ ki tg of_ kp sf rs), (aI g fd 500 fb)]) hK hP hD hS hA hE [2, 3] rfl rfl 2 rfl rfl) rfl rfl hl.1 rfl (lv_room (Nat.le_of_ble_eq_true rfl)) dX11_clause_394 ⟨(Nat.le_of_ble_eq_true rfl), (Nat.le_of_ble_eq_true rfl)⟩) hP hD hS hA [2, 3] (he_is [0, 1] [(aI g rt_ 25 (upd (upd (upd rt 1 r_70) 2 r_79) 3 r_88)), (aM g rw_ 6 (he_ro 6 r1)), (oX11 m0 tw ta (nI n) pl (nI k2_91) fb2_92 fw2_93 (cs + 1) fd rfm rt_ to_ rw_ wa ct rk rb cn br sm as_ go sh_ ir oa ob th ig sp_ ki tg of_ kp sf rs), (aI g fd 500 fb)] (he_pl g L ln M)) rfl (he_ixP rfl) (he_ndP rfl rfl) (he_disN (by decide) rfl) (fun u_98 H locs h_99 hP hD hS => ?_)
            have hP := va_P.swap hP
            have hD := va_D.swap hD
            obtain ⟨k2_100, fb2_101, fw2_102⟩ := u_98
            try dsimp only at h_99
            obtain ⟨hf_103, hf_104, hf_105⟩ := h_99
            have hP : va_P g.1 vwCl ([(aI g rt_ 25 (upd (upd (upd rt 1 r_70) 2 r_79) 3 r_88)), (aM g rw_ 6 (he_ro 6 r1)), (oX11 m0 tw ta (nI n) pl (nI k2_100) fb2_101 fw2_102 (cs + 1) fd rfm rt_ to_ rw_ wa ct rk rb cn br sm as_ go sh_ ir oa ob th ig sp_ ki tg of_ kp sf rs), (aI g fd 500 fb)] ++ he_pl g L ln M) H := hP
            have hD : va_D A ([(aI g rt_ 25 (upd (upd (upd rt 1 r_70) 2 r_79) 3 r_88)), (aM g rw_ 6 (he_ro 6 r1)), (oX11 m0 tw ta (nI n) pl (nI k2_100) fb2_101 fw2_102 (cs + 1) fd rfm rt_ to_ rw_ wa ct rk rb cn br sm as_ go sh_ ir oa ob th ig sp_ ki tg of_ kp sf rs), (aI g fd 500 fb)] ++ he_pl g L ln M) := hD
            have hP := he_Psub (X := [(aI g rt_ 25 (upd (upd (upd rt 1 r_70) 2 r_79) 3 r_88)), (aM g rw_ 6 (he_ro 6 r1)), (oX11 m0 tw ta (nI n) pl (nI k2_100) fb2_101 fw2_102 (cs + 1) fd rfm rt_ to_ rw_ wa ct rk rb cn br sm as_ go sh_ ir oa ob th ig sp_ ki tg of_ kp sf rs), (aI g fd 500 fb)]) (X2 := [(oX11 m0 tw ta (nI n) pl (nI k2_100) fb2_101 fw2_102 (cs + 1) fd rfm rt_ to_ rw_ wa ct rk rb cn br sm as_ go sh_ ir oa ob th ig sp_ ki tg of_ kp sf rs), (aI g fd 500 fb), (aI g rt_ 25 (upd (upd (upd rt 1 r_70) 2 r_79) 3 r_88)), (aM g rw_ 6 (he_ro 6 r1))]) (P := (he_pl g L ln M)) hP [2, 3, 0, 1] rfl
            have hD := he_Dsub (X := [(aI g rt_ 25 (upd (upd (upd rt 1 r_70) 2 r_79) 3 r_88)), (aM g rw_ 6 (he_ro 6 r1)), (oX11 m0 tw ta (nI n) pl (nI k2_100) fb2_101 fw2_102 (cs + 1) fd rfm rt_ to_ rw_ wa ct rk rb cn br sm as_ go sh_ ir oa ob th ig sp_ ki tg of_ kp sf rs), (aI g fd 500 fb)]) (X2 := [(oX11 m0 tw ta (nI n) pl (nI k2_100) fb2_101 fw2_102 (cs + 1) fd rfm rt_ to_ rw_ wa ct rk rb cn br sm as_ go sh_ ir oa ob th ig sp_ ki tg of_ kp sf rs), (aI g fd 500 fb), (aI g rt_ 25 (upd (upd (upd rt 1 r_70) 2 r_79) 3 r_88)), (aM g rw_ 6 (he_ro 6 r1))]) (P := (he_pl g L ln M)) hD [2, 3, 0, 1] rfl rfl rfl
            exact he_rv hQ hx hb hr hlk hP hD hS dX11_clause_397 (Nat.le_of_ble_eq_true rfl) (Nat.le_of_ble_eq_true rfl) ((k2_100, fb2_101, fw2_102, cs + 1, w, upd (upd (upd rt 1 r_70) 2 r_79) 3 r_88, M)) (rfl) (by (try dsimp only); exact ⟨by (try dsimp only); omega, by (try dsimp only); omega, (hf_105.imp_right (fun h9 => ⟨h9.1, by have := h9.2.2; omega⟩)), by (try dsimp only); omega, (by (try dsimp only); rw [upd_n (by (try dsimp only); omega), upd_n (by (try dsimp only); omega), upd_n (by (try dsimp only); omega)]; exact hrt), (mEx_refl _ _ _)⟩)
          · exact absurd (by decide) c_63
        · exact absurd c_62 (by decide)
    · exact absurd c_56 (by decide)
  · skip
    refine lv_istore_n (lv' := [(1, .int 4), (0, .ref m0)]) hx hb dX11_clause_4 rfl hl (by decide) rfl (fun ls hl => ?_)
    refine lv_iload_n hx hb dX11_clause_5 rfl (lv_at hl 0 rfl) ?_
    refine lv_iconst (v := (-1)) hx hb dX11_clause_6 (by decide) ?_
    refine lv_icmp_ne (tgt := 22) hx hb dX11_clause_7 (by decide) (fun c_106 => ?_) (fun c_106 => ?_)
    · refine lv_aload_n hx hb dX11_clause_22 rfl (lv_at hl 1 rfl) ?_
      refine va_get (v := .int cs) (T := TX11) (N := 35) hx hb hts inX11 hown hK hP 2 rfl rfl 7 (by decide) f131 (fun _ h9 => h9) rfl dX11_clause_23 ?_
      refine lv_bipush (v := 60) hx hb dX11_clause_26 (by decide) ?_
      refine lv_icmp_eq (tgt := 46) hx hb dX11_clause_28 (by decide) (fun c_107 => ?_) (fun c_107 => ?_)
      · refine lv_aload_n hx hb dX11_clause_46 rfl (lv_at hl 1 rfl) ?_
        refine lv_iconst (v := 3) hx hb dX11_clause_47 (by decide) ?_
        refine lv_aload_n hx hb dX11_clause_48 rfl (lv_at hl 1 rfl) ?_
        refine va_get (v := .int (nI k2_4)) (T := TX11) (N := 35) hx hb hts inX11 hown hK hP 2 rfl rfl 4 (by decide) f94 (fun _ h9 => h9) rfl dX11_clause_49 ?_
        refine he_cv (wc := [(oX11 m0 tw ta (nI n) pl (nI k2_4) 0 fw cs fd rfm rt_ to_ rw_ wa ct rk rb cn br sm as_ go sh_ ir oa ob th ig sp_ ki tg of_ kp sf rs), (aI g fd 500 fb)]) (wr := ([(aI g rt_ 25 rt), (aM g rw_ 6 (he_ro 6 r1))] ++ (he_pl g L ln M))) (va_runV (As := [.int 3, .int (nI k2_4)]) (rest := []) ⟨hx, hb, hml, hown, hts⟩ (h_X11_wrong l g m0 fd rfm rt_ to_ rw_ wa rk rb cn br sm as_ go sh_ ki tg of_ kp rs ta pl cs ct ir oa ob th ig sp_ sf tw n k2_4 0 fw fb 3 (nI k2_4) H.size) (cwV 2 hts gX11_clause_X11_wrong rfl rfl rfl (by decide +kernel) ⟨Nat.le_of_ble_eq_true rfl, Nat.le_of_ble_eq_true rfl⟩) (he_preV (wc := [(oX11 m0 tw ta (nI n) pl (nI k2_4) 0 fw cs fd rfm rt_ to_ rw_ wa ct rk rb cn br sm as_ go sh_ ir oa ob th ig sp_ ki tg of_ kp sf rs), (aI g fd 500 fb)]) hK hP hD hS hA hE [2, 3] rfl rfl 2 rfl rfl) rfl rfl hl.1 rfl (lv_room (Nat.le_of_ble_eq_true rfl)) dX11_clause_52 ⟨(Nat.le_of_ble_eq_true rfl), (Nat.le_of_ble_eq_true rfl)⟩) hP hD hS hA [2, 3] (he_is [0, 1] [(aI g rt_ 25 rt), (aM g rw_ 6 (he_ro 6 r1)), (oX11 m0 tw ta (nI n) pl (nI k2_4) 0 fw cs fd rfm rt_ to_ rw_ wa ct rk rb cn br sm as_ go sh_ ir oa ob th ig sp_ ki tg of_ kp sf rs), (aI g fd 500 fb)] (he_pl g L ln M)) rfl (he_ixP rfl) (he_ndP rfl rfl) (he_disN (by decide) rfl) (fun u_109 H locs h_110 hP hD hS => ?_)
        have hP := va_P.swap hP
        have hD := va_D.swap hD
        have hP : va_P g.1 vwCl ([(aI g rt_ 25 rt), (aM g rw_ 6 (he_ro 6 r1)), (oX11 m0 tw ta (nI n) pl (nI k2_4) (wrF 0 3) (wrA 0 fw (nI k2_4)) cs fd rfm rt_ to_ rw_ wa ct rk rb cn br sm as_ go sh_ ir oa ob th ig sp_ ki tg of_ kp sf rs), (aI g fd 500 fb)] ++ he_pl g L ln M) H := hP
        have hD : va_D A ([(aI g rt_ 25 rt), (aM g rw_ 6 (he_ro 6 r1)), (oX11 m0 tw ta (nI n) pl (nI k2_4) (wrF 0 3) (wrA 0 fw (nI k2_4)) cs fd rfm rt_ to_ rw_ wa ct rk rb cn br sm as_ go sh_ ir oa ob th ig sp_ ki tg of_ kp sf rs), (aI g fd 500 fb)] ++ he_pl g L ln M) := hD
        refine lv_aload_n hx hb dX11_clause_55 rfl (lv_at hl 1 rfl) ?_
        refine va_get (v := .int (wrF 0 3)) (T := TX11) (N := 35) hx hb hts inX11 hown hK hP 2 rfl rfl 5 (by decide) f101 (fun _ h9 => h9) rfl dX11_clause_56 ?_
        refine lv_if_eq (tgt := 63) hx hb dX11_clause_59 (by decide) (fun c_111 => ?_) (fun c_111 => ?_)
        · exact absurd c_111 (by decide)
        · have hP := he_Psub (X := [(aI g rt_ 25 rt), (aM g rw_ 6 (he_ro 6 r1)), (oX11 m0 tw ta (nI n) pl (nI k2_4) (wrF 0 3) (wrA 0 fw (nI k2_4)) cs fd rfm rt_ to_ rw_ wa ct rk rb cn br sm as_ go sh_ ir oa ob th ig sp_ ki tg of_ kp sf rs), (aI g fd 500 fb)]) (X2 := [(oX11 m0 tw ta (nI n) pl (nI k2_4) (wrF 0 3) (wrA 0 fw (nI k2_4)) cs fd rfm rt_ to_ rw_ wa ct rk rb cn br sm as_ go sh_ ir oa ob th ig sp_ ki tg of_ kp sf rs), (aI g fd 500 fb), (aI g rt_ 25 rt), (aM g rw_ 6 (he_ro 6 r1))]) (P := (he_pl g L ln M)) hP [2, 3, 0, 1] rfl
          have hD := he_Dsub (X := [(aI g rt_ 25 rt), (aM g rw_ 6 (he_ro 6 r1)), (oX11 m0 tw ta (nI n) pl (nI k2_4) (wrF 0 3) (wrA 0 fw (nI k2_4)) cs fd rfm rt_ to_ rw_ wa ct rk rb cn br sm as_ go sh_ ir oa ob th ig sp_ ki tg of_ kp sf rs), (aI g fd 500 fb)]) (X2 := [(oX11 m0 tw ta (nI n) pl (nI k2_4) (wrF 0 3) (wrA 0 fw (nI k2_4)) cs fd rfm rt_ to_ rw_ wa ct rk rb cn br sm as_ go sh_ ir oa ob th ig sp_ ki tg of_ kp sf rs), (aI g fd 500 fb), (aI g rt_ 25 rt), (aM g rw_ 6 (he_ro 6 r1))]) (P := (he_pl g L ln M)) hD [2, 3, 0, 1] rfl rfl rfl
          exact he_rv hQ hx hb hr hlk hP hD hS dX11_clause_62 (Nat.le_of_ble_eq_true rfl) (Nat.le_of_ble_eq_true rfl) ((k2_4, wrF 0 3, wrA 0 fw (nI k2_4), cs, w, rt, M)) (rfl) (by (try dsimp only); exact ⟨by (try dsimp only); omega, by (try dsimp only); omega, (Or.inl (by (try dsimp only); decide)), by (try dsimp only); omega, hrt, (mEx_refl _ _ _)⟩)
      · refine lv_iload_n hx hb dX11_clause_31 rfl (lv_at hl 0 rfl) ?_
        refine lv_if_ne (tgt := 55) hx hb dX11_clause_32 (by decide) (fun c_112 => ?_) (fun c_112 => ?_)
        · refine lv_aload_n hx hb dX11_clause_55 rfl (lv_at hl 1 rfl) ?_
          refine va_get (v := .int 0) (T := TX11) (N := 35) hx hb hts inX11 hown hK hP 2 rfl rfl 5 (by decide) f101 (fun _ h9 => h9) rfl dX11_clause_56 ?_
          refine lv_if_eq (tgt := 63) hx hb dX11_clause_59 (by decide) (fun c_113 => ?_) (fun c_113 => ?_)
          · refine lv_aload_n hx hb dX11_clause_63 rfl (lv_at hl 1 rfl) ?_
            refine he_cv (wc := [(oX11 m0 tw ta (nI n) pl (nI k2_4) 0 fw cs fd rfm rt_ to_ rw_ wa ct rk rb cn br sm as_ go sh_ ir oa ob th ig sp_ ki tg of_ kp sf rs), (aI g fd 500 fb)]) (wr := ([(aI g rt_ 25 rt), (aM g rw_ 6 (he_ro 6 r1))] ++ (he_pl g L ln M))) (va_runV (As := []) (rest := []) ⟨hx, hb, hml, hown, hts⟩ (h_X11_skipWord l g m0 fd rfm rt_ to_ rw_ wa rk rb cn br sm as_ go sh_ ki tg of_ kp rs ta pl cs ct ir oa ob th ig sp_ sf tw n k2_4 0 fw fb (by first | assumption | decide | omega) (by first | assumption | decide | omega) H.size) (cwV 0 hts gX11_clause_X11_skipWord rfl rfl rfl (by decide +kernel) ⟨Nat.le_of_ble_eq_true rfl, Nat.le_of_ble_eq_true rfl⟩) (he_preV (wc := [(oX11 m0 tw ta (nI n) pl (nI k2_4) 0 fw cs fd rfm rt_ to_ rw_ wa ct rk rb cn br sm as_ go sh_ ir oa ob th ig sp_ ki tg of_ kp sf rs), (aI g fd 500 fb)]) hK hP hD hS hA hE [2, 3] rfl rfl 2 rfl rfl) rfl rfl hl.1 rfl (lv_room (Nat.le_of_ble_eq_true rfl)) dX11_clause_64 ⟨(Nat.le_of_ble_eq_true rfl), (Nat.le_of_ble_eq_true rfl)⟩) hP hD hS hA [2, 3] (he_is [0, 1] [(aI g rt_ 25 rt), (aM g rw_ 6 (he_ro 6 r1)), (oX11 m0 tw ta (nI n) pl (nI k2_4) 0 fw cs fd rfm rt_ to_ rw_ wa ct rk rb cn br sm as_ go sh_ ir oa ob th ig sp_ ki tg of_ kp sf rs), (aI g fd 500 fb)] (he_pl g L ln M)) rfl (he_ixP rfl) (he_ndP rfl rfl) (he_disN (by decide) rfl) (fun u_115 H locs h_116 hP hD hS => ?_)
            have hP := va_P.swap hP
            have hD := va_D.swap hD
            obtain ⟨k2_117, rfl⟩ : ∃ z, z = u_115 := ⟨_, rfl⟩
            try dsimp only at h_116
            obtain ⟨hf_118, hf_119⟩ := h_116
            have hP : va_P g.1 vwCl ([(aI g rt_ 25 rt), (aM g rw_ 6 (he_ro 6 r1)), (oX11 m0 tw ta (nI n) pl (nI k2_117) 0 fw cs fd rfm rt_ to_ rw_ wa ct rk rb cn br sm as_ go sh_ ir oa ob th ig sp_ ki tg of_ kp sf rs), (aI g fd 500 fb)] ++ he_pl g L ln M) H := hP
            have hD : va_D A ([(aI g rt_ 25 rt), (aM g rw_ 6 (he_ro 6 r1)), (oX11 m0 tw ta (nI n) pl (nI k2_117) 0 fw cs fd rfm rt_ to_ rw_ wa ct rk rb cn br sm as_ go sh_ ir oa ob th ig sp_ ki tg of_ kp sf rs), (aI g fd 500 fb)] ++ he_pl g L ln M) := hD
            refine lv_aload_n hx hb dX11_clause_67 rfl (lv_at hl 1 rfl) ?_
            refine lv_dup hx hb dX11_clause_68 rfl ?_
            refine va_get (v := .int cs) (T := TX11) (N := 35) hx hb hts inX11 hown hK hP 2 rfl rfl 7 (by decide) f131 (fun _ h9 => h9) rfl dX11_clause_69 ?_
            refine lv_iconst (v := 1) hx hb dX11_clause_72 (by decide) ?_
            refine lv_iadd hx hb dX11_clause_73 ?_
            refine va_put (v := .int (cs + 1)) (ty := .int) (T := TX11) (N := 35) hx hb hts inX11 tyX11 tyX11_ok nmX11 hown hK hP hD hS 2 rfl rfl 7 (by decide) f131 (fun _ h9 => h9) rfl (by decide +kernel) rfl rfl (Nat.le_of_ble_eq_true rfl) dX11_clause_74 (fun H locs hP hD hS => ?_)
            have hP : va_P g.1 vwCl ([(aI g rt_ 25 rt), (aM g rw_ 6 (he_ro 6 r1)), (oX11 m0 tw ta (nI n) pl (nI k2_117) 0 fw (cs + 1) fd rfm rt_ to_ rw_ wa ct rk rb cn br sm as_ go sh_ ir oa ob th ig sp_ ki tg of_ kp sf rs), (aI g fd 500 fb)] ++ he_pl g L ln M) H := hP
            have hD : va_D A ([(aI g rt_ 25 rt), (aM g rw_ 6 (he_ro 6 r1)), (oX11 m0 tw ta (nI n) pl (nI k2_117) 0 fw (cs + 1) fd rfm rt_ to_ rw_ wa ct rk rb cn br sm as_ go sh_ ir oa ob th ig sp_ ki tg of_ kp sf rs), (aI g fd 500 fb)] ++ he_pl g L ln M) := hD
            refine lv_iload_n hx hb dX11_clause_77 rfl (lv_at hl 0 rfl) ?_
            refine lv_tableIn (tgt := 193) hx hb dX11_clause_78 (by decide) (by decide) rfl (by decide) ?_
            refine lv_aload_n hx hb dX11_clause_193 rfl (lv_at hl 1 rfl) ?_
            refine va_get (v := .ref rt_) (T := TX11) (N := 35) hx hb hts inX11 hown hK hP 2 rfl rfl 10 (by decide) f20 (fun _ h9 => h9) rfl dX11_clause_194 ?_
            refine lv_iload_n hx hb dX11_clause_197 rfl (lv_at hl 0 rfl) ?_
            refine lv_aload_n hx hb dX11_clause_198 rfl (lv_at hl 1 rfl) ?_
            refine lv_iconst (v := 0) hx hb dX11_clause_199 (by decide) ?_
            refine lv_sipush (v := 9999) hx hb dX11_clause_200 (by decide) ?_
            refine he_ci (wc := [(oX11 m0 tw ta (nI n) pl (nI k2_117) 0 fw (cs + 1) fd rfm rt_ to_ rw_ wa ct rk rb cn br sm as_ go sh_ ir oa ob th ig sp_ ki tg of_ kp sf rs), (aI g fd 500 fb)]) (wr := ([(aI g rt_ 25 rt), (aM g rw_ 6 (he_ro 6 r1))] ++ (he_pl g L ln M))) (va_runV (As := [.int 0, .int 9999]) (rest := [.int 4, .ref rt_]) ⟨hx, hb, hml, hown, hts⟩ (h_X11_number l g m0 fd rfm rt_ to_ rw_ wa rk rb cn br sm as_ go sh_ ki tg of_ kp rs ta pl (cs + 1) ct ir oa ob th ig sp_ sf tw n k2_117 0 fw fb 0 9999 (by first | assumption | decide | omega) (by first | assumption | decide | omega) H.size) (cwV 2 hts gX11_clause_X11_number rfl rfl rfl (by decide +kernel) ⟨Nat.le_of_ble_eq_true rfl, Nat.le_of_ble_eq_true rfl⟩) (he_preV (wc := [(oX11 m0 tw ta (nI n) pl (nI k2_117) 0 fw (cs + 1) fd rfm rt_ to_ rw_ wa ct rk rb cn br sm as_ go sh_ ir oa ob th ig sp_ ki tg of_ kp sf rs), (aI g fd 500 fb)]) hK hP hD hS hA hE [2, 3] rfl rfl 2 rfl rfl) rfl rfl hl.1 rfl (lv_room (Nat.le_of_ble_eq_true rfl)) dX11_clause_203 ⟨(Nat.le_of_ble_eq_true rfl), (Nat.le_of_ble_eq_true rfl)⟩) hP hD hS hA [2, 3] (he_is [0, 1] [(aI g rt_ 25 rt), (aM g rw_ 6 (he_ro 6 r1)), (oX11 m0 tw ta (nI n) pl (nI k2_117) 0 fw (cs + 1) fd rfm rt_ to_ rw_ wa ct rk rb cn br sm as_ go sh_ ir oa ob th ig sp_ ki tg of_ kp sf rs), (aI g fd 500 fb)] (he_pl g L ln M)) rfl (he_ixP rfl) (he_ndP rfl rfl) (he_disN (by decide) rfl) (fun r_120 u_121 H locs h_122 hP hD hS => ?_)
            have hP := va_P.swap hP
            have hD := va_D.swap hD
            obtain ⟨k2_123, fb2_124, fw2_125⟩ := u_121
            try dsimp only at h_122
            obtain ⟨hf_126, hf_127, hf_128⟩ := h_122
            have hP : va_P g.1 vwCl ([(aI g rt_ 25 rt), (aM g rw_ 6 (he_ro 6 r1)), (oX11 m0 tw ta (nI n) pl (nI k2_123) fb2_124 fw2_125 (cs + 1) fd rfm rt_ to_ rw_ wa ct rk rb cn br sm as_ go sh_ ir oa ob th ig sp_ ki tg of_ kp sf rs), (aI g fd 500 fb)] ++ he_pl g L ln M) H := hP
            have hD : va_D A ([(aI g rt_ 25 rt), (aM g rw_ 6 (he_ro 6 r1)), (oX11 m0 tw ta (nI n) pl (nI k2_123) fb2_124 fw2_125 (cs + 1) fd rfm rt_ to_ rw_ wa ct rk rb cn br sm as_ go sh_ ir oa ob th ig sp_ ki tg of_ kp sf rs), (aI g fd 500 fb)] ++ he_pl g L ln M) := hD
            refine he_iast hx hb hK hP hD hS 0 rfl (4) (by decide) (by decide) (by first | decide | assumption) dX11_clause_206 (fun H locs hP hD hS => ?_)
            have hP : va_P g.1 vwCl ([(aI g rt_ 25 (upd rt 4 r_120)), (aM g rw_ 6 (he_ro 6 r1)), (oX11 m0 tw ta (nI n) pl (nI k2_123) fb2_124 fw2_125 (cs + 1) fd rfm rt_ to_ rw_ wa ct rk rb cn br sm as_ go sh_ ir oa ob th ig sp_ ki tg of_ kp sf rs), (aI g fd 500 fb)] ++ he_pl g L ln M) H := hP
            have hD : va_D A ([(aI g rt_ 25 (upd rt 4 r_120)), (aM g rw_ 6 (he_ro 6 r1)), (oX11 m0 tw ta (nI n) pl (nI k2_123) fb2_124 fw2_125 (cs + 1) fd rfm rt_ to_ rw_ wa ct rk rb cn br sm as_ go sh_ ir oa ob th ig sp_ ki tg of_ kp sf rs), (aI g fd 500 fb)] ++ he_pl g L ln M) := hD
            refine lv_aload_n hx hb dX11_clause_207 rfl (lv_at hl 1 rfl) ?_
            refine va_get (v := .ref rt_) (T := TX11) (N := 35) hx hb hts inX11 hown hK hP 2 rfl rfl 10 (by decide) f20 (fun _ h9 => h9) rfl dX11_clause_208 ?_
            refine lv_iload_n hx hb dX11_clause_211 rfl (lv_at hl 0 rfl) ?_
            refine lv_iconst (v := 1) hx hb dX11_clause_212 (by decide) ?_
            refine lv_iadd hx hb dX11_clause_213 ?_
            refine he_top (5) (by decide) ?_
            refine lv_aload_n hx hb dX11_clause_214 rfl (lv_at hl 1 rfl) ?_
            refine lv_iconst (v := 0) hx hb dX11_clause_215 (by decide) ?_
            refine lv_sipush (v := 999) hx hb dX11_clause_216 (by decide) ?_
            refine he_ci (wc := [(oX11 m0 tw ta (nI n) pl (nI k2_123) fb2_124 fw2_125 (cs + 1) fd rfm rt_ to_ rw_ wa ct rk rb cn br sm as_ go sh_ ir oa ob th ig sp_ ki tg of_ kp sf rs), (aI g fd 500 fb)]) (wr := ([(aI g rt_ 25 (upd rt 4 r_120)), (aM g rw_ 6 (he_ro 6 r1))] ++ (he_pl g L ln M))) (va_runV (As := [.int 0, .int 999]) (rest := [.int 5, .ref rt_]) ⟨hx, hb, hml, hown, hts⟩ (h_X11_number l g m0 fd rfm rt_ to_ rw_ wa rk rb cn br sm as_ go sh_ ki tg of_ kp rs ta pl (cs + 1) ct ir oa ob th ig sp_ sf tw n k2_123 fb2_124 fw2_125 fb 0 999 (by first | assumption | decide | omega) (by first | assumption | decide | omega) H.size) (cwV 2 hts gX11_clause_X11_number rfl rfl rfl (by decide +kernel) ⟨Nat.le_of_ble_eq_true rfl, Nat.le_of_ble_eq_true rfl⟩) (he_preV (wc := [(oX11 m0 tw ta (nI n) pl (nI k2_123) fb2_124 fw2_125 (cs + 1) fd rfm rt_ to_ rw_ wa ct rk rb cn br sm as_ go sh_ ir oa ob th ig sp_ ki tg of_ kp sf rs), (aI g fd 500 fb)]) hK hP hD hS hA hE [2, 3] rfl rfl 2 rfl rfl) rfl rfl hl.1 rfl (lv_room (Nat.le_of_ble_eq_true rfl)) dX11_clause_219 ⟨(Nat.le_of_ble_eq_true rfl), (Nat.le_of_ble_eq_true rfl)⟩) hP hD hS hA [2, 3] (he_is [0, 1] [(aI g rt_ 25 (upd rt 4 r_120)), (aM g rw_ 6 (he_ro 6 r1)), (oX11 m0 tw ta (nI n) pl (nI k2_123) fb2_124 fw2_125 (cs + 1) fd rfm rt_ to_ rw_ wa ct rk rb cn br sm as_ go sh_ ir oa ob th ig sp_ ki tg of_ kp sf rs), (aI g fd 500 fb)] (he_pl g L ln M)) rfl (he_ixP rfl) (he_ndP rfl rfl) (he_disN (by decide) rfl) (fun r_129 u_130 H locs h_131 hP hD hS => ?_)
            have hP := va_P.swap hP
            have hD := va_D.swap hD
            obtain ⟨k2_132, fb2_133, fw2_134⟩ := u_130
            try dsimp only at h_131
            obtain ⟨hf_135, hf_136, hf_137⟩ := h_131
            have hP : va_P g.1 vwCl ([(aI g rt_ 25 (upd rt 4 r_120)), (aM g rw_ 6 (he_ro 6 r1)), (oX11 m0 tw ta (nI n) pl (nI k2_132) fb2_133 fw2_134 (cs + 1) fd rfm rt_ to_ rw_ wa ct rk rb cn br sm as_ go sh_ ir oa ob th ig sp_ ki tg of_ kp sf rs), (aI g fd 500 fb)] ++ he_pl g L ln M) H := hP
            have hD : va_D A ([(aI g rt_ 25 (upd rt 4 r_120)), (aM g rw_ 6 (he_ro 6 r1)), (oX11 m0 tw ta (nI n) pl (nI k2_132) fb2_133 fw2_134 (cs + 1) fd rfm rt_ to_ rw_ wa ct rk rb cn br sm as_ go sh_ ir oa ob th ig sp_ ki tg of_ kp sf rs), (aI g fd 500 fb)] ++ he_pl g L ln M) := hD
            refine he_iast hx hb hK hP hD hS 0 rfl (5) (by decide) (by decide) (by first | decide | assumption) dX11_clause_222 (fun H locs hP hD hS => ?_)
            have hP : va_P g.1 vwCl ([(aI g rt_ 25 (upd (upd rt 4 r_120) 5 r_129)), (aM g rw_ 6 (he_ro 6 r1)), (oX11 m0 tw ta (nI n) pl (nI k2_132) fb2_133 fw2_134 (cs + 1) fd rfm rt_ to_ rw_ wa ct rk rb cn br sm as_ go sh_ ir oa ob th ig sp_ ki tg of_ kp sf rs), (aI g fd 500 fb)] ++ he_pl g L ln M) H := hP
            have hD : va_D A ([(aI g rt_ 25 (upd (upd rt 4 r_120) 5 r_129)), (aM g rw_ 6 (he_ro 6 r1)), (oX11 m0 tw ta (nI n) pl (nI k2_132) fb2_133 fw2_134 (cs + 1) fd rfm rt_ to_ rw_ wa ct rk rb cn br sm as_ go sh_ ir oa ob th ig sp_ ki tg of_ kp sf rs), (aI g fd 500 fb)] ++ he_pl g L ln M) := hD
            refine lv_aload_n hx hb dX11_clause_223 rfl (lv_at hl 1 rfl) ?_
            refine va_get (v := .ref rt_) (T := TX11) (N := 35) hx hb hts inX11 hown hK hP 2 rfl rfl 10 (by decide) f20 (fun _ h9 => h9) rfl dX11_clause_224 ?_
            refine lv_iload_n hx hb dX11_clause_227 rfl (lv_at hl 0 rfl) ?_
            refine lv_iconst (v := 2) hx hb dX11_clause_228 (by decide) ?_
            refine lv_iadd hx hb dX11_clause_229 ?_
            refine he_top (6) (by decide) ?_
            refine lv_aload_n hx hb dX11_clause_230 rfl (lv_at hl 1 rfl) ?_
            refine lv_iconst (v := 0) hx hb dX11_clause_231 (by decide) ?_
            refine lv_bipush (v := 9) hx hb dX11_clause_232 (by decide) ?_
            refine he_ci (wc := [(oX11 m0 tw ta (nI n) pl (nI k2_132) fb2_133 fw2_134 (cs + 1) fd rfm rt_ to_ rw_ wa ct rk rb cn br sm as_ go sh_ ir oa ob th ig sp_ ki tg of_ kp sf rs), (aI g fd 500 fb)]) (wr := ([(aI g rt_ 25 (upd (upd rt 4 r_120) 5 r_129)), (aM g rw_ 6 (he_ro 6 r1))] ++ (he_pl g L ln M))) (va_runV (As := [.int 0, .int 9]) (rest := [.int 6, .ref rt_]) ⟨hx, hb, hml, hown, hts⟩ (h_X11_number l g m0 fd rfm rt_ to_ rw_ wa rk rb cn br sm as_ go sh_ ki tg of_ kp rs ta pl (cs + 1) ct ir oa ob th ig sp_ sf tw n k2_132 fb2_133 fw2_134 fb 0 9 (by first | assumption | decide | omega) (by first | assumption | decide | omega) H.size) (cwV 2 hts gX11_clause_X11_number rfl rfl rfl (by decide +kernel) ⟨Nat.le_of_ble_eq_true rfl, Nat.le_of_ble_eq_true rfl⟩) (he_preV (wc := [(oX11 m0 tw ta (nI n) pl (nI k2_132) fb2_133 fw2_134 (cs + 1) fd rfm rt_ to_ rw_ wa ct rk rb cn br sm as_ go sh_ ir oa ob th ig sp_ ki tg of_ kp sf rs), (aI g fd 500 fb)]) hK hP hD hS hA hE [2, 3] rfl rfl 2 rfl rfl) rfl rfl hl.1 rfl (lv_room (Nat.le_of_ble_eq_true rfl)) dX11_clause_234 ⟨(Nat.le_of_ble_eq_true rfl), (Nat.le_of_ble_eq_true rfl)⟩) hP hD hS hA [2, 3] (he_is [0, 1] [(aI g rt_ 25 (upd (upd rt 4 r_120) 5 r_129)), (aM g rw_ 6 (he_ro 6 r1)), (oX11 m0 tw ta (nI n) pl (nI k2_132) fb2_133 fw2_134 (cs + 1) fd rfm rt_ to_ rw_ wa ct rk rb cn br sm as_ go sh_ ir oa ob th ig sp_ ki tg of_ kp sf rs), (aI g fd 500 fb)] (he_pl g L ln M)) rfl (he_ixP rfl) (he_ndP rfl rfl) (he_disN (by decide) rfl) (fun r_138 u_139 H locs h_140 hP hD hS => ?_)
            have hP := va_P.swap hP
            have hD := va_D.swap hD
            obtain ⟨k2_141, fb2_142, fw2_143⟩ := u_139
            try dsimp only at h_140
            obtain ⟨hf_144, hf_145, hf_146⟩ := h_140
            have hP : va_P g.1 vwCl ([(aI g rt_ 25 (upd (upd rt 4 r_120) 5 r_129)), (aM g rw_ 6 (he_ro 6 r1)), (oX11 m0 tw ta (nI n) pl (nI k2_141) fb2_142 fw2_143 (cs + 1) fd rfm rt_ to_ rw_ wa ct rk rb cn br sm as_ go sh_ ir oa ob th ig sp_ ki tg of_ kp sf rs), (aI g fd 500 fb)] ++ he_pl g L ln M) H := hP
            have hD : va_D A ([(aI g rt_ 25 (upd (upd rt 4 r_120) 5 r_129)), (aM g rw_ 6 (he_ro 6 r1)), (oX11 m0 tw ta (nI n) pl (nI k2_141) fb2_142 fw2_143 (cs + 1) fd rfm rt_ to_ rw_ wa ct rk rb cn br sm as_ go sh_ ir oa ob th ig sp_ ki tg of_ kp sf rs), (aI g fd 500 fb)] ++ he_pl g L ln M) := hD
            refine he_iast hx hb hK hP hD hS 0 rfl (6) (by decide) (by decide) (by first | decide | assumption) dX11_clause_237 (fun H locs hP hD hS => ?_)
            have hP : va_P g.1 vwCl ([(aI g rt_ 25 (upd (upd (upd rt 4 r_120) 5 r_129) 6 r_138)), (aM g rw_ 6 (he_ro 6 r1)), (oX11 m0 tw ta (nI n) pl (nI k2_141) fb2_142 fw2_143 (cs + 1) fd rfm rt_ to_ rw_ wa ct rk rb cn br sm as_ go sh_ ir oa ob th ig sp_ ki tg of_ kp sf rs), (aI g fd 500 fb)] ++ he_pl g L ln M) H := hP
            have hD : va_D A ([(aI g rt_ 25 (upd (upd (upd rt 4 r_120) 5 r_129) 6 r_138)), (aM g rw_ 6 (he_ro 6 r1)), (oX11 m0 tw ta (nI n) pl (nI k2_141) fb2_142 fw2_143 (cs + 1) fd rfm rt_ to_ rw_ wa ct rk rb cn br sm as_ go sh_ ir oa ob th ig sp_ ki tg of_ kp sf rs), (aI g fd 500 fb)] ++ he_pl g L ln M) := hD
            refine lv_goto (tgt := 393) hx hb dX11_clause_238 (by decide) ?_
            refine lv_aload_n hx hb dX11_clause_393 rfl (lv_at hl 1 rfl) ?_
            refine he_cv (wc := [(oX11 m0 tw ta (nI n) pl (nI k2_141) fb2_142 fw2_143 (cs + 1) fd rfm rt_ to_ rw_ wa ct rk rb cn br sm as_ go sh_ ir oa ob th ig sp_ ki tg of_ kp sf rs), (aI g fd 500 fb)]) (wr := ([(aI g rt_ 25 (upd (upd (upd rt 4 r_120) 5 r_129) 6 r_138)), (aM g rw_ 6 (he_ro 6 r1))] ++ (he_pl g L ln M))) (va_runV (As := []) (rest := []) ⟨hx, hb, hml, hown, hts⟩ (h_X11_closes l g m0 fd rfm rt_ to_ rw_ wa rk rb cn br sm as_ go sh_ ki tg of_ kp rs ta pl (cs + 1) ct ir oa ob th ig sp_ sf tw n k2_141 fb2_142 fw2_143 fb (by first | assumption | decide | omega) (by first | assumption | decide | omega) H.size) (cwV 0 hts gX11_clause_X11_closes rfl rfl rfl (by decide +kernel) ⟨Nat.le_of_ble_eq_true rfl, Nat.le_of_ble_eq_true rfl⟩) (he_preV (wc := [(oX11 m0 tw ta (nI n) pl (nI k2_141) fb2_142 fw2_143 (cs + 1) fd rfm rt_ to_ rw_ wa ct rk rb cn br sm as_ go sh_ ir oa ob th ig sp_ ki tg of_ kp sf rs), (aI g fd 500 fb)]) hK hP hD hS hA hE [2, 3] rfl rfl 2 rfl rfl) rfl rfl hl.1 rfl (lv_room (Nat.le_of_ble_eq_true rfl)) dX11_clause_394 ⟨(Nat.le_of_ble_eq_true rfl), (Nat.le_of_ble_eq_true rfl)⟩) hP hD hS hA [2, 3] (he_is [0, 1] [(aI g rt_ 25 (upd (upd (upd rt 4 r_120) 5 r_129) 6 r_138)), (aM g rw_ 6 (he_ro 6 r1)), (oX11 m0 tw ta (nI n) pl (nI k2_141) fb2_142 fw2_143 (cs + 1) fd rfm rt_ to_ rw_ wa ct rk rb cn br sm as_ go sh_ ir oa ob th ig sp_ ki tg of_ kp sf rs), (aI g fd 500 fb)] (he_pl g L ln M)) rfl (he_ixP rfl) (he_ndP rfl rfl) (he_disN (by decide) rfl) (fun u_148 H locs h_149 hP hD hS => ?_)
            have hP := va_P.swap hP
            have hD := va_D.swap hD
            obtain ⟨k2_150, fb2_151, fw2_152⟩ := u_148
            try dsimp only at h_149
            obtain ⟨hf_153, hf_154, hf_155⟩ := h_149
            have hP : va_P g.1 vwCl ([(aI g rt_ 25 (upd (upd (upd rt 4 r_120) 5 r_129) 6 r_138)), (aM g rw_ 6 (he_ro 6 r1)), (oX11 m0 tw ta (nI n) pl (nI k2_150) fb2_151 fw2_152 (cs + 1) fd rfm rt_ to_ rw_ wa ct rk rb cn br sm as_ go sh_ ir oa ob th ig sp_ ki tg of_ kp sf rs), (aI g fd 500 fb)] ++ he_pl g L ln M) H := hP
            have hD : va_D A ([(aI g rt_ 25 (upd (upd (upd rt 4 r_120) 5 r_129) 6 r_138)), (aM g rw_ 6 (he_ro 6 r1)), (oX11 m0 tw ta (nI n) pl (nI k2_150) fb2_151 fw2_152 (cs + 1) fd rfm rt_ to_ rw_ wa ct rk rb cn br sm as_ go sh_ ir oa ob th ig sp_ ki tg of_ kp sf rs), (aI g fd 500 fb)] ++ he_pl g L ln M) := hD
            have hP := he_Psub (X := [(aI g rt_ 25 (upd (upd (upd rt 4 r_120) 5 r_129) 6 r_138)), (aM g rw_ 6 (he_ro 6 r1)), (oX11 m0 tw ta (nI n) pl (nI k2_150) fb2_151 fw2_152 (cs + 1) fd rfm rt_ to_ rw_ wa ct rk rb cn br sm as_ go sh_ ir oa ob th ig sp_ ki tg of_ kp sf rs), (aI g fd 500 fb)]) (X2 := [(oX11 m0 tw ta (nI n) pl (nI k2_150) fb2_151 fw2_152 (cs + 1) fd rfm rt_ to_ rw_ wa ct rk rb cn br sm as_ go sh_ ir oa ob th ig sp_ ki tg of_ kp sf rs), (aI g fd 500 fb), (aI g rt_ 25 (upd (upd (upd rt 4 r_120) 5 r_129) 6 r_138)), (aM g rw_ 6 (he_ro 6 r1))]) (P := (he_pl g L ln M)) hP [2, 3, 0, 1] rfl
            have hD := he_Dsub (X := [(aI g rt_ 25 (upd (upd (upd rt 4 r_120) 5 r_129) 6 r_138)), (aM g rw_ 6 (he_ro 6 r1)), (oX11 m0 tw ta (nI n) pl (nI k2_150) fb2_151 fw2_152 (cs + 1) fd rfm rt_ to_ rw_ wa ct rk rb cn br sm as_ go sh_ ir oa ob th ig sp_ ki tg of_ kp sf rs), (aI g fd 500 fb)]) (X2 := [(oX11 m0 tw ta (nI n) pl (nI k2_150) fb2_151 fw2_152 (cs + 1) fd rfm rt_ to_ rw_ wa ct rk rb cn br sm as_ go sh_ ir oa ob th ig sp_ ki tg of_ kp sf rs), (aI g fd 500 fb), (aI g rt_ 25 (upd (upd (upd rt 4 r_120) 5 r_129) 6 r_138)), (aM g rw_ 6 (he_ro 6 r1))]) (P := (he_pl g L ln M)) hD [2, 3, 0, 1] rfl rfl rfl
            exact he_rv hQ hx hb hr hlk hP hD hS dX11_clause_397 (Nat.le_of_ble_eq_true rfl) (Nat.le_of_ble_eq_true rfl) ((k2_150, fb2_151, fw2_152, cs + 1, w, upd (upd (upd rt 4 r_120) 5 r_129) 6 r_138, M)) (rfl) (by (try dsimp only); exact ⟨by (try dsimp only); omega, by (try dsimp only); omega, (hf_155.imp_right (fun h9 => ⟨h9.1, by have := h9.2.2; omega⟩)), by (try dsimp only); omega, (by (try dsimp only); rw [upd_n (by (try dsimp only); omega), upd_n (by (try dsimp only); omega), upd_n (by (try dsimp only); omega)]; exact hrt), (mEx_refl _ _ _)⟩)
          · exact absurd (by decide) c_113
        · exact absurd c_112 (by decide)
    · exact absurd c_106 (by decide)
  · skip
    refine lv_istore_n (lv' := [(1, .int 7), (0, .ref m0)]) hx hb dX11_clause_4 rfl hl (by decide) rfl (fun ls hl => ?_)
    refine lv_iload_n hx hb dX11_clause_5 rfl (lv_at hl 0 rfl) ?_
    refine lv_iconst (v := (-1)) hx hb dX11_clause_6 (by decide) ?_
    refine lv_icmp_ne (tgt := 22) hx hb dX11_clause_7 (by decide) (fun c_156 => ?_) (fun c_156 => ?_)
    · refine lv_aload_n hx hb dX11_clause_22 rfl (lv_at hl 1 rfl) ?_
      refine va_get (v := .int cs) (T := TX11) (N := 35) hx hb hts inX11 hown hK hP 2 rfl rfl 7 (by decide) f131 (fun _ h9 => h9) rfl dX11_clause_23 ?_
      refine lv_bipush (v := 60) hx hb dX11_clause_26 (by decide) ?_
      refine lv_icmp_eq (tgt := 46) hx hb dX11_clause_28 (by decide) (fun c_157 => ?_) (fun c_157 => ?_)
      · refine lv_aload_n hx hb dX11_clause_46 rfl (lv_at hl 1 rfl) ?_
        refine lv_iconst (v := 3) hx hb dX11_clause_47 (by decide) ?_
        refine lv_aload_n hx hb dX11_clause_48 rfl (lv_at hl 1 rfl) ?_
        refine va_get (v := .int (nI k2_4)) (T := TX11) (N := 35) hx hb hts inX11 hown hK hP 2 rfl rfl 4 (by decide) f94 (fun _ h9 => h9) rfl dX11_clause_49 ?_
        refine he_cv (wc := [(oX11 m0 tw ta (nI n) pl (nI k2_4) 0 fw cs fd rfm rt_ to_ rw_ wa ct rk rb cn br sm as_ go sh_ ir oa ob th ig sp_ ki tg of_ kp sf rs), (aI g fd 500 fb)]) (wr := ([(aI g rt_ 25 rt), (aM g rw_ 6 (he_ro 6 r1))] ++ (he_pl g L ln M))) (va_runV (As := [.int 3, .int (nI k2_4)]) (rest := []) ⟨hx, hb, hml, hown, hts⟩ (h_X11_wrong l g m0 fd rfm rt_ to_ rw_ wa rk rb cn br sm as_ go sh_ ki tg of_ kp rs ta pl cs ct ir oa ob th ig sp_ sf tw n k2_4 0 fw fb 3 (nI k2_4) H.size) (cwV 2 hts gX11_clause_X11_wrong rfl rfl rfl (by decide +kernel) ⟨Nat.le_of_ble_eq_true rfl, Nat.le_of_ble_eq_true rfl⟩) (he_preV (wc := [(oX11 m0 tw ta (nI n) pl (nI k2_4) 0 fw cs fd rfm rt_ to_ rw_ wa ct rk rb cn br sm as_ go sh_ ir oa ob th ig sp_ ki tg of_ kp sf rs), (aI g fd 500 fb)]) hK hP hD hS hA hE [2, 3] rfl rfl 2 rfl rfl) rfl rfl hl.1 rfl (lv_room (Nat.le_of_ble_eq_true rfl)) dX11_clause_52 ⟨(Nat.le_of_ble_eq_true rfl), (Nat.le_of_ble_eq_true rfl)⟩) hP hD hS hA [2, 3] (he_is [0, 1] [(aI g rt_ 25 rt), (aM g rw_ 6 (he_ro 6 r1)), (oX11 m0 tw ta (nI n) pl (nI k2_4) 0 fw cs fd rfm rt_ to_ rw_ wa ct rk rb cn br sm as_ go sh_ ir oa ob th ig sp_ ki tg of_ kp sf rs), (aI g fd 500 fb)] (he_pl g L ln M)) rfl (he_ixP rfl) (he_ndP rfl rfl) (he_disN (by decide) rfl) (fun u_159 H locs h_160 hP hD hS => ?_)
        have hP := va_P.swap hP
        have hD := va_D.swap hD
        have hP : va_P g.1 vwCl ([(aI g rt_ 25 rt), (aM g rw_ 6 (he_ro 6 r1)), (oX11 m0 tw ta (nI n) pl (nI k2_4) (wrF 0 3) (wrA 0 fw (nI k2_4)) cs fd rfm rt_ to_ rw_ wa ct rk rb cn br sm as_ go sh_ ir oa ob th ig sp_ ki tg of_ kp sf rs), (aI g fd 500 fb)] ++ he_pl g L ln M) H := hP
        have hD : va_D A ([(aI g rt_ 25 rt), (aM g rw_ 6 (he_ro 6 r1)), (oX11 m0 tw ta (nI n) pl (nI k2_4) (wrF 0 3) (wrA 0 fw (nI k2_4)) cs fd rfm rt_ to_ rw_ wa ct rk rb cn br sm as_ go sh_ ir oa ob th ig sp_ ki tg of_ kp sf rs), (aI g fd 500 fb)] ++ he_pl g L ln M) := hD
        refine lv_aload_n hx hb dX11_clause_55 rfl (lv_at hl 1 rfl) ?_
        refine va_get (v := .int (wrF 0 3)) (T := TX11) (N := 35) hx hb hts inX11 hown hK hP 2 rfl rfl 5 (by decide) f101 (fun _ h9 => h9) rfl dX11_clause_56 ?_
        refine lv_if_eq (tgt := 63) hx hb dX11_clause_59 (by decide) (fun c_161 => ?_) (fun c_161 => ?_)
        · exact absurd c_161 (by decide)
        · have hP := he_Psub (X := [(aI g rt_ 25 rt), (aM g rw_ 6 (he_ro 6 r1)), (oX11 m0 tw ta (nI n) pl (nI k2_4) (wrF 0 3) (wrA 0 fw (nI k2_4)) cs fd rfm rt_ to_ rw_ wa ct rk rb cn br sm as_ go sh_ ir oa ob th ig sp_ ki tg of_ kp sf rs), (aI g fd 500 fb)]) (X2 := [(oX11 m0 tw ta (nI n) pl (nI k2_4) (wrF 0 3) (wrA 0 fw (nI k2_4)) cs fd rfm rt_ to_ rw_ wa ct rk rb cn br sm as_ go sh_ ir oa ob th ig sp_ ki tg of_ kp sf rs), (aI g fd 500 fb), (aI g rt_ 25 rt), (aM g rw_ 6 (he_ro 6 r1))]) (P := (he_pl g L ln M)) hP [2, 3, 0, 1] rfl
          have hD := he_Dsub (X := [(aI g rt_ 25 rt), (aM g rw_ 6 (he_ro 6 r1)), (oX11 m0 tw ta (nI n) pl (nI k2_4) (wrF 0 3) (wrA 0 fw (nI k2_4)) cs fd rfm rt_ to_ rw_ wa ct rk rb cn br sm as_ go sh_ ir oa ob th ig sp_ ki tg of_ kp sf rs), (aI g fd 500 fb)]) (X2 := [(oX11 m0 tw ta (nI n) pl (nI k2_4) (wrF 0 3) (wrA 0 fw (nI k2_4)) cs fd rfm rt_ to_ rw_ wa ct rk rb cn br sm as_ go sh_ ir oa ob th ig sp_ ki tg of_ kp sf rs), (aI g fd 500 fb), (aI g rt_ 25 rt), (aM g rw_ 6 (he_ro 6 r1))]) (P := (he_pl g L ln M)) hD [2, 3, 0, 1] rfl rfl rfl
          exact he_rv hQ hx hb hr hlk hP hD hS dX11_clause_62 (Nat.le_of_ble_eq_true rfl) (Nat.le_of_ble_eq_true rfl) ((k2_4, wrF 0 3, wrA 0 fw (nI k2_4), cs, w, rt, M)) (rfl) (by (try dsimp only); exact ⟨by (try dsimp only); omega, by (try dsimp only); omega, (Or.inl (by (try dsimp only); decide)), by (try dsimp only); omega, hrt, (mEx_refl _ _ _)⟩)
      · refine lv_iload_n hx hb dX11_clause_31 rfl (lv_at hl 0 rfl) ?_
        refine lv_if_ne (tgt := 55) hx hb dX11_clause_32 (by decide) (fun c_162 => ?_) (fun c_162 => ?_)
        · refine lv_aload_n hx hb dX11_clause_55 rfl (lv_at hl 1 rfl) ?_
          refine va_get (v := .int 0) (T := TX11) (N := 35) hx hb hts inX11 hown hK hP 2 rfl rfl 5 (by decide) f101 (fun _ h9 => h9) rfl dX11_clause_56 ?_
          refine lv_if_eq (tgt := 63) hx hb dX11_clause_59 (by decide) (fun c_163 => ?_) (fun c_163 => ?_)
          · refine lv_aload_n hx hb dX11_clause_63 rfl (lv_at hl 1 rfl) ?_
            refine he_cv (wc := [(oX11 m0 tw ta (nI n) pl (nI k2_4) 0 fw cs fd rfm rt_ to_ rw_ wa ct rk rb cn br sm as_ go sh_ ir oa ob th ig sp_ ki tg of_ kp sf rs), (aI g fd 500 fb)]) (wr := ([(aI g rt_ 25 rt), (aM g rw_ 6 (he_ro 6 r1))] ++ (he_pl g L ln M))) (va_runV (As := []) (rest := []) ⟨hx, hb, hml, hown, hts⟩ (h_X11_skipWord l g m0 fd rfm rt_ to_ rw_ wa rk rb cn br sm as_ go sh_ ki tg of_ kp rs ta pl cs ct ir oa ob th ig sp_ sf tw n k2_4 0 fw fb (by first | assumption | decide | omega) (by first | assumption | decide | omega) H.size) (cwV 0 hts gX11_clause_X11_skipWord rfl rfl rfl (by decide +kernel) ⟨Nat.le_of_ble_eq_true rfl, Nat.le_of_ble_eq_true rfl⟩) (he_preV (wc := [(oX11 m0 tw ta (nI n) pl (nI k2_4) 0 fw cs fd rfm rt_ to_ rw_ wa ct rk rb cn br sm as_ go sh_ ir oa ob th ig sp_ ki tg of_ kp sf rs), (aI g fd 500 fb)]) hK hP hD hS hA hE [2, 3] rfl rfl 2 rfl rfl) rfl rfl hl.1 rfl (lv_room (Nat.le_of_ble_eq_true rfl)) dX11_clause_64 ⟨(Nat.le_of_ble_eq_true rfl), (Nat.le_of_ble_eq_true rfl)⟩) hP hD hS hA [2, 3] (he_is [0, 1] [(aI g rt_ 25 rt), (aM g rw_ 6 (he_ro 6 r1)), (oX11 m0 tw ta (nI n) pl (nI k2_4) 0 fw cs fd rfm rt_ to_ rw_ wa ct rk rb cn br sm as_ go sh_ ir oa ob th ig sp_ ki tg of_ kp sf rs), (aI g fd 500 fb)] (he_pl g L ln M)) rfl (he_ixP rfl) (he_ndP rfl rfl) (he_disN (by decide) rfl) (fun u_165 H locs h_166 hP hD hS => ?_)
            have hP := va_P.swap hP
            have hD := va_D.swap hD
            obtain ⟨k2_167, rfl⟩ : ∃ z, z = u_165 := ⟨_, rfl⟩
            try dsimp only at h_166
            obtain ⟨hf_168, hf_169⟩ := h_166
            have hP : va_P g.1 vwCl ([(aI g rt_ 25 rt), (aM g rw_ 6 (he_ro 6 r1)), (oX11 m0 tw ta (nI n) pl (nI k2_167) 0 fw cs fd rfm rt_ to_ rw_ wa ct rk rb cn br sm as_ go sh_ ir oa ob th ig sp_ ki tg of_ kp sf rs), (aI g fd 500 fb)] ++ he_pl g L ln M) H := hP
            have hD : va_D A ([(aI g rt_ 25 rt), (aM g rw_ 6 (he_ro 6 r1)), (oX11 m0 tw ta (nI n) pl (nI k2_167) 0 fw cs fd rfm rt_ to_ rw_ wa ct rk rb cn br sm as_ go sh_ ir oa ob th ig sp_ ki tg of_ kp sf rs), (aI g fd 500 fb)] ++ he_pl g L ln M) := hD
            refine lv_aload_n hx hb dX11_clause_67 rfl (lv_at hl 1 rfl) ?_
            refine lv_dup hx hb dX11_clause_68 rfl ?_
            refine va_get (v := .int cs) (T := TX11) (N := 35) hx hb hts inX11 hown hK hP 2 rfl rfl 7 (by decide) f131 (fun _ h9 => h9) rfl dX11_clause_69 ?_
            refine lv_iconst (v := 1) hx hb dX11_clause_72 (by decide) ?_
            refine lv_iadd hx hb dX11_clause_73 ?_
            refine va_put (v := .int (cs + 1)) (ty := .int) (T := TX11) (N := 35) hx hb hts inX11 tyX11 tyX11_ok nmX11 hown hK hP hD hS 2 rfl rfl 7 (by decide) f131 (fun _ h9 => h9) rfl (by decide +kernel) rfl rfl (Nat.le_of_ble_eq_true rfl) dX11_clause_74 (fun H locs hP hD hS => ?_)
            have hP : va_P g.1 vwCl ([(aI g rt_ 25 rt), (aM g rw_ 6 (he_ro 6 r1)), (oX11 m0 tw ta (nI n) pl (nI k2_167) 0 fw (cs + 1) fd rfm rt_ to_ rw_ wa ct rk rb cn br sm as_ go sh_ ir oa ob th ig sp_ ki tg of_ kp sf rs), (aI g fd 500 fb)] ++ he_pl g L ln M) H := hP
            have hD : va_D A ([(aI g rt_ 25 rt), (aM g rw_ 6 (he_ro 6 r1)), (oX11 m0 tw ta (nI n) pl (nI k2_167) 0 fw (cs + 1) fd rfm rt_ to_ rw_ wa ct rk rb cn br sm as_ go sh_ ir oa ob th ig sp_ ki tg of_ kp sf rs), (aI g fd 500 fb)] ++ he_pl g L ln M) := hD
            refine lv_iload_n hx hb dX11_clause_77 rfl (lv_at hl 0 rfl) ?_
            refine lv_tableIn (tgt := 241) hx hb dX11_clause_78 (by decide) (by decide) rfl (by decide) ?_
            refine lv_aload_n hx hb dX11_clause_241 rfl (lv_at hl 1 rfl) ?_
            refine va_get (v := .ref rt_) (T := TX11) (N := 35) hx hb hts inX11 hown hK hP 2 rfl rfl 10 (by decide) f20 (fun _ h9 => h9) rfl dX11_clause_242 ?_
            refine lv_bipush (v := 7) hx hb dX11_clause_245 (by decide) ?_
            refine lv_aload_n hx hb dX11_clause_247 rfl (lv_at hl 1 rfl) ?_
            refine lv_iconst (v := 0) hx hb dX11_clause_248 (by decide) ?_
            refine lv_sipush (v := 9999) hx hb dX11_clause_249 (by decide) ?_
            refine he_ci (wc := [(oX11 m0 tw ta (nI n) pl (nI k2_167) 0 fw (cs + 1) fd rfm rt_ to_ rw_ wa ct rk rb cn br sm as_ go sh_ ir oa ob th ig sp_ ki tg of_ kp sf rs), (aI g fd 500 fb)]) (wr := ([(aI g rt_ 25 rt), (aM g rw_ 6 (he_ro 6 r1))] ++ (he_pl g L ln M))) (va_runV (As := [.int 0, .int 9999]) (rest := [.int 7, .ref rt_]) ⟨hx, hb, hml, hown, hts⟩ (h_X11_number l g m0 fd rfm rt_ to_ rw_ wa rk rb cn br sm as_ go sh_ ki tg of_ kp rs ta pl (cs + 1) ct ir oa ob th ig sp_ sf tw n k2_167 0 fw fb 0 9999 (by first | assumption | decide | omega) (by first | assumption | decide | omega) H.size) (cwV 2 hts gX11_clause_X11_number rfl rfl rfl (by decide +kernel) ⟨Nat.le_of_ble_eq_true rfl, Nat.le_of_ble_eq_true rfl⟩) (he_preV (wc := [(oX11 m0 tw ta (nI n) pl (nI k2_167) 0 fw (cs + 1) fd rfm rt_ to_ rw_ wa ct rk rb cn br sm as_ go sh_ ir oa ob th ig sp_ ki tg of_ kp sf rs), (aI g fd 500 fb)]) hK hP hD hS hA hE [2, 3] rfl rfl 2 rfl rfl) rfl rfl hl.1 rfl (lv_room (Nat.le_of_ble_eq_true rfl)) dX11_clause_252 ⟨(Nat.le_of_ble_eq_true rfl), (Nat.le_of_ble_eq_true rfl)⟩) hP hD hS hA [2, 3] (he_is [0, 1] [(aI g rt_ 25 rt), (aM g rw_ 6 (he_ro 6 r1)), (oX11 m0 tw ta (nI n) pl (nI k2_167) 0 fw (cs + 1) fd rfm rt_ to_ rw_ wa ct rk rb cn br sm as_ go sh_ ir oa ob th ig sp_ ki tg of_ kp sf rs), (aI g fd 500 fb)] (he_pl g L ln M)) rfl (he_ixP rfl) (he_ndP rfl rfl) (he_disN (by decide) rfl) (fun r_170 u_171 H locs h_172 hP hD hS => ?_)
            have hP := va_P.swap hP
            have hD := va_D.swap hD
            obtain ⟨k2_173, fb2_174, fw2_175⟩ := u_171
            try dsimp only at h_172
            obtain ⟨hf_176, hf_177, hf_178⟩ := h_172
            have hP : va_P g.1 vwCl ([(aI g rt_ 25 rt), (aM g rw_ 6 (he_ro 6 r1)), (oX11 m0 tw ta (nI n) pl (nI k2_173) fb2_174 fw2_175 (cs + 1) fd rfm rt_ to_ rw_ wa ct rk rb cn br sm as_ go sh_ ir oa ob th ig sp_ ki tg of_ kp sf rs), (aI g fd 500 fb)] ++ he_pl g L ln M) H := hP
            have hD : va_D A ([(aI g rt_ 25 rt), (aM g rw_ 6 (he_ro 6 r1)), (oX11 m0 tw ta (nI n) pl (nI k2_173) fb2_174 fw2_175 (cs + 1) fd rfm rt_ to_ rw_ wa ct rk rb cn br sm as_ go sh_ ir oa ob th ig sp_ ki tg of_ kp sf rs), (aI g fd 500 fb)] ++ he_pl g L ln M) := hD
            refine he_iast hx hb hK hP hD hS 0 rfl (7) (by decide) (by decide) (by first | decide | assumption) dX11_clause_255 (fun H locs hP hD hS => ?_)
            have hP : va_P g.1 vwCl ([(aI g rt_ 25 (upd rt 7 r_170)), (aM g rw_ 6 (he_ro 6 r1)), (oX11 m0 tw ta (nI n) pl (nI k2_173) fb2_174 fw2_175 (cs + 1) fd rfm rt_ to_ rw_ wa ct rk rb cn br sm as_ go sh_ ir oa ob th ig sp_ ki tg of_ kp sf rs), (aI g fd 500 fb)] ++ he_pl g L ln M) H := hP
            have hD : va_D A ([(aI g rt_ 25 (upd rt 7 r_170)), (aM g rw_ 6 (he_ro 6 r1)), (oX11 m0 tw ta (nI n) pl (nI k2_173) fb2_174 fw2_175 (cs + 1) fd rfm rt_ to_ rw_ wa ct rk rb cn br sm as_ go sh_ ir oa ob th ig sp_ ki tg of_ kp sf rs), (aI g fd 500 fb)] ++ he_pl g L ln M) := hD
            refine lv_aload_n hx hb dX11_clause_256 rfl (lv_at hl 1 rfl) ?_
            refine va_get (v := .ref rt_) (T := TX11) (N := 35) hx hb hts inX11 hown hK hP 2 rfl rfl 10 (by decide) f20 (fun _ h9 => h9) rfl dX11_clause_257 ?_
            refine lv_bipush (v := 8) hx hb dX11_clause_260 (by decide) ?_
            refine lv_aload_n hx hb dX11_clause_262 rfl (lv_at hl 1 rfl) ?_
            refine lv_iconst (v := 0) hx hb dX11_clause_263 (by decide) ?_
            refine lv_bipush (v := 100) hx hb dX11_clause_264 (by decide) ?_
            refine he_ci (wc := [(oX11 m0 tw ta (nI n) pl (nI k2_173) fb2_174 fw2_175 (cs + 1) fd rfm rt_ to_ rw_ wa ct rk rb cn br sm as_ go sh_ ir oa ob th ig sp_ ki tg of_ kp sf rs), (aI g fd 500 fb)]) (wr := ([(aI g rt_ 25 (upd rt 7 r_170)), (aM g rw_ 6 (he_ro 6 r1))] ++ (he_pl g L ln M))) (va_runV (As := [.int 0, .int 100]) (rest := [.int 8, .ref rt_]) ⟨hx, hb, hml, hown, hts⟩ (h_X11_number l g m0 fd rfm rt_ to_ rw_ wa rk rb cn br sm as_ go sh_ ki tg of_ kp rs ta pl (cs + 1) ct ir oa ob th ig sp_ sf tw n k2_173 fb2_174 fw2_175 fb 0 100 (by first | assumption | decide | omega) (by first | assumption | decide | omega) H.size) (cwV 2 hts gX11_clause_X11_number rfl rfl rfl (by decide +kernel) ⟨Nat.le_of_ble_eq_true rfl, Nat.le_of_ble_eq_true rfl⟩) (he_preV (wc := [(oX11 m0 tw ta (nI n) pl (nI k2_173) fb2_174 fw2_175 (cs + 1) fd rfm rt_ to_ rw_ wa ct rk rb cn br sm as_ go sh_ ir oa ob th ig sp_ ki tg of_ kp sf rs), (aI g fd 500 fb)]) hK hP hD hS hA hE [2, 3] rfl rfl 2 rfl rfl) rfl rfl hl.1 rfl (lv_room (Nat.le_of_ble_eq_true rfl)) dX11_clause_266 ⟨(Nat.le_of_ble_eq_true rfl), (Nat.le_of_ble_eq_true rfl)⟩) hP hD hS hA [2, 3] (he_is [0, 1] [(aI g rt_ 25 (upd rt 7 r_170)), (aM g rw_ 6 (he_ro 6 r1)), (oX11 m0 tw ta (nI n) pl (nI k2_173) fb2_174 fw2_175 (cs + 1) fd rfm rt_ to_ rw_ wa ct rk rb cn br sm as_ go sh_ ir oa ob th ig sp_ ki tg of_ kp sf rs), (aI g fd 500 fb)] (he_pl g L ln M)) rfl (he_ixP rfl) (he_ndP rfl rfl) (he_disN (by decide) rfl) (fun r_179 u_180 H locs h_181 hP hD hS => ?_)
            have hP := va_P.swap hP
            have hD := va_D.swap hD
            obtain ⟨k2_182, fb2_183, fw2_184⟩ := u_180
            try dsimp only at h_181
            obtain ⟨hf_185, hf_186, hf_187⟩ := h_181
            have hP : va_P g.1 vwCl ([(aI g rt_ 25 (upd rt 7 r_170)), (aM g rw_ 6 (he_ro 6 r1)), (oX11 m0 tw ta (nI n) pl (nI k2_182) fb2_183 fw2_184 (cs + 1) fd rfm rt_ to_ rw_ wa ct rk rb cn br sm as_ go sh_ ir oa ob th ig sp_ ki tg of_ kp sf rs), (aI g fd 500 fb)] ++ he_pl g L ln M) H := hP
            have hD : va_D A ([(aI g rt_ 25 (upd rt 7 r_170)), (aM g rw_ 6 (he_ro 6 r1)), (oX11 m0 tw ta (nI n) pl (nI k2_182) fb2_183 fw2_184 (cs + 1) fd rfm rt_ to_ rw_ wa ct rk rb cn br sm as_ go sh_ ir oa ob th ig sp_ ki tg of_ kp sf rs), (aI g fd 500 fb)] ++ he_pl g L ln M) := hD
            refine he_iast hx hb hK hP hD hS 0 rfl (8) (by decide) (by decide) (by first | decide | assumption) dX11_clause_269 (fun H locs hP hD hS => ?_)
            have hP : va_P g.1 vwCl ([(aI g rt_ 25 (upd (upd rt 7 r_170) 8 r_179)), (aM g rw_ 6 (he_ro 6 r1)), (oX11 m0 tw ta (nI n) pl (nI k2_182) fb2_183 fw2_184 (cs + 1) fd rfm rt_ to_ rw_ wa ct rk rb cn br sm as_ go sh_ ir oa ob th ig sp_ ki tg of_ kp sf rs), (aI g fd 500 fb)] ++ he_pl g L ln M) H := hP
            have hD : va_D A ([(aI g rt_ 25 (upd (upd rt 7 r_170) 8 r_179)), (aM g rw_ 6 (he_ro 6 r1)), (oX11 m0 tw ta (nI n) pl (nI k2_182) fb2_183 fw2_184 (cs + 1) fd rfm rt_ to_ rw_ wa ct rk rb cn br sm as_ go sh_ ir oa ob th ig sp_ ki tg of_ kp sf rs), (aI g fd 500 fb)] ++ he_pl g L ln M) := hD
            refine lv_goto (tgt := 393) hx hb dX11_clause_270 (by decide) ?_
            refine lv_aload_n hx hb dX11_clause_393 rfl (lv_at hl 1 rfl) ?_
            refine he_cv (wc := [(oX11 m0 tw ta (nI n) pl (nI k2_182) fb2_183 fw2_184 (cs + 1) fd rfm rt_ to_ rw_ wa ct rk rb cn br sm as_ go sh_ ir oa ob th ig sp_ ki tg of_ kp sf rs), (aI g fd 500 fb)]) (wr := ([(aI g rt_ 25 (upd (upd rt 7 r_170) 8 r_179)), (aM g rw_ 6 (he_ro 6 r1))] ++ (he_pl g L ln M))) (va_runV (As := []) (rest := []) ⟨hx, hb, hml, hown, hts⟩ (h_X11_closes l g m0 fd rfm rt_ to_ rw_ wa rk rb cn br sm as_ go sh_ ki tg of_ kp rs ta pl (cs + 1) ct ir oa ob th ig sp_ sf tw n k2_182 fb2_183 fw2_184 fb (by first | assumption | decide | omega) (by first | assumption | decide | omega) H.size) (cwV 0 hts gX11_clause_X11_closes rfl rfl rfl (by decide +kernel) ⟨Nat.le_of_ble_eq_true rfl, Nat.le_of_ble_eq_true rfl⟩) (he_preV (wc := [(oX11 m0 tw ta (nI n) pl (nI k2_182) fb2_183 fw2_184 (cs + 1) fd rfm rt_ to_ rw_ wa ct rk rb cn br sm as_ go sh_ ir oa ob th ig sp_ ki tg of_ kp sf rs), (aI g fd 500 fb)]) hK hP hD hS hA hE [2, 3] rfl rfl 2 rfl rfl) rfl rfl hl.1 rfl (lv_room (Nat.le_of_ble_eq_true rfl)) dX11_clause_394 ⟨(Nat.le_of_ble_eq_true rfl), (Nat.le_of_ble_eq_true rfl)⟩) hP hD hS hA [2, 3] (he_is [0, 1] [(aI g rt_ 25 (upd (upd rt 7 r_170) 8 r_179)), (aM g rw_ 6 (he_ro 6 r1)), (oX11 m0 tw ta (nI n) pl (nI k2_182) fb2_183 fw2_184 (cs + 1) fd rfm rt_ to_ rw_ wa ct rk rb cn br sm as_ go sh_ ir oa ob th ig sp_ ki tg of_ kp sf rs), (aI g fd 500 fb)] (he_pl g L ln M)) rfl (he_ixP rfl) (he_ndP rfl rfl) (he_disN (by decide) rfl) (fun u_189 H locs h_190 hP hD hS => ?_)
            have hP := va_P.swap hP
            have hD := va_D.swap hD
            obtain ⟨k2_191, fb2_192, fw2_193⟩ := u_189
            try dsimp only at h_190
            obtain ⟨hf_194, hf_195, hf_196⟩ := h_190
            have hP : va_P g.1 vwCl ([(aI g rt_ 25 (upd (upd rt 7 r_170) 8 r_179)), (aM g rw_ 6 (he_ro 6 r1)), (oX11 m0 tw ta (nI n) pl (nI k2_191) fb2_192 fw2_193 (cs + 1) fd rfm rt_ to_ rw_ wa ct rk rb cn br sm as_ go sh_ ir oa ob th ig sp_ ki tg of_ kp sf rs), (aI g fd 500 fb)] ++ he_pl g L ln M) H := hP
            have hD : va_D A ([(aI g rt_ 25 (upd (upd rt 7 r_170) 8 r_179)), (aM g rw_ 6 (he_ro 6 r1)), (oX11 m0 tw ta (nI n) pl (nI k2_191) fb2_192 fw2_193 (cs + 1) fd rfm rt_ to_ rw_ wa ct rk rb cn br sm as_ go sh_ ir oa ob th ig sp_ ki tg of_ kp sf rs), (aI g fd 500 fb)] ++ he_pl g L ln M) := hD
            have hP := he_Psub (X := [(aI g rt_ 25 (upd (upd rt 7 r_170) 8 r_179)), (aM g rw_ 6 (he_ro 6 r1)), (oX11 m0 tw ta (nI n) pl (nI k2_191) fb2_192 fw2_193 (cs + 1) fd rfm rt_ to_ rw_ wa ct rk rb cn br sm as_ go sh_ ir oa ob th ig sp_ ki tg of_ kp sf rs), (aI g fd 500 fb)]) (X2 := [(oX11 m0 tw ta (nI n) pl (nI k2_191) fb2_192 fw2_193 (cs + 1) fd rfm rt_ to_ rw_ wa ct rk rb cn br sm as_ go sh_ ir oa ob th ig sp_ ki tg of_ kp sf rs), (aI g fd 500 fb), (aI g rt_ 25 (upd (upd rt 7 r_170) 8 r_179)), (aM g rw_ 6 (he_ro 6 r1))]) (P := (he_pl g L ln M)) hP [2, 3, 0, 1] rfl
            have hD := he_Dsub (X := [(aI g rt_ 25 (upd (upd rt 7 r_170) 8 r_179)), (aM g rw_ 6 (he_ro 6 r1)), (oX11 m0 tw ta (nI n) pl (nI k2_191) fb2_192 fw2_193 (cs + 1) fd rfm rt_ to_ rw_ wa ct rk rb cn br sm as_ go sh_ ir oa ob th ig sp_ ki tg of_ kp sf rs), (aI g fd 500 fb)]) (X2 := [(oX11 m0 tw ta (nI n) pl (nI k2_191) fb2_192 fw2_193 (cs + 1) fd rfm rt_ to_ rw_ wa ct rk rb cn br sm as_ go sh_ ir oa ob th ig sp_ ki tg of_ kp sf rs), (aI g fd 500 fb), (aI g rt_ 25 (upd (upd rt 7 r_170) 8 r_179)), (aM g rw_ 6 (he_ro 6 r1))]) (P := (he_pl g L ln M)) hD [2, 3, 0, 1] rfl rfl rfl
            exact he_rv hQ hx hb hr hlk hP hD hS dX11_clause_397 (Nat.le_of_ble_eq_true rfl) (Nat.le_of_ble_eq_true rfl) ((k2_191, fb2_192, fw2_193, cs + 1, w, upd (upd rt 7 r_170) 8 r_179, M)) (rfl) (by (try dsimp only); exact ⟨by (try dsimp only); omega, by (try dsimp only); omega, (hf_196.imp_right (fun h9 => ⟨h9.1, by have := h9.2.2; omega⟩)), by (try dsimp only); omega, (by (try dsimp only); rw [upd_n (by (try dsimp only); omega), upd_n (by (try dsimp only); omega)]; exact hrt), (mEx_refl _ _ _)⟩)
          · exact absurd (by decide) c_163
        · exact absurd c_162 (by decide)
    · exact absurd c_156 (by decide)
  · skip
    refine lv_istore_n (lv' := [(1, .int 9), (0, .ref m0)]) hx hb dX11_clause_4 rfl hl (by decide) rfl (fun ls hl => ?_)
    refine lv_iload_n hx hb dX11_clause_5 rfl (lv_at hl 0 rfl) ?_
    refine lv_iconst (v := (-1)) hx hb dX11_clause_6 (by decide) ?_
    refine lv_icmp_ne (tgt := 22) hx hb dX11_clause_7 (by decide) (fun c_197 => ?_) (fun c_197 => ?_)
    · refine lv_aload_n hx hb dX11_clause_22 rfl (lv_at hl 1 rfl) ?_
      refine va_get (v := .int cs) (T := TX11) (N := 35) hx hb hts inX11 hown hK hP 2 rfl rfl 7 (by decide) f131 (fun _ h9 => h9) rfl dX11_clause_23 ?_
      refine lv_bipush (v := 60) hx hb dX11_clause_26 (by decide) ?_
      refine lv_icmp_eq (tgt := 46) hx hb dX11_clause_28 (by decide) (fun c_198 => ?_) (fun c_198 => ?_)
      · refine lv_aload_n hx hb dX11_clause_46 rfl (lv_at hl 1 rfl) ?_
        refine lv_iconst (v := 3) hx hb dX11_clause_47 (by decide) ?_
        refine lv_aload_n hx hb dX11_clause_48 rfl (lv_at hl 1 rfl) ?_
        refine va_get (v := .int (nI k2_4)) (T := TX11) (N := 35) hx hb hts inX11 hown hK hP 2 rfl rfl 4 (by decide) f94 (fun _ h9 => h9) rfl dX11_clause_49 ?_
        refine he_cv (wc := [(oX11 m0 tw ta (nI n) pl (nI k2_4) 0 fw cs fd rfm rt_ to_ rw_ wa ct rk rb cn br sm as_ go sh_ ir oa ob th ig sp_ ki tg of_ kp sf rs), (aI g fd 500 fb)]) (wr := ([(aI g rt_ 25 rt), (aM g rw_ 6 (he_ro 6 r1))] ++ (he_pl g L ln M))) (va_runV (As := [.int 3, .int (nI k2_4)]) (rest := []) ⟨hx, hb, hml, hown, hts⟩ (h_X11_wrong l g m0 fd rfm rt_ to_ rw_ wa rk rb cn br sm as_ go sh_ ki tg of_ kp rs ta pl cs ct ir oa ob th ig sp_ sf tw n k2_4 0 fw fb 3 (nI k2_4) H.size) (cwV 2 hts gX11_clause_X11_wrong rfl rfl rfl (by decide +kernel) ⟨Nat.le_of_ble_eq_true rfl, Nat.le_of_ble_eq_true rfl⟩) (he_preV (wc := [(oX11 m0 tw ta (nI n) pl (nI k2_4) 0 fw cs fd rfm rt_ to_ rw_ wa ct rk rb cn br sm as_ go sh_ ir oa ob th ig sp_ ki tg of_ kp sf rs), (aI g fd 500 fb)]) hK hP hD hS hA hE [2, 3] rfl rfl 2 rfl rfl) rfl rfl hl.1 rfl (lv_room (Nat.le_of_ble_eq_true rfl)) dX11_clause_52 ⟨(Nat.le_of_ble_eq_true rfl), (Nat.le_of_ble_eq_true rfl)⟩) hP hD hS hA [2, 3] (he_is [0, 1] [(aI g rt_ 25 rt), (aM g rw_ 6 (he_ro 6 r1)), (oX11 m0 tw ta (nI n) pl (nI k2_4) 0 fw cs fd rfm rt_ to_ rw_ wa ct rk rb cn br sm as_ go sh_ ir oa ob th ig sp_ ki tg of_ kp sf rs), (aI g fd 500 fb)] (he_pl g L ln M)) rfl (he_ixP rfl) (he_ndP rfl rfl) (he_disN (by decide) rfl) (fun u_200 H locs h_201 hP hD hS => ?_)
        have hP := va_P.swap hP
        have hD := va_D.swap hD
        have hP : va_P g.1 vwCl ([(aI g rt_ 25 rt), (aM g rw_ 6 (he_ro 6 r1)), (oX11 m0 tw ta (nI n) pl (nI k2_4) (wrF 0 3) (wrA 0 fw (nI k2_4)) cs fd rfm rt_ to_ rw_ wa ct rk rb cn br sm as_ go sh_ ir oa ob th ig sp_ ki tg of_ kp sf rs), (aI g fd 500 fb)] ++ he_pl g L ln M) H := hP
        have hD : va_D A ([(aI g rt_ 25 rt), (aM g rw_ 6 (he_ro 6 r1)), (oX11 m0 tw ta (nI n) pl (nI k2_4) (wrF 0 3) (wrA 0 fw (nI k2_4)) cs fd rfm rt_ to_ rw_ wa ct rk rb cn br sm as_ go sh_ ir oa ob th ig sp_ ki tg of_ kp sf rs), (aI g fd 500 fb)] ++ he_pl g L ln M) := hD
        refine lv_aload_n hx hb dX11_clause_55 rfl (lv_at hl 1 rfl) ?_
        refine va_get (v := .int (wrF 0 3)) (T := TX11) (N := 35) hx hb hts inX11 hown hK hP 2 rfl rfl 5 (by decide) f101 (fun _ h9 => h9) rfl dX11_clause_56 ?_
        refine lv_if_eq (tgt := 63) hx hb dX11_clause_59 (by decide) (fun c_202 => ?_) (fun c_202 => ?_)
        · exact absurd c_202 (by decide)
        · have hP := he_Psub (X := [(aI g rt_ 25 rt), (aM g rw_ 6 (he_ro 6 r1)), (oX11 m0 tw ta (nI n) pl (nI k2_4) (wrF 0 3) (wrA 0 fw (nI k2_4)) cs fd rfm rt_ to_ rw_ wa ct rk rb cn br sm as_ go sh_ ir oa ob th ig sp_ ki tg of_ kp sf rs), (aI g fd 500 fb)]) (X2 := [(oX11 m0 tw ta (nI n) pl (nI k2_4) (wrF 0 3) (wrA 0 fw (nI k2_4)) cs fd rfm rt_ to_ rw_ wa ct rk rb cn br sm as_ go sh_ ir oa ob th ig sp_ ki tg of_ kp sf rs), (aI g fd 500 fb), (aI g rt_ 25 rt), (aM g rw_ 6 (he_ro 6 r1))]) (P := (he_pl g L ln M)) hP [2, 3, 0, 1] rfl
          have hD := he_Dsub (X := [(aI g rt_ 25 rt), (aM g rw_ 6 (he_ro 6 r1)), (oX11 m0 tw ta (nI n) pl (nI k2_4) (wrF 0 3) (wrA 0 fw (nI k2_4)) cs fd rfm rt_ to_ rw_ wa ct rk rb cn br sm as_ go sh_ ir oa ob th ig sp_ ki tg of_ kp sf rs), (aI g fd 500 fb)]) (X2 := [(oX11 m0 tw ta (nI n) pl (nI k2_4) (wrF 0 3) (wrA 0 fw (nI k2_4)) cs fd rfm rt_ to_ rw_ wa ct rk rb cn br sm as_ go sh_ ir oa ob th ig sp_ ki tg of_ kp sf rs), (aI g fd 500 fb), (aI g rt_ 25 rt), (aM g rw_ 6 (he_ro 6 r1))]) (P := (he_pl g L ln M)) hD [2, 3, 0, 1] rfl rfl rfl
          exact he_rv hQ hx hb hr hlk hP hD hS dX11_clause_62 (Nat.le_of_ble_eq_true rfl) (Nat.le_of_ble_eq_true rfl) ((k2_4, wrF 0 3, wrA 0 fw (nI k2_4), cs, w, rt, M)) (rfl) (by (try dsimp only); exact ⟨by (try dsimp only); omega, by (try dsimp only); omega, (Or.inl (by (try dsimp only); decide)), by (try dsimp only); omega, hrt, (mEx_refl _ _ _)⟩)
      · refine lv_iload_n hx hb dX11_clause_31 rfl (lv_at hl 0 rfl) ?_
        refine lv_if_ne (tgt := 55) hx hb dX11_clause_32 (by decide) (fun c_203 => ?_) (fun c_203 => ?_)
        · refine lv_aload_n hx hb dX11_clause_55 rfl (lv_at hl 1 rfl) ?_
          refine va_get (v := .int 0) (T := TX11) (N := 35) hx hb hts inX11 hown hK hP 2 rfl rfl 5 (by decide) f101 (fun _ h9 => h9) rfl dX11_clause_56 ?_
          refine lv_if_eq (tgt := 63) hx hb dX11_clause_59 (by decide) (fun c_204 => ?_) (fun c_204 => ?_)
          · refine lv_aload_n hx hb dX11_clause_63 rfl (lv_at hl 1 rfl) ?_
            refine he_cv (wc := [(oX11 m0 tw ta (nI n) pl (nI k2_4) 0 fw cs fd rfm rt_ to_ rw_ wa ct rk rb cn br sm as_ go sh_ ir oa ob th ig sp_ ki tg of_ kp sf rs), (aI g fd 500 fb)]) (wr := ([(aI g rt_ 25 rt), (aM g rw_ 6 (he_ro 6 r1))] ++ (he_pl g L ln M))) (va_runV (As := []) (rest := []) ⟨hx, hb, hml, hown, hts⟩ (h_X11_skipWord l g m0 fd rfm rt_ to_ rw_ wa rk rb cn br sm as_ go sh_ ki tg of_ kp rs ta pl cs ct ir oa ob th ig sp_ sf tw n k2_4 0 fw fb (by first | assumption | decide | omega) (by first | assumption | decide | omega) H.size) (cwV 0 hts gX11_clause_X11_skipWord rfl rfl rfl (by decide +kernel) ⟨Nat.le_of_ble_eq_true rfl, Nat.le_of_ble_eq_true rfl⟩) (he_preV (wc := [(oX11 m0 tw ta (nI n) pl (nI k2_4) 0 fw cs fd rfm rt_ to_ rw_ wa ct rk rb cn br sm as_ go sh_ ir oa ob th ig sp_ ki tg of_ kp sf rs), (aI g fd 500 fb)]) hK hP hD hS hA hE [2, 3] rfl rfl 2 rfl rfl) rfl rfl hl.1 rfl (lv_room (Nat.le_of_ble_eq_true rfl)) dX11_clause_64 ⟨(Nat.le_of_ble_eq_true rfl), (Nat.le_of_ble_eq_true rfl)⟩) hP hD hS hA [2, 3] (he_is [0, 1] [(aI g rt_ 25 rt), (aM g rw_ 6 (he_ro 6 r1)), (oX11 m0 tw ta (nI n) pl (nI k2_4) 0 fw cs fd rfm rt_ to_ rw_ wa ct rk rb cn br sm as_ go sh_ ir oa ob th ig sp_ ki tg of_ kp sf rs), (aI g fd 500 fb)] (he_pl g L ln M)) rfl (he_ixP rfl) (he_ndP rfl rfl) (he_disN (by decide) rfl) (fun u_206 H locs h_207 hP hD hS => ?_)
            have hP := va_P.swap hP
            have hD := va_D.swap hD
            obtain ⟨k2_208, rfl⟩ : ∃ z, z = u_206 := ⟨_, rfl⟩
            try dsimp only at h_207
            obtain ⟨hf_209, hf_210⟩ := h_207
            have hP : va_P g.1 vwCl ([(aI g rt_ 25 rt), (aM g rw_ 6 (he_ro 6 r1)), (oX11 m0 tw ta (nI n) pl (nI k2_208) 0 fw cs fd rfm rt_ to_ rw_ wa ct rk rb cn br sm as_ go sh_ ir oa ob th ig sp_ ki tg of_ kp sf rs), (aI g fd 500 fb)] ++ he_pl g L ln M) H := hP
            have hD : va_D A ([(aI g rt_ 25 rt), (aM g rw_ 6 (he_ro 6 r1)), (oX11 m0 tw ta (nI n) pl (nI k2_208) 0 fw cs fd rfm rt_ to_ rw_ wa ct rk rb cn br sm as_ go sh_ ir oa ob th ig sp_ ki tg of_ kp sf rs), (aI g fd 500 fb)] ++ he_pl g L ln M) := hD
            refine lv_aload_n hx hb dX11_clause_67 rfl (lv_at hl 1 rfl) ?_
            refine lv_dup hx hb dX11_clause_68 rfl ?_
            refine va_get (v := .int cs) (T := TX11) (N := 35) hx hb hts inX11 hown hK hP 2 rfl rfl 7 (by decide) f131 (fun _ h9 => h9) rfl dX11_clause_69 ?_
            refine lv_iconst (v := 1) hx hb dX11_clause_72 (by decide) ?_
            refine lv_iadd hx hb dX11_clause_73 ?_
            refine va_put (v := .int (cs + 1)) (ty := .int) (T := TX11) (N := 35) hx hb hts inX11 tyX11 tyX11_ok nmX11 hown hK hP hD hS 2 rfl rfl 7 (by decide) f131 (fun _ h9 => h9) rfl (by decide +kernel) rfl rfl (Nat.le_of_ble_eq_true rfl) dX11_clause_74 (fun H locs hP hD hS => ?_)
            have hP : va_P g.1 vwCl ([(aI g rt_ 25 rt), (aM g rw_ 6 (he_ro 6 r1)), (oX11 m0 tw ta (nI n) pl (nI k2_208) 0 fw (cs + 1) fd rfm rt_ to_ rw_ wa ct rk rb cn br sm as_ go sh_ ir oa ob th ig sp_ ki tg of_ kp sf rs), (aI g fd 500 fb)] ++ he_pl g L ln M) H := hP
            have hD : va_D A ([(aI g rt_ 25 rt), (aM g rw_ 6 (he_ro 6 r1)), (oX11 m0 tw ta (nI n) pl (nI k2_208) 0 fw (cs + 1) fd rfm rt_ to_ rw_ wa ct rk rb cn br sm as_ go sh_ ir oa ob th ig sp_ ki tg of_ kp sf rs), (aI g fd 500 fb)] ++ he_pl g L ln M) := hD
            refine lv_iload_n hx hb dX11_clause_77 rfl (lv_at hl 0 rfl) ?_
            refine lv_tableIn (tgt := 273) hx hb dX11_clause_78 (by decide) (by decide) rfl (by decide) ?_
            refine lv_aload_n hx hb dX11_clause_273 rfl (lv_at hl 1 rfl) ?_
            refine va_get (v := .ref rt_) (T := TX11) (N := 35) hx hb hts inX11 hown hK hP 2 rfl rfl 10 (by decide) f20 (fun _ h9 => h9) rfl dX11_clause_274 ?_
            refine lv_bipush (v := 9) hx hb dX11_clause_277 (by decide) ?_
            refine lv_aload_n hx hb dX11_clause_279 rfl (lv_at hl 1 rfl) ?_
            refine lv_iconst (v := 0) hx hb dX11_clause_280 (by decide) ?_
            refine lv_bipush (v := 100) hx hb dX11_clause_281 (by decide) ?_
            refine he_ci (wc := [(oX11 m0 tw ta (nI n) pl (nI k2_208) 0 fw (cs + 1) fd rfm rt_ to_ rw_ wa ct rk rb cn br sm as_ go sh_ ir oa ob th ig sp_ ki tg of_ kp sf rs), (aI g fd 500 fb)]) (wr := ([(aI g rt_ 25 rt), (aM g rw_ 6 (he_ro 6 r1))] ++ (he_pl g L ln M))) (va_runV (As := [.int 0, .int 100]) (rest := [.int 9, .ref rt_]) ⟨hx, hb, hml, hown, hts⟩ (h_X11_number l g m0 fd rfm rt_ to_ rw_ wa rk rb cn br sm as_ go sh_ ki tg of_ kp rs ta pl (cs + 1) ct ir oa ob th ig sp_ sf tw n k2_208 0 fw fb 0 100 (by first | assumption | decide | omega) (by first | assumption | decide | omega) H.size) (cwV 2 hts gX11_clause_X11_number rfl rfl rfl (by decide +kernel) ⟨Nat.le_of_ble_eq_true rfl, Nat.le_of_ble_eq_true rfl⟩) (he_preV (wc := [(oX11 m0 tw ta (nI n) pl (nI k2_208) 0 fw (cs + 1) fd rfm rt_ to_ rw_ wa ct rk rb cn br sm as_ go sh_ ir oa ob th ig sp_ ki tg of_ kp sf rs), (aI g fd 500 fb)]) hK hP hD hS hA hE [2, 3] rfl rfl 2 rfl rfl) rfl rfl hl.1 rfl (lv_room (Nat.le_of_ble_eq_true rfl)) dX11_clause_283 ⟨(Nat.le_of_ble_eq_true rfl), (Nat.le_of_ble_eq_true rfl)⟩) hP hD hS hA [2, 3] (he_is [0, 1] [(aI g rt_ 25 rt), (aM g rw_ 6 (he_ro 6 r1)), (oX11 m0 tw ta (nI n) pl (nI k2_208) 0 fw (cs + 1) fd rfm rt_ to_ rw_ wa ct rk rb cn br sm as_ go sh_ ir oa ob th ig sp_ ki tg of_ kp sf rs), (aI g fd 500 fb)] (he_pl g L ln M)) rfl (he_ixP rfl) (he_ndP rfl rfl) (he_disN (by decide) rfl) (fun r_211 u_212 H locs h_213 hP hD hS => ?_)
            have hP := va_P.swap hP
            have hD := va_D.swap hD
            obtain ⟨k2_214, fb2_215, fw2_216⟩ := u_212
            try dsimp only at h_213
            obtain ⟨hf_217, hf_218, hf_219⟩ := h_213
            have hP : va_P g.1 vwCl ([(aI g rt_ 25 rt), (aM g rw_ 6 (he_ro 6 r1)), (oX11 m0 tw ta (nI n) pl (nI k2_214) fb2_215 fw2_216 (cs + 1) fd rfm rt_ to_ rw_ wa ct rk rb cn br sm as_ go sh_ ir oa ob th ig sp_ ki tg of_ kp sf rs), (aI g fd 500 fb)] ++ he_pl g L ln M) H := hP
            have hD : va_D A ([(aI g rt_ 25 rt), (aM g rw_ 6 (he_ro 6 r1)), (oX11 m0 tw ta (nI n) pl (nI k2_214) fb2_215 fw2_216 (cs + 1) fd rfm rt_ to_ rw_ wa ct rk rb cn br sm as_ go sh_ ir oa ob th ig sp_ ki tg of_ kp sf rs), (aI g fd 500 fb)] ++ he_pl g L ln M) := hD
            refine he_iast hx hb hK hP hD hS 0 rfl (9) (by decide) (by decide) (by first | decide | assumption) dX11_clause_286 (fun H locs hP hD hS => ?_)
            have hP : va_P g.1 vwCl ([(aI g rt_ 25 (upd rt 9 r_211)), (aM g rw_ 6 (he_ro 6 r1)), (oX11 m0 tw ta (nI n) pl (nI k2_214) fb2_215 fw2_216 (cs + 1) fd rfm rt_ to_ rw_ wa ct rk rb cn br sm as_ go sh_ ir oa ob th ig sp_ ki tg of_ kp sf rs), (aI g fd 500 fb)] ++ he_pl g L ln M) H := hP
            have hD : va_D A ([(aI g rt_ 25 (upd rt 9 r_211)), (aM g rw_ 6 (he_ro 6 r1)), (oX11 m0 tw ta (nI n) pl (nI k2_214) fb2_215 fw2_216 (cs + 1) fd rfm rt_ to_ rw_ wa ct rk rb cn br sm as_ go sh_ ir oa ob th ig sp_ ki tg of_ kp sf rs), (aI g fd 500 fb)] ++ he_pl g L ln M) := hD
            refine lv_aload_n hx hb dX11_clause_287 rfl (lv_at hl 1 rfl) ?_
            refine va_get (v := .ref rt_) (T := TX11) (N := 35) hx hb hts inX11 hown hK hP 2 rfl rfl 10 (by decide) f20 (fun _ h9 => h9) rfl dX11_clause_288 ?_
            refine lv_bipush (v := 10) hx hb dX11_clause_291 (by decide) ?_
            refine lv_aload_n hx hb dX11_clause_293 rfl (lv_at hl 1 rfl) ?_
            refine lv_iconst (v := 0) hx hb dX11_clause_294 (by decide) ?_
            refine lv_bipush (v := 50) hx hb dX11_clause_295 (by decide) ?_
            refine he_ci (wc := [(oX11 m0 tw ta (nI n) pl (nI k2_214) fb2_215 fw2_216 (cs + 1) fd rfm rt_ to_ rw_ wa ct rk rb cn br sm as_ go sh_ ir oa ob th ig sp_ ki tg of_ kp sf rs), (aI g fd 500 fb)]) (wr := ([(aI g rt_ 25 (upd rt 9 r_211)), (aM g rw_ 6 (he_ro 6 r1))] ++ (he_pl g L ln M))) (va_runV (As := [.int 0, .int 50]) (rest := [.int 10, .ref rt_]) ⟨hx, hb, hml, hown, hts⟩ (h_X11_number l g m0 fd rfm rt_ to_ rw_ wa rk rb cn br sm as_ go sh_ ki tg of_ kp rs ta pl (cs + 1) ct ir oa ob th ig sp_ sf tw n k2_214 fb2_215 fw2_216 fb 0 50 (by first | assumption | decide | omega) (by first | assumption | decide | omega) H.size) (cwV 2 hts gX11_clause_X11_number rfl rfl rfl (by decide +kernel) ⟨Nat.le_of_ble_eq_true rfl, Nat.le_of_ble_eq_true rfl⟩) (he_preV (wc := [(oX11 m0 tw ta (nI n) pl (nI k2_214) fb2_215 fw2_216 (cs + 1) fd rfm rt_ to_ rw_ wa ct rk rb cn br sm as_ go sh_ ir oa ob th ig sp_ ki tg of_ kp sf rs), (aI g fd 500 fb)]) hK hP hD hS hA hE [2, 3] rfl rfl 2 rfl rfl) rfl rfl hl.1 rfl (lv_room (Nat.le_of_ble_eq_true rfl)) dX11_clause_297 ⟨(Nat.le_of_ble_eq_true rfl), (Nat.le_of_ble_eq_true rfl)⟩) hP hD hS hA [2, 3] (he_is [0, 1] [(aI g rt_ 25 (upd rt 9 r_211)), (aM g rw_ 6 (he_ro 6 r1)), (oX11 m0 tw ta (nI n) pl (nI k2_214) fb2_215 fw2_216 (cs + 1) fd rfm rt_ to_ rw_ wa ct rk rb cn br sm as_ go sh_ ir oa ob th ig sp_ ki tg of_ kp sf rs), (aI g fd 500 fb)] (he_pl g L ln M)) rfl (he_ixP rfl) (he_ndP rfl rfl) (he_disN (by decide) rfl) (fun r_220 u_221 H locs h_222 hP hD hS => ?_)
            have hP := va_P.swap hP
            have hD := va_D.swap hD
            obtain ⟨k2_223, fb2_224, fw2_225⟩ := u_221
            try dsimp only at h_222
            obtain ⟨hf_226, hf_227, hf_228⟩ := h_222
            have hP : va_P g.1 vwCl ([(aI g rt_ 25 (upd rt 9 r_211)), (aM g rw_ 6 (he_ro 6 r1)), (oX11 m0 tw ta (nI n) pl (nI k2_223) fb2_224 fw2_225 (cs + 1) fd rfm rt_ to_ rw_ wa ct rk rb cn br sm as_ go sh_ ir oa ob th ig sp_ ki tg of_ kp sf rs), (aI g fd 500 fb)] ++ he_pl g L ln M) H := hP
            have hD : va_D A ([(aI g rt_ 25 (upd rt 9 r_211)), (aM g rw_ 6 (he_ro 6 r1)), (oX11 m0 tw ta (nI n) pl (nI k2_223) fb2_224 fw2_225 (cs + 1) fd rfm rt_ to_ rw_ wa ct rk rb cn br sm as_ go sh_ ir oa ob th ig sp_ ki tg of_ kp sf rs), (aI g fd 500 fb)] ++ he_pl g L ln M) := hD
            refine he_iast hx hb hK hP hD hS 0 rfl (10) (by decide) (by decide) (by first | decide | assumption) dX11_clause_300 (fun H locs hP hD hS => ?_)
            have hP : va_P g.1 vwCl ([(aI g rt_ 25 (upd (upd rt 9 r_211) 10 r_220)), (aM g rw_ 6 (he_ro 6 r1)), (oX11 m0 tw ta (nI n) pl (nI k2_223) fb2_224 fw2_225 (cs + 1) fd rfm rt_ to_ rw_ wa ct rk rb cn br sm as_ go sh_ ir oa ob th ig sp_ ki tg of_ kp sf rs), (aI g fd 500 fb)] ++ he_pl g L ln M) H := hP
            have hD : va_D A ([(aI g rt_ 25 (upd (upd rt 9 r_211) 10 r_220)), (aM g rw_ 6 (he_ro 6 r1)), (oX11 m0 tw ta (nI n) pl (nI k2_223) fb2_224 fw2_225 (cs + 1) fd rfm rt_ to_ rw_ wa ct rk rb cn br sm as_ go sh_ ir oa ob th ig sp_ ki tg of_ kp sf rs), (aI g fd 500 fb)] ++ he_pl g L ln M) := hD
            refine lv_aload_n hx hb dX11_clause_301 rfl (lv_at hl 1 rfl) ?_
            refine va_get (v := .ref rt_) (T := TX11) (N := 35) hx hb hts inX11 hown hK hP 2 rfl rfl 10 (by decide) f20 (fun _ h9 => h9) rfl dX11_clause_302 ?_
            refine lv_bipush (v := 11) hx hb dX11_clause_305 (by decide) ?_
            refine lv_aload_n hx hb dX11_clause_307 rfl (lv_at hl 1 rfl) ?_
            refine lv_iconst (v := 0) hx hb dX11_clause_308 (by decide) ?_
            refine lv_bipush (v := 50) hx hb dX11_clause_309 (by decide) ?_
            refine he_ci (wc := [(oX11 m0 tw ta (nI n) pl (nI k2_223) fb2_224 fw2_225 (cs + 1) fd rfm rt_ to_ rw_ wa ct rk rb cn br sm as_ go sh_ ir oa ob th ig sp_ ki tg of_ kp sf rs), (aI g fd 500 fb)]) (wr := ([(aI g rt_ 25 (upd (upd rt 9 r_211) 10 r_220)), (aM g rw_ 6 (he_ro 6 r1))] ++ (he_pl g L ln M))) (va_runV (As := [.int 0, .int 50]) (rest := [.int 11, .ref rt_]) ⟨hx, hb, hml, hown, hts⟩ (h_X11_number l g m0 fd rfm rt_ to_ rw_ wa rk rb cn br sm as_ go sh_ ki tg of_ kp rs ta pl (cs + 1) ct ir oa ob th ig sp_ sf tw n k2_223 fb2_224 fw2_225 fb 0 50 (by first | assumption | decide | omega) (by first | assumption | decide | omega) H.size) (cwV 2 hts gX11_clause_X11_number rfl rfl rfl (by decide +kernel) ⟨Nat.le_of_ble_eq_true rfl, Nat.le_of_ble_eq_true rfl⟩) (he_preV (wc := [(oX11 m0 tw ta (nI n) pl (nI k2_223) fb2_224 fw2_225 (cs + 1) fd rfm rt_ to_ rw_ wa ct rk rb cn br sm as_ go sh_ ir oa ob th ig sp_ ki tg of_ kp sf rs), (aI g fd 500 fb)]) hK hP hD hS hA hE [2, 3] rfl rfl 2 rfl rfl) rfl rfl hl.1 rfl (lv_room (Nat.le_of_ble_eq_true rfl)) dX11_clause_311 ⟨(Nat.le_of_ble_eq_true rfl), (Nat.le_of_ble_eq_true rfl)⟩) hP hD hS hA [2, 3] (he_is [0, 1] [(aI g rt_ 25 (upd (upd rt 9 r_211) 10 r_220)), (aM g rw_ 6 (he_ro 6 r1)), (oX11 m0 tw ta (nI n) pl (nI k2_223) fb2_224 fw2_225 (cs + 1) fd rfm rt_ to_ rw_ wa ct rk rb cn br sm as_ go sh_ ir oa ob th ig sp_ ki tg of_ kp sf rs), (aI g fd 500 fb)] (he_pl g L ln M)) rfl (he_ixP rfl) (he_ndP rfl rfl) (he_disN (by decide) rfl) (fun r_229 u_230 H locs h_231 hP hD hS => ?_)
            have hP := va_P.swap hP
            have hD := va_D.swap hD
            obtain ⟨k2_232, fb2_233, fw2_234⟩ := u_230
            try dsimp only at h_231
            obtain ⟨hf_235, hf_236, hf_237⟩ := h_231
            have hP : va_P g.1 vwCl ([(aI g rt_ 25 (upd (upd rt 9 r_211) 10 r_220)), (aM g rw_ 6 (he_ro 6 r1)), (oX11 m0 tw ta (nI n) pl (nI k2_232) fb2_233 fw2_234 (cs + 1) fd rfm rt_ to_ rw_ wa ct rk rb cn br sm as_ go sh_ ir oa ob th ig sp_ ki tg of_ kp sf rs), (aI g fd 500 fb)] ++ he_pl g L ln M) H := hP
            have hD : va_D A ([(aI g rt_ 25 (upd (upd rt 9 r_211) 10 r_220)), (aM g rw_ 6 (he_ro 6 r1)), (oX11 m0 tw ta (nI n) pl (nI k2_232) fb2_233 fw2_234 (cs + 1) fd rfm rt_ to_ rw_ wa ct rk rb cn br sm as_ go sh_ ir oa ob th ig sp_ ki tg of_ kp sf rs), (aI g fd 500 fb)] ++ he_pl g L ln M) := hD
            refine he_iast hx hb hK hP hD hS 0 rfl (11) (by decide) (by decide) (by first | decide | assumption) dX11_clause_314 (fun H locs hP hD hS => ?_)
            have hP : va_P g.1 vwCl ([(aI g rt_ 25 (upd (upd (upd rt 9 r_211) 10 r_220) 11 r_229)), (aM g rw_ 6 (he_ro 6 r1)), (oX11 m0 tw ta (nI n) pl (nI k2_232) fb2_233 fw2_234 (cs + 1) fd rfm rt_ to_ rw_ wa ct rk rb cn br sm as_ go sh_ ir oa ob th ig sp_ ki tg of_ kp sf rs), (aI g fd 500 fb)] ++ he_pl g L ln M) H := hP
            have hD : va_D A ([(aI g rt_ 25 (upd (upd (upd rt 9 r_211) 10 r_220) 11 r_229)), (aM g rw_ 6 (he_ro 6 r1)), (oX11 m0 tw ta (nI n) pl (nI k2_232) fb2_233 fw2_234 (cs + 1) fd rfm rt_ to_ rw_ wa ct rk rb cn br sm as_ go sh_ ir oa ob th ig sp_ ki tg of_ kp sf rs), (aI g fd 500 fb)] ++ he_pl g L ln M) := hD
            refine lv_goto (tgt := 393) hx hb dX11_clause_315 (by decide) ?_
            refine lv_aload_n hx hb dX11_clause_393 rfl (lv_at hl 1 rfl) ?_
            refine he_cv (wc := [(oX11 m0 tw ta (nI n) pl (nI k2_232) fb2_233 fw2_234 (cs + 1) fd rfm rt_ to_ rw_ wa ct rk rb cn br sm as_ go sh_ ir oa ob th ig sp_ ki tg of_ kp sf rs), (aI g fd 500 fb)]) (wr := ([(aI g rt_ 25 (upd (upd (upd rt 9 r_211) 10 r_220) 11 r_229)), (aM g rw_ 6 (he_ro 6 r1))] ++ (he_pl g L ln M))) (va_runV (As := []) (rest := []) ⟨hx, hb, hml, hown, hts⟩ (h_X11_closes l g m0 fd rfm rt_ to_ rw_ wa rk rb cn br sm as_ go sh_ ki tg of_ kp rs ta pl (cs + 1) ct ir oa ob th ig sp_ sf tw n k2_232 fb2_233 fw2_234 fb (by first | assumption | decide | omega) (by first | assumption | decide | omega) H.size) (cwV 0 hts gX11_clause_X11_closes rfl rfl rfl (by decide +kernel) ⟨Nat.le_of_ble_eq_true rfl, Nat.le_of_ble_eq_true rfl⟩) (he_preV (wc := [(oX11 m0 tw ta (nI n) pl (nI k2_232) fb2_233 fw2_234 (cs + 1) fd rfm rt_ to_ rw_ wa ct rk rb cn br sm as_ go sh_ ir oa ob th ig sp_ ki tg of_ kp sf rs), (aI g fd 500 fb)]) hK hP hD hS hA hE [2, 3] rfl rfl 2 rfl rfl) rfl rfl hl.1 rfl (lv_room (Nat.le_of_ble_eq_true rfl)) dX11_clause_394 ⟨(Nat.le_of_ble_eq_true rfl), (Nat.le_of_ble_eq_true rfl)⟩) hP hD hS hA [2, 3] (he_is [0, 1] [(aI g rt_ 25 (upd (upd (upd rt 9 r_211) 10 r_220) 11 r_229)), (aM g rw_ 6 (he_ro 6 r1)), (oX11 m0 tw ta (nI n) pl (nI k2_232) fb2_233 fw2_234 (cs + 1) fd rfm rt_ to_ rw_ wa ct rk rb cn br sm as_ go sh_ ir oa ob th ig sp_ ki tg of_ kp sf rs), (aI g fd 500 fb)] (he_pl g L ln M)) rfl (he_ixP rfl) (he_ndP rfl rfl) (he_disN (by decide) rfl) (fun u_239 H locs h_240 hP hD hS => ?_)
            have hP := va_P.swap hP
            have hD := va_D.swap hD
            obtain ⟨k2_241, fb2_242, fw2_243⟩ := u_239
            try dsimp only at h_240
            obtain ⟨hf_244, hf_245, hf_246⟩ := h_240
            have hP : va_P g.1 vwCl ([(aI g rt_ 25 (upd (upd (upd rt 9 r_211) 10 r_220) 11 r_229)), (aM g rw_ 6 (he_ro 6 r1)), (oX11 m0 tw ta (nI n) pl (nI k2_241) fb2_242 fw2_243 (cs + 1) fd rfm rt_ to_ rw_ wa ct rk rb cn br sm as_ go sh_ ir oa ob th ig sp_ ki tg of_ kp sf rs), (aI g fd 500 fb)] ++ he_pl g L ln M) H := hP
            have hD : va_D A ([(aI g rt_ 25 (upd (upd (upd rt 9 r_211) 10 r_220) 11 r_229)), (aM g rw_ 6 (he_ro 6 r1)), (oX11 m0 tw ta (nI n) pl (nI k2_241) fb2_242 fw2_243 (cs + 1) fd rfm rt_ to_ rw_ wa ct rk rb cn br sm as_ go sh_ ir oa ob th ig sp_ ki tg of_ kp sf rs), (aI g fd 500 fb)] ++ he_pl g L ln M) := hD
            have hP := he_Psub (X := [(aI g rt_ 25 (upd (upd (upd rt 9 r_211) 10 r_220) 11 r_229)), (aM g rw_ 6 (he_ro 6 r1)), (oX11 m0 tw ta (nI n) pl (nI k2_241) fb2_242 fw2_243 (cs + 1) fd rfm rt_ to_ rw_ wa ct rk rb cn br sm as_ go sh_ ir oa ob th ig sp_ ki tg of_ kp sf rs), (aI g fd 500 fb)]) (X2 := [(oX11 m0 tw ta (nI n) pl (nI k2_241) fb2_242 fw2_243 (cs + 1) fd rfm rt_ to_ rw_ wa ct rk rb cn br sm as_ go sh_ ir oa ob th ig sp_ ki tg of_ kp sf rs), (aI g fd 500 fb), (aI g rt_ 25 (upd (upd (upd rt 9 r_211) 10 r_220) 11 r_229)), (aM g rw_ 6 (he_ro 6 r1))]) (P := (he_pl g L ln M)) hP [2, 3, 0, 1] rfl
            have hD := he_Dsub (X := [(aI g rt_ 25 (upd (upd (upd rt 9 r_211) 10 r_220) 11 r_229)), (aM g rw_ 6 (he_ro 6 r1)), (oX11 m0 tw ta (nI n) pl (nI k2_241) fb2_242 fw2_243 (cs + 1) fd rfm rt_ to_ rw_ wa ct rk rb cn br sm as_ go sh_ ir oa ob th ig sp_ ki tg of_ kp sf rs), (aI g fd 500 fb)]) (X2 := [(oX11 m0 tw ta (nI n) pl (nI k2_241) fb2_242 fw2_243 (cs + 1) fd rfm rt_ to_ rw_ wa ct rk rb cn br sm as_ go sh_ ir oa ob th ig sp_ ki tg of_ kp sf rs), (aI g fd 500 fb), (aI g rt_ 25 (upd (upd (upd rt 9 r_211) 10 r_220) 11 r_229)), (aM g rw_ 6 (he_ro 6 r1))]) (P := (he_pl g L ln M)) hD [2, 3, 0, 1] rfl rfl rfl
            exact he_rv hQ hx hb hr hlk hP hD hS dX11_clause_397 (Nat.le_of_ble_eq_true rfl) (Nat.le_of_ble_eq_true rfl) ((k2_241, fb2_242, fw2_243, cs + 1, w, upd (upd (upd rt 9 r_211) 10 r_220) 11 r_229, M)) (rfl) (by (try dsimp only); exact ⟨by (try dsimp only); omega, by (try dsimp only); omega, (hf_246.imp_right (fun h9 => ⟨h9.1, by have := h9.2.2; omega⟩)), by (try dsimp only); omega, (by (try dsimp only); rw [upd_n (by (try dsimp only); omega), upd_n (by (try dsimp only); omega), upd_n (by (try dsimp only); omega)]; exact hrt), (mEx_refl _ _ _)⟩)
          · exact absurd (by decide) c_204
        · exact absurd c_203 (by decide)
    · exact absurd c_197 (by decide)
  · skip
    refine lv_istore_n (lv' := [(1, .int 12), (0, .ref m0)]) hx hb dX11_clause_4 rfl hl (by decide) rfl (fun ls hl => ?_)
    refine lv_iload_n hx hb dX11_clause_5 rfl (lv_at hl 0 rfl) ?_
    refine lv_iconst (v := (-1)) hx hb dX11_clause_6 (by decide) ?_
    refine lv_icmp_ne (tgt := 22) hx hb dX11_clause_7 (by decide) (fun c_247 => ?_) (fun c_247 => ?_)
    · refine lv_aload_n hx hb dX11_clause_22 rfl (lv_at hl 1 rfl) ?_
      refine va_get (v := .int cs) (T := TX11) (N := 35) hx hb hts inX11 hown hK hP 2 rfl rfl 7 (by decide) f131 (fun _ h9 => h9) rfl dX11_clause_23 ?_
      refine lv_bipush (v := 60) hx hb dX11_clause_26 (by decide) ?_
      refine lv_icmp_eq (tgt := 46) hx hb dX11_clause_28 (by decide) (fun c_248 => ?_) (fun c_248 => ?_)
      · refine lv_aload_n hx hb dX11_clause_46 rfl (lv_at hl 1 rfl) ?_
        refine lv_iconst (v := 3) hx hb dX11_clause_47 (by decide) ?_
        refine lv_aload_n hx hb dX11_clause_48 rfl (lv_at hl 1 rfl) ?_
        refine va_get (v := .int (nI k2_4)) (T := TX11) (N := 35) hx hb hts inX11 hown hK hP 2 rfl rfl 4 (by decide) f94 (fun _ h9 => h9) rfl dX11_clause_49 ?_
        refine he_cv (wc := [(oX11 m0 tw ta (nI n) pl (nI k2_4) 0 fw cs fd rfm rt_ to_ rw_ wa ct rk rb cn br sm as_ go sh_ ir oa ob th ig sp_ ki tg of_ kp sf rs), (aI g fd 500 fb)]) (wr := ([(aI g rt_ 25 rt), (aM g rw_ 6 (he_ro 6 r1))] ++ (he_pl g L ln M))) (va_runV (As := [.int 3, .int (nI k2_4)]) (rest := []) ⟨hx, hb, hml, hown, hts⟩ (h_X11_wrong l g m0 fd rfm rt_ to_ rw_ wa rk rb cn br sm as_ go sh_ ki tg of_ kp rs ta pl cs ct ir oa ob th ig sp_ sf tw n k2_4 0 fw fb 3 (nI k2_4) H.size) (cwV 2 hts gX11_clause_X11_wrong rfl rfl rfl (by decide +kernel) ⟨Nat.le_of_ble_eq_true rfl, Nat.le_of_ble_eq_true rfl⟩) (he_preV (wc := [(oX11 m0 tw ta (nI n) pl (nI k2_4) 0 fw cs fd rfm rt_ to_ rw_ wa ct rk rb cn br sm as_ go sh_ ir oa ob th ig sp_ ki tg of_ kp sf rs), (aI g fd 500 fb)]) hK hP hD hS hA hE [2, 3] rfl rfl 2 rfl rfl) rfl rfl hl.1 rfl (lv_room (Nat.le_of_ble_eq_true rfl)) dX11_clause_52 ⟨(Nat.le_of_ble_eq_true rfl), (Nat.le_of_ble_eq_true rfl)⟩) hP hD hS hA [2, 3] (he_is [0, 1] [(aI g rt_ 25 rt), (aM g rw_ 6 (he_ro 6 r1)), (oX11 m0 tw ta (nI n) pl (nI k2_4) 0 fw cs fd rfm rt_ to_ rw_ wa ct rk rb cn br sm as_ go sh_ ir oa ob th ig sp_ ki tg of_ kp sf rs), (aI g fd 500 fb)] (he_pl g L ln M)) rfl (he_ixP rfl) (he_ndP rfl rfl) (he_disN (by decide) rfl) (fun u_250 H locs h_251 hP hD hS => ?_)
        have hP := va_P.swap hP
        have hD := va_D.swap hD
        have hP : va_P g.1 vwCl ([(aI g rt_ 25 rt), (aM g rw_ 6 (he_ro 6 r1)), (oX11 m0 tw ta (nI n) pl (nI k2_4) (wrF 0 3) (wrA 0 fw (nI k2_4)) cs fd rfm rt_ to_ rw_ wa ct rk rb cn br sm as_ go sh_ ir oa ob th ig sp_ ki tg of_ kp sf rs), (aI g fd 500 fb)] ++ he_pl g L ln M) H := hP
        have hD : va_D A ([(aI g rt_ 25 rt), (aM g rw_ 6 (he_ro 6 r1)), (oX11 m0 tw ta (nI n) pl (nI k2_4) (wrF 0 3) (wrA 0 fw (nI k2_4)) cs fd rfm rt_ to_ rw_ wa ct rk rb cn br sm as_ go sh_ ir oa ob th ig sp_ ki tg of_ kp sf rs), (aI g fd 500 fb)] ++ he_pl g L ln M) := hD
        refine lv_aload_n hx hb dX11_clause_55 rfl (lv_at hl 1 rfl) ?_
        refine va_get (v := .int (wrF 0 3)) (T := TX11) (N := 35) hx hb hts inX11 hown hK hP 2 rfl rfl 5 (by decide) f101 (fun _ h9 => h9) rfl dX11_clause_56 ?_
        refine lv_if_eq (tgt := 63) hx hb dX11_clause_59 (by decide) (fun c_252 => ?_) (fun c_252 => ?_)
        · exact absurd c_252 (by decide)
        · have hP := he_Psub (X := [(aI g rt_ 25 rt), (aM g rw_ 6 (he_ro 6 r1)), (oX11 m0 tw ta (nI n) pl (nI k2_4) (wrF 0 3) (wrA 0 fw (nI k2_4)) cs fd rfm rt_ to_ rw_ wa ct rk rb cn br sm as_ go sh_ ir oa ob th ig sp_ ki tg of_ kp sf rs), (aI g fd 500 fb)]) (X2 := [(oX11 m0 tw ta (nI n) pl (nI k2_4) (wrF 0 3) (wrA 0 fw (nI k2_4)) cs fd rfm rt_ to_ rw_ wa ct rk rb cn br sm as_ go sh_ ir oa ob th ig sp_ ki tg of_ kp sf rs), (aI g fd 500 fb), (aI g rt_ 25 rt), (aM g rw_ 6 (he_ro 6 r1))]) (P := (he_pl g L ln M)) hP [2, 3, 0, 1] rfl
          have hD := he_Dsub (X := [(aI g rt_ 25 rt), (aM g rw_ 6 (he_ro 6 r1)), (oX11 m0 tw ta (nI n) pl (nI k2_4) (wrF 0 3) (wrA 0 fw (nI k2_4)) cs fd rfm rt_ to_ rw_ wa ct rk rb cn br sm as_ go sh_ ir oa ob th ig sp_ ki tg of_ kp sf rs), (aI g fd 500 fb)]) (X2 := [(oX11 m0 tw ta (nI n) pl (nI k2_4) (wrF 0 3) (wrA 0 fw (nI k2_4)) cs fd rfm rt_ to_ rw_ wa ct rk rb cn br sm as_ go sh_ ir oa ob th ig sp_ ki tg of_ kp sf rs), (aI g fd 500 fb), (aI g rt_ 25 rt), (aM g rw_ 6 (he_ro 6 r1))]) (P := (he_pl g L ln M)) hD [2, 3, 0, 1] rfl rfl rfl
          exact he_rv hQ hx hb hr hlk hP hD hS dX11_clause_62 (Nat.le_of_ble_eq_true rfl) (Nat.le_of_ble_eq_true rfl) ((k2_4, wrF 0 3, wrA 0 fw (nI k2_4), cs, w, rt, M)) (rfl) (by (try dsimp only); exact ⟨by (try dsimp only); omega, by (try dsimp only); omega, (Or.inl (by (try dsimp only); decide)), by (try dsimp only); omega, hrt, (mEx_refl _ _ _)⟩)
      · refine lv_iload_n hx hb dX11_clause_31 rfl (lv_at hl 0 rfl) ?_
        refine lv_if_ne (tgt := 55) hx hb dX11_clause_32 (by decide) (fun c_253 => ?_) (fun c_253 => ?_)
        · refine lv_aload_n hx hb dX11_clause_55 rfl (lv_at hl 1 rfl) ?_
          refine va_get (v := .int 0) (T := TX11) (N := 35) hx hb hts inX11 hown hK hP 2 rfl rfl 5 (by decide) f101 (fun _ h9 => h9) rfl dX11_clause_56 ?_
          refine lv_if_eq (tgt := 63) hx hb dX11_clause_59 (by decide) (fun c_254 => ?_) (fun c_254 => ?_)
          · refine lv_aload_n hx hb dX11_clause_63 rfl (lv_at hl 1 rfl) ?_
            refine he_cv (wc := [(oX11 m0 tw ta (nI n) pl (nI k2_4) 0 fw cs fd rfm rt_ to_ rw_ wa ct rk rb cn br sm as_ go sh_ ir oa ob th ig sp_ ki tg of_ kp sf rs), (aI g fd 500 fb)]) (wr := ([(aI g rt_ 25 rt), (aM g rw_ 6 (he_ro 6 r1))] ++ (he_pl g L ln M))) (va_runV (As := []) (rest := []) ⟨hx, hb, hml, hown, hts⟩ (h_X11_skipWord l g m0 fd rfm rt_ to_ rw_ wa rk rb cn br sm as_ go sh_ ki tg of_ kp rs ta pl cs ct ir oa ob th ig sp_ sf tw n k2_4 0 fw fb (by first | assumption | decide | omega) (by first | assumption | decide | omega) H.size) (cwV 0 hts gX11_clause_X11_skipWord rfl rfl rfl (by decide +kernel) ⟨Nat.le_of_ble_eq_true rfl, Nat.le_of_ble_eq_true rfl⟩) (he_preV (wc := [(oX11 m0 tw ta (nI n) pl (nI k2_4) 0 fw cs fd rfm rt_ to_ rw_ wa ct rk rb cn br sm as_ go sh_ ir oa ob th ig sp_ ki tg of_ kp sf rs), (aI g fd 500 fb)]) hK hP hD hS hA hE [2, 3] rfl rfl 2 rfl rfl) rfl rfl hl.1 rfl (lv_room (Nat.le_of_ble_eq_true rfl)) dX11_clause_64 ⟨(Nat.le_of_ble_eq_true rfl), (Nat.le_of_ble_eq_true rfl)⟩) hP hD hS hA [2, 3] (he_is [0, 1] [(aI g rt_ 25 rt), (aM g rw_ 6 (he_ro 6 r1)), (oX11 m0 tw ta (nI n) pl (nI k2_4) 0 fw cs fd rfm rt_ to_ rw_ wa ct rk rb cn br sm as_ go sh_ ir oa ob th ig sp_ ki tg of_ kp sf rs), (aI g fd 500 fb)] (he_pl g L ln M)) rfl (he_ixP rfl) (he_ndP rfl rfl) (he_disN (by decide) rfl) (fun u_256 H locs h_257 hP hD hS => ?_)
            have hP := va_P.swap hP
            have hD := va_D.swap hD
            obtain ⟨k2_258, rfl⟩ : ∃ z, z = u_256 := ⟨_, rfl⟩
            try dsimp only at h_257
            obtain ⟨hf_259, hf_260⟩ := h_257
            have hP : va_P g.1 vwCl ([(aI g rt_ 25 rt), (aM g rw_ 6 (he_ro 6 r1)), (oX11 m0 tw ta (nI n) pl (nI k2_258) 0 fw cs fd rfm rt_ to_ rw_ wa ct rk rb cn br sm as_ go sh_ ir oa ob th ig sp_ ki tg of_ kp sf rs), (aI g fd 500 fb)] ++ he_pl g L ln M) H := hP
            have hD : va_D A ([(aI g rt_ 25 rt), (aM g rw_ 6 (he_ro 6 r1)), (oX11 m0 tw ta (nI n) pl (nI k2_258) 0 fw cs fd rfm rt_ to_ rw_ wa ct rk rb cn br sm as_ go sh_ ir oa ob th ig sp_ ki tg of_ kp sf rs), (aI g fd 500 fb)] ++ he_pl g L ln M) := hD
            refine lv_aload_n hx hb dX11_clause_67 rfl (lv_at hl 1 rfl) ?_
            refine lv_dup hx hb dX11_clause_68 rfl ?_
            refine va_get (v := .int cs) (T := TX11) (N := 35) hx hb hts inX11 hown hK hP 2 rfl rfl 7 (by decide) f131 (fun _ h9 => h9) rfl dX11_clause_69 ?_
            refine lv_iconst (v := 1) hx hb dX11_clause_72 (by decide) ?_
            refine lv_iadd hx hb dX11_clause_73 ?_
            refine va_put (v := .int (cs + 1)) (ty := .int) (T := TX11) (N := 35) hx hb hts inX11 tyX11 tyX11_ok nmX11 hown hK hP hD hS 2 rfl rfl 7 (by decide) f131 (fun _ h9 => h9) rfl (by decide +kernel) rfl rfl (Nat.le_of_ble_eq_true rfl) dX11_clause_74 (fun H locs hP hD hS => ?_)
            have hP : va_P g.1 vwCl ([(aI g rt_ 25 rt), (aM g rw_ 6 (he_ro 6 r1)), (oX11 m0 tw ta (nI n) pl (nI k2_258) 0 fw (cs + 1) fd rfm rt_ to_ rw_ wa ct rk rb cn br sm as_ go sh_ ir oa ob th ig sp_ ki tg of_ kp sf rs), (aI g fd 500 fb)] ++ he_pl g L ln M) H := hP
            have hD : va_D A ([(aI g rt_ 25 rt), (aM g rw_ 6 (he_ro 6 r1)), (oX11 m0 tw ta (nI n) pl (nI k2_258) 0 fw (cs + 1) fd rfm rt_ to_ rw_ wa ct rk rb cn br sm as_ go sh_ ir oa ob th ig sp_ ki tg of_ kp sf rs), (aI g fd 500 fb)] ++ he_pl g L ln M) := hD
            refine lv_iload_n hx hb dX11_clause_77 rfl (lv_at hl 0 rfl) ?_
            refine lv_tableIn (tgt := 318) hx hb dX11_clause_78 (by decide) (by decide) rfl (by decide) ?_
            refine lv_aload_n hx hb dX11_clause_318 rfl (lv_at hl 1 rfl) ?_
            refine va_get (v := .ref rt_) (T := TX11) (N := 35) hx hb hts inX11 hown hK hP 2 rfl rfl 10 (by decide) f20 (fun _ h9 => h9) rfl dX11_clause_319 ?_
            refine lv_bipush (v := 12) hx hb dX11_clause_322 (by decide) ?_
            refine lv_aload_n hx hb dX11_clause_324 rfl (lv_at hl 1 rfl) ?_
            refine lv_iconst (v := 0) hx hb dX11_clause_325 (by decide) ?_
            refine lv_bipush (v := 9) hx hb dX11_clause_326 (by decide) ?_
            refine he_ci (wc := [(oX11 m0 tw ta (nI n) pl (nI k2_258) 0 fw (cs + 1) fd rfm rt_ to_ rw_ wa ct rk rb cn br sm as_ go sh_ ir oa ob th ig sp_ ki tg of_ kp sf rs), (aI g fd 500 fb)]) (wr := ([(aI g rt_ 25 rt), (aM g rw_ 6 (he_ro 6 r1))] ++ (he_pl g L ln M))) (va_runV (As := [.int 0, .int 9]) (rest := [.int 12, .ref rt_]) ⟨hx, hb, hml, hown, hts⟩ (h_X11_number l g m0 fd rfm rt_ to_ rw_ wa rk rb cn br sm as_ go sh_ ki tg of_ kp rs ta pl (cs + 1) ct ir oa ob th ig sp_ sf tw n k2_258 0 fw fb 0 9 (by first | assumption | decide | omega) (by first | assumption | decide | omega) H.size) (cwV 2 hts gX11_clause_X11_number rfl rfl rfl (by decide +kernel) ⟨Nat.le_of_ble_eq_true rfl, Nat.le_of_ble_eq_true rfl⟩) (he_preV (wc := [(oX11 m0 tw ta (nI n) pl (nI k2_258) 0 fw (cs + 1) fd rfm rt_ to_ rw_ wa ct rk rb cn br sm as_ go sh_ ir oa ob th ig sp_ ki tg of_ kp sf rs), (aI g fd 500 fb)]) hK hP hD hS hA hE [2, 3] rfl rfl 2 rfl rfl) rfl rfl hl.1 rfl (lv_room (Nat.le_of_ble_eq_true rfl)) dX11_clause_328 ⟨(Nat.le_of_ble_eq_true rfl), (Nat.le_of_ble_eq_true rfl)⟩) hP hD hS hA [2, 3] (he_is [0, 1] [(aI g rt_ 25 rt), (aM g rw_ 6 (he_ro 6 r1)), (oX11 m0 tw ta (nI n) pl (nI k2_258) 0 fw (cs + 1) fd rfm rt_ to_ rw_ wa ct rk rb cn br sm as_ go sh_ ir oa ob th ig sp_ ki tg of_ kp sf rs), (aI g fd 500 fb)] (he_pl g L ln M)) rfl (he_ixP rfl) (he_ndP rfl rfl) (he_disN (by decide) rfl) (fun r_261 u_262 H locs h_263 hP hD hS => ?_)
            have hP := va_P.swap hP
            have hD := va_D.swap hD
            obtain ⟨k2_264, fb2_265, fw2_266⟩ := u_262
            try dsimp only at h_263
            obtain ⟨hf_267, hf_268, hf_269⟩ := h_263
            have hP : va_P g.1 vwCl ([(aI g rt_ 25 rt), (aM g rw_ 6 (he_ro 6 r1)), (oX11 m0 tw ta (nI n) pl (nI k2_264) fb2_265 fw2_266 (cs + 1) fd rfm rt_ to_ rw_ wa ct rk rb cn br sm as_ go sh_ ir oa ob th ig sp_ ki tg of_ kp sf rs), (aI g fd 500 fb)] ++ he_pl g L ln M) H := hP
            have hD : va_D A ([(aI g rt_ 25 rt), (aM g rw_ 6 (he_ro 6 r1)), (oX11 m0 tw ta (nI n) pl (nI k2_264) fb2_265 fw2_266 (cs + 1) fd rfm rt_ to_ rw_ wa ct rk rb cn br sm as_ go sh_ ir oa ob th ig sp_ ki tg of_ kp sf rs), (aI g fd 500 fb)] ++ he_pl g L ln M) := hD
            refine he_iast hx hb hK hP hD hS 0 rfl (12) (by decide) (by decide) (by first | decide | assumption) dX11_clause_331 (fun H locs hP hD hS => ?_)
            have hP : va_P g.1 vwCl ([(aI g rt_ 25 (upd rt 12 r_261)), (aM g rw_ 6 (he_ro 6 r1)), (oX11 m0 tw ta (nI n) pl (nI k2_264) fb2_265 fw2_266 (cs + 1) fd rfm rt_ to_ rw_ wa ct rk rb cn br sm as_ go sh_ ir oa ob th ig sp_ ki tg of_ kp sf rs), (aI g fd 500 fb)] ++ he_pl g L ln M) H := hP
            have hD : va_D A ([(aI g rt_ 25 (upd rt 12 r_261)), (aM g rw_ 6 (he_ro 6 r1)), (oX11 m0 tw ta (nI n) pl (nI k2_264) fb2_265 fw2_266 (cs + 1) fd rfm rt_ to_ rw_ wa ct rk rb cn br sm as_ go sh_ ir oa ob th ig sp_ ki tg of_ kp sf rs), (aI g fd 500 fb)] ++ he_pl g L ln M) := hD
            refine lv_goto (tgt := 393) hx hb dX11_clause_332 (by decide) ?_
            refine lv_aload_n hx hb dX11_clause_393 rfl (lv_at hl 1 rfl) ?_
            refine he_cv (wc := [(oX11 m0 tw ta (nI n) pl (nI k2_264) fb2_265 fw2_266 (cs + 1) fd rfm rt_ to_ rw_ wa ct rk rb cn br sm as_ go sh_ ir oa ob th ig sp_ ki tg of_ kp sf rs), (aI g fd 500 fb)]) (wr := ([(aI g rt_ 25 (upd rt 12 r_261)), (aM g rw_ 6 (he_ro 6 r1))] ++ (he_pl g L ln M))) (va_runV (As := []) (rest := []) ⟨hx, hb, hml, hown, hts⟩ (h_X11_closes l g m0 fd rfm rt_ to_ rw_ wa rk rb cn br sm as_ go sh_ ki tg of_ kp rs ta pl (cs + 1) ct ir oa ob th ig sp_ sf tw n k2_264 fb2_265 fw2_266 fb (by first | assumption | decide | omega) (by first | assumption | decide | omega) H.size) (cwV 0 hts gX11_clause_X11_closes rfl rfl rfl (by decide +kernel) ⟨Nat.le_of_ble_eq_true rfl, Nat.le_of_ble_eq_true rfl⟩) (he_preV (wc := [(oX11 m0 tw ta (nI n) pl (nI k2_264) fb2_265 fw2_266 (cs + 1) fd rfm rt_ to_ rw_ wa ct rk rb cn br sm as_ go sh_ ir oa ob th ig sp_ ki tg of_ kp sf rs), (aI g fd 500 fb)]) hK hP hD hS hA hE [2, 3] rfl rfl 2 rfl rfl) rfl rfl hl.1 rfl (lv_room (Nat.le_of_ble_eq_true rfl)) dX11_clause_394 ⟨(Nat.le_of_ble_eq_true rfl), (Nat.le_of_ble_eq_true rfl)⟩) hP hD hS hA [2, 3] (he_is [0, 1] [(aI g rt_ 25 (upd rt 12 r_261)), (aM g rw_ 6 (he_ro 6 r1)), (oX11 m0 tw ta (nI n) pl (nI k2_264) fb2_265 fw2_266 (cs + 1) fd rfm rt_ to_ rw_ wa ct rk rb cn br sm as_ go sh_ ir oa ob th ig sp_ ki tg of_ kp sf rs), (aI g fd 500 fb)] (he_pl g L ln M)) rfl (he_ixP rfl) (he_ndP rfl rfl) (he_disN (by decide) rfl) (fun u_271 H locs h_272 hP hD hS => ?_)
            have hP := va_P.swap hP
            have hD := va_D.swap hD
            obtain ⟨k2_273, fb2_274, fw2_275⟩ := u_271
            try dsimp only at h_272
            obtain ⟨hf_276, hf_277, hf_278⟩ := h_272
            have hP : va_P g.1 vwCl ([(aI g rt_ 25 (upd rt 12 r_261)), (aM g rw_ 6 (he_ro 6 r1)), (oX11 m0 tw ta (nI n) pl (nI k2_273) fb2_274 fw2_275 (cs + 1) fd rfm rt_ to_ rw_ wa ct rk rb cn br sm as_ go sh_ ir oa ob th ig sp_ ki tg of_ kp sf rs), (aI g fd 500 fb)] ++ he_pl g L ln M) H := hP
            have hD : va_D A ([(aI g rt_ 25 (upd rt 12 r_261)), (aM g rw_ 6 (he_ro 6 r1)), (oX11 m0 tw ta (nI n) pl (nI k2_273) fb2_274 fw2_275 (cs + 1) fd rfm rt_ to_ rw_ wa ct rk rb cn br sm as_ go sh_ ir oa ob th ig sp_ ki tg of_ kp sf rs), (aI g fd 500 fb)] ++ he_pl g L ln M) := hD
            have hP := he_Psub (X := [(aI g rt_ 25 (upd rt 12 r_261)), (aM g rw_ 6 (he_ro 6 r1)), (oX11 m0 tw ta (nI n) pl (nI k2_273) fb2_274 fw2_275 (cs + 1) fd rfm rt_ to_ rw_ wa ct rk rb cn br sm as_ go sh_ ir oa ob th ig sp_ ki tg of_ kp sf rs), (aI g fd 500 fb)]) (X2 := [(oX11 m0 tw ta (nI n) pl (nI k2_273) fb2_274 fw2_275 (cs + 1) fd rfm rt_ to_ rw_ wa ct rk rb cn br sm as_ go sh_ ir oa ob th ig sp_ ki tg of_ kp sf rs), (aI g fd 500 fb), (aI g rt_ 25 (upd rt 12 r_261)), (aM g rw_ 6 (he_ro 6 r1))]) (P := (he_pl g L ln M)) hP [2, 3, 0, 1] rfl
            have hD := he_Dsub (X := [(aI g rt_ 25 (upd rt 12 r_261)), (aM g rw_ 6 (he_ro 6 r1)), (oX11 m0 tw ta (nI n) pl (nI k2_273) fb2_274 fw2_275 (cs + 1) fd rfm rt_ to_ rw_ wa ct rk rb cn br sm as_ go sh_ ir oa ob th ig sp_ ki tg of_ kp sf rs), (aI g fd 500 fb)]) (X2 := [(oX11 m0 tw ta (nI n) pl (nI k2_273) fb2_274 fw2_275 (cs + 1) fd rfm rt_ to_ rw_ wa ct rk rb cn br sm as_ go sh_ ir oa ob th ig sp_ ki tg of_ kp sf rs), (aI g fd 500 fb), (aI g rt_ 25 (upd rt 12 r_261)), (aM g rw_ 6 (he_ro 6 r1))]) (P := (he_pl g L ln M)) hD [2, 3, 0, 1] rfl rfl rfl
            exact he_rv hQ hx hb hr hlk hP hD hS dX11_clause_397 (Nat.le_of_ble_eq_true rfl) (Nat.le_of_ble_eq_true rfl) ((k2_273, fb2_274, fw2_275, cs + 1, w, upd rt 12 r_261, M)) (rfl) (by (try dsimp only); exact ⟨by (try dsimp only); omega, by (try dsimp only); omega, (hf_278.imp_right (fun h9 => ⟨h9.1, by have := h9.2.2; omega⟩)), by (try dsimp only); omega, (by (try dsimp only); rw [upd_n (by (try dsimp only); omega)]; exact hrt), (mEx_refl _ _ _)⟩)
          · exact absurd (by decide) c_254
        · exact absurd c_253 (by decide)
    · exact absurd c_247 (by decide)
  · skip
    refine lv_istore_n (lv' := [(1, .int 13), (0, .ref m0)]) hx hb dX11_clause_4 rfl hl (by decide) rfl (fun ls hl => ?_)
    refine lv_iload_n hx hb dX11_clause_5 rfl (lv_at hl 0 rfl) ?_
    refine lv_iconst (v := (-1)) hx hb dX11_clause_6 (by decide) ?_
    refine lv_icmp_ne (tgt := 22) hx hb dX11_clause_7 (by decide) (fun c_279 => ?_) (fun c_279 => ?_)
    · refine lv_aload_n hx hb dX11_clause_22 rfl (lv_at hl 1 rfl) ?_
      refine va_get (v := .int cs) (T := TX11) (N := 35) hx hb hts inX11 hown hK hP 2 rfl rfl 7 (by decide) f131 (fun _ h9 => h9) rfl dX11_clause_23 ?_
      refine lv_bipush (v := 60) hx hb dX11_clause_26 (by decide) ?_
      refine lv_icmp_eq (tgt := 46) hx hb dX11_clause_28 (by decide) (fun c_280 => ?_) (fun c_280 => ?_)
      · refine lv_aload_n hx hb dX11_clause_46 rfl (lv_at hl 1 rfl) ?_
        refine lv_iconst (v := 3) hx hb dX11_clause_47 (by decide) ?_
        refine lv_aload_n hx hb dX11_clause_48 rfl (lv_at hl 1 rfl) ?_
        refine va_get (v := .int (nI k2_4)) (T := TX11) (N := 35) hx hb hts inX11 hown hK hP 2 rfl rfl 4 (by decide) f94 (fun _ h9 => h9) rfl dX11_clause_49 ?_
        refine he_cv (wc := [(oX11 m0 tw ta (nI n) pl (nI k2_4) 0 fw cs fd rfm rt_ to_ rw_ wa ct rk rb cn br sm as_ go sh_ ir oa ob th ig sp_ ki tg of_ kp sf rs), (aI g fd 500 fb)]) (wr := ([(aI g rt_ 25 rt), (aM g rw_ 6 (he_ro 6 r1))] ++ (he_pl g L ln M))) (va_runV (As := [.int 3, .int (nI k2_4)]) (rest := []) ⟨hx, hb, hml, hown, hts⟩ (h_X11_wrong l g m0 fd rfm rt_ to_ rw_ wa rk rb cn br sm as_ go sh_ ki tg of_ kp rs ta pl cs ct ir oa ob th ig sp_ sf tw n k2_4 0 fw fb 3 (nI k2_4) H.size) (cwV 2 hts gX11_clause_X11_wrong rfl rfl rfl (by decide +kernel) ⟨Nat.le_of_ble_eq_true rfl, Nat.le_of_ble_eq_true rfl⟩) (he_preV (wc := [(oX11 m0 tw ta (nI n) pl (nI k2_4) 0 fw cs fd rfm rt_ to_ rw_ wa ct rk rb cn br sm as_ go sh_ ir oa ob th ig sp_ ki tg of_ kp sf rs), (aI g fd 500 fb)]) hK hP hD hS hA hE [2, 3] rfl rfl 2 rfl rfl) rfl rfl hl.1 rfl (lv_room (Nat.le_of_ble_eq_true rfl)) dX11_clause_52 ⟨(Nat.le_of_ble_eq_true rfl), (Nat.le_of_ble_eq_true rfl)⟩) hP hD hS hA [2, 3] (he_is [0, 1] [(aI g rt_ 25 rt), (aM g rw_ 6 (he_ro 6 r1)), (oX11 m0 tw ta (nI n) pl (nI k2_4) 0 fw cs fd rfm rt_ to_ rw_ wa ct rk rb cn br sm as_ go sh_ ir oa ob th ig sp_ ki tg of_ kp sf rs), (aI g fd 500 fb)] (he_pl g L ln M)) rfl (he_ixP rfl) (he_ndP rfl rfl) (he_disN (by decide) rfl) (fun u_282 H locs h_283 hP hD hS => ?_)
        have hP := va_P.swap hP
        have hD := va_D.swap hD
        have hP : va_P g.1 vwCl ([(aI g rt_ 25 rt), (aM g rw_ 6 (he_ro 6 r1)), (oX11 m0 tw ta (nI n) pl (nI k2_4) (wrF 0 3) (wrA 0 fw (nI k2_4)) cs fd rfm rt_ to_ rw_ wa ct rk rb cn br sm as_ go sh_ ir oa ob th ig sp_ ki tg of_ kp sf rs), (aI g fd 500 fb)] ++ he_pl g L ln M) H := hP
        have hD : va_D A ([(aI g rt_ 25 rt), (aM g rw_ 6 (he_ro 6 r1)), (oX11 m0 tw ta (nI n) pl (nI k2_4) (wrF 0 3) (wrA 0 fw (nI k2_4)) cs fd rfm rt_ to_ rw_ wa ct rk rb cn br sm as_ go sh_ ir oa ob th ig sp_ ki tg of_ kp sf rs), (aI g fd 500 fb)] ++ he_pl g L ln M) := hD
        refine lv_aload_n hx hb dX11_clause_55 rfl (lv_at hl 1 rfl) ?_
        refine va_get (v := .int (wrF 0 3)) (T := TX11) (N := 35) hx hb hts inX11 hown hK hP 2 rfl rfl 5 (by decide) f101 (fun _ h9 => h9) rfl dX11_clause_56 ?_
        refine lv_if_eq (tgt := 63) hx hb dX11_clause_59 (by decide) (fun c_284 => ?_) (fun c_284 => ?_)
        · exact absurd c_284 (by decide)
        · have hP := he_Psub (X := [(aI g rt_ 25 rt), (aM g rw_ 6 (he_ro 6 r1)), (oX11 m0 tw ta (nI n) pl (nI k2_4) (wrF 0 3) (wrA 0 fw (nI k2_4)) cs fd rfm rt_ to_ rw_ wa ct rk rb cn br sm as_ go sh_ ir oa ob th ig sp_ ki tg of_ kp sf rs), (aI g fd 500 fb)]) (X2 := [(oX11 m0 tw ta (nI n) pl (nI k2_4) (wrF 0 3) (wrA 0 fw (nI k2_4)) cs fd rfm rt_ to_ rw_ wa ct rk rb cn br sm as_ go sh_ ir oa ob th ig sp_ ki tg of_ kp sf rs), (aI g fd 500 fb), (aI g rt_ 25 rt), (aM g rw_ 6 (he_ro 6 r1))]) (P := (he_pl g L ln M)) hP [2, 3, 0, 1] rfl
          have hD := he_Dsub (X := [(aI g rt_ 25 rt), (aM g rw_ 6 (he_ro 6 r1)), (oX11 m0 tw ta (nI n) pl (nI k2_4) (wrF 0 3) (wrA 0 fw (nI k2_4)) cs fd rfm rt_ to_ rw_ wa ct rk rb cn br sm as_ go sh_ ir oa ob th ig sp_ ki tg of_ kp sf rs), (aI g fd 500 fb)]) (X2 := [(oX11 m0 tw ta (nI n) pl (nI k2_4) (wrF 0 3) (wrA 0 fw (nI k2_4)) cs fd rfm rt_ to_ rw_ wa ct rk rb cn br sm as_ go sh_ ir oa ob th ig sp_ ki tg of_ kp sf rs), (aI g fd 500 fb), (aI g rt_ 25 rt), (aM g rw_ 6 (he_ro 6 r1))]) (P := (he_pl g L ln M)) hD [2, 3, 0, 1] rfl rfl rfl
          exact he_rv hQ hx hb hr hlk hP hD hS dX11_clause_62 (Nat.le_of_ble_eq_true rfl) (Nat.le_of_ble_eq_true rfl) ((k2_4, wrF 0 3, wrA 0 fw (nI k2_4), cs, w, rt, M)) (rfl) (by (try dsimp only); exact ⟨by (try dsimp only); omega, by (try dsimp only); omega, (Or.inl (by (try dsimp only); decide)), by (try dsimp only); omega, hrt, (mEx_refl _ _ _)⟩)
      · refine lv_iload_n hx hb dX11_clause_31 rfl (lv_at hl 0 rfl) ?_
        refine lv_if_ne (tgt := 55) hx hb dX11_clause_32 (by decide) (fun c_285 => ?_) (fun c_285 => ?_)
        · refine lv_aload_n hx hb dX11_clause_55 rfl (lv_at hl 1 rfl) ?_
          refine va_get (v := .int 0) (T := TX11) (N := 35) hx hb hts inX11 hown hK hP 2 rfl rfl 5 (by decide) f101 (fun _ h9 => h9) rfl dX11_clause_56 ?_
          refine lv_if_eq (tgt := 63) hx hb dX11_clause_59 (by decide) (fun c_286 => ?_) (fun c_286 => ?_)
          · refine lv_aload_n hx hb dX11_clause_63 rfl (lv_at hl 1 rfl) ?_
            refine he_cv (wc := [(oX11 m0 tw ta (nI n) pl (nI k2_4) 0 fw cs fd rfm rt_ to_ rw_ wa ct rk rb cn br sm as_ go sh_ ir oa ob th ig sp_ ki tg of_ kp sf rs), (aI g fd 500 fb)]) (wr := ([(aI g rt_ 25 rt), (aM g rw_ 6 (he_ro 6 r1))] ++ (he_pl g L ln M))) (va_runV (As := []) (rest := []) ⟨hx, hb, hml, hown, hts⟩ (h_X11_skipWord l g m0 fd rfm rt_ to_ rw_ wa rk rb cn br sm as_ go sh_ ki tg of_ kp rs ta pl cs ct ir oa ob th ig sp_ sf tw n k2_4 0 fw fb (by first | assumption | decide | omega) (by first | assumption | decide | omega) H.size) (cwV 0 hts gX11_clause_X11_skipWord rfl rfl rfl (by decide +kernel) ⟨Nat.le_of_ble_eq_true rfl, Nat.le_of_ble_eq_true rfl⟩) (he_preV (wc := [(oX11 m0 tw ta (nI n) pl (nI k2_4) 0 fw cs fd rfm rt_ to_ rw_ wa ct rk rb cn br sm as_ go sh_ ir oa ob th ig sp_ ki tg of_ kp sf rs), (aI g fd 500 fb)]) hK hP hD hS hA hE [2, 3] rfl rfl 2 rfl rfl) rfl rfl hl.1 rfl (lv_room (Nat.le_of_ble_eq_true rfl)) dX11_clause_64 ⟨(Nat.le_of_ble_eq_true rfl), (Nat.le_of_ble_eq_true rfl)⟩) hP hD hS hA [2, 3] (he_is [0, 1] [(aI g rt_ 25 rt), (aM g rw_ 6 (he_ro 6 r1)), (oX11 m0 tw ta (nI n) pl (nI k2_4) 0 fw cs fd rfm rt_ to_ rw_ wa ct rk rb cn br sm as_ go sh_ ir oa ob th ig sp_ ki tg of_ kp sf rs), (aI g fd 500 fb)] (he_pl g L ln M)) rfl (he_ixP rfl) (he_ndP rfl rfl) (he_disN (by decide) rfl) (fun u_288 H locs h_289 hP hD hS => ?_)
            have hP := va_P.swap hP
            have hD := va_D.swap hD
            obtain ⟨k2_290, rfl⟩ : ∃ z, z = u_288 := ⟨_, rfl⟩
            try dsimp only at h_289
            obtain ⟨hf_291, hf_292⟩ := h_289
            have hP : va_P g.1 vwCl ([(aI g rt_ 25 rt), (aM g rw_ 6 (he_ro 6 r1)), (oX11 m0 tw ta (nI n) pl (nI k2_290) 0 fw cs fd rfm rt_ to_ rw_ wa ct rk rb cn br sm as_ go sh_ ir oa ob th ig sp_ ki tg of_ kp sf rs), (aI g fd 500 fb)] ++ he_pl g L ln M) H := hP
            have hD : va_D A ([(aI g rt_ 25 rt), (aM g rw_ 6 (he_ro 6 r1)), (oX11 m0 tw ta (nI n) pl (nI k2_290) 0 fw cs fd rfm rt_ to_ rw_ wa ct rk rb cn br sm as_ go sh_ ir oa ob th ig sp_ ki tg of_ kp sf rs), (aI g fd 500 fb)] ++ he_pl g L ln M) := hD
            refine lv_aload_n hx hb dX11_clause_67 rfl (lv_at hl 1 rfl) ?_
            refine lv_dup hx hb dX11_clause_68 rfl ?_
            refine va_get (v := .int cs) (T := TX11) (N := 35) hx hb hts inX11 hown hK hP 2 rfl rfl 7 (by decide) f131 (fun _ h9 => h9) rfl dX11_clause_69 ?_
            refine lv_iconst (v := 1) hx hb dX11_clause_72 (by decide) ?_
            refine lv_iadd hx hb dX11_clause_73 ?_
            refine va_put (v := .int (cs + 1)) (ty := .int) (T := TX11) (N := 35) hx hb hts inX11 tyX11 tyX11_ok nmX11 hown hK hP hD hS 2 rfl rfl 7 (by decide) f131 (fun _ h9 => h9) rfl (by decide +kernel) rfl rfl (Nat.le_of_ble_eq_true rfl) dX11_clause_74 (fun H locs hP hD hS => ?_)
            have hP : va_P g.1 vwCl ([(aI g rt_ 25 rt), (aM g rw_ 6 (he_ro 6 r1)), (oX11 m0 tw ta (nI n) pl (nI k2_290) 0 fw (cs + 1) fd rfm rt_ to_ rw_ wa ct rk rb cn br sm as_ go sh_ ir oa ob th ig sp_ ki tg of_ kp sf rs), (aI g fd 500 fb)] ++ he_pl g L ln M) H := hP
            have hD : va_D A ([(aI g rt_ 25 rt), (aM g rw_ 6 (he_ro 6 r1)), (oX11 m0 tw ta (nI n) pl (nI k2_290) 0 fw (cs + 1) fd rfm rt_ to_ rw_ wa ct rk rb cn br sm as_ go sh_ ir oa ob th ig sp_ ki tg of_ kp sf rs), (aI g fd 500 fb)] ++ he_pl g L ln M) := hD
            refine lv_iload_n hx hb dX11_clause_77 rfl (lv_at hl 0 rfl) ?_
            refine lv_tableIn (tgt := 335) hx hb dX11_clause_78 (by decide) (by decide) rfl (by decide) ?_
            refine lv_aload_n hx hb dX11_clause_335 rfl (lv_at hl 1 rfl) ?_
            refine va_get (v := .ref rt_) (T := TX11) (N := 35) hx hb hts inX11 hown hK hP 2 rfl rfl 10 (by decide) f20 (fun _ h9 => h9) rfl dX11_clause_336 ?_
            refine lv_bipush (v := 13) hx hb dX11_clause_339 (by decide) ?_
            refine lv_aload_n hx hb dX11_clause_341 rfl (lv_at hl 1 rfl) ?_
            refine lv_iconst (v := 0) hx hb dX11_clause_342 (by decide) ?_
            refine lv_bipush (v := 99) hx hb dX11_clause_343 (by decide) ?_
            refine he_ci (wc := [(oX11 m0 tw ta (nI n) pl (nI k2_290) 0 fw (cs + 1) fd rfm rt_ to_ rw_ wa ct rk rb cn br sm as_ go sh_ ir oa ob th ig sp_ ki tg of_ kp sf rs), (aI g fd 500 fb)]) (wr := ([(aI g rt_ 25 rt), (aM g rw_ 6 (he_ro 6 r1))] ++ (he_pl g L ln M))) (va_runV (As := [.int 0, .int 99]) (rest := [.int 13, .ref rt_]) ⟨hx, hb, hml, hown, hts⟩ (h_X11_number l g m0 fd rfm rt_ to_ rw_ wa rk rb cn br sm as_ go sh_ ki tg of_ kp rs ta pl (cs + 1) ct ir oa ob th ig sp_ sf tw n k2_290 0 fw fb 0 99 (by first | assumption | decide | omega) (by first | assumption | decide | omega) H.size) (cwV 2 hts gX11_clause_X11_number rfl rfl rfl (by decide +kernel) ⟨Nat.le_of_ble_eq_true rfl, Nat.le_of_ble_eq_true rfl⟩) (he_preV (wc := [(oX11 m0 tw ta (nI n) pl (nI k2_290) 0 fw (cs + 1) fd rfm rt_ to_ rw_ wa ct rk rb cn br sm as_ go sh_ ir oa ob th ig sp_ ki tg of_ kp sf rs), (aI g fd 500 fb)]) hK hP hD hS hA hE [2, 3] rfl rfl 2 rfl rfl) rfl rfl hl.1 rfl (lv_room (Nat.le_of_ble_eq_true rfl)) dX11_clause_345 ⟨(Nat.le_of_ble_eq_true rfl), (Nat.le_of_ble_eq_true rfl)⟩) hP hD hS hA [2, 3] (he_is [0, 1] [(aI g rt_ 25 rt), (aM g rw_ 6 (he_ro 6 r1)), (oX11 m0 tw ta (nI n) pl (nI k2_290) 0 fw (cs + 1) fd rfm rt_ to_ rw_ wa ct rk rb cn br sm as_ go sh_ ir oa ob th ig sp_ ki tg of_ kp sf rs), (aI g fd 500 fb)] (he_pl g L ln M)) rfl (he_ixP rfl) (he_ndP rfl rfl) (he_disN (by decide) rfl) (fun r_293 u_294 H locs h_295 hP hD hS => ?_)
            have hP := va_P.swap hP
            have hD := va_D.swap hD
            obtain ⟨k2_296, fb2_297, fw2_298⟩ := u_294
            try dsimp only at h_295
            obtain ⟨hf_299, hf_300, hf_301⟩ := h_295
            have hP : va_P g.1 vwCl ([(aI g rt_ 25 rt), (aM g rw_ 6 (he_ro 6 r1)), (oX11 m0 tw ta (nI n) pl (nI k2_296) fb2_297 fw2_298 (cs + 1) fd rfm rt_ to_ rw_ wa ct rk rb cn br sm as_ go sh_ ir oa ob th ig sp_ ki tg of_ kp sf rs), (aI g fd 500 fb)] ++ he_pl g L ln M) H := hP
            have hD : va_D A ([(aI g rt_ 25 rt), (aM g rw_ 6 (he_ro 6 r1)), (oX11 m0 tw ta (nI n) pl (nI k2_296) fb2_297 fw2_298 (cs + 1) fd rfm rt_ to_ rw_ wa ct rk rb cn br sm as_ go sh_ ir oa ob th ig sp_ ki tg of_ kp sf rs), (aI g fd 500 fb)] ++ he_pl g L ln M) := hD
            refine he_iast hx hb hK hP hD hS 0 rfl (13) (by decide) (by decide) (by first | decide | assumption) dX11_clause_348 (fun H locs hP hD hS => ?_)
            have hP : va_P g.1 vwCl ([(aI g rt_ 25 (upd rt 13 r_293)), (aM g rw_ 6 (he_ro 6 r1)), (oX11 m0 tw ta (nI n) pl (nI k2_296) fb2_297 fw2_298 (cs + 1) fd rfm rt_ to_ rw_ wa ct rk rb cn br sm as_ go sh_ ir oa ob th ig sp_ ki tg of_ kp sf rs), (aI g fd 500 fb)] ++ he_pl g L ln M) H := hP
            have hD : va_D A ([(aI g rt_ 25 (upd rt 13 r_293)), (aM g rw_ 6 (he_ro 6 r1)), (oX11 m0 tw ta (nI n) pl (nI k2_296) fb2_297 fw2_298 (cs + 1) fd rfm rt_ to_ rw_ wa ct rk rb cn br sm as_ go sh_ ir oa ob th ig sp_ ki tg of_ kp sf rs), (aI g fd 500 fb)] ++ he_pl g L ln M) := hD
            refine lv_aload_n hx hb dX11_clause_349 rfl (lv_at hl 1 rfl) ?_
            refine va_get (v := .ref rt_) (T := TX11) (N := 35) hx hb hts inX11 hown hK hP 2 rfl rfl 10 (by decide) f20 (fun _ h9 => h9) rfl dX11_clause_350 ?_
            refine lv_bipush (v := 14) hx hb dX11_clause_353 (by decide) ?_
            refine lv_aload_n hx hb dX11_clause_355 rfl (lv_at hl 1 rfl) ?_
            refine lv_iconst (v := 0) hx hb dX11_clause_356 (by decide) ?_
            refine lv_bipush (v := 99) hx hb dX11_clause_357 (by decide) ?_
            refine he_ci (wc := [(oX11 m0 tw ta (nI n) pl (nI k2_296) fb2_297 fw2_298 (cs + 1) fd rfm rt_ to_ rw_ wa ct rk rb cn br sm as_ go sh_ ir oa ob th ig sp_ ki tg of_ kp sf rs), (aI g fd 500 fb)]) (wr := ([(aI g rt_ 25 (upd rt 13 r_293)), (aM g rw_ 6 (he_ro 6 r1))] ++ (he_pl g L ln M))) (va_runV (As := [.int 0, .int 99]) (rest := [.int 14, .ref rt_]) ⟨hx, hb, hml, hown, hts⟩ (h_X11_number l g m0 fd rfm rt_ to_ rw_ wa rk rb cn br sm as_ go sh_ ki tg of_ kp rs ta pl (cs + 1) ct ir oa ob th ig sp_ sf tw n k2_296 fb2_297 fw2_298 fb 0 99 (by first | assumption | decide | omega) (by first | assumption | decide | omega) H.size) (cwV 2 hts gX11_clause_X11_number rfl rfl rfl (by decide +kernel) ⟨Nat.le_of_ble_eq_true rfl, Nat.le_of_ble_eq_true rfl⟩) (he_preV (wc := [(oX11 m0 tw ta (nI n) pl (nI k2_296) fb2_297 fw2_298 (cs + 1) fd rfm rt_ to_ rw_ wa ct rk rb cn br sm as_ go sh_ ir oa ob th ig sp_ ki tg of_ kp sf rs), (aI g fd 500 fb)]) hK hP hD hS hA hE [2, 3] rfl rfl 2 rfl rfl) rfl rfl hl.1 rfl (lv_room (Nat.le_of_ble_eq_true rfl)) dX11_clause_359 ⟨(Nat.le_of_ble_eq_true rfl), (Nat.le_of_ble_eq_true rfl)⟩) hP hD hS hA [2, 3] (he_is [0, 1] [(aI g rt_ 25 (upd rt 13 r_293)), (aM g rw_ 6 (he_ro 6 r1)), (oX11 m0 tw ta (nI n) pl (nI k2_296) fb2_297 fw2_298 (cs + 1) fd rfm rt_ to_ rw_ wa ct rk rb cn br sm as_ go sh_ ir oa ob th ig sp_ ki tg of_ kp sf rs), (aI g fd 500 fb)] (he_pl g L ln M)) rfl (he_ixP rfl) (he_ndP rfl rfl) (he_disN (by decide) rfl) (fun r_302 u_303 H locs h_304 hP hD hS => ?_)
            have hP := va_P.swap hP
            have hD := va_D.swap hD
            obtain ⟨k2_305, fb2_306, fw2_307⟩ := u_303
            try dsimp only at h_304
            obtain ⟨hf_308, hf_309, hf_310⟩ := h_304
            have hP : va_P g.1 vwCl ([(aI g rt_ 25 (upd rt 13 r_293)), (aM g rw_ 6 (he_ro 6 r1)), (oX11 m0 tw ta (nI n) pl (nI k2_305) fb2_306 fw2_307 (cs + 1) fd rfm rt_ to_ rw_ wa ct rk rb cn br sm as_ go sh_ ir oa ob th ig sp_ ki tg of_ kp sf rs), (aI g fd 500 fb)] ++ he_pl g L ln M) H := hP
            have hD : va_D A ([(aI g rt_ 25 (upd rt 13 r_293)), (aM g rw_ 6 (he_ro 6 r1)), (oX11 m0 tw ta (nI n) pl (nI k2_305) fb2_306 fw2_307 (cs + 1) fd rfm rt_ to_ rw_ wa ct rk rb cn br sm as_ go sh_ ir oa ob th ig sp_ ki tg of_ kp sf rs), (aI g fd 500 fb)] ++ he_pl g L ln M) := hD
            refine he_iast hx hb hK hP hD hS 0 rfl (14) (by decide) (by decide) (by first | decide | assumption) dX11_clause_362 (fun H locs hP hD hS => ?_)
            have hP : va_P g.1 vwCl ([(aI g rt_ 25 (upd (upd rt 13 r_293) 14 r_302)), (aM g rw_ 6 (he_ro 6 r1)), (oX11 m0 tw ta (nI n) pl (nI k2_305) fb2_306 fw2_307 (cs + 1) fd rfm rt_ to_ rw_ wa ct rk rb cn br sm as_ go sh_ ir oa ob th ig sp_ ki tg of_ kp sf rs), (aI g fd 500 fb)] ++ he_pl g L ln M) H := hP
            have hD : va_D A ([(aI g rt_ 25 (upd (upd rt 13 r_293) 14 r_302)), (aM g rw_ 6 (he_ro 6 r1)), (oX11 m0 tw ta (nI n) pl (nI k2_305) fb2_306 fw2_307 (cs + 1) fd rfm rt_ to_ rw_ wa ct rk rb cn br sm as_ go sh_ ir oa ob th ig sp_ ki tg of_ kp sf rs), (aI g fd 500 fb)] ++ he_pl g L ln M) := hD
            refine lv_goto (tgt := 393) hx hb dX11_clause_363 (by decide) ?_
            refine lv_aload_n hx hb dX11_clause_393 rfl (lv_at hl 1 rfl) ?_
            refine he_cv (wc := [(oX11 m0 tw ta (nI n) pl (nI k2_305) fb2_306 fw2_307 (cs + 1) fd rfm rt_ to_ rw_ wa ct rk rb cn br sm as_ go sh_ ir oa ob th ig sp_ ki tg of_ kp sf rs), (aI g fd 500 fb)]) (wr := ([(aI g rt_ 25 (upd (upd rt 13 r_293) 14 r_302)), (aM g rw_ 6 (he_ro 6 r1))] ++ (he_pl g L ln M))) (va_runV (As := []) (rest := []) ⟨hx, hb, hml, hown, hts⟩ (h_X11_closes l g m0 fd rfm rt_ to_ rw_ wa rk rb cn br sm as_ go sh_ ki tg of_ kp rs ta pl (cs + 1) ct ir oa ob th ig sp_ sf tw n k2_305 fb2_306 fw2_307 fb (by first | assumption | decide | omega) (by first | assumption | decide | omega) H.size) (cwV 0 hts gX11_clause_X11_closes rfl rfl rfl (by decide +kernel) ⟨Nat.le_of_ble_eq_true rfl, Nat.le_of_ble_eq_true rfl⟩) (he_preV (wc := [(oX11 m0 tw ta (nI n) pl (nI k2_305) fb2_306 fw2_307 (cs + 1) fd rfm rt_ to_ rw_ wa ct rk rb cn br sm as_ go sh_ ir oa ob th ig sp_ ki tg of_ kp sf rs), (aI g fd 500 fb)]) hK hP hD hS hA hE [2, 3] rfl rfl 2 rfl rfl) rfl rfl hl.1 rfl (lv_room (Nat.le_of_ble_eq_true rfl)) dX11_clause_394 ⟨(Nat.le_of_ble_eq_true rfl), (Nat.le_of_ble_eq_true rfl)⟩) hP hD hS hA [2, 3] (he_is [0, 1] [(aI g rt_ 25 (upd (upd rt 13 r_293) 14 r_302)), (aM g rw_ 6 (he_ro 6 r1)), (oX11 m0 tw ta (nI n) pl (nI k2_305) fb2_306 fw2_307 (cs + 1) fd rfm rt_ to_ rw_ wa ct rk rb cn br sm as_ go sh_ ir oa ob th ig sp_ ki tg of_ kp sf rs), (aI g fd 500 fb)] (he_pl g L ln M)) rfl (he_ixP rfl) (he_ndP rfl rfl) (he_disN (by decide) rfl) (fun u_312 H locs h_313 hP hD hS => ?_)
            have hP := va_P.swap hP
            have hD := va_D.swap hD
            obtain ⟨k2_314, fb2_315, fw2_316⟩ := u_312
            try dsimp only at h_313
            obtain ⟨hf_317, hf_318, hf_319⟩ := h_313
            have hP : va_P g.1 vwCl ([(aI g rt_ 25 (upd (upd rt 13 r_293) 14 r_302)), (aM g rw_ 6 (he_ro 6 r1)), (oX11 m0 tw ta (nI n) pl (nI k2_314) fb2_315 fw2_316 (cs + 1) fd rfm rt_ to_ rw_ wa ct rk rb cn br sm as_ go sh_ ir oa ob th ig sp_ ki tg of_ kp sf rs), (aI g fd 500 fb)] ++ he_pl g L ln M) H := hP
            have hD : va_D A ([(aI g rt_ 25 (upd (upd rt 13 r_293) 14 r_302)), (aM g rw_ 6 (he_ro 6 r1)), (oX11 m0 tw ta (nI n) pl (nI k2_314) fb2_315 fw2_316 (cs + 1) fd rfm rt_ to_ rw_ wa ct rk rb cn br sm as_ go sh_ ir oa ob th ig sp_ ki tg of_ kp sf rs), (aI g fd 500 fb)] ++ he_pl g L ln M) := hD
            have hP := he_Psub (X := [(aI g rt_ 25 (upd (upd rt 13 r_293) 14 r_302)), (aM g rw_ 6 (he_ro 6 r1)), (oX11 m0 tw ta (nI n) pl (nI k2_314) fb2_315 fw2_316 (cs + 1) fd rfm rt_ to_ rw_ wa ct rk rb cn br sm as_ go sh_ ir oa ob th ig sp_ ki tg of_ kp sf rs), (aI g fd 500 fb)]) (X2 := [(oX11 m0 tw ta (nI n) pl (nI k2_314) fb2_315 fw2_316 (cs + 1) fd rfm rt_ to_ rw_ wa ct rk rb cn br sm as_ go sh_ ir oa ob th ig sp_ ki tg of_ kp sf rs), (aI g fd 500 fb), (aI g rt_ 25 (upd (upd rt 13 r_293) 14 r_302)), (aM g rw_ 6 (he_ro 6 r1))]) (P := (he_pl g L ln M)) hP [2, 3, 0, 1] rfl
            have hD := he_Dsub (X := [(aI g rt_ 25 (upd (upd rt 13 r_293) 14 r_302)), (aM g rw_ 6 (he_ro 6 r1)), (oX11 m0 tw ta (nI n) pl (nI k2_314) fb2_315 fw2_316 (cs + 1) fd rfm rt_ to_ rw_ wa ct rk rb cn br sm as_ go sh_ ir oa ob th ig sp_ ki tg of_ kp sf rs), (aI g fd 500 fb)]) (X2 := [(oX11 m0 tw ta (nI n) pl (nI k2_314) fb2_315 fw2_316 (cs + 1) fd rfm rt_ to_ rw_ wa ct rk rb cn br sm as_ go sh_ ir oa ob th ig sp_ ki tg of_ kp sf rs), (aI g fd 500 fb), (aI g rt_ 25 (upd (upd rt 13 r_293) 14 r_302)), (aM g rw_ 6 (he_ro 6 r1))]) (P := (he_pl g L ln M)) hD [2, 3, 0, 1] rfl rfl rfl
            exact he_rv hQ hx hb hr hlk hP hD hS dX11_clause_397 (Nat.le_of_ble_eq_true rfl) (Nat.le_of_ble_eq_true rfl) ((k2_314, fb2_315, fw2_316, cs + 1, w, upd (upd rt 13 r_293) 14 r_302, M)) (rfl) (by (try dsimp only); exact ⟨by (try dsimp only); omega, by (try dsimp only); omega, (hf_319.imp_right (fun h9 => ⟨h9.1, by have := h9.2.2; omega⟩)), by (try dsimp only); omega, (by (try dsimp only); rw [upd_n (by (try dsimp only); omega), upd_n (by (try dsimp only); omega)]; exact hrt), (mEx_refl _ _ _)⟩)
          · exact absurd (by decide) c_286
        · exact absurd c_285 (by decide)
    · exact absurd c_279 (by decide)
  · skip
    refine lv_istore_n (lv' := [(1, .int 15), (0, .ref m0)]) hx hb dX11_clause_4 rfl hl (by decide) rfl (fun ls hl => ?_)
    refine lv_iload_n hx hb dX11_clause_5 rfl (lv_at hl 0 rfl) ?_
    refine lv_iconst (v := (-1)) hx hb dX11_clause_6 (by decide) ?_
    refine lv_icmp_ne (tgt := 22) hx hb dX11_clause_7 (by decide) (fun c_320 => ?_) (fun c_320 => ?_)
    · refine lv_aload_n hx hb dX11_clause_22 rfl (lv_at hl 1 rfl) ?_
      refine va_get (v := .int cs) (T := TX11) (N := 35) hx hb hts inX11 hown hK hP 2 rfl rfl 7 (by decide) f131 (fun _ h9 => h9) rfl dX11_clause_23 ?_
      refine lv_bipush (v := 60) hx hb dX11_clause_26 (by decide) ?_
      refine lv_icmp_eq (tgt := 46) hx hb dX11_clause_28 (by decide) (fun c_321 => ?_) (fun c_321 => ?_)
      · refine lv_aload_n hx hb dX11_clause_46 rfl (lv_at hl 1 rfl) ?_
        refine lv_iconst (v := 3) hx hb dX11_clause_47 (by decide) ?_
        refine lv_aload_n hx hb dX11_clause_48 rfl (lv_at hl 1 rfl) ?_
        refine va_get (v := .int (nI k2_4)) (T := TX11) (N := 35) hx hb hts inX11 hown hK hP 2 rfl rfl 4 (by decide) f94 (fun _ h9 => h9) rfl dX11_clause_49 ?_
        refine he_cv (wc := [(oX11 m0 tw ta (nI n) pl (nI k2_4) 0 fw cs fd rfm rt_ to_ rw_ wa ct rk rb cn br sm as_ go sh_ ir oa ob th ig sp_ ki tg of_ kp sf rs), (aI g fd 500 fb)]) (wr := ([(aI g rt_ 25 rt), (aM g rw_ 6 (he_ro 6 r1))] ++ (he_pl g L ln M))) (va_runV (As := [.int 3, .int (nI k2_4)]) (rest := []) ⟨hx, hb, hml, hown, hts⟩ (h_X11_wrong l g m0 fd rfm rt_ to_ rw_ wa rk rb cn br sm as_ go sh_ ki tg of_ kp rs ta pl cs ct ir oa ob th ig sp_ sf tw n k2_4 0 fw fb 3 (nI k2_4) H.size) (cwV 2 hts gX11_clause_X11_wrong rfl rfl rfl (by decide +kernel) ⟨Nat.le_of_ble_eq_true rfl, Nat.le_of_ble_eq_true rfl⟩) (he_preV (wc := [(oX11 m0 tw ta (nI n) pl (nI k2_4) 0 fw cs fd rfm rt_ to_ rw_ wa ct rk rb cn br sm as_ go sh_ ir oa ob th ig sp_ ki tg of_ kp sf rs), (aI g fd 500 fb)]) hK hP hD hS hA hE [2, 3] rfl rfl 2 rfl rfl) rfl rfl hl.1 rfl (lv_room (Nat.le_of_ble_eq_true rfl)) dX11_clause_52 ⟨(Nat.le_of_ble_eq_true rfl), (Nat.le_of_ble_eq_true rfl)⟩) hP hD hS hA [2, 3] (he_is [0, 1] [(aI g rt_ 25 rt), (aM g rw_ 6 (he_ro 6 r1)), (oX11 m0 tw ta (nI n) pl (nI k2_4) 0 fw cs fd rfm rt_ to_ rw_ wa ct rk rb cn br sm as_ go sh_ ir oa ob th ig sp_ ki tg of_ kp sf rs), (aI g fd 500 fb)] (he_pl g L ln M)) rfl (he_ixP rfl) (he_ndP rfl rfl) (he_disN (by decide) rfl) (fun u_323 H locs h_324 hP hD hS => ?_)
        have hP := va_P.swap hP
        have hD := va_D.swap hD
        have hP : va_P g.1 vwCl ([(aI g rt_ 25 rt), (aM g rw_ 6 (he_ro 6 r1)), (oX11 m0 tw ta (nI n) pl (nI k2_4) (wrF 0 3) (wrA 0 fw (nI k2_4)) cs fd rfm rt_ to_ rw_ wa ct rk rb cn br sm as_ go sh_ ir oa ob th ig sp_ ki tg of_ kp sf rs), (aI g fd 500 fb)] ++ he_pl g L ln M) H := hP
        have hD : va_D A ([(aI g rt_ 25 rt), (aM g rw_ 6 (he_ro 6 r1)), (oX11 m0 tw ta (nI n) pl (nI k2_4) (wrF 0 3) (wrA 0 fw (nI k2_4)) cs fd rfm rt_ to_ rw_ wa ct rk rb cn br sm as_ go sh_ ir oa ob th ig sp_ ki tg of_ kp sf rs), (aI g fd 500 fb)] ++ he_pl g L ln M) := hD
        refine lv_aload_n hx hb dX11_clause_55 rfl (lv_at hl 1 rfl) ?_
        refine va_get (v := .int (wrF 0 3)) (T := TX11) (N := 35) hx hb hts inX11 hown hK hP 2 rfl rfl 5 (by decide) f101 (fun _ h9 => h9) rfl dX11_clause_56 ?_
        refine lv_if_eq (tgt := 63) hx hb dX11_clause_59 (by decide) (fun c_325 => ?_) (fun c_325 => ?_)
        · exact absurd c_325 (by decide)
        · have hP := he_Psub (X := [(aI g rt_ 25 rt), (aM g rw_ 6 (he_ro 6 r1)), (oX11 m0 tw ta (nI n) pl (nI k2_4) (wrF 0 3) (wrA 0 fw (nI k2_4)) cs fd rfm rt_ to_ rw_ wa ct rk rb cn br sm as_ go sh_ ir oa ob th ig sp_ ki tg of_ kp sf rs), (aI g fd 500 fb)]) (X2 := [(oX11 m0 tw ta (nI n) pl (nI k2_4) (wrF 0 3) (wrA 0 fw (nI k2_4)) cs fd rfm rt_ to_ rw_ wa ct rk rb cn br sm as_ go sh_ ir oa ob th ig sp_ ki tg of_ kp sf rs), (aI g fd 500 fb), (aI g rt_ 25 rt), (aM g rw_ 6 (he_ro 6 r1))]) (P := (he_pl g L ln M)) hP [2, 3, 0, 1] rfl
          have hD := he_Dsub (X := [(aI g rt_ 25 rt), (aM g rw_ 6 (he_ro 6 r1)), (oX11 m0 tw ta (nI n) pl (nI k2_4) (wrF 0 3) (wrA 0 fw (nI k2_4)) cs fd rfm rt_ to_ rw_ wa ct rk rb cn br sm as_ go sh_ ir oa ob th ig sp_ ki tg of_ kp sf rs), (aI g fd 500 fb)]) (X2 := [(oX11 m0 tw ta (nI n) pl (nI k2_4) (wrF 0 3) (wrA 0 fw (nI k2_4)) cs fd rfm rt_ to_ rw_ wa ct rk rb cn br sm as_ go sh_ ir oa ob th ig sp_ ki tg of_ kp sf rs), (aI g fd 500 fb), (aI g rt_ 25 rt), (aM g rw_ 6 (he_ro 6 r1))]) (P := (he_pl g L ln M)) hD [2, 3, 0, 1] rfl rfl rfl
          exact he_rv hQ hx hb hr hlk hP hD hS dX11_clause_62 (Nat.le_of_ble_eq_true rfl) (Nat.le_of_ble_eq_true rfl) ((k2_4, wrF 0 3, wrA 0 fw (nI k2_4), cs, w, rt, M)) (rfl) (by (try dsimp only); exact ⟨by (try dsimp only); omega, by (try dsimp only); omega, (Or.inl (by (try dsimp only); decide)), by (try dsimp only); omega, hrt, (mEx_refl _ _ _)⟩)
      · refine lv_iload_n hx hb dX11_clause_31 rfl (lv_at hl 0 rfl) ?_
        refine lv_if_ne (tgt := 55) hx hb dX11_clause_32 (by decide) (fun c_326 => ?_) (fun c_326 => ?_)
        · refine lv_aload_n hx hb dX11_clause_55 rfl (lv_at hl 1 rfl) ?_
          refine va_get (v := .int 0) (T := TX11) (N := 35) hx hb hts inX11 hown hK hP 2 rfl rfl 5 (by decide) f101 (fun _ h9 => h9) rfl dX11_clause_56 ?_
          refine lv_if_eq (tgt := 63) hx hb dX11_clause_59 (by decide) (fun c_327 => ?_) (fun c_327 => ?_)
          · refine lv_aload_n hx hb dX11_clause_63 rfl (lv_at hl 1 rfl) ?_
            refine he_cv (wc := [(oX11 m0 tw ta (nI n) pl (nI k2_4) 0 fw cs fd rfm rt_ to_ rw_ wa ct rk rb cn br sm as_ go sh_ ir oa ob th ig sp_ ki tg of_ kp sf rs), (aI g fd 500 fb)]) (wr := ([(aI g rt_ 25 rt), (aM g rw_ 6 (he_ro 6 r1))] ++ (he_pl g L ln M))) (va_runV (As := []) (rest := []) ⟨hx, hb, hml, hown, hts⟩ (h_X11_skipWord l g m0 fd rfm rt_ to_ rw_ wa rk rb cn br sm as_ go sh_ ki tg of_ kp rs ta pl cs ct ir oa ob th ig sp_ sf tw n k2_4 0 fw fb (by first | assumption | decide | omega) (by first | assumption | decide | omega) H.size) (cwV 0 hts gX11_clause_X11_skipWord rfl rfl rfl (by decide +kernel) ⟨Nat.le_of_ble_eq_true rfl, Nat.le_of_ble_eq_true rfl⟩) (he_preV (wc := [(oX11 m0 tw ta (nI n) pl (nI k2_4) 0 fw cs fd rfm rt_ to_ rw_ wa ct rk rb cn br sm as_ go sh_ ir oa ob th ig sp_ ki tg of_ kp sf rs), (aI g fd 500 fb)]) hK hP hD hS hA hE [2, 3] rfl rfl 2 rfl rfl) rfl rfl hl.1 rfl (lv_room (Nat.le_of_ble_eq_true rfl)) dX11_clause_64 ⟨(Nat.le_of_ble_eq_true rfl), (Nat.le_of_ble_eq_true rfl)⟩) hP hD hS hA [2, 3] (he_is [0, 1] [(aI g rt_ 25 rt), (aM g rw_ 6 (he_ro 6 r1)), (oX11 m0 tw ta (nI n) pl (nI k2_4) 0 fw cs fd rfm rt_ to_ rw_ wa ct rk rb cn br sm as_ go sh_ ir oa ob th ig sp_ ki tg of_ kp sf rs), (aI g fd 500 fb)] (he_pl g L ln M)) rfl (he_ixP rfl) (he_ndP rfl rfl) (he_disN (by decide) rfl) (fun u_329 H locs h_330 hP hD hS => ?_)
            have hP := va_P.swap hP
            have hD := va_D.swap hD
            obtain ⟨k2_331, rfl⟩ : ∃ z, z = u_329 := ⟨_, rfl⟩
            try dsimp only at h_330
            obtain ⟨hf_332, hf_333⟩ := h_330
            have hP : va_P g.1 vwCl ([(aI g rt_ 25 rt), (aM g rw_ 6 (he_ro 6 r1)), (oX11 m0 tw ta (nI n) pl (nI k2_331) 0 fw cs fd rfm rt_ to_ rw_ wa ct rk rb cn br sm as_ go sh_ ir oa ob th ig sp_ ki tg of_ kp sf rs), (aI g fd 500 fb)] ++ he_pl g L ln M) H := hP
            have hD : va_D A ([(aI g rt_ 25 rt), (aM g rw_ 6 (he_ro 6 r1)), (oX11 m0 tw ta (nI n) pl (nI k2_331) 0 fw cs fd rfm rt_ to_ rw_ wa ct rk rb cn br sm as_ go sh_ ir oa ob th ig sp_ ki tg of_ kp sf rs), (aI g fd 500 fb)] ++ he_pl g L ln M) := hD
            refine lv_aload_n hx hb dX11_clause_67 rfl (lv_at hl 1 rfl) ?_
            refine lv_dup hx hb dX11_clause_68 rfl ?_
            refine va_get (v := .int cs) (T := TX11) (N := 35) hx hb hts inX11 hown hK hP 2 rfl rfl 7 (by decide) f131 (fun _ h9 => h9) rfl dX11_clause_69 ?_
            refine lv_iconst (v := 1) hx hb dX11_clause_72 (by decide) ?_
            refine lv_iadd hx hb dX11_clause_73 ?_
            refine va_put (v := .int (cs + 1)) (ty := .int) (T := TX11) (N := 35) hx hb hts inX11 tyX11 tyX11_ok nmX11 hown hK hP hD hS 2 rfl rfl 7 (by decide) f131 (fun _ h9 => h9) rfl (by decide +kernel) rfl rfl (Nat.le_of_ble_eq_true rfl) dX11_clause_74 (fun H locs hP hD hS => ?_)
            have hP : va_P g.1 vwCl ([(aI g rt_ 25 rt), (aM g rw_ 6 (he_ro 6 r1)), (oX11 m0 tw ta (nI n) pl (nI k2_331) 0 fw (cs + 1) fd rfm rt_ to_ rw_ wa ct rk rb cn br sm as_ go sh_ ir oa ob th ig sp_ ki tg of_ kp sf rs), (aI g fd 500 fb)] ++ he_pl g L ln M) H := hP
            have hD : va_D A ([(aI g rt_ 25 rt), (aM g rw_ 6 (he_ro 6 r1)), (oX11 m0 tw ta (nI n) pl (nI k2_331) 0 fw (cs + 1) fd rfm rt_ to_ rw_ wa ct rk rb cn br sm as_ go sh_ ir oa ob th ig sp_ ki tg of_ kp sf rs), (aI g fd 500 fb)] ++ he_pl g L ln M) := hD
            refine lv_iload_n hx hb dX11_clause_77 rfl (lv_at hl 0 rfl) ?_
            refine lv_tableOut (tgt := 366) hx hb dX11_clause_78 (by decide) (by decide) ?_
            refine lv_aload_n hx hb dX11_clause_366 rfl (lv_at hl 1 rfl) ?_
            refine lv_iconst (v := 0) hx hb dX11_clause_367 (by decide) ?_
            refine lv_bipush (v := 9) hx hb dX11_clause_368 (by decide) ?_
            refine he_ci (wc := [(oX11 m0 tw ta (nI n) pl (nI k2_331) 0 fw (cs + 1) fd rfm rt_ to_ rw_ wa ct rk rb cn br sm as_ go sh_ ir oa ob th ig sp_ ki tg of_ kp sf rs), (aI g fd 500 fb)]) (wr := ([(aI g rt_ 25 rt), (aM g rw_ 6 (he_ro 6 r1))] ++ (he_pl g L ln M))) (va_runV (As := [.int 0, .int 9]) (rest := []) ⟨hx, hb, hml, hown, hts⟩ (h_X11_number l g m0 fd rfm rt_ to_ rw_ wa rk rb cn br sm as_ go sh_ ki tg of_ kp rs ta pl (cs + 1) ct ir oa ob th ig sp_ sf tw n k2_331 0 fw fb 0 9 (by first | assumption | decide | omega) (by first | assumption | decide | omega) H.size) (cwV 2 hts gX11_clause_X11_number rfl rfl rfl (by decide +kernel) ⟨Nat.le_of_ble_eq_true rfl, Nat.le_of_ble_eq_true rfl⟩) (he_preV (wc := [(oX11 m0 tw ta (nI n) pl (nI k2_331) 0 fw (cs + 1) fd rfm rt_ to_ rw_ wa ct rk rb cn br sm as_ go sh_ ir oa ob th ig sp_ ki tg of_ kp sf rs), (aI g fd 500 fb)]) hK hP hD hS hA hE [2, 3] rfl rfl 2 rfl rfl) rfl rfl hl.1 rfl (lv_room (Nat.le_of_ble_eq_true rfl)) dX11_clause_370 ⟨(Nat.le_of_ble_eq_true rfl), (Nat.le_of_ble_eq_true rfl)⟩) hP hD hS hA [2, 3] (he_is [0, 1] [(aI g rt_ 25 rt), (aM g rw_ 6 (he_ro 6 r1)), (oX11 m0 tw ta (nI n) pl (nI k2_331) 0 fw (cs + 1) fd rfm rt_ to_ rw_ wa ct rk rb cn br sm as_ go sh_ ir oa ob th ig sp_ ki tg of_ kp sf rs), (aI g fd 500 fb)] (he_pl g L ln M)) rfl (he_ixP rfl) (he_ndP rfl rfl) (he_disN (by decide) rfl) (fun r_334 u_335 H locs h_336 hP hD hS => ?_)
            have hP := va_P.swap hP
            have hD := va_D.swap hD
            obtain ⟨k2_337, fb2_338, fw2_339⟩ := u_335
            try dsimp only at h_336
            obtain ⟨hf_340, hf_341, hf_342⟩ := h_336
            have hP : va_P g.1 vwCl ([(aI g rt_ 25 rt), (aM g rw_ 6 (he_ro 6 r1)), (oX11 m0 tw ta (nI n) pl (nI k2_337) fb2_338 fw2_339 (cs + 1) fd rfm rt_ to_ rw_ wa ct rk rb cn br sm as_ go sh_ ir oa ob th ig sp_ ki tg of_ kp sf rs), (aI g fd 500 fb)] ++ he_pl g L ln M) H := hP
            have hD : va_D A ([(aI g rt_ 25 rt), (aM g rw_ 6 (he_ro 6 r1)), (oX11 m0 tw ta (nI n) pl (nI k2_337) fb2_338 fw2_339 (cs + 1) fd rfm rt_ to_ rw_ wa ct rk rb cn br sm as_ go sh_ ir oa ob th ig sp_ ki tg of_ kp sf rs), (aI g fd 500 fb)] ++ he_pl g L ln M) := hD
            obtain ⟨j9, hj9, rfl⟩ := num_in (B := 9) (by decide) hf_342
            refine lv_istore_n (lv' := [(2, .int (nI j9)), (1, .int 15), (0, .ref m0)]) hx hb dX11_clause_373 rfl hl (by decide) rfl (fun ls hl => ?_)
            refine lv_aload_n hx hb dX11_clause_374 rfl (lv_at hl 2 rfl) ?_
            refine va_get (v := .ref rt_) (T := TX11) (N := 35) hx hb hts inX11 hown hK hP 2 rfl rfl 10 (by decide) f20 (fun _ h9 => h9) rfl dX11_clause_375 ?_
            refine lv_bipush (v := 15) hx hb dX11_clause_378 (by decide) ?_
            refine lv_iload_n hx hb dX11_clause_380 rfl (lv_at hl 0 rfl) ?_
            refine lv_iadd hx hb dX11_clause_381 ?_
            refine he_top (nI (15 + j9)) (nI_add 15 j9) ?_
            refine lv_aload_n hx hb dX11_clause_382 rfl (lv_at hl 2 rfl) ?_
            refine lv_iconst (v := 0) hx hb dX11_clause_383 (by decide) ?_
            refine lv_bipush (v := 20) hx hb dX11_clause_384 (by decide) ?_
            refine he_ci (wc := [(oX11 m0 tw ta (nI n) pl (nI k2_337) fb2_338 fw2_339 (cs + 1) fd rfm rt_ to_ rw_ wa ct rk rb cn br sm as_ go sh_ ir oa ob th ig sp_ ki tg of_ kp sf rs), (aI g fd 500 fb)]) (wr := ([(aI g rt_ 25 rt), (aM g rw_ 6 (he_ro 6 r1))] ++ (he_pl g L ln M))) (va_runV (As := [.int 0, .int 20]) (rest := [.int (nI (15 + j9)), .ref rt_]) ⟨hx, hb, hml, hown, hts⟩ (h_X11_number l g m0 fd rfm rt_ to_ rw_ wa rk rb cn br sm as_ go sh_ ki tg of_ kp rs ta pl (cs + 1) ct ir oa ob th ig sp_ sf tw n k2_337 fb2_338 fw2_339 fb 0 20 (by first | assumption | decide | omega) (by first | assumption | decide | omega) H.size) (cwV 2 hts gX11_clause_X11_number rfl rfl rfl (by decide +kernel) ⟨Nat.le_of_ble_eq_true rfl, Nat.le_of_ble_eq_true rfl⟩) (he_preV (wc := [(oX11 m0 tw ta (nI n) pl (nI k2_337) fb2_338 fw2_339 (cs + 1) fd rfm rt_ to_ rw_ wa ct rk rb cn br sm as_ go sh_ ir oa ob th ig sp_ ki tg of_ kp sf rs), (aI g fd 500 fb)]) hK hP hD hS hA hE [2, 3] rfl rfl 2 rfl rfl) rfl rfl hl.1 rfl (lv_room (Nat.le_of_ble_eq_true rfl)) dX11_clause_386 ⟨(Nat.le_of_ble_eq_true rfl), (Nat.le_of_ble_eq_true rfl)⟩) hP hD hS hA [2, 3] (he_is [0, 1] [(aI g rt_ 25 rt), (aM g rw_ 6 (he_ro 6 r1)), (oX11 m0 tw ta (nI n) pl (nI k2_337) fb2_338 fw2_339 (cs + 1) fd rfm rt_ to_ rw_ wa ct rk rb cn br sm as_ go sh_ ir oa ob th ig sp_ ki tg of_ kp sf rs), (aI g fd 500 fb)] (he_pl g L ln M)) rfl (he_ixP rfl) (he_ndP rfl rfl) (he_disN (by decide) rfl) (fun r_343 u_344 H locs h_345 hP hD hS => ?_)
            have hP := va_P.swap hP
            have hD := va_D.swap hD
            obtain ⟨k2_346, fb2_347, fw2_348⟩ := u_344
            try dsimp only at h_345
            obtain ⟨hf_349, hf_350, hf_351⟩ := h_345
            have hP : va_P g.1 vwCl ([(aI g rt_ 25 rt), (aM g rw_ 6 (he_ro 6 r1)), (oX11 m0 tw ta (nI n) pl (nI k2_346) fb2_347 fw2_348 (cs + 1) fd rfm rt_ to_ rw_ wa ct rk rb cn br sm as_ go sh_ ir oa ob th ig sp_ ki tg of_ kp sf rs), (aI g fd 500 fb)] ++ he_pl g L ln M) H := hP
            have hD : va_D A ([(aI g rt_ 25 rt), (aM g rw_ 6 (he_ro 6 r1)), (oX11 m0 tw ta (nI n) pl (nI k2_346) fb2_347 fw2_348 (cs + 1) fd rfm rt_ to_ rw_ wa ct rk rb cn br sm as_ go sh_ ir oa ob th ig sp_ ki tg of_ kp sf rs), (aI g fd 500 fb)] ++ he_pl g L ln M) := hD
            refine he_iast hx hb hK hP hD hS 0 rfl (15 + j9) rfl (by first | assumption | decide | omega) (by first | decide | assumption) dX11_clause_389 (fun H locs hP hD hS => ?_)
            have hP : va_P g.1 vwCl ([(aI g rt_ 25 (upd rt (15 + j9) r_343)), (aM g rw_ 6 (he_ro 6 r1)), (oX11 m0 tw ta (nI n) pl (nI k2_346) fb2_347 fw2_348 (cs + 1) fd rfm rt_ to_ rw_ wa ct rk rb cn br sm as_ go sh_ ir oa ob th ig sp_ ki tg of_ kp sf rs), (aI g fd 500 fb)] ++ he_pl g L ln M) H := hP
            have hD : va_D A ([(aI g rt_ 25 (upd rt (15 + j9) r_343)), (aM g rw_ 6 (he_ro 6 r1)), (oX11 m0 tw ta (nI n) pl (nI k2_346) fb2_347 fw2_348 (cs + 1) fd rfm rt_ to_ rw_ wa ct rk rb cn br sm as_ go sh_ ir oa ob th ig sp_ ki tg of_ kp sf rs), (aI g fd 500 fb)] ++ he_pl g L ln M) := hD
            refine lv_goto (tgt := 393) hx hb dX11_clause_390 (by decide) ?_
            refine lv_aload_n hx hb dX11_clause_393 rfl (lv_at hl 2 rfl) ?_
            refine he_cv (wc := [(oX11 m0 tw ta (nI n) pl (nI k2_346) fb2_347 fw2_348 (cs + 1) fd rfm rt_ to_ rw_ wa ct rk rb cn br sm as_ go sh_ ir oa ob th ig sp_ ki tg of_ kp sf rs), (aI g fd 500 fb)]) (wr := ([(aI g rt_ 25 (upd rt (15 + j9) r_343)), (aM g rw_ 6 (he_ro 6 r1))] ++ (he_pl g L ln M))) (va_runV (As := []) (rest := []) ⟨hx, hb, hml, hown, hts⟩ (h_X11_closes l g m0 fd rfm rt_ to_ rw_ wa rk rb cn br sm as_ go sh_ ki tg of_ kp rs ta pl (cs + 1) ct ir oa ob th ig sp_ sf tw n k2_346 fb2_347 fw2_348 fb (by first | assumption | decide | omega) (by first | assumption | decide | omega) H.size) (cwV 0 hts gX11_clause_X11_closes rfl rfl rfl (by decide +kernel) ⟨Nat.le_of_ble_eq_true rfl, Nat.le_of_ble_eq_true rfl⟩) (he_preV (wc := [(oX11 m0 tw ta (nI n) pl (nI k2_346) fb2_347 fw2_348 (cs + 1) fd rfm rt_ to_ rw_ wa ct rk rb cn br sm as_ go sh_ ir oa ob th ig sp_ ki tg of_ kp sf rs), (aI g fd 500 fb)]) hK hP hD hS hA hE [2, 3] rfl rfl 2 rfl rfl) rfl rfl hl.1 rfl (lv_room (Nat.le_of_ble_eq_true rfl)) dX11_clause_394 ⟨(Nat.le_of_ble_eq_true rfl), (Nat.le_of_ble_eq_true rfl)⟩) hP hD hS hA [2, 3] (he_is [0, 1] [(aI g rt_ 25 (upd rt (15 + j9) r_343)), (aM g rw_ 6 (he_ro 6 r1)), (oX11 m0 tw ta (nI n) pl (nI k2_346) fb2_347 fw2_348 (cs + 1) fd rfm rt_ to_ rw_ wa ct rk rb cn br sm as_ go sh_ ir oa ob th ig sp_ ki tg of_ kp sf rs), (aI g fd 500 fb)] (he_pl g L ln M)) rfl (he_ixP rfl) (he_ndP rfl rfl) (he_disN (by decide) rfl) (fun u_353 H locs h_354 hP hD hS => ?_)
            have hP := va_P.swap hP
            have hD := va_D.swap hD
            obtain ⟨k2_355, fb2_356, fw2_357⟩ := u_353
            try dsimp only at h_354
            obtain ⟨hf_358, hf_359, hf_360⟩ := h_354
            have hP : va_P g.1 vwCl ([(aI g rt_ 25 (upd rt (15 + j9) r_343)), (aM g rw_ 6 (he_ro 6 r1)), (oX11 m0 tw ta (nI n) pl (nI k2_355) fb2_356 fw2_357 (cs + 1) fd rfm rt_ to_ rw_ wa ct rk rb cn br sm as_ go sh_ ir oa ob th ig sp_ ki tg of_ kp sf rs), (aI g fd 500 fb)] ++ he_pl g L ln M) H := hP
            have hD : va_D A ([(aI g rt_ 25 (upd rt (15 + j9) r_343)), (aM g rw_ 6 (he_ro 6 r1)), (oX11 m0 tw ta (nI n) pl (nI k2_355) fb2_356 fw2_357 (cs + 1) fd rfm rt_ to_ rw_ wa ct rk rb cn br sm as_ go sh_ ir oa ob th ig sp_ ki tg of_ kp sf rs), (aI g fd 500 fb)] ++ he_pl g L ln M) := hD
            have hP := he_Psub (X := [(aI g rt_ 25 (upd rt (15 + j9) r_343)), (aM g rw_ 6 (he_ro 6 r1)), (oX11 m0 tw ta (nI n) pl (nI k2_355) fb2_356 fw2_357 (cs + 1) fd rfm rt_ to_ rw_ wa ct rk rb cn br sm as_ go sh_ ir oa ob th ig sp_ ki tg of_ kp sf rs), (aI g fd 500 fb)]) (X2 := [(oX11 m0 tw ta (nI n) pl (nI k2_355) fb2_356 fw2_357 (cs + 1) fd rfm rt_ to_ rw_ wa ct rk rb cn br sm as_ go sh_ ir oa ob th ig sp_ ki tg of_ kp sf rs), (aI g fd 500 fb), (aI g rt_ 25 (upd rt (15 + j9) r_343)), (aM g rw_ 6 (he_ro 6 r1))]) (P := (he_pl g L ln M)) hP [2, 3, 0, 1] rfl
            have hD := he_Dsub (X := [(aI g rt_ 25 (upd rt (15 + j9) r_343)), (aM g rw_ 6 (he_ro 6 r1)), (oX11 m0 tw ta (nI n) pl (nI k2_355) fb2_356 fw2_357 (cs + 1) fd rfm rt_ to_ rw_ wa ct rk rb cn br sm as_ go sh_ ir oa ob th ig sp_ ki tg of_ kp sf rs), (aI g fd 500 fb)]) (X2 := [(oX11 m0 tw ta (nI n) pl (nI k2_355) fb2_356 fw2_357 (cs + 1) fd rfm rt_ to_ rw_ wa ct rk rb cn br sm as_ go sh_ ir oa ob th ig sp_ ki tg of_ kp sf rs), (aI g fd 500 fb), (aI g rt_ 25 (upd rt (15 + j9) r_343)), (aM g rw_ 6 (he_ro 6 r1))]) (P := (he_pl g L ln M)) hD [2, 3, 0, 1] rfl rfl rfl
            exact he_rv hQ hx hb hr hlk hP hD hS dX11_clause_397 (Nat.le_of_ble_eq_true rfl) (Nat.le_of_ble_eq_true rfl) ((k2_355, fb2_356, fw2_357, cs + 1, w, upd rt (15 + j9) r_343, M)) (rfl) (by (try dsimp only); exact ⟨by (try dsimp only); omega, by (try dsimp only); omega, (hf_360.imp_right (fun h9 => ⟨h9.1, by have := h9.2.2; omega⟩)), by (try dsimp only); omega, (by (try dsimp only); rw [upd_n (by (try dsimp only); omega)]; exact hrt), (mEx_refl _ _ _)⟩)
          · exact absurd (by decide) c_327
        · exact absurd c_326 (by decide)
    · exact absurd c_320 (by decide)
  · skip
    refine lv_istore_n (lv' := [(1, .int (-1)), (0, .ref m0)]) hx hb dX11_clause_4 rfl hl (by decide) rfl (fun ls hl => ?_)
    refine lv_iload_n hx hb dX11_clause_5 rfl (lv_at hl 0 rfl) ?_
    refine lv_iconst (v := (-1)) hx hb dX11_clause_6 (by decide) ?_
    refine lv_icmp_ne (tgt := 22) hx hb dX11_clause_7 (by decide) (fun c_361 => ?_) (fun c_361 => ?_)
    · exact absurd (by decide) c_361
    · refine lv_aload_n hx hb dX11_clause_10 rfl (lv_at hl 1 rfl) ?_
      refine lv_iconst (v := 1) hx hb dX11_clause_11 (by decide) ?_
      refine lv_aload_n hx hb dX11_clause_12 rfl (lv_at hl 1 rfl) ?_
      refine va_get (v := .int (nI k2_4)) (T := TX11) (N := 35) hx hb hts inX11 hown hK hP 2 rfl rfl 4 (by decide) f94 (fun _ h9 => h9) rfl dX11_clause_13 ?_
      refine he_cv (wc := [(oX11 m0 tw ta (nI n) pl (nI k2_4) 0 fw cs fd rfm rt_ to_ rw_ wa ct rk rb cn br sm as_ go sh_ ir oa ob th ig sp_ ki tg of_ kp sf rs), (aI g fd 500 fb)]) (wr := ([(aI g rt_ 25 rt), (aM g rw_ 6 (he_ro 6 r1))] ++ (he_pl g L ln M))) (va_runV (As := [.int 1, .int (nI k2_4)]) (rest := []) ⟨hx, hb, hml, hown, hts⟩ (h_X11_wrong l g m0 fd rfm rt_ to_ rw_ wa rk rb cn br sm as_ go sh_ ki tg of_ kp rs ta pl cs ct ir oa ob th ig sp_ sf tw n k2_4 0 fw fb 1 (nI k2_4) H.size) (cwV 2 hts gX11_clause_X11_wrong rfl rfl rfl (by decide +kernel) ⟨Nat.le_of_ble_eq_true rfl, Nat.le_of_ble_eq_true rfl⟩) (he_preV (wc := [(oX11 m0 tw ta (nI n) pl (nI k2_4) 0 fw cs fd rfm rt_ to_ rw_ wa ct rk rb cn br sm as_ go sh_ ir oa ob th ig sp_ ki tg of_ kp sf rs), (aI g fd 500 fb)]) hK hP hD hS hA hE [2, 3] rfl rfl 2 rfl rfl) rfl rfl hl.1 rfl (lv_room (Nat.le_of_ble_eq_true rfl)) dX11_clause_16 ⟨(Nat.le_of_ble_eq_true rfl), (Nat.le_of_ble_eq_true rfl)⟩) hP hD hS hA [2, 3] (he_is [0, 1] [(aI g rt_ 25 rt), (aM g rw_ 6 (he_ro 6 r1)), (oX11 m0 tw ta (nI n) pl (nI k2_4) 0 fw cs fd rfm rt_ to_ rw_ wa ct rk rb cn br sm as_ go sh_ ir oa ob th ig sp_ ki tg of_ kp sf rs), (aI g fd 500 fb)] (he_pl g L ln M)) rfl (he_ixP rfl) (he_ndP rfl rfl) (he_disN (by decide) rfl) (fun u_363 H locs h_364 hP hD hS => ?_)
      have hP := va_P.swap hP
      have hD := va_D.swap hD
      have hP : va_P g.1 vwCl ([(aI g rt_ 25 rt), (aM g rw_ 6 (he_ro 6 r1)), (oX11 m0 tw ta (nI n) pl (nI k2_4) (wrF 0 1) (wrA 0 fw (nI k2_4)) cs fd rfm rt_ to_ rw_ wa ct rk rb cn br sm as_ go sh_ ir oa ob th ig sp_ ki tg of_ kp sf rs), (aI g fd 500 fb)] ++ he_pl g L ln M) H := hP
      have hD : va_D A ([(aI g rt_ 25 rt), (aM g rw_ 6 (he_ro 6 r1)), (oX11 m0 tw ta (nI n) pl (nI k2_4) (wrF 0 1) (wrA 0 fw (nI k2_4)) cs fd rfm rt_ to_ rw_ wa ct rk rb cn br sm as_ go sh_ ir oa ob th ig sp_ ki tg of_ kp sf rs), (aI g fd 500 fb)] ++ he_pl g L ln M) := hD
      refine lv_goto (tgt := 55) hx hb dX11_clause_19 (by decide) ?_
      refine lv_aload_n hx hb dX11_clause_55 rfl (lv_at hl 1 rfl) ?_
      refine va_get (v := .int (wrF 0 1)) (T := TX11) (N := 35) hx hb hts inX11 hown hK hP 2 rfl rfl 5 (by decide) f101 (fun _ h9 => h9) rfl dX11_clause_56 ?_
      refine lv_if_eq (tgt := 63) hx hb dX11_clause_59 (by decide) (fun c_365 => ?_) (fun c_365 => ?_)
      · exact absurd c_365 (by decide)
      · have hP := he_Psub (X := [(aI g rt_ 25 rt), (aM g rw_ 6 (he_ro 6 r1)), (oX11 m0 tw ta (nI n) pl (nI k2_4) (wrF 0 1) (wrA 0 fw (nI k2_4)) cs fd rfm rt_ to_ rw_ wa ct rk rb cn br sm as_ go sh_ ir oa ob th ig sp_ ki tg of_ kp sf rs), (aI g fd 500 fb)]) (X2 := [(oX11 m0 tw ta (nI n) pl (nI k2_4) (wrF 0 1) (wrA 0 fw (nI k2_4)) cs fd rfm rt_ to_ rw_ wa ct rk rb cn br sm as_ go sh_ ir oa ob th ig sp_ ki tg of_ kp sf rs), (aI g fd 500 fb), (aI g rt_ 25 rt), (aM g rw_ 6 (he_ro 6 r1))]) (P := (he_pl g L ln M)) hP [2, 3, 0, 1] rfl
        have hD := he_Dsub (X := [(aI g rt_ 25 rt), (aM g rw_ 6 (he_ro 6 r1)), (oX11 m0 tw ta (nI n) pl (nI k2_4) (wrF 0 1) (wrA 0 fw (nI k2_4)) cs fd rfm rt_ to_ rw_ wa ct rk rb cn br sm as_ go sh_ ir oa ob th ig sp_ ki tg of_ kp sf rs), (aI g fd 500 fb)]) (X2 := [(oX11 m0 tw ta (nI n) pl (nI k2_4) (wrF 0 1) (wrA 0 fw (nI k2_4)) cs fd rfm rt_ to_ rw_ wa ct rk rb cn br sm as_ go sh_ ir oa ob th ig sp_ ki tg of_ kp sf rs), (aI g fd 500 fb), (aI g rt_ 25 rt), (aM g rw_ 6 (he_ro 6 r1))]) (P := (he_pl g L ln M)) hD [2, 3, 0, 1] rfl rfl rfl
        exact he_rv hQ hx hb hr hlk hP hD hS dX11_clause_62 (Nat.le_of_ble_eq_true rfl) (Nat.le_of_ble_eq_true rfl) ((k2_4, wrF 0 1, wrA 0 fw (nI k2_4), cs, w, rt, M)) (rfl) (by (try dsimp only); exact ⟨by (try dsimp only); omega, by (try dsimp only); omega, (Or.inl (by (try dsimp only); decide)), by (try dsimp only); omega, hrt, (mEx_refl _ _ _)⟩)
