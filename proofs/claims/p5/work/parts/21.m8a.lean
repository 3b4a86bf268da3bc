
set_option maxHeartbeats 4000000 in
set_option maxRecDepth 100000 in
theorem h_X11_digit (l : Launch) (g : he_G) (x : Int32) (k : Nat) (hk : k < 3) : he_I l yX11_digit wsX11_digit 0 0 0 0 g [.int x, .int (nI k)] [] (fun (r : Int32) (u : Unit) => True) (fun (u : Unit) => []) := by
  refine he_begin (l := l) (g := g) (y := yX11_digit) (wl := wsX11_digit) (fr := 0) (lo := 0) (mc := 0) (ms := 0) (av := [.int x, .int (nI k)]) (ws := []) (cc := cX11_digit) (maxL := 2) (ret := (some .int)) (fun A => va_Qi (fun (r : Int32) (u : Unit) => True) (fun u t => he_post g A ((fun (u : Unit) => []) u) t) A) (by decide) rfl (Nat.le_of_ble_eq_true rfl) ?_
  intro p e s m args below meth c A ls H locs Q hQ hB
  obtain ⟨hx, hb, hr, hml, hown, hts, hlk, hin, hP, hK, hD, hS, hA, hE, hl⟩ := hB
  have hl : lv_has ls 2 [(0, .int x), (1, .int (nI k))] := hl
  refine lv_iload_n hx hb dX11_digit_0 rfl (lv_at hl 1 rfl) ?_
  refine lv_if_ne (tgt := 11) hx hb dX11_digit_1 (by decide) (fun c_1 => ?_) (fun c_1 => ?_)
  · have k_2 : ¬ (k = 0) := fun h9 => c_1 ((he_ceq (a := k) (b := 0) rfl (by decide) (by omega) (by omega)).mpr h9)
    refine lv_iload_n hx hb dX11_digit_11 rfl (lv_at hl 1 rfl) ?_
    refine lv_iconst (v := 1) hx hb dX11_digit_12 (by decide) ?_
    refine lv_icmp_ne (tgt := 26) hx hb dX11_digit_13 (by decide) (fun c_3 => ?_) (fun c_3 => ?_)
    · have k_4 : ¬ (k = 1) := fun h9 => c_3 ((he_ceq (a := k) (b := 1) rfl (by decide) (by omega) (by omega)).mpr h9)
      refine lv_iload_n hx hb dX11_digit_26 rfl (lv_at hl 0 rfl) ?_
      refine lv_bipush (v := 7) hx hb dX11_digit_27 (by decide) ?_
      refine lv_irem hx hb dX11_digit_29 (by decide) ?_
      exact he_ri hQ hx hb hr hlk hP hD hS dX11_digit_30 (Nat.le_of_ble_eq_true rfl) (Nat.le_of_ble_eq_true rfl) (()) (rfl) (trivial)
    · have k_5 : k = 1 := (he_ceq (a := k) (b := 1) rfl (by decide) (by omega) (by omega)).mp c_3
      refine lv_iload_n hx hb dX11_digit_16 rfl (lv_at hl 0 rfl) ?_
      refine lv_bipush (v := 7) hx hb dX11_digit_17 (by decide) ?_
      refine lv_idiv hx hb dX11_digit_19 (by decide) ?_
      refine lv_bipush (v := 7) hx hb dX11_digit_20 (by decide) ?_
      refine lv_irem hx hb dX11_digit_22 (by decide) ?_
      refine lv_goto (tgt := 30) hx hb dX11_digit_23 (by decide) ?_
      exact he_ri hQ hx hb hr hlk hP hD hS dX11_digit_30 (Nat.le_of_ble_eq_true rfl) (Nat.le_of_ble_eq_true rfl) (()) (rfl) (trivial)
  · have k_6 : k = 0 := (he_ceq (a := k) (b := 0) rfl (by decide) (by omega) (by omega)).mp c_1
    refine lv_iload_n hx hb dX11_digit_4 rfl (lv_at hl 0 rfl) ?_
    refine lv_bipush (v := 49) hx hb dX11_digit_5 (by decide) ?_
    refine lv_idiv hx hb dX11_digit_7 (by decide) ?_
    refine lv_goto (tgt := 30) hx hb dX11_digit_8 (by decide) ?_
    exact he_ri hQ hx hb hr hlk hP hD hS dX11_digit_30 (Nat.le_of_ble_eq_true rfl) (Nat.le_of_ble_eq_true rfl) (()) (rfl) (trivial)
set_option maxHeartbeats 4000000 in
set_option maxRecDepth 100000 in
theorem h_X11_puts0 (l : Launch) (g : he_G) (x : Int32) (n : Int32) (wl : Int32)  : he_I l yX11_puts0 wsX11_puts0 1 21 0 0 g [.int x, .int n, .int wl] [] (fun (r : Int32) (u : Unit) => r = 0 ∨ r = 1) (fun (u : Unit) => []) := by
  refine he_begin (l := l) (g := g) (y := yX11_puts0) (wl := wsX11_puts0) (fr := 1) (lo := 21) (mc := 0) (ms := 0) (av := [.int x, .int n, .int wl]) (ws := []) (cc := cX11_puts0) (maxL := 5) (ret := (some .boolean)) (fun A => va_Qi (fun (r : Int32) (u : Unit) => r = 0 ∨ r = 1) (fun u t => he_post g A ((fun (u : Unit) => []) u) t) A) (by decide) rfl (Nat.le_of_ble_eq_true rfl) ?_
  intro p e s m args below meth c A ls H locs Q hQ hB
  obtain ⟨hx, hb, hr, hml, hown, hts, hlk, hin, hP, hK, hD, hS, hA, hE, hl⟩ := hB
  have hl : lv_has ls 5 [(0, .int x), (1, .int n), (2, .int wl)] := hl
  refine lv_iconst (v := 0) hx hb dX11_puts0_0 (by decide) ?_
  refine lv_istore_n (lv' := [(3, .int 0), (0, .int x), (1, .int n), (2, .int wl)]) hx hb dX11_puts0_1 rfl hl (by decide) rfl (fun ls hl => ?_)
  refine lv_iconst (v := 0) hx hb dX11_puts0_2 (by decide) ?_
  refine lv_istore (lv' := [(4, .int 0), (3, .int 0), (0, .int x), (1, .int n), (2, .int wl)]) hx hb dX11_puts0_3 hl (by decide) rfl (fun ls hl => ?_)
  have loop5 : ∀ (n9 : Nat) (j : Nat) (ac : Int32), 3 - j < n9 → (j ≤ 3) → ∀ (H : Heap) (locs : List Loc) (ls : Array Slot), va_P g.1 vwCl [] H → va_D A [] → va_S A s.heap H locs → lv_has ls 5 [(0, .int x), (1, .int n), (2, .int wl), (3, .int ac), (4, .int (nI j))] → W p l e (he_room 1 21 0 0) s m args below meth c H locs 0 0 Q (F0 m 5 ls []) := by
    intro n9
    induction n9 with
    | zero => intro j ac hm9; exact absurd hm9 (Nat.not_lt_zero _)
    | succ n9 ih5 =>
      intro j ac hm9 hj H locs ls hP hD hS hl
      refine lv_iload hx hb dX11_puts0_5 (lv_at hl 4 rfl) ?_
      refine lv_iconst (v := 3) hx hb dX11_puts0_7 (by decide) ?_
      refine lv_icmp_ge (tgt := 46) hx hb dX11_puts0_8 (by decide) (fun c_1 => ?_) (fun c_1 => ?_)
      · have k_2 : 3 ≤ j := (he_cle (a := 3) (b := j) (by decide) rfl (by omega) (by omega)).mp c_1
        refine lv_iload_n hx hb dX11_puts0_46 rfl (lv_at hl 3 rfl) ?_
        refine lv_iload_n hx hb dX11_puts0_47 rfl (lv_at hl 1 rfl) ?_
        refine lv_icmp_eq (tgt := 55) hx hb dX11_puts0_48 (by decide) (fun c_3 => ?_) (fun c_3 => ?_)
        · refine lv_iconst (v := 1) hx hb dX11_puts0_55 (by decide) ?_
          refine lv_goto (tgt := 60) hx hb dX11_puts0_56 (by decide) ?_
          exact he_rz hQ hx hb hr hlk hP hD hS dX11_puts0_60 (Nat.le_of_ble_eq_true rfl) (Nat.le_of_ble_eq_true rfl) rfl (()) (rfl) (Or.inr rfl)
        · refine lv_iload_n hx hb dX11_puts0_51 rfl (lv_at hl 2 rfl) ?_
          refine lv_if_ne (tgt := 59) hx hb dX11_puts0_52 (by decide) (fun c_4 => ?_) (fun c_4 => ?_)
          · refine lv_iconst (v := 0) hx hb dX11_puts0_59 (by decide) ?_
            exact he_rz hQ hx hb hr hlk hP hD hS dX11_puts0_60 (Nat.le_of_ble_eq_true rfl) (Nat.le_of_ble_eq_true rfl) rfl (()) (rfl) (Or.inl rfl)
          · refine lv_iconst (v := 1) hx hb dX11_puts0_55 (by decide) ?_
            refine lv_goto (tgt := 60) hx hb dX11_puts0_56 (by decide) ?_
            exact he_rz hQ hx hb hr hlk hP hD hS dX11_puts0_60 (Nat.le_of_ble_eq_true rfl) (Nat.le_of_ble_eq_true rfl) rfl (()) (rfl) (Or.inr rfl)
      · have k_5 : ¬ (3 ≤ j) := fun h9 => c_1 ((he_cle (a := 3) (b := j) (by decide) rfl (by omega) (by omega)).mpr h9)
        have join31 : ∀ (_ : Unit), ∀ (H : Heap) (locs : List Loc) (ls : Array Slot), va_P g.1 vwCl [] H → va_D A [] → va_S A s.heap H locs → lv_has ls 5 [(0, .int x), (1, .int n), (2, .int wl), (3, .int ac), (4, .int (nI j))] → W p l e (he_room 1 21 0 0) s m args below meth c H locs 0 0 Q (F0 m 31 ls []) := by
          intro _ H locs ls hP hD hS hl
          refine lv_iload_n hx hb dX11_puts0_31 rfl (lv_at hl 3 rfl) ?_
          refine lv_iload_n hx hb dX11_puts0_32 rfl (lv_at hl 0 rfl) ?_
          refine lv_iload hx hb dX11_puts0_33 (lv_at hl 4 rfl) ?_
          refine he_ci (wc := []) (wr := []) (va_runS (As := [.int x, .int (nI j)]) (rest := [.int ac]) ⟨hx, hb, hml, hown, hts⟩ (h_X11_digit l g x j (by first | assumption | decide | omega) H.size) (va_cwS 2 hts gX11_puts0_X11_digit rfl rfl rfl (by decide +kernel) ⟨Nat.le_of_ble_eq_true rfl, Nat.le_of_ble_eq_true rfl⟩) (he_preS (wc := []) hK hP hD hS hA hE [] rfl rfl) rfl rfl hl.1 rfl (lv_room (Nat.le_of_ble_eq_true rfl)) dX11_puts0_35 ⟨(Nat.le_of_ble_eq_true rfl), (Nat.le_of_ble_eq_true rfl)⟩) hP hD hS hA [] [] rfl rfl rfl (by decide) (fun r_6 u_7 H locs h_8 hP hD hS => ?_)
          have hP : va_P g.1 vwCl [] H := hP
          have hD : va_D A [] := hD
          refine lv_iadd hx hb dX11_puts0_38 ?_
          refine lv_istore_n (lv' := [(3, .int (ac + r_6)), (0, .int x), (1, .int n), (2, .int wl), (4, .int (nI j))]) hx hb dX11_puts0_39 rfl hl (by decide) rfl (fun ls hl => ?_)
          refine lv_iinc (v := nI (j + 1)) (lv' := [(4, .int (nI (j + 1))), (3, .int (ac + r_6)), (0, .int x), (1, .int n), (2, .int wl)]) hx hb dX11_puts0_40 hl (k := 4) rfl (nI_1 j) (by decide) rfl (fun ls hl => ?_)
          refine lv_goto (tgt := 5) hx hb dX11_puts0_43 (by decide) ?_
          exact ih5 (j + 1) (ac + r_6) (by omega) (by omega) _ _ _ hP hD hS (lv_sub hl [2, 3, 4, 1, 0] rfl)
        refine lv_iload_n hx hb dX11_puts0_11 rfl (lv_at hl 2 rfl) ?_
        refine lv_iload hx hb dX11_puts0_12 (lv_at hl 4 rfl) ?_
        refine lv_ishr hx hb dX11_puts0_14 ?_
        refine lv_iconst (v := 1) hx hb dX11_puts0_15 (by decide) ?_
        refine lv_iand hx hb dX11_puts0_16 ?_
        refine lv_if_ne (tgt := 31) hx hb dX11_puts0_17 (by decide) (fun c_9 => ?_) (fun c_9 => ?_)
        · exact join31 ()  _ _ _ hP hD hS (lv_sub hl [0, 1, 2, 3, 4] rfl)
        · refine lv_iload_n hx hb dX11_puts0_20 rfl (lv_at hl 0 rfl) ?_
          refine lv_iload hx hb dX11_puts0_21 (lv_at hl 4 rfl) ?_
          refine he_ci (wc := []) (wr := []) (va_runS (As := [.int x, .int (nI j)]) (rest := []) ⟨hx, hb, hml, hown, hts⟩ (h_X11_digit l g x j (by first | assumption | decide | omega) H.size) (va_cwS 2 hts gX11_puts0_X11_digit rfl rfl rfl (by decide +kernel) ⟨Nat.le_of_ble_eq_true rfl, Nat.le_of_ble_eq_true rfl⟩) (he_preS (wc := []) hK hP hD hS hA hE [] rfl rfl) rfl rfl hl.1 rfl (lv_room (Nat.le_of_ble_eq_true rfl)) dX11_puts0_23 ⟨(Nat.le_of_ble_eq_true rfl), (Nat.le_of_ble_eq_true rfl)⟩) hP hD hS hA [] [] rfl rfl rfl (by decide) (fun r_10 u_11 H locs h_12 hP hD hS => ?_)
          have hP : va_P g.1 vwCl [] H := hP
          have hD : va_D A [] := hD
          refine lv_if_le (tgt := 31) hx hb dX11_puts0_26 (by decide) (fun c_13 => ?_) (fun c_13 => ?_)
          · exact join31 ()  _ _ _ hP hD hS (lv_sub hl [0, 1, 2, 3, 4] rfl)
          · refine lv_iconst (v := 0) hx hb dX11_puts0_29 (by decide) ?_
            exact he_rz hQ hx hb hr hlk hP hD hS dX11_puts0_30 (Nat.le_of_ble_eq_true rfl) (Nat.le_of_ble_eq_true rfl) rfl (()) (rfl) (Or.inl rfl)
  exact loop5 ((3 - 0) + 1) 0 0 (Nat.lt_succ_self _) (Nat.zero_le _) _ _ _ hP hD hS (lv_sub hl [2, 3, 4, 1, 0] rfl)
set_option maxHeartbeats 4000000 in
set_option maxRecDepth 100000 in
theorem h_X11_falls (l : Launch) (g : he_G) (m0 : Nat) (fd : Nat) (rfm : Nat) (rt_ : Nat) (to_ : Nat) (rw_ : Nat) (wa : Nat) (rk : Nat) (rb : Nat) (cn : Nat) (br : Nat) (sm : Nat) (as_ : Nat) (go : Nat) (sh_ : Nat) (ki : Nat) (tg : Nat) (of_ : Nat) (kp : Nat) (rs : Nat) (ta : Int32) (sz_ : Int32) (pl : Int32) (at_ : Int32) (fa : Int32) (fw : Int32) (cs : Int32) (ct : Int32) (ir : Int32) (oa : Int32) (ob : Int32) (th : Int32) (ig : Int32) (sp_ : Int32) (sf : Int32) (tw : Int32) (L : List Nat) (ln : Nat → Nat) (M : Nat → Nat → Int32) (r2 : Nat → Nat) (x : Int32) (y : Int32) (wl : Int32) (F_r2 : ∀ i, i < 6 → r2 i ∈ L ∧ ln (r2 i) = 2 ∧ True) : he_I l yX11_falls wsX11_falls 1 21 0 0 g [.ref m0, .int x, .int y, .int wl] ([(oX11 m0 tw ta sz_ pl at_ fa fw cs fd rfm rt_ to_ rw_ wa ct rk rb cn br sm as_ go sh_ ir oa ob th ig sp_ ki tg of_ kp sf rs), (aM g wa 6 (he_ro 6 r2))] ++ he_pl g L ln M) (fun (r : Int32) (u : Unit) => True) (fun (u : Unit) => [(oX11 m0 tw ta sz_ pl at_ fa fw cs fd rfm rt_ to_ rw_ wa ct rk rb cn br sm as_ go sh_ ir oa ob th ig sp_ ki tg of_ kp sf rs), (aM g wa 6 (he_ro 6 r2))] ++ he_pl g L ln M) := by
  refine he_begin (l := l) (g := g) (y := yX11_falls) (wl := wsX11_falls) (fr := 1) (lo := 21) (mc := 0) (ms := 0) (av := [.ref m0, .int x, .int y, .int wl]) (ws := ([(oX11 m0 tw ta sz_ pl at_ fa fw cs fd rfm rt_ to_ rw_ wa ct rk rb cn br sm as_ go sh_ ir oa ob th ig sp_ ki tg of_ kp sf rs), (aM g wa 6 (he_ro 6 r2))] ++ he_pl g L ln M)) (cc := cX11_falls) (maxL := 6) (ret := (some .int)) (fun A => va_Qi (fun (r : Int32) (u : Unit) => True) (fun u t => he_post g A ((fun (u : Unit) => [(oX11 m0 tw ta sz_ pl at_ fa fw cs fd rfm rt_ to_ rw_ wa ct rk rb cn br sm as_ go sh_ ir oa ob th ig sp_ ki tg of_ kp sf rs), (aM g wa 6 (he_ro 6 r2))] ++ he_pl g L ln M) u) t) A) (by decide) rfl (Nat.le_of_ble_eq_true rfl) ?_
  intro p e s m args below meth c A ls H locs Q hQ hB
  obtain ⟨hx, hb, hr, hml, hown, hts, hlk, hin, hP, hK, hD, hS, hA, hE, hl⟩ := hB
  have hl : lv_has ls 6 [(0, .ref m0), (1, .int x), (2, .int y), (3, .int wl)] := hl
  have f31 := hts (.fieldLink RX11 31 "HiredEnemyModel" "wall" "[[I") (iwoX11_falls (k := 0) rfl)
  have inX11 : ∀ w ∈ wsX110, w ∈ wsX11_falls := innX11_falls_X11
  refine lv_iconst (v := 0) hx hb dX11_falls_0 (by decide) ?_
  refine lv_istore (lv' := [(4, .int 0), (0, .ref m0), (1, .int x), (2, .int y), (3, .int wl)]) hx hb dX11_falls_1 hl (by decide) rfl (fun ls hl => ?_)
  refine lv_iconst (v := 0) hx hb dX11_falls_3 (by decide) ?_
  refine lv_istore (lv' := [(5, .int 0), (4, .int 0), (0, .ref m0), (1, .int x), (2, .int y), (3, .int wl)]) hx hb dX11_falls_4 hl (by decide) rfl (fun ls hl => ?_)
  have loop6 : ∀ (n9 : Nat) (j : Nat) (ac : Int32), 3 - j < n9 → (j ≤ 3) → ∀ (H : Heap) (locs : List Loc) (ls : Array Slot), va_P g.1 vwCl ([(oX11 m0 tw ta sz_ pl at_ fa fw cs fd rfm rt_ to_ rw_ wa ct rk rb cn br sm as_ go sh_ ir oa ob th ig sp_ ki tg of_ kp sf rs), (aM g wa 6 (he_ro 6 r2))] ++ he_pl g L ln M) H → va_D A ([(oX11 m0 tw ta sz_ pl at_ fa fw cs fd rfm rt_ to_ rw_ wa ct rk rb cn br sm as_ go sh_ ir oa ob th ig sp_ ki tg of_ kp sf rs), (aM g wa 6 (he_ro 6 r2))] ++ he_pl g L ln M) → va_S A s.heap H locs → lv_has ls 6 [(0, .ref m0), (1, .int x), (2, .int y), (3, .int wl), (4, .int ac), (5, .int (nI j))] → W p l e (he_room 1 21 0 0) s m args below meth c H locs 0 0 Q (F0 m 6 ls []) := by
    intro n9
    induction n9 with
    | zero => intro j ac hm9; exact absurd hm9 (Nat.not_lt_zero _)
    | succ n9 ih6 =>
      intro j ac hm9 hj H locs ls hP hD hS hl
      refine lv_iload hx hb dX11_falls_6 (lv_at hl 5 rfl) ?_
      refine lv_iconst (v := 3) hx hb dX11_falls_8 (by decide) ?_
      refine lv_icmp_ge (tgt := 70) hx hb dX11_falls_9 (by decide) (fun c_1 => ?_) (fun c_1 => ?_)
      · have k_2 : 3 ≤ j := (he_cle (a := 3) (b := j) (by decide) rfl (by omega) (by omega)).mp c_1
        refine lv_iload hx hb dX11_falls_70 (lv_at hl 4 rfl) ?_
        exact he_ri hQ hx hb hr hlk hP hD hS dX11_falls_72 (Nat.le_of_ble_eq_true rfl) (Nat.le_of_ble_eq_true rfl) (()) (rfl) (trivial)
      · have k_3 : ¬ (3 ≤ j) := fun h9 => c_1 ((he_cle (a := 3) (b := j) (by decide) rfl (by omega) (by omega)).mpr h9)
        refine lv_iload_n hx hb dX11_falls_12 rfl (lv_at hl 3 rfl) ?_
        refine lv_iload hx hb dX11_falls_13 (lv_at hl 5 rfl) ?_
        refine lv_ishr hx hb dX11_falls_15 ?_
        refine lv_iconst (v := 1) hx hb dX11_falls_16 (by decide) ?_
        refine lv_iand hx hb dX11_falls_17 ?_
        refine lv_iconst (v := 1) hx hb dX11_falls_18 (by decide) ?_
        refine lv_icmp_ne (tgt := 64) hx hb dX11_falls_19 (by decide) (fun c_4 => ?_) (fun c_4 => ?_)
        · refine lv_iinc (v := nI (j + 1)) (lv' := [(5, .int (nI (j + 1))), (0, .ref m0), (1, .int x), (2, .int y), (3, .int wl), (4, .int ac)]) hx hb dX11_falls_64 hl (k := 5) rfl (nI_1 j) (by decide) rfl (fun ls hl => ?_)
          refine lv_goto (tgt := 6) hx hb dX11_falls_67 (by decide) ?_
          exact ih6 (j + 1) ac (by omega) (by omega) _ _ _ hP hD hS (lv_sub hl [1, 2, 3, 4, 5, 0] rfl)
        · refine lv_iload_n hx hb dX11_falls_22 rfl (lv_at hl 1 rfl) ?_
          refine lv_iload hx hb dX11_falls_23 (lv_at hl 5 rfl) ?_
          refine he_ci (wc := []) (wr := ([(oX11 m0 tw ta sz_ pl at_ fa fw cs fd rfm rt_ to_ rw_ wa ct rk rb cn br sm as_ go sh_ ir oa ob th ig sp_ ki tg of_ kp sf rs), (aM g wa 6 (he_ro 6 r2))] ++ (he_pl g L ln M))) (va_runS (As := [.int x, .int (nI j)]) (rest := []) ⟨hx, hb, hml, hown, hts⟩ (h_X11_digit l g x j (by first | assumption | decide | omega) H.size) (va_cwS 2 hts gX11_falls_X11_digit rfl rfl rfl (by decide +kernel) ⟨Nat.le_of_ble_eq_true rfl, Nat.le_of_ble_eq_true rfl⟩) (he_preS (wc := []) hK hP hD hS hA hE [] rfl rfl) rfl rfl hl.1 rfl (lv_room (Nat.le_of_ble_eq_true rfl)) dX11_falls_25 ⟨(Nat.le_of_ble_eq_true rfl), (Nat.le_of_ble_eq_true rfl)⟩) hP hD hS hA [] (he_is [0, 1] [(oX11 m0 tw ta sz_ pl at_ fa fw cs fd rfm rt_ to_ rw_ wa ct rk rb cn br sm as_ go sh_ ir oa ob th ig sp_ ki tg of_ kp sf rs), (aM g wa 6 (he_ro 6 r2))] (he_pl g L ln M)) rfl (he_ixP rfl) (he_ndP rfl rfl) (he_disN (by decide) rfl) (fun r_5 u_6 H locs h_7 hP hD hS => ?_)
          have hP := va_P.swap hP
          have hD := va_D.swap hD
          have hP : va_P g.1 vwCl ([(oX11 m0 tw ta sz_ pl at_ fa fw cs fd rfm rt_ to_ rw_ wa ct rk rb cn br sm as_ go sh_ ir oa ob th ig sp_ ki tg of_ kp sf rs), (aM g wa 6 (he_ro 6 r2))] ++ he_pl g L ln M) H := hP
          have hD : va_D A ([(oX11 m0 tw ta sz_ pl at_ fa fw cs fd rfm rt_ to_ rw_ wa ct rk rb cn br sm as_ go sh_ ir oa ob th ig sp_ ki tg of_ kp sf rs), (aM g wa 6 (he_ro 6 r2))] ++ he_pl g L ln M) := hD
          refine lv_iload_n hx hb dX11_falls_28 rfl (lv_at hl 2 rfl) ?_
          refine lv_iload hx hb dX11_falls_29 (lv_at hl 5 rfl) ?_
          refine he_ci (wc := []) (wr := ([(oX11 m0 tw ta sz_ pl at_ fa fw cs fd rfm rt_ to_ rw_ wa ct rk rb cn br sm as_ go sh_ ir oa ob th ig sp_ ki tg of_ kp sf rs), (aM g wa 6 (he_ro 6 r2))] ++ (he_pl g L ln M))) (va_runS (As := [.int y, .int (nI j)]) (rest := [.int r_5]) ⟨hx, hb, hml, hown, hts⟩ (h_X11_digit l g y j (by first | assumption | decide | omega) H.size) (va_cwS 2 hts gX11_falls_X11_digit rfl rfl rfl (by decide +kernel) ⟨Nat.le_of_ble_eq_true rfl, Nat.le_of_ble_eq_true rfl⟩) (he_preS (wc := []) hK hP hD hS hA hE [] rfl rfl) rfl rfl hl.1 rfl (lv_room (Nat.le_of_ble_eq_true rfl)) dX11_falls_31 ⟨(Nat.le_of_ble_eq_true rfl), (Nat.le_of_ble_eq_true rfl)⟩) hP hD hS hA [] (he_is [0, 1] [(oX11 m0 tw ta sz_ pl at_ fa fw cs fd rfm rt_ to_ rw_ wa ct rk rb cn br sm as_ go sh_ ir oa ob th ig sp_ ki tg of_ kp sf rs), (aM g wa 6 (he_ro 6 r2))] (he_pl g L ln M)) rfl (he_ixP rfl) (he_ndP rfl rfl) (he_disN (by decide) rfl) (fun r_8 u_9 H locs h_10 hP hD hS => ?_)
          have hP := va_P.swap hP
          have hD := va_D.swap hD
          have hP : va_P g.1 vwCl ([(oX11 m0 tw ta sz_ pl at_ fa fw cs fd rfm rt_ to_ rw_ wa ct rk rb cn br sm as_ go sh_ ir oa ob th ig sp_ ki tg of_ kp sf rs), (aM g wa 6 (he_ro 6 r2))] ++ he_pl g L ln M) H := hP
          have hD : va_D A ([(oX11 m0 tw ta sz_ pl at_ fa fw cs fd rfm rt_ to_ rw_ wa ct rk rb cn br sm as_ go sh_ ir oa ob th ig sp_ ki tg of_ kp sf rs), (aM g wa 6 (he_ro 6 r2))] ++ he_pl g L ln M) := hD
          refine lv_aload_n hx hb dX11_falls_34 rfl (lv_at hl 0 rfl) ?_
          refine va_get (v := .ref wa) (T := TX11) (N := 35) hx hb hts inX11 hown hK hP 0 rfl rfl 13 (by decide) f31 (fun _ h9 => h9) rfl dX11_falls_35 ?_
          refine lv_iload hx hb dX11_falls_38 (lv_at hl 5 rfl) ?_
          refine he_aldm hx hb hK hP 1 rfl (j) rfl (by first | assumption | decide | omega) (by decide) dX11_falls_40 ?_
          refine lv_iconst (v := 0) hx hb dX11_falls_41 (by decide) ?_
          refine he_pald hx hb hK hP (F_r2 j (by first | assumption | decide | omega)).1 (0) (by decide) (by rw [(F_r2 j (by first | assumption | decide | omega)).2.1]; exact (by decide)) (by rw [(F_r2 j (by first | assumption | decide | omega)).2.1]; decide) (M (r2 j) 0) rfl dX11_falls_42 ?_
          refine lv_bipush (v := 25) hx hb dX11_falls_43 (by decide) ?_
          refine lv_idiv hx hb dX11_falls_45 (by decide) ?_
          refine lv_iadd hx hb dX11_falls_46 ?_
          refine lv_icmp_le (tgt := 64) hx hb dX11_falls_47 (by decide) (fun c_11 => ?_) (fun c_11 => ?_)
          · refine lv_iinc (v := nI (j + 1)) (lv' := [(5, .int (nI (j + 1))), (0, .ref m0), (1, .int x), (2, .int y), (3, .int wl), (4, .int ac)]) hx hb dX11_falls_64 hl (k := 5) rfl (nI_1 j) (by decide) rfl (fun ls hl => ?_)
            refine lv_goto (tgt := 6) hx hb dX11_falls_67 (by decide) ?_
            exact ih6 (j + 1) ac (by omega) (by omega) _ _ _ hP hD hS (lv_sub hl [1, 2, 3, 4, 5, 0] rfl)
          · refine lv_iload hx hb dX11_falls_50 (lv_at hl 4 rfl) ?_
            refine lv_aload_n hx hb dX11_falls_52 rfl (lv_at hl 0 rfl) ?_
            refine va_get (v := .ref wa) (T := TX11) (N := 35) hx hb hts inX11 hown hK hP 0 rfl rfl 13 (by decide) f31 (fun _ h9 => h9) rfl dX11_falls_53 ?_
            refine lv_iload hx hb dX11_falls_56 (lv_at hl 5 rfl) ?_
            refine he_aldm hx hb hK hP 1 rfl (j) rfl (by first | assumption | decide | omega) (by decide) dX11_falls_58 ?_
            refine lv_iconst (v := 0) hx hb dX11_falls_59 (by decide) ?_
            refine he_pald hx hb hK hP (F_r2 j (by first | assumption | decide | omega)).1 (0) (by decide) (by rw [(F_r2 j (by first | assumption | decide | omega)).2.1]; exact (by decide)) (by rw [(F_r2 j (by first | assumption | decide | omega)).2.1]; decide) (M (r2 j) 0) rfl dX11_falls_60 ?_
            refine lv_iadd hx hb dX11_falls_61 ?_
            refine lv_istore (lv' := [(4, .int (ac + (M (r2 j) 0))), (0, .ref m0), (1, .int x), (2, .int y), (3, .int wl), (5, .int (nI j))]) hx hb dX11_falls_62 hl (by decide) rfl (fun ls hl => ?_)
            refine lv_iinc (v := nI (j + 1)) (lv' := [(5, .int (nI (j + 1))), (4, .int (ac + (M (r2 j) 0))), (0, .ref m0), (1, .int x), (2, .int y), (3, .int wl)]) hx hb dX11_falls_64 hl (k := 5) rfl (nI_1 j) (by decide) rfl (fun ls hl => ?_)
            refine lv_goto (tgt := 6) hx hb dX11_falls_67 (by decide) ?_
            exact ih6 (j + 1) (ac + (M (r2 j) 0)) (by omega) (by omega) _ _ _ hP hD hS (lv_sub hl [2, 3, 4, 5, 1, 0] rfl)
  exact loop6 ((3 - 0) + 1) 0 0 (Nat.lt_succ_self _) (Nat.zero_le _) _ _ _ hP hD hS (lv_sub hl [2, 3, 4, 5, 1, 0] rfl)
set_option maxHeartbeats 4000000 in
set_option maxRecDepth 100000 in
theorem h_X11_firstWalls (l : Launch) (g : he_G) (m0 : Nat) (fd : Nat) (rfm : Nat) (rt_ : Nat) (to_ : Nat) (rw_ : Nat) (wa : Nat) (rk : Nat) (rb : Nat) (cn : Nat) (br : Nat) (sm : Nat) (as_ : Nat) (go : Nat) (sh_ : Nat) (ki : Nat) (tg : Nat) (of_ : Nat) (kp : Nat) (rs : Nat) (ta : Int32) (sz_ : Int32) (pl : Int32) (at_ : Int32) (fa : Int32) (fw : Int32) (cs : Int32) (ct : Int32) (ir : Int32) (oa : Int32) (ob : Int32) (th : Int32) (ig : Int32) (sp_ : Int32) (sf : Int32) (tw : Int32) (tl : Nat → Int32)  : he_I l yX11_firstWalls wsX11_firstWalls 1 21 0 0 g [.ref m0] [(oX11 m0 tw ta sz_ pl at_ fa fw cs fd rfm rt_ to_ rw_ wa ct rk rb cn br sm as_ go sh_ ir oa ob th ig sp_ ki tg of_ kp sf rs), (aI g to_ 25 tl)] (fun (r : Int32) (u : Unit) => True) (fun (u : Unit) => [(oX11 m0 tw ta sz_ pl at_ fa fw cs fd rfm rt_ to_ rw_ wa ct rk rb cn br sm as_ go sh_ ir oa ob th ig sp_ ki tg of_ kp sf rs), (aI g to_ 25 tl)]) := by
  refine he_begin (l := l) (g := g) (y := yX11_firstWalls) (wl := wsX11_firstWalls) (fr := 1) (lo := 21) (mc := 0) (ms := 0) (av := [.ref m0]) (ws := [(oX11 m0 tw ta sz_ pl at_ fa fw cs fd rfm rt_ to_ rw_ wa ct rk rb cn br sm as_ go sh_ ir oa ob th ig sp_ ki tg of_ kp sf rs), (aI g to_ 25 tl)]) (cc := cX11_firstWalls) (maxL := 1) (ret := (some .int)) (fun A => va_Qi (fun (r : Int32) (u : Unit) => True) (fun u t => he_post g A ((fun (u : Unit) => [(oX11 m0 tw ta sz_ pl at_ fa fw cs fd rfm rt_ to_ rw_ wa ct rk rb cn br sm as_ go sh_ ir oa ob th ig sp_ ki tg of_ kp sf rs), (aI g to_ 25 tl)]) u) t) A) (by decide) rfl (Nat.le_of_ble_eq_true rfl) ?_
  intro p e s m args below meth c A ls H locs Q hQ hB
  obtain ⟨hx, hb, hr, hml, hown, hts, hlk, hin, hP, hK, hD, hS, hA, hE, hl⟩ := hB
  have hl : lv_has ls 1 [(0, .ref m0)] := hl
  have f23 := hts (.fieldLink RX11 23 "HiredEnemyModel" "told" "[I") (iwoX11_firstWalls (k := 0) rfl)
  have inX11 : ∀ w ∈ wsX110, w ∈ wsX11_firstWalls := innX11_firstWalls_X11
  refine lv_iconst (v := 1) hx hb dX11_firstWalls_0 (by decide) ?_
  refine lv_iconst (v := 3) hx hb dX11_firstWalls_1 (by decide) ?_
  refine lv_aload_n hx hb dX11_firstWalls_2 rfl (lv_at hl 0 rfl) ?_
  refine va_get (v := .ref to_) (T := TX11) (N := 35) hx hb hts inX11 hown hK hP 0 rfl rfl 11 (by decide) f23 (fun _ h9 => h9) rfl dX11_firstWalls_3 ?_
  refine lv_iconst (v := 0) hx hb dX11_firstWalls_6 (by decide) ?_
  refine he_iald hx hb hK hP 1 rfl (0) (by decide) (by decide) (by first | decide | assumption) (tl 0) rfl dX11_firstWalls_7 ?_
  refine he_ci (wc := []) (wr := [(oX11 m0 tw ta sz_ pl at_ fa fw cs fd rfm rt_ to_ rw_ wa ct rk rb cn br sm as_ go sh_ ir oa ob th ig sp_ ki tg of_ kp sf rs), (aI g to_ 25 tl)]) (va_runS (As := [.int 3, .int (tl 0)]) (rest := [.int 1]) ⟨hx, hb, hml, hown, hts⟩ (c_X11_less l g 3 (tl 0) H.size) (va_cwS 2 hts gX11_firstWalls_X11_less rfl rfl rfl (by decide +kernel) ⟨Nat.le_of_ble_eq_true rfl, Nat.le_of_ble_eq_true rfl⟩) (he_preS (wc := []) hK hP hD hS hA hE [] rfl rfl) rfl rfl hl.1 rfl (lv_room (Nat.le_of_ble_eq_true rfl)) dX11_firstWalls_8 ⟨(Nat.le_of_ble_eq_true rfl), (Nat.le_of_ble_eq_true rfl)⟩) hP hD hS hA [] [0, 1] rfl rfl rfl (by decide) (fun r_1 u_2 H locs h_3 hP hD hS => ?_)
  subst h_3
  have hP : va_P g.1 vwCl [(oX11 m0 tw ta sz_ pl at_ fa fw cs fd rfm rt_ to_ rw_ wa ct rk rb cn br sm as_ go sh_ ir oa ob th ig sp_ ki tg of_ kp sf rs), (aI g to_ 25 tl)] H := hP
  have hD : va_D A [(oX11 m0 tw ta sz_ pl at_ fa fw cs fd rfm rt_ to_ rw_ wa ct rk rb cn br sm as_ go sh_ ir oa ob th ig sp_ ki tg of_ kp sf rs), (aI g to_ 25 tl)] := hD
  refine lv_ishl hx hb dX11_firstWalls_11 ?_
  refine lv_iconst (v := 1) hx hb dX11_firstWalls_12 (by decide) ?_
  refine lv_isub hx hb dX11_firstWalls_13 ?_
  exact he_ri hQ hx hb hr hlk hP hD hS dX11_firstWalls_14 (Nat.le_of_ble_eq_true rfl) (Nat.le_of_ble_eq_true rfl) (()) (rfl) (trivial)
set_option maxHeartbeats 4000000 in
set_option maxRecDepth 100000 in
theorem h_X11_safeBy (l : Launch) (g : he_G) (m0 : Nat) (fd : Nat) (rfm : Nat) (rt_ : Nat) (to_ : Nat) (rw_ : Nat) (wa : Nat) (rk : Nat) (rb : Nat) (cn : Nat) (br : Nat) (sm : Nat) (as_ : Nat) (go : Nat) (sh_ : Nat) (ki : Nat) (tg : Nat) (of_ : Nat) (kp : Nat) (rs : Nat) (ta : Int32) (sz_ : Int32) (pl : Int32) (at_ : Int32) (fa : Int32) (fw : Int32) (cs : Int32) (ct : Int32) (ir : Int32) (oa : Int32) (ob : Int32) (th : Int32) (ig : Int32) (sp_ : Int32) (sf : Int32) (tw : Int32) (L : List Nat) (ln : Nat → Nat) (M : Nat → Nat → Int32) (r2 : Nat → Nat) (x : Int32) (y : Int32) (wl : Int32) (F_r2 : ∀ i, i < 6 → r2 i ∈ L ∧ ln (r2 i) = 2 ∧ True) : he_I l yX11_safeBy wsX11_safeBy 2 46 0 0 g [.ref m0, .int x, .int y, .int wl] ([(oX11 m0 tw ta sz_ pl at_ fa fw cs fd rfm rt_ to_ rw_ wa ct rk rb cn br sm as_ go sh_ ir oa ob th ig sp_ ki tg of_ kp sf rs), (aM g wa 6 (he_ro 6 r2))] ++ he_pl g L ln M) (fun (r : Int32) (u : Int32) => True) (fun (u : Int32) => [(oX11 m0 tw ta sz_ pl at_ fa fw cs fd rfm rt_ to_ rw_ wa ct rk rb cn br sm as_ go sh_ ir oa ob th ig sp_ ki tg of_ kp u rs), (aM g wa 6 (he_ro 6 r2))] ++ he_pl g L ln M) := by
  refine he_begin (l := l) (g := g) (y := yX11_safeBy) (wl := wsX11_safeBy) (fr := 2) (lo := 46) (mc := 0) (ms := 0) (av := [.ref m0, .int x, .int y, .int wl]) (ws := ([(oX11 m0 tw ta sz_ pl at_ fa fw cs fd rfm rt_ to_ rw_ wa ct rk rb cn br sm as_ go sh_ ir oa ob th ig sp_ ki tg of_ kp sf rs), (aM g wa 6 (he_ro 6 r2))] ++ he_pl g L ln M)) (cc := cX11_safeBy) (maxL := 8) (ret := (some .int)) (fun A => va_Qi (fun (r : Int32) (u : Int32) => True) (fun u t => he_post g A ((fun (u : Int32) => [(oX11 m0 tw ta sz_ pl at_ fa fw cs fd rfm rt_ to_ rw_ wa ct rk rb cn br sm as_ go sh_ ir oa ob th ig sp_ ki tg of_ kp u rs), (aM g wa 6 (he_ro 6 r2))] ++ he_pl g L ln M) u) t) A) (by decide) rfl (Nat.le_of_ble_eq_true rfl) ?_
  intro p e s m args below meth c A ls H locs Q hQ hB
  obtain ⟨hx, hb, hr, hml, hown, hts, hlk, hin, hP, hK, hD, hS, hA, hE, hl⟩ := hB
  have hl : lv_has ls 8 [(0, .ref m0), (1, .int x), (2, .int y), (3, .int wl)] := hl
  have f244 := hts (.fieldLink RX11 244 "HiredEnemyModel" "safeRow" "I") (iwoX11_safeBy (k := 0) rfl)
  have inX11 : ∀ w ∈ wsX110, w ∈ wsX11_safeBy := innX11_safeBy_X11
  refine lv_iconst (v := (-1)) hx hb dX11_safeBy_0 (by decide) ?_
  refine lv_istore (lv' := [(4, .int (-1)), (0, .ref m0), (1, .int x), (2, .int y), (3, .int wl)]) hx hb dX11_safeBy_1 hl (by decide) rfl (fun ls hl => ?_)
  refine lv_aload_n hx hb dX11_safeBy_3 rfl (lv_at hl 1 rfl) ?_
  refine lv_iconst (v := 0) hx hb dX11_safeBy_4 (by decide) ?_
  refine va_put (v := .int 0) (ty := .int) (T := TX11) (N := 35) hx hb hts inX11 tyX11 tyX11_ok nmX11 hown hK hP hD hS 0 rfl rfl 33 (by decide) f244 (fun _ h9 => h9) rfl (by decide +kernel) rfl rfl (Nat.le_of_ble_eq_true rfl) dX11_safeBy_5 (fun H locs hP hD hS => ?_)
  have hP : va_P g.1 vwCl ([(oX11 m0 tw ta sz_ pl at_ fa fw cs fd rfm rt_ to_ rw_ wa ct rk rb cn br sm as_ go sh_ ir oa ob th ig sp_ ki tg of_ kp 0 rs), (aM g wa 6 (he_ro 6 r2))] ++ he_pl g L ln M) H := hP
  have hD : va_D A ([(oX11 m0 tw ta sz_ pl at_ fa fw cs fd rfm rt_ to_ rw_ wa ct rk rb cn br sm as_ go sh_ ir oa ob th ig sp_ ki tg of_ kp 0 rs), (aM g wa 6 (he_ro 6 r2))] ++ he_pl g L ln M) := hD
  refine lv_iconst (v := 0) hx hb dX11_safeBy_8 (by decide) ?_
  refine lv_istore (lv' := [(5, .int 0), (4, .int (-1)), (0, .ref m0), (1, .int x), (2, .int y), (3, .int wl)]) hx hb dX11_safeBy_9 hl (by decide) rfl (fun ls hl => ?_)
  have loop11 : ∀ (n9 : Nat) (j : Nat) (be : Int32) (sr : Int32), 343 - j < n9 → (j ≤ 343) → ∀ (H : Heap) (locs : List Loc) (ls : Array Slot), va_P g.1 vwCl ([(oX11 m0 tw ta sz_ pl at_ fa fw cs fd rfm rt_ to_ rw_ wa ct rk rb cn br sm as_ go sh_ ir oa ob th ig sp_ ki tg of_ kp sr rs), (aM g wa 6 (he_ro 6 r2))] ++ he_pl g L ln M) H → va_D A ([(oX11 m0 tw ta sz_ pl at_ fa fw cs fd rfm rt_ to_ rw_ wa ct rk rb cn br sm as_ go sh_ ir oa ob th ig sp_ ki tg of_ kp sr rs), (aM g wa 6 (he_ro 6 r2))] ++ he_pl g L ln M) → va_S A s.heap H locs → lv_has ls 8 [(0, .ref m0), (1, .int x), (2, .int y), (3, .int wl), (4, .int be), (5, .int (nI j))] → W p l e (he_room 2 46 0 0) s m args below meth c H locs 0 0 Q (F0 m 11 ls []) := by
    intro n9
    induction n9 with
    | zero => intro j be sr hm9; exact absurd hm9 (Nat.not_lt_zero _)
    | succ n9 ih11 =>
      intro j be sr hm9 hj H locs ls hP hD hS hl
      refine lv_iload hx hb dX11_safeBy_11 (lv_at hl 5 rfl) ?_
      refine lv_sipush (v := 343) hx hb dX11_safeBy_13 (by decide) ?_
      refine lv_icmp_ge (tgt := 124) hx hb dX11_safeBy_16 (by decide) (fun c_1 => ?_) (fun c_1 => ?_)
      · have k_2 : 343 ≤ j := (he_cle (a := 343) (b := j) (by decide) rfl (by omega) (by omega)).mp c_1
        refine lv_iload hx hb dX11_safeBy_124 (lv_at hl 4 rfl) ?_
        exact he_ri hQ hx hb hr hlk hP hD hS dX11_safeBy_126 (Nat.le_of_ble_eq_true rfl) (Nat.le_of_ble_eq_true rfl) (sr) (rfl) (trivial)
      · have k_3 : ¬ (343 ≤ j) := fun h9 => c_1 ((he_cle (a := 343) (b := j) (by decide) rfl (by omega) (by omega)).mpr h9)
        refine lv_iload hx hb dX11_safeBy_19 (lv_at hl 5 rfl) ?_
        refine lv_iload_n hx hb dX11_safeBy_21 rfl (lv_at hl 2 rfl) ?_
        refine lv_iload_n hx hb dX11_safeBy_22 rfl (lv_at hl 3 rfl) ?_
        refine he_ci (wc := []) (wr := ([(oX11 m0 tw ta sz_ pl at_ fa fw cs fd rfm rt_ to_ rw_ wa ct rk rb cn br sm as_ go sh_ ir oa ob th ig sp_ ki tg of_ kp sr rs), (aM g wa 6 (he_ro 6 r2))] ++ (he_pl g L ln M))) (va_runS (As := [.int (nI j), .int y, .int wl]) (rest := []) ⟨hx, hb, hml, hown, hts⟩ (h_X11_puts0 l g (nI j) y wl H.size) (va_cwS 3 hts gX11_safeBy_X11_puts0 rfl rfl rfl (by decide +kernel) ⟨Nat.le_of_ble_eq_true rfl, Nat.le_of_ble_eq_true rfl⟩) (he_preS (wc := []) hK hP hD hS hA hE [] rfl rfl) rfl rfl hl.1 rfl (lv_room (Nat.le_of_ble_eq_true rfl)) dX11_safeBy_23 ⟨(Nat.le_of_ble_eq_true rfl), (Nat.le_of_ble_eq_true rfl)⟩) hP hD hS hA [] (he_is [0, 1] [(oX11 m0 tw ta sz_ pl at_ fa fw cs fd rfm rt_ to_ rw_ wa ct rk rb cn br sm as_ go sh_ ir oa ob th ig sp_ ki tg of_ kp sr rs), (aM g wa 6 (he_ro 6 r2))] (he_pl g L ln M)) rfl (he_ixP rfl) (he_ndP rfl rfl) (he_disN (by decide) rfl) (fun r_4 u_5 H locs h_6 hP hD hS => ?_)
        have hP := va_P.swap hP
        have hD := va_D.swap hD
        try dsimp only at h_6
        have hf_7 := h_6
        have hP : va_P g.1 vwCl ([(oX11 m0 tw ta sz_ pl at_ fa fw cs fd rfm rt_ to_ rw_ wa ct rk rb cn br sm as_ go sh_ ir oa ob th ig sp_ ki tg of_ kp sr rs), (aM g wa 6 (he_ro 6 r2))] ++ he_pl g L ln M) H := hP
        have hD : va_D A ([(oX11 m0 tw ta sz_ pl at_ fa fw cs fd rfm rt_ to_ rw_ wa ct rk rb cn br sm as_ go sh_ ir oa ob th ig sp_ ki tg of_ kp sr rs), (aM g wa 6 (he_ro 6 r2))] ++ he_pl g L ln M) := hD
        refine lv_if_ne (tgt := 32) hx hb dX11_safeBy_26 (by decide) (fun c_8 => ?_) (fun c_8 => ?_)
        · refine lv_iconst (v := 0) hx hb dX11_safeBy_32 (by decide) ?_
          refine lv_istore (lv' := [(6, .int 0), (0, .ref m0), (1, .int x), (2, .int y), (3, .int wl), (4, .int be), (5, .int (nI j))]) hx hb dX11_safeBy_33 hl (by decide) rfl (fun ls hl => ?_)
          refine lv_iconst (v := 0) hx hb dX11_safeBy_35 (by decide) ?_
          refine lv_istore (lv' := [(7, .int 0), (6, .int 0), (0, .ref m0), (1, .int x), (2, .int y), (3, .int wl), (4, .int be), (5, .int (nI j))]) hx hb dX11_safeBy_36 hl (by decide) rfl (fun ls hl => ?_)
          have loop38 : ∀ (n9 : Nat) (i : Nat) (wo : Int32), 343 - i < n9 → (i ≤ 343) → ∀ (H : Heap) (locs : List Loc) (ls : Array Slot), va_P g.1 vwCl ([(oX11 m0 tw ta sz_ pl at_ fa fw cs fd rfm rt_ to_ rw_ wa ct rk rb cn br sm as_ go sh_ ir oa ob th ig sp_ ki tg of_ kp sr rs), (aM g wa 6 (he_ro 6 r2))] ++ he_pl g L ln M) H → va_D A ([(oX11 m0 tw ta sz_ pl at_ fa fw cs fd rfm rt_ to_ rw_ wa ct rk rb cn br sm as_ go sh_ ir oa ob th ig sp_ ki tg of_ kp sr rs), (aM g wa 6 (he_ro 6 r2))] ++ he_pl g L ln M) → va_S A s.heap H locs → lv_has ls 8 [(0, .ref m0), (1, .int x), (2, .int y), (3, .int wl), (4, .int be), (5, .int (nI j)), (6, .int wo), (7, .int (nI i))] → W p l e (he_room 2 46 0 0) s m args below meth c H locs 0 0 Q (F0 m 38 ls []) := by
            intro n9
            induction n9 with
            | zero => intro i wo hm9; exact absurd hm9 (Nat.not_lt_zero _)
            | succ n9 ih38 =>
              intro i wo hm9 hi H locs ls hP hD hS hl
              refine lv_iload hx hb dX11_safeBy_38 (lv_at hl 7 rfl) ?_
              refine lv_sipush (v := 343) hx hb dX11_safeBy_40 (by decide) ?_
              refine lv_icmp_ge (tgt := 92) hx hb dX11_safeBy_43 (by decide) (fun c_9 => ?_) (fun c_9 => ?_)
              · have k_10 : 343 ≤ i := (he_cle (a := 343) (b := i) (by decide) rfl (by omega) (by omega)).mp c_9
                have join108 : ∀ (_ : Unit), ∀ (H : Heap) (locs : List Loc) (ls : Array Slot), va_P g.1 vwCl ([(oX11 m0 tw ta sz_ pl at_ fa fw cs fd rfm rt_ to_ rw_ wa ct rk rb cn br sm as_ go sh_ ir oa ob th ig sp_ ki tg of_ kp sr rs), (aM g wa 6 (he_ro 6 r2))] ++ he_pl g L ln M) H → va_D A ([(oX11 m0 tw ta sz_ pl at_ fa fw cs fd rfm rt_ to_ rw_ wa ct rk rb cn br sm as_ go sh_ ir oa ob th ig sp_ ki tg of_ kp sr rs), (aM g wa 6 (he_ro 6 r2))] ++ he_pl g L ln M) → va_S A s.heap H locs → lv_has ls 8 [(0, .ref m0), (1, .int x), (2, .int y), (3, .int wl), (4, .int be), (5, .int (nI j)), (6, .int wo), (7, .int (nI i))] → W p l e (he_room 2 46 0 0) s m args below meth c H locs 0 0 Q (F0 m 108 ls []) := by
                  intro _ H locs ls hP hD hS hl
                  refine lv_iload hx hb dX11_safeBy_108 (lv_at hl 6 rfl) ?_
                  refine lv_istore (lv' := [(4, .int wo), (0, .ref m0), (1, .int x), (2, .int y), (3, .int wl), (5, .int (nI j)), (6, .int wo), (7, .int (nI i))]) hx hb dX11_safeBy_110 hl (by decide) rfl (fun ls hl => ?_)
                  refine lv_aload_n hx hb dX11_safeBy_112 rfl (lv_at hl 1 rfl) ?_
                  refine lv_iload hx hb dX11_safeBy_113 (lv_at hl 5 rfl) ?_
                  refine va_put (v := .int (nI j)) (ty := .int) (T := TX11) (N := 35) hx hb hts inX11 tyX11 tyX11_ok nmX11 hown hK hP hD hS 0 rfl rfl 33 (by decide) f244 (fun _ h9 => h9) rfl (by decide +kernel) rfl rfl (Nat.le_of_ble_eq_true rfl) dX11_safeBy_115 (fun H locs hP hD hS => ?_)
                  have hP : va_P g.1 vwCl ([(oX11 m0 tw ta sz_ pl at_ fa fw cs fd rfm rt_ to_ rw_ wa ct rk rb cn br sm as_ go sh_ ir oa ob th ig sp_ ki tg of_ kp (nI j) rs), (aM g wa 6 (he_ro 6 r2))] ++ he_pl g L ln M) H := hP
                  have hD : va_D A ([(oX11 m0 tw ta sz_ pl at_ fa fw cs fd rfm rt_ to_ rw_ wa ct rk rb cn br sm as_ go sh_ ir oa ob th ig sp_ ki tg of_ kp (nI j) rs), (aM g wa 6 (he_ro 6 r2))] ++ he_pl g L ln M) := hD
                  refine lv_iinc (v := nI (j + 1)) (lv' := [(5, .int (nI (j + 1))), (4, .int wo), (0, .ref m0), (1, .int x), (2, .int y), (3, .int wl), (6, .int wo), (7, .int (nI i))]) hx hb dX11_safeBy_118 hl (k := 5) rfl (nI_1 j) (by decide) rfl (fun ls hl => ?_)
                  refine lv_goto (tgt := 11) hx hb dX11_safeBy_121 (by decide) ?_
                  exact ih11 (j + 1) wo (nI j) (by omega) (by omega) _ _ _ hP hD hS (lv_sub hl [2, 3, 4, 5, 1, 0] rfl)
                refine lv_iload hx hb dX11_safeBy_92 (lv_at hl 4 rfl) ?_
                refine lv_iconst (v := (-1)) hx hb dX11_safeBy_94 (by decide) ?_
                refine lv_icmp_eq (tgt := 108) hx hb dX11_safeBy_95 (by decide) (fun c_11 => ?_) (fun c_11 => ?_)
                · exact join108 ()  _ _ _ hP hD hS (lv_sub hl [0, 1, 2, 3, 4, 5, 6, 7] rfl)
                · refine lv_iload hx hb dX11_safeBy_98 (lv_at hl 6 rfl) ?_
                  refine lv_iload hx hb dX11_safeBy_100 (lv_at hl 4 rfl) ?_
                  refine lv_icmp_lt (tgt := 108) hx hb dX11_safeBy_102 (by decide) (fun c_12 => ?_) (fun c_12 => ?_)
                  · exact join108 ()  _ _ _ hP hD hS (lv_sub hl [0, 1, 2, 3, 4, 5, 6, 7] rfl)
                  · refine lv_goto (tgt := 118) hx hb dX11_safeBy_105 (by decide) ?_
                    refine lv_iinc (v := nI (j + 1)) (lv' := [(5, .int (nI (j + 1))), (0, .ref m0), (1, .int x), (2, .int y), (3, .int wl), (4, .int be), (6, .int wo), (7, .int (nI i))]) hx hb dX11_safeBy_118 hl (k := 5) rfl (nI_1 j) (by decide) rfl (fun ls hl => ?_)
                    refine lv_goto (tgt := 11) hx hb dX11_safeBy_121 (by decide) ?_
                    exact ih11 (j + 1) be sr (by omega) (by omega) _ _ _ hP hD hS (lv_sub hl [1, 2, 3, 4, 5, 0] rfl)
              · have k_13 : ¬ (343 ≤ i) := fun h9 => c_9 ((he_cle (a := 343) (b := i) (by decide) rfl (by omega) (by omega)).mpr h9)
                have join84 : ∀ (tv : Int32), ∀ (H : Heap) (locs : List Loc) (ls : Array Slot), va_P g.1 vwCl ([(oX11 m0 tw ta sz_ pl at_ fa fw cs fd rfm rt_ to_ rw_ wa ct rk rb cn br sm as_ go sh_ ir oa ob th ig sp_ ki tg of_ kp sr rs), (aM g wa 6 (he_ro 6 r2))] ++ he_pl g L ln M) H → va_D A ([(oX11 m0 tw ta sz_ pl at_ fa fw cs fd rfm rt_ to_ rw_ wa ct rk rb cn br sm as_ go sh_ ir oa ob th ig sp_ ki tg of_ kp sr rs), (aM g wa 6 (he_ro 6 r2))] ++ he_pl g L ln M) → va_S A s.heap H locs → lv_has ls 8 [(0, .ref m0), (1, .int x), (2, .int y), (3, .int wl), (4, .int be), (5, .int (nI j)), (6, .int wo), (7, .int (nI i))] → W p l e (he_room 2 46 0 0) s m args below meth c H locs 0 0 Q (F0 m 84 ls [.int tv]) := by
                  intro tv H locs ls hP hD hS hl
                  refine lv_istore (lv' := [(6, .int tv), (0, .ref m0), (1, .int x), (2, .int y), (3, .int wl), (4, .int be), (5, .int (nI j)), (7, .int (nI i))]) hx hb dX11_safeBy_84 hl (by decide) rfl (fun ls hl => ?_)
                  refine lv_iinc (v := nI (i + 1)) (lv' := [(7, .int (nI (i + 1))), (6, .int tv), (0, .ref m0), (1, .int x), (2, .int y), (3, .int wl), (4, .int be), (5, .int (nI j))]) hx hb dX11_safeBy_86 hl (k := 7) rfl (nI_1 i) (by decide) rfl (fun ls hl => ?_)
                  refine lv_goto (tgt := 38) hx hb dX11_safeBy_89 (by decide) ?_
                  exact ih38 (i + 1) tv (by omega) (by omega) _ _ _ hP hD hS (lv_sub hl [2, 3, 4, 5, 6, 7, 1, 0] rfl)
                refine lv_iload hx hb dX11_safeBy_46 (lv_at hl 7 rfl) ?_
                refine lv_iload_n hx hb dX11_safeBy_48 rfl (lv_at hl 1 rfl) ?_
                refine lv_iload_n hx hb dX11_safeBy_49 rfl (lv_at hl 3 rfl) ?_
                refine he_ci (wc := []) (wr := ([(oX11 m0 tw ta sz_ pl at_ fa fw cs fd rfm rt_ to_ rw_ wa ct rk rb cn br sm as_ go sh_ ir oa ob th ig sp_ ki tg of_ kp sr rs), (aM g wa 6 (he_ro 6 r2))] ++ (he_pl g L ln M))) (va_runS (As := [.int (nI i), .int x, .int wl]) (rest := []) ⟨hx, hb, hml, hown, hts⟩ (h_X11_puts0 l g (nI i) x wl H.size) (va_cwS 3 hts gX11_safeBy_X11_puts0 rfl rfl rfl (by decide +kernel) ⟨Nat.le_of_ble_eq_true rfl, Nat.le_of_ble_eq_true rfl⟩) (he_preS (wc := []) hK hP hD hS hA hE [] rfl rfl) rfl rfl hl.1 rfl (lv_room (Nat.le_of_ble_eq_true rfl)) dX11_safeBy_50 ⟨(Nat.le_of_ble_eq_true rfl), (Nat.le_of_ble_eq_true rfl)⟩) hP hD hS hA [] (he_is [0, 1] [(oX11 m0 tw ta sz_ pl at_ fa fw cs fd rfm rt_ to_ rw_ wa ct rk rb cn br sm as_ go sh_ ir oa ob th ig sp_ ki tg of_ kp sr rs), (aM g wa 6 (he_ro 6 r2))] (he_pl g L ln M)) rfl (he_ixP rfl) (he_ndP rfl rfl) (he_disN (by decide) rfl) (fun r_14 u_15 H locs h_16 hP hD hS => ?_)
                have hP := va_P.swap hP
                have hD := va_D.swap hD
                try dsimp only at h_16
                have hf_17 := h_16
                have hP : va_P g.1 vwCl ([(oX11 m0 tw ta sz_ pl at_ fa fw cs fd rfm rt_ to_ rw_ wa ct rk rb cn br sm as_ go sh_ ir oa ob th ig sp_ ki tg of_ kp sr rs), (aM g wa 6 (he_ro 6 r2))] ++ he_pl g L ln M) H := hP
                have hD : va_D A ([(oX11 m0 tw ta sz_ pl at_ fa fw cs fd rfm rt_ to_ rw_ wa ct rk rb cn br sm as_ go sh_ ir oa ob th ig sp_ ki tg of_ kp sr rs), (aM g wa 6 (he_ro 6 r2))] ++ he_pl g L ln M) := hD
                refine lv_if_eq (tgt := 82) hx hb dX11_safeBy_53 (by decide) (fun c_18 => ?_) (fun c_18 => ?_)
                · refine lv_iload hx hb dX11_safeBy_82 (lv_at hl 6 rfl) ?_
                  exact join84 wo  _ _ _ hP hD hS (lv_sub hl [0, 1, 2, 3, 4, 5, 6, 7] rfl)
                · refine lv_aload_n hx hb dX11_safeBy_56 rfl (lv_at hl 0 rfl) ?_
                  refine lv_iload hx hb dX11_safeBy_57 (lv_at hl 7 rfl) ?_
                  refine lv_iload hx hb dX11_safeBy_59 (lv_at hl 5 rfl) ?_
                  refine lv_iload_n hx hb dX11_safeBy_61 rfl (lv_at hl 3 rfl) ?_
                  refine he_ci (wc := ([(oX11 m0 tw ta sz_ pl at_ fa fw cs fd rfm rt_ to_ rw_ wa ct rk rb cn br sm as_ go sh_ ir oa ob th ig sp_ ki tg of_ kp sr rs), (aM g wa 6 (he_ro 6 r2))] ++ (he_pl g L ln M))) (wr := []) (va_runV (As := [.int (nI i), .int (nI j), .int wl]) (rest := []) ⟨hx, hb, hml, hown, hts⟩ (h_X11_falls l g m0 fd rfm rt_ to_ rw_ wa rk rb cn br sm as_ go sh_ ki tg of_ kp rs ta sz_ pl at_ fa fw cs ct ir oa ob th ig sp_ sr tw L ln M r2 (nI i) (nI j) wl (by first | assumption | decide | omega) H.size) (cwV 3 hts gX11_safeBy_X11_falls rfl rfl rfl (by decide +kernel) ⟨Nat.le_of_ble_eq_true rfl, Nat.le_of_ble_eq_true rfl⟩) (he_preV (wc := ([(oX11 m0 tw ta sz_ pl at_ fa fw cs fd rfm rt_ to_ rw_ wa ct rk rb cn br sm as_ go sh_ ir oa ob th ig sp_ ki tg of_ kp sr rs), (aM g wa 6 (he_ro 6 r2))] ++ (he_pl g L ln M))) hK hP hD hS hA hE (he_is [0, 1] [(oX11 m0 tw ta sz_ pl at_ fa fw cs fd rfm rt_ to_ rw_ wa ct rk rb cn br sm as_ go sh_ ir oa ob th ig sp_ ki tg of_ kp sr rs), (aM g wa 6 (he_ro 6 r2))] (he_pl g L ln M)) (he_ixP rfl) (he_ndP rfl rfl) 0 rfl rfl) rfl rfl hl.1 rfl (lv_room (Nat.le_of_ble_eq_true rfl)) dX11_safeBy_62 ⟨(Nat.le_of_ble_eq_true rfl), (Nat.le_of_ble_eq_true rfl)⟩) hP hD hS hA (he_is [0, 1] [(oX11 m0 tw ta sz_ pl at_ fa fw cs fd rfm rt_ to_ rw_ wa ct rk rb cn br sm as_ go sh_ ir oa ob th ig sp_ ki tg of_ kp sr rs), (aM g wa 6 (he_ro 6 r2))] (he_pl g L ln M)) [] (he_ixP rfl) rfl rfl (he_disP (by decide) rfl) (fun r_19 u_20 H locs h_21 hP hD hS => ?_)
                  have hP : va_P g.1 vwCl ([(oX11 m0 tw ta sz_ pl at_ fa fw cs fd rfm rt_ to_ rw_ wa ct rk rb cn br sm as_ go sh_ ir oa ob th ig sp_ ki tg of_ kp sr rs), (aM g wa 6 (he_ro 6 r2))] ++ he_pl g L ln M) H := hP
                  have hD : va_D A ([(oX11 m0 tw ta sz_ pl at_ fa fw cs fd rfm rt_ to_ rw_ wa ct rk rb cn br sm as_ go sh_ ir oa ob th ig sp_ ki tg of_ kp sr rs), (aM g wa 6 (he_ro 6 r2))] ++ he_pl g L ln M) := hD
                  refine lv_iload hx hb dX11_safeBy_65 (lv_at hl 6 rfl) ?_
                  refine lv_icmp_le (tgt := 82) hx hb dX11_safeBy_67 (by decide) (fun c_22 => ?_) (fun c_22 => ?_)
                  · refine lv_iload hx hb dX11_safeBy_82 (lv_at hl 6 rfl) ?_
                    exact join84 wo  _ _ _ hP hD hS (lv_sub hl [0, 1, 2, 3, 4, 5, 6, 7] rfl)
                  · refine lv_aload_n hx hb dX11_safeBy_70 rfl (lv_at hl 0 rfl) ?_
                    refine lv_iload hx hb dX11_safeBy_71 (lv_at hl 7 rfl) ?_
                    refine lv_iload hx hb dX11_safeBy_73 (lv_at hl 5 rfl) ?_
                    refine lv_iload_n hx hb dX11_safeBy_75 rfl (lv_at hl 3 rfl) ?_
                    refine he_ci (wc := ([(oX11 m0 tw ta sz_ pl at_ fa fw cs fd rfm rt_ to_ rw_ wa ct rk rb cn br sm as_ go sh_ ir oa ob th ig sp_ ki tg of_ kp sr rs), (aM g wa 6 (he_ro 6 r2))] ++ (he_pl g L ln M))) (wr := []) (va_runV (As := [.int (nI i), .int (nI j), .int wl]) (rest := []) ⟨hx, hb, hml, hown, hts⟩ (h_X11_falls l g m0 fd rfm rt_ to_ rw_ wa rk rb cn br sm as_ go sh_ ki tg of_ kp rs ta sz_ pl at_ fa fw cs ct ir oa ob th ig sp_ sr tw L ln M r2 (nI i) (nI j) wl (by first | assumption | decide | omega) H.size) (cwV 3 hts gX11_safeBy_X11_falls rfl rfl rfl (by decide +kernel) ⟨Nat.le_of_ble_eq_true rfl, Nat.le_of_ble_eq_true rfl⟩) (he_preV (wc := ([(oX11 m0 tw ta sz_ pl at_ fa fw cs fd rfm rt_ to_ rw_ wa ct rk rb cn br sm as_ go sh_ ir oa ob th ig sp_ ki tg of_ kp sr rs), (aM g wa 6 (he_ro 6 r2))] ++ (he_pl g L ln M))) hK hP hD hS hA hE (he_is [0, 1] [(oX11 m0 tw ta sz_ pl at_ fa fw cs fd rfm rt_ to_ rw_ wa ct rk rb cn br sm as_ go sh_ ir oa ob th ig sp_ ki tg of_ kp sr rs), (aM g wa 6 (he_ro 6 r2))] (he_pl g L ln M)) (he_ixP rfl) (he_ndP rfl rfl) 0 rfl rfl) rfl rfl hl.1 rfl (lv_room (Nat.le_of_ble_eq_true rfl)) dX11_safeBy_76 ⟨(Nat.le_of_ble_eq_true rfl), (Nat.le_of_ble_eq_true rfl)⟩) hP hD hS hA (he_is [0, 1] [(oX11 m0 tw ta sz_ pl at_ fa fw cs fd rfm rt_ to_ rw_ wa ct rk rb cn br sm as_ go sh_ ir oa ob th ig sp_ ki tg of_ kp sr rs), (aM g wa 6 (he_ro 6 r2))] (he_pl g L ln M)) [] (he_ixP rfl) rfl rfl (he_disP (by decide) rfl) (fun r_23 u_24 H locs h_25 hP hD hS => ?_)
                    have hP : va_P g.1 vwCl ([(oX11 m0 tw ta sz_ pl at_ fa fw cs fd rfm rt_ to_ rw_ wa ct rk rb cn br sm as_ go sh_ ir oa ob th ig sp_ ki tg of_ kp sr rs), (aM g wa 6 (he_ro 6 r2))] ++ he_pl g L ln M) H := hP
                    have hD : va_D A ([(oX11 m0 tw ta sz_ pl at_ fa fw cs fd rfm rt_ to_ rw_ wa ct rk rb cn br sm as_ go sh_ ir oa ob th ig sp_ ki tg of_ kp sr rs), (aM g wa 6 (he_ro 6 r2))] ++ he_pl g L ln M) := hD
                    refine lv_goto (tgt := 84) hx hb dX11_safeBy_79 (by decide) ?_
                    exact join84 r_23  _ _ _ hP hD hS (lv_sub hl [0, 1, 2, 3, 4, 5, 6, 7] rfl)
          exact loop38 ((343 - 0) + 1) 0 0 (Nat.lt_succ_self _) (Nat.zero_le _) _ _ _ hP hD hS (lv_sub hl [2, 3, 4, 5, 6, 7, 1, 0] rfl)
        · refine lv_goto (tgt := 118) hx hb dX11_safeBy_29 (by decide) ?_
          refine lv_iinc (v := nI (j + 1)) (lv' := [(5, .int (nI (j + 1))), (0, .ref m0), (1, .int x), (2, .int y), (3, .int wl), (4, .int be)]) hx hb dX11_safeBy_118 hl (k := 5) rfl (nI_1 j) (by decide) rfl (fun ls hl => ?_)
          refine lv_goto (tgt := 11) hx hb dX11_safeBy_121 (by decide) ?_
          exact ih11 (j + 1) be sr (by omega) (by omega) _ _ _ hP hD hS (lv_sub hl [1, 2, 3, 4, 5, 0] rfl)
  exact loop11 ((343 - 0) + 1) 0 (-1) 0 (Nat.lt_succ_self _) (Nat.zero_le _) _ _ _ hP hD hS (lv_sub hl [2, 3, 4, 5, 1, 0] rfl)
set_option maxHeartbeats 4000000 in
set_option maxRecDepth 100000 in
theorem h_X11_sureBy (l : Launch) (g : he_G) (m0 : Nat) (fd : Nat) (rfm : Nat) (rt_ : Nat) (to_ : Nat) (rw_ : Nat) (wa : Nat) (rk : Nat) (rb : Nat) (cn : Nat) (br : Nat) (sm : Nat) (as_ : Nat) (go : Nat) (sh_ : Nat) (ki : Nat) (tg : Nat) (of_ : Nat) (kp : Nat) (rs : Nat) (ta : Int32) (sz_ : Int32) (pl : Int32) (at_ : Int32) (fa : Int32) (fw : Int32) (cs : Int32) (ct : Int32) (ir : Int32) (oa : Int32) (ob : Int32) (th : Int32) (ig : Int32) (sp_ : Int32) (sf : Int32) (tw : Int32) (L : List Nat) (ln : Nat → Nat) (M : Nat → Nat → Int32) (r2 : Nat → Nat) (x : Int32) (y : Int32) (wl : Int32) (F_r2 : ∀ i, i < 6 → r2 i ∈ L ∧ ln (r2 i) = 2 ∧ True) : he_I l yX11_sureBy wsX11_sureBy 2 46 0 0 g [.ref m0, .int x, .int y, .int wl] ([(oX11 m0 tw ta sz_ pl at_ fa fw cs fd rfm rt_ to_ rw_ wa ct rk rb cn br sm as_ go sh_ ir oa ob th ig sp_ ki tg of_ kp sf rs), (aM g wa 6 (he_ro 6 r2))] ++ he_pl g L ln M) (fun (r : Int32) (u : Unit) => True) (fun (u : Unit) => [(oX11 m0 tw ta sz_ pl at_ fa fw cs fd rfm rt_ to_ rw_ wa ct rk rb cn br sm as_ go sh_ ir oa ob th ig sp_ ki tg of_ kp sf rs), (aM g wa 6 (he_ro 6 r2))] ++ he_pl g L ln M) := by
  refine he_begin (l := l) (g := g) (y := yX11_sureBy) (wl := wsX11_sureBy) (fr := 2) (lo := 46) (mc := 0) (ms := 0) (av := [.ref m0, .int x, .int y, .int wl]) (ws := ([(oX11 m0 tw ta sz_ pl at_ fa fw cs fd rfm rt_ to_ rw_ wa ct rk rb cn br sm as_ go sh_ ir oa ob th ig sp_ ki tg of_ kp sf rs), (aM g wa 6 (he_ro 6 r2))] ++ he_pl g L ln M)) (cc := cX11_sureBy) (maxL := 8) (ret := (some .int)) (fun A => va_Qi (fun (r : Int32) (u : Unit) => True) (fun u t => he_post g A ((fun (u : Unit) => [(oX11 m0 tw ta sz_ pl at_ fa fw cs fd rfm rt_ to_ rw_ wa ct rk rb cn br sm as_ go sh_ ir oa ob th ig sp_ ki tg of_ kp sf rs), (aM g wa 6 (he_ro 6 r2))] ++ he_pl g L ln M) u) t) A) (by decide) rfl (Nat.le_of_ble_eq_true rfl) ?_
  intro p e s m args below meth c A ls H locs Q hQ hB
  obtain ⟨hx, hb, hr, hml, hown, hts, hlk, hin, hP, hK, hD, hS, hA, hE, hl⟩ := hB
  have hl : lv_has ls 8 [(0, .ref m0), (1, .int x), (2, .int y), (3, .int wl)] := hl
  refine lv_iconst (v := 0) hx hb dX11_sureBy_0 (by decide) ?_
  refine lv_istore (lv' := [(4, .int 0), (0, .ref m0), (1, .int x), (2, .int y), (3, .int wl)]) hx hb dX11_sureBy_1 hl (by decide) rfl (fun ls hl => ?_)
  refine lv_iconst (v := 0) hx hb dX11_sureBy_3 (by decide) ?_
  refine lv_istore (lv' := [(5, .int 0), (4, .int 0), (0, .ref m0), (1, .int x), (2, .int y), (3, .int wl)]) hx hb dX11_sureBy_4 hl (by decide) rfl (fun ls hl => ?_)
  have loop6 : ∀ (n9 : Nat) (j : Nat) (be : Int32), 343 - j < n9 → (j ≤ 343) → ∀ (H : Heap) (locs : List Loc) (ls : Array Slot), va_P g.1 vwCl ([(oX11 m0 tw ta sz_ pl at_ fa fw cs fd rfm rt_ to_ rw_ wa ct rk rb cn br sm as_ go sh_ ir oa ob th ig sp_ ki tg of_ kp sf rs), (aM g wa 6 (he_ro 6 r2))] ++ he_pl g L ln M) H → va_D A ([(oX11 m0 tw ta sz_ pl at_ fa fw cs fd rfm rt_ to_ rw_ wa ct rk rb cn br sm as_ go sh_ ir oa ob th ig sp_ ki tg of_ kp sf rs), (aM g wa 6 (he_ro 6 r2))] ++ he_pl g L ln M) → va_S A s.heap H locs → lv_has ls 8 [(0, .ref m0), (1, .int x), (2, .int y), (3, .int wl), (4, .int be), (5, .int (nI j))] → W p l e (he_room 2 46 0 0) s m args below meth c H locs 0 0 Q (F0 m 6 ls []) := by
    intro n9
    induction n9 with
    | zero => intro j be hm9; exact absurd hm9 (Nat.not_lt_zero _)
    | succ n9 ih6 =>
      intro j be hm9 hj H locs ls hP hD hS hl
      refine lv_iload hx hb dX11_sureBy_6 (lv_at hl 5 rfl) ?_
      refine lv_sipush (v := 343) hx hb dX11_sureBy_8 (by decide) ?_
      refine lv_icmp_ge (tgt := 110) hx hb dX11_sureBy_11 (by decide) (fun c_1 => ?_) (fun c_1 => ?_)
      · have k_2 : 343 ≤ j := (he_cle (a := 343) (b := j) (by decide) rfl (by omega) (by omega)).mp c_1
        refine lv_iload hx hb dX11_sureBy_110 (lv_at hl 4 rfl) ?_
        exact he_ri hQ hx hb hr hlk hP hD hS dX11_sureBy_112 (Nat.le_of_ble_eq_true rfl) (Nat.le_of_ble_eq_true rfl) (()) (rfl) (trivial)
      · have k_3 : ¬ (343 ≤ j) := fun h9 => c_1 ((he_cle (a := 343) (b := j) (by decide) rfl (by omega) (by omega)).mpr h9)
        refine lv_iload hx hb dX11_sureBy_14 (lv_at hl 5 rfl) ?_
        refine lv_iload_n hx hb dX11_sureBy_16 rfl (lv_at hl 1 rfl) ?_
        refine lv_iload_n hx hb dX11_sureBy_17 rfl (lv_at hl 3 rfl) ?_
        refine he_ci (wc := []) (wr := ([(oX11 m0 tw ta sz_ pl at_ fa fw cs fd rfm rt_ to_ rw_ wa ct rk rb cn br sm as_ go sh_ ir oa ob th ig sp_ ki tg of_ kp sf rs), (aM g wa 6 (he_ro 6 r2))] ++ (he_pl g L ln M))) (va_runS (As := [.int (nI j), .int x, .int wl]) (rest := []) ⟨hx, hb, hml, hown, hts⟩ (h_X11_puts0 l g (nI j) x wl H.size) (va_cwS 3 hts gX11_sureBy_X11_puts0 rfl rfl rfl (by decide +kernel) ⟨Nat.le_of_ble_eq_true rfl, Nat.le_of_ble_eq_true rfl⟩) (he_preS (wc := []) hK hP hD hS hA hE [] rfl rfl) rfl rfl hl.1 rfl (lv_room (Nat.le_of_ble_eq_true rfl)) dX11_sureBy_18 ⟨(Nat.le_of_ble_eq_true rfl), (Nat.le_of_ble_eq_true rfl)⟩) hP hD hS hA [] (he_is [0, 1] [(oX11 m0 tw ta sz_ pl at_ fa fw cs fd rfm rt_ to_ rw_ wa ct rk rb cn br sm as_ go sh_ ir oa ob th ig sp_ ki tg of_ kp sf rs), (aM g wa 6 (he_ro 6 r2))] (he_pl g L ln M)) rfl (he_ixP rfl) (he_ndP rfl rfl) (he_disN (by decide) rfl) (fun r_4 u_5 H locs h_6 hP hD hS => ?_)
        have hP := va_P.swap hP
        have hD := va_D.swap hD
        try dsimp only at h_6
        have hf_7 := h_6
        have hP : va_P g.1 vwCl ([(oX11 m0 tw ta sz_ pl at_ fa fw cs fd rfm rt_ to_ rw_ wa ct rk rb cn br sm as_ go sh_ ir oa ob th ig sp_ ki tg of_ kp sf rs), (aM g wa 6 (he_ro 6 r2))] ++ he_pl g L ln M) H := hP
        have hD : va_D A ([(oX11 m0 tw ta sz_ pl at_ fa fw cs fd rfm rt_ to_ rw_ wa ct rk rb cn br sm as_ go sh_ ir oa ob th ig sp_ ki tg of_ kp sf rs), (aM g wa 6 (he_ro 6 r2))] ++ he_pl g L ln M) := hD
        refine lv_if_ne (tgt := 27) hx hb dX11_sureBy_21 (by decide) (fun c_8 => ?_) (fun c_8 => ?_)
        · refine lv_iconst (v := (-1)) hx hb dX11_sureBy_27 (by decide) ?_
          refine lv_istore (lv' := [(6, .int (-1)), (0, .ref m0), (1, .int x), (2, .int y), (3, .int wl), (4, .int be), (5, .int (nI j))]) hx hb dX11_sureBy_28 hl (by decide) rfl (fun ls hl => ?_)
          refine lv_iconst (v := 0) hx hb dX11_sureBy_30 (by decide) ?_
          refine lv_istore (lv' := [(7, .int 0), (6, .int (-1)), (0, .ref m0), (1, .int x), (2, .int y), (3, .int wl), (4, .int be), (5, .int (nI j))]) hx hb dX11_sureBy_31 hl (by decide) rfl (fun ls hl => ?_)
          have loop33 : ∀ (n9 : Nat) (i : Nat) (wo : Int32), 343 - i < n9 → (i ≤ 343) → ∀ (H : Heap) (locs : List Loc) (ls : Array Slot), va_P g.1 vwCl ([(oX11 m0 tw ta sz_ pl at_ fa fw cs fd rfm rt_ to_ rw_ wa ct rk rb cn br sm as_ go sh_ ir oa ob th ig sp_ ki tg of_ kp sf rs), (aM g wa 6 (he_ro 6 r2))] ++ he_pl g L ln M) H → va_D A ([(oX11 m0 tw ta sz_ pl at_ fa fw cs fd rfm rt_ to_ rw_ wa ct rk rb cn br sm as_ go sh_ ir oa ob th ig sp_ ki tg of_ kp sf rs), (aM g wa 6 (he_ro 6 r2))] ++ he_pl g L ln M) → va_S A s.heap H locs → lv_has ls 8 [(0, .ref m0), (1, .int x), (2, .int y), (3, .int wl), (4, .int be), (5, .int (nI j)), (6, .int wo), (7, .int (nI i))] → W p l e (he_room 2 46 0 0) s m args below meth c H locs 0 0 Q (F0 m 33 ls []) := by
            intro n9
            induction n9 with
            | zero => intro i wo hm9; exact absurd hm9 (Nat.not_lt_zero _)
            | succ n9 ih33 =>
              intro i wo hm9 hi H locs ls hP hD hS hl
              refine lv_iload hx hb dX11_sureBy_33 (lv_at hl 7 rfl) ?_
              refine lv_sipush (v := 343) hx hb dX11_sureBy_35 (by decide) ?_
              refine lv_icmp_ge (tgt := 88) hx hb dX11_sureBy_38 (by decide) (fun c_9 => ?_) (fun c_9 => ?_)
              · have k_10 : 343 ≤ i := (he_cle (a := 343) (b := i) (by decide) rfl (by omega) (by omega)).mp c_9
                have join102 : ∀ (tv : Int32), ∀ (H : Heap) (locs : List Loc) (ls : Array Slot), va_P g.1 vwCl ([(oX11 m0 tw ta sz_ pl at_ fa fw cs fd rfm rt_ to_ rw_ wa ct rk rb cn br sm as_ go sh_ ir oa ob th ig sp_ ki tg of_ kp sf rs), (aM g wa 6 (he_ro 6 r2))] ++ he_pl g L ln M) H → va_D A ([(oX11 m0 tw ta sz_ pl at_ fa fw cs fd rfm rt_ to_ rw_ wa ct rk rb cn br sm as_ go sh_ ir oa ob th ig sp_ ki tg of_ kp sf rs), (aM g wa 6 (he_ro 6 r2))] ++ he_pl g L ln M) → va_S A s.heap H locs → lv_has ls 8 [(0, .ref m0), (1, .int x), (2, .int y), (3, .int wl), (4, .int be), (5, .int (nI j)), (6, .int wo), (7, .int (nI i))] → W p l e (he_room 2 46 0 0) s m args below meth c H locs 0 0 Q (F0 m 102 ls [.int tv]) := by
                  intro tv H locs ls hP hD hS hl
                  refine lv_istore (lv' := [(4, .int tv), (0, .ref m0), (1, .int x), (2, .int y), (3, .int wl), (5, .int (nI j)), (6, .int wo), (7, .int (nI i))]) hx hb dX11_sureBy_102 hl (by decide) rfl (fun ls hl => ?_)
                  refine lv_iinc (v := nI (j + 1)) (lv' := [(5, .int (nI (j + 1))), (4, .int tv), (0, .ref m0), (1, .int x), (2, .int y), (3, .int wl), (6, .int wo), (7, .int (nI i))]) hx hb dX11_sureBy_104 hl (k := 5) rfl (nI_1 j) (by decide) rfl (fun ls hl => ?_)
                  refine lv_goto (tgt := 6) hx hb dX11_sureBy_107 (by decide) ?_
                  exact ih6 (j + 1) tv (by omega) (by omega) _ _ _ hP hD hS (lv_sub hl [2, 3, 4, 5, 1, 0] rfl)
                refine lv_iload hx hb dX11_sureBy_88 (lv_at hl 6 rfl) ?_
                refine lv_iload hx hb dX11_sureBy_90 (lv_at hl 4 rfl) ?_
                refine lv_icmp_le (tgt := 100) hx hb dX11_sureBy_92 (by decide) (fun c_11 => ?_) (fun c_11 => ?_)
                · refine lv_iload hx hb dX11_sureBy_100 (lv_at hl 4 rfl) ?_
                  exact join102 be  _ _ _ hP hD hS (lv_sub hl [0, 1, 2, 3, 4, 5, 6, 7] rfl)
                · refine lv_iload hx hb dX11_sureBy_95 (lv_at hl 6 rfl) ?_
                  refine lv_goto (tgt := 102) hx hb dX11_sureBy_97 (by decide) ?_
                  exact join102 wo  _ _ _ hP hD hS (lv_sub hl [0, 1, 2, 3, 4, 5, 6, 7] rfl)
              · have k_12 : ¬ (343 ≤ i) := fun h9 => c_9 ((he_cle (a := 343) (b := i) (by decide) rfl (by omega) (by omega)).mpr h9)
                refine lv_iload hx hb dX11_sureBy_41 (lv_at hl 7 rfl) ?_
                refine lv_iload_n hx hb dX11_sureBy_43 rfl (lv_at hl 2 rfl) ?_
                refine lv_iload_n hx hb dX11_sureBy_44 rfl (lv_at hl 3 rfl) ?_
                refine he_ci (wc := []) (wr := ([(oX11 m0 tw ta sz_ pl at_ fa fw cs fd rfm rt_ to_ rw_ wa ct rk rb cn br sm as_ go sh_ ir oa ob th ig sp_ ki tg of_ kp sf rs), (aM g wa 6 (he_ro 6 r2))] ++ (he_pl g L ln M))) (va_runS (As := [.int (nI i), .int y, .int wl]) (rest := []) ⟨hx, hb, hml, hown, hts⟩ (h_X11_puts0 l g (nI i) y wl H.size) (va_cwS 3 hts gX11_sureBy_X11_puts0 rfl rfl rfl (by decide +kernel) ⟨Nat.le_of_ble_eq_true rfl, Nat.le_of_ble_eq_true rfl⟩) (he_preS (wc := []) hK hP hD hS hA hE [] rfl rfl) rfl rfl hl.1 rfl (lv_room (Nat.le_of_ble_eq_true rfl)) dX11_sureBy_45 ⟨(Nat.le_of_ble_eq_true rfl), (Nat.le_of_ble_eq_true rfl)⟩) hP hD hS hA [] (he_is [0, 1] [(oX11 m0 tw ta sz_ pl at_ fa fw cs fd rfm rt_ to_ rw_ wa ct rk rb cn br sm as_ go sh_ ir oa ob th ig sp_ ki tg of_ kp sf rs), (aM g wa 6 (he_ro 6 r2))] (he_pl g L ln M)) rfl (he_ixP rfl) (he_ndP rfl rfl) (he_disN (by decide) rfl) (fun r_13 u_14 H locs h_15 hP hD hS => ?_)
                have hP := va_P.swap hP
                have hD := va_D.swap hD
                try dsimp only at h_15
                have hf_16 := h_15
                have hP : va_P g.1 vwCl ([(oX11 m0 tw ta sz_ pl at_ fa fw cs fd rfm rt_ to_ rw_ wa ct rk rb cn br sm as_ go sh_ ir oa ob th ig sp_ ki tg of_ kp sf rs), (aM g wa 6 (he_ro 6 r2))] ++ he_pl g L ln M) H := hP
                have hD : va_D A ([(oX11 m0 tw ta sz_ pl at_ fa fw cs fd rfm rt_ to_ rw_ wa ct rk rb cn br sm as_ go sh_ ir oa ob th ig sp_ ki tg of_ kp sf rs), (aM g wa 6 (he_ro 6 r2))] ++ he_pl g L ln M) := hD
                refine lv_if_eq (tgt := 82) hx hb dX11_sureBy_48 (by decide) (fun c_17 => ?_) (fun c_17 => ?_)
                · refine lv_iinc (v := nI (i + 1)) (lv' := [(7, .int (nI (i + 1))), (0, .ref m0), (1, .int x), (2, .int y), (3, .int wl), (4, .int be), (5, .int (nI j)), (6, .int wo)]) hx hb dX11_sureBy_82 hl (k := 7) rfl (nI_1 i) (by decide) rfl (fun ls hl => ?_)
                  refine lv_goto (tgt := 33) hx hb dX11_sureBy_85 (by decide) ?_
                  exact ih33 (i + 1) wo (by omega) (by omega) _ _ _ hP hD hS (lv_sub hl [1, 2, 3, 4, 5, 6, 7, 0] rfl)
                · have join71 : ∀ (_ : Unit), ∀ (H : Heap) (locs : List Loc) (ls : Array Slot), va_P g.1 vwCl ([(oX11 m0 tw ta sz_ pl at_ fa fw cs fd rfm rt_ to_ rw_ wa ct rk rb cn br sm as_ go sh_ ir oa ob th ig sp_ ki tg of_ kp sf rs), (aM g wa 6 (he_ro 6 r2))] ++ he_pl g L ln M) H → va_D A ([(oX11 m0 tw ta sz_ pl at_ fa fw cs fd rfm rt_ to_ rw_ wa ct rk rb cn br sm as_ go sh_ ir oa ob th ig sp_ ki tg of_ kp sf rs), (aM g wa 6 (he_ro 6 r2))] ++ he_pl g L ln M) → va_S A s.heap H locs → lv_has ls 8 [(0, .ref m0), (1, .int x), (2, .int y), (3, .int wl), (4, .int be), (5, .int (nI j)), (6, .int wo), (7, .int (nI i))] → W p l e (he_room 2 46 0 0) s m args below meth c H locs 0 0 Q (F0 m 71 ls []) := by
                    intro _ H locs ls hP hD hS hl
                    refine lv_aload_n hx hb dX11_sureBy_71 rfl (lv_at hl 0 rfl) ?_
                    refine lv_iload hx hb dX11_sureBy_72 (lv_at hl 5 rfl) ?_
                    refine lv_iload hx hb dX11_sureBy_74 (lv_at hl 7 rfl) ?_
                    refine lv_iload_n hx hb dX11_sureBy_76 rfl (lv_at hl 3 rfl) ?_
                    refine he_ci (wc := ([(oX11 m0 tw ta sz_ pl at_ fa fw cs fd rfm rt_ to_ rw_ wa ct rk rb cn br sm as_ go sh_ ir oa ob th ig sp_ ki tg of_ kp sf rs), (aM g wa 6 (he_ro 6 r2))] ++ (he_pl g L ln M))) (wr := []) (va_runV (As := [.int (nI j), .int (nI i), .int wl]) (rest := []) ⟨hx, hb, hml, hown, hts⟩ (h_X11_falls l g m0 fd rfm rt_ to_ rw_ wa rk rb cn br sm as_ go sh_ ki tg of_ kp rs ta sz_ pl at_ fa fw cs ct ir oa ob th ig sp_ sf tw L ln M r2 (nI j) (nI i) wl (by first | assumption | decide | omega) H.size) (cwV 3 hts gX11_sureBy_X11_falls rfl rfl rfl (by decide +kernel) ⟨Nat.le_of_ble_eq_true rfl, Nat.le_of_ble_eq_true rfl⟩) (he_preV (wc := ([(oX11 m0 tw ta sz_ pl at_ fa fw cs fd rfm rt_ to_ rw_ wa ct rk rb cn br sm as_ go sh_ ir oa ob th ig sp_ ki tg of_ kp sf rs), (aM g wa 6 (he_ro 6 r2))] ++ (he_pl g L ln M))) hK hP hD hS hA hE (he_is [0, 1] [(oX11 m0 tw ta sz_ pl at_ fa fw cs fd rfm rt_ to_ rw_ wa ct rk rb cn br sm as_ go sh_ ir oa ob th ig sp_ ki tg of_ kp sf rs), (aM g wa 6 (he_ro 6 r2))] (he_pl g L ln M)) (he_ixP rfl) (he_ndP rfl rfl) 0 rfl rfl) rfl rfl hl.1 rfl (lv_room (Nat.le_of_ble_eq_true rfl)) dX11_sureBy_77 ⟨(Nat.le_of_ble_eq_true rfl), (Nat.le_of_ble_eq_true rfl)⟩) hP hD hS hA (he_is [0, 1] [(oX11 m0 tw ta sz_ pl at_ fa fw cs fd rfm rt_ to_ rw_ wa ct rk rb cn br sm as_ go sh_ ir oa ob th ig sp_ ki tg of_ kp sf rs), (aM g wa 6 (he_ro 6 r2))] (he_pl g L ln M)) [] (he_ixP rfl) rfl rfl (he_disP (by decide) rfl) (fun r_18 u_19 H locs h_20 hP hD hS => ?_)
                    have hP : va_P g.1 vwCl ([(oX11 m0 tw ta sz_ pl at_ fa fw cs fd rfm rt_ to_ rw_ wa ct rk rb cn br sm as_ go sh_ ir oa ob th ig sp_ ki tg of_ kp sf rs), (aM g wa 6 (he_ro 6 r2))] ++ he_pl g L ln M) H := hP
                    have hD : va_D A ([(oX11 m0 tw ta sz_ pl at_ fa fw cs fd rfm rt_ to_ rw_ wa ct rk rb cn br sm as_ go sh_ ir oa ob th ig sp_ ki tg of_ kp sf rs), (aM g wa 6 (he_ro 6 r2))] ++ he_pl g L ln M) := hD
                    refine lv_istore (lv' := [(6, .int r_18), (0, .ref m0), (1, .int x), (2, .int y), (3, .int wl), (4, .int be), (5, .int (nI j)), (7, .int (nI i))]) hx hb dX11_sureBy_80 hl (by decide) rfl (fun ls hl => ?_)
                    refine lv_iinc (v := nI (i + 1)) (lv' := [(7, .int (nI (i + 1))), (6, .int r_18), (0, .ref m0), (1, .int x), (2, .int y), (3, .int wl), (4, .int be), (5, .int (nI j))]) hx hb dX11_sureBy_82 hl (k := 7) rfl (nI_1 i) (by decide) rfl (fun ls hl => ?_)
                    refine lv_goto (tgt := 33) hx hb dX11_sureBy_85 (by decide) ?_
                    exact ih33 (i + 1) r_18 (by omega) (by omega) _ _ _ hP hD hS (lv_sub hl [2, 3, 4, 5, 6, 7, 1, 0] rfl)
                  refine lv_iload hx hb dX11_sureBy_51 (lv_at hl 6 rfl) ?_
                  refine lv_iconst (v := (-1)) hx hb dX11_sureBy_53 (by decide) ?_
                  refine lv_icmp_eq (tgt := 71) hx hb dX11_sureBy_54 (by decide) (fun c_21 => ?_) (fun c_21 => ?_)
                  · exact join71 ()  _ _ _ hP hD hS (lv_sub hl [0, 1, 2, 3, 4, 5, 6, 7] rfl)
                  · refine lv_aload_n hx hb dX11_sureBy_57 rfl (lv_at hl 0 rfl) ?_
                    refine lv_iload hx hb dX11_sureBy_58 (lv_at hl 5 rfl) ?_
                    refine lv_iload hx hb dX11_sureBy_60 (lv_at hl 7 rfl) ?_
                    refine lv_iload_n hx hb dX11_sureBy_62 rfl (lv_at hl 3 rfl) ?_
                    refine he_ci (wc := ([(oX11 m0 tw ta sz_ pl at_ fa fw cs fd rfm rt_ to_ rw_ wa ct rk rb cn br sm as_ go sh_ ir oa ob th ig sp_ ki tg of_ kp sf rs), (aM g wa 6 (he_ro 6 r2))] ++ (he_pl g L ln M))) (wr := []) (va_runV (As := [.int (nI j), .int (nI i), .int wl]) (rest := []) ⟨hx, hb, hml, hown, hts⟩ (h_X11_falls l g m0 fd rfm rt_ to_ rw_ wa rk rb cn br sm as_ go sh_ ki tg of_ kp rs ta sz_ pl at_ fa fw cs ct ir oa ob th ig sp_ sf tw L ln M r2 (nI j) (nI i) wl (by first | assumption | decide | omega) H.size) (cwV 3 hts gX11_sureBy_X11_falls rfl rfl rfl (by decide +kernel) ⟨Nat.le_of_ble_eq_true rfl, Nat.le_of_ble_eq_true rfl⟩) (he_preV (wc := ([(oX11 m0 tw ta sz_ pl at_ fa fw cs fd rfm rt_ to_ rw_ wa ct rk rb cn br sm as_ go sh_ ir oa ob th ig sp_ ki tg of_ kp sf rs), (aM g wa 6 (he_ro 6 r2))] ++ (he_pl g L ln M))) hK hP hD hS hA hE (he_is [0, 1] [(oX11 m0 tw ta sz_ pl at_ fa fw cs fd rfm rt_ to_ rw_ wa ct rk rb cn br sm as_ go sh_ ir oa ob th ig sp_ ki tg of_ kp sf rs), (aM g wa 6 (he_ro 6 r2))] (he_pl g L ln M)) (he_ixP rfl) (he_ndP rfl rfl) 0 rfl rfl) rfl rfl hl.1 rfl (lv_room (Nat.le_of_ble_eq_true rfl)) dX11_sureBy_63 ⟨(Nat.le_of_ble_eq_true rfl), (Nat.le_of_ble_eq_true rfl)⟩) hP hD hS hA (he_is [0, 1] [(oX11 m0 tw ta sz_ pl at_ fa fw cs fd rfm rt_ to_ rw_ wa ct rk rb cn br sm as_ go sh_ ir oa ob th ig sp_ ki tg of_ kp sf rs), (aM g wa 6 (he_ro 6 r2))] (he_pl g L ln M)) [] (he_ixP rfl) rfl rfl (he_disP (by decide) rfl) (fun r_22 u_23 H locs h_24 hP hD hS => ?_)
                    have hP : va_P g.1 vwCl ([(oX11 m0 tw ta sz_ pl at_ fa fw cs fd rfm rt_ to_ rw_ wa ct rk rb cn br sm as_ go sh_ ir oa ob th ig sp_ ki tg of_ kp sf rs), (aM g wa 6 (he_ro 6 r2))] ++ he_pl g L ln M) H := hP
                    have hD : va_D A ([(oX11 m0 tw ta sz_ pl at_ fa fw cs fd rfm rt_ to_ rw_ wa ct rk rb cn br sm as_ go sh_ ir oa ob th ig sp_ ki tg of_ kp sf rs), (aM g wa 6 (he_ro 6 r2))] ++ he_pl g L ln M) := hD
                    refine lv_iload hx hb dX11_sureBy_66 (lv_at hl 6 rfl) ?_
                    refine lv_icmp_ge (tgt := 82) hx hb dX11_sureBy_68 (by decide) (fun c_25 => ?_) (fun c_25 => ?_)
                    · refine lv_iinc (v := nI (i + 1)) (lv' := [(7, .int (nI (i + 1))), (0, .ref m0), (1, .int x), (2, .int y), (3, .int wl), (4, .int be), (5, .int (nI j)), (6, .int wo)]) hx hb dX11_sureBy_82 hl (k := 7) rfl (nI_1 i) (by decide) rfl (fun ls hl => ?_)
                      refine lv_goto (tgt := 33) hx hb dX11_sureBy_85 (by decide) ?_
                      exact ih33 (i + 1) wo (by omega) (by omega) _ _ _ hP hD hS (lv_sub hl [1, 2, 3, 4, 5, 6, 7, 0] rfl)
                    · exact join71 ()  _ _ _ hP hD hS (lv_sub hl [0, 1, 2, 3, 4, 5, 6, 7] rfl)
          exact loop33 ((343 - 0) + 1) 0 (-1) (Nat.lt_succ_self _) (Nat.zero_le _) _ _ _ hP hD hS (lv_sub hl [2, 3, 4, 5, 6, 7, 1, 0] rfl)
        · refine lv_goto (tgt := 104) hx hb dX11_sureBy_24 (by decide) ?_
          refine lv_iinc (v := nI (j + 1)) (lv' := [(5, .int (nI (j + 1))), (0, .ref m0), (1, .int x), (2, .int y), (3, .int wl), (4, .int be)]) hx hb dX11_sureBy_104 hl (k := 5) rfl (nI_1 j) (by decide) rfl (fun ls hl => ?_)
          refine lv_goto (tgt := 6) hx hb dX11_sureBy_107 (by decide) ?_
          exact ih6 (j + 1) be (by omega) (by omega) _ _ _ hP hD hS (lv_sub hl [1, 2, 3, 4, 5, 0] rfl)
  exact loop6 ((343 - 0) + 1) 0 0 (Nat.lt_succ_self _) (Nat.zero_le _) _ _ _ hP hD hS (lv_sub hl [2, 3, 4, 5, 1, 0] rfl)
set_option maxHeartbeats 4000000 in
set_option maxRecDepth 100000 in
theorem h_X11_earnest0 (l : Launch) (g : he_G) (m0 : Nat) (fd : Nat) (rfm : Nat) (rt_ : Nat) (to_ : Nat) (rw_ : Nat) (wa : Nat) (rk : Nat) (rb : Nat) (cn : Nat) (br : Nat) (sm : Nat) (as_ : Nat) (go : Nat) (sh_ : Nat) (ki : Nat) (tg : Nat) (of_ : Nat) (kp : Nat) (rs : Nat) (ta : Int32) (sz_ : Int32) (pl : Int32) (at_ : Int32) (fa : Int32) (fw : Int32) (cs : Int32) (ct : Int32) (ir : Int32) (oa : Int32) (ob : Int32) (th : Int32) (ig : Int32) (sp_ : Int32) (sf : Int32) (tw : Int32) (tl : Nat → Int32) (L : List Nat) (ln : Nat → Nat) (M : Nat → Nat → Int32) (r2 : Nat → Nat) (x : Int32) (y : Int32) (hok0 : ¬ he_within x 0 6 = 0) (hok1 : ¬ he_within y 0 6 = 0) (F_r2 : ∀ i, i < 6 → r2 i ∈ L ∧ ln (r2 i) = 2 ∧ True) : he_I l yX11_earnest wsX11_earnest 3 73 0 0 g [.ref m0, .int x, .int y, .int 0] ([(oX11 m0 tw ta sz_ pl at_ fa fw cs fd rfm rt_ to_ rw_ wa ct rk rb cn br sm as_ go sh_ ir oa ob th ig sp_ ki tg of_ kp sf rs), (aI g to_ 25 tl), (aM g wa 6 (he_ro 6 r2))] ++ he_pl g L ln M) (fun (r : Int32) (u : Int32) => True) (fun (u : Int32) => [(oX11 m0 0 ta sz_ pl at_ fa fw cs fd rfm rt_ to_ rw_ wa ct rk rb cn br sm as_ go sh_ ir oa ob th ig sp_ ki tg of_ kp u rs), (aI g to_ 25 tl), (aM g wa 6 (he_ro 6 r2))] ++ he_pl g L ln M) := by
  refine he_begin (l := l) (g := g) (y := yX11_earnest) (wl := wsX11_earnest) (fr := 3) (lo := 73) (mc := 0) (ms := 0) (av := [.ref m0, .int x, .int y, .int 0]) (ws := ([(oX11 m0 tw ta sz_ pl at_ fa fw cs fd rfm rt_ to_ rw_ wa ct rk rb cn br sm as_ go sh_ ir oa ob th ig sp_ ki tg of_ kp sf rs), (aI g to_ 25 tl), (aM g wa 6 (he_ro 6 r2))] ++ he_pl g L ln M)) (cc := cX11_earnest) (maxL := 4) (ret := (some .int)) (fun A => va_Qi (fun (r : Int32) (u : Int32) => True) (fun u t => he_post g A ((fun (u : Int32) => [(oX11 m0 0 ta sz_ pl at_ fa fw cs fd rfm rt_ to_ rw_ wa ct rk rb cn br sm as_ go sh_ ir oa ob th ig sp_ ki tg of_ kp u rs), (aI g to_ 25 tl), (aM g wa 6 (he_ro 6 r2))] ++ he_pl g L ln M) u) t) A) (by decide) rfl (Nat.le_of_ble_eq_true rfl) ?_
  intro p e s m args below meth c A ls H locs Q hQ hB
  obtain ⟨hx, hb, hr, hml, hown, hts, hlk, hin, hP, hK, hD, hS, hA, hE, hl⟩ := hB
  have hl : lv_has ls 4 [(0, .ref m0), (1, .int x), (2, .int y), (3, .int 0)] := hl
  have f85 := hts (.fieldLink RX11 85 "HiredEnemyModel" "thrown" "I") (iwoX11_earnest (k := 0) rfl)
  have inX11 : ∀ w ∈ wsX110, w ∈ wsX11_earnest := innX11_earnest_X11
  refine lv_aload_n hx hb dX11_earnest_0 rfl (lv_at hl 0 rfl) ?_
  refine lv_iconst (v := 0) hx hb dX11_earnest_1 (by decide) ?_
  refine va_put (v := .int 0) (ty := .int) (T := TX11) (N := 35) hx hb hts inX11 tyX11 tyX11_ok nmX11 hown hK hP hD hS 0 rfl rfl 0 (by decide) f85 (fun _ h9 => h9) rfl (by decide +kernel) rfl rfl (Nat.le_of_ble_eq_true rfl) dX11_earnest_2 (fun H locs hP hD hS => ?_)
  have hP : va_P g.1 vwCl ([(oX11 m0 0 ta sz_ pl at_ fa fw cs fd rfm rt_ to_ rw_ wa ct rk rb cn br sm as_ go sh_ ir oa ob th ig sp_ ki tg of_ kp sf rs), (aI g to_ 25 tl), (aM g wa 6 (he_ro 6 r2))] ++ he_pl g L ln M) H := hP
  have hD : va_D A ([(oX11 m0 0 ta sz_ pl at_ fa fw cs fd rfm rt_ to_ rw_ wa ct rk rb cn br sm as_ go sh_ ir oa ob th ig sp_ ki tg of_ kp sf rs), (aI g to_ 25 tl), (aM g wa 6 (he_ro 6 r2))] ++ he_pl g L ln M) := hD
  refine lv_aload_n hx hb dX11_earnest_5 rfl (lv_at hl 0 rfl) ?_
  refine lv_iload_n hx hb dX11_earnest_6 rfl (lv_at hl 1 rfl) ?_
  refine lv_iload_n hx hb dX11_earnest_7 rfl (lv_at hl 2 rfl) ?_
  refine he_ci (wc := []) (wr := ([(oX11 m0 0 ta sz_ pl at_ fa fw cs fd rfm rt_ to_ rw_ wa ct rk rb cn br sm as_ go sh_ ir oa ob th ig sp_ ki tg of_ kp sf rs), (aI g to_ 25 tl), (aM g wa 6 (he_ro 6 r2))] ++ (he_pl g L ln M))) (va_runS (As := [.int x, .int y]) (rest := [.ref m0]) ⟨hx, hb, hml, hown, hts⟩ (c_X11_areTens1 l g x y hok0 hok1 H.size) (va_cwS 2 hts gX11_earnest_X11_areTens rfl rfl rfl (by decide +kernel) ⟨Nat.le_of_ble_eq_true rfl, Nat.le_of_ble_eq_true rfl⟩) (he_preS (wc := []) hK hP hD hS hA hE [] rfl rfl) rfl rfl hl.1 rfl (lv_room (Nat.le_of_ble_eq_true rfl)) dX11_earnest_8 ⟨(Nat.le_of_ble_eq_true rfl), (Nat.le_of_ble_eq_true rfl)⟩) hP hD hS hA [] (he_is [0, 1, 2] [(oX11 m0 0 ta sz_ pl at_ fa fw cs fd rfm rt_ to_ rw_ wa ct rk rb cn br sm as_ go sh_ ir oa ob th ig sp_ ki tg of_ kp sf rs), (aI g to_ 25 tl), (aM g wa 6 (he_ro 6 r2))] (he_pl g L ln M)) rfl (he_ixP rfl) (he_ndP rfl rfl) (he_disN (by decide) rfl) (fun r_1 u_2 H locs h_3 hP hD hS => ?_)
  have hP := va_P.swap hP
  have hD := va_D.swap hD
  subst h_3
  have hP : va_P g.1 vwCl ([(oX11 m0 0 ta sz_ pl at_ fa fw cs fd rfm rt_ to_ rw_ wa ct rk rb cn br sm as_ go sh_ ir oa ob th ig sp_ ki tg of_ kp sf rs), (aI g to_ 25 tl), (aM g wa 6 (he_ro 6 r2))] ++ he_pl g L ln M) H := hP
  have hD : va_D A ([(oX11 m0 0 ta sz_ pl at_ fa fw cs fd rfm rt_ to_ rw_ wa ct rk rb cn br sm as_ go sh_ ir oa ob th ig sp_ ki tg of_ kp sf rs), (aI g to_ 25 tl), (aM g wa 6 (he_ro 6 r2))] ++ he_pl g L ln M) := hD
  refine lv_if_eq (tgt := 23) hx hb dX11_earnest_11 (by decide) (fun c_4 => ?_) (fun c_4 => ?_)
  · exact absurd c_4 (by decide)
  · refine lv_iload_n hx hb dX11_earnest_14 rfl (lv_at hl 3 rfl) ?_
    refine lv_iconst (v := 0) hx hb dX11_earnest_15 (by decide) ?_
    refine lv_iconst (v := 1) hx hb dX11_earnest_16 (by decide) ?_
    refine he_ci (wc := []) (wr := ([(oX11 m0 0 ta sz_ pl at_ fa fw cs fd rfm rt_ to_ rw_ wa ct rk rb cn br sm as_ go sh_ ir oa ob th ig sp_ ki tg of_ kp sf rs), (aI g to_ 25 tl), (aM g wa 6 (he_ro 6 r2))] ++ (he_pl g L ln M))) (va_runS (As := [.int 0, .int 0, .int 1]) (rest := [.ref m0]) ⟨hx, hb, hml, hown, hts⟩ (c_X11_in l g 0 0 1 H.size) (va_cwS 3 hts gX11_earnest_X11_in rfl rfl rfl (by decide +kernel) ⟨Nat.le_of_ble_eq_true rfl, Nat.le_of_ble_eq_true rfl⟩) (he_preS (wc := []) hK hP hD hS hA hE [] rfl rfl) rfl rfl hl.1 rfl (lv_room (Nat.le_of_ble_eq_true rfl)) dX11_earnest_17 ⟨(Nat.le_of_ble_eq_true rfl), (Nat.le_of_ble_eq_true rfl)⟩) hP hD hS hA [] (he_is [0, 1, 2] [(oX11 m0 0 ta sz_ pl at_ fa fw cs fd rfm rt_ to_ rw_ wa ct rk rb cn br sm as_ go sh_ ir oa ob th ig sp_ ki tg of_ kp sf rs), (aI g to_ 25 tl), (aM g wa 6 (he_ro 6 r2))] (he_pl g L ln M)) rfl (he_ixP rfl) (he_ndP rfl rfl) (he_disN (by decide) rfl) (fun r_5 u_6 H locs h_7 hP hD hS => ?_)
    have hP := va_P.swap hP
    have hD := va_D.swap hD
    subst h_7
    have hP : va_P g.1 vwCl ([(oX11 m0 0 ta sz_ pl at_ fa fw cs fd rfm rt_ to_ rw_ wa ct rk rb cn br sm as_ go sh_ ir oa ob th ig sp_ ki tg of_ kp sf rs), (aI g to_ 25 tl), (aM g wa 6 (he_ro 6 r2))] ++ he_pl g L ln M) H := hP
    have hD : va_D A ([(oX11 m0 0 ta sz_ pl at_ fa fw cs fd rfm rt_ to_ rw_ wa ct rk rb cn br sm as_ go sh_ ir oa ob th ig sp_ ki tg of_ kp sf rs), (aI g to_ 25 tl), (aM g wa 6 (he_ro 6 r2))] ++ he_pl g L ln M) := hD
    refine he_top (1) (by decide) ?_
    refine lv_if_ne (tgt := 27) hx hb dX11_earnest_20 (by decide) (fun c_8 => ?_) (fun c_8 => ?_)
    · refine lv_iconst (v := 0) hx hb dX11_earnest_27 (by decide) ?_
      refine lv_iconst (v := 1) hx hb dX11_earnest_28 (by decide) ?_
      refine lv_iconst (v := 2) hx hb dX11_earnest_29 (by decide) ?_
      refine he_ci (wc := [(oX11 m0 0 ta sz_ pl at_ fa fw cs fd rfm rt_ to_ rw_ wa ct rk rb cn br sm as_ go sh_ ir oa ob th ig sp_ ki tg of_ kp sf rs)]) (wr := ([(aI g to_ 25 tl), (aM g wa 6 (he_ro 6 r2))] ++ (he_pl g L ln M))) (va_runV (As := [.int 0, .int 1, .int 2]) (rest := []) ⟨hx, hb, hml, hown, hts⟩ (c_X11_bad0 l g m0 fd rfm rt_ to_ rw_ wa rk rb cn br sm as_ go sh_ ki tg of_ kp rs ta sz_ pl at_ fa fw cs ct ir oa ob th ig sp_ sf 1 2 H.size) (cwV 3 hts gX11_earnest_X11_bad rfl rfl rfl (by decide +kernel) ⟨Nat.le_of_ble_eq_true rfl, Nat.le_of_ble_eq_true rfl⟩) (he_preV (wc := [(oX11 m0 0 ta sz_ pl at_ fa fw cs fd rfm rt_ to_ rw_ wa ct rk rb cn br sm as_ go sh_ ir oa ob th ig sp_ ki tg of_ kp sf rs)]) hK hP hD hS hA hE [0] rfl rfl 0 rfl rfl) rfl rfl hl.1 rfl (lv_room (Nat.le_of_ble_eq_true rfl)) dX11_earnest_30 ⟨(Nat.le_of_ble_eq_true rfl), (Nat.le_of_ble_eq_true rfl)⟩) hP hD hS hA [0] (he_is [1, 2] [(oX11 m0 0 ta sz_ pl at_ fa fw cs fd rfm rt_ to_ rw_ wa ct rk rb cn br sm as_ go sh_ ir oa ob th ig sp_ ki tg of_ kp sf rs), (aI g to_ 25 tl), (aM g wa 6 (he_ro 6 r2))] (he_pl g L ln M)) rfl (he_ixP rfl) (he_ndP rfl rfl) (he_disN (by decide) rfl) (fun r_9 u_10 H locs h_11 hP hD hS => ?_)
      have hP := va_P.swap hP
      have hD := va_D.swap hD
      subst h_11
      have hP : va_P g.1 vwCl ([(aI g to_ 25 tl), (aM g wa 6 (he_ro 6 r2)), (oX11 m0 0 ta sz_ pl at_ fa fw cs fd rfm rt_ to_ rw_ wa ct rk rb cn br sm as_ go sh_ ir oa ob th ig sp_ ki tg of_ kp sf rs)] ++ he_pl g L ln M) H := hP
      have hD : va_D A ([(aI g to_ 25 tl), (aM g wa 6 (he_ro 6 r2)), (oX11 m0 0 ta sz_ pl at_ fa fw cs fd rfm rt_ to_ rw_ wa ct rk rb cn br sm as_ go sh_ ir oa ob th ig sp_ ki tg of_ kp sf rs)] ++ he_pl g L ln M) := hD
      refine lv_if_eq (tgt := 38) hx hb dX11_earnest_33 (by decide) (fun c_12 => ?_) (fun c_12 => ?_)
      · refine lv_iload_n hx hb dX11_earnest_38 rfl (lv_at hl 3 rfl) ?_
        refine lv_if_ne (tgt := 55) hx hb dX11_earnest_39 (by decide) (fun c_13 => ?_) (fun c_13 => ?_)
        · exact absurd (by decide) c_13
        · refine lv_aload_n hx hb dX11_earnest_42 rfl (lv_at hl 0 rfl) ?_
          refine lv_iload_n hx hb dX11_earnest_43 rfl (lv_at hl 1 rfl) ?_
          refine lv_iload_n hx hb dX11_earnest_44 rfl (lv_at hl 2 rfl) ?_
          refine lv_aload_n hx hb dX11_earnest_45 rfl (lv_at hl 0 rfl) ?_
          refine he_ci (wc := [(oX11 m0 0 ta sz_ pl at_ fa fw cs fd rfm rt_ to_ rw_ wa ct rk rb cn br sm as_ go sh_ ir oa ob th ig sp_ ki tg of_ kp sf rs), (aI g to_ 25 tl)]) (wr := ([(aM g wa 6 (he_ro 6 r2))] ++ (he_pl g L ln M))) (va_runV (As := []) (rest := [.int y, .int x, .ref m0]) ⟨hx, hb, hml, hown, hts⟩ (h_X11_firstWalls l g m0 fd rfm rt_ to_ rw_ wa rk rb cn br sm as_ go sh_ ki tg of_ kp rs ta sz_ pl at_ fa fw cs ct ir oa ob th ig sp_ sf 0 tl H.size) (cwV 0 hts gX11_earnest_X11_firstWalls rfl rfl rfl (by decide +kernel) ⟨Nat.le_of_ble_eq_true rfl, Nat.le_of_ble_eq_true rfl⟩) (he_preV (wc := [(oX11 m0 0 ta sz_ pl at_ fa fw cs fd rfm rt_ to_ rw_ wa ct rk rb cn br sm as_ go sh_ ir oa ob th ig sp_ ki tg of_ kp sf rs), (aI g to_ 25 tl)]) hK hP hD hS hA hE [2, 0] rfl rfl 2 rfl rfl) rfl rfl hl.1 rfl (lv_room (Nat.le_of_ble_eq_true rfl)) dX11_earnest_46 ⟨(Nat.le_of_ble_eq_true rfl), (Nat.le_of_ble_eq_true rfl)⟩) hP hD hS hA [2, 0] (he_is [1] [(aI g to_ 25 tl), (aM g wa 6 (he_ro 6 r2)), (oX11 m0 0 ta sz_ pl at_ fa fw cs fd rfm rt_ to_ rw_ wa ct rk rb cn br sm as_ go sh_ ir oa ob th ig sp_ ki tg of_ kp sf rs)] (he_pl g L ln M)) rfl (he_ixP rfl) (he_ndP rfl rfl) (he_disN (by decide) rfl) (fun r_14 u_15 H locs h_16 hP hD hS => ?_)
          have hP := va_P.swap hP
          have hD := va_D.swap hD
          have hP : va_P g.1 vwCl ([(aM g wa 6 (he_ro 6 r2)), (oX11 m0 0 ta sz_ pl at_ fa fw cs fd rfm rt_ to_ rw_ wa ct rk rb cn br sm as_ go sh_ ir oa ob th ig sp_ ki tg of_ kp sf rs), (aI g to_ 25 tl)] ++ he_pl g L ln M) H := hP
          have hD : va_D A ([(aM g wa 6 (he_ro 6 r2)), (oX11 m0 0 ta sz_ pl at_ fa fw cs fd rfm rt_ to_ rw_ wa ct rk rb cn br sm as_ go sh_ ir oa ob th ig sp_ ki tg of_ kp sf rs), (aI g to_ 25 tl)] ++ he_pl g L ln M) := hD
          refine he_ci (wc := ([(oX11 m0 0 ta sz_ pl at_ fa fw cs fd rfm rt_ to_ rw_ wa ct rk rb cn br sm as_ go sh_ ir oa ob th ig sp_ ki tg of_ kp sf rs), (aM g wa 6 (he_ro 6 r2))] ++ (he_pl g L ln M))) (wr := [(aI g to_ 25 tl)]) (va_runV (As := [.int x, .int y, .int r_14]) (rest := []) ⟨hx, hb, hml, hown, hts⟩ (h_X11_safeBy l g m0 fd rfm rt_ to_ rw_ wa rk rb cn br sm as_ go sh_ ki tg of_ kp rs ta sz_ pl at_ fa fw cs ct ir oa ob th ig sp_ sf 0 L ln M r2 x y r_14 (by first | assumption | decide | omega) H.size) (cwV 3 hts gX11_earnest_X11_safeBy rfl rfl rfl (by decide +kernel) ⟨Nat.le_of_ble_eq_true rfl, Nat.le_of_ble_eq_true rfl⟩) (he_preV (wc := ([(oX11 m0 0 ta sz_ pl at_ fa fw cs fd rfm rt_ to_ rw_ wa ct rk rb cn br sm as_ go sh_ ir oa ob th ig sp_ ki tg of_ kp sf rs), (aM g wa 6 (he_ro 6 r2))] ++ (he_pl g L ln M))) hK hP hD hS hA hE (he_is [1, 0] [(aM g wa 6 (he_ro 6 r2)), (oX11 m0 0 ta sz_ pl at_ fa fw cs fd rfm rt_ to_ rw_ wa ct rk rb cn br sm as_ go sh_ ir oa ob th ig sp_ ki tg of_ kp sf rs), (aI g to_ 25 tl)] (he_pl g L ln M)) (he_ixP rfl) (he_ndP rfl rfl) 1 rfl rfl) rfl rfl hl.1 rfl (lv_room (Nat.le_of_ble_eq_true rfl)) dX11_earnest_49 ⟨(Nat.le_of_ble_eq_true rfl), (Nat.le_of_ble_eq_true rfl)⟩) hP hD hS hA (he_is [1, 0] [(aM g wa 6 (he_ro 6 r2)), (oX11 m0 0 ta sz_ pl at_ fa fw cs fd rfm rt_ to_ rw_ wa ct rk rb cn br sm as_ go sh_ ir oa ob th ig sp_ ki tg of_ kp sf rs), (aI g to_ 25 tl)] (he_pl g L ln M)) [2] (he_ixP rfl) rfl rfl (he_disP (by decide) rfl) (fun r_17 u_18 H locs h_19 hP hD hS => ?_)
          obtain ⟨sr_20, rfl⟩ : ∃ z, z = u_18 := ⟨_, rfl⟩
          have hP : va_P g.1 vwCl ([(aI g to_ 25 tl), (oX11 m0 0 ta sz_ pl at_ fa fw cs fd rfm rt_ to_ rw_ wa ct rk rb cn br sm as_ go sh_ ir oa ob th ig sp_ ki tg of_ kp sr_20 rs), (aM g wa 6 (he_ro 6 r2))] ++ he_pl g L ln M) H := hP
          have hD : va_D A ([(aI g to_ 25 tl), (oX11 m0 0 ta sz_ pl at_ fa fw cs fd rfm rt_ to_ rw_ wa ct rk rb cn br sm as_ go sh_ ir oa ob th ig sp_ ki tg of_ kp sr_20 rs), (aM g wa 6 (he_ro 6 r2))] ++ he_pl g L ln M) := hD
          refine lv_goto (tgt := 65) hx hb dX11_earnest_52 (by decide) ?_
          have hP := he_Psub (X := [(aI g to_ 25 tl), (oX11 m0 0 ta sz_ pl at_ fa fw cs fd rfm rt_ to_ rw_ wa ct rk rb cn br sm as_ go sh_ ir oa ob th ig sp_ ki tg of_ kp sr_20 rs), (aM g wa 6 (he_ro 6 r2))]) (X2 := [(oX11 m0 0 ta sz_ pl at_ fa fw cs fd rfm rt_ to_ rw_ wa ct rk rb cn br sm as_ go sh_ ir oa ob th ig sp_ ki tg of_ kp sr_20 rs), (aI g to_ 25 tl), (aM g wa 6 (he_ro 6 r2))]) (P := (he_pl g L ln M)) hP [1, 0, 2] rfl
          have hD := he_Dsub (X := [(aI g to_ 25 tl), (oX11 m0 0 ta sz_ pl at_ fa fw cs fd rfm rt_ to_ rw_ wa ct rk rb cn br sm as_ go sh_ ir oa ob th ig sp_ ki tg of_ kp sr_20 rs), (aM g wa 6 (he_ro 6 r2))]) (X2 := [(oX11 m0 0 ta sz_ pl at_ fa fw cs fd rfm rt_ to_ rw_ wa ct rk rb cn br sm as_ go sh_ ir oa ob th ig sp_ ki tg of_ kp sr_20 rs), (aI g to_ 25 tl), (aM g wa 6 (he_ro 6 r2))]) (P := (he_pl g L ln M)) hD [1, 0, 2] rfl rfl rfl
          exact he_ri hQ hx hb hr hlk hP hD hS dX11_earnest_65 (Nat.le_of_ble_eq_true rfl) (Nat.le_of_ble_eq_true rfl) (sr_20) (rfl) (trivial)
      · exact absurd (by decide) c_12
    · exact absurd c_8 (by decide)
set_option maxHeartbeats 4000000 in
set_option maxRecDepth 100000 in
theorem h_X11_earnest1 (l : Launch) (g : he_G) (m0 : Nat) (fd : Nat) (rfm : Nat) (rt_ : Nat) (to_ : Nat) (rw_ : Nat) (wa : Nat) (rk : Nat) (rb : Nat) (cn : Nat) (br : Nat) (sm : Nat) (as_ : Nat) (go : Nat) (sh_ : Nat) (ki : Nat) (tg : Nat) (of_ : Nat) (kp : Nat) (rs : Nat) (ta : Int32) (sz_ : Int32) (pl : Int32) (at_ : Int32) (fa : Int32) (fw : Int32) (cs : Int32) (ct : Int32) (ir : Int32) (oa : Int32) (ob : Int32) (th : Int32) (ig : Int32) (sp_ : Int32) (sf : Int32) (tw : Int32) (tl : Nat → Int32) (L : List Nat) (ln : Nat → Nat) (M : Nat → Nat → Int32) (r2 : Nat → Nat) (x : Int32) (y : Int32) (hok0 : ¬ he_within x 0 6 = 0) (hok1 : ¬ he_within y 0 6 = 0) (F_r2 : ∀ i, i < 6 → r2 i ∈ L ∧ ln (r2 i) = 2 ∧ True) : he_I l yX11_earnest wsX11_earnest 3 73 0 0 g [.ref m0, .int x, .int y, .int 1] ([(oX11 m0 tw ta sz_ pl at_ fa fw cs fd rfm rt_ to_ rw_ wa ct rk rb cn br sm as_ go sh_ ir oa ob th ig sp_ ki tg of_ kp sf rs), (aI g to_ 25 tl), (aM g wa 6 (he_ro 6 r2))] ++ he_pl g L ln M) (fun (r : Int32) (u : Int32) => True) (fun (u : Int32) => [(oX11 m0 0 ta sz_ pl at_ fa fw cs fd rfm rt_ to_ rw_ wa ct rk rb cn br sm as_ go sh_ ir oa ob th ig sp_ ki tg of_ kp u rs), (aI g to_ 25 tl), (aM g wa 6 (he_ro 6 r2))] ++ he_pl g L ln M) := by
  refine he_begin (l := l) (g := g) (y := yX11_earnest) (wl := wsX11_earnest) (fr := 3) (lo := 73) (mc := 0) (ms := 0) (av := [.ref m0, .int x, .int y, .int 1]) (ws := ([(oX11 m0 tw ta sz_ pl at_ fa fw cs fd rfm rt_ to_ rw_ wa ct rk rb cn br sm as_ go sh_ ir oa ob th ig sp_ ki tg of_ kp sf rs), (aI g to_ 25 tl), (aM g wa 6 (he_ro 6 r2))] ++ he_pl g L ln M)) (cc := cX11_earnest) (maxL := 4) (ret := (some .int)) (fun A => va_Qi (fun (r : Int32) (u : Int32) => True) (fun u t => he_post g A ((fun (u : Int32) => [(oX11 m0 0 ta sz_ pl at_ fa fw cs fd rfm rt_ to_ rw_ wa ct rk rb cn br sm as_ go sh_ ir oa ob th ig sp_ ki tg of_ kp u rs), (aI g to_ 25 tl), (aM g wa 6 (he_ro 6 r2))] ++ he_pl g L ln M) u) t) A) (by decide) rfl (Nat.le_of_ble_eq_true rfl) ?_
  intro p e s m args below meth c A ls H locs Q hQ hB
  obtain ⟨hx, hb, hr, hml, hown, hts, hlk, hin, hP, hK, hD, hS, hA, hE, hl⟩ := hB
  have hl : lv_has ls 4 [(0, .ref m0), (1, .int x), (2, .int y), (3, .int 1)] := hl
  have f85 := hts (.fieldLink RX11 85 "HiredEnemyModel" "thrown" "I") (iwoX11_earnest (k := 0) rfl)
  have inX11 : ∀ w ∈ wsX110, w ∈ wsX11_earnest := innX11_earnest_X11
  refine lv_aload_n hx hb dX11_earnest_0 rfl (lv_at hl 0 rfl) ?_
  refine lv_iconst (v := 0) hx hb dX11_earnest_1 (by decide) ?_
  refine va_put (v := .int 0) (ty := .int) (T := TX11) (N := 35) hx hb hts inX11 tyX11 tyX11_ok nmX11 hown hK hP hD hS 0 rfl rfl 0 (by decide) f85 (fun _ h9 => h9) rfl (by decide +kernel) rfl rfl (Nat.le_of_ble_eq_true rfl) dX11_earnest_2 (fun H locs hP hD hS => ?_)
  have hP : va_P g.1 vwCl ([(oX11 m0 0 ta sz_ pl at_ fa fw cs fd rfm rt_ to_ rw_ wa ct rk rb cn br sm as_ go sh_ ir oa ob th ig sp_ ki tg of_ kp sf rs), (aI g to_ 25 tl), (aM g wa 6 (he_ro 6 r2))] ++ he_pl g L ln M) H := hP
  have hD : va_D A ([(oX11 m0 0 ta sz_ pl at_ fa fw cs fd rfm rt_ to_ rw_ wa ct rk rb cn br sm as_ go sh_ ir oa ob th ig sp_ ki tg of_ kp sf rs), (aI g to_ 25 tl), (aM g wa 6 (he_ro 6 r2))] ++ he_pl g L ln M) := hD
  refine lv_aload_n hx hb dX11_earnest_5 rfl (lv_at hl 0 rfl) ?_
  refine lv_iload_n hx hb dX11_earnest_6 rfl (lv_at hl 1 rfl) ?_
  refine lv_iload_n hx hb dX11_earnest_7 rfl (lv_at hl 2 rfl) ?_
  refine he_ci (wc := []) (wr := ([(oX11 m0 0 ta sz_ pl at_ fa fw cs fd rfm rt_ to_ rw_ wa ct rk rb cn br sm as_ go sh_ ir oa ob th ig sp_ ki tg of_ kp sf rs), (aI g to_ 25 tl), (aM g wa 6 (he_ro 6 r2))] ++ (he_pl g L ln M))) (va_runS (As := [.int x, .int y]) (rest := [.ref m0]) ⟨hx, hb, hml, hown, hts⟩ (c_X11_areTens1 l g x y hok0 hok1 H.size) (va_cwS 2 hts gX11_earnest_X11_areTens rfl rfl rfl (by decide +kernel) ⟨Nat.le_of_ble_eq_true rfl, Nat.le_of_ble_eq_true rfl⟩) (he_preS (wc := []) hK hP hD hS hA hE [] rfl rfl) rfl rfl hl.1 rfl (lv_room (Nat.le_of_ble_eq_true rfl)) dX11_earnest_8 ⟨(Nat.le_of_ble_eq_true rfl), (Nat.le_of_ble_eq_true rfl)⟩) hP hD hS hA [] (he_is [0, 1, 2] [(oX11 m0 0 ta sz_ pl at_ fa fw cs fd rfm rt_ to_ rw_ wa ct rk rb cn br sm as_ go sh_ ir oa ob th ig sp_ ki tg of_ kp sf rs), (aI g to_ 25 tl), (aM g wa 6 (he_ro 6 r2))] (he_pl g L ln M)) rfl (he_ixP rfl) (he_ndP rfl rfl) (he_disN (by decide) rfl) (fun r_1 u_2 H locs h_3 hP hD hS => ?_)
  have hP := va_P.swap hP
  have hD := va_D.swap hD
  subst h_3
  have hP : va_P g.1 vwCl ([(oX11 m0 0 ta sz_ pl at_ fa fw cs fd rfm rt_ to_ rw_ wa ct rk rb cn br sm as_ go sh_ ir oa ob th ig sp_ ki tg of_ kp sf rs), (aI g to_ 25 tl), (aM g wa 6 (he_ro 6 r2))] ++ he_pl g L ln M) H := hP
  have hD : va_D A ([(oX11 m0 0 ta sz_ pl at_ fa fw cs fd rfm rt_ to_ rw_ wa ct rk rb cn br sm as_ go sh_ ir oa ob th ig sp_ ki tg of_ kp sf rs), (aI g to_ 25 tl), (aM g wa 6 (he_ro 6 r2))] ++ he_pl g L ln M) := hD
  refine lv_if_eq (tgt := 23) hx hb dX11_earnest_11 (by decide) (fun c_4 => ?_) (fun c_4 => ?_)
  · exact absurd c_4 (by decide)
  · refine lv_iload_n hx hb dX11_earnest_14 rfl (lv_at hl 3 rfl) ?_
    refine lv_iconst (v := 0) hx hb dX11_earnest_15 (by decide) ?_
    refine lv_iconst (v := 1) hx hb dX11_earnest_16 (by decide) ?_
    refine he_ci (wc := []) (wr := ([(oX11 m0 0 ta sz_ pl at_ fa fw cs fd rfm rt_ to_ rw_ wa ct rk rb cn br sm as_ go sh_ ir oa ob th ig sp_ ki tg of_ kp sf rs), (aI g to_ 25 tl), (aM g wa 6 (he_ro 6 r2))] ++ (he_pl g L ln M))) (va_runS (As := [.int 1, .int 0, .int 1]) (rest := [.ref m0]) ⟨hx, hb, hml, hown, hts⟩ (c_X11_in l g 1 0 1 H.size) (va_cwS 3 hts gX11_earnest_X11_in rfl rfl rfl (by decide +kernel) ⟨Nat.le_of_ble_eq_true rfl, Nat.le_of_ble_eq_true rfl⟩) (he_preS (wc := []) hK hP hD hS hA hE [] rfl rfl) rfl rfl hl.1 rfl (lv_room (Nat.le_of_ble_eq_true rfl)) dX11_earnest_17 ⟨(Nat.le_of_ble_eq_true rfl), (Nat.le_of_ble_eq_true rfl)⟩) hP hD hS hA [] (he_is [0, 1, 2] [(oX11 m0 0 ta sz_ pl at_ fa fw cs fd rfm rt_ to_ rw_ wa ct rk rb cn br sm as_ go sh_ ir oa ob th ig sp_ ki tg of_ kp sf rs), (aI g to_ 25 tl), (aM g wa 6 (he_ro 6 r2))] (he_pl g L ln M)) rfl (he_ixP rfl) (he_ndP rfl rfl) (he_disN (by decide) rfl) (fun r_5 u_6 H locs h_7 hP hD hS => ?_)
    have hP := va_P.swap hP
    have hD := va_D.swap hD
    subst h_7
    have hP : va_P g.1 vwCl ([(oX11 m0 0 ta sz_ pl at_ fa fw cs fd rfm rt_ to_ rw_ wa ct rk rb cn br sm as_ go sh_ ir oa ob th ig sp_ ki tg of_ kp sf rs), (aI g to_ 25 tl), (aM g wa 6 (he_ro 6 r2))] ++ he_pl g L ln M) H := hP
    have hD : va_D A ([(oX11 m0 0 ta sz_ pl at_ fa fw cs fd rfm rt_ to_ rw_ wa ct rk rb cn br sm as_ go sh_ ir oa ob th ig sp_ ki tg of_ kp sf rs), (aI g to_ 25 tl), (aM g wa 6 (he_ro 6 r2))] ++ he_pl g L ln M) := hD
    refine he_top (1) (by decide) ?_
    refine lv_if_ne (tgt := 27) hx hb dX11_earnest_20 (by decide) (fun c_8 => ?_) (fun c_8 => ?_)
    · refine lv_iconst (v := 0) hx hb dX11_earnest_27 (by decide) ?_
      refine lv_iconst (v := 1) hx hb dX11_earnest_28 (by decide) ?_
      refine lv_iconst (v := 2) hx hb dX11_earnest_29 (by decide) ?_
      refine he_ci (wc := [(oX11 m0 0 ta sz_ pl at_ fa fw cs fd rfm rt_ to_ rw_ wa ct rk rb cn br sm as_ go sh_ ir oa ob th ig sp_ ki tg of_ kp sf rs)]) (wr := ([(aI g to_ 25 tl), (aM g wa 6 (he_ro 6 r2))] ++ (he_pl g L ln M))) (va_runV (As := [.int 0, .int 1, .int 2]) (rest := []) ⟨hx, hb, hml, hown, hts⟩ (c_X11_bad0 l g m0 fd rfm rt_ to_ rw_ wa rk rb cn br sm as_ go sh_ ki tg of_ kp rs ta sz_ pl at_ fa fw cs ct ir oa ob th ig sp_ sf 1 2 H.size) (cwV 3 hts gX11_earnest_X11_bad rfl rfl rfl (by decide +kernel) ⟨Nat.le_of_ble_eq_true rfl, Nat.le_of_ble_eq_true rfl⟩) (he_preV (wc := [(oX11 m0 0 ta sz_ pl at_ fa fw cs fd rfm rt_ to_ rw_ wa ct rk rb cn br sm as_ go sh_ ir oa ob th ig sp_ ki tg of_ kp sf rs)]) hK hP hD hS hA hE [0] rfl rfl 0 rfl rfl) rfl rfl hl.1 rfl (lv_room (Nat.le_of_ble_eq_true rfl)) dX11_earnest_30 ⟨(Nat.le_of_ble_eq_true rfl), (Nat.le_of_ble_eq_true rfl)⟩) hP hD hS hA [0] (he_is [1, 2] [(oX11 m0 0 ta sz_ pl at_ fa fw cs fd rfm rt_ to_ rw_ wa ct rk rb cn br sm as_ go sh_ ir oa ob th ig sp_ ki tg of_ kp sf rs), (aI g to_ 25 tl), (aM g wa 6 (he_ro 6 r2))] (he_pl g L ln M)) rfl (he_ixP rfl) (he_ndP rfl rfl) (he_disN (by decide) rfl) (fun r_9 u_10 H locs h_11 hP hD hS => ?_)
      have hP := va_P.swap hP
      have hD := va_D.swap hD
      subst h_11
      have hP : va_P g.1 vwCl ([(aI g to_ 25 tl), (aM g wa 6 (he_ro 6 r2)), (oX11 m0 0 ta sz_ pl at_ fa fw cs fd rfm rt_ to_ rw_ wa ct rk rb cn br sm as_ go sh_ ir oa ob th ig sp_ ki tg of_ kp sf rs)] ++ he_pl g L ln M) H := hP
      have hD : va_D A ([(aI g to_ 25 tl), (aM g wa 6 (he_ro 6 r2)), (oX11 m0 0 ta sz_ pl at_ fa fw cs fd rfm rt_ to_ rw_ wa ct rk rb cn br sm as_ go sh_ ir oa ob th ig sp_ ki tg of_ kp sf rs)] ++ he_pl g L ln M) := hD
      refine lv_if_eq (tgt := 38) hx hb dX11_earnest_33 (by decide) (fun c_12 => ?_) (fun c_12 => ?_)
      · refine lv_iload_n hx hb dX11_earnest_38 rfl (lv_at hl 3 rfl) ?_
        refine lv_if_ne (tgt := 55) hx hb dX11_earnest_39 (by decide) (fun c_13 => ?_) (fun c_13 => ?_)
        · refine lv_aload_n hx hb dX11_earnest_55 rfl (lv_at hl 0 rfl) ?_
          refine lv_iload_n hx hb dX11_earnest_56 rfl (lv_at hl 1 rfl) ?_
          refine lv_iload_n hx hb dX11_earnest_57 rfl (lv_at hl 2 rfl) ?_
          refine lv_aload_n hx hb dX11_earnest_58 rfl (lv_at hl 0 rfl) ?_
          refine he_ci (wc := [(oX11 m0 0 ta sz_ pl at_ fa fw cs fd rfm rt_ to_ rw_ wa ct rk rb cn br sm as_ go sh_ ir oa ob th ig sp_ ki tg of_ kp sf rs), (aI g to_ 25 tl)]) (wr := ([(aM g wa 6 (he_ro 6 r2))] ++ (he_pl g L ln M))) (va_runV (As := []) (rest := [.int y, .int x, .ref m0]) ⟨hx, hb, hml, hown, hts⟩ (h_X11_firstWalls l g m0 fd rfm rt_ to_ rw_ wa rk rb cn br sm as_ go sh_ ki tg of_ kp rs ta sz_ pl at_ fa fw cs ct ir oa ob th ig sp_ sf 0 tl H.size) (cwV 0 hts gX11_earnest_X11_firstWalls rfl rfl rfl (by decide +kernel) ⟨Nat.le_of_ble_eq_true rfl, Nat.le_of_ble_eq_true rfl⟩) (he_preV (wc := [(oX11 m0 0 ta sz_ pl at_ fa fw cs fd rfm rt_ to_ rw_ wa ct rk rb cn br sm as_ go sh_ ir oa ob th ig sp_ ki tg of_ kp sf rs), (aI g to_ 25 tl)]) hK hP hD hS hA hE [2, 0] rfl rfl 2 rfl rfl) rfl rfl hl.1 rfl (lv_room (Nat.le_of_ble_eq_true rfl)) dX11_earnest_59 ⟨(Nat.le_of_ble_eq_true rfl), (Nat.le_of_ble_eq_true rfl)⟩) hP hD hS hA [2, 0] (he_is [1] [(aI g to_ 25 tl), (aM g wa 6 (he_ro 6 r2)), (oX11 m0 0 ta sz_ pl at_ fa fw cs fd rfm rt_ to_ rw_ wa ct rk rb cn br sm as_ go sh_ ir oa ob th ig sp_ ki tg of_ kp sf rs)] (he_pl g L ln M)) rfl (he_ixP rfl) (he_ndP rfl rfl) (he_disN (by decide) rfl) (fun r_14 u_15 H locs h_16 hP hD hS => ?_)
          have hP := va_P.swap hP
          have hD := va_D.swap hD
          have hP : va_P g.1 vwCl ([(aM g wa 6 (he_ro 6 r2)), (oX11 m0 0 ta sz_ pl at_ fa fw cs fd rfm rt_ to_ rw_ wa ct rk rb cn br sm as_ go sh_ ir oa ob th ig sp_ ki tg of_ kp sf rs), (aI g to_ 25 tl)] ++ he_pl g L ln M) H := hP
          have hD : va_D A ([(aM g wa 6 (he_ro 6 r2)), (oX11 m0 0 ta sz_ pl at_ fa fw cs fd rfm rt_ to_ rw_ wa ct rk rb cn br sm as_ go sh_ ir oa ob th ig sp_ ki tg of_ kp sf rs), (aI g to_ 25 tl)] ++ he_pl g L ln M) := hD
          refine he_ci (wc := ([(oX11 m0 0 ta sz_ pl at_ fa fw cs fd rfm rt_ to_ rw_ wa ct rk rb cn br sm as_ go sh_ ir oa ob th ig sp_ ki tg of_ kp sf rs), (aM g wa 6 (he_ro 6 r2))] ++ (he_pl g L ln M))) (wr := [(aI g to_ 25 tl)]) (va_runV (As := [.int x, .int y, .int r_14]) (rest := []) ⟨hx, hb, hml, hown, hts⟩ (h_X11_sureBy l g m0 fd rfm rt_ to_ rw_ wa rk rb cn br sm as_ go sh_ ki tg of_ kp rs ta sz_ pl at_ fa fw cs ct ir oa ob th ig sp_ sf 0 L ln M r2 x y r_14 (by first | assumption | decide | omega) H.size) (cwV 3 hts gX11_earnest_X11_sureBy rfl rfl rfl (by decide +kernel) ⟨Nat.le_of_ble_eq_true rfl, Nat.le_of_ble_eq_true rfl⟩) (he_preV (wc := ([(oX11 m0 0 ta sz_ pl at_ fa fw cs fd rfm rt_ to_ rw_ wa ct rk rb cn br sm as_ go sh_ ir oa ob th ig sp_ ki tg of_ kp sf rs), (aM g wa 6 (he_ro 6 r2))] ++ (he_pl g L ln M))) hK hP hD hS hA hE (he_is [1, 0] [(aM g wa 6 (he_ro 6 r2)), (oX11 m0 0 ta sz_ pl at_ fa fw cs fd rfm rt_ to_ rw_ wa ct rk rb cn br sm as_ go sh_ ir oa ob th ig sp_ ki tg of_ kp sf rs), (aI g to_ 25 tl)] (he_pl g L ln M)) (he_ixP rfl) (he_ndP rfl rfl) 1 rfl rfl) rfl rfl hl.1 rfl (lv_room (Nat.le_of_ble_eq_true rfl)) dX11_earnest_62 ⟨(Nat.le_of_ble_eq_true rfl), (Nat.le_of_ble_eq_true rfl)⟩) hP hD hS hA (he_is [1, 0] [(aM g wa 6 (he_ro 6 r2)), (oX11 m0 0 ta sz_ pl at_ fa fw cs fd rfm rt_ to_ rw_ wa ct rk rb cn br sm as_ go sh_ ir oa ob th ig sp_ ki tg of_ kp sf rs), (aI g to_ 25 tl)] (he_pl g L ln M)) [2] (he_ixP rfl) rfl rfl (he_disP (by decide) rfl) (fun r_17 u_18 H locs h_19 hP hD hS => ?_)
          have hP : va_P g.1 vwCl ([(aI g to_ 25 tl), (oX11 m0 0 ta sz_ pl at_ fa fw cs fd rfm rt_ to_ rw_ wa ct rk rb cn br sm as_ go sh_ ir oa ob th ig sp_ ki tg of_ kp sf rs), (aM g wa 6 (he_ro 6 r2))] ++ he_pl g L ln M) H := hP
          have hD : va_D A ([(aI g to_ 25 tl), (oX11 m0 0 ta sz_ pl at_ fa fw cs fd rfm rt_ to_ rw_ wa ct rk rb cn br sm as_ go sh_ ir oa ob th ig sp_ ki tg of_ kp sf rs), (aM g wa 6 (he_ro 6 r2))] ++ he_pl g L ln M) := hD
          have hP := he_Psub (X := [(aI g to_ 25 tl), (oX11 m0 0 ta sz_ pl at_ fa fw cs fd rfm rt_ to_ rw_ wa ct rk rb cn br sm as_ go sh_ ir oa ob th ig sp_ ki tg of_ kp sf rs), (aM g wa 6 (he_ro 6 r2))]) (X2 := [(oX11 m0 0 ta sz_ pl at_ fa fw cs fd rfm rt_ to_ rw_ wa ct rk rb cn br sm as_ go sh_ ir oa ob th ig sp_ ki tg of_ kp sf rs), (aI g to_ 25 tl), (aM g wa 6 (he_ro 6 r2))]) (P := (he_pl g L ln M)) hP [1, 0, 2] rfl
          have hD := he_Dsub (X := [(aI g to_ 25 tl), (oX11 m0 0 ta sz_ pl at_ fa fw cs fd rfm rt_ to_ rw_ wa ct rk rb cn br sm as_ go sh_ ir oa ob th ig sp_ ki tg of_ kp sf rs), (aM g wa 6 (he_ro 6 r2))]) (X2 := [(oX11 m0 0 ta sz_ pl at_ fa fw cs fd rfm rt_ to_ rw_ wa ct rk rb cn br sm as_ go sh_ ir oa ob th ig sp_ ki tg of_ kp sf rs), (aI g to_ 25 tl), (aM g wa 6 (he_ro 6 r2))]) (P := (he_pl g L ln M)) hD [1, 0, 2] rfl rfl rfl
          exact he_ri hQ hx hb hr hlk hP hD hS dX11_earnest_65 (Nat.le_of_ble_eq_true rfl) (Nat.le_of_ble_eq_true rfl) (sf) (rfl) (trivial)
        · exact absurd c_13 (by decide)
      · exact absurd (by decide) c_12
    · exact absurd c_8 (by decide)
set_option maxHeartbeats 4000000 in
set_option maxRecDepth 100000 in
theorem h_X11_stands (l : Launch) (g : he_G) (m0 : Nat) (fd : Nat) (rfm : Nat) (rt_ : Nat) (to_ : Nat) (rw_ : Nat) (wa : Nat) (rk : Nat) (rb : Nat) (cn : Nat) (br : Nat) (sm : Nat) (as_ : Nat) (go : Nat) (sh_ : Nat) (ki : Nat) (tg : Nat) (of_ : Nat) (kp : Nat) (rs : Nat) (ta : Int32) (sz_ : Int32) (pl : Int32) (at_ : Int32) (fa : Int32) (fw : Int32) (cs : Int32) (ct : Int32) (ir : Int32) (oa : Int32) (ob : Int32) (th : Int32) (ig : Int32) (sp_ : Int32) (sf : Int32) (tw : Int32) (tl : Nat → Int32) (w : Nat) (L : List Nat) (ln : Nat → Nat) (M : Nat → Nat → Int32) (r2 : Nat → Nat) (x : Int32) (y : Int32) (hok0 : ¬ he_within x 0 6 = 0) (hok1 : ¬ he_within y 0 6 = 0) (htl : tl 0 = nI w) (hw6 : w ≤ 6) (F_r2 : ∀ i, i < 6 → r2 i ∈ L ∧ ln (r2 i) = 2 ∧ True) : he_I l yX11_stands wsX11_stands 3 73 0 0 g [.ref m0, .int x, .int y] ([(oX11 m0 tw ta sz_ pl at_ fa fw cs fd rfm rt_ to_ rw_ wa ct rk rb cn br sm as_ go sh_ ir oa ob th ig sp_ ki tg of_ kp sf rs), (aI g to_ 25 tl), (aM g wa 6 (he_ro 6 r2))] ++ he_pl g L ln M) (fun (r : Int32) (u : Int32) => True) (fun (u : Int32) => [(oX11 m0 0 ta sz_ pl at_ fa fw cs fd rfm rt_ to_ rw_ wa ct rk rb cn br sm as_ go sh_ ir oa ob th ig sp_ ki tg of_ kp u rs), (aI g to_ 25 tl), (aM g wa 6 (he_ro 6 r2))] ++ he_pl g L ln M) := by
  refine he_begin (l := l) (g := g) (y := yX11_stands) (wl := wsX11_stands) (fr := 3) (lo := 73) (mc := 0) (ms := 0) (av := [.ref m0, .int x, .int y]) (ws := ([(oX11 m0 tw ta sz_ pl at_ fa fw cs fd rfm rt_ to_ rw_ wa ct rk rb cn br sm as_ go sh_ ir oa ob th ig sp_ ki tg of_ kp sf rs), (aI g to_ 25 tl), (aM g wa 6 (he_ro 6 r2))] ++ he_pl g L ln M)) (cc := cX11_stands) (maxL := 5) (ret := (some .int)) (fun A => va_Qi (fun (r : Int32) (u : Int32) => True) (fun u t => he_post g A ((fun (u : Int32) => [(oX11 m0 0 ta sz_ pl at_ fa fw cs fd rfm rt_ to_ rw_ wa ct rk rb cn br sm as_ go sh_ ir oa ob th ig sp_ ki tg of_ kp u rs), (aI g to_ 25 tl), (aM g wa 6 (he_ro 6 r2))] ++ he_pl g L ln M) u) t) A) (by decide) rfl (Nat.le_of_ble_eq_true rfl) ?_
  intro p e s m args below meth c A ls H locs Q hQ hB
  obtain ⟨hx, hb, hr, hml, hown, hts, hlk, hin, hP, hK, hD, hS, hA, hE, hl⟩ := hB
  have hl : lv_has ls 5 [(0, .ref m0), (1, .int x), (2, .int y)] := hl
  have f85 := hts (.fieldLink RX11 85 "HiredEnemyModel" "thrown" "I") (iwoX11_stands (k := 0) rfl)
  have inX11 : ∀ w ∈ wsX110, w ∈ wsX11_stands := innX11_stands_X11
  have f23 := hts (.fieldLink RX11 23 "HiredEnemyModel" "told" "[I") (iwoX11_stands (k := 1) rfl)
  have f244 := hts (.fieldLink RX11 244 "HiredEnemyModel" "safeRow" "I") (iwoX11_stands (k := 2) rfl)
  refine lv_aload_n hx hb dX11_stands_0 rfl (lv_at hl 0 rfl) ?_
  refine lv_iconst (v := 0) hx hb dX11_stands_1 (by decide) ?_
  refine va_put (v := .int 0) (ty := .int) (T := TX11) (N := 35) hx hb hts inX11 tyX11 tyX11_ok nmX11 hown hK hP hD hS 0 rfl rfl 0 (by decide) f85 (fun _ h9 => h9) rfl (by decide +kernel) rfl rfl (Nat.le_of_ble_eq_true rfl) dX11_stands_2 (fun H locs hP hD hS => ?_)
  have hP : va_P g.1 vwCl ([(oX11 m0 0 ta sz_ pl at_ fa fw cs fd rfm rt_ to_ rw_ wa ct rk rb cn br sm as_ go sh_ ir oa ob th ig sp_ ki tg of_ kp sf rs), (aI g to_ 25 tl), (aM g wa 6 (he_ro 6 r2))] ++ he_pl g L ln M) H := hP
  have hD : va_D A ([(oX11 m0 0 ta sz_ pl at_ fa fw cs fd rfm rt_ to_ rw_ wa ct rk rb cn br sm as_ go sh_ ir oa ob th ig sp_ ki tg of_ kp sf rs), (aI g to_ 25 tl), (aM g wa 6 (he_ro 6 r2))] ++ he_pl g L ln M) := hD
  refine lv_aload_n hx hb dX11_stands_5 rfl (lv_at hl 0 rfl) ?_
  refine lv_iload_n hx hb dX11_stands_6 rfl (lv_at hl 1 rfl) ?_
  refine lv_iload_n hx hb dX11_stands_7 rfl (lv_at hl 2 rfl) ?_
  refine he_ci (wc := []) (wr := ([(oX11 m0 0 ta sz_ pl at_ fa fw cs fd rfm rt_ to_ rw_ wa ct rk rb cn br sm as_ go sh_ ir oa ob th ig sp_ ki tg of_ kp sf rs), (aI g to_ 25 tl), (aM g wa 6 (he_ro 6 r2))] ++ (he_pl g L ln M))) (va_runS (As := [.int x, .int y]) (rest := [.ref m0]) ⟨hx, hb, hml, hown, hts⟩ (c_X11_areTens1 l g x y hok0 hok1 H.size) (va_cwS 2 hts gX11_stands_X11_areTens rfl rfl rfl (by decide +kernel) ⟨Nat.le_of_ble_eq_true rfl, Nat.le_of_ble_eq_true rfl⟩) (he_preS (wc := []) hK hP hD hS hA hE [] rfl rfl) rfl rfl hl.1 rfl (lv_room (Nat.le_of_ble_eq_true rfl)) dX11_stands_8 ⟨(Nat.le_of_ble_eq_true rfl), (Nat.le_of_ble_eq_true rfl)⟩) hP hD hS hA [] (he_is [0, 1, 2] [(oX11 m0 0 ta sz_ pl at_ fa fw cs fd rfm rt_ to_ rw_ wa ct rk rb cn br sm as_ go sh_ ir oa ob th ig sp_ ki tg of_ kp sf rs), (aI g to_ 25 tl), (aM g wa 6 (he_ro 6 r2))] (he_pl g L ln M)) rfl (he_ixP rfl) (he_ndP rfl rfl) (he_disN (by decide) rfl) (fun r_1 u_2 H locs h_3 hP hD hS => ?_)
  have hP := va_P.swap hP
  have hD := va_D.swap hD
  subst h_3
  have hP : va_P g.1 vwCl ([(oX11 m0 0 ta sz_ pl at_ fa fw cs fd rfm rt_ to_ rw_ wa ct rk rb cn br sm as_ go sh_ ir oa ob th ig sp_ ki tg of_ kp sf rs), (aI g to_ 25 tl), (aM g wa 6 (he_ro 6 r2))] ++ he_pl g L ln M) H := hP
  have hD : va_D A ([(oX11 m0 0 ta sz_ pl at_ fa fw cs fd rfm rt_ to_ rw_ wa ct rk rb cn br sm as_ go sh_ ir oa ob th ig sp_ ki tg of_ kp sf rs), (aI g to_ 25 tl), (aM g wa 6 (he_ro 6 r2))] ++ he_pl g L ln M) := hD
  refine lv_if_ne (tgt := 18) hx hb dX11_stands_11 (by decide) (fun c_4 => ?_) (fun c_4 => ?_)
  · refine lv_iconst (v := 0) hx hb dX11_stands_18 (by decide) ?_
    refine lv_iconst (v := 1) hx hb dX11_stands_19 (by decide) ?_
    refine lv_iconst (v := 2) hx hb dX11_stands_20 (by decide) ?_
    refine he_ci (wc := [(oX11 m0 0 ta sz_ pl at_ fa fw cs fd rfm rt_ to_ rw_ wa ct rk rb cn br sm as_ go sh_ ir oa ob th ig sp_ ki tg of_ kp sf rs)]) (wr := ([(aI g to_ 25 tl), (aM g wa 6 (he_ro 6 r2))] ++ (he_pl g L ln M))) (va_runV (As := [.int 0, .int 1, .int 2]) (rest := []) ⟨hx, hb, hml, hown, hts⟩ (c_X11_bad0 l g m0 fd rfm rt_ to_ rw_ wa rk rb cn br sm as_ go sh_ ki tg of_ kp rs ta sz_ pl at_ fa fw cs ct ir oa ob th ig sp_ sf 1 2 H.size) (cwV 3 hts gX11_stands_X11_bad rfl rfl rfl (by decide +kernel) ⟨Nat.le_of_ble_eq_true rfl, Nat.le_of_ble_eq_true rfl⟩) (he_preV (wc := [(oX11 m0 0 ta sz_ pl at_ fa fw cs fd rfm rt_ to_ rw_ wa ct rk rb cn br sm as_ go sh_ ir oa ob th ig sp_ ki tg of_ kp sf rs)]) hK hP hD hS hA hE [0] rfl rfl 0 rfl rfl) rfl rfl hl.1 rfl (lv_room (Nat.le_of_ble_eq_true rfl)) dX11_stands_21 ⟨(Nat.le_of_ble_eq_true rfl), (Nat.le_of_ble_eq_true rfl)⟩) hP hD hS hA [0] (he_is [1, 2] [(oX11 m0 0 ta sz_ pl at_ fa fw cs fd rfm rt_ to_ rw_ wa ct rk rb cn br sm as_ go sh_ ir oa ob th ig sp_ ki tg of_ kp sf rs), (aI g to_ 25 tl), (aM g wa 6 (he_ro 6 r2))] (he_pl g L ln M)) rfl (he_ixP rfl) (he_ndP rfl rfl) (he_disN (by decide) rfl) (fun r_5 u_6 H locs h_7 hP hD hS => ?_)
    have hP := va_P.swap hP
    have hD := va_D.swap hD
    subst h_7
    have hP : va_P g.1 vwCl ([(aI g to_ 25 tl), (aM g wa 6 (he_ro 6 r2)), (oX11 m0 0 ta sz_ pl at_ fa fw cs fd rfm rt_ to_ rw_ wa ct rk rb cn br sm as_ go sh_ ir oa ob th ig sp_ ki tg of_ kp sf rs)] ++ he_pl g L ln M) H := hP
    have hD : va_D A ([(aI g to_ 25 tl), (aM g wa 6 (he_ro 6 r2)), (oX11 m0 0 ta sz_ pl at_ fa fw cs fd rfm rt_ to_ rw_ wa ct rk rb cn br sm as_ go sh_ ir oa ob th ig sp_ ki tg of_ kp sf rs)] ++ he_pl g L ln M) := hD
    refine lv_if_eq (tgt := 29) hx hb dX11_stands_24 (by decide) (fun c_8 => ?_) (fun c_8 => ?_)
    · refine lv_aload_n hx hb dX11_stands_29 rfl (lv_at hl 0 rfl) ?_
      refine lv_iload_n hx hb dX11_stands_30 rfl (lv_at hl 1 rfl) ?_
      refine lv_iload_n hx hb dX11_stands_31 rfl (lv_at hl 2 rfl) ?_
      refine lv_aload_n hx hb dX11_stands_32 rfl (lv_at hl 0 rfl) ?_
      refine he_ci (wc := [(oX11 m0 0 ta sz_ pl at_ fa fw cs fd rfm rt_ to_ rw_ wa ct rk rb cn br sm as_ go sh_ ir oa ob th ig sp_ ki tg of_ kp sf rs), (aI g to_ 25 tl)]) (wr := ([(aM g wa 6 (he_ro 6 r2))] ++ (he_pl g L ln M))) (va_runV (As := []) (rest := [.int y, .int x, .ref m0]) ⟨hx, hb, hml, hown, hts⟩ (h_X11_firstWalls l g m0 fd rfm rt_ to_ rw_ wa rk rb cn br sm as_ go sh_ ki tg of_ kp rs ta sz_ pl at_ fa fw cs ct ir oa ob th ig sp_ sf 0 tl H.size) (cwV 0 hts gX11_stands_X11_firstWalls rfl rfl rfl (by decide +kernel) ⟨Nat.le_of_ble_eq_true rfl, Nat.le_of_ble_eq_true rfl⟩) (he_preV (wc := [(oX11 m0 0 ta sz_ pl at_ fa fw cs fd rfm rt_ to_ rw_ wa ct rk rb cn br sm as_ go sh_ ir oa ob th ig sp_ ki tg of_ kp sf rs), (aI g to_ 25 tl)]) hK hP hD hS hA hE [2, 0] rfl rfl 2 rfl rfl) rfl rfl hl.1 rfl (lv_room (Nat.le_of_ble_eq_true rfl)) dX11_stands_33 ⟨(Nat.le_of_ble_eq_true rfl), (Nat.le_of_ble_eq_true rfl)⟩) hP hD hS hA [2, 0] (he_is [1] [(aI g to_ 25 tl), (aM g wa 6 (he_ro 6 r2)), (oX11 m0 0 ta sz_ pl at_ fa fw cs fd rfm rt_ to_ rw_ wa ct rk rb cn br sm as_ go sh_ ir oa ob th ig sp_ ki tg of_ kp sf rs)] (he_pl g L ln M)) rfl (he_ixP rfl) (he_ndP rfl rfl) (he_disN (by decide) rfl) (fun r_9 u_10 H locs h_11 hP hD hS => ?_)
      have hP := va_P.swap hP
      have hD := va_D.swap hD
      have hP : va_P g.1 vwCl ([(aM g wa 6 (he_ro 6 r2)), (oX11 m0 0 ta sz_ pl at_ fa fw cs fd rfm rt_ to_ rw_ wa ct rk rb cn br sm as_ go sh_ ir oa ob th ig sp_ ki tg of_ kp sf rs), (aI g to_ 25 tl)] ++ he_pl g L ln M) H := hP
      have hD : va_D A ([(aM g wa 6 (he_ro 6 r2)), (oX11 m0 0 ta sz_ pl at_ fa fw cs fd rfm rt_ to_ rw_ wa ct rk rb cn br sm as_ go sh_ ir oa ob th ig sp_ ki tg of_ kp sf rs), (aI g to_ 25 tl)] ++ he_pl g L ln M) := hD
      refine he_ci (wc := ([(oX11 m0 0 ta sz_ pl at_ fa fw cs fd rfm rt_ to_ rw_ wa ct rk rb cn br sm as_ go sh_ ir oa ob th ig sp_ ki tg of_ kp sf rs), (aM g wa 6 (he_ro 6 r2))] ++ (he_pl g L ln M))) (wr := [(aI g to_ 25 tl)]) (va_runV (As := [.int x, .int y, .int r_9]) (rest := []) ⟨hx, hb, hml, hown, hts⟩ (h_X11_safeBy l g m0 fd rfm rt_ to_ rw_ wa rk rb cn br sm as_ go sh_ ki tg of_ kp rs ta sz_ pl at_ fa fw cs ct ir oa ob th ig sp_ sf 0 L ln M r2 x y r_9 (by first | assumption | decide | omega) H.size) (cwV 3 hts gX11_stands_X11_safeBy rfl rfl rfl (by decide +kernel) ⟨Nat.le_of_ble_eq_true rfl, Nat.le_of_ble_eq_true rfl⟩) (he_preV (wc := ([(oX11 m0 0 ta sz_ pl at_ fa fw cs fd rfm rt_ to_ rw_ wa ct rk rb cn br sm as_ go sh_ ir oa ob th ig sp_ ki tg of_ kp sf rs), (aM g wa 6 (he_ro 6 r2))] ++ (he_pl g L ln M))) hK hP hD hS hA hE (he_is [1, 0] [(aM g wa 6 (he_ro 6 r2)), (oX11 m0 0 ta sz_ pl at_ fa fw cs fd rfm rt_ to_ rw_ wa ct rk rb cn br sm as_ go sh_ ir oa ob th ig sp_ ki tg of_ kp sf rs), (aI g to_ 25 tl)] (he_pl g L ln M)) (he_ixP rfl) (he_ndP rfl rfl) 1 rfl rfl) rfl rfl hl.1 rfl (lv_room (Nat.le_of_ble_eq_true rfl)) dX11_stands_36 ⟨(Nat.le_of_ble_eq_true rfl), (Nat.le_of_ble_eq_true rfl)⟩) hP hD hS hA (he_is [1, 0] [(aM g wa 6 (he_ro 6 r2)), (oX11 m0 0 ta sz_ pl at_ fa fw cs fd rfm rt_ to_ rw_ wa ct rk rb cn br sm as_ go sh_ ir oa ob th ig sp_ ki tg of_ kp sf rs), (aI g to_ 25 tl)] (he_pl g L ln M)) [2] (he_ixP rfl) rfl rfl (he_disP (by decide) rfl) (fun r_12 u_13 H locs h_14 hP hD hS => ?_)
      obtain ⟨sr_15, rfl⟩ : ∃ z, z = u_13 := ⟨_, rfl⟩
      have hP : va_P g.1 vwCl ([(aI g to_ 25 tl), (oX11 m0 0 ta sz_ pl at_ fa fw cs fd rfm rt_ to_ rw_ wa ct rk rb cn br sm as_ go sh_ ir oa ob th ig sp_ ki tg of_ kp sr_15 rs), (aM g wa 6 (he_ro 6 r2))] ++ he_pl g L ln M) H := hP
      have hD : va_D A ([(aI g to_ 25 tl), (oX11 m0 0 ta sz_ pl at_ fa fw cs fd rfm rt_ to_ rw_ wa ct rk rb cn br sm as_ go sh_ ir oa ob th ig sp_ ki tg of_ kp sr_15 rs), (aM g wa 6 (he_ro 6 r2))] ++ he_pl g L ln M) := hD
      refine lv_pop hx hb dX11_stands_39 rfl ?_
      refine lv_iconst (v := 0) hx hb dX11_stands_40 (by decide) ?_
      refine lv_istore_n (lv' := [(3, .int 0), (0, .ref m0), (1, .int x), (2, .int y)]) hx hb dX11_stands_41 rfl hl (by decide) rfl (fun ls hl => ?_)
      refine lv_iconst (v := 0) hx hb dX11_stands_42 (by decide) ?_
      refine lv_istore (lv' := [(4, .int 0), (3, .int 0), (0, .ref m0), (1, .int x), (2, .int y)]) hx hb dX11_stands_43 hl (by decide) rfl (fun ls hl => ?_)
      have loop45 : ∀ (n9 : Nat) (j : Nat) (ac : Int32), 3 - j < n9 → (j ≤ 3) → ∀ (H : Heap) (locs : List Loc) (ls : Array Slot), va_P g.1 vwCl ([(aI g to_ 25 tl), (oX11 m0 0 ta sz_ pl at_ fa fw cs fd rfm rt_ to_ rw_ wa ct rk rb cn br sm as_ go sh_ ir oa ob th ig sp_ ki tg of_ kp sr_15 rs), (aM g wa 6 (he_ro 6 r2))] ++ he_pl g L ln M) H → va_D A ([(aI g to_ 25 tl), (oX11 m0 0 ta sz_ pl at_ fa fw cs fd rfm rt_ to_ rw_ wa ct rk rb cn br sm as_ go sh_ ir oa ob th ig sp_ ki tg of_ kp sr_15 rs), (aM g wa 6 (he_ro 6 r2))] ++ he_pl g L ln M) → va_S A s.heap H locs → lv_has ls 5 [(0, .ref m0), (3, .int ac), (4, .int (nI j))] → W p l e (he_room 3 73 0 0) s m args below meth c H locs 0 0 Q (F0 m 45 ls []) := by
        intro n9
        induction n9 with
        | zero => intro j ac hm9; exact absurd hm9 (Nat.not_lt_zero _)
        | succ n9 ih45 =>
          intro j ac hm9 hj H locs ls hP hD hS hl
          refine lv_iload hx hb dX11_stands_45 (lv_at hl 2 rfl) ?_
          refine lv_iconst (v := 3) hx hb dX11_stands_47 (by decide) ?_
          refine lv_aload_n hx hb dX11_stands_48 rfl (lv_at hl 0 rfl) ?_
          refine va_get (v := .ref to_) (T := TX11) (N := 35) hx hb hts inX11 hown hK hP 1 rfl rfl 11 (by decide) f23 (fun _ h9 => h9) rfl dX11_stands_49 ?_
          refine lv_iconst (v := 0) hx hb dX11_stands_52 (by decide) ?_
          refine he_iald hx hb hK hP 0 rfl (0) (by decide) (by decide) (by first | decide | assumption) (nI w) htl dX11_stands_53 ?_
          refine he_ci (wc := []) (wr := ([(aI g to_ 25 tl), (oX11 m0 0 ta sz_ pl at_ fa fw cs fd rfm rt_ to_ rw_ wa ct rk rb cn br sm as_ go sh_ ir oa ob th ig sp_ ki tg of_ kp sr_15 rs), (aM g wa 6 (he_ro 6 r2))] ++ (he_pl g L ln M))) (va_runS (As := [.int 3, .int (nI w)]) (rest := [.int (nI j)]) ⟨hx, hb, hml, hown, hts⟩ (c_X11_less l g 3 (nI w) H.size) (va_cwS 2 hts gX11_stands_X11_less rfl rfl rfl (by decide +kernel) ⟨Nat.le_of_ble_eq_true rfl, Nat.le_of_ble_eq_true rfl⟩) (he_preS (wc := []) hK hP hD hS hA hE [] rfl rfl) rfl rfl hl.1 rfl (lv_room (Nat.le_of_ble_eq_true rfl)) dX11_stands_54 ⟨(Nat.le_of_ble_eq_true rfl), (Nat.le_of_ble_eq_true rfl)⟩) hP hD hS hA [] (he_is [0, 1, 2] [(aI g to_ 25 tl), (oX11 m0 0 ta sz_ pl at_ fa fw cs fd rfm rt_ to_ rw_ wa ct rk rb cn br sm as_ go sh_ ir oa ob th ig sp_ ki tg of_ kp sr_15 rs), (aM g wa 6 (he_ro 6 r2))] (he_pl g L ln M)) rfl (he_ixP rfl) (he_ndP rfl rfl) (he_disN (by decide) rfl) (fun r_16 u_17 H locs h_18 hP hD hS => ?_)
          have hP := va_P.swap hP
          have hD := va_D.swap hD
          subst h_18
          have hP : va_P g.1 vwCl ([(aI g to_ 25 tl), (oX11 m0 0 ta sz_ pl at_ fa fw cs fd rfm rt_ to_ rw_ wa ct rk rb cn br sm as_ go sh_ ir oa ob th ig sp_ ki tg of_ kp sr_15 rs), (aM g wa 6 (he_ro 6 r2))] ++ he_pl g L ln M) H := hP
          have hD : va_D A ([(aI g to_ 25 tl), (oX11 m0 0 ta sz_ pl at_ fa fw cs fd rfm rt_ to_ rw_ wa ct rk rb cn br sm as_ go sh_ ir oa ob th ig sp_ ki tg of_ kp sr_15 rs), (aM g wa 6 (he_ro 6 r2))] ++ he_pl g L ln M) := hD
          refine he_top (nI (min 3 w)) (nI_min (a := 3) (by decide) (by omega)) ?_
          refine lv_icmp_ge (tgt := 81) hx hb dX11_stands_57 (by decide) (fun c_19 => ?_) (fun c_19 => ?_)
          · have k_20 : min 3 w ≤ j := (he_cle (a := min 3 w) (b := j) rfl rfl (by omega) (by omega)).mp c_19
            refine lv_iload_n hx hb dX11_stands_81 rfl (lv_at hl 1 rfl) ?_
            have hP := he_Psub (X := [(aI g to_ 25 tl), (oX11 m0 0 ta sz_ pl at_ fa fw cs fd rfm rt_ to_ rw_ wa ct rk rb cn br sm as_ go sh_ ir oa ob th ig sp_ ki tg of_ kp sr_15 rs), (aM g wa 6 (he_ro 6 r2))]) (X2 := [(oX11 m0 0 ta sz_ pl at_ fa fw cs fd rfm rt_ to_ rw_ wa ct rk rb cn br sm as_ go sh_ ir oa ob th ig sp_ ki tg of_ kp sr_15 rs), (aI g to_ 25 tl), (aM g wa 6 (he_ro 6 r2))]) (P := (he_pl g L ln M)) hP [1, 0, 2] rfl
            have hD := he_Dsub (X := [(aI g to_ 25 tl), (oX11 m0 0 ta sz_ pl at_ fa fw cs fd rfm rt_ to_ rw_ wa ct rk rb cn br sm as_ go sh_ ir oa ob th ig sp_ ki tg of_ kp sr_15 rs), (aM g wa 6 (he_ro 6 r2))]) (X2 := [(oX11 m0 0 ta sz_ pl at_ fa fw cs fd rfm rt_ to_ rw_ wa ct rk rb cn br sm as_ go sh_ ir oa ob th ig sp_ ki tg of_ kp sr_15 rs), (aI g to_ 25 tl), (aM g wa 6 (he_ro 6 r2))]) (P := (he_pl g L ln M)) hD [1, 0, 2] rfl rfl rfl
            exact he_ri hQ hx hb hr hlk hP hD hS dX11_stands_82 (Nat.le_of_ble_eq_true rfl) (Nat.le_of_ble_eq_true rfl) (sr_15) (rfl) (trivial)
          · have k_21 : ¬ (min 3 w ≤ j) := fun h9 => c_19 ((he_cle (a := min 3 w) (b := j) rfl rfl (by omega) (by omega)).mpr h9)
            refine lv_bipush (v := 10) hx hb dX11_stands_60 (by decide) ?_
            refine lv_iload_n hx hb dX11_stands_62 rfl (lv_at hl 1 rfl) ?_
            refine lv_imul hx hb dX11_stands_63 ?_
            refine lv_aload_n hx hb dX11_stands_64 rfl (lv_at hl 0 rfl) ?_
            refine va_get (v := .int sr_15) (T := TX11) (N := 35) hx hb hts inX11 hown hK hP 1 rfl rfl 33 (by decide) f244 (fun _ h9 => h9) rfl dX11_stands_65 ?_
            refine lv_iload hx hb dX11_stands_68 (lv_at hl 2 rfl) ?_
            refine he_ci (wc := []) (wr := ([(aI g to_ 25 tl), (oX11 m0 0 ta sz_ pl at_ fa fw cs fd rfm rt_ to_ rw_ wa ct rk rb cn br sm as_ go sh_ ir oa ob th ig sp_ ki tg of_ kp sr_15 rs), (aM g wa 6 (he_ro 6 r2))] ++ (he_pl g L ln M))) (va_runS (As := [.int sr_15, .int (nI j)]) (rest := [.int (10 * ac)]) ⟨hx, hb, hml, hown, hts⟩ (h_X11_digit l g sr_15 j (by first | assumption | decide | omega) H.size) (va_cwS 2 hts gX11_stands_X11_digit rfl rfl rfl (by decide +kernel) ⟨Nat.le_of_ble_eq_true rfl, Nat.le_of_ble_eq_true rfl⟩) (he_preS (wc := []) hK hP hD hS hA hE [] rfl rfl) rfl rfl hl.1 rfl (lv_room (Nat.le_of_ble_eq_true rfl)) dX11_stands_70 ⟨(Nat.le_of_ble_eq_true rfl), (Nat.le_of_ble_eq_true rfl)⟩) hP hD hS hA [] (he_is [0, 1, 2] [(aI g to_ 25 tl), (oX11 m0 0 ta sz_ pl at_ fa fw cs fd rfm rt_ to_ rw_ wa ct rk rb cn br sm as_ go sh_ ir oa ob th ig sp_ ki tg of_ kp sr_15 rs), (aM g wa 6 (he_ro 6 r2))] (he_pl g L ln M)) rfl (he_ixP rfl) (he_ndP rfl rfl) (he_disN (by decide) rfl) (fun r_22 u_23 H locs h_24 hP hD hS => ?_)
            have hP := va_P.swap hP
            have hD := va_D.swap hD
            have hP : va_P g.1 vwCl ([(aI g to_ 25 tl), (oX11 m0 0 ta sz_ pl at_ fa fw cs fd rfm rt_ to_ rw_ wa ct rk rb cn br sm as_ go sh_ ir oa ob th ig sp_ ki tg of_ kp sr_15 rs), (aM g wa 6 (he_ro 6 r2))] ++ he_pl g L ln M) H := hP
            have hD : va_D A ([(aI g to_ 25 tl), (oX11 m0 0 ta sz_ pl at_ fa fw cs fd rfm rt_ to_ rw_ wa ct rk rb cn br sm as_ go sh_ ir oa ob th ig sp_ ki tg of_ kp sr_15 rs), (aM g wa 6 (he_ro 6 r2))] ++ he_pl g L ln M) := hD
            refine lv_iadd hx hb dX11_stands_73 ?_
            refine lv_istore_n (lv' := [(3, .int ((10 * ac) + r_22)), (0, .ref m0), (4, .int (nI j))]) hx hb dX11_stands_74 rfl hl (by decide) rfl (fun ls hl => ?_)
            refine lv_iinc (v := nI (j + 1)) (lv' := [(4, .int (nI (j + 1))), (3, .int ((10 * ac) + r_22)), (0, .ref m0)]) hx hb dX11_stands_75 hl (k := 2) rfl (nI_1 j) (by decide) rfl (fun ls hl => ?_)
            refine lv_goto (tgt := 45) hx hb dX11_stands_78 (by decide) ?_
            exact ih45 (j + 1) ((10 * ac) + r_22) (by omega) (by omega) _ _ _ hP hD hS (lv_sub hl [2, 1, 0] rfl)
      exact loop45 ((3 - 0) + 1) 0 0 (Nat.lt_succ_self _) (Nat.zero_le _) _ _ _ hP hD hS (lv_sub hl [2, 1, 0] rfl)
    · exact absurd (by decide) c_8
  · exact absurd c_4 (by decide)
set_option maxHeartbeats 4000000 in
set_option maxRecDepth 100000 in
theorem h_X11_show (l : Launch) (g : he_G) (m0 : Nat) (fd : Nat) (rfm : Nat) (rt_ : Nat) (to_ : Nat) (rw_ : Nat) (wa : Nat) (rk : Nat) (rb : Nat) (cn : Nat) (br : Nat) (sm : Nat) (as_ : Nat) (go : Nat) (sh_ : Nat) (ki : Nat) (tg : Nat) (of_ : Nat) (kp : Nat) (rs : Nat) (ta : Int32) (sz_ : Int32) (pl : Int32) (at_ : Int32) (fa : Int32) (fw : Int32) (cs : Int32) (ct : Int32) (ir : Int32) (oa : Int32) (ob : Int32) (th : Int32) (ig : Int32) (sp_ : Int32) (sf : Int32) (tw : Int32) (tl : Nat → Int32) (L : List Nat) (ln : Nat → Nat) (M : Nat → Nat → Int32) (r2 : Nat → Nat) (x : Int32) (y : Int32) (hok0 : ¬ he_within x 0 6 = 0) (hok1 : ¬ he_within y 0 6 = 0) (F_r2 : ∀ i, i < 6 → r2 i ∈ L ∧ ln (r2 i) = 2 ∧ True) : he_I l yX11_show wsX11_show 3 73 0 0 g [.ref m0, .int x, .int y] ([(oX11 m0 tw ta sz_ pl at_ fa fw cs fd rfm rt_ to_ rw_ wa ct rk rb cn br sm as_ go sh_ ir oa ob th ig sp_ ki tg of_ kp sf rs), (aI g to_ 25 tl), (aM g wa 6 (he_ro 6 r2))] ++ he_pl g L ln M) (fun (r : Int32) (u : Int32) => True) (fun (u : Int32) => [(oX11 m0 0 ta sz_ pl at_ fa fw cs fd rfm rt_ to_ rw_ wa ct rk rb cn br sm as_ go sh_ ir oa ob th ig sp_ ki tg of_ kp u rs), (aI g to_ 25 tl), (aM g wa 6 (he_ro 6 r2))] ++ he_pl g L ln M) := by
  refine he_begin (l := l) (g := g) (y := yX11_show) (wl := wsX11_show) (fr := 3) (lo := 73) (mc := 0) (ms := 0) (av := [.ref m0, .int x, .int y]) (ws := ([(oX11 m0 tw ta sz_ pl at_ fa fw cs fd rfm rt_ to_ rw_ wa ct rk rb cn br sm as_ go sh_ ir oa ob th ig sp_ ki tg of_ kp sf rs), (aI g to_ 25 tl), (aM g wa 6 (he_ro 6 r2))] ++ he_pl g L ln M)) (cc := cX11_show) (maxL := 7) (ret := (some .int)) (fun A => va_Qi (fun (r : Int32) (u : Int32) => True) (fun u t => he_post g A ((fun (u : Int32) => [(oX11 m0 0 ta sz_ pl at_ fa fw cs fd rfm rt_ to_ rw_ wa ct rk rb cn br sm as_ go sh_ ir oa ob th ig sp_ ki tg of_ kp u rs), (aI g to_ 25 tl), (aM g wa 6 (he_ro 6 r2))] ++ he_pl g L ln M) u) t) A) (by decide) rfl (Nat.le_of_ble_eq_true rfl) ?_
  intro p e s m args below meth c A ls H locs Q hQ hB
  obtain ⟨hx, hb, hr, hml, hown, hts, hlk, hin, hP, hK, hD, hS, hA, hE, hl⟩ := hB
  have hl : lv_has ls 7 [(0, .ref m0), (1, .int x), (2, .int y)] := hl
  have f85 := hts (.fieldLink RX11 85 "HiredEnemyModel" "thrown" "I") (iwoX11_show (k := 0) rfl)
  have inX11 : ∀ w ∈ wsX110, w ∈ wsX11_show := innX11_show_X11
  refine lv_aload_n hx hb dX11_show_0 rfl (lv_at hl 0 rfl) ?_
  refine lv_iconst (v := 0) hx hb dX11_show_1 (by decide) ?_
  refine va_put (v := .int 0) (ty := .int) (T := TX11) (N := 35) hx hb hts inX11 tyX11 tyX11_ok nmX11 hown hK hP hD hS 0 rfl rfl 0 (by decide) f85 (fun _ h9 => h9) rfl (by decide +kernel) rfl rfl (Nat.le_of_ble_eq_true rfl) dX11_show_2 (fun H locs hP hD hS => ?_)
  have hP : va_P g.1 vwCl ([(oX11 m0 0 ta sz_ pl at_ fa fw cs fd rfm rt_ to_ rw_ wa ct rk rb cn br sm as_ go sh_ ir oa ob th ig sp_ ki tg of_ kp sf rs), (aI g to_ 25 tl), (aM g wa 6 (he_ro 6 r2))] ++ he_pl g L ln M) H := hP
  have hD : va_D A ([(oX11 m0 0 ta sz_ pl at_ fa fw cs fd rfm rt_ to_ rw_ wa ct rk rb cn br sm as_ go sh_ ir oa ob th ig sp_ ki tg of_ kp sf rs), (aI g to_ 25 tl), (aM g wa 6 (he_ro 6 r2))] ++ he_pl g L ln M) := hD
  refine lv_aload_n hx hb dX11_show_5 rfl (lv_at hl 0 rfl) ?_
  refine lv_iload_n hx hb dX11_show_6 rfl (lv_at hl 1 rfl) ?_
  refine lv_iload_n hx hb dX11_show_7 rfl (lv_at hl 2 rfl) ?_
  refine he_ci (wc := []) (wr := ([(oX11 m0 0 ta sz_ pl at_ fa fw cs fd rfm rt_ to_ rw_ wa ct rk rb cn br sm as_ go sh_ ir oa ob th ig sp_ ki tg of_ kp sf rs), (aI g to_ 25 tl), (aM g wa 6 (he_ro 6 r2))] ++ (he_pl g L ln M))) (va_runS (As := [.int x, .int y]) (rest := [.ref m0]) ⟨hx, hb, hml, hown, hts⟩ (c_X11_areTens1 l g x y hok0 hok1 H.size) (va_cwS 2 hts gX11_show_X11_areTens rfl rfl rfl (by decide +kernel) ⟨Nat.le_of_ble_eq_true rfl, Nat.le_of_ble_eq_true rfl⟩) (he_preS (wc := []) hK hP hD hS hA hE [] rfl rfl) rfl rfl hl.1 rfl (lv_room (Nat.le_of_ble_eq_true rfl)) dX11_show_8 ⟨(Nat.le_of_ble_eq_true rfl), (Nat.le_of_ble_eq_true rfl)⟩) hP hD hS hA [] (he_is [0, 1, 2] [(oX11 m0 0 ta sz_ pl at_ fa fw cs fd rfm rt_ to_ rw_ wa ct rk rb cn br sm as_ go sh_ ir oa ob th ig sp_ ki tg of_ kp sf rs), (aI g to_ 25 tl), (aM g wa 6 (he_ro 6 r2))] (he_pl g L ln M)) rfl (he_ixP rfl) (he_ndP rfl rfl) (he_disN (by decide) rfl) (fun r_1 u_2 H locs h_3 hP hD hS => ?_)
  have hP := va_P.swap hP
  have hD := va_D.swap hD
  subst h_3
  have hP : va_P g.1 vwCl ([(oX11 m0 0 ta sz_ pl at_ fa fw cs fd rfm rt_ to_ rw_ wa ct rk rb cn br sm as_ go sh_ ir oa ob th ig sp_ ki tg of_ kp sf rs), (aI g to_ 25 tl), (aM g wa 6 (he_ro 6 r2))] ++ he_pl g L ln M) H := hP
  have hD : va_D A ([(oX11 m0 0 ta sz_ pl at_ fa fw cs fd rfm rt_ to_ rw_ wa ct rk rb cn br sm as_ go sh_ ir oa ob th ig sp_ ki tg of_ kp sf rs), (aI g to_ 25 tl), (aM g wa 6 (he_ro 6 r2))] ++ he_pl g L ln M) := hD
  refine lv_if_ne (tgt := 18) hx hb dX11_show_11 (by decide) (fun c_4 => ?_) (fun c_4 => ?_)
  · refine lv_iconst (v := 0) hx hb dX11_show_18 (by decide) ?_
    refine lv_iconst (v := 1) hx hb dX11_show_19 (by decide) ?_
    refine lv_iconst (v := 2) hx hb dX11_show_20 (by decide) ?_
    refine he_ci (wc := [(oX11 m0 0 ta sz_ pl at_ fa fw cs fd rfm rt_ to_ rw_ wa ct rk rb cn br sm as_ go sh_ ir oa ob th ig sp_ ki tg of_ kp sf rs)]) (wr := ([(aI g to_ 25 tl), (aM g wa 6 (he_ro 6 r2))] ++ (he_pl g L ln M))) (va_runV (As := [.int 0, .int 1, .int 2]) (rest := []) ⟨hx, hb, hml, hown, hts⟩ (c_X11_bad0 l g m0 fd rfm rt_ to_ rw_ wa rk rb cn br sm as_ go sh_ ki tg of_ kp rs ta sz_ pl at_ fa fw cs ct ir oa ob th ig sp_ sf 1 2 H.size) (cwV 3 hts gX11_show_X11_bad rfl rfl rfl (by decide +kernel) ⟨Nat.le_of_ble_eq_true rfl, Nat.le_of_ble_eq_true rfl⟩) (he_preV (wc := [(oX11 m0 0 ta sz_ pl at_ fa fw cs fd rfm rt_ to_ rw_ wa ct rk rb cn br sm as_ go sh_ ir oa ob th ig sp_ ki tg of_ kp sf rs)]) hK hP hD hS hA hE [0] rfl rfl 0 rfl rfl) rfl rfl hl.1 rfl (lv_room (Nat.le_of_ble_eq_true rfl)) dX11_show_21 ⟨(Nat.le_of_ble_eq_true rfl), (Nat.le_of_ble_eq_true rfl)⟩) hP hD hS hA [0] (he_is [1, 2] [(oX11 m0 0 ta sz_ pl at_ fa fw cs fd rfm rt_ to_ rw_ wa ct rk rb cn br sm as_ go sh_ ir oa ob th ig sp_ ki tg of_ kp sf rs), (aI g to_ 25 tl), (aM g wa 6 (he_ro 6 r2))] (he_pl g L ln M)) rfl (he_ixP rfl) (he_ndP rfl rfl) (he_disN (by decide) rfl) (fun r_5 u_6 H locs h_7 hP hD hS => ?_)
    have hP := va_P.swap hP
    have hD := va_D.swap hD
    subst h_7
    have hP : va_P g.1 vwCl ([(aI g to_ 25 tl), (aM g wa 6 (he_ro 6 r2)), (oX11 m0 0 ta sz_ pl at_ fa fw cs fd rfm rt_ to_ rw_ wa ct rk rb cn br sm as_ go sh_ ir oa ob th ig sp_ ki tg of_ kp sf rs)] ++ he_pl g L ln M) H := hP
    have hD : va_D A ([(aI g to_ 25 tl), (aM g wa 6 (he_ro 6 r2)), (oX11 m0 0 ta sz_ pl at_ fa fw cs fd rfm rt_ to_ rw_ wa ct rk rb cn br sm as_ go sh_ ir oa ob th ig sp_ ki tg of_ kp sf rs)] ++ he_pl g L ln M) := hD
    refine lv_if_eq (tgt := 29) hx hb dX11_show_24 (by decide) (fun c_8 => ?_) (fun c_8 => ?_)
    · refine lv_aload_n hx hb dX11_show_29 rfl (lv_at hl 0 rfl) ?_
      refine he_ci (wc := [(oX11 m0 0 ta sz_ pl at_ fa fw cs fd rfm rt_ to_ rw_ wa ct rk rb cn br sm as_ go sh_ ir oa ob th ig sp_ ki tg of_ kp sf rs), (aI g to_ 25 tl)]) (wr := ([(aM g wa 6 (he_ro 6 r2))] ++ (he_pl g L ln M))) (va_runV (As := []) (rest := []) ⟨hx, hb, hml, hown, hts⟩ (h_X11_firstWalls l g m0 fd rfm rt_ to_ rw_ wa rk rb cn br sm as_ go sh_ ki tg of_ kp rs ta sz_ pl at_ fa fw cs ct ir oa ob th ig sp_ sf 0 tl H.size) (cwV 0 hts gX11_show_X11_firstWalls rfl rfl rfl (by decide +kernel) ⟨Nat.le_of_ble_eq_true rfl, Nat.le_of_ble_eq_true rfl⟩) (he_preV (wc := [(oX11 m0 0 ta sz_ pl at_ fa fw cs fd rfm rt_ to_ rw_ wa ct rk rb cn br sm as_ go sh_ ir oa ob th ig sp_ ki tg of_ kp sf rs), (aI g to_ 25 tl)]) hK hP hD hS hA hE [2, 0] rfl rfl 2 rfl rfl) rfl rfl hl.1 rfl (lv_room (Nat.le_of_ble_eq_true rfl)) dX11_show_30 ⟨(Nat.le_of_ble_eq_true rfl), (Nat.le_of_ble_eq_true rfl)⟩) hP hD hS hA [2, 0] (he_is [1] [(aI g to_ 25 tl), (aM g wa 6 (he_ro 6 r2)), (oX11 m0 0 ta sz_ pl at_ fa fw cs fd rfm rt_ to_ rw_ wa ct rk rb cn br sm as_ go sh_ ir oa ob th ig sp_ ki tg of_ kp sf rs)] (he_pl g L ln M)) rfl (he_ixP rfl) (he_ndP rfl rfl) (he_disN (by decide) rfl) (fun r_9 u_10 H locs h_11 hP hD hS => ?_)
      have hP := va_P.swap hP
      have hD := va_D.swap hD
      have hP : va_P g.1 vwCl ([(aM g wa 6 (he_ro 6 r2)), (oX11 m0 0 ta sz_ pl at_ fa fw cs fd rfm rt_ to_ rw_ wa ct rk rb cn br sm as_ go sh_ ir oa ob th ig sp_ ki tg of_ kp sf rs), (aI g to_ 25 tl)] ++ he_pl g L ln M) H := hP
      have hD : va_D A ([(aM g wa 6 (he_ro 6 r2)), (oX11 m0 0 ta sz_ pl at_ fa fw cs fd rfm rt_ to_ rw_ wa ct rk rb cn br sm as_ go sh_ ir oa ob th ig sp_ ki tg of_ kp sf rs), (aI g to_ 25 tl)] ++ he_pl g L ln M) := hD
      refine lv_istore_n (lv' := [(3, .int r_9), (0, .ref m0), (1, .int x), (2, .int y)]) hx hb dX11_show_33 rfl hl (by decide) rfl (fun ls hl => ?_)
      refine lv_aload_n hx hb dX11_show_34 rfl (lv_at hl 1 rfl) ?_
      refine lv_iload_n hx hb dX11_show_35 rfl (lv_at hl 2 rfl) ?_
      refine lv_iload_n hx hb dX11_show_36 rfl (lv_at hl 3 rfl) ?_
      refine lv_iload_n hx hb dX11_show_37 rfl (lv_at hl 0 rfl) ?_
      refine he_ci (wc := ([(oX11 m0 0 ta sz_ pl at_ fa fw cs fd rfm rt_ to_ rw_ wa ct rk rb cn br sm as_ go sh_ ir oa ob th ig sp_ ki tg of_ kp sf rs), (aM g wa 6 (he_ro 6 r2))] ++ (he_pl g L ln M))) (wr := [(aI g to_ 25 tl)]) (va_runV (As := [.int x, .int y, .int r_9]) (rest := []) ⟨hx, hb, hml, hown, hts⟩ (h_X11_safeBy l g m0 fd rfm rt_ to_ rw_ wa rk rb cn br sm as_ go sh_ ki tg of_ kp rs ta sz_ pl at_ fa fw cs ct ir oa ob th ig sp_ sf 0 L ln M r2 x y r_9 (by first | assumption | decide | omega) H.size) (cwV 3 hts gX11_show_X11_safeBy rfl rfl rfl (by decide +kernel) ⟨Nat.le_of_ble_eq_true rfl, Nat.le_of_ble_eq_true rfl⟩) (he_preV (wc := ([(oX11 m0 0 ta sz_ pl at_ fa fw cs fd rfm rt_ to_ rw_ wa ct rk rb cn br sm as_ go sh_ ir oa ob th ig sp_ ki tg of_ kp sf rs), (aM g wa 6 (he_ro 6 r2))] ++ (he_pl g L ln M))) hK hP hD hS hA hE (he_is [1, 0] [(aM g wa 6 (he_ro 6 r2)), (oX11 m0 0 ta sz_ pl at_ fa fw cs fd rfm rt_ to_ rw_ wa ct rk rb cn br sm as_ go sh_ ir oa ob th ig sp_ ki tg of_ kp sf rs), (aI g to_ 25 tl)] (he_pl g L ln M)) (he_ixP rfl) (he_ndP rfl rfl) 1 rfl rfl) rfl rfl hl.1 rfl (lv_room (Nat.le_of_ble_eq_true rfl)) dX11_show_38 ⟨(Nat.le_of_ble_eq_true rfl), (Nat.le_of_ble_eq_true rfl)⟩) hP hD hS hA (he_is [1, 0] [(aM g wa 6 (he_ro 6 r2)), (oX11 m0 0 ta sz_ pl at_ fa fw cs fd rfm rt_ to_ rw_ wa ct rk rb cn br sm as_ go sh_ ir oa ob th ig sp_ ki tg of_ kp sf rs), (aI g to_ 25 tl)] (he_pl g L ln M)) [2] (he_ixP rfl) rfl rfl (he_disP (by decide) rfl) (fun r_12 u_13 H locs h_14 hP hD hS => ?_)
      obtain ⟨sr_15, rfl⟩ : ∃ z, z = u_13 := ⟨_, rfl⟩
      have hP : va_P g.1 vwCl ([(aI g to_ 25 tl), (oX11 m0 0 ta sz_ pl at_ fa fw cs fd rfm rt_ to_ rw_ wa ct rk rb cn br sm as_ go sh_ ir oa ob th ig sp_ ki tg of_ kp sr_15 rs), (aM g wa 6 (he_ro 6 r2))] ++ he_pl g L ln M) H := hP
      have hD : va_D A ([(aI g to_ 25 tl), (oX11 m0 0 ta sz_ pl at_ fa fw cs fd rfm rt_ to_ rw_ wa ct rk rb cn br sm as_ go sh_ ir oa ob th ig sp_ ki tg of_ kp sr_15 rs), (aM g wa 6 (he_ro 6 r2))] ++ he_pl g L ln M) := hD
      refine lv_istore (lv' := [(4, .int r_12), (3, .int r_9), (0, .ref m0), (1, .int x), (2, .int y)]) hx hb dX11_show_41 hl (by decide) rfl (fun ls hl => ?_)
      refine lv_iconst (v := 0) hx hb dX11_show_43 (by decide) ?_
      refine lv_istore (lv' := [(5, .int 0), (4, .int r_12), (3, .int r_9), (0, .ref m0), (1, .int x), (2, .int y)]) hx hb dX11_show_44 hl (by decide) rfl (fun ls hl => ?_)
      refine lv_iconst (v := 0) hx hb dX11_show_46 (by decide) ?_
      refine lv_istore (lv' := [(6, .int 0), (5, .int 0), (4, .int r_12), (3, .int r_9), (0, .ref m0), (1, .int x), (2, .int y)]) hx hb dX11_show_47 hl (by decide) rfl (fun ls hl => ?_)
      have loop49 : ∀ (n9 : Nat) (j : Nat) (bt : Int32) (sr : Int32), 3 - j < n9 → (j ≤ 3) → ∀ (H : Heap) (locs : List Loc) (ls : Array Slot), va_P g.1 vwCl ([(oX11 m0 0 ta sz_ pl at_ fa fw cs fd rfm rt_ to_ rw_ wa ct rk rb cn br sm as_ go sh_ ir oa ob th ig sp_ ki tg of_ kp sr rs), (aI g to_ 25 tl), (aM g wa 6 (he_ro 6 r2))] ++ he_pl g L ln M) H → va_D A ([(oX11 m0 0 ta sz_ pl at_ fa fw cs fd rfm rt_ to_ rw_ wa ct rk rb cn br sm as_ go sh_ ir oa ob th ig sp_ ki tg of_ kp sr rs), (aI g to_ 25 tl), (aM g wa 6 (he_ro 6 r2))] ++ he_pl g L ln M) → va_S A s.heap H locs → lv_has ls 7 [(0, .ref m0), (1, .int x), (2, .int y), (3, .int r_9), (4, .int r_12), (5, .int bt), (6, .int (nI j))] → W p l e (he_room 3 73 0 0) s m args below meth c H locs 0 0 Q (F0 m 49 ls []) := by
        intro n9
        induction n9 with
        | zero => intro j bt sr hm9; exact absurd hm9 (Nat.not_lt_zero _)
        | succ n9 ih49 =>
          intro j bt sr hm9 hj H locs ls hP hD hS hl
          refine lv_iload hx hb dX11_show_49 (lv_at hl 6 rfl) ?_
          refine lv_iconst (v := 3) hx hb dX11_show_51 (by decide) ?_
          refine lv_icmp_ge (tgt := 99) hx hb dX11_show_52 (by decide) (fun c_16 => ?_) (fun c_16 => ?_)
          · have k_17 : 3 ≤ j := (he_cle (a := 3) (b := j) (by decide) rfl (by omega) (by omega)).mp c_16
            refine lv_iload hx hb dX11_show_99 (lv_at hl 5 rfl) ?_
            exact he_ri hQ hx hb hr hlk hP hD hS dX11_show_101 (Nat.le_of_ble_eq_true rfl) (Nat.le_of_ble_eq_true rfl) (sr) (rfl) (trivial)
          · have k_18 : ¬ (3 ≤ j) := fun h9 => c_16 ((he_cle (a := 3) (b := j) (by decide) rfl (by omega) (by omega)).mpr h9)
            refine lv_iload_n hx hb dX11_show_55 rfl (lv_at hl 3 rfl) ?_
            refine lv_iload hx hb dX11_show_56 (lv_at hl 6 rfl) ?_
            refine lv_ishr hx hb dX11_show_58 ?_
            refine lv_iconst (v := 1) hx hb dX11_show_59 (by decide) ?_
            refine lv_iand hx hb dX11_show_60 ?_
            refine lv_iconst (v := 1) hx hb dX11_show_61 (by decide) ?_
            refine lv_icmp_ne (tgt := 93) hx hb dX11_show_62 (by decide) (fun c_19 => ?_) (fun c_19 => ?_)
            · refine lv_iinc (v := nI (j + 1)) (lv' := [(6, .int (nI (j + 1))), (0, .ref m0), (1, .int x), (2, .int y), (3, .int r_9), (4, .int r_12), (5, .int bt)]) hx hb dX11_show_93 hl (k := 6) rfl (nI_1 j) (by decide) rfl (fun ls hl => ?_)
              refine lv_goto (tgt := 49) hx hb dX11_show_96 (by decide) ?_
              exact ih49 (j + 1) bt sr (by omega) (by omega) _ _ _ hP hD hS (lv_sub hl [1, 2, 3, 4, 5, 6, 0] rfl)
            · refine lv_aload_n hx hb dX11_show_65 rfl (lv_at hl 0 rfl) ?_
              refine lv_iload_n hx hb dX11_show_66 rfl (lv_at hl 1 rfl) ?_
              refine lv_iload_n hx hb dX11_show_67 rfl (lv_at hl 2 rfl) ?_
              refine lv_iload_n hx hb dX11_show_68 rfl (lv_at hl 3 rfl) ?_
              refine lv_iconst (v := 1) hx hb dX11_show_69 (by decide) ?_
              refine lv_iload hx hb dX11_show_70 (lv_at hl 6 rfl) ?_
              refine lv_ishl hx hb dX11_show_72 ?_
              refine lv_iconst (v := (-1)) hx hb dX11_show_73 (by decide) ?_
              refine lv_ixor hx hb dX11_show_74 ?_
              refine lv_iand hx hb dX11_show_75 ?_
              refine he_ci (wc := ([(oX11 m0 0 ta sz_ pl at_ fa fw cs fd rfm rt_ to_ rw_ wa ct rk rb cn br sm as_ go sh_ ir oa ob th ig sp_ ki tg of_ kp sr rs), (aM g wa 6 (he_ro 6 r2))] ++ (he_pl g L ln M))) (wr := [(aI g to_ 25 tl)]) (va_runV (As := [.int x, .int y, .int (r_9 &&& ((1 <<< ((nI j) &&& 31)) ^^^ (-1)))]) (rest := []) ⟨hx, hb, hml, hown, hts⟩ (h_X11_safeBy l g m0 fd rfm rt_ to_ rw_ wa rk rb cn br sm as_ go sh_ ki tg of_ kp rs ta sz_ pl at_ fa fw cs ct ir oa ob th ig sp_ sr 0 L ln M r2 x y (r_9 &&& ((1 <<< ((nI j) &&& 31)) ^^^ (-1))) (by first | assumption | decide | omega) H.size) (cwV 3 hts gX11_show_X11_safeBy rfl rfl rfl (by decide +kernel) ⟨Nat.le_of_ble_eq_true rfl, Nat.le_of_ble_eq_true rfl⟩) (he_preV (wc := ([(oX11 m0 0 ta sz_ pl at_ fa fw cs fd rfm rt_ to_ rw_ wa ct rk rb cn br sm as_ go sh_ ir oa ob th ig sp_ ki tg of_ kp sr rs), (aM g wa 6 (he_ro 6 r2))] ++ (he_pl g L ln M))) hK hP hD hS hA hE (he_is [0, 2] [(oX11 m0 0 ta sz_ pl at_ fa fw cs fd rfm rt_ to_ rw_ wa ct rk rb cn br sm as_ go sh_ ir oa ob th ig sp_ ki tg of_ kp sr rs), (aI g to_ 25 tl), (aM g wa 6 (he_ro 6 r2))] (he_pl g L ln M)) (he_ixP rfl) (he_ndP rfl rfl) 0 rfl rfl) rfl rfl hl.1 rfl (lv_room (Nat.le_of_ble_eq_true rfl)) dX11_show_76 ⟨(Nat.le_of_ble_eq_true rfl), (Nat.le_of_ble_eq_true rfl)⟩) hP hD hS hA (he_is [0, 2] [(oX11 m0 0 ta sz_ pl at_ fa fw cs fd rfm rt_ to_ rw_ wa ct rk rb cn br sm as_ go sh_ ir oa ob th ig sp_ ki tg of_ kp sr rs), (aI g to_ 25 tl), (aM g wa 6 (he_ro 6 r2))] (he_pl g L ln M)) [1] (he_ixP rfl) rfl rfl (he_disP (by decide) rfl) (fun r_20 u_21 H locs h_22 hP hD hS => ?_)
              obtain ⟨sr_23, rfl⟩ : ∃ z, z = u_21 := ⟨_, rfl⟩
              have hP : va_P g.1 vwCl ([(aI g to_ 25 tl), (oX11 m0 0 ta sz_ pl at_ fa fw cs fd rfm rt_ to_ rw_ wa ct rk rb cn br sm as_ go sh_ ir oa ob th ig sp_ ki tg of_ kp sr_23 rs), (aM g wa 6 (he_ro 6 r2))] ++ he_pl g L ln M) H := hP
              have hD : va_D A ([(aI g to_ 25 tl), (oX11 m0 0 ta sz_ pl at_ fa fw cs fd rfm rt_ to_ rw_ wa ct rk rb cn br sm as_ go sh_ ir oa ob th ig sp_ ki tg of_ kp sr_23 rs), (aM g wa 6 (he_ro 6 r2))] ++ he_pl g L ln M) := hD
              refine lv_iload hx hb dX11_show_79 (lv_at hl 4 rfl) ?_
              refine lv_icmp_ne (tgt := 93) hx hb dX11_show_81 (by decide) (fun c_24 => ?_) (fun c_24 => ?_)
              · refine lv_iinc (v := nI (j + 1)) (lv' := [(6, .int (nI (j + 1))), (0, .ref m0), (1, .int x), (2, .int y), (3, .int r_9), (4, .int r_12), (5, .int bt)]) hx hb dX11_show_93 hl (k := 6) rfl (nI_1 j) (by decide) rfl (fun ls hl => ?_)
                refine lv_goto (tgt := 49) hx hb dX11_show_96 (by decide) ?_
                have hP := he_Psub (X := [(aI g to_ 25 tl), (oX11 m0 0 ta sz_ pl at_ fa fw cs fd rfm rt_ to_ rw_ wa ct rk rb cn br sm as_ go sh_ ir oa ob th ig sp_ ki tg of_ kp sr_23 rs), (aM g wa 6 (he_ro 6 r2))]) (X2 := [(oX11 m0 0 ta sz_ pl at_ fa fw cs fd rfm rt_ to_ rw_ wa ct rk rb cn br sm as_ go sh_ ir oa ob th ig sp_ ki tg of_ kp sr_23 rs), (aI g to_ 25 tl), (aM g wa 6 (he_ro 6 r2))]) (P := (he_pl g L ln M)) hP [1, 0, 2] rfl
                have hD := he_Dsub (X := [(aI g to_ 25 tl), (oX11 m0 0 ta sz_ pl at_ fa fw cs fd rfm rt_ to_ rw_ wa ct rk rb cn br sm as_ go sh_ ir oa ob th ig sp_ ki tg of_ kp sr_23 rs), (aM g wa 6 (he_ro 6 r2))]) (X2 := [(oX11 m0 0 ta sz_ pl at_ fa fw cs fd rfm rt_ to_ rw_ wa ct rk rb cn br sm as_ go sh_ ir oa ob th ig sp_ ki tg of_ kp sr_23 rs), (aI g to_ 25 tl), (aM g wa 6 (he_ro 6 r2))]) (P := (he_pl g L ln M)) hD [1, 0, 2] rfl rfl rfl
                exact ih49 (j + 1) bt sr_23 (by omega) (by omega) _ _ _ hP hD hS (lv_sub hl [1, 2, 3, 4, 5, 6, 0] rfl)
              · refine lv_iload hx hb dX11_show_84 (lv_at hl 5 rfl) ?_
                refine lv_iconst (v := 1) hx hb dX11_show_86 (by decide) ?_
                refine lv_iload hx hb dX11_show_87 (lv_at hl 6 rfl) ?_
                refine lv_ishl hx hb dX11_show_89 ?_
                refine lv_ior hx hb dX11_show_90 ?_
                refine lv_istore (lv' := [(5, .int (bt ||| (1 <<< ((nI j) &&& 31)))), (0, .ref m0), (1, .int x), (2, .int y), (3, .int r_9), (4, .int r_12), (6, .int (nI j))]) hx hb dX11_show_91 hl (by decide) rfl (fun ls hl => ?_)
                refine lv_iinc (v := nI (j + 1)) (lv' := [(6, .int (nI (j + 1))), (5, .int (bt ||| (1 <<< ((nI j) &&& 31)))), (0, .ref m0), (1, .int x), (2, .int y), (3, .int r_9), (4, .int r_12)]) hx hb dX11_show_93 hl (k := 6) rfl (nI_1 j) (by decide) rfl (fun ls hl => ?_)
                refine lv_goto (tgt := 49) hx hb dX11_show_96 (by decide) ?_
                have hP := he_Psub (X := [(aI g to_ 25 tl), (oX11 m0 0 ta sz_ pl at_ fa fw cs fd rfm rt_ to_ rw_ wa ct rk rb cn br sm as_ go sh_ ir oa ob th ig sp_ ki tg of_ kp sr_23 rs), (aM g wa 6 (he_ro 6 r2))]) (X2 := [(oX11 m0 0 ta sz_ pl at_ fa fw cs fd rfm rt_ to_ rw_ wa ct rk rb cn br sm as_ go sh_ ir oa ob th ig sp_ ki tg of_ kp sr_23 rs), (aI g to_ 25 tl), (aM g wa 6 (he_ro 6 r2))]) (P := (he_pl g L ln M)) hP [1, 0, 2] rfl
                have hD := he_Dsub (X := [(aI g to_ 25 tl), (oX11 m0 0 ta sz_ pl at_ fa fw cs fd rfm rt_ to_ rw_ wa ct rk rb cn br sm as_ go sh_ ir oa ob th ig sp_ ki tg of_ kp sr_23 rs), (aM g wa 6 (he_ro 6 r2))]) (X2 := [(oX11 m0 0 ta sz_ pl at_ fa fw cs fd rfm rt_ to_ rw_ wa ct rk rb cn br sm as_ go sh_ ir oa ob th ig sp_ ki tg of_ kp sr_23 rs), (aI g to_ 25 tl), (aM g wa 6 (he_ro 6 r2))]) (P := (he_pl g L ln M)) hD [1, 0, 2] rfl rfl rfl
                exact ih49 (j + 1) (bt ||| (1 <<< ((nI j) &&& 31))) sr_23 (by omega) (by omega) _ _ _ hP hD hS (lv_sub hl [2, 3, 4, 5, 6, 1, 0] rfl)
      have hP := he_Psub (X := [(aI g to_ 25 tl), (oX11 m0 0 ta sz_ pl at_ fa fw cs fd rfm rt_ to_ rw_ wa ct rk rb cn br sm as_ go sh_ ir oa ob th ig sp_ ki tg of_ kp sr_15 rs), (aM g wa 6 (he_ro 6 r2))]) (X2 := [(oX11 m0 0 ta sz_ pl at_ fa fw cs fd rfm rt_ to_ rw_ wa ct rk rb cn br sm as_ go sh_ ir oa ob th ig sp_ ki tg of_ kp sr_15 rs), (aI g to_ 25 tl), (aM g wa 6 (he_ro 6 r2))]) (P := (he_pl g L ln M)) hP [1, 0, 2] rfl
      have hD := he_Dsub (X := [(aI g to_ 25 tl), (oX11 m0 0 ta sz_ pl at_ fa fw cs fd rfm rt_ to_ rw_ wa ct rk rb cn br sm as_ go sh_ ir oa ob th ig sp_ ki tg of_ kp sr_15 rs), (aM g wa 6 (he_ro 6 r2))]) (X2 := [(oX11 m0 0 ta sz_ pl at_ fa fw cs fd rfm rt_ to_ rw_ wa ct rk rb cn br sm as_ go sh_ ir oa ob th ig sp_ ki tg of_ kp sr_15 rs), (aI g to_ 25 tl), (aM g wa 6 (he_ro 6 r2))]) (P := (he_pl g L ln M)) hD [1, 0, 2] rfl rfl rfl
      exact loop49 ((3 - 0) + 1) 0 0 sr_15 (Nat.lt_succ_self _) (Nat.zero_le _) _ _ _ hP hD hS (lv_sub hl [4, 5, 6, 3, 2, 1, 0] rfl)
    · exact absurd (by decide) c_8
  · exact absurd c_4 (by decide)
set_option maxHeartbeats 4000000 in
set_option maxRecDepth 100000 in
theorem h_X11_status (l : Launch) (g : he_G) (m0 : Nat) (fd : Nat) (rfm : Nat) (rt_ : Nat) (to_ : Nat) (rw_ : Nat) (wa : Nat) (rk : Nat) (rb : Nat) (cn : Nat) (br : Nat) (sm : Nat) (as_ : Nat) (go : Nat) (sh_ : Nat) (ki : Nat) (tg : Nat) (of_ : Nat) (kp : Nat) (rs : Nat) (ta : Int32) (sz_ : Int32) (pl : Int32) (at_ : Int32) (fa : Int32) (fw : Int32) (cs : Int32) (ct : Int32) (ir : Int32) (oa : Int32) (ob : Int32) (th : Int32) (ig : Int32) (sp_ : Int32) (sf : Int32) (tw : Int32) (rc : Nat → Int32) (x : Int32) (hok0 : ¬ he_within x 0 2 = 0) : he_I l yX11_status wsX11_status 1 22 0 0 g [.ref m0, .int x] [(oX11 m0 tw ta sz_ pl at_ fa fw cs fd rfm rt_ to_ rw_ wa ct rk rb cn br sm as_ go sh_ ir oa ob th ig sp_ ki tg of_ kp sf rs), (aI g rfm 3 rc)] (fun (r : Int32) (u : Unit) => r = rc x.toNatClampNeg) (fun (u : Unit) => [(oX11 m0 0 ta sz_ pl at_ fa fw cs fd rfm rt_ to_ rw_ wa ct rk rb cn br sm as_ go sh_ ir oa ob th ig sp_ ki tg of_ kp sf rs), (aI g rfm 3 rc)]) := by
  refine he_begin (l := l) (g := g) (y := yX11_status) (wl := wsX11_status) (fr := 1) (lo := 22) (mc := 0) (ms := 0) (av := [.ref m0, .int x]) (ws := [(oX11 m0 tw ta sz_ pl at_ fa fw cs fd rfm rt_ to_ rw_ wa ct rk rb cn br sm as_ go sh_ ir oa ob th ig sp_ ki tg of_ kp sf rs), (aI g rfm 3 rc)]) (cc := cX11_status) (maxL := 2) (ret := (some .int)) (fun A => va_Qi (fun (r : Int32) (u : Unit) => r = rc x.toNatClampNeg) (fun u t => he_post g A ((fun (u : Unit) => [(oX11 m0 0 ta sz_ pl at_ fa fw cs fd rfm rt_ to_ rw_ wa ct rk rb cn br sm as_ go sh_ ir oa ob th ig sp_ ki tg of_ kp sf rs), (aI g rfm 3 rc)]) u) t) A) (by decide) rfl (Nat.le_of_ble_eq_true rfl) ?_
  intro p e s m args below meth c A ls H locs Q hQ hB
  obtain ⟨hx, hb, hr, hml, hown, hts, hlk, hin, hP, hK, hD, hS, hA, hE, hl⟩ := hB
  have hl : lv_has ls 2 [(0, .ref m0), (1, .int x)] := hl
  have f85 := hts (.fieldLink RX11 85 "HiredEnemyModel" "thrown" "I") (iwoX11_status (k := 0) rfl)
  have inX11 : ∀ w ∈ wsX110, w ∈ wsX11_status := innX11_status_X11
  have f17 := hts (.fieldLink RX11 17 "HiredEnemyModel" "refused" "[I") (iwoX11_status (k := 1) rfl)
  refine lv_aload_n hx hb dX11_status_0 rfl (lv_at hl 0 rfl) ?_
  refine lv_iconst (v := 0) hx hb dX11_status_1 (by decide) ?_
  refine va_put (v := .int 0) (ty := .int) (T := TX11) (N := 35) hx hb hts inX11 tyX11 tyX11_ok nmX11 hown hK hP hD hS 0 rfl rfl 0 (by decide) f85 (fun _ h9 => h9) rfl (by decide +kernel) rfl rfl (Nat.le_of_ble_eq_true rfl) dX11_status_2 (fun H locs hP hD hS => ?_)
  have hP : va_P g.1 vwCl [(oX11 m0 0 ta sz_ pl at_ fa fw cs fd rfm rt_ to_ rw_ wa ct rk rb cn br sm as_ go sh_ ir oa ob th ig sp_ ki tg of_ kp sf rs), (aI g rfm 3 rc)] H := hP
  have hD : va_D A [(oX11 m0 0 ta sz_ pl at_ fa fw cs fd rfm rt_ to_ rw_ wa ct rk rb cn br sm as_ go sh_ ir oa ob th ig sp_ ki tg of_ kp sf rs), (aI g rfm 3 rc)] := hD
  refine lv_iload_n hx hb dX11_status_5 rfl (lv_at hl 1 rfl) ?_
  refine lv_iconst (v := 0) hx hb dX11_status_6 (by decide) ?_
  refine lv_iconst (v := 2) hx hb dX11_status_7 (by decide) ?_
  refine he_ci (wc := []) (wr := [(oX11 m0 0 ta sz_ pl at_ fa fw cs fd rfm rt_ to_ rw_ wa ct rk rb cn br sm as_ go sh_ ir oa ob th ig sp_ ki tg of_ kp sf rs), (aI g rfm 3 rc)]) (va_runS (As := [.int x, .int 0, .int 2]) (rest := []) ⟨hx, hb, hml, hown, hts⟩ (c_X11_in l g x 0 2 H.size) (va_cwS 3 hts gX11_status_X11_in rfl rfl rfl (by decide +kernel) ⟨Nat.le_of_ble_eq_true rfl, Nat.le_of_ble_eq_true rfl⟩) (he_preS (wc := []) hK hP hD hS hA hE [] rfl rfl) rfl rfl hl.1 rfl (lv_room (Nat.le_of_ble_eq_true rfl)) dX11_status_8 ⟨(Nat.le_of_ble_eq_true rfl), (Nat.le_of_ble_eq_true rfl)⟩) hP hD hS hA [] [0, 1] rfl rfl rfl (by decide) (fun r_1 u_2 H locs h_3 hP hD hS => ?_)
  subst h_3
  have hP : va_P g.1 vwCl [(oX11 m0 0 ta sz_ pl at_ fa fw cs fd rfm rt_ to_ rw_ wa ct rk rb cn br sm as_ go sh_ ir oa ob th ig sp_ ki tg of_ kp sf rs), (aI g rfm 3 rc)] H := hP
  have hD : va_D A [(oX11 m0 0 ta sz_ pl at_ fa fw cs fd rfm rt_ to_ rw_ wa ct rk rb cn br sm as_ go sh_ ir oa ob th ig sp_ ki tg of_ kp sf rs), (aI g rfm 3 rc)] := hD
  refine he_top (1) (he_within_1 hok0) ?_
  refine lv_if_eq (tgt := 23) hx hb dX11_status_11 (by decide) (fun c_4 => ?_) (fun c_4 => ?_)
  · exact absurd c_4 (by decide)
  · refine lv_aload_n hx hb dX11_status_14 rfl (lv_at hl 0 rfl) ?_
    refine va_get (v := .ref rfm) (T := TX11) (N := 35) hx hb hts inX11 hown hK hP 0 rfl rfl 9 (by decide) f17 (fun _ h9 => h9) rfl dX11_status_15 ?_
    refine lv_iload_n hx hb dX11_status_18 rfl (lv_at hl 1 rfl) ?_
    refine he_iald hx hb hK hP 1 rfl (x.toNatClampNeg) (he_within_nat (B := 2) rfl (by decide) hok0).1 (Nat.lt_of_le_of_lt (he_within_nat (B := 2) rfl (by decide) hok0).2 (by decide)) (by first | decide | assumption) (rc x.toNatClampNeg) rfl dX11_status_19 ?_
    refine lv_goto (tgt := 24) hx hb dX11_status_20 (by decide) ?_
    exact he_ri hQ hx hb hr hlk hP hD hS dX11_status_24 (Nat.le_of_ble_eq_true rfl) (Nat.le_of_ble_eq_true rfl) (()) (rfl) (rfl)
set_option maxHeartbeats 4000000 in
set_option maxRecDepth 100000 in
theorem h_X11_statusN (l : Launch) (g : he_G) (m0 : Nat) (fd : Nat) (rfm : Nat) (rt_ : Nat) (to_ : Nat) (rw_ : Nat) (wa : Nat) (rk : Nat) (rb : Nat) (cn : Nat) (br : Nat) (sm : Nat) (as_ : Nat) (go : Nat) (sh_ : Nat) (ki : Nat) (tg : Nat) (of_ : Nat) (kp : Nat) (rs : Nat) (ta : Int32) (sz_ : Int32) (pl : Int32) (at_ : Int32) (fa : Int32) (fw : Int32) (cs : Int32) (ct : Int32) (ir : Int32) (oa : Int32) (ob : Int32) (th : Int32) (ig : Int32) (sp_ : Int32) (sf : Int32) (tw : Int32) (x : Int32) (hno : he_within x 0 2 = 0) : he_I l yX11_status wsX11_status 1 22 0 0 g [.ref m0, .int x] [(oX11 m0 tw ta sz_ pl at_ fa fw cs fd rfm rt_ to_ rw_ wa ct rk rb cn br sm as_ go sh_ ir oa ob th ig sp_ ki tg of_ kp sf rs)] (fun (r : Int32) (u : Unit) => r = (-1)) (fun (u : Unit) => [(oX11 m0 0 ta sz_ pl at_ fa fw cs fd rfm rt_ to_ rw_ wa ct rk rb cn br sm as_ go sh_ ir oa ob th ig sp_ ki tg of_ kp sf rs)]) := by
  refine he_begin (l := l) (g := g) (y := yX11_status) (wl := wsX11_status) (fr := 1) (lo := 22) (mc := 0) (ms := 0) (av := [.ref m0, .int x]) (ws := [(oX11 m0 tw ta sz_ pl at_ fa fw cs fd rfm rt_ to_ rw_ wa ct rk rb cn br sm as_ go sh_ ir oa ob th ig sp_ ki tg of_ kp sf rs)]) (cc := cX11_status) (maxL := 2) (ret := (some .int)) (fun A => va_Qi (fun (r : Int32) (u : Unit) => r = (-1)) (fun u t => he_post g A ((fun (u : Unit) => [(oX11 m0 0 ta sz_ pl at_ fa fw cs fd rfm rt_ to_ rw_ wa ct rk rb cn br sm as_ go sh_ ir oa ob th ig sp_ ki tg of_ kp sf rs)]) u) t) A) (by decide) rfl (Nat.le_of_ble_eq_true rfl) ?_
  intro p e s m args below meth c A ls H locs Q hQ hB
  obtain ⟨hx, hb, hr, hml, hown, hts, hlk, hin, hP, hK, hD, hS, hA, hE, hl⟩ := hB
  have hl : lv_has ls 2 [(0, .ref m0), (1, .int x)] := hl
  have f85 := hts (.fieldLink RX11 85 "HiredEnemyModel" "thrown" "I") (iwoX11_status (k := 0) rfl)
  have inX11 : ∀ w ∈ wsX110, w ∈ wsX11_status := innX11_status_X11
  refine lv_aload_n hx hb dX11_status_0 rfl (lv_at hl 0 rfl) ?_
  refine lv_iconst (v := 0) hx hb dX11_status_1 (by decide) ?_
  refine va_put (v := .int 0) (ty := .int) (T := TX11) (N := 35) hx hb hts inX11 tyX11 tyX11_ok nmX11 hown hK hP hD hS 0 rfl rfl 0 (by decide) f85 (fun _ h9 => h9) rfl (by decide +kernel) rfl rfl (Nat.le_of_ble_eq_true rfl) dX11_status_2 (fun H locs hP hD hS => ?_)
  have hP : va_P g.1 vwCl [(oX11 m0 0 ta sz_ pl at_ fa fw cs fd rfm rt_ to_ rw_ wa ct rk rb cn br sm as_ go sh_ ir oa ob th ig sp_ ki tg of_ kp sf rs)] H := hP
  have hD : va_D A [(oX11 m0 0 ta sz_ pl at_ fa fw cs fd rfm rt_ to_ rw_ wa ct rk rb cn br sm as_ go sh_ ir oa ob th ig sp_ ki tg of_ kp sf rs)] := hD
  refine lv_iload_n hx hb dX11_status_5 rfl (lv_at hl 1 rfl) ?_
  refine lv_iconst (v := 0) hx hb dX11_status_6 (by decide) ?_
  refine lv_iconst (v := 2) hx hb dX11_status_7 (by decide) ?_
  refine he_ci (wc := []) (wr := [(oX11 m0 0 ta sz_ pl at_ fa fw cs fd rfm rt_ to_ rw_ wa ct rk rb cn br sm as_ go sh_ ir oa ob th ig sp_ ki tg of_ kp sf rs)]) (va_runS (As := [.int x, .int 0, .int 2]) (rest := []) ⟨hx, hb, hml, hown, hts⟩ (c_X11_in l g x 0 2 H.size) (va_cwS 3 hts gX11_status_X11_in rfl rfl rfl (by decide +kernel) ⟨Nat.le_of_ble_eq_true rfl, Nat.le_of_ble_eq_true rfl⟩) (he_preS (wc := []) hK hP hD hS hA hE [] rfl rfl) rfl rfl hl.1 rfl (lv_room (Nat.le_of_ble_eq_true rfl)) dX11_status_8 ⟨(Nat.le_of_ble_eq_true rfl), (Nat.le_of_ble_eq_true rfl)⟩) hP hD hS hA [] [0] rfl rfl rfl (by decide) (fun r_1 u_2 H locs h_3 hP hD hS => ?_)
  subst h_3
  have hP : va_P g.1 vwCl [(oX11 m0 0 ta sz_ pl at_ fa fw cs fd rfm rt_ to_ rw_ wa ct rk rb cn br sm as_ go sh_ ir oa ob th ig sp_ ki tg of_ kp sf rs)] H := hP
  have hD : va_D A [(oX11 m0 0 ta sz_ pl at_ fa fw cs fd rfm rt_ to_ rw_ wa ct rk rb cn br sm as_ go sh_ ir oa ob th ig sp_ ki tg of_ kp sf rs)] := hD
  refine he_top (0) hno ?_
  refine lv_if_eq (tgt := 23) hx hb dX11_status_11 (by decide) (fun c_4 => ?_) (fun c_4 => ?_)
  · refine lv_iconst (v := (-1)) hx hb dX11_status_23 (by decide) ?_
    exact he_ri hQ hx hb hr hlk hP hD hS dX11_status_24 (Nat.le_of_ble_eq_true rfl) (Nat.le_of_ble_eq_true rfl) (()) (rfl) (rfl)
  · exact absurd (by decide) c_4
set_option maxHeartbeats 4000000 in
set_option maxRecDepth 100000 in
theorem h_X11_count0 (l : Launch) (g : he_G) (m0 : Nat) (fd : Nat) (rfm : Nat) (rt_ : Nat) (to_ : Nat) (rw_ : Nat) (wa : Nat) (rk : Nat) (rb : Nat) (cn : Nat) (br : Nat) (sm : Nat) (as_ : Nat) (go : Nat) (sh_ : Nat) (ki : Nat) (tg : Nat) (of_ : Nat) (kp : Nat) (rs : Nat) (ta : Int32) (sz_ : Int32) (pl : Int32) (at_ : Int32) (fa : Int32) (fw : Int32) (cs : Int32) (ct : Int32) (ir : Int32) (oa : Int32) (ob : Int32) (th : Int32) (ig : Int32) (sp_ : Int32) (sf : Int32) (tw : Int32)  : he_I l yX11_count wsX11_count 0 0 0 0 g [.ref m0, .int 0] [(oX11 m0 tw ta sz_ pl at_ fa fw cs fd rfm rt_ to_ rw_ wa ct rk rb cn br sm as_ go sh_ ir oa ob th ig sp_ ki tg of_ kp sf rs)] (fun (r : Int32) (u : Unit) => r = ig) (fun (u : Unit) => [(oX11 m0 0 ta sz_ pl at_ fa fw cs fd rfm rt_ to_ rw_ wa ct rk rb cn br sm as_ go sh_ ir oa ob th ig sp_ ki tg of_ kp sf rs)]) := by
  refine he_begin (l := l) (g := g) (y := yX11_count) (wl := wsX11_count) (fr := 0) (lo := 0) (mc := 0) (ms := 0) (av := [.ref m0, .int 0]) (ws := [(oX11 m0 tw ta sz_ pl at_ fa fw cs fd rfm rt_ to_ rw_ wa ct rk rb cn br sm as_ go sh_ ir oa ob th ig sp_ ki tg of_ kp sf rs)]) (cc := cX11_count) (maxL := 2) (ret := (some .int)) (fun A => va_Qi (fun (r : Int32) (u : Unit) => r = ig) (fun u t => he_post g A ((fun (u : Unit) => [(oX11 m0 0 ta sz_ pl at_ fa fw cs fd rfm rt_ to_ rw_ wa ct rk rb cn br sm as_ go sh_ ir oa ob th ig sp_ ki tg of_ kp sf rs)]) u) t) A) (by decide) rfl (Nat.le_of_ble_eq_true rfl) ?_
  intro p e s m args below meth c A ls H locs Q hQ hB
  obtain ⟨hx, hb, hr, hml, hown, hts, hlk, hin, hP, hK, hD, hS, hA, hE, hl⟩ := hB
  have hl : lv_has ls 2 [(0, .ref m0), (1, .int 0)] := hl
  have f85 := hts (.fieldLink RX11 85 "HiredEnemyModel" "thrown" "I") (iwoX11_count (k := 0) rfl)
  have inX11 : ∀ w ∈ wsX110, w ∈ wsX11_count := innX11_count_X11
  have f168 := hts (.fieldLink RX11 168 "HiredEnemyModel" "images" "I") (iwoX11_count (k := 1) rfl)
  refine lv_aload_n hx hb dX11_count_0 rfl (lv_at hl 0 rfl) ?_
  refine lv_iconst (v := 0) hx hb dX11_count_1 (by decide) ?_
  refine va_put (v := .int 0) (ty := .int) (T := TX11) (N := 35) hx hb hts inX11 tyX11 tyX11_ok nmX11 hown hK hP hD hS 0 rfl rfl 0 (by decide) f85 (fun _ h9 => h9) rfl (by decide +kernel) rfl rfl (Nat.le_of_ble_eq_true rfl) dX11_count_2 (fun H locs hP hD hS => ?_)
  have hP : va_P g.1 vwCl [(oX11 m0 0 ta sz_ pl at_ fa fw cs fd rfm rt_ to_ rw_ wa ct rk rb cn br sm as_ go sh_ ir oa ob th ig sp_ ki tg of_ kp sf rs)] H := hP
  have hD : va_D A [(oX11 m0 0 ta sz_ pl at_ fa fw cs fd rfm rt_ to_ rw_ wa ct rk rb cn br sm as_ go sh_ ir oa ob th ig sp_ ki tg of_ kp sf rs)] := hD
  refine lv_iload_n hx hb dX11_count_5 rfl (lv_at hl 1 rfl) ?_
  refine lv_if_ne (tgt := 16) hx hb dX11_count_6 (by decide) (fun c_1 => ?_) (fun c_1 => ?_)
  · exact absurd (by decide) c_1
  · refine lv_aload_n hx hb dX11_count_9 rfl (lv_at hl 0 rfl) ?_
    refine va_get (v := .int ig) (T := TX11) (N := 35) hx hb hts inX11 hown hK hP 0 rfl rfl 27 (by decide) f168 (fun _ h9 => h9) rfl dX11_count_10 ?_
    refine lv_goto (tgt := 41) hx hb dX11_count_13 (by decide) ?_
    exact he_ri hQ hx hb hr hlk hP hD hS dX11_count_41 (Nat.le_of_ble_eq_true rfl) (Nat.le_of_ble_eq_true rfl) (()) (rfl) (rfl)
set_option maxHeartbeats 4000000 in
set_option maxRecDepth 100000 in
theorem h_X11_count1 (l : Launch) (g : he_G) (m0 : Nat) (fd : Nat) (rfm : Nat) (rt_ : Nat) (to_ : Nat) (rw_ : Nat) (wa : Nat) (rk : Nat) (rb : Nat) (cn : Nat) (br : Nat) (sm : Nat) (as_ : Nat) (go : Nat) (sh_ : Nat) (ki : Nat) (tg : Nat) (of_ : Nat) (kp : Nat) (rs : Nat) (ta : Int32) (sz_ : Int32) (pl : Int32) (at_ : Int32) (fa : Int32) (fw : Int32) (cs : Int32) (ct : Int32) (ir : Int32) (oa : Int32) (ob : Int32) (th : Int32) (ig : Int32) (sp_ : Int32) (sf : Int32) (tw : Int32)  : he_I l yX11_count wsX11_count 0 0 0 0 g [.ref m0, .int 1] [(oX11 m0 tw ta sz_ pl at_ fa fw cs fd rfm rt_ to_ rw_ wa ct rk rb cn br sm as_ go sh_ ir oa ob th ig sp_ ki tg of_ kp sf rs)] (fun (r : Int32) (u : Unit) => r = ta) (fun (u : Unit) => [(oX11 m0 0 ta sz_ pl at_ fa fw cs fd rfm rt_ to_ rw_ wa ct rk rb cn br sm as_ go sh_ ir oa ob th ig sp_ ki tg of_ kp sf rs)]) := by
  refine he_begin (l := l) (g := g) (y := yX11_count) (wl := wsX11_count) (fr := 0) (lo := 0) (mc := 0) (ms := 0) (av := [.ref m0, .int 1]) (ws := [(oX11 m0 tw ta sz_ pl at_ fa fw cs fd rfm rt_ to_ rw_ wa ct rk rb cn br sm as_ go sh_ ir oa ob th ig sp_ ki tg of_ kp sf rs)]) (cc := cX11_count) (maxL := 2) (ret := (some .int)) (fun A => va_Qi (fun (r : Int32) (u : Unit) => r = ta) (fun u t => he_post g A ((fun (u : Unit) => [(oX11 m0 0 ta sz_ pl at_ fa fw cs fd rfm rt_ to_ rw_ wa ct rk rb cn br sm as_ go sh_ ir oa ob th ig sp_ ki tg of_ kp sf rs)]) u) t) A) (by decide) rfl (Nat.le_of_ble_eq_true rfl) ?_
  intro p e s m args below meth c A ls H locs Q hQ hB
  obtain ⟨hx, hb, hr, hml, hown, hts, hlk, hin, hP, hK, hD, hS, hA, hE, hl⟩ := hB
  have hl : lv_has ls 2 [(0, .ref m0), (1, .int 1)] := hl
  have f85 := hts (.fieldLink RX11 85 "HiredEnemyModel" "thrown" "I") (iwoX11_count (k := 0) rfl)
  have inX11 : ∀ w ∈ wsX110, w ∈ wsX11_count := innX11_count_X11
  have f88 := hts (.fieldLink RX11 88 "HiredEnemyModel" "tape" "I") (iwoX11_count (k := 2) rfl)
  refine lv_aload_n hx hb dX11_count_0 rfl (lv_at hl 0 rfl) ?_
  refine lv_iconst (v := 0) hx hb dX11_count_1 (by decide) ?_
  refine va_put (v := .int 0) (ty := .int) (T := TX11) (N := 35) hx hb hts inX11 tyX11 tyX11_ok nmX11 hown hK hP hD hS 0 rfl rfl 0 (by decide) f85 (fun _ h9 => h9) rfl (by decide +kernel) rfl rfl (Nat.le_of_ble_eq_true rfl) dX11_count_2 (fun H locs hP hD hS => ?_)
  have hP : va_P g.1 vwCl [(oX11 m0 0 ta sz_ pl at_ fa fw cs fd rfm rt_ to_ rw_ wa ct rk rb cn br sm as_ go sh_ ir oa ob th ig sp_ ki tg of_ kp sf rs)] H := hP
  have hD : va_D A [(oX11 m0 0 ta sz_ pl at_ fa fw cs fd rfm rt_ to_ rw_ wa ct rk rb cn br sm as_ go sh_ ir oa ob th ig sp_ ki tg of_ kp sf rs)] := hD
  refine lv_iload_n hx hb dX11_count_5 rfl (lv_at hl 1 rfl) ?_
  refine lv_if_ne (tgt := 16) hx hb dX11_count_6 (by decide) (fun c_1 => ?_) (fun c_1 => ?_)
  · refine lv_iload_n hx hb dX11_count_16 rfl (lv_at hl 1 rfl) ?_
    refine lv_iconst (v := 1) hx hb dX11_count_17 (by decide) ?_
    refine lv_icmp_ne (tgt := 28) hx hb dX11_count_18 (by decide) (fun c_2 => ?_) (fun c_2 => ?_)
    · exact absurd (by decide) c_2
    · refine lv_aload_n hx hb dX11_count_21 rfl (lv_at hl 0 rfl) ?_
      refine va_get (v := .int ta) (T := TX11) (N := 35) hx hb hts inX11 hown hK hP 0 rfl rfl 1 (by decide) f88 (fun _ h9 => h9) rfl dX11_count_22 ?_
      refine lv_goto (tgt := 41) hx hb dX11_count_25 (by decide) ?_
      exact he_ri hQ hx hb hr hlk hP hD hS dX11_count_41 (Nat.le_of_ble_eq_true rfl) (Nat.le_of_ble_eq_true rfl) (()) (rfl) (rfl)
  · exact absurd c_1 (by decide)
