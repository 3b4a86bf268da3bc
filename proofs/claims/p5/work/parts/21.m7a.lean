theorem upd3 {f : Nat → Int32} : True := trivial
/-- the offered contract as it is laid -/
theorem off_2 {M : Nat → Nat → Int32} {a : Nat} {f0 : Nat → Int32} {x r k : Int32} : (upd (upd (upd (upd (upd (upd f0 0 x) 1 x) 2 r) 3 k) 4 0) 5 1000) 2 = r ∧ (upd (upd (upd (upd (upd (upd f0 0 x) 1 x) 2 r) 3 k) 4 0) 5 1000) 3 = k ∧ (upd (upd (upd (upd (upd (upd f0 0 x) 1 x) 2 r) 3 k) 4 0) 5 1000) 5 = 1000 := ⟨rfl, rfl, rfl⟩
theorem inF_25 {ci it q5 : Nat} {f g : Nat → Int32} (h : a25 f g) (hF : inF ci it q5 f) : inF ci it q5 g := by
  unfold inF
  rw [h 10 (by decide), h 11 (by decide)]
  exact hF
/-- a pair of numbers 1 .. 16 -/
def p16 (f : Nat → Int32) : Prop := (∃ a : Nat, 1 ≤ a ∧ a ≤ 16 ∧ f 0 = nI a) ∧ ∃ a : Nat, 1 ≤ a ∧ a ≤ 16 ∧ f 1 = nI a
theorem w16 {x : Int32} (h : ¬ he_within x 1 16 = 0) : ∃ a : Nat, 1 ≤ a ∧ a ≤ 16 ∧ x = nI a := by
  obtain ⟨a, e, h1, h2⟩ := wi_nat (A := 1) (B := 16) rfl rfl (by decide) (by decide) h
  exact ⟨a, h1, h2, e⟩
def kOk (r7 : Nat → Nat) (M : Nat → Nat → Int32) : Prop := ∀ i, i < 4 → p16 (M (r7 i))
def tOk (r8 : Nat → Nat) (M : Nat → Nat → Int32) (n : Nat) : Prop := ∀ i, i < n → p16 (M (r8 i))
theorem p16_up {f : Nat → Int32} {x y : Int32} (hx : ∃ a : Nat, 1 ≤ a ∧ a ≤ 16 ∧ x = nI a) (hy : ∃ a : Nat, 1 ≤ a ∧ a ≤ 16 ∧ y = nI a) : p16 (upd (upd f 0 x) 1 y) := ⟨by rw [upd_n (by decide), upd_s]; exact hx, by rw [upd_s]; exact hy⟩
theorem up2 {M : Nat → Nat → Int32} {a : Nat} {x y : Int32} : va_up (va_up M a (upd (M a) 0 x)) a (upd (va_up M a (upd (M a) 0 x) a) 1 y) = va_up M a (upd (upd (M a) 0 x) 1 y) := by
  funext b
  unfold va_up
  by_cases h : b = a
  · simp [h]
  · simp [h]
set_option maxHeartbeats 4000000 in
set_option maxRecDepth 100000 in
theorem h_X11_nearest (l : Launch) (g : he_G) (m0 : Nat) (fd : Nat) (rfm : Nat) (rt_ : Nat) (to_ : Nat) (rw_ : Nat) (wa : Nat) (rk : Nat) (rb : Nat) (cn : Nat) (br : Nat) (sm : Nat) (as_ : Nat) (go : Nat) (sh_ : Nat) (ki : Nat) (tg : Nat) (of_ : Nat) (kp : Nat) (rs : Nat) (ta : Int32) (sz_ : Int32) (pl : Int32) (at_ : Int32) (fa : Int32) (fw : Int32) (cs : Int32) (ct : Int32) (ir : Int32) (oa : Int32) (ob : Int32) (th : Int32) (ig : Int32) (sp_ : Int32) (sf : Int32) (tw : Int32) (tl : Nat → Int32) (x : Int32) (y : Int32) (hok0 : ¬ he_within x 0 9999 = 0) (hok1 : ¬ he_within y 0 99 = 0) : he_I l yX11_nearest wsX11_nearest 1 23 0 0 g [.ref m0, .int x, .int y] [(oX11 m0 tw ta sz_ pl at_ fa fw cs fd rfm rt_ to_ rw_ wa ct rk rb cn br sm as_ go sh_ ir oa ob th ig sp_ ki tg of_ kp sf rs), (aI g to_ 25 tl)] (fun (r : Int32) (u : Unit) => True) (fun (u : Unit) => [(oX11 m0 0 ta sz_ pl at_ fa fw cs fd rfm rt_ to_ rw_ wa ct rk rb cn br sm as_ go sh_ ir oa ob th ig sp_ ki tg of_ kp sf rs), (aI g to_ 25 tl)]) := by
  refine he_begin (l := l) (g := g) (y := yX11_nearest) (wl := wsX11_nearest) (fr := 1) (lo := 23) (mc := 0) (ms := 0) (av := [.ref m0, .int x, .int y]) (ws := [(oX11 m0 tw ta sz_ pl at_ fa fw cs fd rfm rt_ to_ rw_ wa ct rk rb cn br sm as_ go sh_ ir oa ob th ig sp_ ki tg of_ kp sf rs), (aI g to_ 25 tl)]) (cc := cX11_nearest) (maxL := 4) (ret := (some .int)) (fun A => va_Qi (fun (r : Int32) (u : Unit) => True) (fun u t => he_post g A ((fun (u : Unit) => [(oX11 m0 0 ta sz_ pl at_ fa fw cs fd rfm rt_ to_ rw_ wa ct rk rb cn br sm as_ go sh_ ir oa ob th ig sp_ ki tg of_ kp sf rs), (aI g to_ 25 tl)]) u) t) A) (by decide) rfl (Nat.le_of_ble_eq_true rfl) ?_
  intro p e s m args below meth c A ls H locs Q hQ hB
  obtain ⟨hx, hb, hr, hml, hown, hts, hlk, hin, hP, hK, hD, hS, hA, hE, hl⟩ := hB
  have hl : lv_has ls 4 [(0, .ref m0), (1, .int x), (2, .int y)] := hl
  have f85 := hts (.fieldLink RX11 85 "HiredEnemyModel" "thrown" "I") (iwoX11_nearest (k := 0) rfl)
  have inX11 : ∀ w ∈ wsX110, w ∈ wsX11_nearest := innX11_nearest_X11
  refine lv_aload_n hx hb dX11_nearest_0 rfl (lv_at hl 0 rfl) ?_
  refine lv_iconst (v := 0) hx hb dX11_nearest_1 (by decide) ?_
  refine va_put (v := .int 0) (ty := .int) (T := TX11) (N := 35) hx hb hts inX11 tyX11 tyX11_ok nmX11 hown hK hP hD hS 0 rfl rfl 0 (by decide) f85 (fun _ h9 => h9) rfl (by decide +kernel) rfl rfl (Nat.le_of_ble_eq_true rfl) dX11_nearest_2 (fun H locs hP hD hS => ?_)
  have hP : va_P g.1 vwCl [(oX11 m0 0 ta sz_ pl at_ fa fw cs fd rfm rt_ to_ rw_ wa ct rk rb cn br sm as_ go sh_ ir oa ob th ig sp_ ki tg of_ kp sf rs), (aI g to_ 25 tl)] H := hP
  have hD : va_D A [(oX11 m0 0 ta sz_ pl at_ fa fw cs fd rfm rt_ to_ rw_ wa ct rk rb cn br sm as_ go sh_ ir oa ob th ig sp_ ki tg of_ kp sf rs), (aI g to_ 25 tl)] := hD
  refine lv_aload_n hx hb dX11_nearest_5 rfl (lv_at hl 0 rfl) ?_
  refine lv_iload_n hx hb dX11_nearest_6 rfl (lv_at hl 1 rfl) ?_
  refine lv_iconst (v := 0) hx hb dX11_nearest_7 (by decide) ?_
  refine lv_sipush (v := 9999) hx hb dX11_nearest_8 (by decide) ?_
  refine he_ci (wc := []) (wr := [(oX11 m0 0 ta sz_ pl at_ fa fw cs fd rfm rt_ to_ rw_ wa ct rk rb cn br sm as_ go sh_ ir oa ob th ig sp_ ki tg of_ kp sf rs), (aI g to_ 25 tl)]) (va_runS (As := [.int x, .int 0, .int 9999]) (rest := [.ref m0]) ⟨hx, hb, hml, hown, hts⟩ (c_X11_in l g x 0 9999 H.size) (va_cwS 3 hts gX11_nearest_X11_in rfl rfl rfl (by decide +kernel) ⟨Nat.le_of_ble_eq_true rfl, Nat.le_of_ble_eq_true rfl⟩) (he_preS (wc := []) hK hP hD hS hA hE [] rfl rfl) rfl rfl hl.1 rfl (lv_room (Nat.le_of_ble_eq_true rfl)) dX11_nearest_11 ⟨(Nat.le_of_ble_eq_true rfl), (Nat.le_of_ble_eq_true rfl)⟩) hP hD hS hA [] [0, 1] rfl rfl rfl (by decide) (fun r_1 u_2 H locs h_3 hP hD hS => ?_)
  subst h_3
  have hP : va_P g.1 vwCl [(oX11 m0 0 ta sz_ pl at_ fa fw cs fd rfm rt_ to_ rw_ wa ct rk rb cn br sm as_ go sh_ ir oa ob th ig sp_ ki tg of_ kp sf rs), (aI g to_ 25 tl)] H := hP
  have hD : va_D A [(oX11 m0 0 ta sz_ pl at_ fa fw cs fd rfm rt_ to_ rw_ wa ct rk rb cn br sm as_ go sh_ ir oa ob th ig sp_ ki tg of_ kp sf rs), (aI g to_ 25 tl)] := hD
  refine he_top (1) (he_within_1 hok0) ?_
  refine lv_if_eq (tgt := 27) hx hb dX11_nearest_14 (by decide) (fun c_4 => ?_) (fun c_4 => ?_)
  · exact absurd c_4 (by decide)
  · refine lv_iload_n hx hb dX11_nearest_17 rfl (lv_at hl 2 rfl) ?_
    refine lv_iconst (v := 0) hx hb dX11_nearest_18 (by decide) ?_
    refine lv_bipush (v := 99) hx hb dX11_nearest_19 (by decide) ?_
    refine he_ci (wc := []) (wr := [(oX11 m0 0 ta sz_ pl at_ fa fw cs fd rfm rt_ to_ rw_ wa ct rk rb cn br sm as_ go sh_ ir oa ob th ig sp_ ki tg of_ kp sf rs), (aI g to_ 25 tl)]) (va_runS (As := [.int y, .int 0, .int 99]) (rest := [.ref m0]) ⟨hx, hb, hml, hown, hts⟩ (c_X11_in l g y 0 99 H.size) (va_cwS 3 hts gX11_nearest_X11_in rfl rfl rfl (by decide +kernel) ⟨Nat.le_of_ble_eq_true rfl, Nat.le_of_ble_eq_true rfl⟩) (he_preS (wc := []) hK hP hD hS hA hE [] rfl rfl) rfl rfl hl.1 rfl (lv_room (Nat.le_of_ble_eq_true rfl)) dX11_nearest_21 ⟨(Nat.le_of_ble_eq_true rfl), (Nat.le_of_ble_eq_true rfl)⟩) hP hD hS hA [] [0, 1] rfl rfl rfl (by decide) (fun r_5 u_6 H locs h_7 hP hD hS => ?_)
    subst h_7
    have hP : va_P g.1 vwCl [(oX11 m0 0 ta sz_ pl at_ fa fw cs fd rfm rt_ to_ rw_ wa ct rk rb cn br sm as_ go sh_ ir oa ob th ig sp_ ki tg of_ kp sf rs), (aI g to_ 25 tl)] H := hP
    have hD : va_D A [(oX11 m0 0 ta sz_ pl at_ fa fw cs fd rfm rt_ to_ rw_ wa ct rk rb cn br sm as_ go sh_ ir oa ob th ig sp_ ki tg of_ kp sf rs), (aI g to_ 25 tl)] := hD
    refine he_top (1) (he_within_1 hok1) ?_
    refine lv_if_ne (tgt := 31) hx hb dX11_nearest_24 (by decide) (fun c_8 => ?_) (fun c_8 => ?_)
    · refine lv_iconst (v := 0) hx hb dX11_nearest_31 (by decide) ?_
      refine lv_iconst (v := 1) hx hb dX11_nearest_32 (by decide) ?_
      refine lv_iconst (v := 2) hx hb dX11_nearest_33 (by decide) ?_
      refine he_ci (wc := [(oX11 m0 0 ta sz_ pl at_ fa fw cs fd rfm rt_ to_ rw_ wa ct rk rb cn br sm as_ go sh_ ir oa ob th ig sp_ ki tg of_ kp sf rs)]) (wr := [(aI g to_ 25 tl)]) (va_runV (As := [.int 0, .int 1, .int 2]) (rest := []) ⟨hx, hb, hml, hown, hts⟩ (c_X11_bad0 l g m0 fd rfm rt_ to_ rw_ wa rk rb cn br sm as_ go sh_ ki tg of_ kp rs ta sz_ pl at_ fa fw cs ct ir oa ob th ig sp_ sf 1 2 H.size) (cwV 3 hts gX11_nearest_X11_bad rfl rfl rfl (by decide +kernel) ⟨Nat.le_of_ble_eq_true rfl, Nat.le_of_ble_eq_true rfl⟩) (he_preV (wc := [(oX11 m0 0 ta sz_ pl at_ fa fw cs fd rfm rt_ to_ rw_ wa ct rk rb cn br sm as_ go sh_ ir oa ob th ig sp_ ki tg of_ kp sf rs)]) hK hP hD hS hA hE [0] rfl rfl 0 rfl rfl) rfl rfl hl.1 rfl (lv_room (Nat.le_of_ble_eq_true rfl)) dX11_nearest_34 ⟨(Nat.le_of_ble_eq_true rfl), (Nat.le_of_ble_eq_true rfl)⟩) hP hD hS hA [0] [1] rfl rfl rfl (by decide) (fun r_9 u_10 H locs h_11 hP hD hS => ?_)
      subst h_11
      have hP : va_P g.1 vwCl [(aI g to_ 25 tl), (oX11 m0 0 ta sz_ pl at_ fa fw cs fd rfm rt_ to_ rw_ wa ct rk rb cn br sm as_ go sh_ ir oa ob th ig sp_ ki tg of_ kp sf rs)] H := hP
      have hD : va_D A [(aI g to_ 25 tl), (oX11 m0 0 ta sz_ pl at_ fa fw cs fd rfm rt_ to_ rw_ wa ct rk rb cn br sm as_ go sh_ ir oa ob th ig sp_ ki tg of_ kp sf rs)] := hD
      refine lv_if_eq (tgt := 42) hx hb dX11_nearest_37 (by decide) (fun c_12 => ?_) (fun c_12 => ?_)
      · refine lv_iconst (v := 0) hx hb dX11_nearest_42 (by decide) ?_
        refine lv_istore_n (lv' := [(3, .int 0), (0, .ref m0), (1, .int x), (2, .int y)]) hx hb dX11_nearest_43 rfl hl (by decide) rfl (fun ls hl => ?_)
        have loop44 : ∀ (n9 : Nat) (j : Nat), 10 - j < n9 → (j ≤ 10) → ∀ (H : Heap) (locs : List Loc) (ls : Array Slot), va_P g.1 vwCl [(oX11 m0 0 ta sz_ pl at_ fa fw cs fd rfm rt_ to_ rw_ wa ct rk rb cn br sm as_ go sh_ ir oa ob th ig sp_ ki tg of_ kp sf rs), (aI g to_ 25 tl)] H → va_D A [(oX11 m0 0 ta sz_ pl at_ fa fw cs fd rfm rt_ to_ rw_ wa ct rk rb cn br sm as_ go sh_ ir oa ob th ig sp_ ki tg of_ kp sf rs), (aI g to_ 25 tl)] → va_S A s.heap H locs → lv_has ls 4 [(0, .ref m0), (1, .int x), (2, .int y), (3, .int (nI j))] → W p l e (he_room 1 23 0 0) s m args below meth c H locs 0 0 Q (F0 m 44 ls []) := by
          intro n9
          induction n9 with
          | zero => intro j hm9; exact absurd hm9 (Nat.not_lt_zero _)
          | succ n9 ih44 =>
            intro j hm9 hj H locs ls hP hD hS hl
            refine lv_iload_n hx hb dX11_nearest_44 rfl (lv_at hl 3 rfl) ?_
            refine lv_bipush (v := 10) hx hb dX11_nearest_45 (by decide) ?_
            refine lv_icmp_ge (tgt := 68) hx hb dX11_nearest_47 (by decide) (fun c_13 => ?_) (fun c_13 => ?_)
            · have k_14 : 10 ≤ j := (he_cle (a := 10) (b := j) (by decide) rfl (by omega) (by omega)).mp c_13
              refine lv_iconst (v := (-1)) hx hb dX11_nearest_68 (by decide) ?_
              exact he_ri hQ hx hb hr hlk hP hD hS dX11_nearest_69 (Nat.le_of_ble_eq_true rfl) (Nat.le_of_ble_eq_true rfl) (()) (rfl) (trivial)
            · have k_15 : ¬ (10 ≤ j) := fun h9 => c_13 ((he_cle (a := 10) (b := j) (by decide) rfl (by omega) (by omega)).mpr h9)
              refine lv_aload_n hx hb dX11_nearest_50 rfl (lv_at hl 0 rfl) ?_
              refine lv_iload_n hx hb dX11_nearest_51 rfl (lv_at hl 3 rfl) ?_
              refine lv_iload_n hx hb dX11_nearest_52 rfl (lv_at hl 2 rfl) ?_
              refine he_ci (wc := [(oX11 m0 0 ta sz_ pl at_ fa fw cs fd rfm rt_ to_ rw_ wa ct rk rb cn br sm as_ go sh_ ir oa ob th ig sp_ ki tg of_ kp sf rs), (aI g to_ 25 tl)]) (wr := []) (va_runV (As := [.int (nI j), .int y]) (rest := []) ⟨hx, hb, hml, hown, hts⟩ (c_X11_wantsFor l g m0 fd rfm rt_ to_ rw_ wa rk rb cn br sm as_ go sh_ ki tg of_ kp rs ta sz_ pl at_ fa fw cs ct ir oa ob th ig sp_ sf 0 tl (nI j) y H.size) (cwV 2 hts gX11_nearest_X11_wantsFor rfl rfl rfl (by decide +kernel) ⟨Nat.le_of_ble_eq_true rfl, Nat.le_of_ble_eq_true rfl⟩) (he_preV (wc := [(oX11 m0 0 ta sz_ pl at_ fa fw cs fd rfm rt_ to_ rw_ wa ct rk rb cn br sm as_ go sh_ ir oa ob th ig sp_ ki tg of_ kp sf rs), (aI g to_ 25 tl)]) hK hP hD hS hA hE [0, 1] rfl rfl 0 rfl rfl) rfl rfl hl.1 rfl (lv_room (Nat.le_of_ble_eq_true rfl)) dX11_nearest_53 ⟨(Nat.le_of_ble_eq_true rfl), (Nat.le_of_ble_eq_true rfl)⟩) hP hD hS hA [0, 1] [] rfl rfl rfl (by decide) (fun r_16 u_17 H locs h_18 hP hD hS => ?_)
              subst h_18
              have hP : va_P g.1 vwCl [(oX11 m0 0 ta sz_ pl at_ fa fw cs fd rfm rt_ to_ rw_ wa ct rk rb cn br sm as_ go sh_ ir oa ob th ig sp_ ki tg of_ kp sf rs), (aI g to_ 25 tl)] H := hP
              have hD : va_D A [(oX11 m0 0 ta sz_ pl at_ fa fw cs fd rfm rt_ to_ rw_ wa ct rk rb cn br sm as_ go sh_ ir oa ob th ig sp_ ki tg of_ kp sf rs), (aI g to_ 25 tl)] := hD
              refine lv_iload_n hx hb dX11_nearest_56 rfl (lv_at hl 1 rfl) ?_
              refine lv_icmp_gt (tgt := 62) hx hb dX11_nearest_57 (by decide) (fun c_19 => ?_) (fun c_19 => ?_)
              · refine lv_iinc (v := nI (j + 1)) (lv' := [(3, .int (nI (j + 1))), (0, .ref m0), (1, .int x), (2, .int y)]) hx hb dX11_nearest_62 hl (k := 3) rfl (nI_1 j) (by decide) rfl (fun ls hl => ?_)
                refine lv_goto (tgt := 44) hx hb dX11_nearest_65 (by decide) ?_
                exact ih44 (j + 1) (by omega) (by omega) _ _ _ hP hD hS (lv_sub hl [1, 2, 3, 0] rfl)
              · refine lv_iload_n hx hb dX11_nearest_60 rfl (lv_at hl 3 rfl) ?_
                exact he_ri hQ hx hb hr hlk hP hD hS dX11_nearest_61 (Nat.le_of_ble_eq_true rfl) (Nat.le_of_ble_eq_true rfl) (()) (rfl) (trivial)
        exact loop44 ((10 - 0) + 1) 0 (Nat.lt_succ_self _) (Nat.zero_le _) _ _ _ (hP.sub [1, 0] rfl) (hD.sub [1, 0] (by decide) rfl) hS (lv_sub hl [1, 2, 3, 0] rfl)
      · exact absurd (by decide) c_12
    · exact absurd c_8 (by decide)
set_option maxHeartbeats 4000000 in
set_option maxRecDepth 100000 in
theorem h_X11_stop (l : Launch) (g : he_G) (m0 : Nat) (fd : Nat) (rfm : Nat) (rt_ : Nat) (to_ : Nat) (rw_ : Nat) (wa : Nat) (rk : Nat) (rb : Nat) (cn : Nat) (br : Nat) (sm : Nat) (as_ : Nat) (go : Nat) (sh_ : Nat) (ki : Nat) (tg : Nat) (of_ : Nat) (kp : Nat) (rs : Nat) (ta : Int32) (sz_ : Int32) (pl : Int32) (at_ : Int32) (fa : Int32) (fw : Int32) (cs : Int32) (ct : Int32) (ir : Int32) (oa : Int32) (ob : Int32) (th : Int32) (ig : Int32) (sp_ : Int32) (sf : Int32) (tw : Int32) (tl : Nat → Int32) (f : Nat → Int32) (g0 : Nat → Int32) (w : Nat) (L : List Nat) (ln : Nat → Nat) (M : Nat → Nat → Int32) (r2 : Nat → Nat) (r3 : Nat → Nat) (r4 : Nat → Nat) (r6 : Nat → Nat) (ci : Nat) (it : Nat) (q2 : Nat) (ck : Nat) (q5 : Nat) (mm : Nat) (n : Nat) (wh : Int32) (htl : tl 0 = nI w) (hw6 : w ≤ 6) (h24 : f 24 = nI mm) (hm120 : mm ≤ 120) (hir : ir = 0) (hci : ci < 7) (hbo : bOk (M (r4 ci))) (hq2 : M (r3 ci) 2 = nI q2) (hq9 : q2 ≤ 9) (hck : M (r3 ci) 3 = nI ck) (hc99 : ck ≤ 99) (hq5 : M (r3 ci) 5 = nI q5) (hq36 : q5 ≤ 36) (hF : inF ci it q5 f) (hn1 : 1 ≤ n) (hn2 : n ≤ 60) (F_r2 : ∀ i, i < 6 → r2 i ∈ L ∧ ln (r2 i) = 2 ∧ True) (F_r3 : ∀ i, i < 7 → r3 i ∈ L ∧ ln (r3 i) = 7 ∧ True) (F_r4 : ∀ i, i < 7 → r4 i ∈ L ∧ ln (r4 i) = 36 ∧ True) (F_r6 : ∀ i, i < 120 → r6 i ∈ L ∧ ln (r6 i) = 6 ∧ True) (D_r3_r6 : ∀ i j, i < 7 → j < 120 → r3 i ≠ r6 j) (D_r4_r6 : ∀ i j, i < 7 → j < 120 → r4 i ≠ r6 j) (hok0 : ¬ he_within wh 0 1 = 0) : he_I l yX11_stop wsX11_stop 6 136 0 0 g [.ref m0, .int (nI n), .int wh] ([(oX11 m0 tw ta sz_ pl at_ fa fw cs fd rfm rt_ to_ rw_ wa ct rk rb cn br sm as_ go sh_ ir oa ob th ig sp_ ki tg of_ kp sf rs), (aI g to_ 25 tl), (aI g sm 25 f), (aM g wa 6 (he_ro 6 r2)), (aM g sh_ 120 (he_ro 120 r6)), (aM g cn 7 (he_ro 7 r3)), (aM g br 7 (he_ro 7 r4)), (aI g as_ 25 g0)] ++ he_pl g L ln M) (fun (r : Int32) (u : (Nat → Int32) × (Nat → Int32) × (Nat → Nat → Int32)) => a25 f u.1 ∧ mEx r6 120 M u.2.2 ∧ u.2.2 = M) (fun (u : (Nat → Int32) × (Nat → Int32) × (Nat → Nat → Int32)) => [(oX11 m0 0 ta sz_ pl at_ fa fw cs fd rfm rt_ to_ rw_ wa ct rk rb cn br sm as_ go sh_ ir oa ob th ig sp_ ki tg of_ kp sf rs), (aI g to_ 25 tl), (aI g sm 25 u.1), (aM g wa 6 (he_ro 6 r2)), (aM g sh_ 120 (he_ro 120 r6)), (aM g cn 7 (he_ro 7 r3)), (aM g br 7 (he_ro 7 r4)), (aI g as_ 25 u.2.1)] ++ he_pl g L ln u.2.2) := by
  refine he_begin (l := l) (g := g) (y := yX11_stop) (wl := wsX11_stop) (fr := 6) (lo := 136) (mc := 0) (ms := 0) (av := [.ref m0, .int (nI n), .int wh]) (ws := ([(oX11 m0 tw ta sz_ pl at_ fa fw cs fd rfm rt_ to_ rw_ wa ct rk rb cn br sm as_ go sh_ ir oa ob th ig sp_ ki tg of_ kp sf rs), (aI g to_ 25 tl), (aI g sm 25 f), (aM g wa 6 (he_ro 6 r2)), (aM g sh_ 120 (he_ro 120 r6)), (aM g cn 7 (he_ro 7 r3)), (aM g br 7 (he_ro 7 r4)), (aI g as_ 25 g0)] ++ he_pl g L ln M)) (cc := cX11_stop) (maxL := 7) (ret := (some .int)) (fun A => va_Qi (fun (r : Int32) (u : (Nat → Int32) × (Nat → Int32) × (Nat → Nat → Int32)) => a25 f u.1 ∧ mEx r6 120 M u.2.2 ∧ u.2.2 = M) (fun u t => he_post g A ((fun (u : (Nat → Int32) × (Nat → Int32) × (Nat → Nat → Int32)) => [(oX11 m0 0 ta sz_ pl at_ fa fw cs fd rfm rt_ to_ rw_ wa ct rk rb cn br sm as_ go sh_ ir oa ob th ig sp_ ki tg of_ kp sf rs), (aI g to_ 25 tl), (aI g sm 25 u.1), (aM g wa 6 (he_ro 6 r2)), (aM g sh_ 120 (he_ro 120 r6)), (aM g cn 7 (he_ro 7 r3)), (aM g br 7 (he_ro 7 r4)), (aI g as_ 25 u.2.1)] ++ he_pl g L ln u.2.2) u) t) A) (by decide) rfl (Nat.le_of_ble_eq_true rfl) ?_
  intro p e s m args below meth c A ls H locs Q hQ hB
  obtain ⟨hx, hb, hr, hml, hown, hts, hlk, hin, hP, hK, hD, hS, hA, hE, hl⟩ := hB
  have hl : lv_has ls 7 [(0, .ref m0), (1, .int (nI n)), (2, .int wh)] := hl
  have f85 := hts (.fieldLink RX11 85 "HiredEnemyModel" "thrown" "I") (iwoX11_stop (k := 0) rfl)
  have inX11 : ∀ w ∈ wsX110, w ∈ wsX11_stop := innX11_stop_X11
  have f46 := hts (.fieldLink RX11 46 "HiredEnemyModel" "s" "[I") (iwoX11_stop (k := 1) rfl)
  refine lv_aload_n hx hb dX11_stop_0 rfl (lv_at hl 0 rfl) ?_
  refine lv_iconst (v := 0) hx hb dX11_stop_1 (by decide) ?_
  refine va_put (v := .int 0) (ty := .int) (T := TX11) (N := 35) hx hb hts inX11 tyX11 tyX11_ok nmX11 hown hK hP hD hS 0 rfl rfl 0 (by decide) f85 (fun _ h9 => h9) rfl (by decide +kernel) rfl rfl (Nat.le_of_ble_eq_true rfl) dX11_stop_2 (fun H locs hP hD hS => ?_)
  have hP : va_P g.1 vwCl ([(oX11 m0 0 ta sz_ pl at_ fa fw cs fd rfm rt_ to_ rw_ wa ct rk rb cn br sm as_ go sh_ ir oa ob th ig sp_ ki tg of_ kp sf rs), (aI g to_ 25 tl), (aI g sm 25 f), (aM g wa 6 (he_ro 6 r2)), (aM g sh_ 120 (he_ro 120 r6)), (aM g cn 7 (he_ro 7 r3)), (aM g br 7 (he_ro 7 r4)), (aI g as_ 25 g0)] ++ he_pl g L ln M) H := hP
  have hD : va_D A ([(oX11 m0 0 ta sz_ pl at_ fa fw cs fd rfm rt_ to_ rw_ wa ct rk rb cn br sm as_ go sh_ ir oa ob th ig sp_ ki tg of_ kp sf rs), (aI g to_ 25 tl), (aI g sm 25 f), (aM g wa 6 (he_ro 6 r2)), (aM g sh_ 120 (he_ro 120 r6)), (aM g cn 7 (he_ro 7 r3)), (aM g br 7 (he_ro 7 r4)), (aI g as_ 25 g0)] ++ he_pl g L ln M) := hD
  refine lv_aload_n hx hb dX11_stop_5 rfl (lv_at hl 0 rfl) ?_
  refine lv_iload_n hx hb dX11_stop_6 rfl (lv_at hl 1 rfl) ?_
  refine he_ci (wc := []) (wr := ([(oX11 m0 0 ta sz_ pl at_ fa fw cs fd rfm rt_ to_ rw_ wa ct rk rb cn br sm as_ go sh_ ir oa ob th ig sp_ ki tg of_ kp sf rs), (aI g to_ 25 tl), (aI g sm 25 f), (aM g wa 6 (he_ro 6 r2)), (aM g sh_ 120 (he_ro 120 r6)), (aM g cn 7 (he_ro 7 r3)), (aM g br 7 (he_ro 7 r4)), (aI g as_ 25 g0)] ++ (he_pl g L ln M))) (va_runS (As := [.int (nI n)]) (rest := [.ref m0]) ⟨hx, hb, hml, hown, hts⟩ (c_X11_areMonths l g (nI n) H.size) (va_cwS 1 hts gX11_stop_X11_areMonths rfl rfl rfl (by decide +kernel) ⟨Nat.le_of_ble_eq_true rfl, Nat.le_of_ble_eq_true rfl⟩) (he_preS (wc := []) hK hP hD hS hA hE [] rfl rfl) rfl rfl hl.1 rfl (lv_room (Nat.le_of_ble_eq_true rfl)) dX11_stop_7 ⟨(Nat.le_of_ble_eq_true rfl), (Nat.le_of_ble_eq_true rfl)⟩) hP hD hS hA [] (he_is [0, 1, 2, 3, 4, 5, 6, 7] [(oX11 m0 0 ta sz_ pl at_ fa fw cs fd rfm rt_ to_ rw_ wa ct rk rb cn br sm as_ go sh_ ir oa ob th ig sp_ ki tg of_ kp sf rs), (aI g to_ 25 tl), (aI g sm 25 f), (aM g wa 6 (he_ro 6 r2)), (aM g sh_ 120 (he_ro 120 r6)), (aM g cn 7 (he_ro 7 r3)), (aM g br 7 (he_ro 7 r4)), (aI g as_ 25 g0)] (he_pl g L ln M)) rfl (he_ixP rfl) (he_ndP rfl rfl) (he_disN (by decide) rfl) (fun r_1 u_2 H locs h_3 hP hD hS => ?_)
  have hP := va_P.swap hP
  have hD := va_D.swap hD
  subst h_3
  have hP : va_P g.1 vwCl ([(oX11 m0 0 ta sz_ pl at_ fa fw cs fd rfm rt_ to_ rw_ wa ct rk rb cn br sm as_ go sh_ ir oa ob th ig sp_ ki tg of_ kp sf rs), (aI g to_ 25 tl), (aI g sm 25 f), (aM g wa 6 (he_ro 6 r2)), (aM g sh_ 120 (he_ro 120 r6)), (aM g cn 7 (he_ro 7 r3)), (aM g br 7 (he_ro 7 r4)), (aI g as_ 25 g0)] ++ he_pl g L ln M) H := hP
  have hD : va_D A ([(oX11 m0 0 ta sz_ pl at_ fa fw cs fd rfm rt_ to_ rw_ wa ct rk rb cn br sm as_ go sh_ ir oa ob th ig sp_ ki tg of_ kp sf rs), (aI g to_ 25 tl), (aI g sm 25 f), (aM g wa 6 (he_ro 6 r2)), (aM g sh_ 120 (he_ro 120 r6)), (aM g cn 7 (he_ro 7 r3)), (aM g br 7 (he_ro 7 r4)), (aI g as_ 25 g0)] ++ he_pl g L ln M) := hD
  refine he_top (1) (he_within_in (a0 := 1) (B := 60) rfl rfl (by omega) (by omega) (by decide)) ?_
  refine lv_if_eq (tgt := 22) hx hb dX11_stop_10 (by decide) (fun c_4 => ?_) (fun c_4 => ?_)
  · exact absurd c_4 (by decide)
  · refine lv_iload_n hx hb dX11_stop_13 rfl (lv_at hl 2 rfl) ?_
    refine lv_iconst (v := 0) hx hb dX11_stop_14 (by decide) ?_
    refine lv_iconst (v := 1) hx hb dX11_stop_15 (by decide) ?_
    refine he_ci (wc := []) (wr := ([(oX11 m0 0 ta sz_ pl at_ fa fw cs fd rfm rt_ to_ rw_ wa ct rk rb cn br sm as_ go sh_ ir oa ob th ig sp_ ki tg of_ kp sf rs), (aI g to_ 25 tl), (aI g sm 25 f), (aM g wa 6 (he_ro 6 r2)), (aM g sh_ 120 (he_ro 120 r6)), (aM g cn 7 (he_ro 7 r3)), (aM g br 7 (he_ro 7 r4)), (aI g as_ 25 g0)] ++ (he_pl g L ln M))) (va_runS (As := [.int wh, .int 0, .int 1]) (rest := [.ref m0]) ⟨hx, hb, hml, hown, hts⟩ (c_X11_in l g wh 0 1 H.size) (va_cwS 3 hts gX11_stop_X11_in rfl rfl rfl (by decide +kernel) ⟨Nat.le_of_ble_eq_true rfl, Nat.le_of_ble_eq_true rfl⟩) (he_preS (wc := []) hK hP hD hS hA hE [] rfl rfl) rfl rfl hl.1 rfl (lv_room (Nat.le_of_ble_eq_true rfl)) dX11_stop_16 ⟨(Nat.le_of_ble_eq_true rfl), (Nat.le_of_ble_eq_true rfl)⟩) hP hD hS hA [] (he_is [0, 1, 2, 3, 4, 5, 6, 7] [(oX11 m0 0 ta sz_ pl at_ fa fw cs fd rfm rt_ to_ rw_ wa ct rk rb cn br sm as_ go sh_ ir oa ob th ig sp_ ki tg of_ kp sf rs), (aI g to_ 25 tl), (aI g sm 25 f), (aM g wa 6 (he_ro 6 r2)), (aM g sh_ 120 (he_ro 120 r6)), (aM g cn 7 (he_ro 7 r3)), (aM g br 7 (he_ro 7 r4)), (aI g as_ 25 g0)] (he_pl g L ln M)) rfl (he_ixP rfl) (he_ndP rfl rfl) (he_disN (by decide) rfl) (fun r_5 u_6 H locs h_7 hP hD hS => ?_)
    have hP := va_P.swap hP
    have hD := va_D.swap hD
    subst h_7
    have hP : va_P g.1 vwCl ([(oX11 m0 0 ta sz_ pl at_ fa fw cs fd rfm rt_ to_ rw_ wa ct rk rb cn br sm as_ go sh_ ir oa ob th ig sp_ ki tg of_ kp sf rs), (aI g to_ 25 tl), (aI g sm 25 f), (aM g wa 6 (he_ro 6 r2)), (aM g sh_ 120 (he_ro 120 r6)), (aM g cn 7 (he_ro 7 r3)), (aM g br 7 (he_ro 7 r4)), (aI g as_ 25 g0)] ++ he_pl g L ln M) H := hP
    have hD : va_D A ([(oX11 m0 0 ta sz_ pl at_ fa fw cs fd rfm rt_ to_ rw_ wa ct rk rb cn br sm as_ go sh_ ir oa ob th ig sp_ ki tg of_ kp sf rs), (aI g to_ 25 tl), (aI g sm 25 f), (aM g wa 6 (he_ro 6 r2)), (aM g sh_ 120 (he_ro 120 r6)), (aM g cn 7 (he_ro 7 r3)), (aM g br 7 (he_ro 7 r4)), (aI g as_ 25 g0)] ++ he_pl g L ln M) := hD
    refine he_top (1) (he_within_1 hok0) ?_
    refine lv_if_ne (tgt := 26) hx hb dX11_stop_19 (by decide) (fun c_8 => ?_) (fun c_8 => ?_)
    · refine lv_iconst (v := 0) hx hb dX11_stop_26 (by decide) ?_
      refine lv_iconst (v := 1) hx hb dX11_stop_27 (by decide) ?_
      refine lv_iconst (v := 2) hx hb dX11_stop_28 (by decide) ?_
      refine he_ci (wc := [(oX11 m0 0 ta sz_ pl at_ fa fw cs fd rfm rt_ to_ rw_ wa ct rk rb cn br sm as_ go sh_ ir oa ob th ig sp_ ki tg of_ kp sf rs)]) (wr := ([(aI g to_ 25 tl), (aI g sm 25 f), (aM g wa 6 (he_ro 6 r2)), (aM g sh_ 120 (he_ro 120 r6)), (aM g cn 7 (he_ro 7 r3)), (aM g br 7 (he_ro 7 r4)), (aI g as_ 25 g0)] ++ (he_pl g L ln M))) (va_runV (As := [.int 0, .int 1, .int 2]) (rest := []) ⟨hx, hb, hml, hown, hts⟩ (c_X11_bad0 l g m0 fd rfm rt_ to_ rw_ wa rk rb cn br sm as_ go sh_ ki tg of_ kp rs ta sz_ pl at_ fa fw cs ct ir oa ob th ig sp_ sf 1 2 H.size) (cwV 3 hts gX11_stop_X11_bad rfl rfl rfl (by decide +kernel) ⟨Nat.le_of_ble_eq_true rfl, Nat.le_of_ble_eq_true rfl⟩) (he_preV (wc := [(oX11 m0 0 ta sz_ pl at_ fa fw cs fd rfm rt_ to_ rw_ wa ct rk rb cn br sm as_ go sh_ ir oa ob th ig sp_ ki tg of_ kp sf rs)]) hK hP hD hS hA hE [0] rfl rfl 0 rfl rfl) rfl rfl hl.1 rfl (lv_room (Nat.le_of_ble_eq_true rfl)) dX11_stop_29 ⟨(Nat.le_of_ble_eq_true rfl), (Nat.le_of_ble_eq_true rfl)⟩) hP hD hS hA [0] (he_is [1, 2, 3, 4, 5, 6, 7] [(oX11 m0 0 ta sz_ pl at_ fa fw cs fd rfm rt_ to_ rw_ wa ct rk rb cn br sm as_ go sh_ ir oa ob th ig sp_ ki tg of_ kp sf rs), (aI g to_ 25 tl), (aI g sm 25 f), (aM g wa 6 (he_ro 6 r2)), (aM g sh_ 120 (he_ro 120 r6)), (aM g cn 7 (he_ro 7 r3)), (aM g br 7 (he_ro 7 r4)), (aI g as_ 25 g0)] (he_pl g L ln M)) rfl (he_ixP rfl) (he_ndP rfl rfl) (he_disN (by decide) rfl) (fun r_9 u_10 H locs h_11 hP hD hS => ?_)
      have hP := va_P.swap hP
      have hD := va_D.swap hD
      subst h_11
      have hP : va_P g.1 vwCl ([(aI g to_ 25 tl), (aI g sm 25 f), (aM g wa 6 (he_ro 6 r2)), (aM g sh_ 120 (he_ro 120 r6)), (aM g cn 7 (he_ro 7 r3)), (aM g br 7 (he_ro 7 r4)), (aI g as_ 25 g0), (oX11 m0 0 ta sz_ pl at_ fa fw cs fd rfm rt_ to_ rw_ wa ct rk rb cn br sm as_ go sh_ ir oa ob th ig sp_ ki tg of_ kp sf rs)] ++ he_pl g L ln M) H := hP
      have hD : va_D A ([(aI g to_ 25 tl), (aI g sm 25 f), (aM g wa 6 (he_ro 6 r2)), (aM g sh_ 120 (he_ro 120 r6)), (aM g cn 7 (he_ro 7 r3)), (aM g br 7 (he_ro 7 r4)), (aI g as_ 25 g0), (oX11 m0 0 ta sz_ pl at_ fa fw cs fd rfm rt_ to_ rw_ wa ct rk rb cn br sm as_ go sh_ ir oa ob th ig sp_ ki tg of_ kp sf rs)] ++ he_pl g L ln M) := hD
      refine lv_if_eq (tgt := 37) hx hb dX11_stop_32 (by decide) (fun c_12 => ?_) (fun c_12 => ?_)
      · refine lv_iconst (v := 0) hx hb dX11_stop_37 (by decide) ?_
        refine lv_istore_n (lv' := [(3, .int 0), (0, .ref m0), (1, .int (nI n)), (2, .int wh)]) hx hb dX11_stop_38 rfl hl (by decide) rfl (fun ls hl => ?_)
        refine lv_iconst (v := (-1)) hx hb dX11_stop_39 (by decide) ?_
        refine lv_istore (lv' := [(4, .int (-1)), (3, .int 0), (0, .ref m0), (1, .int (nI n)), (2, .int wh)]) hx hb dX11_stop_40 hl (by decide) rfl (fun ls hl => ?_)
        refine lv_iconst (v := 0) hx hb dX11_stop_42 (by decide) ?_
        refine lv_istore (lv' := [(5, .int 0), (4, .int (-1)), (3, .int 0), (0, .ref m0), (1, .int (nI n)), (2, .int wh)]) hx hb dX11_stop_43 hl (by decide) rfl (fun ls hl => ?_)
        have loop45 : ∀ (n9 : Nat) (j : Nat) (be : Int32) (ms : Int32) (F : Nat → Int32) (Gs : Nat → Int32) (Mj : Nat → Nat → Int32), n + 1 - j < n9 → (j ≤ n + 1) → (a25 f F) → (mEx r6 120 M Mj) → (Mj = M) → ∀ (H : Heap) (locs : List Loc) (ls : Array Slot), va_P g.1 vwCl ([(oX11 m0 0 ta sz_ pl at_ fa fw cs fd rfm rt_ to_ rw_ wa ct rk rb cn br sm as_ go sh_ ir oa ob th ig sp_ ki tg of_ kp sf rs), (aI g to_ 25 tl), (aI g sm 25 F), (aM g wa 6 (he_ro 6 r2)), (aM g sh_ 120 (he_ro 120 r6)), (aM g cn 7 (he_ro 7 r3)), (aM g br 7 (he_ro 7 r4)), (aI g as_ 25 Gs)] ++ he_pl g L ln Mj) H → va_D A ([(oX11 m0 0 ta sz_ pl at_ fa fw cs fd rfm rt_ to_ rw_ wa ct rk rb cn br sm as_ go sh_ ir oa ob th ig sp_ ki tg of_ kp sf rs), (aI g to_ 25 tl), (aI g sm 25 F), (aM g wa 6 (he_ro 6 r2)), (aM g sh_ 120 (he_ro 120 r6)), (aM g cn 7 (he_ro 7 r3)), (aM g br 7 (he_ro 7 r4)), (aI g as_ 25 Gs)] ++ he_pl g L ln Mj) → va_S A s.heap H locs → lv_has ls 7 [(0, .ref m0), (1, .int (nI n)), (2, .int wh), (3, .int be), (4, .int ms), (5, .int (nI j))] → W p l e (he_room 6 136 0 0) s m args below meth c H locs 0 0 Q (F0 m 45 ls []) := by
          intro n9
          induction n9 with
          | zero => intro j be ms F Gs Mj hm9; exact absurd hm9 (Nat.not_lt_zero _)
          | succ n9 ih45 =>
            intro j be ms F Gs Mj hm9 hj hF9 hmx hzz H locs ls hP hD hS hl
            refine lv_iload hx hb dX11_stop_45 (lv_at hl 5 rfl) ?_
            refine lv_iload_n hx hb dX11_stop_47 rfl (lv_at hl 1 rfl) ?_
            refine lv_icmp_gt (tgt := 109) hx hb dX11_stop_48 (by decide) (fun c_13 => ?_) (fun c_13 => ?_)
            · have k_14 : n < j := (he_clt (a := n) (b := j) rfl rfl (by omega) (by omega)).mp c_13
              refine lv_iload_n hx hb dX11_stop_109 rfl (lv_at hl 2 rfl) ?_
              refine lv_if_ne (tgt := 117) hx hb dX11_stop_110 (by decide) (fun c_15 => ?_) (fun c_15 => ?_)
              · refine lv_iload hx hb dX11_stop_117 (lv_at hl 4 rfl) ?_
                exact he_ri hQ hx hb hr hlk hP hD hS dX11_stop_119 (Nat.le_of_ble_eq_true rfl) (Nat.le_of_ble_eq_true rfl) ((F, Gs, Mj)) (rfl) (by (try dsimp only); exact ⟨hF9, hmx, hzz⟩)
              · refine lv_iload_n hx hb dX11_stop_113 rfl (lv_at hl 3 rfl) ?_
                refine lv_goto (tgt := 119) hx hb dX11_stop_114 (by decide) ?_
                exact he_ri hQ hx hb hr hlk hP hD hS dX11_stop_119 (Nat.le_of_ble_eq_true rfl) (Nat.le_of_ble_eq_true rfl) ((F, Gs, Mj)) (rfl) (by (try dsimp only); exact ⟨hF9, hmx, hzz⟩)
            · have k_16 : ¬ (n < j) := fun h9 => c_13 ((he_clt (a := n) (b := j) rfl rfl (by omega) (by omega)).mpr h9)
              refine lv_aload_n hx hb dX11_stop_51 rfl (lv_at hl 0 rfl) ?_
              refine he_cv (wc := [(oX11 m0 0 ta sz_ pl at_ fa fw cs fd rfm rt_ to_ rw_ wa ct rk rb cn br sm as_ go sh_ ir oa ob th ig sp_ ki tg of_ kp sf rs), (aI g sm 25 F), (aI g as_ 25 Gs)]) (wr := ([(aI g to_ 25 tl), (aM g wa 6 (he_ro 6 r2)), (aM g sh_ 120 (he_ro 120 r6)), (aM g cn 7 (he_ro 7 r3)), (aM g br 7 (he_ro 7 r4))] ++ (he_pl g L ln Mj))) (va_runV (As := []) (rest := []) ⟨hx, hb, hml, hown, hts⟩ (c_X11_puts l g m0 fd rfm rt_ to_ rw_ wa rk rb cn br sm as_ go sh_ ki tg of_ kp rs ta sz_ pl at_ fa fw cs ct ir oa ob th ig sp_ sf 0 F Gs H.size) (cwV 0 hts gX11_stop_X11_puts rfl rfl rfl (by decide +kernel) ⟨Nat.le_of_ble_eq_true rfl, Nat.le_of_ble_eq_true rfl⟩) (he_preV (wc := [(oX11 m0 0 ta sz_ pl at_ fa fw cs fd rfm rt_ to_ rw_ wa ct rk rb cn br sm as_ go sh_ ir oa ob th ig sp_ ki tg of_ kp sf rs), (aI g sm 25 F), (aI g as_ 25 Gs)]) hK hP hD hS hA hE [0, 2, 7] rfl rfl 0 rfl rfl) rfl rfl hl.1 rfl (lv_room (Nat.le_of_ble_eq_true rfl)) dX11_stop_52 ⟨(Nat.le_of_ble_eq_true rfl), (Nat.le_of_ble_eq_true rfl)⟩) hP hD hS hA [0, 2, 7] (he_is [1, 3, 4, 5, 6] [(oX11 m0 0 ta sz_ pl at_ fa fw cs fd rfm rt_ to_ rw_ wa ct rk rb cn br sm as_ go sh_ ir oa ob th ig sp_ ki tg of_ kp sf rs), (aI g to_ 25 tl), (aI g sm 25 F), (aM g wa 6 (he_ro 6 r2)), (aM g sh_ 120 (he_ro 120 r6)), (aM g cn 7 (he_ro 7 r3)), (aM g br 7 (he_ro 7 r4)), (aI g as_ 25 Gs)] (he_pl g L ln Mj)) rfl (he_ixP rfl) (he_ndP rfl rfl) (he_disN (by decide) rfl) (fun u_18 H locs h_19 hP hD hS => ?_)
              have hP := va_P.swap hP
              have hD := va_D.swap hD
              have hP : va_P g.1 vwCl ([(aI g to_ 25 tl), (aM g wa 6 (he_ro 6 r2)), (aM g sh_ 120 (he_ro 120 r6)), (aM g cn 7 (he_ro 7 r3)), (aM g br 7 (he_ro 7 r4)), (oX11 m0 0 ta sz_ pl at_ fa fw cs fd rfm rt_ to_ rw_ wa ct rk rb cn br sm as_ go sh_ ir oa ob th ig sp_ ki tg of_ kp sf rs), (aI g sm 25 F), (aI g as_ 25 (flF F Gs 25))] ++ he_pl g L ln Mj) H := hP
              have hD : va_D A ([(aI g to_ 25 tl), (aM g wa 6 (he_ro 6 r2)), (aM g sh_ 120 (he_ro 120 r6)), (aM g cn 7 (he_ro 7 r3)), (aM g br 7 (he_ro 7 r4)), (oX11 m0 0 ta sz_ pl at_ fa fw cs fd rfm rt_ to_ rw_ wa ct rk rb cn br sm as_ go sh_ ir oa ob th ig sp_ ki tg of_ kp sf rs), (aI g sm 25 F), (aI g as_ 25 (flF F Gs 25))] ++ he_pl g L ln Mj) := hD
              refine lv_aload_n hx hb dX11_stop_55 rfl (lv_at hl 0 rfl) ?_
              refine lv_iload hx hb dX11_stop_56 (lv_at hl 5 rfl) ?_
              refine he_cv (wc := ([(oX11 m0 0 ta sz_ pl at_ fa fw cs fd rfm rt_ to_ rw_ wa ct rk rb cn br sm as_ go sh_ ir oa ob th ig sp_ ki tg of_ kp sf rs), (aI g to_ 25 tl), (aI g sm 25 F), (aM g wa 6 (he_ro 6 r2)), (aM g sh_ 120 (he_ro 120 r6)), (aM g cn 7 (he_ro 7 r3)), (aM g br 7 (he_ro 7 r4))] ++ (he_pl g L ln Mj))) (wr := [(aI g as_ 25 (flF F Gs 25))]) (va_runV (As := [.int (nI j)]) (rest := []) ⟨hx, hb, hml, hown, hts⟩ (h_X11_goesOn l g m0 fd rfm rt_ to_ rw_ wa rk rb cn br sm as_ go sh_ ki tg of_ kp rs ta sz_ pl at_ fa fw cs ct ir oa ob th ig sp_ sf 0 tl F w L ln Mj r2 r3 r4 r6 ci it q2 ck q5 mm j (by first | assumption | decide | omega) (by first | assumption | decide | omega) (by first | assumption | decide | omega) (by rw [hmx _ (fun i hi => D_r4_r6 ci i hci hi)]; exact hbo) (by rw [hmx _ (fun i hi => D_r3_r6 ci i hci hi)]; exact hq2) (by first | assumption | decide | omega) (by rw [hmx _ (fun i hi => D_r3_r6 ci i hci hi)]; exact hck) (by first | assumption | decide | omega) (by rw [hmx _ (fun i hi => D_r3_r6 ci i hci hi)]; exact hq5) (by first | assumption | decide | omega) (inF_25 hF9 hF) (a25_24 hF9 h24) (by omega) (by first | assumption | decide | omega) (by first | assumption | decide | omega) (by first | assumption | decide | omega) (by first | assumption | decide | omega) (by first | assumption | decide | omega) (by first | assumption | decide | omega) (by first | assumption | decide | omega) H.size) (cwV 1 hts gX11_stop_X11_goesOn rfl rfl rfl (by decide +kernel) ⟨Nat.le_of_ble_eq_true rfl, Nat.le_of_ble_eq_true rfl⟩) (he_preV (wc := ([(oX11 m0 0 ta sz_ pl at_ fa fw cs fd rfm rt_ to_ rw_ wa ct rk rb cn br sm as_ go sh_ ir oa ob th ig sp_ ki tg of_ kp sf rs), (aI g to_ 25 tl), (aI g sm 25 F), (aM g wa 6 (he_ro 6 r2)), (aM g sh_ 120 (he_ro 120 r6)), (aM g cn 7 (he_ro 7 r3)), (aM g br 7 (he_ro 7 r4))] ++ (he_pl g L ln Mj))) hK hP hD hS hA hE (he_is [5, 0, 6, 1, 2, 3, 4] [(aI g to_ 25 tl), (aM g wa 6 (he_ro 6 r2)), (aM g sh_ 120 (he_ro 120 r6)), (aM g cn 7 (he_ro 7 r3)), (aM g br 7 (he_ro 7 r4)), (oX11 m0 0 ta sz_ pl at_ fa fw cs fd rfm rt_ to_ rw_ wa ct rk rb cn br sm as_ go sh_ ir oa ob th ig sp_ ki tg of_ kp sf rs), (aI g sm 25 F), (aI g as_ 25 (flF F Gs 25))] (he_pl g L ln Mj)) (he_ixP rfl) (he_ndP rfl rfl) 5 rfl rfl) rfl rfl hl.1 rfl (lv_room (Nat.le_of_ble_eq_true rfl)) dX11_stop_58 ⟨(Nat.le_of_ble_eq_true rfl), (Nat.le_of_ble_eq_true rfl)⟩) hP hD hS hA (he_is [5, 0, 6, 1, 2, 3, 4] [(aI g to_ 25 tl), (aM g wa 6 (he_ro 6 r2)), (aM g sh_ 120 (he_ro 120 r6)), (aM g cn 7 (he_ro 7 r3)), (aM g br 7 (he_ro 7 r4)), (oX11 m0 0 ta sz_ pl at_ fa fw cs fd rfm rt_ to_ rw_ wa ct rk rb cn br sm as_ go sh_ ir oa ob th ig sp_ ki tg of_ kp sf rs), (aI g sm 25 F), (aI g as_ 25 (flF F Gs 25))] (he_pl g L ln Mj)) [7] (he_ixP rfl) rfl rfl (he_disP (by decide) rfl) (fun u_21 H locs h_22 hP hD hS => ?_)
              obtain ⟨ui_23, uf_24, Mu_25⟩ := u_21
              try dsimp only at h_22
              obtain ⟨hf_26, hf_27, hf_28, hf_29⟩ := h_22
              have hP : va_P g.1 vwCl ([(aI g as_ 25 (flF F Gs 25)), (oX11 m0 0 ta sz_ pl at_ fa fw cs fd rfm rt_ to_ rw_ wa ct rk rb cn br sm as_ go sh_ ir oa ob th ig sp_ ki tg of_ kp sf rs), (aI g to_ 25 tl), (aI g sm 25 uf_24), (aM g wa 6 (he_ro 6 r2)), (aM g sh_ 120 (he_ro 120 r6)), (aM g cn 7 (he_ro 7 r3)), (aM g br 7 (he_ro 7 r4))] ++ he_pl g L ln Mu_25) H := hP
              have hD : va_D A ([(aI g as_ 25 (flF F Gs 25)), (oX11 m0 0 ta sz_ pl at_ fa fw cs fd rfm rt_ to_ rw_ wa ct rk rb cn br sm as_ go sh_ ir oa ob th ig sp_ ki tg of_ kp sf rs), (aI g to_ 25 tl), (aI g sm 25 uf_24), (aM g wa 6 (he_ro 6 r2)), (aM g sh_ 120 (he_ro 120 r6)), (aM g cn 7 (he_ro 7 r3)), (aM g br 7 (he_ro 7 r4))] ++ he_pl g L ln Mu_25) := hD
              have HG24 := hf_27
              refine lv_aload_n hx hb dX11_stop_61 rfl (lv_at hl 0 rfl) ?_
              refine lv_iconst (v := (-1)) hx hb dX11_stop_62 (by decide) ?_
              refine he_cv (wc := [(oX11 m0 0 ta sz_ pl at_ fa fw cs fd rfm rt_ to_ rw_ wa ct rk rb cn br sm as_ go sh_ ir oa ob th ig sp_ ki tg of_ kp sf rs), (aI g sm 25 uf_24)]) (wr := ([(aI g as_ 25 (flF F Gs 25)), (aI g to_ 25 tl), (aM g wa 6 (he_ro 6 r2)), (aM g sh_ 120 (he_ro 120 r6)), (aM g cn 7 (he_ro 7 r3)), (aM g br 7 (he_ro 7 r4))] ++ (he_pl g L ln Mu_25))) (va_runV (As := [.int (-1)]) (rest := []) ⟨hx, hb, hml, hown, hts⟩ (c_X11_signs l g m0 fd rfm rt_ to_ rw_ wa rk rb cn br sm as_ go sh_ ki tg of_ kp rs ta sz_ pl at_ fa fw cs ct ir oa ob th ig sp_ sf 0 uf_24 (-1) H.size) (cwV 1 hts gX11_stop_X11_signs rfl rfl rfl (by decide +kernel) ⟨Nat.le_of_ble_eq_true rfl, Nat.le_of_ble_eq_true rfl⟩) (he_preV (wc := [(oX11 m0 0 ta sz_ pl at_ fa fw cs fd rfm rt_ to_ rw_ wa ct rk rb cn br sm as_ go sh_ ir oa ob th ig sp_ ki tg of_ kp sf rs), (aI g sm 25 uf_24)]) hK hP hD hS hA hE [1, 3] rfl rfl 1 rfl rfl) rfl rfl hl.1 rfl (lv_room (Nat.le_of_ble_eq_true rfl)) dX11_stop_63 ⟨(Nat.le_of_ble_eq_true rfl), (Nat.le_of_ble_eq_true rfl)⟩) hP hD hS hA [1, 3] (he_is [0, 2, 4, 5, 6, 7] [(aI g as_ 25 (flF F Gs 25)), (oX11 m0 0 ta sz_ pl at_ fa fw cs fd rfm rt_ to_ rw_ wa ct rk rb cn br sm as_ go sh_ ir oa ob th ig sp_ ki tg of_ kp sf rs), (aI g to_ 25 tl), (aI g sm 25 uf_24), (aM g wa 6 (he_ro 6 r2)), (aM g sh_ 120 (he_ro 120 r6)), (aM g cn 7 (he_ro 7 r3)), (aM g br 7 (he_ro 7 r4))] (he_pl g L ln Mu_25)) rfl (he_ixP rfl) (he_ndP rfl rfl) (he_disN (by decide) rfl) (fun u_31 H locs h_32 hP hD hS => ?_)
              have hP := va_P.swap hP
              have hD := va_D.swap hD
              have hP : va_P g.1 vwCl ([(aI g as_ 25 (flF F Gs 25)), (aI g to_ 25 tl), (aM g wa 6 (he_ro 6 r2)), (aM g sh_ 120 (he_ro 120 r6)), (aM g cn 7 (he_ro 7 r3)), (aM g br 7 (he_ro 7 r4)), (oX11 m0 0 ta sz_ pl at_ fa fw cs fd rfm rt_ to_ rw_ wa ct rk rb cn br sm as_ go sh_ ir oa ob th ig sp_ ki tg of_ kp sf rs), (aI g sm 25 (sgF uf_24 (-1)))] ++ he_pl g L ln Mu_25) H := hP
              have hD : va_D A ([(aI g as_ 25 (flF F Gs 25)), (aI g to_ 25 tl), (aM g wa 6 (he_ro 6 r2)), (aM g sh_ 120 (he_ro 120 r6)), (aM g cn 7 (he_ro 7 r3)), (aM g br 7 (he_ro 7 r4)), (oX11 m0 0 ta sz_ pl at_ fa fw cs fd rfm rt_ to_ rw_ wa ct rk rb cn br sm as_ go sh_ ir oa ob th ig sp_ ki tg of_ kp sf rs), (aI g sm 25 (sgF uf_24 (-1)))] ++ he_pl g L ln Mu_25) := hD
              refine lv_aload_n hx hb dX11_stop_66 rfl (lv_at hl 0 rfl) ?_
              refine lv_iload_n hx hb dX11_stop_67 rfl (lv_at hl 1 rfl) ?_
              refine lv_iload hx hb dX11_stop_68 (lv_at hl 5 rfl) ?_
              refine lv_isub hx hb dX11_stop_70 ?_
              refine he_top (nI (n - j)) (pk_sub (by omega)) ?_
              refine he_cv (wc := ([(oX11 m0 0 ta sz_ pl at_ fa fw cs fd rfm rt_ to_ rw_ wa ct rk rb cn br sm as_ go sh_ ir oa ob th ig sp_ ki tg of_ kp sf rs), (aI g to_ 25 tl), (aI g sm 25 (sgF uf_24 (-1))), (aM g wa 6 (he_ro 6 r2))] ++ (he_pl g L ln Mu_25))) (wr := [(aI g as_ 25 (flF F Gs 25)), (aM g sh_ 120 (he_ro 120 r6)), (aM g cn 7 (he_ro 7 r3)), (aM g br 7 (he_ro 7 r4))]) (va_runV (As := [.int (nI (n - j))]) (rest := []) ⟨hx, hb, hml, hown, hts⟩ (h_X11_goesOnN l g m0 fd rfm rt_ to_ rw_ wa rk rb cn br sm as_ go sh_ ki tg of_ kp rs ta sz_ pl at_ fa fw cs ct ir oa ob th ig sp_ sf 0 tl (sgF uf_24 (-1)) w L ln Mu_25 r2 (mm + j) (n - j) (by first | assumption | decide | omega) (by first | assumption | decide | omega) (sgF_10 _ _) (by rw [sg_24]; exact HG24) (by omega) (by first | assumption | decide | omega) H.size) (cwV 1 hts gX11_stop_X11_goesOn rfl rfl rfl (by decide +kernel) ⟨Nat.le_of_ble_eq_true rfl, Nat.le_of_ble_eq_true rfl⟩) (he_preV (wc := ([(oX11 m0 0 ta sz_ pl at_ fa fw cs fd rfm rt_ to_ rw_ wa ct rk rb cn br sm as_ go sh_ ir oa ob th ig sp_ ki tg of_ kp sf rs), (aI g to_ 25 tl), (aI g sm 25 (sgF uf_24 (-1))), (aM g wa 6 (he_ro 6 r2))] ++ (he_pl g L ln Mu_25))) hK hP hD hS hA hE (he_is [6, 1, 7, 2] [(aI g as_ 25 (flF F Gs 25)), (aI g to_ 25 tl), (aM g wa 6 (he_ro 6 r2)), (aM g sh_ 120 (he_ro 120 r6)), (aM g cn 7 (he_ro 7 r3)), (aM g br 7 (he_ro 7 r4)), (oX11 m0 0 ta sz_ pl at_ fa fw cs fd rfm rt_ to_ rw_ wa ct rk rb cn br sm as_ go sh_ ir oa ob th ig sp_ ki tg of_ kp sf rs), (aI g sm 25 (sgF uf_24 (-1)))] (he_pl g L ln Mu_25)) (he_ixP rfl) (he_ndP rfl rfl) 6 rfl rfl) rfl rfl hl.1 rfl (lv_room (Nat.le_of_ble_eq_true rfl)) dX11_stop_71 ⟨(Nat.le_of_ble_eq_true rfl), (Nat.le_of_ble_eq_true rfl)⟩) hP hD hS hA (he_is [6, 1, 7, 2] [(aI g as_ 25 (flF F Gs 25)), (aI g to_ 25 tl), (aM g wa 6 (he_ro 6 r2)), (aM g sh_ 120 (he_ro 120 r6)), (aM g cn 7 (he_ro 7 r3)), (aM g br 7 (he_ro 7 r4)), (oX11 m0 0 ta sz_ pl at_ fa fw cs fd rfm rt_ to_ rw_ wa ct rk rb cn br sm as_ go sh_ ir oa ob th ig sp_ ki tg of_ kp sf rs), (aI g sm 25 (sgF uf_24 (-1)))] (he_pl g L ln Mu_25)) [0, 3, 4, 5] (he_ixP rfl) rfl rfl (he_disP (by decide) rfl) (fun u_34 H locs h_35 hP hD hS => ?_)
              obtain ⟨uf_36, rfl⟩ : ∃ z, z = u_34 := ⟨_, rfl⟩
              try dsimp only at h_35
              obtain ⟨hf_37, hf_38⟩ := h_35
              have hP : va_P g.1 vwCl ([(aI g as_ 25 (flF F Gs 25)), (aM g sh_ 120 (he_ro 120 r6)), (aM g cn 7 (he_ro 7 r3)), (aM g br 7 (he_ro 7 r4)), (oX11 m0 0 ta sz_ pl at_ fa fw cs fd rfm rt_ to_ rw_ wa ct rk rb cn br sm as_ go sh_ ir oa ob th ig sp_ ki tg of_ kp sf rs), (aI g to_ 25 tl), (aI g sm 25 uf_36), (aM g wa 6 (he_ro 6 r2))] ++ he_pl g L ln Mu_25) H := hP
              have hD : va_D A ([(aI g as_ 25 (flF F Gs 25)), (aM g sh_ 120 (he_ro 120 r6)), (aM g cn 7 (he_ro 7 r3)), (aM g br 7 (he_ro 7 r4)), (oX11 m0 0 ta sz_ pl at_ fa fw cs fd rfm rt_ to_ rw_ wa ct rk rb cn br sm as_ go sh_ ir oa ob th ig sp_ ki tg of_ kp sf rs), (aI g to_ 25 tl), (aI g sm 25 uf_36), (aM g wa 6 (he_ro 6 r2))] ++ he_pl g L ln Mu_25) := hD
              refine lv_aload_n hx hb dX11_stop_74 rfl (lv_at hl 0 rfl) ?_
              refine va_get (v := .ref sm) (T := TX11) (N := 35) hx hb hts inX11 hown hK hP 4 rfl rfl 19 (by decide) f46 (fun _ h9 => h9) rfl dX11_stop_75 ?_
              refine lv_iconst (v := 0) hx hb dX11_stop_78 (by decide) ?_
              refine he_iald hx hb hK hP 6 rfl (0) (by decide) (by decide) (by first | decide | assumption) (uf_36 0) rfl dX11_stop_79 ?_
              refine lv_istore (lv' := [(6, .int (uf_36 0)), (0, .ref m0), (1, .int (nI n)), (2, .int wh), (3, .int be), (4, .int ms), (5, .int (nI j))]) hx hb dX11_stop_80 hl (by decide) rfl (fun ls hl => ?_)
              refine lv_aload_n hx hb dX11_stop_82 rfl (lv_at hl 1 rfl) ?_
              refine he_cv (wc := [(oX11 m0 0 ta sz_ pl at_ fa fw cs fd rfm rt_ to_ rw_ wa ct rk rb cn br sm as_ go sh_ ir oa ob th ig sp_ ki tg of_ kp sf rs), (aI g sm 25 uf_36), (aI g as_ 25 (flF F Gs 25))]) (wr := ([(aM g sh_ 120 (he_ro 120 r6)), (aM g cn 7 (he_ro 7 r3)), (aM g br 7 (he_ro 7 r4)), (aI g to_ 25 tl), (aM g wa 6 (he_ro 6 r2))] ++ (he_pl g L ln Mu_25))) (va_runV (As := []) (rest := []) ⟨hx, hb, hml, hown, hts⟩ (c_X11_takes l g m0 fd rfm rt_ to_ rw_ wa rk rb cn br sm as_ go sh_ ki tg of_ kp rs ta sz_ pl at_ fa fw cs ct ir oa ob th ig sp_ sf 0 uf_36 (flF F Gs 25) H.size) (cwV 0 hts gX11_stop_X11_takes rfl rfl rfl (by decide +kernel) ⟨Nat.le_of_ble_eq_true rfl, Nat.le_of_ble_eq_true rfl⟩) (he_preV (wc := [(oX11 m0 0 ta sz_ pl at_ fa fw cs fd rfm rt_ to_ rw_ wa ct rk rb cn br sm as_ go sh_ ir oa ob th ig sp_ ki tg of_ kp sf rs), (aI g sm 25 uf_36), (aI g as_ 25 (flF F Gs 25))]) hK hP hD hS hA hE [4, 6, 0] rfl rfl 4 rfl rfl) rfl rfl hl.1 rfl (lv_room (Nat.le_of_ble_eq_true rfl)) dX11_stop_83 ⟨(Nat.le_of_ble_eq_true rfl), (Nat.le_of_ble_eq_true rfl)⟩) hP hD hS hA [4, 6, 0] (he_is [1, 2, 3, 5, 7] [(aI g as_ 25 (flF F Gs 25)), (aM g sh_ 120 (he_ro 120 r6)), (aM g cn 7 (he_ro 7 r3)), (aM g br 7 (he_ro 7 r4)), (oX11 m0 0 ta sz_ pl at_ fa fw cs fd rfm rt_ to_ rw_ wa ct rk rb cn br sm as_ go sh_ ir oa ob th ig sp_ ki tg of_ kp sf rs), (aI g to_ 25 tl), (aI g sm 25 uf_36), (aM g wa 6 (he_ro 6 r2))] (he_pl g L ln Mu_25)) rfl (he_ixP rfl) (he_ndP rfl rfl) (he_disN (by decide) rfl) (fun u_40 H locs h_41 hP hD hS => ?_)
              have hP := va_P.swap hP
              have hD := va_D.swap hD
              have hP : va_P g.1 vwCl ([(aM g sh_ 120 (he_ro 120 r6)), (aM g cn 7 (he_ro 7 r3)), (aM g br 7 (he_ro 7 r4)), (aI g to_ 25 tl), (aM g wa 6 (he_ro 6 r2)), (oX11 m0 0 ta sz_ pl at_ fa fw cs fd rfm rt_ to_ rw_ wa ct rk rb cn br sm as_ go sh_ ir oa ob th ig sp_ ki tg of_ kp sf rs), (aI g sm 25 (flF (flF F Gs 25) uf_36 25)), (aI g as_ 25 (flF F Gs 25))] ++ he_pl g L ln Mu_25) H := hP
              have hD : va_D A ([(aM g sh_ 120 (he_ro 120 r6)), (aM g cn 7 (he_ro 7 r3)), (aM g br 7 (he_ro 7 r4)), (aI g to_ 25 tl), (aM g wa 6 (he_ro 6 r2)), (oX11 m0 0 ta sz_ pl at_ fa fw cs fd rfm rt_ to_ rw_ wa ct rk rb cn br sm as_ go sh_ ir oa ob th ig sp_ ki tg of_ kp sf rs), (aI g sm 25 (flF (flF F Gs 25) uf_36 25)), (aI g as_ 25 (flF F Gs 25))] ++ he_pl g L ln Mu_25) := hD
              refine lv_iload hx hb dX11_stop_86 (lv_at hl 0 rfl) ?_
              refine lv_iload hx hb dX11_stop_88 (lv_at hl 5 rfl) ?_
              refine lv_icmp_gt (tgt := 96) hx hb dX11_stop_90 (by decide) (fun c_42 => ?_) (fun c_42 => ?_)
              · refine lv_iload hx hb dX11_stop_96 (lv_at hl 6 rfl) ?_
                refine lv_istore_n (lv' := [(3, .int (nI j)), (6, .int (uf_36 0)), (0, .ref m0), (1, .int (nI n)), (2, .int wh), (4, .int ms), (5, .int (nI j))]) hx hb dX11_stop_98 rfl hl (by decide) rfl (fun ls hl => ?_)
                refine lv_iload hx hb dX11_stop_99 (lv_at hl 1 rfl) ?_
                refine lv_istore (lv' := [(4, .int (uf_36 0)), (3, .int (nI j)), (6, .int (uf_36 0)), (0, .ref m0), (1, .int (nI n)), (2, .int wh), (5, .int (nI j))]) hx hb dX11_stop_101 hl (by decide) rfl (fun ls hl => ?_)
                refine lv_iinc (v := nI (j + 1)) (lv' := [(5, .int (nI (j + 1))), (4, .int (uf_36 0)), (3, .int (nI j)), (6, .int (uf_36 0)), (0, .ref m0), (1, .int (nI n)), (2, .int wh)]) hx hb dX11_stop_103 hl (k := 6) rfl (nI_1 j) (by decide) rfl (fun ls hl => ?_)
                refine lv_goto (tgt := 45) hx hb dX11_stop_106 (by decide) ?_
                have hP := he_Psub (X := [(aM g sh_ 120 (he_ro 120 r6)), (aM g cn 7 (he_ro 7 r3)), (aM g br 7 (he_ro 7 r4)), (aI g to_ 25 tl), (aM g wa 6 (he_ro 6 r2)), (oX11 m0 0 ta sz_ pl at_ fa fw cs fd rfm rt_ to_ rw_ wa ct rk rb cn br sm as_ go sh_ ir oa ob th ig sp_ ki tg of_ kp sf rs), (aI g sm 25 (flF (flF F Gs 25) uf_36 25)), (aI g as_ 25 (flF F Gs 25))]) (X2 := [(oX11 m0 0 ta sz_ pl at_ fa fw cs fd rfm rt_ to_ rw_ wa ct rk rb cn br sm as_ go sh_ ir oa ob th ig sp_ ki tg of_ kp sf rs), (aI g to_ 25 tl), (aI g sm 25 (flF (flF F Gs 25) uf_36 25)), (aM g wa 6 (he_ro 6 r2)), (aM g sh_ 120 (he_ro 120 r6)), (aM g cn 7 (he_ro 7 r3)), (aM g br 7 (he_ro 7 r4)), (aI g as_ 25 (flF F Gs 25))]) (P := (he_pl g L ln Mu_25)) hP [5, 3, 6, 4, 0, 1, 2, 7] rfl
                have hD := he_Dsub (X := [(aM g sh_ 120 (he_ro 120 r6)), (aM g cn 7 (he_ro 7 r3)), (aM g br 7 (he_ro 7 r4)), (aI g to_ 25 tl), (aM g wa 6 (he_ro 6 r2)), (oX11 m0 0 ta sz_ pl at_ fa fw cs fd rfm rt_ to_ rw_ wa ct rk rb cn br sm as_ go sh_ ir oa ob th ig sp_ ki tg of_ kp sf rs), (aI g sm 25 (flF (flF F Gs 25) uf_36 25)), (aI g as_ 25 (flF F Gs 25))]) (X2 := [(oX11 m0 0 ta sz_ pl at_ fa fw cs fd rfm rt_ to_ rw_ wa ct rk rb cn br sm as_ go sh_ ir oa ob th ig sp_ ki tg of_ kp sf rs), (aI g to_ 25 tl), (aI g sm 25 (flF (flF F Gs 25) uf_36 25)), (aM g wa 6 (he_ro 6 r2)), (aM g sh_ 120 (he_ro 120 r6)), (aM g cn 7 (he_ro 7 r3)), (aM g br 7 (he_ro 7 r4)), (aI g as_ 25 (flF F Gs 25))]) (P := (he_pl g L ln Mu_25)) hD [5, 3, 6, 4, 0, 1, 2, 7] rfl rfl rfl
                exact ih45 (j + 1) (nI j) (uf_36 0) (flF (flF F Gs 25) uf_36 25) (flF F Gs 25) Mu_25 (by omega) (by omega) (a25_t hF9 (fun k hk => tkF F _ _ k hk)) (mEx_tr hmx hf_28) (Eq.trans hf_29 hzz) _ _ _ hP hD hS (lv_sub hl [4, 5, 6, 2, 1, 0] rfl)
              · refine lv_goto (tgt := 103) hx hb dX11_stop_93 (by decide) ?_
                refine lv_iinc (v := nI (j + 1)) (lv' := [(5, .int (nI (j + 1))), (6, .int (uf_36 0)), (0, .ref m0), (1, .int (nI n)), (2, .int wh), (3, .int be), (4, .int ms)]) hx hb dX11_stop_103 hl (k := 6) rfl (nI_1 j) (by decide) rfl (fun ls hl => ?_)
                refine lv_goto (tgt := 45) hx hb dX11_stop_106 (by decide) ?_
                have hP := he_Psub (X := [(aM g sh_ 120 (he_ro 120 r6)), (aM g cn 7 (he_ro 7 r3)), (aM g br 7 (he_ro 7 r4)), (aI g to_ 25 tl), (aM g wa 6 (he_ro 6 r2)), (oX11 m0 0 ta sz_ pl at_ fa fw cs fd rfm rt_ to_ rw_ wa ct rk rb cn br sm as_ go sh_ ir oa ob th ig sp_ ki tg of_ kp sf rs), (aI g sm 25 (flF (flF F Gs 25) uf_36 25)), (aI g as_ 25 (flF F Gs 25))]) (X2 := [(oX11 m0 0 ta sz_ pl at_ fa fw cs fd rfm rt_ to_ rw_ wa ct rk rb cn br sm as_ go sh_ ir oa ob th ig sp_ ki tg of_ kp sf rs), (aI g to_ 25 tl), (aI g sm 25 (flF (flF F Gs 25) uf_36 25)), (aM g wa 6 (he_ro 6 r2)), (aM g sh_ 120 (he_ro 120 r6)), (aM g cn 7 (he_ro 7 r3)), (aM g br 7 (he_ro 7 r4)), (aI g as_ 25 (flF F Gs 25))]) (P := (he_pl g L ln Mu_25)) hP [5, 3, 6, 4, 0, 1, 2, 7] rfl
                have hD := he_Dsub (X := [(aM g sh_ 120 (he_ro 120 r6)), (aM g cn 7 (he_ro 7 r3)), (aM g br 7 (he_ro 7 r4)), (aI g to_ 25 tl), (aM g wa 6 (he_ro 6 r2)), (oX11 m0 0 ta sz_ pl at_ fa fw cs fd rfm rt_ to_ rw_ wa ct rk rb cn br sm as_ go sh_ ir oa ob th ig sp_ ki tg of_ kp sf rs), (aI g sm 25 (flF (flF F Gs 25) uf_36 25)), (aI g as_ 25 (flF F Gs 25))]) (X2 := [(oX11 m0 0 ta sz_ pl at_ fa fw cs fd rfm rt_ to_ rw_ wa ct rk rb cn br sm as_ go sh_ ir oa ob th ig sp_ ki tg of_ kp sf rs), (aI g to_ 25 tl), (aI g sm 25 (flF (flF F Gs 25) uf_36 25)), (aM g wa 6 (he_ro 6 r2)), (aM g sh_ 120 (he_ro 120 r6)), (aM g cn 7 (he_ro 7 r3)), (aM g br 7 (he_ro 7 r4)), (aI g as_ 25 (flF F Gs 25))]) (P := (he_pl g L ln Mu_25)) hD [5, 3, 6, 4, 0, 1, 2, 7] rfl rfl rfl
                exact ih45 (j + 1) be ms (flF (flF F Gs 25) uf_36 25) (flF F Gs 25) Mu_25 (by omega) (by omega) (a25_t hF9 (fun k hk => tkF F _ _ k hk)) (mEx_tr hmx hf_28) (Eq.trans hf_29 hzz) _ _ _ hP hD hS (lv_sub hl [2, 3, 4, 5, 6, 0] rfl)
        have hP := he_Psub (X := [(aI g to_ 25 tl), (aI g sm 25 f), (aM g wa 6 (he_ro 6 r2)), (aM g sh_ 120 (he_ro 120 r6)), (aM g cn 7 (he_ro 7 r3)), (aM g br 7 (he_ro 7 r4)), (aI g as_ 25 g0), (oX11 m0 0 ta sz_ pl at_ fa fw cs fd rfm rt_ to_ rw_ wa ct rk rb cn br sm as_ go sh_ ir oa ob th ig sp_ ki tg of_ kp sf rs)]) (X2 := [(oX11 m0 0 ta sz_ pl at_ fa fw cs fd rfm rt_ to_ rw_ wa ct rk rb cn br sm as_ go sh_ ir oa ob th ig sp_ ki tg of_ kp sf rs), (aI g to_ 25 tl), (aI g sm 25 f), (aM g wa 6 (he_ro 6 r2)), (aM g sh_ 120 (he_ro 120 r6)), (aM g cn 7 (he_ro 7 r3)), (aM g br 7 (he_ro 7 r4)), (aI g as_ 25 g0)]) (P := (he_pl g L ln M)) hP [7, 0, 1, 2, 3, 4, 5, 6] rfl
        have hD := he_Dsub (X := [(aI g to_ 25 tl), (aI g sm 25 f), (aM g wa 6 (he_ro 6 r2)), (aM g sh_ 120 (he_ro 120 r6)), (aM g cn 7 (he_ro 7 r3)), (aM g br 7 (he_ro 7 r4)), (aI g as_ 25 g0), (oX11 m0 0 ta sz_ pl at_ fa fw cs fd rfm rt_ to_ rw_ wa ct rk rb cn br sm as_ go sh_ ir oa ob th ig sp_ ki tg of_ kp sf rs)]) (X2 := [(oX11 m0 0 ta sz_ pl at_ fa fw cs fd rfm rt_ to_ rw_ wa ct rk rb cn br sm as_ go sh_ ir oa ob th ig sp_ ki tg of_ kp sf rs), (aI g to_ 25 tl), (aI g sm 25 f), (aM g wa 6 (he_ro 6 r2)), (aM g sh_ 120 (he_ro 120 r6)), (aM g cn 7 (he_ro 7 r3)), (aM g br 7 (he_ro 7 r4)), (aI g as_ 25 g0)]) (P := (he_pl g L ln M)) hD [7, 0, 1, 2, 3, 4, 5, 6] rfl rfl rfl
        exact loop45 ((n + 1 - 0) + 1) 0 0 (-1) f g0 M (Nat.lt_succ_self _) (Nat.zero_le _) (fun _ _ => rfl) (mEx_refl _ _ _) rfl _ _ _ hP hD hS (lv_sub hl [3, 4, 5, 2, 1, 0] rfl)
      · exact absurd (by decide) c_12
    · exact absurd c_8 (by decide)
set_option maxHeartbeats 4000000 in
set_option maxRecDepth 100000 in
theorem h_X11_stopN (l : Launch) (g : he_G) (m0 : Nat) (fd : Nat) (rfm : Nat) (rt_ : Nat) (to_ : Nat) (rw_ : Nat) (wa : Nat) (rk : Nat) (rb : Nat) (cn : Nat) (br : Nat) (sm : Nat) (as_ : Nat) (go : Nat) (sh_ : Nat) (ki : Nat) (tg : Nat) (of_ : Nat) (kp : Nat) (rs : Nat) (ta : Int32) (sz_ : Int32) (pl : Int32) (at_ : Int32) (fa : Int32) (fw : Int32) (cs : Int32) (ct : Int32) (ir : Int32) (oa : Int32) (ob : Int32) (th : Int32) (ig : Int32) (sp_ : Int32) (sf : Int32) (tw : Int32) (tl : Nat → Int32) (f : Nat → Int32) (g0 : Nat → Int32) (w : Nat) (L : List Nat) (ln : Nat → Nat) (M : Nat → Nat → Int32) (r2 : Nat → Nat) (mm : Nat) (n : Nat) (wh : Int32) (htl : tl 0 = nI w) (hw6 : w ≤ 6) (h24 : f 24 = nI mm) (hm120 : mm ≤ 120) (h10 : f 10 = -1) (hn1 : 1 ≤ n) (hn2 : n ≤ 60) (F_r2 : ∀ i, i < 6 → r2 i ∈ L ∧ ln (r2 i) = 2 ∧ True) (hok0 : ¬ he_within wh 0 1 = 0) : he_I l yX11_stop wsX11_stop 5 110 0 0 g [.ref m0, .int (nI n), .int wh] ([(oX11 m0 tw ta sz_ pl at_ fa fw cs fd rfm rt_ to_ rw_ wa ct rk rb cn br sm as_ go sh_ ir oa ob th ig sp_ ki tg of_ kp sf rs), (aI g to_ 25 tl), (aI g sm 25 f), (aM g wa 6 (he_ro 6 r2)), (aI g as_ 25 g0)] ++ he_pl g L ln M) (fun (r : Int32) (u : (Nat → Int32) × (Nat → Int32)) => a25 f u.1) (fun (u : (Nat → Int32) × (Nat → Int32)) => [(oX11 m0 0 ta sz_ pl at_ fa fw cs fd rfm rt_ to_ rw_ wa ct rk rb cn br sm as_ go sh_ ir oa ob th ig sp_ ki tg of_ kp sf rs), (aI g to_ 25 tl), (aI g sm 25 u.1), (aM g wa 6 (he_ro 6 r2)), (aI g as_ 25 u.2)] ++ he_pl g L ln M) := by
  refine he_begin (l := l) (g := g) (y := yX11_stop) (wl := wsX11_stop) (fr := 5) (lo := 110) (mc := 0) (ms := 0) (av := [.ref m0, .int (nI n), .int wh]) (ws := ([(oX11 m0 tw ta sz_ pl at_ fa fw cs fd rfm rt_ to_ rw_ wa ct rk rb cn br sm as_ go sh_ ir oa ob th ig sp_ ki tg of_ kp sf rs), (aI g to_ 25 tl), (aI g sm 25 f), (aM g wa 6 (he_ro 6 r2)), (aI g as_ 25 g0)] ++ he_pl g L ln M)) (cc := cX11_stop) (maxL := 7) (ret := (some .int)) (fun A => va_Qi (fun (r : Int32) (u : (Nat → Int32) × (Nat → Int32)) => a25 f u.1) (fun u t => he_post g A ((fun (u : (Nat → Int32) × (Nat → Int32)) => [(oX11 m0 0 ta sz_ pl at_ fa fw cs fd rfm rt_ to_ rw_ wa ct rk rb cn br sm as_ go sh_ ir oa ob th ig sp_ ki tg of_ kp sf rs), (aI g to_ 25 tl), (aI g sm 25 u.1), (aM g wa 6 (he_ro 6 r2)), (aI g as_ 25 u.2)] ++ he_pl g L ln M) u) t) A) (by decide) rfl (Nat.le_of_ble_eq_true rfl) ?_
  intro p e s m args below meth c A ls H locs Q hQ hB
  obtain ⟨hx, hb, hr, hml, hown, hts, hlk, hin, hP, hK, hD, hS, hA, hE, hl⟩ := hB
  have hl : lv_has ls 7 [(0, .ref m0), (1, .int (nI n)), (2, .int wh)] := hl
  have f85 := hts (.fieldLink RX11 85 "HiredEnemyModel" "thrown" "I") (iwoX11_stop (k := 0) rfl)
  have inX11 : ∀ w ∈ wsX110, w ∈ wsX11_stop := innX11_stop_X11
  have f46 := hts (.fieldLink RX11 46 "HiredEnemyModel" "s" "[I") (iwoX11_stop (k := 1) rfl)
  refine lv_aload_n hx hb dX11_stop_0 rfl (lv_at hl 0 rfl) ?_
  refine lv_iconst (v := 0) hx hb dX11_stop_1 (by decide) ?_
  refine va_put (v := .int 0) (ty := .int) (T := TX11) (N := 35) hx hb hts inX11 tyX11 tyX11_ok nmX11 hown hK hP hD hS 0 rfl rfl 0 (by decide) f85 (fun _ h9 => h9) rfl (by decide +kernel) rfl rfl (Nat.le_of_ble_eq_true rfl) dX11_stop_2 (fun H locs hP hD hS => ?_)
  have hP : va_P g.1 vwCl ([(oX11 m0 0 ta sz_ pl at_ fa fw cs fd rfm rt_ to_ rw_ wa ct rk rb cn br sm as_ go sh_ ir oa ob th ig sp_ ki tg of_ kp sf rs), (aI g to_ 25 tl), (aI g sm 25 f), (aM g wa 6 (he_ro 6 r2)), (aI g as_ 25 g0)] ++ he_pl g L ln M) H := hP
  have hD : va_D A ([(oX11 m0 0 ta sz_ pl at_ fa fw cs fd rfm rt_ to_ rw_ wa ct rk rb cn br sm as_ go sh_ ir oa ob th ig sp_ ki tg of_ kp sf rs), (aI g to_ 25 tl), (aI g sm 25 f), (aM g wa 6 (he_ro 6 r2)), (aI g as_ 25 g0)] ++ he_pl g L ln M) := hD
  refine lv_aload_n hx hb dX11_stop_5 rfl (lv_at hl 0 rfl) ?_
  refine lv_iload_n hx hb dX11_stop_6 rfl (lv_at hl 1 rfl) ?_
  refine he_ci (wc := []) (wr := ([(oX11 m0 0 ta sz_ pl at_ fa fw cs fd rfm rt_ to_ rw_ wa ct rk rb cn br sm as_ go sh_ ir oa ob th ig sp_ ki tg of_ kp sf rs), (aI g to_ 25 tl), (aI g sm 25 f), (aM g wa 6 (he_ro 6 r2)), (aI g as_ 25 g0)] ++ (he_pl g L ln M))) (va_runS (As := [.int (nI n)]) (rest := [.ref m0]) ⟨hx, hb, hml, hown, hts⟩ (c_X11_areMonths l g (nI n) H.size) (va_cwS 1 hts gX11_stop_X11_areMonths rfl rfl rfl (by decide +kernel) ⟨Nat.le_of_ble_eq_true rfl, Nat.le_of_ble_eq_true rfl⟩) (he_preS (wc := []) hK hP hD hS hA hE [] rfl rfl) rfl rfl hl.1 rfl (lv_room (Nat.le_of_ble_eq_true rfl)) dX11_stop_7 ⟨(Nat.le_of_ble_eq_true rfl), (Nat.le_of_ble_eq_true rfl)⟩) hP hD hS hA [] (he_is [0, 1, 2, 3, 4] [(oX11 m0 0 ta sz_ pl at_ fa fw cs fd rfm rt_ to_ rw_ wa ct rk rb cn br sm as_ go sh_ ir oa ob th ig sp_ ki tg of_ kp sf rs), (aI g to_ 25 tl), (aI g sm 25 f), (aM g wa 6 (he_ro 6 r2)), (aI g as_ 25 g0)] (he_pl g L ln M)) rfl (he_ixP rfl) (he_ndP rfl rfl) (he_disN (by decide) rfl) (fun r_1 u_2 H locs h_3 hP hD hS => ?_)
  have hP := va_P.swap hP
  have hD := va_D.swap hD
  subst h_3
  have hP : va_P g.1 vwCl ([(oX11 m0 0 ta sz_ pl at_ fa fw cs fd rfm rt_ to_ rw_ wa ct rk rb cn br sm as_ go sh_ ir oa ob th ig sp_ ki tg of_ kp sf rs), (aI g to_ 25 tl), (aI g sm 25 f), (aM g wa 6 (he_ro 6 r2)), (aI g as_ 25 g0)] ++ he_pl g L ln M) H := hP
  have hD : va_D A ([(oX11 m0 0 ta sz_ pl at_ fa fw cs fd rfm rt_ to_ rw_ wa ct rk rb cn br sm as_ go sh_ ir oa ob th ig sp_ ki tg of_ kp sf rs), (aI g to_ 25 tl), (aI g sm 25 f), (aM g wa 6 (he_ro 6 r2)), (aI g as_ 25 g0)] ++ he_pl g L ln M) := hD
  refine he_top (1) (he_within_in (a0 := 1) (B := 60) rfl rfl (by omega) (by omega) (by decide)) ?_
  refine lv_if_eq (tgt := 22) hx hb dX11_stop_10 (by decide) (fun c_4 => ?_) (fun c_4 => ?_)
  · exact absurd c_4 (by decide)
  · refine lv_iload_n hx hb dX11_stop_13 rfl (lv_at hl 2 rfl) ?_
    refine lv_iconst (v := 0) hx hb dX11_stop_14 (by decide) ?_
    refine lv_iconst (v := 1) hx hb dX11_stop_15 (by decide) ?_
    refine he_ci (wc := []) (wr := ([(oX11 m0 0 ta sz_ pl at_ fa fw cs fd rfm rt_ to_ rw_ wa ct rk rb cn br sm as_ go sh_ ir oa ob th ig sp_ ki tg of_ kp sf rs), (aI g to_ 25 tl), (aI g sm 25 f), (aM g wa 6 (he_ro 6 r2)), (aI g as_ 25 g0)] ++ (he_pl g L ln M))) (va_runS (As := [.int wh, .int 0, .int 1]) (rest := [.ref m0]) ⟨hx, hb, hml, hown, hts⟩ (c_X11_in l g wh 0 1 H.size) (va_cwS 3 hts gX11_stop_X11_in rfl rfl rfl (by decide +kernel) ⟨Nat.le_of_ble_eq_true rfl, Nat.le_of_ble_eq_true rfl⟩) (he_preS (wc := []) hK hP hD hS hA hE [] rfl rfl) rfl rfl hl.1 rfl (lv_room (Nat.le_of_ble_eq_true rfl)) dX11_stop_16 ⟨(Nat.le_of_ble_eq_true rfl), (Nat.le_of_ble_eq_true rfl)⟩) hP hD hS hA [] (he_is [0, 1, 2, 3, 4] [(oX11 m0 0 ta sz_ pl at_ fa fw cs fd rfm rt_ to_ rw_ wa ct rk rb cn br sm as_ go sh_ ir oa ob th ig sp_ ki tg of_ kp sf rs), (aI g to_ 25 tl), (aI g sm 25 f), (aM g wa 6 (he_ro 6 r2)), (aI g as_ 25 g0)] (he_pl g L ln M)) rfl (he_ixP rfl) (he_ndP rfl rfl) (he_disN (by decide) rfl) (fun r_5 u_6 H locs h_7 hP hD hS => ?_)
    have hP := va_P.swap hP
    have hD := va_D.swap hD
    subst h_7
    have hP : va_P g.1 vwCl ([(oX11 m0 0 ta sz_ pl at_ fa fw cs fd rfm rt_ to_ rw_ wa ct rk rb cn br sm as_ go sh_ ir oa ob th ig sp_ ki tg of_ kp sf rs), (aI g to_ 25 tl), (aI g sm 25 f), (aM g wa 6 (he_ro 6 r2)), (aI g as_ 25 g0)] ++ he_pl g L ln M) H := hP
    have hD : va_D A ([(oX11 m0 0 ta sz_ pl at_ fa fw cs fd rfm rt_ to_ rw_ wa ct rk rb cn br sm as_ go sh_ ir oa ob th ig sp_ ki tg of_ kp sf rs), (aI g to_ 25 tl), (aI g sm 25 f), (aM g wa 6 (he_ro 6 r2)), (aI g as_ 25 g0)] ++ he_pl g L ln M) := hD
    refine he_top (1) (he_within_1 hok0) ?_
    refine lv_if_ne (tgt := 26) hx hb dX11_stop_19 (by decide) (fun c_8 => ?_) (fun c_8 => ?_)
    · refine lv_iconst (v := 0) hx hb dX11_stop_26 (by decide) ?_
      refine lv_iconst (v := 1) hx hb dX11_stop_27 (by decide) ?_
      refine lv_iconst (v := 2) hx hb dX11_stop_28 (by decide) ?_
      refine he_ci (wc := [(oX11 m0 0 ta sz_ pl at_ fa fw cs fd rfm rt_ to_ rw_ wa ct rk rb cn br sm as_ go sh_ ir oa ob th ig sp_ ki tg of_ kp sf rs)]) (wr := ([(aI g to_ 25 tl), (aI g sm 25 f), (aM g wa 6 (he_ro 6 r2)), (aI g as_ 25 g0)] ++ (he_pl g L ln M))) (va_runV (As := [.int 0, .int 1, .int 2]) (rest := []) ⟨hx, hb, hml, hown, hts⟩ (c_X11_bad0 l g m0 fd rfm rt_ to_ rw_ wa rk rb cn br sm as_ go sh_ ki tg of_ kp rs ta sz_ pl at_ fa fw cs ct ir oa ob th ig sp_ sf 1 2 H.size) (cwV 3 hts gX11_stop_X11_bad rfl rfl rfl (by decide +kernel) ⟨Nat.le_of_ble_eq_true rfl, Nat.le_of_ble_eq_true rfl⟩) (he_preV (wc := [(oX11 m0 0 ta sz_ pl at_ fa fw cs fd rfm rt_ to_ rw_ wa ct rk rb cn br sm as_ go sh_ ir oa ob th ig sp_ ki tg of_ kp sf rs)]) hK hP hD hS hA hE [0] rfl rfl 0 rfl rfl) rfl rfl hl.1 rfl (lv_room (Nat.le_of_ble_eq_true rfl)) dX11_stop_29 ⟨(Nat.le_of_ble_eq_true rfl), (Nat.le_of_ble_eq_true rfl)⟩) hP hD hS hA [0] (he_is [1, 2, 3, 4] [(oX11 m0 0 ta sz_ pl at_ fa fw cs fd rfm rt_ to_ rw_ wa ct rk rb cn br sm as_ go sh_ ir oa ob th ig sp_ ki tg of_ kp sf rs), (aI g to_ 25 tl), (aI g sm 25 f), (aM g wa 6 (he_ro 6 r2)), (aI g as_ 25 g0)] (he_pl g L ln M)) rfl (he_ixP rfl) (he_ndP rfl rfl) (he_disN (by decide) rfl) (fun r_9 u_10 H locs h_11 hP hD hS => ?_)
      have hP := va_P.swap hP
      have hD := va_D.swap hD
      subst h_11
      have hP : va_P g.1 vwCl ([(aI g to_ 25 tl), (aI g sm 25 f), (aM g wa 6 (he_ro 6 r2)), (aI g as_ 25 g0), (oX11 m0 0 ta sz_ pl at_ fa fw cs fd rfm rt_ to_ rw_ wa ct rk rb cn br sm as_ go sh_ ir oa ob th ig sp_ ki tg of_ kp sf rs)] ++ he_pl g L ln M) H := hP
      have hD : va_D A ([(aI g to_ 25 tl), (aI g sm 25 f), (aM g wa 6 (he_ro 6 r2)), (aI g as_ 25 g0), (oX11 m0 0 ta sz_ pl at_ fa fw cs fd rfm rt_ to_ rw_ wa ct rk rb cn br sm as_ go sh_ ir oa ob th ig sp_ ki tg of_ kp sf rs)] ++ he_pl g L ln M) := hD
      refine lv_if_eq (tgt := 37) hx hb dX11_stop_32 (by decide) (fun c_12 => ?_) (fun c_12 => ?_)
      · refine lv_iconst (v := 0) hx hb dX11_stop_37 (by decide) ?_
        refine lv_istore_n (lv' := [(3, .int 0), (0, .ref m0), (1, .int (nI n)), (2, .int wh)]) hx hb dX11_stop_38 rfl hl (by decide) rfl (fun ls hl => ?_)
        refine lv_iconst (v := (-1)) hx hb dX11_stop_39 (by decide) ?_
        refine lv_istore (lv' := [(4, .int (-1)), (3, .int 0), (0, .ref m0), (1, .int (nI n)), (2, .int wh)]) hx hb dX11_stop_40 hl (by decide) rfl (fun ls hl => ?_)
        refine lv_iconst (v := 0) hx hb dX11_stop_42 (by decide) ?_
        refine lv_istore (lv' := [(5, .int 0), (4, .int (-1)), (3, .int 0), (0, .ref m0), (1, .int (nI n)), (2, .int wh)]) hx hb dX11_stop_43 hl (by decide) rfl (fun ls hl => ?_)
        have loop45 : ∀ (n9 : Nat) (j : Nat) (be : Int32) (ms : Int32) (F : Nat → Int32) (Gs : Nat → Int32), n + 1 - j < n9 → (j ≤ n + 1) → (a25 f F) → ∀ (H : Heap) (locs : List Loc) (ls : Array Slot), va_P g.1 vwCl ([(oX11 m0 0 ta sz_ pl at_ fa fw cs fd rfm rt_ to_ rw_ wa ct rk rb cn br sm as_ go sh_ ir oa ob th ig sp_ ki tg of_ kp sf rs), (aI g to_ 25 tl), (aI g sm 25 F), (aM g wa 6 (he_ro 6 r2)), (aI g as_ 25 Gs)] ++ he_pl g L ln M) H → va_D A ([(oX11 m0 0 ta sz_ pl at_ fa fw cs fd rfm rt_ to_ rw_ wa ct rk rb cn br sm as_ go sh_ ir oa ob th ig sp_ ki tg of_ kp sf rs), (aI g to_ 25 tl), (aI g sm 25 F), (aM g wa 6 (he_ro 6 r2)), (aI g as_ 25 Gs)] ++ he_pl g L ln M) → va_S A s.heap H locs → lv_has ls 7 [(0, .ref m0), (1, .int (nI n)), (2, .int wh), (3, .int be), (4, .int ms), (5, .int (nI j))] → W p l e (he_room 5 110 0 0) s m args below meth c H locs 0 0 Q (F0 m 45 ls []) := by
          intro n9
          induction n9 with
          | zero => intro j be ms F Gs hm9; exact absurd hm9 (Nat.not_lt_zero _)
          | succ n9 ih45 =>
            intro j be ms F Gs hm9 hj hF9 H locs ls hP hD hS hl
            refine lv_iload hx hb dX11_stop_45 (lv_at hl 5 rfl) ?_
            refine lv_iload_n hx hb dX11_stop_47 rfl (lv_at hl 1 rfl) ?_
            refine lv_icmp_gt (tgt := 109) hx hb dX11_stop_48 (by decide) (fun c_13 => ?_) (fun c_13 => ?_)
            · have k_14 : n < j := (he_clt (a := n) (b := j) rfl rfl (by omega) (by omega)).mp c_13
              refine lv_iload_n hx hb dX11_stop_109 rfl (lv_at hl 2 rfl) ?_
              refine lv_if_ne (tgt := 117) hx hb dX11_stop_110 (by decide) (fun c_15 => ?_) (fun c_15 => ?_)
              · refine lv_iload hx hb dX11_stop_117 (lv_at hl 4 rfl) ?_
                exact he_ri hQ hx hb hr hlk hP hD hS dX11_stop_119 (Nat.le_of_ble_eq_true rfl) (Nat.le_of_ble_eq_true rfl) ((F, Gs)) (rfl) (by (try dsimp only); exact hF9)
              · refine lv_iload_n hx hb dX11_stop_113 rfl (lv_at hl 3 rfl) ?_
                refine lv_goto (tgt := 119) hx hb dX11_stop_114 (by decide) ?_
                exact he_ri hQ hx hb hr hlk hP hD hS dX11_stop_119 (Nat.le_of_ble_eq_true rfl) (Nat.le_of_ble_eq_true rfl) ((F, Gs)) (rfl) (by (try dsimp only); exact hF9)
            · have k_16 : ¬ (n < j) := fun h9 => c_13 ((he_clt (a := n) (b := j) rfl rfl (by omega) (by omega)).mpr h9)
              refine lv_aload_n hx hb dX11_stop_51 rfl (lv_at hl 0 rfl) ?_
              refine he_cv (wc := [(oX11 m0 0 ta sz_ pl at_ fa fw cs fd rfm rt_ to_ rw_ wa ct rk rb cn br sm as_ go sh_ ir oa ob th ig sp_ ki tg of_ kp sf rs), (aI g sm 25 F), (aI g as_ 25 Gs)]) (wr := ([(aI g to_ 25 tl), (aM g wa 6 (he_ro 6 r2))] ++ (he_pl g L ln M))) (va_runV (As := []) (rest := []) ⟨hx, hb, hml, hown, hts⟩ (c_X11_puts l g m0 fd rfm rt_ to_ rw_ wa rk rb cn br sm as_ go sh_ ki tg of_ kp rs ta sz_ pl at_ fa fw cs ct ir oa ob th ig sp_ sf 0 F Gs H.size) (cwV 0 hts gX11_stop_X11_puts rfl rfl rfl (by decide +kernel) ⟨Nat.le_of_ble_eq_true rfl, Nat.le_of_ble_eq_true rfl⟩) (he_preV (wc := [(oX11 m0 0 ta sz_ pl at_ fa fw cs fd rfm rt_ to_ rw_ wa ct rk rb cn br sm as_ go sh_ ir oa ob th ig sp_ ki tg of_ kp sf rs), (aI g sm 25 F), (aI g as_ 25 Gs)]) hK hP hD hS hA hE [0, 2, 4] rfl rfl 0 rfl rfl) rfl rfl hl.1 rfl (lv_room (Nat.le_of_ble_eq_true rfl)) dX11_stop_52 ⟨(Nat.le_of_ble_eq_true rfl), (Nat.le_of_ble_eq_true rfl)⟩) hP hD hS hA [0, 2, 4] (he_is [1, 3] [(oX11 m0 0 ta sz_ pl at_ fa fw cs fd rfm rt_ to_ rw_ wa ct rk rb cn br sm as_ go sh_ ir oa ob th ig sp_ ki tg of_ kp sf rs), (aI g to_ 25 tl), (aI g sm 25 F), (aM g wa 6 (he_ro 6 r2)), (aI g as_ 25 Gs)] (he_pl g L ln M)) rfl (he_ixP rfl) (he_ndP rfl rfl) (he_disN (by decide) rfl) (fun u_18 H locs h_19 hP hD hS => ?_)
              have hP := va_P.swap hP
              have hD := va_D.swap hD
              have hP : va_P g.1 vwCl ([(aI g to_ 25 tl), (aM g wa 6 (he_ro 6 r2)), (oX11 m0 0 ta sz_ pl at_ fa fw cs fd rfm rt_ to_ rw_ wa ct rk rb cn br sm as_ go sh_ ir oa ob th ig sp_ ki tg of_ kp sf rs), (aI g sm 25 F), (aI g as_ 25 (flF F Gs 25))] ++ he_pl g L ln M) H := hP
              have hD : va_D A ([(aI g to_ 25 tl), (aM g wa 6 (he_ro 6 r2)), (oX11 m0 0 ta sz_ pl at_ fa fw cs fd rfm rt_ to_ rw_ wa ct rk rb cn br sm as_ go sh_ ir oa ob th ig sp_ ki tg of_ kp sf rs), (aI g sm 25 F), (aI g as_ 25 (flF F Gs 25))] ++ he_pl g L ln M) := hD
              refine lv_aload_n hx hb dX11_stop_55 rfl (lv_at hl 0 rfl) ?_
              refine lv_iload hx hb dX11_stop_56 (lv_at hl 5 rfl) ?_
              refine he_cv (wc := ([(oX11 m0 0 ta sz_ pl at_ fa fw cs fd rfm rt_ to_ rw_ wa ct rk rb cn br sm as_ go sh_ ir oa ob th ig sp_ ki tg of_ kp sf rs), (aI g to_ 25 tl), (aI g sm 25 F), (aM g wa 6 (he_ro 6 r2))] ++ (he_pl g L ln M))) (wr := [(aI g as_ 25 (flF F Gs 25))]) (va_runV (As := [.int (nI j)]) (rest := []) ⟨hx, hb, hml, hown, hts⟩ (h_X11_goesOnN l g m0 fd rfm rt_ to_ rw_ wa rk rb cn br sm as_ go sh_ ki tg of_ kp rs ta sz_ pl at_ fa fw cs ct ir oa ob th ig sp_ sf 0 tl F w L ln M r2 mm j (by first | assumption | decide | omega) (by first | assumption | decide | omega) ((hF9 10 (by decide)).trans h10) (a25_24 hF9 h24) (by omega) (by first | assumption | decide | omega) H.size) (cwV 1 hts gX11_stop_X11_goesOn rfl rfl rfl (by decide +kernel) ⟨Nat.le_of_ble_eq_true rfl, Nat.le_of_ble_eq_true rfl⟩) (he_preV (wc := ([(oX11 m0 0 ta sz_ pl at_ fa fw cs fd rfm rt_ to_ rw_ wa ct rk rb cn br sm as_ go sh_ ir oa ob th ig sp_ ki tg of_ kp sf rs), (aI g to_ 25 tl), (aI g sm 25 F), (aM g wa 6 (he_ro 6 r2))] ++ (he_pl g L ln M))) hK hP hD hS hA hE (he_is [2, 0, 3, 1] [(aI g to_ 25 tl), (aM g wa 6 (he_ro 6 r2)), (oX11 m0 0 ta sz_ pl at_ fa fw cs fd rfm rt_ to_ rw_ wa ct rk rb cn br sm as_ go sh_ ir oa ob th ig sp_ ki tg of_ kp sf rs), (aI g sm 25 F), (aI g as_ 25 (flF F Gs 25))] (he_pl g L ln M)) (he_ixP rfl) (he_ndP rfl rfl) 2 rfl rfl) rfl rfl hl.1 rfl (lv_room (Nat.le_of_ble_eq_true rfl)) dX11_stop_58 ⟨(Nat.le_of_ble_eq_true rfl), (Nat.le_of_ble_eq_true rfl)⟩) hP hD hS hA (he_is [2, 0, 3, 1] [(aI g to_ 25 tl), (aM g wa 6 (he_ro 6 r2)), (oX11 m0 0 ta sz_ pl at_ fa fw cs fd rfm rt_ to_ rw_ wa ct rk rb cn br sm as_ go sh_ ir oa ob th ig sp_ ki tg of_ kp sf rs), (aI g sm 25 F), (aI g as_ 25 (flF F Gs 25))] (he_pl g L ln M)) [4] (he_ixP rfl) rfl rfl (he_disP (by decide) rfl) (fun u_21 H locs h_22 hP hD hS => ?_)
              obtain ⟨uf_23, rfl⟩ : ∃ z, z = u_21 := ⟨_, rfl⟩
              try dsimp only at h_22
              obtain ⟨hf_24, hf_25⟩ := h_22
              have hP : va_P g.1 vwCl ([(aI g as_ 25 (flF F Gs 25)), (oX11 m0 0 ta sz_ pl at_ fa fw cs fd rfm rt_ to_ rw_ wa ct rk rb cn br sm as_ go sh_ ir oa ob th ig sp_ ki tg of_ kp sf rs), (aI g to_ 25 tl), (aI g sm 25 uf_23), (aM g wa 6 (he_ro 6 r2))] ++ he_pl g L ln M) H := hP
              have hD : va_D A ([(aI g as_ 25 (flF F Gs 25)), (oX11 m0 0 ta sz_ pl at_ fa fw cs fd rfm rt_ to_ rw_ wa ct rk rb cn br sm as_ go sh_ ir oa ob th ig sp_ ki tg of_ kp sf rs), (aI g to_ 25 tl), (aI g sm 25 uf_23), (aM g wa 6 (he_ro 6 r2))] ++ he_pl g L ln M) := hD
              have HG24 := hf_25
              refine lv_aload_n hx hb dX11_stop_61 rfl (lv_at hl 0 rfl) ?_
              refine lv_iconst (v := (-1)) hx hb dX11_stop_62 (by decide) ?_
              refine he_cv (wc := [(oX11 m0 0 ta sz_ pl at_ fa fw cs fd rfm rt_ to_ rw_ wa ct rk rb cn br sm as_ go sh_ ir oa ob th ig sp_ ki tg of_ kp sf rs), (aI g sm 25 uf_23)]) (wr := ([(aI g as_ 25 (flF F Gs 25)), (aI g to_ 25 tl), (aM g wa 6 (he_ro 6 r2))] ++ (he_pl g L ln M))) (va_runV (As := [.int (-1)]) (rest := []) ⟨hx, hb, hml, hown, hts⟩ (c_X11_signs l g m0 fd rfm rt_ to_ rw_ wa rk rb cn br sm as_ go sh_ ki tg of_ kp rs ta sz_ pl at_ fa fw cs ct ir oa ob th ig sp_ sf 0 uf_23 (-1) H.size) (cwV 1 hts gX11_stop_X11_signs rfl rfl rfl (by decide +kernel) ⟨Nat.le_of_ble_eq_true rfl, Nat.le_of_ble_eq_true rfl⟩) (he_preV (wc := [(oX11 m0 0 ta sz_ pl at_ fa fw cs fd rfm rt_ to_ rw_ wa ct rk rb cn br sm as_ go sh_ ir oa ob th ig sp_ ki tg of_ kp sf rs), (aI g sm 25 uf_23)]) hK hP hD hS hA hE [1, 3] rfl rfl 1 rfl rfl) rfl rfl hl.1 rfl (lv_room (Nat.le_of_ble_eq_true rfl)) dX11_stop_63 ⟨(Nat.le_of_ble_eq_true rfl), (Nat.le_of_ble_eq_true rfl)⟩) hP hD hS hA [1, 3] (he_is [0, 2, 4] [(aI g as_ 25 (flF F Gs 25)), (oX11 m0 0 ta sz_ pl at_ fa fw cs fd rfm rt_ to_ rw_ wa ct rk rb cn br sm as_ go sh_ ir oa ob th ig sp_ ki tg of_ kp sf rs), (aI g to_ 25 tl), (aI g sm 25 uf_23), (aM g wa 6 (he_ro 6 r2))] (he_pl g L ln M)) rfl (he_ixP rfl) (he_ndP rfl rfl) (he_disN (by decide) rfl) (fun u_27 H locs h_28 hP hD hS => ?_)
              have hP := va_P.swap hP
              have hD := va_D.swap hD
              have hP : va_P g.1 vwCl ([(aI g as_ 25 (flF F Gs 25)), (aI g to_ 25 tl), (aM g wa 6 (he_ro 6 r2)), (oX11 m0 0 ta sz_ pl at_ fa fw cs fd rfm rt_ to_ rw_ wa ct rk rb cn br sm as_ go sh_ ir oa ob th ig sp_ ki tg of_ kp sf rs), (aI g sm 25 (sgF uf_23 (-1)))] ++ he_pl g L ln M) H := hP
              have hD : va_D A ([(aI g as_ 25 (flF F Gs 25)), (aI g to_ 25 tl), (aM g wa 6 (he_ro 6 r2)), (oX11 m0 0 ta sz_ pl at_ fa fw cs fd rfm rt_ to_ rw_ wa ct rk rb cn br sm as_ go sh_ ir oa ob th ig sp_ ki tg of_ kp sf rs), (aI g sm 25 (sgF uf_23 (-1)))] ++ he_pl g L ln M) := hD
              refine lv_aload_n hx hb dX11_stop_66 rfl (lv_at hl 0 rfl) ?_
              refine lv_iload_n hx hb dX11_stop_67 rfl (lv_at hl 1 rfl) ?_
              refine lv_iload hx hb dX11_stop_68 (lv_at hl 5 rfl) ?_
              refine lv_isub hx hb dX11_stop_70 ?_
              refine he_top (nI (n - j)) (pk_sub (by omega)) ?_
              refine he_cv (wc := ([(oX11 m0 0 ta sz_ pl at_ fa fw cs fd rfm rt_ to_ rw_ wa ct rk rb cn br sm as_ go sh_ ir oa ob th ig sp_ ki tg of_ kp sf rs), (aI g to_ 25 tl), (aI g sm 25 (sgF uf_23 (-1))), (aM g wa 6 (he_ro 6 r2))] ++ (he_pl g L ln M))) (wr := [(aI g as_ 25 (flF F Gs 25))]) (va_runV (As := [.int (nI (n - j))]) (rest := []) ⟨hx, hb, hml, hown, hts⟩ (h_X11_goesOnN l g m0 fd rfm rt_ to_ rw_ wa rk rb cn br sm as_ go sh_ ki tg of_ kp rs ta sz_ pl at_ fa fw cs ct ir oa ob th ig sp_ sf 0 tl (sgF uf_23 (-1)) w L ln M r2 (mm + j) (n - j) (by first | assumption | decide | omega) (by first | assumption | decide | omega) (sgF_10 _ _) (by rw [sg_24]; exact HG24) (by omega) (by first | assumption | decide | omega) H.size) (cwV 1 hts gX11_stop_X11_goesOn rfl rfl rfl (by decide +kernel) ⟨Nat.le_of_ble_eq_true rfl, Nat.le_of_ble_eq_true rfl⟩) (he_preV (wc := ([(oX11 m0 0 ta sz_ pl at_ fa fw cs fd rfm rt_ to_ rw_ wa ct rk rb cn br sm as_ go sh_ ir oa ob th ig sp_ ki tg of_ kp sf rs), (aI g to_ 25 tl), (aI g sm 25 (sgF uf_23 (-1))), (aM g wa 6 (he_ro 6 r2))] ++ (he_pl g L ln M))) hK hP hD hS hA hE (he_is [3, 1, 4, 2] [(aI g as_ 25 (flF F Gs 25)), (aI g to_ 25 tl), (aM g wa 6 (he_ro 6 r2)), (oX11 m0 0 ta sz_ pl at_ fa fw cs fd rfm rt_ to_ rw_ wa ct rk rb cn br sm as_ go sh_ ir oa ob th ig sp_ ki tg of_ kp sf rs), (aI g sm 25 (sgF uf_23 (-1)))] (he_pl g L ln M)) (he_ixP rfl) (he_ndP rfl rfl) 3 rfl rfl) rfl rfl hl.1 rfl (lv_room (Nat.le_of_ble_eq_true rfl)) dX11_stop_71 ⟨(Nat.le_of_ble_eq_true rfl), (Nat.le_of_ble_eq_true rfl)⟩) hP hD hS hA (he_is [3, 1, 4, 2] [(aI g as_ 25 (flF F Gs 25)), (aI g to_ 25 tl), (aM g wa 6 (he_ro 6 r2)), (oX11 m0 0 ta sz_ pl at_ fa fw cs fd rfm rt_ to_ rw_ wa ct rk rb cn br sm as_ go sh_ ir oa ob th ig sp_ ki tg of_ kp sf rs), (aI g sm 25 (sgF uf_23 (-1)))] (he_pl g L ln M)) [0] (he_ixP rfl) rfl rfl (he_disP (by decide) rfl) (fun u_30 H locs h_31 hP hD hS => ?_)
              obtain ⟨uf_32, rfl⟩ : ∃ z, z = u_30 := ⟨_, rfl⟩
              try dsimp only at h_31
              obtain ⟨hf_33, hf_34⟩ := h_31
              have hP : va_P g.1 vwCl ([(aI g as_ 25 (flF F Gs 25)), (oX11 m0 0 ta sz_ pl at_ fa fw cs fd rfm rt_ to_ rw_ wa ct rk rb cn br sm as_ go sh_ ir oa ob th ig sp_ ki tg of_ kp sf rs), (aI g to_ 25 tl), (aI g sm 25 uf_32), (aM g wa 6 (he_ro 6 r2))] ++ he_pl g L ln M) H := hP
              have hD : va_D A ([(aI g as_ 25 (flF F Gs 25)), (oX11 m0 0 ta sz_ pl at_ fa fw cs fd rfm rt_ to_ rw_ wa ct rk rb cn br sm as_ go sh_ ir oa ob th ig sp_ ki tg of_ kp sf rs), (aI g to_ 25 tl), (aI g sm 25 uf_32), (aM g wa 6 (he_ro 6 r2))] ++ he_pl g L ln M) := hD
              refine lv_aload_n hx hb dX11_stop_74 rfl (lv_at hl 0 rfl) ?_
              refine va_get (v := .ref sm) (T := TX11) (N := 35) hx hb hts inX11 hown hK hP 1 rfl rfl 19 (by decide) f46 (fun _ h9 => h9) rfl dX11_stop_75 ?_
              refine lv_iconst (v := 0) hx hb dX11_stop_78 (by decide) ?_
              refine he_iald hx hb hK hP 3 rfl (0) (by decide) (by decide) (by first | decide | assumption) (uf_32 0) rfl dX11_stop_79 ?_
              refine lv_istore (lv' := [(6, .int (uf_32 0)), (0, .ref m0), (1, .int (nI n)), (2, .int wh), (3, .int be), (4, .int ms), (5, .int (nI j))]) hx hb dX11_stop_80 hl (by decide) rfl (fun ls hl => ?_)
              refine lv_aload_n hx hb dX11_stop_82 rfl (lv_at hl 1 rfl) ?_
              refine he_cv (wc := [(oX11 m0 0 ta sz_ pl at_ fa fw cs fd rfm rt_ to_ rw_ wa ct rk rb cn br sm as_ go sh_ ir oa ob th ig sp_ ki tg of_ kp sf rs), (aI g sm 25 uf_32), (aI g as_ 25 (flF F Gs 25))]) (wr := ([(aI g to_ 25 tl), (aM g wa 6 (he_ro 6 r2))] ++ (he_pl g L ln M))) (va_runV (As := []) (rest := []) ⟨hx, hb, hml, hown, hts⟩ (c_X11_takes l g m0 fd rfm rt_ to_ rw_ wa rk rb cn br sm as_ go sh_ ki tg of_ kp rs ta sz_ pl at_ fa fw cs ct ir oa ob th ig sp_ sf 0 uf_32 (flF F Gs 25) H.size) (cwV 0 hts gX11_stop_X11_takes rfl rfl rfl (by decide +kernel) ⟨Nat.le_of_ble_eq_true rfl, Nat.le_of_ble_eq_true rfl⟩) (he_preV (wc := [(oX11 m0 0 ta sz_ pl at_ fa fw cs fd rfm rt_ to_ rw_ wa ct rk rb cn br sm as_ go sh_ ir oa ob th ig sp_ ki tg of_ kp sf rs), (aI g sm 25 uf_32), (aI g as_ 25 (flF F Gs 25))]) hK hP hD hS hA hE [1, 3, 0] rfl rfl 1 rfl rfl) rfl rfl hl.1 rfl (lv_room (Nat.le_of_ble_eq_true rfl)) dX11_stop_83 ⟨(Nat.le_of_ble_eq_true rfl), (Nat.le_of_ble_eq_true rfl)⟩) hP hD hS hA [1, 3, 0] (he_is [2, 4] [(aI g as_ 25 (flF F Gs 25)), (oX11 m0 0 ta sz_ pl at_ fa fw cs fd rfm rt_ to_ rw_ wa ct rk rb cn br sm as_ go sh_ ir oa ob th ig sp_ ki tg of_ kp sf rs), (aI g to_ 25 tl), (aI g sm 25 uf_32), (aM g wa 6 (he_ro 6 r2))] (he_pl g L ln M)) rfl (he_ixP rfl) (he_ndP rfl rfl) (he_disN (by decide) rfl) (fun u_36 H locs h_37 hP hD hS => ?_)
              have hP := va_P.swap hP
              have hD := va_D.swap hD
              have hP : va_P g.1 vwCl ([(aI g to_ 25 tl), (aM g wa 6 (he_ro 6 r2)), (oX11 m0 0 ta sz_ pl at_ fa fw cs fd rfm rt_ to_ rw_ wa ct rk rb cn br sm as_ go sh_ ir oa ob th ig sp_ ki tg of_ kp sf rs), (aI g sm 25 (flF (flF F Gs 25) uf_32 25)), (aI g as_ 25 (flF F Gs 25))] ++ he_pl g L ln M) H := hP
              have hD : va_D A ([(aI g to_ 25 tl), (aM g wa 6 (he_ro 6 r2)), (oX11 m0 0 ta sz_ pl at_ fa fw cs fd rfm rt_ to_ rw_ wa ct rk rb cn br sm as_ go sh_ ir oa ob th ig sp_ ki tg of_ kp sf rs), (aI g sm 25 (flF (flF F Gs 25) uf_32 25)), (aI g as_ 25 (flF F Gs 25))] ++ he_pl g L ln M) := hD
              refine lv_iload hx hb dX11_stop_86 (lv_at hl 0 rfl) ?_
              refine lv_iload hx hb dX11_stop_88 (lv_at hl 5 rfl) ?_
              refine lv_icmp_gt (tgt := 96) hx hb dX11_stop_90 (by decide) (fun c_38 => ?_) (fun c_38 => ?_)
              · refine lv_iload hx hb dX11_stop_96 (lv_at hl 6 rfl) ?_
                refine lv_istore_n (lv' := [(3, .int (nI j)), (6, .int (uf_32 0)), (0, .ref m0), (1, .int (nI n)), (2, .int wh), (4, .int ms), (5, .int (nI j))]) hx hb dX11_stop_98 rfl hl (by decide) rfl (fun ls hl => ?_)
                refine lv_iload hx hb dX11_stop_99 (lv_at hl 1 rfl) ?_
                refine lv_istore (lv' := [(4, .int (uf_32 0)), (3, .int (nI j)), (6, .int (uf_32 0)), (0, .ref m0), (1, .int (nI n)), (2, .int wh), (5, .int (nI j))]) hx hb dX11_stop_101 hl (by decide) rfl (fun ls hl => ?_)
                refine lv_iinc (v := nI (j + 1)) (lv' := [(5, .int (nI (j + 1))), (4, .int (uf_32 0)), (3, .int (nI j)), (6, .int (uf_32 0)), (0, .ref m0), (1, .int (nI n)), (2, .int wh)]) hx hb dX11_stop_103 hl (k := 6) rfl (nI_1 j) (by decide) rfl (fun ls hl => ?_)
                refine lv_goto (tgt := 45) hx hb dX11_stop_106 (by decide) ?_
                have hP := he_Psub (X := [(aI g to_ 25 tl), (aM g wa 6 (he_ro 6 r2)), (oX11 m0 0 ta sz_ pl at_ fa fw cs fd rfm rt_ to_ rw_ wa ct rk rb cn br sm as_ go sh_ ir oa ob th ig sp_ ki tg of_ kp sf rs), (aI g sm 25 (flF (flF F Gs 25) uf_32 25)), (aI g as_ 25 (flF F Gs 25))]) (X2 := [(oX11 m0 0 ta sz_ pl at_ fa fw cs fd rfm rt_ to_ rw_ wa ct rk rb cn br sm as_ go sh_ ir oa ob th ig sp_ ki tg of_ kp sf rs), (aI g to_ 25 tl), (aI g sm 25 (flF (flF F Gs 25) uf_32 25)), (aM g wa 6 (he_ro 6 r2)), (aI g as_ 25 (flF F Gs 25))]) (P := (he_pl g L ln M)) hP [2, 0, 3, 1, 4] rfl
                have hD := he_Dsub (X := [(aI g to_ 25 tl), (aM g wa 6 (he_ro 6 r2)), (oX11 m0 0 ta sz_ pl at_ fa fw cs fd rfm rt_ to_ rw_ wa ct rk rb cn br sm as_ go sh_ ir oa ob th ig sp_ ki tg of_ kp sf rs), (aI g sm 25 (flF (flF F Gs 25) uf_32 25)), (aI g as_ 25 (flF F Gs 25))]) (X2 := [(oX11 m0 0 ta sz_ pl at_ fa fw cs fd rfm rt_ to_ rw_ wa ct rk rb cn br sm as_ go sh_ ir oa ob th ig sp_ ki tg of_ kp sf rs), (aI g to_ 25 tl), (aI g sm 25 (flF (flF F Gs 25) uf_32 25)), (aM g wa 6 (he_ro 6 r2)), (aI g as_ 25 (flF F Gs 25))]) (P := (he_pl g L ln M)) hD [2, 0, 3, 1, 4] rfl rfl rfl
                exact ih45 (j + 1) (nI j) (uf_32 0) (flF (flF F Gs 25) uf_32 25) (flF F Gs 25) (by omega) (by omega) (a25_t hF9 (fun k hk => tkF F _ _ k hk)) _ _ _ hP hD hS (lv_sub hl [4, 5, 6, 2, 1, 0] rfl)
              · refine lv_goto (tgt := 103) hx hb dX11_stop_93 (by decide) ?_
                refine lv_iinc (v := nI (j + 1)) (lv' := [(5, .int (nI (j + 1))), (6, .int (uf_32 0)), (0, .ref m0), (1, .int (nI n)), (2, .int wh), (3, .int be), (4, .int ms)]) hx hb dX11_stop_103 hl (k := 6) rfl (nI_1 j) (by decide) rfl (fun ls hl => ?_)
                refine lv_goto (tgt := 45) hx hb dX11_stop_106 (by decide) ?_
                have hP := he_Psub (X := [(aI g to_ 25 tl), (aM g wa 6 (he_ro 6 r2)), (oX11 m0 0 ta sz_ pl at_ fa fw cs fd rfm rt_ to_ rw_ wa ct rk rb cn br sm as_ go sh_ ir oa ob th ig sp_ ki tg of_ kp sf rs), (aI g sm 25 (flF (flF F Gs 25) uf_32 25)), (aI g as_ 25 (flF F Gs 25))]) (X2 := [(oX11 m0 0 ta sz_ pl at_ fa fw cs fd rfm rt_ to_ rw_ wa ct rk rb cn br sm as_ go sh_ ir oa ob th ig sp_ ki tg of_ kp sf rs), (aI g to_ 25 tl), (aI g sm 25 (flF (flF F Gs 25) uf_32 25)), (aM g wa 6 (he_ro 6 r2)), (aI g as_ 25 (flF F Gs 25))]) (P := (he_pl g L ln M)) hP [2, 0, 3, 1, 4] rfl
                have hD := he_Dsub (X := [(aI g to_ 25 tl), (aM g wa 6 (he_ro 6 r2)), (oX11 m0 0 ta sz_ pl at_ fa fw cs fd rfm rt_ to_ rw_ wa ct rk rb cn br sm as_ go sh_ ir oa ob th ig sp_ ki tg of_ kp sf rs), (aI g sm 25 (flF (flF F Gs 25) uf_32 25)), (aI g as_ 25 (flF F Gs 25))]) (X2 := [(oX11 m0 0 ta sz_ pl at_ fa fw cs fd rfm rt_ to_ rw_ wa ct rk rb cn br sm as_ go sh_ ir oa ob th ig sp_ ki tg of_ kp sf rs), (aI g to_ 25 tl), (aI g sm 25 (flF (flF F Gs 25) uf_32 25)), (aM g wa 6 (he_ro 6 r2)), (aI g as_ 25 (flF F Gs 25))]) (P := (he_pl g L ln M)) hD [2, 0, 3, 1, 4] rfl rfl rfl
                exact ih45 (j + 1) be ms (flF (flF F Gs 25) uf_32 25) (flF F Gs 25) (by omega) (by omega) (a25_t hF9 (fun k hk => tkF F _ _ k hk)) _ _ _ hP hD hS (lv_sub hl [2, 3, 4, 5, 6, 0] rfl)
        have hP := he_Psub (X := [(aI g to_ 25 tl), (aI g sm 25 f), (aM g wa 6 (he_ro 6 r2)), (aI g as_ 25 g0), (oX11 m0 0 ta sz_ pl at_ fa fw cs fd rfm rt_ to_ rw_ wa ct rk rb cn br sm as_ go sh_ ir oa ob th ig sp_ ki tg of_ kp sf rs)]) (X2 := [(oX11 m0 0 ta sz_ pl at_ fa fw cs fd rfm rt_ to_ rw_ wa ct rk rb cn br sm as_ go sh_ ir oa ob th ig sp_ ki tg of_ kp sf rs), (aI g to_ 25 tl), (aI g sm 25 f), (aM g wa 6 (he_ro 6 r2)), (aI g as_ 25 g0)]) (P := (he_pl g L ln M)) hP [4, 0, 1, 2, 3] rfl
        have hD := he_Dsub (X := [(aI g to_ 25 tl), (aI g sm 25 f), (aM g wa 6 (he_ro 6 r2)), (aI g as_ 25 g0), (oX11 m0 0 ta sz_ pl at_ fa fw cs fd rfm rt_ to_ rw_ wa ct rk rb cn br sm as_ go sh_ ir oa ob th ig sp_ ki tg of_ kp sf rs)]) (X2 := [(oX11 m0 0 ta sz_ pl at_ fa fw cs fd rfm rt_ to_ rw_ wa ct rk rb cn br sm as_ go sh_ ir oa ob th ig sp_ ki tg of_ kp sf rs), (aI g to_ 25 tl), (aI g sm 25 f), (aM g wa 6 (he_ro 6 r2)), (aI g as_ 25 g0)]) (P := (he_pl g L ln M)) hD [4, 0, 1, 2, 3] rfl rfl rfl
        exact loop45 ((n + 1 - 0) + 1) 0 0 (-1) f g0 (Nat.lt_succ_self _) (Nat.zero_le _) (fun _ _ => rfl) _ _ _ hP hD hS (lv_sub hl [3, 4, 5, 2, 1, 0] rfl)
      · exact absurd (by decide) c_12
    · exact absurd c_8 (by decide)
set_option maxHeartbeats 4000000 in
set_option maxRecDepth 100000 in
theorem h_X11_odds (l : Launch) (g : he_G) (m0 : Nat) (fd : Nat) (rfm : Nat) (rt_ : Nat) (to_ : Nat) (rw_ : Nat) (wa : Nat) (rk : Nat) (rb : Nat) (cn : Nat) (br : Nat) (sm : Nat) (as_ : Nat) (go : Nat) (sh_ : Nat) (ki : Nat) (tg : Nat) (of_ : Nat) (kp : Nat) (rs : Nat) (ta : Int32) (sz_ : Int32) (pl : Int32) (at_ : Int32) (fa : Int32) (fw : Int32) (cs : Int32) (ct : Int32) (ir : Int32) (oa : Int32) (ob : Int32) (th : Int32) (ig : Int32) (sp_ : Int32) (sf : Int32) (tw : Int32) (x : Int32) (y : Int32) (hok0 : ¬ he_within x 1 99 = 0) (hok1 : ¬ he_within y 1 99 = 0) : he_V l yX11_odds wsX11_odds 1 23 0 0 g [.ref m0, .int x, .int y] [(oX11 m0 tw ta sz_ pl at_ fa fw cs fd rfm rt_ to_ rw_ wa ct rk rb cn br sm as_ go sh_ ir oa ob th ig sp_ ki tg of_ kp sf rs)] (fun (u : Unit) => True) (fun (u : Unit) => [(oX11 m0 0 ta sz_ pl at_ fa fw cs fd rfm rt_ to_ rw_ wa ct rk rb cn br sm as_ go sh_ ir x y 0 ig sp_ ki tg of_ kp sf rs)]) := by
  refine he_begin (l := l) (g := g) (y := yX11_odds) (wl := wsX11_odds) (fr := 1) (lo := 23) (mc := 0) (ms := 0) (av := [.ref m0, .int x, .int y]) (ws := [(oX11 m0 tw ta sz_ pl at_ fa fw cs fd rfm rt_ to_ rw_ wa ct rk rb cn br sm as_ go sh_ ir oa ob th ig sp_ ki tg of_ kp sf rs)]) (cc := cX11_odds) (maxL := 3) (ret := none) (fun A => va_Qv (fun (u : Unit) => True) (fun u t => he_post g A ((fun (u : Unit) => [(oX11 m0 0 ta sz_ pl at_ fa fw cs fd rfm rt_ to_ rw_ wa ct rk rb cn br sm as_ go sh_ ir x y 0 ig sp_ ki tg of_ kp sf rs)]) u) t) A) (by decide) rfl (Nat.le_of_ble_eq_true rfl) ?_
  intro p e s m args below meth c A ls H locs Q hQ hB
  obtain ⟨hx, hb, hr, hml, hown, hts, hlk, hin, hP, hK, hD, hS, hA, hE, hl⟩ := hB
  have hl : lv_has ls 3 [(0, .ref m0), (1, .int x), (2, .int y)] := hl
  have f85 := hts (.fieldLink RX11 85 "HiredEnemyModel" "thrown" "I") (iwoX11_odds (k := 0) rfl)
  have inX11 : ∀ w ∈ wsX110, w ∈ wsX11_odds := innX11_odds_X11
  have f58 := hts (.fieldLink RX11 58 "HiredEnemyModel" "oddsA" "I") (iwoX11_odds (k := 1) rfl)
  have f61 := hts (.fieldLink RX11 61 "HiredEnemyModel" "oddsB" "I") (iwoX11_odds (k := 2) rfl)
  have f165 := hts (.fieldLink RX11 165 "HiredEnemyModel" "things" "I") (iwoX11_odds (k := 3) rfl)
  refine lv_aload_n hx hb dX11_odds_0 rfl (lv_at hl 0 rfl) ?_
  refine lv_iconst (v := 0) hx hb dX11_odds_1 (by decide) ?_
  refine va_put (v := .int 0) (ty := .int) (T := TX11) (N := 35) hx hb hts inX11 tyX11 tyX11_ok nmX11 hown hK hP hD hS 0 rfl rfl 0 (by decide) f85 (fun _ h9 => h9) rfl (by decide +kernel) rfl rfl (Nat.le_of_ble_eq_true rfl) dX11_odds_2 (fun H locs hP hD hS => ?_)
  have hP : va_P g.1 vwCl [(oX11 m0 0 ta sz_ pl at_ fa fw cs fd rfm rt_ to_ rw_ wa ct rk rb cn br sm as_ go sh_ ir oa ob th ig sp_ ki tg of_ kp sf rs)] H := hP
  have hD : va_D A [(oX11 m0 0 ta sz_ pl at_ fa fw cs fd rfm rt_ to_ rw_ wa ct rk rb cn br sm as_ go sh_ ir oa ob th ig sp_ ki tg of_ kp sf rs)] := hD
  refine lv_aload_n hx hb dX11_odds_5 rfl (lv_at hl 0 rfl) ?_
  refine lv_iload_n hx hb dX11_odds_6 rfl (lv_at hl 1 rfl) ?_
  refine lv_iconst (v := 1) hx hb dX11_odds_7 (by decide) ?_
  refine lv_bipush (v := 99) hx hb dX11_odds_8 (by decide) ?_
  refine he_ci (wc := []) (wr := [(oX11 m0 0 ta sz_ pl at_ fa fw cs fd rfm rt_ to_ rw_ wa ct rk rb cn br sm as_ go sh_ ir oa ob th ig sp_ ki tg of_ kp sf rs)]) (va_runS (As := [.int x, .int 1, .int 99]) (rest := [.ref m0]) ⟨hx, hb, hml, hown, hts⟩ (c_X11_in l g x 1 99 H.size) (va_cwS 3 hts gX11_odds_X11_in rfl rfl rfl (by decide +kernel) ⟨Nat.le_of_ble_eq_true rfl, Nat.le_of_ble_eq_true rfl⟩) (he_preS (wc := []) hK hP hD hS hA hE [] rfl rfl) rfl rfl hl.1 rfl (lv_room (Nat.le_of_ble_eq_true rfl)) dX11_odds_10 ⟨(Nat.le_of_ble_eq_true rfl), (Nat.le_of_ble_eq_true rfl)⟩) hP hD hS hA [] [0] rfl rfl rfl (by decide) (fun r_1 u_2 H locs h_3 hP hD hS => ?_)
  subst h_3
  have hP : va_P g.1 vwCl [(oX11 m0 0 ta sz_ pl at_ fa fw cs fd rfm rt_ to_ rw_ wa ct rk rb cn br sm as_ go sh_ ir oa ob th ig sp_ ki tg of_ kp sf rs)] H := hP
  have hD : va_D A [(oX11 m0 0 ta sz_ pl at_ fa fw cs fd rfm rt_ to_ rw_ wa ct rk rb cn br sm as_ go sh_ ir oa ob th ig sp_ ki tg of_ kp sf rs)] := hD
  refine he_top (1) (he_within_1 hok0) ?_
  refine lv_if_eq (tgt := 26) hx hb dX11_odds_13 (by decide) (fun c_4 => ?_) (fun c_4 => ?_)
  · exact absurd c_4 (by decide)
  · refine lv_iload_n hx hb dX11_odds_16 rfl (lv_at hl 2 rfl) ?_
    refine lv_iconst (v := 1) hx hb dX11_odds_17 (by decide) ?_
    refine lv_bipush (v := 99) hx hb dX11_odds_18 (by decide) ?_
    refine he_ci (wc := []) (wr := [(oX11 m0 0 ta sz_ pl at_ fa fw cs fd rfm rt_ to_ rw_ wa ct rk rb cn br sm as_ go sh_ ir oa ob th ig sp_ ki tg of_ kp sf rs)]) (va_runS (As := [.int y, .int 1, .int 99]) (rest := [.ref m0]) ⟨hx, hb, hml, hown, hts⟩ (c_X11_in l g y 1 99 H.size) (va_cwS 3 hts gX11_odds_X11_in rfl rfl rfl (by decide +kernel) ⟨Nat.le_of_ble_eq_true rfl, Nat.le_of_ble_eq_true rfl⟩) (he_preS (wc := []) hK hP hD hS hA hE [] rfl rfl) rfl rfl hl.1 rfl (lv_room (Nat.le_of_ble_eq_true rfl)) dX11_odds_20 ⟨(Nat.le_of_ble_eq_true rfl), (Nat.le_of_ble_eq_true rfl)⟩) hP hD hS hA [] [0] rfl rfl rfl (by decide) (fun r_5 u_6 H locs h_7 hP hD hS => ?_)
    subst h_7
    have hP : va_P g.1 vwCl [(oX11 m0 0 ta sz_ pl at_ fa fw cs fd rfm rt_ to_ rw_ wa ct rk rb cn br sm as_ go sh_ ir oa ob th ig sp_ ki tg of_ kp sf rs)] H := hP
    have hD : va_D A [(oX11 m0 0 ta sz_ pl at_ fa fw cs fd rfm rt_ to_ rw_ wa ct rk rb cn br sm as_ go sh_ ir oa ob th ig sp_ ki tg of_ kp sf rs)] := hD
    refine he_top (1) (he_within_1 hok1) ?_
    refine lv_if_ne (tgt := 30) hx hb dX11_odds_23 (by decide) (fun c_8 => ?_) (fun c_8 => ?_)
    · refine lv_iconst (v := 0) hx hb dX11_odds_30 (by decide) ?_
      refine lv_iconst (v := 1) hx hb dX11_odds_31 (by decide) ?_
      refine lv_iconst (v := 2) hx hb dX11_odds_32 (by decide) ?_
      refine he_ci (wc := [(oX11 m0 0 ta sz_ pl at_ fa fw cs fd rfm rt_ to_ rw_ wa ct rk rb cn br sm as_ go sh_ ir oa ob th ig sp_ ki tg of_ kp sf rs)]) (wr := []) (va_runV (As := [.int 0, .int 1, .int 2]) (rest := []) ⟨hx, hb, hml, hown, hts⟩ (c_X11_bad0 l g m0 fd rfm rt_ to_ rw_ wa rk rb cn br sm as_ go sh_ ki tg of_ kp rs ta sz_ pl at_ fa fw cs ct ir oa ob th ig sp_ sf 1 2 H.size) (cwV 3 hts gX11_odds_X11_bad rfl rfl rfl (by decide +kernel) ⟨Nat.le_of_ble_eq_true rfl, Nat.le_of_ble_eq_true rfl⟩) (he_preV (wc := [(oX11 m0 0 ta sz_ pl at_ fa fw cs fd rfm rt_ to_ rw_ wa ct rk rb cn br sm as_ go sh_ ir oa ob th ig sp_ ki tg of_ kp sf rs)]) hK hP hD hS hA hE [0] rfl rfl 0 rfl rfl) rfl rfl hl.1 rfl (lv_room (Nat.le_of_ble_eq_true rfl)) dX11_odds_33 ⟨(Nat.le_of_ble_eq_true rfl), (Nat.le_of_ble_eq_true rfl)⟩) hP hD hS hA [0] [] rfl rfl rfl (by decide) (fun r_9 u_10 H locs h_11 hP hD hS => ?_)
      subst h_11
      have hP : va_P g.1 vwCl [(oX11 m0 0 ta sz_ pl at_ fa fw cs fd rfm rt_ to_ rw_ wa ct rk rb cn br sm as_ go sh_ ir oa ob th ig sp_ ki tg of_ kp sf rs)] H := hP
      have hD : va_D A [(oX11 m0 0 ta sz_ pl at_ fa fw cs fd rfm rt_ to_ rw_ wa ct rk rb cn br sm as_ go sh_ ir oa ob th ig sp_ ki tg of_ kp sf rs)] := hD
      refine lv_if_eq (tgt := 40) hx hb dX11_odds_36 (by decide) (fun c_12 => ?_) (fun c_12 => ?_)
      · refine lv_aload_n hx hb dX11_odds_40 rfl (lv_at hl 0 rfl) ?_
        refine lv_iload_n hx hb dX11_odds_41 rfl (lv_at hl 1 rfl) ?_
        refine va_put (v := .int x) (ty := .int) (T := TX11) (N := 35) hx hb hts inX11 tyX11 tyX11_ok nmX11 hown hK hP hD hS 0 rfl rfl 24 (by decide) f58 (fun _ h9 => h9) rfl (by decide +kernel) rfl rfl (Nat.le_of_ble_eq_true rfl) dX11_odds_42 (fun H locs hP hD hS => ?_)
        have hP : va_P g.1 vwCl [(oX11 m0 0 ta sz_ pl at_ fa fw cs fd rfm rt_ to_ rw_ wa ct rk rb cn br sm as_ go sh_ ir x ob th ig sp_ ki tg of_ kp sf rs)] H := hP
        have hD : va_D A [(oX11 m0 0 ta sz_ pl at_ fa fw cs fd rfm rt_ to_ rw_ wa ct rk rb cn br sm as_ go sh_ ir x ob th ig sp_ ki tg of_ kp sf rs)] := hD
        refine lv_aload_n hx hb dX11_odds_45 rfl (lv_at hl 0 rfl) ?_
        refine lv_iload_n hx hb dX11_odds_46 rfl (lv_at hl 2 rfl) ?_
        refine va_put (v := .int y) (ty := .int) (T := TX11) (N := 35) hx hb hts inX11 tyX11 tyX11_ok nmX11 hown hK hP hD hS 0 rfl rfl 25 (by decide) f61 (fun _ h9 => h9) rfl (by decide +kernel) rfl rfl (Nat.le_of_ble_eq_true rfl) dX11_odds_47 (fun H locs hP hD hS => ?_)
        have hP : va_P g.1 vwCl [(oX11 m0 0 ta sz_ pl at_ fa fw cs fd rfm rt_ to_ rw_ wa ct rk rb cn br sm as_ go sh_ ir x y th ig sp_ ki tg of_ kp sf rs)] H := hP
        have hD : va_D A [(oX11 m0 0 ta sz_ pl at_ fa fw cs fd rfm rt_ to_ rw_ wa ct rk rb cn br sm as_ go sh_ ir x y th ig sp_ ki tg of_ kp sf rs)] := hD
        refine lv_aload_n hx hb dX11_odds_50 rfl (lv_at hl 0 rfl) ?_
        refine lv_iconst (v := 0) hx hb dX11_odds_51 (by decide) ?_
        refine va_put (v := .int 0) (ty := .int) (T := TX11) (N := 35) hx hb hts inX11 tyX11 tyX11_ok nmX11 hown hK hP hD hS 0 rfl rfl 26 (by decide) f165 (fun _ h9 => h9) rfl (by decide +kernel) rfl rfl (Nat.le_of_ble_eq_true rfl) dX11_odds_52 (fun H locs hP hD hS => ?_)
        have hP : va_P g.1 vwCl [(oX11 m0 0 ta sz_ pl at_ fa fw cs fd rfm rt_ to_ rw_ wa ct rk rb cn br sm as_ go sh_ ir x y 0 ig sp_ ki tg of_ kp sf rs)] H := hP
        have hD : va_D A [(oX11 m0 0 ta sz_ pl at_ fa fw cs fd rfm rt_ to_ rw_ wa ct rk rb cn br sm as_ go sh_ ir x y 0 ig sp_ ki tg of_ kp sf rs)] := hD
        exact he_rv hQ hx hb hr hlk hP hD hS dX11_odds_55 (Nat.le_of_ble_eq_true rfl) (Nat.le_of_ble_eq_true rfl) (()) (rfl) (trivial)
      · exact absurd (by decide) c_12
    · exact absurd c_8 (by decide)
set_option maxHeartbeats 4000000 in
set_option maxRecDepth 100000 in
theorem h_X11_kind (l : Launch) (g : he_G) (m0 : Nat) (fd : Nat) (rfm : Nat) (rt_ : Nat) (to_ : Nat) (rw_ : Nat) (wa : Nat) (rk : Nat) (rb : Nat) (cn : Nat) (br : Nat) (sm : Nat) (as_ : Nat) (go : Nat) (sh_ : Nat) (ki : Nat) (tg : Nat) (of_ : Nat) (kp : Nat) (rs : Nat) (ta : Int32) (sz_ : Int32) (pl : Int32) (at_ : Int32) (fa : Int32) (fw : Int32) (cs : Int32) (ct : Int32) (ir : Int32) (oa : Int32) (ob : Int32) (th : Int32) (ig : Int32) (sp_ : Int32) (sf : Int32) (tw : Int32) (L : List Nat) (ln : Nat → Nat) (M : Nat → Nat → Int32) (r7 : Nat → Nat) (x : Int32) (y : Int32) (z : Int32) (F_r7 : ∀ i, i < 4 → r7 i ∈ L ∧ ln (r7 i) = 2 ∧ True) (hok0 : ¬ he_within x 0 3 = 0) (hok1 : ¬ he_within y 1 16 = 0) (hok2 : ¬ he_within z 1 16 = 0) : he_V l yX11_kind wsX11_kind 1 23 0 0 g [.ref m0, .int x, .int y, .int z] ([(oX11 m0 tw ta sz_ pl at_ fa fw cs fd rfm rt_ to_ rw_ wa ct rk rb cn br sm as_ go sh_ ir oa ob th ig sp_ ki tg of_ kp sf rs), (aM g ki 4 (he_ro 4 r7))] ++ he_pl g L ln M) (fun (u : Nat → Nat → Int32) => u = va_up M (r7 x.toNatClampNeg) (upd (upd (M (r7 x.toNatClampNeg)) 0 y) 1 z)) (fun (u : Nat → Nat → Int32) => [(oX11 m0 0 ta sz_ pl at_ fa fw cs fd rfm rt_ to_ rw_ wa ct rk rb cn br sm as_ go sh_ ir oa ob th ig sp_ ki tg of_ kp sf rs), (aM g ki 4 (he_ro 4 r7))] ++ he_pl g L ln u) := by
  refine he_begin (l := l) (g := g) (y := yX11_kind) (wl := wsX11_kind) (fr := 1) (lo := 23) (mc := 0) (ms := 0) (av := [.ref m0, .int x, .int y, .int z]) (ws := ([(oX11 m0 tw ta sz_ pl at_ fa fw cs fd rfm rt_ to_ rw_ wa ct rk rb cn br sm as_ go sh_ ir oa ob th ig sp_ ki tg of_ kp sf rs), (aM g ki 4 (he_ro 4 r7))] ++ he_pl g L ln M)) (cc := cX11_kind) (maxL := 4) (ret := none) (fun A => va_Qv (fun (u : Nat → Nat → Int32) => u = va_up M (r7 x.toNatClampNeg) (upd (upd (M (r7 x.toNatClampNeg)) 0 y) 1 z)) (fun u t => he_post g A ((fun (u : Nat → Nat → Int32) => [(oX11 m0 0 ta sz_ pl at_ fa fw cs fd rfm rt_ to_ rw_ wa ct rk rb cn br sm as_ go sh_ ir oa ob th ig sp_ ki tg of_ kp sf rs), (aM g ki 4 (he_ro 4 r7))] ++ he_pl g L ln u) u) t) A) (by decide) rfl (Nat.le_of_ble_eq_true rfl) ?_
  intro p e s m args below meth c A ls H locs Q hQ hB
  obtain ⟨hx, hb, hr, hml, hown, hts, hlk, hin, hP, hK, hD, hS, hA, hE, hl⟩ := hB
  have hl : lv_has ls 4 [(0, .ref m0), (1, .int x), (2, .int y), (3, .int z)] := hl
  have f85 := hts (.fieldLink RX11 85 "HiredEnemyModel" "thrown" "I") (iwoX11_kind (k := 0) rfl)
  have inX11 : ∀ w ∈ wsX110, w ∈ wsX11_kind := innX11_kind_X11
  have f64 := hts (.fieldLink RX11 64 "HiredEnemyModel" "kind" "[[I") (iwoX11_kind (k := 1) rfl)
  refine lv_aload_n hx hb dX11_kind_0 rfl (lv_at hl 0 rfl) ?_
  refine lv_iconst (v := 0) hx hb dX11_kind_1 (by decide) ?_
  refine va_put (v := .int 0) (ty := .int) (T := TX11) (N := 35) hx hb hts inX11 tyX11 tyX11_ok nmX11 hown hK hP hD hS 0 rfl rfl 0 (by decide) f85 (fun _ h9 => h9) rfl (by decide +kernel) rfl rfl (Nat.le_of_ble_eq_true rfl) dX11_kind_2 (fun H locs hP hD hS => ?_)
  have hP : va_P g.1 vwCl ([(oX11 m0 0 ta sz_ pl at_ fa fw cs fd rfm rt_ to_ rw_ wa ct rk rb cn br sm as_ go sh_ ir oa ob th ig sp_ ki tg of_ kp sf rs), (aM g ki 4 (he_ro 4 r7))] ++ he_pl g L ln M) H := hP
  have hD : va_D A ([(oX11 m0 0 ta sz_ pl at_ fa fw cs fd rfm rt_ to_ rw_ wa ct rk rb cn br sm as_ go sh_ ir oa ob th ig sp_ ki tg of_ kp sf rs), (aM g ki 4 (he_ro 4 r7))] ++ he_pl g L ln M) := hD
  refine lv_aload_n hx hb dX11_kind_5 rfl (lv_at hl 0 rfl) ?_
  refine lv_iload_n hx hb dX11_kind_6 rfl (lv_at hl 1 rfl) ?_
  refine lv_iconst (v := 0) hx hb dX11_kind_7 (by decide) ?_
  refine lv_iconst (v := 3) hx hb dX11_kind_8 (by decide) ?_
  refine he_ci (wc := []) (wr := ([(oX11 m0 0 ta sz_ pl at_ fa fw cs fd rfm rt_ to_ rw_ wa ct rk rb cn br sm as_ go sh_ ir oa ob th ig sp_ ki tg of_ kp sf rs), (aM g ki 4 (he_ro 4 r7))] ++ (he_pl g L ln M))) (va_runS (As := [.int x, .int 0, .int 3]) (rest := [.ref m0]) ⟨hx, hb, hml, hown, hts⟩ (c_X11_in l g x 0 3 H.size) (va_cwS 3 hts gX11_kind_X11_in rfl rfl rfl (by decide +kernel) ⟨Nat.le_of_ble_eq_true rfl, Nat.le_of_ble_eq_true rfl⟩) (he_preS (wc := []) hK hP hD hS hA hE [] rfl rfl) rfl rfl hl.1 rfl (lv_room (Nat.le_of_ble_eq_true rfl)) dX11_kind_9 ⟨(Nat.le_of_ble_eq_true rfl), (Nat.le_of_ble_eq_true rfl)⟩) hP hD hS hA [] (he_is [0, 1] [(oX11 m0 0 ta sz_ pl at_ fa fw cs fd rfm rt_ to_ rw_ wa ct rk rb cn br sm as_ go sh_ ir oa ob th ig sp_ ki tg of_ kp sf rs), (aM g ki 4 (he_ro 4 r7))] (he_pl g L ln M)) rfl (he_ixP rfl) (he_ndP rfl rfl) (he_disN (by decide) rfl) (fun r_1 u_2 H locs h_3 hP hD hS => ?_)
  have hP := va_P.swap hP
  have hD := va_D.swap hD
  subst h_3
  have hP : va_P g.1 vwCl ([(oX11 m0 0 ta sz_ pl at_ fa fw cs fd rfm rt_ to_ rw_ wa ct rk rb cn br sm as_ go sh_ ir oa ob th ig sp_ ki tg of_ kp sf rs), (aM g ki 4 (he_ro 4 r7))] ++ he_pl g L ln M) H := hP
  have hD : va_D A ([(oX11 m0 0 ta sz_ pl at_ fa fw cs fd rfm rt_ to_ rw_ wa ct rk rb cn br sm as_ go sh_ ir oa ob th ig sp_ ki tg of_ kp sf rs), (aM g ki 4 (he_ro 4 r7))] ++ he_pl g L ln M) := hD
  refine he_top (1) (he_within_1 hok0) ?_
  refine lv_if_eq (tgt := 35) hx hb dX11_kind_12 (by decide) (fun c_4 => ?_) (fun c_4 => ?_)
  · exact absurd c_4 (by decide)
  · refine lv_iload_n hx hb dX11_kind_15 rfl (lv_at hl 2 rfl) ?_
    refine lv_iconst (v := 1) hx hb dX11_kind_16 (by decide) ?_
    refine lv_bipush (v := 16) hx hb dX11_kind_17 (by decide) ?_
    refine he_ci (wc := []) (wr := ([(oX11 m0 0 ta sz_ pl at_ fa fw cs fd rfm rt_ to_ rw_ wa ct rk rb cn br sm as_ go sh_ ir oa ob th ig sp_ ki tg of_ kp sf rs), (aM g ki 4 (he_ro 4 r7))] ++ (he_pl g L ln M))) (va_runS (As := [.int y, .int 1, .int 16]) (rest := [.ref m0]) ⟨hx, hb, hml, hown, hts⟩ (c_X11_in l g y 1 16 H.size) (va_cwS 3 hts gX11_kind_X11_in rfl rfl rfl (by decide +kernel) ⟨Nat.le_of_ble_eq_true rfl, Nat.le_of_ble_eq_true rfl⟩) (he_preS (wc := []) hK hP hD hS hA hE [] rfl rfl) rfl rfl hl.1 rfl (lv_room (Nat.le_of_ble_eq_true rfl)) dX11_kind_19 ⟨(Nat.le_of_ble_eq_true rfl), (Nat.le_of_ble_eq_true rfl)⟩) hP hD hS hA [] (he_is [0, 1] [(oX11 m0 0 ta sz_ pl at_ fa fw cs fd rfm rt_ to_ rw_ wa ct rk rb cn br sm as_ go sh_ ir oa ob th ig sp_ ki tg of_ kp sf rs), (aM g ki 4 (he_ro 4 r7))] (he_pl g L ln M)) rfl (he_ixP rfl) (he_ndP rfl rfl) (he_disN (by decide) rfl) (fun r_5 u_6 H locs h_7 hP hD hS => ?_)
    have hP := va_P.swap hP
    have hD := va_D.swap hD
    subst h_7
    have hP : va_P g.1 vwCl ([(oX11 m0 0 ta sz_ pl at_ fa fw cs fd rfm rt_ to_ rw_ wa ct rk rb cn br sm as_ go sh_ ir oa ob th ig sp_ ki tg of_ kp sf rs), (aM g ki 4 (he_ro 4 r7))] ++ he_pl g L ln M) H := hP
    have hD : va_D A ([(oX11 m0 0 ta sz_ pl at_ fa fw cs fd rfm rt_ to_ rw_ wa ct rk rb cn br sm as_ go sh_ ir oa ob th ig sp_ ki tg of_ kp sf rs), (aM g ki 4 (he_ro 4 r7))] ++ he_pl g L ln M) := hD
    refine he_top (1) (he_within_1 hok1) ?_
    refine lv_if_eq (tgt := 35) hx hb dX11_kind_22 (by decide) (fun c_8 => ?_) (fun c_8 => ?_)
    · exact absurd c_8 (by decide)
    · refine lv_iload_n hx hb dX11_kind_25 rfl (lv_at hl 3 rfl) ?_
      refine lv_iconst (v := 1) hx hb dX11_kind_26 (by decide) ?_
      refine lv_bipush (v := 16) hx hb dX11_kind_27 (by decide) ?_
      refine he_ci (wc := []) (wr := ([(oX11 m0 0 ta sz_ pl at_ fa fw cs fd rfm rt_ to_ rw_ wa ct rk rb cn br sm as_ go sh_ ir oa ob th ig sp_ ki tg of_ kp sf rs), (aM g ki 4 (he_ro 4 r7))] ++ (he_pl g L ln M))) (va_runS (As := [.int z, .int 1, .int 16]) (rest := [.ref m0]) ⟨hx, hb, hml, hown, hts⟩ (c_X11_in l g z 1 16 H.size) (va_cwS 3 hts gX11_kind_X11_in rfl rfl rfl (by decide +kernel) ⟨Nat.le_of_ble_eq_true rfl, Nat.le_of_ble_eq_true rfl⟩) (he_preS (wc := []) hK hP hD hS hA hE [] rfl rfl) rfl rfl hl.1 rfl (lv_room (Nat.le_of_ble_eq_true rfl)) dX11_kind_29 ⟨(Nat.le_of_ble_eq_true rfl), (Nat.le_of_ble_eq_true rfl)⟩) hP hD hS hA [] (he_is [0, 1] [(oX11 m0 0 ta sz_ pl at_ fa fw cs fd rfm rt_ to_ rw_ wa ct rk rb cn br sm as_ go sh_ ir oa ob th ig sp_ ki tg of_ kp sf rs), (aM g ki 4 (he_ro 4 r7))] (he_pl g L ln M)) rfl (he_ixP rfl) (he_ndP rfl rfl) (he_disN (by decide) rfl) (fun r_9 u_10 H locs h_11 hP hD hS => ?_)
      have hP := va_P.swap hP
      have hD := va_D.swap hD
      subst h_11
      have hP : va_P g.1 vwCl ([(oX11 m0 0 ta sz_ pl at_ fa fw cs fd rfm rt_ to_ rw_ wa ct rk rb cn br sm as_ go sh_ ir oa ob th ig sp_ ki tg of_ kp sf rs), (aM g ki 4 (he_ro 4 r7))] ++ he_pl g L ln M) H := hP
      have hD : va_D A ([(oX11 m0 0 ta sz_ pl at_ fa fw cs fd rfm rt_ to_ rw_ wa ct rk rb cn br sm as_ go sh_ ir oa ob th ig sp_ ki tg of_ kp sf rs), (aM g ki 4 (he_ro 4 r7))] ++ he_pl g L ln M) := hD
      refine he_top (1) (he_within_1 hok2) ?_
      refine lv_if_ne (tgt := 39) hx hb dX11_kind_32 (by decide) (fun c_12 => ?_) (fun c_12 => ?_)
      · refine lv_iconst (v := 0) hx hb dX11_kind_39 (by decide) ?_
        refine lv_iconst (v := 1) hx hb dX11_kind_40 (by decide) ?_
        refine lv_iconst (v := 2) hx hb dX11_kind_41 (by decide) ?_
        refine he_ci (wc := [(oX11 m0 0 ta sz_ pl at_ fa fw cs fd rfm rt_ to_ rw_ wa ct rk rb cn br sm as_ go sh_ ir oa ob th ig sp_ ki tg of_ kp sf rs)]) (wr := ([(aM g ki 4 (he_ro 4 r7))] ++ (he_pl g L ln M))) (va_runV (As := [.int 0, .int 1, .int 2]) (rest := []) ⟨hx, hb, hml, hown, hts⟩ (c_X11_bad0 l g m0 fd rfm rt_ to_ rw_ wa rk rb cn br sm as_ go sh_ ki tg of_ kp rs ta sz_ pl at_ fa fw cs ct ir oa ob th ig sp_ sf 1 2 H.size) (cwV 3 hts gX11_kind_X11_bad rfl rfl rfl (by decide +kernel) ⟨Nat.le_of_ble_eq_true rfl, Nat.le_of_ble_eq_true rfl⟩) (he_preV (wc := [(oX11 m0 0 ta sz_ pl at_ fa fw cs fd rfm rt_ to_ rw_ wa ct rk rb cn br sm as_ go sh_ ir oa ob th ig sp_ ki tg of_ kp sf rs)]) hK hP hD hS hA hE [0] rfl rfl 0 rfl rfl) rfl rfl hl.1 rfl (lv_room (Nat.le_of_ble_eq_true rfl)) dX11_kind_42 ⟨(Nat.le_of_ble_eq_true rfl), (Nat.le_of_ble_eq_true rfl)⟩) hP hD hS hA [0] (he_is [1] [(oX11 m0 0 ta sz_ pl at_ fa fw cs fd rfm rt_ to_ rw_ wa ct rk rb cn br sm as_ go sh_ ir oa ob th ig sp_ ki tg of_ kp sf rs), (aM g ki 4 (he_ro 4 r7))] (he_pl g L ln M)) rfl (he_ixP rfl) (he_ndP rfl rfl) (he_disN (by decide) rfl) (fun r_13 u_14 H locs h_15 hP hD hS => ?_)
        have hP := va_P.swap hP
        have hD := va_D.swap hD
        subst h_15
        have hP : va_P g.1 vwCl ([(aM g ki 4 (he_ro 4 r7)), (oX11 m0 0 ta sz_ pl at_ fa fw cs fd rfm rt_ to_ rw_ wa ct rk rb cn br sm as_ go sh_ ir oa ob th ig sp_ ki tg of_ kp sf rs)] ++ he_pl g L ln M) H := hP
        have hD : va_D A ([(aM g ki 4 (he_ro 4 r7)), (oX11 m0 0 ta sz_ pl at_ fa fw cs fd rfm rt_ to_ rw_ wa ct rk rb cn br sm as_ go sh_ ir oa ob th ig sp_ ki tg of_ kp sf rs)] ++ he_pl g L ln M) := hD
        refine lv_if_eq (tgt := 49) hx hb dX11_kind_45 (by decide) (fun c_16 => ?_) (fun c_16 => ?_)
        · refine lv_aload_n hx hb dX11_kind_49 rfl (lv_at hl 0 rfl) ?_
          refine va_get (v := .ref ki) (T := TX11) (N := 35) hx hb hts inX11 hown hK hP 1 rfl rfl 29 (by decide) f64 (fun _ h9 => h9) rfl dX11_kind_50 ?_
          refine lv_iload_n hx hb dX11_kind_53 rfl (lv_at hl 1 rfl) ?_
          refine he_aldm hx hb hK hP 0 rfl (x.toNatClampNeg) (he_within_nat (B := 3) rfl (by decide) hok0).1 (Nat.lt_of_le_of_lt (he_within_nat (B := 3) rfl (by decide) hok0).2 (by decide)) (by decide) dX11_kind_54 ?_
          refine lv_iconst (v := 0) hx hb dX11_kind_55 (by decide) ?_
          refine lv_iload_n hx hb dX11_kind_56 rfl (lv_at hl 2 rfl) ?_
          refine he_past hx hb hK hP hD hS (F_r7 x.toNatClampNeg (Nat.lt_of_le_of_lt (he_within_nat (B := 3) rfl (by decide) hok0).2 (by decide))).1 (0) (by decide) (by rw [(F_r7 x.toNatClampNeg (Nat.lt_of_le_of_lt (he_within_nat (B := 3) rfl (by decide) hok0).2 (by decide))).2.1]; exact (by decide)) (by rw [(F_r7 x.toNatClampNeg (Nat.lt_of_le_of_lt (he_within_nat (B := 3) rfl (by decide) hok0).2 (by decide))).2.1]; decide) dX11_kind_57 (fun H locs hP hD hS => ?_)
          have hP : va_P g.1 vwCl ([(aM g ki 4 (he_ro 4 r7)), (oX11 m0 0 ta sz_ pl at_ fa fw cs fd rfm rt_ to_ rw_ wa ct rk rb cn br sm as_ go sh_ ir oa ob th ig sp_ ki tg of_ kp sf rs)] ++ he_pl g L ln (va_up M (r7 x.toNatClampNeg) (upd (M (r7 x.toNatClampNeg)) 0 y))) H := hP
          have hD : va_D A ([(aM g ki 4 (he_ro 4 r7)), (oX11 m0 0 ta sz_ pl at_ fa fw cs fd rfm rt_ to_ rw_ wa ct rk rb cn br sm as_ go sh_ ir oa ob th ig sp_ ki tg of_ kp sf rs)] ++ he_pl g L ln (va_up M (r7 x.toNatClampNeg) (upd (M (r7 x.toNatClampNeg)) 0 y))) := hD
          refine lv_aload_n hx hb dX11_kind_58 rfl (lv_at hl 0 rfl) ?_
          refine va_get (v := .ref ki) (T := TX11) (N := 35) hx hb hts inX11 hown hK hP 1 rfl rfl 29 (by decide) f64 (fun _ h9 => h9) rfl dX11_kind_59 ?_
          refine lv_iload_n hx hb dX11_kind_62 rfl (lv_at hl 1 rfl) ?_
          refine he_aldm hx hb hK hP 0 rfl (x.toNatClampNeg) (he_within_nat (B := 3) rfl (by decide) hok0).1 (Nat.lt_of_le_of_lt (he_within_nat (B := 3) rfl (by decide) hok0).2 (by decide)) (by decide) dX11_kind_63 ?_
          refine lv_iconst (v := 1) hx hb dX11_kind_64 (by decide) ?_
          refine lv_iload_n hx hb dX11_kind_65 rfl (lv_at hl 3 rfl) ?_
          refine he_past hx hb hK hP hD hS (F_r7 x.toNatClampNeg (Nat.lt_of_le_of_lt (he_within_nat (B := 3) rfl (by decide) hok0).2 (by decide))).1 (1) (by decide) (by rw [(F_r7 x.toNatClampNeg (Nat.lt_of_le_of_lt (he_within_nat (B := 3) rfl (by decide) hok0).2 (by decide))).2.1]; exact (by decide)) (by rw [(F_r7 x.toNatClampNeg (Nat.lt_of_le_of_lt (he_within_nat (B := 3) rfl (by decide) hok0).2 (by decide))).2.1]; decide) dX11_kind_66 (fun H locs hP hD hS => ?_)
          have hP : va_P g.1 vwCl ([(aM g ki 4 (he_ro 4 r7)), (oX11 m0 0 ta sz_ pl at_ fa fw cs fd rfm rt_ to_ rw_ wa ct rk rb cn br sm as_ go sh_ ir oa ob th ig sp_ ki tg of_ kp sf rs)] ++ he_pl g L ln (va_up (va_up M (r7 x.toNatClampNeg) (upd (M (r7 x.toNatClampNeg)) 0 y)) (r7 x.toNatClampNeg) (upd ((va_up M (r7 x.toNatClampNeg) (upd (M (r7 x.toNatClampNeg)) 0 y)) (r7 x.toNatClampNeg)) 1 z))) H := hP
          have hD : va_D A ([(aM g ki 4 (he_ro 4 r7)), (oX11 m0 0 ta sz_ pl at_ fa fw cs fd rfm rt_ to_ rw_ wa ct rk rb cn br sm as_ go sh_ ir oa ob th ig sp_ ki tg of_ kp sf rs)] ++ he_pl g L ln (va_up (va_up M (r7 x.toNatClampNeg) (upd (M (r7 x.toNatClampNeg)) 0 y)) (r7 x.toNatClampNeg) (upd ((va_up M (r7 x.toNatClampNeg) (upd (M (r7 x.toNatClampNeg)) 0 y)) (r7 x.toNatClampNeg)) 1 z))) := hD
          have hP := he_Psub (X := [(aM g ki 4 (he_ro 4 r7)), (oX11 m0 0 ta sz_ pl at_ fa fw cs fd rfm rt_ to_ rw_ wa ct rk rb cn br sm as_ go sh_ ir oa ob th ig sp_ ki tg of_ kp sf rs)]) (X2 := [(oX11 m0 0 ta sz_ pl at_ fa fw cs fd rfm rt_ to_ rw_ wa ct rk rb cn br sm as_ go sh_ ir oa ob th ig sp_ ki tg of_ kp sf rs), (aM g ki 4 (he_ro 4 r7))]) (P := (he_pl g L ln (va_up (va_up M (r7 x.toNatClampNeg) (upd (M (r7 x.toNatClampNeg)) 0 y)) (r7 x.toNatClampNeg) (upd ((va_up M (r7 x.toNatClampNeg) (upd (M (r7 x.toNatClampNeg)) 0 y)) (r7 x.toNatClampNeg)) 1 z)))) hP [1, 0] rfl
          have hD := he_Dsub (X := [(aM g ki 4 (he_ro 4 r7)), (oX11 m0 0 ta sz_ pl at_ fa fw cs fd rfm rt_ to_ rw_ wa ct rk rb cn br sm as_ go sh_ ir oa ob th ig sp_ ki tg of_ kp sf rs)]) (X2 := [(oX11 m0 0 ta sz_ pl at_ fa fw cs fd rfm rt_ to_ rw_ wa ct rk rb cn br sm as_ go sh_ ir oa ob th ig sp_ ki tg of_ kp sf rs), (aM g ki 4 (he_ro 4 r7))]) (P := (he_pl g L ln (va_up (va_up M (r7 x.toNatClampNeg) (upd (M (r7 x.toNatClampNeg)) 0 y)) (r7 x.toNatClampNeg) (upd ((va_up M (r7 x.toNatClampNeg) (upd (M (r7 x.toNatClampNeg)) 0 y)) (r7 x.toNatClampNeg)) 1 z)))) hD [1, 0] rfl rfl rfl
          exact he_rv hQ hx hb hr hlk hP hD hS dX11_kind_67 (Nat.le_of_ble_eq_true rfl) (Nat.le_of_ble_eq_true rfl) (va_up (va_up M (r7 x.toNatClampNeg) (upd (M (r7 x.toNatClampNeg)) 0 y)) (r7 x.toNatClampNeg) (upd ((va_up M (r7 x.toNatClampNeg) (upd (M (r7 x.toNatClampNeg)) 0 y)) (r7 x.toNatClampNeg)) 1 z)) (rfl) (up2)
        · exact absurd (by decide) c_16
      · exact absurd c_12 (by decide)
set_option maxHeartbeats 4000000 in
set_option maxRecDepth 100000 in
theorem h_X11_isSeen (l : Launch) (g : he_G) (m0 : Nat) (fd : Nat) (rfm : Nat) (rt_ : Nat) (to_ : Nat) (rw_ : Nat) (wa : Nat) (rk : Nat) (rb : Nat) (cn : Nat) (br : Nat) (sm : Nat) (as_ : Nat) (go : Nat) (sh_ : Nat) (ki : Nat) (tg : Nat) (of_ : Nat) (kp : Nat) (rs : Nat) (ta : Int32) (sz_ : Int32) (pl : Int32) (at_ : Int32) (fa : Int32) (fw : Int32) (cs : Int32) (ct : Int32) (ir : Int32) (oa : Int32) (ob : Int32) (ig : Int32) (sp_ : Int32) (sf : Int32) (tw : Int32) (th : Nat) (L : List Nat) (ln : Nat → Nat) (M : Nat → Nat → Int32) (r8 : Nat → Nat) (x : Int32) (y : Int32) (F_r8 : ∀ i, i < 12 → r8 i ∈ L ∧ ln (r8 i) = 2 ∧ True) (hth : th < 12) : he_I l yX11_isSeen wsX11_isSeen 0 0 0 0 g [.ref m0, .int x, .int y] ([(oX11 m0 tw ta sz_ pl at_ fa fw cs fd rfm rt_ to_ rw_ wa ct rk rb cn br sm as_ go sh_ ir oa ob (nI th) ig sp_ ki tg of_ kp sf rs), (aM g tg 12 (he_ro 12 r8))] ++ he_pl g L ln M) (fun (r : Int32) (u : Nat → Nat → Int32) => r = nI (th + 1) ∧ u = va_up M (r8 th) (upd (upd (M (r8 th)) 0 x) 1 y)) (fun (u : Nat → Nat → Int32) => [(oX11 m0 tw ta sz_ pl at_ fa fw cs fd rfm rt_ to_ rw_ wa ct rk rb cn br sm as_ go sh_ ir oa ob (nI (th + 1)) ig sp_ ki tg of_ kp sf rs), (aM g tg 12 (he_ro 12 r8))] ++ he_pl g L ln u) := by
  refine he_begin (l := l) (g := g) (y := yX11_isSeen) (wl := wsX11_isSeen) (fr := 0) (lo := 0) (mc := 0) (ms := 0) (av := [.ref m0, .int x, .int y]) (ws := ([(oX11 m0 tw ta sz_ pl at_ fa fw cs fd rfm rt_ to_ rw_ wa ct rk rb cn br sm as_ go sh_ ir oa ob (nI th) ig sp_ ki tg of_ kp sf rs), (aM g tg 12 (he_ro 12 r8))] ++ he_pl g L ln M)) (cc := cX11_isSeen) (maxL := 3) (ret := (some .int)) (fun A => va_Qi (fun (r : Int32) (u : Nat → Nat → Int32) => r = nI (th + 1) ∧ u = va_up M (r8 th) (upd (upd (M (r8 th)) 0 x) 1 y)) (fun u t => he_post g A ((fun (u : Nat → Nat → Int32) => [(oX11 m0 tw ta sz_ pl at_ fa fw cs fd rfm rt_ to_ rw_ wa ct rk rb cn br sm as_ go sh_ ir oa ob (nI (th + 1)) ig sp_ ki tg of_ kp sf rs), (aM g tg 12 (he_ro 12 r8))] ++ he_pl g L ln u) u) t) A) (by decide) rfl (Nat.le_of_ble_eq_true rfl) ?_
  intro p e s m args below meth c A ls H locs Q hQ hB
  obtain ⟨hx, hb, hr, hml, hown, hts, hlk, hin, hP, hK, hD, hS, hA, hE, hl⟩ := hB
  have hl : lv_has ls 3 [(0, .ref m0), (1, .int x), (2, .int y)] := hl
  have f165 := hts (.fieldLink RX11 165 "HiredEnemyModel" "things" "I") (iwoX11_isSeen (k := 0) rfl)
  have inX11 : ∀ w ∈ wsX110, w ∈ wsX11_isSeen := innX11_isSeen_X11
  have f67 := hts (.fieldLink RX11 67 "HiredEnemyModel" "thing" "[[I") (iwoX11_isSeen (k := 1) rfl)
  refine lv_aload_n hx hb dX11_isSeen_0 rfl (lv_at hl 0 rfl) ?_
  refine va_get (v := .int (nI th)) (T := TX11) (N := 35) hx hb hts inX11 hown hK hP 0 rfl rfl 26 (by decide) f165 (fun _ h9 => h9) rfl dX11_isSeen_1 ?_
  refine lv_bipush (v := 12) hx hb dX11_isSeen_4 (by decide) ?_
  refine lv_icmp_ne (tgt := 11) hx hb dX11_isSeen_6 (by decide) (fun c_1 => ?_) (fun c_1 => ?_)
  · refine lv_aload_n hx hb dX11_isSeen_11 rfl (lv_at hl 0 rfl) ?_
    refine va_get (v := .ref tg) (T := TX11) (N := 35) hx hb hts inX11 hown hK hP 0 rfl rfl 30 (by decide) f67 (fun _ h9 => h9) rfl dX11_isSeen_12 ?_
    refine lv_aload_n hx hb dX11_isSeen_15 rfl (lv_at hl 0 rfl) ?_
    refine va_get (v := .int (nI th)) (T := TX11) (N := 35) hx hb hts inX11 hown hK hP 0 rfl rfl 26 (by decide) f165 (fun _ h9 => h9) rfl dX11_isSeen_16 ?_
    refine he_aldm hx hb hK hP 1 rfl (th) rfl (by first | assumption | decide | omega) (by decide) dX11_isSeen_19 ?_
    refine lv_iconst (v := 0) hx hb dX11_isSeen_20 (by decide) ?_
    refine lv_iload_n hx hb dX11_isSeen_21 rfl (lv_at hl 1 rfl) ?_
    refine he_past hx hb hK hP hD hS (F_r8 th (by first | assumption | decide | omega)).1 (0) (by decide) (by rw [(F_r8 th (by first | assumption | decide | omega)).2.1]; exact (by decide)) (by rw [(F_r8 th (by first | assumption | decide | omega)).2.1]; decide) dX11_isSeen_22 (fun H locs hP hD hS => ?_)
    have hP : va_P g.1 vwCl ([(oX11 m0 tw ta sz_ pl at_ fa fw cs fd rfm rt_ to_ rw_ wa ct rk rb cn br sm as_ go sh_ ir oa ob (nI th) ig sp_ ki tg of_ kp sf rs), (aM g tg 12 (he_ro 12 r8))] ++ he_pl g L ln (va_up M (r8 th) (upd (M (r8 th)) 0 x))) H := hP
    have hD : va_D A ([(oX11 m0 tw ta sz_ pl at_ fa fw cs fd rfm rt_ to_ rw_ wa ct rk rb cn br sm as_ go sh_ ir oa ob (nI th) ig sp_ ki tg of_ kp sf rs), (aM g tg 12 (he_ro 12 r8))] ++ he_pl g L ln (va_up M (r8 th) (upd (M (r8 th)) 0 x))) := hD
    refine lv_aload_n hx hb dX11_isSeen_23 rfl (lv_at hl 0 rfl) ?_
    refine va_get (v := .ref tg) (T := TX11) (N := 35) hx hb hts inX11 hown hK hP 0 rfl rfl 30 (by decide) f67 (fun _ h9 => h9) rfl dX11_isSeen_24 ?_
    refine lv_aload_n hx hb dX11_isSeen_27 rfl (lv_at hl 0 rfl) ?_
    refine va_get (v := .int (nI th)) (T := TX11) (N := 35) hx hb hts inX11 hown hK hP 0 rfl rfl 26 (by decide) f165 (fun _ h9 => h9) rfl dX11_isSeen_28 ?_
    refine he_aldm hx hb hK hP 1 rfl (th) rfl (by first | assumption | decide | omega) (by decide) dX11_isSeen_31 ?_
    refine lv_iconst (v := 1) hx hb dX11_isSeen_32 (by decide) ?_
    refine lv_iload_n hx hb dX11_isSeen_33 rfl (lv_at hl 2 rfl) ?_
    refine he_past hx hb hK hP hD hS (F_r8 th (by first | assumption | decide | omega)).1 (1) (by decide) (by rw [(F_r8 th (by first | assumption | decide | omega)).2.1]; exact (by decide)) (by rw [(F_r8 th (by first | assumption | decide | omega)).2.1]; decide) dX11_isSeen_34 (fun H locs hP hD hS => ?_)
    have hP : va_P g.1 vwCl ([(oX11 m0 tw ta sz_ pl at_ fa fw cs fd rfm rt_ to_ rw_ wa ct rk rb cn br sm as_ go sh_ ir oa ob (nI th) ig sp_ ki tg of_ kp sf rs), (aM g tg 12 (he_ro 12 r8))] ++ he_pl g L ln (va_up (va_up M (r8 th) (upd (M (r8 th)) 0 x)) (r8 th) (upd ((va_up M (r8 th) (upd (M (r8 th)) 0 x)) (r8 th)) 1 y))) H := hP
    have hD : va_D A ([(oX11 m0 tw ta sz_ pl at_ fa fw cs fd rfm rt_ to_ rw_ wa ct rk rb cn br sm as_ go sh_ ir oa ob (nI th) ig sp_ ki tg of_ kp sf rs), (aM g tg 12 (he_ro 12 r8))] ++ he_pl g L ln (va_up (va_up M (r8 th) (upd (M (r8 th)) 0 x)) (r8 th) (upd ((va_up M (r8 th) (upd (M (r8 th)) 0 x)) (r8 th)) 1 y))) := hD
    refine lv_aload_n hx hb dX11_isSeen_35 rfl (lv_at hl 0 rfl) ?_
    refine lv_dup hx hb dX11_isSeen_36 rfl ?_
    refine va_get (v := .int (nI th)) (T := TX11) (N := 35) hx hb hts inX11 hown hK hP 0 rfl rfl 26 (by decide) f165 (fun _ h9 => h9) rfl dX11_isSeen_37 ?_
    refine lv_iconst (v := 1) hx hb dX11_isSeen_40 (by decide) ?_
    refine lv_iadd hx hb dX11_isSeen_41 ?_
    refine he_top (nI (th + 1)) (nI_add th 1) ?_
    refine va_put (v := .int (nI (th + 1))) (ty := .int) (T := TX11) (N := 35) hx hb hts inX11 tyX11 tyX11_ok nmX11 hown hK hP hD hS 0 rfl rfl 26 (by decide) f165 (fun _ h9 => h9) rfl (by decide +kernel) rfl rfl (Nat.le_of_ble_eq_true rfl) dX11_isSeen_42 (fun H locs hP hD hS => ?_)
    have hP : va_P g.1 vwCl ([(oX11 m0 tw ta sz_ pl at_ fa fw cs fd rfm rt_ to_ rw_ wa ct rk rb cn br sm as_ go sh_ ir oa ob (nI (th + 1)) ig sp_ ki tg of_ kp sf rs), (aM g tg 12 (he_ro 12 r8))] ++ he_pl g L ln (va_up (va_up M (r8 th) (upd (M (r8 th)) 0 x)) (r8 th) (upd ((va_up M (r8 th) (upd (M (r8 th)) 0 x)) (r8 th)) 1 y))) H := hP
    have hD : va_D A ([(oX11 m0 tw ta sz_ pl at_ fa fw cs fd rfm rt_ to_ rw_ wa ct rk rb cn br sm as_ go sh_ ir oa ob (nI (th + 1)) ig sp_ ki tg of_ kp sf rs), (aM g tg 12 (he_ro 12 r8))] ++ he_pl g L ln (va_up (va_up M (r8 th) (upd (M (r8 th)) 0 x)) (r8 th) (upd ((va_up M (r8 th) (upd (M (r8 th)) 0 x)) (r8 th)) 1 y))) := hD
    refine lv_aload_n hx hb dX11_isSeen_45 rfl (lv_at hl 0 rfl) ?_
    refine va_get (v := .int (nI (th + 1))) (T := TX11) (N := 35) hx hb hts inX11 hown hK hP 0 rfl rfl 26 (by decide) f165 (fun _ h9 => h9) rfl dX11_isSeen_46 ?_
    exact he_ri hQ hx hb hr hlk hP hD hS dX11_isSeen_49 (Nat.le_of_ble_eq_true rfl) (Nat.le_of_ble_eq_true rfl) (va_up (va_up M (r8 th) (upd (M (r8 th)) 0 x)) (r8 th) (upd ((va_up M (r8 th) (upd (M (r8 th)) 0 x)) (r8 th)) 1 y)) (rfl) (⟨rfl, up2⟩)
  · exact absurd c_1 (fun h9 => absurd ((he_ceq (a := th) (b := 12) rfl (by decide) (by omega) (by decide)).mp h9) (by omega))
set_option maxHeartbeats 4000000 in
set_option maxRecDepth 100000 in
theorem h_X11_isSeenF (l : Launch) (g : he_G) (m0 : Nat) (fd : Nat) (rfm : Nat) (rt_ : Nat) (to_ : Nat) (rw_ : Nat) (wa : Nat) (rk : Nat) (rb : Nat) (cn : Nat) (br : Nat) (sm : Nat) (as_ : Nat) (go : Nat) (sh_ : Nat) (ki : Nat) (tg : Nat) (of_ : Nat) (kp : Nat) (rs : Nat) (ta : Int32) (sz_ : Int32) (pl : Int32) (at_ : Int32) (fa : Int32) (fw : Int32) (cs : Int32) (ct : Int32) (ir : Int32) (oa : Int32) (ob : Int32) (ig : Int32) (sp_ : Int32) (sf : Int32) (tw : Int32) (th : Nat) (x : Int32) (y : Int32) (hth : th = 12) : he_I l yX11_isSeen wsX11_isSeen 0 0 0 0 g [.ref m0, .int x, .int y] [(oX11 m0 tw ta sz_ pl at_ fa fw cs fd rfm rt_ to_ rw_ wa ct rk rb cn br sm as_ go sh_ ir oa ob (nI th) ig sp_ ki tg of_ kp sf rs)] (fun (r : Int32) (u : Unit) => r = (-1)) (fun (u : Unit) => [(oX11 m0 tw ta sz_ pl at_ fa fw cs fd rfm rt_ to_ rw_ wa ct rk rb cn br sm as_ go sh_ ir oa ob (nI th) ig sp_ ki tg of_ kp sf rs)]) := by
  refine he_begin (l := l) (g := g) (y := yX11_isSeen) (wl := wsX11_isSeen) (fr := 0) (lo := 0) (mc := 0) (ms := 0) (av := [.ref m0, .int x, .int y]) (ws := [(oX11 m0 tw ta sz_ pl at_ fa fw cs fd rfm rt_ to_ rw_ wa ct rk rb cn br sm as_ go sh_ ir oa ob (nI th) ig sp_ ki tg of_ kp sf rs)]) (cc := cX11_isSeen) (maxL := 3) (ret := (some .int)) (fun A => va_Qi (fun (r : Int32) (u : Unit) => r = (-1)) (fun u t => he_post g A ((fun (u : Unit) => [(oX11 m0 tw ta sz_ pl at_ fa fw cs fd rfm rt_ to_ rw_ wa ct rk rb cn br sm as_ go sh_ ir oa ob (nI th) ig sp_ ki tg of_ kp sf rs)]) u) t) A) (by decide) rfl (Nat.le_of_ble_eq_true rfl) ?_
  intro p e s m args below meth c A ls H locs Q hQ hB
  obtain ⟨hx, hb, hr, hml, hown, hts, hlk, hin, hP, hK, hD, hS, hA, hE, hl⟩ := hB
  have hl : lv_has ls 3 [(0, .ref m0), (1, .int x), (2, .int y)] := hl
  have f165 := hts (.fieldLink RX11 165 "HiredEnemyModel" "things" "I") (iwoX11_isSeen (k := 0) rfl)
  have inX11 : ∀ w ∈ wsX110, w ∈ wsX11_isSeen := innX11_isSeen_X11
  refine lv_aload_n hx hb dX11_isSeen_0 rfl (lv_at hl 0 rfl) ?_
  refine va_get (v := .int (nI th)) (T := TX11) (N := 35) hx hb hts inX11 hown hK hP 0 rfl rfl 26 (by decide) f165 (fun _ h9 => h9) rfl dX11_isSeen_1 ?_
  refine lv_bipush (v := 12) hx hb dX11_isSeen_4 (by decide) ?_
  refine lv_icmp_ne (tgt := 11) hx hb dX11_isSeen_6 (by decide) (fun c_1 => ?_) (fun c_1 => ?_)
  · exact absurd (by rw [hth]; rfl) c_1
  · refine lv_iconst (v := (-1)) hx hb dX11_isSeen_9 (by decide) ?_
    exact he_ri hQ hx hb hr hlk hP hD hS dX11_isSeen_10 (Nat.le_of_ble_eq_true rfl) (Nat.le_of_ble_eq_true rfl) (()) (rfl) (rfl)
set_option maxHeartbeats 4000000 in
set_option maxRecDepth 100000 in
theorem h_X11_seen (l : Launch) (g : he_G) (m0 : Nat) (fd : Nat) (rfm : Nat) (rt_ : Nat) (to_ : Nat) (rw_ : Nat) (wa : Nat) (rk : Nat) (rb : Nat) (cn : Nat) (br : Nat) (sm : Nat) (as_ : Nat) (go : Nat) (sh_ : Nat) (ki : Nat) (tg : Nat) (of_ : Nat) (kp : Nat) (rs : Nat) (ta : Int32) (sz_ : Int32) (pl : Int32) (at_ : Int32) (fa : Int32) (fw : Int32) (cs : Int32) (ct : Int32) (ir : Int32) (oa : Int32) (ob : Int32) (ig : Int32) (sp_ : Int32) (sf : Int32) (tw : Int32) (th : Nat) (L : List Nat) (ln : Nat → Nat) (M : Nat → Nat → Int32) (r7 : Nat → Nat) (r8 : Nat → Nat) (x : Int32) (F_r7 : ∀ i, i < 4 → r7 i ∈ L ∧ ln (r7 i) = 2 ∧ True) (F_r8 : ∀ i, i < 12 → r8 i ∈ L ∧ ln (r8 i) = 2 ∧ True) (hok0 : ¬ he_within x 0 3 = 0) (hth : th < 12) : he_I l yX11_seen wsX11_seen 1 23 0 0 g [.ref m0, .int x] ([(oX11 m0 tw ta sz_ pl at_ fa fw cs fd rfm rt_ to_ rw_ wa ct rk rb cn br sm as_ go sh_ ir oa ob (nI th) ig sp_ ki tg of_ kp sf rs), (aM g ki 4 (he_ro 4 r7)), (aM g tg 12 (he_ro 12 r8))] ++ he_pl g L ln M) (fun (r : Int32) (u : Nat → Nat → Int32) => r = nI (th + 1) ∧ u = va_up M (r8 th) (upd (upd (M (r8 th)) 0 (M (r7 x.toNatClampNeg) 0)) 1 (M (r7 x.toNatClampNeg) 1))) (fun (u : Nat → Nat → Int32) => [(oX11 m0 0 ta sz_ pl at_ fa fw cs fd rfm rt_ to_ rw_ wa ct rk rb cn br sm as_ go sh_ ir oa ob (nI (th + 1)) ig sp_ ki tg of_ kp sf rs), (aM g ki 4 (he_ro 4 r7)), (aM g tg 12 (he_ro 12 r8))] ++ he_pl g L ln u) := by
  refine he_begin (l := l) (g := g) (y := yX11_seen) (wl := wsX11_seen) (fr := 1) (lo := 23) (mc := 0) (ms := 0) (av := [.ref m0, .int x]) (ws := ([(oX11 m0 tw ta sz_ pl at_ fa fw cs fd rfm rt_ to_ rw_ wa ct rk rb cn br sm as_ go sh_ ir oa ob (nI th) ig sp_ ki tg of_ kp sf rs), (aM g ki 4 (he_ro 4 r7)), (aM g tg 12 (he_ro 12 r8))] ++ he_pl g L ln M)) (cc := cX11_seen) (maxL := 2) (ret := (some .int)) (fun A => va_Qi (fun (r : Int32) (u : Nat → Nat → Int32) => r = nI (th + 1) ∧ u = va_up M (r8 th) (upd (upd (M (r8 th)) 0 (M (r7 x.toNatClampNeg) 0)) 1 (M (r7 x.toNatClampNeg) 1))) (fun u t => he_post g A ((fun (u : Nat → Nat → Int32) => [(oX11 m0 0 ta sz_ pl at_ fa fw cs fd rfm rt_ to_ rw_ wa ct rk rb cn br sm as_ go sh_ ir oa ob (nI (th + 1)) ig sp_ ki tg of_ kp sf rs), (aM g ki 4 (he_ro 4 r7)), (aM g tg 12 (he_ro 12 r8))] ++ he_pl g L ln u) u) t) A) (by decide) rfl (Nat.le_of_ble_eq_true rfl) ?_
  intro p e s m args below meth c A ls H locs Q hQ hB
  obtain ⟨hx, hb, hr, hml, hown, hts, hlk, hin, hP, hK, hD, hS, hA, hE, hl⟩ := hB
  have hl : lv_has ls 2 [(0, .ref m0), (1, .int x)] := hl
  have f85 := hts (.fieldLink RX11 85 "HiredEnemyModel" "thrown" "I") (iwoX11_seen (k := 0) rfl)
  have inX11 : ∀ w ∈ wsX110, w ∈ wsX11_seen := innX11_seen_X11
  have f64 := hts (.fieldLink RX11 64 "HiredEnemyModel" "kind" "[[I") (iwoX11_seen (k := 1) rfl)
  refine lv_aload_n hx hb dX11_seen_0 rfl (lv_at hl 0 rfl) ?_
  refine lv_iconst (v := 0) hx hb dX11_seen_1 (by decide) ?_
  refine va_put (v := .int 0) (ty := .int) (T := TX11) (N := 35) hx hb hts inX11 tyX11 tyX11_ok nmX11 hown hK hP hD hS 0 rfl rfl 0 (by decide) f85 (fun _ h9 => h9) rfl (by decide +kernel) rfl rfl (Nat.le_of_ble_eq_true rfl) dX11_seen_2 (fun H locs hP hD hS => ?_)
  have hP : va_P g.1 vwCl ([(oX11 m0 0 ta sz_ pl at_ fa fw cs fd rfm rt_ to_ rw_ wa ct rk rb cn br sm as_ go sh_ ir oa ob (nI th) ig sp_ ki tg of_ kp sf rs), (aM g ki 4 (he_ro 4 r7)), (aM g tg 12 (he_ro 12 r8))] ++ he_pl g L ln M) H := hP
  have hD : va_D A ([(oX11 m0 0 ta sz_ pl at_ fa fw cs fd rfm rt_ to_ rw_ wa ct rk rb cn br sm as_ go sh_ ir oa ob (nI th) ig sp_ ki tg of_ kp sf rs), (aM g ki 4 (he_ro 4 r7)), (aM g tg 12 (he_ro 12 r8))] ++ he_pl g L ln M) := hD
  refine lv_aload_n hx hb dX11_seen_5 rfl (lv_at hl 0 rfl) ?_
  refine lv_iload_n hx hb dX11_seen_6 rfl (lv_at hl 1 rfl) ?_
  refine lv_iconst (v := 0) hx hb dX11_seen_7 (by decide) ?_
  refine lv_iconst (v := 3) hx hb dX11_seen_8 (by decide) ?_
  refine he_ci (wc := []) (wr := ([(oX11 m0 0 ta sz_ pl at_ fa fw cs fd rfm rt_ to_ rw_ wa ct rk rb cn br sm as_ go sh_ ir oa ob (nI th) ig sp_ ki tg of_ kp sf rs), (aM g ki 4 (he_ro 4 r7)), (aM g tg 12 (he_ro 12 r8))] ++ (he_pl g L ln M))) (va_runS (As := [.int x, .int 0, .int 3]) (rest := [.ref m0]) ⟨hx, hb, hml, hown, hts⟩ (c_X11_in l g x 0 3 H.size) (va_cwS 3 hts gX11_seen_X11_in rfl rfl rfl (by decide +kernel) ⟨Nat.le_of_ble_eq_true rfl, Nat.le_of_ble_eq_true rfl⟩) (he_preS (wc := []) hK hP hD hS hA hE [] rfl rfl) rfl rfl hl.1 rfl (lv_room (Nat.le_of_ble_eq_true rfl)) dX11_seen_9 ⟨(Nat.le_of_ble_eq_true rfl), (Nat.le_of_ble_eq_true rfl)⟩) hP hD hS hA [] (he_is [0, 1, 2] [(oX11 m0 0 ta sz_ pl at_ fa fw cs fd rfm rt_ to_ rw_ wa ct rk rb cn br sm as_ go sh_ ir oa ob (nI th) ig sp_ ki tg of_ kp sf rs), (aM g ki 4 (he_ro 4 r7)), (aM g tg 12 (he_ro 12 r8))] (he_pl g L ln M)) rfl (he_ixP rfl) (he_ndP rfl rfl) (he_disN (by decide) rfl) (fun r_1 u_2 H locs h_3 hP hD hS => ?_)
  have hP := va_P.swap hP
  have hD := va_D.swap hD
  subst h_3
  have hP : va_P g.1 vwCl ([(oX11 m0 0 ta sz_ pl at_ fa fw cs fd rfm rt_ to_ rw_ wa ct rk rb cn br sm as_ go sh_ ir oa ob (nI th) ig sp_ ki tg of_ kp sf rs), (aM g ki 4 (he_ro 4 r7)), (aM g tg 12 (he_ro 12 r8))] ++ he_pl g L ln M) H := hP
  have hD : va_D A ([(oX11 m0 0 ta sz_ pl at_ fa fw cs fd rfm rt_ to_ rw_ wa ct rk rb cn br sm as_ go sh_ ir oa ob (nI th) ig sp_ ki tg of_ kp sf rs), (aM g ki 4 (he_ro 4 r7)), (aM g tg 12 (he_ro 12 r8))] ++ he_pl g L ln M) := hD
  refine he_top (1) (he_within_1 hok0) ?_
  refine lv_if_ne (tgt := 19) hx hb dX11_seen_12 (by decide) (fun c_4 => ?_) (fun c_4 => ?_)
  · refine lv_iconst (v := 0) hx hb dX11_seen_19 (by decide) ?_
    refine lv_iconst (v := 1) hx hb dX11_seen_20 (by decide) ?_
    refine lv_iconst (v := 2) hx hb dX11_seen_21 (by decide) ?_
    refine he_ci (wc := [(oX11 m0 0 ta sz_ pl at_ fa fw cs fd rfm rt_ to_ rw_ wa ct rk rb cn br sm as_ go sh_ ir oa ob (nI th) ig sp_ ki tg of_ kp sf rs)]) (wr := ([(aM g ki 4 (he_ro 4 r7)), (aM g tg 12 (he_ro 12 r8))] ++ (he_pl g L ln M))) (va_runV (As := [.int 0, .int 1, .int 2]) (rest := []) ⟨hx, hb, hml, hown, hts⟩ (c_X11_bad0 l g m0 fd rfm rt_ to_ rw_ wa rk rb cn br sm as_ go sh_ ki tg of_ kp rs ta sz_ pl at_ fa fw cs ct ir oa ob (nI th) ig sp_ sf 1 2 H.size) (cwV 3 hts gX11_seen_X11_bad rfl rfl rfl (by decide +kernel) ⟨Nat.le_of_ble_eq_true rfl, Nat.le_of_ble_eq_true rfl⟩) (he_preV (wc := [(oX11 m0 0 ta sz_ pl at_ fa fw cs fd rfm rt_ to_ rw_ wa ct rk rb cn br sm as_ go sh_ ir oa ob (nI th) ig sp_ ki tg of_ kp sf rs)]) hK hP hD hS hA hE [0] rfl rfl 0 rfl rfl) rfl rfl hl.1 rfl (lv_room (Nat.le_of_ble_eq_true rfl)) dX11_seen_22 ⟨(Nat.le_of_ble_eq_true rfl), (Nat.le_of_ble_eq_true rfl)⟩) hP hD hS hA [0] (he_is [1, 2] [(oX11 m0 0 ta sz_ pl at_ fa fw cs fd rfm rt_ to_ rw_ wa ct rk rb cn br sm as_ go sh_ ir oa ob (nI th) ig sp_ ki tg of_ kp sf rs), (aM g ki 4 (he_ro 4 r7)), (aM g tg 12 (he_ro 12 r8))] (he_pl g L ln M)) rfl (he_ixP rfl) (he_ndP rfl rfl) (he_disN (by decide) rfl) (fun r_5 u_6 H locs h_7 hP hD hS => ?_)
    have hP := va_P.swap hP
    have hD := va_D.swap hD
    subst h_7
    have hP : va_P g.1 vwCl ([(aM g ki 4 (he_ro 4 r7)), (aM g tg 12 (he_ro 12 r8)), (oX11 m0 0 ta sz_ pl at_ fa fw cs fd rfm rt_ to_ rw_ wa ct rk rb cn br sm as_ go sh_ ir oa ob (nI th) ig sp_ ki tg of_ kp sf rs)] ++ he_pl g L ln M) H := hP
    have hD : va_D A ([(aM g ki 4 (he_ro 4 r7)), (aM g tg 12 (he_ro 12 r8)), (oX11 m0 0 ta sz_ pl at_ fa fw cs fd rfm rt_ to_ rw_ wa ct rk rb cn br sm as_ go sh_ ir oa ob (nI th) ig sp_ ki tg of_ kp sf rs)] ++ he_pl g L ln M) := hD
    refine lv_if_eq (tgt := 30) hx hb dX11_seen_25 (by decide) (fun c_8 => ?_) (fun c_8 => ?_)
    · refine lv_aload_n hx hb dX11_seen_30 rfl (lv_at hl 0 rfl) ?_
      refine lv_aload_n hx hb dX11_seen_31 rfl (lv_at hl 0 rfl) ?_
      refine va_get (v := .ref ki) (T := TX11) (N := 35) hx hb hts inX11 hown hK hP 2 rfl rfl 29 (by decide) f64 (fun _ h9 => h9) rfl dX11_seen_32 ?_
      refine lv_iload_n hx hb dX11_seen_35 rfl (lv_at hl 1 rfl) ?_
      refine he_aldm hx hb hK hP 0 rfl (x.toNatClampNeg) (he_within_nat (B := 3) rfl (by decide) hok0).1 (Nat.lt_of_le_of_lt (he_within_nat (B := 3) rfl (by decide) hok0).2 (by decide)) (by decide) dX11_seen_36 ?_
      refine lv_iconst (v := 0) hx hb dX11_seen_37 (by decide) ?_
      refine he_pald hx hb hK hP (F_r7 x.toNatClampNeg (Nat.lt_of_le_of_lt (he_within_nat (B := 3) rfl (by decide) hok0).2 (by decide))).1 (0) (by decide) (by rw [(F_r7 x.toNatClampNeg (Nat.lt_of_le_of_lt (he_within_nat (B := 3) rfl (by decide) hok0).2 (by decide))).2.1]; exact (by decide)) (by rw [(F_r7 x.toNatClampNeg (Nat.lt_of_le_of_lt (he_within_nat (B := 3) rfl (by decide) hok0).2 (by decide))).2.1]; decide) (M (r7 x.toNatClampNeg) 0) rfl dX11_seen_38 ?_
      refine lv_aload_n hx hb dX11_seen_39 rfl (lv_at hl 0 rfl) ?_
      refine va_get (v := .ref ki) (T := TX11) (N := 35) hx hb hts inX11 hown hK hP 2 rfl rfl 29 (by decide) f64 (fun _ h9 => h9) rfl dX11_seen_40 ?_
      refine lv_iload_n hx hb dX11_seen_43 rfl (lv_at hl 1 rfl) ?_
      refine he_aldm hx hb hK hP 0 rfl (x.toNatClampNeg) (he_within_nat (B := 3) rfl (by decide) hok0).1 (Nat.lt_of_le_of_lt (he_within_nat (B := 3) rfl (by decide) hok0).2 (by decide)) (by decide) dX11_seen_44 ?_
      refine lv_iconst (v := 1) hx hb dX11_seen_45 (by decide) ?_
      refine he_pald hx hb hK hP (F_r7 x.toNatClampNeg (Nat.lt_of_le_of_lt (he_within_nat (B := 3) rfl (by decide) hok0).2 (by decide))).1 (1) (by decide) (by rw [(F_r7 x.toNatClampNeg (Nat.lt_of_le_of_lt (he_within_nat (B := 3) rfl (by decide) hok0).2 (by decide))).2.1]; exact (by decide)) (by rw [(F_r7 x.toNatClampNeg (Nat.lt_of_le_of_lt (he_within_nat (B := 3) rfl (by decide) hok0).2 (by decide))).2.1]; decide) (M (r7 x.toNatClampNeg) 1) rfl dX11_seen_46 ?_
      refine he_ci (wc := ([(oX11 m0 0 ta sz_ pl at_ fa fw cs fd rfm rt_ to_ rw_ wa ct rk rb cn br sm as_ go sh_ ir oa ob (nI th) ig sp_ ki tg of_ kp sf rs), (aM g tg 12 (he_ro 12 r8))] ++ (he_pl g L ln M))) (wr := [(aM g ki 4 (he_ro 4 r7))]) (va_runV (As := [.int (M (r7 x.toNatClampNeg) 0), .int (M (r7 x.toNatClampNeg) 1)]) (rest := []) ⟨hx, hb, hml, hown, hts⟩ (h_X11_isSeen l g m0 fd rfm rt_ to_ rw_ wa rk rb cn br sm as_ go sh_ ki tg of_ kp rs ta sz_ pl at_ fa fw cs ct ir oa ob ig sp_ sf 0 th L ln M r8 (M (r7 x.toNatClampNeg) 0) (M (r7 x.toNatClampNeg) 1) (by first | assumption | decide | omega) (by first | assumption | decide | omega) H.size) (cwV 2 hts gX11_seen_X11_isSeen rfl rfl rfl (by decide +kernel) ⟨Nat.le_of_ble_eq_true rfl, Nat.le_of_ble_eq_true rfl⟩) (he_preV (wc := ([(oX11 m0 0 ta sz_ pl at_ fa fw cs fd rfm rt_ to_ rw_ wa ct rk rb cn br sm as_ go sh_ ir oa ob (nI th) ig sp_ ki tg of_ kp sf rs), (aM g tg 12 (he_ro 12 r8))] ++ (he_pl g L ln M))) hK hP hD hS hA hE (he_is [2, 1] [(aM g ki 4 (he_ro 4 r7)), (aM g tg 12 (he_ro 12 r8)), (oX11 m0 0 ta sz_ pl at_ fa fw cs fd rfm rt_ to_ rw_ wa ct rk rb cn br sm as_ go sh_ ir oa ob (nI th) ig sp_ ki tg of_ kp sf rs)] (he_pl g L ln M)) (he_ixP rfl) (he_ndP rfl rfl) 2 rfl rfl) rfl rfl hl.1 rfl (lv_room (Nat.le_of_ble_eq_true rfl)) dX11_seen_47 ⟨(Nat.le_of_ble_eq_true rfl), (Nat.le_of_ble_eq_true rfl)⟩) hP hD hS hA (he_is [2, 1] [(aM g ki 4 (he_ro 4 r7)), (aM g tg 12 (he_ro 12 r8)), (oX11 m0 0 ta sz_ pl at_ fa fw cs fd rfm rt_ to_ rw_ wa ct rk rb cn br sm as_ go sh_ ir oa ob (nI th) ig sp_ ki tg of_ kp sf rs)] (he_pl g L ln M)) [0] (he_ixP rfl) rfl rfl (he_disP (by decide) rfl) (fun r_9 u_10 H locs h_11 hP hD hS => ?_)
      obtain ⟨Mu_12, rfl⟩ : ∃ z, z = u_10 := ⟨_, rfl⟩
      try dsimp only at h_11
      obtain ⟨rfl, hf_13⟩ := h_11
      have hP : va_P g.1 vwCl ([(aM g ki 4 (he_ro 4 r7)), (oX11 m0 0 ta sz_ pl at_ fa fw cs fd rfm rt_ to_ rw_ wa ct rk rb cn br sm as_ go sh_ ir oa ob (nI (th + 1)) ig sp_ ki tg of_ kp sf rs), (aM g tg 12 (he_ro 12 r8))] ++ he_pl g L ln Mu_12) H := hP
      have hD : va_D A ([(aM g ki 4 (he_ro 4 r7)), (oX11 m0 0 ta sz_ pl at_ fa fw cs fd rfm rt_ to_ rw_ wa ct rk rb cn br sm as_ go sh_ ir oa ob (nI (th + 1)) ig sp_ ki tg of_ kp sf rs), (aM g tg 12 (he_ro 12 r8))] ++ he_pl g L ln Mu_12) := hD
      have hP := he_Psub (X := [(aM g ki 4 (he_ro 4 r7)), (oX11 m0 0 ta sz_ pl at_ fa fw cs fd rfm rt_ to_ rw_ wa ct rk rb cn br sm as_ go sh_ ir oa ob (nI (th + 1)) ig sp_ ki tg of_ kp sf rs), (aM g tg 12 (he_ro 12 r8))]) (X2 := [(oX11 m0 0 ta sz_ pl at_ fa fw cs fd rfm rt_ to_ rw_ wa ct rk rb cn br sm as_ go sh_ ir oa ob (nI (th + 1)) ig sp_ ki tg of_ kp sf rs), (aM g ki 4 (he_ro 4 r7)), (aM g tg 12 (he_ro 12 r8))]) (P := (he_pl g L ln Mu_12)) hP [1, 0, 2] rfl
      have hD := he_Dsub (X := [(aM g ki 4 (he_ro 4 r7)), (oX11 m0 0 ta sz_ pl at_ fa fw cs fd rfm rt_ to_ rw_ wa ct rk rb cn br sm as_ go sh_ ir oa ob (nI (th + 1)) ig sp_ ki tg of_ kp sf rs), (aM g tg 12 (he_ro 12 r8))]) (X2 := [(oX11 m0 0 ta sz_ pl at_ fa fw cs fd rfm rt_ to_ rw_ wa ct rk rb cn br sm as_ go sh_ ir oa ob (nI (th + 1)) ig sp_ ki tg of_ kp sf rs), (aM g ki 4 (he_ro 4 r7)), (aM g tg 12 (he_ro 12 r8))]) (P := (he_pl g L ln Mu_12)) hD [1, 0, 2] rfl rfl rfl
      exact he_ri hQ hx hb hr hlk hP hD hS dX11_seen_50 (Nat.le_of_ble_eq_true rfl) (Nat.le_of_ble_eq_true rfl) (Mu_12) (rfl) (⟨rfl, hf_13⟩)
    · exact absurd (by decide) c_8
  · exact absurd c_4 (by decide)
set_option maxHeartbeats 4000000 in
set_option maxRecDepth 100000 in
theorem h_X11_seenF (l : Launch) (g : he_G) (m0 : Nat) (fd : Nat) (rfm : Nat) (rt_ : Nat) (to_ : Nat) (rw_ : Nat) (wa : Nat) (rk : Nat) (rb : Nat) (cn : Nat) (br : Nat) (sm : Nat) (as_ : Nat) (go : Nat) (sh_ : Nat) (ki : Nat) (tg : Nat) (of_ : Nat) (kp : Nat) (rs : Nat) (ta : Int32) (sz_ : Int32) (pl : Int32) (at_ : Int32) (fa : Int32) (fw : Int32) (cs : Int32) (ct : Int32) (ir : Int32) (oa : Int32) (ob : Int32) (ig : Int32) (sp_ : Int32) (sf : Int32) (tw : Int32) (th : Nat) (L : List Nat) (ln : Nat → Nat) (M : Nat → Nat → Int32) (r7 : Nat → Nat) (x : Int32) (F_r7 : ∀ i, i < 4 → r7 i ∈ L ∧ ln (r7 i) = 2 ∧ True) (hok0 : ¬ he_within x 0 3 = 0) (hth : th = 12) : he_I l yX11_seen wsX11_seen 1 23 0 0 g [.ref m0, .int x] ([(oX11 m0 tw ta sz_ pl at_ fa fw cs fd rfm rt_ to_ rw_ wa ct rk rb cn br sm as_ go sh_ ir oa ob (nI th) ig sp_ ki tg of_ kp sf rs), (aM g ki 4 (he_ro 4 r7))] ++ he_pl g L ln M) (fun (r : Int32) (u : Unit) => r = (-1)) (fun (u : Unit) => [(oX11 m0 0 ta sz_ pl at_ fa fw cs fd rfm rt_ to_ rw_ wa ct rk rb cn br sm as_ go sh_ ir oa ob (nI th) ig sp_ ki tg of_ kp sf rs), (aM g ki 4 (he_ro 4 r7))] ++ he_pl g L ln M) := by
  refine he_begin (l := l) (g := g) (y := yX11_seen) (wl := wsX11_seen) (fr := 1) (lo := 23) (mc := 0) (ms := 0) (av := [.ref m0, .int x]) (ws := ([(oX11 m0 tw ta sz_ pl at_ fa fw cs fd rfm rt_ to_ rw_ wa ct rk rb cn br sm as_ go sh_ ir oa ob (nI th) ig sp_ ki tg of_ kp sf rs), (aM g ki 4 (he_ro 4 r7))] ++ he_pl g L ln M)) (cc := cX11_seen) (maxL := 2) (ret := (some .int)) (fun A => va_Qi (fun (r : Int32) (u : Unit) => r = (-1)) (fun u t => he_post g A ((fun (u : Unit) => [(oX11 m0 0 ta sz_ pl at_ fa fw cs fd rfm rt_ to_ rw_ wa ct rk rb cn br sm as_ go sh_ ir oa ob (nI th) ig sp_ ki tg of_ kp sf rs), (aM g ki 4 (he_ro 4 r7))] ++ he_pl g L ln M) u) t) A) (by decide) rfl (Nat.le_of_ble_eq_true rfl) ?_
  intro p e s m args below meth c A ls H locs Q hQ hB
  obtain ⟨hx, hb, hr, hml, hown, hts, hlk, hin, hP, hK, hD, hS, hA, hE, hl⟩ := hB
  have hl : lv_has ls 2 [(0, .ref m0), (1, .int x)] := hl
  have f85 := hts (.fieldLink RX11 85 "HiredEnemyModel" "thrown" "I") (iwoX11_seen (k := 0) rfl)
  have inX11 : ∀ w ∈ wsX110, w ∈ wsX11_seen := innX11_seen_X11
  have f64 := hts (.fieldLink RX11 64 "HiredEnemyModel" "kind" "[[I") (iwoX11_seen (k := 1) rfl)
  refine lv_aload_n hx hb dX11_seen_0 rfl (lv_at hl 0 rfl) ?_
  refine lv_iconst (v := 0) hx hb dX11_seen_1 (by decide) ?_
  refine va_put (v := .int 0) (ty := .int) (T := TX11) (N := 35) hx hb hts inX11 tyX11 tyX11_ok nmX11 hown hK hP hD hS 0 rfl rfl 0 (by decide) f85 (fun _ h9 => h9) rfl (by decide +kernel) rfl rfl (Nat.le_of_ble_eq_true rfl) dX11_seen_2 (fun H locs hP hD hS => ?_)
  have hP : va_P g.1 vwCl ([(oX11 m0 0 ta sz_ pl at_ fa fw cs fd rfm rt_ to_ rw_ wa ct rk rb cn br sm as_ go sh_ ir oa ob (nI th) ig sp_ ki tg of_ kp sf rs), (aM g ki 4 (he_ro 4 r7))] ++ he_pl g L ln M) H := hP
  have hD : va_D A ([(oX11 m0 0 ta sz_ pl at_ fa fw cs fd rfm rt_ to_ rw_ wa ct rk rb cn br sm as_ go sh_ ir oa ob (nI th) ig sp_ ki tg of_ kp sf rs), (aM g ki 4 (he_ro 4 r7))] ++ he_pl g L ln M) := hD
  refine lv_aload_n hx hb dX11_seen_5 rfl (lv_at hl 0 rfl) ?_
  refine lv_iload_n hx hb dX11_seen_6 rfl (lv_at hl 1 rfl) ?_
  refine lv_iconst (v := 0) hx hb dX11_seen_7 (by decide) ?_
  refine lv_iconst (v := 3) hx hb dX11_seen_8 (by decide) ?_
  refine he_ci (wc := []) (wr := ([(oX11 m0 0 ta sz_ pl at_ fa fw cs fd rfm rt_ to_ rw_ wa ct rk rb cn br sm as_ go sh_ ir oa ob (nI th) ig sp_ ki tg of_ kp sf rs), (aM g ki 4 (he_ro 4 r7))] ++ (he_pl g L ln M))) (va_runS (As := [.int x, .int 0, .int 3]) (rest := [.ref m0]) ⟨hx, hb, hml, hown, hts⟩ (c_X11_in l g x 0 3 H.size) (va_cwS 3 hts gX11_seen_X11_in rfl rfl rfl (by decide +kernel) ⟨Nat.le_of_ble_eq_true rfl, Nat.le_of_ble_eq_true rfl⟩) (he_preS (wc := []) hK hP hD hS hA hE [] rfl rfl) rfl rfl hl.1 rfl (lv_room (Nat.le_of_ble_eq_true rfl)) dX11_seen_9 ⟨(Nat.le_of_ble_eq_true rfl), (Nat.le_of_ble_eq_true rfl)⟩) hP hD hS hA [] (he_is [0, 1] [(oX11 m0 0 ta sz_ pl at_ fa fw cs fd rfm rt_ to_ rw_ wa ct rk rb cn br sm as_ go sh_ ir oa ob (nI th) ig sp_ ki tg of_ kp sf rs), (aM g ki 4 (he_ro 4 r7))] (he_pl g L ln M)) rfl (he_ixP rfl) (he_ndP rfl rfl) (he_disN (by decide) rfl) (fun r_1 u_2 H locs h_3 hP hD hS => ?_)
  have hP := va_P.swap hP
  have hD := va_D.swap hD
  subst h_3
  have hP : va_P g.1 vwCl ([(oX11 m0 0 ta sz_ pl at_ fa fw cs fd rfm rt_ to_ rw_ wa ct rk rb cn br sm as_ go sh_ ir oa ob (nI th) ig sp_ ki tg of_ kp sf rs), (aM g ki 4 (he_ro 4 r7))] ++ he_pl g L ln M) H := hP
  have hD : va_D A ([(oX11 m0 0 ta sz_ pl at_ fa fw cs fd rfm rt_ to_ rw_ wa ct rk rb cn br sm as_ go sh_ ir oa ob (nI th) ig sp_ ki tg of_ kp sf rs), (aM g ki 4 (he_ro 4 r7))] ++ he_pl g L ln M) := hD
  refine he_top (1) (he_within_1 hok0) ?_
  refine lv_if_ne (tgt := 19) hx hb dX11_seen_12 (by decide) (fun c_4 => ?_) (fun c_4 => ?_)
  · refine lv_iconst (v := 0) hx hb dX11_seen_19 (by decide) ?_
    refine lv_iconst (v := 1) hx hb dX11_seen_20 (by decide) ?_
    refine lv_iconst (v := 2) hx hb dX11_seen_21 (by decide) ?_
    refine he_ci (wc := [(oX11 m0 0 ta sz_ pl at_ fa fw cs fd rfm rt_ to_ rw_ wa ct rk rb cn br sm as_ go sh_ ir oa ob (nI th) ig sp_ ki tg of_ kp sf rs)]) (wr := ([(aM g ki 4 (he_ro 4 r7))] ++ (he_pl g L ln M))) (va_runV (As := [.int 0, .int 1, .int 2]) (rest := []) ⟨hx, hb, hml, hown, hts⟩ (c_X11_bad0 l g m0 fd rfm rt_ to_ rw_ wa rk rb cn br sm as_ go sh_ ki tg of_ kp rs ta sz_ pl at_ fa fw cs ct ir oa ob (nI th) ig sp_ sf 1 2 H.size) (cwV 3 hts gX11_seen_X11_bad rfl rfl rfl (by decide +kernel) ⟨Nat.le_of_ble_eq_true rfl, Nat.le_of_ble_eq_true rfl⟩) (he_preV (wc := [(oX11 m0 0 ta sz_ pl at_ fa fw cs fd rfm rt_ to_ rw_ wa ct rk rb cn br sm as_ go sh_ ir oa ob (nI th) ig sp_ ki tg of_ kp sf rs)]) hK hP hD hS hA hE [0] rfl rfl 0 rfl rfl) rfl rfl hl.1 rfl (lv_room (Nat.le_of_ble_eq_true rfl)) dX11_seen_22 ⟨(Nat.le_of_ble_eq_true rfl), (Nat.le_of_ble_eq_true rfl)⟩) hP hD hS hA [0] (he_is [1] [(oX11 m0 0 ta sz_ pl at_ fa fw cs fd rfm rt_ to_ rw_ wa ct rk rb cn br sm as_ go sh_ ir oa ob (nI th) ig sp_ ki tg of_ kp sf rs), (aM g ki 4 (he_ro 4 r7))] (he_pl g L ln M)) rfl (he_ixP rfl) (he_ndP rfl rfl) (he_disN (by decide) rfl) (fun r_5 u_6 H locs h_7 hP hD hS => ?_)
    have hP := va_P.swap hP
    have hD := va_D.swap hD
    subst h_7
    have hP : va_P g.1 vwCl ([(aM g ki 4 (he_ro 4 r7)), (oX11 m0 0 ta sz_ pl at_ fa fw cs fd rfm rt_ to_ rw_ wa ct rk rb cn br sm as_ go sh_ ir oa ob (nI th) ig sp_ ki tg of_ kp sf rs)] ++ he_pl g L ln M) H := hP
    have hD : va_D A ([(aM g ki 4 (he_ro 4 r7)), (oX11 m0 0 ta sz_ pl at_ fa fw cs fd rfm rt_ to_ rw_ wa ct rk rb cn br sm as_ go sh_ ir oa ob (nI th) ig sp_ ki tg of_ kp sf rs)] ++ he_pl g L ln M) := hD
    refine lv_if_eq (tgt := 30) hx hb dX11_seen_25 (by decide) (fun c_8 => ?_) (fun c_8 => ?_)
    · refine lv_aload_n hx hb dX11_seen_30 rfl (lv_at hl 0 rfl) ?_
      refine lv_aload_n hx hb dX11_seen_31 rfl (lv_at hl 0 rfl) ?_
      refine va_get (v := .ref ki) (T := TX11) (N := 35) hx hb hts inX11 hown hK hP 1 rfl rfl 29 (by decide) f64 (fun _ h9 => h9) rfl dX11_seen_32 ?_
      refine lv_iload_n hx hb dX11_seen_35 rfl (lv_at hl 1 rfl) ?_
      refine he_aldm hx hb hK hP 0 rfl (x.toNatClampNeg) (he_within_nat (B := 3) rfl (by decide) hok0).1 (Nat.lt_of_le_of_lt (he_within_nat (B := 3) rfl (by decide) hok0).2 (by decide)) (by decide) dX11_seen_36 ?_
      refine lv_iconst (v := 0) hx hb dX11_seen_37 (by decide) ?_
      refine he_pald hx hb hK hP (F_r7 x.toNatClampNeg (Nat.lt_of_le_of_lt (he_within_nat (B := 3) rfl (by decide) hok0).2 (by decide))).1 (0) (by decide) (by rw [(F_r7 x.toNatClampNeg (Nat.lt_of_le_of_lt (he_within_nat (B := 3) rfl (by decide) hok0).2 (by decide))).2.1]; exact (by decide)) (by rw [(F_r7 x.toNatClampNeg (Nat.lt_of_le_of_lt (he_within_nat (B := 3) rfl (by decide) hok0).2 (by decide))).2.1]; decide) (M (r7 x.toNatClampNeg) 0) rfl dX11_seen_38 ?_
      refine lv_aload_n hx hb dX11_seen_39 rfl (lv_at hl 0 rfl) ?_
      refine va_get (v := .ref ki) (T := TX11) (N := 35) hx hb hts inX11 hown hK hP 1 rfl rfl 29 (by decide) f64 (fun _ h9 => h9) rfl dX11_seen_40 ?_
      refine lv_iload_n hx hb dX11_seen_43 rfl (lv_at hl 1 rfl) ?_
      refine he_aldm hx hb hK hP 0 rfl (x.toNatClampNeg) (he_within_nat (B := 3) rfl (by decide) hok0).1 (Nat.lt_of_le_of_lt (he_within_nat (B := 3) rfl (by decide) hok0).2 (by decide)) (by decide) dX11_seen_44 ?_
      refine lv_iconst (v := 1) hx hb dX11_seen_45 (by decide) ?_
      refine he_pald hx hb hK hP (F_r7 x.toNatClampNeg (Nat.lt_of_le_of_lt (he_within_nat (B := 3) rfl (by decide) hok0).2 (by decide))).1 (1) (by decide) (by rw [(F_r7 x.toNatClampNeg (Nat.lt_of_le_of_lt (he_within_nat (B := 3) rfl (by decide) hok0).2 (by decide))).2.1]; exact (by decide)) (by rw [(F_r7 x.toNatClampNeg (Nat.lt_of_le_of_lt (he_within_nat (B := 3) rfl (by decide) hok0).2 (by decide))).2.1]; decide) (M (r7 x.toNatClampNeg) 1) rfl dX11_seen_46 ?_
      refine he_ci (wc := [(oX11 m0 0 ta sz_ pl at_ fa fw cs fd rfm rt_ to_ rw_ wa ct rk rb cn br sm as_ go sh_ ir oa ob (nI th) ig sp_ ki tg of_ kp sf rs)]) (wr := ([(aM g ki 4 (he_ro 4 r7))] ++ (he_pl g L ln M))) (va_runV (As := [.int (M (r7 x.toNatClampNeg) 0), .int (M (r7 x.toNatClampNeg) 1)]) (rest := []) ⟨hx, hb, hml, hown, hts⟩ (h_X11_isSeenF l g m0 fd rfm rt_ to_ rw_ wa rk rb cn br sm as_ go sh_ ki tg of_ kp rs ta sz_ pl at_ fa fw cs ct ir oa ob ig sp_ sf 0 th (M (r7 x.toNatClampNeg) 0) (M (r7 x.toNatClampNeg) 1) (by first | assumption | decide | omega) H.size) (cwV 2 hts gX11_seen_X11_isSeen rfl rfl rfl (by decide +kernel) ⟨Nat.le_of_ble_eq_true rfl, Nat.le_of_ble_eq_true rfl⟩) (he_preV (wc := [(oX11 m0 0 ta sz_ pl at_ fa fw cs fd rfm rt_ to_ rw_ wa ct rk rb cn br sm as_ go sh_ ir oa ob (nI th) ig sp_ ki tg of_ kp sf rs)]) hK hP hD hS hA hE [1] rfl rfl 1 rfl rfl) rfl rfl hl.1 rfl (lv_room (Nat.le_of_ble_eq_true rfl)) dX11_seen_47 ⟨(Nat.le_of_ble_eq_true rfl), (Nat.le_of_ble_eq_true rfl)⟩) hP hD hS hA [1] (he_is [0] [(aM g ki 4 (he_ro 4 r7)), (oX11 m0 0 ta sz_ pl at_ fa fw cs fd rfm rt_ to_ rw_ wa ct rk rb cn br sm as_ go sh_ ir oa ob (nI th) ig sp_ ki tg of_ kp sf rs)] (he_pl g L ln M)) rfl (he_ixP rfl) (he_ndP rfl rfl) (he_disN (by decide) rfl) (fun r_9 u_10 H locs h_11 hP hD hS => ?_)
      have hP := va_P.swap hP
      have hD := va_D.swap hD
      subst h_11
      have hP : va_P g.1 vwCl ([(aM g ki 4 (he_ro 4 r7)), (oX11 m0 0 ta sz_ pl at_ fa fw cs fd rfm rt_ to_ rw_ wa ct rk rb cn br sm as_ go sh_ ir oa ob (nI th) ig sp_ ki tg of_ kp sf rs)] ++ he_pl g L ln M) H := hP
      have hD : va_D A ([(aM g ki 4 (he_ro 4 r7)), (oX11 m0 0 ta sz_ pl at_ fa fw cs fd rfm rt_ to_ rw_ wa ct rk rb cn br sm as_ go sh_ ir oa ob (nI th) ig sp_ ki tg of_ kp sf rs)] ++ he_pl g L ln M) := hD
      have hP := he_Psub (X := [(aM g ki 4 (he_ro 4 r7)), (oX11 m0 0 ta sz_ pl at_ fa fw cs fd rfm rt_ to_ rw_ wa ct rk rb cn br sm as_ go sh_ ir oa ob (nI th) ig sp_ ki tg of_ kp sf rs)]) (X2 := [(oX11 m0 0 ta sz_ pl at_ fa fw cs fd rfm rt_ to_ rw_ wa ct rk rb cn br sm as_ go sh_ ir oa ob (nI th) ig sp_ ki tg of_ kp sf rs), (aM g ki 4 (he_ro 4 r7))]) (P := (he_pl g L ln M)) hP [1, 0] rfl
      have hD := he_Dsub (X := [(aM g ki 4 (he_ro 4 r7)), (oX11 m0 0 ta sz_ pl at_ fa fw cs fd rfm rt_ to_ rw_ wa ct rk rb cn br sm as_ go sh_ ir oa ob (nI th) ig sp_ ki tg of_ kp sf rs)]) (X2 := [(oX11 m0 0 ta sz_ pl at_ fa fw cs fd rfm rt_ to_ rw_ wa ct rk rb cn br sm as_ go sh_ ir oa ob (nI th) ig sp_ ki tg of_ kp sf rs), (aM g ki 4 (he_ro 4 r7))]) (P := (he_pl g L ln M)) hD [1, 0] rfl rfl rfl
      exact he_ri hQ hx hb hr hlk hP hD hS dX11_seen_50 (Nat.le_of_ble_eq_true rfl) (Nat.le_of_ble_eq_true rfl) (()) (rfl) (rfl)
    · exact absurd (by decide) c_8
  · exact absurd c_4 (by decide)
set_option maxHeartbeats 4000000 in
set_option maxRecDepth 100000 in
theorem h_X11_spy0 (l : Launch) (g : he_G) (m0 : Nat) (fd : Nat) (rfm : Nat) (rt_ : Nat) (to_ : Nat) (rw_ : Nat) (wa : Nat) (rk : Nat) (rb : Nat) (cn : Nat) (br : Nat) (sm : Nat) (as_ : Nat) (go : Nat) (sh_ : Nat) (ki : Nat) (tg : Nat) (of_ : Nat) (kp : Nat) (rs : Nat) (ta : Int32) (sz_ : Int32) (pl : Int32) (at_ : Int32) (fa : Int32) (fw : Int32) (cs : Int32) (ct : Int32) (ir : Int32) (oa : Int32) (ob : Int32) (ig : Int32) (sp_ : Int32) (sf : Int32) (tw : Int32) (th : Nat) (L : List Nat) (ln : Nat → Nat) (M : Nat → Nat → Int32) (r8 : Nat → Nat) (x : Int32) (F_r8 : ∀ i, i < 12 → r8 i ∈ L ∧ ln (r8 i) = 2 ∧ True) (hok0 : ¬ he_within x 1 15 = 0) (hth : th < 12) : he_I l yX11_spy wsX11_spy 1 23 0 0 g [.ref m0, .int 0, .int x] ([(oX11 m0 tw ta sz_ pl at_ fa fw cs fd rfm rt_ to_ rw_ wa ct rk rb cn br sm as_ go sh_ ir oa ob (nI th) ig sp_ ki tg of_ kp sf rs), (aM g tg 12 (he_ro 12 r8))] ++ he_pl g L ln M) (fun (r : Int32) (u : Nat → Nat → Int32) => r = nI (th + 1) ∧ u = va_up M (r8 th) (upd (upd (M (r8 th)) 0 (16 - x)) 1 (x))) (fun (u : Nat → Nat → Int32) => [(oX11 m0 0 ta sz_ pl at_ fa fw cs fd rfm rt_ to_ rw_ wa ct rk rb cn br sm as_ go sh_ ir oa ob (nI (th + 1)) ig sp_ ki tg of_ kp sf rs), (aM g tg 12 (he_ro 12 r8))] ++ he_pl g L ln u) := by
  refine he_begin (l := l) (g := g) (y := yX11_spy) (wl := wsX11_spy) (fr := 1) (lo := 23) (mc := 0) (ms := 0) (av := [.ref m0, .int 0, .int x]) (ws := ([(oX11 m0 tw ta sz_ pl at_ fa fw cs fd rfm rt_ to_ rw_ wa ct rk rb cn br sm as_ go sh_ ir oa ob (nI th) ig sp_ ki tg of_ kp sf rs), (aM g tg 12 (he_ro 12 r8))] ++ he_pl g L ln M)) (cc := cX11_spy) (maxL := 3) (ret := (some .int)) (fun A => va_Qi (fun (r : Int32) (u : Nat → Nat → Int32) => r = nI (th + 1) ∧ u = va_up M (r8 th) (upd (upd (M (r8 th)) 0 (16 - x)) 1 (x))) (fun u t => he_post g A ((fun (u : Nat → Nat → Int32) => [(oX11 m0 0 ta sz_ pl at_ fa fw cs fd rfm rt_ to_ rw_ wa ct rk rb cn br sm as_ go sh_ ir oa ob (nI (th + 1)) ig sp_ ki tg of_ kp sf rs), (aM g tg 12 (he_ro 12 r8))] ++ he_pl g L ln u) u) t) A) (by decide) rfl (Nat.le_of_ble_eq_true rfl) ?_
  intro p e s m args below meth c A ls H locs Q hQ hB
  obtain ⟨hx, hb, hr, hml, hown, hts, hlk, hin, hP, hK, hD, hS, hA, hE, hl⟩ := hB
  have hl : lv_has ls 3 [(0, .ref m0), (1, .int 0), (2, .int x)] := hl
  have f85 := hts (.fieldLink RX11 85 "HiredEnemyModel" "thrown" "I") (iwoX11_spy (k := 0) rfl)
  have inX11 : ∀ w ∈ wsX110, w ∈ wsX11_spy := innX11_spy_X11
  refine lv_aload_n hx hb dX11_spy_0 rfl (lv_at hl 0 rfl) ?_
  refine lv_iconst (v := 0) hx hb dX11_spy_1 (by decide) ?_
  refine va_put (v := .int 0) (ty := .int) (T := TX11) (N := 35) hx hb hts inX11 tyX11 tyX11_ok nmX11 hown hK hP hD hS 0 rfl rfl 0 (by decide) f85 (fun _ h9 => h9) rfl (by decide +kernel) rfl rfl (Nat.le_of_ble_eq_true rfl) dX11_spy_2 (fun H locs hP hD hS => ?_)
  have hP : va_P g.1 vwCl ([(oX11 m0 0 ta sz_ pl at_ fa fw cs fd rfm rt_ to_ rw_ wa ct rk rb cn br sm as_ go sh_ ir oa ob (nI th) ig sp_ ki tg of_ kp sf rs), (aM g tg 12 (he_ro 12 r8))] ++ he_pl g L ln M) H := hP
  have hD : va_D A ([(oX11 m0 0 ta sz_ pl at_ fa fw cs fd rfm rt_ to_ rw_ wa ct rk rb cn br sm as_ go sh_ ir oa ob (nI th) ig sp_ ki tg of_ kp sf rs), (aM g tg 12 (he_ro 12 r8))] ++ he_pl g L ln M) := hD
  refine lv_aload_n hx hb dX11_spy_5 rfl (lv_at hl 0 rfl) ?_
  refine lv_iload_n hx hb dX11_spy_6 rfl (lv_at hl 2 rfl) ?_
  refine lv_iconst (v := 1) hx hb dX11_spy_7 (by decide) ?_
  refine lv_bipush (v := 15) hx hb dX11_spy_8 (by decide) ?_
  refine he_ci (wc := []) (wr := ([(oX11 m0 0 ta sz_ pl at_ fa fw cs fd rfm rt_ to_ rw_ wa ct rk rb cn br sm as_ go sh_ ir oa ob (nI th) ig sp_ ki tg of_ kp sf rs), (aM g tg 12 (he_ro 12 r8))] ++ (he_pl g L ln M))) (va_runS (As := [.int x, .int 1, .int 15]) (rest := [.ref m0]) ⟨hx, hb, hml, hown, hts⟩ (c_X11_in l g x 1 15 H.size) (va_cwS 3 hts gX11_spy_X11_in rfl rfl rfl (by decide +kernel) ⟨Nat.le_of_ble_eq_true rfl, Nat.le_of_ble_eq_true rfl⟩) (he_preS (wc := []) hK hP hD hS hA hE [] rfl rfl) rfl rfl hl.1 rfl (lv_room (Nat.le_of_ble_eq_true rfl)) dX11_spy_10 ⟨(Nat.le_of_ble_eq_true rfl), (Nat.le_of_ble_eq_true rfl)⟩) hP hD hS hA [] (he_is [0, 1] [(oX11 m0 0 ta sz_ pl at_ fa fw cs fd rfm rt_ to_ rw_ wa ct rk rb cn br sm as_ go sh_ ir oa ob (nI th) ig sp_ ki tg of_ kp sf rs), (aM g tg 12 (he_ro 12 r8))] (he_pl g L ln M)) rfl (he_ixP rfl) (he_ndP rfl rfl) (he_disN (by decide) rfl) (fun r_1 u_2 H locs h_3 hP hD hS => ?_)
  have hP := va_P.swap hP
  have hD := va_D.swap hD
  subst h_3
  have hP : va_P g.1 vwCl ([(oX11 m0 0 ta sz_ pl at_ fa fw cs fd rfm rt_ to_ rw_ wa ct rk rb cn br sm as_ go sh_ ir oa ob (nI th) ig sp_ ki tg of_ kp sf rs), (aM g tg 12 (he_ro 12 r8))] ++ he_pl g L ln M) H := hP
  have hD : va_D A ([(oX11 m0 0 ta sz_ pl at_ fa fw cs fd rfm rt_ to_ rw_ wa ct rk rb cn br sm as_ go sh_ ir oa ob (nI th) ig sp_ ki tg of_ kp sf rs), (aM g tg 12 (he_ro 12 r8))] ++ he_pl g L ln M) := hD
  refine he_top (1) (he_within_1 hok0) ?_
  refine lv_if_ne (tgt := 20) hx hb dX11_spy_13 (by decide) (fun c_4 => ?_) (fun c_4 => ?_)
  · refine lv_iconst (v := 0) hx hb dX11_spy_20 (by decide) ?_
    refine lv_iconst (v := 1) hx hb dX11_spy_21 (by decide) ?_
    refine lv_iconst (v := 2) hx hb dX11_spy_22 (by decide) ?_
    refine he_ci (wc := [(oX11 m0 0 ta sz_ pl at_ fa fw cs fd rfm rt_ to_ rw_ wa ct rk rb cn br sm as_ go sh_ ir oa ob (nI th) ig sp_ ki tg of_ kp sf rs)]) (wr := ([(aM g tg 12 (he_ro 12 r8))] ++ (he_pl g L ln M))) (va_runV (As := [.int 0, .int 1, .int 2]) (rest := []) ⟨hx, hb, hml, hown, hts⟩ (c_X11_bad0 l g m0 fd rfm rt_ to_ rw_ wa rk rb cn br sm as_ go sh_ ki tg of_ kp rs ta sz_ pl at_ fa fw cs ct ir oa ob (nI th) ig sp_ sf 1 2 H.size) (cwV 3 hts gX11_spy_X11_bad rfl rfl rfl (by decide +kernel) ⟨Nat.le_of_ble_eq_true rfl, Nat.le_of_ble_eq_true rfl⟩) (he_preV (wc := [(oX11 m0 0 ta sz_ pl at_ fa fw cs fd rfm rt_ to_ rw_ wa ct rk rb cn br sm as_ go sh_ ir oa ob (nI th) ig sp_ ki tg of_ kp sf rs)]) hK hP hD hS hA hE [0] rfl rfl 0 rfl rfl) rfl rfl hl.1 rfl (lv_room (Nat.le_of_ble_eq_true rfl)) dX11_spy_23 ⟨(Nat.le_of_ble_eq_true rfl), (Nat.le_of_ble_eq_true rfl)⟩) hP hD hS hA [0] (he_is [1] [(oX11 m0 0 ta sz_ pl at_ fa fw cs fd rfm rt_ to_ rw_ wa ct rk rb cn br sm as_ go sh_ ir oa ob (nI th) ig sp_ ki tg of_ kp sf rs), (aM g tg 12 (he_ro 12 r8))] (he_pl g L ln M)) rfl (he_ixP rfl) (he_ndP rfl rfl) (he_disN (by decide) rfl) (fun r_5 u_6 H locs h_7 hP hD hS => ?_)
    have hP := va_P.swap hP
    have hD := va_D.swap hD
    subst h_7
    have hP : va_P g.1 vwCl ([(aM g tg 12 (he_ro 12 r8)), (oX11 m0 0 ta sz_ pl at_ fa fw cs fd rfm rt_ to_ rw_ wa ct rk rb cn br sm as_ go sh_ ir oa ob (nI th) ig sp_ ki tg of_ kp sf rs)] ++ he_pl g L ln M) H := hP
    have hD : va_D A ([(aM g tg 12 (he_ro 12 r8)), (oX11 m0 0 ta sz_ pl at_ fa fw cs fd rfm rt_ to_ rw_ wa ct rk rb cn br sm as_ go sh_ ir oa ob (nI th) ig sp_ ki tg of_ kp sf rs)] ++ he_pl g L ln M) := hD
    refine lv_if_eq (tgt := 31) hx hb dX11_spy_26 (by decide) (fun c_8 => ?_) (fun c_8 => ?_)
    · refine lv_aload_n hx hb dX11_spy_31 rfl (lv_at hl 0 rfl) ?_
      refine lv_iload_n hx hb dX11_spy_32 rfl (lv_at hl 1 rfl) ?_
      refine lv_if_eq (tgt := 40) hx hb dX11_spy_33 (by decide) (fun c_9 => ?_) (fun c_9 => ?_)
      · refine lv_bipush (v := 16) hx hb dX11_spy_40 (by decide) ?_
        refine lv_iload_n hx hb dX11_spy_42 rfl (lv_at hl 2 rfl) ?_
        refine lv_isub hx hb dX11_spy_43 ?_
        refine lv_iload_n hx hb dX11_spy_44 rfl (lv_at hl 1 rfl) ?_
        refine lv_if_eq (tgt := 55) hx hb dX11_spy_45 (by decide) (fun c_10 => ?_) (fun c_10 => ?_)
        · refine lv_iload_n hx hb dX11_spy_55 rfl (lv_at hl 2 rfl) ?_
          refine he_ci (wc := ([(oX11 m0 0 ta sz_ pl at_ fa fw cs fd rfm rt_ to_ rw_ wa ct rk rb cn br sm as_ go sh_ ir oa ob (nI th) ig sp_ ki tg of_ kp sf rs), (aM g tg 12 (he_ro 12 r8))] ++ (he_pl g L ln M))) (wr := []) (va_runV (As := [.int (16 - x), .int x]) (rest := []) ⟨hx, hb, hml, hown, hts⟩ (h_X11_isSeen l g m0 fd rfm rt_ to_ rw_ wa rk rb cn br sm as_ go sh_ ki tg of_ kp rs ta sz_ pl at_ fa fw cs ct ir oa ob ig sp_ sf 0 th L ln M r8 (16 - x) x (by first | assumption | decide | omega) (by first | assumption | decide | omega) H.size) (cwV 2 hts gX11_spy_X11_isSeen rfl rfl rfl (by decide +kernel) ⟨Nat.le_of_ble_eq_true rfl, Nat.le_of_ble_eq_true rfl⟩) (he_preV (wc := ([(oX11 m0 0 ta sz_ pl at_ fa fw cs fd rfm rt_ to_ rw_ wa ct rk rb cn br sm as_ go sh_ ir oa ob (nI th) ig sp_ ki tg of_ kp sf rs), (aM g tg 12 (he_ro 12 r8))] ++ (he_pl g L ln M))) hK hP hD hS hA hE (he_is [1, 0] [(aM g tg 12 (he_ro 12 r8)), (oX11 m0 0 ta sz_ pl at_ fa fw cs fd rfm rt_ to_ rw_ wa ct rk rb cn br sm as_ go sh_ ir oa ob (nI th) ig sp_ ki tg of_ kp sf rs)] (he_pl g L ln M)) (he_ixP rfl) (he_ndP rfl rfl) 1 rfl rfl) rfl rfl hl.1 rfl (lv_room (Nat.le_of_ble_eq_true rfl)) dX11_spy_56 ⟨(Nat.le_of_ble_eq_true rfl), (Nat.le_of_ble_eq_true rfl)⟩) hP hD hS hA (he_is [1, 0] [(aM g tg 12 (he_ro 12 r8)), (oX11 m0 0 ta sz_ pl at_ fa fw cs fd rfm rt_ to_ rw_ wa ct rk rb cn br sm as_ go sh_ ir oa ob (nI th) ig sp_ ki tg of_ kp sf rs)] (he_pl g L ln M)) [] (he_ixP rfl) rfl rfl (he_disP (by decide) rfl) (fun r_11 u_12 H locs h_13 hP hD hS => ?_)
          obtain ⟨Mu_14, rfl⟩ : ∃ z, z = u_12 := ⟨_, rfl⟩
          try dsimp only at h_13
          obtain ⟨rfl, hf_15⟩ := h_13
          have hP : va_P g.1 vwCl ([(oX11 m0 0 ta sz_ pl at_ fa fw cs fd rfm rt_ to_ rw_ wa ct rk rb cn br sm as_ go sh_ ir oa ob (nI (th + 1)) ig sp_ ki tg of_ kp sf rs), (aM g tg 12 (he_ro 12 r8))] ++ he_pl g L ln Mu_14) H := hP
          have hD : va_D A ([(oX11 m0 0 ta sz_ pl at_ fa fw cs fd rfm rt_ to_ rw_ wa ct rk rb cn br sm as_ go sh_ ir oa ob (nI (th + 1)) ig sp_ ki tg of_ kp sf rs), (aM g tg 12 (he_ro 12 r8))] ++ he_pl g L ln Mu_14) := hD
          exact he_ri hQ hx hb hr hlk hP hD hS dX11_spy_59 (Nat.le_of_ble_eq_true rfl) (Nat.le_of_ble_eq_true rfl) (Mu_14) (rfl) (⟨rfl, hf_15⟩)
        · exact absurd (by decide) c_10
      · exact absurd (by decide) c_9
    · exact absurd (by decide) c_8
  · exact absurd c_4 (by decide)
set_option maxHeartbeats 4000000 in
set_option maxRecDepth 100000 in
theorem h_X11_spyF0 (l : Launch) (g : he_G) (m0 : Nat) (fd : Nat) (rfm : Nat) (rt_ : Nat) (to_ : Nat) (rw_ : Nat) (wa : Nat) (rk : Nat) (rb : Nat) (cn : Nat) (br : Nat) (sm : Nat) (as_ : Nat) (go : Nat) (sh_ : Nat) (ki : Nat) (tg : Nat) (of_ : Nat) (kp : Nat) (rs : Nat) (ta : Int32) (sz_ : Int32) (pl : Int32) (at_ : Int32) (fa : Int32) (fw : Int32) (cs : Int32) (ct : Int32) (ir : Int32) (oa : Int32) (ob : Int32) (ig : Int32) (sp_ : Int32) (sf : Int32) (tw : Int32) (th : Nat) (x : Int32) (hok0 : ¬ he_within x 1 15 = 0) (hth : th = 12) : he_I l yX11_spy wsX11_spy 1 23 0 0 g [.ref m0, .int 0, .int x] [(oX11 m0 tw ta sz_ pl at_ fa fw cs fd rfm rt_ to_ rw_ wa ct rk rb cn br sm as_ go sh_ ir oa ob (nI th) ig sp_ ki tg of_ kp sf rs)] (fun (r : Int32) (u : Unit) => r = (-1)) (fun (u : Unit) => [(oX11 m0 0 ta sz_ pl at_ fa fw cs fd rfm rt_ to_ rw_ wa ct rk rb cn br sm as_ go sh_ ir oa ob (nI th) ig sp_ ki tg of_ kp sf rs)]) := by
  refine he_begin (l := l) (g := g) (y := yX11_spy) (wl := wsX11_spy) (fr := 1) (lo := 23) (mc := 0) (ms := 0) (av := [.ref m0, .int 0, .int x]) (ws := [(oX11 m0 tw ta sz_ pl at_ fa fw cs fd rfm rt_ to_ rw_ wa ct rk rb cn br sm as_ go sh_ ir oa ob (nI th) ig sp_ ki tg of_ kp sf rs)]) (cc := cX11_spy) (maxL := 3) (ret := (some .int)) (fun A => va_Qi (fun (r : Int32) (u : Unit) => r = (-1)) (fun u t => he_post g A ((fun (u : Unit) => [(oX11 m0 0 ta sz_ pl at_ fa fw cs fd rfm rt_ to_ rw_ wa ct rk rb cn br sm as_ go sh_ ir oa ob (nI th) ig sp_ ki tg of_ kp sf rs)]) u) t) A) (by decide) rfl (Nat.le_of_ble_eq_true rfl) ?_
  intro p e s m args below meth c A ls H locs Q hQ hB
  obtain ⟨hx, hb, hr, hml, hown, hts, hlk, hin, hP, hK, hD, hS, hA, hE, hl⟩ := hB
  have hl : lv_has ls 3 [(0, .ref m0), (1, .int 0), (2, .int x)] := hl
  have f85 := hts (.fieldLink RX11 85 "HiredEnemyModel" "thrown" "I") (iwoX11_spy (k := 0) rfl)
  have inX11 : ∀ w ∈ wsX110, w ∈ wsX11_spy := innX11_spy_X11
  refine lv_aload_n hx hb dX11_spy_0 rfl (lv_at hl 0 rfl) ?_
  refine lv_iconst (v := 0) hx hb dX11_spy_1 (by decide) ?_
  refine va_put (v := .int 0) (ty := .int) (T := TX11) (N := 35) hx hb hts inX11 tyX11 tyX11_ok nmX11 hown hK hP hD hS 0 rfl rfl 0 (by decide) f85 (fun _ h9 => h9) rfl (by decide +kernel) rfl rfl (Nat.le_of_ble_eq_true rfl) dX11_spy_2 (fun H locs hP hD hS => ?_)
  have hP : va_P g.1 vwCl [(oX11 m0 0 ta sz_ pl at_ fa fw cs fd rfm rt_ to_ rw_ wa ct rk rb cn br sm as_ go sh_ ir oa ob (nI th) ig sp_ ki tg of_ kp sf rs)] H := hP
  have hD : va_D A [(oX11 m0 0 ta sz_ pl at_ fa fw cs fd rfm rt_ to_ rw_ wa ct rk rb cn br sm as_ go sh_ ir oa ob (nI th) ig sp_ ki tg of_ kp sf rs)] := hD
  refine lv_aload_n hx hb dX11_spy_5 rfl (lv_at hl 0 rfl) ?_
  refine lv_iload_n hx hb dX11_spy_6 rfl (lv_at hl 2 rfl) ?_
  refine lv_iconst (v := 1) hx hb dX11_spy_7 (by decide) ?_
  refine lv_bipush (v := 15) hx hb dX11_spy_8 (by decide) ?_
  refine he_ci (wc := []) (wr := [(oX11 m0 0 ta sz_ pl at_ fa fw cs fd rfm rt_ to_ rw_ wa ct rk rb cn br sm as_ go sh_ ir oa ob (nI th) ig sp_ ki tg of_ kp sf rs)]) (va_runS (As := [.int x, .int 1, .int 15]) (rest := [.ref m0]) ⟨hx, hb, hml, hown, hts⟩ (c_X11_in l g x 1 15 H.size) (va_cwS 3 hts gX11_spy_X11_in rfl rfl rfl (by decide +kernel) ⟨Nat.le_of_ble_eq_true rfl, Nat.le_of_ble_eq_true rfl⟩) (he_preS (wc := []) hK hP hD hS hA hE [] rfl rfl) rfl rfl hl.1 rfl (lv_room (Nat.le_of_ble_eq_true rfl)) dX11_spy_10 ⟨(Nat.le_of_ble_eq_true rfl), (Nat.le_of_ble_eq_true rfl)⟩) hP hD hS hA [] [0] rfl rfl rfl (by decide) (fun r_1 u_2 H locs h_3 hP hD hS => ?_)
  subst h_3
  have hP : va_P g.1 vwCl [(oX11 m0 0 ta sz_ pl at_ fa fw cs fd rfm rt_ to_ rw_ wa ct rk rb cn br sm as_ go sh_ ir oa ob (nI th) ig sp_ ki tg of_ kp sf rs)] H := hP
  have hD : va_D A [(oX11 m0 0 ta sz_ pl at_ fa fw cs fd rfm rt_ to_ rw_ wa ct rk rb cn br sm as_ go sh_ ir oa ob (nI th) ig sp_ ki tg of_ kp sf rs)] := hD
  refine he_top (1) (he_within_1 hok0) ?_
  refine lv_if_ne (tgt := 20) hx hb dX11_spy_13 (by decide) (fun c_4 => ?_) (fun c_4 => ?_)
  · refine lv_iconst (v := 0) hx hb dX11_spy_20 (by decide) ?_
    refine lv_iconst (v := 1) hx hb dX11_spy_21 (by decide) ?_
    refine lv_iconst (v := 2) hx hb dX11_spy_22 (by decide) ?_
    refine he_ci (wc := [(oX11 m0 0 ta sz_ pl at_ fa fw cs fd rfm rt_ to_ rw_ wa ct rk rb cn br sm as_ go sh_ ir oa ob (nI th) ig sp_ ki tg of_ kp sf rs)]) (wr := []) (va_runV (As := [.int 0, .int 1, .int 2]) (rest := []) ⟨hx, hb, hml, hown, hts⟩ (c_X11_bad0 l g m0 fd rfm rt_ to_ rw_ wa rk rb cn br sm as_ go sh_ ki tg of_ kp rs ta sz_ pl at_ fa fw cs ct ir oa ob (nI th) ig sp_ sf 1 2 H.size) (cwV 3 hts gX11_spy_X11_bad rfl rfl rfl (by decide +kernel) ⟨Nat.le_of_ble_eq_true rfl, Nat.le_of_ble_eq_true rfl⟩) (he_preV (wc := [(oX11 m0 0 ta sz_ pl at_ fa fw cs fd rfm rt_ to_ rw_ wa ct rk rb cn br sm as_ go sh_ ir oa ob (nI th) ig sp_ ki tg of_ kp sf rs)]) hK hP hD hS hA hE [0] rfl rfl 0 rfl rfl) rfl rfl hl.1 rfl (lv_room (Nat.le_of_ble_eq_true rfl)) dX11_spy_23 ⟨(Nat.le_of_ble_eq_true rfl), (Nat.le_of_ble_eq_true rfl)⟩) hP hD hS hA [0] [] rfl rfl rfl (by decide) (fun r_5 u_6 H locs h_7 hP hD hS => ?_)
    subst h_7
    have hP : va_P g.1 vwCl [(oX11 m0 0 ta sz_ pl at_ fa fw cs fd rfm rt_ to_ rw_ wa ct rk rb cn br sm as_ go sh_ ir oa ob (nI th) ig sp_ ki tg of_ kp sf rs)] H := hP
    have hD : va_D A [(oX11 m0 0 ta sz_ pl at_ fa fw cs fd rfm rt_ to_ rw_ wa ct rk rb cn br sm as_ go sh_ ir oa ob (nI th) ig sp_ ki tg of_ kp sf rs)] := hD
    refine lv_if_eq (tgt := 31) hx hb dX11_spy_26 (by decide) (fun c_8 => ?_) (fun c_8 => ?_)
    · refine lv_aload_n hx hb dX11_spy_31 rfl (lv_at hl 0 rfl) ?_
      refine lv_iload_n hx hb dX11_spy_32 rfl (lv_at hl 1 rfl) ?_
      refine lv_if_eq (tgt := 40) hx hb dX11_spy_33 (by decide) (fun c_9 => ?_) (fun c_9 => ?_)
      · refine lv_bipush (v := 16) hx hb dX11_spy_40 (by decide) ?_
        refine lv_iload_n hx hb dX11_spy_42 rfl (lv_at hl 2 rfl) ?_
        refine lv_isub hx hb dX11_spy_43 ?_
        refine lv_iload_n hx hb dX11_spy_44 rfl (lv_at hl 1 rfl) ?_
        refine lv_if_eq (tgt := 55) hx hb dX11_spy_45 (by decide) (fun c_10 => ?_) (fun c_10 => ?_)
        · refine lv_iload_n hx hb dX11_spy_55 rfl (lv_at hl 2 rfl) ?_
          refine he_ci (wc := [(oX11 m0 0 ta sz_ pl at_ fa fw cs fd rfm rt_ to_ rw_ wa ct rk rb cn br sm as_ go sh_ ir oa ob (nI th) ig sp_ ki tg of_ kp sf rs)]) (wr := []) (va_runV (As := [.int (16 - x), .int x]) (rest := []) ⟨hx, hb, hml, hown, hts⟩ (h_X11_isSeenF l g m0 fd rfm rt_ to_ rw_ wa rk rb cn br sm as_ go sh_ ki tg of_ kp rs ta sz_ pl at_ fa fw cs ct ir oa ob ig sp_ sf 0 th (16 - x) x (by first | assumption | decide | omega) H.size) (cwV 2 hts gX11_spy_X11_isSeen rfl rfl rfl (by decide +kernel) ⟨Nat.le_of_ble_eq_true rfl, Nat.le_of_ble_eq_true rfl⟩) (he_preV (wc := [(oX11 m0 0 ta sz_ pl at_ fa fw cs fd rfm rt_ to_ rw_ wa ct rk rb cn br sm as_ go sh_ ir oa ob (nI th) ig sp_ ki tg of_ kp sf rs)]) hK hP hD hS hA hE [0] rfl rfl 0 rfl rfl) rfl rfl hl.1 rfl (lv_room (Nat.le_of_ble_eq_true rfl)) dX11_spy_56 ⟨(Nat.le_of_ble_eq_true rfl), (Nat.le_of_ble_eq_true rfl)⟩) hP hD hS hA [0] [] rfl rfl rfl (by decide) (fun r_11 u_12 H locs h_13 hP hD hS => ?_)
          subst h_13
          have hP : va_P g.1 vwCl [(oX11 m0 0 ta sz_ pl at_ fa fw cs fd rfm rt_ to_ rw_ wa ct rk rb cn br sm as_ go sh_ ir oa ob (nI th) ig sp_ ki tg of_ kp sf rs)] H := hP
          have hD : va_D A [(oX11 m0 0 ta sz_ pl at_ fa fw cs fd rfm rt_ to_ rw_ wa ct rk rb cn br sm as_ go sh_ ir oa ob (nI th) ig sp_ ki tg of_ kp sf rs)] := hD
          exact he_ri hQ hx hb hr hlk hP hD hS dX11_spy_59 (Nat.le_of_ble_eq_true rfl) (Nat.le_of_ble_eq_true rfl) (()) (rfl) (rfl)
        · exact absurd (by decide) c_10
      · exact absurd (by decide) c_9
    · exact absurd (by decide) c_8
  · exact absurd c_4 (by decide)
set_option maxHeartbeats 4000000 in
set_option maxRecDepth 100000 in
theorem h_X11_spy1 (l : Launch) (g : he_G) (m0 : Nat) (fd : Nat) (rfm : Nat) (rt_ : Nat) (to_ : Nat) (rw_ : Nat) (wa : Nat) (rk : Nat) (rb : Nat) (cn : Nat) (br : Nat) (sm : Nat) (as_ : Nat) (go : Nat) (sh_ : Nat) (ki : Nat) (tg : Nat) (of_ : Nat) (kp : Nat) (rs : Nat) (ta : Int32) (sz_ : Int32) (pl : Int32) (at_ : Int32) (fa : Int32) (fw : Int32) (cs : Int32) (ct : Int32) (ir : Int32) (oa : Int32) (ob : Int32) (ig : Int32) (sp_ : Int32) (sf : Int32) (tw : Int32) (th : Nat) (L : List Nat) (ln : Nat → Nat) (M : Nat → Nat → Int32) (r8 : Nat → Nat) (x : Int32) (F_r8 : ∀ i, i < 12 → r8 i ∈ L ∧ ln (r8 i) = 2 ∧ True) (hok0 : ¬ he_within x 1 15 = 0) (hth : th < 12) : he_I l yX11_spy wsX11_spy 1 23 0 0 g [.ref m0, .int 1, .int x] ([(oX11 m0 tw ta sz_ pl at_ fa fw cs fd rfm rt_ to_ rw_ wa ct rk rb cn br sm as_ go sh_ ir oa ob (nI th) ig sp_ ki tg of_ kp sf rs), (aM g tg 12 (he_ro 12 r8))] ++ he_pl g L ln M) (fun (r : Int32) (u : Nat → Nat → Int32) => r = nI (th + 1) ∧ u = va_up M (r8 th) (upd (upd (M (r8 th)) 0 (x)) 1 (16 - x))) (fun (u : Nat → Nat → Int32) => [(oX11 m0 0 ta sz_ pl at_ fa fw cs fd rfm rt_ to_ rw_ wa ct rk rb cn br sm as_ go sh_ ir oa ob (nI (th + 1)) ig sp_ ki tg of_ kp sf rs), (aM g tg 12 (he_ro 12 r8))] ++ he_pl g L ln u) := by
  refine he_begin (l := l) (g := g) (y := yX11_spy) (wl := wsX11_spy) (fr := 1) (lo := 23) (mc := 0) (ms := 0) (av := [.ref m0, .int 1, .int x]) (ws := ([(oX11 m0 tw ta sz_ pl at_ fa fw cs fd rfm rt_ to_ rw_ wa ct rk rb cn br sm as_ go sh_ ir oa ob (nI th) ig sp_ ki tg of_ kp sf rs), (aM g tg 12 (he_ro 12 r8))] ++ he_pl g L ln M)) (cc := cX11_spy) (maxL := 3) (ret := (some .int)) (fun A => va_Qi (fun (r : Int32) (u : Nat → Nat → Int32) => r = nI (th + 1) ∧ u = va_up M (r8 th) (upd (upd (M (r8 th)) 0 (x)) 1 (16 - x))) (fun u t => he_post g A ((fun (u : Nat → Nat → Int32) => [(oX11 m0 0 ta sz_ pl at_ fa fw cs fd rfm rt_ to_ rw_ wa ct rk rb cn br sm as_ go sh_ ir oa ob (nI (th + 1)) ig sp_ ki tg of_ kp sf rs), (aM g tg 12 (he_ro 12 r8))] ++ he_pl g L ln u) u) t) A) (by decide) rfl (Nat.le_of_ble_eq_true rfl) ?_
  intro p e s m args below meth c A ls H locs Q hQ hB
  obtain ⟨hx, hb, hr, hml, hown, hts, hlk, hin, hP, hK, hD, hS, hA, hE, hl⟩ := hB
  have hl : lv_has ls 3 [(0, .ref m0), (1, .int 1), (2, .int x)] := hl
  have f85 := hts (.fieldLink RX11 85 "HiredEnemyModel" "thrown" "I") (iwoX11_spy (k := 0) rfl)
  have inX11 : ∀ w ∈ wsX110, w ∈ wsX11_spy := innX11_spy_X11
  refine lv_aload_n hx hb dX11_spy_0 rfl (lv_at hl 0 rfl) ?_
  refine lv_iconst (v := 0) hx hb dX11_spy_1 (by decide) ?_
  refine va_put (v := .int 0) (ty := .int) (T := TX11) (N := 35) hx hb hts inX11 tyX11 tyX11_ok nmX11 hown hK hP hD hS 0 rfl rfl 0 (by decide) f85 (fun _ h9 => h9) rfl (by decide +kernel) rfl rfl (Nat.le_of_ble_eq_true rfl) dX11_spy_2 (fun H locs hP hD hS => ?_)
  have hP : va_P g.1 vwCl ([(oX11 m0 0 ta sz_ pl at_ fa fw cs fd rfm rt_ to_ rw_ wa ct rk rb cn br sm as_ go sh_ ir oa ob (nI th) ig sp_ ki tg of_ kp sf rs), (aM g tg 12 (he_ro 12 r8))] ++ he_pl g L ln M) H := hP
  have hD : va_D A ([(oX11 m0 0 ta sz_ pl at_ fa fw cs fd rfm rt_ to_ rw_ wa ct rk rb cn br sm as_ go sh_ ir oa ob (nI th) ig sp_ ki tg of_ kp sf rs), (aM g tg 12 (he_ro 12 r8))] ++ he_pl g L ln M) := hD
  refine lv_aload_n hx hb dX11_spy_5 rfl (lv_at hl 0 rfl) ?_
  refine lv_iload_n hx hb dX11_spy_6 rfl (lv_at hl 2 rfl) ?_
  refine lv_iconst (v := 1) hx hb dX11_spy_7 (by decide) ?_
  refine lv_bipush (v := 15) hx hb dX11_spy_8 (by decide) ?_
  refine he_ci (wc := []) (wr := ([(oX11 m0 0 ta sz_ pl at_ fa fw cs fd rfm rt_ to_ rw_ wa ct rk rb cn br sm as_ go sh_ ir oa ob (nI th) ig sp_ ki tg of_ kp sf rs), (aM g tg 12 (he_ro 12 r8))] ++ (he_pl g L ln M))) (va_runS (As := [.int x, .int 1, .int 15]) (rest := [.ref m0]) ⟨hx, hb, hml, hown, hts⟩ (c_X11_in l g x 1 15 H.size) (va_cwS 3 hts gX11_spy_X11_in rfl rfl rfl (by decide +kernel) ⟨Nat.le_of_ble_eq_true rfl, Nat.le_of_ble_eq_true rfl⟩) (he_preS (wc := []) hK hP hD hS hA hE [] rfl rfl) rfl rfl hl.1 rfl (lv_room (Nat.le_of_ble_eq_true rfl)) dX11_spy_10 ⟨(Nat.le_of_ble_eq_true rfl), (Nat.le_of_ble_eq_true rfl)⟩) hP hD hS hA [] (he_is [0, 1] [(oX11 m0 0 ta sz_ pl at_ fa fw cs fd rfm rt_ to_ rw_ wa ct rk rb cn br sm as_ go sh_ ir oa ob (nI th) ig sp_ ki tg of_ kp sf rs), (aM g tg 12 (he_ro 12 r8))] (he_pl g L ln M)) rfl (he_ixP rfl) (he_ndP rfl rfl) (he_disN (by decide) rfl) (fun r_1 u_2 H locs h_3 hP hD hS => ?_)
  have hP := va_P.swap hP
  have hD := va_D.swap hD
  subst h_3
  have hP : va_P g.1 vwCl ([(oX11 m0 0 ta sz_ pl at_ fa fw cs fd rfm rt_ to_ rw_ wa ct rk rb cn br sm as_ go sh_ ir oa ob (nI th) ig sp_ ki tg of_ kp sf rs), (aM g tg 12 (he_ro 12 r8))] ++ he_pl g L ln M) H := hP
  have hD : va_D A ([(oX11 m0 0 ta sz_ pl at_ fa fw cs fd rfm rt_ to_ rw_ wa ct rk rb cn br sm as_ go sh_ ir oa ob (nI th) ig sp_ ki tg of_ kp sf rs), (aM g tg 12 (he_ro 12 r8))] ++ he_pl g L ln M) := hD
  refine he_top (1) (he_within_1 hok0) ?_
  refine lv_if_ne (tgt := 20) hx hb dX11_spy_13 (by decide) (fun c_4 => ?_) (fun c_4 => ?_)
  · refine lv_iconst (v := 0) hx hb dX11_spy_20 (by decide) ?_
    refine lv_iconst (v := 1) hx hb dX11_spy_21 (by decide) ?_
    refine lv_iconst (v := 2) hx hb dX11_spy_22 (by decide) ?_
    refine he_ci (wc := [(oX11 m0 0 ta sz_ pl at_ fa fw cs fd rfm rt_ to_ rw_ wa ct rk rb cn br sm as_ go sh_ ir oa ob (nI th) ig sp_ ki tg of_ kp sf rs)]) (wr := ([(aM g tg 12 (he_ro 12 r8))] ++ (he_pl g L ln M))) (va_runV (As := [.int 0, .int 1, .int 2]) (rest := []) ⟨hx, hb, hml, hown, hts⟩ (c_X11_bad0 l g m0 fd rfm rt_ to_ rw_ wa rk rb cn br sm as_ go sh_ ki tg of_ kp rs ta sz_ pl at_ fa fw cs ct ir oa ob (nI th) ig sp_ sf 1 2 H.size) (cwV 3 hts gX11_spy_X11_bad rfl rfl rfl (by decide +kernel) ⟨Nat.le_of_ble_eq_true rfl, Nat.le_of_ble_eq_true rfl⟩) (he_preV (wc := [(oX11 m0 0 ta sz_ pl at_ fa fw cs fd rfm rt_ to_ rw_ wa ct rk rb cn br sm as_ go sh_ ir oa ob (nI th) ig sp_ ki tg of_ kp sf rs)]) hK hP hD hS hA hE [0] rfl rfl 0 rfl rfl) rfl rfl hl.1 rfl (lv_room (Nat.le_of_ble_eq_true rfl)) dX11_spy_23 ⟨(Nat.le_of_ble_eq_true rfl), (Nat.le_of_ble_eq_true rfl)⟩) hP hD hS hA [0] (he_is [1] [(oX11 m0 0 ta sz_ pl at_ fa fw cs fd rfm rt_ to_ rw_ wa ct rk rb cn br sm as_ go sh_ ir oa ob (nI th) ig sp_ ki tg of_ kp sf rs), (aM g tg 12 (he_ro 12 r8))] (he_pl g L ln M)) rfl (he_ixP rfl) (he_ndP rfl rfl) (he_disN (by decide) rfl) (fun r_5 u_6 H locs h_7 hP hD hS => ?_)
    have hP := va_P.swap hP
    have hD := va_D.swap hD
    subst h_7
    have hP : va_P g.1 vwCl ([(aM g tg 12 (he_ro 12 r8)), (oX11 m0 0 ta sz_ pl at_ fa fw cs fd rfm rt_ to_ rw_ wa ct rk rb cn br sm as_ go sh_ ir oa ob (nI th) ig sp_ ki tg of_ kp sf rs)] ++ he_pl g L ln M) H := hP
    have hD : va_D A ([(aM g tg 12 (he_ro 12 r8)), (oX11 m0 0 ta sz_ pl at_ fa fw cs fd rfm rt_ to_ rw_ wa ct rk rb cn br sm as_ go sh_ ir oa ob (nI th) ig sp_ ki tg of_ kp sf rs)] ++ he_pl g L ln M) := hD
    refine lv_if_eq (tgt := 31) hx hb dX11_spy_26 (by decide) (fun c_8 => ?_) (fun c_8 => ?_)
    · refine lv_aload_n hx hb dX11_spy_31 rfl (lv_at hl 0 rfl) ?_
      refine lv_iload_n hx hb dX11_spy_32 rfl (lv_at hl 1 rfl) ?_
      refine lv_if_eq (tgt := 40) hx hb dX11_spy_33 (by decide) (fun c_9 => ?_) (fun c_9 => ?_)
      · exact absurd c_9 (by decide)
      · refine lv_iload_n hx hb dX11_spy_36 rfl (lv_at hl 2 rfl) ?_
        refine lv_goto (tgt := 44) hx hb dX11_spy_37 (by decide) ?_
        refine lv_iload_n hx hb dX11_spy_44 rfl (lv_at hl 1 rfl) ?_
        refine lv_if_eq (tgt := 55) hx hb dX11_spy_45 (by decide) (fun c_10 => ?_) (fun c_10 => ?_)
        · exact absurd c_10 (by decide)
        · refine lv_bipush (v := 16) hx hb dX11_spy_48 (by decide) ?_
          refine lv_iload_n hx hb dX11_spy_50 rfl (lv_at hl 2 rfl) ?_
          refine lv_isub hx hb dX11_spy_51 ?_
          refine lv_goto (tgt := 56) hx hb dX11_spy_52 (by decide) ?_
          refine he_ci (wc := ([(oX11 m0 0 ta sz_ pl at_ fa fw cs fd rfm rt_ to_ rw_ wa ct rk rb cn br sm as_ go sh_ ir oa ob (nI th) ig sp_ ki tg of_ kp sf rs), (aM g tg 12 (he_ro 12 r8))] ++ (he_pl g L ln M))) (wr := []) (va_runV (As := [.int x, .int (16 - x)]) (rest := []) ⟨hx, hb, hml, hown, hts⟩ (h_X11_isSeen l g m0 fd rfm rt_ to_ rw_ wa rk rb cn br sm as_ go sh_ ki tg of_ kp rs ta sz_ pl at_ fa fw cs ct ir oa ob ig sp_ sf 0 th L ln M r8 x (16 - x) (by first | assumption | decide | omega) (by first | assumption | decide | omega) H.size) (cwV 2 hts gX11_spy_X11_isSeen rfl rfl rfl (by decide +kernel) ⟨Nat.le_of_ble_eq_true rfl, Nat.le_of_ble_eq_true rfl⟩) (he_preV (wc := ([(oX11 m0 0 ta sz_ pl at_ fa fw cs fd rfm rt_ to_ rw_ wa ct rk rb cn br sm as_ go sh_ ir oa ob (nI th) ig sp_ ki tg of_ kp sf rs), (aM g tg 12 (he_ro 12 r8))] ++ (he_pl g L ln M))) hK hP hD hS hA hE (he_is [1, 0] [(aM g tg 12 (he_ro 12 r8)), (oX11 m0 0 ta sz_ pl at_ fa fw cs fd rfm rt_ to_ rw_ wa ct rk rb cn br sm as_ go sh_ ir oa ob (nI th) ig sp_ ki tg of_ kp sf rs)] (he_pl g L ln M)) (he_ixP rfl) (he_ndP rfl rfl) 1 rfl rfl) rfl rfl hl.1 rfl (lv_room (Nat.le_of_ble_eq_true rfl)) dX11_spy_56 ⟨(Nat.le_of_ble_eq_true rfl), (Nat.le_of_ble_eq_true rfl)⟩) hP hD hS hA (he_is [1, 0] [(aM g tg 12 (he_ro 12 r8)), (oX11 m0 0 ta sz_ pl at_ fa fw cs fd rfm rt_ to_ rw_ wa ct rk rb cn br sm as_ go sh_ ir oa ob (nI th) ig sp_ ki tg of_ kp sf rs)] (he_pl g L ln M)) [] (he_ixP rfl) rfl rfl (he_disP (by decide) rfl) (fun r_11 u_12 H locs h_13 hP hD hS => ?_)
          obtain ⟨Mu_14, rfl⟩ : ∃ z, z = u_12 := ⟨_, rfl⟩
          try dsimp only at h_13
          obtain ⟨rfl, hf_15⟩ := h_13
          have hP : va_P g.1 vwCl ([(oX11 m0 0 ta sz_ pl at_ fa fw cs fd rfm rt_ to_ rw_ wa ct rk rb cn br sm as_ go sh_ ir oa ob (nI (th + 1)) ig sp_ ki tg of_ kp sf rs), (aM g tg 12 (he_ro 12 r8))] ++ he_pl g L ln Mu_14) H := hP
          have hD : va_D A ([(oX11 m0 0 ta sz_ pl at_ fa fw cs fd rfm rt_ to_ rw_ wa ct rk rb cn br sm as_ go sh_ ir oa ob (nI (th + 1)) ig sp_ ki tg of_ kp sf rs), (aM g tg 12 (he_ro 12 r8))] ++ he_pl g L ln Mu_14) := hD
          exact he_ri hQ hx hb hr hlk hP hD hS dX11_spy_59 (Nat.le_of_ble_eq_true rfl) (Nat.le_of_ble_eq_true rfl) (Mu_14) (rfl) (⟨rfl, hf_15⟩)
    · exact absurd (by decide) c_8
  · exact absurd c_4 (by decide)
set_option maxHeartbeats 4000000 in
set_option maxRecDepth 100000 in
theorem h_X11_spyF1 (l : Launch) (g : he_G) (m0 : Nat) (fd : Nat) (rfm : Nat) (rt_ : Nat) (to_ : Nat) (rw_ : Nat) (wa : Nat) (rk : Nat) (rb : Nat) (cn : Nat) (br : Nat) (sm : Nat) (as_ : Nat) (go : Nat) (sh_ : Nat) (ki : Nat) (tg : Nat) (of_ : Nat) (kp : Nat) (rs : Nat) (ta : Int32) (sz_ : Int32) (pl : Int32) (at_ : Int32) (fa : Int32) (fw : Int32) (cs : Int32) (ct : Int32) (ir : Int32) (oa : Int32) (ob : Int32) (ig : Int32) (sp_ : Int32) (sf : Int32) (tw : Int32) (th : Nat) (x : Int32) (hok0 : ¬ he_within x 1 15 = 0) (hth : th = 12) : he_I l yX11_spy wsX11_spy 1 23 0 0 g [.ref m0, .int 1, .int x] [(oX11 m0 tw ta sz_ pl at_ fa fw cs fd rfm rt_ to_ rw_ wa ct rk rb cn br sm as_ go sh_ ir oa ob (nI th) ig sp_ ki tg of_ kp sf rs)] (fun (r : Int32) (u : Unit) => r = (-1)) (fun (u : Unit) => [(oX11 m0 0 ta sz_ pl at_ fa fw cs fd rfm rt_ to_ rw_ wa ct rk rb cn br sm as_ go sh_ ir oa ob (nI th) ig sp_ ki tg of_ kp sf rs)]) := by
  refine he_begin (l := l) (g := g) (y := yX11_spy) (wl := wsX11_spy) (fr := 1) (lo := 23) (mc := 0) (ms := 0) (av := [.ref m0, .int 1, .int x]) (ws := [(oX11 m0 tw ta sz_ pl at_ fa fw cs fd rfm rt_ to_ rw_ wa ct rk rb cn br sm as_ go sh_ ir oa ob (nI th) ig sp_ ki tg of_ kp sf rs)]) (cc := cX11_spy) (maxL := 3) (ret := (some .int)) (fun A => va_Qi (fun (r : Int32) (u : Unit) => r = (-1)) (fun u t => he_post g A ((fun (u : Unit) => [(oX11 m0 0 ta sz_ pl at_ fa fw cs fd rfm rt_ to_ rw_ wa ct rk rb cn br sm as_ go sh_ ir oa ob (nI th) ig sp_ ki tg of_ kp sf rs)]) u) t) A) (by decide) rfl (Nat.le_of_ble_eq_true rfl) ?_
  intro p e s m args below meth c A ls H locs Q hQ hB
  obtain ⟨hx, hb, hr, hml, hown, hts, hlk, hin, hP, hK, hD, hS, hA, hE, hl⟩ := hB
  have hl : lv_has ls 3 [(0, .ref m0), (1, .int 1), (2, .int x)] := hl
  have f85 := hts (.fieldLink RX11 85 "HiredEnemyModel" "thrown" "I") (iwoX11_spy (k := 0) rfl)
  have inX11 : ∀ w ∈ wsX110, w ∈ wsX11_spy := innX11_spy_X11
  refine lv_aload_n hx hb dX11_spy_0 rfl (lv_at hl 0 rfl) ?_
  refine lv_iconst (v := 0) hx hb dX11_spy_1 (by decide) ?_
  refine va_put (v := .int 0) (ty := .int) (T := TX11) (N := 35) hx hb hts inX11 tyX11 tyX11_ok nmX11 hown hK hP hD hS 0 rfl rfl 0 (by decide) f85 (fun _ h9 => h9) rfl (by decide +kernel) rfl rfl (Nat.le_of_ble_eq_true rfl) dX11_spy_2 (fun H locs hP hD hS => ?_)
  have hP : va_P g.1 vwCl [(oX11 m0 0 ta sz_ pl at_ fa fw cs fd rfm rt_ to_ rw_ wa ct rk rb cn br sm as_ go sh_ ir oa ob (nI th) ig sp_ ki tg of_ kp sf rs)] H := hP
  have hD : va_D A [(oX11 m0 0 ta sz_ pl at_ fa fw cs fd rfm rt_ to_ rw_ wa ct rk rb cn br sm as_ go sh_ ir oa ob (nI th) ig sp_ ki tg of_ kp sf rs)] := hD
  refine lv_aload_n hx hb dX11_spy_5 rfl (lv_at hl 0 rfl) ?_
  refine lv_iload_n hx hb dX11_spy_6 rfl (lv_at hl 2 rfl) ?_
  refine lv_iconst (v := 1) hx hb dX11_spy_7 (by decide) ?_
  refine lv_bipush (v := 15) hx hb dX11_spy_8 (by decide) ?_
  refine he_ci (wc := []) (wr := [(oX11 m0 0 ta sz_ pl at_ fa fw cs fd rfm rt_ to_ rw_ wa ct rk rb cn br sm as_ go sh_ ir oa ob (nI th) ig sp_ ki tg of_ kp sf rs)]) (va_runS (As := [.int x, .int 1, .int 15]) (rest := [.ref m0]) ⟨hx, hb, hml, hown, hts⟩ (c_X11_in l g x 1 15 H.size) (va_cwS 3 hts gX11_spy_X11_in rfl rfl rfl (by decide +kernel) ⟨Nat.le_of_ble_eq_true rfl, Nat.le_of_ble_eq_true rfl⟩) (he_preS (wc := []) hK hP hD hS hA hE [] rfl rfl) rfl rfl hl.1 rfl (lv_room (Nat.le_of_ble_eq_true rfl)) dX11_spy_10 ⟨(Nat.le_of_ble_eq_true rfl), (Nat.le_of_ble_eq_true rfl)⟩) hP hD hS hA [] [0] rfl rfl rfl (by decide) (fun r_1 u_2 H locs h_3 hP hD hS => ?_)
  subst h_3
  have hP : va_P g.1 vwCl [(oX11 m0 0 ta sz_ pl at_ fa fw cs fd rfm rt_ to_ rw_ wa ct rk rb cn br sm as_ go sh_ ir oa ob (nI th) ig sp_ ki tg of_ kp sf rs)] H := hP
  have hD : va_D A [(oX11 m0 0 ta sz_ pl at_ fa fw cs fd rfm rt_ to_ rw_ wa ct rk rb cn br sm as_ go sh_ ir oa ob (nI th) ig sp_ ki tg of_ kp sf rs)] := hD
  refine he_top (1) (he_within_1 hok0) ?_
  refine lv_if_ne (tgt := 20) hx hb dX11_spy_13 (by decide) (fun c_4 => ?_) (fun c_4 => ?_)
  · refine lv_iconst (v := 0) hx hb dX11_spy_20 (by decide) ?_
    refine lv_iconst (v := 1) hx hb dX11_spy_21 (by decide) ?_
    refine lv_iconst (v := 2) hx hb dX11_spy_22 (by decide) ?_
    refine he_ci (wc := [(oX11 m0 0 ta sz_ pl at_ fa fw cs fd rfm rt_ to_ rw_ wa ct rk rb cn br sm as_ go sh_ ir oa ob (nI th) ig sp_ ki tg of_ kp sf rs)]) (wr := []) (va_runV (As := [.int 0, .int 1, .int 2]) (rest := []) ⟨hx, hb, hml, hown, hts⟩ (c_X11_bad0 l g m0 fd rfm rt_ to_ rw_ wa rk rb cn br sm as_ go sh_ ki tg of_ kp rs ta sz_ pl at_ fa fw cs ct ir oa ob (nI th) ig sp_ sf 1 2 H.size) (cwV 3 hts gX11_spy_X11_bad rfl rfl rfl (by decide +kernel) ⟨Nat.le_of_ble_eq_true rfl, Nat.le_of_ble_eq_true rfl⟩) (he_preV (wc := [(oX11 m0 0 ta sz_ pl at_ fa fw cs fd rfm rt_ to_ rw_ wa ct rk rb cn br sm as_ go sh_ ir oa ob (nI th) ig sp_ ki tg of_ kp sf rs)]) hK hP hD hS hA hE [0] rfl rfl 0 rfl rfl) rfl rfl hl.1 rfl (lv_room (Nat.le_of_ble_eq_true rfl)) dX11_spy_23 ⟨(Nat.le_of_ble_eq_true rfl), (Nat.le_of_ble_eq_true rfl)⟩) hP hD hS hA [0] [] rfl rfl rfl (by decide) (fun r_5 u_6 H locs h_7 hP hD hS => ?_)
    subst h_7
    have hP : va_P g.1 vwCl [(oX11 m0 0 ta sz_ pl at_ fa fw cs fd rfm rt_ to_ rw_ wa ct rk rb cn br sm as_ go sh_ ir oa ob (nI th) ig sp_ ki tg of_ kp sf rs)] H := hP
    have hD : va_D A [(oX11 m0 0 ta sz_ pl at_ fa fw cs fd rfm rt_ to_ rw_ wa ct rk rb cn br sm as_ go sh_ ir oa ob (nI th) ig sp_ ki tg of_ kp sf rs)] := hD
    refine lv_if_eq (tgt := 31) hx hb dX11_spy_26 (by decide) (fun c_8 => ?_) (fun c_8 => ?_)
    · refine lv_aload_n hx hb dX11_spy_31 rfl (lv_at hl 0 rfl) ?_
      refine lv_iload_n hx hb dX11_spy_32 rfl (lv_at hl 1 rfl) ?_
      refine lv_if_eq (tgt := 40) hx hb dX11_spy_33 (by decide) (fun c_9 => ?_) (fun c_9 => ?_)
      · exact absurd c_9 (by decide)
      · refine lv_iload_n hx hb dX11_spy_36 rfl (lv_at hl 2 rfl) ?_
        refine lv_goto (tgt := 44) hx hb dX11_spy_37 (by decide) ?_
        refine lv_iload_n hx hb dX11_spy_44 rfl (lv_at hl 1 rfl) ?_
        refine lv_if_eq (tgt := 55) hx hb dX11_spy_45 (by decide) (fun c_10 => ?_) (fun c_10 => ?_)
        · exact absurd c_10 (by decide)
        · refine lv_bipush (v := 16) hx hb dX11_spy_48 (by decide) ?_
          refine lv_iload_n hx hb dX11_spy_50 rfl (lv_at hl 2 rfl) ?_
          refine lv_isub hx hb dX11_spy_51 ?_
          refine lv_goto (tgt := 56) hx hb dX11_spy_52 (by decide) ?_
          refine he_ci (wc := [(oX11 m0 0 ta sz_ pl at_ fa fw cs fd rfm rt_ to_ rw_ wa ct rk rb cn br sm as_ go sh_ ir oa ob (nI th) ig sp_ ki tg of_ kp sf rs)]) (wr := []) (va_runV (As := [.int x, .int (16 - x)]) (rest := []) ⟨hx, hb, hml, hown, hts⟩ (h_X11_isSeenF l g m0 fd rfm rt_ to_ rw_ wa rk rb cn br sm as_ go sh_ ki tg of_ kp rs ta sz_ pl at_ fa fw cs ct ir oa ob ig sp_ sf 0 th x (16 - x) (by first | assumption | decide | omega) H.size) (cwV 2 hts gX11_spy_X11_isSeen rfl rfl rfl (by decide +kernel) ⟨Nat.le_of_ble_eq_true rfl, Nat.le_of_ble_eq_true rfl⟩) (he_preV (wc := [(oX11 m0 0 ta sz_ pl at_ fa fw cs fd rfm rt_ to_ rw_ wa ct rk rb cn br sm as_ go sh_ ir oa ob (nI th) ig sp_ ki tg of_ kp sf rs)]) hK hP hD hS hA hE [0] rfl rfl 0 rfl rfl) rfl rfl hl.1 rfl (lv_room (Nat.le_of_ble_eq_true rfl)) dX11_spy_56 ⟨(Nat.le_of_ble_eq_true rfl), (Nat.le_of_ble_eq_true rfl)⟩) hP hD hS hA [0] [] rfl rfl rfl (by decide) (fun r_11 u_12 H locs h_13 hP hD hS => ?_)
          subst h_13
          have hP : va_P g.1 vwCl [(oX11 m0 0 ta sz_ pl at_ fa fw cs fd rfm rt_ to_ rw_ wa ct rk rb cn br sm as_ go sh_ ir oa ob (nI th) ig sp_ ki tg of_ kp sf rs)] H := hP
          have hD : va_D A [(oX11 m0 0 ta sz_ pl at_ fa fw cs fd rfm rt_ to_ rw_ wa ct rk rb cn br sm as_ go sh_ ir oa ob (nI th) ig sp_ ki tg of_ kp sf rs)] := hD
          exact he_ri hQ hx hb hr hlk hP hD hS dX11_spy_59 (Nat.le_of_ble_eq_true rfl) (Nat.le_of_ble_eq_true rfl) (()) (rfl) (rfl)
    · exact absurd (by decide) c_8
  · exact absurd c_4 (by decide)
