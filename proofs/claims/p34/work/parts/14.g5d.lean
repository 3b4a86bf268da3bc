section
set_option maxHeartbeats 4000000 in
set_option maxRecDepth 100000 in
theorem g_X10_stopN1 (l : Launch) (g : he_G) (x0 : Nat) (y0 : Nat) (z0 : Nat) (dr : Nat) (pa : Nat) (s0 : Nat) (im : Nat) (tr : Nat) (v0 : Nat) (rf : Nat) (ta : Int32) (to_ : Int32) (ki : Int32) (p0 : Nat) (p1 : Nat) (p2 : Nat) (p3 : Nat) (p4 : Nat) (w : Nat) (sd : Nat → Int32) (st : Nat → Int32) (me : Nat → Int32) (a0 : Nat) (b0 : Nat) (e0 : Nat) (h0 : Nat) (q0 : Nat) (q1 : Nat) (mo : Int32) (f : Nat → Int32) (r0 : Nat) (r1 : Nat) (mo1 : Int32) (f1 : Nat → Int32) (sh : Nat → Int32) (n : Nat) (hw6 : w ≤ 6) (hn1 : 1 ≤ n) (hn2 : n ≤ 60) (hno : he_within (f 10) 0 6 = 0) : he_I l yX10_stop wsX10_stop 5 105 0 0 g [.ref x0, .int (nI n), .int 1] [(oX10 x0 y0 ta z0 p0 dr pa to_ s0 im ki tr v0 rf), (oX4 tr r0 r1 mo1), (aI g r0 24 f1), (aI g r1 6 sh), (oX6 p0 p1 p2 p3 p4 (nI w)), (aI g p1 24 sd), (aI g p3 6 st), (aI g p4 6 me), (oX8 s0 h0 a0 b0 e0), (oX4 h0 q0 q1 mo), (aI g q0 24 f)] (fun (r : Int32) (u : Int32 × (Nat → Int32) × (Nat → Int32)) => True) (fun (u : Int32 × (Nat → Int32) × (Nat → Int32)) => [(oX10 x0 y0 ta z0 p0 dr pa to_ s0 im ki tr v0 rf), (oX4 tr r0 r1 u.1), (aI g r0 24 u.2.1), (aI g r1 6 u.2.2), (oX6 p0 p1 p2 p3 p4 (nI w)), (aI g p1 24 sd), (aI g p3 6 st), (aI g p4 6 me), (oX8 s0 h0 a0 b0 e0), (oX4 h0 q0 q1 mo), (aI g q0 24 f)]) := by
  refine he_begin (l := l) (g := g) (y := yX10_stop) (wl := wsX10_stop) (fr := 5) (lo := 105) (mc := 0) (ms := 0) (av := [.ref x0, .int (nI n), .int 1]) (ws := [(oX10 x0 y0 ta z0 p0 dr pa to_ s0 im ki tr v0 rf), (oX4 tr r0 r1 mo1), (aI g r0 24 f1), (aI g r1 6 sh), (oX6 p0 p1 p2 p3 p4 (nI w)), (aI g p1 24 sd), (aI g p3 6 st), (aI g p4 6 me), (oX8 s0 h0 a0 b0 e0), (oX4 h0 q0 q1 mo), (aI g q0 24 f)]) (cc := cX10_stop) (maxL := 6) (ret := (some .int)) (fun A => va_Qi (fun (r : Int32) (u : Int32 × (Nat → Int32) × (Nat → Int32)) => True) (fun u t => he_post g A ((fun (u : Int32 × (Nat → Int32) × (Nat → Int32)) => [(oX10 x0 y0 ta z0 p0 dr pa to_ s0 im ki tr v0 rf), (oX4 tr r0 r1 u.1), (aI g r0 24 u.2.1), (aI g r1 6 u.2.2), (oX6 p0 p1 p2 p3 p4 (nI w)), (aI g p1 24 sd), (aI g p3 6 st), (aI g p4 6 me), (oX8 s0 h0 a0 b0 e0), (oX4 h0 q0 q1 mo), (aI g q0 24 f)]) u) t) A) (by decide) rfl (Nat.le_of_ble_eq_true rfl) ?_
  intro p e s m args below meth c A ls H locs Q hQ hB
  obtain ⟨hx, hb, hr, hml, hown, hts, hlk, hin, hP, hK, hD, hS, hA, hE, hl⟩ := hB
  have hl : lv_has ls 6 [(0, .ref x0), (1, .int (nI n)), (2, .int 1)] := hl
  have f50 := hts (.fieldLink RX10 50 "HiredEnemy" "trial" "LHiredEnemy$Course;") (iwoX10_stop (k := 0) rfl)
  have inX10 : ∀ w ∈ wsX100, w ∈ wsX10_stop := innX10_stop_X10
  have f39 := hts (.fieldLink RX10 39 "HiredEnemy" "scene" "LHiredEnemy$Scene;") (iwoX10_stop (k := 1) rfl)
  have f66 := hts (.fieldLink RX10 66 "HiredEnemy$Scene" "course" "LHiredEnemy$Course;") (iwoX10_stop (k := 2) rfl)
  have inX8 : ∀ w ∈ wsX80, w ∈ wsX10_stop := innX10_stop_X8
  have f111 := hts (.fieldLink RX10 111 "HiredEnemy$Course" "now" "[I") (iwoX10_stop (k := 3) rfl)
  have inX4 : ∀ w ∈ wsX40, w ∈ wsX10_stop := innX10_stop_X4
  refine lv_aload_n hx hb dX10_stop_0 rfl (lv_at hl 0 rfl) ?_
  refine lv_iload_n hx hb dX10_stop_1 rfl (lv_at hl 1 rfl) ?_
  refine lv_iconst (v := 1) hx hb dX10_stop_2 (by decide) ?_
  refine lv_bipush (v := 60) hx hb dX10_stop_3 (by decide) ?_
  refine he_ci (wc := []) (wr := [(oX10 x0 y0 ta z0 p0 dr pa to_ s0 im ki tr v0 rf), (oX4 tr r0 r1 mo1), (aI g r0 24 f1), (aI g r1 6 sh), (oX6 p0 p1 p2 p3 p4 (nI w)), (aI g p1 24 sd), (aI g p3 6 st), (aI g p4 6 me), (oX8 s0 h0 a0 b0 e0), (oX4 h0 q0 q1 mo), (aI g q0 24 f)]) (va_runS (As := [.int (nI n), .int 1, .int 60]) (rest := [.ref x0]) ⟨hx, hb, hml, hown, hts⟩ (c_X10_within l g (nI n) 1 60 H.size) (va_cwS 3 hts gX10_stop_X10_within rfl rfl rfl (by decide +kernel) ⟨Nat.le_of_ble_eq_true rfl, Nat.le_of_ble_eq_true rfl⟩) (he_preS (wc := []) hK hP hD hS hA hE [] rfl rfl) rfl rfl hl.1 rfl (lv_room (Nat.le_of_ble_eq_true rfl)) dX10_stop_5 ⟨(Nat.le_of_ble_eq_true rfl), (Nat.le_of_ble_eq_true rfl)⟩) hP hD hS hA [] [0, 1, 2, 3, 4, 5, 6, 7, 8, 9, 10] rfl rfl rfl (by decide) (fun r_1 u_2 H locs h_3 hP hD hS => ?_)
  subst h_3
  have hP : va_P g.1 vwCl [(oX10 x0 y0 ta z0 p0 dr pa to_ s0 im ki tr v0 rf), (oX4 tr r0 r1 mo1), (aI g r0 24 f1), (aI g r1 6 sh), (oX6 p0 p1 p2 p3 p4 (nI w)), (aI g p1 24 sd), (aI g p3 6 st), (aI g p4 6 me), (oX8 s0 h0 a0 b0 e0), (oX4 h0 q0 q1 mo), (aI g q0 24 f)] H := hP
  have hD : va_D A [(oX10 x0 y0 ta z0 p0 dr pa to_ s0 im ki tr v0 rf), (oX4 tr r0 r1 mo1), (aI g r0 24 f1), (aI g r1 6 sh), (oX6 p0 p1 p2 p3 p4 (nI w)), (aI g p1 24 sd), (aI g p3 6 st), (aI g p4 6 me), (oX8 s0 h0 a0 b0 e0), (oX4 h0 q0 q1 mo), (aI g q0 24 f)] := hD
  refine he_top (1) (he_within_in (a0 := 1) (B := 60) rfl rfl (by omega) (by omega) (by decide)) ?_
  refine lv_if_eq (tgt := 24) hx hb dX10_stop_8 (by decide) (fun c_4 => ?_) (fun c_4 => ?_)
  · exact absurd c_4 (by decide)
  · refine lv_iload_n hx hb dX10_stop_11 rfl (lv_at hl 2 rfl) ?_
    refine lv_iconst (v := 0) hx hb dX10_stop_12 (by decide) ?_
    refine lv_iconst (v := 1) hx hb dX10_stop_13 (by decide) ?_
    refine he_ci (wc := []) (wr := [(oX10 x0 y0 ta z0 p0 dr pa to_ s0 im ki tr v0 rf), (oX4 tr r0 r1 mo1), (aI g r0 24 f1), (aI g r1 6 sh), (oX6 p0 p1 p2 p3 p4 (nI w)), (aI g p1 24 sd), (aI g p3 6 st), (aI g p4 6 me), (oX8 s0 h0 a0 b0 e0), (oX4 h0 q0 q1 mo), (aI g q0 24 f)]) (va_runS (As := [.int 1, .int 0, .int 1]) (rest := [.ref x0]) ⟨hx, hb, hml, hown, hts⟩ (c_X10_within l g 1 0 1 H.size) (va_cwS 3 hts gX10_stop_X10_within rfl rfl rfl (by decide +kernel) ⟨Nat.le_of_ble_eq_true rfl, Nat.le_of_ble_eq_true rfl⟩) (he_preS (wc := []) hK hP hD hS hA hE [] rfl rfl) rfl rfl hl.1 rfl (lv_room (Nat.le_of_ble_eq_true rfl)) dX10_stop_14 ⟨(Nat.le_of_ble_eq_true rfl), (Nat.le_of_ble_eq_true rfl)⟩) hP hD hS hA [] [0, 1, 2, 3, 4, 5, 6, 7, 8, 9, 10] rfl rfl rfl (by decide) (fun r_5 u_6 H locs h_7 hP hD hS => ?_)
    subst h_7
    have hP : va_P g.1 vwCl [(oX10 x0 y0 ta z0 p0 dr pa to_ s0 im ki tr v0 rf), (oX4 tr r0 r1 mo1), (aI g r0 24 f1), (aI g r1 6 sh), (oX6 p0 p1 p2 p3 p4 (nI w)), (aI g p1 24 sd), (aI g p3 6 st), (aI g p4 6 me), (oX8 s0 h0 a0 b0 e0), (oX4 h0 q0 q1 mo), (aI g q0 24 f)] H := hP
    have hD : va_D A [(oX10 x0 y0 ta z0 p0 dr pa to_ s0 im ki tr v0 rf), (oX4 tr r0 r1 mo1), (aI g r0 24 f1), (aI g r1 6 sh), (oX6 p0 p1 p2 p3 p4 (nI w)), (aI g p1 24 sd), (aI g p3 6 st), (aI g p4 6 me), (oX8 s0 h0 a0 b0 e0), (oX4 h0 q0 q1 mo), (aI g q0 24 f)] := hD
    refine he_top (1) (by decide) ?_
    refine lv_if_eq (tgt := 24) hx hb dX10_stop_17 (by decide) (fun c_8 => ?_) (fun c_8 => ?_)
    · exact absurd c_8 (by decide)
    · refine lv_iconst (v := 1) hx hb dX10_stop_20 (by decide) ?_
      refine lv_goto (tgt := 25) hx hb dX10_stop_21 (by decide) ?_
      refine he_cv (wc := []) (wr := [(oX10 x0 y0 ta z0 p0 dr pa to_ s0 im ki tr v0 rf), (oX4 tr r0 r1 mo1), (aI g r0 24 f1), (aI g r1 6 sh), (oX6 p0 p1 p2 p3 p4 (nI w)), (aI g p1 24 sd), (aI g p3 6 st), (aI g p4 6 me), (oX8 s0 h0 a0 b0 e0), (oX4 h0 q0 q1 mo), (aI g q0 24 f)]) (va_runV (As := [.int 1]) (rest := []) ⟨hx, hb, hml, hown, hts⟩ (c_X10_demand1 l g x0 H.size) (cwV 1 hts gX10_stop_X10_demand rfl rfl rfl (by decide +kernel) ⟨Nat.le_of_ble_eq_true rfl, Nat.le_of_ble_eq_true rfl⟩) (he_preV (wc := []) hK hP hD hS hA hE [] rfl rfl 0 rfl rfl) rfl rfl hl.1 rfl (lv_room (Nat.le_of_ble_eq_true rfl)) dX10_stop_25 ⟨(Nat.le_of_ble_eq_true rfl), (Nat.le_of_ble_eq_true rfl)⟩) hP hD hS hA [] [0, 1, 2, 3, 4, 5, 6, 7, 8, 9, 10] rfl rfl rfl (by decide) (fun u_10 H locs h_11 hP hD hS => ?_)
      have hP : va_P g.1 vwCl [(oX10 x0 y0 ta z0 p0 dr pa to_ s0 im ki tr v0 rf), (oX4 tr r0 r1 mo1), (aI g r0 24 f1), (aI g r1 6 sh), (oX6 p0 p1 p2 p3 p4 (nI w)), (aI g p1 24 sd), (aI g p3 6 st), (aI g p4 6 me), (oX8 s0 h0 a0 b0 e0), (oX4 h0 q0 q1 mo), (aI g q0 24 f)] H := hP
      have hD : va_D A [(oX10 x0 y0 ta z0 p0 dr pa to_ s0 im ki tr v0 rf), (oX4 tr r0 r1 mo1), (aI g r0 24 f1), (aI g r1 6 sh), (oX6 p0 p1 p2 p3 p4 (nI w)), (aI g p1 24 sd), (aI g p3 6 st), (aI g p4 6 me), (oX8 s0 h0 a0 b0 e0), (oX4 h0 q0 q1 mo), (aI g q0 24 f)] := hD
      refine lv_iconst (v := 0) hx hb dX10_stop_28 (by decide) ?_
      refine lv_istore_n (lv' := [(3, .int 0), (0, .ref x0), (1, .int (nI n)), (2, .int 1)]) hx hb dX10_stop_29 rfl hl (by decide) rfl (fun ls hl => ?_)
      refine lv_iconst (v := (-1)) hx hb dX10_stop_30 (by decide) ?_
      refine lv_istore (lv' := [(4, .int (-1)), (3, .int 0), (0, .ref x0), (1, .int (nI n)), (2, .int 1)]) hx hb dX10_stop_31 hl (by decide) rfl (fun ls hl => ?_)
      refine lv_iconst (v := 0) hx hb dX10_stop_33 (by decide) ?_
      refine lv_istore (lv' := [(5, .int 0), (4, .int (-1)), (3, .int 0), (0, .ref x0), (1, .int (nI n)), (2, .int 1)]) hx hb dX10_stop_34 hl (by decide) rfl (fun ls hl => ?_)
      have loop36 : ∀ (n9 : Nat) (j : Nat) (bm : Int32) (ms : Int32) (mj : Int32) (F : Nat → Int32) (G : Nat → Int32), n + 1 - j < n9 → (j ≤ n + 1) → ∀ (H : Heap) (locs : List Loc) (ls : Array Slot), va_P g.1 vwCl [(oX10 x0 y0 ta z0 p0 dr pa to_ s0 im ki tr v0 rf), (oX4 tr r0 r1 mj), (aI g r0 24 F), (aI g r1 6 G), (oX6 p0 p1 p2 p3 p4 (nI w)), (aI g p1 24 sd), (aI g p3 6 st), (aI g p4 6 me), (oX8 s0 h0 a0 b0 e0), (oX4 h0 q0 q1 mo), (aI g q0 24 f)] H → va_D A [(oX10 x0 y0 ta z0 p0 dr pa to_ s0 im ki tr v0 rf), (oX4 tr r0 r1 mj), (aI g r0 24 F), (aI g r1 6 G), (oX6 p0 p1 p2 p3 p4 (nI w)), (aI g p1 24 sd), (aI g p3 6 st), (aI g p4 6 me), (oX8 s0 h0 a0 b0 e0), (oX4 h0 q0 q1 mo), (aI g q0 24 f)] → va_S A s.heap H locs → lv_has ls 6 [(0, .ref x0), (1, .int (nI n)), (2, .int 1), (3, .int bm), (4, .int ms), (5, .int (nI j))] → W p l e (he_room 5 105 0 0) s m args below meth c H locs 0 0 Q (F0 m 36 ls []) := by
        intro n9
        induction n9 with
        | zero => intro j bm ms mj F G hm9; exact absurd hm9 (Nat.not_lt_zero _)
        | succ n9 ih36 =>
          intro j bm ms mj F G hm9 hj H locs ls hP hD hS hl
          refine lv_iload hx hb dX10_stop_36 (lv_at hl 5 rfl) ?_
          refine lv_iload_n hx hb dX10_stop_38 rfl (lv_at hl 1 rfl) ?_
          refine lv_icmp_gt (tgt := 112) hx hb dX10_stop_39 (by decide) (fun c_12 => ?_) (fun c_12 => ?_)
          · have k_13 : n < j := (he_clt (a := n) (b := j) rfl rfl (by omega) (by omega)).mp c_12
            refine lv_iload_n hx hb dX10_stop_112 rfl (lv_at hl 2 rfl) ?_
            refine lv_if_ne (tgt := 120) hx hb dX10_stop_113 (by decide) (fun c_14 => ?_) (fun c_14 => ?_)
            · refine lv_iload hx hb dX10_stop_120 (lv_at hl 4 rfl) ?_
              exact he_ri hQ hx hb hr hlk hP hD hS dX10_stop_122 (Nat.le_of_ble_eq_true rfl) (Nat.le_of_ble_eq_true rfl) ((mj, F, G)) (rfl) (trivial)
            · exact absurd c_14 (by decide)
          · have k_15 : ¬ (n < j) := fun h9 => c_12 ((he_clt (a := n) (b := j) rfl rfl (by omega) (by omega)).mpr h9)
            refine lv_aload_n hx hb dX10_stop_42 rfl (lv_at hl 0 rfl) ?_
            refine va_get (v := .ref tr) (T := TX10) (N := 13) hx hb hts inX10 hown hK hP 0 rfl rfl 10 (by decide) f50 (fun _ h9 => h9) rfl dX10_stop_43 ?_
            refine lv_aload_n hx hb dX10_stop_46 rfl (lv_at hl 0 rfl) ?_
            refine va_get (v := .ref s0) (T := TX10) (N := 13) hx hb hts inX10 hown hK hP 0 rfl rfl 7 (by decide) f39 (fun _ h9 => h9) rfl dX10_stop_47 ?_
            refine va_get (v := .ref h0) (T := TX8) (N := 4) hx hb hts inX8 hown hK hP 8 rfl rfl 0 (by decide) f66 (fun _ h9 => h9) rfl dX10_stop_50 ?_
            refine he_cv (wc := [(oX4 tr r0 r1 mj), (aI g r0 24 F), (oX4 h0 q0 q1 mo), (aI g q0 24 f)]) (wr := [(oX10 x0 y0 ta z0 p0 dr pa to_ s0 im ki tr v0 rf), (aI g r1 6 G), (oX6 p0 p1 p2 p3 p4 (nI w)), (aI g p1 24 sd), (aI g p3 6 st), (aI g p4 6 me), (oX8 s0 h0 a0 b0 e0)]) (va_runV (As := [.ref h0]) (rest := []) ⟨hx, hb, hml, hown, hts⟩ (c_X4_take l g tr r0 r1 mj F h0 q0 q1 mo f H.size) (cwV 1 hts gX10_stop_X4_take rfl rfl rfl (by decide +kernel) ⟨Nat.le_of_ble_eq_true rfl, Nat.le_of_ble_eq_true rfl⟩) (he_preV (wc := [(oX4 tr r0 r1 mj), (aI g r0 24 F), (oX4 h0 q0 q1 mo), (aI g q0 24 f)]) hK hP hD hS hA hE [1, 2, 9, 10] rfl rfl 1 rfl rfl) rfl rfl hl.1 rfl (lv_room (Nat.le_of_ble_eq_true rfl)) dX10_stop_53 ⟨(Nat.le_of_ble_eq_true rfl), (Nat.le_of_ble_eq_true rfl)⟩) hP hD hS hA [1, 2, 9, 10] [0, 3, 4, 5, 6, 7, 8] rfl rfl rfl (by decide) (fun u_17 H locs h_18 hP hD hS => ?_)
            have hP : va_P g.1 vwCl [(oX10 x0 y0 ta z0 p0 dr pa to_ s0 im ki tr v0 rf), (aI g r1 6 G), (oX6 p0 p1 p2 p3 p4 (nI w)), (aI g p1 24 sd), (aI g p3 6 st), (aI g p4 6 me), (oX8 s0 h0 a0 b0 e0), (oX4 tr r0 r1 mo), (aI g r0 24 (va_cpy f F 0 0 24)), (oX4 h0 q0 q1 mo), (aI g q0 24 f)] H := hP
            have hD : va_D A [(oX10 x0 y0 ta z0 p0 dr pa to_ s0 im ki tr v0 rf), (aI g r1 6 G), (oX6 p0 p1 p2 p3 p4 (nI w)), (aI g p1 24 sd), (aI g p3 6 st), (aI g p4 6 me), (oX8 s0 h0 a0 b0 e0), (oX4 tr r0 r1 mo), (aI g r0 24 (va_cpy f F 0 0 24)), (oX4 h0 q0 q1 mo), (aI g q0 24 f)] := hD
            refine lv_aload_n hx hb dX10_stop_56 rfl (lv_at hl 0 rfl) ?_
            refine lv_iload hx hb dX10_stop_57 (lv_at hl 5 rfl) ?_
            refine he_cv (wc := [(oX10 x0 y0 ta z0 p0 dr pa to_ s0 im ki tr v0 rf), (oX4 tr r0 r1 mo), (aI g r0 24 (va_cpy f F 0 0 24)), (aI g r1 6 G), (oX6 p0 p1 p2 p3 p4 (nI w)), (aI g p1 24 sd), (aI g p3 6 st), (aI g p4 6 me)]) (wr := [(oX8 s0 h0 a0 b0 e0), (oX4 h0 q0 q1 mo), (aI g q0 24 f)]) (va_runV (As := [.int (nI j)]) (rest := []) ⟨hx, hb, hml, hown, hts⟩ (g_X10_passTriedN l g x0 y0 z0 dr pa s0 im tr v0 rf ta to_ ki p0 p1 p2 p3 p4 w sd st me r0 r1 mo (va_cpy f F 0 0 24) G j (by first | assumption | decide | omega) (by rw [cpy_in (by decide)]; exact hno) (by omega) H.size) (cwV 1 hts gX10_stop_X10_passTried rfl rfl rfl (by decide +kernel) ⟨Nat.le_of_ble_eq_true rfl, Nat.le_of_ble_eq_true rfl⟩) (he_preV (wc := [(oX10 x0 y0 ta z0 p0 dr pa to_ s0 im ki tr v0 rf), (oX4 tr r0 r1 mo), (aI g r0 24 (va_cpy f F 0 0 24)), (aI g r1 6 G), (oX6 p0 p1 p2 p3 p4 (nI w)), (aI g p1 24 sd), (aI g p3 6 st), (aI g p4 6 me)]) hK hP hD hS hA hE [0, 7, 8, 1, 2, 3, 4, 5] rfl rfl 0 rfl rfl) rfl rfl hl.1 rfl (lv_room (Nat.le_of_ble_eq_true rfl)) dX10_stop_59 ⟨(Nat.le_of_ble_eq_true rfl), (Nat.le_of_ble_eq_true rfl)⟩) hP hD hS hA [0, 7, 8, 1, 2, 3, 4, 5] [6, 9, 10] rfl rfl rfl (by decide) (fun u_20 H locs h_21 hP hD hS => ?_)
            obtain ⟨um_22, uf_23, us_24⟩ := u_20
            have hP : va_P g.1 vwCl [(oX8 s0 h0 a0 b0 e0), (oX4 h0 q0 q1 mo), (aI g q0 24 f), (oX10 x0 y0 ta z0 p0 dr pa to_ s0 im ki tr v0 rf), (oX4 tr r0 r1 um_22), (aI g r0 24 uf_23), (aI g r1 6 us_24), (oX6 p0 p1 p2 p3 p4 (nI w)), (aI g p1 24 sd), (aI g p3 6 st), (aI g p4 6 me)] H := hP
            have hD : va_D A [(oX8 s0 h0 a0 b0 e0), (oX4 h0 q0 q1 mo), (aI g q0 24 f), (oX10 x0 y0 ta z0 p0 dr pa to_ s0 im ki tr v0 rf), (oX4 tr r0 r1 um_22), (aI g r0 24 uf_23), (aI g r1 6 us_24), (oX6 p0 p1 p2 p3 p4 (nI w)), (aI g p1 24 sd), (aI g p3 6 st), (aI g p4 6 me)] := hD
            refine lv_aload_n hx hb dX10_stop_62 rfl (lv_at hl 0 rfl) ?_
            refine va_get (v := .ref tr) (T := TX10) (N := 13) hx hb hts inX10 hown hK hP 3 rfl rfl 10 (by decide) f50 (fun _ h9 => h9) rfl dX10_stop_63 ?_
            refine lv_iconst (v := (-1)) hx hb dX10_stop_66 (by decide) ?_
            refine he_cv (wc := [(oX4 tr r0 r1 um_22), (aI g r0 24 uf_23)]) (wr := [(oX8 s0 h0 a0 b0 e0), (oX4 h0 q0 q1 mo), (aI g q0 24 f), (oX10 x0 y0 ta z0 p0 dr pa to_ s0 im ki tr v0 rf), (aI g r1 6 us_24), (oX6 p0 p1 p2 p3 p4 (nI w)), (aI g p1 24 sd), (aI g p3 6 st), (aI g p4 6 me)]) (va_runV (As := [.int (-1)]) (rest := []) ⟨hx, hb, hml, hown, hts⟩ (c_X4_pledge l g tr r0 r1 um_22 uf_23 (-1) H.size) (cwV 1 hts gX10_stop_X4_pledge rfl rfl rfl (by decide +kernel) ⟨Nat.le_of_ble_eq_true rfl, Nat.le_of_ble_eq_true rfl⟩) (he_preV (wc := [(oX4 tr r0 r1 um_22), (aI g r0 24 uf_23)]) hK hP hD hS hA hE [4, 5] rfl rfl 4 rfl rfl) rfl rfl hl.1 rfl (lv_room (Nat.le_of_ble_eq_true rfl)) dX10_stop_67 ⟨(Nat.le_of_ble_eq_true rfl), (Nat.le_of_ble_eq_true rfl)⟩) hP hD hS hA [4, 5] [0, 1, 2, 3, 6, 7, 8, 9, 10] rfl rfl rfl (by decide) (fun u_26 H locs h_27 hP hD hS => ?_)
            have hP : va_P g.1 vwCl [(oX8 s0 h0 a0 b0 e0), (oX4 h0 q0 q1 mo), (aI g q0 24 f), (oX10 x0 y0 ta z0 p0 dr pa to_ s0 im ki tr v0 rf), (aI g r1 6 us_24), (oX6 p0 p1 p2 p3 p4 (nI w)), (aI g p1 24 sd), (aI g p3 6 st), (aI g p4 6 me), (oX4 tr r0 r1 um_22), (aI g r0 24 (fcF uf_23 (-1) um_22))] H := hP
            have hD : va_D A [(oX8 s0 h0 a0 b0 e0), (oX4 h0 q0 q1 mo), (aI g q0 24 f), (oX10 x0 y0 ta z0 p0 dr pa to_ s0 im ki tr v0 rf), (aI g r1 6 us_24), (oX6 p0 p1 p2 p3 p4 (nI w)), (aI g p1 24 sd), (aI g p3 6 st), (aI g p4 6 me), (oX4 tr r0 r1 um_22), (aI g r0 24 (fcF uf_23 (-1) um_22))] := hD
            refine lv_aload_n hx hb dX10_stop_70 rfl (lv_at hl 0 rfl) ?_
            refine lv_iload_n hx hb dX10_stop_71 rfl (lv_at hl 1 rfl) ?_
            refine lv_iload hx hb dX10_stop_72 (lv_at hl 5 rfl) ?_
            refine lv_isub hx hb dX10_stop_74 ?_
            refine he_top (nI (n - j)) (pk_sub (by omega)) ?_
            refine he_cv (wc := [(oX10 x0 y0 ta z0 p0 dr pa to_ s0 im ki tr v0 rf), (oX4 tr r0 r1 um_22), (aI g r0 24 (fcF uf_23 (-1) um_22)), (aI g r1 6 us_24), (oX6 p0 p1 p2 p3 p4 (nI w)), (aI g p1 24 sd), (aI g p3 6 st), (aI g p4 6 me)]) (wr := [(oX8 s0 h0 a0 b0 e0), (oX4 h0 q0 q1 mo), (aI g q0 24 f)]) (va_runV (As := [.int (nI (n - j))]) (rest := []) ⟨hx, hb, hml, hown, hts⟩ (g_X10_passTriedN l g x0 y0 z0 dr pa s0 im tr v0 rf ta to_ ki p0 p1 p2 p3 p4 w sd st me r0 r1 um_22 (fcF uf_23 (-1) um_22) us_24 (n - j) (by first | assumption | decide | omega) (by rw [fcF_10]; exact m1_out 6) (by omega) H.size) (cwV 1 hts gX10_stop_X10_passTried rfl rfl rfl (by decide +kernel) ⟨Nat.le_of_ble_eq_true rfl, Nat.le_of_ble_eq_true rfl⟩) (he_preV (wc := [(oX10 x0 y0 ta z0 p0 dr pa to_ s0 im ki tr v0 rf), (oX4 tr r0 r1 um_22), (aI g r0 24 (fcF uf_23 (-1) um_22)), (aI g r1 6 us_24), (oX6 p0 p1 p2 p3 p4 (nI w)), (aI g p1 24 sd), (aI g p3 6 st), (aI g p4 6 me)]) hK hP hD hS hA hE [3, 9, 10, 4, 5, 6, 7, 8] rfl rfl 3 rfl rfl) rfl rfl hl.1 rfl (lv_room (Nat.le_of_ble_eq_true rfl)) dX10_stop_75 ⟨(Nat.le_of_ble_eq_true rfl), (Nat.le_of_ble_eq_true rfl)⟩) hP hD hS hA [3, 9, 10, 4, 5, 6, 7, 8] [0, 1, 2] rfl rfl rfl (by decide) (fun u_29 H locs h_30 hP hD hS => ?_)
            obtain ⟨um_31, uf_32, us_33⟩ := u_29
            have hP : va_P g.1 vwCl [(oX8 s0 h0 a0 b0 e0), (oX4 h0 q0 q1 mo), (aI g q0 24 f), (oX10 x0 y0 ta z0 p0 dr pa to_ s0 im ki tr v0 rf), (oX4 tr r0 r1 um_31), (aI g r0 24 uf_32), (aI g r1 6 us_33), (oX6 p0 p1 p2 p3 p4 (nI w)), (aI g p1 24 sd), (aI g p3 6 st), (aI g p4 6 me)] H := hP
            have hD : va_D A [(oX8 s0 h0 a0 b0 e0), (oX4 h0 q0 q1 mo), (aI g q0 24 f), (oX10 x0 y0 ta z0 p0 dr pa to_ s0 im ki tr v0 rf), (oX4 tr r0 r1 um_31), (aI g r0 24 uf_32), (aI g r1 6 us_33), (oX6 p0 p1 p2 p3 p4 (nI w)), (aI g p1 24 sd), (aI g p3 6 st), (aI g p4 6 me)] := hD
            refine lv_aload_n hx hb dX10_stop_78 rfl (lv_at hl 0 rfl) ?_
            refine va_get (v := .ref tr) (T := TX10) (N := 13) hx hb hts inX10 hown hK hP 3 rfl rfl 10 (by decide) f50 (fun _ h9 => h9) rfl dX10_stop_79 ?_
            refine va_get (v := .ref r0) (T := TX4) (N := 3) hx hb hts inX4 hown hK hP 4 rfl rfl 0 (by decide) f111 (fun _ h9 => h9) rfl dX10_stop_82 ?_
            refine lv_iconst (v := 0) hx hb dX10_stop_85 (by decide) ?_
            refine he_iald hx hb hK hP 5 rfl (0) (by decide) (by decide) (by first | decide | assumption) (uf_32 0) rfl dX10_stop_86 ?_
            refine lv_iload hx hb dX10_stop_87 (lv_at hl 4 rfl) ?_
            refine lv_icmp_le (tgt := 106) hx hb dX10_stop_89 (by decide) (fun c_34 => ?_) (fun c_34 => ?_)
            · refine lv_iinc (v := nI (j + 1)) (lv' := [(5, .int (nI (j + 1))), (0, .ref x0), (1, .int (nI n)), (2, .int 1), (3, .int bm), (4, .int ms)]) hx hb dX10_stop_106 hl (k := 5) rfl (nI_1 j) (by decide) rfl (fun ls hl => ?_)
              refine lv_goto (tgt := 36) hx hb dX10_stop_109 (by decide) ?_
              exact ih36 (j + 1) bm ms um_31 uf_32 us_33 (by omega) (by omega) _ _ _ (hP.sub [3, 4, 5, 6, 7, 8, 9, 10, 0, 1, 2] rfl) (hD.sub [3, 4, 5, 6, 7, 8, 9, 10, 0, 1, 2] (by decide) rfl) hS (lv_sub hl [1, 2, 3, 4, 5, 0] rfl)
            · refine lv_aload_n hx hb dX10_stop_92 rfl (lv_at hl 0 rfl) ?_
              refine va_get (v := .ref tr) (T := TX10) (N := 13) hx hb hts inX10 hown hK hP 3 rfl rfl 10 (by decide) f50 (fun _ h9 => h9) rfl dX10_stop_93 ?_
              refine va_get (v := .ref r0) (T := TX4) (N := 3) hx hb hts inX4 hown hK hP 4 rfl rfl 0 (by decide) f111 (fun _ h9 => h9) rfl dX10_stop_96 ?_
              refine lv_iconst (v := 0) hx hb dX10_stop_99 (by decide) ?_
              refine he_iald hx hb hK hP 5 rfl (0) (by decide) (by decide) (by first | decide | assumption) (uf_32 0) rfl dX10_stop_100 ?_
              refine lv_istore (lv' := [(4, .int (uf_32 0)), (0, .ref x0), (1, .int (nI n)), (2, .int 1), (3, .int bm), (5, .int (nI j))]) hx hb dX10_stop_101 hl (by decide) rfl (fun ls hl => ?_)
              refine lv_iload hx hb dX10_stop_103 (lv_at hl 5 rfl) ?_
              refine lv_istore_n (lv' := [(3, .int (nI j)), (4, .int (uf_32 0)), (0, .ref x0), (1, .int (nI n)), (2, .int 1), (5, .int (nI j))]) hx hb dX10_stop_105 rfl hl (by decide) rfl (fun ls hl => ?_)
              refine lv_iinc (v := nI (j + 1)) (lv' := [(5, .int (nI (j + 1))), (3, .int (nI j)), (4, .int (uf_32 0)), (0, .ref x0), (1, .int (nI n)), (2, .int 1)]) hx hb dX10_stop_106 hl (k := 5) rfl (nI_1 j) (by decide) rfl (fun ls hl => ?_)
              refine lv_goto (tgt := 36) hx hb dX10_stop_109 (by decide) ?_
              exact ih36 (j + 1) (nI j) (uf_32 0) um_31 uf_32 us_33 (by omega) (by omega) _ _ _ (hP.sub [3, 4, 5, 6, 7, 8, 9, 10, 0, 1, 2] rfl) (hD.sub [3, 4, 5, 6, 7, 8, 9, 10, 0, 1, 2] (by decide) rfl) hS (lv_sub hl [3, 4, 5, 1, 2, 0] rfl)
      exact loop36 ((n + 1 - 0) + 1) 0 0 (-1) mo1 f1 sh (Nat.lt_succ_self _) (Nat.zero_le _) _ _ _ hP hD hS (lv_sub hl [3, 4, 5, 2, 1, 0] rfl)
set_option maxHeartbeats 4000000 in
set_option maxRecDepth 100000 in
theorem g_X10_offer0 (l : Launch) (g : he_G) (x0 : Nat) (y0 : Nat) (z0 : Nat) (dr : Nat) (pa : Nat) (s0 : Nat) (im : Nat) (tr : Nat) (v0 : Nat) (rf : Nat) (ta : Int32) (to_ : Int32) (ki : Int32) (p0 : Nat) (p1 : Nat) (p2 : Nat) (p3 : Nat) (p4 : Nat) (w : Nat) (sd : Nat → Int32) (fn : Nat → Int32) (st : Nat → Int32) (me : Nat → Int32) (a0 : Nat) (b0 : Nat) (e0 : Nat) (h0 : Nat) (q0 : Nat) (q1 : Nat) (mo : Int32) (f : Nat → Int32) (r0 : Nat) (r1 : Nat) (mo1 : Int32) (f1 : Nat → Int32) (sh : Nat → Int32) (n : Nat) (pf : Nat → Option Nat) (t0 : Nat) (t1 : Nat) (t2 : Nat) (pw : Int32) (pd : Nat → Int32) (wb : Nat → Int32) (hw6 : w ≤ 6) (hn1 : 1 ≤ n) (hn2 : n ≤ 60) (hpf : pf 6 = some t0) (hpv : (∃ ck, ck ≤ 99 ∧ pd 3 = nI ck)) (hwv : (∀ k, k < 36 → -1 ≤ wb k)) : he_I l yX10_offer wsX10_offer 7 154 0 0 g [.ref x0, .int (nI n), .int 0] [(oX10 x0 y0 ta z0 p0 dr pa to_ s0 im ki tr v0 rf), (oX4 tr r0 r1 mo1), (aI g r0 24 f1), (aI g r1 6 sh), (oX6 p0 p1 p2 p3 p4 (nI w)), (aI g p1 24 sd), (aI g p2 10 fn), (aI g p3 6 st), (aI g p4 6 me), (aP g pa 7 pf), (oX5 t0 t1 t2 pw), (aI g t1 6 pd), (aI g t2 36 wb), (oX8 s0 h0 a0 b0 e0), (oX4 h0 q0 q1 mo), (aI g q0 24 f)] (fun (r : Int32) (u : (Nat → Int32) × (Nat → Int32) × Int32 × Int32 × (Nat → Int32) × (Nat → Int32)) => (∃ ck, ck ≤ 99 ∧ u.1 3 = nI ck) ∧ ((∀ k, k < 36 → -1 ≤ u.2.1 k))) (fun (u : (Nat → Int32) × (Nat → Int32) × Int32 × Int32 × (Nat → Int32) × (Nat → Int32)) => [(oX10 x0 y0 ta z0 p0 dr pa to_ s0 im ki tr v0 rf), (oX4 tr r0 r1 u.2.2.2.1), (aI g r0 24 u.2.2.2.2.1), (aI g r1 6 u.2.2.2.2.2), (oX6 p0 p1 p2 p3 p4 (nI w)), (aI g p1 24 sd), (aI g p2 10 fn), (aI g p3 6 st), (aI g p4 6 me), (aP g pa 7 pf), (oX5 t0 t1 t2 u.2.2.1), (aI g t1 6 u.1), (aI g t2 36 u.2.1), (oX8 s0 h0 a0 b0 e0), (oX4 h0 q0 q1 mo), (aI g q0 24 f)]) := by
  refine he_begin (l := l) (g := g) (y := yX10_offer) (wl := wsX10_offer) (fr := 7) (lo := 154) (mc := 0) (ms := 0) (av := [.ref x0, .int (nI n), .int 0]) (ws := [(oX10 x0 y0 ta z0 p0 dr pa to_ s0 im ki tr v0 rf), (oX4 tr r0 r1 mo1), (aI g r0 24 f1), (aI g r1 6 sh), (oX6 p0 p1 p2 p3 p4 (nI w)), (aI g p1 24 sd), (aI g p2 10 fn), (aI g p3 6 st), (aI g p4 6 me), (aP g pa 7 pf), (oX5 t0 t1 t2 pw), (aI g t1 6 pd), (aI g t2 36 wb), (oX8 s0 h0 a0 b0 e0), (oX4 h0 q0 q1 mo), (aI g q0 24 f)]) (cc := cX10_offer) (maxL := 9) (ret := (some .int)) (fun A => va_Qi (fun (r : Int32) (u : (Nat → Int32) × (Nat → Int32) × Int32 × Int32 × (Nat → Int32) × (Nat → Int32)) => (∃ ck, ck ≤ 99 ∧ u.1 3 = nI ck) ∧ ((∀ k, k < 36 → -1 ≤ u.2.1 k))) (fun u t => he_post g A ((fun (u : (Nat → Int32) × (Nat → Int32) × Int32 × Int32 × (Nat → Int32) × (Nat → Int32)) => [(oX10 x0 y0 ta z0 p0 dr pa to_ s0 im ki tr v0 rf), (oX4 tr r0 r1 u.2.2.2.1), (aI g r0 24 u.2.2.2.2.1), (aI g r1 6 u.2.2.2.2.2), (oX6 p0 p1 p2 p3 p4 (nI w)), (aI g p1 24 sd), (aI g p2 10 fn), (aI g p3 6 st), (aI g p4 6 me), (aP g pa 7 pf), (oX5 t0 t1 t2 u.2.2.1), (aI g t1 6 u.1), (aI g t2 36 u.2.1), (oX8 s0 h0 a0 b0 e0), (oX4 h0 q0 q1 mo), (aI g q0 24 f)]) u) t) A) (by decide) rfl (Nat.le_of_ble_eq_true rfl) ?_
  intro p e s m args below meth c A ls H locs Q hQ hB
  obtain ⟨hx, hb, hr, hml, hown, hts, hlk, hin, hP, hK, hD, hS, hA, hE, hl⟩ := hB
  have hl : lv_has ls 9 [(0, .ref x0), (1, .int (nI n)), (2, .int 0)] := hl
  have f32 := hts (.fieldLink RX10 32 "HiredEnemy" "pacts" "[LHiredEnemy$Pact;") (iwoX10_offer (k := 0) rfl)
  have inX10 : ∀ w ∈ wsX100, w ∈ wsX10_offer := innX10_offer_X10
  have f23 := hts (.fieldLink RX10 23 "HiredEnemy" "plan" "LHiredEnemy$Plan;") (iwoX10_offer (k := 1) rfl)
  refine lv_aload_n hx hb dX10_offer_0 rfl (lv_at hl 0 rfl) ?_
  refine lv_iload_n hx hb dX10_offer_1 rfl (lv_at hl 1 rfl) ?_
  refine lv_iconst (v := 1) hx hb dX10_offer_2 (by decide) ?_
  refine lv_bipush (v := 60) hx hb dX10_offer_3 (by decide) ?_
  refine he_ci (wc := []) (wr := [(oX10 x0 y0 ta z0 p0 dr pa to_ s0 im ki tr v0 rf), (oX4 tr r0 r1 mo1), (aI g r0 24 f1), (aI g r1 6 sh), (oX6 p0 p1 p2 p3 p4 (nI w)), (aI g p1 24 sd), (aI g p2 10 fn), (aI g p3 6 st), (aI g p4 6 me), (aP g pa 7 pf), (oX5 t0 t1 t2 pw), (aI g t1 6 pd), (aI g t2 36 wb), (oX8 s0 h0 a0 b0 e0), (oX4 h0 q0 q1 mo), (aI g q0 24 f)]) (va_runS (As := [.int (nI n), .int 1, .int 60]) (rest := [.ref x0]) ⟨hx, hb, hml, hown, hts⟩ (c_X10_within l g (nI n) 1 60 H.size) (va_cwS 3 hts gX10_offer_X10_within rfl rfl rfl (by decide +kernel) ⟨Nat.le_of_ble_eq_true rfl, Nat.le_of_ble_eq_true rfl⟩) (he_preS (wc := []) hK hP hD hS hA hE [] rfl rfl) rfl rfl hl.1 rfl (lv_room (Nat.le_of_ble_eq_true rfl)) dX10_offer_5 ⟨(Nat.le_of_ble_eq_true rfl), (Nat.le_of_ble_eq_true rfl)⟩) hP hD hS hA [] [0, 1, 2, 3, 4, 5, 6, 7, 8, 9, 10, 11, 12, 13, 14, 15] rfl rfl rfl (by decide) (fun r_1 u_2 H locs h_3 hP hD hS => ?_)
  subst h_3
  have hP : va_P g.1 vwCl [(oX10 x0 y0 ta z0 p0 dr pa to_ s0 im ki tr v0 rf), (oX4 tr r0 r1 mo1), (aI g r0 24 f1), (aI g r1 6 sh), (oX6 p0 p1 p2 p3 p4 (nI w)), (aI g p1 24 sd), (aI g p2 10 fn), (aI g p3 6 st), (aI g p4 6 me), (aP g pa 7 pf), (oX5 t0 t1 t2 pw), (aI g t1 6 pd), (aI g t2 36 wb), (oX8 s0 h0 a0 b0 e0), (oX4 h0 q0 q1 mo), (aI g q0 24 f)] H := hP
  have hD : va_D A [(oX10 x0 y0 ta z0 p0 dr pa to_ s0 im ki tr v0 rf), (oX4 tr r0 r1 mo1), (aI g r0 24 f1), (aI g r1 6 sh), (oX6 p0 p1 p2 p3 p4 (nI w)), (aI g p1 24 sd), (aI g p2 10 fn), (aI g p3 6 st), (aI g p4 6 me), (aP g pa 7 pf), (oX5 t0 t1 t2 pw), (aI g t1 6 pd), (aI g t2 36 wb), (oX8 s0 h0 a0 b0 e0), (oX4 h0 q0 q1 mo), (aI g q0 24 f)] := hD
  refine he_top (1) (he_within_in (a0 := 1) (B := 60) rfl rfl (by omega) (by omega) (by decide)) ?_
  refine lv_if_eq (tgt := 24) hx hb dX10_offer_8 (by decide) (fun c_4 => ?_) (fun c_4 => ?_)
  · exact absurd c_4 (by decide)
  · refine lv_iload_n hx hb dX10_offer_11 rfl (lv_at hl 2 rfl) ?_
    refine lv_iconst (v := 0) hx hb dX10_offer_12 (by decide) ?_
    refine lv_iconst (v := 3) hx hb dX10_offer_13 (by decide) ?_
    refine he_ci (wc := []) (wr := [(oX10 x0 y0 ta z0 p0 dr pa to_ s0 im ki tr v0 rf), (oX4 tr r0 r1 mo1), (aI g r0 24 f1), (aI g r1 6 sh), (oX6 p0 p1 p2 p3 p4 (nI w)), (aI g p1 24 sd), (aI g p2 10 fn), (aI g p3 6 st), (aI g p4 6 me), (aP g pa 7 pf), (oX5 t0 t1 t2 pw), (aI g t1 6 pd), (aI g t2 36 wb), (oX8 s0 h0 a0 b0 e0), (oX4 h0 q0 q1 mo), (aI g q0 24 f)]) (va_runS (As := [.int 0, .int 0, .int 3]) (rest := [.ref x0]) ⟨hx, hb, hml, hown, hts⟩ (c_X10_within l g 0 0 3 H.size) (va_cwS 3 hts gX10_offer_X10_within rfl rfl rfl (by decide +kernel) ⟨Nat.le_of_ble_eq_true rfl, Nat.le_of_ble_eq_true rfl⟩) (he_preS (wc := []) hK hP hD hS hA hE [] rfl rfl) rfl rfl hl.1 rfl (lv_room (Nat.le_of_ble_eq_true rfl)) dX10_offer_14 ⟨(Nat.le_of_ble_eq_true rfl), (Nat.le_of_ble_eq_true rfl)⟩) hP hD hS hA [] [0, 1, 2, 3, 4, 5, 6, 7, 8, 9, 10, 11, 12, 13, 14, 15] rfl rfl rfl (by decide) (fun r_5 u_6 H locs h_7 hP hD hS => ?_)
    subst h_7
    have hP : va_P g.1 vwCl [(oX10 x0 y0 ta z0 p0 dr pa to_ s0 im ki tr v0 rf), (oX4 tr r0 r1 mo1), (aI g r0 24 f1), (aI g r1 6 sh), (oX6 p0 p1 p2 p3 p4 (nI w)), (aI g p1 24 sd), (aI g p2 10 fn), (aI g p3 6 st), (aI g p4 6 me), (aP g pa 7 pf), (oX5 t0 t1 t2 pw), (aI g t1 6 pd), (aI g t2 36 wb), (oX8 s0 h0 a0 b0 e0), (oX4 h0 q0 q1 mo), (aI g q0 24 f)] H := hP
    have hD : va_D A [(oX10 x0 y0 ta z0 p0 dr pa to_ s0 im ki tr v0 rf), (oX4 tr r0 r1 mo1), (aI g r0 24 f1), (aI g r1 6 sh), (oX6 p0 p1 p2 p3 p4 (nI w)), (aI g p1 24 sd), (aI g p2 10 fn), (aI g p3 6 st), (aI g p4 6 me), (aP g pa 7 pf), (oX5 t0 t1 t2 pw), (aI g t1 6 pd), (aI g t2 36 wb), (oX8 s0 h0 a0 b0 e0), (oX4 h0 q0 q1 mo), (aI g q0 24 f)] := hD
    refine he_top (1) (by decide) ?_
    refine lv_if_eq (tgt := 24) hx hb dX10_offer_17 (by decide) (fun c_8 => ?_) (fun c_8 => ?_)
    · exact absurd c_8 (by decide)
    · refine lv_iconst (v := 1) hx hb dX10_offer_20 (by decide) ?_
      refine lv_goto (tgt := 25) hx hb dX10_offer_21 (by decide) ?_
      refine he_cv (wc := []) (wr := [(oX10 x0 y0 ta z0 p0 dr pa to_ s0 im ki tr v0 rf), (oX4 tr r0 r1 mo1), (aI g r0 24 f1), (aI g r1 6 sh), (oX6 p0 p1 p2 p3 p4 (nI w)), (aI g p1 24 sd), (aI g p2 10 fn), (aI g p3 6 st), (aI g p4 6 me), (aP g pa 7 pf), (oX5 t0 t1 t2 pw), (aI g t1 6 pd), (aI g t2 36 wb), (oX8 s0 h0 a0 b0 e0), (oX4 h0 q0 q1 mo), (aI g q0 24 f)]) (va_runV (As := [.int 1]) (rest := []) ⟨hx, hb, hml, hown, hts⟩ (c_X10_demand1 l g x0 H.size) (cwV 1 hts gX10_offer_X10_demand rfl rfl rfl (by decide +kernel) ⟨Nat.le_of_ble_eq_true rfl, Nat.le_of_ble_eq_true rfl⟩) (he_preV (wc := []) hK hP hD hS hA hE [] rfl rfl 0 rfl rfl) rfl rfl hl.1 rfl (lv_room (Nat.le_of_ble_eq_true rfl)) dX10_offer_25 ⟨(Nat.le_of_ble_eq_true rfl), (Nat.le_of_ble_eq_true rfl)⟩) hP hD hS hA [] [0, 1, 2, 3, 4, 5, 6, 7, 8, 9, 10, 11, 12, 13, 14, 15] rfl rfl rfl (by decide) (fun u_10 H locs h_11 hP hD hS => ?_)
      have hP : va_P g.1 vwCl [(oX10 x0 y0 ta z0 p0 dr pa to_ s0 im ki tr v0 rf), (oX4 tr r0 r1 mo1), (aI g r0 24 f1), (aI g r1 6 sh), (oX6 p0 p1 p2 p3 p4 (nI w)), (aI g p1 24 sd), (aI g p2 10 fn), (aI g p3 6 st), (aI g p4 6 me), (aP g pa 7 pf), (oX5 t0 t1 t2 pw), (aI g t1 6 pd), (aI g t2 36 wb), (oX8 s0 h0 a0 b0 e0), (oX4 h0 q0 q1 mo), (aI g q0 24 f)] H := hP
      have hD : va_D A [(oX10 x0 y0 ta z0 p0 dr pa to_ s0 im ki tr v0 rf), (oX4 tr r0 r1 mo1), (aI g r0 24 f1), (aI g r1 6 sh), (oX6 p0 p1 p2 p3 p4 (nI w)), (aI g p1 24 sd), (aI g p2 10 fn), (aI g p3 6 st), (aI g p4 6 me), (aP g pa 7 pf), (oX5 t0 t1 t2 pw), (aI g t1 6 pd), (aI g t2 36 wb), (oX8 s0 h0 a0 b0 e0), (oX4 h0 q0 q1 mo), (aI g q0 24 f)] := hD
      refine lv_iconst (v := 0) hx hb dX10_offer_28 (by decide) ?_
      refine lv_istore_n (lv' := [(3, .int 0), (0, .ref x0), (1, .int (nI n)), (2, .int 0)]) hx hb dX10_offer_29 rfl hl (by decide) rfl (fun ls hl => ?_)
      refine lv_iconst (v := 0) hx hb dX10_offer_30 (by decide) ?_
      refine lv_istore (lv' := [(4, .int 0), (3, .int 0), (0, .ref x0), (1, .int (nI n)), (2, .int 0)]) hx hb dX10_offer_31 hl (by decide) rfl (fun ls hl => ?_)
      refine lv_iconst (v := (-1)) hx hb dX10_offer_33 (by decide) ?_
      refine lv_istore (lv' := [(5, .int (-1)), (4, .int 0), (3, .int 0), (0, .ref x0), (1, .int (nI n)), (2, .int 0)]) hx hb dX10_offer_34 hl (by decide) rfl (fun ls hl => ?_)
      refine lv_iconst (v := 0) hx hb dX10_offer_36 (by decide) ?_
      refine lv_istore (lv' := [(6, .int 0), (5, .int (-1)), (4, .int 0), (3, .int 0), (0, .ref x0), (1, .int (nI n)), (2, .int 0)]) hx hb dX10_offer_37 hl (by decide) rfl (fun ls hl => ?_)
      have loop39 : ∀ (n9 : Nat) (r : Nat) (bn : Int32) (bc : Int32) (bm : Int32) (pv : Nat → Int32) (wv : Nat → Int32) (pz : Int32) (mj : Int32) (F : Nat → Int32) (G : Nat → Int32), 10 - r < n9 → (r ≤ 10) → ((∃ ck, ck ≤ 99 ∧ pv 3 = nI ck)) → (∀ k, k < 36 → -1 ≤ wv k) → ∀ (H : Heap) (locs : List Loc) (ls : Array Slot), va_P g.1 vwCl [(oX10 x0 y0 ta z0 p0 dr pa to_ s0 im ki tr v0 rf), (oX4 tr r0 r1 mj), (aI g r0 24 F), (aI g r1 6 G), (oX6 p0 p1 p2 p3 p4 (nI w)), (aI g p1 24 sd), (aI g p2 10 fn), (aI g p3 6 st), (aI g p4 6 me), (aP g pa 7 pf), (oX5 t0 t1 t2 pz), (aI g t1 6 pv), (aI g t2 36 wv), (oX8 s0 h0 a0 b0 e0), (oX4 h0 q0 q1 mo), (aI g q0 24 f)] H → va_D A [(oX10 x0 y0 ta z0 p0 dr pa to_ s0 im ki tr v0 rf), (oX4 tr r0 r1 mj), (aI g r0 24 F), (aI g r1 6 G), (oX6 p0 p1 p2 p3 p4 (nI w)), (aI g p1 24 sd), (aI g p2 10 fn), (aI g p3 6 st), (aI g p4 6 me), (aP g pa 7 pf), (oX5 t0 t1 t2 pz), (aI g t1 6 pv), (aI g t2 36 wv), (oX8 s0 h0 a0 b0 e0), (oX4 h0 q0 q1 mo), (aI g q0 24 f)] → va_S A s.heap H locs → lv_has ls 9 [(0, .ref x0), (1, .int (nI n)), (2, .int 0), (3, .int bn), (4, .int bc), (5, .int bm), (6, .int (nI r))] → W p l e (he_room 7 154 0 0) s m args below meth c H locs 0 0 Q (F0 m 39 ls []) := by
        intro n9
        induction n9 with
        | zero => intro r bn bc bm pv wv pz mj F G hm9; exact absurd hm9 (Nat.not_lt_zero _)
        | succ n9 ih39 =>
          intro r bn bc bm pv wv pz mj F G hm9 hr10 hpv hwv H locs ls hP hD hS hl
          refine lv_iload hx hb dX10_offer_39 (lv_at hl 6 rfl) ?_
          refine lv_bipush (v := 9) hx hb dX10_offer_41 (by decide) ?_
          refine lv_icmp_gt (tgt := 121) hx hb dX10_offer_43 (by decide) (fun c_12 => ?_) (fun c_12 => ?_)
          · have k_13 : 9 < r := (he_clt (a := 9) (b := r) (by decide) rfl (by omega) (by omega)).mp c_12
            refine lv_iload_n hx hb dX10_offer_121 rfl (lv_at hl 2 rfl) ?_
            refine lv_tableIn (tgt := 148) hx hb dX10_offer_122 (by decide) (by decide) rfl (by decide) ?_
            refine lv_iload_n hx hb dX10_offer_148 rfl (lv_at hl 3 rfl) ?_
            exact he_ri hQ hx hb hr hlk hP hD hS dX10_offer_149 (Nat.le_of_ble_eq_true rfl) (Nat.le_of_ble_eq_true rfl) ((pv, wv, pz, mj, F, G)) (rfl) (⟨hpv, hwv⟩)
          · have k_14 : ¬ (9 < r) := fun h9 => c_12 ((he_clt (a := 9) (b := r) (by decide) rfl (by omega) (by omega)).mpr h9)
            refine lv_iconst (v := 0) hx hb dX10_offer_46 (by decide) ?_
            refine lv_istore (lv' := [(7, .int 0), (0, .ref x0), (1, .int (nI n)), (2, .int 0), (3, .int bn), (4, .int bc), (5, .int bm), (6, .int (nI r))]) hx hb dX10_offer_47 hl (by decide) rfl (fun ls hl => ?_)
            have loop49 : ∀ (n9 : Nat) (c9 : Nat) (bn : Int32) (bc : Int32) (bm : Int32) (pv : Nat → Int32) (wv : Nat → Int32) (pz : Int32) (mj : Int32) (F : Nat → Int32) (G : Nat → Int32), 21 - c9 < n9 → (c9 ≤ 21) → ((∃ ck, ck ≤ 99 ∧ pv 3 = nI ck)) → (∀ k, k < 36 → -1 ≤ wv k) → ∀ (H : Heap) (locs : List Loc) (ls : Array Slot), va_P g.1 vwCl [(oX10 x0 y0 ta z0 p0 dr pa to_ s0 im ki tr v0 rf), (oX4 tr r0 r1 mj), (aI g r0 24 F), (aI g r1 6 G), (oX6 p0 p1 p2 p3 p4 (nI w)), (aI g p1 24 sd), (aI g p2 10 fn), (aI g p3 6 st), (aI g p4 6 me), (aP g pa 7 pf), (oX5 t0 t1 t2 pz), (aI g t1 6 pv), (aI g t2 36 wv), (oX8 s0 h0 a0 b0 e0), (oX4 h0 q0 q1 mo), (aI g q0 24 f)] H → va_D A [(oX10 x0 y0 ta z0 p0 dr pa to_ s0 im ki tr v0 rf), (oX4 tr r0 r1 mj), (aI g r0 24 F), (aI g r1 6 G), (oX6 p0 p1 p2 p3 p4 (nI w)), (aI g p1 24 sd), (aI g p2 10 fn), (aI g p3 6 st), (aI g p4 6 me), (aP g pa 7 pf), (oX5 t0 t1 t2 pz), (aI g t1 6 pv), (aI g t2 36 wv), (oX8 s0 h0 a0 b0 e0), (oX4 h0 q0 q1 mo), (aI g q0 24 f)] → va_S A s.heap H locs → lv_has ls 9 [(0, .ref x0), (1, .int (nI n)), (2, .int 0), (3, .int bn), (4, .int bc), (5, .int bm), (6, .int (nI r)), (7, .int (nI c9))] → W p l e (he_room 7 154 0 0) s m args below meth c H locs 0 0 Q (F0 m 49 ls []) := by
              intro n9
              induction n9 with
              | zero => intro c9 bn bc bm pv wv pz mj F G hm9; exact absurd hm9 (Nat.not_lt_zero _)
              | succ n9 ih49 =>
                intro c9 bn bc bm pv wv pz mj F G hm9 hc hpv hwv H locs ls hP hD hS hl
                refine lv_iload hx hb dX10_offer_49 (lv_at hl 7 rfl) ?_
                refine lv_bipush (v := 20) hx hb dX10_offer_51 (by decide) ?_
                refine lv_icmp_gt (tgt := 115) hx hb dX10_offer_53 (by decide) (fun c_15 => ?_) (fun c_15 => ?_)
                · have k_16 : 20 < c9 := (he_clt (a := 20) (b := c9) (by decide) rfl (by omega) (by omega)).mp c_15
                  refine lv_iinc (v := nI (r + 1)) (lv' := [(6, .int (nI (r + 1))), (0, .ref x0), (1, .int (nI n)), (2, .int 0), (3, .int bn), (4, .int bc), (5, .int bm), (7, .int (nI c9))]) hx hb dX10_offer_115 hl (k := 6) rfl (nI_1 r) (by decide) rfl (fun ls hl => ?_)
                  refine lv_goto (tgt := 39) hx hb dX10_offer_118 (by decide) ?_
                  exact ih39 (r + 1) bn bc bm pv wv pz mj F G (by omega) (by omega) hpv hwv _ _ _ hP hD hS (lv_sub hl [1, 2, 3, 4, 5, 6, 0] rfl)
                · have k_17 : ¬ (20 < c9) := fun h9 => c_15 ((he_clt (a := 20) (b := c9) (by decide) rfl (by omega) (by omega)).mpr h9)
                  refine lv_aload_n hx hb dX10_offer_56 rfl (lv_at hl 0 rfl) ?_
                  refine va_get (v := .ref pa) (T := TX10) (N := 13) hx hb hts inX10 hown hK hP 0 rfl rfl 5 (by decide) f32 (fun _ h9 => h9) rfl dX10_offer_57 ?_
                  refine lv_bipush (v := 6) hx hb dX10_offer_60 (by decide) ?_
                  refine he_ald hx hb 2 rfl hK hP 9 rfl (6) (by decide) (by decide) (by first | decide | assumption) (.ref t0) (by rw [hpf]; rfl) dX10_offer_62 ?_
                  refine lv_aload_n hx hb dX10_offer_63 rfl (lv_at hl 0 rfl) ?_
                  refine va_get (v := .ref p0) (T := TX10) (N := 13) hx hb hts inX10 hown hK hP 0 rfl rfl 3 (by decide) f23 (fun _ h9 => h9) rfl dX10_offer_64 ?_
                  refine lv_iload hx hb dX10_offer_67 (lv_at hl 6 rfl) ?_
                  refine lv_iload hx hb dX10_offer_69 (lv_at hl 7 rfl) ?_
                  refine he_ci (wc := [(oX6 p0 p1 p2 p3 p4 (nI w)), (aI g p1 24 sd)]) (wr := [(oX10 x0 y0 ta z0 p0 dr pa to_ s0 im ki tr v0 rf), (oX4 tr r0 r1 mj), (aI g r0 24 F), (aI g r1 6 G), (aI g p2 10 fn), (aI g p3 6 st), (aI g p4 6 me), (aP g pa 7 pf), (oX5 t0 t1 t2 pz), (aI g t1 6 pv), (aI g t2 36 wv), (oX8 s0 h0 a0 b0 e0), (oX4 h0 q0 q1 mo), (aI g q0 24 f)]) (va_runV (As := [.int (nI r), .int (nI c9)]) (rest := [.ref t0]) ⟨hx, hb, hml, hown, hts⟩ (c_X6_wanted l g p0 p1 p2 p3 p4 (nI w) sd (nI r) (nI c9) H.size) (cwV 2 hts gX10_offer_X6_wanted rfl rfl rfl (by decide +kernel) ⟨Nat.le_of_ble_eq_true rfl, Nat.le_of_ble_eq_true rfl⟩) (he_preV (wc := [(oX6 p0 p1 p2 p3 p4 (nI w)), (aI g p1 24 sd)]) hK hP hD hS hA hE [4, 5] rfl rfl 4 rfl rfl) rfl rfl hl.1 rfl (lv_room (Nat.le_of_ble_eq_true rfl)) dX10_offer_71 ⟨(Nat.le_of_ble_eq_true rfl), (Nat.le_of_ble_eq_true rfl)⟩) hP hD hS hA [4, 5] [0, 1, 2, 3, 6, 7, 8, 9, 10, 11, 12, 13, 14, 15] rfl rfl rfl (by decide) (fun r_18 u_19 H locs h_20 hP hD hS => ?_)
                  subst h_20
                  have hP : va_P g.1 vwCl [(oX10 x0 y0 ta z0 p0 dr pa to_ s0 im ki tr v0 rf), (oX4 tr r0 r1 mj), (aI g r0 24 F), (aI g r1 6 G), (aI g p2 10 fn), (aI g p3 6 st), (aI g p4 6 me), (aP g pa 7 pf), (oX5 t0 t1 t2 pz), (aI g t1 6 pv), (aI g t2 36 wv), (oX8 s0 h0 a0 b0 e0), (oX4 h0 q0 q1 mo), (aI g q0 24 f), (oX6 p0 p1 p2 p3 p4 (nI w)), (aI g p1 24 sd)] H := hP
                  have hD : va_D A [(oX10 x0 y0 ta z0 p0 dr pa to_ s0 im ki tr v0 rf), (oX4 tr r0 r1 mj), (aI g r0 24 F), (aI g r1 6 G), (aI g p2 10 fn), (aI g p3 6 st), (aI g p4 6 me), (aP g pa 7 pf), (oX5 t0 t1 t2 pz), (aI g t1 6 pv), (aI g t2 36 wv), (oX8 s0 h0 a0 b0 e0), (oX4 h0 q0 q1 mo), (aI g q0 24 f), (oX6 p0 p1 p2 p3 p4 (nI w)), (aI g p1 24 sd)] := hD
                  refine lv_iload hx hb dX10_offer_74 (lv_at hl 6 rfl) ?_
                  refine lv_iload hx hb dX10_offer_76 (lv_at hl 7 rfl) ?_
                  refine lv_iload_n hx hb dX10_offer_78 rfl (lv_at hl 1 rfl) ?_
                  refine he_cv (wc := [(oX5 t0 t1 t2 pz), (aI g t1 6 pv), (aI g t2 36 wv)]) (wr := [(oX10 x0 y0 ta z0 p0 dr pa to_ s0 im ki tr v0 rf), (oX4 tr r0 r1 mj), (aI g r0 24 F), (aI g r1 6 G), (aI g p2 10 fn), (aI g p3 6 st), (aI g p4 6 me), (aP g pa 7 pf), (oX8 s0 h0 a0 b0 e0), (oX4 h0 q0 q1 mo), (aI g q0 24 f), (oX6 p0 p1 p2 p3 p4 (nI w)), (aI g p1 24 sd)]) (va_runV (As := [.int (wantF sd (nI r) (nI c9)), .int (nI r), .int (nI c9), .int (nI n)]) (rest := []) ⟨hx, hb, hml, hown, hts⟩ (c_X5_propose l g t0 t1 t2 pz pv wv (wantF sd (nI r) (nI c9)) (nI r) (nI c9) (nI n) H.size) (cwV 4 hts gX10_offer_X5_propose rfl rfl rfl (by decide +kernel) ⟨Nat.le_of_ble_eq_true rfl, Nat.le_of_ble_eq_true rfl⟩) (he_preV (wc := [(oX5 t0 t1 t2 pz), (aI g t1 6 pv), (aI g t2 36 wv)]) hK hP hD hS hA hE [8, 9, 10] rfl rfl 8 rfl rfl) rfl rfl hl.1 rfl (lv_room (Nat.le_of_ble_eq_true rfl)) dX10_offer_79 ⟨(Nat.le_of_ble_eq_true rfl), (Nat.le_of_ble_eq_true rfl)⟩) hP hD hS hA [8, 9, 10] [0, 1, 2, 3, 4, 5, 6, 7, 11, 12, 13, 14, 15] rfl rfl rfl (by decide) (fun u_22 H locs h_23 hP hD hS => ?_)
                  have hP : va_P g.1 vwCl [(oX10 x0 y0 ta z0 p0 dr pa to_ s0 im ki tr v0 rf), (oX4 tr r0 r1 mj), (aI g r0 24 F), (aI g r1 6 G), (aI g p2 10 fn), (aI g p3 6 st), (aI g p4 6 me), (aP g pa 7 pf), (oX8 s0 h0 a0 b0 e0), (oX4 h0 q0 q1 mo), (aI g q0 24 f), (oX6 p0 p1 p2 p3 p4 (nI w)), (aI g p1 24 sd), (oX5 t0 t1 t2 0), (aI g t1 6 (prP pv (wantF sd (nI r) (nI c9)) (nI r) (nI c9) (nI n))), (aI g t2 36 (flF (fun _ => -1) wv 36))] H := hP
                  have hD : va_D A [(oX10 x0 y0 ta z0 p0 dr pa to_ s0 im ki tr v0 rf), (oX4 tr r0 r1 mj), (aI g r0 24 F), (aI g r1 6 G), (aI g p2 10 fn), (aI g p3 6 st), (aI g p4 6 me), (aP g pa 7 pf), (oX8 s0 h0 a0 b0 e0), (oX4 h0 q0 q1 mo), (aI g q0 24 f), (oX6 p0 p1 p2 p3 p4 (nI w)), (aI g p1 24 sd), (oX5 t0 t1 t2 0), (aI g t1 6 (prP pv (wantF sd (nI r) (nI c9)) (nI r) (nI c9) (nI n))), (aI g t2 36 (flF (fun _ => -1) wv 36))] := hD
                  refine lv_aload_n hx hb dX10_offer_82 rfl (lv_at hl 0 rfl) ?_
                  refine lv_bipush (v := 6) hx hb dX10_offer_83 (by decide) ?_
                  refine lv_iload_n hx hb dX10_offer_85 rfl (lv_at hl 1 rfl) ?_
                  refine he_ci (wc := [(oX10 x0 y0 ta z0 p0 dr pa to_ s0 im ki tr v0 rf), (oX4 tr r0 r1 mj), (aI g r0 24 F), (aI g r1 6 G), (oX6 p0 p1 p2 p3 p4 (nI w)), (aI g p1 24 sd), (aI g p2 10 fn), (aI g p3 6 st), (aI g p4 6 me), (aP g pa 7 pf), (oX5 t0 t1 t2 0), (aI g t1 6 (prP pv (wantF sd (nI r) (nI c9)) (nI r) (nI c9) (nI n))), (aI g t2 36 (flF (fun _ => -1) wv 36)), (oX8 s0 h0 a0 b0 e0), (oX4 h0 q0 q1 mo), (aI g q0 24 f)]) (wr := []) (va_runV (As := [.int 6, .int (nI n)]) (rest := []) ⟨hx, hb, hml, hown, hts⟩ (g_X10_trySigned l g x0 y0 z0 dr pa s0 im tr v0 rf ta to_ ki p0 p1 p2 p3 p4 w sd fn st me a0 b0 e0 h0 q0 q1 mo f r0 r1 mj F G n pf t0 t1 t2 0 (prP pv (wantF sd (nI r) (nI c9)) (nI r) (nI c9) (nI n)) (flF (fun _ => -1) wv 36) c9 6 (by first | assumption | decide | omega) (fl_m1 _) (prP_3 _ _ _ _ _) (by omega) (by decide) hpf hn2 H.size) (cwV 2 hts gX10_offer_X10_trySigned rfl rfl rfl (by decide +kernel) ⟨Nat.le_of_ble_eq_true rfl, Nat.le_of_ble_eq_true rfl⟩) (he_preV (wc := [(oX10 x0 y0 ta z0 p0 dr pa to_ s0 im ki tr v0 rf), (oX4 tr r0 r1 mj), (aI g r0 24 F), (aI g r1 6 G), (oX6 p0 p1 p2 p3 p4 (nI w)), (aI g p1 24 sd), (aI g p2 10 fn), (aI g p3 6 st), (aI g p4 6 me), (aP g pa 7 pf), (oX5 t0 t1 t2 0), (aI g t1 6 (prP pv (wantF sd (nI r) (nI c9)) (nI r) (nI c9) (nI n))), (aI g t2 36 (flF (fun _ => -1) wv 36)), (oX8 s0 h0 a0 b0 e0), (oX4 h0 q0 q1 mo), (aI g q0 24 f)]) hK hP hD hS hA hE [0, 1, 2, 3, 11, 12, 4, 5, 6, 7, 13, 14, 15, 8, 9, 10] rfl rfl 0 rfl rfl) rfl rfl hl.1 rfl (lv_room (Nat.le_of_ble_eq_true rfl)) dX10_offer_86 ⟨(Nat.le_of_ble_eq_true rfl), (Nat.le_of_ble_eq_true rfl)⟩) hP hD hS hA [0, 1, 2, 3, 11, 12, 4, 5, 6, 7, 13, 14, 15, 8, 9, 10] [] rfl rfl rfl (by decide) (fun r_24 u_25 H locs h_26 hP hD hS => ?_)
                  obtain ⟨um_27, uf_28, us_29⟩ := u_25
                  have hP : va_P g.1 vwCl [(oX10 x0 y0 ta z0 p0 dr pa to_ s0 im ki tr v0 rf), (oX4 tr r0 r1 um_27), (aI g r0 24 uf_28), (aI g r1 6 us_29), (oX6 p0 p1 p2 p3 p4 (nI w)), (aI g p1 24 sd), (aI g p2 10 fn), (aI g p3 6 st), (aI g p4 6 me), (aP g pa 7 pf), (oX5 t0 t1 t2 0), (aI g t1 6 (prP pv (wantF sd (nI r) (nI c9)) (nI r) (nI c9) (nI n))), (aI g t2 36 (flF (fun _ => -1) wv 36)), (oX8 s0 h0 a0 b0 e0), (oX4 h0 q0 q1 mo), (aI g q0 24 f)] H := hP
                  have hD : va_D A [(oX10 x0 y0 ta z0 p0 dr pa to_ s0 im ki tr v0 rf), (oX4 tr r0 r1 um_27), (aI g r0 24 uf_28), (aI g r1 6 us_29), (oX6 p0 p1 p2 p3 p4 (nI w)), (aI g p1 24 sd), (aI g p2 10 fn), (aI g p3 6 st), (aI g p4 6 me), (aP g pa 7 pf), (oX5 t0 t1 t2 0), (aI g t1 6 (prP pv (wantF sd (nI r) (nI c9)) (nI r) (nI c9) (nI n))), (aI g t2 36 (flF (fun _ => -1) wv 36)), (oX8 s0 h0 a0 b0 e0), (oX4 h0 q0 q1 mo), (aI g q0 24 f)] := hD
                  refine lv_istore (lv' := [(8, .int r_24), (0, .ref x0), (1, .int (nI n)), (2, .int 0), (3, .int bn), (4, .int bc), (5, .int bm), (6, .int (nI r)), (7, .int (nI c9))]) hx hb dX10_offer_89 hl (by decide) rfl (fun ls hl => ?_)
                  refine lv_iload hx hb dX10_offer_91 (lv_at hl 0 rfl) ?_
                  refine lv_iload hx hb dX10_offer_93 (lv_at hl 6 rfl) ?_
                  refine lv_icmp_le (tgt := 109) hx hb dX10_offer_95 (by decide) (fun c_30 => ?_) (fun c_30 => ?_)
                  · refine lv_iinc (v := nI (c9 + 1)) (lv' := [(7, .int (nI (c9 + 1))), (8, .int r_24), (0, .ref x0), (1, .int (nI n)), (2, .int 0), (3, .int bn), (4, .int bc), (5, .int bm), (6, .int (nI r))]) hx hb dX10_offer_109 hl (k := 8) rfl (nI_1 c9) (by decide) rfl (fun ls hl => ?_)
                    refine lv_goto (tgt := 49) hx hb dX10_offer_112 (by decide) ?_
                    exact ih49 (c9 + 1) bn bc bm (prP pv (wantF sd (nI r) (nI c9)) (nI r) (nI c9) (nI n)) (flF (fun _ => -1) wv 36) 0 um_27 uf_28 us_29 (by omega) (by omega) ⟨c9, by omega, prP_3 _ _ _ _ _⟩ (fl_m1 _) _ _ _ hP hD hS (lv_sub hl [2, 3, 4, 5, 6, 7, 8, 0] rfl)
                  · refine lv_iload hx hb dX10_offer_98 (lv_at hl 0 rfl) ?_
                    refine lv_istore (lv' := [(5, .int r_24), (8, .int r_24), (0, .ref x0), (1, .int (nI n)), (2, .int 0), (3, .int bn), (4, .int bc), (6, .int (nI r)), (7, .int (nI c9))]) hx hb dX10_offer_100 hl (by decide) rfl (fun ls hl => ?_)
                    refine lv_iload hx hb dX10_offer_102 (lv_at hl 7 rfl) ?_
                    refine lv_istore_n (lv' := [(3, .int (nI r)), (5, .int r_24), (8, .int r_24), (0, .ref x0), (1, .int (nI n)), (2, .int 0), (4, .int bc), (6, .int (nI r)), (7, .int (nI c9))]) hx hb dX10_offer_104 rfl hl (by decide) rfl (fun ls hl => ?_)
                    refine lv_iload hx hb dX10_offer_105 (lv_at hl 8 rfl) ?_
                    refine lv_istore (lv' := [(4, .int (nI c9)), (3, .int (nI r)), (5, .int r_24), (8, .int r_24), (0, .ref x0), (1, .int (nI n)), (2, .int 0), (6, .int (nI r)), (7, .int (nI c9))]) hx hb dX10_offer_107 hl (by decide) rfl (fun ls hl => ?_)
                    refine lv_iinc (v := nI (c9 + 1)) (lv' := [(7, .int (nI (c9 + 1))), (4, .int (nI c9)), (3, .int (nI r)), (5, .int r_24), (8, .int r_24), (0, .ref x0), (1, .int (nI n)), (2, .int 0), (6, .int (nI r))]) hx hb dX10_offer_109 hl (k := 8) rfl (nI_1 c9) (by decide) rfl (fun ls hl => ?_)
                    refine lv_goto (tgt := 49) hx hb dX10_offer_112 (by decide) ?_
                    exact ih49 (c9 + 1) (nI r) (nI c9) r_24 (prP pv (wantF sd (nI r) (nI c9)) (nI r) (nI c9) (nI n)) (flF (fun _ => -1) wv 36) 0 um_27 uf_28 us_29 (by omega) (by omega) ⟨c9, by omega, prP_3 _ _ _ _ _⟩ (fl_m1 _) _ _ _ hP hD hS (lv_sub hl [5, 6, 7, 2, 1, 3, 8, 0] rfl)
            exact loop49 ((21 - 0) + 1) 0 bn bc bm pv wv pz mj F G (Nat.lt_succ_self _) (Nat.zero_le _) hpv hwv _ _ _ hP hD hS (lv_sub hl [1, 2, 3, 4, 5, 6, 7, 0] rfl)
      exact loop39 ((10 - 0) + 1) 0 0 0 (-1) pd wb pw mo1 f1 sh (Nat.lt_succ_self _) (Nat.zero_le _) hpv hwv _ _ _ hP hD hS (lv_sub hl [4, 5, 6, 3, 2, 1, 0] rfl)
set_option maxHeartbeats 4000000 in
set_option maxRecDepth 100000 in
theorem g_X10_offer1 (l : Launch) (g : he_G) (x0 : Nat) (y0 : Nat) (z0 : Nat) (dr : Nat) (pa : Nat) (s0 : Nat) (im : Nat) (tr : Nat) (v0 : Nat) (rf : Nat) (ta : Int32) (to_ : Int32) (ki : Int32) (p0 : Nat) (p1 : Nat) (p2 : Nat) (p3 : Nat) (p4 : Nat) (w : Nat) (sd : Nat → Int32) (fn : Nat → Int32) (st : Nat → Int32) (me : Nat → Int32) (a0 : Nat) (b0 : Nat) (e0 : Nat) (h0 : Nat) (q0 : Nat) (q1 : Nat) (mo : Int32) (f : Nat → Int32) (r0 : Nat) (r1 : Nat) (mo1 : Int32) (f1 : Nat → Int32) (sh : Nat → Int32) (n : Nat) (pf : Nat → Option Nat) (t0 : Nat) (t1 : Nat) (t2 : Nat) (pw : Int32) (pd : Nat → Int32) (wb : Nat → Int32) (hw6 : w ≤ 6) (hn1 : 1 ≤ n) (hn2 : n ≤ 60) (hpf : pf 6 = some t0) (hpv : (∃ ck, ck ≤ 99 ∧ pd 3 = nI ck)) (hwv : (∀ k, k < 36 → -1 ≤ wb k)) : he_I l yX10_offer wsX10_offer 7 154 0 0 g [.ref x0, .int (nI n), .int 1] [(oX10 x0 y0 ta z0 p0 dr pa to_ s0 im ki tr v0 rf), (oX4 tr r0 r1 mo1), (aI g r0 24 f1), (aI g r1 6 sh), (oX6 p0 p1 p2 p3 p4 (nI w)), (aI g p1 24 sd), (aI g p2 10 fn), (aI g p3 6 st), (aI g p4 6 me), (aP g pa 7 pf), (oX5 t0 t1 t2 pw), (aI g t1 6 pd), (aI g t2 36 wb), (oX8 s0 h0 a0 b0 e0), (oX4 h0 q0 q1 mo), (aI g q0 24 f)] (fun (r : Int32) (u : (Nat → Int32) × (Nat → Int32) × Int32 × Int32 × (Nat → Int32) × (Nat → Int32)) => (∃ ck, ck ≤ 99 ∧ u.1 3 = nI ck) ∧ ((∀ k, k < 36 → -1 ≤ u.2.1 k))) (fun (u : (Nat → Int32) × (Nat → Int32) × Int32 × Int32 × (Nat → Int32) × (Nat → Int32)) => [(oX10 x0 y0 ta z0 p0 dr pa to_ s0 im ki tr v0 rf), (oX4 tr r0 r1 u.2.2.2.1), (aI g r0 24 u.2.2.2.2.1), (aI g r1 6 u.2.2.2.2.2), (oX6 p0 p1 p2 p3 p4 (nI w)), (aI g p1 24 sd), (aI g p2 10 fn), (aI g p3 6 st), (aI g p4 6 me), (aP g pa 7 pf), (oX5 t0 t1 t2 u.2.2.1), (aI g t1 6 u.1), (aI g t2 36 u.2.1), (oX8 s0 h0 a0 b0 e0), (oX4 h0 q0 q1 mo), (aI g q0 24 f)]) := by
  refine he_begin (l := l) (g := g) (y := yX10_offer) (wl := wsX10_offer) (fr := 7) (lo := 154) (mc := 0) (ms := 0) (av := [.ref x0, .int (nI n), .int 1]) (ws := [(oX10 x0 y0 ta z0 p0 dr pa to_ s0 im ki tr v0 rf), (oX4 tr r0 r1 mo1), (aI g r0 24 f1), (aI g r1 6 sh), (oX6 p0 p1 p2 p3 p4 (nI w)), (aI g p1 24 sd), (aI g p2 10 fn), (aI g p3 6 st), (aI g p4 6 me), (aP g pa 7 pf), (oX5 t0 t1 t2 pw), (aI g t1 6 pd), (aI g t2 36 wb), (oX8 s0 h0 a0 b0 e0), (oX4 h0 q0 q1 mo), (aI g q0 24 f)]) (cc := cX10_offer) (maxL := 9) (ret := (some .int)) (fun A => va_Qi (fun (r : Int32) (u : (Nat → Int32) × (Nat → Int32) × Int32 × Int32 × (Nat → Int32) × (Nat → Int32)) => (∃ ck, ck ≤ 99 ∧ u.1 3 = nI ck) ∧ ((∀ k, k < 36 → -1 ≤ u.2.1 k))) (fun u t => he_post g A ((fun (u : (Nat → Int32) × (Nat → Int32) × Int32 × Int32 × (Nat → Int32) × (Nat → Int32)) => [(oX10 x0 y0 ta z0 p0 dr pa to_ s0 im ki tr v0 rf), (oX4 tr r0 r1 u.2.2.2.1), (aI g r0 24 u.2.2.2.2.1), (aI g r1 6 u.2.2.2.2.2), (oX6 p0 p1 p2 p3 p4 (nI w)), (aI g p1 24 sd), (aI g p2 10 fn), (aI g p3 6 st), (aI g p4 6 me), (aP g pa 7 pf), (oX5 t0 t1 t2 u.2.2.1), (aI g t1 6 u.1), (aI g t2 36 u.2.1), (oX8 s0 h0 a0 b0 e0), (oX4 h0 q0 q1 mo), (aI g q0 24 f)]) u) t) A) (by decide) rfl (Nat.le_of_ble_eq_true rfl) ?_
  intro p e s m args below meth c A ls H locs Q hQ hB
  obtain ⟨hx, hb, hr, hml, hown, hts, hlk, hin, hP, hK, hD, hS, hA, hE, hl⟩ := hB
  have hl : lv_has ls 9 [(0, .ref x0), (1, .int (nI n)), (2, .int 1)] := hl
  have f32 := hts (.fieldLink RX10 32 "HiredEnemy" "pacts" "[LHiredEnemy$Pact;") (iwoX10_offer (k := 0) rfl)
  have inX10 : ∀ w ∈ wsX100, w ∈ wsX10_offer := innX10_offer_X10
  have f23 := hts (.fieldLink RX10 23 "HiredEnemy" "plan" "LHiredEnemy$Plan;") (iwoX10_offer (k := 1) rfl)
  refine lv_aload_n hx hb dX10_offer_0 rfl (lv_at hl 0 rfl) ?_
  refine lv_iload_n hx hb dX10_offer_1 rfl (lv_at hl 1 rfl) ?_
  refine lv_iconst (v := 1) hx hb dX10_offer_2 (by decide) ?_
  refine lv_bipush (v := 60) hx hb dX10_offer_3 (by decide) ?_
  refine he_ci (wc := []) (wr := [(oX10 x0 y0 ta z0 p0 dr pa to_ s0 im ki tr v0 rf), (oX4 tr r0 r1 mo1), (aI g r0 24 f1), (aI g r1 6 sh), (oX6 p0 p1 p2 p3 p4 (nI w)), (aI g p1 24 sd), (aI g p2 10 fn), (aI g p3 6 st), (aI g p4 6 me), (aP g pa 7 pf), (oX5 t0 t1 t2 pw), (aI g t1 6 pd), (aI g t2 36 wb), (oX8 s0 h0 a0 b0 e0), (oX4 h0 q0 q1 mo), (aI g q0 24 f)]) (va_runS (As := [.int (nI n), .int 1, .int 60]) (rest := [.ref x0]) ⟨hx, hb, hml, hown, hts⟩ (c_X10_within l g (nI n) 1 60 H.size) (va_cwS 3 hts gX10_offer_X10_within rfl rfl rfl (by decide +kernel) ⟨Nat.le_of_ble_eq_true rfl, Nat.le_of_ble_eq_true rfl⟩) (he_preS (wc := []) hK hP hD hS hA hE [] rfl rfl) rfl rfl hl.1 rfl (lv_room (Nat.le_of_ble_eq_true rfl)) dX10_offer_5 ⟨(Nat.le_of_ble_eq_true rfl), (Nat.le_of_ble_eq_true rfl)⟩) hP hD hS hA [] [0, 1, 2, 3, 4, 5, 6, 7, 8, 9, 10, 11, 12, 13, 14, 15] rfl rfl rfl (by decide) (fun r_1 u_2 H locs h_3 hP hD hS => ?_)
  subst h_3
  have hP : va_P g.1 vwCl [(oX10 x0 y0 ta z0 p0 dr pa to_ s0 im ki tr v0 rf), (oX4 tr r0 r1 mo1), (aI g r0 24 f1), (aI g r1 6 sh), (oX6 p0 p1 p2 p3 p4 (nI w)), (aI g p1 24 sd), (aI g p2 10 fn), (aI g p3 6 st), (aI g p4 6 me), (aP g pa 7 pf), (oX5 t0 t1 t2 pw), (aI g t1 6 pd), (aI g t2 36 wb), (oX8 s0 h0 a0 b0 e0), (oX4 h0 q0 q1 mo), (aI g q0 24 f)] H := hP
  have hD : va_D A [(oX10 x0 y0 ta z0 p0 dr pa to_ s0 im ki tr v0 rf), (oX4 tr r0 r1 mo1), (aI g r0 24 f1), (aI g r1 6 sh), (oX6 p0 p1 p2 p3 p4 (nI w)), (aI g p1 24 sd), (aI g p2 10 fn), (aI g p3 6 st), (aI g p4 6 me), (aP g pa 7 pf), (oX5 t0 t1 t2 pw), (aI g t1 6 pd), (aI g t2 36 wb), (oX8 s0 h0 a0 b0 e0), (oX4 h0 q0 q1 mo), (aI g q0 24 f)] := hD
  refine he_top (1) (he_within_in (a0 := 1) (B := 60) rfl rfl (by omega) (by omega) (by decide)) ?_
  refine lv_if_eq (tgt := 24) hx hb dX10_offer_8 (by decide) (fun c_4 => ?_) (fun c_4 => ?_)
  · exact absurd c_4 (by decide)
  · refine lv_iload_n hx hb dX10_offer_11 rfl (lv_at hl 2 rfl) ?_
    refine lv_iconst (v := 0) hx hb dX10_offer_12 (by decide) ?_
    refine lv_iconst (v := 3) hx hb dX10_offer_13 (by decide) ?_
    refine he_ci (wc := []) (wr := [(oX10 x0 y0 ta z0 p0 dr pa to_ s0 im ki tr v0 rf), (oX4 tr r0 r1 mo1), (aI g r0 24 f1), (aI g r1 6 sh), (oX6 p0 p1 p2 p3 p4 (nI w)), (aI g p1 24 sd), (aI g p2 10 fn), (aI g p3 6 st), (aI g p4 6 me), (aP g pa 7 pf), (oX5 t0 t1 t2 pw), (aI g t1 6 pd), (aI g t2 36 wb), (oX8 s0 h0 a0 b0 e0), (oX4 h0 q0 q1 mo), (aI g q0 24 f)]) (va_runS (As := [.int 1, .int 0, .int 3]) (rest := [.ref x0]) ⟨hx, hb, hml, hown, hts⟩ (c_X10_within l g 1 0 3 H.size) (va_cwS 3 hts gX10_offer_X10_within rfl rfl rfl (by decide +kernel) ⟨Nat.le_of_ble_eq_true rfl, Nat.le_of_ble_eq_true rfl⟩) (he_preS (wc := []) hK hP hD hS hA hE [] rfl rfl) rfl rfl hl.1 rfl (lv_room (Nat.le_of_ble_eq_true rfl)) dX10_offer_14 ⟨(Nat.le_of_ble_eq_true rfl), (Nat.le_of_ble_eq_true rfl)⟩) hP hD hS hA [] [0, 1, 2, 3, 4, 5, 6, 7, 8, 9, 10, 11, 12, 13, 14, 15] rfl rfl rfl (by decide) (fun r_5 u_6 H locs h_7 hP hD hS => ?_)
    subst h_7
    have hP : va_P g.1 vwCl [(oX10 x0 y0 ta z0 p0 dr pa to_ s0 im ki tr v0 rf), (oX4 tr r0 r1 mo1), (aI g r0 24 f1), (aI g r1 6 sh), (oX6 p0 p1 p2 p3 p4 (nI w)), (aI g p1 24 sd), (aI g p2 10 fn), (aI g p3 6 st), (aI g p4 6 me), (aP g pa 7 pf), (oX5 t0 t1 t2 pw), (aI g t1 6 pd), (aI g t2 36 wb), (oX8 s0 h0 a0 b0 e0), (oX4 h0 q0 q1 mo), (aI g q0 24 f)] H := hP
    have hD : va_D A [(oX10 x0 y0 ta z0 p0 dr pa to_ s0 im ki tr v0 rf), (oX4 tr r0 r1 mo1), (aI g r0 24 f1), (aI g r1 6 sh), (oX6 p0 p1 p2 p3 p4 (nI w)), (aI g p1 24 sd), (aI g p2 10 fn), (aI g p3 6 st), (aI g p4 6 me), (aP g pa 7 pf), (oX5 t0 t1 t2 pw), (aI g t1 6 pd), (aI g t2 36 wb), (oX8 s0 h0 a0 b0 e0), (oX4 h0 q0 q1 mo), (aI g q0 24 f)] := hD
    refine he_top (1) (by decide) ?_
    refine lv_if_eq (tgt := 24) hx hb dX10_offer_17 (by decide) (fun c_8 => ?_) (fun c_8 => ?_)
    · exact absurd c_8 (by decide)
    · refine lv_iconst (v := 1) hx hb dX10_offer_20 (by decide) ?_
      refine lv_goto (tgt := 25) hx hb dX10_offer_21 (by decide) ?_
      refine he_cv (wc := []) (wr := [(oX10 x0 y0 ta z0 p0 dr pa to_ s0 im ki tr v0 rf), (oX4 tr r0 r1 mo1), (aI g r0 24 f1), (aI g r1 6 sh), (oX6 p0 p1 p2 p3 p4 (nI w)), (aI g p1 24 sd), (aI g p2 10 fn), (aI g p3 6 st), (aI g p4 6 me), (aP g pa 7 pf), (oX5 t0 t1 t2 pw), (aI g t1 6 pd), (aI g t2 36 wb), (oX8 s0 h0 a0 b0 e0), (oX4 h0 q0 q1 mo), (aI g q0 24 f)]) (va_runV (As := [.int 1]) (rest := []) ⟨hx, hb, hml, hown, hts⟩ (c_X10_demand1 l g x0 H.size) (cwV 1 hts gX10_offer_X10_demand rfl rfl rfl (by decide +kernel) ⟨Nat.le_of_ble_eq_true rfl, Nat.le_of_ble_eq_true rfl⟩) (he_preV (wc := []) hK hP hD hS hA hE [] rfl rfl 0 rfl rfl) rfl rfl hl.1 rfl (lv_room (Nat.le_of_ble_eq_true rfl)) dX10_offer_25 ⟨(Nat.le_of_ble_eq_true rfl), (Nat.le_of_ble_eq_true rfl)⟩) hP hD hS hA [] [0, 1, 2, 3, 4, 5, 6, 7, 8, 9, 10, 11, 12, 13, 14, 15] rfl rfl rfl (by decide) (fun u_10 H locs h_11 hP hD hS => ?_)
      have hP : va_P g.1 vwCl [(oX10 x0 y0 ta z0 p0 dr pa to_ s0 im ki tr v0 rf), (oX4 tr r0 r1 mo1), (aI g r0 24 f1), (aI g r1 6 sh), (oX6 p0 p1 p2 p3 p4 (nI w)), (aI g p1 24 sd), (aI g p2 10 fn), (aI g p3 6 st), (aI g p4 6 me), (aP g pa 7 pf), (oX5 t0 t1 t2 pw), (aI g t1 6 pd), (aI g t2 36 wb), (oX8 s0 h0 a0 b0 e0), (oX4 h0 q0 q1 mo), (aI g q0 24 f)] H := hP
      have hD : va_D A [(oX10 x0 y0 ta z0 p0 dr pa to_ s0 im ki tr v0 rf), (oX4 tr r0 r1 mo1), (aI g r0 24 f1), (aI g r1 6 sh), (oX6 p0 p1 p2 p3 p4 (nI w)), (aI g p1 24 sd), (aI g p2 10 fn), (aI g p3 6 st), (aI g p4 6 me), (aP g pa 7 pf), (oX5 t0 t1 t2 pw), (aI g t1 6 pd), (aI g t2 36 wb), (oX8 s0 h0 a0 b0 e0), (oX4 h0 q0 q1 mo), (aI g q0 24 f)] := hD
      refine lv_iconst (v := 0) hx hb dX10_offer_28 (by decide) ?_
      refine lv_istore_n (lv' := [(3, .int 0), (0, .ref x0), (1, .int (nI n)), (2, .int 1)]) hx hb dX10_offer_29 rfl hl (by decide) rfl (fun ls hl => ?_)
      refine lv_iconst (v := 0) hx hb dX10_offer_30 (by decide) ?_
      refine lv_istore (lv' := [(4, .int 0), (3, .int 0), (0, .ref x0), (1, .int (nI n)), (2, .int 1)]) hx hb dX10_offer_31 hl (by decide) rfl (fun ls hl => ?_)
      refine lv_iconst (v := (-1)) hx hb dX10_offer_33 (by decide) ?_
      refine lv_istore (lv' := [(5, .int (-1)), (4, .int 0), (3, .int 0), (0, .ref x0), (1, .int (nI n)), (2, .int 1)]) hx hb dX10_offer_34 hl (by decide) rfl (fun ls hl => ?_)
      refine lv_iconst (v := 0) hx hb dX10_offer_36 (by decide) ?_
      refine lv_istore (lv' := [(6, .int 0), (5, .int (-1)), (4, .int 0), (3, .int 0), (0, .ref x0), (1, .int (nI n)), (2, .int 1)]) hx hb dX10_offer_37 hl (by decide) rfl (fun ls hl => ?_)
      have loop39 : ∀ (n9 : Nat) (r : Nat) (bn : Int32) (bc : Int32) (bm : Int32) (pv : Nat → Int32) (wv : Nat → Int32) (pz : Int32) (mj : Int32) (F : Nat → Int32) (G : Nat → Int32), 10 - r < n9 → (r ≤ 10) → ((∃ ck, ck ≤ 99 ∧ pv 3 = nI ck)) → (∀ k, k < 36 → -1 ≤ wv k) → ∀ (H : Heap) (locs : List Loc) (ls : Array Slot), va_P g.1 vwCl [(oX10 x0 y0 ta z0 p0 dr pa to_ s0 im ki tr v0 rf), (oX4 tr r0 r1 mj), (aI g r0 24 F), (aI g r1 6 G), (oX6 p0 p1 p2 p3 p4 (nI w)), (aI g p1 24 sd), (aI g p2 10 fn), (aI g p3 6 st), (aI g p4 6 me), (aP g pa 7 pf), (oX5 t0 t1 t2 pz), (aI g t1 6 pv), (aI g t2 36 wv), (oX8 s0 h0 a0 b0 e0), (oX4 h0 q0 q1 mo), (aI g q0 24 f)] H → va_D A [(oX10 x0 y0 ta z0 p0 dr pa to_ s0 im ki tr v0 rf), (oX4 tr r0 r1 mj), (aI g r0 24 F), (aI g r1 6 G), (oX6 p0 p1 p2 p3 p4 (nI w)), (aI g p1 24 sd), (aI g p2 10 fn), (aI g p3 6 st), (aI g p4 6 me), (aP g pa 7 pf), (oX5 t0 t1 t2 pz), (aI g t1 6 pv), (aI g t2 36 wv), (oX8 s0 h0 a0 b0 e0), (oX4 h0 q0 q1 mo), (aI g q0 24 f)] → va_S A s.heap H locs → lv_has ls 9 [(0, .ref x0), (1, .int (nI n)), (2, .int 1), (3, .int bn), (4, .int bc), (5, .int bm), (6, .int (nI r))] → W p l e (he_room 7 154 0 0) s m args below meth c H locs 0 0 Q (F0 m 39 ls []) := by
        intro n9
        induction n9 with
        | zero => intro r bn bc bm pv wv pz mj F G hm9; exact absurd hm9 (Nat.not_lt_zero _)
        | succ n9 ih39 =>
          intro r bn bc bm pv wv pz mj F G hm9 hr10 hpv hwv H locs ls hP hD hS hl
          refine lv_iload hx hb dX10_offer_39 (lv_at hl 6 rfl) ?_
          refine lv_bipush (v := 9) hx hb dX10_offer_41 (by decide) ?_
          refine lv_icmp_gt (tgt := 121) hx hb dX10_offer_43 (by decide) (fun c_12 => ?_) (fun c_12 => ?_)
          · have k_13 : 9 < r := (he_clt (a := 9) (b := r) (by decide) rfl (by omega) (by omega)).mp c_12
            refine lv_iload_n hx hb dX10_offer_121 rfl (lv_at hl 2 rfl) ?_
            refine lv_tableIn (tgt := 150) hx hb dX10_offer_122 (by decide) (by decide) rfl (by decide) ?_
            refine lv_iload hx hb dX10_offer_150 (lv_at hl 4 rfl) ?_
            exact he_ri hQ hx hb hr hlk hP hD hS dX10_offer_152 (Nat.le_of_ble_eq_true rfl) (Nat.le_of_ble_eq_true rfl) ((pv, wv, pz, mj, F, G)) (rfl) (⟨hpv, hwv⟩)
          · have k_14 : ¬ (9 < r) := fun h9 => c_12 ((he_clt (a := 9) (b := r) (by decide) rfl (by omega) (by omega)).mpr h9)
            refine lv_iconst (v := 0) hx hb dX10_offer_46 (by decide) ?_
            refine lv_istore (lv' := [(7, .int 0), (0, .ref x0), (1, .int (nI n)), (2, .int 1), (3, .int bn), (4, .int bc), (5, .int bm), (6, .int (nI r))]) hx hb dX10_offer_47 hl (by decide) rfl (fun ls hl => ?_)
            have loop49 : ∀ (n9 : Nat) (c9 : Nat) (bn : Int32) (bc : Int32) (bm : Int32) (pv : Nat → Int32) (wv : Nat → Int32) (pz : Int32) (mj : Int32) (F : Nat → Int32) (G : Nat → Int32), 21 - c9 < n9 → (c9 ≤ 21) → ((∃ ck, ck ≤ 99 ∧ pv 3 = nI ck)) → (∀ k, k < 36 → -1 ≤ wv k) → ∀ (H : Heap) (locs : List Loc) (ls : Array Slot), va_P g.1 vwCl [(oX10 x0 y0 ta z0 p0 dr pa to_ s0 im ki tr v0 rf), (oX4 tr r0 r1 mj), (aI g r0 24 F), (aI g r1 6 G), (oX6 p0 p1 p2 p3 p4 (nI w)), (aI g p1 24 sd), (aI g p2 10 fn), (aI g p3 6 st), (aI g p4 6 me), (aP g pa 7 pf), (oX5 t0 t1 t2 pz), (aI g t1 6 pv), (aI g t2 36 wv), (oX8 s0 h0 a0 b0 e0), (oX4 h0 q0 q1 mo), (aI g q0 24 f)] H → va_D A [(oX10 x0 y0 ta z0 p0 dr pa to_ s0 im ki tr v0 rf), (oX4 tr r0 r1 mj), (aI g r0 24 F), (aI g r1 6 G), (oX6 p0 p1 p2 p3 p4 (nI w)), (aI g p1 24 sd), (aI g p2 10 fn), (aI g p3 6 st), (aI g p4 6 me), (aP g pa 7 pf), (oX5 t0 t1 t2 pz), (aI g t1 6 pv), (aI g t2 36 wv), (oX8 s0 h0 a0 b0 e0), (oX4 h0 q0 q1 mo), (aI g q0 24 f)] → va_S A s.heap H locs → lv_has ls 9 [(0, .ref x0), (1, .int (nI n)), (2, .int 1), (3, .int bn), (4, .int bc), (5, .int bm), (6, .int (nI r)), (7, .int (nI c9))] → W p l e (he_room 7 154 0 0) s m args below meth c H locs 0 0 Q (F0 m 49 ls []) := by
              intro n9
              induction n9 with
              | zero => intro c9 bn bc bm pv wv pz mj F G hm9; exact absurd hm9 (Nat.not_lt_zero _)
              | succ n9 ih49 =>
                intro c9 bn bc bm pv wv pz mj F G hm9 hc hpv hwv H locs ls hP hD hS hl
                refine lv_iload hx hb dX10_offer_49 (lv_at hl 7 rfl) ?_
                refine lv_bipush (v := 20) hx hb dX10_offer_51 (by decide) ?_
                refine lv_icmp_gt (tgt := 115) hx hb dX10_offer_53 (by decide) (fun c_15 => ?_) (fun c_15 => ?_)
                · have k_16 : 20 < c9 := (he_clt (a := 20) (b := c9) (by decide) rfl (by omega) (by omega)).mp c_15
                  refine lv_iinc (v := nI (r + 1)) (lv' := [(6, .int (nI (r + 1))), (0, .ref x0), (1, .int (nI n)), (2, .int 1), (3, .int bn), (4, .int bc), (5, .int bm), (7, .int (nI c9))]) hx hb dX10_offer_115 hl (k := 6) rfl (nI_1 r) (by decide) rfl (fun ls hl => ?_)
                  refine lv_goto (tgt := 39) hx hb dX10_offer_118 (by decide) ?_
                  exact ih39 (r + 1) bn bc bm pv wv pz mj F G (by omega) (by omega) hpv hwv _ _ _ hP hD hS (lv_sub hl [1, 2, 3, 4, 5, 6, 0] rfl)
                · have k_17 : ¬ (20 < c9) := fun h9 => c_15 ((he_clt (a := 20) (b := c9) (by decide) rfl (by omega) (by omega)).mpr h9)
                  refine lv_aload_n hx hb dX10_offer_56 rfl (lv_at hl 0 rfl) ?_
                  refine va_get (v := .ref pa) (T := TX10) (N := 13) hx hb hts inX10 hown hK hP 0 rfl rfl 5 (by decide) f32 (fun _ h9 => h9) rfl dX10_offer_57 ?_
                  refine lv_bipush (v := 6) hx hb dX10_offer_60 (by decide) ?_
                  refine he_ald hx hb 2 rfl hK hP 9 rfl (6) (by decide) (by decide) (by first | decide | assumption) (.ref t0) (by rw [hpf]; rfl) dX10_offer_62 ?_
                  refine lv_aload_n hx hb dX10_offer_63 rfl (lv_at hl 0 rfl) ?_
                  refine va_get (v := .ref p0) (T := TX10) (N := 13) hx hb hts inX10 hown hK hP 0 rfl rfl 3 (by decide) f23 (fun _ h9 => h9) rfl dX10_offer_64 ?_
                  refine lv_iload hx hb dX10_offer_67 (lv_at hl 6 rfl) ?_
                  refine lv_iload hx hb dX10_offer_69 (lv_at hl 7 rfl) ?_
                  refine he_ci (wc := [(oX6 p0 p1 p2 p3 p4 (nI w)), (aI g p1 24 sd)]) (wr := [(oX10 x0 y0 ta z0 p0 dr pa to_ s0 im ki tr v0 rf), (oX4 tr r0 r1 mj), (aI g r0 24 F), (aI g r1 6 G), (aI g p2 10 fn), (aI g p3 6 st), (aI g p4 6 me), (aP g pa 7 pf), (oX5 t0 t1 t2 pz), (aI g t1 6 pv), (aI g t2 36 wv), (oX8 s0 h0 a0 b0 e0), (oX4 h0 q0 q1 mo), (aI g q0 24 f)]) (va_runV (As := [.int (nI r), .int (nI c9)]) (rest := [.ref t0]) ⟨hx, hb, hml, hown, hts⟩ (c_X6_wanted l g p0 p1 p2 p3 p4 (nI w) sd (nI r) (nI c9) H.size) (cwV 2 hts gX10_offer_X6_wanted rfl rfl rfl (by decide +kernel) ⟨Nat.le_of_ble_eq_true rfl, Nat.le_of_ble_eq_true rfl⟩) (he_preV (wc := [(oX6 p0 p1 p2 p3 p4 (nI w)), (aI g p1 24 sd)]) hK hP hD hS hA hE [4, 5] rfl rfl 4 rfl rfl) rfl rfl hl.1 rfl (lv_room (Nat.le_of_ble_eq_true rfl)) dX10_offer_71 ⟨(Nat.le_of_ble_eq_true rfl), (Nat.le_of_ble_eq_true rfl)⟩) hP hD hS hA [4, 5] [0, 1, 2, 3, 6, 7, 8, 9, 10, 11, 12, 13, 14, 15] rfl rfl rfl (by decide) (fun r_18 u_19 H locs h_20 hP hD hS => ?_)
                  subst h_20
                  have hP : va_P g.1 vwCl [(oX10 x0 y0 ta z0 p0 dr pa to_ s0 im ki tr v0 rf), (oX4 tr r0 r1 mj), (aI g r0 24 F), (aI g r1 6 G), (aI g p2 10 fn), (aI g p3 6 st), (aI g p4 6 me), (aP g pa 7 pf), (oX5 t0 t1 t2 pz), (aI g t1 6 pv), (aI g t2 36 wv), (oX8 s0 h0 a0 b0 e0), (oX4 h0 q0 q1 mo), (aI g q0 24 f), (oX6 p0 p1 p2 p3 p4 (nI w)), (aI g p1 24 sd)] H := hP
                  have hD : va_D A [(oX10 x0 y0 ta z0 p0 dr pa to_ s0 im ki tr v0 rf), (oX4 tr r0 r1 mj), (aI g r0 24 F), (aI g r1 6 G), (aI g p2 10 fn), (aI g p3 6 st), (aI g p4 6 me), (aP g pa 7 pf), (oX5 t0 t1 t2 pz), (aI g t1 6 pv), (aI g t2 36 wv), (oX8 s0 h0 a0 b0 e0), (oX4 h0 q0 q1 mo), (aI g q0 24 f), (oX6 p0 p1 p2 p3 p4 (nI w)), (aI g p1 24 sd)] := hD
                  refine lv_iload hx hb dX10_offer_74 (lv_at hl 6 rfl) ?_
                  refine lv_iload hx hb dX10_offer_76 (lv_at hl 7 rfl) ?_
                  refine lv_iload_n hx hb dX10_offer_78 rfl (lv_at hl 1 rfl) ?_
                  refine he_cv (wc := [(oX5 t0 t1 t2 pz), (aI g t1 6 pv), (aI g t2 36 wv)]) (wr := [(oX10 x0 y0 ta z0 p0 dr pa to_ s0 im ki tr v0 rf), (oX4 tr r0 r1 mj), (aI g r0 24 F), (aI g r1 6 G), (aI g p2 10 fn), (aI g p3 6 st), (aI g p4 6 me), (aP g pa 7 pf), (oX8 s0 h0 a0 b0 e0), (oX4 h0 q0 q1 mo), (aI g q0 24 f), (oX6 p0 p1 p2 p3 p4 (nI w)), (aI g p1 24 sd)]) (va_runV (As := [.int (wantF sd (nI r) (nI c9)), .int (nI r), .int (nI c9), .int (nI n)]) (rest := []) ⟨hx, hb, hml, hown, hts⟩ (c_X5_propose l g t0 t1 t2 pz pv wv (wantF sd (nI r) (nI c9)) (nI r) (nI c9) (nI n) H.size) (cwV 4 hts gX10_offer_X5_propose rfl rfl rfl (by decide +kernel) ⟨Nat.le_of_ble_eq_true rfl, Nat.le_of_ble_eq_true rfl⟩) (he_preV (wc := [(oX5 t0 t1 t2 pz), (aI g t1 6 pv), (aI g t2 36 wv)]) hK hP hD hS hA hE [8, 9, 10] rfl rfl 8 rfl rfl) rfl rfl hl.1 rfl (lv_room (Nat.le_of_ble_eq_true rfl)) dX10_offer_79 ⟨(Nat.le_of_ble_eq_true rfl), (Nat.le_of_ble_eq_true rfl)⟩) hP hD hS hA [8, 9, 10] [0, 1, 2, 3, 4, 5, 6, 7, 11, 12, 13, 14, 15] rfl rfl rfl (by decide) (fun u_22 H locs h_23 hP hD hS => ?_)
                  have hP : va_P g.1 vwCl [(oX10 x0 y0 ta z0 p0 dr pa to_ s0 im ki tr v0 rf), (oX4 tr r0 r1 mj), (aI g r0 24 F), (aI g r1 6 G), (aI g p2 10 fn), (aI g p3 6 st), (aI g p4 6 me), (aP g pa 7 pf), (oX8 s0 h0 a0 b0 e0), (oX4 h0 q0 q1 mo), (aI g q0 24 f), (oX6 p0 p1 p2 p3 p4 (nI w)), (aI g p1 24 sd), (oX5 t0 t1 t2 0), (aI g t1 6 (prP pv (wantF sd (nI r) (nI c9)) (nI r) (nI c9) (nI n))), (aI g t2 36 (flF (fun _ => -1) wv 36))] H := hP
                  have hD : va_D A [(oX10 x0 y0 ta z0 p0 dr pa to_ s0 im ki tr v0 rf), (oX4 tr r0 r1 mj), (aI g r0 24 F), (aI g r1 6 G), (aI g p2 10 fn), (aI g p3 6 st), (aI g p4 6 me), (aP g pa 7 pf), (oX8 s0 h0 a0 b0 e0), (oX4 h0 q0 q1 mo), (aI g q0 24 f), (oX6 p0 p1 p2 p3 p4 (nI w)), (aI g p1 24 sd), (oX5 t0 t1 t2 0), (aI g t1 6 (prP pv (wantF sd (nI r) (nI c9)) (nI r) (nI c9) (nI n))), (aI g t2 36 (flF (fun _ => -1) wv 36))] := hD
                  refine lv_aload_n hx hb dX10_offer_82 rfl (lv_at hl 0 rfl) ?_
                  refine lv_bipush (v := 6) hx hb dX10_offer_83 (by decide) ?_
                  refine lv_iload_n hx hb dX10_offer_85 rfl (lv_at hl 1 rfl) ?_
                  refine he_ci (wc := [(oX10 x0 y0 ta z0 p0 dr pa to_ s0 im ki tr v0 rf), (oX4 tr r0 r1 mj), (aI g r0 24 F), (aI g r1 6 G), (oX6 p0 p1 p2 p3 p4 (nI w)), (aI g p1 24 sd), (aI g p2 10 fn), (aI g p3 6 st), (aI g p4 6 me), (aP g pa 7 pf), (oX5 t0 t1 t2 0), (aI g t1 6 (prP pv (wantF sd (nI r) (nI c9)) (nI r) (nI c9) (nI n))), (aI g t2 36 (flF (fun _ => -1) wv 36)), (oX8 s0 h0 a0 b0 e0), (oX4 h0 q0 q1 mo), (aI g q0 24 f)]) (wr := []) (va_runV (As := [.int 6, .int (nI n)]) (rest := []) ⟨hx, hb, hml, hown, hts⟩ (g_X10_trySigned l g x0 y0 z0 dr pa s0 im tr v0 rf ta to_ ki p0 p1 p2 p3 p4 w sd fn st me a0 b0 e0 h0 q0 q1 mo f r0 r1 mj F G n pf t0 t1 t2 0 (prP pv (wantF sd (nI r) (nI c9)) (nI r) (nI c9) (nI n)) (flF (fun _ => -1) wv 36) c9 6 (by first | assumption | decide | omega) (fl_m1 _) (prP_3 _ _ _ _ _) (by omega) (by decide) hpf hn2 H.size) (cwV 2 hts gX10_offer_X10_trySigned rfl rfl rfl (by decide +kernel) ⟨Nat.le_of_ble_eq_true rfl, Nat.le_of_ble_eq_true rfl⟩) (he_preV (wc := [(oX10 x0 y0 ta z0 p0 dr pa to_ s0 im ki tr v0 rf), (oX4 tr r0 r1 mj), (aI g r0 24 F), (aI g r1 6 G), (oX6 p0 p1 p2 p3 p4 (nI w)), (aI g p1 24 sd), (aI g p2 10 fn), (aI g p3 6 st), (aI g p4 6 me), (aP g pa 7 pf), (oX5 t0 t1 t2 0), (aI g t1 6 (prP pv (wantF sd (nI r) (nI c9)) (nI r) (nI c9) (nI n))), (aI g t2 36 (flF (fun _ => -1) wv 36)), (oX8 s0 h0 a0 b0 e0), (oX4 h0 q0 q1 mo), (aI g q0 24 f)]) hK hP hD hS hA hE [0, 1, 2, 3, 11, 12, 4, 5, 6, 7, 13, 14, 15, 8, 9, 10] rfl rfl 0 rfl rfl) rfl rfl hl.1 rfl (lv_room (Nat.le_of_ble_eq_true rfl)) dX10_offer_86 ⟨(Nat.le_of_ble_eq_true rfl), (Nat.le_of_ble_eq_true rfl)⟩) hP hD hS hA [0, 1, 2, 3, 11, 12, 4, 5, 6, 7, 13, 14, 15, 8, 9, 10] [] rfl rfl rfl (by decide) (fun r_24 u_25 H locs h_26 hP hD hS => ?_)
                  obtain ⟨um_27, uf_28, us_29⟩ := u_25
                  have hP : va_P g.1 vwCl [(oX10 x0 y0 ta z0 p0 dr pa to_ s0 im ki tr v0 rf), (oX4 tr r0 r1 um_27), (aI g r0 24 uf_28), (aI g r1 6 us_29), (oX6 p0 p1 p2 p3 p4 (nI w)), (aI g p1 24 sd), (aI g p2 10 fn), (aI g p3 6 st), (aI g p4 6 me), (aP g pa 7 pf), (oX5 t0 t1 t2 0), (aI g t1 6 (prP pv (wantF sd (nI r) (nI c9)) (nI r) (nI c9) (nI n))), (aI g t2 36 (flF (fun _ => -1) wv 36)), (oX8 s0 h0 a0 b0 e0), (oX4 h0 q0 q1 mo), (aI g q0 24 f)] H := hP
                  have hD : va_D A [(oX10 x0 y0 ta z0 p0 dr pa to_ s0 im ki tr v0 rf), (oX4 tr r0 r1 um_27), (aI g r0 24 uf_28), (aI g r1 6 us_29), (oX6 p0 p1 p2 p3 p4 (nI w)), (aI g p1 24 sd), (aI g p2 10 fn), (aI g p3 6 st), (aI g p4 6 me), (aP g pa 7 pf), (oX5 t0 t1 t2 0), (aI g t1 6 (prP pv (wantF sd (nI r) (nI c9)) (nI r) (nI c9) (nI n))), (aI g t2 36 (flF (fun _ => -1) wv 36)), (oX8 s0 h0 a0 b0 e0), (oX4 h0 q0 q1 mo), (aI g q0 24 f)] := hD
                  refine lv_istore (lv' := [(8, .int r_24), (0, .ref x0), (1, .int (nI n)), (2, .int 1), (3, .int bn), (4, .int bc), (5, .int bm), (6, .int (nI r)), (7, .int (nI c9))]) hx hb dX10_offer_89 hl (by decide) rfl (fun ls hl => ?_)
                  refine lv_iload hx hb dX10_offer_91 (lv_at hl 0 rfl) ?_
                  refine lv_iload hx hb dX10_offer_93 (lv_at hl 6 rfl) ?_
                  refine lv_icmp_le (tgt := 109) hx hb dX10_offer_95 (by decide) (fun c_30 => ?_) (fun c_30 => ?_)
                  · refine lv_iinc (v := nI (c9 + 1)) (lv' := [(7, .int (nI (c9 + 1))), (8, .int r_24), (0, .ref x0), (1, .int (nI n)), (2, .int 1), (3, .int bn), (4, .int bc), (5, .int bm), (6, .int (nI r))]) hx hb dX10_offer_109 hl (k := 8) rfl (nI_1 c9) (by decide) rfl (fun ls hl => ?_)
                    refine lv_goto (tgt := 49) hx hb dX10_offer_112 (by decide) ?_
                    exact ih49 (c9 + 1) bn bc bm (prP pv (wantF sd (nI r) (nI c9)) (nI r) (nI c9) (nI n)) (flF (fun _ => -1) wv 36) 0 um_27 uf_28 us_29 (by omega) (by omega) ⟨c9, by omega, prP_3 _ _ _ _ _⟩ (fl_m1 _) _ _ _ hP hD hS (lv_sub hl [2, 3, 4, 5, 6, 7, 8, 0] rfl)
                  · refine lv_iload hx hb dX10_offer_98 (lv_at hl 0 rfl) ?_
                    refine lv_istore (lv' := [(5, .int r_24), (8, .int r_24), (0, .ref x0), (1, .int (nI n)), (2, .int 1), (3, .int bn), (4, .int bc), (6, .int (nI r)), (7, .int (nI c9))]) hx hb dX10_offer_100 hl (by decide) rfl (fun ls hl => ?_)
                    refine lv_iload hx hb dX10_offer_102 (lv_at hl 7 rfl) ?_
                    refine lv_istore_n (lv' := [(3, .int (nI r)), (5, .int r_24), (8, .int r_24), (0, .ref x0), (1, .int (nI n)), (2, .int 1), (4, .int bc), (6, .int (nI r)), (7, .int (nI c9))]) hx hb dX10_offer_104 rfl hl (by decide) rfl (fun ls hl => ?_)
                    refine lv_iload hx hb dX10_offer_105 (lv_at hl 8 rfl) ?_
                    refine lv_istore (lv' := [(4, .int (nI c9)), (3, .int (nI r)), (5, .int r_24), (8, .int r_24), (0, .ref x0), (1, .int (nI n)), (2, .int 1), (6, .int (nI r)), (7, .int (nI c9))]) hx hb dX10_offer_107 hl (by decide) rfl (fun ls hl => ?_)
                    refine lv_iinc (v := nI (c9 + 1)) (lv' := [(7, .int (nI (c9 + 1))), (4, .int (nI c9)), (3, .int (nI r)), (5, .int r_24), (8, .int r_24), (0, .ref x0), (1, .int (nI n)), (2, .int 1), (6, .int (nI r))]) hx hb dX10_offer_109 hl (k := 8) rfl (nI_1 c9) (by decide) rfl (fun ls hl => ?_)
                    refine lv_goto (tgt := 49) hx hb dX10_offer_112 (by decide) ?_
                    exact ih49 (c9 + 1) (nI r) (nI c9) r_24 (prP pv (wantF sd (nI r) (nI c9)) (nI r) (nI c9) (nI n)) (flF (fun _ => -1) wv 36) 0 um_27 uf_28 us_29 (by omega) (by omega) ⟨c9, by omega, prP_3 _ _ _ _ _⟩ (fl_m1 _) _ _ _ hP hD hS (lv_sub hl [5, 6, 7, 2, 1, 3, 8, 0] rfl)
            exact loop49 ((21 - 0) + 1) 0 bn bc bm pv wv pz mj F G (Nat.lt_succ_self _) (Nat.zero_le _) hpv hwv _ _ _ hP hD hS (lv_sub hl [1, 2, 3, 4, 5, 6, 7, 0] rfl)
      exact loop39 ((10 - 0) + 1) 0 0 0 (-1) pd wb pw mo1 f1 sh (Nat.lt_succ_self _) (Nat.zero_le _) hpv hwv _ _ _ hP hD hS (lv_sub hl [4, 5, 6, 3, 2, 1, 0] rfl)
set_option maxHeartbeats 4000000 in
set_option maxRecDepth 100000 in
theorem g_X10_offer2 (l : Launch) (g : he_G) (x0 : Nat) (y0 : Nat) (z0 : Nat) (dr : Nat) (pa : Nat) (s0 : Nat) (im : Nat) (tr : Nat) (v0 : Nat) (rf : Nat) (ta : Int32) (to_ : Int32) (ki : Int32) (p0 : Nat) (p1 : Nat) (p2 : Nat) (p3 : Nat) (p4 : Nat) (w : Nat) (sd : Nat → Int32) (fn : Nat → Int32) (st : Nat → Int32) (me : Nat → Int32) (a0 : Nat) (b0 : Nat) (e0 : Nat) (h0 : Nat) (q0 : Nat) (q1 : Nat) (mo : Int32) (f : Nat → Int32) (r0 : Nat) (r1 : Nat) (mo1 : Int32) (f1 : Nat → Int32) (sh : Nat → Int32) (n : Nat) (pf : Nat → Option Nat) (t0 : Nat) (t1 : Nat) (t2 : Nat) (pw : Int32) (pd : Nat → Int32) (wb : Nat → Int32) (hw6 : w ≤ 6) (hn1 : 1 ≤ n) (hn2 : n ≤ 60) (hpf : pf 6 = some t0) (hpv : (∃ ck, ck ≤ 99 ∧ pd 3 = nI ck)) (hwv : (∀ k, k < 36 → -1 ≤ wb k)) : he_I l yX10_offer wsX10_offer 7 154 0 0 g [.ref x0, .int (nI n), .int 2] [(oX10 x0 y0 ta z0 p0 dr pa to_ s0 im ki tr v0 rf), (oX4 tr r0 r1 mo1), (aI g r0 24 f1), (aI g r1 6 sh), (oX6 p0 p1 p2 p3 p4 (nI w)), (aI g p1 24 sd), (aI g p2 10 fn), (aI g p3 6 st), (aI g p4 6 me), (aP g pa 7 pf), (oX5 t0 t1 t2 pw), (aI g t1 6 pd), (aI g t2 36 wb), (oX8 s0 h0 a0 b0 e0), (oX4 h0 q0 q1 mo), (aI g q0 24 f)] (fun (r : Int32) (u : (Nat → Int32) × (Nat → Int32) × Int32 × Int32 × (Nat → Int32) × (Nat → Int32)) => (∃ ck, ck ≤ 99 ∧ u.1 3 = nI ck) ∧ ((∀ k, k < 36 → -1 ≤ u.2.1 k))) (fun (u : (Nat → Int32) × (Nat → Int32) × Int32 × Int32 × (Nat → Int32) × (Nat → Int32)) => [(oX10 x0 y0 ta z0 p0 dr pa to_ s0 im ki tr v0 rf), (oX4 tr r0 r1 u.2.2.2.1), (aI g r0 24 u.2.2.2.2.1), (aI g r1 6 u.2.2.2.2.2), (oX6 p0 p1 p2 p3 p4 (nI w)), (aI g p1 24 sd), (aI g p2 10 fn), (aI g p3 6 st), (aI g p4 6 me), (aP g pa 7 pf), (oX5 t0 t1 t2 u.2.2.1), (aI g t1 6 u.1), (aI g t2 36 u.2.1), (oX8 s0 h0 a0 b0 e0), (oX4 h0 q0 q1 mo), (aI g q0 24 f)]) := by
  refine he_begin (l := l) (g := g) (y := yX10_offer) (wl := wsX10_offer) (fr := 7) (lo := 154) (mc := 0) (ms := 0) (av := [.ref x0, .int (nI n), .int 2]) (ws := [(oX10 x0 y0 ta z0 p0 dr pa to_ s0 im ki tr v0 rf), (oX4 tr r0 r1 mo1), (aI g r0 24 f1), (aI g r1 6 sh), (oX6 p0 p1 p2 p3 p4 (nI w)), (aI g p1 24 sd), (aI g p2 10 fn), (aI g p3 6 st), (aI g p4 6 me), (aP g pa 7 pf), (oX5 t0 t1 t2 pw), (aI g t1 6 pd), (aI g t2 36 wb), (oX8 s0 h0 a0 b0 e0), (oX4 h0 q0 q1 mo), (aI g q0 24 f)]) (cc := cX10_offer) (maxL := 9) (ret := (some .int)) (fun A => va_Qi (fun (r : Int32) (u : (Nat → Int32) × (Nat → Int32) × Int32 × Int32 × (Nat → Int32) × (Nat → Int32)) => (∃ ck, ck ≤ 99 ∧ u.1 3 = nI ck) ∧ ((∀ k, k < 36 → -1 ≤ u.2.1 k))) (fun u t => he_post g A ((fun (u : (Nat → Int32) × (Nat → Int32) × Int32 × Int32 × (Nat → Int32) × (Nat → Int32)) => [(oX10 x0 y0 ta z0 p0 dr pa to_ s0 im ki tr v0 rf), (oX4 tr r0 r1 u.2.2.2.1), (aI g r0 24 u.2.2.2.2.1), (aI g r1 6 u.2.2.2.2.2), (oX6 p0 p1 p2 p3 p4 (nI w)), (aI g p1 24 sd), (aI g p2 10 fn), (aI g p3 6 st), (aI g p4 6 me), (aP g pa 7 pf), (oX5 t0 t1 t2 u.2.2.1), (aI g t1 6 u.1), (aI g t2 36 u.2.1), (oX8 s0 h0 a0 b0 e0), (oX4 h0 q0 q1 mo), (aI g q0 24 f)]) u) t) A) (by decide) rfl (Nat.le_of_ble_eq_true rfl) ?_
  intro p e s m args below meth c A ls H locs Q hQ hB
  obtain ⟨hx, hb, hr, hml, hown, hts, hlk, hin, hP, hK, hD, hS, hA, hE, hl⟩ := hB
  have hl : lv_has ls 9 [(0, .ref x0), (1, .int (nI n)), (2, .int 2)] := hl
  have f23 := hts (.fieldLink RX10 23 "HiredEnemy" "plan" "LHiredEnemy$Plan;") (iwoX10_offer (k := 1) rfl)
  have inX10 : ∀ w ∈ wsX100, w ∈ wsX10_offer := innX10_offer_X10
  have f32 := hts (.fieldLink RX10 32 "HiredEnemy" "pacts" "[LHiredEnemy$Pact;") (iwoX10_offer (k := 0) rfl)
  refine lv_aload_n hx hb dX10_offer_0 rfl (lv_at hl 0 rfl) ?_
  refine lv_iload_n hx hb dX10_offer_1 rfl (lv_at hl 1 rfl) ?_
  refine lv_iconst (v := 1) hx hb dX10_offer_2 (by decide) ?_
  refine lv_bipush (v := 60) hx hb dX10_offer_3 (by decide) ?_
  refine he_ci (wc := []) (wr := [(oX10 x0 y0 ta z0 p0 dr pa to_ s0 im ki tr v0 rf), (oX4 tr r0 r1 mo1), (aI g r0 24 f1), (aI g r1 6 sh), (oX6 p0 p1 p2 p3 p4 (nI w)), (aI g p1 24 sd), (aI g p2 10 fn), (aI g p3 6 st), (aI g p4 6 me), (aP g pa 7 pf), (oX5 t0 t1 t2 pw), (aI g t1 6 pd), (aI g t2 36 wb), (oX8 s0 h0 a0 b0 e0), (oX4 h0 q0 q1 mo), (aI g q0 24 f)]) (va_runS (As := [.int (nI n), .int 1, .int 60]) (rest := [.ref x0]) ⟨hx, hb, hml, hown, hts⟩ (c_X10_within l g (nI n) 1 60 H.size) (va_cwS 3 hts gX10_offer_X10_within rfl rfl rfl (by decide +kernel) ⟨Nat.le_of_ble_eq_true rfl, Nat.le_of_ble_eq_true rfl⟩) (he_preS (wc := []) hK hP hD hS hA hE [] rfl rfl) rfl rfl hl.1 rfl (lv_room (Nat.le_of_ble_eq_true rfl)) dX10_offer_5 ⟨(Nat.le_of_ble_eq_true rfl), (Nat.le_of_ble_eq_true rfl)⟩) hP hD hS hA [] [0, 1, 2, 3, 4, 5, 6, 7, 8, 9, 10, 11, 12, 13, 14, 15] rfl rfl rfl (by decide) (fun r_1 u_2 H locs h_3 hP hD hS => ?_)
  subst h_3
  have hP : va_P g.1 vwCl [(oX10 x0 y0 ta z0 p0 dr pa to_ s0 im ki tr v0 rf), (oX4 tr r0 r1 mo1), (aI g r0 24 f1), (aI g r1 6 sh), (oX6 p0 p1 p2 p3 p4 (nI w)), (aI g p1 24 sd), (aI g p2 10 fn), (aI g p3 6 st), (aI g p4 6 me), (aP g pa 7 pf), (oX5 t0 t1 t2 pw), (aI g t1 6 pd), (aI g t2 36 wb), (oX8 s0 h0 a0 b0 e0), (oX4 h0 q0 q1 mo), (aI g q0 24 f)] H := hP
  have hD : va_D A [(oX10 x0 y0 ta z0 p0 dr pa to_ s0 im ki tr v0 rf), (oX4 tr r0 r1 mo1), (aI g r0 24 f1), (aI g r1 6 sh), (oX6 p0 p1 p2 p3 p4 (nI w)), (aI g p1 24 sd), (aI g p2 10 fn), (aI g p3 6 st), (aI g p4 6 me), (aP g pa 7 pf), (oX5 t0 t1 t2 pw), (aI g t1 6 pd), (aI g t2 36 wb), (oX8 s0 h0 a0 b0 e0), (oX4 h0 q0 q1 mo), (aI g q0 24 f)] := hD
  refine he_top (1) (he_within_in (a0 := 1) (B := 60) rfl rfl (by omega) (by omega) (by decide)) ?_
  refine lv_if_eq (tgt := 24) hx hb dX10_offer_8 (by decide) (fun c_4 => ?_) (fun c_4 => ?_)
  · exact absurd c_4 (by decide)
  · refine lv_iload_n hx hb dX10_offer_11 rfl (lv_at hl 2 rfl) ?_
    refine lv_iconst (v := 0) hx hb dX10_offer_12 (by decide) ?_
    refine lv_iconst (v := 3) hx hb dX10_offer_13 (by decide) ?_
    refine he_ci (wc := []) (wr := [(oX10 x0 y0 ta z0 p0 dr pa to_ s0 im ki tr v0 rf), (oX4 tr r0 r1 mo1), (aI g r0 24 f1), (aI g r1 6 sh), (oX6 p0 p1 p2 p3 p4 (nI w)), (aI g p1 24 sd), (aI g p2 10 fn), (aI g p3 6 st), (aI g p4 6 me), (aP g pa 7 pf), (oX5 t0 t1 t2 pw), (aI g t1 6 pd), (aI g t2 36 wb), (oX8 s0 h0 a0 b0 e0), (oX4 h0 q0 q1 mo), (aI g q0 24 f)]) (va_runS (As := [.int 2, .int 0, .int 3]) (rest := [.ref x0]) ⟨hx, hb, hml, hown, hts⟩ (c_X10_within l g 2 0 3 H.size) (va_cwS 3 hts gX10_offer_X10_within rfl rfl rfl (by decide +kernel) ⟨Nat.le_of_ble_eq_true rfl, Nat.le_of_ble_eq_true rfl⟩) (he_preS (wc := []) hK hP hD hS hA hE [] rfl rfl) rfl rfl hl.1 rfl (lv_room (Nat.le_of_ble_eq_true rfl)) dX10_offer_14 ⟨(Nat.le_of_ble_eq_true rfl), (Nat.le_of_ble_eq_true rfl)⟩) hP hD hS hA [] [0, 1, 2, 3, 4, 5, 6, 7, 8, 9, 10, 11, 12, 13, 14, 15] rfl rfl rfl (by decide) (fun r_5 u_6 H locs h_7 hP hD hS => ?_)
    subst h_7
    have hP : va_P g.1 vwCl [(oX10 x0 y0 ta z0 p0 dr pa to_ s0 im ki tr v0 rf), (oX4 tr r0 r1 mo1), (aI g r0 24 f1), (aI g r1 6 sh), (oX6 p0 p1 p2 p3 p4 (nI w)), (aI g p1 24 sd), (aI g p2 10 fn), (aI g p3 6 st), (aI g p4 6 me), (aP g pa 7 pf), (oX5 t0 t1 t2 pw), (aI g t1 6 pd), (aI g t2 36 wb), (oX8 s0 h0 a0 b0 e0), (oX4 h0 q0 q1 mo), (aI g q0 24 f)] H := hP
    have hD : va_D A [(oX10 x0 y0 ta z0 p0 dr pa to_ s0 im ki tr v0 rf), (oX4 tr r0 r1 mo1), (aI g r0 24 f1), (aI g r1 6 sh), (oX6 p0 p1 p2 p3 p4 (nI w)), (aI g p1 24 sd), (aI g p2 10 fn), (aI g p3 6 st), (aI g p4 6 me), (aP g pa 7 pf), (oX5 t0 t1 t2 pw), (aI g t1 6 pd), (aI g t2 36 wb), (oX8 s0 h0 a0 b0 e0), (oX4 h0 q0 q1 mo), (aI g q0 24 f)] := hD
    refine he_top (1) (by decide) ?_
    refine lv_if_eq (tgt := 24) hx hb dX10_offer_17 (by decide) (fun c_8 => ?_) (fun c_8 => ?_)
    · exact absurd c_8 (by decide)
    · refine lv_iconst (v := 1) hx hb dX10_offer_20 (by decide) ?_
      refine lv_goto (tgt := 25) hx hb dX10_offer_21 (by decide) ?_
      refine he_cv (wc := []) (wr := [(oX10 x0 y0 ta z0 p0 dr pa to_ s0 im ki tr v0 rf), (oX4 tr r0 r1 mo1), (aI g r0 24 f1), (aI g r1 6 sh), (oX6 p0 p1 p2 p3 p4 (nI w)), (aI g p1 24 sd), (aI g p2 10 fn), (aI g p3 6 st), (aI g p4 6 me), (aP g pa 7 pf), (oX5 t0 t1 t2 pw), (aI g t1 6 pd), (aI g t2 36 wb), (oX8 s0 h0 a0 b0 e0), (oX4 h0 q0 q1 mo), (aI g q0 24 f)]) (va_runV (As := [.int 1]) (rest := []) ⟨hx, hb, hml, hown, hts⟩ (c_X10_demand1 l g x0 H.size) (cwV 1 hts gX10_offer_X10_demand rfl rfl rfl (by decide +kernel) ⟨Nat.le_of_ble_eq_true rfl, Nat.le_of_ble_eq_true rfl⟩) (he_preV (wc := []) hK hP hD hS hA hE [] rfl rfl 0 rfl rfl) rfl rfl hl.1 rfl (lv_room (Nat.le_of_ble_eq_true rfl)) dX10_offer_25 ⟨(Nat.le_of_ble_eq_true rfl), (Nat.le_of_ble_eq_true rfl)⟩) hP hD hS hA [] [0, 1, 2, 3, 4, 5, 6, 7, 8, 9, 10, 11, 12, 13, 14, 15] rfl rfl rfl (by decide) (fun u_10 H locs h_11 hP hD hS => ?_)
      have hP : va_P g.1 vwCl [(oX10 x0 y0 ta z0 p0 dr pa to_ s0 im ki tr v0 rf), (oX4 tr r0 r1 mo1), (aI g r0 24 f1), (aI g r1 6 sh), (oX6 p0 p1 p2 p3 p4 (nI w)), (aI g p1 24 sd), (aI g p2 10 fn), (aI g p3 6 st), (aI g p4 6 me), (aP g pa 7 pf), (oX5 t0 t1 t2 pw), (aI g t1 6 pd), (aI g t2 36 wb), (oX8 s0 h0 a0 b0 e0), (oX4 h0 q0 q1 mo), (aI g q0 24 f)] H := hP
      have hD : va_D A [(oX10 x0 y0 ta z0 p0 dr pa to_ s0 im ki tr v0 rf), (oX4 tr r0 r1 mo1), (aI g r0 24 f1), (aI g r1 6 sh), (oX6 p0 p1 p2 p3 p4 (nI w)), (aI g p1 24 sd), (aI g p2 10 fn), (aI g p3 6 st), (aI g p4 6 me), (aP g pa 7 pf), (oX5 t0 t1 t2 pw), (aI g t1 6 pd), (aI g t2 36 wb), (oX8 s0 h0 a0 b0 e0), (oX4 h0 q0 q1 mo), (aI g q0 24 f)] := hD
      refine lv_iconst (v := 0) hx hb dX10_offer_28 (by decide) ?_
      refine lv_istore_n (lv' := [(3, .int 0), (0, .ref x0), (1, .int (nI n)), (2, .int 2)]) hx hb dX10_offer_29 rfl hl (by decide) rfl (fun ls hl => ?_)
      refine lv_iconst (v := 0) hx hb dX10_offer_30 (by decide) ?_
      refine lv_istore (lv' := [(4, .int 0), (3, .int 0), (0, .ref x0), (1, .int (nI n)), (2, .int 2)]) hx hb dX10_offer_31 hl (by decide) rfl (fun ls hl => ?_)
      refine lv_iconst (v := (-1)) hx hb dX10_offer_33 (by decide) ?_
      refine lv_istore (lv' := [(5, .int (-1)), (4, .int 0), (3, .int 0), (0, .ref x0), (1, .int (nI n)), (2, .int 2)]) hx hb dX10_offer_34 hl (by decide) rfl (fun ls hl => ?_)
      refine lv_iconst (v := 0) hx hb dX10_offer_36 (by decide) ?_
      refine lv_istore (lv' := [(6, .int 0), (5, .int (-1)), (4, .int 0), (3, .int 0), (0, .ref x0), (1, .int (nI n)), (2, .int 2)]) hx hb dX10_offer_37 hl (by decide) rfl (fun ls hl => ?_)
      have loop39 : ∀ (n9 : Nat) (r : Nat) (bn : Int32) (bc : Int32) (bm : Int32) (pv : Nat → Int32) (wv : Nat → Int32) (pz : Int32) (mj : Int32) (F : Nat → Int32) (G : Nat → Int32), 10 - r < n9 → (r ≤ 10) → ((∃ ck, ck ≤ 99 ∧ pv 3 = nI ck)) → (∀ k, k < 36 → -1 ≤ wv k) → ∀ (H : Heap) (locs : List Loc) (ls : Array Slot), va_P g.1 vwCl [(oX10 x0 y0 ta z0 p0 dr pa to_ s0 im ki tr v0 rf), (oX4 tr r0 r1 mj), (aI g r0 24 F), (aI g r1 6 G), (oX6 p0 p1 p2 p3 p4 (nI w)), (aI g p1 24 sd), (aI g p2 10 fn), (aI g p3 6 st), (aI g p4 6 me), (aP g pa 7 pf), (oX5 t0 t1 t2 pz), (aI g t1 6 pv), (aI g t2 36 wv), (oX8 s0 h0 a0 b0 e0), (oX4 h0 q0 q1 mo), (aI g q0 24 f)] H → va_D A [(oX10 x0 y0 ta z0 p0 dr pa to_ s0 im ki tr v0 rf), (oX4 tr r0 r1 mj), (aI g r0 24 F), (aI g r1 6 G), (oX6 p0 p1 p2 p3 p4 (nI w)), (aI g p1 24 sd), (aI g p2 10 fn), (aI g p3 6 st), (aI g p4 6 me), (aP g pa 7 pf), (oX5 t0 t1 t2 pz), (aI g t1 6 pv), (aI g t2 36 wv), (oX8 s0 h0 a0 b0 e0), (oX4 h0 q0 q1 mo), (aI g q0 24 f)] → va_S A s.heap H locs → lv_has ls 9 [(0, .ref x0), (1, .int (nI n)), (2, .int 2), (3, .int bn), (4, .int bc), (5, .int bm), (6, .int (nI r))] → W p l e (he_room 7 154 0 0) s m args below meth c H locs 0 0 Q (F0 m 39 ls []) := by
        intro n9
        induction n9 with
        | zero => intro r bn bc bm pv wv pz mj F G hm9; exact absurd hm9 (Nat.not_lt_zero _)
        | succ n9 ih39 =>
          intro r bn bc bm pv wv pz mj F G hm9 hr10 hpv hwv H locs ls hP hD hS hl
          refine lv_iload hx hb dX10_offer_39 (lv_at hl 6 rfl) ?_
          refine lv_bipush (v := 9) hx hb dX10_offer_41 (by decide) ?_
          refine lv_icmp_gt (tgt := 121) hx hb dX10_offer_43 (by decide) (fun c_12 => ?_) (fun c_12 => ?_)
          · have k_13 : 9 < r := (he_clt (a := 9) (b := r) (by decide) rfl (by omega) (by omega)).mp c_12
            refine lv_iload_n hx hb dX10_offer_121 rfl (lv_at hl 2 rfl) ?_
            refine lv_tableIn (tgt := 153) hx hb dX10_offer_122 (by decide) (by decide) rfl (by decide) ?_
            refine lv_aload_n hx hb dX10_offer_153 rfl (lv_at hl 0 rfl) ?_
            refine va_get (v := .ref p0) (T := TX10) (N := 13) hx hb hts inX10 hown hK hP 0 rfl rfl 3 (by decide) f23 (fun _ h9 => h9) rfl dX10_offer_154 ?_
            refine lv_iload_n hx hb dX10_offer_157 rfl (lv_at hl 3 rfl) ?_
            refine lv_iload hx hb dX10_offer_158 (lv_at hl 4 rfl) ?_
            refine he_ci (wc := [(oX6 p0 p1 p2 p3 p4 (nI w)), (aI g p1 24 sd)]) (wr := [(oX10 x0 y0 ta z0 p0 dr pa to_ s0 im ki tr v0 rf), (oX4 tr r0 r1 mj), (aI g r0 24 F), (aI g r1 6 G), (aI g p2 10 fn), (aI g p3 6 st), (aI g p4 6 me), (aP g pa 7 pf), (oX5 t0 t1 t2 pz), (aI g t1 6 pv), (aI g t2 36 wv), (oX8 s0 h0 a0 b0 e0), (oX4 h0 q0 q1 mo), (aI g q0 24 f)]) (va_runV (As := [.int bn, .int bc]) (rest := []) ⟨hx, hb, hml, hown, hts⟩ (c_X6_wanted l g p0 p1 p2 p3 p4 (nI w) sd bn bc H.size) (cwV 2 hts gX10_offer_X6_wanted rfl rfl rfl (by decide +kernel) ⟨Nat.le_of_ble_eq_true rfl, Nat.le_of_ble_eq_true rfl⟩) (he_preV (wc := [(oX6 p0 p1 p2 p3 p4 (nI w)), (aI g p1 24 sd)]) hK hP hD hS hA hE [4, 5] rfl rfl 4 rfl rfl) rfl rfl hl.1 rfl (lv_room (Nat.le_of_ble_eq_true rfl)) dX10_offer_160 ⟨(Nat.le_of_ble_eq_true rfl), (Nat.le_of_ble_eq_true rfl)⟩) hP hD hS hA [4, 5] [0, 1, 2, 3, 6, 7, 8, 9, 10, 11, 12, 13, 14, 15] rfl rfl rfl (by decide) (fun r_14 u_15 H locs h_16 hP hD hS => ?_)
            subst h_16
            have hP : va_P g.1 vwCl [(oX10 x0 y0 ta z0 p0 dr pa to_ s0 im ki tr v0 rf), (oX4 tr r0 r1 mj), (aI g r0 24 F), (aI g r1 6 G), (aI g p2 10 fn), (aI g p3 6 st), (aI g p4 6 me), (aP g pa 7 pf), (oX5 t0 t1 t2 pz), (aI g t1 6 pv), (aI g t2 36 wv), (oX8 s0 h0 a0 b0 e0), (oX4 h0 q0 q1 mo), (aI g q0 24 f), (oX6 p0 p1 p2 p3 p4 (nI w)), (aI g p1 24 sd)] H := hP
            have hD : va_D A [(oX10 x0 y0 ta z0 p0 dr pa to_ s0 im ki tr v0 rf), (oX4 tr r0 r1 mj), (aI g r0 24 F), (aI g r1 6 G), (aI g p2 10 fn), (aI g p3 6 st), (aI g p4 6 me), (aP g pa 7 pf), (oX5 t0 t1 t2 pz), (aI g t1 6 pv), (aI g t2 36 wv), (oX8 s0 h0 a0 b0 e0), (oX4 h0 q0 q1 mo), (aI g q0 24 f), (oX6 p0 p1 p2 p3 p4 (nI w)), (aI g p1 24 sd)] := hD
            have hP := hP.sub (ws' := [(oX10 x0 y0 ta z0 p0 dr pa to_ s0 im ki tr v0 rf), (oX4 tr r0 r1 mj), (aI g r0 24 F), (aI g r1 6 G), (oX6 p0 p1 p2 p3 p4 (nI w)), (aI g p1 24 sd), (aI g p2 10 fn), (aI g p3 6 st), (aI g p4 6 me), (aP g pa 7 pf), (oX5 t0 t1 t2 pz), (aI g t1 6 pv), (aI g t2 36 wv), (oX8 s0 h0 a0 b0 e0), (oX4 h0 q0 q1 mo), (aI g q0 24 f)]) [0, 1, 2, 3, 14, 15, 4, 5, 6, 7, 8, 9, 10, 11, 12, 13] rfl
            have hD := hD.sub (ws' := [(oX10 x0 y0 ta z0 p0 dr pa to_ s0 im ki tr v0 rf), (oX4 tr r0 r1 mj), (aI g r0 24 F), (aI g r1 6 G), (oX6 p0 p1 p2 p3 p4 (nI w)), (aI g p1 24 sd), (aI g p2 10 fn), (aI g p3 6 st), (aI g p4 6 me), (aP g pa 7 pf), (oX5 t0 t1 t2 pz), (aI g t1 6 pv), (aI g t2 36 wv), (oX8 s0 h0 a0 b0 e0), (oX4 h0 q0 q1 mo), (aI g q0 24 f)]) [0, 1, 2, 3, 14, 15, 4, 5, 6, 7, 8, 9, 10, 11, 12, 13] (by decide) rfl
            exact he_ri hQ hx hb hr hlk hP hD hS dX10_offer_163 (Nat.le_of_ble_eq_true rfl) (Nat.le_of_ble_eq_true rfl) ((pv, wv, pz, mj, F, G)) (rfl) (⟨hpv, hwv⟩)
          · have k_17 : ¬ (9 < r) := fun h9 => c_12 ((he_clt (a := 9) (b := r) (by decide) rfl (by omega) (by omega)).mpr h9)
            refine lv_iconst (v := 0) hx hb dX10_offer_46 (by decide) ?_
            refine lv_istore (lv' := [(7, .int 0), (0, .ref x0), (1, .int (nI n)), (2, .int 2), (3, .int bn), (4, .int bc), (5, .int bm), (6, .int (nI r))]) hx hb dX10_offer_47 hl (by decide) rfl (fun ls hl => ?_)
            have loop49 : ∀ (n9 : Nat) (c9 : Nat) (bn : Int32) (bc : Int32) (bm : Int32) (pv : Nat → Int32) (wv : Nat → Int32) (pz : Int32) (mj : Int32) (F : Nat → Int32) (G : Nat → Int32), 21 - c9 < n9 → (c9 ≤ 21) → ((∃ ck, ck ≤ 99 ∧ pv 3 = nI ck)) → (∀ k, k < 36 → -1 ≤ wv k) → ∀ (H : Heap) (locs : List Loc) (ls : Array Slot), va_P g.1 vwCl [(oX10 x0 y0 ta z0 p0 dr pa to_ s0 im ki tr v0 rf), (oX4 tr r0 r1 mj), (aI g r0 24 F), (aI g r1 6 G), (oX6 p0 p1 p2 p3 p4 (nI w)), (aI g p1 24 sd), (aI g p2 10 fn), (aI g p3 6 st), (aI g p4 6 me), (aP g pa 7 pf), (oX5 t0 t1 t2 pz), (aI g t1 6 pv), (aI g t2 36 wv), (oX8 s0 h0 a0 b0 e0), (oX4 h0 q0 q1 mo), (aI g q0 24 f)] H → va_D A [(oX10 x0 y0 ta z0 p0 dr pa to_ s0 im ki tr v0 rf), (oX4 tr r0 r1 mj), (aI g r0 24 F), (aI g r1 6 G), (oX6 p0 p1 p2 p3 p4 (nI w)), (aI g p1 24 sd), (aI g p2 10 fn), (aI g p3 6 st), (aI g p4 6 me), (aP g pa 7 pf), (oX5 t0 t1 t2 pz), (aI g t1 6 pv), (aI g t2 36 wv), (oX8 s0 h0 a0 b0 e0), (oX4 h0 q0 q1 mo), (aI g q0 24 f)] → va_S A s.heap H locs → lv_has ls 9 [(0, .ref x0), (1, .int (nI n)), (2, .int 2), (3, .int bn), (4, .int bc), (5, .int bm), (6, .int (nI r)), (7, .int (nI c9))] → W p l e (he_room 7 154 0 0) s m args below meth c H locs 0 0 Q (F0 m 49 ls []) := by
              intro n9
              induction n9 with
              | zero => intro c9 bn bc bm pv wv pz mj F G hm9; exact absurd hm9 (Nat.not_lt_zero _)
              | succ n9 ih49 =>
                intro c9 bn bc bm pv wv pz mj F G hm9 hc hpv hwv H locs ls hP hD hS hl
                refine lv_iload hx hb dX10_offer_49 (lv_at hl 7 rfl) ?_
                refine lv_bipush (v := 20) hx hb dX10_offer_51 (by decide) ?_
                refine lv_icmp_gt (tgt := 115) hx hb dX10_offer_53 (by decide) (fun c_18 => ?_) (fun c_18 => ?_)
                · have k_19 : 20 < c9 := (he_clt (a := 20) (b := c9) (by decide) rfl (by omega) (by omega)).mp c_18
                  refine lv_iinc (v := nI (r + 1)) (lv' := [(6, .int (nI (r + 1))), (0, .ref x0), (1, .int (nI n)), (2, .int 2), (3, .int bn), (4, .int bc), (5, .int bm), (7, .int (nI c9))]) hx hb dX10_offer_115 hl (k := 6) rfl (nI_1 r) (by decide) rfl (fun ls hl => ?_)
                  refine lv_goto (tgt := 39) hx hb dX10_offer_118 (by decide) ?_
                  exact ih39 (r + 1) bn bc bm pv wv pz mj F G (by omega) (by omega) hpv hwv _ _ _ hP hD hS (lv_sub hl [1, 2, 3, 4, 5, 6, 0] rfl)
                · have k_20 : ¬ (20 < c9) := fun h9 => c_18 ((he_clt (a := 20) (b := c9) (by decide) rfl (by omega) (by omega)).mpr h9)
                  refine lv_aload_n hx hb dX10_offer_56 rfl (lv_at hl 0 rfl) ?_
                  refine va_get (v := .ref pa) (T := TX10) (N := 13) hx hb hts inX10 hown hK hP 0 rfl rfl 5 (by decide) f32 (fun _ h9 => h9) rfl dX10_offer_57 ?_
                  refine lv_bipush (v := 6) hx hb dX10_offer_60 (by decide) ?_
                  refine he_ald hx hb 2 rfl hK hP 9 rfl (6) (by decide) (by decide) (by first | decide | assumption) (.ref t0) (by rw [hpf]; rfl) dX10_offer_62 ?_
                  refine lv_aload_n hx hb dX10_offer_63 rfl (lv_at hl 0 rfl) ?_
                  refine va_get (v := .ref p0) (T := TX10) (N := 13) hx hb hts inX10 hown hK hP 0 rfl rfl 3 (by decide) f23 (fun _ h9 => h9) rfl dX10_offer_64 ?_
                  refine lv_iload hx hb dX10_offer_67 (lv_at hl 6 rfl) ?_
                  refine lv_iload hx hb dX10_offer_69 (lv_at hl 7 rfl) ?_
                  refine he_ci (wc := [(oX6 p0 p1 p2 p3 p4 (nI w)), (aI g p1 24 sd)]) (wr := [(oX10 x0 y0 ta z0 p0 dr pa to_ s0 im ki tr v0 rf), (oX4 tr r0 r1 mj), (aI g r0 24 F), (aI g r1 6 G), (aI g p2 10 fn), (aI g p3 6 st), (aI g p4 6 me), (aP g pa 7 pf), (oX5 t0 t1 t2 pz), (aI g t1 6 pv), (aI g t2 36 wv), (oX8 s0 h0 a0 b0 e0), (oX4 h0 q0 q1 mo), (aI g q0 24 f)]) (va_runV (As := [.int (nI r), .int (nI c9)]) (rest := [.ref t0]) ⟨hx, hb, hml, hown, hts⟩ (c_X6_wanted l g p0 p1 p2 p3 p4 (nI w) sd (nI r) (nI c9) H.size) (cwV 2 hts gX10_offer_X6_wanted rfl rfl rfl (by decide +kernel) ⟨Nat.le_of_ble_eq_true rfl, Nat.le_of_ble_eq_true rfl⟩) (he_preV (wc := [(oX6 p0 p1 p2 p3 p4 (nI w)), (aI g p1 24 sd)]) hK hP hD hS hA hE [4, 5] rfl rfl 4 rfl rfl) rfl rfl hl.1 rfl (lv_room (Nat.le_of_ble_eq_true rfl)) dX10_offer_71 ⟨(Nat.le_of_ble_eq_true rfl), (Nat.le_of_ble_eq_true rfl)⟩) hP hD hS hA [4, 5] [0, 1, 2, 3, 6, 7, 8, 9, 10, 11, 12, 13, 14, 15] rfl rfl rfl (by decide) (fun r_21 u_22 H locs h_23 hP hD hS => ?_)
                  subst h_23
                  have hP : va_P g.1 vwCl [(oX10 x0 y0 ta z0 p0 dr pa to_ s0 im ki tr v0 rf), (oX4 tr r0 r1 mj), (aI g r0 24 F), (aI g r1 6 G), (aI g p2 10 fn), (aI g p3 6 st), (aI g p4 6 me), (aP g pa 7 pf), (oX5 t0 t1 t2 pz), (aI g t1 6 pv), (aI g t2 36 wv), (oX8 s0 h0 a0 b0 e0), (oX4 h0 q0 q1 mo), (aI g q0 24 f), (oX6 p0 p1 p2 p3 p4 (nI w)), (aI g p1 24 sd)] H := hP
                  have hD : va_D A [(oX10 x0 y0 ta z0 p0 dr pa to_ s0 im ki tr v0 rf), (oX4 tr r0 r1 mj), (aI g r0 24 F), (aI g r1 6 G), (aI g p2 10 fn), (aI g p3 6 st), (aI g p4 6 me), (aP g pa 7 pf), (oX5 t0 t1 t2 pz), (aI g t1 6 pv), (aI g t2 36 wv), (oX8 s0 h0 a0 b0 e0), (oX4 h0 q0 q1 mo), (aI g q0 24 f), (oX6 p0 p1 p2 p3 p4 (nI w)), (aI g p1 24 sd)] := hD
                  refine lv_iload hx hb dX10_offer_74 (lv_at hl 6 rfl) ?_
                  refine lv_iload hx hb dX10_offer_76 (lv_at hl 7 rfl) ?_
                  refine lv_iload_n hx hb dX10_offer_78 rfl (lv_at hl 1 rfl) ?_
                  refine he_cv (wc := [(oX5 t0 t1 t2 pz), (aI g t1 6 pv), (aI g t2 36 wv)]) (wr := [(oX10 x0 y0 ta z0 p0 dr pa to_ s0 im ki tr v0 rf), (oX4 tr r0 r1 mj), (aI g r0 24 F), (aI g r1 6 G), (aI g p2 10 fn), (aI g p3 6 st), (aI g p4 6 me), (aP g pa 7 pf), (oX8 s0 h0 a0 b0 e0), (oX4 h0 q0 q1 mo), (aI g q0 24 f), (oX6 p0 p1 p2 p3 p4 (nI w)), (aI g p1 24 sd)]) (va_runV (As := [.int (wantF sd (nI r) (nI c9)), .int (nI r), .int (nI c9), .int (nI n)]) (rest := []) ⟨hx, hb, hml, hown, hts⟩ (c_X5_propose l g t0 t1 t2 pz pv wv (wantF sd (nI r) (nI c9)) (nI r) (nI c9) (nI n) H.size) (cwV 4 hts gX10_offer_X5_propose rfl rfl rfl (by decide +kernel) ⟨Nat.le_of_ble_eq_true rfl, Nat.le_of_ble_eq_true rfl⟩) (he_preV (wc := [(oX5 t0 t1 t2 pz), (aI g t1 6 pv), (aI g t2 36 wv)]) hK hP hD hS hA hE [8, 9, 10] rfl rfl 8 rfl rfl) rfl rfl hl.1 rfl (lv_room (Nat.le_of_ble_eq_true rfl)) dX10_offer_79 ⟨(Nat.le_of_ble_eq_true rfl), (Nat.le_of_ble_eq_true rfl)⟩) hP hD hS hA [8, 9, 10] [0, 1, 2, 3, 4, 5, 6, 7, 11, 12, 13, 14, 15] rfl rfl rfl (by decide) (fun u_25 H locs h_26 hP hD hS => ?_)
                  have hP : va_P g.1 vwCl [(oX10 x0 y0 ta z0 p0 dr pa to_ s0 im ki tr v0 rf), (oX4 tr r0 r1 mj), (aI g r0 24 F), (aI g r1 6 G), (aI g p2 10 fn), (aI g p3 6 st), (aI g p4 6 me), (aP g pa 7 pf), (oX8 s0 h0 a0 b0 e0), (oX4 h0 q0 q1 mo), (aI g q0 24 f), (oX6 p0 p1 p2 p3 p4 (nI w)), (aI g p1 24 sd), (oX5 t0 t1 t2 0), (aI g t1 6 (prP pv (wantF sd (nI r) (nI c9)) (nI r) (nI c9) (nI n))), (aI g t2 36 (flF (fun _ => -1) wv 36))] H := hP
                  have hD : va_D A [(oX10 x0 y0 ta z0 p0 dr pa to_ s0 im ki tr v0 rf), (oX4 tr r0 r1 mj), (aI g r0 24 F), (aI g r1 6 G), (aI g p2 10 fn), (aI g p3 6 st), (aI g p4 6 me), (aP g pa 7 pf), (oX8 s0 h0 a0 b0 e0), (oX4 h0 q0 q1 mo), (aI g q0 24 f), (oX6 p0 p1 p2 p3 p4 (nI w)), (aI g p1 24 sd), (oX5 t0 t1 t2 0), (aI g t1 6 (prP pv (wantF sd (nI r) (nI c9)) (nI r) (nI c9) (nI n))), (aI g t2 36 (flF (fun _ => -1) wv 36))] := hD
                  refine lv_aload_n hx hb dX10_offer_82 rfl (lv_at hl 0 rfl) ?_
                  refine lv_bipush (v := 6) hx hb dX10_offer_83 (by decide) ?_
                  refine lv_iload_n hx hb dX10_offer_85 rfl (lv_at hl 1 rfl) ?_
                  refine he_ci (wc := [(oX10 x0 y0 ta z0 p0 dr pa to_ s0 im ki tr v0 rf), (oX4 tr r0 r1 mj), (aI g r0 24 F), (aI g r1 6 G), (oX6 p0 p1 p2 p3 p4 (nI w)), (aI g p1 24 sd), (aI g p2 10 fn), (aI g p3 6 st), (aI g p4 6 me), (aP g pa 7 pf), (oX5 t0 t1 t2 0), (aI g t1 6 (prP pv (wantF sd (nI r) (nI c9)) (nI r) (nI c9) (nI n))), (aI g t2 36 (flF (fun _ => -1) wv 36)), (oX8 s0 h0 a0 b0 e0), (oX4 h0 q0 q1 mo), (aI g q0 24 f)]) (wr := []) (va_runV (As := [.int 6, .int (nI n)]) (rest := []) ⟨hx, hb, hml, hown, hts⟩ (g_X10_trySigned l g x0 y0 z0 dr pa s0 im tr v0 rf ta to_ ki p0 p1 p2 p3 p4 w sd fn st me a0 b0 e0 h0 q0 q1 mo f r0 r1 mj F G n pf t0 t1 t2 0 (prP pv (wantF sd (nI r) (nI c9)) (nI r) (nI c9) (nI n)) (flF (fun _ => -1) wv 36) c9 6 (by first | assumption | decide | omega) (fl_m1 _) (prP_3 _ _ _ _ _) (by omega) (by decide) hpf hn2 H.size) (cwV 2 hts gX10_offer_X10_trySigned rfl rfl rfl (by decide +kernel) ⟨Nat.le_of_ble_eq_true rfl, Nat.le_of_ble_eq_true rfl⟩) (he_preV (wc := [(oX10 x0 y0 ta z0 p0 dr pa to_ s0 im ki tr v0 rf), (oX4 tr r0 r1 mj), (aI g r0 24 F), (aI g r1 6 G), (oX6 p0 p1 p2 p3 p4 (nI w)), (aI g p1 24 sd), (aI g p2 10 fn), (aI g p3 6 st), (aI g p4 6 me), (aP g pa 7 pf), (oX5 t0 t1 t2 0), (aI g t1 6 (prP pv (wantF sd (nI r) (nI c9)) (nI r) (nI c9) (nI n))), (aI g t2 36 (flF (fun _ => -1) wv 36)), (oX8 s0 h0 a0 b0 e0), (oX4 h0 q0 q1 mo), (aI g q0 24 f)]) hK hP hD hS hA hE [0, 1, 2, 3, 11, 12, 4, 5, 6, 7, 13, 14, 15, 8, 9, 10] rfl rfl 0 rfl rfl) rfl rfl hl.1 rfl (lv_room (Nat.le_of_ble_eq_true rfl)) dX10_offer_86 ⟨(Nat.le_of_ble_eq_true rfl), (Nat.le_of_ble_eq_true rfl)⟩) hP hD hS hA [0, 1, 2, 3, 11, 12, 4, 5, 6, 7, 13, 14, 15, 8, 9, 10] [] rfl rfl rfl (by decide) (fun r_27 u_28 H locs h_29 hP hD hS => ?_)
                  obtain ⟨um_30, uf_31, us_32⟩ := u_28
                  have hP : va_P g.1 vwCl [(oX10 x0 y0 ta z0 p0 dr pa to_ s0 im ki tr v0 rf), (oX4 tr r0 r1 um_30), (aI g r0 24 uf_31), (aI g r1 6 us_32), (oX6 p0 p1 p2 p3 p4 (nI w)), (aI g p1 24 sd), (aI g p2 10 fn), (aI g p3 6 st), (aI g p4 6 me), (aP g pa 7 pf), (oX5 t0 t1 t2 0), (aI g t1 6 (prP pv (wantF sd (nI r) (nI c9)) (nI r) (nI c9) (nI n))), (aI g t2 36 (flF (fun _ => -1) wv 36)), (oX8 s0 h0 a0 b0 e0), (oX4 h0 q0 q1 mo), (aI g q0 24 f)] H := hP
                  have hD : va_D A [(oX10 x0 y0 ta z0 p0 dr pa to_ s0 im ki tr v0 rf), (oX4 tr r0 r1 um_30), (aI g r0 24 uf_31), (aI g r1 6 us_32), (oX6 p0 p1 p2 p3 p4 (nI w)), (aI g p1 24 sd), (aI g p2 10 fn), (aI g p3 6 st), (aI g p4 6 me), (aP g pa 7 pf), (oX5 t0 t1 t2 0), (aI g t1 6 (prP pv (wantF sd (nI r) (nI c9)) (nI r) (nI c9) (nI n))), (aI g t2 36 (flF (fun _ => -1) wv 36)), (oX8 s0 h0 a0 b0 e0), (oX4 h0 q0 q1 mo), (aI g q0 24 f)] := hD
                  refine lv_istore (lv' := [(8, .int r_27), (0, .ref x0), (1, .int (nI n)), (2, .int 2), (3, .int bn), (4, .int bc), (5, .int bm), (6, .int (nI r)), (7, .int (nI c9))]) hx hb dX10_offer_89 hl (by decide) rfl (fun ls hl => ?_)
                  refine lv_iload hx hb dX10_offer_91 (lv_at hl 0 rfl) ?_
                  refine lv_iload hx hb dX10_offer_93 (lv_at hl 6 rfl) ?_
                  refine lv_icmp_le (tgt := 109) hx hb dX10_offer_95 (by decide) (fun c_33 => ?_) (fun c_33 => ?_)
                  · refine lv_iinc (v := nI (c9 + 1)) (lv' := [(7, .int (nI (c9 + 1))), (8, .int r_27), (0, .ref x0), (1, .int (nI n)), (2, .int 2), (3, .int bn), (4, .int bc), (5, .int bm), (6, .int (nI r))]) hx hb dX10_offer_109 hl (k := 8) rfl (nI_1 c9) (by decide) rfl (fun ls hl => ?_)
                    refine lv_goto (tgt := 49) hx hb dX10_offer_112 (by decide) ?_
                    exact ih49 (c9 + 1) bn bc bm (prP pv (wantF sd (nI r) (nI c9)) (nI r) (nI c9) (nI n)) (flF (fun _ => -1) wv 36) 0 um_30 uf_31 us_32 (by omega) (by omega) ⟨c9, by omega, prP_3 _ _ _ _ _⟩ (fl_m1 _) _ _ _ hP hD hS (lv_sub hl [2, 3, 4, 5, 6, 7, 8, 0] rfl)
                  · refine lv_iload hx hb dX10_offer_98 (lv_at hl 0 rfl) ?_
                    refine lv_istore (lv' := [(5, .int r_27), (8, .int r_27), (0, .ref x0), (1, .int (nI n)), (2, .int 2), (3, .int bn), (4, .int bc), (6, .int (nI r)), (7, .int (nI c9))]) hx hb dX10_offer_100 hl (by decide) rfl (fun ls hl => ?_)
                    refine lv_iload hx hb dX10_offer_102 (lv_at hl 7 rfl) ?_
                    refine lv_istore_n (lv' := [(3, .int (nI r)), (5, .int r_27), (8, .int r_27), (0, .ref x0), (1, .int (nI n)), (2, .int 2), (4, .int bc), (6, .int (nI r)), (7, .int (nI c9))]) hx hb dX10_offer_104 rfl hl (by decide) rfl (fun ls hl => ?_)
                    refine lv_iload hx hb dX10_offer_105 (lv_at hl 8 rfl) ?_
                    refine lv_istore (lv' := [(4, .int (nI c9)), (3, .int (nI r)), (5, .int r_27), (8, .int r_27), (0, .ref x0), (1, .int (nI n)), (2, .int 2), (6, .int (nI r)), (7, .int (nI c9))]) hx hb dX10_offer_107 hl (by decide) rfl (fun ls hl => ?_)
                    refine lv_iinc (v := nI (c9 + 1)) (lv' := [(7, .int (nI (c9 + 1))), (4, .int (nI c9)), (3, .int (nI r)), (5, .int r_27), (8, .int r_27), (0, .ref x0), (1, .int (nI n)), (2, .int 2), (6, .int (nI r))]) hx hb dX10_offer_109 hl (k := 8) rfl (nI_1 c9) (by decide) rfl (fun ls hl => ?_)
                    refine lv_goto (tgt := 49) hx hb dX10_offer_112 (by decide) ?_
                    exact ih49 (c9 + 1) (nI r) (nI c9) r_27 (prP pv (wantF sd (nI r) (nI c9)) (nI r) (nI c9) (nI n)) (flF (fun _ => -1) wv 36) 0 um_30 uf_31 us_32 (by omega) (by omega) ⟨c9, by omega, prP_3 _ _ _ _ _⟩ (fl_m1 _) _ _ _ hP hD hS (lv_sub hl [5, 6, 7, 2, 1, 3, 8, 0] rfl)
            exact loop49 ((21 - 0) + 1) 0 bn bc bm pv wv pz mj F G (Nat.lt_succ_self _) (Nat.zero_le _) hpv hwv _ _ _ hP hD hS (lv_sub hl [1, 2, 3, 4, 5, 6, 7, 0] rfl)
      exact loop39 ((10 - 0) + 1) 0 0 0 (-1) pd wb pw mo1 f1 sh (Nat.lt_succ_self _) (Nat.zero_le _) hpv hwv _ _ _ hP hD hS (lv_sub hl [4, 5, 6, 3, 2, 1, 0] rfl)
set_option maxHeartbeats 4000000 in
set_option maxRecDepth 100000 in
theorem g_X10_offer3 (l : Launch) (g : he_G) (x0 : Nat) (y0 : Nat) (z0 : Nat) (dr : Nat) (pa : Nat) (s0 : Nat) (im : Nat) (tr : Nat) (v0 : Nat) (rf : Nat) (ta : Int32) (to_ : Int32) (ki : Int32) (p0 : Nat) (p1 : Nat) (p2 : Nat) (p3 : Nat) (p4 : Nat) (w : Nat) (sd : Nat → Int32) (fn : Nat → Int32) (st : Nat → Int32) (me : Nat → Int32) (a0 : Nat) (b0 : Nat) (e0 : Nat) (h0 : Nat) (q0 : Nat) (q1 : Nat) (mo : Int32) (f : Nat → Int32) (r0 : Nat) (r1 : Nat) (mo1 : Int32) (f1 : Nat → Int32) (sh : Nat → Int32) (n : Nat) (pf : Nat → Option Nat) (t0 : Nat) (t1 : Nat) (t2 : Nat) (pw : Int32) (pd : Nat → Int32) (wb : Nat → Int32) (hw6 : w ≤ 6) (hn1 : 1 ≤ n) (hn2 : n ≤ 60) (hpf : pf 6 = some t0) (hpv : (∃ ck, ck ≤ 99 ∧ pd 3 = nI ck)) (hwv : (∀ k, k < 36 → -1 ≤ wb k)) : he_I l yX10_offer wsX10_offer 7 154 0 0 g [.ref x0, .int (nI n), .int 3] [(oX10 x0 y0 ta z0 p0 dr pa to_ s0 im ki tr v0 rf), (oX4 tr r0 r1 mo1), (aI g r0 24 f1), (aI g r1 6 sh), (oX6 p0 p1 p2 p3 p4 (nI w)), (aI g p1 24 sd), (aI g p2 10 fn), (aI g p3 6 st), (aI g p4 6 me), (aP g pa 7 pf), (oX5 t0 t1 t2 pw), (aI g t1 6 pd), (aI g t2 36 wb), (oX8 s0 h0 a0 b0 e0), (oX4 h0 q0 q1 mo), (aI g q0 24 f)] (fun (r : Int32) (u : (Nat → Int32) × (Nat → Int32) × Int32 × Int32 × (Nat → Int32) × (Nat → Int32)) => (∃ ck, ck ≤ 99 ∧ u.1 3 = nI ck) ∧ ((∀ k, k < 36 → -1 ≤ u.2.1 k))) (fun (u : (Nat → Int32) × (Nat → Int32) × Int32 × Int32 × (Nat → Int32) × (Nat → Int32)) => [(oX10 x0 y0 ta z0 p0 dr pa to_ s0 im ki tr v0 rf), (oX4 tr r0 r1 u.2.2.2.1), (aI g r0 24 u.2.2.2.2.1), (aI g r1 6 u.2.2.2.2.2), (oX6 p0 p1 p2 p3 p4 (nI w)), (aI g p1 24 sd), (aI g p2 10 fn), (aI g p3 6 st), (aI g p4 6 me), (aP g pa 7 pf), (oX5 t0 t1 t2 u.2.2.1), (aI g t1 6 u.1), (aI g t2 36 u.2.1), (oX8 s0 h0 a0 b0 e0), (oX4 h0 q0 q1 mo), (aI g q0 24 f)]) := by
  refine he_begin (l := l) (g := g) (y := yX10_offer) (wl := wsX10_offer) (fr := 7) (lo := 154) (mc := 0) (ms := 0) (av := [.ref x0, .int (nI n), .int 3]) (ws := [(oX10 x0 y0 ta z0 p0 dr pa to_ s0 im ki tr v0 rf), (oX4 tr r0 r1 mo1), (aI g r0 24 f1), (aI g r1 6 sh), (oX6 p0 p1 p2 p3 p4 (nI w)), (aI g p1 24 sd), (aI g p2 10 fn), (aI g p3 6 st), (aI g p4 6 me), (aP g pa 7 pf), (oX5 t0 t1 t2 pw), (aI g t1 6 pd), (aI g t2 36 wb), (oX8 s0 h0 a0 b0 e0), (oX4 h0 q0 q1 mo), (aI g q0 24 f)]) (cc := cX10_offer) (maxL := 9) (ret := (some .int)) (fun A => va_Qi (fun (r : Int32) (u : (Nat → Int32) × (Nat → Int32) × Int32 × Int32 × (Nat → Int32) × (Nat → Int32)) => (∃ ck, ck ≤ 99 ∧ u.1 3 = nI ck) ∧ ((∀ k, k < 36 → -1 ≤ u.2.1 k))) (fun u t => he_post g A ((fun (u : (Nat → Int32) × (Nat → Int32) × Int32 × Int32 × (Nat → Int32) × (Nat → Int32)) => [(oX10 x0 y0 ta z0 p0 dr pa to_ s0 im ki tr v0 rf), (oX4 tr r0 r1 u.2.2.2.1), (aI g r0 24 u.2.2.2.2.1), (aI g r1 6 u.2.2.2.2.2), (oX6 p0 p1 p2 p3 p4 (nI w)), (aI g p1 24 sd), (aI g p2 10 fn), (aI g p3 6 st), (aI g p4 6 me), (aP g pa 7 pf), (oX5 t0 t1 t2 u.2.2.1), (aI g t1 6 u.1), (aI g t2 36 u.2.1), (oX8 s0 h0 a0 b0 e0), (oX4 h0 q0 q1 mo), (aI g q0 24 f)]) u) t) A) (by decide) rfl (Nat.le_of_ble_eq_true rfl) ?_
  intro p e s m args below meth c A ls H locs Q hQ hB
  obtain ⟨hx, hb, hr, hml, hown, hts, hlk, hin, hP, hK, hD, hS, hA, hE, hl⟩ := hB
  have hl : lv_has ls 9 [(0, .ref x0), (1, .int (nI n)), (2, .int 3)] := hl
  have f32 := hts (.fieldLink RX10 32 "HiredEnemy" "pacts" "[LHiredEnemy$Pact;") (iwoX10_offer (k := 0) rfl)
  have inX10 : ∀ w ∈ wsX100, w ∈ wsX10_offer := innX10_offer_X10
  have f23 := hts (.fieldLink RX10 23 "HiredEnemy" "plan" "LHiredEnemy$Plan;") (iwoX10_offer (k := 1) rfl)
  refine lv_aload_n hx hb dX10_offer_0 rfl (lv_at hl 0 rfl) ?_
  refine lv_iload_n hx hb dX10_offer_1 rfl (lv_at hl 1 rfl) ?_
  refine lv_iconst (v := 1) hx hb dX10_offer_2 (by decide) ?_
  refine lv_bipush (v := 60) hx hb dX10_offer_3 (by decide) ?_
  refine he_ci (wc := []) (wr := [(oX10 x0 y0 ta z0 p0 dr pa to_ s0 im ki tr v0 rf), (oX4 tr r0 r1 mo1), (aI g r0 24 f1), (aI g r1 6 sh), (oX6 p0 p1 p2 p3 p4 (nI w)), (aI g p1 24 sd), (aI g p2 10 fn), (aI g p3 6 st), (aI g p4 6 me), (aP g pa 7 pf), (oX5 t0 t1 t2 pw), (aI g t1 6 pd), (aI g t2 36 wb), (oX8 s0 h0 a0 b0 e0), (oX4 h0 q0 q1 mo), (aI g q0 24 f)]) (va_runS (As := [.int (nI n), .int 1, .int 60]) (rest := [.ref x0]) ⟨hx, hb, hml, hown, hts⟩ (c_X10_within l g (nI n) 1 60 H.size) (va_cwS 3 hts gX10_offer_X10_within rfl rfl rfl (by decide +kernel) ⟨Nat.le_of_ble_eq_true rfl, Nat.le_of_ble_eq_true rfl⟩) (he_preS (wc := []) hK hP hD hS hA hE [] rfl rfl) rfl rfl hl.1 rfl (lv_room (Nat.le_of_ble_eq_true rfl)) dX10_offer_5 ⟨(Nat.le_of_ble_eq_true rfl), (Nat.le_of_ble_eq_true rfl)⟩) hP hD hS hA [] [0, 1, 2, 3, 4, 5, 6, 7, 8, 9, 10, 11, 12, 13, 14, 15] rfl rfl rfl (by decide) (fun r_1 u_2 H locs h_3 hP hD hS => ?_)
  subst h_3
  have hP : va_P g.1 vwCl [(oX10 x0 y0 ta z0 p0 dr pa to_ s0 im ki tr v0 rf), (oX4 tr r0 r1 mo1), (aI g r0 24 f1), (aI g r1 6 sh), (oX6 p0 p1 p2 p3 p4 (nI w)), (aI g p1 24 sd), (aI g p2 10 fn), (aI g p3 6 st), (aI g p4 6 me), (aP g pa 7 pf), (oX5 t0 t1 t2 pw), (aI g t1 6 pd), (aI g t2 36 wb), (oX8 s0 h0 a0 b0 e0), (oX4 h0 q0 q1 mo), (aI g q0 24 f)] H := hP
  have hD : va_D A [(oX10 x0 y0 ta z0 p0 dr pa to_ s0 im ki tr v0 rf), (oX4 tr r0 r1 mo1), (aI g r0 24 f1), (aI g r1 6 sh), (oX6 p0 p1 p2 p3 p4 (nI w)), (aI g p1 24 sd), (aI g p2 10 fn), (aI g p3 6 st), (aI g p4 6 me), (aP g pa 7 pf), (oX5 t0 t1 t2 pw), (aI g t1 6 pd), (aI g t2 36 wb), (oX8 s0 h0 a0 b0 e0), (oX4 h0 q0 q1 mo), (aI g q0 24 f)] := hD
  refine he_top (1) (he_within_in (a0 := 1) (B := 60) rfl rfl (by omega) (by omega) (by decide)) ?_
  refine lv_if_eq (tgt := 24) hx hb dX10_offer_8 (by decide) (fun c_4 => ?_) (fun c_4 => ?_)
  · exact absurd c_4 (by decide)
  · refine lv_iload_n hx hb dX10_offer_11 rfl (lv_at hl 2 rfl) ?_
    refine lv_iconst (v := 0) hx hb dX10_offer_12 (by decide) ?_
    refine lv_iconst (v := 3) hx hb dX10_offer_13 (by decide) ?_
    refine he_ci (wc := []) (wr := [(oX10 x0 y0 ta z0 p0 dr pa to_ s0 im ki tr v0 rf), (oX4 tr r0 r1 mo1), (aI g r0 24 f1), (aI g r1 6 sh), (oX6 p0 p1 p2 p3 p4 (nI w)), (aI g p1 24 sd), (aI g p2 10 fn), (aI g p3 6 st), (aI g p4 6 me), (aP g pa 7 pf), (oX5 t0 t1 t2 pw), (aI g t1 6 pd), (aI g t2 36 wb), (oX8 s0 h0 a0 b0 e0), (oX4 h0 q0 q1 mo), (aI g q0 24 f)]) (va_runS (As := [.int 3, .int 0, .int 3]) (rest := [.ref x0]) ⟨hx, hb, hml, hown, hts⟩ (c_X10_within l g 3 0 3 H.size) (va_cwS 3 hts gX10_offer_X10_within rfl rfl rfl (by decide +kernel) ⟨Nat.le_of_ble_eq_true rfl, Nat.le_of_ble_eq_true rfl⟩) (he_preS (wc := []) hK hP hD hS hA hE [] rfl rfl) rfl rfl hl.1 rfl (lv_room (Nat.le_of_ble_eq_true rfl)) dX10_offer_14 ⟨(Nat.le_of_ble_eq_true rfl), (Nat.le_of_ble_eq_true rfl)⟩) hP hD hS hA [] [0, 1, 2, 3, 4, 5, 6, 7, 8, 9, 10, 11, 12, 13, 14, 15] rfl rfl rfl (by decide) (fun r_5 u_6 H locs h_7 hP hD hS => ?_)
    subst h_7
    have hP : va_P g.1 vwCl [(oX10 x0 y0 ta z0 p0 dr pa to_ s0 im ki tr v0 rf), (oX4 tr r0 r1 mo1), (aI g r0 24 f1), (aI g r1 6 sh), (oX6 p0 p1 p2 p3 p4 (nI w)), (aI g p1 24 sd), (aI g p2 10 fn), (aI g p3 6 st), (aI g p4 6 me), (aP g pa 7 pf), (oX5 t0 t1 t2 pw), (aI g t1 6 pd), (aI g t2 36 wb), (oX8 s0 h0 a0 b0 e0), (oX4 h0 q0 q1 mo), (aI g q0 24 f)] H := hP
    have hD : va_D A [(oX10 x0 y0 ta z0 p0 dr pa to_ s0 im ki tr v0 rf), (oX4 tr r0 r1 mo1), (aI g r0 24 f1), (aI g r1 6 sh), (oX6 p0 p1 p2 p3 p4 (nI w)), (aI g p1 24 sd), (aI g p2 10 fn), (aI g p3 6 st), (aI g p4 6 me), (aP g pa 7 pf), (oX5 t0 t1 t2 pw), (aI g t1 6 pd), (aI g t2 36 wb), (oX8 s0 h0 a0 b0 e0), (oX4 h0 q0 q1 mo), (aI g q0 24 f)] := hD
    refine he_top (1) (by decide) ?_
    refine lv_if_eq (tgt := 24) hx hb dX10_offer_17 (by decide) (fun c_8 => ?_) (fun c_8 => ?_)
    · exact absurd c_8 (by decide)
    · refine lv_iconst (v := 1) hx hb dX10_offer_20 (by decide) ?_
      refine lv_goto (tgt := 25) hx hb dX10_offer_21 (by decide) ?_
      refine he_cv (wc := []) (wr := [(oX10 x0 y0 ta z0 p0 dr pa to_ s0 im ki tr v0 rf), (oX4 tr r0 r1 mo1), (aI g r0 24 f1), (aI g r1 6 sh), (oX6 p0 p1 p2 p3 p4 (nI w)), (aI g p1 24 sd), (aI g p2 10 fn), (aI g p3 6 st), (aI g p4 6 me), (aP g pa 7 pf), (oX5 t0 t1 t2 pw), (aI g t1 6 pd), (aI g t2 36 wb), (oX8 s0 h0 a0 b0 e0), (oX4 h0 q0 q1 mo), (aI g q0 24 f)]) (va_runV (As := [.int 1]) (rest := []) ⟨hx, hb, hml, hown, hts⟩ (c_X10_demand1 l g x0 H.size) (cwV 1 hts gX10_offer_X10_demand rfl rfl rfl (by decide +kernel) ⟨Nat.le_of_ble_eq_true rfl, Nat.le_of_ble_eq_true rfl⟩) (he_preV (wc := []) hK hP hD hS hA hE [] rfl rfl 0 rfl rfl) rfl rfl hl.1 rfl (lv_room (Nat.le_of_ble_eq_true rfl)) dX10_offer_25 ⟨(Nat.le_of_ble_eq_true rfl), (Nat.le_of_ble_eq_true rfl)⟩) hP hD hS hA [] [0, 1, 2, 3, 4, 5, 6, 7, 8, 9, 10, 11, 12, 13, 14, 15] rfl rfl rfl (by decide) (fun u_10 H locs h_11 hP hD hS => ?_)
      have hP : va_P g.1 vwCl [(oX10 x0 y0 ta z0 p0 dr pa to_ s0 im ki tr v0 rf), (oX4 tr r0 r1 mo1), (aI g r0 24 f1), (aI g r1 6 sh), (oX6 p0 p1 p2 p3 p4 (nI w)), (aI g p1 24 sd), (aI g p2 10 fn), (aI g p3 6 st), (aI g p4 6 me), (aP g pa 7 pf), (oX5 t0 t1 t2 pw), (aI g t1 6 pd), (aI g t2 36 wb), (oX8 s0 h0 a0 b0 e0), (oX4 h0 q0 q1 mo), (aI g q0 24 f)] H := hP
      have hD : va_D A [(oX10 x0 y0 ta z0 p0 dr pa to_ s0 im ki tr v0 rf), (oX4 tr r0 r1 mo1), (aI g r0 24 f1), (aI g r1 6 sh), (oX6 p0 p1 p2 p3 p4 (nI w)), (aI g p1 24 sd), (aI g p2 10 fn), (aI g p3 6 st), (aI g p4 6 me), (aP g pa 7 pf), (oX5 t0 t1 t2 pw), (aI g t1 6 pd), (aI g t2 36 wb), (oX8 s0 h0 a0 b0 e0), (oX4 h0 q0 q1 mo), (aI g q0 24 f)] := hD
      refine lv_iconst (v := 0) hx hb dX10_offer_28 (by decide) ?_
      refine lv_istore_n (lv' := [(3, .int 0), (0, .ref x0), (1, .int (nI n)), (2, .int 3)]) hx hb dX10_offer_29 rfl hl (by decide) rfl (fun ls hl => ?_)
      refine lv_iconst (v := 0) hx hb dX10_offer_30 (by decide) ?_
      refine lv_istore (lv' := [(4, .int 0), (3, .int 0), (0, .ref x0), (1, .int (nI n)), (2, .int 3)]) hx hb dX10_offer_31 hl (by decide) rfl (fun ls hl => ?_)
      refine lv_iconst (v := (-1)) hx hb dX10_offer_33 (by decide) ?_
      refine lv_istore (lv' := [(5, .int (-1)), (4, .int 0), (3, .int 0), (0, .ref x0), (1, .int (nI n)), (2, .int 3)]) hx hb dX10_offer_34 hl (by decide) rfl (fun ls hl => ?_)
      refine lv_iconst (v := 0) hx hb dX10_offer_36 (by decide) ?_
      refine lv_istore (lv' := [(6, .int 0), (5, .int (-1)), (4, .int 0), (3, .int 0), (0, .ref x0), (1, .int (nI n)), (2, .int 3)]) hx hb dX10_offer_37 hl (by decide) rfl (fun ls hl => ?_)
      have loop39 : ∀ (n9 : Nat) (r : Nat) (bn : Int32) (bc : Int32) (bm : Int32) (pv : Nat → Int32) (wv : Nat → Int32) (pz : Int32) (mj : Int32) (F : Nat → Int32) (G : Nat → Int32), 10 - r < n9 → (r ≤ 10) → ((∃ ck, ck ≤ 99 ∧ pv 3 = nI ck)) → (∀ k, k < 36 → -1 ≤ wv k) → ∀ (H : Heap) (locs : List Loc) (ls : Array Slot), va_P g.1 vwCl [(oX10 x0 y0 ta z0 p0 dr pa to_ s0 im ki tr v0 rf), (oX4 tr r0 r1 mj), (aI g r0 24 F), (aI g r1 6 G), (oX6 p0 p1 p2 p3 p4 (nI w)), (aI g p1 24 sd), (aI g p2 10 fn), (aI g p3 6 st), (aI g p4 6 me), (aP g pa 7 pf), (oX5 t0 t1 t2 pz), (aI g t1 6 pv), (aI g t2 36 wv), (oX8 s0 h0 a0 b0 e0), (oX4 h0 q0 q1 mo), (aI g q0 24 f)] H → va_D A [(oX10 x0 y0 ta z0 p0 dr pa to_ s0 im ki tr v0 rf), (oX4 tr r0 r1 mj), (aI g r0 24 F), (aI g r1 6 G), (oX6 p0 p1 p2 p3 p4 (nI w)), (aI g p1 24 sd), (aI g p2 10 fn), (aI g p3 6 st), (aI g p4 6 me), (aP g pa 7 pf), (oX5 t0 t1 t2 pz), (aI g t1 6 pv), (aI g t2 36 wv), (oX8 s0 h0 a0 b0 e0), (oX4 h0 q0 q1 mo), (aI g q0 24 f)] → va_S A s.heap H locs → lv_has ls 9 [(0, .ref x0), (1, .int (nI n)), (2, .int 3), (3, .int bn), (4, .int bc), (5, .int bm), (6, .int (nI r))] → W p l e (he_room 7 154 0 0) s m args below meth c H locs 0 0 Q (F0 m 39 ls []) := by
        intro n9
        induction n9 with
        | zero => intro r bn bc bm pv wv pz mj F G hm9; exact absurd hm9 (Nat.not_lt_zero _)
        | succ n9 ih39 =>
          intro r bn bc bm pv wv pz mj F G hm9 hr10 hpv hwv H locs ls hP hD hS hl
          refine lv_iload hx hb dX10_offer_39 (lv_at hl 6 rfl) ?_
          refine lv_bipush (v := 9) hx hb dX10_offer_41 (by decide) ?_
          refine lv_icmp_gt (tgt := 121) hx hb dX10_offer_43 (by decide) (fun c_12 => ?_) (fun c_12 => ?_)
          · have k_13 : 9 < r := (he_clt (a := 9) (b := r) (by decide) rfl (by omega) (by omega)).mp c_12
            refine lv_iload_n hx hb dX10_offer_121 rfl (lv_at hl 2 rfl) ?_
            refine lv_tableOut (tgt := 164) hx hb dX10_offer_122 (by decide) (by decide) ?_
            refine lv_iload hx hb dX10_offer_164 (lv_at hl 5 rfl) ?_
            exact he_ri hQ hx hb hr hlk hP hD hS dX10_offer_166 (Nat.le_of_ble_eq_true rfl) (Nat.le_of_ble_eq_true rfl) ((pv, wv, pz, mj, F, G)) (rfl) (⟨hpv, hwv⟩)
          · have k_14 : ¬ (9 < r) := fun h9 => c_12 ((he_clt (a := 9) (b := r) (by decide) rfl (by omega) (by omega)).mpr h9)
            refine lv_iconst (v := 0) hx hb dX10_offer_46 (by decide) ?_
            refine lv_istore (lv' := [(7, .int 0), (0, .ref x0), (1, .int (nI n)), (2, .int 3), (3, .int bn), (4, .int bc), (5, .int bm), (6, .int (nI r))]) hx hb dX10_offer_47 hl (by decide) rfl (fun ls hl => ?_)
            have loop49 : ∀ (n9 : Nat) (c9 : Nat) (bn : Int32) (bc : Int32) (bm : Int32) (pv : Nat → Int32) (wv : Nat → Int32) (pz : Int32) (mj : Int32) (F : Nat → Int32) (G : Nat → Int32), 21 - c9 < n9 → (c9 ≤ 21) → ((∃ ck, ck ≤ 99 ∧ pv 3 = nI ck)) → (∀ k, k < 36 → -1 ≤ wv k) → ∀ (H : Heap) (locs : List Loc) (ls : Array Slot), va_P g.1 vwCl [(oX10 x0 y0 ta z0 p0 dr pa to_ s0 im ki tr v0 rf), (oX4 tr r0 r1 mj), (aI g r0 24 F), (aI g r1 6 G), (oX6 p0 p1 p2 p3 p4 (nI w)), (aI g p1 24 sd), (aI g p2 10 fn), (aI g p3 6 st), (aI g p4 6 me), (aP g pa 7 pf), (oX5 t0 t1 t2 pz), (aI g t1 6 pv), (aI g t2 36 wv), (oX8 s0 h0 a0 b0 e0), (oX4 h0 q0 q1 mo), (aI g q0 24 f)] H → va_D A [(oX10 x0 y0 ta z0 p0 dr pa to_ s0 im ki tr v0 rf), (oX4 tr r0 r1 mj), (aI g r0 24 F), (aI g r1 6 G), (oX6 p0 p1 p2 p3 p4 (nI w)), (aI g p1 24 sd), (aI g p2 10 fn), (aI g p3 6 st), (aI g p4 6 me), (aP g pa 7 pf), (oX5 t0 t1 t2 pz), (aI g t1 6 pv), (aI g t2 36 wv), (oX8 s0 h0 a0 b0 e0), (oX4 h0 q0 q1 mo), (aI g q0 24 f)] → va_S A s.heap H locs → lv_has ls 9 [(0, .ref x0), (1, .int (nI n)), (2, .int 3), (3, .int bn), (4, .int bc), (5, .int bm), (6, .int (nI r)), (7, .int (nI c9))] → W p l e (he_room 7 154 0 0) s m args below meth c H locs 0 0 Q (F0 m 49 ls []) := by
              intro n9
              induction n9 with
              | zero => intro c9 bn bc bm pv wv pz mj F G hm9; exact absurd hm9 (Nat.not_lt_zero _)
              | succ n9 ih49 =>
                intro c9 bn bc bm pv wv pz mj F G hm9 hc hpv hwv H locs ls hP hD hS hl
                refine lv_iload hx hb dX10_offer_49 (lv_at hl 7 rfl) ?_
                refine lv_bipush (v := 20) hx hb dX10_offer_51 (by decide) ?_
                refine lv_icmp_gt (tgt := 115) hx hb dX10_offer_53 (by decide) (fun c_15 => ?_) (fun c_15 => ?_)
                · have k_16 : 20 < c9 := (he_clt (a := 20) (b := c9) (by decide) rfl (by omega) (by omega)).mp c_15
                  refine lv_iinc (v := nI (r + 1)) (lv' := [(6, .int (nI (r + 1))), (0, .ref x0), (1, .int (nI n)), (2, .int 3), (3, .int bn), (4, .int bc), (5, .int bm), (7, .int (nI c9))]) hx hb dX10_offer_115 hl (k := 6) rfl (nI_1 r) (by decide) rfl (fun ls hl => ?_)
                  refine lv_goto (tgt := 39) hx hb dX10_offer_118 (by decide) ?_
                  exact ih39 (r + 1) bn bc bm pv wv pz mj F G (by omega) (by omega) hpv hwv _ _ _ hP hD hS (lv_sub hl [1, 2, 3, 4, 5, 6, 0] rfl)
                · have k_17 : ¬ (20 < c9) := fun h9 => c_15 ((he_clt (a := 20) (b := c9) (by decide) rfl (by omega) (by omega)).mpr h9)
                  refine lv_aload_n hx hb dX10_offer_56 rfl (lv_at hl 0 rfl) ?_
                  refine va_get (v := .ref pa) (T := TX10) (N := 13) hx hb hts inX10 hown hK hP 0 rfl rfl 5 (by decide) f32 (fun _ h9 => h9) rfl dX10_offer_57 ?_
                  refine lv_bipush (v := 6) hx hb dX10_offer_60 (by decide) ?_
                  refine he_ald hx hb 2 rfl hK hP 9 rfl (6) (by decide) (by decide) (by first | decide | assumption) (.ref t0) (by rw [hpf]; rfl) dX10_offer_62 ?_
                  refine lv_aload_n hx hb dX10_offer_63 rfl (lv_at hl 0 rfl) ?_
                  refine va_get (v := .ref p0) (T := TX10) (N := 13) hx hb hts inX10 hown hK hP 0 rfl rfl 3 (by decide) f23 (fun _ h9 => h9) rfl dX10_offer_64 ?_
                  refine lv_iload hx hb dX10_offer_67 (lv_at hl 6 rfl) ?_
                  refine lv_iload hx hb dX10_offer_69 (lv_at hl 7 rfl) ?_
                  refine he_ci (wc := [(oX6 p0 p1 p2 p3 p4 (nI w)), (aI g p1 24 sd)]) (wr := [(oX10 x0 y0 ta z0 p0 dr pa to_ s0 im ki tr v0 rf), (oX4 tr r0 r1 mj), (aI g r0 24 F), (aI g r1 6 G), (aI g p2 10 fn), (aI g p3 6 st), (aI g p4 6 me), (aP g pa 7 pf), (oX5 t0 t1 t2 pz), (aI g t1 6 pv), (aI g t2 36 wv), (oX8 s0 h0 a0 b0 e0), (oX4 h0 q0 q1 mo), (aI g q0 24 f)]) (va_runV (As := [.int (nI r), .int (nI c9)]) (rest := [.ref t0]) ⟨hx, hb, hml, hown, hts⟩ (c_X6_wanted l g p0 p1 p2 p3 p4 (nI w) sd (nI r) (nI c9) H.size) (cwV 2 hts gX10_offer_X6_wanted rfl rfl rfl (by decide +kernel) ⟨Nat.le_of_ble_eq_true rfl, Nat.le_of_ble_eq_true rfl⟩) (he_preV (wc := [(oX6 p0 p1 p2 p3 p4 (nI w)), (aI g p1 24 sd)]) hK hP hD hS hA hE [4, 5] rfl rfl 4 rfl rfl) rfl rfl hl.1 rfl (lv_room (Nat.le_of_ble_eq_true rfl)) dX10_offer_71 ⟨(Nat.le_of_ble_eq_true rfl), (Nat.le_of_ble_eq_true rfl)⟩) hP hD hS hA [4, 5] [0, 1, 2, 3, 6, 7, 8, 9, 10, 11, 12, 13, 14, 15] rfl rfl rfl (by decide) (fun r_18 u_19 H locs h_20 hP hD hS => ?_)
                  subst h_20
                  have hP : va_P g.1 vwCl [(oX10 x0 y0 ta z0 p0 dr pa to_ s0 im ki tr v0 rf), (oX4 tr r0 r1 mj), (aI g r0 24 F), (aI g r1 6 G), (aI g p2 10 fn), (aI g p3 6 st), (aI g p4 6 me), (aP g pa 7 pf), (oX5 t0 t1 t2 pz), (aI g t1 6 pv), (aI g t2 36 wv), (oX8 s0 h0 a0 b0 e0), (oX4 h0 q0 q1 mo), (aI g q0 24 f), (oX6 p0 p1 p2 p3 p4 (nI w)), (aI g p1 24 sd)] H := hP
                  have hD : va_D A [(oX10 x0 y0 ta z0 p0 dr pa to_ s0 im ki tr v0 rf), (oX4 tr r0 r1 mj), (aI g r0 24 F), (aI g r1 6 G), (aI g p2 10 fn), (aI g p3 6 st), (aI g p4 6 me), (aP g pa 7 pf), (oX5 t0 t1 t2 pz), (aI g t1 6 pv), (aI g t2 36 wv), (oX8 s0 h0 a0 b0 e0), (oX4 h0 q0 q1 mo), (aI g q0 24 f), (oX6 p0 p1 p2 p3 p4 (nI w)), (aI g p1 24 sd)] := hD
                  refine lv_iload hx hb dX10_offer_74 (lv_at hl 6 rfl) ?_
                  refine lv_iload hx hb dX10_offer_76 (lv_at hl 7 rfl) ?_
                  refine lv_iload_n hx hb dX10_offer_78 rfl (lv_at hl 1 rfl) ?_
                  refine he_cv (wc := [(oX5 t0 t1 t2 pz), (aI g t1 6 pv), (aI g t2 36 wv)]) (wr := [(oX10 x0 y0 ta z0 p0 dr pa to_ s0 im ki tr v0 rf), (oX4 tr r0 r1 mj), (aI g r0 24 F), (aI g r1 6 G), (aI g p2 10 fn), (aI g p3 6 st), (aI g p4 6 me), (aP g pa 7 pf), (oX8 s0 h0 a0 b0 e0), (oX4 h0 q0 q1 mo), (aI g q0 24 f), (oX6 p0 p1 p2 p3 p4 (nI w)), (aI g p1 24 sd)]) (va_runV (As := [.int (wantF sd (nI r) (nI c9)), .int (nI r), .int (nI c9), .int (nI n)]) (rest := []) ⟨hx, hb, hml, hown, hts⟩ (c_X5_propose l g t0 t1 t2 pz pv wv (wantF sd (nI r) (nI c9)) (nI r) (nI c9) (nI n) H.size) (cwV 4 hts gX10_offer_X5_propose rfl rfl rfl (by decide +kernel) ⟨Nat.le_of_ble_eq_true rfl, Nat.le_of_ble_eq_true rfl⟩) (he_preV (wc := [(oX5 t0 t1 t2 pz), (aI g t1 6 pv), (aI g t2 36 wv)]) hK hP hD hS hA hE [8, 9, 10] rfl rfl 8 rfl rfl) rfl rfl hl.1 rfl (lv_room (Nat.le_of_ble_eq_true rfl)) dX10_offer_79 ⟨(Nat.le_of_ble_eq_true rfl), (Nat.le_of_ble_eq_true rfl)⟩) hP hD hS hA [8, 9, 10] [0, 1, 2, 3, 4, 5, 6, 7, 11, 12, 13, 14, 15] rfl rfl rfl (by decide) (fun u_22 H locs h_23 hP hD hS => ?_)
                  have hP : va_P g.1 vwCl [(oX10 x0 y0 ta z0 p0 dr pa to_ s0 im ki tr v0 rf), (oX4 tr r0 r1 mj), (aI g r0 24 F), (aI g r1 6 G), (aI g p2 10 fn), (aI g p3 6 st), (aI g p4 6 me), (aP g pa 7 pf), (oX8 s0 h0 a0 b0 e0), (oX4 h0 q0 q1 mo), (aI g q0 24 f), (oX6 p0 p1 p2 p3 p4 (nI w)), (aI g p1 24 sd), (oX5 t0 t1 t2 0), (aI g t1 6 (prP pv (wantF sd (nI r) (nI c9)) (nI r) (nI c9) (nI n))), (aI g t2 36 (flF (fun _ => -1) wv 36))] H := hP
                  have hD : va_D A [(oX10 x0 y0 ta z0 p0 dr pa to_ s0 im ki tr v0 rf), (oX4 tr r0 r1 mj), (aI g r0 24 F), (aI g r1 6 G), (aI g p2 10 fn), (aI g p3 6 st), (aI g p4 6 me), (aP g pa 7 pf), (oX8 s0 h0 a0 b0 e0), (oX4 h0 q0 q1 mo), (aI g q0 24 f), (oX6 p0 p1 p2 p3 p4 (nI w)), (aI g p1 24 sd), (oX5 t0 t1 t2 0), (aI g t1 6 (prP pv (wantF sd (nI r) (nI c9)) (nI r) (nI c9) (nI n))), (aI g t2 36 (flF (fun _ => -1) wv 36))] := hD
                  refine lv_aload_n hx hb dX10_offer_82 rfl (lv_at hl 0 rfl) ?_
                  refine lv_bipush (v := 6) hx hb dX10_offer_83 (by decide) ?_
                  refine lv_iload_n hx hb dX10_offer_85 rfl (lv_at hl 1 rfl) ?_
                  refine he_ci (wc := [(oX10 x0 y0 ta z0 p0 dr pa to_ s0 im ki tr v0 rf), (oX4 tr r0 r1 mj), (aI g r0 24 F), (aI g r1 6 G), (oX6 p0 p1 p2 p3 p4 (nI w)), (aI g p1 24 sd), (aI g p2 10 fn), (aI g p3 6 st), (aI g p4 6 me), (aP g pa 7 pf), (oX5 t0 t1 t2 0), (aI g t1 6 (prP pv (wantF sd (nI r) (nI c9)) (nI r) (nI c9) (nI n))), (aI g t2 36 (flF (fun _ => -1) wv 36)), (oX8 s0 h0 a0 b0 e0), (oX4 h0 q0 q1 mo), (aI g q0 24 f)]) (wr := []) (va_runV (As := [.int 6, .int (nI n)]) (rest := []) ⟨hx, hb, hml, hown, hts⟩ (g_X10_trySigned l g x0 y0 z0 dr pa s0 im tr v0 rf ta to_ ki p0 p1 p2 p3 p4 w sd fn st me a0 b0 e0 h0 q0 q1 mo f r0 r1 mj F G n pf t0 t1 t2 0 (prP pv (wantF sd (nI r) (nI c9)) (nI r) (nI c9) (nI n)) (flF (fun _ => -1) wv 36) c9 6 (by first | assumption | decide | omega) (fl_m1 _) (prP_3 _ _ _ _ _) (by omega) (by decide) hpf hn2 H.size) (cwV 2 hts gX10_offer_X10_trySigned rfl rfl rfl (by decide +kernel) ⟨Nat.le_of_ble_eq_true rfl, Nat.le_of_ble_eq_true rfl⟩) (he_preV (wc := [(oX10 x0 y0 ta z0 p0 dr pa to_ s0 im ki tr v0 rf), (oX4 tr r0 r1 mj), (aI g r0 24 F), (aI g r1 6 G), (oX6 p0 p1 p2 p3 p4 (nI w)), (aI g p1 24 sd), (aI g p2 10 fn), (aI g p3 6 st), (aI g p4 6 me), (aP g pa 7 pf), (oX5 t0 t1 t2 0), (aI g t1 6 (prP pv (wantF sd (nI r) (nI c9)) (nI r) (nI c9) (nI n))), (aI g t2 36 (flF (fun _ => -1) wv 36)), (oX8 s0 h0 a0 b0 e0), (oX4 h0 q0 q1 mo), (aI g q0 24 f)]) hK hP hD hS hA hE [0, 1, 2, 3, 11, 12, 4, 5, 6, 7, 13, 14, 15, 8, 9, 10] rfl rfl 0 rfl rfl) rfl rfl hl.1 rfl (lv_room (Nat.le_of_ble_eq_true rfl)) dX10_offer_86 ⟨(Nat.le_of_ble_eq_true rfl), (Nat.le_of_ble_eq_true rfl)⟩) hP hD hS hA [0, 1, 2, 3, 11, 12, 4, 5, 6, 7, 13, 14, 15, 8, 9, 10] [] rfl rfl rfl (by decide) (fun r_24 u_25 H locs h_26 hP hD hS => ?_)
                  obtain ⟨um_27, uf_28, us_29⟩ := u_25
                  have hP : va_P g.1 vwCl [(oX10 x0 y0 ta z0 p0 dr pa to_ s0 im ki tr v0 rf), (oX4 tr r0 r1 um_27), (aI g r0 24 uf_28), (aI g r1 6 us_29), (oX6 p0 p1 p2 p3 p4 (nI w)), (aI g p1 24 sd), (aI g p2 10 fn), (aI g p3 6 st), (aI g p4 6 me), (aP g pa 7 pf), (oX5 t0 t1 t2 0), (aI g t1 6 (prP pv (wantF sd (nI r) (nI c9)) (nI r) (nI c9) (nI n))), (aI g t2 36 (flF (fun _ => -1) wv 36)), (oX8 s0 h0 a0 b0 e0), (oX4 h0 q0 q1 mo), (aI g q0 24 f)] H := hP
                  have hD : va_D A [(oX10 x0 y0 ta z0 p0 dr pa to_ s0 im ki tr v0 rf), (oX4 tr r0 r1 um_27), (aI g r0 24 uf_28), (aI g r1 6 us_29), (oX6 p0 p1 p2 p3 p4 (nI w)), (aI g p1 24 sd), (aI g p2 10 fn), (aI g p3 6 st), (aI g p4 6 me), (aP g pa 7 pf), (oX5 t0 t1 t2 0), (aI g t1 6 (prP pv (wantF sd (nI r) (nI c9)) (nI r) (nI c9) (nI n))), (aI g t2 36 (flF (fun _ => -1) wv 36)), (oX8 s0 h0 a0 b0 e0), (oX4 h0 q0 q1 mo), (aI g q0 24 f)] := hD
                  refine lv_istore (lv' := [(8, .int r_24), (0, .ref x0), (1, .int (nI n)), (2, .int 3), (3, .int bn), (4, .int bc), (5, .int bm), (6, .int (nI r)), (7, .int (nI c9))]) hx hb dX10_offer_89 hl (by decide) rfl (fun ls hl => ?_)
                  refine lv_iload hx hb dX10_offer_91 (lv_at hl 0 rfl) ?_
                  refine lv_iload hx hb dX10_offer_93 (lv_at hl 6 rfl) ?_
                  refine lv_icmp_le (tgt := 109) hx hb dX10_offer_95 (by decide) (fun c_30 => ?_) (fun c_30 => ?_)
                  · refine lv_iinc (v := nI (c9 + 1)) (lv' := [(7, .int (nI (c9 + 1))), (8, .int r_24), (0, .ref x0), (1, .int (nI n)), (2, .int 3), (3, .int bn), (4, .int bc), (5, .int bm), (6, .int (nI r))]) hx hb dX10_offer_109 hl (k := 8) rfl (nI_1 c9) (by decide) rfl (fun ls hl => ?_)
                    refine lv_goto (tgt := 49) hx hb dX10_offer_112 (by decide) ?_
                    exact ih49 (c9 + 1) bn bc bm (prP pv (wantF sd (nI r) (nI c9)) (nI r) (nI c9) (nI n)) (flF (fun _ => -1) wv 36) 0 um_27 uf_28 us_29 (by omega) (by omega) ⟨c9, by omega, prP_3 _ _ _ _ _⟩ (fl_m1 _) _ _ _ hP hD hS (lv_sub hl [2, 3, 4, 5, 6, 7, 8, 0] rfl)
                  · refine lv_iload hx hb dX10_offer_98 (lv_at hl 0 rfl) ?_
                    refine lv_istore (lv' := [(5, .int r_24), (8, .int r_24), (0, .ref x0), (1, .int (nI n)), (2, .int 3), (3, .int bn), (4, .int bc), (6, .int (nI r)), (7, .int (nI c9))]) hx hb dX10_offer_100 hl (by decide) rfl (fun ls hl => ?_)
                    refine lv_iload hx hb dX10_offer_102 (lv_at hl 7 rfl) ?_
                    refine lv_istore_n (lv' := [(3, .int (nI r)), (5, .int r_24), (8, .int r_24), (0, .ref x0), (1, .int (nI n)), (2, .int 3), (4, .int bc), (6, .int (nI r)), (7, .int (nI c9))]) hx hb dX10_offer_104 rfl hl (by decide) rfl (fun ls hl => ?_)
                    refine lv_iload hx hb dX10_offer_105 (lv_at hl 8 rfl) ?_
                    refine lv_istore (lv' := [(4, .int (nI c9)), (3, .int (nI r)), (5, .int r_24), (8, .int r_24), (0, .ref x0), (1, .int (nI n)), (2, .int 3), (6, .int (nI r)), (7, .int (nI c9))]) hx hb dX10_offer_107 hl (by decide) rfl (fun ls hl => ?_)
                    refine lv_iinc (v := nI (c9 + 1)) (lv' := [(7, .int (nI (c9 + 1))), (4, .int (nI c9)), (3, .int (nI r)), (5, .int r_24), (8, .int r_24), (0, .ref x0), (1, .int (nI n)), (2, .int 3), (6, .int (nI r))]) hx hb dX10_offer_109 hl (k := 8) rfl (nI_1 c9) (by decide) rfl (fun ls hl => ?_)
                    refine lv_goto (tgt := 49) hx hb dX10_offer_112 (by decide) ?_
                    exact ih49 (c9 + 1) (nI r) (nI c9) r_24 (prP pv (wantF sd (nI r) (nI c9)) (nI r) (nI c9) (nI n)) (flF (fun _ => -1) wv 36) 0 um_27 uf_28 us_29 (by omega) (by omega) ⟨c9, by omega, prP_3 _ _ _ _ _⟩ (fl_m1 _) _ _ _ hP hD hS (lv_sub hl [5, 6, 7, 2, 1, 3, 8, 0] rfl)
            exact loop49 ((21 - 0) + 1) 0 bn bc bm pv wv pz mj F G (Nat.lt_succ_self _) (Nat.zero_le _) hpv hwv _ _ _ hP hD hS (lv_sub hl [1, 2, 3, 4, 5, 6, 7, 0] rfl)
      exact loop39 ((10 - 0) + 1) 0 0 0 (-1) pd wb pw mo1 f1 sh (Nat.lt_succ_self _) (Nat.zero_le _) hpv hwv _ _ _ hP hD hS (lv_sub hl [4, 5, 6, 3, 2, 1, 0] rfl)
set_option maxHeartbeats 4000000 in
set_option maxRecDepth 100000 in
theorem g_X10_odds (l : Launch) (g : he_G) (x0 : Nat) (y0 : Nat) (z0 : Nat) (p0 : Nat) (dr : Nat) (pa : Nat) (s0 : Nat) (im : Nat) (tr : Nat) (v0 : Nat) (rf : Nat) (ta : Int32) (to_ : Int32) (ki : Int32) (h0 : Nat) (a0 : Nat) (e0 : Nat) (b0 : Nat) (b1 : Nat) (b2 : Nat) (x : Int32) (y : Int32) (rl : Int64) (hd : Int64) (th : Int32) (i1 : Int32) (i2 : Int32) (hok0 : ¬ he_within i1 1 99 = 0) (hok1 : ¬ he_within i2 1 99 = 0) : he_V l yX10_odds wsX10_odds 2 42 0 0 g [.ref x0, .int i1, .int i2] [(oX10 x0 y0 ta z0 p0 dr pa to_ s0 im ki tr v0 rf), (oX8 s0 h0 a0 b0 e0), (oX2 b0 b1 b2 x y rl hd th)] (fun (u : Unit) => True) (fun (u : Unit) => [(oX10 x0 y0 ta z0 p0 dr pa to_ s0 im ki tr v0 rf), (oX8 s0 h0 a0 b0 e0), (oX2 b0 b1 b2 i1 i2 (Int32.toInt64 i1) (Int32.toInt64 i2) 0)]) := by
  refine he_begin (l := l) (g := g) (y := yX10_odds) (wl := wsX10_odds) (fr := 2) (lo := 42) (mc := 0) (ms := 0) (av := [.ref x0, .int i1, .int i2]) (ws := [(oX10 x0 y0 ta z0 p0 dr pa to_ s0 im ki tr v0 rf), (oX8 s0 h0 a0 b0 e0), (oX2 b0 b1 b2 x y rl hd th)]) (cc := cX10_odds) (maxL := 3) (ret := none) (fun A => va_Qv (fun (u : Unit) => True) (fun u t => he_post g A ((fun (u : Unit) => [(oX10 x0 y0 ta z0 p0 dr pa to_ s0 im ki tr v0 rf), (oX8 s0 h0 a0 b0 e0), (oX2 b0 b1 b2 i1 i2 (Int32.toInt64 i1) (Int32.toInt64 i2) 0)]) u) t) A) (by decide) rfl (Nat.le_of_ble_eq_true rfl) ?_
  intro p e s m args below meth c A ls H locs Q hQ hB
  obtain ⟨hx, hb, hr, hml, hown, hts, hlk, hin, hP, hK, hD, hS, hA, hE, hl⟩ := hB
  have hl : lv_has ls 3 [(0, .ref x0), (1, .int i1), (2, .int i2)] := hl
  have f39 := hts (.fieldLink RX10 39 "HiredEnemy" "scene" "LHiredEnemy$Scene;") (iwoX10_odds (k := 0) rfl)
  have inX10 : ∀ w ∈ wsX100, w ∈ wsX10_odds := innX10_odds_X10
  have f189 := hts (.fieldLink RX10 189 "HiredEnemy$Scene" "belief" "LHiredEnemy$Belief;") (iwoX10_odds (k := 1) rfl)
  have inX8 : ∀ w ∈ wsX80, w ∈ wsX10_odds := innX10_odds_X8
  refine lv_aload_n hx hb dX10_odds_0 rfl (lv_at hl 0 rfl) ?_
  refine lv_iload_n hx hb dX10_odds_1 rfl (lv_at hl 1 rfl) ?_
  refine lv_iconst (v := 1) hx hb dX10_odds_2 (by decide) ?_
  refine lv_bipush (v := 99) hx hb dX10_odds_3 (by decide) ?_
  refine he_ci (wc := []) (wr := [(oX10 x0 y0 ta z0 p0 dr pa to_ s0 im ki tr v0 rf), (oX8 s0 h0 a0 b0 e0), (oX2 b0 b1 b2 x y rl hd th)]) (va_runS (As := [.int i1, .int 1, .int 99]) (rest := [.ref x0]) ⟨hx, hb, hml, hown, hts⟩ (c_X10_within l g i1 1 99 H.size) (va_cwS 3 hts gX10_odds_X10_within rfl rfl rfl (by decide +kernel) ⟨Nat.le_of_ble_eq_true rfl, Nat.le_of_ble_eq_true rfl⟩) (he_preS (wc := []) hK hP hD hS hA hE [] rfl rfl) rfl rfl hl.1 rfl (lv_room (Nat.le_of_ble_eq_true rfl)) dX10_odds_5 ⟨(Nat.le_of_ble_eq_true rfl), (Nat.le_of_ble_eq_true rfl)⟩) hP hD hS hA [] [0, 1, 2] rfl rfl rfl (by decide) (fun r_1 u_2 H locs h_3 hP hD hS => ?_)
  subst h_3
  have hP : va_P g.1 vwCl [(oX10 x0 y0 ta z0 p0 dr pa to_ s0 im ki tr v0 rf), (oX8 s0 h0 a0 b0 e0), (oX2 b0 b1 b2 x y rl hd th)] H := hP
  have hD : va_D A [(oX10 x0 y0 ta z0 p0 dr pa to_ s0 im ki tr v0 rf), (oX8 s0 h0 a0 b0 e0), (oX2 b0 b1 b2 x y rl hd th)] := hD
  refine he_top (1) (he_within_1 hok0) ?_
  refine lv_if_eq (tgt := 25) hx hb dX10_odds_8 (by decide) (fun c_4 => ?_) (fun c_4 => ?_)
  · exact absurd c_4 (by decide)
  · refine lv_iload_n hx hb dX10_odds_11 rfl (lv_at hl 2 rfl) ?_
    refine lv_iconst (v := 1) hx hb dX10_odds_12 (by decide) ?_
    refine lv_bipush (v := 99) hx hb dX10_odds_13 (by decide) ?_
    refine he_ci (wc := []) (wr := [(oX10 x0 y0 ta z0 p0 dr pa to_ s0 im ki tr v0 rf), (oX8 s0 h0 a0 b0 e0), (oX2 b0 b1 b2 x y rl hd th)]) (va_runS (As := [.int i2, .int 1, .int 99]) (rest := [.ref x0]) ⟨hx, hb, hml, hown, hts⟩ (c_X10_within l g i2 1 99 H.size) (va_cwS 3 hts gX10_odds_X10_within rfl rfl rfl (by decide +kernel) ⟨Nat.le_of_ble_eq_true rfl, Nat.le_of_ble_eq_true rfl⟩) (he_preS (wc := []) hK hP hD hS hA hE [] rfl rfl) rfl rfl hl.1 rfl (lv_room (Nat.le_of_ble_eq_true rfl)) dX10_odds_15 ⟨(Nat.le_of_ble_eq_true rfl), (Nat.le_of_ble_eq_true rfl)⟩) hP hD hS hA [] [0, 1, 2] rfl rfl rfl (by decide) (fun r_5 u_6 H locs h_7 hP hD hS => ?_)
    subst h_7
    have hP : va_P g.1 vwCl [(oX10 x0 y0 ta z0 p0 dr pa to_ s0 im ki tr v0 rf), (oX8 s0 h0 a0 b0 e0), (oX2 b0 b1 b2 x y rl hd th)] H := hP
    have hD : va_D A [(oX10 x0 y0 ta z0 p0 dr pa to_ s0 im ki tr v0 rf), (oX8 s0 h0 a0 b0 e0), (oX2 b0 b1 b2 x y rl hd th)] := hD
    refine he_top (1) (he_within_1 hok1) ?_
    refine lv_if_eq (tgt := 25) hx hb dX10_odds_18 (by decide) (fun c_8 => ?_) (fun c_8 => ?_)
    · exact absurd c_8 (by decide)
    · refine lv_iconst (v := 1) hx hb dX10_odds_21 (by decide) ?_
      refine lv_goto (tgt := 26) hx hb dX10_odds_22 (by decide) ?_
      refine he_cv (wc := []) (wr := [(oX10 x0 y0 ta z0 p0 dr pa to_ s0 im ki tr v0 rf), (oX8 s0 h0 a0 b0 e0), (oX2 b0 b1 b2 x y rl hd th)]) (va_runV (As := [.int 1]) (rest := []) ⟨hx, hb, hml, hown, hts⟩ (c_X10_demand1 l g x0 H.size) (cwV 1 hts gX10_odds_X10_demand rfl rfl rfl (by decide +kernel) ⟨Nat.le_of_ble_eq_true rfl, Nat.le_of_ble_eq_true rfl⟩) (he_preV (wc := []) hK hP hD hS hA hE [] rfl rfl 0 rfl rfl) rfl rfl hl.1 rfl (lv_room (Nat.le_of_ble_eq_true rfl)) dX10_odds_26 ⟨(Nat.le_of_ble_eq_true rfl), (Nat.le_of_ble_eq_true rfl)⟩) hP hD hS hA [] [0, 1, 2] rfl rfl rfl (by decide) (fun u_10 H locs h_11 hP hD hS => ?_)
      have hP : va_P g.1 vwCl [(oX10 x0 y0 ta z0 p0 dr pa to_ s0 im ki tr v0 rf), (oX8 s0 h0 a0 b0 e0), (oX2 b0 b1 b2 x y rl hd th)] H := hP
      have hD : va_D A [(oX10 x0 y0 ta z0 p0 dr pa to_ s0 im ki tr v0 rf), (oX8 s0 h0 a0 b0 e0), (oX2 b0 b1 b2 x y rl hd th)] := hD
      refine lv_aload_n hx hb dX10_odds_29 rfl (lv_at hl 0 rfl) ?_
      refine va_get (v := .ref s0) (T := TX10) (N := 13) hx hb hts inX10 hown hK hP 0 rfl rfl 7 (by decide) f39 (fun _ h9 => h9) rfl dX10_odds_30 ?_
      refine va_get (v := .ref b0) (T := TX8) (N := 4) hx hb hts inX8 hown hK hP 1 rfl rfl 2 (by decide) f189 (fun _ h9 => h9) rfl dX10_odds_33 ?_
      refine lv_iload_n hx hb dX10_odds_36 rfl (lv_at hl 1 rfl) ?_
      refine lv_iload_n hx hb dX10_odds_37 rfl (lv_at hl 2 rfl) ?_
      refine he_cv (wc := [(oX2 b0 b1 b2 x y rl hd th)]) (wr := [(oX10 x0 y0 ta z0 p0 dr pa to_ s0 im ki tr v0 rf), (oX8 s0 h0 a0 b0 e0)]) (va_runV (As := [.int i1, .int i2]) (rest := []) ⟨hx, hb, hml, hown, hts⟩ (c_X2_start l g b0 b1 b2 x y rl hd th i1 i2 H.size) (cwV 2 hts gX10_odds_X2_start rfl rfl rfl (by decide +kernel) ⟨Nat.le_of_ble_eq_true rfl, Nat.le_of_ble_eq_true rfl⟩) (he_preV (wc := [(oX2 b0 b1 b2 x y rl hd th)]) hK hP hD hS hA hE [2] rfl rfl 2 rfl rfl) rfl rfl hl.1 rfl (lv_room (Nat.le_of_ble_eq_true rfl)) dX10_odds_38 ⟨(Nat.le_of_ble_eq_true rfl), (Nat.le_of_ble_eq_true rfl)⟩) hP hD hS hA [2] [0, 1] rfl rfl rfl (by decide) (fun u_13 H locs h_14 hP hD hS => ?_)
      have hP : va_P g.1 vwCl [(oX10 x0 y0 ta z0 p0 dr pa to_ s0 im ki tr v0 rf), (oX8 s0 h0 a0 b0 e0), (oX2 b0 b1 b2 i1 i2 (Int32.toInt64 i1) (Int32.toInt64 i2) 0)] H := hP
      have hD : va_D A [(oX10 x0 y0 ta z0 p0 dr pa to_ s0 im ki tr v0 rf), (oX8 s0 h0 a0 b0 e0), (oX2 b0 b1 b2 i1 i2 (Int32.toInt64 i1) (Int32.toInt64 i2) 0)] := hD
      exact he_rv hQ hx hb hr hlk hP hD hS dX10_odds_41 (Nat.le_of_ble_eq_true rfl) (Nat.le_of_ble_eq_true rfl) (()) (rfl) (trivial)
set_option maxHeartbeats 4000000 in
set_option maxRecDepth 100000 in
theorem g_X10_kind (l : Launch) (g : he_G) (x0 : Nat) (y0 : Nat) (z0 : Nat) (p0 : Nat) (dr : Nat) (pa : Nat) (s0 : Nat) (im : Nat) (tr : Nat) (v0 : Nat) (rf : Nat) (ta : Int32) (to_ : Int32) (ki : Int32) (h0 : Nat) (a0 : Nat) (e0 : Nat) (b0 : Nat) (b1 : Nat) (b2 : Nat) (x : Int32) (y : Int32) (rl : Int64) (hd : Int64) (th : Int32) (fr : Nat → Int32) (fh : Nat → Int32) (i1 : Int32) (i2 : Int32) (i3 : Int32) (hok0 : ¬ he_within i1 0 3 = 0) (hok1 : ¬ he_within i2 1 16 = 0) (hok2 : ¬ he_within i3 1 16 = 0) : he_V l yX10_kind wsX10_kind 1 22 0 0 g [.ref x0, .int i1, .int i2, .int i3] [(oX10 x0 y0 ta z0 p0 dr pa to_ s0 im ki tr v0 rf), (oX8 s0 h0 a0 b0 e0), (oX2 b0 b1 b2 x y rl hd th), (aI g b1 4 fr), (aI g b2 4 fh)] (fun (u : Unit) => True) (fun (u : Unit) => [(oX10 x0 y0 ta z0 p0 dr pa to_ s0 im ki tr v0 rf), (oX8 s0 h0 a0 b0 e0), (oX2 b0 b1 b2 x y rl hd th), (aI g b1 4 (upd fr i1.toNatClampNeg i2)), (aI g b2 4 (upd fh i1.toNatClampNeg i3))]) := by
  refine he_begin (l := l) (g := g) (y := yX10_kind) (wl := wsX10_kind) (fr := 1) (lo := 22) (mc := 0) (ms := 0) (av := [.ref x0, .int i1, .int i2, .int i3]) (ws := [(oX10 x0 y0 ta z0 p0 dr pa to_ s0 im ki tr v0 rf), (oX8 s0 h0 a0 b0 e0), (oX2 b0 b1 b2 x y rl hd th), (aI g b1 4 fr), (aI g b2 4 fh)]) (cc := cX10_kind) (maxL := 4) (ret := none) (fun A => va_Qv (fun (u : Unit) => True) (fun u t => he_post g A ((fun (u : Unit) => [(oX10 x0 y0 ta z0 p0 dr pa to_ s0 im ki tr v0 rf), (oX8 s0 h0 a0 b0 e0), (oX2 b0 b1 b2 x y rl hd th), (aI g b1 4 (upd fr i1.toNatClampNeg i2)), (aI g b2 4 (upd fh i1.toNatClampNeg i3))]) u) t) A) (by decide) rfl (Nat.le_of_ble_eq_true rfl) ?_
  intro p e s m args below meth c A ls H locs Q hQ hB
  obtain ⟨hx, hb, hr, hml, hown, hts, hlk, hin, hP, hK, hD, hS, hA, hE, hl⟩ := hB
  have hl : lv_has ls 4 [(0, .ref x0), (1, .int i1), (2, .int i2), (3, .int i3)] := hl
  have f39 := hts (.fieldLink RX10 39 "HiredEnemy" "scene" "LHiredEnemy$Scene;") (iwoX10_kind (k := 0) rfl)
  have inX10 : ∀ w ∈ wsX100, w ∈ wsX10_kind := innX10_kind_X10
  have f189 := hts (.fieldLink RX10 189 "HiredEnemy$Scene" "belief" "LHiredEnemy$Belief;") (iwoX10_kind (k := 1) rfl)
  have inX8 : ∀ w ∈ wsX80, w ∈ wsX10_kind := innX10_kind_X8
  have f199 := hts (.fieldLink RX10 199 "HiredEnemy$Belief" "ifReal" "[I") (iwoX10_kind (k := 2) rfl)
  have inX2 : ∀ w ∈ wsX20, w ∈ wsX10_kind := innX10_kind_X2
  have f202 := hts (.fieldLink RX10 202 "HiredEnemy$Belief" "ifHired" "[I") (iwoX10_kind (k := 3) rfl)
  refine lv_aload_n hx hb dX10_kind_0 rfl (lv_at hl 0 rfl) ?_
  refine lv_iload_n hx hb dX10_kind_1 rfl (lv_at hl 1 rfl) ?_
  refine lv_iconst (v := 0) hx hb dX10_kind_2 (by decide) ?_
  refine lv_iconst (v := 3) hx hb dX10_kind_3 (by decide) ?_
  refine he_ci (wc := []) (wr := [(oX10 x0 y0 ta z0 p0 dr pa to_ s0 im ki tr v0 rf), (oX8 s0 h0 a0 b0 e0), (oX2 b0 b1 b2 x y rl hd th), (aI g b1 4 fr), (aI g b2 4 fh)]) (va_runS (As := [.int i1, .int 0, .int 3]) (rest := [.ref x0]) ⟨hx, hb, hml, hown, hts⟩ (c_X10_within l g i1 0 3 H.size) (va_cwS 3 hts gX10_kind_X10_within rfl rfl rfl (by decide +kernel) ⟨Nat.le_of_ble_eq_true rfl, Nat.le_of_ble_eq_true rfl⟩) (he_preS (wc := []) hK hP hD hS hA hE [] rfl rfl) rfl rfl hl.1 rfl (lv_room (Nat.le_of_ble_eq_true rfl)) dX10_kind_4 ⟨(Nat.le_of_ble_eq_true rfl), (Nat.le_of_ble_eq_true rfl)⟩) hP hD hS hA [] [0, 1, 2, 3, 4] rfl rfl rfl (by decide) (fun r_1 u_2 H locs h_3 hP hD hS => ?_)
  subst h_3
  have hP : va_P g.1 vwCl [(oX10 x0 y0 ta z0 p0 dr pa to_ s0 im ki tr v0 rf), (oX8 s0 h0 a0 b0 e0), (oX2 b0 b1 b2 x y rl hd th), (aI g b1 4 fr), (aI g b2 4 fh)] H := hP
  have hD : va_D A [(oX10 x0 y0 ta z0 p0 dr pa to_ s0 im ki tr v0 rf), (oX8 s0 h0 a0 b0 e0), (oX2 b0 b1 b2 x y rl hd th), (aI g b1 4 fr), (aI g b2 4 fh)] := hD
  refine he_top (1) (he_within_1 hok0) ?_
  refine lv_if_eq (tgt := 34) hx hb dX10_kind_7 (by decide) (fun c_4 => ?_) (fun c_4 => ?_)
  · exact absurd c_4 (by decide)
  · refine lv_iload_n hx hb dX10_kind_10 rfl (lv_at hl 2 rfl) ?_
    refine lv_iconst (v := 1) hx hb dX10_kind_11 (by decide) ?_
    refine lv_bipush (v := 16) hx hb dX10_kind_12 (by decide) ?_
    refine he_ci (wc := []) (wr := [(oX10 x0 y0 ta z0 p0 dr pa to_ s0 im ki tr v0 rf), (oX8 s0 h0 a0 b0 e0), (oX2 b0 b1 b2 x y rl hd th), (aI g b1 4 fr), (aI g b2 4 fh)]) (va_runS (As := [.int i2, .int 1, .int 16]) (rest := [.ref x0]) ⟨hx, hb, hml, hown, hts⟩ (c_X10_within l g i2 1 16 H.size) (va_cwS 3 hts gX10_kind_X10_within rfl rfl rfl (by decide +kernel) ⟨Nat.le_of_ble_eq_true rfl, Nat.le_of_ble_eq_true rfl⟩) (he_preS (wc := []) hK hP hD hS hA hE [] rfl rfl) rfl rfl hl.1 rfl (lv_room (Nat.le_of_ble_eq_true rfl)) dX10_kind_14 ⟨(Nat.le_of_ble_eq_true rfl), (Nat.le_of_ble_eq_true rfl)⟩) hP hD hS hA [] [0, 1, 2, 3, 4] rfl rfl rfl (by decide) (fun r_5 u_6 H locs h_7 hP hD hS => ?_)
    subst h_7
    have hP : va_P g.1 vwCl [(oX10 x0 y0 ta z0 p0 dr pa to_ s0 im ki tr v0 rf), (oX8 s0 h0 a0 b0 e0), (oX2 b0 b1 b2 x y rl hd th), (aI g b1 4 fr), (aI g b2 4 fh)] H := hP
    have hD : va_D A [(oX10 x0 y0 ta z0 p0 dr pa to_ s0 im ki tr v0 rf), (oX8 s0 h0 a0 b0 e0), (oX2 b0 b1 b2 x y rl hd th), (aI g b1 4 fr), (aI g b2 4 fh)] := hD
    refine he_top (1) (he_within_1 hok1) ?_
    refine lv_if_eq (tgt := 34) hx hb dX10_kind_17 (by decide) (fun c_8 => ?_) (fun c_8 => ?_)
    · exact absurd c_8 (by decide)
    · refine lv_iload_n hx hb dX10_kind_20 rfl (lv_at hl 3 rfl) ?_
      refine lv_iconst (v := 1) hx hb dX10_kind_21 (by decide) ?_
      refine lv_bipush (v := 16) hx hb dX10_kind_22 (by decide) ?_
      refine he_ci (wc := []) (wr := [(oX10 x0 y0 ta z0 p0 dr pa to_ s0 im ki tr v0 rf), (oX8 s0 h0 a0 b0 e0), (oX2 b0 b1 b2 x y rl hd th), (aI g b1 4 fr), (aI g b2 4 fh)]) (va_runS (As := [.int i3, .int 1, .int 16]) (rest := [.ref x0]) ⟨hx, hb, hml, hown, hts⟩ (c_X10_within l g i3 1 16 H.size) (va_cwS 3 hts gX10_kind_X10_within rfl rfl rfl (by decide +kernel) ⟨Nat.le_of_ble_eq_true rfl, Nat.le_of_ble_eq_true rfl⟩) (he_preS (wc := []) hK hP hD hS hA hE [] rfl rfl) rfl rfl hl.1 rfl (lv_room (Nat.le_of_ble_eq_true rfl)) dX10_kind_24 ⟨(Nat.le_of_ble_eq_true rfl), (Nat.le_of_ble_eq_true rfl)⟩) hP hD hS hA [] [0, 1, 2, 3, 4] rfl rfl rfl (by decide) (fun r_9 u_10 H locs h_11 hP hD hS => ?_)
      subst h_11
      have hP : va_P g.1 vwCl [(oX10 x0 y0 ta z0 p0 dr pa to_ s0 im ki tr v0 rf), (oX8 s0 h0 a0 b0 e0), (oX2 b0 b1 b2 x y rl hd th), (aI g b1 4 fr), (aI g b2 4 fh)] H := hP
      have hD : va_D A [(oX10 x0 y0 ta z0 p0 dr pa to_ s0 im ki tr v0 rf), (oX8 s0 h0 a0 b0 e0), (oX2 b0 b1 b2 x y rl hd th), (aI g b1 4 fr), (aI g b2 4 fh)] := hD
      refine he_top (1) (he_within_1 hok2) ?_
      refine lv_if_eq (tgt := 34) hx hb dX10_kind_27 (by decide) (fun c_12 => ?_) (fun c_12 => ?_)
      · exact absurd c_12 (by decide)
      · refine lv_iconst (v := 1) hx hb dX10_kind_30 (by decide) ?_
        refine lv_goto (tgt := 35) hx hb dX10_kind_31 (by decide) ?_
        refine he_cv (wc := []) (wr := [(oX10 x0 y0 ta z0 p0 dr pa to_ s0 im ki tr v0 rf), (oX8 s0 h0 a0 b0 e0), (oX2 b0 b1 b2 x y rl hd th), (aI g b1 4 fr), (aI g b2 4 fh)]) (va_runV (As := [.int 1]) (rest := []) ⟨hx, hb, hml, hown, hts⟩ (c_X10_demand1 l g x0 H.size) (cwV 1 hts gX10_kind_X10_demand rfl rfl rfl (by decide +kernel) ⟨Nat.le_of_ble_eq_true rfl, Nat.le_of_ble_eq_true rfl⟩) (he_preV (wc := []) hK hP hD hS hA hE [] rfl rfl 0 rfl rfl) rfl rfl hl.1 rfl (lv_room (Nat.le_of_ble_eq_true rfl)) dX10_kind_35 ⟨(Nat.le_of_ble_eq_true rfl), (Nat.le_of_ble_eq_true rfl)⟩) hP hD hS hA [] [0, 1, 2, 3, 4] rfl rfl rfl (by decide) (fun u_14 H locs h_15 hP hD hS => ?_)
        have hP : va_P g.1 vwCl [(oX10 x0 y0 ta z0 p0 dr pa to_ s0 im ki tr v0 rf), (oX8 s0 h0 a0 b0 e0), (oX2 b0 b1 b2 x y rl hd th), (aI g b1 4 fr), (aI g b2 4 fh)] H := hP
        have hD : va_D A [(oX10 x0 y0 ta z0 p0 dr pa to_ s0 im ki tr v0 rf), (oX8 s0 h0 a0 b0 e0), (oX2 b0 b1 b2 x y rl hd th), (aI g b1 4 fr), (aI g b2 4 fh)] := hD
        refine lv_aload_n hx hb dX10_kind_38 rfl (lv_at hl 0 rfl) ?_
        refine va_get (v := .ref s0) (T := TX10) (N := 13) hx hb hts inX10 hown hK hP 0 rfl rfl 7 (by decide) f39 (fun _ h9 => h9) rfl dX10_kind_39 ?_
        refine va_get (v := .ref b0) (T := TX8) (N := 4) hx hb hts inX8 hown hK hP 1 rfl rfl 2 (by decide) f189 (fun _ h9 => h9) rfl dX10_kind_42 ?_
        refine va_get (v := .ref b1) (T := TX2) (N := 7) hx hb hts inX2 hown hK hP 2 rfl rfl 0 (by decide) f199 (fun _ h9 => h9) rfl dX10_kind_45 ?_
        refine lv_iload_n hx hb dX10_kind_48 rfl (lv_at hl 1 rfl) ?_
        refine lv_iload_n hx hb dX10_kind_49 rfl (lv_at hl 2 rfl) ?_
        refine he_iast hx hb hK hP hD hS 3 rfl (i1.toNatClampNeg) (he_within_nat (B := 3) rfl (by decide) hok0).1 (Nat.lt_of_le_of_lt (he_within_nat (B := 3) rfl (by decide) hok0).2 (by decide)) (by first | decide | assumption) dX10_kind_50 (fun H locs hP hD hS => ?_)
        have hP : va_P g.1 vwCl [(oX10 x0 y0 ta z0 p0 dr pa to_ s0 im ki tr v0 rf), (oX8 s0 h0 a0 b0 e0), (oX2 b0 b1 b2 x y rl hd th), (aI g b1 4 (upd fr i1.toNatClampNeg i2)), (aI g b2 4 fh)] H := hP
        have hD : va_D A [(oX10 x0 y0 ta z0 p0 dr pa to_ s0 im ki tr v0 rf), (oX8 s0 h0 a0 b0 e0), (oX2 b0 b1 b2 x y rl hd th), (aI g b1 4 (upd fr i1.toNatClampNeg i2)), (aI g b2 4 fh)] := hD
        refine lv_aload_n hx hb dX10_kind_51 rfl (lv_at hl 0 rfl) ?_
        refine va_get (v := .ref s0) (T := TX10) (N := 13) hx hb hts inX10 hown hK hP 0 rfl rfl 7 (by decide) f39 (fun _ h9 => h9) rfl dX10_kind_52 ?_
        refine va_get (v := .ref b0) (T := TX8) (N := 4) hx hb hts inX8 hown hK hP 1 rfl rfl 2 (by decide) f189 (fun _ h9 => h9) rfl dX10_kind_55 ?_
        refine va_get (v := .ref b2) (T := TX2) (N := 7) hx hb hts inX2 hown hK hP 2 rfl rfl 1 (by decide) f202 (fun _ h9 => h9) rfl dX10_kind_58 ?_
        refine lv_iload_n hx hb dX10_kind_61 rfl (lv_at hl 1 rfl) ?_
        refine lv_iload_n hx hb dX10_kind_62 rfl (lv_at hl 3 rfl) ?_
        refine he_iast hx hb hK hP hD hS 4 rfl (i1.toNatClampNeg) (he_within_nat (B := 3) rfl (by decide) hok0).1 (Nat.lt_of_le_of_lt (he_within_nat (B := 3) rfl (by decide) hok0).2 (by decide)) (by first | decide | assumption) dX10_kind_63 (fun H locs hP hD hS => ?_)
        have hP : va_P g.1 vwCl [(oX10 x0 y0 ta z0 p0 dr pa to_ s0 im ki tr v0 rf), (oX8 s0 h0 a0 b0 e0), (oX2 b0 b1 b2 x y rl hd th), (aI g b1 4 (upd fr i1.toNatClampNeg i2)), (aI g b2 4 (upd fh i1.toNatClampNeg i3))] H := hP
        have hD : va_D A [(oX10 x0 y0 ta z0 p0 dr pa to_ s0 im ki tr v0 rf), (oX8 s0 h0 a0 b0 e0), (oX2 b0 b1 b2 x y rl hd th), (aI g b1 4 (upd fr i1.toNatClampNeg i2)), (aI g b2 4 (upd fh i1.toNatClampNeg i3))] := hD
        exact he_rv hQ hx hb hr hlk hP hD hS dX10_kind_64 (Nat.le_of_ble_eq_true rfl) (Nat.le_of_ble_eq_true rfl) (()) (rfl) (trivial)
set_option maxHeartbeats 4000000 in
set_option maxRecDepth 100000 in
theorem g_X10_seen (l : Launch) (g : he_G) (x0 : Nat) (y0 : Nat) (z0 : Nat) (p0 : Nat) (dr : Nat) (pa : Nat) (s0 : Nat) (im : Nat) (tr : Nat) (v0 : Nat) (rf : Nat) (ta : Int32) (to_ : Int32) (ki : Int32) (h0 : Nat) (a0 : Nat) (e0 : Nat) (b0 : Nat) (b1 : Nat) (b2 : Nat) (x : Int32) (y : Int32) (rl : Int64) (hd : Int64) (th : Int32) (fr : Nat → Int32) (fh : Nat → Int32) (i1 : Int32) (hok0 : ¬ he_within i1 0 3 = 0) (hth : th < 12) : he_I l yX10_seen wsX10_seen 1 22 0 0 g [.ref x0, .int i1] [(oX10 x0 y0 ta z0 p0 dr pa to_ s0 im ki tr v0 rf), (oX8 s0 h0 a0 b0 e0), (oX2 b0 b1 b2 x y rl hd th), (aI g b1 4 fr), (aI g b2 4 fh)] (fun (r : Int32) (u : Unit) => r = th + 1) (fun (u : Unit) => [(oX10 x0 y0 ta z0 p0 dr pa to_ s0 im ki tr v0 rf), (oX8 s0 h0 a0 b0 e0), (oX2 b0 b1 b2 x y (rl * Int32.toInt64 (fr i1.toNatClampNeg)) (hd * Int32.toInt64 (fh i1.toNatClampNeg)) (th + 1)), (aI g b1 4 fr), (aI g b2 4 fh)]) := by
  refine he_begin (l := l) (g := g) (y := yX10_seen) (wl := wsX10_seen) (fr := 1) (lo := 22) (mc := 0) (ms := 0) (av := [.ref x0, .int i1]) (ws := [(oX10 x0 y0 ta z0 p0 dr pa to_ s0 im ki tr v0 rf), (oX8 s0 h0 a0 b0 e0), (oX2 b0 b1 b2 x y rl hd th), (aI g b1 4 fr), (aI g b2 4 fh)]) (cc := cX10_seen) (maxL := 3) (ret := (some .int)) (fun A => va_Qi (fun (r : Int32) (u : Unit) => r = th + 1) (fun u t => he_post g A ((fun (u : Unit) => [(oX10 x0 y0 ta z0 p0 dr pa to_ s0 im ki tr v0 rf), (oX8 s0 h0 a0 b0 e0), (oX2 b0 b1 b2 x y (rl * Int32.toInt64 (fr i1.toNatClampNeg)) (hd * Int32.toInt64 (fh i1.toNatClampNeg)) (th + 1)), (aI g b1 4 fr), (aI g b2 4 fh)]) u) t) A) (by decide) rfl (Nat.le_of_ble_eq_true rfl) ?_
  intro p e s m args below meth c A ls H locs Q hQ hB
  obtain ⟨hx, hb, hr, hml, hown, hts, hlk, hin, hP, hK, hD, hS, hA, hE, hl⟩ := hB
  have hl : lv_has ls 3 [(0, .ref x0), (1, .int i1)] := hl
  have f39 := hts (.fieldLink RX10 39 "HiredEnemy" "scene" "LHiredEnemy$Scene;") (iwoX10_seen (k := 0) rfl)
  have inX10 : ∀ w ∈ wsX100, w ∈ wsX10_seen := innX10_seen_X10
  have f189 := hts (.fieldLink RX10 189 "HiredEnemy$Scene" "belief" "LHiredEnemy$Belief;") (iwoX10_seen (k := 1) rfl)
  have inX8 : ∀ w ∈ wsX80, w ∈ wsX10_seen := innX10_seen_X8
  have f199 := hts (.fieldLink RX10 199 "HiredEnemy$Belief" "ifReal" "[I") (iwoX10_seen (k := 2) rfl)
  have inX2 : ∀ w ∈ wsX20, w ∈ wsX10_seen := innX10_seen_X2
  have f202 := hts (.fieldLink RX10 202 "HiredEnemy$Belief" "ifHired" "[I") (iwoX10_seen (k := 3) rfl)
  refine lv_aload_n hx hb dX10_seen_0 rfl (lv_at hl 0 rfl) ?_
  refine lv_iload_n hx hb dX10_seen_1 rfl (lv_at hl 1 rfl) ?_
  refine lv_iconst (v := 0) hx hb dX10_seen_2 (by decide) ?_
  refine lv_iconst (v := 3) hx hb dX10_seen_3 (by decide) ?_
  refine he_ci (wc := []) (wr := [(oX10 x0 y0 ta z0 p0 dr pa to_ s0 im ki tr v0 rf), (oX8 s0 h0 a0 b0 e0), (oX2 b0 b1 b2 x y rl hd th), (aI g b1 4 fr), (aI g b2 4 fh)]) (va_runS (As := [.int i1, .int 0, .int 3]) (rest := [.ref x0]) ⟨hx, hb, hml, hown, hts⟩ (c_X10_within l g i1 0 3 H.size) (va_cwS 3 hts gX10_seen_X10_within rfl rfl rfl (by decide +kernel) ⟨Nat.le_of_ble_eq_true rfl, Nat.le_of_ble_eq_true rfl⟩) (he_preS (wc := []) hK hP hD hS hA hE [] rfl rfl) rfl rfl hl.1 rfl (lv_room (Nat.le_of_ble_eq_true rfl)) dX10_seen_4 ⟨(Nat.le_of_ble_eq_true rfl), (Nat.le_of_ble_eq_true rfl)⟩) hP hD hS hA [] [0, 1, 2, 3, 4] rfl rfl rfl (by decide) (fun r_1 u_2 H locs h_3 hP hD hS => ?_)
  subst h_3
  have hP : va_P g.1 vwCl [(oX10 x0 y0 ta z0 p0 dr pa to_ s0 im ki tr v0 rf), (oX8 s0 h0 a0 b0 e0), (oX2 b0 b1 b2 x y rl hd th), (aI g b1 4 fr), (aI g b2 4 fh)] H := hP
  have hD : va_D A [(oX10 x0 y0 ta z0 p0 dr pa to_ s0 im ki tr v0 rf), (oX8 s0 h0 a0 b0 e0), (oX2 b0 b1 b2 x y rl hd th), (aI g b1 4 fr), (aI g b2 4 fh)] := hD
  refine he_top (1) (he_within_1 hok0) ?_
  refine he_cv (wc := []) (wr := [(oX10 x0 y0 ta z0 p0 dr pa to_ s0 im ki tr v0 rf), (oX8 s0 h0 a0 b0 e0), (oX2 b0 b1 b2 x y rl hd th), (aI g b1 4 fr), (aI g b2 4 fh)]) (va_runV (As := [.int 1]) (rest := []) ⟨hx, hb, hml, hown, hts⟩ (c_X10_demand1 l g x0 H.size) (cwV 1 hts gX10_seen_X10_demand rfl rfl rfl (by decide +kernel) ⟨Nat.le_of_ble_eq_true rfl, Nat.le_of_ble_eq_true rfl⟩) (he_preV (wc := []) hK hP hD hS hA hE [] rfl rfl 0 rfl rfl) rfl rfl hl.1 rfl (lv_room (Nat.le_of_ble_eq_true rfl)) dX10_seen_7 ⟨(Nat.le_of_ble_eq_true rfl), (Nat.le_of_ble_eq_true rfl)⟩) hP hD hS hA [] [0, 1, 2, 3, 4] rfl rfl rfl (by decide) (fun u_5 H locs h_6 hP hD hS => ?_)
  have hP : va_P g.1 vwCl [(oX10 x0 y0 ta z0 p0 dr pa to_ s0 im ki tr v0 rf), (oX8 s0 h0 a0 b0 e0), (oX2 b0 b1 b2 x y rl hd th), (aI g b1 4 fr), (aI g b2 4 fh)] H := hP
  have hD : va_D A [(oX10 x0 y0 ta z0 p0 dr pa to_ s0 im ki tr v0 rf), (oX8 s0 h0 a0 b0 e0), (oX2 b0 b1 b2 x y rl hd th), (aI g b1 4 fr), (aI g b2 4 fh)] := hD
  refine lv_aload_n hx hb dX10_seen_10 rfl (lv_at hl 0 rfl) ?_
  refine va_get (v := .ref s0) (T := TX10) (N := 13) hx hb hts inX10 hown hK hP 0 rfl rfl 7 (by decide) f39 (fun _ h9 => h9) rfl dX10_seen_11 ?_
  refine va_get (v := .ref b0) (T := TX8) (N := 4) hx hb hts inX8 hown hK hP 1 rfl rfl 2 (by decide) f189 (fun _ h9 => h9) rfl dX10_seen_14 ?_
  refine lv_astore_n (lv' := [(2, .ref b0), (0, .ref x0), (1, .int i1)]) hx hb dX10_seen_17 rfl hl (by decide) rfl (fun ls hl => ?_)
  refine lv_aload_n hx hb dX10_seen_18 rfl (lv_at hl 0 rfl) ?_
  refine lv_aload_n hx hb dX10_seen_19 rfl (lv_at hl 0 rfl) ?_
  refine va_get (v := .ref b1) (T := TX2) (N := 7) hx hb hts inX2 hown hK hP 2 rfl rfl 0 (by decide) f199 (fun _ h9 => h9) rfl dX10_seen_20 ?_
  refine lv_iload_n hx hb dX10_seen_23 rfl (lv_at hl 2 rfl) ?_
  refine he_iald hx hb hK hP 3 rfl (i1.toNatClampNeg) (he_within_nat (B := 3) rfl (by decide) hok0).1 (Nat.lt_of_le_of_lt (he_within_nat (B := 3) rfl (by decide) hok0).2 (by decide)) (by first | decide | assumption) (fr i1.toNatClampNeg) rfl dX10_seen_24 ?_
  refine lv_aload_n hx hb dX10_seen_25 rfl (lv_at hl 0 rfl) ?_
  refine va_get (v := .ref b2) (T := TX2) (N := 7) hx hb hts inX2 hown hK hP 2 rfl rfl 1 (by decide) f202 (fun _ h9 => h9) rfl dX10_seen_26 ?_
  refine lv_iload_n hx hb dX10_seen_29 rfl (lv_at hl 2 rfl) ?_
  refine he_iald hx hb hK hP 4 rfl (i1.toNatClampNeg) (he_within_nat (B := 3) rfl (by decide) hok0).1 (Nat.lt_of_le_of_lt (he_within_nat (B := 3) rfl (by decide) hok0).2 (by decide)) (by first | decide | assumption) (fh i1.toNatClampNeg) rfl dX10_seen_30 ?_
  refine he_ci (wc := [(oX2 b0 b1 b2 x y rl hd th)]) (wr := [(oX10 x0 y0 ta z0 p0 dr pa to_ s0 im ki tr v0 rf), (oX8 s0 h0 a0 b0 e0), (aI g b1 4 fr), (aI g b2 4 fh)]) (va_runV (As := [.int (fr i1.toNatClampNeg), .int (fh i1.toNatClampNeg)]) (rest := []) ⟨hx, hb, hml, hown, hts⟩ (g_X2_add l g b0 b1 b2 x y rl hd th (fr i1.toNatClampNeg) (fh i1.toNatClampNeg) (by first | assumption | decide | omega) H.size) (cwV 2 hts gX10_seen_X2_add rfl rfl rfl (by decide +kernel) ⟨Nat.le_of_ble_eq_true rfl, Nat.le_of_ble_eq_true rfl⟩) (he_preV (wc := [(oX2 b0 b1 b2 x y rl hd th)]) hK hP hD hS hA hE [2] rfl rfl 2 rfl rfl) rfl rfl hl.1 rfl (lv_room (Nat.le_of_ble_eq_true rfl)) dX10_seen_31 ⟨(Nat.le_of_ble_eq_true rfl), (Nat.le_of_ble_eq_true rfl)⟩) hP hD hS hA [2] [0, 1, 3, 4] rfl rfl rfl (by decide) (fun r_7 u_8 H locs h_9 hP hD hS => ?_)
  subst h_9
  have hP : va_P g.1 vwCl [(oX10 x0 y0 ta z0 p0 dr pa to_ s0 im ki tr v0 rf), (oX8 s0 h0 a0 b0 e0), (aI g b1 4 fr), (aI g b2 4 fh), (oX2 b0 b1 b2 x y (rl * Int32.toInt64 (fr i1.toNatClampNeg)) (hd * Int32.toInt64 (fh i1.toNatClampNeg)) (th + 1))] H := hP
  have hD : va_D A [(oX10 x0 y0 ta z0 p0 dr pa to_ s0 im ki tr v0 rf), (oX8 s0 h0 a0 b0 e0), (aI g b1 4 fr), (aI g b2 4 fh), (oX2 b0 b1 b2 x y (rl * Int32.toInt64 (fr i1.toNatClampNeg)) (hd * Int32.toInt64 (fh i1.toNatClampNeg)) (th + 1))] := hD
  have hP := hP.sub (ws' := [(oX10 x0 y0 ta z0 p0 dr pa to_ s0 im ki tr v0 rf), (oX8 s0 h0 a0 b0 e0), (oX2 b0 b1 b2 x y (rl * Int32.toInt64 (fr i1.toNatClampNeg)) (hd * Int32.toInt64 (fh i1.toNatClampNeg)) (th + 1)), (aI g b1 4 fr), (aI g b2 4 fh)]) [0, 1, 4, 2, 3] rfl
  have hD := hD.sub (ws' := [(oX10 x0 y0 ta z0 p0 dr pa to_ s0 im ki tr v0 rf), (oX8 s0 h0 a0 b0 e0), (oX2 b0 b1 b2 x y (rl * Int32.toInt64 (fr i1.toNatClampNeg)) (hd * Int32.toInt64 (fh i1.toNatClampNeg)) (th + 1)), (aI g b1 4 fr), (aI g b2 4 fh)]) [0, 1, 4, 2, 3] (by decide) rfl
  exact he_ri hQ hx hb hr hlk hP hD hS dX10_seen_34 (Nat.le_of_ble_eq_true rfl) (Nat.le_of_ble_eq_true rfl) (()) (rfl) (rfl)
set_option maxHeartbeats 4000000 in
set_option maxRecDepth 100000 in
theorem g_X10_spy0 (l : Launch) (g : he_G) (x0 : Nat) (y0 : Nat) (z0 : Nat) (p0 : Nat) (dr : Nat) (pa : Nat) (s0 : Nat) (im : Nat) (tr : Nat) (v0 : Nat) (rf : Nat) (ta : Int32) (to_ : Int32) (ki : Int32) (h0 : Nat) (a0 : Nat) (e0 : Nat) (b0 : Nat) (b1 : Nat) (b2 : Nat) (x : Int32) (y : Int32) (rl : Int64) (hd : Int64) (th : Int32) (i1 : Int32) (hok0 : ¬ he_within i1 1 15 = 0) (hth : th < 12) : he_I l yX10_spy wsX10_spy 1 22 0 0 g [.ref x0, .int 0, .int i1] [(oX10 x0 y0 ta z0 p0 dr pa to_ s0 im ki tr v0 rf), (oX8 s0 h0 a0 b0 e0), (oX2 b0 b1 b2 x y rl hd th)] (fun (r : Int32) (u : Unit) => r = th + 1) (fun (u : Unit) => [(oX10 x0 y0 ta z0 p0 dr pa to_ s0 im ki tr v0 rf), (oX8 s0 h0 a0 b0 e0), (oX2 b0 b1 b2 x y (rl * Int32.toInt64 (16 - i1)) (hd * Int32.toInt64 i1) (th + 1))]) := by
  refine he_begin (l := l) (g := g) (y := yX10_spy) (wl := wsX10_spy) (fr := 1) (lo := 22) (mc := 0) (ms := 0) (av := [.ref x0, .int 0, .int i1]) (ws := [(oX10 x0 y0 ta z0 p0 dr pa to_ s0 im ki tr v0 rf), (oX8 s0 h0 a0 b0 e0), (oX2 b0 b1 b2 x y rl hd th)]) (cc := cX10_spy) (maxL := 4) (ret := (some .int)) (fun A => va_Qi (fun (r : Int32) (u : Unit) => r = th + 1) (fun u t => he_post g A ((fun (u : Unit) => [(oX10 x0 y0 ta z0 p0 dr pa to_ s0 im ki tr v0 rf), (oX8 s0 h0 a0 b0 e0), (oX2 b0 b1 b2 x y (rl * Int32.toInt64 (16 - i1)) (hd * Int32.toInt64 i1) (th + 1))]) u) t) A) (by decide) rfl (Nat.le_of_ble_eq_true rfl) ?_
  intro p e s m args below meth c A ls H locs Q hQ hB
  obtain ⟨hx, hb, hr, hml, hown, hts, hlk, hin, hP, hK, hD, hS, hA, hE, hl⟩ := hB
  have hl : lv_has ls 4 [(0, .ref x0), (1, .int 0), (2, .int i1)] := hl
  have f39 := hts (.fieldLink RX10 39 "HiredEnemy" "scene" "LHiredEnemy$Scene;") (iwoX10_spy (k := 0) rfl)
  have inX10 : ∀ w ∈ wsX100, w ∈ wsX10_spy := innX10_spy_X10
  have f189 := hts (.fieldLink RX10 189 "HiredEnemy$Scene" "belief" "LHiredEnemy$Belief;") (iwoX10_spy (k := 1) rfl)
  have inX8 : ∀ w ∈ wsX80, w ∈ wsX10_spy := innX10_spy_X8
  refine lv_aload_n hx hb dX10_spy_0 rfl (lv_at hl 0 rfl) ?_
  refine lv_iload_n hx hb dX10_spy_1 rfl (lv_at hl 2 rfl) ?_
  refine lv_iconst (v := 1) hx hb dX10_spy_2 (by decide) ?_
  refine lv_bipush (v := 15) hx hb dX10_spy_3 (by decide) ?_
  refine he_ci (wc := []) (wr := [(oX10 x0 y0 ta z0 p0 dr pa to_ s0 im ki tr v0 rf), (oX8 s0 h0 a0 b0 e0), (oX2 b0 b1 b2 x y rl hd th)]) (va_runS (As := [.int i1, .int 1, .int 15]) (rest := [.ref x0]) ⟨hx, hb, hml, hown, hts⟩ (c_X10_within l g i1 1 15 H.size) (va_cwS 3 hts gX10_spy_X10_within rfl rfl rfl (by decide +kernel) ⟨Nat.le_of_ble_eq_true rfl, Nat.le_of_ble_eq_true rfl⟩) (he_preS (wc := []) hK hP hD hS hA hE [] rfl rfl) rfl rfl hl.1 rfl (lv_room (Nat.le_of_ble_eq_true rfl)) dX10_spy_5 ⟨(Nat.le_of_ble_eq_true rfl), (Nat.le_of_ble_eq_true rfl)⟩) hP hD hS hA [] [0, 1, 2] rfl rfl rfl (by decide) (fun r_1 u_2 H locs h_3 hP hD hS => ?_)
  subst h_3
  have hP : va_P g.1 vwCl [(oX10 x0 y0 ta z0 p0 dr pa to_ s0 im ki tr v0 rf), (oX8 s0 h0 a0 b0 e0), (oX2 b0 b1 b2 x y rl hd th)] H := hP
  have hD : va_D A [(oX10 x0 y0 ta z0 p0 dr pa to_ s0 im ki tr v0 rf), (oX8 s0 h0 a0 b0 e0), (oX2 b0 b1 b2 x y rl hd th)] := hD
  refine he_top (1) (he_within_1 hok0) ?_
  refine he_cv (wc := []) (wr := [(oX10 x0 y0 ta z0 p0 dr pa to_ s0 im ki tr v0 rf), (oX8 s0 h0 a0 b0 e0), (oX2 b0 b1 b2 x y rl hd th)]) (va_runV (As := [.int 1]) (rest := []) ⟨hx, hb, hml, hown, hts⟩ (c_X10_demand1 l g x0 H.size) (cwV 1 hts gX10_spy_X10_demand rfl rfl rfl (by decide +kernel) ⟨Nat.le_of_ble_eq_true rfl, Nat.le_of_ble_eq_true rfl⟩) (he_preV (wc := []) hK hP hD hS hA hE [] rfl rfl 0 rfl rfl) rfl rfl hl.1 rfl (lv_room (Nat.le_of_ble_eq_true rfl)) dX10_spy_8 ⟨(Nat.le_of_ble_eq_true rfl), (Nat.le_of_ble_eq_true rfl)⟩) hP hD hS hA [] [0, 1, 2] rfl rfl rfl (by decide) (fun u_5 H locs h_6 hP hD hS => ?_)
  have hP : va_P g.1 vwCl [(oX10 x0 y0 ta z0 p0 dr pa to_ s0 im ki tr v0 rf), (oX8 s0 h0 a0 b0 e0), (oX2 b0 b1 b2 x y rl hd th)] H := hP
  have hD : va_D A [(oX10 x0 y0 ta z0 p0 dr pa to_ s0 im ki tr v0 rf), (oX8 s0 h0 a0 b0 e0), (oX2 b0 b1 b2 x y rl hd th)] := hD
  refine lv_bipush (v := 16) hx hb dX10_spy_11 (by decide) ?_
  refine lv_iload_n hx hb dX10_spy_13 rfl (lv_at hl 2 rfl) ?_
  refine lv_isub hx hb dX10_spy_14 ?_
  refine lv_istore_n (lv' := [(3, .int (16 - i1)), (0, .ref x0), (1, .int 0), (2, .int i1)]) hx hb dX10_spy_15 rfl hl (by decide) rfl (fun ls hl => ?_)
  refine lv_iload_n hx hb dX10_spy_16 rfl (lv_at hl 2 rfl) ?_
  refine lv_if_eq (tgt := 35) hx hb dX10_spy_17 (by decide) (fun c_7 => ?_) (fun c_7 => ?_)
  · refine lv_aload_n hx hb dX10_spy_35 rfl (lv_at hl 1 rfl) ?_
    refine va_get (v := .ref s0) (T := TX10) (N := 13) hx hb hts inX10 hown hK hP 0 rfl rfl 7 (by decide) f39 (fun _ h9 => h9) rfl dX10_spy_36 ?_
    refine va_get (v := .ref b0) (T := TX8) (N := 4) hx hb hts inX8 hown hK hP 1 rfl rfl 2 (by decide) f189 (fun _ h9 => h9) rfl dX10_spy_39 ?_
    refine lv_iload_n hx hb dX10_spy_42 rfl (lv_at hl 0 rfl) ?_
    refine lv_iload_n hx hb dX10_spy_43 rfl (lv_at hl 3 rfl) ?_
    refine he_ci (wc := [(oX2 b0 b1 b2 x y rl hd th)]) (wr := [(oX10 x0 y0 ta z0 p0 dr pa to_ s0 im ki tr v0 rf), (oX8 s0 h0 a0 b0 e0)]) (va_runV (As := [.int (16 - i1), .int i1]) (rest := []) ⟨hx, hb, hml, hown, hts⟩ (g_X2_add l g b0 b1 b2 x y rl hd th (16 - i1) i1 (by first | assumption | decide | omega) H.size) (cwV 2 hts gX10_spy_X2_add rfl rfl rfl (by decide +kernel) ⟨Nat.le_of_ble_eq_true rfl, Nat.le_of_ble_eq_true rfl⟩) (he_preV (wc := [(oX2 b0 b1 b2 x y rl hd th)]) hK hP hD hS hA hE [2] rfl rfl 2 rfl rfl) rfl rfl hl.1 rfl (lv_room (Nat.le_of_ble_eq_true rfl)) dX10_spy_44 ⟨(Nat.le_of_ble_eq_true rfl), (Nat.le_of_ble_eq_true rfl)⟩) hP hD hS hA [2] [0, 1] rfl rfl rfl (by decide) (fun r_8 u_9 H locs h_10 hP hD hS => ?_)
    subst h_10
    have hP : va_P g.1 vwCl [(oX10 x0 y0 ta z0 p0 dr pa to_ s0 im ki tr v0 rf), (oX8 s0 h0 a0 b0 e0), (oX2 b0 b1 b2 x y (rl * Int32.toInt64 (16 - i1)) (hd * Int32.toInt64 i1) (th + 1))] H := hP
    have hD : va_D A [(oX10 x0 y0 ta z0 p0 dr pa to_ s0 im ki tr v0 rf), (oX8 s0 h0 a0 b0 e0), (oX2 b0 b1 b2 x y (rl * Int32.toInt64 (16 - i1)) (hd * Int32.toInt64 i1) (th + 1))] := hD
    exact he_ri hQ hx hb hr hlk hP hD hS dX10_spy_47 (Nat.le_of_ble_eq_true rfl) (Nat.le_of_ble_eq_true rfl) (()) (rfl) (rfl)
  · exact absurd (by decide) c_7
set_option maxHeartbeats 4000000 in
set_option maxRecDepth 100000 in
theorem g_X10_spy1 (l : Launch) (g : he_G) (x0 : Nat) (y0 : Nat) (z0 : Nat) (p0 : Nat) (dr : Nat) (pa : Nat) (s0 : Nat) (im : Nat) (tr : Nat) (v0 : Nat) (rf : Nat) (ta : Int32) (to_ : Int32) (ki : Int32) (h0 : Nat) (a0 : Nat) (e0 : Nat) (b0 : Nat) (b1 : Nat) (b2 : Nat) (x : Int32) (y : Int32) (rl : Int64) (hd : Int64) (th : Int32) (i1 : Int32) (hok0 : ¬ he_within i1 1 15 = 0) (hth : th < 12) : he_I l yX10_spy wsX10_spy 1 22 0 0 g [.ref x0, .int 1, .int i1] [(oX10 x0 y0 ta z0 p0 dr pa to_ s0 im ki tr v0 rf), (oX8 s0 h0 a0 b0 e0), (oX2 b0 b1 b2 x y rl hd th)] (fun (r : Int32) (u : Unit) => r = th + 1) (fun (u : Unit) => [(oX10 x0 y0 ta z0 p0 dr pa to_ s0 im ki tr v0 rf), (oX8 s0 h0 a0 b0 e0), (oX2 b0 b1 b2 x y (rl * Int32.toInt64 i1) (hd * Int32.toInt64 (16 - i1)) (th + 1))]) := by
  refine he_begin (l := l) (g := g) (y := yX10_spy) (wl := wsX10_spy) (fr := 1) (lo := 22) (mc := 0) (ms := 0) (av := [.ref x0, .int 1, .int i1]) (ws := [(oX10 x0 y0 ta z0 p0 dr pa to_ s0 im ki tr v0 rf), (oX8 s0 h0 a0 b0 e0), (oX2 b0 b1 b2 x y rl hd th)]) (cc := cX10_spy) (maxL := 4) (ret := (some .int)) (fun A => va_Qi (fun (r : Int32) (u : Unit) => r = th + 1) (fun u t => he_post g A ((fun (u : Unit) => [(oX10 x0 y0 ta z0 p0 dr pa to_ s0 im ki tr v0 rf), (oX8 s0 h0 a0 b0 e0), (oX2 b0 b1 b2 x y (rl * Int32.toInt64 i1) (hd * Int32.toInt64 (16 - i1)) (th + 1))]) u) t) A) (by decide) rfl (Nat.le_of_ble_eq_true rfl) ?_
  intro p e s m args below meth c A ls H locs Q hQ hB
  obtain ⟨hx, hb, hr, hml, hown, hts, hlk, hin, hP, hK, hD, hS, hA, hE, hl⟩ := hB
  have hl : lv_has ls 4 [(0, .ref x0), (1, .int 1), (2, .int i1)] := hl
  have f39 := hts (.fieldLink RX10 39 "HiredEnemy" "scene" "LHiredEnemy$Scene;") (iwoX10_spy (k := 0) rfl)
  have inX10 : ∀ w ∈ wsX100, w ∈ wsX10_spy := innX10_spy_X10
  have f189 := hts (.fieldLink RX10 189 "HiredEnemy$Scene" "belief" "LHiredEnemy$Belief;") (iwoX10_spy (k := 1) rfl)
  have inX8 : ∀ w ∈ wsX80, w ∈ wsX10_spy := innX10_spy_X8
  refine lv_aload_n hx hb dX10_spy_0 rfl (lv_at hl 0 rfl) ?_
  refine lv_iload_n hx hb dX10_spy_1 rfl (lv_at hl 2 rfl) ?_
  refine lv_iconst (v := 1) hx hb dX10_spy_2 (by decide) ?_
  refine lv_bipush (v := 15) hx hb dX10_spy_3 (by decide) ?_
  refine he_ci (wc := []) (wr := [(oX10 x0 y0 ta z0 p0 dr pa to_ s0 im ki tr v0 rf), (oX8 s0 h0 a0 b0 e0), (oX2 b0 b1 b2 x y rl hd th)]) (va_runS (As := [.int i1, .int 1, .int 15]) (rest := [.ref x0]) ⟨hx, hb, hml, hown, hts⟩ (c_X10_within l g i1 1 15 H.size) (va_cwS 3 hts gX10_spy_X10_within rfl rfl rfl (by decide +kernel) ⟨Nat.le_of_ble_eq_true rfl, Nat.le_of_ble_eq_true rfl⟩) (he_preS (wc := []) hK hP hD hS hA hE [] rfl rfl) rfl rfl hl.1 rfl (lv_room (Nat.le_of_ble_eq_true rfl)) dX10_spy_5 ⟨(Nat.le_of_ble_eq_true rfl), (Nat.le_of_ble_eq_true rfl)⟩) hP hD hS hA [] [0, 1, 2] rfl rfl rfl (by decide) (fun r_1 u_2 H locs h_3 hP hD hS => ?_)
  subst h_3
  have hP : va_P g.1 vwCl [(oX10 x0 y0 ta z0 p0 dr pa to_ s0 im ki tr v0 rf), (oX8 s0 h0 a0 b0 e0), (oX2 b0 b1 b2 x y rl hd th)] H := hP
  have hD : va_D A [(oX10 x0 y0 ta z0 p0 dr pa to_ s0 im ki tr v0 rf), (oX8 s0 h0 a0 b0 e0), (oX2 b0 b1 b2 x y rl hd th)] := hD
  refine he_top (1) (he_within_1 hok0) ?_
  refine he_cv (wc := []) (wr := [(oX10 x0 y0 ta z0 p0 dr pa to_ s0 im ki tr v0 rf), (oX8 s0 h0 a0 b0 e0), (oX2 b0 b1 b2 x y rl hd th)]) (va_runV (As := [.int 1]) (rest := []) ⟨hx, hb, hml, hown, hts⟩ (c_X10_demand1 l g x0 H.size) (cwV 1 hts gX10_spy_X10_demand rfl rfl rfl (by decide +kernel) ⟨Nat.le_of_ble_eq_true rfl, Nat.le_of_ble_eq_true rfl⟩) (he_preV (wc := []) hK hP hD hS hA hE [] rfl rfl 0 rfl rfl) rfl rfl hl.1 rfl (lv_room (Nat.le_of_ble_eq_true rfl)) dX10_spy_8 ⟨(Nat.le_of_ble_eq_true rfl), (Nat.le_of_ble_eq_true rfl)⟩) hP hD hS hA [] [0, 1, 2] rfl rfl rfl (by decide) (fun u_5 H locs h_6 hP hD hS => ?_)
  have hP : va_P g.1 vwCl [(oX10 x0 y0 ta z0 p0 dr pa to_ s0 im ki tr v0 rf), (oX8 s0 h0 a0 b0 e0), (oX2 b0 b1 b2 x y rl hd th)] H := hP
  have hD : va_D A [(oX10 x0 y0 ta z0 p0 dr pa to_ s0 im ki tr v0 rf), (oX8 s0 h0 a0 b0 e0), (oX2 b0 b1 b2 x y rl hd th)] := hD
  refine lv_bipush (v := 16) hx hb dX10_spy_11 (by decide) ?_
  refine lv_iload_n hx hb dX10_spy_13 rfl (lv_at hl 2 rfl) ?_
  refine lv_isub hx hb dX10_spy_14 ?_
  refine lv_istore_n (lv' := [(3, .int (16 - i1)), (0, .ref x0), (1, .int 1), (2, .int i1)]) hx hb dX10_spy_15 rfl hl (by decide) rfl (fun ls hl => ?_)
  refine lv_iload_n hx hb dX10_spy_16 rfl (lv_at hl 2 rfl) ?_
  refine lv_if_eq (tgt := 35) hx hb dX10_spy_17 (by decide) (fun c_7 => ?_) (fun c_7 => ?_)
  · exact absurd c_7 (by decide)
  · refine lv_aload_n hx hb dX10_spy_20 rfl (lv_at hl 1 rfl) ?_
    refine va_get (v := .ref s0) (T := TX10) (N := 13) hx hb hts inX10 hown hK hP 0 rfl rfl 7 (by decide) f39 (fun _ h9 => h9) rfl dX10_spy_21 ?_
    refine va_get (v := .ref b0) (T := TX8) (N := 4) hx hb hts inX8 hown hK hP 1 rfl rfl 2 (by decide) f189 (fun _ h9 => h9) rfl dX10_spy_24 ?_
    refine lv_iload_n hx hb dX10_spy_27 rfl (lv_at hl 3 rfl) ?_
    refine lv_iload_n hx hb dX10_spy_28 rfl (lv_at hl 0 rfl) ?_
    refine he_ci (wc := [(oX2 b0 b1 b2 x y rl hd th)]) (wr := [(oX10 x0 y0 ta z0 p0 dr pa to_ s0 im ki tr v0 rf), (oX8 s0 h0 a0 b0 e0)]) (va_runV (As := [.int i1, .int (16 - i1)]) (rest := []) ⟨hx, hb, hml, hown, hts⟩ (g_X2_add l g b0 b1 b2 x y rl hd th i1 (16 - i1) (by first | assumption | decide | omega) H.size) (cwV 2 hts gX10_spy_X2_add rfl rfl rfl (by decide +kernel) ⟨Nat.le_of_ble_eq_true rfl, Nat.le_of_ble_eq_true rfl⟩) (he_preV (wc := [(oX2 b0 b1 b2 x y rl hd th)]) hK hP hD hS hA hE [2] rfl rfl 2 rfl rfl) rfl rfl hl.1 rfl (lv_room (Nat.le_of_ble_eq_true rfl)) dX10_spy_29 ⟨(Nat.le_of_ble_eq_true rfl), (Nat.le_of_ble_eq_true rfl)⟩) hP hD hS hA [2] [0, 1] rfl rfl rfl (by decide) (fun r_8 u_9 H locs h_10 hP hD hS => ?_)
    subst h_10
    have hP : va_P g.1 vwCl [(oX10 x0 y0 ta z0 p0 dr pa to_ s0 im ki tr v0 rf), (oX8 s0 h0 a0 b0 e0), (oX2 b0 b1 b2 x y (rl * Int32.toInt64 i1) (hd * Int32.toInt64 (16 - i1)) (th + 1))] H := hP
    have hD : va_D A [(oX10 x0 y0 ta z0 p0 dr pa to_ s0 im ki tr v0 rf), (oX8 s0 h0 a0 b0 e0), (oX2 b0 b1 b2 x y (rl * Int32.toInt64 i1) (hd * Int32.toInt64 (16 - i1)) (th + 1))] := hD
    refine lv_goto (tgt := 47) hx hb dX10_spy_32 (by decide) ?_
    exact he_ri hQ hx hb hr hlk hP hD hS dX10_spy_47 (Nat.le_of_ble_eq_true rfl) (Nat.le_of_ble_eq_true rfl) (()) (rfl) (rfl)
set_option maxHeartbeats 4000000 in
set_option maxRecDepth 100000 in
theorem g_X10_seenF (l : Launch) (g : he_G) (x0 : Nat) (y0 : Nat) (z0 : Nat) (p0 : Nat) (dr : Nat) (pa : Nat) (s0 : Nat) (im : Nat) (tr : Nat) (v0 : Nat) (rf : Nat) (ta : Int32) (to_ : Int32) (ki : Int32) (h0 : Nat) (a0 : Nat) (e0 : Nat) (b0 : Nat) (b1 : Nat) (b2 : Nat) (x : Int32) (y : Int32) (rl : Int64) (hd : Int64) (th : Int32) (fr : Nat → Int32) (fh : Nat → Int32) (i1 : Int32) (hok0 : ¬ he_within i1 0 3 = 0) (hth : ¬ th < 12) : he_I l yX10_seen wsX10_seen 1 22 0 0 g [.ref x0, .int i1] [(oX10 x0 y0 ta z0 p0 dr pa to_ s0 im ki tr v0 rf), (oX8 s0 h0 a0 b0 e0), (oX2 b0 b1 b2 x y rl hd th), (aI g b1 4 fr), (aI g b2 4 fh)] (fun (r : Int32) (u : Unit) => r = (-1)) (fun (u : Unit) => [(oX10 x0 y0 ta z0 p0 dr pa to_ s0 im ki tr v0 rf), (oX8 s0 h0 a0 b0 e0), (oX2 b0 b1 b2 x y rl hd th), (aI g b1 4 fr), (aI g b2 4 fh)]) := by
  refine he_begin (l := l) (g := g) (y := yX10_seen) (wl := wsX10_seen) (fr := 1) (lo := 22) (mc := 0) (ms := 0) (av := [.ref x0, .int i1]) (ws := [(oX10 x0 y0 ta z0 p0 dr pa to_ s0 im ki tr v0 rf), (oX8 s0 h0 a0 b0 e0), (oX2 b0 b1 b2 x y rl hd th), (aI g b1 4 fr), (aI g b2 4 fh)]) (cc := cX10_seen) (maxL := 3) (ret := (some .int)) (fun A => va_Qi (fun (r : Int32) (u : Unit) => r = (-1)) (fun u t => he_post g A ((fun (u : Unit) => [(oX10 x0 y0 ta z0 p0 dr pa to_ s0 im ki tr v0 rf), (oX8 s0 h0 a0 b0 e0), (oX2 b0 b1 b2 x y rl hd th), (aI g b1 4 fr), (aI g b2 4 fh)]) u) t) A) (by decide) rfl (Nat.le_of_ble_eq_true rfl) ?_
  intro p e s m args below meth c A ls H locs Q hQ hB
  obtain ⟨hx, hb, hr, hml, hown, hts, hlk, hin, hP, hK, hD, hS, hA, hE, hl⟩ := hB
  have hl : lv_has ls 3 [(0, .ref x0), (1, .int i1)] := hl
  have f39 := hts (.fieldLink RX10 39 "HiredEnemy" "scene" "LHiredEnemy$Scene;") (iwoX10_seen (k := 0) rfl)
  have inX10 : ∀ w ∈ wsX100, w ∈ wsX10_seen := innX10_seen_X10
  have f189 := hts (.fieldLink RX10 189 "HiredEnemy$Scene" "belief" "LHiredEnemy$Belief;") (iwoX10_seen (k := 1) rfl)
  have inX8 : ∀ w ∈ wsX80, w ∈ wsX10_seen := innX10_seen_X8
  have f199 := hts (.fieldLink RX10 199 "HiredEnemy$Belief" "ifReal" "[I") (iwoX10_seen (k := 2) rfl)
  have inX2 : ∀ w ∈ wsX20, w ∈ wsX10_seen := innX10_seen_X2
  have f202 := hts (.fieldLink RX10 202 "HiredEnemy$Belief" "ifHired" "[I") (iwoX10_seen (k := 3) rfl)
  refine lv_aload_n hx hb dX10_seen_0 rfl (lv_at hl 0 rfl) ?_
  refine lv_iload_n hx hb dX10_seen_1 rfl (lv_at hl 1 rfl) ?_
  refine lv_iconst (v := 0) hx hb dX10_seen_2 (by decide) ?_
  refine lv_iconst (v := 3) hx hb dX10_seen_3 (by decide) ?_
  refine he_ci (wc := []) (wr := [(oX10 x0 y0 ta z0 p0 dr pa to_ s0 im ki tr v0 rf), (oX8 s0 h0 a0 b0 e0), (oX2 b0 b1 b2 x y rl hd th), (aI g b1 4 fr), (aI g b2 4 fh)]) (va_runS (As := [.int i1, .int 0, .int 3]) (rest := [.ref x0]) ⟨hx, hb, hml, hown, hts⟩ (c_X10_within l g i1 0 3 H.size) (va_cwS 3 hts gX10_seen_X10_within rfl rfl rfl (by decide +kernel) ⟨Nat.le_of_ble_eq_true rfl, Nat.le_of_ble_eq_true rfl⟩) (he_preS (wc := []) hK hP hD hS hA hE [] rfl rfl) rfl rfl hl.1 rfl (lv_room (Nat.le_of_ble_eq_true rfl)) dX10_seen_4 ⟨(Nat.le_of_ble_eq_true rfl), (Nat.le_of_ble_eq_true rfl)⟩) hP hD hS hA [] [0, 1, 2, 3, 4] rfl rfl rfl (by decide) (fun r_1 u_2 H locs h_3 hP hD hS => ?_)
  subst h_3
  have hP : va_P g.1 vwCl [(oX10 x0 y0 ta z0 p0 dr pa to_ s0 im ki tr v0 rf), (oX8 s0 h0 a0 b0 e0), (oX2 b0 b1 b2 x y rl hd th), (aI g b1 4 fr), (aI g b2 4 fh)] H := hP
  have hD : va_D A [(oX10 x0 y0 ta z0 p0 dr pa to_ s0 im ki tr v0 rf), (oX8 s0 h0 a0 b0 e0), (oX2 b0 b1 b2 x y rl hd th), (aI g b1 4 fr), (aI g b2 4 fh)] := hD
  refine he_top (1) (he_within_1 hok0) ?_
  refine he_cv (wc := []) (wr := [(oX10 x0 y0 ta z0 p0 dr pa to_ s0 im ki tr v0 rf), (oX8 s0 h0 a0 b0 e0), (oX2 b0 b1 b2 x y rl hd th), (aI g b1 4 fr), (aI g b2 4 fh)]) (va_runV (As := [.int 1]) (rest := []) ⟨hx, hb, hml, hown, hts⟩ (c_X10_demand1 l g x0 H.size) (cwV 1 hts gX10_seen_X10_demand rfl rfl rfl (by decide +kernel) ⟨Nat.le_of_ble_eq_true rfl, Nat.le_of_ble_eq_true rfl⟩) (he_preV (wc := []) hK hP hD hS hA hE [] rfl rfl 0 rfl rfl) rfl rfl hl.1 rfl (lv_room (Nat.le_of_ble_eq_true rfl)) dX10_seen_7 ⟨(Nat.le_of_ble_eq_true rfl), (Nat.le_of_ble_eq_true rfl)⟩) hP hD hS hA [] [0, 1, 2, 3, 4] rfl rfl rfl (by decide) (fun u_5 H locs h_6 hP hD hS => ?_)
  have hP : va_P g.1 vwCl [(oX10 x0 y0 ta z0 p0 dr pa to_ s0 im ki tr v0 rf), (oX8 s0 h0 a0 b0 e0), (oX2 b0 b1 b2 x y rl hd th), (aI g b1 4 fr), (aI g b2 4 fh)] H := hP
  have hD : va_D A [(oX10 x0 y0 ta z0 p0 dr pa to_ s0 im ki tr v0 rf), (oX8 s0 h0 a0 b0 e0), (oX2 b0 b1 b2 x y rl hd th), (aI g b1 4 fr), (aI g b2 4 fh)] := hD
  refine lv_aload_n hx hb dX10_seen_10 rfl (lv_at hl 0 rfl) ?_
  refine va_get (v := .ref s0) (T := TX10) (N := 13) hx hb hts inX10 hown hK hP 0 rfl rfl 7 (by decide) f39 (fun _ h9 => h9) rfl dX10_seen_11 ?_
  refine va_get (v := .ref b0) (T := TX8) (N := 4) hx hb hts inX8 hown hK hP 1 rfl rfl 2 (by decide) f189 (fun _ h9 => h9) rfl dX10_seen_14 ?_
  refine lv_astore_n (lv' := [(2, .ref b0), (0, .ref x0), (1, .int i1)]) hx hb dX10_seen_17 rfl hl (by decide) rfl (fun ls hl => ?_)
  refine lv_aload_n hx hb dX10_seen_18 rfl (lv_at hl 0 rfl) ?_
  refine lv_aload_n hx hb dX10_seen_19 rfl (lv_at hl 0 rfl) ?_
  refine va_get (v := .ref b1) (T := TX2) (N := 7) hx hb hts inX2 hown hK hP 2 rfl rfl 0 (by decide) f199 (fun _ h9 => h9) rfl dX10_seen_20 ?_
  refine lv_iload_n hx hb dX10_seen_23 rfl (lv_at hl 2 rfl) ?_
  refine he_iald hx hb hK hP 3 rfl (i1.toNatClampNeg) (he_within_nat (B := 3) rfl (by decide) hok0).1 (Nat.lt_of_le_of_lt (he_within_nat (B := 3) rfl (by decide) hok0).2 (by decide)) (by first | decide | assumption) (fr i1.toNatClampNeg) rfl dX10_seen_24 ?_
  refine lv_aload_n hx hb dX10_seen_25 rfl (lv_at hl 0 rfl) ?_
  refine va_get (v := .ref b2) (T := TX2) (N := 7) hx hb hts inX2 hown hK hP 2 rfl rfl 1 (by decide) f202 (fun _ h9 => h9) rfl dX10_seen_26 ?_
  refine lv_iload_n hx hb dX10_seen_29 rfl (lv_at hl 2 rfl) ?_
  refine he_iald hx hb hK hP 4 rfl (i1.toNatClampNeg) (he_within_nat (B := 3) rfl (by decide) hok0).1 (Nat.lt_of_le_of_lt (he_within_nat (B := 3) rfl (by decide) hok0).2 (by decide)) (by first | decide | assumption) (fh i1.toNatClampNeg) rfl dX10_seen_30 ?_
  refine he_ci (wc := [(oX2 b0 b1 b2 x y rl hd th)]) (wr := [(oX10 x0 y0 ta z0 p0 dr pa to_ s0 im ki tr v0 rf), (oX8 s0 h0 a0 b0 e0), (aI g b1 4 fr), (aI g b2 4 fh)]) (va_runV (As := [.int (fr i1.toNatClampNeg), .int (fh i1.toNatClampNeg)]) (rest := []) ⟨hx, hb, hml, hown, hts⟩ (g_X2_addF l g b0 b1 b2 x y rl hd th (fr i1.toNatClampNeg) (fh i1.toNatClampNeg) (by first | assumption | decide | omega) H.size) (cwV 2 hts gX10_seen_X2_add rfl rfl rfl (by decide +kernel) ⟨Nat.le_of_ble_eq_true rfl, Nat.le_of_ble_eq_true rfl⟩) (he_preV (wc := [(oX2 b0 b1 b2 x y rl hd th)]) hK hP hD hS hA hE [2] rfl rfl 2 rfl rfl) rfl rfl hl.1 rfl (lv_room (Nat.le_of_ble_eq_true rfl)) dX10_seen_31 ⟨(Nat.le_of_ble_eq_true rfl), (Nat.le_of_ble_eq_true rfl)⟩) hP hD hS hA [2] [0, 1, 3, 4] rfl rfl rfl (by decide) (fun r_7 u_8 H locs h_9 hP hD hS => ?_)
  subst h_9
  have hP : va_P g.1 vwCl [(oX10 x0 y0 ta z0 p0 dr pa to_ s0 im ki tr v0 rf), (oX8 s0 h0 a0 b0 e0), (aI g b1 4 fr), (aI g b2 4 fh), (oX2 b0 b1 b2 x y rl hd th)] H := hP
  have hD : va_D A [(oX10 x0 y0 ta z0 p0 dr pa to_ s0 im ki tr v0 rf), (oX8 s0 h0 a0 b0 e0), (aI g b1 4 fr), (aI g b2 4 fh), (oX2 b0 b1 b2 x y rl hd th)] := hD
  have hP := hP.sub (ws' := [(oX10 x0 y0 ta z0 p0 dr pa to_ s0 im ki tr v0 rf), (oX8 s0 h0 a0 b0 e0), (oX2 b0 b1 b2 x y rl hd th), (aI g b1 4 fr), (aI g b2 4 fh)]) [0, 1, 4, 2, 3] rfl
  have hD := hD.sub (ws' := [(oX10 x0 y0 ta z0 p0 dr pa to_ s0 im ki tr v0 rf), (oX8 s0 h0 a0 b0 e0), (oX2 b0 b1 b2 x y rl hd th), (aI g b1 4 fr), (aI g b2 4 fh)]) [0, 1, 4, 2, 3] (by decide) rfl
  exact he_ri hQ hx hb hr hlk hP hD hS dX10_seen_34 (Nat.le_of_ble_eq_true rfl) (Nat.le_of_ble_eq_true rfl) (()) (rfl) (rfl)
set_option maxHeartbeats 4000000 in
set_option maxRecDepth 100000 in
theorem g_X10_spyF0 (l : Launch) (g : he_G) (x0 : Nat) (y0 : Nat) (z0 : Nat) (p0 : Nat) (dr : Nat) (pa : Nat) (s0 : Nat) (im : Nat) (tr : Nat) (v0 : Nat) (rf : Nat) (ta : Int32) (to_ : Int32) (ki : Int32) (h0 : Nat) (a0 : Nat) (e0 : Nat) (b0 : Nat) (b1 : Nat) (b2 : Nat) (x : Int32) (y : Int32) (rl : Int64) (hd : Int64) (th : Int32) (i1 : Int32) (hok0 : ¬ he_within i1 1 15 = 0) (hth : ¬ th < 12) : he_I l yX10_spy wsX10_spy 1 22 0 0 g [.ref x0, .int 0, .int i1] [(oX10 x0 y0 ta z0 p0 dr pa to_ s0 im ki tr v0 rf), (oX8 s0 h0 a0 b0 e0), (oX2 b0 b1 b2 x y rl hd th)] (fun (r : Int32) (u : Unit) => r = (-1)) (fun (u : Unit) => [(oX10 x0 y0 ta z0 p0 dr pa to_ s0 im ki tr v0 rf), (oX8 s0 h0 a0 b0 e0), (oX2 b0 b1 b2 x y rl hd th)]) := by
  refine he_begin (l := l) (g := g) (y := yX10_spy) (wl := wsX10_spy) (fr := 1) (lo := 22) (mc := 0) (ms := 0) (av := [.ref x0, .int 0, .int i1]) (ws := [(oX10 x0 y0 ta z0 p0 dr pa to_ s0 im ki tr v0 rf), (oX8 s0 h0 a0 b0 e0), (oX2 b0 b1 b2 x y rl hd th)]) (cc := cX10_spy) (maxL := 4) (ret := (some .int)) (fun A => va_Qi (fun (r : Int32) (u : Unit) => r = (-1)) (fun u t => he_post g A ((fun (u : Unit) => [(oX10 x0 y0 ta z0 p0 dr pa to_ s0 im ki tr v0 rf), (oX8 s0 h0 a0 b0 e0), (oX2 b0 b1 b2 x y rl hd th)]) u) t) A) (by decide) rfl (Nat.le_of_ble_eq_true rfl) ?_
  intro p e s m args below meth c A ls H locs Q hQ hB
  obtain ⟨hx, hb, hr, hml, hown, hts, hlk, hin, hP, hK, hD, hS, hA, hE, hl⟩ := hB
  have hl : lv_has ls 4 [(0, .ref x0), (1, .int 0), (2, .int i1)] := hl
  have f39 := hts (.fieldLink RX10 39 "HiredEnemy" "scene" "LHiredEnemy$Scene;") (iwoX10_spy (k := 0) rfl)
  have inX10 : ∀ w ∈ wsX100, w ∈ wsX10_spy := innX10_spy_X10
  have f189 := hts (.fieldLink RX10 189 "HiredEnemy$Scene" "belief" "LHiredEnemy$Belief;") (iwoX10_spy (k := 1) rfl)
  have inX8 : ∀ w ∈ wsX80, w ∈ wsX10_spy := innX10_spy_X8
  refine lv_aload_n hx hb dX10_spy_0 rfl (lv_at hl 0 rfl) ?_
  refine lv_iload_n hx hb dX10_spy_1 rfl (lv_at hl 2 rfl) ?_
  refine lv_iconst (v := 1) hx hb dX10_spy_2 (by decide) ?_
  refine lv_bipush (v := 15) hx hb dX10_spy_3 (by decide) ?_
  refine he_ci (wc := []) (wr := [(oX10 x0 y0 ta z0 p0 dr pa to_ s0 im ki tr v0 rf), (oX8 s0 h0 a0 b0 e0), (oX2 b0 b1 b2 x y rl hd th)]) (va_runS (As := [.int i1, .int 1, .int 15]) (rest := [.ref x0]) ⟨hx, hb, hml, hown, hts⟩ (c_X10_within l g i1 1 15 H.size) (va_cwS 3 hts gX10_spy_X10_within rfl rfl rfl (by decide +kernel) ⟨Nat.le_of_ble_eq_true rfl, Nat.le_of_ble_eq_true rfl⟩) (he_preS (wc := []) hK hP hD hS hA hE [] rfl rfl) rfl rfl hl.1 rfl (lv_room (Nat.le_of_ble_eq_true rfl)) dX10_spy_5 ⟨(Nat.le_of_ble_eq_true rfl), (Nat.le_of_ble_eq_true rfl)⟩) hP hD hS hA [] [0, 1, 2] rfl rfl rfl (by decide) (fun r_1 u_2 H locs h_3 hP hD hS => ?_)
  subst h_3
  have hP : va_P g.1 vwCl [(oX10 x0 y0 ta z0 p0 dr pa to_ s0 im ki tr v0 rf), (oX8 s0 h0 a0 b0 e0), (oX2 b0 b1 b2 x y rl hd th)] H := hP
  have hD : va_D A [(oX10 x0 y0 ta z0 p0 dr pa to_ s0 im ki tr v0 rf), (oX8 s0 h0 a0 b0 e0), (oX2 b0 b1 b2 x y rl hd th)] := hD
  refine he_top (1) (he_within_1 hok0) ?_
  refine he_cv (wc := []) (wr := [(oX10 x0 y0 ta z0 p0 dr pa to_ s0 im ki tr v0 rf), (oX8 s0 h0 a0 b0 e0), (oX2 b0 b1 b2 x y rl hd th)]) (va_runV (As := [.int 1]) (rest := []) ⟨hx, hb, hml, hown, hts⟩ (c_X10_demand1 l g x0 H.size) (cwV 1 hts gX10_spy_X10_demand rfl rfl rfl (by decide +kernel) ⟨Nat.le_of_ble_eq_true rfl, Nat.le_of_ble_eq_true rfl⟩) (he_preV (wc := []) hK hP hD hS hA hE [] rfl rfl 0 rfl rfl) rfl rfl hl.1 rfl (lv_room (Nat.le_of_ble_eq_true rfl)) dX10_spy_8 ⟨(Nat.le_of_ble_eq_true rfl), (Nat.le_of_ble_eq_true rfl)⟩) hP hD hS hA [] [0, 1, 2] rfl rfl rfl (by decide) (fun u_5 H locs h_6 hP hD hS => ?_)
  have hP : va_P g.1 vwCl [(oX10 x0 y0 ta z0 p0 dr pa to_ s0 im ki tr v0 rf), (oX8 s0 h0 a0 b0 e0), (oX2 b0 b1 b2 x y rl hd th)] H := hP
  have hD : va_D A [(oX10 x0 y0 ta z0 p0 dr pa to_ s0 im ki tr v0 rf), (oX8 s0 h0 a0 b0 e0), (oX2 b0 b1 b2 x y rl hd th)] := hD
  refine lv_bipush (v := 16) hx hb dX10_spy_11 (by decide) ?_
  refine lv_iload_n hx hb dX10_spy_13 rfl (lv_at hl 2 rfl) ?_
  refine lv_isub hx hb dX10_spy_14 ?_
  refine lv_istore_n (lv' := [(3, .int (16 - i1)), (0, .ref x0), (1, .int 0), (2, .int i1)]) hx hb dX10_spy_15 rfl hl (by decide) rfl (fun ls hl => ?_)
  refine lv_iload_n hx hb dX10_spy_16 rfl (lv_at hl 2 rfl) ?_
  refine lv_if_eq (tgt := 35) hx hb dX10_spy_17 (by decide) (fun c_7 => ?_) (fun c_7 => ?_)
  · refine lv_aload_n hx hb dX10_spy_35 rfl (lv_at hl 1 rfl) ?_
    refine va_get (v := .ref s0) (T := TX10) (N := 13) hx hb hts inX10 hown hK hP 0 rfl rfl 7 (by decide) f39 (fun _ h9 => h9) rfl dX10_spy_36 ?_
    refine va_get (v := .ref b0) (T := TX8) (N := 4) hx hb hts inX8 hown hK hP 1 rfl rfl 2 (by decide) f189 (fun _ h9 => h9) rfl dX10_spy_39 ?_
    refine lv_iload_n hx hb dX10_spy_42 rfl (lv_at hl 0 rfl) ?_
    refine lv_iload_n hx hb dX10_spy_43 rfl (lv_at hl 3 rfl) ?_
    refine he_ci (wc := [(oX2 b0 b1 b2 x y rl hd th)]) (wr := [(oX10 x0 y0 ta z0 p0 dr pa to_ s0 im ki tr v0 rf), (oX8 s0 h0 a0 b0 e0)]) (va_runV (As := [.int (16 - i1), .int i1]) (rest := []) ⟨hx, hb, hml, hown, hts⟩ (g_X2_addF l g b0 b1 b2 x y rl hd th (16 - i1) i1 (by first | assumption | decide | omega) H.size) (cwV 2 hts gX10_spy_X2_add rfl rfl rfl (by decide +kernel) ⟨Nat.le_of_ble_eq_true rfl, Nat.le_of_ble_eq_true rfl⟩) (he_preV (wc := [(oX2 b0 b1 b2 x y rl hd th)]) hK hP hD hS hA hE [2] rfl rfl 2 rfl rfl) rfl rfl hl.1 rfl (lv_room (Nat.le_of_ble_eq_true rfl)) dX10_spy_44 ⟨(Nat.le_of_ble_eq_true rfl), (Nat.le_of_ble_eq_true rfl)⟩) hP hD hS hA [2] [0, 1] rfl rfl rfl (by decide) (fun r_8 u_9 H locs h_10 hP hD hS => ?_)
    subst h_10
    have hP : va_P g.1 vwCl [(oX10 x0 y0 ta z0 p0 dr pa to_ s0 im ki tr v0 rf), (oX8 s0 h0 a0 b0 e0), (oX2 b0 b1 b2 x y rl hd th)] H := hP
    have hD : va_D A [(oX10 x0 y0 ta z0 p0 dr pa to_ s0 im ki tr v0 rf), (oX8 s0 h0 a0 b0 e0), (oX2 b0 b1 b2 x y rl hd th)] := hD
    exact he_ri hQ hx hb hr hlk hP hD hS dX10_spy_47 (Nat.le_of_ble_eq_true rfl) (Nat.le_of_ble_eq_true rfl) (()) (rfl) (rfl)
  · exact absurd (by decide) c_7
set_option maxHeartbeats 4000000 in
set_option maxRecDepth 100000 in
theorem g_X10_spyF1 (l : Launch) (g : he_G) (x0 : Nat) (y0 : Nat) (z0 : Nat) (p0 : Nat) (dr : Nat) (pa : Nat) (s0 : Nat) (im : Nat) (tr : Nat) (v0 : Nat) (rf : Nat) (ta : Int32) (to_ : Int32) (ki : Int32) (h0 : Nat) (a0 : Nat) (e0 : Nat) (b0 : Nat) (b1 : Nat) (b2 : Nat) (x : Int32) (y : Int32) (rl : Int64) (hd : Int64) (th : Int32) (i1 : Int32) (hok0 : ¬ he_within i1 1 15 = 0) (hth : ¬ th < 12) : he_I l yX10_spy wsX10_spy 1 22 0 0 g [.ref x0, .int 1, .int i1] [(oX10 x0 y0 ta z0 p0 dr pa to_ s0 im ki tr v0 rf), (oX8 s0 h0 a0 b0 e0), (oX2 b0 b1 b2 x y rl hd th)] (fun (r : Int32) (u : Unit) => r = (-1)) (fun (u : Unit) => [(oX10 x0 y0 ta z0 p0 dr pa to_ s0 im ki tr v0 rf), (oX8 s0 h0 a0 b0 e0), (oX2 b0 b1 b2 x y rl hd th)]) := by
  refine he_begin (l := l) (g := g) (y := yX10_spy) (wl := wsX10_spy) (fr := 1) (lo := 22) (mc := 0) (ms := 0) (av := [.ref x0, .int 1, .int i1]) (ws := [(oX10 x0 y0 ta z0 p0 dr pa to_ s0 im ki tr v0 rf), (oX8 s0 h0 a0 b0 e0), (oX2 b0 b1 b2 x y rl hd th)]) (cc := cX10_spy) (maxL := 4) (ret := (some .int)) (fun A => va_Qi (fun (r : Int32) (u : Unit) => r = (-1)) (fun u t => he_post g A ((fun (u : Unit) => [(oX10 x0 y0 ta z0 p0 dr pa to_ s0 im ki tr v0 rf), (oX8 s0 h0 a0 b0 e0), (oX2 b0 b1 b2 x y rl hd th)]) u) t) A) (by decide) rfl (Nat.le_of_ble_eq_true rfl) ?_
  intro p e s m args below meth c A ls H locs Q hQ hB
  obtain ⟨hx, hb, hr, hml, hown, hts, hlk, hin, hP, hK, hD, hS, hA, hE, hl⟩ := hB
  have hl : lv_has ls 4 [(0, .ref x0), (1, .int 1), (2, .int i1)] := hl
  have f39 := hts (.fieldLink RX10 39 "HiredEnemy" "scene" "LHiredEnemy$Scene;") (iwoX10_spy (k := 0) rfl)
  have inX10 : ∀ w ∈ wsX100, w ∈ wsX10_spy := innX10_spy_X10
  have f189 := hts (.fieldLink RX10 189 "HiredEnemy$Scene" "belief" "LHiredEnemy$Belief;") (iwoX10_spy (k := 1) rfl)
  have inX8 : ∀ w ∈ wsX80, w ∈ wsX10_spy := innX10_spy_X8
  refine lv_aload_n hx hb dX10_spy_0 rfl (lv_at hl 0 rfl) ?_
  refine lv_iload_n hx hb dX10_spy_1 rfl (lv_at hl 2 rfl) ?_
  refine lv_iconst (v := 1) hx hb dX10_spy_2 (by decide) ?_
  refine lv_bipush (v := 15) hx hb dX10_spy_3 (by decide) ?_
  refine he_ci (wc := []) (wr := [(oX10 x0 y0 ta z0 p0 dr pa to_ s0 im ki tr v0 rf), (oX8 s0 h0 a0 b0 e0), (oX2 b0 b1 b2 x y rl hd th)]) (va_runS (As := [.int i1, .int 1, .int 15]) (rest := [.ref x0]) ⟨hx, hb, hml, hown, hts⟩ (c_X10_within l g i1 1 15 H.size) (va_cwS 3 hts gX10_spy_X10_within rfl rfl rfl (by decide +kernel) ⟨Nat.le_of_ble_eq_true rfl, Nat.le_of_ble_eq_true rfl⟩) (he_preS (wc := []) hK hP hD hS hA hE [] rfl rfl) rfl rfl hl.1 rfl (lv_room (Nat.le_of_ble_eq_true rfl)) dX10_spy_5 ⟨(Nat.le_of_ble_eq_true rfl), (Nat.le_of_ble_eq_true rfl)⟩) hP hD hS hA [] [0, 1, 2] rfl rfl rfl (by decide) (fun r_1 u_2 H locs h_3 hP hD hS => ?_)
  subst h_3
  have hP : va_P g.1 vwCl [(oX10 x0 y0 ta z0 p0 dr pa to_ s0 im ki tr v0 rf), (oX8 s0 h0 a0 b0 e0), (oX2 b0 b1 b2 x y rl hd th)] H := hP
  have hD : va_D A [(oX10 x0 y0 ta z0 p0 dr pa to_ s0 im ki tr v0 rf), (oX8 s0 h0 a0 b0 e0), (oX2 b0 b1 b2 x y rl hd th)] := hD
  refine he_top (1) (he_within_1 hok0) ?_
  refine he_cv (wc := []) (wr := [(oX10 x0 y0 ta z0 p0 dr pa to_ s0 im ki tr v0 rf), (oX8 s0 h0 a0 b0 e0), (oX2 b0 b1 b2 x y rl hd th)]) (va_runV (As := [.int 1]) (rest := []) ⟨hx, hb, hml, hown, hts⟩ (c_X10_demand1 l g x0 H.size) (cwV 1 hts gX10_spy_X10_demand rfl rfl rfl (by decide +kernel) ⟨Nat.le_of_ble_eq_true rfl, Nat.le_of_ble_eq_true rfl⟩) (he_preV (wc := []) hK hP hD hS hA hE [] rfl rfl 0 rfl rfl) rfl rfl hl.1 rfl (lv_room (Nat.le_of_ble_eq_true rfl)) dX10_spy_8 ⟨(Nat.le_of_ble_eq_true rfl), (Nat.le_of_ble_eq_true rfl)⟩) hP hD hS hA [] [0, 1, 2] rfl rfl rfl (by decide) (fun u_5 H locs h_6 hP hD hS => ?_)
  have hP : va_P g.1 vwCl [(oX10 x0 y0 ta z0 p0 dr pa to_ s0 im ki tr v0 rf), (oX8 s0 h0 a0 b0 e0), (oX2 b0 b1 b2 x y rl hd th)] H := hP
  have hD : va_D A [(oX10 x0 y0 ta z0 p0 dr pa to_ s0 im ki tr v0 rf), (oX8 s0 h0 a0 b0 e0), (oX2 b0 b1 b2 x y rl hd th)] := hD
  refine lv_bipush (v := 16) hx hb dX10_spy_11 (by decide) ?_
  refine lv_iload_n hx hb dX10_spy_13 rfl (lv_at hl 2 rfl) ?_
  refine lv_isub hx hb dX10_spy_14 ?_
  refine lv_istore_n (lv' := [(3, .int (16 - i1)), (0, .ref x0), (1, .int 1), (2, .int i1)]) hx hb dX10_spy_15 rfl hl (by decide) rfl (fun ls hl => ?_)
  refine lv_iload_n hx hb dX10_spy_16 rfl (lv_at hl 2 rfl) ?_
  refine lv_if_eq (tgt := 35) hx hb dX10_spy_17 (by decide) (fun c_7 => ?_) (fun c_7 => ?_)
  · exact absurd c_7 (by decide)
  · refine lv_aload_n hx hb dX10_spy_20 rfl (lv_at hl 1 rfl) ?_
    refine va_get (v := .ref s0) (T := TX10) (N := 13) hx hb hts inX10 hown hK hP 0 rfl rfl 7 (by decide) f39 (fun _ h9 => h9) rfl dX10_spy_21 ?_
    refine va_get (v := .ref b0) (T := TX8) (N := 4) hx hb hts inX8 hown hK hP 1 rfl rfl 2 (by decide) f189 (fun _ h9 => h9) rfl dX10_spy_24 ?_
    refine lv_iload_n hx hb dX10_spy_27 rfl (lv_at hl 3 rfl) ?_
    refine lv_iload_n hx hb dX10_spy_28 rfl (lv_at hl 0 rfl) ?_
    refine he_ci (wc := [(oX2 b0 b1 b2 x y rl hd th)]) (wr := [(oX10 x0 y0 ta z0 p0 dr pa to_ s0 im ki tr v0 rf), (oX8 s0 h0 a0 b0 e0)]) (va_runV (As := [.int i1, .int (16 - i1)]) (rest := []) ⟨hx, hb, hml, hown, hts⟩ (g_X2_addF l g b0 b1 b2 x y rl hd th i1 (16 - i1) (by first | assumption | decide | omega) H.size) (cwV 2 hts gX10_spy_X2_add rfl rfl rfl (by decide +kernel) ⟨Nat.le_of_ble_eq_true rfl, Nat.le_of_ble_eq_true rfl⟩) (he_preV (wc := [(oX2 b0 b1 b2 x y rl hd th)]) hK hP hD hS hA hE [2] rfl rfl 2 rfl rfl) rfl rfl hl.1 rfl (lv_room (Nat.le_of_ble_eq_true rfl)) dX10_spy_29 ⟨(Nat.le_of_ble_eq_true rfl), (Nat.le_of_ble_eq_true rfl)⟩) hP hD hS hA [2] [0, 1] rfl rfl rfl (by decide) (fun r_8 u_9 H locs h_10 hP hD hS => ?_)
    subst h_10
    have hP : va_P g.1 vwCl [(oX10 x0 y0 ta z0 p0 dr pa to_ s0 im ki tr v0 rf), (oX8 s0 h0 a0 b0 e0), (oX2 b0 b1 b2 x y rl hd th)] H := hP
    have hD : va_D A [(oX10 x0 y0 ta z0 p0 dr pa to_ s0 im ki tr v0 rf), (oX8 s0 h0 a0 b0 e0), (oX2 b0 b1 b2 x y rl hd th)] := hD
    refine lv_goto (tgt := 47) hx hb dX10_spy_32 (by decide) ?_
    exact he_ri hQ hx hb hr hlk hP hD hS dX10_spy_47 (Nat.le_of_ble_eq_true rfl) (Nat.le_of_ble_eq_true rfl) (()) (rfl) (rfl)
set_option maxHeartbeats 4000000 in
set_option maxRecDepth 100000 in
theorem g_X10_believed0 (l : Launch) (g : he_G) (x0 : Nat) (y0 : Nat) (z0 : Nat) (p0 : Nat) (dr : Nat) (pa : Nat) (s0 : Nat) (im : Nat) (tr : Nat) (v0 : Nat) (rf : Nat) (ta : Int32) (to_ : Int32) (ki : Int32) (h0 : Nat) (a0 : Nat) (e0 : Nat) (b0 : Nat) (b1 : Nat) (b2 : Nat) (x : Int32) (y : Int32) (rl : Int64) (hd : Int64) (th : Int32)  : he_J l yX10_believed wsX10_believed 1 28 0 0 g [.ref x0, .int 0] [(oX10 x0 y0 ta z0 p0 dr pa to_ s0 im ki tr v0 rf), (oX8 s0 h0 a0 b0 e0), (oX2 b0 b1 b2 x y rl hd th)] (fun (r : Int64) (u : Unit) => True) (fun (u : Unit) => [(oX10 x0 y0 ta z0 p0 dr pa to_ s0 im ki tr v0 rf), (oX8 s0 h0 a0 b0 e0), (oX2 b0 b1 b2 x y rl hd th)]) := by
  refine he_begin (l := l) (g := g) (y := yX10_believed) (wl := wsX10_believed) (fr := 1) (lo := 28) (mc := 0) (ms := 0) (av := [.ref x0, .int 0]) (ws := [(oX10 x0 y0 ta z0 p0 dr pa to_ s0 im ki tr v0 rf), (oX8 s0 h0 a0 b0 e0), (oX2 b0 b1 b2 x y rl hd th)]) (cc := cX10_believed) (maxL := 2) (ret := (some .long)) (fun A => va_Ql (fun (r : Int64) (u : Unit) => True) (fun u t => he_post g A ((fun (u : Unit) => [(oX10 x0 y0 ta z0 p0 dr pa to_ s0 im ki tr v0 rf), (oX8 s0 h0 a0 b0 e0), (oX2 b0 b1 b2 x y rl hd th)]) u) t) A) (by decide) rfl (Nat.le_of_ble_eq_true rfl) ?_
  intro p e s m args below meth c A ls H locs Q hQ hB
  obtain ⟨hx, hb, hr, hml, hown, hts, hlk, hin, hP, hK, hD, hS, hA, hE, hl⟩ := hB
  have hl : lv_has ls 2 [(0, .ref x0), (1, .int 0)] := hl
  have f39 := hts (.fieldLink RX10 39 "HiredEnemy" "scene" "LHiredEnemy$Scene;") (iwoX10_believed (k := 0) rfl)
  have inX10 : ∀ w ∈ wsX100, w ∈ wsX10_believed := innX10_believed_X10
  have f189 := hts (.fieldLink RX10 189 "HiredEnemy$Scene" "belief" "LHiredEnemy$Belief;") (iwoX10_believed (k := 1) rfl)
  have inX8 : ∀ w ∈ wsX80, w ∈ wsX10_believed := innX10_believed_X8
  refine lv_aload_n hx hb dX10_believed_0 rfl (lv_at hl 0 rfl) ?_
  refine lv_iload_n hx hb dX10_believed_1 rfl (lv_at hl 1 rfl) ?_
  refine lv_iconst (v := 0) hx hb dX10_believed_2 (by decide) ?_
  refine lv_iconst (v := 1) hx hb dX10_believed_3 (by decide) ?_
  refine he_ci (wc := []) (wr := [(oX10 x0 y0 ta z0 p0 dr pa to_ s0 im ki tr v0 rf), (oX8 s0 h0 a0 b0 e0), (oX2 b0 b1 b2 x y rl hd th)]) (va_runS (As := [.int 0, .int 0, .int 1]) (rest := [.ref x0]) ⟨hx, hb, hml, hown, hts⟩ (c_X10_within l g 0 0 1 H.size) (va_cwS 3 hts gX10_believed_X10_within rfl rfl rfl (by decide +kernel) ⟨Nat.le_of_ble_eq_true rfl, Nat.le_of_ble_eq_true rfl⟩) (he_preS (wc := []) hK hP hD hS hA hE [] rfl rfl) rfl rfl hl.1 rfl (lv_room (Nat.le_of_ble_eq_true rfl)) dX10_believed_4 ⟨(Nat.le_of_ble_eq_true rfl), (Nat.le_of_ble_eq_true rfl)⟩) hP hD hS hA [] [0, 1, 2] rfl rfl rfl (by decide) (fun r_1 u_2 H locs h_3 hP hD hS => ?_)
  subst h_3
  have hP : va_P g.1 vwCl [(oX10 x0 y0 ta z0 p0 dr pa to_ s0 im ki tr v0 rf), (oX8 s0 h0 a0 b0 e0), (oX2 b0 b1 b2 x y rl hd th)] H := hP
  have hD : va_D A [(oX10 x0 y0 ta z0 p0 dr pa to_ s0 im ki tr v0 rf), (oX8 s0 h0 a0 b0 e0), (oX2 b0 b1 b2 x y rl hd th)] := hD
  refine he_top (1) (by decide) ?_
  refine he_cv (wc := []) (wr := [(oX10 x0 y0 ta z0 p0 dr pa to_ s0 im ki tr v0 rf), (oX8 s0 h0 a0 b0 e0), (oX2 b0 b1 b2 x y rl hd th)]) (va_runV (As := [.int 1]) (rest := []) ⟨hx, hb, hml, hown, hts⟩ (c_X10_demand1 l g x0 H.size) (cwV 1 hts gX10_believed_X10_demand rfl rfl rfl (by decide +kernel) ⟨Nat.le_of_ble_eq_true rfl, Nat.le_of_ble_eq_true rfl⟩) (he_preV (wc := []) hK hP hD hS hA hE [] rfl rfl 0 rfl rfl) rfl rfl hl.1 rfl (lv_room (Nat.le_of_ble_eq_true rfl)) dX10_believed_7 ⟨(Nat.le_of_ble_eq_true rfl), (Nat.le_of_ble_eq_true rfl)⟩) hP hD hS hA [] [0, 1, 2] rfl rfl rfl (by decide) (fun u_5 H locs h_6 hP hD hS => ?_)
  have hP : va_P g.1 vwCl [(oX10 x0 y0 ta z0 p0 dr pa to_ s0 im ki tr v0 rf), (oX8 s0 h0 a0 b0 e0), (oX2 b0 b1 b2 x y rl hd th)] H := hP
  have hD : va_D A [(oX10 x0 y0 ta z0 p0 dr pa to_ s0 im ki tr v0 rf), (oX8 s0 h0 a0 b0 e0), (oX2 b0 b1 b2 x y rl hd th)] := hD
  refine lv_aload_n hx hb dX10_believed_10 rfl (lv_at hl 0 rfl) ?_
  refine va_get (v := .ref s0) (T := TX10) (N := 13) hx hb hts inX10 hown hK hP 0 rfl rfl 7 (by decide) f39 (fun _ h9 => h9) rfl dX10_believed_11 ?_
  refine va_get (v := .ref b0) (T := TX8) (N := 4) hx hb hts inX8 hown hK hP 1 rfl rfl 2 (by decide) f189 (fun _ h9 => h9) rfl dX10_believed_14 ?_
  refine lv_iload_n hx hb dX10_believed_17 rfl (lv_at hl 1 rfl) ?_
  refine lv_if_ne (tgt := 25) hx hb dX10_believed_18 (by decide) (fun c_7 => ?_) (fun c_7 => ?_)
  · exact absurd (by decide) c_7
  · refine lv_iconst (v := 1) hx hb dX10_believed_21 (by decide) ?_
    refine lv_goto (tgt := 26) hx hb dX10_believed_22 (by decide) ?_
    refine he_cj (wc := [(oX2 b0 b1 b2 x y rl hd th)]) (wr := [(oX10 x0 y0 ta z0 p0 dr pa to_ s0 im ki tr v0 rf), (oX8 s0 h0 a0 b0 e0)]) (va_runV (As := [.int 1]) (rest := []) ⟨hx, hb, hml, hown, hts⟩ (g_X2_least l g b0 b1 b2 x y rl hd th 1 H.size) (cwV 1 hts gX10_believed_X2_leastTerm rfl rfl rfl (by decide +kernel) ⟨Nat.le_of_ble_eq_true rfl, Nat.le_of_ble_eq_true rfl⟩) (he_preV (wc := [(oX2 b0 b1 b2 x y rl hd th)]) hK hP hD hS hA hE [2] rfl rfl 2 rfl rfl) rfl rfl hl.1 rfl (lv_room (Nat.le_of_ble_eq_true rfl)) dX10_believed_26 ⟨(Nat.le_of_ble_eq_true rfl), (Nat.le_of_ble_eq_true rfl)⟩) hP hD hS hA [2] [0, 1] rfl rfl rfl (by decide) (fun r_8 u_9 H locs h_10 hP hD hS => ?_)
    have hP : va_P g.1 vwCl [(oX10 x0 y0 ta z0 p0 dr pa to_ s0 im ki tr v0 rf), (oX8 s0 h0 a0 b0 e0), (oX2 b0 b1 b2 x y rl hd th)] H := hP
    have hD : va_D A [(oX10 x0 y0 ta z0 p0 dr pa to_ s0 im ki tr v0 rf), (oX8 s0 h0 a0 b0 e0), (oX2 b0 b1 b2 x y rl hd th)] := hD
    exact he_rj hQ hx hb hr hlk hP hD hS dX10_believed_29 (Nat.le_of_ble_eq_true rfl) (Nat.le_of_ble_eq_true rfl) (()) (rfl) (trivial)
end
section
set_option maxHeartbeats 4000000 in
set_option maxRecDepth 100000 in
theorem g_X10_believed1 (l : Launch) (g : he_G) (x0 : Nat) (y0 : Nat) (z0 : Nat) (p0 : Nat) (dr : Nat) (pa : Nat) (s0 : Nat) (im : Nat) (tr : Nat) (v0 : Nat) (rf : Nat) (ta : Int32) (to_ : Int32) (ki : Int32) (h0 : Nat) (a0 : Nat) (e0 : Nat) (b0 : Nat) (b1 : Nat) (b2 : Nat) (x : Int32) (y : Int32) (rl : Int64) (hd : Int64) (th : Int32)  : he_J l yX10_believed wsX10_believed 1 28 0 0 g [.ref x0, .int 1] [(oX10 x0 y0 ta z0 p0 dr pa to_ s0 im ki tr v0 rf), (oX8 s0 h0 a0 b0 e0), (oX2 b0 b1 b2 x y rl hd th)] (fun (r : Int64) (u : Unit) => True) (fun (u : Unit) => [(oX10 x0 y0 ta z0 p0 dr pa to_ s0 im ki tr v0 rf), (oX8 s0 h0 a0 b0 e0), (oX2 b0 b1 b2 x y rl hd th)]) := by
  refine he_begin (l := l) (g := g) (y := yX10_believed) (wl := wsX10_believed) (fr := 1) (lo := 28) (mc := 0) (ms := 0) (av := [.ref x0, .int 1]) (ws := [(oX10 x0 y0 ta z0 p0 dr pa to_ s0 im ki tr v0 rf), (oX8 s0 h0 a0 b0 e0), (oX2 b0 b1 b2 x y rl hd th)]) (cc := cX10_believed) (maxL := 2) (ret := (some .long)) (fun A => va_Ql (fun (r : Int64) (u : Unit) => True) (fun u t => he_post g A ((fun (u : Unit) => [(oX10 x0 y0 ta z0 p0 dr pa to_ s0 im ki tr v0 rf), (oX8 s0 h0 a0 b0 e0), (oX2 b0 b1 b2 x y rl hd th)]) u) t) A) (by decide) rfl (Nat.le_of_ble_eq_true rfl) ?_
  intro p e s m args below meth c A ls H locs Q hQ hB
  obtain ⟨hx, hb, hr, hml, hown, hts, hlk, hin, hP, hK, hD, hS, hA, hE, hl⟩ := hB
  have hl : lv_has ls 2 [(0, .ref x0), (1, .int 1)] := hl
  have f39 := hts (.fieldLink RX10 39 "HiredEnemy" "scene" "LHiredEnemy$Scene;") (iwoX10_believed (k := 0) rfl)
  have inX10 : ∀ w ∈ wsX100, w ∈ wsX10_believed := innX10_believed_X10
  have f189 := hts (.fieldLink RX10 189 "HiredEnemy$Scene" "belief" "LHiredEnemy$Belief;") (iwoX10_believed (k := 1) rfl)
  have inX8 : ∀ w ∈ wsX80, w ∈ wsX10_believed := innX10_believed_X8
  refine lv_aload_n hx hb dX10_believed_0 rfl (lv_at hl 0 rfl) ?_
  refine lv_iload_n hx hb dX10_believed_1 rfl (lv_at hl 1 rfl) ?_
  refine lv_iconst (v := 0) hx hb dX10_believed_2 (by decide) ?_
  refine lv_iconst (v := 1) hx hb dX10_believed_3 (by decide) ?_
  refine he_ci (wc := []) (wr := [(oX10 x0 y0 ta z0 p0 dr pa to_ s0 im ki tr v0 rf), (oX8 s0 h0 a0 b0 e0), (oX2 b0 b1 b2 x y rl hd th)]) (va_runS (As := [.int 1, .int 0, .int 1]) (rest := [.ref x0]) ⟨hx, hb, hml, hown, hts⟩ (c_X10_within l g 1 0 1 H.size) (va_cwS 3 hts gX10_believed_X10_within rfl rfl rfl (by decide +kernel) ⟨Nat.le_of_ble_eq_true rfl, Nat.le_of_ble_eq_true rfl⟩) (he_preS (wc := []) hK hP hD hS hA hE [] rfl rfl) rfl rfl hl.1 rfl (lv_room (Nat.le_of_ble_eq_true rfl)) dX10_believed_4 ⟨(Nat.le_of_ble_eq_true rfl), (Nat.le_of_ble_eq_true rfl)⟩) hP hD hS hA [] [0, 1, 2] rfl rfl rfl (by decide) (fun r_1 u_2 H locs h_3 hP hD hS => ?_)
  subst h_3
  have hP : va_P g.1 vwCl [(oX10 x0 y0 ta z0 p0 dr pa to_ s0 im ki tr v0 rf), (oX8 s0 h0 a0 b0 e0), (oX2 b0 b1 b2 x y rl hd th)] H := hP
  have hD : va_D A [(oX10 x0 y0 ta z0 p0 dr pa to_ s0 im ki tr v0 rf), (oX8 s0 h0 a0 b0 e0), (oX2 b0 b1 b2 x y rl hd th)] := hD
  refine he_top (1) (by decide) ?_
  refine he_cv (wc := []) (wr := [(oX10 x0 y0 ta z0 p0 dr pa to_ s0 im ki tr v0 rf), (oX8 s0 h0 a0 b0 e0), (oX2 b0 b1 b2 x y rl hd th)]) (va_runV (As := [.int 1]) (rest := []) ⟨hx, hb, hml, hown, hts⟩ (c_X10_demand1 l g x0 H.size) (cwV 1 hts gX10_believed_X10_demand rfl rfl rfl (by decide +kernel) ⟨Nat.le_of_ble_eq_true rfl, Nat.le_of_ble_eq_true rfl⟩) (he_preV (wc := []) hK hP hD hS hA hE [] rfl rfl 0 rfl rfl) rfl rfl hl.1 rfl (lv_room (Nat.le_of_ble_eq_true rfl)) dX10_believed_7 ⟨(Nat.le_of_ble_eq_true rfl), (Nat.le_of_ble_eq_true rfl)⟩) hP hD hS hA [] [0, 1, 2] rfl rfl rfl (by decide) (fun u_5 H locs h_6 hP hD hS => ?_)
  have hP : va_P g.1 vwCl [(oX10 x0 y0 ta z0 p0 dr pa to_ s0 im ki tr v0 rf), (oX8 s0 h0 a0 b0 e0), (oX2 b0 b1 b2 x y rl hd th)] H := hP
  have hD : va_D A [(oX10 x0 y0 ta z0 p0 dr pa to_ s0 im ki tr v0 rf), (oX8 s0 h0 a0 b0 e0), (oX2 b0 b1 b2 x y rl hd th)] := hD
  refine lv_aload_n hx hb dX10_believed_10 rfl (lv_at hl 0 rfl) ?_
  refine va_get (v := .ref s0) (T := TX10) (N := 13) hx hb hts inX10 hown hK hP 0 rfl rfl 7 (by decide) f39 (fun _ h9 => h9) rfl dX10_believed_11 ?_
  refine va_get (v := .ref b0) (T := TX8) (N := 4) hx hb hts inX8 hown hK hP 1 rfl rfl 2 (by decide) f189 (fun _ h9 => h9) rfl dX10_believed_14 ?_
  refine lv_iload_n hx hb dX10_believed_17 rfl (lv_at hl 1 rfl) ?_
  refine lv_if_ne (tgt := 25) hx hb dX10_believed_18 (by decide) (fun c_7 => ?_) (fun c_7 => ?_)
  · refine lv_iconst (v := 0) hx hb dX10_believed_25 (by decide) ?_
    refine he_cj (wc := [(oX2 b0 b1 b2 x y rl hd th)]) (wr := [(oX10 x0 y0 ta z0 p0 dr pa to_ s0 im ki tr v0 rf), (oX8 s0 h0 a0 b0 e0)]) (va_runV (As := [.int 0]) (rest := []) ⟨hx, hb, hml, hown, hts⟩ (g_X2_least l g b0 b1 b2 x y rl hd th 0 H.size) (cwV 1 hts gX10_believed_X2_leastTerm rfl rfl rfl (by decide +kernel) ⟨Nat.le_of_ble_eq_true rfl, Nat.le_of_ble_eq_true rfl⟩) (he_preV (wc := [(oX2 b0 b1 b2 x y rl hd th)]) hK hP hD hS hA hE [2] rfl rfl 2 rfl rfl) rfl rfl hl.1 rfl (lv_room (Nat.le_of_ble_eq_true rfl)) dX10_believed_26 ⟨(Nat.le_of_ble_eq_true rfl), (Nat.le_of_ble_eq_true rfl)⟩) hP hD hS hA [2] [0, 1] rfl rfl rfl (by decide) (fun r_8 u_9 H locs h_10 hP hD hS => ?_)
    have hP : va_P g.1 vwCl [(oX10 x0 y0 ta z0 p0 dr pa to_ s0 im ki tr v0 rf), (oX8 s0 h0 a0 b0 e0), (oX2 b0 b1 b2 x y rl hd th)] H := hP
    have hD : va_D A [(oX10 x0 y0 ta z0 p0 dr pa to_ s0 im ki tr v0 rf), (oX8 s0 h0 a0 b0 e0), (oX2 b0 b1 b2 x y rl hd th)] := hD
    exact he_rj hQ hx hb hr hlk hP hD hS dX10_believed_29 (Nat.le_of_ble_eq_true rfl) (Nat.le_of_ble_eq_true rfl) (()) (rfl) (trivial)
  · exact absurd c_7 (by decide)
set_option maxHeartbeats 4000000 in
set_option maxRecDepth 100000 in
theorem g_X10_offers (l : Launch) (g : he_G) (x0 : Nat) (y0 : Nat) (z0 : Nat) (p0 : Nat) (dr : Nat) (pa : Nat) (s0 : Nat) (im : Nat) (tr : Nat) (v0 : Nat) (rf : Nat) (ta : Int32) (to_ : Int32) (ki : Int32) (h0 : Nat) (a0 : Nat) (b0 : Nat) (e0 : Nat) (e1 : Nat) (e2 : Nat) (co : Nat → Int32) (i : Nat) (j : Nat) (z : Int32) (hi1 : 1 ≤ i) (hi2 : i ≤ 2) (hj : j ≤ 11) (hok0 : ¬ he_within z 0 999 = 0) : he_I l yX10_offers wsX10_offers 1 25 0 0 g [.ref x0, .int (nI i), .int (nI j), .int z] [(oX10 x0 y0 ta z0 p0 dr pa to_ s0 im ki tr v0 rf), (oX8 s0 h0 a0 b0 e0), (oX3 e0 e1 e2), (aI g e1 36 co)] (fun (r : Int32) (u : Unit) => r = co (j * 3 + i)) (fun (u : Unit) => [(oX10 x0 y0 ta z0 p0 dr pa to_ s0 im ki tr v0 rf), (oX8 s0 h0 a0 b0 e0), (oX3 e0 e1 e2), (aI g e1 36 (upd co (j * 3 + i) z))]) := by
  refine he_begin (l := l) (g := g) (y := yX10_offers) (wl := wsX10_offers) (fr := 1) (lo := 25) (mc := 0) (ms := 0) (av := [.ref x0, .int (nI i), .int (nI j), .int z]) (ws := [(oX10 x0 y0 ta z0 p0 dr pa to_ s0 im ki tr v0 rf), (oX8 s0 h0 a0 b0 e0), (oX3 e0 e1 e2), (aI g e1 36 co)]) (cc := cX10_offers) (maxL := 4) (ret := (some .int)) (fun A => va_Qi (fun (r : Int32) (u : Unit) => r = co (j * 3 + i)) (fun u t => he_post g A ((fun (u : Unit) => [(oX10 x0 y0 ta z0 p0 dr pa to_ s0 im ki tr v0 rf), (oX8 s0 h0 a0 b0 e0), (oX3 e0 e1 e2), (aI g e1 36 (upd co (j * 3 + i) z))]) u) t) A) (by decide) rfl (Nat.le_of_ble_eq_true rfl) ?_
  intro p e s m args below meth c A ls H locs Q hQ hB
  obtain ⟨hx, hb, hr, hml, hown, hts, hlk, hin, hP, hK, hD, hS, hA, hE, hl⟩ := hB
  have hl : lv_has ls 4 [(0, .ref x0), (1, .int (nI i)), (2, .int (nI j)), (3, .int z)] := hl
  have f39 := hts (.fieldLink RX10 39 "HiredEnemy" "scene" "LHiredEnemy$Scene;") (iwoX10_offers (k := 0) rfl)
  have inX10 : ∀ w ∈ wsX100, w ∈ wsX10_offers := innX10_offers_X10
  have f232 := hts (.fieldLink RX10 232 "HiredEnemy$Scene" "bids" "LHiredEnemy$Bids;") (iwoX10_offers (k := 1) rfl)
  have inX8 : ∀ w ∈ wsX80, w ∈ wsX10_offers := innX10_offers_X8
  refine lv_aload_n hx hb dX10_offers_0 rfl (lv_at hl 0 rfl) ?_
  refine lv_iload_n hx hb dX10_offers_1 rfl (lv_at hl 1 rfl) ?_
  refine lv_iconst (v := 1) hx hb dX10_offers_2 (by decide) ?_
  refine lv_iconst (v := 2) hx hb dX10_offers_3 (by decide) ?_
  refine he_ci (wc := []) (wr := [(oX10 x0 y0 ta z0 p0 dr pa to_ s0 im ki tr v0 rf), (oX8 s0 h0 a0 b0 e0), (oX3 e0 e1 e2), (aI g e1 36 co)]) (va_runS (As := [.int (nI i), .int 1, .int 2]) (rest := [.ref x0]) ⟨hx, hb, hml, hown, hts⟩ (c_X10_within l g (nI i) 1 2 H.size) (va_cwS 3 hts gX10_offers_X10_within rfl rfl rfl (by decide +kernel) ⟨Nat.le_of_ble_eq_true rfl, Nat.le_of_ble_eq_true rfl⟩) (he_preS (wc := []) hK hP hD hS hA hE [] rfl rfl) rfl rfl hl.1 rfl (lv_room (Nat.le_of_ble_eq_true rfl)) dX10_offers_4 ⟨(Nat.le_of_ble_eq_true rfl), (Nat.le_of_ble_eq_true rfl)⟩) hP hD hS hA [] [0, 1, 2, 3] rfl rfl rfl (by decide) (fun r_1 u_2 H locs h_3 hP hD hS => ?_)
  subst h_3
  have hP : va_P g.1 vwCl [(oX10 x0 y0 ta z0 p0 dr pa to_ s0 im ki tr v0 rf), (oX8 s0 h0 a0 b0 e0), (oX3 e0 e1 e2), (aI g e1 36 co)] H := hP
  have hD : va_D A [(oX10 x0 y0 ta z0 p0 dr pa to_ s0 im ki tr v0 rf), (oX8 s0 h0 a0 b0 e0), (oX3 e0 e1 e2), (aI g e1 36 co)] := hD
  refine he_top (1) (he_within_in (a0 := 1) (B := 2) rfl rfl (by omega) (by omega) (by decide)) ?_
  refine lv_if_eq (tgt := 35) hx hb dX10_offers_7 (by decide) (fun c_4 => ?_) (fun c_4 => ?_)
  · exact absurd c_4 (by decide)
  · refine lv_iload_n hx hb dX10_offers_10 rfl (lv_at hl 2 rfl) ?_
    refine lv_iconst (v := 0) hx hb dX10_offers_11 (by decide) ?_
    refine lv_bipush (v := 11) hx hb dX10_offers_12 (by decide) ?_
    refine he_ci (wc := []) (wr := [(oX10 x0 y0 ta z0 p0 dr pa to_ s0 im ki tr v0 rf), (oX8 s0 h0 a0 b0 e0), (oX3 e0 e1 e2), (aI g e1 36 co)]) (va_runS (As := [.int (nI j), .int 0, .int 11]) (rest := [.ref x0]) ⟨hx, hb, hml, hown, hts⟩ (c_X10_within l g (nI j) 0 11 H.size) (va_cwS 3 hts gX10_offers_X10_within rfl rfl rfl (by decide +kernel) ⟨Nat.le_of_ble_eq_true rfl, Nat.le_of_ble_eq_true rfl⟩) (he_preS (wc := []) hK hP hD hS hA hE [] rfl rfl) rfl rfl hl.1 rfl (lv_room (Nat.le_of_ble_eq_true rfl)) dX10_offers_14 ⟨(Nat.le_of_ble_eq_true rfl), (Nat.le_of_ble_eq_true rfl)⟩) hP hD hS hA [] [0, 1, 2, 3] rfl rfl rfl (by decide) (fun r_5 u_6 H locs h_7 hP hD hS => ?_)
    subst h_7
    have hP : va_P g.1 vwCl [(oX10 x0 y0 ta z0 p0 dr pa to_ s0 im ki tr v0 rf), (oX8 s0 h0 a0 b0 e0), (oX3 e0 e1 e2), (aI g e1 36 co)] H := hP
    have hD : va_D A [(oX10 x0 y0 ta z0 p0 dr pa to_ s0 im ki tr v0 rf), (oX8 s0 h0 a0 b0 e0), (oX3 e0 e1 e2), (aI g e1 36 co)] := hD
    refine he_top (1) (he_within_in (a0 := 0) (B := 11) rfl rfl (by omega) (by omega) (by decide)) ?_
    refine lv_if_eq (tgt := 35) hx hb dX10_offers_17 (by decide) (fun c_8 => ?_) (fun c_8 => ?_)
    · exact absurd c_8 (by decide)
    · refine lv_iload_n hx hb dX10_offers_20 rfl (lv_at hl 3 rfl) ?_
      refine lv_iconst (v := 0) hx hb dX10_offers_21 (by decide) ?_
      refine lv_sipush (v := 999) hx hb dX10_offers_22 (by decide) ?_
      refine he_ci (wc := []) (wr := [(oX10 x0 y0 ta z0 p0 dr pa to_ s0 im ki tr v0 rf), (oX8 s0 h0 a0 b0 e0), (oX3 e0 e1 e2), (aI g e1 36 co)]) (va_runS (As := [.int z, .int 0, .int 999]) (rest := [.ref x0]) ⟨hx, hb, hml, hown, hts⟩ (c_X10_within l g z 0 999 H.size) (va_cwS 3 hts gX10_offers_X10_within rfl rfl rfl (by decide +kernel) ⟨Nat.le_of_ble_eq_true rfl, Nat.le_of_ble_eq_true rfl⟩) (he_preS (wc := []) hK hP hD hS hA hE [] rfl rfl) rfl rfl hl.1 rfl (lv_room (Nat.le_of_ble_eq_true rfl)) dX10_offers_25 ⟨(Nat.le_of_ble_eq_true rfl), (Nat.le_of_ble_eq_true rfl)⟩) hP hD hS hA [] [0, 1, 2, 3] rfl rfl rfl (by decide) (fun r_9 u_10 H locs h_11 hP hD hS => ?_)
      subst h_11
      have hP : va_P g.1 vwCl [(oX10 x0 y0 ta z0 p0 dr pa to_ s0 im ki tr v0 rf), (oX8 s0 h0 a0 b0 e0), (oX3 e0 e1 e2), (aI g e1 36 co)] H := hP
      have hD : va_D A [(oX10 x0 y0 ta z0 p0 dr pa to_ s0 im ki tr v0 rf), (oX8 s0 h0 a0 b0 e0), (oX3 e0 e1 e2), (aI g e1 36 co)] := hD
      refine he_top (1) (he_within_1 hok0) ?_
      refine lv_if_eq (tgt := 35) hx hb dX10_offers_28 (by decide) (fun c_12 => ?_) (fun c_12 => ?_)
      · exact absurd c_12 (by decide)
      · refine lv_iconst (v := 1) hx hb dX10_offers_31 (by decide) ?_
        refine lv_goto (tgt := 36) hx hb dX10_offers_32 (by decide) ?_
        refine he_cv (wc := []) (wr := [(oX10 x0 y0 ta z0 p0 dr pa to_ s0 im ki tr v0 rf), (oX8 s0 h0 a0 b0 e0), (oX3 e0 e1 e2), (aI g e1 36 co)]) (va_runV (As := [.int 1]) (rest := []) ⟨hx, hb, hml, hown, hts⟩ (c_X10_demand1 l g x0 H.size) (cwV 1 hts gX10_offers_X10_demand rfl rfl rfl (by decide +kernel) ⟨Nat.le_of_ble_eq_true rfl, Nat.le_of_ble_eq_true rfl⟩) (he_preV (wc := []) hK hP hD hS hA hE [] rfl rfl 0 rfl rfl) rfl rfl hl.1 rfl (lv_room (Nat.le_of_ble_eq_true rfl)) dX10_offers_36 ⟨(Nat.le_of_ble_eq_true rfl), (Nat.le_of_ble_eq_true rfl)⟩) hP hD hS hA [] [0, 1, 2, 3] rfl rfl rfl (by decide) (fun u_14 H locs h_15 hP hD hS => ?_)
        have hP : va_P g.1 vwCl [(oX10 x0 y0 ta z0 p0 dr pa to_ s0 im ki tr v0 rf), (oX8 s0 h0 a0 b0 e0), (oX3 e0 e1 e2), (aI g e1 36 co)] H := hP
        have hD : va_D A [(oX10 x0 y0 ta z0 p0 dr pa to_ s0 im ki tr v0 rf), (oX8 s0 h0 a0 b0 e0), (oX3 e0 e1 e2), (aI g e1 36 co)] := hD
        refine lv_aload_n hx hb dX10_offers_39 rfl (lv_at hl 0 rfl) ?_
        refine va_get (v := .ref s0) (T := TX10) (N := 13) hx hb hts inX10 hown hK hP 0 rfl rfl 7 (by decide) f39 (fun _ h9 => h9) rfl dX10_offers_40 ?_
        refine va_get (v := .ref e0) (T := TX8) (N := 4) hx hb hts inX8 hown hK hP 1 rfl rfl 3 (by decide) f232 (fun _ h9 => h9) rfl dX10_offers_43 ?_
        refine lv_iload_n hx hb dX10_offers_46 rfl (lv_at hl 1 rfl) ?_
        refine lv_iload_n hx hb dX10_offers_47 rfl (lv_at hl 2 rfl) ?_
        refine lv_iload_n hx hb dX10_offers_48 rfl (lv_at hl 3 rfl) ?_
        refine he_ci (wc := [(oX3 e0 e1 e2), (aI g e1 36 co)]) (wr := [(oX10 x0 y0 ta z0 p0 dr pa to_ s0 im ki tr v0 rf), (oX8 s0 h0 a0 b0 e0)]) (va_runV (As := [.int (nI i), .int (nI j), .int z]) (rest := []) ⟨hx, hb, hml, hown, hts⟩ (c_X3_bid l g e0 e1 e2 co i j z (by first | assumption | decide | omega) (by first | assumption | decide | omega) H.size) (cwV 3 hts gX10_offers_X3_bid rfl rfl rfl (by decide +kernel) ⟨Nat.le_of_ble_eq_true rfl, Nat.le_of_ble_eq_true rfl⟩) (he_preV (wc := [(oX3 e0 e1 e2), (aI g e1 36 co)]) hK hP hD hS hA hE [2, 3] rfl rfl 2 rfl rfl) rfl rfl hl.1 rfl (lv_room (Nat.le_of_ble_eq_true rfl)) dX10_offers_49 ⟨(Nat.le_of_ble_eq_true rfl), (Nat.le_of_ble_eq_true rfl)⟩) hP hD hS hA [2, 3] [0, 1] rfl rfl rfl (by decide) (fun r_16 u_17 H locs h_18 hP hD hS => ?_)
        subst h_18
        have hP : va_P g.1 vwCl [(oX10 x0 y0 ta z0 p0 dr pa to_ s0 im ki tr v0 rf), (oX8 s0 h0 a0 b0 e0), (oX3 e0 e1 e2), (aI g e1 36 (upd co (j * 3 + i) z))] H := hP
        have hD : va_D A [(oX10 x0 y0 ta z0 p0 dr pa to_ s0 im ki tr v0 rf), (oX8 s0 h0 a0 b0 e0), (oX3 e0 e1 e2), (aI g e1 36 (upd co (j * 3 + i) z))] := hD
        exact he_ri hQ hx hb hr hlk hP hD hS dX10_offers_52 (Nat.le_of_ble_eq_true rfl) (Nat.le_of_ble_eq_true rfl) (()) (rfl) (rfl)
set_option maxHeartbeats 4000000 in
set_option maxRecDepth 100000 in
theorem g_X10_status (l : Launch) (g : he_G) (x0 : Nat) (y0 : Nat) (z0 : Nat) (p0 : Nat) (dr : Nat) (pa : Nat) (s0 : Nat) (im : Nat) (tr : Nat) (v0 : Nat) (rf : Nat) (ta : Int32) (to_ : Int32) (ki : Int32) (rc : Nat → Int32) (x : Int32) (hok0 : ¬ he_within x 0 2 = 0) : he_I l yX10_status wsX10_status 1 22 0 0 g [.ref x0, .int x] [(oX10 x0 y0 ta z0 p0 dr pa to_ s0 im ki tr v0 rf), (aI g rf 3 rc)] (fun (r : Int32) (u : Unit) => r = rc x.toNatClampNeg) (fun (u : Unit) => [(oX10 x0 y0 ta z0 p0 dr pa to_ s0 im ki tr v0 rf), (aI g rf 3 rc)]) := by
  refine he_begin (l := l) (g := g) (y := yX10_status) (wl := wsX10_status) (fr := 1) (lo := 22) (mc := 0) (ms := 0) (av := [.ref x0, .int x]) (ws := [(oX10 x0 y0 ta z0 p0 dr pa to_ s0 im ki tr v0 rf), (aI g rf 3 rc)]) (cc := cX10_status) (maxL := 2) (ret := (some .int)) (fun A => va_Qi (fun (r : Int32) (u : Unit) => r = rc x.toNatClampNeg) (fun u t => he_post g A ((fun (u : Unit) => [(oX10 x0 y0 ta z0 p0 dr pa to_ s0 im ki tr v0 rf), (aI g rf 3 rc)]) u) t) A) (by decide) rfl (Nat.le_of_ble_eq_true rfl) ?_
  intro p e s m args below meth c A ls H locs Q hQ hB
  obtain ⟨hx, hb, hr, hml, hown, hts, hlk, hin, hP, hK, hD, hS, hA, hE, hl⟩ := hB
  have hl : lv_has ls 2 [(0, .ref x0), (1, .int x)] := hl
  have f61 := hts (.fieldLink RX10 61 "HiredEnemy" "refused" "[I") (iwoX10_status (k := 0) rfl)
  have inX10 : ∀ w ∈ wsX100, w ∈ wsX10_status := innX10_status_X10
  refine lv_iload_n hx hb dX10_status_0 rfl (lv_at hl 1 rfl) ?_
  refine lv_iconst (v := 0) hx hb dX10_status_1 (by decide) ?_
  refine lv_aload_n hx hb dX10_status_2 rfl (lv_at hl 0 rfl) ?_
  refine va_get (v := .ref rf) (T := TX10) (N := 13) hx hb hts inX10 hown hK hP 0 rfl rfl 12 (by decide) f61 (fun _ h9 => h9) rfl dX10_status_3 ?_
  refine va_alen (v := 3) hx hb hK hP 1 1 rfl rfl rfl dX10_status_6 ?_
  refine lv_iconst (v := 1) hx hb dX10_status_7 (by decide) ?_
  refine lv_isub hx hb dX10_status_8 ?_
  refine he_top (2) (by decide) ?_
  refine he_ci (wc := []) (wr := [(oX10 x0 y0 ta z0 p0 dr pa to_ s0 im ki tr v0 rf), (aI g rf 3 rc)]) (va_runS (As := [.int x, .int 0, .int 2]) (rest := []) ⟨hx, hb, hml, hown, hts⟩ (c_X10_within l g x 0 2 H.size) (va_cwS 3 hts gX10_status_X10_within rfl rfl rfl (by decide +kernel) ⟨Nat.le_of_ble_eq_true rfl, Nat.le_of_ble_eq_true rfl⟩) (he_preS (wc := []) hK hP hD hS hA hE [] rfl rfl) rfl rfl hl.1 rfl (lv_room (Nat.le_of_ble_eq_true rfl)) dX10_status_9 ⟨(Nat.le_of_ble_eq_true rfl), (Nat.le_of_ble_eq_true rfl)⟩) hP hD hS hA [] [0, 1] rfl rfl rfl (by decide) (fun r_1 u_2 H locs h_3 hP hD hS => ?_)
  subst h_3
  have hP : va_P g.1 vwCl [(oX10 x0 y0 ta z0 p0 dr pa to_ s0 im ki tr v0 rf), (aI g rf 3 rc)] H := hP
  have hD : va_D A [(oX10 x0 y0 ta z0 p0 dr pa to_ s0 im ki tr v0 rf), (aI g rf 3 rc)] := hD
  refine he_top (1) (he_within_1 hok0) ?_
  refine lv_if_eq (tgt := 24) hx hb dX10_status_12 (by decide) (fun c_4 => ?_) (fun c_4 => ?_)
  · exact absurd c_4 (by decide)
  · refine lv_aload_n hx hb dX10_status_15 rfl (lv_at hl 0 rfl) ?_
    refine va_get (v := .ref rf) (T := TX10) (N := 13) hx hb hts inX10 hown hK hP 0 rfl rfl 12 (by decide) f61 (fun _ h9 => h9) rfl dX10_status_16 ?_
    refine lv_iload_n hx hb dX10_status_19 rfl (lv_at hl 1 rfl) ?_
    refine he_iald hx hb hK hP 1 rfl (x.toNatClampNeg) (he_within_nat (B := 2) rfl (by decide) hok0).1 (Nat.lt_of_le_of_lt (he_within_nat (B := 2) rfl (by decide) hok0).2 (by decide)) (by first | decide | assumption) (rc x.toNatClampNeg) rfl dX10_status_20 ?_
    refine lv_goto (tgt := 25) hx hb dX10_status_21 (by decide) ?_
    exact he_ri hQ hx hb hr hlk hP hD hS dX10_status_25 (Nat.le_of_ble_eq_true rfl) (Nat.le_of_ble_eq_true rfl) (()) (rfl) (rfl)
set_option maxHeartbeats 4000000 in
set_option maxRecDepth 100000 in
theorem g_X10_statusN (l : Launch) (g : he_G) (x0 : Nat) (y0 : Nat) (z0 : Nat) (p0 : Nat) (dr : Nat) (pa : Nat) (s0 : Nat) (im : Nat) (tr : Nat) (v0 : Nat) (rf : Nat) (ta : Int32) (to_ : Int32) (ki : Int32) (rc : Nat → Int32) (x : Int32) (hno : he_within x 0 2 = 0) : he_I l yX10_status wsX10_status 1 22 0 0 g [.ref x0, .int x] [(oX10 x0 y0 ta z0 p0 dr pa to_ s0 im ki tr v0 rf), (aI g rf 3 rc)] (fun (r : Int32) (u : Unit) => r = (-1)) (fun (u : Unit) => [(oX10 x0 y0 ta z0 p0 dr pa to_ s0 im ki tr v0 rf), (aI g rf 3 rc)]) := by
  refine he_begin (l := l) (g := g) (y := yX10_status) (wl := wsX10_status) (fr := 1) (lo := 22) (mc := 0) (ms := 0) (av := [.ref x0, .int x]) (ws := [(oX10 x0 y0 ta z0 p0 dr pa to_ s0 im ki tr v0 rf), (aI g rf 3 rc)]) (cc := cX10_status) (maxL := 2) (ret := (some .int)) (fun A => va_Qi (fun (r : Int32) (u : Unit) => r = (-1)) (fun u t => he_post g A ((fun (u : Unit) => [(oX10 x0 y0 ta z0 p0 dr pa to_ s0 im ki tr v0 rf), (aI g rf 3 rc)]) u) t) A) (by decide) rfl (Nat.le_of_ble_eq_true rfl) ?_
  intro p e s m args below meth c A ls H locs Q hQ hB
  obtain ⟨hx, hb, hr, hml, hown, hts, hlk, hin, hP, hK, hD, hS, hA, hE, hl⟩ := hB
  have hl : lv_has ls 2 [(0, .ref x0), (1, .int x)] := hl
  have f61 := hts (.fieldLink RX10 61 "HiredEnemy" "refused" "[I") (iwoX10_status (k := 0) rfl)
  have inX10 : ∀ w ∈ wsX100, w ∈ wsX10_status := innX10_status_X10
  refine lv_iload_n hx hb dX10_status_0 rfl (lv_at hl 1 rfl) ?_
  refine lv_iconst (v := 0) hx hb dX10_status_1 (by decide) ?_
  refine lv_aload_n hx hb dX10_status_2 rfl (lv_at hl 0 rfl) ?_
  refine va_get (v := .ref rf) (T := TX10) (N := 13) hx hb hts inX10 hown hK hP 0 rfl rfl 12 (by decide) f61 (fun _ h9 => h9) rfl dX10_status_3 ?_
  refine va_alen (v := 3) hx hb hK hP 1 1 rfl rfl rfl dX10_status_6 ?_
  refine lv_iconst (v := 1) hx hb dX10_status_7 (by decide) ?_
  refine lv_isub hx hb dX10_status_8 ?_
  refine he_top (2) (by decide) ?_
  refine he_ci (wc := []) (wr := [(oX10 x0 y0 ta z0 p0 dr pa to_ s0 im ki tr v0 rf), (aI g rf 3 rc)]) (va_runS (As := [.int x, .int 0, .int 2]) (rest := []) ⟨hx, hb, hml, hown, hts⟩ (c_X10_within l g x 0 2 H.size) (va_cwS 3 hts gX10_status_X10_within rfl rfl rfl (by decide +kernel) ⟨Nat.le_of_ble_eq_true rfl, Nat.le_of_ble_eq_true rfl⟩) (he_preS (wc := []) hK hP hD hS hA hE [] rfl rfl) rfl rfl hl.1 rfl (lv_room (Nat.le_of_ble_eq_true rfl)) dX10_status_9 ⟨(Nat.le_of_ble_eq_true rfl), (Nat.le_of_ble_eq_true rfl)⟩) hP hD hS hA [] [0, 1] rfl rfl rfl (by decide) (fun r_1 u_2 H locs h_3 hP hD hS => ?_)
  subst h_3
  have hP : va_P g.1 vwCl [(oX10 x0 y0 ta z0 p0 dr pa to_ s0 im ki tr v0 rf), (aI g rf 3 rc)] H := hP
  have hD : va_D A [(oX10 x0 y0 ta z0 p0 dr pa to_ s0 im ki tr v0 rf), (aI g rf 3 rc)] := hD
  refine he_top (0) hno ?_
  refine lv_if_eq (tgt := 24) hx hb dX10_status_12 (by decide) (fun c_4 => ?_) (fun c_4 => ?_)
  · refine lv_iconst (v := (-1)) hx hb dX10_status_24 (by decide) ?_
    exact he_ri hQ hx hb hr hlk hP hD hS dX10_status_25 (Nat.le_of_ble_eq_true rfl) (Nat.le_of_ble_eq_true rfl) (()) (rfl) (rfl)
  · exact absurd (by decide) c_4
set_option maxHeartbeats 4000000 in
set_option maxRecDepth 100000 in
theorem g_X10_count0 (l : Launch) (g : he_G) (x0 : Nat) (y0 : Nat) (z0 : Nat) (p0 : Nat) (dr : Nat) (pa : Nat) (s0 : Nat) (im : Nat) (tr : Nat) (v0 : Nat) (rf : Nat) (ta : Int32) (to_ : Int32) (ki : Int32) (h0 : Nat) (a0 : Nat) (e0 : Nat) (b0 : Nat) (b1 : Nat) (b2 : Nat) (x : Int32) (y : Int32) (rl : Int64) (hd : Int64) (th : Int32)  : he_I l yX10_count wsX10_count 0 0 0 0 g [.ref x0, .int 0] [(oX10 x0 y0 ta z0 p0 dr pa to_ s0 im ki tr v0 rf), (oX8 s0 h0 a0 b0 e0), (oX2 b0 b1 b2 x y rl hd th)] (fun (r : Int32) (u : Unit) => r = ki) (fun (u : Unit) => [(oX10 x0 y0 ta z0 p0 dr pa to_ s0 im ki tr v0 rf), (oX8 s0 h0 a0 b0 e0), (oX2 b0 b1 b2 x y rl hd th)]) := by
  refine he_begin (l := l) (g := g) (y := yX10_count) (wl := wsX10_count) (fr := 0) (lo := 0) (mc := 0) (ms := 0) (av := [.ref x0, .int 0]) (ws := [(oX10 x0 y0 ta z0 p0 dr pa to_ s0 im ki tr v0 rf), (oX8 s0 h0 a0 b0 e0), (oX2 b0 b1 b2 x y rl hd th)]) (cc := cX10_count) (maxL := 2) (ret := (some .int)) (fun A => va_Qi (fun (r : Int32) (u : Unit) => r = ki) (fun u t => he_post g A ((fun (u : Unit) => [(oX10 x0 y0 ta z0 p0 dr pa to_ s0 im ki tr v0 rf), (oX8 s0 h0 a0 b0 e0), (oX2 b0 b1 b2 x y rl hd th)]) u) t) A) (by decide) rfl (Nat.le_of_ble_eq_true rfl) ?_
  intro p e s m args below meth c A ls H locs Q hQ hB
  obtain ⟨hx, hb, hr, hml, hown, hts, hlk, hin, hP, hK, hD, hS, hA, hE, hl⟩ := hB
  have hl : lv_has ls 2 [(0, .ref x0), (1, .int 0)] := hl
  have f95 := hts (.fieldLink RX10 95 "HiredEnemy" "imagesKept" "I") (iwoX10_count (k := 0) rfl)
  have inX10 : ∀ w ∈ wsX100, w ∈ wsX10_count := innX10_count_X10
  refine lv_iload_n hx hb dX10_count_0 rfl (lv_at hl 1 rfl) ?_
  refine lv_tableIn (tgt := 28) hx hb dX10_count_1 (by decide) (by decide) rfl (by decide) ?_
  refine lv_aload_n hx hb dX10_count_28 rfl (lv_at hl 0 rfl) ?_
  refine va_get (v := .int ki) (T := TX10) (N := 13) hx hb hts inX10 hown hK hP 0 rfl rfl 9 (by decide) f95 (fun _ h9 => h9) rfl dX10_count_29 ?_
  exact he_ri hQ hx hb hr hlk hP hD hS dX10_count_32 (Nat.le_of_ble_eq_true rfl) (Nat.le_of_ble_eq_true rfl) (()) (rfl) (rfl)
set_option maxHeartbeats 4000000 in
set_option maxRecDepth 100000 in
theorem g_X10_count1 (l : Launch) (g : he_G) (x0 : Nat) (y0 : Nat) (z0 : Nat) (p0 : Nat) (dr : Nat) (pa : Nat) (s0 : Nat) (im : Nat) (tr : Nat) (v0 : Nat) (rf : Nat) (ta : Int32) (to_ : Int32) (ki : Int32) (h0 : Nat) (a0 : Nat) (e0 : Nat) (b0 : Nat) (b1 : Nat) (b2 : Nat) (x : Int32) (y : Int32) (rl : Int64) (hd : Int64) (th : Int32)  : he_I l yX10_count wsX10_count 0 0 0 0 g [.ref x0, .int 1] [(oX10 x0 y0 ta z0 p0 dr pa to_ s0 im ki tr v0 rf), (oX8 s0 h0 a0 b0 e0), (oX2 b0 b1 b2 x y rl hd th)] (fun (r : Int32) (u : Unit) => r = ta) (fun (u : Unit) => [(oX10 x0 y0 ta z0 p0 dr pa to_ s0 im ki tr v0 rf), (oX8 s0 h0 a0 b0 e0), (oX2 b0 b1 b2 x y rl hd th)]) := by
  refine he_begin (l := l) (g := g) (y := yX10_count) (wl := wsX10_count) (fr := 0) (lo := 0) (mc := 0) (ms := 0) (av := [.ref x0, .int 1]) (ws := [(oX10 x0 y0 ta z0 p0 dr pa to_ s0 im ki tr v0 rf), (oX8 s0 h0 a0 b0 e0), (oX2 b0 b1 b2 x y rl hd th)]) (cc := cX10_count) (maxL := 2) (ret := (some .int)) (fun A => va_Qi (fun (r : Int32) (u : Unit) => r = ta) (fun u t => he_post g A ((fun (u : Unit) => [(oX10 x0 y0 ta z0 p0 dr pa to_ s0 im ki tr v0 rf), (oX8 s0 h0 a0 b0 e0), (oX2 b0 b1 b2 x y rl hd th)]) u) t) A) (by decide) rfl (Nat.le_of_ble_eq_true rfl) ?_
  intro p e s m args below meth c A ls H locs Q hQ hB
  obtain ⟨hx, hb, hr, hml, hown, hts, hlk, hin, hP, hK, hD, hS, hA, hE, hl⟩ := hB
  have hl : lv_has ls 2 [(0, .ref x0), (1, .int 1)] := hl
  have f73 := hts (.fieldLink RX10 73 "HiredEnemy" "taped" "I") (iwoX10_count (k := 1) rfl)
  have inX10 : ∀ w ∈ wsX100, w ∈ wsX10_count := innX10_count_X10
  refine lv_iload_n hx hb dX10_count_0 rfl (lv_at hl 1 rfl) ?_
  refine lv_tableIn (tgt := 33) hx hb dX10_count_1 (by decide) (by decide) rfl (by decide) ?_
  refine lv_aload_n hx hb dX10_count_33 rfl (lv_at hl 0 rfl) ?_
  refine va_get (v := .int ta) (T := TX10) (N := 13) hx hb hts inX10 hown hK hP 0 rfl rfl 1 (by decide) f73 (fun _ h9 => h9) rfl dX10_count_34 ?_
  exact he_ri hQ hx hb hr hlk hP hD hS dX10_count_37 (Nat.le_of_ble_eq_true rfl) (Nat.le_of_ble_eq_true rfl) (()) (rfl) (rfl)
set_option maxHeartbeats 4000000 in
set_option maxRecDepth 100000 in
theorem g_X10_count2 (l : Launch) (g : he_G) (x0 : Nat) (y0 : Nat) (z0 : Nat) (p0 : Nat) (dr : Nat) (pa : Nat) (s0 : Nat) (im : Nat) (tr : Nat) (v0 : Nat) (rf : Nat) (ta : Int32) (to_ : Int32) (ki : Int32) (h0 : Nat) (a0 : Nat) (e0 : Nat) (b0 : Nat) (b1 : Nat) (b2 : Nat) (x : Int32) (y : Int32) (rl : Int64) (hd : Int64) (th : Int32)  : he_I l yX10_count wsX10_count 0 0 0 0 g [.ref x0, .int 2] [(oX10 x0 y0 ta z0 p0 dr pa to_ s0 im ki tr v0 rf), (oX8 s0 h0 a0 b0 e0), (oX2 b0 b1 b2 x y rl hd th)] (fun (r : Int32) (u : Unit) => r = th) (fun (u : Unit) => [(oX10 x0 y0 ta z0 p0 dr pa to_ s0 im ki tr v0 rf), (oX8 s0 h0 a0 b0 e0), (oX2 b0 b1 b2 x y rl hd th)]) := by
  refine he_begin (l := l) (g := g) (y := yX10_count) (wl := wsX10_count) (fr := 0) (lo := 0) (mc := 0) (ms := 0) (av := [.ref x0, .int 2]) (ws := [(oX10 x0 y0 ta z0 p0 dr pa to_ s0 im ki tr v0 rf), (oX8 s0 h0 a0 b0 e0), (oX2 b0 b1 b2 x y rl hd th)]) (cc := cX10_count) (maxL := 2) (ret := (some .int)) (fun A => va_Qi (fun (r : Int32) (u : Unit) => r = th) (fun u t => he_post g A ((fun (u : Unit) => [(oX10 x0 y0 ta z0 p0 dr pa to_ s0 im ki tr v0 rf), (oX8 s0 h0 a0 b0 e0), (oX2 b0 b1 b2 x y rl hd th)]) u) t) A) (by decide) rfl (Nat.le_of_ble_eq_true rfl) ?_
  intro p e s m args below meth c A ls H locs Q hQ hB
  obtain ⟨hx, hb, hr, hml, hown, hts, hlk, hin, hP, hK, hD, hS, hA, hE, hl⟩ := hB
  have hl : lv_has ls 2 [(0, .ref x0), (1, .int 2)] := hl
  have f39 := hts (.fieldLink RX10 39 "HiredEnemy" "scene" "LHiredEnemy$Scene;") (iwoX10_count (k := 2) rfl)
  have inX10 : ∀ w ∈ wsX100, w ∈ wsX10_count := innX10_count_X10
  have f189 := hts (.fieldLink RX10 189 "HiredEnemy$Scene" "belief" "LHiredEnemy$Belief;") (iwoX10_count (k := 3) rfl)
  have inX8 : ∀ w ∈ wsX80, w ∈ wsX10_count := innX10_count_X8
  have f248 := hts (.fieldLink RX10 248 "HiredEnemy$Belief" "things" "I") (iwoX10_count (k := 4) rfl)
  have inX2 : ∀ w ∈ wsX20, w ∈ wsX10_count := innX10_count_X2
  refine lv_iload_n hx hb dX10_count_0 rfl (lv_at hl 1 rfl) ?_
  refine lv_tableIn (tgt := 38) hx hb dX10_count_1 (by decide) (by decide) rfl (by decide) ?_
  refine lv_aload_n hx hb dX10_count_38 rfl (lv_at hl 0 rfl) ?_
  refine va_get (v := .ref s0) (T := TX10) (N := 13) hx hb hts inX10 hown hK hP 0 rfl rfl 7 (by decide) f39 (fun _ h9 => h9) rfl dX10_count_39 ?_
  refine va_get (v := .ref b0) (T := TX8) (N := 4) hx hb hts inX8 hown hK hP 1 rfl rfl 2 (by decide) f189 (fun _ h9 => h9) rfl dX10_count_42 ?_
  refine va_get (v := .int th) (T := TX2) (N := 7) hx hb hts inX2 hown hK hP 2 rfl rfl 6 (by decide) f248 (fun _ h9 => h9) rfl dX10_count_45 ?_
  exact he_ri hQ hx hb hr hlk hP hD hS dX10_count_48 (Nat.le_of_ble_eq_true rfl) (Nat.le_of_ble_eq_true rfl) (()) (rfl) (rfl)
set_option maxHeartbeats 4000000 in
set_option maxRecDepth 100000 in
theorem g_X10_countN (l : Launch) (g : he_G) (x0 : Nat) (y0 : Nat) (z0 : Nat) (p0 : Nat) (dr : Nat) (pa : Nat) (s0 : Nat) (im : Nat) (tr : Nat) (v0 : Nat) (rf : Nat) (ta : Int32) (to_ : Int32) (ki : Int32) (x : Int32) (hout : x.toInt < 0 ∨ 2 < x.toInt) : he_I l yX10_count wsX10_count 0 0 0 0 g [.ref x0, .int x] [(oX10 x0 y0 ta z0 p0 dr pa to_ s0 im ki tr v0 rf)] (fun (r : Int32) (u : Unit) => r = (-1)) (fun (u : Unit) => [(oX10 x0 y0 ta z0 p0 dr pa to_ s0 im ki tr v0 rf)]) := by
  refine he_begin (l := l) (g := g) (y := yX10_count) (wl := wsX10_count) (fr := 0) (lo := 0) (mc := 0) (ms := 0) (av := [.ref x0, .int x]) (ws := [(oX10 x0 y0 ta z0 p0 dr pa to_ s0 im ki tr v0 rf)]) (cc := cX10_count) (maxL := 2) (ret := (some .int)) (fun A => va_Qi (fun (r : Int32) (u : Unit) => r = (-1)) (fun u t => he_post g A ((fun (u : Unit) => [(oX10 x0 y0 ta z0 p0 dr pa to_ s0 im ki tr v0 rf)]) u) t) A) (by decide) rfl (Nat.le_of_ble_eq_true rfl) ?_
  intro p e s m args below meth c A ls H locs Q hQ hB
  obtain ⟨hx, hb, hr, hml, hown, hts, hlk, hin, hP, hK, hD, hS, hA, hE, hl⟩ := hB
  have hl : lv_has ls 2 [(0, .ref x0), (1, .int x)] := hl
  refine lv_iload_n hx hb dX10_count_0 rfl (lv_at hl 1 rfl) ?_
  refine lv_tableOut (tgt := 49) hx hb dX10_count_1 hout (by decide) ?_
  refine lv_iconst (v := (-1)) hx hb dX10_count_49 (by decide) ?_
  exact he_ri hQ hx hb hr hlk hP hD hS dX10_count_50 (Nat.le_of_ble_eq_true rfl) (Nat.le_of_ble_eq_true rfl) (()) (rfl) (rfl)
end
section
set_option maxHeartbeats 4000000 in
set_option maxRecDepth 100000 in
theorem g_X10_imageF (l : Launch) (g : he_G) (x0 : Nat) (y0 : Nat) (z0 : Nat) (p0 : Nat) (dr : Nat) (pa : Nat) (im : Nat) (tr : Nat) (v0 : Nat) (rf : Nat) (ta : Int32) (to_ : Int32) (ss : Nat) (nk : Nat) (hnk : nk = 3) : he_I l yX10_image wsX10_image 0 0 0 0 g [.ref x0] [(oX10 x0 y0 ta z0 p0 dr pa to_ ss im (nI nk) tr v0 rf)] (fun (r : Int32) (u : Unit) => r = (-1)) (fun (u : Unit) => [(oX10 x0 y0 ta z0 p0 dr pa to_ ss im (nI nk) tr v0 rf)]) := by
  refine he_begin (l := l) (g := g) (y := yX10_image) (wl := wsX10_image) (fr := 0) (lo := 0) (mc := 0) (ms := 0) (av := [.ref x0]) (ws := [(oX10 x0 y0 ta z0 p0 dr pa to_ ss im (nI nk) tr v0 rf)]) (cc := cX10_image) (maxL := 1) (ret := (some .int)) (fun A => va_Qi (fun (r : Int32) (u : Unit) => r = (-1)) (fun u t => he_post g A ((fun (u : Unit) => [(oX10 x0 y0 ta z0 p0 dr pa to_ ss im (nI nk) tr v0 rf)]) u) t) A) (by decide) rfl (Nat.le_of_ble_eq_true rfl) ?_
  intro p e s m args below meth c A ls H locs Q hQ hB
  obtain ⟨hx, hb, hr, hml, hown, hts, hlk, hin, hP, hK, hD, hS, hA, hE, hl⟩ := hB
  have hl : lv_has ls 1 [(0, .ref x0)] := hl
  have f95 := hts (.fieldLink RX10 95 "HiredEnemy" "imagesKept" "I") (iwoX10_image (k := 0) rfl)
  have inX10 : ∀ w ∈ wsX100, w ∈ wsX10_image := innX10_image_X10
  refine lv_aload_n hx hb dX10_image_0 rfl (lv_at hl 0 rfl) ?_
  refine va_get (v := .int (nI nk)) (T := TX10) (N := 13) hx hb hts inX10 hown hK hP 0 rfl rfl 9 (by decide) f95 (fun _ h9 => h9) rfl dX10_image_1 ?_
  refine lv_iconst (v := 3) hx hb dX10_image_4 (by decide) ?_
  refine lv_icmp_lt (tgt := 10) hx hb dX10_image_5 (by decide) (fun c_1 => ?_) (fun c_1 => ?_)
  · exact absurd c_1 (by rw [hnk]; decide)
  · refine lv_iconst (v := (-1)) hx hb dX10_image_8 (by decide) ?_
    exact he_ri hQ hx hb hr hlk hP hD hS dX10_image_9 (Nat.le_of_ble_eq_true rfl) (Nat.le_of_ble_eq_true rfl) (()) (rfl) (rfl)
set_option maxHeartbeats 4000000 in
set_option maxRecDepth 100000 in
theorem g_X10_image (l : Launch) (g : he_G) (x0 : Nat) (y0 : Nat) (z0 : Nat) (p0 : Nat) (dr : Nat) (pa : Nat) (im : Nat) (tr : Nat) (v0 : Nat) (rf : Nat) (ta : Int32) (to_ : Int32) (nk : Nat) (imf : Nat → Option Nat) (ss : Nat) (sh : Nat) (sq : Nat) (sr : Nat) (sa : Nat) (sl : Nat) (sb : Nat) (sc : Nat) (sd : Nat) (se : Nat) (sf : Nat) (sg : Nat) (k : Nat) (sx : Int32) (sy : Int32) (srl : Int64) (shd : Int64) (sth : Int32) (sf0 : Nat → Int32) (ssh : Nat → Int32) (sln : Nat → Int32) (sfr : Nat → Int32) (sfh : Nat → Int32) (sco : Nat → Int32) (sre : Nat → Int32) (u_s : Nat) (u_h : Nat) (u_q : Nat) (u_r : Nat) (u_a : Nat) (u_l : Nat) (u_b : Nat) (u_c : Nat) (u_d : Nat) (u_e : Nat) (u_f : Nat) (u_g : Nat) (u_k : Int32) (u_x : Int32) (u_y : Int32) (u_rl : Int64) (u_hd : Int64) (u_th : Int32) (u_f0 : Nat → Int32) (u_sh : Nat → Int32) (u_ln : Nat → Int32) (u_fr : Nat → Int32) (u_fh : Nat → Int32) (u_co : Nat → Int32) (u_re : Nat → Int32) (hnk : nk < 3) (him : imf nk = some u_s) (hk : k ≤ 120) : he_I l yX10_image wsX10_image 3 65 0 0 g [.ref x0] [(oX10 x0 y0 ta z0 p0 dr pa to_ ss im (nI nk) tr v0 rf), (aS g im 3 imf), (oX8 ss sh sa sb se), (oX4 sh sq sr (nI k)), (aI g sq 24 sf0), (aI g sr 6 ssh), (oX0 sa sl), (aI g sl 3600 sln), (oX2 sb sc sd sx sy srl shd sth), (aI g sc 4 sfr), (aI g sd 4 sfh), (oX3 se sf sg), (aI g sf 36 sco), (aI g sg 39 sre), (oX8 u_s u_h u_a u_b u_e), (oX4 u_h u_q u_r u_k), (aI g u_q 24 u_f0), (aI g u_r 6 u_sh), (oX0 u_a u_l), (aI g u_l 3600 u_ln), (oX2 u_b u_c u_d u_x u_y u_rl u_hd u_th), (aI g u_c 4 u_fr), (aI g u_d 4 u_fh), (oX3 u_e u_f u_g), (aI g u_f 36 u_co), (aI g u_g 39 u_re)] (fun (r : Int32) (u : Unit) => r = nI (nk + 1)) (fun (u : Unit) => [(oX10 x0 y0 ta z0 p0 dr pa to_ ss im (nI (nk + 1)) tr v0 rf), (aS g im 3 imf), (oX8 ss sh sa sb se), (oX4 sh sq sr (nI k)), (aI g sq 24 sf0), (aI g sr 6 ssh), (oX0 sa sl), (aI g sl 3600 sln), (oX2 sb sc sd sx sy srl shd sth), (aI g sc 4 sfr), (aI g sd 4 sfh), (oX3 se sf sg), (aI g sf 36 sco), (aI g sg 39 sre), (oX8 u_s u_h u_a u_b u_e), (oX4 u_h u_q u_r (nI k)), (aI g u_q 24 (va_cpy sf0 u_f0 0 0 24)), (aI g u_r 6 u_sh), (oX0 u_a u_l), (aI g u_l 3600 (va_cpy sln u_ln 0 0 (k * 30))), (oX2 u_b u_c u_d sx sy srl shd sth), (aI g u_c 4 (va_cpy sfr u_fr 0 0 4)), (aI g u_d 4 (va_cpy sfh u_fh 0 0 4)), (oX3 u_e u_f u_g), (aI g u_f 36 (va_cpy sco u_co 0 0 36)), (aI g u_g 39 u_re)]) := by
  refine he_begin (l := l) (g := g) (y := yX10_image) (wl := wsX10_image) (fr := 3) (lo := 65) (mc := 0) (ms := 0) (av := [.ref x0]) (ws := [(oX10 x0 y0 ta z0 p0 dr pa to_ ss im (nI nk) tr v0 rf), (aS g im 3 imf), (oX8 ss sh sa sb se), (oX4 sh sq sr (nI k)), (aI g sq 24 sf0), (aI g sr 6 ssh), (oX0 sa sl), (aI g sl 3600 sln), (oX2 sb sc sd sx sy srl shd sth), (aI g sc 4 sfr), (aI g sd 4 sfh), (oX3 se sf sg), (aI g sf 36 sco), (aI g sg 39 sre), (oX8 u_s u_h u_a u_b u_e), (oX4 u_h u_q u_r u_k), (aI g u_q 24 u_f0), (aI g u_r 6 u_sh), (oX0 u_a u_l), (aI g u_l 3600 u_ln), (oX2 u_b u_c u_d u_x u_y u_rl u_hd u_th), (aI g u_c 4 u_fr), (aI g u_d 4 u_fh), (oX3 u_e u_f u_g), (aI g u_f 36 u_co), (aI g u_g 39 u_re)]) (cc := cX10_image) (maxL := 1) (ret := (some .int)) (fun A => va_Qi (fun (r : Int32) (u : Unit) => r = nI (nk + 1)) (fun u t => he_post g A ((fun (u : Unit) => [(oX10 x0 y0 ta z0 p0 dr pa to_ ss im (nI (nk + 1)) tr v0 rf), (aS g im 3 imf), (oX8 ss sh sa sb se), (oX4 sh sq sr (nI k)), (aI g sq 24 sf0), (aI g sr 6 ssh), (oX0 sa sl), (aI g sl 3600 sln), (oX2 sb sc sd sx sy srl shd sth), (aI g sc 4 sfr), (aI g sd 4 sfh), (oX3 se sf sg), (aI g sf 36 sco), (aI g sg 39 sre), (oX8 u_s u_h u_a u_b u_e), (oX4 u_h u_q u_r (nI k)), (aI g u_q 24 (va_cpy sf0 u_f0 0 0 24)), (aI g u_r 6 u_sh), (oX0 u_a u_l), (aI g u_l 3600 (va_cpy sln u_ln 0 0 (k * 30))), (oX2 u_b u_c u_d sx sy srl shd sth), (aI g u_c 4 (va_cpy sfr u_fr 0 0 4)), (aI g u_d 4 (va_cpy sfh u_fh 0 0 4)), (oX3 u_e u_f u_g), (aI g u_f 36 (va_cpy sco u_co 0 0 36)), (aI g u_g 39 u_re)]) u) t) A) (by decide) rfl (Nat.le_of_ble_eq_true rfl) ?_
  intro p e s m args below meth c A ls H locs Q hQ hB
  obtain ⟨hx, hb, hr, hml, hown, hts, hlk, hin, hP, hK, hD, hS, hA, hE, hl⟩ := hB
  have hl : lv_has ls 1 [(0, .ref x0)] := hl
  have f95 := hts (.fieldLink RX10 95 "HiredEnemy" "imagesKept" "I") (iwoX10_image (k := 0) rfl)
  have inX10 : ∀ w ∈ wsX100, w ∈ wsX10_image := innX10_image_X10
  have f43 := hts (.fieldLink RX10 43 "HiredEnemy" "images" "[LHiredEnemy$Scene;") (iwoX10_image (k := 1) rfl)
  have f39 := hts (.fieldLink RX10 39 "HiredEnemy" "scene" "LHiredEnemy$Scene;") (iwoX10_image (k := 5) rfl)
  refine lv_aload_n hx hb dX10_image_0 rfl (lv_at hl 0 rfl) ?_
  refine va_get (v := .int (nI nk)) (T := TX10) (N := 13) hx hb hts inX10 hown hK hP 0 rfl rfl 9 (by decide) f95 (fun _ h9 => h9) rfl dX10_image_1 ?_
  refine lv_iconst (v := 3) hx hb dX10_image_4 (by decide) ?_
  refine lv_icmp_lt (tgt := 10) hx hb dX10_image_5 (by decide) (fun c_1 => ?_) (fun c_1 => ?_)
  · refine lv_aload_n hx hb dX10_image_10 rfl (lv_at hl 0 rfl) ?_
    refine va_get (v := .ref im) (T := TX10) (N := 13) hx hb hts inX10 hown hK hP 0 rfl rfl 8 (by decide) f43 (fun _ h9 => h9) rfl dX10_image_11 ?_
    refine lv_aload_n hx hb dX10_image_14 rfl (lv_at hl 0 rfl) ?_
    refine va_get (v := .int (nI nk)) (T := TX10) (N := 13) hx hb hts inX10 hown hK hP 0 rfl rfl 9 (by decide) f95 (fun _ h9 => h9) rfl dX10_image_15 ?_
    refine he_ald hx hb 3 rfl hK hP 1 rfl (nk) rfl (by first | assumption | decide | omega) (by first | decide | assumption) (.ref u_s) (by rw [him]; rfl) dX10_image_18 ?_
    refine lv_ifnonnull (tgt := 38) hx hb dX10_image_19 (by decide) ?_
    refine lv_aload_n hx hb dX10_image_38 rfl (lv_at hl 0 rfl) ?_
    refine va_get (v := .ref im) (T := TX10) (N := 13) hx hb hts inX10 hown hK hP 0 rfl rfl 8 (by decide) f43 (fun _ h9 => h9) rfl dX10_image_39 ?_
    refine lv_aload_n hx hb dX10_image_42 rfl (lv_at hl 0 rfl) ?_
    refine va_get (v := .int (nI nk)) (T := TX10) (N := 13) hx hb hts inX10 hown hK hP 0 rfl rfl 9 (by decide) f95 (fun _ h9 => h9) rfl dX10_image_43 ?_
    refine he_ald hx hb 3 rfl hK hP 1 rfl (nk) rfl (by first | assumption | decide | omega) (by first | decide | assumption) (.ref u_s) (by rw [him]; rfl) dX10_image_46 ?_
    refine lv_aload_n hx hb dX10_image_47 rfl (lv_at hl 0 rfl) ?_
    refine va_get (v := .ref ss) (T := TX10) (N := 13) hx hb hts inX10 hown hK hP 0 rfl rfl 7 (by decide) f39 (fun _ h9 => h9) rfl dX10_image_48 ?_
    refine he_cv (wc := [(oX8 u_s u_h u_a u_b u_e), (oX4 u_h u_q u_r u_k), (aI g u_q 24 u_f0), (oX0 u_a u_l), (aI g u_l 3600 u_ln), (oX2 u_b u_c u_d u_x u_y u_rl u_hd u_th), (aI g u_c 4 u_fr), (aI g u_d 4 u_fh), (oX3 u_e u_f u_g), (aI g u_f 36 u_co), (oX8 ss sh sa sb se), (oX4 sh sq sr (nI k)), (aI g sq 24 sf0), (oX0 sa sl), (aI g sl 3600 sln), (oX2 sb sc sd sx sy srl shd sth), (aI g sc 4 sfr), (aI g sd 4 sfh), (oX3 se sf sg), (aI g sf 36 sco)]) (wr := [(oX10 x0 y0 ta z0 p0 dr pa to_ ss im (nI nk) tr v0 rf), (aS g im 3 imf), (aI g sr 6 ssh), (aI g sg 39 sre), (aI g u_r 6 u_sh), (aI g u_g 39 u_re)]) (va_runV (As := [.ref ss]) (rest := []) ⟨hx, hb, hml, hown, hts⟩ (c_X8_take l g u_s u_h u_q u_r u_k u_f0 u_a u_l u_ln u_b u_c u_d u_x u_y u_rl u_hd u_th u_fr u_fh u_e u_f u_g u_co ss sh sq sr k sf0 sa sl sln sb sc sd sx sy srl shd sth sfr sfh se sf sg sco (by first | assumption | decide | omega) H.size) (cwV 1 hts gX10_image_X8_take rfl rfl rfl (by decide +kernel) ⟨Nat.le_of_ble_eq_true rfl, Nat.le_of_ble_eq_true rfl⟩) (he_preV (wc := [(oX8 u_s u_h u_a u_b u_e), (oX4 u_h u_q u_r u_k), (aI g u_q 24 u_f0), (oX0 u_a u_l), (aI g u_l 3600 u_ln), (oX2 u_b u_c u_d u_x u_y u_rl u_hd u_th), (aI g u_c 4 u_fr), (aI g u_d 4 u_fh), (oX3 u_e u_f u_g), (aI g u_f 36 u_co), (oX8 ss sh sa sb se), (oX4 sh sq sr (nI k)), (aI g sq 24 sf0), (oX0 sa sl), (aI g sl 3600 sln), (oX2 sb sc sd sx sy srl shd sth), (aI g sc 4 sfr), (aI g sd 4 sfh), (oX3 se sf sg), (aI g sf 36 sco)]) hK hP hD hS hA hE [14, 15, 16, 18, 19, 20, 21, 22, 23, 24, 2, 3, 4, 6, 7, 8, 9, 10, 11, 12] rfl rfl 14 rfl rfl) rfl rfl hl.1 rfl (lv_room (Nat.le_of_ble_eq_true rfl)) dX10_image_51 ⟨(Nat.le_of_ble_eq_true rfl), (Nat.le_of_ble_eq_true rfl)⟩) hP hD hS hA [14, 15, 16, 18, 19, 20, 21, 22, 23, 24, 2, 3, 4, 6, 7, 8, 9, 10, 11, 12] [0, 1, 5, 13, 17, 25] rfl rfl rfl (by decide) (fun u_3 H locs h_4 hP hD hS => ?_)
    have hP : va_P g.1 vwCl [(oX10 x0 y0 ta z0 p0 dr pa to_ ss im (nI nk) tr v0 rf), (aS g im 3 imf), (aI g sr 6 ssh), (aI g sg 39 sre), (aI g u_r 6 u_sh), (aI g u_g 39 u_re), (oX8 u_s u_h u_a u_b u_e), (oX4 u_h u_q u_r (nI k)), (aI g u_q 24 (va_cpy sf0 u_f0 0 0 24)), (oX0 u_a u_l), (aI g u_l 3600 (va_cpy sln u_ln 0 0 (k * 30))), (oX2 u_b u_c u_d sx sy srl shd sth), (aI g u_c 4 (va_cpy sfr u_fr 0 0 4)), (aI g u_d 4 (va_cpy sfh u_fh 0 0 4)), (oX3 u_e u_f u_g), (aI g u_f 36 (va_cpy sco u_co 0 0 36)), (oX8 ss sh sa sb se), (oX4 sh sq sr (nI k)), (aI g sq 24 sf0), (oX0 sa sl), (aI g sl 3600 sln), (oX2 sb sc sd sx sy srl shd sth), (aI g sc 4 sfr), (aI g sd 4 sfh), (oX3 se sf sg), (aI g sf 36 sco)] H := hP
    have hD : va_D A [(oX10 x0 y0 ta z0 p0 dr pa to_ ss im (nI nk) tr v0 rf), (aS g im 3 imf), (aI g sr 6 ssh), (aI g sg 39 sre), (aI g u_r 6 u_sh), (aI g u_g 39 u_re), (oX8 u_s u_h u_a u_b u_e), (oX4 u_h u_q u_r (nI k)), (aI g u_q 24 (va_cpy sf0 u_f0 0 0 24)), (oX0 u_a u_l), (aI g u_l 3600 (va_cpy sln u_ln 0 0 (k * 30))), (oX2 u_b u_c u_d sx sy srl shd sth), (aI g u_c 4 (va_cpy sfr u_fr 0 0 4)), (aI g u_d 4 (va_cpy sfh u_fh 0 0 4)), (oX3 u_e u_f u_g), (aI g u_f 36 (va_cpy sco u_co 0 0 36)), (oX8 ss sh sa sb se), (oX4 sh sq sr (nI k)), (aI g sq 24 sf0), (oX0 sa sl), (aI g sl 3600 sln), (oX2 sb sc sd sx sy srl shd sth), (aI g sc 4 sfr), (aI g sd 4 sfh), (oX3 se sf sg), (aI g sf 36 sco)] := hD
    refine lv_aload_n hx hb dX10_image_54 rfl (lv_at hl 0 rfl) ?_
    refine lv_dup hx hb dX10_image_55 rfl ?_
    refine va_get (v := .int (nI nk)) (T := TX10) (N := 13) hx hb hts inX10 hown hK hP 0 rfl rfl 9 (by decide) f95 (fun _ h9 => h9) rfl dX10_image_56 ?_
    refine lv_iconst (v := 1) hx hb dX10_image_59 (by decide) ?_
    refine lv_iadd hx hb dX10_image_60 ?_
    refine he_top (nI (nk + 1)) (nI_add nk 1) ?_
    refine va_put (v := .int (nI (nk + 1))) (ty := .int) (T := TX10) (N := 13) hx hb hts inX10 tyX10 tyX10_ok nmX10 hown hK hP hD hS 0 rfl rfl 9 (by decide) f95 (fun _ h9 => h9) rfl (by decide +kernel) rfl rfl (Nat.le_of_ble_eq_true rfl) dX10_image_61 (fun H locs hP hD hS => ?_)
    have hP : va_P g.1 vwCl [(oX10 x0 y0 ta z0 p0 dr pa to_ ss im (nI (nk + 1)) tr v0 rf), (aS g im 3 imf), (aI g sr 6 ssh), (aI g sg 39 sre), (aI g u_r 6 u_sh), (aI g u_g 39 u_re), (oX8 u_s u_h u_a u_b u_e), (oX4 u_h u_q u_r (nI k)), (aI g u_q 24 (va_cpy sf0 u_f0 0 0 24)), (oX0 u_a u_l), (aI g u_l 3600 (va_cpy sln u_ln 0 0 (k * 30))), (oX2 u_b u_c u_d sx sy srl shd sth), (aI g u_c 4 (va_cpy sfr u_fr 0 0 4)), (aI g u_d 4 (va_cpy sfh u_fh 0 0 4)), (oX3 u_e u_f u_g), (aI g u_f 36 (va_cpy sco u_co 0 0 36)), (oX8 ss sh sa sb se), (oX4 sh sq sr (nI k)), (aI g sq 24 sf0), (oX0 sa sl), (aI g sl 3600 sln), (oX2 sb sc sd sx sy srl shd sth), (aI g sc 4 sfr), (aI g sd 4 sfh), (oX3 se sf sg), (aI g sf 36 sco)] H := hP
    have hD : va_D A [(oX10 x0 y0 ta z0 p0 dr pa to_ ss im (nI (nk + 1)) tr v0 rf), (aS g im 3 imf), (aI g sr 6 ssh), (aI g sg 39 sre), (aI g u_r 6 u_sh), (aI g u_g 39 u_re), (oX8 u_s u_h u_a u_b u_e), (oX4 u_h u_q u_r (nI k)), (aI g u_q 24 (va_cpy sf0 u_f0 0 0 24)), (oX0 u_a u_l), (aI g u_l 3600 (va_cpy sln u_ln 0 0 (k * 30))), (oX2 u_b u_c u_d sx sy srl shd sth), (aI g u_c 4 (va_cpy sfr u_fr 0 0 4)), (aI g u_d 4 (va_cpy sfh u_fh 0 0 4)), (oX3 u_e u_f u_g), (aI g u_f 36 (va_cpy sco u_co 0 0 36)), (oX8 ss sh sa sb se), (oX4 sh sq sr (nI k)), (aI g sq 24 sf0), (oX0 sa sl), (aI g sl 3600 sln), (oX2 sb sc sd sx sy srl shd sth), (aI g sc 4 sfr), (aI g sd 4 sfh), (oX3 se sf sg), (aI g sf 36 sco)] := hD
    refine lv_aload_n hx hb dX10_image_64 rfl (lv_at hl 0 rfl) ?_
    refine va_get (v := .int (nI (nk + 1))) (T := TX10) (N := 13) hx hb hts inX10 hown hK hP 0 rfl rfl 9 (by decide) f95 (fun _ h9 => h9) rfl dX10_image_65 ?_
    have hP := hP.sub (ws' := [(oX10 x0 y0 ta z0 p0 dr pa to_ ss im (nI (nk + 1)) tr v0 rf), (aS g im 3 imf), (oX8 ss sh sa sb se), (oX4 sh sq sr (nI k)), (aI g sq 24 sf0), (aI g sr 6 ssh), (oX0 sa sl), (aI g sl 3600 sln), (oX2 sb sc sd sx sy srl shd sth), (aI g sc 4 sfr), (aI g sd 4 sfh), (oX3 se sf sg), (aI g sf 36 sco), (aI g sg 39 sre), (oX8 u_s u_h u_a u_b u_e), (oX4 u_h u_q u_r (nI k)), (aI g u_q 24 (va_cpy sf0 u_f0 0 0 24)), (aI g u_r 6 u_sh), (oX0 u_a u_l), (aI g u_l 3600 (va_cpy sln u_ln 0 0 (k * 30))), (oX2 u_b u_c u_d sx sy srl shd sth), (aI g u_c 4 (va_cpy sfr u_fr 0 0 4)), (aI g u_d 4 (va_cpy sfh u_fh 0 0 4)), (oX3 u_e u_f u_g), (aI g u_f 36 (va_cpy sco u_co 0 0 36)), (aI g u_g 39 u_re)]) [0, 1, 16, 17, 18, 2, 19, 20, 21, 22, 23, 24, 25, 3, 6, 7, 8, 4, 9, 10, 11, 12, 13, 14, 15, 5] rfl
    have hD := hD.sub (ws' := [(oX10 x0 y0 ta z0 p0 dr pa to_ ss im (nI (nk + 1)) tr v0 rf), (aS g im 3 imf), (oX8 ss sh sa sb se), (oX4 sh sq sr (nI k)), (aI g sq 24 sf0), (aI g sr 6 ssh), (oX0 sa sl), (aI g sl 3600 sln), (oX2 sb sc sd sx sy srl shd sth), (aI g sc 4 sfr), (aI g sd 4 sfh), (oX3 se sf sg), (aI g sf 36 sco), (aI g sg 39 sre), (oX8 u_s u_h u_a u_b u_e), (oX4 u_h u_q u_r (nI k)), (aI g u_q 24 (va_cpy sf0 u_f0 0 0 24)), (aI g u_r 6 u_sh), (oX0 u_a u_l), (aI g u_l 3600 (va_cpy sln u_ln 0 0 (k * 30))), (oX2 u_b u_c u_d sx sy srl shd sth), (aI g u_c 4 (va_cpy sfr u_fr 0 0 4)), (aI g u_d 4 (va_cpy sfh u_fh 0 0 4)), (oX3 u_e u_f u_g), (aI g u_f 36 (va_cpy sco u_co 0 0 36)), (aI g u_g 39 u_re)]) [0, 1, 16, 17, 18, 2, 19, 20, 21, 22, 23, 24, 25, 3, 6, 7, 8, 4, 9, 10, 11, 12, 13, 14, 15, 5] (by decide) rfl
    exact he_ri hQ hx hb hr hlk hP hD hS dX10_image_68 (Nat.le_of_ble_eq_true rfl) (Nat.le_of_ble_eq_true rfl) (()) (rfl) (rfl)
  · exact absurd ((he_clt (a := nk) (b := 3) rfl (by decide) (by omega) (by decide)).mpr hnk) c_1
set_option maxHeartbeats 4000000 in
set_option maxRecDepth 100000 in
theorem g_X10_restore0 (l : Launch) (g : he_G) (x0 : Nat) (y0 : Nat) (z0 : Nat) (p0 : Nat) (dr : Nat) (pa : Nat) (im : Nat) (tr : Nat) (v0 : Nat) (rf : Nat) (ta : Int32) (to_ : Int32) (ss : Nat) (nk : Nat) (hnk : nk = 0) : he_I l yX10_restore wsX10_restore 0 0 0 0 g [.ref x0] [(oX10 x0 y0 ta z0 p0 dr pa to_ ss im (nI nk) tr v0 rf)] (fun (r : Int32) (u : Unit) => r = (-1)) (fun (u : Unit) => [(oX10 x0 y0 ta z0 p0 dr pa to_ ss im (nI nk) tr v0 rf)]) := by
  refine he_begin (l := l) (g := g) (y := yX10_restore) (wl := wsX10_restore) (fr := 0) (lo := 0) (mc := 0) (ms := 0) (av := [.ref x0]) (ws := [(oX10 x0 y0 ta z0 p0 dr pa to_ ss im (nI nk) tr v0 rf)]) (cc := cX10_restore) (maxL := 1) (ret := (some .int)) (fun A => va_Qi (fun (r : Int32) (u : Unit) => r = (-1)) (fun u t => he_post g A ((fun (u : Unit) => [(oX10 x0 y0 ta z0 p0 dr pa to_ ss im (nI nk) tr v0 rf)]) u) t) A) (by decide) rfl (Nat.le_of_ble_eq_true rfl) ?_
  intro p e s m args below meth c A ls H locs Q hQ hB
  obtain ⟨hx, hb, hr, hml, hown, hts, hlk, hin, hP, hK, hD, hS, hA, hE, hl⟩ := hB
  have hl : lv_has ls 1 [(0, .ref x0)] := hl
  have f95 := hts (.fieldLink RX10 95 "HiredEnemy" "imagesKept" "I") (iwoX10_restore (k := 0) rfl)
  have inX10 : ∀ w ∈ wsX100, w ∈ wsX10_restore := innX10_restore_X10
  refine lv_aload_n hx hb dX10_restore_0 rfl (lv_at hl 0 rfl) ?_
  refine va_get (v := .int (nI nk)) (T := TX10) (N := 13) hx hb hts inX10 hown hK hP 0 rfl rfl 9 (by decide) f95 (fun _ h9 => h9) rfl dX10_restore_1 ?_
  refine lv_if_le (tgt := 21) hx hb dX10_restore_4 (by decide) (fun c_1 => ?_) (fun c_1 => ?_)
  · refine lv_iconst (v := (-1)) hx hb dX10_restore_21 (by decide) ?_
    exact he_ri hQ hx hb hr hlk hP hD hS dX10_restore_22 (Nat.le_of_ble_eq_true rfl) (Nat.le_of_ble_eq_true rfl) (()) (rfl) (rfl)
  · exact absurd (by rw [hnk]; decide) c_1
set_option maxHeartbeats 4000000 in
set_option maxRecDepth 100000 in
theorem g_X10_restore (l : Launch) (g : he_G) (x0 : Nat) (y0 : Nat) (z0 : Nat) (p0 : Nat) (dr : Nat) (pa : Nat) (im : Nat) (tr : Nat) (v0 : Nat) (rf : Nat) (ta : Int32) (to_ : Int32) (nk : Nat) (imf : Nat → Option Nat) (ss : Nat) (sh : Nat) (sq : Nat) (sr : Nat) (sa : Nat) (sl : Nat) (sb : Nat) (sc : Nat) (sd : Nat) (se : Nat) (sf : Nat) (sg : Nat) (sk : Int32) (sx : Int32) (sy : Int32) (srl : Int64) (shd : Int64) (sth : Int32) (sf0 : Nat → Int32) (ssh : Nat → Int32) (sln : Nat → Int32) (sfr : Nat → Int32) (sfh : Nat → Int32) (sco : Nat → Int32) (sre : Nat → Int32) (u_s : Nat) (u_h : Nat) (u_q : Nat) (u_r : Nat) (u_a : Nat) (u_l : Nat) (u_b : Nat) (u_c : Nat) (u_d : Nat) (u_e : Nat) (u_f : Nat) (u_g : Nat) (k : Nat) (u_x : Int32) (u_y : Int32) (u_rl : Int64) (u_hd : Int64) (u_th : Int32) (u_f0 : Nat → Int32) (u_sh : Nat → Int32) (u_ln : Nat → Int32) (u_fr : Nat → Int32) (u_fh : Nat → Int32) (u_co : Nat → Int32) (u_re : Nat → Int32) (hnk : nk < 3) (him : imf nk = some u_s) (hk : k ≤ 120) : he_I l yX10_restore wsX10_restore 3 65 0 0 g [.ref x0] [(oX10 x0 y0 ta z0 p0 dr pa to_ ss im (nI (nk + 1)) tr v0 rf), (aS g im 3 imf), (oX8 ss sh sa sb se), (oX4 sh sq sr sk), (aI g sq 24 sf0), (aI g sr 6 ssh), (oX0 sa sl), (aI g sl 3600 sln), (oX2 sb sc sd sx sy srl shd sth), (aI g sc 4 sfr), (aI g sd 4 sfh), (oX3 se sf sg), (aI g sf 36 sco), (aI g sg 39 sre), (oX8 u_s u_h u_a u_b u_e), (oX4 u_h u_q u_r (nI k)), (aI g u_q 24 u_f0), (aI g u_r 6 u_sh), (oX0 u_a u_l), (aI g u_l 3600 u_ln), (oX2 u_b u_c u_d u_x u_y u_rl u_hd u_th), (aI g u_c 4 u_fr), (aI g u_d 4 u_fh), (oX3 u_e u_f u_g), (aI g u_f 36 u_co), (aI g u_g 39 u_re)] (fun (r : Int32) (u : Unit) => r = nI nk) (fun (u : Unit) => [(oX10 x0 y0 ta z0 p0 dr pa to_ ss im (nI nk) tr v0 rf), (aS g im 3 imf), (oX8 ss sh sa sb se), (oX4 sh sq sr (nI k)), (aI g sq 24 (va_cpy u_f0 sf0 0 0 24)), (aI g sr 6 ssh), (oX0 sa sl), (aI g sl 3600 (va_cpy u_ln sln 0 0 (k * 30))), (oX2 sb sc sd u_x u_y u_rl u_hd u_th), (aI g sc 4 (va_cpy u_fr sfr 0 0 4)), (aI g sd 4 (va_cpy u_fh sfh 0 0 4)), (oX3 se sf sg), (aI g sf 36 (va_cpy u_co sco 0 0 36)), (aI g sg 39 sre), (oX8 u_s u_h u_a u_b u_e), (oX4 u_h u_q u_r (nI k)), (aI g u_q 24 u_f0), (aI g u_r 6 u_sh), (oX0 u_a u_l), (aI g u_l 3600 u_ln), (oX2 u_b u_c u_d u_x u_y u_rl u_hd u_th), (aI g u_c 4 u_fr), (aI g u_d 4 u_fh), (oX3 u_e u_f u_g), (aI g u_f 36 u_co), (aI g u_g 39 u_re)]) := by
  refine he_begin (l := l) (g := g) (y := yX10_restore) (wl := wsX10_restore) (fr := 3) (lo := 65) (mc := 0) (ms := 0) (av := [.ref x0]) (ws := [(oX10 x0 y0 ta z0 p0 dr pa to_ ss im (nI (nk + 1)) tr v0 rf), (aS g im 3 imf), (oX8 ss sh sa sb se), (oX4 sh sq sr sk), (aI g sq 24 sf0), (aI g sr 6 ssh), (oX0 sa sl), (aI g sl 3600 sln), (oX2 sb sc sd sx sy srl shd sth), (aI g sc 4 sfr), (aI g sd 4 sfh), (oX3 se sf sg), (aI g sf 36 sco), (aI g sg 39 sre), (oX8 u_s u_h u_a u_b u_e), (oX4 u_h u_q u_r (nI k)), (aI g u_q 24 u_f0), (aI g u_r 6 u_sh), (oX0 u_a u_l), (aI g u_l 3600 u_ln), (oX2 u_b u_c u_d u_x u_y u_rl u_hd u_th), (aI g u_c 4 u_fr), (aI g u_d 4 u_fh), (oX3 u_e u_f u_g), (aI g u_f 36 u_co), (aI g u_g 39 u_re)]) (cc := cX10_restore) (maxL := 1) (ret := (some .int)) (fun A => va_Qi (fun (r : Int32) (u : Unit) => r = nI nk) (fun u t => he_post g A ((fun (u : Unit) => [(oX10 x0 y0 ta z0 p0 dr pa to_ ss im (nI nk) tr v0 rf), (aS g im 3 imf), (oX8 ss sh sa sb se), (oX4 sh sq sr (nI k)), (aI g sq 24 (va_cpy u_f0 sf0 0 0 24)), (aI g sr 6 ssh), (oX0 sa sl), (aI g sl 3600 (va_cpy u_ln sln 0 0 (k * 30))), (oX2 sb sc sd u_x u_y u_rl u_hd u_th), (aI g sc 4 (va_cpy u_fr sfr 0 0 4)), (aI g sd 4 (va_cpy u_fh sfh 0 0 4)), (oX3 se sf sg), (aI g sf 36 (va_cpy u_co sco 0 0 36)), (aI g sg 39 sre), (oX8 u_s u_h u_a u_b u_e), (oX4 u_h u_q u_r (nI k)), (aI g u_q 24 u_f0), (aI g u_r 6 u_sh), (oX0 u_a u_l), (aI g u_l 3600 u_ln), (oX2 u_b u_c u_d u_x u_y u_rl u_hd u_th), (aI g u_c 4 u_fr), (aI g u_d 4 u_fh), (oX3 u_e u_f u_g), (aI g u_f 36 u_co), (aI g u_g 39 u_re)]) u) t) A) (by decide) rfl (Nat.le_of_ble_eq_true rfl) ?_
  intro p e s m args below meth c A ls H locs Q hQ hB
  obtain ⟨hx, hb, hr, hml, hown, hts, hlk, hin, hP, hK, hD, hS, hA, hE, hl⟩ := hB
  have hl : lv_has ls 1 [(0, .ref x0)] := hl
  have f95 := hts (.fieldLink RX10 95 "HiredEnemy" "imagesKept" "I") (iwoX10_restore (k := 0) rfl)
  have inX10 : ∀ w ∈ wsX100, w ∈ wsX10_restore := innX10_restore_X10
  have f43 := hts (.fieldLink RX10 43 "HiredEnemy" "images" "[LHiredEnemy$Scene;") (iwoX10_restore (k := 1) rfl)
  have f39 := hts (.fieldLink RX10 39 "HiredEnemy" "scene" "LHiredEnemy$Scene;") (iwoX10_restore (k := 2) rfl)
  refine lv_aload_n hx hb dX10_restore_0 rfl (lv_at hl 0 rfl) ?_
  refine va_get (v := .int (nI (nk + 1))) (T := TX10) (N := 13) hx hb hts inX10 hown hK hP 0 rfl rfl 9 (by decide) f95 (fun _ h9 => h9) rfl dX10_restore_1 ?_
  refine lv_if_le (tgt := 21) hx hb dX10_restore_4 (by decide) (fun c_1 => ?_) (fun c_1 => ?_)
  · exact absurd c_1 (fun h9 => absurd (nI_le0 (by omega) h9) (by omega))
  · refine lv_aload_n hx hb dX10_restore_7 rfl (lv_at hl 0 rfl) ?_
    refine va_get (v := .ref im) (T := TX10) (N := 13) hx hb hts inX10 hown hK hP 0 rfl rfl 8 (by decide) f43 (fun _ h9 => h9) rfl dX10_restore_8 ?_
    refine lv_aload_n hx hb dX10_restore_11 rfl (lv_at hl 0 rfl) ?_
    refine va_get (v := .int (nI (nk + 1))) (T := TX10) (N := 13) hx hb hts inX10 hown hK hP 0 rfl rfl 9 (by decide) f95 (fun _ h9 => h9) rfl dX10_restore_12 ?_
    refine lv_iconst (v := 1) hx hb dX10_restore_15 (by decide) ?_
    refine lv_isub hx hb dX10_restore_16 ?_
    refine he_top (nI nk) (nI_pred nk) ?_
    refine he_ald hx hb 3 rfl hK hP 1 rfl (nk) rfl (by first | assumption | decide | omega) (by first | decide | assumption) (.ref u_s) (by rw [him]; rfl) dX10_restore_17 ?_
    refine lv_ifnonnull (tgt := 23) hx hb dX10_restore_18 (by decide) ?_
    refine lv_aload_n hx hb dX10_restore_23 rfl (lv_at hl 0 rfl) ?_
    refine lv_dup hx hb dX10_restore_24 rfl ?_
    refine va_get (v := .int (nI (nk + 1))) (T := TX10) (N := 13) hx hb hts inX10 hown hK hP 0 rfl rfl 9 (by decide) f95 (fun _ h9 => h9) rfl dX10_restore_25 ?_
    refine lv_iconst (v := 1) hx hb dX10_restore_28 (by decide) ?_
    refine lv_isub hx hb dX10_restore_29 ?_
    refine he_top (nI nk) (nI_pred nk) ?_
    refine va_put (v := .int (nI nk)) (ty := .int) (T := TX10) (N := 13) hx hb hts inX10 tyX10 tyX10_ok nmX10 hown hK hP hD hS 0 rfl rfl 9 (by decide) f95 (fun _ h9 => h9) rfl (by decide +kernel) rfl rfl (Nat.le_of_ble_eq_true rfl) dX10_restore_30 (fun H locs hP hD hS => ?_)
    have hP : va_P g.1 vwCl [(oX10 x0 y0 ta z0 p0 dr pa to_ ss im (nI nk) tr v0 rf), (aS g im 3 imf), (oX8 ss sh sa sb se), (oX4 sh sq sr sk), (aI g sq 24 sf0), (aI g sr 6 ssh), (oX0 sa sl), (aI g sl 3600 sln), (oX2 sb sc sd sx sy srl shd sth), (aI g sc 4 sfr), (aI g sd 4 sfh), (oX3 se sf sg), (aI g sf 36 sco), (aI g sg 39 sre), (oX8 u_s u_h u_a u_b u_e), (oX4 u_h u_q u_r (nI k)), (aI g u_q 24 u_f0), (aI g u_r 6 u_sh), (oX0 u_a u_l), (aI g u_l 3600 u_ln), (oX2 u_b u_c u_d u_x u_y u_rl u_hd u_th), (aI g u_c 4 u_fr), (aI g u_d 4 u_fh), (oX3 u_e u_f u_g), (aI g u_f 36 u_co), (aI g u_g 39 u_re)] H := hP
    have hD : va_D A [(oX10 x0 y0 ta z0 p0 dr pa to_ ss im (nI nk) tr v0 rf), (aS g im 3 imf), (oX8 ss sh sa sb se), (oX4 sh sq sr sk), (aI g sq 24 sf0), (aI g sr 6 ssh), (oX0 sa sl), (aI g sl 3600 sln), (oX2 sb sc sd sx sy srl shd sth), (aI g sc 4 sfr), (aI g sd 4 sfh), (oX3 se sf sg), (aI g sf 36 sco), (aI g sg 39 sre), (oX8 u_s u_h u_a u_b u_e), (oX4 u_h u_q u_r (nI k)), (aI g u_q 24 u_f0), (aI g u_r 6 u_sh), (oX0 u_a u_l), (aI g u_l 3600 u_ln), (oX2 u_b u_c u_d u_x u_y u_rl u_hd u_th), (aI g u_c 4 u_fr), (aI g u_d 4 u_fh), (oX3 u_e u_f u_g), (aI g u_f 36 u_co), (aI g u_g 39 u_re)] := hD
    refine lv_aload_n hx hb dX10_restore_33 rfl (lv_at hl 0 rfl) ?_
    refine va_get (v := .ref ss) (T := TX10) (N := 13) hx hb hts inX10 hown hK hP 0 rfl rfl 7 (by decide) f39 (fun _ h9 => h9) rfl dX10_restore_34 ?_
    refine lv_aload_n hx hb dX10_restore_37 rfl (lv_at hl 0 rfl) ?_
    refine va_get (v := .ref im) (T := TX10) (N := 13) hx hb hts inX10 hown hK hP 0 rfl rfl 8 (by decide) f43 (fun _ h9 => h9) rfl dX10_restore_38 ?_
    refine lv_aload_n hx hb dX10_restore_41 rfl (lv_at hl 0 rfl) ?_
    refine va_get (v := .int (nI nk)) (T := TX10) (N := 13) hx hb hts inX10 hown hK hP 0 rfl rfl 9 (by decide) f95 (fun _ h9 => h9) rfl dX10_restore_42 ?_
    refine he_ald hx hb 3 rfl hK hP 1 rfl (nk) rfl (by first | assumption | decide | omega) (by first | decide | assumption) (.ref u_s) (by rw [him]; rfl) dX10_restore_45 ?_
    refine he_cv (wc := [(oX8 ss sh sa sb se), (oX4 sh sq sr sk), (aI g sq 24 sf0), (oX0 sa sl), (aI g sl 3600 sln), (oX2 sb sc sd sx sy srl shd sth), (aI g sc 4 sfr), (aI g sd 4 sfh), (oX3 se sf sg), (aI g sf 36 sco), (oX8 u_s u_h u_a u_b u_e), (oX4 u_h u_q u_r (nI k)), (aI g u_q 24 u_f0), (oX0 u_a u_l), (aI g u_l 3600 u_ln), (oX2 u_b u_c u_d u_x u_y u_rl u_hd u_th), (aI g u_c 4 u_fr), (aI g u_d 4 u_fh), (oX3 u_e u_f u_g), (aI g u_f 36 u_co)]) (wr := [(oX10 x0 y0 ta z0 p0 dr pa to_ ss im (nI nk) tr v0 rf), (aS g im 3 imf), (aI g sr 6 ssh), (aI g sg 39 sre), (aI g u_r 6 u_sh), (aI g u_g 39 u_re)]) (va_runV (As := [.ref u_s]) (rest := []) ⟨hx, hb, hml, hown, hts⟩ (c_X8_take l g ss sh sq sr sk sf0 sa sl sln sb sc sd sx sy srl shd sth sfr sfh se sf sg sco u_s u_h u_q u_r k u_f0 u_a u_l u_ln u_b u_c u_d u_x u_y u_rl u_hd u_th u_fr u_fh u_e u_f u_g u_co (by first | assumption | decide | omega) H.size) (cwV 1 hts gX10_restore_X8_take rfl rfl rfl (by decide +kernel) ⟨Nat.le_of_ble_eq_true rfl, Nat.le_of_ble_eq_true rfl⟩) (he_preV (wc := [(oX8 ss sh sa sb se), (oX4 sh sq sr sk), (aI g sq 24 sf0), (oX0 sa sl), (aI g sl 3600 sln), (oX2 sb sc sd sx sy srl shd sth), (aI g sc 4 sfr), (aI g sd 4 sfh), (oX3 se sf sg), (aI g sf 36 sco), (oX8 u_s u_h u_a u_b u_e), (oX4 u_h u_q u_r (nI k)), (aI g u_q 24 u_f0), (oX0 u_a u_l), (aI g u_l 3600 u_ln), (oX2 u_b u_c u_d u_x u_y u_rl u_hd u_th), (aI g u_c 4 u_fr), (aI g u_d 4 u_fh), (oX3 u_e u_f u_g), (aI g u_f 36 u_co)]) hK hP hD hS hA hE [2, 3, 4, 6, 7, 8, 9, 10, 11, 12, 14, 15, 16, 18, 19, 20, 21, 22, 23, 24] rfl rfl 2 rfl rfl) rfl rfl hl.1 rfl (lv_room (Nat.le_of_ble_eq_true rfl)) dX10_restore_46 ⟨(Nat.le_of_ble_eq_true rfl), (Nat.le_of_ble_eq_true rfl)⟩) hP hD hS hA [2, 3, 4, 6, 7, 8, 9, 10, 11, 12, 14, 15, 16, 18, 19, 20, 21, 22, 23, 24] [0, 1, 5, 13, 17, 25] rfl rfl rfl (by decide) (fun u_3 H locs h_4 hP hD hS => ?_)
    have hP : va_P g.1 vwCl [(oX10 x0 y0 ta z0 p0 dr pa to_ ss im (nI nk) tr v0 rf), (aS g im 3 imf), (aI g sr 6 ssh), (aI g sg 39 sre), (aI g u_r 6 u_sh), (aI g u_g 39 u_re), (oX8 ss sh sa sb se), (oX4 sh sq sr (nI k)), (aI g sq 24 (va_cpy u_f0 sf0 0 0 24)), (oX0 sa sl), (aI g sl 3600 (va_cpy u_ln sln 0 0 (k * 30))), (oX2 sb sc sd u_x u_y u_rl u_hd u_th), (aI g sc 4 (va_cpy u_fr sfr 0 0 4)), (aI g sd 4 (va_cpy u_fh sfh 0 0 4)), (oX3 se sf sg), (aI g sf 36 (va_cpy u_co sco 0 0 36)), (oX8 u_s u_h u_a u_b u_e), (oX4 u_h u_q u_r (nI k)), (aI g u_q 24 u_f0), (oX0 u_a u_l), (aI g u_l 3600 u_ln), (oX2 u_b u_c u_d u_x u_y u_rl u_hd u_th), (aI g u_c 4 u_fr), (aI g u_d 4 u_fh), (oX3 u_e u_f u_g), (aI g u_f 36 u_co)] H := hP
    have hD : va_D A [(oX10 x0 y0 ta z0 p0 dr pa to_ ss im (nI nk) tr v0 rf), (aS g im 3 imf), (aI g sr 6 ssh), (aI g sg 39 sre), (aI g u_r 6 u_sh), (aI g u_g 39 u_re), (oX8 ss sh sa sb se), (oX4 sh sq sr (nI k)), (aI g sq 24 (va_cpy u_f0 sf0 0 0 24)), (oX0 sa sl), (aI g sl 3600 (va_cpy u_ln sln 0 0 (k * 30))), (oX2 sb sc sd u_x u_y u_rl u_hd u_th), (aI g sc 4 (va_cpy u_fr sfr 0 0 4)), (aI g sd 4 (va_cpy u_fh sfh 0 0 4)), (oX3 se sf sg), (aI g sf 36 (va_cpy u_co sco 0 0 36)), (oX8 u_s u_h u_a u_b u_e), (oX4 u_h u_q u_r (nI k)), (aI g u_q 24 u_f0), (oX0 u_a u_l), (aI g u_l 3600 u_ln), (oX2 u_b u_c u_d u_x u_y u_rl u_hd u_th), (aI g u_c 4 u_fr), (aI g u_d 4 u_fh), (oX3 u_e u_f u_g), (aI g u_f 36 u_co)] := hD
    refine lv_aload_n hx hb dX10_restore_49 rfl (lv_at hl 0 rfl) ?_
    refine va_get (v := .int (nI nk)) (T := TX10) (N := 13) hx hb hts inX10 hown hK hP 0 rfl rfl 9 (by decide) f95 (fun _ h9 => h9) rfl dX10_restore_50 ?_
    have hP := hP.sub (ws' := [(oX10 x0 y0 ta z0 p0 dr pa to_ ss im (nI nk) tr v0 rf), (aS g im 3 imf), (oX8 ss sh sa sb se), (oX4 sh sq sr (nI k)), (aI g sq 24 (va_cpy u_f0 sf0 0 0 24)), (aI g sr 6 ssh), (oX0 sa sl), (aI g sl 3600 (va_cpy u_ln sln 0 0 (k * 30))), (oX2 sb sc sd u_x u_y u_rl u_hd u_th), (aI g sc 4 (va_cpy u_fr sfr 0 0 4)), (aI g sd 4 (va_cpy u_fh sfh 0 0 4)), (oX3 se sf sg), (aI g sf 36 (va_cpy u_co sco 0 0 36)), (aI g sg 39 sre), (oX8 u_s u_h u_a u_b u_e), (oX4 u_h u_q u_r (nI k)), (aI g u_q 24 u_f0), (aI g u_r 6 u_sh), (oX0 u_a u_l), (aI g u_l 3600 u_ln), (oX2 u_b u_c u_d u_x u_y u_rl u_hd u_th), (aI g u_c 4 u_fr), (aI g u_d 4 u_fh), (oX3 u_e u_f u_g), (aI g u_f 36 u_co), (aI g u_g 39 u_re)]) [0, 1, 6, 7, 8, 2, 9, 10, 11, 12, 13, 14, 15, 3, 16, 17, 18, 4, 19, 20, 21, 22, 23, 24, 25, 5] rfl
    have hD := hD.sub (ws' := [(oX10 x0 y0 ta z0 p0 dr pa to_ ss im (nI nk) tr v0 rf), (aS g im 3 imf), (oX8 ss sh sa sb se), (oX4 sh sq sr (nI k)), (aI g sq 24 (va_cpy u_f0 sf0 0 0 24)), (aI g sr 6 ssh), (oX0 sa sl), (aI g sl 3600 (va_cpy u_ln sln 0 0 (k * 30))), (oX2 sb sc sd u_x u_y u_rl u_hd u_th), (aI g sc 4 (va_cpy u_fr sfr 0 0 4)), (aI g sd 4 (va_cpy u_fh sfh 0 0 4)), (oX3 se sf sg), (aI g sf 36 (va_cpy u_co sco 0 0 36)), (aI g sg 39 sre), (oX8 u_s u_h u_a u_b u_e), (oX4 u_h u_q u_r (nI k)), (aI g u_q 24 u_f0), (aI g u_r 6 u_sh), (oX0 u_a u_l), (aI g u_l 3600 u_ln), (oX2 u_b u_c u_d u_x u_y u_rl u_hd u_th), (aI g u_c 4 u_fr), (aI g u_d 4 u_fh), (oX3 u_e u_f u_g), (aI g u_f 36 u_co), (aI g u_g 39 u_re)]) [0, 1, 6, 7, 8, 2, 9, 10, 11, 12, 13, 14, 15, 3, 16, 17, 18, 4, 19, 20, 21, 22, 23, 24, 25, 5] (by decide) rfl
    exact he_ri hQ hx hb hr hlk hP hD hS dX10_restore_53 (Nat.le_of_ble_eq_true rfl) (Nat.le_of_ble_eq_true rfl) (()) (rfl) (rfl)
set_option maxHeartbeats 4000000 in
set_option maxRecDepth 100000 in
theorem g_X10_imageNew (l : Launch) (g : he_G) (x0 : Nat) (y0 : Nat) (z0 : Nat) (p0 : Nat) (dr : Nat) (pa : Nat) (im : Nat) (tr : Nat) (v0 : Nat) (rf : Nat) (ta : Int32) (to_ : Int32) (nk : Nat) (imf : Nat → Option Nat) (ss : Nat) (sh : Nat) (sq : Nat) (sr : Nat) (sa : Nat) (sl : Nat) (sb : Nat) (sc : Nat) (sd : Nat) (se : Nat) (sf : Nat) (sg : Nat) (k : Nat) (sx : Int32) (sy : Int32) (srl : Int64) (shd : Int64) (sth : Int32) (sf0 : Nat → Int32) (ssh : Nat → Int32) (sln : Nat → Int32) (sfr : Nat → Int32) (sfh : Nat → Int32) (sco : Nat → Int32) (sre : Nat → Int32) (hnk : nk < 3) (him : imf nk = none) (hk : k ≤ 120) : he_I l yX10_image wsX10_image 3 65 12 3730 g [.ref x0] [(oX10 x0 y0 ta z0 p0 dr pa to_ ss im (nI nk) tr v0 rf), (aS g im 3 imf), (oX8 ss sh sa sb se), (oX4 sh sq sr (nI k)), (aI g sq 24 sf0), (aI g sr 6 ssh), (oX0 sa sl), (aI g sl 3600 sln), (oX2 sb sc sd sx sy srl shd sth), (aI g sc 4 sfr), (aI g sd 4 sfh), (oX3 se sf sg), (aI g sf 36 sco), (aI g sg 39 sre)] (fun (r : Int32) (u : Nat → Nat) => r = nI (nk + 1)) (fun (u : Nat → Nat) => [(oX10 x0 y0 ta z0 p0 dr pa to_ ss im (nI (nk + 1)) tr v0 rf), (aS g im 3 (va_up imf nk (some (u 0)))), (oX8 ss sh sa sb se), (oX4 sh sq sr (nI k)), (aI g sq 24 sf0), (aI g sr 6 ssh), (oX0 sa sl), (aI g sl 3600 sln), (oX2 sb sc sd sx sy srl shd sth), (aI g sc 4 sfr), (aI g sd 4 sfh), (oX3 se sf sg), (aI g sf 36 sco), (aI g sg 39 sre), (oX8 (u 0) (u 1) (u 4) (u 6) (u 9)), (oX4 (u 1) (u 2) (u 3) (nI k)), (aI g (u 2) 24 (va_cpy sf0 (fun _ => 0) 0 0 24)), (aI g (u 3) 6 (fun _ => 0)), (oX0 (u 4) (u 5)), (aI g (u 5) 3600 (va_cpy sln (fun _ => 0) 0 0 (k * 30))), (oX2 (u 6) (u 7) (u 8) sx sy srl shd sth), (aI g (u 7) 4 (va_cpy sfr (upd (upd (upd (upd (fun _ => 0) 0 8) 1 8) 2 8) 3 8) 0 0 4)), (aI g (u 8) 4 (va_cpy sfh (upd (upd (upd (upd (fun _ => 0) 0 8) 1 8) 2 8) 3 8) 0 0 4)), (oX3 (u 9) (u 10) (u 11)), (aI g (u 10) 36 (va_cpy sco (fun _ => 0) 0 0 36)), (aI g (u 11) 39 (fun _ => 0))]) := by
  refine he_begin (l := l) (g := g) (y := yX10_image) (wl := wsX10_image) (fr := 3) (lo := 65) (mc := 12) (ms := 3730) (av := [.ref x0]) (ws := [(oX10 x0 y0 ta z0 p0 dr pa to_ ss im (nI nk) tr v0 rf), (aS g im 3 imf), (oX8 ss sh sa sb se), (oX4 sh sq sr (nI k)), (aI g sq 24 sf0), (aI g sr 6 ssh), (oX0 sa sl), (aI g sl 3600 sln), (oX2 sb sc sd sx sy srl shd sth), (aI g sc 4 sfr), (aI g sd 4 sfh), (oX3 se sf sg), (aI g sf 36 sco), (aI g sg 39 sre)]) (cc := cX10_image) (maxL := 1) (ret := (some .int)) (fun A => va_Qi (fun (r : Int32) (u : Nat → Nat) => r = nI (nk + 1)) (fun u t => he_post g A ((fun (u : Nat → Nat) => [(oX10 x0 y0 ta z0 p0 dr pa to_ ss im (nI (nk + 1)) tr v0 rf), (aS g im 3 (va_up imf nk (some (u 0)))), (oX8 ss sh sa sb se), (oX4 sh sq sr (nI k)), (aI g sq 24 sf0), (aI g sr 6 ssh), (oX0 sa sl), (aI g sl 3600 sln), (oX2 sb sc sd sx sy srl shd sth), (aI g sc 4 sfr), (aI g sd 4 sfh), (oX3 se sf sg), (aI g sf 36 sco), (aI g sg 39 sre), (oX8 (u 0) (u 1) (u 4) (u 6) (u 9)), (oX4 (u 1) (u 2) (u 3) (nI k)), (aI g (u 2) 24 (va_cpy sf0 (fun _ => 0) 0 0 24)), (aI g (u 3) 6 (fun _ => 0)), (oX0 (u 4) (u 5)), (aI g (u 5) 3600 (va_cpy sln (fun _ => 0) 0 0 (k * 30))), (oX2 (u 6) (u 7) (u 8) sx sy srl shd sth), (aI g (u 7) 4 (va_cpy sfr (upd (upd (upd (upd (fun _ => 0) 0 8) 1 8) 2 8) 3 8) 0 0 4)), (aI g (u 8) 4 (va_cpy sfh (upd (upd (upd (upd (fun _ => 0) 0 8) 1 8) 2 8) 3 8) 0 0 4)), (oX3 (u 9) (u 10) (u 11)), (aI g (u 10) 36 (va_cpy sco (fun _ => 0) 0 0 36)), (aI g (u 11) 39 (fun _ => 0))]) u) t) A) (by decide) rfl (Nat.le_of_ble_eq_true rfl) ?_
  intro p e s m args below meth c A ls H locs Q hQ hB
  obtain ⟨hx, hb, hr, hml, hown, hts, hlk, hin, hP, hK, hD, hS, hA, hE, hl⟩ := hB
  have hl : lv_has ls 1 [(0, .ref x0)] := hl
  have f95 := hts (.fieldLink RX10 95 "HiredEnemy" "imagesKept" "I") (iwoX10_image (k := 0) rfl)
  have inX10 : ∀ w ∈ wsX100, w ∈ wsX10_image := innX10_image_X10
  have f43 := hts (.fieldLink RX10 43 "HiredEnemy" "images" "[LHiredEnemy$Scene;") (iwoX10_image (k := 1) rfl)
  have cl36 := hts (.classLink RX10 36 RX8) (iwoX10_image (k := 2) rfl)
  have instX8 := hts (.instantiable RX8 4) (iwoX10_image (k := 3) rfl)
  have iniX8 := hts (.initialized RX8) (iwoX10_image (k := 4) rfl)
  have inX8 : ∀ w ∈ wsX80, w ∈ wsX10_image := innX10_image_X8
  have nl38 := hE.nest (RX10, 38, yX8_init) (by decide +kernel)
  have im_yX8_init := hts (.instanceMethod yX8_init) (iwoX10_image (k := 6) rfl)
  have f39 := hts (.fieldLink RX10 39 "HiredEnemy" "scene" "LHiredEnemy$Scene;") (iwoX10_image (k := 5) rfl)
  refine lv_aload_n hx hb dX10_image_0 rfl (lv_at hl 0 rfl) ?_
  refine va_get (v := .int (nI nk)) (T := TX10) (N := 13) hx hb hts inX10 hown hK hP 0 rfl rfl 9 (by decide) f95 (fun _ h9 => h9) rfl dX10_image_1 ?_
  refine lv_iconst (v := 3) hx hb dX10_image_4 (by decide) ?_
  refine lv_icmp_lt (tgt := 10) hx hb dX10_image_5 (by decide) (fun c_1 => ?_) (fun c_1 => ?_)
  · refine lv_aload_n hx hb dX10_image_10 rfl (lv_at hl 0 rfl) ?_
    refine va_get (v := .ref im) (T := TX10) (N := 13) hx hb hts inX10 hown hK hP 0 rfl rfl 8 (by decide) f43 (fun _ h9 => h9) rfl dX10_image_11 ?_
    refine lv_aload_n hx hb dX10_image_14 rfl (lv_at hl 0 rfl) ?_
    refine va_get (v := .int (nI nk)) (T := TX10) (N := 13) hx hb hts inX10 hown hK hP 0 rfl rfl 9 (by decide) f95 (fun _ h9 => h9) rfl dX10_image_15 ?_
    refine he_ald hx hb 3 rfl hK hP 1 rfl (nk) rfl (by first | assumption | decide | omega) (by first | decide | assumption) (.null) (by rw [him]; rfl) dX10_image_18 ?_
    refine lv_ifnonnullN hx hb dX10_image_19 ?_
    refine lv_aload_n hx hb dX10_image_22 rfl (lv_at hl 0 rfl) ?_
    refine va_get (v := .ref im) (T := TX10) (N := 13) hx hb hts inX10 hown hK hP 0 rfl rfl 8 (by decide) f43 (fun _ h9 => h9) rfl dX10_image_23 ?_
    refine lv_aload_n hx hb dX10_image_26 rfl (lv_at hl 0 rfl) ?_
    refine va_get (v := .int (nI nk)) (T := TX10) (N := 13) hx hb hts inX10 hown hK hP 0 rfl rfl 9 (by decide) f95 (fun _ h9 => h9) rfl dX10_image_27 ?_
    refine va_new (ci := 8) (fs := [.null, .null, .null, .null]) (T := TX8) (N := 4) hx hb hts inX8 tyX8 tyX8_ok hown cl36 instX8 iniX8 hK hP hD hS hA rfl (by decide) (Nat.le_of_ble_eq_true rfl) (Nat.le_of_ble_eq_true rfl) dX10_image_30 (fun q_2 H hP hD hS => ?_)
    have hP : va_P g.1 vwCl [(oX10 x0 y0 ta z0 p0 dr pa to_ ss im (nI nk) tr v0 rf), (aS g im 3 imf), (oX8 ss sh sa sb se), (oX4 sh sq sr (nI k)), (aI g sq 24 sf0), (aI g sr 6 ssh), (oX0 sa sl), (aI g sl 3600 sln), (oX2 sb sc sd sx sy srl shd sth), (aI g sc 4 sfr), (aI g sd 4 sfh), (oX3 se sf sg), (aI g sf 36 sco), (aI g sg 39 sre), (q_2, .inr (8, [.null, .null, .null, .null]))] H := hP
    have hD : va_D A [(oX10 x0 y0 ta z0 p0 dr pa to_ ss im (nI nk) tr v0 rf), (aS g im 3 imf), (oX8 ss sh sa sb se), (oX4 sh sq sr (nI k)), (aI g sq 24 sf0), (aI g sr 6 ssh), (oX0 sa sl), (aI g sl 3600 sln), (oX2 sb sc sd sx sy srl shd sth), (aI g sc 4 sfr), (aI g sd 4 sfh), (oX3 se sf sg), (aI g sf 36 sco), (aI g sg 39 sre), (q_2, .inr (8, [.null, .null, .null, .null]))] := hD
    refine W.widen (k := 1) (n := 4) (Nat.le_of_ble_eq_true rfl) (Nat.le_of_ble_eq_true rfl) ?_
    refine lv_dup hx hb dX10_image_33 rfl ?_
    refine he_cv (wc := [(q_2, .inr (8, [.null, .null, .null, .null]))]) (wr := [(oX10 x0 y0 ta z0 p0 dr pa to_ ss im (nI nk) tr v0 rf), (aS g im 3 imf), (oX8 ss sh sa sb se), (oX4 sh sq sr (nI k)), (aI g sq 24 sf0), (aI g sr 6 ssh), (oX0 sa sl), (aI g sl 3600 sln), (oX2 sb sc sd sx sy srl shd sth), (aI g sc 4 sfr), (aI g sd 4 sfh), (oX3 se sf sg), (aI g sf 36 sco), (aI g sg 39 sre)]) (va_runIN (As := []) (rest := [.ref q_2, .int (nI nk), .ref im]) ⟨hx, hb, hml, hown, hts⟩ (c_X8_init l g q_2 H.size) ⟨(va_cnB 0 hts gX10_image_X8_init_n38 rfl rfl rfl nl38 iniX8 (by decide +kernel) ⟨Nat.le_of_ble_eq_true rfl, Nat.le_of_ble_eq_true rfl⟩), rfl, im_yX8_init⟩ (he_preS (wc := [(q_2, .inr (8, [.null, .null, .null, .null]))]) hK hP hD hS hA hE [14] rfl rfl) rfl rfl hl.1 rfl (lv_room (Nat.le_of_ble_eq_true rfl)) dX10_image_34 ⟨(Nat.le_of_ble_eq_true rfl), (Nat.le_of_ble_eq_true rfl)⟩) hP hD hS hA [14] [0, 1, 2, 3, 4, 5, 6, 7, 8, 9, 10, 11, 12, 13] rfl rfl rfl (by decide) (fun u_4 H locs h_5 hP hD hS => ?_)
    obtain ⟨c0_6, c1_7, c2_8, a0_9, a1_10, b0_11, b1_12, b2_13, d0_14, d1_15, d2_16⟩ := u_4
    have hP : va_P g.1 vwCl [(oX10 x0 y0 ta z0 p0 dr pa to_ ss im (nI nk) tr v0 rf), (aS g im 3 imf), (oX8 ss sh sa sb se), (oX4 sh sq sr (nI k)), (aI g sq 24 sf0), (aI g sr 6 ssh), (oX0 sa sl), (aI g sl 3600 sln), (oX2 sb sc sd sx sy srl shd sth), (aI g sc 4 sfr), (aI g sd 4 sfh), (oX3 se sf sg), (aI g sf 36 sco), (aI g sg 39 sre), (oX8 q_2 c0_6 a0_9 b0_11 d0_14), (oX4 c0_6 c1_7 c2_8 0), (aI g c1_7 24 (fun _ => 0)), (aI g c2_8 6 (fun _ => 0)), (oX0 a0_9 a1_10), (aI g a1_10 3600 (fun _ => 0)), (oX2 b0_11 b1_12 b2_13 1 1 1 1 0), (aI g b1_12 4 (upd (upd (upd (upd (fun _ => 0) 0 8) 1 8) 2 8) 3 8)), (aI g b2_13 4 (upd (upd (upd (upd (fun _ => 0) 0 8) 1 8) 2 8) 3 8)), (oX3 d0_14 d1_15 d2_16), (aI g d1_15 36 (fun _ => 0)), (aI g d2_16 39 (fun _ => 0))] H := hP
    have hD : va_D A [(oX10 x0 y0 ta z0 p0 dr pa to_ ss im (nI nk) tr v0 rf), (aS g im 3 imf), (oX8 ss sh sa sb se), (oX4 sh sq sr (nI k)), (aI g sq 24 sf0), (aI g sr 6 ssh), (oX0 sa sl), (aI g sl 3600 sln), (oX2 sb sc sd sx sy srl shd sth), (aI g sc 4 sfr), (aI g sd 4 sfh), (oX3 se sf sg), (aI g sf 36 sco), (aI g sg 39 sre), (oX8 q_2 c0_6 a0_9 b0_11 d0_14), (oX4 c0_6 c1_7 c2_8 0), (aI g c1_7 24 (fun _ => 0)), (aI g c2_8 6 (fun _ => 0)), (oX0 a0_9 a1_10), (aI g a1_10 3600 (fun _ => 0)), (oX2 b0_11 b1_12 b2_13 1 1 1 1 0), (aI g b1_12 4 (upd (upd (upd (upd (fun _ => 0) 0 8) 1 8) 2 8) 3 8)), (aI g b2_13 4 (upd (upd (upd (upd (fun _ => 0) 0 8) 1 8) 2 8) 3 8)), (oX3 d0_14 d1_15 d2_16), (aI g d1_15 36 (fun _ => 0)), (aI g d2_16 39 (fun _ => 0))] := hD
    refine W.widen (k := 12) (n := 3730) (Nat.le_of_ble_eq_true rfl) (Nat.le_of_ble_eq_true rfl) ?_
    refine he_aast hx hb hK hP hD hS 1 3 14 8 rfl rfl rfl rfl (nk) rfl (by first | assumption | decide | omega) (by first | decide | assumption) dX10_image_37 (fun H locs hP hD hS => ?_)
    have hP : va_P g.1 vwCl [(oX10 x0 y0 ta z0 p0 dr pa to_ ss im (nI nk) tr v0 rf), (aS g im 3 (va_up imf nk (some q_2))), (oX8 ss sh sa sb se), (oX4 sh sq sr (nI k)), (aI g sq 24 sf0), (aI g sr 6 ssh), (oX0 sa sl), (aI g sl 3600 sln), (oX2 sb sc sd sx sy srl shd sth), (aI g sc 4 sfr), (aI g sd 4 sfh), (oX3 se sf sg), (aI g sf 36 sco), (aI g sg 39 sre), (oX8 q_2 c0_6 a0_9 b0_11 d0_14), (oX4 c0_6 c1_7 c2_8 0), (aI g c1_7 24 (fun _ => 0)), (aI g c2_8 6 (fun _ => 0)), (oX0 a0_9 a1_10), (aI g a1_10 3600 (fun _ => 0)), (oX2 b0_11 b1_12 b2_13 1 1 1 1 0), (aI g b1_12 4 (upd (upd (upd (upd (fun _ => 0) 0 8) 1 8) 2 8) 3 8)), (aI g b2_13 4 (upd (upd (upd (upd (fun _ => 0) 0 8) 1 8) 2 8) 3 8)), (oX3 d0_14 d1_15 d2_16), (aI g d1_15 36 (fun _ => 0)), (aI g d2_16 39 (fun _ => 0))] H := hP
    have hD : va_D A [(oX10 x0 y0 ta z0 p0 dr pa to_ ss im (nI nk) tr v0 rf), (aS g im 3 (va_up imf nk (some q_2))), (oX8 ss sh sa sb se), (oX4 sh sq sr (nI k)), (aI g sq 24 sf0), (aI g sr 6 ssh), (oX0 sa sl), (aI g sl 3600 sln), (oX2 sb sc sd sx sy srl shd sth), (aI g sc 4 sfr), (aI g sd 4 sfh), (oX3 se sf sg), (aI g sf 36 sco), (aI g sg 39 sre), (oX8 q_2 c0_6 a0_9 b0_11 d0_14), (oX4 c0_6 c1_7 c2_8 0), (aI g c1_7 24 (fun _ => 0)), (aI g c2_8 6 (fun _ => 0)), (oX0 a0_9 a1_10), (aI g a1_10 3600 (fun _ => 0)), (oX2 b0_11 b1_12 b2_13 1 1 1 1 0), (aI g b1_12 4 (upd (upd (upd (upd (fun _ => 0) 0 8) 1 8) 2 8) 3 8)), (aI g b2_13 4 (upd (upd (upd (upd (fun _ => 0) 0 8) 1 8) 2 8) 3 8)), (oX3 d0_14 d1_15 d2_16), (aI g d1_15 36 (fun _ => 0)), (aI g d2_16 39 (fun _ => 0))] := hD
    refine lv_aload_n hx hb dX10_image_38 rfl (lv_at hl 0 rfl) ?_
    refine va_get (v := .ref im) (T := TX10) (N := 13) hx hb hts inX10 hown hK hP 0 rfl rfl 8 (by decide) f43 (fun _ h9 => h9) rfl dX10_image_39 ?_
    refine lv_aload_n hx hb dX10_image_42 rfl (lv_at hl 0 rfl) ?_
    refine va_get (v := .int (nI nk)) (T := TX10) (N := 13) hx hb hts inX10 hown hK hP 0 rfl rfl 9 (by decide) f95 (fun _ h9 => h9) rfl dX10_image_43 ?_
    refine he_ald hx hb 3 rfl hK hP 1 rfl (nk) rfl (by first | assumption | decide | omega) (by first | decide | assumption) (.ref q_2) (by simp [va_up, va_rf]) dX10_image_46 ?_
    refine lv_aload_n hx hb dX10_image_47 rfl (lv_at hl 0 rfl) ?_
    refine va_get (v := .ref ss) (T := TX10) (N := 13) hx hb hts inX10 hown hK hP 0 rfl rfl 7 (by decide) f39 (fun _ h9 => h9) rfl dX10_image_48 ?_
    refine he_cv (wc := [(oX8 q_2 c0_6 a0_9 b0_11 d0_14), (oX4 c0_6 c1_7 c2_8 0), (aI g c1_7 24 (fun _ => 0)), (oX0 a0_9 a1_10), (aI g a1_10 3600 (fun _ => 0)), (oX2 b0_11 b1_12 b2_13 1 1 1 1 0), (aI g b1_12 4 (upd (upd (upd (upd (fun _ => 0) 0 8) 1 8) 2 8) 3 8)), (aI g b2_13 4 (upd (upd (upd (upd (fun _ => 0) 0 8) 1 8) 2 8) 3 8)), (oX3 d0_14 d1_15 d2_16), (aI g d1_15 36 (fun _ => 0)), (oX8 ss sh sa sb se), (oX4 sh sq sr (nI k)), (aI g sq 24 sf0), (oX0 sa sl), (aI g sl 3600 sln), (oX2 sb sc sd sx sy srl shd sth), (aI g sc 4 sfr), (aI g sd 4 sfh), (oX3 se sf sg), (aI g sf 36 sco)]) (wr := [(oX10 x0 y0 ta z0 p0 dr pa to_ ss im (nI nk) tr v0 rf), (aS g im 3 (va_up imf nk (some q_2))), (aI g sr 6 ssh), (aI g sg 39 sre), (aI g c2_8 6 (fun _ => 0)), (aI g d2_16 39 (fun _ => 0))]) (va_runV (As := [.ref ss]) (rest := []) ⟨hx, hb, hml, hown, hts⟩ (c_X8_take l g q_2 c0_6 c1_7 c2_8 0 (fun _ => 0) a0_9 a1_10 (fun _ => 0) b0_11 b1_12 b2_13 1 1 1 1 0 (upd (upd (upd (upd (fun _ => 0) 0 8) 1 8) 2 8) 3 8) (upd (upd (upd (upd (fun _ => 0) 0 8) 1 8) 2 8) 3 8) d0_14 d1_15 d2_16 (fun _ => 0) ss sh sq sr k sf0 sa sl sln sb sc sd sx sy srl shd sth sfr sfh se sf sg sco (by first | assumption | decide | omega) H.size) (cwV 1 hts gX10_image_X8_take rfl rfl rfl (by decide +kernel) ⟨Nat.le_of_ble_eq_true rfl, Nat.le_of_ble_eq_true rfl⟩) (he_preV (wc := [(oX8 q_2 c0_6 a0_9 b0_11 d0_14), (oX4 c0_6 c1_7 c2_8 0), (aI g c1_7 24 (fun _ => 0)), (oX0 a0_9 a1_10), (aI g a1_10 3600 (fun _ => 0)), (oX2 b0_11 b1_12 b2_13 1 1 1 1 0), (aI g b1_12 4 (upd (upd (upd (upd (fun _ => 0) 0 8) 1 8) 2 8) 3 8)), (aI g b2_13 4 (upd (upd (upd (upd (fun _ => 0) 0 8) 1 8) 2 8) 3 8)), (oX3 d0_14 d1_15 d2_16), (aI g d1_15 36 (fun _ => 0)), (oX8 ss sh sa sb se), (oX4 sh sq sr (nI k)), (aI g sq 24 sf0), (oX0 sa sl), (aI g sl 3600 sln), (oX2 sb sc sd sx sy srl shd sth), (aI g sc 4 sfr), (aI g sd 4 sfh), (oX3 se sf sg), (aI g sf 36 sco)]) hK hP hD hS hA hE [14, 15, 16, 18, 19, 20, 21, 22, 23, 24, 2, 3, 4, 6, 7, 8, 9, 10, 11, 12] rfl rfl 14 rfl rfl) rfl rfl hl.1 rfl (lv_room (Nat.le_of_ble_eq_true rfl)) dX10_image_51 ⟨(Nat.le_of_ble_eq_true rfl), (Nat.le_of_ble_eq_true rfl)⟩) hP hD hS hA [14, 15, 16, 18, 19, 20, 21, 22, 23, 24, 2, 3, 4, 6, 7, 8, 9, 10, 11, 12] [0, 1, 5, 13, 17, 25] rfl rfl rfl (by decide) (fun u_18 H locs h_19 hP hD hS => ?_)
    have hP : va_P g.1 vwCl [(oX10 x0 y0 ta z0 p0 dr pa to_ ss im (nI nk) tr v0 rf), (aS g im 3 (va_up imf nk (some q_2))), (aI g sr 6 ssh), (aI g sg 39 sre), (aI g c2_8 6 (fun _ => 0)), (aI g d2_16 39 (fun _ => 0)), (oX8 q_2 c0_6 a0_9 b0_11 d0_14), (oX4 c0_6 c1_7 c2_8 (nI k)), (aI g c1_7 24 (va_cpy sf0 (fun _ => 0) 0 0 24)), (oX0 a0_9 a1_10), (aI g a1_10 3600 (va_cpy sln (fun _ => 0) 0 0 (k * 30))), (oX2 b0_11 b1_12 b2_13 sx sy srl shd sth), (aI g b1_12 4 (va_cpy sfr (upd (upd (upd (upd (fun _ => 0) 0 8) 1 8) 2 8) 3 8) 0 0 4)), (aI g b2_13 4 (va_cpy sfh (upd (upd (upd (upd (fun _ => 0) 0 8) 1 8) 2 8) 3 8) 0 0 4)), (oX3 d0_14 d1_15 d2_16), (aI g d1_15 36 (va_cpy sco (fun _ => 0) 0 0 36)), (oX8 ss sh sa sb se), (oX4 sh sq sr (nI k)), (aI g sq 24 sf0), (oX0 sa sl), (aI g sl 3600 sln), (oX2 sb sc sd sx sy srl shd sth), (aI g sc 4 sfr), (aI g sd 4 sfh), (oX3 se sf sg), (aI g sf 36 sco)] H := hP
    have hD : va_D A [(oX10 x0 y0 ta z0 p0 dr pa to_ ss im (nI nk) tr v0 rf), (aS g im 3 (va_up imf nk (some q_2))), (aI g sr 6 ssh), (aI g sg 39 sre), (aI g c2_8 6 (fun _ => 0)), (aI g d2_16 39 (fun _ => 0)), (oX8 q_2 c0_6 a0_9 b0_11 d0_14), (oX4 c0_6 c1_7 c2_8 (nI k)), (aI g c1_7 24 (va_cpy sf0 (fun _ => 0) 0 0 24)), (oX0 a0_9 a1_10), (aI g a1_10 3600 (va_cpy sln (fun _ => 0) 0 0 (k * 30))), (oX2 b0_11 b1_12 b2_13 sx sy srl shd sth), (aI g b1_12 4 (va_cpy sfr (upd (upd (upd (upd (fun _ => 0) 0 8) 1 8) 2 8) 3 8) 0 0 4)), (aI g b2_13 4 (va_cpy sfh (upd (upd (upd (upd (fun _ => 0) 0 8) 1 8) 2 8) 3 8) 0 0 4)), (oX3 d0_14 d1_15 d2_16), (aI g d1_15 36 (va_cpy sco (fun _ => 0) 0 0 36)), (oX8 ss sh sa sb se), (oX4 sh sq sr (nI k)), (aI g sq 24 sf0), (oX0 sa sl), (aI g sl 3600 sln), (oX2 sb sc sd sx sy srl shd sth), (aI g sc 4 sfr), (aI g sd 4 sfh), (oX3 se sf sg), (aI g sf 36 sco)] := hD
    refine lv_aload_n hx hb dX10_image_54 rfl (lv_at hl 0 rfl) ?_
    refine lv_dup hx hb dX10_image_55 rfl ?_
    refine va_get (v := .int (nI nk)) (T := TX10) (N := 13) hx hb hts inX10 hown hK hP 0 rfl rfl 9 (by decide) f95 (fun _ h9 => h9) rfl dX10_image_56 ?_
    refine lv_iconst (v := 1) hx hb dX10_image_59 (by decide) ?_
    refine lv_iadd hx hb dX10_image_60 ?_
    refine he_top (nI (nk + 1)) (nI_add nk 1) ?_
    refine va_put (v := .int (nI (nk + 1))) (ty := .int) (T := TX10) (N := 13) hx hb hts inX10 tyX10 tyX10_ok nmX10 hown hK hP hD hS 0 rfl rfl 9 (by decide) f95 (fun _ h9 => h9) rfl (by decide +kernel) rfl rfl (Nat.le_of_ble_eq_true rfl) dX10_image_61 (fun H locs hP hD hS => ?_)
    have hP : va_P g.1 vwCl [(oX10 x0 y0 ta z0 p0 dr pa to_ ss im (nI (nk + 1)) tr v0 rf), (aS g im 3 (va_up imf nk (some q_2))), (aI g sr 6 ssh), (aI g sg 39 sre), (aI g c2_8 6 (fun _ => 0)), (aI g d2_16 39 (fun _ => 0)), (oX8 q_2 c0_6 a0_9 b0_11 d0_14), (oX4 c0_6 c1_7 c2_8 (nI k)), (aI g c1_7 24 (va_cpy sf0 (fun _ => 0) 0 0 24)), (oX0 a0_9 a1_10), (aI g a1_10 3600 (va_cpy sln (fun _ => 0) 0 0 (k * 30))), (oX2 b0_11 b1_12 b2_13 sx sy srl shd sth), (aI g b1_12 4 (va_cpy sfr (upd (upd (upd (upd (fun _ => 0) 0 8) 1 8) 2 8) 3 8) 0 0 4)), (aI g b2_13 4 (va_cpy sfh (upd (upd (upd (upd (fun _ => 0) 0 8) 1 8) 2 8) 3 8) 0 0 4)), (oX3 d0_14 d1_15 d2_16), (aI g d1_15 36 (va_cpy sco (fun _ => 0) 0 0 36)), (oX8 ss sh sa sb se), (oX4 sh sq sr (nI k)), (aI g sq 24 sf0), (oX0 sa sl), (aI g sl 3600 sln), (oX2 sb sc sd sx sy srl shd sth), (aI g sc 4 sfr), (aI g sd 4 sfh), (oX3 se sf sg), (aI g sf 36 sco)] H := hP
    have hD : va_D A [(oX10 x0 y0 ta z0 p0 dr pa to_ ss im (nI (nk + 1)) tr v0 rf), (aS g im 3 (va_up imf nk (some q_2))), (aI g sr 6 ssh), (aI g sg 39 sre), (aI g c2_8 6 (fun _ => 0)), (aI g d2_16 39 (fun _ => 0)), (oX8 q_2 c0_6 a0_9 b0_11 d0_14), (oX4 c0_6 c1_7 c2_8 (nI k)), (aI g c1_7 24 (va_cpy sf0 (fun _ => 0) 0 0 24)), (oX0 a0_9 a1_10), (aI g a1_10 3600 (va_cpy sln (fun _ => 0) 0 0 (k * 30))), (oX2 b0_11 b1_12 b2_13 sx sy srl shd sth), (aI g b1_12 4 (va_cpy sfr (upd (upd (upd (upd (fun _ => 0) 0 8) 1 8) 2 8) 3 8) 0 0 4)), (aI g b2_13 4 (va_cpy sfh (upd (upd (upd (upd (fun _ => 0) 0 8) 1 8) 2 8) 3 8) 0 0 4)), (oX3 d0_14 d1_15 d2_16), (aI g d1_15 36 (va_cpy sco (fun _ => 0) 0 0 36)), (oX8 ss sh sa sb se), (oX4 sh sq sr (nI k)), (aI g sq 24 sf0), (oX0 sa sl), (aI g sl 3600 sln), (oX2 sb sc sd sx sy srl shd sth), (aI g sc 4 sfr), (aI g sd 4 sfh), (oX3 se sf sg), (aI g sf 36 sco)] := hD
    refine lv_aload_n hx hb dX10_image_64 rfl (lv_at hl 0 rfl) ?_
    refine va_get (v := .int (nI (nk + 1))) (T := TX10) (N := 13) hx hb hts inX10 hown hK hP 0 rfl rfl 9 (by decide) f95 (fun _ h9 => h9) rfl dX10_image_65 ?_
    have hP := hP.sub (ws' := [(oX10 x0 y0 ta z0 p0 dr pa to_ ss im (nI (nk + 1)) tr v0 rf), (aS g im 3 (va_up imf nk (some q_2))), (oX8 ss sh sa sb se), (oX4 sh sq sr (nI k)), (aI g sq 24 sf0), (aI g sr 6 ssh), (oX0 sa sl), (aI g sl 3600 sln), (oX2 sb sc sd sx sy srl shd sth), (aI g sc 4 sfr), (aI g sd 4 sfh), (oX3 se sf sg), (aI g sf 36 sco), (aI g sg 39 sre), (oX8 q_2 c0_6 a0_9 b0_11 d0_14), (oX4 c0_6 c1_7 c2_8 (nI k)), (aI g c1_7 24 (va_cpy sf0 (fun _ => 0) 0 0 24)), (aI g c2_8 6 (fun _ => 0)), (oX0 a0_9 a1_10), (aI g a1_10 3600 (va_cpy sln (fun _ => 0) 0 0 (k * 30))), (oX2 b0_11 b1_12 b2_13 sx sy srl shd sth), (aI g b1_12 4 (va_cpy sfr (upd (upd (upd (upd (fun _ => 0) 0 8) 1 8) 2 8) 3 8) 0 0 4)), (aI g b2_13 4 (va_cpy sfh (upd (upd (upd (upd (fun _ => 0) 0 8) 1 8) 2 8) 3 8) 0 0 4)), (oX3 d0_14 d1_15 d2_16), (aI g d1_15 36 (va_cpy sco (fun _ => 0) 0 0 36)), (aI g d2_16 39 (fun _ => 0))]) [0, 1, 16, 17, 18, 2, 19, 20, 21, 22, 23, 24, 25, 3, 6, 7, 8, 4, 9, 10, 11, 12, 13, 14, 15, 5] rfl
    have hD := hD.sub (ws' := [(oX10 x0 y0 ta z0 p0 dr pa to_ ss im (nI (nk + 1)) tr v0 rf), (aS g im 3 (va_up imf nk (some q_2))), (oX8 ss sh sa sb se), (oX4 sh sq sr (nI k)), (aI g sq 24 sf0), (aI g sr 6 ssh), (oX0 sa sl), (aI g sl 3600 sln), (oX2 sb sc sd sx sy srl shd sth), (aI g sc 4 sfr), (aI g sd 4 sfh), (oX3 se sf sg), (aI g sf 36 sco), (aI g sg 39 sre), (oX8 q_2 c0_6 a0_9 b0_11 d0_14), (oX4 c0_6 c1_7 c2_8 (nI k)), (aI g c1_7 24 (va_cpy sf0 (fun _ => 0) 0 0 24)), (aI g c2_8 6 (fun _ => 0)), (oX0 a0_9 a1_10), (aI g a1_10 3600 (va_cpy sln (fun _ => 0) 0 0 (k * 30))), (oX2 b0_11 b1_12 b2_13 sx sy srl shd sth), (aI g b1_12 4 (va_cpy sfr (upd (upd (upd (upd (fun _ => 0) 0 8) 1 8) 2 8) 3 8) 0 0 4)), (aI g b2_13 4 (va_cpy sfh (upd (upd (upd (upd (fun _ => 0) 0 8) 1 8) 2 8) 3 8) 0 0 4)), (oX3 d0_14 d1_15 d2_16), (aI g d1_15 36 (va_cpy sco (fun _ => 0) 0 0 36)), (aI g d2_16 39 (fun _ => 0))]) [0, 1, 16, 17, 18, 2, 19, 20, 21, 22, 23, 24, 25, 3, 6, 7, 8, 4, 9, 10, 11, 12, 13, 14, 15, 5] (by decide) rfl
    exact he_ri hQ hx hb hr hlk hP hD hS dX10_image_68 (Nat.le_of_ble_eq_true rfl) (Nat.le_of_ble_eq_true rfl) (fun k => [q_2, c0_6, c1_7, c2_8, a0_9, a1_10, b0_11, b1_12, b2_13, d0_14, d1_15, d2_16].getD k 0) (rfl) (rfl)
  · exact absurd ((he_clt (a := nk) (b := 3) rfl (by decide) (by omega) (by decide)).mpr hnk) c_1
end
