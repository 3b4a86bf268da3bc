set_option maxHeartbeats 4000000 in
set_option maxRecDepth 100000 in
theorem c_X4_isPaid1 (l : Launch) (g : he_G) (h0 : Nat) (q0 : Nat) (q1 : Nat) (mo : Int32) (f : Nat → Int32) (t0 : Nat) (t1 : Nat) (t2 : Nat) (pw : Int32) (pd : Nat → Int32) (hpay : payF pd mo ≤ f 0) : he_I l yX4_isPaid wsX4_isPaid 2 42 0 0 g [.ref h0, .ref t0] [(oX4 h0 q0 q1 mo), (aI g q0 24 f), (oX5 t0 t1 t2 pw), (aI g t1 6 pd)] (fun (r : Int32) (u : Unit) => r = 1) (fun (u : Unit) => [(oX4 h0 q0 q1 mo), (aI g q0 24 (mvF f 0 1 (payF pd mo))), (oX5 t0 t1 t2 pw), (aI g t1 6 pd)]) := by
  refine he_begin (l := l) (g := g) (y := yX4_isPaid) (wl := wsX4_isPaid) (fr := 2) (lo := 42) (mc := 0) (ms := 0) (av := [.ref h0, .ref t0]) (ws := [(oX4 h0 q0 q1 mo), (aI g q0 24 f), (oX5 t0 t1 t2 pw), (aI g t1 6 pd)]) (cc := cX4_isPaid) (maxL := 3) (ret := (some .boolean)) (fun A => va_Qi (fun (r : Int32) (u : Unit) => r = 1) (fun u t => he_post g A ((fun (u : Unit) => [(oX4 h0 q0 q1 mo), (aI g q0 24 (mvF f 0 1 (payF pd mo))), (oX5 t0 t1 t2 pw), (aI g t1 6 pd)]) u) t) A) (by decide) rfl (Nat.le_of_ble_eq_true rfl) ?_
  intro p e s m args below meth c A ls H locs Q hQ hB
  obtain ⟨hx, hb, hr, hml, hown, hts, hlk, hin, hP, hK, hD, hS, hA, hE, hl⟩ := hB
  have hl : lv_has ls 3 [(0, .ref h0), (1, .ref t0)] := hl
  have f18 := hts (.fieldLink RX4 18 "HiredEnemy$Course" "month" "I") (iwoX4_isPaid (k := 0) rfl)
  have inX4 : ∀ w ∈ wsX40, w ∈ wsX4_isPaid := innX4_isPaid_X4
  have f9 := hts (.fieldLink RX4 9 "HiredEnemy$Course" "now" "[I") (iwoX4_isPaid (k := 1) rfl)
  refine lv_aload_n hx hb dX4_isPaid_0 rfl (lv_at hl 1 rfl) ?_
  refine lv_aload_n hx hb dX4_isPaid_1 rfl (lv_at hl 0 rfl) ?_
  refine va_get (v := .int mo) (T := TX4) (N := 3) hx hb hts inX4 hown hK hP 0 rfl rfl 2 (by decide) f18 (fun _ h9 => h9) rfl dX4_isPaid_2 ?_
  refine he_ci (wc := [(oX5 t0 t1 t2 pw), (aI g t1 6 pd)]) (wr := [(oX4 h0 q0 q1 mo), (aI g q0 24 f)]) (va_runV (As := [.int mo]) (rest := []) ⟨hx, hb, hml, hown, hts⟩ (c_X5_payIn l g t0 t1 t2 pw pd mo H.size) (cwV 1 hts gX4_isPaid_X5_payIn rfl rfl rfl (by decide +kernel) ⟨Nat.le_of_ble_eq_true rfl, Nat.le_of_ble_eq_true rfl⟩) (he_preV (wc := [(oX5 t0 t1 t2 pw), (aI g t1 6 pd)]) hK hP hD hS hA hE [2, 3] rfl rfl 2 rfl rfl) rfl rfl hl.1 rfl (lv_room (Nat.le_of_ble_eq_true rfl)) dX4_isPaid_5 ⟨(Nat.le_of_ble_eq_true rfl), (Nat.le_of_ble_eq_true rfl)⟩) hP hD hS hA [2, 3] [0, 1] rfl rfl rfl (by decide) (fun r_1 u_2 H locs h_3 hP hD hS => ?_)
  subst h_3
  have hP : va_P g.1 vwCl [(oX4 h0 q0 q1 mo), (aI g q0 24 f), (oX5 t0 t1 t2 pw), (aI g t1 6 pd)] H := hP
  have hD : va_D A [(oX4 h0 q0 q1 mo), (aI g q0 24 f), (oX5 t0 t1 t2 pw), (aI g t1 6 pd)] := hD
  refine lv_istore_n (lv' := [(2, .int (payF pd mo)), (0, .ref h0), (1, .ref t0)]) hx hb dX4_isPaid_8 rfl hl (by decide) rfl (fun ls hl => ?_)
  refine lv_aload_n hx hb dX4_isPaid_9 rfl (lv_at hl 1 rfl) ?_
  refine va_get (v := .ref q0) (T := TX4) (N := 3) hx hb hts inX4 hown hK hP 0 rfl rfl 0 (by decide) f9 (fun _ h9 => h9) rfl dX4_isPaid_10 ?_
  refine lv_iconst (v := 0) hx hb dX4_isPaid_13 (by decide) ?_
  refine he_iald hx hb hK hP 1 rfl (0) (by decide) (by decide) (by first | decide | assumption) (f 0) rfl dX4_isPaid_14 ?_
  refine lv_iload_n hx hb dX4_isPaid_15 rfl (lv_at hl 0 rfl) ?_
  refine lv_icmp_ge (tgt := 40) hx hb dX4_isPaid_16 (by decide) (fun c_4 => ?_) (fun c_4 => ?_)
  · refine lv_aload_n hx hb dX4_isPaid_40 rfl (lv_at hl 1 rfl) ?_
    refine lv_iconst (v := 0) hx hb dX4_isPaid_41 (by decide) ?_
    refine lv_iconst (v := 1) hx hb dX4_isPaid_42 (by decide) ?_
    refine lv_iload_n hx hb dX4_isPaid_43 rfl (lv_at hl 0 rfl) ?_
    refine he_cv (wc := [(oX4 h0 q0 q1 mo), (aI g q0 24 f)]) (wr := [(oX5 t0 t1 t2 pw), (aI g t1 6 pd)]) (va_runV (As := [.int 0, .int 1, .int (payF pd mo)]) (rest := []) ⟨hx, hb, hml, hown, hts⟩ (c_X4_move l g h0 q0 q1 mo f 0 1 (payF pd mo) (by first | assumption | decide | omega) (by first | assumption | decide | omega) H.size) (cwV 3 hts gX4_isPaid_X4_move rfl rfl rfl (by decide +kernel) ⟨Nat.le_of_ble_eq_true rfl, Nat.le_of_ble_eq_true rfl⟩) (he_preV (wc := [(oX4 h0 q0 q1 mo), (aI g q0 24 f)]) hK hP hD hS hA hE [0, 1] rfl rfl 0 rfl rfl) rfl rfl hl.1 rfl (lv_room (Nat.le_of_ble_eq_true rfl)) dX4_isPaid_44 ⟨(Nat.le_of_ble_eq_true rfl), (Nat.le_of_ble_eq_true rfl)⟩) hP hD hS hA [0, 1] [2, 3] rfl rfl rfl (by decide) (fun u_6 H locs h_7 hP hD hS => ?_)
    have hP : va_P g.1 vwCl [(oX5 t0 t1 t2 pw), (aI g t1 6 pd), (oX4 h0 q0 q1 mo), (aI g q0 24 (mvF f 0 1 (payF pd mo)))] H := hP
    have hD : va_D A [(oX5 t0 t1 t2 pw), (aI g t1 6 pd), (oX4 h0 q0 q1 mo), (aI g q0 24 (mvF f 0 1 (payF pd mo)))] := hD
    refine lv_iconst (v := 1) hx hb dX4_isPaid_47 (by decide) ?_
    have hP := hP.sub (ws' := [(oX4 h0 q0 q1 mo), (aI g q0 24 (mvF f 0 1 (payF pd mo))), (oX5 t0 t1 t2 pw), (aI g t1 6 pd)]) [2, 3, 0, 1] rfl
    have hD := hD.sub (ws' := [(oX4 h0 q0 q1 mo), (aI g q0 24 (mvF f 0 1 (payF pd mo))), (oX5 t0 t1 t2 pw), (aI g t1 6 pd)]) [2, 3, 0, 1] (by decide) rfl
    exact he_rz hQ hx hb hr hlk hP hD hS dX4_isPaid_48 (Nat.le_of_ble_eq_true rfl) (Nat.le_of_ble_eq_true rfl) rfl (()) (rfl) (rfl)
  · exact absurd hpay c_4
set_option maxHeartbeats 4000000 in
set_option maxRecDepth 100000 in
theorem c_X4_isPaid0 (l : Launch) (g : he_G) (h0 : Nat) (q0 : Nat) (q1 : Nat) (mo : Int32) (f : Nat → Int32) (t0 : Nat) (t1 : Nat) (t2 : Nat) (pw : Int32) (pd : Nat → Int32) (hpay : ¬ payF pd mo ≤ f 0) : he_I l yX4_isPaid wsX4_isPaid 2 42 0 0 g [.ref h0, .ref t0] [(oX4 h0 q0 q1 mo), (aI g q0 24 f), (oX5 t0 t1 t2 pw), (aI g t1 6 pd)] (fun (r : Int32) (u : Unit) => r = 0) (fun (u : Unit) => [(oX4 h0 q0 q1 mo), (aI g q0 24 (dfF f)), (oX5 t0 t1 t2 pw), (aI g t1 6 pd)]) := by
  refine he_begin (l := l) (g := g) (y := yX4_isPaid) (wl := wsX4_isPaid) (fr := 2) (lo := 42) (mc := 0) (ms := 0) (av := [.ref h0, .ref t0]) (ws := [(oX4 h0 q0 q1 mo), (aI g q0 24 f), (oX5 t0 t1 t2 pw), (aI g t1 6 pd)]) (cc := cX4_isPaid) (maxL := 3) (ret := (some .boolean)) (fun A => va_Qi (fun (r : Int32) (u : Unit) => r = 0) (fun u t => he_post g A ((fun (u : Unit) => [(oX4 h0 q0 q1 mo), (aI g q0 24 (dfF f)), (oX5 t0 t1 t2 pw), (aI g t1 6 pd)]) u) t) A) (by decide) rfl (Nat.le_of_ble_eq_true rfl) ?_
  intro p e s m args below meth c A ls H locs Q hQ hB
  obtain ⟨hx, hb, hr, hml, hown, hts, hlk, hin, hP, hK, hD, hS, hA, hE, hl⟩ := hB
  have hl : lv_has ls 3 [(0, .ref h0), (1, .ref t0)] := hl
  have f18 := hts (.fieldLink RX4 18 "HiredEnemy$Course" "month" "I") (iwoX4_isPaid (k := 0) rfl)
  have inX4 : ∀ w ∈ wsX40, w ∈ wsX4_isPaid := innX4_isPaid_X4
  have f9 := hts (.fieldLink RX4 9 "HiredEnemy$Course" "now" "[I") (iwoX4_isPaid (k := 1) rfl)
  refine lv_aload_n hx hb dX4_isPaid_0 rfl (lv_at hl 1 rfl) ?_
  refine lv_aload_n hx hb dX4_isPaid_1 rfl (lv_at hl 0 rfl) ?_
  refine va_get (v := .int mo) (T := TX4) (N := 3) hx hb hts inX4 hown hK hP 0 rfl rfl 2 (by decide) f18 (fun _ h9 => h9) rfl dX4_isPaid_2 ?_
  refine he_ci (wc := [(oX5 t0 t1 t2 pw), (aI g t1 6 pd)]) (wr := [(oX4 h0 q0 q1 mo), (aI g q0 24 f)]) (va_runV (As := [.int mo]) (rest := []) ⟨hx, hb, hml, hown, hts⟩ (c_X5_payIn l g t0 t1 t2 pw pd mo H.size) (cwV 1 hts gX4_isPaid_X5_payIn rfl rfl rfl (by decide +kernel) ⟨Nat.le_of_ble_eq_true rfl, Nat.le_of_ble_eq_true rfl⟩) (he_preV (wc := [(oX5 t0 t1 t2 pw), (aI g t1 6 pd)]) hK hP hD hS hA hE [2, 3] rfl rfl 2 rfl rfl) rfl rfl hl.1 rfl (lv_room (Nat.le_of_ble_eq_true rfl)) dX4_isPaid_5 ⟨(Nat.le_of_ble_eq_true rfl), (Nat.le_of_ble_eq_true rfl)⟩) hP hD hS hA [2, 3] [0, 1] rfl rfl rfl (by decide) (fun r_1 u_2 H locs h_3 hP hD hS => ?_)
  subst h_3
  have hP : va_P g.1 vwCl [(oX4 h0 q0 q1 mo), (aI g q0 24 f), (oX5 t0 t1 t2 pw), (aI g t1 6 pd)] H := hP
  have hD : va_D A [(oX4 h0 q0 q1 mo), (aI g q0 24 f), (oX5 t0 t1 t2 pw), (aI g t1 6 pd)] := hD
  refine lv_istore_n (lv' := [(2, .int (payF pd mo)), (0, .ref h0), (1, .ref t0)]) hx hb dX4_isPaid_8 rfl hl (by decide) rfl (fun ls hl => ?_)
  refine lv_aload_n hx hb dX4_isPaid_9 rfl (lv_at hl 1 rfl) ?_
  refine va_get (v := .ref q0) (T := TX4) (N := 3) hx hb hts inX4 hown hK hP 0 rfl rfl 0 (by decide) f9 (fun _ h9 => h9) rfl dX4_isPaid_10 ?_
  refine lv_iconst (v := 0) hx hb dX4_isPaid_13 (by decide) ?_
  refine he_iald hx hb hK hP 1 rfl (0) (by decide) (by decide) (by first | decide | assumption) (f 0) rfl dX4_isPaid_14 ?_
  refine lv_iload_n hx hb dX4_isPaid_15 rfl (lv_at hl 0 rfl) ?_
  refine lv_icmp_ge (tgt := 40) hx hb dX4_isPaid_16 (by decide) (fun c_4 => ?_) (fun c_4 => ?_)
  · exact absurd c_4 hpay
  · refine lv_aload_n hx hb dX4_isPaid_19 rfl (lv_at hl 1 rfl) ?_
    refine va_get (v := .ref q0) (T := TX4) (N := 3) hx hb hts inX4 hown hK hP 0 rfl rfl 0 (by decide) f9 (fun _ h9 => h9) rfl dX4_isPaid_20 ?_
    refine lv_bipush (v := 8) hx hb dX4_isPaid_23 (by decide) ?_
    refine lv_dup2_11 hx hb dX4_isPaid_25 rfl rfl ?_
    refine he_iald hx hb hK hP 1 rfl (8) (by decide) (by decide) (by first | decide | assumption) (f 8) rfl dX4_isPaid_26 ?_
    refine lv_iconst (v := 1) hx hb dX4_isPaid_27 (by decide) ?_
    refine lv_iadd hx hb dX4_isPaid_28 ?_
    refine he_iast hx hb hK hP hD hS 1 rfl (8) (by decide) (by decide) (by first | decide | assumption) dX4_isPaid_29 (fun H locs hP hD hS => ?_)
    have hP : va_P g.1 vwCl [(oX4 h0 q0 q1 mo), (aI g q0 24 (upd f 8 ((f 8) + 1))), (oX5 t0 t1 t2 pw), (aI g t1 6 pd)] H := hP
    have hD : va_D A [(oX4 h0 q0 q1 mo), (aI g q0 24 (upd f 8 ((f 8) + 1))), (oX5 t0 t1 t2 pw), (aI g t1 6 pd)] := hD
    refine lv_aload_n hx hb dX4_isPaid_30 rfl (lv_at hl 1 rfl) ?_
    refine va_get (v := .ref q0) (T := TX4) (N := 3) hx hb hts inX4 hown hK hP 0 rfl rfl 0 (by decide) f9 (fun _ h9 => h9) rfl dX4_isPaid_31 ?_
    refine lv_bipush (v := 10) hx hb dX4_isPaid_34 (by decide) ?_
    refine lv_iconst (v := (-1)) hx hb dX4_isPaid_36 (by decide) ?_
    refine he_iast hx hb hK hP hD hS 1 rfl (10) (by decide) (by decide) (by first | decide | assumption) dX4_isPaid_37 (fun H locs hP hD hS => ?_)
    have hP : va_P g.1 vwCl [(oX4 h0 q0 q1 mo), (aI g q0 24 (upd (upd f 8 ((f 8) + 1)) 10 (-1))), (oX5 t0 t1 t2 pw), (aI g t1 6 pd)] H := hP
    have hD : va_D A [(oX4 h0 q0 q1 mo), (aI g q0 24 (upd (upd f 8 ((f 8) + 1)) 10 (-1))), (oX5 t0 t1 t2 pw), (aI g t1 6 pd)] := hD
    refine lv_iconst (v := 0) hx hb dX4_isPaid_38 (by decide) ?_
    exact he_rz hQ hx hb hr hlk hP hD hS dX4_isPaid_39 (Nat.le_of_ble_eq_true rfl) (Nat.le_of_ble_eq_true rfl) rfl (()) (rfl) (rfl)
set_option maxHeartbeats 4000000 in
set_option maxRecDepth 100000 in
theorem c_X4_pass0 (l : Launch) (g : he_G) (h0 : Nat) (q0 : Nat) (q1 : Nat) (mo : Int32) (f : Nat → Int32) (sh : Nat → Int32) (p0 : Nat) (p1 : Nat) (p2 : Nat) (p3 : Nat) (p4 : Nat) (w : Nat) (sd : Nat → Int32) (st : Nat → Int32) (me : Nat → Int32) (hw6 : w ≤ 6) : he_V l yX4_pass wsX4_pass 3 61 0 0 g [.ref h0, .ref p0, .null] [(oX4 h0 q0 q1 mo), (aI g q0 24 f), (aI g q1 6 sh), (oX6 p0 p1 p2 p3 p4 (nI w)), (aI g p1 24 sd), (aI g p3 6 st), (aI g p4 6 me)] (fun (u : Unit) => True) (fun (u : Unit) => [(oX4 h0 q0 q1 (mo + 1)), (aI g q0 24 (psT sd st me w (taxF sd f))), (aI g q1 6 (flF (fun _ => 0) sh 6)), (oX6 p0 p1 p2 p3 p4 (nI w)), (aI g p1 24 sd), (aI g p3 6 st), (aI g p4 6 me)]) := by
  refine he_begin (l := l) (g := g) (y := yX4_pass) (wl := wsX4_pass) (fr := 3) (lo := 61) (mc := 0) (ms := 0) (av := [.ref h0, .ref p0, .null]) (ws := [(oX4 h0 q0 q1 mo), (aI g q0 24 f), (aI g q1 6 sh), (oX6 p0 p1 p2 p3 p4 (nI w)), (aI g p1 24 sd), (aI g p3 6 st), (aI g p4 6 me)]) (cc := cX4_pass) (maxL := 3) (ret := none) (fun A => va_Qv (fun (u : Unit) => True) (fun u t => he_post g A ((fun (u : Unit) => [(oX4 h0 q0 q1 (mo + 1)), (aI g q0 24 (psT sd st me w (taxF sd f))), (aI g q1 6 (flF (fun _ => 0) sh 6)), (oX6 p0 p1 p2 p3 p4 (nI w)), (aI g p1 24 sd), (aI g p3 6 st), (aI g p4 6 me)]) u) t) A) (by decide) rfl (Nat.le_of_ble_eq_true rfl) ?_
  intro p e s m args below meth c A ls H locs Q hQ hB
  obtain ⟨hx, hb, hr, hml, hown, hts, hlk, hin, hP, hK, hD, hS, hA, hE, hl⟩ := hB
  have hl : lv_has ls 3 [(0, .ref h0), (1, .ref p0), (2, .null)] := hl
  have f15 := hts (.fieldLink RX4 15 "HiredEnemy$Course" "shot" "[I") (iwoX4_pass (k := 0) rfl)
  have inX4 : ∀ w ∈ wsX40, w ∈ wsX4_pass := innX4_pass_X4
  have f9 := hts (.fieldLink RX4 9 "HiredEnemy$Course" "now" "[I") (iwoX4_pass (k := 1) rfl)
  have f28 := hts (.fieldLink RX4 28 "HiredEnemy$Plan" "said" "[I") (iwoX4_pass (k := 2) rfl)
  have inX6 : ∀ w ∈ wsX60, w ∈ wsX4_pass := innX4_pass_X6
  have ml68 := hts (.methodLink RX4 68 Lib.Math.max.name) (iwoX4_pass (k := 4) rfl)
  have msmax := hts (.static Lib.Math.max.name) (iwoX4_pass (k := 5) rfl)
  have mi := hts (.initialized "java/lang/Math") (iwoX4_pass (k := 6) rfl)
  have mcmax := hts (.code Lib.Math.max.name Lib.Math.max.code 2 (some .int)) (iwoX4_pass (k := 7) rfl)
  have f18 := hts (.fieldLink RX4 18 "HiredEnemy$Course" "month" "I") (iwoX4_pass (k := 8) rfl)
  refine lv_aload_n hx hb dX4_pass_0 rfl (lv_at hl 0 rfl) ?_
  refine va_get (v := .ref q1) (T := TX4) (N := 3) hx hb hts inX4 hown hK hP 0 rfl rfl 1 (by decide) f15 (fun _ h9 => h9) rfl dX4_pass_1 ?_
  refine lv_iconst (v := 0) hx hb dX4_pass_4 (by decide) ?_
  refine he_cv (wc := [(aI g q1 6 sh)]) (wr := [(oX4 h0 q0 q1 mo), (aI g q0 24 f), (oX6 p0 p1 p2 p3 p4 (nI w)), (aI g p1 24 sd), (aI g p3 6 st), (aI g p4 6 me)]) (va_runS (As := [.ref q1, .int 0]) (rest := []) ⟨hx, hb, hml, hown, hts⟩ (c_J7_fill_53178 l g q1 6 sh 0 (by first | assumption | decide | omega) H.size) (va_cwS 2 hts gX4_pass_J7_fill_53178 rfl rfl rfl (by decide +kernel) ⟨Nat.le_of_ble_eq_true rfl, Nat.le_of_ble_eq_true rfl⟩) (he_preS (wc := [(aI g q1 6 sh)]) hK hP hD hS hA hE [2] rfl rfl) rfl rfl hl.1 rfl (lv_room (Nat.le_of_ble_eq_true rfl)) dX4_pass_5 ⟨(Nat.le_of_ble_eq_true rfl), (Nat.le_of_ble_eq_true rfl)⟩) hP hD hS hA [2] [0, 1, 3, 4, 5, 6] rfl rfl rfl (by decide) (fun u_2 H locs h_3 hP hD hS => ?_)
  have hP : va_P g.1 vwCl [(oX4 h0 q0 q1 mo), (aI g q0 24 f), (oX6 p0 p1 p2 p3 p4 (nI w)), (aI g p1 24 sd), (aI g p3 6 st), (aI g p4 6 me), (aI g q1 6 (flF (fun _ => 0) sh 6))] H := hP
  have hD : va_D A [(oX4 h0 q0 q1 mo), (aI g q0 24 f), (oX6 p0 p1 p2 p3 p4 (nI w)), (aI g p1 24 sd), (aI g p3 6 st), (aI g p4 6 me), (aI g q1 6 (flF (fun _ => 0) sh 6))] := hD
  refine lv_aload_n hx hb dX4_pass_8 rfl (lv_at hl 0 rfl) ?_
  refine lv_iconst (v := 2) hx hb dX4_pass_9 (by decide) ?_
  refine lv_iconst (v := 0) hx hb dX4_pass_10 (by decide) ?_
  refine lv_aload_n hx hb dX4_pass_11 rfl (lv_at hl 0 rfl) ?_
  refine va_get (v := .ref q0) (T := TX4) (N := 3) hx hb hts inX4 hown hK hP 0 rfl rfl 0 (by decide) f9 (fun _ h9 => h9) rfl dX4_pass_12 ?_
  refine lv_iconst (v := 3) hx hb dX4_pass_15 (by decide) ?_
  refine he_iald hx hb hK hP 1 rfl (3) (by decide) (by decide) (by first | decide | assumption) (f 3) rfl dX4_pass_16 ?_
  refine lv_aload_n hx hb dX4_pass_17 rfl (lv_at hl 1 rfl) ?_
  refine va_get (v := .ref p1) (T := TX6) (N := 5) hx hb hts inX6 hown hK hP 2 rfl rfl 0 (by decide) f28 (fun _ h9 => h9) rfl dX4_pass_18 ?_
  refine lv_bipush (v := 10) hx hb dX4_pass_21 (by decide) ?_
  refine he_iald hx hb hK hP 3 rfl (10) (by decide) (by decide) (by first | decide | assumption) (sd 10) rfl dX4_pass_23 ?_
  refine lv_imul hx hb dX4_pass_24 ?_
  refine lv_aload_n hx hb dX4_pass_25 rfl (lv_at hl 0 rfl) ?_
  refine va_get (v := .ref q0) (T := TX4) (N := 3) hx hb hts inX4 hown hK hP 0 rfl rfl 0 (by decide) f9 (fun _ h9 => h9) rfl dX4_pass_26 ?_
  refine lv_iconst (v := 5) hx hb dX4_pass_29 (by decide) ?_
  refine he_iald hx hb hK hP 1 rfl (5) (by decide) (by decide) (by first | decide | assumption) (f 5) rfl dX4_pass_30 ?_
  refine lv_imul hx hb dX4_pass_31 ?_
  refine lv_sipush (v := 10000) hx hb dX4_pass_32 (by decide) ?_
  refine lv_idiv hx hb dX4_pass_35 (by decide) ?_
  refine he_cv (wc := [(oX4 h0 q0 q1 mo), (aI g q0 24 f)]) (wr := [(oX6 p0 p1 p2 p3 p4 (nI w)), (aI g p1 24 sd), (aI g p3 6 st), (aI g p4 6 me), (aI g q1 6 (flF (fun _ => 0) sh 6))]) (va_runV (As := [.int 2, .int 0, .int ((((f 3) * (sd 10)) * (f 5)) / 10000)]) (rest := []) ⟨hx, hb, hml, hown, hts⟩ (c_X4_move l g h0 q0 q1 mo f 2 0 ((((f 3) * (sd 10)) * (f 5)) / 10000) (by first | assumption | decide | omega) (by first | assumption | decide | omega) H.size) (cwV 3 hts gX4_pass_X4_move rfl rfl rfl (by decide +kernel) ⟨Nat.le_of_ble_eq_true rfl, Nat.le_of_ble_eq_true rfl⟩) (he_preV (wc := [(oX4 h0 q0 q1 mo), (aI g q0 24 f)]) hK hP hD hS hA hE [0, 1] rfl rfl 0 rfl rfl) rfl rfl hl.1 rfl (lv_room (Nat.le_of_ble_eq_true rfl)) dX4_pass_36 ⟨(Nat.le_of_ble_eq_true rfl), (Nat.le_of_ble_eq_true rfl)⟩) hP hD hS hA [0, 1] [2, 3, 4, 5, 6] rfl rfl rfl (by decide) (fun u_5 H locs h_6 hP hD hS => ?_)
  have hP : va_P g.1 vwCl [(oX6 p0 p1 p2 p3 p4 (nI w)), (aI g p1 24 sd), (aI g p3 6 st), (aI g p4 6 me), (aI g q1 6 (flF (fun _ => 0) sh 6)), (oX4 h0 q0 q1 mo), (aI g q0 24 (mvF f 2 0 ((((f 3) * (sd 10)) * (f 5)) / 10000)))] H := hP
  have hD : va_D A [(oX6 p0 p1 p2 p3 p4 (nI w)), (aI g p1 24 sd), (aI g p3 6 st), (aI g p4 6 me), (aI g q1 6 (flF (fun _ => 0) sh 6)), (oX4 h0 q0 q1 mo), (aI g q0 24 (mvF f 2 0 ((((f 3) * (sd 10)) * (f 5)) / 10000)))] := hD
  have hP : va_P g.1 vwCl [(oX6 p0 p1 p2 p3 p4 (nI w)), (aI g p1 24 sd), (aI g p3 6 st), (aI g p4 6 me), (aI g q1 6 (flF (fun _ => 0) sh 6)), (oX4 h0 q0 q1 mo), (aI g q0 24 (taxF sd f))] H := hP
  have hD : va_D A [(oX6 p0 p1 p2 p3 p4 (nI w)), (aI g p1 24 sd), (aI g p3 6 st), (aI g p4 6 me), (aI g q1 6 (flF (fun _ => 0) sh 6)), (oX4 h0 q0 q1 mo), (aI g q0 24 (taxF sd f))] := hD
  refine lv_aload_nN hx hb dX4_pass_39 rfl (lv_at hl 2 rfl) ?_
  refine lv_ifnullN (tgt := 71) hx hb dX4_pass_40 (by decide) ?_
  refine lv_aload_n hx hb dX4_pass_71 rfl (lv_at hl 0 rfl) ?_
  refine va_get (v := .ref q0) (T := TX4) (N := 3) hx hb hts inX4 hown hK hP 5 rfl rfl 0 (by decide) f9 (fun _ h9 => h9) rfl dX4_pass_72 ?_
  refine lv_iconst (v := 5) hx hb dX4_pass_75 (by decide) ?_
  refine lv_iconst (v := 0) hx hb dX4_pass_76 (by decide) ?_
  refine lv_aload_n hx hb dX4_pass_77 rfl (lv_at hl 0 rfl) ?_
  refine va_get (v := .ref q0) (T := TX4) (N := 3) hx hb hts inX4 hown hK hP 5 rfl rfl 0 (by decide) f9 (fun _ h9 => h9) rfl dX4_pass_78 ?_
  refine lv_iconst (v := 5) hx hb dX4_pass_81 (by decide) ?_
  refine he_iald hx hb hK hP 6 rfl (5) (by decide) (by decide) (by first | decide | assumption) ((taxF sd f) 5) rfl dX4_pass_82 ?_
  refine lv_aload_n hx hb dX4_pass_83 rfl (lv_at hl 1 rfl) ?_
  refine va_get (v := .ref p1) (T := TX6) (N := 5) hx hb hts inX6 hown hK hP 0 rfl rfl 0 (by decide) f28 (fun _ h9 => h9) rfl dX4_pass_84 ?_
  refine lv_bipush (v := 14) hx hb dX4_pass_87 (by decide) ?_
  refine he_iald hx hb hK hP 1 rfl (14) (by decide) (by decide) (by first | decide | assumption) (sd 14) rfl dX4_pass_89 ?_
  refine lv_isub hx hb dX4_pass_90 ?_
  refine va_mmax hx hb (by rw [hml]; exact hl.1.symm) hown ml68 msmax mi mcmax (by decide) (Nat.le_of_ble_eq_true rfl) (Nat.le_of_ble_eq_true rfl) (Nat.le_of_ble_eq_true rfl) dX4_pass_91 ?_
  refine he_iast hx hb hK hP hD hS 6 rfl (5) (by decide) (by decide) (by first | decide | assumption) dX4_pass_94 (fun H locs hP hD hS => ?_)
  have hP : va_P g.1 vwCl [(oX6 p0 p1 p2 p3 p4 (nI w)), (aI g p1 24 sd), (aI g p3 6 st), (aI g p4 6 me), (aI g q1 6 (flF (fun _ => 0) sh 6)), (oX4 h0 q0 q1 mo), (aI g q0 24 (upd (taxF sd f) 5 (if 0 < (((taxF sd f) 5) - (sd 14)) then ((taxF sd f) 5) - (sd 14) else 0)))] H := hP
  have hD : va_D A [(oX6 p0 p1 p2 p3 p4 (nI w)), (aI g p1 24 sd), (aI g p3 6 st), (aI g p4 6 me), (aI g q1 6 (flF (fun _ => 0) sh 6)), (oX4 h0 q0 q1 mo), (aI g q0 24 (upd (taxF sd f) 5 (if 0 < (((taxF sd f) 5) - (sd 14)) then ((taxF sd f) 5) - (sd 14) else 0)))] := hD
  have hP : va_P g.1 vwCl [(oX6 p0 p1 p2 p3 p4 (nI w)), (aI g p1 24 sd), (aI g p3 6 st), (aI g p4 6 me), (aI g q1 6 (flF (fun _ => 0) sh 6)), (oX4 h0 q0 q1 mo), (aI g q0 24 (psA sd (taxF sd f)))] H := hP
  have hD : va_D A [(oX6 p0 p1 p2 p3 p4 (nI w)), (aI g p1 24 sd), (aI g p3 6 st), (aI g p4 6 me), (aI g q1 6 (flF (fun _ => 0) sh 6)), (oX4 h0 q0 q1 mo), (aI g q0 24 (psA sd (taxF sd f)))] := hD
  refine lv_aload_n hx hb dX4_pass_95 rfl (lv_at hl 0 rfl) ?_
  refine lv_aload_n hx hb dX4_pass_96 rfl (lv_at hl 1 rfl) ?_
  refine he_cv (wc := [(oX4 h0 q0 q1 mo), (aI g q0 24 (psA sd (taxF sd f))), (oX6 p0 p1 p2 p3 p4 (nI w)), (aI g p1 24 sd), (aI g p3 6 st), (aI g p4 6 me)]) (wr := [(aI g q1 6 (flF (fun _ => 0) sh 6))]) (va_runV (As := [.ref p0]) (rest := []) ⟨hx, hb, hml, hown, hts⟩ (c_X4_mend l g h0 q0 q1 mo (psA sd (taxF sd f)) p0 p1 p2 p3 p4 w sd st me (by first | assumption | decide | omega) H.size) (cwV 1 hts gX4_pass_X4_mend rfl rfl rfl (by decide +kernel) ⟨Nat.le_of_ble_eq_true rfl, Nat.le_of_ble_eq_true rfl⟩) (he_preV (wc := [(oX4 h0 q0 q1 mo), (aI g q0 24 (psA sd (taxF sd f))), (oX6 p0 p1 p2 p3 p4 (nI w)), (aI g p1 24 sd), (aI g p3 6 st), (aI g p4 6 me)]) hK hP hD hS hA hE [5, 6, 0, 1, 2, 3] rfl rfl 5 rfl rfl) rfl rfl hl.1 rfl (lv_room (Nat.le_of_ble_eq_true rfl)) dX4_pass_97 ⟨(Nat.le_of_ble_eq_true rfl), (Nat.le_of_ble_eq_true rfl)⟩) hP hD hS hA [5, 6, 0, 1, 2, 3] [4] rfl rfl rfl (by decide) (fun u_8 H locs h_9 hP hD hS => ?_)
  have hP : va_P g.1 vwCl [(aI g q1 6 (flF (fun _ => 0) sh 6)), (oX4 h0 q0 q1 mo), (aI g q0 24 (mendF sd st me (psA sd (taxF sd f)) w)), (oX6 p0 p1 p2 p3 p4 (nI w)), (aI g p1 24 sd), (aI g p3 6 st), (aI g p4 6 me)] H := hP
  have hD : va_D A [(aI g q1 6 (flF (fun _ => 0) sh 6)), (oX4 h0 q0 q1 mo), (aI g q0 24 (mendF sd st me (psA sd (taxF sd f)) w)), (oX6 p0 p1 p2 p3 p4 (nI w)), (aI g p1 24 sd), (aI g p3 6 st), (aI g p4 6 me)] := hD
  refine lv_aload_n hx hb dX4_pass_100 rfl (lv_at hl 0 rfl) ?_
  refine lv_iconst (v := 0) hx hb dX4_pass_101 (by decide) ?_
  refine lv_iconst (v := 2) hx hb dX4_pass_102 (by decide) ?_
  refine lv_aload_n hx hb dX4_pass_103 rfl (lv_at hl 1 rfl) ?_
  refine va_get (v := .ref p1) (T := TX6) (N := 5) hx hb hts inX6 hown hK hP 3 rfl rfl 0 (by decide) f28 (fun _ h9 => h9) rfl dX4_pass_104 ?_
  refine lv_iconst (v := 5) hx hb dX4_pass_107 (by decide) ?_
  refine he_iald hx hb hK hP 4 rfl (5) (by decide) (by decide) (by first | decide | assumption) (sd 5) rfl dX4_pass_108 ?_
  refine lv_aload_n hx hb dX4_pass_109 rfl (lv_at hl 0 rfl) ?_
  refine va_get (v := .ref q0) (T := TX4) (N := 3) hx hb hts inX4 hown hK hP 1 rfl rfl 0 (by decide) f9 (fun _ h9 => h9) rfl dX4_pass_110 ?_
  refine lv_iconst (v := 3) hx hb dX4_pass_113 (by decide) ?_
  refine he_iald hx hb hK hP 2 rfl (3) (by decide) (by decide) (by first | decide | assumption) ((mendF sd st me (psA sd (taxF sd f)) w) 3) rfl dX4_pass_114 ?_
  refine lv_bipush (v := 10) hx hb dX4_pass_115 (by decide) ?_
  refine lv_idiv hx hb dX4_pass_117 (by decide) ?_
  refine lv_imul hx hb dX4_pass_118 ?_
  refine he_cv (wc := [(oX4 h0 q0 q1 mo), (aI g q0 24 (mendF sd st me (psA sd (taxF sd f)) w))]) (wr := [(aI g q1 6 (flF (fun _ => 0) sh 6)), (oX6 p0 p1 p2 p3 p4 (nI w)), (aI g p1 24 sd), (aI g p3 6 st), (aI g p4 6 me)]) (va_runV (As := [.int 0, .int 2, .int ((sd 5) * (((mendF sd st me (psA sd (taxF sd f)) w) 3) / 10))]) (rest := []) ⟨hx, hb, hml, hown, hts⟩ (c_X4_move l g h0 q0 q1 mo (mendF sd st me (psA sd (taxF sd f)) w) 0 2 ((sd 5) * (((mendF sd st me (psA sd (taxF sd f)) w) 3) / 10)) (by first | assumption | decide | omega) (by first | assumption | decide | omega) H.size) (cwV 3 hts gX4_pass_X4_move rfl rfl rfl (by decide +kernel) ⟨Nat.le_of_ble_eq_true rfl, Nat.le_of_ble_eq_true rfl⟩) (he_preV (wc := [(oX4 h0 q0 q1 mo), (aI g q0 24 (mendF sd st me (psA sd (taxF sd f)) w))]) hK hP hD hS hA hE [1, 2] rfl rfl 1 rfl rfl) rfl rfl hl.1 rfl (lv_room (Nat.le_of_ble_eq_true rfl)) dX4_pass_119 ⟨(Nat.le_of_ble_eq_true rfl), (Nat.le_of_ble_eq_true rfl)⟩) hP hD hS hA [1, 2] [0, 3, 4, 5, 6] rfl rfl rfl (by decide) (fun u_11 H locs h_12 hP hD hS => ?_)
  have hP : va_P g.1 vwCl [(aI g q1 6 (flF (fun _ => 0) sh 6)), (oX6 p0 p1 p2 p3 p4 (nI w)), (aI g p1 24 sd), (aI g p3 6 st), (aI g p4 6 me), (oX4 h0 q0 q1 mo), (aI g q0 24 (mvF (mendF sd st me (psA sd (taxF sd f)) w) 0 2 ((sd 5) * (((mendF sd st me (psA sd (taxF sd f)) w) 3) / 10))))] H := hP
  have hD : va_D A [(aI g q1 6 (flF (fun _ => 0) sh 6)), (oX6 p0 p1 p2 p3 p4 (nI w)), (aI g p1 24 sd), (aI g p3 6 st), (aI g p4 6 me), (oX4 h0 q0 q1 mo), (aI g q0 24 (mvF (mendF sd st me (psA sd (taxF sd f)) w) 0 2 ((sd 5) * (((mendF sd st me (psA sd (taxF sd f)) w) 3) / 10))))] := hD
  have hP : va_P g.1 vwCl [(aI g q1 6 (flF (fun _ => 0) sh 6)), (oX6 p0 p1 p2 p3 p4 (nI w)), (aI g p1 24 sd), (aI g p3 6 st), (aI g p4 6 me), (oX4 h0 q0 q1 mo), (aI g q0 24 (psB sd (mendF sd st me (psA sd (taxF sd f)) w)))] H := hP
  have hD : va_D A [(aI g q1 6 (flF (fun _ => 0) sh 6)), (oX6 p0 p1 p2 p3 p4 (nI w)), (aI g p1 24 sd), (aI g p3 6 st), (aI g p4 6 me), (oX4 h0 q0 q1 mo), (aI g q0 24 (psB sd (mendF sd st me (psA sd (taxF sd f)) w)))] := hD
  refine lv_aload_n hx hb dX4_pass_122 rfl (lv_at hl 0 rfl) ?_
  refine lv_iconst (v := 1) hx hb dX4_pass_123 (by decide) ?_
  refine lv_iconst (v := 2) hx hb dX4_pass_124 (by decide) ?_
  refine lv_aload_n hx hb dX4_pass_125 rfl (lv_at hl 1 rfl) ?_
  refine va_get (v := .ref p1) (T := TX6) (N := 5) hx hb hts inX6 hown hK hP 1 rfl rfl 0 (by decide) f28 (fun _ h9 => h9) rfl dX4_pass_126 ?_
  refine lv_bipush (v := 8) hx hb dX4_pass_129 (by decide) ?_
  refine he_iald hx hb hK hP 2 rfl (8) (by decide) (by decide) (by first | decide | assumption) (sd 8) rfl dX4_pass_131 ?_
  refine lv_aload_n hx hb dX4_pass_132 rfl (lv_at hl 0 rfl) ?_
  refine va_get (v := .ref q0) (T := TX4) (N := 3) hx hb hts inX4 hown hK hP 5 rfl rfl 0 (by decide) f9 (fun _ h9 => h9) rfl dX4_pass_133 ?_
  refine lv_iconst (v := 4) hx hb dX4_pass_136 (by decide) ?_
  refine he_iald hx hb hK hP 6 rfl (4) (by decide) (by decide) (by first | decide | assumption) ((psB sd (mendF sd st me (psA sd (taxF sd f)) w)) 4) rfl dX4_pass_137 ?_
  refine lv_bipush (v := 10) hx hb dX4_pass_138 (by decide) ?_
  refine lv_idiv hx hb dX4_pass_140 (by decide) ?_
  refine lv_imul hx hb dX4_pass_141 ?_
  refine he_cv (wc := [(oX4 h0 q0 q1 mo), (aI g q0 24 (psB sd (mendF sd st me (psA sd (taxF sd f)) w)))]) (wr := [(aI g q1 6 (flF (fun _ => 0) sh 6)), (oX6 p0 p1 p2 p3 p4 (nI w)), (aI g p1 24 sd), (aI g p3 6 st), (aI g p4 6 me)]) (va_runV (As := [.int 1, .int 2, .int ((sd 8) * (((psB sd (mendF sd st me (psA sd (taxF sd f)) w)) 4) / 10))]) (rest := []) ⟨hx, hb, hml, hown, hts⟩ (c_X4_move l g h0 q0 q1 mo (psB sd (mendF sd st me (psA sd (taxF sd f)) w)) 1 2 ((sd 8) * (((psB sd (mendF sd st me (psA sd (taxF sd f)) w)) 4) / 10)) (by first | assumption | decide | omega) (by first | assumption | decide | omega) H.size) (cwV 3 hts gX4_pass_X4_move rfl rfl rfl (by decide +kernel) ⟨Nat.le_of_ble_eq_true rfl, Nat.le_of_ble_eq_true rfl⟩) (he_preV (wc := [(oX4 h0 q0 q1 mo), (aI g q0 24 (psB sd (mendF sd st me (psA sd (taxF sd f)) w)))]) hK hP hD hS hA hE [5, 6] rfl rfl 5 rfl rfl) rfl rfl hl.1 rfl (lv_room (Nat.le_of_ble_eq_true rfl)) dX4_pass_142 ⟨(Nat.le_of_ble_eq_true rfl), (Nat.le_of_ble_eq_true rfl)⟩) hP hD hS hA [5, 6] [0, 1, 2, 3, 4] rfl rfl rfl (by decide) (fun u_14 H locs h_15 hP hD hS => ?_)
  have hP : va_P g.1 vwCl [(aI g q1 6 (flF (fun _ => 0) sh 6)), (oX6 p0 p1 p2 p3 p4 (nI w)), (aI g p1 24 sd), (aI g p3 6 st), (aI g p4 6 me), (oX4 h0 q0 q1 mo), (aI g q0 24 (mvF (psB sd (mendF sd st me (psA sd (taxF sd f)) w)) 1 2 ((sd 8) * (((psB sd (mendF sd st me (psA sd (taxF sd f)) w)) 4) / 10))))] H := hP
  have hD : va_D A [(aI g q1 6 (flF (fun _ => 0) sh 6)), (oX6 p0 p1 p2 p3 p4 (nI w)), (aI g p1 24 sd), (aI g p3 6 st), (aI g p4 6 me), (oX4 h0 q0 q1 mo), (aI g q0 24 (mvF (psB sd (mendF sd st me (psA sd (taxF sd f)) w)) 1 2 ((sd 8) * (((psB sd (mendF sd st me (psA sd (taxF sd f)) w)) 4) / 10))))] := hD
  have hP : va_P g.1 vwCl [(aI g q1 6 (flF (fun _ => 0) sh 6)), (oX6 p0 p1 p2 p3 p4 (nI w)), (aI g p1 24 sd), (aI g p3 6 st), (aI g p4 6 me), (oX4 h0 q0 q1 mo), (aI g q0 24 (psC sd (psB sd (mendF sd st me (psA sd (taxF sd f)) w))))] H := hP
  have hD : va_D A [(aI g q1 6 (flF (fun _ => 0) sh 6)), (oX6 p0 p1 p2 p3 p4 (nI w)), (aI g p1 24 sd), (aI g p3 6 st), (aI g p4 6 me), (oX4 h0 q0 q1 mo), (aI g q0 24 (psC sd (psB sd (mendF sd st me (psA sd (taxF sd f)) w))))] := hD
  refine lv_aload_n hx hb dX4_pass_145 rfl (lv_at hl 0 rfl) ?_
  refine lv_aload_n hx hb dX4_pass_146 rfl (lv_at hl 1 rfl) ?_
  refine va_get (v := .ref p1) (T := TX6) (N := 5) hx hb hts inX6 hown hK hP 1 rfl rfl 0 (by decide) f28 (fun _ h9 => h9) rfl dX4_pass_147 ?_
  refine lv_bipush (v := 8) hx hb dX4_pass_150 (by decide) ?_
  refine he_iald hx hb hK hP 2 rfl (8) (by decide) (by decide) (by first | decide | assumption) (sd 8) rfl dX4_pass_152 ?_
  refine lv_aload_n hx hb dX4_pass_153 rfl (lv_at hl 1 rfl) ?_
  refine va_get (v := .ref p1) (T := TX6) (N := 5) hx hb hts inX6 hown hK hP 1 rfl rfl 0 (by decide) f28 (fun _ h9 => h9) rfl dX4_pass_154 ?_
  refine lv_iconst (v := 5) hx hb dX4_pass_157 (by decide) ?_
  refine he_iald hx hb hK hP 2 rfl (5) (by decide) (by decide) (by first | decide | assumption) (sd 5) rfl dX4_pass_158 ?_
  refine lv_isub hx hb dX4_pass_159 ?_
  refine he_cv (wc := [(oX4 h0 q0 q1 mo), (aI g q0 24 (psC sd (psB sd (mendF sd st me (psA sd (taxF sd f)) w))))]) (wr := [(aI g q1 6 (flF (fun _ => 0) sh 6)), (oX6 p0 p1 p2 p3 p4 (nI w)), (aI g p1 24 sd), (aI g p3 6 st), (aI g p4 6 me)]) (va_runV (As := [.int ((sd 8) - (sd 5))]) (rest := []) ⟨hx, hb, hml, hown, hts⟩ (c_X4_desert l g h0 q0 q1 mo (psC sd (psB sd (mendF sd st me (psA sd (taxF sd f)) w))) ((sd 8) - (sd 5)) H.size) (cwV 1 hts gX4_pass_X4_desert rfl rfl rfl (by decide +kernel) ⟨Nat.le_of_ble_eq_true rfl, Nat.le_of_ble_eq_true rfl⟩) (he_preV (wc := [(oX4 h0 q0 q1 mo), (aI g q0 24 (psC sd (psB sd (mendF sd st me (psA sd (taxF sd f)) w))))]) hK hP hD hS hA hE [5, 6] rfl rfl 5 rfl rfl) rfl rfl hl.1 rfl (lv_room (Nat.le_of_ble_eq_true rfl)) dX4_pass_160 ⟨(Nat.le_of_ble_eq_true rfl), (Nat.le_of_ble_eq_true rfl)⟩) hP hD hS hA [5, 6] [0, 1, 2, 3, 4] rfl rfl rfl (by decide) (fun u_17 H locs h_18 hP hD hS => ?_)
  have hP : va_P g.1 vwCl [(aI g q1 6 (flF (fun _ => 0) sh 6)), (oX6 p0 p1 p2 p3 p4 (nI w)), (aI g p1 24 sd), (aI g p3 6 st), (aI g p4 6 me), (oX4 h0 q0 q1 mo), (aI g q0 24 (dsF (psC sd (psB sd (mendF sd st me (psA sd (taxF sd f)) w))) ((sd 8) - (sd 5))))] H := hP
  have hD : va_D A [(aI g q1 6 (flF (fun _ => 0) sh 6)), (oX6 p0 p1 p2 p3 p4 (nI w)), (aI g p1 24 sd), (aI g p3 6 st), (aI g p4 6 me), (oX4 h0 q0 q1 mo), (aI g q0 24 (dsF (psC sd (psB sd (mendF sd st me (psA sd (taxF sd f)) w))) ((sd 8) - (sd 5))))] := hD
  have hP : va_P g.1 vwCl [(aI g q1 6 (flF (fun _ => 0) sh 6)), (oX6 p0 p1 p2 p3 p4 (nI w)), (aI g p1 24 sd), (aI g p3 6 st), (aI g p4 6 me), (oX4 h0 q0 q1 mo), (aI g q0 24 (psT sd st me w (taxF sd f)))] H := hP
  have hD : va_D A [(aI g q1 6 (flF (fun _ => 0) sh 6)), (oX6 p0 p1 p2 p3 p4 (nI w)), (aI g p1 24 sd), (aI g p3 6 st), (aI g p4 6 me), (oX4 h0 q0 q1 mo), (aI g q0 24 (psT sd st me w (taxF sd f)))] := hD
  refine lv_aload_n hx hb dX4_pass_163 rfl (lv_at hl 0 rfl) ?_
  refine lv_dup hx hb dX4_pass_164 rfl ?_
  refine va_get (v := .int mo) (T := TX4) (N := 3) hx hb hts inX4 hown hK hP 5 rfl rfl 2 (by decide) f18 (fun _ h9 => h9) rfl dX4_pass_165 ?_
  refine lv_iconst (v := 1) hx hb dX4_pass_168 (by decide) ?_
  refine lv_iadd hx hb dX4_pass_169 ?_
  refine va_put (v := .int (mo + 1)) (ty := .int) (T := TX4) (N := 3) hx hb hts inX4 tyX4 tyX4_ok nmX4 hown hK hP hD hS 5 rfl rfl 2 (by decide) f18 (fun _ h9 => h9) rfl (by decide +kernel) rfl rfl (Nat.le_of_ble_eq_true rfl) dX4_pass_170 (fun H locs hP hD hS => ?_)
  have hP : va_P g.1 vwCl [(aI g q1 6 (flF (fun _ => 0) sh 6)), (oX6 p0 p1 p2 p3 p4 (nI w)), (aI g p1 24 sd), (aI g p3 6 st), (aI g p4 6 me), (oX4 h0 q0 q1 (mo + 1)), (aI g q0 24 (psT sd st me w (taxF sd f)))] H := hP
  have hD : va_D A [(aI g q1 6 (flF (fun _ => 0) sh 6)), (oX6 p0 p1 p2 p3 p4 (nI w)), (aI g p1 24 sd), (aI g p3 6 st), (aI g p4 6 me), (oX4 h0 q0 q1 (mo + 1)), (aI g q0 24 (psT sd st me w (taxF sd f)))] := hD
  refine lv_aload_nN hx hb dX4_pass_173 rfl (lv_at hl 2 rfl) ?_
  refine lv_ifnullN (tgt := 206) hx hb dX4_pass_174 (by decide) ?_
  have hP := hP.sub (ws' := [(oX4 h0 q0 q1 (mo + 1)), (aI g q0 24 (psT sd st me w (taxF sd f))), (aI g q1 6 (flF (fun _ => 0) sh 6)), (oX6 p0 p1 p2 p3 p4 (nI w)), (aI g p1 24 sd), (aI g p3 6 st), (aI g p4 6 me)]) [5, 6, 0, 1, 2, 3, 4] rfl
  have hD := hD.sub (ws' := [(oX4 h0 q0 q1 (mo + 1)), (aI g q0 24 (psT sd st me w (taxF sd f))), (aI g q1 6 (flF (fun _ => 0) sh 6)), (oX6 p0 p1 p2 p3 p4 (nI w)), (aI g p1 24 sd), (aI g p3 6 st), (aI g p4 6 me)]) [5, 6, 0, 1, 2, 3, 4] (by decide) rfl
  exact he_rv hQ hx hb hr hlk hP hD hS dX4_pass_206 (Nat.le_of_ble_eq_true rfl) (Nat.le_of_ble_eq_true rfl) (()) (rfl) (trivial)
