section
set_option maxHeartbeats 4000000 in
set_option maxRecDepth 100000 in
theorem g_X10_contractF (l : Launch) (g : he_G) (x0 : Nat) (y0 : Nat) (z0 : Nat) (dr : Nat) (pa : Nat) (s0 : Nat) (im : Nat) (tr : Nat) (v0 : Nat) (rf : Nat) (k : Nat) (nt : Nat) (ki : Int32) (p0 : Nat) (z1 : Nat) (y1 : Nat) (n1 : Int32) (at1 : Int32) (fa : Int32) (pl : Int32) (n : Nat) (hnk : n ≤ k) (hk5 : k ≤ 500) (hn2 : n ≤ 200) (hnt : nt = 6) : he_I l yX10_contract wsX10_contract 1 21 0 0 g [.ref x0, .int (nI n)] [(oX10 x0 y0 (nI k) z0 p0 dr pa (nI nt) s0 im ki tr v0 rf), (oX7 z0 y1 n1 at1 fa pl z1)] (fun (r : Int32) (u : Unit) => r = (-1)) (fun (u : Unit) => [(oX10 x0 y0 0 z0 p0 dr pa (nI nt) s0 im ki tr v0 rf), (oX7 z0 y1 n1 at1 fa (-1) z1)]) := by
  refine he_begin (l := l) (g := g) (y := yX10_contract) (wl := wsX10_contract) (fr := 1) (lo := 21) (mc := 0) (ms := 0) (av := [.ref x0, .int (nI n)]) (ws := [(oX10 x0 y0 (nI k) z0 p0 dr pa (nI nt) s0 im ki tr v0 rf), (oX7 z0 y1 n1 at1 fa pl z1)]) (cc := cX10_contract) (maxL := 4) (ret := (some .int)) (fun A => va_Qi (fun (r : Int32) (u : Unit) => r = (-1)) (fun u t => he_post g A ((fun (u : Unit) => [(oX10 x0 y0 0 z0 p0 dr pa (nI nt) s0 im ki tr v0 rf), (oX7 z0 y1 n1 at1 fa (-1) z1)]) u) t) A) (by decide) rfl (Nat.le_of_ble_eq_true rfl) ?_
  intro p e s m args below meth c A ls H locs Q hQ hB
  obtain ⟨hx, hb, hr, hml, hown, hts, hlk, hin, hP, hK, hD, hS, hA, hE, hl⟩ := hB
  have hl : lv_has ls 4 [(0, .ref x0), (1, .int (nI n))] := hl
  have f73 := hts (.fieldLink RX10 73 "HiredEnemy" "taped" "I") (iwoX10_contract (k := 0) rfl)
  have inX10 : ∀ w ∈ wsX100, w ∈ wsX10_contract := innX10_contract_X10
  have f92 := hts (.fieldLink RX10 92 "HiredEnemy" "pactsTold" "I") (iwoX10_contract (k := 1) rfl)
  have f16 := hts (.fieldLink RX10 16 "HiredEnemy" "reader" "LHiredEnemy$Reader;") (iwoX10_contract (k := 2) rfl)
  have f102 := hts (.fieldLink RX10 102 "HiredEnemy$Reader" "place" "I") (iwoX10_contract (k := 3) rfl)
  have inX7 : ∀ w ∈ wsX70, w ∈ wsX10_contract := innX10_contract_X7
  refine lv_aload_n hx hb dX10_contract_0 rfl (lv_at hl 0 rfl) ?_
  refine lv_iload_n hx hb dX10_contract_1 rfl (lv_at hl 1 rfl) ?_
  refine lv_if_lt (tgt := 24) hx hb dX10_contract_2 (by decide) (fun c_1 => ?_) (fun c_1 => ?_)
  · exact absurd c_1 (nI_pos (by omega))
  · refine lv_iload_n hx hb dX10_contract_5 rfl (lv_at hl 1 rfl) ?_
    refine lv_aload_n hx hb dX10_contract_6 rfl (lv_at hl 0 rfl) ?_
    refine va_get (v := .int (nI k)) (T := TX10) (N := 13) hx hb hts inX10 hown hK hP 0 rfl rfl 1 (by decide) f73 (fun _ h9 => h9) rfl dX10_contract_7 ?_
    refine lv_icmp_gt (tgt := 24) hx hb dX10_contract_10 (by decide) (fun c_2 => ?_) (fun c_2 => ?_)
    · exact absurd c_2 (fun h9 => absurd ((nI_ltI (by omega) (by omega)).mp h9) (by omega))
    · refine lv_iload_n hx hb dX10_contract_13 rfl (lv_at hl 1 rfl) ?_
      refine lv_sipush (v := 200) hx hb dX10_contract_14 (by decide) ?_
      refine lv_icmp_gt (tgt := 24) hx hb dX10_contract_17 (by decide) (fun c_3 => ?_) (fun c_3 => ?_)
      · exact absurd c_3 (fun h9 => absurd ((he_clt (a := 200) (b := n) (by decide) rfl (by decide) (by omega)).mp h9) (by omega))
      · refine lv_iconst (v := 1) hx hb dX10_contract_20 (by decide) ?_
        refine lv_goto (tgt := 25) hx hb dX10_contract_21 (by decide) ?_
        refine he_cv (wc := []) (wr := [(oX10 x0 y0 (nI k) z0 p0 dr pa (nI nt) s0 im ki tr v0 rf), (oX7 z0 y1 n1 at1 fa pl z1)]) (va_runV (As := [.int 1]) (rest := []) ⟨hx, hb, hml, hown, hts⟩ (c_X10_demand1 l g x0 H.size) (cwV 1 hts gX10_contract_X10_demand rfl rfl rfl (by decide +kernel) ⟨Nat.le_of_ble_eq_true rfl, Nat.le_of_ble_eq_true rfl⟩) (he_preV (wc := []) hK hP hD hS hA hE [] rfl rfl 0 rfl rfl) rfl rfl hl.1 rfl (lv_room (Nat.le_of_ble_eq_true rfl)) dX10_contract_25 ⟨(Nat.le_of_ble_eq_true rfl), (Nat.le_of_ble_eq_true rfl)⟩) hP hD hS hA [] [0, 1] rfl rfl rfl (by decide) (fun u_5 H locs h_6 hP hD hS => ?_)
        have hP : va_P g.1 vwCl [(oX10 x0 y0 (nI k) z0 p0 dr pa (nI nt) s0 im ki tr v0 rf), (oX7 z0 y1 n1 at1 fa pl z1)] H := hP
        have hD : va_D A [(oX10 x0 y0 (nI k) z0 p0 dr pa (nI nt) s0 im ki tr v0 rf), (oX7 z0 y1 n1 at1 fa pl z1)] := hD
        refine lv_aload_n hx hb dX10_contract_28 rfl (lv_at hl 0 rfl) ?_
        refine lv_iconst (v := 0) hx hb dX10_contract_29 (by decide) ?_
        refine va_put (v := .int 0) (ty := .int) (T := TX10) (N := 13) hx hb hts inX10 tyX10 tyX10_ok nmX10 hown hK hP hD hS 0 rfl rfl 1 (by decide) f73 (fun _ h9 => h9) rfl (by decide +kernel) rfl rfl (Nat.le_of_ble_eq_true rfl) dX10_contract_30 (fun H locs hP hD hS => ?_)
        have hP : va_P g.1 vwCl [(oX10 x0 y0 0 z0 p0 dr pa (nI nt) s0 im ki tr v0 rf), (oX7 z0 y1 n1 at1 fa pl z1)] H := hP
        have hD : va_D A [(oX10 x0 y0 0 z0 p0 dr pa (nI nt) s0 im ki tr v0 rf), (oX7 z0 y1 n1 at1 fa pl z1)] := hD
        refine lv_aload_n hx hb dX10_contract_33 rfl (lv_at hl 0 rfl) ?_
        refine va_get (v := .int (nI nt)) (T := TX10) (N := 13) hx hb hts inX10 hown hK hP 0 rfl rfl 6 (by decide) f92 (fun _ h9 => h9) rfl dX10_contract_34 ?_
        refine lv_bipush (v := 6) hx hb dX10_contract_37 (by decide) ?_
        refine lv_icmp_lt (tgt := 52) hx hb dX10_contract_39 (by decide) (fun c_7 => ?_) (fun c_7 => ?_)
        · exact absurd c_7 (by rw [hnt]; decide)
        · refine lv_aload_n hx hb dX10_contract_42 rfl (lv_at hl 0 rfl) ?_
          refine va_get (v := .ref z0) (T := TX10) (N := 13) hx hb hts inX10 hown hK hP 0 rfl rfl 2 (by decide) f16 (fun _ h9 => h9) rfl dX10_contract_43 ?_
          refine lv_iconst (v := (-1)) hx hb dX10_contract_46 (by decide) ?_
          refine va_put (v := .int (-1)) (ty := .int) (T := TX7) (N := 6) hx hb hts inX7 tyX7 tyX7_ok nmX7 hown hK hP hD hS 1 rfl rfl 4 (by decide) f102 (fun _ h9 => h9) rfl (by decide +kernel) rfl rfl (Nat.le_of_ble_eq_true rfl) dX10_contract_47 (fun H locs hP hD hS => ?_)
          have hP : va_P g.1 vwCl [(oX10 x0 y0 0 z0 p0 dr pa (nI nt) s0 im ki tr v0 rf), (oX7 z0 y1 n1 at1 fa (-1) z1)] H := hP
          have hD : va_D A [(oX10 x0 y0 0 z0 p0 dr pa (nI nt) s0 im ki tr v0 rf), (oX7 z0 y1 n1 at1 fa (-1) z1)] := hD
          refine lv_iconst (v := (-1)) hx hb dX10_contract_50 (by decide) ?_
          exact he_ri hQ hx hb hr hlk hP hD hS dX10_contract_51 (Nat.le_of_ble_eq_true rfl) (Nat.le_of_ble_eq_true rfl) (()) (rfl) (rfl)
set_option maxHeartbeats 4000000 in
set_option maxRecDepth 100000 in
theorem g_X10_best (l : Launch) (g : he_G) (x0 : Nat) (y0 : Nat) (z0 : Nat) (dr : Nat) (pa : Nat) (s0 : Nat) (im : Nat) (tr : Nat) (v0 : Nat) (rf : Nat) (nt : Nat) (ta : Int32) (ki : Int32) (p0 : Nat) (p1 : Nat) (p2 : Nat) (p3 : Nat) (p4 : Nat) (w : Nat) (sd : Nat → Int32) (fn : Nat → Int32) (st : Nat → Int32) (me : Nat → Int32) (a0 : Nat) (b0 : Nat) (e0 : Nat) (h0 : Nat) (q0 : Nat) (q1 : Nat) (mo : Int32) (f : Nat → Int32) (r0 : Nat) (r1 : Nat) (mo1 : Int32) (f1 : Nat → Int32) (sh : Nat → Int32) (n : Nat) (pf : Nat → Option Nat) (t0_0 : Nat) (t1_0 : Nat) (t2_0 : Nat) (pw_0 : Int32) (pd_0 : Nat → Int32) (wb_0 : Nat → Int32) (ck_0 : Nat) (t0_1 : Nat) (t1_1 : Nat) (t2_1 : Nat) (pw_1 : Int32) (pd_1 : Nat → Int32) (wb_1 : Nat → Int32) (ck_1 : Nat) (t0_2 : Nat) (t1_2 : Nat) (t2_2 : Nat) (pw_2 : Int32) (pd_2 : Nat → Int32) (wb_2 : Nat → Int32) (ck_2 : Nat) (t0_3 : Nat) (t1_3 : Nat) (t2_3 : Nat) (pw_3 : Int32) (pd_3 : Nat → Int32) (wb_3 : Nat → Int32) (ck_3 : Nat) (t0_4 : Nat) (t1_4 : Nat) (t2_4 : Nat) (pw_4 : Int32) (pd_4 : Nat → Int32) (wb_4 : Nat → Int32) (ck_4 : Nat) (t0_5 : Nat) (t1_5 : Nat) (t2_5 : Nat) (pw_5 : Int32) (pd_5 : Nat → Int32) (wb_5 : Nat → Int32) (ck_5 : Nat) (wh : Int32) (hw6 : w ≤ 6) (hn1 : 1 ≤ n) (hn2 : n ≤ 60) (hnt : nt ≤ 6) (hok0 : ¬ he_within wh 0 1 = 0) (hwb0 : ∀ k, k < 36 → -1 ≤ wb_0 k) (hck0 : pd_0 3 = nI ck_0) (hc90 : ck_0 ≤ 99) (hpf0 : pf 0 = some t0_0) (hwb1 : ∀ k, k < 36 → -1 ≤ wb_1 k) (hck1 : pd_1 3 = nI ck_1) (hc91 : ck_1 ≤ 99) (hpf1 : pf 1 = some t0_1) (hwb2 : ∀ k, k < 36 → -1 ≤ wb_2 k) (hck2 : pd_2 3 = nI ck_2) (hc92 : ck_2 ≤ 99) (hpf2 : pf 2 = some t0_2) (hwb3 : ∀ k, k < 36 → -1 ≤ wb_3 k) (hck3 : pd_3 3 = nI ck_3) (hc93 : ck_3 ≤ 99) (hpf3 : pf 3 = some t0_3) (hwb4 : ∀ k, k < 36 → -1 ≤ wb_4 k) (hck4 : pd_4 3 = nI ck_4) (hc94 : ck_4 ≤ 99) (hpf4 : pf 4 = some t0_4) (hwb5 : ∀ k, k < 36 → -1 ≤ wb_5 k) (hck5 : pd_5 3 = nI ck_5) (hc95 : ck_5 ≤ 99) (hpf5 : pf 5 = some t0_5) : he_I l yX10_best wsX10_best 7 154 0 0 g [.ref x0, .int (nI n), .int wh] [(oX10 x0 y0 ta z0 p0 dr pa (nI nt) s0 im ki tr v0 rf), (oX4 tr r0 r1 mo1), (aI g r0 24 f1), (aI g r1 6 sh), (oX6 p0 p1 p2 p3 p4 (nI w)), (aI g p1 24 sd), (aI g p2 10 fn), (aI g p3 6 st), (aI g p4 6 me), (aP g pa 7 pf), (oX5 t0_0 t1_0 t2_0 pw_0), (aI g t1_0 6 pd_0), (aI g t2_0 36 wb_0), (oX5 t0_1 t1_1 t2_1 pw_1), (aI g t1_1 6 pd_1), (aI g t2_1 36 wb_1), (oX5 t0_2 t1_2 t2_2 pw_2), (aI g t1_2 6 pd_2), (aI g t2_2 36 wb_2), (oX5 t0_3 t1_3 t2_3 pw_3), (aI g t1_3 6 pd_3), (aI g t2_3 36 wb_3), (oX5 t0_4 t1_4 t2_4 pw_4), (aI g t1_4 6 pd_4), (aI g t2_4 36 wb_4), (oX5 t0_5 t1_5 t2_5 pw_5), (aI g t1_5 6 pd_5), (aI g t2_5 36 wb_5), (oX8 s0 h0 a0 b0 e0), (oX4 h0 q0 q1 mo), (aI g q0 24 f)] (fun (r : Int32) (u : Int32 × (Nat → Int32) × (Nat → Int32)) => True) (fun (u : Int32 × (Nat → Int32) × (Nat → Int32)) => [(oX10 x0 y0 ta z0 p0 dr pa (nI nt) s0 im ki tr v0 rf), (oX4 tr r0 r1 u.1), (aI g r0 24 u.2.1), (aI g r1 6 u.2.2), (oX6 p0 p1 p2 p3 p4 (nI w)), (aI g p1 24 sd), (aI g p2 10 fn), (aI g p3 6 st), (aI g p4 6 me), (aP g pa 7 pf), (oX5 t0_0 t1_0 t2_0 pw_0), (aI g t1_0 6 pd_0), (aI g t2_0 36 wb_0), (oX5 t0_1 t1_1 t2_1 pw_1), (aI g t1_1 6 pd_1), (aI g t2_1 36 wb_1), (oX5 t0_2 t1_2 t2_2 pw_2), (aI g t1_2 6 pd_2), (aI g t2_2 36 wb_2), (oX5 t0_3 t1_3 t2_3 pw_3), (aI g t1_3 6 pd_3), (aI g t2_3 36 wb_3), (oX5 t0_4 t1_4 t2_4 pw_4), (aI g t1_4 6 pd_4), (aI g t2_4 36 wb_4), (oX5 t0_5 t1_5 t2_5 pw_5), (aI g t1_5 6 pd_5), (aI g t2_5 36 wb_5), (oX8 s0 h0 a0 b0 e0), (oX4 h0 q0 q1 mo), (aI g q0 24 f)]) := by
  refine he_begin (l := l) (g := g) (y := yX10_best) (wl := wsX10_best) (fr := 7) (lo := 154) (mc := 0) (ms := 0) (av := [.ref x0, .int (nI n), .int wh]) (ws := [(oX10 x0 y0 ta z0 p0 dr pa (nI nt) s0 im ki tr v0 rf), (oX4 tr r0 r1 mo1), (aI g r0 24 f1), (aI g r1 6 sh), (oX6 p0 p1 p2 p3 p4 (nI w)), (aI g p1 24 sd), (aI g p2 10 fn), (aI g p3 6 st), (aI g p4 6 me), (aP g pa 7 pf), (oX5 t0_0 t1_0 t2_0 pw_0), (aI g t1_0 6 pd_0), (aI g t2_0 36 wb_0), (oX5 t0_1 t1_1 t2_1 pw_1), (aI g t1_1 6 pd_1), (aI g t2_1 36 wb_1), (oX5 t0_2 t1_2 t2_2 pw_2), (aI g t1_2 6 pd_2), (aI g t2_2 36 wb_2), (oX5 t0_3 t1_3 t2_3 pw_3), (aI g t1_3 6 pd_3), (aI g t2_3 36 wb_3), (oX5 t0_4 t1_4 t2_4 pw_4), (aI g t1_4 6 pd_4), (aI g t2_4 36 wb_4), (oX5 t0_5 t1_5 t2_5 pw_5), (aI g t1_5 6 pd_5), (aI g t2_5 36 wb_5), (oX8 s0 h0 a0 b0 e0), (oX4 h0 q0 q1 mo), (aI g q0 24 f)]) (cc := cX10_best) (maxL := 7) (ret := (some .int)) (fun A => va_Qi (fun (r : Int32) (u : Int32 × (Nat → Int32) × (Nat → Int32)) => True) (fun u t => he_post g A ((fun (u : Int32 × (Nat → Int32) × (Nat → Int32)) => [(oX10 x0 y0 ta z0 p0 dr pa (nI nt) s0 im ki tr v0 rf), (oX4 tr r0 r1 u.1), (aI g r0 24 u.2.1), (aI g r1 6 u.2.2), (oX6 p0 p1 p2 p3 p4 (nI w)), (aI g p1 24 sd), (aI g p2 10 fn), (aI g p3 6 st), (aI g p4 6 me), (aP g pa 7 pf), (oX5 t0_0 t1_0 t2_0 pw_0), (aI g t1_0 6 pd_0), (aI g t2_0 36 wb_0), (oX5 t0_1 t1_1 t2_1 pw_1), (aI g t1_1 6 pd_1), (aI g t2_1 36 wb_1), (oX5 t0_2 t1_2 t2_2 pw_2), (aI g t1_2 6 pd_2), (aI g t2_2 36 wb_2), (oX5 t0_3 t1_3 t2_3 pw_3), (aI g t1_3 6 pd_3), (aI g t2_3 36 wb_3), (oX5 t0_4 t1_4 t2_4 pw_4), (aI g t1_4 6 pd_4), (aI g t2_4 36 wb_4), (oX5 t0_5 t1_5 t2_5 pw_5), (aI g t1_5 6 pd_5), (aI g t2_5 36 wb_5), (oX8 s0 h0 a0 b0 e0), (oX4 h0 q0 q1 mo), (aI g q0 24 f)]) u) t) A) (by decide) rfl (Nat.le_of_ble_eq_true rfl) ?_
  intro p e s m args below meth c A ls H locs Q hQ hB
  obtain ⟨hx, hb, hr, hml, hown, hts, hlk, hin, hP, hK, hD, hS, hA, hE, hl⟩ := hB
  have hl : lv_has ls 7 [(0, .ref x0), (1, .int (nI n)), (2, .int wh)] := hl
  have f92 := hts (.fieldLink RX10 92 "HiredEnemy" "pactsTold" "I") (iwoX10_best (k := 0) rfl)
  have inX10 : ∀ w ∈ wsX100, w ∈ wsX10_best := innX10_best_X10
  refine lv_aload_n hx hb dX10_best_0 rfl (lv_at hl 0 rfl) ?_
  refine lv_iload_n hx hb dX10_best_1 rfl (lv_at hl 1 rfl) ?_
  refine lv_iconst (v := 1) hx hb dX10_best_2 (by decide) ?_
  refine lv_bipush (v := 60) hx hb dX10_best_3 (by decide) ?_
  refine he_ci (wc := []) (wr := [(oX10 x0 y0 ta z0 p0 dr pa (nI nt) s0 im ki tr v0 rf), (oX4 tr r0 r1 mo1), (aI g r0 24 f1), (aI g r1 6 sh), (oX6 p0 p1 p2 p3 p4 (nI w)), (aI g p1 24 sd), (aI g p2 10 fn), (aI g p3 6 st), (aI g p4 6 me), (aP g pa 7 pf), (oX5 t0_0 t1_0 t2_0 pw_0), (aI g t1_0 6 pd_0), (aI g t2_0 36 wb_0), (oX5 t0_1 t1_1 t2_1 pw_1), (aI g t1_1 6 pd_1), (aI g t2_1 36 wb_1), (oX5 t0_2 t1_2 t2_2 pw_2), (aI g t1_2 6 pd_2), (aI g t2_2 36 wb_2), (oX5 t0_3 t1_3 t2_3 pw_3), (aI g t1_3 6 pd_3), (aI g t2_3 36 wb_3), (oX5 t0_4 t1_4 t2_4 pw_4), (aI g t1_4 6 pd_4), (aI g t2_4 36 wb_4), (oX5 t0_5 t1_5 t2_5 pw_5), (aI g t1_5 6 pd_5), (aI g t2_5 36 wb_5), (oX8 s0 h0 a0 b0 e0), (oX4 h0 q0 q1 mo), (aI g q0 24 f)]) (va_runS (As := [.int (nI n), .int 1, .int 60]) (rest := [.ref x0]) ⟨hx, hb, hml, hown, hts⟩ (c_X10_within l g (nI n) 1 60 H.size) (va_cwS 3 hts gX10_best_X10_within rfl rfl rfl (by decide +kernel) ⟨Nat.le_of_ble_eq_true rfl, Nat.le_of_ble_eq_true rfl⟩) (he_preS (wc := []) hK hP hD hS hA hE [] rfl rfl) rfl rfl hl.1 rfl (lv_room (Nat.le_of_ble_eq_true rfl)) dX10_best_5 ⟨(Nat.le_of_ble_eq_true rfl), (Nat.le_of_ble_eq_true rfl)⟩) hP hD hS hA [] [0, 1, 2, 3, 4, 5, 6, 7, 8, 9, 10, 11, 12, 13, 14, 15, 16, 17, 18, 19, 20, 21, 22, 23, 24, 25, 26, 27, 28, 29, 30] rfl rfl rfl (by decide) (fun r_1 u_2 H locs h_3 hP hD hS => ?_)
  subst h_3
  have hP : va_P g.1 vwCl [(oX10 x0 y0 ta z0 p0 dr pa (nI nt) s0 im ki tr v0 rf), (oX4 tr r0 r1 mo1), (aI g r0 24 f1), (aI g r1 6 sh), (oX6 p0 p1 p2 p3 p4 (nI w)), (aI g p1 24 sd), (aI g p2 10 fn), (aI g p3 6 st), (aI g p4 6 me), (aP g pa 7 pf), (oX5 t0_0 t1_0 t2_0 pw_0), (aI g t1_0 6 pd_0), (aI g t2_0 36 wb_0), (oX5 t0_1 t1_1 t2_1 pw_1), (aI g t1_1 6 pd_1), (aI g t2_1 36 wb_1), (oX5 t0_2 t1_2 t2_2 pw_2), (aI g t1_2 6 pd_2), (aI g t2_2 36 wb_2), (oX5 t0_3 t1_3 t2_3 pw_3), (aI g t1_3 6 pd_3), (aI g t2_3 36 wb_3), (oX5 t0_4 t1_4 t2_4 pw_4), (aI g t1_4 6 pd_4), (aI g t2_4 36 wb_4), (oX5 t0_5 t1_5 t2_5 pw_5), (aI g t1_5 6 pd_5), (aI g t2_5 36 wb_5), (oX8 s0 h0 a0 b0 e0), (oX4 h0 q0 q1 mo), (aI g q0 24 f)] H := hP
  have hD : va_D A [(oX10 x0 y0 ta z0 p0 dr pa (nI nt) s0 im ki tr v0 rf), (oX4 tr r0 r1 mo1), (aI g r0 24 f1), (aI g r1 6 sh), (oX6 p0 p1 p2 p3 p4 (nI w)), (aI g p1 24 sd), (aI g p2 10 fn), (aI g p3 6 st), (aI g p4 6 me), (aP g pa 7 pf), (oX5 t0_0 t1_0 t2_0 pw_0), (aI g t1_0 6 pd_0), (aI g t2_0 36 wb_0), (oX5 t0_1 t1_1 t2_1 pw_1), (aI g t1_1 6 pd_1), (aI g t2_1 36 wb_1), (oX5 t0_2 t1_2 t2_2 pw_2), (aI g t1_2 6 pd_2), (aI g t2_2 36 wb_2), (oX5 t0_3 t1_3 t2_3 pw_3), (aI g t1_3 6 pd_3), (aI g t2_3 36 wb_3), (oX5 t0_4 t1_4 t2_4 pw_4), (aI g t1_4 6 pd_4), (aI g t2_4 36 wb_4), (oX5 t0_5 t1_5 t2_5 pw_5), (aI g t1_5 6 pd_5), (aI g t2_5 36 wb_5), (oX8 s0 h0 a0 b0 e0), (oX4 h0 q0 q1 mo), (aI g q0 24 f)] := hD
  refine he_top (1) (he_within_in (a0 := 1) (B := 60) rfl rfl (by omega) (by omega) (by decide)) ?_
  refine lv_if_eq (tgt := 24) hx hb dX10_best_8 (by decide) (fun c_4 => ?_) (fun c_4 => ?_)
  · exact absurd c_4 (by decide)
  · refine lv_iload_n hx hb dX10_best_11 rfl (lv_at hl 2 rfl) ?_
    refine lv_iconst (v := 0) hx hb dX10_best_12 (by decide) ?_
    refine lv_iconst (v := 1) hx hb dX10_best_13 (by decide) ?_
    refine he_ci (wc := []) (wr := [(oX10 x0 y0 ta z0 p0 dr pa (nI nt) s0 im ki tr v0 rf), (oX4 tr r0 r1 mo1), (aI g r0 24 f1), (aI g r1 6 sh), (oX6 p0 p1 p2 p3 p4 (nI w)), (aI g p1 24 sd), (aI g p2 10 fn), (aI g p3 6 st), (aI g p4 6 me), (aP g pa 7 pf), (oX5 t0_0 t1_0 t2_0 pw_0), (aI g t1_0 6 pd_0), (aI g t2_0 36 wb_0), (oX5 t0_1 t1_1 t2_1 pw_1), (aI g t1_1 6 pd_1), (aI g t2_1 36 wb_1), (oX5 t0_2 t1_2 t2_2 pw_2), (aI g t1_2 6 pd_2), (aI g t2_2 36 wb_2), (oX5 t0_3 t1_3 t2_3 pw_3), (aI g t1_3 6 pd_3), (aI g t2_3 36 wb_3), (oX5 t0_4 t1_4 t2_4 pw_4), (aI g t1_4 6 pd_4), (aI g t2_4 36 wb_4), (oX5 t0_5 t1_5 t2_5 pw_5), (aI g t1_5 6 pd_5), (aI g t2_5 36 wb_5), (oX8 s0 h0 a0 b0 e0), (oX4 h0 q0 q1 mo), (aI g q0 24 f)]) (va_runS (As := [.int wh, .int 0, .int 1]) (rest := [.ref x0]) ⟨hx, hb, hml, hown, hts⟩ (c_X10_within l g wh 0 1 H.size) (va_cwS 3 hts gX10_best_X10_within rfl rfl rfl (by decide +kernel) ⟨Nat.le_of_ble_eq_true rfl, Nat.le_of_ble_eq_true rfl⟩) (he_preS (wc := []) hK hP hD hS hA hE [] rfl rfl) rfl rfl hl.1 rfl (lv_room (Nat.le_of_ble_eq_true rfl)) dX10_best_14 ⟨(Nat.le_of_ble_eq_true rfl), (Nat.le_of_ble_eq_true rfl)⟩) hP hD hS hA [] [0, 1, 2, 3, 4, 5, 6, 7, 8, 9, 10, 11, 12, 13, 14, 15, 16, 17, 18, 19, 20, 21, 22, 23, 24, 25, 26, 27, 28, 29, 30] rfl rfl rfl (by decide) (fun r_5 u_6 H locs h_7 hP hD hS => ?_)
    subst h_7
    have hP : va_P g.1 vwCl [(oX10 x0 y0 ta z0 p0 dr pa (nI nt) s0 im ki tr v0 rf), (oX4 tr r0 r1 mo1), (aI g r0 24 f1), (aI g r1 6 sh), (oX6 p0 p1 p2 p3 p4 (nI w)), (aI g p1 24 sd), (aI g p2 10 fn), (aI g p3 6 st), (aI g p4 6 me), (aP g pa 7 pf), (oX5 t0_0 t1_0 t2_0 pw_0), (aI g t1_0 6 pd_0), (aI g t2_0 36 wb_0), (oX5 t0_1 t1_1 t2_1 pw_1), (aI g t1_1 6 pd_1), (aI g t2_1 36 wb_1), (oX5 t0_2 t1_2 t2_2 pw_2), (aI g t1_2 6 pd_2), (aI g t2_2 36 wb_2), (oX5 t0_3 t1_3 t2_3 pw_3), (aI g t1_3 6 pd_3), (aI g t2_3 36 wb_3), (oX5 t0_4 t1_4 t2_4 pw_4), (aI g t1_4 6 pd_4), (aI g t2_4 36 wb_4), (oX5 t0_5 t1_5 t2_5 pw_5), (aI g t1_5 6 pd_5), (aI g t2_5 36 wb_5), (oX8 s0 h0 a0 b0 e0), (oX4 h0 q0 q1 mo), (aI g q0 24 f)] H := hP
    have hD : va_D A [(oX10 x0 y0 ta z0 p0 dr pa (nI nt) s0 im ki tr v0 rf), (oX4 tr r0 r1 mo1), (aI g r0 24 f1), (aI g r1 6 sh), (oX6 p0 p1 p2 p3 p4 (nI w)), (aI g p1 24 sd), (aI g p2 10 fn), (aI g p3 6 st), (aI g p4 6 me), (aP g pa 7 pf), (oX5 t0_0 t1_0 t2_0 pw_0), (aI g t1_0 6 pd_0), (aI g t2_0 36 wb_0), (oX5 t0_1 t1_1 t2_1 pw_1), (aI g t1_1 6 pd_1), (aI g t2_1 36 wb_1), (oX5 t0_2 t1_2 t2_2 pw_2), (aI g t1_2 6 pd_2), (aI g t2_2 36 wb_2), (oX5 t0_3 t1_3 t2_3 pw_3), (aI g t1_3 6 pd_3), (aI g t2_3 36 wb_3), (oX5 t0_4 t1_4 t2_4 pw_4), (aI g t1_4 6 pd_4), (aI g t2_4 36 wb_4), (oX5 t0_5 t1_5 t2_5 pw_5), (aI g t1_5 6 pd_5), (aI g t2_5 36 wb_5), (oX8 s0 h0 a0 b0 e0), (oX4 h0 q0 q1 mo), (aI g q0 24 f)] := hD
    refine he_top (1) (he_within_1 hok0) ?_
    refine lv_if_eq (tgt := 24) hx hb dX10_best_17 (by decide) (fun c_8 => ?_) (fun c_8 => ?_)
    · exact absurd c_8 (by decide)
    · refine lv_iconst (v := 1) hx hb dX10_best_20 (by decide) ?_
      refine lv_goto (tgt := 25) hx hb dX10_best_21 (by decide) ?_
      refine he_cv (wc := []) (wr := [(oX10 x0 y0 ta z0 p0 dr pa (nI nt) s0 im ki tr v0 rf), (oX4 tr r0 r1 mo1), (aI g r0 24 f1), (aI g r1 6 sh), (oX6 p0 p1 p2 p3 p4 (nI w)), (aI g p1 24 sd), (aI g p2 10 fn), (aI g p3 6 st), (aI g p4 6 me), (aP g pa 7 pf), (oX5 t0_0 t1_0 t2_0 pw_0), (aI g t1_0 6 pd_0), (aI g t2_0 36 wb_0), (oX5 t0_1 t1_1 t2_1 pw_1), (aI g t1_1 6 pd_1), (aI g t2_1 36 wb_1), (oX5 t0_2 t1_2 t2_2 pw_2), (aI g t1_2 6 pd_2), (aI g t2_2 36 wb_2), (oX5 t0_3 t1_3 t2_3 pw_3), (aI g t1_3 6 pd_3), (aI g t2_3 36 wb_3), (oX5 t0_4 t1_4 t2_4 pw_4), (aI g t1_4 6 pd_4), (aI g t2_4 36 wb_4), (oX5 t0_5 t1_5 t2_5 pw_5), (aI g t1_5 6 pd_5), (aI g t2_5 36 wb_5), (oX8 s0 h0 a0 b0 e0), (oX4 h0 q0 q1 mo), (aI g q0 24 f)]) (va_runV (As := [.int 1]) (rest := []) ⟨hx, hb, hml, hown, hts⟩ (c_X10_demand1 l g x0 H.size) (cwV 1 hts gX10_best_X10_demand rfl rfl rfl (by decide +kernel) ⟨Nat.le_of_ble_eq_true rfl, Nat.le_of_ble_eq_true rfl⟩) (he_preV (wc := []) hK hP hD hS hA hE [] rfl rfl 0 rfl rfl) rfl rfl hl.1 rfl (lv_room (Nat.le_of_ble_eq_true rfl)) dX10_best_25 ⟨(Nat.le_of_ble_eq_true rfl), (Nat.le_of_ble_eq_true rfl)⟩) hP hD hS hA [] [0, 1, 2, 3, 4, 5, 6, 7, 8, 9, 10, 11, 12, 13, 14, 15, 16, 17, 18, 19, 20, 21, 22, 23, 24, 25, 26, 27, 28, 29, 30] rfl rfl rfl (by decide) (fun u_10 H locs h_11 hP hD hS => ?_)
      have hP : va_P g.1 vwCl [(oX10 x0 y0 ta z0 p0 dr pa (nI nt) s0 im ki tr v0 rf), (oX4 tr r0 r1 mo1), (aI g r0 24 f1), (aI g r1 6 sh), (oX6 p0 p1 p2 p3 p4 (nI w)), (aI g p1 24 sd), (aI g p2 10 fn), (aI g p3 6 st), (aI g p4 6 me), (aP g pa 7 pf), (oX5 t0_0 t1_0 t2_0 pw_0), (aI g t1_0 6 pd_0), (aI g t2_0 36 wb_0), (oX5 t0_1 t1_1 t2_1 pw_1), (aI g t1_1 6 pd_1), (aI g t2_1 36 wb_1), (oX5 t0_2 t1_2 t2_2 pw_2), (aI g t1_2 6 pd_2), (aI g t2_2 36 wb_2), (oX5 t0_3 t1_3 t2_3 pw_3), (aI g t1_3 6 pd_3), (aI g t2_3 36 wb_3), (oX5 t0_4 t1_4 t2_4 pw_4), (aI g t1_4 6 pd_4), (aI g t2_4 36 wb_4), (oX5 t0_5 t1_5 t2_5 pw_5), (aI g t1_5 6 pd_5), (aI g t2_5 36 wb_5), (oX8 s0 h0 a0 b0 e0), (oX4 h0 q0 q1 mo), (aI g q0 24 f)] H := hP
      have hD : va_D A [(oX10 x0 y0 ta z0 p0 dr pa (nI nt) s0 im ki tr v0 rf), (oX4 tr r0 r1 mo1), (aI g r0 24 f1), (aI g r1 6 sh), (oX6 p0 p1 p2 p3 p4 (nI w)), (aI g p1 24 sd), (aI g p2 10 fn), (aI g p3 6 st), (aI g p4 6 me), (aP g pa 7 pf), (oX5 t0_0 t1_0 t2_0 pw_0), (aI g t1_0 6 pd_0), (aI g t2_0 36 wb_0), (oX5 t0_1 t1_1 t2_1 pw_1), (aI g t1_1 6 pd_1), (aI g t2_1 36 wb_1), (oX5 t0_2 t1_2 t2_2 pw_2), (aI g t1_2 6 pd_2), (aI g t2_2 36 wb_2), (oX5 t0_3 t1_3 t2_3 pw_3), (aI g t1_3 6 pd_3), (aI g t2_3 36 wb_3), (oX5 t0_4 t1_4 t2_4 pw_4), (aI g t1_4 6 pd_4), (aI g t2_4 36 wb_4), (oX5 t0_5 t1_5 t2_5 pw_5), (aI g t1_5 6 pd_5), (aI g t2_5 36 wb_5), (oX8 s0 h0 a0 b0 e0), (oX4 h0 q0 q1 mo), (aI g q0 24 f)] := hD
      refine lv_iconst (v := (-1)) hx hb dX10_best_28 (by decide) ?_
      refine lv_istore_n (lv' := [(3, .int (-1)), (0, .ref x0), (1, .int (nI n)), (2, .int wh)]) hx hb dX10_best_29 rfl hl (by decide) rfl (fun ls hl => ?_)
      refine lv_iconst (v := (-1)) hx hb dX10_best_30 (by decide) ?_
      refine lv_istore (lv' := [(4, .int (-1)), (3, .int (-1)), (0, .ref x0), (1, .int (nI n)), (2, .int wh)]) hx hb dX10_best_31 hl (by decide) rfl (fun ls hl => ?_)
      refine lv_iconst (v := 0) hx hb dX10_best_33 (by decide) ?_
      refine lv_istore (lv' := [(5, .int 0), (4, .int (-1)), (3, .int (-1)), (0, .ref x0), (1, .int (nI n)), (2, .int wh)]) hx hb dX10_best_34 hl (by decide) rfl (fun ls hl => ?_)
      have loop36 : ∀ (n9 : Nat) (j : Nat) (bp : Int32) (ms : Int32) (mj : Int32) (F : Nat → Int32) (G : Nat → Int32), nt - j < n9 → (j ≤ nt) → ∀ (H : Heap) (locs : List Loc) (ls : Array Slot), va_P g.1 vwCl [(oX10 x0 y0 ta z0 p0 dr pa (nI nt) s0 im ki tr v0 rf), (oX4 tr r0 r1 mj), (aI g r0 24 F), (aI g r1 6 G), (oX6 p0 p1 p2 p3 p4 (nI w)), (aI g p1 24 sd), (aI g p2 10 fn), (aI g p3 6 st), (aI g p4 6 me), (aP g pa 7 pf), (oX5 t0_0 t1_0 t2_0 pw_0), (aI g t1_0 6 pd_0), (aI g t2_0 36 wb_0), (oX5 t0_1 t1_1 t2_1 pw_1), (aI g t1_1 6 pd_1), (aI g t2_1 36 wb_1), (oX5 t0_2 t1_2 t2_2 pw_2), (aI g t1_2 6 pd_2), (aI g t2_2 36 wb_2), (oX5 t0_3 t1_3 t2_3 pw_3), (aI g t1_3 6 pd_3), (aI g t2_3 36 wb_3), (oX5 t0_4 t1_4 t2_4 pw_4), (aI g t1_4 6 pd_4), (aI g t2_4 36 wb_4), (oX5 t0_5 t1_5 t2_5 pw_5), (aI g t1_5 6 pd_5), (aI g t2_5 36 wb_5), (oX8 s0 h0 a0 b0 e0), (oX4 h0 q0 q1 mo), (aI g q0 24 f)] H → va_D A [(oX10 x0 y0 ta z0 p0 dr pa (nI nt) s0 im ki tr v0 rf), (oX4 tr r0 r1 mj), (aI g r0 24 F), (aI g r1 6 G), (oX6 p0 p1 p2 p3 p4 (nI w)), (aI g p1 24 sd), (aI g p2 10 fn), (aI g p3 6 st), (aI g p4 6 me), (aP g pa 7 pf), (oX5 t0_0 t1_0 t2_0 pw_0), (aI g t1_0 6 pd_0), (aI g t2_0 36 wb_0), (oX5 t0_1 t1_1 t2_1 pw_1), (aI g t1_1 6 pd_1), (aI g t2_1 36 wb_1), (oX5 t0_2 t1_2 t2_2 pw_2), (aI g t1_2 6 pd_2), (aI g t2_2 36 wb_2), (oX5 t0_3 t1_3 t2_3 pw_3), (aI g t1_3 6 pd_3), (aI g t2_3 36 wb_3), (oX5 t0_4 t1_4 t2_4 pw_4), (aI g t1_4 6 pd_4), (aI g t2_4 36 wb_4), (oX5 t0_5 t1_5 t2_5 pw_5), (aI g t1_5 6 pd_5), (aI g t2_5 36 wb_5), (oX8 s0 h0 a0 b0 e0), (oX4 h0 q0 q1 mo), (aI g q0 24 f)] → va_S A s.heap H locs → lv_has ls 7 [(0, .ref x0), (1, .int (nI n)), (2, .int wh), (3, .int bp), (4, .int ms), (5, .int (nI j))] → W p l e (he_room 7 154 0 0) s m args below meth c H locs 0 0 Q (F0 m 36 ls []) := by
        intro n9
        induction n9 with
        | zero => intro j bp ms mj F G hm9; exact absurd hm9 (Nat.not_lt_zero _)
        | succ n9 ih36 =>
          intro j bp ms mj F G hm9 hj H locs ls hP hD hS hl
          refine lv_iload hx hb dX10_best_36 (lv_at hl 5 rfl) ?_
          refine lv_aload_n hx hb dX10_best_38 rfl (lv_at hl 0 rfl) ?_
          refine va_get (v := .int (nI nt)) (T := TX10) (N := 13) hx hb hts inX10 hown hK hP 0 rfl rfl 6 (by decide) f92 (fun _ h9 => h9) rfl dX10_best_39 ?_
          refine lv_icmp_ge (tgt := 74) hx hb dX10_best_42 (by decide) (fun c_12 => ?_) (fun c_12 => ?_)
          · have k_13 : nt ≤ j := (he_cle (a := nt) (b := j) rfl rfl (by omega) (by omega)).mp c_12
            refine lv_aload_n hx hb dX10_best_74 rfl (lv_at hl 0 rfl) ?_
            refine lv_iconst (v := (-1)) hx hb dX10_best_75 (by decide) ?_
            refine lv_iload_n hx hb dX10_best_76 rfl (lv_at hl 1 rfl) ?_
            refine he_ci (wc := [(oX10 x0 y0 ta z0 p0 dr pa (nI nt) s0 im ki tr v0 rf), (oX4 tr r0 r1 mj), (aI g r0 24 F), (aI g r1 6 G), (oX6 p0 p1 p2 p3 p4 (nI w)), (aI g p1 24 sd), (aI g p3 6 st), (aI g p4 6 me), (oX8 s0 h0 a0 b0 e0), (oX4 h0 q0 q1 mo), (aI g q0 24 f)]) (wr := [(aI g p2 10 fn), (aP g pa 7 pf), (oX5 t0_0 t1_0 t2_0 pw_0), (aI g t1_0 6 pd_0), (aI g t2_0 36 wb_0), (oX5 t0_1 t1_1 t2_1 pw_1), (aI g t1_1 6 pd_1), (aI g t2_1 36 wb_1), (oX5 t0_2 t1_2 t2_2 pw_2), (aI g t1_2 6 pd_2), (aI g t2_2 36 wb_2), (oX5 t0_3 t1_3 t2_3 pw_3), (aI g t1_3 6 pd_3), (aI g t2_3 36 wb_3), (oX5 t0_4 t1_4 t2_4 pw_4), (aI g t1_4 6 pd_4), (aI g t2_4 36 wb_4), (oX5 t0_5 t1_5 t2_5 pw_5), (aI g t1_5 6 pd_5), (aI g t2_5 36 wb_5)]) (va_runV (As := [.int (-1), .int (nI n)]) (rest := []) ⟨hx, hb, hml, hown, hts⟩ (g_X10_trySignedN l g x0 y0 z0 dr pa s0 im tr v0 rf ta (nI nt) ki p0 p1 p2 p3 p4 w sd st me a0 b0 e0 h0 q0 q1 mo f r0 r1 mj F G n (by first | assumption | decide | omega) hn2 H.size) (cwV 2 hts gX10_best_X10_trySigned rfl rfl rfl (by decide +kernel) ⟨Nat.le_of_ble_eq_true rfl, Nat.le_of_ble_eq_true rfl⟩) (he_preV (wc := [(oX10 x0 y0 ta z0 p0 dr pa (nI nt) s0 im ki tr v0 rf), (oX4 tr r0 r1 mj), (aI g r0 24 F), (aI g r1 6 G), (oX6 p0 p1 p2 p3 p4 (nI w)), (aI g p1 24 sd), (aI g p3 6 st), (aI g p4 6 me), (oX8 s0 h0 a0 b0 e0), (oX4 h0 q0 q1 mo), (aI g q0 24 f)]) hK hP hD hS hA hE [0, 1, 2, 3, 4, 5, 7, 8, 28, 29, 30] rfl rfl 0 rfl rfl) rfl rfl hl.1 rfl (lv_room (Nat.le_of_ble_eq_true rfl)) dX10_best_77 ⟨(Nat.le_of_ble_eq_true rfl), (Nat.le_of_ble_eq_true rfl)⟩) hP hD hS hA [0, 1, 2, 3, 4, 5, 7, 8, 28, 29, 30] [6, 9, 10, 11, 12, 13, 14, 15, 16, 17, 18, 19, 20, 21, 22, 23, 24, 25, 26, 27] rfl rfl rfl (by decide) (fun r_14 u_15 H locs h_16 hP hD hS => ?_)
            obtain ⟨um_17, uf_18, us_19⟩ := u_15
            have hP : va_P g.1 vwCl [(aI g p2 10 fn), (aP g pa 7 pf), (oX5 t0_0 t1_0 t2_0 pw_0), (aI g t1_0 6 pd_0), (aI g t2_0 36 wb_0), (oX5 t0_1 t1_1 t2_1 pw_1), (aI g t1_1 6 pd_1), (aI g t2_1 36 wb_1), (oX5 t0_2 t1_2 t2_2 pw_2), (aI g t1_2 6 pd_2), (aI g t2_2 36 wb_2), (oX5 t0_3 t1_3 t2_3 pw_3), (aI g t1_3 6 pd_3), (aI g t2_3 36 wb_3), (oX5 t0_4 t1_4 t2_4 pw_4), (aI g t1_4 6 pd_4), (aI g t2_4 36 wb_4), (oX5 t0_5 t1_5 t2_5 pw_5), (aI g t1_5 6 pd_5), (aI g t2_5 36 wb_5), (oX10 x0 y0 ta z0 p0 dr pa (nI nt) s0 im ki tr v0 rf), (oX4 tr r0 r1 um_17), (aI g r0 24 uf_18), (aI g r1 6 us_19), (oX6 p0 p1 p2 p3 p4 (nI w)), (aI g p1 24 sd), (aI g p3 6 st), (aI g p4 6 me), (oX8 s0 h0 a0 b0 e0), (oX4 h0 q0 q1 mo), (aI g q0 24 f)] H := hP
            have hD : va_D A [(aI g p2 10 fn), (aP g pa 7 pf), (oX5 t0_0 t1_0 t2_0 pw_0), (aI g t1_0 6 pd_0), (aI g t2_0 36 wb_0), (oX5 t0_1 t1_1 t2_1 pw_1), (aI g t1_1 6 pd_1), (aI g t2_1 36 wb_1), (oX5 t0_2 t1_2 t2_2 pw_2), (aI g t1_2 6 pd_2), (aI g t2_2 36 wb_2), (oX5 t0_3 t1_3 t2_3 pw_3), (aI g t1_3 6 pd_3), (aI g t2_3 36 wb_3), (oX5 t0_4 t1_4 t2_4 pw_4), (aI g t1_4 6 pd_4), (aI g t2_4 36 wb_4), (oX5 t0_5 t1_5 t2_5 pw_5), (aI g t1_5 6 pd_5), (aI g t2_5 36 wb_5), (oX10 x0 y0 ta z0 p0 dr pa (nI nt) s0 im ki tr v0 rf), (oX4 tr r0 r1 um_17), (aI g r0 24 uf_18), (aI g r1 6 us_19), (oX6 p0 p1 p2 p3 p4 (nI w)), (aI g p1 24 sd), (aI g p3 6 st), (aI g p4 6 me), (oX8 s0 h0 a0 b0 e0), (oX4 h0 q0 q1 mo), (aI g q0 24 f)] := hD
            refine lv_istore (lv' := [(5, .int r_14), (0, .ref x0), (1, .int (nI n)), (2, .int wh), (3, .int bp), (4, .int ms)]) hx hb dX10_best_80 hl (by decide) rfl (fun ls hl => ?_)
            refine lv_iload hx hb dX10_best_82 (lv_at hl 0 rfl) ?_
            refine lv_iload hx hb dX10_best_84 (lv_at hl 5 rfl) ?_
            refine lv_icmp_le (tgt := 95) hx hb dX10_best_86 (by decide) (fun c_20 => ?_) (fun c_20 => ?_)
            · refine lv_iload_n hx hb dX10_best_95 rfl (lv_at hl 3 rfl) ?_
              refine lv_if_ne (tgt := 103) hx hb dX10_best_96 (by decide) (fun c_21 => ?_) (fun c_21 => ?_)
              · refine lv_iload hx hb dX10_best_103 (lv_at hl 5 rfl) ?_
                have hP := hP.sub (ws' := [(oX10 x0 y0 ta z0 p0 dr pa (nI nt) s0 im ki tr v0 rf), (oX4 tr r0 r1 um_17), (aI g r0 24 uf_18), (aI g r1 6 us_19), (oX6 p0 p1 p2 p3 p4 (nI w)), (aI g p1 24 sd), (aI g p2 10 fn), (aI g p3 6 st), (aI g p4 6 me), (aP g pa 7 pf), (oX5 t0_0 t1_0 t2_0 pw_0), (aI g t1_0 6 pd_0), (aI g t2_0 36 wb_0), (oX5 t0_1 t1_1 t2_1 pw_1), (aI g t1_1 6 pd_1), (aI g t2_1 36 wb_1), (oX5 t0_2 t1_2 t2_2 pw_2), (aI g t1_2 6 pd_2), (aI g t2_2 36 wb_2), (oX5 t0_3 t1_3 t2_3 pw_3), (aI g t1_3 6 pd_3), (aI g t2_3 36 wb_3), (oX5 t0_4 t1_4 t2_4 pw_4), (aI g t1_4 6 pd_4), (aI g t2_4 36 wb_4), (oX5 t0_5 t1_5 t2_5 pw_5), (aI g t1_5 6 pd_5), (aI g t2_5 36 wb_5), (oX8 s0 h0 a0 b0 e0), (oX4 h0 q0 q1 mo), (aI g q0 24 f)]) [20, 21, 22, 23, 24, 25, 0, 26, 27, 1, 2, 3, 4, 5, 6, 7, 8, 9, 10, 11, 12, 13, 14, 15, 16, 17, 18, 19, 28, 29, 30] rfl
                have hD := hD.sub (ws' := [(oX10 x0 y0 ta z0 p0 dr pa (nI nt) s0 im ki tr v0 rf), (oX4 tr r0 r1 um_17), (aI g r0 24 uf_18), (aI g r1 6 us_19), (oX6 p0 p1 p2 p3 p4 (nI w)), (aI g p1 24 sd), (aI g p2 10 fn), (aI g p3 6 st), (aI g p4 6 me), (aP g pa 7 pf), (oX5 t0_0 t1_0 t2_0 pw_0), (aI g t1_0 6 pd_0), (aI g t2_0 36 wb_0), (oX5 t0_1 t1_1 t2_1 pw_1), (aI g t1_1 6 pd_1), (aI g t2_1 36 wb_1), (oX5 t0_2 t1_2 t2_2 pw_2), (aI g t1_2 6 pd_2), (aI g t2_2 36 wb_2), (oX5 t0_3 t1_3 t2_3 pw_3), (aI g t1_3 6 pd_3), (aI g t2_3 36 wb_3), (oX5 t0_4 t1_4 t2_4 pw_4), (aI g t1_4 6 pd_4), (aI g t2_4 36 wb_4), (oX5 t0_5 t1_5 t2_5 pw_5), (aI g t1_5 6 pd_5), (aI g t2_5 36 wb_5), (oX8 s0 h0 a0 b0 e0), (oX4 h0 q0 q1 mo), (aI g q0 24 f)]) [20, 21, 22, 23, 24, 25, 0, 26, 27, 1, 2, 3, 4, 5, 6, 7, 8, 9, 10, 11, 12, 13, 14, 15, 16, 17, 18, 19, 28, 29, 30] (by decide) rfl
                exact he_ri hQ hx hb hr hlk hP hD hS dX10_best_105 (Nat.le_of_ble_eq_true rfl) (Nat.le_of_ble_eq_true rfl) ((um_17, uf_18, us_19)) (rfl) (trivial)
              · refine lv_iload_n hx hb dX10_best_99 rfl (lv_at hl 4 rfl) ?_
                refine lv_goto (tgt := 105) hx hb dX10_best_100 (by decide) ?_
                have hP := hP.sub (ws' := [(oX10 x0 y0 ta z0 p0 dr pa (nI nt) s0 im ki tr v0 rf), (oX4 tr r0 r1 um_17), (aI g r0 24 uf_18), (aI g r1 6 us_19), (oX6 p0 p1 p2 p3 p4 (nI w)), (aI g p1 24 sd), (aI g p2 10 fn), (aI g p3 6 st), (aI g p4 6 me), (aP g pa 7 pf), (oX5 t0_0 t1_0 t2_0 pw_0), (aI g t1_0 6 pd_0), (aI g t2_0 36 wb_0), (oX5 t0_1 t1_1 t2_1 pw_1), (aI g t1_1 6 pd_1), (aI g t2_1 36 wb_1), (oX5 t0_2 t1_2 t2_2 pw_2), (aI g t1_2 6 pd_2), (aI g t2_2 36 wb_2), (oX5 t0_3 t1_3 t2_3 pw_3), (aI g t1_3 6 pd_3), (aI g t2_3 36 wb_3), (oX5 t0_4 t1_4 t2_4 pw_4), (aI g t1_4 6 pd_4), (aI g t2_4 36 wb_4), (oX5 t0_5 t1_5 t2_5 pw_5), (aI g t1_5 6 pd_5), (aI g t2_5 36 wb_5), (oX8 s0 h0 a0 b0 e0), (oX4 h0 q0 q1 mo), (aI g q0 24 f)]) [20, 21, 22, 23, 24, 25, 0, 26, 27, 1, 2, 3, 4, 5, 6, 7, 8, 9, 10, 11, 12, 13, 14, 15, 16, 17, 18, 19, 28, 29, 30] rfl
                have hD := hD.sub (ws' := [(oX10 x0 y0 ta z0 p0 dr pa (nI nt) s0 im ki tr v0 rf), (oX4 tr r0 r1 um_17), (aI g r0 24 uf_18), (aI g r1 6 us_19), (oX6 p0 p1 p2 p3 p4 (nI w)), (aI g p1 24 sd), (aI g p2 10 fn), (aI g p3 6 st), (aI g p4 6 me), (aP g pa 7 pf), (oX5 t0_0 t1_0 t2_0 pw_0), (aI g t1_0 6 pd_0), (aI g t2_0 36 wb_0), (oX5 t0_1 t1_1 t2_1 pw_1), (aI g t1_1 6 pd_1), (aI g t2_1 36 wb_1), (oX5 t0_2 t1_2 t2_2 pw_2), (aI g t1_2 6 pd_2), (aI g t2_2 36 wb_2), (oX5 t0_3 t1_3 t2_3 pw_3), (aI g t1_3 6 pd_3), (aI g t2_3 36 wb_3), (oX5 t0_4 t1_4 t2_4 pw_4), (aI g t1_4 6 pd_4), (aI g t2_4 36 wb_4), (oX5 t0_5 t1_5 t2_5 pw_5), (aI g t1_5 6 pd_5), (aI g t2_5 36 wb_5), (oX8 s0 h0 a0 b0 e0), (oX4 h0 q0 q1 mo), (aI g q0 24 f)]) [20, 21, 22, 23, 24, 25, 0, 26, 27, 1, 2, 3, 4, 5, 6, 7, 8, 9, 10, 11, 12, 13, 14, 15, 16, 17, 18, 19, 28, 29, 30] (by decide) rfl
                exact he_ri hQ hx hb hr hlk hP hD hS dX10_best_105 (Nat.le_of_ble_eq_true rfl) (Nat.le_of_ble_eq_true rfl) ((um_17, uf_18, us_19)) (rfl) (trivial)
            · refine lv_iload hx hb dX10_best_89 (lv_at hl 0 rfl) ?_
              refine lv_istore (lv' := [(4, .int r_14), (5, .int r_14), (0, .ref x0), (1, .int (nI n)), (2, .int wh), (3, .int bp)]) hx hb dX10_best_91 hl (by decide) rfl (fun ls hl => ?_)
              refine lv_iconst (v := (-1)) hx hb dX10_best_93 (by decide) ?_
              refine lv_istore_n (lv' := [(3, .int (-1)), (4, .int r_14), (5, .int r_14), (0, .ref x0), (1, .int (nI n)), (2, .int wh)]) hx hb dX10_best_94 rfl hl (by decide) rfl (fun ls hl => ?_)
              refine lv_iload_n hx hb dX10_best_95 rfl (lv_at hl 5 rfl) ?_
              refine lv_if_ne (tgt := 103) hx hb dX10_best_96 (by decide) (fun c_22 => ?_) (fun c_22 => ?_)
              · refine lv_iload hx hb dX10_best_103 (lv_at hl 1 rfl) ?_
                have hP := hP.sub (ws' := [(oX10 x0 y0 ta z0 p0 dr pa (nI nt) s0 im ki tr v0 rf), (oX4 tr r0 r1 um_17), (aI g r0 24 uf_18), (aI g r1 6 us_19), (oX6 p0 p1 p2 p3 p4 (nI w)), (aI g p1 24 sd), (aI g p2 10 fn), (aI g p3 6 st), (aI g p4 6 me), (aP g pa 7 pf), (oX5 t0_0 t1_0 t2_0 pw_0), (aI g t1_0 6 pd_0), (aI g t2_0 36 wb_0), (oX5 t0_1 t1_1 t2_1 pw_1), (aI g t1_1 6 pd_1), (aI g t2_1 36 wb_1), (oX5 t0_2 t1_2 t2_2 pw_2), (aI g t1_2 6 pd_2), (aI g t2_2 36 wb_2), (oX5 t0_3 t1_3 t2_3 pw_3), (aI g t1_3 6 pd_3), (aI g t2_3 36 wb_3), (oX5 t0_4 t1_4 t2_4 pw_4), (aI g t1_4 6 pd_4), (aI g t2_4 36 wb_4), (oX5 t0_5 t1_5 t2_5 pw_5), (aI g t1_5 6 pd_5), (aI g t2_5 36 wb_5), (oX8 s0 h0 a0 b0 e0), (oX4 h0 q0 q1 mo), (aI g q0 24 f)]) [20, 21, 22, 23, 24, 25, 0, 26, 27, 1, 2, 3, 4, 5, 6, 7, 8, 9, 10, 11, 12, 13, 14, 15, 16, 17, 18, 19, 28, 29, 30] rfl
                have hD := hD.sub (ws' := [(oX10 x0 y0 ta z0 p0 dr pa (nI nt) s0 im ki tr v0 rf), (oX4 tr r0 r1 um_17), (aI g r0 24 uf_18), (aI g r1 6 us_19), (oX6 p0 p1 p2 p3 p4 (nI w)), (aI g p1 24 sd), (aI g p2 10 fn), (aI g p3 6 st), (aI g p4 6 me), (aP g pa 7 pf), (oX5 t0_0 t1_0 t2_0 pw_0), (aI g t1_0 6 pd_0), (aI g t2_0 36 wb_0), (oX5 t0_1 t1_1 t2_1 pw_1), (aI g t1_1 6 pd_1), (aI g t2_1 36 wb_1), (oX5 t0_2 t1_2 t2_2 pw_2), (aI g t1_2 6 pd_2), (aI g t2_2 36 wb_2), (oX5 t0_3 t1_3 t2_3 pw_3), (aI g t1_3 6 pd_3), (aI g t2_3 36 wb_3), (oX5 t0_4 t1_4 t2_4 pw_4), (aI g t1_4 6 pd_4), (aI g t2_4 36 wb_4), (oX5 t0_5 t1_5 t2_5 pw_5), (aI g t1_5 6 pd_5), (aI g t2_5 36 wb_5), (oX8 s0 h0 a0 b0 e0), (oX4 h0 q0 q1 mo), (aI g q0 24 f)]) [20, 21, 22, 23, 24, 25, 0, 26, 27, 1, 2, 3, 4, 5, 6, 7, 8, 9, 10, 11, 12, 13, 14, 15, 16, 17, 18, 19, 28, 29, 30] (by decide) rfl
                exact he_ri hQ hx hb hr hlk hP hD hS dX10_best_105 (Nat.le_of_ble_eq_true rfl) (Nat.le_of_ble_eq_true rfl) ((um_17, uf_18, us_19)) (rfl) (trivial)
              · refine lv_iload_n hx hb dX10_best_99 rfl (lv_at hl 0 rfl) ?_
                refine lv_goto (tgt := 105) hx hb dX10_best_100 (by decide) ?_
                have hP := hP.sub (ws' := [(oX10 x0 y0 ta z0 p0 dr pa (nI nt) s0 im ki tr v0 rf), (oX4 tr r0 r1 um_17), (aI g r0 24 uf_18), (aI g r1 6 us_19), (oX6 p0 p1 p2 p3 p4 (nI w)), (aI g p1 24 sd), (aI g p2 10 fn), (aI g p3 6 st), (aI g p4 6 me), (aP g pa 7 pf), (oX5 t0_0 t1_0 t2_0 pw_0), (aI g t1_0 6 pd_0), (aI g t2_0 36 wb_0), (oX5 t0_1 t1_1 t2_1 pw_1), (aI g t1_1 6 pd_1), (aI g t2_1 36 wb_1), (oX5 t0_2 t1_2 t2_2 pw_2), (aI g t1_2 6 pd_2), (aI g t2_2 36 wb_2), (oX5 t0_3 t1_3 t2_3 pw_3), (aI g t1_3 6 pd_3), (aI g t2_3 36 wb_3), (oX5 t0_4 t1_4 t2_4 pw_4), (aI g t1_4 6 pd_4), (aI g t2_4 36 wb_4), (oX5 t0_5 t1_5 t2_5 pw_5), (aI g t1_5 6 pd_5), (aI g t2_5 36 wb_5), (oX8 s0 h0 a0 b0 e0), (oX4 h0 q0 q1 mo), (aI g q0 24 f)]) [20, 21, 22, 23, 24, 25, 0, 26, 27, 1, 2, 3, 4, 5, 6, 7, 8, 9, 10, 11, 12, 13, 14, 15, 16, 17, 18, 19, 28, 29, 30] rfl
                have hD := hD.sub (ws' := [(oX10 x0 y0 ta z0 p0 dr pa (nI nt) s0 im ki tr v0 rf), (oX4 tr r0 r1 um_17), (aI g r0 24 uf_18), (aI g r1 6 us_19), (oX6 p0 p1 p2 p3 p4 (nI w)), (aI g p1 24 sd), (aI g p2 10 fn), (aI g p3 6 st), (aI g p4 6 me), (aP g pa 7 pf), (oX5 t0_0 t1_0 t2_0 pw_0), (aI g t1_0 6 pd_0), (aI g t2_0 36 wb_0), (oX5 t0_1 t1_1 t2_1 pw_1), (aI g t1_1 6 pd_1), (aI g t2_1 36 wb_1), (oX5 t0_2 t1_2 t2_2 pw_2), (aI g t1_2 6 pd_2), (aI g t2_2 36 wb_2), (oX5 t0_3 t1_3 t2_3 pw_3), (aI g t1_3 6 pd_3), (aI g t2_3 36 wb_3), (oX5 t0_4 t1_4 t2_4 pw_4), (aI g t1_4 6 pd_4), (aI g t2_4 36 wb_4), (oX5 t0_5 t1_5 t2_5 pw_5), (aI g t1_5 6 pd_5), (aI g t2_5 36 wb_5), (oX8 s0 h0 a0 b0 e0), (oX4 h0 q0 q1 mo), (aI g q0 24 f)]) [20, 21, 22, 23, 24, 25, 0, 26, 27, 1, 2, 3, 4, 5, 6, 7, 8, 9, 10, 11, 12, 13, 14, 15, 16, 17, 18, 19, 28, 29, 30] (by decide) rfl
                exact he_ri hQ hx hb hr hlk hP hD hS dX10_best_105 (Nat.le_of_ble_eq_true rfl) (Nat.le_of_ble_eq_true rfl) ((um_17, uf_18, us_19)) (rfl) (trivial)
          · have k_23 : ¬ (nt ≤ j) := fun h9 => c_12 ((he_cle (a := nt) (b := j) rfl rfl (by omega) (by omega)).mpr h9)
            rcases (show j = 0 ∨ j = 1 ∨ j = 2 ∨ j = 3 ∨ j = 4 ∨ j = 5 by omega) with rfl | rfl | rfl | rfl | rfl | rfl
            · skip
              refine lv_aload_n hx hb dX10_best_45 rfl (lv_at hl 0 rfl) ?_
              refine lv_iload hx hb dX10_best_46 (lv_at hl 5 rfl) ?_
              refine lv_iload_n hx hb dX10_best_48 rfl (lv_at hl 1 rfl) ?_
              refine he_ci (wc := [(oX10 x0 y0 ta z0 p0 dr pa (nI nt) s0 im ki tr v0 rf), (oX4 tr r0 r1 mj), (aI g r0 24 F), (aI g r1 6 G), (oX6 p0 p1 p2 p3 p4 (nI w)), (aI g p1 24 sd), (aI g p2 10 fn), (aI g p3 6 st), (aI g p4 6 me), (aP g pa 7 pf), (oX5 t0_0 t1_0 t2_0 pw_0), (aI g t1_0 6 pd_0), (aI g t2_0 36 wb_0), (oX8 s0 h0 a0 b0 e0), (oX4 h0 q0 q1 mo), (aI g q0 24 f)]) (wr := [(oX5 t0_1 t1_1 t2_1 pw_1), (aI g t1_1 6 pd_1), (aI g t2_1 36 wb_1), (oX5 t0_2 t1_2 t2_2 pw_2), (aI g t1_2 6 pd_2), (aI g t2_2 36 wb_2), (oX5 t0_3 t1_3 t2_3 pw_3), (aI g t1_3 6 pd_3), (aI g t2_3 36 wb_3), (oX5 t0_4 t1_4 t2_4 pw_4), (aI g t1_4 6 pd_4), (aI g t2_4 36 wb_4), (oX5 t0_5 t1_5 t2_5 pw_5), (aI g t1_5 6 pd_5), (aI g t2_5 36 wb_5)]) (va_runV (As := [.int 0, .int (nI n)]) (rest := []) ⟨hx, hb, hml, hown, hts⟩ (g_X10_trySigned l g x0 y0 z0 dr pa s0 im tr v0 rf ta (nI nt) ki p0 p1 p2 p3 p4 w sd fn st me a0 b0 e0 h0 q0 q1 mo f r0 r1 mj F G n pf t0_0 t1_0 t2_0 pw_0 pd_0 wb_0 ck_0 0 (by first | assumption | decide | omega) hwb0 hck0 hc90 (by decide) hpf0 hn2 H.size) (cwV 2 hts gX10_best_X10_trySigned rfl rfl rfl (by decide +kernel) ⟨Nat.le_of_ble_eq_true rfl, Nat.le_of_ble_eq_true rfl⟩) (he_preV (wc := [(oX10 x0 y0 ta z0 p0 dr pa (nI nt) s0 im ki tr v0 rf), (oX4 tr r0 r1 mj), (aI g r0 24 F), (aI g r1 6 G), (oX6 p0 p1 p2 p3 p4 (nI w)), (aI g p1 24 sd), (aI g p2 10 fn), (aI g p3 6 st), (aI g p4 6 me), (aP g pa 7 pf), (oX5 t0_0 t1_0 t2_0 pw_0), (aI g t1_0 6 pd_0), (aI g t2_0 36 wb_0), (oX8 s0 h0 a0 b0 e0), (oX4 h0 q0 q1 mo), (aI g q0 24 f)]) hK hP hD hS hA hE [0, 1, 2, 3, 4, 5, 6, 7, 8, 9, 10, 11, 12, 28, 29, 30] rfl rfl 0 rfl rfl) rfl rfl hl.1 rfl (lv_room (Nat.le_of_ble_eq_true rfl)) dX10_best_49 ⟨(Nat.le_of_ble_eq_true rfl), (Nat.le_of_ble_eq_true rfl)⟩) hP hD hS hA [0, 1, 2, 3, 4, 5, 6, 7, 8, 9, 10, 11, 12, 28, 29, 30] [13, 14, 15, 16, 17, 18, 19, 20, 21, 22, 23, 24, 25, 26, 27] rfl rfl rfl (by decide) (fun r_24 u_25 H locs h_26 hP hD hS => ?_)
              obtain ⟨um_27, uf_28, us_29⟩ := u_25
              have hP : va_P g.1 vwCl [(oX5 t0_1 t1_1 t2_1 pw_1), (aI g t1_1 6 pd_1), (aI g t2_1 36 wb_1), (oX5 t0_2 t1_2 t2_2 pw_2), (aI g t1_2 6 pd_2), (aI g t2_2 36 wb_2), (oX5 t0_3 t1_3 t2_3 pw_3), (aI g t1_3 6 pd_3), (aI g t2_3 36 wb_3), (oX5 t0_4 t1_4 t2_4 pw_4), (aI g t1_4 6 pd_4), (aI g t2_4 36 wb_4), (oX5 t0_5 t1_5 t2_5 pw_5), (aI g t1_5 6 pd_5), (aI g t2_5 36 wb_5), (oX10 x0 y0 ta z0 p0 dr pa (nI nt) s0 im ki tr v0 rf), (oX4 tr r0 r1 um_27), (aI g r0 24 uf_28), (aI g r1 6 us_29), (oX6 p0 p1 p2 p3 p4 (nI w)), (aI g p1 24 sd), (aI g p2 10 fn), (aI g p3 6 st), (aI g p4 6 me), (aP g pa 7 pf), (oX5 t0_0 t1_0 t2_0 pw_0), (aI g t1_0 6 pd_0), (aI g t2_0 36 wb_0), (oX8 s0 h0 a0 b0 e0), (oX4 h0 q0 q1 mo), (aI g q0 24 f)] H := hP
              have hD : va_D A [(oX5 t0_1 t1_1 t2_1 pw_1), (aI g t1_1 6 pd_1), (aI g t2_1 36 wb_1), (oX5 t0_2 t1_2 t2_2 pw_2), (aI g t1_2 6 pd_2), (aI g t2_2 36 wb_2), (oX5 t0_3 t1_3 t2_3 pw_3), (aI g t1_3 6 pd_3), (aI g t2_3 36 wb_3), (oX5 t0_4 t1_4 t2_4 pw_4), (aI g t1_4 6 pd_4), (aI g t2_4 36 wb_4), (oX5 t0_5 t1_5 t2_5 pw_5), (aI g t1_5 6 pd_5), (aI g t2_5 36 wb_5), (oX10 x0 y0 ta z0 p0 dr pa (nI nt) s0 im ki tr v0 rf), (oX4 tr r0 r1 um_27), (aI g r0 24 uf_28), (aI g r1 6 us_29), (oX6 p0 p1 p2 p3 p4 (nI w)), (aI g p1 24 sd), (aI g p2 10 fn), (aI g p3 6 st), (aI g p4 6 me), (aP g pa 7 pf), (oX5 t0_0 t1_0 t2_0 pw_0), (aI g t1_0 6 pd_0), (aI g t2_0 36 wb_0), (oX8 s0 h0 a0 b0 e0), (oX4 h0 q0 q1 mo), (aI g q0 24 f)] := hD
              refine lv_istore (lv' := [(6, .int r_24), (0, .ref x0), (1, .int (nI n)), (2, .int wh), (3, .int bp), (4, .int ms), (5, .int 0)]) hx hb dX10_best_52 hl (by decide) rfl (fun ls hl => ?_)
              refine lv_iload hx hb dX10_best_54 (lv_at hl 0 rfl) ?_
              refine lv_iload hx hb dX10_best_56 (lv_at hl 5 rfl) ?_
              refine lv_icmp_le (tgt := 68) hx hb dX10_best_58 (by decide) (fun c_30 => ?_) (fun c_30 => ?_)
              · refine lv_iinc (v := 1) (lv' := [(5, .int 1), (6, .int r_24), (0, .ref x0), (1, .int (nI n)), (2, .int wh), (3, .int bp), (4, .int ms)]) hx hb dX10_best_68 hl (k := 6) rfl (by decide) (by decide) rfl (fun ls hl => ?_)
                refine lv_goto (tgt := 36) hx hb dX10_best_71 (by decide) ?_
                exact ih36 1 bp ms um_27 uf_28 us_29 (by omega) (by omega) _ _ _ (hP.sub [15, 16, 17, 18, 19, 20, 21, 22, 23, 24, 25, 26, 27, 0, 1, 2, 3, 4, 5, 6, 7, 8, 9, 10, 11, 12, 13, 14, 28, 29, 30] rfl) (hD.sub [15, 16, 17, 18, 19, 20, 21, 22, 23, 24, 25, 26, 27, 0, 1, 2, 3, 4, 5, 6, 7, 8, 9, 10, 11, 12, 13, 14, 28, 29, 30] (by decide) rfl) hS (lv_sub hl [2, 3, 4, 5, 6, 0] rfl)
              · refine lv_iload hx hb dX10_best_61 (lv_at hl 0 rfl) ?_
                refine lv_istore (lv' := [(4, .int r_24), (6, .int r_24), (0, .ref x0), (1, .int (nI n)), (2, .int wh), (3, .int bp), (5, .int 0)]) hx hb dX10_best_63 hl (by decide) rfl (fun ls hl => ?_)
                refine lv_iload hx hb dX10_best_65 (lv_at hl 6 rfl) ?_
                refine lv_istore_n (lv' := [(3, .int 0), (4, .int r_24), (6, .int r_24), (0, .ref x0), (1, .int (nI n)), (2, .int wh), (5, .int 0)]) hx hb dX10_best_67 rfl hl (by decide) rfl (fun ls hl => ?_)
                refine lv_iinc (v := 1) (lv' := [(5, .int 1), (3, .int 0), (4, .int r_24), (6, .int r_24), (0, .ref x0), (1, .int (nI n)), (2, .int wh)]) hx hb dX10_best_68 hl (k := 6) rfl (by decide) (by decide) rfl (fun ls hl => ?_)
                refine lv_goto (tgt := 36) hx hb dX10_best_71 (by decide) ?_
                exact ih36 1 0 r_24 um_27 uf_28 us_29 (by omega) (by omega) _ _ _ (hP.sub [15, 16, 17, 18, 19, 20, 21, 22, 23, 24, 25, 26, 27, 0, 1, 2, 3, 4, 5, 6, 7, 8, 9, 10, 11, 12, 13, 14, 28, 29, 30] rfl) (hD.sub [15, 16, 17, 18, 19, 20, 21, 22, 23, 24, 25, 26, 27, 0, 1, 2, 3, 4, 5, 6, 7, 8, 9, 10, 11, 12, 13, 14, 28, 29, 30] (by decide) rfl) hS (lv_sub hl [4, 5, 6, 1, 2, 0] rfl)
            · skip
              refine lv_aload_n hx hb dX10_best_45 rfl (lv_at hl 0 rfl) ?_
              refine lv_iload hx hb dX10_best_46 (lv_at hl 5 rfl) ?_
              refine lv_iload_n hx hb dX10_best_48 rfl (lv_at hl 1 rfl) ?_
              refine he_ci (wc := [(oX10 x0 y0 ta z0 p0 dr pa (nI nt) s0 im ki tr v0 rf), (oX4 tr r0 r1 mj), (aI g r0 24 F), (aI g r1 6 G), (oX6 p0 p1 p2 p3 p4 (nI w)), (aI g p1 24 sd), (aI g p2 10 fn), (aI g p3 6 st), (aI g p4 6 me), (aP g pa 7 pf), (oX5 t0_1 t1_1 t2_1 pw_1), (aI g t1_1 6 pd_1), (aI g t2_1 36 wb_1), (oX8 s0 h0 a0 b0 e0), (oX4 h0 q0 q1 mo), (aI g q0 24 f)]) (wr := [(oX5 t0_0 t1_0 t2_0 pw_0), (aI g t1_0 6 pd_0), (aI g t2_0 36 wb_0), (oX5 t0_2 t1_2 t2_2 pw_2), (aI g t1_2 6 pd_2), (aI g t2_2 36 wb_2), (oX5 t0_3 t1_3 t2_3 pw_3), (aI g t1_3 6 pd_3), (aI g t2_3 36 wb_3), (oX5 t0_4 t1_4 t2_4 pw_4), (aI g t1_4 6 pd_4), (aI g t2_4 36 wb_4), (oX5 t0_5 t1_5 t2_5 pw_5), (aI g t1_5 6 pd_5), (aI g t2_5 36 wb_5)]) (va_runV (As := [.int 1, .int (nI n)]) (rest := []) ⟨hx, hb, hml, hown, hts⟩ (g_X10_trySigned l g x0 y0 z0 dr pa s0 im tr v0 rf ta (nI nt) ki p0 p1 p2 p3 p4 w sd fn st me a0 b0 e0 h0 q0 q1 mo f r0 r1 mj F G n pf t0_1 t1_1 t2_1 pw_1 pd_1 wb_1 ck_1 1 (by first | assumption | decide | omega) hwb1 hck1 hc91 (by decide) hpf1 hn2 H.size) (cwV 2 hts gX10_best_X10_trySigned rfl rfl rfl (by decide +kernel) ⟨Nat.le_of_ble_eq_true rfl, Nat.le_of_ble_eq_true rfl⟩) (he_preV (wc := [(oX10 x0 y0 ta z0 p0 dr pa (nI nt) s0 im ki tr v0 rf), (oX4 tr r0 r1 mj), (aI g r0 24 F), (aI g r1 6 G), (oX6 p0 p1 p2 p3 p4 (nI w)), (aI g p1 24 sd), (aI g p2 10 fn), (aI g p3 6 st), (aI g p4 6 me), (aP g pa 7 pf), (oX5 t0_1 t1_1 t2_1 pw_1), (aI g t1_1 6 pd_1), (aI g t2_1 36 wb_1), (oX8 s0 h0 a0 b0 e0), (oX4 h0 q0 q1 mo), (aI g q0 24 f)]) hK hP hD hS hA hE [0, 1, 2, 3, 4, 5, 6, 7, 8, 9, 13, 14, 15, 28, 29, 30] rfl rfl 0 rfl rfl) rfl rfl hl.1 rfl (lv_room (Nat.le_of_ble_eq_true rfl)) dX10_best_49 ⟨(Nat.le_of_ble_eq_true rfl), (Nat.le_of_ble_eq_true rfl)⟩) hP hD hS hA [0, 1, 2, 3, 4, 5, 6, 7, 8, 9, 13, 14, 15, 28, 29, 30] [10, 11, 12, 16, 17, 18, 19, 20, 21, 22, 23, 24, 25, 26, 27] rfl rfl rfl (by decide) (fun r_31 u_32 H locs h_33 hP hD hS => ?_)
              obtain ⟨um_34, uf_35, us_36⟩ := u_32
              have hP : va_P g.1 vwCl [(oX5 t0_0 t1_0 t2_0 pw_0), (aI g t1_0 6 pd_0), (aI g t2_0 36 wb_0), (oX5 t0_2 t1_2 t2_2 pw_2), (aI g t1_2 6 pd_2), (aI g t2_2 36 wb_2), (oX5 t0_3 t1_3 t2_3 pw_3), (aI g t1_3 6 pd_3), (aI g t2_3 36 wb_3), (oX5 t0_4 t1_4 t2_4 pw_4), (aI g t1_4 6 pd_4), (aI g t2_4 36 wb_4), (oX5 t0_5 t1_5 t2_5 pw_5), (aI g t1_5 6 pd_5), (aI g t2_5 36 wb_5), (oX10 x0 y0 ta z0 p0 dr pa (nI nt) s0 im ki tr v0 rf), (oX4 tr r0 r1 um_34), (aI g r0 24 uf_35), (aI g r1 6 us_36), (oX6 p0 p1 p2 p3 p4 (nI w)), (aI g p1 24 sd), (aI g p2 10 fn), (aI g p3 6 st), (aI g p4 6 me), (aP g pa 7 pf), (oX5 t0_1 t1_1 t2_1 pw_1), (aI g t1_1 6 pd_1), (aI g t2_1 36 wb_1), (oX8 s0 h0 a0 b0 e0), (oX4 h0 q0 q1 mo), (aI g q0 24 f)] H := hP
              have hD : va_D A [(oX5 t0_0 t1_0 t2_0 pw_0), (aI g t1_0 6 pd_0), (aI g t2_0 36 wb_0), (oX5 t0_2 t1_2 t2_2 pw_2), (aI g t1_2 6 pd_2), (aI g t2_2 36 wb_2), (oX5 t0_3 t1_3 t2_3 pw_3), (aI g t1_3 6 pd_3), (aI g t2_3 36 wb_3), (oX5 t0_4 t1_4 t2_4 pw_4), (aI g t1_4 6 pd_4), (aI g t2_4 36 wb_4), (oX5 t0_5 t1_5 t2_5 pw_5), (aI g t1_5 6 pd_5), (aI g t2_5 36 wb_5), (oX10 x0 y0 ta z0 p0 dr pa (nI nt) s0 im ki tr v0 rf), (oX4 tr r0 r1 um_34), (aI g r0 24 uf_35), (aI g r1 6 us_36), (oX6 p0 p1 p2 p3 p4 (nI w)), (aI g p1 24 sd), (aI g p2 10 fn), (aI g p3 6 st), (aI g p4 6 me), (aP g pa 7 pf), (oX5 t0_1 t1_1 t2_1 pw_1), (aI g t1_1 6 pd_1), (aI g t2_1 36 wb_1), (oX8 s0 h0 a0 b0 e0), (oX4 h0 q0 q1 mo), (aI g q0 24 f)] := hD
              refine lv_istore (lv' := [(6, .int r_31), (0, .ref x0), (1, .int (nI n)), (2, .int wh), (3, .int bp), (4, .int ms), (5, .int 1)]) hx hb dX10_best_52 hl (by decide) rfl (fun ls hl => ?_)
              refine lv_iload hx hb dX10_best_54 (lv_at hl 0 rfl) ?_
              refine lv_iload hx hb dX10_best_56 (lv_at hl 5 rfl) ?_
              refine lv_icmp_le (tgt := 68) hx hb dX10_best_58 (by decide) (fun c_37 => ?_) (fun c_37 => ?_)
              · refine lv_iinc (v := 2) (lv' := [(5, .int 2), (6, .int r_31), (0, .ref x0), (1, .int (nI n)), (2, .int wh), (3, .int bp), (4, .int ms)]) hx hb dX10_best_68 hl (k := 6) rfl (by decide) (by decide) rfl (fun ls hl => ?_)
                refine lv_goto (tgt := 36) hx hb dX10_best_71 (by decide) ?_
                exact ih36 2 bp ms um_34 uf_35 us_36 (by omega) (by omega) _ _ _ (hP.sub [15, 16, 17, 18, 19, 20, 21, 22, 23, 24, 0, 1, 2, 25, 26, 27, 3, 4, 5, 6, 7, 8, 9, 10, 11, 12, 13, 14, 28, 29, 30] rfl) (hD.sub [15, 16, 17, 18, 19, 20, 21, 22, 23, 24, 0, 1, 2, 25, 26, 27, 3, 4, 5, 6, 7, 8, 9, 10, 11, 12, 13, 14, 28, 29, 30] (by decide) rfl) hS (lv_sub hl [2, 3, 4, 5, 6, 0] rfl)
              · refine lv_iload hx hb dX10_best_61 (lv_at hl 0 rfl) ?_
                refine lv_istore (lv' := [(4, .int r_31), (6, .int r_31), (0, .ref x0), (1, .int (nI n)), (2, .int wh), (3, .int bp), (5, .int 1)]) hx hb dX10_best_63 hl (by decide) rfl (fun ls hl => ?_)
                refine lv_iload hx hb dX10_best_65 (lv_at hl 6 rfl) ?_
                refine lv_istore_n (lv' := [(3, .int 1), (4, .int r_31), (6, .int r_31), (0, .ref x0), (1, .int (nI n)), (2, .int wh), (5, .int 1)]) hx hb dX10_best_67 rfl hl (by decide) rfl (fun ls hl => ?_)
                refine lv_iinc (v := 2) (lv' := [(5, .int 2), (3, .int 1), (4, .int r_31), (6, .int r_31), (0, .ref x0), (1, .int (nI n)), (2, .int wh)]) hx hb dX10_best_68 hl (k := 6) rfl (by decide) (by decide) rfl (fun ls hl => ?_)
                refine lv_goto (tgt := 36) hx hb dX10_best_71 (by decide) ?_
                exact ih36 2 1 r_31 um_34 uf_35 us_36 (by omega) (by omega) _ _ _ (hP.sub [15, 16, 17, 18, 19, 20, 21, 22, 23, 24, 0, 1, 2, 25, 26, 27, 3, 4, 5, 6, 7, 8, 9, 10, 11, 12, 13, 14, 28, 29, 30] rfl) (hD.sub [15, 16, 17, 18, 19, 20, 21, 22, 23, 24, 0, 1, 2, 25, 26, 27, 3, 4, 5, 6, 7, 8, 9, 10, 11, 12, 13, 14, 28, 29, 30] (by decide) rfl) hS (lv_sub hl [4, 5, 6, 1, 2, 0] rfl)
            · skip
              refine lv_aload_n hx hb dX10_best_45 rfl (lv_at hl 0 rfl) ?_
              refine lv_iload hx hb dX10_best_46 (lv_at hl 5 rfl) ?_
              refine lv_iload_n hx hb dX10_best_48 rfl (lv_at hl 1 rfl) ?_
              refine he_ci (wc := [(oX10 x0 y0 ta z0 p0 dr pa (nI nt) s0 im ki tr v0 rf), (oX4 tr r0 r1 mj), (aI g r0 24 F), (aI g r1 6 G), (oX6 p0 p1 p2 p3 p4 (nI w)), (aI g p1 24 sd), (aI g p2 10 fn), (aI g p3 6 st), (aI g p4 6 me), (aP g pa 7 pf), (oX5 t0_2 t1_2 t2_2 pw_2), (aI g t1_2 6 pd_2), (aI g t2_2 36 wb_2), (oX8 s0 h0 a0 b0 e0), (oX4 h0 q0 q1 mo), (aI g q0 24 f)]) (wr := [(oX5 t0_0 t1_0 t2_0 pw_0), (aI g t1_0 6 pd_0), (aI g t2_0 36 wb_0), (oX5 t0_1 t1_1 t2_1 pw_1), (aI g t1_1 6 pd_1), (aI g t2_1 36 wb_1), (oX5 t0_3 t1_3 t2_3 pw_3), (aI g t1_3 6 pd_3), (aI g t2_3 36 wb_3), (oX5 t0_4 t1_4 t2_4 pw_4), (aI g t1_4 6 pd_4), (aI g t2_4 36 wb_4), (oX5 t0_5 t1_5 t2_5 pw_5), (aI g t1_5 6 pd_5), (aI g t2_5 36 wb_5)]) (va_runV (As := [.int 2, .int (nI n)]) (rest := []) ⟨hx, hb, hml, hown, hts⟩ (g_X10_trySigned l g x0 y0 z0 dr pa s0 im tr v0 rf ta (nI nt) ki p0 p1 p2 p3 p4 w sd fn st me a0 b0 e0 h0 q0 q1 mo f r0 r1 mj F G n pf t0_2 t1_2 t2_2 pw_2 pd_2 wb_2 ck_2 2 (by first | assumption | decide | omega) hwb2 hck2 hc92 (by decide) hpf2 hn2 H.size) (cwV 2 hts gX10_best_X10_trySigned rfl rfl rfl (by decide +kernel) ⟨Nat.le_of_ble_eq_true rfl, Nat.le_of_ble_eq_true rfl⟩) (he_preV (wc := [(oX10 x0 y0 ta z0 p0 dr pa (nI nt) s0 im ki tr v0 rf), (oX4 tr r0 r1 mj), (aI g r0 24 F), (aI g r1 6 G), (oX6 p0 p1 p2 p3 p4 (nI w)), (aI g p1 24 sd), (aI g p2 10 fn), (aI g p3 6 st), (aI g p4 6 me), (aP g pa 7 pf), (oX5 t0_2 t1_2 t2_2 pw_2), (aI g t1_2 6 pd_2), (aI g t2_2 36 wb_2), (oX8 s0 h0 a0 b0 e0), (oX4 h0 q0 q1 mo), (aI g q0 24 f)]) hK hP hD hS hA hE [0, 1, 2, 3, 4, 5, 6, 7, 8, 9, 16, 17, 18, 28, 29, 30] rfl rfl 0 rfl rfl) rfl rfl hl.1 rfl (lv_room (Nat.le_of_ble_eq_true rfl)) dX10_best_49 ⟨(Nat.le_of_ble_eq_true rfl), (Nat.le_of_ble_eq_true rfl)⟩) hP hD hS hA [0, 1, 2, 3, 4, 5, 6, 7, 8, 9, 16, 17, 18, 28, 29, 30] [10, 11, 12, 13, 14, 15, 19, 20, 21, 22, 23, 24, 25, 26, 27] rfl rfl rfl (by decide) (fun r_38 u_39 H locs h_40 hP hD hS => ?_)
              obtain ⟨um_41, uf_42, us_43⟩ := u_39
              have hP : va_P g.1 vwCl [(oX5 t0_0 t1_0 t2_0 pw_0), (aI g t1_0 6 pd_0), (aI g t2_0 36 wb_0), (oX5 t0_1 t1_1 t2_1 pw_1), (aI g t1_1 6 pd_1), (aI g t2_1 36 wb_1), (oX5 t0_3 t1_3 t2_3 pw_3), (aI g t1_3 6 pd_3), (aI g t2_3 36 wb_3), (oX5 t0_4 t1_4 t2_4 pw_4), (aI g t1_4 6 pd_4), (aI g t2_4 36 wb_4), (oX5 t0_5 t1_5 t2_5 pw_5), (aI g t1_5 6 pd_5), (aI g t2_5 36 wb_5), (oX10 x0 y0 ta z0 p0 dr pa (nI nt) s0 im ki tr v0 rf), (oX4 tr r0 r1 um_41), (aI g r0 24 uf_42), (aI g r1 6 us_43), (oX6 p0 p1 p2 p3 p4 (nI w)), (aI g p1 24 sd), (aI g p2 10 fn), (aI g p3 6 st), (aI g p4 6 me), (aP g pa 7 pf), (oX5 t0_2 t1_2 t2_2 pw_2), (aI g t1_2 6 pd_2), (aI g t2_2 36 wb_2), (oX8 s0 h0 a0 b0 e0), (oX4 h0 q0 q1 mo), (aI g q0 24 f)] H := hP
              have hD : va_D A [(oX5 t0_0 t1_0 t2_0 pw_0), (aI g t1_0 6 pd_0), (aI g t2_0 36 wb_0), (oX5 t0_1 t1_1 t2_1 pw_1), (aI g t1_1 6 pd_1), (aI g t2_1 36 wb_1), (oX5 t0_3 t1_3 t2_3 pw_3), (aI g t1_3 6 pd_3), (aI g t2_3 36 wb_3), (oX5 t0_4 t1_4 t2_4 pw_4), (aI g t1_4 6 pd_4), (aI g t2_4 36 wb_4), (oX5 t0_5 t1_5 t2_5 pw_5), (aI g t1_5 6 pd_5), (aI g t2_5 36 wb_5), (oX10 x0 y0 ta z0 p0 dr pa (nI nt) s0 im ki tr v0 rf), (oX4 tr r0 r1 um_41), (aI g r0 24 uf_42), (aI g r1 6 us_43), (oX6 p0 p1 p2 p3 p4 (nI w)), (aI g p1 24 sd), (aI g p2 10 fn), (aI g p3 6 st), (aI g p4 6 me), (aP g pa 7 pf), (oX5 t0_2 t1_2 t2_2 pw_2), (aI g t1_2 6 pd_2), (aI g t2_2 36 wb_2), (oX8 s0 h0 a0 b0 e0), (oX4 h0 q0 q1 mo), (aI g q0 24 f)] := hD
              refine lv_istore (lv' := [(6, .int r_38), (0, .ref x0), (1, .int (nI n)), (2, .int wh), (3, .int bp), (4, .int ms), (5, .int 2)]) hx hb dX10_best_52 hl (by decide) rfl (fun ls hl => ?_)
              refine lv_iload hx hb dX10_best_54 (lv_at hl 0 rfl) ?_
              refine lv_iload hx hb dX10_best_56 (lv_at hl 5 rfl) ?_
              refine lv_icmp_le (tgt := 68) hx hb dX10_best_58 (by decide) (fun c_44 => ?_) (fun c_44 => ?_)
              · refine lv_iinc (v := 3) (lv' := [(5, .int 3), (6, .int r_38), (0, .ref x0), (1, .int (nI n)), (2, .int wh), (3, .int bp), (4, .int ms)]) hx hb dX10_best_68 hl (k := 6) rfl (by decide) (by decide) rfl (fun ls hl => ?_)
                refine lv_goto (tgt := 36) hx hb dX10_best_71 (by decide) ?_
                exact ih36 3 bp ms um_41 uf_42 us_43 (by omega) (by omega) _ _ _ (hP.sub [15, 16, 17, 18, 19, 20, 21, 22, 23, 24, 0, 1, 2, 3, 4, 5, 25, 26, 27, 6, 7, 8, 9, 10, 11, 12, 13, 14, 28, 29, 30] rfl) (hD.sub [15, 16, 17, 18, 19, 20, 21, 22, 23, 24, 0, 1, 2, 3, 4, 5, 25, 26, 27, 6, 7, 8, 9, 10, 11, 12, 13, 14, 28, 29, 30] (by decide) rfl) hS (lv_sub hl [2, 3, 4, 5, 6, 0] rfl)
              · refine lv_iload hx hb dX10_best_61 (lv_at hl 0 rfl) ?_
                refine lv_istore (lv' := [(4, .int r_38), (6, .int r_38), (0, .ref x0), (1, .int (nI n)), (2, .int wh), (3, .int bp), (5, .int 2)]) hx hb dX10_best_63 hl (by decide) rfl (fun ls hl => ?_)
                refine lv_iload hx hb dX10_best_65 (lv_at hl 6 rfl) ?_
                refine lv_istore_n (lv' := [(3, .int 2), (4, .int r_38), (6, .int r_38), (0, .ref x0), (1, .int (nI n)), (2, .int wh), (5, .int 2)]) hx hb dX10_best_67 rfl hl (by decide) rfl (fun ls hl => ?_)
                refine lv_iinc (v := 3) (lv' := [(5, .int 3), (3, .int 2), (4, .int r_38), (6, .int r_38), (0, .ref x0), (1, .int (nI n)), (2, .int wh)]) hx hb dX10_best_68 hl (k := 6) rfl (by decide) (by decide) rfl (fun ls hl => ?_)
                refine lv_goto (tgt := 36) hx hb dX10_best_71 (by decide) ?_
                exact ih36 3 2 r_38 um_41 uf_42 us_43 (by omega) (by omega) _ _ _ (hP.sub [15, 16, 17, 18, 19, 20, 21, 22, 23, 24, 0, 1, 2, 3, 4, 5, 25, 26, 27, 6, 7, 8, 9, 10, 11, 12, 13, 14, 28, 29, 30] rfl) (hD.sub [15, 16, 17, 18, 19, 20, 21, 22, 23, 24, 0, 1, 2, 3, 4, 5, 25, 26, 27, 6, 7, 8, 9, 10, 11, 12, 13, 14, 28, 29, 30] (by decide) rfl) hS (lv_sub hl [4, 5, 6, 1, 2, 0] rfl)
            · skip
              refine lv_aload_n hx hb dX10_best_45 rfl (lv_at hl 0 rfl) ?_
              refine lv_iload hx hb dX10_best_46 (lv_at hl 5 rfl) ?_
              refine lv_iload_n hx hb dX10_best_48 rfl (lv_at hl 1 rfl) ?_
              refine he_ci (wc := [(oX10 x0 y0 ta z0 p0 dr pa (nI nt) s0 im ki tr v0 rf), (oX4 tr r0 r1 mj), (aI g r0 24 F), (aI g r1 6 G), (oX6 p0 p1 p2 p3 p4 (nI w)), (aI g p1 24 sd), (aI g p2 10 fn), (aI g p3 6 st), (aI g p4 6 me), (aP g pa 7 pf), (oX5 t0_3 t1_3 t2_3 pw_3), (aI g t1_3 6 pd_3), (aI g t2_3 36 wb_3), (oX8 s0 h0 a0 b0 e0), (oX4 h0 q0 q1 mo), (aI g q0 24 f)]) (wr := [(oX5 t0_0 t1_0 t2_0 pw_0), (aI g t1_0 6 pd_0), (aI g t2_0 36 wb_0), (oX5 t0_1 t1_1 t2_1 pw_1), (aI g t1_1 6 pd_1), (aI g t2_1 36 wb_1), (oX5 t0_2 t1_2 t2_2 pw_2), (aI g t1_2 6 pd_2), (aI g t2_2 36 wb_2), (oX5 t0_4 t1_4 t2_4 pw_4), (aI g t1_4 6 pd_4), (aI g t2_4 36 wb_4), (oX5 t0_5 t1_5 t2_5 pw_5), (aI g t1_5 6 pd_5), (aI g t2_5 36 wb_5)]) (va_runV (As := [.int 3, .int (nI n)]) (rest := []) ⟨hx, hb, hml, hown, hts⟩ (g_X10_trySigned l g x0 y0 z0 dr pa s0 im tr v0 rf ta (nI nt) ki p0 p1 p2 p3 p4 w sd fn st me a0 b0 e0 h0 q0 q1 mo f r0 r1 mj F G n pf t0_3 t1_3 t2_3 pw_3 pd_3 wb_3 ck_3 3 (by first | assumption | decide | omega) hwb3 hck3 hc93 (by decide) hpf3 hn2 H.size) (cwV 2 hts gX10_best_X10_trySigned rfl rfl rfl (by decide +kernel) ⟨Nat.le_of_ble_eq_true rfl, Nat.le_of_ble_eq_true rfl⟩) (he_preV (wc := [(oX10 x0 y0 ta z0 p0 dr pa (nI nt) s0 im ki tr v0 rf), (oX4 tr r0 r1 mj), (aI g r0 24 F), (aI g r1 6 G), (oX6 p0 p1 p2 p3 p4 (nI w)), (aI g p1 24 sd), (aI g p2 10 fn), (aI g p3 6 st), (aI g p4 6 me), (aP g pa 7 pf), (oX5 t0_3 t1_3 t2_3 pw_3), (aI g t1_3 6 pd_3), (aI g t2_3 36 wb_3), (oX8 s0 h0 a0 b0 e0), (oX4 h0 q0 q1 mo), (aI g q0 24 f)]) hK hP hD hS hA hE [0, 1, 2, 3, 4, 5, 6, 7, 8, 9, 19, 20, 21, 28, 29, 30] rfl rfl 0 rfl rfl) rfl rfl hl.1 rfl (lv_room (Nat.le_of_ble_eq_true rfl)) dX10_best_49 ⟨(Nat.le_of_ble_eq_true rfl), (Nat.le_of_ble_eq_true rfl)⟩) hP hD hS hA [0, 1, 2, 3, 4, 5, 6, 7, 8, 9, 19, 20, 21, 28, 29, 30] [10, 11, 12, 13, 14, 15, 16, 17, 18, 22, 23, 24, 25, 26, 27] rfl rfl rfl (by decide) (fun r_45 u_46 H locs h_47 hP hD hS => ?_)
              obtain ⟨um_48, uf_49, us_50⟩ := u_46
              have hP : va_P g.1 vwCl [(oX5 t0_0 t1_0 t2_0 pw_0), (aI g t1_0 6 pd_0), (aI g t2_0 36 wb_0), (oX5 t0_1 t1_1 t2_1 pw_1), (aI g t1_1 6 pd_1), (aI g t2_1 36 wb_1), (oX5 t0_2 t1_2 t2_2 pw_2), (aI g t1_2 6 pd_2), (aI g t2_2 36 wb_2), (oX5 t0_4 t1_4 t2_4 pw_4), (aI g t1_4 6 pd_4), (aI g t2_4 36 wb_4), (oX5 t0_5 t1_5 t2_5 pw_5), (aI g t1_5 6 pd_5), (aI g t2_5 36 wb_5), (oX10 x0 y0 ta z0 p0 dr pa (nI nt) s0 im ki tr v0 rf), (oX4 tr r0 r1 um_48), (aI g r0 24 uf_49), (aI g r1 6 us_50), (oX6 p0 p1 p2 p3 p4 (nI w)), (aI g p1 24 sd), (aI g p2 10 fn), (aI g p3 6 st), (aI g p4 6 me), (aP g pa 7 pf), (oX5 t0_3 t1_3 t2_3 pw_3), (aI g t1_3 6 pd_3), (aI g t2_3 36 wb_3), (oX8 s0 h0 a0 b0 e0), (oX4 h0 q0 q1 mo), (aI g q0 24 f)] H := hP
              have hD : va_D A [(oX5 t0_0 t1_0 t2_0 pw_0), (aI g t1_0 6 pd_0), (aI g t2_0 36 wb_0), (oX5 t0_1 t1_1 t2_1 pw_1), (aI g t1_1 6 pd_1), (aI g t2_1 36 wb_1), (oX5 t0_2 t1_2 t2_2 pw_2), (aI g t1_2 6 pd_2), (aI g t2_2 36 wb_2), (oX5 t0_4 t1_4 t2_4 pw_4), (aI g t1_4 6 pd_4), (aI g t2_4 36 wb_4), (oX5 t0_5 t1_5 t2_5 pw_5), (aI g t1_5 6 pd_5), (aI g t2_5 36 wb_5), (oX10 x0 y0 ta z0 p0 dr pa (nI nt) s0 im ki tr v0 rf), (oX4 tr r0 r1 um_48), (aI g r0 24 uf_49), (aI g r1 6 us_50), (oX6 p0 p1 p2 p3 p4 (nI w)), (aI g p1 24 sd), (aI g p2 10 fn), (aI g p3 6 st), (aI g p4 6 me), (aP g pa 7 pf), (oX5 t0_3 t1_3 t2_3 pw_3), (aI g t1_3 6 pd_3), (aI g t2_3 36 wb_3), (oX8 s0 h0 a0 b0 e0), (oX4 h0 q0 q1 mo), (aI g q0 24 f)] := hD
              refine lv_istore (lv' := [(6, .int r_45), (0, .ref x0), (1, .int (nI n)), (2, .int wh), (3, .int bp), (4, .int ms), (5, .int 3)]) hx hb dX10_best_52 hl (by decide) rfl (fun ls hl => ?_)
              refine lv_iload hx hb dX10_best_54 (lv_at hl 0 rfl) ?_
              refine lv_iload hx hb dX10_best_56 (lv_at hl 5 rfl) ?_
              refine lv_icmp_le (tgt := 68) hx hb dX10_best_58 (by decide) (fun c_51 => ?_) (fun c_51 => ?_)
              · refine lv_iinc (v := 4) (lv' := [(5, .int 4), (6, .int r_45), (0, .ref x0), (1, .int (nI n)), (2, .int wh), (3, .int bp), (4, .int ms)]) hx hb dX10_best_68 hl (k := 6) rfl (by decide) (by decide) rfl (fun ls hl => ?_)
                refine lv_goto (tgt := 36) hx hb dX10_best_71 (by decide) ?_
                exact ih36 4 bp ms um_48 uf_49 us_50 (by omega) (by omega) _ _ _ (hP.sub [15, 16, 17, 18, 19, 20, 21, 22, 23, 24, 0, 1, 2, 3, 4, 5, 6, 7, 8, 25, 26, 27, 9, 10, 11, 12, 13, 14, 28, 29, 30] rfl) (hD.sub [15, 16, 17, 18, 19, 20, 21, 22, 23, 24, 0, 1, 2, 3, 4, 5, 6, 7, 8, 25, 26, 27, 9, 10, 11, 12, 13, 14, 28, 29, 30] (by decide) rfl) hS (lv_sub hl [2, 3, 4, 5, 6, 0] rfl)
              · refine lv_iload hx hb dX10_best_61 (lv_at hl 0 rfl) ?_
                refine lv_istore (lv' := [(4, .int r_45), (6, .int r_45), (0, .ref x0), (1, .int (nI n)), (2, .int wh), (3, .int bp), (5, .int 3)]) hx hb dX10_best_63 hl (by decide) rfl (fun ls hl => ?_)
                refine lv_iload hx hb dX10_best_65 (lv_at hl 6 rfl) ?_
                refine lv_istore_n (lv' := [(3, .int 3), (4, .int r_45), (6, .int r_45), (0, .ref x0), (1, .int (nI n)), (2, .int wh), (5, .int 3)]) hx hb dX10_best_67 rfl hl (by decide) rfl (fun ls hl => ?_)
                refine lv_iinc (v := 4) (lv' := [(5, .int 4), (3, .int 3), (4, .int r_45), (6, .int r_45), (0, .ref x0), (1, .int (nI n)), (2, .int wh)]) hx hb dX10_best_68 hl (k := 6) rfl (by decide) (by decide) rfl (fun ls hl => ?_)
                refine lv_goto (tgt := 36) hx hb dX10_best_71 (by decide) ?_
                exact ih36 4 3 r_45 um_48 uf_49 us_50 (by omega) (by omega) _ _ _ (hP.sub [15, 16, 17, 18, 19, 20, 21, 22, 23, 24, 0, 1, 2, 3, 4, 5, 6, 7, 8, 25, 26, 27, 9, 10, 11, 12, 13, 14, 28, 29, 30] rfl) (hD.sub [15, 16, 17, 18, 19, 20, 21, 22, 23, 24, 0, 1, 2, 3, 4, 5, 6, 7, 8, 25, 26, 27, 9, 10, 11, 12, 13, 14, 28, 29, 30] (by decide) rfl) hS (lv_sub hl [4, 5, 6, 1, 2, 0] rfl)
            · skip
              refine lv_aload_n hx hb dX10_best_45 rfl (lv_at hl 0 rfl) ?_
              refine lv_iload hx hb dX10_best_46 (lv_at hl 5 rfl) ?_
              refine lv_iload_n hx hb dX10_best_48 rfl (lv_at hl 1 rfl) ?_
              refine he_ci (wc := [(oX10 x0 y0 ta z0 p0 dr pa (nI nt) s0 im ki tr v0 rf), (oX4 tr r0 r1 mj), (aI g r0 24 F), (aI g r1 6 G), (oX6 p0 p1 p2 p3 p4 (nI w)), (aI g p1 24 sd), (aI g p2 10 fn), (aI g p3 6 st), (aI g p4 6 me), (aP g pa 7 pf), (oX5 t0_4 t1_4 t2_4 pw_4), (aI g t1_4 6 pd_4), (aI g t2_4 36 wb_4), (oX8 s0 h0 a0 b0 e0), (oX4 h0 q0 q1 mo), (aI g q0 24 f)]) (wr := [(oX5 t0_0 t1_0 t2_0 pw_0), (aI g t1_0 6 pd_0), (aI g t2_0 36 wb_0), (oX5 t0_1 t1_1 t2_1 pw_1), (aI g t1_1 6 pd_1), (aI g t2_1 36 wb_1), (oX5 t0_2 t1_2 t2_2 pw_2), (aI g t1_2 6 pd_2), (aI g t2_2 36 wb_2), (oX5 t0_3 t1_3 t2_3 pw_3), (aI g t1_3 6 pd_3), (aI g t2_3 36 wb_3), (oX5 t0_5 t1_5 t2_5 pw_5), (aI g t1_5 6 pd_5), (aI g t2_5 36 wb_5)]) (va_runV (As := [.int 4, .int (nI n)]) (rest := []) ⟨hx, hb, hml, hown, hts⟩ (g_X10_trySigned l g x0 y0 z0 dr pa s0 im tr v0 rf ta (nI nt) ki p0 p1 p2 p3 p4 w sd fn st me a0 b0 e0 h0 q0 q1 mo f r0 r1 mj F G n pf t0_4 t1_4 t2_4 pw_4 pd_4 wb_4 ck_4 4 (by first | assumption | decide | omega) hwb4 hck4 hc94 (by decide) hpf4 hn2 H.size) (cwV 2 hts gX10_best_X10_trySigned rfl rfl rfl (by decide +kernel) ⟨Nat.le_of_ble_eq_true rfl, Nat.le_of_ble_eq_true rfl⟩) (he_preV (wc := [(oX10 x0 y0 ta z0 p0 dr pa (nI nt) s0 im ki tr v0 rf), (oX4 tr r0 r1 mj), (aI g r0 24 F), (aI g r1 6 G), (oX6 p0 p1 p2 p3 p4 (nI w)), (aI g p1 24 sd), (aI g p2 10 fn), (aI g p3 6 st), (aI g p4 6 me), (aP g pa 7 pf), (oX5 t0_4 t1_4 t2_4 pw_4), (aI g t1_4 6 pd_4), (aI g t2_4 36 wb_4), (oX8 s0 h0 a0 b0 e0), (oX4 h0 q0 q1 mo), (aI g q0 24 f)]) hK hP hD hS hA hE [0, 1, 2, 3, 4, 5, 6, 7, 8, 9, 22, 23, 24, 28, 29, 30] rfl rfl 0 rfl rfl) rfl rfl hl.1 rfl (lv_room (Nat.le_of_ble_eq_true rfl)) dX10_best_49 ⟨(Nat.le_of_ble_eq_true rfl), (Nat.le_of_ble_eq_true rfl)⟩) hP hD hS hA [0, 1, 2, 3, 4, 5, 6, 7, 8, 9, 22, 23, 24, 28, 29, 30] [10, 11, 12, 13, 14, 15, 16, 17, 18, 19, 20, 21, 25, 26, 27] rfl rfl rfl (by decide) (fun r_52 u_53 H locs h_54 hP hD hS => ?_)
              obtain ⟨um_55, uf_56, us_57⟩ := u_53
              have hP : va_P g.1 vwCl [(oX5 t0_0 t1_0 t2_0 pw_0), (aI g t1_0 6 pd_0), (aI g t2_0 36 wb_0), (oX5 t0_1 t1_1 t2_1 pw_1), (aI g t1_1 6 pd_1), (aI g t2_1 36 wb_1), (oX5 t0_2 t1_2 t2_2 pw_2), (aI g t1_2 6 pd_2), (aI g t2_2 36 wb_2), (oX5 t0_3 t1_3 t2_3 pw_3), (aI g t1_3 6 pd_3), (aI g t2_3 36 wb_3), (oX5 t0_5 t1_5 t2_5 pw_5), (aI g t1_5 6 pd_5), (aI g t2_5 36 wb_5), (oX10 x0 y0 ta z0 p0 dr pa (nI nt) s0 im ki tr v0 rf), (oX4 tr r0 r1 um_55), (aI g r0 24 uf_56), (aI g r1 6 us_57), (oX6 p0 p1 p2 p3 p4 (nI w)), (aI g p1 24 sd), (aI g p2 10 fn), (aI g p3 6 st), (aI g p4 6 me), (aP g pa 7 pf), (oX5 t0_4 t1_4 t2_4 pw_4), (aI g t1_4 6 pd_4), (aI g t2_4 36 wb_4), (oX8 s0 h0 a0 b0 e0), (oX4 h0 q0 q1 mo), (aI g q0 24 f)] H := hP
              have hD : va_D A [(oX5 t0_0 t1_0 t2_0 pw_0), (aI g t1_0 6 pd_0), (aI g t2_0 36 wb_0), (oX5 t0_1 t1_1 t2_1 pw_1), (aI g t1_1 6 pd_1), (aI g t2_1 36 wb_1), (oX5 t0_2 t1_2 t2_2 pw_2), (aI g t1_2 6 pd_2), (aI g t2_2 36 wb_2), (oX5 t0_3 t1_3 t2_3 pw_3), (aI g t1_3 6 pd_3), (aI g t2_3 36 wb_3), (oX5 t0_5 t1_5 t2_5 pw_5), (aI g t1_5 6 pd_5), (aI g t2_5 36 wb_5), (oX10 x0 y0 ta z0 p0 dr pa (nI nt) s0 im ki tr v0 rf), (oX4 tr r0 r1 um_55), (aI g r0 24 uf_56), (aI g r1 6 us_57), (oX6 p0 p1 p2 p3 p4 (nI w)), (aI g p1 24 sd), (aI g p2 10 fn), (aI g p3 6 st), (aI g p4 6 me), (aP g pa 7 pf), (oX5 t0_4 t1_4 t2_4 pw_4), (aI g t1_4 6 pd_4), (aI g t2_4 36 wb_4), (oX8 s0 h0 a0 b0 e0), (oX4 h0 q0 q1 mo), (aI g q0 24 f)] := hD
              refine lv_istore (lv' := [(6, .int r_52), (0, .ref x0), (1, .int (nI n)), (2, .int wh), (3, .int bp), (4, .int ms), (5, .int 4)]) hx hb dX10_best_52 hl (by decide) rfl (fun ls hl => ?_)
              refine lv_iload hx hb dX10_best_54 (lv_at hl 0 rfl) ?_
              refine lv_iload hx hb dX10_best_56 (lv_at hl 5 rfl) ?_
              refine lv_icmp_le (tgt := 68) hx hb dX10_best_58 (by decide) (fun c_58 => ?_) (fun c_58 => ?_)
              · refine lv_iinc (v := 5) (lv' := [(5, .int 5), (6, .int r_52), (0, .ref x0), (1, .int (nI n)), (2, .int wh), (3, .int bp), (4, .int ms)]) hx hb dX10_best_68 hl (k := 6) rfl (by decide) (by decide) rfl (fun ls hl => ?_)
                refine lv_goto (tgt := 36) hx hb dX10_best_71 (by decide) ?_
                exact ih36 5 bp ms um_55 uf_56 us_57 (by omega) (by omega) _ _ _ (hP.sub [15, 16, 17, 18, 19, 20, 21, 22, 23, 24, 0, 1, 2, 3, 4, 5, 6, 7, 8, 9, 10, 11, 25, 26, 27, 12, 13, 14, 28, 29, 30] rfl) (hD.sub [15, 16, 17, 18, 19, 20, 21, 22, 23, 24, 0, 1, 2, 3, 4, 5, 6, 7, 8, 9, 10, 11, 25, 26, 27, 12, 13, 14, 28, 29, 30] (by decide) rfl) hS (lv_sub hl [2, 3, 4, 5, 6, 0] rfl)
              · refine lv_iload hx hb dX10_best_61 (lv_at hl 0 rfl) ?_
                refine lv_istore (lv' := [(4, .int r_52), (6, .int r_52), (0, .ref x0), (1, .int (nI n)), (2, .int wh), (3, .int bp), (5, .int 4)]) hx hb dX10_best_63 hl (by decide) rfl (fun ls hl => ?_)
                refine lv_iload hx hb dX10_best_65 (lv_at hl 6 rfl) ?_
                refine lv_istore_n (lv' := [(3, .int 4), (4, .int r_52), (6, .int r_52), (0, .ref x0), (1, .int (nI n)), (2, .int wh), (5, .int 4)]) hx hb dX10_best_67 rfl hl (by decide) rfl (fun ls hl => ?_)
                refine lv_iinc (v := 5) (lv' := [(5, .int 5), (3, .int 4), (4, .int r_52), (6, .int r_52), (0, .ref x0), (1, .int (nI n)), (2, .int wh)]) hx hb dX10_best_68 hl (k := 6) rfl (by decide) (by decide) rfl (fun ls hl => ?_)
                refine lv_goto (tgt := 36) hx hb dX10_best_71 (by decide) ?_
                exact ih36 5 4 r_52 um_55 uf_56 us_57 (by omega) (by omega) _ _ _ (hP.sub [15, 16, 17, 18, 19, 20, 21, 22, 23, 24, 0, 1, 2, 3, 4, 5, 6, 7, 8, 9, 10, 11, 25, 26, 27, 12, 13, 14, 28, 29, 30] rfl) (hD.sub [15, 16, 17, 18, 19, 20, 21, 22, 23, 24, 0, 1, 2, 3, 4, 5, 6, 7, 8, 9, 10, 11, 25, 26, 27, 12, 13, 14, 28, 29, 30] (by decide) rfl) hS (lv_sub hl [4, 5, 6, 1, 2, 0] rfl)
            · skip
              refine lv_aload_n hx hb dX10_best_45 rfl (lv_at hl 0 rfl) ?_
              refine lv_iload hx hb dX10_best_46 (lv_at hl 5 rfl) ?_
              refine lv_iload_n hx hb dX10_best_48 rfl (lv_at hl 1 rfl) ?_
              refine he_ci (wc := [(oX10 x0 y0 ta z0 p0 dr pa (nI nt) s0 im ki tr v0 rf), (oX4 tr r0 r1 mj), (aI g r0 24 F), (aI g r1 6 G), (oX6 p0 p1 p2 p3 p4 (nI w)), (aI g p1 24 sd), (aI g p2 10 fn), (aI g p3 6 st), (aI g p4 6 me), (aP g pa 7 pf), (oX5 t0_5 t1_5 t2_5 pw_5), (aI g t1_5 6 pd_5), (aI g t2_5 36 wb_5), (oX8 s0 h0 a0 b0 e0), (oX4 h0 q0 q1 mo), (aI g q0 24 f)]) (wr := [(oX5 t0_0 t1_0 t2_0 pw_0), (aI g t1_0 6 pd_0), (aI g t2_0 36 wb_0), (oX5 t0_1 t1_1 t2_1 pw_1), (aI g t1_1 6 pd_1), (aI g t2_1 36 wb_1), (oX5 t0_2 t1_2 t2_2 pw_2), (aI g t1_2 6 pd_2), (aI g t2_2 36 wb_2), (oX5 t0_3 t1_3 t2_3 pw_3), (aI g t1_3 6 pd_3), (aI g t2_3 36 wb_3), (oX5 t0_4 t1_4 t2_4 pw_4), (aI g t1_4 6 pd_4), (aI g t2_4 36 wb_4)]) (va_runV (As := [.int 5, .int (nI n)]) (rest := []) ⟨hx, hb, hml, hown, hts⟩ (g_X10_trySigned l g x0 y0 z0 dr pa s0 im tr v0 rf ta (nI nt) ki p0 p1 p2 p3 p4 w sd fn st me a0 b0 e0 h0 q0 q1 mo f r0 r1 mj F G n pf t0_5 t1_5 t2_5 pw_5 pd_5 wb_5 ck_5 5 (by first | assumption | decide | omega) hwb5 hck5 hc95 (by decide) hpf5 hn2 H.size) (cwV 2 hts gX10_best_X10_trySigned rfl rfl rfl (by decide +kernel) ⟨Nat.le_of_ble_eq_true rfl, Nat.le_of_ble_eq_true rfl⟩) (he_preV (wc := [(oX10 x0 y0 ta z0 p0 dr pa (nI nt) s0 im ki tr v0 rf), (oX4 tr r0 r1 mj), (aI g r0 24 F), (aI g r1 6 G), (oX6 p0 p1 p2 p3 p4 (nI w)), (aI g p1 24 sd), (aI g p2 10 fn), (aI g p3 6 st), (aI g p4 6 me), (aP g pa 7 pf), (oX5 t0_5 t1_5 t2_5 pw_5), (aI g t1_5 6 pd_5), (aI g t2_5 36 wb_5), (oX8 s0 h0 a0 b0 e0), (oX4 h0 q0 q1 mo), (aI g q0 24 f)]) hK hP hD hS hA hE [0, 1, 2, 3, 4, 5, 6, 7, 8, 9, 25, 26, 27, 28, 29, 30] rfl rfl 0 rfl rfl) rfl rfl hl.1 rfl (lv_room (Nat.le_of_ble_eq_true rfl)) dX10_best_49 ⟨(Nat.le_of_ble_eq_true rfl), (Nat.le_of_ble_eq_true rfl)⟩) hP hD hS hA [0, 1, 2, 3, 4, 5, 6, 7, 8, 9, 25, 26, 27, 28, 29, 30] [10, 11, 12, 13, 14, 15, 16, 17, 18, 19, 20, 21, 22, 23, 24] rfl rfl rfl (by decide) (fun r_59 u_60 H locs h_61 hP hD hS => ?_)
              obtain ⟨um_62, uf_63, us_64⟩ := u_60
              have hP : va_P g.1 vwCl [(oX5 t0_0 t1_0 t2_0 pw_0), (aI g t1_0 6 pd_0), (aI g t2_0 36 wb_0), (oX5 t0_1 t1_1 t2_1 pw_1), (aI g t1_1 6 pd_1), (aI g t2_1 36 wb_1), (oX5 t0_2 t1_2 t2_2 pw_2), (aI g t1_2 6 pd_2), (aI g t2_2 36 wb_2), (oX5 t0_3 t1_3 t2_3 pw_3), (aI g t1_3 6 pd_3), (aI g t2_3 36 wb_3), (oX5 t0_4 t1_4 t2_4 pw_4), (aI g t1_4 6 pd_4), (aI g t2_4 36 wb_4), (oX10 x0 y0 ta z0 p0 dr pa (nI nt) s0 im ki tr v0 rf), (oX4 tr r0 r1 um_62), (aI g r0 24 uf_63), (aI g r1 6 us_64), (oX6 p0 p1 p2 p3 p4 (nI w)), (aI g p1 24 sd), (aI g p2 10 fn), (aI g p3 6 st), (aI g p4 6 me), (aP g pa 7 pf), (oX5 t0_5 t1_5 t2_5 pw_5), (aI g t1_5 6 pd_5), (aI g t2_5 36 wb_5), (oX8 s0 h0 a0 b0 e0), (oX4 h0 q0 q1 mo), (aI g q0 24 f)] H := hP
              have hD : va_D A [(oX5 t0_0 t1_0 t2_0 pw_0), (aI g t1_0 6 pd_0), (aI g t2_0 36 wb_0), (oX5 t0_1 t1_1 t2_1 pw_1), (aI g t1_1 6 pd_1), (aI g t2_1 36 wb_1), (oX5 t0_2 t1_2 t2_2 pw_2), (aI g t1_2 6 pd_2), (aI g t2_2 36 wb_2), (oX5 t0_3 t1_3 t2_3 pw_3), (aI g t1_3 6 pd_3), (aI g t2_3 36 wb_3), (oX5 t0_4 t1_4 t2_4 pw_4), (aI g t1_4 6 pd_4), (aI g t2_4 36 wb_4), (oX10 x0 y0 ta z0 p0 dr pa (nI nt) s0 im ki tr v0 rf), (oX4 tr r0 r1 um_62), (aI g r0 24 uf_63), (aI g r1 6 us_64), (oX6 p0 p1 p2 p3 p4 (nI w)), (aI g p1 24 sd), (aI g p2 10 fn), (aI g p3 6 st), (aI g p4 6 me), (aP g pa 7 pf), (oX5 t0_5 t1_5 t2_5 pw_5), (aI g t1_5 6 pd_5), (aI g t2_5 36 wb_5), (oX8 s0 h0 a0 b0 e0), (oX4 h0 q0 q1 mo), (aI g q0 24 f)] := hD
              refine lv_istore (lv' := [(6, .int r_59), (0, .ref x0), (1, .int (nI n)), (2, .int wh), (3, .int bp), (4, .int ms), (5, .int 5)]) hx hb dX10_best_52 hl (by decide) rfl (fun ls hl => ?_)
              refine lv_iload hx hb dX10_best_54 (lv_at hl 0 rfl) ?_
              refine lv_iload hx hb dX10_best_56 (lv_at hl 5 rfl) ?_
              refine lv_icmp_le (tgt := 68) hx hb dX10_best_58 (by decide) (fun c_65 => ?_) (fun c_65 => ?_)
              · refine lv_iinc (v := 6) (lv' := [(5, .int 6), (6, .int r_59), (0, .ref x0), (1, .int (nI n)), (2, .int wh), (3, .int bp), (4, .int ms)]) hx hb dX10_best_68 hl (k := 6) rfl (by decide) (by decide) rfl (fun ls hl => ?_)
                refine lv_goto (tgt := 36) hx hb dX10_best_71 (by decide) ?_
                exact ih36 6 bp ms um_62 uf_63 us_64 (by omega) (by omega) _ _ _ (hP.sub [15, 16, 17, 18, 19, 20, 21, 22, 23, 24, 0, 1, 2, 3, 4, 5, 6, 7, 8, 9, 10, 11, 12, 13, 14, 25, 26, 27, 28, 29, 30] rfl) (hD.sub [15, 16, 17, 18, 19, 20, 21, 22, 23, 24, 0, 1, 2, 3, 4, 5, 6, 7, 8, 9, 10, 11, 12, 13, 14, 25, 26, 27, 28, 29, 30] (by decide) rfl) hS (lv_sub hl [2, 3, 4, 5, 6, 0] rfl)
              · refine lv_iload hx hb dX10_best_61 (lv_at hl 0 rfl) ?_
                refine lv_istore (lv' := [(4, .int r_59), (6, .int r_59), (0, .ref x0), (1, .int (nI n)), (2, .int wh), (3, .int bp), (5, .int 5)]) hx hb dX10_best_63 hl (by decide) rfl (fun ls hl => ?_)
                refine lv_iload hx hb dX10_best_65 (lv_at hl 6 rfl) ?_
                refine lv_istore_n (lv' := [(3, .int 5), (4, .int r_59), (6, .int r_59), (0, .ref x0), (1, .int (nI n)), (2, .int wh), (5, .int 5)]) hx hb dX10_best_67 rfl hl (by decide) rfl (fun ls hl => ?_)
                refine lv_iinc (v := 6) (lv' := [(5, .int 6), (3, .int 5), (4, .int r_59), (6, .int r_59), (0, .ref x0), (1, .int (nI n)), (2, .int wh)]) hx hb dX10_best_68 hl (k := 6) rfl (by decide) (by decide) rfl (fun ls hl => ?_)
                refine lv_goto (tgt := 36) hx hb dX10_best_71 (by decide) ?_
                exact ih36 6 5 r_59 um_62 uf_63 us_64 (by omega) (by omega) _ _ _ (hP.sub [15, 16, 17, 18, 19, 20, 21, 22, 23, 24, 0, 1, 2, 3, 4, 5, 6, 7, 8, 9, 10, 11, 12, 13, 14, 25, 26, 27, 28, 29, 30] rfl) (hD.sub [15, 16, 17, 18, 19, 20, 21, 22, 23, 24, 0, 1, 2, 3, 4, 5, 6, 7, 8, 9, 10, 11, 12, 13, 14, 25, 26, 27, 28, 29, 30] (by decide) rfl) hS (lv_sub hl [4, 5, 6, 1, 2, 0] rfl)
      exact loop36 ((nt - 0) + 1) 0 (-1) (-1) mo1 f1 sh (Nat.lt_succ_self _) (Nat.zero_le _) _ _ _ hP hD hS (lv_sub hl [3, 4, 5, 2, 1, 0] rfl)
set_option maxHeartbeats 4000000 in
set_option maxRecDepth 100000 in
theorem g_X10_toldX (l : Launch) (g : he_G) (x0 : Nat) (y0 : Nat) (z0 : Nat) (p0 : Nat) (dr : Nat) (pa : Nat) (s0 : Nat) (im : Nat) (tr : Nat) (v0 : Nat) (rf : Nat) (ta : Int32) (to_ : Int32) (ki : Int32) (rc : Nat → Int32) (x : Int32) (hlt : l.stackTraces = false) (hbad : he_within x 0 4 = 0) : he_T he_QTi l yX10_told wsX10_told 7 103 1 6 g [.ref x0, .int x] [(oX10 x0 y0 ta z0 p0 dr pa to_ s0 im ki tr v0 rf), (aI g rf 3 rc)] "java/lang/IllegalArgumentException" [(oX10 x0 y0 ta z0 p0 dr pa to_ s0 im ki tr v0 rf), (aI g rf 3 (upd rc 2 (rc 2 + 1)))] := by
  refine he_beginX (l := l) (g := g) (y := yX10_told) (wl := wsX10_told) (fr := 7) (lo := 103) (mc := 1) (ms := 6) (av := [.ref x0, .int x]) (ws := [(oX10 x0 y0 ta z0 p0 dr pa to_ s0 im ki tr v0 rf), (aI g rf 3 rc)]) (cc := cX10_told) (maxL := 4) (ret := (some .int)) he_QTi (by decide) rfl (Nat.le_of_ble_eq_true rfl) ?_
  intro p e s m args below meth c A ls H locs Q hQ hne hB
  obtain ⟨hx, hb, hr, hml, hown, hts, hlk, hin, hP, hK, hD, hS, hA, hE, hl⟩ := hB
  have hl : lv_has ls 4 [(0, .ref x0), (1, .int x)] := hl
  refine lv_aload_n hx hb dX10_told_0 rfl (lv_at hl 0 rfl) ?_
  refine lv_iload_n hx hb dX10_told_1 rfl (lv_at hl 1 rfl) ?_
  refine lv_iconst (v := 0) hx hb dX10_told_2 (by decide) ?_
  refine lv_iconst (v := 4) hx hb dX10_told_3 (by decide) ?_
  refine he_ci (wc := []) (wr := [(oX10 x0 y0 ta z0 p0 dr pa to_ s0 im ki tr v0 rf), (aI g rf 3 rc)]) (va_runS (As := [.int x, .int 0, .int 4]) (rest := [.ref x0]) ⟨hx, hb, hml, hown, hts⟩ (c_X10_within l g x 0 4 H.size) (va_cwS 3 hts gX10_told_X10_within rfl rfl rfl (by decide +kernel) ⟨Nat.le_of_ble_eq_true rfl, Nat.le_of_ble_eq_true rfl⟩) (he_preS (wc := []) hK hP hD hS hA hE [] rfl rfl) rfl rfl hl.1 rfl (lv_room (Nat.le_of_ble_eq_true rfl)) dX10_told_4 ⟨(Nat.le_of_ble_eq_true rfl), (Nat.le_of_ble_eq_true rfl)⟩) hP hD hS hA [] [0, 1] rfl rfl rfl (by decide) (fun r_1 u_2 H locs h_3 hP hD hS => ?_)
  subst h_3
  have hP : va_P g.1 vwCl [(oX10 x0 y0 ta z0 p0 dr pa to_ s0 im ki tr v0 rf), (aI g rf 3 rc)] H := hP
  have hD : va_D A [(oX10 x0 y0 ta z0 p0 dr pa to_ s0 im ki tr v0 rf), (aI g rf 3 rc)] := hD
  refine he_top (0) hbad ?_
  refine he_xv (En := "java/lang/IllegalArgumentException") (wx := [(oX10 x0 y0 ta z0 p0 dr pa to_ s0 im ki tr v0 rf), (aI g rf 3 (upd rc 2 (rc 2 + 1)))]) (wc := [(oX10 x0 y0 ta z0 p0 dr pa to_ s0 im ki tr v0 rf), (aI g rf 3 rc)]) (wr := []) (vx_runV (As := [.int 0]) (rest := []) ⟨hx, hb, hml, hown, hts⟩ (g_X10_demand0 l g x0 y0 z0 p0 dr pa s0 im tr v0 rf ta to_ ki rc hlt H.size) (cwV 1 hts gX10_told_X10_demand rfl rfl rfl (by decide +kernel) ⟨Nat.le_of_ble_eq_true rfl, Nat.le_of_ble_eq_true rfl⟩) (he_preV (wc := [(oX10 x0 y0 ta z0 p0 dr pa to_ s0 im ki tr v0 rf), (aI g rf 3 rc)]) hK hP hD hS hA hE [0, 1] rfl rfl 0 rfl rfl) rfl rfl hl.1 rfl (lv_room (Nat.le_of_ble_eq_true rfl)) dX10_told_7 ⟨(Nat.le_of_ble_eq_true rfl), (Nat.le_of_ble_eq_true rfl)⟩) hP hD hS hA [0, 1] [] rfl rfl rfl (by decide) (fun ce q9 H locs hP hD hS hce hcv hcl => ?_)
  have hP : va_P g.1 vwCl [(oX10 x0 y0 ta z0 p0 dr pa to_ s0 im ki tr v0 rf), (aI g rf 3 (upd rc 2 (rc 2 + 1)))] H := hP
  have hD : va_D A [(oX10 x0 y0 ta z0 p0 dr pa to_ s0 im ki tr v0 rf), (aI g rf 3 (upd rc 2 (rc 2 + 1)))] := hD
  exact he_out hQ hlk hne hP hD hS hce hcv hcl (Nat.le_of_ble_eq_true rfl) (Nat.le_of_ble_eq_true rfl)
set_option maxHeartbeats 4000000 in
set_option maxRecDepth 100000 in
theorem g_X10_wantsX (l : Launch) (g : he_G) (x0 : Nat) (y0 : Nat) (z0 : Nat) (p0 : Nat) (dr : Nat) (pa : Nat) (s0 : Nat) (im : Nat) (tr : Nat) (v0 : Nat) (rf : Nat) (ta : Int32) (to_ : Int32) (ki : Int32) (rc : Nat → Int32) (x : Int32) (y : Int32) (hlt : l.stackTraces = false) (hbad : he_within x 0 9 = 0 ∨ he_within y 0 99 = 0) : he_T he_QTi l yX10_wants wsX10_wants 7 103 1 6 g [.ref x0, .int x, .int y] [(oX10 x0 y0 ta z0 p0 dr pa to_ s0 im ki tr v0 rf), (aI g rf 3 rc)] "java/lang/IllegalArgumentException" [(oX10 x0 y0 ta z0 p0 dr pa to_ s0 im ki tr v0 rf), (aI g rf 3 (upd rc 2 (rc 2 + 1)))] := by
  refine he_beginX (l := l) (g := g) (y := yX10_wants) (wl := wsX10_wants) (fr := 7) (lo := 103) (mc := 1) (ms := 6) (av := [.ref x0, .int x, .int y]) (ws := [(oX10 x0 y0 ta z0 p0 dr pa to_ s0 im ki tr v0 rf), (aI g rf 3 rc)]) (cc := cX10_wants) (maxL := 3) (ret := (some .int)) he_QTi (by decide) rfl (Nat.le_of_ble_eq_true rfl) ?_
  intro p e s m args below meth c A ls H locs Q hQ hne hB
  obtain ⟨hx, hb, hr, hml, hown, hts, hlk, hin, hP, hK, hD, hS, hA, hE, hl⟩ := hB
  have hl : lv_has ls 3 [(0, .ref x0), (1, .int x), (2, .int y)] := hl
  refine lv_aload_n hx hb dX10_wants_0 rfl (lv_at hl 0 rfl) ?_
  refine lv_iload_n hx hb dX10_wants_1 rfl (lv_at hl 1 rfl) ?_
  refine lv_iconst (v := 0) hx hb dX10_wants_2 (by decide) ?_
  refine lv_bipush (v := 9) hx hb dX10_wants_3 (by decide) ?_
  refine he_ci (wc := []) (wr := [(oX10 x0 y0 ta z0 p0 dr pa to_ s0 im ki tr v0 rf), (aI g rf 3 rc)]) (va_runS (As := [.int x, .int 0, .int 9]) (rest := [.ref x0]) ⟨hx, hb, hml, hown, hts⟩ (c_X10_within l g x 0 9 H.size) (va_cwS 3 hts gX10_wants_X10_within rfl rfl rfl (by decide +kernel) ⟨Nat.le_of_ble_eq_true rfl, Nat.le_of_ble_eq_true rfl⟩) (he_preS (wc := []) hK hP hD hS hA hE [] rfl rfl) rfl rfl hl.1 rfl (lv_room (Nat.le_of_ble_eq_true rfl)) dX10_wants_5 ⟨(Nat.le_of_ble_eq_true rfl), (Nat.le_of_ble_eq_true rfl)⟩) hP hD hS hA [] [0, 1] rfl rfl rfl (by decide) (fun r_1 u_2 H locs h_3 hP hD hS => ?_)
  subst h_3
  have hP : va_P g.1 vwCl [(oX10 x0 y0 ta z0 p0 dr pa to_ s0 im ki tr v0 rf), (aI g rf 3 rc)] H := hP
  have hD : va_D A [(oX10 x0 y0 ta z0 p0 dr pa to_ s0 im ki tr v0 rf), (aI g rf 3 rc)] := hD
  refine lv_if_eq (tgt := 25) hx hb dX10_wants_8 (by decide) (fun c_4 => ?_) (fun c_4 => ?_)
  · refine lv_iconst (v := 0) hx hb dX10_wants_25 (by decide) ?_
    refine he_xv (En := "java/lang/IllegalArgumentException") (wx := [(oX10 x0 y0 ta z0 p0 dr pa to_ s0 im ki tr v0 rf), (aI g rf 3 (upd rc 2 (rc 2 + 1)))]) (wc := [(oX10 x0 y0 ta z0 p0 dr pa to_ s0 im ki tr v0 rf), (aI g rf 3 rc)]) (wr := []) (vx_runV (As := [.int 0]) (rest := []) ⟨hx, hb, hml, hown, hts⟩ (g_X10_demand0 l g x0 y0 z0 p0 dr pa s0 im tr v0 rf ta to_ ki rc hlt H.size) (cwV 1 hts gX10_wants_X10_demand rfl rfl rfl (by decide +kernel) ⟨Nat.le_of_ble_eq_true rfl, Nat.le_of_ble_eq_true rfl⟩) (he_preV (wc := [(oX10 x0 y0 ta z0 p0 dr pa to_ s0 im ki tr v0 rf), (aI g rf 3 rc)]) hK hP hD hS hA hE [0, 1] rfl rfl 0 rfl rfl) rfl rfl hl.1 rfl (lv_room (Nat.le_of_ble_eq_true rfl)) dX10_wants_26 ⟨(Nat.le_of_ble_eq_true rfl), (Nat.le_of_ble_eq_true rfl)⟩) hP hD hS hA [0, 1] [] rfl rfl rfl (by decide) (fun ce q9 H locs hP hD hS hce hcv hcl => ?_)
    have hP : va_P g.1 vwCl [(oX10 x0 y0 ta z0 p0 dr pa to_ s0 im ki tr v0 rf), (aI g rf 3 (upd rc 2 (rc 2 + 1)))] H := hP
    have hD : va_D A [(oX10 x0 y0 ta z0 p0 dr pa to_ s0 im ki tr v0 rf), (aI g rf 3 (upd rc 2 (rc 2 + 1)))] := hD
    exact he_out hQ hlk hne hP hD hS hce hcv hcl (Nat.le_of_ble_eq_true rfl) (Nat.le_of_ble_eq_true rfl)
  · refine lv_iload_n hx hb dX10_wants_11 rfl (lv_at hl 2 rfl) ?_
    refine lv_iconst (v := 0) hx hb dX10_wants_12 (by decide) ?_
    refine lv_bipush (v := 99) hx hb dX10_wants_13 (by decide) ?_
    refine he_ci (wc := []) (wr := [(oX10 x0 y0 ta z0 p0 dr pa to_ s0 im ki tr v0 rf), (aI g rf 3 rc)]) (va_runS (As := [.int y, .int 0, .int 99]) (rest := [.ref x0]) ⟨hx, hb, hml, hown, hts⟩ (c_X10_within l g y 0 99 H.size) (va_cwS 3 hts gX10_wants_X10_within rfl rfl rfl (by decide +kernel) ⟨Nat.le_of_ble_eq_true rfl, Nat.le_of_ble_eq_true rfl⟩) (he_preS (wc := []) hK hP hD hS hA hE [] rfl rfl) rfl rfl hl.1 rfl (lv_room (Nat.le_of_ble_eq_true rfl)) dX10_wants_15 ⟨(Nat.le_of_ble_eq_true rfl), (Nat.le_of_ble_eq_true rfl)⟩) hP hD hS hA [] [0, 1] rfl rfl rfl (by decide) (fun r_5 u_6 H locs h_7 hP hD hS => ?_)
    subst h_7
    have hP : va_P g.1 vwCl [(oX10 x0 y0 ta z0 p0 dr pa to_ s0 im ki tr v0 rf), (aI g rf 3 rc)] H := hP
    have hD : va_D A [(oX10 x0 y0 ta z0 p0 dr pa to_ s0 im ki tr v0 rf), (aI g rf 3 rc)] := hD
    refine lv_if_eq (tgt := 25) hx hb dX10_wants_18 (by decide) (fun c_8 => ?_) (fun c_8 => ?_)
    · refine lv_iconst (v := 0) hx hb dX10_wants_25 (by decide) ?_
      refine he_xv (En := "java/lang/IllegalArgumentException") (wx := [(oX10 x0 y0 ta z0 p0 dr pa to_ s0 im ki tr v0 rf), (aI g rf 3 (upd rc 2 (rc 2 + 1)))]) (wc := [(oX10 x0 y0 ta z0 p0 dr pa to_ s0 im ki tr v0 rf), (aI g rf 3 rc)]) (wr := []) (vx_runV (As := [.int 0]) (rest := []) ⟨hx, hb, hml, hown, hts⟩ (g_X10_demand0 l g x0 y0 z0 p0 dr pa s0 im tr v0 rf ta to_ ki rc hlt H.size) (cwV 1 hts gX10_wants_X10_demand rfl rfl rfl (by decide +kernel) ⟨Nat.le_of_ble_eq_true rfl, Nat.le_of_ble_eq_true rfl⟩) (he_preV (wc := [(oX10 x0 y0 ta z0 p0 dr pa to_ s0 im ki tr v0 rf), (aI g rf 3 rc)]) hK hP hD hS hA hE [0, 1] rfl rfl 0 rfl rfl) rfl rfl hl.1 rfl (lv_room (Nat.le_of_ble_eq_true rfl)) dX10_wants_26 ⟨(Nat.le_of_ble_eq_true rfl), (Nat.le_of_ble_eq_true rfl)⟩) hP hD hS hA [0, 1] [] rfl rfl rfl (by decide) (fun ce q9 H locs hP hD hS hce hcv hcl => ?_)
      have hP : va_P g.1 vwCl [(oX10 x0 y0 ta z0 p0 dr pa to_ s0 im ki tr v0 rf), (aI g rf 3 (upd rc 2 (rc 2 + 1)))] H := hP
      have hD : va_D A [(oX10 x0 y0 ta z0 p0 dr pa to_ s0 im ki tr v0 rf), (aI g rf 3 (upd rc 2 (rc 2 + 1)))] := hD
      exact he_out hQ hlk hne hP hD hS hce hcv hcl (Nat.le_of_ble_eq_true rfl) (Nat.le_of_ble_eq_true rfl)
    · refine lv_iconst (v := 1) hx hb dX10_wants_21 (by decide) ?_
      refine lv_goto (tgt := 26) hx hb dX10_wants_22 (by decide) ?_
      exact absurd hbad (by rintro (h9 | h9) <;> contradiction)
set_option maxHeartbeats 4000000 in
set_option maxRecDepth 100000 in
theorem g_X10_monthsX (l : Launch) (g : he_G) (x0 : Nat) (y0 : Nat) (z0 : Nat) (p0 : Nat) (dr : Nat) (pa : Nat) (s0 : Nat) (im : Nat) (tr : Nat) (v0 : Nat) (rf : Nat) (ta : Int32) (to_ : Int32) (ki : Int32) (rc : Nat → Int32) (x : Int32) (hlt : l.stackTraces = false) (hbad : he_within x 1 120 = 0) : he_T he_QTi l yX10_months wsX10_months 7 103 1 6 g [.ref x0, .int x] [(oX10 x0 y0 ta z0 p0 dr pa to_ s0 im ki tr v0 rf), (aI g rf 3 rc)] "java/lang/IllegalArgumentException" [(oX10 x0 y0 ta z0 p0 dr pa to_ s0 im ki tr v0 rf), (aI g rf 3 (upd rc 2 (rc 2 + 1)))] := by
  refine he_beginX (l := l) (g := g) (y := yX10_months) (wl := wsX10_months) (fr := 7) (lo := 103) (mc := 1) (ms := 6) (av := [.ref x0, .int x]) (ws := [(oX10 x0 y0 ta z0 p0 dr pa to_ s0 im ki tr v0 rf), (aI g rf 3 rc)]) (cc := cX10_months) (maxL := 3) (ret := (some .int)) he_QTi (by decide) rfl (Nat.le_of_ble_eq_true rfl) ?_
  intro p e s m args below meth c A ls H locs Q hQ hne hB
  obtain ⟨hx, hb, hr, hml, hown, hts, hlk, hin, hP, hK, hD, hS, hA, hE, hl⟩ := hB
  have hl : lv_has ls 3 [(0, .ref x0), (1, .int x)] := hl
  refine lv_aload_n hx hb dX10_months_0 rfl (lv_at hl 0 rfl) ?_
  refine lv_iload_n hx hb dX10_months_1 rfl (lv_at hl 1 rfl) ?_
  refine lv_iconst (v := 1) hx hb dX10_months_2 (by decide) ?_
  refine lv_bipush (v := 120) hx hb dX10_months_3 (by decide) ?_
  refine he_ci (wc := []) (wr := [(oX10 x0 y0 ta z0 p0 dr pa to_ s0 im ki tr v0 rf), (aI g rf 3 rc)]) (va_runS (As := [.int x, .int 1, .int 120]) (rest := [.ref x0]) ⟨hx, hb, hml, hown, hts⟩ (c_X10_within l g x 1 120 H.size) (va_cwS 3 hts gX10_months_X10_within rfl rfl rfl (by decide +kernel) ⟨Nat.le_of_ble_eq_true rfl, Nat.le_of_ble_eq_true rfl⟩) (he_preS (wc := []) hK hP hD hS hA hE [] rfl rfl) rfl rfl hl.1 rfl (lv_room (Nat.le_of_ble_eq_true rfl)) dX10_months_5 ⟨(Nat.le_of_ble_eq_true rfl), (Nat.le_of_ble_eq_true rfl)⟩) hP hD hS hA [] [0, 1] rfl rfl rfl (by decide) (fun r_1 u_2 H locs h_3 hP hD hS => ?_)
  subst h_3
  have hP : va_P g.1 vwCl [(oX10 x0 y0 ta z0 p0 dr pa to_ s0 im ki tr v0 rf), (aI g rf 3 rc)] H := hP
  have hD : va_D A [(oX10 x0 y0 ta z0 p0 dr pa to_ s0 im ki tr v0 rf), (aI g rf 3 rc)] := hD
  refine he_top (0) hbad ?_
  refine he_xv (En := "java/lang/IllegalArgumentException") (wx := [(oX10 x0 y0 ta z0 p0 dr pa to_ s0 im ki tr v0 rf), (aI g rf 3 (upd rc 2 (rc 2 + 1)))]) (wc := [(oX10 x0 y0 ta z0 p0 dr pa to_ s0 im ki tr v0 rf), (aI g rf 3 rc)]) (wr := []) (vx_runV (As := [.int 0]) (rest := []) ⟨hx, hb, hml, hown, hts⟩ (g_X10_demand0 l g x0 y0 z0 p0 dr pa s0 im tr v0 rf ta to_ ki rc hlt H.size) (cwV 1 hts gX10_months_X10_demand rfl rfl rfl (by decide +kernel) ⟨Nat.le_of_ble_eq_true rfl, Nat.le_of_ble_eq_true rfl⟩) (he_preV (wc := [(oX10 x0 y0 ta z0 p0 dr pa to_ s0 im ki tr v0 rf), (aI g rf 3 rc)]) hK hP hD hS hA hE [0, 1] rfl rfl 0 rfl rfl) rfl rfl hl.1 rfl (lv_room (Nat.le_of_ble_eq_true rfl)) dX10_months_8 ⟨(Nat.le_of_ble_eq_true rfl), (Nat.le_of_ble_eq_true rfl)⟩) hP hD hS hA [0, 1] [] rfl rfl rfl (by decide) (fun ce q9 H locs hP hD hS hce hcv hcl => ?_)
  have hP : va_P g.1 vwCl [(oX10 x0 y0 ta z0 p0 dr pa to_ s0 im ki tr v0 rf), (aI g rf 3 (upd rc 2 (rc 2 + 1)))] H := hP
  have hD : va_D A [(oX10 x0 y0 ta z0 p0 dr pa to_ s0 im ki tr v0 rf), (aI g rf 3 (upd rc 2 (rc 2 + 1)))] := hD
  exact he_out hQ hlk hne hP hD hS hce hcv hcl (Nat.le_of_ble_eq_true rfl) (Nat.le_of_ble_eq_true rfl)
set_option maxHeartbeats 4000000 in
set_option maxRecDepth 100000 in
theorem g_X10_undoX (l : Launch) (g : he_G) (x0 : Nat) (y0 : Nat) (z0 : Nat) (p0 : Nat) (dr : Nat) (pa : Nat) (s0 : Nat) (im : Nat) (tr : Nat) (v0 : Nat) (rf : Nat) (ta : Int32) (to_ : Int32) (ki : Int32) (rc : Nat → Int32) (x : Int32) (hlt : l.stackTraces = false) (hbad : he_within x 1 120 = 0) : he_T he_QTi l yX10_undo wsX10_undo 7 103 1 6 g [.ref x0, .int x] [(oX10 x0 y0 ta z0 p0 dr pa to_ s0 im ki tr v0 rf), (aI g rf 3 rc)] "java/lang/IllegalArgumentException" [(oX10 x0 y0 ta z0 p0 dr pa to_ s0 im ki tr v0 rf), (aI g rf 3 (upd rc 2 (rc 2 + 1)))] := by
  refine he_beginX (l := l) (g := g) (y := yX10_undo) (wl := wsX10_undo) (fr := 7) (lo := 103) (mc := 1) (ms := 6) (av := [.ref x0, .int x]) (ws := [(oX10 x0 y0 ta z0 p0 dr pa to_ s0 im ki tr v0 rf), (aI g rf 3 rc)]) (cc := cX10_undo) (maxL := 3) (ret := (some .int)) he_QTi (by decide) rfl (Nat.le_of_ble_eq_true rfl) ?_
  intro p e s m args below meth c A ls H locs Q hQ hne hB
  obtain ⟨hx, hb, hr, hml, hown, hts, hlk, hin, hP, hK, hD, hS, hA, hE, hl⟩ := hB
  have hl : lv_has ls 3 [(0, .ref x0), (1, .int x)] := hl
  refine lv_aload_n hx hb dX10_undo_0 rfl (lv_at hl 0 rfl) ?_
  refine lv_iload_n hx hb dX10_undo_1 rfl (lv_at hl 1 rfl) ?_
  refine lv_iconst (v := 1) hx hb dX10_undo_2 (by decide) ?_
  refine lv_bipush (v := 120) hx hb dX10_undo_3 (by decide) ?_
  refine he_ci (wc := []) (wr := [(oX10 x0 y0 ta z0 p0 dr pa to_ s0 im ki tr v0 rf), (aI g rf 3 rc)]) (va_runS (As := [.int x, .int 1, .int 120]) (rest := [.ref x0]) ⟨hx, hb, hml, hown, hts⟩ (c_X10_within l g x 1 120 H.size) (va_cwS 3 hts gX10_undo_X10_within rfl rfl rfl (by decide +kernel) ⟨Nat.le_of_ble_eq_true rfl, Nat.le_of_ble_eq_true rfl⟩) (he_preS (wc := []) hK hP hD hS hA hE [] rfl rfl) rfl rfl hl.1 rfl (lv_room (Nat.le_of_ble_eq_true rfl)) dX10_undo_5 ⟨(Nat.le_of_ble_eq_true rfl), (Nat.le_of_ble_eq_true rfl)⟩) hP hD hS hA [] [0, 1] rfl rfl rfl (by decide) (fun r_1 u_2 H locs h_3 hP hD hS => ?_)
  subst h_3
  have hP : va_P g.1 vwCl [(oX10 x0 y0 ta z0 p0 dr pa to_ s0 im ki tr v0 rf), (aI g rf 3 rc)] H := hP
  have hD : va_D A [(oX10 x0 y0 ta z0 p0 dr pa to_ s0 im ki tr v0 rf), (aI g rf 3 rc)] := hD
  refine he_top (0) hbad ?_
  refine he_xv (En := "java/lang/IllegalArgumentException") (wx := [(oX10 x0 y0 ta z0 p0 dr pa to_ s0 im ki tr v0 rf), (aI g rf 3 (upd rc 2 (rc 2 + 1)))]) (wc := [(oX10 x0 y0 ta z0 p0 dr pa to_ s0 im ki tr v0 rf), (aI g rf 3 rc)]) (wr := []) (vx_runV (As := [.int 0]) (rest := []) ⟨hx, hb, hml, hown, hts⟩ (g_X10_demand0 l g x0 y0 z0 p0 dr pa s0 im tr v0 rf ta to_ ki rc hlt H.size) (cwV 1 hts gX10_undo_X10_demand rfl rfl rfl (by decide +kernel) ⟨Nat.le_of_ble_eq_true rfl, Nat.le_of_ble_eq_true rfl⟩) (he_preV (wc := [(oX10 x0 y0 ta z0 p0 dr pa to_ s0 im ki tr v0 rf), (aI g rf 3 rc)]) hK hP hD hS hA hE [0, 1] rfl rfl 0 rfl rfl) rfl rfl hl.1 rfl (lv_room (Nat.le_of_ble_eq_true rfl)) dX10_undo_8 ⟨(Nat.le_of_ble_eq_true rfl), (Nat.le_of_ble_eq_true rfl)⟩) hP hD hS hA [0, 1] [] rfl rfl rfl (by decide) (fun ce q9 H locs hP hD hS hce hcv hcl => ?_)
  have hP : va_P g.1 vwCl [(oX10 x0 y0 ta z0 p0 dr pa to_ s0 im ki tr v0 rf), (aI g rf 3 (upd rc 2 (rc 2 + 1)))] H := hP
  have hD : va_D A [(oX10 x0 y0 ta z0 p0 dr pa to_ s0 im ki tr v0 rf), (aI g rf 3 (upd rc 2 (rc 2 + 1)))] := hD
  exact he_out hQ hlk hne hP hD hS hce hcv hcl (Nat.le_of_ble_eq_true rfl) (Nat.le_of_ble_eq_true rfl)
set_option maxHeartbeats 4000000 in
set_option maxRecDepth 100000 in
theorem g_X10_sumsX (l : Launch) (g : he_G) (x0 : Nat) (y0 : Nat) (z0 : Nat) (p0 : Nat) (dr : Nat) (pa : Nat) (s0 : Nat) (im : Nat) (tr : Nat) (v0 : Nat) (rf : Nat) (ta : Int32) (to_ : Int32) (ki : Int32) (rc : Nat → Int32) (x : Int32) (hlt : l.stackTraces = false) (hbad : he_within x 0 9 = 0) : he_T he_QTi l yX10_sums wsX10_sums 7 103 1 6 g [.ref x0, .int x] [(oX10 x0 y0 ta z0 p0 dr pa to_ s0 im ki tr v0 rf), (aI g rf 3 rc)] "java/lang/IllegalArgumentException" [(oX10 x0 y0 ta z0 p0 dr pa to_ s0 im ki tr v0 rf), (aI g rf 3 (upd rc 2 (rc 2 + 1)))] := by
  refine he_beginX (l := l) (g := g) (y := yX10_sums) (wl := wsX10_sums) (fr := 7) (lo := 103) (mc := 1) (ms := 6) (av := [.ref x0, .int x]) (ws := [(oX10 x0 y0 ta z0 p0 dr pa to_ s0 im ki tr v0 rf), (aI g rf 3 rc)]) (cc := cX10_sums) (maxL := 2) (ret := (some .int)) he_QTi (by decide) rfl (Nat.le_of_ble_eq_true rfl) ?_
  intro p e s m args below meth c A ls H locs Q hQ hne hB
  obtain ⟨hx, hb, hr, hml, hown, hts, hlk, hin, hP, hK, hD, hS, hA, hE, hl⟩ := hB
  have hl : lv_has ls 2 [(0, .ref x0), (1, .int x)] := hl
  refine lv_aload_n hx hb dX10_sums_0 rfl (lv_at hl 0 rfl) ?_
  refine lv_iload_n hx hb dX10_sums_1 rfl (lv_at hl 1 rfl) ?_
  refine lv_iconst (v := 0) hx hb dX10_sums_2 (by decide) ?_
  refine lv_bipush (v := 9) hx hb dX10_sums_3 (by decide) ?_
  refine he_ci (wc := []) (wr := [(oX10 x0 y0 ta z0 p0 dr pa to_ s0 im ki tr v0 rf), (aI g rf 3 rc)]) (va_runS (As := [.int x, .int 0, .int 9]) (rest := [.ref x0]) ⟨hx, hb, hml, hown, hts⟩ (c_X10_within l g x 0 9 H.size) (va_cwS 3 hts gX10_sums_X10_within rfl rfl rfl (by decide +kernel) ⟨Nat.le_of_ble_eq_true rfl, Nat.le_of_ble_eq_true rfl⟩) (he_preS (wc := []) hK hP hD hS hA hE [] rfl rfl) rfl rfl hl.1 rfl (lv_room (Nat.le_of_ble_eq_true rfl)) dX10_sums_5 ⟨(Nat.le_of_ble_eq_true rfl), (Nat.le_of_ble_eq_true rfl)⟩) hP hD hS hA [] [0, 1] rfl rfl rfl (by decide) (fun r_1 u_2 H locs h_3 hP hD hS => ?_)
  subst h_3
  have hP : va_P g.1 vwCl [(oX10 x0 y0 ta z0 p0 dr pa to_ s0 im ki tr v0 rf), (aI g rf 3 rc)] H := hP
  have hD : va_D A [(oX10 x0 y0 ta z0 p0 dr pa to_ s0 im ki tr v0 rf), (aI g rf 3 rc)] := hD
  refine he_top (0) hbad ?_
  refine he_xv (En := "java/lang/IllegalArgumentException") (wx := [(oX10 x0 y0 ta z0 p0 dr pa to_ s0 im ki tr v0 rf), (aI g rf 3 (upd rc 2 (rc 2 + 1)))]) (wc := [(oX10 x0 y0 ta z0 p0 dr pa to_ s0 im ki tr v0 rf), (aI g rf 3 rc)]) (wr := []) (vx_runV (As := [.int 0]) (rest := []) ⟨hx, hb, hml, hown, hts⟩ (g_X10_demand0 l g x0 y0 z0 p0 dr pa s0 im tr v0 rf ta to_ ki rc hlt H.size) (cwV 1 hts gX10_sums_X10_demand rfl rfl rfl (by decide +kernel) ⟨Nat.le_of_ble_eq_true rfl, Nat.le_of_ble_eq_true rfl⟩) (he_preV (wc := [(oX10 x0 y0 ta z0 p0 dr pa to_ s0 im ki tr v0 rf), (aI g rf 3 rc)]) hK hP hD hS hA hE [0, 1] rfl rfl 0 rfl rfl) rfl rfl hl.1 rfl (lv_room (Nat.le_of_ble_eq_true rfl)) dX10_sums_8 ⟨(Nat.le_of_ble_eq_true rfl), (Nat.le_of_ble_eq_true rfl)⟩) hP hD hS hA [0, 1] [] rfl rfl rfl (by decide) (fun ce q9 H locs hP hD hS hce hcv hcl => ?_)
  have hP : va_P g.1 vwCl [(oX10 x0 y0 ta z0 p0 dr pa to_ s0 im ki tr v0 rf), (aI g rf 3 (upd rc 2 (rc 2 + 1)))] H := hP
  have hD : va_D A [(oX10 x0 y0 ta z0 p0 dr pa to_ s0 im ki tr v0 rf), (aI g rf 3 (upd rc 2 (rc 2 + 1)))] := hD
  exact he_out hQ hlk hne hP hD hS hce hcv hcl (Nat.le_of_ble_eq_true rfl) (Nat.le_of_ble_eq_true rfl)
set_option maxHeartbeats 4000000 in
set_option maxRecDepth 100000 in
theorem g_X10_bestX (l : Launch) (g : he_G) (x0 : Nat) (y0 : Nat) (z0 : Nat) (p0 : Nat) (dr : Nat) (pa : Nat) (s0 : Nat) (im : Nat) (tr : Nat) (v0 : Nat) (rf : Nat) (ta : Int32) (to_ : Int32) (ki : Int32) (rc : Nat → Int32) (x : Int32) (y : Int32) (hlt : l.stackTraces = false) (hbad : he_within x 1 60 = 0 ∨ he_within y 0 1 = 0) : he_T he_QTi l yX10_best wsX10_best 7 103 1 6 g [.ref x0, .int x, .int y] [(oX10 x0 y0 ta z0 p0 dr pa to_ s0 im ki tr v0 rf), (aI g rf 3 rc)] "java/lang/IllegalArgumentException" [(oX10 x0 y0 ta z0 p0 dr pa to_ s0 im ki tr v0 rf), (aI g rf 3 (upd rc 2 (rc 2 + 1)))] := by
  refine he_beginX (l := l) (g := g) (y := yX10_best) (wl := wsX10_best) (fr := 7) (lo := 103) (mc := 1) (ms := 6) (av := [.ref x0, .int x, .int y]) (ws := [(oX10 x0 y0 ta z0 p0 dr pa to_ s0 im ki tr v0 rf), (aI g rf 3 rc)]) (cc := cX10_best) (maxL := 7) (ret := (some .int)) he_QTi (by decide) rfl (Nat.le_of_ble_eq_true rfl) ?_
  intro p e s m args below meth c A ls H locs Q hQ hne hB
  obtain ⟨hx, hb, hr, hml, hown, hts, hlk, hin, hP, hK, hD, hS, hA, hE, hl⟩ := hB
  have hl : lv_has ls 7 [(0, .ref x0), (1, .int x), (2, .int y)] := hl
  refine lv_aload_n hx hb dX10_best_0 rfl (lv_at hl 0 rfl) ?_
  refine lv_iload_n hx hb dX10_best_1 rfl (lv_at hl 1 rfl) ?_
  refine lv_iconst (v := 1) hx hb dX10_best_2 (by decide) ?_
  refine lv_bipush (v := 60) hx hb dX10_best_3 (by decide) ?_
  refine he_ci (wc := []) (wr := [(oX10 x0 y0 ta z0 p0 dr pa to_ s0 im ki tr v0 rf), (aI g rf 3 rc)]) (va_runS (As := [.int x, .int 1, .int 60]) (rest := [.ref x0]) ⟨hx, hb, hml, hown, hts⟩ (c_X10_within l g x 1 60 H.size) (va_cwS 3 hts gX10_best_X10_within rfl rfl rfl (by decide +kernel) ⟨Nat.le_of_ble_eq_true rfl, Nat.le_of_ble_eq_true rfl⟩) (he_preS (wc := []) hK hP hD hS hA hE [] rfl rfl) rfl rfl hl.1 rfl (lv_room (Nat.le_of_ble_eq_true rfl)) dX10_best_5 ⟨(Nat.le_of_ble_eq_true rfl), (Nat.le_of_ble_eq_true rfl)⟩) hP hD hS hA [] [0, 1] rfl rfl rfl (by decide) (fun r_1 u_2 H locs h_3 hP hD hS => ?_)
  subst h_3
  have hP : va_P g.1 vwCl [(oX10 x0 y0 ta z0 p0 dr pa to_ s0 im ki tr v0 rf), (aI g rf 3 rc)] H := hP
  have hD : va_D A [(oX10 x0 y0 ta z0 p0 dr pa to_ s0 im ki tr v0 rf), (aI g rf 3 rc)] := hD
  refine lv_if_eq (tgt := 24) hx hb dX10_best_8 (by decide) (fun c_4 => ?_) (fun c_4 => ?_)
  · refine lv_iconst (v := 0) hx hb dX10_best_24 (by decide) ?_
    refine he_xv (En := "java/lang/IllegalArgumentException") (wx := [(oX10 x0 y0 ta z0 p0 dr pa to_ s0 im ki tr v0 rf), (aI g rf 3 (upd rc 2 (rc 2 + 1)))]) (wc := [(oX10 x0 y0 ta z0 p0 dr pa to_ s0 im ki tr v0 rf), (aI g rf 3 rc)]) (wr := []) (vx_runV (As := [.int 0]) (rest := []) ⟨hx, hb, hml, hown, hts⟩ (g_X10_demand0 l g x0 y0 z0 p0 dr pa s0 im tr v0 rf ta to_ ki rc hlt H.size) (cwV 1 hts gX10_best_X10_demand rfl rfl rfl (by decide +kernel) ⟨Nat.le_of_ble_eq_true rfl, Nat.le_of_ble_eq_true rfl⟩) (he_preV (wc := [(oX10 x0 y0 ta z0 p0 dr pa to_ s0 im ki tr v0 rf), (aI g rf 3 rc)]) hK hP hD hS hA hE [0, 1] rfl rfl 0 rfl rfl) rfl rfl hl.1 rfl (lv_room (Nat.le_of_ble_eq_true rfl)) dX10_best_25 ⟨(Nat.le_of_ble_eq_true rfl), (Nat.le_of_ble_eq_true rfl)⟩) hP hD hS hA [0, 1] [] rfl rfl rfl (by decide) (fun ce q9 H locs hP hD hS hce hcv hcl => ?_)
    have hP : va_P g.1 vwCl [(oX10 x0 y0 ta z0 p0 dr pa to_ s0 im ki tr v0 rf), (aI g rf 3 (upd rc 2 (rc 2 + 1)))] H := hP
    have hD : va_D A [(oX10 x0 y0 ta z0 p0 dr pa to_ s0 im ki tr v0 rf), (aI g rf 3 (upd rc 2 (rc 2 + 1)))] := hD
    exact he_out hQ hlk hne hP hD hS hce hcv hcl (Nat.le_of_ble_eq_true rfl) (Nat.le_of_ble_eq_true rfl)
  · refine lv_iload_n hx hb dX10_best_11 rfl (lv_at hl 2 rfl) ?_
    refine lv_iconst (v := 0) hx hb dX10_best_12 (by decide) ?_
    refine lv_iconst (v := 1) hx hb dX10_best_13 (by decide) ?_
    refine he_ci (wc := []) (wr := [(oX10 x0 y0 ta z0 p0 dr pa to_ s0 im ki tr v0 rf), (aI g rf 3 rc)]) (va_runS (As := [.int y, .int 0, .int 1]) (rest := [.ref x0]) ⟨hx, hb, hml, hown, hts⟩ (c_X10_within l g y 0 1 H.size) (va_cwS 3 hts gX10_best_X10_within rfl rfl rfl (by decide +kernel) ⟨Nat.le_of_ble_eq_true rfl, Nat.le_of_ble_eq_true rfl⟩) (he_preS (wc := []) hK hP hD hS hA hE [] rfl rfl) rfl rfl hl.1 rfl (lv_room (Nat.le_of_ble_eq_true rfl)) dX10_best_14 ⟨(Nat.le_of_ble_eq_true rfl), (Nat.le_of_ble_eq_true rfl)⟩) hP hD hS hA [] [0, 1] rfl rfl rfl (by decide) (fun r_5 u_6 H locs h_7 hP hD hS => ?_)
    subst h_7
    have hP : va_P g.1 vwCl [(oX10 x0 y0 ta z0 p0 dr pa to_ s0 im ki tr v0 rf), (aI g rf 3 rc)] H := hP
    have hD : va_D A [(oX10 x0 y0 ta z0 p0 dr pa to_ s0 im ki tr v0 rf), (aI g rf 3 rc)] := hD
    refine lv_if_eq (tgt := 24) hx hb dX10_best_17 (by decide) (fun c_8 => ?_) (fun c_8 => ?_)
    · refine lv_iconst (v := 0) hx hb dX10_best_24 (by decide) ?_
      refine he_xv (En := "java/lang/IllegalArgumentException") (wx := [(oX10 x0 y0 ta z0 p0 dr pa to_ s0 im ki tr v0 rf), (aI g rf 3 (upd rc 2 (rc 2 + 1)))]) (wc := [(oX10 x0 y0 ta z0 p0 dr pa to_ s0 im ki tr v0 rf), (aI g rf 3 rc)]) (wr := []) (vx_runV (As := [.int 0]) (rest := []) ⟨hx, hb, hml, hown, hts⟩ (g_X10_demand0 l g x0 y0 z0 p0 dr pa s0 im tr v0 rf ta to_ ki rc hlt H.size) (cwV 1 hts gX10_best_X10_demand rfl rfl rfl (by decide +kernel) ⟨Nat.le_of_ble_eq_true rfl, Nat.le_of_ble_eq_true rfl⟩) (he_preV (wc := [(oX10 x0 y0 ta z0 p0 dr pa to_ s0 im ki tr v0 rf), (aI g rf 3 rc)]) hK hP hD hS hA hE [0, 1] rfl rfl 0 rfl rfl) rfl rfl hl.1 rfl (lv_room (Nat.le_of_ble_eq_true rfl)) dX10_best_25 ⟨(Nat.le_of_ble_eq_true rfl), (Nat.le_of_ble_eq_true rfl)⟩) hP hD hS hA [0, 1] [] rfl rfl rfl (by decide) (fun ce q9 H locs hP hD hS hce hcv hcl => ?_)
      have hP : va_P g.1 vwCl [(oX10 x0 y0 ta z0 p0 dr pa to_ s0 im ki tr v0 rf), (aI g rf 3 (upd rc 2 (rc 2 + 1)))] H := hP
      have hD : va_D A [(oX10 x0 y0 ta z0 p0 dr pa to_ s0 im ki tr v0 rf), (aI g rf 3 (upd rc 2 (rc 2 + 1)))] := hD
      exact he_out hQ hlk hne hP hD hS hce hcv hcl (Nat.le_of_ble_eq_true rfl) (Nat.le_of_ble_eq_true rfl)
    · refine lv_iconst (v := 1) hx hb dX10_best_20 (by decide) ?_
      refine lv_goto (tgt := 25) hx hb dX10_best_21 (by decide) ?_
      exact absurd hbad (by rintro (h9 | h9) <;> contradiction)
set_option maxHeartbeats 4000000 in
set_option maxRecDepth 100000 in
theorem g_X10_offerX (l : Launch) (g : he_G) (x0 : Nat) (y0 : Nat) (z0 : Nat) (p0 : Nat) (dr : Nat) (pa : Nat) (s0 : Nat) (im : Nat) (tr : Nat) (v0 : Nat) (rf : Nat) (ta : Int32) (to_ : Int32) (ki : Int32) (rc : Nat → Int32) (x : Int32) (y : Int32) (hlt : l.stackTraces = false) (hbad : he_within x 1 60 = 0 ∨ he_within y 0 3 = 0) : he_T he_QTi l yX10_offer wsX10_offer 7 103 1 6 g [.ref x0, .int x, .int y] [(oX10 x0 y0 ta z0 p0 dr pa to_ s0 im ki tr v0 rf), (aI g rf 3 rc)] "java/lang/IllegalArgumentException" [(oX10 x0 y0 ta z0 p0 dr pa to_ s0 im ki tr v0 rf), (aI g rf 3 (upd rc 2 (rc 2 + 1)))] := by
  refine he_beginX (l := l) (g := g) (y := yX10_offer) (wl := wsX10_offer) (fr := 7) (lo := 103) (mc := 1) (ms := 6) (av := [.ref x0, .int x, .int y]) (ws := [(oX10 x0 y0 ta z0 p0 dr pa to_ s0 im ki tr v0 rf), (aI g rf 3 rc)]) (cc := cX10_offer) (maxL := 9) (ret := (some .int)) he_QTi (by decide) rfl (Nat.le_of_ble_eq_true rfl) ?_
  intro p e s m args below meth c A ls H locs Q hQ hne hB
  obtain ⟨hx, hb, hr, hml, hown, hts, hlk, hin, hP, hK, hD, hS, hA, hE, hl⟩ := hB
  have hl : lv_has ls 9 [(0, .ref x0), (1, .int x), (2, .int y)] := hl
  refine lv_aload_n hx hb dX10_offer_0 rfl (lv_at hl 0 rfl) ?_
  refine lv_iload_n hx hb dX10_offer_1 rfl (lv_at hl 1 rfl) ?_
  refine lv_iconst (v := 1) hx hb dX10_offer_2 (by decide) ?_
  refine lv_bipush (v := 60) hx hb dX10_offer_3 (by decide) ?_
  refine he_ci (wc := []) (wr := [(oX10 x0 y0 ta z0 p0 dr pa to_ s0 im ki tr v0 rf), (aI g rf 3 rc)]) (va_runS (As := [.int x, .int 1, .int 60]) (rest := [.ref x0]) ⟨hx, hb, hml, hown, hts⟩ (c_X10_within l g x 1 60 H.size) (va_cwS 3 hts gX10_offer_X10_within rfl rfl rfl (by decide +kernel) ⟨Nat.le_of_ble_eq_true rfl, Nat.le_of_ble_eq_true rfl⟩) (he_preS (wc := []) hK hP hD hS hA hE [] rfl rfl) rfl rfl hl.1 rfl (lv_room (Nat.le_of_ble_eq_true rfl)) dX10_offer_5 ⟨(Nat.le_of_ble_eq_true rfl), (Nat.le_of_ble_eq_true rfl)⟩) hP hD hS hA [] [0, 1] rfl rfl rfl (by decide) (fun r_1 u_2 H locs h_3 hP hD hS => ?_)
  subst h_3
  have hP : va_P g.1 vwCl [(oX10 x0 y0 ta z0 p0 dr pa to_ s0 im ki tr v0 rf), (aI g rf 3 rc)] H := hP
  have hD : va_D A [(oX10 x0 y0 ta z0 p0 dr pa to_ s0 im ki tr v0 rf), (aI g rf 3 rc)] := hD
  refine lv_if_eq (tgt := 24) hx hb dX10_offer_8 (by decide) (fun c_4 => ?_) (fun c_4 => ?_)
  · refine lv_iconst (v := 0) hx hb dX10_offer_24 (by decide) ?_
    refine he_xv (En := "java/lang/IllegalArgumentException") (wx := [(oX10 x0 y0 ta z0 p0 dr pa to_ s0 im ki tr v0 rf), (aI g rf 3 (upd rc 2 (rc 2 + 1)))]) (wc := [(oX10 x0 y0 ta z0 p0 dr pa to_ s0 im ki tr v0 rf), (aI g rf 3 rc)]) (wr := []) (vx_runV (As := [.int 0]) (rest := []) ⟨hx, hb, hml, hown, hts⟩ (g_X10_demand0 l g x0 y0 z0 p0 dr pa s0 im tr v0 rf ta to_ ki rc hlt H.size) (cwV 1 hts gX10_offer_X10_demand rfl rfl rfl (by decide +kernel) ⟨Nat.le_of_ble_eq_true rfl, Nat.le_of_ble_eq_true rfl⟩) (he_preV (wc := [(oX10 x0 y0 ta z0 p0 dr pa to_ s0 im ki tr v0 rf), (aI g rf 3 rc)]) hK hP hD hS hA hE [0, 1] rfl rfl 0 rfl rfl) rfl rfl hl.1 rfl (lv_room (Nat.le_of_ble_eq_true rfl)) dX10_offer_25 ⟨(Nat.le_of_ble_eq_true rfl), (Nat.le_of_ble_eq_true rfl)⟩) hP hD hS hA [0, 1] [] rfl rfl rfl (by decide) (fun ce q9 H locs hP hD hS hce hcv hcl => ?_)
    have hP : va_P g.1 vwCl [(oX10 x0 y0 ta z0 p0 dr pa to_ s0 im ki tr v0 rf), (aI g rf 3 (upd rc 2 (rc 2 + 1)))] H := hP
    have hD : va_D A [(oX10 x0 y0 ta z0 p0 dr pa to_ s0 im ki tr v0 rf), (aI g rf 3 (upd rc 2 (rc 2 + 1)))] := hD
    exact he_out hQ hlk hne hP hD hS hce hcv hcl (Nat.le_of_ble_eq_true rfl) (Nat.le_of_ble_eq_true rfl)
  · refine lv_iload_n hx hb dX10_offer_11 rfl (lv_at hl 2 rfl) ?_
    refine lv_iconst (v := 0) hx hb dX10_offer_12 (by decide) ?_
    refine lv_iconst (v := 3) hx hb dX10_offer_13 (by decide) ?_
    refine he_ci (wc := []) (wr := [(oX10 x0 y0 ta z0 p0 dr pa to_ s0 im ki tr v0 rf), (aI g rf 3 rc)]) (va_runS (As := [.int y, .int 0, .int 3]) (rest := [.ref x0]) ⟨hx, hb, hml, hown, hts⟩ (c_X10_within l g y 0 3 H.size) (va_cwS 3 hts gX10_offer_X10_within rfl rfl rfl (by decide +kernel) ⟨Nat.le_of_ble_eq_true rfl, Nat.le_of_ble_eq_true rfl⟩) (he_preS (wc := []) hK hP hD hS hA hE [] rfl rfl) rfl rfl hl.1 rfl (lv_room (Nat.le_of_ble_eq_true rfl)) dX10_offer_14 ⟨(Nat.le_of_ble_eq_true rfl), (Nat.le_of_ble_eq_true rfl)⟩) hP hD hS hA [] [0, 1] rfl rfl rfl (by decide) (fun r_5 u_6 H locs h_7 hP hD hS => ?_)
    subst h_7
    have hP : va_P g.1 vwCl [(oX10 x0 y0 ta z0 p0 dr pa to_ s0 im ki tr v0 rf), (aI g rf 3 rc)] H := hP
    have hD : va_D A [(oX10 x0 y0 ta z0 p0 dr pa to_ s0 im ki tr v0 rf), (aI g rf 3 rc)] := hD
    refine lv_if_eq (tgt := 24) hx hb dX10_offer_17 (by decide) (fun c_8 => ?_) (fun c_8 => ?_)
    · refine lv_iconst (v := 0) hx hb dX10_offer_24 (by decide) ?_
      refine he_xv (En := "java/lang/IllegalArgumentException") (wx := [(oX10 x0 y0 ta z0 p0 dr pa to_ s0 im ki tr v0 rf), (aI g rf 3 (upd rc 2 (rc 2 + 1)))]) (wc := [(oX10 x0 y0 ta z0 p0 dr pa to_ s0 im ki tr v0 rf), (aI g rf 3 rc)]) (wr := []) (vx_runV (As := [.int 0]) (rest := []) ⟨hx, hb, hml, hown, hts⟩ (g_X10_demand0 l g x0 y0 z0 p0 dr pa s0 im tr v0 rf ta to_ ki rc hlt H.size) (cwV 1 hts gX10_offer_X10_demand rfl rfl rfl (by decide +kernel) ⟨Nat.le_of_ble_eq_true rfl, Nat.le_of_ble_eq_true rfl⟩) (he_preV (wc := [(oX10 x0 y0 ta z0 p0 dr pa to_ s0 im ki tr v0 rf), (aI g rf 3 rc)]) hK hP hD hS hA hE [0, 1] rfl rfl 0 rfl rfl) rfl rfl hl.1 rfl (lv_room (Nat.le_of_ble_eq_true rfl)) dX10_offer_25 ⟨(Nat.le_of_ble_eq_true rfl), (Nat.le_of_ble_eq_true rfl)⟩) hP hD hS hA [0, 1] [] rfl rfl rfl (by decide) (fun ce q9 H locs hP hD hS hce hcv hcl => ?_)
      have hP : va_P g.1 vwCl [(oX10 x0 y0 ta z0 p0 dr pa to_ s0 im ki tr v0 rf), (aI g rf 3 (upd rc 2 (rc 2 + 1)))] H := hP
      have hD : va_D A [(oX10 x0 y0 ta z0 p0 dr pa to_ s0 im ki tr v0 rf), (aI g rf 3 (upd rc 2 (rc 2 + 1)))] := hD
      exact he_out hQ hlk hne hP hD hS hce hcv hcl (Nat.le_of_ble_eq_true rfl) (Nat.le_of_ble_eq_true rfl)
    · refine lv_iconst (v := 1) hx hb dX10_offer_20 (by decide) ?_
      refine lv_goto (tgt := 25) hx hb dX10_offer_21 (by decide) ?_
      exact absurd hbad (by rintro (h9 | h9) <;> contradiction)
set_option maxHeartbeats 4000000 in
set_option maxRecDepth 100000 in
theorem g_X10_nearestX (l : Launch) (g : he_G) (x0 : Nat) (y0 : Nat) (z0 : Nat) (p0 : Nat) (dr : Nat) (pa : Nat) (s0 : Nat) (im : Nat) (tr : Nat) (v0 : Nat) (rf : Nat) (ta : Int32) (to_ : Int32) (ki : Int32) (rc : Nat → Int32) (x : Int32) (y : Int32) (hlt : l.stackTraces = false) (hbad : he_within x 0 9999 = 0 ∨ he_within y 0 99 = 0) : he_T he_QTi l yX10_nearest wsX10_nearest 7 103 1 6 g [.ref x0, .int x, .int y] [(oX10 x0 y0 ta z0 p0 dr pa to_ s0 im ki tr v0 rf), (aI g rf 3 rc)] "java/lang/IllegalArgumentException" [(oX10 x0 y0 ta z0 p0 dr pa to_ s0 im ki tr v0 rf), (aI g rf 3 (upd rc 2 (rc 2 + 1)))] := by
  refine he_beginX (l := l) (g := g) (y := yX10_nearest) (wl := wsX10_nearest) (fr := 7) (lo := 103) (mc := 1) (ms := 6) (av := [.ref x0, .int x, .int y]) (ws := [(oX10 x0 y0 ta z0 p0 dr pa to_ s0 im ki tr v0 rf), (aI g rf 3 rc)]) (cc := cX10_nearest) (maxL := 4) (ret := (some .int)) he_QTi (by decide) rfl (Nat.le_of_ble_eq_true rfl) ?_
  intro p e s m args below meth c A ls H locs Q hQ hne hB
  obtain ⟨hx, hb, hr, hml, hown, hts, hlk, hin, hP, hK, hD, hS, hA, hE, hl⟩ := hB
  have hl : lv_has ls 4 [(0, .ref x0), (1, .int x), (2, .int y)] := hl
  refine lv_aload_n hx hb dX10_nearest_0 rfl (lv_at hl 0 rfl) ?_
  refine lv_iload_n hx hb dX10_nearest_1 rfl (lv_at hl 1 rfl) ?_
  refine lv_iconst (v := 0) hx hb dX10_nearest_2 (by decide) ?_
  refine lv_sipush (v := 9999) hx hb dX10_nearest_3 (by decide) ?_
  refine he_ci (wc := []) (wr := [(oX10 x0 y0 ta z0 p0 dr pa to_ s0 im ki tr v0 rf), (aI g rf 3 rc)]) (va_runS (As := [.int x, .int 0, .int 9999]) (rest := [.ref x0]) ⟨hx, hb, hml, hown, hts⟩ (c_X10_within l g x 0 9999 H.size) (va_cwS 3 hts gX10_nearest_X10_within rfl rfl rfl (by decide +kernel) ⟨Nat.le_of_ble_eq_true rfl, Nat.le_of_ble_eq_true rfl⟩) (he_preS (wc := []) hK hP hD hS hA hE [] rfl rfl) rfl rfl hl.1 rfl (lv_room (Nat.le_of_ble_eq_true rfl)) dX10_nearest_6 ⟨(Nat.le_of_ble_eq_true rfl), (Nat.le_of_ble_eq_true rfl)⟩) hP hD hS hA [] [0, 1] rfl rfl rfl (by decide) (fun r_1 u_2 H locs h_3 hP hD hS => ?_)
  subst h_3
  have hP : va_P g.1 vwCl [(oX10 x0 y0 ta z0 p0 dr pa to_ s0 im ki tr v0 rf), (aI g rf 3 rc)] H := hP
  have hD : va_D A [(oX10 x0 y0 ta z0 p0 dr pa to_ s0 im ki tr v0 rf), (aI g rf 3 rc)] := hD
  refine lv_if_eq (tgt := 26) hx hb dX10_nearest_9 (by decide) (fun c_4 => ?_) (fun c_4 => ?_)
  · refine lv_iconst (v := 0) hx hb dX10_nearest_26 (by decide) ?_
    refine he_xv (En := "java/lang/IllegalArgumentException") (wx := [(oX10 x0 y0 ta z0 p0 dr pa to_ s0 im ki tr v0 rf), (aI g rf 3 (upd rc 2 (rc 2 + 1)))]) (wc := [(oX10 x0 y0 ta z0 p0 dr pa to_ s0 im ki tr v0 rf), (aI g rf 3 rc)]) (wr := []) (vx_runV (As := [.int 0]) (rest := []) ⟨hx, hb, hml, hown, hts⟩ (g_X10_demand0 l g x0 y0 z0 p0 dr pa s0 im tr v0 rf ta to_ ki rc hlt H.size) (cwV 1 hts gX10_nearest_X10_demand rfl rfl rfl (by decide +kernel) ⟨Nat.le_of_ble_eq_true rfl, Nat.le_of_ble_eq_true rfl⟩) (he_preV (wc := [(oX10 x0 y0 ta z0 p0 dr pa to_ s0 im ki tr v0 rf), (aI g rf 3 rc)]) hK hP hD hS hA hE [0, 1] rfl rfl 0 rfl rfl) rfl rfl hl.1 rfl (lv_room (Nat.le_of_ble_eq_true rfl)) dX10_nearest_27 ⟨(Nat.le_of_ble_eq_true rfl), (Nat.le_of_ble_eq_true rfl)⟩) hP hD hS hA [0, 1] [] rfl rfl rfl (by decide) (fun ce q9 H locs hP hD hS hce hcv hcl => ?_)
    have hP : va_P g.1 vwCl [(oX10 x0 y0 ta z0 p0 dr pa to_ s0 im ki tr v0 rf), (aI g rf 3 (upd rc 2 (rc 2 + 1)))] H := hP
    have hD : va_D A [(oX10 x0 y0 ta z0 p0 dr pa to_ s0 im ki tr v0 rf), (aI g rf 3 (upd rc 2 (rc 2 + 1)))] := hD
    exact he_out hQ hlk hne hP hD hS hce hcv hcl (Nat.le_of_ble_eq_true rfl) (Nat.le_of_ble_eq_true rfl)
  · refine lv_iload_n hx hb dX10_nearest_12 rfl (lv_at hl 2 rfl) ?_
    refine lv_iconst (v := 0) hx hb dX10_nearest_13 (by decide) ?_
    refine lv_bipush (v := 99) hx hb dX10_nearest_14 (by decide) ?_
    refine he_ci (wc := []) (wr := [(oX10 x0 y0 ta z0 p0 dr pa to_ s0 im ki tr v0 rf), (aI g rf 3 rc)]) (va_runS (As := [.int y, .int 0, .int 99]) (rest := [.ref x0]) ⟨hx, hb, hml, hown, hts⟩ (c_X10_within l g y 0 99 H.size) (va_cwS 3 hts gX10_nearest_X10_within rfl rfl rfl (by decide +kernel) ⟨Nat.le_of_ble_eq_true rfl, Nat.le_of_ble_eq_true rfl⟩) (he_preS (wc := []) hK hP hD hS hA hE [] rfl rfl) rfl rfl hl.1 rfl (lv_room (Nat.le_of_ble_eq_true rfl)) dX10_nearest_16 ⟨(Nat.le_of_ble_eq_true rfl), (Nat.le_of_ble_eq_true rfl)⟩) hP hD hS hA [] [0, 1] rfl rfl rfl (by decide) (fun r_5 u_6 H locs h_7 hP hD hS => ?_)
    subst h_7
    have hP : va_P g.1 vwCl [(oX10 x0 y0 ta z0 p0 dr pa to_ s0 im ki tr v0 rf), (aI g rf 3 rc)] H := hP
    have hD : va_D A [(oX10 x0 y0 ta z0 p0 dr pa to_ s0 im ki tr v0 rf), (aI g rf 3 rc)] := hD
    refine lv_if_eq (tgt := 26) hx hb dX10_nearest_19 (by decide) (fun c_8 => ?_) (fun c_8 => ?_)
    · refine lv_iconst (v := 0) hx hb dX10_nearest_26 (by decide) ?_
      refine he_xv (En := "java/lang/IllegalArgumentException") (wx := [(oX10 x0 y0 ta z0 p0 dr pa to_ s0 im ki tr v0 rf), (aI g rf 3 (upd rc 2 (rc 2 + 1)))]) (wc := [(oX10 x0 y0 ta z0 p0 dr pa to_ s0 im ki tr v0 rf), (aI g rf 3 rc)]) (wr := []) (vx_runV (As := [.int 0]) (rest := []) ⟨hx, hb, hml, hown, hts⟩ (g_X10_demand0 l g x0 y0 z0 p0 dr pa s0 im tr v0 rf ta to_ ki rc hlt H.size) (cwV 1 hts gX10_nearest_X10_demand rfl rfl rfl (by decide +kernel) ⟨Nat.le_of_ble_eq_true rfl, Nat.le_of_ble_eq_true rfl⟩) (he_preV (wc := [(oX10 x0 y0 ta z0 p0 dr pa to_ s0 im ki tr v0 rf), (aI g rf 3 rc)]) hK hP hD hS hA hE [0, 1] rfl rfl 0 rfl rfl) rfl rfl hl.1 rfl (lv_room (Nat.le_of_ble_eq_true rfl)) dX10_nearest_27 ⟨(Nat.le_of_ble_eq_true rfl), (Nat.le_of_ble_eq_true rfl)⟩) hP hD hS hA [0, 1] [] rfl rfl rfl (by decide) (fun ce q9 H locs hP hD hS hce hcv hcl => ?_)
      have hP : va_P g.1 vwCl [(oX10 x0 y0 ta z0 p0 dr pa to_ s0 im ki tr v0 rf), (aI g rf 3 (upd rc 2 (rc 2 + 1)))] H := hP
      have hD : va_D A [(oX10 x0 y0 ta z0 p0 dr pa to_ s0 im ki tr v0 rf), (aI g rf 3 (upd rc 2 (rc 2 + 1)))] := hD
      exact he_out hQ hlk hne hP hD hS hce hcv hcl (Nat.le_of_ble_eq_true rfl) (Nat.le_of_ble_eq_true rfl)
    · refine lv_iconst (v := 1) hx hb dX10_nearest_22 (by decide) ?_
      refine lv_goto (tgt := 27) hx hb dX10_nearest_23 (by decide) ?_
      exact absurd hbad (by rintro (h9 | h9) <;> contradiction)
set_option maxHeartbeats 4000000 in
set_option maxRecDepth 100000 in
theorem g_X10_stopX (l : Launch) (g : he_G) (x0 : Nat) (y0 : Nat) (z0 : Nat) (p0 : Nat) (dr : Nat) (pa : Nat) (s0 : Nat) (im : Nat) (tr : Nat) (v0 : Nat) (rf : Nat) (ta : Int32) (to_ : Int32) (ki : Int32) (rc : Nat → Int32) (x : Int32) (y : Int32) (hlt : l.stackTraces = false) (hbad : he_within x 1 60 = 0 ∨ he_within y 0 1 = 0) : he_T he_QTi l yX10_stop wsX10_stop 7 103 1 6 g [.ref x0, .int x, .int y] [(oX10 x0 y0 ta z0 p0 dr pa to_ s0 im ki tr v0 rf), (aI g rf 3 rc)] "java/lang/IllegalArgumentException" [(oX10 x0 y0 ta z0 p0 dr pa to_ s0 im ki tr v0 rf), (aI g rf 3 (upd rc 2 (rc 2 + 1)))] := by
  refine he_beginX (l := l) (g := g) (y := yX10_stop) (wl := wsX10_stop) (fr := 7) (lo := 103) (mc := 1) (ms := 6) (av := [.ref x0, .int x, .int y]) (ws := [(oX10 x0 y0 ta z0 p0 dr pa to_ s0 im ki tr v0 rf), (aI g rf 3 rc)]) (cc := cX10_stop) (maxL := 6) (ret := (some .int)) he_QTi (by decide) rfl (Nat.le_of_ble_eq_true rfl) ?_
  intro p e s m args below meth c A ls H locs Q hQ hne hB
  obtain ⟨hx, hb, hr, hml, hown, hts, hlk, hin, hP, hK, hD, hS, hA, hE, hl⟩ := hB
  have hl : lv_has ls 6 [(0, .ref x0), (1, .int x), (2, .int y)] := hl
  refine lv_aload_n hx hb dX10_stop_0 rfl (lv_at hl 0 rfl) ?_
  refine lv_iload_n hx hb dX10_stop_1 rfl (lv_at hl 1 rfl) ?_
  refine lv_iconst (v := 1) hx hb dX10_stop_2 (by decide) ?_
  refine lv_bipush (v := 60) hx hb dX10_stop_3 (by decide) ?_
  refine he_ci (wc := []) (wr := [(oX10 x0 y0 ta z0 p0 dr pa to_ s0 im ki tr v0 rf), (aI g rf 3 rc)]) (va_runS (As := [.int x, .int 1, .int 60]) (rest := [.ref x0]) ⟨hx, hb, hml, hown, hts⟩ (c_X10_within l g x 1 60 H.size) (va_cwS 3 hts gX10_stop_X10_within rfl rfl rfl (by decide +kernel) ⟨Nat.le_of_ble_eq_true rfl, Nat.le_of_ble_eq_true rfl⟩) (he_preS (wc := []) hK hP hD hS hA hE [] rfl rfl) rfl rfl hl.1 rfl (lv_room (Nat.le_of_ble_eq_true rfl)) dX10_stop_5 ⟨(Nat.le_of_ble_eq_true rfl), (Nat.le_of_ble_eq_true rfl)⟩) hP hD hS hA [] [0, 1] rfl rfl rfl (by decide) (fun r_1 u_2 H locs h_3 hP hD hS => ?_)
  subst h_3
  have hP : va_P g.1 vwCl [(oX10 x0 y0 ta z0 p0 dr pa to_ s0 im ki tr v0 rf), (aI g rf 3 rc)] H := hP
  have hD : va_D A [(oX10 x0 y0 ta z0 p0 dr pa to_ s0 im ki tr v0 rf), (aI g rf 3 rc)] := hD
  refine lv_if_eq (tgt := 24) hx hb dX10_stop_8 (by decide) (fun c_4 => ?_) (fun c_4 => ?_)
  · refine lv_iconst (v := 0) hx hb dX10_stop_24 (by decide) ?_
    refine he_xv (En := "java/lang/IllegalArgumentException") (wx := [(oX10 x0 y0 ta z0 p0 dr pa to_ s0 im ki tr v0 rf), (aI g rf 3 (upd rc 2 (rc 2 + 1)))]) (wc := [(oX10 x0 y0 ta z0 p0 dr pa to_ s0 im ki tr v0 rf), (aI g rf 3 rc)]) (wr := []) (vx_runV (As := [.int 0]) (rest := []) ⟨hx, hb, hml, hown, hts⟩ (g_X10_demand0 l g x0 y0 z0 p0 dr pa s0 im tr v0 rf ta to_ ki rc hlt H.size) (cwV 1 hts gX10_stop_X10_demand rfl rfl rfl (by decide +kernel) ⟨Nat.le_of_ble_eq_true rfl, Nat.le_of_ble_eq_true rfl⟩) (he_preV (wc := [(oX10 x0 y0 ta z0 p0 dr pa to_ s0 im ki tr v0 rf), (aI g rf 3 rc)]) hK hP hD hS hA hE [0, 1] rfl rfl 0 rfl rfl) rfl rfl hl.1 rfl (lv_room (Nat.le_of_ble_eq_true rfl)) dX10_stop_25 ⟨(Nat.le_of_ble_eq_true rfl), (Nat.le_of_ble_eq_true rfl)⟩) hP hD hS hA [0, 1] [] rfl rfl rfl (by decide) (fun ce q9 H locs hP hD hS hce hcv hcl => ?_)
    have hP : va_P g.1 vwCl [(oX10 x0 y0 ta z0 p0 dr pa to_ s0 im ki tr v0 rf), (aI g rf 3 (upd rc 2 (rc 2 + 1)))] H := hP
    have hD : va_D A [(oX10 x0 y0 ta z0 p0 dr pa to_ s0 im ki tr v0 rf), (aI g rf 3 (upd rc 2 (rc 2 + 1)))] := hD
    exact he_out hQ hlk hne hP hD hS hce hcv hcl (Nat.le_of_ble_eq_true rfl) (Nat.le_of_ble_eq_true rfl)
  · refine lv_iload_n hx hb dX10_stop_11 rfl (lv_at hl 2 rfl) ?_
    refine lv_iconst (v := 0) hx hb dX10_stop_12 (by decide) ?_
    refine lv_iconst (v := 1) hx hb dX10_stop_13 (by decide) ?_
    refine he_ci (wc := []) (wr := [(oX10 x0 y0 ta z0 p0 dr pa to_ s0 im ki tr v0 rf), (aI g rf 3 rc)]) (va_runS (As := [.int y, .int 0, .int 1]) (rest := [.ref x0]) ⟨hx, hb, hml, hown, hts⟩ (c_X10_within l g y 0 1 H.size) (va_cwS 3 hts gX10_stop_X10_within rfl rfl rfl (by decide +kernel) ⟨Nat.le_of_ble_eq_true rfl, Nat.le_of_ble_eq_true rfl⟩) (he_preS (wc := []) hK hP hD hS hA hE [] rfl rfl) rfl rfl hl.1 rfl (lv_room (Nat.le_of_ble_eq_true rfl)) dX10_stop_14 ⟨(Nat.le_of_ble_eq_true rfl), (Nat.le_of_ble_eq_true rfl)⟩) hP hD hS hA [] [0, 1] rfl rfl rfl (by decide) (fun r_5 u_6 H locs h_7 hP hD hS => ?_)
    subst h_7
    have hP : va_P g.1 vwCl [(oX10 x0 y0 ta z0 p0 dr pa to_ s0 im ki tr v0 rf), (aI g rf 3 rc)] H := hP
    have hD : va_D A [(oX10 x0 y0 ta z0 p0 dr pa to_ s0 im ki tr v0 rf), (aI g rf 3 rc)] := hD
    refine lv_if_eq (tgt := 24) hx hb dX10_stop_17 (by decide) (fun c_8 => ?_) (fun c_8 => ?_)
    · refine lv_iconst (v := 0) hx hb dX10_stop_24 (by decide) ?_
      refine he_xv (En := "java/lang/IllegalArgumentException") (wx := [(oX10 x0 y0 ta z0 p0 dr pa to_ s0 im ki tr v0 rf), (aI g rf 3 (upd rc 2 (rc 2 + 1)))]) (wc := [(oX10 x0 y0 ta z0 p0 dr pa to_ s0 im ki tr v0 rf), (aI g rf 3 rc)]) (wr := []) (vx_runV (As := [.int 0]) (rest := []) ⟨hx, hb, hml, hown, hts⟩ (g_X10_demand0 l g x0 y0 z0 p0 dr pa s0 im tr v0 rf ta to_ ki rc hlt H.size) (cwV 1 hts gX10_stop_X10_demand rfl rfl rfl (by decide +kernel) ⟨Nat.le_of_ble_eq_true rfl, Nat.le_of_ble_eq_true rfl⟩) (he_preV (wc := [(oX10 x0 y0 ta z0 p0 dr pa to_ s0 im ki tr v0 rf), (aI g rf 3 rc)]) hK hP hD hS hA hE [0, 1] rfl rfl 0 rfl rfl) rfl rfl hl.1 rfl (lv_room (Nat.le_of_ble_eq_true rfl)) dX10_stop_25 ⟨(Nat.le_of_ble_eq_true rfl), (Nat.le_of_ble_eq_true rfl)⟩) hP hD hS hA [0, 1] [] rfl rfl rfl (by decide) (fun ce q9 H locs hP hD hS hce hcv hcl => ?_)
      have hP : va_P g.1 vwCl [(oX10 x0 y0 ta z0 p0 dr pa to_ s0 im ki tr v0 rf), (aI g rf 3 (upd rc 2 (rc 2 + 1)))] H := hP
      have hD : va_D A [(oX10 x0 y0 ta z0 p0 dr pa to_ s0 im ki tr v0 rf), (aI g rf 3 (upd rc 2 (rc 2 + 1)))] := hD
      exact he_out hQ hlk hne hP hD hS hce hcv hcl (Nat.le_of_ble_eq_true rfl) (Nat.le_of_ble_eq_true rfl)
    · refine lv_iconst (v := 1) hx hb dX10_stop_20 (by decide) ?_
      refine lv_goto (tgt := 25) hx hb dX10_stop_21 (by decide) ?_
      exact absurd hbad (by rintro (h9 | h9) <;> contradiction)
set_option maxHeartbeats 4000000 in
set_option maxRecDepth 100000 in
theorem g_X10_oddsX (l : Launch) (g : he_G) (x0 : Nat) (y0 : Nat) (z0 : Nat) (p0 : Nat) (dr : Nat) (pa : Nat) (s0 : Nat) (im : Nat) (tr : Nat) (v0 : Nat) (rf : Nat) (ta : Int32) (to_ : Int32) (ki : Int32) (rc : Nat → Int32) (x : Int32) (y : Int32) (hlt : l.stackTraces = false) (hbad : he_within x 1 99 = 0 ∨ he_within y 1 99 = 0) : he_T he_QTv l yX10_odds wsX10_odds 7 103 1 6 g [.ref x0, .int x, .int y] [(oX10 x0 y0 ta z0 p0 dr pa to_ s0 im ki tr v0 rf), (aI g rf 3 rc)] "java/lang/IllegalArgumentException" [(oX10 x0 y0 ta z0 p0 dr pa to_ s0 im ki tr v0 rf), (aI g rf 3 (upd rc 2 (rc 2 + 1)))] := by
  refine he_beginX (l := l) (g := g) (y := yX10_odds) (wl := wsX10_odds) (fr := 7) (lo := 103) (mc := 1) (ms := 6) (av := [.ref x0, .int x, .int y]) (ws := [(oX10 x0 y0 ta z0 p0 dr pa to_ s0 im ki tr v0 rf), (aI g rf 3 rc)]) (cc := cX10_odds) (maxL := 3) (ret := none) he_QTv (by decide) rfl (Nat.le_of_ble_eq_true rfl) ?_
  intro p e s m args below meth c A ls H locs Q hQ hne hB
  obtain ⟨hx, hb, hr, hml, hown, hts, hlk, hin, hP, hK, hD, hS, hA, hE, hl⟩ := hB
  have hl : lv_has ls 3 [(0, .ref x0), (1, .int x), (2, .int y)] := hl
  refine lv_aload_n hx hb dX10_odds_0 rfl (lv_at hl 0 rfl) ?_
  refine lv_iload_n hx hb dX10_odds_1 rfl (lv_at hl 1 rfl) ?_
  refine lv_iconst (v := 1) hx hb dX10_odds_2 (by decide) ?_
  refine lv_bipush (v := 99) hx hb dX10_odds_3 (by decide) ?_
  refine he_ci (wc := []) (wr := [(oX10 x0 y0 ta z0 p0 dr pa to_ s0 im ki tr v0 rf), (aI g rf 3 rc)]) (va_runS (As := [.int x, .int 1, .int 99]) (rest := [.ref x0]) ⟨hx, hb, hml, hown, hts⟩ (c_X10_within l g x 1 99 H.size) (va_cwS 3 hts gX10_odds_X10_within rfl rfl rfl (by decide +kernel) ⟨Nat.le_of_ble_eq_true rfl, Nat.le_of_ble_eq_true rfl⟩) (he_preS (wc := []) hK hP hD hS hA hE [] rfl rfl) rfl rfl hl.1 rfl (lv_room (Nat.le_of_ble_eq_true rfl)) dX10_odds_5 ⟨(Nat.le_of_ble_eq_true rfl), (Nat.le_of_ble_eq_true rfl)⟩) hP hD hS hA [] [0, 1] rfl rfl rfl (by decide) (fun r_1 u_2 H locs h_3 hP hD hS => ?_)
  subst h_3
  have hP : va_P g.1 vwCl [(oX10 x0 y0 ta z0 p0 dr pa to_ s0 im ki tr v0 rf), (aI g rf 3 rc)] H := hP
  have hD : va_D A [(oX10 x0 y0 ta z0 p0 dr pa to_ s0 im ki tr v0 rf), (aI g rf 3 rc)] := hD
  refine lv_if_eq (tgt := 25) hx hb dX10_odds_8 (by decide) (fun c_4 => ?_) (fun c_4 => ?_)
  · refine lv_iconst (v := 0) hx hb dX10_odds_25 (by decide) ?_
    refine he_xv (En := "java/lang/IllegalArgumentException") (wx := [(oX10 x0 y0 ta z0 p0 dr pa to_ s0 im ki tr v0 rf), (aI g rf 3 (upd rc 2 (rc 2 + 1)))]) (wc := [(oX10 x0 y0 ta z0 p0 dr pa to_ s0 im ki tr v0 rf), (aI g rf 3 rc)]) (wr := []) (vx_runV (As := [.int 0]) (rest := []) ⟨hx, hb, hml, hown, hts⟩ (g_X10_demand0 l g x0 y0 z0 p0 dr pa s0 im tr v0 rf ta to_ ki rc hlt H.size) (cwV 1 hts gX10_odds_X10_demand rfl rfl rfl (by decide +kernel) ⟨Nat.le_of_ble_eq_true rfl, Nat.le_of_ble_eq_true rfl⟩) (he_preV (wc := [(oX10 x0 y0 ta z0 p0 dr pa to_ s0 im ki tr v0 rf), (aI g rf 3 rc)]) hK hP hD hS hA hE [0, 1] rfl rfl 0 rfl rfl) rfl rfl hl.1 rfl (lv_room (Nat.le_of_ble_eq_true rfl)) dX10_odds_26 ⟨(Nat.le_of_ble_eq_true rfl), (Nat.le_of_ble_eq_true rfl)⟩) hP hD hS hA [0, 1] [] rfl rfl rfl (by decide) (fun ce q9 H locs hP hD hS hce hcv hcl => ?_)
    have hP : va_P g.1 vwCl [(oX10 x0 y0 ta z0 p0 dr pa to_ s0 im ki tr v0 rf), (aI g rf 3 (upd rc 2 (rc 2 + 1)))] H := hP
    have hD : va_D A [(oX10 x0 y0 ta z0 p0 dr pa to_ s0 im ki tr v0 rf), (aI g rf 3 (upd rc 2 (rc 2 + 1)))] := hD
    exact he_out hQ hlk hne hP hD hS hce hcv hcl (Nat.le_of_ble_eq_true rfl) (Nat.le_of_ble_eq_true rfl)
  · refine lv_iload_n hx hb dX10_odds_11 rfl (lv_at hl 2 rfl) ?_
    refine lv_iconst (v := 1) hx hb dX10_odds_12 (by decide) ?_
    refine lv_bipush (v := 99) hx hb dX10_odds_13 (by decide) ?_
    refine he_ci (wc := []) (wr := [(oX10 x0 y0 ta z0 p0 dr pa to_ s0 im ki tr v0 rf), (aI g rf 3 rc)]) (va_runS (As := [.int y, .int 1, .int 99]) (rest := [.ref x0]) ⟨hx, hb, hml, hown, hts⟩ (c_X10_within l g y 1 99 H.size) (va_cwS 3 hts gX10_odds_X10_within rfl rfl rfl (by decide +kernel) ⟨Nat.le_of_ble_eq_true rfl, Nat.le_of_ble_eq_true rfl⟩) (he_preS (wc := []) hK hP hD hS hA hE [] rfl rfl) rfl rfl hl.1 rfl (lv_room (Nat.le_of_ble_eq_true rfl)) dX10_odds_15 ⟨(Nat.le_of_ble_eq_true rfl), (Nat.le_of_ble_eq_true rfl)⟩) hP hD hS hA [] [0, 1] rfl rfl rfl (by decide) (fun r_5 u_6 H locs h_7 hP hD hS => ?_)
    subst h_7
    have hP : va_P g.1 vwCl [(oX10 x0 y0 ta z0 p0 dr pa to_ s0 im ki tr v0 rf), (aI g rf 3 rc)] H := hP
    have hD : va_D A [(oX10 x0 y0 ta z0 p0 dr pa to_ s0 im ki tr v0 rf), (aI g rf 3 rc)] := hD
    refine lv_if_eq (tgt := 25) hx hb dX10_odds_18 (by decide) (fun c_8 => ?_) (fun c_8 => ?_)
    · refine lv_iconst (v := 0) hx hb dX10_odds_25 (by decide) ?_
      refine he_xv (En := "java/lang/IllegalArgumentException") (wx := [(oX10 x0 y0 ta z0 p0 dr pa to_ s0 im ki tr v0 rf), (aI g rf 3 (upd rc 2 (rc 2 + 1)))]) (wc := [(oX10 x0 y0 ta z0 p0 dr pa to_ s0 im ki tr v0 rf), (aI g rf 3 rc)]) (wr := []) (vx_runV (As := [.int 0]) (rest := []) ⟨hx, hb, hml, hown, hts⟩ (g_X10_demand0 l g x0 y0 z0 p0 dr pa s0 im tr v0 rf ta to_ ki rc hlt H.size) (cwV 1 hts gX10_odds_X10_demand rfl rfl rfl (by decide +kernel) ⟨Nat.le_of_ble_eq_true rfl, Nat.le_of_ble_eq_true rfl⟩) (he_preV (wc := [(oX10 x0 y0 ta z0 p0 dr pa to_ s0 im ki tr v0 rf), (aI g rf 3 rc)]) hK hP hD hS hA hE [0, 1] rfl rfl 0 rfl rfl) rfl rfl hl.1 rfl (lv_room (Nat.le_of_ble_eq_true rfl)) dX10_odds_26 ⟨(Nat.le_of_ble_eq_true rfl), (Nat.le_of_ble_eq_true rfl)⟩) hP hD hS hA [0, 1] [] rfl rfl rfl (by decide) (fun ce q9 H locs hP hD hS hce hcv hcl => ?_)
      have hP : va_P g.1 vwCl [(oX10 x0 y0 ta z0 p0 dr pa to_ s0 im ki tr v0 rf), (aI g rf 3 (upd rc 2 (rc 2 + 1)))] H := hP
      have hD : va_D A [(oX10 x0 y0 ta z0 p0 dr pa to_ s0 im ki tr v0 rf), (aI g rf 3 (upd rc 2 (rc 2 + 1)))] := hD
      exact he_out hQ hlk hne hP hD hS hce hcv hcl (Nat.le_of_ble_eq_true rfl) (Nat.le_of_ble_eq_true rfl)
    · refine lv_iconst (v := 1) hx hb dX10_odds_21 (by decide) ?_
      refine lv_goto (tgt := 26) hx hb dX10_odds_22 (by decide) ?_
      exact absurd hbad (by rintro (h9 | h9) <;> contradiction)
end
section
set_option maxHeartbeats 4000000 in
set_option maxRecDepth 100000 in
theorem g_X10_kindX (l : Launch) (g : he_G) (x0 : Nat) (y0 : Nat) (z0 : Nat) (p0 : Nat) (dr : Nat) (pa : Nat) (s0 : Nat) (im : Nat) (tr : Nat) (v0 : Nat) (rf : Nat) (ta : Int32) (to_ : Int32) (ki : Int32) (rc : Nat → Int32) (x : Int32) (y : Int32) (z : Int32) (hlt : l.stackTraces = false) (hbad : he_within x 0 3 = 0 ∨ he_within y 1 16 = 0 ∨ he_within z 1 16 = 0) : he_T he_QTv l yX10_kind wsX10_kind 7 103 1 6 g [.ref x0, .int x, .int y, .int z] [(oX10 x0 y0 ta z0 p0 dr pa to_ s0 im ki tr v0 rf), (aI g rf 3 rc)] "java/lang/IllegalArgumentException" [(oX10 x0 y0 ta z0 p0 dr pa to_ s0 im ki tr v0 rf), (aI g rf 3 (upd rc 2 (rc 2 + 1)))] := by
  refine he_beginX (l := l) (g := g) (y := yX10_kind) (wl := wsX10_kind) (fr := 7) (lo := 103) (mc := 1) (ms := 6) (av := [.ref x0, .int x, .int y, .int z]) (ws := [(oX10 x0 y0 ta z0 p0 dr pa to_ s0 im ki tr v0 rf), (aI g rf 3 rc)]) (cc := cX10_kind) (maxL := 4) (ret := none) he_QTv (by decide) rfl (Nat.le_of_ble_eq_true rfl) ?_
  intro p e s m args below meth c A ls H locs Q hQ hne hB
  obtain ⟨hx, hb, hr, hml, hown, hts, hlk, hin, hP, hK, hD, hS, hA, hE, hl⟩ := hB
  have hl : lv_has ls 4 [(0, .ref x0), (1, .int x), (2, .int y), (3, .int z)] := hl
  refine lv_aload_n hx hb dX10_kind_0 rfl (lv_at hl 0 rfl) ?_
  refine lv_iload_n hx hb dX10_kind_1 rfl (lv_at hl 1 rfl) ?_
  refine lv_iconst (v := 0) hx hb dX10_kind_2 (by decide) ?_
  refine lv_iconst (v := 3) hx hb dX10_kind_3 (by decide) ?_
  refine he_ci (wc := []) (wr := [(oX10 x0 y0 ta z0 p0 dr pa to_ s0 im ki tr v0 rf), (aI g rf 3 rc)]) (va_runS (As := [.int x, .int 0, .int 3]) (rest := [.ref x0]) ⟨hx, hb, hml, hown, hts⟩ (c_X10_within l g x 0 3 H.size) (va_cwS 3 hts gX10_kind_X10_within rfl rfl rfl (by decide +kernel) ⟨Nat.le_of_ble_eq_true rfl, Nat.le_of_ble_eq_true rfl⟩) (he_preS (wc := []) hK hP hD hS hA hE [] rfl rfl) rfl rfl hl.1 rfl (lv_room (Nat.le_of_ble_eq_true rfl)) dX10_kind_4 ⟨(Nat.le_of_ble_eq_true rfl), (Nat.le_of_ble_eq_true rfl)⟩) hP hD hS hA [] [0, 1] rfl rfl rfl (by decide) (fun r_1 u_2 H locs h_3 hP hD hS => ?_)
  subst h_3
  have hP : va_P g.1 vwCl [(oX10 x0 y0 ta z0 p0 dr pa to_ s0 im ki tr v0 rf), (aI g rf 3 rc)] H := hP
  have hD : va_D A [(oX10 x0 y0 ta z0 p0 dr pa to_ s0 im ki tr v0 rf), (aI g rf 3 rc)] := hD
  refine lv_if_eq (tgt := 34) hx hb dX10_kind_7 (by decide) (fun c_4 => ?_) (fun c_4 => ?_)
  · refine lv_iconst (v := 0) hx hb dX10_kind_34 (by decide) ?_
    refine he_xv (En := "java/lang/IllegalArgumentException") (wx := [(oX10 x0 y0 ta z0 p0 dr pa to_ s0 im ki tr v0 rf), (aI g rf 3 (upd rc 2 (rc 2 + 1)))]) (wc := [(oX10 x0 y0 ta z0 p0 dr pa to_ s0 im ki tr v0 rf), (aI g rf 3 rc)]) (wr := []) (vx_runV (As := [.int 0]) (rest := []) ⟨hx, hb, hml, hown, hts⟩ (g_X10_demand0 l g x0 y0 z0 p0 dr pa s0 im tr v0 rf ta to_ ki rc hlt H.size) (cwV 1 hts gX10_kind_X10_demand rfl rfl rfl (by decide +kernel) ⟨Nat.le_of_ble_eq_true rfl, Nat.le_of_ble_eq_true rfl⟩) (he_preV (wc := [(oX10 x0 y0 ta z0 p0 dr pa to_ s0 im ki tr v0 rf), (aI g rf 3 rc)]) hK hP hD hS hA hE [0, 1] rfl rfl 0 rfl rfl) rfl rfl hl.1 rfl (lv_room (Nat.le_of_ble_eq_true rfl)) dX10_kind_35 ⟨(Nat.le_of_ble_eq_true rfl), (Nat.le_of_ble_eq_true rfl)⟩) hP hD hS hA [0, 1] [] rfl rfl rfl (by decide) (fun ce q9 H locs hP hD hS hce hcv hcl => ?_)
    have hP : va_P g.1 vwCl [(oX10 x0 y0 ta z0 p0 dr pa to_ s0 im ki tr v0 rf), (aI g rf 3 (upd rc 2 (rc 2 + 1)))] H := hP
    have hD : va_D A [(oX10 x0 y0 ta z0 p0 dr pa to_ s0 im ki tr v0 rf), (aI g rf 3 (upd rc 2 (rc 2 + 1)))] := hD
    exact he_out hQ hlk hne hP hD hS hce hcv hcl (Nat.le_of_ble_eq_true rfl) (Nat.le_of_ble_eq_true rfl)
  · refine lv_iload_n hx hb dX10_kind_10 rfl (lv_at hl 2 rfl) ?_
    refine lv_iconst (v := 1) hx hb dX10_kind_11 (by decide) ?_
    refine lv_bipush (v := 16) hx hb dX10_kind_12 (by decide) ?_
    refine he_ci (wc := []) (wr := [(oX10 x0 y0 ta z0 p0 dr pa to_ s0 im ki tr v0 rf), (aI g rf 3 rc)]) (va_runS (As := [.int y, .int 1, .int 16]) (rest := [.ref x0]) ⟨hx, hb, hml, hown, hts⟩ (c_X10_within l g y 1 16 H.size) (va_cwS 3 hts gX10_kind_X10_within rfl rfl rfl (by decide +kernel) ⟨Nat.le_of_ble_eq_true rfl, Nat.le_of_ble_eq_true rfl⟩) (he_preS (wc := []) hK hP hD hS hA hE [] rfl rfl) rfl rfl hl.1 rfl (lv_room (Nat.le_of_ble_eq_true rfl)) dX10_kind_14 ⟨(Nat.le_of_ble_eq_true rfl), (Nat.le_of_ble_eq_true rfl)⟩) hP hD hS hA [] [0, 1] rfl rfl rfl (by decide) (fun r_5 u_6 H locs h_7 hP hD hS => ?_)
    subst h_7
    have hP : va_P g.1 vwCl [(oX10 x0 y0 ta z0 p0 dr pa to_ s0 im ki tr v0 rf), (aI g rf 3 rc)] H := hP
    have hD : va_D A [(oX10 x0 y0 ta z0 p0 dr pa to_ s0 im ki tr v0 rf), (aI g rf 3 rc)] := hD
    refine lv_if_eq (tgt := 34) hx hb dX10_kind_17 (by decide) (fun c_8 => ?_) (fun c_8 => ?_)
    · refine lv_iconst (v := 0) hx hb dX10_kind_34 (by decide) ?_
      refine he_xv (En := "java/lang/IllegalArgumentException") (wx := [(oX10 x0 y0 ta z0 p0 dr pa to_ s0 im ki tr v0 rf), (aI g rf 3 (upd rc 2 (rc 2 + 1)))]) (wc := [(oX10 x0 y0 ta z0 p0 dr pa to_ s0 im ki tr v0 rf), (aI g rf 3 rc)]) (wr := []) (vx_runV (As := [.int 0]) (rest := []) ⟨hx, hb, hml, hown, hts⟩ (g_X10_demand0 l g x0 y0 z0 p0 dr pa s0 im tr v0 rf ta to_ ki rc hlt H.size) (cwV 1 hts gX10_kind_X10_demand rfl rfl rfl (by decide +kernel) ⟨Nat.le_of_ble_eq_true rfl, Nat.le_of_ble_eq_true rfl⟩) (he_preV (wc := [(oX10 x0 y0 ta z0 p0 dr pa to_ s0 im ki tr v0 rf), (aI g rf 3 rc)]) hK hP hD hS hA hE [0, 1] rfl rfl 0 rfl rfl) rfl rfl hl.1 rfl (lv_room (Nat.le_of_ble_eq_true rfl)) dX10_kind_35 ⟨(Nat.le_of_ble_eq_true rfl), (Nat.le_of_ble_eq_true rfl)⟩) hP hD hS hA [0, 1] [] rfl rfl rfl (by decide) (fun ce q9 H locs hP hD hS hce hcv hcl => ?_)
      have hP : va_P g.1 vwCl [(oX10 x0 y0 ta z0 p0 dr pa to_ s0 im ki tr v0 rf), (aI g rf 3 (upd rc 2 (rc 2 + 1)))] H := hP
      have hD : va_D A [(oX10 x0 y0 ta z0 p0 dr pa to_ s0 im ki tr v0 rf), (aI g rf 3 (upd rc 2 (rc 2 + 1)))] := hD
      exact he_out hQ hlk hne hP hD hS hce hcv hcl (Nat.le_of_ble_eq_true rfl) (Nat.le_of_ble_eq_true rfl)
    · refine lv_iload_n hx hb dX10_kind_20 rfl (lv_at hl 3 rfl) ?_
      refine lv_iconst (v := 1) hx hb dX10_kind_21 (by decide) ?_
      refine lv_bipush (v := 16) hx hb dX10_kind_22 (by decide) ?_
      refine he_ci (wc := []) (wr := [(oX10 x0 y0 ta z0 p0 dr pa to_ s0 im ki tr v0 rf), (aI g rf 3 rc)]) (va_runS (As := [.int z, .int 1, .int 16]) (rest := [.ref x0]) ⟨hx, hb, hml, hown, hts⟩ (c_X10_within l g z 1 16 H.size) (va_cwS 3 hts gX10_kind_X10_within rfl rfl rfl (by decide +kernel) ⟨Nat.le_of_ble_eq_true rfl, Nat.le_of_ble_eq_true rfl⟩) (he_preS (wc := []) hK hP hD hS hA hE [] rfl rfl) rfl rfl hl.1 rfl (lv_room (Nat.le_of_ble_eq_true rfl)) dX10_kind_24 ⟨(Nat.le_of_ble_eq_true rfl), (Nat.le_of_ble_eq_true rfl)⟩) hP hD hS hA [] [0, 1] rfl rfl rfl (by decide) (fun r_9 u_10 H locs h_11 hP hD hS => ?_)
      subst h_11
      have hP : va_P g.1 vwCl [(oX10 x0 y0 ta z0 p0 dr pa to_ s0 im ki tr v0 rf), (aI g rf 3 rc)] H := hP
      have hD : va_D A [(oX10 x0 y0 ta z0 p0 dr pa to_ s0 im ki tr v0 rf), (aI g rf 3 rc)] := hD
      refine lv_if_eq (tgt := 34) hx hb dX10_kind_27 (by decide) (fun c_12 => ?_) (fun c_12 => ?_)
      · refine lv_iconst (v := 0) hx hb dX10_kind_34 (by decide) ?_
        refine he_xv (En := "java/lang/IllegalArgumentException") (wx := [(oX10 x0 y0 ta z0 p0 dr pa to_ s0 im ki tr v0 rf), (aI g rf 3 (upd rc 2 (rc 2 + 1)))]) (wc := [(oX10 x0 y0 ta z0 p0 dr pa to_ s0 im ki tr v0 rf), (aI g rf 3 rc)]) (wr := []) (vx_runV (As := [.int 0]) (rest := []) ⟨hx, hb, hml, hown, hts⟩ (g_X10_demand0 l g x0 y0 z0 p0 dr pa s0 im tr v0 rf ta to_ ki rc hlt H.size) (cwV 1 hts gX10_kind_X10_demand rfl rfl rfl (by decide +kernel) ⟨Nat.le_of_ble_eq_true rfl, Nat.le_of_ble_eq_true rfl⟩) (he_preV (wc := [(oX10 x0 y0 ta z0 p0 dr pa to_ s0 im ki tr v0 rf), (aI g rf 3 rc)]) hK hP hD hS hA hE [0, 1] rfl rfl 0 rfl rfl) rfl rfl hl.1 rfl (lv_room (Nat.le_of_ble_eq_true rfl)) dX10_kind_35 ⟨(Nat.le_of_ble_eq_true rfl), (Nat.le_of_ble_eq_true rfl)⟩) hP hD hS hA [0, 1] [] rfl rfl rfl (by decide) (fun ce q9 H locs hP hD hS hce hcv hcl => ?_)
        have hP : va_P g.1 vwCl [(oX10 x0 y0 ta z0 p0 dr pa to_ s0 im ki tr v0 rf), (aI g rf 3 (upd rc 2 (rc 2 + 1)))] H := hP
        have hD : va_D A [(oX10 x0 y0 ta z0 p0 dr pa to_ s0 im ki tr v0 rf), (aI g rf 3 (upd rc 2 (rc 2 + 1)))] := hD
        exact he_out hQ hlk hne hP hD hS hce hcv hcl (Nat.le_of_ble_eq_true rfl) (Nat.le_of_ble_eq_true rfl)
      · refine lv_iconst (v := 1) hx hb dX10_kind_30 (by decide) ?_
        refine lv_goto (tgt := 35) hx hb dX10_kind_31 (by decide) ?_
        exact absurd hbad (by rintro (h9 | h9 | h9) <;> contradiction)
set_option maxHeartbeats 4000000 in
set_option maxRecDepth 100000 in
theorem g_X10_seenX (l : Launch) (g : he_G) (x0 : Nat) (y0 : Nat) (z0 : Nat) (p0 : Nat) (dr : Nat) (pa : Nat) (s0 : Nat) (im : Nat) (tr : Nat) (v0 : Nat) (rf : Nat) (ta : Int32) (to_ : Int32) (ki : Int32) (rc : Nat → Int32) (x : Int32) (hlt : l.stackTraces = false) (hbad : he_within x 0 3 = 0) : he_T he_QTi l yX10_seen wsX10_seen 7 103 1 6 g [.ref x0, .int x] [(oX10 x0 y0 ta z0 p0 dr pa to_ s0 im ki tr v0 rf), (aI g rf 3 rc)] "java/lang/IllegalArgumentException" [(oX10 x0 y0 ta z0 p0 dr pa to_ s0 im ki tr v0 rf), (aI g rf 3 (upd rc 2 (rc 2 + 1)))] := by
  refine he_beginX (l := l) (g := g) (y := yX10_seen) (wl := wsX10_seen) (fr := 7) (lo := 103) (mc := 1) (ms := 6) (av := [.ref x0, .int x]) (ws := [(oX10 x0 y0 ta z0 p0 dr pa to_ s0 im ki tr v0 rf), (aI g rf 3 rc)]) (cc := cX10_seen) (maxL := 3) (ret := (some .int)) he_QTi (by decide) rfl (Nat.le_of_ble_eq_true rfl) ?_
  intro p e s m args below meth c A ls H locs Q hQ hne hB
  obtain ⟨hx, hb, hr, hml, hown, hts, hlk, hin, hP, hK, hD, hS, hA, hE, hl⟩ := hB
  have hl : lv_has ls 3 [(0, .ref x0), (1, .int x)] := hl
  refine lv_aload_n hx hb dX10_seen_0 rfl (lv_at hl 0 rfl) ?_
  refine lv_iload_n hx hb dX10_seen_1 rfl (lv_at hl 1 rfl) ?_
  refine lv_iconst (v := 0) hx hb dX10_seen_2 (by decide) ?_
  refine lv_iconst (v := 3) hx hb dX10_seen_3 (by decide) ?_
  refine he_ci (wc := []) (wr := [(oX10 x0 y0 ta z0 p0 dr pa to_ s0 im ki tr v0 rf), (aI g rf 3 rc)]) (va_runS (As := [.int x, .int 0, .int 3]) (rest := [.ref x0]) ⟨hx, hb, hml, hown, hts⟩ (c_X10_within l g x 0 3 H.size) (va_cwS 3 hts gX10_seen_X10_within rfl rfl rfl (by decide +kernel) ⟨Nat.le_of_ble_eq_true rfl, Nat.le_of_ble_eq_true rfl⟩) (he_preS (wc := []) hK hP hD hS hA hE [] rfl rfl) rfl rfl hl.1 rfl (lv_room (Nat.le_of_ble_eq_true rfl)) dX10_seen_4 ⟨(Nat.le_of_ble_eq_true rfl), (Nat.le_of_ble_eq_true rfl)⟩) hP hD hS hA [] [0, 1] rfl rfl rfl (by decide) (fun r_1 u_2 H locs h_3 hP hD hS => ?_)
  subst h_3
  have hP : va_P g.1 vwCl [(oX10 x0 y0 ta z0 p0 dr pa to_ s0 im ki tr v0 rf), (aI g rf 3 rc)] H := hP
  have hD : va_D A [(oX10 x0 y0 ta z0 p0 dr pa to_ s0 im ki tr v0 rf), (aI g rf 3 rc)] := hD
  refine he_top (0) hbad ?_
  refine he_xv (En := "java/lang/IllegalArgumentException") (wx := [(oX10 x0 y0 ta z0 p0 dr pa to_ s0 im ki tr v0 rf), (aI g rf 3 (upd rc 2 (rc 2 + 1)))]) (wc := [(oX10 x0 y0 ta z0 p0 dr pa to_ s0 im ki tr v0 rf), (aI g rf 3 rc)]) (wr := []) (vx_runV (As := [.int 0]) (rest := []) ⟨hx, hb, hml, hown, hts⟩ (g_X10_demand0 l g x0 y0 z0 p0 dr pa s0 im tr v0 rf ta to_ ki rc hlt H.size) (cwV 1 hts gX10_seen_X10_demand rfl rfl rfl (by decide +kernel) ⟨Nat.le_of_ble_eq_true rfl, Nat.le_of_ble_eq_true rfl⟩) (he_preV (wc := [(oX10 x0 y0 ta z0 p0 dr pa to_ s0 im ki tr v0 rf), (aI g rf 3 rc)]) hK hP hD hS hA hE [0, 1] rfl rfl 0 rfl rfl) rfl rfl hl.1 rfl (lv_room (Nat.le_of_ble_eq_true rfl)) dX10_seen_7 ⟨(Nat.le_of_ble_eq_true rfl), (Nat.le_of_ble_eq_true rfl)⟩) hP hD hS hA [0, 1] [] rfl rfl rfl (by decide) (fun ce q9 H locs hP hD hS hce hcv hcl => ?_)
  have hP : va_P g.1 vwCl [(oX10 x0 y0 ta z0 p0 dr pa to_ s0 im ki tr v0 rf), (aI g rf 3 (upd rc 2 (rc 2 + 1)))] H := hP
  have hD : va_D A [(oX10 x0 y0 ta z0 p0 dr pa to_ s0 im ki tr v0 rf), (aI g rf 3 (upd rc 2 (rc 2 + 1)))] := hD
  exact he_out hQ hlk hne hP hD hS hce hcv hcl (Nat.le_of_ble_eq_true rfl) (Nat.le_of_ble_eq_true rfl)
set_option maxHeartbeats 4000000 in
set_option maxRecDepth 100000 in
theorem g_X10_spyX (l : Launch) (g : he_G) (x0 : Nat) (y0 : Nat) (z0 : Nat) (p0 : Nat) (dr : Nat) (pa : Nat) (s0 : Nat) (im : Nat) (tr : Nat) (v0 : Nat) (rf : Nat) (ta : Int32) (to_ : Int32) (ki : Int32) (rc : Nat → Int32) (b : Int32) (x : Int32) (hlt : l.stackTraces = false) (hbad : he_within x 1 15 = 0) : he_T he_QTi l yX10_spy wsX10_spy 7 103 1 6 g [.ref x0, .int b, .int x] [(oX10 x0 y0 ta z0 p0 dr pa to_ s0 im ki tr v0 rf), (aI g rf 3 rc)] "java/lang/IllegalArgumentException" [(oX10 x0 y0 ta z0 p0 dr pa to_ s0 im ki tr v0 rf), (aI g rf 3 (upd rc 2 (rc 2 + 1)))] := by
  refine he_beginX (l := l) (g := g) (y := yX10_spy) (wl := wsX10_spy) (fr := 7) (lo := 103) (mc := 1) (ms := 6) (av := [.ref x0, .int b, .int x]) (ws := [(oX10 x0 y0 ta z0 p0 dr pa to_ s0 im ki tr v0 rf), (aI g rf 3 rc)]) (cc := cX10_spy) (maxL := 4) (ret := (some .int)) he_QTi (by decide) rfl (Nat.le_of_ble_eq_true rfl) ?_
  intro p e s m args below meth c A ls H locs Q hQ hne hB
  obtain ⟨hx, hb, hr, hml, hown, hts, hlk, hin, hP, hK, hD, hS, hA, hE, hl⟩ := hB
  have hl : lv_has ls 4 [(0, .ref x0), (1, .int b), (2, .int x)] := hl
  refine lv_aload_n hx hb dX10_spy_0 rfl (lv_at hl 0 rfl) ?_
  refine lv_iload_n hx hb dX10_spy_1 rfl (lv_at hl 2 rfl) ?_
  refine lv_iconst (v := 1) hx hb dX10_spy_2 (by decide) ?_
  refine lv_bipush (v := 15) hx hb dX10_spy_3 (by decide) ?_
  refine he_ci (wc := []) (wr := [(oX10 x0 y0 ta z0 p0 dr pa to_ s0 im ki tr v0 rf), (aI g rf 3 rc)]) (va_runS (As := [.int x, .int 1, .int 15]) (rest := [.ref x0]) ⟨hx, hb, hml, hown, hts⟩ (c_X10_within l g x 1 15 H.size) (va_cwS 3 hts gX10_spy_X10_within rfl rfl rfl (by decide +kernel) ⟨Nat.le_of_ble_eq_true rfl, Nat.le_of_ble_eq_true rfl⟩) (he_preS (wc := []) hK hP hD hS hA hE [] rfl rfl) rfl rfl hl.1 rfl (lv_room (Nat.le_of_ble_eq_true rfl)) dX10_spy_5 ⟨(Nat.le_of_ble_eq_true rfl), (Nat.le_of_ble_eq_true rfl)⟩) hP hD hS hA [] [0, 1] rfl rfl rfl (by decide) (fun r_1 u_2 H locs h_3 hP hD hS => ?_)
  subst h_3
  have hP : va_P g.1 vwCl [(oX10 x0 y0 ta z0 p0 dr pa to_ s0 im ki tr v0 rf), (aI g rf 3 rc)] H := hP
  have hD : va_D A [(oX10 x0 y0 ta z0 p0 dr pa to_ s0 im ki tr v0 rf), (aI g rf 3 rc)] := hD
  refine he_top (0) hbad ?_
  refine he_xv (En := "java/lang/IllegalArgumentException") (wx := [(oX10 x0 y0 ta z0 p0 dr pa to_ s0 im ki tr v0 rf), (aI g rf 3 (upd rc 2 (rc 2 + 1)))]) (wc := [(oX10 x0 y0 ta z0 p0 dr pa to_ s0 im ki tr v0 rf), (aI g rf 3 rc)]) (wr := []) (vx_runV (As := [.int 0]) (rest := []) ⟨hx, hb, hml, hown, hts⟩ (g_X10_demand0 l g x0 y0 z0 p0 dr pa s0 im tr v0 rf ta to_ ki rc hlt H.size) (cwV 1 hts gX10_spy_X10_demand rfl rfl rfl (by decide +kernel) ⟨Nat.le_of_ble_eq_true rfl, Nat.le_of_ble_eq_true rfl⟩) (he_preV (wc := [(oX10 x0 y0 ta z0 p0 dr pa to_ s0 im ki tr v0 rf), (aI g rf 3 rc)]) hK hP hD hS hA hE [0, 1] rfl rfl 0 rfl rfl) rfl rfl hl.1 rfl (lv_room (Nat.le_of_ble_eq_true rfl)) dX10_spy_8 ⟨(Nat.le_of_ble_eq_true rfl), (Nat.le_of_ble_eq_true rfl)⟩) hP hD hS hA [0, 1] [] rfl rfl rfl (by decide) (fun ce q9 H locs hP hD hS hce hcv hcl => ?_)
  have hP : va_P g.1 vwCl [(oX10 x0 y0 ta z0 p0 dr pa to_ s0 im ki tr v0 rf), (aI g rf 3 (upd rc 2 (rc 2 + 1)))] H := hP
  have hD : va_D A [(oX10 x0 y0 ta z0 p0 dr pa to_ s0 im ki tr v0 rf), (aI g rf 3 (upd rc 2 (rc 2 + 1)))] := hD
  exact he_out hQ hlk hne hP hD hS hce hcv hcl (Nat.le_of_ble_eq_true rfl) (Nat.le_of_ble_eq_true rfl)
set_option maxHeartbeats 4000000 in
set_option maxRecDepth 100000 in
theorem g_X10_believedX (l : Launch) (g : he_G) (x0 : Nat) (y0 : Nat) (z0 : Nat) (p0 : Nat) (dr : Nat) (pa : Nat) (s0 : Nat) (im : Nat) (tr : Nat) (v0 : Nat) (rf : Nat) (ta : Int32) (to_ : Int32) (ki : Int32) (rc : Nat → Int32) (x : Int32) (hlt : l.stackTraces = false) (hbad : he_within x 0 1 = 0) : he_T he_QTj l yX10_believed wsX10_believed 7 103 1 6 g [.ref x0, .int x] [(oX10 x0 y0 ta z0 p0 dr pa to_ s0 im ki tr v0 rf), (aI g rf 3 rc)] "java/lang/IllegalArgumentException" [(oX10 x0 y0 ta z0 p0 dr pa to_ s0 im ki tr v0 rf), (aI g rf 3 (upd rc 2 (rc 2 + 1)))] := by
  refine he_beginX (l := l) (g := g) (y := yX10_believed) (wl := wsX10_believed) (fr := 7) (lo := 103) (mc := 1) (ms := 6) (av := [.ref x0, .int x]) (ws := [(oX10 x0 y0 ta z0 p0 dr pa to_ s0 im ki tr v0 rf), (aI g rf 3 rc)]) (cc := cX10_believed) (maxL := 2) (ret := (some .long)) he_QTj (by decide) rfl (Nat.le_of_ble_eq_true rfl) ?_
  intro p e s m args below meth c A ls H locs Q hQ hne hB
  obtain ⟨hx, hb, hr, hml, hown, hts, hlk, hin, hP, hK, hD, hS, hA, hE, hl⟩ := hB
  have hl : lv_has ls 2 [(0, .ref x0), (1, .int x)] := hl
  refine lv_aload_n hx hb dX10_believed_0 rfl (lv_at hl 0 rfl) ?_
  refine lv_iload_n hx hb dX10_believed_1 rfl (lv_at hl 1 rfl) ?_
  refine lv_iconst (v := 0) hx hb dX10_believed_2 (by decide) ?_
  refine lv_iconst (v := 1) hx hb dX10_believed_3 (by decide) ?_
  refine he_ci (wc := []) (wr := [(oX10 x0 y0 ta z0 p0 dr pa to_ s0 im ki tr v0 rf), (aI g rf 3 rc)]) (va_runS (As := [.int x, .int 0, .int 1]) (rest := [.ref x0]) ⟨hx, hb, hml, hown, hts⟩ (c_X10_within l g x 0 1 H.size) (va_cwS 3 hts gX10_believed_X10_within rfl rfl rfl (by decide +kernel) ⟨Nat.le_of_ble_eq_true rfl, Nat.le_of_ble_eq_true rfl⟩) (he_preS (wc := []) hK hP hD hS hA hE [] rfl rfl) rfl rfl hl.1 rfl (lv_room (Nat.le_of_ble_eq_true rfl)) dX10_believed_4 ⟨(Nat.le_of_ble_eq_true rfl), (Nat.le_of_ble_eq_true rfl)⟩) hP hD hS hA [] [0, 1] rfl rfl rfl (by decide) (fun r_1 u_2 H locs h_3 hP hD hS => ?_)
  subst h_3
  have hP : va_P g.1 vwCl [(oX10 x0 y0 ta z0 p0 dr pa to_ s0 im ki tr v0 rf), (aI g rf 3 rc)] H := hP
  have hD : va_D A [(oX10 x0 y0 ta z0 p0 dr pa to_ s0 im ki tr v0 rf), (aI g rf 3 rc)] := hD
  refine he_top (0) hbad ?_
  refine he_xv (En := "java/lang/IllegalArgumentException") (wx := [(oX10 x0 y0 ta z0 p0 dr pa to_ s0 im ki tr v0 rf), (aI g rf 3 (upd rc 2 (rc 2 + 1)))]) (wc := [(oX10 x0 y0 ta z0 p0 dr pa to_ s0 im ki tr v0 rf), (aI g rf 3 rc)]) (wr := []) (vx_runV (As := [.int 0]) (rest := []) ⟨hx, hb, hml, hown, hts⟩ (g_X10_demand0 l g x0 y0 z0 p0 dr pa s0 im tr v0 rf ta to_ ki rc hlt H.size) (cwV 1 hts gX10_believed_X10_demand rfl rfl rfl (by decide +kernel) ⟨Nat.le_of_ble_eq_true rfl, Nat.le_of_ble_eq_true rfl⟩) (he_preV (wc := [(oX10 x0 y0 ta z0 p0 dr pa to_ s0 im ki tr v0 rf), (aI g rf 3 rc)]) hK hP hD hS hA hE [0, 1] rfl rfl 0 rfl rfl) rfl rfl hl.1 rfl (lv_room (Nat.le_of_ble_eq_true rfl)) dX10_believed_7 ⟨(Nat.le_of_ble_eq_true rfl), (Nat.le_of_ble_eq_true rfl)⟩) hP hD hS hA [0, 1] [] rfl rfl rfl (by decide) (fun ce q9 H locs hP hD hS hce hcv hcl => ?_)
  have hP : va_P g.1 vwCl [(oX10 x0 y0 ta z0 p0 dr pa to_ s0 im ki tr v0 rf), (aI g rf 3 (upd rc 2 (rc 2 + 1)))] H := hP
  have hD : va_D A [(oX10 x0 y0 ta z0 p0 dr pa to_ s0 im ki tr v0 rf), (aI g rf 3 (upd rc 2 (rc 2 + 1)))] := hD
  exact he_out hQ hlk hne hP hD hS hce hcv hcl (Nat.le_of_ble_eq_true rfl) (Nat.le_of_ble_eq_true rfl)
set_option maxHeartbeats 4000000 in
set_option maxRecDepth 100000 in
theorem g_X10_earnestX (l : Launch) (g : he_G) (x0 : Nat) (y0 : Nat) (z0 : Nat) (p0 : Nat) (dr : Nat) (pa : Nat) (s0 : Nat) (im : Nat) (tr : Nat) (v0 : Nat) (rf : Nat) (ta : Int32) (to_ : Int32) (ki : Int32) (rc : Nat → Int32) (x : Int32) (y : Int32) (z : Int32) (hlt : l.stackTraces = false) (hbad : he_within x 0 6 = 0 ∨ he_within y 0 6 = 0 ∨ he_within z 0 1 = 0) : he_T he_QTi l yX10_earnest wsX10_earnest 7 103 1 6 g [.ref x0, .int x, .int y, .int z] [(oX10 x0 y0 ta z0 p0 dr pa to_ s0 im ki tr v0 rf), (aI g rf 3 rc)] "java/lang/IllegalArgumentException" [(oX10 x0 y0 ta z0 p0 dr pa to_ s0 im ki tr v0 rf), (aI g rf 3 (upd rc 2 (rc 2 + 1)))] := by
  refine he_beginX (l := l) (g := g) (y := yX10_earnest) (wl := wsX10_earnest) (fr := 7) (lo := 103) (mc := 1) (ms := 6) (av := [.ref x0, .int x, .int y, .int z]) (ws := [(oX10 x0 y0 ta z0 p0 dr pa to_ s0 im ki tr v0 rf), (aI g rf 3 rc)]) (cc := cX10_earnest) (maxL := 4) (ret := (some .int)) he_QTi (by decide) rfl (Nat.le_of_ble_eq_true rfl) ?_
  intro p e s m args below meth c A ls H locs Q hQ hne hB
  obtain ⟨hx, hb, hr, hml, hown, hts, hlk, hin, hP, hK, hD, hS, hA, hE, hl⟩ := hB
  have hl : lv_has ls 4 [(0, .ref x0), (1, .int x), (2, .int y), (3, .int z)] := hl
  refine lv_aload_n hx hb dX10_earnest_0 rfl (lv_at hl 0 rfl) ?_
  refine lv_iload_n hx hb dX10_earnest_1 rfl (lv_at hl 1 rfl) ?_
  refine lv_iconst (v := 0) hx hb dX10_earnest_2 (by decide) ?_
  refine lv_bipush (v := 6) hx hb dX10_earnest_3 (by decide) ?_
  refine he_ci (wc := []) (wr := [(oX10 x0 y0 ta z0 p0 dr pa to_ s0 im ki tr v0 rf), (aI g rf 3 rc)]) (va_runS (As := [.int x, .int 0, .int 6]) (rest := [.ref x0]) ⟨hx, hb, hml, hown, hts⟩ (c_X10_within l g x 0 6 H.size) (va_cwS 3 hts gX10_earnest_X10_within rfl rfl rfl (by decide +kernel) ⟨Nat.le_of_ble_eq_true rfl, Nat.le_of_ble_eq_true rfl⟩) (he_preS (wc := []) hK hP hD hS hA hE [] rfl rfl) rfl rfl hl.1 rfl (lv_room (Nat.le_of_ble_eq_true rfl)) dX10_earnest_5 ⟨(Nat.le_of_ble_eq_true rfl), (Nat.le_of_ble_eq_true rfl)⟩) hP hD hS hA [] [0, 1] rfl rfl rfl (by decide) (fun r_1 u_2 H locs h_3 hP hD hS => ?_)
  subst h_3
  have hP : va_P g.1 vwCl [(oX10 x0 y0 ta z0 p0 dr pa to_ s0 im ki tr v0 rf), (aI g rf 3 rc)] H := hP
  have hD : va_D A [(oX10 x0 y0 ta z0 p0 dr pa to_ s0 im ki tr v0 rf), (aI g rf 3 rc)] := hD
  refine lv_if_eq (tgt := 34) hx hb dX10_earnest_8 (by decide) (fun c_4 => ?_) (fun c_4 => ?_)
  · refine lv_iconst (v := 0) hx hb dX10_earnest_34 (by decide) ?_
    refine he_xv (En := "java/lang/IllegalArgumentException") (wx := [(oX10 x0 y0 ta z0 p0 dr pa to_ s0 im ki tr v0 rf), (aI g rf 3 (upd rc 2 (rc 2 + 1)))]) (wc := [(oX10 x0 y0 ta z0 p0 dr pa to_ s0 im ki tr v0 rf), (aI g rf 3 rc)]) (wr := []) (vx_runV (As := [.int 0]) (rest := []) ⟨hx, hb, hml, hown, hts⟩ (g_X10_demand0 l g x0 y0 z0 p0 dr pa s0 im tr v0 rf ta to_ ki rc hlt H.size) (cwV 1 hts gX10_earnest_X10_demand rfl rfl rfl (by decide +kernel) ⟨Nat.le_of_ble_eq_true rfl, Nat.le_of_ble_eq_true rfl⟩) (he_preV (wc := [(oX10 x0 y0 ta z0 p0 dr pa to_ s0 im ki tr v0 rf), (aI g rf 3 rc)]) hK hP hD hS hA hE [0, 1] rfl rfl 0 rfl rfl) rfl rfl hl.1 rfl (lv_room (Nat.le_of_ble_eq_true rfl)) dX10_earnest_35 ⟨(Nat.le_of_ble_eq_true rfl), (Nat.le_of_ble_eq_true rfl)⟩) hP hD hS hA [0, 1] [] rfl rfl rfl (by decide) (fun ce q9 H locs hP hD hS hce hcv hcl => ?_)
    have hP : va_P g.1 vwCl [(oX10 x0 y0 ta z0 p0 dr pa to_ s0 im ki tr v0 rf), (aI g rf 3 (upd rc 2 (rc 2 + 1)))] H := hP
    have hD : va_D A [(oX10 x0 y0 ta z0 p0 dr pa to_ s0 im ki tr v0 rf), (aI g rf 3 (upd rc 2 (rc 2 + 1)))] := hD
    exact he_out hQ hlk hne hP hD hS hce hcv hcl (Nat.le_of_ble_eq_true rfl) (Nat.le_of_ble_eq_true rfl)
  · refine lv_iload_n hx hb dX10_earnest_11 rfl (lv_at hl 2 rfl) ?_
    refine lv_iconst (v := 0) hx hb dX10_earnest_12 (by decide) ?_
    refine lv_bipush (v := 6) hx hb dX10_earnest_13 (by decide) ?_
    refine he_ci (wc := []) (wr := [(oX10 x0 y0 ta z0 p0 dr pa to_ s0 im ki tr v0 rf), (aI g rf 3 rc)]) (va_runS (As := [.int y, .int 0, .int 6]) (rest := [.ref x0]) ⟨hx, hb, hml, hown, hts⟩ (c_X10_within l g y 0 6 H.size) (va_cwS 3 hts gX10_earnest_X10_within rfl rfl rfl (by decide +kernel) ⟨Nat.le_of_ble_eq_true rfl, Nat.le_of_ble_eq_true rfl⟩) (he_preS (wc := []) hK hP hD hS hA hE [] rfl rfl) rfl rfl hl.1 rfl (lv_room (Nat.le_of_ble_eq_true rfl)) dX10_earnest_15 ⟨(Nat.le_of_ble_eq_true rfl), (Nat.le_of_ble_eq_true rfl)⟩) hP hD hS hA [] [0, 1] rfl rfl rfl (by decide) (fun r_5 u_6 H locs h_7 hP hD hS => ?_)
    subst h_7
    have hP : va_P g.1 vwCl [(oX10 x0 y0 ta z0 p0 dr pa to_ s0 im ki tr v0 rf), (aI g rf 3 rc)] H := hP
    have hD : va_D A [(oX10 x0 y0 ta z0 p0 dr pa to_ s0 im ki tr v0 rf), (aI g rf 3 rc)] := hD
    refine lv_if_eq (tgt := 34) hx hb dX10_earnest_18 (by decide) (fun c_8 => ?_) (fun c_8 => ?_)
    · refine lv_iconst (v := 0) hx hb dX10_earnest_34 (by decide) ?_
      refine he_xv (En := "java/lang/IllegalArgumentException") (wx := [(oX10 x0 y0 ta z0 p0 dr pa to_ s0 im ki tr v0 rf), (aI g rf 3 (upd rc 2 (rc 2 + 1)))]) (wc := [(oX10 x0 y0 ta z0 p0 dr pa to_ s0 im ki tr v0 rf), (aI g rf 3 rc)]) (wr := []) (vx_runV (As := [.int 0]) (rest := []) ⟨hx, hb, hml, hown, hts⟩ (g_X10_demand0 l g x0 y0 z0 p0 dr pa s0 im tr v0 rf ta to_ ki rc hlt H.size) (cwV 1 hts gX10_earnest_X10_demand rfl rfl rfl (by decide +kernel) ⟨Nat.le_of_ble_eq_true rfl, Nat.le_of_ble_eq_true rfl⟩) (he_preV (wc := [(oX10 x0 y0 ta z0 p0 dr pa to_ s0 im ki tr v0 rf), (aI g rf 3 rc)]) hK hP hD hS hA hE [0, 1] rfl rfl 0 rfl rfl) rfl rfl hl.1 rfl (lv_room (Nat.le_of_ble_eq_true rfl)) dX10_earnest_35 ⟨(Nat.le_of_ble_eq_true rfl), (Nat.le_of_ble_eq_true rfl)⟩) hP hD hS hA [0, 1] [] rfl rfl rfl (by decide) (fun ce q9 H locs hP hD hS hce hcv hcl => ?_)
      have hP : va_P g.1 vwCl [(oX10 x0 y0 ta z0 p0 dr pa to_ s0 im ki tr v0 rf), (aI g rf 3 (upd rc 2 (rc 2 + 1)))] H := hP
      have hD : va_D A [(oX10 x0 y0 ta z0 p0 dr pa to_ s0 im ki tr v0 rf), (aI g rf 3 (upd rc 2 (rc 2 + 1)))] := hD
      exact he_out hQ hlk hne hP hD hS hce hcv hcl (Nat.le_of_ble_eq_true rfl) (Nat.le_of_ble_eq_true rfl)
    · refine lv_iload_n hx hb dX10_earnest_21 rfl (lv_at hl 3 rfl) ?_
      refine lv_iconst (v := 0) hx hb dX10_earnest_22 (by decide) ?_
      refine lv_iconst (v := 1) hx hb dX10_earnest_23 (by decide) ?_
      refine he_ci (wc := []) (wr := [(oX10 x0 y0 ta z0 p0 dr pa to_ s0 im ki tr v0 rf), (aI g rf 3 rc)]) (va_runS (As := [.int z, .int 0, .int 1]) (rest := [.ref x0]) ⟨hx, hb, hml, hown, hts⟩ (c_X10_within l g z 0 1 H.size) (va_cwS 3 hts gX10_earnest_X10_within rfl rfl rfl (by decide +kernel) ⟨Nat.le_of_ble_eq_true rfl, Nat.le_of_ble_eq_true rfl⟩) (he_preS (wc := []) hK hP hD hS hA hE [] rfl rfl) rfl rfl hl.1 rfl (lv_room (Nat.le_of_ble_eq_true rfl)) dX10_earnest_24 ⟨(Nat.le_of_ble_eq_true rfl), (Nat.le_of_ble_eq_true rfl)⟩) hP hD hS hA [] [0, 1] rfl rfl rfl (by decide) (fun r_9 u_10 H locs h_11 hP hD hS => ?_)
      subst h_11
      have hP : va_P g.1 vwCl [(oX10 x0 y0 ta z0 p0 dr pa to_ s0 im ki tr v0 rf), (aI g rf 3 rc)] H := hP
      have hD : va_D A [(oX10 x0 y0 ta z0 p0 dr pa to_ s0 im ki tr v0 rf), (aI g rf 3 rc)] := hD
      refine lv_if_eq (tgt := 34) hx hb dX10_earnest_27 (by decide) (fun c_12 => ?_) (fun c_12 => ?_)
      · refine lv_iconst (v := 0) hx hb dX10_earnest_34 (by decide) ?_
        refine he_xv (En := "java/lang/IllegalArgumentException") (wx := [(oX10 x0 y0 ta z0 p0 dr pa to_ s0 im ki tr v0 rf), (aI g rf 3 (upd rc 2 (rc 2 + 1)))]) (wc := [(oX10 x0 y0 ta z0 p0 dr pa to_ s0 im ki tr v0 rf), (aI g rf 3 rc)]) (wr := []) (vx_runV (As := [.int 0]) (rest := []) ⟨hx, hb, hml, hown, hts⟩ (g_X10_demand0 l g x0 y0 z0 p0 dr pa s0 im tr v0 rf ta to_ ki rc hlt H.size) (cwV 1 hts gX10_earnest_X10_demand rfl rfl rfl (by decide +kernel) ⟨Nat.le_of_ble_eq_true rfl, Nat.le_of_ble_eq_true rfl⟩) (he_preV (wc := [(oX10 x0 y0 ta z0 p0 dr pa to_ s0 im ki tr v0 rf), (aI g rf 3 rc)]) hK hP hD hS hA hE [0, 1] rfl rfl 0 rfl rfl) rfl rfl hl.1 rfl (lv_room (Nat.le_of_ble_eq_true rfl)) dX10_earnest_35 ⟨(Nat.le_of_ble_eq_true rfl), (Nat.le_of_ble_eq_true rfl)⟩) hP hD hS hA [0, 1] [] rfl rfl rfl (by decide) (fun ce q9 H locs hP hD hS hce hcv hcl => ?_)
        have hP : va_P g.1 vwCl [(oX10 x0 y0 ta z0 p0 dr pa to_ s0 im ki tr v0 rf), (aI g rf 3 (upd rc 2 (rc 2 + 1)))] H := hP
        have hD : va_D A [(oX10 x0 y0 ta z0 p0 dr pa to_ s0 im ki tr v0 rf), (aI g rf 3 (upd rc 2 (rc 2 + 1)))] := hD
        exact he_out hQ hlk hne hP hD hS hce hcv hcl (Nat.le_of_ble_eq_true rfl) (Nat.le_of_ble_eq_true rfl)
      · refine lv_iconst (v := 1) hx hb dX10_earnest_30 (by decide) ?_
        refine lv_goto (tgt := 35) hx hb dX10_earnest_31 (by decide) ?_
        exact absurd hbad (by rintro (h9 | h9 | h9) <;> contradiction)
set_option maxHeartbeats 4000000 in
set_option maxRecDepth 100000 in
theorem g_X10_standsX (l : Launch) (g : he_G) (x0 : Nat) (y0 : Nat) (z0 : Nat) (p0 : Nat) (dr : Nat) (pa : Nat) (s0 : Nat) (im : Nat) (tr : Nat) (v0 : Nat) (rf : Nat) (ta : Int32) (to_ : Int32) (ki : Int32) (rc : Nat → Int32) (x : Int32) (y : Int32) (hlt : l.stackTraces = false) (hbad : he_within x 0 6 = 0 ∨ he_within y 0 6 = 0) : he_T he_QTi l yX10_stands wsX10_stands 7 103 1 6 g [.ref x0, .int x, .int y] [(oX10 x0 y0 ta z0 p0 dr pa to_ s0 im ki tr v0 rf), (aI g rf 3 rc)] "java/lang/IllegalArgumentException" [(oX10 x0 y0 ta z0 p0 dr pa to_ s0 im ki tr v0 rf), (aI g rf 3 (upd rc 2 (rc 2 + 1)))] := by
  refine he_beginX (l := l) (g := g) (y := yX10_stands) (wl := wsX10_stands) (fr := 7) (lo := 103) (mc := 1) (ms := 6) (av := [.ref x0, .int x, .int y]) (ws := [(oX10 x0 y0 ta z0 p0 dr pa to_ s0 im ki tr v0 rf), (aI g rf 3 rc)]) (cc := cX10_stands) (maxL := 3) (ret := (some .int)) he_QTi (by decide) rfl (Nat.le_of_ble_eq_true rfl) ?_
  intro p e s m args below meth c A ls H locs Q hQ hne hB
  obtain ⟨hx, hb, hr, hml, hown, hts, hlk, hin, hP, hK, hD, hS, hA, hE, hl⟩ := hB
  have hl : lv_has ls 3 [(0, .ref x0), (1, .int x), (2, .int y)] := hl
  refine lv_aload_n hx hb dX10_stands_0 rfl (lv_at hl 0 rfl) ?_
  refine lv_iload_n hx hb dX10_stands_1 rfl (lv_at hl 1 rfl) ?_
  refine lv_iconst (v := 0) hx hb dX10_stands_2 (by decide) ?_
  refine lv_bipush (v := 6) hx hb dX10_stands_3 (by decide) ?_
  refine he_ci (wc := []) (wr := [(oX10 x0 y0 ta z0 p0 dr pa to_ s0 im ki tr v0 rf), (aI g rf 3 rc)]) (va_runS (As := [.int x, .int 0, .int 6]) (rest := [.ref x0]) ⟨hx, hb, hml, hown, hts⟩ (c_X10_within l g x 0 6 H.size) (va_cwS 3 hts gX10_stands_X10_within rfl rfl rfl (by decide +kernel) ⟨Nat.le_of_ble_eq_true rfl, Nat.le_of_ble_eq_true rfl⟩) (he_preS (wc := []) hK hP hD hS hA hE [] rfl rfl) rfl rfl hl.1 rfl (lv_room (Nat.le_of_ble_eq_true rfl)) dX10_stands_5 ⟨(Nat.le_of_ble_eq_true rfl), (Nat.le_of_ble_eq_true rfl)⟩) hP hD hS hA [] [0, 1] rfl rfl rfl (by decide) (fun r_1 u_2 H locs h_3 hP hD hS => ?_)
  subst h_3
  have hP : va_P g.1 vwCl [(oX10 x0 y0 ta z0 p0 dr pa to_ s0 im ki tr v0 rf), (aI g rf 3 rc)] H := hP
  have hD : va_D A [(oX10 x0 y0 ta z0 p0 dr pa to_ s0 im ki tr v0 rf), (aI g rf 3 rc)] := hD
  refine lv_if_eq (tgt := 25) hx hb dX10_stands_8 (by decide) (fun c_4 => ?_) (fun c_4 => ?_)
  · refine lv_iconst (v := 0) hx hb dX10_stands_25 (by decide) ?_
    refine he_xv (En := "java/lang/IllegalArgumentException") (wx := [(oX10 x0 y0 ta z0 p0 dr pa to_ s0 im ki tr v0 rf), (aI g rf 3 (upd rc 2 (rc 2 + 1)))]) (wc := [(oX10 x0 y0 ta z0 p0 dr pa to_ s0 im ki tr v0 rf), (aI g rf 3 rc)]) (wr := []) (vx_runV (As := [.int 0]) (rest := []) ⟨hx, hb, hml, hown, hts⟩ (g_X10_demand0 l g x0 y0 z0 p0 dr pa s0 im tr v0 rf ta to_ ki rc hlt H.size) (cwV 1 hts gX10_stands_X10_demand rfl rfl rfl (by decide +kernel) ⟨Nat.le_of_ble_eq_true rfl, Nat.le_of_ble_eq_true rfl⟩) (he_preV (wc := [(oX10 x0 y0 ta z0 p0 dr pa to_ s0 im ki tr v0 rf), (aI g rf 3 rc)]) hK hP hD hS hA hE [0, 1] rfl rfl 0 rfl rfl) rfl rfl hl.1 rfl (lv_room (Nat.le_of_ble_eq_true rfl)) dX10_stands_26 ⟨(Nat.le_of_ble_eq_true rfl), (Nat.le_of_ble_eq_true rfl)⟩) hP hD hS hA [0, 1] [] rfl rfl rfl (by decide) (fun ce q9 H locs hP hD hS hce hcv hcl => ?_)
    have hP : va_P g.1 vwCl [(oX10 x0 y0 ta z0 p0 dr pa to_ s0 im ki tr v0 rf), (aI g rf 3 (upd rc 2 (rc 2 + 1)))] H := hP
    have hD : va_D A [(oX10 x0 y0 ta z0 p0 dr pa to_ s0 im ki tr v0 rf), (aI g rf 3 (upd rc 2 (rc 2 + 1)))] := hD
    exact he_out hQ hlk hne hP hD hS hce hcv hcl (Nat.le_of_ble_eq_true rfl) (Nat.le_of_ble_eq_true rfl)
  · refine lv_iload_n hx hb dX10_stands_11 rfl (lv_at hl 2 rfl) ?_
    refine lv_iconst (v := 0) hx hb dX10_stands_12 (by decide) ?_
    refine lv_bipush (v := 6) hx hb dX10_stands_13 (by decide) ?_
    refine he_ci (wc := []) (wr := [(oX10 x0 y0 ta z0 p0 dr pa to_ s0 im ki tr v0 rf), (aI g rf 3 rc)]) (va_runS (As := [.int y, .int 0, .int 6]) (rest := [.ref x0]) ⟨hx, hb, hml, hown, hts⟩ (c_X10_within l g y 0 6 H.size) (va_cwS 3 hts gX10_stands_X10_within rfl rfl rfl (by decide +kernel) ⟨Nat.le_of_ble_eq_true rfl, Nat.le_of_ble_eq_true rfl⟩) (he_preS (wc := []) hK hP hD hS hA hE [] rfl rfl) rfl rfl hl.1 rfl (lv_room (Nat.le_of_ble_eq_true rfl)) dX10_stands_15 ⟨(Nat.le_of_ble_eq_true rfl), (Nat.le_of_ble_eq_true rfl)⟩) hP hD hS hA [] [0, 1] rfl rfl rfl (by decide) (fun r_5 u_6 H locs h_7 hP hD hS => ?_)
    subst h_7
    have hP : va_P g.1 vwCl [(oX10 x0 y0 ta z0 p0 dr pa to_ s0 im ki tr v0 rf), (aI g rf 3 rc)] H := hP
    have hD : va_D A [(oX10 x0 y0 ta z0 p0 dr pa to_ s0 im ki tr v0 rf), (aI g rf 3 rc)] := hD
    refine lv_if_eq (tgt := 25) hx hb dX10_stands_18 (by decide) (fun c_8 => ?_) (fun c_8 => ?_)
    · refine lv_iconst (v := 0) hx hb dX10_stands_25 (by decide) ?_
      refine he_xv (En := "java/lang/IllegalArgumentException") (wx := [(oX10 x0 y0 ta z0 p0 dr pa to_ s0 im ki tr v0 rf), (aI g rf 3 (upd rc 2 (rc 2 + 1)))]) (wc := [(oX10 x0 y0 ta z0 p0 dr pa to_ s0 im ki tr v0 rf), (aI g rf 3 rc)]) (wr := []) (vx_runV (As := [.int 0]) (rest := []) ⟨hx, hb, hml, hown, hts⟩ (g_X10_demand0 l g x0 y0 z0 p0 dr pa s0 im tr v0 rf ta to_ ki rc hlt H.size) (cwV 1 hts gX10_stands_X10_demand rfl rfl rfl (by decide +kernel) ⟨Nat.le_of_ble_eq_true rfl, Nat.le_of_ble_eq_true rfl⟩) (he_preV (wc := [(oX10 x0 y0 ta z0 p0 dr pa to_ s0 im ki tr v0 rf), (aI g rf 3 rc)]) hK hP hD hS hA hE [0, 1] rfl rfl 0 rfl rfl) rfl rfl hl.1 rfl (lv_room (Nat.le_of_ble_eq_true rfl)) dX10_stands_26 ⟨(Nat.le_of_ble_eq_true rfl), (Nat.le_of_ble_eq_true rfl)⟩) hP hD hS hA [0, 1] [] rfl rfl rfl (by decide) (fun ce q9 H locs hP hD hS hce hcv hcl => ?_)
      have hP : va_P g.1 vwCl [(oX10 x0 y0 ta z0 p0 dr pa to_ s0 im ki tr v0 rf), (aI g rf 3 (upd rc 2 (rc 2 + 1)))] H := hP
      have hD : va_D A [(oX10 x0 y0 ta z0 p0 dr pa to_ s0 im ki tr v0 rf), (aI g rf 3 (upd rc 2 (rc 2 + 1)))] := hD
      exact he_out hQ hlk hne hP hD hS hce hcv hcl (Nat.le_of_ble_eq_true rfl) (Nat.le_of_ble_eq_true rfl)
    · refine lv_iconst (v := 1) hx hb dX10_stands_21 (by decide) ?_
      refine lv_goto (tgt := 26) hx hb dX10_stands_22 (by decide) ?_
      exact absurd hbad (by rintro (h9 | h9) <;> contradiction)
set_option maxHeartbeats 4000000 in
set_option maxRecDepth 100000 in
theorem g_X10_showX (l : Launch) (g : he_G) (x0 : Nat) (y0 : Nat) (z0 : Nat) (p0 : Nat) (dr : Nat) (pa : Nat) (s0 : Nat) (im : Nat) (tr : Nat) (v0 : Nat) (rf : Nat) (ta : Int32) (to_ : Int32) (ki : Int32) (rc : Nat → Int32) (x : Int32) (y : Int32) (hlt : l.stackTraces = false) (hbad : he_within x 0 6 = 0 ∨ he_within y 0 6 = 0) : he_T he_QTi l yX10_show wsX10_show 7 103 1 6 g [.ref x0, .int x, .int y] [(oX10 x0 y0 ta z0 p0 dr pa to_ s0 im ki tr v0 rf), (aI g rf 3 rc)] "java/lang/IllegalArgumentException" [(oX10 x0 y0 ta z0 p0 dr pa to_ s0 im ki tr v0 rf), (aI g rf 3 (upd rc 2 (rc 2 + 1)))] := by
  refine he_beginX (l := l) (g := g) (y := yX10_show) (wl := wsX10_show) (fr := 7) (lo := 103) (mc := 1) (ms := 6) (av := [.ref x0, .int x, .int y]) (ws := [(oX10 x0 y0 ta z0 p0 dr pa to_ s0 im ki tr v0 rf), (aI g rf 3 rc)]) (cc := cX10_show) (maxL := 7) (ret := (some .int)) he_QTi (by decide) rfl (Nat.le_of_ble_eq_true rfl) ?_
  intro p e s m args below meth c A ls H locs Q hQ hne hB
  obtain ⟨hx, hb, hr, hml, hown, hts, hlk, hin, hP, hK, hD, hS, hA, hE, hl⟩ := hB
  have hl : lv_has ls 7 [(0, .ref x0), (1, .int x), (2, .int y)] := hl
  refine lv_aload_n hx hb dX10_show_0 rfl (lv_at hl 0 rfl) ?_
  refine lv_iload_n hx hb dX10_show_1 rfl (lv_at hl 1 rfl) ?_
  refine lv_iconst (v := 0) hx hb dX10_show_2 (by decide) ?_
  refine lv_bipush (v := 6) hx hb dX10_show_3 (by decide) ?_
  refine he_ci (wc := []) (wr := [(oX10 x0 y0 ta z0 p0 dr pa to_ s0 im ki tr v0 rf), (aI g rf 3 rc)]) (va_runS (As := [.int x, .int 0, .int 6]) (rest := [.ref x0]) ⟨hx, hb, hml, hown, hts⟩ (c_X10_within l g x 0 6 H.size) (va_cwS 3 hts gX10_show_X10_within rfl rfl rfl (by decide +kernel) ⟨Nat.le_of_ble_eq_true rfl, Nat.le_of_ble_eq_true rfl⟩) (he_preS (wc := []) hK hP hD hS hA hE [] rfl rfl) rfl rfl hl.1 rfl (lv_room (Nat.le_of_ble_eq_true rfl)) dX10_show_5 ⟨(Nat.le_of_ble_eq_true rfl), (Nat.le_of_ble_eq_true rfl)⟩) hP hD hS hA [] [0, 1] rfl rfl rfl (by decide) (fun r_1 u_2 H locs h_3 hP hD hS => ?_)
  subst h_3
  have hP : va_P g.1 vwCl [(oX10 x0 y0 ta z0 p0 dr pa to_ s0 im ki tr v0 rf), (aI g rf 3 rc)] H := hP
  have hD : va_D A [(oX10 x0 y0 ta z0 p0 dr pa to_ s0 im ki tr v0 rf), (aI g rf 3 rc)] := hD
  refine lv_if_eq (tgt := 25) hx hb dX10_show_8 (by decide) (fun c_4 => ?_) (fun c_4 => ?_)
  · refine lv_iconst (v := 0) hx hb dX10_show_25 (by decide) ?_
    refine he_xv (En := "java/lang/IllegalArgumentException") (wx := [(oX10 x0 y0 ta z0 p0 dr pa to_ s0 im ki tr v0 rf), (aI g rf 3 (upd rc 2 (rc 2 + 1)))]) (wc := [(oX10 x0 y0 ta z0 p0 dr pa to_ s0 im ki tr v0 rf), (aI g rf 3 rc)]) (wr := []) (vx_runV (As := [.int 0]) (rest := []) ⟨hx, hb, hml, hown, hts⟩ (g_X10_demand0 l g x0 y0 z0 p0 dr pa s0 im tr v0 rf ta to_ ki rc hlt H.size) (cwV 1 hts gX10_show_X10_demand rfl rfl rfl (by decide +kernel) ⟨Nat.le_of_ble_eq_true rfl, Nat.le_of_ble_eq_true rfl⟩) (he_preV (wc := [(oX10 x0 y0 ta z0 p0 dr pa to_ s0 im ki tr v0 rf), (aI g rf 3 rc)]) hK hP hD hS hA hE [0, 1] rfl rfl 0 rfl rfl) rfl rfl hl.1 rfl (lv_room (Nat.le_of_ble_eq_true rfl)) dX10_show_26 ⟨(Nat.le_of_ble_eq_true rfl), (Nat.le_of_ble_eq_true rfl)⟩) hP hD hS hA [0, 1] [] rfl rfl rfl (by decide) (fun ce q9 H locs hP hD hS hce hcv hcl => ?_)
    have hP : va_P g.1 vwCl [(oX10 x0 y0 ta z0 p0 dr pa to_ s0 im ki tr v0 rf), (aI g rf 3 (upd rc 2 (rc 2 + 1)))] H := hP
    have hD : va_D A [(oX10 x0 y0 ta z0 p0 dr pa to_ s0 im ki tr v0 rf), (aI g rf 3 (upd rc 2 (rc 2 + 1)))] := hD
    exact he_out hQ hlk hne hP hD hS hce hcv hcl (Nat.le_of_ble_eq_true rfl) (Nat.le_of_ble_eq_true rfl)
  · refine lv_iload_n hx hb dX10_show_11 rfl (lv_at hl 2 rfl) ?_
    refine lv_iconst (v := 0) hx hb dX10_show_12 (by decide) ?_
    refine lv_bipush (v := 6) hx hb dX10_show_13 (by decide) ?_
    refine he_ci (wc := []) (wr := [(oX10 x0 y0 ta z0 p0 dr pa to_ s0 im ki tr v0 rf), (aI g rf 3 rc)]) (va_runS (As := [.int y, .int 0, .int 6]) (rest := [.ref x0]) ⟨hx, hb, hml, hown, hts⟩ (c_X10_within l g y 0 6 H.size) (va_cwS 3 hts gX10_show_X10_within rfl rfl rfl (by decide +kernel) ⟨Nat.le_of_ble_eq_true rfl, Nat.le_of_ble_eq_true rfl⟩) (he_preS (wc := []) hK hP hD hS hA hE [] rfl rfl) rfl rfl hl.1 rfl (lv_room (Nat.le_of_ble_eq_true rfl)) dX10_show_15 ⟨(Nat.le_of_ble_eq_true rfl), (Nat.le_of_ble_eq_true rfl)⟩) hP hD hS hA [] [0, 1] rfl rfl rfl (by decide) (fun r_5 u_6 H locs h_7 hP hD hS => ?_)
    subst h_7
    have hP : va_P g.1 vwCl [(oX10 x0 y0 ta z0 p0 dr pa to_ s0 im ki tr v0 rf), (aI g rf 3 rc)] H := hP
    have hD : va_D A [(oX10 x0 y0 ta z0 p0 dr pa to_ s0 im ki tr v0 rf), (aI g rf 3 rc)] := hD
    refine lv_if_eq (tgt := 25) hx hb dX10_show_18 (by decide) (fun c_8 => ?_) (fun c_8 => ?_)
    · refine lv_iconst (v := 0) hx hb dX10_show_25 (by decide) ?_
      refine he_xv (En := "java/lang/IllegalArgumentException") (wx := [(oX10 x0 y0 ta z0 p0 dr pa to_ s0 im ki tr v0 rf), (aI g rf 3 (upd rc 2 (rc 2 + 1)))]) (wc := [(oX10 x0 y0 ta z0 p0 dr pa to_ s0 im ki tr v0 rf), (aI g rf 3 rc)]) (wr := []) (vx_runV (As := [.int 0]) (rest := []) ⟨hx, hb, hml, hown, hts⟩ (g_X10_demand0 l g x0 y0 z0 p0 dr pa s0 im tr v0 rf ta to_ ki rc hlt H.size) (cwV 1 hts gX10_show_X10_demand rfl rfl rfl (by decide +kernel) ⟨Nat.le_of_ble_eq_true rfl, Nat.le_of_ble_eq_true rfl⟩) (he_preV (wc := [(oX10 x0 y0 ta z0 p0 dr pa to_ s0 im ki tr v0 rf), (aI g rf 3 rc)]) hK hP hD hS hA hE [0, 1] rfl rfl 0 rfl rfl) rfl rfl hl.1 rfl (lv_room (Nat.le_of_ble_eq_true rfl)) dX10_show_26 ⟨(Nat.le_of_ble_eq_true rfl), (Nat.le_of_ble_eq_true rfl)⟩) hP hD hS hA [0, 1] [] rfl rfl rfl (by decide) (fun ce q9 H locs hP hD hS hce hcv hcl => ?_)
      have hP : va_P g.1 vwCl [(oX10 x0 y0 ta z0 p0 dr pa to_ s0 im ki tr v0 rf), (aI g rf 3 (upd rc 2 (rc 2 + 1)))] H := hP
      have hD : va_D A [(oX10 x0 y0 ta z0 p0 dr pa to_ s0 im ki tr v0 rf), (aI g rf 3 (upd rc 2 (rc 2 + 1)))] := hD
      exact he_out hQ hlk hne hP hD hS hce hcv hcl (Nat.le_of_ble_eq_true rfl) (Nat.le_of_ble_eq_true rfl)
    · refine lv_iconst (v := 1) hx hb dX10_show_21 (by decide) ?_
      refine lv_goto (tgt := 26) hx hb dX10_show_22 (by decide) ?_
      exact absurd hbad (by rintro (h9 | h9) <;> contradiction)
set_option maxHeartbeats 4000000 in
set_option maxRecDepth 100000 in
theorem g_X10_offersX (l : Launch) (g : he_G) (x0 : Nat) (y0 : Nat) (z0 : Nat) (p0 : Nat) (dr : Nat) (pa : Nat) (s0 : Nat) (im : Nat) (tr : Nat) (v0 : Nat) (rf : Nat) (ta : Int32) (to_ : Int32) (ki : Int32) (rc : Nat → Int32) (x : Int32) (y : Int32) (z : Int32) (hlt : l.stackTraces = false) (hbad : he_within x 1 2 = 0 ∨ he_within y 0 11 = 0 ∨ he_within z 0 999 = 0) : he_T he_QTi l yX10_offers wsX10_offers 7 103 1 6 g [.ref x0, .int x, .int y, .int z] [(oX10 x0 y0 ta z0 p0 dr pa to_ s0 im ki tr v0 rf), (aI g rf 3 rc)] "java/lang/IllegalArgumentException" [(oX10 x0 y0 ta z0 p0 dr pa to_ s0 im ki tr v0 rf), (aI g rf 3 (upd rc 2 (rc 2 + 1)))] := by
  refine he_beginX (l := l) (g := g) (y := yX10_offers) (wl := wsX10_offers) (fr := 7) (lo := 103) (mc := 1) (ms := 6) (av := [.ref x0, .int x, .int y, .int z]) (ws := [(oX10 x0 y0 ta z0 p0 dr pa to_ s0 im ki tr v0 rf), (aI g rf 3 rc)]) (cc := cX10_offers) (maxL := 4) (ret := (some .int)) he_QTi (by decide) rfl (Nat.le_of_ble_eq_true rfl) ?_
  intro p e s m args below meth c A ls H locs Q hQ hne hB
  obtain ⟨hx, hb, hr, hml, hown, hts, hlk, hin, hP, hK, hD, hS, hA, hE, hl⟩ := hB
  have hl : lv_has ls 4 [(0, .ref x0), (1, .int x), (2, .int y), (3, .int z)] := hl
  refine lv_aload_n hx hb dX10_offers_0 rfl (lv_at hl 0 rfl) ?_
  refine lv_iload_n hx hb dX10_offers_1 rfl (lv_at hl 1 rfl) ?_
  refine lv_iconst (v := 1) hx hb dX10_offers_2 (by decide) ?_
  refine lv_iconst (v := 2) hx hb dX10_offers_3 (by decide) ?_
  refine he_ci (wc := []) (wr := [(oX10 x0 y0 ta z0 p0 dr pa to_ s0 im ki tr v0 rf), (aI g rf 3 rc)]) (va_runS (As := [.int x, .int 1, .int 2]) (rest := [.ref x0]) ⟨hx, hb, hml, hown, hts⟩ (c_X10_within l g x 1 2 H.size) (va_cwS 3 hts gX10_offers_X10_within rfl rfl rfl (by decide +kernel) ⟨Nat.le_of_ble_eq_true rfl, Nat.le_of_ble_eq_true rfl⟩) (he_preS (wc := []) hK hP hD hS hA hE [] rfl rfl) rfl rfl hl.1 rfl (lv_room (Nat.le_of_ble_eq_true rfl)) dX10_offers_4 ⟨(Nat.le_of_ble_eq_true rfl), (Nat.le_of_ble_eq_true rfl)⟩) hP hD hS hA [] [0, 1] rfl rfl rfl (by decide) (fun r_1 u_2 H locs h_3 hP hD hS => ?_)
  subst h_3
  have hP : va_P g.1 vwCl [(oX10 x0 y0 ta z0 p0 dr pa to_ s0 im ki tr v0 rf), (aI g rf 3 rc)] H := hP
  have hD : va_D A [(oX10 x0 y0 ta z0 p0 dr pa to_ s0 im ki tr v0 rf), (aI g rf 3 rc)] := hD
  refine lv_if_eq (tgt := 35) hx hb dX10_offers_7 (by decide) (fun c_4 => ?_) (fun c_4 => ?_)
  · refine lv_iconst (v := 0) hx hb dX10_offers_35 (by decide) ?_
    refine he_xv (En := "java/lang/IllegalArgumentException") (wx := [(oX10 x0 y0 ta z0 p0 dr pa to_ s0 im ki tr v0 rf), (aI g rf 3 (upd rc 2 (rc 2 + 1)))]) (wc := [(oX10 x0 y0 ta z0 p0 dr pa to_ s0 im ki tr v0 rf), (aI g rf 3 rc)]) (wr := []) (vx_runV (As := [.int 0]) (rest := []) ⟨hx, hb, hml, hown, hts⟩ (g_X10_demand0 l g x0 y0 z0 p0 dr pa s0 im tr v0 rf ta to_ ki rc hlt H.size) (cwV 1 hts gX10_offers_X10_demand rfl rfl rfl (by decide +kernel) ⟨Nat.le_of_ble_eq_true rfl, Nat.le_of_ble_eq_true rfl⟩) (he_preV (wc := [(oX10 x0 y0 ta z0 p0 dr pa to_ s0 im ki tr v0 rf), (aI g rf 3 rc)]) hK hP hD hS hA hE [0, 1] rfl rfl 0 rfl rfl) rfl rfl hl.1 rfl (lv_room (Nat.le_of_ble_eq_true rfl)) dX10_offers_36 ⟨(Nat.le_of_ble_eq_true rfl), (Nat.le_of_ble_eq_true rfl)⟩) hP hD hS hA [0, 1] [] rfl rfl rfl (by decide) (fun ce q9 H locs hP hD hS hce hcv hcl => ?_)
    have hP : va_P g.1 vwCl [(oX10 x0 y0 ta z0 p0 dr pa to_ s0 im ki tr v0 rf), (aI g rf 3 (upd rc 2 (rc 2 + 1)))] H := hP
    have hD : va_D A [(oX10 x0 y0 ta z0 p0 dr pa to_ s0 im ki tr v0 rf), (aI g rf 3 (upd rc 2 (rc 2 + 1)))] := hD
    exact he_out hQ hlk hne hP hD hS hce hcv hcl (Nat.le_of_ble_eq_true rfl) (Nat.le_of_ble_eq_true rfl)
  · refine lv_iload_n hx hb dX10_offers_10 rfl (lv_at hl 2 rfl) ?_
    refine lv_iconst (v := 0) hx hb dX10_offers_11 (by decide) ?_
    refine lv_bipush (v := 11) hx hb dX10_offers_12 (by decide) ?_
    refine he_ci (wc := []) (wr := [(oX10 x0 y0 ta z0 p0 dr pa to_ s0 im ki tr v0 rf), (aI g rf 3 rc)]) (va_runS (As := [.int y, .int 0, .int 11]) (rest := [.ref x0]) ⟨hx, hb, hml, hown, hts⟩ (c_X10_within l g y 0 11 H.size) (va_cwS 3 hts gX10_offers_X10_within rfl rfl rfl (by decide +kernel) ⟨Nat.le_of_ble_eq_true rfl, Nat.le_of_ble_eq_true rfl⟩) (he_preS (wc := []) hK hP hD hS hA hE [] rfl rfl) rfl rfl hl.1 rfl (lv_room (Nat.le_of_ble_eq_true rfl)) dX10_offers_14 ⟨(Nat.le_of_ble_eq_true rfl), (Nat.le_of_ble_eq_true rfl)⟩) hP hD hS hA [] [0, 1] rfl rfl rfl (by decide) (fun r_5 u_6 H locs h_7 hP hD hS => ?_)
    subst h_7
    have hP : va_P g.1 vwCl [(oX10 x0 y0 ta z0 p0 dr pa to_ s0 im ki tr v0 rf), (aI g rf 3 rc)] H := hP
    have hD : va_D A [(oX10 x0 y0 ta z0 p0 dr pa to_ s0 im ki tr v0 rf), (aI g rf 3 rc)] := hD
    refine lv_if_eq (tgt := 35) hx hb dX10_offers_17 (by decide) (fun c_8 => ?_) (fun c_8 => ?_)
    · refine lv_iconst (v := 0) hx hb dX10_offers_35 (by decide) ?_
      refine he_xv (En := "java/lang/IllegalArgumentException") (wx := [(oX10 x0 y0 ta z0 p0 dr pa to_ s0 im ki tr v0 rf), (aI g rf 3 (upd rc 2 (rc 2 + 1)))]) (wc := [(oX10 x0 y0 ta z0 p0 dr pa to_ s0 im ki tr v0 rf), (aI g rf 3 rc)]) (wr := []) (vx_runV (As := [.int 0]) (rest := []) ⟨hx, hb, hml, hown, hts⟩ (g_X10_demand0 l g x0 y0 z0 p0 dr pa s0 im tr v0 rf ta to_ ki rc hlt H.size) (cwV 1 hts gX10_offers_X10_demand rfl rfl rfl (by decide +kernel) ⟨Nat.le_of_ble_eq_true rfl, Nat.le_of_ble_eq_true rfl⟩) (he_preV (wc := [(oX10 x0 y0 ta z0 p0 dr pa to_ s0 im ki tr v0 rf), (aI g rf 3 rc)]) hK hP hD hS hA hE [0, 1] rfl rfl 0 rfl rfl) rfl rfl hl.1 rfl (lv_room (Nat.le_of_ble_eq_true rfl)) dX10_offers_36 ⟨(Nat.le_of_ble_eq_true rfl), (Nat.le_of_ble_eq_true rfl)⟩) hP hD hS hA [0, 1] [] rfl rfl rfl (by decide) (fun ce q9 H locs hP hD hS hce hcv hcl => ?_)
      have hP : va_P g.1 vwCl [(oX10 x0 y0 ta z0 p0 dr pa to_ s0 im ki tr v0 rf), (aI g rf 3 (upd rc 2 (rc 2 + 1)))] H := hP
      have hD : va_D A [(oX10 x0 y0 ta z0 p0 dr pa to_ s0 im ki tr v0 rf), (aI g rf 3 (upd rc 2 (rc 2 + 1)))] := hD
      exact he_out hQ hlk hne hP hD hS hce hcv hcl (Nat.le_of_ble_eq_true rfl) (Nat.le_of_ble_eq_true rfl)
    · refine lv_iload_n hx hb dX10_offers_20 rfl (lv_at hl 3 rfl) ?_
      refine lv_iconst (v := 0) hx hb dX10_offers_21 (by decide) ?_
      refine lv_sipush (v := 999) hx hb dX10_offers_22 (by decide) ?_
      refine he_ci (wc := []) (wr := [(oX10 x0 y0 ta z0 p0 dr pa to_ s0 im ki tr v0 rf), (aI g rf 3 rc)]) (va_runS (As := [.int z, .int 0, .int 999]) (rest := [.ref x0]) ⟨hx, hb, hml, hown, hts⟩ (c_X10_within l g z 0 999 H.size) (va_cwS 3 hts gX10_offers_X10_within rfl rfl rfl (by decide +kernel) ⟨Nat.le_of_ble_eq_true rfl, Nat.le_of_ble_eq_true rfl⟩) (he_preS (wc := []) hK hP hD hS hA hE [] rfl rfl) rfl rfl hl.1 rfl (lv_room (Nat.le_of_ble_eq_true rfl)) dX10_offers_25 ⟨(Nat.le_of_ble_eq_true rfl), (Nat.le_of_ble_eq_true rfl)⟩) hP hD hS hA [] [0, 1] rfl rfl rfl (by decide) (fun r_9 u_10 H locs h_11 hP hD hS => ?_)
      subst h_11
      have hP : va_P g.1 vwCl [(oX10 x0 y0 ta z0 p0 dr pa to_ s0 im ki tr v0 rf), (aI g rf 3 rc)] H := hP
      have hD : va_D A [(oX10 x0 y0 ta z0 p0 dr pa to_ s0 im ki tr v0 rf), (aI g rf 3 rc)] := hD
      refine lv_if_eq (tgt := 35) hx hb dX10_offers_28 (by decide) (fun c_12 => ?_) (fun c_12 => ?_)
      · refine lv_iconst (v := 0) hx hb dX10_offers_35 (by decide) ?_
        refine he_xv (En := "java/lang/IllegalArgumentException") (wx := [(oX10 x0 y0 ta z0 p0 dr pa to_ s0 im ki tr v0 rf), (aI g rf 3 (upd rc 2 (rc 2 + 1)))]) (wc := [(oX10 x0 y0 ta z0 p0 dr pa to_ s0 im ki tr v0 rf), (aI g rf 3 rc)]) (wr := []) (vx_runV (As := [.int 0]) (rest := []) ⟨hx, hb, hml, hown, hts⟩ (g_X10_demand0 l g x0 y0 z0 p0 dr pa s0 im tr v0 rf ta to_ ki rc hlt H.size) (cwV 1 hts gX10_offers_X10_demand rfl rfl rfl (by decide +kernel) ⟨Nat.le_of_ble_eq_true rfl, Nat.le_of_ble_eq_true rfl⟩) (he_preV (wc := [(oX10 x0 y0 ta z0 p0 dr pa to_ s0 im ki tr v0 rf), (aI g rf 3 rc)]) hK hP hD hS hA hE [0, 1] rfl rfl 0 rfl rfl) rfl rfl hl.1 rfl (lv_room (Nat.le_of_ble_eq_true rfl)) dX10_offers_36 ⟨(Nat.le_of_ble_eq_true rfl), (Nat.le_of_ble_eq_true rfl)⟩) hP hD hS hA [0, 1] [] rfl rfl rfl (by decide) (fun ce q9 H locs hP hD hS hce hcv hcl => ?_)
        have hP : va_P g.1 vwCl [(oX10 x0 y0 ta z0 p0 dr pa to_ s0 im ki tr v0 rf), (aI g rf 3 (upd rc 2 (rc 2 + 1)))] H := hP
        have hD : va_D A [(oX10 x0 y0 ta z0 p0 dr pa to_ s0 im ki tr v0 rf), (aI g rf 3 (upd rc 2 (rc 2 + 1)))] := hD
        exact he_out hQ hlk hne hP hD hS hce hcv hcl (Nat.le_of_ble_eq_true rfl) (Nat.le_of_ble_eq_true rfl)
      · refine lv_iconst (v := 1) hx hb dX10_offers_31 (by decide) ?_
        refine lv_goto (tgt := 36) hx hb dX10_offers_32 (by decide) ?_
        exact absurd hbad (by rintro (h9 | h9 | h9) <;> contradiction)
set_option maxHeartbeats 4000000 in
set_option maxRecDepth 100000 in
theorem g_X10_servesX (l : Launch) (g : he_G) (x0 : Nat) (y0 : Nat) (z0 : Nat) (p0 : Nat) (dr : Nat) (pa : Nat) (s0 : Nat) (im : Nat) (tr : Nat) (v0 : Nat) (rf : Nat) (ta : Int32) (to_ : Int32) (ki : Int32) (rc : Nat → Int32) (x : Int32) (hlt : l.stackTraces = false) (hbad : he_within x 0 11 = 0) : he_T he_QTi l yX10_serves wsX10_serves 7 103 1 6 g [.ref x0, .int x] [(oX10 x0 y0 ta z0 p0 dr pa to_ s0 im ki tr v0 rf), (aI g rf 3 rc)] "java/lang/IllegalArgumentException" [(oX10 x0 y0 ta z0 p0 dr pa to_ s0 im ki tr v0 rf), (aI g rf 3 (upd rc 2 (rc 2 + 1)))] := by
  refine he_beginX (l := l) (g := g) (y := yX10_serves) (wl := wsX10_serves) (fr := 7) (lo := 103) (mc := 1) (ms := 6) (av := [.ref x0, .int x]) (ws := [(oX10 x0 y0 ta z0 p0 dr pa to_ s0 im ki tr v0 rf), (aI g rf 3 rc)]) (cc := cX10_serves) (maxL := 2) (ret := (some .int)) he_QTi (by decide) rfl (Nat.le_of_ble_eq_true rfl) ?_
  intro p e s m args below meth c A ls H locs Q hQ hne hB
  obtain ⟨hx, hb, hr, hml, hown, hts, hlk, hin, hP, hK, hD, hS, hA, hE, hl⟩ := hB
  have hl : lv_has ls 2 [(0, .ref x0), (1, .int x)] := hl
  refine lv_aload_n hx hb dX10_serves_0 rfl (lv_at hl 0 rfl) ?_
  refine lv_iload_n hx hb dX10_serves_1 rfl (lv_at hl 1 rfl) ?_
  refine lv_iconst (v := 0) hx hb dX10_serves_2 (by decide) ?_
  refine lv_bipush (v := 11) hx hb dX10_serves_3 (by decide) ?_
  refine he_ci (wc := []) (wr := [(oX10 x0 y0 ta z0 p0 dr pa to_ s0 im ki tr v0 rf), (aI g rf 3 rc)]) (va_runS (As := [.int x, .int 0, .int 11]) (rest := [.ref x0]) ⟨hx, hb, hml, hown, hts⟩ (c_X10_within l g x 0 11 H.size) (va_cwS 3 hts gX10_serves_X10_within rfl rfl rfl (by decide +kernel) ⟨Nat.le_of_ble_eq_true rfl, Nat.le_of_ble_eq_true rfl⟩) (he_preS (wc := []) hK hP hD hS hA hE [] rfl rfl) rfl rfl hl.1 rfl (lv_room (Nat.le_of_ble_eq_true rfl)) dX10_serves_5 ⟨(Nat.le_of_ble_eq_true rfl), (Nat.le_of_ble_eq_true rfl)⟩) hP hD hS hA [] [0, 1] rfl rfl rfl (by decide) (fun r_1 u_2 H locs h_3 hP hD hS => ?_)
  subst h_3
  have hP : va_P g.1 vwCl [(oX10 x0 y0 ta z0 p0 dr pa to_ s0 im ki tr v0 rf), (aI g rf 3 rc)] H := hP
  have hD : va_D A [(oX10 x0 y0 ta z0 p0 dr pa to_ s0 im ki tr v0 rf), (aI g rf 3 rc)] := hD
  refine he_top (0) hbad ?_
  refine he_xv (En := "java/lang/IllegalArgumentException") (wx := [(oX10 x0 y0 ta z0 p0 dr pa to_ s0 im ki tr v0 rf), (aI g rf 3 (upd rc 2 (rc 2 + 1)))]) (wc := [(oX10 x0 y0 ta z0 p0 dr pa to_ s0 im ki tr v0 rf), (aI g rf 3 rc)]) (wr := []) (vx_runV (As := [.int 0]) (rest := []) ⟨hx, hb, hml, hown, hts⟩ (g_X10_demand0 l g x0 y0 z0 p0 dr pa s0 im tr v0 rf ta to_ ki rc hlt H.size) (cwV 1 hts gX10_serves_X10_demand rfl rfl rfl (by decide +kernel) ⟨Nat.le_of_ble_eq_true rfl, Nat.le_of_ble_eq_true rfl⟩) (he_preV (wc := [(oX10 x0 y0 ta z0 p0 dr pa to_ s0 im ki tr v0 rf), (aI g rf 3 rc)]) hK hP hD hS hA hE [0, 1] rfl rfl 0 rfl rfl) rfl rfl hl.1 rfl (lv_room (Nat.le_of_ble_eq_true rfl)) dX10_serves_8 ⟨(Nat.le_of_ble_eq_true rfl), (Nat.le_of_ble_eq_true rfl)⟩) hP hD hS hA [0, 1] [] rfl rfl rfl (by decide) (fun ce q9 H locs hP hD hS hce hcv hcl => ?_)
  have hP : va_P g.1 vwCl [(oX10 x0 y0 ta z0 p0 dr pa to_ s0 im ki tr v0 rf), (aI g rf 3 (upd rc 2 (rc 2 + 1)))] H := hP
  have hD : va_D A [(oX10 x0 y0 ta z0 p0 dr pa to_ s0 im ki tr v0 rf), (aI g rf 3 (upd rc 2 (rc 2 + 1)))] := hD
  exact he_out hQ hlk hne hP hD hS hce hcv hcl (Nat.le_of_ble_eq_true rfl) (Nat.le_of_ble_eq_true rfl)
set_option maxHeartbeats 4000000 in
set_option maxRecDepth 100000 in
theorem g_X10_signX (l : Launch) (g : he_G) (x0 : Nat) (y0 : Nat) (z0 : Nat) (p0 : Nat) (dr : Nat) (pa : Nat) (s0 : Nat) (im : Nat) (tr : Nat) (v0 : Nat) (rf : Nat) (ta : Int32) (to_ : Int32) (ki : Int32) (rc : Nat → Int32) (x : Int32) (hlt : l.stackTraces = false) (hno : he_within x 0 (to_ - 1) = 0) (hx1 : ¬ x = -1) : he_T he_QTi l yX10_sign wsX10_sign 8 124 1 6 g [.ref x0, .int x] [(oX10 x0 y0 ta z0 p0 dr pa to_ s0 im ki tr v0 rf), (aI g rf 3 rc)] "java/util/NoSuchElementException" [(oX10 x0 y0 ta z0 p0 dr pa to_ s0 im ki tr v0 rf), (aI g rf 3 (upd rc 0 (rc 0 + 1)))] := by
  refine he_beginX (l := l) (g := g) (y := yX10_sign) (wl := wsX10_sign) (fr := 8) (lo := 124) (mc := 1) (ms := 6) (av := [.ref x0, .int x]) (ws := [(oX10 x0 y0 ta z0 p0 dr pa to_ s0 im ki tr v0 rf), (aI g rf 3 rc)]) (cc := cX10_sign) (maxL := 3) (ret := (some .int)) he_QTi (by decide) rfl (Nat.le_of_ble_eq_true rfl) ?_
  intro p e s m args below meth c A ls H locs Q hQ hne hB
  obtain ⟨hx, hb, hr, hml, hown, hts, hlk, hin, hP, hK, hD, hS, hA, hE, hl⟩ := hB
  have hl : lv_has ls 3 [(0, .ref x0), (1, .int x)] := hl
  refine lv_aload_n hx hb dX10_sign_0 rfl (lv_at hl 0 rfl) ?_
  refine lv_iload_n hx hb dX10_sign_1 rfl (lv_at hl 1 rfl) ?_
  refine he_xv (En := "java/util/NoSuchElementException") (wx := [(oX10 x0 y0 ta z0 p0 dr pa to_ s0 im ki tr v0 rf), (aI g rf 3 (upd rc 0 (rc 0 + 1)))]) (wc := [(oX10 x0 y0 ta z0 p0 dr pa to_ s0 im ki tr v0 rf), (aI g rf 3 rc)]) (wr := []) (vx_runV (As := [.int x]) (rest := []) ⟨hx, hb, hml, hown, hts⟩ (g_X10_demandCN0 l g x0 y0 z0 p0 dr pa s0 im tr v0 rf ta to_ ki rc x hlt (by first | assumption | decide | omega) (by first | assumption | decide | omega) H.size) (cwV 1 hts gX10_sign_X10_demandContractOrNone rfl rfl rfl (by decide +kernel) ⟨Nat.le_of_ble_eq_true rfl, Nat.le_of_ble_eq_true rfl⟩) (he_preV (wc := [(oX10 x0 y0 ta z0 p0 dr pa to_ s0 im ki tr v0 rf), (aI g rf 3 rc)]) hK hP hD hS hA hE [0, 1] rfl rfl 0 rfl rfl) rfl rfl hl.1 rfl (lv_room (Nat.le_of_ble_eq_true rfl)) dX10_sign_2 ⟨(Nat.le_of_ble_eq_true rfl), (Nat.le_of_ble_eq_true rfl)⟩) hP hD hS hA [0, 1] [] rfl rfl rfl (by decide) (fun ce q9 H locs hP hD hS hce hcv hcl => ?_)
  have hP : va_P g.1 vwCl [(oX10 x0 y0 ta z0 p0 dr pa to_ s0 im ki tr v0 rf), (aI g rf 3 (upd rc 0 (rc 0 + 1)))] H := hP
  have hD : va_D A [(oX10 x0 y0 ta z0 p0 dr pa to_ s0 im ki tr v0 rf), (aI g rf 3 (upd rc 0 (rc 0 + 1)))] := hD
  exact he_out hQ hlk hne hP hD hS hce hcv hcl (Nat.le_of_ble_eq_true rfl) (Nat.le_of_ble_eq_true rfl)
set_option maxHeartbeats 4000000 in
set_option maxRecDepth 100000 in
theorem g_X10_wouldXc (l : Launch) (g : he_G) (x0 : Nat) (y0 : Nat) (z0 : Nat) (p0 : Nat) (dr : Nat) (pa : Nat) (s0 : Nat) (im : Nat) (tr : Nat) (v0 : Nat) (rf : Nat) (ta : Int32) (to_ : Int32) (ki : Int32) (rc : Nat → Int32) (x : Int32) (y : Int32) (z : Int32) (hlt : l.stackTraces = false) (hno : he_within x 0 (to_ - 1) = 0) (hx1 : ¬ x = -1) : he_T he_QTi l yX10_would wsX10_would 8 124 1 6 g [.ref x0, .int x, .int y, .int z] [(oX10 x0 y0 ta z0 p0 dr pa to_ s0 im ki tr v0 rf), (aI g rf 3 rc)] "java/util/NoSuchElementException" [(oX10 x0 y0 ta z0 p0 dr pa to_ s0 im ki tr v0 rf), (aI g rf 3 (upd rc 0 (rc 0 + 1)))] := by
  refine he_beginX (l := l) (g := g) (y := yX10_would) (wl := wsX10_would) (fr := 8) (lo := 124) (mc := 1) (ms := 6) (av := [.ref x0, .int x, .int y, .int z]) (ws := [(oX10 x0 y0 ta z0 p0 dr pa to_ s0 im ki tr v0 rf), (aI g rf 3 rc)]) (cc := cX10_would) (maxL := 4) (ret := (some .int)) he_QTi (by decide) rfl (Nat.le_of_ble_eq_true rfl) ?_
  intro p e s m args below meth c A ls H locs Q hQ hne hB
  obtain ⟨hx, hb, hr, hml, hown, hts, hlk, hin, hP, hK, hD, hS, hA, hE, hl⟩ := hB
  have hl : lv_has ls 4 [(0, .ref x0), (1, .int x), (2, .int y), (3, .int z)] := hl
  refine lv_aload_n hx hb dX10_would_0 rfl (lv_at hl 0 rfl) ?_
  refine lv_iload_n hx hb dX10_would_1 rfl (lv_at hl 1 rfl) ?_
  refine he_xv (En := "java/util/NoSuchElementException") (wx := [(oX10 x0 y0 ta z0 p0 dr pa to_ s0 im ki tr v0 rf), (aI g rf 3 (upd rc 0 (rc 0 + 1)))]) (wc := [(oX10 x0 y0 ta z0 p0 dr pa to_ s0 im ki tr v0 rf), (aI g rf 3 rc)]) (wr := []) (vx_runV (As := [.int x]) (rest := []) ⟨hx, hb, hml, hown, hts⟩ (g_X10_demandCN0 l g x0 y0 z0 p0 dr pa s0 im tr v0 rf ta to_ ki rc x hlt (by first | assumption | decide | omega) (by first | assumption | decide | omega) H.size) (cwV 1 hts gX10_would_X10_demandContractOrNone rfl rfl rfl (by decide +kernel) ⟨Nat.le_of_ble_eq_true rfl, Nat.le_of_ble_eq_true rfl⟩) (he_preV (wc := [(oX10 x0 y0 ta z0 p0 dr pa to_ s0 im ki tr v0 rf), (aI g rf 3 rc)]) hK hP hD hS hA hE [0, 1] rfl rfl 0 rfl rfl) rfl rfl hl.1 rfl (lv_room (Nat.le_of_ble_eq_true rfl)) dX10_would_2 ⟨(Nat.le_of_ble_eq_true rfl), (Nat.le_of_ble_eq_true rfl)⟩) hP hD hS hA [0, 1] [] rfl rfl rfl (by decide) (fun ce q9 H locs hP hD hS hce hcv hcl => ?_)
  have hP : va_P g.1 vwCl [(oX10 x0 y0 ta z0 p0 dr pa to_ s0 im ki tr v0 rf), (aI g rf 3 (upd rc 0 (rc 0 + 1)))] H := hP
  have hD : va_D A [(oX10 x0 y0 ta z0 p0 dr pa to_ s0 im ki tr v0 rf), (aI g rf 3 (upd rc 0 (rc 0 + 1)))] := hD
  exact he_out hQ hlk hne hP hD hS hce hcv hcl (Nat.le_of_ble_eq_true rfl) (Nat.le_of_ble_eq_true rfl)
set_option maxHeartbeats 4000000 in
set_option maxRecDepth 100000 in
theorem g_X10_wouldXn (l : Launch) (g : he_G) (x0 : Nat) (y0 : Nat) (z0 : Nat) (p0 : Nat) (dr : Nat) (pa : Nat) (s0 : Nat) (im : Nat) (tr : Nat) (v0 : Nat) (rf : Nat) (ta : Int32) (to_ : Int32) (ki : Int32) (rc : Nat → Int32) (y : Int32) (z : Int32) (hlt : l.stackTraces = false) (hbad : he_within y 1 60 = 0 ∨ he_within z 0 9 = 0) : he_T he_QTi l yX10_would wsX10_would 7 103 1 6 g [.ref x0, .int (-1), .int y, .int z] [(oX10 x0 y0 ta z0 p0 dr pa to_ s0 im ki tr v0 rf), (aI g rf 3 rc)] "java/lang/IllegalArgumentException" [(oX10 x0 y0 ta z0 p0 dr pa to_ s0 im ki tr v0 rf), (aI g rf 3 (upd rc 2 (rc 2 + 1)))] := by
  refine he_beginX (l := l) (g := g) (y := yX10_would) (wl := wsX10_would) (fr := 7) (lo := 103) (mc := 1) (ms := 6) (av := [.ref x0, .int (-1), .int y, .int z]) (ws := [(oX10 x0 y0 ta z0 p0 dr pa to_ s0 im ki tr v0 rf), (aI g rf 3 rc)]) (cc := cX10_would) (maxL := 4) (ret := (some .int)) he_QTi (by decide) rfl (Nat.le_of_ble_eq_true rfl) ?_
  intro p e s m args below meth c A ls H locs Q hQ hne hB
  obtain ⟨hx, hb, hr, hml, hown, hts, hlk, hin, hP, hK, hD, hS, hA, hE, hl⟩ := hB
  have hl : lv_has ls 4 [(0, .ref x0), (1, .int (-1)), (2, .int y), (3, .int z)] := hl
  refine lv_aload_n hx hb dX10_would_0 rfl (lv_at hl 0 rfl) ?_
  refine lv_iload_n hx hb dX10_would_1 rfl (lv_at hl 1 rfl) ?_
  refine he_cv (wc := []) (wr := [(oX10 x0 y0 ta z0 p0 dr pa to_ s0 im ki tr v0 rf), (aI g rf 3 rc)]) (va_runV (As := [.int (-1)]) (rest := []) ⟨hx, hb, hml, hown, hts⟩ (g_X10_demandCNn l g x0 H.size) (cwV 1 hts gX10_would_X10_demandContractOrNone rfl rfl rfl (by decide +kernel) ⟨Nat.le_of_ble_eq_true rfl, Nat.le_of_ble_eq_true rfl⟩) (he_preV (wc := []) hK hP hD hS hA hE [] rfl rfl 0 rfl rfl) rfl rfl hl.1 rfl (lv_room (Nat.le_of_ble_eq_true rfl)) dX10_would_2 ⟨(Nat.le_of_ble_eq_true rfl), (Nat.le_of_ble_eq_true rfl)⟩) hP hD hS hA [] [0, 1] rfl rfl rfl (by decide) (fun u_2 H locs h_3 hP hD hS => ?_)
  have hP : va_P g.1 vwCl [(oX10 x0 y0 ta z0 p0 dr pa to_ s0 im ki tr v0 rf), (aI g rf 3 rc)] H := hP
  have hD : va_D A [(oX10 x0 y0 ta z0 p0 dr pa to_ s0 im ki tr v0 rf), (aI g rf 3 rc)] := hD
  refine lv_aload_n hx hb dX10_would_5 rfl (lv_at hl 0 rfl) ?_
  refine lv_iload_n hx hb dX10_would_6 rfl (lv_at hl 2 rfl) ?_
  refine lv_iconst (v := 1) hx hb dX10_would_7 (by decide) ?_
  refine lv_bipush (v := 60) hx hb dX10_would_8 (by decide) ?_
  refine he_ci (wc := []) (wr := [(oX10 x0 y0 ta z0 p0 dr pa to_ s0 im ki tr v0 rf), (aI g rf 3 rc)]) (va_runS (As := [.int y, .int 1, .int 60]) (rest := [.ref x0]) ⟨hx, hb, hml, hown, hts⟩ (c_X10_within l g y 1 60 H.size) (va_cwS 3 hts gX10_would_X10_within rfl rfl rfl (by decide +kernel) ⟨Nat.le_of_ble_eq_true rfl, Nat.le_of_ble_eq_true rfl⟩) (he_preS (wc := []) hK hP hD hS hA hE [] rfl rfl) rfl rfl hl.1 rfl (lv_room (Nat.le_of_ble_eq_true rfl)) dX10_would_10 ⟨(Nat.le_of_ble_eq_true rfl), (Nat.le_of_ble_eq_true rfl)⟩) hP hD hS hA [] [0, 1] rfl rfl rfl (by decide) (fun r_4 u_5 H locs h_6 hP hD hS => ?_)
  subst h_6
  have hP : va_P g.1 vwCl [(oX10 x0 y0 ta z0 p0 dr pa to_ s0 im ki tr v0 rf), (aI g rf 3 rc)] H := hP
  have hD : va_D A [(oX10 x0 y0 ta z0 p0 dr pa to_ s0 im ki tr v0 rf), (aI g rf 3 rc)] := hD
  refine lv_if_eq (tgt := 30) hx hb dX10_would_13 (by decide) (fun c_7 => ?_) (fun c_7 => ?_)
  · refine lv_iconst (v := 0) hx hb dX10_would_30 (by decide) ?_
    refine he_xv (En := "java/lang/IllegalArgumentException") (wx := [(oX10 x0 y0 ta z0 p0 dr pa to_ s0 im ki tr v0 rf), (aI g rf 3 (upd rc 2 (rc 2 + 1)))]) (wc := [(oX10 x0 y0 ta z0 p0 dr pa to_ s0 im ki tr v0 rf), (aI g rf 3 rc)]) (wr := []) (vx_runV (As := [.int 0]) (rest := []) ⟨hx, hb, hml, hown, hts⟩ (g_X10_demand0 l g x0 y0 z0 p0 dr pa s0 im tr v0 rf ta to_ ki rc hlt H.size) (cwV 1 hts gX10_would_X10_demand rfl rfl rfl (by decide +kernel) ⟨Nat.le_of_ble_eq_true rfl, Nat.le_of_ble_eq_true rfl⟩) (he_preV (wc := [(oX10 x0 y0 ta z0 p0 dr pa to_ s0 im ki tr v0 rf), (aI g rf 3 rc)]) hK hP hD hS hA hE [0, 1] rfl rfl 0 rfl rfl) rfl rfl hl.1 rfl (lv_room (Nat.le_of_ble_eq_true rfl)) dX10_would_31 ⟨(Nat.le_of_ble_eq_true rfl), (Nat.le_of_ble_eq_true rfl)⟩) hP hD hS hA [0, 1] [] rfl rfl rfl (by decide) (fun ce q9 H locs hP hD hS hce hcv hcl => ?_)
    have hP : va_P g.1 vwCl [(oX10 x0 y0 ta z0 p0 dr pa to_ s0 im ki tr v0 rf), (aI g rf 3 (upd rc 2 (rc 2 + 1)))] H := hP
    have hD : va_D A [(oX10 x0 y0 ta z0 p0 dr pa to_ s0 im ki tr v0 rf), (aI g rf 3 (upd rc 2 (rc 2 + 1)))] := hD
    exact he_out hQ hlk hne hP hD hS hce hcv hcl (Nat.le_of_ble_eq_true rfl) (Nat.le_of_ble_eq_true rfl)
  · refine lv_iload_n hx hb dX10_would_16 rfl (lv_at hl 3 rfl) ?_
    refine lv_iconst (v := 0) hx hb dX10_would_17 (by decide) ?_
    refine lv_bipush (v := 9) hx hb dX10_would_18 (by decide) ?_
    refine he_ci (wc := []) (wr := [(oX10 x0 y0 ta z0 p0 dr pa to_ s0 im ki tr v0 rf), (aI g rf 3 rc)]) (va_runS (As := [.int z, .int 0, .int 9]) (rest := [.ref x0]) ⟨hx, hb, hml, hown, hts⟩ (c_X10_within l g z 0 9 H.size) (va_cwS 3 hts gX10_would_X10_within rfl rfl rfl (by decide +kernel) ⟨Nat.le_of_ble_eq_true rfl, Nat.le_of_ble_eq_true rfl⟩) (he_preS (wc := []) hK hP hD hS hA hE [] rfl rfl) rfl rfl hl.1 rfl (lv_room (Nat.le_of_ble_eq_true rfl)) dX10_would_20 ⟨(Nat.le_of_ble_eq_true rfl), (Nat.le_of_ble_eq_true rfl)⟩) hP hD hS hA [] [0, 1] rfl rfl rfl (by decide) (fun r_8 u_9 H locs h_10 hP hD hS => ?_)
    subst h_10
    have hP : va_P g.1 vwCl [(oX10 x0 y0 ta z0 p0 dr pa to_ s0 im ki tr v0 rf), (aI g rf 3 rc)] H := hP
    have hD : va_D A [(oX10 x0 y0 ta z0 p0 dr pa to_ s0 im ki tr v0 rf), (aI g rf 3 rc)] := hD
    refine lv_if_eq (tgt := 30) hx hb dX10_would_23 (by decide) (fun c_11 => ?_) (fun c_11 => ?_)
    · refine lv_iconst (v := 0) hx hb dX10_would_30 (by decide) ?_
      refine he_xv (En := "java/lang/IllegalArgumentException") (wx := [(oX10 x0 y0 ta z0 p0 dr pa to_ s0 im ki tr v0 rf), (aI g rf 3 (upd rc 2 (rc 2 + 1)))]) (wc := [(oX10 x0 y0 ta z0 p0 dr pa to_ s0 im ki tr v0 rf), (aI g rf 3 rc)]) (wr := []) (vx_runV (As := [.int 0]) (rest := []) ⟨hx, hb, hml, hown, hts⟩ (g_X10_demand0 l g x0 y0 z0 p0 dr pa s0 im tr v0 rf ta to_ ki rc hlt H.size) (cwV 1 hts gX10_would_X10_demand rfl rfl rfl (by decide +kernel) ⟨Nat.le_of_ble_eq_true rfl, Nat.le_of_ble_eq_true rfl⟩) (he_preV (wc := [(oX10 x0 y0 ta z0 p0 dr pa to_ s0 im ki tr v0 rf), (aI g rf 3 rc)]) hK hP hD hS hA hE [0, 1] rfl rfl 0 rfl rfl) rfl rfl hl.1 rfl (lv_room (Nat.le_of_ble_eq_true rfl)) dX10_would_31 ⟨(Nat.le_of_ble_eq_true rfl), (Nat.le_of_ble_eq_true rfl)⟩) hP hD hS hA [0, 1] [] rfl rfl rfl (by decide) (fun ce q9 H locs hP hD hS hce hcv hcl => ?_)
      have hP : va_P g.1 vwCl [(oX10 x0 y0 ta z0 p0 dr pa to_ s0 im ki tr v0 rf), (aI g rf 3 (upd rc 2 (rc 2 + 1)))] H := hP
      have hD : va_D A [(oX10 x0 y0 ta z0 p0 dr pa to_ s0 im ki tr v0 rf), (aI g rf 3 (upd rc 2 (rc 2 + 1)))] := hD
      exact he_out hQ hlk hne hP hD hS hce hcv hcl (Nat.le_of_ble_eq_true rfl) (Nat.le_of_ble_eq_true rfl)
    · refine lv_iconst (v := 1) hx hb dX10_would_26 (by decide) ?_
      refine lv_goto (tgt := 31) hx hb dX10_would_27 (by decide) ?_
      exact absurd hbad (by rintro (h9 | h9) <;> contradiction)
set_option maxHeartbeats 4000000 in
set_option maxRecDepth 100000 in
theorem g_X10_wouldX (l : Launch) (g : he_G) (x0 : Nat) (y0 : Nat) (z0 : Nat) (p0 : Nat) (dr : Nat) (pa : Nat) (s0 : Nat) (im : Nat) (tr : Nat) (v0 : Nat) (rf : Nat) (ta : Int32) (to_ : Int32) (ki : Int32) (rc : Nat → Int32) (x : Int32) (y : Int32) (z : Int32) (hlt : l.stackTraces = false) (hbad : he_within y 1 60 = 0 ∨ he_within z 0 9 = 0) (hyes : ¬ he_within x 0 (to_ - 1) = 0) (hx1 : ¬ x = -1) : he_T he_QTi l yX10_would wsX10_would 7 103 1 6 g [.ref x0, .int x, .int y, .int z] [(oX10 x0 y0 ta z0 p0 dr pa to_ s0 im ki tr v0 rf), (aI g rf 3 rc)] "java/lang/IllegalArgumentException" [(oX10 x0 y0 ta z0 p0 dr pa to_ s0 im ki tr v0 rf), (aI g rf 3 (upd rc 2 (rc 2 + 1)))] := by
  refine he_beginX (l := l) (g := g) (y := yX10_would) (wl := wsX10_would) (fr := 7) (lo := 103) (mc := 1) (ms := 6) (av := [.ref x0, .int x, .int y, .int z]) (ws := [(oX10 x0 y0 ta z0 p0 dr pa to_ s0 im ki tr v0 rf), (aI g rf 3 rc)]) (cc := cX10_would) (maxL := 4) (ret := (some .int)) he_QTi (by decide) rfl (Nat.le_of_ble_eq_true rfl) ?_
  intro p e s m args below meth c A ls H locs Q hQ hne hB
  obtain ⟨hx, hb, hr, hml, hown, hts, hlk, hin, hP, hK, hD, hS, hA, hE, hl⟩ := hB
  have hl : lv_has ls 4 [(0, .ref x0), (1, .int x), (2, .int y), (3, .int z)] := hl
  refine lv_aload_n hx hb dX10_would_0 rfl (lv_at hl 0 rfl) ?_
  refine lv_iload_n hx hb dX10_would_1 rfl (lv_at hl 1 rfl) ?_
  refine he_cv (wc := [(oX10 x0 y0 ta z0 p0 dr pa to_ s0 im ki tr v0 rf)]) (wr := [(aI g rf 3 rc)]) (va_runV (As := [.int x]) (rest := []) ⟨hx, hb, hml, hown, hts⟩ (g_X10_demandCN1 l g x0 y0 z0 p0 dr pa s0 im tr v0 rf ta to_ ki x (by first | assumption | decide | omega) (by first | assumption | decide | omega) H.size) (cwV 1 hts gX10_would_X10_demandContractOrNone rfl rfl rfl (by decide +kernel) ⟨Nat.le_of_ble_eq_true rfl, Nat.le_of_ble_eq_true rfl⟩) (he_preV (wc := [(oX10 x0 y0 ta z0 p0 dr pa to_ s0 im ki tr v0 rf)]) hK hP hD hS hA hE [0] rfl rfl 0 rfl rfl) rfl rfl hl.1 rfl (lv_room (Nat.le_of_ble_eq_true rfl)) dX10_would_2 ⟨(Nat.le_of_ble_eq_true rfl), (Nat.le_of_ble_eq_true rfl)⟩) hP hD hS hA [0] [1] rfl rfl rfl (by decide) (fun u_2 H locs h_3 hP hD hS => ?_)
  have hP : va_P g.1 vwCl [(aI g rf 3 rc), (oX10 x0 y0 ta z0 p0 dr pa to_ s0 im ki tr v0 rf)] H := hP
  have hD : va_D A [(aI g rf 3 rc), (oX10 x0 y0 ta z0 p0 dr pa to_ s0 im ki tr v0 rf)] := hD
  refine lv_aload_n hx hb dX10_would_5 rfl (lv_at hl 0 rfl) ?_
  refine lv_iload_n hx hb dX10_would_6 rfl (lv_at hl 2 rfl) ?_
  refine lv_iconst (v := 1) hx hb dX10_would_7 (by decide) ?_
  refine lv_bipush (v := 60) hx hb dX10_would_8 (by decide) ?_
  refine he_ci (wc := []) (wr := [(aI g rf 3 rc), (oX10 x0 y0 ta z0 p0 dr pa to_ s0 im ki tr v0 rf)]) (va_runS (As := [.int y, .int 1, .int 60]) (rest := [.ref x0]) ⟨hx, hb, hml, hown, hts⟩ (c_X10_within l g y 1 60 H.size) (va_cwS 3 hts gX10_would_X10_within rfl rfl rfl (by decide +kernel) ⟨Nat.le_of_ble_eq_true rfl, Nat.le_of_ble_eq_true rfl⟩) (he_preS (wc := []) hK hP hD hS hA hE [] rfl rfl) rfl rfl hl.1 rfl (lv_room (Nat.le_of_ble_eq_true rfl)) dX10_would_10 ⟨(Nat.le_of_ble_eq_true rfl), (Nat.le_of_ble_eq_true rfl)⟩) hP hD hS hA [] [0, 1] rfl rfl rfl (by decide) (fun r_4 u_5 H locs h_6 hP hD hS => ?_)
  subst h_6
  have hP : va_P g.1 vwCl [(aI g rf 3 rc), (oX10 x0 y0 ta z0 p0 dr pa to_ s0 im ki tr v0 rf)] H := hP
  have hD : va_D A [(aI g rf 3 rc), (oX10 x0 y0 ta z0 p0 dr pa to_ s0 im ki tr v0 rf)] := hD
  refine lv_if_eq (tgt := 30) hx hb dX10_would_13 (by decide) (fun c_7 => ?_) (fun c_7 => ?_)
  · refine lv_iconst (v := 0) hx hb dX10_would_30 (by decide) ?_
    refine he_xv (En := "java/lang/IllegalArgumentException") (wx := [(oX10 x0 y0 ta z0 p0 dr pa to_ s0 im ki tr v0 rf), (aI g rf 3 (upd rc 2 (rc 2 + 1)))]) (wc := [(oX10 x0 y0 ta z0 p0 dr pa to_ s0 im ki tr v0 rf), (aI g rf 3 rc)]) (wr := []) (vx_runV (As := [.int 0]) (rest := []) ⟨hx, hb, hml, hown, hts⟩ (g_X10_demand0 l g x0 y0 z0 p0 dr pa s0 im tr v0 rf ta to_ ki rc hlt H.size) (cwV 1 hts gX10_would_X10_demand rfl rfl rfl (by decide +kernel) ⟨Nat.le_of_ble_eq_true rfl, Nat.le_of_ble_eq_true rfl⟩) (he_preV (wc := [(oX10 x0 y0 ta z0 p0 dr pa to_ s0 im ki tr v0 rf), (aI g rf 3 rc)]) hK hP hD hS hA hE [1, 0] rfl rfl 1 rfl rfl) rfl rfl hl.1 rfl (lv_room (Nat.le_of_ble_eq_true rfl)) dX10_would_31 ⟨(Nat.le_of_ble_eq_true rfl), (Nat.le_of_ble_eq_true rfl)⟩) hP hD hS hA [1, 0] [] rfl rfl rfl (by decide) (fun ce q9 H locs hP hD hS hce hcv hcl => ?_)
    have hP : va_P g.1 vwCl [(oX10 x0 y0 ta z0 p0 dr pa to_ s0 im ki tr v0 rf), (aI g rf 3 (upd rc 2 (rc 2 + 1)))] H := hP
    have hD : va_D A [(oX10 x0 y0 ta z0 p0 dr pa to_ s0 im ki tr v0 rf), (aI g rf 3 (upd rc 2 (rc 2 + 1)))] := hD
    exact he_out hQ hlk hne hP hD hS hce hcv hcl (Nat.le_of_ble_eq_true rfl) (Nat.le_of_ble_eq_true rfl)
  · refine lv_iload_n hx hb dX10_would_16 rfl (lv_at hl 3 rfl) ?_
    refine lv_iconst (v := 0) hx hb dX10_would_17 (by decide) ?_
    refine lv_bipush (v := 9) hx hb dX10_would_18 (by decide) ?_
    refine he_ci (wc := []) (wr := [(aI g rf 3 rc), (oX10 x0 y0 ta z0 p0 dr pa to_ s0 im ki tr v0 rf)]) (va_runS (As := [.int z, .int 0, .int 9]) (rest := [.ref x0]) ⟨hx, hb, hml, hown, hts⟩ (c_X10_within l g z 0 9 H.size) (va_cwS 3 hts gX10_would_X10_within rfl rfl rfl (by decide +kernel) ⟨Nat.le_of_ble_eq_true rfl, Nat.le_of_ble_eq_true rfl⟩) (he_preS (wc := []) hK hP hD hS hA hE [] rfl rfl) rfl rfl hl.1 rfl (lv_room (Nat.le_of_ble_eq_true rfl)) dX10_would_20 ⟨(Nat.le_of_ble_eq_true rfl), (Nat.le_of_ble_eq_true rfl)⟩) hP hD hS hA [] [0, 1] rfl rfl rfl (by decide) (fun r_8 u_9 H locs h_10 hP hD hS => ?_)
    subst h_10
    have hP : va_P g.1 vwCl [(aI g rf 3 rc), (oX10 x0 y0 ta z0 p0 dr pa to_ s0 im ki tr v0 rf)] H := hP
    have hD : va_D A [(aI g rf 3 rc), (oX10 x0 y0 ta z0 p0 dr pa to_ s0 im ki tr v0 rf)] := hD
    refine lv_if_eq (tgt := 30) hx hb dX10_would_23 (by decide) (fun c_11 => ?_) (fun c_11 => ?_)
    · refine lv_iconst (v := 0) hx hb dX10_would_30 (by decide) ?_
      refine he_xv (En := "java/lang/IllegalArgumentException") (wx := [(oX10 x0 y0 ta z0 p0 dr pa to_ s0 im ki tr v0 rf), (aI g rf 3 (upd rc 2 (rc 2 + 1)))]) (wc := [(oX10 x0 y0 ta z0 p0 dr pa to_ s0 im ki tr v0 rf), (aI g rf 3 rc)]) (wr := []) (vx_runV (As := [.int 0]) (rest := []) ⟨hx, hb, hml, hown, hts⟩ (g_X10_demand0 l g x0 y0 z0 p0 dr pa s0 im tr v0 rf ta to_ ki rc hlt H.size) (cwV 1 hts gX10_would_X10_demand rfl rfl rfl (by decide +kernel) ⟨Nat.le_of_ble_eq_true rfl, Nat.le_of_ble_eq_true rfl⟩) (he_preV (wc := [(oX10 x0 y0 ta z0 p0 dr pa to_ s0 im ki tr v0 rf), (aI g rf 3 rc)]) hK hP hD hS hA hE [1, 0] rfl rfl 1 rfl rfl) rfl rfl hl.1 rfl (lv_room (Nat.le_of_ble_eq_true rfl)) dX10_would_31 ⟨(Nat.le_of_ble_eq_true rfl), (Nat.le_of_ble_eq_true rfl)⟩) hP hD hS hA [1, 0] [] rfl rfl rfl (by decide) (fun ce q9 H locs hP hD hS hce hcv hcl => ?_)
      have hP : va_P g.1 vwCl [(oX10 x0 y0 ta z0 p0 dr pa to_ s0 im ki tr v0 rf), (aI g rf 3 (upd rc 2 (rc 2 + 1)))] H := hP
      have hD : va_D A [(oX10 x0 y0 ta z0 p0 dr pa to_ s0 im ki tr v0 rf), (aI g rf 3 (upd rc 2 (rc 2 + 1)))] := hD
      exact he_out hQ hlk hne hP hD hS hce hcv hcl (Nat.le_of_ble_eq_true rfl) (Nat.le_of_ble_eq_true rfl)
    · refine lv_iconst (v := 1) hx hb dX10_would_26 (by decide) ?_
      refine lv_goto (tgt := 31) hx hb dX10_would_27 (by decide) ?_
      exact absurd hbad (by rintro (h9 | h9) <;> contradiction)
set_option maxHeartbeats 4000000 in
set_option maxRecDepth 100000 in
theorem g_X10_ruleXc (l : Launch) (g : he_G) (x0 : Nat) (y0 : Nat) (z0 : Nat) (p0 : Nat) (dr : Nat) (pa : Nat) (s0 : Nat) (im : Nat) (tr : Nat) (v0 : Nat) (rf : Nat) (ta : Int32) (to_ : Int32) (ki : Int32) (rc : Nat → Int32) (x : Int32) (y : Int32) (hlt : l.stackTraces = false) (hno : he_within x 0 (to_ - 1) = 0) : he_T he_QTi l yX10_rule wsX10_rule 7 103 1 6 g [.ref x0, .int x, .int y] [(oX10 x0 y0 ta z0 p0 dr pa to_ s0 im ki tr v0 rf), (aI g rf 3 rc)] "java/util/NoSuchElementException" [(oX10 x0 y0 ta z0 p0 dr pa to_ s0 im ki tr v0 rf), (aI g rf 3 (upd rc 0 (rc 0 + 1)))] := by
  refine he_beginX (l := l) (g := g) (y := yX10_rule) (wl := wsX10_rule) (fr := 7) (lo := 103) (mc := 1) (ms := 6) (av := [.ref x0, .int x, .int y]) (ws := [(oX10 x0 y0 ta z0 p0 dr pa to_ s0 im ki tr v0 rf), (aI g rf 3 rc)]) (cc := cX10_rule) (maxL := 3) (ret := (some .int)) he_QTi (by decide) rfl (Nat.le_of_ble_eq_true rfl) ?_
  intro p e s m args below meth c A ls H locs Q hQ hne hB
  obtain ⟨hx, hb, hr, hml, hown, hts, hlk, hin, hP, hK, hD, hS, hA, hE, hl⟩ := hB
  have hl : lv_has ls 3 [(0, .ref x0), (1, .int x), (2, .int y)] := hl
  refine lv_aload_n hx hb dX10_rule_0 rfl (lv_at hl 0 rfl) ?_
  refine lv_iload_n hx hb dX10_rule_1 rfl (lv_at hl 1 rfl) ?_
  refine he_xv (En := "java/util/NoSuchElementException") (wx := [(oX10 x0 y0 ta z0 p0 dr pa to_ s0 im ki tr v0 rf), (aI g rf 3 (upd rc 0 (rc 0 + 1)))]) (wc := [(oX10 x0 y0 ta z0 p0 dr pa to_ s0 im ki tr v0 rf), (aI g rf 3 rc)]) (wr := []) (vx_runV (As := [.int x]) (rest := []) ⟨hx, hb, hml, hown, hts⟩ (g_X10_demandContract0 l g x0 y0 z0 p0 dr pa s0 im tr v0 rf ta to_ ki rc x hlt (by first | assumption | decide | omega) H.size) (cwV 1 hts gX10_rule_X10_demandContract rfl rfl rfl (by decide +kernel) ⟨Nat.le_of_ble_eq_true rfl, Nat.le_of_ble_eq_true rfl⟩) (he_preV (wc := [(oX10 x0 y0 ta z0 p0 dr pa to_ s0 im ki tr v0 rf), (aI g rf 3 rc)]) hK hP hD hS hA hE [0, 1] rfl rfl 0 rfl rfl) rfl rfl hl.1 rfl (lv_room (Nat.le_of_ble_eq_true rfl)) dX10_rule_2 ⟨(Nat.le_of_ble_eq_true rfl), (Nat.le_of_ble_eq_true rfl)⟩) hP hD hS hA [0, 1] [] rfl rfl rfl (by decide) (fun ce q9 H locs hP hD hS hce hcv hcl => ?_)
  have hP : va_P g.1 vwCl [(oX10 x0 y0 ta z0 p0 dr pa to_ s0 im ki tr v0 rf), (aI g rf 3 (upd rc 0 (rc 0 + 1)))] H := hP
  have hD : va_D A [(oX10 x0 y0 ta z0 p0 dr pa to_ s0 im ki tr v0 rf), (aI g rf 3 (upd rc 0 (rc 0 + 1)))] := hD
  exact he_out hQ hlk hne hP hD hS hce hcv hcl (Nat.le_of_ble_eq_true rfl) (Nat.le_of_ble_eq_true rfl)
end
section
set_option maxHeartbeats 4000000 in
set_option maxRecDepth 100000 in
theorem g_X10_ruleX (l : Launch) (g : he_G) (x0 : Nat) (y0 : Nat) (z0 : Nat) (p0 : Nat) (dr : Nat) (pa : Nat) (s0 : Nat) (im : Nat) (tr : Nat) (v0 : Nat) (rf : Nat) (ta : Int32) (to_ : Int32) (ki : Int32) (rc : Nat → Int32) (x : Int32) (y : Int32) (hlt : l.stackTraces = false) (hbad : he_within y 0 6 = 0) (hyes : ¬ he_within x 0 (to_ - 1) = 0) : he_T he_QTi l yX10_rule wsX10_rule 7 103 1 6 g [.ref x0, .int x, .int y] [(oX10 x0 y0 ta z0 p0 dr pa to_ s0 im ki tr v0 rf), (aI g rf 3 rc)] "java/lang/IllegalArgumentException" [(oX10 x0 y0 ta z0 p0 dr pa to_ s0 im ki tr v0 rf), (aI g rf 3 (upd rc 2 (rc 2 + 1)))] := by
  refine he_beginX (l := l) (g := g) (y := yX10_rule) (wl := wsX10_rule) (fr := 7) (lo := 103) (mc := 1) (ms := 6) (av := [.ref x0, .int x, .int y]) (ws := [(oX10 x0 y0 ta z0 p0 dr pa to_ s0 im ki tr v0 rf), (aI g rf 3 rc)]) (cc := cX10_rule) (maxL := 3) (ret := (some .int)) he_QTi (by decide) rfl (Nat.le_of_ble_eq_true rfl) ?_
  intro p e s m args below meth c A ls H locs Q hQ hne hB
  obtain ⟨hx, hb, hr, hml, hown, hts, hlk, hin, hP, hK, hD, hS, hA, hE, hl⟩ := hB
  have hl : lv_has ls 3 [(0, .ref x0), (1, .int x), (2, .int y)] := hl
  refine lv_aload_n hx hb dX10_rule_0 rfl (lv_at hl 0 rfl) ?_
  refine lv_iload_n hx hb dX10_rule_1 rfl (lv_at hl 1 rfl) ?_
  refine he_cv (wc := [(oX10 x0 y0 ta z0 p0 dr pa to_ s0 im ki tr v0 rf)]) (wr := [(aI g rf 3 rc)]) (va_runV (As := [.int x]) (rest := []) ⟨hx, hb, hml, hown, hts⟩ (g_X10_demandContract1 l g x0 y0 z0 p0 dr pa s0 im tr v0 rf ta to_ ki x (by first | assumption | decide | omega) H.size) (cwV 1 hts gX10_rule_X10_demandContract rfl rfl rfl (by decide +kernel) ⟨Nat.le_of_ble_eq_true rfl, Nat.le_of_ble_eq_true rfl⟩) (he_preV (wc := [(oX10 x0 y0 ta z0 p0 dr pa to_ s0 im ki tr v0 rf)]) hK hP hD hS hA hE [0] rfl rfl 0 rfl rfl) rfl rfl hl.1 rfl (lv_room (Nat.le_of_ble_eq_true rfl)) dX10_rule_2 ⟨(Nat.le_of_ble_eq_true rfl), (Nat.le_of_ble_eq_true rfl)⟩) hP hD hS hA [0] [1] rfl rfl rfl (by decide) (fun u_2 H locs h_3 hP hD hS => ?_)
  have hP : va_P g.1 vwCl [(aI g rf 3 rc), (oX10 x0 y0 ta z0 p0 dr pa to_ s0 im ki tr v0 rf)] H := hP
  have hD : va_D A [(aI g rf 3 rc), (oX10 x0 y0 ta z0 p0 dr pa to_ s0 im ki tr v0 rf)] := hD
  refine lv_aload_n hx hb dX10_rule_5 rfl (lv_at hl 0 rfl) ?_
  refine lv_iload_n hx hb dX10_rule_6 rfl (lv_at hl 2 rfl) ?_
  refine lv_iconst (v := 0) hx hb dX10_rule_7 (by decide) ?_
  refine lv_bipush (v := 6) hx hb dX10_rule_8 (by decide) ?_
  refine he_ci (wc := []) (wr := [(aI g rf 3 rc), (oX10 x0 y0 ta z0 p0 dr pa to_ s0 im ki tr v0 rf)]) (va_runS (As := [.int y, .int 0, .int 6]) (rest := [.ref x0]) ⟨hx, hb, hml, hown, hts⟩ (c_X10_within l g y 0 6 H.size) (va_cwS 3 hts gX10_rule_X10_within rfl rfl rfl (by decide +kernel) ⟨Nat.le_of_ble_eq_true rfl, Nat.le_of_ble_eq_true rfl⟩) (he_preS (wc := []) hK hP hD hS hA hE [] rfl rfl) rfl rfl hl.1 rfl (lv_room (Nat.le_of_ble_eq_true rfl)) dX10_rule_10 ⟨(Nat.le_of_ble_eq_true rfl), (Nat.le_of_ble_eq_true rfl)⟩) hP hD hS hA [] [0, 1] rfl rfl rfl (by decide) (fun r_4 u_5 H locs h_6 hP hD hS => ?_)
  subst h_6
  have hP : va_P g.1 vwCl [(aI g rf 3 rc), (oX10 x0 y0 ta z0 p0 dr pa to_ s0 im ki tr v0 rf)] H := hP
  have hD : va_D A [(aI g rf 3 rc), (oX10 x0 y0 ta z0 p0 dr pa to_ s0 im ki tr v0 rf)] := hD
  refine he_top (0) hbad ?_
  refine he_xv (En := "java/lang/IllegalArgumentException") (wx := [(oX10 x0 y0 ta z0 p0 dr pa to_ s0 im ki tr v0 rf), (aI g rf 3 (upd rc 2 (rc 2 + 1)))]) (wc := [(oX10 x0 y0 ta z0 p0 dr pa to_ s0 im ki tr v0 rf), (aI g rf 3 rc)]) (wr := []) (vx_runV (As := [.int 0]) (rest := []) ⟨hx, hb, hml, hown, hts⟩ (g_X10_demand0 l g x0 y0 z0 p0 dr pa s0 im tr v0 rf ta to_ ki rc hlt H.size) (cwV 1 hts gX10_rule_X10_demand rfl rfl rfl (by decide +kernel) ⟨Nat.le_of_ble_eq_true rfl, Nat.le_of_ble_eq_true rfl⟩) (he_preV (wc := [(oX10 x0 y0 ta z0 p0 dr pa to_ s0 im ki tr v0 rf), (aI g rf 3 rc)]) hK hP hD hS hA hE [1, 0] rfl rfl 1 rfl rfl) rfl rfl hl.1 rfl (lv_room (Nat.le_of_ble_eq_true rfl)) dX10_rule_13 ⟨(Nat.le_of_ble_eq_true rfl), (Nat.le_of_ble_eq_true rfl)⟩) hP hD hS hA [1, 0] [] rfl rfl rfl (by decide) (fun ce q9 H locs hP hD hS hce hcv hcl => ?_)
  have hP : va_P g.1 vwCl [(oX10 x0 y0 ta z0 p0 dr pa to_ s0 im ki tr v0 rf), (aI g rf 3 (upd rc 2 (rc 2 + 1)))] H := hP
  have hD : va_D A [(oX10 x0 y0 ta z0 p0 dr pa to_ s0 im ki tr v0 rf), (aI g rf 3 (upd rc 2 (rc 2 + 1)))] := hD
  exact he_out hQ hlk hne hP hD hS hce hcv hcl (Nat.le_of_ble_eq_true rfl) (Nat.le_of_ble_eq_true rfl)
set_option maxHeartbeats 4000000 in
set_option maxRecDepth 100000 in
theorem g_X10_wallXw (l : Launch) (g : he_G) (x0 : Nat) (y0 : Nat) (z0 : Nat) (dr : Nat) (pa : Nat) (s0 : Nat) (im : Nat) (tr : Nat) (v0 : Nat) (rf : Nat) (ta : Int32) (to_ : Int32) (ki : Int32) (p0 : Nat) (p1 : Nat) (p2 : Nat) (p3 : Nat) (p4 : Nat) (w : Nat) (rc : Nat → Int32) (x : Int32) (y : Int32) (hlt : l.stackTraces = false) (hw6 : w ≤ 6) (hno : he_within x 0 (nI w - 1) = 0) : he_T he_QTi l yX10_wall wsX10_wall 7 103 1 6 g [.ref x0, .int x, .int y] [(oX10 x0 y0 ta z0 p0 dr pa to_ s0 im ki tr v0 rf), (aI g rf 3 rc), (oX6 p0 p1 p2 p3 p4 (nI w))] "java/lang/IndexOutOfBoundsException" [(oX10 x0 y0 ta z0 p0 dr pa to_ s0 im ki tr v0 rf), (aI g rf 3 (upd rc 1 (rc 1 + 1))), (oX6 p0 p1 p2 p3 p4 (nI w))] := by
  refine he_beginX (l := l) (g := g) (y := yX10_wall) (wl := wsX10_wall) (fr := 7) (lo := 103) (mc := 1) (ms := 6) (av := [.ref x0, .int x, .int y]) (ws := [(oX10 x0 y0 ta z0 p0 dr pa to_ s0 im ki tr v0 rf), (aI g rf 3 rc), (oX6 p0 p1 p2 p3 p4 (nI w))]) (cc := cX10_wall) (maxL := 3) (ret := (some .int)) he_QTi (by decide) rfl (Nat.le_of_ble_eq_true rfl) ?_
  intro p e s m args below meth c A ls H locs Q hQ hne hB
  obtain ⟨hx, hb, hr, hml, hown, hts, hlk, hin, hP, hK, hD, hS, hA, hE, hl⟩ := hB
  have hl : lv_has ls 3 [(0, .ref x0), (1, .int x), (2, .int y)] := hl
  refine lv_aload_n hx hb dX10_wall_0 rfl (lv_at hl 0 rfl) ?_
  refine lv_iload_n hx hb dX10_wall_1 rfl (lv_at hl 1 rfl) ?_
  refine he_xv (En := "java/lang/IndexOutOfBoundsException") (wx := [(oX10 x0 y0 ta z0 p0 dr pa to_ s0 im ki tr v0 rf), (aI g rf 3 (upd rc 1 (rc 1 + 1))), (oX6 p0 p1 p2 p3 p4 (nI w))]) (wc := [(oX10 x0 y0 ta z0 p0 dr pa to_ s0 im ki tr v0 rf), (aI g rf 3 rc), (oX6 p0 p1 p2 p3 p4 (nI w))]) (wr := []) (vx_runV (As := [.int x]) (rest := []) ⟨hx, hb, hml, hown, hts⟩ (g_X10_demandWall0 l g x0 y0 z0 dr pa s0 im tr v0 rf ta to_ ki p0 p1 p2 p3 p4 w rc x hlt (by first | assumption | decide | omega) (by first | assumption | decide | omega) H.size) (cwV 1 hts gX10_wall_X10_demandWall rfl rfl rfl (by decide +kernel) ⟨Nat.le_of_ble_eq_true rfl, Nat.le_of_ble_eq_true rfl⟩) (he_preV (wc := [(oX10 x0 y0 ta z0 p0 dr pa to_ s0 im ki tr v0 rf), (aI g rf 3 rc), (oX6 p0 p1 p2 p3 p4 (nI w))]) hK hP hD hS hA hE [0, 1, 2] rfl rfl 0 rfl rfl) rfl rfl hl.1 rfl (lv_room (Nat.le_of_ble_eq_true rfl)) dX10_wall_2 ⟨(Nat.le_of_ble_eq_true rfl), (Nat.le_of_ble_eq_true rfl)⟩) hP hD hS hA [0, 1, 2] [] rfl rfl rfl (by decide) (fun ce q9 H locs hP hD hS hce hcv hcl => ?_)
  have hP : va_P g.1 vwCl [(oX10 x0 y0 ta z0 p0 dr pa to_ s0 im ki tr v0 rf), (aI g rf 3 (upd rc 1 (rc 1 + 1))), (oX6 p0 p1 p2 p3 p4 (nI w))] H := hP
  have hD : va_D A [(oX10 x0 y0 ta z0 p0 dr pa to_ s0 im ki tr v0 rf), (aI g rf 3 (upd rc 1 (rc 1 + 1))), (oX6 p0 p1 p2 p3 p4 (nI w))] := hD
  exact he_out hQ hlk hne hP hD hS hce hcv hcl (Nat.le_of_ble_eq_true rfl) (Nat.le_of_ble_eq_true rfl)
set_option maxHeartbeats 4000000 in
set_option maxRecDepth 100000 in
theorem g_X10_wallX (l : Launch) (g : he_G) (x0 : Nat) (y0 : Nat) (z0 : Nat) (dr : Nat) (pa : Nat) (s0 : Nat) (im : Nat) (tr : Nat) (v0 : Nat) (rf : Nat) (ta : Int32) (to_ : Int32) (ki : Int32) (p0 : Nat) (p1 : Nat) (p2 : Nat) (p3 : Nat) (p4 : Nat) (w : Nat) (rc : Nat → Int32) (x : Int32) (y : Int32) (hlt : l.stackTraces = false) (hbad : he_within y 0 3 = 0) (hyes : ¬ he_within x 0 (nI w - 1) = 0) : he_T he_QTi l yX10_wall wsX10_wall 7 103 1 6 g [.ref x0, .int x, .int y] [(oX10 x0 y0 ta z0 p0 dr pa to_ s0 im ki tr v0 rf), (aI g rf 3 rc), (oX6 p0 p1 p2 p3 p4 (nI w))] "java/lang/IllegalArgumentException" [(oX10 x0 y0 ta z0 p0 dr pa to_ s0 im ki tr v0 rf), (aI g rf 3 (upd rc 2 (rc 2 + 1))), (oX6 p0 p1 p2 p3 p4 (nI w))] := by
  refine he_beginX (l := l) (g := g) (y := yX10_wall) (wl := wsX10_wall) (fr := 7) (lo := 103) (mc := 1) (ms := 6) (av := [.ref x0, .int x, .int y]) (ws := [(oX10 x0 y0 ta z0 p0 dr pa to_ s0 im ki tr v0 rf), (aI g rf 3 rc), (oX6 p0 p1 p2 p3 p4 (nI w))]) (cc := cX10_wall) (maxL := 3) (ret := (some .int)) he_QTi (by decide) rfl (Nat.le_of_ble_eq_true rfl) ?_
  intro p e s m args below meth c A ls H locs Q hQ hne hB
  obtain ⟨hx, hb, hr, hml, hown, hts, hlk, hin, hP, hK, hD, hS, hA, hE, hl⟩ := hB
  have hl : lv_has ls 3 [(0, .ref x0), (1, .int x), (2, .int y)] := hl
  refine lv_aload_n hx hb dX10_wall_0 rfl (lv_at hl 0 rfl) ?_
  refine lv_iload_n hx hb dX10_wall_1 rfl (lv_at hl 1 rfl) ?_
  refine he_cv (wc := [(oX10 x0 y0 ta z0 p0 dr pa to_ s0 im ki tr v0 rf), (oX6 p0 p1 p2 p3 p4 (nI w))]) (wr := [(aI g rf 3 rc)]) (va_runV (As := [.int x]) (rest := []) ⟨hx, hb, hml, hown, hts⟩ (g_X10_demandWall1 l g x0 y0 z0 dr pa s0 im tr v0 rf ta to_ ki p0 p1 p2 p3 p4 w x (by first | assumption | decide | omega) H.size) (cwV 1 hts gX10_wall_X10_demandWall rfl rfl rfl (by decide +kernel) ⟨Nat.le_of_ble_eq_true rfl, Nat.le_of_ble_eq_true rfl⟩) (he_preV (wc := [(oX10 x0 y0 ta z0 p0 dr pa to_ s0 im ki tr v0 rf), (oX6 p0 p1 p2 p3 p4 (nI w))]) hK hP hD hS hA hE [0, 2] rfl rfl 0 rfl rfl) rfl rfl hl.1 rfl (lv_room (Nat.le_of_ble_eq_true rfl)) dX10_wall_2 ⟨(Nat.le_of_ble_eq_true rfl), (Nat.le_of_ble_eq_true rfl)⟩) hP hD hS hA [0, 2] [1] rfl rfl rfl (by decide) (fun u_2 H locs h_3 hP hD hS => ?_)
  have hP : va_P g.1 vwCl [(aI g rf 3 rc), (oX10 x0 y0 ta z0 p0 dr pa to_ s0 im ki tr v0 rf), (oX6 p0 p1 p2 p3 p4 (nI w))] H := hP
  have hD : va_D A [(aI g rf 3 rc), (oX10 x0 y0 ta z0 p0 dr pa to_ s0 im ki tr v0 rf), (oX6 p0 p1 p2 p3 p4 (nI w))] := hD
  refine lv_aload_n hx hb dX10_wall_5 rfl (lv_at hl 0 rfl) ?_
  refine lv_iload_n hx hb dX10_wall_6 rfl (lv_at hl 2 rfl) ?_
  refine lv_iconst (v := 0) hx hb dX10_wall_7 (by decide) ?_
  refine lv_iconst (v := 3) hx hb dX10_wall_8 (by decide) ?_
  refine he_ci (wc := []) (wr := [(aI g rf 3 rc), (oX10 x0 y0 ta z0 p0 dr pa to_ s0 im ki tr v0 rf), (oX6 p0 p1 p2 p3 p4 (nI w))]) (va_runS (As := [.int y, .int 0, .int 3]) (rest := [.ref x0]) ⟨hx, hb, hml, hown, hts⟩ (c_X10_within l g y 0 3 H.size) (va_cwS 3 hts gX10_wall_X10_within rfl rfl rfl (by decide +kernel) ⟨Nat.le_of_ble_eq_true rfl, Nat.le_of_ble_eq_true rfl⟩) (he_preS (wc := []) hK hP hD hS hA hE [] rfl rfl) rfl rfl hl.1 rfl (lv_room (Nat.le_of_ble_eq_true rfl)) dX10_wall_9 ⟨(Nat.le_of_ble_eq_true rfl), (Nat.le_of_ble_eq_true rfl)⟩) hP hD hS hA [] [0, 1, 2] rfl rfl rfl (by decide) (fun r_4 u_5 H locs h_6 hP hD hS => ?_)
  subst h_6
  have hP : va_P g.1 vwCl [(aI g rf 3 rc), (oX10 x0 y0 ta z0 p0 dr pa to_ s0 im ki tr v0 rf), (oX6 p0 p1 p2 p3 p4 (nI w))] H := hP
  have hD : va_D A [(aI g rf 3 rc), (oX10 x0 y0 ta z0 p0 dr pa to_ s0 im ki tr v0 rf), (oX6 p0 p1 p2 p3 p4 (nI w))] := hD
  refine he_top (0) hbad ?_
  refine he_xv (En := "java/lang/IllegalArgumentException") (wx := [(oX10 x0 y0 ta z0 p0 dr pa to_ s0 im ki tr v0 rf), (aI g rf 3 (upd rc 2 (rc 2 + 1)))]) (wc := [(oX10 x0 y0 ta z0 p0 dr pa to_ s0 im ki tr v0 rf), (aI g rf 3 rc)]) (wr := [(oX6 p0 p1 p2 p3 p4 (nI w))]) (vx_runV (As := [.int 0]) (rest := []) ⟨hx, hb, hml, hown, hts⟩ (g_X10_demand0 l g x0 y0 z0 p0 dr pa s0 im tr v0 rf ta to_ ki rc hlt H.size) (cwV 1 hts gX10_wall_X10_demand rfl rfl rfl (by decide +kernel) ⟨Nat.le_of_ble_eq_true rfl, Nat.le_of_ble_eq_true rfl⟩) (he_preV (wc := [(oX10 x0 y0 ta z0 p0 dr pa to_ s0 im ki tr v0 rf), (aI g rf 3 rc)]) hK hP hD hS hA hE [1, 0] rfl rfl 1 rfl rfl) rfl rfl hl.1 rfl (lv_room (Nat.le_of_ble_eq_true rfl)) dX10_wall_12 ⟨(Nat.le_of_ble_eq_true rfl), (Nat.le_of_ble_eq_true rfl)⟩) hP hD hS hA [1, 0] [2] rfl rfl rfl (by decide) (fun ce q9 H locs hP hD hS hce hcv hcl => ?_)
  have hP : va_P g.1 vwCl [(oX6 p0 p1 p2 p3 p4 (nI w)), (oX10 x0 y0 ta z0 p0 dr pa to_ s0 im ki tr v0 rf), (aI g rf 3 (upd rc 2 (rc 2 + 1)))] H := hP
  have hD : va_D A [(oX6 p0 p1 p2 p3 p4 (nI w)), (oX10 x0 y0 ta z0 p0 dr pa to_ s0 im ki tr v0 rf), (aI g rf 3 (upd rc 2 (rc 2 + 1)))] := hD
  have hP := hP.sub (ws' := [(oX10 x0 y0 ta z0 p0 dr pa to_ s0 im ki tr v0 rf), (aI g rf 3 (upd rc 2 (rc 2 + 1))), (oX6 p0 p1 p2 p3 p4 (nI w))]) [1, 2, 0] rfl
  have hD := hD.sub (ws' := [(oX10 x0 y0 ta z0 p0 dr pa to_ s0 im ki tr v0 rf), (aI g rf 3 (upd rc 2 (rc 2 + 1))), (oX6 p0 p1 p2 p3 p4 (nI w))]) [1, 2, 0] (by decide) rfl
  exact he_out hQ hlk hne hP hD hS hce hcv hcl (Nat.le_of_ble_eq_true rfl) (Nat.le_of_ble_eq_true rfl)
set_option maxHeartbeats 4000000 in
set_option maxRecDepth 100000 in
theorem g_X10_corksXw (l : Launch) (g : he_G) (x0 : Nat) (y0 : Nat) (z0 : Nat) (dr : Nat) (pa : Nat) (s0 : Nat) (im : Nat) (tr : Nat) (v0 : Nat) (rf : Nat) (ta : Int32) (to_ : Int32) (ki : Int32) (p0 : Nat) (p1 : Nat) (p2 : Nat) (p3 : Nat) (p4 : Nat) (w : Nat) (rc : Nat → Int32) (x : Int32) (y : Int32) (hlt : l.stackTraces = false) (hw6 : w ≤ 6) (hno : he_within y 0 (nI w - 1) = 0) : he_T he_QTi l yX10_corks wsX10_corks 7 103 1 6 g [.ref x0, .int x, .int y] [(oX10 x0 y0 ta z0 p0 dr pa to_ s0 im ki tr v0 rf), (aI g rf 3 rc), (oX6 p0 p1 p2 p3 p4 (nI w))] "java/lang/IndexOutOfBoundsException" [(oX10 x0 y0 ta z0 p0 dr pa to_ s0 im ki tr v0 rf), (aI g rf 3 (upd rc 1 (rc 1 + 1))), (oX6 p0 p1 p2 p3 p4 (nI w))] := by
  refine he_beginX (l := l) (g := g) (y := yX10_corks) (wl := wsX10_corks) (fr := 7) (lo := 103) (mc := 1) (ms := 6) (av := [.ref x0, .int x, .int y]) (ws := [(oX10 x0 y0 ta z0 p0 dr pa to_ s0 im ki tr v0 rf), (aI g rf 3 rc), (oX6 p0 p1 p2 p3 p4 (nI w))]) (cc := cX10_corks) (maxL := 3) (ret := (some .int)) he_QTi (by decide) rfl (Nat.le_of_ble_eq_true rfl) ?_
  intro p e s m args below meth c A ls H locs Q hQ hne hB
  obtain ⟨hx, hb, hr, hml, hown, hts, hlk, hin, hP, hK, hD, hS, hA, hE, hl⟩ := hB
  have hl : lv_has ls 3 [(0, .ref x0), (1, .int x), (2, .int y)] := hl
  refine lv_aload_n hx hb dX10_corks_0 rfl (lv_at hl 0 rfl) ?_
  refine lv_iload_n hx hb dX10_corks_1 rfl (lv_at hl 2 rfl) ?_
  refine he_xv (En := "java/lang/IndexOutOfBoundsException") (wx := [(oX10 x0 y0 ta z0 p0 dr pa to_ s0 im ki tr v0 rf), (aI g rf 3 (upd rc 1 (rc 1 + 1))), (oX6 p0 p1 p2 p3 p4 (nI w))]) (wc := [(oX10 x0 y0 ta z0 p0 dr pa to_ s0 im ki tr v0 rf), (aI g rf 3 rc), (oX6 p0 p1 p2 p3 p4 (nI w))]) (wr := []) (vx_runV (As := [.int y]) (rest := []) ⟨hx, hb, hml, hown, hts⟩ (g_X10_demandWall0 l g x0 y0 z0 dr pa s0 im tr v0 rf ta to_ ki p0 p1 p2 p3 p4 w rc y hlt (by first | assumption | decide | omega) (by first | assumption | decide | omega) H.size) (cwV 1 hts gX10_corks_X10_demandWall rfl rfl rfl (by decide +kernel) ⟨Nat.le_of_ble_eq_true rfl, Nat.le_of_ble_eq_true rfl⟩) (he_preV (wc := [(oX10 x0 y0 ta z0 p0 dr pa to_ s0 im ki tr v0 rf), (aI g rf 3 rc), (oX6 p0 p1 p2 p3 p4 (nI w))]) hK hP hD hS hA hE [0, 1, 2] rfl rfl 0 rfl rfl) rfl rfl hl.1 rfl (lv_room (Nat.le_of_ble_eq_true rfl)) dX10_corks_2 ⟨(Nat.le_of_ble_eq_true rfl), (Nat.le_of_ble_eq_true rfl)⟩) hP hD hS hA [0, 1, 2] [] rfl rfl rfl (by decide) (fun ce q9 H locs hP hD hS hce hcv hcl => ?_)
  have hP : va_P g.1 vwCl [(oX10 x0 y0 ta z0 p0 dr pa to_ s0 im ki tr v0 rf), (aI g rf 3 (upd rc 1 (rc 1 + 1))), (oX6 p0 p1 p2 p3 p4 (nI w))] H := hP
  have hD : va_D A [(oX10 x0 y0 ta z0 p0 dr pa to_ s0 im ki tr v0 rf), (aI g rf 3 (upd rc 1 (rc 1 + 1))), (oX6 p0 p1 p2 p3 p4 (nI w))] := hD
  exact he_out hQ hlk hne hP hD hS hce hcv hcl (Nat.le_of_ble_eq_true rfl) (Nat.le_of_ble_eq_true rfl)
set_option maxHeartbeats 4000000 in
set_option maxRecDepth 100000 in
theorem g_X10_corksX (l : Launch) (g : he_G) (x0 : Nat) (y0 : Nat) (z0 : Nat) (dr : Nat) (pa : Nat) (s0 : Nat) (im : Nat) (tr : Nat) (v0 : Nat) (rf : Nat) (ta : Int32) (to_ : Int32) (ki : Int32) (p0 : Nat) (p1 : Nat) (p2 : Nat) (p3 : Nat) (p4 : Nat) (w : Nat) (rc : Nat → Int32) (x : Int32) (y : Int32) (hlt : l.stackTraces = false) (hbad : he_within x 0 119 = 0) (hyes : ¬ he_within y 0 (nI w - 1) = 0) : he_T he_QTi l yX10_corks wsX10_corks 7 103 1 6 g [.ref x0, .int x, .int y] [(oX10 x0 y0 ta z0 p0 dr pa to_ s0 im ki tr v0 rf), (aI g rf 3 rc), (oX6 p0 p1 p2 p3 p4 (nI w))] "java/lang/IllegalArgumentException" [(oX10 x0 y0 ta z0 p0 dr pa to_ s0 im ki tr v0 rf), (aI g rf 3 (upd rc 2 (rc 2 + 1))), (oX6 p0 p1 p2 p3 p4 (nI w))] := by
  refine he_beginX (l := l) (g := g) (y := yX10_corks) (wl := wsX10_corks) (fr := 7) (lo := 103) (mc := 1) (ms := 6) (av := [.ref x0, .int x, .int y]) (ws := [(oX10 x0 y0 ta z0 p0 dr pa to_ s0 im ki tr v0 rf), (aI g rf 3 rc), (oX6 p0 p1 p2 p3 p4 (nI w))]) (cc := cX10_corks) (maxL := 3) (ret := (some .int)) he_QTi (by decide) rfl (Nat.le_of_ble_eq_true rfl) ?_
  intro p e s m args below meth c A ls H locs Q hQ hne hB
  obtain ⟨hx, hb, hr, hml, hown, hts, hlk, hin, hP, hK, hD, hS, hA, hE, hl⟩ := hB
  have hl : lv_has ls 3 [(0, .ref x0), (1, .int x), (2, .int y)] := hl
  refine lv_aload_n hx hb dX10_corks_0 rfl (lv_at hl 0 rfl) ?_
  refine lv_iload_n hx hb dX10_corks_1 rfl (lv_at hl 2 rfl) ?_
  refine he_cv (wc := [(oX10 x0 y0 ta z0 p0 dr pa to_ s0 im ki tr v0 rf), (oX6 p0 p1 p2 p3 p4 (nI w))]) (wr := [(aI g rf 3 rc)]) (va_runV (As := [.int y]) (rest := []) ⟨hx, hb, hml, hown, hts⟩ (g_X10_demandWall1 l g x0 y0 z0 dr pa s0 im tr v0 rf ta to_ ki p0 p1 p2 p3 p4 w y (by first | assumption | decide | omega) H.size) (cwV 1 hts gX10_corks_X10_demandWall rfl rfl rfl (by decide +kernel) ⟨Nat.le_of_ble_eq_true rfl, Nat.le_of_ble_eq_true rfl⟩) (he_preV (wc := [(oX10 x0 y0 ta z0 p0 dr pa to_ s0 im ki tr v0 rf), (oX6 p0 p1 p2 p3 p4 (nI w))]) hK hP hD hS hA hE [0, 2] rfl rfl 0 rfl rfl) rfl rfl hl.1 rfl (lv_room (Nat.le_of_ble_eq_true rfl)) dX10_corks_2 ⟨(Nat.le_of_ble_eq_true rfl), (Nat.le_of_ble_eq_true rfl)⟩) hP hD hS hA [0, 2] [1] rfl rfl rfl (by decide) (fun u_2 H locs h_3 hP hD hS => ?_)
  have hP : va_P g.1 vwCl [(aI g rf 3 rc), (oX10 x0 y0 ta z0 p0 dr pa to_ s0 im ki tr v0 rf), (oX6 p0 p1 p2 p3 p4 (nI w))] H := hP
  have hD : va_D A [(aI g rf 3 rc), (oX10 x0 y0 ta z0 p0 dr pa to_ s0 im ki tr v0 rf), (oX6 p0 p1 p2 p3 p4 (nI w))] := hD
  refine lv_aload_n hx hb dX10_corks_5 rfl (lv_at hl 0 rfl) ?_
  refine lv_iload_n hx hb dX10_corks_6 rfl (lv_at hl 1 rfl) ?_
  refine lv_iconst (v := 0) hx hb dX10_corks_7 (by decide) ?_
  refine lv_bipush (v := 119) hx hb dX10_corks_8 (by decide) ?_
  refine he_ci (wc := []) (wr := [(aI g rf 3 rc), (oX10 x0 y0 ta z0 p0 dr pa to_ s0 im ki tr v0 rf), (oX6 p0 p1 p2 p3 p4 (nI w))]) (va_runS (As := [.int x, .int 0, .int 119]) (rest := [.ref x0]) ⟨hx, hb, hml, hown, hts⟩ (c_X10_within l g x 0 119 H.size) (va_cwS 3 hts gX10_corks_X10_within rfl rfl rfl (by decide +kernel) ⟨Nat.le_of_ble_eq_true rfl, Nat.le_of_ble_eq_true rfl⟩) (he_preS (wc := []) hK hP hD hS hA hE [] rfl rfl) rfl rfl hl.1 rfl (lv_room (Nat.le_of_ble_eq_true rfl)) dX10_corks_10 ⟨(Nat.le_of_ble_eq_true rfl), (Nat.le_of_ble_eq_true rfl)⟩) hP hD hS hA [] [0, 1, 2] rfl rfl rfl (by decide) (fun r_4 u_5 H locs h_6 hP hD hS => ?_)
  subst h_6
  have hP : va_P g.1 vwCl [(aI g rf 3 rc), (oX10 x0 y0 ta z0 p0 dr pa to_ s0 im ki tr v0 rf), (oX6 p0 p1 p2 p3 p4 (nI w))] H := hP
  have hD : va_D A [(aI g rf 3 rc), (oX10 x0 y0 ta z0 p0 dr pa to_ s0 im ki tr v0 rf), (oX6 p0 p1 p2 p3 p4 (nI w))] := hD
  refine he_top (0) hbad ?_
  refine he_xv (En := "java/lang/IllegalArgumentException") (wx := [(oX10 x0 y0 ta z0 p0 dr pa to_ s0 im ki tr v0 rf), (aI g rf 3 (upd rc 2 (rc 2 + 1)))]) (wc := [(oX10 x0 y0 ta z0 p0 dr pa to_ s0 im ki tr v0 rf), (aI g rf 3 rc)]) (wr := [(oX6 p0 p1 p2 p3 p4 (nI w))]) (vx_runV (As := [.int 0]) (rest := []) ⟨hx, hb, hml, hown, hts⟩ (g_X10_demand0 l g x0 y0 z0 p0 dr pa s0 im tr v0 rf ta to_ ki rc hlt H.size) (cwV 1 hts gX10_corks_X10_demand rfl rfl rfl (by decide +kernel) ⟨Nat.le_of_ble_eq_true rfl, Nat.le_of_ble_eq_true rfl⟩) (he_preV (wc := [(oX10 x0 y0 ta z0 p0 dr pa to_ s0 im ki tr v0 rf), (aI g rf 3 rc)]) hK hP hD hS hA hE [1, 0] rfl rfl 1 rfl rfl) rfl rfl hl.1 rfl (lv_room (Nat.le_of_ble_eq_true rfl)) dX10_corks_13 ⟨(Nat.le_of_ble_eq_true rfl), (Nat.le_of_ble_eq_true rfl)⟩) hP hD hS hA [1, 0] [2] rfl rfl rfl (by decide) (fun ce q9 H locs hP hD hS hce hcv hcl => ?_)
  have hP : va_P g.1 vwCl [(oX6 p0 p1 p2 p3 p4 (nI w)), (oX10 x0 y0 ta z0 p0 dr pa to_ s0 im ki tr v0 rf), (aI g rf 3 (upd rc 2 (rc 2 + 1)))] H := hP
  have hD : va_D A [(oX6 p0 p1 p2 p3 p4 (nI w)), (oX10 x0 y0 ta z0 p0 dr pa to_ s0 im ki tr v0 rf), (aI g rf 3 (upd rc 2 (rc 2 + 1)))] := hD
  have hP := hP.sub (ws' := [(oX10 x0 y0 ta z0 p0 dr pa to_ s0 im ki tr v0 rf), (aI g rf 3 (upd rc 2 (rc 2 + 1))), (oX6 p0 p1 p2 p3 p4 (nI w))]) [1, 2, 0] rfl
  have hD := hD.sub (ws' := [(oX10 x0 y0 ta z0 p0 dr pa to_ s0 im ki tr v0 rf), (aI g rf 3 (upd rc 2 (rc 2 + 1))), (oX6 p0 p1 p2 p3 p4 (nI w))]) [1, 2, 0] (by decide) rfl
  exact he_out hQ hlk hne hP hD hS hce hcv hcl (Nat.le_of_ble_eq_true rfl) (Nat.le_of_ble_eq_true rfl)
set_option maxHeartbeats 4000000 in
set_option maxRecDepth 100000 in
theorem g_X10_siegeX (l : Launch) (g : he_G) (x0 : Nat) (y0 : Nat) (z0 : Nat) (p0 : Nat) (dr : Nat) (pa : Nat) (s0 : Nat) (im : Nat) (tr : Nat) (v0 : Nat) (rf : Nat) (ta : Int32) (to_ : Int32) (ki : Int32) (rc : Nat → Int32) (x : Int32) (hlt : l.stackTraces = false) (hbad : x < 0 ∨ ta < x) : he_T he_QTi l yX10_siege wsX10_siege 7 103 1 6 g [.ref x0, .int x] [(oX10 x0 y0 ta z0 p0 dr pa to_ s0 im ki tr v0 rf), (aI g rf 3 rc)] "java/lang/IllegalArgumentException" [(oX10 x0 y0 ta z0 p0 dr pa to_ s0 im ki tr v0 rf), (aI g rf 3 (upd rc 2 (rc 2 + 1)))] := by
  refine he_beginX (l := l) (g := g) (y := yX10_siege) (wl := wsX10_siege) (fr := 7) (lo := 103) (mc := 1) (ms := 6) (av := [.ref x0, .int x]) (ws := [(oX10 x0 y0 ta z0 p0 dr pa to_ s0 im ki tr v0 rf), (aI g rf 3 rc)]) (cc := cX10_siege) (maxL := 4) (ret := (some .int)) he_QTi (by decide) rfl (Nat.le_of_ble_eq_true rfl) ?_
  intro p e s m args below meth c A ls H locs Q hQ hne hB
  obtain ⟨hx, hb, hr, hml, hown, hts, hlk, hin, hP, hK, hD, hS, hA, hE, hl⟩ := hB
  have hl : lv_has ls 4 [(0, .ref x0), (1, .int x)] := hl
  have f73 := hts (.fieldLink RX10 73 "HiredEnemy" "taped" "I") (iwoX10_siege (k := 0) rfl)
  have inX10 : ∀ w ∈ wsX100, w ∈ wsX10_siege := innX10_siege_X10
  refine lv_aload_n hx hb dX10_siege_0 rfl (lv_at hl 0 rfl) ?_
  refine lv_iload_n hx hb dX10_siege_1 rfl (lv_at hl 1 rfl) ?_
  refine lv_if_lt (tgt := 17) hx hb dX10_siege_2 (by decide) (fun c_1 => ?_) (fun c_1 => ?_)
  · refine lv_iconst (v := 0) hx hb dX10_siege_17 (by decide) ?_
    refine he_xv (En := "java/lang/IllegalArgumentException") (wx := [(oX10 x0 y0 ta z0 p0 dr pa to_ s0 im ki tr v0 rf), (aI g rf 3 (upd rc 2 (rc 2 + 1)))]) (wc := [(oX10 x0 y0 ta z0 p0 dr pa to_ s0 im ki tr v0 rf), (aI g rf 3 rc)]) (wr := []) (vx_runV (As := [.int 0]) (rest := []) ⟨hx, hb, hml, hown, hts⟩ (g_X10_demand0 l g x0 y0 z0 p0 dr pa s0 im tr v0 rf ta to_ ki rc hlt H.size) (cwV 1 hts gX10_siege_X10_demand rfl rfl rfl (by decide +kernel) ⟨Nat.le_of_ble_eq_true rfl, Nat.le_of_ble_eq_true rfl⟩) (he_preV (wc := [(oX10 x0 y0 ta z0 p0 dr pa to_ s0 im ki tr v0 rf), (aI g rf 3 rc)]) hK hP hD hS hA hE [0, 1] rfl rfl 0 rfl rfl) rfl rfl hl.1 rfl (lv_room (Nat.le_of_ble_eq_true rfl)) dX10_siege_18 ⟨(Nat.le_of_ble_eq_true rfl), (Nat.le_of_ble_eq_true rfl)⟩) hP hD hS hA [0, 1] [] rfl rfl rfl (by decide) (fun ce q9 H locs hP hD hS hce hcv hcl => ?_)
    have hP : va_P g.1 vwCl [(oX10 x0 y0 ta z0 p0 dr pa to_ s0 im ki tr v0 rf), (aI g rf 3 (upd rc 2 (rc 2 + 1)))] H := hP
    have hD : va_D A [(oX10 x0 y0 ta z0 p0 dr pa to_ s0 im ki tr v0 rf), (aI g rf 3 (upd rc 2 (rc 2 + 1)))] := hD
    exact he_out hQ hlk hne hP hD hS hce hcv hcl (Nat.le_of_ble_eq_true rfl) (Nat.le_of_ble_eq_true rfl)
  · refine lv_iload_n hx hb dX10_siege_5 rfl (lv_at hl 1 rfl) ?_
    refine lv_aload_n hx hb dX10_siege_6 rfl (lv_at hl 0 rfl) ?_
    refine va_get (v := .int ta) (T := TX10) (N := 13) hx hb hts inX10 hown hK hP 0 rfl rfl 1 (by decide) f73 (fun _ h9 => h9) rfl dX10_siege_7 ?_
    refine lv_icmp_gt (tgt := 17) hx hb dX10_siege_10 (by decide) (fun c_2 => ?_) (fun c_2 => ?_)
    · refine lv_iconst (v := 0) hx hb dX10_siege_17 (by decide) ?_
      refine he_xv (En := "java/lang/IllegalArgumentException") (wx := [(oX10 x0 y0 ta z0 p0 dr pa to_ s0 im ki tr v0 rf), (aI g rf 3 (upd rc 2 (rc 2 + 1)))]) (wc := [(oX10 x0 y0 ta z0 p0 dr pa to_ s0 im ki tr v0 rf), (aI g rf 3 rc)]) (wr := []) (vx_runV (As := [.int 0]) (rest := []) ⟨hx, hb, hml, hown, hts⟩ (g_X10_demand0 l g x0 y0 z0 p0 dr pa s0 im tr v0 rf ta to_ ki rc hlt H.size) (cwV 1 hts gX10_siege_X10_demand rfl rfl rfl (by decide +kernel) ⟨Nat.le_of_ble_eq_true rfl, Nat.le_of_ble_eq_true rfl⟩) (he_preV (wc := [(oX10 x0 y0 ta z0 p0 dr pa to_ s0 im ki tr v0 rf), (aI g rf 3 rc)]) hK hP hD hS hA hE [0, 1] rfl rfl 0 rfl rfl) rfl rfl hl.1 rfl (lv_room (Nat.le_of_ble_eq_true rfl)) dX10_siege_18 ⟨(Nat.le_of_ble_eq_true rfl), (Nat.le_of_ble_eq_true rfl)⟩) hP hD hS hA [0, 1] [] rfl rfl rfl (by decide) (fun ce q9 H locs hP hD hS hce hcv hcl => ?_)
      have hP : va_P g.1 vwCl [(oX10 x0 y0 ta z0 p0 dr pa to_ s0 im ki tr v0 rf), (aI g rf 3 (upd rc 2 (rc 2 + 1)))] H := hP
      have hD : va_D A [(oX10 x0 y0 ta z0 p0 dr pa to_ s0 im ki tr v0 rf), (aI g rf 3 (upd rc 2 (rc 2 + 1)))] := hD
      exact he_out hQ hlk hne hP hD hS hce hcv hcl (Nat.le_of_ble_eq_true rfl) (Nat.le_of_ble_eq_true rfl)
    · refine lv_iconst (v := 1) hx hb dX10_siege_13 (by decide) ?_
      refine lv_goto (tgt := 18) hx hb dX10_siege_14 (by decide) ?_
      exact absurd hbad (by rintro (h9 | h9) <;> contradiction)
set_option maxHeartbeats 4000000 in
set_option maxRecDepth 100000 in
theorem g_X10_contractX (l : Launch) (g : he_G) (x0 : Nat) (y0 : Nat) (z0 : Nat) (p0 : Nat) (dr : Nat) (pa : Nat) (s0 : Nat) (im : Nat) (tr : Nat) (v0 : Nat) (rf : Nat) (ta : Int32) (to_ : Int32) (ki : Int32) (rc : Nat → Int32) (x : Int32) (hlt : l.stackTraces = false) (hbad : x < 0 ∨ ta < x ∨ 200 < x) : he_T he_QTi l yX10_contract wsX10_contract 7 103 1 6 g [.ref x0, .int x] [(oX10 x0 y0 ta z0 p0 dr pa to_ s0 im ki tr v0 rf), (aI g rf 3 rc)] "java/lang/IllegalArgumentException" [(oX10 x0 y0 ta z0 p0 dr pa to_ s0 im ki tr v0 rf), (aI g rf 3 (upd rc 2 (rc 2 + 1)))] := by
  refine he_beginX (l := l) (g := g) (y := yX10_contract) (wl := wsX10_contract) (fr := 7) (lo := 103) (mc := 1) (ms := 6) (av := [.ref x0, .int x]) (ws := [(oX10 x0 y0 ta z0 p0 dr pa to_ s0 im ki tr v0 rf), (aI g rf 3 rc)]) (cc := cX10_contract) (maxL := 4) (ret := (some .int)) he_QTi (by decide) rfl (Nat.le_of_ble_eq_true rfl) ?_
  intro p e s m args below meth c A ls H locs Q hQ hne hB
  obtain ⟨hx, hb, hr, hml, hown, hts, hlk, hin, hP, hK, hD, hS, hA, hE, hl⟩ := hB
  have hl : lv_has ls 4 [(0, .ref x0), (1, .int x)] := hl
  have f73 := hts (.fieldLink RX10 73 "HiredEnemy" "taped" "I") (iwoX10_contract (k := 0) rfl)
  have inX10 : ∀ w ∈ wsX100, w ∈ wsX10_contract := innX10_contract_X10
  refine lv_aload_n hx hb dX10_contract_0 rfl (lv_at hl 0 rfl) ?_
  refine lv_iload_n hx hb dX10_contract_1 rfl (lv_at hl 1 rfl) ?_
  refine lv_if_lt (tgt := 24) hx hb dX10_contract_2 (by decide) (fun c_1 => ?_) (fun c_1 => ?_)
  · refine lv_iconst (v := 0) hx hb dX10_contract_24 (by decide) ?_
    refine he_xv (En := "java/lang/IllegalArgumentException") (wx := [(oX10 x0 y0 ta z0 p0 dr pa to_ s0 im ki tr v0 rf), (aI g rf 3 (upd rc 2 (rc 2 + 1)))]) (wc := [(oX10 x0 y0 ta z0 p0 dr pa to_ s0 im ki tr v0 rf), (aI g rf 3 rc)]) (wr := []) (vx_runV (As := [.int 0]) (rest := []) ⟨hx, hb, hml, hown, hts⟩ (g_X10_demand0 l g x0 y0 z0 p0 dr pa s0 im tr v0 rf ta to_ ki rc hlt H.size) (cwV 1 hts gX10_contract_X10_demand rfl rfl rfl (by decide +kernel) ⟨Nat.le_of_ble_eq_true rfl, Nat.le_of_ble_eq_true rfl⟩) (he_preV (wc := [(oX10 x0 y0 ta z0 p0 dr pa to_ s0 im ki tr v0 rf), (aI g rf 3 rc)]) hK hP hD hS hA hE [0, 1] rfl rfl 0 rfl rfl) rfl rfl hl.1 rfl (lv_room (Nat.le_of_ble_eq_true rfl)) dX10_contract_25 ⟨(Nat.le_of_ble_eq_true rfl), (Nat.le_of_ble_eq_true rfl)⟩) hP hD hS hA [0, 1] [] rfl rfl rfl (by decide) (fun ce q9 H locs hP hD hS hce hcv hcl => ?_)
    have hP : va_P g.1 vwCl [(oX10 x0 y0 ta z0 p0 dr pa to_ s0 im ki tr v0 rf), (aI g rf 3 (upd rc 2 (rc 2 + 1)))] H := hP
    have hD : va_D A [(oX10 x0 y0 ta z0 p0 dr pa to_ s0 im ki tr v0 rf), (aI g rf 3 (upd rc 2 (rc 2 + 1)))] := hD
    exact he_out hQ hlk hne hP hD hS hce hcv hcl (Nat.le_of_ble_eq_true rfl) (Nat.le_of_ble_eq_true rfl)
  · refine lv_iload_n hx hb dX10_contract_5 rfl (lv_at hl 1 rfl) ?_
    refine lv_aload_n hx hb dX10_contract_6 rfl (lv_at hl 0 rfl) ?_
    refine va_get (v := .int ta) (T := TX10) (N := 13) hx hb hts inX10 hown hK hP 0 rfl rfl 1 (by decide) f73 (fun _ h9 => h9) rfl dX10_contract_7 ?_
    refine lv_icmp_gt (tgt := 24) hx hb dX10_contract_10 (by decide) (fun c_2 => ?_) (fun c_2 => ?_)
    · refine lv_iconst (v := 0) hx hb dX10_contract_24 (by decide) ?_
      refine he_xv (En := "java/lang/IllegalArgumentException") (wx := [(oX10 x0 y0 ta z0 p0 dr pa to_ s0 im ki tr v0 rf), (aI g rf 3 (upd rc 2 (rc 2 + 1)))]) (wc := [(oX10 x0 y0 ta z0 p0 dr pa to_ s0 im ki tr v0 rf), (aI g rf 3 rc)]) (wr := []) (vx_runV (As := [.int 0]) (rest := []) ⟨hx, hb, hml, hown, hts⟩ (g_X10_demand0 l g x0 y0 z0 p0 dr pa s0 im tr v0 rf ta to_ ki rc hlt H.size) (cwV 1 hts gX10_contract_X10_demand rfl rfl rfl (by decide +kernel) ⟨Nat.le_of_ble_eq_true rfl, Nat.le_of_ble_eq_true rfl⟩) (he_preV (wc := [(oX10 x0 y0 ta z0 p0 dr pa to_ s0 im ki tr v0 rf), (aI g rf 3 rc)]) hK hP hD hS hA hE [0, 1] rfl rfl 0 rfl rfl) rfl rfl hl.1 rfl (lv_room (Nat.le_of_ble_eq_true rfl)) dX10_contract_25 ⟨(Nat.le_of_ble_eq_true rfl), (Nat.le_of_ble_eq_true rfl)⟩) hP hD hS hA [0, 1] [] rfl rfl rfl (by decide) (fun ce q9 H locs hP hD hS hce hcv hcl => ?_)
      have hP : va_P g.1 vwCl [(oX10 x0 y0 ta z0 p0 dr pa to_ s0 im ki tr v0 rf), (aI g rf 3 (upd rc 2 (rc 2 + 1)))] H := hP
      have hD : va_D A [(oX10 x0 y0 ta z0 p0 dr pa to_ s0 im ki tr v0 rf), (aI g rf 3 (upd rc 2 (rc 2 + 1)))] := hD
      exact he_out hQ hlk hne hP hD hS hce hcv hcl (Nat.le_of_ble_eq_true rfl) (Nat.le_of_ble_eq_true rfl)
    · refine lv_iload_n hx hb dX10_contract_13 rfl (lv_at hl 1 rfl) ?_
      refine lv_sipush (v := 200) hx hb dX10_contract_14 (by decide) ?_
      refine lv_icmp_gt (tgt := 24) hx hb dX10_contract_17 (by decide) (fun c_3 => ?_) (fun c_3 => ?_)
      · refine lv_iconst (v := 0) hx hb dX10_contract_24 (by decide) ?_
        refine he_xv (En := "java/lang/IllegalArgumentException") (wx := [(oX10 x0 y0 ta z0 p0 dr pa to_ s0 im ki tr v0 rf), (aI g rf 3 (upd rc 2 (rc 2 + 1)))]) (wc := [(oX10 x0 y0 ta z0 p0 dr pa to_ s0 im ki tr v0 rf), (aI g rf 3 rc)]) (wr := []) (vx_runV (As := [.int 0]) (rest := []) ⟨hx, hb, hml, hown, hts⟩ (g_X10_demand0 l g x0 y0 z0 p0 dr pa s0 im tr v0 rf ta to_ ki rc hlt H.size) (cwV 1 hts gX10_contract_X10_demand rfl rfl rfl (by decide +kernel) ⟨Nat.le_of_ble_eq_true rfl, Nat.le_of_ble_eq_true rfl⟩) (he_preV (wc := [(oX10 x0 y0 ta z0 p0 dr pa to_ s0 im ki tr v0 rf), (aI g rf 3 rc)]) hK hP hD hS hA hE [0, 1] rfl rfl 0 rfl rfl) rfl rfl hl.1 rfl (lv_room (Nat.le_of_ble_eq_true rfl)) dX10_contract_25 ⟨(Nat.le_of_ble_eq_true rfl), (Nat.le_of_ble_eq_true rfl)⟩) hP hD hS hA [0, 1] [] rfl rfl rfl (by decide) (fun ce q9 H locs hP hD hS hce hcv hcl => ?_)
        have hP : va_P g.1 vwCl [(oX10 x0 y0 ta z0 p0 dr pa to_ s0 im ki tr v0 rf), (aI g rf 3 (upd rc 2 (rc 2 + 1)))] H := hP
        have hD : va_D A [(oX10 x0 y0 ta z0 p0 dr pa to_ s0 im ki tr v0 rf), (aI g rf 3 (upd rc 2 (rc 2 + 1)))] := hD
        exact he_out hQ hlk hne hP hD hS hce hcv hcl (Nat.le_of_ble_eq_true rfl) (Nat.le_of_ble_eq_true rfl)
      · refine lv_iconst (v := 1) hx hb dX10_contract_20 (by decide) ?_
        refine lv_goto (tgt := 25) hx hb dX10_contract_21 (by decide) ?_
        exact absurd hbad (by rintro (h9 | h9 | h9) <;> contradiction)
end
