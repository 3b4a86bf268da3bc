section
set_option maxHeartbeats 4000000 in
set_option maxRecDepth 100000 in
theorem s_X10_months (l : Launch) (g : he_G) (x0 : Nat) (y0 : Nat) (z0 : Nat) (dr : Nat) (pa : Nat) (s0 : Nat) (im : Nat) (tr : Nat) (v0 : Nat) (rf : Nat) (ta : Int32) (to_ : Int32) (ki : Int32) (p0 : Nat) (p1 : Nat) (p2 : Nat) (p3 : Nat) (p4 : Nat) (w : Nat) (sd : Nat → Int32) (fn : Nat → Int32) (st : Nat → Int32) (me : Nat → Int32) (a0 : Nat) (b0 : Nat) (e0 : Nat) (h0 : Nat) (q0 : Nat) (q1 : Nat) (k : Nat) (a1 : Nat) (f : Nat → Int32) (sh : Nat → Int32) (ln : Nat → Int32) (n : Nat) (pf : Nat → Option Nat) (t0 : Nat) (t1 : Nat) (t2 : Nat) (pw : Int32) (pd : Nat → Int32) (wb : Nat → Int32) (ck : Nat) (q2 : Nat) (q5 : Nat) (ci : Nat) (nt : Nat) (R : Rw) (hw6 : w ≤ 6) (hok0 : okA w nt k R) (hdat : datC w sd fn st me R) (hN0 : nowC k f (R 5)) (hL0 : lnC ln k R) (hn1 : 1 ≤ n) (hn2 : n ≤ 120) (hk : k ≤ 120) (hck : pd 3 = nI ck) (hc99 : ck ≤ 99) (hq2 : pd 2 = nI q2) (hq9 : q2 ≤ 9) (hq5 : pd 5 = nI q5) (hq36 : q5 ≤ 36) (hc7 : ci < 7) (hcn : ci < nt) (hpf : pf ci = some t0) (hcon : conC pd wb (R (10 + ci)) (R (20 + ci))) (hF0 : R 5 10 = nI ci ∨ R 5 10 = -1) : he_I l yX10_months wsX10_months 5 110 0 0 g [.ref x0, .int (nI n)] [(oX10 x0 y0 ta z0 p0 dr pa to_ s0 im ki tr v0 rf), (oX6 p0 p1 p2 p3 p4 (nI w)), (aI g p1 24 sd), (aI g p2 10 fn), (aI g p3 6 st), (aI g p4 6 me), (aP g pa 7 pf), (oX5 t0 t1 t2 pw), (aI g t1 6 pd), (aI g t2 36 wb), (oX8 s0 h0 a0 b0 e0), (oX4 h0 q0 q1 (nI k)), (aI g q0 24 f), (aI g q1 6 sh), (oX0 a0 a1), (aI g a1 3600 ln)] (fun (r : Int32) (u : Nat × (Nat → Int32) × (Nat → Int32) × (Nat → Int32)) => r = nI (u.1 - k) ∧ u.1 = k + min n (120 - k) ∧ nowC u.1 u.2.1 (aMs R w k (min n (120 - k)) 5) ∧ lnC u.2.2.2 u.1 (aMs R w k (min n (120 - k)))) (fun (u : Nat × (Nat → Int32) × (Nat → Int32) × (Nat → Int32)) => [(oX10 x0 y0 ta z0 p0 dr pa to_ s0 im ki tr v0 rf), (oX6 p0 p1 p2 p3 p4 (nI w)), (aI g p1 24 sd), (aI g p2 10 fn), (aI g p3 6 st), (aI g p4 6 me), (aP g pa 7 pf), (oX5 t0 t1 t2 pw), (aI g t1 6 pd), (aI g t2 36 wb), (oX8 s0 h0 a0 b0 e0), (oX4 h0 q0 q1 (nI u.1)), (aI g q0 24 u.2.1), (aI g q1 6 u.2.2.1), (oX0 a0 a1), (aI g a1 3600 u.2.2.2)]) := by
  refine he_begin (l := l) (g := g) (y := yX10_months) (wl := wsX10_months) (fr := 5) (lo := 110) (mc := 0) (ms := 0) (av := [.ref x0, .int (nI n)]) (ws := [(oX10 x0 y0 ta z0 p0 dr pa to_ s0 im ki tr v0 rf), (oX6 p0 p1 p2 p3 p4 (nI w)), (aI g p1 24 sd), (aI g p2 10 fn), (aI g p3 6 st), (aI g p4 6 me), (aP g pa 7 pf), (oX5 t0 t1 t2 pw), (aI g t1 6 pd), (aI g t2 36 wb), (oX8 s0 h0 a0 b0 e0), (oX4 h0 q0 q1 (nI k)), (aI g q0 24 f), (aI g q1 6 sh), (oX0 a0 a1), (aI g a1 3600 ln)]) (cc := cX10_months) (maxL := 3) (ret := (some .int)) (fun A => va_Qi (fun (r : Int32) (u : Nat × (Nat → Int32) × (Nat → Int32) × (Nat → Int32)) => r = nI (u.1 - k) ∧ u.1 = k + min n (120 - k) ∧ nowC u.1 u.2.1 (aMs R w k (min n (120 - k)) 5) ∧ lnC u.2.2.2 u.1 (aMs R w k (min n (120 - k)))) (fun u t => he_post g A ((fun (u : Nat × (Nat → Int32) × (Nat → Int32) × (Nat → Int32)) => [(oX10 x0 y0 ta z0 p0 dr pa to_ s0 im ki tr v0 rf), (oX6 p0 p1 p2 p3 p4 (nI w)), (aI g p1 24 sd), (aI g p2 10 fn), (aI g p3 6 st), (aI g p4 6 me), (aP g pa 7 pf), (oX5 t0 t1 t2 pw), (aI g t1 6 pd), (aI g t2 36 wb), (oX8 s0 h0 a0 b0 e0), (oX4 h0 q0 q1 (nI u.1)), (aI g q0 24 u.2.1), (aI g q1 6 u.2.2.1), (oX0 a0 a1), (aI g a1 3600 u.2.2.2)]) u) t) A) (by decide) rfl (Nat.le_of_ble_eq_true rfl) ?_
  intro p e s m args below meth c A ls H locs Q hQ hB
  obtain ⟨hx, hb, hr, hml, hown, hts, hlk, hin, hP, hK, hD, hS, hA, hE, hl⟩ := hB
  have hl : lv_has ls 3 [(0, .ref x0), (1, .int (nI n))] := hl
  have f39 := hts (.fieldLink RX10 39 "HiredEnemy" "scene" "LHiredEnemy$Scene;") (iwoX10_months (k := 0) rfl)
  have inX10 : ∀ w ∈ wsX100, w ∈ wsX10_months := innX10_months_X10
  have f66 := hts (.fieldLink RX10 66 "HiredEnemy$Scene" "course" "LHiredEnemy$Course;") (iwoX10_months (k := 1) rfl)
  have inX8 : ∀ w ∈ wsX80, w ∈ wsX10_months := innX10_months_X8
  have f114 := hts (.fieldLink RX10 114 "HiredEnemy$Course" "month" "I") (iwoX10_months (k := 2) rfl)
  have inX4 : ∀ w ∈ wsX40, w ∈ wsX10_months := innX10_months_X4
  have f143 := hts (.fieldLink RX10 143 "HiredEnemy$Scene" "annals" "LHiredEnemy$Annals;") (iwoX10_months (k := 3) rfl)
  have f23 := hts (.fieldLink RX10 23 "HiredEnemy" "plan" "LHiredEnemy$Plan;") (iwoX10_months (k := 4) rfl)
  refine lv_aload_n hx hb dX10_months_0 rfl (lv_at hl 0 rfl) ?_
  refine lv_iload_n hx hb dX10_months_1 rfl (lv_at hl 1 rfl) ?_
  refine lv_iconst (v := 1) hx hb dX10_months_2 (by decide) ?_
  refine lv_bipush (v := 120) hx hb dX10_months_3 (by decide) ?_
  refine he_ci (wc := []) (wr := [(oX10 x0 y0 ta z0 p0 dr pa to_ s0 im ki tr v0 rf), (oX6 p0 p1 p2 p3 p4 (nI w)), (aI g p1 24 sd), (aI g p2 10 fn), (aI g p3 6 st), (aI g p4 6 me), (aP g pa 7 pf), (oX5 t0 t1 t2 pw), (aI g t1 6 pd), (aI g t2 36 wb), (oX8 s0 h0 a0 b0 e0), (oX4 h0 q0 q1 (nI k)), (aI g q0 24 f), (aI g q1 6 sh), (oX0 a0 a1), (aI g a1 3600 ln)]) (va_runS (As := [.int (nI n), .int 1, .int 120]) (rest := [.ref x0]) ⟨hx, hb, hml, hown, hts⟩ (c_X10_within l g (nI n) 1 120 H.size) (va_cwS 3 hts gX10_months_X10_within rfl rfl rfl (by decide +kernel) ⟨Nat.le_of_ble_eq_true rfl, Nat.le_of_ble_eq_true rfl⟩) (he_preS (wc := []) hK hP hD hS hA hE [] rfl rfl) rfl rfl hl.1 rfl (lv_room (Nat.le_of_ble_eq_true rfl)) dX10_months_5 ⟨(Nat.le_of_ble_eq_true rfl), (Nat.le_of_ble_eq_true rfl)⟩) hP hD hS hA [] [0, 1, 2, 3, 4, 5, 6, 7, 8, 9, 10, 11, 12, 13, 14, 15] rfl rfl rfl (by decide) (fun r_1 u_2 H locs h_3 hP hD hS => ?_)
  subst h_3
  have hP : va_P g.1 vwCl [(oX10 x0 y0 ta z0 p0 dr pa to_ s0 im ki tr v0 rf), (oX6 p0 p1 p2 p3 p4 (nI w)), (aI g p1 24 sd), (aI g p2 10 fn), (aI g p3 6 st), (aI g p4 6 me), (aP g pa 7 pf), (oX5 t0 t1 t2 pw), (aI g t1 6 pd), (aI g t2 36 wb), (oX8 s0 h0 a0 b0 e0), (oX4 h0 q0 q1 (nI k)), (aI g q0 24 f), (aI g q1 6 sh), (oX0 a0 a1), (aI g a1 3600 ln)] H := hP
  have hD : va_D A [(oX10 x0 y0 ta z0 p0 dr pa to_ s0 im ki tr v0 rf), (oX6 p0 p1 p2 p3 p4 (nI w)), (aI g p1 24 sd), (aI g p2 10 fn), (aI g p3 6 st), (aI g p4 6 me), (aP g pa 7 pf), (oX5 t0 t1 t2 pw), (aI g t1 6 pd), (aI g t2 36 wb), (oX8 s0 h0 a0 b0 e0), (oX4 h0 q0 q1 (nI k)), (aI g q0 24 f), (aI g q1 6 sh), (oX0 a0 a1), (aI g a1 3600 ln)] := hD
  refine he_top (1) (he_within_in (a0 := 1) (B := 120) rfl rfl (by omega) (by omega) (by decide)) ?_
  refine he_cv (wc := []) (wr := [(oX10 x0 y0 ta z0 p0 dr pa to_ s0 im ki tr v0 rf), (oX6 p0 p1 p2 p3 p4 (nI w)), (aI g p1 24 sd), (aI g p2 10 fn), (aI g p3 6 st), (aI g p4 6 me), (aP g pa 7 pf), (oX5 t0 t1 t2 pw), (aI g t1 6 pd), (aI g t2 36 wb), (oX8 s0 h0 a0 b0 e0), (oX4 h0 q0 q1 (nI k)), (aI g q0 24 f), (aI g q1 6 sh), (oX0 a0 a1), (aI g a1 3600 ln)]) (va_runV (As := [.int 1]) (rest := []) ⟨hx, hb, hml, hown, hts⟩ (c_X10_demand1 l g x0 H.size) (cwV 1 hts gX10_months_X10_demand rfl rfl rfl (by decide +kernel) ⟨Nat.le_of_ble_eq_true rfl, Nat.le_of_ble_eq_true rfl⟩) (he_preV (wc := []) hK hP hD hS hA hE [] rfl rfl 0 rfl rfl) rfl rfl hl.1 rfl (lv_room (Nat.le_of_ble_eq_true rfl)) dX10_months_8 ⟨(Nat.le_of_ble_eq_true rfl), (Nat.le_of_ble_eq_true rfl)⟩) hP hD hS hA [] [0, 1, 2, 3, 4, 5, 6, 7, 8, 9, 10, 11, 12, 13, 14, 15] rfl rfl rfl (by decide) (fun u_5 H locs h_6 hP hD hS => ?_)
  have hP : va_P g.1 vwCl [(oX10 x0 y0 ta z0 p0 dr pa to_ s0 im ki tr v0 rf), (oX6 p0 p1 p2 p3 p4 (nI w)), (aI g p1 24 sd), (aI g p2 10 fn), (aI g p3 6 st), (aI g p4 6 me), (aP g pa 7 pf), (oX5 t0 t1 t2 pw), (aI g t1 6 pd), (aI g t2 36 wb), (oX8 s0 h0 a0 b0 e0), (oX4 h0 q0 q1 (nI k)), (aI g q0 24 f), (aI g q1 6 sh), (oX0 a0 a1), (aI g a1 3600 ln)] H := hP
  have hD : va_D A [(oX10 x0 y0 ta z0 p0 dr pa to_ s0 im ki tr v0 rf), (oX6 p0 p1 p2 p3 p4 (nI w)), (aI g p1 24 sd), (aI g p2 10 fn), (aI g p3 6 st), (aI g p4 6 me), (aP g pa 7 pf), (oX5 t0 t1 t2 pw), (aI g t1 6 pd), (aI g t2 36 wb), (oX8 s0 h0 a0 b0 e0), (oX4 h0 q0 q1 (nI k)), (aI g q0 24 f), (aI g q1 6 sh), (oX0 a0 a1), (aI g a1 3600 ln)] := hD
  refine lv_iconst (v := 0) hx hb dX10_months_11 (by decide) ?_
  refine lv_istore_n (lv' := [(2, .int 0), (0, .ref x0), (1, .int (nI n))]) hx hb dX10_months_12 rfl hl (by decide) rfl (fun ls hl => ?_)
  have loop13 : ∀ (n9 : Nat) (j : Nat) (k9 : Nat) (F : Nat → Int32) (G : Nat → Int32) (l9 : Nat → Int32), n - j < n9 → (j ≤ n) → (k9 ≤ 120) → (k9 = k + j) → (okA w nt k9 (aMs R w k j)) → (nowC k9 F ((aMs R w k j) 5)) → ((aMs R w k j) 5 10 = nI ci ∨ (aMs R w k j) 5 10 = -1) → (lnC l9 k9 (aMs R w k j)) → ∀ (H : Heap) (locs : List Loc) (ls : Array Slot), va_P g.1 vwCl [(oX10 x0 y0 ta z0 p0 dr pa to_ s0 im ki tr v0 rf), (oX6 p0 p1 p2 p3 p4 (nI w)), (aI g p1 24 sd), (aI g p2 10 fn), (aI g p3 6 st), (aI g p4 6 me), (aP g pa 7 pf), (oX5 t0 t1 t2 pw), (aI g t1 6 pd), (aI g t2 36 wb), (oX8 s0 h0 a0 b0 e0), (oX4 h0 q0 q1 (nI k9)), (aI g q0 24 F), (aI g q1 6 G), (oX0 a0 a1), (aI g a1 3600 l9)] H → va_D A [(oX10 x0 y0 ta z0 p0 dr pa to_ s0 im ki tr v0 rf), (oX6 p0 p1 p2 p3 p4 (nI w)), (aI g p1 24 sd), (aI g p2 10 fn), (aI g p3 6 st), (aI g p4 6 me), (aP g pa 7 pf), (oX5 t0 t1 t2 pw), (aI g t1 6 pd), (aI g t2 36 wb), (oX8 s0 h0 a0 b0 e0), (oX4 h0 q0 q1 (nI k9)), (aI g q0 24 F), (aI g q1 6 G), (oX0 a0 a1), (aI g a1 3600 l9)] → va_S A s.heap H locs → lv_has ls 3 [(0, .ref x0), (1, .int (nI n)), (2, .int (nI j))] → W p l e (he_room 5 110 0 0) s m args below meth c H locs 0 0 Q (F0 m 13 ls []) := by
    intro n9
    induction n9 with
    | zero => intro j k9 F G l9 hm9; exact absurd hm9 (Nat.not_lt_zero _)
    | succ n9 ih13 =>
      intro j k9 F G l9 hm9 hj hk9 hkj hok hN hF hL H locs ls hP hD hS hl
      refine lv_iload_n hx hb dX10_months_13 rfl (lv_at hl 2 rfl) ?_
      refine lv_iload_n hx hb dX10_months_14 rfl (lv_at hl 1 rfl) ?_
      refine lv_icmp_ge (tgt := 98) hx hb dX10_months_15 (by decide) (fun c_7 => ?_) (fun c_7 => ?_)
      · have k_8 : n ≤ j := (he_cle (a := n) (b := j) rfl rfl (by omega) (by omega)).mp c_7
        refine lv_iload_n hx hb dX10_months_98 rfl (lv_at hl 2 rfl) ?_
        exact he_ri hQ hx hb hr hlk hP hD hS dX10_months_99 (Nat.le_of_ble_eq_true rfl) (Nat.le_of_ble_eq_true rfl) ((k9, F, G, l9)) (rfl) (⟨by congr 1; omega, by (try dsimp only); omega, by dsimp only; rw [show min n (120 - k) = j by (try dsimp only); omega]; exact hN, by dsimp only; rw [show min n (120 - k) = j by (try dsimp only); omega]; exact hL⟩)
      · have k_9 : ¬ (n ≤ j) := fun h9 => c_7 ((he_cle (a := n) (b := j) rfl rfl (by omega) (by omega)).mpr h9)
        refine lv_aload_n hx hb dX10_months_18 rfl (lv_at hl 0 rfl) ?_
        refine va_get (v := .ref s0) (T := TX10) (N := 13) hx hb hts inX10 hown hK hP 0 rfl rfl 7 (by decide) f39 (fun _ h9 => h9) rfl dX10_months_19 ?_
        refine va_get (v := .ref h0) (T := TX8) (N := 4) hx hb hts inX8 hown hK hP 10 rfl rfl 0 (by decide) f66 (fun _ h9 => h9) rfl dX10_months_22 ?_
        refine va_get (v := .int (nI k9)) (T := TX4) (N := 3) hx hb hts inX4 hown hK hP 11 rfl rfl 2 (by decide) f114 (fun _ h9 => h9) rfl dX10_months_25 ?_
        refine lv_bipush (v := 120) hx hb dX10_months_28 (by decide) ?_
        refine lv_icmp_ge (tgt := 98) hx hb dX10_months_30 (by decide) (fun c_10 => ?_) (fun c_10 => ?_)
        · have k_11 : 120 ≤ k9 := (he_cle (a := 120) (b := k9) (by decide) rfl (by omega) (by omega)).mp c_10
          refine lv_iload_n hx hb dX10_months_98 rfl (lv_at hl 2 rfl) ?_
          exact he_ri hQ hx hb hr hlk hP hD hS dX10_months_99 (Nat.le_of_ble_eq_true rfl) (Nat.le_of_ble_eq_true rfl) ((k9, F, G, l9)) (rfl) (⟨by congr 1; omega, by (try dsimp only); omega, by dsimp only; rw [show min n (120 - k) = j by (try dsimp only); omega]; exact hN, by dsimp only; rw [show min n (120 - k) = j by (try dsimp only); omega]; exact hL⟩)
        · have k_12 : ¬ (120 ≤ k9) := fun h9 => c_10 ((he_cle (a := 120) (b := k9) (by decide) rfl (by omega) (by omega)).mpr h9)
          refine lv_aload_n hx hb dX10_months_33 rfl (lv_at hl 0 rfl) ?_
          refine va_get (v := .ref s0) (T := TX10) (N := 13) hx hb hts inX10 hown hK hP 0 rfl rfl 7 (by decide) f39 (fun _ h9 => h9) rfl dX10_months_34 ?_
          refine va_get (v := .ref a0) (T := TX8) (N := 4) hx hb hts inX8 hown hK hP 10 rfl rfl 1 (by decide) f143 (fun _ h9 => h9) rfl dX10_months_37 ?_
          refine lv_aload_n hx hb dX10_months_40 rfl (lv_at hl 0 rfl) ?_
          refine va_get (v := .ref s0) (T := TX10) (N := 13) hx hb hts inX10 hown hK hP 0 rfl rfl 7 (by decide) f39 (fun _ h9 => h9) rfl dX10_months_41 ?_
          refine va_get (v := .ref h0) (T := TX8) (N := 4) hx hb hts inX8 hown hK hP 10 rfl rfl 0 (by decide) f66 (fun _ h9 => h9) rfl dX10_months_44 ?_
          refine he_cv (wc := [(oX0 a0 a1), (aI g a1 3600 l9), (oX4 h0 q0 q1 (nI k9)), (aI g q0 24 F)]) (wr := [(oX10 x0 y0 ta z0 p0 dr pa to_ s0 im ki tr v0 rf), (oX6 p0 p1 p2 p3 p4 (nI w)), (aI g p1 24 sd), (aI g p2 10 fn), (aI g p3 6 st), (aI g p4 6 me), (aP g pa 7 pf), (oX5 t0 t1 t2 pw), (aI g t1 6 pd), (aI g t2 36 wb), (oX8 s0 h0 a0 b0 e0), (aI g q1 6 G)]) (va_runV (As := [.ref h0]) (rest := []) ⟨hx, hb, hml, hown, hts⟩ (c_X0_keep l g a0 a1 l9 h0 q0 q1 k9 F (by first | assumption | decide | omega) H.size) (cwV 1 hts gX10_months_X0_keep rfl rfl rfl (by decide +kernel) ⟨Nat.le_of_ble_eq_true rfl, Nat.le_of_ble_eq_true rfl⟩) (he_preV (wc := [(oX0 a0 a1), (aI g a1 3600 l9), (oX4 h0 q0 q1 (nI k9)), (aI g q0 24 F)]) hK hP hD hS hA hE [14, 15, 11, 12] rfl rfl 14 rfl rfl) rfl rfl hl.1 rfl (lv_room (Nat.le_of_ble_eq_true rfl)) dX10_months_47 ⟨(Nat.le_of_ble_eq_true rfl), (Nat.le_of_ble_eq_true rfl)⟩) hP hD hS hA [14, 15, 11, 12] [0, 1, 2, 3, 4, 5, 6, 7, 8, 9, 10, 13] rfl rfl rfl (by decide) (fun u_14 H locs h_15 hP hD hS => ?_)
          have hP : va_P g.1 vwCl [(oX10 x0 y0 ta z0 p0 dr pa to_ s0 im ki tr v0 rf), (oX6 p0 p1 p2 p3 p4 (nI w)), (aI g p1 24 sd), (aI g p2 10 fn), (aI g p3 6 st), (aI g p4 6 me), (aP g pa 7 pf), (oX5 t0 t1 t2 pw), (aI g t1 6 pd), (aI g t2 36 wb), (oX8 s0 h0 a0 b0 e0), (aI g q1 6 G), (oX0 a0 a1), (aI g a1 3600 (va_cpy F l9 0 (k9 * 30) 24)), (oX4 h0 q0 q1 (nI k9)), (aI g q0 24 F)] H := hP
          have hD : va_D A [(oX10 x0 y0 ta z0 p0 dr pa to_ s0 im ki tr v0 rf), (oX6 p0 p1 p2 p3 p4 (nI w)), (aI g p1 24 sd), (aI g p2 10 fn), (aI g p3 6 st), (aI g p4 6 me), (aP g pa 7 pf), (oX5 t0 t1 t2 pw), (aI g t1 6 pd), (aI g t2 36 wb), (oX8 s0 h0 a0 b0 e0), (aI g q1 6 G), (oX0 a0 a1), (aI g a1 3600 (va_cpy F l9 0 (k9 * 30) 24)), (oX4 h0 q0 q1 (nI k9)), (aI g q0 24 F)] := hD
          rcases hF with hin | hno
          · have hf10 : F 10 = nI ci := (hN.1 10 ⟨by decide, by decide⟩).trans hin
            obtain ⟨-, it, sg, hi11, hf11, hsg⟩ := hN.2.resolve_left (fun h9 => nI_nm1 (by omega) (hin.symm.trans h9.1))
            have hlt : it < q5 := now_lt hok hin hi11 hcn (by rw [aMs_n (by omega) (by omega), ← hcon.2.2.2.2.2.1]; exact hq5) hq36 (by omega)
            refine lv_aload_n hx hb dX10_months_50 rfl (lv_at hl 0 rfl) ?_
            refine va_get (v := .ref s0) (T := TX10) (N := 13) hx hb hts inX10 hown hK hP 0 rfl rfl 7 (by decide) f39 (fun _ h9 => h9) rfl dX10_months_51 ?_
            refine va_get (v := .ref h0) (T := TX8) (N := 4) hx hb hts inX8 hown hK hP 10 rfl rfl 0 (by decide) f66 (fun _ h9 => h9) rfl dX10_months_54 ?_
            refine lv_aload_n hx hb dX10_months_57 rfl (lv_at hl 0 rfl) ?_
            refine va_get (v := .ref p0) (T := TX10) (N := 13) hx hb hts inX10 hown hK hP 0 rfl rfl 3 (by decide) f23 (fun _ h9 => h9) rfl dX10_months_58 ?_
            refine lv_aload_n hx hb dX10_months_61 rfl (lv_at hl 0 rfl) ?_
            refine lv_aload_n hx hb dX10_months_62 rfl (lv_at hl 0 rfl) ?_
            refine va_get (v := .ref s0) (T := TX10) (N := 13) hx hb hts inX10 hown hK hP 0 rfl rfl 7 (by decide) f39 (fun _ h9 => h9) rfl dX10_months_63 ?_
            refine va_get (v := .ref h0) (T := TX8) (N := 4) hx hb hts inX8 hown hK hP 10 rfl rfl 0 (by decide) f66 (fun _ h9 => h9) rfl dX10_months_66 ?_
            refine he_cq (wc := [(oX10 x0 y0 ta z0 p0 dr pa to_ s0 im ki tr v0 rf), (oX4 h0 q0 q1 (nI k9)), (aI g q0 24 F), (aP g pa 7 pf)]) (wr := [(oX6 p0 p1 p2 p3 p4 (nI w)), (aI g p1 24 sd), (aI g p2 10 fn), (aI g p3 6 st), (aI g p4 6 me), (oX5 t0 t1 t2 pw), (aI g t1 6 pd), (aI g t2 36 wb), (oX8 s0 h0 a0 b0 e0), (aI g q1 6 G), (oX0 a0 a1), (aI g a1 3600 (va_cpy F l9 0 (k9 * 30) 24))]) (va_runV (As := [.ref h0]) (rest := [.ref p0, .ref h0]) ⟨hx, hb, hml, hown, hts⟩ (g_X10_inForceP l g x0 y0 z0 p0 dr pa s0 im tr v0 rf ta to_ ki h0 q0 q1 (nI k9) F pf t0 ci (by first | assumption | decide | omega) hf10 (by first | assumption | decide | omega) H.size) (cwV 1 hts gX10_months_X10_inForce rfl rfl rfl (by decide +kernel) ⟨Nat.le_of_ble_eq_true rfl, Nat.le_of_ble_eq_true rfl⟩) (he_preV (wc := [(oX10 x0 y0 ta z0 p0 dr pa to_ s0 im ki tr v0 rf), (oX4 h0 q0 q1 (nI k9)), (aI g q0 24 F), (aP g pa 7 pf)]) hK hP hD hS hA hE [0, 14, 15, 6] rfl rfl 0 rfl rfl) rfl rfl hl.1 rfl (lv_room (Nat.le_of_ble_eq_true rfl)) dX10_months_69 ⟨(Nat.le_of_ble_eq_true rfl), (Nat.le_of_ble_eq_true rfl)⟩) hP hD hS hA [0, 14, 15, 6] [1, 2, 3, 4, 5, 7, 8, 9, 10, 11, 12, 13] rfl rfl rfl (by decide) (fun r_16 u_17 H locs h_18 hP hD hS => ?_)
            subst h_18
            have hP : va_P g.1 vwCl [(oX6 p0 p1 p2 p3 p4 (nI w)), (aI g p1 24 sd), (aI g p2 10 fn), (aI g p3 6 st), (aI g p4 6 me), (oX5 t0 t1 t2 pw), (aI g t1 6 pd), (aI g t2 36 wb), (oX8 s0 h0 a0 b0 e0), (aI g q1 6 G), (oX0 a0 a1), (aI g a1 3600 (va_cpy F l9 0 (k9 * 30) 24)), (oX10 x0 y0 ta z0 p0 dr pa to_ s0 im ki tr v0 rf), (oX4 h0 q0 q1 (nI k9)), (aI g q0 24 F), (aP g pa 7 pf)] H := hP
            have hD : va_D A [(oX6 p0 p1 p2 p3 p4 (nI w)), (aI g p1 24 sd), (aI g p2 10 fn), (aI g p3 6 st), (aI g p4 6 me), (oX5 t0 t1 t2 pw), (aI g t1 6 pd), (aI g t2 36 wb), (oX8 s0 h0 a0 b0 e0), (aI g q1 6 G), (oX0 a0 a1), (aI g a1 3600 (va_cpy F l9 0 (k9 * 30) 24)), (oX10 x0 y0 ta z0 p0 dr pa to_ s0 im ki tr v0 rf), (oX4 h0 q0 q1 (nI k9)), (aI g q0 24 F), (aP g pa 7 pf)] := hD
            refine he_cv (wc := [(oX4 h0 q0 q1 (nI k9)), (aI g q0 24 F), (aI g q1 6 G), (oX6 p0 p1 p2 p3 p4 (nI w)), (aI g p1 24 sd), (aI g p2 10 fn), (aI g p3 6 st), (aI g p4 6 me), (oX5 t0 t1 t2 pw), (aI g t1 6 pd), (aI g t2 36 wb)]) (wr := [(oX8 s0 h0 a0 b0 e0), (oX0 a0 a1), (aI g a1 3600 (va_cpy F l9 0 (k9 * 30) 24)), (oX10 x0 y0 ta z0 p0 dr pa to_ s0 im ki tr v0 rf), (aP g pa 7 pf)]) (va_runV (As := [.ref p0, .ref t0]) (rest := []) ⟨hx, hb, hml, hown, hts⟩ (s_X4_passP l g h0 q0 q1 k9 F G p0 p1 p2 p3 p4 w sd fn st me t0 t1 t2 pw pd wb ck q2 sg q5 (by first | assumption | decide | omega) (by first | assumption | decide | omega) (by first | assumption | decide | omega) (by first | assumption | decide | omega) (by first | assumption | decide | omega) (by first | assumption | decide | omega) (by first | assumption | decide | omega) hf11 (by omega) (by omega) (con_bw (hok0.2.2.2.2.2.2.2.1 ci hcn) hcon (by omega)) (bdT_cg hdat.1 hok0.2.2.2.1) (bdC_cg hcon (hok0.2.2.2.2.2.2.2.1 ci hcn).2.2.2.1) (bdF_cg hw6 hN.1 (fun q hq => (hdat.2 q hq).1.trans (by rw [aMs_n (by decide) (by decide)])) hok.2.2.2.2.2.1) (by omega) H.size) (cwV 2 hts gX10_months_X4_pass rfl rfl rfl (by decide +kernel) ⟨Nat.le_of_ble_eq_true rfl, Nat.le_of_ble_eq_true rfl⟩) (he_preV (wc := [(oX4 h0 q0 q1 (nI k9)), (aI g q0 24 F), (aI g q1 6 G), (oX6 p0 p1 p2 p3 p4 (nI w)), (aI g p1 24 sd), (aI g p2 10 fn), (aI g p3 6 st), (aI g p4 6 me), (oX5 t0 t1 t2 pw), (aI g t1 6 pd), (aI g t2 36 wb)]) hK hP hD hS hA hE [13, 14, 9, 0, 1, 2, 3, 4, 5, 6, 7] rfl rfl 13 rfl rfl) rfl rfl hl.1 rfl (lv_room (Nat.le_of_ble_eq_true rfl)) dX10_months_72 ⟨(Nat.le_of_ble_eq_true rfl), (Nat.le_of_ble_eq_true rfl)⟩) hP hD hS hA [13, 14, 9, 0, 1, 2, 3, 4, 5, 6, 7] [8, 10, 11, 12, 15] rfl rfl rfl (by decide) (fun u_20 H locs h_21 hP hD hS => ?_)
            obtain ⟨uf_22, us_23⟩ := u_20
            try dsimp only at h_21
            obtain ⟨hf_24, hf_25, hf_26⟩ := h_21
            have hP : va_P g.1 vwCl [(oX8 s0 h0 a0 b0 e0), (oX0 a0 a1), (aI g a1 3600 (va_cpy F l9 0 (k9 * 30) 24)), (oX10 x0 y0 ta z0 p0 dr pa to_ s0 im ki tr v0 rf), (aP g pa 7 pf), (oX4 h0 q0 q1 (nI (k9 + 1))), (aI g q0 24 uf_22), (aI g q1 6 us_23), (oX6 p0 p1 p2 p3 p4 (nI w)), (aI g p1 24 sd), (aI g p2 10 fn), (aI g p3 6 st), (aI g p4 6 me), (oX5 t0 t1 t2 pw), (aI g t1 6 pd), (aI g t2 36 wb)] H := hP
            have hD : va_D A [(oX8 s0 h0 a0 b0 e0), (oX0 a0 a1), (aI g a1 3600 (va_cpy F l9 0 (k9 * 30) 24)), (oX10 x0 y0 ta z0 p0 dr pa to_ s0 im ki tr v0 rf), (aP g pa 7 pf), (oX4 h0 q0 q1 (nI (k9 + 1))), (aI g q0 24 uf_22), (aI g q1 6 us_23), (oX6 p0 p1 p2 p3 p4 (nI w)), (aI g p1 24 sd), (aI g p2 10 fn), (aI g p3 6 st), (aI g p4 6 me), (oX5 t0 t1 t2 pw), (aI g t1 6 pd), (aI g t2 36 wb)] := hD
            have e9 : nI k9 + 1 = nI (k9 + 1) := nI_1 k9
            try rw [e9] at hP hD
            have hP : va_P g.1 vwCl [(oX8 s0 h0 a0 b0 e0), (oX0 a0 a1), (aI g a1 3600 (va_cpy F l9 0 (k9 * 30) 24)), (oX10 x0 y0 ta z0 p0 dr pa to_ s0 im ki tr v0 rf), (aP g pa 7 pf), (oX4 h0 q0 q1 (nI (k9 + 1))), (aI g q0 24 uf_22), (aI g q1 6 us_23), (oX6 p0 p1 p2 p3 p4 (nI w)), (aI g p1 24 sd), (aI g p2 10 fn), (aI g p3 6 st), (aI g p4 6 me), (oX5 t0 t1 t2 pw), (aI g t1 6 pd), (aI g t2 36 wb)] H := hP
            have hD : va_D A [(oX8 s0 h0 a0 b0 e0), (oX0 a0 a1), (aI g a1 3600 (va_cpy F l9 0 (k9 * 30) 24)), (oX10 x0 y0 ta z0 p0 dr pa to_ s0 im ki tr v0 rf), (aP g pa 7 pf), (oX4 h0 q0 q1 (nI (k9 + 1))), (aI g q0 24 uf_22), (aI g q1 6 us_23), (oX6 p0 p1 p2 p3 p4 (nI w)), (aI g p1 24 sd), (aI g p2 10 fn), (aI g p3 6 st), (aI g p4 6 me), (oX5 t0 t1 t2 pw), (aI g t1 6 pd), (aI g t2 36 wb)] := hD
            refine lv_aload_n hx hb dX10_months_75 rfl (lv_at hl 0 rfl) ?_
            refine va_get (v := .ref s0) (T := TX10) (N := 13) hx hb hts inX10 hown hK hP 3 rfl rfl 7 (by decide) f39 (fun _ h9 => h9) rfl dX10_months_76 ?_
            refine va_get (v := .ref a0) (T := TX8) (N := 4) hx hb hts inX8 hown hK hP 0 rfl rfl 1 (by decide) f143 (fun _ h9 => h9) rfl dX10_months_79 ?_
            refine lv_aload_n hx hb dX10_months_82 rfl (lv_at hl 0 rfl) ?_
            refine va_get (v := .ref s0) (T := TX10) (N := 13) hx hb hts inX10 hown hK hP 3 rfl rfl 7 (by decide) f39 (fun _ h9 => h9) rfl dX10_months_83 ?_
            refine va_get (v := .ref h0) (T := TX8) (N := 4) hx hb hts inX8 hown hK hP 0 rfl rfl 0 (by decide) f66 (fun _ h9 => h9) rfl dX10_months_86 ?_
            refine he_cv (wc := [(oX0 a0 a1), (aI g a1 3600 (va_cpy F l9 0 (k9 * 30) 24)), (oX4 h0 q0 q1 (nI (k9 + 1))), (aI g q1 6 us_23)]) (wr := [(oX8 s0 h0 a0 b0 e0), (oX10 x0 y0 ta z0 p0 dr pa to_ s0 im ki tr v0 rf), (aP g pa 7 pf), (aI g q0 24 uf_22), (oX6 p0 p1 p2 p3 p4 (nI w)), (aI g p1 24 sd), (aI g p2 10 fn), (aI g p3 6 st), (aI g p4 6 me), (oX5 t0 t1 t2 pw), (aI g t1 6 pd), (aI g t2 36 wb)]) (va_runV (As := [.ref h0]) (rest := []) ⟨hx, hb, hml, hown, hts⟩ (c_X0_lead l g a0 a1 (va_cpy F l9 0 (k9 * 30) 24) h0 q0 q1 k9 us_23 (by first | assumption | decide | omega) H.size) (cwV 1 hts gX10_months_X0_lead rfl rfl rfl (by decide +kernel) ⟨Nat.le_of_ble_eq_true rfl, Nat.le_of_ble_eq_true rfl⟩) (he_preV (wc := [(oX0 a0 a1), (aI g a1 3600 (va_cpy F l9 0 (k9 * 30) 24)), (oX4 h0 q0 q1 (nI (k9 + 1))), (aI g q1 6 us_23)]) hK hP hD hS hA hE [1, 2, 5, 7] rfl rfl 1 rfl rfl) rfl rfl hl.1 rfl (lv_room (Nat.le_of_ble_eq_true rfl)) dX10_months_89 ⟨(Nat.le_of_ble_eq_true rfl), (Nat.le_of_ble_eq_true rfl)⟩) hP hD hS hA [1, 2, 5, 7] [0, 3, 4, 6, 8, 9, 10, 11, 12, 13, 14, 15] rfl rfl rfl (by decide) (fun u_28 H locs h_29 hP hD hS => ?_)
            have hP : va_P g.1 vwCl [(oX8 s0 h0 a0 b0 e0), (oX10 x0 y0 ta z0 p0 dr pa to_ s0 im ki tr v0 rf), (aP g pa 7 pf), (aI g q0 24 uf_22), (oX6 p0 p1 p2 p3 p4 (nI w)), (aI g p1 24 sd), (aI g p2 10 fn), (aI g p3 6 st), (aI g p4 6 me), (oX5 t0 t1 t2 pw), (aI g t1 6 pd), (aI g t2 36 wb), (oX0 a0 a1), (aI g a1 3600 (va_cpy us_23 (va_cpy F l9 0 (k9 * 30) 24) 0 (k9 * 30 + 24) 6)), (oX4 h0 q0 q1 (nI (k9 + 1))), (aI g q1 6 us_23)] H := hP
            have hD : va_D A [(oX8 s0 h0 a0 b0 e0), (oX10 x0 y0 ta z0 p0 dr pa to_ s0 im ki tr v0 rf), (aP g pa 7 pf), (aI g q0 24 uf_22), (oX6 p0 p1 p2 p3 p4 (nI w)), (aI g p1 24 sd), (aI g p2 10 fn), (aI g p3 6 st), (aI g p4 6 me), (oX5 t0 t1 t2 pw), (aI g t1 6 pd), (aI g t2 36 wb), (oX0 a0 a1), (aI g a1 3600 (va_cpy us_23 (va_cpy F l9 0 (k9 * 30) 24) 0 (k9 * 30 + 24) 6)), (oX4 h0 q0 q1 (nI (k9 + 1))), (aI g q1 6 us_23)] := hD
            refine lv_iinc (v := nI (j + 1)) (lv' := [(2, .int (nI (j + 1))), (0, .ref x0), (1, .int (nI n))]) hx hb dX10_months_92 hl (k := 2) rfl (nI_1 j) (by decide) rfl (fun ls hl => ?_)
            refine lv_goto (tgt := 13) hx hb dX10_months_95 (by decide) ?_
            exact ih13 (j + 1) (k9 + 1) uf_22 us_23 (va_cpy us_23 (va_cpy F l9 0 (k9 * 30) 24) 0 (k9 * 30 + 24) 6) (by omega) (by omega) (by omega) (by omega) (ok_mj hok (by omega) hkj) (by have h9 := mo_in hok (dat_s hdat) (by rw [aMs_n (by omega) (by omega), aMs_n (by omega) (by omega)]; exact hcon) hcn hq2 hq9 hck hc99 hq5 hq36 hN hin hi11 hf11 (by omega) hf_24 (fun j hj => by unfold flF; rw [if_pos hj]) hf_25 hf_26; exact mo_e hkj h9.1) (by have h9 := mo_in hok (dat_s hdat) (by rw [aMs_n (by omega) (by omega), aMs_n (by omega) (by omega)]; exact hcon) hcn hq2 hq9 hck hc99 hq5 hq36 hN hin hi11 hf11 (by omega) hf_24 (fun j hj => by unfold flF; rw [if_pos hj]) hf_25 hf_26; exact mo_e10 hkj (h9.2.1)) (by have h9 := mo_in hok (dat_s hdat) (by rw [aMs_n (by omega) (by omega), aMs_n (by omega) (by omega)]; exact hcon) hcn hq2 hq9 hck hc99 hq5 hq36 hN hin hi11 hf11 (by omega) hf_24 (fun j hj => by unfold flF; rw [if_pos hj]) hf_25 hf_26; exact mo_eL hkj (ln_m1 hL hN h9.2.2 (by omega))) _ _ _ (hP.sub [1, 4, 5, 6, 7, 8, 2, 9, 10, 11, 0, 14, 3, 15, 12, 13] rfl) (hD.sub [1, 4, 5, 6, 7, 8, 2, 9, 10, 11, 0, 14, 3, 15, 12, 13] (by decide) rfl) hS (lv_sub hl [1, 2, 0] rfl)
          · have hf10 : F 10 = -1 := (hN.1 10 ⟨by decide, by decide⟩).trans hno
            refine lv_aload_n hx hb dX10_months_50 rfl (lv_at hl 0 rfl) ?_
            refine va_get (v := .ref s0) (T := TX10) (N := 13) hx hb hts inX10 hown hK hP 0 rfl rfl 7 (by decide) f39 (fun _ h9 => h9) rfl dX10_months_51 ?_
            refine va_get (v := .ref h0) (T := TX8) (N := 4) hx hb hts inX8 hown hK hP 10 rfl rfl 0 (by decide) f66 (fun _ h9 => h9) rfl dX10_months_54 ?_
            refine lv_aload_n hx hb dX10_months_57 rfl (lv_at hl 0 rfl) ?_
            refine va_get (v := .ref p0) (T := TX10) (N := 13) hx hb hts inX10 hown hK hP 0 rfl rfl 3 (by decide) f23 (fun _ h9 => h9) rfl dX10_months_58 ?_
            refine lv_aload_n hx hb dX10_months_61 rfl (lv_at hl 0 rfl) ?_
            refine lv_aload_n hx hb dX10_months_62 rfl (lv_at hl 0 rfl) ?_
            refine va_get (v := .ref s0) (T := TX10) (N := 13) hx hb hts inX10 hown hK hP 0 rfl rfl 7 (by decide) f39 (fun _ h9 => h9) rfl dX10_months_63 ?_
            refine va_get (v := .ref h0) (T := TX8) (N := 4) hx hb hts inX8 hown hK hP 10 rfl rfl 0 (by decide) f66 (fun _ h9 => h9) rfl dX10_months_66 ?_
            refine he_cq (wc := [(oX4 h0 q0 q1 (nI k9)), (aI g q0 24 F)]) (wr := [(oX10 x0 y0 ta z0 p0 dr pa to_ s0 im ki tr v0 rf), (oX6 p0 p1 p2 p3 p4 (nI w)), (aI g p1 24 sd), (aI g p2 10 fn), (aI g p3 6 st), (aI g p4 6 me), (aP g pa 7 pf), (oX5 t0 t1 t2 pw), (aI g t1 6 pd), (aI g t2 36 wb), (oX8 s0 h0 a0 b0 e0), (aI g q1 6 G), (oX0 a0 a1), (aI g a1 3600 (va_cpy F l9 0 (k9 * 30) 24))]) (va_runV (As := [.ref h0]) (rest := [.ref p0, .ref h0]) ⟨hx, hb, hml, hown, hts⟩ (g_X10_inForceN l g x0 h0 q0 q1 (nI k9) F (by rw [hf10]; exact m1_out 6) H.size) (cwV 1 hts gX10_months_X10_inForce rfl rfl rfl (by decide +kernel) ⟨Nat.le_of_ble_eq_true rfl, Nat.le_of_ble_eq_true rfl⟩) (he_preV (wc := [(oX4 h0 q0 q1 (nI k9)), (aI g q0 24 F)]) hK hP hD hS hA hE [14, 15] rfl rfl 0 rfl rfl) rfl rfl hl.1 rfl (lv_room (Nat.le_of_ble_eq_true rfl)) dX10_months_69 ⟨(Nat.le_of_ble_eq_true rfl), (Nat.le_of_ble_eq_true rfl)⟩) hP hD hS hA [14, 15] [0, 1, 2, 3, 4, 5, 6, 7, 8, 9, 10, 11, 12, 13] rfl rfl rfl (by decide) (fun r_30 u_31 H locs h_32 hP hD hS => ?_)
            subst h_32
            have hP : va_P g.1 vwCl [(oX10 x0 y0 ta z0 p0 dr pa to_ s0 im ki tr v0 rf), (oX6 p0 p1 p2 p3 p4 (nI w)), (aI g p1 24 sd), (aI g p2 10 fn), (aI g p3 6 st), (aI g p4 6 me), (aP g pa 7 pf), (oX5 t0 t1 t2 pw), (aI g t1 6 pd), (aI g t2 36 wb), (oX8 s0 h0 a0 b0 e0), (aI g q1 6 G), (oX0 a0 a1), (aI g a1 3600 (va_cpy F l9 0 (k9 * 30) 24)), (oX4 h0 q0 q1 (nI k9)), (aI g q0 24 F)] H := hP
            have hD : va_D A [(oX10 x0 y0 ta z0 p0 dr pa to_ s0 im ki tr v0 rf), (oX6 p0 p1 p2 p3 p4 (nI w)), (aI g p1 24 sd), (aI g p2 10 fn), (aI g p3 6 st), (aI g p4 6 me), (aP g pa 7 pf), (oX5 t0 t1 t2 pw), (aI g t1 6 pd), (aI g t2 36 wb), (oX8 s0 h0 a0 b0 e0), (aI g q1 6 G), (oX0 a0 a1), (aI g a1 3600 (va_cpy F l9 0 (k9 * 30) 24)), (oX4 h0 q0 q1 (nI k9)), (aI g q0 24 F)] := hD
            refine he_cv (wc := [(oX4 h0 q0 q1 (nI k9)), (aI g q0 24 F), (aI g q1 6 G), (oX6 p0 p1 p2 p3 p4 (nI w)), (aI g p1 24 sd), (aI g p3 6 st), (aI g p4 6 me)]) (wr := [(oX10 x0 y0 ta z0 p0 dr pa to_ s0 im ki tr v0 rf), (aI g p2 10 fn), (aP g pa 7 pf), (oX5 t0 t1 t2 pw), (aI g t1 6 pd), (aI g t2 36 wb), (oX8 s0 h0 a0 b0 e0), (oX0 a0 a1), (aI g a1 3600 (va_cpy F l9 0 (k9 * 30) 24))]) (va_runV (As := [.ref p0, .null]) (rest := []) ⟨hx, hb, hml, hown, hts⟩ (c_X4_pass0 l g h0 q0 q1 (nI k9) F G p0 p1 p2 p3 p4 w sd st me (by first | assumption | decide | omega) H.size) (cwV 2 hts gX10_months_X4_pass rfl rfl rfl (by decide +kernel) ⟨Nat.le_of_ble_eq_true rfl, Nat.le_of_ble_eq_true rfl⟩) (he_preV (wc := [(oX4 h0 q0 q1 (nI k9)), (aI g q0 24 F), (aI g q1 6 G), (oX6 p0 p1 p2 p3 p4 (nI w)), (aI g p1 24 sd), (aI g p3 6 st), (aI g p4 6 me)]) hK hP hD hS hA hE [14, 15, 11, 1, 2, 4, 5] rfl rfl 14 rfl rfl) rfl rfl hl.1 rfl (lv_room (Nat.le_of_ble_eq_true rfl)) dX10_months_72 ⟨(Nat.le_of_ble_eq_true rfl), (Nat.le_of_ble_eq_true rfl)⟩) hP hD hS hA [14, 15, 11, 1, 2, 4, 5] [0, 3, 6, 7, 8, 9, 10, 12, 13] rfl rfl rfl (by decide) (fun u_34 H locs h_35 hP hD hS => ?_)
            have hP : va_P g.1 vwCl [(oX10 x0 y0 ta z0 p0 dr pa to_ s0 im ki tr v0 rf), (aI g p2 10 fn), (aP g pa 7 pf), (oX5 t0 t1 t2 pw), (aI g t1 6 pd), (aI g t2 36 wb), (oX8 s0 h0 a0 b0 e0), (oX0 a0 a1), (aI g a1 3600 (va_cpy F l9 0 (k9 * 30) 24)), (oX4 h0 q0 q1 ((nI k9) + 1)), (aI g q0 24 (psT sd st me w (taxF sd F))), (aI g q1 6 (flF (fun _ => 0) G 6)), (oX6 p0 p1 p2 p3 p4 (nI w)), (aI g p1 24 sd), (aI g p3 6 st), (aI g p4 6 me)] H := hP
            have hD : va_D A [(oX10 x0 y0 ta z0 p0 dr pa to_ s0 im ki tr v0 rf), (aI g p2 10 fn), (aP g pa 7 pf), (oX5 t0 t1 t2 pw), (aI g t1 6 pd), (aI g t2 36 wb), (oX8 s0 h0 a0 b0 e0), (oX0 a0 a1), (aI g a1 3600 (va_cpy F l9 0 (k9 * 30) 24)), (oX4 h0 q0 q1 ((nI k9) + 1)), (aI g q0 24 (psT sd st me w (taxF sd F))), (aI g q1 6 (flF (fun _ => 0) G 6)), (oX6 p0 p1 p2 p3 p4 (nI w)), (aI g p1 24 sd), (aI g p3 6 st), (aI g p4 6 me)] := hD
            have e9 : nI k9 + 1 = nI (k9 + 1) := nI_1 k9
            try rw [e9] at hP hD
            have hP : va_P g.1 vwCl [(oX10 x0 y0 ta z0 p0 dr pa to_ s0 im ki tr v0 rf), (aI g p2 10 fn), (aP g pa 7 pf), (oX5 t0 t1 t2 pw), (aI g t1 6 pd), (aI g t2 36 wb), (oX8 s0 h0 a0 b0 e0), (oX0 a0 a1), (aI g a1 3600 (va_cpy F l9 0 (k9 * 30) 24)), (oX4 h0 q0 q1 (nI (k9 + 1))), (aI g q0 24 (psT sd st me w (taxF sd F))), (aI g q1 6 (flF (fun _ => 0) G 6)), (oX6 p0 p1 p2 p3 p4 (nI w)), (aI g p1 24 sd), (aI g p3 6 st), (aI g p4 6 me)] H := hP
            have hD : va_D A [(oX10 x0 y0 ta z0 p0 dr pa to_ s0 im ki tr v0 rf), (aI g p2 10 fn), (aP g pa 7 pf), (oX5 t0 t1 t2 pw), (aI g t1 6 pd), (aI g t2 36 wb), (oX8 s0 h0 a0 b0 e0), (oX0 a0 a1), (aI g a1 3600 (va_cpy F l9 0 (k9 * 30) 24)), (oX4 h0 q0 q1 (nI (k9 + 1))), (aI g q0 24 (psT sd st me w (taxF sd F))), (aI g q1 6 (flF (fun _ => 0) G 6)), (oX6 p0 p1 p2 p3 p4 (nI w)), (aI g p1 24 sd), (aI g p3 6 st), (aI g p4 6 me)] := hD
            refine lv_aload_n hx hb dX10_months_75 rfl (lv_at hl 0 rfl) ?_
            refine va_get (v := .ref s0) (T := TX10) (N := 13) hx hb hts inX10 hown hK hP 0 rfl rfl 7 (by decide) f39 (fun _ h9 => h9) rfl dX10_months_76 ?_
            refine va_get (v := .ref a0) (T := TX8) (N := 4) hx hb hts inX8 hown hK hP 6 rfl rfl 1 (by decide) f143 (fun _ h9 => h9) rfl dX10_months_79 ?_
            refine lv_aload_n hx hb dX10_months_82 rfl (lv_at hl 0 rfl) ?_
            refine va_get (v := .ref s0) (T := TX10) (N := 13) hx hb hts inX10 hown hK hP 0 rfl rfl 7 (by decide) f39 (fun _ h9 => h9) rfl dX10_months_83 ?_
            refine va_get (v := .ref h0) (T := TX8) (N := 4) hx hb hts inX8 hown hK hP 6 rfl rfl 0 (by decide) f66 (fun _ h9 => h9) rfl dX10_months_86 ?_
            refine he_cv (wc := [(oX0 a0 a1), (aI g a1 3600 (va_cpy F l9 0 (k9 * 30) 24)), (oX4 h0 q0 q1 (nI (k9 + 1))), (aI g q1 6 (flF (fun _ => 0) G 6))]) (wr := [(oX10 x0 y0 ta z0 p0 dr pa to_ s0 im ki tr v0 rf), (aI g p2 10 fn), (aP g pa 7 pf), (oX5 t0 t1 t2 pw), (aI g t1 6 pd), (aI g t2 36 wb), (oX8 s0 h0 a0 b0 e0), (aI g q0 24 (psT sd st me w (taxF sd F))), (oX6 p0 p1 p2 p3 p4 (nI w)), (aI g p1 24 sd), (aI g p3 6 st), (aI g p4 6 me)]) (va_runV (As := [.ref h0]) (rest := []) ⟨hx, hb, hml, hown, hts⟩ (c_X0_lead l g a0 a1 (va_cpy F l9 0 (k9 * 30) 24) h0 q0 q1 k9 (flF (fun _ => 0) G 6) (by first | assumption | decide | omega) H.size) (cwV 1 hts gX10_months_X0_lead rfl rfl rfl (by decide +kernel) ⟨Nat.le_of_ble_eq_true rfl, Nat.le_of_ble_eq_true rfl⟩) (he_preV (wc := [(oX0 a0 a1), (aI g a1 3600 (va_cpy F l9 0 (k9 * 30) 24)), (oX4 h0 q0 q1 (nI (k9 + 1))), (aI g q1 6 (flF (fun _ => 0) G 6))]) hK hP hD hS hA hE [7, 8, 9, 11] rfl rfl 7 rfl rfl) rfl rfl hl.1 rfl (lv_room (Nat.le_of_ble_eq_true rfl)) dX10_months_89 ⟨(Nat.le_of_ble_eq_true rfl), (Nat.le_of_ble_eq_true rfl)⟩) hP hD hS hA [7, 8, 9, 11] [0, 1, 2, 3, 4, 5, 6, 10, 12, 13, 14, 15] rfl rfl rfl (by decide) (fun u_37 H locs h_38 hP hD hS => ?_)
            have hP : va_P g.1 vwCl [(oX10 x0 y0 ta z0 p0 dr pa to_ s0 im ki tr v0 rf), (aI g p2 10 fn), (aP g pa 7 pf), (oX5 t0 t1 t2 pw), (aI g t1 6 pd), (aI g t2 36 wb), (oX8 s0 h0 a0 b0 e0), (aI g q0 24 (psT sd st me w (taxF sd F))), (oX6 p0 p1 p2 p3 p4 (nI w)), (aI g p1 24 sd), (aI g p3 6 st), (aI g p4 6 me), (oX0 a0 a1), (aI g a1 3600 (va_cpy (flF (fun _ => 0) G 6) (va_cpy F l9 0 (k9 * 30) 24) 0 (k9 * 30 + 24) 6)), (oX4 h0 q0 q1 (nI (k9 + 1))), (aI g q1 6 (flF (fun _ => 0) G 6))] H := hP
            have hD : va_D A [(oX10 x0 y0 ta z0 p0 dr pa to_ s0 im ki tr v0 rf), (aI g p2 10 fn), (aP g pa 7 pf), (oX5 t0 t1 t2 pw), (aI g t1 6 pd), (aI g t2 36 wb), (oX8 s0 h0 a0 b0 e0), (aI g q0 24 (psT sd st me w (taxF sd F))), (oX6 p0 p1 p2 p3 p4 (nI w)), (aI g p1 24 sd), (aI g p3 6 st), (aI g p4 6 me), (oX0 a0 a1), (aI g a1 3600 (va_cpy (flF (fun _ => 0) G 6) (va_cpy F l9 0 (k9 * 30) 24) 0 (k9 * 30 + 24) 6)), (oX4 h0 q0 q1 (nI (k9 + 1))), (aI g q1 6 (flF (fun _ => 0) G 6))] := hD
            refine lv_iinc (v := nI (j + 1)) (lv' := [(2, .int (nI (j + 1))), (0, .ref x0), (1, .int (nI n))]) hx hb dX10_months_92 hl (k := 2) rfl (nI_1 j) (by decide) rfl (fun ls hl => ?_)
            refine lv_goto (tgt := 13) hx hb dX10_months_95 (by decide) ?_
            exact ih13 (j + 1) (k9 + 1) (psT sd st me w (taxF sd F)) (flF (fun _ => 0) G 6) (va_cpy (flF (fun _ => 0) G 6) (va_cpy F l9 0 (k9 * 30) 24) 0 (k9 * 30 + 24) 6) (by omega) (by omega) (by omega) (by omega) (ok_mj hok (by omega) hkj) (by have h9 := mo_no (uf := psT sd st me w (taxF sd F)) (us := flF (fun _ => 0) G 6) (sh := G) hok (dat_s hdat) hN hno rfl rfl; exact mo_e hkj h9.1) (by have h9 := mo_no (uf := psT sd st me w (taxF sd F)) (us := flF (fun _ => 0) G 6) (sh := G) hok (dat_s hdat) hN hno rfl rfl; exact mo_e10 hkj (Or.inr h9.2.1)) (by have h9 := mo_no (uf := psT sd st me w (taxF sd F)) (us := flF (fun _ => 0) G 6) (sh := G) hok (dat_s hdat) hN hno rfl rfl; exact mo_eL hkj (ln_m1 hL hN h9.2.2 (by omega))) _ _ _ (hP.sub [0, 8, 9, 1, 10, 11, 2, 3, 4, 5, 6, 14, 7, 15, 12, 13] rfl) (hD.sub [0, 8, 9, 1, 10, 11, 2, 3, 4, 5, 6, 14, 7, 15, 12, 13] (by decide) rfl) hS (lv_sub hl [1, 2, 0] rfl)
  exact loop13 ((n - 0) + 1) 0 k f sh ln (Nat.lt_succ_self _) (Nat.zero_le _) hk rfl hok0 hN0 hF0 hL0 _ _ _ hP hD hS (lv_sub hl [1, 2, 0] rfl)
set_option maxHeartbeats 4000000 in
set_option maxRecDepth 100000 in
theorem s_X10_monthsN (l : Launch) (g : he_G) (x0 : Nat) (y0 : Nat) (z0 : Nat) (dr : Nat) (pa : Nat) (s0 : Nat) (im : Nat) (tr : Nat) (v0 : Nat) (rf : Nat) (ta : Int32) (to_ : Int32) (ki : Int32) (p0 : Nat) (p1 : Nat) (p2 : Nat) (p3 : Nat) (p4 : Nat) (w : Nat) (sd : Nat → Int32) (st : Nat → Int32) (me : Nat → Int32) (a0 : Nat) (b0 : Nat) (e0 : Nat) (h0 : Nat) (q0 : Nat) (q1 : Nat) (k : Nat) (a1 : Nat) (f : Nat → Int32) (sh : Nat → Int32) (ln : Nat → Int32) (n : Nat) (nt : Nat) (fn : Nat → Int32) (R : Rw) (hw6 : w ≤ 6) (hok0 : okA w nt k R) (hdat : datC w sd fn st me R) (hN0 : nowC k f (R 5)) (hL0 : lnC ln k R) (hn1 : 1 ≤ n) (hn2 : n ≤ 120) (hk : k ≤ 120) (hF0 : R 5 10 = -1) : he_I l yX10_months wsX10_months 4 83 0 0 g [.ref x0, .int (nI n)] [(oX10 x0 y0 ta z0 p0 dr pa to_ s0 im ki tr v0 rf), (oX6 p0 p1 p2 p3 p4 (nI w)), (aI g p1 24 sd), (aI g p3 6 st), (aI g p4 6 me), (oX8 s0 h0 a0 b0 e0), (oX4 h0 q0 q1 (nI k)), (aI g q0 24 f), (aI g q1 6 sh), (oX0 a0 a1), (aI g a1 3600 ln)] (fun (r : Int32) (u : Nat × (Nat → Int32) × (Nat → Int32) × (Nat → Int32)) => r = nI (u.1 - k) ∧ u.1 = k + min n (120 - k) ∧ nowC u.1 u.2.1 (aMs R w k (min n (120 - k)) 5) ∧ lnC u.2.2.2 u.1 (aMs R w k (min n (120 - k)))) (fun (u : Nat × (Nat → Int32) × (Nat → Int32) × (Nat → Int32)) => [(oX10 x0 y0 ta z0 p0 dr pa to_ s0 im ki tr v0 rf), (oX6 p0 p1 p2 p3 p4 (nI w)), (aI g p1 24 sd), (aI g p3 6 st), (aI g p4 6 me), (oX8 s0 h0 a0 b0 e0), (oX4 h0 q0 q1 (nI u.1)), (aI g q0 24 u.2.1), (aI g q1 6 u.2.2.1), (oX0 a0 a1), (aI g a1 3600 u.2.2.2)]) := by
  refine he_begin (l := l) (g := g) (y := yX10_months) (wl := wsX10_months) (fr := 4) (lo := 83) (mc := 0) (ms := 0) (av := [.ref x0, .int (nI n)]) (ws := [(oX10 x0 y0 ta z0 p0 dr pa to_ s0 im ki tr v0 rf), (oX6 p0 p1 p2 p3 p4 (nI w)), (aI g p1 24 sd), (aI g p3 6 st), (aI g p4 6 me), (oX8 s0 h0 a0 b0 e0), (oX4 h0 q0 q1 (nI k)), (aI g q0 24 f), (aI g q1 6 sh), (oX0 a0 a1), (aI g a1 3600 ln)]) (cc := cX10_months) (maxL := 3) (ret := (some .int)) (fun A => va_Qi (fun (r : Int32) (u : Nat × (Nat → Int32) × (Nat → Int32) × (Nat → Int32)) => r = nI (u.1 - k) ∧ u.1 = k + min n (120 - k) ∧ nowC u.1 u.2.1 (aMs R w k (min n (120 - k)) 5) ∧ lnC u.2.2.2 u.1 (aMs R w k (min n (120 - k)))) (fun u t => he_post g A ((fun (u : Nat × (Nat → Int32) × (Nat → Int32) × (Nat → Int32)) => [(oX10 x0 y0 ta z0 p0 dr pa to_ s0 im ki tr v0 rf), (oX6 p0 p1 p2 p3 p4 (nI w)), (aI g p1 24 sd), (aI g p3 6 st), (aI g p4 6 me), (oX8 s0 h0 a0 b0 e0), (oX4 h0 q0 q1 (nI u.1)), (aI g q0 24 u.2.1), (aI g q1 6 u.2.2.1), (oX0 a0 a1), (aI g a1 3600 u.2.2.2)]) u) t) A) (by decide) rfl (Nat.le_of_ble_eq_true rfl) ?_
  intro p e s m args below meth c A ls H locs Q hQ hB
  obtain ⟨hx, hb, hr, hml, hown, hts, hlk, hin, hP, hK, hD, hS, hA, hE, hl⟩ := hB
  have hl : lv_has ls 3 [(0, .ref x0), (1, .int (nI n))] := hl
  have f39 := hts (.fieldLink RX10 39 "HiredEnemy" "scene" "LHiredEnemy$Scene;") (iwoX10_months (k := 0) rfl)
  have inX10 : ∀ w ∈ wsX100, w ∈ wsX10_months := innX10_months_X10
  have f66 := hts (.fieldLink RX10 66 "HiredEnemy$Scene" "course" "LHiredEnemy$Course;") (iwoX10_months (k := 1) rfl)
  have inX8 : ∀ w ∈ wsX80, w ∈ wsX10_months := innX10_months_X8
  have f114 := hts (.fieldLink RX10 114 "HiredEnemy$Course" "month" "I") (iwoX10_months (k := 2) rfl)
  have inX4 : ∀ w ∈ wsX40, w ∈ wsX10_months := innX10_months_X4
  have f143 := hts (.fieldLink RX10 143 "HiredEnemy$Scene" "annals" "LHiredEnemy$Annals;") (iwoX10_months (k := 3) rfl)
  have f23 := hts (.fieldLink RX10 23 "HiredEnemy" "plan" "LHiredEnemy$Plan;") (iwoX10_months (k := 4) rfl)
  refine lv_aload_n hx hb dX10_months_0 rfl (lv_at hl 0 rfl) ?_
  refine lv_iload_n hx hb dX10_months_1 rfl (lv_at hl 1 rfl) ?_
  refine lv_iconst (v := 1) hx hb dX10_months_2 (by decide) ?_
  refine lv_bipush (v := 120) hx hb dX10_months_3 (by decide) ?_
  refine he_ci (wc := []) (wr := [(oX10 x0 y0 ta z0 p0 dr pa to_ s0 im ki tr v0 rf), (oX6 p0 p1 p2 p3 p4 (nI w)), (aI g p1 24 sd), (aI g p3 6 st), (aI g p4 6 me), (oX8 s0 h0 a0 b0 e0), (oX4 h0 q0 q1 (nI k)), (aI g q0 24 f), (aI g q1 6 sh), (oX0 a0 a1), (aI g a1 3600 ln)]) (va_runS (As := [.int (nI n), .int 1, .int 120]) (rest := [.ref x0]) ⟨hx, hb, hml, hown, hts⟩ (c_X10_within l g (nI n) 1 120 H.size) (va_cwS 3 hts gX10_months_X10_within rfl rfl rfl (by decide +kernel) ⟨Nat.le_of_ble_eq_true rfl, Nat.le_of_ble_eq_true rfl⟩) (he_preS (wc := []) hK hP hD hS hA hE [] rfl rfl) rfl rfl hl.1 rfl (lv_room (Nat.le_of_ble_eq_true rfl)) dX10_months_5 ⟨(Nat.le_of_ble_eq_true rfl), (Nat.le_of_ble_eq_true rfl)⟩) hP hD hS hA [] [0, 1, 2, 3, 4, 5, 6, 7, 8, 9, 10] rfl rfl rfl (by decide) (fun r_1 u_2 H locs h_3 hP hD hS => ?_)
  subst h_3
  have hP : va_P g.1 vwCl [(oX10 x0 y0 ta z0 p0 dr pa to_ s0 im ki tr v0 rf), (oX6 p0 p1 p2 p3 p4 (nI w)), (aI g p1 24 sd), (aI g p3 6 st), (aI g p4 6 me), (oX8 s0 h0 a0 b0 e0), (oX4 h0 q0 q1 (nI k)), (aI g q0 24 f), (aI g q1 6 sh), (oX0 a0 a1), (aI g a1 3600 ln)] H := hP
  have hD : va_D A [(oX10 x0 y0 ta z0 p0 dr pa to_ s0 im ki tr v0 rf), (oX6 p0 p1 p2 p3 p4 (nI w)), (aI g p1 24 sd), (aI g p3 6 st), (aI g p4 6 me), (oX8 s0 h0 a0 b0 e0), (oX4 h0 q0 q1 (nI k)), (aI g q0 24 f), (aI g q1 6 sh), (oX0 a0 a1), (aI g a1 3600 ln)] := hD
  refine he_top (1) (he_within_in (a0 := 1) (B := 120) rfl rfl (by omega) (by omega) (by decide)) ?_
  refine he_cv (wc := []) (wr := [(oX10 x0 y0 ta z0 p0 dr pa to_ s0 im ki tr v0 rf), (oX6 p0 p1 p2 p3 p4 (nI w)), (aI g p1 24 sd), (aI g p3 6 st), (aI g p4 6 me), (oX8 s0 h0 a0 b0 e0), (oX4 h0 q0 q1 (nI k)), (aI g q0 24 f), (aI g q1 6 sh), (oX0 a0 a1), (aI g a1 3600 ln)]) (va_runV (As := [.int 1]) (rest := []) ⟨hx, hb, hml, hown, hts⟩ (c_X10_demand1 l g x0 H.size) (cwV 1 hts gX10_months_X10_demand rfl rfl rfl (by decide +kernel) ⟨Nat.le_of_ble_eq_true rfl, Nat.le_of_ble_eq_true rfl⟩) (he_preV (wc := []) hK hP hD hS hA hE [] rfl rfl 0 rfl rfl) rfl rfl hl.1 rfl (lv_room (Nat.le_of_ble_eq_true rfl)) dX10_months_8 ⟨(Nat.le_of_ble_eq_true rfl), (Nat.le_of_ble_eq_true rfl)⟩) hP hD hS hA [] [0, 1, 2, 3, 4, 5, 6, 7, 8, 9, 10] rfl rfl rfl (by decide) (fun u_5 H locs h_6 hP hD hS => ?_)
  have hP : va_P g.1 vwCl [(oX10 x0 y0 ta z0 p0 dr pa to_ s0 im ki tr v0 rf), (oX6 p0 p1 p2 p3 p4 (nI w)), (aI g p1 24 sd), (aI g p3 6 st), (aI g p4 6 me), (oX8 s0 h0 a0 b0 e0), (oX4 h0 q0 q1 (nI k)), (aI g q0 24 f), (aI g q1 6 sh), (oX0 a0 a1), (aI g a1 3600 ln)] H := hP
  have hD : va_D A [(oX10 x0 y0 ta z0 p0 dr pa to_ s0 im ki tr v0 rf), (oX6 p0 p1 p2 p3 p4 (nI w)), (aI g p1 24 sd), (aI g p3 6 st), (aI g p4 6 me), (oX8 s0 h0 a0 b0 e0), (oX4 h0 q0 q1 (nI k)), (aI g q0 24 f), (aI g q1 6 sh), (oX0 a0 a1), (aI g a1 3600 ln)] := hD
  refine lv_iconst (v := 0) hx hb dX10_months_11 (by decide) ?_
  refine lv_istore_n (lv' := [(2, .int 0), (0, .ref x0), (1, .int (nI n))]) hx hb dX10_months_12 rfl hl (by decide) rfl (fun ls hl => ?_)
  have loop13 : ∀ (n9 : Nat) (j : Nat) (k9 : Nat) (F : Nat → Int32) (G : Nat → Int32) (l9 : Nat → Int32), n - j < n9 → (j ≤ n) → (k9 ≤ 120) → (k9 = k + j) → (okA w nt k9 (aMs R w k j)) → (nowC k9 F ((aMs R w k j) 5)) → ((aMs R w k j) 5 10 = -1) → (lnC l9 k9 (aMs R w k j)) → ∀ (H : Heap) (locs : List Loc) (ls : Array Slot), va_P g.1 vwCl [(oX10 x0 y0 ta z0 p0 dr pa to_ s0 im ki tr v0 rf), (oX6 p0 p1 p2 p3 p4 (nI w)), (aI g p1 24 sd), (aI g p3 6 st), (aI g p4 6 me), (oX8 s0 h0 a0 b0 e0), (oX4 h0 q0 q1 (nI k9)), (aI g q0 24 F), (aI g q1 6 G), (oX0 a0 a1), (aI g a1 3600 l9)] H → va_D A [(oX10 x0 y0 ta z0 p0 dr pa to_ s0 im ki tr v0 rf), (oX6 p0 p1 p2 p3 p4 (nI w)), (aI g p1 24 sd), (aI g p3 6 st), (aI g p4 6 me), (oX8 s0 h0 a0 b0 e0), (oX4 h0 q0 q1 (nI k9)), (aI g q0 24 F), (aI g q1 6 G), (oX0 a0 a1), (aI g a1 3600 l9)] → va_S A s.heap H locs → lv_has ls 3 [(0, .ref x0), (1, .int (nI n)), (2, .int (nI j))] → W p l e (he_room 4 83 0 0) s m args below meth c H locs 0 0 Q (F0 m 13 ls []) := by
    intro n9
    induction n9 with
    | zero => intro j k9 F G l9 hm9; exact absurd hm9 (Nat.not_lt_zero _)
    | succ n9 ih13 =>
      intro j k9 F G l9 hm9 hj hk9 hkj hok hN hF hL H locs ls hP hD hS hl
      refine lv_iload_n hx hb dX10_months_13 rfl (lv_at hl 2 rfl) ?_
      refine lv_iload_n hx hb dX10_months_14 rfl (lv_at hl 1 rfl) ?_
      refine lv_icmp_ge (tgt := 98) hx hb dX10_months_15 (by decide) (fun c_7 => ?_) (fun c_7 => ?_)
      · have k_8 : n ≤ j := (he_cle (a := n) (b := j) rfl rfl (by omega) (by omega)).mp c_7
        refine lv_iload_n hx hb dX10_months_98 rfl (lv_at hl 2 rfl) ?_
        exact he_ri hQ hx hb hr hlk hP hD hS dX10_months_99 (Nat.le_of_ble_eq_true rfl) (Nat.le_of_ble_eq_true rfl) ((k9, F, G, l9)) (rfl) (⟨by congr 1; omega, by (try dsimp only); omega, by dsimp only; rw [show min n (120 - k) = j by (try dsimp only); omega]; exact hN, by dsimp only; rw [show min n (120 - k) = j by (try dsimp only); omega]; exact hL⟩)
      · have k_9 : ¬ (n ≤ j) := fun h9 => c_7 ((he_cle (a := n) (b := j) rfl rfl (by omega) (by omega)).mpr h9)
        refine lv_aload_n hx hb dX10_months_18 rfl (lv_at hl 0 rfl) ?_
        refine va_get (v := .ref s0) (T := TX10) (N := 13) hx hb hts inX10 hown hK hP 0 rfl rfl 7 (by decide) f39 (fun _ h9 => h9) rfl dX10_months_19 ?_
        refine va_get (v := .ref h0) (T := TX8) (N := 4) hx hb hts inX8 hown hK hP 5 rfl rfl 0 (by decide) f66 (fun _ h9 => h9) rfl dX10_months_22 ?_
        refine va_get (v := .int (nI k9)) (T := TX4) (N := 3) hx hb hts inX4 hown hK hP 6 rfl rfl 2 (by decide) f114 (fun _ h9 => h9) rfl dX10_months_25 ?_
        refine lv_bipush (v := 120) hx hb dX10_months_28 (by decide) ?_
        refine lv_icmp_ge (tgt := 98) hx hb dX10_months_30 (by decide) (fun c_10 => ?_) (fun c_10 => ?_)
        · have k_11 : 120 ≤ k9 := (he_cle (a := 120) (b := k9) (by decide) rfl (by omega) (by omega)).mp c_10
          refine lv_iload_n hx hb dX10_months_98 rfl (lv_at hl 2 rfl) ?_
          exact he_ri hQ hx hb hr hlk hP hD hS dX10_months_99 (Nat.le_of_ble_eq_true rfl) (Nat.le_of_ble_eq_true rfl) ((k9, F, G, l9)) (rfl) (⟨by congr 1; omega, by (try dsimp only); omega, by dsimp only; rw [show min n (120 - k) = j by (try dsimp only); omega]; exact hN, by dsimp only; rw [show min n (120 - k) = j by (try dsimp only); omega]; exact hL⟩)
        · have k_12 : ¬ (120 ≤ k9) := fun h9 => c_10 ((he_cle (a := 120) (b := k9) (by decide) rfl (by omega) (by omega)).mpr h9)
          refine lv_aload_n hx hb dX10_months_33 rfl (lv_at hl 0 rfl) ?_
          refine va_get (v := .ref s0) (T := TX10) (N := 13) hx hb hts inX10 hown hK hP 0 rfl rfl 7 (by decide) f39 (fun _ h9 => h9) rfl dX10_months_34 ?_
          refine va_get (v := .ref a0) (T := TX8) (N := 4) hx hb hts inX8 hown hK hP 5 rfl rfl 1 (by decide) f143 (fun _ h9 => h9) rfl dX10_months_37 ?_
          refine lv_aload_n hx hb dX10_months_40 rfl (lv_at hl 0 rfl) ?_
          refine va_get (v := .ref s0) (T := TX10) (N := 13) hx hb hts inX10 hown hK hP 0 rfl rfl 7 (by decide) f39 (fun _ h9 => h9) rfl dX10_months_41 ?_
          refine va_get (v := .ref h0) (T := TX8) (N := 4) hx hb hts inX8 hown hK hP 5 rfl rfl 0 (by decide) f66 (fun _ h9 => h9) rfl dX10_months_44 ?_
          refine he_cv (wc := [(oX0 a0 a1), (aI g a1 3600 l9), (oX4 h0 q0 q1 (nI k9)), (aI g q0 24 F)]) (wr := [(oX10 x0 y0 ta z0 p0 dr pa to_ s0 im ki tr v0 rf), (oX6 p0 p1 p2 p3 p4 (nI w)), (aI g p1 24 sd), (aI g p3 6 st), (aI g p4 6 me), (oX8 s0 h0 a0 b0 e0), (aI g q1 6 G)]) (va_runV (As := [.ref h0]) (rest := []) ⟨hx, hb, hml, hown, hts⟩ (c_X0_keep l g a0 a1 l9 h0 q0 q1 k9 F (by first | assumption | decide | omega) H.size) (cwV 1 hts gX10_months_X0_keep rfl rfl rfl (by decide +kernel) ⟨Nat.le_of_ble_eq_true rfl, Nat.le_of_ble_eq_true rfl⟩) (he_preV (wc := [(oX0 a0 a1), (aI g a1 3600 l9), (oX4 h0 q0 q1 (nI k9)), (aI g q0 24 F)]) hK hP hD hS hA hE [9, 10, 6, 7] rfl rfl 9 rfl rfl) rfl rfl hl.1 rfl (lv_room (Nat.le_of_ble_eq_true rfl)) dX10_months_47 ⟨(Nat.le_of_ble_eq_true rfl), (Nat.le_of_ble_eq_true rfl)⟩) hP hD hS hA [9, 10, 6, 7] [0, 1, 2, 3, 4, 5, 8] rfl rfl rfl (by decide) (fun u_14 H locs h_15 hP hD hS => ?_)
          have hP : va_P g.1 vwCl [(oX10 x0 y0 ta z0 p0 dr pa to_ s0 im ki tr v0 rf), (oX6 p0 p1 p2 p3 p4 (nI w)), (aI g p1 24 sd), (aI g p3 6 st), (aI g p4 6 me), (oX8 s0 h0 a0 b0 e0), (aI g q1 6 G), (oX0 a0 a1), (aI g a1 3600 (va_cpy F l9 0 (k9 * 30) 24)), (oX4 h0 q0 q1 (nI k9)), (aI g q0 24 F)] H := hP
          have hD : va_D A [(oX10 x0 y0 ta z0 p0 dr pa to_ s0 im ki tr v0 rf), (oX6 p0 p1 p2 p3 p4 (nI w)), (aI g p1 24 sd), (aI g p3 6 st), (aI g p4 6 me), (oX8 s0 h0 a0 b0 e0), (aI g q1 6 G), (oX0 a0 a1), (aI g a1 3600 (va_cpy F l9 0 (k9 * 30) 24)), (oX4 h0 q0 q1 (nI k9)), (aI g q0 24 F)] := hD
          have hf10 : F 10 = -1 := (hN.1 10 ⟨by decide, by decide⟩).trans hF
          refine lv_aload_n hx hb dX10_months_50 rfl (lv_at hl 0 rfl) ?_
          refine va_get (v := .ref s0) (T := TX10) (N := 13) hx hb hts inX10 hown hK hP 0 rfl rfl 7 (by decide) f39 (fun _ h9 => h9) rfl dX10_months_51 ?_
          refine va_get (v := .ref h0) (T := TX8) (N := 4) hx hb hts inX8 hown hK hP 5 rfl rfl 0 (by decide) f66 (fun _ h9 => h9) rfl dX10_months_54 ?_
          refine lv_aload_n hx hb dX10_months_57 rfl (lv_at hl 0 rfl) ?_
          refine va_get (v := .ref p0) (T := TX10) (N := 13) hx hb hts inX10 hown hK hP 0 rfl rfl 3 (by decide) f23 (fun _ h9 => h9) rfl dX10_months_58 ?_
          refine lv_aload_n hx hb dX10_months_61 rfl (lv_at hl 0 rfl) ?_
          refine lv_aload_n hx hb dX10_months_62 rfl (lv_at hl 0 rfl) ?_
          refine va_get (v := .ref s0) (T := TX10) (N := 13) hx hb hts inX10 hown hK hP 0 rfl rfl 7 (by decide) f39 (fun _ h9 => h9) rfl dX10_months_63 ?_
          refine va_get (v := .ref h0) (T := TX8) (N := 4) hx hb hts inX8 hown hK hP 5 rfl rfl 0 (by decide) f66 (fun _ h9 => h9) rfl dX10_months_66 ?_
          refine he_cq (wc := [(oX4 h0 q0 q1 (nI k9)), (aI g q0 24 F)]) (wr := [(oX10 x0 y0 ta z0 p0 dr pa to_ s0 im ki tr v0 rf), (oX6 p0 p1 p2 p3 p4 (nI w)), (aI g p1 24 sd), (aI g p3 6 st), (aI g p4 6 me), (oX8 s0 h0 a0 b0 e0), (aI g q1 6 G), (oX0 a0 a1), (aI g a1 3600 (va_cpy F l9 0 (k9 * 30) 24))]) (va_runV (As := [.ref h0]) (rest := [.ref p0, .ref h0]) ⟨hx, hb, hml, hown, hts⟩ (g_X10_inForceN l g x0 h0 q0 q1 (nI k9) F (by rw [hf10]; exact m1_out 6) H.size) (cwV 1 hts gX10_months_X10_inForce rfl rfl rfl (by decide +kernel) ⟨Nat.le_of_ble_eq_true rfl, Nat.le_of_ble_eq_true rfl⟩) (he_preV (wc := [(oX4 h0 q0 q1 (nI k9)), (aI g q0 24 F)]) hK hP hD hS hA hE [9, 10] rfl rfl 0 rfl rfl) rfl rfl hl.1 rfl (lv_room (Nat.le_of_ble_eq_true rfl)) dX10_months_69 ⟨(Nat.le_of_ble_eq_true rfl), (Nat.le_of_ble_eq_true rfl)⟩) hP hD hS hA [9, 10] [0, 1, 2, 3, 4, 5, 6, 7, 8] rfl rfl rfl (by decide) (fun r_16 u_17 H locs h_18 hP hD hS => ?_)
          subst h_18
          have hP : va_P g.1 vwCl [(oX10 x0 y0 ta z0 p0 dr pa to_ s0 im ki tr v0 rf), (oX6 p0 p1 p2 p3 p4 (nI w)), (aI g p1 24 sd), (aI g p3 6 st), (aI g p4 6 me), (oX8 s0 h0 a0 b0 e0), (aI g q1 6 G), (oX0 a0 a1), (aI g a1 3600 (va_cpy F l9 0 (k9 * 30) 24)), (oX4 h0 q0 q1 (nI k9)), (aI g q0 24 F)] H := hP
          have hD : va_D A [(oX10 x0 y0 ta z0 p0 dr pa to_ s0 im ki tr v0 rf), (oX6 p0 p1 p2 p3 p4 (nI w)), (aI g p1 24 sd), (aI g p3 6 st), (aI g p4 6 me), (oX8 s0 h0 a0 b0 e0), (aI g q1 6 G), (oX0 a0 a1), (aI g a1 3600 (va_cpy F l9 0 (k9 * 30) 24)), (oX4 h0 q0 q1 (nI k9)), (aI g q0 24 F)] := hD
          refine he_cv (wc := [(oX4 h0 q0 q1 (nI k9)), (aI g q0 24 F), (aI g q1 6 G), (oX6 p0 p1 p2 p3 p4 (nI w)), (aI g p1 24 sd), (aI g p3 6 st), (aI g p4 6 me)]) (wr := [(oX10 x0 y0 ta z0 p0 dr pa to_ s0 im ki tr v0 rf), (oX8 s0 h0 a0 b0 e0), (oX0 a0 a1), (aI g a1 3600 (va_cpy F l9 0 (k9 * 30) 24))]) (va_runV (As := [.ref p0, .null]) (rest := []) ⟨hx, hb, hml, hown, hts⟩ (c_X4_pass0 l g h0 q0 q1 (nI k9) F G p0 p1 p2 p3 p4 w sd st me (by first | assumption | decide | omega) H.size) (cwV 2 hts gX10_months_X4_pass rfl rfl rfl (by decide +kernel) ⟨Nat.le_of_ble_eq_true rfl, Nat.le_of_ble_eq_true rfl⟩) (he_preV (wc := [(oX4 h0 q0 q1 (nI k9)), (aI g q0 24 F), (aI g q1 6 G), (oX6 p0 p1 p2 p3 p4 (nI w)), (aI g p1 24 sd), (aI g p3 6 st), (aI g p4 6 me)]) hK hP hD hS hA hE [9, 10, 6, 1, 2, 3, 4] rfl rfl 9 rfl rfl) rfl rfl hl.1 rfl (lv_room (Nat.le_of_ble_eq_true rfl)) dX10_months_72 ⟨(Nat.le_of_ble_eq_true rfl), (Nat.le_of_ble_eq_true rfl)⟩) hP hD hS hA [9, 10, 6, 1, 2, 3, 4] [0, 5, 7, 8] rfl rfl rfl (by decide) (fun u_20 H locs h_21 hP hD hS => ?_)
          have hP : va_P g.1 vwCl [(oX10 x0 y0 ta z0 p0 dr pa to_ s0 im ki tr v0 rf), (oX8 s0 h0 a0 b0 e0), (oX0 a0 a1), (aI g a1 3600 (va_cpy F l9 0 (k9 * 30) 24)), (oX4 h0 q0 q1 ((nI k9) + 1)), (aI g q0 24 (psT sd st me w (taxF sd F))), (aI g q1 6 (flF (fun _ => 0) G 6)), (oX6 p0 p1 p2 p3 p4 (nI w)), (aI g p1 24 sd), (aI g p3 6 st), (aI g p4 6 me)] H := hP
          have hD : va_D A [(oX10 x0 y0 ta z0 p0 dr pa to_ s0 im ki tr v0 rf), (oX8 s0 h0 a0 b0 e0), (oX0 a0 a1), (aI g a1 3600 (va_cpy F l9 0 (k9 * 30) 24)), (oX4 h0 q0 q1 ((nI k9) + 1)), (aI g q0 24 (psT sd st me w (taxF sd F))), (aI g q1 6 (flF (fun _ => 0) G 6)), (oX6 p0 p1 p2 p3 p4 (nI w)), (aI g p1 24 sd), (aI g p3 6 st), (aI g p4 6 me)] := hD
          have e9 : nI k9 + 1 = nI (k9 + 1) := nI_1 k9
          try rw [e9] at hP hD
          have hP : va_P g.1 vwCl [(oX10 x0 y0 ta z0 p0 dr pa to_ s0 im ki tr v0 rf), (oX8 s0 h0 a0 b0 e0), (oX0 a0 a1), (aI g a1 3600 (va_cpy F l9 0 (k9 * 30) 24)), (oX4 h0 q0 q1 (nI (k9 + 1))), (aI g q0 24 (psT sd st me w (taxF sd F))), (aI g q1 6 (flF (fun _ => 0) G 6)), (oX6 p0 p1 p2 p3 p4 (nI w)), (aI g p1 24 sd), (aI g p3 6 st), (aI g p4 6 me)] H := hP
          have hD : va_D A [(oX10 x0 y0 ta z0 p0 dr pa to_ s0 im ki tr v0 rf), (oX8 s0 h0 a0 b0 e0), (oX0 a0 a1), (aI g a1 3600 (va_cpy F l9 0 (k9 * 30) 24)), (oX4 h0 q0 q1 (nI (k9 + 1))), (aI g q0 24 (psT sd st me w (taxF sd F))), (aI g q1 6 (flF (fun _ => 0) G 6)), (oX6 p0 p1 p2 p3 p4 (nI w)), (aI g p1 24 sd), (aI g p3 6 st), (aI g p4 6 me)] := hD
          refine lv_aload_n hx hb dX10_months_75 rfl (lv_at hl 0 rfl) ?_
          refine va_get (v := .ref s0) (T := TX10) (N := 13) hx hb hts inX10 hown hK hP 0 rfl rfl 7 (by decide) f39 (fun _ h9 => h9) rfl dX10_months_76 ?_
          refine va_get (v := .ref a0) (T := TX8) (N := 4) hx hb hts inX8 hown hK hP 1 rfl rfl 1 (by decide) f143 (fun _ h9 => h9) rfl dX10_months_79 ?_
          refine lv_aload_n hx hb dX10_months_82 rfl (lv_at hl 0 rfl) ?_
          refine va_get (v := .ref s0) (T := TX10) (N := 13) hx hb hts inX10 hown hK hP 0 rfl rfl 7 (by decide) f39 (fun _ h9 => h9) rfl dX10_months_83 ?_
          refine va_get (v := .ref h0) (T := TX8) (N := 4) hx hb hts inX8 hown hK hP 1 rfl rfl 0 (by decide) f66 (fun _ h9 => h9) rfl dX10_months_86 ?_
          refine he_cv (wc := [(oX0 a0 a1), (aI g a1 3600 (va_cpy F l9 0 (k9 * 30) 24)), (oX4 h0 q0 q1 (nI (k9 + 1))), (aI g q1 6 (flF (fun _ => 0) G 6))]) (wr := [(oX10 x0 y0 ta z0 p0 dr pa to_ s0 im ki tr v0 rf), (oX8 s0 h0 a0 b0 e0), (aI g q0 24 (psT sd st me w (taxF sd F))), (oX6 p0 p1 p2 p3 p4 (nI w)), (aI g p1 24 sd), (aI g p3 6 st), (aI g p4 6 me)]) (va_runV (As := [.ref h0]) (rest := []) ⟨hx, hb, hml, hown, hts⟩ (c_X0_lead l g a0 a1 (va_cpy F l9 0 (k9 * 30) 24) h0 q0 q1 k9 (flF (fun _ => 0) G 6) (by first | assumption | decide | omega) H.size) (cwV 1 hts gX10_months_X0_lead rfl rfl rfl (by decide +kernel) ⟨Nat.le_of_ble_eq_true rfl, Nat.le_of_ble_eq_true rfl⟩) (he_preV (wc := [(oX0 a0 a1), (aI g a1 3600 (va_cpy F l9 0 (k9 * 30) 24)), (oX4 h0 q0 q1 (nI (k9 + 1))), (aI g q1 6 (flF (fun _ => 0) G 6))]) hK hP hD hS hA hE [2, 3, 4, 6] rfl rfl 2 rfl rfl) rfl rfl hl.1 rfl (lv_room (Nat.le_of_ble_eq_true rfl)) dX10_months_89 ⟨(Nat.le_of_ble_eq_true rfl), (Nat.le_of_ble_eq_true rfl)⟩) hP hD hS hA [2, 3, 4, 6] [0, 1, 5, 7, 8, 9, 10] rfl rfl rfl (by decide) (fun u_23 H locs h_24 hP hD hS => ?_)
          have hP : va_P g.1 vwCl [(oX10 x0 y0 ta z0 p0 dr pa to_ s0 im ki tr v0 rf), (oX8 s0 h0 a0 b0 e0), (aI g q0 24 (psT sd st me w (taxF sd F))), (oX6 p0 p1 p2 p3 p4 (nI w)), (aI g p1 24 sd), (aI g p3 6 st), (aI g p4 6 me), (oX0 a0 a1), (aI g a1 3600 (va_cpy (flF (fun _ => 0) G 6) (va_cpy F l9 0 (k9 * 30) 24) 0 (k9 * 30 + 24) 6)), (oX4 h0 q0 q1 (nI (k9 + 1))), (aI g q1 6 (flF (fun _ => 0) G 6))] H := hP
          have hD : va_D A [(oX10 x0 y0 ta z0 p0 dr pa to_ s0 im ki tr v0 rf), (oX8 s0 h0 a0 b0 e0), (aI g q0 24 (psT sd st me w (taxF sd F))), (oX6 p0 p1 p2 p3 p4 (nI w)), (aI g p1 24 sd), (aI g p3 6 st), (aI g p4 6 me), (oX0 a0 a1), (aI g a1 3600 (va_cpy (flF (fun _ => 0) G 6) (va_cpy F l9 0 (k9 * 30) 24) 0 (k9 * 30 + 24) 6)), (oX4 h0 q0 q1 (nI (k9 + 1))), (aI g q1 6 (flF (fun _ => 0) G 6))] := hD
          refine lv_iinc (v := nI (j + 1)) (lv' := [(2, .int (nI (j + 1))), (0, .ref x0), (1, .int (nI n))]) hx hb dX10_months_92 hl (k := 2) rfl (nI_1 j) (by decide) rfl (fun ls hl => ?_)
          refine lv_goto (tgt := 13) hx hb dX10_months_95 (by decide) ?_
          exact ih13 (j + 1) (k9 + 1) (psT sd st me w (taxF sd F)) (flF (fun _ => 0) G 6) (va_cpy (flF (fun _ => 0) G 6) (va_cpy F l9 0 (k9 * 30) 24) 0 (k9 * 30 + 24) 6) (by omega) (by omega) (by omega) (by omega) (ok_mj hok (by omega) hkj) (by have h9 := mo_no (uf := psT sd st me w (taxF sd F)) (us := flF (fun _ => 0) G 6) (sh := G) hok (dat_s hdat) hN hF rfl rfl; exact mo_e hkj h9.1) (by have h9 := mo_no (uf := psT sd st me w (taxF sd F)) (us := flF (fun _ => 0) G 6) (sh := G) hok (dat_s hdat) hN hF rfl rfl; exact mo_eN hkj h9.2.1) (by have h9 := mo_no (uf := psT sd st me w (taxF sd F)) (us := flF (fun _ => 0) G 6) (sh := G) hok (dat_s hdat) hN hF rfl rfl; exact mo_eL hkj (ln_m1 hL hN h9.2.2 (by omega))) _ _ _ (hP.sub [0, 3, 4, 5, 6, 1, 9, 2, 10, 7, 8] rfl) (hD.sub [0, 3, 4, 5, 6, 1, 9, 2, 10, 7, 8] (by decide) rfl) hS (lv_sub hl [1, 2, 0] rfl)
  exact loop13 ((n - 0) + 1) 0 k f sh ln (Nat.lt_succ_self _) (Nat.zero_le _) hk rfl hok0 hN0 hF0 hL0 _ _ _ hP hD hS (lv_sub hl [1, 2, 0] rfl)
end
section
set_option maxHeartbeats 4000000 in
set_option maxRecDepth 100000 in
theorem s_X5_breachesTold (l : Launch) (g : he_G) (t0 : Nat) (t1 : Nat) (t2 : Nat) (pw : Int32) (wb : Nat → Int32)  : he_I l yX5_breachesTold wsX5_breachesTold 0 0 0 0 g [.ref t0] [(oX5 t0 t1 t2 pw), (aI g t2 36 wb)] (fun (r : Int32) (u : Unit) => r = nI (cnF wb 36)) (fun (u : Unit) => [(oX5 t0 t1 t2 pw), (aI g t2 36 wb)]) := by
  refine he_begin (l := l) (g := g) (y := yX5_breachesTold) (wl := wsX5_breachesTold) (fr := 0) (lo := 0) (mc := 0) (ms := 0) (av := [.ref t0]) (ws := [(oX5 t0 t1 t2 pw), (aI g t2 36 wb)]) (cc := cX5_breachesTold) (maxL := 6) (ret := (some .int)) (fun A => va_Qi (fun (r : Int32) (u : Unit) => r = nI (cnF wb 36)) (fun u t => he_post g A ((fun (u : Unit) => [(oX5 t0 t1 t2 pw), (aI g t2 36 wb)]) u) t) A) (by decide) rfl (Nat.le_of_ble_eq_true rfl) ?_
  intro p e s m args below meth c A ls H locs Q hQ hB
  obtain ⟨hx, hb, hr, hml, hown, hts, hlk, hin, hP, hK, hD, hS, hA, hE, hl⟩ := hB
  have hl : lv_has ls 6 [(0, .ref t0)] := hl
  have f15 := hts (.fieldLink RX5 15 "HiredEnemy$Pact" "wallByMonth" "[I") (iwoX5_breachesTold (k := 0) rfl)
  have inX5 : ∀ w ∈ wsX50, w ∈ wsX5_breachesTold := innX5_breachesTold_X5
  refine lv_iconst (v := 0) hx hb dX5_breachesTold_0 (by decide) ?_
  refine lv_istore_n (lv' := [(1, .int 0), (0, .ref t0)]) hx hb dX5_breachesTold_1 rfl hl (by decide) rfl (fun ls hl => ?_)
  refine lv_aload_n hx hb dX5_breachesTold_2 rfl (lv_at hl 1 rfl) ?_
  refine va_get (v := .ref t2) (T := TX5) (N := 3) hx hb hts inX5 hown hK hP 0 rfl rfl 1 (by decide) f15 (fun _ h9 => h9) rfl dX5_breachesTold_3 ?_
  refine lv_astore_n (lv' := [(2, .ref t2), (1, .int 0), (0, .ref t0)]) hx hb dX5_breachesTold_6 rfl hl (by decide) rfl (fun ls hl => ?_)
  refine lv_aload_n hx hb dX5_breachesTold_7 rfl (lv_at hl 0 rfl) ?_
  refine va_alen (v := 36) hx hb hK hP 1 1 rfl rfl rfl dX5_breachesTold_8 ?_
  refine lv_istore_n (lv' := [(3, .int 36), (2, .ref t2), (1, .int 0), (0, .ref t0)]) hx hb dX5_breachesTold_9 rfl hl (by decide) rfl (fun ls hl => ?_)
  refine lv_iconst (v := 0) hx hb dX5_breachesTold_10 (by decide) ?_
  refine lv_istore (lv' := [(4, .int 0), (3, .int 36), (2, .ref t2), (1, .int 0), (0, .ref t0)]) hx hb dX5_breachesTold_11 hl (by decide) rfl (fun ls hl => ?_)
  have loop13 : ∀ (n9 : Nat) (j : Nat) (b : Nat), 36 - j < n9 → (j ≤ 36) → (b = cnF wb j) → ∀ (H : Heap) (locs : List Loc) (ls : Array Slot), va_P g.1 vwCl [(oX5 t0 t1 t2 pw), (aI g t2 36 wb)] H → va_D A [(oX5 t0 t1 t2 pw), (aI g t2 36 wb)] → va_S A s.heap H locs → lv_has ls 6 [(0, .ref t0), (1, .int (nI b)), (2, .ref t2), (3, .int 36), (4, .int (nI j))] → W p l e (he_room 0 0 0 0) s m args below meth c H locs 0 0 Q (F0 m 13 ls []) := by
    intro n9
    induction n9 with
    | zero => intro j b hm9; exact absurd hm9 (Nat.not_lt_zero _)
    | succ n9 ih13 =>
      intro j b hm9 hj hbk H locs ls hP hD hS hl
      refine lv_iload hx hb dX5_breachesTold_13 (lv_at hl 4 rfl) ?_
      refine lv_iload_n hx hb dX5_breachesTold_15 rfl (lv_at hl 3 rfl) ?_
      refine lv_icmp_ge (tgt := 40) hx hb dX5_breachesTold_16 (by decide) (fun c_1 => ?_) (fun c_1 => ?_)
      · have k_2 : 36 ≤ j := (he_cle (a := 36) (b := j) (by decide) rfl (by omega) (by omega)).mp c_1
        refine lv_iload_n hx hb dX5_breachesTold_40 rfl (lv_at hl 1 rfl) ?_
        exact he_ri hQ hx hb hr hlk hP hD hS dX5_breachesTold_41 (Nat.le_of_ble_eq_true rfl) (Nat.le_of_ble_eq_true rfl) (()) (rfl) (congrArg nI (by rw [hbk, show j = 36 by omega]))
      · have k_3 : ¬ (36 ≤ j) := fun h9 => c_1 ((he_cle (a := 36) (b := j) (by decide) rfl (by omega) (by omega)).mpr h9)
        refine lv_aload_n hx hb dX5_breachesTold_19 rfl (lv_at hl 2 rfl) ?_
        refine lv_iload hx hb dX5_breachesTold_20 (lv_at hl 4 rfl) ?_
        refine he_iald hx hb hK hP 1 rfl (j) rfl (by first | assumption | decide | omega) (by first | decide | assumption) (wb j) rfl dX5_breachesTold_22 ?_
        refine lv_istore (lv' := [(5, .int (wb j)), (0, .ref t0), (1, .int (nI b)), (2, .ref t2), (3, .int 36), (4, .int (nI j))]) hx hb dX5_breachesTold_23 hl (by decide) rfl (fun ls hl => ?_)
        refine lv_iload hx hb dX5_breachesTold_25 (lv_at hl 0 rfl) ?_
        refine lv_iconst (v := (-1)) hx hb dX5_breachesTold_27 (by decide) ?_
        refine lv_icmp_eq (tgt := 34) hx hb dX5_breachesTold_28 (by decide) (fun c_4 => ?_) (fun c_4 => ?_)
        · refine lv_iinc (v := nI (j + 1)) (lv' := [(4, .int (nI (j + 1))), (5, .int (wb j)), (0, .ref t0), (1, .int (nI b)), (2, .ref t2), (3, .int 36)]) hx hb dX5_breachesTold_34 hl (k := 5) rfl (nI_1 j) (by decide) rfl (fun ls hl => ?_)
          refine lv_goto (tgt := 13) hx hb dX5_breachesTold_37 (by decide) ?_
          exact ih13 (j + 1) b (by omega) (by omega) (hbk.trans (cnF_e c_4).symm) _ _ _ hP hD hS (lv_sub hl [2, 3, 4, 5, 0] rfl)
        · refine lv_iinc (v := nI (b + 1)) (lv' := [(1, .int (nI (b + 1))), (5, .int (wb j)), (0, .ref t0), (2, .ref t2), (3, .int 36), (4, .int (nI j))]) hx hb dX5_breachesTold_31 hl (k := 2) rfl (nI_1 b) (by decide) rfl (fun ls hl => ?_)
          refine lv_iinc (v := nI (j + 1)) (lv' := [(4, .int (nI (j + 1))), (1, .int (nI (b + 1))), (5, .int (wb j)), (0, .ref t0), (2, .ref t2), (3, .int 36)]) hx hb dX5_breachesTold_34 hl (k := 5) rfl (nI_1 j) (by decide) rfl (fun ls hl => ?_)
          refine lv_goto (tgt := 13) hx hb dX5_breachesTold_37 (by decide) ?_
          exact ih13 (j + 1) (b + 1) (by omega) (by omega) (by rw [cnF_n c_4, ← hbk]) _ _ _ hP hD hS (lv_sub hl [3, 1, 4, 5, 0] rfl)
  exact loop13 ((36 - 0) + 1) 0 0 (Nat.lt_succ_self _) (Nat.zero_le _) rfl _ _ _ hP hD hS (lv_sub hl [4, 3, 2, 1, 0] rfl)
set_option maxHeartbeats 4000000 in
set_option maxRecDepth 100000 in
theorem s_X5_answer (l : Launch) (g : he_G) (t0 : Nat) (t1 : Nat) (t2 : Nat) (pw : Int32) (pd : Nat → Int32) (wb : Nat → Int32) (k : Nat) (hk : k ≤ 6) : he_I l yX5_answer wsX5_answer 1 25 0 0 g [.ref t0, .int (nI k)] [(oX5 t0 t1 t2 pw), (aI g t1 6 pd), (aI g t2 36 wb)] (fun (r : Int32) (u : Unit) => r = rlA pd wb k) (fun (u : Unit) => [(oX5 t0 t1 t2 pw), (aI g t1 6 pd), (aI g t2 36 wb)]) := by
  refine he_begin (l := l) (g := g) (y := yX5_answer) (wl := wsX5_answer) (fr := 1) (lo := 25) (mc := 0) (ms := 0) (av := [.ref t0, .int (nI k)]) (ws := [(oX5 t0 t1 t2 pw), (aI g t1 6 pd), (aI g t2 36 wb)]) (cc := cX5_answer) (maxL := 2) (ret := (some .int)) (fun A => va_Qi (fun (r : Int32) (u : Unit) => r = rlA pd wb k) (fun u t => he_post g A ((fun (u : Unit) => [(oX5 t0 t1 t2 pw), (aI g t1 6 pd), (aI g t2 36 wb)]) u) t) A) (by decide) rfl (Nat.le_of_ble_eq_true rfl) ?_
  intro p e s m args below meth c A ls H locs Q hQ hB
  obtain ⟨hx, hb, hr, hml, hown, hts, hlk, hin, hP, hK, hD, hS, hA, hE, hl⟩ := hB
  have hl : lv_has ls 2 [(0, .ref t0), (1, .int (nI k))] := hl
  have f11 := hts (.fieldLink RX5 11 "HiredEnemy$Pact" "said" "[I") (iwoX5_answer (k := 0) rfl)
  have inX5 : ∀ w ∈ wsX50, w ∈ wsX5_answer := innX5_answer_X5
  refine lv_iload_n hx hb dX5_answer_0 rfl (lv_at hl 1 rfl) ?_
  refine lv_bipush (v := 6) hx hb dX5_answer_1 (by decide) ?_
  refine lv_icmp_ne (tgt := 11) hx hb dX5_answer_3 (by decide) (fun c_1 => ?_) (fun c_1 => ?_)
  · have k_2 : ¬ (k = 6) := fun h9 => c_1 ((he_ceq (a := k) (b := 6) rfl (by decide) (by omega) (by omega)).mpr h9)
    refine lv_iload_n hx hb dX5_answer_11 rfl (lv_at hl 1 rfl) ?_
    refine lv_iconst (v := 1) hx hb dX5_answer_12 (by decide) ?_
    refine lv_icmp_ne (tgt := 23) hx hb dX5_answer_13 (by decide) (fun c_3 => ?_) (fun c_3 => ?_)
    · have k_4 : ¬ (k = 1) := fun h9 => c_3 ((he_ceq (a := k) (b := 1) rfl (by decide) (by omega) (by omega)).mpr h9)
      refine lv_aload_n hx hb dX5_answer_23 rfl (lv_at hl 0 rfl) ?_
      refine va_get (v := .ref t1) (T := TX5) (N := 3) hx hb hts inX5 hown hK hP 0 rfl rfl 0 (by decide) f11 (fun _ h9 => h9) rfl dX5_answer_24 ?_
      refine lv_iload_n hx hb dX5_answer_27 rfl (lv_at hl 1 rfl) ?_
      refine he_iald hx hb hK hP 1 rfl (k) rfl (by first | assumption | decide | omega) (by first | decide | assumption) (pd k) rfl dX5_answer_28 ?_
      exact he_ri hQ hx hb hr hlk hP hD hS dX5_answer_29 (Nat.le_of_ble_eq_true rfl) (Nat.le_of_ble_eq_true rfl) (()) (rfl) ((by unfold rlA; rw [if_neg (by omega), if_neg (by omega)]))
    · have k_5 : k = 1 := (he_ceq (a := k) (b := 1) rfl (by decide) (by omega) (by omega)).mp c_3
      refine lv_aload_n hx hb dX5_answer_16 rfl (lv_at hl 0 rfl) ?_
      refine he_ci (wc := [(oX5 t0 t1 t2 pw), (aI g t1 6 pd)]) (wr := [(aI g t2 36 wb)]) (va_runV (As := []) (rest := []) ⟨hx, hb, hml, hown, hts⟩ (c_X5_winterPay l g t0 t1 t2 pw pd H.size) (cwV 0 hts gX5_answer_X5_winterPay rfl rfl rfl (by decide +kernel) ⟨Nat.le_of_ble_eq_true rfl, Nat.le_of_ble_eq_true rfl⟩) (he_preV (wc := [(oX5 t0 t1 t2 pw), (aI g t1 6 pd)]) hK hP hD hS hA hE [0, 1] rfl rfl 0 rfl rfl) rfl rfl hl.1 rfl (lv_room (Nat.le_of_ble_eq_true rfl)) dX5_answer_17 ⟨(Nat.le_of_ble_eq_true rfl), (Nat.le_of_ble_eq_true rfl)⟩) hP hD hS hA [0, 1] [2] rfl rfl rfl (by decide) (fun r_6 u_7 H locs h_8 hP hD hS => ?_)
      subst h_8
      have hP : va_P g.1 vwCl [(aI g t2 36 wb), (oX5 t0 t1 t2 pw), (aI g t1 6 pd)] H := hP
      have hD : va_D A [(aI g t2 36 wb), (oX5 t0 t1 t2 pw), (aI g t1 6 pd)] := hD
      refine lv_goto (tgt := 29) hx hb dX5_answer_20 (by decide) ?_
      have hP := hP.sub (ws' := [(oX5 t0 t1 t2 pw), (aI g t1 6 pd), (aI g t2 36 wb)]) [1, 2, 0] rfl
      have hD := hD.sub (ws' := [(oX5 t0 t1 t2 pw), (aI g t1 6 pd), (aI g t2 36 wb)]) [1, 2, 0] (by decide) rfl
      exact he_ri hQ hx hb hr hlk hP hD hS dX5_answer_29 (Nat.le_of_ble_eq_true rfl) (Nat.le_of_ble_eq_true rfl) (()) (rfl) ((by unfold rlA; rw [if_neg (by omega), if_pos (by omega)]))
  · have k_9 : k = 6 := (he_ceq (a := k) (b := 6) rfl (by decide) (by omega) (by omega)).mp c_1
    refine lv_aload_n hx hb dX5_answer_6 rfl (lv_at hl 0 rfl) ?_
    refine he_ci (wc := [(oX5 t0 t1 t2 pw), (aI g t2 36 wb)]) (wr := [(aI g t1 6 pd)]) (va_runV (As := []) (rest := []) ⟨hx, hb, hml, hown, hts⟩ (s_X5_breachesTold l g t0 t1 t2 pw wb H.size) (cwV 0 hts gX5_answer_X5_breachesTold rfl rfl rfl (by decide +kernel) ⟨Nat.le_of_ble_eq_true rfl, Nat.le_of_ble_eq_true rfl⟩) (he_preV (wc := [(oX5 t0 t1 t2 pw), (aI g t2 36 wb)]) hK hP hD hS hA hE [0, 2] rfl rfl 0 rfl rfl) rfl rfl hl.1 rfl (lv_room (Nat.le_of_ble_eq_true rfl)) dX5_answer_7 ⟨(Nat.le_of_ble_eq_true rfl), (Nat.le_of_ble_eq_true rfl)⟩) hP hD hS hA [0, 2] [1] rfl rfl rfl (by decide) (fun r_10 u_11 H locs h_12 hP hD hS => ?_)
    subst h_12
    have hP : va_P g.1 vwCl [(aI g t1 6 pd), (oX5 t0 t1 t2 pw), (aI g t2 36 wb)] H := hP
    have hD : va_D A [(aI g t1 6 pd), (oX5 t0 t1 t2 pw), (aI g t2 36 wb)] := hD
    have hP := hP.sub (ws' := [(oX5 t0 t1 t2 pw), (aI g t1 6 pd), (aI g t2 36 wb)]) [1, 0, 2] rfl
    have hD := hD.sub (ws' := [(oX5 t0 t1 t2 pw), (aI g t1 6 pd), (aI g t2 36 wb)]) [1, 0, 2] (by decide) rfl
    exact he_ri hQ hx hb hr hlk hP hD hS dX5_answer_10 (Nat.le_of_ble_eq_true rfl) (Nat.le_of_ble_eq_true rfl) (()) (rfl) ((by unfold rlA; rw [if_pos (by omega)]))
set_option maxHeartbeats 4000000 in
set_option maxRecDepth 100000 in
theorem s_X10_told0 (l : Launch) (g : he_G) (x0 : Nat) (y0 : Nat) (z0 : Nat) (dr : Nat) (pa : Nat) (s0 : Nat) (im : Nat) (tr : Nat) (v0 : Nat) (rf : Nat) (ta : Int32) (to_ : Int32) (ki : Int32) (p0 : Nat) (p1 : Nat) (p2 : Nat) (p3 : Nat) (p4 : Nat) (w : Int32) (a0 : Nat) (b0 : Nat) (e0 : Nat) (h0 : Nat) (q0 : Nat) (q1 : Nat) (mo : Int32) (f : Nat → Int32)  : he_I l yX10_told wsX10_told 1 22 0 0 g [.ref x0, .int 0] [(oX10 x0 y0 ta z0 p0 dr pa to_ s0 im ki tr v0 rf), (oX6 p0 p1 p2 p3 p4 w), (oX8 s0 h0 a0 b0 e0), (oX4 h0 q0 q1 mo), (aI g q0 24 f)] (fun (r : Int32) (u : Unit) => r = w) (fun (u : Unit) => [(oX10 x0 y0 ta z0 p0 dr pa to_ s0 im ki tr v0 rf), (oX6 p0 p1 p2 p3 p4 w), (oX8 s0 h0 a0 b0 e0), (oX4 h0 q0 q1 mo), (aI g q0 24 f)]) := by
  refine he_begin (l := l) (g := g) (y := yX10_told) (wl := wsX10_told) (fr := 1) (lo := 22) (mc := 0) (ms := 0) (av := [.ref x0, .int 0]) (ws := [(oX10 x0 y0 ta z0 p0 dr pa to_ s0 im ki tr v0 rf), (oX6 p0 p1 p2 p3 p4 w), (oX8 s0 h0 a0 b0 e0), (oX4 h0 q0 q1 mo), (aI g q0 24 f)]) (cc := cX10_told) (maxL := 4) (ret := (some .int)) (fun A => va_Qi (fun (r : Int32) (u : Unit) => r = w) (fun u t => he_post g A ((fun (u : Unit) => [(oX10 x0 y0 ta z0 p0 dr pa to_ s0 im ki tr v0 rf), (oX6 p0 p1 p2 p3 p4 w), (oX8 s0 h0 a0 b0 e0), (oX4 h0 q0 q1 mo), (aI g q0 24 f)]) u) t) A) (by decide) rfl (Nat.le_of_ble_eq_true rfl) ?_
  intro p e s m args below meth c A ls H locs Q hQ hB
  obtain ⟨hx, hb, hr, hml, hown, hts, hlk, hin, hP, hK, hD, hS, hA, hE, hl⟩ := hB
  have hl : lv_has ls 4 [(0, .ref x0), (1, .int 0)] := hl
  have f39 := hts (.fieldLink RX10 39 "HiredEnemy" "scene" "LHiredEnemy$Scene;") (iwoX10_told (k := 0) rfl)
  have inX10 : ∀ w ∈ wsX100, w ∈ wsX10_told := innX10_told_X10
  have f66 := hts (.fieldLink RX10 66 "HiredEnemy$Scene" "course" "LHiredEnemy$Course;") (iwoX10_told (k := 1) rfl)
  have inX8 : ∀ w ∈ wsX80, w ∈ wsX10_told := innX10_told_X8
  have f111 := hts (.fieldLink RX10 111 "HiredEnemy$Course" "now" "[I") (iwoX10_told (k := 2) rfl)
  have inX4 : ∀ w ∈ wsX40, w ∈ wsX10_told := innX10_told_X4
  have f23 := hts (.fieldLink RX10 23 "HiredEnemy" "plan" "LHiredEnemy$Plan;") (iwoX10_told (k := 3) rfl)
  have f99 := hts (.fieldLink RX10 99 "HiredEnemy$Plan" "walls" "I") (iwoX10_told (k := 4) rfl)
  have inX6 : ∀ w ∈ wsX60, w ∈ wsX10_told := innX10_told_X6
  refine lv_aload_n hx hb dX10_told_0 rfl (lv_at hl 0 rfl) ?_
  refine lv_iload_n hx hb dX10_told_1 rfl (lv_at hl 1 rfl) ?_
  refine lv_iconst (v := 0) hx hb dX10_told_2 (by decide) ?_
  refine lv_iconst (v := 4) hx hb dX10_told_3 (by decide) ?_
  refine he_ci (wc := []) (wr := [(oX10 x0 y0 ta z0 p0 dr pa to_ s0 im ki tr v0 rf), (oX6 p0 p1 p2 p3 p4 w), (oX8 s0 h0 a0 b0 e0), (oX4 h0 q0 q1 mo), (aI g q0 24 f)]) (va_runS (As := [.int 0, .int 0, .int 4]) (rest := [.ref x0]) ⟨hx, hb, hml, hown, hts⟩ (c_X10_within l g 0 0 4 H.size) (va_cwS 3 hts gX10_told_X10_within rfl rfl rfl (by decide +kernel) ⟨Nat.le_of_ble_eq_true rfl, Nat.le_of_ble_eq_true rfl⟩) (he_preS (wc := []) hK hP hD hS hA hE [] rfl rfl) rfl rfl hl.1 rfl (lv_room (Nat.le_of_ble_eq_true rfl)) dX10_told_4 ⟨(Nat.le_of_ble_eq_true rfl), (Nat.le_of_ble_eq_true rfl)⟩) hP hD hS hA [] [0, 1, 2, 3, 4] rfl rfl rfl (by decide) (fun r_1 u_2 H locs h_3 hP hD hS => ?_)
  subst h_3
  have hP : va_P g.1 vwCl [(oX10 x0 y0 ta z0 p0 dr pa to_ s0 im ki tr v0 rf), (oX6 p0 p1 p2 p3 p4 w), (oX8 s0 h0 a0 b0 e0), (oX4 h0 q0 q1 mo), (aI g q0 24 f)] H := hP
  have hD : va_D A [(oX10 x0 y0 ta z0 p0 dr pa to_ s0 im ki tr v0 rf), (oX6 p0 p1 p2 p3 p4 w), (oX8 s0 h0 a0 b0 e0), (oX4 h0 q0 q1 mo), (aI g q0 24 f)] := hD
  refine he_top (1) (by decide) ?_
  refine he_cv (wc := []) (wr := [(oX10 x0 y0 ta z0 p0 dr pa to_ s0 im ki tr v0 rf), (oX6 p0 p1 p2 p3 p4 w), (oX8 s0 h0 a0 b0 e0), (oX4 h0 q0 q1 mo), (aI g q0 24 f)]) (va_runV (As := [.int 1]) (rest := []) ⟨hx, hb, hml, hown, hts⟩ (c_X10_demand1 l g x0 H.size) (cwV 1 hts gX10_told_X10_demand rfl rfl rfl (by decide +kernel) ⟨Nat.le_of_ble_eq_true rfl, Nat.le_of_ble_eq_true rfl⟩) (he_preV (wc := []) hK hP hD hS hA hE [] rfl rfl 0 rfl rfl) rfl rfl hl.1 rfl (lv_room (Nat.le_of_ble_eq_true rfl)) dX10_told_7 ⟨(Nat.le_of_ble_eq_true rfl), (Nat.le_of_ble_eq_true rfl)⟩) hP hD hS hA [] [0, 1, 2, 3, 4] rfl rfl rfl (by decide) (fun u_5 H locs h_6 hP hD hS => ?_)
  have hP : va_P g.1 vwCl [(oX10 x0 y0 ta z0 p0 dr pa to_ s0 im ki tr v0 rf), (oX6 p0 p1 p2 p3 p4 w), (oX8 s0 h0 a0 b0 e0), (oX4 h0 q0 q1 mo), (aI g q0 24 f)] H := hP
  have hD : va_D A [(oX10 x0 y0 ta z0 p0 dr pa to_ s0 im ki tr v0 rf), (oX6 p0 p1 p2 p3 p4 w), (oX8 s0 h0 a0 b0 e0), (oX4 h0 q0 q1 mo), (aI g q0 24 f)] := hD
  refine lv_aload_n hx hb dX10_told_10 rfl (lv_at hl 0 rfl) ?_
  refine va_get (v := .ref s0) (T := TX10) (N := 13) hx hb hts inX10 hown hK hP 0 rfl rfl 7 (by decide) f39 (fun _ h9 => h9) rfl dX10_told_11 ?_
  refine va_get (v := .ref h0) (T := TX8) (N := 4) hx hb hts inX8 hown hK hP 2 rfl rfl 0 (by decide) f66 (fun _ h9 => h9) rfl dX10_told_14 ?_
  refine lv_astore_n (lv' := [(2, .ref h0), (0, .ref x0), (1, .int 0)]) hx hb dX10_told_17 rfl hl (by decide) rfl (fun ls hl => ?_)
  refine lv_aload_n hx hb dX10_told_18 rfl (lv_at hl 0 rfl) ?_
  refine va_get (v := .ref q0) (T := TX4) (N := 3) hx hb hts inX4 hown hK hP 3 rfl rfl 0 (by decide) f111 (fun _ h9 => h9) rfl dX10_told_19 ?_
  refine lv_bipush (v := 10) hx hb dX10_told_22 (by decide) ?_
  refine he_iald hx hb hK hP 4 rfl (10) (by decide) (by decide) (by first | decide | assumption) (f 10) rfl dX10_told_24 ?_
  refine lv_istore_n (lv' := [(3, .int (f 10)), (2, .ref h0), (0, .ref x0), (1, .int 0)]) hx hb dX10_told_25 rfl hl (by decide) rfl (fun ls hl => ?_)
  refine lv_iload_n hx hb dX10_told_26 rfl (lv_at hl 3 rfl) ?_
  refine lv_tableIn (tgt := 56) hx hb dX10_told_27 (by decide) (by decide) rfl (by decide) ?_
  refine lv_aload_n hx hb dX10_told_56 rfl (lv_at hl 2 rfl) ?_
  refine va_get (v := .ref p0) (T := TX10) (N := 13) hx hb hts inX10 hown hK hP 0 rfl rfl 3 (by decide) f23 (fun _ h9 => h9) rfl dX10_told_57 ?_
  refine va_get (v := .int w) (T := TX6) (N := 5) hx hb hts inX6 hown hK hP 1 rfl rfl 4 (by decide) f99 (fun _ h9 => h9) rfl dX10_told_60 ?_
  exact he_ri hQ hx hb hr hlk hP hD hS dX10_told_63 (Nat.le_of_ble_eq_true rfl) (Nat.le_of_ble_eq_true rfl) (()) (rfl) (rfl)
set_option maxHeartbeats 4000000 in
set_option maxRecDepth 100000 in
theorem s_X10_told1 (l : Launch) (g : he_G) (x0 : Nat) (y0 : Nat) (z0 : Nat) (dr : Nat) (pa : Nat) (s0 : Nat) (im : Nat) (tr : Nat) (v0 : Nat) (rf : Nat) (ta : Int32) (to_ : Int32) (ki : Int32) (p0 : Nat) (p1 : Nat) (p2 : Nat) (p3 : Nat) (p4 : Nat) (w : Int32) (a0 : Nat) (b0 : Nat) (e0 : Nat) (h0 : Nat) (q0 : Nat) (q1 : Nat) (mo : Int32) (f : Nat → Int32)  : he_I l yX10_told wsX10_told 1 22 0 0 g [.ref x0, .int 1] [(oX10 x0 y0 ta z0 p0 dr pa to_ s0 im ki tr v0 rf), (oX6 p0 p1 p2 p3 p4 w), (oX8 s0 h0 a0 b0 e0), (oX4 h0 q0 q1 mo), (aI g q0 24 f)] (fun (r : Int32) (u : Unit) => r = to_) (fun (u : Unit) => [(oX10 x0 y0 ta z0 p0 dr pa to_ s0 im ki tr v0 rf), (oX6 p0 p1 p2 p3 p4 w), (oX8 s0 h0 a0 b0 e0), (oX4 h0 q0 q1 mo), (aI g q0 24 f)]) := by
  refine he_begin (l := l) (g := g) (y := yX10_told) (wl := wsX10_told) (fr := 1) (lo := 22) (mc := 0) (ms := 0) (av := [.ref x0, .int 1]) (ws := [(oX10 x0 y0 ta z0 p0 dr pa to_ s0 im ki tr v0 rf), (oX6 p0 p1 p2 p3 p4 w), (oX8 s0 h0 a0 b0 e0), (oX4 h0 q0 q1 mo), (aI g q0 24 f)]) (cc := cX10_told) (maxL := 4) (ret := (some .int)) (fun A => va_Qi (fun (r : Int32) (u : Unit) => r = to_) (fun u t => he_post g A ((fun (u : Unit) => [(oX10 x0 y0 ta z0 p0 dr pa to_ s0 im ki tr v0 rf), (oX6 p0 p1 p2 p3 p4 w), (oX8 s0 h0 a0 b0 e0), (oX4 h0 q0 q1 mo), (aI g q0 24 f)]) u) t) A) (by decide) rfl (Nat.le_of_ble_eq_true rfl) ?_
  intro p e s m args below meth c A ls H locs Q hQ hB
  obtain ⟨hx, hb, hr, hml, hown, hts, hlk, hin, hP, hK, hD, hS, hA, hE, hl⟩ := hB
  have hl : lv_has ls 4 [(0, .ref x0), (1, .int 1)] := hl
  have f39 := hts (.fieldLink RX10 39 "HiredEnemy" "scene" "LHiredEnemy$Scene;") (iwoX10_told (k := 0) rfl)
  have inX10 : ∀ w ∈ wsX100, w ∈ wsX10_told := innX10_told_X10
  have f66 := hts (.fieldLink RX10 66 "HiredEnemy$Scene" "course" "LHiredEnemy$Course;") (iwoX10_told (k := 1) rfl)
  have inX8 : ∀ w ∈ wsX80, w ∈ wsX10_told := innX10_told_X8
  have f111 := hts (.fieldLink RX10 111 "HiredEnemy$Course" "now" "[I") (iwoX10_told (k := 2) rfl)
  have inX4 : ∀ w ∈ wsX40, w ∈ wsX10_told := innX10_told_X4
  have f92 := hts (.fieldLink RX10 92 "HiredEnemy" "pactsTold" "I") (iwoX10_told (k := 5) rfl)
  refine lv_aload_n hx hb dX10_told_0 rfl (lv_at hl 0 rfl) ?_
  refine lv_iload_n hx hb dX10_told_1 rfl (lv_at hl 1 rfl) ?_
  refine lv_iconst (v := 0) hx hb dX10_told_2 (by decide) ?_
  refine lv_iconst (v := 4) hx hb dX10_told_3 (by decide) ?_
  refine he_ci (wc := []) (wr := [(oX10 x0 y0 ta z0 p0 dr pa to_ s0 im ki tr v0 rf), (oX6 p0 p1 p2 p3 p4 w), (oX8 s0 h0 a0 b0 e0), (oX4 h0 q0 q1 mo), (aI g q0 24 f)]) (va_runS (As := [.int 1, .int 0, .int 4]) (rest := [.ref x0]) ⟨hx, hb, hml, hown, hts⟩ (c_X10_within l g 1 0 4 H.size) (va_cwS 3 hts gX10_told_X10_within rfl rfl rfl (by decide +kernel) ⟨Nat.le_of_ble_eq_true rfl, Nat.le_of_ble_eq_true rfl⟩) (he_preS (wc := []) hK hP hD hS hA hE [] rfl rfl) rfl rfl hl.1 rfl (lv_room (Nat.le_of_ble_eq_true rfl)) dX10_told_4 ⟨(Nat.le_of_ble_eq_true rfl), (Nat.le_of_ble_eq_true rfl)⟩) hP hD hS hA [] [0, 1, 2, 3, 4] rfl rfl rfl (by decide) (fun r_1 u_2 H locs h_3 hP hD hS => ?_)
  subst h_3
  have hP : va_P g.1 vwCl [(oX10 x0 y0 ta z0 p0 dr pa to_ s0 im ki tr v0 rf), (oX6 p0 p1 p2 p3 p4 w), (oX8 s0 h0 a0 b0 e0), (oX4 h0 q0 q1 mo), (aI g q0 24 f)] H := hP
  have hD : va_D A [(oX10 x0 y0 ta z0 p0 dr pa to_ s0 im ki tr v0 rf), (oX6 p0 p1 p2 p3 p4 w), (oX8 s0 h0 a0 b0 e0), (oX4 h0 q0 q1 mo), (aI g q0 24 f)] := hD
  refine he_top (1) (by decide) ?_
  refine he_cv (wc := []) (wr := [(oX10 x0 y0 ta z0 p0 dr pa to_ s0 im ki tr v0 rf), (oX6 p0 p1 p2 p3 p4 w), (oX8 s0 h0 a0 b0 e0), (oX4 h0 q0 q1 mo), (aI g q0 24 f)]) (va_runV (As := [.int 1]) (rest := []) ⟨hx, hb, hml, hown, hts⟩ (c_X10_demand1 l g x0 H.size) (cwV 1 hts gX10_told_X10_demand rfl rfl rfl (by decide +kernel) ⟨Nat.le_of_ble_eq_true rfl, Nat.le_of_ble_eq_true rfl⟩) (he_preV (wc := []) hK hP hD hS hA hE [] rfl rfl 0 rfl rfl) rfl rfl hl.1 rfl (lv_room (Nat.le_of_ble_eq_true rfl)) dX10_told_7 ⟨(Nat.le_of_ble_eq_true rfl), (Nat.le_of_ble_eq_true rfl)⟩) hP hD hS hA [] [0, 1, 2, 3, 4] rfl rfl rfl (by decide) (fun u_5 H locs h_6 hP hD hS => ?_)
  have hP : va_P g.1 vwCl [(oX10 x0 y0 ta z0 p0 dr pa to_ s0 im ki tr v0 rf), (oX6 p0 p1 p2 p3 p4 w), (oX8 s0 h0 a0 b0 e0), (oX4 h0 q0 q1 mo), (aI g q0 24 f)] H := hP
  have hD : va_D A [(oX10 x0 y0 ta z0 p0 dr pa to_ s0 im ki tr v0 rf), (oX6 p0 p1 p2 p3 p4 w), (oX8 s0 h0 a0 b0 e0), (oX4 h0 q0 q1 mo), (aI g q0 24 f)] := hD
  refine lv_aload_n hx hb dX10_told_10 rfl (lv_at hl 0 rfl) ?_
  refine va_get (v := .ref s0) (T := TX10) (N := 13) hx hb hts inX10 hown hK hP 0 rfl rfl 7 (by decide) f39 (fun _ h9 => h9) rfl dX10_told_11 ?_
  refine va_get (v := .ref h0) (T := TX8) (N := 4) hx hb hts inX8 hown hK hP 2 rfl rfl 0 (by decide) f66 (fun _ h9 => h9) rfl dX10_told_14 ?_
  refine lv_astore_n (lv' := [(2, .ref h0), (0, .ref x0), (1, .int 1)]) hx hb dX10_told_17 rfl hl (by decide) rfl (fun ls hl => ?_)
  refine lv_aload_n hx hb dX10_told_18 rfl (lv_at hl 0 rfl) ?_
  refine va_get (v := .ref q0) (T := TX4) (N := 3) hx hb hts inX4 hown hK hP 3 rfl rfl 0 (by decide) f111 (fun _ h9 => h9) rfl dX10_told_19 ?_
  refine lv_bipush (v := 10) hx hb dX10_told_22 (by decide) ?_
  refine he_iald hx hb hK hP 4 rfl (10) (by decide) (by decide) (by first | decide | assumption) (f 10) rfl dX10_told_24 ?_
  refine lv_istore_n (lv' := [(3, .int (f 10)), (2, .ref h0), (0, .ref x0), (1, .int 1)]) hx hb dX10_told_25 rfl hl (by decide) rfl (fun ls hl => ?_)
  refine lv_iload_n hx hb dX10_told_26 rfl (lv_at hl 3 rfl) ?_
  refine lv_tableIn (tgt := 64) hx hb dX10_told_27 (by decide) (by decide) rfl (by decide) ?_
  refine lv_aload_n hx hb dX10_told_64 rfl (lv_at hl 2 rfl) ?_
  refine va_get (v := .int to_) (T := TX10) (N := 13) hx hb hts inX10 hown hK hP 0 rfl rfl 6 (by decide) f92 (fun _ h9 => h9) rfl dX10_told_65 ?_
  exact he_ri hQ hx hb hr hlk hP hD hS dX10_told_68 (Nat.le_of_ble_eq_true rfl) (Nat.le_of_ble_eq_true rfl) (()) (rfl) (rfl)
set_option maxHeartbeats 4000000 in
set_option maxRecDepth 100000 in
theorem s_X10_told2 (l : Launch) (g : he_G) (x0 : Nat) (y0 : Nat) (z0 : Nat) (dr : Nat) (pa : Nat) (s0 : Nat) (im : Nat) (tr : Nat) (v0 : Nat) (rf : Nat) (ta : Int32) (to_ : Int32) (ki : Int32) (p0 : Nat) (p1 : Nat) (p2 : Nat) (p3 : Nat) (p4 : Nat) (w : Int32) (a0 : Nat) (b0 : Nat) (e0 : Nat) (h0 : Nat) (q0 : Nat) (q1 : Nat) (mo : Int32) (f : Nat → Int32)  : he_I l yX10_told wsX10_told 1 22 0 0 g [.ref x0, .int 2] [(oX10 x0 y0 ta z0 p0 dr pa to_ s0 im ki tr v0 rf), (oX6 p0 p1 p2 p3 p4 w), (oX8 s0 h0 a0 b0 e0), (oX4 h0 q0 q1 mo), (aI g q0 24 f)] (fun (r : Int32) (u : Unit) => r = mo) (fun (u : Unit) => [(oX10 x0 y0 ta z0 p0 dr pa to_ s0 im ki tr v0 rf), (oX6 p0 p1 p2 p3 p4 w), (oX8 s0 h0 a0 b0 e0), (oX4 h0 q0 q1 mo), (aI g q0 24 f)]) := by
  refine he_begin (l := l) (g := g) (y := yX10_told) (wl := wsX10_told) (fr := 1) (lo := 22) (mc := 0) (ms := 0) (av := [.ref x0, .int 2]) (ws := [(oX10 x0 y0 ta z0 p0 dr pa to_ s0 im ki tr v0 rf), (oX6 p0 p1 p2 p3 p4 w), (oX8 s0 h0 a0 b0 e0), (oX4 h0 q0 q1 mo), (aI g q0 24 f)]) (cc := cX10_told) (maxL := 4) (ret := (some .int)) (fun A => va_Qi (fun (r : Int32) (u : Unit) => r = mo) (fun u t => he_post g A ((fun (u : Unit) => [(oX10 x0 y0 ta z0 p0 dr pa to_ s0 im ki tr v0 rf), (oX6 p0 p1 p2 p3 p4 w), (oX8 s0 h0 a0 b0 e0), (oX4 h0 q0 q1 mo), (aI g q0 24 f)]) u) t) A) (by decide) rfl (Nat.le_of_ble_eq_true rfl) ?_
  intro p e s m args below meth c A ls H locs Q hQ hB
  obtain ⟨hx, hb, hr, hml, hown, hts, hlk, hin, hP, hK, hD, hS, hA, hE, hl⟩ := hB
  have hl : lv_has ls 4 [(0, .ref x0), (1, .int 2)] := hl
  have f39 := hts (.fieldLink RX10 39 "HiredEnemy" "scene" "LHiredEnemy$Scene;") (iwoX10_told (k := 0) rfl)
  have inX10 : ∀ w ∈ wsX100, w ∈ wsX10_told := innX10_told_X10
  have f66 := hts (.fieldLink RX10 66 "HiredEnemy$Scene" "course" "LHiredEnemy$Course;") (iwoX10_told (k := 1) rfl)
  have inX8 : ∀ w ∈ wsX80, w ∈ wsX10_told := innX10_told_X8
  have f111 := hts (.fieldLink RX10 111 "HiredEnemy$Course" "now" "[I") (iwoX10_told (k := 2) rfl)
  have inX4 : ∀ w ∈ wsX40, w ∈ wsX10_told := innX10_told_X4
  have f114 := hts (.fieldLink RX10 114 "HiredEnemy$Course" "month" "I") (iwoX10_told (k := 6) rfl)
  refine lv_aload_n hx hb dX10_told_0 rfl (lv_at hl 0 rfl) ?_
  refine lv_iload_n hx hb dX10_told_1 rfl (lv_at hl 1 rfl) ?_
  refine lv_iconst (v := 0) hx hb dX10_told_2 (by decide) ?_
  refine lv_iconst (v := 4) hx hb dX10_told_3 (by decide) ?_
  refine he_ci (wc := []) (wr := [(oX10 x0 y0 ta z0 p0 dr pa to_ s0 im ki tr v0 rf), (oX6 p0 p1 p2 p3 p4 w), (oX8 s0 h0 a0 b0 e0), (oX4 h0 q0 q1 mo), (aI g q0 24 f)]) (va_runS (As := [.int 2, .int 0, .int 4]) (rest := [.ref x0]) ⟨hx, hb, hml, hown, hts⟩ (c_X10_within l g 2 0 4 H.size) (va_cwS 3 hts gX10_told_X10_within rfl rfl rfl (by decide +kernel) ⟨Nat.le_of_ble_eq_true rfl, Nat.le_of_ble_eq_true rfl⟩) (he_preS (wc := []) hK hP hD hS hA hE [] rfl rfl) rfl rfl hl.1 rfl (lv_room (Nat.le_of_ble_eq_true rfl)) dX10_told_4 ⟨(Nat.le_of_ble_eq_true rfl), (Nat.le_of_ble_eq_true rfl)⟩) hP hD hS hA [] [0, 1, 2, 3, 4] rfl rfl rfl (by decide) (fun r_1 u_2 H locs h_3 hP hD hS => ?_)
  subst h_3
  have hP : va_P g.1 vwCl [(oX10 x0 y0 ta z0 p0 dr pa to_ s0 im ki tr v0 rf), (oX6 p0 p1 p2 p3 p4 w), (oX8 s0 h0 a0 b0 e0), (oX4 h0 q0 q1 mo), (aI g q0 24 f)] H := hP
  have hD : va_D A [(oX10 x0 y0 ta z0 p0 dr pa to_ s0 im ki tr v0 rf), (oX6 p0 p1 p2 p3 p4 w), (oX8 s0 h0 a0 b0 e0), (oX4 h0 q0 q1 mo), (aI g q0 24 f)] := hD
  refine he_top (1) (by decide) ?_
  refine he_cv (wc := []) (wr := [(oX10 x0 y0 ta z0 p0 dr pa to_ s0 im ki tr v0 rf), (oX6 p0 p1 p2 p3 p4 w), (oX8 s0 h0 a0 b0 e0), (oX4 h0 q0 q1 mo), (aI g q0 24 f)]) (va_runV (As := [.int 1]) (rest := []) ⟨hx, hb, hml, hown, hts⟩ (c_X10_demand1 l g x0 H.size) (cwV 1 hts gX10_told_X10_demand rfl rfl rfl (by decide +kernel) ⟨Nat.le_of_ble_eq_true rfl, Nat.le_of_ble_eq_true rfl⟩) (he_preV (wc := []) hK hP hD hS hA hE [] rfl rfl 0 rfl rfl) rfl rfl hl.1 rfl (lv_room (Nat.le_of_ble_eq_true rfl)) dX10_told_7 ⟨(Nat.le_of_ble_eq_true rfl), (Nat.le_of_ble_eq_true rfl)⟩) hP hD hS hA [] [0, 1, 2, 3, 4] rfl rfl rfl (by decide) (fun u_5 H locs h_6 hP hD hS => ?_)
  have hP : va_P g.1 vwCl [(oX10 x0 y0 ta z0 p0 dr pa to_ s0 im ki tr v0 rf), (oX6 p0 p1 p2 p3 p4 w), (oX8 s0 h0 a0 b0 e0), (oX4 h0 q0 q1 mo), (aI g q0 24 f)] H := hP
  have hD : va_D A [(oX10 x0 y0 ta z0 p0 dr pa to_ s0 im ki tr v0 rf), (oX6 p0 p1 p2 p3 p4 w), (oX8 s0 h0 a0 b0 e0), (oX4 h0 q0 q1 mo), (aI g q0 24 f)] := hD
  refine lv_aload_n hx hb dX10_told_10 rfl (lv_at hl 0 rfl) ?_
  refine va_get (v := .ref s0) (T := TX10) (N := 13) hx hb hts inX10 hown hK hP 0 rfl rfl 7 (by decide) f39 (fun _ h9 => h9) rfl dX10_told_11 ?_
  refine va_get (v := .ref h0) (T := TX8) (N := 4) hx hb hts inX8 hown hK hP 2 rfl rfl 0 (by decide) f66 (fun _ h9 => h9) rfl dX10_told_14 ?_
  refine lv_astore_n (lv' := [(2, .ref h0), (0, .ref x0), (1, .int 2)]) hx hb dX10_told_17 rfl hl (by decide) rfl (fun ls hl => ?_)
  refine lv_aload_n hx hb dX10_told_18 rfl (lv_at hl 0 rfl) ?_
  refine va_get (v := .ref q0) (T := TX4) (N := 3) hx hb hts inX4 hown hK hP 3 rfl rfl 0 (by decide) f111 (fun _ h9 => h9) rfl dX10_told_19 ?_
  refine lv_bipush (v := 10) hx hb dX10_told_22 (by decide) ?_
  refine he_iald hx hb hK hP 4 rfl (10) (by decide) (by decide) (by first | decide | assumption) (f 10) rfl dX10_told_24 ?_
  refine lv_istore_n (lv' := [(3, .int (f 10)), (2, .ref h0), (0, .ref x0), (1, .int 2)]) hx hb dX10_told_25 rfl hl (by decide) rfl (fun ls hl => ?_)
  refine lv_iload_n hx hb dX10_told_26 rfl (lv_at hl 3 rfl) ?_
  refine lv_tableIn (tgt := 69) hx hb dX10_told_27 (by decide) (by decide) rfl (by decide) ?_
  refine lv_aload_n hx hb dX10_told_69 rfl (lv_at hl 1 rfl) ?_
  refine va_get (v := .int mo) (T := TX4) (N := 3) hx hb hts inX4 hown hK hP 3 rfl rfl 2 (by decide) f114 (fun _ h9 => h9) rfl dX10_told_70 ?_
  exact he_ri hQ hx hb hr hlk hP hD hS dX10_told_73 (Nat.le_of_ble_eq_true rfl) (Nat.le_of_ble_eq_true rfl) (()) (rfl) (rfl)
set_option maxHeartbeats 4000000 in
set_option maxRecDepth 100000 in
theorem s_X10_told3 (l : Launch) (g : he_G) (x0 : Nat) (y0 : Nat) (z0 : Nat) (dr : Nat) (pa : Nat) (s0 : Nat) (im : Nat) (tr : Nat) (v0 : Nat) (rf : Nat) (ta : Int32) (to_ : Int32) (ki : Int32) (p0 : Nat) (p1 : Nat) (p2 : Nat) (p3 : Nat) (p4 : Nat) (w : Int32) (a0 : Nat) (b0 : Nat) (e0 : Nat) (h0 : Nat) (q0 : Nat) (q1 : Nat) (mo : Int32) (f : Nat → Int32)  : he_I l yX10_told wsX10_told 1 22 0 0 g [.ref x0, .int 3] [(oX10 x0 y0 ta z0 p0 dr pa to_ s0 im ki tr v0 rf), (oX6 p0 p1 p2 p3 p4 w), (oX8 s0 h0 a0 b0 e0), (oX4 h0 q0 q1 mo), (aI g q0 24 f)] (fun (r : Int32) (u : Unit) => r = f 10) (fun (u : Unit) => [(oX10 x0 y0 ta z0 p0 dr pa to_ s0 im ki tr v0 rf), (oX6 p0 p1 p2 p3 p4 w), (oX8 s0 h0 a0 b0 e0), (oX4 h0 q0 q1 mo), (aI g q0 24 f)]) := by
  refine he_begin (l := l) (g := g) (y := yX10_told) (wl := wsX10_told) (fr := 1) (lo := 22) (mc := 0) (ms := 0) (av := [.ref x0, .int 3]) (ws := [(oX10 x0 y0 ta z0 p0 dr pa to_ s0 im ki tr v0 rf), (oX6 p0 p1 p2 p3 p4 w), (oX8 s0 h0 a0 b0 e0), (oX4 h0 q0 q1 mo), (aI g q0 24 f)]) (cc := cX10_told) (maxL := 4) (ret := (some .int)) (fun A => va_Qi (fun (r : Int32) (u : Unit) => r = f 10) (fun u t => he_post g A ((fun (u : Unit) => [(oX10 x0 y0 ta z0 p0 dr pa to_ s0 im ki tr v0 rf), (oX6 p0 p1 p2 p3 p4 w), (oX8 s0 h0 a0 b0 e0), (oX4 h0 q0 q1 mo), (aI g q0 24 f)]) u) t) A) (by decide) rfl (Nat.le_of_ble_eq_true rfl) ?_
  intro p e s m args below meth c A ls H locs Q hQ hB
  obtain ⟨hx, hb, hr, hml, hown, hts, hlk, hin, hP, hK, hD, hS, hA, hE, hl⟩ := hB
  have hl : lv_has ls 4 [(0, .ref x0), (1, .int 3)] := hl
  have f39 := hts (.fieldLink RX10 39 "HiredEnemy" "scene" "LHiredEnemy$Scene;") (iwoX10_told (k := 0) rfl)
  have inX10 : ∀ w ∈ wsX100, w ∈ wsX10_told := innX10_told_X10
  have f66 := hts (.fieldLink RX10 66 "HiredEnemy$Scene" "course" "LHiredEnemy$Course;") (iwoX10_told (k := 1) rfl)
  have inX8 : ∀ w ∈ wsX80, w ∈ wsX10_told := innX10_told_X8
  have f111 := hts (.fieldLink RX10 111 "HiredEnemy$Course" "now" "[I") (iwoX10_told (k := 2) rfl)
  have inX4 : ∀ w ∈ wsX40, w ∈ wsX10_told := innX10_told_X4
  refine lv_aload_n hx hb dX10_told_0 rfl (lv_at hl 0 rfl) ?_
  refine lv_iload_n hx hb dX10_told_1 rfl (lv_at hl 1 rfl) ?_
  refine lv_iconst (v := 0) hx hb dX10_told_2 (by decide) ?_
  refine lv_iconst (v := 4) hx hb dX10_told_3 (by decide) ?_
  refine he_ci (wc := []) (wr := [(oX10 x0 y0 ta z0 p0 dr pa to_ s0 im ki tr v0 rf), (oX6 p0 p1 p2 p3 p4 w), (oX8 s0 h0 a0 b0 e0), (oX4 h0 q0 q1 mo), (aI g q0 24 f)]) (va_runS (As := [.int 3, .int 0, .int 4]) (rest := [.ref x0]) ⟨hx, hb, hml, hown, hts⟩ (c_X10_within l g 3 0 4 H.size) (va_cwS 3 hts gX10_told_X10_within rfl rfl rfl (by decide +kernel) ⟨Nat.le_of_ble_eq_true rfl, Nat.le_of_ble_eq_true rfl⟩) (he_preS (wc := []) hK hP hD hS hA hE [] rfl rfl) rfl rfl hl.1 rfl (lv_room (Nat.le_of_ble_eq_true rfl)) dX10_told_4 ⟨(Nat.le_of_ble_eq_true rfl), (Nat.le_of_ble_eq_true rfl)⟩) hP hD hS hA [] [0, 1, 2, 3, 4] rfl rfl rfl (by decide) (fun r_1 u_2 H locs h_3 hP hD hS => ?_)
  subst h_3
  have hP : va_P g.1 vwCl [(oX10 x0 y0 ta z0 p0 dr pa to_ s0 im ki tr v0 rf), (oX6 p0 p1 p2 p3 p4 w), (oX8 s0 h0 a0 b0 e0), (oX4 h0 q0 q1 mo), (aI g q0 24 f)] H := hP
  have hD : va_D A [(oX10 x0 y0 ta z0 p0 dr pa to_ s0 im ki tr v0 rf), (oX6 p0 p1 p2 p3 p4 w), (oX8 s0 h0 a0 b0 e0), (oX4 h0 q0 q1 mo), (aI g q0 24 f)] := hD
  refine he_top (1) (by decide) ?_
  refine he_cv (wc := []) (wr := [(oX10 x0 y0 ta z0 p0 dr pa to_ s0 im ki tr v0 rf), (oX6 p0 p1 p2 p3 p4 w), (oX8 s0 h0 a0 b0 e0), (oX4 h0 q0 q1 mo), (aI g q0 24 f)]) (va_runV (As := [.int 1]) (rest := []) ⟨hx, hb, hml, hown, hts⟩ (c_X10_demand1 l g x0 H.size) (cwV 1 hts gX10_told_X10_demand rfl rfl rfl (by decide +kernel) ⟨Nat.le_of_ble_eq_true rfl, Nat.le_of_ble_eq_true rfl⟩) (he_preV (wc := []) hK hP hD hS hA hE [] rfl rfl 0 rfl rfl) rfl rfl hl.1 rfl (lv_room (Nat.le_of_ble_eq_true rfl)) dX10_told_7 ⟨(Nat.le_of_ble_eq_true rfl), (Nat.le_of_ble_eq_true rfl)⟩) hP hD hS hA [] [0, 1, 2, 3, 4] rfl rfl rfl (by decide) (fun u_5 H locs h_6 hP hD hS => ?_)
  have hP : va_P g.1 vwCl [(oX10 x0 y0 ta z0 p0 dr pa to_ s0 im ki tr v0 rf), (oX6 p0 p1 p2 p3 p4 w), (oX8 s0 h0 a0 b0 e0), (oX4 h0 q0 q1 mo), (aI g q0 24 f)] H := hP
  have hD : va_D A [(oX10 x0 y0 ta z0 p0 dr pa to_ s0 im ki tr v0 rf), (oX6 p0 p1 p2 p3 p4 w), (oX8 s0 h0 a0 b0 e0), (oX4 h0 q0 q1 mo), (aI g q0 24 f)] := hD
  refine lv_aload_n hx hb dX10_told_10 rfl (lv_at hl 0 rfl) ?_
  refine va_get (v := .ref s0) (T := TX10) (N := 13) hx hb hts inX10 hown hK hP 0 rfl rfl 7 (by decide) f39 (fun _ h9 => h9) rfl dX10_told_11 ?_
  refine va_get (v := .ref h0) (T := TX8) (N := 4) hx hb hts inX8 hown hK hP 2 rfl rfl 0 (by decide) f66 (fun _ h9 => h9) rfl dX10_told_14 ?_
  refine lv_astore_n (lv' := [(2, .ref h0), (0, .ref x0), (1, .int 3)]) hx hb dX10_told_17 rfl hl (by decide) rfl (fun ls hl => ?_)
  refine lv_aload_n hx hb dX10_told_18 rfl (lv_at hl 0 rfl) ?_
  refine va_get (v := .ref q0) (T := TX4) (N := 3) hx hb hts inX4 hown hK hP 3 rfl rfl 0 (by decide) f111 (fun _ h9 => h9) rfl dX10_told_19 ?_
  refine lv_bipush (v := 10) hx hb dX10_told_22 (by decide) ?_
  refine he_iald hx hb hK hP 4 rfl (10) (by decide) (by decide) (by first | decide | assumption) (f 10) rfl dX10_told_24 ?_
  refine lv_istore_n (lv' := [(3, .int (f 10)), (2, .ref h0), (0, .ref x0), (1, .int 3)]) hx hb dX10_told_25 rfl hl (by decide) rfl (fun ls hl => ?_)
  refine lv_iload_n hx hb dX10_told_26 rfl (lv_at hl 3 rfl) ?_
  refine lv_tableIn (tgt := 74) hx hb dX10_told_27 (by decide) (by decide) rfl (by decide) ?_
  refine lv_iload_n hx hb dX10_told_74 rfl (lv_at hl 0 rfl) ?_
  exact he_ri hQ hx hb hr hlk hP hD hS dX10_told_75 (Nat.le_of_ble_eq_true rfl) (Nat.le_of_ble_eq_true rfl) (()) (rfl) (rfl)
set_option maxHeartbeats 4000000 in
set_option maxRecDepth 100000 in
theorem s_X10_told4 (l : Launch) (g : he_G) (x0 : Nat) (y0 : Nat) (z0 : Nat) (dr : Nat) (pa : Nat) (s0 : Nat) (im : Nat) (tr : Nat) (v0 : Nat) (rf : Nat) (ta : Int32) (to_ : Int32) (ki : Int32) (p0 : Nat) (p1 : Nat) (p2 : Nat) (p3 : Nat) (p4 : Nat) (w : Int32) (a0 : Nat) (b0 : Nat) (e0 : Nat) (h0 : Nat) (q0 : Nat) (q1 : Nat) (mo : Int32) (f : Nat → Int32)  : he_I l yX10_told wsX10_told 1 22 0 0 g [.ref x0, .int 4] [(oX10 x0 y0 ta z0 p0 dr pa to_ s0 im ki tr v0 rf), (oX6 p0 p1 p2 p3 p4 w), (oX8 s0 h0 a0 b0 e0), (oX4 h0 q0 q1 mo), (aI g q0 24 f)] (fun (r : Int32) (u : Unit) => r = if f 10 = -1 then -1 else mo - f 11) (fun (u : Unit) => [(oX10 x0 y0 ta z0 p0 dr pa to_ s0 im ki tr v0 rf), (oX6 p0 p1 p2 p3 p4 w), (oX8 s0 h0 a0 b0 e0), (oX4 h0 q0 q1 mo), (aI g q0 24 f)]) := by
  refine he_begin (l := l) (g := g) (y := yX10_told) (wl := wsX10_told) (fr := 1) (lo := 22) (mc := 0) (ms := 0) (av := [.ref x0, .int 4]) (ws := [(oX10 x0 y0 ta z0 p0 dr pa to_ s0 im ki tr v0 rf), (oX6 p0 p1 p2 p3 p4 w), (oX8 s0 h0 a0 b0 e0), (oX4 h0 q0 q1 mo), (aI g q0 24 f)]) (cc := cX10_told) (maxL := 4) (ret := (some .int)) (fun A => va_Qi (fun (r : Int32) (u : Unit) => r = if f 10 = -1 then -1 else mo - f 11) (fun u t => he_post g A ((fun (u : Unit) => [(oX10 x0 y0 ta z0 p0 dr pa to_ s0 im ki tr v0 rf), (oX6 p0 p1 p2 p3 p4 w), (oX8 s0 h0 a0 b0 e0), (oX4 h0 q0 q1 mo), (aI g q0 24 f)]) u) t) A) (by decide) rfl (Nat.le_of_ble_eq_true rfl) ?_
  intro p e s m args below meth c A ls H locs Q hQ hB
  obtain ⟨hx, hb, hr, hml, hown, hts, hlk, hin, hP, hK, hD, hS, hA, hE, hl⟩ := hB
  have hl : lv_has ls 4 [(0, .ref x0), (1, .int 4)] := hl
  have f39 := hts (.fieldLink RX10 39 "HiredEnemy" "scene" "LHiredEnemy$Scene;") (iwoX10_told (k := 0) rfl)
  have inX10 : ∀ w ∈ wsX100, w ∈ wsX10_told := innX10_told_X10
  have f66 := hts (.fieldLink RX10 66 "HiredEnemy$Scene" "course" "LHiredEnemy$Course;") (iwoX10_told (k := 1) rfl)
  have inX8 : ∀ w ∈ wsX80, w ∈ wsX10_told := innX10_told_X8
  have f111 := hts (.fieldLink RX10 111 "HiredEnemy$Course" "now" "[I") (iwoX10_told (k := 2) rfl)
  have inX4 : ∀ w ∈ wsX40, w ∈ wsX10_told := innX10_told_X4
  have f114 := hts (.fieldLink RX10 114 "HiredEnemy$Course" "month" "I") (iwoX10_told (k := 6) rfl)
  refine lv_aload_n hx hb dX10_told_0 rfl (lv_at hl 0 rfl) ?_
  refine lv_iload_n hx hb dX10_told_1 rfl (lv_at hl 1 rfl) ?_
  refine lv_iconst (v := 0) hx hb dX10_told_2 (by decide) ?_
  refine lv_iconst (v := 4) hx hb dX10_told_3 (by decide) ?_
  refine he_ci (wc := []) (wr := [(oX10 x0 y0 ta z0 p0 dr pa to_ s0 im ki tr v0 rf), (oX6 p0 p1 p2 p3 p4 w), (oX8 s0 h0 a0 b0 e0), (oX4 h0 q0 q1 mo), (aI g q0 24 f)]) (va_runS (As := [.int 4, .int 0, .int 4]) (rest := [.ref x0]) ⟨hx, hb, hml, hown, hts⟩ (c_X10_within l g 4 0 4 H.size) (va_cwS 3 hts gX10_told_X10_within rfl rfl rfl (by decide +kernel) ⟨Nat.le_of_ble_eq_true rfl, Nat.le_of_ble_eq_true rfl⟩) (he_preS (wc := []) hK hP hD hS hA hE [] rfl rfl) rfl rfl hl.1 rfl (lv_room (Nat.le_of_ble_eq_true rfl)) dX10_told_4 ⟨(Nat.le_of_ble_eq_true rfl), (Nat.le_of_ble_eq_true rfl)⟩) hP hD hS hA [] [0, 1, 2, 3, 4] rfl rfl rfl (by decide) (fun r_1 u_2 H locs h_3 hP hD hS => ?_)
  subst h_3
  have hP : va_P g.1 vwCl [(oX10 x0 y0 ta z0 p0 dr pa to_ s0 im ki tr v0 rf), (oX6 p0 p1 p2 p3 p4 w), (oX8 s0 h0 a0 b0 e0), (oX4 h0 q0 q1 mo), (aI g q0 24 f)] H := hP
  have hD : va_D A [(oX10 x0 y0 ta z0 p0 dr pa to_ s0 im ki tr v0 rf), (oX6 p0 p1 p2 p3 p4 w), (oX8 s0 h0 a0 b0 e0), (oX4 h0 q0 q1 mo), (aI g q0 24 f)] := hD
  refine he_top (1) (by decide) ?_
  refine he_cv (wc := []) (wr := [(oX10 x0 y0 ta z0 p0 dr pa to_ s0 im ki tr v0 rf), (oX6 p0 p1 p2 p3 p4 w), (oX8 s0 h0 a0 b0 e0), (oX4 h0 q0 q1 mo), (aI g q0 24 f)]) (va_runV (As := [.int 1]) (rest := []) ⟨hx, hb, hml, hown, hts⟩ (c_X10_demand1 l g x0 H.size) (cwV 1 hts gX10_told_X10_demand rfl rfl rfl (by decide +kernel) ⟨Nat.le_of_ble_eq_true rfl, Nat.le_of_ble_eq_true rfl⟩) (he_preV (wc := []) hK hP hD hS hA hE [] rfl rfl 0 rfl rfl) rfl rfl hl.1 rfl (lv_room (Nat.le_of_ble_eq_true rfl)) dX10_told_7 ⟨(Nat.le_of_ble_eq_true rfl), (Nat.le_of_ble_eq_true rfl)⟩) hP hD hS hA [] [0, 1, 2, 3, 4] rfl rfl rfl (by decide) (fun u_5 H locs h_6 hP hD hS => ?_)
  have hP : va_P g.1 vwCl [(oX10 x0 y0 ta z0 p0 dr pa to_ s0 im ki tr v0 rf), (oX6 p0 p1 p2 p3 p4 w), (oX8 s0 h0 a0 b0 e0), (oX4 h0 q0 q1 mo), (aI g q0 24 f)] H := hP
  have hD : va_D A [(oX10 x0 y0 ta z0 p0 dr pa to_ s0 im ki tr v0 rf), (oX6 p0 p1 p2 p3 p4 w), (oX8 s0 h0 a0 b0 e0), (oX4 h0 q0 q1 mo), (aI g q0 24 f)] := hD
  refine lv_aload_n hx hb dX10_told_10 rfl (lv_at hl 0 rfl) ?_
  refine va_get (v := .ref s0) (T := TX10) (N := 13) hx hb hts inX10 hown hK hP 0 rfl rfl 7 (by decide) f39 (fun _ h9 => h9) rfl dX10_told_11 ?_
  refine va_get (v := .ref h0) (T := TX8) (N := 4) hx hb hts inX8 hown hK hP 2 rfl rfl 0 (by decide) f66 (fun _ h9 => h9) rfl dX10_told_14 ?_
  refine lv_astore_n (lv' := [(2, .ref h0), (0, .ref x0), (1, .int 4)]) hx hb dX10_told_17 rfl hl (by decide) rfl (fun ls hl => ?_)
  refine lv_aload_n hx hb dX10_told_18 rfl (lv_at hl 0 rfl) ?_
  refine va_get (v := .ref q0) (T := TX4) (N := 3) hx hb hts inX4 hown hK hP 3 rfl rfl 0 (by decide) f111 (fun _ h9 => h9) rfl dX10_told_19 ?_
  refine lv_bipush (v := 10) hx hb dX10_told_22 (by decide) ?_
  refine he_iald hx hb hK hP 4 rfl (10) (by decide) (by decide) (by first | decide | assumption) (f 10) rfl dX10_told_24 ?_
  refine lv_istore_n (lv' := [(3, .int (f 10)), (2, .ref h0), (0, .ref x0), (1, .int 4)]) hx hb dX10_told_25 rfl hl (by decide) rfl (fun ls hl => ?_)
  refine lv_iload_n hx hb dX10_told_26 rfl (lv_at hl 3 rfl) ?_
  refine lv_tableOut (tgt := 76) hx hb dX10_told_27 (by decide) (by decide) ?_
  refine lv_iload_n hx hb dX10_told_76 rfl (lv_at hl 0 rfl) ?_
  refine lv_iconst (v := (-1)) hx hb dX10_told_77 (by decide) ?_
  refine lv_icmp_ne (tgt := 85) hx hb dX10_told_78 (by decide) (fun c_7 => ?_) (fun c_7 => ?_)
  · refine lv_aload_n hx hb dX10_told_85 rfl (lv_at hl 1 rfl) ?_
    refine va_get (v := .int mo) (T := TX4) (N := 3) hx hb hts inX4 hown hK hP 3 rfl rfl 2 (by decide) f114 (fun _ h9 => h9) rfl dX10_told_86 ?_
    refine lv_aload_n hx hb dX10_told_89 rfl (lv_at hl 1 rfl) ?_
    refine va_get (v := .ref q0) (T := TX4) (N := 3) hx hb hts inX4 hown hK hP 3 rfl rfl 0 (by decide) f111 (fun _ h9 => h9) rfl dX10_told_90 ?_
    refine lv_bipush (v := 11) hx hb dX10_told_93 (by decide) ?_
    refine he_iald hx hb hK hP 4 rfl (11) (by decide) (by decide) (by first | decide | assumption) (f 11) rfl dX10_told_95 ?_
    refine lv_isub hx hb dX10_told_96 ?_
    exact he_ri hQ hx hb hr hlk hP hD hS dX10_told_97 (Nat.le_of_ble_eq_true rfl) (Nat.le_of_ble_eq_true rfl) (()) (rfl) ((by rw [if_neg c_7]))
  · refine lv_iconst (v := (-1)) hx hb dX10_told_81 (by decide) ?_
    refine lv_goto (tgt := 97) hx hb dX10_told_82 (by decide) ?_
    exact he_ri hQ hx hb hr hlk hP hD hS dX10_told_97 (Nat.le_of_ble_eq_true rfl) (Nat.le_of_ble_eq_true rfl) (()) (rfl) ((by rw [if_pos c_7]))
set_option maxHeartbeats 4000000 in
set_option maxRecDepth 100000 in
theorem s_X10_wall0 (l : Launch) (g : he_G) (x0 : Nat) (y0 : Nat) (z0 : Nat) (dr : Nat) (pa : Nat) (s0 : Nat) (im : Nat) (tr : Nat) (v0 : Nat) (rf : Nat) (ta : Int32) (to_ : Int32) (ki : Int32) (p0 : Nat) (p1 : Nat) (p2 : Nat) (p3 : Nat) (p4 : Nat) (w : Nat) (st : Nat → Int32) (me : Nat → Int32) (a0 : Nat) (b0 : Nat) (e0 : Nat) (h0 : Nat) (q0 : Nat) (q1 : Nat) (mo : Int32) (f : Nat → Int32) (j : Nat) (hw6 : w ≤ 6) (hj : j < w) : he_I l yX10_wall wsX10_wall 2 43 0 0 g [.ref x0, .int (nI j), .int 0] [(oX10 x0 y0 ta z0 p0 dr pa to_ s0 im ki tr v0 rf), (oX6 p0 p1 p2 p3 p4 (nI w)), (aI g p3 6 st), (aI g p4 6 me), (oX8 s0 h0 a0 b0 e0), (oX4 h0 q0 q1 mo), (aI g q0 24 f)] (fun (r : Int32) (u : Unit) => r = st j) (fun (u : Unit) => [(oX10 x0 y0 ta z0 p0 dr pa to_ s0 im ki tr v0 rf), (oX6 p0 p1 p2 p3 p4 (nI w)), (aI g p3 6 st), (aI g p4 6 me), (oX8 s0 h0 a0 b0 e0), (oX4 h0 q0 q1 mo), (aI g q0 24 f)]) := by
  refine he_begin (l := l) (g := g) (y := yX10_wall) (wl := wsX10_wall) (fr := 2) (lo := 43) (mc := 0) (ms := 0) (av := [.ref x0, .int (nI j), .int 0]) (ws := [(oX10 x0 y0 ta z0 p0 dr pa to_ s0 im ki tr v0 rf), (oX6 p0 p1 p2 p3 p4 (nI w)), (aI g p3 6 st), (aI g p4 6 me), (oX8 s0 h0 a0 b0 e0), (oX4 h0 q0 q1 mo), (aI g q0 24 f)]) (cc := cX10_wall) (maxL := 3) (ret := (some .int)) (fun A => va_Qi (fun (r : Int32) (u : Unit) => r = st j) (fun u t => he_post g A ((fun (u : Unit) => [(oX10 x0 y0 ta z0 p0 dr pa to_ s0 im ki tr v0 rf), (oX6 p0 p1 p2 p3 p4 (nI w)), (aI g p3 6 st), (aI g p4 6 me), (oX8 s0 h0 a0 b0 e0), (oX4 h0 q0 q1 mo), (aI g q0 24 f)]) u) t) A) (by decide) rfl (Nat.le_of_ble_eq_true rfl) ?_
  intro p e s m args below meth c A ls H locs Q hQ hB
  obtain ⟨hx, hb, hr, hml, hown, hts, hlk, hin, hP, hK, hD, hS, hA, hE, hl⟩ := hB
  have hl : lv_has ls 3 [(0, .ref x0), (1, .int (nI j)), (2, .int 0)] := hl
  have f23 := hts (.fieldLink RX10 23 "HiredEnemy" "plan" "LHiredEnemy$Plan;") (iwoX10_wall (k := 0) rfl)
  have inX10 : ∀ w ∈ wsX100, w ∈ wsX10_wall := innX10_wall_X10
  have f120 := hts (.fieldLink RX10 120 "HiredEnemy$Plan" "strength" "[I") (iwoX10_wall (k := 1) rfl)
  have inX6 : ∀ w ∈ wsX60, w ∈ wsX10_wall := innX10_wall_X6
  refine lv_aload_n hx hb dX10_wall_0 rfl (lv_at hl 0 rfl) ?_
  refine lv_iload_n hx hb dX10_wall_1 rfl (lv_at hl 1 rfl) ?_
  refine he_cv (wc := [(oX10 x0 y0 ta z0 p0 dr pa to_ s0 im ki tr v0 rf), (oX6 p0 p1 p2 p3 p4 (nI w))]) (wr := [(aI g p3 6 st), (aI g p4 6 me), (oX8 s0 h0 a0 b0 e0), (oX4 h0 q0 q1 mo), (aI g q0 24 f)]) (va_runV (As := [.int (nI j)]) (rest := []) ⟨hx, hb, hml, hown, hts⟩ (g_X10_demandWall1 l g x0 y0 z0 dr pa s0 im tr v0 rf ta to_ ki p0 p1 p2 p3 p4 w (nI j) (wall_in hj (by omega)) H.size) (cwV 1 hts gX10_wall_X10_demandWall rfl rfl rfl (by decide +kernel) ⟨Nat.le_of_ble_eq_true rfl, Nat.le_of_ble_eq_true rfl⟩) (he_preV (wc := [(oX10 x0 y0 ta z0 p0 dr pa to_ s0 im ki tr v0 rf), (oX6 p0 p1 p2 p3 p4 (nI w))]) hK hP hD hS hA hE [0, 1] rfl rfl 0 rfl rfl) rfl rfl hl.1 rfl (lv_room (Nat.le_of_ble_eq_true rfl)) dX10_wall_2 ⟨(Nat.le_of_ble_eq_true rfl), (Nat.le_of_ble_eq_true rfl)⟩) hP hD hS hA [0, 1] [2, 3, 4, 5, 6] rfl rfl rfl (by decide) (fun u_2 H locs h_3 hP hD hS => ?_)
  have hP : va_P g.1 vwCl [(aI g p3 6 st), (aI g p4 6 me), (oX8 s0 h0 a0 b0 e0), (oX4 h0 q0 q1 mo), (aI g q0 24 f), (oX10 x0 y0 ta z0 p0 dr pa to_ s0 im ki tr v0 rf), (oX6 p0 p1 p2 p3 p4 (nI w))] H := hP
  have hD : va_D A [(aI g p3 6 st), (aI g p4 6 me), (oX8 s0 h0 a0 b0 e0), (oX4 h0 q0 q1 mo), (aI g q0 24 f), (oX10 x0 y0 ta z0 p0 dr pa to_ s0 im ki tr v0 rf), (oX6 p0 p1 p2 p3 p4 (nI w))] := hD
  refine lv_aload_n hx hb dX10_wall_5 rfl (lv_at hl 0 rfl) ?_
  refine lv_iload_n hx hb dX10_wall_6 rfl (lv_at hl 2 rfl) ?_
  refine lv_iconst (v := 0) hx hb dX10_wall_7 (by decide) ?_
  refine lv_iconst (v := 3) hx hb dX10_wall_8 (by decide) ?_
  refine he_ci (wc := []) (wr := [(aI g p3 6 st), (aI g p4 6 me), (oX8 s0 h0 a0 b0 e0), (oX4 h0 q0 q1 mo), (aI g q0 24 f), (oX10 x0 y0 ta z0 p0 dr pa to_ s0 im ki tr v0 rf), (oX6 p0 p1 p2 p3 p4 (nI w))]) (va_runS (As := [.int 0, .int 0, .int 3]) (rest := [.ref x0]) ⟨hx, hb, hml, hown, hts⟩ (c_X10_within l g 0 0 3 H.size) (va_cwS 3 hts gX10_wall_X10_within rfl rfl rfl (by decide +kernel) ⟨Nat.le_of_ble_eq_true rfl, Nat.le_of_ble_eq_true rfl⟩) (he_preS (wc := []) hK hP hD hS hA hE [] rfl rfl) rfl rfl hl.1 rfl (lv_room (Nat.le_of_ble_eq_true rfl)) dX10_wall_9 ⟨(Nat.le_of_ble_eq_true rfl), (Nat.le_of_ble_eq_true rfl)⟩) hP hD hS hA [] [0, 1, 2, 3, 4, 5, 6] rfl rfl rfl (by decide) (fun r_4 u_5 H locs h_6 hP hD hS => ?_)
  subst h_6
  have hP : va_P g.1 vwCl [(aI g p3 6 st), (aI g p4 6 me), (oX8 s0 h0 a0 b0 e0), (oX4 h0 q0 q1 mo), (aI g q0 24 f), (oX10 x0 y0 ta z0 p0 dr pa to_ s0 im ki tr v0 rf), (oX6 p0 p1 p2 p3 p4 (nI w))] H := hP
  have hD : va_D A [(aI g p3 6 st), (aI g p4 6 me), (oX8 s0 h0 a0 b0 e0), (oX4 h0 q0 q1 mo), (aI g q0 24 f), (oX10 x0 y0 ta z0 p0 dr pa to_ s0 im ki tr v0 rf), (oX6 p0 p1 p2 p3 p4 (nI w))] := hD
  refine he_top (1) (by decide) ?_
  refine he_cv (wc := []) (wr := [(aI g p3 6 st), (aI g p4 6 me), (oX8 s0 h0 a0 b0 e0), (oX4 h0 q0 q1 mo), (aI g q0 24 f), (oX10 x0 y0 ta z0 p0 dr pa to_ s0 im ki tr v0 rf), (oX6 p0 p1 p2 p3 p4 (nI w))]) (va_runV (As := [.int 1]) (rest := []) ⟨hx, hb, hml, hown, hts⟩ (c_X10_demand1 l g x0 H.size) (cwV 1 hts gX10_wall_X10_demand rfl rfl rfl (by decide +kernel) ⟨Nat.le_of_ble_eq_true rfl, Nat.le_of_ble_eq_true rfl⟩) (he_preV (wc := []) hK hP hD hS hA hE [] rfl rfl 5 rfl rfl) rfl rfl hl.1 rfl (lv_room (Nat.le_of_ble_eq_true rfl)) dX10_wall_12 ⟨(Nat.le_of_ble_eq_true rfl), (Nat.le_of_ble_eq_true rfl)⟩) hP hD hS hA [] [0, 1, 2, 3, 4, 5, 6] rfl rfl rfl (by decide) (fun u_8 H locs h_9 hP hD hS => ?_)
  have hP : va_P g.1 vwCl [(aI g p3 6 st), (aI g p4 6 me), (oX8 s0 h0 a0 b0 e0), (oX4 h0 q0 q1 mo), (aI g q0 24 f), (oX10 x0 y0 ta z0 p0 dr pa to_ s0 im ki tr v0 rf), (oX6 p0 p1 p2 p3 p4 (nI w))] H := hP
  have hD : va_D A [(aI g p3 6 st), (aI g p4 6 me), (oX8 s0 h0 a0 b0 e0), (oX4 h0 q0 q1 mo), (aI g q0 24 f), (oX10 x0 y0 ta z0 p0 dr pa to_ s0 im ki tr v0 rf), (oX6 p0 p1 p2 p3 p4 (nI w))] := hD
  refine lv_iload_n hx hb dX10_wall_15 rfl (lv_at hl 2 rfl) ?_
  refine lv_tableIn (tgt := 44) hx hb dX10_wall_16 (by decide) (by decide) rfl (by decide) ?_
  refine lv_aload_n hx hb dX10_wall_44 rfl (lv_at hl 0 rfl) ?_
  refine va_get (v := .ref p0) (T := TX10) (N := 13) hx hb hts inX10 hown hK hP 5 rfl rfl 3 (by decide) f23 (fun _ h9 => h9) rfl dX10_wall_45 ?_
  refine va_get (v := .ref p3) (T := TX6) (N := 5) hx hb hts inX6 hown hK hP 6 rfl rfl 2 (by decide) f120 (fun _ h9 => h9) rfl dX10_wall_48 ?_
  refine lv_iload_n hx hb dX10_wall_51 rfl (lv_at hl 1 rfl) ?_
  refine he_iald hx hb hK hP 0 rfl (j) rfl (by first | assumption | decide | omega) (by first | decide | assumption) (st j) rfl dX10_wall_52 ?_
  have hP := hP.sub (ws' := [(oX10 x0 y0 ta z0 p0 dr pa to_ s0 im ki tr v0 rf), (oX6 p0 p1 p2 p3 p4 (nI w)), (aI g p3 6 st), (aI g p4 6 me), (oX8 s0 h0 a0 b0 e0), (oX4 h0 q0 q1 mo), (aI g q0 24 f)]) [5, 6, 0, 1, 2, 3, 4] rfl
  have hD := hD.sub (ws' := [(oX10 x0 y0 ta z0 p0 dr pa to_ s0 im ki tr v0 rf), (oX6 p0 p1 p2 p3 p4 (nI w)), (aI g p3 6 st), (aI g p4 6 me), (oX8 s0 h0 a0 b0 e0), (oX4 h0 q0 q1 mo), (aI g q0 24 f)]) [5, 6, 0, 1, 2, 3, 4] (by decide) rfl
  exact he_ri hQ hx hb hr hlk hP hD hS dX10_wall_53 (Nat.le_of_ble_eq_true rfl) (Nat.le_of_ble_eq_true rfl) (()) (rfl) (rfl)
set_option maxHeartbeats 4000000 in
set_option maxRecDepth 100000 in
theorem s_X10_wall1 (l : Launch) (g : he_G) (x0 : Nat) (y0 : Nat) (z0 : Nat) (dr : Nat) (pa : Nat) (s0 : Nat) (im : Nat) (tr : Nat) (v0 : Nat) (rf : Nat) (ta : Int32) (to_ : Int32) (ki : Int32) (p0 : Nat) (p1 : Nat) (p2 : Nat) (p3 : Nat) (p4 : Nat) (w : Nat) (st : Nat → Int32) (me : Nat → Int32) (a0 : Nat) (b0 : Nat) (e0 : Nat) (h0 : Nat) (q0 : Nat) (q1 : Nat) (mo : Int32) (f : Nat → Int32) (j : Nat) (hw6 : w ≤ 6) (hj : j < w) : he_I l yX10_wall wsX10_wall 2 43 0 0 g [.ref x0, .int (nI j), .int 1] [(oX10 x0 y0 ta z0 p0 dr pa to_ s0 im ki tr v0 rf), (oX6 p0 p1 p2 p3 p4 (nI w)), (aI g p3 6 st), (aI g p4 6 me), (oX8 s0 h0 a0 b0 e0), (oX4 h0 q0 q1 mo), (aI g q0 24 f)] (fun (r : Int32) (u : Unit) => r = f (12 + j)) (fun (u : Unit) => [(oX10 x0 y0 ta z0 p0 dr pa to_ s0 im ki tr v0 rf), (oX6 p0 p1 p2 p3 p4 (nI w)), (aI g p3 6 st), (aI g p4 6 me), (oX8 s0 h0 a0 b0 e0), (oX4 h0 q0 q1 mo), (aI g q0 24 f)]) := by
  refine he_begin (l := l) (g := g) (y := yX10_wall) (wl := wsX10_wall) (fr := 2) (lo := 43) (mc := 0) (ms := 0) (av := [.ref x0, .int (nI j), .int 1]) (ws := [(oX10 x0 y0 ta z0 p0 dr pa to_ s0 im ki tr v0 rf), (oX6 p0 p1 p2 p3 p4 (nI w)), (aI g p3 6 st), (aI g p4 6 me), (oX8 s0 h0 a0 b0 e0), (oX4 h0 q0 q1 mo), (aI g q0 24 f)]) (cc := cX10_wall) (maxL := 3) (ret := (some .int)) (fun A => va_Qi (fun (r : Int32) (u : Unit) => r = f (12 + j)) (fun u t => he_post g A ((fun (u : Unit) => [(oX10 x0 y0 ta z0 p0 dr pa to_ s0 im ki tr v0 rf), (oX6 p0 p1 p2 p3 p4 (nI w)), (aI g p3 6 st), (aI g p4 6 me), (oX8 s0 h0 a0 b0 e0), (oX4 h0 q0 q1 mo), (aI g q0 24 f)]) u) t) A) (by decide) rfl (Nat.le_of_ble_eq_true rfl) ?_
  intro p e s m args below meth c A ls H locs Q hQ hB
  obtain ⟨hx, hb, hr, hml, hown, hts, hlk, hin, hP, hK, hD, hS, hA, hE, hl⟩ := hB
  have hl : lv_has ls 3 [(0, .ref x0), (1, .int (nI j)), (2, .int 1)] := hl
  have f39 := hts (.fieldLink RX10 39 "HiredEnemy" "scene" "LHiredEnemy$Scene;") (iwoX10_wall (k := 2) rfl)
  have inX10 : ∀ w ∈ wsX100, w ∈ wsX10_wall := innX10_wall_X10
  have f66 := hts (.fieldLink RX10 66 "HiredEnemy$Scene" "course" "LHiredEnemy$Course;") (iwoX10_wall (k := 3) rfl)
  have inX8 : ∀ w ∈ wsX80, w ∈ wsX10_wall := innX10_wall_X8
  have f111 := hts (.fieldLink RX10 111 "HiredEnemy$Course" "now" "[I") (iwoX10_wall (k := 4) rfl)
  have inX4 : ∀ w ∈ wsX40, w ∈ wsX10_wall := innX10_wall_X4
  refine lv_aload_n hx hb dX10_wall_0 rfl (lv_at hl 0 rfl) ?_
  refine lv_iload_n hx hb dX10_wall_1 rfl (lv_at hl 1 rfl) ?_
  refine he_cv (wc := [(oX10 x0 y0 ta z0 p0 dr pa to_ s0 im ki tr v0 rf), (oX6 p0 p1 p2 p3 p4 (nI w))]) (wr := [(aI g p3 6 st), (aI g p4 6 me), (oX8 s0 h0 a0 b0 e0), (oX4 h0 q0 q1 mo), (aI g q0 24 f)]) (va_runV (As := [.int (nI j)]) (rest := []) ⟨hx, hb, hml, hown, hts⟩ (g_X10_demandWall1 l g x0 y0 z0 dr pa s0 im tr v0 rf ta to_ ki p0 p1 p2 p3 p4 w (nI j) (wall_in hj (by omega)) H.size) (cwV 1 hts gX10_wall_X10_demandWall rfl rfl rfl (by decide +kernel) ⟨Nat.le_of_ble_eq_true rfl, Nat.le_of_ble_eq_true rfl⟩) (he_preV (wc := [(oX10 x0 y0 ta z0 p0 dr pa to_ s0 im ki tr v0 rf), (oX6 p0 p1 p2 p3 p4 (nI w))]) hK hP hD hS hA hE [0, 1] rfl rfl 0 rfl rfl) rfl rfl hl.1 rfl (lv_room (Nat.le_of_ble_eq_true rfl)) dX10_wall_2 ⟨(Nat.le_of_ble_eq_true rfl), (Nat.le_of_ble_eq_true rfl)⟩) hP hD hS hA [0, 1] [2, 3, 4, 5, 6] rfl rfl rfl (by decide) (fun u_2 H locs h_3 hP hD hS => ?_)
  have hP : va_P g.1 vwCl [(aI g p3 6 st), (aI g p4 6 me), (oX8 s0 h0 a0 b0 e0), (oX4 h0 q0 q1 mo), (aI g q0 24 f), (oX10 x0 y0 ta z0 p0 dr pa to_ s0 im ki tr v0 rf), (oX6 p0 p1 p2 p3 p4 (nI w))] H := hP
  have hD : va_D A [(aI g p3 6 st), (aI g p4 6 me), (oX8 s0 h0 a0 b0 e0), (oX4 h0 q0 q1 mo), (aI g q0 24 f), (oX10 x0 y0 ta z0 p0 dr pa to_ s0 im ki tr v0 rf), (oX6 p0 p1 p2 p3 p4 (nI w))] := hD
  refine lv_aload_n hx hb dX10_wall_5 rfl (lv_at hl 0 rfl) ?_
  refine lv_iload_n hx hb dX10_wall_6 rfl (lv_at hl 2 rfl) ?_
  refine lv_iconst (v := 0) hx hb dX10_wall_7 (by decide) ?_
  refine lv_iconst (v := 3) hx hb dX10_wall_8 (by decide) ?_
  refine he_ci (wc := []) (wr := [(aI g p3 6 st), (aI g p4 6 me), (oX8 s0 h0 a0 b0 e0), (oX4 h0 q0 q1 mo), (aI g q0 24 f), (oX10 x0 y0 ta z0 p0 dr pa to_ s0 im ki tr v0 rf), (oX6 p0 p1 p2 p3 p4 (nI w))]) (va_runS (As := [.int 1, .int 0, .int 3]) (rest := [.ref x0]) ⟨hx, hb, hml, hown, hts⟩ (c_X10_within l g 1 0 3 H.size) (va_cwS 3 hts gX10_wall_X10_within rfl rfl rfl (by decide +kernel) ⟨Nat.le_of_ble_eq_true rfl, Nat.le_of_ble_eq_true rfl⟩) (he_preS (wc := []) hK hP hD hS hA hE [] rfl rfl) rfl rfl hl.1 rfl (lv_room (Nat.le_of_ble_eq_true rfl)) dX10_wall_9 ⟨(Nat.le_of_ble_eq_true rfl), (Nat.le_of_ble_eq_true rfl)⟩) hP hD hS hA [] [0, 1, 2, 3, 4, 5, 6] rfl rfl rfl (by decide) (fun r_4 u_5 H locs h_6 hP hD hS => ?_)
  subst h_6
  have hP : va_P g.1 vwCl [(aI g p3 6 st), (aI g p4 6 me), (oX8 s0 h0 a0 b0 e0), (oX4 h0 q0 q1 mo), (aI g q0 24 f), (oX10 x0 y0 ta z0 p0 dr pa to_ s0 im ki tr v0 rf), (oX6 p0 p1 p2 p3 p4 (nI w))] H := hP
  have hD : va_D A [(aI g p3 6 st), (aI g p4 6 me), (oX8 s0 h0 a0 b0 e0), (oX4 h0 q0 q1 mo), (aI g q0 24 f), (oX10 x0 y0 ta z0 p0 dr pa to_ s0 im ki tr v0 rf), (oX6 p0 p1 p2 p3 p4 (nI w))] := hD
  refine he_top (1) (by decide) ?_
  refine he_cv (wc := []) (wr := [(aI g p3 6 st), (aI g p4 6 me), (oX8 s0 h0 a0 b0 e0), (oX4 h0 q0 q1 mo), (aI g q0 24 f), (oX10 x0 y0 ta z0 p0 dr pa to_ s0 im ki tr v0 rf), (oX6 p0 p1 p2 p3 p4 (nI w))]) (va_runV (As := [.int 1]) (rest := []) ⟨hx, hb, hml, hown, hts⟩ (c_X10_demand1 l g x0 H.size) (cwV 1 hts gX10_wall_X10_demand rfl rfl rfl (by decide +kernel) ⟨Nat.le_of_ble_eq_true rfl, Nat.le_of_ble_eq_true rfl⟩) (he_preV (wc := []) hK hP hD hS hA hE [] rfl rfl 5 rfl rfl) rfl rfl hl.1 rfl (lv_room (Nat.le_of_ble_eq_true rfl)) dX10_wall_12 ⟨(Nat.le_of_ble_eq_true rfl), (Nat.le_of_ble_eq_true rfl)⟩) hP hD hS hA [] [0, 1, 2, 3, 4, 5, 6] rfl rfl rfl (by decide) (fun u_8 H locs h_9 hP hD hS => ?_)
  have hP : va_P g.1 vwCl [(aI g p3 6 st), (aI g p4 6 me), (oX8 s0 h0 a0 b0 e0), (oX4 h0 q0 q1 mo), (aI g q0 24 f), (oX10 x0 y0 ta z0 p0 dr pa to_ s0 im ki tr v0 rf), (oX6 p0 p1 p2 p3 p4 (nI w))] H := hP
  have hD : va_D A [(aI g p3 6 st), (aI g p4 6 me), (oX8 s0 h0 a0 b0 e0), (oX4 h0 q0 q1 mo), (aI g q0 24 f), (oX10 x0 y0 ta z0 p0 dr pa to_ s0 im ki tr v0 rf), (oX6 p0 p1 p2 p3 p4 (nI w))] := hD
  refine lv_iload_n hx hb dX10_wall_15 rfl (lv_at hl 2 rfl) ?_
  refine lv_tableIn (tgt := 54) hx hb dX10_wall_16 (by decide) (by decide) rfl (by decide) ?_
  refine lv_aload_n hx hb dX10_wall_54 rfl (lv_at hl 0 rfl) ?_
  refine va_get (v := .ref s0) (T := TX10) (N := 13) hx hb hts inX10 hown hK hP 5 rfl rfl 7 (by decide) f39 (fun _ h9 => h9) rfl dX10_wall_55 ?_
  refine va_get (v := .ref h0) (T := TX8) (N := 4) hx hb hts inX8 hown hK hP 2 rfl rfl 0 (by decide) f66 (fun _ h9 => h9) rfl dX10_wall_58 ?_
  refine va_get (v := .ref q0) (T := TX4) (N := 3) hx hb hts inX4 hown hK hP 3 rfl rfl 0 (by decide) f111 (fun _ h9 => h9) rfl dX10_wall_61 ?_
  refine lv_bipush (v := 12) hx hb dX10_wall_64 (by decide) ?_
  refine lv_iload_n hx hb dX10_wall_66 rfl (lv_at hl 1 rfl) ?_
  refine lv_iadd hx hb dX10_wall_67 ?_
  refine he_top (nI (12 + j)) (nI_add 12 j) ?_
  refine he_iald hx hb hK hP 4 rfl (12 + j) rfl (by first | assumption | decide | omega) (by first | decide | assumption) (f (12 + j)) rfl dX10_wall_68 ?_
  have hP := hP.sub (ws' := [(oX10 x0 y0 ta z0 p0 dr pa to_ s0 im ki tr v0 rf), (oX6 p0 p1 p2 p3 p4 (nI w)), (aI g p3 6 st), (aI g p4 6 me), (oX8 s0 h0 a0 b0 e0), (oX4 h0 q0 q1 mo), (aI g q0 24 f)]) [5, 6, 0, 1, 2, 3, 4] rfl
  have hD := hD.sub (ws' := [(oX10 x0 y0 ta z0 p0 dr pa to_ s0 im ki tr v0 rf), (oX6 p0 p1 p2 p3 p4 (nI w)), (aI g p3 6 st), (aI g p4 6 me), (oX8 s0 h0 a0 b0 e0), (oX4 h0 q0 q1 mo), (aI g q0 24 f)]) [5, 6, 0, 1, 2, 3, 4] (by decide) rfl
  exact he_ri hQ hx hb hr hlk hP hD hS dX10_wall_69 (Nat.le_of_ble_eq_true rfl) (Nat.le_of_ble_eq_true rfl) (()) (rfl) (rfl)
set_option maxHeartbeats 4000000 in
set_option maxRecDepth 100000 in
theorem s_X10_wall2 (l : Launch) (g : he_G) (x0 : Nat) (y0 : Nat) (z0 : Nat) (dr : Nat) (pa : Nat) (s0 : Nat) (im : Nat) (tr : Nat) (v0 : Nat) (rf : Nat) (ta : Int32) (to_ : Int32) (ki : Int32) (p0 : Nat) (p1 : Nat) (p2 : Nat) (p3 : Nat) (p4 : Nat) (w : Nat) (st : Nat → Int32) (me : Nat → Int32) (a0 : Nat) (b0 : Nat) (e0 : Nat) (h0 : Nat) (q0 : Nat) (q1 : Nat) (mo : Int32) (f : Nat → Int32) (j : Nat) (hw6 : w ≤ 6) (hj : j < w) : he_I l yX10_wall wsX10_wall 2 43 0 0 g [.ref x0, .int (nI j), .int 2] [(oX10 x0 y0 ta z0 p0 dr pa to_ s0 im ki tr v0 rf), (oX6 p0 p1 p2 p3 p4 (nI w)), (aI g p3 6 st), (aI g p4 6 me), (oX8 s0 h0 a0 b0 e0), (oX4 h0 q0 q1 mo), (aI g q0 24 f)] (fun (r : Int32) (u : Unit) => r = me j) (fun (u : Unit) => [(oX10 x0 y0 ta z0 p0 dr pa to_ s0 im ki tr v0 rf), (oX6 p0 p1 p2 p3 p4 (nI w)), (aI g p3 6 st), (aI g p4 6 me), (oX8 s0 h0 a0 b0 e0), (oX4 h0 q0 q1 mo), (aI g q0 24 f)]) := by
  refine he_begin (l := l) (g := g) (y := yX10_wall) (wl := wsX10_wall) (fr := 2) (lo := 43) (mc := 0) (ms := 0) (av := [.ref x0, .int (nI j), .int 2]) (ws := [(oX10 x0 y0 ta z0 p0 dr pa to_ s0 im ki tr v0 rf), (oX6 p0 p1 p2 p3 p4 (nI w)), (aI g p3 6 st), (aI g p4 6 me), (oX8 s0 h0 a0 b0 e0), (oX4 h0 q0 q1 mo), (aI g q0 24 f)]) (cc := cX10_wall) (maxL := 3) (ret := (some .int)) (fun A => va_Qi (fun (r : Int32) (u : Unit) => r = me j) (fun u t => he_post g A ((fun (u : Unit) => [(oX10 x0 y0 ta z0 p0 dr pa to_ s0 im ki tr v0 rf), (oX6 p0 p1 p2 p3 p4 (nI w)), (aI g p3 6 st), (aI g p4 6 me), (oX8 s0 h0 a0 b0 e0), (oX4 h0 q0 q1 mo), (aI g q0 24 f)]) u) t) A) (by decide) rfl (Nat.le_of_ble_eq_true rfl) ?_
  intro p e s m args below meth c A ls H locs Q hQ hB
  obtain ⟨hx, hb, hr, hml, hown, hts, hlk, hin, hP, hK, hD, hS, hA, hE, hl⟩ := hB
  have hl : lv_has ls 3 [(0, .ref x0), (1, .int (nI j)), (2, .int 2)] := hl
  have f23 := hts (.fieldLink RX10 23 "HiredEnemy" "plan" "LHiredEnemy$Plan;") (iwoX10_wall (k := 0) rfl)
  have inX10 : ∀ w ∈ wsX100, w ∈ wsX10_wall := innX10_wall_X10
  have f123 := hts (.fieldLink RX10 123 "HiredEnemy$Plan" "mended" "[I") (iwoX10_wall (k := 5) rfl)
  have inX6 : ∀ w ∈ wsX60, w ∈ wsX10_wall := innX10_wall_X6
  refine lv_aload_n hx hb dX10_wall_0 rfl (lv_at hl 0 rfl) ?_
  refine lv_iload_n hx hb dX10_wall_1 rfl (lv_at hl 1 rfl) ?_
  refine he_cv (wc := [(oX10 x0 y0 ta z0 p0 dr pa to_ s0 im ki tr v0 rf), (oX6 p0 p1 p2 p3 p4 (nI w))]) (wr := [(aI g p3 6 st), (aI g p4 6 me), (oX8 s0 h0 a0 b0 e0), (oX4 h0 q0 q1 mo), (aI g q0 24 f)]) (va_runV (As := [.int (nI j)]) (rest := []) ⟨hx, hb, hml, hown, hts⟩ (g_X10_demandWall1 l g x0 y0 z0 dr pa s0 im tr v0 rf ta to_ ki p0 p1 p2 p3 p4 w (nI j) (wall_in hj (by omega)) H.size) (cwV 1 hts gX10_wall_X10_demandWall rfl rfl rfl (by decide +kernel) ⟨Nat.le_of_ble_eq_true rfl, Nat.le_of_ble_eq_true rfl⟩) (he_preV (wc := [(oX10 x0 y0 ta z0 p0 dr pa to_ s0 im ki tr v0 rf), (oX6 p0 p1 p2 p3 p4 (nI w))]) hK hP hD hS hA hE [0, 1] rfl rfl 0 rfl rfl) rfl rfl hl.1 rfl (lv_room (Nat.le_of_ble_eq_true rfl)) dX10_wall_2 ⟨(Nat.le_of_ble_eq_true rfl), (Nat.le_of_ble_eq_true rfl)⟩) hP hD hS hA [0, 1] [2, 3, 4, 5, 6] rfl rfl rfl (by decide) (fun u_2 H locs h_3 hP hD hS => ?_)
  have hP : va_P g.1 vwCl [(aI g p3 6 st), (aI g p4 6 me), (oX8 s0 h0 a0 b0 e0), (oX4 h0 q0 q1 mo), (aI g q0 24 f), (oX10 x0 y0 ta z0 p0 dr pa to_ s0 im ki tr v0 rf), (oX6 p0 p1 p2 p3 p4 (nI w))] H := hP
  have hD : va_D A [(aI g p3 6 st), (aI g p4 6 me), (oX8 s0 h0 a0 b0 e0), (oX4 h0 q0 q1 mo), (aI g q0 24 f), (oX10 x0 y0 ta z0 p0 dr pa to_ s0 im ki tr v0 rf), (oX6 p0 p1 p2 p3 p4 (nI w))] := hD
  refine lv_aload_n hx hb dX10_wall_5 rfl (lv_at hl 0 rfl) ?_
  refine lv_iload_n hx hb dX10_wall_6 rfl (lv_at hl 2 rfl) ?_
  refine lv_iconst (v := 0) hx hb dX10_wall_7 (by decide) ?_
  refine lv_iconst (v := 3) hx hb dX10_wall_8 (by decide) ?_
  refine he_ci (wc := []) (wr := [(aI g p3 6 st), (aI g p4 6 me), (oX8 s0 h0 a0 b0 e0), (oX4 h0 q0 q1 mo), (aI g q0 24 f), (oX10 x0 y0 ta z0 p0 dr pa to_ s0 im ki tr v0 rf), (oX6 p0 p1 p2 p3 p4 (nI w))]) (va_runS (As := [.int 2, .int 0, .int 3]) (rest := [.ref x0]) ⟨hx, hb, hml, hown, hts⟩ (c_X10_within l g 2 0 3 H.size) (va_cwS 3 hts gX10_wall_X10_within rfl rfl rfl (by decide +kernel) ⟨Nat.le_of_ble_eq_true rfl, Nat.le_of_ble_eq_true rfl⟩) (he_preS (wc := []) hK hP hD hS hA hE [] rfl rfl) rfl rfl hl.1 rfl (lv_room (Nat.le_of_ble_eq_true rfl)) dX10_wall_9 ⟨(Nat.le_of_ble_eq_true rfl), (Nat.le_of_ble_eq_true rfl)⟩) hP hD hS hA [] [0, 1, 2, 3, 4, 5, 6] rfl rfl rfl (by decide) (fun r_4 u_5 H locs h_6 hP hD hS => ?_)
  subst h_6
  have hP : va_P g.1 vwCl [(aI g p3 6 st), (aI g p4 6 me), (oX8 s0 h0 a0 b0 e0), (oX4 h0 q0 q1 mo), (aI g q0 24 f), (oX10 x0 y0 ta z0 p0 dr pa to_ s0 im ki tr v0 rf), (oX6 p0 p1 p2 p3 p4 (nI w))] H := hP
  have hD : va_D A [(aI g p3 6 st), (aI g p4 6 me), (oX8 s0 h0 a0 b0 e0), (oX4 h0 q0 q1 mo), (aI g q0 24 f), (oX10 x0 y0 ta z0 p0 dr pa to_ s0 im ki tr v0 rf), (oX6 p0 p1 p2 p3 p4 (nI w))] := hD
  refine he_top (1) (by decide) ?_
  refine he_cv (wc := []) (wr := [(aI g p3 6 st), (aI g p4 6 me), (oX8 s0 h0 a0 b0 e0), (oX4 h0 q0 q1 mo), (aI g q0 24 f), (oX10 x0 y0 ta z0 p0 dr pa to_ s0 im ki tr v0 rf), (oX6 p0 p1 p2 p3 p4 (nI w))]) (va_runV (As := [.int 1]) (rest := []) ⟨hx, hb, hml, hown, hts⟩ (c_X10_demand1 l g x0 H.size) (cwV 1 hts gX10_wall_X10_demand rfl rfl rfl (by decide +kernel) ⟨Nat.le_of_ble_eq_true rfl, Nat.le_of_ble_eq_true rfl⟩) (he_preV (wc := []) hK hP hD hS hA hE [] rfl rfl 5 rfl rfl) rfl rfl hl.1 rfl (lv_room (Nat.le_of_ble_eq_true rfl)) dX10_wall_12 ⟨(Nat.le_of_ble_eq_true rfl), (Nat.le_of_ble_eq_true rfl)⟩) hP hD hS hA [] [0, 1, 2, 3, 4, 5, 6] rfl rfl rfl (by decide) (fun u_8 H locs h_9 hP hD hS => ?_)
  have hP : va_P g.1 vwCl [(aI g p3 6 st), (aI g p4 6 me), (oX8 s0 h0 a0 b0 e0), (oX4 h0 q0 q1 mo), (aI g q0 24 f), (oX10 x0 y0 ta z0 p0 dr pa to_ s0 im ki tr v0 rf), (oX6 p0 p1 p2 p3 p4 (nI w))] H := hP
  have hD : va_D A [(aI g p3 6 st), (aI g p4 6 me), (oX8 s0 h0 a0 b0 e0), (oX4 h0 q0 q1 mo), (aI g q0 24 f), (oX10 x0 y0 ta z0 p0 dr pa to_ s0 im ki tr v0 rf), (oX6 p0 p1 p2 p3 p4 (nI w))] := hD
  refine lv_iload_n hx hb dX10_wall_15 rfl (lv_at hl 2 rfl) ?_
  refine lv_tableIn (tgt := 70) hx hb dX10_wall_16 (by decide) (by decide) rfl (by decide) ?_
  refine lv_aload_n hx hb dX10_wall_70 rfl (lv_at hl 0 rfl) ?_
  refine va_get (v := .ref p0) (T := TX10) (N := 13) hx hb hts inX10 hown hK hP 5 rfl rfl 3 (by decide) f23 (fun _ h9 => h9) rfl dX10_wall_71 ?_
  refine va_get (v := .ref p4) (T := TX6) (N := 5) hx hb hts inX6 hown hK hP 6 rfl rfl 3 (by decide) f123 (fun _ h9 => h9) rfl dX10_wall_74 ?_
  refine lv_iload_n hx hb dX10_wall_77 rfl (lv_at hl 1 rfl) ?_
  refine he_iald hx hb hK hP 1 rfl (j) rfl (by first | assumption | decide | omega) (by first | decide | assumption) (me j) rfl dX10_wall_78 ?_
  have hP := hP.sub (ws' := [(oX10 x0 y0 ta z0 p0 dr pa to_ s0 im ki tr v0 rf), (oX6 p0 p1 p2 p3 p4 (nI w)), (aI g p3 6 st), (aI g p4 6 me), (oX8 s0 h0 a0 b0 e0), (oX4 h0 q0 q1 mo), (aI g q0 24 f)]) [5, 6, 0, 1, 2, 3, 4] rfl
  have hD := hD.sub (ws' := [(oX10 x0 y0 ta z0 p0 dr pa to_ s0 im ki tr v0 rf), (oX6 p0 p1 p2 p3 p4 (nI w)), (aI g p3 6 st), (aI g p4 6 me), (oX8 s0 h0 a0 b0 e0), (oX4 h0 q0 q1 mo), (aI g q0 24 f)]) [5, 6, 0, 1, 2, 3, 4] (by decide) rfl
  exact he_ri hQ hx hb hr hlk hP hD hS dX10_wall_79 (Nat.le_of_ble_eq_true rfl) (Nat.le_of_ble_eq_true rfl) (()) (rfl) (rfl)
set_option maxHeartbeats 4000000 in
set_option maxRecDepth 100000 in
theorem s_X10_wall3 (l : Launch) (g : he_G) (x0 : Nat) (y0 : Nat) (z0 : Nat) (dr : Nat) (pa : Nat) (s0 : Nat) (im : Nat) (tr : Nat) (v0 : Nat) (rf : Nat) (ta : Int32) (to_ : Int32) (ki : Int32) (p0 : Nat) (p1 : Nat) (p2 : Nat) (p3 : Nat) (p4 : Nat) (w : Nat) (st : Nat → Int32) (me : Nat → Int32) (a0 : Nat) (b0 : Nat) (e0 : Nat) (h0 : Nat) (q0 : Nat) (q1 : Nat) (mo : Int32) (f : Nat → Int32) (j : Nat) (hw6 : w ≤ 6) (hj : j < w) : he_I l yX10_wall wsX10_wall 2 43 0 0 g [.ref x0, .int (nI j), .int 3] [(oX10 x0 y0 ta z0 p0 dr pa to_ s0 im ki tr v0 rf), (oX6 p0 p1 p2 p3 p4 (nI w)), (aI g p3 6 st), (aI g p4 6 me), (oX8 s0 h0 a0 b0 e0), (oX4 h0 q0 q1 mo), (aI g q0 24 f)] (fun (r : Int32) (u : Unit) => r = f (18 + j)) (fun (u : Unit) => [(oX10 x0 y0 ta z0 p0 dr pa to_ s0 im ki tr v0 rf), (oX6 p0 p1 p2 p3 p4 (nI w)), (aI g p3 6 st), (aI g p4 6 me), (oX8 s0 h0 a0 b0 e0), (oX4 h0 q0 q1 mo), (aI g q0 24 f)]) := by
  refine he_begin (l := l) (g := g) (y := yX10_wall) (wl := wsX10_wall) (fr := 2) (lo := 43) (mc := 0) (ms := 0) (av := [.ref x0, .int (nI j), .int 3]) (ws := [(oX10 x0 y0 ta z0 p0 dr pa to_ s0 im ki tr v0 rf), (oX6 p0 p1 p2 p3 p4 (nI w)), (aI g p3 6 st), (aI g p4 6 me), (oX8 s0 h0 a0 b0 e0), (oX4 h0 q0 q1 mo), (aI g q0 24 f)]) (cc := cX10_wall) (maxL := 3) (ret := (some .int)) (fun A => va_Qi (fun (r : Int32) (u : Unit) => r = f (18 + j)) (fun u t => he_post g A ((fun (u : Unit) => [(oX10 x0 y0 ta z0 p0 dr pa to_ s0 im ki tr v0 rf), (oX6 p0 p1 p2 p3 p4 (nI w)), (aI g p3 6 st), (aI g p4 6 me), (oX8 s0 h0 a0 b0 e0), (oX4 h0 q0 q1 mo), (aI g q0 24 f)]) u) t) A) (by decide) rfl (Nat.le_of_ble_eq_true rfl) ?_
  intro p e s m args below meth c A ls H locs Q hQ hB
  obtain ⟨hx, hb, hr, hml, hown, hts, hlk, hin, hP, hK, hD, hS, hA, hE, hl⟩ := hB
  have hl : lv_has ls 3 [(0, .ref x0), (1, .int (nI j)), (2, .int 3)] := hl
  have f39 := hts (.fieldLink RX10 39 "HiredEnemy" "scene" "LHiredEnemy$Scene;") (iwoX10_wall (k := 2) rfl)
  have inX10 : ∀ w ∈ wsX100, w ∈ wsX10_wall := innX10_wall_X10
  have f66 := hts (.fieldLink RX10 66 "HiredEnemy$Scene" "course" "LHiredEnemy$Course;") (iwoX10_wall (k := 3) rfl)
  have inX8 : ∀ w ∈ wsX80, w ∈ wsX10_wall := innX10_wall_X8
  have f111 := hts (.fieldLink RX10 111 "HiredEnemy$Course" "now" "[I") (iwoX10_wall (k := 4) rfl)
  have inX4 : ∀ w ∈ wsX40, w ∈ wsX10_wall := innX10_wall_X4
  refine lv_aload_n hx hb dX10_wall_0 rfl (lv_at hl 0 rfl) ?_
  refine lv_iload_n hx hb dX10_wall_1 rfl (lv_at hl 1 rfl) ?_
  refine he_cv (wc := [(oX10 x0 y0 ta z0 p0 dr pa to_ s0 im ki tr v0 rf), (oX6 p0 p1 p2 p3 p4 (nI w))]) (wr := [(aI g p3 6 st), (aI g p4 6 me), (oX8 s0 h0 a0 b0 e0), (oX4 h0 q0 q1 mo), (aI g q0 24 f)]) (va_runV (As := [.int (nI j)]) (rest := []) ⟨hx, hb, hml, hown, hts⟩ (g_X10_demandWall1 l g x0 y0 z0 dr pa s0 im tr v0 rf ta to_ ki p0 p1 p2 p3 p4 w (nI j) (wall_in hj (by omega)) H.size) (cwV 1 hts gX10_wall_X10_demandWall rfl rfl rfl (by decide +kernel) ⟨Nat.le_of_ble_eq_true rfl, Nat.le_of_ble_eq_true rfl⟩) (he_preV (wc := [(oX10 x0 y0 ta z0 p0 dr pa to_ s0 im ki tr v0 rf), (oX6 p0 p1 p2 p3 p4 (nI w))]) hK hP hD hS hA hE [0, 1] rfl rfl 0 rfl rfl) rfl rfl hl.1 rfl (lv_room (Nat.le_of_ble_eq_true rfl)) dX10_wall_2 ⟨(Nat.le_of_ble_eq_true rfl), (Nat.le_of_ble_eq_true rfl)⟩) hP hD hS hA [0, 1] [2, 3, 4, 5, 6] rfl rfl rfl (by decide) (fun u_2 H locs h_3 hP hD hS => ?_)
  have hP : va_P g.1 vwCl [(aI g p3 6 st), (aI g p4 6 me), (oX8 s0 h0 a0 b0 e0), (oX4 h0 q0 q1 mo), (aI g q0 24 f), (oX10 x0 y0 ta z0 p0 dr pa to_ s0 im ki tr v0 rf), (oX6 p0 p1 p2 p3 p4 (nI w))] H := hP
  have hD : va_D A [(aI g p3 6 st), (aI g p4 6 me), (oX8 s0 h0 a0 b0 e0), (oX4 h0 q0 q1 mo), (aI g q0 24 f), (oX10 x0 y0 ta z0 p0 dr pa to_ s0 im ki tr v0 rf), (oX6 p0 p1 p2 p3 p4 (nI w))] := hD
  refine lv_aload_n hx hb dX10_wall_5 rfl (lv_at hl 0 rfl) ?_
  refine lv_iload_n hx hb dX10_wall_6 rfl (lv_at hl 2 rfl) ?_
  refine lv_iconst (v := 0) hx hb dX10_wall_7 (by decide) ?_
  refine lv_iconst (v := 3) hx hb dX10_wall_8 (by decide) ?_
  refine he_ci (wc := []) (wr := [(aI g p3 6 st), (aI g p4 6 me), (oX8 s0 h0 a0 b0 e0), (oX4 h0 q0 q1 mo), (aI g q0 24 f), (oX10 x0 y0 ta z0 p0 dr pa to_ s0 im ki tr v0 rf), (oX6 p0 p1 p2 p3 p4 (nI w))]) (va_runS (As := [.int 3, .int 0, .int 3]) (rest := [.ref x0]) ⟨hx, hb, hml, hown, hts⟩ (c_X10_within l g 3 0 3 H.size) (va_cwS 3 hts gX10_wall_X10_within rfl rfl rfl (by decide +kernel) ⟨Nat.le_of_ble_eq_true rfl, Nat.le_of_ble_eq_true rfl⟩) (he_preS (wc := []) hK hP hD hS hA hE [] rfl rfl) rfl rfl hl.1 rfl (lv_room (Nat.le_of_ble_eq_true rfl)) dX10_wall_9 ⟨(Nat.le_of_ble_eq_true rfl), (Nat.le_of_ble_eq_true rfl)⟩) hP hD hS hA [] [0, 1, 2, 3, 4, 5, 6] rfl rfl rfl (by decide) (fun r_4 u_5 H locs h_6 hP hD hS => ?_)
  subst h_6
  have hP : va_P g.1 vwCl [(aI g p3 6 st), (aI g p4 6 me), (oX8 s0 h0 a0 b0 e0), (oX4 h0 q0 q1 mo), (aI g q0 24 f), (oX10 x0 y0 ta z0 p0 dr pa to_ s0 im ki tr v0 rf), (oX6 p0 p1 p2 p3 p4 (nI w))] H := hP
  have hD : va_D A [(aI g p3 6 st), (aI g p4 6 me), (oX8 s0 h0 a0 b0 e0), (oX4 h0 q0 q1 mo), (aI g q0 24 f), (oX10 x0 y0 ta z0 p0 dr pa to_ s0 im ki tr v0 rf), (oX6 p0 p1 p2 p3 p4 (nI w))] := hD
  refine he_top (1) (by decide) ?_
  refine he_cv (wc := []) (wr := [(aI g p3 6 st), (aI g p4 6 me), (oX8 s0 h0 a0 b0 e0), (oX4 h0 q0 q1 mo), (aI g q0 24 f), (oX10 x0 y0 ta z0 p0 dr pa to_ s0 im ki tr v0 rf), (oX6 p0 p1 p2 p3 p4 (nI w))]) (va_runV (As := [.int 1]) (rest := []) ⟨hx, hb, hml, hown, hts⟩ (c_X10_demand1 l g x0 H.size) (cwV 1 hts gX10_wall_X10_demand rfl rfl rfl (by decide +kernel) ⟨Nat.le_of_ble_eq_true rfl, Nat.le_of_ble_eq_true rfl⟩) (he_preV (wc := []) hK hP hD hS hA hE [] rfl rfl 5 rfl rfl) rfl rfl hl.1 rfl (lv_room (Nat.le_of_ble_eq_true rfl)) dX10_wall_12 ⟨(Nat.le_of_ble_eq_true rfl), (Nat.le_of_ble_eq_true rfl)⟩) hP hD hS hA [] [0, 1, 2, 3, 4, 5, 6] rfl rfl rfl (by decide) (fun u_8 H locs h_9 hP hD hS => ?_)
  have hP : va_P g.1 vwCl [(aI g p3 6 st), (aI g p4 6 me), (oX8 s0 h0 a0 b0 e0), (oX4 h0 q0 q1 mo), (aI g q0 24 f), (oX10 x0 y0 ta z0 p0 dr pa to_ s0 im ki tr v0 rf), (oX6 p0 p1 p2 p3 p4 (nI w))] H := hP
  have hD : va_D A [(aI g p3 6 st), (aI g p4 6 me), (oX8 s0 h0 a0 b0 e0), (oX4 h0 q0 q1 mo), (aI g q0 24 f), (oX10 x0 y0 ta z0 p0 dr pa to_ s0 im ki tr v0 rf), (oX6 p0 p1 p2 p3 p4 (nI w))] := hD
  refine lv_iload_n hx hb dX10_wall_15 rfl (lv_at hl 2 rfl) ?_
  refine lv_tableOut (tgt := 80) hx hb dX10_wall_16 (by decide) (by decide) ?_
  refine lv_aload_n hx hb dX10_wall_80 rfl (lv_at hl 0 rfl) ?_
  refine va_get (v := .ref s0) (T := TX10) (N := 13) hx hb hts inX10 hown hK hP 5 rfl rfl 7 (by decide) f39 (fun _ h9 => h9) rfl dX10_wall_81 ?_
  refine va_get (v := .ref h0) (T := TX8) (N := 4) hx hb hts inX8 hown hK hP 2 rfl rfl 0 (by decide) f66 (fun _ h9 => h9) rfl dX10_wall_84 ?_
  refine va_get (v := .ref q0) (T := TX4) (N := 3) hx hb hts inX4 hown hK hP 3 rfl rfl 0 (by decide) f111 (fun _ h9 => h9) rfl dX10_wall_87 ?_
  refine lv_bipush (v := 18) hx hb dX10_wall_90 (by decide) ?_
  refine lv_iload_n hx hb dX10_wall_92 rfl (lv_at hl 1 rfl) ?_
  refine lv_iadd hx hb dX10_wall_93 ?_
  refine he_top (nI (18 + j)) (nI_add 18 j) ?_
  refine he_iald hx hb hK hP 4 rfl (18 + j) rfl (by first | assumption | decide | omega) (by first | decide | assumption) (f (18 + j)) rfl dX10_wall_94 ?_
  have hP := hP.sub (ws' := [(oX10 x0 y0 ta z0 p0 dr pa to_ s0 im ki tr v0 rf), (oX6 p0 p1 p2 p3 p4 (nI w)), (aI g p3 6 st), (aI g p4 6 me), (oX8 s0 h0 a0 b0 e0), (oX4 h0 q0 q1 mo), (aI g q0 24 f)]) [5, 6, 0, 1, 2, 3, 4] rfl
  have hD := hD.sub (ws' := [(oX10 x0 y0 ta z0 p0 dr pa to_ s0 im ki tr v0 rf), (oX6 p0 p1 p2 p3 p4 (nI w)), (aI g p3 6 st), (aI g p4 6 me), (oX8 s0 h0 a0 b0 e0), (oX4 h0 q0 q1 mo), (aI g q0 24 f)]) [5, 6, 0, 1, 2, 3, 4] (by decide) rfl
  exact he_ri hQ hx hb hr hlk hP hD hS dX10_wall_95 (Nat.le_of_ble_eq_true rfl) (Nat.le_of_ble_eq_true rfl) (()) (rfl) (rfl)
set_option maxHeartbeats 4000000 in
set_option maxRecDepth 100000 in
theorem s_X10_rule (l : Launch) (g : he_G) (x0 : Nat) (y0 : Nat) (z0 : Nat) (p0 : Nat) (dr : Nat) (pa : Nat) (s0 : Nat) (im : Nat) (tr : Nat) (v0 : Nat) (rf : Nat) (nt : Nat) (ta : Int32) (ki : Int32) (k : Nat) (t0 : Nat) (t1 : Nat) (t2 : Nat) (pw : Int32) (pd : Nat → Int32) (wb : Nat → Int32) (pf : Nat → Option Nat) (ci : Nat) (hci : ci < nt) (hnt : nt ≤ 6) (hk : k ≤ 6) (hpf : pf ci = some t0) : he_I l yX10_rule wsX10_rule 2 46 0 0 g [.ref x0, .int (nI ci), .int (nI k)] [(oX10 x0 y0 ta z0 p0 dr pa (nI nt) s0 im ki tr v0 rf), (aP g pa 7 pf), (oX5 t0 t1 t2 pw), (aI g t1 6 pd), (aI g t2 36 wb)] (fun (r : Int32) (u : Unit) => r = rlA pd wb k) (fun (u : Unit) => [(oX10 x0 y0 ta z0 p0 dr pa (nI nt) s0 im ki tr v0 rf), (aP g pa 7 pf), (oX5 t0 t1 t2 pw), (aI g t1 6 pd), (aI g t2 36 wb)]) := by
  refine he_begin (l := l) (g := g) (y := yX10_rule) (wl := wsX10_rule) (fr := 2) (lo := 46) (mc := 0) (ms := 0) (av := [.ref x0, .int (nI ci), .int (nI k)]) (ws := [(oX10 x0 y0 ta z0 p0 dr pa (nI nt) s0 im ki tr v0 rf), (aP g pa 7 pf), (oX5 t0 t1 t2 pw), (aI g t1 6 pd), (aI g t2 36 wb)]) (cc := cX10_rule) (maxL := 3) (ret := (some .int)) (fun A => va_Qi (fun (r : Int32) (u : Unit) => r = rlA pd wb k) (fun u t => he_post g A ((fun (u : Unit) => [(oX10 x0 y0 ta z0 p0 dr pa (nI nt) s0 im ki tr v0 rf), (aP g pa 7 pf), (oX5 t0 t1 t2 pw), (aI g t1 6 pd), (aI g t2 36 wb)]) u) t) A) (by decide) rfl (Nat.le_of_ble_eq_true rfl) ?_
  intro p e s m args below meth c A ls H locs Q hQ hB
  obtain ⟨hx, hb, hr, hml, hown, hts, hlk, hin, hP, hK, hD, hS, hA, hE, hl⟩ := hB
  have hl : lv_has ls 3 [(0, .ref x0), (1, .int (nI ci)), (2, .int (nI k))] := hl
  have f32 := hts (.fieldLink RX10 32 "HiredEnemy" "pacts" "[LHiredEnemy$Pact;") (iwoX10_rule (k := 0) rfl)
  have inX10 : ∀ w ∈ wsX100, w ∈ wsX10_rule := innX10_rule_X10
  refine lv_aload_n hx hb dX10_rule_0 rfl (lv_at hl 0 rfl) ?_
  refine lv_iload_n hx hb dX10_rule_1 rfl (lv_at hl 1 rfl) ?_
  refine he_cv (wc := [(oX10 x0 y0 ta z0 p0 dr pa (nI nt) s0 im ki tr v0 rf)]) (wr := [(aP g pa 7 pf), (oX5 t0 t1 t2 pw), (aI g t1 6 pd), (aI g t2 36 wb)]) (va_runV (As := [.int (nI ci)]) (rest := []) ⟨hx, hb, hml, hown, hts⟩ (g_X10_demandContract1 l g x0 y0 z0 p0 dr pa s0 im tr v0 rf ta (nI nt) ki (nI ci) (wall_in hci (by omega)) H.size) (cwV 1 hts gX10_rule_X10_demandContract rfl rfl rfl (by decide +kernel) ⟨Nat.le_of_ble_eq_true rfl, Nat.le_of_ble_eq_true rfl⟩) (he_preV (wc := [(oX10 x0 y0 ta z0 p0 dr pa (nI nt) s0 im ki tr v0 rf)]) hK hP hD hS hA hE [0] rfl rfl 0 rfl rfl) rfl rfl hl.1 rfl (lv_room (Nat.le_of_ble_eq_true rfl)) dX10_rule_2 ⟨(Nat.le_of_ble_eq_true rfl), (Nat.le_of_ble_eq_true rfl)⟩) hP hD hS hA [0] [1, 2, 3, 4] rfl rfl rfl (by decide) (fun u_2 H locs h_3 hP hD hS => ?_)
  have hP : va_P g.1 vwCl [(aP g pa 7 pf), (oX5 t0 t1 t2 pw), (aI g t1 6 pd), (aI g t2 36 wb), (oX10 x0 y0 ta z0 p0 dr pa (nI nt) s0 im ki tr v0 rf)] H := hP
  have hD : va_D A [(aP g pa 7 pf), (oX5 t0 t1 t2 pw), (aI g t1 6 pd), (aI g t2 36 wb), (oX10 x0 y0 ta z0 p0 dr pa (nI nt) s0 im ki tr v0 rf)] := hD
  refine lv_aload_n hx hb dX10_rule_5 rfl (lv_at hl 0 rfl) ?_
  refine lv_iload_n hx hb dX10_rule_6 rfl (lv_at hl 2 rfl) ?_
  refine lv_iconst (v := 0) hx hb dX10_rule_7 (by decide) ?_
  refine lv_bipush (v := 6) hx hb dX10_rule_8 (by decide) ?_
  refine he_ci (wc := []) (wr := [(aP g pa 7 pf), (oX5 t0 t1 t2 pw), (aI g t1 6 pd), (aI g t2 36 wb), (oX10 x0 y0 ta z0 p0 dr pa (nI nt) s0 im ki tr v0 rf)]) (va_runS (As := [.int (nI k), .int 0, .int 6]) (rest := [.ref x0]) ⟨hx, hb, hml, hown, hts⟩ (c_X10_within l g (nI k) 0 6 H.size) (va_cwS 3 hts gX10_rule_X10_within rfl rfl rfl (by decide +kernel) ⟨Nat.le_of_ble_eq_true rfl, Nat.le_of_ble_eq_true rfl⟩) (he_preS (wc := []) hK hP hD hS hA hE [] rfl rfl) rfl rfl hl.1 rfl (lv_room (Nat.le_of_ble_eq_true rfl)) dX10_rule_10 ⟨(Nat.le_of_ble_eq_true rfl), (Nat.le_of_ble_eq_true rfl)⟩) hP hD hS hA [] [0, 1, 2, 3, 4] rfl rfl rfl (by decide) (fun r_4 u_5 H locs h_6 hP hD hS => ?_)
  subst h_6
  have hP : va_P g.1 vwCl [(aP g pa 7 pf), (oX5 t0 t1 t2 pw), (aI g t1 6 pd), (aI g t2 36 wb), (oX10 x0 y0 ta z0 p0 dr pa (nI nt) s0 im ki tr v0 rf)] H := hP
  have hD : va_D A [(aP g pa 7 pf), (oX5 t0 t1 t2 pw), (aI g t1 6 pd), (aI g t2 36 wb), (oX10 x0 y0 ta z0 p0 dr pa (nI nt) s0 im ki tr v0 rf)] := hD
  refine he_top (1) (he_within_in (a0 := 0) (B := 6) rfl rfl (by omega) (by omega) (by decide)) ?_
  refine he_cv (wc := []) (wr := [(aP g pa 7 pf), (oX5 t0 t1 t2 pw), (aI g t1 6 pd), (aI g t2 36 wb), (oX10 x0 y0 ta z0 p0 dr pa (nI nt) s0 im ki tr v0 rf)]) (va_runV (As := [.int 1]) (rest := []) ⟨hx, hb, hml, hown, hts⟩ (c_X10_demand1 l g x0 H.size) (cwV 1 hts gX10_rule_X10_demand rfl rfl rfl (by decide +kernel) ⟨Nat.le_of_ble_eq_true rfl, Nat.le_of_ble_eq_true rfl⟩) (he_preV (wc := []) hK hP hD hS hA hE [] rfl rfl 4 rfl rfl) rfl rfl hl.1 rfl (lv_room (Nat.le_of_ble_eq_true rfl)) dX10_rule_13 ⟨(Nat.le_of_ble_eq_true rfl), (Nat.le_of_ble_eq_true rfl)⟩) hP hD hS hA [] [0, 1, 2, 3, 4] rfl rfl rfl (by decide) (fun u_8 H locs h_9 hP hD hS => ?_)
  have hP : va_P g.1 vwCl [(aP g pa 7 pf), (oX5 t0 t1 t2 pw), (aI g t1 6 pd), (aI g t2 36 wb), (oX10 x0 y0 ta z0 p0 dr pa (nI nt) s0 im ki tr v0 rf)] H := hP
  have hD : va_D A [(aP g pa 7 pf), (oX5 t0 t1 t2 pw), (aI g t1 6 pd), (aI g t2 36 wb), (oX10 x0 y0 ta z0 p0 dr pa (nI nt) s0 im ki tr v0 rf)] := hD
  refine lv_aload_n hx hb dX10_rule_16 rfl (lv_at hl 0 rfl) ?_
  refine va_get (v := .ref pa) (T := TX10) (N := 13) hx hb hts inX10 hown hK hP 4 rfl rfl 5 (by decide) f32 (fun _ h9 => h9) rfl dX10_rule_17 ?_
  refine lv_iload_n hx hb dX10_rule_20 rfl (lv_at hl 1 rfl) ?_
  refine he_ald hx hb 2 rfl hK hP 0 rfl (ci) rfl (by first | assumption | decide | omega) (by first | decide | assumption) (.ref t0) (by rw [hpf]; rfl) dX10_rule_21 ?_
  refine lv_iload_n hx hb dX10_rule_22 rfl (lv_at hl 2 rfl) ?_
  refine he_ci (wc := [(oX5 t0 t1 t2 pw), (aI g t1 6 pd), (aI g t2 36 wb)]) (wr := [(aP g pa 7 pf), (oX10 x0 y0 ta z0 p0 dr pa (nI nt) s0 im ki tr v0 rf)]) (va_runV (As := [.int (nI k)]) (rest := []) ⟨hx, hb, hml, hown, hts⟩ (s_X5_answer l g t0 t1 t2 pw pd wb k (by first | assumption | decide | omega) H.size) (cwV 1 hts gX10_rule_X5_answer rfl rfl rfl (by decide +kernel) ⟨Nat.le_of_ble_eq_true rfl, Nat.le_of_ble_eq_true rfl⟩) (he_preV (wc := [(oX5 t0 t1 t2 pw), (aI g t1 6 pd), (aI g t2 36 wb)]) hK hP hD hS hA hE [1, 2, 3] rfl rfl 1 rfl rfl) rfl rfl hl.1 rfl (lv_room (Nat.le_of_ble_eq_true rfl)) dX10_rule_23 ⟨(Nat.le_of_ble_eq_true rfl), (Nat.le_of_ble_eq_true rfl)⟩) hP hD hS hA [1, 2, 3] [0, 4] rfl rfl rfl (by decide) (fun r_10 u_11 H locs h_12 hP hD hS => ?_)
  subst h_12
  have hP : va_P g.1 vwCl [(aP g pa 7 pf), (oX10 x0 y0 ta z0 p0 dr pa (nI nt) s0 im ki tr v0 rf), (oX5 t0 t1 t2 pw), (aI g t1 6 pd), (aI g t2 36 wb)] H := hP
  have hD : va_D A [(aP g pa 7 pf), (oX10 x0 y0 ta z0 p0 dr pa (nI nt) s0 im ki tr v0 rf), (oX5 t0 t1 t2 pw), (aI g t1 6 pd), (aI g t2 36 wb)] := hD
  have hP := hP.sub (ws' := [(oX10 x0 y0 ta z0 p0 dr pa (nI nt) s0 im ki tr v0 rf), (aP g pa 7 pf), (oX5 t0 t1 t2 pw), (aI g t1 6 pd), (aI g t2 36 wb)]) [1, 0, 2, 3, 4] rfl
  have hD := hD.sub (ws' := [(oX10 x0 y0 ta z0 p0 dr pa (nI nt) s0 im ki tr v0 rf), (aP g pa 7 pf), (oX5 t0 t1 t2 pw), (aI g t1 6 pd), (aI g t2 36 wb)]) [1, 0, 2, 3, 4] (by decide) rfl
  exact he_ri hQ hx hb hr hlk hP hD hS dX10_rule_26 (Nat.le_of_ble_eq_true rfl) (Nat.le_of_ble_eq_true rfl) (()) (rfl) (rfl)
set_option maxHeartbeats 4000000 in
set_option maxRecDepth 100000 in
theorem s_X10_corks (l : Launch) (g : he_G) (x0 : Nat) (y0 : Nat) (z0 : Nat) (dr : Nat) (pa : Nat) (s0 : Nat) (im : Nat) (tr : Nat) (v0 : Nat) (rf : Nat) (ta : Int32) (to_ : Int32) (ki : Int32) (p0 : Nat) (p1 : Nat) (p2 : Nat) (p3 : Nat) (p4 : Nat) (w : Nat) (a0 : Nat) (b0 : Nat) (e0 : Nat) (h0 : Nat) (q0 : Nat) (q1 : Nat) (k : Nat) (a1 : Nat) (f : Nat → Int32) (ln : Nat → Int32) (i : Nat) (j : Nat) (hw6 : w ≤ 6) (hj : j < w) (hi : i ≤ 119) (hk : k ≤ 120) : he_I l yX10_corks wsX10_corks 2 43 0 0 g [.ref x0, .int (nI i), .int (nI j)] [(oX10 x0 y0 ta z0 p0 dr pa to_ s0 im ki tr v0 rf), (oX6 p0 p1 p2 p3 p4 (nI w)), (oX8 s0 h0 a0 b0 e0), (oX4 h0 q0 q1 (nI k)), (aI g q0 24 f), (oX0 a0 a1), (aI g a1 3600 ln)] (fun (r : Int32) (u : Unit) => r = if i < k then ln (i * 30 + 24 + j) else 0) (fun (u : Unit) => [(oX10 x0 y0 ta z0 p0 dr pa to_ s0 im ki tr v0 rf), (oX6 p0 p1 p2 p3 p4 (nI w)), (oX8 s0 h0 a0 b0 e0), (oX4 h0 q0 q1 (nI k)), (aI g q0 24 f), (oX0 a0 a1), (aI g a1 3600 ln)]) := by
  refine he_begin (l := l) (g := g) (y := yX10_corks) (wl := wsX10_corks) (fr := 2) (lo := 43) (mc := 0) (ms := 0) (av := [.ref x0, .int (nI i), .int (nI j)]) (ws := [(oX10 x0 y0 ta z0 p0 dr pa to_ s0 im ki tr v0 rf), (oX6 p0 p1 p2 p3 p4 (nI w)), (oX8 s0 h0 a0 b0 e0), (oX4 h0 q0 q1 (nI k)), (aI g q0 24 f), (oX0 a0 a1), (aI g a1 3600 ln)]) (cc := cX10_corks) (maxL := 3) (ret := (some .int)) (fun A => va_Qi (fun (r : Int32) (u : Unit) => r = if i < k then ln (i * 30 + 24 + j) else 0) (fun u t => he_post g A ((fun (u : Unit) => [(oX10 x0 y0 ta z0 p0 dr pa to_ s0 im ki tr v0 rf), (oX6 p0 p1 p2 p3 p4 (nI w)), (oX8 s0 h0 a0 b0 e0), (oX4 h0 q0 q1 (nI k)), (aI g q0 24 f), (oX0 a0 a1), (aI g a1 3600 ln)]) u) t) A) (by decide) rfl (Nat.le_of_ble_eq_true rfl) ?_
  intro p e s m args below meth c A ls H locs Q hQ hB
  obtain ⟨hx, hb, hr, hml, hown, hts, hlk, hin, hP, hK, hD, hS, hA, hE, hl⟩ := hB
  have hl : lv_has ls 3 [(0, .ref x0), (1, .int (nI i)), (2, .int (nI j))] := hl
  have f39 := hts (.fieldLink RX10 39 "HiredEnemy" "scene" "LHiredEnemy$Scene;") (iwoX10_corks (k := 0) rfl)
  have inX10 : ∀ w ∈ wsX100, w ∈ wsX10_corks := innX10_corks_X10
  have f66 := hts (.fieldLink RX10 66 "HiredEnemy$Scene" "course" "LHiredEnemy$Course;") (iwoX10_corks (k := 1) rfl)
  have inX8 : ∀ w ∈ wsX80, w ∈ wsX10_corks := innX10_corks_X8
  have f114 := hts (.fieldLink RX10 114 "HiredEnemy$Course" "month" "I") (iwoX10_corks (k := 2) rfl)
  have inX4 : ∀ w ∈ wsX40, w ∈ wsX10_corks := innX10_corks_X4
  have f143 := hts (.fieldLink RX10 143 "HiredEnemy$Scene" "annals" "LHiredEnemy$Annals;") (iwoX10_corks (k := 3) rfl)
  refine lv_aload_n hx hb dX10_corks_0 rfl (lv_at hl 0 rfl) ?_
  refine lv_iload_n hx hb dX10_corks_1 rfl (lv_at hl 2 rfl) ?_
  refine he_cv (wc := [(oX10 x0 y0 ta z0 p0 dr pa to_ s0 im ki tr v0 rf), (oX6 p0 p1 p2 p3 p4 (nI w))]) (wr := [(oX8 s0 h0 a0 b0 e0), (oX4 h0 q0 q1 (nI k)), (aI g q0 24 f), (oX0 a0 a1), (aI g a1 3600 ln)]) (va_runV (As := [.int (nI j)]) (rest := []) ⟨hx, hb, hml, hown, hts⟩ (g_X10_demandWall1 l g x0 y0 z0 dr pa s0 im tr v0 rf ta to_ ki p0 p1 p2 p3 p4 w (nI j) (wall_in hj (by omega)) H.size) (cwV 1 hts gX10_corks_X10_demandWall rfl rfl rfl (by decide +kernel) ⟨Nat.le_of_ble_eq_true rfl, Nat.le_of_ble_eq_true rfl⟩) (he_preV (wc := [(oX10 x0 y0 ta z0 p0 dr pa to_ s0 im ki tr v0 rf), (oX6 p0 p1 p2 p3 p4 (nI w))]) hK hP hD hS hA hE [0, 1] rfl rfl 0 rfl rfl) rfl rfl hl.1 rfl (lv_room (Nat.le_of_ble_eq_true rfl)) dX10_corks_2 ⟨(Nat.le_of_ble_eq_true rfl), (Nat.le_of_ble_eq_true rfl)⟩) hP hD hS hA [0, 1] [2, 3, 4, 5, 6] rfl rfl rfl (by decide) (fun u_2 H locs h_3 hP hD hS => ?_)
  have hP : va_P g.1 vwCl [(oX8 s0 h0 a0 b0 e0), (oX4 h0 q0 q1 (nI k)), (aI g q0 24 f), (oX0 a0 a1), (aI g a1 3600 ln), (oX10 x0 y0 ta z0 p0 dr pa to_ s0 im ki tr v0 rf), (oX6 p0 p1 p2 p3 p4 (nI w))] H := hP
  have hD : va_D A [(oX8 s0 h0 a0 b0 e0), (oX4 h0 q0 q1 (nI k)), (aI g q0 24 f), (oX0 a0 a1), (aI g a1 3600 ln), (oX10 x0 y0 ta z0 p0 dr pa to_ s0 im ki tr v0 rf), (oX6 p0 p1 p2 p3 p4 (nI w))] := hD
  refine lv_aload_n hx hb dX10_corks_5 rfl (lv_at hl 0 rfl) ?_
  refine lv_iload_n hx hb dX10_corks_6 rfl (lv_at hl 1 rfl) ?_
  refine lv_iconst (v := 0) hx hb dX10_corks_7 (by decide) ?_
  refine lv_bipush (v := 119) hx hb dX10_corks_8 (by decide) ?_
  refine he_ci (wc := []) (wr := [(oX8 s0 h0 a0 b0 e0), (oX4 h0 q0 q1 (nI k)), (aI g q0 24 f), (oX0 a0 a1), (aI g a1 3600 ln), (oX10 x0 y0 ta z0 p0 dr pa to_ s0 im ki tr v0 rf), (oX6 p0 p1 p2 p3 p4 (nI w))]) (va_runS (As := [.int (nI i), .int 0, .int 119]) (rest := [.ref x0]) ⟨hx, hb, hml, hown, hts⟩ (c_X10_within l g (nI i) 0 119 H.size) (va_cwS 3 hts gX10_corks_X10_within rfl rfl rfl (by decide +kernel) ⟨Nat.le_of_ble_eq_true rfl, Nat.le_of_ble_eq_true rfl⟩) (he_preS (wc := []) hK hP hD hS hA hE [] rfl rfl) rfl rfl hl.1 rfl (lv_room (Nat.le_of_ble_eq_true rfl)) dX10_corks_10 ⟨(Nat.le_of_ble_eq_true rfl), (Nat.le_of_ble_eq_true rfl)⟩) hP hD hS hA [] [0, 1, 2, 3, 4, 5, 6] rfl rfl rfl (by decide) (fun r_4 u_5 H locs h_6 hP hD hS => ?_)
  subst h_6
  have hP : va_P g.1 vwCl [(oX8 s0 h0 a0 b0 e0), (oX4 h0 q0 q1 (nI k)), (aI g q0 24 f), (oX0 a0 a1), (aI g a1 3600 ln), (oX10 x0 y0 ta z0 p0 dr pa to_ s0 im ki tr v0 rf), (oX6 p0 p1 p2 p3 p4 (nI w))] H := hP
  have hD : va_D A [(oX8 s0 h0 a0 b0 e0), (oX4 h0 q0 q1 (nI k)), (aI g q0 24 f), (oX0 a0 a1), (aI g a1 3600 ln), (oX10 x0 y0 ta z0 p0 dr pa to_ s0 im ki tr v0 rf), (oX6 p0 p1 p2 p3 p4 (nI w))] := hD
  refine he_top (1) (he_within_in (a0 := 0) (B := 119) rfl rfl (by omega) (by omega) (by decide)) ?_
  refine he_cv (wc := []) (wr := [(oX8 s0 h0 a0 b0 e0), (oX4 h0 q0 q1 (nI k)), (aI g q0 24 f), (oX0 a0 a1), (aI g a1 3600 ln), (oX10 x0 y0 ta z0 p0 dr pa to_ s0 im ki tr v0 rf), (oX6 p0 p1 p2 p3 p4 (nI w))]) (va_runV (As := [.int 1]) (rest := []) ⟨hx, hb, hml, hown, hts⟩ (c_X10_demand1 l g x0 H.size) (cwV 1 hts gX10_corks_X10_demand rfl rfl rfl (by decide +kernel) ⟨Nat.le_of_ble_eq_true rfl, Nat.le_of_ble_eq_true rfl⟩) (he_preV (wc := []) hK hP hD hS hA hE [] rfl rfl 5 rfl rfl) rfl rfl hl.1 rfl (lv_room (Nat.le_of_ble_eq_true rfl)) dX10_corks_13 ⟨(Nat.le_of_ble_eq_true rfl), (Nat.le_of_ble_eq_true rfl)⟩) hP hD hS hA [] [0, 1, 2, 3, 4, 5, 6] rfl rfl rfl (by decide) (fun u_8 H locs h_9 hP hD hS => ?_)
  have hP : va_P g.1 vwCl [(oX8 s0 h0 a0 b0 e0), (oX4 h0 q0 q1 (nI k)), (aI g q0 24 f), (oX0 a0 a1), (aI g a1 3600 ln), (oX10 x0 y0 ta z0 p0 dr pa to_ s0 im ki tr v0 rf), (oX6 p0 p1 p2 p3 p4 (nI w))] H := hP
  have hD : va_D A [(oX8 s0 h0 a0 b0 e0), (oX4 h0 q0 q1 (nI k)), (aI g q0 24 f), (oX0 a0 a1), (aI g a1 3600 ln), (oX10 x0 y0 ta z0 p0 dr pa to_ s0 im ki tr v0 rf), (oX6 p0 p1 p2 p3 p4 (nI w))] := hD
  refine lv_iload_n hx hb dX10_corks_16 rfl (lv_at hl 1 rfl) ?_
  refine lv_aload_n hx hb dX10_corks_17 rfl (lv_at hl 0 rfl) ?_
  refine va_get (v := .ref s0) (T := TX10) (N := 13) hx hb hts inX10 hown hK hP 5 rfl rfl 7 (by decide) f39 (fun _ h9 => h9) rfl dX10_corks_18 ?_
  refine va_get (v := .ref h0) (T := TX8) (N := 4) hx hb hts inX8 hown hK hP 0 rfl rfl 0 (by decide) f66 (fun _ h9 => h9) rfl dX10_corks_21 ?_
  refine va_get (v := .int (nI k)) (T := TX4) (N := 3) hx hb hts inX4 hown hK hP 1 rfl rfl 2 (by decide) f114 (fun _ h9 => h9) rfl dX10_corks_24 ?_
  refine lv_icmp_ge (tgt := 45) hx hb dX10_corks_27 (by decide) (fun c_10 => ?_) (fun c_10 => ?_)
  · have k_11 : k ≤ i := (he_cle (a := k) (b := i) rfl rfl (by omega) (by omega)).mp c_10
    refine lv_iconst (v := 0) hx hb dX10_corks_45 (by decide) ?_
    have hP := hP.sub (ws' := [(oX10 x0 y0 ta z0 p0 dr pa to_ s0 im ki tr v0 rf), (oX6 p0 p1 p2 p3 p4 (nI w)), (oX8 s0 h0 a0 b0 e0), (oX4 h0 q0 q1 (nI k)), (aI g q0 24 f), (oX0 a0 a1), (aI g a1 3600 ln)]) [5, 6, 0, 1, 2, 3, 4] rfl
    have hD := hD.sub (ws' := [(oX10 x0 y0 ta z0 p0 dr pa to_ s0 im ki tr v0 rf), (oX6 p0 p1 p2 p3 p4 (nI w)), (oX8 s0 h0 a0 b0 e0), (oX4 h0 q0 q1 (nI k)), (aI g q0 24 f), (oX0 a0 a1), (aI g a1 3600 ln)]) [5, 6, 0, 1, 2, 3, 4] (by decide) rfl
    exact he_ri hQ hx hb hr hlk hP hD hS dX10_corks_46 (Nat.le_of_ble_eq_true rfl) (Nat.le_of_ble_eq_true rfl) (()) (rfl) ((by rw [if_neg (by omega)]))
  · have k_12 : ¬ (k ≤ i) := fun h9 => c_10 ((he_cle (a := k) (b := i) rfl rfl (by omega) (by omega)).mpr h9)
    refine lv_aload_n hx hb dX10_corks_30 rfl (lv_at hl 0 rfl) ?_
    refine va_get (v := .ref s0) (T := TX10) (N := 13) hx hb hts inX10 hown hK hP 5 rfl rfl 7 (by decide) f39 (fun _ h9 => h9) rfl dX10_corks_31 ?_
    refine va_get (v := .ref a0) (T := TX8) (N := 4) hx hb hts inX8 hown hK hP 0 rfl rfl 1 (by decide) f143 (fun _ h9 => h9) rfl dX10_corks_34 ?_
    refine lv_iload_n hx hb dX10_corks_37 rfl (lv_at hl 1 rfl) ?_
    refine lv_iload_n hx hb dX10_corks_38 rfl (lv_at hl 2 rfl) ?_
    refine he_ci (wc := [(oX0 a0 a1), (aI g a1 3600 ln)]) (wr := [(oX8 s0 h0 a0 b0 e0), (oX4 h0 q0 q1 (nI k)), (aI g q0 24 f), (oX10 x0 y0 ta z0 p0 dr pa to_ s0 im ki tr v0 rf), (oX6 p0 p1 p2 p3 p4 (nI w))]) (va_runV (As := [.int (nI i), .int (nI j)]) (rest := []) ⟨hx, hb, hml, hown, hts⟩ (g_X0_shotAt l g a0 a1 ln i j (by first | assumption | decide | omega) (by first | assumption | decide | omega) H.size) (cwV 2 hts gX10_corks_X0_shotAt rfl rfl rfl (by decide +kernel) ⟨Nat.le_of_ble_eq_true rfl, Nat.le_of_ble_eq_true rfl⟩) (he_preV (wc := [(oX0 a0 a1), (aI g a1 3600 ln)]) hK hP hD hS hA hE [3, 4] rfl rfl 3 rfl rfl) rfl rfl hl.1 rfl (lv_room (Nat.le_of_ble_eq_true rfl)) dX10_corks_39 ⟨(Nat.le_of_ble_eq_true rfl), (Nat.le_of_ble_eq_true rfl)⟩) hP hD hS hA [3, 4] [0, 1, 2, 5, 6] rfl rfl rfl (by decide) (fun r_13 u_14 H locs h_15 hP hD hS => ?_)
    subst h_15
    have hP : va_P g.1 vwCl [(oX8 s0 h0 a0 b0 e0), (oX4 h0 q0 q1 (nI k)), (aI g q0 24 f), (oX10 x0 y0 ta z0 p0 dr pa to_ s0 im ki tr v0 rf), (oX6 p0 p1 p2 p3 p4 (nI w)), (oX0 a0 a1), (aI g a1 3600 ln)] H := hP
    have hD : va_D A [(oX8 s0 h0 a0 b0 e0), (oX4 h0 q0 q1 (nI k)), (aI g q0 24 f), (oX10 x0 y0 ta z0 p0 dr pa to_ s0 im ki tr v0 rf), (oX6 p0 p1 p2 p3 p4 (nI w)), (oX0 a0 a1), (aI g a1 3600 ln)] := hD
    refine lv_goto (tgt := 46) hx hb dX10_corks_42 (by decide) ?_
    have hP := hP.sub (ws' := [(oX10 x0 y0 ta z0 p0 dr pa to_ s0 im ki tr v0 rf), (oX6 p0 p1 p2 p3 p4 (nI w)), (oX8 s0 h0 a0 b0 e0), (oX4 h0 q0 q1 (nI k)), (aI g q0 24 f), (oX0 a0 a1), (aI g a1 3600 ln)]) [3, 4, 0, 1, 2, 5, 6] rfl
    have hD := hD.sub (ws' := [(oX10 x0 y0 ta z0 p0 dr pa to_ s0 im ki tr v0 rf), (oX6 p0 p1 p2 p3 p4 (nI w)), (oX8 s0 h0 a0 b0 e0), (oX4 h0 q0 q1 (nI k)), (aI g q0 24 f), (oX0 a0 a1), (aI g a1 3600 ln)]) [3, 4, 0, 1, 2, 5, 6] (by decide) rfl
    exact he_ri hQ hx hb hr hlk hP hD hS dX10_corks_46 (Nat.le_of_ble_eq_true rfl) (Nat.le_of_ble_eq_true rfl) (()) (rfl) ((by rw [if_pos (by omega)]))
set_option maxHeartbeats 4000000 in
set_option maxRecDepth 100000 in
theorem s_X10_nearest (l : Launch) (g : he_G) (x0 : Nat) (y0 : Nat) (z0 : Nat) (dr : Nat) (pa : Nat) (s0 : Nat) (im : Nat) (tr : Nat) (v0 : Nat) (rf : Nat) (ta : Int32) (to_ : Int32) (ki : Int32) (p0 : Nat) (p1 : Nat) (p2 : Nat) (p3 : Nat) (p4 : Nat) (w : Int32) (sd : Nat → Int32) (x : Int32) (y : Int32) (hok0 : ¬ he_within x 0 9999 = 0) (hok1 : ¬ he_within y 0 99 = 0) : he_I l yX10_nearest wsX10_nearest 1 22 0 0 g [.ref x0, .int x, .int y] [(oX10 x0 y0 ta z0 p0 dr pa to_ s0 im ki tr v0 rf), (oX6 p0 p1 p2 p3 p4 w), (aI g p1 24 sd)] (fun (r : Int32) (u : Unit) => r = neC sd x y 10 0) (fun (u : Unit) => [(oX10 x0 y0 ta z0 p0 dr pa to_ s0 im ki tr v0 rf), (oX6 p0 p1 p2 p3 p4 w), (aI g p1 24 sd)]) := by
  refine he_begin (l := l) (g := g) (y := yX10_nearest) (wl := wsX10_nearest) (fr := 1) (lo := 22) (mc := 0) (ms := 0) (av := [.ref x0, .int x, .int y]) (ws := [(oX10 x0 y0 ta z0 p0 dr pa to_ s0 im ki tr v0 rf), (oX6 p0 p1 p2 p3 p4 w), (aI g p1 24 sd)]) (cc := cX10_nearest) (maxL := 4) (ret := (some .int)) (fun A => va_Qi (fun (r : Int32) (u : Unit) => r = neC sd x y 10 0) (fun u t => he_post g A ((fun (u : Unit) => [(oX10 x0 y0 ta z0 p0 dr pa to_ s0 im ki tr v0 rf), (oX6 p0 p1 p2 p3 p4 w), (aI g p1 24 sd)]) u) t) A) (by decide) rfl (Nat.le_of_ble_eq_true rfl) ?_
  intro p e s m args below meth c A ls H locs Q hQ hB
  obtain ⟨hx, hb, hr, hml, hown, hts, hlk, hin, hP, hK, hD, hS, hA, hE, hl⟩ := hB
  have hl : lv_has ls 4 [(0, .ref x0), (1, .int x), (2, .int y)] := hl
  have f23 := hts (.fieldLink RX10 23 "HiredEnemy" "plan" "LHiredEnemy$Plan;") (iwoX10_nearest (k := 0) rfl)
  have inX10 : ∀ w ∈ wsX100, w ∈ wsX10_nearest := innX10_nearest_X10
  refine lv_aload_n hx hb dX10_nearest_0 rfl (lv_at hl 0 rfl) ?_
  refine lv_iload_n hx hb dX10_nearest_1 rfl (lv_at hl 1 rfl) ?_
  refine lv_iconst (v := 0) hx hb dX10_nearest_2 (by decide) ?_
  refine lv_sipush (v := 9999) hx hb dX10_nearest_3 (by decide) ?_
  refine he_ci (wc := []) (wr := [(oX10 x0 y0 ta z0 p0 dr pa to_ s0 im ki tr v0 rf), (oX6 p0 p1 p2 p3 p4 w), (aI g p1 24 sd)]) (va_runS (As := [.int x, .int 0, .int 9999]) (rest := [.ref x0]) ⟨hx, hb, hml, hown, hts⟩ (c_X10_within l g x 0 9999 H.size) (va_cwS 3 hts gX10_nearest_X10_within rfl rfl rfl (by decide +kernel) ⟨Nat.le_of_ble_eq_true rfl, Nat.le_of_ble_eq_true rfl⟩) (he_preS (wc := []) hK hP hD hS hA hE [] rfl rfl) rfl rfl hl.1 rfl (lv_room (Nat.le_of_ble_eq_true rfl)) dX10_nearest_6 ⟨(Nat.le_of_ble_eq_true rfl), (Nat.le_of_ble_eq_true rfl)⟩) hP hD hS hA [] [0, 1, 2] rfl rfl rfl (by decide) (fun r_1 u_2 H locs h_3 hP hD hS => ?_)
  subst h_3
  have hP : va_P g.1 vwCl [(oX10 x0 y0 ta z0 p0 dr pa to_ s0 im ki tr v0 rf), (oX6 p0 p1 p2 p3 p4 w), (aI g p1 24 sd)] H := hP
  have hD : va_D A [(oX10 x0 y0 ta z0 p0 dr pa to_ s0 im ki tr v0 rf), (oX6 p0 p1 p2 p3 p4 w), (aI g p1 24 sd)] := hD
  refine he_top (1) (he_within_1 hok0) ?_
  refine lv_if_eq (tgt := 26) hx hb dX10_nearest_9 (by decide) (fun c_4 => ?_) (fun c_4 => ?_)
  · exact absurd c_4 (by decide)
  · refine lv_iload_n hx hb dX10_nearest_12 rfl (lv_at hl 2 rfl) ?_
    refine lv_iconst (v := 0) hx hb dX10_nearest_13 (by decide) ?_
    refine lv_bipush (v := 99) hx hb dX10_nearest_14 (by decide) ?_
    refine he_ci (wc := []) (wr := [(oX10 x0 y0 ta z0 p0 dr pa to_ s0 im ki tr v0 rf), (oX6 p0 p1 p2 p3 p4 w), (aI g p1 24 sd)]) (va_runS (As := [.int y, .int 0, .int 99]) (rest := [.ref x0]) ⟨hx, hb, hml, hown, hts⟩ (c_X10_within l g y 0 99 H.size) (va_cwS 3 hts gX10_nearest_X10_within rfl rfl rfl (by decide +kernel) ⟨Nat.le_of_ble_eq_true rfl, Nat.le_of_ble_eq_true rfl⟩) (he_preS (wc := []) hK hP hD hS hA hE [] rfl rfl) rfl rfl hl.1 rfl (lv_room (Nat.le_of_ble_eq_true rfl)) dX10_nearest_16 ⟨(Nat.le_of_ble_eq_true rfl), (Nat.le_of_ble_eq_true rfl)⟩) hP hD hS hA [] [0, 1, 2] rfl rfl rfl (by decide) (fun r_5 u_6 H locs h_7 hP hD hS => ?_)
    subst h_7
    have hP : va_P g.1 vwCl [(oX10 x0 y0 ta z0 p0 dr pa to_ s0 im ki tr v0 rf), (oX6 p0 p1 p2 p3 p4 w), (aI g p1 24 sd)] H := hP
    have hD : va_D A [(oX10 x0 y0 ta z0 p0 dr pa to_ s0 im ki tr v0 rf), (oX6 p0 p1 p2 p3 p4 w), (aI g p1 24 sd)] := hD
    refine he_top (1) (he_within_1 hok1) ?_
    refine lv_if_eq (tgt := 26) hx hb dX10_nearest_19 (by decide) (fun c_8 => ?_) (fun c_8 => ?_)
    · exact absurd c_8 (by decide)
    · refine lv_iconst (v := 1) hx hb dX10_nearest_22 (by decide) ?_
      refine lv_goto (tgt := 27) hx hb dX10_nearest_23 (by decide) ?_
      refine he_cv (wc := []) (wr := [(oX10 x0 y0 ta z0 p0 dr pa to_ s0 im ki tr v0 rf), (oX6 p0 p1 p2 p3 p4 w), (aI g p1 24 sd)]) (va_runV (As := [.int 1]) (rest := []) ⟨hx, hb, hml, hown, hts⟩ (c_X10_demand1 l g x0 H.size) (cwV 1 hts gX10_nearest_X10_demand rfl rfl rfl (by decide +kernel) ⟨Nat.le_of_ble_eq_true rfl, Nat.le_of_ble_eq_true rfl⟩) (he_preV (wc := []) hK hP hD hS hA hE [] rfl rfl 0 rfl rfl) rfl rfl hl.1 rfl (lv_room (Nat.le_of_ble_eq_true rfl)) dX10_nearest_27 ⟨(Nat.le_of_ble_eq_true rfl), (Nat.le_of_ble_eq_true rfl)⟩) hP hD hS hA [] [0, 1, 2] rfl rfl rfl (by decide) (fun u_10 H locs h_11 hP hD hS => ?_)
      have hP : va_P g.1 vwCl [(oX10 x0 y0 ta z0 p0 dr pa to_ s0 im ki tr v0 rf), (oX6 p0 p1 p2 p3 p4 w), (aI g p1 24 sd)] H := hP
      have hD : va_D A [(oX10 x0 y0 ta z0 p0 dr pa to_ s0 im ki tr v0 rf), (oX6 p0 p1 p2 p3 p4 w), (aI g p1 24 sd)] := hD
      refine lv_iconst (v := 0) hx hb dX10_nearest_30 (by decide) ?_
      refine lv_istore_n (lv' := [(3, .int 0), (0, .ref x0), (1, .int x), (2, .int y)]) hx hb dX10_nearest_31 rfl hl (by decide) rfl (fun ls hl => ?_)
      have loop32 : ∀ (n9 : Nat) (j : Nat), 10 - j < n9 → (j ≤ 10) → (∀ f9, f9 + j = 10 → neC sd x y 10 0 = neC sd x y f9 j) → ∀ (H : Heap) (locs : List Loc) (ls : Array Slot), va_P g.1 vwCl [(oX10 x0 y0 ta z0 p0 dr pa to_ s0 im ki tr v0 rf), (oX6 p0 p1 p2 p3 p4 w), (aI g p1 24 sd)] H → va_D A [(oX10 x0 y0 ta z0 p0 dr pa to_ s0 im ki tr v0 rf), (oX6 p0 p1 p2 p3 p4 w), (aI g p1 24 sd)] → va_S A s.heap H locs → lv_has ls 4 [(0, .ref x0), (1, .int x), (2, .int y), (3, .int (nI j))] → W p l e (he_room 1 22 0 0) s m args below meth c H locs 0 0 Q (F0 m 32 ls []) := by
        intro n9
        induction n9 with
        | zero => intro j hm9; exact absurd hm9 (Nat.not_lt_zero _)
        | succ n9 ih32 =>
          intro j hm9 hj hnx H locs ls hP hD hS hl
          refine lv_iload_n hx hb dX10_nearest_32 rfl (lv_at hl 3 rfl) ?_
          refine lv_bipush (v := 9) hx hb dX10_nearest_33 (by decide) ?_
          refine lv_icmp_gt (tgt := 59) hx hb dX10_nearest_35 (by decide) (fun c_12 => ?_) (fun c_12 => ?_)
          · have k_13 : 9 < j := (he_clt (a := 9) (b := j) (by decide) rfl (by omega) (by omega)).mp c_12
            refine lv_iconst (v := (-1)) hx hb dX10_nearest_59 (by decide) ?_
            exact he_ri hQ hx hb hr hlk hP hD hS dX10_nearest_60 (Nat.le_of_ble_eq_true rfl) (Nat.le_of_ble_eq_true rfl) (()) (rfl) ((by rw [hnx 0 (by omega)]; rfl))
          · have k_14 : ¬ (9 < j) := fun h9 => c_12 ((he_clt (a := 9) (b := j) (by decide) rfl (by omega) (by omega)).mpr h9)
            refine lv_aload_n hx hb dX10_nearest_38 rfl (lv_at hl 0 rfl) ?_
            refine va_get (v := .ref p0) (T := TX10) (N := 13) hx hb hts inX10 hown hK hP 0 rfl rfl 3 (by decide) f23 (fun _ h9 => h9) rfl dX10_nearest_39 ?_
            refine lv_iload_n hx hb dX10_nearest_42 rfl (lv_at hl 3 rfl) ?_
            refine lv_iload_n hx hb dX10_nearest_43 rfl (lv_at hl 2 rfl) ?_
            refine he_ci (wc := [(oX6 p0 p1 p2 p3 p4 w), (aI g p1 24 sd)]) (wr := [(oX10 x0 y0 ta z0 p0 dr pa to_ s0 im ki tr v0 rf)]) (va_runV (As := [.int (nI j), .int y]) (rest := []) ⟨hx, hb, hml, hown, hts⟩ (c_X6_wanted l g p0 p1 p2 p3 p4 w sd (nI j) y H.size) (cwV 2 hts gX10_nearest_X6_wanted rfl rfl rfl (by decide +kernel) ⟨Nat.le_of_ble_eq_true rfl, Nat.le_of_ble_eq_true rfl⟩) (he_preV (wc := [(oX6 p0 p1 p2 p3 p4 w), (aI g p1 24 sd)]) hK hP hD hS hA hE [1, 2] rfl rfl 1 rfl rfl) rfl rfl hl.1 rfl (lv_room (Nat.le_of_ble_eq_true rfl)) dX10_nearest_44 ⟨(Nat.le_of_ble_eq_true rfl), (Nat.le_of_ble_eq_true rfl)⟩) hP hD hS hA [1, 2] [0] rfl rfl rfl (by decide) (fun r_15 u_16 H locs h_17 hP hD hS => ?_)
            subst h_17
            have hP : va_P g.1 vwCl [(oX10 x0 y0 ta z0 p0 dr pa to_ s0 im ki tr v0 rf), (oX6 p0 p1 p2 p3 p4 w), (aI g p1 24 sd)] H := hP
            have hD : va_D A [(oX10 x0 y0 ta z0 p0 dr pa to_ s0 im ki tr v0 rf), (oX6 p0 p1 p2 p3 p4 w), (aI g p1 24 sd)] := hD
            refine lv_iload_n hx hb dX10_nearest_47 rfl (lv_at hl 1 rfl) ?_
            refine lv_icmp_gt (tgt := 53) hx hb dX10_nearest_48 (by decide) (fun c_18 => ?_) (fun c_18 => ?_)
            · refine lv_iinc (v := nI (j + 1)) (lv' := [(3, .int (nI (j + 1))), (0, .ref x0), (1, .int x), (2, .int y)]) hx hb dX10_nearest_53 hl (k := 3) rfl (nI_1 j) (by decide) rfl (fun ls hl => ?_)
              refine lv_goto (tgt := 32) hx hb dX10_nearest_56 (by decide) ?_
              exact ih32 (j + 1) (by omega) (by omega) (fun f9 h9 => by rw [hnx (f9 + 1) (by omega), neC, if_neg (Int32.not_le.mpr c_18)]) _ _ _ hP hD hS (lv_sub hl [1, 2, 3, 0] rfl)
            · refine lv_iload_n hx hb dX10_nearest_51 rfl (lv_at hl 3 rfl) ?_
              exact he_ri hQ hx hb hr hlk hP hD hS dX10_nearest_52 (Nat.le_of_ble_eq_true rfl) (Nat.le_of_ble_eq_true rfl) (()) (rfl) ((by rw [hnx (9 - j + 1) (by omega), neC, if_pos (Int32.not_lt.mp c_18)]))
      exact loop32 ((10 - 0) + 1) 0 (Nat.lt_succ_self _) (Nat.zero_le _) (fun f9 h9 => by rw [show f9 = 10 by omega]) _ _ _ hP hD hS (lv_sub hl [1, 2, 3, 0] rfl)
end
section
/-- offers as numbers -/
def oA (R : Rw) (d m : Nat) : Nat := if d < 2 ∧ m < 12 then toN (R (30 + d) m) else 0
def okO (R : Rw) : Prop := ∀ d, d < 2 → ∀ m, m < 12 → ∃ a, a ≤ 999 ∧ R (30 + d) m = nI a
theorem oA_I {R : Rw} (h : okO R) {d m : Nat} (hd : d < 2) (hm : m < 12) : R (30 + d) m = nI (oA R d m) := by
  obtain ⟨a, h1, h2⟩ := h d hd m hm
  unfold oA
  rw [if_pos ⟨hd, hm⟩, h2, toN_I (by omega)]
theorem oA_le {R : Rw} (h : okO R) (d m : Nat) : oA R d m ≤ 999 := by
  unfold oA
  by_cases c : d < 2 ∧ m < 12
  · obtain ⟨a, h1, h2⟩ := h d c.1 m c.2
    rw [if_pos c, h2, toN_I (by omega)]
    exact h1
  · rw [if_neg c]; omega
/-- the class's coins -/
def coO (co : Nat → Int32) (o : Nat → Nat → Nat) : Prop := ∀ m, m < 12 → ∀ v, v < 3 → co (m * 3 + v) = nI (if v = 0 then 0 else o (v - 1) m)
theorem bestN_z (w : Nat) : ∀ v, bestN (fun _ => 0) w v = 0
  | 0 => rfl
  | v + 1 => by
    rw [bestN, bestN_z w v]
    split
    · rfl
    · rfl
/-- the class's row: the months from i on -/
def reO (re : Nat → Int32) (o : Nat → Nat → Nat) (i : Nat) : Prop := ∀ m, i ≤ m → m ≤ 12 → ∀ b, b < 3 → re (m * 3 + b) = nI (if m = 12 then 0 else bestN (rsN o (12 - m)) b 3)
theorem thr_e {co re : Nat → Int32} {o : Nat → Nat → Nat} {i j : Nat} (hc : coO co o) (hr : reO re o (i + 1)) (hi : i < 12) (hj : j < 3) : co (i * 3 + j) + re ((i + 1) * 3 + j) = nI (rsN o (12 - i) j) := by
  rw [hc i hi j hj, hr (i + 1) (Nat.le_refl _) (by omega) j hj, rs_val hi]
  have e : (if i + 1 = 12 then 0 else bestN (rsN o (12 - (i + 1))) j 3) = bestN (rsN o (11 - i)) j 3 := by
    by_cases c : i + 1 = 12
    · rw [if_pos c, show 11 - i = 0 by omega]
      exact (bestN_z j 3).symm
    · rw [if_neg c, show 12 - (i + 1) = 11 - i by omega]
  rw [e, nI_add, Nat.add_comm]
theorem mx_f {f : Nat → Nat} {j k : Nat} {mx : Int32} (hm : ¬ mfF j k = 0) (hmx : mx = nI (bestN f j k)) (h1 : bestN f j k < 2147483648) (h2 : f k < 2147483648) : (if mx < nI (f k) then nI (f k) else mx) = nI (bestN f j (k + 1)) := by
  rw [hmx]
  by_cases c : bestN f j k < f k
  · rw [if_pos ((nI_ltI h1 h2).mpr c), best_t hm c]
  · rw [if_neg (fun h9 => c ((nI_ltI h1 h2).mp h9)), best_f c]
theorem reO_s {re : Nat → Int32} {o : Nat → Nat → Nat} {i : Nat} (h : reO re o (i + 1)) (hr : ∀ b, b < 3 → re (i * 3 + b) = nI (bestN (rsN o (12 - i)) b 3)) (hi : i < 12) : reO re o i := by
  intro m h1 h2 b hb
  by_cases e : m = i
  · rw [e, if_neg (by omega)]; exact hr b hb
  · exact h m (by omega) h2 b hb
theorem reO_k {re : Nat → Int32} {o : Nat → Nat → Nat} {i p : Nat} {v : Int32} (h : reO re o (i + 1)) (hp : p < (i + 1) * 3) : reO (upd re p v) o (i + 1) := by
  intro m h1 h2 b hb
  rw [upd_n (by omega)]
  exact h m h1 h2 b hb
theorem row_s {re f : Nat → Int32} {p j : Nat} {v : Int32} (h : ∀ b, b < j → re (p + b) = f b) (hv : v = f j) : ∀ b, b < j + 1 → upd re (p + j) v (p + b) = f b := by
  intro b hb
  by_cases e : b = j
  · rw [e, upd_s]; exact hv
  · rw [upd_n (by omega)]; exact h b (by omega)
theorem reO_12 {re : Nat → Int32} {o : Nat → Nat → Nat} (h : ∀ b, b < 3 → re (36 + b) = 0) : reO re o 12 := by
  intro m h1 h2 b hb
  rw [show m = 12 by omega, if_pos rfl]
  exact h b hb
theorem reO_36 {re : Nat → Int32} {o : Nat → Nat → Nat} {i : Nat} (h : reO re o i) (hi : i ≤ 12) : ∀ b, b < 3 → re (36 + b) = 0 := fun b hb => h 12 hi (by decide) b hb
/-- the first way that may follow b and comes to t -/
def fwN (f : Nat → Nat) (b t : Nat) : Nat → Nat → Nat
  | 0, _ => 0
  | n + 1, j => if (b = 0 ∨ j = 0 ∨ b = j) ∧ f j = t then j else fwN f b t n (j + 1)
theorem fw_n {f : Nat → Nat} {b t j x : Nat} (h : x = fwN f b t (3 - j) j) (hj : j < 3) (hn : mfF b j = 0 ∨ ¬ f j = t) : x = fwN f b t (3 - (j + 1)) (j + 1) := by
  rw [h, show 3 - j = (3 - (j + 1)) + 1 by omega, fwN, if_neg]
  rintro ⟨h1, h2⟩
  rcases hn with h9 | h9
  · unfold mfF at h9
    rw [if_pos h1] at h9
    exact absurd h9 (by decide)
  · exact h9 h2
theorem fw_y {f : Nat → Nat} {b t j x : Nat} (h : x = fwN f b t (3 - j) j) (hj : j < 3) (h1 : ¬ mfF b j = 0) (h2 : f j = t) : x = j := by
  rw [h, show 3 - j = (3 - (j + 1)) + 1 by omega, fwN, if_pos ⟨mf_of h1, h2⟩]
theorem fw_lt (f : Nat → Nat) (b t : Nat) : ∀ n j, n + j ≤ 3 → fwN f b t n j < 3
  | 0, _, _ => by rw [fwN]; decide
  | n + 1, j, h => by
    rw [fwN]
    split
    · omega
    · exact fw_lt f b t n (j + 1) (by omega)
/-- whom he serves behind j months -/
def svN (o : Nat → Nat → Nat) : Nat → Nat
  | 0 => 0
  | j + 1 => fwN (rsN o (12 - j)) (svN o j) (bestN (rsN o (12 - j)) (svN o j) 3) 3 0
theorem sv_lt (o : Nat → Nat → Nat) : ∀ j, svN o j < 3
  | 0 => by rw [svN]; decide
  | j + 1 => by rw [svN]; exact fw_lt _ _ _ 3 0 (by decide)
theorem rsN_b {o : Nat → Nat → Nat} (ho : ∀ d m, o d m ≤ 999) {i : Nat} (v : Nat) : rsN o (12 - i) v < 2147483648 := by
  have := rsN_le ho (12 - i) v
  omega
theorem bsN_b {o : Nat → Nat → Nat} (ho : ∀ d m, o d m ≤ 999) {i b k : Nat} (hk : k ≤ 3) : bestN (rsN o (12 - i)) b k < 2147483648 := by
  have := bestN_le (f := rsN o (12 - i)) (w := b) (fun v _ => rsN_le ho (12 - i) v) k hk
  omega
set_option maxHeartbeats 4000000 in
set_option maxRecDepth 100000 in
theorem s_X3_through (l : Launch) (g : he_G) (e0 : Nat) (e1 : Nat) (e2 : Nat) (co : Nat → Int32) (re_ : Nat → Int32) (o : Nat → Nat → Nat) (i : Nat) (j : Nat) (hi : i < 12) (hj : j < 3) (hco : coO co o) (hre : reO re_ o (i + 1)) : he_I l yX3_through wsX3_through 0 0 0 0 g [.ref e0, .int (nI i), .int (nI j)] [(oX3 e0 e1 e2), (aI g e1 36 co), (aI g e2 39 re_)] (fun (r : Int32) (u : Unit) => r = nI (rsN o (12 - i) j)) (fun (u : Unit) => [(oX3 e0 e1 e2), (aI g e1 36 co), (aI g e2 39 re_)]) := by
  refine he_begin (l := l) (g := g) (y := yX3_through) (wl := wsX3_through) (fr := 0) (lo := 0) (mc := 0) (ms := 0) (av := [.ref e0, .int (nI i), .int (nI j)]) (ws := [(oX3 e0 e1 e2), (aI g e1 36 co), (aI g e2 39 re_)]) (cc := cX3_through) (maxL := 3) (ret := (some .int)) (fun A => va_Qi (fun (r : Int32) (u : Unit) => r = nI (rsN o (12 - i) j)) (fun u t => he_post g A ((fun (u : Unit) => [(oX3 e0 e1 e2), (aI g e1 36 co), (aI g e2 39 re_)]) u) t) A) (by decide) rfl (Nat.le_of_ble_eq_true rfl) ?_
  intro p e s m args below meth c A ls H locs Q hQ hB
  obtain ⟨hx, hb, hr, hml, hown, hts, hlk, hin, hP, hK, hD, hS, hA, hE, hl⟩ := hB
  have hl : lv_has ls 3 [(0, .ref e0), (1, .int (nI i)), (2, .int (nI j))] := hl
  have f9 := hts (.fieldLink RX3 9 "HiredEnemy$Bids" "coins" "[I") (iwoX3_through (k := 0) rfl)
  have inX3 : ∀ w ∈ wsX30, w ∈ wsX3_through := innX3_through_X3
  have f13 := hts (.fieldLink RX3 13 "HiredEnemy$Bids" "rest" "[I") (iwoX3_through (k := 1) rfl)
  refine lv_aload_n hx hb dX3_through_0 rfl (lv_at hl 0 rfl) ?_
  refine va_get (v := .ref e1) (T := TX3) (N := 2) hx hb hts inX3 hown hK hP 0 rfl rfl 0 (by decide) f9 (fun _ h9 => h9) rfl dX3_through_1 ?_
  refine lv_iload_n hx hb dX3_through_4 rfl (lv_at hl 1 rfl) ?_
  refine lv_iconst (v := 3) hx hb dX3_through_5 (by decide) ?_
  refine lv_imul hx hb dX3_through_6 ?_
  refine he_top (nI (i * 3)) (pk_mul i 3) ?_
  refine lv_iload_n hx hb dX3_through_7 rfl (lv_at hl 2 rfl) ?_
  refine lv_iadd hx hb dX3_through_8 ?_
  refine he_top (nI (i * 3 + j)) (nI_add (i * 3) j) ?_
  refine he_iald hx hb hK hP 1 rfl (i * 3 + j) rfl (by first | assumption | decide | omega) (by first | decide | assumption) (co (i * 3 + j)) rfl dX3_through_9 ?_
  refine lv_aload_n hx hb dX3_through_10 rfl (lv_at hl 0 rfl) ?_
  refine va_get (v := .ref e2) (T := TX3) (N := 2) hx hb hts inX3 hown hK hP 0 rfl rfl 1 (by decide) f13 (fun _ h9 => h9) rfl dX3_through_11 ?_
  refine lv_iload_n hx hb dX3_through_14 rfl (lv_at hl 1 rfl) ?_
  refine lv_iconst (v := 1) hx hb dX3_through_15 (by decide) ?_
  refine lv_iadd hx hb dX3_through_16 ?_
  refine he_top (nI (i + 1)) (nI_add i 1) ?_
  refine lv_iconst (v := 3) hx hb dX3_through_17 (by decide) ?_
  refine lv_imul hx hb dX3_through_18 ?_
  refine he_top (nI ((i + 1) * 3)) (pk_mul (i + 1) 3) ?_
  refine lv_iload_n hx hb dX3_through_19 rfl (lv_at hl 2 rfl) ?_
  refine lv_iadd hx hb dX3_through_20 ?_
  refine he_top (nI ((i + 1) * 3 + j)) (nI_add ((i + 1) * 3) j) ?_
  refine he_iald hx hb hK hP 2 rfl ((i + 1) * 3 + j) rfl (by first | assumption | decide | omega) (by first | decide | assumption) (re_ ((i + 1) * 3 + j)) rfl dX3_through_21 ?_
  refine lv_iadd hx hb dX3_through_22 ?_
  exact he_ri hQ hx hb hr hlk hP hD hS dX3_through_23 (Nat.le_of_ble_eq_true rfl) (Nat.le_of_ble_eq_true rfl) (()) (rfl) ((thr_e hco hre hi hj))
set_option maxHeartbeats 4000000 in
set_option maxRecDepth 100000 in
theorem s_X3_mostFrom (l : Launch) (g : he_G) (e0 : Nat) (e1 : Nat) (e2 : Nat) (co : Nat → Int32) (re_ : Nat → Int32) (o : Nat → Nat → Nat) (i : Nat) (j : Nat) (hi : i < 12) (hj : j < 3) (hco : coO co o) (hob : ∀ d m, o d m ≤ 999) (hre : reO re_ o (i + 1)) : he_I l yX3_mostFrom wsX3_mostFrom 1 22 0 0 g [.ref e0, .int (nI i), .int (nI j)] [(oX3 e0 e1 e2), (aI g e1 36 co), (aI g e2 39 re_)] (fun (r : Int32) (u : Unit) => r = nI (bestN (rsN o (12 - i)) j 3)) (fun (u : Unit) => [(oX3 e0 e1 e2), (aI g e1 36 co), (aI g e2 39 re_)]) := by
  refine he_begin (l := l) (g := g) (y := yX3_mostFrom) (wl := wsX3_mostFrom) (fr := 1) (lo := 22) (mc := 0) (ms := 0) (av := [.ref e0, .int (nI i), .int (nI j)]) (ws := [(oX3 e0 e1 e2), (aI g e1 36 co), (aI g e2 39 re_)]) (cc := cX3_mostFrom) (maxL := 5) (ret := (some .int)) (fun A => va_Qi (fun (r : Int32) (u : Unit) => r = nI (bestN (rsN o (12 - i)) j 3)) (fun u t => he_post g A ((fun (u : Unit) => [(oX3 e0 e1 e2), (aI g e1 36 co), (aI g e2 39 re_)]) u) t) A) (by decide) rfl (Nat.le_of_ble_eq_true rfl) ?_
  intro p e s m args below meth c A ls H locs Q hQ hB
  obtain ⟨hx, hb, hr, hml, hown, hts, hlk, hin, hP, hK, hD, hS, hA, hE, hl⟩ := hB
  have hl : lv_has ls 5 [(0, .ref e0), (1, .int (nI i)), (2, .int (nI j))] := hl
  have ml33 := hts (.methodLink RX3 33 Lib.Math.max.name) (iwoX3_mostFrom (k := 0) rfl)
  have msmax := hts (.static Lib.Math.max.name) (iwoX3_mostFrom (k := 1) rfl)
  have mi := hts (.initialized "java/lang/Math") (iwoX3_mostFrom (k := 2) rfl)
  have mcmax := hts (.code Lib.Math.max.name Lib.Math.max.code 2 (some .int)) (iwoX3_mostFrom (k := 3) rfl)
  refine lv_iconst (v := 0) hx hb dX3_mostFrom_0 (by decide) ?_
  refine lv_istore_n (lv' := [(3, .int 0), (0, .ref e0), (1, .int (nI i)), (2, .int (nI j))]) hx hb dX3_mostFrom_1 rfl hl (by decide) rfl (fun ls hl => ?_)
  refine lv_iconst (v := 0) hx hb dX3_mostFrom_2 (by decide) ?_
  refine lv_istore (lv' := [(4, .int 0), (3, .int 0), (0, .ref e0), (1, .int (nI i)), (2, .int (nI j))]) hx hb dX3_mostFrom_3 hl (by decide) rfl (fun ls hl => ?_)
  have loop5 : ∀ (n9 : Nat) (k : Nat) (mx : Int32), 3 - k < n9 → (k ≤ 3) → (mx = nI (bestN (rsN o (12 - i)) j k)) → ∀ (H : Heap) (locs : List Loc) (ls : Array Slot), va_P g.1 vwCl [(oX3 e0 e1 e2), (aI g e1 36 co), (aI g e2 39 re_)] H → va_D A [(oX3 e0 e1 e2), (aI g e1 36 co), (aI g e2 39 re_)] → va_S A s.heap H locs → lv_has ls 5 [(0, .ref e0), (1, .int (nI i)), (2, .int (nI j)), (3, .int mx), (4, .int (nI k))] → W p l e (he_room 1 22 0 0) s m args below meth c H locs 0 0 Q (F0 m 5 ls []) := by
    intro n9
    induction n9 with
    | zero => intro k mx hm9; exact absurd hm9 (Nat.not_lt_zero _)
    | succ n9 ih5 =>
      intro k mx hm9 hk hmx H locs ls hP hD hS hl
      refine lv_iload hx hb dX3_mostFrom_5 (lv_at hl 4 rfl) ?_
      refine lv_iconst (v := 3) hx hb dX3_mostFrom_7 (by decide) ?_
      refine lv_icmp_ge (tgt := 38) hx hb dX3_mostFrom_8 (by decide) (fun c_1 => ?_) (fun c_1 => ?_)
      · have k_2 : 3 ≤ k := (he_cle (a := 3) (b := k) (by decide) rfl (by omega) (by omega)).mp c_1
        refine lv_iload_n hx hb dX3_mostFrom_38 rfl (lv_at hl 3 rfl) ?_
        exact he_ri hQ hx hb hr hlk hP hD hS dX3_mostFrom_39 (Nat.le_of_ble_eq_true rfl) (Nat.le_of_ble_eq_true rfl) (()) (rfl) ((hmx.trans (by rw [show k = 3 by omega])))
      · have k_3 : ¬ (3 ≤ k) := fun h9 => c_1 ((he_cle (a := 3) (b := k) (by decide) rfl (by omega) (by omega)).mpr h9)
        refine lv_iload_n hx hb dX3_mostFrom_11 rfl (lv_at hl 2 rfl) ?_
        refine lv_iload hx hb dX3_mostFrom_12 (lv_at hl 4 rfl) ?_
        refine he_ci (wc := []) (wr := [(oX3 e0 e1 e2), (aI g e1 36 co), (aI g e2 39 re_)]) (va_runS (As := [.int (nI j), .int (nI k)]) (rest := []) ⟨hx, hb, hml, hown, hts⟩ (c_X3_mayFollow l g j k (by first | assumption | decide | omega) (by first | assumption | decide | omega) H.size) (va_cwS 2 hts gX3_mostFrom_X3_mayFollow rfl rfl rfl (by decide +kernel) ⟨Nat.le_of_ble_eq_true rfl, Nat.le_of_ble_eq_true rfl⟩) (he_preS (wc := []) hK hP hD hS hA hE [] rfl rfl) rfl rfl hl.1 rfl (lv_room (Nat.le_of_ble_eq_true rfl)) dX3_mostFrom_14 ⟨(Nat.le_of_ble_eq_true rfl), (Nat.le_of_ble_eq_true rfl)⟩) hP hD hS hA [] [0, 1, 2] rfl rfl rfl (by decide) (fun r_4 u_5 H locs h_6 hP hD hS => ?_)
        subst h_6
        have hP : va_P g.1 vwCl [(oX3 e0 e1 e2), (aI g e1 36 co), (aI g e2 39 re_)] H := hP
        have hD : va_D A [(oX3 e0 e1 e2), (aI g e1 36 co), (aI g e2 39 re_)] := hD
        refine lv_if_eq (tgt := 32) hx hb dX3_mostFrom_17 (by decide) (fun c_7 => ?_) (fun c_7 => ?_)
        · refine lv_iinc (v := nI (k + 1)) (lv' := [(4, .int (nI (k + 1))), (0, .ref e0), (1, .int (nI i)), (2, .int (nI j)), (3, .int mx)]) hx hb dX3_mostFrom_32 hl (k := 4) rfl (nI_1 k) (by decide) rfl (fun ls hl => ?_)
          refine lv_goto (tgt := 5) hx hb dX3_mostFrom_35 (by decide) ?_
          exact ih5 (k + 1) mx (by omega) (by omega) (hmx.trans (by rw [best_n c_7])) _ _ _ hP hD hS (lv_sub hl [1, 2, 3, 4, 0] rfl)
        · refine lv_iload_n hx hb dX3_mostFrom_20 rfl (lv_at hl 3 rfl) ?_
          refine lv_aload_n hx hb dX3_mostFrom_21 rfl (lv_at hl 0 rfl) ?_
          refine lv_iload_n hx hb dX3_mostFrom_22 rfl (lv_at hl 1 rfl) ?_
          refine lv_iload hx hb dX3_mostFrom_23 (lv_at hl 4 rfl) ?_
          refine he_ci (wc := [(oX3 e0 e1 e2), (aI g e1 36 co), (aI g e2 39 re_)]) (wr := []) (va_runV (As := [.int (nI i), .int (nI k)]) (rest := [.int mx]) ⟨hx, hb, hml, hown, hts⟩ (s_X3_through l g e0 e1 e2 co re_ o i k (by first | assumption | decide | omega) (by first | assumption | decide | omega) (by first | assumption | decide | omega) (by first | assumption | decide | omega) H.size) (cwV 2 hts gX3_mostFrom_X3_through rfl rfl rfl (by decide +kernel) ⟨Nat.le_of_ble_eq_true rfl, Nat.le_of_ble_eq_true rfl⟩) (he_preV (wc := [(oX3 e0 e1 e2), (aI g e1 36 co), (aI g e2 39 re_)]) hK hP hD hS hA hE [0, 1, 2] rfl rfl 0 rfl rfl) rfl rfl hl.1 rfl (lv_room (Nat.le_of_ble_eq_true rfl)) dX3_mostFrom_25 ⟨(Nat.le_of_ble_eq_true rfl), (Nat.le_of_ble_eq_true rfl)⟩) hP hD hS hA [0, 1, 2] [] rfl rfl rfl (by decide) (fun r_8 u_9 H locs h_10 hP hD hS => ?_)
          subst h_10
          have hP : va_P g.1 vwCl [(oX3 e0 e1 e2), (aI g e1 36 co), (aI g e2 39 re_)] H := hP
          have hD : va_D A [(oX3 e0 e1 e2), (aI g e1 36 co), (aI g e2 39 re_)] := hD
          refine va_mmax hx hb (by rw [hml]; exact hl.1.symm) hown ml33 msmax mi mcmax (by decide) (Nat.le_of_ble_eq_true rfl) (Nat.le_of_ble_eq_true rfl) (Nat.le_of_ble_eq_true rfl) dX3_mostFrom_28 ?_
          refine lv_istore_n (lv' := [(3, .int (if mx < (nI (rsN o (12 - i) k)) then nI (rsN o (12 - i) k) else mx)), (0, .ref e0), (1, .int (nI i)), (2, .int (nI j)), (4, .int (nI k))]) hx hb dX3_mostFrom_31 rfl hl (by decide) rfl (fun ls hl => ?_)
          refine lv_iinc (v := nI (k + 1)) (lv' := [(4, .int (nI (k + 1))), (3, .int (if mx < (nI (rsN o (12 - i) k)) then nI (rsN o (12 - i) k) else mx)), (0, .ref e0), (1, .int (nI i)), (2, .int (nI j))]) hx hb dX3_mostFrom_32 hl (k := 4) rfl (nI_1 k) (by decide) rfl (fun ls hl => ?_)
          refine lv_goto (tgt := 5) hx hb dX3_mostFrom_35 (by decide) ?_
          exact ih5 (k + 1) (if mx < (nI (rsN o (12 - i) k)) then nI (rsN o (12 - i) k) else mx) (by omega) (by omega) (mx_f (f := rsN o (12 - i)) c_7 hmx (bsN_b hob (by omega)) (rsN_b hob k)) _ _ _ hP hD hS (lv_sub hl [2, 3, 4, 1, 0] rfl)
  exact loop5 ((3 - 0) + 1) 0 0 (Nat.lt_succ_self _) (Nat.zero_le _) rfl _ _ _ hP hD hS (lv_sub hl [2, 3, 4, 1, 0] rfl)
set_option maxHeartbeats 4000000 in
set_option maxRecDepth 100000 in
theorem s_X3_mostCoin (l : Launch) (g : he_G) (e0 : Nat) (e1 : Nat) (e2 : Nat) (co : Nat → Int32) (re_ : Nat → Int32) (o : Nat → Nat → Nat) (hco : coO co o) (hob : ∀ d m, o d m ≤ 999) (h36 : ∀ b, b < 3 → re_ (36 + b) = 0) : he_I l yX3_mostCoin wsX3_mostCoin 2 46 0 0 g [.ref e0] [(oX3 e0 e1 e2), (aI g e1 36 co), (aI g e2 39 re_)] (fun (r : Int32) (u : Nat → Int32) => r = nI (bestN (rsN o 12) 0 3) ∧ reO u o 0) (fun (u : Nat → Int32) => [(oX3 e0 e1 e2), (aI g e1 36 co), (aI g e2 39 u)]) := by
  refine he_begin (l := l) (g := g) (y := yX3_mostCoin) (wl := wsX3_mostCoin) (fr := 2) (lo := 46) (mc := 0) (ms := 0) (av := [.ref e0]) (ws := [(oX3 e0 e1 e2), (aI g e1 36 co), (aI g e2 39 re_)]) (cc := cX3_mostCoin) (maxL := 3) (ret := (some .int)) (fun A => va_Qi (fun (r : Int32) (u : Nat → Int32) => r = nI (bestN (rsN o 12) 0 3) ∧ reO u o 0) (fun u t => he_post g A ((fun (u : Nat → Int32) => [(oX3 e0 e1 e2), (aI g e1 36 co), (aI g e2 39 u)]) u) t) A) (by decide) rfl (Nat.le_of_ble_eq_true rfl) ?_
  intro p e s m args below meth c A ls H locs Q hQ hB
  obtain ⟨hx, hb, hr, hml, hown, hts, hlk, hin, hP, hK, hD, hS, hA, hE, hl⟩ := hB
  have hl : lv_has ls 3 [(0, .ref e0)] := hl
  have f13 := hts (.fieldLink RX3 13 "HiredEnemy$Bids" "rest" "[I") (iwoX3_mostCoin (k := 0) rfl)
  have inX3 : ∀ w ∈ wsX30, w ∈ wsX3_mostCoin := innX3_mostCoin_X3
  refine lv_bipush (v := 11) hx hb dX3_mostCoin_0 (by decide) ?_
  refine lv_istore_n (lv' := [(1, .int 11), (0, .ref e0)]) hx hb dX3_mostCoin_2 rfl hl (by decide) rfl (fun ls hl => ?_)
  have loop3 : ∀ (n9 : Nat) (i : Nat) (mo : Int32) (rj : Nat → Int32), i < n9 → (i ≤ 12) → (mo = nI i - 1) → (reO rj o i) → ∀ (H : Heap) (locs : List Loc) (ls : Array Slot), va_P g.1 vwCl [(oX3 e0 e1 e2), (aI g e1 36 co), (aI g e2 39 rj)] H → va_D A [(oX3 e0 e1 e2), (aI g e1 36 co), (aI g e2 39 rj)] → va_S A s.heap H locs → lv_has ls 3 [(0, .ref e0), (1, .int mo)] → W p l e (he_room 2 46 0 0) s m args below meth c H locs 0 0 Q (F0 m 3 ls []) := by
    intro n9
    induction n9 with
    | zero => intro i mo rj hm9; exact absurd hm9 (Nat.not_lt_zero _)
    | succ n9 ih3 =>
      intro i mo rj hm9 hi hmo hre H locs ls hP hD hS hl
      refine lv_iload_n hx hb dX3_mostCoin_3 rfl (lv_at hl 1 rfl) ?_
      refine lv_if_lt (tgt := 42) hx hb dX3_mostCoin_4 (by decide) (fun c_1 => ?_) (fun c_1 => ?_)
      · refine lv_aload_n hx hb dX3_mostCoin_42 rfl (lv_at hl 0 rfl) ?_
        refine va_get (v := .ref e2) (T := TX3) (N := 2) hx hb hts inX3 hown hK hP 0 rfl rfl 1 (by decide) f13 (fun _ h9 => h9) rfl dX3_mostCoin_43 ?_
        refine lv_iconst (v := 0) hx hb dX3_mostCoin_46 (by decide) ?_
        refine he_iald hx hb hK hP 2 rfl (0) (by decide) (by decide) (by first | decide | assumption) (rj 0) rfl dX3_mostCoin_47 ?_
        exact he_ri hQ hx hb hr hlk hP hD hS dX3_mostCoin_48 (Nat.le_of_ble_eq_true rfl) (Nat.le_of_ble_eq_true rfl) (rj) (rfl) ((by have e9 := dn0 hmo c_1 (by omega); subst e9; exact ⟨hre 0 (Nat.le_refl 0) (by decide) 0 (by decide), hre⟩))
      · obtain ⟨k, rfl, rfl⟩ := he_down hmo c_1
        refine lv_iconst (v := 0) hx hb dX3_mostCoin_7 (by decide) ?_
        refine lv_istore_n (lv' := [(2, .int 0), (0, .ref e0), (1, .int (nI k))]) hx hb dX3_mostCoin_8 rfl hl (by decide) rfl (fun ls hl => ?_)
        have loop9 : ∀ (n9 : Nat) (j : Nat) (rj : Nat → Int32), 3 - j < n9 → (j ≤ 3) → (reO rj o (k + 1)) → (∀ b, b < j → rj (k * 3 + b) = nI (bestN (rsN o (12 - k)) b 3)) → ∀ (H : Heap) (locs : List Loc) (ls : Array Slot), va_P g.1 vwCl [(oX3 e0 e1 e2), (aI g e1 36 co), (aI g e2 39 rj)] H → va_D A [(oX3 e0 e1 e2), (aI g e1 36 co), (aI g e2 39 rj)] → va_S A s.heap H locs → lv_has ls 3 [(0, .ref e0), (1, .int (nI k)), (2, .int (nI j))] → W p l e (he_room 2 46 0 0) s m args below meth c H locs 0 0 Q (F0 m 9 ls []) := by
          intro n9
          induction n9 with
          | zero => intro j rj hm9; exact absurd hm9 (Nat.not_lt_zero _)
          | succ n9 ih9 =>
            intro j rj hm9 hj hre hrw H locs ls hP hD hS hl
            refine lv_iload_n hx hb dX3_mostCoin_9 rfl (lv_at hl 2 rfl) ?_
            refine lv_iconst (v := 3) hx hb dX3_mostCoin_10 (by decide) ?_
            refine lv_icmp_ge (tgt := 36) hx hb dX3_mostCoin_11 (by decide) (fun c_2 => ?_) (fun c_2 => ?_)
            · have k_3 : 3 ≤ j := (he_cle (a := 3) (b := j) (by decide) rfl (by omega) (by omega)).mp c_2
              refine lv_iinc (v := nI k + (-1)) (lv' := [(1, .int (nI k + (-1))), (0, .ref e0), (2, .int (nI j))]) hx hb dX3_mostCoin_36 hl (k := 1) rfl rfl (by decide) rfl (fun ls hl => ?_)
              refine lv_goto (tgt := 3) hx hb dX3_mostCoin_39 (by decide) ?_
              exact ih3 k (nI k + (-1)) rj (by omega) (by omega) (he_dec k) (reO_s hre (fun b hb => hrw b (by omega)) (by omega)) _ _ _ hP hD hS (lv_sub hl [1, 0] rfl)
            · have k_4 : ¬ (3 ≤ j) := fun h9 => c_2 ((he_cle (a := 3) (b := j) (by decide) rfl (by omega) (by omega)).mpr h9)
              refine lv_aload_n hx hb dX3_mostCoin_14 rfl (lv_at hl 0 rfl) ?_
              refine va_get (v := .ref e2) (T := TX3) (N := 2) hx hb hts inX3 hown hK hP 0 rfl rfl 1 (by decide) f13 (fun _ h9 => h9) rfl dX3_mostCoin_15 ?_
              refine lv_iload_n hx hb dX3_mostCoin_18 rfl (lv_at hl 1 rfl) ?_
              refine lv_iconst (v := 3) hx hb dX3_mostCoin_19 (by decide) ?_
              refine lv_imul hx hb dX3_mostCoin_20 ?_
              refine he_top (nI (k * 3)) (pk_mul k 3) ?_
              refine lv_iload_n hx hb dX3_mostCoin_21 rfl (lv_at hl 2 rfl) ?_
              refine lv_iadd hx hb dX3_mostCoin_22 ?_
              refine he_top (nI (k * 3 + j)) (nI_add (k * 3) j) ?_
              refine lv_aload_n hx hb dX3_mostCoin_23 rfl (lv_at hl 0 rfl) ?_
              refine lv_iload_n hx hb dX3_mostCoin_24 rfl (lv_at hl 1 rfl) ?_
              refine lv_iload_n hx hb dX3_mostCoin_25 rfl (lv_at hl 2 rfl) ?_
              refine he_ci (wc := [(oX3 e0 e1 e2), (aI g e1 36 co), (aI g e2 39 rj)]) (wr := []) (va_runV (As := [.int (nI k), .int (nI j)]) (rest := [.int (nI (k * 3 + j)), .ref e2]) ⟨hx, hb, hml, hown, hts⟩ (s_X3_mostFrom l g e0 e1 e2 co rj o k j (by first | assumption | decide | omega) (by first | assumption | decide | omega) (by first | assumption | decide | omega) (by first | assumption | decide | omega) (by first | assumption | decide | omega) H.size) (cwV 2 hts gX3_mostCoin_X3_mostFrom rfl rfl rfl (by decide +kernel) ⟨Nat.le_of_ble_eq_true rfl, Nat.le_of_ble_eq_true rfl⟩) (he_preV (wc := [(oX3 e0 e1 e2), (aI g e1 36 co), (aI g e2 39 rj)]) hK hP hD hS hA hE [0, 1, 2] rfl rfl 0 rfl rfl) rfl rfl hl.1 rfl (lv_room (Nat.le_of_ble_eq_true rfl)) dX3_mostCoin_26 ⟨(Nat.le_of_ble_eq_true rfl), (Nat.le_of_ble_eq_true rfl)⟩) hP hD hS hA [0, 1, 2] [] rfl rfl rfl (by decide) (fun r_5 u_6 H locs h_7 hP hD hS => ?_)
              subst h_7
              have hP : va_P g.1 vwCl [(oX3 e0 e1 e2), (aI g e1 36 co), (aI g e2 39 rj)] H := hP
              have hD : va_D A [(oX3 e0 e1 e2), (aI g e1 36 co), (aI g e2 39 rj)] := hD
              refine he_iast hx hb hK hP hD hS 2 rfl (k * 3 + j) rfl (by first | assumption | decide | omega) (by first | decide | assumption) dX3_mostCoin_29 (fun H locs hP hD hS => ?_)
              have hP : va_P g.1 vwCl [(oX3 e0 e1 e2), (aI g e1 36 co), (aI g e2 39 (upd rj (k * 3 + j) (nI (bestN (rsN o (12 - k)) j 3))))] H := hP
              have hD : va_D A [(oX3 e0 e1 e2), (aI g e1 36 co), (aI g e2 39 (upd rj (k * 3 + j) (nI (bestN (rsN o (12 - k)) j 3))))] := hD
              refine lv_iinc (v := nI (j + 1)) (lv' := [(2, .int (nI (j + 1))), (0, .ref e0), (1, .int (nI k))]) hx hb dX3_mostCoin_30 hl (k := 2) rfl (nI_1 j) (by decide) rfl (fun ls hl => ?_)
              refine lv_goto (tgt := 9) hx hb dX3_mostCoin_33 (by decide) ?_
              exact ih9 (j + 1) (upd rj (k * 3 + j) (nI (bestN (rsN o (12 - k)) j 3))) (by omega) (by omega) (reO_k hre (by omega)) (row_s (f := fun b => nI (bestN (rsN o (12 - k)) b 3)) hrw rfl) _ _ _ hP hD hS (lv_sub hl [1, 2, 0] rfl)
        exact loop9 ((3 - 0) + 1) 0 rj (Nat.lt_succ_self _) (Nat.zero_le _) hre (fun b hb => absurd hb (Nat.not_lt_zero b)) _ _ _ hP hD hS (lv_sub hl [1, 2, 0] rfl)
  exact loop3 ((12) + 1) 12 11 re_ (Nat.lt_succ_self _) (by decide) (by decide) (reO_12 h36) _ _ _ hP hD hS (lv_sub hl [1, 0] rfl)
set_option maxHeartbeats 4000000 in
set_option maxRecDepth 100000 in
theorem s_X3_firstWay (l : Launch) (g : he_G) (e0 : Nat) (e1 : Nat) (e2 : Nat) (co : Nat → Int32) (re_ : Nat → Int32) (o : Nat → Nat → Nat) (i : Nat) (b : Nat) (hi : i < 12) (hb9 : b < 3) (hco : coO co o) (hob : ∀ d m, o d m ≤ 999) (hre : reO re_ o i) : he_I l yX3_firstWay wsX3_firstWay 1 22 0 0 g [.ref e0, .int (nI i), .int (nI b)] [(oX3 e0 e1 e2), (aI g e1 36 co), (aI g e2 39 re_)] (fun (r : Int32) (u : Unit) => r = nI (fwN (rsN o (12 - i)) b (bestN (rsN o (12 - i)) b 3) 3 0)) (fun (u : Unit) => [(oX3 e0 e1 e2), (aI g e1 36 co), (aI g e2 39 re_)]) := by
  refine he_begin (l := l) (g := g) (y := yX3_firstWay) (wl := wsX3_firstWay) (fr := 1) (lo := 22) (mc := 0) (ms := 0) (av := [.ref e0, .int (nI i), .int (nI b)]) (ws := [(oX3 e0 e1 e2), (aI g e1 36 co), (aI g e2 39 re_)]) (cc := cX3_firstWay) (maxL := 4) (ret := (some .int)) (fun A => va_Qi (fun (r : Int32) (u : Unit) => r = nI (fwN (rsN o (12 - i)) b (bestN (rsN o (12 - i)) b 3) 3 0)) (fun u t => he_post g A ((fun (u : Unit) => [(oX3 e0 e1 e2), (aI g e1 36 co), (aI g e2 39 re_)]) u) t) A) (by decide) rfl (Nat.le_of_ble_eq_true rfl) ?_
  intro p e s m args below meth c A ls H locs Q hQ hB
  obtain ⟨hx, hb, hr, hml, hown, hts, hlk, hin, hP, hK, hD, hS, hA, hE, hl⟩ := hB
  have hl : lv_has ls 4 [(0, .ref e0), (1, .int (nI i)), (2, .int (nI b))] := hl
  have hre9 : re_ (i * 3 + b) = nI (bestN (rsN o (12 - i)) b 3) := (hre i (Nat.le_refl i) (by omega) b hb9).trans (by rw [if_neg (by omega)])
  have f13 := hts (.fieldLink RX3 13 "HiredEnemy$Bids" "rest" "[I") (iwoX3_firstWay (k := 0) rfl)
  have inX3 : ∀ w ∈ wsX30, w ∈ wsX3_firstWay := innX3_firstWay_X3
  refine lv_iconst (v := 0) hx hb dX3_firstWay_0 (by decide) ?_
  refine lv_istore_n (lv' := [(3, .int 0), (0, .ref e0), (1, .int (nI i)), (2, .int (nI b))]) hx hb dX3_firstWay_1 rfl hl (by decide) rfl (fun ls hl => ?_)
  have loop2 : ∀ (n9 : Nat) (j : Nat), 3 - j < n9 → (j ≤ 3) → (fwN (rsN o (12 - i)) b (bestN (rsN o (12 - i)) b 3) 3 0 = fwN (rsN o (12 - i)) b (bestN (rsN o (12 - i)) b 3) (3 - j) j) → ∀ (H : Heap) (locs : List Loc) (ls : Array Slot), va_P g.1 vwCl [(oX3 e0 e1 e2), (aI g e1 36 co), (aI g e2 39 re_)] H → va_D A [(oX3 e0 e1 e2), (aI g e1 36 co), (aI g e2 39 re_)] → va_S A s.heap H locs → lv_has ls 4 [(0, .ref e0), (1, .int (nI i)), (2, .int (nI b)), (3, .int (nI j))] → W p l e (he_room 1 22 0 0) s m args below meth c H locs 0 0 Q (F0 m 2 ls []) := by
    intro n9
    induction n9 with
    | zero => intro j hm9; exact absurd hm9 (Nat.not_lt_zero _)
    | succ n9 ih2 =>
      intro j hm9 hj hfw H locs ls hP hD hS hl
      refine lv_iload_n hx hb dX3_firstWay_2 rfl (lv_at hl 3 rfl) ?_
      refine lv_iconst (v := 3) hx hb dX3_firstWay_3 (by decide) ?_
      refine lv_icmp_ge (tgt := 42) hx hb dX3_firstWay_4 (by decide) (fun c_1 => ?_) (fun c_1 => ?_)
      · have k_2 : 3 ≤ j := (he_cle (a := 3) (b := j) (by decide) rfl (by omega) (by omega)).mp c_1
        refine lv_iconst (v := 0) hx hb dX3_firstWay_42 (by decide) ?_
        exact he_ri hQ hx hb hr hlk hP hD hS dX3_firstWay_43 (Nat.le_of_ble_eq_true rfl) (Nat.le_of_ble_eq_true rfl) (()) (rfl) ((congrArg nI (by rw [hfw, show 3 - j = 0 by omega, fwN])))
      · have k_3 : ¬ (3 ≤ j) := fun h9 => c_1 ((he_cle (a := 3) (b := j) (by decide) rfl (by omega) (by omega)).mpr h9)
        refine lv_iload_n hx hb dX3_firstWay_7 rfl (lv_at hl 2 rfl) ?_
        refine lv_iload_n hx hb dX3_firstWay_8 rfl (lv_at hl 3 rfl) ?_
        refine he_ci (wc := []) (wr := [(oX3 e0 e1 e2), (aI g e1 36 co), (aI g e2 39 re_)]) (va_runS (As := [.int (nI b), .int (nI j)]) (rest := []) ⟨hx, hb, hml, hown, hts⟩ (c_X3_mayFollow l g b j (by first | assumption | decide | omega) (by first | assumption | decide | omega) H.size) (va_cwS 2 hts gX3_firstWay_X3_mayFollow rfl rfl rfl (by decide +kernel) ⟨Nat.le_of_ble_eq_true rfl, Nat.le_of_ble_eq_true rfl⟩) (he_preS (wc := []) hK hP hD hS hA hE [] rfl rfl) rfl rfl hl.1 rfl (lv_room (Nat.le_of_ble_eq_true rfl)) dX3_firstWay_9 ⟨(Nat.le_of_ble_eq_true rfl), (Nat.le_of_ble_eq_true rfl)⟩) hP hD hS hA [] [0, 1, 2] rfl rfl rfl (by decide) (fun r_4 u_5 H locs h_6 hP hD hS => ?_)
        subst h_6
        have hP : va_P g.1 vwCl [(oX3 e0 e1 e2), (aI g e1 36 co), (aI g e2 39 re_)] H := hP
        have hD : va_D A [(oX3 e0 e1 e2), (aI g e1 36 co), (aI g e2 39 re_)] := hD
        refine lv_if_eq (tgt := 36) hx hb dX3_firstWay_12 (by decide) (fun c_7 => ?_) (fun c_7 => ?_)
        · refine lv_iinc (v := nI (j + 1)) (lv' := [(3, .int (nI (j + 1))), (0, .ref e0), (1, .int (nI i)), (2, .int (nI b))]) hx hb dX3_firstWay_36 hl (k := 3) rfl (nI_1 j) (by decide) rfl (fun ls hl => ?_)
          refine lv_goto (tgt := 2) hx hb dX3_firstWay_39 (by decide) ?_
          exact ih2 (j + 1) (by omega) (by omega) (fw_n hfw (by omega) (Or.inl c_7)) _ _ _ hP hD hS (lv_sub hl [1, 2, 3, 0] rfl)
        · refine lv_aload_n hx hb dX3_firstWay_15 rfl (lv_at hl 0 rfl) ?_
          refine lv_iload_n hx hb dX3_firstWay_16 rfl (lv_at hl 1 rfl) ?_
          refine lv_iload_n hx hb dX3_firstWay_17 rfl (lv_at hl 3 rfl) ?_
          refine he_ci (wc := [(oX3 e0 e1 e2), (aI g e1 36 co), (aI g e2 39 re_)]) (wr := []) (va_runV (As := [.int (nI i), .int (nI j)]) (rest := []) ⟨hx, hb, hml, hown, hts⟩ (s_X3_through l g e0 e1 e2 co re_ o i j (by first | assumption | decide | omega) (by first | assumption | decide | omega) (by first | assumption | decide | omega) (fun m h1 h2 b hb => hre m (by omega) h2 b hb) H.size) (cwV 2 hts gX3_firstWay_X3_through rfl rfl rfl (by decide +kernel) ⟨Nat.le_of_ble_eq_true rfl, Nat.le_of_ble_eq_true rfl⟩) (he_preV (wc := [(oX3 e0 e1 e2), (aI g e1 36 co), (aI g e2 39 re_)]) hK hP hD hS hA hE [0, 1, 2] rfl rfl 0 rfl rfl) rfl rfl hl.1 rfl (lv_room (Nat.le_of_ble_eq_true rfl)) dX3_firstWay_18 ⟨(Nat.le_of_ble_eq_true rfl), (Nat.le_of_ble_eq_true rfl)⟩) hP hD hS hA [0, 1, 2] [] rfl rfl rfl (by decide) (fun r_8 u_9 H locs h_10 hP hD hS => ?_)
          subst h_10
          have hP : va_P g.1 vwCl [(oX3 e0 e1 e2), (aI g e1 36 co), (aI g e2 39 re_)] H := hP
          have hD : va_D A [(oX3 e0 e1 e2), (aI g e1 36 co), (aI g e2 39 re_)] := hD
          refine lv_aload_n hx hb dX3_firstWay_21 rfl (lv_at hl 0 rfl) ?_
          refine va_get (v := .ref e2) (T := TX3) (N := 2) hx hb hts inX3 hown hK hP 0 rfl rfl 1 (by decide) f13 (fun _ h9 => h9) rfl dX3_firstWay_22 ?_
          refine lv_iload_n hx hb dX3_firstWay_25 rfl (lv_at hl 1 rfl) ?_
          refine lv_iconst (v := 3) hx hb dX3_firstWay_26 (by decide) ?_
          refine lv_imul hx hb dX3_firstWay_27 ?_
          refine he_top (nI (i * 3)) (pk_mul i 3) ?_
          refine lv_iload_n hx hb dX3_firstWay_28 rfl (lv_at hl 2 rfl) ?_
          refine lv_iadd hx hb dX3_firstWay_29 ?_
          refine he_top (nI (i * 3 + b)) (nI_add (i * 3) b) ?_
          refine he_iald hx hb hK hP 2 rfl (i * 3 + b) rfl (by first | assumption | decide | omega) (by first | decide | assumption) (re_ (i * 3 + b)) rfl dX3_firstWay_30 ?_
          refine lv_icmp_ne (tgt := 36) hx hb dX3_firstWay_31 (by decide) (fun c_11 => ?_) (fun c_11 => ?_)
          · refine lv_iinc (v := nI (j + 1)) (lv' := [(3, .int (nI (j + 1))), (0, .ref e0), (1, .int (nI i)), (2, .int (nI b))]) hx hb dX3_firstWay_36 hl (k := 3) rfl (nI_1 j) (by decide) rfl (fun ls hl => ?_)
            refine lv_goto (tgt := 2) hx hb dX3_firstWay_39 (by decide) ?_
            exact ih2 (j + 1) (by omega) (by omega) (fw_n hfw (by omega) (Or.inr (fun h9 => c_11 (by rw [hre9, h9])))) _ _ _ hP hD hS (lv_sub hl [1, 2, 3, 0] rfl)
          · refine lv_iload_n hx hb dX3_firstWay_34 rfl (lv_at hl 3 rfl) ?_
            exact he_ri hQ hx hb hr hlk hP hD hS dX3_firstWay_35 (Nat.le_of_ble_eq_true rfl) (Nat.le_of_ble_eq_true rfl) (()) (rfl) ((congrArg nI (fw_y hfw (by omega) c_7 (nI_j (rsN_b hob j) (bsN_b hob (by decide)) (c_11.trans hre9))).symm))
  exact loop2 ((3 - 0) + 1) 0 (Nat.lt_succ_self _) (Nat.zero_le _) rfl _ _ _ hP hD hS (lv_sub hl [1, 2, 3, 0] rfl)
set_option maxHeartbeats 4000000 in
set_option maxRecDepth 100000 in
theorem s_X3_served (l : Launch) (g : he_G) (e0 : Nat) (e1 : Nat) (e2 : Nat) (co : Nat → Int32) (re_ : Nat → Int32) (o : Nat → Nat → Nat) (k : Nat) (hk : k < 12) (hco : coO co o) (hob : ∀ d m, o d m ≤ 999) (h36 : ∀ b, b < 3 → re_ (36 + b) = 0) : he_I l yX3_served wsX3_served 3 68 0 0 g [.ref e0, .int (nI k)] [(oX3 e0 e1 e2), (aI g e1 36 co), (aI g e2 39 re_)] (fun (r : Int32) (u : Nat → Int32) => r = nI (svN o (k + 1)) ∧ reO u o 0) (fun (u : Nat → Int32) => [(oX3 e0 e1 e2), (aI g e1 36 co), (aI g e2 39 u)]) := by
  refine he_begin (l := l) (g := g) (y := yX3_served) (wl := wsX3_served) (fr := 3) (lo := 68) (mc := 0) (ms := 0) (av := [.ref e0, .int (nI k)]) (ws := [(oX3 e0 e1 e2), (aI g e1 36 co), (aI g e2 39 re_)]) (cc := cX3_served) (maxL := 4) (ret := (some .int)) (fun A => va_Qi (fun (r : Int32) (u : Nat → Int32) => r = nI (svN o (k + 1)) ∧ reO u o 0) (fun u t => he_post g A ((fun (u : Nat → Int32) => [(oX3 e0 e1 e2), (aI g e1 36 co), (aI g e2 39 u)]) u) t) A) (by decide) rfl (Nat.le_of_ble_eq_true rfl) ?_
  intro p e s m args below meth c A ls H locs Q hQ hB
  obtain ⟨hx, hb, hr, hml, hown, hts, hlk, hin, hP, hK, hD, hS, hA, hE, hl⟩ := hB
  have hl : lv_has ls 4 [(0, .ref e0), (1, .int (nI k))] := hl
  refine lv_aload_n hx hb dX3_served_0 rfl (lv_at hl 0 rfl) ?_
  refine he_ci (wc := [(oX3 e0 e1 e2), (aI g e1 36 co), (aI g e2 39 re_)]) (wr := []) (va_runV (As := []) (rest := []) ⟨hx, hb, hml, hown, hts⟩ (s_X3_mostCoin l g e0 e1 e2 co re_ o (by first | assumption | decide | omega) (by first | assumption | decide | omega) (by first | assumption | decide | omega) H.size) (cwV 0 hts gX3_served_X3_mostCoin rfl rfl rfl (by decide +kernel) ⟨Nat.le_of_ble_eq_true rfl, Nat.le_of_ble_eq_true rfl⟩) (he_preV (wc := [(oX3 e0 e1 e2), (aI g e1 36 co), (aI g e2 39 re_)]) hK hP hD hS hA hE [0, 1, 2] rfl rfl 0 rfl rfl) rfl rfl hl.1 rfl (lv_room (Nat.le_of_ble_eq_true rfl)) dX3_served_1 ⟨(Nat.le_of_ble_eq_true rfl), (Nat.le_of_ble_eq_true rfl)⟩) hP hD hS hA [0, 1, 2] [] rfl rfl rfl (by decide) (fun r_1 u_2 H locs h_3 hP hD hS => ?_)
  obtain ⟨ur_4, rfl⟩ : ∃ z, z = u_2 := ⟨_, rfl⟩
  try dsimp only at h_3
  obtain ⟨rfl, hf_5⟩ := h_3
  have hP : va_P g.1 vwCl [(oX3 e0 e1 e2), (aI g e1 36 co), (aI g e2 39 ur_4)] H := hP
  have hD : va_D A [(oX3 e0 e1 e2), (aI g e1 36 co), (aI g e2 39 ur_4)] := hD
  have hre := hf_5
  refine lv_pop hx hb dX3_served_4 rfl ?_
  refine lv_iconst (v := 0) hx hb dX3_served_5 (by decide) ?_
  refine lv_istore_n (lv' := [(2, .int 0), (0, .ref e0), (1, .int (nI k))]) hx hb dX3_served_6 rfl hl (by decide) rfl (fun ls hl => ?_)
  refine lv_iconst (v := 0) hx hb dX3_served_7 (by decide) ?_
  refine lv_istore_n (lv' := [(3, .int 0), (2, .int 0), (0, .ref e0), (1, .int (nI k))]) hx hb dX3_served_8 rfl hl (by decide) rfl (fun ls hl => ?_)
  have loop9 : ∀ (n9 : Nat) (j : Nat) (b : Nat), 12 - j < n9 → (j ≤ k + 1) → (b = svN o j) → ∀ (H : Heap) (locs : List Loc) (ls : Array Slot), va_P g.1 vwCl [(oX3 e0 e1 e2), (aI g e1 36 co), (aI g e2 39 ur_4)] H → va_D A [(oX3 e0 e1 e2), (aI g e1 36 co), (aI g e2 39 ur_4)] → va_S A s.heap H locs → lv_has ls 4 [(0, .ref e0), (1, .int (nI k)), (2, .int (nI b)), (3, .int (nI j))] → W p l e (he_room 3 68 0 0) s m args below meth c H locs 0 0 Q (F0 m 9 ls []) := by
    intro n9
    induction n9 with
    | zero => intro j b hm9; exact absurd hm9 (Nat.not_lt_zero _)
    | succ n9 ih9 =>
      intro j b hm9 hj hbs H locs ls hP hD hS hl
      refine lv_iload_n hx hb dX3_served_9 rfl (lv_at hl 3 rfl) ?_
      refine lv_iload_n hx hb dX3_served_10 rfl (lv_at hl 1 rfl) ?_
      refine lv_icmp_gt (tgt := 33) hx hb dX3_served_11 (by decide) (fun c_6 => ?_) (fun c_6 => ?_)
      · have k_7 : k < j := (he_clt (a := k) (b := j) rfl rfl (by omega) (by omega)).mp c_6
        refine lv_iload_n hx hb dX3_served_33 rfl (lv_at hl 2 rfl) ?_
        exact he_ri hQ hx hb hr hlk hP hD hS dX3_served_34 (Nat.le_of_ble_eq_true rfl) (Nat.le_of_ble_eq_true rfl) (ur_4) (rfl) (⟨by rw [hbs, show j = k + 1 by omega], hre⟩)
      · have k_8 : ¬ (k < j) := fun h9 => c_6 ((he_clt (a := k) (b := j) rfl rfl (by omega) (by omega)).mpr h9)
        refine lv_iload_n hx hb dX3_served_14 rfl (lv_at hl 3 rfl) ?_
        refine lv_bipush (v := 12) hx hb dX3_served_15 (by decide) ?_
        refine lv_icmp_ge (tgt := 33) hx hb dX3_served_17 (by decide) (fun c_9 => ?_) (fun c_9 => ?_)
        · have k_10 : 12 ≤ j := (he_cle (a := 12) (b := j) (by decide) rfl (by omega) (by omega)).mp c_9
          refine lv_iload_n hx hb dX3_served_33 rfl (lv_at hl 2 rfl) ?_
          exact he_ri hQ hx hb hr hlk hP hD hS dX3_served_34 (Nat.le_of_ble_eq_true rfl) (Nat.le_of_ble_eq_true rfl) (ur_4) (rfl) (⟨by rw [hbs, show j = k + 1 by omega], hre⟩)
        · have k_11 : ¬ (12 ≤ j) := fun h9 => c_9 ((he_cle (a := 12) (b := j) (by decide) rfl (by omega) (by omega)).mpr h9)
          refine lv_aload_n hx hb dX3_served_20 rfl (lv_at hl 0 rfl) ?_
          refine lv_iload_n hx hb dX3_served_21 rfl (lv_at hl 3 rfl) ?_
          refine lv_iload_n hx hb dX3_served_22 rfl (lv_at hl 2 rfl) ?_
          refine he_ci (wc := [(oX3 e0 e1 e2), (aI g e1 36 co), (aI g e2 39 ur_4)]) (wr := []) (va_runV (As := [.int (nI j), .int (nI b)]) (rest := []) ⟨hx, hb, hml, hown, hts⟩ (s_X3_firstWay l g e0 e1 e2 co ur_4 o j b (by first | assumption | decide | omega) (by rw [hbs]; exact sv_lt o j) (by first | assumption | decide | omega) (by first | assumption | decide | omega) (fun m h1 h2 b hb => hre m (Nat.zero_le _) h2 b hb) H.size) (cwV 2 hts gX3_served_X3_firstWay rfl rfl rfl (by decide +kernel) ⟨Nat.le_of_ble_eq_true rfl, Nat.le_of_ble_eq_true rfl⟩) (he_preV (wc := [(oX3 e0 e1 e2), (aI g e1 36 co), (aI g e2 39 ur_4)]) hK hP hD hS hA hE [0, 1, 2] rfl rfl 0 rfl rfl) rfl rfl hl.1 rfl (lv_room (Nat.le_of_ble_eq_true rfl)) dX3_served_23 ⟨(Nat.le_of_ble_eq_true rfl), (Nat.le_of_ble_eq_true rfl)⟩) hP hD hS hA [0, 1, 2] [] rfl rfl rfl (by decide) (fun r_12 u_13 H locs h_14 hP hD hS => ?_)
          subst h_14
          have hP : va_P g.1 vwCl [(oX3 e0 e1 e2), (aI g e1 36 co), (aI g e2 39 ur_4)] H := hP
          have hD : va_D A [(oX3 e0 e1 e2), (aI g e1 36 co), (aI g e2 39 ur_4)] := hD
          refine lv_istore_n (lv' := [(2, .int (nI (fwN (rsN o (12 - j)) b (bestN (rsN o (12 - j)) b 3) 3 0))), (0, .ref e0), (1, .int (nI k)), (3, .int (nI j))]) hx hb dX3_served_26 rfl hl (by decide) rfl (fun ls hl => ?_)
          refine lv_iinc (v := nI (j + 1)) (lv' := [(3, .int (nI (j + 1))), (2, .int (nI (fwN (rsN o (12 - j)) b (bestN (rsN o (12 - j)) b 3) 3 0))), (0, .ref e0), (1, .int (nI k))]) hx hb dX3_served_27 hl (k := 3) rfl (nI_1 j) (by decide) rfl (fun ls hl => ?_)
          refine lv_goto (tgt := 9) hx hb dX3_served_30 (by decide) ?_
          exact ih9 (j + 1) (fwN (rsN o (12 - j)) b (bestN (rsN o (12 - j)) b 3) 3 0) (by omega) (by omega) (by rw [svN, hbs]) _ _ _ hP hD hS (lv_sub hl [2, 3, 1, 0] rfl)
  exact loop9 ((12 - 0) + 1) 0 0 (Nat.lt_succ_self _) (Nat.zero_le _) rfl _ _ _ hP hD hS (lv_sub hl [2, 3, 1, 0] rfl)
set_option maxHeartbeats 4000000 in
set_option maxRecDepth 100000 in
theorem s_X10_most (l : Launch) (g : he_G) (x0 : Nat) (y0 : Nat) (z0 : Nat) (p0 : Nat) (dr : Nat) (pa : Nat) (s0 : Nat) (im : Nat) (tr : Nat) (v0 : Nat) (rf : Nat) (ta : Int32) (to_ : Int32) (ki : Int32) (h0 : Nat) (a0 : Nat) (b0 : Nat) (e0 : Nat) (e1 : Nat) (e2 : Nat) (co : Nat → Int32) (re_ : Nat → Int32) (o : Nat → Nat → Nat) (hco : coO co o) (hob : ∀ d m, o d m ≤ 999) (h36 : ∀ b, b < 3 → re_ (36 + b) = 0) : he_I l yX10_most wsX10_most 3 68 0 0 g [.ref x0] [(oX10 x0 y0 ta z0 p0 dr pa to_ s0 im ki tr v0 rf), (oX8 s0 h0 a0 b0 e0), (oX3 e0 e1 e2), (aI g e1 36 co), (aI g e2 39 re_)] (fun (r : Int32) (u : Nat → Int32) => r = nI (bestN (rsN o 12) 0 3) ∧ reO u o 0) (fun (u : Nat → Int32) => [(oX10 x0 y0 ta z0 p0 dr pa to_ s0 im ki tr v0 rf), (oX8 s0 h0 a0 b0 e0), (oX3 e0 e1 e2), (aI g e1 36 co), (aI g e2 39 u)]) := by
  refine he_begin (l := l) (g := g) (y := yX10_most) (wl := wsX10_most) (fr := 3) (lo := 68) (mc := 0) (ms := 0) (av := [.ref x0]) (ws := [(oX10 x0 y0 ta z0 p0 dr pa to_ s0 im ki tr v0 rf), (oX8 s0 h0 a0 b0 e0), (oX3 e0 e1 e2), (aI g e1 36 co), (aI g e2 39 re_)]) (cc := cX10_most) (maxL := 1) (ret := (some .int)) (fun A => va_Qi (fun (r : Int32) (u : Nat → Int32) => r = nI (bestN (rsN o 12) 0 3) ∧ reO u o 0) (fun u t => he_post g A ((fun (u : Nat → Int32) => [(oX10 x0 y0 ta z0 p0 dr pa to_ s0 im ki tr v0 rf), (oX8 s0 h0 a0 b0 e0), (oX3 e0 e1 e2), (aI g e1 36 co), (aI g e2 39 u)]) u) t) A) (by decide) rfl (Nat.le_of_ble_eq_true rfl) ?_
  intro p e s m args below meth c A ls H locs Q hQ hB
  obtain ⟨hx, hb, hr, hml, hown, hts, hlk, hin, hP, hK, hD, hS, hA, hE, hl⟩ := hB
  have hl : lv_has ls 1 [(0, .ref x0)] := hl
  have f39 := hts (.fieldLink RX10 39 "HiredEnemy" "scene" "LHiredEnemy$Scene;") (iwoX10_most (k := 0) rfl)
  have inX10 : ∀ w ∈ wsX100, w ∈ wsX10_most := innX10_most_X10
  have f232 := hts (.fieldLink RX10 232 "HiredEnemy$Scene" "bids" "LHiredEnemy$Bids;") (iwoX10_most (k := 1) rfl)
  have inX8 : ∀ w ∈ wsX80, w ∈ wsX10_most := innX10_most_X8
  refine lv_aload_n hx hb dX10_most_0 rfl (lv_at hl 0 rfl) ?_
  refine va_get (v := .ref s0) (T := TX10) (N := 13) hx hb hts inX10 hown hK hP 0 rfl rfl 7 (by decide) f39 (fun _ h9 => h9) rfl dX10_most_1 ?_
  refine va_get (v := .ref e0) (T := TX8) (N := 4) hx hb hts inX8 hown hK hP 1 rfl rfl 3 (by decide) f232 (fun _ h9 => h9) rfl dX10_most_4 ?_
  refine he_ci (wc := [(oX3 e0 e1 e2), (aI g e1 36 co), (aI g e2 39 re_)]) (wr := [(oX10 x0 y0 ta z0 p0 dr pa to_ s0 im ki tr v0 rf), (oX8 s0 h0 a0 b0 e0)]) (va_runV (As := []) (rest := []) ⟨hx, hb, hml, hown, hts⟩ (s_X3_mostCoin l g e0 e1 e2 co re_ o (by first | assumption | decide | omega) (by first | assumption | decide | omega) (by first | assumption | decide | omega) H.size) (cwV 0 hts gX10_most_X3_mostCoin rfl rfl rfl (by decide +kernel) ⟨Nat.le_of_ble_eq_true rfl, Nat.le_of_ble_eq_true rfl⟩) (he_preV (wc := [(oX3 e0 e1 e2), (aI g e1 36 co), (aI g e2 39 re_)]) hK hP hD hS hA hE [2, 3, 4] rfl rfl 2 rfl rfl) rfl rfl hl.1 rfl (lv_room (Nat.le_of_ble_eq_true rfl)) dX10_most_7 ⟨(Nat.le_of_ble_eq_true rfl), (Nat.le_of_ble_eq_true rfl)⟩) hP hD hS hA [2, 3, 4] [0, 1] rfl rfl rfl (by decide) (fun r_1 u_2 H locs h_3 hP hD hS => ?_)
  obtain ⟨ur_4, rfl⟩ : ∃ z, z = u_2 := ⟨_, rfl⟩
  try dsimp only at h_3
  obtain ⟨rfl, hf_5⟩ := h_3
  have hP : va_P g.1 vwCl [(oX10 x0 y0 ta z0 p0 dr pa to_ s0 im ki tr v0 rf), (oX8 s0 h0 a0 b0 e0), (oX3 e0 e1 e2), (aI g e1 36 co), (aI g e2 39 ur_4)] H := hP
  have hD : va_D A [(oX10 x0 y0 ta z0 p0 dr pa to_ s0 im ki tr v0 rf), (oX8 s0 h0 a0 b0 e0), (oX3 e0 e1 e2), (aI g e1 36 co), (aI g e2 39 ur_4)] := hD
  exact he_ri hQ hx hb hr hlk hP hD hS dX10_most_10 (Nat.le_of_ble_eq_true rfl) (Nat.le_of_ble_eq_true rfl) (ur_4) (rfl) (⟨rfl, hf_5⟩)
set_option maxHeartbeats 4000000 in
set_option maxRecDepth 100000 in
theorem s_X10_serves (l : Launch) (g : he_G) (x0 : Nat) (y0 : Nat) (z0 : Nat) (p0 : Nat) (dr : Nat) (pa : Nat) (s0 : Nat) (im : Nat) (tr : Nat) (v0 : Nat) (rf : Nat) (ta : Int32) (to_ : Int32) (ki : Int32) (h0 : Nat) (a0 : Nat) (b0 : Nat) (e0 : Nat) (e1 : Nat) (e2 : Nat) (co : Nat → Int32) (re_ : Nat → Int32) (j : Nat) (o : Nat → Nat → Nat) (hj : j ≤ 11) (hco : coO co o) (hob : ∀ d m, o d m ≤ 999) (h36 : ∀ b, b < 3 → re_ (36 + b) = 0) : he_I l yX10_serves wsX10_serves 4 91 0 0 g [.ref x0, .int (nI j)] [(oX10 x0 y0 ta z0 p0 dr pa to_ s0 im ki tr v0 rf), (oX8 s0 h0 a0 b0 e0), (oX3 e0 e1 e2), (aI g e1 36 co), (aI g e2 39 re_)] (fun (r : Int32) (u : Nat → Int32) => r = nI (svN o (j + 1)) ∧ reO u o 0) (fun (u : Nat → Int32) => [(oX10 x0 y0 ta z0 p0 dr pa to_ s0 im ki tr v0 rf), (oX8 s0 h0 a0 b0 e0), (oX3 e0 e1 e2), (aI g e1 36 co), (aI g e2 39 u)]) := by
  refine he_begin (l := l) (g := g) (y := yX10_serves) (wl := wsX10_serves) (fr := 4) (lo := 91) (mc := 0) (ms := 0) (av := [.ref x0, .int (nI j)]) (ws := [(oX10 x0 y0 ta z0 p0 dr pa to_ s0 im ki tr v0 rf), (oX8 s0 h0 a0 b0 e0), (oX3 e0 e1 e2), (aI g e1 36 co), (aI g e2 39 re_)]) (cc := cX10_serves) (maxL := 2) (ret := (some .int)) (fun A => va_Qi (fun (r : Int32) (u : Nat → Int32) => r = nI (svN o (j + 1)) ∧ reO u o 0) (fun u t => he_post g A ((fun (u : Nat → Int32) => [(oX10 x0 y0 ta z0 p0 dr pa to_ s0 im ki tr v0 rf), (oX8 s0 h0 a0 b0 e0), (oX3 e0 e1 e2), (aI g e1 36 co), (aI g e2 39 u)]) u) t) A) (by decide) rfl (Nat.le_of_ble_eq_true rfl) ?_
  intro p e s m args below meth c A ls H locs Q hQ hB
  obtain ⟨hx, hb, hr, hml, hown, hts, hlk, hin, hP, hK, hD, hS, hA, hE, hl⟩ := hB
  have hl : lv_has ls 2 [(0, .ref x0), (1, .int (nI j))] := hl
  have f39 := hts (.fieldLink RX10 39 "HiredEnemy" "scene" "LHiredEnemy$Scene;") (iwoX10_serves (k := 0) rfl)
  have inX10 : ∀ w ∈ wsX100, w ∈ wsX10_serves := innX10_serves_X10
  have f232 := hts (.fieldLink RX10 232 "HiredEnemy$Scene" "bids" "LHiredEnemy$Bids;") (iwoX10_serves (k := 1) rfl)
  have inX8 : ∀ w ∈ wsX80, w ∈ wsX10_serves := innX10_serves_X8
  refine lv_aload_n hx hb dX10_serves_0 rfl (lv_at hl 0 rfl) ?_
  refine lv_iload_n hx hb dX10_serves_1 rfl (lv_at hl 1 rfl) ?_
  refine lv_iconst (v := 0) hx hb dX10_serves_2 (by decide) ?_
  refine lv_bipush (v := 11) hx hb dX10_serves_3 (by decide) ?_
  refine he_ci (wc := []) (wr := [(oX10 x0 y0 ta z0 p0 dr pa to_ s0 im ki tr v0 rf), (oX8 s0 h0 a0 b0 e0), (oX3 e0 e1 e2), (aI g e1 36 co), (aI g e2 39 re_)]) (va_runS (As := [.int (nI j), .int 0, .int 11]) (rest := [.ref x0]) ⟨hx, hb, hml, hown, hts⟩ (c_X10_within l g (nI j) 0 11 H.size) (va_cwS 3 hts gX10_serves_X10_within rfl rfl rfl (by decide +kernel) ⟨Nat.le_of_ble_eq_true rfl, Nat.le_of_ble_eq_true rfl⟩) (he_preS (wc := []) hK hP hD hS hA hE [] rfl rfl) rfl rfl hl.1 rfl (lv_room (Nat.le_of_ble_eq_true rfl)) dX10_serves_5 ⟨(Nat.le_of_ble_eq_true rfl), (Nat.le_of_ble_eq_true rfl)⟩) hP hD hS hA [] [0, 1, 2, 3, 4] rfl rfl rfl (by decide) (fun r_1 u_2 H locs h_3 hP hD hS => ?_)
  subst h_3
  have hP : va_P g.1 vwCl [(oX10 x0 y0 ta z0 p0 dr pa to_ s0 im ki tr v0 rf), (oX8 s0 h0 a0 b0 e0), (oX3 e0 e1 e2), (aI g e1 36 co), (aI g e2 39 re_)] H := hP
  have hD : va_D A [(oX10 x0 y0 ta z0 p0 dr pa to_ s0 im ki tr v0 rf), (oX8 s0 h0 a0 b0 e0), (oX3 e0 e1 e2), (aI g e1 36 co), (aI g e2 39 re_)] := hD
  refine he_top (1) (he_within_in (a0 := 0) (B := 11) rfl rfl (by omega) (by omega) (by decide)) ?_
  refine he_cv (wc := []) (wr := [(oX10 x0 y0 ta z0 p0 dr pa to_ s0 im ki tr v0 rf), (oX8 s0 h0 a0 b0 e0), (oX3 e0 e1 e2), (aI g e1 36 co), (aI g e2 39 re_)]) (va_runV (As := [.int 1]) (rest := []) ⟨hx, hb, hml, hown, hts⟩ (c_X10_demand1 l g x0 H.size) (cwV 1 hts gX10_serves_X10_demand rfl rfl rfl (by decide +kernel) ⟨Nat.le_of_ble_eq_true rfl, Nat.le_of_ble_eq_true rfl⟩) (he_preV (wc := []) hK hP hD hS hA hE [] rfl rfl 0 rfl rfl) rfl rfl hl.1 rfl (lv_room (Nat.le_of_ble_eq_true rfl)) dX10_serves_8 ⟨(Nat.le_of_ble_eq_true rfl), (Nat.le_of_ble_eq_true rfl)⟩) hP hD hS hA [] [0, 1, 2, 3, 4] rfl rfl rfl (by decide) (fun u_5 H locs h_6 hP hD hS => ?_)
  have hP : va_P g.1 vwCl [(oX10 x0 y0 ta z0 p0 dr pa to_ s0 im ki tr v0 rf), (oX8 s0 h0 a0 b0 e0), (oX3 e0 e1 e2), (aI g e1 36 co), (aI g e2 39 re_)] H := hP
  have hD : va_D A [(oX10 x0 y0 ta z0 p0 dr pa to_ s0 im ki tr v0 rf), (oX8 s0 h0 a0 b0 e0), (oX3 e0 e1 e2), (aI g e1 36 co), (aI g e2 39 re_)] := hD
  refine lv_aload_n hx hb dX10_serves_11 rfl (lv_at hl 0 rfl) ?_
  refine va_get (v := .ref s0) (T := TX10) (N := 13) hx hb hts inX10 hown hK hP 0 rfl rfl 7 (by decide) f39 (fun _ h9 => h9) rfl dX10_serves_12 ?_
  refine va_get (v := .ref e0) (T := TX8) (N := 4) hx hb hts inX8 hown hK hP 1 rfl rfl 3 (by decide) f232 (fun _ h9 => h9) rfl dX10_serves_15 ?_
  refine lv_iload_n hx hb dX10_serves_18 rfl (lv_at hl 1 rfl) ?_
  refine he_ci (wc := [(oX3 e0 e1 e2), (aI g e1 36 co), (aI g e2 39 re_)]) (wr := [(oX10 x0 y0 ta z0 p0 dr pa to_ s0 im ki tr v0 rf), (oX8 s0 h0 a0 b0 e0)]) (va_runV (As := [.int (nI j)]) (rest := []) ⟨hx, hb, hml, hown, hts⟩ (s_X3_served l g e0 e1 e2 co re_ o j (by first | assumption | decide | omega) (by first | assumption | decide | omega) (by first | assumption | decide | omega) (by first | assumption | decide | omega) H.size) (cwV 1 hts gX10_serves_X3_served rfl rfl rfl (by decide +kernel) ⟨Nat.le_of_ble_eq_true rfl, Nat.le_of_ble_eq_true rfl⟩) (he_preV (wc := [(oX3 e0 e1 e2), (aI g e1 36 co), (aI g e2 39 re_)]) hK hP hD hS hA hE [2, 3, 4] rfl rfl 2 rfl rfl) rfl rfl hl.1 rfl (lv_room (Nat.le_of_ble_eq_true rfl)) dX10_serves_19 ⟨(Nat.le_of_ble_eq_true rfl), (Nat.le_of_ble_eq_true rfl)⟩) hP hD hS hA [2, 3, 4] [0, 1] rfl rfl rfl (by decide) (fun r_7 u_8 H locs h_9 hP hD hS => ?_)
  obtain ⟨ur_10, rfl⟩ : ∃ z, z = u_8 := ⟨_, rfl⟩
  try dsimp only at h_9
  obtain ⟨rfl, hf_11⟩ := h_9
  have hP : va_P g.1 vwCl [(oX10 x0 y0 ta z0 p0 dr pa to_ s0 im ki tr v0 rf), (oX8 s0 h0 a0 b0 e0), (oX3 e0 e1 e2), (aI g e1 36 co), (aI g e2 39 ur_10)] H := hP
  have hD : va_D A [(oX10 x0 y0 ta z0 p0 dr pa to_ s0 im ki tr v0 rf), (oX8 s0 h0 a0 b0 e0), (oX3 e0 e1 e2), (aI g e1 36 co), (aI g e2 39 ur_10)] := hD
  exact he_ri hQ hx hb hr hlk hP hD hS dX10_serves_22 (Nat.le_of_ble_eq_true rfl) (Nat.le_of_ble_eq_true rfl) (ur_10) (rfl) (⟨rfl, hf_11⟩)
end
