section
theorem nI_inB {k B : Nat} (hB : B < 2147483648) (hk : k ≤ B) : ¬ he_within (nI k) 0 (nI B) = 0 := by
  rw [show he_within (nI k) 0 (nI B) = 1 from he_within_in (a0 := 0) (B := B) rfl rfl (Nat.zero_le k) hk hB]
  decide
theorem m1_out (b : Int32) : he_within (-1) 0 b = 0 := by
  unfold he_within
  rw [if_pos (by decide)]
theorem inf_step {f g : Nat → Int32} {ci : Nat} (h : f 10 = nI ci ∨ he_within (f 10) 0 6 = 0) (h2 : g 10 = f 10 ∨ g 10 = -1) : g 10 = nI ci ∨ he_within (g 10) 0 6 = 0 := by
  rcases h2 with e | e
  · rw [e]; exact h
  · right; rw [e]; exact m1_out 6
theorem nI_m1 {w : Nat} (h : 0 < w) : nI w - 1 = nI (w - 1) := pk_sub (b := 1) h
theorem wall_in {j w : Nat} (h : j < w) (hw : w < 2147483648) : ¬ he_within (nI j) 0 (nI w - 1) = 0 := by
  rw [nI_m1 (by omega)]
  exact nI_inB (by omega) (by omega)
theorem nI_min {a b : Nat} (ha : a < 2147483648) (hb : b < 2147483648) : (if nI b < nI a then nI b else nI a) = nI (min a b) := by
  by_cases h : b < a
  · rw [if_pos ((nI_ltI hb ha).mpr h), Nat.min_eq_right (by omega)]
  · rw [if_neg (fun h9 => h ((nI_ltI hb ha).mp h9)), Nat.min_eq_left (by omega)]
theorem cpy_in {f g : Nat → Int32} {k n : Nat} (h : k < n) : va_cpy f g 0 0 n k = f k := by rw [pk_cpy_in (Nat.zero_le k) (by omega)]; congr 1; omega
theorem prP_3 (f : Nat → Int32) (a b d t : Int32) : prP f a b d t 3 = d := by unfold prP; rw [upd_n (by decide), upd_s]
theorem fl_m1 (wb : Nat → Int32) : ∀ k, k < 36 → -1 ≤ flF (fun _ => -1) wb 36 k := by
  intro k hk
  unfold flF
  rw [if_pos hk]
  show (-1 : Int32) ≤ -1
  decide
set_option maxHeartbeats 4000000 in
set_option maxRecDepth 100000 in
theorem g_X10_demand0 (l : Launch) (g : he_G) (x0 : Nat) (y0 : Nat) (z0 : Nat) (p0 : Nat) (dr : Nat) (pa : Nat) (s0 : Nat) (im : Nat) (tr : Nat) (v0 : Nat) (rf : Nat) (ta : Int32) (to_ : Int32) (ki : Int32) (rc : Nat → Int32) (hlt : l.stackTraces = false) : he_T he_QTv l yX10_demand wsX10_demand 6 82 1 6 g [.ref x0, .int 0] [(oX10 x0 y0 ta z0 p0 dr pa to_ s0 im ki tr v0 rf), (aI g rf 3 rc)] "java/lang/IllegalArgumentException" [(oX10 x0 y0 ta z0 p0 dr pa to_ s0 im ki tr v0 rf), (aI g rf 3 (upd rc 2 (rc 2 + 1)))] := by
  refine he_beginX (l := l) (g := g) (y := yX10_demand) (wl := wsX10_demand) (fr := 6) (lo := 82) (mc := 1) (ms := 6) (av := [.ref x0, .int 0]) (ws := [(oX10 x0 y0 ta z0 p0 dr pa to_ s0 im ki tr v0 rf), (aI g rf 3 rc)]) (cc := cX10_demand) (maxL := 2) (ret := none) he_QTv (by decide) rfl (Nat.le_of_ble_eq_true rfl) ?_
  intro p e s m args below meth c A ls H locs Q hQ hne hB
  obtain ⟨hx, hb, hr, hml, hown, hts, hlk, hin, hP, hK, hD, hS, hA, hE, hl⟩ := hB
  have hl : lv_has ls 2 [(0, .ref x0), (1, .int 0)] := hl
  have f61 := hts (.fieldLink RX10 61 "HiredEnemy" "refused" "[I") (iwoX10_demand (k := 2) rfl)
  have inX10 : ∀ w ∈ wsX100, w ∈ wsX10_demand := innX10_demand_X10
  obtain ⟨sa9, hsa9⟩ := hE.2.2.2.2.2.2.1
  have clx := hts (.classLink RX10 251 "java/lang/IllegalArgumentException") (iwoX10_demand (k := 0) rfl)
  have inx := hts (.initialized "java/lang/IllegalArgumentException") (iwoX10_demand (k := 1) rfl)
  have hat9 : ∀ w ∈ vx_atS RX10 255 "java/lang/IllegalArgumentException" ["java/lang/RuntimeException", "java/lang/Exception"], w.before args s = true := he_hat hE (fun w hw => hts w (ihtX10_demand w hw)) (by decide +kernel)
  have hgd9 : ∀ w ∈ Cond.classLink RX10 251 "java/lang/IllegalArgumentException" :: Cond.initialized "java/lang/IllegalArgumentException" :: vx_atS RX10 255 "java/lang/IllegalArgumentException" ["java/lang/RuntimeException", "java/lang/Exception"], vx_ot w = true := by decide +kernel
  refine lv_iload_n hx hb dX10_demand_0 rfl (lv_at hl 1 rfl) ?_
  refine lv_if_ne (tgt := 24) hx hb dX10_demand_1 (by decide) (fun c_1 => ?_) (fun c_1 => ?_)
  · exact absurd (by decide) c_1
  · refine lv_aload_n hx hb dX10_demand_4 rfl (lv_at hl 0 rfl) ?_
    refine va_get (v := .ref rf) (T := TX10) (N := 13) hx hb hts inX10 hown hK hP 0 rfl rfl 12 (by decide) f61 (fun _ h9 => h9) rfl dX10_demand_5 ?_
    refine lv_iconst (v := 2) hx hb dX10_demand_8 (by decide) ?_
    refine lv_dup2_11 hx hb dX10_demand_9 rfl rfl ?_
    refine he_iald hx hb hK hP 1 rfl (2) (by decide) (by decide) (by first | decide | assumption) (rc 2) rfl dX10_demand_10 ?_
    refine lv_iconst (v := 1) hx hb dX10_demand_11 (by decide) ?_
    refine lv_iadd hx hb dX10_demand_12 ?_
    refine he_iast hx hb hK hP hD hS 1 rfl (2) (by decide) (by decide) (by first | decide | assumption) dX10_demand_13 (fun H locs hP hD hS => ?_)
    have hP : va_P g.1 vwCl [(oX10 x0 y0 ta z0 p0 dr pa to_ s0 im ki tr v0 rf), (aI g rf 3 (upd rc 2 ((rc 2) + 1)))] H := hP
    have hD : va_D A [(oX10 x0 y0 ta z0 p0 dr pa to_ s0 im ki tr v0 rf), (aI g rf 3 (upd rc 2 ((rc 2) + 1)))] := hD
    have hP : va_P g.1 vwCl [(oX10 x0 y0 ta z0 p0 dr pa to_ s0 im ki tr v0 rf), (aI g rf 3 (upd rc 2 (rc 2 + 1)))] H := hP
    have hD : va_D A [(oX10 x0 y0 ta z0 p0 dr pa to_ s0 im ki tr v0 rf), (aI g rf 3 (upd rc 2 (rc 2 + 1)))] := hD
    subst hQ
    exact vx_throwS hx hb hlt hown (by decide) (by decide) clx inx hsa9 hat9 hgd9 hE.2.2.2.2.1 hE.2.2.2.2.2.1 hS (by rw [hml]; exact hl.1) dX10_demand_14 dX10_demand_17 dX10_demand_18 dX10_demand_20 dX10_demand_23 (fun x h9 => (hne x h9).elim) (by decide) (Nat.le_of_ble_eq_true rfl) (Nat.le_of_ble_eq_true rfl) (Nat.le_of_ble_eq_true rfl) hlk (fun t _ hz hq => he_thx hP hD hS t hz hq) hS.2.2 (Nat.le_of_ble_eq_true rfl) (Nat.le_of_ble_eq_true rfl)
set_option maxHeartbeats 4000000 in
set_option maxRecDepth 100000 in
theorem g_X10_demandWall0 (l : Launch) (g : he_G) (x0 : Nat) (y0 : Nat) (z0 : Nat) (dr : Nat) (pa : Nat) (s0 : Nat) (im : Nat) (tr : Nat) (v0 : Nat) (rf : Nat) (ta : Int32) (to_ : Int32) (ki : Int32) (p0 : Nat) (p1 : Nat) (p2 : Nat) (p3 : Nat) (p4 : Nat) (w : Nat) (rc : Nat → Int32) (x : Int32) (hlt : l.stackTraces = false) (hw6 : w ≤ 6) (hno : he_within x 0 (nI w - 1) = 0) : he_T he_QTv l yX10_demandWall wsX10_demandWall 6 82 1 6 g [.ref x0, .int x] [(oX10 x0 y0 ta z0 p0 dr pa to_ s0 im ki tr v0 rf), (aI g rf 3 rc), (oX6 p0 p1 p2 p3 p4 (nI w))] "java/lang/IndexOutOfBoundsException" [(oX10 x0 y0 ta z0 p0 dr pa to_ s0 im ki tr v0 rf), (aI g rf 3 (upd rc 1 (rc 1 + 1))), (oX6 p0 p1 p2 p3 p4 (nI w))] := by
  refine he_beginX (l := l) (g := g) (y := yX10_demandWall) (wl := wsX10_demandWall) (fr := 6) (lo := 82) (mc := 1) (ms := 6) (av := [.ref x0, .int x]) (ws := [(oX10 x0 y0 ta z0 p0 dr pa to_ s0 im ki tr v0 rf), (aI g rf 3 rc), (oX6 p0 p1 p2 p3 p4 (nI w))]) (cc := cX10_demandWall) (maxL := 2) (ret := none) he_QTv (by decide) rfl (Nat.le_of_ble_eq_true rfl) ?_
  intro p e s m args below meth c A ls H locs Q hQ hne hB
  obtain ⟨hx, hb, hr, hml, hown, hts, hlk, hin, hP, hK, hD, hS, hA, hE, hl⟩ := hB
  have hl : lv_has ls 2 [(0, .ref x0), (1, .int x)] := hl
  have f23 := hts (.fieldLink RX10 23 "HiredEnemy" "plan" "LHiredEnemy$Plan;") (iwoX10_demandWall (k := 2) rfl)
  have inX10 : ∀ w ∈ wsX100, w ∈ wsX10_demandWall := innX10_demandWall_X10
  have f99 := hts (.fieldLink RX10 99 "HiredEnemy$Plan" "walls" "I") (iwoX10_demandWall (k := 3) rfl)
  have inX6 : ∀ w ∈ wsX60, w ∈ wsX10_demandWall := innX10_demandWall_X6
  have f61 := hts (.fieldLink RX10 61 "HiredEnemy" "refused" "[I") (iwoX10_demandWall (k := 4) rfl)
  obtain ⟨sa9, hsa9⟩ := hE.2.2.2.2.2.2.2.1
  have clx := hts (.classLink RX10 258 "java/lang/IndexOutOfBoundsException") (iwoX10_demandWall (k := 0) rfl)
  have inx := hts (.initialized "java/lang/IndexOutOfBoundsException") (iwoX10_demandWall (k := 1) rfl)
  have hat9 : ∀ w ∈ vx_atS RX10 262 "java/lang/IndexOutOfBoundsException" ["java/lang/RuntimeException", "java/lang/Exception"], w.before args s = true := he_hat hE (fun w hw => hts w (ihtX10_demandWall w hw)) (by decide +kernel)
  have hgd9 : ∀ w ∈ Cond.classLink RX10 258 "java/lang/IndexOutOfBoundsException" :: Cond.initialized "java/lang/IndexOutOfBoundsException" :: vx_atS RX10 262 "java/lang/IndexOutOfBoundsException" ["java/lang/RuntimeException", "java/lang/Exception"], vx_ot w = true := by decide +kernel
  refine lv_iload_n hx hb dX10_demandWall_0 rfl (lv_at hl 1 rfl) ?_
  refine lv_iconst (v := 0) hx hb dX10_demandWall_1 (by decide) ?_
  refine lv_aload_n hx hb dX10_demandWall_2 rfl (lv_at hl 0 rfl) ?_
  refine va_get (v := .ref p0) (T := TX10) (N := 13) hx hb hts inX10 hown hK hP 0 rfl rfl 3 (by decide) f23 (fun _ h9 => h9) rfl dX10_demandWall_3 ?_
  refine va_get (v := .int (nI w)) (T := TX6) (N := 5) hx hb hts inX6 hown hK hP 2 rfl rfl 4 (by decide) f99 (fun _ h9 => h9) rfl dX10_demandWall_6 ?_
  refine lv_iconst (v := 1) hx hb dX10_demandWall_9 (by decide) ?_
  refine lv_isub hx hb dX10_demandWall_10 ?_
  refine he_ci (wc := []) (wr := [(oX10 x0 y0 ta z0 p0 dr pa to_ s0 im ki tr v0 rf), (aI g rf 3 rc), (oX6 p0 p1 p2 p3 p4 (nI w))]) (va_runS (As := [.int x, .int 0, .int ((nI w) - 1)]) (rest := []) ⟨hx, hb, hml, hown, hts⟩ (c_X10_within l g x 0 ((nI w) - 1) H.size) (va_cwS 3 hts gX10_demandWall_X10_within rfl rfl rfl (by decide +kernel) ⟨Nat.le_of_ble_eq_true rfl, Nat.le_of_ble_eq_true rfl⟩) (he_preS (wc := []) hK hP hD hS hA hE [] rfl rfl) rfl rfl hl.1 rfl (lv_room (Nat.le_of_ble_eq_true rfl)) dX10_demandWall_11 ⟨(Nat.le_of_ble_eq_true rfl), (Nat.le_of_ble_eq_true rfl)⟩) hP hD hS hA [] [0, 1, 2] rfl rfl rfl (by decide) (fun r_1 u_2 H locs h_3 hP hD hS => ?_)
  subst h_3
  have hP : va_P g.1 vwCl [(oX10 x0 y0 ta z0 p0 dr pa to_ s0 im ki tr v0 rf), (aI g rf 3 rc), (oX6 p0 p1 p2 p3 p4 (nI w))] H := hP
  have hD : va_D A [(oX10 x0 y0 ta z0 p0 dr pa to_ s0 im ki tr v0 rf), (aI g rf 3 rc), (oX6 p0 p1 p2 p3 p4 (nI w))] := hD
  refine he_top (0) hno ?_
  refine lv_if_ne (tgt := 38) hx hb dX10_demandWall_14 (by decide) (fun c_4 => ?_) (fun c_4 => ?_)
  · exact absurd (by decide) c_4
  · refine lv_aload_n hx hb dX10_demandWall_17 rfl (lv_at hl 0 rfl) ?_
    refine va_get (v := .ref rf) (T := TX10) (N := 13) hx hb hts inX10 hown hK hP 0 rfl rfl 12 (by decide) f61 (fun _ h9 => h9) rfl dX10_demandWall_18 ?_
    refine lv_iconst (v := 1) hx hb dX10_demandWall_21 (by decide) ?_
    refine lv_dup2_11 hx hb dX10_demandWall_22 rfl rfl ?_
    refine he_iald hx hb hK hP 1 rfl (1) (by decide) (by decide) (by first | decide | assumption) (rc 1) rfl dX10_demandWall_23 ?_
    refine lv_iconst (v := 1) hx hb dX10_demandWall_24 (by decide) ?_
    refine lv_iadd hx hb dX10_demandWall_25 ?_
    refine he_iast hx hb hK hP hD hS 1 rfl (1) (by decide) (by decide) (by first | decide | assumption) dX10_demandWall_26 (fun H locs hP hD hS => ?_)
    have hP : va_P g.1 vwCl [(oX10 x0 y0 ta z0 p0 dr pa to_ s0 im ki tr v0 rf), (aI g rf 3 (upd rc 1 ((rc 1) + 1))), (oX6 p0 p1 p2 p3 p4 (nI w))] H := hP
    have hD : va_D A [(oX10 x0 y0 ta z0 p0 dr pa to_ s0 im ki tr v0 rf), (aI g rf 3 (upd rc 1 ((rc 1) + 1))), (oX6 p0 p1 p2 p3 p4 (nI w))] := hD
    have hP : va_P g.1 vwCl [(oX10 x0 y0 ta z0 p0 dr pa to_ s0 im ki tr v0 rf), (aI g rf 3 (upd rc 1 (rc 1 + 1))), (oX6 p0 p1 p2 p3 p4 (nI w))] H := hP
    have hD : va_D A [(oX10 x0 y0 ta z0 p0 dr pa to_ s0 im ki tr v0 rf), (aI g rf 3 (upd rc 1 (rc 1 + 1))), (oX6 p0 p1 p2 p3 p4 (nI w))] := hD
    subst hQ
    exact vx_throwSW hx hb hlt hown (by decide) (by decide) clx inx hsa9 hat9 hgd9 hE.2.2.2.2.1 hE.2.2.2.2.2.1 hS (by rw [hml]; exact hl.1) dX10_demandWall_27 dX10_demandWall_30 dX10_demandWall_31 dX10_demandWall_34 dX10_demandWall_37 (fun x h9 => (hne x h9).elim) (by decide) (Nat.le_of_ble_eq_true rfl) (Nat.le_of_ble_eq_true rfl) (Nat.le_of_ble_eq_true rfl) hlk (fun t _ hz hq => he_thx hP hD hS t hz hq) hS.2.2 (Nat.le_of_ble_eq_true rfl) (Nat.le_of_ble_eq_true rfl)
set_option maxHeartbeats 4000000 in
set_option maxRecDepth 100000 in
theorem g_X10_demandWall1 (l : Launch) (g : he_G) (x0 : Nat) (y0 : Nat) (z0 : Nat) (dr : Nat) (pa : Nat) (s0 : Nat) (im : Nat) (tr : Nat) (v0 : Nat) (rf : Nat) (ta : Int32) (to_ : Int32) (ki : Int32) (p0 : Nat) (p1 : Nat) (p2 : Nat) (p3 : Nat) (p4 : Nat) (w : Nat) (x : Int32) (hyes : ¬ he_within x 0 (nI w - 1) = 0) : he_V l yX10_demandWall wsX10_demandWall 1 22 0 0 g [.ref x0, .int x] [(oX10 x0 y0 ta z0 p0 dr pa to_ s0 im ki tr v0 rf), (oX6 p0 p1 p2 p3 p4 (nI w))] (fun (u : Unit) => True) (fun (u : Unit) => [(oX10 x0 y0 ta z0 p0 dr pa to_ s0 im ki tr v0 rf), (oX6 p0 p1 p2 p3 p4 (nI w))]) := by
  refine he_begin (l := l) (g := g) (y := yX10_demandWall) (wl := wsX10_demandWall) (fr := 1) (lo := 22) (mc := 0) (ms := 0) (av := [.ref x0, .int x]) (ws := [(oX10 x0 y0 ta z0 p0 dr pa to_ s0 im ki tr v0 rf), (oX6 p0 p1 p2 p3 p4 (nI w))]) (cc := cX10_demandWall) (maxL := 2) (ret := none) (fun A => va_Qv (fun (u : Unit) => True) (fun u t => he_post g A ((fun (u : Unit) => [(oX10 x0 y0 ta z0 p0 dr pa to_ s0 im ki tr v0 rf), (oX6 p0 p1 p2 p3 p4 (nI w))]) u) t) A) (by decide) rfl (Nat.le_of_ble_eq_true rfl) ?_
  intro p e s m args below meth c A ls H locs Q hQ hB
  obtain ⟨hx, hb, hr, hml, hown, hts, hlk, hin, hP, hK, hD, hS, hA, hE, hl⟩ := hB
  have hl : lv_has ls 2 [(0, .ref x0), (1, .int x)] := hl
  have f23 := hts (.fieldLink RX10 23 "HiredEnemy" "plan" "LHiredEnemy$Plan;") (iwoX10_demandWall (k := 2) rfl)
  have inX10 : ∀ w ∈ wsX100, w ∈ wsX10_demandWall := innX10_demandWall_X10
  have f99 := hts (.fieldLink RX10 99 "HiredEnemy$Plan" "walls" "I") (iwoX10_demandWall (k := 3) rfl)
  have inX6 : ∀ w ∈ wsX60, w ∈ wsX10_demandWall := innX10_demandWall_X6
  refine lv_iload_n hx hb dX10_demandWall_0 rfl (lv_at hl 1 rfl) ?_
  refine lv_iconst (v := 0) hx hb dX10_demandWall_1 (by decide) ?_
  refine lv_aload_n hx hb dX10_demandWall_2 rfl (lv_at hl 0 rfl) ?_
  refine va_get (v := .ref p0) (T := TX10) (N := 13) hx hb hts inX10 hown hK hP 0 rfl rfl 3 (by decide) f23 (fun _ h9 => h9) rfl dX10_demandWall_3 ?_
  refine va_get (v := .int (nI w)) (T := TX6) (N := 5) hx hb hts inX6 hown hK hP 1 rfl rfl 4 (by decide) f99 (fun _ h9 => h9) rfl dX10_demandWall_6 ?_
  refine lv_iconst (v := 1) hx hb dX10_demandWall_9 (by decide) ?_
  refine lv_isub hx hb dX10_demandWall_10 ?_
  refine he_ci (wc := []) (wr := [(oX10 x0 y0 ta z0 p0 dr pa to_ s0 im ki tr v0 rf), (oX6 p0 p1 p2 p3 p4 (nI w))]) (va_runS (As := [.int x, .int 0, .int ((nI w) - 1)]) (rest := []) ⟨hx, hb, hml, hown, hts⟩ (c_X10_within l g x 0 ((nI w) - 1) H.size) (va_cwS 3 hts gX10_demandWall_X10_within rfl rfl rfl (by decide +kernel) ⟨Nat.le_of_ble_eq_true rfl, Nat.le_of_ble_eq_true rfl⟩) (he_preS (wc := []) hK hP hD hS hA hE [] rfl rfl) rfl rfl hl.1 rfl (lv_room (Nat.le_of_ble_eq_true rfl)) dX10_demandWall_11 ⟨(Nat.le_of_ble_eq_true rfl), (Nat.le_of_ble_eq_true rfl)⟩) hP hD hS hA [] [0, 1] rfl rfl rfl (by decide) (fun r_1 u_2 H locs h_3 hP hD hS => ?_)
  subst h_3
  have hP : va_P g.1 vwCl [(oX10 x0 y0 ta z0 p0 dr pa to_ s0 im ki tr v0 rf), (oX6 p0 p1 p2 p3 p4 (nI w))] H := hP
  have hD : va_D A [(oX10 x0 y0 ta z0 p0 dr pa to_ s0 im ki tr v0 rf), (oX6 p0 p1 p2 p3 p4 (nI w))] := hD
  refine he_top (1) (he_within_1 hyes) ?_
  refine lv_if_ne (tgt := 38) hx hb dX10_demandWall_14 (by decide) (fun c_4 => ?_) (fun c_4 => ?_)
  · exact he_rv hQ hx hb hr hlk hP hD hS dX10_demandWall_38 (Nat.le_of_ble_eq_true rfl) (Nat.le_of_ble_eq_true rfl) (()) (rfl) (trivial)
  · exact absurd c_4 (by decide)
set_option maxHeartbeats 4000000 in
set_option maxRecDepth 100000 in
theorem g_X10_demandContract0 (l : Launch) (g : he_G) (x0 : Nat) (y0 : Nat) (z0 : Nat) (p0 : Nat) (dr : Nat) (pa : Nat) (s0 : Nat) (im : Nat) (tr : Nat) (v0 : Nat) (rf : Nat) (ta : Int32) (to_ : Int32) (ki : Int32) (rc : Nat → Int32) (x : Int32) (hlt : l.stackTraces = false) (hno : he_within x 0 (to_ - 1) = 0) : he_T he_QTv l yX10_demandContract wsX10_demandContract 6 82 1 6 g [.ref x0, .int x] [(oX10 x0 y0 ta z0 p0 dr pa to_ s0 im ki tr v0 rf), (aI g rf 3 rc)] "java/util/NoSuchElementException" [(oX10 x0 y0 ta z0 p0 dr pa to_ s0 im ki tr v0 rf), (aI g rf 3 (upd rc 0 (rc 0 + 1)))] := by
  refine he_beginX (l := l) (g := g) (y := yX10_demandContract) (wl := wsX10_demandContract) (fr := 6) (lo := 82) (mc := 1) (ms := 6) (av := [.ref x0, .int x]) (ws := [(oX10 x0 y0 ta z0 p0 dr pa to_ s0 im ki tr v0 rf), (aI g rf 3 rc)]) (cc := cX10_demandContract) (maxL := 2) (ret := none) he_QTv (by decide) rfl (Nat.le_of_ble_eq_true rfl) ?_
  intro p e s m args below meth c A ls H locs Q hQ hne hB
  obtain ⟨hx, hb, hr, hml, hown, hts, hlk, hin, hP, hK, hD, hS, hA, hE, hl⟩ := hB
  have hl : lv_has ls 2 [(0, .ref x0), (1, .int x)] := hl
  have f92 := hts (.fieldLink RX10 92 "HiredEnemy" "pactsTold" "I") (iwoX10_demandContract (k := 2) rfl)
  have inX10 : ∀ w ∈ wsX100, w ∈ wsX10_demandContract := innX10_demandContract_X10
  have f61 := hts (.fieldLink RX10 61 "HiredEnemy" "refused" "[I") (iwoX10_demandContract (k := 3) rfl)
  obtain ⟨sa9, hsa9⟩ := hE.2.2.2.2.2.2.2.2.1
  have clx := hts (.classLink RX10 263 "java/util/NoSuchElementException") (iwoX10_demandContract (k := 0) rfl)
  have inx := hts (.initialized "java/util/NoSuchElementException") (iwoX10_demandContract (k := 1) rfl)
  have hat9 : ∀ w ∈ nz_at RX10 267, w.before args s = true := he_hatL hE (fun w hw => hts w (ihtX10_demandContract w hw)) (by decide +kernel)
  have hgd9 : ∀ w ∈ Cond.classLink RX10 263 "java/util/NoSuchElementException" :: Cond.initialized "java/util/NoSuchElementException" :: nz_at RX10 267, vx_ot w = true := by decide +kernel
  refine lv_iload_n hx hb dX10_demandContract_0 rfl (lv_at hl 1 rfl) ?_
  refine lv_iconst (v := 0) hx hb dX10_demandContract_1 (by decide) ?_
  refine lv_aload_n hx hb dX10_demandContract_2 rfl (lv_at hl 0 rfl) ?_
  refine va_get (v := .int to_) (T := TX10) (N := 13) hx hb hts inX10 hown hK hP 0 rfl rfl 6 (by decide) f92 (fun _ h9 => h9) rfl dX10_demandContract_3 ?_
  refine lv_iconst (v := 1) hx hb dX10_demandContract_6 (by decide) ?_
  refine lv_isub hx hb dX10_demandContract_7 ?_
  refine he_ci (wc := []) (wr := [(oX10 x0 y0 ta z0 p0 dr pa to_ s0 im ki tr v0 rf), (aI g rf 3 rc)]) (va_runS (As := [.int x, .int 0, .int (to_ - 1)]) (rest := []) ⟨hx, hb, hml, hown, hts⟩ (c_X10_within l g x 0 (to_ - 1) H.size) (va_cwS 3 hts gX10_demandContract_X10_within rfl rfl rfl (by decide +kernel) ⟨Nat.le_of_ble_eq_true rfl, Nat.le_of_ble_eq_true rfl⟩) (he_preS (wc := []) hK hP hD hS hA hE [] rfl rfl) rfl rfl hl.1 rfl (lv_room (Nat.le_of_ble_eq_true rfl)) dX10_demandContract_8 ⟨(Nat.le_of_ble_eq_true rfl), (Nat.le_of_ble_eq_true rfl)⟩) hP hD hS hA [] [0, 1] rfl rfl rfl (by decide) (fun r_1 u_2 H locs h_3 hP hD hS => ?_)
  subst h_3
  have hP : va_P g.1 vwCl [(oX10 x0 y0 ta z0 p0 dr pa to_ s0 im ki tr v0 rf), (aI g rf 3 rc)] H := hP
  have hD : va_D A [(oX10 x0 y0 ta z0 p0 dr pa to_ s0 im ki tr v0 rf), (aI g rf 3 rc)] := hD
  refine he_top (0) hno ?_
  refine lv_if_ne (tgt := 35) hx hb dX10_demandContract_11 (by decide) (fun c_4 => ?_) (fun c_4 => ?_)
  · exact absurd (by decide) c_4
  · refine lv_aload_n hx hb dX10_demandContract_14 rfl (lv_at hl 0 rfl) ?_
    refine va_get (v := .ref rf) (T := TX10) (N := 13) hx hb hts inX10 hown hK hP 0 rfl rfl 12 (by decide) f61 (fun _ h9 => h9) rfl dX10_demandContract_15 ?_
    refine lv_iconst (v := 0) hx hb dX10_demandContract_18 (by decide) ?_
    refine lv_dup2_11 hx hb dX10_demandContract_19 rfl rfl ?_
    refine he_iald hx hb hK hP 1 rfl (0) (by decide) (by decide) (by first | decide | assumption) (rc 0) rfl dX10_demandContract_20 ?_
    refine lv_iconst (v := 1) hx hb dX10_demandContract_21 (by decide) ?_
    refine lv_iadd hx hb dX10_demandContract_22 ?_
    refine he_iast hx hb hK hP hD hS 1 rfl (0) (by decide) (by decide) (by first | decide | assumption) dX10_demandContract_23 (fun H locs hP hD hS => ?_)
    have hP : va_P g.1 vwCl [(oX10 x0 y0 ta z0 p0 dr pa to_ s0 im ki tr v0 rf), (aI g rf 3 (upd rc 0 ((rc 0) + 1)))] H := hP
    have hD : va_D A [(oX10 x0 y0 ta z0 p0 dr pa to_ s0 im ki tr v0 rf), (aI g rf 3 (upd rc 0 ((rc 0) + 1)))] := hD
    have hP : va_P g.1 vwCl [(oX10 x0 y0 ta z0 p0 dr pa to_ s0 im ki tr v0 rf), (aI g rf 3 (upd rc 0 (rc 0 + 1)))] H := hP
    have hD : va_D A [(oX10 x0 y0 ta z0 p0 dr pa to_ s0 im ki tr v0 rf), (aI g rf 3 (upd rc 0 (rc 0 + 1)))] := hD
    subst hQ
    exact nz_throwW hx hb hlt hown clx inx hsa9 hat9 hgd9 hE.2.2.2.2.1 hE.2.2.2.2.2.1 hS (by rw [hml]; exact hl.1) dX10_demandContract_24 dX10_demandContract_27 dX10_demandContract_28 dX10_demandContract_31 dX10_demandContract_34 (fun x h9 => (hne x h9).elim) (by decide) (Nat.le_of_ble_eq_true rfl) (Nat.le_of_ble_eq_true rfl) (Nat.le_of_ble_eq_true rfl) hlk (fun t _ hz hq => he_thx hP hD hS t hz hq) hS.2.2 (Nat.le_of_ble_eq_true rfl) (Nat.le_of_ble_eq_true rfl)
set_option maxHeartbeats 4000000 in
set_option maxRecDepth 100000 in
theorem g_X10_demandContract1 (l : Launch) (g : he_G) (x0 : Nat) (y0 : Nat) (z0 : Nat) (p0 : Nat) (dr : Nat) (pa : Nat) (s0 : Nat) (im : Nat) (tr : Nat) (v0 : Nat) (rf : Nat) (ta : Int32) (to_ : Int32) (ki : Int32) (x : Int32) (hyes : ¬ he_within x 0 (to_ - 1) = 0) : he_V l yX10_demandContract wsX10_demandContract 1 22 0 0 g [.ref x0, .int x] [(oX10 x0 y0 ta z0 p0 dr pa to_ s0 im ki tr v0 rf)] (fun (u : Unit) => True) (fun (u : Unit) => [(oX10 x0 y0 ta z0 p0 dr pa to_ s0 im ki tr v0 rf)]) := by
  refine he_begin (l := l) (g := g) (y := yX10_demandContract) (wl := wsX10_demandContract) (fr := 1) (lo := 22) (mc := 0) (ms := 0) (av := [.ref x0, .int x]) (ws := [(oX10 x0 y0 ta z0 p0 dr pa to_ s0 im ki tr v0 rf)]) (cc := cX10_demandContract) (maxL := 2) (ret := none) (fun A => va_Qv (fun (u : Unit) => True) (fun u t => he_post g A ((fun (u : Unit) => [(oX10 x0 y0 ta z0 p0 dr pa to_ s0 im ki tr v0 rf)]) u) t) A) (by decide) rfl (Nat.le_of_ble_eq_true rfl) ?_
  intro p e s m args below meth c A ls H locs Q hQ hB
  obtain ⟨hx, hb, hr, hml, hown, hts, hlk, hin, hP, hK, hD, hS, hA, hE, hl⟩ := hB
  have hl : lv_has ls 2 [(0, .ref x0), (1, .int x)] := hl
  have f92 := hts (.fieldLink RX10 92 "HiredEnemy" "pactsTold" "I") (iwoX10_demandContract (k := 2) rfl)
  have inX10 : ∀ w ∈ wsX100, w ∈ wsX10_demandContract := innX10_demandContract_X10
  refine lv_iload_n hx hb dX10_demandContract_0 rfl (lv_at hl 1 rfl) ?_
  refine lv_iconst (v := 0) hx hb dX10_demandContract_1 (by decide) ?_
  refine lv_aload_n hx hb dX10_demandContract_2 rfl (lv_at hl 0 rfl) ?_
  refine va_get (v := .int to_) (T := TX10) (N := 13) hx hb hts inX10 hown hK hP 0 rfl rfl 6 (by decide) f92 (fun _ h9 => h9) rfl dX10_demandContract_3 ?_
  refine lv_iconst (v := 1) hx hb dX10_demandContract_6 (by decide) ?_
  refine lv_isub hx hb dX10_demandContract_7 ?_
  refine he_ci (wc := []) (wr := [(oX10 x0 y0 ta z0 p0 dr pa to_ s0 im ki tr v0 rf)]) (va_runS (As := [.int x, .int 0, .int (to_ - 1)]) (rest := []) ⟨hx, hb, hml, hown, hts⟩ (c_X10_within l g x 0 (to_ - 1) H.size) (va_cwS 3 hts gX10_demandContract_X10_within rfl rfl rfl (by decide +kernel) ⟨Nat.le_of_ble_eq_true rfl, Nat.le_of_ble_eq_true rfl⟩) (he_preS (wc := []) hK hP hD hS hA hE [] rfl rfl) rfl rfl hl.1 rfl (lv_room (Nat.le_of_ble_eq_true rfl)) dX10_demandContract_8 ⟨(Nat.le_of_ble_eq_true rfl), (Nat.le_of_ble_eq_true rfl)⟩) hP hD hS hA [] [0] rfl rfl rfl (by decide) (fun r_1 u_2 H locs h_3 hP hD hS => ?_)
  subst h_3
  have hP : va_P g.1 vwCl [(oX10 x0 y0 ta z0 p0 dr pa to_ s0 im ki tr v0 rf)] H := hP
  have hD : va_D A [(oX10 x0 y0 ta z0 p0 dr pa to_ s0 im ki tr v0 rf)] := hD
  refine he_top (1) (he_within_1 hyes) ?_
  refine lv_if_ne (tgt := 35) hx hb dX10_demandContract_11 (by decide) (fun c_4 => ?_) (fun c_4 => ?_)
  · exact he_rv hQ hx hb hr hlk hP hD hS dX10_demandContract_35 (Nat.le_of_ble_eq_true rfl) (Nat.le_of_ble_eq_true rfl) (()) (rfl) (trivial)
  · exact absurd c_4 (by decide)
set_option maxHeartbeats 4000000 in
set_option maxRecDepth 100000 in
theorem g_X10_demandCNn (l : Launch) (g : he_G) (x0 : Nat)  : he_V l yX10_demandContractOrNone wsX10_demandContractOrNone 0 0 0 0 g [.ref x0, .int (-1)] [] (fun (u : Unit) => True) (fun (u : Unit) => []) := by
  refine he_begin (l := l) (g := g) (y := yX10_demandContractOrNone) (wl := wsX10_demandContractOrNone) (fr := 0) (lo := 0) (mc := 0) (ms := 0) (av := [.ref x0, .int (-1)]) (ws := []) (cc := cX10_demandContractOrNone) (maxL := 2) (ret := none) (fun A => va_Qv (fun (u : Unit) => True) (fun u t => he_post g A ((fun (u : Unit) => []) u) t) A) (by decide) rfl (Nat.le_of_ble_eq_true rfl) ?_
  intro p e s m args below meth c A ls H locs Q hQ hB
  obtain ⟨hx, hb, hr, hml, hown, hts, hlk, hin, hP, hK, hD, hS, hA, hE, hl⟩ := hB
  have hl : lv_has ls 2 [(0, .ref x0), (1, .int (-1))] := hl
  refine lv_iload_n hx hb dX10_demandContractOrNone_0 rfl (lv_at hl 1 rfl) ?_
  refine lv_iconst (v := (-1)) hx hb dX10_demandContractOrNone_1 (by decide) ?_
  refine lv_icmp_eq (tgt := 10) hx hb dX10_demandContractOrNone_2 (by decide) (fun c_1 => ?_) (fun c_1 => ?_)
  · exact he_rv hQ hx hb hr hlk hP hD hS dX10_demandContractOrNone_10 (Nat.le_of_ble_eq_true rfl) (Nat.le_of_ble_eq_true rfl) (()) (rfl) (trivial)
  · exact absurd (by decide) c_1
set_option maxHeartbeats 4000000 in
set_option maxRecDepth 100000 in
theorem g_X10_demandCN1 (l : Launch) (g : he_G) (x0 : Nat) (y0 : Nat) (z0 : Nat) (p0 : Nat) (dr : Nat) (pa : Nat) (s0 : Nat) (im : Nat) (tr : Nat) (v0 : Nat) (rf : Nat) (ta : Int32) (to_ : Int32) (ki : Int32) (x : Int32) (hyes : ¬ he_within x 0 (to_ - 1) = 0) (hx1 : ¬ x = -1) : he_V l yX10_demandContractOrNone wsX10_demandContractOrNone 2 43 0 0 g [.ref x0, .int x] [(oX10 x0 y0 ta z0 p0 dr pa to_ s0 im ki tr v0 rf)] (fun (u : Unit) => True) (fun (u : Unit) => [(oX10 x0 y0 ta z0 p0 dr pa to_ s0 im ki tr v0 rf)]) := by
  refine he_begin (l := l) (g := g) (y := yX10_demandContractOrNone) (wl := wsX10_demandContractOrNone) (fr := 2) (lo := 43) (mc := 0) (ms := 0) (av := [.ref x0, .int x]) (ws := [(oX10 x0 y0 ta z0 p0 dr pa to_ s0 im ki tr v0 rf)]) (cc := cX10_demandContractOrNone) (maxL := 2) (ret := none) (fun A => va_Qv (fun (u : Unit) => True) (fun u t => he_post g A ((fun (u : Unit) => [(oX10 x0 y0 ta z0 p0 dr pa to_ s0 im ki tr v0 rf)]) u) t) A) (by decide) rfl (Nat.le_of_ble_eq_true rfl) ?_
  intro p e s m args below meth c A ls H locs Q hQ hB
  obtain ⟨hx, hb, hr, hml, hown, hts, hlk, hin, hP, hK, hD, hS, hA, hE, hl⟩ := hB
  have hl : lv_has ls 2 [(0, .ref x0), (1, .int x)] := hl
  refine lv_iload_n hx hb dX10_demandContractOrNone_0 rfl (lv_at hl 1 rfl) ?_
  refine lv_iconst (v := (-1)) hx hb dX10_demandContractOrNone_1 (by decide) ?_
  refine lv_icmp_eq (tgt := 10) hx hb dX10_demandContractOrNone_2 (by decide) (fun c_1 => ?_) (fun c_1 => ?_)
  · exact absurd c_1 hx1
  · refine lv_aload_n hx hb dX10_demandContractOrNone_5 rfl (lv_at hl 0 rfl) ?_
    refine lv_iload_n hx hb dX10_demandContractOrNone_6 rfl (lv_at hl 1 rfl) ?_
    refine he_cv (wc := [(oX10 x0 y0 ta z0 p0 dr pa to_ s0 im ki tr v0 rf)]) (wr := []) (va_runV (As := [.int x]) (rest := []) ⟨hx, hb, hml, hown, hts⟩ (g_X10_demandContract1 l g x0 y0 z0 p0 dr pa s0 im tr v0 rf ta to_ ki x (by first | assumption | decide | omega) H.size) (cwV 1 hts gX10_demandContractOrNone_X10_demandContract rfl rfl rfl (by decide +kernel) ⟨Nat.le_of_ble_eq_true rfl, Nat.le_of_ble_eq_true rfl⟩) (he_preV (wc := [(oX10 x0 y0 ta z0 p0 dr pa to_ s0 im ki tr v0 rf)]) hK hP hD hS hA hE [0] rfl rfl 0 rfl rfl) rfl rfl hl.1 rfl (lv_room (Nat.le_of_ble_eq_true rfl)) dX10_demandContractOrNone_7 ⟨(Nat.le_of_ble_eq_true rfl), (Nat.le_of_ble_eq_true rfl)⟩) hP hD hS hA [0] [] rfl rfl rfl (by decide) (fun u_3 H locs h_4 hP hD hS => ?_)
    have hP : va_P g.1 vwCl [(oX10 x0 y0 ta z0 p0 dr pa to_ s0 im ki tr v0 rf)] H := hP
    have hD : va_D A [(oX10 x0 y0 ta z0 p0 dr pa to_ s0 im ki tr v0 rf)] := hD
    exact he_rv hQ hx hb hr hlk hP hD hS dX10_demandContractOrNone_10 (Nat.le_of_ble_eq_true rfl) (Nat.le_of_ble_eq_true rfl) (()) (rfl) (trivial)
set_option maxHeartbeats 4000000 in
set_option maxRecDepth 100000 in
theorem g_X10_demandCN0 (l : Launch) (g : he_G) (x0 : Nat) (y0 : Nat) (z0 : Nat) (p0 : Nat) (dr : Nat) (pa : Nat) (s0 : Nat) (im : Nat) (tr : Nat) (v0 : Nat) (rf : Nat) (ta : Int32) (to_ : Int32) (ki : Int32) (rc : Nat → Int32) (x : Int32) (hlt : l.stackTraces = false) (hno : he_within x 0 (to_ - 1) = 0) (hx1 : ¬ x = -1) : he_T he_QTv l yX10_demandContractOrNone wsX10_demandContractOrNone 7 103 1 6 g [.ref x0, .int x] [(oX10 x0 y0 ta z0 p0 dr pa to_ s0 im ki tr v0 rf), (aI g rf 3 rc)] "java/util/NoSuchElementException" [(oX10 x0 y0 ta z0 p0 dr pa to_ s0 im ki tr v0 rf), (aI g rf 3 (upd rc 0 (rc 0 + 1)))] := by
  refine he_beginX (l := l) (g := g) (y := yX10_demandContractOrNone) (wl := wsX10_demandContractOrNone) (fr := 7) (lo := 103) (mc := 1) (ms := 6) (av := [.ref x0, .int x]) (ws := [(oX10 x0 y0 ta z0 p0 dr pa to_ s0 im ki tr v0 rf), (aI g rf 3 rc)]) (cc := cX10_demandContractOrNone) (maxL := 2) (ret := none) he_QTv (by decide) rfl (Nat.le_of_ble_eq_true rfl) ?_
  intro p e s m args below meth c A ls H locs Q hQ hne hB
  obtain ⟨hx, hb, hr, hml, hown, hts, hlk, hin, hP, hK, hD, hS, hA, hE, hl⟩ := hB
  have hl : lv_has ls 2 [(0, .ref x0), (1, .int x)] := hl
  refine lv_iload_n hx hb dX10_demandContractOrNone_0 rfl (lv_at hl 1 rfl) ?_
  refine lv_iconst (v := (-1)) hx hb dX10_demandContractOrNone_1 (by decide) ?_
  refine lv_icmp_eq (tgt := 10) hx hb dX10_demandContractOrNone_2 (by decide) (fun c_1 => ?_) (fun c_1 => ?_)
  · exact absurd c_1 hx1
  · refine lv_aload_n hx hb dX10_demandContractOrNone_5 rfl (lv_at hl 0 rfl) ?_
    refine lv_iload_n hx hb dX10_demandContractOrNone_6 rfl (lv_at hl 1 rfl) ?_
    refine he_xv (En := "java/util/NoSuchElementException") (wx := [(oX10 x0 y0 ta z0 p0 dr pa to_ s0 im ki tr v0 rf), (aI g rf 3 (upd rc 0 (rc 0 + 1)))]) (wc := [(oX10 x0 y0 ta z0 p0 dr pa to_ s0 im ki tr v0 rf), (aI g rf 3 rc)]) (wr := []) (vx_runV (As := [.int x]) (rest := []) ⟨hx, hb, hml, hown, hts⟩ (g_X10_demandContract0 l g x0 y0 z0 p0 dr pa s0 im tr v0 rf ta to_ ki rc x hlt (by first | assumption | decide | omega) H.size) (cwV 1 hts gX10_demandContractOrNone_X10_demandContract rfl rfl rfl (by decide +kernel) ⟨Nat.le_of_ble_eq_true rfl, Nat.le_of_ble_eq_true rfl⟩) (he_preV (wc := [(oX10 x0 y0 ta z0 p0 dr pa to_ s0 im ki tr v0 rf), (aI g rf 3 rc)]) hK hP hD hS hA hE [0, 1] rfl rfl 0 rfl rfl) rfl rfl hl.1 rfl (lv_room (Nat.le_of_ble_eq_true rfl)) dX10_demandContractOrNone_7 ⟨(Nat.le_of_ble_eq_true rfl), (Nat.le_of_ble_eq_true rfl)⟩) hP hD hS hA [0, 1] [] rfl rfl rfl (by decide) (fun ce q9 H locs hP hD hS hce hcv hcl => ?_)
    have hP : va_P g.1 vwCl [(oX10 x0 y0 ta z0 p0 dr pa to_ s0 im ki tr v0 rf), (aI g rf 3 (upd rc 0 (rc 0 + 1)))] H := hP
    have hD : va_D A [(oX10 x0 y0 ta z0 p0 dr pa to_ s0 im ki tr v0 rf), (aI g rf 3 (upd rc 0 (rc 0 + 1)))] := hD
    exact he_out hQ hlk hne hP hD hS hce hcv hcl (Nat.le_of_ble_eq_true rfl) (Nat.le_of_ble_eq_true rfl)
set_option maxHeartbeats 4000000 in
set_option maxRecDepth 100000 in
theorem g_X10_inForceN (l : Launch) (g : he_G) (x0 : Nat) (h0 : Nat) (q0 : Nat) (q1 : Nat) (mo : Int32) (f : Nat → Int32) (hno : he_within (f 10) 0 6 = 0) : he_O l yX10_inForce wsX10_inForce 1 22 0 0 g [.ref x0, .ref h0] [(oX4 h0 q0 q1 mo), (aI g q0 24 f)] (fun (r : Option Nat) (u : Unit) => r = none) (fun (u : Unit) => [(oX4 h0 q0 q1 mo), (aI g q0 24 f)]) := by
  refine he_begin (l := l) (g := g) (y := yX10_inForce) (wl := wsX10_inForce) (fr := 1) (lo := 22) (mc := 0) (ms := 0) (av := [.ref x0, .ref h0]) (ws := [(oX4 h0 q0 q1 mo), (aI g q0 24 f)]) (cc := cX10_inForce) (maxL := 3) (ret := (some (.object "HiredEnemy$Pact"))) (fun A => va_Qq (fun (r : Option Nat) (u : Unit) => r = none) (fun u t => he_post g A ((fun (u : Unit) => [(oX4 h0 q0 q1 mo), (aI g q0 24 f)]) u) t) A) (by decide) rfl (Nat.le_of_ble_eq_true rfl) ?_
  intro p e s m args below meth c A ls H locs Q hQ hB
  obtain ⟨hx, hb, hr, hml, hown, hts, hlk, hin, hP, hK, hD, hS, hA, hE, hl⟩ := hB
  have hl : lv_has ls 3 [(0, .ref x0), (1, .ref h0)] := hl
  have f111 := hts (.fieldLink RX10 111 "HiredEnemy$Course" "now" "[I") (iwoX10_inForce (k := 0) rfl)
  have inX4 : ∀ w ∈ wsX40, w ∈ wsX10_inForce := innX10_inForce_X4
  refine lv_aload_n hx hb dX10_inForce_0 rfl (lv_at hl 1 rfl) ?_
  refine va_get (v := .ref q0) (T := TX4) (N := 3) hx hb hts inX4 hown hK hP 0 rfl rfl 0 (by decide) f111 (fun _ h9 => h9) rfl dX10_inForce_1 ?_
  refine lv_bipush (v := 10) hx hb dX10_inForce_4 (by decide) ?_
  refine he_iald hx hb hK hP 1 rfl (10) (by decide) (by decide) (by first | decide | assumption) (f 10) rfl dX10_inForce_6 ?_
  refine lv_istore_n (lv' := [(2, .int (f 10)), (0, .ref x0), (1, .ref h0)]) hx hb dX10_inForce_7 rfl hl (by decide) rfl (fun ls hl => ?_)
  refine lv_iload_n hx hb dX10_inForce_8 rfl (lv_at hl 0 rfl) ?_
  refine lv_iconst (v := 0) hx hb dX10_inForce_9 (by decide) ?_
  refine lv_bipush (v := 6) hx hb dX10_inForce_10 (by decide) ?_
  refine he_ci (wc := []) (wr := [(oX4 h0 q0 q1 mo), (aI g q0 24 f)]) (va_runS (As := [.int (f 10), .int 0, .int 6]) (rest := []) ⟨hx, hb, hml, hown, hts⟩ (c_X10_within l g (f 10) 0 6 H.size) (va_cwS 3 hts gX10_inForce_X10_within rfl rfl rfl (by decide +kernel) ⟨Nat.le_of_ble_eq_true rfl, Nat.le_of_ble_eq_true rfl⟩) (he_preS (wc := []) hK hP hD hS hA hE [] rfl rfl) rfl rfl hl.1 rfl (lv_room (Nat.le_of_ble_eq_true rfl)) dX10_inForce_12 ⟨(Nat.le_of_ble_eq_true rfl), (Nat.le_of_ble_eq_true rfl)⟩) hP hD hS hA [] [0, 1] rfl rfl rfl (by decide) (fun r_1 u_2 H locs h_3 hP hD hS => ?_)
  subst h_3
  have hP : va_P g.1 vwCl [(oX4 h0 q0 q1 mo), (aI g q0 24 f)] H := hP
  have hD : va_D A [(oX4 h0 q0 q1 mo), (aI g q0 24 f)] := hD
  refine he_top (0) hno ?_
  refine lv_if_eq (tgt := 27) hx hb dX10_inForce_15 (by decide) (fun c_4 => ?_) (fun c_4 => ?_)
  · refine lv_null hx hb dX10_inForce_27 ?_
    exact he_ra hQ hx hb hr hlk hP hD hS dX10_inForce_28 (Nat.le_of_ble_eq_true rfl) (Nat.le_of_ble_eq_true rfl) (Or.inl ⟨_, rfl⟩) (none) rfl (()) (rfl) (rfl)
  · exact absurd (by decide) c_4
set_option maxHeartbeats 4000000 in
set_option maxRecDepth 100000 in
theorem g_X10_inForceP (l : Launch) (g : he_G) (x0 : Nat) (y0 : Nat) (z0 : Nat) (p0 : Nat) (dr : Nat) (pa : Nat) (s0 : Nat) (im : Nat) (tr : Nat) (v0 : Nat) (rf : Nat) (ta : Int32) (to_ : Int32) (ki : Int32) (h0 : Nat) (q0 : Nat) (q1 : Nat) (mo : Int32) (f : Nat → Int32) (pf : Nat → Option Nat) (t0 : Nat) (ci : Nat) (hc7 : ci < 7) (hf : f 10 = nI ci) (hpf : pf ci = some t0) : he_O l yX10_inForce wsX10_inForce 1 22 0 0 g [.ref x0, .ref h0] [(oX10 x0 y0 ta z0 p0 dr pa to_ s0 im ki tr v0 rf), (oX4 h0 q0 q1 mo), (aI g q0 24 f), (aP g pa 7 pf)] (fun (r : Option Nat) (u : Unit) => r = some t0) (fun (u : Unit) => [(oX10 x0 y0 ta z0 p0 dr pa to_ s0 im ki tr v0 rf), (oX4 h0 q0 q1 mo), (aI g q0 24 f), (aP g pa 7 pf)]) := by
  refine he_begin (l := l) (g := g) (y := yX10_inForce) (wl := wsX10_inForce) (fr := 1) (lo := 22) (mc := 0) (ms := 0) (av := [.ref x0, .ref h0]) (ws := [(oX10 x0 y0 ta z0 p0 dr pa to_ s0 im ki tr v0 rf), (oX4 h0 q0 q1 mo), (aI g q0 24 f), (aP g pa 7 pf)]) (cc := cX10_inForce) (maxL := 3) (ret := (some (.object "HiredEnemy$Pact"))) (fun A => va_Qq (fun (r : Option Nat) (u : Unit) => r = some t0) (fun u t => he_post g A ((fun (u : Unit) => [(oX10 x0 y0 ta z0 p0 dr pa to_ s0 im ki tr v0 rf), (oX4 h0 q0 q1 mo), (aI g q0 24 f), (aP g pa 7 pf)]) u) t) A) (by decide) rfl (Nat.le_of_ble_eq_true rfl) ?_
  intro p e s m args below meth c A ls H locs Q hQ hB
  obtain ⟨hx, hb, hr, hml, hown, hts, hlk, hin, hP, hK, hD, hS, hA, hE, hl⟩ := hB
  have hl : lv_has ls 3 [(0, .ref x0), (1, .ref h0)] := hl
  have f111 := hts (.fieldLink RX10 111 "HiredEnemy$Course" "now" "[I") (iwoX10_inForce (k := 0) rfl)
  have inX4 : ∀ w ∈ wsX40, w ∈ wsX10_inForce := innX10_inForce_X4
  have f32 := hts (.fieldLink RX10 32 "HiredEnemy" "pacts" "[LHiredEnemy$Pact;") (iwoX10_inForce (k := 1) rfl)
  have inX10 : ∀ w ∈ wsX100, w ∈ wsX10_inForce := innX10_inForce_X10
  refine lv_aload_n hx hb dX10_inForce_0 rfl (lv_at hl 1 rfl) ?_
  refine va_get (v := .ref q0) (T := TX4) (N := 3) hx hb hts inX4 hown hK hP 1 rfl rfl 0 (by decide) f111 (fun _ h9 => h9) rfl dX10_inForce_1 ?_
  refine lv_bipush (v := 10) hx hb dX10_inForce_4 (by decide) ?_
  refine he_iald hx hb hK hP 2 rfl (10) (by decide) (by decide) (by first | decide | assumption) (nI ci) hf dX10_inForce_6 ?_
  refine lv_istore_n (lv' := [(2, .int (nI ci)), (0, .ref x0), (1, .ref h0)]) hx hb dX10_inForce_7 rfl hl (by decide) rfl (fun ls hl => ?_)
  refine lv_iload_n hx hb dX10_inForce_8 rfl (lv_at hl 0 rfl) ?_
  refine lv_iconst (v := 0) hx hb dX10_inForce_9 (by decide) ?_
  refine lv_bipush (v := 6) hx hb dX10_inForce_10 (by decide) ?_
  refine he_ci (wc := []) (wr := [(oX10 x0 y0 ta z0 p0 dr pa to_ s0 im ki tr v0 rf), (oX4 h0 q0 q1 mo), (aI g q0 24 f), (aP g pa 7 pf)]) (va_runS (As := [.int (nI ci), .int 0, .int 6]) (rest := []) ⟨hx, hb, hml, hown, hts⟩ (c_X10_within l g (nI ci) 0 6 H.size) (va_cwS 3 hts gX10_inForce_X10_within rfl rfl rfl (by decide +kernel) ⟨Nat.le_of_ble_eq_true rfl, Nat.le_of_ble_eq_true rfl⟩) (he_preS (wc := []) hK hP hD hS hA hE [] rfl rfl) rfl rfl hl.1 rfl (lv_room (Nat.le_of_ble_eq_true rfl)) dX10_inForce_12 ⟨(Nat.le_of_ble_eq_true rfl), (Nat.le_of_ble_eq_true rfl)⟩) hP hD hS hA [] [0, 1, 2, 3] rfl rfl rfl (by decide) (fun r_1 u_2 H locs h_3 hP hD hS => ?_)
  subst h_3
  have hP : va_P g.1 vwCl [(oX10 x0 y0 ta z0 p0 dr pa to_ s0 im ki tr v0 rf), (oX4 h0 q0 q1 mo), (aI g q0 24 f), (aP g pa 7 pf)] H := hP
  have hD : va_D A [(oX10 x0 y0 ta z0 p0 dr pa to_ s0 im ki tr v0 rf), (oX4 h0 q0 q1 mo), (aI g q0 24 f), (aP g pa 7 pf)] := hD
  refine he_top (1) (he_within_in (a0 := 0) (B := 6) rfl rfl (by omega) (by omega) (by decide)) ?_
  refine lv_if_eq (tgt := 27) hx hb dX10_inForce_15 (by decide) (fun c_4 => ?_) (fun c_4 => ?_)
  · exact absurd c_4 (by decide)
  · refine lv_aload_n hx hb dX10_inForce_18 rfl (lv_at hl 1 rfl) ?_
    refine va_get (v := .ref pa) (T := TX10) (N := 13) hx hb hts inX10 hown hK hP 0 rfl rfl 5 (by decide) f32 (fun _ h9 => h9) rfl dX10_inForce_19 ?_
    refine lv_iload_n hx hb dX10_inForce_22 rfl (lv_at hl 0 rfl) ?_
    refine he_ald hx hb 2 rfl hK hP 3 rfl (ci) rfl (by first | assumption | decide | omega) (by first | decide | assumption) (.ref t0) (by rw [hpf]; rfl) dX10_inForce_23 ?_
    refine lv_goto (tgt := 28) hx hb dX10_inForce_24 (by decide) ?_
    exact he_ra hQ hx hb hr hlk hP hD hS dX10_inForce_28 (Nat.le_of_ble_eq_true rfl) (Nat.le_of_ble_eq_true rfl) (Or.inl ⟨_, rfl⟩) (some t0) rfl (()) (rfl) (rfl)
set_option maxHeartbeats 4000000 in
set_option maxRecDepth 100000 in
theorem g_X10_passTried (l : Launch) (g : he_G) (x0 : Nat) (y0 : Nat) (z0 : Nat) (dr : Nat) (pa : Nat) (s0 : Nat) (im : Nat) (tr : Nat) (v0 : Nat) (rf : Nat) (ta : Int32) (to_ : Int32) (ki : Int32) (p0 : Nat) (p1 : Nat) (p2 : Nat) (p3 : Nat) (p4 : Nat) (w : Nat) (sd : Nat → Int32) (fn : Nat → Int32) (st : Nat → Int32) (me : Nat → Int32) (r0 : Nat) (r1 : Nat) (mo : Int32) (f : Nat → Int32) (sh : Nat → Int32) (n : Nat) (pf : Nat → Option Nat) (t0 : Nat) (t1 : Nat) (t2 : Nat) (pw : Int32) (pd : Nat → Int32) (wb : Nat → Int32) (ck : Nat) (ci : Nat) (hw6 : w ≤ 6) (hwb : ∀ k, k < 36 → -1 ≤ wb k) (hck : pd 3 = nI ck) (hc99 : ck ≤ 99) (hc7 : ci < 7) (hpf : pf ci = some t0) (hF : (f 10 = nI ci ∨ he_within (f 10) 0 6 = 0)) (hn : n ≤ 60) : he_V l yX10_passTried wsX10_passTried 5 110 0 0 g [.ref x0, .int (nI n)] [(oX10 x0 y0 ta z0 p0 dr pa to_ s0 im ki tr v0 rf), (oX4 tr r0 r1 mo), (aI g r0 24 f), (aI g r1 6 sh), (oX6 p0 p1 p2 p3 p4 (nI w)), (aI g p1 24 sd), (aI g p2 10 fn), (aI g p3 6 st), (aI g p4 6 me), (aP g pa 7 pf), (oX5 t0 t1 t2 pw), (aI g t1 6 pd), (aI g t2 36 wb)] (fun (u : Int32 × (Nat → Int32) × (Nat → Int32)) => (u.2.1 10 = nI ci ∨ he_within (u.2.1 10) 0 6 = 0)) (fun (u : Int32 × (Nat → Int32) × (Nat → Int32)) => [(oX10 x0 y0 ta z0 p0 dr pa to_ s0 im ki tr v0 rf), (oX4 tr r0 r1 u.1), (aI g r0 24 u.2.1), (aI g r1 6 u.2.2), (oX6 p0 p1 p2 p3 p4 (nI w)), (aI g p1 24 sd), (aI g p2 10 fn), (aI g p3 6 st), (aI g p4 6 me), (aP g pa 7 pf), (oX5 t0 t1 t2 pw), (aI g t1 6 pd), (aI g t2 36 wb)]) := by
  refine he_begin (l := l) (g := g) (y := yX10_passTried) (wl := wsX10_passTried) (fr := 5) (lo := 110) (mc := 0) (ms := 0) (av := [.ref x0, .int (nI n)]) (ws := [(oX10 x0 y0 ta z0 p0 dr pa to_ s0 im ki tr v0 rf), (oX4 tr r0 r1 mo), (aI g r0 24 f), (aI g r1 6 sh), (oX6 p0 p1 p2 p3 p4 (nI w)), (aI g p1 24 sd), (aI g p2 10 fn), (aI g p3 6 st), (aI g p4 6 me), (aP g pa 7 pf), (oX5 t0 t1 t2 pw), (aI g t1 6 pd), (aI g t2 36 wb)]) (cc := cX10_passTried) (maxL := 3) (ret := none) (fun A => va_Qv (fun (u : Int32 × (Nat → Int32) × (Nat → Int32)) => (u.2.1 10 = nI ci ∨ he_within (u.2.1 10) 0 6 = 0)) (fun u t => he_post g A ((fun (u : Int32 × (Nat → Int32) × (Nat → Int32)) => [(oX10 x0 y0 ta z0 p0 dr pa to_ s0 im ki tr v0 rf), (oX4 tr r0 r1 u.1), (aI g r0 24 u.2.1), (aI g r1 6 u.2.2), (oX6 p0 p1 p2 p3 p4 (nI w)), (aI g p1 24 sd), (aI g p2 10 fn), (aI g p3 6 st), (aI g p4 6 me), (aP g pa 7 pf), (oX5 t0 t1 t2 pw), (aI g t1 6 pd), (aI g t2 36 wb)]) u) t) A) (by decide) rfl (Nat.le_of_ble_eq_true rfl) ?_
  intro p e s m args below meth c A ls H locs Q hQ hB
  obtain ⟨hx, hb, hr, hml, hown, hts, hlk, hin, hP, hK, hD, hS, hA, hE, hl⟩ := hB
  have hl : lv_has ls 3 [(0, .ref x0), (1, .int (nI n))] := hl
  have f50 := hts (.fieldLink RX10 50 "HiredEnemy" "trial" "LHiredEnemy$Course;") (iwoX10_passTried (k := 0) rfl)
  have inX10 : ∀ w ∈ wsX100, w ∈ wsX10_passTried := innX10_passTried_X10
  have f114 := hts (.fieldLink RX10 114 "HiredEnemy$Course" "month" "I") (iwoX10_passTried (k := 1) rfl)
  have inX4 : ∀ w ∈ wsX40, w ∈ wsX10_passTried := innX10_passTried_X4
  have f23 := hts (.fieldLink RX10 23 "HiredEnemy" "plan" "LHiredEnemy$Plan;") (iwoX10_passTried (k := 2) rfl)
  refine lv_iconst (v := 0) hx hb dX10_passTried_0 (by decide) ?_
  refine lv_istore_n (lv' := [(2, .int 0), (0, .ref x0), (1, .int (nI n))]) hx hb dX10_passTried_1 rfl hl (by decide) rfl (fun ls hl => ?_)
  have loop2 : ∀ (n9 : Nat) (j : Nat) (mj : Int32) (F : Nat → Int32) (G : Nat → Int32), n - j < n9 → (j ≤ n) → ((F 10 = nI ci ∨ he_within (F 10) 0 6 = 0)) → ∀ (H : Heap) (locs : List Loc) (ls : Array Slot), va_P g.1 vwCl [(oX10 x0 y0 ta z0 p0 dr pa to_ s0 im ki tr v0 rf), (oX4 tr r0 r1 mj), (aI g r0 24 F), (aI g r1 6 G), (oX6 p0 p1 p2 p3 p4 (nI w)), (aI g p1 24 sd), (aI g p2 10 fn), (aI g p3 6 st), (aI g p4 6 me), (aP g pa 7 pf), (oX5 t0 t1 t2 pw), (aI g t1 6 pd), (aI g t2 36 wb)] H → va_D A [(oX10 x0 y0 ta z0 p0 dr pa to_ s0 im ki tr v0 rf), (oX4 tr r0 r1 mj), (aI g r0 24 F), (aI g r1 6 G), (oX6 p0 p1 p2 p3 p4 (nI w)), (aI g p1 24 sd), (aI g p2 10 fn), (aI g p3 6 st), (aI g p4 6 me), (aP g pa 7 pf), (oX5 t0 t1 t2 pw), (aI g t1 6 pd), (aI g t2 36 wb)] → va_S A s.heap H locs → lv_has ls 3 [(0, .ref x0), (1, .int (nI n)), (2, .int (nI j))] → W p l e (he_room 5 110 0 0) s m args below meth c H locs 0 0 Q (F0 m 2 ls []) := by
    intro n9
    induction n9 with
    | zero => intro j mj F G hm9; exact absurd hm9 (Nat.not_lt_zero _)
    | succ n9 ih2 =>
      intro j mj F G hm9 hj hF H locs ls hP hD hS hl
      refine lv_iload_n hx hb dX10_passTried_2 rfl (lv_at hl 2 rfl) ?_
      refine lv_iload_n hx hb dX10_passTried_3 rfl (lv_at hl 1 rfl) ?_
      refine lv_icmp_ge (tgt := 44) hx hb dX10_passTried_4 (by decide) (fun c_1 => ?_) (fun c_1 => ?_)
      · have k_2 : n ≤ j := (he_cle (a := n) (b := j) rfl rfl (by omega) (by omega)).mp c_1
        exact he_rv hQ hx hb hr hlk hP hD hS dX10_passTried_44 (Nat.le_of_ble_eq_true rfl) (Nat.le_of_ble_eq_true rfl) ((mj, F, G)) (rfl) (hF)
      · have k_3 : ¬ (n ≤ j) := fun h9 => c_1 ((he_cle (a := n) (b := j) rfl rfl (by omega) (by omega)).mpr h9)
        refine lv_aload_n hx hb dX10_passTried_7 rfl (lv_at hl 0 rfl) ?_
        refine va_get (v := .ref tr) (T := TX10) (N := 13) hx hb hts inX10 hown hK hP 0 rfl rfl 10 (by decide) f50 (fun _ h9 => h9) rfl dX10_passTried_8 ?_
        refine va_get (v := .int mj) (T := TX4) (N := 3) hx hb hts inX4 hown hK hP 1 rfl rfl 2 (by decide) f114 (fun _ h9 => h9) rfl dX10_passTried_11 ?_
        refine lv_bipush (v := 120) hx hb dX10_passTried_14 (by decide) ?_
        refine lv_icmp_ge (tgt := 44) hx hb dX10_passTried_16 (by decide) (fun c_4 => ?_) (fun c_4 => ?_)
        · exact he_rv hQ hx hb hr hlk hP hD hS dX10_passTried_44 (Nat.le_of_ble_eq_true rfl) (Nat.le_of_ble_eq_true rfl) ((mj, F, G)) (rfl) (hF)
        · rcases hF with hin | hno
          · refine lv_aload_n hx hb dX10_passTried_19 rfl (lv_at hl 0 rfl) ?_
            refine va_get (v := .ref tr) (T := TX10) (N := 13) hx hb hts inX10 hown hK hP 0 rfl rfl 10 (by decide) f50 (fun _ h9 => h9) rfl dX10_passTried_20 ?_
            refine lv_aload_n hx hb dX10_passTried_23 rfl (lv_at hl 0 rfl) ?_
            refine va_get (v := .ref p0) (T := TX10) (N := 13) hx hb hts inX10 hown hK hP 0 rfl rfl 3 (by decide) f23 (fun _ h9 => h9) rfl dX10_passTried_24 ?_
            refine lv_aload_n hx hb dX10_passTried_27 rfl (lv_at hl 0 rfl) ?_
            refine lv_aload_n hx hb dX10_passTried_28 rfl (lv_at hl 0 rfl) ?_
            refine va_get (v := .ref tr) (T := TX10) (N := 13) hx hb hts inX10 hown hK hP 0 rfl rfl 10 (by decide) f50 (fun _ h9 => h9) rfl dX10_passTried_29 ?_
            refine he_cq (wc := [(oX10 x0 y0 ta z0 p0 dr pa to_ s0 im ki tr v0 rf), (oX4 tr r0 r1 mj), (aI g r0 24 F), (aP g pa 7 pf)]) (wr := [(aI g r1 6 G), (oX6 p0 p1 p2 p3 p4 (nI w)), (aI g p1 24 sd), (aI g p2 10 fn), (aI g p3 6 st), (aI g p4 6 me), (oX5 t0 t1 t2 pw), (aI g t1 6 pd), (aI g t2 36 wb)]) (va_runV (As := [.ref tr]) (rest := [.ref p0, .ref tr]) ⟨hx, hb, hml, hown, hts⟩ (g_X10_inForceP l g x0 y0 z0 p0 dr pa s0 im tr v0 rf ta to_ ki tr r0 r1 mj F pf t0 ci (by first | assumption | decide | omega) hin (by first | assumption | decide | omega) H.size) (cwV 1 hts gX10_passTried_X10_inForce rfl rfl rfl (by decide +kernel) ⟨Nat.le_of_ble_eq_true rfl, Nat.le_of_ble_eq_true rfl⟩) (he_preV (wc := [(oX10 x0 y0 ta z0 p0 dr pa to_ s0 im ki tr v0 rf), (oX4 tr r0 r1 mj), (aI g r0 24 F), (aP g pa 7 pf)]) hK hP hD hS hA hE [0, 1, 2, 9] rfl rfl 0 rfl rfl) rfl rfl hl.1 rfl (lv_room (Nat.le_of_ble_eq_true rfl)) dX10_passTried_32 ⟨(Nat.le_of_ble_eq_true rfl), (Nat.le_of_ble_eq_true rfl)⟩) hP hD hS hA [0, 1, 2, 9] [3, 4, 5, 6, 7, 8, 10, 11, 12] rfl rfl rfl (by decide) (fun r_5 u_6 H locs h_7 hP hD hS => ?_)
            subst h_7
            have hP : va_P g.1 vwCl [(aI g r1 6 G), (oX6 p0 p1 p2 p3 p4 (nI w)), (aI g p1 24 sd), (aI g p2 10 fn), (aI g p3 6 st), (aI g p4 6 me), (oX5 t0 t1 t2 pw), (aI g t1 6 pd), (aI g t2 36 wb), (oX10 x0 y0 ta z0 p0 dr pa to_ s0 im ki tr v0 rf), (oX4 tr r0 r1 mj), (aI g r0 24 F), (aP g pa 7 pf)] H := hP
            have hD : va_D A [(aI g r1 6 G), (oX6 p0 p1 p2 p3 p4 (nI w)), (aI g p1 24 sd), (aI g p2 10 fn), (aI g p3 6 st), (aI g p4 6 me), (oX5 t0 t1 t2 pw), (aI g t1 6 pd), (aI g t2 36 wb), (oX10 x0 y0 ta z0 p0 dr pa to_ s0 im ki tr v0 rf), (oX4 tr r0 r1 mj), (aI g r0 24 F), (aP g pa 7 pf)] := hD
            refine he_cv (wc := [(oX4 tr r0 r1 mj), (aI g r0 24 F), (aI g r1 6 G), (oX6 p0 p1 p2 p3 p4 (nI w)), (aI g p1 24 sd), (aI g p2 10 fn), (aI g p3 6 st), (aI g p4 6 me), (oX5 t0 t1 t2 pw), (aI g t1 6 pd), (aI g t2 36 wb)]) (wr := [(oX10 x0 y0 ta z0 p0 dr pa to_ s0 im ki tr v0 rf), (aP g pa 7 pf)]) (va_runV (As := [.ref p0, .ref t0]) (rest := []) ⟨hx, hb, hml, hown, hts⟩ (g_X4_passP l g tr r0 r1 mj F G p0 p1 p2 p3 p4 w sd fn st me t0 t1 t2 pw pd wb ck (by first | assumption | decide | omega) (by first | assumption | decide | omega) (by first | assumption | decide | omega) (by first | assumption | decide | omega) H.size) (cwV 2 hts gX10_passTried_X4_pass rfl rfl rfl (by decide +kernel) ⟨Nat.le_of_ble_eq_true rfl, Nat.le_of_ble_eq_true rfl⟩) (he_preV (wc := [(oX4 tr r0 r1 mj), (aI g r0 24 F), (aI g r1 6 G), (oX6 p0 p1 p2 p3 p4 (nI w)), (aI g p1 24 sd), (aI g p2 10 fn), (aI g p3 6 st), (aI g p4 6 me), (oX5 t0 t1 t2 pw), (aI g t1 6 pd), (aI g t2 36 wb)]) hK hP hD hS hA hE [10, 11, 0, 1, 2, 3, 4, 5, 6, 7, 8] rfl rfl 10 rfl rfl) rfl rfl hl.1 rfl (lv_room (Nat.le_of_ble_eq_true rfl)) dX10_passTried_35 ⟨(Nat.le_of_ble_eq_true rfl), (Nat.le_of_ble_eq_true rfl)⟩) hP hD hS hA [10, 11, 0, 1, 2, 3, 4, 5, 6, 7, 8] [9, 12] rfl rfl rfl (by decide) (fun u_9 H locs h_10 hP hD hS => ?_)
            obtain ⟨uf_11, us_12⟩ := u_9
            try dsimp only at h_10
            have hf_13 := h_10
            have hP : va_P g.1 vwCl [(oX10 x0 y0 ta z0 p0 dr pa to_ s0 im ki tr v0 rf), (aP g pa 7 pf), (oX4 tr r0 r1 (mj + 1)), (aI g r0 24 uf_11), (aI g r1 6 us_12), (oX6 p0 p1 p2 p3 p4 (nI w)), (aI g p1 24 sd), (aI g p2 10 fn), (aI g p3 6 st), (aI g p4 6 me), (oX5 t0 t1 t2 pw), (aI g t1 6 pd), (aI g t2 36 wb)] H := hP
            have hD : va_D A [(oX10 x0 y0 ta z0 p0 dr pa to_ s0 im ki tr v0 rf), (aP g pa 7 pf), (oX4 tr r0 r1 (mj + 1)), (aI g r0 24 uf_11), (aI g r1 6 us_12), (oX6 p0 p1 p2 p3 p4 (nI w)), (aI g p1 24 sd), (aI g p2 10 fn), (aI g p3 6 st), (aI g p4 6 me), (oX5 t0 t1 t2 pw), (aI g t1 6 pd), (aI g t2 36 wb)] := hD
            refine lv_iinc (v := nI (j + 1)) (lv' := [(2, .int (nI (j + 1))), (0, .ref x0), (1, .int (nI n))]) hx hb dX10_passTried_38 hl (k := 2) rfl (nI_1 j) (by decide) rfl (fun ls hl => ?_)
            refine lv_goto (tgt := 2) hx hb dX10_passTried_41 (by decide) ?_
            exact ih2 (j + 1) (mj + 1) uf_11 us_12 (by omega) (by omega) (inf_step (Or.inl hin) hf_13) _ _ _ (hP.sub [0, 2, 3, 4, 5, 6, 7, 8, 9, 1, 10, 11, 12] rfl) (hD.sub [0, 2, 3, 4, 5, 6, 7, 8, 9, 1, 10, 11, 12] (by decide) rfl) hS (lv_sub hl [1, 2, 0] rfl)
          · refine lv_aload_n hx hb dX10_passTried_19 rfl (lv_at hl 0 rfl) ?_
            refine va_get (v := .ref tr) (T := TX10) (N := 13) hx hb hts inX10 hown hK hP 0 rfl rfl 10 (by decide) f50 (fun _ h9 => h9) rfl dX10_passTried_20 ?_
            refine lv_aload_n hx hb dX10_passTried_23 rfl (lv_at hl 0 rfl) ?_
            refine va_get (v := .ref p0) (T := TX10) (N := 13) hx hb hts inX10 hown hK hP 0 rfl rfl 3 (by decide) f23 (fun _ h9 => h9) rfl dX10_passTried_24 ?_
            refine lv_aload_n hx hb dX10_passTried_27 rfl (lv_at hl 0 rfl) ?_
            refine lv_aload_n hx hb dX10_passTried_28 rfl (lv_at hl 0 rfl) ?_
            refine va_get (v := .ref tr) (T := TX10) (N := 13) hx hb hts inX10 hown hK hP 0 rfl rfl 10 (by decide) f50 (fun _ h9 => h9) rfl dX10_passTried_29 ?_
            refine he_cq (wc := [(oX4 tr r0 r1 mj), (aI g r0 24 F)]) (wr := [(oX10 x0 y0 ta z0 p0 dr pa to_ s0 im ki tr v0 rf), (aI g r1 6 G), (oX6 p0 p1 p2 p3 p4 (nI w)), (aI g p1 24 sd), (aI g p2 10 fn), (aI g p3 6 st), (aI g p4 6 me), (aP g pa 7 pf), (oX5 t0 t1 t2 pw), (aI g t1 6 pd), (aI g t2 36 wb)]) (va_runV (As := [.ref tr]) (rest := [.ref p0, .ref tr]) ⟨hx, hb, hml, hown, hts⟩ (g_X10_inForceN l g x0 tr r0 r1 mj F hno H.size) (cwV 1 hts gX10_passTried_X10_inForce rfl rfl rfl (by decide +kernel) ⟨Nat.le_of_ble_eq_true rfl, Nat.le_of_ble_eq_true rfl⟩) (he_preV (wc := [(oX4 tr r0 r1 mj), (aI g r0 24 F)]) hK hP hD hS hA hE [1, 2] rfl rfl 0 rfl rfl) rfl rfl hl.1 rfl (lv_room (Nat.le_of_ble_eq_true rfl)) dX10_passTried_32 ⟨(Nat.le_of_ble_eq_true rfl), (Nat.le_of_ble_eq_true rfl)⟩) hP hD hS hA [1, 2] [0, 3, 4, 5, 6, 7, 8, 9, 10, 11, 12] rfl rfl rfl (by decide) (fun r_14 u_15 H locs h_16 hP hD hS => ?_)
            subst h_16
            have hP : va_P g.1 vwCl [(oX10 x0 y0 ta z0 p0 dr pa to_ s0 im ki tr v0 rf), (aI g r1 6 G), (oX6 p0 p1 p2 p3 p4 (nI w)), (aI g p1 24 sd), (aI g p2 10 fn), (aI g p3 6 st), (aI g p4 6 me), (aP g pa 7 pf), (oX5 t0 t1 t2 pw), (aI g t1 6 pd), (aI g t2 36 wb), (oX4 tr r0 r1 mj), (aI g r0 24 F)] H := hP
            have hD : va_D A [(oX10 x0 y0 ta z0 p0 dr pa to_ s0 im ki tr v0 rf), (aI g r1 6 G), (oX6 p0 p1 p2 p3 p4 (nI w)), (aI g p1 24 sd), (aI g p2 10 fn), (aI g p3 6 st), (aI g p4 6 me), (aP g pa 7 pf), (oX5 t0 t1 t2 pw), (aI g t1 6 pd), (aI g t2 36 wb), (oX4 tr r0 r1 mj), (aI g r0 24 F)] := hD
            refine he_cv (wc := [(oX4 tr r0 r1 mj), (aI g r0 24 F), (aI g r1 6 G), (oX6 p0 p1 p2 p3 p4 (nI w)), (aI g p1 24 sd), (aI g p3 6 st), (aI g p4 6 me)]) (wr := [(oX10 x0 y0 ta z0 p0 dr pa to_ s0 im ki tr v0 rf), (aI g p2 10 fn), (aP g pa 7 pf), (oX5 t0 t1 t2 pw), (aI g t1 6 pd), (aI g t2 36 wb)]) (va_runV (As := [.ref p0, .null]) (rest := []) ⟨hx, hb, hml, hown, hts⟩ (g_X4_passN l g tr r0 r1 mj F G p0 p1 p2 p3 p4 w sd st me (by first | assumption | decide | omega) H.size) (cwV 2 hts gX10_passTried_X4_pass rfl rfl rfl (by decide +kernel) ⟨Nat.le_of_ble_eq_true rfl, Nat.le_of_ble_eq_true rfl⟩) (he_preV (wc := [(oX4 tr r0 r1 mj), (aI g r0 24 F), (aI g r1 6 G), (oX6 p0 p1 p2 p3 p4 (nI w)), (aI g p1 24 sd), (aI g p3 6 st), (aI g p4 6 me)]) hK hP hD hS hA hE [11, 12, 1, 2, 3, 5, 6] rfl rfl 11 rfl rfl) rfl rfl hl.1 rfl (lv_room (Nat.le_of_ble_eq_true rfl)) dX10_passTried_35 ⟨(Nat.le_of_ble_eq_true rfl), (Nat.le_of_ble_eq_true rfl)⟩) hP hD hS hA [11, 12, 1, 2, 3, 5, 6] [0, 4, 7, 8, 9, 10] rfl rfl rfl (by decide) (fun u_18 H locs h_19 hP hD hS => ?_)
            obtain ⟨uf_20, us_21⟩ := u_18
            try dsimp only at h_19
            have hf_22 := h_19
            have hP : va_P g.1 vwCl [(oX10 x0 y0 ta z0 p0 dr pa to_ s0 im ki tr v0 rf), (aI g p2 10 fn), (aP g pa 7 pf), (oX5 t0 t1 t2 pw), (aI g t1 6 pd), (aI g t2 36 wb), (oX4 tr r0 r1 (mj + 1)), (aI g r0 24 uf_20), (aI g r1 6 us_21), (oX6 p0 p1 p2 p3 p4 (nI w)), (aI g p1 24 sd), (aI g p3 6 st), (aI g p4 6 me)] H := hP
            have hD : va_D A [(oX10 x0 y0 ta z0 p0 dr pa to_ s0 im ki tr v0 rf), (aI g p2 10 fn), (aP g pa 7 pf), (oX5 t0 t1 t2 pw), (aI g t1 6 pd), (aI g t2 36 wb), (oX4 tr r0 r1 (mj + 1)), (aI g r0 24 uf_20), (aI g r1 6 us_21), (oX6 p0 p1 p2 p3 p4 (nI w)), (aI g p1 24 sd), (aI g p3 6 st), (aI g p4 6 me)] := hD
            refine lv_iinc (v := nI (j + 1)) (lv' := [(2, .int (nI (j + 1))), (0, .ref x0), (1, .int (nI n))]) hx hb dX10_passTried_38 hl (k := 2) rfl (nI_1 j) (by decide) rfl (fun ls hl => ?_)
            refine lv_goto (tgt := 2) hx hb dX10_passTried_41 (by decide) ?_
            exact ih2 (j + 1) (mj + 1) uf_20 us_21 (by omega) (by omega) (inf_step (Or.inr hno) (Or.inl hf_22)) _ _ _ (hP.sub [0, 6, 7, 8, 9, 10, 1, 11, 12, 2, 3, 4, 5] rfl) (hD.sub [0, 6, 7, 8, 9, 10, 1, 11, 12, 2, 3, 4, 5] (by decide) rfl) hS (lv_sub hl [1, 2, 0] rfl)
  exact loop2 ((n - 0) + 1) 0 mo f sh (Nat.lt_succ_self _) (Nat.zero_le _) hF _ _ _ hP hD hS (lv_sub hl [1, 2, 0] rfl)
set_option maxHeartbeats 4000000 in
set_option maxRecDepth 100000 in
theorem g_X10_passTriedN (l : Launch) (g : he_G) (x0 : Nat) (y0 : Nat) (z0 : Nat) (dr : Nat) (pa : Nat) (s0 : Nat) (im : Nat) (tr : Nat) (v0 : Nat) (rf : Nat) (ta : Int32) (to_ : Int32) (ki : Int32) (p0 : Nat) (p1 : Nat) (p2 : Nat) (p3 : Nat) (p4 : Nat) (w : Nat) (sd : Nat → Int32) (st : Nat → Int32) (me : Nat → Int32) (r0 : Nat) (r1 : Nat) (mo : Int32) (f : Nat → Int32) (sh : Nat → Int32) (n : Nat) (hw6 : w ≤ 6) (hno : he_within (f 10) 0 6 = 0) (hn : n ≤ 60) : he_V l yX10_passTried wsX10_passTried 4 83 0 0 g [.ref x0, .int (nI n)] [(oX10 x0 y0 ta z0 p0 dr pa to_ s0 im ki tr v0 rf), (oX4 tr r0 r1 mo), (aI g r0 24 f), (aI g r1 6 sh), (oX6 p0 p1 p2 p3 p4 (nI w)), (aI g p1 24 sd), (aI g p3 6 st), (aI g p4 6 me)] (fun (u : Int32 × (Nat → Int32) × (Nat → Int32)) => True) (fun (u : Int32 × (Nat → Int32) × (Nat → Int32)) => [(oX10 x0 y0 ta z0 p0 dr pa to_ s0 im ki tr v0 rf), (oX4 tr r0 r1 u.1), (aI g r0 24 u.2.1), (aI g r1 6 u.2.2), (oX6 p0 p1 p2 p3 p4 (nI w)), (aI g p1 24 sd), (aI g p3 6 st), (aI g p4 6 me)]) := by
  refine he_begin (l := l) (g := g) (y := yX10_passTried) (wl := wsX10_passTried) (fr := 4) (lo := 83) (mc := 0) (ms := 0) (av := [.ref x0, .int (nI n)]) (ws := [(oX10 x0 y0 ta z0 p0 dr pa to_ s0 im ki tr v0 rf), (oX4 tr r0 r1 mo), (aI g r0 24 f), (aI g r1 6 sh), (oX6 p0 p1 p2 p3 p4 (nI w)), (aI g p1 24 sd), (aI g p3 6 st), (aI g p4 6 me)]) (cc := cX10_passTried) (maxL := 3) (ret := none) (fun A => va_Qv (fun (u : Int32 × (Nat → Int32) × (Nat → Int32)) => True) (fun u t => he_post g A ((fun (u : Int32 × (Nat → Int32) × (Nat → Int32)) => [(oX10 x0 y0 ta z0 p0 dr pa to_ s0 im ki tr v0 rf), (oX4 tr r0 r1 u.1), (aI g r0 24 u.2.1), (aI g r1 6 u.2.2), (oX6 p0 p1 p2 p3 p4 (nI w)), (aI g p1 24 sd), (aI g p3 6 st), (aI g p4 6 me)]) u) t) A) (by decide) rfl (Nat.le_of_ble_eq_true rfl) ?_
  intro p e s m args below meth c A ls H locs Q hQ hB
  obtain ⟨hx, hb, hr, hml, hown, hts, hlk, hin, hP, hK, hD, hS, hA, hE, hl⟩ := hB
  have hl : lv_has ls 3 [(0, .ref x0), (1, .int (nI n))] := hl
  have f50 := hts (.fieldLink RX10 50 "HiredEnemy" "trial" "LHiredEnemy$Course;") (iwoX10_passTried (k := 0) rfl)
  have inX10 : ∀ w ∈ wsX100, w ∈ wsX10_passTried := innX10_passTried_X10
  have f114 := hts (.fieldLink RX10 114 "HiredEnemy$Course" "month" "I") (iwoX10_passTried (k := 1) rfl)
  have inX4 : ∀ w ∈ wsX40, w ∈ wsX10_passTried := innX10_passTried_X4
  have f23 := hts (.fieldLink RX10 23 "HiredEnemy" "plan" "LHiredEnemy$Plan;") (iwoX10_passTried (k := 2) rfl)
  refine lv_iconst (v := 0) hx hb dX10_passTried_0 (by decide) ?_
  refine lv_istore_n (lv' := [(2, .int 0), (0, .ref x0), (1, .int (nI n))]) hx hb dX10_passTried_1 rfl hl (by decide) rfl (fun ls hl => ?_)
  have loop2 : ∀ (n9 : Nat) (j : Nat) (mj : Int32) (F : Nat → Int32) (G : Nat → Int32), n - j < n9 → (j ≤ n) → (he_within (F 10) 0 6 = 0) → ∀ (H : Heap) (locs : List Loc) (ls : Array Slot), va_P g.1 vwCl [(oX10 x0 y0 ta z0 p0 dr pa to_ s0 im ki tr v0 rf), (oX4 tr r0 r1 mj), (aI g r0 24 F), (aI g r1 6 G), (oX6 p0 p1 p2 p3 p4 (nI w)), (aI g p1 24 sd), (aI g p3 6 st), (aI g p4 6 me)] H → va_D A [(oX10 x0 y0 ta z0 p0 dr pa to_ s0 im ki tr v0 rf), (oX4 tr r0 r1 mj), (aI g r0 24 F), (aI g r1 6 G), (oX6 p0 p1 p2 p3 p4 (nI w)), (aI g p1 24 sd), (aI g p3 6 st), (aI g p4 6 me)] → va_S A s.heap H locs → lv_has ls 3 [(0, .ref x0), (1, .int (nI n)), (2, .int (nI j))] → W p l e (he_room 4 83 0 0) s m args below meth c H locs 0 0 Q (F0 m 2 ls []) := by
    intro n9
    induction n9 with
    | zero => intro j mj F G hm9; exact absurd hm9 (Nat.not_lt_zero _)
    | succ n9 ih2 =>
      intro j mj F G hm9 hj hF H locs ls hP hD hS hl
      refine lv_iload_n hx hb dX10_passTried_2 rfl (lv_at hl 2 rfl) ?_
      refine lv_iload_n hx hb dX10_passTried_3 rfl (lv_at hl 1 rfl) ?_
      refine lv_icmp_ge (tgt := 44) hx hb dX10_passTried_4 (by decide) (fun c_1 => ?_) (fun c_1 => ?_)
      · have k_2 : n ≤ j := (he_cle (a := n) (b := j) rfl rfl (by omega) (by omega)).mp c_1
        exact he_rv hQ hx hb hr hlk hP hD hS dX10_passTried_44 (Nat.le_of_ble_eq_true rfl) (Nat.le_of_ble_eq_true rfl) ((mj, F, G)) (rfl) (trivial)
      · have k_3 : ¬ (n ≤ j) := fun h9 => c_1 ((he_cle (a := n) (b := j) rfl rfl (by omega) (by omega)).mpr h9)
        refine lv_aload_n hx hb dX10_passTried_7 rfl (lv_at hl 0 rfl) ?_
        refine va_get (v := .ref tr) (T := TX10) (N := 13) hx hb hts inX10 hown hK hP 0 rfl rfl 10 (by decide) f50 (fun _ h9 => h9) rfl dX10_passTried_8 ?_
        refine va_get (v := .int mj) (T := TX4) (N := 3) hx hb hts inX4 hown hK hP 1 rfl rfl 2 (by decide) f114 (fun _ h9 => h9) rfl dX10_passTried_11 ?_
        refine lv_bipush (v := 120) hx hb dX10_passTried_14 (by decide) ?_
        refine lv_icmp_ge (tgt := 44) hx hb dX10_passTried_16 (by decide) (fun c_4 => ?_) (fun c_4 => ?_)
        · exact he_rv hQ hx hb hr hlk hP hD hS dX10_passTried_44 (Nat.le_of_ble_eq_true rfl) (Nat.le_of_ble_eq_true rfl) ((mj, F, G)) (rfl) (trivial)
        · refine lv_aload_n hx hb dX10_passTried_19 rfl (lv_at hl 0 rfl) ?_
          refine va_get (v := .ref tr) (T := TX10) (N := 13) hx hb hts inX10 hown hK hP 0 rfl rfl 10 (by decide) f50 (fun _ h9 => h9) rfl dX10_passTried_20 ?_
          refine lv_aload_n hx hb dX10_passTried_23 rfl (lv_at hl 0 rfl) ?_
          refine va_get (v := .ref p0) (T := TX10) (N := 13) hx hb hts inX10 hown hK hP 0 rfl rfl 3 (by decide) f23 (fun _ h9 => h9) rfl dX10_passTried_24 ?_
          refine lv_aload_n hx hb dX10_passTried_27 rfl (lv_at hl 0 rfl) ?_
          refine lv_aload_n hx hb dX10_passTried_28 rfl (lv_at hl 0 rfl) ?_
          refine va_get (v := .ref tr) (T := TX10) (N := 13) hx hb hts inX10 hown hK hP 0 rfl rfl 10 (by decide) f50 (fun _ h9 => h9) rfl dX10_passTried_29 ?_
          refine he_cq (wc := [(oX4 tr r0 r1 mj), (aI g r0 24 F)]) (wr := [(oX10 x0 y0 ta z0 p0 dr pa to_ s0 im ki tr v0 rf), (aI g r1 6 G), (oX6 p0 p1 p2 p3 p4 (nI w)), (aI g p1 24 sd), (aI g p3 6 st), (aI g p4 6 me)]) (va_runV (As := [.ref tr]) (rest := [.ref p0, .ref tr]) ⟨hx, hb, hml, hown, hts⟩ (g_X10_inForceN l g x0 tr r0 r1 mj F hF H.size) (cwV 1 hts gX10_passTried_X10_inForce rfl rfl rfl (by decide +kernel) ⟨Nat.le_of_ble_eq_true rfl, Nat.le_of_ble_eq_true rfl⟩) (he_preV (wc := [(oX4 tr r0 r1 mj), (aI g r0 24 F)]) hK hP hD hS hA hE [1, 2] rfl rfl 0 rfl rfl) rfl rfl hl.1 rfl (lv_room (Nat.le_of_ble_eq_true rfl)) dX10_passTried_32 ⟨(Nat.le_of_ble_eq_true rfl), (Nat.le_of_ble_eq_true rfl)⟩) hP hD hS hA [1, 2] [0, 3, 4, 5, 6, 7] rfl rfl rfl (by decide) (fun r_5 u_6 H locs h_7 hP hD hS => ?_)
          subst h_7
          have hP : va_P g.1 vwCl [(oX10 x0 y0 ta z0 p0 dr pa to_ s0 im ki tr v0 rf), (aI g r1 6 G), (oX6 p0 p1 p2 p3 p4 (nI w)), (aI g p1 24 sd), (aI g p3 6 st), (aI g p4 6 me), (oX4 tr r0 r1 mj), (aI g r0 24 F)] H := hP
          have hD : va_D A [(oX10 x0 y0 ta z0 p0 dr pa to_ s0 im ki tr v0 rf), (aI g r1 6 G), (oX6 p0 p1 p2 p3 p4 (nI w)), (aI g p1 24 sd), (aI g p3 6 st), (aI g p4 6 me), (oX4 tr r0 r1 mj), (aI g r0 24 F)] := hD
          refine he_cv (wc := [(oX4 tr r0 r1 mj), (aI g r0 24 F), (aI g r1 6 G), (oX6 p0 p1 p2 p3 p4 (nI w)), (aI g p1 24 sd), (aI g p3 6 st), (aI g p4 6 me)]) (wr := [(oX10 x0 y0 ta z0 p0 dr pa to_ s0 im ki tr v0 rf)]) (va_runV (As := [.ref p0, .null]) (rest := []) ⟨hx, hb, hml, hown, hts⟩ (g_X4_passN l g tr r0 r1 mj F G p0 p1 p2 p3 p4 w sd st me (by first | assumption | decide | omega) H.size) (cwV 2 hts gX10_passTried_X4_pass rfl rfl rfl (by decide +kernel) ⟨Nat.le_of_ble_eq_true rfl, Nat.le_of_ble_eq_true rfl⟩) (he_preV (wc := [(oX4 tr r0 r1 mj), (aI g r0 24 F), (aI g r1 6 G), (oX6 p0 p1 p2 p3 p4 (nI w)), (aI g p1 24 sd), (aI g p3 6 st), (aI g p4 6 me)]) hK hP hD hS hA hE [6, 7, 1, 2, 3, 4, 5] rfl rfl 6 rfl rfl) rfl rfl hl.1 rfl (lv_room (Nat.le_of_ble_eq_true rfl)) dX10_passTried_35 ⟨(Nat.le_of_ble_eq_true rfl), (Nat.le_of_ble_eq_true rfl)⟩) hP hD hS hA [6, 7, 1, 2, 3, 4, 5] [0] rfl rfl rfl (by decide) (fun u_9 H locs h_10 hP hD hS => ?_)
          obtain ⟨uf_11, us_12⟩ := u_9
          try dsimp only at h_10
          have hf_13 := h_10
          have hP : va_P g.1 vwCl [(oX10 x0 y0 ta z0 p0 dr pa to_ s0 im ki tr v0 rf), (oX4 tr r0 r1 (mj + 1)), (aI g r0 24 uf_11), (aI g r1 6 us_12), (oX6 p0 p1 p2 p3 p4 (nI w)), (aI g p1 24 sd), (aI g p3 6 st), (aI g p4 6 me)] H := hP
          have hD : va_D A [(oX10 x0 y0 ta z0 p0 dr pa to_ s0 im ki tr v0 rf), (oX4 tr r0 r1 (mj + 1)), (aI g r0 24 uf_11), (aI g r1 6 us_12), (oX6 p0 p1 p2 p3 p4 (nI w)), (aI g p1 24 sd), (aI g p3 6 st), (aI g p4 6 me)] := hD
          refine lv_iinc (v := nI (j + 1)) (lv' := [(2, .int (nI (j + 1))), (0, .ref x0), (1, .int (nI n))]) hx hb dX10_passTried_38 hl (k := 2) rfl (nI_1 j) (by decide) rfl (fun ls hl => ?_)
          refine lv_goto (tgt := 2) hx hb dX10_passTried_41 (by decide) ?_
          exact ih2 (j + 1) (mj + 1) uf_11 us_12 (by omega) (by omega) (by rw [hf_13]; exact hF) _ _ _ hP hD hS (lv_sub hl [1, 2, 0] rfl)
  exact loop2 ((n - 0) + 1) 0 mo f sh (Nat.lt_succ_self _) (Nat.zero_le _) hno _ _ _ hP hD hS (lv_sub hl [1, 2, 0] rfl)
set_option maxHeartbeats 4000000 in
set_option maxRecDepth 100000 in
theorem g_X10_trySigned (l : Launch) (g : he_G) (x0 : Nat) (y0 : Nat) (z0 : Nat) (dr : Nat) (pa : Nat) (s0 : Nat) (im : Nat) (tr : Nat) (v0 : Nat) (rf : Nat) (ta : Int32) (to_ : Int32) (ki : Int32) (p0 : Nat) (p1 : Nat) (p2 : Nat) (p3 : Nat) (p4 : Nat) (w : Nat) (sd : Nat → Int32) (fn : Nat → Int32) (st : Nat → Int32) (me : Nat → Int32) (a0 : Nat) (b0 : Nat) (e0 : Nat) (h0 : Nat) (q0 : Nat) (q1 : Nat) (mo : Int32) (f : Nat → Int32) (r0 : Nat) (r1 : Nat) (mo1 : Int32) (f1 : Nat → Int32) (sh : Nat → Int32) (n : Nat) (pf : Nat → Option Nat) (t0 : Nat) (t1 : Nat) (t2 : Nat) (pw : Int32) (pd : Nat → Int32) (wb : Nat → Int32) (ck : Nat) (ci : Nat) (hw6 : w ≤ 6) (hwb : ∀ k, k < 36 → -1 ≤ wb k) (hck : pd 3 = nI ck) (hc99 : ck ≤ 99) (hc7 : ci < 7) (hpf : pf ci = some t0) (hn : n ≤ 60) : he_I l yX10_trySigned wsX10_trySigned 6 132 0 0 g [.ref x0, .int (nI ci), .int (nI n)] [(oX10 x0 y0 ta z0 p0 dr pa to_ s0 im ki tr v0 rf), (oX4 tr r0 r1 mo1), (aI g r0 24 f1), (aI g r1 6 sh), (oX6 p0 p1 p2 p3 p4 (nI w)), (aI g p1 24 sd), (aI g p2 10 fn), (aI g p3 6 st), (aI g p4 6 me), (aP g pa 7 pf), (oX5 t0 t1 t2 pw), (aI g t1 6 pd), (aI g t2 36 wb), (oX8 s0 h0 a0 b0 e0), (oX4 h0 q0 q1 mo), (aI g q0 24 f)] (fun (r : Int32) (u : Int32 × (Nat → Int32) × (Nat → Int32)) => True) (fun (u : Int32 × (Nat → Int32) × (Nat → Int32)) => [(oX10 x0 y0 ta z0 p0 dr pa to_ s0 im ki tr v0 rf), (oX4 tr r0 r1 u.1), (aI g r0 24 u.2.1), (aI g r1 6 u.2.2), (oX6 p0 p1 p2 p3 p4 (nI w)), (aI g p1 24 sd), (aI g p2 10 fn), (aI g p3 6 st), (aI g p4 6 me), (aP g pa 7 pf), (oX5 t0 t1 t2 pw), (aI g t1 6 pd), (aI g t2 36 wb), (oX8 s0 h0 a0 b0 e0), (oX4 h0 q0 q1 mo), (aI g q0 24 f)]) := by
  refine he_begin (l := l) (g := g) (y := yX10_trySigned) (wl := wsX10_trySigned) (fr := 6) (lo := 132) (mc := 0) (ms := 0) (av := [.ref x0, .int (nI ci), .int (nI n)]) (ws := [(oX10 x0 y0 ta z0 p0 dr pa to_ s0 im ki tr v0 rf), (oX4 tr r0 r1 mo1), (aI g r0 24 f1), (aI g r1 6 sh), (oX6 p0 p1 p2 p3 p4 (nI w)), (aI g p1 24 sd), (aI g p2 10 fn), (aI g p3 6 st), (aI g p4 6 me), (aP g pa 7 pf), (oX5 t0 t1 t2 pw), (aI g t1 6 pd), (aI g t2 36 wb), (oX8 s0 h0 a0 b0 e0), (oX4 h0 q0 q1 mo), (aI g q0 24 f)]) (cc := cX10_trySigned) (maxL := 3) (ret := (some .int)) (fun A => va_Qi (fun (r : Int32) (u : Int32 × (Nat → Int32) × (Nat → Int32)) => True) (fun u t => he_post g A ((fun (u : Int32 × (Nat → Int32) × (Nat → Int32)) => [(oX10 x0 y0 ta z0 p0 dr pa to_ s0 im ki tr v0 rf), (oX4 tr r0 r1 u.1), (aI g r0 24 u.2.1), (aI g r1 6 u.2.2), (oX6 p0 p1 p2 p3 p4 (nI w)), (aI g p1 24 sd), (aI g p2 10 fn), (aI g p3 6 st), (aI g p4 6 me), (aP g pa 7 pf), (oX5 t0 t1 t2 pw), (aI g t1 6 pd), (aI g t2 36 wb), (oX8 s0 h0 a0 b0 e0), (oX4 h0 q0 q1 mo), (aI g q0 24 f)]) u) t) A) (by decide) rfl (Nat.le_of_ble_eq_true rfl) ?_
  intro p e s m args below meth c A ls H locs Q hQ hB
  obtain ⟨hx, hb, hr, hml, hown, hts, hlk, hin, hP, hK, hD, hS, hA, hE, hl⟩ := hB
  have hl : lv_has ls 3 [(0, .ref x0), (1, .int (nI ci)), (2, .int (nI n))] := hl
  have f50 := hts (.fieldLink RX10 50 "HiredEnemy" "trial" "LHiredEnemy$Course;") (iwoX10_trySigned (k := 0) rfl)
  have inX10 : ∀ w ∈ wsX100, w ∈ wsX10_trySigned := innX10_trySigned_X10
  have f39 := hts (.fieldLink RX10 39 "HiredEnemy" "scene" "LHiredEnemy$Scene;") (iwoX10_trySigned (k := 1) rfl)
  have f66 := hts (.fieldLink RX10 66 "HiredEnemy$Scene" "course" "LHiredEnemy$Course;") (iwoX10_trySigned (k := 2) rfl)
  have inX8 : ∀ w ∈ wsX80, w ∈ wsX10_trySigned := innX10_trySigned_X8
  have f111 := hts (.fieldLink RX10 111 "HiredEnemy$Course" "now" "[I") (iwoX10_trySigned (k := 3) rfl)
  have inX4 : ∀ w ∈ wsX40, w ∈ wsX10_trySigned := innX10_trySigned_X4
  refine lv_aload_n hx hb dX10_trySigned_0 rfl (lv_at hl 0 rfl) ?_
  refine va_get (v := .ref tr) (T := TX10) (N := 13) hx hb hts inX10 hown hK hP 0 rfl rfl 10 (by decide) f50 (fun _ h9 => h9) rfl dX10_trySigned_1 ?_
  refine lv_aload_n hx hb dX10_trySigned_4 rfl (lv_at hl 0 rfl) ?_
  refine va_get (v := .ref s0) (T := TX10) (N := 13) hx hb hts inX10 hown hK hP 0 rfl rfl 7 (by decide) f39 (fun _ h9 => h9) rfl dX10_trySigned_5 ?_
  refine va_get (v := .ref h0) (T := TX8) (N := 4) hx hb hts inX8 hown hK hP 13 rfl rfl 0 (by decide) f66 (fun _ h9 => h9) rfl dX10_trySigned_8 ?_
  refine he_cv (wc := [(oX4 tr r0 r1 mo1), (aI g r0 24 f1), (oX4 h0 q0 q1 mo), (aI g q0 24 f)]) (wr := [(oX10 x0 y0 ta z0 p0 dr pa to_ s0 im ki tr v0 rf), (aI g r1 6 sh), (oX6 p0 p1 p2 p3 p4 (nI w)), (aI g p1 24 sd), (aI g p2 10 fn), (aI g p3 6 st), (aI g p4 6 me), (aP g pa 7 pf), (oX5 t0 t1 t2 pw), (aI g t1 6 pd), (aI g t2 36 wb), (oX8 s0 h0 a0 b0 e0)]) (va_runV (As := [.ref h0]) (rest := []) ⟨hx, hb, hml, hown, hts⟩ (c_X4_take l g tr r0 r1 mo1 f1 h0 q0 q1 mo f H.size) (cwV 1 hts gX10_trySigned_X4_take rfl rfl rfl (by decide +kernel) ⟨Nat.le_of_ble_eq_true rfl, Nat.le_of_ble_eq_true rfl⟩) (he_preV (wc := [(oX4 tr r0 r1 mo1), (aI g r0 24 f1), (oX4 h0 q0 q1 mo), (aI g q0 24 f)]) hK hP hD hS hA hE [1, 2, 14, 15] rfl rfl 1 rfl rfl) rfl rfl hl.1 rfl (lv_room (Nat.le_of_ble_eq_true rfl)) dX10_trySigned_11 ⟨(Nat.le_of_ble_eq_true rfl), (Nat.le_of_ble_eq_true rfl)⟩) hP hD hS hA [1, 2, 14, 15] [0, 3, 4, 5, 6, 7, 8, 9, 10, 11, 12, 13] rfl rfl rfl (by decide) (fun u_2 H locs h_3 hP hD hS => ?_)
  have hP : va_P g.1 vwCl [(oX10 x0 y0 ta z0 p0 dr pa to_ s0 im ki tr v0 rf), (aI g r1 6 sh), (oX6 p0 p1 p2 p3 p4 (nI w)), (aI g p1 24 sd), (aI g p2 10 fn), (aI g p3 6 st), (aI g p4 6 me), (aP g pa 7 pf), (oX5 t0 t1 t2 pw), (aI g t1 6 pd), (aI g t2 36 wb), (oX8 s0 h0 a0 b0 e0), (oX4 tr r0 r1 mo), (aI g r0 24 (va_cpy f f1 0 0 24)), (oX4 h0 q0 q1 mo), (aI g q0 24 f)] H := hP
  have hD : va_D A [(oX10 x0 y0 ta z0 p0 dr pa to_ s0 im ki tr v0 rf), (aI g r1 6 sh), (oX6 p0 p1 p2 p3 p4 (nI w)), (aI g p1 24 sd), (aI g p2 10 fn), (aI g p3 6 st), (aI g p4 6 me), (aP g pa 7 pf), (oX5 t0 t1 t2 pw), (aI g t1 6 pd), (aI g t2 36 wb), (oX8 s0 h0 a0 b0 e0), (oX4 tr r0 r1 mo), (aI g r0 24 (va_cpy f f1 0 0 24)), (oX4 h0 q0 q1 mo), (aI g q0 24 f)] := hD
  refine lv_aload_n hx hb dX10_trySigned_14 rfl (lv_at hl 0 rfl) ?_
  refine va_get (v := .ref tr) (T := TX10) (N := 13) hx hb hts inX10 hown hK hP 0 rfl rfl 10 (by decide) f50 (fun _ h9 => h9) rfl dX10_trySigned_15 ?_
  refine lv_iload_n hx hb dX10_trySigned_18 rfl (lv_at hl 1 rfl) ?_
  refine he_cv (wc := [(oX4 tr r0 r1 mo), (aI g r0 24 (va_cpy f f1 0 0 24))]) (wr := [(oX10 x0 y0 ta z0 p0 dr pa to_ s0 im ki tr v0 rf), (aI g r1 6 sh), (oX6 p0 p1 p2 p3 p4 (nI w)), (aI g p1 24 sd), (aI g p2 10 fn), (aI g p3 6 st), (aI g p4 6 me), (aP g pa 7 pf), (oX5 t0 t1 t2 pw), (aI g t1 6 pd), (aI g t2 36 wb), (oX8 s0 h0 a0 b0 e0), (oX4 h0 q0 q1 mo), (aI g q0 24 f)]) (va_runV (As := [.int (nI ci)]) (rest := []) ⟨hx, hb, hml, hown, hts⟩ (c_X4_pledge l g tr r0 r1 mo (va_cpy f f1 0 0 24) (nI ci) H.size) (cwV 1 hts gX10_trySigned_X4_pledge rfl rfl rfl (by decide +kernel) ⟨Nat.le_of_ble_eq_true rfl, Nat.le_of_ble_eq_true rfl⟩) (he_preV (wc := [(oX4 tr r0 r1 mo), (aI g r0 24 (va_cpy f f1 0 0 24))]) hK hP hD hS hA hE [12, 13] rfl rfl 12 rfl rfl) rfl rfl hl.1 rfl (lv_room (Nat.le_of_ble_eq_true rfl)) dX10_trySigned_19 ⟨(Nat.le_of_ble_eq_true rfl), (Nat.le_of_ble_eq_true rfl)⟩) hP hD hS hA [12, 13] [0, 1, 2, 3, 4, 5, 6, 7, 8, 9, 10, 11, 14, 15] rfl rfl rfl (by decide) (fun u_5 H locs h_6 hP hD hS => ?_)
  have hP : va_P g.1 vwCl [(oX10 x0 y0 ta z0 p0 dr pa to_ s0 im ki tr v0 rf), (aI g r1 6 sh), (oX6 p0 p1 p2 p3 p4 (nI w)), (aI g p1 24 sd), (aI g p2 10 fn), (aI g p3 6 st), (aI g p4 6 me), (aP g pa 7 pf), (oX5 t0 t1 t2 pw), (aI g t1 6 pd), (aI g t2 36 wb), (oX8 s0 h0 a0 b0 e0), (oX4 h0 q0 q1 mo), (aI g q0 24 f), (oX4 tr r0 r1 mo), (aI g r0 24 (fcF (va_cpy f f1 0 0 24) (nI ci) mo))] H := hP
  have hD : va_D A [(oX10 x0 y0 ta z0 p0 dr pa to_ s0 im ki tr v0 rf), (aI g r1 6 sh), (oX6 p0 p1 p2 p3 p4 (nI w)), (aI g p1 24 sd), (aI g p2 10 fn), (aI g p3 6 st), (aI g p4 6 me), (aP g pa 7 pf), (oX5 t0 t1 t2 pw), (aI g t1 6 pd), (aI g t2 36 wb), (oX8 s0 h0 a0 b0 e0), (oX4 h0 q0 q1 mo), (aI g q0 24 f), (oX4 tr r0 r1 mo), (aI g r0 24 (fcF (va_cpy f f1 0 0 24) (nI ci) mo))] := hD
  refine lv_aload_n hx hb dX10_trySigned_22 rfl (lv_at hl 0 rfl) ?_
  refine lv_iload_n hx hb dX10_trySigned_23 rfl (lv_at hl 2 rfl) ?_
  refine he_cv (wc := [(oX10 x0 y0 ta z0 p0 dr pa to_ s0 im ki tr v0 rf), (oX4 tr r0 r1 mo), (aI g r0 24 (fcF (va_cpy f f1 0 0 24) (nI ci) mo)), (aI g r1 6 sh), (oX6 p0 p1 p2 p3 p4 (nI w)), (aI g p1 24 sd), (aI g p2 10 fn), (aI g p3 6 st), (aI g p4 6 me), (aP g pa 7 pf), (oX5 t0 t1 t2 pw), (aI g t1 6 pd), (aI g t2 36 wb)]) (wr := [(oX8 s0 h0 a0 b0 e0), (oX4 h0 q0 q1 mo), (aI g q0 24 f)]) (va_runV (As := [.int (nI n)]) (rest := []) ⟨hx, hb, hml, hown, hts⟩ (g_X10_passTried l g x0 y0 z0 dr pa s0 im tr v0 rf ta to_ ki p0 p1 p2 p3 p4 w sd fn st me r0 r1 mo (fcF (va_cpy f f1 0 0 24) (nI ci) mo) sh n pf t0 t1 t2 pw pd wb ck ci (by first | assumption | decide | omega) (by first | assumption | decide | omega) (by first | assumption | decide | omega) (by first | assumption | decide | omega) (by first | assumption | decide | omega) (by first | assumption | decide | omega) (Or.inl (fcF_10 _ _ _)) (by first | assumption | decide | omega) H.size) (cwV 1 hts gX10_trySigned_X10_passTried rfl rfl rfl (by decide +kernel) ⟨Nat.le_of_ble_eq_true rfl, Nat.le_of_ble_eq_true rfl⟩) (he_preV (wc := [(oX10 x0 y0 ta z0 p0 dr pa to_ s0 im ki tr v0 rf), (oX4 tr r0 r1 mo), (aI g r0 24 (fcF (va_cpy f f1 0 0 24) (nI ci) mo)), (aI g r1 6 sh), (oX6 p0 p1 p2 p3 p4 (nI w)), (aI g p1 24 sd), (aI g p2 10 fn), (aI g p3 6 st), (aI g p4 6 me), (aP g pa 7 pf), (oX5 t0 t1 t2 pw), (aI g t1 6 pd), (aI g t2 36 wb)]) hK hP hD hS hA hE [0, 14, 15, 1, 2, 3, 4, 5, 6, 7, 8, 9, 10] rfl rfl 0 rfl rfl) rfl rfl hl.1 rfl (lv_room (Nat.le_of_ble_eq_true rfl)) dX10_trySigned_24 ⟨(Nat.le_of_ble_eq_true rfl), (Nat.le_of_ble_eq_true rfl)⟩) hP hD hS hA [0, 14, 15, 1, 2, 3, 4, 5, 6, 7, 8, 9, 10] [11, 12, 13] rfl rfl rfl (by decide) (fun u_8 H locs h_9 hP hD hS => ?_)
  obtain ⟨um_10, uf_11, us_12⟩ := u_8
  try dsimp only at h_9
  have hf_13 := h_9
  have hP : va_P g.1 vwCl [(oX8 s0 h0 a0 b0 e0), (oX4 h0 q0 q1 mo), (aI g q0 24 f), (oX10 x0 y0 ta z0 p0 dr pa to_ s0 im ki tr v0 rf), (oX4 tr r0 r1 um_10), (aI g r0 24 uf_11), (aI g r1 6 us_12), (oX6 p0 p1 p2 p3 p4 (nI w)), (aI g p1 24 sd), (aI g p2 10 fn), (aI g p3 6 st), (aI g p4 6 me), (aP g pa 7 pf), (oX5 t0 t1 t2 pw), (aI g t1 6 pd), (aI g t2 36 wb)] H := hP
  have hD : va_D A [(oX8 s0 h0 a0 b0 e0), (oX4 h0 q0 q1 mo), (aI g q0 24 f), (oX10 x0 y0 ta z0 p0 dr pa to_ s0 im ki tr v0 rf), (oX4 tr r0 r1 um_10), (aI g r0 24 uf_11), (aI g r1 6 us_12), (oX6 p0 p1 p2 p3 p4 (nI w)), (aI g p1 24 sd), (aI g p2 10 fn), (aI g p3 6 st), (aI g p4 6 me), (aP g pa 7 pf), (oX5 t0 t1 t2 pw), (aI g t1 6 pd), (aI g t2 36 wb)] := hD
  refine lv_aload_n hx hb dX10_trySigned_27 rfl (lv_at hl 0 rfl) ?_
  refine va_get (v := .ref tr) (T := TX10) (N := 13) hx hb hts inX10 hown hK hP 3 rfl rfl 10 (by decide) f50 (fun _ h9 => h9) rfl dX10_trySigned_28 ?_
  refine va_get (v := .ref r0) (T := TX4) (N := 3) hx hb hts inX4 hown hK hP 4 rfl rfl 0 (by decide) f111 (fun _ h9 => h9) rfl dX10_trySigned_31 ?_
  refine lv_iconst (v := 0) hx hb dX10_trySigned_34 (by decide) ?_
  refine he_iald hx hb hK hP 5 rfl (0) (by decide) (by decide) (by first | decide | assumption) (uf_11 0) rfl dX10_trySigned_35 ?_
  have hP := hP.sub (ws' := [(oX10 x0 y0 ta z0 p0 dr pa to_ s0 im ki tr v0 rf), (oX4 tr r0 r1 um_10), (aI g r0 24 uf_11), (aI g r1 6 us_12), (oX6 p0 p1 p2 p3 p4 (nI w)), (aI g p1 24 sd), (aI g p2 10 fn), (aI g p3 6 st), (aI g p4 6 me), (aP g pa 7 pf), (oX5 t0 t1 t2 pw), (aI g t1 6 pd), (aI g t2 36 wb), (oX8 s0 h0 a0 b0 e0), (oX4 h0 q0 q1 mo), (aI g q0 24 f)]) [3, 4, 5, 6, 7, 8, 9, 10, 11, 12, 13, 14, 15, 0, 1, 2] rfl
  have hD := hD.sub (ws' := [(oX10 x0 y0 ta z0 p0 dr pa to_ s0 im ki tr v0 rf), (oX4 tr r0 r1 um_10), (aI g r0 24 uf_11), (aI g r1 6 us_12), (oX6 p0 p1 p2 p3 p4 (nI w)), (aI g p1 24 sd), (aI g p2 10 fn), (aI g p3 6 st), (aI g p4 6 me), (aP g pa 7 pf), (oX5 t0 t1 t2 pw), (aI g t1 6 pd), (aI g t2 36 wb), (oX8 s0 h0 a0 b0 e0), (oX4 h0 q0 q1 mo), (aI g q0 24 f)]) [3, 4, 5, 6, 7, 8, 9, 10, 11, 12, 13, 14, 15, 0, 1, 2] (by decide) rfl
  exact he_ri hQ hx hb hr hlk hP hD hS dX10_trySigned_36 (Nat.le_of_ble_eq_true rfl) (Nat.le_of_ble_eq_true rfl) ((um_10, uf_11, us_12)) (rfl) (trivial)
set_option maxHeartbeats 4000000 in
set_option maxRecDepth 100000 in
theorem g_X10_trySignedN (l : Launch) (g : he_G) (x0 : Nat) (y0 : Nat) (z0 : Nat) (dr : Nat) (pa : Nat) (s0 : Nat) (im : Nat) (tr : Nat) (v0 : Nat) (rf : Nat) (ta : Int32) (to_ : Int32) (ki : Int32) (p0 : Nat) (p1 : Nat) (p2 : Nat) (p3 : Nat) (p4 : Nat) (w : Nat) (sd : Nat → Int32) (st : Nat → Int32) (me : Nat → Int32) (a0 : Nat) (b0 : Nat) (e0 : Nat) (h0 : Nat) (q0 : Nat) (q1 : Nat) (mo : Int32) (f : Nat → Int32) (r0 : Nat) (r1 : Nat) (mo1 : Int32) (f1 : Nat → Int32) (sh : Nat → Int32) (n : Nat) (hw6 : w ≤ 6) (hn : n ≤ 60) : he_I l yX10_trySigned wsX10_trySigned 5 105 0 0 g [.ref x0, .int (-1), .int (nI n)] [(oX10 x0 y0 ta z0 p0 dr pa to_ s0 im ki tr v0 rf), (oX4 tr r0 r1 mo1), (aI g r0 24 f1), (aI g r1 6 sh), (oX6 p0 p1 p2 p3 p4 (nI w)), (aI g p1 24 sd), (aI g p3 6 st), (aI g p4 6 me), (oX8 s0 h0 a0 b0 e0), (oX4 h0 q0 q1 mo), (aI g q0 24 f)] (fun (r : Int32) (u : Int32 × (Nat → Int32) × (Nat → Int32)) => True) (fun (u : Int32 × (Nat → Int32) × (Nat → Int32)) => [(oX10 x0 y0 ta z0 p0 dr pa to_ s0 im ki tr v0 rf), (oX4 tr r0 r1 u.1), (aI g r0 24 u.2.1), (aI g r1 6 u.2.2), (oX6 p0 p1 p2 p3 p4 (nI w)), (aI g p1 24 sd), (aI g p3 6 st), (aI g p4 6 me), (oX8 s0 h0 a0 b0 e0), (oX4 h0 q0 q1 mo), (aI g q0 24 f)]) := by
  refine he_begin (l := l) (g := g) (y := yX10_trySigned) (wl := wsX10_trySigned) (fr := 5) (lo := 105) (mc := 0) (ms := 0) (av := [.ref x0, .int (-1), .int (nI n)]) (ws := [(oX10 x0 y0 ta z0 p0 dr pa to_ s0 im ki tr v0 rf), (oX4 tr r0 r1 mo1), (aI g r0 24 f1), (aI g r1 6 sh), (oX6 p0 p1 p2 p3 p4 (nI w)), (aI g p1 24 sd), (aI g p3 6 st), (aI g p4 6 me), (oX8 s0 h0 a0 b0 e0), (oX4 h0 q0 q1 mo), (aI g q0 24 f)]) (cc := cX10_trySigned) (maxL := 3) (ret := (some .int)) (fun A => va_Qi (fun (r : Int32) (u : Int32 × (Nat → Int32) × (Nat → Int32)) => True) (fun u t => he_post g A ((fun (u : Int32 × (Nat → Int32) × (Nat → Int32)) => [(oX10 x0 y0 ta z0 p0 dr pa to_ s0 im ki tr v0 rf), (oX4 tr r0 r1 u.1), (aI g r0 24 u.2.1), (aI g r1 6 u.2.2), (oX6 p0 p1 p2 p3 p4 (nI w)), (aI g p1 24 sd), (aI g p3 6 st), (aI g p4 6 me), (oX8 s0 h0 a0 b0 e0), (oX4 h0 q0 q1 mo), (aI g q0 24 f)]) u) t) A) (by decide) rfl (Nat.le_of_ble_eq_true rfl) ?_
  intro p e s m args below meth c A ls H locs Q hQ hB
  obtain ⟨hx, hb, hr, hml, hown, hts, hlk, hin, hP, hK, hD, hS, hA, hE, hl⟩ := hB
  have hl : lv_has ls 3 [(0, .ref x0), (1, .int (-1)), (2, .int (nI n))] := hl
  have f50 := hts (.fieldLink RX10 50 "HiredEnemy" "trial" "LHiredEnemy$Course;") (iwoX10_trySigned (k := 0) rfl)
  have inX10 : ∀ w ∈ wsX100, w ∈ wsX10_trySigned := innX10_trySigned_X10
  have f39 := hts (.fieldLink RX10 39 "HiredEnemy" "scene" "LHiredEnemy$Scene;") (iwoX10_trySigned (k := 1) rfl)
  have f66 := hts (.fieldLink RX10 66 "HiredEnemy$Scene" "course" "LHiredEnemy$Course;") (iwoX10_trySigned (k := 2) rfl)
  have inX8 : ∀ w ∈ wsX80, w ∈ wsX10_trySigned := innX10_trySigned_X8
  have f111 := hts (.fieldLink RX10 111 "HiredEnemy$Course" "now" "[I") (iwoX10_trySigned (k := 3) rfl)
  have inX4 : ∀ w ∈ wsX40, w ∈ wsX10_trySigned := innX10_trySigned_X4
  refine lv_aload_n hx hb dX10_trySigned_0 rfl (lv_at hl 0 rfl) ?_
  refine va_get (v := .ref tr) (T := TX10) (N := 13) hx hb hts inX10 hown hK hP 0 rfl rfl 10 (by decide) f50 (fun _ h9 => h9) rfl dX10_trySigned_1 ?_
  refine lv_aload_n hx hb dX10_trySigned_4 rfl (lv_at hl 0 rfl) ?_
  refine va_get (v := .ref s0) (T := TX10) (N := 13) hx hb hts inX10 hown hK hP 0 rfl rfl 7 (by decide) f39 (fun _ h9 => h9) rfl dX10_trySigned_5 ?_
  refine va_get (v := .ref h0) (T := TX8) (N := 4) hx hb hts inX8 hown hK hP 8 rfl rfl 0 (by decide) f66 (fun _ h9 => h9) rfl dX10_trySigned_8 ?_
  refine he_cv (wc := [(oX4 tr r0 r1 mo1), (aI g r0 24 f1), (oX4 h0 q0 q1 mo), (aI g q0 24 f)]) (wr := [(oX10 x0 y0 ta z0 p0 dr pa to_ s0 im ki tr v0 rf), (aI g r1 6 sh), (oX6 p0 p1 p2 p3 p4 (nI w)), (aI g p1 24 sd), (aI g p3 6 st), (aI g p4 6 me), (oX8 s0 h0 a0 b0 e0)]) (va_runV (As := [.ref h0]) (rest := []) ⟨hx, hb, hml, hown, hts⟩ (c_X4_take l g tr r0 r1 mo1 f1 h0 q0 q1 mo f H.size) (cwV 1 hts gX10_trySigned_X4_take rfl rfl rfl (by decide +kernel) ⟨Nat.le_of_ble_eq_true rfl, Nat.le_of_ble_eq_true rfl⟩) (he_preV (wc := [(oX4 tr r0 r1 mo1), (aI g r0 24 f1), (oX4 h0 q0 q1 mo), (aI g q0 24 f)]) hK hP hD hS hA hE [1, 2, 9, 10] rfl rfl 1 rfl rfl) rfl rfl hl.1 rfl (lv_room (Nat.le_of_ble_eq_true rfl)) dX10_trySigned_11 ⟨(Nat.le_of_ble_eq_true rfl), (Nat.le_of_ble_eq_true rfl)⟩) hP hD hS hA [1, 2, 9, 10] [0, 3, 4, 5, 6, 7, 8] rfl rfl rfl (by decide) (fun u_2 H locs h_3 hP hD hS => ?_)
  have hP : va_P g.1 vwCl [(oX10 x0 y0 ta z0 p0 dr pa to_ s0 im ki tr v0 rf), (aI g r1 6 sh), (oX6 p0 p1 p2 p3 p4 (nI w)), (aI g p1 24 sd), (aI g p3 6 st), (aI g p4 6 me), (oX8 s0 h0 a0 b0 e0), (oX4 tr r0 r1 mo), (aI g r0 24 (va_cpy f f1 0 0 24)), (oX4 h0 q0 q1 mo), (aI g q0 24 f)] H := hP
  have hD : va_D A [(oX10 x0 y0 ta z0 p0 dr pa to_ s0 im ki tr v0 rf), (aI g r1 6 sh), (oX6 p0 p1 p2 p3 p4 (nI w)), (aI g p1 24 sd), (aI g p3 6 st), (aI g p4 6 me), (oX8 s0 h0 a0 b0 e0), (oX4 tr r0 r1 mo), (aI g r0 24 (va_cpy f f1 0 0 24)), (oX4 h0 q0 q1 mo), (aI g q0 24 f)] := hD
  refine lv_aload_n hx hb dX10_trySigned_14 rfl (lv_at hl 0 rfl) ?_
  refine va_get (v := .ref tr) (T := TX10) (N := 13) hx hb hts inX10 hown hK hP 0 rfl rfl 10 (by decide) f50 (fun _ h9 => h9) rfl dX10_trySigned_15 ?_
  refine lv_iload_n hx hb dX10_trySigned_18 rfl (lv_at hl 1 rfl) ?_
  refine he_cv (wc := [(oX4 tr r0 r1 mo), (aI g r0 24 (va_cpy f f1 0 0 24))]) (wr := [(oX10 x0 y0 ta z0 p0 dr pa to_ s0 im ki tr v0 rf), (aI g r1 6 sh), (oX6 p0 p1 p2 p3 p4 (nI w)), (aI g p1 24 sd), (aI g p3 6 st), (aI g p4 6 me), (oX8 s0 h0 a0 b0 e0), (oX4 h0 q0 q1 mo), (aI g q0 24 f)]) (va_runV (As := [.int (-1)]) (rest := []) ⟨hx, hb, hml, hown, hts⟩ (c_X4_pledge l g tr r0 r1 mo (va_cpy f f1 0 0 24) (-1) H.size) (cwV 1 hts gX10_trySigned_X4_pledge rfl rfl rfl (by decide +kernel) ⟨Nat.le_of_ble_eq_true rfl, Nat.le_of_ble_eq_true rfl⟩) (he_preV (wc := [(oX4 tr r0 r1 mo), (aI g r0 24 (va_cpy f f1 0 0 24))]) hK hP hD hS hA hE [7, 8] rfl rfl 7 rfl rfl) rfl rfl hl.1 rfl (lv_room (Nat.le_of_ble_eq_true rfl)) dX10_trySigned_19 ⟨(Nat.le_of_ble_eq_true rfl), (Nat.le_of_ble_eq_true rfl)⟩) hP hD hS hA [7, 8] [0, 1, 2, 3, 4, 5, 6, 9, 10] rfl rfl rfl (by decide) (fun u_5 H locs h_6 hP hD hS => ?_)
  have hP : va_P g.1 vwCl [(oX10 x0 y0 ta z0 p0 dr pa to_ s0 im ki tr v0 rf), (aI g r1 6 sh), (oX6 p0 p1 p2 p3 p4 (nI w)), (aI g p1 24 sd), (aI g p3 6 st), (aI g p4 6 me), (oX8 s0 h0 a0 b0 e0), (oX4 h0 q0 q1 mo), (aI g q0 24 f), (oX4 tr r0 r1 mo), (aI g r0 24 (fcF (va_cpy f f1 0 0 24) (-1) mo))] H := hP
  have hD : va_D A [(oX10 x0 y0 ta z0 p0 dr pa to_ s0 im ki tr v0 rf), (aI g r1 6 sh), (oX6 p0 p1 p2 p3 p4 (nI w)), (aI g p1 24 sd), (aI g p3 6 st), (aI g p4 6 me), (oX8 s0 h0 a0 b0 e0), (oX4 h0 q0 q1 mo), (aI g q0 24 f), (oX4 tr r0 r1 mo), (aI g r0 24 (fcF (va_cpy f f1 0 0 24) (-1) mo))] := hD
  refine lv_aload_n hx hb dX10_trySigned_22 rfl (lv_at hl 0 rfl) ?_
  refine lv_iload_n hx hb dX10_trySigned_23 rfl (lv_at hl 2 rfl) ?_
  refine he_cv (wc := [(oX10 x0 y0 ta z0 p0 dr pa to_ s0 im ki tr v0 rf), (oX4 tr r0 r1 mo), (aI g r0 24 (fcF (va_cpy f f1 0 0 24) (-1) mo)), (aI g r1 6 sh), (oX6 p0 p1 p2 p3 p4 (nI w)), (aI g p1 24 sd), (aI g p3 6 st), (aI g p4 6 me)]) (wr := [(oX8 s0 h0 a0 b0 e0), (oX4 h0 q0 q1 mo), (aI g q0 24 f)]) (va_runV (As := [.int (nI n)]) (rest := []) ⟨hx, hb, hml, hown, hts⟩ (g_X10_passTriedN l g x0 y0 z0 dr pa s0 im tr v0 rf ta to_ ki p0 p1 p2 p3 p4 w sd st me r0 r1 mo (fcF (va_cpy f f1 0 0 24) (-1) mo) sh n (by first | assumption | decide | omega) (by rw [fcF_10]; exact m1_out 6) (by first | assumption | decide | omega) H.size) (cwV 1 hts gX10_trySigned_X10_passTried rfl rfl rfl (by decide +kernel) ⟨Nat.le_of_ble_eq_true rfl, Nat.le_of_ble_eq_true rfl⟩) (he_preV (wc := [(oX10 x0 y0 ta z0 p0 dr pa to_ s0 im ki tr v0 rf), (oX4 tr r0 r1 mo), (aI g r0 24 (fcF (va_cpy f f1 0 0 24) (-1) mo)), (aI g r1 6 sh), (oX6 p0 p1 p2 p3 p4 (nI w)), (aI g p1 24 sd), (aI g p3 6 st), (aI g p4 6 me)]) hK hP hD hS hA hE [0, 9, 10, 1, 2, 3, 4, 5] rfl rfl 0 rfl rfl) rfl rfl hl.1 rfl (lv_room (Nat.le_of_ble_eq_true rfl)) dX10_trySigned_24 ⟨(Nat.le_of_ble_eq_true rfl), (Nat.le_of_ble_eq_true rfl)⟩) hP hD hS hA [0, 9, 10, 1, 2, 3, 4, 5] [6, 7, 8] rfl rfl rfl (by decide) (fun u_8 H locs h_9 hP hD hS => ?_)
  obtain ⟨um_10, uf_11, us_12⟩ := u_8
  have hP : va_P g.1 vwCl [(oX8 s0 h0 a0 b0 e0), (oX4 h0 q0 q1 mo), (aI g q0 24 f), (oX10 x0 y0 ta z0 p0 dr pa to_ s0 im ki tr v0 rf), (oX4 tr r0 r1 um_10), (aI g r0 24 uf_11), (aI g r1 6 us_12), (oX6 p0 p1 p2 p3 p4 (nI w)), (aI g p1 24 sd), (aI g p3 6 st), (aI g p4 6 me)] H := hP
  have hD : va_D A [(oX8 s0 h0 a0 b0 e0), (oX4 h0 q0 q1 mo), (aI g q0 24 f), (oX10 x0 y0 ta z0 p0 dr pa to_ s0 im ki tr v0 rf), (oX4 tr r0 r1 um_10), (aI g r0 24 uf_11), (aI g r1 6 us_12), (oX6 p0 p1 p2 p3 p4 (nI w)), (aI g p1 24 sd), (aI g p3 6 st), (aI g p4 6 me)] := hD
  refine lv_aload_n hx hb dX10_trySigned_27 rfl (lv_at hl 0 rfl) ?_
  refine va_get (v := .ref tr) (T := TX10) (N := 13) hx hb hts inX10 hown hK hP 3 rfl rfl 10 (by decide) f50 (fun _ h9 => h9) rfl dX10_trySigned_28 ?_
  refine va_get (v := .ref r0) (T := TX4) (N := 3) hx hb hts inX4 hown hK hP 4 rfl rfl 0 (by decide) f111 (fun _ h9 => h9) rfl dX10_trySigned_31 ?_
  refine lv_iconst (v := 0) hx hb dX10_trySigned_34 (by decide) ?_
  refine he_iald hx hb hK hP 5 rfl (0) (by decide) (by decide) (by first | decide | assumption) (uf_11 0) rfl dX10_trySigned_35 ?_
  have hP := hP.sub (ws' := [(oX10 x0 y0 ta z0 p0 dr pa to_ s0 im ki tr v0 rf), (oX4 tr r0 r1 um_10), (aI g r0 24 uf_11), (aI g r1 6 us_12), (oX6 p0 p1 p2 p3 p4 (nI w)), (aI g p1 24 sd), (aI g p3 6 st), (aI g p4 6 me), (oX8 s0 h0 a0 b0 e0), (oX4 h0 q0 q1 mo), (aI g q0 24 f)]) [3, 4, 5, 6, 7, 8, 9, 10, 0, 1, 2] rfl
  have hD := hD.sub (ws' := [(oX10 x0 y0 ta z0 p0 dr pa to_ s0 im ki tr v0 rf), (oX4 tr r0 r1 um_10), (aI g r0 24 uf_11), (aI g r1 6 us_12), (oX6 p0 p1 p2 p3 p4 (nI w)), (aI g p1 24 sd), (aI g p3 6 st), (aI g p4 6 me), (oX8 s0 h0 a0 b0 e0), (oX4 h0 q0 q1 mo), (aI g q0 24 f)]) [3, 4, 5, 6, 7, 8, 9, 10, 0, 1, 2] (by decide) rfl
  exact he_ri hQ hx hb hr hlk hP hD hS dX10_trySigned_36 (Nat.le_of_ble_eq_true rfl) (Nat.le_of_ble_eq_true rfl) ((um_10, uf_11, us_12)) (rfl) (trivial)
end
section
set_option maxHeartbeats 4000000 in
set_option maxRecDepth 100000 in
theorem g_X10_feedF (l : Launch) (g : he_G) (x0 : Nat) (y0 : Nat) (z0 : Nat) (p0 : Nat) (dr : Nat) (pa : Nat) (s0 : Nat) (im : Nat) (tr : Nat) (v0 : Nat) (rf : Nat) (k : Nat) (to_ : Int32) (ki : Int32) (v1 : Int32) (v2 : Int32) (v3 : Int32) (v4 : Int32) (v5 : Int32) (hk : k ≤ 500) (hk2 : 500 < k + 20) : he_I l yX10_feed wsX10_feed 0 0 0 0 g [.ref x0, .int v1, .int v2, .int v3, .int v4, .int v5] [(oX10 x0 y0 (nI k) z0 p0 dr pa to_ s0 im ki tr v0 rf)] (fun (r : Int32) (u : Unit) => r = (-1)) (fun (u : Unit) => [(oX10 x0 y0 (nI k) z0 p0 dr pa to_ s0 im ki tr v0 rf)]) := by
  refine he_begin (l := l) (g := g) (y := yX10_feed) (wl := wsX10_feed) (fr := 0) (lo := 0) (mc := 0) (ms := 0) (av := [.ref x0, .int v1, .int v2, .int v3, .int v4, .int v5]) (ws := [(oX10 x0 y0 (nI k) z0 p0 dr pa to_ s0 im ki tr v0 rf)]) (cc := cX10_feed) (maxL := 6) (ret := (some .int)) (fun A => va_Qi (fun (r : Int32) (u : Unit) => r = (-1)) (fun u t => he_post g A ((fun (u : Unit) => [(oX10 x0 y0 (nI k) z0 p0 dr pa to_ s0 im ki tr v0 rf)]) u) t) A) (by decide) rfl (Nat.le_of_ble_eq_true rfl) ?_
  intro p e s m args below meth c A ls H locs Q hQ hB
  obtain ⟨hx, hb, hr, hml, hown, hts, hlk, hin, hP, hK, hD, hS, hA, hE, hl⟩ := hB
  have hl : lv_has ls 6 [(0, .ref x0), (1, .int v1), (2, .int v2), (3, .int v3), (4, .int v4), (5, .int v5)] := hl
  have f73 := hts (.fieldLink RX10 73 "HiredEnemy" "taped" "I") (iwoX10_feed (k := 0) rfl)
  have inX10 : ∀ w ∈ wsX100, w ∈ wsX10_feed := innX10_feed_X10
  refine lv_aload_n hx hb dX10_feed_0 rfl (lv_at hl 0 rfl) ?_
  refine va_get (v := .int (nI k)) (T := TX10) (N := 13) hx hb hts inX10 hown hK hP 0 rfl rfl 1 (by decide) f73 (fun _ h9 => h9) rfl dX10_feed_1 ?_
  refine lv_bipush (v := 20) hx hb dX10_feed_4 (by decide) ?_
  refine lv_iadd hx hb dX10_feed_6 ?_
  refine he_top (nI (k + 20)) (nI_add k 20) ?_
  refine lv_sipush (v := 500) hx hb dX10_feed_7 (by decide) ?_
  refine lv_icmp_le (tgt := 15) hx hb dX10_feed_10 (by decide) (fun c_1 => ?_) (fun c_1 => ?_)
  · exact absurd c_1 (fun h9 => absurd ((he_cle (a := k + 20) (b := 500) rfl (by decide) (by omega) (by decide)).mp h9) (by omega))
  · refine lv_iconst (v := (-1)) hx hb dX10_feed_13 (by decide) ?_
    exact he_ri hQ hx hb hr hlk hP hD hS dX10_feed_14 (Nat.le_of_ble_eq_true rfl) (Nat.le_of_ble_eq_true rfl) (()) (rfl) (rfl)
set_option maxHeartbeats 4000000 in
set_option maxRecDepth 100000 in
theorem g_X10_fault (l : Launch) (g : he_G) (x0 : Nat) (y0 : Nat) (z0 : Nat) (p0 : Nat) (dr : Nat) (pa : Nat) (s0 : Nat) (im : Nat) (tr : Nat) (v0 : Nat) (rf : Nat) (ta : Int32) (to_ : Int32) (ki : Int32) (z1 : Nat) (y1 : Nat) (n1 : Int32) (at1 : Int32) (fa : Int32) (pl : Int32)  : he_I l yX10_fault wsX10_fault 0 0 0 0 g [.ref x0] [(oX10 x0 y0 ta z0 p0 dr pa to_ s0 im ki tr v0 rf), (oX7 z0 y1 n1 at1 fa pl z1)] (fun (r : Int32) (u : Unit) => r = pl) (fun (u : Unit) => [(oX10 x0 y0 ta z0 p0 dr pa to_ s0 im ki tr v0 rf), (oX7 z0 y1 n1 at1 fa pl z1)]) := by
  refine he_begin (l := l) (g := g) (y := yX10_fault) (wl := wsX10_fault) (fr := 0) (lo := 0) (mc := 0) (ms := 0) (av := [.ref x0]) (ws := [(oX10 x0 y0 ta z0 p0 dr pa to_ s0 im ki tr v0 rf), (oX7 z0 y1 n1 at1 fa pl z1)]) (cc := cX10_fault) (maxL := 1) (ret := (some .int)) (fun A => va_Qi (fun (r : Int32) (u : Unit) => r = pl) (fun u t => he_post g A ((fun (u : Unit) => [(oX10 x0 y0 ta z0 p0 dr pa to_ s0 im ki tr v0 rf), (oX7 z0 y1 n1 at1 fa pl z1)]) u) t) A) (by decide) rfl (Nat.le_of_ble_eq_true rfl) ?_
  intro p e s m args below meth c A ls H locs Q hQ hB
  obtain ⟨hx, hb, hr, hml, hown, hts, hlk, hin, hP, hK, hD, hS, hA, hE, hl⟩ := hB
  have hl : lv_has ls 1 [(0, .ref x0)] := hl
  have f16 := hts (.fieldLink RX10 16 "HiredEnemy" "reader" "LHiredEnemy$Reader;") (iwoX10_fault (k := 0) rfl)
  have inX10 : ∀ w ∈ wsX100, w ∈ wsX10_fault := innX10_fault_X10
  have f102 := hts (.fieldLink RX10 102 "HiredEnemy$Reader" "place" "I") (iwoX10_fault (k := 1) rfl)
  have inX7 : ∀ w ∈ wsX70, w ∈ wsX10_fault := innX10_fault_X7
  refine lv_aload_n hx hb dX10_fault_0 rfl (lv_at hl 0 rfl) ?_
  refine va_get (v := .ref z0) (T := TX10) (N := 13) hx hb hts inX10 hown hK hP 0 rfl rfl 2 (by decide) f16 (fun _ h9 => h9) rfl dX10_fault_1 ?_
  refine va_get (v := .int pl) (T := TX7) (N := 6) hx hb hts inX7 hown hK hP 1 rfl rfl 4 (by decide) f102 (fun _ h9 => h9) rfl dX10_fault_4 ?_
  exact he_ri hQ hx hb hr hlk hP hD hS dX10_fault_7 (Nat.le_of_ble_eq_true rfl) (Nat.le_of_ble_eq_true rfl) (()) (rfl) (rfl)
end
section
set_option maxHeartbeats 4000000 in
set_option maxRecDepth 100000 in
theorem g_X10_wants (l : Launch) (g : he_G) (x0 : Nat) (y0 : Nat) (z0 : Nat) (dr : Nat) (pa : Nat) (s0 : Nat) (im : Nat) (tr : Nat) (v0 : Nat) (rf : Nat) (ta : Int32) (to_ : Int32) (ki : Int32) (p0 : Nat) (p1 : Nat) (p2 : Nat) (p3 : Nat) (p4 : Nat) (w : Int32) (sd : Nat → Int32) (x : Int32) (y : Int32) (hok0 : ¬ he_within x 0 9 = 0) (hok1 : ¬ he_within y 0 99 = 0) : he_I l yX10_wants wsX10_wants 1 22 0 0 g [.ref x0, .int x, .int y] [(oX10 x0 y0 ta z0 p0 dr pa to_ s0 im ki tr v0 rf), (oX6 p0 p1 p2 p3 p4 w), (aI g p1 24 sd)] (fun (r : Int32) (u : Unit) => r = wantF sd x y) (fun (u : Unit) => [(oX10 x0 y0 ta z0 p0 dr pa to_ s0 im ki tr v0 rf), (oX6 p0 p1 p2 p3 p4 w), (aI g p1 24 sd)]) := by
  refine he_begin (l := l) (g := g) (y := yX10_wants) (wl := wsX10_wants) (fr := 1) (lo := 22) (mc := 0) (ms := 0) (av := [.ref x0, .int x, .int y]) (ws := [(oX10 x0 y0 ta z0 p0 dr pa to_ s0 im ki tr v0 rf), (oX6 p0 p1 p2 p3 p4 w), (aI g p1 24 sd)]) (cc := cX10_wants) (maxL := 3) (ret := (some .int)) (fun A => va_Qi (fun (r : Int32) (u : Unit) => r = wantF sd x y) (fun u t => he_post g A ((fun (u : Unit) => [(oX10 x0 y0 ta z0 p0 dr pa to_ s0 im ki tr v0 rf), (oX6 p0 p1 p2 p3 p4 w), (aI g p1 24 sd)]) u) t) A) (by decide) rfl (Nat.le_of_ble_eq_true rfl) ?_
  intro p e s m args below meth c A ls H locs Q hQ hB
  obtain ⟨hx, hb, hr, hml, hown, hts, hlk, hin, hP, hK, hD, hS, hA, hE, hl⟩ := hB
  have hl : lv_has ls 3 [(0, .ref x0), (1, .int x), (2, .int y)] := hl
  have f23 := hts (.fieldLink RX10 23 "HiredEnemy" "plan" "LHiredEnemy$Plan;") (iwoX10_wants (k := 0) rfl)
  have inX10 : ∀ w ∈ wsX100, w ∈ wsX10_wants := innX10_wants_X10
  refine lv_aload_n hx hb dX10_wants_0 rfl (lv_at hl 0 rfl) ?_
  refine lv_iload_n hx hb dX10_wants_1 rfl (lv_at hl 1 rfl) ?_
  refine lv_iconst (v := 0) hx hb dX10_wants_2 (by decide) ?_
  refine lv_bipush (v := 9) hx hb dX10_wants_3 (by decide) ?_
  refine he_ci (wc := []) (wr := [(oX10 x0 y0 ta z0 p0 dr pa to_ s0 im ki tr v0 rf), (oX6 p0 p1 p2 p3 p4 w), (aI g p1 24 sd)]) (va_runS (As := [.int x, .int 0, .int 9]) (rest := [.ref x0]) ⟨hx, hb, hml, hown, hts⟩ (c_X10_within l g x 0 9 H.size) (va_cwS 3 hts gX10_wants_X10_within rfl rfl rfl (by decide +kernel) ⟨Nat.le_of_ble_eq_true rfl, Nat.le_of_ble_eq_true rfl⟩) (he_preS (wc := []) hK hP hD hS hA hE [] rfl rfl) rfl rfl hl.1 rfl (lv_room (Nat.le_of_ble_eq_true rfl)) dX10_wants_5 ⟨(Nat.le_of_ble_eq_true rfl), (Nat.le_of_ble_eq_true rfl)⟩) hP hD hS hA [] [0, 1, 2] rfl rfl rfl (by decide) (fun r_1 u_2 H locs h_3 hP hD hS => ?_)
  subst h_3
  have hP : va_P g.1 vwCl [(oX10 x0 y0 ta z0 p0 dr pa to_ s0 im ki tr v0 rf), (oX6 p0 p1 p2 p3 p4 w), (aI g p1 24 sd)] H := hP
  have hD : va_D A [(oX10 x0 y0 ta z0 p0 dr pa to_ s0 im ki tr v0 rf), (oX6 p0 p1 p2 p3 p4 w), (aI g p1 24 sd)] := hD
  refine he_top (1) (he_within_1 hok0) ?_
  refine lv_if_eq (tgt := 25) hx hb dX10_wants_8 (by decide) (fun c_4 => ?_) (fun c_4 => ?_)
  · exact absurd c_4 (by decide)
  · refine lv_iload_n hx hb dX10_wants_11 rfl (lv_at hl 2 rfl) ?_
    refine lv_iconst (v := 0) hx hb dX10_wants_12 (by decide) ?_
    refine lv_bipush (v := 99) hx hb dX10_wants_13 (by decide) ?_
    refine he_ci (wc := []) (wr := [(oX10 x0 y0 ta z0 p0 dr pa to_ s0 im ki tr v0 rf), (oX6 p0 p1 p2 p3 p4 w), (aI g p1 24 sd)]) (va_runS (As := [.int y, .int 0, .int 99]) (rest := [.ref x0]) ⟨hx, hb, hml, hown, hts⟩ (c_X10_within l g y 0 99 H.size) (va_cwS 3 hts gX10_wants_X10_within rfl rfl rfl (by decide +kernel) ⟨Nat.le_of_ble_eq_true rfl, Nat.le_of_ble_eq_true rfl⟩) (he_preS (wc := []) hK hP hD hS hA hE [] rfl rfl) rfl rfl hl.1 rfl (lv_room (Nat.le_of_ble_eq_true rfl)) dX10_wants_15 ⟨(Nat.le_of_ble_eq_true rfl), (Nat.le_of_ble_eq_true rfl)⟩) hP hD hS hA [] [0, 1, 2] rfl rfl rfl (by decide) (fun r_5 u_6 H locs h_7 hP hD hS => ?_)
    subst h_7
    have hP : va_P g.1 vwCl [(oX10 x0 y0 ta z0 p0 dr pa to_ s0 im ki tr v0 rf), (oX6 p0 p1 p2 p3 p4 w), (aI g p1 24 sd)] H := hP
    have hD : va_D A [(oX10 x0 y0 ta z0 p0 dr pa to_ s0 im ki tr v0 rf), (oX6 p0 p1 p2 p3 p4 w), (aI g p1 24 sd)] := hD
    refine he_top (1) (he_within_1 hok1) ?_
    refine lv_if_eq (tgt := 25) hx hb dX10_wants_18 (by decide) (fun c_8 => ?_) (fun c_8 => ?_)
    · exact absurd c_8 (by decide)
    · refine lv_iconst (v := 1) hx hb dX10_wants_21 (by decide) ?_
      refine lv_goto (tgt := 26) hx hb dX10_wants_22 (by decide) ?_
      refine he_cv (wc := []) (wr := [(oX10 x0 y0 ta z0 p0 dr pa to_ s0 im ki tr v0 rf), (oX6 p0 p1 p2 p3 p4 w), (aI g p1 24 sd)]) (va_runV (As := [.int 1]) (rest := []) ⟨hx, hb, hml, hown, hts⟩ (c_X10_demand1 l g x0 H.size) (cwV 1 hts gX10_wants_X10_demand rfl rfl rfl (by decide +kernel) ⟨Nat.le_of_ble_eq_true rfl, Nat.le_of_ble_eq_true rfl⟩) (he_preV (wc := []) hK hP hD hS hA hE [] rfl rfl 0 rfl rfl) rfl rfl hl.1 rfl (lv_room (Nat.le_of_ble_eq_true rfl)) dX10_wants_26 ⟨(Nat.le_of_ble_eq_true rfl), (Nat.le_of_ble_eq_true rfl)⟩) hP hD hS hA [] [0, 1, 2] rfl rfl rfl (by decide) (fun u_10 H locs h_11 hP hD hS => ?_)
      have hP : va_P g.1 vwCl [(oX10 x0 y0 ta z0 p0 dr pa to_ s0 im ki tr v0 rf), (oX6 p0 p1 p2 p3 p4 w), (aI g p1 24 sd)] H := hP
      have hD : va_D A [(oX10 x0 y0 ta z0 p0 dr pa to_ s0 im ki tr v0 rf), (oX6 p0 p1 p2 p3 p4 w), (aI g p1 24 sd)] := hD
      refine lv_aload_n hx hb dX10_wants_29 rfl (lv_at hl 0 rfl) ?_
      refine va_get (v := .ref p0) (T := TX10) (N := 13) hx hb hts inX10 hown hK hP 0 rfl rfl 3 (by decide) f23 (fun _ h9 => h9) rfl dX10_wants_30 ?_
      refine lv_iload_n hx hb dX10_wants_33 rfl (lv_at hl 1 rfl) ?_
      refine lv_iload_n hx hb dX10_wants_34 rfl (lv_at hl 2 rfl) ?_
      refine he_ci (wc := [(oX6 p0 p1 p2 p3 p4 w), (aI g p1 24 sd)]) (wr := [(oX10 x0 y0 ta z0 p0 dr pa to_ s0 im ki tr v0 rf)]) (va_runV (As := [.int x, .int y]) (rest := []) ⟨hx, hb, hml, hown, hts⟩ (c_X6_wanted l g p0 p1 p2 p3 p4 w sd x y H.size) (cwV 2 hts gX10_wants_X6_wanted rfl rfl rfl (by decide +kernel) ⟨Nat.le_of_ble_eq_true rfl, Nat.le_of_ble_eq_true rfl⟩) (he_preV (wc := [(oX6 p0 p1 p2 p3 p4 w), (aI g p1 24 sd)]) hK hP hD hS hA hE [1, 2] rfl rfl 1 rfl rfl) rfl rfl hl.1 rfl (lv_room (Nat.le_of_ble_eq_true rfl)) dX10_wants_35 ⟨(Nat.le_of_ble_eq_true rfl), (Nat.le_of_ble_eq_true rfl)⟩) hP hD hS hA [1, 2] [0] rfl rfl rfl (by decide) (fun r_12 u_13 H locs h_14 hP hD hS => ?_)
      subst h_14
      have hP : va_P g.1 vwCl [(oX10 x0 y0 ta z0 p0 dr pa to_ s0 im ki tr v0 rf), (oX6 p0 p1 p2 p3 p4 w), (aI g p1 24 sd)] H := hP
      have hD : va_D A [(oX10 x0 y0 ta z0 p0 dr pa to_ s0 im ki tr v0 rf), (oX6 p0 p1 p2 p3 p4 w), (aI g p1 24 sd)] := hD
      exact he_ri hQ hx hb hr hlk hP hD hS dX10_wants_38 (Nat.le_of_ble_eq_true rfl) (Nat.le_of_ble_eq_true rfl) (()) (rfl) (rfl)
set_option maxHeartbeats 4000000 in
set_option maxRecDepth 100000 in
theorem g_X10_signN (l : Launch) (g : he_G) (x0 : Nat) (y0 : Nat) (z0 : Nat) (p0 : Nat) (dr : Nat) (pa : Nat) (s0 : Nat) (im : Nat) (tr : Nat) (v0 : Nat) (rf : Nat) (ta : Int32) (to_ : Int32) (ki : Int32) (a0 : Nat) (b0 : Nat) (e0 : Nat) (h0 : Nat) (q0 : Nat) (q1 : Nat) (mo : Int32) (f : Nat → Int32)  : he_I l yX10_sign wsX10_sign 1 21 0 0 g [.ref x0, .int (-1)] [(oX10 x0 y0 ta z0 p0 dr pa to_ s0 im ki tr v0 rf), (oX8 s0 h0 a0 b0 e0), (oX4 h0 q0 q1 mo), (aI g q0 24 f)] (fun (r : Int32) (u : Unit) => r = f 10) (fun (u : Unit) => [(oX10 x0 y0 ta z0 p0 dr pa to_ s0 im ki tr v0 rf), (oX8 s0 h0 a0 b0 e0), (oX4 h0 q0 q1 mo), (aI g q0 24 (fcF f (-1) mo))]) := by
  refine he_begin (l := l) (g := g) (y := yX10_sign) (wl := wsX10_sign) (fr := 1) (lo := 21) (mc := 0) (ms := 0) (av := [.ref x0, .int (-1)]) (ws := [(oX10 x0 y0 ta z0 p0 dr pa to_ s0 im ki tr v0 rf), (oX8 s0 h0 a0 b0 e0), (oX4 h0 q0 q1 mo), (aI g q0 24 f)]) (cc := cX10_sign) (maxL := 3) (ret := (some .int)) (fun A => va_Qi (fun (r : Int32) (u : Unit) => r = f 10) (fun u t => he_post g A ((fun (u : Unit) => [(oX10 x0 y0 ta z0 p0 dr pa to_ s0 im ki tr v0 rf), (oX8 s0 h0 a0 b0 e0), (oX4 h0 q0 q1 mo), (aI g q0 24 (fcF f (-1) mo))]) u) t) A) (by decide) rfl (Nat.le_of_ble_eq_true rfl) ?_
  intro p e s m args below meth c A ls H locs Q hQ hB
  obtain ⟨hx, hb, hr, hml, hown, hts, hlk, hin, hP, hK, hD, hS, hA, hE, hl⟩ := hB
  have hl : lv_has ls 3 [(0, .ref x0), (1, .int (-1))] := hl
  have f39 := hts (.fieldLink RX10 39 "HiredEnemy" "scene" "LHiredEnemy$Scene;") (iwoX10_sign (k := 0) rfl)
  have inX10 : ∀ w ∈ wsX100, w ∈ wsX10_sign := innX10_sign_X10
  have f66 := hts (.fieldLink RX10 66 "HiredEnemy$Scene" "course" "LHiredEnemy$Course;") (iwoX10_sign (k := 1) rfl)
  have inX8 : ∀ w ∈ wsX80, w ∈ wsX10_sign := innX10_sign_X8
  have f111 := hts (.fieldLink RX10 111 "HiredEnemy$Course" "now" "[I") (iwoX10_sign (k := 2) rfl)
  have inX4 : ∀ w ∈ wsX40, w ∈ wsX10_sign := innX10_sign_X4
  refine lv_aload_n hx hb dX10_sign_0 rfl (lv_at hl 0 rfl) ?_
  refine lv_iload_n hx hb dX10_sign_1 rfl (lv_at hl 1 rfl) ?_
  refine he_cv (wc := []) (wr := [(oX10 x0 y0 ta z0 p0 dr pa to_ s0 im ki tr v0 rf), (oX8 s0 h0 a0 b0 e0), (oX4 h0 q0 q1 mo), (aI g q0 24 f)]) (va_runV (As := [.int (-1)]) (rest := []) ⟨hx, hb, hml, hown, hts⟩ (g_X10_demandCNn l g x0 H.size) (cwV 1 hts gX10_sign_X10_demandContractOrNone rfl rfl rfl (by decide +kernel) ⟨Nat.le_of_ble_eq_true rfl, Nat.le_of_ble_eq_true rfl⟩) (he_preV (wc := []) hK hP hD hS hA hE [] rfl rfl 0 rfl rfl) rfl rfl hl.1 rfl (lv_room (Nat.le_of_ble_eq_true rfl)) dX10_sign_2 ⟨(Nat.le_of_ble_eq_true rfl), (Nat.le_of_ble_eq_true rfl)⟩) hP hD hS hA [] [0, 1, 2, 3] rfl rfl rfl (by decide) (fun u_2 H locs h_3 hP hD hS => ?_)
  have hP : va_P g.1 vwCl [(oX10 x0 y0 ta z0 p0 dr pa to_ s0 im ki tr v0 rf), (oX8 s0 h0 a0 b0 e0), (oX4 h0 q0 q1 mo), (aI g q0 24 f)] H := hP
  have hD : va_D A [(oX10 x0 y0 ta z0 p0 dr pa to_ s0 im ki tr v0 rf), (oX8 s0 h0 a0 b0 e0), (oX4 h0 q0 q1 mo), (aI g q0 24 f)] := hD
  refine lv_aload_n hx hb dX10_sign_5 rfl (lv_at hl 0 rfl) ?_
  refine va_get (v := .ref s0) (T := TX10) (N := 13) hx hb hts inX10 hown hK hP 0 rfl rfl 7 (by decide) f39 (fun _ h9 => h9) rfl dX10_sign_6 ?_
  refine va_get (v := .ref h0) (T := TX8) (N := 4) hx hb hts inX8 hown hK hP 1 rfl rfl 0 (by decide) f66 (fun _ h9 => h9) rfl dX10_sign_9 ?_
  refine va_get (v := .ref q0) (T := TX4) (N := 3) hx hb hts inX4 hown hK hP 2 rfl rfl 0 (by decide) f111 (fun _ h9 => h9) rfl dX10_sign_12 ?_
  refine lv_bipush (v := 10) hx hb dX10_sign_15 (by decide) ?_
  refine he_iald hx hb hK hP 3 rfl (10) (by decide) (by decide) (by first | decide | assumption) (f 10) rfl dX10_sign_17 ?_
  refine lv_istore_n (lv' := [(2, .int (f 10)), (0, .ref x0), (1, .int (-1))]) hx hb dX10_sign_18 rfl hl (by decide) rfl (fun ls hl => ?_)
  refine lv_aload_n hx hb dX10_sign_19 rfl (lv_at hl 1 rfl) ?_
  refine va_get (v := .ref s0) (T := TX10) (N := 13) hx hb hts inX10 hown hK hP 0 rfl rfl 7 (by decide) f39 (fun _ h9 => h9) rfl dX10_sign_20 ?_
  refine va_get (v := .ref h0) (T := TX8) (N := 4) hx hb hts inX8 hown hK hP 1 rfl rfl 0 (by decide) f66 (fun _ h9 => h9) rfl dX10_sign_23 ?_
  refine lv_iload_n hx hb dX10_sign_26 rfl (lv_at hl 2 rfl) ?_
  refine he_cv (wc := [(oX4 h0 q0 q1 mo), (aI g q0 24 f)]) (wr := [(oX10 x0 y0 ta z0 p0 dr pa to_ s0 im ki tr v0 rf), (oX8 s0 h0 a0 b0 e0)]) (va_runV (As := [.int (-1)]) (rest := []) ⟨hx, hb, hml, hown, hts⟩ (c_X4_pledge l g h0 q0 q1 mo f (-1) H.size) (cwV 1 hts gX10_sign_X4_pledge rfl rfl rfl (by decide +kernel) ⟨Nat.le_of_ble_eq_true rfl, Nat.le_of_ble_eq_true rfl⟩) (he_preV (wc := [(oX4 h0 q0 q1 mo), (aI g q0 24 f)]) hK hP hD hS hA hE [2, 3] rfl rfl 2 rfl rfl) rfl rfl hl.1 rfl (lv_room (Nat.le_of_ble_eq_true rfl)) dX10_sign_27 ⟨(Nat.le_of_ble_eq_true rfl), (Nat.le_of_ble_eq_true rfl)⟩) hP hD hS hA [2, 3] [0, 1] rfl rfl rfl (by decide) (fun u_5 H locs h_6 hP hD hS => ?_)
  have hP : va_P g.1 vwCl [(oX10 x0 y0 ta z0 p0 dr pa to_ s0 im ki tr v0 rf), (oX8 s0 h0 a0 b0 e0), (oX4 h0 q0 q1 mo), (aI g q0 24 (fcF f (-1) mo))] H := hP
  have hD : va_D A [(oX10 x0 y0 ta z0 p0 dr pa to_ s0 im ki tr v0 rf), (oX8 s0 h0 a0 b0 e0), (oX4 h0 q0 q1 mo), (aI g q0 24 (fcF f (-1) mo))] := hD
  refine lv_iload_n hx hb dX10_sign_30 rfl (lv_at hl 0 rfl) ?_
  exact he_ri hQ hx hb hr hlk hP hD hS dX10_sign_31 (Nat.le_of_ble_eq_true rfl) (Nat.le_of_ble_eq_true rfl) (()) (rfl) (rfl)
set_option maxHeartbeats 4000000 in
set_option maxRecDepth 100000 in
theorem g_X10_sign (l : Launch) (g : he_G) (x0 : Nat) (y0 : Nat) (z0 : Nat) (p0 : Nat) (dr : Nat) (pa : Nat) (s0 : Nat) (im : Nat) (tr : Nat) (v0 : Nat) (rf : Nat) (ta : Int32) (to_ : Int32) (ki : Int32) (a0 : Nat) (b0 : Nat) (e0 : Nat) (h0 : Nat) (q0 : Nat) (q1 : Nat) (mo : Int32) (f : Nat → Int32) (x : Int32) (hyes : ¬ he_within x 0 (to_ - 1) = 0) (hx1 : ¬ x = -1) : he_I l yX10_sign wsX10_sign 3 64 0 0 g [.ref x0, .int x] [(oX10 x0 y0 ta z0 p0 dr pa to_ s0 im ki tr v0 rf), (oX8 s0 h0 a0 b0 e0), (oX4 h0 q0 q1 mo), (aI g q0 24 f)] (fun (r : Int32) (u : Unit) => r = f 10) (fun (u : Unit) => [(oX10 x0 y0 ta z0 p0 dr pa to_ s0 im ki tr v0 rf), (oX8 s0 h0 a0 b0 e0), (oX4 h0 q0 q1 mo), (aI g q0 24 (fcF f x mo))]) := by
  refine he_begin (l := l) (g := g) (y := yX10_sign) (wl := wsX10_sign) (fr := 3) (lo := 64) (mc := 0) (ms := 0) (av := [.ref x0, .int x]) (ws := [(oX10 x0 y0 ta z0 p0 dr pa to_ s0 im ki tr v0 rf), (oX8 s0 h0 a0 b0 e0), (oX4 h0 q0 q1 mo), (aI g q0 24 f)]) (cc := cX10_sign) (maxL := 3) (ret := (some .int)) (fun A => va_Qi (fun (r : Int32) (u : Unit) => r = f 10) (fun u t => he_post g A ((fun (u : Unit) => [(oX10 x0 y0 ta z0 p0 dr pa to_ s0 im ki tr v0 rf), (oX8 s0 h0 a0 b0 e0), (oX4 h0 q0 q1 mo), (aI g q0 24 (fcF f x mo))]) u) t) A) (by decide) rfl (Nat.le_of_ble_eq_true rfl) ?_
  intro p e s m args below meth c A ls H locs Q hQ hB
  obtain ⟨hx, hb, hr, hml, hown, hts, hlk, hin, hP, hK, hD, hS, hA, hE, hl⟩ := hB
  have hl : lv_has ls 3 [(0, .ref x0), (1, .int x)] := hl
  have f39 := hts (.fieldLink RX10 39 "HiredEnemy" "scene" "LHiredEnemy$Scene;") (iwoX10_sign (k := 0) rfl)
  have inX10 : ∀ w ∈ wsX100, w ∈ wsX10_sign := innX10_sign_X10
  have f66 := hts (.fieldLink RX10 66 "HiredEnemy$Scene" "course" "LHiredEnemy$Course;") (iwoX10_sign (k := 1) rfl)
  have inX8 : ∀ w ∈ wsX80, w ∈ wsX10_sign := innX10_sign_X8
  have f111 := hts (.fieldLink RX10 111 "HiredEnemy$Course" "now" "[I") (iwoX10_sign (k := 2) rfl)
  have inX4 : ∀ w ∈ wsX40, w ∈ wsX10_sign := innX10_sign_X4
  refine lv_aload_n hx hb dX10_sign_0 rfl (lv_at hl 0 rfl) ?_
  refine lv_iload_n hx hb dX10_sign_1 rfl (lv_at hl 1 rfl) ?_
  refine he_cv (wc := [(oX10 x0 y0 ta z0 p0 dr pa to_ s0 im ki tr v0 rf)]) (wr := [(oX8 s0 h0 a0 b0 e0), (oX4 h0 q0 q1 mo), (aI g q0 24 f)]) (va_runV (As := [.int x]) (rest := []) ⟨hx, hb, hml, hown, hts⟩ (g_X10_demandCN1 l g x0 y0 z0 p0 dr pa s0 im tr v0 rf ta to_ ki x (by first | assumption | decide | omega) (by first | assumption | decide | omega) H.size) (cwV 1 hts gX10_sign_X10_demandContractOrNone rfl rfl rfl (by decide +kernel) ⟨Nat.le_of_ble_eq_true rfl, Nat.le_of_ble_eq_true rfl⟩) (he_preV (wc := [(oX10 x0 y0 ta z0 p0 dr pa to_ s0 im ki tr v0 rf)]) hK hP hD hS hA hE [0] rfl rfl 0 rfl rfl) rfl rfl hl.1 rfl (lv_room (Nat.le_of_ble_eq_true rfl)) dX10_sign_2 ⟨(Nat.le_of_ble_eq_true rfl), (Nat.le_of_ble_eq_true rfl)⟩) hP hD hS hA [0] [1, 2, 3] rfl rfl rfl (by decide) (fun u_2 H locs h_3 hP hD hS => ?_)
  have hP : va_P g.1 vwCl [(oX8 s0 h0 a0 b0 e0), (oX4 h0 q0 q1 mo), (aI g q0 24 f), (oX10 x0 y0 ta z0 p0 dr pa to_ s0 im ki tr v0 rf)] H := hP
  have hD : va_D A [(oX8 s0 h0 a0 b0 e0), (oX4 h0 q0 q1 mo), (aI g q0 24 f), (oX10 x0 y0 ta z0 p0 dr pa to_ s0 im ki tr v0 rf)] := hD
  refine lv_aload_n hx hb dX10_sign_5 rfl (lv_at hl 0 rfl) ?_
  refine va_get (v := .ref s0) (T := TX10) (N := 13) hx hb hts inX10 hown hK hP 3 rfl rfl 7 (by decide) f39 (fun _ h9 => h9) rfl dX10_sign_6 ?_
  refine va_get (v := .ref h0) (T := TX8) (N := 4) hx hb hts inX8 hown hK hP 0 rfl rfl 0 (by decide) f66 (fun _ h9 => h9) rfl dX10_sign_9 ?_
  refine va_get (v := .ref q0) (T := TX4) (N := 3) hx hb hts inX4 hown hK hP 1 rfl rfl 0 (by decide) f111 (fun _ h9 => h9) rfl dX10_sign_12 ?_
  refine lv_bipush (v := 10) hx hb dX10_sign_15 (by decide) ?_
  refine he_iald hx hb hK hP 2 rfl (10) (by decide) (by decide) (by first | decide | assumption) (f 10) rfl dX10_sign_17 ?_
  refine lv_istore_n (lv' := [(2, .int (f 10)), (0, .ref x0), (1, .int x)]) hx hb dX10_sign_18 rfl hl (by decide) rfl (fun ls hl => ?_)
  refine lv_aload_n hx hb dX10_sign_19 rfl (lv_at hl 1 rfl) ?_
  refine va_get (v := .ref s0) (T := TX10) (N := 13) hx hb hts inX10 hown hK hP 3 rfl rfl 7 (by decide) f39 (fun _ h9 => h9) rfl dX10_sign_20 ?_
  refine va_get (v := .ref h0) (T := TX8) (N := 4) hx hb hts inX8 hown hK hP 0 rfl rfl 0 (by decide) f66 (fun _ h9 => h9) rfl dX10_sign_23 ?_
  refine lv_iload_n hx hb dX10_sign_26 rfl (lv_at hl 2 rfl) ?_
  refine he_cv (wc := [(oX4 h0 q0 q1 mo), (aI g q0 24 f)]) (wr := [(oX8 s0 h0 a0 b0 e0), (oX10 x0 y0 ta z0 p0 dr pa to_ s0 im ki tr v0 rf)]) (va_runV (As := [.int x]) (rest := []) ⟨hx, hb, hml, hown, hts⟩ (c_X4_pledge l g h0 q0 q1 mo f x H.size) (cwV 1 hts gX10_sign_X4_pledge rfl rfl rfl (by decide +kernel) ⟨Nat.le_of_ble_eq_true rfl, Nat.le_of_ble_eq_true rfl⟩) (he_preV (wc := [(oX4 h0 q0 q1 mo), (aI g q0 24 f)]) hK hP hD hS hA hE [1, 2] rfl rfl 1 rfl rfl) rfl rfl hl.1 rfl (lv_room (Nat.le_of_ble_eq_true rfl)) dX10_sign_27 ⟨(Nat.le_of_ble_eq_true rfl), (Nat.le_of_ble_eq_true rfl)⟩) hP hD hS hA [1, 2] [0, 3] rfl rfl rfl (by decide) (fun u_5 H locs h_6 hP hD hS => ?_)
  have hP : va_P g.1 vwCl [(oX8 s0 h0 a0 b0 e0), (oX10 x0 y0 ta z0 p0 dr pa to_ s0 im ki tr v0 rf), (oX4 h0 q0 q1 mo), (aI g q0 24 (fcF f x mo))] H := hP
  have hD : va_D A [(oX8 s0 h0 a0 b0 e0), (oX10 x0 y0 ta z0 p0 dr pa to_ s0 im ki tr v0 rf), (oX4 h0 q0 q1 mo), (aI g q0 24 (fcF f x mo))] := hD
  refine lv_iload_n hx hb dX10_sign_30 rfl (lv_at hl 0 rfl) ?_
  have hP := hP.sub (ws' := [(oX10 x0 y0 ta z0 p0 dr pa to_ s0 im ki tr v0 rf), (oX8 s0 h0 a0 b0 e0), (oX4 h0 q0 q1 mo), (aI g q0 24 (fcF f x mo))]) [1, 0, 2, 3] rfl
  have hD := hD.sub (ws' := [(oX10 x0 y0 ta z0 p0 dr pa to_ s0 im ki tr v0 rf), (oX8 s0 h0 a0 b0 e0), (oX4 h0 q0 q1 mo), (aI g q0 24 (fcF f x mo))]) [1, 0, 2, 3] (by decide) rfl
  exact he_ri hQ hx hb hr hlk hP hD hS dX10_sign_31 (Nat.le_of_ble_eq_true rfl) (Nat.le_of_ble_eq_true rfl) (()) (rfl) (rfl)
set_option maxHeartbeats 4000000 in
set_option maxRecDepth 100000 in
theorem g_X10_undo (l : Launch) (g : he_G) (x0 : Nat) (y0 : Nat) (z0 : Nat) (p0 : Nat) (dr : Nat) (pa : Nat) (s0 : Nat) (im : Nat) (tr : Nat) (v0 : Nat) (rf : Nat) (ta : Int32) (to_ : Int32) (ki : Int32) (a0 : Nat) (b0 : Nat) (e0 : Nat) (h0 : Nat) (q0 : Nat) (q1 : Nat) (k : Nat) (a1 : Nat) (f : Nat → Int32) (ln : Nat → Int32) (n : Nat) (hn1 : 1 ≤ n) (hn2 : n ≤ 120) (hk : k ≤ 120) : he_I l yX10_undo wsX10_undo 2 44 0 0 g [.ref x0, .int (nI n)] [(oX10 x0 y0 ta z0 p0 dr pa to_ s0 im ki tr v0 rf), (oX8 s0 h0 a0 b0 e0), (oX4 h0 q0 q1 (nI k)), (aI g q0 24 f), (oX0 a0 a1), (aI g a1 3600 ln)] (fun (r : Int32) (u : Nat × (Nat → Int32)) => u.1 = k - min n k ∧ r = nI (k - u.1) ∧ ((u.1 = k ∧ u.2 = f) ∨ (u.1 < k ∧ u.2 = va_cpy ln f (u.1 * 30) 0 24))) (fun (u : Nat × (Nat → Int32)) => [(oX10 x0 y0 ta z0 p0 dr pa to_ s0 im ki tr v0 rf), (oX8 s0 h0 a0 b0 e0), (oX4 h0 q0 q1 (nI u.1)), (aI g q0 24 u.2), (oX0 a0 a1), (aI g a1 3600 ln)]) := by
  refine he_begin (l := l) (g := g) (y := yX10_undo) (wl := wsX10_undo) (fr := 2) (lo := 44) (mc := 0) (ms := 0) (av := [.ref x0, .int (nI n)]) (ws := [(oX10 x0 y0 ta z0 p0 dr pa to_ s0 im ki tr v0 rf), (oX8 s0 h0 a0 b0 e0), (oX4 h0 q0 q1 (nI k)), (aI g q0 24 f), (oX0 a0 a1), (aI g a1 3600 ln)]) (cc := cX10_undo) (maxL := 3) (ret := (some .int)) (fun A => va_Qi (fun (r : Int32) (u : Nat × (Nat → Int32)) => u.1 = k - min n k ∧ r = nI (k - u.1) ∧ ((u.1 = k ∧ u.2 = f) ∨ (u.1 < k ∧ u.2 = va_cpy ln f (u.1 * 30) 0 24))) (fun u t => he_post g A ((fun (u : Nat × (Nat → Int32)) => [(oX10 x0 y0 ta z0 p0 dr pa to_ s0 im ki tr v0 rf), (oX8 s0 h0 a0 b0 e0), (oX4 h0 q0 q1 (nI u.1)), (aI g q0 24 u.2), (oX0 a0 a1), (aI g a1 3600 ln)]) u) t) A) (by decide) rfl (Nat.le_of_ble_eq_true rfl) ?_
  intro p e s m args below meth c A ls H locs Q hQ hB
  obtain ⟨hx, hb, hr, hml, hown, hts, hlk, hin, hP, hK, hD, hS, hA, hE, hl⟩ := hB
  have hl : lv_has ls 3 [(0, .ref x0), (1, .int (nI n))] := hl
  have f39 := hts (.fieldLink RX10 39 "HiredEnemy" "scene" "LHiredEnemy$Scene;") (iwoX10_undo (k := 0) rfl)
  have inX10 : ∀ w ∈ wsX100, w ∈ wsX10_undo := innX10_undo_X10
  have f66 := hts (.fieldLink RX10 66 "HiredEnemy$Scene" "course" "LHiredEnemy$Course;") (iwoX10_undo (k := 1) rfl)
  have inX8 : ∀ w ∈ wsX80, w ∈ wsX10_undo := innX10_undo_X8
  have f114 := hts (.fieldLink RX10 114 "HiredEnemy$Course" "month" "I") (iwoX10_undo (k := 2) rfl)
  have inX4 : ∀ w ∈ wsX40, w ∈ wsX10_undo := innX10_undo_X4
  have ml164 := hts (.methodLink RX10 164 Lib.Math.min.name) (iwoX10_undo (k := 3) rfl)
  have msmin := hts (.static Lib.Math.min.name) (iwoX10_undo (k := 4) rfl)
  have mi := hts (.initialized "java/lang/Math") (iwoX10_undo (k := 5) rfl)
  have mcmin := hts (.code Lib.Math.min.name Lib.Math.min.code 2 (some .int)) (iwoX10_undo (k := 6) rfl)
  have f143 := hts (.fieldLink RX10 143 "HiredEnemy$Scene" "annals" "LHiredEnemy$Annals;") (iwoX10_undo (k := 7) rfl)
  refine lv_aload_n hx hb dX10_undo_0 rfl (lv_at hl 0 rfl) ?_
  refine lv_iload_n hx hb dX10_undo_1 rfl (lv_at hl 1 rfl) ?_
  refine lv_iconst (v := 1) hx hb dX10_undo_2 (by decide) ?_
  refine lv_bipush (v := 120) hx hb dX10_undo_3 (by decide) ?_
  refine he_ci (wc := []) (wr := [(oX10 x0 y0 ta z0 p0 dr pa to_ s0 im ki tr v0 rf), (oX8 s0 h0 a0 b0 e0), (oX4 h0 q0 q1 (nI k)), (aI g q0 24 f), (oX0 a0 a1), (aI g a1 3600 ln)]) (va_runS (As := [.int (nI n), .int 1, .int 120]) (rest := [.ref x0]) ⟨hx, hb, hml, hown, hts⟩ (c_X10_within l g (nI n) 1 120 H.size) (va_cwS 3 hts gX10_undo_X10_within rfl rfl rfl (by decide +kernel) ⟨Nat.le_of_ble_eq_true rfl, Nat.le_of_ble_eq_true rfl⟩) (he_preS (wc := []) hK hP hD hS hA hE [] rfl rfl) rfl rfl hl.1 rfl (lv_room (Nat.le_of_ble_eq_true rfl)) dX10_undo_5 ⟨(Nat.le_of_ble_eq_true rfl), (Nat.le_of_ble_eq_true rfl)⟩) hP hD hS hA [] [0, 1, 2, 3, 4, 5] rfl rfl rfl (by decide) (fun r_1 u_2 H locs h_3 hP hD hS => ?_)
  subst h_3
  have hP : va_P g.1 vwCl [(oX10 x0 y0 ta z0 p0 dr pa to_ s0 im ki tr v0 rf), (oX8 s0 h0 a0 b0 e0), (oX4 h0 q0 q1 (nI k)), (aI g q0 24 f), (oX0 a0 a1), (aI g a1 3600 ln)] H := hP
  have hD : va_D A [(oX10 x0 y0 ta z0 p0 dr pa to_ s0 im ki tr v0 rf), (oX8 s0 h0 a0 b0 e0), (oX4 h0 q0 q1 (nI k)), (aI g q0 24 f), (oX0 a0 a1), (aI g a1 3600 ln)] := hD
  refine he_top (1) (he_within_in (a0 := 1) (B := 120) rfl rfl (by omega) (by omega) (by decide)) ?_
  refine he_cv (wc := []) (wr := [(oX10 x0 y0 ta z0 p0 dr pa to_ s0 im ki tr v0 rf), (oX8 s0 h0 a0 b0 e0), (oX4 h0 q0 q1 (nI k)), (aI g q0 24 f), (oX0 a0 a1), (aI g a1 3600 ln)]) (va_runV (As := [.int 1]) (rest := []) ⟨hx, hb, hml, hown, hts⟩ (c_X10_demand1 l g x0 H.size) (cwV 1 hts gX10_undo_X10_demand rfl rfl rfl (by decide +kernel) ⟨Nat.le_of_ble_eq_true rfl, Nat.le_of_ble_eq_true rfl⟩) (he_preV (wc := []) hK hP hD hS hA hE [] rfl rfl 0 rfl rfl) rfl rfl hl.1 rfl (lv_room (Nat.le_of_ble_eq_true rfl)) dX10_undo_8 ⟨(Nat.le_of_ble_eq_true rfl), (Nat.le_of_ble_eq_true rfl)⟩) hP hD hS hA [] [0, 1, 2, 3, 4, 5] rfl rfl rfl (by decide) (fun u_5 H locs h_6 hP hD hS => ?_)
  have hP : va_P g.1 vwCl [(oX10 x0 y0 ta z0 p0 dr pa to_ s0 im ki tr v0 rf), (oX8 s0 h0 a0 b0 e0), (oX4 h0 q0 q1 (nI k)), (aI g q0 24 f), (oX0 a0 a1), (aI g a1 3600 ln)] H := hP
  have hD : va_D A [(oX10 x0 y0 ta z0 p0 dr pa to_ s0 im ki tr v0 rf), (oX8 s0 h0 a0 b0 e0), (oX4 h0 q0 q1 (nI k)), (aI g q0 24 f), (oX0 a0 a1), (aI g a1 3600 ln)] := hD
  refine lv_iload_n hx hb dX10_undo_11 rfl (lv_at hl 1 rfl) ?_
  refine lv_aload_n hx hb dX10_undo_12 rfl (lv_at hl 0 rfl) ?_
  refine va_get (v := .ref s0) (T := TX10) (N := 13) hx hb hts inX10 hown hK hP 0 rfl rfl 7 (by decide) f39 (fun _ h9 => h9) rfl dX10_undo_13 ?_
  refine va_get (v := .ref h0) (T := TX8) (N := 4) hx hb hts inX8 hown hK hP 1 rfl rfl 0 (by decide) f66 (fun _ h9 => h9) rfl dX10_undo_16 ?_
  refine va_get (v := .int (nI k)) (T := TX4) (N := 3) hx hb hts inX4 hown hK hP 2 rfl rfl 2 (by decide) f114 (fun _ h9 => h9) rfl dX10_undo_19 ?_
  refine va_mmin hx hb (by rw [hml]; exact hl.1.symm) hown ml164 msmin mi mcmin (by decide) (Nat.le_of_ble_eq_true rfl) (Nat.le_of_ble_eq_true rfl) (Nat.le_of_ble_eq_true rfl) dX10_undo_22 ?_
  refine he_top (nI (min n k)) (nI_min (by omega) (by omega)) ?_
  refine lv_istore_n (lv' := [(2, .int (nI (min n k))), (0, .ref x0), (1, .int (nI n))]) hx hb dX10_undo_25 rfl hl (by decide) rfl (fun ls hl => ?_)
  refine lv_iload_n hx hb dX10_undo_26 rfl (lv_at hl 0 rfl) ?_
  refine lv_if_le (tgt := 59) hx hb dX10_undo_27 (by decide) (fun c_7 => ?_) (fun c_7 => ?_)
  · have h27 : min n k = 0 := by have := he_cle (x := nI (min n k)) (y := 0) (a := min n k) (b := 0) rfl (by decide) (by omega) (by decide); have := this.mp c_7; omega
    refine lv_iload_n hx hb dX10_undo_59 rfl (lv_at hl 0 rfl) ?_
    exact he_ri hQ hx hb hr hlk hP hD hS dX10_undo_60 (Nat.le_of_ble_eq_true rfl) (Nat.le_of_ble_eq_true rfl) ((k, f)) (rfl) (⟨by first | rfl | (dsimp only; omega) | omega, congrArg nI (by first | rfl | (dsimp only; omega) | omega), Or.inl ⟨rfl, rfl⟩⟩)
  · have h27 : 0 < min n k := by have := he_cle (x := nI (min n k)) (y := 0) (a := min n k) (b := 0) rfl (by decide) (by omega) (by decide); exact Nat.pos_of_ne_zero (fun h8 => c_7 (this.mpr (by omega)))
    refine lv_aload_n hx hb dX10_undo_30 rfl (lv_at hl 1 rfl) ?_
    refine va_get (v := .ref s0) (T := TX10) (N := 13) hx hb hts inX10 hown hK hP 0 rfl rfl 7 (by decide) f39 (fun _ h9 => h9) rfl dX10_undo_31 ?_
    refine va_get (v := .ref a0) (T := TX8) (N := 4) hx hb hts inX8 hown hK hP 1 rfl rfl 1 (by decide) f143 (fun _ h9 => h9) rfl dX10_undo_34 ?_
    refine lv_aload_n hx hb dX10_undo_37 rfl (lv_at hl 1 rfl) ?_
    refine va_get (v := .ref s0) (T := TX10) (N := 13) hx hb hts inX10 hown hK hP 0 rfl rfl 7 (by decide) f39 (fun _ h9 => h9) rfl dX10_undo_38 ?_
    refine va_get (v := .ref h0) (T := TX8) (N := 4) hx hb hts inX8 hown hK hP 1 rfl rfl 0 (by decide) f66 (fun _ h9 => h9) rfl dX10_undo_41 ?_
    refine lv_aload_n hx hb dX10_undo_44 rfl (lv_at hl 1 rfl) ?_
    refine va_get (v := .ref s0) (T := TX10) (N := 13) hx hb hts inX10 hown hK hP 0 rfl rfl 7 (by decide) f39 (fun _ h9 => h9) rfl dX10_undo_45 ?_
    refine va_get (v := .ref h0) (T := TX8) (N := 4) hx hb hts inX8 hown hK hP 1 rfl rfl 0 (by decide) f66 (fun _ h9 => h9) rfl dX10_undo_48 ?_
    refine va_get (v := .int (nI k)) (T := TX4) (N := 3) hx hb hts inX4 hown hK hP 2 rfl rfl 2 (by decide) f114 (fun _ h9 => h9) rfl dX10_undo_51 ?_
    refine lv_iload_n hx hb dX10_undo_54 rfl (lv_at hl 0 rfl) ?_
    refine lv_isub hx hb dX10_undo_55 ?_
    refine he_top (nI (k - min n k)) (pk_sub (by omega)) ?_
    refine he_cv (wc := [(oX0 a0 a1), (aI g a1 3600 ln), (oX4 h0 q0 q1 (nI k)), (aI g q0 24 f)]) (wr := [(oX10 x0 y0 ta z0 p0 dr pa to_ s0 im ki tr v0 rf), (oX8 s0 h0 a0 b0 e0)]) (va_runV (As := [.ref h0, .int (nI (k - min n k))]) (rest := []) ⟨hx, hb, hml, hown, hts⟩ (g_X0_giveBack l g a0 a1 ln h0 q0 q1 (nI k) (k - min n k) f (by first | assumption | decide | omega) H.size) (cwV 2 hts gX10_undo_X0_giveBack rfl rfl rfl (by decide +kernel) ⟨Nat.le_of_ble_eq_true rfl, Nat.le_of_ble_eq_true rfl⟩) (he_preV (wc := [(oX0 a0 a1), (aI g a1 3600 ln), (oX4 h0 q0 q1 (nI k)), (aI g q0 24 f)]) hK hP hD hS hA hE [4, 5, 2, 3] rfl rfl 4 rfl rfl) rfl rfl hl.1 rfl (lv_room (Nat.le_of_ble_eq_true rfl)) dX10_undo_56 ⟨(Nat.le_of_ble_eq_true rfl), (Nat.le_of_ble_eq_true rfl)⟩) hP hD hS hA [4, 5, 2, 3] [0, 1] rfl rfl rfl (by decide) (fun u_9 H locs h_10 hP hD hS => ?_)
    have hP : va_P g.1 vwCl [(oX10 x0 y0 ta z0 p0 dr pa to_ s0 im ki tr v0 rf), (oX8 s0 h0 a0 b0 e0), (oX0 a0 a1), (aI g a1 3600 ln), (oX4 h0 q0 q1 (nI (k - min n k))), (aI g q0 24 (va_cpy ln f ((k - min n k) * 30) 0 24))] H := hP
    have hD : va_D A [(oX10 x0 y0 ta z0 p0 dr pa to_ s0 im ki tr v0 rf), (oX8 s0 h0 a0 b0 e0), (oX0 a0 a1), (aI g a1 3600 ln), (oX4 h0 q0 q1 (nI (k - min n k))), (aI g q0 24 (va_cpy ln f ((k - min n k) * 30) 0 24))] := hD
    refine lv_iload_n hx hb dX10_undo_59 rfl (lv_at hl 0 rfl) ?_
    have hP := hP.sub (ws' := [(oX10 x0 y0 ta z0 p0 dr pa to_ s0 im ki tr v0 rf), (oX8 s0 h0 a0 b0 e0), (oX4 h0 q0 q1 (nI (k - min n k))), (aI g q0 24 (va_cpy ln f ((k - min n k) * 30) 0 24)), (oX0 a0 a1), (aI g a1 3600 ln)]) [0, 1, 4, 5, 2, 3] rfl
    have hD := hD.sub (ws' := [(oX10 x0 y0 ta z0 p0 dr pa to_ s0 im ki tr v0 rf), (oX8 s0 h0 a0 b0 e0), (oX4 h0 q0 q1 (nI (k - min n k))), (aI g q0 24 (va_cpy ln f ((k - min n k) * 30) 0 24)), (oX0 a0 a1), (aI g a1 3600 ln)]) [0, 1, 4, 5, 2, 3] (by decide) rfl
    exact he_ri hQ hx hb hr hlk hP hD hS dX10_undo_60 (Nat.le_of_ble_eq_true rfl) (Nat.le_of_ble_eq_true rfl) (((k - min n k), va_cpy ln f ((k - min n k) * 30) 0 24)) (rfl) (⟨by first | rfl | (dsimp only; omega) | omega, congrArg nI (by first | rfl | (dsimp only; omega) | omega), Or.inr ⟨by (try dsimp only); omega, rfl⟩⟩)
set_option maxHeartbeats 4000000 in
set_option maxRecDepth 100000 in
theorem g_X10_sums (l : Launch) (g : he_G) (x0 : Nat) (y0 : Nat) (z0 : Nat) (p0 : Nat) (dr : Nat) (pa : Nat) (s0 : Nat) (im : Nat) (tr : Nat) (v0 : Nat) (rf : Nat) (ta : Int32) (to_ : Int32) (ki : Int32) (a0 : Nat) (b0 : Nat) (e0 : Nat) (h0 : Nat) (q0 : Nat) (q1 : Nat) (mo : Int32) (f : Nat → Int32) (x : Int32) (hok0 : ¬ he_within x 0 9 = 0) : he_I l yX10_sums wsX10_sums 1 22 0 0 g [.ref x0, .int x] [(oX10 x0 y0 ta z0 p0 dr pa to_ s0 im ki tr v0 rf), (oX8 s0 h0 a0 b0 e0), (oX4 h0 q0 q1 mo), (aI g q0 24 f)] (fun (r : Int32) (u : Unit) => r = f x.toNatClampNeg) (fun (u : Unit) => [(oX10 x0 y0 ta z0 p0 dr pa to_ s0 im ki tr v0 rf), (oX8 s0 h0 a0 b0 e0), (oX4 h0 q0 q1 mo), (aI g q0 24 f)]) := by
  refine he_begin (l := l) (g := g) (y := yX10_sums) (wl := wsX10_sums) (fr := 1) (lo := 22) (mc := 0) (ms := 0) (av := [.ref x0, .int x]) (ws := [(oX10 x0 y0 ta z0 p0 dr pa to_ s0 im ki tr v0 rf), (oX8 s0 h0 a0 b0 e0), (oX4 h0 q0 q1 mo), (aI g q0 24 f)]) (cc := cX10_sums) (maxL := 2) (ret := (some .int)) (fun A => va_Qi (fun (r : Int32) (u : Unit) => r = f x.toNatClampNeg) (fun u t => he_post g A ((fun (u : Unit) => [(oX10 x0 y0 ta z0 p0 dr pa to_ s0 im ki tr v0 rf), (oX8 s0 h0 a0 b0 e0), (oX4 h0 q0 q1 mo), (aI g q0 24 f)]) u) t) A) (by decide) rfl (Nat.le_of_ble_eq_true rfl) ?_
  intro p e s m args below meth c A ls H locs Q hQ hB
  obtain ⟨hx, hb, hr, hml, hown, hts, hlk, hin, hP, hK, hD, hS, hA, hE, hl⟩ := hB
  have hl : lv_has ls 2 [(0, .ref x0), (1, .int x)] := hl
  have f39 := hts (.fieldLink RX10 39 "HiredEnemy" "scene" "LHiredEnemy$Scene;") (iwoX10_sums (k := 0) rfl)
  have inX10 : ∀ w ∈ wsX100, w ∈ wsX10_sums := innX10_sums_X10
  have f66 := hts (.fieldLink RX10 66 "HiredEnemy$Scene" "course" "LHiredEnemy$Course;") (iwoX10_sums (k := 1) rfl)
  have inX8 : ∀ w ∈ wsX80, w ∈ wsX10_sums := innX10_sums_X8
  have f111 := hts (.fieldLink RX10 111 "HiredEnemy$Course" "now" "[I") (iwoX10_sums (k := 2) rfl)
  have inX4 : ∀ w ∈ wsX40, w ∈ wsX10_sums := innX10_sums_X4
  refine lv_aload_n hx hb dX10_sums_0 rfl (lv_at hl 0 rfl) ?_
  refine lv_iload_n hx hb dX10_sums_1 rfl (lv_at hl 1 rfl) ?_
  refine lv_iconst (v := 0) hx hb dX10_sums_2 (by decide) ?_
  refine lv_bipush (v := 9) hx hb dX10_sums_3 (by decide) ?_
  refine he_ci (wc := []) (wr := [(oX10 x0 y0 ta z0 p0 dr pa to_ s0 im ki tr v0 rf), (oX8 s0 h0 a0 b0 e0), (oX4 h0 q0 q1 mo), (aI g q0 24 f)]) (va_runS (As := [.int x, .int 0, .int 9]) (rest := [.ref x0]) ⟨hx, hb, hml, hown, hts⟩ (c_X10_within l g x 0 9 H.size) (va_cwS 3 hts gX10_sums_X10_within rfl rfl rfl (by decide +kernel) ⟨Nat.le_of_ble_eq_true rfl, Nat.le_of_ble_eq_true rfl⟩) (he_preS (wc := []) hK hP hD hS hA hE [] rfl rfl) rfl rfl hl.1 rfl (lv_room (Nat.le_of_ble_eq_true rfl)) dX10_sums_5 ⟨(Nat.le_of_ble_eq_true rfl), (Nat.le_of_ble_eq_true rfl)⟩) hP hD hS hA [] [0, 1, 2, 3] rfl rfl rfl (by decide) (fun r_1 u_2 H locs h_3 hP hD hS => ?_)
  subst h_3
  have hP : va_P g.1 vwCl [(oX10 x0 y0 ta z0 p0 dr pa to_ s0 im ki tr v0 rf), (oX8 s0 h0 a0 b0 e0), (oX4 h0 q0 q1 mo), (aI g q0 24 f)] H := hP
  have hD : va_D A [(oX10 x0 y0 ta z0 p0 dr pa to_ s0 im ki tr v0 rf), (oX8 s0 h0 a0 b0 e0), (oX4 h0 q0 q1 mo), (aI g q0 24 f)] := hD
  refine he_top (1) (he_within_1 hok0) ?_
  refine he_cv (wc := []) (wr := [(oX10 x0 y0 ta z0 p0 dr pa to_ s0 im ki tr v0 rf), (oX8 s0 h0 a0 b0 e0), (oX4 h0 q0 q1 mo), (aI g q0 24 f)]) (va_runV (As := [.int 1]) (rest := []) ⟨hx, hb, hml, hown, hts⟩ (c_X10_demand1 l g x0 H.size) (cwV 1 hts gX10_sums_X10_demand rfl rfl rfl (by decide +kernel) ⟨Nat.le_of_ble_eq_true rfl, Nat.le_of_ble_eq_true rfl⟩) (he_preV (wc := []) hK hP hD hS hA hE [] rfl rfl 0 rfl rfl) rfl rfl hl.1 rfl (lv_room (Nat.le_of_ble_eq_true rfl)) dX10_sums_8 ⟨(Nat.le_of_ble_eq_true rfl), (Nat.le_of_ble_eq_true rfl)⟩) hP hD hS hA [] [0, 1, 2, 3] rfl rfl rfl (by decide) (fun u_5 H locs h_6 hP hD hS => ?_)
  have hP : va_P g.1 vwCl [(oX10 x0 y0 ta z0 p0 dr pa to_ s0 im ki tr v0 rf), (oX8 s0 h0 a0 b0 e0), (oX4 h0 q0 q1 mo), (aI g q0 24 f)] H := hP
  have hD : va_D A [(oX10 x0 y0 ta z0 p0 dr pa to_ s0 im ki tr v0 rf), (oX8 s0 h0 a0 b0 e0), (oX4 h0 q0 q1 mo), (aI g q0 24 f)] := hD
  refine lv_aload_n hx hb dX10_sums_11 rfl (lv_at hl 0 rfl) ?_
  refine va_get (v := .ref s0) (T := TX10) (N := 13) hx hb hts inX10 hown hK hP 0 rfl rfl 7 (by decide) f39 (fun _ h9 => h9) rfl dX10_sums_12 ?_
  refine va_get (v := .ref h0) (T := TX8) (N := 4) hx hb hts inX8 hown hK hP 1 rfl rfl 0 (by decide) f66 (fun _ h9 => h9) rfl dX10_sums_15 ?_
  refine va_get (v := .ref q0) (T := TX4) (N := 3) hx hb hts inX4 hown hK hP 2 rfl rfl 0 (by decide) f111 (fun _ h9 => h9) rfl dX10_sums_18 ?_
  refine lv_iload_n hx hb dX10_sums_21 rfl (lv_at hl 1 rfl) ?_
  refine he_iald hx hb hK hP 3 rfl (x.toNatClampNeg) (he_within_nat (B := 9) rfl (by decide) hok0).1 (Nat.lt_of_le_of_lt (he_within_nat (B := 9) rfl (by decide) hok0).2 (by decide)) (by first | decide | assumption) (f x.toNatClampNeg) rfl dX10_sums_22 ?_
  exact he_ri hQ hx hb hr hlk hP hD hS dX10_sums_23 (Nat.le_of_ble_eq_true rfl) (Nat.le_of_ble_eq_true rfl) (()) (rfl) (rfl)
set_option maxHeartbeats 4000000 in
set_option maxRecDepth 100000 in
theorem g_X10_would (l : Launch) (g : he_G) (x0 : Nat) (y0 : Nat) (z0 : Nat) (dr : Nat) (pa : Nat) (s0 : Nat) (im : Nat) (tr : Nat) (v0 : Nat) (rf : Nat) (nt : Nat) (ta : Int32) (ki : Int32) (p0 : Nat) (p1 : Nat) (p2 : Nat) (p3 : Nat) (p4 : Nat) (w : Nat) (sd : Nat → Int32) (fn : Nat → Int32) (st : Nat → Int32) (me : Nat → Int32) (a0 : Nat) (b0 : Nat) (e0 : Nat) (h0 : Nat) (q0 : Nat) (q1 : Nat) (mo : Int32) (f : Nat → Int32) (r0 : Nat) (r1 : Nat) (mo1 : Int32) (f1 : Nat → Int32) (sh : Nat → Int32) (n : Nat) (pf : Nat → Option Nat) (t0 : Nat) (t1 : Nat) (t2 : Nat) (pw : Int32) (pd : Nat → Int32) (wb : Nat → Int32) (ck : Nat) (ci : Nat) (x : Int32) (hw6 : w ≤ 6) (hwb : ∀ k, k < 36 → -1 ≤ wb k) (hck : pd 3 = nI ck) (hc99 : ck ≤ 99) (hc7 : ci < 7) (hpf : pf ci = some t0) (hn1 : 1 ≤ n) (hn2 : n ≤ 60) (hci : ci < nt) (hnt : nt ≤ 6) (hok0 : ¬ he_within x 0 9 = 0) : he_I l yX10_would wsX10_would 7 154 0 0 g [.ref x0, .int (nI ci), .int (nI n), .int x] [(oX10 x0 y0 ta z0 p0 dr pa (nI nt) s0 im ki tr v0 rf), (oX4 tr r0 r1 mo1), (aI g r0 24 f1), (aI g r1 6 sh), (oX6 p0 p1 p2 p3 p4 (nI w)), (aI g p1 24 sd), (aI g p2 10 fn), (aI g p3 6 st), (aI g p4 6 me), (aP g pa 7 pf), (oX5 t0 t1 t2 pw), (aI g t1 6 pd), (aI g t2 36 wb), (oX8 s0 h0 a0 b0 e0), (oX4 h0 q0 q1 mo), (aI g q0 24 f)] (fun (r : Int32) (u : Int32 × (Nat → Int32) × (Nat → Int32)) => True) (fun (u : Int32 × (Nat → Int32) × (Nat → Int32)) => [(oX10 x0 y0 ta z0 p0 dr pa (nI nt) s0 im ki tr v0 rf), (oX4 tr r0 r1 u.1), (aI g r0 24 u.2.1), (aI g r1 6 u.2.2), (oX6 p0 p1 p2 p3 p4 (nI w)), (aI g p1 24 sd), (aI g p2 10 fn), (aI g p3 6 st), (aI g p4 6 me), (aP g pa 7 pf), (oX5 t0 t1 t2 pw), (aI g t1 6 pd), (aI g t2 36 wb), (oX8 s0 h0 a0 b0 e0), (oX4 h0 q0 q1 mo), (aI g q0 24 f)]) := by
  refine he_begin (l := l) (g := g) (y := yX10_would) (wl := wsX10_would) (fr := 7) (lo := 154) (mc := 0) (ms := 0) (av := [.ref x0, .int (nI ci), .int (nI n), .int x]) (ws := [(oX10 x0 y0 ta z0 p0 dr pa (nI nt) s0 im ki tr v0 rf), (oX4 tr r0 r1 mo1), (aI g r0 24 f1), (aI g r1 6 sh), (oX6 p0 p1 p2 p3 p4 (nI w)), (aI g p1 24 sd), (aI g p2 10 fn), (aI g p3 6 st), (aI g p4 6 me), (aP g pa 7 pf), (oX5 t0 t1 t2 pw), (aI g t1 6 pd), (aI g t2 36 wb), (oX8 s0 h0 a0 b0 e0), (oX4 h0 q0 q1 mo), (aI g q0 24 f)]) (cc := cX10_would) (maxL := 4) (ret := (some .int)) (fun A => va_Qi (fun (r : Int32) (u : Int32 × (Nat → Int32) × (Nat → Int32)) => True) (fun u t => he_post g A ((fun (u : Int32 × (Nat → Int32) × (Nat → Int32)) => [(oX10 x0 y0 ta z0 p0 dr pa (nI nt) s0 im ki tr v0 rf), (oX4 tr r0 r1 u.1), (aI g r0 24 u.2.1), (aI g r1 6 u.2.2), (oX6 p0 p1 p2 p3 p4 (nI w)), (aI g p1 24 sd), (aI g p2 10 fn), (aI g p3 6 st), (aI g p4 6 me), (aP g pa 7 pf), (oX5 t0 t1 t2 pw), (aI g t1 6 pd), (aI g t2 36 wb), (oX8 s0 h0 a0 b0 e0), (oX4 h0 q0 q1 mo), (aI g q0 24 f)]) u) t) A) (by decide) rfl (Nat.le_of_ble_eq_true rfl) ?_
  intro p e s m args below meth c A ls H locs Q hQ hB
  obtain ⟨hx, hb, hr, hml, hown, hts, hlk, hin, hP, hK, hD, hS, hA, hE, hl⟩ := hB
  have hl : lv_has ls 4 [(0, .ref x0), (1, .int (nI ci)), (2, .int (nI n)), (3, .int x)] := hl
  have f50 := hts (.fieldLink RX10 50 "HiredEnemy" "trial" "LHiredEnemy$Course;") (iwoX10_would (k := 0) rfl)
  have inX10 : ∀ w ∈ wsX100, w ∈ wsX10_would := innX10_would_X10
  have f111 := hts (.fieldLink RX10 111 "HiredEnemy$Course" "now" "[I") (iwoX10_would (k := 1) rfl)
  have inX4 : ∀ w ∈ wsX40, w ∈ wsX10_would := innX10_would_X4
  refine lv_aload_n hx hb dX10_would_0 rfl (lv_at hl 0 rfl) ?_
  refine lv_iload_n hx hb dX10_would_1 rfl (lv_at hl 1 rfl) ?_
  refine he_cv (wc := [(oX10 x0 y0 ta z0 p0 dr pa (nI nt) s0 im ki tr v0 rf)]) (wr := [(oX4 tr r0 r1 mo1), (aI g r0 24 f1), (aI g r1 6 sh), (oX6 p0 p1 p2 p3 p4 (nI w)), (aI g p1 24 sd), (aI g p2 10 fn), (aI g p3 6 st), (aI g p4 6 me), (aP g pa 7 pf), (oX5 t0 t1 t2 pw), (aI g t1 6 pd), (aI g t2 36 wb), (oX8 s0 h0 a0 b0 e0), (oX4 h0 q0 q1 mo), (aI g q0 24 f)]) (va_runV (As := [.int (nI ci)]) (rest := []) ⟨hx, hb, hml, hown, hts⟩ (g_X10_demandCN1 l g x0 y0 z0 p0 dr pa s0 im tr v0 rf ta (nI nt) ki (nI ci) (wall_in hci (by omega)) (nI_nm1 (by omega)) H.size) (cwV 1 hts gX10_would_X10_demandContractOrNone rfl rfl rfl (by decide +kernel) ⟨Nat.le_of_ble_eq_true rfl, Nat.le_of_ble_eq_true rfl⟩) (he_preV (wc := [(oX10 x0 y0 ta z0 p0 dr pa (nI nt) s0 im ki tr v0 rf)]) hK hP hD hS hA hE [0] rfl rfl 0 rfl rfl) rfl rfl hl.1 rfl (lv_room (Nat.le_of_ble_eq_true rfl)) dX10_would_2 ⟨(Nat.le_of_ble_eq_true rfl), (Nat.le_of_ble_eq_true rfl)⟩) hP hD hS hA [0] [1, 2, 3, 4, 5, 6, 7, 8, 9, 10, 11, 12, 13, 14, 15] rfl rfl rfl (by decide) (fun u_2 H locs h_3 hP hD hS => ?_)
  have hP : va_P g.1 vwCl [(oX4 tr r0 r1 mo1), (aI g r0 24 f1), (aI g r1 6 sh), (oX6 p0 p1 p2 p3 p4 (nI w)), (aI g p1 24 sd), (aI g p2 10 fn), (aI g p3 6 st), (aI g p4 6 me), (aP g pa 7 pf), (oX5 t0 t1 t2 pw), (aI g t1 6 pd), (aI g t2 36 wb), (oX8 s0 h0 a0 b0 e0), (oX4 h0 q0 q1 mo), (aI g q0 24 f), (oX10 x0 y0 ta z0 p0 dr pa (nI nt) s0 im ki tr v0 rf)] H := hP
  have hD : va_D A [(oX4 tr r0 r1 mo1), (aI g r0 24 f1), (aI g r1 6 sh), (oX6 p0 p1 p2 p3 p4 (nI w)), (aI g p1 24 sd), (aI g p2 10 fn), (aI g p3 6 st), (aI g p4 6 me), (aP g pa 7 pf), (oX5 t0 t1 t2 pw), (aI g t1 6 pd), (aI g t2 36 wb), (oX8 s0 h0 a0 b0 e0), (oX4 h0 q0 q1 mo), (aI g q0 24 f), (oX10 x0 y0 ta z0 p0 dr pa (nI nt) s0 im ki tr v0 rf)] := hD
  refine lv_aload_n hx hb dX10_would_5 rfl (lv_at hl 0 rfl) ?_
  refine lv_iload_n hx hb dX10_would_6 rfl (lv_at hl 2 rfl) ?_
  refine lv_iconst (v := 1) hx hb dX10_would_7 (by decide) ?_
  refine lv_bipush (v := 60) hx hb dX10_would_8 (by decide) ?_
  refine he_ci (wc := []) (wr := [(oX4 tr r0 r1 mo1), (aI g r0 24 f1), (aI g r1 6 sh), (oX6 p0 p1 p2 p3 p4 (nI w)), (aI g p1 24 sd), (aI g p2 10 fn), (aI g p3 6 st), (aI g p4 6 me), (aP g pa 7 pf), (oX5 t0 t1 t2 pw), (aI g t1 6 pd), (aI g t2 36 wb), (oX8 s0 h0 a0 b0 e0), (oX4 h0 q0 q1 mo), (aI g q0 24 f), (oX10 x0 y0 ta z0 p0 dr pa (nI nt) s0 im ki tr v0 rf)]) (va_runS (As := [.int (nI n), .int 1, .int 60]) (rest := [.ref x0]) ⟨hx, hb, hml, hown, hts⟩ (c_X10_within l g (nI n) 1 60 H.size) (va_cwS 3 hts gX10_would_X10_within rfl rfl rfl (by decide +kernel) ⟨Nat.le_of_ble_eq_true rfl, Nat.le_of_ble_eq_true rfl⟩) (he_preS (wc := []) hK hP hD hS hA hE [] rfl rfl) rfl rfl hl.1 rfl (lv_room (Nat.le_of_ble_eq_true rfl)) dX10_would_10 ⟨(Nat.le_of_ble_eq_true rfl), (Nat.le_of_ble_eq_true rfl)⟩) hP hD hS hA [] [0, 1, 2, 3, 4, 5, 6, 7, 8, 9, 10, 11, 12, 13, 14, 15] rfl rfl rfl (by decide) (fun r_4 u_5 H locs h_6 hP hD hS => ?_)
  subst h_6
  have hP : va_P g.1 vwCl [(oX4 tr r0 r1 mo1), (aI g r0 24 f1), (aI g r1 6 sh), (oX6 p0 p1 p2 p3 p4 (nI w)), (aI g p1 24 sd), (aI g p2 10 fn), (aI g p3 6 st), (aI g p4 6 me), (aP g pa 7 pf), (oX5 t0 t1 t2 pw), (aI g t1 6 pd), (aI g t2 36 wb), (oX8 s0 h0 a0 b0 e0), (oX4 h0 q0 q1 mo), (aI g q0 24 f), (oX10 x0 y0 ta z0 p0 dr pa (nI nt) s0 im ki tr v0 rf)] H := hP
  have hD : va_D A [(oX4 tr r0 r1 mo1), (aI g r0 24 f1), (aI g r1 6 sh), (oX6 p0 p1 p2 p3 p4 (nI w)), (aI g p1 24 sd), (aI g p2 10 fn), (aI g p3 6 st), (aI g p4 6 me), (aP g pa 7 pf), (oX5 t0 t1 t2 pw), (aI g t1 6 pd), (aI g t2 36 wb), (oX8 s0 h0 a0 b0 e0), (oX4 h0 q0 q1 mo), (aI g q0 24 f), (oX10 x0 y0 ta z0 p0 dr pa (nI nt) s0 im ki tr v0 rf)] := hD
  refine he_top (1) (he_within_in (a0 := 1) (B := 60) rfl rfl (by omega) (by omega) (by decide)) ?_
  refine lv_if_eq (tgt := 30) hx hb dX10_would_13 (by decide) (fun c_7 => ?_) (fun c_7 => ?_)
  · exact absurd c_7 (by decide)
  · refine lv_iload_n hx hb dX10_would_16 rfl (lv_at hl 3 rfl) ?_
    refine lv_iconst (v := 0) hx hb dX10_would_17 (by decide) ?_
    refine lv_bipush (v := 9) hx hb dX10_would_18 (by decide) ?_
    refine he_ci (wc := []) (wr := [(oX4 tr r0 r1 mo1), (aI g r0 24 f1), (aI g r1 6 sh), (oX6 p0 p1 p2 p3 p4 (nI w)), (aI g p1 24 sd), (aI g p2 10 fn), (aI g p3 6 st), (aI g p4 6 me), (aP g pa 7 pf), (oX5 t0 t1 t2 pw), (aI g t1 6 pd), (aI g t2 36 wb), (oX8 s0 h0 a0 b0 e0), (oX4 h0 q0 q1 mo), (aI g q0 24 f), (oX10 x0 y0 ta z0 p0 dr pa (nI nt) s0 im ki tr v0 rf)]) (va_runS (As := [.int x, .int 0, .int 9]) (rest := [.ref x0]) ⟨hx, hb, hml, hown, hts⟩ (c_X10_within l g x 0 9 H.size) (va_cwS 3 hts gX10_would_X10_within rfl rfl rfl (by decide +kernel) ⟨Nat.le_of_ble_eq_true rfl, Nat.le_of_ble_eq_true rfl⟩) (he_preS (wc := []) hK hP hD hS hA hE [] rfl rfl) rfl rfl hl.1 rfl (lv_room (Nat.le_of_ble_eq_true rfl)) dX10_would_20 ⟨(Nat.le_of_ble_eq_true rfl), (Nat.le_of_ble_eq_true rfl)⟩) hP hD hS hA [] [0, 1, 2, 3, 4, 5, 6, 7, 8, 9, 10, 11, 12, 13, 14, 15] rfl rfl rfl (by decide) (fun r_8 u_9 H locs h_10 hP hD hS => ?_)
    subst h_10
    have hP : va_P g.1 vwCl [(oX4 tr r0 r1 mo1), (aI g r0 24 f1), (aI g r1 6 sh), (oX6 p0 p1 p2 p3 p4 (nI w)), (aI g p1 24 sd), (aI g p2 10 fn), (aI g p3 6 st), (aI g p4 6 me), (aP g pa 7 pf), (oX5 t0 t1 t2 pw), (aI g t1 6 pd), (aI g t2 36 wb), (oX8 s0 h0 a0 b0 e0), (oX4 h0 q0 q1 mo), (aI g q0 24 f), (oX10 x0 y0 ta z0 p0 dr pa (nI nt) s0 im ki tr v0 rf)] H := hP
    have hD : va_D A [(oX4 tr r0 r1 mo1), (aI g r0 24 f1), (aI g r1 6 sh), (oX6 p0 p1 p2 p3 p4 (nI w)), (aI g p1 24 sd), (aI g p2 10 fn), (aI g p3 6 st), (aI g p4 6 me), (aP g pa 7 pf), (oX5 t0 t1 t2 pw), (aI g t1 6 pd), (aI g t2 36 wb), (oX8 s0 h0 a0 b0 e0), (oX4 h0 q0 q1 mo), (aI g q0 24 f), (oX10 x0 y0 ta z0 p0 dr pa (nI nt) s0 im ki tr v0 rf)] := hD
    refine he_top (1) (he_within_1 hok0) ?_
    refine lv_if_eq (tgt := 30) hx hb dX10_would_23 (by decide) (fun c_11 => ?_) (fun c_11 => ?_)
    · exact absurd c_11 (by decide)
    · refine lv_iconst (v := 1) hx hb dX10_would_26 (by decide) ?_
      refine lv_goto (tgt := 31) hx hb dX10_would_27 (by decide) ?_
      refine he_cv (wc := []) (wr := [(oX4 tr r0 r1 mo1), (aI g r0 24 f1), (aI g r1 6 sh), (oX6 p0 p1 p2 p3 p4 (nI w)), (aI g p1 24 sd), (aI g p2 10 fn), (aI g p3 6 st), (aI g p4 6 me), (aP g pa 7 pf), (oX5 t0 t1 t2 pw), (aI g t1 6 pd), (aI g t2 36 wb), (oX8 s0 h0 a0 b0 e0), (oX4 h0 q0 q1 mo), (aI g q0 24 f), (oX10 x0 y0 ta z0 p0 dr pa (nI nt) s0 im ki tr v0 rf)]) (va_runV (As := [.int 1]) (rest := []) ⟨hx, hb, hml, hown, hts⟩ (c_X10_demand1 l g x0 H.size) (cwV 1 hts gX10_would_X10_demand rfl rfl rfl (by decide +kernel) ⟨Nat.le_of_ble_eq_true rfl, Nat.le_of_ble_eq_true rfl⟩) (he_preV (wc := []) hK hP hD hS hA hE [] rfl rfl 15 rfl rfl) rfl rfl hl.1 rfl (lv_room (Nat.le_of_ble_eq_true rfl)) dX10_would_31 ⟨(Nat.le_of_ble_eq_true rfl), (Nat.le_of_ble_eq_true rfl)⟩) hP hD hS hA [] [0, 1, 2, 3, 4, 5, 6, 7, 8, 9, 10, 11, 12, 13, 14, 15] rfl rfl rfl (by decide) (fun u_13 H locs h_14 hP hD hS => ?_)
      have hP : va_P g.1 vwCl [(oX4 tr r0 r1 mo1), (aI g r0 24 f1), (aI g r1 6 sh), (oX6 p0 p1 p2 p3 p4 (nI w)), (aI g p1 24 sd), (aI g p2 10 fn), (aI g p3 6 st), (aI g p4 6 me), (aP g pa 7 pf), (oX5 t0 t1 t2 pw), (aI g t1 6 pd), (aI g t2 36 wb), (oX8 s0 h0 a0 b0 e0), (oX4 h0 q0 q1 mo), (aI g q0 24 f), (oX10 x0 y0 ta z0 p0 dr pa (nI nt) s0 im ki tr v0 rf)] H := hP
      have hD : va_D A [(oX4 tr r0 r1 mo1), (aI g r0 24 f1), (aI g r1 6 sh), (oX6 p0 p1 p2 p3 p4 (nI w)), (aI g p1 24 sd), (aI g p2 10 fn), (aI g p3 6 st), (aI g p4 6 me), (aP g pa 7 pf), (oX5 t0 t1 t2 pw), (aI g t1 6 pd), (aI g t2 36 wb), (oX8 s0 h0 a0 b0 e0), (oX4 h0 q0 q1 mo), (aI g q0 24 f), (oX10 x0 y0 ta z0 p0 dr pa (nI nt) s0 im ki tr v0 rf)] := hD
      refine lv_aload_n hx hb dX10_would_34 rfl (lv_at hl 0 rfl) ?_
      refine lv_iload_n hx hb dX10_would_35 rfl (lv_at hl 1 rfl) ?_
      refine lv_iload_n hx hb dX10_would_36 rfl (lv_at hl 2 rfl) ?_
      refine he_ci (wc := [(oX10 x0 y0 ta z0 p0 dr pa (nI nt) s0 im ki tr v0 rf), (oX4 tr r0 r1 mo1), (aI g r0 24 f1), (aI g r1 6 sh), (oX6 p0 p1 p2 p3 p4 (nI w)), (aI g p1 24 sd), (aI g p2 10 fn), (aI g p3 6 st), (aI g p4 6 me), (aP g pa 7 pf), (oX5 t0 t1 t2 pw), (aI g t1 6 pd), (aI g t2 36 wb), (oX8 s0 h0 a0 b0 e0), (oX4 h0 q0 q1 mo), (aI g q0 24 f)]) (wr := []) (va_runV (As := [.int (nI ci), .int (nI n)]) (rest := []) ⟨hx, hb, hml, hown, hts⟩ (g_X10_trySigned l g x0 y0 z0 dr pa s0 im tr v0 rf ta (nI nt) ki p0 p1 p2 p3 p4 w sd fn st me a0 b0 e0 h0 q0 q1 mo f r0 r1 mo1 f1 sh n pf t0 t1 t2 pw pd wb ck ci (by first | assumption | decide | omega) (by first | assumption | decide | omega) (by first | assumption | decide | omega) (by first | assumption | decide | omega) (by first | assumption | decide | omega) (by first | assumption | decide | omega) hn2 H.size) (cwV 2 hts gX10_would_X10_trySigned rfl rfl rfl (by decide +kernel) ⟨Nat.le_of_ble_eq_true rfl, Nat.le_of_ble_eq_true rfl⟩) (he_preV (wc := [(oX10 x0 y0 ta z0 p0 dr pa (nI nt) s0 im ki tr v0 rf), (oX4 tr r0 r1 mo1), (aI g r0 24 f1), (aI g r1 6 sh), (oX6 p0 p1 p2 p3 p4 (nI w)), (aI g p1 24 sd), (aI g p2 10 fn), (aI g p3 6 st), (aI g p4 6 me), (aP g pa 7 pf), (oX5 t0 t1 t2 pw), (aI g t1 6 pd), (aI g t2 36 wb), (oX8 s0 h0 a0 b0 e0), (oX4 h0 q0 q1 mo), (aI g q0 24 f)]) hK hP hD hS hA hE [15, 0, 1, 2, 3, 4, 5, 6, 7, 8, 9, 10, 11, 12, 13, 14] rfl rfl 15 rfl rfl) rfl rfl hl.1 rfl (lv_room (Nat.le_of_ble_eq_true rfl)) dX10_would_37 ⟨(Nat.le_of_ble_eq_true rfl), (Nat.le_of_ble_eq_true rfl)⟩) hP hD hS hA [15, 0, 1, 2, 3, 4, 5, 6, 7, 8, 9, 10, 11, 12, 13, 14] [] rfl rfl rfl (by decide) (fun r_15 u_16 H locs h_17 hP hD hS => ?_)
      obtain ⟨um_18, uf_19, us_20⟩ := u_16
      have hP : va_P g.1 vwCl [(oX10 x0 y0 ta z0 p0 dr pa (nI nt) s0 im ki tr v0 rf), (oX4 tr r0 r1 um_18), (aI g r0 24 uf_19), (aI g r1 6 us_20), (oX6 p0 p1 p2 p3 p4 (nI w)), (aI g p1 24 sd), (aI g p2 10 fn), (aI g p3 6 st), (aI g p4 6 me), (aP g pa 7 pf), (oX5 t0 t1 t2 pw), (aI g t1 6 pd), (aI g t2 36 wb), (oX8 s0 h0 a0 b0 e0), (oX4 h0 q0 q1 mo), (aI g q0 24 f)] H := hP
      have hD : va_D A [(oX10 x0 y0 ta z0 p0 dr pa (nI nt) s0 im ki tr v0 rf), (oX4 tr r0 r1 um_18), (aI g r0 24 uf_19), (aI g r1 6 us_20), (oX6 p0 p1 p2 p3 p4 (nI w)), (aI g p1 24 sd), (aI g p2 10 fn), (aI g p3 6 st), (aI g p4 6 me), (aP g pa 7 pf), (oX5 t0 t1 t2 pw), (aI g t1 6 pd), (aI g t2 36 wb), (oX8 s0 h0 a0 b0 e0), (oX4 h0 q0 q1 mo), (aI g q0 24 f)] := hD
      refine lv_pop hx hb dX10_would_40 rfl ?_
      refine lv_aload_n hx hb dX10_would_41 rfl (lv_at hl 0 rfl) ?_
      refine va_get (v := .ref tr) (T := TX10) (N := 13) hx hb hts inX10 hown hK hP 0 rfl rfl 10 (by decide) f50 (fun _ h9 => h9) rfl dX10_would_42 ?_
      refine va_get (v := .ref r0) (T := TX4) (N := 3) hx hb hts inX4 hown hK hP 1 rfl rfl 0 (by decide) f111 (fun _ h9 => h9) rfl dX10_would_45 ?_
      refine lv_iload_n hx hb dX10_would_48 rfl (lv_at hl 3 rfl) ?_
      refine he_iald hx hb hK hP 2 rfl (x.toNatClampNeg) (he_within_nat (B := 9) rfl (by decide) hok0).1 (Nat.lt_of_le_of_lt (he_within_nat (B := 9) rfl (by decide) hok0).2 (by decide)) (by first | decide | assumption) (uf_19 x.toNatClampNeg) rfl dX10_would_49 ?_
      exact he_ri hQ hx hb hr hlk hP hD hS dX10_would_50 (Nat.le_of_ble_eq_true rfl) (Nat.le_of_ble_eq_true rfl) ((um_18, uf_19, us_20)) (rfl) (trivial)
set_option maxHeartbeats 4000000 in
set_option maxRecDepth 100000 in
theorem g_X10_wouldN (l : Launch) (g : he_G) (x0 : Nat) (y0 : Nat) (z0 : Nat) (dr : Nat) (pa : Nat) (s0 : Nat) (im : Nat) (tr : Nat) (v0 : Nat) (rf : Nat) (ta : Int32) (to_ : Int32) (ki : Int32) (p0 : Nat) (p1 : Nat) (p2 : Nat) (p3 : Nat) (p4 : Nat) (w : Nat) (sd : Nat → Int32) (st : Nat → Int32) (me : Nat → Int32) (a0 : Nat) (b0 : Nat) (e0 : Nat) (h0 : Nat) (q0 : Nat) (q1 : Nat) (mo : Int32) (f : Nat → Int32) (r0 : Nat) (r1 : Nat) (mo1 : Int32) (f1 : Nat → Int32) (sh : Nat → Int32) (n : Nat) (x : Int32) (hw6 : w ≤ 6) (hn1 : 1 ≤ n) (hn2 : n ≤ 60) (hok0 : ¬ he_within x 0 9 = 0) : he_I l yX10_would wsX10_would 6 127 0 0 g [.ref x0, .int (-1), .int (nI n), .int x] [(oX10 x0 y0 ta z0 p0 dr pa to_ s0 im ki tr v0 rf), (oX4 tr r0 r1 mo1), (aI g r0 24 f1), (aI g r1 6 sh), (oX6 p0 p1 p2 p3 p4 (nI w)), (aI g p1 24 sd), (aI g p3 6 st), (aI g p4 6 me), (oX8 s0 h0 a0 b0 e0), (oX4 h0 q0 q1 mo), (aI g q0 24 f)] (fun (r : Int32) (u : Int32 × (Nat → Int32) × (Nat → Int32)) => True) (fun (u : Int32 × (Nat → Int32) × (Nat → Int32)) => [(oX10 x0 y0 ta z0 p0 dr pa to_ s0 im ki tr v0 rf), (oX4 tr r0 r1 u.1), (aI g r0 24 u.2.1), (aI g r1 6 u.2.2), (oX6 p0 p1 p2 p3 p4 (nI w)), (aI g p1 24 sd), (aI g p3 6 st), (aI g p4 6 me), (oX8 s0 h0 a0 b0 e0), (oX4 h0 q0 q1 mo), (aI g q0 24 f)]) := by
  refine he_begin (l := l) (g := g) (y := yX10_would) (wl := wsX10_would) (fr := 6) (lo := 127) (mc := 0) (ms := 0) (av := [.ref x0, .int (-1), .int (nI n), .int x]) (ws := [(oX10 x0 y0 ta z0 p0 dr pa to_ s0 im ki tr v0 rf), (oX4 tr r0 r1 mo1), (aI g r0 24 f1), (aI g r1 6 sh), (oX6 p0 p1 p2 p3 p4 (nI w)), (aI g p1 24 sd), (aI g p3 6 st), (aI g p4 6 me), (oX8 s0 h0 a0 b0 e0), (oX4 h0 q0 q1 mo), (aI g q0 24 f)]) (cc := cX10_would) (maxL := 4) (ret := (some .int)) (fun A => va_Qi (fun (r : Int32) (u : Int32 × (Nat → Int32) × (Nat → Int32)) => True) (fun u t => he_post g A ((fun (u : Int32 × (Nat → Int32) × (Nat → Int32)) => [(oX10 x0 y0 ta z0 p0 dr pa to_ s0 im ki tr v0 rf), (oX4 tr r0 r1 u.1), (aI g r0 24 u.2.1), (aI g r1 6 u.2.2), (oX6 p0 p1 p2 p3 p4 (nI w)), (aI g p1 24 sd), (aI g p3 6 st), (aI g p4 6 me), (oX8 s0 h0 a0 b0 e0), (oX4 h0 q0 q1 mo), (aI g q0 24 f)]) u) t) A) (by decide) rfl (Nat.le_of_ble_eq_true rfl) ?_
  intro p e s m args below meth c A ls H locs Q hQ hB
  obtain ⟨hx, hb, hr, hml, hown, hts, hlk, hin, hP, hK, hD, hS, hA, hE, hl⟩ := hB
  have hl : lv_has ls 4 [(0, .ref x0), (1, .int (-1)), (2, .int (nI n)), (3, .int x)] := hl
  have f50 := hts (.fieldLink RX10 50 "HiredEnemy" "trial" "LHiredEnemy$Course;") (iwoX10_would (k := 0) rfl)
  have inX10 : ∀ w ∈ wsX100, w ∈ wsX10_would := innX10_would_X10
  have f111 := hts (.fieldLink RX10 111 "HiredEnemy$Course" "now" "[I") (iwoX10_would (k := 1) rfl)
  have inX4 : ∀ w ∈ wsX40, w ∈ wsX10_would := innX10_would_X4
  refine lv_aload_n hx hb dX10_would_0 rfl (lv_at hl 0 rfl) ?_
  refine lv_iload_n hx hb dX10_would_1 rfl (lv_at hl 1 rfl) ?_
  refine he_cv (wc := []) (wr := [(oX10 x0 y0 ta z0 p0 dr pa to_ s0 im ki tr v0 rf), (oX4 tr r0 r1 mo1), (aI g r0 24 f1), (aI g r1 6 sh), (oX6 p0 p1 p2 p3 p4 (nI w)), (aI g p1 24 sd), (aI g p3 6 st), (aI g p4 6 me), (oX8 s0 h0 a0 b0 e0), (oX4 h0 q0 q1 mo), (aI g q0 24 f)]) (va_runV (As := [.int (-1)]) (rest := []) ⟨hx, hb, hml, hown, hts⟩ (g_X10_demandCNn l g x0 H.size) (cwV 1 hts gX10_would_X10_demandContractOrNone rfl rfl rfl (by decide +kernel) ⟨Nat.le_of_ble_eq_true rfl, Nat.le_of_ble_eq_true rfl⟩) (he_preV (wc := []) hK hP hD hS hA hE [] rfl rfl 0 rfl rfl) rfl rfl hl.1 rfl (lv_room (Nat.le_of_ble_eq_true rfl)) dX10_would_2 ⟨(Nat.le_of_ble_eq_true rfl), (Nat.le_of_ble_eq_true rfl)⟩) hP hD hS hA [] [0, 1, 2, 3, 4, 5, 6, 7, 8, 9, 10] rfl rfl rfl (by decide) (fun u_2 H locs h_3 hP hD hS => ?_)
  have hP : va_P g.1 vwCl [(oX10 x0 y0 ta z0 p0 dr pa to_ s0 im ki tr v0 rf), (oX4 tr r0 r1 mo1), (aI g r0 24 f1), (aI g r1 6 sh), (oX6 p0 p1 p2 p3 p4 (nI w)), (aI g p1 24 sd), (aI g p3 6 st), (aI g p4 6 me), (oX8 s0 h0 a0 b0 e0), (oX4 h0 q0 q1 mo), (aI g q0 24 f)] H := hP
  have hD : va_D A [(oX10 x0 y0 ta z0 p0 dr pa to_ s0 im ki tr v0 rf), (oX4 tr r0 r1 mo1), (aI g r0 24 f1), (aI g r1 6 sh), (oX6 p0 p1 p2 p3 p4 (nI w)), (aI g p1 24 sd), (aI g p3 6 st), (aI g p4 6 me), (oX8 s0 h0 a0 b0 e0), (oX4 h0 q0 q1 mo), (aI g q0 24 f)] := hD
  refine lv_aload_n hx hb dX10_would_5 rfl (lv_at hl 0 rfl) ?_
  refine lv_iload_n hx hb dX10_would_6 rfl (lv_at hl 2 rfl) ?_
  refine lv_iconst (v := 1) hx hb dX10_would_7 (by decide) ?_
  refine lv_bipush (v := 60) hx hb dX10_would_8 (by decide) ?_
  refine he_ci (wc := []) (wr := [(oX10 x0 y0 ta z0 p0 dr pa to_ s0 im ki tr v0 rf), (oX4 tr r0 r1 mo1), (aI g r0 24 f1), (aI g r1 6 sh), (oX6 p0 p1 p2 p3 p4 (nI w)), (aI g p1 24 sd), (aI g p3 6 st), (aI g p4 6 me), (oX8 s0 h0 a0 b0 e0), (oX4 h0 q0 q1 mo), (aI g q0 24 f)]) (va_runS (As := [.int (nI n), .int 1, .int 60]) (rest := [.ref x0]) ⟨hx, hb, hml, hown, hts⟩ (c_X10_within l g (nI n) 1 60 H.size) (va_cwS 3 hts gX10_would_X10_within rfl rfl rfl (by decide +kernel) ⟨Nat.le_of_ble_eq_true rfl, Nat.le_of_ble_eq_true rfl⟩) (he_preS (wc := []) hK hP hD hS hA hE [] rfl rfl) rfl rfl hl.1 rfl (lv_room (Nat.le_of_ble_eq_true rfl)) dX10_would_10 ⟨(Nat.le_of_ble_eq_true rfl), (Nat.le_of_ble_eq_true rfl)⟩) hP hD hS hA [] [0, 1, 2, 3, 4, 5, 6, 7, 8, 9, 10] rfl rfl rfl (by decide) (fun r_4 u_5 H locs h_6 hP hD hS => ?_)
  subst h_6
  have hP : va_P g.1 vwCl [(oX10 x0 y0 ta z0 p0 dr pa to_ s0 im ki tr v0 rf), (oX4 tr r0 r1 mo1), (aI g r0 24 f1), (aI g r1 6 sh), (oX6 p0 p1 p2 p3 p4 (nI w)), (aI g p1 24 sd), (aI g p3 6 st), (aI g p4 6 me), (oX8 s0 h0 a0 b0 e0), (oX4 h0 q0 q1 mo), (aI g q0 24 f)] H := hP
  have hD : va_D A [(oX10 x0 y0 ta z0 p0 dr pa to_ s0 im ki tr v0 rf), (oX4 tr r0 r1 mo1), (aI g r0 24 f1), (aI g r1 6 sh), (oX6 p0 p1 p2 p3 p4 (nI w)), (aI g p1 24 sd), (aI g p3 6 st), (aI g p4 6 me), (oX8 s0 h0 a0 b0 e0), (oX4 h0 q0 q1 mo), (aI g q0 24 f)] := hD
  refine he_top (1) (he_within_in (a0 := 1) (B := 60) rfl rfl (by omega) (by omega) (by decide)) ?_
  refine lv_if_eq (tgt := 30) hx hb dX10_would_13 (by decide) (fun c_7 => ?_) (fun c_7 => ?_)
  · exact absurd c_7 (by decide)
  · refine lv_iload_n hx hb dX10_would_16 rfl (lv_at hl 3 rfl) ?_
    refine lv_iconst (v := 0) hx hb dX10_would_17 (by decide) ?_
    refine lv_bipush (v := 9) hx hb dX10_would_18 (by decide) ?_
    refine he_ci (wc := []) (wr := [(oX10 x0 y0 ta z0 p0 dr pa to_ s0 im ki tr v0 rf), (oX4 tr r0 r1 mo1), (aI g r0 24 f1), (aI g r1 6 sh), (oX6 p0 p1 p2 p3 p4 (nI w)), (aI g p1 24 sd), (aI g p3 6 st), (aI g p4 6 me), (oX8 s0 h0 a0 b0 e0), (oX4 h0 q0 q1 mo), (aI g q0 24 f)]) (va_runS (As := [.int x, .int 0, .int 9]) (rest := [.ref x0]) ⟨hx, hb, hml, hown, hts⟩ (c_X10_within l g x 0 9 H.size) (va_cwS 3 hts gX10_would_X10_within rfl rfl rfl (by decide +kernel) ⟨Nat.le_of_ble_eq_true rfl, Nat.le_of_ble_eq_true rfl⟩) (he_preS (wc := []) hK hP hD hS hA hE [] rfl rfl) rfl rfl hl.1 rfl (lv_room (Nat.le_of_ble_eq_true rfl)) dX10_would_20 ⟨(Nat.le_of_ble_eq_true rfl), (Nat.le_of_ble_eq_true rfl)⟩) hP hD hS hA [] [0, 1, 2, 3, 4, 5, 6, 7, 8, 9, 10] rfl rfl rfl (by decide) (fun r_8 u_9 H locs h_10 hP hD hS => ?_)
    subst h_10
    have hP : va_P g.1 vwCl [(oX10 x0 y0 ta z0 p0 dr pa to_ s0 im ki tr v0 rf), (oX4 tr r0 r1 mo1), (aI g r0 24 f1), (aI g r1 6 sh), (oX6 p0 p1 p2 p3 p4 (nI w)), (aI g p1 24 sd), (aI g p3 6 st), (aI g p4 6 me), (oX8 s0 h0 a0 b0 e0), (oX4 h0 q0 q1 mo), (aI g q0 24 f)] H := hP
    have hD : va_D A [(oX10 x0 y0 ta z0 p0 dr pa to_ s0 im ki tr v0 rf), (oX4 tr r0 r1 mo1), (aI g r0 24 f1), (aI g r1 6 sh), (oX6 p0 p1 p2 p3 p4 (nI w)), (aI g p1 24 sd), (aI g p3 6 st), (aI g p4 6 me), (oX8 s0 h0 a0 b0 e0), (oX4 h0 q0 q1 mo), (aI g q0 24 f)] := hD
    refine he_top (1) (he_within_1 hok0) ?_
    refine lv_if_eq (tgt := 30) hx hb dX10_would_23 (by decide) (fun c_11 => ?_) (fun c_11 => ?_)
    · exact absurd c_11 (by decide)
    · refine lv_iconst (v := 1) hx hb dX10_would_26 (by decide) ?_
      refine lv_goto (tgt := 31) hx hb dX10_would_27 (by decide) ?_
      refine he_cv (wc := []) (wr := [(oX10 x0 y0 ta z0 p0 dr pa to_ s0 im ki tr v0 rf), (oX4 tr r0 r1 mo1), (aI g r0 24 f1), (aI g r1 6 sh), (oX6 p0 p1 p2 p3 p4 (nI w)), (aI g p1 24 sd), (aI g p3 6 st), (aI g p4 6 me), (oX8 s0 h0 a0 b0 e0), (oX4 h0 q0 q1 mo), (aI g q0 24 f)]) (va_runV (As := [.int 1]) (rest := []) ⟨hx, hb, hml, hown, hts⟩ (c_X10_demand1 l g x0 H.size) (cwV 1 hts gX10_would_X10_demand rfl rfl rfl (by decide +kernel) ⟨Nat.le_of_ble_eq_true rfl, Nat.le_of_ble_eq_true rfl⟩) (he_preV (wc := []) hK hP hD hS hA hE [] rfl rfl 0 rfl rfl) rfl rfl hl.1 rfl (lv_room (Nat.le_of_ble_eq_true rfl)) dX10_would_31 ⟨(Nat.le_of_ble_eq_true rfl), (Nat.le_of_ble_eq_true rfl)⟩) hP hD hS hA [] [0, 1, 2, 3, 4, 5, 6, 7, 8, 9, 10] rfl rfl rfl (by decide) (fun u_13 H locs h_14 hP hD hS => ?_)
      have hP : va_P g.1 vwCl [(oX10 x0 y0 ta z0 p0 dr pa to_ s0 im ki tr v0 rf), (oX4 tr r0 r1 mo1), (aI g r0 24 f1), (aI g r1 6 sh), (oX6 p0 p1 p2 p3 p4 (nI w)), (aI g p1 24 sd), (aI g p3 6 st), (aI g p4 6 me), (oX8 s0 h0 a0 b0 e0), (oX4 h0 q0 q1 mo), (aI g q0 24 f)] H := hP
      have hD : va_D A [(oX10 x0 y0 ta z0 p0 dr pa to_ s0 im ki tr v0 rf), (oX4 tr r0 r1 mo1), (aI g r0 24 f1), (aI g r1 6 sh), (oX6 p0 p1 p2 p3 p4 (nI w)), (aI g p1 24 sd), (aI g p3 6 st), (aI g p4 6 me), (oX8 s0 h0 a0 b0 e0), (oX4 h0 q0 q1 mo), (aI g q0 24 f)] := hD
      refine lv_aload_n hx hb dX10_would_34 rfl (lv_at hl 0 rfl) ?_
      refine lv_iload_n hx hb dX10_would_35 rfl (lv_at hl 1 rfl) ?_
      refine lv_iload_n hx hb dX10_would_36 rfl (lv_at hl 2 rfl) ?_
      refine he_ci (wc := [(oX10 x0 y0 ta z0 p0 dr pa to_ s0 im ki tr v0 rf), (oX4 tr r0 r1 mo1), (aI g r0 24 f1), (aI g r1 6 sh), (oX6 p0 p1 p2 p3 p4 (nI w)), (aI g p1 24 sd), (aI g p3 6 st), (aI g p4 6 me), (oX8 s0 h0 a0 b0 e0), (oX4 h0 q0 q1 mo), (aI g q0 24 f)]) (wr := []) (va_runV (As := [.int (-1), .int (nI n)]) (rest := []) ⟨hx, hb, hml, hown, hts⟩ (g_X10_trySignedN l g x0 y0 z0 dr pa s0 im tr v0 rf ta to_ ki p0 p1 p2 p3 p4 w sd st me a0 b0 e0 h0 q0 q1 mo f r0 r1 mo1 f1 sh n (by first | assumption | decide | omega) hn2 H.size) (cwV 2 hts gX10_would_X10_trySigned rfl rfl rfl (by decide +kernel) ⟨Nat.le_of_ble_eq_true rfl, Nat.le_of_ble_eq_true rfl⟩) (he_preV (wc := [(oX10 x0 y0 ta z0 p0 dr pa to_ s0 im ki tr v0 rf), (oX4 tr r0 r1 mo1), (aI g r0 24 f1), (aI g r1 6 sh), (oX6 p0 p1 p2 p3 p4 (nI w)), (aI g p1 24 sd), (aI g p3 6 st), (aI g p4 6 me), (oX8 s0 h0 a0 b0 e0), (oX4 h0 q0 q1 mo), (aI g q0 24 f)]) hK hP hD hS hA hE [0, 1, 2, 3, 4, 5, 6, 7, 8, 9, 10] rfl rfl 0 rfl rfl) rfl rfl hl.1 rfl (lv_room (Nat.le_of_ble_eq_true rfl)) dX10_would_37 ⟨(Nat.le_of_ble_eq_true rfl), (Nat.le_of_ble_eq_true rfl)⟩) hP hD hS hA [0, 1, 2, 3, 4, 5, 6, 7, 8, 9, 10] [] rfl rfl rfl (by decide) (fun r_15 u_16 H locs h_17 hP hD hS => ?_)
      obtain ⟨um_18, uf_19, us_20⟩ := u_16
      have hP : va_P g.1 vwCl [(oX10 x0 y0 ta z0 p0 dr pa to_ s0 im ki tr v0 rf), (oX4 tr r0 r1 um_18), (aI g r0 24 uf_19), (aI g r1 6 us_20), (oX6 p0 p1 p2 p3 p4 (nI w)), (aI g p1 24 sd), (aI g p3 6 st), (aI g p4 6 me), (oX8 s0 h0 a0 b0 e0), (oX4 h0 q0 q1 mo), (aI g q0 24 f)] H := hP
      have hD : va_D A [(oX10 x0 y0 ta z0 p0 dr pa to_ s0 im ki tr v0 rf), (oX4 tr r0 r1 um_18), (aI g r0 24 uf_19), (aI g r1 6 us_20), (oX6 p0 p1 p2 p3 p4 (nI w)), (aI g p1 24 sd), (aI g p3 6 st), (aI g p4 6 me), (oX8 s0 h0 a0 b0 e0), (oX4 h0 q0 q1 mo), (aI g q0 24 f)] := hD
      refine lv_pop hx hb dX10_would_40 rfl ?_
      refine lv_aload_n hx hb dX10_would_41 rfl (lv_at hl 0 rfl) ?_
      refine va_get (v := .ref tr) (T := TX10) (N := 13) hx hb hts inX10 hown hK hP 0 rfl rfl 10 (by decide) f50 (fun _ h9 => h9) rfl dX10_would_42 ?_
      refine va_get (v := .ref r0) (T := TX4) (N := 3) hx hb hts inX4 hown hK hP 1 rfl rfl 0 (by decide) f111 (fun _ h9 => h9) rfl dX10_would_45 ?_
      refine lv_iload_n hx hb dX10_would_48 rfl (lv_at hl 3 rfl) ?_
      refine he_iald hx hb hK hP 2 rfl (x.toNatClampNeg) (he_within_nat (B := 9) rfl (by decide) hok0).1 (Nat.lt_of_le_of_lt (he_within_nat (B := 9) rfl (by decide) hok0).2 (by decide)) (by first | decide | assumption) (uf_19 x.toNatClampNeg) rfl dX10_would_49 ?_
      exact he_ri hQ hx hb hr hlk hP hD hS dX10_would_50 (Nat.le_of_ble_eq_true rfl) (Nat.le_of_ble_eq_true rfl) ((um_18, uf_19, us_20)) (rfl) (trivial)
set_option maxHeartbeats 4000000 in
set_option maxRecDepth 100000 in
theorem g_X10_stop0 (l : Launch) (g : he_G) (x0 : Nat) (y0 : Nat) (z0 : Nat) (dr : Nat) (pa : Nat) (s0 : Nat) (im : Nat) (tr : Nat) (v0 : Nat) (rf : Nat) (ta : Int32) (to_ : Int32) (ki : Int32) (p0 : Nat) (p1 : Nat) (p2 : Nat) (p3 : Nat) (p4 : Nat) (w : Nat) (sd : Nat → Int32) (fn : Nat → Int32) (st : Nat → Int32) (me : Nat → Int32) (a0 : Nat) (b0 : Nat) (e0 : Nat) (h0 : Nat) (q0 : Nat) (q1 : Nat) (mo : Int32) (f : Nat → Int32) (r0 : Nat) (r1 : Nat) (mo1 : Int32) (f1 : Nat → Int32) (sh : Nat → Int32) (n : Nat) (pf : Nat → Option Nat) (t0 : Nat) (t1 : Nat) (t2 : Nat) (pw : Int32) (pd : Nat → Int32) (wb : Nat → Int32) (ck : Nat) (ci : Nat) (hw6 : w ≤ 6) (hwb : ∀ k, k < 36 → -1 ≤ wb k) (hck : pd 3 = nI ck) (hc99 : ck ≤ 99) (hc7 : ci < 7) (hpf : pf ci = some t0) (hn1 : 1 ≤ n) (hn2 : n ≤ 60) (hF : (f 10 = nI ci ∨ he_within (f 10) 0 6 = 0)) : he_I l yX10_stop wsX10_stop 6 132 0 0 g [.ref x0, .int (nI n), .int 0] [(oX10 x0 y0 ta z0 p0 dr pa to_ s0 im ki tr v0 rf), (oX4 tr r0 r1 mo1), (aI g r0 24 f1), (aI g r1 6 sh), (oX6 p0 p1 p2 p3 p4 (nI w)), (aI g p1 24 sd), (aI g p2 10 fn), (aI g p3 6 st), (aI g p4 6 me), (aP g pa 7 pf), (oX5 t0 t1 t2 pw), (aI g t1 6 pd), (aI g t2 36 wb), (oX8 s0 h0 a0 b0 e0), (oX4 h0 q0 q1 mo), (aI g q0 24 f)] (fun (r : Int32) (u : Int32 × (Nat → Int32) × (Nat → Int32)) => True) (fun (u : Int32 × (Nat → Int32) × (Nat → Int32)) => [(oX10 x0 y0 ta z0 p0 dr pa to_ s0 im ki tr v0 rf), (oX4 tr r0 r1 u.1), (aI g r0 24 u.2.1), (aI g r1 6 u.2.2), (oX6 p0 p1 p2 p3 p4 (nI w)), (aI g p1 24 sd), (aI g p2 10 fn), (aI g p3 6 st), (aI g p4 6 me), (aP g pa 7 pf), (oX5 t0 t1 t2 pw), (aI g t1 6 pd), (aI g t2 36 wb), (oX8 s0 h0 a0 b0 e0), (oX4 h0 q0 q1 mo), (aI g q0 24 f)]) := by
  refine he_begin (l := l) (g := g) (y := yX10_stop) (wl := wsX10_stop) (fr := 6) (lo := 132) (mc := 0) (ms := 0) (av := [.ref x0, .int (nI n), .int 0]) (ws := [(oX10 x0 y0 ta z0 p0 dr pa to_ s0 im ki tr v0 rf), (oX4 tr r0 r1 mo1), (aI g r0 24 f1), (aI g r1 6 sh), (oX6 p0 p1 p2 p3 p4 (nI w)), (aI g p1 24 sd), (aI g p2 10 fn), (aI g p3 6 st), (aI g p4 6 me), (aP g pa 7 pf), (oX5 t0 t1 t2 pw), (aI g t1 6 pd), (aI g t2 36 wb), (oX8 s0 h0 a0 b0 e0), (oX4 h0 q0 q1 mo), (aI g q0 24 f)]) (cc := cX10_stop) (maxL := 6) (ret := (some .int)) (fun A => va_Qi (fun (r : Int32) (u : Int32 × (Nat → Int32) × (Nat → Int32)) => True) (fun u t => he_post g A ((fun (u : Int32 × (Nat → Int32) × (Nat → Int32)) => [(oX10 x0 y0 ta z0 p0 dr pa to_ s0 im ki tr v0 rf), (oX4 tr r0 r1 u.1), (aI g r0 24 u.2.1), (aI g r1 6 u.2.2), (oX6 p0 p1 p2 p3 p4 (nI w)), (aI g p1 24 sd), (aI g p2 10 fn), (aI g p3 6 st), (aI g p4 6 me), (aP g pa 7 pf), (oX5 t0 t1 t2 pw), (aI g t1 6 pd), (aI g t2 36 wb), (oX8 s0 h0 a0 b0 e0), (oX4 h0 q0 q1 mo), (aI g q0 24 f)]) u) t) A) (by decide) rfl (Nat.le_of_ble_eq_true rfl) ?_
  intro p e s m args below meth c A ls H locs Q hQ hB
  obtain ⟨hx, hb, hr, hml, hown, hts, hlk, hin, hP, hK, hD, hS, hA, hE, hl⟩ := hB
  have hl : lv_has ls 6 [(0, .ref x0), (1, .int (nI n)), (2, .int 0)] := hl
  have f50 := hts (.fieldLink RX10 50 "HiredEnemy" "trial" "LHiredEnemy$Course;") (iwoX10_stop (k := 0) rfl)
  have inX10 : ∀ w ∈ wsX100, w ∈ wsX10_stop := innX10_stop_X10
  have f39 := hts (.fieldLink RX10 39 "HiredEnemy" "scene" "LHiredEnemy$Scene;") (iwoX10_stop (k := 1) rfl)
  have f66 := hts (.fieldLink RX10 66 "HiredEnemy$Scene" "course" "LHiredEnemy$Course;") (iwoX10_stop (k := 2) rfl)
  have inX8 : ∀ w ∈ wsX80, w ∈ wsX10_stop := innX10_stop_X8
  have f111 := hts (.fieldLink RX10 111 "HiredEnemy$Course" "now" "[I") (iwoX10_stop (k := 3) rfl)
  have inX4 : ∀ w ∈ wsX40, w ∈ wsX10_stop := innX10_stop_X4
  refine lv_aload_n hx hb dX10_stop_0 rfl (lv_at hl 0 rfl) ?_
  refine lv_iload_n hx hb dX10_stop_1 rfl (lv_at hl 1 rfl) ?_
  refine lv_iconst (v := 1) hx hb dX10_stop_2 (by decide) ?_
  refine lv_bipush (v := 60) hx hb dX10_stop_3 (by decide) ?_
  refine he_ci (wc := []) (wr := [(oX10 x0 y0 ta z0 p0 dr pa to_ s0 im ki tr v0 rf), (oX4 tr r0 r1 mo1), (aI g r0 24 f1), (aI g r1 6 sh), (oX6 p0 p1 p2 p3 p4 (nI w)), (aI g p1 24 sd), (aI g p2 10 fn), (aI g p3 6 st), (aI g p4 6 me), (aP g pa 7 pf), (oX5 t0 t1 t2 pw), (aI g t1 6 pd), (aI g t2 36 wb), (oX8 s0 h0 a0 b0 e0), (oX4 h0 q0 q1 mo), (aI g q0 24 f)]) (va_runS (As := [.int (nI n), .int 1, .int 60]) (rest := [.ref x0]) ⟨hx, hb, hml, hown, hts⟩ (c_X10_within l g (nI n) 1 60 H.size) (va_cwS 3 hts gX10_stop_X10_within rfl rfl rfl (by decide +kernel) ⟨Nat.le_of_ble_eq_true rfl, Nat.le_of_ble_eq_true rfl⟩) (he_preS (wc := []) hK hP hD hS hA hE [] rfl rfl) rfl rfl hl.1 rfl (lv_room (Nat.le_of_ble_eq_true rfl)) dX10_stop_5 ⟨(Nat.le_of_ble_eq_true rfl), (Nat.le_of_ble_eq_true rfl)⟩) hP hD hS hA [] [0, 1, 2, 3, 4, 5, 6, 7, 8, 9, 10, 11, 12, 13, 14, 15] rfl rfl rfl (by decide) (fun r_1 u_2 H locs h_3 hP hD hS => ?_)
  subst h_3
  have hP : va_P g.1 vwCl [(oX10 x0 y0 ta z0 p0 dr pa to_ s0 im ki tr v0 rf), (oX4 tr r0 r1 mo1), (aI g r0 24 f1), (aI g r1 6 sh), (oX6 p0 p1 p2 p3 p4 (nI w)), (aI g p1 24 sd), (aI g p2 10 fn), (aI g p3 6 st), (aI g p4 6 me), (aP g pa 7 pf), (oX5 t0 t1 t2 pw), (aI g t1 6 pd), (aI g t2 36 wb), (oX8 s0 h0 a0 b0 e0), (oX4 h0 q0 q1 mo), (aI g q0 24 f)] H := hP
  have hD : va_D A [(oX10 x0 y0 ta z0 p0 dr pa to_ s0 im ki tr v0 rf), (oX4 tr r0 r1 mo1), (aI g r0 24 f1), (aI g r1 6 sh), (oX6 p0 p1 p2 p3 p4 (nI w)), (aI g p1 24 sd), (aI g p2 10 fn), (aI g p3 6 st), (aI g p4 6 me), (aP g pa 7 pf), (oX5 t0 t1 t2 pw), (aI g t1 6 pd), (aI g t2 36 wb), (oX8 s0 h0 a0 b0 e0), (oX4 h0 q0 q1 mo), (aI g q0 24 f)] := hD
  refine he_top (1) (he_within_in (a0 := 1) (B := 60) rfl rfl (by omega) (by omega) (by decide)) ?_
  refine lv_if_eq (tgt := 24) hx hb dX10_stop_8 (by decide) (fun c_4 => ?_) (fun c_4 => ?_)
  · exact absurd c_4 (by decide)
  · refine lv_iload_n hx hb dX10_stop_11 rfl (lv_at hl 2 rfl) ?_
    refine lv_iconst (v := 0) hx hb dX10_stop_12 (by decide) ?_
    refine lv_iconst (v := 1) hx hb dX10_stop_13 (by decide) ?_
    refine he_ci (wc := []) (wr := [(oX10 x0 y0 ta z0 p0 dr pa to_ s0 im ki tr v0 rf), (oX4 tr r0 r1 mo1), (aI g r0 24 f1), (aI g r1 6 sh), (oX6 p0 p1 p2 p3 p4 (nI w)), (aI g p1 24 sd), (aI g p2 10 fn), (aI g p3 6 st), (aI g p4 6 me), (aP g pa 7 pf), (oX5 t0 t1 t2 pw), (aI g t1 6 pd), (aI g t2 36 wb), (oX8 s0 h0 a0 b0 e0), (oX4 h0 q0 q1 mo), (aI g q0 24 f)]) (va_runS (As := [.int 0, .int 0, .int 1]) (rest := [.ref x0]) ⟨hx, hb, hml, hown, hts⟩ (c_X10_within l g 0 0 1 H.size) (va_cwS 3 hts gX10_stop_X10_within rfl rfl rfl (by decide +kernel) ⟨Nat.le_of_ble_eq_true rfl, Nat.le_of_ble_eq_true rfl⟩) (he_preS (wc := []) hK hP hD hS hA hE [] rfl rfl) rfl rfl hl.1 rfl (lv_room (Nat.le_of_ble_eq_true rfl)) dX10_stop_14 ⟨(Nat.le_of_ble_eq_true rfl), (Nat.le_of_ble_eq_true rfl)⟩) hP hD hS hA [] [0, 1, 2, 3, 4, 5, 6, 7, 8, 9, 10, 11, 12, 13, 14, 15] rfl rfl rfl (by decide) (fun r_5 u_6 H locs h_7 hP hD hS => ?_)
    subst h_7
    have hP : va_P g.1 vwCl [(oX10 x0 y0 ta z0 p0 dr pa to_ s0 im ki tr v0 rf), (oX4 tr r0 r1 mo1), (aI g r0 24 f1), (aI g r1 6 sh), (oX6 p0 p1 p2 p3 p4 (nI w)), (aI g p1 24 sd), (aI g p2 10 fn), (aI g p3 6 st), (aI g p4 6 me), (aP g pa 7 pf), (oX5 t0 t1 t2 pw), (aI g t1 6 pd), (aI g t2 36 wb), (oX8 s0 h0 a0 b0 e0), (oX4 h0 q0 q1 mo), (aI g q0 24 f)] H := hP
    have hD : va_D A [(oX10 x0 y0 ta z0 p0 dr pa to_ s0 im ki tr v0 rf), (oX4 tr r0 r1 mo1), (aI g r0 24 f1), (aI g r1 6 sh), (oX6 p0 p1 p2 p3 p4 (nI w)), (aI g p1 24 sd), (aI g p2 10 fn), (aI g p3 6 st), (aI g p4 6 me), (aP g pa 7 pf), (oX5 t0 t1 t2 pw), (aI g t1 6 pd), (aI g t2 36 wb), (oX8 s0 h0 a0 b0 e0), (oX4 h0 q0 q1 mo), (aI g q0 24 f)] := hD
    refine he_top (1) (by decide) ?_
    refine lv_if_eq (tgt := 24) hx hb dX10_stop_17 (by decide) (fun c_8 => ?_) (fun c_8 => ?_)
    · exact absurd c_8 (by decide)
    · refine lv_iconst (v := 1) hx hb dX10_stop_20 (by decide) ?_
      refine lv_goto (tgt := 25) hx hb dX10_stop_21 (by decide) ?_
      refine he_cv (wc := []) (wr := [(oX10 x0 y0 ta z0 p0 dr pa to_ s0 im ki tr v0 rf), (oX4 tr r0 r1 mo1), (aI g r0 24 f1), (aI g r1 6 sh), (oX6 p0 p1 p2 p3 p4 (nI w)), (aI g p1 24 sd), (aI g p2 10 fn), (aI g p3 6 st), (aI g p4 6 me), (aP g pa 7 pf), (oX5 t0 t1 t2 pw), (aI g t1 6 pd), (aI g t2 36 wb), (oX8 s0 h0 a0 b0 e0), (oX4 h0 q0 q1 mo), (aI g q0 24 f)]) (va_runV (As := [.int 1]) (rest := []) ⟨hx, hb, hml, hown, hts⟩ (c_X10_demand1 l g x0 H.size) (cwV 1 hts gX10_stop_X10_demand rfl rfl rfl (by decide +kernel) ⟨Nat.le_of_ble_eq_true rfl, Nat.le_of_ble_eq_true rfl⟩) (he_preV (wc := []) hK hP hD hS hA hE [] rfl rfl 0 rfl rfl) rfl rfl hl.1 rfl (lv_room (Nat.le_of_ble_eq_true rfl)) dX10_stop_25 ⟨(Nat.le_of_ble_eq_true rfl), (Nat.le_of_ble_eq_true rfl)⟩) hP hD hS hA [] [0, 1, 2, 3, 4, 5, 6, 7, 8, 9, 10, 11, 12, 13, 14, 15] rfl rfl rfl (by decide) (fun u_10 H locs h_11 hP hD hS => ?_)
      have hP : va_P g.1 vwCl [(oX10 x0 y0 ta z0 p0 dr pa to_ s0 im ki tr v0 rf), (oX4 tr r0 r1 mo1), (aI g r0 24 f1), (aI g r1 6 sh), (oX6 p0 p1 p2 p3 p4 (nI w)), (aI g p1 24 sd), (aI g p2 10 fn), (aI g p3 6 st), (aI g p4 6 me), (aP g pa 7 pf), (oX5 t0 t1 t2 pw), (aI g t1 6 pd), (aI g t2 36 wb), (oX8 s0 h0 a0 b0 e0), (oX4 h0 q0 q1 mo), (aI g q0 24 f)] H := hP
      have hD : va_D A [(oX10 x0 y0 ta z0 p0 dr pa to_ s0 im ki tr v0 rf), (oX4 tr r0 r1 mo1), (aI g r0 24 f1), (aI g r1 6 sh), (oX6 p0 p1 p2 p3 p4 (nI w)), (aI g p1 24 sd), (aI g p2 10 fn), (aI g p3 6 st), (aI g p4 6 me), (aP g pa 7 pf), (oX5 t0 t1 t2 pw), (aI g t1 6 pd), (aI g t2 36 wb), (oX8 s0 h0 a0 b0 e0), (oX4 h0 q0 q1 mo), (aI g q0 24 f)] := hD
      refine lv_iconst (v := 0) hx hb dX10_stop_28 (by decide) ?_
      refine lv_istore_n (lv' := [(3, .int 0), (0, .ref x0), (1, .int (nI n)), (2, .int 0)]) hx hb dX10_stop_29 rfl hl (by decide) rfl (fun ls hl => ?_)
      refine lv_iconst (v := (-1)) hx hb dX10_stop_30 (by decide) ?_
      refine lv_istore (lv' := [(4, .int (-1)), (3, .int 0), (0, .ref x0), (1, .int (nI n)), (2, .int 0)]) hx hb dX10_stop_31 hl (by decide) rfl (fun ls hl => ?_)
      refine lv_iconst (v := 0) hx hb dX10_stop_33 (by decide) ?_
      refine lv_istore (lv' := [(5, .int 0), (4, .int (-1)), (3, .int 0), (0, .ref x0), (1, .int (nI n)), (2, .int 0)]) hx hb dX10_stop_34 hl (by decide) rfl (fun ls hl => ?_)
      have loop36 : ∀ (n9 : Nat) (j : Nat) (bm : Int32) (ms : Int32) (mj : Int32) (F : Nat → Int32) (G : Nat → Int32), n + 1 - j < n9 → (j ≤ n + 1) → ∀ (H : Heap) (locs : List Loc) (ls : Array Slot), va_P g.1 vwCl [(oX10 x0 y0 ta z0 p0 dr pa to_ s0 im ki tr v0 rf), (oX4 tr r0 r1 mj), (aI g r0 24 F), (aI g r1 6 G), (oX6 p0 p1 p2 p3 p4 (nI w)), (aI g p1 24 sd), (aI g p2 10 fn), (aI g p3 6 st), (aI g p4 6 me), (aP g pa 7 pf), (oX5 t0 t1 t2 pw), (aI g t1 6 pd), (aI g t2 36 wb), (oX8 s0 h0 a0 b0 e0), (oX4 h0 q0 q1 mo), (aI g q0 24 f)] H → va_D A [(oX10 x0 y0 ta z0 p0 dr pa to_ s0 im ki tr v0 rf), (oX4 tr r0 r1 mj), (aI g r0 24 F), (aI g r1 6 G), (oX6 p0 p1 p2 p3 p4 (nI w)), (aI g p1 24 sd), (aI g p2 10 fn), (aI g p3 6 st), (aI g p4 6 me), (aP g pa 7 pf), (oX5 t0 t1 t2 pw), (aI g t1 6 pd), (aI g t2 36 wb), (oX8 s0 h0 a0 b0 e0), (oX4 h0 q0 q1 mo), (aI g q0 24 f)] → va_S A s.heap H locs → lv_has ls 6 [(0, .ref x0), (1, .int (nI n)), (2, .int 0), (3, .int bm), (4, .int ms), (5, .int (nI j))] → W p l e (he_room 6 132 0 0) s m args below meth c H locs 0 0 Q (F0 m 36 ls []) := by
        intro n9
        induction n9 with
        | zero => intro j bm ms mj F G hm9; exact absurd hm9 (Nat.not_lt_zero _)
        | succ n9 ih36 =>
          intro j bm ms mj F G hm9 hj H locs ls hP hD hS hl
          refine lv_iload hx hb dX10_stop_36 (lv_at hl 5 rfl) ?_
          refine lv_iload_n hx hb dX10_stop_38 rfl (lv_at hl 1 rfl) ?_
          refine lv_icmp_gt (tgt := 112) hx hb dX10_stop_39 (by decide) (fun c_12 => ?_) (fun c_12 => ?_)
          · have k_13 : n < j := (he_clt (a := n) (b := j) rfl rfl (by omega) (by omega)).mp c_12
            refine lv_iload_n hx hb dX10_stop_112 rfl (lv_at hl 2 rfl) ?_
            refine lv_if_ne (tgt := 120) hx hb dX10_stop_113 (by decide) (fun c_14 => ?_) (fun c_14 => ?_)
            · exact absurd (by decide) c_14
            · refine lv_iload_n hx hb dX10_stop_116 rfl (lv_at hl 3 rfl) ?_
              refine lv_goto (tgt := 122) hx hb dX10_stop_117 (by decide) ?_
              exact he_ri hQ hx hb hr hlk hP hD hS dX10_stop_122 (Nat.le_of_ble_eq_true rfl) (Nat.le_of_ble_eq_true rfl) ((mj, F, G)) (rfl) (trivial)
          · have k_15 : ¬ (n < j) := fun h9 => c_12 ((he_clt (a := n) (b := j) rfl rfl (by omega) (by omega)).mpr h9)
            refine lv_aload_n hx hb dX10_stop_42 rfl (lv_at hl 0 rfl) ?_
            refine va_get (v := .ref tr) (T := TX10) (N := 13) hx hb hts inX10 hown hK hP 0 rfl rfl 10 (by decide) f50 (fun _ h9 => h9) rfl dX10_stop_43 ?_
            refine lv_aload_n hx hb dX10_stop_46 rfl (lv_at hl 0 rfl) ?_
            refine va_get (v := .ref s0) (T := TX10) (N := 13) hx hb hts inX10 hown hK hP 0 rfl rfl 7 (by decide) f39 (fun _ h9 => h9) rfl dX10_stop_47 ?_
            refine va_get (v := .ref h0) (T := TX8) (N := 4) hx hb hts inX8 hown hK hP 13 rfl rfl 0 (by decide) f66 (fun _ h9 => h9) rfl dX10_stop_50 ?_
            refine he_cv (wc := [(oX4 tr r0 r1 mj), (aI g r0 24 F), (oX4 h0 q0 q1 mo), (aI g q0 24 f)]) (wr := [(oX10 x0 y0 ta z0 p0 dr pa to_ s0 im ki tr v0 rf), (aI g r1 6 G), (oX6 p0 p1 p2 p3 p4 (nI w)), (aI g p1 24 sd), (aI g p2 10 fn), (aI g p3 6 st), (aI g p4 6 me), (aP g pa 7 pf), (oX5 t0 t1 t2 pw), (aI g t1 6 pd), (aI g t2 36 wb), (oX8 s0 h0 a0 b0 e0)]) (va_runV (As := [.ref h0]) (rest := []) ⟨hx, hb, hml, hown, hts⟩ (c_X4_take l g tr r0 r1 mj F h0 q0 q1 mo f H.size) (cwV 1 hts gX10_stop_X4_take rfl rfl rfl (by decide +kernel) ⟨Nat.le_of_ble_eq_true rfl, Nat.le_of_ble_eq_true rfl⟩) (he_preV (wc := [(oX4 tr r0 r1 mj), (aI g r0 24 F), (oX4 h0 q0 q1 mo), (aI g q0 24 f)]) hK hP hD hS hA hE [1, 2, 14, 15] rfl rfl 1 rfl rfl) rfl rfl hl.1 rfl (lv_room (Nat.le_of_ble_eq_true rfl)) dX10_stop_53 ⟨(Nat.le_of_ble_eq_true rfl), (Nat.le_of_ble_eq_true rfl)⟩) hP hD hS hA [1, 2, 14, 15] [0, 3, 4, 5, 6, 7, 8, 9, 10, 11, 12, 13] rfl rfl rfl (by decide) (fun u_17 H locs h_18 hP hD hS => ?_)
            have hP : va_P g.1 vwCl [(oX10 x0 y0 ta z0 p0 dr pa to_ s0 im ki tr v0 rf), (aI g r1 6 G), (oX6 p0 p1 p2 p3 p4 (nI w)), (aI g p1 24 sd), (aI g p2 10 fn), (aI g p3 6 st), (aI g p4 6 me), (aP g pa 7 pf), (oX5 t0 t1 t2 pw), (aI g t1 6 pd), (aI g t2 36 wb), (oX8 s0 h0 a0 b0 e0), (oX4 tr r0 r1 mo), (aI g r0 24 (va_cpy f F 0 0 24)), (oX4 h0 q0 q1 mo), (aI g q0 24 f)] H := hP
            have hD : va_D A [(oX10 x0 y0 ta z0 p0 dr pa to_ s0 im ki tr v0 rf), (aI g r1 6 G), (oX6 p0 p1 p2 p3 p4 (nI w)), (aI g p1 24 sd), (aI g p2 10 fn), (aI g p3 6 st), (aI g p4 6 me), (aP g pa 7 pf), (oX5 t0 t1 t2 pw), (aI g t1 6 pd), (aI g t2 36 wb), (oX8 s0 h0 a0 b0 e0), (oX4 tr r0 r1 mo), (aI g r0 24 (va_cpy f F 0 0 24)), (oX4 h0 q0 q1 mo), (aI g q0 24 f)] := hD
            refine lv_aload_n hx hb dX10_stop_56 rfl (lv_at hl 0 rfl) ?_
            refine lv_iload hx hb dX10_stop_57 (lv_at hl 5 rfl) ?_
            refine he_cv (wc := [(oX10 x0 y0 ta z0 p0 dr pa to_ s0 im ki tr v0 rf), (oX4 tr r0 r1 mo), (aI g r0 24 (va_cpy f F 0 0 24)), (aI g r1 6 G), (oX6 p0 p1 p2 p3 p4 (nI w)), (aI g p1 24 sd), (aI g p2 10 fn), (aI g p3 6 st), (aI g p4 6 me), (aP g pa 7 pf), (oX5 t0 t1 t2 pw), (aI g t1 6 pd), (aI g t2 36 wb)]) (wr := [(oX8 s0 h0 a0 b0 e0), (oX4 h0 q0 q1 mo), (aI g q0 24 f)]) (va_runV (As := [.int (nI j)]) (rest := []) ⟨hx, hb, hml, hown, hts⟩ (g_X10_passTried l g x0 y0 z0 dr pa s0 im tr v0 rf ta to_ ki p0 p1 p2 p3 p4 w sd fn st me r0 r1 mo (va_cpy f F 0 0 24) G j pf t0 t1 t2 pw pd wb ck ci (by first | assumption | decide | omega) (by first | assumption | decide | omega) (by first | assumption | decide | omega) (by first | assumption | decide | omega) (by first | assumption | decide | omega) (by first | assumption | decide | omega) (by rw [cpy_in (by decide)]; exact hF) (by omega) H.size) (cwV 1 hts gX10_stop_X10_passTried rfl rfl rfl (by decide +kernel) ⟨Nat.le_of_ble_eq_true rfl, Nat.le_of_ble_eq_true rfl⟩) (he_preV (wc := [(oX10 x0 y0 ta z0 p0 dr pa to_ s0 im ki tr v0 rf), (oX4 tr r0 r1 mo), (aI g r0 24 (va_cpy f F 0 0 24)), (aI g r1 6 G), (oX6 p0 p1 p2 p3 p4 (nI w)), (aI g p1 24 sd), (aI g p2 10 fn), (aI g p3 6 st), (aI g p4 6 me), (aP g pa 7 pf), (oX5 t0 t1 t2 pw), (aI g t1 6 pd), (aI g t2 36 wb)]) hK hP hD hS hA hE [0, 12, 13, 1, 2, 3, 4, 5, 6, 7, 8, 9, 10] rfl rfl 0 rfl rfl) rfl rfl hl.1 rfl (lv_room (Nat.le_of_ble_eq_true rfl)) dX10_stop_59 ⟨(Nat.le_of_ble_eq_true rfl), (Nat.le_of_ble_eq_true rfl)⟩) hP hD hS hA [0, 12, 13, 1, 2, 3, 4, 5, 6, 7, 8, 9, 10] [11, 14, 15] rfl rfl rfl (by decide) (fun u_20 H locs h_21 hP hD hS => ?_)
            obtain ⟨um_22, uf_23, us_24⟩ := u_20
            try dsimp only at h_21
            have hf_25 := h_21
            have hP : va_P g.1 vwCl [(oX8 s0 h0 a0 b0 e0), (oX4 h0 q0 q1 mo), (aI g q0 24 f), (oX10 x0 y0 ta z0 p0 dr pa to_ s0 im ki tr v0 rf), (oX4 tr r0 r1 um_22), (aI g r0 24 uf_23), (aI g r1 6 us_24), (oX6 p0 p1 p2 p3 p4 (nI w)), (aI g p1 24 sd), (aI g p2 10 fn), (aI g p3 6 st), (aI g p4 6 me), (aP g pa 7 pf), (oX5 t0 t1 t2 pw), (aI g t1 6 pd), (aI g t2 36 wb)] H := hP
            have hD : va_D A [(oX8 s0 h0 a0 b0 e0), (oX4 h0 q0 q1 mo), (aI g q0 24 f), (oX10 x0 y0 ta z0 p0 dr pa to_ s0 im ki tr v0 rf), (oX4 tr r0 r1 um_22), (aI g r0 24 uf_23), (aI g r1 6 us_24), (oX6 p0 p1 p2 p3 p4 (nI w)), (aI g p1 24 sd), (aI g p2 10 fn), (aI g p3 6 st), (aI g p4 6 me), (aP g pa 7 pf), (oX5 t0 t1 t2 pw), (aI g t1 6 pd), (aI g t2 36 wb)] := hD
            refine lv_aload_n hx hb dX10_stop_62 rfl (lv_at hl 0 rfl) ?_
            refine va_get (v := .ref tr) (T := TX10) (N := 13) hx hb hts inX10 hown hK hP 3 rfl rfl 10 (by decide) f50 (fun _ h9 => h9) rfl dX10_stop_63 ?_
            refine lv_iconst (v := (-1)) hx hb dX10_stop_66 (by decide) ?_
            refine he_cv (wc := [(oX4 tr r0 r1 um_22), (aI g r0 24 uf_23)]) (wr := [(oX8 s0 h0 a0 b0 e0), (oX4 h0 q0 q1 mo), (aI g q0 24 f), (oX10 x0 y0 ta z0 p0 dr pa to_ s0 im ki tr v0 rf), (aI g r1 6 us_24), (oX6 p0 p1 p2 p3 p4 (nI w)), (aI g p1 24 sd), (aI g p2 10 fn), (aI g p3 6 st), (aI g p4 6 me), (aP g pa 7 pf), (oX5 t0 t1 t2 pw), (aI g t1 6 pd), (aI g t2 36 wb)]) (va_runV (As := [.int (-1)]) (rest := []) ⟨hx, hb, hml, hown, hts⟩ (c_X4_pledge l g tr r0 r1 um_22 uf_23 (-1) H.size) (cwV 1 hts gX10_stop_X4_pledge rfl rfl rfl (by decide +kernel) ⟨Nat.le_of_ble_eq_true rfl, Nat.le_of_ble_eq_true rfl⟩) (he_preV (wc := [(oX4 tr r0 r1 um_22), (aI g r0 24 uf_23)]) hK hP hD hS hA hE [4, 5] rfl rfl 4 rfl rfl) rfl rfl hl.1 rfl (lv_room (Nat.le_of_ble_eq_true rfl)) dX10_stop_67 ⟨(Nat.le_of_ble_eq_true rfl), (Nat.le_of_ble_eq_true rfl)⟩) hP hD hS hA [4, 5] [0, 1, 2, 3, 6, 7, 8, 9, 10, 11, 12, 13, 14, 15] rfl rfl rfl (by decide) (fun u_27 H locs h_28 hP hD hS => ?_)
            have hP : va_P g.1 vwCl [(oX8 s0 h0 a0 b0 e0), (oX4 h0 q0 q1 mo), (aI g q0 24 f), (oX10 x0 y0 ta z0 p0 dr pa to_ s0 im ki tr v0 rf), (aI g r1 6 us_24), (oX6 p0 p1 p2 p3 p4 (nI w)), (aI g p1 24 sd), (aI g p2 10 fn), (aI g p3 6 st), (aI g p4 6 me), (aP g pa 7 pf), (oX5 t0 t1 t2 pw), (aI g t1 6 pd), (aI g t2 36 wb), (oX4 tr r0 r1 um_22), (aI g r0 24 (fcF uf_23 (-1) um_22))] H := hP
            have hD : va_D A [(oX8 s0 h0 a0 b0 e0), (oX4 h0 q0 q1 mo), (aI g q0 24 f), (oX10 x0 y0 ta z0 p0 dr pa to_ s0 im ki tr v0 rf), (aI g r1 6 us_24), (oX6 p0 p1 p2 p3 p4 (nI w)), (aI g p1 24 sd), (aI g p2 10 fn), (aI g p3 6 st), (aI g p4 6 me), (aP g pa 7 pf), (oX5 t0 t1 t2 pw), (aI g t1 6 pd), (aI g t2 36 wb), (oX4 tr r0 r1 um_22), (aI g r0 24 (fcF uf_23 (-1) um_22))] := hD
            refine lv_aload_n hx hb dX10_stop_70 rfl (lv_at hl 0 rfl) ?_
            refine lv_iload_n hx hb dX10_stop_71 rfl (lv_at hl 1 rfl) ?_
            refine lv_iload hx hb dX10_stop_72 (lv_at hl 5 rfl) ?_
            refine lv_isub hx hb dX10_stop_74 ?_
            refine he_top (nI (n - j)) (pk_sub (by omega)) ?_
            refine he_cv (wc := [(oX10 x0 y0 ta z0 p0 dr pa to_ s0 im ki tr v0 rf), (oX4 tr r0 r1 um_22), (aI g r0 24 (fcF uf_23 (-1) um_22)), (aI g r1 6 us_24), (oX6 p0 p1 p2 p3 p4 (nI w)), (aI g p1 24 sd), (aI g p3 6 st), (aI g p4 6 me)]) (wr := [(oX8 s0 h0 a0 b0 e0), (oX4 h0 q0 q1 mo), (aI g q0 24 f), (aI g p2 10 fn), (aP g pa 7 pf), (oX5 t0 t1 t2 pw), (aI g t1 6 pd), (aI g t2 36 wb)]) (va_runV (As := [.int (nI (n - j))]) (rest := []) ⟨hx, hb, hml, hown, hts⟩ (g_X10_passTriedN l g x0 y0 z0 dr pa s0 im tr v0 rf ta to_ ki p0 p1 p2 p3 p4 w sd st me r0 r1 um_22 (fcF uf_23 (-1) um_22) us_24 (n - j) (by first | assumption | decide | omega) (by rw [fcF_10]; exact m1_out 6) (by omega) H.size) (cwV 1 hts gX10_stop_X10_passTried rfl rfl rfl (by decide +kernel) ⟨Nat.le_of_ble_eq_true rfl, Nat.le_of_ble_eq_true rfl⟩) (he_preV (wc := [(oX10 x0 y0 ta z0 p0 dr pa to_ s0 im ki tr v0 rf), (oX4 tr r0 r1 um_22), (aI g r0 24 (fcF uf_23 (-1) um_22)), (aI g r1 6 us_24), (oX6 p0 p1 p2 p3 p4 (nI w)), (aI g p1 24 sd), (aI g p3 6 st), (aI g p4 6 me)]) hK hP hD hS hA hE [3, 14, 15, 4, 5, 6, 8, 9] rfl rfl 3 rfl rfl) rfl rfl hl.1 rfl (lv_room (Nat.le_of_ble_eq_true rfl)) dX10_stop_75 ⟨(Nat.le_of_ble_eq_true rfl), (Nat.le_of_ble_eq_true rfl)⟩) hP hD hS hA [3, 14, 15, 4, 5, 6, 8, 9] [0, 1, 2, 7, 10, 11, 12, 13] rfl rfl rfl (by decide) (fun u_30 H locs h_31 hP hD hS => ?_)
            obtain ⟨um_32, uf_33, us_34⟩ := u_30
            have hP : va_P g.1 vwCl [(oX8 s0 h0 a0 b0 e0), (oX4 h0 q0 q1 mo), (aI g q0 24 f), (aI g p2 10 fn), (aP g pa 7 pf), (oX5 t0 t1 t2 pw), (aI g t1 6 pd), (aI g t2 36 wb), (oX10 x0 y0 ta z0 p0 dr pa to_ s0 im ki tr v0 rf), (oX4 tr r0 r1 um_32), (aI g r0 24 uf_33), (aI g r1 6 us_34), (oX6 p0 p1 p2 p3 p4 (nI w)), (aI g p1 24 sd), (aI g p3 6 st), (aI g p4 6 me)] H := hP
            have hD : va_D A [(oX8 s0 h0 a0 b0 e0), (oX4 h0 q0 q1 mo), (aI g q0 24 f), (aI g p2 10 fn), (aP g pa 7 pf), (oX5 t0 t1 t2 pw), (aI g t1 6 pd), (aI g t2 36 wb), (oX10 x0 y0 ta z0 p0 dr pa to_ s0 im ki tr v0 rf), (oX4 tr r0 r1 um_32), (aI g r0 24 uf_33), (aI g r1 6 us_34), (oX6 p0 p1 p2 p3 p4 (nI w)), (aI g p1 24 sd), (aI g p3 6 st), (aI g p4 6 me)] := hD
            refine lv_aload_n hx hb dX10_stop_78 rfl (lv_at hl 0 rfl) ?_
            refine va_get (v := .ref tr) (T := TX10) (N := 13) hx hb hts inX10 hown hK hP 8 rfl rfl 10 (by decide) f50 (fun _ h9 => h9) rfl dX10_stop_79 ?_
            refine va_get (v := .ref r0) (T := TX4) (N := 3) hx hb hts inX4 hown hK hP 9 rfl rfl 0 (by decide) f111 (fun _ h9 => h9) rfl dX10_stop_82 ?_
            refine lv_iconst (v := 0) hx hb dX10_stop_85 (by decide) ?_
            refine he_iald hx hb hK hP 10 rfl (0) (by decide) (by decide) (by first | decide | assumption) (uf_33 0) rfl dX10_stop_86 ?_
            refine lv_iload hx hb dX10_stop_87 (lv_at hl 4 rfl) ?_
            refine lv_icmp_le (tgt := 106) hx hb dX10_stop_89 (by decide) (fun c_35 => ?_) (fun c_35 => ?_)
            · refine lv_iinc (v := nI (j + 1)) (lv' := [(5, .int (nI (j + 1))), (0, .ref x0), (1, .int (nI n)), (2, .int 0), (3, .int bm), (4, .int ms)]) hx hb dX10_stop_106 hl (k := 5) rfl (nI_1 j) (by decide) rfl (fun ls hl => ?_)
              refine lv_goto (tgt := 36) hx hb dX10_stop_109 (by decide) ?_
              exact ih36 (j + 1) bm ms um_32 uf_33 us_34 (by omega) (by omega) _ _ _ (hP.sub [8, 9, 10, 11, 12, 13, 3, 14, 15, 4, 5, 6, 7, 0, 1, 2] rfl) (hD.sub [8, 9, 10, 11, 12, 13, 3, 14, 15, 4, 5, 6, 7, 0, 1, 2] (by decide) rfl) hS (lv_sub hl [1, 2, 3, 4, 5, 0] rfl)
            · refine lv_aload_n hx hb dX10_stop_92 rfl (lv_at hl 0 rfl) ?_
              refine va_get (v := .ref tr) (T := TX10) (N := 13) hx hb hts inX10 hown hK hP 8 rfl rfl 10 (by decide) f50 (fun _ h9 => h9) rfl dX10_stop_93 ?_
              refine va_get (v := .ref r0) (T := TX4) (N := 3) hx hb hts inX4 hown hK hP 9 rfl rfl 0 (by decide) f111 (fun _ h9 => h9) rfl dX10_stop_96 ?_
              refine lv_iconst (v := 0) hx hb dX10_stop_99 (by decide) ?_
              refine he_iald hx hb hK hP 10 rfl (0) (by decide) (by decide) (by first | decide | assumption) (uf_33 0) rfl dX10_stop_100 ?_
              refine lv_istore (lv' := [(4, .int (uf_33 0)), (0, .ref x0), (1, .int (nI n)), (2, .int 0), (3, .int bm), (5, .int (nI j))]) hx hb dX10_stop_101 hl (by decide) rfl (fun ls hl => ?_)
              refine lv_iload hx hb dX10_stop_103 (lv_at hl 5 rfl) ?_
              refine lv_istore_n (lv' := [(3, .int (nI j)), (4, .int (uf_33 0)), (0, .ref x0), (1, .int (nI n)), (2, .int 0), (5, .int (nI j))]) hx hb dX10_stop_105 rfl hl (by decide) rfl (fun ls hl => ?_)
              refine lv_iinc (v := nI (j + 1)) (lv' := [(5, .int (nI (j + 1))), (3, .int (nI j)), (4, .int (uf_33 0)), (0, .ref x0), (1, .int (nI n)), (2, .int 0)]) hx hb dX10_stop_106 hl (k := 5) rfl (nI_1 j) (by decide) rfl (fun ls hl => ?_)
              refine lv_goto (tgt := 36) hx hb dX10_stop_109 (by decide) ?_
              exact ih36 (j + 1) (nI j) (uf_33 0) um_32 uf_33 us_34 (by omega) (by omega) _ _ _ (hP.sub [8, 9, 10, 11, 12, 13, 3, 14, 15, 4, 5, 6, 7, 0, 1, 2] rfl) (hD.sub [8, 9, 10, 11, 12, 13, 3, 14, 15, 4, 5, 6, 7, 0, 1, 2] (by decide) rfl) hS (lv_sub hl [3, 4, 5, 1, 2, 0] rfl)
      exact loop36 ((n + 1 - 0) + 1) 0 0 (-1) mo1 f1 sh (Nat.lt_succ_self _) (Nat.zero_le _) _ _ _ hP hD hS (lv_sub hl [3, 4, 5, 2, 1, 0] rfl)
set_option maxHeartbeats 4000000 in
set_option maxRecDepth 100000 in
theorem g_X10_stop1 (l : Launch) (g : he_G) (x0 : Nat) (y0 : Nat) (z0 : Nat) (dr : Nat) (pa : Nat) (s0 : Nat) (im : Nat) (tr : Nat) (v0 : Nat) (rf : Nat) (ta : Int32) (to_ : Int32) (ki : Int32) (p0 : Nat) (p1 : Nat) (p2 : Nat) (p3 : Nat) (p4 : Nat) (w : Nat) (sd : Nat → Int32) (fn : Nat → Int32) (st : Nat → Int32) (me : Nat → Int32) (a0 : Nat) (b0 : Nat) (e0 : Nat) (h0 : Nat) (q0 : Nat) (q1 : Nat) (mo : Int32) (f : Nat → Int32) (r0 : Nat) (r1 : Nat) (mo1 : Int32) (f1 : Nat → Int32) (sh : Nat → Int32) (n : Nat) (pf : Nat → Option Nat) (t0 : Nat) (t1 : Nat) (t2 : Nat) (pw : Int32) (pd : Nat → Int32) (wb : Nat → Int32) (ck : Nat) (ci : Nat) (hw6 : w ≤ 6) (hwb : ∀ k, k < 36 → -1 ≤ wb k) (hck : pd 3 = nI ck) (hc99 : ck ≤ 99) (hc7 : ci < 7) (hpf : pf ci = some t0) (hn1 : 1 ≤ n) (hn2 : n ≤ 60) (hF : (f 10 = nI ci ∨ he_within (f 10) 0 6 = 0)) : he_I l yX10_stop wsX10_stop 6 132 0 0 g [.ref x0, .int (nI n), .int 1] [(oX10 x0 y0 ta z0 p0 dr pa to_ s0 im ki tr v0 rf), (oX4 tr r0 r1 mo1), (aI g r0 24 f1), (aI g r1 6 sh), (oX6 p0 p1 p2 p3 p4 (nI w)), (aI g p1 24 sd), (aI g p2 10 fn), (aI g p3 6 st), (aI g p4 6 me), (aP g pa 7 pf), (oX5 t0 t1 t2 pw), (aI g t1 6 pd), (aI g t2 36 wb), (oX8 s0 h0 a0 b0 e0), (oX4 h0 q0 q1 mo), (aI g q0 24 f)] (fun (r : Int32) (u : Int32 × (Nat → Int32) × (Nat → Int32)) => True) (fun (u : Int32 × (Nat → Int32) × (Nat → Int32)) => [(oX10 x0 y0 ta z0 p0 dr pa to_ s0 im ki tr v0 rf), (oX4 tr r0 r1 u.1), (aI g r0 24 u.2.1), (aI g r1 6 u.2.2), (oX6 p0 p1 p2 p3 p4 (nI w)), (aI g p1 24 sd), (aI g p2 10 fn), (aI g p3 6 st), (aI g p4 6 me), (aP g pa 7 pf), (oX5 t0 t1 t2 pw), (aI g t1 6 pd), (aI g t2 36 wb), (oX8 s0 h0 a0 b0 e0), (oX4 h0 q0 q1 mo), (aI g q0 24 f)]) := by
  refine he_begin (l := l) (g := g) (y := yX10_stop) (wl := wsX10_stop) (fr := 6) (lo := 132) (mc := 0) (ms := 0) (av := [.ref x0, .int (nI n), .int 1]) (ws := [(oX10 x0 y0 ta z0 p0 dr pa to_ s0 im ki tr v0 rf), (oX4 tr r0 r1 mo1), (aI g r0 24 f1), (aI g r1 6 sh), (oX6 p0 p1 p2 p3 p4 (nI w)), (aI g p1 24 sd), (aI g p2 10 fn), (aI g p3 6 st), (aI g p4 6 me), (aP g pa 7 pf), (oX5 t0 t1 t2 pw), (aI g t1 6 pd), (aI g t2 36 wb), (oX8 s0 h0 a0 b0 e0), (oX4 h0 q0 q1 mo), (aI g q0 24 f)]) (cc := cX10_stop) (maxL := 6) (ret := (some .int)) (fun A => va_Qi (fun (r : Int32) (u : Int32 × (Nat → Int32) × (Nat → Int32)) => True) (fun u t => he_post g A ((fun (u : Int32 × (Nat → Int32) × (Nat → Int32)) => [(oX10 x0 y0 ta z0 p0 dr pa to_ s0 im ki tr v0 rf), (oX4 tr r0 r1 u.1), (aI g r0 24 u.2.1), (aI g r1 6 u.2.2), (oX6 p0 p1 p2 p3 p4 (nI w)), (aI g p1 24 sd), (aI g p2 10 fn), (aI g p3 6 st), (aI g p4 6 me), (aP g pa 7 pf), (oX5 t0 t1 t2 pw), (aI g t1 6 pd), (aI g t2 36 wb), (oX8 s0 h0 a0 b0 e0), (oX4 h0 q0 q1 mo), (aI g q0 24 f)]) u) t) A) (by decide) rfl (Nat.le_of_ble_eq_true rfl) ?_
  intro p e s m args below meth c A ls H locs Q hQ hB
  obtain ⟨hx, hb, hr, hml, hown, hts, hlk, hin, hP, hK, hD, hS, hA, hE, hl⟩ := hB
  have hl : lv_has ls 6 [(0, .ref x0), (1, .int (nI n)), (2, .int 1)] := hl
  have f50 := hts (.fieldLink RX10 50 "HiredEnemy" "trial" "LHiredEnemy$Course;") (iwoX10_stop (k := 0) rfl)
  have inX10 : ∀ w ∈ wsX100, w ∈ wsX10_stop := innX10_stop_X10
  have f39 := hts (.fieldLink RX10 39 "HiredEnemy" "scene" "LHiredEnemy$Scene;") (iwoX10_stop (k := 1) rfl)
  have f66 := hts (.fieldLink RX10 66 "HiredEnemy$Scene" "course" "LHiredEnemy$Course;") (iwoX10_stop (k := 2) rfl)
  have inX8 : ∀ w ∈ wsX80, w ∈ wsX10_stop := innX10_stop_X8
  have f111 := hts (.fieldLink RX10 111 "HiredEnemy$Course" "now" "[I") (iwoX10_stop (k := 3) rfl)
  have inX4 : ∀ w ∈ wsX40, w ∈ wsX10_stop := innX10_stop_X4
  refine lv_aload_n hx hb dX10_stop_0 rfl (lv_at hl 0 rfl) ?_
  refine lv_iload_n hx hb dX10_stop_1 rfl (lv_at hl 1 rfl) ?_
  refine lv_iconst (v := 1) hx hb dX10_stop_2 (by decide) ?_
  refine lv_bipush (v := 60) hx hb dX10_stop_3 (by decide) ?_
  refine he_ci (wc := []) (wr := [(oX10 x0 y0 ta z0 p0 dr pa to_ s0 im ki tr v0 rf), (oX4 tr r0 r1 mo1), (aI g r0 24 f1), (aI g r1 6 sh), (oX6 p0 p1 p2 p3 p4 (nI w)), (aI g p1 24 sd), (aI g p2 10 fn), (aI g p3 6 st), (aI g p4 6 me), (aP g pa 7 pf), (oX5 t0 t1 t2 pw), (aI g t1 6 pd), (aI g t2 36 wb), (oX8 s0 h0 a0 b0 e0), (oX4 h0 q0 q1 mo), (aI g q0 24 f)]) (va_runS (As := [.int (nI n), .int 1, .int 60]) (rest := [.ref x0]) ⟨hx, hb, hml, hown, hts⟩ (c_X10_within l g (nI n) 1 60 H.size) (va_cwS 3 hts gX10_stop_X10_within rfl rfl rfl (by decide +kernel) ⟨Nat.le_of_ble_eq_true rfl, Nat.le_of_ble_eq_true rfl⟩) (he_preS (wc := []) hK hP hD hS hA hE [] rfl rfl) rfl rfl hl.1 rfl (lv_room (Nat.le_of_ble_eq_true rfl)) dX10_stop_5 ⟨(Nat.le_of_ble_eq_true rfl), (Nat.le_of_ble_eq_true rfl)⟩) hP hD hS hA [] [0, 1, 2, 3, 4, 5, 6, 7, 8, 9, 10, 11, 12, 13, 14, 15] rfl rfl rfl (by decide) (fun r_1 u_2 H locs h_3 hP hD hS => ?_)
  subst h_3
  have hP : va_P g.1 vwCl [(oX10 x0 y0 ta z0 p0 dr pa to_ s0 im ki tr v0 rf), (oX4 tr r0 r1 mo1), (aI g r0 24 f1), (aI g r1 6 sh), (oX6 p0 p1 p2 p3 p4 (nI w)), (aI g p1 24 sd), (aI g p2 10 fn), (aI g p3 6 st), (aI g p4 6 me), (aP g pa 7 pf), (oX5 t0 t1 t2 pw), (aI g t1 6 pd), (aI g t2 36 wb), (oX8 s0 h0 a0 b0 e0), (oX4 h0 q0 q1 mo), (aI g q0 24 f)] H := hP
  have hD : va_D A [(oX10 x0 y0 ta z0 p0 dr pa to_ s0 im ki tr v0 rf), (oX4 tr r0 r1 mo1), (aI g r0 24 f1), (aI g r1 6 sh), (oX6 p0 p1 p2 p3 p4 (nI w)), (aI g p1 24 sd), (aI g p2 10 fn), (aI g p3 6 st), (aI g p4 6 me), (aP g pa 7 pf), (oX5 t0 t1 t2 pw), (aI g t1 6 pd), (aI g t2 36 wb), (oX8 s0 h0 a0 b0 e0), (oX4 h0 q0 q1 mo), (aI g q0 24 f)] := hD
  refine he_top (1) (he_within_in (a0 := 1) (B := 60) rfl rfl (by omega) (by omega) (by decide)) ?_
  refine lv_if_eq (tgt := 24) hx hb dX10_stop_8 (by decide) (fun c_4 => ?_) (fun c_4 => ?_)
  · exact absurd c_4 (by decide)
  · refine lv_iload_n hx hb dX10_stop_11 rfl (lv_at hl 2 rfl) ?_
    refine lv_iconst (v := 0) hx hb dX10_stop_12 (by decide) ?_
    refine lv_iconst (v := 1) hx hb dX10_stop_13 (by decide) ?_
    refine he_ci (wc := []) (wr := [(oX10 x0 y0 ta z0 p0 dr pa to_ s0 im ki tr v0 rf), (oX4 tr r0 r1 mo1), (aI g r0 24 f1), (aI g r1 6 sh), (oX6 p0 p1 p2 p3 p4 (nI w)), (aI g p1 24 sd), (aI g p2 10 fn), (aI g p3 6 st), (aI g p4 6 me), (aP g pa 7 pf), (oX5 t0 t1 t2 pw), (aI g t1 6 pd), (aI g t2 36 wb), (oX8 s0 h0 a0 b0 e0), (oX4 h0 q0 q1 mo), (aI g q0 24 f)]) (va_runS (As := [.int 1, .int 0, .int 1]) (rest := [.ref x0]) ⟨hx, hb, hml, hown, hts⟩ (c_X10_within l g 1 0 1 H.size) (va_cwS 3 hts gX10_stop_X10_within rfl rfl rfl (by decide +kernel) ⟨Nat.le_of_ble_eq_true rfl, Nat.le_of_ble_eq_true rfl⟩) (he_preS (wc := []) hK hP hD hS hA hE [] rfl rfl) rfl rfl hl.1 rfl (lv_room (Nat.le_of_ble_eq_true rfl)) dX10_stop_14 ⟨(Nat.le_of_ble_eq_true rfl), (Nat.le_of_ble_eq_true rfl)⟩) hP hD hS hA [] [0, 1, 2, 3, 4, 5, 6, 7, 8, 9, 10, 11, 12, 13, 14, 15] rfl rfl rfl (by decide) (fun r_5 u_6 H locs h_7 hP hD hS => ?_)
    subst h_7
    have hP : va_P g.1 vwCl [(oX10 x0 y0 ta z0 p0 dr pa to_ s0 im ki tr v0 rf), (oX4 tr r0 r1 mo1), (aI g r0 24 f1), (aI g r1 6 sh), (oX6 p0 p1 p2 p3 p4 (nI w)), (aI g p1 24 sd), (aI g p2 10 fn), (aI g p3 6 st), (aI g p4 6 me), (aP g pa 7 pf), (oX5 t0 t1 t2 pw), (aI g t1 6 pd), (aI g t2 36 wb), (oX8 s0 h0 a0 b0 e0), (oX4 h0 q0 q1 mo), (aI g q0 24 f)] H := hP
    have hD : va_D A [(oX10 x0 y0 ta z0 p0 dr pa to_ s0 im ki tr v0 rf), (oX4 tr r0 r1 mo1), (aI g r0 24 f1), (aI g r1 6 sh), (oX6 p0 p1 p2 p3 p4 (nI w)), (aI g p1 24 sd), (aI g p2 10 fn), (aI g p3 6 st), (aI g p4 6 me), (aP g pa 7 pf), (oX5 t0 t1 t2 pw), (aI g t1 6 pd), (aI g t2 36 wb), (oX8 s0 h0 a0 b0 e0), (oX4 h0 q0 q1 mo), (aI g q0 24 f)] := hD
    refine he_top (1) (by decide) ?_
    refine lv_if_eq (tgt := 24) hx hb dX10_stop_17 (by decide) (fun c_8 => ?_) (fun c_8 => ?_)
    · exact absurd c_8 (by decide)
    · refine lv_iconst (v := 1) hx hb dX10_stop_20 (by decide) ?_
      refine lv_goto (tgt := 25) hx hb dX10_stop_21 (by decide) ?_
      refine he_cv (wc := []) (wr := [(oX10 x0 y0 ta z0 p0 dr pa to_ s0 im ki tr v0 rf), (oX4 tr r0 r1 mo1), (aI g r0 24 f1), (aI g r1 6 sh), (oX6 p0 p1 p2 p3 p4 (nI w)), (aI g p1 24 sd), (aI g p2 10 fn), (aI g p3 6 st), (aI g p4 6 me), (aP g pa 7 pf), (oX5 t0 t1 t2 pw), (aI g t1 6 pd), (aI g t2 36 wb), (oX8 s0 h0 a0 b0 e0), (oX4 h0 q0 q1 mo), (aI g q0 24 f)]) (va_runV (As := [.int 1]) (rest := []) ⟨hx, hb, hml, hown, hts⟩ (c_X10_demand1 l g x0 H.size) (cwV 1 hts gX10_stop_X10_demand rfl rfl rfl (by decide +kernel) ⟨Nat.le_of_ble_eq_true rfl, Nat.le_of_ble_eq_true rfl⟩) (he_preV (wc := []) hK hP hD hS hA hE [] rfl rfl 0 rfl rfl) rfl rfl hl.1 rfl (lv_room (Nat.le_of_ble_eq_true rfl)) dX10_stop_25 ⟨(Nat.le_of_ble_eq_true rfl), (Nat.le_of_ble_eq_true rfl)⟩) hP hD hS hA [] [0, 1, 2, 3, 4, 5, 6, 7, 8, 9, 10, 11, 12, 13, 14, 15] rfl rfl rfl (by decide) (fun u_10 H locs h_11 hP hD hS => ?_)
      have hP : va_P g.1 vwCl [(oX10 x0 y0 ta z0 p0 dr pa to_ s0 im ki tr v0 rf), (oX4 tr r0 r1 mo1), (aI g r0 24 f1), (aI g r1 6 sh), (oX6 p0 p1 p2 p3 p4 (nI w)), (aI g p1 24 sd), (aI g p2 10 fn), (aI g p3 6 st), (aI g p4 6 me), (aP g pa 7 pf), (oX5 t0 t1 t2 pw), (aI g t1 6 pd), (aI g t2 36 wb), (oX8 s0 h0 a0 b0 e0), (oX4 h0 q0 q1 mo), (aI g q0 24 f)] H := hP
      have hD : va_D A [(oX10 x0 y0 ta z0 p0 dr pa to_ s0 im ki tr v0 rf), (oX4 tr r0 r1 mo1), (aI g r0 24 f1), (aI g r1 6 sh), (oX6 p0 p1 p2 p3 p4 (nI w)), (aI g p1 24 sd), (aI g p2 10 fn), (aI g p3 6 st), (aI g p4 6 me), (aP g pa 7 pf), (oX5 t0 t1 t2 pw), (aI g t1 6 pd), (aI g t2 36 wb), (oX8 s0 h0 a0 b0 e0), (oX4 h0 q0 q1 mo), (aI g q0 24 f)] := hD
      refine lv_iconst (v := 0) hx hb dX10_stop_28 (by decide) ?_
      refine lv_istore_n (lv' := [(3, .int 0), (0, .ref x0), (1, .int (nI n)), (2, .int 1)]) hx hb dX10_stop_29 rfl hl (by decide) rfl (fun ls hl => ?_)
      refine lv_iconst (v := (-1)) hx hb dX10_stop_30 (by decide) ?_
      refine lv_istore (lv' := [(4, .int (-1)), (3, .int 0), (0, .ref x0), (1, .int (nI n)), (2, .int 1)]) hx hb dX10_stop_31 hl (by decide) rfl (fun ls hl => ?_)
      refine lv_iconst (v := 0) hx hb dX10_stop_33 (by decide) ?_
      refine lv_istore (lv' := [(5, .int 0), (4, .int (-1)), (3, .int 0), (0, .ref x0), (1, .int (nI n)), (2, .int 1)]) hx hb dX10_stop_34 hl (by decide) rfl (fun ls hl => ?_)
      have loop36 : ∀ (n9 : Nat) (j : Nat) (bm : Int32) (ms : Int32) (mj : Int32) (F : Nat → Int32) (G : Nat → Int32), n + 1 - j < n9 → (j ≤ n + 1) → ∀ (H : Heap) (locs : List Loc) (ls : Array Slot), va_P g.1 vwCl [(oX10 x0 y0 ta z0 p0 dr pa to_ s0 im ki tr v0 rf), (oX4 tr r0 r1 mj), (aI g r0 24 F), (aI g r1 6 G), (oX6 p0 p1 p2 p3 p4 (nI w)), (aI g p1 24 sd), (aI g p2 10 fn), (aI g p3 6 st), (aI g p4 6 me), (aP g pa 7 pf), (oX5 t0 t1 t2 pw), (aI g t1 6 pd), (aI g t2 36 wb), (oX8 s0 h0 a0 b0 e0), (oX4 h0 q0 q1 mo), (aI g q0 24 f)] H → va_D A [(oX10 x0 y0 ta z0 p0 dr pa to_ s0 im ki tr v0 rf), (oX4 tr r0 r1 mj), (aI g r0 24 F), (aI g r1 6 G), (oX6 p0 p1 p2 p3 p4 (nI w)), (aI g p1 24 sd), (aI g p2 10 fn), (aI g p3 6 st), (aI g p4 6 me), (aP g pa 7 pf), (oX5 t0 t1 t2 pw), (aI g t1 6 pd), (aI g t2 36 wb), (oX8 s0 h0 a0 b0 e0), (oX4 h0 q0 q1 mo), (aI g q0 24 f)] → va_S A s.heap H locs → lv_has ls 6 [(0, .ref x0), (1, .int (nI n)), (2, .int 1), (3, .int bm), (4, .int ms), (5, .int (nI j))] → W p l e (he_room 6 132 0 0) s m args below meth c H locs 0 0 Q (F0 m 36 ls []) := by
        intro n9
        induction n9 with
        | zero => intro j bm ms mj F G hm9; exact absurd hm9 (Nat.not_lt_zero _)
        | succ n9 ih36 =>
          intro j bm ms mj F G hm9 hj H locs ls hP hD hS hl
          refine lv_iload hx hb dX10_stop_36 (lv_at hl 5 rfl) ?_
          refine lv_iload_n hx hb dX10_stop_38 rfl (lv_at hl 1 rfl) ?_
          refine lv_icmp_gt (tgt := 112) hx hb dX10_stop_39 (by decide) (fun c_12 => ?_) (fun c_12 => ?_)
          · have k_13 : n < j := (he_clt (a := n) (b := j) rfl rfl (by omega) (by omega)).mp c_12
            refine lv_iload_n hx hb dX10_stop_112 rfl (lv_at hl 2 rfl) ?_
            refine lv_if_ne (tgt := 120) hx hb dX10_stop_113 (by decide) (fun c_14 => ?_) (fun c_14 => ?_)
            · refine lv_iload hx hb dX10_stop_120 (lv_at hl 4 rfl) ?_
              exact he_ri hQ hx hb hr hlk hP hD hS dX10_stop_122 (Nat.le_of_ble_eq_true rfl) (Nat.le_of_ble_eq_true rfl) ((mj, F, G)) (rfl) (trivial)
            · exact absurd c_14 (by decide)
          · have k_15 : ¬ (n < j) := fun h9 => c_12 ((he_clt (a := n) (b := j) rfl rfl (by omega) (by omega)).mpr h9)
            refine lv_aload_n hx hb dX10_stop_42 rfl (lv_at hl 0 rfl) ?_
            refine va_get (v := .ref tr) (T := TX10) (N := 13) hx hb hts inX10 hown hK hP 0 rfl rfl 10 (by decide) f50 (fun _ h9 => h9) rfl dX10_stop_43 ?_
            refine lv_aload_n hx hb dX10_stop_46 rfl (lv_at hl 0 rfl) ?_
            refine va_get (v := .ref s0) (T := TX10) (N := 13) hx hb hts inX10 hown hK hP 0 rfl rfl 7 (by decide) f39 (fun _ h9 => h9) rfl dX10_stop_47 ?_
            refine va_get (v := .ref h0) (T := TX8) (N := 4) hx hb hts inX8 hown hK hP 13 rfl rfl 0 (by decide) f66 (fun _ h9 => h9) rfl dX10_stop_50 ?_
            refine he_cv (wc := [(oX4 tr r0 r1 mj), (aI g r0 24 F), (oX4 h0 q0 q1 mo), (aI g q0 24 f)]) (wr := [(oX10 x0 y0 ta z0 p0 dr pa to_ s0 im ki tr v0 rf), (aI g r1 6 G), (oX6 p0 p1 p2 p3 p4 (nI w)), (aI g p1 24 sd), (aI g p2 10 fn), (aI g p3 6 st), (aI g p4 6 me), (aP g pa 7 pf), (oX5 t0 t1 t2 pw), (aI g t1 6 pd), (aI g t2 36 wb), (oX8 s0 h0 a0 b0 e0)]) (va_runV (As := [.ref h0]) (rest := []) ⟨hx, hb, hml, hown, hts⟩ (c_X4_take l g tr r0 r1 mj F h0 q0 q1 mo f H.size) (cwV 1 hts gX10_stop_X4_take rfl rfl rfl (by decide +kernel) ⟨Nat.le_of_ble_eq_true rfl, Nat.le_of_ble_eq_true rfl⟩) (he_preV (wc := [(oX4 tr r0 r1 mj), (aI g r0 24 F), (oX4 h0 q0 q1 mo), (aI g q0 24 f)]) hK hP hD hS hA hE [1, 2, 14, 15] rfl rfl 1 rfl rfl) rfl rfl hl.1 rfl (lv_room (Nat.le_of_ble_eq_true rfl)) dX10_stop_53 ⟨(Nat.le_of_ble_eq_true rfl), (Nat.le_of_ble_eq_true rfl)⟩) hP hD hS hA [1, 2, 14, 15] [0, 3, 4, 5, 6, 7, 8, 9, 10, 11, 12, 13] rfl rfl rfl (by decide) (fun u_17 H locs h_18 hP hD hS => ?_)
            have hP : va_P g.1 vwCl [(oX10 x0 y0 ta z0 p0 dr pa to_ s0 im ki tr v0 rf), (aI g r1 6 G), (oX6 p0 p1 p2 p3 p4 (nI w)), (aI g p1 24 sd), (aI g p2 10 fn), (aI g p3 6 st), (aI g p4 6 me), (aP g pa 7 pf), (oX5 t0 t1 t2 pw), (aI g t1 6 pd), (aI g t2 36 wb), (oX8 s0 h0 a0 b0 e0), (oX4 tr r0 r1 mo), (aI g r0 24 (va_cpy f F 0 0 24)), (oX4 h0 q0 q1 mo), (aI g q0 24 f)] H := hP
            have hD : va_D A [(oX10 x0 y0 ta z0 p0 dr pa to_ s0 im ki tr v0 rf), (aI g r1 6 G), (oX6 p0 p1 p2 p3 p4 (nI w)), (aI g p1 24 sd), (aI g p2 10 fn), (aI g p3 6 st), (aI g p4 6 me), (aP g pa 7 pf), (oX5 t0 t1 t2 pw), (aI g t1 6 pd), (aI g t2 36 wb), (oX8 s0 h0 a0 b0 e0), (oX4 tr r0 r1 mo), (aI g r0 24 (va_cpy f F 0 0 24)), (oX4 h0 q0 q1 mo), (aI g q0 24 f)] := hD
            refine lv_aload_n hx hb dX10_stop_56 rfl (lv_at hl 0 rfl) ?_
            refine lv_iload hx hb dX10_stop_57 (lv_at hl 5 rfl) ?_
            refine he_cv (wc := [(oX10 x0 y0 ta z0 p0 dr pa to_ s0 im ki tr v0 rf), (oX4 tr r0 r1 mo), (aI g r0 24 (va_cpy f F 0 0 24)), (aI g r1 6 G), (oX6 p0 p1 p2 p3 p4 (nI w)), (aI g p1 24 sd), (aI g p2 10 fn), (aI g p3 6 st), (aI g p4 6 me), (aP g pa 7 pf), (oX5 t0 t1 t2 pw), (aI g t1 6 pd), (aI g t2 36 wb)]) (wr := [(oX8 s0 h0 a0 b0 e0), (oX4 h0 q0 q1 mo), (aI g q0 24 f)]) (va_runV (As := [.int (nI j)]) (rest := []) ⟨hx, hb, hml, hown, hts⟩ (g_X10_passTried l g x0 y0 z0 dr pa s0 im tr v0 rf ta to_ ki p0 p1 p2 p3 p4 w sd fn st me r0 r1 mo (va_cpy f F 0 0 24) G j pf t0 t1 t2 pw pd wb ck ci (by first | assumption | decide | omega) (by first | assumption | decide | omega) (by first | assumption | decide | omega) (by first | assumption | decide | omega) (by first | assumption | decide | omega) (by first | assumption | decide | omega) (by rw [cpy_in (by decide)]; exact hF) (by omega) H.size) (cwV 1 hts gX10_stop_X10_passTried rfl rfl rfl (by decide +kernel) ⟨Nat.le_of_ble_eq_true rfl, Nat.le_of_ble_eq_true rfl⟩) (he_preV (wc := [(oX10 x0 y0 ta z0 p0 dr pa to_ s0 im ki tr v0 rf), (oX4 tr r0 r1 mo), (aI g r0 24 (va_cpy f F 0 0 24)), (aI g r1 6 G), (oX6 p0 p1 p2 p3 p4 (nI w)), (aI g p1 24 sd), (aI g p2 10 fn), (aI g p3 6 st), (aI g p4 6 me), (aP g pa 7 pf), (oX5 t0 t1 t2 pw), (aI g t1 6 pd), (aI g t2 36 wb)]) hK hP hD hS hA hE [0, 12, 13, 1, 2, 3, 4, 5, 6, 7, 8, 9, 10] rfl rfl 0 rfl rfl) rfl rfl hl.1 rfl (lv_room (Nat.le_of_ble_eq_true rfl)) dX10_stop_59 ⟨(Nat.le_of_ble_eq_true rfl), (Nat.le_of_ble_eq_true rfl)⟩) hP hD hS hA [0, 12, 13, 1, 2, 3, 4, 5, 6, 7, 8, 9, 10] [11, 14, 15] rfl rfl rfl (by decide) (fun u_20 H locs h_21 hP hD hS => ?_)
            obtain ⟨um_22, uf_23, us_24⟩ := u_20
            try dsimp only at h_21
            have hf_25 := h_21
            have hP : va_P g.1 vwCl [(oX8 s0 h0 a0 b0 e0), (oX4 h0 q0 q1 mo), (aI g q0 24 f), (oX10 x0 y0 ta z0 p0 dr pa to_ s0 im ki tr v0 rf), (oX4 tr r0 r1 um_22), (aI g r0 24 uf_23), (aI g r1 6 us_24), (oX6 p0 p1 p2 p3 p4 (nI w)), (aI g p1 24 sd), (aI g p2 10 fn), (aI g p3 6 st), (aI g p4 6 me), (aP g pa 7 pf), (oX5 t0 t1 t2 pw), (aI g t1 6 pd), (aI g t2 36 wb)] H := hP
            have hD : va_D A [(oX8 s0 h0 a0 b0 e0), (oX4 h0 q0 q1 mo), (aI g q0 24 f), (oX10 x0 y0 ta z0 p0 dr pa to_ s0 im ki tr v0 rf), (oX4 tr r0 r1 um_22), (aI g r0 24 uf_23), (aI g r1 6 us_24), (oX6 p0 p1 p2 p3 p4 (nI w)), (aI g p1 24 sd), (aI g p2 10 fn), (aI g p3 6 st), (aI g p4 6 me), (aP g pa 7 pf), (oX5 t0 t1 t2 pw), (aI g t1 6 pd), (aI g t2 36 wb)] := hD
            refine lv_aload_n hx hb dX10_stop_62 rfl (lv_at hl 0 rfl) ?_
            refine va_get (v := .ref tr) (T := TX10) (N := 13) hx hb hts inX10 hown hK hP 3 rfl rfl 10 (by decide) f50 (fun _ h9 => h9) rfl dX10_stop_63 ?_
            refine lv_iconst (v := (-1)) hx hb dX10_stop_66 (by decide) ?_
            refine he_cv (wc := [(oX4 tr r0 r1 um_22), (aI g r0 24 uf_23)]) (wr := [(oX8 s0 h0 a0 b0 e0), (oX4 h0 q0 q1 mo), (aI g q0 24 f), (oX10 x0 y0 ta z0 p0 dr pa to_ s0 im ki tr v0 rf), (aI g r1 6 us_24), (oX6 p0 p1 p2 p3 p4 (nI w)), (aI g p1 24 sd), (aI g p2 10 fn), (aI g p3 6 st), (aI g p4 6 me), (aP g pa 7 pf), (oX5 t0 t1 t2 pw), (aI g t1 6 pd), (aI g t2 36 wb)]) (va_runV (As := [.int (-1)]) (rest := []) ⟨hx, hb, hml, hown, hts⟩ (c_X4_pledge l g tr r0 r1 um_22 uf_23 (-1) H.size) (cwV 1 hts gX10_stop_X4_pledge rfl rfl rfl (by decide +kernel) ⟨Nat.le_of_ble_eq_true rfl, Nat.le_of_ble_eq_true rfl⟩) (he_preV (wc := [(oX4 tr r0 r1 um_22), (aI g r0 24 uf_23)]) hK hP hD hS hA hE [4, 5] rfl rfl 4 rfl rfl) rfl rfl hl.1 rfl (lv_room (Nat.le_of_ble_eq_true rfl)) dX10_stop_67 ⟨(Nat.le_of_ble_eq_true rfl), (Nat.le_of_ble_eq_true rfl)⟩) hP hD hS hA [4, 5] [0, 1, 2, 3, 6, 7, 8, 9, 10, 11, 12, 13, 14, 15] rfl rfl rfl (by decide) (fun u_27 H locs h_28 hP hD hS => ?_)
            have hP : va_P g.1 vwCl [(oX8 s0 h0 a0 b0 e0), (oX4 h0 q0 q1 mo), (aI g q0 24 f), (oX10 x0 y0 ta z0 p0 dr pa to_ s0 im ki tr v0 rf), (aI g r1 6 us_24), (oX6 p0 p1 p2 p3 p4 (nI w)), (aI g p1 24 sd), (aI g p2 10 fn), (aI g p3 6 st), (aI g p4 6 me), (aP g pa 7 pf), (oX5 t0 t1 t2 pw), (aI g t1 6 pd), (aI g t2 36 wb), (oX4 tr r0 r1 um_22), (aI g r0 24 (fcF uf_23 (-1) um_22))] H := hP
            have hD : va_D A [(oX8 s0 h0 a0 b0 e0), (oX4 h0 q0 q1 mo), (aI g q0 24 f), (oX10 x0 y0 ta z0 p0 dr pa to_ s0 im ki tr v0 rf), (aI g r1 6 us_24), (oX6 p0 p1 p2 p3 p4 (nI w)), (aI g p1 24 sd), (aI g p2 10 fn), (aI g p3 6 st), (aI g p4 6 me), (aP g pa 7 pf), (oX5 t0 t1 t2 pw), (aI g t1 6 pd), (aI g t2 36 wb), (oX4 tr r0 r1 um_22), (aI g r0 24 (fcF uf_23 (-1) um_22))] := hD
            refine lv_aload_n hx hb dX10_stop_70 rfl (lv_at hl 0 rfl) ?_
            refine lv_iload_n hx hb dX10_stop_71 rfl (lv_at hl 1 rfl) ?_
            refine lv_iload hx hb dX10_stop_72 (lv_at hl 5 rfl) ?_
            refine lv_isub hx hb dX10_stop_74 ?_
            refine he_top (nI (n - j)) (pk_sub (by omega)) ?_
            refine he_cv (wc := [(oX10 x0 y0 ta z0 p0 dr pa to_ s0 im ki tr v0 rf), (oX4 tr r0 r1 um_22), (aI g r0 24 (fcF uf_23 (-1) um_22)), (aI g r1 6 us_24), (oX6 p0 p1 p2 p3 p4 (nI w)), (aI g p1 24 sd), (aI g p3 6 st), (aI g p4 6 me)]) (wr := [(oX8 s0 h0 a0 b0 e0), (oX4 h0 q0 q1 mo), (aI g q0 24 f), (aI g p2 10 fn), (aP g pa 7 pf), (oX5 t0 t1 t2 pw), (aI g t1 6 pd), (aI g t2 36 wb)]) (va_runV (As := [.int (nI (n - j))]) (rest := []) ⟨hx, hb, hml, hown, hts⟩ (g_X10_passTriedN l g x0 y0 z0 dr pa s0 im tr v0 rf ta to_ ki p0 p1 p2 p3 p4 w sd st me r0 r1 um_22 (fcF uf_23 (-1) um_22) us_24 (n - j) (by first | assumption | decide | omega) (by rw [fcF_10]; exact m1_out 6) (by omega) H.size) (cwV 1 hts gX10_stop_X10_passTried rfl rfl rfl (by decide +kernel) ⟨Nat.le_of_ble_eq_true rfl, Nat.le_of_ble_eq_true rfl⟩) (he_preV (wc := [(oX10 x0 y0 ta z0 p0 dr pa to_ s0 im ki tr v0 rf), (oX4 tr r0 r1 um_22), (aI g r0 24 (fcF uf_23 (-1) um_22)), (aI g r1 6 us_24), (oX6 p0 p1 p2 p3 p4 (nI w)), (aI g p1 24 sd), (aI g p3 6 st), (aI g p4 6 me)]) hK hP hD hS hA hE [3, 14, 15, 4, 5, 6, 8, 9] rfl rfl 3 rfl rfl) rfl rfl hl.1 rfl (lv_room (Nat.le_of_ble_eq_true rfl)) dX10_stop_75 ⟨(Nat.le_of_ble_eq_true rfl), (Nat.le_of_ble_eq_true rfl)⟩) hP hD hS hA [3, 14, 15, 4, 5, 6, 8, 9] [0, 1, 2, 7, 10, 11, 12, 13] rfl rfl rfl (by decide) (fun u_30 H locs h_31 hP hD hS => ?_)
            obtain ⟨um_32, uf_33, us_34⟩ := u_30
            have hP : va_P g.1 vwCl [(oX8 s0 h0 a0 b0 e0), (oX4 h0 q0 q1 mo), (aI g q0 24 f), (aI g p2 10 fn), (aP g pa 7 pf), (oX5 t0 t1 t2 pw), (aI g t1 6 pd), (aI g t2 36 wb), (oX10 x0 y0 ta z0 p0 dr pa to_ s0 im ki tr v0 rf), (oX4 tr r0 r1 um_32), (aI g r0 24 uf_33), (aI g r1 6 us_34), (oX6 p0 p1 p2 p3 p4 (nI w)), (aI g p1 24 sd), (aI g p3 6 st), (aI g p4 6 me)] H := hP
            have hD : va_D A [(oX8 s0 h0 a0 b0 e0), (oX4 h0 q0 q1 mo), (aI g q0 24 f), (aI g p2 10 fn), (aP g pa 7 pf), (oX5 t0 t1 t2 pw), (aI g t1 6 pd), (aI g t2 36 wb), (oX10 x0 y0 ta z0 p0 dr pa to_ s0 im ki tr v0 rf), (oX4 tr r0 r1 um_32), (aI g r0 24 uf_33), (aI g r1 6 us_34), (oX6 p0 p1 p2 p3 p4 (nI w)), (aI g p1 24 sd), (aI g p3 6 st), (aI g p4 6 me)] := hD
            refine lv_aload_n hx hb dX10_stop_78 rfl (lv_at hl 0 rfl) ?_
            refine va_get (v := .ref tr) (T := TX10) (N := 13) hx hb hts inX10 hown hK hP 8 rfl rfl 10 (by decide) f50 (fun _ h9 => h9) rfl dX10_stop_79 ?_
            refine va_get (v := .ref r0) (T := TX4) (N := 3) hx hb hts inX4 hown hK hP 9 rfl rfl 0 (by decide) f111 (fun _ h9 => h9) rfl dX10_stop_82 ?_
            refine lv_iconst (v := 0) hx hb dX10_stop_85 (by decide) ?_
            refine he_iald hx hb hK hP 10 rfl (0) (by decide) (by decide) (by first | decide | assumption) (uf_33 0) rfl dX10_stop_86 ?_
            refine lv_iload hx hb dX10_stop_87 (lv_at hl 4 rfl) ?_
            refine lv_icmp_le (tgt := 106) hx hb dX10_stop_89 (by decide) (fun c_35 => ?_) (fun c_35 => ?_)
            · refine lv_iinc (v := nI (j + 1)) (lv' := [(5, .int (nI (j + 1))), (0, .ref x0), (1, .int (nI n)), (2, .int 1), (3, .int bm), (4, .int ms)]) hx hb dX10_stop_106 hl (k := 5) rfl (nI_1 j) (by decide) rfl (fun ls hl => ?_)
              refine lv_goto (tgt := 36) hx hb dX10_stop_109 (by decide) ?_
              exact ih36 (j + 1) bm ms um_32 uf_33 us_34 (by omega) (by omega) _ _ _ (hP.sub [8, 9, 10, 11, 12, 13, 3, 14, 15, 4, 5, 6, 7, 0, 1, 2] rfl) (hD.sub [8, 9, 10, 11, 12, 13, 3, 14, 15, 4, 5, 6, 7, 0, 1, 2] (by decide) rfl) hS (lv_sub hl [1, 2, 3, 4, 5, 0] rfl)
            · refine lv_aload_n hx hb dX10_stop_92 rfl (lv_at hl 0 rfl) ?_
              refine va_get (v := .ref tr) (T := TX10) (N := 13) hx hb hts inX10 hown hK hP 8 rfl rfl 10 (by decide) f50 (fun _ h9 => h9) rfl dX10_stop_93 ?_
              refine va_get (v := .ref r0) (T := TX4) (N := 3) hx hb hts inX4 hown hK hP 9 rfl rfl 0 (by decide) f111 (fun _ h9 => h9) rfl dX10_stop_96 ?_
              refine lv_iconst (v := 0) hx hb dX10_stop_99 (by decide) ?_
              refine he_iald hx hb hK hP 10 rfl (0) (by decide) (by decide) (by first | decide | assumption) (uf_33 0) rfl dX10_stop_100 ?_
              refine lv_istore (lv' := [(4, .int (uf_33 0)), (0, .ref x0), (1, .int (nI n)), (2, .int 1), (3, .int bm), (5, .int (nI j))]) hx hb dX10_stop_101 hl (by decide) rfl (fun ls hl => ?_)
              refine lv_iload hx hb dX10_stop_103 (lv_at hl 5 rfl) ?_
              refine lv_istore_n (lv' := [(3, .int (nI j)), (4, .int (uf_33 0)), (0, .ref x0), (1, .int (nI n)), (2, .int 1), (5, .int (nI j))]) hx hb dX10_stop_105 rfl hl (by decide) rfl (fun ls hl => ?_)
              refine lv_iinc (v := nI (j + 1)) (lv' := [(5, .int (nI (j + 1))), (3, .int (nI j)), (4, .int (uf_33 0)), (0, .ref x0), (1, .int (nI n)), (2, .int 1)]) hx hb dX10_stop_106 hl (k := 5) rfl (nI_1 j) (by decide) rfl (fun ls hl => ?_)
              refine lv_goto (tgt := 36) hx hb dX10_stop_109 (by decide) ?_
              exact ih36 (j + 1) (nI j) (uf_33 0) um_32 uf_33 us_34 (by omega) (by omega) _ _ _ (hP.sub [8, 9, 10, 11, 12, 13, 3, 14, 15, 4, 5, 6, 7, 0, 1, 2] rfl) (hD.sub [8, 9, 10, 11, 12, 13, 3, 14, 15, 4, 5, 6, 7, 0, 1, 2] (by decide) rfl) hS (lv_sub hl [3, 4, 5, 1, 2, 0] rfl)
      exact loop36 ((n + 1 - 0) + 1) 0 0 (-1) mo1 f1 sh (Nat.lt_succ_self _) (Nat.zero_le _) _ _ _ hP hD hS (lv_sub hl [3, 4, 5, 2, 1, 0] rfl)
set_option maxHeartbeats 4000000 in
set_option maxRecDepth 100000 in
theorem g_X10_stopN0 (l : Launch) (g : he_G) (x0 : Nat) (y0 : Nat) (z0 : Nat) (dr : Nat) (pa : Nat) (s0 : Nat) (im : Nat) (tr : Nat) (v0 : Nat) (rf : Nat) (ta : Int32) (to_ : Int32) (ki : Int32) (p0 : Nat) (p1 : Nat) (p2 : Nat) (p3 : Nat) (p4 : Nat) (w : Nat) (sd : Nat → Int32) (st : Nat → Int32) (me : Nat → Int32) (a0 : Nat) (b0 : Nat) (e0 : Nat) (h0 : Nat) (q0 : Nat) (q1 : Nat) (mo : Int32) (f : Nat → Int32) (r0 : Nat) (r1 : Nat) (mo1 : Int32) (f1 : Nat → Int32) (sh : Nat → Int32) (n : Nat) (hw6 : w ≤ 6) (hn1 : 1 ≤ n) (hn2 : n ≤ 60) (hno : he_within (f 10) 0 6 = 0) : he_I l yX10_stop wsX10_stop 5 105 0 0 g [.ref x0, .int (nI n), .int 0] [(oX10 x0 y0 ta z0 p0 dr pa to_ s0 im ki tr v0 rf), (oX4 tr r0 r1 mo1), (aI g r0 24 f1), (aI g r1 6 sh), (oX6 p0 p1 p2 p3 p4 (nI w)), (aI g p1 24 sd), (aI g p3 6 st), (aI g p4 6 me), (oX8 s0 h0 a0 b0 e0), (oX4 h0 q0 q1 mo), (aI g q0 24 f)] (fun (r : Int32) (u : Int32 × (Nat → Int32) × (Nat → Int32)) => True) (fun (u : Int32 × (Nat → Int32) × (Nat → Int32)) => [(oX10 x0 y0 ta z0 p0 dr pa to_ s0 im ki tr v0 rf), (oX4 tr r0 r1 u.1), (aI g r0 24 u.2.1), (aI g r1 6 u.2.2), (oX6 p0 p1 p2 p3 p4 (nI w)), (aI g p1 24 sd), (aI g p3 6 st), (aI g p4 6 me), (oX8 s0 h0 a0 b0 e0), (oX4 h0 q0 q1 mo), (aI g q0 24 f)]) := by
  refine he_begin (l := l) (g := g) (y := yX10_stop) (wl := wsX10_stop) (fr := 5) (lo := 105) (mc := 0) (ms := 0) (av := [.ref x0, .int (nI n), .int 0]) (ws := [(oX10 x0 y0 ta z0 p0 dr pa to_ s0 im ki tr v0 rf), (oX4 tr r0 r1 mo1), (aI g r0 24 f1), (aI g r1 6 sh), (oX6 p0 p1 p2 p3 p4 (nI w)), (aI g p1 24 sd), (aI g p3 6 st), (aI g p4 6 me), (oX8 s0 h0 a0 b0 e0), (oX4 h0 q0 q1 mo), (aI g q0 24 f)]) (cc := cX10_stop) (maxL := 6) (ret := (some .int)) (fun A => va_Qi (fun (r : Int32) (u : Int32 × (Nat → Int32) × (Nat → Int32)) => True) (fun u t => he_post g A ((fun (u : Int32 × (Nat → Int32) × (Nat → Int32)) => [(oX10 x0 y0 ta z0 p0 dr pa to_ s0 im ki tr v0 rf), (oX4 tr r0 r1 u.1), (aI g r0 24 u.2.1), (aI g r1 6 u.2.2), (oX6 p0 p1 p2 p3 p4 (nI w)), (aI g p1 24 sd), (aI g p3 6 st), (aI g p4 6 me), (oX8 s0 h0 a0 b0 e0), (oX4 h0 q0 q1 mo), (aI g q0 24 f)]) u) t) A) (by decide) rfl (Nat.le_of_ble_eq_true rfl) ?_
  intro p e s m args below meth c A ls H locs Q hQ hB
  obtain ⟨hx, hb, hr, hml, hown, hts, hlk, hin, hP, hK, hD, hS, hA, hE, hl⟩ := hB
  have hl : lv_has ls 6 [(0, .ref x0), (1, .int (nI n)), (2, .int 0)] := hl
  have f50 := hts (.fieldLink RX10 50 "HiredEnemy" "trial" "LHiredEnemy$Course;") (iwoX10_stop (k := 0) rfl)
  have inX10 : ∀ w ∈ wsX100, w ∈ wsX10_stop := innX10_stop_X10
  have f39 := hts (.fieldLink RX10 39 "HiredEnemy" "scene" "LHiredEnemy$Scene;") (iwoX10_stop (k := 1) rfl)
  have f66 := hts (.fieldLink RX10 66 "HiredEnemy$Scene" "course" "LHiredEnemy$Course;") (iwoX10_stop (k := 2) rfl)
  have inX8 : ∀ w ∈ wsX80, w ∈ wsX10_stop := innX10_stop_X8
  have f111 := hts (.fieldLink RX10 111 "HiredEnemy$Course" "now" "[I") (iwoX10_stop (k := 3) rfl)
  have inX4 : ∀ w ∈ wsX40, w ∈ wsX10_stop := innX10_stop_X4
  refine lv_aload_n hx hb dX10_stop_0 rfl (lv_at hl 0 rfl) ?_
  refine lv_iload_n hx hb dX10_stop_1 rfl (lv_at hl 1 rfl) ?_
  refine lv_iconst (v := 1) hx hb dX10_stop_2 (by decide) ?_
  refine lv_bipush (v := 60) hx hb dX10_stop_3 (by decide) ?_
  refine he_ci (wc := []) (wr := [(oX10 x0 y0 ta z0 p0 dr pa to_ s0 im ki tr v0 rf), (oX4 tr r0 r1 mo1), (aI g r0 24 f1), (aI g r1 6 sh), (oX6 p0 p1 p2 p3 p4 (nI w)), (aI g p1 24 sd), (aI g p3 6 st), (aI g p4 6 me), (oX8 s0 h0 a0 b0 e0), (oX4 h0 q0 q1 mo), (aI g q0 24 f)]) (va_runS (As := [.int (nI n), .int 1, .int 60]) (rest := [.ref x0]) ⟨hx, hb, hml, hown, hts⟩ (c_X10_within l g (nI n) 1 60 H.size) (va_cwS 3 hts gX10_stop_X10_within rfl rfl rfl (by decide +kernel) ⟨Nat.le_of_ble_eq_true rfl, Nat.le_of_ble_eq_true rfl⟩) (he_preS (wc := []) hK hP hD hS hA hE [] rfl rfl) rfl rfl hl.1 rfl (lv_room (Nat.le_of_ble_eq_true rfl)) dX10_stop_5 ⟨(Nat.le_of_ble_eq_true rfl), (Nat.le_of_ble_eq_true rfl)⟩) hP hD hS hA [] [0, 1, 2, 3, 4, 5, 6, 7, 8, 9, 10] rfl rfl rfl (by decide) (fun r_1 u_2 H locs h_3 hP hD hS => ?_)
  subst h_3
  have hP : va_P g.1 vwCl [(oX10 x0 y0 ta z0 p0 dr pa to_ s0 im ki tr v0 rf), (oX4 tr r0 r1 mo1), (aI g r0 24 f1), (aI g r1 6 sh), (oX6 p0 p1 p2 p3 p4 (nI w)), (aI g p1 24 sd), (aI g p3 6 st), (aI g p4 6 me), (oX8 s0 h0 a0 b0 e0), (oX4 h0 q0 q1 mo), (aI g q0 24 f)] H := hP
  have hD : va_D A [(oX10 x0 y0 ta z0 p0 dr pa to_ s0 im ki tr v0 rf), (oX4 tr r0 r1 mo1), (aI g r0 24 f1), (aI g r1 6 sh), (oX6 p0 p1 p2 p3 p4 (nI w)), (aI g p1 24 sd), (aI g p3 6 st), (aI g p4 6 me), (oX8 s0 h0 a0 b0 e0), (oX4 h0 q0 q1 mo), (aI g q0 24 f)] := hD
  refine he_top (1) (he_within_in (a0 := 1) (B := 60) rfl rfl (by omega) (by omega) (by decide)) ?_
  refine lv_if_eq (tgt := 24) hx hb dX10_stop_8 (by decide) (fun c_4 => ?_) (fun c_4 => ?_)
  · exact absurd c_4 (by decide)
  · refine lv_iload_n hx hb dX10_stop_11 rfl (lv_at hl 2 rfl) ?_
    refine lv_iconst (v := 0) hx hb dX10_stop_12 (by decide) ?_
    refine lv_iconst (v := 1) hx hb dX10_stop_13 (by decide) ?_
    refine he_ci (wc := []) (wr := [(oX10 x0 y0 ta z0 p0 dr pa to_ s0 im ki tr v0 rf), (oX4 tr r0 r1 mo1), (aI g r0 24 f1), (aI g r1 6 sh), (oX6 p0 p1 p2 p3 p4 (nI w)), (aI g p1 24 sd), (aI g p3 6 st), (aI g p4 6 me), (oX8 s0 h0 a0 b0 e0), (oX4 h0 q0 q1 mo), (aI g q0 24 f)]) (va_runS (As := [.int 0, .int 0, .int 1]) (rest := [.ref x0]) ⟨hx, hb, hml, hown, hts⟩ (c_X10_within l g 0 0 1 H.size) (va_cwS 3 hts gX10_stop_X10_within rfl rfl rfl (by decide +kernel) ⟨Nat.le_of_ble_eq_true rfl, Nat.le_of_ble_eq_true rfl⟩) (he_preS (wc := []) hK hP hD hS hA hE [] rfl rfl) rfl rfl hl.1 rfl (lv_room (Nat.le_of_ble_eq_true rfl)) dX10_stop_14 ⟨(Nat.le_of_ble_eq_true rfl), (Nat.le_of_ble_eq_true rfl)⟩) hP hD hS hA [] [0, 1, 2, 3, 4, 5, 6, 7, 8, 9, 10] rfl rfl rfl (by decide) (fun r_5 u_6 H locs h_7 hP hD hS => ?_)
    subst h_7
    have hP : va_P g.1 vwCl [(oX10 x0 y0 ta z0 p0 dr pa to_ s0 im ki tr v0 rf), (oX4 tr r0 r1 mo1), (aI g r0 24 f1), (aI g r1 6 sh), (oX6 p0 p1 p2 p3 p4 (nI w)), (aI g p1 24 sd), (aI g p3 6 st), (aI g p4 6 me), (oX8 s0 h0 a0 b0 e0), (oX4 h0 q0 q1 mo), (aI g q0 24 f)] H := hP
    have hD : va_D A [(oX10 x0 y0 ta z0 p0 dr pa to_ s0 im ki tr v0 rf), (oX4 tr r0 r1 mo1), (aI g r0 24 f1), (aI g r1 6 sh), (oX6 p0 p1 p2 p3 p4 (nI w)), (aI g p1 24 sd), (aI g p3 6 st), (aI g p4 6 me), (oX8 s0 h0 a0 b0 e0), (oX4 h0 q0 q1 mo), (aI g q0 24 f)] := hD
    refine he_top (1) (by decide) ?_
    refine lv_if_eq (tgt := 24) hx hb dX10_stop_17 (by decide) (fun c_8 => ?_) (fun c_8 => ?_)
    · exact absurd c_8 (by decide)
    · refine lv_iconst (v := 1) hx hb dX10_stop_20 (by decide) ?_
      refine lv_goto (tgt := 25) hx hb dX10_stop_21 (by decide) ?_
      refine he_cv (wc := []) (wr := [(oX10 x0 y0 ta z0 p0 dr pa to_ s0 im ki tr v0 rf), (oX4 tr r0 r1 mo1), (aI g r0 24 f1), (aI g r1 6 sh), (oX6 p0 p1 p2 p3 p4 (nI w)), (aI g p1 24 sd), (aI g p3 6 st), (aI g p4 6 me), (oX8 s0 h0 a0 b0 e0), (oX4 h0 q0 q1 mo), (aI g q0 24 f)]) (va_runV (As := [.int 1]) (rest := []) ⟨hx, hb, hml, hown, hts⟩ (c_X10_demand1 l g x0 H.size) (cwV 1 hts gX10_stop_X10_demand rfl rfl rfl (by decide +kernel) ⟨Nat.le_of_ble_eq_true rfl, Nat.le_of_ble_eq_true rfl⟩) (he_preV (wc := []) hK hP hD hS hA hE [] rfl rfl 0 rfl rfl) rfl rfl hl.1 rfl (lv_room (Nat.le_of_ble_eq_true rfl)) dX10_stop_25 ⟨(Nat.le_of_ble_eq_true rfl), (Nat.le_of_ble_eq_true rfl)⟩) hP hD hS hA [] [0, 1, 2, 3, 4, 5, 6, 7, 8, 9, 10] rfl rfl rfl (by decide) (fun u_10 H locs h_11 hP hD hS => ?_)
      have hP : va_P g.1 vwCl [(oX10 x0 y0 ta z0 p0 dr pa to_ s0 im ki tr v0 rf), (oX4 tr r0 r1 mo1), (aI g r0 24 f1), (aI g r1 6 sh), (oX6 p0 p1 p2 p3 p4 (nI w)), (aI g p1 24 sd), (aI g p3 6 st), (aI g p4 6 me), (oX8 s0 h0 a0 b0 e0), (oX4 h0 q0 q1 mo), (aI g q0 24 f)] H := hP
      have hD : va_D A [(oX10 x0 y0 ta z0 p0 dr pa to_ s0 im ki tr v0 rf), (oX4 tr r0 r1 mo1), (aI g r0 24 f1), (aI g r1 6 sh), (oX6 p0 p1 p2 p3 p4 (nI w)), (aI g p1 24 sd), (aI g p3 6 st), (aI g p4 6 me), (oX8 s0 h0 a0 b0 e0), (oX4 h0 q0 q1 mo), (aI g q0 24 f)] := hD
      refine lv_iconst (v := 0) hx hb dX10_stop_28 (by decide) ?_
      refine lv_istore_n (lv' := [(3, .int 0), (0, .ref x0), (1, .int (nI n)), (2, .int 0)]) hx hb dX10_stop_29 rfl hl (by decide) rfl (fun ls hl => ?_)
      refine lv_iconst (v := (-1)) hx hb dX10_stop_30 (by decide) ?_
      refine lv_istore (lv' := [(4, .int (-1)), (3, .int 0), (0, .ref x0), (1, .int (nI n)), (2, .int 0)]) hx hb dX10_stop_31 hl (by decide) rfl (fun ls hl => ?_)
      refine lv_iconst (v := 0) hx hb dX10_stop_33 (by decide) ?_
      refine lv_istore (lv' := [(5, .int 0), (4, .int (-1)), (3, .int 0), (0, .ref x0), (1, .int (nI n)), (2, .int 0)]) hx hb dX10_stop_34 hl (by decide) rfl (fun ls hl => ?_)
      have loop36 : ∀ (n9 : Nat) (j : Nat) (bm : Int32) (ms : Int32) (mj : Int32) (F : Nat → Int32) (G : Nat → Int32), n + 1 - j < n9 → (j ≤ n + 1) → ∀ (H : Heap) (locs : List Loc) (ls : Array Slot), va_P g.1 vwCl [(oX10 x0 y0 ta z0 p0 dr pa to_ s0 im ki tr v0 rf), (oX4 tr r0 r1 mj), (aI g r0 24 F), (aI g r1 6 G), (oX6 p0 p1 p2 p3 p4 (nI w)), (aI g p1 24 sd), (aI g p3 6 st), (aI g p4 6 me), (oX8 s0 h0 a0 b0 e0), (oX4 h0 q0 q1 mo), (aI g q0 24 f)] H → va_D A [(oX10 x0 y0 ta z0 p0 dr pa to_ s0 im ki tr v0 rf), (oX4 tr r0 r1 mj), (aI g r0 24 F), (aI g r1 6 G), (oX6 p0 p1 p2 p3 p4 (nI w)), (aI g p1 24 sd), (aI g p3 6 st), (aI g p4 6 me), (oX8 s0 h0 a0 b0 e0), (oX4 h0 q0 q1 mo), (aI g q0 24 f)] → va_S A s.heap H locs → lv_has ls 6 [(0, .ref x0), (1, .int (nI n)), (2, .int 0), (3, .int bm), (4, .int ms), (5, .int (nI j))] → W p l e (he_room 5 105 0 0) s m args below meth c H locs 0 0 Q (F0 m 36 ls []) := by
        intro n9
        induction n9 with
        | zero => intro j bm ms mj F G hm9; exact absurd hm9 (Nat.not_lt_zero _)
        | succ n9 ih36 =>
          intro j bm ms mj F G hm9 hj H locs ls hP hD hS hl
          refine lv_iload hx hb dX10_stop_36 (lv_at hl 5 rfl) ?_
          refine lv_iload_n hx hb dX10_stop_38 rfl (lv_at hl 1 rfl) ?_
          refine lv_icmp_gt (tgt := 112) hx hb dX10_stop_39 (by decide) (fun c_12 => ?_) (fun c_12 => ?_)
          · have k_13 : n < j := (he_clt (a := n) (b := j) rfl rfl (by omega) (by omega)).mp c_12
            refine lv_iload_n hx hb dX10_stop_112 rfl (lv_at hl 2 rfl) ?_
            refine lv_if_ne (tgt := 120) hx hb dX10_stop_113 (by decide) (fun c_14 => ?_) (fun c_14 => ?_)
            · exact absurd (by decide) c_14
            · refine lv_iload_n hx hb dX10_stop_116 rfl (lv_at hl 3 rfl) ?_
              refine lv_goto (tgt := 122) hx hb dX10_stop_117 (by decide) ?_
              exact he_ri hQ hx hb hr hlk hP hD hS dX10_stop_122 (Nat.le_of_ble_eq_true rfl) (Nat.le_of_ble_eq_true rfl) ((mj, F, G)) (rfl) (trivial)
          · have k_15 : ¬ (n < j) := fun h9 => c_12 ((he_clt (a := n) (b := j) rfl rfl (by omega) (by omega)).mpr h9)
            refine lv_aload_n hx hb dX10_stop_42 rfl (lv_at hl 0 rfl) ?_
            refine va_get (v := .ref tr) (T := TX10) (N := 13) hx hb hts inX10 hown hK hP 0 rfl rfl 10 (by decide) f50 (fun _ h9 => h9) rfl dX10_stop_43 ?_
            refine lv_aload_n hx hb dX10_stop_46 rfl (lv_at hl 0 rfl) ?_
            refine va_get (v := .ref s0) (T := TX10) (N := 13) hx hb hts inX10 hown hK hP 0 rfl rfl 7 (by decide) f39 (fun _ h9 => h9) rfl dX10_stop_47 ?_
            refine va_get (v := .ref h0) (T := TX8) (N := 4) hx hb hts inX8 hown hK hP 8 rfl rfl 0 (by decide) f66 (fun _ h9 => h9) rfl dX10_stop_50 ?_
            refine he_cv (wc := [(oX4 tr r0 r1 mj), (aI g r0 24 F), (oX4 h0 q0 q1 mo), (aI g q0 24 f)]) (wr := [(oX10 x0 y0 ta z0 p0 dr pa to_ s0 im ki tr v0 rf), (aI g r1 6 G), (oX6 p0 p1 p2 p3 p4 (nI w)), (aI g p1 24 sd), (aI g p3 6 st), (aI g p4 6 me), (oX8 s0 h0 a0 b0 e0)]) (va_runV (As := [.ref h0]) (rest := []) ⟨hx, hb, hml, hown, hts⟩ (c_X4_take l g tr r0 r1 mj F h0 q0 q1 mo f H.size) (cwV 1 hts gX10_stop_X4_take rfl rfl rfl (by decide +kernel) ⟨Nat.le_of_ble_eq_true rfl, Nat.le_of_ble_eq_true rfl⟩) (he_preV (wc := [(oX4 tr r0 r1 mj), (aI g r0 24 F), (oX4 h0 q0 q1 mo), (aI g q0 24 f)]) hK hP hD hS hA hE [1, 2, 9, 10] rfl rfl 1 rfl rfl) rfl rfl hl.1 rfl (lv_room (Nat.le_of_ble_eq_true rfl)) dX10_stop_53 ⟨(Nat.le_of_ble_eq_true rfl), (Nat.le_of_ble_eq_true rfl)⟩) hP hD hS hA [1, 2, 9, 10] [0, 3, 4, 5, 6, 7, 8] rfl rfl rfl (by decide) (fun u_17 H locs h_18 hP hD hS => ?_)
            have hP : va_P g.1 vwCl [(oX10 x0 y0 ta z0 p0 dr pa to_ s0 im ki tr v0 rf), (aI g r1 6 G), (oX6 p0 p1 p2 p3 p4 (nI w)), (aI g p1 24 sd), (aI g p3 6 st), (aI g p4 6 me), (oX8 s0 h0 a0 b0 e0), (oX4 tr r0 r1 mo), (aI g r0 24 (va_cpy f F 0 0 24)), (oX4 h0 q0 q1 mo), (aI g q0 24 f)] H := hP
            have hD : va_D A [(oX10 x0 y0 ta z0 p0 dr pa to_ s0 im ki tr v0 rf), (aI g r1 6 G), (oX6 p0 p1 p2 p3 p4 (nI w)), (aI g p1 24 sd), (aI g p3 6 st), (aI g p4 6 me), (oX8 s0 h0 a0 b0 e0), (oX4 tr r0 r1 mo), (aI g r0 24 (va_cpy f F 0 0 24)), (oX4 h0 q0 q1 mo), (aI g q0 24 f)] := hD
            refine lv_aload_n hx hb dX10_stop_56 rfl (lv_at hl 0 rfl) ?_
            refine lv_iload hx hb dX10_stop_57 (lv_at hl 5 rfl) ?_
            refine he_cv (wc := [(oX10 x0 y0 ta z0 p0 dr pa to_ s0 im ki tr v0 rf), (oX4 tr r0 r1 mo), (aI g r0 24 (va_cpy f F 0 0 24)), (aI g r1 6 G), (oX6 p0 p1 p2 p3 p4 (nI w)), (aI g p1 24 sd), (aI g p3 6 st), (aI g p4 6 me)]) (wr := [(oX8 s0 h0 a0 b0 e0), (oX4 h0 q0 q1 mo), (aI g q0 24 f)]) (va_runV (As := [.int (nI j)]) (rest := []) ⟨hx, hb, hml, hown, hts⟩ (g_X10_passTriedN l g x0 y0 z0 dr pa s0 im tr v0 rf ta to_ ki p0 p1 p2 p3 p4 w sd st me r0 r1 mo (va_cpy f F 0 0 24) G j (by first | assumption | decide | omega) (by rw [cpy_in (by decide)]; exact hno) (by omega) H.size) (cwV 1 hts gX10_stop_X10_passTried rfl rfl rfl (by decide +kernel) ⟨Nat.le_of_ble_eq_true rfl, Nat.le_of_ble_eq_true rfl⟩) (he_preV (wc := [(oX10 x0 y0 ta z0 p0 dr pa to_ s0 im ki tr v0 rf), (oX4 tr r0 r1 mo), (aI g r0 24 (va_cpy f F 0 0 24)), (aI g r1 6 G), (oX6 p0 p1 p2 p3 p4 (nI w)), (aI g p1 24 sd), (aI g p3 6 st), (aI g p4 6 me)]) hK hP hD hS hA hE [0, 7, 8, 1, 2, 3, 4, 5] rfl rfl 0 rfl rfl) rfl rfl hl.1 rfl (lv_room (Nat.le_of_ble_eq_true rfl)) dX10_stop_59 ⟨(Nat.le_of_ble_eq_true rfl), (Nat.le_of_ble_eq_true rfl)⟩) hP hD hS hA [0, 7, 8, 1, 2, 3, 4, 5] [6, 9, 10] rfl rfl rfl (by decide) (fun u_20 H locs h_21 hP hD hS => ?_)
            obtain ⟨um_22, uf_23, us_24⟩ := u_20
            have hP : va_P g.1 vwCl [(oX8 s0 h0 a0 b0 e0), (oX4 h0 q0 q1 mo), (aI g q0 24 f), (oX10 x0 y0 ta z0 p0 dr pa to_ s0 im ki tr v0 rf), (oX4 tr r0 r1 um_22), (aI g r0 24 uf_23), (aI g r1 6 us_24), (oX6 p0 p1 p2 p3 p4 (nI w)), (aI g p1 24 sd), (aI g p3 6 st), (aI g p4 6 me)] H := hP
            have hD : va_D A [(oX8 s0 h0 a0 b0 e0), (oX4 h0 q0 q1 mo), (aI g q0 24 f), (oX10 x0 y0 ta z0 p0 dr pa to_ s0 im ki tr v0 rf), (oX4 tr r0 r1 um_22), (aI g r0 24 uf_23), (aI g r1 6 us_24), (oX6 p0 p1 p2 p3 p4 (nI w)), (aI g p1 24 sd), (aI g p3 6 st), (aI g p4 6 me)] := hD
            refine lv_aload_n hx hb dX10_stop_62 rfl (lv_at hl 0 rfl) ?_
            refine va_get (v := .ref tr) (T := TX10) (N := 13) hx hb hts inX10 hown hK hP 3 rfl rfl 10 (by decide) f50 (fun _ h9 => h9) rfl dX10_stop_63 ?_
            refine lv_iconst (v := (-1)) hx hb dX10_stop_66 (by decide) ?_
            refine he_cv (wc := [(oX4 tr r0 r1 um_22), (aI g r0 24 uf_23)]) (wr := [(oX8 s0 h0 a0 b0 e0), (oX4 h0 q0 q1 mo), (aI g q0 24 f), (oX10 x0 y0 ta z0 p0 dr pa to_ s0 im ki tr v0 rf), (aI g r1 6 us_24), (oX6 p0 p1 p2 p3 p4 (nI w)), (aI g p1 24 sd), (aI g p3 6 st), (aI g p4 6 me)]) (va_runV (As := [.int (-1)]) (rest := []) ⟨hx, hb, hml, hown, hts⟩ (c_X4_pledge l g tr r0 r1 um_22 uf_23 (-1) H.size) (cwV 1 hts gX10_stop_X4_pledge rfl rfl rfl (by decide +kernel) ⟨Nat.le_of_ble_eq_true rfl, Nat.le_of_ble_eq_true rfl⟩) (he_preV (wc := [(oX4 tr r0 r1 um_22), (aI g r0 24 uf_23)]) hK hP hD hS hA hE [4, 5] rfl rfl 4 rfl rfl) rfl rfl hl.1 rfl (lv_room (Nat.le_of_ble_eq_true rfl)) dX10_stop_67 ⟨(Nat.le_of_ble_eq_true rfl), (Nat.le_of_ble_eq_true rfl)⟩) hP hD hS hA [4, 5] [0, 1, 2, 3, 6, 7, 8, 9, 10] rfl rfl rfl (by decide) (fun u_26 H locs h_27 hP hD hS => ?_)
            have hP : va_P g.1 vwCl [(oX8 s0 h0 a0 b0 e0), (oX4 h0 q0 q1 mo), (aI g q0 24 f), (oX10 x0 y0 ta z0 p0 dr pa to_ s0 im ki tr v0 rf), (aI g r1 6 us_24), (oX6 p0 p1 p2 p3 p4 (nI w)), (aI g p1 24 sd), (aI g p3 6 st), (aI g p4 6 me), (oX4 tr r0 r1 um_22), (aI g r0 24 (fcF uf_23 (-1) um_22))] H := hP
            have hD : va_D A [(oX8 s0 h0 a0 b0 e0), (oX4 h0 q0 q1 mo), (aI g q0 24 f), (oX10 x0 y0 ta z0 p0 dr pa to_ s0 im ki tr v0 rf), (aI g r1 6 us_24), (oX6 p0 p1 p2 p3 p4 (nI w)), (aI g p1 24 sd), (aI g p3 6 st), (aI g p4 6 me), (oX4 tr r0 r1 um_22), (aI g r0 24 (fcF uf_23 (-1) um_22))] := hD
            refine lv_aload_n hx hb dX10_stop_70 rfl (lv_at hl 0 rfl) ?_
            refine lv_iload_n hx hb dX10_stop_71 rfl (lv_at hl 1 rfl) ?_
            refine lv_iload hx hb dX10_stop_72 (lv_at hl 5 rfl) ?_
            refine lv_isub hx hb dX10_stop_74 ?_
            refine he_top (nI (n - j)) (pk_sub (by omega)) ?_
            refine he_cv (wc := [(oX10 x0 y0 ta z0 p0 dr pa to_ s0 im ki tr v0 rf), (oX4 tr r0 r1 um_22), (aI g r0 24 (fcF uf_23 (-1) um_22)), (aI g r1 6 us_24), (oX6 p0 p1 p2 p3 p4 (nI w)), (aI g p1 24 sd), (aI g p3 6 st), (aI g p4 6 me)]) (wr := [(oX8 s0 h0 a0 b0 e0), (oX4 h0 q0 q1 mo), (aI g q0 24 f)]) (va_runV (As := [.int (nI (n - j))]) (rest := []) ⟨hx, hb, hml, hown, hts⟩ (g_X10_passTriedN l g x0 y0 z0 dr pa s0 im tr v0 rf ta to_ ki p0 p1 p2 p3 p4 w sd st me r0 r1 um_22 (fcF uf_23 (-1) um_22) us_24 (n - j) (by first | assumption | decide | omega) (by rw [fcF_10]; exact m1_out 6) (by omega) H.size) (cwV 1 hts gX10_stop_X10_passTried rfl rfl rfl (by decide +kernel) ⟨Nat.le_of_ble_eq_true rfl, Nat.le_of_ble_eq_true rfl⟩) (he_preV (wc := [(oX10 x0 y0 ta z0 p0 dr pa to_ s0 im ki tr v0 rf), (oX4 tr r0 r1 um_22), (aI g r0 24 (fcF uf_23 (-1) um_22)), (aI g r1 6 us_24), (oX6 p0 p1 p2 p3 p4 (nI w)), (aI g p1 24 sd), (aI g p3 6 st), (aI g p4 6 me)]) hK hP hD hS hA hE [3, 9, 10, 4, 5, 6, 7, 8] rfl rfl 3 rfl rfl) rfl rfl hl.1 rfl (lv_room (Nat.le_of_ble_eq_true rfl)) dX10_stop_75 ⟨(Nat.le_of_ble_eq_true rfl), (Nat.le_of_ble_eq_true rfl)⟩) hP hD hS hA [3, 9, 10, 4, 5, 6, 7, 8] [0, 1, 2] rfl rfl rfl (by decide) (fun u_29 H locs h_30 hP hD hS => ?_)
            obtain ⟨um_31, uf_32, us_33⟩ := u_29
            have hP : va_P g.1 vwCl [(oX8 s0 h0 a0 b0 e0), (oX4 h0 q0 q1 mo), (aI g q0 24 f), (oX10 x0 y0 ta z0 p0 dr pa to_ s0 im ki tr v0 rf), (oX4 tr r0 r1 um_31), (aI g r0 24 uf_32), (aI g r1 6 us_33), (oX6 p0 p1 p2 p3 p4 (nI w)), (aI g p1 24 sd), (aI g p3 6 st), (aI g p4 6 me)] H := hP
            have hD : va_D A [(oX8 s0 h0 a0 b0 e0), (oX4 h0 q0 q1 mo), (aI g q0 24 f), (oX10 x0 y0 ta z0 p0 dr pa to_ s0 im ki tr v0 rf), (oX4 tr r0 r1 um_31), (aI g r0 24 uf_32), (aI g r1 6 us_33), (oX6 p0 p1 p2 p3 p4 (nI w)), (aI g p1 24 sd), (aI g p3 6 st), (aI g p4 6 me)] := hD
            refine lv_aload_n hx hb dX10_stop_78 rfl (lv_at hl 0 rfl) ?_
            refine va_get (v := .ref tr) (T := TX10) (N := 13) hx hb hts inX10 hown hK hP 3 rfl rfl 10 (by decide) f50 (fun _ h9 => h9) rfl dX10_stop_79 ?_
            refine va_get (v := .ref r0) (T := TX4) (N := 3) hx hb hts inX4 hown hK hP 4 rfl rfl 0 (by decide) f111 (fun _ h9 => h9) rfl dX10_stop_82 ?_
            refine lv_iconst (v := 0) hx hb dX10_stop_85 (by decide) ?_
            refine he_iald hx hb hK hP 5 rfl (0) (by decide) (by decide) (by first | decide | assumption) (uf_32 0) rfl dX10_stop_86 ?_
            refine lv_iload hx hb dX10_stop_87 (lv_at hl 4 rfl) ?_
            refine lv_icmp_le (tgt := 106) hx hb dX10_stop_89 (by decide) (fun c_34 => ?_) (fun c_34 => ?_)
            · refine lv_iinc (v := nI (j + 1)) (lv' := [(5, .int (nI (j + 1))), (0, .ref x0), (1, .int (nI n)), (2, .int 0), (3, .int bm), (4, .int ms)]) hx hb dX10_stop_106 hl (k := 5) rfl (nI_1 j) (by decide) rfl (fun ls hl => ?_)
              refine lv_goto (tgt := 36) hx hb dX10_stop_109 (by decide) ?_
              exact ih36 (j + 1) bm ms um_31 uf_32 us_33 (by omega) (by omega) _ _ _ (hP.sub [3, 4, 5, 6, 7, 8, 9, 10, 0, 1, 2] rfl) (hD.sub [3, 4, 5, 6, 7, 8, 9, 10, 0, 1, 2] (by decide) rfl) hS (lv_sub hl [1, 2, 3, 4, 5, 0] rfl)
            · refine lv_aload_n hx hb dX10_stop_92 rfl (lv_at hl 0 rfl) ?_
              refine va_get (v := .ref tr) (T := TX10) (N := 13) hx hb hts inX10 hown hK hP 3 rfl rfl 10 (by decide) f50 (fun _ h9 => h9) rfl dX10_stop_93 ?_
              refine va_get (v := .ref r0) (T := TX4) (N := 3) hx hb hts inX4 hown hK hP 4 rfl rfl 0 (by decide) f111 (fun _ h9 => h9) rfl dX10_stop_96 ?_
              refine lv_iconst (v := 0) hx hb dX10_stop_99 (by decide) ?_
              refine he_iald hx hb hK hP 5 rfl (0) (by decide) (by decide) (by first | decide | assumption) (uf_32 0) rfl dX10_stop_100 ?_
              refine lv_istore (lv' := [(4, .int (uf_32 0)), (0, .ref x0), (1, .int (nI n)), (2, .int 0), (3, .int bm), (5, .int (nI j))]) hx hb dX10_stop_101 hl (by decide) rfl (fun ls hl => ?_)
              refine lv_iload hx hb dX10_stop_103 (lv_at hl 5 rfl) ?_
              refine lv_istore_n (lv' := [(3, .int (nI j)), (4, .int (uf_32 0)), (0, .ref x0), (1, .int (nI n)), (2, .int 0), (5, .int (nI j))]) hx hb dX10_stop_105 rfl hl (by decide) rfl (fun ls hl => ?_)
              refine lv_iinc (v := nI (j + 1)) (lv' := [(5, .int (nI (j + 1))), (3, .int (nI j)), (4, .int (uf_32 0)), (0, .ref x0), (1, .int (nI n)), (2, .int 0)]) hx hb dX10_stop_106 hl (k := 5) rfl (nI_1 j) (by decide) rfl (fun ls hl => ?_)
              refine lv_goto (tgt := 36) hx hb dX10_stop_109 (by decide) ?_
              exact ih36 (j + 1) (nI j) (uf_32 0) um_31 uf_32 us_33 (by omega) (by omega) _ _ _ (hP.sub [3, 4, 5, 6, 7, 8, 9, 10, 0, 1, 2] rfl) (hD.sub [3, 4, 5, 6, 7, 8, 9, 10, 0, 1, 2] (by decide) rfl) hS (lv_sub hl [3, 4, 5, 1, 2, 0] rfl)
      exact loop36 ((n + 1 - 0) + 1) 0 0 (-1) mo1 f1 sh (Nat.lt_succ_self _) (Nat.zero_le _) _ _ _ hP hD hS (lv_sub hl [3, 4, 5, 2, 1, 0] rfl)
end
