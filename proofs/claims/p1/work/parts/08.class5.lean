theorem he_within_1 {x a b : Int32} (h : ¬ he_within x a b = 0) : he_within x a b = 1 := by
  unfold he_within at h ⊢
  by_cases h1 : x < a
  · simp [h1] at h
  · by_cases h2 : b < x
    · simp [h1, h2] at h
    · rw [if_neg h1, if_neg h2]
theorem he_within_m1 (x : Int32) : he_within x 0 (-1) = 0 := by
  unfold he_within
  split
  · rfl
  · rename_i h
    rw [if_pos (Int32.lt_of_lt_of_le (by decide) (Int32.not_lt.mp h))]
theorem he_zero {x : Int32} (h1 : ¬ x < 0) (h2 : ¬ 0 < x) : x = 0 := Int32.le_antisymm (Int32.not_lt.mp h2) (Int32.not_lt.mp h1)
theorem upd_s {f : Nat → Int32} {k : Nat} {x : Int32} : upd f k x k = x := by simp [upd]
theorem upd_n {f : Nat → Int32} {k j : Nat} {x : Int32} (h : j ≠ k) : upd f k x j = f j := by simp [upd, h]
theorem mvF_n (f : Nat → Int32) (i j k : Nat) (d : Int32) (h1 : k ≠ i) (h2 : k ≠ j) : mvF f i j d k = f k := by unfold mvF; rw [upd_n h2, upd_n h1]
theorem dsF_n (f : Nat → Int32) (k : Nat) (d : Int32) (h1 : k ≠ 3) (h2 : k ≠ 4) : dsF f d k = f k := by
  unfold dsF mnF
  split
  · rw [upd_n h1, upd_n h2]
  · rw [upd_n h2, upd_n h1]
theorem mendF_n (sd st me f : Nat → Int32) (k : Nat) (h0 : k ≠ 0) (h2 : k ≠ 2) (hk : k < 12) : ∀ w, mendF sd st me f w k = f k
  | 0 => rfl
  | w + 1 => by rw [mendF_s, mendS, mvF_n _ _ _ _ _ h0 h2, upd_n (by omega), mendF_n sd st me f k h0 h2 hk w]
def stpF (sd st me : Nat → Int32) (w : Nat) (f : Nat → Int32) : Nat → Int32 := psT sd st me w (taxF sd f)
theorem psT_n (sd st me : Nat → Int32) (w : Nat) (f : Nat → Int32) (k : Nat) (h : 6 ≤ k) (hk : k < 12) : psT sd st me w f k = f k := by
  unfold psT psD psC psB psA
  rw [dsF_n _ _ _ (by omega) (by omega), mvF_n _ _ _ _ _ (by omega) (by omega), mvF_n _ _ _ _ _ (by omega) (by omega), mendF_n _ _ _ _ _ (by omega) (by omega) hk, upd_n (by omega)]
theorem taxF_n (sd f : Nat → Int32) (k : Nat) (h : 6 ≤ k) : taxF sd f k = f k := by unfold taxF; rw [mvF_n _ _ _ _ _ (by omega) (by omega)]
theorem stpF_n (sd st me : Nat → Int32) (w : Nat) (f : Nat → Int32) (k : Nat) (h : 6 ≤ k) (hk : k < 12) : stpF sd st me w f k = f k := by unfold stpF; rw [psT_n _ _ _ _ _ _ h hk, taxF_n _ _ _ h]
def itF (sd st me : Nat → Int32) (w : Nat) (f : Nat → Int32) : Nat → Nat → Int32
  | 0 => f
  | n + 1 => stpF sd st me w (itF sd st me w f n)
theorem itF_n (sd st me : Nat → Int32) (w : Nat) (f : Nat → Int32) (k : Nat) (h : 6 ≤ k) (hk : k < 12) : ∀ n, itF sd st me w f n k = f k
  | 0 => rfl
  | n + 1 => by rw [itF, stpF_n _ _ _ _ _ _ h hk, itF_n sd st me w f k h hk n]
theorem fcF_10 (f : Nat → Int32) (c m : Int32) : fcF f c m 10 = c := by unfold fcF; rw [upd_n (by decide), upd_s]
def nearF (sd : Nat → Int32) (a k : Int32) : Nat → Nat → Int32
  | 0, _ => -1
  | n + 1, x => if a < wantF sd (nI x) k then nearF sd a k n (x + 1) else nI x
set_option maxHeartbeats 4000000 in
set_option maxRecDepth 100000 in
theorem c_X10_demand1 (l : Launch) (g : he_G) (x0 : Nat)  : he_V l yX10_demand wsX10_demand 0 0 0 0 g [.ref x0, .int 1] [] (fun (u : Unit) => True) (fun (u : Unit) => []) := by
  refine he_begin (l := l) (g := g) (y := yX10_demand) (wl := wsX10_demand) (fr := 0) (lo := 0) (mc := 0) (ms := 0) (av := [.ref x0, .int 1]) (ws := []) (cc := cX10_demand) (maxL := 2) (ret := none) (fun A => va_Qv (fun (u : Unit) => True) (fun u t => he_post g A ((fun (u : Unit) => []) u) t) A) (by decide) rfl (Nat.le_of_ble_eq_true rfl) ?_
  intro p e s m args below meth c A ls H locs Q hQ hB
  obtain ⟨hx, hb, hr, hml, hown, hts, hlk, hin, hP, hK, hD, hS, hA, hE, hl⟩ := hB
  have hl : lv_has ls 2 [(0, .ref x0), (1, .int 1)] := hl
  refine lv_iload_n hx hb dX10_demand_0 rfl (lv_at hl 1 rfl) ?_
  refine lv_if_ne (tgt := 24) hx hb dX10_demand_1 (by decide) (fun c_1 => ?_) (fun c_1 => ?_)
  · exact he_rv hQ hx hb hr hlk hP hD hS dX10_demand_24 (Nat.le_of_ble_eq_true rfl) (Nat.le_of_ble_eq_true rfl) (()) (rfl) (trivial)
  · exact absurd c_1 (by decide)
set_option maxHeartbeats 4000000 in
set_option maxRecDepth 100000 in
theorem c_X10_demand0 (l : Launch) (g : he_G) (x0 : Nat) (y0 : Nat) (z0 : Nat) (p0 : Nat) (dr : Nat) (pa : Nat) (s0 : Nat) (im : Nat) (tr : Nat) (v0 : Nat) (rf : Nat) (rc : Nat → Int32) (hlt : l.stackTraces = false) : he_T he_QTv l yX10_demand wsX10_demand 6 82 1 6 g [.ref x0, .int 0] [(x0, .inr (9, [.ref y0, .int 0, .ref z0, .ref p0, .ref dr, .ref pa, .int 0, .ref s0, .ref im, .int 0, .ref tr, .ref v0, .ref rf])), (rf, .inl (g.2 1, 3, .inl rc))] "java/lang/IllegalArgumentException" [(x0, .inr (9, [.ref y0, .int 0, .ref z0, .ref p0, .ref dr, .ref pa, .int 0, .ref s0, .ref im, .int 0, .ref tr, .ref v0, .ref rf])), (rf, .inl (g.2 1, 3, .inl (upd rc 2 (rc 2 + 1))))] := by
  refine he_beginX (l := l) (g := g) (y := yX10_demand) (wl := wsX10_demand) (fr := 6) (lo := 82) (mc := 1) (ms := 6) (av := [.ref x0, .int 0]) (ws := [(x0, .inr (9, [.ref y0, .int 0, .ref z0, .ref p0, .ref dr, .ref pa, .int 0, .ref s0, .ref im, .int 0, .ref tr, .ref v0, .ref rf])), (rf, .inl (g.2 1, 3, .inl rc))]) (cc := cX10_demand) (maxL := 2) (ret := none) he_QTv (by decide) rfl (Nat.le_of_ble_eq_true rfl) ?_
  intro p e s m args below meth c A ls H locs Q hQ hne hB
  obtain ⟨hx, hb, hr, hml, hown, hts, hlk, hin, hP, hK, hD, hS, hA, hE, hl⟩ := hB
  have hl : lv_has ls 2 [(0, .ref x0), (1, .int 0)] := hl
  have f61 := hts (.fieldLink RX10 61 "HiredEnemy" "refused" "[I") (by decide +kernel)
  have inX10 : ∀ w ∈ wsX100, w ∈ wsX10_demand := by decide +kernel
  obtain ⟨sa9, hsa9⟩ := hE.2.2.2.2.2.2.1
  have clx := hts (.classLink RX10 251 "java/lang/IllegalArgumentException") (by decide +kernel)
  have inx := hts (.initialized "java/lang/IllegalArgumentException") (by decide +kernel)
  have hat9 : ∀ w ∈ vx_atS RX10 255 "java/lang/IllegalArgumentException" ["java/lang/RuntimeException", "java/lang/Exception"], w.before args s = true := he_hat hE (fun w hw => hts w (List.mem_cons_of_mem _ (List.mem_append_right _ hw))) (by decide +kernel)
  have hgd9 : ∀ w ∈ Cond.classLink RX10 251 "java/lang/IllegalArgumentException" :: Cond.initialized "java/lang/IllegalArgumentException" :: vx_atS RX10 255 "java/lang/IllegalArgumentException" ["java/lang/RuntimeException", "java/lang/Exception"], vx_ot w = true := by decide +kernel
  refine lv_iload_n hx hb dX10_demand_0 rfl (lv_at hl 1 rfl) ?_
  refine lv_if_ne (tgt := 24) hx hb dX10_demand_1 (by decide) (fun c_1 => ?_) (fun c_1 => ?_)
  · exact absurd (by decide) c_1
  · refine lv_aload_n hx hb dX10_demand_4 rfl (lv_at hl 0 rfl) ?_
    refine va_get (v := .ref rf) (T := TX10) (N := 13) hx hb hts inX10 hown hK hP 0 rfl rfl 12 (by decide) f61 (fun _ h9 => h9) rfl dX10_demand_5 ?_
    refine lv_iconst (v := 2) hx hb dX10_demand_8 (by decide) ?_
    refine lv_dup2_11 hx hb dX10_demand_9 rfl rfl ?_
    refine he_iald hx hb hK hP 1 rfl (2) (by decide) (by decide) (by first | decide | assumption) (rc 2) rfl dX10_demand_10 ?_
    refine lv_iconst (v := 1) hx hb dX10_demand_11 (by decide) ?_
    refine lv_iadd hx hb dX10_demand_12 ?_
    refine he_iast hx hb hK hP hD hS 1 rfl (2) (by decide) (by decide) (by first | decide | assumption) dX10_demand_13 (fun H locs hP hD hS => ?_)
    have hP : va_P g.1 vwCl [(x0, .inr (9, [.ref y0, .int 0, .ref z0, .ref p0, .ref dr, .ref pa, .int 0, .ref s0, .ref im, .int 0, .ref tr, .ref v0, .ref rf])), (rf, .inl (g.2 1, 3, .inl (upd rc 2 ((rc 2) + 1))))] H := hP
    have hD : va_D A [(x0, .inr (9, [.ref y0, .int 0, .ref z0, .ref p0, .ref dr, .ref pa, .int 0, .ref s0, .ref im, .int 0, .ref tr, .ref v0, .ref rf])), (rf, .inl (g.2 1, 3, .inl (upd rc 2 ((rc 2) + 1))))] := hD
    have hP : va_P g.1 vwCl [(x0, .inr (9, [.ref y0, .int 0, .ref z0, .ref p0, .ref dr, .ref pa, .int 0, .ref s0, .ref im, .int 0, .ref tr, .ref v0, .ref rf])), (rf, .inl (g.2 1, 3, .inl (upd rc 2 (rc 2 + 1))))] H := hP
    have hD : va_D A [(x0, .inr (9, [.ref y0, .int 0, .ref z0, .ref p0, .ref dr, .ref pa, .int 0, .ref s0, .ref im, .int 0, .ref tr, .ref v0, .ref rf])), (rf, .inl (g.2 1, 3, .inl (upd rc 2 (rc 2 + 1))))] := hD
    subst hQ
    exact vx_throwS hx hb hlt hown (by decide) (by decide) clx inx hsa9 hat9 hgd9 hE.2.2.2.2.1 hE.2.2.2.2.2.1 hS (by rw [hml]; exact hl.1) dX10_demand_14 dX10_demand_17 dX10_demand_18 dX10_demand_20 dX10_demand_23 (fun x h9 => (hne x h9).elim) (by decide) (Nat.le_of_ble_eq_true rfl) (Nat.le_of_ble_eq_true rfl) (Nat.le_of_ble_eq_true rfl) hlk (fun t _ hz hq => he_thx hP hD hS t hz hq) hS.2.2 (Nat.le_of_ble_eq_true rfl) (Nat.le_of_ble_eq_true rfl)
set_option maxHeartbeats 4000000 in
set_option maxRecDepth 100000 in
theorem c_X10_demandWall0 (l : Launch) (g : he_G) (x0 : Nat) (y0 : Nat) (z0 : Nat) (dr : Nat) (pa : Nat) (s0 : Nat) (im : Nat) (tr : Nat) (v0 : Nat) (rf : Nat) (p0 : Nat) (p1 : Nat) (p2 : Nat) (p3 : Nat) (p4 : Nat) (rc : Nat → Int32) (x : Int32) (hlt : l.stackTraces = false) : he_T he_QTv l yX10_demandWall wsX10_demandWall 6 82 1 6 g [.ref x0, .int x] [(x0, .inr (9, [.ref y0, .int 0, .ref z0, .ref p0, .ref dr, .ref pa, .int 0, .ref s0, .ref im, .int 0, .ref tr, .ref v0, .ref rf])), (rf, .inl (g.2 1, 3, .inl rc)), (p0, .inr (6, [.ref p1, .ref p2, .ref p3, .ref p4, .int 0]))] "java/lang/IndexOutOfBoundsException" [(x0, .inr (9, [.ref y0, .int 0, .ref z0, .ref p0, .ref dr, .ref pa, .int 0, .ref s0, .ref im, .int 0, .ref tr, .ref v0, .ref rf])), (rf, .inl (g.2 1, 3, .inl (upd rc 1 (rc 1 + 1)))), (p0, .inr (6, [.ref p1, .ref p2, .ref p3, .ref p4, .int 0]))] := by
  refine he_beginX (l := l) (g := g) (y := yX10_demandWall) (wl := wsX10_demandWall) (fr := 6) (lo := 82) (mc := 1) (ms := 6) (av := [.ref x0, .int x]) (ws := [(x0, .inr (9, [.ref y0, .int 0, .ref z0, .ref p0, .ref dr, .ref pa, .int 0, .ref s0, .ref im, .int 0, .ref tr, .ref v0, .ref rf])), (rf, .inl (g.2 1, 3, .inl rc)), (p0, .inr (6, [.ref p1, .ref p2, .ref p3, .ref p4, .int 0]))]) (cc := cX10_demandWall) (maxL := 2) (ret := none) he_QTv (by decide) rfl (Nat.le_of_ble_eq_true rfl) ?_
  intro p e s m args below meth c A ls H locs Q hQ hne hB
  obtain ⟨hx, hb, hr, hml, hown, hts, hlk, hin, hP, hK, hD, hS, hA, hE, hl⟩ := hB
  have hl : lv_has ls 2 [(0, .ref x0), (1, .int x)] := hl
  have f23 := hts (.fieldLink RX10 23 "HiredEnemy" "plan" "LHiredEnemy$Plan;") (by decide +kernel)
  have inX10 : ∀ w ∈ wsX100, w ∈ wsX10_demandWall := by decide +kernel
  have f99 := hts (.fieldLink RX10 99 "HiredEnemy$Plan" "walls" "I") (by decide +kernel)
  have inX6 : ∀ w ∈ wsX60, w ∈ wsX10_demandWall := by decide +kernel
  have f61 := hts (.fieldLink RX10 61 "HiredEnemy" "refused" "[I") (by decide +kernel)
  obtain ⟨sa9, hsa9⟩ := hE.2.2.2.2.2.2.2.1
  have clx := hts (.classLink RX10 258 "java/lang/IndexOutOfBoundsException") (by decide +kernel)
  have inx := hts (.initialized "java/lang/IndexOutOfBoundsException") (by decide +kernel)
  have hat9 : ∀ w ∈ vx_atS RX10 262 "java/lang/IndexOutOfBoundsException" ["java/lang/RuntimeException", "java/lang/Exception"], w.before args s = true := he_hat hE (fun w hw => hts w (List.mem_cons_of_mem _ (List.mem_append_right _ hw))) (by decide +kernel)
  have hgd9 : ∀ w ∈ Cond.classLink RX10 258 "java/lang/IndexOutOfBoundsException" :: Cond.initialized "java/lang/IndexOutOfBoundsException" :: vx_atS RX10 262 "java/lang/IndexOutOfBoundsException" ["java/lang/RuntimeException", "java/lang/Exception"], vx_ot w = true := by decide +kernel
  refine lv_iload_n hx hb dX10_demandWall_0 rfl (lv_at hl 1 rfl) ?_
  refine lv_iconst (v := 0) hx hb dX10_demandWall_1 (by decide) ?_
  refine lv_aload_n hx hb dX10_demandWall_2 rfl (lv_at hl 0 rfl) ?_
  refine va_get (v := .ref p0) (T := TX10) (N := 13) hx hb hts inX10 hown hK hP 0 rfl rfl 3 (by decide) f23 (fun _ h9 => h9) rfl dX10_demandWall_3 ?_
  refine va_get (v := .int 0) (T := TX6) (N := 5) hx hb hts inX6 hown hK hP 2 rfl rfl 4 (by decide) f99 (fun _ h9 => h9) rfl dX10_demandWall_6 ?_
  refine lv_iconst (v := 1) hx hb dX10_demandWall_9 (by decide) ?_
  refine lv_isub hx hb dX10_demandWall_10 ?_
  refine he_top ((-1)) (by decide) ?_
  refine he_ci (wc := []) (wr := [(x0, .inr (9, [.ref y0, .int 0, .ref z0, .ref p0, .ref dr, .ref pa, .int 0, .ref s0, .ref im, .int 0, .ref tr, .ref v0, .ref rf])), (rf, .inl (g.2 1, 3, .inl rc)), (p0, .inr (6, [.ref p1, .ref p2, .ref p3, .ref p4, .int 0]))]) (va_runS (As := [.int x, .int 0, .int (-1)]) (rest := []) ⟨hx, hb, hml, hown, hts⟩ (c_X10_within l g x 0 (-1) H.size) (va_cwS 3 hts gX10_demandWall_X10_within rfl rfl rfl (by decide +kernel) ⟨Nat.le_of_ble_eq_true rfl, Nat.le_of_ble_eq_true rfl⟩) (he_preS (wc := []) hK hP hD hS hA hE [] rfl rfl) rfl rfl hl.1 rfl (lv_room (Nat.le_of_ble_eq_true rfl)) dX10_demandWall_11 ⟨(Nat.le_of_ble_eq_true rfl), (Nat.le_of_ble_eq_true rfl)⟩) hP hD hS hA [] [0, 1, 2] rfl rfl rfl (by decide) (fun r_1 u_2 H locs h_3 hP hD hS => ?_)
  subst h_3
  have hP : va_P g.1 vwCl [(x0, .inr (9, [.ref y0, .int 0, .ref z0, .ref p0, .ref dr, .ref pa, .int 0, .ref s0, .ref im, .int 0, .ref tr, .ref v0, .ref rf])), (rf, .inl (g.2 1, 3, .inl rc)), (p0, .inr (6, [.ref p1, .ref p2, .ref p3, .ref p4, .int 0]))] H := hP
  have hD : va_D A [(x0, .inr (9, [.ref y0, .int 0, .ref z0, .ref p0, .ref dr, .ref pa, .int 0, .ref s0, .ref im, .int 0, .ref tr, .ref v0, .ref rf])), (rf, .inl (g.2 1, 3, .inl rc)), (p0, .inr (6, [.ref p1, .ref p2, .ref p3, .ref p4, .int 0]))] := hD
  refine he_top (0) (he_within_m1 x) ?_
  refine lv_if_ne (tgt := 38) hx hb dX10_demandWall_14 (by decide) (fun c_4 => ?_) (fun c_4 => ?_)
  · exact absurd (by decide) c_4
  · refine lv_aload_n hx hb dX10_demandWall_17 rfl (lv_at hl 0 rfl) ?_
    refine va_get (v := .ref rf) (T := TX10) (N := 13) hx hb hts inX10 hown hK hP 0 rfl rfl 12 (by decide) f61 (fun _ h9 => h9) rfl dX10_demandWall_18 ?_
    refine lv_iconst (v := 1) hx hb dX10_demandWall_21 (by decide) ?_
    refine lv_dup2_11 hx hb dX10_demandWall_22 rfl rfl ?_
    refine he_iald hx hb hK hP 1 rfl (1) (by decide) (by decide) (by first | decide | assumption) (rc 1) rfl dX10_demandWall_23 ?_
    refine lv_iconst (v := 1) hx hb dX10_demandWall_24 (by decide) ?_
    refine lv_iadd hx hb dX10_demandWall_25 ?_
    refine he_iast hx hb hK hP hD hS 1 rfl (1) (by decide) (by decide) (by first | decide | assumption) dX10_demandWall_26 (fun H locs hP hD hS => ?_)
    have hP : va_P g.1 vwCl [(x0, .inr (9, [.ref y0, .int 0, .ref z0, .ref p0, .ref dr, .ref pa, .int 0, .ref s0, .ref im, .int 0, .ref tr, .ref v0, .ref rf])), (rf, .inl (g.2 1, 3, .inl (upd rc 1 ((rc 1) + 1)))), (p0, .inr (6, [.ref p1, .ref p2, .ref p3, .ref p4, .int 0]))] H := hP
    have hD : va_D A [(x0, .inr (9, [.ref y0, .int 0, .ref z0, .ref p0, .ref dr, .ref pa, .int 0, .ref s0, .ref im, .int 0, .ref tr, .ref v0, .ref rf])), (rf, .inl (g.2 1, 3, .inl (upd rc 1 ((rc 1) + 1)))), (p0, .inr (6, [.ref p1, .ref p2, .ref p3, .ref p4, .int 0]))] := hD
    have hP : va_P g.1 vwCl [(x0, .inr (9, [.ref y0, .int 0, .ref z0, .ref p0, .ref dr, .ref pa, .int 0, .ref s0, .ref im, .int 0, .ref tr, .ref v0, .ref rf])), (rf, .inl (g.2 1, 3, .inl (upd rc 1 (rc 1 + 1)))), (p0, .inr (6, [.ref p1, .ref p2, .ref p3, .ref p4, .int 0]))] H := hP
    have hD : va_D A [(x0, .inr (9, [.ref y0, .int 0, .ref z0, .ref p0, .ref dr, .ref pa, .int 0, .ref s0, .ref im, .int 0, .ref tr, .ref v0, .ref rf])), (rf, .inl (g.2 1, 3, .inl (upd rc 1 (rc 1 + 1)))), (p0, .inr (6, [.ref p1, .ref p2, .ref p3, .ref p4, .int 0]))] := hD
    subst hQ
    exact vx_throwSW hx hb hlt hown (by decide) (by decide) clx inx hsa9 hat9 hgd9 hE.2.2.2.2.1 hE.2.2.2.2.2.1 hS (by rw [hml]; exact hl.1) dX10_demandWall_27 dX10_demandWall_30 dX10_demandWall_31 dX10_demandWall_34 dX10_demandWall_37 (fun x h9 => (hne x h9).elim) (by decide) (Nat.le_of_ble_eq_true rfl) (Nat.le_of_ble_eq_true rfl) (Nat.le_of_ble_eq_true rfl) hlk (fun t _ hz hq => he_thx hP hD hS t hz hq) hS.2.2 (Nat.le_of_ble_eq_true rfl) (Nat.le_of_ble_eq_true rfl)
set_option maxHeartbeats 4000000 in
set_option maxRecDepth 100000 in
theorem c_X10_demandContract0 (l : Launch) (g : he_G) (x0 : Nat) (y0 : Nat) (z0 : Nat) (p0 : Nat) (dr : Nat) (pa : Nat) (s0 : Nat) (im : Nat) (tr : Nat) (v0 : Nat) (rf : Nat) (rc : Nat → Int32) (x : Int32) (hlt : l.stackTraces = false) : he_T he_QTv l yX10_demandContract wsX10_demandContract 6 82 1 6 g [.ref x0, .int x] [(x0, .inr (9, [.ref y0, .int 0, .ref z0, .ref p0, .ref dr, .ref pa, .int 0, .ref s0, .ref im, .int 0, .ref tr, .ref v0, .ref rf])), (rf, .inl (g.2 1, 3, .inl rc))] "java/util/NoSuchElementException" [(x0, .inr (9, [.ref y0, .int 0, .ref z0, .ref p0, .ref dr, .ref pa, .int 0, .ref s0, .ref im, .int 0, .ref tr, .ref v0, .ref rf])), (rf, .inl (g.2 1, 3, .inl (upd rc 0 (rc 0 + 1))))] := by
  refine he_beginX (l := l) (g := g) (y := yX10_demandContract) (wl := wsX10_demandContract) (fr := 6) (lo := 82) (mc := 1) (ms := 6) (av := [.ref x0, .int x]) (ws := [(x0, .inr (9, [.ref y0, .int 0, .ref z0, .ref p0, .ref dr, .ref pa, .int 0, .ref s0, .ref im, .int 0, .ref tr, .ref v0, .ref rf])), (rf, .inl (g.2 1, 3, .inl rc))]) (cc := cX10_demandContract) (maxL := 2) (ret := none) he_QTv (by decide) rfl (Nat.le_of_ble_eq_true rfl) ?_
  intro p e s m args below meth c A ls H locs Q hQ hne hB
  obtain ⟨hx, hb, hr, hml, hown, hts, hlk, hin, hP, hK, hD, hS, hA, hE, hl⟩ := hB
  have hl : lv_has ls 2 [(0, .ref x0), (1, .int x)] := hl
  have f92 := hts (.fieldLink RX10 92 "HiredEnemy" "pactsTold" "I") (by decide +kernel)
  have inX10 : ∀ w ∈ wsX100, w ∈ wsX10_demandContract := by decide +kernel
  have f61 := hts (.fieldLink RX10 61 "HiredEnemy" "refused" "[I") (by decide +kernel)
  obtain ⟨sa9, hsa9⟩ := hE.2.2.2.2.2.2.2.2.1
  have clx := hts (.classLink RX10 263 "java/util/NoSuchElementException") (by decide +kernel)
  have inx := hts (.initialized "java/util/NoSuchElementException") (by decide +kernel)
  have hat9 : ∀ w ∈ nz_at RX10 267, w.before args s = true := he_hatL hE (fun w hw => hts w (List.mem_cons_of_mem _ (List.mem_append_right _ hw))) (by decide +kernel)
  have hgd9 : ∀ w ∈ Cond.classLink RX10 263 "java/util/NoSuchElementException" :: Cond.initialized "java/util/NoSuchElementException" :: nz_at RX10 267, vx_ot w = true := by decide +kernel
  refine lv_iload_n hx hb dX10_demandContract_0 rfl (lv_at hl 1 rfl) ?_
  refine lv_iconst (v := 0) hx hb dX10_demandContract_1 (by decide) ?_
  refine lv_aload_n hx hb dX10_demandContract_2 rfl (lv_at hl 0 rfl) ?_
  refine va_get (v := .int 0) (T := TX10) (N := 13) hx hb hts inX10 hown hK hP 0 rfl rfl 6 (by decide) f92 (fun _ h9 => h9) rfl dX10_demandContract_3 ?_
  refine lv_iconst (v := 1) hx hb dX10_demandContract_6 (by decide) ?_
  refine lv_isub hx hb dX10_demandContract_7 ?_
  refine he_top ((-1)) (by decide) ?_
  refine he_ci (wc := []) (wr := [(x0, .inr (9, [.ref y0, .int 0, .ref z0, .ref p0, .ref dr, .ref pa, .int 0, .ref s0, .ref im, .int 0, .ref tr, .ref v0, .ref rf])), (rf, .inl (g.2 1, 3, .inl rc))]) (va_runS (As := [.int x, .int 0, .int (-1)]) (rest := []) ⟨hx, hb, hml, hown, hts⟩ (c_X10_within l g x 0 (-1) H.size) (va_cwS 3 hts gX10_demandContract_X10_within rfl rfl rfl (by decide +kernel) ⟨Nat.le_of_ble_eq_true rfl, Nat.le_of_ble_eq_true rfl⟩) (he_preS (wc := []) hK hP hD hS hA hE [] rfl rfl) rfl rfl hl.1 rfl (lv_room (Nat.le_of_ble_eq_true rfl)) dX10_demandContract_8 ⟨(Nat.le_of_ble_eq_true rfl), (Nat.le_of_ble_eq_true rfl)⟩) hP hD hS hA [] [0, 1] rfl rfl rfl (by decide) (fun r_1 u_2 H locs h_3 hP hD hS => ?_)
  subst h_3
  have hP : va_P g.1 vwCl [(x0, .inr (9, [.ref y0, .int 0, .ref z0, .ref p0, .ref dr, .ref pa, .int 0, .ref s0, .ref im, .int 0, .ref tr, .ref v0, .ref rf])), (rf, .inl (g.2 1, 3, .inl rc))] H := hP
  have hD : va_D A [(x0, .inr (9, [.ref y0, .int 0, .ref z0, .ref p0, .ref dr, .ref pa, .int 0, .ref s0, .ref im, .int 0, .ref tr, .ref v0, .ref rf])), (rf, .inl (g.2 1, 3, .inl rc))] := hD
  refine he_top (0) (he_within_m1 x) ?_
  refine lv_if_ne (tgt := 35) hx hb dX10_demandContract_11 (by decide) (fun c_4 => ?_) (fun c_4 => ?_)
  · exact absurd (by decide) c_4
  · refine lv_aload_n hx hb dX10_demandContract_14 rfl (lv_at hl 0 rfl) ?_
    refine va_get (v := .ref rf) (T := TX10) (N := 13) hx hb hts inX10 hown hK hP 0 rfl rfl 12 (by decide) f61 (fun _ h9 => h9) rfl dX10_demandContract_15 ?_
    refine lv_iconst (v := 0) hx hb dX10_demandContract_18 (by decide) ?_
    refine lv_dup2_11 hx hb dX10_demandContract_19 rfl rfl ?_
    refine he_iald hx hb hK hP 1 rfl (0) (by decide) (by decide) (by first | decide | assumption) (rc 0) rfl dX10_demandContract_20 ?_
    refine lv_iconst (v := 1) hx hb dX10_demandContract_21 (by decide) ?_
    refine lv_iadd hx hb dX10_demandContract_22 ?_
    refine he_iast hx hb hK hP hD hS 1 rfl (0) (by decide) (by decide) (by first | decide | assumption) dX10_demandContract_23 (fun H locs hP hD hS => ?_)
    have hP : va_P g.1 vwCl [(x0, .inr (9, [.ref y0, .int 0, .ref z0, .ref p0, .ref dr, .ref pa, .int 0, .ref s0, .ref im, .int 0, .ref tr, .ref v0, .ref rf])), (rf, .inl (g.2 1, 3, .inl (upd rc 0 ((rc 0) + 1))))] H := hP
    have hD : va_D A [(x0, .inr (9, [.ref y0, .int 0, .ref z0, .ref p0, .ref dr, .ref pa, .int 0, .ref s0, .ref im, .int 0, .ref tr, .ref v0, .ref rf])), (rf, .inl (g.2 1, 3, .inl (upd rc 0 ((rc 0) + 1))))] := hD
    have hP : va_P g.1 vwCl [(x0, .inr (9, [.ref y0, .int 0, .ref z0, .ref p0, .ref dr, .ref pa, .int 0, .ref s0, .ref im, .int 0, .ref tr, .ref v0, .ref rf])), (rf, .inl (g.2 1, 3, .inl (upd rc 0 (rc 0 + 1))))] H := hP
    have hD : va_D A [(x0, .inr (9, [.ref y0, .int 0, .ref z0, .ref p0, .ref dr, .ref pa, .int 0, .ref s0, .ref im, .int 0, .ref tr, .ref v0, .ref rf])), (rf, .inl (g.2 1, 3, .inl (upd rc 0 (rc 0 + 1))))] := hD
    subst hQ
    exact nz_throwW hx hb hlt hown clx inx hsa9 hat9 hgd9 hE.2.2.2.2.1 hE.2.2.2.2.2.1 hS (by rw [hml]; exact hl.1) dX10_demandContract_24 dX10_demandContract_27 dX10_demandContract_28 dX10_demandContract_31 dX10_demandContract_34 (fun x h9 => (hne x h9).elim) (by decide) (Nat.le_of_ble_eq_true rfl) (Nat.le_of_ble_eq_true rfl) (Nat.le_of_ble_eq_true rfl) hlk (fun t _ hz hq => he_thx hP hD hS t hz hq) hS.2.2 (Nat.le_of_ble_eq_true rfl) (Nat.le_of_ble_eq_true rfl)
set_option maxHeartbeats 4000000 in
set_option maxRecDepth 100000 in
theorem c_X10_demandCN1 (l : Launch) (g : he_G) (x0 : Nat)  : he_V l yX10_demandContractOrNone wsX10_demandContractOrNone 0 0 0 0 g [.ref x0, .int (-1)] [] (fun (u : Unit) => True) (fun (u : Unit) => []) := by
  refine he_begin (l := l) (g := g) (y := yX10_demandContractOrNone) (wl := wsX10_demandContractOrNone) (fr := 0) (lo := 0) (mc := 0) (ms := 0) (av := [.ref x0, .int (-1)]) (ws := []) (cc := cX10_demandContractOrNone) (maxL := 2) (ret := none) (fun A => va_Qv (fun (u : Unit) => True) (fun u t => he_post g A ((fun (u : Unit) => []) u) t) A) (by decide) rfl (Nat.le_of_ble_eq_true rfl) ?_
  intro p e s m args below meth c A ls H locs Q hQ hB
  obtain ⟨hx, hb, hr, hml, hown, hts, hlk, hin, hP, hK, hD, hS, hA, hE, hl⟩ := hB
  have hl : lv_has ls 2 [(0, .ref x0), (1, .int (-1))] := hl
  refine lv_iload_n hx hb dX10_demandContractOrNone_0 rfl (lv_at hl 1 rfl) ?_
  refine lv_iconst (v := (-1)) hx hb dX10_demandContractOrNone_1 (by decide) ?_
  refine lv_icmp_eq (tgt := 10) hx hb dX10_demandContractOrNone_2 (by decide) (fun c_1 => ?_) (fun c_1 => ?_)
  · exact he_rv hQ hx hb hr hlk hP hD hS dX10_demandContractOrNone_10 (Nat.le_of_ble_eq_true rfl) (Nat.le_of_ble_eq_true rfl) (()) (rfl) (trivial)
  · exact absurd (by decide) c_1
set_option maxHeartbeats 4000000 in
set_option maxRecDepth 100000 in
theorem c_X10_demandCN0 (l : Launch) (g : he_G) (x0 : Nat) (y0 : Nat) (z0 : Nat) (p0 : Nat) (dr : Nat) (pa : Nat) (s0 : Nat) (im : Nat) (tr : Nat) (v0 : Nat) (rf : Nat) (rc : Nat → Int32) (x : Int32) (hlt : l.stackTraces = false) (hx1 : ¬ x = -1) : he_T he_QTv l yX10_demandContractOrNone wsX10_demandContractOrNone 7 103 1 6 g [.ref x0, .int x] [(x0, .inr (9, [.ref y0, .int 0, .ref z0, .ref p0, .ref dr, .ref pa, .int 0, .ref s0, .ref im, .int 0, .ref tr, .ref v0, .ref rf])), (rf, .inl (g.2 1, 3, .inl rc))] "java/util/NoSuchElementException" [(x0, .inr (9, [.ref y0, .int 0, .ref z0, .ref p0, .ref dr, .ref pa, .int 0, .ref s0, .ref im, .int 0, .ref tr, .ref v0, .ref rf])), (rf, .inl (g.2 1, 3, .inl (upd rc 0 (rc 0 + 1))))] := by
  refine he_beginX (l := l) (g := g) (y := yX10_demandContractOrNone) (wl := wsX10_demandContractOrNone) (fr := 7) (lo := 103) (mc := 1) (ms := 6) (av := [.ref x0, .int x]) (ws := [(x0, .inr (9, [.ref y0, .int 0, .ref z0, .ref p0, .ref dr, .ref pa, .int 0, .ref s0, .ref im, .int 0, .ref tr, .ref v0, .ref rf])), (rf, .inl (g.2 1, 3, .inl rc))]) (cc := cX10_demandContractOrNone) (maxL := 2) (ret := none) he_QTv (by decide) rfl (Nat.le_of_ble_eq_true rfl) ?_
  intro p e s m args below meth c A ls H locs Q hQ hne hB
  obtain ⟨hx, hb, hr, hml, hown, hts, hlk, hin, hP, hK, hD, hS, hA, hE, hl⟩ := hB
  have hl : lv_has ls 2 [(0, .ref x0), (1, .int x)] := hl
  refine lv_iload_n hx hb dX10_demandContractOrNone_0 rfl (lv_at hl 1 rfl) ?_
  refine lv_iconst (v := (-1)) hx hb dX10_demandContractOrNone_1 (by decide) ?_
  refine lv_icmp_eq (tgt := 10) hx hb dX10_demandContractOrNone_2 (by decide) (fun c_1 => ?_) (fun c_1 => ?_)
  · exact absurd c_1 hx1
  · refine lv_aload_n hx hb dX10_demandContractOrNone_5 rfl (lv_at hl 0 rfl) ?_
    refine lv_iload_n hx hb dX10_demandContractOrNone_6 rfl (lv_at hl 1 rfl) ?_
    refine he_xv (En := "java/util/NoSuchElementException") (wx := [(x0, .inr (9, [.ref y0, .int 0, .ref z0, .ref p0, .ref dr, .ref pa, .int 0, .ref s0, .ref im, .int 0, .ref tr, .ref v0, .ref rf])), (rf, .inl (g.2 1, 3, .inl (upd rc 0 (rc 0 + 1))))]) (wc := [(x0, .inr (9, [.ref y0, .int 0, .ref z0, .ref p0, .ref dr, .ref pa, .int 0, .ref s0, .ref im, .int 0, .ref tr, .ref v0, .ref rf])), (rf, .inl (g.2 1, 3, .inl rc))]) (wr := []) (vx_runV (As := [.int x]) (rest := []) ⟨hx, hb, hml, hown, hts⟩ (c_X10_demandContract0 l g x0 y0 z0 p0 dr pa s0 im tr v0 rf rc x hlt H.size) (cwV 1 hts gX10_demandContractOrNone_X10_demandContract rfl rfl rfl (by decide +kernel) ⟨Nat.le_of_ble_eq_true rfl, Nat.le_of_ble_eq_true rfl⟩) (he_preV (wc := [(x0, .inr (9, [.ref y0, .int 0, .ref z0, .ref p0, .ref dr, .ref pa, .int 0, .ref s0, .ref im, .int 0, .ref tr, .ref v0, .ref rf])), (rf, .inl (g.2 1, 3, .inl rc))]) hK hP hD hS hA hE [0, 1] rfl rfl 0 rfl rfl) rfl rfl hl.1 rfl (lv_room (Nat.le_of_ble_eq_true rfl)) dX10_demandContractOrNone_7 ⟨(Nat.le_of_ble_eq_true rfl), (Nat.le_of_ble_eq_true rfl)⟩) hP hD hS hA [0, 1] [] rfl rfl rfl (by decide) (fun ce q9 H locs hP hD hS hce hcv hcl => ?_)
    have hP : va_P g.1 vwCl [(x0, .inr (9, [.ref y0, .int 0, .ref z0, .ref p0, .ref dr, .ref pa, .int 0, .ref s0, .ref im, .int 0, .ref tr, .ref v0, .ref rf])), (rf, .inl (g.2 1, 3, .inl (upd rc 0 (rc 0 + 1))))] H := hP
    have hD : va_D A [(x0, .inr (9, [.ref y0, .int 0, .ref z0, .ref p0, .ref dr, .ref pa, .int 0, .ref s0, .ref im, .int 0, .ref tr, .ref v0, .ref rf])), (rf, .inl (g.2 1, 3, .inl (upd rc 0 (rc 0 + 1))))] := hD
    exact he_out hQ hlk hne hP hD hS hce hcv hcl (Nat.le_of_ble_eq_true rfl) (Nat.le_of_ble_eq_true rfl)
set_option maxHeartbeats 4000000 in
set_option maxRecDepth 100000 in
theorem c_X10_inForce0 (l : Launch) (g : he_G) (x0 : Nat) (h0 : Nat) (q0 : Nat) (q1 : Nat) (mo : Int32) (f : Nat → Int32) (hnf : f 10 = -1) : he_O l yX10_inForce wsX10_inForce 1 22 0 0 g [.ref x0, .ref h0] [(h0, .inr (4, [.ref q0, .ref q1, .int mo])), (q0, .inl (g.2 1, 24, .inl f))] (fun (r : Option Nat) (u : Unit) => r = none) (fun (u : Unit) => [(h0, .inr (4, [.ref q0, .ref q1, .int mo])), (q0, .inl (g.2 1, 24, .inl f))]) := by
  refine he_begin (l := l) (g := g) (y := yX10_inForce) (wl := wsX10_inForce) (fr := 1) (lo := 22) (mc := 0) (ms := 0) (av := [.ref x0, .ref h0]) (ws := [(h0, .inr (4, [.ref q0, .ref q1, .int mo])), (q0, .inl (g.2 1, 24, .inl f))]) (cc := cX10_inForce) (maxL := 3) (ret := (some (.object "HiredEnemy$Pact"))) (fun A => va_Qq (fun (r : Option Nat) (u : Unit) => r = none) (fun u t => he_post g A ((fun (u : Unit) => [(h0, .inr (4, [.ref q0, .ref q1, .int mo])), (q0, .inl (g.2 1, 24, .inl f))]) u) t) A) (by decide) rfl (Nat.le_of_ble_eq_true rfl) ?_
  intro p e s m args below meth c A ls H locs Q hQ hB
  obtain ⟨hx, hb, hr, hml, hown, hts, hlk, hin, hP, hK, hD, hS, hA, hE, hl⟩ := hB
  have hl : lv_has ls 3 [(0, .ref x0), (1, .ref h0)] := hl
  have f111 := hts (.fieldLink RX10 111 "HiredEnemy$Course" "now" "[I") (by decide +kernel)
  have inX4 : ∀ w ∈ wsX40, w ∈ wsX10_inForce := by decide +kernel
  refine lv_aload_n hx hb dX10_inForce_0 rfl (lv_at hl 1 rfl) ?_
  refine va_get (v := .ref q0) (T := TX4) (N := 3) hx hb hts inX4 hown hK hP 0 rfl rfl 0 (by decide) f111 (fun _ h9 => h9) rfl dX10_inForce_1 ?_
  refine lv_bipush (v := 10) hx hb dX10_inForce_4 (by decide) ?_
  refine he_iald hx hb hK hP 1 rfl (10) (by decide) (by decide) (by first | decide | assumption) ((-1)) hnf dX10_inForce_6 ?_
  refine lv_istore_n (lv' := [(2, .int (-1)), (0, .ref x0), (1, .ref h0)]) hx hb dX10_inForce_7 rfl hl (by decide) rfl (fun ls hl => ?_)
  refine lv_iload_n hx hb dX10_inForce_8 rfl (lv_at hl 0 rfl) ?_
  refine lv_iconst (v := 0) hx hb dX10_inForce_9 (by decide) ?_
  refine lv_bipush (v := 6) hx hb dX10_inForce_10 (by decide) ?_
  refine he_ci (wc := []) (wr := [(h0, .inr (4, [.ref q0, .ref q1, .int mo])), (q0, .inl (g.2 1, 24, .inl f))]) (va_runS (As := [.int (-1), .int 0, .int 6]) (rest := []) ⟨hx, hb, hml, hown, hts⟩ (c_X10_within l g (-1) 0 6 H.size) (va_cwS 3 hts gX10_inForce_X10_within rfl rfl rfl (by decide +kernel) ⟨Nat.le_of_ble_eq_true rfl, Nat.le_of_ble_eq_true rfl⟩) (he_preS (wc := []) hK hP hD hS hA hE [] rfl rfl) rfl rfl hl.1 rfl (lv_room (Nat.le_of_ble_eq_true rfl)) dX10_inForce_12 ⟨(Nat.le_of_ble_eq_true rfl), (Nat.le_of_ble_eq_true rfl)⟩) hP hD hS hA [] [0, 1] rfl rfl rfl (by decide) (fun r_1 u_2 H locs h_3 hP hD hS => ?_)
  subst h_3
  have hP : va_P g.1 vwCl [(h0, .inr (4, [.ref q0, .ref q1, .int mo])), (q0, .inl (g.2 1, 24, .inl f))] H := hP
  have hD : va_D A [(h0, .inr (4, [.ref q0, .ref q1, .int mo])), (q0, .inl (g.2 1, 24, .inl f))] := hD
  refine he_top (0) (by decide) ?_
  refine lv_if_eq (tgt := 27) hx hb dX10_inForce_15 (by decide) (fun c_4 => ?_) (fun c_4 => ?_)
  · refine lv_null hx hb dX10_inForce_27 ?_
    exact he_ra hQ hx hb hr hlk hP hD hS dX10_inForce_28 (Nat.le_of_ble_eq_true rfl) (Nat.le_of_ble_eq_true rfl) (Or.inl ⟨_, rfl⟩) (none) rfl (()) (rfl) (rfl)
  · exact absurd (by decide) c_4
set_option maxHeartbeats 4000000 in
set_option maxRecDepth 100000 in
theorem c_X10_passTried0 (l : Launch) (g : he_G) (x0 : Nat) (y0 : Nat) (z0 : Nat) (dr : Nat) (pa : Nat) (s0 : Nat) (im : Nat) (tr : Nat) (v0 : Nat) (rf : Nat) (p0 : Nat) (p1 : Nat) (p2 : Nat) (p3 : Nat) (p4 : Nat) (w : Nat) (sd : Nat → Int32) (st : Nat → Int32) (me : Nat → Int32) (r0 : Nat) (r1 : Nat) (k : Nat) (f : Nat → Int32) (sh : Nat → Int32) (n : Nat) (hnf : f 10 = -1) (hw6 : w ≤ 6) (hkn : k + n ≤ 120) : he_V l yX10_passTried wsX10_passTried 4 83 0 0 g [.ref x0, .int (nI n)] [(x0, .inr (9, [.ref y0, .int 0, .ref z0, .ref p0, .ref dr, .ref pa, .int 0, .ref s0, .ref im, .int 0, .ref tr, .ref v0, .ref rf])), (tr, .inr (4, [.ref r0, .ref r1, .int (nI k)])), (r0, .inl (g.2 1, 24, .inl f)), (r1, .inl (g.2 1, 6, .inl sh)), (p0, .inr (6, [.ref p1, .ref p2, .ref p3, .ref p4, .int (nI w)])), (p1, .inl (g.2 1, 24, .inl sd)), (p3, .inl (g.2 1, 6, .inl st)), (p4, .inl (g.2 1, 6, .inl me))] (fun (u : Nat → Int32) => True) (fun (u : Nat → Int32) => [(x0, .inr (9, [.ref y0, .int 0, .ref z0, .ref p0, .ref dr, .ref pa, .int 0, .ref s0, .ref im, .int 0, .ref tr, .ref v0, .ref rf])), (tr, .inr (4, [.ref r0, .ref r1, .int (nI (k + n))])), (r0, .inl (g.2 1, 24, .inl (itF sd st me w f n))), (r1, .inl (g.2 1, 6, .inl u)), (p0, .inr (6, [.ref p1, .ref p2, .ref p3, .ref p4, .int (nI w)])), (p1, .inl (g.2 1, 24, .inl sd)), (p3, .inl (g.2 1, 6, .inl st)), (p4, .inl (g.2 1, 6, .inl me))]) := by
  refine he_begin (l := l) (g := g) (y := yX10_passTried) (wl := wsX10_passTried) (fr := 4) (lo := 83) (mc := 0) (ms := 0) (av := [.ref x0, .int (nI n)]) (ws := [(x0, .inr (9, [.ref y0, .int 0, .ref z0, .ref p0, .ref dr, .ref pa, .int 0, .ref s0, .ref im, .int 0, .ref tr, .ref v0, .ref rf])), (tr, .inr (4, [.ref r0, .ref r1, .int (nI k)])), (r0, .inl (g.2 1, 24, .inl f)), (r1, .inl (g.2 1, 6, .inl sh)), (p0, .inr (6, [.ref p1, .ref p2, .ref p3, .ref p4, .int (nI w)])), (p1, .inl (g.2 1, 24, .inl sd)), (p3, .inl (g.2 1, 6, .inl st)), (p4, .inl (g.2 1, 6, .inl me))]) (cc := cX10_passTried) (maxL := 3) (ret := none) (fun A => va_Qv (fun (u : Nat → Int32) => True) (fun u t => he_post g A ((fun (u : Nat → Int32) => [(x0, .inr (9, [.ref y0, .int 0, .ref z0, .ref p0, .ref dr, .ref pa, .int 0, .ref s0, .ref im, .int 0, .ref tr, .ref v0, .ref rf])), (tr, .inr (4, [.ref r0, .ref r1, .int (nI (k + n))])), (r0, .inl (g.2 1, 24, .inl (itF sd st me w f n))), (r1, .inl (g.2 1, 6, .inl u)), (p0, .inr (6, [.ref p1, .ref p2, .ref p3, .ref p4, .int (nI w)])), (p1, .inl (g.2 1, 24, .inl sd)), (p3, .inl (g.2 1, 6, .inl st)), (p4, .inl (g.2 1, 6, .inl me))]) u) t) A) (by decide) rfl (Nat.le_of_ble_eq_true rfl) ?_
  intro p e s m args below meth c A ls H locs Q hQ hB
  obtain ⟨hx, hb, hr, hml, hown, hts, hlk, hin, hP, hK, hD, hS, hA, hE, hl⟩ := hB
  have hl : lv_has ls 3 [(0, .ref x0), (1, .int (nI n))] := hl
  have f50 := hts (.fieldLink RX10 50 "HiredEnemy" "trial" "LHiredEnemy$Course;") (by decide +kernel)
  have inX10 : ∀ w ∈ wsX100, w ∈ wsX10_passTried := by decide +kernel
  have f114 := hts (.fieldLink RX10 114 "HiredEnemy$Course" "month" "I") (by decide +kernel)
  have inX4 : ∀ w ∈ wsX40, w ∈ wsX10_passTried := by decide +kernel
  have f23 := hts (.fieldLink RX10 23 "HiredEnemy" "plan" "LHiredEnemy$Plan;") (by decide +kernel)
  refine lv_iconst (v := 0) hx hb dX10_passTried_0 (by decide) ?_
  refine lv_istore_n (lv' := [(2, .int 0), (0, .ref x0), (1, .int (nI n))]) hx hb dX10_passTried_1 rfl hl (by decide) rfl (fun ls hl => ?_)
  have loop2 : ∀ (n9 : Nat) (j : Nat) (sj : Nat → Int32), n - j < n9 → (j ≤ n) → ∀ (H : Heap) (locs : List Loc) (ls : Array Slot), va_P g.1 vwCl [(x0, .inr (9, [.ref y0, .int 0, .ref z0, .ref p0, .ref dr, .ref pa, .int 0, .ref s0, .ref im, .int 0, .ref tr, .ref v0, .ref rf])), (tr, .inr (4, [.ref r0, .ref r1, .int (nI (k + j))])), (r0, .inl (g.2 1, 24, .inl (itF sd st me w f j))), (r1, .inl (g.2 1, 6, .inl sj)), (p0, .inr (6, [.ref p1, .ref p2, .ref p3, .ref p4, .int (nI w)])), (p1, .inl (g.2 1, 24, .inl sd)), (p3, .inl (g.2 1, 6, .inl st)), (p4, .inl (g.2 1, 6, .inl me))] H → va_D A [(x0, .inr (9, [.ref y0, .int 0, .ref z0, .ref p0, .ref dr, .ref pa, .int 0, .ref s0, .ref im, .int 0, .ref tr, .ref v0, .ref rf])), (tr, .inr (4, [.ref r0, .ref r1, .int (nI (k + j))])), (r0, .inl (g.2 1, 24, .inl (itF sd st me w f j))), (r1, .inl (g.2 1, 6, .inl sj)), (p0, .inr (6, [.ref p1, .ref p2, .ref p3, .ref p4, .int (nI w)])), (p1, .inl (g.2 1, 24, .inl sd)), (p3, .inl (g.2 1, 6, .inl st)), (p4, .inl (g.2 1, 6, .inl me))] → va_S A s.heap H locs → lv_has ls 3 [(0, .ref x0), (1, .int (nI n)), (2, .int (nI j))] → W p l e (he_room 4 83 0 0) s m args below meth c H locs 0 0 Q (F0 m 2 ls []) := by
    intro n9
    induction n9 with
    | zero => intro j sj hm9; exact absurd hm9 (Nat.not_lt_zero _)
    | succ n9 ih2 =>
      intro j sj hm9 hj H locs ls hP hD hS hl
      refine lv_iload_n hx hb dX10_passTried_2 rfl (lv_at hl 2 rfl) ?_
      refine lv_iload_n hx hb dX10_passTried_3 rfl (lv_at hl 1 rfl) ?_
      refine lv_icmp_ge (tgt := 44) hx hb dX10_passTried_4 (by decide) (fun c_1 => ?_) (fun c_1 => ?_)
      · have k_2 : n ≤ j := (he_cle (a := n) (b := j) rfl rfl (by omega) (by omega)).mp c_1
        exact he_rv hQ hx hb hr hlk hP hD hS dX10_passTried_44 (Nat.le_of_ble_eq_true rfl) (Nat.le_of_ble_eq_true rfl) (sj) (by rw [show n = j by omega]) (trivial)
      · have k_3 : ¬ (n ≤ j) := fun h9 => c_1 ((he_cle (a := n) (b := j) rfl rfl (by omega) (by omega)).mpr h9)
        refine lv_aload_n hx hb dX10_passTried_7 rfl (lv_at hl 0 rfl) ?_
        refine va_get (v := .ref tr) (T := TX10) (N := 13) hx hb hts inX10 hown hK hP 0 rfl rfl 10 (by decide) f50 (fun _ h9 => h9) rfl dX10_passTried_8 ?_
        refine va_get (v := .int (nI (k + j))) (T := TX4) (N := 3) hx hb hts inX4 hown hK hP 1 rfl rfl 2 (by decide) f114 (fun _ h9 => h9) rfl dX10_passTried_11 ?_
        refine lv_bipush (v := 120) hx hb dX10_passTried_14 (by decide) ?_
        refine lv_icmp_ge (tgt := 44) hx hb dX10_passTried_16 (by decide) (fun c_4 => ?_) (fun c_4 => ?_)
        · exact absurd c_4 (fun h9 => absurd ((he_cle (a := 120) (b := k + j) (by decide) rfl (by decide) (by omega)).mp h9) (by omega))
        · refine lv_aload_n hx hb dX10_passTried_19 rfl (lv_at hl 0 rfl) ?_
          refine va_get (v := .ref tr) (T := TX10) (N := 13) hx hb hts inX10 hown hK hP 0 rfl rfl 10 (by decide) f50 (fun _ h9 => h9) rfl dX10_passTried_20 ?_
          refine lv_aload_n hx hb dX10_passTried_23 rfl (lv_at hl 0 rfl) ?_
          refine va_get (v := .ref p0) (T := TX10) (N := 13) hx hb hts inX10 hown hK hP 0 rfl rfl 3 (by decide) f23 (fun _ h9 => h9) rfl dX10_passTried_24 ?_
          refine lv_aload_n hx hb dX10_passTried_27 rfl (lv_at hl 0 rfl) ?_
          refine lv_aload_n hx hb dX10_passTried_28 rfl (lv_at hl 0 rfl) ?_
          refine va_get (v := .ref tr) (T := TX10) (N := 13) hx hb hts inX10 hown hK hP 0 rfl rfl 10 (by decide) f50 (fun _ h9 => h9) rfl dX10_passTried_29 ?_
          refine he_cq (wc := [(tr, .inr (4, [.ref r0, .ref r1, .int (nI (k + j))])), (r0, .inl (g.2 1, 24, .inl (itF sd st me w f j)))]) (wr := [(x0, .inr (9, [.ref y0, .int 0, .ref z0, .ref p0, .ref dr, .ref pa, .int 0, .ref s0, .ref im, .int 0, .ref tr, .ref v0, .ref rf])), (r1, .inl (g.2 1, 6, .inl sj)), (p0, .inr (6, [.ref p1, .ref p2, .ref p3, .ref p4, .int (nI w)])), (p1, .inl (g.2 1, 24, .inl sd)), (p3, .inl (g.2 1, 6, .inl st)), (p4, .inl (g.2 1, 6, .inl me))]) (va_runV (As := [.ref tr]) (rest := [.ref p0, .ref tr]) ⟨hx, hb, hml, hown, hts⟩ (c_X10_inForce0 l g x0 tr r0 r1 (nI (k + j)) (itF sd st me w f j) (by rw [itF_n _ _ _ _ _ _ (by decide) (by decide)]; exact hnf) H.size) (cwV 1 hts gX10_passTried_X10_inForce rfl rfl rfl (by decide +kernel) ⟨Nat.le_of_ble_eq_true rfl, Nat.le_of_ble_eq_true rfl⟩) (he_preV (wc := [(tr, .inr (4, [.ref r0, .ref r1, .int (nI (k + j))])), (r0, .inl (g.2 1, 24, .inl (itF sd st me w f j)))]) hK hP hD hS hA hE [1, 2] rfl rfl 0 rfl rfl) rfl rfl hl.1 rfl (lv_room (Nat.le_of_ble_eq_true rfl)) dX10_passTried_32 ⟨(Nat.le_of_ble_eq_true rfl), (Nat.le_of_ble_eq_true rfl)⟩) hP hD hS hA [1, 2] [0, 3, 4, 5, 6, 7] rfl rfl rfl (by decide) (fun r_5 u_6 H locs h_7 hP hD hS => ?_)
          subst h_7
          have hP : va_P g.1 vwCl [(x0, .inr (9, [.ref y0, .int 0, .ref z0, .ref p0, .ref dr, .ref pa, .int 0, .ref s0, .ref im, .int 0, .ref tr, .ref v0, .ref rf])), (r1, .inl (g.2 1, 6, .inl sj)), (p0, .inr (6, [.ref p1, .ref p2, .ref p3, .ref p4, .int (nI w)])), (p1, .inl (g.2 1, 24, .inl sd)), (p3, .inl (g.2 1, 6, .inl st)), (p4, .inl (g.2 1, 6, .inl me)), (tr, .inr (4, [.ref r0, .ref r1, .int (nI (k + j))])), (r0, .inl (g.2 1, 24, .inl (itF sd st me w f j)))] H := hP
          have hD : va_D A [(x0, .inr (9, [.ref y0, .int 0, .ref z0, .ref p0, .ref dr, .ref pa, .int 0, .ref s0, .ref im, .int 0, .ref tr, .ref v0, .ref rf])), (r1, .inl (g.2 1, 6, .inl sj)), (p0, .inr (6, [.ref p1, .ref p2, .ref p3, .ref p4, .int (nI w)])), (p1, .inl (g.2 1, 24, .inl sd)), (p3, .inl (g.2 1, 6, .inl st)), (p4, .inl (g.2 1, 6, .inl me)), (tr, .inr (4, [.ref r0, .ref r1, .int (nI (k + j))])), (r0, .inl (g.2 1, 24, .inl (itF sd st me w f j)))] := hD
          refine he_cv (wc := [(tr, .inr (4, [.ref r0, .ref r1, .int (nI (k + j))])), (r0, .inl (g.2 1, 24, .inl (itF sd st me w f j))), (r1, .inl (g.2 1, 6, .inl sj)), (p0, .inr (6, [.ref p1, .ref p2, .ref p3, .ref p4, .int (nI w)])), (p1, .inl (g.2 1, 24, .inl sd)), (p3, .inl (g.2 1, 6, .inl st)), (p4, .inl (g.2 1, 6, .inl me))]) (wr := [(x0, .inr (9, [.ref y0, .int 0, .ref z0, .ref p0, .ref dr, .ref pa, .int 0, .ref s0, .ref im, .int 0, .ref tr, .ref v0, .ref rf]))]) (va_runV (As := [.ref p0, .null]) (rest := []) ⟨hx, hb, hml, hown, hts⟩ (c_X4_pass0 l g tr r0 r1 (nI (k + j)) (itF sd st me w f j) sj p0 p1 p2 p3 p4 w sd st me (by first | assumption | decide | omega) H.size) (cwV 2 hts gX10_passTried_X4_pass rfl rfl rfl (by decide +kernel) ⟨Nat.le_of_ble_eq_true rfl, Nat.le_of_ble_eq_true rfl⟩) (he_preV (wc := [(tr, .inr (4, [.ref r0, .ref r1, .int (nI (k + j))])), (r0, .inl (g.2 1, 24, .inl (itF sd st me w f j))), (r1, .inl (g.2 1, 6, .inl sj)), (p0, .inr (6, [.ref p1, .ref p2, .ref p3, .ref p4, .int (nI w)])), (p1, .inl (g.2 1, 24, .inl sd)), (p3, .inl (g.2 1, 6, .inl st)), (p4, .inl (g.2 1, 6, .inl me))]) hK hP hD hS hA hE [6, 7, 1, 2, 3, 4, 5] rfl rfl 6 rfl rfl) rfl rfl hl.1 rfl (lv_room (Nat.le_of_ble_eq_true rfl)) dX10_passTried_35 ⟨(Nat.le_of_ble_eq_true rfl), (Nat.le_of_ble_eq_true rfl)⟩) hP hD hS hA [6, 7, 1, 2, 3, 4, 5] [0] rfl rfl rfl (by decide) (fun u_9 H locs h_10 hP hD hS => ?_)
          have hP : va_P g.1 vwCl [(x0, .inr (9, [.ref y0, .int 0, .ref z0, .ref p0, .ref dr, .ref pa, .int 0, .ref s0, .ref im, .int 0, .ref tr, .ref v0, .ref rf])), (tr, .inr (4, [.ref r0, .ref r1, .int ((nI (k + j)) + 1)])), (r0, .inl (g.2 1, 24, .inl (psT sd st me w (taxF sd (itF sd st me w f j))))), (r1, .inl (g.2 1, 6, .inl (flF (fun _ => 0) sj 6))), (p0, .inr (6, [.ref p1, .ref p2, .ref p3, .ref p4, .int (nI w)])), (p1, .inl (g.2 1, 24, .inl sd)), (p3, .inl (g.2 1, 6, .inl st)), (p4, .inl (g.2 1, 6, .inl me))] H := hP
          have hD : va_D A [(x0, .inr (9, [.ref y0, .int 0, .ref z0, .ref p0, .ref dr, .ref pa, .int 0, .ref s0, .ref im, .int 0, .ref tr, .ref v0, .ref rf])), (tr, .inr (4, [.ref r0, .ref r1, .int ((nI (k + j)) + 1)])), (r0, .inl (g.2 1, 24, .inl (psT sd st me w (taxF sd (itF sd st me w f j))))), (r1, .inl (g.2 1, 6, .inl (flF (fun _ => 0) sj 6))), (p0, .inr (6, [.ref p1, .ref p2, .ref p3, .ref p4, .int (nI w)])), (p1, .inl (g.2 1, 24, .inl sd)), (p3, .inl (g.2 1, 6, .inl st)), (p4, .inl (g.2 1, 6, .inl me))] := hD
          refine lv_iinc (v := nI (j + 1)) (lv' := [(2, .int (nI (j + 1))), (0, .ref x0), (1, .int (nI n))]) hx hb dX10_passTried_38 hl (k := 2) rfl (nI_1 j) (by decide) rfl (fun ls hl => ?_)
          refine lv_goto (tgt := 2) hx hb dX10_passTried_41 (by decide) ?_
          have hP : va_P g.1 vwCl [(x0, .inr (9, [.ref y0, .int 0, .ref z0, .ref p0, .ref dr, .ref pa, .int 0, .ref s0, .ref im, .int 0, .ref tr, .ref v0, .ref rf])), (tr, .inr (4, [.ref r0, .ref r1, .int (nI (k + (j + 1)))])), (r0, .inl (g.2 1, 24, .inl (itF sd st me w f (j + 1)))), (r1, .inl (g.2 1, 6, .inl (flF (fun _ => 0) sj 6))), (p0, .inr (6, [.ref p1, .ref p2, .ref p3, .ref p4, .int (nI w)])), (p1, .inl (g.2 1, 24, .inl sd)), (p3, .inl (g.2 1, 6, .inl st)), (p4, .inl (g.2 1, 6, .inl me))] H := by rw [show nI (k + (j + 1)) = nI (k + j) + 1 from nI_succ (k + j)]; exact hP
          have hD : va_D A [(x0, .inr (9, [.ref y0, .int 0, .ref z0, .ref p0, .ref dr, .ref pa, .int 0, .ref s0, .ref im, .int 0, .ref tr, .ref v0, .ref rf])), (tr, .inr (4, [.ref r0, .ref r1, .int (nI (k + (j + 1)))])), (r0, .inl (g.2 1, 24, .inl (itF sd st me w f (j + 1)))), (r1, .inl (g.2 1, 6, .inl (flF (fun _ => 0) sj 6))), (p0, .inr (6, [.ref p1, .ref p2, .ref p3, .ref p4, .int (nI w)])), (p1, .inl (g.2 1, 24, .inl sd)), (p3, .inl (g.2 1, 6, .inl st)), (p4, .inl (g.2 1, 6, .inl me))] := by rw [show nI (k + (j + 1)) = nI (k + j) + 1 from nI_succ (k + j)]; exact hD
          exact ih2 (j + 1) (flF (fun _ => 0) sj 6) (by omega) (by omega) _ _ _ hP hD hS (lv_sub hl [1, 2, 0] rfl)
  have hP : va_P g.1 vwCl [(x0, .inr (9, [.ref y0, .int 0, .ref z0, .ref p0, .ref dr, .ref pa, .int 0, .ref s0, .ref im, .int 0, .ref tr, .ref v0, .ref rf])), (tr, .inr (4, [.ref r0, .ref r1, .int (nI (k + 0))])), (r0, .inl (g.2 1, 24, .inl (itF sd st me w f 0))), (r1, .inl (g.2 1, 6, .inl sh)), (p0, .inr (6, [.ref p1, .ref p2, .ref p3, .ref p4, .int (nI w)])), (p1, .inl (g.2 1, 24, .inl sd)), (p3, .inl (g.2 1, 6, .inl st)), (p4, .inl (g.2 1, 6, .inl me))] H := by skip; exact hP
  have hD : va_D A [(x0, .inr (9, [.ref y0, .int 0, .ref z0, .ref p0, .ref dr, .ref pa, .int 0, .ref s0, .ref im, .int 0, .ref tr, .ref v0, .ref rf])), (tr, .inr (4, [.ref r0, .ref r1, .int (nI (k + 0))])), (r0, .inl (g.2 1, 24, .inl (itF sd st me w f 0))), (r1, .inl (g.2 1, 6, .inl sh)), (p0, .inr (6, [.ref p1, .ref p2, .ref p3, .ref p4, .int (nI w)])), (p1, .inl (g.2 1, 24, .inl sd)), (p3, .inl (g.2 1, 6, .inl st)), (p4, .inl (g.2 1, 6, .inl me))] := by skip; exact hD
  exact loop2 ((n - 0) + 1) 0 sh (Nat.lt_succ_self _) (Nat.zero_le _) _ _ _ hP hD hS (lv_sub hl [1, 2, 0] rfl)
set_option maxHeartbeats 4000000 in
set_option maxRecDepth 100000 in
theorem c_X10_trySigned0 (l : Launch) (g : he_G) (x0 : Nat) (y0 : Nat) (z0 : Nat) (dr : Nat) (pa : Nat) (s0 : Nat) (im : Nat) (tr : Nat) (v0 : Nat) (rf : Nat) (p0 : Nat) (p1 : Nat) (p2 : Nat) (p3 : Nat) (p4 : Nat) (w : Nat) (sd : Nat → Int32) (st : Nat → Int32) (me : Nat → Int32) (a0 : Nat) (b0 : Nat) (e0 : Nat) (h0 : Nat) (q0 : Nat) (q1 : Nat) (k : Nat) (f : Nat → Int32) (r0 : Nat) (r1 : Nat) (mo1 : Int32) (f1 : Nat → Int32) (sh : Nat → Int32) (n : Nat) (hw6 : w ≤ 6) (hkn : k + n ≤ 120) : he_I l yX10_trySigned wsX10_trySigned 5 105 0 0 g [.ref x0, .int (-1), .int (nI n)] [(x0, .inr (9, [.ref y0, .int 0, .ref z0, .ref p0, .ref dr, .ref pa, .int 0, .ref s0, .ref im, .int 0, .ref tr, .ref v0, .ref rf])), (s0, .inr (8, [.ref h0, .ref a0, .ref b0, .ref e0])), (h0, .inr (4, [.ref q0, .ref q1, .int (nI k)])), (q0, .inl (g.2 1, 24, .inl f)), (tr, .inr (4, [.ref r0, .ref r1, .int mo1])), (r0, .inl (g.2 1, 24, .inl f1)), (r1, .inl (g.2 1, 6, .inl sh)), (p0, .inr (6, [.ref p1, .ref p2, .ref p3, .ref p4, .int (nI w)])), (p1, .inl (g.2 1, 24, .inl sd)), (p3, .inl (g.2 1, 6, .inl st)), (p4, .inl (g.2 1, 6, .inl me))] (fun (r : Int32) (u : Nat → Int32) => r = itF sd st me w (fcF (va_cpy f f1 0 0 24) (-1) (nI k)) n 0) (fun (u : Nat → Int32) => [(x0, .inr (9, [.ref y0, .int 0, .ref z0, .ref p0, .ref dr, .ref pa, .int 0, .ref s0, .ref im, .int 0, .ref tr, .ref v0, .ref rf])), (s0, .inr (8, [.ref h0, .ref a0, .ref b0, .ref e0])), (h0, .inr (4, [.ref q0, .ref q1, .int (nI k)])), (q0, .inl (g.2 1, 24, .inl f)), (tr, .inr (4, [.ref r0, .ref r1, .int (nI (k + n))])), (r0, .inl (g.2 1, 24, .inl (itF sd st me w (fcF (va_cpy f f1 0 0 24) (-1) (nI k)) n))), (r1, .inl (g.2 1, 6, .inl u)), (p0, .inr (6, [.ref p1, .ref p2, .ref p3, .ref p4, .int (nI w)])), (p1, .inl (g.2 1, 24, .inl sd)), (p3, .inl (g.2 1, 6, .inl st)), (p4, .inl (g.2 1, 6, .inl me))]) := by
  refine he_begin (l := l) (g := g) (y := yX10_trySigned) (wl := wsX10_trySigned) (fr := 5) (lo := 105) (mc := 0) (ms := 0) (av := [.ref x0, .int (-1), .int (nI n)]) (ws := [(x0, .inr (9, [.ref y0, .int 0, .ref z0, .ref p0, .ref dr, .ref pa, .int 0, .ref s0, .ref im, .int 0, .ref tr, .ref v0, .ref rf])), (s0, .inr (8, [.ref h0, .ref a0, .ref b0, .ref e0])), (h0, .inr (4, [.ref q0, .ref q1, .int (nI k)])), (q0, .inl (g.2 1, 24, .inl f)), (tr, .inr (4, [.ref r0, .ref r1, .int mo1])), (r0, .inl (g.2 1, 24, .inl f1)), (r1, .inl (g.2 1, 6, .inl sh)), (p0, .inr (6, [.ref p1, .ref p2, .ref p3, .ref p4, .int (nI w)])), (p1, .inl (g.2 1, 24, .inl sd)), (p3, .inl (g.2 1, 6, .inl st)), (p4, .inl (g.2 1, 6, .inl me))]) (cc := cX10_trySigned) (maxL := 3) (ret := (some .int)) (fun A => va_Qi (fun (r : Int32) (u : Nat → Int32) => r = itF sd st me w (fcF (va_cpy f f1 0 0 24) (-1) (nI k)) n 0) (fun u t => he_post g A ((fun (u : Nat → Int32) => [(x0, .inr (9, [.ref y0, .int 0, .ref z0, .ref p0, .ref dr, .ref pa, .int 0, .ref s0, .ref im, .int 0, .ref tr, .ref v0, .ref rf])), (s0, .inr (8, [.ref h0, .ref a0, .ref b0, .ref e0])), (h0, .inr (4, [.ref q0, .ref q1, .int (nI k)])), (q0, .inl (g.2 1, 24, .inl f)), (tr, .inr (4, [.ref r0, .ref r1, .int (nI (k + n))])), (r0, .inl (g.2 1, 24, .inl (itF sd st me w (fcF (va_cpy f f1 0 0 24) (-1) (nI k)) n))), (r1, .inl (g.2 1, 6, .inl u)), (p0, .inr (6, [.ref p1, .ref p2, .ref p3, .ref p4, .int (nI w)])), (p1, .inl (g.2 1, 24, .inl sd)), (p3, .inl (g.2 1, 6, .inl st)), (p4, .inl (g.2 1, 6, .inl me))]) u) t) A) (by decide) rfl (Nat.le_of_ble_eq_true rfl) ?_
  intro p e s m args below meth c A ls H locs Q hQ hB
  obtain ⟨hx, hb, hr, hml, hown, hts, hlk, hin, hP, hK, hD, hS, hA, hE, hl⟩ := hB
  have hl : lv_has ls 3 [(0, .ref x0), (1, .int (-1)), (2, .int (nI n))] := hl
  have f50 := hts (.fieldLink RX10 50 "HiredEnemy" "trial" "LHiredEnemy$Course;") (by decide +kernel)
  have inX10 : ∀ w ∈ wsX100, w ∈ wsX10_trySigned := by decide +kernel
  have f39 := hts (.fieldLink RX10 39 "HiredEnemy" "scene" "LHiredEnemy$Scene;") (by decide +kernel)
  have f66 := hts (.fieldLink RX10 66 "HiredEnemy$Scene" "course" "LHiredEnemy$Course;") (by decide +kernel)
  have inX8 : ∀ w ∈ wsX80, w ∈ wsX10_trySigned := by decide +kernel
  have f111 := hts (.fieldLink RX10 111 "HiredEnemy$Course" "now" "[I") (by decide +kernel)
  have inX4 : ∀ w ∈ wsX40, w ∈ wsX10_trySigned := by decide +kernel
  refine lv_aload_n hx hb dX10_trySigned_0 rfl (lv_at hl 0 rfl) ?_
  refine va_get (v := .ref tr) (T := TX10) (N := 13) hx hb hts inX10 hown hK hP 0 rfl rfl 10 (by decide) f50 (fun _ h9 => h9) rfl dX10_trySigned_1 ?_
  refine lv_aload_n hx hb dX10_trySigned_4 rfl (lv_at hl 0 rfl) ?_
  refine va_get (v := .ref s0) (T := TX10) (N := 13) hx hb hts inX10 hown hK hP 0 rfl rfl 7 (by decide) f39 (fun _ h9 => h9) rfl dX10_trySigned_5 ?_
  refine va_get (v := .ref h0) (T := TX8) (N := 4) hx hb hts inX8 hown hK hP 1 rfl rfl 0 (by decide) f66 (fun _ h9 => h9) rfl dX10_trySigned_8 ?_
  refine he_cv (wc := [(tr, .inr (4, [.ref r0, .ref r1, .int mo1])), (r0, .inl (g.2 1, 24, .inl f1)), (h0, .inr (4, [.ref q0, .ref q1, .int (nI k)])), (q0, .inl (g.2 1, 24, .inl f))]) (wr := [(x0, .inr (9, [.ref y0, .int 0, .ref z0, .ref p0, .ref dr, .ref pa, .int 0, .ref s0, .ref im, .int 0, .ref tr, .ref v0, .ref rf])), (s0, .inr (8, [.ref h0, .ref a0, .ref b0, .ref e0])), (r1, .inl (g.2 1, 6, .inl sh)), (p0, .inr (6, [.ref p1, .ref p2, .ref p3, .ref p4, .int (nI w)])), (p1, .inl (g.2 1, 24, .inl sd)), (p3, .inl (g.2 1, 6, .inl st)), (p4, .inl (g.2 1, 6, .inl me))]) (va_runV (As := [.ref h0]) (rest := []) ⟨hx, hb, hml, hown, hts⟩ (c_X4_take l g tr r0 r1 mo1 f1 h0 q0 q1 (nI k) f H.size) (cwV 1 hts gX10_trySigned_X4_take rfl rfl rfl (by decide +kernel) ⟨Nat.le_of_ble_eq_true rfl, Nat.le_of_ble_eq_true rfl⟩) (he_preV (wc := [(tr, .inr (4, [.ref r0, .ref r1, .int mo1])), (r0, .inl (g.2 1, 24, .inl f1)), (h0, .inr (4, [.ref q0, .ref q1, .int (nI k)])), (q0, .inl (g.2 1, 24, .inl f))]) hK hP hD hS hA hE [4, 5, 2, 3] rfl rfl 4 rfl rfl) rfl rfl hl.1 rfl (lv_room (Nat.le_of_ble_eq_true rfl)) dX10_trySigned_11 ⟨(Nat.le_of_ble_eq_true rfl), (Nat.le_of_ble_eq_true rfl)⟩) hP hD hS hA [4, 5, 2, 3] [0, 1, 6, 7, 8, 9, 10] rfl rfl rfl (by decide) (fun u_2 H locs h_3 hP hD hS => ?_)
  have hP : va_P g.1 vwCl [(x0, .inr (9, [.ref y0, .int 0, .ref z0, .ref p0, .ref dr, .ref pa, .int 0, .ref s0, .ref im, .int 0, .ref tr, .ref v0, .ref rf])), (s0, .inr (8, [.ref h0, .ref a0, .ref b0, .ref e0])), (r1, .inl (g.2 1, 6, .inl sh)), (p0, .inr (6, [.ref p1, .ref p2, .ref p3, .ref p4, .int (nI w)])), (p1, .inl (g.2 1, 24, .inl sd)), (p3, .inl (g.2 1, 6, .inl st)), (p4, .inl (g.2 1, 6, .inl me)), (tr, .inr (4, [.ref r0, .ref r1, .int (nI k)])), (r0, .inl (g.2 1, 24, .inl (va_cpy f f1 0 0 24))), (h0, .inr (4, [.ref q0, .ref q1, .int (nI k)])), (q0, .inl (g.2 1, 24, .inl f))] H := hP
  have hD : va_D A [(x0, .inr (9, [.ref y0, .int 0, .ref z0, .ref p0, .ref dr, .ref pa, .int 0, .ref s0, .ref im, .int 0, .ref tr, .ref v0, .ref rf])), (s0, .inr (8, [.ref h0, .ref a0, .ref b0, .ref e0])), (r1, .inl (g.2 1, 6, .inl sh)), (p0, .inr (6, [.ref p1, .ref p2, .ref p3, .ref p4, .int (nI w)])), (p1, .inl (g.2 1, 24, .inl sd)), (p3, .inl (g.2 1, 6, .inl st)), (p4, .inl (g.2 1, 6, .inl me)), (tr, .inr (4, [.ref r0, .ref r1, .int (nI k)])), (r0, .inl (g.2 1, 24, .inl (va_cpy f f1 0 0 24))), (h0, .inr (4, [.ref q0, .ref q1, .int (nI k)])), (q0, .inl (g.2 1, 24, .inl f))] := hD
  refine lv_aload_n hx hb dX10_trySigned_14 rfl (lv_at hl 0 rfl) ?_
  refine va_get (v := .ref tr) (T := TX10) (N := 13) hx hb hts inX10 hown hK hP 0 rfl rfl 10 (by decide) f50 (fun _ h9 => h9) rfl dX10_trySigned_15 ?_
  refine lv_iload_n hx hb dX10_trySigned_18 rfl (lv_at hl 1 rfl) ?_
  refine he_cv (wc := [(tr, .inr (4, [.ref r0, .ref r1, .int (nI k)])), (r0, .inl (g.2 1, 24, .inl (va_cpy f f1 0 0 24)))]) (wr := [(x0, .inr (9, [.ref y0, .int 0, .ref z0, .ref p0, .ref dr, .ref pa, .int 0, .ref s0, .ref im, .int 0, .ref tr, .ref v0, .ref rf])), (s0, .inr (8, [.ref h0, .ref a0, .ref b0, .ref e0])), (r1, .inl (g.2 1, 6, .inl sh)), (p0, .inr (6, [.ref p1, .ref p2, .ref p3, .ref p4, .int (nI w)])), (p1, .inl (g.2 1, 24, .inl sd)), (p3, .inl (g.2 1, 6, .inl st)), (p4, .inl (g.2 1, 6, .inl me)), (h0, .inr (4, [.ref q0, .ref q1, .int (nI k)])), (q0, .inl (g.2 1, 24, .inl f))]) (va_runV (As := [.int (-1)]) (rest := []) ⟨hx, hb, hml, hown, hts⟩ (c_X4_pledge l g tr r0 r1 (nI k) (va_cpy f f1 0 0 24) (-1) H.size) (cwV 1 hts gX10_trySigned_X4_pledge rfl rfl rfl (by decide +kernel) ⟨Nat.le_of_ble_eq_true rfl, Nat.le_of_ble_eq_true rfl⟩) (he_preV (wc := [(tr, .inr (4, [.ref r0, .ref r1, .int (nI k)])), (r0, .inl (g.2 1, 24, .inl (va_cpy f f1 0 0 24)))]) hK hP hD hS hA hE [7, 8] rfl rfl 7 rfl rfl) rfl rfl hl.1 rfl (lv_room (Nat.le_of_ble_eq_true rfl)) dX10_trySigned_19 ⟨(Nat.le_of_ble_eq_true rfl), (Nat.le_of_ble_eq_true rfl)⟩) hP hD hS hA [7, 8] [0, 1, 2, 3, 4, 5, 6, 9, 10] rfl rfl rfl (by decide) (fun u_5 H locs h_6 hP hD hS => ?_)
  have hP : va_P g.1 vwCl [(x0, .inr (9, [.ref y0, .int 0, .ref z0, .ref p0, .ref dr, .ref pa, .int 0, .ref s0, .ref im, .int 0, .ref tr, .ref v0, .ref rf])), (s0, .inr (8, [.ref h0, .ref a0, .ref b0, .ref e0])), (r1, .inl (g.2 1, 6, .inl sh)), (p0, .inr (6, [.ref p1, .ref p2, .ref p3, .ref p4, .int (nI w)])), (p1, .inl (g.2 1, 24, .inl sd)), (p3, .inl (g.2 1, 6, .inl st)), (p4, .inl (g.2 1, 6, .inl me)), (h0, .inr (4, [.ref q0, .ref q1, .int (nI k)])), (q0, .inl (g.2 1, 24, .inl f)), (tr, .inr (4, [.ref r0, .ref r1, .int (nI k)])), (r0, .inl (g.2 1, 24, .inl (fcF (va_cpy f f1 0 0 24) (-1) (nI k))))] H := hP
  have hD : va_D A [(x0, .inr (9, [.ref y0, .int 0, .ref z0, .ref p0, .ref dr, .ref pa, .int 0, .ref s0, .ref im, .int 0, .ref tr, .ref v0, .ref rf])), (s0, .inr (8, [.ref h0, .ref a0, .ref b0, .ref e0])), (r1, .inl (g.2 1, 6, .inl sh)), (p0, .inr (6, [.ref p1, .ref p2, .ref p3, .ref p4, .int (nI w)])), (p1, .inl (g.2 1, 24, .inl sd)), (p3, .inl (g.2 1, 6, .inl st)), (p4, .inl (g.2 1, 6, .inl me)), (h0, .inr (4, [.ref q0, .ref q1, .int (nI k)])), (q0, .inl (g.2 1, 24, .inl f)), (tr, .inr (4, [.ref r0, .ref r1, .int (nI k)])), (r0, .inl (g.2 1, 24, .inl (fcF (va_cpy f f1 0 0 24) (-1) (nI k))))] := hD
  refine lv_aload_n hx hb dX10_trySigned_22 rfl (lv_at hl 0 rfl) ?_
  refine lv_iload_n hx hb dX10_trySigned_23 rfl (lv_at hl 2 rfl) ?_
  refine he_cv (wc := [(x0, .inr (9, [.ref y0, .int 0, .ref z0, .ref p0, .ref dr, .ref pa, .int 0, .ref s0, .ref im, .int 0, .ref tr, .ref v0, .ref rf])), (tr, .inr (4, [.ref r0, .ref r1, .int (nI k)])), (r0, .inl (g.2 1, 24, .inl (fcF (va_cpy f f1 0 0 24) (-1) (nI k)))), (r1, .inl (g.2 1, 6, .inl sh)), (p0, .inr (6, [.ref p1, .ref p2, .ref p3, .ref p4, .int (nI w)])), (p1, .inl (g.2 1, 24, .inl sd)), (p3, .inl (g.2 1, 6, .inl st)), (p4, .inl (g.2 1, 6, .inl me))]) (wr := [(s0, .inr (8, [.ref h0, .ref a0, .ref b0, .ref e0])), (h0, .inr (4, [.ref q0, .ref q1, .int (nI k)])), (q0, .inl (g.2 1, 24, .inl f))]) (va_runV (As := [.int (nI n)]) (rest := []) ⟨hx, hb, hml, hown, hts⟩ (c_X10_passTried0 l g x0 y0 z0 dr pa s0 im tr v0 rf p0 p1 p2 p3 p4 w sd st me r0 r1 k (fcF (va_cpy f f1 0 0 24) (-1) (nI k)) sh n (fcF_10 _ _ _) (by first | assumption | decide | omega) (by first | assumption | decide | omega) H.size) (cwV 1 hts gX10_trySigned_X10_passTried rfl rfl rfl (by decide +kernel) ⟨Nat.le_of_ble_eq_true rfl, Nat.le_of_ble_eq_true rfl⟩) (he_preV (wc := [(x0, .inr (9, [.ref y0, .int 0, .ref z0, .ref p0, .ref dr, .ref pa, .int 0, .ref s0, .ref im, .int 0, .ref tr, .ref v0, .ref rf])), (tr, .inr (4, [.ref r0, .ref r1, .int (nI k)])), (r0, .inl (g.2 1, 24, .inl (fcF (va_cpy f f1 0 0 24) (-1) (nI k)))), (r1, .inl (g.2 1, 6, .inl sh)), (p0, .inr (6, [.ref p1, .ref p2, .ref p3, .ref p4, .int (nI w)])), (p1, .inl (g.2 1, 24, .inl sd)), (p3, .inl (g.2 1, 6, .inl st)), (p4, .inl (g.2 1, 6, .inl me))]) hK hP hD hS hA hE [0, 9, 10, 2, 3, 4, 5, 6] rfl rfl 0 rfl rfl) rfl rfl hl.1 rfl (lv_room (Nat.le_of_ble_eq_true rfl)) dX10_trySigned_24 ⟨(Nat.le_of_ble_eq_true rfl), (Nat.le_of_ble_eq_true rfl)⟩) hP hD hS hA [0, 9, 10, 2, 3, 4, 5, 6] [1, 7, 8] rfl rfl rfl (by decide) (fun u_8 H locs h_9 hP hD hS => ?_)
  obtain ⟨uf_10, rfl⟩ : ∃ z, z = u_8 := ⟨_, rfl⟩
  have hP : va_P g.1 vwCl [(s0, .inr (8, [.ref h0, .ref a0, .ref b0, .ref e0])), (h0, .inr (4, [.ref q0, .ref q1, .int (nI k)])), (q0, .inl (g.2 1, 24, .inl f)), (x0, .inr (9, [.ref y0, .int 0, .ref z0, .ref p0, .ref dr, .ref pa, .int 0, .ref s0, .ref im, .int 0, .ref tr, .ref v0, .ref rf])), (tr, .inr (4, [.ref r0, .ref r1, .int (nI (k + n))])), (r0, .inl (g.2 1, 24, .inl (itF sd st me w (fcF (va_cpy f f1 0 0 24) (-1) (nI k)) n))), (r1, .inl (g.2 1, 6, .inl uf_10)), (p0, .inr (6, [.ref p1, .ref p2, .ref p3, .ref p4, .int (nI w)])), (p1, .inl (g.2 1, 24, .inl sd)), (p3, .inl (g.2 1, 6, .inl st)), (p4, .inl (g.2 1, 6, .inl me))] H := hP
  have hD : va_D A [(s0, .inr (8, [.ref h0, .ref a0, .ref b0, .ref e0])), (h0, .inr (4, [.ref q0, .ref q1, .int (nI k)])), (q0, .inl (g.2 1, 24, .inl f)), (x0, .inr (9, [.ref y0, .int 0, .ref z0, .ref p0, .ref dr, .ref pa, .int 0, .ref s0, .ref im, .int 0, .ref tr, .ref v0, .ref rf])), (tr, .inr (4, [.ref r0, .ref r1, .int (nI (k + n))])), (r0, .inl (g.2 1, 24, .inl (itF sd st me w (fcF (va_cpy f f1 0 0 24) (-1) (nI k)) n))), (r1, .inl (g.2 1, 6, .inl uf_10)), (p0, .inr (6, [.ref p1, .ref p2, .ref p3, .ref p4, .int (nI w)])), (p1, .inl (g.2 1, 24, .inl sd)), (p3, .inl (g.2 1, 6, .inl st)), (p4, .inl (g.2 1, 6, .inl me))] := hD
  refine lv_aload_n hx hb dX10_trySigned_27 rfl (lv_at hl 0 rfl) ?_
  refine va_get (v := .ref tr) (T := TX10) (N := 13) hx hb hts inX10 hown hK hP 3 rfl rfl 10 (by decide) f50 (fun _ h9 => h9) rfl dX10_trySigned_28 ?_
  refine va_get (v := .ref r0) (T := TX4) (N := 3) hx hb hts inX4 hown hK hP 4 rfl rfl 0 (by decide) f111 (fun _ h9 => h9) rfl dX10_trySigned_31 ?_
  refine lv_iconst (v := 0) hx hb dX10_trySigned_34 (by decide) ?_
  refine he_iald hx hb hK hP 5 rfl (0) (by decide) (by decide) (by first | decide | assumption) ((itF sd st me w (fcF (va_cpy f f1 0 0 24) (-1) (nI k)) n) 0) rfl dX10_trySigned_35 ?_
  have hP := hP.sub (ws' := [(x0, .inr (9, [.ref y0, .int 0, .ref z0, .ref p0, .ref dr, .ref pa, .int 0, .ref s0, .ref im, .int 0, .ref tr, .ref v0, .ref rf])), (s0, .inr (8, [.ref h0, .ref a0, .ref b0, .ref e0])), (h0, .inr (4, [.ref q0, .ref q1, .int (nI k)])), (q0, .inl (g.2 1, 24, .inl f)), (tr, .inr (4, [.ref r0, .ref r1, .int (nI (k + n))])), (r0, .inl (g.2 1, 24, .inl (itF sd st me w (fcF (va_cpy f f1 0 0 24) (-1) (nI k)) n))), (r1, .inl (g.2 1, 6, .inl uf_10)), (p0, .inr (6, [.ref p1, .ref p2, .ref p3, .ref p4, .int (nI w)])), (p1, .inl (g.2 1, 24, .inl sd)), (p3, .inl (g.2 1, 6, .inl st)), (p4, .inl (g.2 1, 6, .inl me))]) [3, 0, 1, 2, 4, 5, 6, 7, 8, 9, 10] rfl
  have hD := hD.sub (ws' := [(x0, .inr (9, [.ref y0, .int 0, .ref z0, .ref p0, .ref dr, .ref pa, .int 0, .ref s0, .ref im, .int 0, .ref tr, .ref v0, .ref rf])), (s0, .inr (8, [.ref h0, .ref a0, .ref b0, .ref e0])), (h0, .inr (4, [.ref q0, .ref q1, .int (nI k)])), (q0, .inl (g.2 1, 24, .inl f)), (tr, .inr (4, [.ref r0, .ref r1, .int (nI (k + n))])), (r0, .inl (g.2 1, 24, .inl (itF sd st me w (fcF (va_cpy f f1 0 0 24) (-1) (nI k)) n))), (r1, .inl (g.2 1, 6, .inl uf_10)), (p0, .inr (6, [.ref p1, .ref p2, .ref p3, .ref p4, .int (nI w)])), (p1, .inl (g.2 1, 24, .inl sd)), (p3, .inl (g.2 1, 6, .inl st)), (p4, .inl (g.2 1, 6, .inl me))]) [3, 0, 1, 2, 4, 5, 6, 7, 8, 9, 10] (by decide) rfl
  exact he_ri hQ hx hb hr hlk hP hD hS dX10_trySigned_36 (Nat.le_of_ble_eq_true rfl) (Nat.le_of_ble_eq_true rfl) (uf_10) (rfl) (rfl)
