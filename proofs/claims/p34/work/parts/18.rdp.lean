theorem nmS_1 {T : Nat → Nat} {n p : Nat} {q : Nat × Nat} {L : List (Nat × Nat)} (h : rn isDg T n (rn isBl T n p) = rn isBl T n p) : nmS T n (q :: L) p = (some (1, rn isBl T n p), rn isDg T n (rn isBl T n p), []) := by rw [nmS, if_pos h]
theorem nmS_2 {T : Nat → Nat} {n p : Nat} {q : Nat × Nat} {L : List (Nat × Nat)} (h : rn isBl T n p < rn isDg T n (rn isBl T n p)) (h2 : ¬ (q.1 ≤ nvF T (rn isBl T n p) (rn isDg T n (rn isBl T n p) - rn isBl T n p) ∧ nvF T (rn isBl T n p) (rn isDg T n (rn isBl T n p) - rn isBl T n p) < q.2)) : nmS T n (q :: L) p = (some (2, rn isBl T n p), rn isDg T n (rn isBl T n p), []) := by rw [nmS, if_neg (by omega), if_neg h2]
theorem nmS_s {T : Nat → Nat} {n p p2 : Nat} {q : Nat × Nat} {L : List (Nat × Nat)} {f : Option (Nat × Nat)} {vs : List Nat} (h : rn isBl T n p < rn isDg T n (rn isBl T n p)) (h2 : q.1 ≤ nvF T (rn isBl T n p) (rn isDg T n (rn isBl T n p) - rn isBl T n p) ∧ nvF T (rn isBl T n p) (rn isDg T n (rn isBl T n p) - rn isBl T n p) < q.2) (hr : nmS T n L (rn isDg T n (rn isBl T n p)) = (f, p2, vs)) : nmS T n (q :: L) p = (f, p2, nvF T (rn isBl T n p) (rn isDg T n (rn isBl T n p) - rn isBl T n p) :: vs) := by rw [nmS, if_neg (by omega), if_pos h2, hr]
/-- within the bounds of a part's number -/
theorem wi_b {v lo hx : Nat} {a b : Int32} (ha : a = nI lo) (hb : b = nI hx - 1) (hlo : lo < 100000) (hhx : hx ≤ 100000) (hv : v ≤ 100000) : ¬ he_within (nI v) a b = 0 ↔ (lo ≤ v ∧ v < hx) := by
  subst ha
  constructor
  · intro h
    have h1 : ¬ nI v < nI lo := by intro h9; apply h; unfold he_within; rw [if_pos h9]
    have h2 : ¬ b < nI v := by intro h9; apply h; unfold he_within; rw [if_neg h1, if_pos h9]
    refine ⟨(nI_leI (by omega) (by omega)).mp (Int32.not_lt.mp h1), ?_⟩
    cases hx with
    | zero =>
      exfalso
      apply h2
      rw [hb]
      exact Int32.lt_of_lt_of_le (by decide) (nI_pos' (by omega))
    | succ h0 =>
      rw [hb, nI_pred] at h2
      have := (nI_leI (a := v) (b := h0) (by omega) (by omega)).mp (Int32.not_lt.mp h2)
      omega
  · rintro ⟨h1, h2⟩
    obtain ⟨h0, rfl⟩ : ∃ h0, hx = h0 + 1 := ⟨hx - 1, by omega⟩
    rw [hb, nI_pred, he_within_in (a0 := lo) (B := h0) rfl rfl h1 (by omega) (by omega)]
    decide
/-- what a part tells, laid into a siege's numbers -/
def stD (q : Nat) (vs : List Nat) (sd : Nat → Int32) : Nat → Int32 := fun j => if q = 0 ∨ q = 5 then sd j else if 3 * q ≤ j ∧ j < 3 * q + vs.length then nI (vs.getD (j - 3 * q) 0) else sd j
def stN (q : Nat) (vs : List Nat) (fn : Nat → Int32) : Nat → Int32 := if q = 5 then upd fn (vs.getD 0 0) (nI (vs.getD 1 0)) else fn
def stT (q : Nat) (vs : List Nat) (w : Nat) (st : Nat → Int32) : Nat → Int32 := if q = 0 then upd st w (nI (vs.getD 0 0)) else st
def stM (q : Nat) (vs : List Nat) (w : Nat) (me : Nat → Int32) : Nat → Int32 := if q = 0 then upd me w (nI (vs.getD 1 0)) else me
def stW (q w : Nat) : Nat := if q = 0 then w + 1 else w
theorem stD_1 {q v : Nat} {sd : Nat → Int32} (h0 : q ≠ 0) (h5 : q ≠ 5) : stD q [v] sd = upd sd (3 * q) (nI v) := by
  funext j
  unfold stD upd
  rw [if_neg (by omega)]
  by_cases e : j = 3 * q
  · rw [if_pos ⟨by omega, by simp; omega⟩, if_pos e, e, Nat.sub_self]; rfl
  · rw [if_neg (by simp; omega), if_neg e]
theorem stD_2 {q v0 v1 : Nat} {sd : Nat → Int32} (h0 : q ≠ 0) (h5 : q ≠ 5) : stD q [v0, v1] sd = upd (upd sd (3 * q) (nI v0)) (3 * q + 1) (nI v1) := by
  funext j
  unfold stD upd
  rw [if_neg (by omega)]
  by_cases e1 : j = 3 * q + 1
  · rw [if_pos ⟨by omega, by simp; omega⟩, if_pos e1, show j - 3 * q = 1 by omega]; rfl
  · rw [if_neg e1]
    by_cases e : j = 3 * q
    · rw [if_pos ⟨by omega, by simp; omega⟩, if_pos e, e, Nat.sub_self]; rfl
    · rw [if_neg (by simp; omega), if_neg e]
theorem stD_3 {q v0 v1 v2 : Nat} {sd : Nat → Int32} (h0 : q ≠ 0) (h5 : q ≠ 5) : stD q [v0, v1, v2] sd = upd (upd (upd sd (3 * q) (nI v0)) (3 * q + 1) (nI v1)) (3 * q + 2) (nI v2) := by
  funext j
  unfold stD upd
  rw [if_neg (by omega)]
  by_cases e2 : j = 3 * q + 2
  · rw [if_pos ⟨by omega, by simp; omega⟩, if_pos e2, show j - 3 * q = 2 by omega]; rfl
  · rw [if_neg e2]
    by_cases e1 : j = 3 * q + 1
    · rw [if_pos ⟨by omega, by simp; omega⟩, if_pos e1, show j - 3 * q = 1 by omega]; rfl
    · rw [if_neg e1]
      by_cases e : j = 3 * q
      · rw [if_pos ⟨by omega, by simp; omega⟩, if_pos e, e, Nat.sub_self]; rfl
      · rw [if_neg (by simp; omega), if_neg e]
set_option maxHeartbeats 4000000 in
set_option maxRecDepth 100000 in
theorem p_X6_numbers_0 (l : Launch) (g : he_G) (p0 : Nat) (p1 : Nat) (p2 : Nat) (p3 : Nat) (p4 : Nat) (w : Int32)  : he_I l yX6_numbers wsX6_numbers 1 22 0 0 g [.ref p0, .int 0] [(oX6 p0 p1 p2 p3 p4 w)] (fun (r : Int32) (u : Unit) => r = 2) (fun (u : Unit) => [(oX6 p0 p1 p2 p3 p4 w)]) := by
  refine he_begin (l := l) (g := g) (y := yX6_numbers) (wl := wsX6_numbers) (fr := 1) (lo := 22) (mc := 0) (ms := 0) (av := [.ref p0, .int 0]) (ws := [(oX6 p0 p1 p2 p3 p4 w)]) (cc := cX6_numbers) (maxL := 2) (ret := (some .int)) (fun A => va_Qi (fun (r : Int32) (u : Unit) => r = 2) (fun u t => he_post g A ((fun (u : Unit) => [(oX6 p0 p1 p2 p3 p4 w)]) u) t) A) (by decide) rfl (Nat.le_of_ble_eq_true rfl) ?_
  intro p e s m args below meth c A ls H locs Q hQ hB
  obtain ⟨hx, hb, hr, hml, hown, hts, hlk, hin, hP, hK, hD, hS, hA, hE, hl⟩ := hB
  have hl : lv_has ls 2 [(0, .ref p0), (1, .int 0)] := hl
  have f36 := hts (.fieldLink RX6 36 "HiredEnemy$Plan" "NUMBERS" "[I") (iwoX6_numbers (k := 0) rfl)
  obtain ⟨t_nu, hZ_nu, hT_nu⟩ := hE.2.1
  have nl39 := hE.nest (RX6, 39, yX10_within) (by decide +kernel)
  have iniX10 := hts (.initialized RX10) (iwoX6_numbers (k := 2) rfl)
  have st_yX10_within := hts (.static yX10_within) (iwoX6_numbers (k := 1) rfl)
  refine lv_iload_n hx hb dX6_numbers_0 rfl (lv_at hl 1 rfl) ?_
  refine lv_iconst (v := 0) hx hb dX6_numbers_1 (by decide) ?_
  refine va_gets hx hb hZ_nu hS hown f36 (fun _ h9 => h9) dX6_numbers_2 ?_
  refine va_tlen (v := 8) hx hb hT_nu hS (by decide) dX6_numbers_5 ?_
  refine lv_iconst (v := 1) hx hb dX6_numbers_6 (by decide) ?_
  refine lv_isub hx hb dX6_numbers_7 ?_
  refine he_top (7) (by decide) ?_
  refine he_ci (wc := []) (wr := [(oX6 p0 p1 p2 p3 p4 w)]) (va_runSN (As := [.int 0, .int 0, .int 7]) (rest := []) ⟨hx, hb, hml, hown, hts⟩ (c_X10_within l g 0 0 7 H.size) ⟨(va_cnB 3 hts gX6_numbers_X10_within_n39 rfl rfl rfl nl39 iniX10 (by decide +kernel) ⟨Nat.le_of_ble_eq_true rfl, Nat.le_of_ble_eq_true rfl⟩), st_yX10_within, trivial⟩ (he_preS (wc := []) hK hP hD hS hA hE [] rfl rfl) rfl rfl hl.1 rfl (lv_room (Nat.le_of_ble_eq_true rfl)) dX6_numbers_8 ⟨(Nat.le_of_ble_eq_true rfl), (Nat.le_of_ble_eq_true rfl)⟩) hP hD hS hA [] [0] rfl rfl rfl (by decide) (fun r_1 u_2 H locs h_3 hP hD hS => ?_)
  subst h_3
  have hP : va_P g.1 vwCl [(oX6 p0 p1 p2 p3 p4 w)] H := hP
  have hD : va_D A [(oX6 p0 p1 p2 p3 p4 w)] := hD
  refine he_top (1) (by decide) ?_
  refine lv_if_eq (tgt := 22) hx hb dX6_numbers_11 (by decide) (fun c_4 => ?_) (fun c_4 => ?_)
  · exact absurd c_4 (by decide)
  · refine va_gets hx hb hZ_nu hS hown f36 (fun _ h9 => h9) dX6_numbers_14 ?_
    refine lv_iload_n hx hb dX6_numbers_17 rfl (lv_at hl 1 rfl) ?_
    refine he_tald hx hb hT_nu hS (0) (by decide) (by decide) (by decide) (2) rfl dX6_numbers_18 ?_
    refine lv_goto (tgt := 23) hx hb dX6_numbers_19 (by decide) ?_
    exact he_ri hQ hx hb hr hlk hP hD hS dX6_numbers_23 (Nat.le_of_ble_eq_true rfl) (Nat.le_of_ble_eq_true rfl) (()) (rfl) (rfl)
set_option maxHeartbeats 4000000 in
set_option maxRecDepth 100000 in
theorem p_X6_low_0_0 (l : Launch) (g : he_G) (p0 : Nat) (p1 : Nat) (p2 : Nat) (p3 : Nat) (p4 : Nat) (w : Int32)  : he_I l yX6_low wsX6_low 0 0 0 0 g [.ref p0, .int 0, .int 0] [(oX6 p0 p1 p2 p3 p4 w)] (fun (r : Int32) (u : Unit) => r = 1) (fun (u : Unit) => [(oX6 p0 p1 p2 p3 p4 w)]) := by
  refine he_begin (l := l) (g := g) (y := yX6_low) (wl := wsX6_low) (fr := 0) (lo := 0) (mc := 0) (ms := 0) (av := [.ref p0, .int 0, .int 0]) (ws := [(oX6 p0 p1 p2 p3 p4 w)]) (cc := cX6_low) (maxL := 3) (ret := (some .int)) (fun A => va_Qi (fun (r : Int32) (u : Unit) => r = 1) (fun u t => he_post g A ((fun (u : Unit) => [(oX6 p0 p1 p2 p3 p4 w)]) u) t) A) (by decide) rfl (Nat.le_of_ble_eq_true rfl) ?_
  intro p e s m args below meth c A ls H locs Q hQ hB
  obtain ⟨hx, hb, hr, hml, hown, hts, hlk, hin, hP, hK, hD, hS, hA, hE, hl⟩ := hB
  have hl : lv_has ls 3 [(0, .ref p0), (1, .int 0), (2, .int 0)] := hl
  refine lv_iload_n hx hb dX6_low_0 rfl (lv_at hl 1 rfl) ?_
  refine lv_if_ne (tgt := 12) hx hb dX6_low_1 (by decide) (fun c_1 => ?_) (fun c_1 => ?_)
  · exact absurd (by decide) c_1
  · refine lv_iload_n hx hb dX6_low_4 rfl (lv_at hl 2 rfl) ?_
    refine lv_if_ne (tgt := 12) hx hb dX6_low_5 (by decide) (fun c_2 => ?_) (fun c_2 => ?_)
    · exact absurd (by decide) c_2
    · refine lv_iconst (v := 1) hx hb dX6_low_8 (by decide) ?_
      refine lv_goto (tgt := 13) hx hb dX6_low_9 (by decide) ?_
      exact he_ri hQ hx hb hr hlk hP hD hS dX6_low_13 (Nat.le_of_ble_eq_true rfl) (Nat.le_of_ble_eq_true rfl) (()) (rfl) (rfl)
set_option maxHeartbeats 4000000 in
set_option maxRecDepth 100000 in
theorem p_X6_high_0_0 (l : Launch) (g : he_G) (p0 : Nat) (p1 : Nat) (p2 : Nat) (p3 : Nat) (p4 : Nat) (w : Int32)  : he_I l yX6_high wsX6_high 1 22 0 0 g [.ref p0, .int 0, .int 0] [(oX6 p0 p1 p2 p3 p4 w)] (fun (r : Int32) (u : Unit) => r = 99) (fun (u : Unit) => [(oX6 p0 p1 p2 p3 p4 w)]) := by
  refine he_begin (l := l) (g := g) (y := yX6_high) (wl := wsX6_high) (fr := 1) (lo := 22) (mc := 0) (ms := 0) (av := [.ref p0, .int 0, .int 0]) (ws := [(oX6 p0 p1 p2 p3 p4 w)]) (cc := cX6_high) (maxL := 4) (ret := (some .int)) (fun A => va_Qi (fun (r : Int32) (u : Unit) => r = 99) (fun u t => he_post g A ((fun (u : Unit) => [(oX6 p0 p1 p2 p3 p4 w)]) u) t) A) (by decide) rfl (Nat.le_of_ble_eq_true rfl) ?_
  intro p e s m args below meth c A ls H locs Q hQ hB
  obtain ⟨hx, hb, hr, hml, hown, hts, hlk, hin, hP, hK, hD, hS, hA, hE, hl⟩ := hB
  have hl : lv_has ls 4 [(0, .ref p0), (1, .int 0), (2, .int 0)] := hl
  have f43 := hts (.fieldLink RX6 43 "HiredEnemy$Plan" "HIGH" "[I") (iwoX6_high (k := 0) rfl)
  obtain ⟨t_hi, hZ_hi, hT_hi⟩ := hE.2.2.1
  have nl39 := hE.nest (RX6, 39, yX10_within) (by decide +kernel)
  have iniX10 := hts (.initialized RX10) (iwoX6_high (k := 2) rfl)
  have st_yX10_within := hts (.static yX10_within) (iwoX6_high (k := 1) rfl)
  refine lv_iload_n hx hb dX6_high_0 rfl (lv_at hl 1 rfl) ?_
  refine lv_iconst (v := 3) hx hb dX6_high_1 (by decide) ?_
  refine lv_imul hx hb dX6_high_2 ?_
  refine he_top (0) (by decide) ?_
  refine lv_iload_n hx hb dX6_high_3 rfl (lv_at hl 2 rfl) ?_
  refine lv_iadd hx hb dX6_high_4 ?_
  refine he_top (0) (by decide) ?_
  refine lv_istore_n (lv' := [(3, .int 0), (0, .ref p0), (1, .int 0), (2, .int 0)]) hx hb dX6_high_5 rfl hl (by decide) rfl (fun ls hl => ?_)
  refine lv_iload_n hx hb dX6_high_6 rfl (lv_at hl 0 rfl) ?_
  refine lv_iconst (v := 0) hx hb dX6_high_7 (by decide) ?_
  refine va_gets hx hb hZ_hi hS hown f43 (fun _ h9 => h9) dX6_high_8 ?_
  refine va_tlen (v := 24) hx hb hT_hi hS (by decide) dX6_high_11 ?_
  refine lv_iconst (v := 1) hx hb dX6_high_12 (by decide) ?_
  refine lv_isub hx hb dX6_high_13 ?_
  refine he_top (23) (by decide) ?_
  refine he_ci (wc := []) (wr := [(oX6 p0 p1 p2 p3 p4 w)]) (va_runSN (As := [.int 0, .int 0, .int 23]) (rest := []) ⟨hx, hb, hml, hown, hts⟩ (c_X10_within l g 0 0 23 H.size) ⟨(va_cnB 3 hts gX6_high_X10_within_n39 rfl rfl rfl nl39 iniX10 (by decide +kernel) ⟨Nat.le_of_ble_eq_true rfl, Nat.le_of_ble_eq_true rfl⟩), st_yX10_within, trivial⟩ (he_preS (wc := []) hK hP hD hS hA hE [] rfl rfl) rfl rfl hl.1 rfl (lv_room (Nat.le_of_ble_eq_true rfl)) dX6_high_14 ⟨(Nat.le_of_ble_eq_true rfl), (Nat.le_of_ble_eq_true rfl)⟩) hP hD hS hA [] [0] rfl rfl rfl (by decide) (fun r_1 u_2 H locs h_3 hP hD hS => ?_)
  subst h_3
  have hP : va_P g.1 vwCl [(oX6 p0 p1 p2 p3 p4 w)] H := hP
  have hD : va_D A [(oX6 p0 p1 p2 p3 p4 w)] := hD
  refine he_top (1) (by decide) ?_
  refine lv_if_eq (tgt := 28) hx hb dX6_high_17 (by decide) (fun c_4 => ?_) (fun c_4 => ?_)
  · exact absurd c_4 (by decide)
  · refine va_gets hx hb hZ_hi hS hown f43 (fun _ h9 => h9) dX6_high_20 ?_
    refine lv_iload_n hx hb dX6_high_23 rfl (lv_at hl 0 rfl) ?_
    refine he_tald hx hb hT_hi hS (0) (by decide) (by decide) (by decide) (99) rfl dX6_high_24 ?_
    refine lv_goto (tgt := 29) hx hb dX6_high_25 (by decide) ?_
    exact he_ri hQ hx hb hr hlk hP hD hS dX6_high_29 (Nat.le_of_ble_eq_true rfl) (Nat.le_of_ble_eq_true rfl) (()) (rfl) (rfl)
set_option maxHeartbeats 4000000 in
set_option maxRecDepth 100000 in
theorem p_X6_low_0_1 (l : Launch) (g : he_G) (p0 : Nat) (p1 : Nat) (p2 : Nat) (p3 : Nat) (p4 : Nat) (w : Int32)  : he_I l yX6_low wsX6_low 0 0 0 0 g [.ref p0, .int 0, .int 1] [(oX6 p0 p1 p2 p3 p4 w)] (fun (r : Int32) (u : Unit) => r = 0) (fun (u : Unit) => [(oX6 p0 p1 p2 p3 p4 w)]) := by
  refine he_begin (l := l) (g := g) (y := yX6_low) (wl := wsX6_low) (fr := 0) (lo := 0) (mc := 0) (ms := 0) (av := [.ref p0, .int 0, .int 1]) (ws := [(oX6 p0 p1 p2 p3 p4 w)]) (cc := cX6_low) (maxL := 3) (ret := (some .int)) (fun A => va_Qi (fun (r : Int32) (u : Unit) => r = 0) (fun u t => he_post g A ((fun (u : Unit) => [(oX6 p0 p1 p2 p3 p4 w)]) u) t) A) (by decide) rfl (Nat.le_of_ble_eq_true rfl) ?_
  intro p e s m args below meth c A ls H locs Q hQ hB
  obtain ⟨hx, hb, hr, hml, hown, hts, hlk, hin, hP, hK, hD, hS, hA, hE, hl⟩ := hB
  have hl : lv_has ls 3 [(0, .ref p0), (1, .int 0), (2, .int 1)] := hl
  refine lv_iload_n hx hb dX6_low_0 rfl (lv_at hl 1 rfl) ?_
  refine lv_if_ne (tgt := 12) hx hb dX6_low_1 (by decide) (fun c_1 => ?_) (fun c_1 => ?_)
  · exact absurd (by decide) c_1
  · refine lv_iload_n hx hb dX6_low_4 rfl (lv_at hl 2 rfl) ?_
    refine lv_if_ne (tgt := 12) hx hb dX6_low_5 (by decide) (fun c_2 => ?_) (fun c_2 => ?_)
    · refine lv_iconst (v := 0) hx hb dX6_low_12 (by decide) ?_
      exact he_ri hQ hx hb hr hlk hP hD hS dX6_low_13 (Nat.le_of_ble_eq_true rfl) (Nat.le_of_ble_eq_true rfl) (()) (rfl) (rfl)
    · exact absurd c_2 (by decide)
set_option maxHeartbeats 4000000 in
set_option maxRecDepth 100000 in
theorem p_X6_high_0_1 (l : Launch) (g : he_G) (p0 : Nat) (p1 : Nat) (p2 : Nat) (p3 : Nat) (p4 : Nat) (w : Int32)  : he_I l yX6_high wsX6_high 1 22 0 0 g [.ref p0, .int 0, .int 1] [(oX6 p0 p1 p2 p3 p4 w)] (fun (r : Int32) (u : Unit) => r = 50) (fun (u : Unit) => [(oX6 p0 p1 p2 p3 p4 w)]) := by
  refine he_begin (l := l) (g := g) (y := yX6_high) (wl := wsX6_high) (fr := 1) (lo := 22) (mc := 0) (ms := 0) (av := [.ref p0, .int 0, .int 1]) (ws := [(oX6 p0 p1 p2 p3 p4 w)]) (cc := cX6_high) (maxL := 4) (ret := (some .int)) (fun A => va_Qi (fun (r : Int32) (u : Unit) => r = 50) (fun u t => he_post g A ((fun (u : Unit) => [(oX6 p0 p1 p2 p3 p4 w)]) u) t) A) (by decide) rfl (Nat.le_of_ble_eq_true rfl) ?_
  intro p e s m args below meth c A ls H locs Q hQ hB
  obtain ⟨hx, hb, hr, hml, hown, hts, hlk, hin, hP, hK, hD, hS, hA, hE, hl⟩ := hB
  have hl : lv_has ls 4 [(0, .ref p0), (1, .int 0), (2, .int 1)] := hl
  have f43 := hts (.fieldLink RX6 43 "HiredEnemy$Plan" "HIGH" "[I") (iwoX6_high (k := 0) rfl)
  obtain ⟨t_hi, hZ_hi, hT_hi⟩ := hE.2.2.1
  have nl39 := hE.nest (RX6, 39, yX10_within) (by decide +kernel)
  have iniX10 := hts (.initialized RX10) (iwoX6_high (k := 2) rfl)
  have st_yX10_within := hts (.static yX10_within) (iwoX6_high (k := 1) rfl)
  refine lv_iload_n hx hb dX6_high_0 rfl (lv_at hl 1 rfl) ?_
  refine lv_iconst (v := 3) hx hb dX6_high_1 (by decide) ?_
  refine lv_imul hx hb dX6_high_2 ?_
  refine he_top (0) (by decide) ?_
  refine lv_iload_n hx hb dX6_high_3 rfl (lv_at hl 2 rfl) ?_
  refine lv_iadd hx hb dX6_high_4 ?_
  refine he_top (1) (by decide) ?_
  refine lv_istore_n (lv' := [(3, .int 1), (0, .ref p0), (1, .int 0), (2, .int 1)]) hx hb dX6_high_5 rfl hl (by decide) rfl (fun ls hl => ?_)
  refine lv_iload_n hx hb dX6_high_6 rfl (lv_at hl 0 rfl) ?_
  refine lv_iconst (v := 0) hx hb dX6_high_7 (by decide) ?_
  refine va_gets hx hb hZ_hi hS hown f43 (fun _ h9 => h9) dX6_high_8 ?_
  refine va_tlen (v := 24) hx hb hT_hi hS (by decide) dX6_high_11 ?_
  refine lv_iconst (v := 1) hx hb dX6_high_12 (by decide) ?_
  refine lv_isub hx hb dX6_high_13 ?_
  refine he_top (23) (by decide) ?_
  refine he_ci (wc := []) (wr := [(oX6 p0 p1 p2 p3 p4 w)]) (va_runSN (As := [.int 1, .int 0, .int 23]) (rest := []) ⟨hx, hb, hml, hown, hts⟩ (c_X10_within l g 1 0 23 H.size) ⟨(va_cnB 3 hts gX6_high_X10_within_n39 rfl rfl rfl nl39 iniX10 (by decide +kernel) ⟨Nat.le_of_ble_eq_true rfl, Nat.le_of_ble_eq_true rfl⟩), st_yX10_within, trivial⟩ (he_preS (wc := []) hK hP hD hS hA hE [] rfl rfl) rfl rfl hl.1 rfl (lv_room (Nat.le_of_ble_eq_true rfl)) dX6_high_14 ⟨(Nat.le_of_ble_eq_true rfl), (Nat.le_of_ble_eq_true rfl)⟩) hP hD hS hA [] [0] rfl rfl rfl (by decide) (fun r_1 u_2 H locs h_3 hP hD hS => ?_)
  subst h_3
  have hP : va_P g.1 vwCl [(oX6 p0 p1 p2 p3 p4 w)] H := hP
  have hD : va_D A [(oX6 p0 p1 p2 p3 p4 w)] := hD
  refine he_top (1) (by decide) ?_
  refine lv_if_eq (tgt := 28) hx hb dX6_high_17 (by decide) (fun c_4 => ?_) (fun c_4 => ?_)
  · exact absurd c_4 (by decide)
  · refine va_gets hx hb hZ_hi hS hown f43 (fun _ h9 => h9) dX6_high_20 ?_
    refine lv_iload_n hx hb dX6_high_23 rfl (lv_at hl 0 rfl) ?_
    refine he_tald hx hb hT_hi hS (1) (by decide) (by decide) (by decide) (50) rfl dX6_high_24 ?_
    refine lv_goto (tgt := 29) hx hb dX6_high_25 (by decide) ?_
    exact he_ri hQ hx hb hr hlk hP hD hS dX6_high_29 (Nat.le_of_ble_eq_true rfl) (Nat.le_of_ble_eq_true rfl) (()) (rfl) (rfl)
set_option maxHeartbeats 4000000 in
set_option maxRecDepth 100000 in
theorem p_X6_numbers_1 (l : Launch) (g : he_G) (p0 : Nat) (p1 : Nat) (p2 : Nat) (p3 : Nat) (p4 : Nat) (w : Int32)  : he_I l yX6_numbers wsX6_numbers 1 22 0 0 g [.ref p0, .int 1] [(oX6 p0 p1 p2 p3 p4 w)] (fun (r : Int32) (u : Unit) => r = 3) (fun (u : Unit) => [(oX6 p0 p1 p2 p3 p4 w)]) := by
  refine he_begin (l := l) (g := g) (y := yX6_numbers) (wl := wsX6_numbers) (fr := 1) (lo := 22) (mc := 0) (ms := 0) (av := [.ref p0, .int 1]) (ws := [(oX6 p0 p1 p2 p3 p4 w)]) (cc := cX6_numbers) (maxL := 2) (ret := (some .int)) (fun A => va_Qi (fun (r : Int32) (u : Unit) => r = 3) (fun u t => he_post g A ((fun (u : Unit) => [(oX6 p0 p1 p2 p3 p4 w)]) u) t) A) (by decide) rfl (Nat.le_of_ble_eq_true rfl) ?_
  intro p e s m args below meth c A ls H locs Q hQ hB
  obtain ⟨hx, hb, hr, hml, hown, hts, hlk, hin, hP, hK, hD, hS, hA, hE, hl⟩ := hB
  have hl : lv_has ls 2 [(0, .ref p0), (1, .int 1)] := hl
  have f36 := hts (.fieldLink RX6 36 "HiredEnemy$Plan" "NUMBERS" "[I") (iwoX6_numbers (k := 0) rfl)
  obtain ⟨t_nu, hZ_nu, hT_nu⟩ := hE.2.1
  have nl39 := hE.nest (RX6, 39, yX10_within) (by decide +kernel)
  have iniX10 := hts (.initialized RX10) (iwoX6_numbers (k := 2) rfl)
  have st_yX10_within := hts (.static yX10_within) (iwoX6_numbers (k := 1) rfl)
  refine lv_iload_n hx hb dX6_numbers_0 rfl (lv_at hl 1 rfl) ?_
  refine lv_iconst (v := 0) hx hb dX6_numbers_1 (by decide) ?_
  refine va_gets hx hb hZ_nu hS hown f36 (fun _ h9 => h9) dX6_numbers_2 ?_
  refine va_tlen (v := 8) hx hb hT_nu hS (by decide) dX6_numbers_5 ?_
  refine lv_iconst (v := 1) hx hb dX6_numbers_6 (by decide) ?_
  refine lv_isub hx hb dX6_numbers_7 ?_
  refine he_top (7) (by decide) ?_
  refine he_ci (wc := []) (wr := [(oX6 p0 p1 p2 p3 p4 w)]) (va_runSN (As := [.int 1, .int 0, .int 7]) (rest := []) ⟨hx, hb, hml, hown, hts⟩ (c_X10_within l g 1 0 7 H.size) ⟨(va_cnB 3 hts gX6_numbers_X10_within_n39 rfl rfl rfl nl39 iniX10 (by decide +kernel) ⟨Nat.le_of_ble_eq_true rfl, Nat.le_of_ble_eq_true rfl⟩), st_yX10_within, trivial⟩ (he_preS (wc := []) hK hP hD hS hA hE [] rfl rfl) rfl rfl hl.1 rfl (lv_room (Nat.le_of_ble_eq_true rfl)) dX6_numbers_8 ⟨(Nat.le_of_ble_eq_true rfl), (Nat.le_of_ble_eq_true rfl)⟩) hP hD hS hA [] [0] rfl rfl rfl (by decide) (fun r_1 u_2 H locs h_3 hP hD hS => ?_)
  subst h_3
  have hP : va_P g.1 vwCl [(oX6 p0 p1 p2 p3 p4 w)] H := hP
  have hD : va_D A [(oX6 p0 p1 p2 p3 p4 w)] := hD
  refine he_top (1) (by decide) ?_
  refine lv_if_eq (tgt := 22) hx hb dX6_numbers_11 (by decide) (fun c_4 => ?_) (fun c_4 => ?_)
  · exact absurd c_4 (by decide)
  · refine va_gets hx hb hZ_nu hS hown f36 (fun _ h9 => h9) dX6_numbers_14 ?_
    refine lv_iload_n hx hb dX6_numbers_17 rfl (lv_at hl 1 rfl) ?_
    refine he_tald hx hb hT_nu hS (1) (by decide) (by decide) (by decide) (3) rfl dX6_numbers_18 ?_
    refine lv_goto (tgt := 23) hx hb dX6_numbers_19 (by decide) ?_
    exact he_ri hQ hx hb hr hlk hP hD hS dX6_numbers_23 (Nat.le_of_ble_eq_true rfl) (Nat.le_of_ble_eq_true rfl) (()) (rfl) (rfl)
set_option maxHeartbeats 4000000 in
set_option maxRecDepth 100000 in
theorem p_X6_low_1_0 (l : Launch) (g : he_G) (p0 : Nat) (p1 : Nat) (p2 : Nat) (p3 : Nat) (p4 : Nat) (w : Int32)  : he_I l yX6_low wsX6_low 0 0 0 0 g [.ref p0, .int 1, .int 0] [(oX6 p0 p1 p2 p3 p4 w)] (fun (r : Int32) (u : Unit) => r = 0) (fun (u : Unit) => [(oX6 p0 p1 p2 p3 p4 w)]) := by
  refine he_begin (l := l) (g := g) (y := yX6_low) (wl := wsX6_low) (fr := 0) (lo := 0) (mc := 0) (ms := 0) (av := [.ref p0, .int 1, .int 0]) (ws := [(oX6 p0 p1 p2 p3 p4 w)]) (cc := cX6_low) (maxL := 3) (ret := (some .int)) (fun A => va_Qi (fun (r : Int32) (u : Unit) => r = 0) (fun u t => he_post g A ((fun (u : Unit) => [(oX6 p0 p1 p2 p3 p4 w)]) u) t) A) (by decide) rfl (Nat.le_of_ble_eq_true rfl) ?_
  intro p e s m args below meth c A ls H locs Q hQ hB
  obtain ⟨hx, hb, hr, hml, hown, hts, hlk, hin, hP, hK, hD, hS, hA, hE, hl⟩ := hB
  have hl : lv_has ls 3 [(0, .ref p0), (1, .int 1), (2, .int 0)] := hl
  refine lv_iload_n hx hb dX6_low_0 rfl (lv_at hl 1 rfl) ?_
  refine lv_if_ne (tgt := 12) hx hb dX6_low_1 (by decide) (fun c_1 => ?_) (fun c_1 => ?_)
  · refine lv_iconst (v := 0) hx hb dX6_low_12 (by decide) ?_
    exact he_ri hQ hx hb hr hlk hP hD hS dX6_low_13 (Nat.le_of_ble_eq_true rfl) (Nat.le_of_ble_eq_true rfl) (()) (rfl) (rfl)
  · exact absurd c_1 (by decide)
set_option maxHeartbeats 4000000 in
set_option maxRecDepth 100000 in
theorem p_X6_high_1_0 (l : Launch) (g : he_G) (p0 : Nat) (p1 : Nat) (p2 : Nat) (p3 : Nat) (p4 : Nat) (w : Int32)  : he_I l yX6_high wsX6_high 1 22 0 0 g [.ref p0, .int 1, .int 0] [(oX6 p0 p1 p2 p3 p4 w)] (fun (r : Int32) (u : Unit) => r = 9999) (fun (u : Unit) => [(oX6 p0 p1 p2 p3 p4 w)]) := by
  refine he_begin (l := l) (g := g) (y := yX6_high) (wl := wsX6_high) (fr := 1) (lo := 22) (mc := 0) (ms := 0) (av := [.ref p0, .int 1, .int 0]) (ws := [(oX6 p0 p1 p2 p3 p4 w)]) (cc := cX6_high) (maxL := 4) (ret := (some .int)) (fun A => va_Qi (fun (r : Int32) (u : Unit) => r = 9999) (fun u t => he_post g A ((fun (u : Unit) => [(oX6 p0 p1 p2 p3 p4 w)]) u) t) A) (by decide) rfl (Nat.le_of_ble_eq_true rfl) ?_
  intro p e s m args below meth c A ls H locs Q hQ hB
  obtain ⟨hx, hb, hr, hml, hown, hts, hlk, hin, hP, hK, hD, hS, hA, hE, hl⟩ := hB
  have hl : lv_has ls 4 [(0, .ref p0), (1, .int 1), (2, .int 0)] := hl
  have f43 := hts (.fieldLink RX6 43 "HiredEnemy$Plan" "HIGH" "[I") (iwoX6_high (k := 0) rfl)
  obtain ⟨t_hi, hZ_hi, hT_hi⟩ := hE.2.2.1
  have nl39 := hE.nest (RX6, 39, yX10_within) (by decide +kernel)
  have iniX10 := hts (.initialized RX10) (iwoX6_high (k := 2) rfl)
  have st_yX10_within := hts (.static yX10_within) (iwoX6_high (k := 1) rfl)
  refine lv_iload_n hx hb dX6_high_0 rfl (lv_at hl 1 rfl) ?_
  refine lv_iconst (v := 3) hx hb dX6_high_1 (by decide) ?_
  refine lv_imul hx hb dX6_high_2 ?_
  refine he_top (3) (by decide) ?_
  refine lv_iload_n hx hb dX6_high_3 rfl (lv_at hl 2 rfl) ?_
  refine lv_iadd hx hb dX6_high_4 ?_
  refine he_top (3) (by decide) ?_
  refine lv_istore_n (lv' := [(3, .int 3), (0, .ref p0), (1, .int 1), (2, .int 0)]) hx hb dX6_high_5 rfl hl (by decide) rfl (fun ls hl => ?_)
  refine lv_iload_n hx hb dX6_high_6 rfl (lv_at hl 0 rfl) ?_
  refine lv_iconst (v := 0) hx hb dX6_high_7 (by decide) ?_
  refine va_gets hx hb hZ_hi hS hown f43 (fun _ h9 => h9) dX6_high_8 ?_
  refine va_tlen (v := 24) hx hb hT_hi hS (by decide) dX6_high_11 ?_
  refine lv_iconst (v := 1) hx hb dX6_high_12 (by decide) ?_
  refine lv_isub hx hb dX6_high_13 ?_
  refine he_top (23) (by decide) ?_
  refine he_ci (wc := []) (wr := [(oX6 p0 p1 p2 p3 p4 w)]) (va_runSN (As := [.int 3, .int 0, .int 23]) (rest := []) ⟨hx, hb, hml, hown, hts⟩ (c_X10_within l g 3 0 23 H.size) ⟨(va_cnB 3 hts gX6_high_X10_within_n39 rfl rfl rfl nl39 iniX10 (by decide +kernel) ⟨Nat.le_of_ble_eq_true rfl, Nat.le_of_ble_eq_true rfl⟩), st_yX10_within, trivial⟩ (he_preS (wc := []) hK hP hD hS hA hE [] rfl rfl) rfl rfl hl.1 rfl (lv_room (Nat.le_of_ble_eq_true rfl)) dX6_high_14 ⟨(Nat.le_of_ble_eq_true rfl), (Nat.le_of_ble_eq_true rfl)⟩) hP hD hS hA [] [0] rfl rfl rfl (by decide) (fun r_1 u_2 H locs h_3 hP hD hS => ?_)
  subst h_3
  have hP : va_P g.1 vwCl [(oX6 p0 p1 p2 p3 p4 w)] H := hP
  have hD : va_D A [(oX6 p0 p1 p2 p3 p4 w)] := hD
  refine he_top (1) (by decide) ?_
  refine lv_if_eq (tgt := 28) hx hb dX6_high_17 (by decide) (fun c_4 => ?_) (fun c_4 => ?_)
  · exact absurd c_4 (by decide)
  · refine va_gets hx hb hZ_hi hS hown f43 (fun _ h9 => h9) dX6_high_20 ?_
    refine lv_iload_n hx hb dX6_high_23 rfl (lv_at hl 0 rfl) ?_
    refine he_tald hx hb hT_hi hS (3) (by decide) (by decide) (by decide) (9999) rfl dX6_high_24 ?_
    refine lv_goto (tgt := 29) hx hb dX6_high_25 (by decide) ?_
    exact he_ri hQ hx hb hr hlk hP hD hS dX6_high_29 (Nat.le_of_ble_eq_true rfl) (Nat.le_of_ble_eq_true rfl) (()) (rfl) (rfl)
set_option maxHeartbeats 4000000 in
set_option maxRecDepth 100000 in
theorem p_X6_low_1_1 (l : Launch) (g : he_G) (p0 : Nat) (p1 : Nat) (p2 : Nat) (p3 : Nat) (p4 : Nat) (w : Int32)  : he_I l yX6_low wsX6_low 0 0 0 0 g [.ref p0, .int 1, .int 1] [(oX6 p0 p1 p2 p3 p4 w)] (fun (r : Int32) (u : Unit) => r = 0) (fun (u : Unit) => [(oX6 p0 p1 p2 p3 p4 w)]) := by
  refine he_begin (l := l) (g := g) (y := yX6_low) (wl := wsX6_low) (fr := 0) (lo := 0) (mc := 0) (ms := 0) (av := [.ref p0, .int 1, .int 1]) (ws := [(oX6 p0 p1 p2 p3 p4 w)]) (cc := cX6_low) (maxL := 3) (ret := (some .int)) (fun A => va_Qi (fun (r : Int32) (u : Unit) => r = 0) (fun u t => he_post g A ((fun (u : Unit) => [(oX6 p0 p1 p2 p3 p4 w)]) u) t) A) (by decide) rfl (Nat.le_of_ble_eq_true rfl) ?_
  intro p e s m args below meth c A ls H locs Q hQ hB
  obtain ⟨hx, hb, hr, hml, hown, hts, hlk, hin, hP, hK, hD, hS, hA, hE, hl⟩ := hB
  have hl : lv_has ls 3 [(0, .ref p0), (1, .int 1), (2, .int 1)] := hl
  refine lv_iload_n hx hb dX6_low_0 rfl (lv_at hl 1 rfl) ?_
  refine lv_if_ne (tgt := 12) hx hb dX6_low_1 (by decide) (fun c_1 => ?_) (fun c_1 => ?_)
  · refine lv_iconst (v := 0) hx hb dX6_low_12 (by decide) ?_
    exact he_ri hQ hx hb hr hlk hP hD hS dX6_low_13 (Nat.le_of_ble_eq_true rfl) (Nat.le_of_ble_eq_true rfl) (()) (rfl) (rfl)
  · exact absurd c_1 (by decide)
set_option maxHeartbeats 4000000 in
set_option maxRecDepth 100000 in
theorem p_X6_high_1_1 (l : Launch) (g : he_G) (p0 : Nat) (p1 : Nat) (p2 : Nat) (p3 : Nat) (p4 : Nat) (w : Int32)  : he_I l yX6_high wsX6_high 1 22 0 0 g [.ref p0, .int 1, .int 1] [(oX6 p0 p1 p2 p3 p4 w)] (fun (r : Int32) (u : Unit) => r = 999) (fun (u : Unit) => [(oX6 p0 p1 p2 p3 p4 w)]) := by
  refine he_begin (l := l) (g := g) (y := yX6_high) (wl := wsX6_high) (fr := 1) (lo := 22) (mc := 0) (ms := 0) (av := [.ref p0, .int 1, .int 1]) (ws := [(oX6 p0 p1 p2 p3 p4 w)]) (cc := cX6_high) (maxL := 4) (ret := (some .int)) (fun A => va_Qi (fun (r : Int32) (u : Unit) => r = 999) (fun u t => he_post g A ((fun (u : Unit) => [(oX6 p0 p1 p2 p3 p4 w)]) u) t) A) (by decide) rfl (Nat.le_of_ble_eq_true rfl) ?_
  intro p e s m args below meth c A ls H locs Q hQ hB
  obtain ⟨hx, hb, hr, hml, hown, hts, hlk, hin, hP, hK, hD, hS, hA, hE, hl⟩ := hB
  have hl : lv_has ls 4 [(0, .ref p0), (1, .int 1), (2, .int 1)] := hl
  have f43 := hts (.fieldLink RX6 43 "HiredEnemy$Plan" "HIGH" "[I") (iwoX6_high (k := 0) rfl)
  obtain ⟨t_hi, hZ_hi, hT_hi⟩ := hE.2.2.1
  have nl39 := hE.nest (RX6, 39, yX10_within) (by decide +kernel)
  have iniX10 := hts (.initialized RX10) (iwoX6_high (k := 2) rfl)
  have st_yX10_within := hts (.static yX10_within) (iwoX6_high (k := 1) rfl)
  refine lv_iload_n hx hb dX6_high_0 rfl (lv_at hl 1 rfl) ?_
  refine lv_iconst (v := 3) hx hb dX6_high_1 (by decide) ?_
  refine lv_imul hx hb dX6_high_2 ?_
  refine he_top (3) (by decide) ?_
  refine lv_iload_n hx hb dX6_high_3 rfl (lv_at hl 2 rfl) ?_
  refine lv_iadd hx hb dX6_high_4 ?_
  refine he_top (4) (by decide) ?_
  refine lv_istore_n (lv' := [(3, .int 4), (0, .ref p0), (1, .int 1), (2, .int 1)]) hx hb dX6_high_5 rfl hl (by decide) rfl (fun ls hl => ?_)
  refine lv_iload_n hx hb dX6_high_6 rfl (lv_at hl 0 rfl) ?_
  refine lv_iconst (v := 0) hx hb dX6_high_7 (by decide) ?_
  refine va_gets hx hb hZ_hi hS hown f43 (fun _ h9 => h9) dX6_high_8 ?_
  refine va_tlen (v := 24) hx hb hT_hi hS (by decide) dX6_high_11 ?_
  refine lv_iconst (v := 1) hx hb dX6_high_12 (by decide) ?_
  refine lv_isub hx hb dX6_high_13 ?_
  refine he_top (23) (by decide) ?_
  refine he_ci (wc := []) (wr := [(oX6 p0 p1 p2 p3 p4 w)]) (va_runSN (As := [.int 4, .int 0, .int 23]) (rest := []) ⟨hx, hb, hml, hown, hts⟩ (c_X10_within l g 4 0 23 H.size) ⟨(va_cnB 3 hts gX6_high_X10_within_n39 rfl rfl rfl nl39 iniX10 (by decide +kernel) ⟨Nat.le_of_ble_eq_true rfl, Nat.le_of_ble_eq_true rfl⟩), st_yX10_within, trivial⟩ (he_preS (wc := []) hK hP hD hS hA hE [] rfl rfl) rfl rfl hl.1 rfl (lv_room (Nat.le_of_ble_eq_true rfl)) dX6_high_14 ⟨(Nat.le_of_ble_eq_true rfl), (Nat.le_of_ble_eq_true rfl)⟩) hP hD hS hA [] [0] rfl rfl rfl (by decide) (fun r_1 u_2 H locs h_3 hP hD hS => ?_)
  subst h_3
  have hP : va_P g.1 vwCl [(oX6 p0 p1 p2 p3 p4 w)] H := hP
  have hD : va_D A [(oX6 p0 p1 p2 p3 p4 w)] := hD
  refine he_top (1) (by decide) ?_
  refine lv_if_eq (tgt := 28) hx hb dX6_high_17 (by decide) (fun c_4 => ?_) (fun c_4 => ?_)
  · exact absurd c_4 (by decide)
  · refine va_gets hx hb hZ_hi hS hown f43 (fun _ h9 => h9) dX6_high_20 ?_
    refine lv_iload_n hx hb dX6_high_23 rfl (lv_at hl 0 rfl) ?_
    refine he_tald hx hb hT_hi hS (4) (by decide) (by decide) (by decide) (999) rfl dX6_high_24 ?_
    refine lv_goto (tgt := 29) hx hb dX6_high_25 (by decide) ?_
    exact he_ri hQ hx hb hr hlk hP hD hS dX6_high_29 (Nat.le_of_ble_eq_true rfl) (Nat.le_of_ble_eq_true rfl) (()) (rfl) (rfl)
set_option maxHeartbeats 4000000 in
set_option maxRecDepth 100000 in
theorem p_X6_low_1_2 (l : Launch) (g : he_G) (p0 : Nat) (p1 : Nat) (p2 : Nat) (p3 : Nat) (p4 : Nat) (w : Int32)  : he_I l yX6_low wsX6_low 0 0 0 0 g [.ref p0, .int 1, .int 2] [(oX6 p0 p1 p2 p3 p4 w)] (fun (r : Int32) (u : Unit) => r = 0) (fun (u : Unit) => [(oX6 p0 p1 p2 p3 p4 w)]) := by
  refine he_begin (l := l) (g := g) (y := yX6_low) (wl := wsX6_low) (fr := 0) (lo := 0) (mc := 0) (ms := 0) (av := [.ref p0, .int 1, .int 2]) (ws := [(oX6 p0 p1 p2 p3 p4 w)]) (cc := cX6_low) (maxL := 3) (ret := (some .int)) (fun A => va_Qi (fun (r : Int32) (u : Unit) => r = 0) (fun u t => he_post g A ((fun (u : Unit) => [(oX6 p0 p1 p2 p3 p4 w)]) u) t) A) (by decide) rfl (Nat.le_of_ble_eq_true rfl) ?_
  intro p e s m args below meth c A ls H locs Q hQ hB
  obtain ⟨hx, hb, hr, hml, hown, hts, hlk, hin, hP, hK, hD, hS, hA, hE, hl⟩ := hB
  have hl : lv_has ls 3 [(0, .ref p0), (1, .int 1), (2, .int 2)] := hl
  refine lv_iload_n hx hb dX6_low_0 rfl (lv_at hl 1 rfl) ?_
  refine lv_if_ne (tgt := 12) hx hb dX6_low_1 (by decide) (fun c_1 => ?_) (fun c_1 => ?_)
  · refine lv_iconst (v := 0) hx hb dX6_low_12 (by decide) ?_
    exact he_ri hQ hx hb hr hlk hP hD hS dX6_low_13 (Nat.le_of_ble_eq_true rfl) (Nat.le_of_ble_eq_true rfl) (()) (rfl) (rfl)
  · exact absurd c_1 (by decide)
set_option maxHeartbeats 4000000 in
set_option maxRecDepth 100000 in
theorem p_X6_high_1_2 (l : Launch) (g : he_G) (p0 : Nat) (p1 : Nat) (p2 : Nat) (p3 : Nat) (p4 : Nat) (w : Int32)  : he_I l yX6_high wsX6_high 1 22 0 0 g [.ref p0, .int 1, .int 2] [(oX6 p0 p1 p2 p3 p4 w)] (fun (r : Int32) (u : Unit) => r = 9) (fun (u : Unit) => [(oX6 p0 p1 p2 p3 p4 w)]) := by
  refine he_begin (l := l) (g := g) (y := yX6_high) (wl := wsX6_high) (fr := 1) (lo := 22) (mc := 0) (ms := 0) (av := [.ref p0, .int 1, .int 2]) (ws := [(oX6 p0 p1 p2 p3 p4 w)]) (cc := cX6_high) (maxL := 4) (ret := (some .int)) (fun A => va_Qi (fun (r : Int32) (u : Unit) => r = 9) (fun u t => he_post g A ((fun (u : Unit) => [(oX6 p0 p1 p2 p3 p4 w)]) u) t) A) (by decide) rfl (Nat.le_of_ble_eq_true rfl) ?_
  intro p e s m args below meth c A ls H locs Q hQ hB
  obtain ⟨hx, hb, hr, hml, hown, hts, hlk, hin, hP, hK, hD, hS, hA, hE, hl⟩ := hB
  have hl : lv_has ls 4 [(0, .ref p0), (1, .int 1), (2, .int 2)] := hl
  have f43 := hts (.fieldLink RX6 43 "HiredEnemy$Plan" "HIGH" "[I") (iwoX6_high (k := 0) rfl)
  obtain ⟨t_hi, hZ_hi, hT_hi⟩ := hE.2.2.1
  have nl39 := hE.nest (RX6, 39, yX10_within) (by decide +kernel)
  have iniX10 := hts (.initialized RX10) (iwoX6_high (k := 2) rfl)
  have st_yX10_within := hts (.static yX10_within) (iwoX6_high (k := 1) rfl)
  refine lv_iload_n hx hb dX6_high_0 rfl (lv_at hl 1 rfl) ?_
  refine lv_iconst (v := 3) hx hb dX6_high_1 (by decide) ?_
  refine lv_imul hx hb dX6_high_2 ?_
  refine he_top (3) (by decide) ?_
  refine lv_iload_n hx hb dX6_high_3 rfl (lv_at hl 2 rfl) ?_
  refine lv_iadd hx hb dX6_high_4 ?_
  refine he_top (5) (by decide) ?_
  refine lv_istore_n (lv' := [(3, .int 5), (0, .ref p0), (1, .int 1), (2, .int 2)]) hx hb dX6_high_5 rfl hl (by decide) rfl (fun ls hl => ?_)
  refine lv_iload_n hx hb dX6_high_6 rfl (lv_at hl 0 rfl) ?_
  refine lv_iconst (v := 0) hx hb dX6_high_7 (by decide) ?_
  refine va_gets hx hb hZ_hi hS hown f43 (fun _ h9 => h9) dX6_high_8 ?_
  refine va_tlen (v := 24) hx hb hT_hi hS (by decide) dX6_high_11 ?_
  refine lv_iconst (v := 1) hx hb dX6_high_12 (by decide) ?_
  refine lv_isub hx hb dX6_high_13 ?_
  refine he_top (23) (by decide) ?_
  refine he_ci (wc := []) (wr := [(oX6 p0 p1 p2 p3 p4 w)]) (va_runSN (As := [.int 5, .int 0, .int 23]) (rest := []) ⟨hx, hb, hml, hown, hts⟩ (c_X10_within l g 5 0 23 H.size) ⟨(va_cnB 3 hts gX6_high_X10_within_n39 rfl rfl rfl nl39 iniX10 (by decide +kernel) ⟨Nat.le_of_ble_eq_true rfl, Nat.le_of_ble_eq_true rfl⟩), st_yX10_within, trivial⟩ (he_preS (wc := []) hK hP hD hS hA hE [] rfl rfl) rfl rfl hl.1 rfl (lv_room (Nat.le_of_ble_eq_true rfl)) dX6_high_14 ⟨(Nat.le_of_ble_eq_true rfl), (Nat.le_of_ble_eq_true rfl)⟩) hP hD hS hA [] [0] rfl rfl rfl (by decide) (fun r_1 u_2 H locs h_3 hP hD hS => ?_)
  subst h_3
  have hP : va_P g.1 vwCl [(oX6 p0 p1 p2 p3 p4 w)] H := hP
  have hD : va_D A [(oX6 p0 p1 p2 p3 p4 w)] := hD
  refine he_top (1) (by decide) ?_
  refine lv_if_eq (tgt := 28) hx hb dX6_high_17 (by decide) (fun c_4 => ?_) (fun c_4 => ?_)
  · exact absurd c_4 (by decide)
  · refine va_gets hx hb hZ_hi hS hown f43 (fun _ h9 => h9) dX6_high_20 ?_
    refine lv_iload_n hx hb dX6_high_23 rfl (lv_at hl 0 rfl) ?_
    refine he_tald hx hb hT_hi hS (5) (by decide) (by decide) (by decide) (9) rfl dX6_high_24 ?_
    refine lv_goto (tgt := 29) hx hb dX6_high_25 (by decide) ?_
    exact he_ri hQ hx hb hr hlk hP hD hS dX6_high_29 (Nat.le_of_ble_eq_true rfl) (Nat.le_of_ble_eq_true rfl) (()) (rfl) (rfl)
set_option maxHeartbeats 4000000 in
set_option maxRecDepth 100000 in
theorem p_X6_numbers_2 (l : Launch) (g : he_G) (p0 : Nat) (p1 : Nat) (p2 : Nat) (p3 : Nat) (p4 : Nat) (w : Int32)  : he_I l yX6_numbers wsX6_numbers 1 22 0 0 g [.ref p0, .int 2] [(oX6 p0 p1 p2 p3 p4 w)] (fun (r : Int32) (u : Unit) => r = 3) (fun (u : Unit) => [(oX6 p0 p1 p2 p3 p4 w)]) := by
  refine he_begin (l := l) (g := g) (y := yX6_numbers) (wl := wsX6_numbers) (fr := 1) (lo := 22) (mc := 0) (ms := 0) (av := [.ref p0, .int 2]) (ws := [(oX6 p0 p1 p2 p3 p4 w)]) (cc := cX6_numbers) (maxL := 2) (ret := (some .int)) (fun A => va_Qi (fun (r : Int32) (u : Unit) => r = 3) (fun u t => he_post g A ((fun (u : Unit) => [(oX6 p0 p1 p2 p3 p4 w)]) u) t) A) (by decide) rfl (Nat.le_of_ble_eq_true rfl) ?_
  intro p e s m args below meth c A ls H locs Q hQ hB
  obtain ⟨hx, hb, hr, hml, hown, hts, hlk, hin, hP, hK, hD, hS, hA, hE, hl⟩ := hB
  have hl : lv_has ls 2 [(0, .ref p0), (1, .int 2)] := hl
  have f36 := hts (.fieldLink RX6 36 "HiredEnemy$Plan" "NUMBERS" "[I") (iwoX6_numbers (k := 0) rfl)
  obtain ⟨t_nu, hZ_nu, hT_nu⟩ := hE.2.1
  have nl39 := hE.nest (RX6, 39, yX10_within) (by decide +kernel)
  have iniX10 := hts (.initialized RX10) (iwoX6_numbers (k := 2) rfl)
  have st_yX10_within := hts (.static yX10_within) (iwoX6_numbers (k := 1) rfl)
  refine lv_iload_n hx hb dX6_numbers_0 rfl (lv_at hl 1 rfl) ?_
  refine lv_iconst (v := 0) hx hb dX6_numbers_1 (by decide) ?_
  refine va_gets hx hb hZ_nu hS hown f36 (fun _ h9 => h9) dX6_numbers_2 ?_
  refine va_tlen (v := 8) hx hb hT_nu hS (by decide) dX6_numbers_5 ?_
  refine lv_iconst (v := 1) hx hb dX6_numbers_6 (by decide) ?_
  refine lv_isub hx hb dX6_numbers_7 ?_
  refine he_top (7) (by decide) ?_
  refine he_ci (wc := []) (wr := [(oX6 p0 p1 p2 p3 p4 w)]) (va_runSN (As := [.int 2, .int 0, .int 7]) (rest := []) ⟨hx, hb, hml, hown, hts⟩ (c_X10_within l g 2 0 7 H.size) ⟨(va_cnB 3 hts gX6_numbers_X10_within_n39 rfl rfl rfl nl39 iniX10 (by decide +kernel) ⟨Nat.le_of_ble_eq_true rfl, Nat.le_of_ble_eq_true rfl⟩), st_yX10_within, trivial⟩ (he_preS (wc := []) hK hP hD hS hA hE [] rfl rfl) rfl rfl hl.1 rfl (lv_room (Nat.le_of_ble_eq_true rfl)) dX6_numbers_8 ⟨(Nat.le_of_ble_eq_true rfl), (Nat.le_of_ble_eq_true rfl)⟩) hP hD hS hA [] [0] rfl rfl rfl (by decide) (fun r_1 u_2 H locs h_3 hP hD hS => ?_)
  subst h_3
  have hP : va_P g.1 vwCl [(oX6 p0 p1 p2 p3 p4 w)] H := hP
  have hD : va_D A [(oX6 p0 p1 p2 p3 p4 w)] := hD
  refine he_top (1) (by decide) ?_
  refine lv_if_eq (tgt := 22) hx hb dX6_numbers_11 (by decide) (fun c_4 => ?_) (fun c_4 => ?_)
  · exact absurd c_4 (by decide)
  · refine va_gets hx hb hZ_nu hS hown f36 (fun _ h9 => h9) dX6_numbers_14 ?_
    refine lv_iload_n hx hb dX6_numbers_17 rfl (lv_at hl 1 rfl) ?_
    refine he_tald hx hb hT_nu hS (2) (by decide) (by decide) (by decide) (3) rfl dX6_numbers_18 ?_
    refine lv_goto (tgt := 23) hx hb dX6_numbers_19 (by decide) ?_
    exact he_ri hQ hx hb hr hlk hP hD hS dX6_numbers_23 (Nat.le_of_ble_eq_true rfl) (Nat.le_of_ble_eq_true rfl) (()) (rfl) (rfl)
set_option maxHeartbeats 4000000 in
set_option maxRecDepth 100000 in
theorem p_X6_low_2_0 (l : Launch) (g : he_G) (p0 : Nat) (p1 : Nat) (p2 : Nat) (p3 : Nat) (p4 : Nat) (w : Int32)  : he_I l yX6_low wsX6_low 0 0 0 0 g [.ref p0, .int 2, .int 0] [(oX6 p0 p1 p2 p3 p4 w)] (fun (r : Int32) (u : Unit) => r = 0) (fun (u : Unit) => [(oX6 p0 p1 p2 p3 p4 w)]) := by
  refine he_begin (l := l) (g := g) (y := yX6_low) (wl := wsX6_low) (fr := 0) (lo := 0) (mc := 0) (ms := 0) (av := [.ref p0, .int 2, .int 0]) (ws := [(oX6 p0 p1 p2 p3 p4 w)]) (cc := cX6_low) (maxL := 3) (ret := (some .int)) (fun A => va_Qi (fun (r : Int32) (u : Unit) => r = 0) (fun u t => he_post g A ((fun (u : Unit) => [(oX6 p0 p1 p2 p3 p4 w)]) u) t) A) (by decide) rfl (Nat.le_of_ble_eq_true rfl) ?_
  intro p e s m args below meth c A ls H locs Q hQ hB
  obtain ⟨hx, hb, hr, hml, hown, hts, hlk, hin, hP, hK, hD, hS, hA, hE, hl⟩ := hB
  have hl : lv_has ls 3 [(0, .ref p0), (1, .int 2), (2, .int 0)] := hl
  refine lv_iload_n hx hb dX6_low_0 rfl (lv_at hl 1 rfl) ?_
  refine lv_if_ne (tgt := 12) hx hb dX6_low_1 (by decide) (fun c_1 => ?_) (fun c_1 => ?_)
  · refine lv_iconst (v := 0) hx hb dX6_low_12 (by decide) ?_
    exact he_ri hQ hx hb hr hlk hP hD hS dX6_low_13 (Nat.le_of_ble_eq_true rfl) (Nat.le_of_ble_eq_true rfl) (()) (rfl) (rfl)
  · exact absurd c_1 (by decide)
set_option maxHeartbeats 4000000 in
set_option maxRecDepth 100000 in
theorem p_X6_high_2_0 (l : Launch) (g : he_G) (p0 : Nat) (p1 : Nat) (p2 : Nat) (p3 : Nat) (p4 : Nat) (w : Int32)  : he_I l yX6_high wsX6_high 1 22 0 0 g [.ref p0, .int 2, .int 0] [(oX6 p0 p1 p2 p3 p4 w)] (fun (r : Int32) (u : Unit) => r = 9999) (fun (u : Unit) => [(oX6 p0 p1 p2 p3 p4 w)]) := by
  refine he_begin (l := l) (g := g) (y := yX6_high) (wl := wsX6_high) (fr := 1) (lo := 22) (mc := 0) (ms := 0) (av := [.ref p0, .int 2, .int 0]) (ws := [(oX6 p0 p1 p2 p3 p4 w)]) (cc := cX6_high) (maxL := 4) (ret := (some .int)) (fun A => va_Qi (fun (r : Int32) (u : Unit) => r = 9999) (fun u t => he_post g A ((fun (u : Unit) => [(oX6 p0 p1 p2 p3 p4 w)]) u) t) A) (by decide) rfl (Nat.le_of_ble_eq_true rfl) ?_
  intro p e s m args below meth c A ls H locs Q hQ hB
  obtain ⟨hx, hb, hr, hml, hown, hts, hlk, hin, hP, hK, hD, hS, hA, hE, hl⟩ := hB
  have hl : lv_has ls 4 [(0, .ref p0), (1, .int 2), (2, .int 0)] := hl
  have f43 := hts (.fieldLink RX6 43 "HiredEnemy$Plan" "HIGH" "[I") (iwoX6_high (k := 0) rfl)
  obtain ⟨t_hi, hZ_hi, hT_hi⟩ := hE.2.2.1
  have nl39 := hE.nest (RX6, 39, yX10_within) (by decide +kernel)
  have iniX10 := hts (.initialized RX10) (iwoX6_high (k := 2) rfl)
  have st_yX10_within := hts (.static yX10_within) (iwoX6_high (k := 1) rfl)
  refine lv_iload_n hx hb dX6_high_0 rfl (lv_at hl 1 rfl) ?_
  refine lv_iconst (v := 3) hx hb dX6_high_1 (by decide) ?_
  refine lv_imul hx hb dX6_high_2 ?_
  refine he_top (6) (by decide) ?_
  refine lv_iload_n hx hb dX6_high_3 rfl (lv_at hl 2 rfl) ?_
  refine lv_iadd hx hb dX6_high_4 ?_
  refine he_top (6) (by decide) ?_
  refine lv_istore_n (lv' := [(3, .int 6), (0, .ref p0), (1, .int 2), (2, .int 0)]) hx hb dX6_high_5 rfl hl (by decide) rfl (fun ls hl => ?_)
  refine lv_iload_n hx hb dX6_high_6 rfl (lv_at hl 0 rfl) ?_
  refine lv_iconst (v := 0) hx hb dX6_high_7 (by decide) ?_
  refine va_gets hx hb hZ_hi hS hown f43 (fun _ h9 => h9) dX6_high_8 ?_
  refine va_tlen (v := 24) hx hb hT_hi hS (by decide) dX6_high_11 ?_
  refine lv_iconst (v := 1) hx hb dX6_high_12 (by decide) ?_
  refine lv_isub hx hb dX6_high_13 ?_
  refine he_top (23) (by decide) ?_
  refine he_ci (wc := []) (wr := [(oX6 p0 p1 p2 p3 p4 w)]) (va_runSN (As := [.int 6, .int 0, .int 23]) (rest := []) ⟨hx, hb, hml, hown, hts⟩ (c_X10_within l g 6 0 23 H.size) ⟨(va_cnB 3 hts gX6_high_X10_within_n39 rfl rfl rfl nl39 iniX10 (by decide +kernel) ⟨Nat.le_of_ble_eq_true rfl, Nat.le_of_ble_eq_true rfl⟩), st_yX10_within, trivial⟩ (he_preS (wc := []) hK hP hD hS hA hE [] rfl rfl) rfl rfl hl.1 rfl (lv_room (Nat.le_of_ble_eq_true rfl)) dX6_high_14 ⟨(Nat.le_of_ble_eq_true rfl), (Nat.le_of_ble_eq_true rfl)⟩) hP hD hS hA [] [0] rfl rfl rfl (by decide) (fun r_1 u_2 H locs h_3 hP hD hS => ?_)
  subst h_3
  have hP : va_P g.1 vwCl [(oX6 p0 p1 p2 p3 p4 w)] H := hP
  have hD : va_D A [(oX6 p0 p1 p2 p3 p4 w)] := hD
  refine he_top (1) (by decide) ?_
  refine lv_if_eq (tgt := 28) hx hb dX6_high_17 (by decide) (fun c_4 => ?_) (fun c_4 => ?_)
  · exact absurd c_4 (by decide)
  · refine va_gets hx hb hZ_hi hS hown f43 (fun _ h9 => h9) dX6_high_20 ?_
    refine lv_iload_n hx hb dX6_high_23 rfl (lv_at hl 0 rfl) ?_
    refine he_tald hx hb hT_hi hS (6) (by decide) (by decide) (by decide) (9999) rfl dX6_high_24 ?_
    refine lv_goto (tgt := 29) hx hb dX6_high_25 (by decide) ?_
    exact he_ri hQ hx hb hr hlk hP hD hS dX6_high_29 (Nat.le_of_ble_eq_true rfl) (Nat.le_of_ble_eq_true rfl) (()) (rfl) (rfl)
set_option maxHeartbeats 4000000 in
set_option maxRecDepth 100000 in
theorem p_X6_low_2_1 (l : Launch) (g : he_G) (p0 : Nat) (p1 : Nat) (p2 : Nat) (p3 : Nat) (p4 : Nat) (w : Int32)  : he_I l yX6_low wsX6_low 0 0 0 0 g [.ref p0, .int 2, .int 1] [(oX6 p0 p1 p2 p3 p4 w)] (fun (r : Int32) (u : Unit) => r = 0) (fun (u : Unit) => [(oX6 p0 p1 p2 p3 p4 w)]) := by
  refine he_begin (l := l) (g := g) (y := yX6_low) (wl := wsX6_low) (fr := 0) (lo := 0) (mc := 0) (ms := 0) (av := [.ref p0, .int 2, .int 1]) (ws := [(oX6 p0 p1 p2 p3 p4 w)]) (cc := cX6_low) (maxL := 3) (ret := (some .int)) (fun A => va_Qi (fun (r : Int32) (u : Unit) => r = 0) (fun u t => he_post g A ((fun (u : Unit) => [(oX6 p0 p1 p2 p3 p4 w)]) u) t) A) (by decide) rfl (Nat.le_of_ble_eq_true rfl) ?_
  intro p e s m args below meth c A ls H locs Q hQ hB
  obtain ⟨hx, hb, hr, hml, hown, hts, hlk, hin, hP, hK, hD, hS, hA, hE, hl⟩ := hB
  have hl : lv_has ls 3 [(0, .ref p0), (1, .int 2), (2, .int 1)] := hl
  refine lv_iload_n hx hb dX6_low_0 rfl (lv_at hl 1 rfl) ?_
  refine lv_if_ne (tgt := 12) hx hb dX6_low_1 (by decide) (fun c_1 => ?_) (fun c_1 => ?_)
  · refine lv_iconst (v := 0) hx hb dX6_low_12 (by decide) ?_
    exact he_ri hQ hx hb hr hlk hP hD hS dX6_low_13 (Nat.le_of_ble_eq_true rfl) (Nat.le_of_ble_eq_true rfl) (()) (rfl) (rfl)
  · exact absurd c_1 (by decide)
set_option maxHeartbeats 4000000 in
set_option maxRecDepth 100000 in
theorem p_X6_high_2_1 (l : Launch) (g : he_G) (p0 : Nat) (p1 : Nat) (p2 : Nat) (p3 : Nat) (p4 : Nat) (w : Int32)  : he_I l yX6_high wsX6_high 1 22 0 0 g [.ref p0, .int 2, .int 1] [(oX6 p0 p1 p2 p3 p4 w)] (fun (r : Int32) (u : Unit) => r = 999) (fun (u : Unit) => [(oX6 p0 p1 p2 p3 p4 w)]) := by
  refine he_begin (l := l) (g := g) (y := yX6_high) (wl := wsX6_high) (fr := 1) (lo := 22) (mc := 0) (ms := 0) (av := [.ref p0, .int 2, .int 1]) (ws := [(oX6 p0 p1 p2 p3 p4 w)]) (cc := cX6_high) (maxL := 4) (ret := (some .int)) (fun A => va_Qi (fun (r : Int32) (u : Unit) => r = 999) (fun u t => he_post g A ((fun (u : Unit) => [(oX6 p0 p1 p2 p3 p4 w)]) u) t) A) (by decide) rfl (Nat.le_of_ble_eq_true rfl) ?_
  intro p e s m args below meth c A ls H locs Q hQ hB
  obtain ⟨hx, hb, hr, hml, hown, hts, hlk, hin, hP, hK, hD, hS, hA, hE, hl⟩ := hB
  have hl : lv_has ls 4 [(0, .ref p0), (1, .int 2), (2, .int 1)] := hl
  have f43 := hts (.fieldLink RX6 43 "HiredEnemy$Plan" "HIGH" "[I") (iwoX6_high (k := 0) rfl)
  obtain ⟨t_hi, hZ_hi, hT_hi⟩ := hE.2.2.1
  have nl39 := hE.nest (RX6, 39, yX10_within) (by decide +kernel)
  have iniX10 := hts (.initialized RX10) (iwoX6_high (k := 2) rfl)
  have st_yX10_within := hts (.static yX10_within) (iwoX6_high (k := 1) rfl)
  refine lv_iload_n hx hb dX6_high_0 rfl (lv_at hl 1 rfl) ?_
  refine lv_iconst (v := 3) hx hb dX6_high_1 (by decide) ?_
  refine lv_imul hx hb dX6_high_2 ?_
  refine he_top (6) (by decide) ?_
  refine lv_iload_n hx hb dX6_high_3 rfl (lv_at hl 2 rfl) ?_
  refine lv_iadd hx hb dX6_high_4 ?_
  refine he_top (7) (by decide) ?_
  refine lv_istore_n (lv' := [(3, .int 7), (0, .ref p0), (1, .int 2), (2, .int 1)]) hx hb dX6_high_5 rfl hl (by decide) rfl (fun ls hl => ?_)
  refine lv_iload_n hx hb dX6_high_6 rfl (lv_at hl 0 rfl) ?_
  refine lv_iconst (v := 0) hx hb dX6_high_7 (by decide) ?_
  refine va_gets hx hb hZ_hi hS hown f43 (fun _ h9 => h9) dX6_high_8 ?_
  refine va_tlen (v := 24) hx hb hT_hi hS (by decide) dX6_high_11 ?_
  refine lv_iconst (v := 1) hx hb dX6_high_12 (by decide) ?_
  refine lv_isub hx hb dX6_high_13 ?_
  refine he_top (23) (by decide) ?_
  refine he_ci (wc := []) (wr := [(oX6 p0 p1 p2 p3 p4 w)]) (va_runSN (As := [.int 7, .int 0, .int 23]) (rest := []) ⟨hx, hb, hml, hown, hts⟩ (c_X10_within l g 7 0 23 H.size) ⟨(va_cnB 3 hts gX6_high_X10_within_n39 rfl rfl rfl nl39 iniX10 (by decide +kernel) ⟨Nat.le_of_ble_eq_true rfl, Nat.le_of_ble_eq_true rfl⟩), st_yX10_within, trivial⟩ (he_preS (wc := []) hK hP hD hS hA hE [] rfl rfl) rfl rfl hl.1 rfl (lv_room (Nat.le_of_ble_eq_true rfl)) dX6_high_14 ⟨(Nat.le_of_ble_eq_true rfl), (Nat.le_of_ble_eq_true rfl)⟩) hP hD hS hA [] [0] rfl rfl rfl (by decide) (fun r_1 u_2 H locs h_3 hP hD hS => ?_)
  subst h_3
  have hP : va_P g.1 vwCl [(oX6 p0 p1 p2 p3 p4 w)] H := hP
  have hD : va_D A [(oX6 p0 p1 p2 p3 p4 w)] := hD
  refine he_top (1) (by decide) ?_
  refine lv_if_eq (tgt := 28) hx hb dX6_high_17 (by decide) (fun c_4 => ?_) (fun c_4 => ?_)
  · exact absurd c_4 (by decide)
  · refine va_gets hx hb hZ_hi hS hown f43 (fun _ h9 => h9) dX6_high_20 ?_
    refine lv_iload_n hx hb dX6_high_23 rfl (lv_at hl 0 rfl) ?_
    refine he_tald hx hb hT_hi hS (7) (by decide) (by decide) (by decide) (999) rfl dX6_high_24 ?_
    refine lv_goto (tgt := 29) hx hb dX6_high_25 (by decide) ?_
    exact he_ri hQ hx hb hr hlk hP hD hS dX6_high_29 (Nat.le_of_ble_eq_true rfl) (Nat.le_of_ble_eq_true rfl) (()) (rfl) (rfl)
set_option maxHeartbeats 4000000 in
set_option maxRecDepth 100000 in
theorem p_X6_low_2_2 (l : Launch) (g : he_G) (p0 : Nat) (p1 : Nat) (p2 : Nat) (p3 : Nat) (p4 : Nat) (w : Int32)  : he_I l yX6_low wsX6_low 0 0 0 0 g [.ref p0, .int 2, .int 2] [(oX6 p0 p1 p2 p3 p4 w)] (fun (r : Int32) (u : Unit) => r = 0) (fun (u : Unit) => [(oX6 p0 p1 p2 p3 p4 w)]) := by
  refine he_begin (l := l) (g := g) (y := yX6_low) (wl := wsX6_low) (fr := 0) (lo := 0) (mc := 0) (ms := 0) (av := [.ref p0, .int 2, .int 2]) (ws := [(oX6 p0 p1 p2 p3 p4 w)]) (cc := cX6_low) (maxL := 3) (ret := (some .int)) (fun A => va_Qi (fun (r : Int32) (u : Unit) => r = 0) (fun u t => he_post g A ((fun (u : Unit) => [(oX6 p0 p1 p2 p3 p4 w)]) u) t) A) (by decide) rfl (Nat.le_of_ble_eq_true rfl) ?_
  intro p e s m args below meth c A ls H locs Q hQ hB
  obtain ⟨hx, hb, hr, hml, hown, hts, hlk, hin, hP, hK, hD, hS, hA, hE, hl⟩ := hB
  have hl : lv_has ls 3 [(0, .ref p0), (1, .int 2), (2, .int 2)] := hl
  refine lv_iload_n hx hb dX6_low_0 rfl (lv_at hl 1 rfl) ?_
  refine lv_if_ne (tgt := 12) hx hb dX6_low_1 (by decide) (fun c_1 => ?_) (fun c_1 => ?_)
  · refine lv_iconst (v := 0) hx hb dX6_low_12 (by decide) ?_
    exact he_ri hQ hx hb hr hlk hP hD hS dX6_low_13 (Nat.le_of_ble_eq_true rfl) (Nat.le_of_ble_eq_true rfl) (()) (rfl) (rfl)
  · exact absurd c_1 (by decide)
set_option maxHeartbeats 4000000 in
set_option maxRecDepth 100000 in
theorem p_X6_high_2_2 (l : Launch) (g : he_G) (p0 : Nat) (p1 : Nat) (p2 : Nat) (p3 : Nat) (p4 : Nat) (w : Int32)  : he_I l yX6_high wsX6_high 1 22 0 0 g [.ref p0, .int 2, .int 2] [(oX6 p0 p1 p2 p3 p4 w)] (fun (r : Int32) (u : Unit) => r = 9) (fun (u : Unit) => [(oX6 p0 p1 p2 p3 p4 w)]) := by
  refine he_begin (l := l) (g := g) (y := yX6_high) (wl := wsX6_high) (fr := 1) (lo := 22) (mc := 0) (ms := 0) (av := [.ref p0, .int 2, .int 2]) (ws := [(oX6 p0 p1 p2 p3 p4 w)]) (cc := cX6_high) (maxL := 4) (ret := (some .int)) (fun A => va_Qi (fun (r : Int32) (u : Unit) => r = 9) (fun u t => he_post g A ((fun (u : Unit) => [(oX6 p0 p1 p2 p3 p4 w)]) u) t) A) (by decide) rfl (Nat.le_of_ble_eq_true rfl) ?_
  intro p e s m args below meth c A ls H locs Q hQ hB
  obtain ⟨hx, hb, hr, hml, hown, hts, hlk, hin, hP, hK, hD, hS, hA, hE, hl⟩ := hB
  have hl : lv_has ls 4 [(0, .ref p0), (1, .int 2), (2, .int 2)] := hl
  have f43 := hts (.fieldLink RX6 43 "HiredEnemy$Plan" "HIGH" "[I") (iwoX6_high (k := 0) rfl)
  obtain ⟨t_hi, hZ_hi, hT_hi⟩ := hE.2.2.1
  have nl39 := hE.nest (RX6, 39, yX10_within) (by decide +kernel)
  have iniX10 := hts (.initialized RX10) (iwoX6_high (k := 2) rfl)
  have st_yX10_within := hts (.static yX10_within) (iwoX6_high (k := 1) rfl)
  refine lv_iload_n hx hb dX6_high_0 rfl (lv_at hl 1 rfl) ?_
  refine lv_iconst (v := 3) hx hb dX6_high_1 (by decide) ?_
  refine lv_imul hx hb dX6_high_2 ?_
  refine he_top (6) (by decide) ?_
  refine lv_iload_n hx hb dX6_high_3 rfl (lv_at hl 2 rfl) ?_
  refine lv_iadd hx hb dX6_high_4 ?_
  refine he_top (8) (by decide) ?_
  refine lv_istore_n (lv' := [(3, .int 8), (0, .ref p0), (1, .int 2), (2, .int 2)]) hx hb dX6_high_5 rfl hl (by decide) rfl (fun ls hl => ?_)
  refine lv_iload_n hx hb dX6_high_6 rfl (lv_at hl 0 rfl) ?_
  refine lv_iconst (v := 0) hx hb dX6_high_7 (by decide) ?_
  refine va_gets hx hb hZ_hi hS hown f43 (fun _ h9 => h9) dX6_high_8 ?_
  refine va_tlen (v := 24) hx hb hT_hi hS (by decide) dX6_high_11 ?_
  refine lv_iconst (v := 1) hx hb dX6_high_12 (by decide) ?_
  refine lv_isub hx hb dX6_high_13 ?_
  refine he_top (23) (by decide) ?_
  refine he_ci (wc := []) (wr := [(oX6 p0 p1 p2 p3 p4 w)]) (va_runSN (As := [.int 8, .int 0, .int 23]) (rest := []) ⟨hx, hb, hml, hown, hts⟩ (c_X10_within l g 8 0 23 H.size) ⟨(va_cnB 3 hts gX6_high_X10_within_n39 rfl rfl rfl nl39 iniX10 (by decide +kernel) ⟨Nat.le_of_ble_eq_true rfl, Nat.le_of_ble_eq_true rfl⟩), st_yX10_within, trivial⟩ (he_preS (wc := []) hK hP hD hS hA hE [] rfl rfl) rfl rfl hl.1 rfl (lv_room (Nat.le_of_ble_eq_true rfl)) dX6_high_14 ⟨(Nat.le_of_ble_eq_true rfl), (Nat.le_of_ble_eq_true rfl)⟩) hP hD hS hA [] [0] rfl rfl rfl (by decide) (fun r_1 u_2 H locs h_3 hP hD hS => ?_)
  subst h_3
  have hP : va_P g.1 vwCl [(oX6 p0 p1 p2 p3 p4 w)] H := hP
  have hD : va_D A [(oX6 p0 p1 p2 p3 p4 w)] := hD
  refine he_top (1) (by decide) ?_
  refine lv_if_eq (tgt := 28) hx hb dX6_high_17 (by decide) (fun c_4 => ?_) (fun c_4 => ?_)
  · exact absurd c_4 (by decide)
  · refine va_gets hx hb hZ_hi hS hown f43 (fun _ h9 => h9) dX6_high_20 ?_
    refine lv_iload_n hx hb dX6_high_23 rfl (lv_at hl 0 rfl) ?_
    refine he_tald hx hb hT_hi hS (8) (by decide) (by decide) (by decide) (9) rfl dX6_high_24 ?_
    refine lv_goto (tgt := 29) hx hb dX6_high_25 (by decide) ?_
    exact he_ri hQ hx hb hr hlk hP hD hS dX6_high_29 (Nat.le_of_ble_eq_true rfl) (Nat.le_of_ble_eq_true rfl) (()) (rfl) (rfl)
set_option maxHeartbeats 4000000 in
set_option maxRecDepth 100000 in
theorem p_X6_numbers_3 (l : Launch) (g : he_G) (p0 : Nat) (p1 : Nat) (p2 : Nat) (p3 : Nat) (p4 : Nat) (w : Int32)  : he_I l yX6_numbers wsX6_numbers 1 22 0 0 g [.ref p0, .int 3] [(oX6 p0 p1 p2 p3 p4 w)] (fun (r : Int32) (u : Unit) => r = 2) (fun (u : Unit) => [(oX6 p0 p1 p2 p3 p4 w)]) := by
  refine he_begin (l := l) (g := g) (y := yX6_numbers) (wl := wsX6_numbers) (fr := 1) (lo := 22) (mc := 0) (ms := 0) (av := [.ref p0, .int 3]) (ws := [(oX6 p0 p1 p2 p3 p4 w)]) (cc := cX6_numbers) (maxL := 2) (ret := (some .int)) (fun A => va_Qi (fun (r : Int32) (u : Unit) => r = 2) (fun u t => he_post g A ((fun (u : Unit) => [(oX6 p0 p1 p2 p3 p4 w)]) u) t) A) (by decide) rfl (Nat.le_of_ble_eq_true rfl) ?_
  intro p e s m args below meth c A ls H locs Q hQ hB
  obtain ⟨hx, hb, hr, hml, hown, hts, hlk, hin, hP, hK, hD, hS, hA, hE, hl⟩ := hB
  have hl : lv_has ls 2 [(0, .ref p0), (1, .int 3)] := hl
  have f36 := hts (.fieldLink RX6 36 "HiredEnemy$Plan" "NUMBERS" "[I") (iwoX6_numbers (k := 0) rfl)
  obtain ⟨t_nu, hZ_nu, hT_nu⟩ := hE.2.1
  have nl39 := hE.nest (RX6, 39, yX10_within) (by decide +kernel)
  have iniX10 := hts (.initialized RX10) (iwoX6_numbers (k := 2) rfl)
  have st_yX10_within := hts (.static yX10_within) (iwoX6_numbers (k := 1) rfl)
  refine lv_iload_n hx hb dX6_numbers_0 rfl (lv_at hl 1 rfl) ?_
  refine lv_iconst (v := 0) hx hb dX6_numbers_1 (by decide) ?_
  refine va_gets hx hb hZ_nu hS hown f36 (fun _ h9 => h9) dX6_numbers_2 ?_
  refine va_tlen (v := 8) hx hb hT_nu hS (by decide) dX6_numbers_5 ?_
  refine lv_iconst (v := 1) hx hb dX6_numbers_6 (by decide) ?_
  refine lv_isub hx hb dX6_numbers_7 ?_
  refine he_top (7) (by decide) ?_
  refine he_ci (wc := []) (wr := [(oX6 p0 p1 p2 p3 p4 w)]) (va_runSN (As := [.int 3, .int 0, .int 7]) (rest := []) ⟨hx, hb, hml, hown, hts⟩ (c_X10_within l g 3 0 7 H.size) ⟨(va_cnB 3 hts gX6_numbers_X10_within_n39 rfl rfl rfl nl39 iniX10 (by decide +kernel) ⟨Nat.le_of_ble_eq_true rfl, Nat.le_of_ble_eq_true rfl⟩), st_yX10_within, trivial⟩ (he_preS (wc := []) hK hP hD hS hA hE [] rfl rfl) rfl rfl hl.1 rfl (lv_room (Nat.le_of_ble_eq_true rfl)) dX6_numbers_8 ⟨(Nat.le_of_ble_eq_true rfl), (Nat.le_of_ble_eq_true rfl)⟩) hP hD hS hA [] [0] rfl rfl rfl (by decide) (fun r_1 u_2 H locs h_3 hP hD hS => ?_)
  subst h_3
  have hP : va_P g.1 vwCl [(oX6 p0 p1 p2 p3 p4 w)] H := hP
  have hD : va_D A [(oX6 p0 p1 p2 p3 p4 w)] := hD
  refine he_top (1) (by decide) ?_
  refine lv_if_eq (tgt := 22) hx hb dX6_numbers_11 (by decide) (fun c_4 => ?_) (fun c_4 => ?_)
  · exact absurd c_4 (by decide)
  · refine va_gets hx hb hZ_nu hS hown f36 (fun _ h9 => h9) dX6_numbers_14 ?_
    refine lv_iload_n hx hb dX6_numbers_17 rfl (lv_at hl 1 rfl) ?_
    refine he_tald hx hb hT_nu hS (3) (by decide) (by decide) (by decide) (2) rfl dX6_numbers_18 ?_
    refine lv_goto (tgt := 23) hx hb dX6_numbers_19 (by decide) ?_
    exact he_ri hQ hx hb hr hlk hP hD hS dX6_numbers_23 (Nat.le_of_ble_eq_true rfl) (Nat.le_of_ble_eq_true rfl) (()) (rfl) (rfl)
set_option maxHeartbeats 4000000 in
set_option maxRecDepth 100000 in
theorem p_X6_low_3_0 (l : Launch) (g : he_G) (p0 : Nat) (p1 : Nat) (p2 : Nat) (p3 : Nat) (p4 : Nat) (w : Int32)  : he_I l yX6_low wsX6_low 0 0 0 0 g [.ref p0, .int 3, .int 0] [(oX6 p0 p1 p2 p3 p4 w)] (fun (r : Int32) (u : Unit) => r = 0) (fun (u : Unit) => [(oX6 p0 p1 p2 p3 p4 w)]) := by
  refine he_begin (l := l) (g := g) (y := yX6_low) (wl := wsX6_low) (fr := 0) (lo := 0) (mc := 0) (ms := 0) (av := [.ref p0, .int 3, .int 0]) (ws := [(oX6 p0 p1 p2 p3 p4 w)]) (cc := cX6_low) (maxL := 3) (ret := (some .int)) (fun A => va_Qi (fun (r : Int32) (u : Unit) => r = 0) (fun u t => he_post g A ((fun (u : Unit) => [(oX6 p0 p1 p2 p3 p4 w)]) u) t) A) (by decide) rfl (Nat.le_of_ble_eq_true rfl) ?_
  intro p e s m args below meth c A ls H locs Q hQ hB
  obtain ⟨hx, hb, hr, hml, hown, hts, hlk, hin, hP, hK, hD, hS, hA, hE, hl⟩ := hB
  have hl : lv_has ls 3 [(0, .ref p0), (1, .int 3), (2, .int 0)] := hl
  refine lv_iload_n hx hb dX6_low_0 rfl (lv_at hl 1 rfl) ?_
  refine lv_if_ne (tgt := 12) hx hb dX6_low_1 (by decide) (fun c_1 => ?_) (fun c_1 => ?_)
  · refine lv_iconst (v := 0) hx hb dX6_low_12 (by decide) ?_
    exact he_ri hQ hx hb hr hlk hP hD hS dX6_low_13 (Nat.le_of_ble_eq_true rfl) (Nat.le_of_ble_eq_true rfl) (()) (rfl) (rfl)
  · exact absurd c_1 (by decide)
set_option maxHeartbeats 4000000 in
set_option maxRecDepth 100000 in
theorem p_X6_high_3_0 (l : Launch) (g : he_G) (p0 : Nat) (p1 : Nat) (p2 : Nat) (p3 : Nat) (p4 : Nat) (w : Int32)  : he_I l yX6_high wsX6_high 1 22 0 0 g [.ref p0, .int 3, .int 0] [(oX6 p0 p1 p2 p3 p4 w)] (fun (r : Int32) (u : Unit) => r = 9999) (fun (u : Unit) => [(oX6 p0 p1 p2 p3 p4 w)]) := by
  refine he_begin (l := l) (g := g) (y := yX6_high) (wl := wsX6_high) (fr := 1) (lo := 22) (mc := 0) (ms := 0) (av := [.ref p0, .int 3, .int 0]) (ws := [(oX6 p0 p1 p2 p3 p4 w)]) (cc := cX6_high) (maxL := 4) (ret := (some .int)) (fun A => va_Qi (fun (r : Int32) (u : Unit) => r = 9999) (fun u t => he_post g A ((fun (u : Unit) => [(oX6 p0 p1 p2 p3 p4 w)]) u) t) A) (by decide) rfl (Nat.le_of_ble_eq_true rfl) ?_
  intro p e s m args below meth c A ls H locs Q hQ hB
  obtain ⟨hx, hb, hr, hml, hown, hts, hlk, hin, hP, hK, hD, hS, hA, hE, hl⟩ := hB
  have hl : lv_has ls 4 [(0, .ref p0), (1, .int 3), (2, .int 0)] := hl
  have f43 := hts (.fieldLink RX6 43 "HiredEnemy$Plan" "HIGH" "[I") (iwoX6_high (k := 0) rfl)
  obtain ⟨t_hi, hZ_hi, hT_hi⟩ := hE.2.2.1
  have nl39 := hE.nest (RX6, 39, yX10_within) (by decide +kernel)
  have iniX10 := hts (.initialized RX10) (iwoX6_high (k := 2) rfl)
  have st_yX10_within := hts (.static yX10_within) (iwoX6_high (k := 1) rfl)
  refine lv_iload_n hx hb dX6_high_0 rfl (lv_at hl 1 rfl) ?_
  refine lv_iconst (v := 3) hx hb dX6_high_1 (by decide) ?_
  refine lv_imul hx hb dX6_high_2 ?_
  refine he_top (9) (by decide) ?_
  refine lv_iload_n hx hb dX6_high_3 rfl (lv_at hl 2 rfl) ?_
  refine lv_iadd hx hb dX6_high_4 ?_
  refine he_top (9) (by decide) ?_
  refine lv_istore_n (lv' := [(3, .int 9), (0, .ref p0), (1, .int 3), (2, .int 0)]) hx hb dX6_high_5 rfl hl (by decide) rfl (fun ls hl => ?_)
  refine lv_iload_n hx hb dX6_high_6 rfl (lv_at hl 0 rfl) ?_
  refine lv_iconst (v := 0) hx hb dX6_high_7 (by decide) ?_
  refine va_gets hx hb hZ_hi hS hown f43 (fun _ h9 => h9) dX6_high_8 ?_
  refine va_tlen (v := 24) hx hb hT_hi hS (by decide) dX6_high_11 ?_
  refine lv_iconst (v := 1) hx hb dX6_high_12 (by decide) ?_
  refine lv_isub hx hb dX6_high_13 ?_
  refine he_top (23) (by decide) ?_
  refine he_ci (wc := []) (wr := [(oX6 p0 p1 p2 p3 p4 w)]) (va_runSN (As := [.int 9, .int 0, .int 23]) (rest := []) ⟨hx, hb, hml, hown, hts⟩ (c_X10_within l g 9 0 23 H.size) ⟨(va_cnB 3 hts gX6_high_X10_within_n39 rfl rfl rfl nl39 iniX10 (by decide +kernel) ⟨Nat.le_of_ble_eq_true rfl, Nat.le_of_ble_eq_true rfl⟩), st_yX10_within, trivial⟩ (he_preS (wc := []) hK hP hD hS hA hE [] rfl rfl) rfl rfl hl.1 rfl (lv_room (Nat.le_of_ble_eq_true rfl)) dX6_high_14 ⟨(Nat.le_of_ble_eq_true rfl), (Nat.le_of_ble_eq_true rfl)⟩) hP hD hS hA [] [0] rfl rfl rfl (by decide) (fun r_1 u_2 H locs h_3 hP hD hS => ?_)
  subst h_3
  have hP : va_P g.1 vwCl [(oX6 p0 p1 p2 p3 p4 w)] H := hP
  have hD : va_D A [(oX6 p0 p1 p2 p3 p4 w)] := hD
  refine he_top (1) (by decide) ?_
  refine lv_if_eq (tgt := 28) hx hb dX6_high_17 (by decide) (fun c_4 => ?_) (fun c_4 => ?_)
  · exact absurd c_4 (by decide)
  · refine va_gets hx hb hZ_hi hS hown f43 (fun _ h9 => h9) dX6_high_20 ?_
    refine lv_iload_n hx hb dX6_high_23 rfl (lv_at hl 0 rfl) ?_
    refine he_tald hx hb hT_hi hS (9) (by decide) (by decide) (by decide) (9999) rfl dX6_high_24 ?_
    refine lv_goto (tgt := 29) hx hb dX6_high_25 (by decide) ?_
    exact he_ri hQ hx hb hr hlk hP hD hS dX6_high_29 (Nat.le_of_ble_eq_true rfl) (Nat.le_of_ble_eq_true rfl) (()) (rfl) (rfl)
set_option maxHeartbeats 4000000 in
set_option maxRecDepth 100000 in
theorem p_X6_low_3_1 (l : Launch) (g : he_G) (p0 : Nat) (p1 : Nat) (p2 : Nat) (p3 : Nat) (p4 : Nat) (w : Int32)  : he_I l yX6_low wsX6_low 0 0 0 0 g [.ref p0, .int 3, .int 1] [(oX6 p0 p1 p2 p3 p4 w)] (fun (r : Int32) (u : Unit) => r = 0) (fun (u : Unit) => [(oX6 p0 p1 p2 p3 p4 w)]) := by
  refine he_begin (l := l) (g := g) (y := yX6_low) (wl := wsX6_low) (fr := 0) (lo := 0) (mc := 0) (ms := 0) (av := [.ref p0, .int 3, .int 1]) (ws := [(oX6 p0 p1 p2 p3 p4 w)]) (cc := cX6_low) (maxL := 3) (ret := (some .int)) (fun A => va_Qi (fun (r : Int32) (u : Unit) => r = 0) (fun u t => he_post g A ((fun (u : Unit) => [(oX6 p0 p1 p2 p3 p4 w)]) u) t) A) (by decide) rfl (Nat.le_of_ble_eq_true rfl) ?_
  intro p e s m args below meth c A ls H locs Q hQ hB
  obtain ⟨hx, hb, hr, hml, hown, hts, hlk, hin, hP, hK, hD, hS, hA, hE, hl⟩ := hB
  have hl : lv_has ls 3 [(0, .ref p0), (1, .int 3), (2, .int 1)] := hl
  refine lv_iload_n hx hb dX6_low_0 rfl (lv_at hl 1 rfl) ?_
  refine lv_if_ne (tgt := 12) hx hb dX6_low_1 (by decide) (fun c_1 => ?_) (fun c_1 => ?_)
  · refine lv_iconst (v := 0) hx hb dX6_low_12 (by decide) ?_
    exact he_ri hQ hx hb hr hlk hP hD hS dX6_low_13 (Nat.le_of_ble_eq_true rfl) (Nat.le_of_ble_eq_true rfl) (()) (rfl) (rfl)
  · exact absurd c_1 (by decide)
set_option maxHeartbeats 4000000 in
set_option maxRecDepth 100000 in
theorem p_X6_high_3_1 (l : Launch) (g : he_G) (p0 : Nat) (p1 : Nat) (p2 : Nat) (p3 : Nat) (p4 : Nat) (w : Int32)  : he_I l yX6_high wsX6_high 1 22 0 0 g [.ref p0, .int 3, .int 1] [(oX6 p0 p1 p2 p3 p4 w)] (fun (r : Int32) (u : Unit) => r = 100) (fun (u : Unit) => [(oX6 p0 p1 p2 p3 p4 w)]) := by
  refine he_begin (l := l) (g := g) (y := yX6_high) (wl := wsX6_high) (fr := 1) (lo := 22) (mc := 0) (ms := 0) (av := [.ref p0, .int 3, .int 1]) (ws := [(oX6 p0 p1 p2 p3 p4 w)]) (cc := cX6_high) (maxL := 4) (ret := (some .int)) (fun A => va_Qi (fun (r : Int32) (u : Unit) => r = 100) (fun u t => he_post g A ((fun (u : Unit) => [(oX6 p0 p1 p2 p3 p4 w)]) u) t) A) (by decide) rfl (Nat.le_of_ble_eq_true rfl) ?_
  intro p e s m args below meth c A ls H locs Q hQ hB
  obtain ⟨hx, hb, hr, hml, hown, hts, hlk, hin, hP, hK, hD, hS, hA, hE, hl⟩ := hB
  have hl : lv_has ls 4 [(0, .ref p0), (1, .int 3), (2, .int 1)] := hl
  have f43 := hts (.fieldLink RX6 43 "HiredEnemy$Plan" "HIGH" "[I") (iwoX6_high (k := 0) rfl)
  obtain ⟨t_hi, hZ_hi, hT_hi⟩ := hE.2.2.1
  have nl39 := hE.nest (RX6, 39, yX10_within) (by decide +kernel)
  have iniX10 := hts (.initialized RX10) (iwoX6_high (k := 2) rfl)
  have st_yX10_within := hts (.static yX10_within) (iwoX6_high (k := 1) rfl)
  refine lv_iload_n hx hb dX6_high_0 rfl (lv_at hl 1 rfl) ?_
  refine lv_iconst (v := 3) hx hb dX6_high_1 (by decide) ?_
  refine lv_imul hx hb dX6_high_2 ?_
  refine he_top (9) (by decide) ?_
  refine lv_iload_n hx hb dX6_high_3 rfl (lv_at hl 2 rfl) ?_
  refine lv_iadd hx hb dX6_high_4 ?_
  refine he_top (10) (by decide) ?_
  refine lv_istore_n (lv' := [(3, .int 10), (0, .ref p0), (1, .int 3), (2, .int 1)]) hx hb dX6_high_5 rfl hl (by decide) rfl (fun ls hl => ?_)
  refine lv_iload_n hx hb dX6_high_6 rfl (lv_at hl 0 rfl) ?_
  refine lv_iconst (v := 0) hx hb dX6_high_7 (by decide) ?_
  refine va_gets hx hb hZ_hi hS hown f43 (fun _ h9 => h9) dX6_high_8 ?_
  refine va_tlen (v := 24) hx hb hT_hi hS (by decide) dX6_high_11 ?_
  refine lv_iconst (v := 1) hx hb dX6_high_12 (by decide) ?_
  refine lv_isub hx hb dX6_high_13 ?_
  refine he_top (23) (by decide) ?_
  refine he_ci (wc := []) (wr := [(oX6 p0 p1 p2 p3 p4 w)]) (va_runSN (As := [.int 10, .int 0, .int 23]) (rest := []) ⟨hx, hb, hml, hown, hts⟩ (c_X10_within l g 10 0 23 H.size) ⟨(va_cnB 3 hts gX6_high_X10_within_n39 rfl rfl rfl nl39 iniX10 (by decide +kernel) ⟨Nat.le_of_ble_eq_true rfl, Nat.le_of_ble_eq_true rfl⟩), st_yX10_within, trivial⟩ (he_preS (wc := []) hK hP hD hS hA hE [] rfl rfl) rfl rfl hl.1 rfl (lv_room (Nat.le_of_ble_eq_true rfl)) dX6_high_14 ⟨(Nat.le_of_ble_eq_true rfl), (Nat.le_of_ble_eq_true rfl)⟩) hP hD hS hA [] [0] rfl rfl rfl (by decide) (fun r_1 u_2 H locs h_3 hP hD hS => ?_)
  subst h_3
  have hP : va_P g.1 vwCl [(oX6 p0 p1 p2 p3 p4 w)] H := hP
  have hD : va_D A [(oX6 p0 p1 p2 p3 p4 w)] := hD
  refine he_top (1) (by decide) ?_
  refine lv_if_eq (tgt := 28) hx hb dX6_high_17 (by decide) (fun c_4 => ?_) (fun c_4 => ?_)
  · exact absurd c_4 (by decide)
  · refine va_gets hx hb hZ_hi hS hown f43 (fun _ h9 => h9) dX6_high_20 ?_
    refine lv_iload_n hx hb dX6_high_23 rfl (lv_at hl 0 rfl) ?_
    refine he_tald hx hb hT_hi hS (10) (by decide) (by decide) (by decide) (100) rfl dX6_high_24 ?_
    refine lv_goto (tgt := 29) hx hb dX6_high_25 (by decide) ?_
    exact he_ri hQ hx hb hr hlk hP hD hS dX6_high_29 (Nat.le_of_ble_eq_true rfl) (Nat.le_of_ble_eq_true rfl) (()) (rfl) (rfl)
set_option maxHeartbeats 4000000 in
set_option maxRecDepth 100000 in
theorem p_X6_numbers_4 (l : Launch) (g : he_G) (p0 : Nat) (p1 : Nat) (p2 : Nat) (p3 : Nat) (p4 : Nat) (w : Int32)  : he_I l yX6_numbers wsX6_numbers 1 22 0 0 g [.ref p0, .int 4] [(oX6 p0 p1 p2 p3 p4 w)] (fun (r : Int32) (u : Unit) => r = 3) (fun (u : Unit) => [(oX6 p0 p1 p2 p3 p4 w)]) := by
  refine he_begin (l := l) (g := g) (y := yX6_numbers) (wl := wsX6_numbers) (fr := 1) (lo := 22) (mc := 0) (ms := 0) (av := [.ref p0, .int 4]) (ws := [(oX6 p0 p1 p2 p3 p4 w)]) (cc := cX6_numbers) (maxL := 2) (ret := (some .int)) (fun A => va_Qi (fun (r : Int32) (u : Unit) => r = 3) (fun u t => he_post g A ((fun (u : Unit) => [(oX6 p0 p1 p2 p3 p4 w)]) u) t) A) (by decide) rfl (Nat.le_of_ble_eq_true rfl) ?_
  intro p e s m args below meth c A ls H locs Q hQ hB
  obtain ⟨hx, hb, hr, hml, hown, hts, hlk, hin, hP, hK, hD, hS, hA, hE, hl⟩ := hB
  have hl : lv_has ls 2 [(0, .ref p0), (1, .int 4)] := hl
  have f36 := hts (.fieldLink RX6 36 "HiredEnemy$Plan" "NUMBERS" "[I") (iwoX6_numbers (k := 0) rfl)
  obtain ⟨t_nu, hZ_nu, hT_nu⟩ := hE.2.1
  have nl39 := hE.nest (RX6, 39, yX10_within) (by decide +kernel)
  have iniX10 := hts (.initialized RX10) (iwoX6_numbers (k := 2) rfl)
  have st_yX10_within := hts (.static yX10_within) (iwoX6_numbers (k := 1) rfl)
  refine lv_iload_n hx hb dX6_numbers_0 rfl (lv_at hl 1 rfl) ?_
  refine lv_iconst (v := 0) hx hb dX6_numbers_1 (by decide) ?_
  refine va_gets hx hb hZ_nu hS hown f36 (fun _ h9 => h9) dX6_numbers_2 ?_
  refine va_tlen (v := 8) hx hb hT_nu hS (by decide) dX6_numbers_5 ?_
  refine lv_iconst (v := 1) hx hb dX6_numbers_6 (by decide) ?_
  refine lv_isub hx hb dX6_numbers_7 ?_
  refine he_top (7) (by decide) ?_
  refine he_ci (wc := []) (wr := [(oX6 p0 p1 p2 p3 p4 w)]) (va_runSN (As := [.int 4, .int 0, .int 7]) (rest := []) ⟨hx, hb, hml, hown, hts⟩ (c_X10_within l g 4 0 7 H.size) ⟨(va_cnB 3 hts gX6_numbers_X10_within_n39 rfl rfl rfl nl39 iniX10 (by decide +kernel) ⟨Nat.le_of_ble_eq_true rfl, Nat.le_of_ble_eq_true rfl⟩), st_yX10_within, trivial⟩ (he_preS (wc := []) hK hP hD hS hA hE [] rfl rfl) rfl rfl hl.1 rfl (lv_room (Nat.le_of_ble_eq_true rfl)) dX6_numbers_8 ⟨(Nat.le_of_ble_eq_true rfl), (Nat.le_of_ble_eq_true rfl)⟩) hP hD hS hA [] [0] rfl rfl rfl (by decide) (fun r_1 u_2 H locs h_3 hP hD hS => ?_)
  subst h_3
  have hP : va_P g.1 vwCl [(oX6 p0 p1 p2 p3 p4 w)] H := hP
  have hD : va_D A [(oX6 p0 p1 p2 p3 p4 w)] := hD
  refine he_top (1) (by decide) ?_
  refine lv_if_eq (tgt := 22) hx hb dX6_numbers_11 (by decide) (fun c_4 => ?_) (fun c_4 => ?_)
  · exact absurd c_4 (by decide)
  · refine va_gets hx hb hZ_nu hS hown f36 (fun _ h9 => h9) dX6_numbers_14 ?_
    refine lv_iload_n hx hb dX6_numbers_17 rfl (lv_at hl 1 rfl) ?_
    refine he_tald hx hb hT_nu hS (4) (by decide) (by decide) (by decide) (3) rfl dX6_numbers_18 ?_
    refine lv_goto (tgt := 23) hx hb dX6_numbers_19 (by decide) ?_
    exact he_ri hQ hx hb hr hlk hP hD hS dX6_numbers_23 (Nat.le_of_ble_eq_true rfl) (Nat.le_of_ble_eq_true rfl) (()) (rfl) (rfl)
set_option maxHeartbeats 4000000 in
set_option maxRecDepth 100000 in
theorem p_X6_low_4_0 (l : Launch) (g : he_G) (p0 : Nat) (p1 : Nat) (p2 : Nat) (p3 : Nat) (p4 : Nat) (w : Int32)  : he_I l yX6_low wsX6_low 0 0 0 0 g [.ref p0, .int 4, .int 0] [(oX6 p0 p1 p2 p3 p4 w)] (fun (r : Int32) (u : Unit) => r = 0) (fun (u : Unit) => [(oX6 p0 p1 p2 p3 p4 w)]) := by
  refine he_begin (l := l) (g := g) (y := yX6_low) (wl := wsX6_low) (fr := 0) (lo := 0) (mc := 0) (ms := 0) (av := [.ref p0, .int 4, .int 0]) (ws := [(oX6 p0 p1 p2 p3 p4 w)]) (cc := cX6_low) (maxL := 3) (ret := (some .int)) (fun A => va_Qi (fun (r : Int32) (u : Unit) => r = 0) (fun u t => he_post g A ((fun (u : Unit) => [(oX6 p0 p1 p2 p3 p4 w)]) u) t) A) (by decide) rfl (Nat.le_of_ble_eq_true rfl) ?_
  intro p e s m args below meth c A ls H locs Q hQ hB
  obtain ⟨hx, hb, hr, hml, hown, hts, hlk, hin, hP, hK, hD, hS, hA, hE, hl⟩ := hB
  have hl : lv_has ls 3 [(0, .ref p0), (1, .int 4), (2, .int 0)] := hl
  refine lv_iload_n hx hb dX6_low_0 rfl (lv_at hl 1 rfl) ?_
  refine lv_if_ne (tgt := 12) hx hb dX6_low_1 (by decide) (fun c_1 => ?_) (fun c_1 => ?_)
  · refine lv_iconst (v := 0) hx hb dX6_low_12 (by decide) ?_
    exact he_ri hQ hx hb hr hlk hP hD hS dX6_low_13 (Nat.le_of_ble_eq_true rfl) (Nat.le_of_ble_eq_true rfl) (()) (rfl) (rfl)
  · exact absurd c_1 (by decide)
set_option maxHeartbeats 4000000 in
set_option maxRecDepth 100000 in
theorem p_X6_high_4_0 (l : Launch) (g : he_G) (p0 : Nat) (p1 : Nat) (p2 : Nat) (p3 : Nat) (p4 : Nat) (w : Int32)  : he_I l yX6_high wsX6_high 1 22 0 0 g [.ref p0, .int 4, .int 0] [(oX6 p0 p1 p2 p3 p4 w)] (fun (r : Int32) (u : Unit) => r = 100) (fun (u : Unit) => [(oX6 p0 p1 p2 p3 p4 w)]) := by
  refine he_begin (l := l) (g := g) (y := yX6_high) (wl := wsX6_high) (fr := 1) (lo := 22) (mc := 0) (ms := 0) (av := [.ref p0, .int 4, .int 0]) (ws := [(oX6 p0 p1 p2 p3 p4 w)]) (cc := cX6_high) (maxL := 4) (ret := (some .int)) (fun A => va_Qi (fun (r : Int32) (u : Unit) => r = 100) (fun u t => he_post g A ((fun (u : Unit) => [(oX6 p0 p1 p2 p3 p4 w)]) u) t) A) (by decide) rfl (Nat.le_of_ble_eq_true rfl) ?_
  intro p e s m args below meth c A ls H locs Q hQ hB
  obtain ⟨hx, hb, hr, hml, hown, hts, hlk, hin, hP, hK, hD, hS, hA, hE, hl⟩ := hB
  have hl : lv_has ls 4 [(0, .ref p0), (1, .int 4), (2, .int 0)] := hl
  have f43 := hts (.fieldLink RX6 43 "HiredEnemy$Plan" "HIGH" "[I") (iwoX6_high (k := 0) rfl)
  obtain ⟨t_hi, hZ_hi, hT_hi⟩ := hE.2.2.1
  have nl39 := hE.nest (RX6, 39, yX10_within) (by decide +kernel)
  have iniX10 := hts (.initialized RX10) (iwoX6_high (k := 2) rfl)
  have st_yX10_within := hts (.static yX10_within) (iwoX6_high (k := 1) rfl)
  refine lv_iload_n hx hb dX6_high_0 rfl (lv_at hl 1 rfl) ?_
  refine lv_iconst (v := 3) hx hb dX6_high_1 (by decide) ?_
  refine lv_imul hx hb dX6_high_2 ?_
  refine he_top (12) (by decide) ?_
  refine lv_iload_n hx hb dX6_high_3 rfl (lv_at hl 2 rfl) ?_
  refine lv_iadd hx hb dX6_high_4 ?_
  refine he_top (12) (by decide) ?_
  refine lv_istore_n (lv' := [(3, .int 12), (0, .ref p0), (1, .int 4), (2, .int 0)]) hx hb dX6_high_5 rfl hl (by decide) rfl (fun ls hl => ?_)
  refine lv_iload_n hx hb dX6_high_6 rfl (lv_at hl 0 rfl) ?_
  refine lv_iconst (v := 0) hx hb dX6_high_7 (by decide) ?_
  refine va_gets hx hb hZ_hi hS hown f43 (fun _ h9 => h9) dX6_high_8 ?_
  refine va_tlen (v := 24) hx hb hT_hi hS (by decide) dX6_high_11 ?_
  refine lv_iconst (v := 1) hx hb dX6_high_12 (by decide) ?_
  refine lv_isub hx hb dX6_high_13 ?_
  refine he_top (23) (by decide) ?_
  refine he_ci (wc := []) (wr := [(oX6 p0 p1 p2 p3 p4 w)]) (va_runSN (As := [.int 12, .int 0, .int 23]) (rest := []) ⟨hx, hb, hml, hown, hts⟩ (c_X10_within l g 12 0 23 H.size) ⟨(va_cnB 3 hts gX6_high_X10_within_n39 rfl rfl rfl nl39 iniX10 (by decide +kernel) ⟨Nat.le_of_ble_eq_true rfl, Nat.le_of_ble_eq_true rfl⟩), st_yX10_within, trivial⟩ (he_preS (wc := []) hK hP hD hS hA hE [] rfl rfl) rfl rfl hl.1 rfl (lv_room (Nat.le_of_ble_eq_true rfl)) dX6_high_14 ⟨(Nat.le_of_ble_eq_true rfl), (Nat.le_of_ble_eq_true rfl)⟩) hP hD hS hA [] [0] rfl rfl rfl (by decide) (fun r_1 u_2 H locs h_3 hP hD hS => ?_)
  subst h_3
  have hP : va_P g.1 vwCl [(oX6 p0 p1 p2 p3 p4 w)] H := hP
  have hD : va_D A [(oX6 p0 p1 p2 p3 p4 w)] := hD
  refine he_top (1) (by decide) ?_
  refine lv_if_eq (tgt := 28) hx hb dX6_high_17 (by decide) (fun c_4 => ?_) (fun c_4 => ?_)
  · exact absurd c_4 (by decide)
  · refine va_gets hx hb hZ_hi hS hown f43 (fun _ h9 => h9) dX6_high_20 ?_
    refine lv_iload_n hx hb dX6_high_23 rfl (lv_at hl 0 rfl) ?_
    refine he_tald hx hb hT_hi hS (12) (by decide) (by decide) (by decide) (100) rfl dX6_high_24 ?_
    refine lv_goto (tgt := 29) hx hb dX6_high_25 (by decide) ?_
    exact he_ri hQ hx hb hr hlk hP hD hS dX6_high_29 (Nat.le_of_ble_eq_true rfl) (Nat.le_of_ble_eq_true rfl) (()) (rfl) (rfl)
set_option maxHeartbeats 4000000 in
set_option maxRecDepth 100000 in
theorem p_X6_low_4_1 (l : Launch) (g : he_G) (p0 : Nat) (p1 : Nat) (p2 : Nat) (p3 : Nat) (p4 : Nat) (w : Int32)  : he_I l yX6_low wsX6_low 0 0 0 0 g [.ref p0, .int 4, .int 1] [(oX6 p0 p1 p2 p3 p4 w)] (fun (r : Int32) (u : Unit) => r = 0) (fun (u : Unit) => [(oX6 p0 p1 p2 p3 p4 w)]) := by
  refine he_begin (l := l) (g := g) (y := yX6_low) (wl := wsX6_low) (fr := 0) (lo := 0) (mc := 0) (ms := 0) (av := [.ref p0, .int 4, .int 1]) (ws := [(oX6 p0 p1 p2 p3 p4 w)]) (cc := cX6_low) (maxL := 3) (ret := (some .int)) (fun A => va_Qi (fun (r : Int32) (u : Unit) => r = 0) (fun u t => he_post g A ((fun (u : Unit) => [(oX6 p0 p1 p2 p3 p4 w)]) u) t) A) (by decide) rfl (Nat.le_of_ble_eq_true rfl) ?_
  intro p e s m args below meth c A ls H locs Q hQ hB
  obtain ⟨hx, hb, hr, hml, hown, hts, hlk, hin, hP, hK, hD, hS, hA, hE, hl⟩ := hB
  have hl : lv_has ls 3 [(0, .ref p0), (1, .int 4), (2, .int 1)] := hl
  refine lv_iload_n hx hb dX6_low_0 rfl (lv_at hl 1 rfl) ?_
  refine lv_if_ne (tgt := 12) hx hb dX6_low_1 (by decide) (fun c_1 => ?_) (fun c_1 => ?_)
  · refine lv_iconst (v := 0) hx hb dX6_low_12 (by decide) ?_
    exact he_ri hQ hx hb hr hlk hP hD hS dX6_low_13 (Nat.le_of_ble_eq_true rfl) (Nat.le_of_ble_eq_true rfl) (()) (rfl) (rfl)
  · exact absurd c_1 (by decide)
set_option maxHeartbeats 4000000 in
set_option maxRecDepth 100000 in
theorem p_X6_high_4_1 (l : Launch) (g : he_G) (p0 : Nat) (p1 : Nat) (p2 : Nat) (p3 : Nat) (p4 : Nat) (w : Int32)  : he_I l yX6_high wsX6_high 1 22 0 0 g [.ref p0, .int 4, .int 1] [(oX6 p0 p1 p2 p3 p4 w)] (fun (r : Int32) (u : Unit) => r = 50) (fun (u : Unit) => [(oX6 p0 p1 p2 p3 p4 w)]) := by
  refine he_begin (l := l) (g := g) (y := yX6_high) (wl := wsX6_high) (fr := 1) (lo := 22) (mc := 0) (ms := 0) (av := [.ref p0, .int 4, .int 1]) (ws := [(oX6 p0 p1 p2 p3 p4 w)]) (cc := cX6_high) (maxL := 4) (ret := (some .int)) (fun A => va_Qi (fun (r : Int32) (u : Unit) => r = 50) (fun u t => he_post g A ((fun (u : Unit) => [(oX6 p0 p1 p2 p3 p4 w)]) u) t) A) (by decide) rfl (Nat.le_of_ble_eq_true rfl) ?_
  intro p e s m args below meth c A ls H locs Q hQ hB
  obtain ⟨hx, hb, hr, hml, hown, hts, hlk, hin, hP, hK, hD, hS, hA, hE, hl⟩ := hB
  have hl : lv_has ls 4 [(0, .ref p0), (1, .int 4), (2, .int 1)] := hl
  have f43 := hts (.fieldLink RX6 43 "HiredEnemy$Plan" "HIGH" "[I") (iwoX6_high (k := 0) rfl)
  obtain ⟨t_hi, hZ_hi, hT_hi⟩ := hE.2.2.1
  have nl39 := hE.nest (RX6, 39, yX10_within) (by decide +kernel)
  have iniX10 := hts (.initialized RX10) (iwoX6_high (k := 2) rfl)
  have st_yX10_within := hts (.static yX10_within) (iwoX6_high (k := 1) rfl)
  refine lv_iload_n hx hb dX6_high_0 rfl (lv_at hl 1 rfl) ?_
  refine lv_iconst (v := 3) hx hb dX6_high_1 (by decide) ?_
  refine lv_imul hx hb dX6_high_2 ?_
  refine he_top (12) (by decide) ?_
  refine lv_iload_n hx hb dX6_high_3 rfl (lv_at hl 2 rfl) ?_
  refine lv_iadd hx hb dX6_high_4 ?_
  refine he_top (13) (by decide) ?_
  refine lv_istore_n (lv' := [(3, .int 13), (0, .ref p0), (1, .int 4), (2, .int 1)]) hx hb dX6_high_5 rfl hl (by decide) rfl (fun ls hl => ?_)
  refine lv_iload_n hx hb dX6_high_6 rfl (lv_at hl 0 rfl) ?_
  refine lv_iconst (v := 0) hx hb dX6_high_7 (by decide) ?_
  refine va_gets hx hb hZ_hi hS hown f43 (fun _ h9 => h9) dX6_high_8 ?_
  refine va_tlen (v := 24) hx hb hT_hi hS (by decide) dX6_high_11 ?_
  refine lv_iconst (v := 1) hx hb dX6_high_12 (by decide) ?_
  refine lv_isub hx hb dX6_high_13 ?_
  refine he_top (23) (by decide) ?_
  refine he_ci (wc := []) (wr := [(oX6 p0 p1 p2 p3 p4 w)]) (va_runSN (As := [.int 13, .int 0, .int 23]) (rest := []) ⟨hx, hb, hml, hown, hts⟩ (c_X10_within l g 13 0 23 H.size) ⟨(va_cnB 3 hts gX6_high_X10_within_n39 rfl rfl rfl nl39 iniX10 (by decide +kernel) ⟨Nat.le_of_ble_eq_true rfl, Nat.le_of_ble_eq_true rfl⟩), st_yX10_within, trivial⟩ (he_preS (wc := []) hK hP hD hS hA hE [] rfl rfl) rfl rfl hl.1 rfl (lv_room (Nat.le_of_ble_eq_true rfl)) dX6_high_14 ⟨(Nat.le_of_ble_eq_true rfl), (Nat.le_of_ble_eq_true rfl)⟩) hP hD hS hA [] [0] rfl rfl rfl (by decide) (fun r_1 u_2 H locs h_3 hP hD hS => ?_)
  subst h_3
  have hP : va_P g.1 vwCl [(oX6 p0 p1 p2 p3 p4 w)] H := hP
  have hD : va_D A [(oX6 p0 p1 p2 p3 p4 w)] := hD
  refine he_top (1) (by decide) ?_
  refine lv_if_eq (tgt := 28) hx hb dX6_high_17 (by decide) (fun c_4 => ?_) (fun c_4 => ?_)
  · exact absurd c_4 (by decide)
  · refine va_gets hx hb hZ_hi hS hown f43 (fun _ h9 => h9) dX6_high_20 ?_
    refine lv_iload_n hx hb dX6_high_23 rfl (lv_at hl 0 rfl) ?_
    refine he_tald hx hb hT_hi hS (13) (by decide) (by decide) (by decide) (50) rfl dX6_high_24 ?_
    refine lv_goto (tgt := 29) hx hb dX6_high_25 (by decide) ?_
    exact he_ri hQ hx hb hr hlk hP hD hS dX6_high_29 (Nat.le_of_ble_eq_true rfl) (Nat.le_of_ble_eq_true rfl) (()) (rfl) (rfl)
set_option maxHeartbeats 4000000 in
set_option maxRecDepth 100000 in
theorem p_X6_low_4_2 (l : Launch) (g : he_G) (p0 : Nat) (p1 : Nat) (p2 : Nat) (p3 : Nat) (p4 : Nat) (w : Int32)  : he_I l yX6_low wsX6_low 0 0 0 0 g [.ref p0, .int 4, .int 2] [(oX6 p0 p1 p2 p3 p4 w)] (fun (r : Int32) (u : Unit) => r = 0) (fun (u : Unit) => [(oX6 p0 p1 p2 p3 p4 w)]) := by
  refine he_begin (l := l) (g := g) (y := yX6_low) (wl := wsX6_low) (fr := 0) (lo := 0) (mc := 0) (ms := 0) (av := [.ref p0, .int 4, .int 2]) (ws := [(oX6 p0 p1 p2 p3 p4 w)]) (cc := cX6_low) (maxL := 3) (ret := (some .int)) (fun A => va_Qi (fun (r : Int32) (u : Unit) => r = 0) (fun u t => he_post g A ((fun (u : Unit) => [(oX6 p0 p1 p2 p3 p4 w)]) u) t) A) (by decide) rfl (Nat.le_of_ble_eq_true rfl) ?_
  intro p e s m args below meth c A ls H locs Q hQ hB
  obtain ⟨hx, hb, hr, hml, hown, hts, hlk, hin, hP, hK, hD, hS, hA, hE, hl⟩ := hB
  have hl : lv_has ls 3 [(0, .ref p0), (1, .int 4), (2, .int 2)] := hl
  refine lv_iload_n hx hb dX6_low_0 rfl (lv_at hl 1 rfl) ?_
  refine lv_if_ne (tgt := 12) hx hb dX6_low_1 (by decide) (fun c_1 => ?_) (fun c_1 => ?_)
  · refine lv_iconst (v := 0) hx hb dX6_low_12 (by decide) ?_
    exact he_ri hQ hx hb hr hlk hP hD hS dX6_low_13 (Nat.le_of_ble_eq_true rfl) (Nat.le_of_ble_eq_true rfl) (()) (rfl) (rfl)
  · exact absurd c_1 (by decide)
set_option maxHeartbeats 4000000 in
set_option maxRecDepth 100000 in
theorem p_X6_high_4_2 (l : Launch) (g : he_G) (p0 : Nat) (p1 : Nat) (p2 : Nat) (p3 : Nat) (p4 : Nat) (w : Int32)  : he_I l yX6_high wsX6_high 1 22 0 0 g [.ref p0, .int 4, .int 2] [(oX6 p0 p1 p2 p3 p4 w)] (fun (r : Int32) (u : Unit) => r = 50) (fun (u : Unit) => [(oX6 p0 p1 p2 p3 p4 w)]) := by
  refine he_begin (l := l) (g := g) (y := yX6_high) (wl := wsX6_high) (fr := 1) (lo := 22) (mc := 0) (ms := 0) (av := [.ref p0, .int 4, .int 2]) (ws := [(oX6 p0 p1 p2 p3 p4 w)]) (cc := cX6_high) (maxL := 4) (ret := (some .int)) (fun A => va_Qi (fun (r : Int32) (u : Unit) => r = 50) (fun u t => he_post g A ((fun (u : Unit) => [(oX6 p0 p1 p2 p3 p4 w)]) u) t) A) (by decide) rfl (Nat.le_of_ble_eq_true rfl) ?_
  intro p e s m args below meth c A ls H locs Q hQ hB
  obtain ⟨hx, hb, hr, hml, hown, hts, hlk, hin, hP, hK, hD, hS, hA, hE, hl⟩ := hB
  have hl : lv_has ls 4 [(0, .ref p0), (1, .int 4), (2, .int 2)] := hl
  have f43 := hts (.fieldLink RX6 43 "HiredEnemy$Plan" "HIGH" "[I") (iwoX6_high (k := 0) rfl)
  obtain ⟨t_hi, hZ_hi, hT_hi⟩ := hE.2.2.1
  have nl39 := hE.nest (RX6, 39, yX10_within) (by decide +kernel)
  have iniX10 := hts (.initialized RX10) (iwoX6_high (k := 2) rfl)
  have st_yX10_within := hts (.static yX10_within) (iwoX6_high (k := 1) rfl)
  refine lv_iload_n hx hb dX6_high_0 rfl (lv_at hl 1 rfl) ?_
  refine lv_iconst (v := 3) hx hb dX6_high_1 (by decide) ?_
  refine lv_imul hx hb dX6_high_2 ?_
  refine he_top (12) (by decide) ?_
  refine lv_iload_n hx hb dX6_high_3 rfl (lv_at hl 2 rfl) ?_
  refine lv_iadd hx hb dX6_high_4 ?_
  refine he_top (14) (by decide) ?_
  refine lv_istore_n (lv' := [(3, .int 14), (0, .ref p0), (1, .int 4), (2, .int 2)]) hx hb dX6_high_5 rfl hl (by decide) rfl (fun ls hl => ?_)
  refine lv_iload_n hx hb dX6_high_6 rfl (lv_at hl 0 rfl) ?_
  refine lv_iconst (v := 0) hx hb dX6_high_7 (by decide) ?_
  refine va_gets hx hb hZ_hi hS hown f43 (fun _ h9 => h9) dX6_high_8 ?_
  refine va_tlen (v := 24) hx hb hT_hi hS (by decide) dX6_high_11 ?_
  refine lv_iconst (v := 1) hx hb dX6_high_12 (by decide) ?_
  refine lv_isub hx hb dX6_high_13 ?_
  refine he_top (23) (by decide) ?_
  refine he_ci (wc := []) (wr := [(oX6 p0 p1 p2 p3 p4 w)]) (va_runSN (As := [.int 14, .int 0, .int 23]) (rest := []) ⟨hx, hb, hml, hown, hts⟩ (c_X10_within l g 14 0 23 H.size) ⟨(va_cnB 3 hts gX6_high_X10_within_n39 rfl rfl rfl nl39 iniX10 (by decide +kernel) ⟨Nat.le_of_ble_eq_true rfl, Nat.le_of_ble_eq_true rfl⟩), st_yX10_within, trivial⟩ (he_preS (wc := []) hK hP hD hS hA hE [] rfl rfl) rfl rfl hl.1 rfl (lv_room (Nat.le_of_ble_eq_true rfl)) dX6_high_14 ⟨(Nat.le_of_ble_eq_true rfl), (Nat.le_of_ble_eq_true rfl)⟩) hP hD hS hA [] [0] rfl rfl rfl (by decide) (fun r_1 u_2 H locs h_3 hP hD hS => ?_)
  subst h_3
  have hP : va_P g.1 vwCl [(oX6 p0 p1 p2 p3 p4 w)] H := hP
  have hD : va_D A [(oX6 p0 p1 p2 p3 p4 w)] := hD
  refine he_top (1) (by decide) ?_
  refine lv_if_eq (tgt := 28) hx hb dX6_high_17 (by decide) (fun c_4 => ?_) (fun c_4 => ?_)
  · exact absurd c_4 (by decide)
  · refine va_gets hx hb hZ_hi hS hown f43 (fun _ h9 => h9) dX6_high_20 ?_
    refine lv_iload_n hx hb dX6_high_23 rfl (lv_at hl 0 rfl) ?_
    refine he_tald hx hb hT_hi hS (14) (by decide) (by decide) (by decide) (50) rfl dX6_high_24 ?_
    refine lv_goto (tgt := 29) hx hb dX6_high_25 (by decide) ?_
    exact he_ri hQ hx hb hr hlk hP hD hS dX6_high_29 (Nat.le_of_ble_eq_true rfl) (Nat.le_of_ble_eq_true rfl) (()) (rfl) (rfl)
set_option maxHeartbeats 4000000 in
set_option maxRecDepth 100000 in
theorem p_X6_numbers_5 (l : Launch) (g : he_G) (p0 : Nat) (p1 : Nat) (p2 : Nat) (p3 : Nat) (p4 : Nat) (w : Int32)  : he_I l yX6_numbers wsX6_numbers 1 22 0 0 g [.ref p0, .int 5] [(oX6 p0 p1 p2 p3 p4 w)] (fun (r : Int32) (u : Unit) => r = 2) (fun (u : Unit) => [(oX6 p0 p1 p2 p3 p4 w)]) := by
  refine he_begin (l := l) (g := g) (y := yX6_numbers) (wl := wsX6_numbers) (fr := 1) (lo := 22) (mc := 0) (ms := 0) (av := [.ref p0, .int 5]) (ws := [(oX6 p0 p1 p2 p3 p4 w)]) (cc := cX6_numbers) (maxL := 2) (ret := (some .int)) (fun A => va_Qi (fun (r : Int32) (u : Unit) => r = 2) (fun u t => he_post g A ((fun (u : Unit) => [(oX6 p0 p1 p2 p3 p4 w)]) u) t) A) (by decide) rfl (Nat.le_of_ble_eq_true rfl) ?_
  intro p e s m args below meth c A ls H locs Q hQ hB
  obtain ⟨hx, hb, hr, hml, hown, hts, hlk, hin, hP, hK, hD, hS, hA, hE, hl⟩ := hB
  have hl : lv_has ls 2 [(0, .ref p0), (1, .int 5)] := hl
  have f36 := hts (.fieldLink RX6 36 "HiredEnemy$Plan" "NUMBERS" "[I") (iwoX6_numbers (k := 0) rfl)
  obtain ⟨t_nu, hZ_nu, hT_nu⟩ := hE.2.1
  have nl39 := hE.nest (RX6, 39, yX10_within) (by decide +kernel)
  have iniX10 := hts (.initialized RX10) (iwoX6_numbers (k := 2) rfl)
  have st_yX10_within := hts (.static yX10_within) (iwoX6_numbers (k := 1) rfl)
  refine lv_iload_n hx hb dX6_numbers_0 rfl (lv_at hl 1 rfl) ?_
  refine lv_iconst (v := 0) hx hb dX6_numbers_1 (by decide) ?_
  refine va_gets hx hb hZ_nu hS hown f36 (fun _ h9 => h9) dX6_numbers_2 ?_
  refine va_tlen (v := 8) hx hb hT_nu hS (by decide) dX6_numbers_5 ?_
  refine lv_iconst (v := 1) hx hb dX6_numbers_6 (by decide) ?_
  refine lv_isub hx hb dX6_numbers_7 ?_
  refine he_top (7) (by decide) ?_
  refine he_ci (wc := []) (wr := [(oX6 p0 p1 p2 p3 p4 w)]) (va_runSN (As := [.int 5, .int 0, .int 7]) (rest := []) ⟨hx, hb, hml, hown, hts⟩ (c_X10_within l g 5 0 7 H.size) ⟨(va_cnB 3 hts gX6_numbers_X10_within_n39 rfl rfl rfl nl39 iniX10 (by decide +kernel) ⟨Nat.le_of_ble_eq_true rfl, Nat.le_of_ble_eq_true rfl⟩), st_yX10_within, trivial⟩ (he_preS (wc := []) hK hP hD hS hA hE [] rfl rfl) rfl rfl hl.1 rfl (lv_room (Nat.le_of_ble_eq_true rfl)) dX6_numbers_8 ⟨(Nat.le_of_ble_eq_true rfl), (Nat.le_of_ble_eq_true rfl)⟩) hP hD hS hA [] [0] rfl rfl rfl (by decide) (fun r_1 u_2 H locs h_3 hP hD hS => ?_)
  subst h_3
  have hP : va_P g.1 vwCl [(oX6 p0 p1 p2 p3 p4 w)] H := hP
  have hD : va_D A [(oX6 p0 p1 p2 p3 p4 w)] := hD
  refine he_top (1) (by decide) ?_
  refine lv_if_eq (tgt := 22) hx hb dX6_numbers_11 (by decide) (fun c_4 => ?_) (fun c_4 => ?_)
  · exact absurd c_4 (by decide)
  · refine va_gets hx hb hZ_nu hS hown f36 (fun _ h9 => h9) dX6_numbers_14 ?_
    refine lv_iload_n hx hb dX6_numbers_17 rfl (lv_at hl 1 rfl) ?_
    refine he_tald hx hb hT_nu hS (5) (by decide) (by decide) (by decide) (2) rfl dX6_numbers_18 ?_
    refine lv_goto (tgt := 23) hx hb dX6_numbers_19 (by decide) ?_
    exact he_ri hQ hx hb hr hlk hP hD hS dX6_numbers_23 (Nat.le_of_ble_eq_true rfl) (Nat.le_of_ble_eq_true rfl) (()) (rfl) (rfl)
set_option maxHeartbeats 4000000 in
set_option maxRecDepth 100000 in
theorem p_X6_low_5_0 (l : Launch) (g : he_G) (p0 : Nat) (p1 : Nat) (p2 : Nat) (p3 : Nat) (p4 : Nat) (w : Int32)  : he_I l yX6_low wsX6_low 0 0 0 0 g [.ref p0, .int 5, .int 0] [(oX6 p0 p1 p2 p3 p4 w)] (fun (r : Int32) (u : Unit) => r = 0) (fun (u : Unit) => [(oX6 p0 p1 p2 p3 p4 w)]) := by
  refine he_begin (l := l) (g := g) (y := yX6_low) (wl := wsX6_low) (fr := 0) (lo := 0) (mc := 0) (ms := 0) (av := [.ref p0, .int 5, .int 0]) (ws := [(oX6 p0 p1 p2 p3 p4 w)]) (cc := cX6_low) (maxL := 3) (ret := (some .int)) (fun A => va_Qi (fun (r : Int32) (u : Unit) => r = 0) (fun u t => he_post g A ((fun (u : Unit) => [(oX6 p0 p1 p2 p3 p4 w)]) u) t) A) (by decide) rfl (Nat.le_of_ble_eq_true rfl) ?_
  intro p e s m args below meth c A ls H locs Q hQ hB
  obtain ⟨hx, hb, hr, hml, hown, hts, hlk, hin, hP, hK, hD, hS, hA, hE, hl⟩ := hB
  have hl : lv_has ls 3 [(0, .ref p0), (1, .int 5), (2, .int 0)] := hl
  refine lv_iload_n hx hb dX6_low_0 rfl (lv_at hl 1 rfl) ?_
  refine lv_if_ne (tgt := 12) hx hb dX6_low_1 (by decide) (fun c_1 => ?_) (fun c_1 => ?_)
  · refine lv_iconst (v := 0) hx hb dX6_low_12 (by decide) ?_
    exact he_ri hQ hx hb hr hlk hP hD hS dX6_low_13 (Nat.le_of_ble_eq_true rfl) (Nat.le_of_ble_eq_true rfl) (()) (rfl) (rfl)
  · exact absurd c_1 (by decide)
set_option maxHeartbeats 4000000 in
set_option maxRecDepth 100000 in
theorem p_X6_high_5_0 (l : Launch) (g : he_G) (p0 : Nat) (p1 : Nat) (p2 : Nat) (p3 : Nat) (p4 : Nat) (w : Int32)  : he_I l yX6_high wsX6_high 1 22 0 0 g [.ref p0, .int 5, .int 0] [(oX6 p0 p1 p2 p3 p4 w)] (fun (r : Int32) (u : Unit) => r = 9) (fun (u : Unit) => [(oX6 p0 p1 p2 p3 p4 w)]) := by
  refine he_begin (l := l) (g := g) (y := yX6_high) (wl := wsX6_high) (fr := 1) (lo := 22) (mc := 0) (ms := 0) (av := [.ref p0, .int 5, .int 0]) (ws := [(oX6 p0 p1 p2 p3 p4 w)]) (cc := cX6_high) (maxL := 4) (ret := (some .int)) (fun A => va_Qi (fun (r : Int32) (u : Unit) => r = 9) (fun u t => he_post g A ((fun (u : Unit) => [(oX6 p0 p1 p2 p3 p4 w)]) u) t) A) (by decide) rfl (Nat.le_of_ble_eq_true rfl) ?_
  intro p e s m args below meth c A ls H locs Q hQ hB
  obtain ⟨hx, hb, hr, hml, hown, hts, hlk, hin, hP, hK, hD, hS, hA, hE, hl⟩ := hB
  have hl : lv_has ls 4 [(0, .ref p0), (1, .int 5), (2, .int 0)] := hl
  have f43 := hts (.fieldLink RX6 43 "HiredEnemy$Plan" "HIGH" "[I") (iwoX6_high (k := 0) rfl)
  obtain ⟨t_hi, hZ_hi, hT_hi⟩ := hE.2.2.1
  have nl39 := hE.nest (RX6, 39, yX10_within) (by decide +kernel)
  have iniX10 := hts (.initialized RX10) (iwoX6_high (k := 2) rfl)
  have st_yX10_within := hts (.static yX10_within) (iwoX6_high (k := 1) rfl)
  refine lv_iload_n hx hb dX6_high_0 rfl (lv_at hl 1 rfl) ?_
  refine lv_iconst (v := 3) hx hb dX6_high_1 (by decide) ?_
  refine lv_imul hx hb dX6_high_2 ?_
  refine he_top (15) (by decide) ?_
  refine lv_iload_n hx hb dX6_high_3 rfl (lv_at hl 2 rfl) ?_
  refine lv_iadd hx hb dX6_high_4 ?_
  refine he_top (15) (by decide) ?_
  refine lv_istore_n (lv' := [(3, .int 15), (0, .ref p0), (1, .int 5), (2, .int 0)]) hx hb dX6_high_5 rfl hl (by decide) rfl (fun ls hl => ?_)
  refine lv_iload_n hx hb dX6_high_6 rfl (lv_at hl 0 rfl) ?_
  refine lv_iconst (v := 0) hx hb dX6_high_7 (by decide) ?_
  refine va_gets hx hb hZ_hi hS hown f43 (fun _ h9 => h9) dX6_high_8 ?_
  refine va_tlen (v := 24) hx hb hT_hi hS (by decide) dX6_high_11 ?_
  refine lv_iconst (v := 1) hx hb dX6_high_12 (by decide) ?_
  refine lv_isub hx hb dX6_high_13 ?_
  refine he_top (23) (by decide) ?_
  refine he_ci (wc := []) (wr := [(oX6 p0 p1 p2 p3 p4 w)]) (va_runSN (As := [.int 15, .int 0, .int 23]) (rest := []) ⟨hx, hb, hml, hown, hts⟩ (c_X10_within l g 15 0 23 H.size) ⟨(va_cnB 3 hts gX6_high_X10_within_n39 rfl rfl rfl nl39 iniX10 (by decide +kernel) ⟨Nat.le_of_ble_eq_true rfl, Nat.le_of_ble_eq_true rfl⟩), st_yX10_within, trivial⟩ (he_preS (wc := []) hK hP hD hS hA hE [] rfl rfl) rfl rfl hl.1 rfl (lv_room (Nat.le_of_ble_eq_true rfl)) dX6_high_14 ⟨(Nat.le_of_ble_eq_true rfl), (Nat.le_of_ble_eq_true rfl)⟩) hP hD hS hA [] [0] rfl rfl rfl (by decide) (fun r_1 u_2 H locs h_3 hP hD hS => ?_)
  subst h_3
  have hP : va_P g.1 vwCl [(oX6 p0 p1 p2 p3 p4 w)] H := hP
  have hD : va_D A [(oX6 p0 p1 p2 p3 p4 w)] := hD
  refine he_top (1) (by decide) ?_
  refine lv_if_eq (tgt := 28) hx hb dX6_high_17 (by decide) (fun c_4 => ?_) (fun c_4 => ?_)
  · exact absurd c_4 (by decide)
  · refine va_gets hx hb hZ_hi hS hown f43 (fun _ h9 => h9) dX6_high_20 ?_
    refine lv_iload_n hx hb dX6_high_23 rfl (lv_at hl 0 rfl) ?_
    refine he_tald hx hb hT_hi hS (15) (by decide) (by decide) (by decide) (9) rfl dX6_high_24 ?_
    refine lv_goto (tgt := 29) hx hb dX6_high_25 (by decide) ?_
    exact he_ri hQ hx hb hr hlk hP hD hS dX6_high_29 (Nat.le_of_ble_eq_true rfl) (Nat.le_of_ble_eq_true rfl) (()) (rfl) (rfl)
set_option maxHeartbeats 4000000 in
set_option maxRecDepth 100000 in
theorem p_X6_low_5_1 (l : Launch) (g : he_G) (p0 : Nat) (p1 : Nat) (p2 : Nat) (p3 : Nat) (p4 : Nat) (w : Int32)  : he_I l yX6_low wsX6_low 0 0 0 0 g [.ref p0, .int 5, .int 1] [(oX6 p0 p1 p2 p3 p4 w)] (fun (r : Int32) (u : Unit) => r = 0) (fun (u : Unit) => [(oX6 p0 p1 p2 p3 p4 w)]) := by
  refine he_begin (l := l) (g := g) (y := yX6_low) (wl := wsX6_low) (fr := 0) (lo := 0) (mc := 0) (ms := 0) (av := [.ref p0, .int 5, .int 1]) (ws := [(oX6 p0 p1 p2 p3 p4 w)]) (cc := cX6_low) (maxL := 3) (ret := (some .int)) (fun A => va_Qi (fun (r : Int32) (u : Unit) => r = 0) (fun u t => he_post g A ((fun (u : Unit) => [(oX6 p0 p1 p2 p3 p4 w)]) u) t) A) (by decide) rfl (Nat.le_of_ble_eq_true rfl) ?_
  intro p e s m args below meth c A ls H locs Q hQ hB
  obtain ⟨hx, hb, hr, hml, hown, hts, hlk, hin, hP, hK, hD, hS, hA, hE, hl⟩ := hB
  have hl : lv_has ls 3 [(0, .ref p0), (1, .int 5), (2, .int 1)] := hl
  refine lv_iload_n hx hb dX6_low_0 rfl (lv_at hl 1 rfl) ?_
  refine lv_if_ne (tgt := 12) hx hb dX6_low_1 (by decide) (fun c_1 => ?_) (fun c_1 => ?_)
  · refine lv_iconst (v := 0) hx hb dX6_low_12 (by decide) ?_
    exact he_ri hQ hx hb hr hlk hP hD hS dX6_low_13 (Nat.le_of_ble_eq_true rfl) (Nat.le_of_ble_eq_true rfl) (()) (rfl) (rfl)
  · exact absurd c_1 (by decide)
set_option maxHeartbeats 4000000 in
set_option maxRecDepth 100000 in
theorem p_X6_high_5_1 (l : Launch) (g : he_G) (p0 : Nat) (p1 : Nat) (p2 : Nat) (p3 : Nat) (p4 : Nat) (w : Int32)  : he_I l yX6_high wsX6_high 1 22 0 0 g [.ref p0, .int 5, .int 1] [(oX6 p0 p1 p2 p3 p4 w)] (fun (r : Int32) (u : Unit) => r = 20) (fun (u : Unit) => [(oX6 p0 p1 p2 p3 p4 w)]) := by
  refine he_begin (l := l) (g := g) (y := yX6_high) (wl := wsX6_high) (fr := 1) (lo := 22) (mc := 0) (ms := 0) (av := [.ref p0, .int 5, .int 1]) (ws := [(oX6 p0 p1 p2 p3 p4 w)]) (cc := cX6_high) (maxL := 4) (ret := (some .int)) (fun A => va_Qi (fun (r : Int32) (u : Unit) => r = 20) (fun u t => he_post g A ((fun (u : Unit) => [(oX6 p0 p1 p2 p3 p4 w)]) u) t) A) (by decide) rfl (Nat.le_of_ble_eq_true rfl) ?_
  intro p e s m args below meth c A ls H locs Q hQ hB
  obtain ⟨hx, hb, hr, hml, hown, hts, hlk, hin, hP, hK, hD, hS, hA, hE, hl⟩ := hB
  have hl : lv_has ls 4 [(0, .ref p0), (1, .int 5), (2, .int 1)] := hl
  have f43 := hts (.fieldLink RX6 43 "HiredEnemy$Plan" "HIGH" "[I") (iwoX6_high (k := 0) rfl)
  obtain ⟨t_hi, hZ_hi, hT_hi⟩ := hE.2.2.1
  have nl39 := hE.nest (RX6, 39, yX10_within) (by decide +kernel)
  have iniX10 := hts (.initialized RX10) (iwoX6_high (k := 2) rfl)
  have st_yX10_within := hts (.static yX10_within) (iwoX6_high (k := 1) rfl)
  refine lv_iload_n hx hb dX6_high_0 rfl (lv_at hl 1 rfl) ?_
  refine lv_iconst (v := 3) hx hb dX6_high_1 (by decide) ?_
  refine lv_imul hx hb dX6_high_2 ?_
  refine he_top (15) (by decide) ?_
  refine lv_iload_n hx hb dX6_high_3 rfl (lv_at hl 2 rfl) ?_
  refine lv_iadd hx hb dX6_high_4 ?_
  refine he_top (16) (by decide) ?_
  refine lv_istore_n (lv' := [(3, .int 16), (0, .ref p0), (1, .int 5), (2, .int 1)]) hx hb dX6_high_5 rfl hl (by decide) rfl (fun ls hl => ?_)
  refine lv_iload_n hx hb dX6_high_6 rfl (lv_at hl 0 rfl) ?_
  refine lv_iconst (v := 0) hx hb dX6_high_7 (by decide) ?_
  refine va_gets hx hb hZ_hi hS hown f43 (fun _ h9 => h9) dX6_high_8 ?_
  refine va_tlen (v := 24) hx hb hT_hi hS (by decide) dX6_high_11 ?_
  refine lv_iconst (v := 1) hx hb dX6_high_12 (by decide) ?_
  refine lv_isub hx hb dX6_high_13 ?_
  refine he_top (23) (by decide) ?_
  refine he_ci (wc := []) (wr := [(oX6 p0 p1 p2 p3 p4 w)]) (va_runSN (As := [.int 16, .int 0, .int 23]) (rest := []) ⟨hx, hb, hml, hown, hts⟩ (c_X10_within l g 16 0 23 H.size) ⟨(va_cnB 3 hts gX6_high_X10_within_n39 rfl rfl rfl nl39 iniX10 (by decide +kernel) ⟨Nat.le_of_ble_eq_true rfl, Nat.le_of_ble_eq_true rfl⟩), st_yX10_within, trivial⟩ (he_preS (wc := []) hK hP hD hS hA hE [] rfl rfl) rfl rfl hl.1 rfl (lv_room (Nat.le_of_ble_eq_true rfl)) dX6_high_14 ⟨(Nat.le_of_ble_eq_true rfl), (Nat.le_of_ble_eq_true rfl)⟩) hP hD hS hA [] [0] rfl rfl rfl (by decide) (fun r_1 u_2 H locs h_3 hP hD hS => ?_)
  subst h_3
  have hP : va_P g.1 vwCl [(oX6 p0 p1 p2 p3 p4 w)] H := hP
  have hD : va_D A [(oX6 p0 p1 p2 p3 p4 w)] := hD
  refine he_top (1) (by decide) ?_
  refine lv_if_eq (tgt := 28) hx hb dX6_high_17 (by decide) (fun c_4 => ?_) (fun c_4 => ?_)
  · exact absurd c_4 (by decide)
  · refine va_gets hx hb hZ_hi hS hown f43 (fun _ h9 => h9) dX6_high_20 ?_
    refine lv_iload_n hx hb dX6_high_23 rfl (lv_at hl 0 rfl) ?_
    refine he_tald hx hb hT_hi hS (16) (by decide) (by decide) (by decide) (20) rfl dX6_high_24 ?_
    refine lv_goto (tgt := 29) hx hb dX6_high_25 (by decide) ?_
    exact he_ri hQ hx hb hr hlk hP hD hS dX6_high_29 (Nat.le_of_ble_eq_true rfl) (Nat.le_of_ble_eq_true rfl) (()) (rfl) (rfl)
set_option maxHeartbeats 4000000 in
set_option maxRecDepth 100000 in
theorem p_X6_numbers_6 (l : Launch) (g : he_G) (p0 : Nat) (p1 : Nat) (p2 : Nat) (p3 : Nat) (p4 : Nat) (w : Int32)  : he_I l yX6_numbers wsX6_numbers 1 22 0 0 g [.ref p0, .int 6] [(oX6 p0 p1 p2 p3 p4 w)] (fun (r : Int32) (u : Unit) => r = 1) (fun (u : Unit) => [(oX6 p0 p1 p2 p3 p4 w)]) := by
  refine he_begin (l := l) (g := g) (y := yX6_numbers) (wl := wsX6_numbers) (fr := 1) (lo := 22) (mc := 0) (ms := 0) (av := [.ref p0, .int 6]) (ws := [(oX6 p0 p1 p2 p3 p4 w)]) (cc := cX6_numbers) (maxL := 2) (ret := (some .int)) (fun A => va_Qi (fun (r : Int32) (u : Unit) => r = 1) (fun u t => he_post g A ((fun (u : Unit) => [(oX6 p0 p1 p2 p3 p4 w)]) u) t) A) (by decide) rfl (Nat.le_of_ble_eq_true rfl) ?_
  intro p e s m args below meth c A ls H locs Q hQ hB
  obtain ⟨hx, hb, hr, hml, hown, hts, hlk, hin, hP, hK, hD, hS, hA, hE, hl⟩ := hB
  have hl : lv_has ls 2 [(0, .ref p0), (1, .int 6)] := hl
  have f36 := hts (.fieldLink RX6 36 "HiredEnemy$Plan" "NUMBERS" "[I") (iwoX6_numbers (k := 0) rfl)
  obtain ⟨t_nu, hZ_nu, hT_nu⟩ := hE.2.1
  have nl39 := hE.nest (RX6, 39, yX10_within) (by decide +kernel)
  have iniX10 := hts (.initialized RX10) (iwoX6_numbers (k := 2) rfl)
  have st_yX10_within := hts (.static yX10_within) (iwoX6_numbers (k := 1) rfl)
  refine lv_iload_n hx hb dX6_numbers_0 rfl (lv_at hl 1 rfl) ?_
  refine lv_iconst (v := 0) hx hb dX6_numbers_1 (by decide) ?_
  refine va_gets hx hb hZ_nu hS hown f36 (fun _ h9 => h9) dX6_numbers_2 ?_
  refine va_tlen (v := 8) hx hb hT_nu hS (by decide) dX6_numbers_5 ?_
  refine lv_iconst (v := 1) hx hb dX6_numbers_6 (by decide) ?_
  refine lv_isub hx hb dX6_numbers_7 ?_
  refine he_top (7) (by decide) ?_
  refine he_ci (wc := []) (wr := [(oX6 p0 p1 p2 p3 p4 w)]) (va_runSN (As := [.int 6, .int 0, .int 7]) (rest := []) ⟨hx, hb, hml, hown, hts⟩ (c_X10_within l g 6 0 7 H.size) ⟨(va_cnB 3 hts gX6_numbers_X10_within_n39 rfl rfl rfl nl39 iniX10 (by decide +kernel) ⟨Nat.le_of_ble_eq_true rfl, Nat.le_of_ble_eq_true rfl⟩), st_yX10_within, trivial⟩ (he_preS (wc := []) hK hP hD hS hA hE [] rfl rfl) rfl rfl hl.1 rfl (lv_room (Nat.le_of_ble_eq_true rfl)) dX6_numbers_8 ⟨(Nat.le_of_ble_eq_true rfl), (Nat.le_of_ble_eq_true rfl)⟩) hP hD hS hA [] [0] rfl rfl rfl (by decide) (fun r_1 u_2 H locs h_3 hP hD hS => ?_)
  subst h_3
  have hP : va_P g.1 vwCl [(oX6 p0 p1 p2 p3 p4 w)] H := hP
  have hD : va_D A [(oX6 p0 p1 p2 p3 p4 w)] := hD
  refine he_top (1) (by decide) ?_
  refine lv_if_eq (tgt := 22) hx hb dX6_numbers_11 (by decide) (fun c_4 => ?_) (fun c_4 => ?_)
  · exact absurd c_4 (by decide)
  · refine va_gets hx hb hZ_nu hS hown f36 (fun _ h9 => h9) dX6_numbers_14 ?_
    refine lv_iload_n hx hb dX6_numbers_17 rfl (lv_at hl 1 rfl) ?_
    refine he_tald hx hb hT_nu hS (6) (by decide) (by decide) (by decide) (1) rfl dX6_numbers_18 ?_
    refine lv_goto (tgt := 23) hx hb dX6_numbers_19 (by decide) ?_
    exact he_ri hQ hx hb hr hlk hP hD hS dX6_numbers_23 (Nat.le_of_ble_eq_true rfl) (Nat.le_of_ble_eq_true rfl) (()) (rfl) (rfl)
set_option maxHeartbeats 4000000 in
set_option maxRecDepth 100000 in
theorem p_X6_low_6_0 (l : Launch) (g : he_G) (p0 : Nat) (p1 : Nat) (p2 : Nat) (p3 : Nat) (p4 : Nat) (w : Int32)  : he_I l yX6_low wsX6_low 0 0 0 0 g [.ref p0, .int 6, .int 0] [(oX6 p0 p1 p2 p3 p4 w)] (fun (r : Int32) (u : Unit) => r = 0) (fun (u : Unit) => [(oX6 p0 p1 p2 p3 p4 w)]) := by
  refine he_begin (l := l) (g := g) (y := yX6_low) (wl := wsX6_low) (fr := 0) (lo := 0) (mc := 0) (ms := 0) (av := [.ref p0, .int 6, .int 0]) (ws := [(oX6 p0 p1 p2 p3 p4 w)]) (cc := cX6_low) (maxL := 3) (ret := (some .int)) (fun A => va_Qi (fun (r : Int32) (u : Unit) => r = 0) (fun u t => he_post g A ((fun (u : Unit) => [(oX6 p0 p1 p2 p3 p4 w)]) u) t) A) (by decide) rfl (Nat.le_of_ble_eq_true rfl) ?_
  intro p e s m args below meth c A ls H locs Q hQ hB
  obtain ⟨hx, hb, hr, hml, hown, hts, hlk, hin, hP, hK, hD, hS, hA, hE, hl⟩ := hB
  have hl : lv_has ls 3 [(0, .ref p0), (1, .int 6), (2, .int 0)] := hl
  refine lv_iload_n hx hb dX6_low_0 rfl (lv_at hl 1 rfl) ?_
  refine lv_if_ne (tgt := 12) hx hb dX6_low_1 (by decide) (fun c_1 => ?_) (fun c_1 => ?_)
  · refine lv_iconst (v := 0) hx hb dX6_low_12 (by decide) ?_
    exact he_ri hQ hx hb hr hlk hP hD hS dX6_low_13 (Nat.le_of_ble_eq_true rfl) (Nat.le_of_ble_eq_true rfl) (()) (rfl) (rfl)
  · exact absurd c_1 (by decide)
set_option maxHeartbeats 4000000 in
set_option maxRecDepth 100000 in
theorem p_X6_high_6_0 (l : Launch) (g : he_G) (p0 : Nat) (p1 : Nat) (p2 : Nat) (p3 : Nat) (p4 : Nat) (w : Int32)  : he_I l yX6_high wsX6_high 1 22 0 0 g [.ref p0, .int 6, .int 0] [(oX6 p0 p1 p2 p3 p4 w)] (fun (r : Int32) (u : Unit) => r = 9) (fun (u : Unit) => [(oX6 p0 p1 p2 p3 p4 w)]) := by
  refine he_begin (l := l) (g := g) (y := yX6_high) (wl := wsX6_high) (fr := 1) (lo := 22) (mc := 0) (ms := 0) (av := [.ref p0, .int 6, .int 0]) (ws := [(oX6 p0 p1 p2 p3 p4 w)]) (cc := cX6_high) (maxL := 4) (ret := (some .int)) (fun A => va_Qi (fun (r : Int32) (u : Unit) => r = 9) (fun u t => he_post g A ((fun (u : Unit) => [(oX6 p0 p1 p2 p3 p4 w)]) u) t) A) (by decide) rfl (Nat.le_of_ble_eq_true rfl) ?_
  intro p e s m args below meth c A ls H locs Q hQ hB
  obtain ⟨hx, hb, hr, hml, hown, hts, hlk, hin, hP, hK, hD, hS, hA, hE, hl⟩ := hB
  have hl : lv_has ls 4 [(0, .ref p0), (1, .int 6), (2, .int 0)] := hl
  have f43 := hts (.fieldLink RX6 43 "HiredEnemy$Plan" "HIGH" "[I") (iwoX6_high (k := 0) rfl)
  obtain ⟨t_hi, hZ_hi, hT_hi⟩ := hE.2.2.1
  have nl39 := hE.nest (RX6, 39, yX10_within) (by decide +kernel)
  have iniX10 := hts (.initialized RX10) (iwoX6_high (k := 2) rfl)
  have st_yX10_within := hts (.static yX10_within) (iwoX6_high (k := 1) rfl)
  refine lv_iload_n hx hb dX6_high_0 rfl (lv_at hl 1 rfl) ?_
  refine lv_iconst (v := 3) hx hb dX6_high_1 (by decide) ?_
  refine lv_imul hx hb dX6_high_2 ?_
  refine he_top (18) (by decide) ?_
  refine lv_iload_n hx hb dX6_high_3 rfl (lv_at hl 2 rfl) ?_
  refine lv_iadd hx hb dX6_high_4 ?_
  refine he_top (18) (by decide) ?_
  refine lv_istore_n (lv' := [(3, .int 18), (0, .ref p0), (1, .int 6), (2, .int 0)]) hx hb dX6_high_5 rfl hl (by decide) rfl (fun ls hl => ?_)
  refine lv_iload_n hx hb dX6_high_6 rfl (lv_at hl 0 rfl) ?_
  refine lv_iconst (v := 0) hx hb dX6_high_7 (by decide) ?_
  refine va_gets hx hb hZ_hi hS hown f43 (fun _ h9 => h9) dX6_high_8 ?_
  refine va_tlen (v := 24) hx hb hT_hi hS (by decide) dX6_high_11 ?_
  refine lv_iconst (v := 1) hx hb dX6_high_12 (by decide) ?_
  refine lv_isub hx hb dX6_high_13 ?_
  refine he_top (23) (by decide) ?_
  refine he_ci (wc := []) (wr := [(oX6 p0 p1 p2 p3 p4 w)]) (va_runSN (As := [.int 18, .int 0, .int 23]) (rest := []) ⟨hx, hb, hml, hown, hts⟩ (c_X10_within l g 18 0 23 H.size) ⟨(va_cnB 3 hts gX6_high_X10_within_n39 rfl rfl rfl nl39 iniX10 (by decide +kernel) ⟨Nat.le_of_ble_eq_true rfl, Nat.le_of_ble_eq_true rfl⟩), st_yX10_within, trivial⟩ (he_preS (wc := []) hK hP hD hS hA hE [] rfl rfl) rfl rfl hl.1 rfl (lv_room (Nat.le_of_ble_eq_true rfl)) dX6_high_14 ⟨(Nat.le_of_ble_eq_true rfl), (Nat.le_of_ble_eq_true rfl)⟩) hP hD hS hA [] [0] rfl rfl rfl (by decide) (fun r_1 u_2 H locs h_3 hP hD hS => ?_)
  subst h_3
  have hP : va_P g.1 vwCl [(oX6 p0 p1 p2 p3 p4 w)] H := hP
  have hD : va_D A [(oX6 p0 p1 p2 p3 p4 w)] := hD
  refine he_top (1) (by decide) ?_
  refine lv_if_eq (tgt := 28) hx hb dX6_high_17 (by decide) (fun c_4 => ?_) (fun c_4 => ?_)
  · exact absurd c_4 (by decide)
  · refine va_gets hx hb hZ_hi hS hown f43 (fun _ h9 => h9) dX6_high_20 ?_
    refine lv_iload_n hx hb dX6_high_23 rfl (lv_at hl 0 rfl) ?_
    refine he_tald hx hb hT_hi hS (18) (by decide) (by decide) (by decide) (9) rfl dX6_high_24 ?_
    refine lv_goto (tgt := 29) hx hb dX6_high_25 (by decide) ?_
    exact he_ri hQ hx hb hr hlk hP hD hS dX6_high_29 (Nat.le_of_ble_eq_true rfl) (Nat.le_of_ble_eq_true rfl) (()) (rfl) (rfl)
set_option maxHeartbeats 4000000 in
set_option maxRecDepth 100000 in
theorem p_X6_numbers_7 (l : Launch) (g : he_G) (p0 : Nat) (p1 : Nat) (p2 : Nat) (p3 : Nat) (p4 : Nat) (w : Int32)  : he_I l yX6_numbers wsX6_numbers 1 22 0 0 g [.ref p0, .int 7] [(oX6 p0 p1 p2 p3 p4 w)] (fun (r : Int32) (u : Unit) => r = 2) (fun (u : Unit) => [(oX6 p0 p1 p2 p3 p4 w)]) := by
  refine he_begin (l := l) (g := g) (y := yX6_numbers) (wl := wsX6_numbers) (fr := 1) (lo := 22) (mc := 0) (ms := 0) (av := [.ref p0, .int 7]) (ws := [(oX6 p0 p1 p2 p3 p4 w)]) (cc := cX6_numbers) (maxL := 2) (ret := (some .int)) (fun A => va_Qi (fun (r : Int32) (u : Unit) => r = 2) (fun u t => he_post g A ((fun (u : Unit) => [(oX6 p0 p1 p2 p3 p4 w)]) u) t) A) (by decide) rfl (Nat.le_of_ble_eq_true rfl) ?_
  intro p e s m args below meth c A ls H locs Q hQ hB
  obtain ⟨hx, hb, hr, hml, hown, hts, hlk, hin, hP, hK, hD, hS, hA, hE, hl⟩ := hB
  have hl : lv_has ls 2 [(0, .ref p0), (1, .int 7)] := hl
  have f36 := hts (.fieldLink RX6 36 "HiredEnemy$Plan" "NUMBERS" "[I") (iwoX6_numbers (k := 0) rfl)
  obtain ⟨t_nu, hZ_nu, hT_nu⟩ := hE.2.1
  have nl39 := hE.nest (RX6, 39, yX10_within) (by decide +kernel)
  have iniX10 := hts (.initialized RX10) (iwoX6_numbers (k := 2) rfl)
  have st_yX10_within := hts (.static yX10_within) (iwoX6_numbers (k := 1) rfl)
  refine lv_iload_n hx hb dX6_numbers_0 rfl (lv_at hl 1 rfl) ?_
  refine lv_iconst (v := 0) hx hb dX6_numbers_1 (by decide) ?_
  refine va_gets hx hb hZ_nu hS hown f36 (fun _ h9 => h9) dX6_numbers_2 ?_
  refine va_tlen (v := 8) hx hb hT_nu hS (by decide) dX6_numbers_5 ?_
  refine lv_iconst (v := 1) hx hb dX6_numbers_6 (by decide) ?_
  refine lv_isub hx hb dX6_numbers_7 ?_
  refine he_top (7) (by decide) ?_
  refine he_ci (wc := []) (wr := [(oX6 p0 p1 p2 p3 p4 w)]) (va_runSN (As := [.int 7, .int 0, .int 7]) (rest := []) ⟨hx, hb, hml, hown, hts⟩ (c_X10_within l g 7 0 7 H.size) ⟨(va_cnB 3 hts gX6_numbers_X10_within_n39 rfl rfl rfl nl39 iniX10 (by decide +kernel) ⟨Nat.le_of_ble_eq_true rfl, Nat.le_of_ble_eq_true rfl⟩), st_yX10_within, trivial⟩ (he_preS (wc := []) hK hP hD hS hA hE [] rfl rfl) rfl rfl hl.1 rfl (lv_room (Nat.le_of_ble_eq_true rfl)) dX6_numbers_8 ⟨(Nat.le_of_ble_eq_true rfl), (Nat.le_of_ble_eq_true rfl)⟩) hP hD hS hA [] [0] rfl rfl rfl (by decide) (fun r_1 u_2 H locs h_3 hP hD hS => ?_)
  subst h_3
  have hP : va_P g.1 vwCl [(oX6 p0 p1 p2 p3 p4 w)] H := hP
  have hD : va_D A [(oX6 p0 p1 p2 p3 p4 w)] := hD
  refine he_top (1) (by decide) ?_
  refine lv_if_eq (tgt := 22) hx hb dX6_numbers_11 (by decide) (fun c_4 => ?_) (fun c_4 => ?_)
  · exact absurd c_4 (by decide)
  · refine va_gets hx hb hZ_nu hS hown f36 (fun _ h9 => h9) dX6_numbers_14 ?_
    refine lv_iload_n hx hb dX6_numbers_17 rfl (lv_at hl 1 rfl) ?_
    refine he_tald hx hb hT_nu hS (7) (by decide) (by decide) (by decide) (2) rfl dX6_numbers_18 ?_
    refine lv_goto (tgt := 23) hx hb dX6_numbers_19 (by decide) ?_
    exact he_ri hQ hx hb hr hlk hP hD hS dX6_numbers_23 (Nat.le_of_ble_eq_true rfl) (Nat.le_of_ble_eq_true rfl) (()) (rfl) (rfl)
set_option maxHeartbeats 4000000 in
set_option maxRecDepth 100000 in
theorem p_X6_low_7_0 (l : Launch) (g : he_G) (p0 : Nat) (p1 : Nat) (p2 : Nat) (p3 : Nat) (p4 : Nat) (w : Int32)  : he_I l yX6_low wsX6_low 0 0 0 0 g [.ref p0, .int 7, .int 0] [(oX6 p0 p1 p2 p3 p4 w)] (fun (r : Int32) (u : Unit) => r = 0) (fun (u : Unit) => [(oX6 p0 p1 p2 p3 p4 w)]) := by
  refine he_begin (l := l) (g := g) (y := yX6_low) (wl := wsX6_low) (fr := 0) (lo := 0) (mc := 0) (ms := 0) (av := [.ref p0, .int 7, .int 0]) (ws := [(oX6 p0 p1 p2 p3 p4 w)]) (cc := cX6_low) (maxL := 3) (ret := (some .int)) (fun A => va_Qi (fun (r : Int32) (u : Unit) => r = 0) (fun u t => he_post g A ((fun (u : Unit) => [(oX6 p0 p1 p2 p3 p4 w)]) u) t) A) (by decide) rfl (Nat.le_of_ble_eq_true rfl) ?_
  intro p e s m args below meth c A ls H locs Q hQ hB
  obtain ⟨hx, hb, hr, hml, hown, hts, hlk, hin, hP, hK, hD, hS, hA, hE, hl⟩ := hB
  have hl : lv_has ls 3 [(0, .ref p0), (1, .int 7), (2, .int 0)] := hl
  refine lv_iload_n hx hb dX6_low_0 rfl (lv_at hl 1 rfl) ?_
  refine lv_if_ne (tgt := 12) hx hb dX6_low_1 (by decide) (fun c_1 => ?_) (fun c_1 => ?_)
  · refine lv_iconst (v := 0) hx hb dX6_low_12 (by decide) ?_
    exact he_ri hQ hx hb hr hlk hP hD hS dX6_low_13 (Nat.le_of_ble_eq_true rfl) (Nat.le_of_ble_eq_true rfl) (()) (rfl) (rfl)
  · exact absurd c_1 (by decide)
set_option maxHeartbeats 4000000 in
set_option maxRecDepth 100000 in
theorem p_X6_high_7_0 (l : Launch) (g : he_G) (p0 : Nat) (p1 : Nat) (p2 : Nat) (p3 : Nat) (p4 : Nat) (w : Int32)  : he_I l yX6_high wsX6_high 1 22 0 0 g [.ref p0, .int 7, .int 0] [(oX6 p0 p1 p2 p3 p4 w)] (fun (r : Int32) (u : Unit) => r = 99) (fun (u : Unit) => [(oX6 p0 p1 p2 p3 p4 w)]) := by
  refine he_begin (l := l) (g := g) (y := yX6_high) (wl := wsX6_high) (fr := 1) (lo := 22) (mc := 0) (ms := 0) (av := [.ref p0, .int 7, .int 0]) (ws := [(oX6 p0 p1 p2 p3 p4 w)]) (cc := cX6_high) (maxL := 4) (ret := (some .int)) (fun A => va_Qi (fun (r : Int32) (u : Unit) => r = 99) (fun u t => he_post g A ((fun (u : Unit) => [(oX6 p0 p1 p2 p3 p4 w)]) u) t) A) (by decide) rfl (Nat.le_of_ble_eq_true rfl) ?_
  intro p e s m args below meth c A ls H locs Q hQ hB
  obtain ⟨hx, hb, hr, hml, hown, hts, hlk, hin, hP, hK, hD, hS, hA, hE, hl⟩ := hB
  have hl : lv_has ls 4 [(0, .ref p0), (1, .int 7), (2, .int 0)] := hl
  have f43 := hts (.fieldLink RX6 43 "HiredEnemy$Plan" "HIGH" "[I") (iwoX6_high (k := 0) rfl)
  obtain ⟨t_hi, hZ_hi, hT_hi⟩ := hE.2.2.1
  have nl39 := hE.nest (RX6, 39, yX10_within) (by decide +kernel)
  have iniX10 := hts (.initialized RX10) (iwoX6_high (k := 2) rfl)
  have st_yX10_within := hts (.static yX10_within) (iwoX6_high (k := 1) rfl)
  refine lv_iload_n hx hb dX6_high_0 rfl (lv_at hl 1 rfl) ?_
  refine lv_iconst (v := 3) hx hb dX6_high_1 (by decide) ?_
  refine lv_imul hx hb dX6_high_2 ?_
  refine he_top (21) (by decide) ?_
  refine lv_iload_n hx hb dX6_high_3 rfl (lv_at hl 2 rfl) ?_
  refine lv_iadd hx hb dX6_high_4 ?_
  refine he_top (21) (by decide) ?_
  refine lv_istore_n (lv' := [(3, .int 21), (0, .ref p0), (1, .int 7), (2, .int 0)]) hx hb dX6_high_5 rfl hl (by decide) rfl (fun ls hl => ?_)
  refine lv_iload_n hx hb dX6_high_6 rfl (lv_at hl 0 rfl) ?_
  refine lv_iconst (v := 0) hx hb dX6_high_7 (by decide) ?_
  refine va_gets hx hb hZ_hi hS hown f43 (fun _ h9 => h9) dX6_high_8 ?_
  refine va_tlen (v := 24) hx hb hT_hi hS (by decide) dX6_high_11 ?_
  refine lv_iconst (v := 1) hx hb dX6_high_12 (by decide) ?_
  refine lv_isub hx hb dX6_high_13 ?_
  refine he_top (23) (by decide) ?_
  refine he_ci (wc := []) (wr := [(oX6 p0 p1 p2 p3 p4 w)]) (va_runSN (As := [.int 21, .int 0, .int 23]) (rest := []) ⟨hx, hb, hml, hown, hts⟩ (c_X10_within l g 21 0 23 H.size) ⟨(va_cnB 3 hts gX6_high_X10_within_n39 rfl rfl rfl nl39 iniX10 (by decide +kernel) ⟨Nat.le_of_ble_eq_true rfl, Nat.le_of_ble_eq_true rfl⟩), st_yX10_within, trivial⟩ (he_preS (wc := []) hK hP hD hS hA hE [] rfl rfl) rfl rfl hl.1 rfl (lv_room (Nat.le_of_ble_eq_true rfl)) dX6_high_14 ⟨(Nat.le_of_ble_eq_true rfl), (Nat.le_of_ble_eq_true rfl)⟩) hP hD hS hA [] [0] rfl rfl rfl (by decide) (fun r_1 u_2 H locs h_3 hP hD hS => ?_)
  subst h_3
  have hP : va_P g.1 vwCl [(oX6 p0 p1 p2 p3 p4 w)] H := hP
  have hD : va_D A [(oX6 p0 p1 p2 p3 p4 w)] := hD
  refine he_top (1) (by decide) ?_
  refine lv_if_eq (tgt := 28) hx hb dX6_high_17 (by decide) (fun c_4 => ?_) (fun c_4 => ?_)
  · exact absurd c_4 (by decide)
  · refine va_gets hx hb hZ_hi hS hown f43 (fun _ h9 => h9) dX6_high_20 ?_
    refine lv_iload_n hx hb dX6_high_23 rfl (lv_at hl 0 rfl) ?_
    refine he_tald hx hb hT_hi hS (21) (by decide) (by decide) (by decide) (99) rfl dX6_high_24 ?_
    refine lv_goto (tgt := 29) hx hb dX6_high_25 (by decide) ?_
    exact he_ri hQ hx hb hr hlk hP hD hS dX6_high_29 (Nat.le_of_ble_eq_true rfl) (Nat.le_of_ble_eq_true rfl) (()) (rfl) (rfl)
set_option maxHeartbeats 4000000 in
set_option maxRecDepth 100000 in
theorem p_X6_low_7_1 (l : Launch) (g : he_G) (p0 : Nat) (p1 : Nat) (p2 : Nat) (p3 : Nat) (p4 : Nat) (w : Int32)  : he_I l yX6_low wsX6_low 0 0 0 0 g [.ref p0, .int 7, .int 1] [(oX6 p0 p1 p2 p3 p4 w)] (fun (r : Int32) (u : Unit) => r = 0) (fun (u : Unit) => [(oX6 p0 p1 p2 p3 p4 w)]) := by
  refine he_begin (l := l) (g := g) (y := yX6_low) (wl := wsX6_low) (fr := 0) (lo := 0) (mc := 0) (ms := 0) (av := [.ref p0, .int 7, .int 1]) (ws := [(oX6 p0 p1 p2 p3 p4 w)]) (cc := cX6_low) (maxL := 3) (ret := (some .int)) (fun A => va_Qi (fun (r : Int32) (u : Unit) => r = 0) (fun u t => he_post g A ((fun (u : Unit) => [(oX6 p0 p1 p2 p3 p4 w)]) u) t) A) (by decide) rfl (Nat.le_of_ble_eq_true rfl) ?_
  intro p e s m args below meth c A ls H locs Q hQ hB
  obtain ⟨hx, hb, hr, hml, hown, hts, hlk, hin, hP, hK, hD, hS, hA, hE, hl⟩ := hB
  have hl : lv_has ls 3 [(0, .ref p0), (1, .int 7), (2, .int 1)] := hl
  refine lv_iload_n hx hb dX6_low_0 rfl (lv_at hl 1 rfl) ?_
  refine lv_if_ne (tgt := 12) hx hb dX6_low_1 (by decide) (fun c_1 => ?_) (fun c_1 => ?_)
  · refine lv_iconst (v := 0) hx hb dX6_low_12 (by decide) ?_
    exact he_ri hQ hx hb hr hlk hP hD hS dX6_low_13 (Nat.le_of_ble_eq_true rfl) (Nat.le_of_ble_eq_true rfl) (()) (rfl) (rfl)
  · exact absurd c_1 (by decide)
set_option maxHeartbeats 4000000 in
set_option maxRecDepth 100000 in
theorem p_X6_high_7_1 (l : Launch) (g : he_G) (p0 : Nat) (p1 : Nat) (p2 : Nat) (p3 : Nat) (p4 : Nat) (w : Int32)  : he_I l yX6_high wsX6_high 1 22 0 0 g [.ref p0, .int 7, .int 1] [(oX6 p0 p1 p2 p3 p4 w)] (fun (r : Int32) (u : Unit) => r = 99) (fun (u : Unit) => [(oX6 p0 p1 p2 p3 p4 w)]) := by
  refine he_begin (l := l) (g := g) (y := yX6_high) (wl := wsX6_high) (fr := 1) (lo := 22) (mc := 0) (ms := 0) (av := [.ref p0, .int 7, .int 1]) (ws := [(oX6 p0 p1 p2 p3 p4 w)]) (cc := cX6_high) (maxL := 4) (ret := (some .int)) (fun A => va_Qi (fun (r : Int32) (u : Unit) => r = 99) (fun u t => he_post g A ((fun (u : Unit) => [(oX6 p0 p1 p2 p3 p4 w)]) u) t) A) (by decide) rfl (Nat.le_of_ble_eq_true rfl) ?_
  intro p e s m args below meth c A ls H locs Q hQ hB
  obtain ⟨hx, hb, hr, hml, hown, hts, hlk, hin, hP, hK, hD, hS, hA, hE, hl⟩ := hB
  have hl : lv_has ls 4 [(0, .ref p0), (1, .int 7), (2, .int 1)] := hl
  have f43 := hts (.fieldLink RX6 43 "HiredEnemy$Plan" "HIGH" "[I") (iwoX6_high (k := 0) rfl)
  obtain ⟨t_hi, hZ_hi, hT_hi⟩ := hE.2.2.1
  have nl39 := hE.nest (RX6, 39, yX10_within) (by decide +kernel)
  have iniX10 := hts (.initialized RX10) (iwoX6_high (k := 2) rfl)
  have st_yX10_within := hts (.static yX10_within) (iwoX6_high (k := 1) rfl)
  refine lv_iload_n hx hb dX6_high_0 rfl (lv_at hl 1 rfl) ?_
  refine lv_iconst (v := 3) hx hb dX6_high_1 (by decide) ?_
  refine lv_imul hx hb dX6_high_2 ?_
  refine he_top (21) (by decide) ?_
  refine lv_iload_n hx hb dX6_high_3 rfl (lv_at hl 2 rfl) ?_
  refine lv_iadd hx hb dX6_high_4 ?_
  refine he_top (22) (by decide) ?_
  refine lv_istore_n (lv' := [(3, .int 22), (0, .ref p0), (1, .int 7), (2, .int 1)]) hx hb dX6_high_5 rfl hl (by decide) rfl (fun ls hl => ?_)
  refine lv_iload_n hx hb dX6_high_6 rfl (lv_at hl 0 rfl) ?_
  refine lv_iconst (v := 0) hx hb dX6_high_7 (by decide) ?_
  refine va_gets hx hb hZ_hi hS hown f43 (fun _ h9 => h9) dX6_high_8 ?_
  refine va_tlen (v := 24) hx hb hT_hi hS (by decide) dX6_high_11 ?_
  refine lv_iconst (v := 1) hx hb dX6_high_12 (by decide) ?_
  refine lv_isub hx hb dX6_high_13 ?_
  refine he_top (23) (by decide) ?_
  refine he_ci (wc := []) (wr := [(oX6 p0 p1 p2 p3 p4 w)]) (va_runSN (As := [.int 22, .int 0, .int 23]) (rest := []) ⟨hx, hb, hml, hown, hts⟩ (c_X10_within l g 22 0 23 H.size) ⟨(va_cnB 3 hts gX6_high_X10_within_n39 rfl rfl rfl nl39 iniX10 (by decide +kernel) ⟨Nat.le_of_ble_eq_true rfl, Nat.le_of_ble_eq_true rfl⟩), st_yX10_within, trivial⟩ (he_preS (wc := []) hK hP hD hS hA hE [] rfl rfl) rfl rfl hl.1 rfl (lv_room (Nat.le_of_ble_eq_true rfl)) dX6_high_14 ⟨(Nat.le_of_ble_eq_true rfl), (Nat.le_of_ble_eq_true rfl)⟩) hP hD hS hA [] [0] rfl rfl rfl (by decide) (fun r_1 u_2 H locs h_3 hP hD hS => ?_)
  subst h_3
  have hP : va_P g.1 vwCl [(oX6 p0 p1 p2 p3 p4 w)] H := hP
  have hD : va_D A [(oX6 p0 p1 p2 p3 p4 w)] := hD
  refine he_top (1) (by decide) ?_
  refine lv_if_eq (tgt := 28) hx hb dX6_high_17 (by decide) (fun c_4 => ?_) (fun c_4 => ?_)
  · exact absurd c_4 (by decide)
  · refine va_gets hx hb hZ_hi hS hown f43 (fun _ h9 => h9) dX6_high_20 ?_
    refine lv_iload_n hx hb dX6_high_23 rfl (lv_at hl 0 rfl) ?_
    refine he_tald hx hb hT_hi hS (22) (by decide) (by decide) (by decide) (99) rfl dX6_high_24 ?_
    refine lv_goto (tgt := 29) hx hb dX6_high_25 (by decide) ?_
    exact he_ri hQ hx hb hr hlk hP hD hS dX6_high_29 (Nat.le_of_ble_eq_true rfl) (Nat.le_of_ble_eq_true rfl) (()) (rfl) (rfl)
set_option maxHeartbeats 4000000 in
set_option maxRecDepth 100000 in
theorem p_X6_addWall (l : Launch) (g : he_G) (p0 : Nat) (p1 : Nat) (p2 : Nat) (p3 : Nat) (p4 : Nat) (w : Nat) (sd : Nat → Int32) (fn : Nat → Int32) (st : Nat → Int32) (me : Nat → Int32) (a : Int32) (b : Int32) (hw6 : w < 6) : he_V l yX6_addWall wsX6_addWall 0 0 0 0 g [.ref p0, .int a, .int b] [(oX6 p0 p1 p2 p3 p4 (nI w)), (aI g p1 24 sd), (aI g p2 10 fn), (aI g p3 6 st), (aI g p4 6 me)] (fun (u : Unit) => True) (fun (u : Unit) => [(oX6 p0 p1 p2 p3 p4 (nI (w + 1))), (aI g p1 24 sd), (aI g p2 10 fn), (aI g p3 6 (upd st w a)), (aI g p4 6 (upd me w b))]) := by
  refine he_begin (l := l) (g := g) (y := yX6_addWall) (wl := wsX6_addWall) (fr := 0) (lo := 0) (mc := 0) (ms := 0) (av := [.ref p0, .int a, .int b]) (ws := [(oX6 p0 p1 p2 p3 p4 (nI w)), (aI g p1 24 sd), (aI g p2 10 fn), (aI g p3 6 st), (aI g p4 6 me)]) (cc := cX6_addWall) (maxL := 3) (ret := none) (fun A => va_Qv (fun (u : Unit) => True) (fun u t => he_post g A ((fun (u : Unit) => [(oX6 p0 p1 p2 p3 p4 (nI (w + 1))), (aI g p1 24 sd), (aI g p2 10 fn), (aI g p3 6 (upd st w a)), (aI g p4 6 (upd me w b))]) u) t) A) (by decide) rfl (Nat.le_of_ble_eq_true rfl) ?_
  intro p e s m args below meth c A ls H locs Q hQ hB
  obtain ⟨hx, hb, hr, hml, hown, hts, hlk, hin, hP, hK, hD, hS, hA, hE, hl⟩ := hB
  have hl : lv_has ls 3 [(0, .ref p0), (1, .int a), (2, .int b)] := hl
  have f30 := hts (.fieldLink RX6 30 "HiredEnemy$Plan" "walls" "I") (iwoX6_addWall (k := 0) rfl)
  have inX6 : ∀ w ∈ wsX60, w ∈ wsX6_addWall := innX6_addWall_X6
  have f21 := hts (.fieldLink RX6 21 "HiredEnemy$Plan" "strength" "[I") (iwoX6_addWall (k := 1) rfl)
  have f24 := hts (.fieldLink RX6 24 "HiredEnemy$Plan" "mended" "[I") (iwoX6_addWall (k := 2) rfl)
  refine lv_aload_n hx hb dX6_addWall_0 rfl (lv_at hl 0 rfl) ?_
  refine va_get (v := .int (nI w)) (T := TX6) (N := 5) hx hb hts inX6 hown hK hP 0 rfl rfl 4 (by decide) f30 (fun _ h9 => h9) rfl dX6_addWall_1 ?_
  refine lv_bipush (v := 6) hx hb dX6_addWall_4 (by decide) ?_
  refine lv_icmp_ge (tgt := 39) hx hb dX6_addWall_6 (by decide) (fun c_1 => ?_) (fun c_1 => ?_)
  · exact absurd c_1 (fun h9 => absurd ((he_cle (a := 6) (b := w) (by decide) rfl (by decide) (by omega)).mp h9) (by omega))
  · refine lv_aload_n hx hb dX6_addWall_9 rfl (lv_at hl 0 rfl) ?_
    refine va_get (v := .ref p3) (T := TX6) (N := 5) hx hb hts inX6 hown hK hP 0 rfl rfl 2 (by decide) f21 (fun _ h9 => h9) rfl dX6_addWall_10 ?_
    refine lv_aload_n hx hb dX6_addWall_13 rfl (lv_at hl 0 rfl) ?_
    refine va_get (v := .int (nI w)) (T := TX6) (N := 5) hx hb hts inX6 hown hK hP 0 rfl rfl 4 (by decide) f30 (fun _ h9 => h9) rfl dX6_addWall_14 ?_
    refine lv_iload_n hx hb dX6_addWall_17 rfl (lv_at hl 1 rfl) ?_
    refine he_iast hx hb hK hP hD hS 3 rfl (w) rfl (by first | assumption | decide | omega) (by first | decide | assumption) dX6_addWall_18 (fun H locs hP hD hS => ?_)
    have hP : va_P g.1 vwCl [(oX6 p0 p1 p2 p3 p4 (nI w)), (aI g p1 24 sd), (aI g p2 10 fn), (aI g p3 6 (upd st w a)), (aI g p4 6 me)] H := hP
    have hD : va_D A [(oX6 p0 p1 p2 p3 p4 (nI w)), (aI g p1 24 sd), (aI g p2 10 fn), (aI g p3 6 (upd st w a)), (aI g p4 6 me)] := hD
    refine lv_aload_n hx hb dX6_addWall_19 rfl (lv_at hl 0 rfl) ?_
    refine va_get (v := .ref p4) (T := TX6) (N := 5) hx hb hts inX6 hown hK hP 0 rfl rfl 3 (by decide) f24 (fun _ h9 => h9) rfl dX6_addWall_20 ?_
    refine lv_aload_n hx hb dX6_addWall_23 rfl (lv_at hl 0 rfl) ?_
    refine va_get (v := .int (nI w)) (T := TX6) (N := 5) hx hb hts inX6 hown hK hP 0 rfl rfl 4 (by decide) f30 (fun _ h9 => h9) rfl dX6_addWall_24 ?_
    refine lv_iload_n hx hb dX6_addWall_27 rfl (lv_at hl 2 rfl) ?_
    refine he_iast hx hb hK hP hD hS 4 rfl (w) rfl (by first | assumption | decide | omega) (by first | decide | assumption) dX6_addWall_28 (fun H locs hP hD hS => ?_)
    have hP : va_P g.1 vwCl [(oX6 p0 p1 p2 p3 p4 (nI w)), (aI g p1 24 sd), (aI g p2 10 fn), (aI g p3 6 (upd st w a)), (aI g p4 6 (upd me w b))] H := hP
    have hD : va_D A [(oX6 p0 p1 p2 p3 p4 (nI w)), (aI g p1 24 sd), (aI g p2 10 fn), (aI g p3 6 (upd st w a)), (aI g p4 6 (upd me w b))] := hD
    refine lv_aload_n hx hb dX6_addWall_29 rfl (lv_at hl 0 rfl) ?_
    refine lv_dup hx hb dX6_addWall_30 rfl ?_
    refine va_get (v := .int (nI w)) (T := TX6) (N := 5) hx hb hts inX6 hown hK hP 0 rfl rfl 4 (by decide) f30 (fun _ h9 => h9) rfl dX6_addWall_31 ?_
    refine lv_iconst (v := 1) hx hb dX6_addWall_34 (by decide) ?_
    refine lv_iadd hx hb dX6_addWall_35 ?_
    refine he_top (nI (w + 1)) (nI_add w 1) ?_
    refine va_put (v := .int (nI (w + 1))) (ty := .int) (T := TX6) (N := 5) hx hb hts inX6 tyX6 tyX6_ok nmX6 hown hK hP hD hS 0 rfl rfl 4 (by decide) f30 (fun _ h9 => h9) rfl (by decide +kernel) rfl rfl (Nat.le_of_ble_eq_true rfl) dX6_addWall_36 (fun H locs hP hD hS => ?_)
    have hP : va_P g.1 vwCl [(oX6 p0 p1 p2 p3 p4 (nI (w + 1))), (aI g p1 24 sd), (aI g p2 10 fn), (aI g p3 6 (upd st w a)), (aI g p4 6 (upd me w b))] H := hP
    have hD : va_D A [(oX6 p0 p1 p2 p3 p4 (nI (w + 1))), (aI g p1 24 sd), (aI g p2 10 fn), (aI g p3 6 (upd st w a)), (aI g p4 6 (upd me w b))] := hD
    exact he_rv hQ hx hb hr hlk hP hD hS dX6_addWall_39 (Nat.le_of_ble_eq_true rfl) (Nat.le_of_ble_eq_true rfl) (()) (rfl) (trivial)
set_option maxHeartbeats 4000000 in
set_option maxRecDepth 100000 in
theorem p_X6_store_0 (l : Launch) (g : he_G) (p0 : Nat) (p1 : Nat) (p2 : Nat) (p3 : Nat) (p4 : Nat) (w : Nat) (sd : Nat → Int32) (fn : Nat → Int32) (st : Nat → Int32) (me : Nat → Int32) (z1 : Nat) (nu : Nat → Int32) (hw6 : w < 6) : he_V l yX6_store wsX6_store 1 22 0 0 g [.ref p0, .int 0, .ref z1] [(oX6 p0 p1 p2 p3 p4 (nI w)), (aI g p1 24 sd), (aI g p2 10 fn), (aI g p3 6 st), (aI g p4 6 me), (aI g z1 3 nu)] (fun (u : Unit) => True) (fun (u : Unit) => [(oX6 p0 p1 p2 p3 p4 (nI (w + 1))), (aI g p1 24 sd), (aI g p2 10 fn), (aI g p3 6 (upd st w (nu 0))), (aI g p4 6 (upd me w (nu 1))), (aI g z1 3 nu)]) := by
  refine he_begin (l := l) (g := g) (y := yX6_store) (wl := wsX6_store) (fr := 1) (lo := 22) (mc := 0) (ms := 0) (av := [.ref p0, .int 0, .ref z1]) (ws := [(oX6 p0 p1 p2 p3 p4 (nI w)), (aI g p1 24 sd), (aI g p2 10 fn), (aI g p3 6 st), (aI g p4 6 me), (aI g z1 3 nu)]) (cc := cX6_store) (maxL := 4) (ret := none) (fun A => va_Qv (fun (u : Unit) => True) (fun u t => he_post g A ((fun (u : Unit) => [(oX6 p0 p1 p2 p3 p4 (nI (w + 1))), (aI g p1 24 sd), (aI g p2 10 fn), (aI g p3 6 (upd st w (nu 0))), (aI g p4 6 (upd me w (nu 1))), (aI g z1 3 nu)]) u) t) A) (by decide) rfl (Nat.le_of_ble_eq_true rfl) ?_
  intro p e s m args below meth c A ls H locs Q hQ hB
  obtain ⟨hx, hb, hr, hml, hown, hts, hlk, hin, hP, hK, hD, hS, hA, hE, hl⟩ := hB
  have hl : lv_has ls 4 [(0, .ref p0), (1, .int 0), (2, .ref z1)] := hl
  refine lv_iload_n hx hb dX6_store_0 rfl (lv_at hl 1 rfl) ?_
  refine lv_if_ne (tgt := 17) hx hb dX6_store_1 (by decide) (fun c_1 => ?_) (fun c_1 => ?_)
  · exact absurd (by decide) c_1
  · refine lv_aload_n hx hb dX6_store_4 rfl (lv_at hl 0 rfl) ?_
    refine lv_aload_n hx hb dX6_store_5 rfl (lv_at hl 2 rfl) ?_
    refine lv_iconst (v := 0) hx hb dX6_store_6 (by decide) ?_
    refine he_iald hx hb hK hP 5 rfl (0) (by decide) (by decide) (by first | decide | assumption) (nu 0) rfl dX6_store_7 ?_
    refine lv_aload_n hx hb dX6_store_8 rfl (lv_at hl 2 rfl) ?_
    refine lv_iconst (v := 1) hx hb dX6_store_9 (by decide) ?_
    refine he_iald hx hb hK hP 5 rfl (1) (by decide) (by decide) (by first | decide | assumption) (nu 1) rfl dX6_store_10 ?_
    refine he_cv (wc := [(oX6 p0 p1 p2 p3 p4 (nI w)), (aI g p1 24 sd), (aI g p2 10 fn), (aI g p3 6 st), (aI g p4 6 me)]) (wr := [(aI g z1 3 nu)]) (va_runV (As := [.int (nu 0), .int (nu 1)]) (rest := []) ⟨hx, hb, hml, hown, hts⟩ (p_X6_addWall l g p0 p1 p2 p3 p4 w sd fn st me (nu 0) (nu 1) (by first | assumption | decide | omega) H.size) (cwV 2 hts gX6_store_X6_addWall rfl rfl rfl (by decide +kernel) ⟨Nat.le_of_ble_eq_true rfl, Nat.le_of_ble_eq_true rfl⟩) (he_preV (wc := [(oX6 p0 p1 p2 p3 p4 (nI w)), (aI g p1 24 sd), (aI g p2 10 fn), (aI g p3 6 st), (aI g p4 6 me)]) hK hP hD hS hA hE [0, 1, 2, 3, 4] rfl rfl 0 rfl rfl) rfl rfl hl.1 rfl (lv_room (Nat.le_of_ble_eq_true rfl)) dX6_store_11 ⟨(Nat.le_of_ble_eq_true rfl), (Nat.le_of_ble_eq_true rfl)⟩) hP hD hS hA [0, 1, 2, 3, 4] [5] rfl rfl rfl (by decide) (fun u_3 H locs h_4 hP hD hS => ?_)
    have hP : va_P g.1 vwCl [(aI g z1 3 nu), (oX6 p0 p1 p2 p3 p4 (nI (w + 1))), (aI g p1 24 sd), (aI g p2 10 fn), (aI g p3 6 (upd st w (nu 0))), (aI g p4 6 (upd me w (nu 1)))] H := hP
    have hD : va_D A [(aI g z1 3 nu), (oX6 p0 p1 p2 p3 p4 (nI (w + 1))), (aI g p1 24 sd), (aI g p2 10 fn), (aI g p3 6 (upd st w (nu 0))), (aI g p4 6 (upd me w (nu 1)))] := hD
    refine lv_goto (tgt := 78) hx hb dX6_store_14 (by decide) ?_
    have hP := hP.sub (ws' := [(oX6 p0 p1 p2 p3 p4 (nI (w + 1))), (aI g p1 24 sd), (aI g p2 10 fn), (aI g p3 6 (upd st w (nu 0))), (aI g p4 6 (upd me w (nu 1))), (aI g z1 3 nu)]) [1, 2, 3, 4, 5, 0] rfl
    have hD := hD.sub (ws' := [(oX6 p0 p1 p2 p3 p4 (nI (w + 1))), (aI g p1 24 sd), (aI g p2 10 fn), (aI g p3 6 (upd st w (nu 0))), (aI g p4 6 (upd me w (nu 1))), (aI g z1 3 nu)]) [1, 2, 3, 4, 5, 0] (by decide) rfl
    exact he_rv hQ hx hb hr hlk hP hD hS dX6_store_78 (Nat.le_of_ble_eq_true rfl) (Nat.le_of_ble_eq_true rfl) (()) (rfl) (trivial)
set_option maxHeartbeats 4000000 in
set_option maxRecDepth 100000 in
theorem p_X6_store_1 (l : Launch) (g : he_G) (p0 : Nat) (p1 : Nat) (p2 : Nat) (p3 : Nat) (p4 : Nat) (w : Nat) (sd : Nat → Int32) (fn : Nat → Int32) (st : Nat → Int32) (me : Nat → Int32) (z1 : Nat) (nu : Nat → Int32)  : he_V l yX6_store wsX6_store 2 43 0 0 g [.ref p0, .int 1, .ref z1] [(oX6 p0 p1 p2 p3 p4 (nI w)), (aI g p1 24 sd), (aI g p2 10 fn), (aI g p3 6 st), (aI g p4 6 me), (aI g z1 3 nu)] (fun (u : Unit) => True) (fun (u : Unit) => [(oX6 p0 p1 p2 p3 p4 (nI w)), (aI g p1 24 (upd (upd (upd sd 3 (nu 0)) 4 (nu 1)) 5 (nu 2))), (aI g p2 10 fn), (aI g p3 6 st), (aI g p4 6 me), (aI g z1 3 nu)]) := by
  refine he_begin (l := l) (g := g) (y := yX6_store) (wl := wsX6_store) (fr := 2) (lo := 43) (mc := 0) (ms := 0) (av := [.ref p0, .int 1, .ref z1]) (ws := [(oX6 p0 p1 p2 p3 p4 (nI w)), (aI g p1 24 sd), (aI g p2 10 fn), (aI g p3 6 st), (aI g p4 6 me), (aI g z1 3 nu)]) (cc := cX6_store) (maxL := 4) (ret := none) (fun A => va_Qv (fun (u : Unit) => True) (fun u t => he_post g A ((fun (u : Unit) => [(oX6 p0 p1 p2 p3 p4 (nI w)), (aI g p1 24 (upd (upd (upd sd 3 (nu 0)) 4 (nu 1)) 5 (nu 2))), (aI g p2 10 fn), (aI g p3 6 st), (aI g p4 6 me), (aI g z1 3 nu)]) u) t) A) (by decide) rfl (Nat.le_of_ble_eq_true rfl) ?_
  intro p e s m args below meth c A ls H locs Q hQ hB
  obtain ⟨hx, hb, hr, hml, hown, hts, hlk, hin, hP, hK, hD, hS, hA, hE, hl⟩ := hB
  have hl : lv_has ls 4 [(0, .ref p0), (1, .int 1), (2, .ref z1)] := hl
  have f15 := hts (.fieldLink RX6 15 "HiredEnemy$Plan" "said" "[I") (iwoX6_store (k := 1) rfl)
  have inX6 : ∀ w ∈ wsX60, w ∈ wsX6_store := innX6_store_X6
  refine lv_iload_n hx hb dX6_store_0 rfl (lv_at hl 1 rfl) ?_
  refine lv_if_ne (tgt := 17) hx hb dX6_store_1 (by decide) (fun c_1 => ?_) (fun c_1 => ?_)
  · refine lv_iload_n hx hb dX6_store_17 rfl (lv_at hl 1 rfl) ?_
    refine lv_iconst (v := 5) hx hb dX6_store_18 (by decide) ?_
    refine lv_icmp_ne (tgt := 48) hx hb dX6_store_19 (by decide) (fun c_2 => ?_) (fun c_2 => ?_)
    · refine lv_iconst (v := 0) hx hb dX6_store_48 (by decide) ?_
      refine lv_istore_n (lv' := [(3, .int 0), (0, .ref p0), (1, .int 1), (2, .ref z1)]) hx hb dX6_store_49 rfl hl (by decide) rfl (fun ls hl => ?_)
      refine lv_iload_n hx hb dX6_store_50 rfl (lv_at hl 0 rfl) ?_
      refine lv_aload_n hx hb dX6_store_51 rfl (lv_at hl 1 rfl) ?_
      refine lv_iload_n hx hb dX6_store_52 rfl (lv_at hl 2 rfl) ?_
      refine he_ci (wc := [(oX6 p0 p1 p2 p3 p4 (nI w))]) (wr := [(aI g p1 24 sd), (aI g p2 10 fn), (aI g p3 6 st), (aI g p4 6 me), (aI g z1 3 nu)]) (va_runV (As := [.int 1]) (rest := [.int 0]) ⟨hx, hb, hml, hown, hts⟩ (p_X6_numbers_1 l g p0 p1 p2 p3 p4 (nI w) H.size) (cwV 1 hts gX6_store_X6_numbers rfl rfl rfl (by decide +kernel) ⟨Nat.le_of_ble_eq_true rfl, Nat.le_of_ble_eq_true rfl⟩) (he_preV (wc := [(oX6 p0 p1 p2 p3 p4 (nI w))]) hK hP hD hS hA hE [0] rfl rfl 0 rfl rfl) rfl rfl hl.1 rfl (lv_room (Nat.le_of_ble_eq_true rfl)) dX6_store_53 ⟨(Nat.le_of_ble_eq_true rfl), (Nat.le_of_ble_eq_true rfl)⟩) hP hD hS hA [0] [1, 2, 3, 4, 5] rfl rfl rfl (by decide) (fun r_3 u_4 H locs h_5 hP hD hS => ?_)
      subst h_5
      have hP : va_P g.1 vwCl [(aI g p1 24 sd), (aI g p2 10 fn), (aI g p3 6 st), (aI g p4 6 me), (aI g z1 3 nu), (oX6 p0 p1 p2 p3 p4 (nI w))] H := hP
      have hD : va_D A [(aI g p1 24 sd), (aI g p2 10 fn), (aI g p3 6 st), (aI g p4 6 me), (aI g z1 3 nu), (oX6 p0 p1 p2 p3 p4 (nI w))] := hD
      refine lv_icmp_ge (tgt := 78) hx hb dX6_store_56 (by decide) (fun c_6 => ?_) (fun c_6 => ?_)
      · exact absurd c_6 (by decide)
      · refine lv_aload_n hx hb dX6_store_59 rfl (lv_at hl 1 rfl) ?_
        refine va_get (v := .ref p1) (T := TX6) (N := 5) hx hb hts inX6 hown hK hP 5 rfl rfl 0 (by decide) f15 (fun _ h9 => h9) rfl dX6_store_60 ?_
        refine lv_iload_n hx hb dX6_store_63 rfl (lv_at hl 2 rfl) ?_
        refine lv_iconst (v := 3) hx hb dX6_store_64 (by decide) ?_
        refine lv_imul hx hb dX6_store_65 ?_
        refine he_top (3) (by decide) ?_
        refine lv_iload_n hx hb dX6_store_66 rfl (lv_at hl 0 rfl) ?_
        refine lv_iadd hx hb dX6_store_67 ?_
        refine he_top (3) (by decide) ?_
        refine lv_aload_n hx hb dX6_store_68 rfl (lv_at hl 3 rfl) ?_
        refine lv_iload_n hx hb dX6_store_69 rfl (lv_at hl 0 rfl) ?_
        refine he_iald hx hb hK hP 4 rfl (0) (by decide) (by decide) (by first | decide | assumption) (nu 0) rfl dX6_store_70 ?_
        refine he_iast hx hb hK hP hD hS 0 rfl (3) (by decide) (by decide) (by first | decide | assumption) dX6_store_71 (fun H locs hP hD hS => ?_)
        have hP : va_P g.1 vwCl [(aI g p1 24 (upd sd 3 (nu 0))), (aI g p2 10 fn), (aI g p3 6 st), (aI g p4 6 me), (aI g z1 3 nu), (oX6 p0 p1 p2 p3 p4 (nI w))] H := hP
        have hD : va_D A [(aI g p1 24 (upd sd 3 (nu 0))), (aI g p2 10 fn), (aI g p3 6 st), (aI g p4 6 me), (aI g z1 3 nu), (oX6 p0 p1 p2 p3 p4 (nI w))] := hD
        refine lv_iinc (v := 1) (lv' := [(3, .int 1), (0, .ref p0), (1, .int 1), (2, .ref z1)]) hx hb dX6_store_72 hl (k := 0) rfl (by decide) (by decide) rfl (fun ls hl => ?_)
        refine lv_goto (tgt := 50) hx hb dX6_store_75 (by decide) ?_
        refine lv_iload_n hx hb dX6_store_50 rfl (lv_at hl 0 rfl) ?_
        refine lv_aload_n hx hb dX6_store_51 rfl (lv_at hl 1 rfl) ?_
        refine lv_iload_n hx hb dX6_store_52 rfl (lv_at hl 2 rfl) ?_
        refine he_ci (wc := [(oX6 p0 p1 p2 p3 p4 (nI w))]) (wr := [(aI g p1 24 (upd sd 3 (nu 0))), (aI g p2 10 fn), (aI g p3 6 st), (aI g p4 6 me), (aI g z1 3 nu)]) (va_runV (As := [.int 1]) (rest := [.int 1]) ⟨hx, hb, hml, hown, hts⟩ (p_X6_numbers_1 l g p0 p1 p2 p3 p4 (nI w) H.size) (cwV 1 hts gX6_store_X6_numbers rfl rfl rfl (by decide +kernel) ⟨Nat.le_of_ble_eq_true rfl, Nat.le_of_ble_eq_true rfl⟩) (he_preV (wc := [(oX6 p0 p1 p2 p3 p4 (nI w))]) hK hP hD hS hA hE [5] rfl rfl 5 rfl rfl) rfl rfl hl.1 rfl (lv_room (Nat.le_of_ble_eq_true rfl)) dX6_store_53 ⟨(Nat.le_of_ble_eq_true rfl), (Nat.le_of_ble_eq_true rfl)⟩) hP hD hS hA [5] [0, 1, 2, 3, 4] rfl rfl rfl (by decide) (fun r_7 u_8 H locs h_9 hP hD hS => ?_)
        subst h_9
        have hP : va_P g.1 vwCl [(aI g p1 24 (upd sd 3 (nu 0))), (aI g p2 10 fn), (aI g p3 6 st), (aI g p4 6 me), (aI g z1 3 nu), (oX6 p0 p1 p2 p3 p4 (nI w))] H := hP
        have hD : va_D A [(aI g p1 24 (upd sd 3 (nu 0))), (aI g p2 10 fn), (aI g p3 6 st), (aI g p4 6 me), (aI g z1 3 nu), (oX6 p0 p1 p2 p3 p4 (nI w))] := hD
        refine lv_icmp_ge (tgt := 78) hx hb dX6_store_56 (by decide) (fun c_10 => ?_) (fun c_10 => ?_)
        · exact absurd c_10 (by decide)
        · refine lv_aload_n hx hb dX6_store_59 rfl (lv_at hl 1 rfl) ?_
          refine va_get (v := .ref p1) (T := TX6) (N := 5) hx hb hts inX6 hown hK hP 5 rfl rfl 0 (by decide) f15 (fun _ h9 => h9) rfl dX6_store_60 ?_
          refine lv_iload_n hx hb dX6_store_63 rfl (lv_at hl 2 rfl) ?_
          refine lv_iconst (v := 3) hx hb dX6_store_64 (by decide) ?_
          refine lv_imul hx hb dX6_store_65 ?_
          refine he_top (3) (by decide) ?_
          refine lv_iload_n hx hb dX6_store_66 rfl (lv_at hl 0 rfl) ?_
          refine lv_iadd hx hb dX6_store_67 ?_
          refine he_top (4) (by decide) ?_
          refine lv_aload_n hx hb dX6_store_68 rfl (lv_at hl 3 rfl) ?_
          refine lv_iload_n hx hb dX6_store_69 rfl (lv_at hl 0 rfl) ?_
          refine he_iald hx hb hK hP 4 rfl (1) (by decide) (by decide) (by first | decide | assumption) (nu 1) rfl dX6_store_70 ?_
          refine he_iast hx hb hK hP hD hS 0 rfl (4) (by decide) (by decide) (by first | decide | assumption) dX6_store_71 (fun H locs hP hD hS => ?_)
          have hP : va_P g.1 vwCl [(aI g p1 24 (upd (upd sd 3 (nu 0)) 4 (nu 1))), (aI g p2 10 fn), (aI g p3 6 st), (aI g p4 6 me), (aI g z1 3 nu), (oX6 p0 p1 p2 p3 p4 (nI w))] H := hP
          have hD : va_D A [(aI g p1 24 (upd (upd sd 3 (nu 0)) 4 (nu 1))), (aI g p2 10 fn), (aI g p3 6 st), (aI g p4 6 me), (aI g z1 3 nu), (oX6 p0 p1 p2 p3 p4 (nI w))] := hD
          refine lv_iinc (v := 2) (lv' := [(3, .int 2), (0, .ref p0), (1, .int 1), (2, .ref z1)]) hx hb dX6_store_72 hl (k := 0) rfl (by decide) (by decide) rfl (fun ls hl => ?_)
          refine lv_goto (tgt := 50) hx hb dX6_store_75 (by decide) ?_
          refine lv_iload_n hx hb dX6_store_50 rfl (lv_at hl 0 rfl) ?_
          refine lv_aload_n hx hb dX6_store_51 rfl (lv_at hl 1 rfl) ?_
          refine lv_iload_n hx hb dX6_store_52 rfl (lv_at hl 2 rfl) ?_
          refine he_ci (wc := [(oX6 p0 p1 p2 p3 p4 (nI w))]) (wr := [(aI g p1 24 (upd (upd sd 3 (nu 0)) 4 (nu 1))), (aI g p2 10 fn), (aI g p3 6 st), (aI g p4 6 me), (aI g z1 3 nu)]) (va_runV (As := [.int 1]) (rest := [.int 2]) ⟨hx, hb, hml, hown, hts⟩ (p_X6_numbers_1 l g p0 p1 p2 p3 p4 (nI w) H.size) (cwV 1 hts gX6_store_X6_numbers rfl rfl rfl (by decide +kernel) ⟨Nat.le_of_ble_eq_true rfl, Nat.le_of_ble_eq_true rfl⟩) (he_preV (wc := [(oX6 p0 p1 p2 p3 p4 (nI w))]) hK hP hD hS hA hE [5] rfl rfl 5 rfl rfl) rfl rfl hl.1 rfl (lv_room (Nat.le_of_ble_eq_true rfl)) dX6_store_53 ⟨(Nat.le_of_ble_eq_true rfl), (Nat.le_of_ble_eq_true rfl)⟩) hP hD hS hA [5] [0, 1, 2, 3, 4] rfl rfl rfl (by decide) (fun r_11 u_12 H locs h_13 hP hD hS => ?_)
          subst h_13
          have hP : va_P g.1 vwCl [(aI g p1 24 (upd (upd sd 3 (nu 0)) 4 (nu 1))), (aI g p2 10 fn), (aI g p3 6 st), (aI g p4 6 me), (aI g z1 3 nu), (oX6 p0 p1 p2 p3 p4 (nI w))] H := hP
          have hD : va_D A [(aI g p1 24 (upd (upd sd 3 (nu 0)) 4 (nu 1))), (aI g p2 10 fn), (aI g p3 6 st), (aI g p4 6 me), (aI g z1 3 nu), (oX6 p0 p1 p2 p3 p4 (nI w))] := hD
          refine lv_icmp_ge (tgt := 78) hx hb dX6_store_56 (by decide) (fun c_14 => ?_) (fun c_14 => ?_)
          · exact absurd c_14 (by decide)
          · refine lv_aload_n hx hb dX6_store_59 rfl (lv_at hl 1 rfl) ?_
            refine va_get (v := .ref p1) (T := TX6) (N := 5) hx hb hts inX6 hown hK hP 5 rfl rfl 0 (by decide) f15 (fun _ h9 => h9) rfl dX6_store_60 ?_
            refine lv_iload_n hx hb dX6_store_63 rfl (lv_at hl 2 rfl) ?_
            refine lv_iconst (v := 3) hx hb dX6_store_64 (by decide) ?_
            refine lv_imul hx hb dX6_store_65 ?_
            refine he_top (3) (by decide) ?_
            refine lv_iload_n hx hb dX6_store_66 rfl (lv_at hl 0 rfl) ?_
            refine lv_iadd hx hb dX6_store_67 ?_
            refine he_top (5) (by decide) ?_
            refine lv_aload_n hx hb dX6_store_68 rfl (lv_at hl 3 rfl) ?_
            refine lv_iload_n hx hb dX6_store_69 rfl (lv_at hl 0 rfl) ?_
            refine he_iald hx hb hK hP 4 rfl (2) (by decide) (by decide) (by first | decide | assumption) (nu 2) rfl dX6_store_70 ?_
            refine he_iast hx hb hK hP hD hS 0 rfl (5) (by decide) (by decide) (by first | decide | assumption) dX6_store_71 (fun H locs hP hD hS => ?_)
            have hP : va_P g.1 vwCl [(aI g p1 24 (upd (upd (upd sd 3 (nu 0)) 4 (nu 1)) 5 (nu 2))), (aI g p2 10 fn), (aI g p3 6 st), (aI g p4 6 me), (aI g z1 3 nu), (oX6 p0 p1 p2 p3 p4 (nI w))] H := hP
            have hD : va_D A [(aI g p1 24 (upd (upd (upd sd 3 (nu 0)) 4 (nu 1)) 5 (nu 2))), (aI g p2 10 fn), (aI g p3 6 st), (aI g p4 6 me), (aI g z1 3 nu), (oX6 p0 p1 p2 p3 p4 (nI w))] := hD
            refine lv_iinc (v := 3) (lv' := [(3, .int 3), (0, .ref p0), (1, .int 1), (2, .ref z1)]) hx hb dX6_store_72 hl (k := 0) rfl (by decide) (by decide) rfl (fun ls hl => ?_)
            refine lv_goto (tgt := 50) hx hb dX6_store_75 (by decide) ?_
            refine lv_iload_n hx hb dX6_store_50 rfl (lv_at hl 0 rfl) ?_
            refine lv_aload_n hx hb dX6_store_51 rfl (lv_at hl 1 rfl) ?_
            refine lv_iload_n hx hb dX6_store_52 rfl (lv_at hl 2 rfl) ?_
            refine he_ci (wc := [(oX6 p0 p1 p2 p3 p4 (nI w))]) (wr := [(aI g p1 24 (upd (upd (upd sd 3 (nu 0)) 4 (nu 1)) 5 (nu 2))), (aI g p2 10 fn), (aI g p3 6 st), (aI g p4 6 me), (aI g z1 3 nu)]) (va_runV (As := [.int 1]) (rest := [.int 3]) ⟨hx, hb, hml, hown, hts⟩ (p_X6_numbers_1 l g p0 p1 p2 p3 p4 (nI w) H.size) (cwV 1 hts gX6_store_X6_numbers rfl rfl rfl (by decide +kernel) ⟨Nat.le_of_ble_eq_true rfl, Nat.le_of_ble_eq_true rfl⟩) (he_preV (wc := [(oX6 p0 p1 p2 p3 p4 (nI w))]) hK hP hD hS hA hE [5] rfl rfl 5 rfl rfl) rfl rfl hl.1 rfl (lv_room (Nat.le_of_ble_eq_true rfl)) dX6_store_53 ⟨(Nat.le_of_ble_eq_true rfl), (Nat.le_of_ble_eq_true rfl)⟩) hP hD hS hA [5] [0, 1, 2, 3, 4] rfl rfl rfl (by decide) (fun r_15 u_16 H locs h_17 hP hD hS => ?_)
            subst h_17
            have hP : va_P g.1 vwCl [(aI g p1 24 (upd (upd (upd sd 3 (nu 0)) 4 (nu 1)) 5 (nu 2))), (aI g p2 10 fn), (aI g p3 6 st), (aI g p4 6 me), (aI g z1 3 nu), (oX6 p0 p1 p2 p3 p4 (nI w))] H := hP
            have hD : va_D A [(aI g p1 24 (upd (upd (upd sd 3 (nu 0)) 4 (nu 1)) 5 (nu 2))), (aI g p2 10 fn), (aI g p3 6 st), (aI g p4 6 me), (aI g z1 3 nu), (oX6 p0 p1 p2 p3 p4 (nI w))] := hD
            refine lv_icmp_ge (tgt := 78) hx hb dX6_store_56 (by decide) (fun c_18 => ?_) (fun c_18 => ?_)
            · have hP := hP.sub (ws' := [(oX6 p0 p1 p2 p3 p4 (nI w)), (aI g p1 24 (upd (upd (upd sd 3 (nu 0)) 4 (nu 1)) 5 (nu 2))), (aI g p2 10 fn), (aI g p3 6 st), (aI g p4 6 me), (aI g z1 3 nu)]) [5, 0, 1, 2, 3, 4] rfl
              have hD := hD.sub (ws' := [(oX6 p0 p1 p2 p3 p4 (nI w)), (aI g p1 24 (upd (upd (upd sd 3 (nu 0)) 4 (nu 1)) 5 (nu 2))), (aI g p2 10 fn), (aI g p3 6 st), (aI g p4 6 me), (aI g z1 3 nu)]) [5, 0, 1, 2, 3, 4] (by decide) rfl
              exact he_rv hQ hx hb hr hlk hP hD hS dX6_store_78 (Nat.le_of_ble_eq_true rfl) (Nat.le_of_ble_eq_true rfl) (()) (rfl) (trivial)
            · exact absurd (by decide) c_18
    · exact absurd c_2 (by decide)
  · exact absurd c_1 (by decide)
set_option maxHeartbeats 4000000 in
set_option maxRecDepth 100000 in
theorem p_X6_store_2 (l : Launch) (g : he_G) (p0 : Nat) (p1 : Nat) (p2 : Nat) (p3 : Nat) (p4 : Nat) (w : Nat) (sd : Nat → Int32) (fn : Nat → Int32) (st : Nat → Int32) (me : Nat → Int32) (z1 : Nat) (nu : Nat → Int32)  : he_V l yX6_store wsX6_store 2 43 0 0 g [.ref p0, .int 2, .ref z1] [(oX6 p0 p1 p2 p3 p4 (nI w)), (aI g p1 24 sd), (aI g p2 10 fn), (aI g p3 6 st), (aI g p4 6 me), (aI g z1 3 nu)] (fun (u : Unit) => True) (fun (u : Unit) => [(oX6 p0 p1 p2 p3 p4 (nI w)), (aI g p1 24 (upd (upd (upd sd 6 (nu 0)) 7 (nu 1)) 8 (nu 2))), (aI g p2 10 fn), (aI g p3 6 st), (aI g p4 6 me), (aI g z1 3 nu)]) := by
  refine he_begin (l := l) (g := g) (y := yX6_store) (wl := wsX6_store) (fr := 2) (lo := 43) (mc := 0) (ms := 0) (av := [.ref p0, .int 2, .ref z1]) (ws := [(oX6 p0 p1 p2 p3 p4 (nI w)), (aI g p1 24 sd), (aI g p2 10 fn), (aI g p3 6 st), (aI g p4 6 me), (aI g z1 3 nu)]) (cc := cX6_store) (maxL := 4) (ret := none) (fun A => va_Qv (fun (u : Unit) => True) (fun u t => he_post g A ((fun (u : Unit) => [(oX6 p0 p1 p2 p3 p4 (nI w)), (aI g p1 24 (upd (upd (upd sd 6 (nu 0)) 7 (nu 1)) 8 (nu 2))), (aI g p2 10 fn), (aI g p3 6 st), (aI g p4 6 me), (aI g z1 3 nu)]) u) t) A) (by decide) rfl (Nat.le_of_ble_eq_true rfl) ?_
  intro p e s m args below meth c A ls H locs Q hQ hB
  obtain ⟨hx, hb, hr, hml, hown, hts, hlk, hin, hP, hK, hD, hS, hA, hE, hl⟩ := hB
  have hl : lv_has ls 4 [(0, .ref p0), (1, .int 2), (2, .ref z1)] := hl
  have f15 := hts (.fieldLink RX6 15 "HiredEnemy$Plan" "said" "[I") (iwoX6_store (k := 1) rfl)
  have inX6 : ∀ w ∈ wsX60, w ∈ wsX6_store := innX6_store_X6
  refine lv_iload_n hx hb dX6_store_0 rfl (lv_at hl 1 rfl) ?_
  refine lv_if_ne (tgt := 17) hx hb dX6_store_1 (by decide) (fun c_1 => ?_) (fun c_1 => ?_)
  · refine lv_iload_n hx hb dX6_store_17 rfl (lv_at hl 1 rfl) ?_
    refine lv_iconst (v := 5) hx hb dX6_store_18 (by decide) ?_
    refine lv_icmp_ne (tgt := 48) hx hb dX6_store_19 (by decide) (fun c_2 => ?_) (fun c_2 => ?_)
    · refine lv_iconst (v := 0) hx hb dX6_store_48 (by decide) ?_
      refine lv_istore_n (lv' := [(3, .int 0), (0, .ref p0), (1, .int 2), (2, .ref z1)]) hx hb dX6_store_49 rfl hl (by decide) rfl (fun ls hl => ?_)
      refine lv_iload_n hx hb dX6_store_50 rfl (lv_at hl 0 rfl) ?_
      refine lv_aload_n hx hb dX6_store_51 rfl (lv_at hl 1 rfl) ?_
      refine lv_iload_n hx hb dX6_store_52 rfl (lv_at hl 2 rfl) ?_
      refine he_ci (wc := [(oX6 p0 p1 p2 p3 p4 (nI w))]) (wr := [(aI g p1 24 sd), (aI g p2 10 fn), (aI g p3 6 st), (aI g p4 6 me), (aI g z1 3 nu)]) (va_runV (As := [.int 2]) (rest := [.int 0]) ⟨hx, hb, hml, hown, hts⟩ (p_X6_numbers_2 l g p0 p1 p2 p3 p4 (nI w) H.size) (cwV 1 hts gX6_store_X6_numbers rfl rfl rfl (by decide +kernel) ⟨Nat.le_of_ble_eq_true rfl, Nat.le_of_ble_eq_true rfl⟩) (he_preV (wc := [(oX6 p0 p1 p2 p3 p4 (nI w))]) hK hP hD hS hA hE [0] rfl rfl 0 rfl rfl) rfl rfl hl.1 rfl (lv_room (Nat.le_of_ble_eq_true rfl)) dX6_store_53 ⟨(Nat.le_of_ble_eq_true rfl), (Nat.le_of_ble_eq_true rfl)⟩) hP hD hS hA [0] [1, 2, 3, 4, 5] rfl rfl rfl (by decide) (fun r_3 u_4 H locs h_5 hP hD hS => ?_)
      subst h_5
      have hP : va_P g.1 vwCl [(aI g p1 24 sd), (aI g p2 10 fn), (aI g p3 6 st), (aI g p4 6 me), (aI g z1 3 nu), (oX6 p0 p1 p2 p3 p4 (nI w))] H := hP
      have hD : va_D A [(aI g p1 24 sd), (aI g p2 10 fn), (aI g p3 6 st), (aI g p4 6 me), (aI g z1 3 nu), (oX6 p0 p1 p2 p3 p4 (nI w))] := hD
      refine lv_icmp_ge (tgt := 78) hx hb dX6_store_56 (by decide) (fun c_6 => ?_) (fun c_6 => ?_)
      · exact absurd c_6 (by decide)
      · refine lv_aload_n hx hb dX6_store_59 rfl (lv_at hl 1 rfl) ?_
        refine va_get (v := .ref p1) (T := TX6) (N := 5) hx hb hts inX6 hown hK hP 5 rfl rfl 0 (by decide) f15 (fun _ h9 => h9) rfl dX6_store_60 ?_
        refine lv_iload_n hx hb dX6_store_63 rfl (lv_at hl 2 rfl) ?_
        refine lv_iconst (v := 3) hx hb dX6_store_64 (by decide) ?_
        refine lv_imul hx hb dX6_store_65 ?_
        refine he_top (6) (by decide) ?_
        refine lv_iload_n hx hb dX6_store_66 rfl (lv_at hl 0 rfl) ?_
        refine lv_iadd hx hb dX6_store_67 ?_
        refine he_top (6) (by decide) ?_
        refine lv_aload_n hx hb dX6_store_68 rfl (lv_at hl 3 rfl) ?_
        refine lv_iload_n hx hb dX6_store_69 rfl (lv_at hl 0 rfl) ?_
        refine he_iald hx hb hK hP 4 rfl (0) (by decide) (by decide) (by first | decide | assumption) (nu 0) rfl dX6_store_70 ?_
        refine he_iast hx hb hK hP hD hS 0 rfl (6) (by decide) (by decide) (by first | decide | assumption) dX6_store_71 (fun H locs hP hD hS => ?_)
        have hP : va_P g.1 vwCl [(aI g p1 24 (upd sd 6 (nu 0))), (aI g p2 10 fn), (aI g p3 6 st), (aI g p4 6 me), (aI g z1 3 nu), (oX6 p0 p1 p2 p3 p4 (nI w))] H := hP
        have hD : va_D A [(aI g p1 24 (upd sd 6 (nu 0))), (aI g p2 10 fn), (aI g p3 6 st), (aI g p4 6 me), (aI g z1 3 nu), (oX6 p0 p1 p2 p3 p4 (nI w))] := hD
        refine lv_iinc (v := 1) (lv' := [(3, .int 1), (0, .ref p0), (1, .int 2), (2, .ref z1)]) hx hb dX6_store_72 hl (k := 0) rfl (by decide) (by decide) rfl (fun ls hl => ?_)
        refine lv_goto (tgt := 50) hx hb dX6_store_75 (by decide) ?_
        refine lv_iload_n hx hb dX6_store_50 rfl (lv_at hl 0 rfl) ?_
        refine lv_aload_n hx hb dX6_store_51 rfl (lv_at hl 1 rfl) ?_
        refine lv_iload_n hx hb dX6_store_52 rfl (lv_at hl 2 rfl) ?_
        refine he_ci (wc := [(oX6 p0 p1 p2 p3 p4 (nI w))]) (wr := [(aI g p1 24 (upd sd 6 (nu 0))), (aI g p2 10 fn), (aI g p3 6 st), (aI g p4 6 me), (aI g z1 3 nu)]) (va_runV (As := [.int 2]) (rest := [.int 1]) ⟨hx, hb, hml, hown, hts⟩ (p_X6_numbers_2 l g p0 p1 p2 p3 p4 (nI w) H.size) (cwV 1 hts gX6_store_X6_numbers rfl rfl rfl (by decide +kernel) ⟨Nat.le_of_ble_eq_true rfl, Nat.le_of_ble_eq_true rfl⟩) (he_preV (wc := [(oX6 p0 p1 p2 p3 p4 (nI w))]) hK hP hD hS hA hE [5] rfl rfl 5 rfl rfl) rfl rfl hl.1 rfl (lv_room (Nat.le_of_ble_eq_true rfl)) dX6_store_53 ⟨(Nat.le_of_ble_eq_true rfl), (Nat.le_of_ble_eq_true rfl)⟩) hP hD hS hA [5] [0, 1, 2, 3, 4] rfl rfl rfl (by decide) (fun r_7 u_8 H locs h_9 hP hD hS => ?_)
        subst h_9
        have hP : va_P g.1 vwCl [(aI g p1 24 (upd sd 6 (nu 0))), (aI g p2 10 fn), (aI g p3 6 st), (aI g p4 6 me), (aI g z1 3 nu), (oX6 p0 p1 p2 p3 p4 (nI w))] H := hP
        have hD : va_D A [(aI g p1 24 (upd sd 6 (nu 0))), (aI g p2 10 fn), (aI g p3 6 st), (aI g p4 6 me), (aI g z1 3 nu), (oX6 p0 p1 p2 p3 p4 (nI w))] := hD
        refine lv_icmp_ge (tgt := 78) hx hb dX6_store_56 (by decide) (fun c_10 => ?_) (fun c_10 => ?_)
        · exact absurd c_10 (by decide)
        · refine lv_aload_n hx hb dX6_store_59 rfl (lv_at hl 1 rfl) ?_
          refine va_get (v := .ref p1) (T := TX6) (N := 5) hx hb hts inX6 hown hK hP 5 rfl rfl 0 (by decide) f15 (fun _ h9 => h9) rfl dX6_store_60 ?_
          refine lv_iload_n hx hb dX6_store_63 rfl (lv_at hl 2 rfl) ?_
          refine lv_iconst (v := 3) hx hb dX6_store_64 (by decide) ?_
          refine lv_imul hx hb dX6_store_65 ?_
          refine he_top (6) (by decide) ?_
          refine lv_iload_n hx hb dX6_store_66 rfl (lv_at hl 0 rfl) ?_
          refine lv_iadd hx hb dX6_store_67 ?_
          refine he_top (7) (by decide) ?_
          refine lv_aload_n hx hb dX6_store_68 rfl (lv_at hl 3 rfl) ?_
          refine lv_iload_n hx hb dX6_store_69 rfl (lv_at hl 0 rfl) ?_
          refine he_iald hx hb hK hP 4 rfl (1) (by decide) (by decide) (by first | decide | assumption) (nu 1) rfl dX6_store_70 ?_
          refine he_iast hx hb hK hP hD hS 0 rfl (7) (by decide) (by decide) (by first | decide | assumption) dX6_store_71 (fun H locs hP hD hS => ?_)
          have hP : va_P g.1 vwCl [(aI g p1 24 (upd (upd sd 6 (nu 0)) 7 (nu 1))), (aI g p2 10 fn), (aI g p3 6 st), (aI g p4 6 me), (aI g z1 3 nu), (oX6 p0 p1 p2 p3 p4 (nI w))] H := hP
          have hD : va_D A [(aI g p1 24 (upd (upd sd 6 (nu 0)) 7 (nu 1))), (aI g p2 10 fn), (aI g p3 6 st), (aI g p4 6 me), (aI g z1 3 nu), (oX6 p0 p1 p2 p3 p4 (nI w))] := hD
          refine lv_iinc (v := 2) (lv' := [(3, .int 2), (0, .ref p0), (1, .int 2), (2, .ref z1)]) hx hb dX6_store_72 hl (k := 0) rfl (by decide) (by decide) rfl (fun ls hl => ?_)
          refine lv_goto (tgt := 50) hx hb dX6_store_75 (by decide) ?_
          refine lv_iload_n hx hb dX6_store_50 rfl (lv_at hl 0 rfl) ?_
          refine lv_aload_n hx hb dX6_store_51 rfl (lv_at hl 1 rfl) ?_
          refine lv_iload_n hx hb dX6_store_52 rfl (lv_at hl 2 rfl) ?_
          refine he_ci (wc := [(oX6 p0 p1 p2 p3 p4 (nI w))]) (wr := [(aI g p1 24 (upd (upd sd 6 (nu 0)) 7 (nu 1))), (aI g p2 10 fn), (aI g p3 6 st), (aI g p4 6 me), (aI g z1 3 nu)]) (va_runV (As := [.int 2]) (rest := [.int 2]) ⟨hx, hb, hml, hown, hts⟩ (p_X6_numbers_2 l g p0 p1 p2 p3 p4 (nI w) H.size) (cwV 1 hts gX6_store_X6_numbers rfl rfl rfl (by decide +kernel) ⟨Nat.le_of_ble_eq_true rfl, Nat.le_of_ble_eq_true rfl⟩) (he_preV (wc := [(oX6 p0 p1 p2 p3 p4 (nI w))]) hK hP hD hS hA hE [5] rfl rfl 5 rfl rfl) rfl rfl hl.1 rfl (lv_room (Nat.le_of_ble_eq_true rfl)) dX6_store_53 ⟨(Nat.le_of_ble_eq_true rfl), (Nat.le_of_ble_eq_true rfl)⟩) hP hD hS hA [5] [0, 1, 2, 3, 4] rfl rfl rfl (by decide) (fun r_11 u_12 H locs h_13 hP hD hS => ?_)
          subst h_13
          have hP : va_P g.1 vwCl [(aI g p1 24 (upd (upd sd 6 (nu 0)) 7 (nu 1))), (aI g p2 10 fn), (aI g p3 6 st), (aI g p4 6 me), (aI g z1 3 nu), (oX6 p0 p1 p2 p3 p4 (nI w))] H := hP
          have hD : va_D A [(aI g p1 24 (upd (upd sd 6 (nu 0)) 7 (nu 1))), (aI g p2 10 fn), (aI g p3 6 st), (aI g p4 6 me), (aI g z1 3 nu), (oX6 p0 p1 p2 p3 p4 (nI w))] := hD
          refine lv_icmp_ge (tgt := 78) hx hb dX6_store_56 (by decide) (fun c_14 => ?_) (fun c_14 => ?_)
          · exact absurd c_14 (by decide)
          · refine lv_aload_n hx hb dX6_store_59 rfl (lv_at hl 1 rfl) ?_
            refine va_get (v := .ref p1) (T := TX6) (N := 5) hx hb hts inX6 hown hK hP 5 rfl rfl 0 (by decide) f15 (fun _ h9 => h9) rfl dX6_store_60 ?_
            refine lv_iload_n hx hb dX6_store_63 rfl (lv_at hl 2 rfl) ?_
            refine lv_iconst (v := 3) hx hb dX6_store_64 (by decide) ?_
            refine lv_imul hx hb dX6_store_65 ?_
            refine he_top (6) (by decide) ?_
            refine lv_iload_n hx hb dX6_store_66 rfl (lv_at hl 0 rfl) ?_
            refine lv_iadd hx hb dX6_store_67 ?_
            refine he_top (8) (by decide) ?_
            refine lv_aload_n hx hb dX6_store_68 rfl (lv_at hl 3 rfl) ?_
            refine lv_iload_n hx hb dX6_store_69 rfl (lv_at hl 0 rfl) ?_
            refine he_iald hx hb hK hP 4 rfl (2) (by decide) (by decide) (by first | decide | assumption) (nu 2) rfl dX6_store_70 ?_
            refine he_iast hx hb hK hP hD hS 0 rfl (8) (by decide) (by decide) (by first | decide | assumption) dX6_store_71 (fun H locs hP hD hS => ?_)
            have hP : va_P g.1 vwCl [(aI g p1 24 (upd (upd (upd sd 6 (nu 0)) 7 (nu 1)) 8 (nu 2))), (aI g p2 10 fn), (aI g p3 6 st), (aI g p4 6 me), (aI g z1 3 nu), (oX6 p0 p1 p2 p3 p4 (nI w))] H := hP
            have hD : va_D A [(aI g p1 24 (upd (upd (upd sd 6 (nu 0)) 7 (nu 1)) 8 (nu 2))), (aI g p2 10 fn), (aI g p3 6 st), (aI g p4 6 me), (aI g z1 3 nu), (oX6 p0 p1 p2 p3 p4 (nI w))] := hD
            refine lv_iinc (v := 3) (lv' := [(3, .int 3), (0, .ref p0), (1, .int 2), (2, .ref z1)]) hx hb dX6_store_72 hl (k := 0) rfl (by decide) (by decide) rfl (fun ls hl => ?_)
            refine lv_goto (tgt := 50) hx hb dX6_store_75 (by decide) ?_
            refine lv_iload_n hx hb dX6_store_50 rfl (lv_at hl 0 rfl) ?_
            refine lv_aload_n hx hb dX6_store_51 rfl (lv_at hl 1 rfl) ?_
            refine lv_iload_n hx hb dX6_store_52 rfl (lv_at hl 2 rfl) ?_
            refine he_ci (wc := [(oX6 p0 p1 p2 p3 p4 (nI w))]) (wr := [(aI g p1 24 (upd (upd (upd sd 6 (nu 0)) 7 (nu 1)) 8 (nu 2))), (aI g p2 10 fn), (aI g p3 6 st), (aI g p4 6 me), (aI g z1 3 nu)]) (va_runV (As := [.int 2]) (rest := [.int 3]) ⟨hx, hb, hml, hown, hts⟩ (p_X6_numbers_2 l g p0 p1 p2 p3 p4 (nI w) H.size) (cwV 1 hts gX6_store_X6_numbers rfl rfl rfl (by decide +kernel) ⟨Nat.le_of_ble_eq_true rfl, Nat.le_of_ble_eq_true rfl⟩) (he_preV (wc := [(oX6 p0 p1 p2 p3 p4 (nI w))]) hK hP hD hS hA hE [5] rfl rfl 5 rfl rfl) rfl rfl hl.1 rfl (lv_room (Nat.le_of_ble_eq_true rfl)) dX6_store_53 ⟨(Nat.le_of_ble_eq_true rfl), (Nat.le_of_ble_eq_true rfl)⟩) hP hD hS hA [5] [0, 1, 2, 3, 4] rfl rfl rfl (by decide) (fun r_15 u_16 H locs h_17 hP hD hS => ?_)
            subst h_17
            have hP : va_P g.1 vwCl [(aI g p1 24 (upd (upd (upd sd 6 (nu 0)) 7 (nu 1)) 8 (nu 2))), (aI g p2 10 fn), (aI g p3 6 st), (aI g p4 6 me), (aI g z1 3 nu), (oX6 p0 p1 p2 p3 p4 (nI w))] H := hP
            have hD : va_D A [(aI g p1 24 (upd (upd (upd sd 6 (nu 0)) 7 (nu 1)) 8 (nu 2))), (aI g p2 10 fn), (aI g p3 6 st), (aI g p4 6 me), (aI g z1 3 nu), (oX6 p0 p1 p2 p3 p4 (nI w))] := hD
            refine lv_icmp_ge (tgt := 78) hx hb dX6_store_56 (by decide) (fun c_18 => ?_) (fun c_18 => ?_)
            · have hP := hP.sub (ws' := [(oX6 p0 p1 p2 p3 p4 (nI w)), (aI g p1 24 (upd (upd (upd sd 6 (nu 0)) 7 (nu 1)) 8 (nu 2))), (aI g p2 10 fn), (aI g p3 6 st), (aI g p4 6 me), (aI g z1 3 nu)]) [5, 0, 1, 2, 3, 4] rfl
              have hD := hD.sub (ws' := [(oX6 p0 p1 p2 p3 p4 (nI w)), (aI g p1 24 (upd (upd (upd sd 6 (nu 0)) 7 (nu 1)) 8 (nu 2))), (aI g p2 10 fn), (aI g p3 6 st), (aI g p4 6 me), (aI g z1 3 nu)]) [5, 0, 1, 2, 3, 4] (by decide) rfl
              exact he_rv hQ hx hb hr hlk hP hD hS dX6_store_78 (Nat.le_of_ble_eq_true rfl) (Nat.le_of_ble_eq_true rfl) (()) (rfl) (trivial)
            · exact absurd (by decide) c_18
    · exact absurd c_2 (by decide)
  · exact absurd c_1 (by decide)
set_option maxHeartbeats 4000000 in
set_option maxRecDepth 100000 in
theorem p_X6_store_3 (l : Launch) (g : he_G) (p0 : Nat) (p1 : Nat) (p2 : Nat) (p3 : Nat) (p4 : Nat) (w : Nat) (sd : Nat → Int32) (fn : Nat → Int32) (st : Nat → Int32) (me : Nat → Int32) (z1 : Nat) (nu : Nat → Int32)  : he_V l yX6_store wsX6_store 2 43 0 0 g [.ref p0, .int 3, .ref z1] [(oX6 p0 p1 p2 p3 p4 (nI w)), (aI g p1 24 sd), (aI g p2 10 fn), (aI g p3 6 st), (aI g p4 6 me), (aI g z1 3 nu)] (fun (u : Unit) => True) (fun (u : Unit) => [(oX6 p0 p1 p2 p3 p4 (nI w)), (aI g p1 24 (upd (upd sd 9 (nu 0)) 10 (nu 1))), (aI g p2 10 fn), (aI g p3 6 st), (aI g p4 6 me), (aI g z1 3 nu)]) := by
  refine he_begin (l := l) (g := g) (y := yX6_store) (wl := wsX6_store) (fr := 2) (lo := 43) (mc := 0) (ms := 0) (av := [.ref p0, .int 3, .ref z1]) (ws := [(oX6 p0 p1 p2 p3 p4 (nI w)), (aI g p1 24 sd), (aI g p2 10 fn), (aI g p3 6 st), (aI g p4 6 me), (aI g z1 3 nu)]) (cc := cX6_store) (maxL := 4) (ret := none) (fun A => va_Qv (fun (u : Unit) => True) (fun u t => he_post g A ((fun (u : Unit) => [(oX6 p0 p1 p2 p3 p4 (nI w)), (aI g p1 24 (upd (upd sd 9 (nu 0)) 10 (nu 1))), (aI g p2 10 fn), (aI g p3 6 st), (aI g p4 6 me), (aI g z1 3 nu)]) u) t) A) (by decide) rfl (Nat.le_of_ble_eq_true rfl) ?_
  intro p e s m args below meth c A ls H locs Q hQ hB
  obtain ⟨hx, hb, hr, hml, hown, hts, hlk, hin, hP, hK, hD, hS, hA, hE, hl⟩ := hB
  have hl : lv_has ls 4 [(0, .ref p0), (1, .int 3), (2, .ref z1)] := hl
  have f15 := hts (.fieldLink RX6 15 "HiredEnemy$Plan" "said" "[I") (iwoX6_store (k := 1) rfl)
  have inX6 : ∀ w ∈ wsX60, w ∈ wsX6_store := innX6_store_X6
  refine lv_iload_n hx hb dX6_store_0 rfl (lv_at hl 1 rfl) ?_
  refine lv_if_ne (tgt := 17) hx hb dX6_store_1 (by decide) (fun c_1 => ?_) (fun c_1 => ?_)
  · refine lv_iload_n hx hb dX6_store_17 rfl (lv_at hl 1 rfl) ?_
    refine lv_iconst (v := 5) hx hb dX6_store_18 (by decide) ?_
    refine lv_icmp_ne (tgt := 48) hx hb dX6_store_19 (by decide) (fun c_2 => ?_) (fun c_2 => ?_)
    · refine lv_iconst (v := 0) hx hb dX6_store_48 (by decide) ?_
      refine lv_istore_n (lv' := [(3, .int 0), (0, .ref p0), (1, .int 3), (2, .ref z1)]) hx hb dX6_store_49 rfl hl (by decide) rfl (fun ls hl => ?_)
      refine lv_iload_n hx hb dX6_store_50 rfl (lv_at hl 0 rfl) ?_
      refine lv_aload_n hx hb dX6_store_51 rfl (lv_at hl 1 rfl) ?_
      refine lv_iload_n hx hb dX6_store_52 rfl (lv_at hl 2 rfl) ?_
      refine he_ci (wc := [(oX6 p0 p1 p2 p3 p4 (nI w))]) (wr := [(aI g p1 24 sd), (aI g p2 10 fn), (aI g p3 6 st), (aI g p4 6 me), (aI g z1 3 nu)]) (va_runV (As := [.int 3]) (rest := [.int 0]) ⟨hx, hb, hml, hown, hts⟩ (p_X6_numbers_3 l g p0 p1 p2 p3 p4 (nI w) H.size) (cwV 1 hts gX6_store_X6_numbers rfl rfl rfl (by decide +kernel) ⟨Nat.le_of_ble_eq_true rfl, Nat.le_of_ble_eq_true rfl⟩) (he_preV (wc := [(oX6 p0 p1 p2 p3 p4 (nI w))]) hK hP hD hS hA hE [0] rfl rfl 0 rfl rfl) rfl rfl hl.1 rfl (lv_room (Nat.le_of_ble_eq_true rfl)) dX6_store_53 ⟨(Nat.le_of_ble_eq_true rfl), (Nat.le_of_ble_eq_true rfl)⟩) hP hD hS hA [0] [1, 2, 3, 4, 5] rfl rfl rfl (by decide) (fun r_3 u_4 H locs h_5 hP hD hS => ?_)
      subst h_5
      have hP : va_P g.1 vwCl [(aI g p1 24 sd), (aI g p2 10 fn), (aI g p3 6 st), (aI g p4 6 me), (aI g z1 3 nu), (oX6 p0 p1 p2 p3 p4 (nI w))] H := hP
      have hD : va_D A [(aI g p1 24 sd), (aI g p2 10 fn), (aI g p3 6 st), (aI g p4 6 me), (aI g z1 3 nu), (oX6 p0 p1 p2 p3 p4 (nI w))] := hD
      refine lv_icmp_ge (tgt := 78) hx hb dX6_store_56 (by decide) (fun c_6 => ?_) (fun c_6 => ?_)
      · exact absurd c_6 (by decide)
      · refine lv_aload_n hx hb dX6_store_59 rfl (lv_at hl 1 rfl) ?_
        refine va_get (v := .ref p1) (T := TX6) (N := 5) hx hb hts inX6 hown hK hP 5 rfl rfl 0 (by decide) f15 (fun _ h9 => h9) rfl dX6_store_60 ?_
        refine lv_iload_n hx hb dX6_store_63 rfl (lv_at hl 2 rfl) ?_
        refine lv_iconst (v := 3) hx hb dX6_store_64 (by decide) ?_
        refine lv_imul hx hb dX6_store_65 ?_
        refine he_top (9) (by decide) ?_
        refine lv_iload_n hx hb dX6_store_66 rfl (lv_at hl 0 rfl) ?_
        refine lv_iadd hx hb dX6_store_67 ?_
        refine he_top (9) (by decide) ?_
        refine lv_aload_n hx hb dX6_store_68 rfl (lv_at hl 3 rfl) ?_
        refine lv_iload_n hx hb dX6_store_69 rfl (lv_at hl 0 rfl) ?_
        refine he_iald hx hb hK hP 4 rfl (0) (by decide) (by decide) (by first | decide | assumption) (nu 0) rfl dX6_store_70 ?_
        refine he_iast hx hb hK hP hD hS 0 rfl (9) (by decide) (by decide) (by first | decide | assumption) dX6_store_71 (fun H locs hP hD hS => ?_)
        have hP : va_P g.1 vwCl [(aI g p1 24 (upd sd 9 (nu 0))), (aI g p2 10 fn), (aI g p3 6 st), (aI g p4 6 me), (aI g z1 3 nu), (oX6 p0 p1 p2 p3 p4 (nI w))] H := hP
        have hD : va_D A [(aI g p1 24 (upd sd 9 (nu 0))), (aI g p2 10 fn), (aI g p3 6 st), (aI g p4 6 me), (aI g z1 3 nu), (oX6 p0 p1 p2 p3 p4 (nI w))] := hD
        refine lv_iinc (v := 1) (lv' := [(3, .int 1), (0, .ref p0), (1, .int 3), (2, .ref z1)]) hx hb dX6_store_72 hl (k := 0) rfl (by decide) (by decide) rfl (fun ls hl => ?_)
        refine lv_goto (tgt := 50) hx hb dX6_store_75 (by decide) ?_
        refine lv_iload_n hx hb dX6_store_50 rfl (lv_at hl 0 rfl) ?_
        refine lv_aload_n hx hb dX6_store_51 rfl (lv_at hl 1 rfl) ?_
        refine lv_iload_n hx hb dX6_store_52 rfl (lv_at hl 2 rfl) ?_
        refine he_ci (wc := [(oX6 p0 p1 p2 p3 p4 (nI w))]) (wr := [(aI g p1 24 (upd sd 9 (nu 0))), (aI g p2 10 fn), (aI g p3 6 st), (aI g p4 6 me), (aI g z1 3 nu)]) (va_runV (As := [.int 3]) (rest := [.int 1]) ⟨hx, hb, hml, hown, hts⟩ (p_X6_numbers_3 l g p0 p1 p2 p3 p4 (nI w) H.size) (cwV 1 hts gX6_store_X6_numbers rfl rfl rfl (by decide +kernel) ⟨Nat.le_of_ble_eq_true rfl, Nat.le_of_ble_eq_true rfl⟩) (he_preV (wc := [(oX6 p0 p1 p2 p3 p4 (nI w))]) hK hP hD hS hA hE [5] rfl rfl 5 rfl rfl) rfl rfl hl.1 rfl (lv_room (Nat.le_of_ble_eq_true rfl)) dX6_store_53 ⟨(Nat.le_of_ble_eq_true rfl), (Nat.le_of_ble_eq_true rfl)⟩) hP hD hS hA [5] [0, 1, 2, 3, 4] rfl rfl rfl (by decide) (fun r_7 u_8 H locs h_9 hP hD hS => ?_)
        subst h_9
        have hP : va_P g.1 vwCl [(aI g p1 24 (upd sd 9 (nu 0))), (aI g p2 10 fn), (aI g p3 6 st), (aI g p4 6 me), (aI g z1 3 nu), (oX6 p0 p1 p2 p3 p4 (nI w))] H := hP
        have hD : va_D A [(aI g p1 24 (upd sd 9 (nu 0))), (aI g p2 10 fn), (aI g p3 6 st), (aI g p4 6 me), (aI g z1 3 nu), (oX6 p0 p1 p2 p3 p4 (nI w))] := hD
        refine lv_icmp_ge (tgt := 78) hx hb dX6_store_56 (by decide) (fun c_10 => ?_) (fun c_10 => ?_)
        · exact absurd c_10 (by decide)
        · refine lv_aload_n hx hb dX6_store_59 rfl (lv_at hl 1 rfl) ?_
          refine va_get (v := .ref p1) (T := TX6) (N := 5) hx hb hts inX6 hown hK hP 5 rfl rfl 0 (by decide) f15 (fun _ h9 => h9) rfl dX6_store_60 ?_
          refine lv_iload_n hx hb dX6_store_63 rfl (lv_at hl 2 rfl) ?_
          refine lv_iconst (v := 3) hx hb dX6_store_64 (by decide) ?_
          refine lv_imul hx hb dX6_store_65 ?_
          refine he_top (9) (by decide) ?_
          refine lv_iload_n hx hb dX6_store_66 rfl (lv_at hl 0 rfl) ?_
          refine lv_iadd hx hb dX6_store_67 ?_
          refine he_top (10) (by decide) ?_
          refine lv_aload_n hx hb dX6_store_68 rfl (lv_at hl 3 rfl) ?_
          refine lv_iload_n hx hb dX6_store_69 rfl (lv_at hl 0 rfl) ?_
          refine he_iald hx hb hK hP 4 rfl (1) (by decide) (by decide) (by first | decide | assumption) (nu 1) rfl dX6_store_70 ?_
          refine he_iast hx hb hK hP hD hS 0 rfl (10) (by decide) (by decide) (by first | decide | assumption) dX6_store_71 (fun H locs hP hD hS => ?_)
          have hP : va_P g.1 vwCl [(aI g p1 24 (upd (upd sd 9 (nu 0)) 10 (nu 1))), (aI g p2 10 fn), (aI g p3 6 st), (aI g p4 6 me), (aI g z1 3 nu), (oX6 p0 p1 p2 p3 p4 (nI w))] H := hP
          have hD : va_D A [(aI g p1 24 (upd (upd sd 9 (nu 0)) 10 (nu 1))), (aI g p2 10 fn), (aI g p3 6 st), (aI g p4 6 me), (aI g z1 3 nu), (oX6 p0 p1 p2 p3 p4 (nI w))] := hD
          refine lv_iinc (v := 2) (lv' := [(3, .int 2), (0, .ref p0), (1, .int 3), (2, .ref z1)]) hx hb dX6_store_72 hl (k := 0) rfl (by decide) (by decide) rfl (fun ls hl => ?_)
          refine lv_goto (tgt := 50) hx hb dX6_store_75 (by decide) ?_
          refine lv_iload_n hx hb dX6_store_50 rfl (lv_at hl 0 rfl) ?_
          refine lv_aload_n hx hb dX6_store_51 rfl (lv_at hl 1 rfl) ?_
          refine lv_iload_n hx hb dX6_store_52 rfl (lv_at hl 2 rfl) ?_
          refine he_ci (wc := [(oX6 p0 p1 p2 p3 p4 (nI w))]) (wr := [(aI g p1 24 (upd (upd sd 9 (nu 0)) 10 (nu 1))), (aI g p2 10 fn), (aI g p3 6 st), (aI g p4 6 me), (aI g z1 3 nu)]) (va_runV (As := [.int 3]) (rest := [.int 2]) ⟨hx, hb, hml, hown, hts⟩ (p_X6_numbers_3 l g p0 p1 p2 p3 p4 (nI w) H.size) (cwV 1 hts gX6_store_X6_numbers rfl rfl rfl (by decide +kernel) ⟨Nat.le_of_ble_eq_true rfl, Nat.le_of_ble_eq_true rfl⟩) (he_preV (wc := [(oX6 p0 p1 p2 p3 p4 (nI w))]) hK hP hD hS hA hE [5] rfl rfl 5 rfl rfl) rfl rfl hl.1 rfl (lv_room (Nat.le_of_ble_eq_true rfl)) dX6_store_53 ⟨(Nat.le_of_ble_eq_true rfl), (Nat.le_of_ble_eq_true rfl)⟩) hP hD hS hA [5] [0, 1, 2, 3, 4] rfl rfl rfl (by decide) (fun r_11 u_12 H locs h_13 hP hD hS => ?_)
          subst h_13
          have hP : va_P g.1 vwCl [(aI g p1 24 (upd (upd sd 9 (nu 0)) 10 (nu 1))), (aI g p2 10 fn), (aI g p3 6 st), (aI g p4 6 me), (aI g z1 3 nu), (oX6 p0 p1 p2 p3 p4 (nI w))] H := hP
          have hD : va_D A [(aI g p1 24 (upd (upd sd 9 (nu 0)) 10 (nu 1))), (aI g p2 10 fn), (aI g p3 6 st), (aI g p4 6 me), (aI g z1 3 nu), (oX6 p0 p1 p2 p3 p4 (nI w))] := hD
          refine lv_icmp_ge (tgt := 78) hx hb dX6_store_56 (by decide) (fun c_14 => ?_) (fun c_14 => ?_)
          · have hP := hP.sub (ws' := [(oX6 p0 p1 p2 p3 p4 (nI w)), (aI g p1 24 (upd (upd sd 9 (nu 0)) 10 (nu 1))), (aI g p2 10 fn), (aI g p3 6 st), (aI g p4 6 me), (aI g z1 3 nu)]) [5, 0, 1, 2, 3, 4] rfl
            have hD := hD.sub (ws' := [(oX6 p0 p1 p2 p3 p4 (nI w)), (aI g p1 24 (upd (upd sd 9 (nu 0)) 10 (nu 1))), (aI g p2 10 fn), (aI g p3 6 st), (aI g p4 6 me), (aI g z1 3 nu)]) [5, 0, 1, 2, 3, 4] (by decide) rfl
            exact he_rv hQ hx hb hr hlk hP hD hS dX6_store_78 (Nat.le_of_ble_eq_true rfl) (Nat.le_of_ble_eq_true rfl) (()) (rfl) (trivial)
          · exact absurd (by decide) c_14
    · exact absurd c_2 (by decide)
  · exact absurd c_1 (by decide)
set_option maxHeartbeats 4000000 in
set_option maxRecDepth 100000 in
theorem p_X6_store_4 (l : Launch) (g : he_G) (p0 : Nat) (p1 : Nat) (p2 : Nat) (p3 : Nat) (p4 : Nat) (w : Nat) (sd : Nat → Int32) (fn : Nat → Int32) (st : Nat → Int32) (me : Nat → Int32) (z1 : Nat) (nu : Nat → Int32)  : he_V l yX6_store wsX6_store 2 43 0 0 g [.ref p0, .int 4, .ref z1] [(oX6 p0 p1 p2 p3 p4 (nI w)), (aI g p1 24 sd), (aI g p2 10 fn), (aI g p3 6 st), (aI g p4 6 me), (aI g z1 3 nu)] (fun (u : Unit) => True) (fun (u : Unit) => [(oX6 p0 p1 p2 p3 p4 (nI w)), (aI g p1 24 (upd (upd (upd sd 12 (nu 0)) 13 (nu 1)) 14 (nu 2))), (aI g p2 10 fn), (aI g p3 6 st), (aI g p4 6 me), (aI g z1 3 nu)]) := by
  refine he_begin (l := l) (g := g) (y := yX6_store) (wl := wsX6_store) (fr := 2) (lo := 43) (mc := 0) (ms := 0) (av := [.ref p0, .int 4, .ref z1]) (ws := [(oX6 p0 p1 p2 p3 p4 (nI w)), (aI g p1 24 sd), (aI g p2 10 fn), (aI g p3 6 st), (aI g p4 6 me), (aI g z1 3 nu)]) (cc := cX6_store) (maxL := 4) (ret := none) (fun A => va_Qv (fun (u : Unit) => True) (fun u t => he_post g A ((fun (u : Unit) => [(oX6 p0 p1 p2 p3 p4 (nI w)), (aI g p1 24 (upd (upd (upd sd 12 (nu 0)) 13 (nu 1)) 14 (nu 2))), (aI g p2 10 fn), (aI g p3 6 st), (aI g p4 6 me), (aI g z1 3 nu)]) u) t) A) (by decide) rfl (Nat.le_of_ble_eq_true rfl) ?_
  intro p e s m args below meth c A ls H locs Q hQ hB
  obtain ⟨hx, hb, hr, hml, hown, hts, hlk, hin, hP, hK, hD, hS, hA, hE, hl⟩ := hB
  have hl : lv_has ls 4 [(0, .ref p0), (1, .int 4), (2, .ref z1)] := hl
  have f15 := hts (.fieldLink RX6 15 "HiredEnemy$Plan" "said" "[I") (iwoX6_store (k := 1) rfl)
  have inX6 : ∀ w ∈ wsX60, w ∈ wsX6_store := innX6_store_X6
  refine lv_iload_n hx hb dX6_store_0 rfl (lv_at hl 1 rfl) ?_
  refine lv_if_ne (tgt := 17) hx hb dX6_store_1 (by decide) (fun c_1 => ?_) (fun c_1 => ?_)
  · refine lv_iload_n hx hb dX6_store_17 rfl (lv_at hl 1 rfl) ?_
    refine lv_iconst (v := 5) hx hb dX6_store_18 (by decide) ?_
    refine lv_icmp_ne (tgt := 48) hx hb dX6_store_19 (by decide) (fun c_2 => ?_) (fun c_2 => ?_)
    · refine lv_iconst (v := 0) hx hb dX6_store_48 (by decide) ?_
      refine lv_istore_n (lv' := [(3, .int 0), (0, .ref p0), (1, .int 4), (2, .ref z1)]) hx hb dX6_store_49 rfl hl (by decide) rfl (fun ls hl => ?_)
      refine lv_iload_n hx hb dX6_store_50 rfl (lv_at hl 0 rfl) ?_
      refine lv_aload_n hx hb dX6_store_51 rfl (lv_at hl 1 rfl) ?_
      refine lv_iload_n hx hb dX6_store_52 rfl (lv_at hl 2 rfl) ?_
      refine he_ci (wc := [(oX6 p0 p1 p2 p3 p4 (nI w))]) (wr := [(aI g p1 24 sd), (aI g p2 10 fn), (aI g p3 6 st), (aI g p4 6 me), (aI g z1 3 nu)]) (va_runV (As := [.int 4]) (rest := [.int 0]) ⟨hx, hb, hml, hown, hts⟩ (p_X6_numbers_4 l g p0 p1 p2 p3 p4 (nI w) H.size) (cwV 1 hts gX6_store_X6_numbers rfl rfl rfl (by decide +kernel) ⟨Nat.le_of_ble_eq_true rfl, Nat.le_of_ble_eq_true rfl⟩) (he_preV (wc := [(oX6 p0 p1 p2 p3 p4 (nI w))]) hK hP hD hS hA hE [0] rfl rfl 0 rfl rfl) rfl rfl hl.1 rfl (lv_room (Nat.le_of_ble_eq_true rfl)) dX6_store_53 ⟨(Nat.le_of_ble_eq_true rfl), (Nat.le_of_ble_eq_true rfl)⟩) hP hD hS hA [0] [1, 2, 3, 4, 5] rfl rfl rfl (by decide) (fun r_3 u_4 H locs h_5 hP hD hS => ?_)
      subst h_5
      have hP : va_P g.1 vwCl [(aI g p1 24 sd), (aI g p2 10 fn), (aI g p3 6 st), (aI g p4 6 me), (aI g z1 3 nu), (oX6 p0 p1 p2 p3 p4 (nI w))] H := hP
      have hD : va_D A [(aI g p1 24 sd), (aI g p2 10 fn), (aI g p3 6 st), (aI g p4 6 me), (aI g z1 3 nu), (oX6 p0 p1 p2 p3 p4 (nI w))] := hD
      refine lv_icmp_ge (tgt := 78) hx hb dX6_store_56 (by decide) (fun c_6 => ?_) (fun c_6 => ?_)
      · exact absurd c_6 (by decide)
      · refine lv_aload_n hx hb dX6_store_59 rfl (lv_at hl 1 rfl) ?_
        refine va_get (v := .ref p1) (T := TX6) (N := 5) hx hb hts inX6 hown hK hP 5 rfl rfl 0 (by decide) f15 (fun _ h9 => h9) rfl dX6_store_60 ?_
        refine lv_iload_n hx hb dX6_store_63 rfl (lv_at hl 2 rfl) ?_
        refine lv_iconst (v := 3) hx hb dX6_store_64 (by decide) ?_
        refine lv_imul hx hb dX6_store_65 ?_
        refine he_top (12) (by decide) ?_
        refine lv_iload_n hx hb dX6_store_66 rfl (lv_at hl 0 rfl) ?_
        refine lv_iadd hx hb dX6_store_67 ?_
        refine he_top (12) (by decide) ?_
        refine lv_aload_n hx hb dX6_store_68 rfl (lv_at hl 3 rfl) ?_
        refine lv_iload_n hx hb dX6_store_69 rfl (lv_at hl 0 rfl) ?_
        refine he_iald hx hb hK hP 4 rfl (0) (by decide) (by decide) (by first | decide | assumption) (nu 0) rfl dX6_store_70 ?_
        refine he_iast hx hb hK hP hD hS 0 rfl (12) (by decide) (by decide) (by first | decide | assumption) dX6_store_71 (fun H locs hP hD hS => ?_)
        have hP : va_P g.1 vwCl [(aI g p1 24 (upd sd 12 (nu 0))), (aI g p2 10 fn), (aI g p3 6 st), (aI g p4 6 me), (aI g z1 3 nu), (oX6 p0 p1 p2 p3 p4 (nI w))] H := hP
        have hD : va_D A [(aI g p1 24 (upd sd 12 (nu 0))), (aI g p2 10 fn), (aI g p3 6 st), (aI g p4 6 me), (aI g z1 3 nu), (oX6 p0 p1 p2 p3 p4 (nI w))] := hD
        refine lv_iinc (v := 1) (lv' := [(3, .int 1), (0, .ref p0), (1, .int 4), (2, .ref z1)]) hx hb dX6_store_72 hl (k := 0) rfl (by decide) (by decide) rfl (fun ls hl => ?_)
        refine lv_goto (tgt := 50) hx hb dX6_store_75 (by decide) ?_
        refine lv_iload_n hx hb dX6_store_50 rfl (lv_at hl 0 rfl) ?_
        refine lv_aload_n hx hb dX6_store_51 rfl (lv_at hl 1 rfl) ?_
        refine lv_iload_n hx hb dX6_store_52 rfl (lv_at hl 2 rfl) ?_
        refine he_ci (wc := [(oX6 p0 p1 p2 p3 p4 (nI w))]) (wr := [(aI g p1 24 (upd sd 12 (nu 0))), (aI g p2 10 fn), (aI g p3 6 st), (aI g p4 6 me), (aI g z1 3 nu)]) (va_runV (As := [.int 4]) (rest := [.int 1]) ⟨hx, hb, hml, hown, hts⟩ (p_X6_numbers_4 l g p0 p1 p2 p3 p4 (nI w) H.size) (cwV 1 hts gX6_store_X6_numbers rfl rfl rfl (by decide +kernel) ⟨Nat.le_of_ble_eq_true rfl, Nat.le_of_ble_eq_true rfl⟩) (he_preV (wc := [(oX6 p0 p1 p2 p3 p4 (nI w))]) hK hP hD hS hA hE [5] rfl rfl 5 rfl rfl) rfl rfl hl.1 rfl (lv_room (Nat.le_of_ble_eq_true rfl)) dX6_store_53 ⟨(Nat.le_of_ble_eq_true rfl), (Nat.le_of_ble_eq_true rfl)⟩) hP hD hS hA [5] [0, 1, 2, 3, 4] rfl rfl rfl (by decide) (fun r_7 u_8 H locs h_9 hP hD hS => ?_)
        subst h_9
        have hP : va_P g.1 vwCl [(aI g p1 24 (upd sd 12 (nu 0))), (aI g p2 10 fn), (aI g p3 6 st), (aI g p4 6 me), (aI g z1 3 nu), (oX6 p0 p1 p2 p3 p4 (nI w))] H := hP
        have hD : va_D A [(aI g p1 24 (upd sd 12 (nu 0))), (aI g p2 10 fn), (aI g p3 6 st), (aI g p4 6 me), (aI g z1 3 nu), (oX6 p0 p1 p2 p3 p4 (nI w))] := hD
        refine lv_icmp_ge (tgt := 78) hx hb dX6_store_56 (by decide) (fun c_10 => ?_) (fun c_10 => ?_)
        · exact absurd c_10 (by decide)
        · refine lv_aload_n hx hb dX6_store_59 rfl (lv_at hl 1 rfl) ?_
          refine va_get (v := .ref p1) (T := TX6) (N := 5) hx hb hts inX6 hown hK hP 5 rfl rfl 0 (by decide) f15 (fun _ h9 => h9) rfl dX6_store_60 ?_
          refine lv_iload_n hx hb dX6_store_63 rfl (lv_at hl 2 rfl) ?_
          refine lv_iconst (v := 3) hx hb dX6_store_64 (by decide) ?_
          refine lv_imul hx hb dX6_store_65 ?_
          refine he_top (12) (by decide) ?_
          refine lv_iload_n hx hb dX6_store_66 rfl (lv_at hl 0 rfl) ?_
          refine lv_iadd hx hb dX6_store_67 ?_
          refine he_top (13) (by decide) ?_
          refine lv_aload_n hx hb dX6_store_68 rfl (lv_at hl 3 rfl) ?_
          refine lv_iload_n hx hb dX6_store_69 rfl (lv_at hl 0 rfl) ?_
          refine he_iald hx hb hK hP 4 rfl (1) (by decide) (by decide) (by first | decide | assumption) (nu 1) rfl dX6_store_70 ?_
          refine he_iast hx hb hK hP hD hS 0 rfl (13) (by decide) (by decide) (by first | decide | assumption) dX6_store_71 (fun H locs hP hD hS => ?_)
          have hP : va_P g.1 vwCl [(aI g p1 24 (upd (upd sd 12 (nu 0)) 13 (nu 1))), (aI g p2 10 fn), (aI g p3 6 st), (aI g p4 6 me), (aI g z1 3 nu), (oX6 p0 p1 p2 p3 p4 (nI w))] H := hP
          have hD : va_D A [(aI g p1 24 (upd (upd sd 12 (nu 0)) 13 (nu 1))), (aI g p2 10 fn), (aI g p3 6 st), (aI g p4 6 me), (aI g z1 3 nu), (oX6 p0 p1 p2 p3 p4 (nI w))] := hD
          refine lv_iinc (v := 2) (lv' := [(3, .int 2), (0, .ref p0), (1, .int 4), (2, .ref z1)]) hx hb dX6_store_72 hl (k := 0) rfl (by decide) (by decide) rfl (fun ls hl => ?_)
          refine lv_goto (tgt := 50) hx hb dX6_store_75 (by decide) ?_
          refine lv_iload_n hx hb dX6_store_50 rfl (lv_at hl 0 rfl) ?_
          refine lv_aload_n hx hb dX6_store_51 rfl (lv_at hl 1 rfl) ?_
          refine lv_iload_n hx hb dX6_store_52 rfl (lv_at hl 2 rfl) ?_
          refine he_ci (wc := [(oX6 p0 p1 p2 p3 p4 (nI w))]) (wr := [(aI g p1 24 (upd (upd sd 12 (nu 0)) 13 (nu 1))), (aI g p2 10 fn), (aI g p3 6 st), (aI g p4 6 me), (aI g z1 3 nu)]) (va_runV (As := [.int 4]) (rest := [.int 2]) ⟨hx, hb, hml, hown, hts⟩ (p_X6_numbers_4 l g p0 p1 p2 p3 p4 (nI w) H.size) (cwV 1 hts gX6_store_X6_numbers rfl rfl rfl (by decide +kernel) ⟨Nat.le_of_ble_eq_true rfl, Nat.le_of_ble_eq_true rfl⟩) (he_preV (wc := [(oX6 p0 p1 p2 p3 p4 (nI w))]) hK hP hD hS hA hE [5] rfl rfl 5 rfl rfl) rfl rfl hl.1 rfl (lv_room (Nat.le_of_ble_eq_true rfl)) dX6_store_53 ⟨(Nat.le_of_ble_eq_true rfl), (Nat.le_of_ble_eq_true rfl)⟩) hP hD hS hA [5] [0, 1, 2, 3, 4] rfl rfl rfl (by decide) (fun r_11 u_12 H locs h_13 hP hD hS => ?_)
          subst h_13
          have hP : va_P g.1 vwCl [(aI g p1 24 (upd (upd sd 12 (nu 0)) 13 (nu 1))), (aI g p2 10 fn), (aI g p3 6 st), (aI g p4 6 me), (aI g z1 3 nu), (oX6 p0 p1 p2 p3 p4 (nI w))] H := hP
          have hD : va_D A [(aI g p1 24 (upd (upd sd 12 (nu 0)) 13 (nu 1))), (aI g p2 10 fn), (aI g p3 6 st), (aI g p4 6 me), (aI g z1 3 nu), (oX6 p0 p1 p2 p3 p4 (nI w))] := hD
          refine lv_icmp_ge (tgt := 78) hx hb dX6_store_56 (by decide) (fun c_14 => ?_) (fun c_14 => ?_)
          · exact absurd c_14 (by decide)
          · refine lv_aload_n hx hb dX6_store_59 rfl (lv_at hl 1 rfl) ?_
            refine va_get (v := .ref p1) (T := TX6) (N := 5) hx hb hts inX6 hown hK hP 5 rfl rfl 0 (by decide) f15 (fun _ h9 => h9) rfl dX6_store_60 ?_
            refine lv_iload_n hx hb dX6_store_63 rfl (lv_at hl 2 rfl) ?_
            refine lv_iconst (v := 3) hx hb dX6_store_64 (by decide) ?_
            refine lv_imul hx hb dX6_store_65 ?_
            refine he_top (12) (by decide) ?_
            refine lv_iload_n hx hb dX6_store_66 rfl (lv_at hl 0 rfl) ?_
            refine lv_iadd hx hb dX6_store_67 ?_
            refine he_top (14) (by decide) ?_
            refine lv_aload_n hx hb dX6_store_68 rfl (lv_at hl 3 rfl) ?_
            refine lv_iload_n hx hb dX6_store_69 rfl (lv_at hl 0 rfl) ?_
            refine he_iald hx hb hK hP 4 rfl (2) (by decide) (by decide) (by first | decide | assumption) (nu 2) rfl dX6_store_70 ?_
            refine he_iast hx hb hK hP hD hS 0 rfl (14) (by decide) (by decide) (by first | decide | assumption) dX6_store_71 (fun H locs hP hD hS => ?_)
            have hP : va_P g.1 vwCl [(aI g p1 24 (upd (upd (upd sd 12 (nu 0)) 13 (nu 1)) 14 (nu 2))), (aI g p2 10 fn), (aI g p3 6 st), (aI g p4 6 me), (aI g z1 3 nu), (oX6 p0 p1 p2 p3 p4 (nI w))] H := hP
            have hD : va_D A [(aI g p1 24 (upd (upd (upd sd 12 (nu 0)) 13 (nu 1)) 14 (nu 2))), (aI g p2 10 fn), (aI g p3 6 st), (aI g p4 6 me), (aI g z1 3 nu), (oX6 p0 p1 p2 p3 p4 (nI w))] := hD
            refine lv_iinc (v := 3) (lv' := [(3, .int 3), (0, .ref p0), (1, .int 4), (2, .ref z1)]) hx hb dX6_store_72 hl (k := 0) rfl (by decide) (by decide) rfl (fun ls hl => ?_)
            refine lv_goto (tgt := 50) hx hb dX6_store_75 (by decide) ?_
            refine lv_iload_n hx hb dX6_store_50 rfl (lv_at hl 0 rfl) ?_
            refine lv_aload_n hx hb dX6_store_51 rfl (lv_at hl 1 rfl) ?_
            refine lv_iload_n hx hb dX6_store_52 rfl (lv_at hl 2 rfl) ?_
            refine he_ci (wc := [(oX6 p0 p1 p2 p3 p4 (nI w))]) (wr := [(aI g p1 24 (upd (upd (upd sd 12 (nu 0)) 13 (nu 1)) 14 (nu 2))), (aI g p2 10 fn), (aI g p3 6 st), (aI g p4 6 me), (aI g z1 3 nu)]) (va_runV (As := [.int 4]) (rest := [.int 3]) ⟨hx, hb, hml, hown, hts⟩ (p_X6_numbers_4 l g p0 p1 p2 p3 p4 (nI w) H.size) (cwV 1 hts gX6_store_X6_numbers rfl rfl rfl (by decide +kernel) ⟨Nat.le_of_ble_eq_true rfl, Nat.le_of_ble_eq_true rfl⟩) (he_preV (wc := [(oX6 p0 p1 p2 p3 p4 (nI w))]) hK hP hD hS hA hE [5] rfl rfl 5 rfl rfl) rfl rfl hl.1 rfl (lv_room (Nat.le_of_ble_eq_true rfl)) dX6_store_53 ⟨(Nat.le_of_ble_eq_true rfl), (Nat.le_of_ble_eq_true rfl)⟩) hP hD hS hA [5] [0, 1, 2, 3, 4] rfl rfl rfl (by decide) (fun r_15 u_16 H locs h_17 hP hD hS => ?_)
            subst h_17
            have hP : va_P g.1 vwCl [(aI g p1 24 (upd (upd (upd sd 12 (nu 0)) 13 (nu 1)) 14 (nu 2))), (aI g p2 10 fn), (aI g p3 6 st), (aI g p4 6 me), (aI g z1 3 nu), (oX6 p0 p1 p2 p3 p4 (nI w))] H := hP
            have hD : va_D A [(aI g p1 24 (upd (upd (upd sd 12 (nu 0)) 13 (nu 1)) 14 (nu 2))), (aI g p2 10 fn), (aI g p3 6 st), (aI g p4 6 me), (aI g z1 3 nu), (oX6 p0 p1 p2 p3 p4 (nI w))] := hD
            refine lv_icmp_ge (tgt := 78) hx hb dX6_store_56 (by decide) (fun c_18 => ?_) (fun c_18 => ?_)
            · have hP := hP.sub (ws' := [(oX6 p0 p1 p2 p3 p4 (nI w)), (aI g p1 24 (upd (upd (upd sd 12 (nu 0)) 13 (nu 1)) 14 (nu 2))), (aI g p2 10 fn), (aI g p3 6 st), (aI g p4 6 me), (aI g z1 3 nu)]) [5, 0, 1, 2, 3, 4] rfl
              have hD := hD.sub (ws' := [(oX6 p0 p1 p2 p3 p4 (nI w)), (aI g p1 24 (upd (upd (upd sd 12 (nu 0)) 13 (nu 1)) 14 (nu 2))), (aI g p2 10 fn), (aI g p3 6 st), (aI g p4 6 me), (aI g z1 3 nu)]) [5, 0, 1, 2, 3, 4] (by decide) rfl
              exact he_rv hQ hx hb hr hlk hP hD hS dX6_store_78 (Nat.le_of_ble_eq_true rfl) (Nat.le_of_ble_eq_true rfl) (()) (rfl) (trivial)
            · exact absurd (by decide) c_18
    · exact absurd c_2 (by decide)
  · exact absurd c_1 (by decide)
set_option maxHeartbeats 4000000 in
set_option maxRecDepth 100000 in
theorem p_X6_store_5 (l : Launch) (g : he_G) (p0 : Nat) (p1 : Nat) (p2 : Nat) (p3 : Nat) (p4 : Nat) (w : Nat) (sd : Nat → Int32) (fn : Nat → Int32) (st : Nat → Int32) (me : Nat → Int32) (z1 : Nat) (v0 : Nat) (nu : Nat → Int32) (hv : v0 ≤ 9) (hn0 : nu 0 = nI v0) : he_V l yX6_store wsX6_store 1 22 0 0 g [.ref p0, .int 5, .ref z1] [(oX6 p0 p1 p2 p3 p4 (nI w)), (aI g p1 24 sd), (aI g p2 10 fn), (aI g p3 6 st), (aI g p4 6 me), (aI g z1 3 nu)] (fun (u : Unit) => True) (fun (u : Unit) => [(oX6 p0 p1 p2 p3 p4 (nI w)), (aI g p1 24 sd), (aI g p2 10 (upd fn v0 (nu 1))), (aI g p3 6 st), (aI g p4 6 me), (aI g z1 3 nu)]) := by
  refine he_begin (l := l) (g := g) (y := yX6_store) (wl := wsX6_store) (fr := 1) (lo := 22) (mc := 0) (ms := 0) (av := [.ref p0, .int 5, .ref z1]) (ws := [(oX6 p0 p1 p2 p3 p4 (nI w)), (aI g p1 24 sd), (aI g p2 10 fn), (aI g p3 6 st), (aI g p4 6 me), (aI g z1 3 nu)]) (cc := cX6_store) (maxL := 4) (ret := none) (fun A => va_Qv (fun (u : Unit) => True) (fun u t => he_post g A ((fun (u : Unit) => [(oX6 p0 p1 p2 p3 p4 (nI w)), (aI g p1 24 sd), (aI g p2 10 (upd fn v0 (nu 1))), (aI g p3 6 st), (aI g p4 6 me), (aI g z1 3 nu)]) u) t) A) (by decide) rfl (Nat.le_of_ble_eq_true rfl) ?_
  intro p e s m args below meth c A ls H locs Q hQ hB
  obtain ⟨hx, hb, hr, hml, hown, hts, hlk, hin, hP, hK, hD, hS, hA, hE, hl⟩ := hB
  have hl : lv_has ls 4 [(0, .ref p0), (1, .int 5), (2, .ref z1)] := hl
  have nl39 := hE.nest (RX6, 39, yX10_within) (by decide +kernel)
  have iniX10 := hts (.initialized RX10) (iwoX6_store (k := 7) rfl)
  have st_yX10_within := hts (.static yX10_within) (iwoX6_store (k := 6) rfl)
  have f18 := hts (.fieldLink RX6 18 "HiredEnemy$Plan" "fearByNear" "[I") (iwoX6_store (k := 0) rfl)
  have inX6 : ∀ w ∈ wsX60, w ∈ wsX6_store := innX6_store_X6
  refine lv_iload_n hx hb dX6_store_0 rfl (lv_at hl 1 rfl) ?_
  refine lv_if_ne (tgt := 17) hx hb dX6_store_1 (by decide) (fun c_1 => ?_) (fun c_1 => ?_)
  · refine lv_iload_n hx hb dX6_store_17 rfl (lv_at hl 1 rfl) ?_
    refine lv_iconst (v := 5) hx hb dX6_store_18 (by decide) ?_
    refine lv_icmp_ne (tgt := 48) hx hb dX6_store_19 (by decide) (fun c_2 => ?_) (fun c_2 => ?_)
    · exact absurd (by decide) c_2
    · refine lv_aload_n hx hb dX6_store_22 rfl (lv_at hl 2 rfl) ?_
      refine lv_iconst (v := 0) hx hb dX6_store_23 (by decide) ?_
      refine he_iald hx hb hK hP 5 rfl (0) (by decide) (by decide) (by first | decide | assumption) (nI v0) hn0 dX6_store_24 ?_
      refine lv_iconst (v := 0) hx hb dX6_store_25 (by decide) ?_
      refine lv_bipush (v := 9) hx hb dX6_store_26 (by decide) ?_
      refine he_ci (wc := []) (wr := [(oX6 p0 p1 p2 p3 p4 (nI w)), (aI g p1 24 sd), (aI g p2 10 fn), (aI g p3 6 st), (aI g p4 6 me), (aI g z1 3 nu)]) (va_runSN (As := [.int (nI v0), .int 0, .int 9]) (rest := []) ⟨hx, hb, hml, hown, hts⟩ (c_X10_within l g (nI v0) 0 9 H.size) ⟨(va_cnB 3 hts gX6_store_X10_within_n39 rfl rfl rfl nl39 iniX10 (by decide +kernel) ⟨Nat.le_of_ble_eq_true rfl, Nat.le_of_ble_eq_true rfl⟩), st_yX10_within, trivial⟩ (he_preS (wc := []) hK hP hD hS hA hE [] rfl rfl) rfl rfl hl.1 rfl (lv_room (Nat.le_of_ble_eq_true rfl)) dX6_store_28 ⟨(Nat.le_of_ble_eq_true rfl), (Nat.le_of_ble_eq_true rfl)⟩) hP hD hS hA [] [0, 1, 2, 3, 4, 5] rfl rfl rfl (by decide) (fun r_3 u_4 H locs h_5 hP hD hS => ?_)
      subst h_5
      have hP : va_P g.1 vwCl [(oX6 p0 p1 p2 p3 p4 (nI w)), (aI g p1 24 sd), (aI g p2 10 fn), (aI g p3 6 st), (aI g p4 6 me), (aI g z1 3 nu)] H := hP
      have hD : va_D A [(oX6 p0 p1 p2 p3 p4 (nI w)), (aI g p1 24 sd), (aI g p2 10 fn), (aI g p3 6 st), (aI g p4 6 me), (aI g z1 3 nu)] := hD
      refine he_top (1) (he_within_in (a0 := 0) (B := 9) rfl rfl (by omega) (by omega) (by decide)) ?_
      refine lv_if_eq (tgt := 78) hx hb dX6_store_31 (by decide) (fun c_6 => ?_) (fun c_6 => ?_)
      · exact absurd c_6 (by decide)
      · refine lv_aload_n hx hb dX6_store_34 rfl (lv_at hl 0 rfl) ?_
        refine va_get (v := .ref p2) (T := TX6) (N := 5) hx hb hts inX6 hown hK hP 0 rfl rfl 1 (by decide) f18 (fun _ h9 => h9) rfl dX6_store_35 ?_
        refine lv_aload_n hx hb dX6_store_38 rfl (lv_at hl 2 rfl) ?_
        refine lv_iconst (v := 0) hx hb dX6_store_39 (by decide) ?_
        refine he_iald hx hb hK hP 5 rfl (0) (by decide) (by decide) (by first | decide | assumption) (nI v0) hn0 dX6_store_40 ?_
        refine lv_aload_n hx hb dX6_store_41 rfl (lv_at hl 2 rfl) ?_
        refine lv_iconst (v := 1) hx hb dX6_store_42 (by decide) ?_
        refine he_iald hx hb hK hP 5 rfl (1) (by decide) (by decide) (by first | decide | assumption) (nu 1) rfl dX6_store_43 ?_
        refine he_iast hx hb hK hP hD hS 2 rfl (v0) rfl (by first | assumption | decide | omega) (by first | decide | assumption) dX6_store_44 (fun H locs hP hD hS => ?_)
        have hP : va_P g.1 vwCl [(oX6 p0 p1 p2 p3 p4 (nI w)), (aI g p1 24 sd), (aI g p2 10 (upd fn v0 (nu 1))), (aI g p3 6 st), (aI g p4 6 me), (aI g z1 3 nu)] H := hP
        have hD : va_D A [(oX6 p0 p1 p2 p3 p4 (nI w)), (aI g p1 24 sd), (aI g p2 10 (upd fn v0 (nu 1))), (aI g p3 6 st), (aI g p4 6 me), (aI g z1 3 nu)] := hD
        refine lv_goto (tgt := 78) hx hb dX6_store_45 (by decide) ?_
        exact he_rv hQ hx hb hr hlk hP hD hS dX6_store_78 (Nat.le_of_ble_eq_true rfl) (Nat.le_of_ble_eq_true rfl) (()) (rfl) (trivial)
  · exact absurd c_1 (by decide)
set_option maxHeartbeats 4000000 in
set_option maxRecDepth 100000 in
theorem p_X6_store_6 (l : Launch) (g : he_G) (p0 : Nat) (p1 : Nat) (p2 : Nat) (p3 : Nat) (p4 : Nat) (w : Nat) (sd : Nat → Int32) (fn : Nat → Int32) (st : Nat → Int32) (me : Nat → Int32) (z1 : Nat) (nu : Nat → Int32)  : he_V l yX6_store wsX6_store 2 43 0 0 g [.ref p0, .int 6, .ref z1] [(oX6 p0 p1 p2 p3 p4 (nI w)), (aI g p1 24 sd), (aI g p2 10 fn), (aI g p3 6 st), (aI g p4 6 me), (aI g z1 3 nu)] (fun (u : Unit) => True) (fun (u : Unit) => [(oX6 p0 p1 p2 p3 p4 (nI w)), (aI g p1 24 (upd sd 18 (nu 0))), (aI g p2 10 fn), (aI g p3 6 st), (aI g p4 6 me), (aI g z1 3 nu)]) := by
  refine he_begin (l := l) (g := g) (y := yX6_store) (wl := wsX6_store) (fr := 2) (lo := 43) (mc := 0) (ms := 0) (av := [.ref p0, .int 6, .ref z1]) (ws := [(oX6 p0 p1 p2 p3 p4 (nI w)), (aI g p1 24 sd), (aI g p2 10 fn), (aI g p3 6 st), (aI g p4 6 me), (aI g z1 3 nu)]) (cc := cX6_store) (maxL := 4) (ret := none) (fun A => va_Qv (fun (u : Unit) => True) (fun u t => he_post g A ((fun (u : Unit) => [(oX6 p0 p1 p2 p3 p4 (nI w)), (aI g p1 24 (upd sd 18 (nu 0))), (aI g p2 10 fn), (aI g p3 6 st), (aI g p4 6 me), (aI g z1 3 nu)]) u) t) A) (by decide) rfl (Nat.le_of_ble_eq_true rfl) ?_
  intro p e s m args below meth c A ls H locs Q hQ hB
  obtain ⟨hx, hb, hr, hml, hown, hts, hlk, hin, hP, hK, hD, hS, hA, hE, hl⟩ := hB
  have hl : lv_has ls 4 [(0, .ref p0), (1, .int 6), (2, .ref z1)] := hl
  have f15 := hts (.fieldLink RX6 15 "HiredEnemy$Plan" "said" "[I") (iwoX6_store (k := 1) rfl)
  have inX6 : ∀ w ∈ wsX60, w ∈ wsX6_store := innX6_store_X6
  refine lv_iload_n hx hb dX6_store_0 rfl (lv_at hl 1 rfl) ?_
  refine lv_if_ne (tgt := 17) hx hb dX6_store_1 (by decide) (fun c_1 => ?_) (fun c_1 => ?_)
  · refine lv_iload_n hx hb dX6_store_17 rfl (lv_at hl 1 rfl) ?_
    refine lv_iconst (v := 5) hx hb dX6_store_18 (by decide) ?_
    refine lv_icmp_ne (tgt := 48) hx hb dX6_store_19 (by decide) (fun c_2 => ?_) (fun c_2 => ?_)
    · refine lv_iconst (v := 0) hx hb dX6_store_48 (by decide) ?_
      refine lv_istore_n (lv' := [(3, .int 0), (0, .ref p0), (1, .int 6), (2, .ref z1)]) hx hb dX6_store_49 rfl hl (by decide) rfl (fun ls hl => ?_)
      refine lv_iload_n hx hb dX6_store_50 rfl (lv_at hl 0 rfl) ?_
      refine lv_aload_n hx hb dX6_store_51 rfl (lv_at hl 1 rfl) ?_
      refine lv_iload_n hx hb dX6_store_52 rfl (lv_at hl 2 rfl) ?_
      refine he_ci (wc := [(oX6 p0 p1 p2 p3 p4 (nI w))]) (wr := [(aI g p1 24 sd), (aI g p2 10 fn), (aI g p3 6 st), (aI g p4 6 me), (aI g z1 3 nu)]) (va_runV (As := [.int 6]) (rest := [.int 0]) ⟨hx, hb, hml, hown, hts⟩ (p_X6_numbers_6 l g p0 p1 p2 p3 p4 (nI w) H.size) (cwV 1 hts gX6_store_X6_numbers rfl rfl rfl (by decide +kernel) ⟨Nat.le_of_ble_eq_true rfl, Nat.le_of_ble_eq_true rfl⟩) (he_preV (wc := [(oX6 p0 p1 p2 p3 p4 (nI w))]) hK hP hD hS hA hE [0] rfl rfl 0 rfl rfl) rfl rfl hl.1 rfl (lv_room (Nat.le_of_ble_eq_true rfl)) dX6_store_53 ⟨(Nat.le_of_ble_eq_true rfl), (Nat.le_of_ble_eq_true rfl)⟩) hP hD hS hA [0] [1, 2, 3, 4, 5] rfl rfl rfl (by decide) (fun r_3 u_4 H locs h_5 hP hD hS => ?_)
      subst h_5
      have hP : va_P g.1 vwCl [(aI g p1 24 sd), (aI g p2 10 fn), (aI g p3 6 st), (aI g p4 6 me), (aI g z1 3 nu), (oX6 p0 p1 p2 p3 p4 (nI w))] H := hP
      have hD : va_D A [(aI g p1 24 sd), (aI g p2 10 fn), (aI g p3 6 st), (aI g p4 6 me), (aI g z1 3 nu), (oX6 p0 p1 p2 p3 p4 (nI w))] := hD
      refine lv_icmp_ge (tgt := 78) hx hb dX6_store_56 (by decide) (fun c_6 => ?_) (fun c_6 => ?_)
      · exact absurd c_6 (by decide)
      · refine lv_aload_n hx hb dX6_store_59 rfl (lv_at hl 1 rfl) ?_
        refine va_get (v := .ref p1) (T := TX6) (N := 5) hx hb hts inX6 hown hK hP 5 rfl rfl 0 (by decide) f15 (fun _ h9 => h9) rfl dX6_store_60 ?_
        refine lv_iload_n hx hb dX6_store_63 rfl (lv_at hl 2 rfl) ?_
        refine lv_iconst (v := 3) hx hb dX6_store_64 (by decide) ?_
        refine lv_imul hx hb dX6_store_65 ?_
        refine he_top (18) (by decide) ?_
        refine lv_iload_n hx hb dX6_store_66 rfl (lv_at hl 0 rfl) ?_
        refine lv_iadd hx hb dX6_store_67 ?_
        refine he_top (18) (by decide) ?_
        refine lv_aload_n hx hb dX6_store_68 rfl (lv_at hl 3 rfl) ?_
        refine lv_iload_n hx hb dX6_store_69 rfl (lv_at hl 0 rfl) ?_
        refine he_iald hx hb hK hP 4 rfl (0) (by decide) (by decide) (by first | decide | assumption) (nu 0) rfl dX6_store_70 ?_
        refine he_iast hx hb hK hP hD hS 0 rfl (18) (by decide) (by decide) (by first | decide | assumption) dX6_store_71 (fun H locs hP hD hS => ?_)
        have hP : va_P g.1 vwCl [(aI g p1 24 (upd sd 18 (nu 0))), (aI g p2 10 fn), (aI g p3 6 st), (aI g p4 6 me), (aI g z1 3 nu), (oX6 p0 p1 p2 p3 p4 (nI w))] H := hP
        have hD : va_D A [(aI g p1 24 (upd sd 18 (nu 0))), (aI g p2 10 fn), (aI g p3 6 st), (aI g p4 6 me), (aI g z1 3 nu), (oX6 p0 p1 p2 p3 p4 (nI w))] := hD
        refine lv_iinc (v := 1) (lv' := [(3, .int 1), (0, .ref p0), (1, .int 6), (2, .ref z1)]) hx hb dX6_store_72 hl (k := 0) rfl (by decide) (by decide) rfl (fun ls hl => ?_)
        refine lv_goto (tgt := 50) hx hb dX6_store_75 (by decide) ?_
        refine lv_iload_n hx hb dX6_store_50 rfl (lv_at hl 0 rfl) ?_
        refine lv_aload_n hx hb dX6_store_51 rfl (lv_at hl 1 rfl) ?_
        refine lv_iload_n hx hb dX6_store_52 rfl (lv_at hl 2 rfl) ?_
        refine he_ci (wc := [(oX6 p0 p1 p2 p3 p4 (nI w))]) (wr := [(aI g p1 24 (upd sd 18 (nu 0))), (aI g p2 10 fn), (aI g p3 6 st), (aI g p4 6 me), (aI g z1 3 nu)]) (va_runV (As := [.int 6]) (rest := [.int 1]) ⟨hx, hb, hml, hown, hts⟩ (p_X6_numbers_6 l g p0 p1 p2 p3 p4 (nI w) H.size) (cwV 1 hts gX6_store_X6_numbers rfl rfl rfl (by decide +kernel) ⟨Nat.le_of_ble_eq_true rfl, Nat.le_of_ble_eq_true rfl⟩) (he_preV (wc := [(oX6 p0 p1 p2 p3 p4 (nI w))]) hK hP hD hS hA hE [5] rfl rfl 5 rfl rfl) rfl rfl hl.1 rfl (lv_room (Nat.le_of_ble_eq_true rfl)) dX6_store_53 ⟨(Nat.le_of_ble_eq_true rfl), (Nat.le_of_ble_eq_true rfl)⟩) hP hD hS hA [5] [0, 1, 2, 3, 4] rfl rfl rfl (by decide) (fun r_7 u_8 H locs h_9 hP hD hS => ?_)
        subst h_9
        have hP : va_P g.1 vwCl [(aI g p1 24 (upd sd 18 (nu 0))), (aI g p2 10 fn), (aI g p3 6 st), (aI g p4 6 me), (aI g z1 3 nu), (oX6 p0 p1 p2 p3 p4 (nI w))] H := hP
        have hD : va_D A [(aI g p1 24 (upd sd 18 (nu 0))), (aI g p2 10 fn), (aI g p3 6 st), (aI g p4 6 me), (aI g z1 3 nu), (oX6 p0 p1 p2 p3 p4 (nI w))] := hD
        refine lv_icmp_ge (tgt := 78) hx hb dX6_store_56 (by decide) (fun c_10 => ?_) (fun c_10 => ?_)
        · have hP := hP.sub (ws' := [(oX6 p0 p1 p2 p3 p4 (nI w)), (aI g p1 24 (upd sd 18 (nu 0))), (aI g p2 10 fn), (aI g p3 6 st), (aI g p4 6 me), (aI g z1 3 nu)]) [5, 0, 1, 2, 3, 4] rfl
          have hD := hD.sub (ws' := [(oX6 p0 p1 p2 p3 p4 (nI w)), (aI g p1 24 (upd sd 18 (nu 0))), (aI g p2 10 fn), (aI g p3 6 st), (aI g p4 6 me), (aI g z1 3 nu)]) [5, 0, 1, 2, 3, 4] (by decide) rfl
          exact he_rv hQ hx hb hr hlk hP hD hS dX6_store_78 (Nat.le_of_ble_eq_true rfl) (Nat.le_of_ble_eq_true rfl) (()) (rfl) (trivial)
        · exact absurd (by decide) c_10
    · exact absurd c_2 (by decide)
  · exact absurd c_1 (by decide)
set_option maxHeartbeats 4000000 in
set_option maxRecDepth 100000 in
theorem p_X6_store_7 (l : Launch) (g : he_G) (p0 : Nat) (p1 : Nat) (p2 : Nat) (p3 : Nat) (p4 : Nat) (w : Nat) (sd : Nat → Int32) (fn : Nat → Int32) (st : Nat → Int32) (me : Nat → Int32) (z1 : Nat) (nu : Nat → Int32)  : he_V l yX6_store wsX6_store 2 43 0 0 g [.ref p0, .int 7, .ref z1] [(oX6 p0 p1 p2 p3 p4 (nI w)), (aI g p1 24 sd), (aI g p2 10 fn), (aI g p3 6 st), (aI g p4 6 me), (aI g z1 3 nu)] (fun (u : Unit) => True) (fun (u : Unit) => [(oX6 p0 p1 p2 p3 p4 (nI w)), (aI g p1 24 (upd (upd sd 21 (nu 0)) 22 (nu 1))), (aI g p2 10 fn), (aI g p3 6 st), (aI g p4 6 me), (aI g z1 3 nu)]) := by
  refine he_begin (l := l) (g := g) (y := yX6_store) (wl := wsX6_store) (fr := 2) (lo := 43) (mc := 0) (ms := 0) (av := [.ref p0, .int 7, .ref z1]) (ws := [(oX6 p0 p1 p2 p3 p4 (nI w)), (aI g p1 24 sd), (aI g p2 10 fn), (aI g p3 6 st), (aI g p4 6 me), (aI g z1 3 nu)]) (cc := cX6_store) (maxL := 4) (ret := none) (fun A => va_Qv (fun (u : Unit) => True) (fun u t => he_post g A ((fun (u : Unit) => [(oX6 p0 p1 p2 p3 p4 (nI w)), (aI g p1 24 (upd (upd sd 21 (nu 0)) 22 (nu 1))), (aI g p2 10 fn), (aI g p3 6 st), (aI g p4 6 me), (aI g z1 3 nu)]) u) t) A) (by decide) rfl (Nat.le_of_ble_eq_true rfl) ?_
  intro p e s m args below meth c A ls H locs Q hQ hB
  obtain ⟨hx, hb, hr, hml, hown, hts, hlk, hin, hP, hK, hD, hS, hA, hE, hl⟩ := hB
  have hl : lv_has ls 4 [(0, .ref p0), (1, .int 7), (2, .ref z1)] := hl
  have f15 := hts (.fieldLink RX6 15 "HiredEnemy$Plan" "said" "[I") (iwoX6_store (k := 1) rfl)
  have inX6 : ∀ w ∈ wsX60, w ∈ wsX6_store := innX6_store_X6
  refine lv_iload_n hx hb dX6_store_0 rfl (lv_at hl 1 rfl) ?_
  refine lv_if_ne (tgt := 17) hx hb dX6_store_1 (by decide) (fun c_1 => ?_) (fun c_1 => ?_)
  · refine lv_iload_n hx hb dX6_store_17 rfl (lv_at hl 1 rfl) ?_
    refine lv_iconst (v := 5) hx hb dX6_store_18 (by decide) ?_
    refine lv_icmp_ne (tgt := 48) hx hb dX6_store_19 (by decide) (fun c_2 => ?_) (fun c_2 => ?_)
    · refine lv_iconst (v := 0) hx hb dX6_store_48 (by decide) ?_
      refine lv_istore_n (lv' := [(3, .int 0), (0, .ref p0), (1, .int 7), (2, .ref z1)]) hx hb dX6_store_49 rfl hl (by decide) rfl (fun ls hl => ?_)
      refine lv_iload_n hx hb dX6_store_50 rfl (lv_at hl 0 rfl) ?_
      refine lv_aload_n hx hb dX6_store_51 rfl (lv_at hl 1 rfl) ?_
      refine lv_iload_n hx hb dX6_store_52 rfl (lv_at hl 2 rfl) ?_
      refine he_ci (wc := [(oX6 p0 p1 p2 p3 p4 (nI w))]) (wr := [(aI g p1 24 sd), (aI g p2 10 fn), (aI g p3 6 st), (aI g p4 6 me), (aI g z1 3 nu)]) (va_runV (As := [.int 7]) (rest := [.int 0]) ⟨hx, hb, hml, hown, hts⟩ (p_X6_numbers_7 l g p0 p1 p2 p3 p4 (nI w) H.size) (cwV 1 hts gX6_store_X6_numbers rfl rfl rfl (by decide +kernel) ⟨Nat.le_of_ble_eq_true rfl, Nat.le_of_ble_eq_true rfl⟩) (he_preV (wc := [(oX6 p0 p1 p2 p3 p4 (nI w))]) hK hP hD hS hA hE [0] rfl rfl 0 rfl rfl) rfl rfl hl.1 rfl (lv_room (Nat.le_of_ble_eq_true rfl)) dX6_store_53 ⟨(Nat.le_of_ble_eq_true rfl), (Nat.le_of_ble_eq_true rfl)⟩) hP hD hS hA [0] [1, 2, 3, 4, 5] rfl rfl rfl (by decide) (fun r_3 u_4 H locs h_5 hP hD hS => ?_)
      subst h_5
      have hP : va_P g.1 vwCl [(aI g p1 24 sd), (aI g p2 10 fn), (aI g p3 6 st), (aI g p4 6 me), (aI g z1 3 nu), (oX6 p0 p1 p2 p3 p4 (nI w))] H := hP
      have hD : va_D A [(aI g p1 24 sd), (aI g p2 10 fn), (aI g p3 6 st), (aI g p4 6 me), (aI g z1 3 nu), (oX6 p0 p1 p2 p3 p4 (nI w))] := hD
      refine lv_icmp_ge (tgt := 78) hx hb dX6_store_56 (by decide) (fun c_6 => ?_) (fun c_6 => ?_)
      · exact absurd c_6 (by decide)
      · refine lv_aload_n hx hb dX6_store_59 rfl (lv_at hl 1 rfl) ?_
        refine va_get (v := .ref p1) (T := TX6) (N := 5) hx hb hts inX6 hown hK hP 5 rfl rfl 0 (by decide) f15 (fun _ h9 => h9) rfl dX6_store_60 ?_
        refine lv_iload_n hx hb dX6_store_63 rfl (lv_at hl 2 rfl) ?_
        refine lv_iconst (v := 3) hx hb dX6_store_64 (by decide) ?_
        refine lv_imul hx hb dX6_store_65 ?_
        refine he_top (21) (by decide) ?_
        refine lv_iload_n hx hb dX6_store_66 rfl (lv_at hl 0 rfl) ?_
        refine lv_iadd hx hb dX6_store_67 ?_
        refine he_top (21) (by decide) ?_
        refine lv_aload_n hx hb dX6_store_68 rfl (lv_at hl 3 rfl) ?_
        refine lv_iload_n hx hb dX6_store_69 rfl (lv_at hl 0 rfl) ?_
        refine he_iald hx hb hK hP 4 rfl (0) (by decide) (by decide) (by first | decide | assumption) (nu 0) rfl dX6_store_70 ?_
        refine he_iast hx hb hK hP hD hS 0 rfl (21) (by decide) (by decide) (by first | decide | assumption) dX6_store_71 (fun H locs hP hD hS => ?_)
        have hP : va_P g.1 vwCl [(aI g p1 24 (upd sd 21 (nu 0))), (aI g p2 10 fn), (aI g p3 6 st), (aI g p4 6 me), (aI g z1 3 nu), (oX6 p0 p1 p2 p3 p4 (nI w))] H := hP
        have hD : va_D A [(aI g p1 24 (upd sd 21 (nu 0))), (aI g p2 10 fn), (aI g p3 6 st), (aI g p4 6 me), (aI g z1 3 nu), (oX6 p0 p1 p2 p3 p4 (nI w))] := hD
        refine lv_iinc (v := 1) (lv' := [(3, .int 1), (0, .ref p0), (1, .int 7), (2, .ref z1)]) hx hb dX6_store_72 hl (k := 0) rfl (by decide) (by decide) rfl (fun ls hl => ?_)
        refine lv_goto (tgt := 50) hx hb dX6_store_75 (by decide) ?_
        refine lv_iload_n hx hb dX6_store_50 rfl (lv_at hl 0 rfl) ?_
        refine lv_aload_n hx hb dX6_store_51 rfl (lv_at hl 1 rfl) ?_
        refine lv_iload_n hx hb dX6_store_52 rfl (lv_at hl 2 rfl) ?_
        refine he_ci (wc := [(oX6 p0 p1 p2 p3 p4 (nI w))]) (wr := [(aI g p1 24 (upd sd 21 (nu 0))), (aI g p2 10 fn), (aI g p3 6 st), (aI g p4 6 me), (aI g z1 3 nu)]) (va_runV (As := [.int 7]) (rest := [.int 1]) ⟨hx, hb, hml, hown, hts⟩ (p_X6_numbers_7 l g p0 p1 p2 p3 p4 (nI w) H.size) (cwV 1 hts gX6_store_X6_numbers rfl rfl rfl (by decide +kernel) ⟨Nat.le_of_ble_eq_true rfl, Nat.le_of_ble_eq_true rfl⟩) (he_preV (wc := [(oX6 p0 p1 p2 p3 p4 (nI w))]) hK hP hD hS hA hE [5] rfl rfl 5 rfl rfl) rfl rfl hl.1 rfl (lv_room (Nat.le_of_ble_eq_true rfl)) dX6_store_53 ⟨(Nat.le_of_ble_eq_true rfl), (Nat.le_of_ble_eq_true rfl)⟩) hP hD hS hA [5] [0, 1, 2, 3, 4] rfl rfl rfl (by decide) (fun r_7 u_8 H locs h_9 hP hD hS => ?_)
        subst h_9
        have hP : va_P g.1 vwCl [(aI g p1 24 (upd sd 21 (nu 0))), (aI g p2 10 fn), (aI g p3 6 st), (aI g p4 6 me), (aI g z1 3 nu), (oX6 p0 p1 p2 p3 p4 (nI w))] H := hP
        have hD : va_D A [(aI g p1 24 (upd sd 21 (nu 0))), (aI g p2 10 fn), (aI g p3 6 st), (aI g p4 6 me), (aI g z1 3 nu), (oX6 p0 p1 p2 p3 p4 (nI w))] := hD
        refine lv_icmp_ge (tgt := 78) hx hb dX6_store_56 (by decide) (fun c_10 => ?_) (fun c_10 => ?_)
        · exact absurd c_10 (by decide)
        · refine lv_aload_n hx hb dX6_store_59 rfl (lv_at hl 1 rfl) ?_
          refine va_get (v := .ref p1) (T := TX6) (N := 5) hx hb hts inX6 hown hK hP 5 rfl rfl 0 (by decide) f15 (fun _ h9 => h9) rfl dX6_store_60 ?_
          refine lv_iload_n hx hb dX6_store_63 rfl (lv_at hl 2 rfl) ?_
          refine lv_iconst (v := 3) hx hb dX6_store_64 (by decide) ?_
          refine lv_imul hx hb dX6_store_65 ?_
          refine he_top (21) (by decide) ?_
          refine lv_iload_n hx hb dX6_store_66 rfl (lv_at hl 0 rfl) ?_
          refine lv_iadd hx hb dX6_store_67 ?_
          refine he_top (22) (by decide) ?_
          refine lv_aload_n hx hb dX6_store_68 rfl (lv_at hl 3 rfl) ?_
          refine lv_iload_n hx hb dX6_store_69 rfl (lv_at hl 0 rfl) ?_
          refine he_iald hx hb hK hP 4 rfl (1) (by decide) (by decide) (by first | decide | assumption) (nu 1) rfl dX6_store_70 ?_
          refine he_iast hx hb hK hP hD hS 0 rfl (22) (by decide) (by decide) (by first | decide | assumption) dX6_store_71 (fun H locs hP hD hS => ?_)
          have hP : va_P g.1 vwCl [(aI g p1 24 (upd (upd sd 21 (nu 0)) 22 (nu 1))), (aI g p2 10 fn), (aI g p3 6 st), (aI g p4 6 me), (aI g z1 3 nu), (oX6 p0 p1 p2 p3 p4 (nI w))] H := hP
          have hD : va_D A [(aI g p1 24 (upd (upd sd 21 (nu 0)) 22 (nu 1))), (aI g p2 10 fn), (aI g p3 6 st), (aI g p4 6 me), (aI g z1 3 nu), (oX6 p0 p1 p2 p3 p4 (nI w))] := hD
          refine lv_iinc (v := 2) (lv' := [(3, .int 2), (0, .ref p0), (1, .int 7), (2, .ref z1)]) hx hb dX6_store_72 hl (k := 0) rfl (by decide) (by decide) rfl (fun ls hl => ?_)
          refine lv_goto (tgt := 50) hx hb dX6_store_75 (by decide) ?_
          refine lv_iload_n hx hb dX6_store_50 rfl (lv_at hl 0 rfl) ?_
          refine lv_aload_n hx hb dX6_store_51 rfl (lv_at hl 1 rfl) ?_
          refine lv_iload_n hx hb dX6_store_52 rfl (lv_at hl 2 rfl) ?_
          refine he_ci (wc := [(oX6 p0 p1 p2 p3 p4 (nI w))]) (wr := [(aI g p1 24 (upd (upd sd 21 (nu 0)) 22 (nu 1))), (aI g p2 10 fn), (aI g p3 6 st), (aI g p4 6 me), (aI g z1 3 nu)]) (va_runV (As := [.int 7]) (rest := [.int 2]) ⟨hx, hb, hml, hown, hts⟩ (p_X6_numbers_7 l g p0 p1 p2 p3 p4 (nI w) H.size) (cwV 1 hts gX6_store_X6_numbers rfl rfl rfl (by decide +kernel) ⟨Nat.le_of_ble_eq_true rfl, Nat.le_of_ble_eq_true rfl⟩) (he_preV (wc := [(oX6 p0 p1 p2 p3 p4 (nI w))]) hK hP hD hS hA hE [5] rfl rfl 5 rfl rfl) rfl rfl hl.1 rfl (lv_room (Nat.le_of_ble_eq_true rfl)) dX6_store_53 ⟨(Nat.le_of_ble_eq_true rfl), (Nat.le_of_ble_eq_true rfl)⟩) hP hD hS hA [5] [0, 1, 2, 3, 4] rfl rfl rfl (by decide) (fun r_11 u_12 H locs h_13 hP hD hS => ?_)
          subst h_13
          have hP : va_P g.1 vwCl [(aI g p1 24 (upd (upd sd 21 (nu 0)) 22 (nu 1))), (aI g p2 10 fn), (aI g p3 6 st), (aI g p4 6 me), (aI g z1 3 nu), (oX6 p0 p1 p2 p3 p4 (nI w))] H := hP
          have hD : va_D A [(aI g p1 24 (upd (upd sd 21 (nu 0)) 22 (nu 1))), (aI g p2 10 fn), (aI g p3 6 st), (aI g p4 6 me), (aI g z1 3 nu), (oX6 p0 p1 p2 p3 p4 (nI w))] := hD
          refine lv_icmp_ge (tgt := 78) hx hb dX6_store_56 (by decide) (fun c_14 => ?_) (fun c_14 => ?_)
          · have hP := hP.sub (ws' := [(oX6 p0 p1 p2 p3 p4 (nI w)), (aI g p1 24 (upd (upd sd 21 (nu 0)) 22 (nu 1))), (aI g p2 10 fn), (aI g p3 6 st), (aI g p4 6 me), (aI g z1 3 nu)]) [5, 0, 1, 2, 3, 4] rfl
            have hD := hD.sub (ws' := [(oX6 p0 p1 p2 p3 p4 (nI w)), (aI g p1 24 (upd (upd sd 21 (nu 0)) 22 (nu 1))), (aI g p2 10 fn), (aI g p3 6 st), (aI g p4 6 me), (aI g z1 3 nu)]) [5, 0, 1, 2, 3, 4] (by decide) rfl
            exact he_rv hQ hx hb hr hlk hP hD hS dX6_store_78 (Nat.le_of_ble_eq_true rfl) (Nat.le_of_ble_eq_true rfl) (()) (rfl) (trivial)
          · exact absurd (by decide) c_14
    · exact absurd c_2 (by decide)
  · exact absurd c_1 (by decide)
