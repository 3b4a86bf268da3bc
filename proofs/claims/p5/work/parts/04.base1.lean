/-! pure words -/
def he_within (n a b : Int32) : Int32 := if n < a then 0 else if b < n then 0 else 1
def mvF (f : Nat → Int32) (i j : Nat) (d : Int32) : Nat → Int32 := upd (upd f i (f i - (if f i < d then f i else d))) j (upd f i (f i - (if f i < d then f i else d)) j + (if f i < d then f i else d))
def fcF (f : Nat → Int32) (c m : Int32) : Nat → Int32 := upd (upd f 10 c) 11 m
def frF (f : Nat → Int32) (d : Int32) : Nat → Int32 := upd f 5 (if f 5 + d < 100 then f 5 + d else 100)
def mnF (f : Nat → Int32) (i j : Nat) (d : Int32) : Nat → Int32 := upd (upd f i (f i - f i * (if 0 ≤ d then d else 0 - d) / 100)) j (upd f i (f i - f i * (if 0 ≤ d then d else 0 - d) / 100) j + f i * (if 0 ≤ d then d else 0 - d) / 100)
def dsF (f : Nat → Int32) (d : Int32) : Nat → Int32 := if d ≤ 0 then mnF f 4 3 d else mnF f 3 4 d
def flF (u f : Nat → Int32) (i : Nat) : Nat → Int32 := fun k => if k < i then u k else f k
theorem flF_0 (u f : Nat → Int32) : flF u f 0 = f := by funext k; simp [flF]
theorem flF_s (u f : Nat → Int32) (i : Nat) : upd (flF u f i) i (u i) = flF u f (i + 1) := by
  funext k
  unfold upd flF
  by_cases h : k = i
  · subst h; simp
  · by_cases h2 : k < i
    · simp [h, h2, Nat.lt_succ_of_lt h2]
    · simp [h, h2, show ¬ k < i + 1 by omega]
def unF (k : Nat) : Int32 := he_untold.getD k 0
def nrF (k : Nat) : Int32 := 9 - nI k
def lwF (b st : Nat → Int32) (i : Nat) : Nat → Int32 := fun k => if 12 ≤ k ∧ k < 12 + i then st (k - 12) else b k
theorem lwF_0 (b st : Nat → Int32) : lwF b st 0 = b := by funext k; simp only [lwF]; rw [if_neg (by omega)]
theorem lwF_s (b st : Nat → Int32) (i : Nat) : upd (lwF b st i) (12 + i) (st i) = lwF b st (i + 1) := by
  funext k
  unfold upd lwF
  by_cases h : k = 12 + i
  · subst h; simp
  · by_cases h2 : 12 ≤ k ∧ k < 12 + i
    · simp [h, h2, show k < 12 + (i + 1) by omega]
    · simp [h, h2, show ¬ (12 ≤ k ∧ k < 12 + (i + 1)) by omega]
set_option maxHeartbeats 4000000 in
set_option maxRecDepth 100000 in
theorem c_X10_within (l : Launch) (g : he_G) (x : Int32) (a : Int32) (b : Int32)  : he_I l yX10_within wsX10_within 0 0 0 0 g [.int x, .int a, .int b] [] (fun (r : Int32) (u : Unit) => r = he_within x a b) (fun (u : Unit) => []) := by
  refine he_begin (l := l) (g := g) (y := yX10_within) (wl := wsX10_within) (fr := 0) (lo := 0) (mc := 0) (ms := 0) (av := [.int x, .int a, .int b]) (ws := []) (cc := cX10_within) (maxL := 3) (ret := (some .boolean)) (fun A => va_Qi (fun (r : Int32) (u : Unit) => r = he_within x a b) (fun u t => he_post g A ((fun (u : Unit) => []) u) t) A) (by decide) rfl (Nat.le_of_ble_eq_true rfl) ?_
  intro p e s m args below meth c A ls H locs Q hQ hB
  obtain ⟨hx, hb, hr, hml, hown, hts, hlk, hin, hP, hK, hD, hS, hA, hE, hl⟩ := hB
  have hl : lv_has ls 3 [(0, .int x), (1, .int a), (2, .int b)] := hl
  refine lv_iload_n hx hb dX10_within_0 rfl (lv_at hl 0 rfl) ?_
  refine lv_iload_n hx hb dX10_within_1 rfl (lv_at hl 1 rfl) ?_
  refine lv_icmp_lt (tgt := 14) hx hb dX10_within_2 (by decide) (fun c_1 => ?_) (fun c_1 => ?_)
  · refine lv_iconst (v := 0) hx hb dX10_within_14 (by decide) ?_
    exact he_rz hQ hx hb hr hlk hP hD hS dX10_within_15 (Nat.le_of_ble_eq_true rfl) (Nat.le_of_ble_eq_true rfl) rfl (()) (rfl) (by simp [he_within, c_1])
  · refine lv_iload_n hx hb dX10_within_5 rfl (lv_at hl 0 rfl) ?_
    refine lv_iload_n hx hb dX10_within_6 rfl (lv_at hl 2 rfl) ?_
    refine lv_icmp_gt (tgt := 14) hx hb dX10_within_7 (by decide) (fun c_2 => ?_) (fun c_2 => ?_)
    · refine lv_iconst (v := 0) hx hb dX10_within_14 (by decide) ?_
      exact he_rz hQ hx hb hr hlk hP hD hS dX10_within_15 (Nat.le_of_ble_eq_true rfl) (Nat.le_of_ble_eq_true rfl) rfl (()) (rfl) (by simp [he_within, c_1, c_2])
    · refine lv_iconst (v := 1) hx hb dX10_within_10 (by decide) ?_
      refine lv_goto (tgt := 15) hx hb dX10_within_11 (by decide) ?_
      exact he_rz hQ hx hb hr hlk hP hD hS dX10_within_15 (Nat.le_of_ble_eq_true rfl) (Nat.le_of_ble_eq_true rfl) rfl (()) (rfl) (by simp [he_within, c_1, c_2])
set_option maxHeartbeats 4000000 in
set_option maxRecDepth 100000 in
theorem c_X4_move (l : Launch) (g : he_G) (h0 : Nat) (q0 : Nat) (q1 : Nat) (mo : Int32) (f : Nat → Int32) (i : Nat) (j : Nat) (d : Int32) (hi : i < 24) (hj : j < 24) : he_V l yX4_move wsX4_move 1 13 0 0 g [.ref h0, .int (nI i), .int (nI j), .int d] [(oX4 h0 q0 q1 mo), (aI g q0 24 f)] (fun (u : Unit) => True) (fun (u : Unit) => [(oX4 h0 q0 q1 mo), (aI g q0 24 (mvF f i j d))]) := by
  refine he_begin (l := l) (g := g) (y := yX4_move) (wl := wsX4_move) (fr := 1) (lo := 13) (mc := 0) (ms := 0) (av := [.ref h0, .int (nI i), .int (nI j), .int d]) (ws := [(oX4 h0 q0 q1 mo), (aI g q0 24 f)]) (cc := cX4_move) (maxL := 5) (ret := none) (fun A => va_Qv (fun (u : Unit) => True) (fun u t => he_post g A ((fun (u : Unit) => [(oX4 h0 q0 q1 mo), (aI g q0 24 (mvF f i j d))]) u) t) A) (by decide) rfl (Nat.le_of_ble_eq_true rfl) ?_
  intro p e s m args below meth c A ls H locs Q hQ hB
  obtain ⟨hx, hb, hr, hml, hown, hts, hlk, hin, hP, hK, hD, hS, hA, hE, hl⟩ := hB
  have hl : lv_has ls 5 [(0, .ref h0), (1, .int (nI i)), (2, .int (nI j)), (3, .int d)] := hl
  have f9 := hts (.fieldLink RX4 9 "HiredEnemy$Course" "now" "[I") (iwoX4_move (k := 0) rfl)
  have inX4 : ∀ w ∈ wsX40, w ∈ wsX4_move := innX4_move_X4
  have ml81 := hts (.methodLink RX4 81 Lib.Math.min.name) (iwoX4_move (k := 1) rfl)
  have msmin := hts (.static Lib.Math.min.name) (iwoX4_move (k := 2) rfl)
  have mi := hts (.initialized "java/lang/Math") (iwoX4_move (k := 3) rfl)
  have mcmin := hts (.code Lib.Math.min.name Lib.Math.min.code 2 (some .int)) (iwoX4_move (k := 4) rfl)
  refine lv_iload_n hx hb dX4_move_0 rfl (lv_at hl 3 rfl) ?_
  refine lv_aload_n hx hb dX4_move_1 rfl (lv_at hl 0 rfl) ?_
  refine va_get (v := .ref q0) (T := TX4) (N := 3) hx hb hts inX4 hown hK hP 0 rfl rfl 0 (by decide) f9 (fun _ h9 => h9) rfl dX4_move_2 ?_
  refine lv_iload_n hx hb dX4_move_5 rfl (lv_at hl 1 rfl) ?_
  refine he_iald hx hb hK hP 1 rfl (i) rfl (by first | assumption | decide | omega) (by first | decide | assumption) (f i) rfl dX4_move_6 ?_
  refine va_mmin hx hb (by rw [hml]; exact hl.1.symm) hown ml81 msmin mi mcmin (by decide) (Nat.le_of_ble_eq_true rfl) (Nat.le_of_ble_eq_true rfl) (Nat.le_of_ble_eq_true rfl) dX4_move_7 ?_
  refine lv_istore (lv' := [(4, .int (if (f i) < d then f i else d)), (0, .ref h0), (1, .int (nI i)), (2, .int (nI j)), (3, .int d)]) hx hb dX4_move_10 hl (by decide) rfl (fun ls hl => ?_)
  refine lv_aload_n hx hb dX4_move_12 rfl (lv_at hl 1 rfl) ?_
  refine va_get (v := .ref q0) (T := TX4) (N := 3) hx hb hts inX4 hown hK hP 0 rfl rfl 0 (by decide) f9 (fun _ h9 => h9) rfl dX4_move_13 ?_
  refine lv_iload_n hx hb dX4_move_16 rfl (lv_at hl 2 rfl) ?_
  refine lv_dup2_11 hx hb dX4_move_17 rfl rfl ?_
  refine he_iald hx hb hK hP 1 rfl (i) rfl (by first | assumption | decide | omega) (by first | decide | assumption) (f i) rfl dX4_move_18 ?_
  refine lv_iload hx hb dX4_move_19 (lv_at hl 0 rfl) ?_
  refine lv_isub hx hb dX4_move_21 ?_
  refine he_iast hx hb hK hP hD hS 1 rfl (i) rfl (by first | assumption | decide | omega) (by first | decide | assumption) dX4_move_22 (fun H locs hP hD hS => ?_)
  have hP : va_P g.1 vwCl [(oX4 h0 q0 q1 mo), (aI g q0 24 (upd f i ((f i) - (if (f i) < d then f i else d))))] H := hP
  have hD : va_D A [(oX4 h0 q0 q1 mo), (aI g q0 24 (upd f i ((f i) - (if (f i) < d then f i else d))))] := hD
  refine lv_aload_n hx hb dX4_move_23 rfl (lv_at hl 1 rfl) ?_
  refine va_get (v := .ref q0) (T := TX4) (N := 3) hx hb hts inX4 hown hK hP 0 rfl rfl 0 (by decide) f9 (fun _ h9 => h9) rfl dX4_move_24 ?_
  refine lv_iload_n hx hb dX4_move_27 rfl (lv_at hl 3 rfl) ?_
  refine lv_dup2_11 hx hb dX4_move_28 rfl rfl ?_
  refine he_iald hx hb hK hP 1 rfl (j) rfl (by first | assumption | decide | omega) (by first | decide | assumption) ((upd f i ((f i) - (if (f i) < d then f i else d))) j) rfl dX4_move_29 ?_
  refine lv_iload hx hb dX4_move_30 (lv_at hl 0 rfl) ?_
  refine lv_iadd hx hb dX4_move_32 ?_
  refine he_iast hx hb hK hP hD hS 1 rfl (j) rfl (by first | assumption | decide | omega) (by first | decide | assumption) dX4_move_33 (fun H locs hP hD hS => ?_)
  have hP : va_P g.1 vwCl [(oX4 h0 q0 q1 mo), (aI g q0 24 (upd (upd f i ((f i) - (if (f i) < d then f i else d))) j (((upd f i ((f i) - (if (f i) < d then f i else d))) j) + (if (f i) < d then f i else d))))] H := hP
  have hD : va_D A [(oX4 h0 q0 q1 mo), (aI g q0 24 (upd (upd f i ((f i) - (if (f i) < d then f i else d))) j (((upd f i ((f i) - (if (f i) < d then f i else d))) j) + (if (f i) < d then f i else d))))] := hD
  exact he_rv hQ hx hb hr hlk hP hD hS dX4_move_34 (Nat.le_of_ble_eq_true rfl) (Nat.le_of_ble_eq_true rfl) (()) (rfl) (trivial)
set_option maxHeartbeats 4000000 in
set_option maxRecDepth 100000 in
theorem c_X4_pledge (l : Launch) (g : he_G) (h0 : Nat) (q0 : Nat) (q1 : Nat) (mo : Int32) (f : Nat → Int32) (cv : Int32)  : he_V l yX4_pledge wsX4_pledge 0 0 0 0 g [.ref h0, .int cv] [(oX4 h0 q0 q1 mo), (aI g q0 24 f)] (fun (u : Unit) => True) (fun (u : Unit) => [(oX4 h0 q0 q1 mo), (aI g q0 24 (fcF f cv mo))]) := by
  refine he_begin (l := l) (g := g) (y := yX4_pledge) (wl := wsX4_pledge) (fr := 0) (lo := 0) (mc := 0) (ms := 0) (av := [.ref h0, .int cv]) (ws := [(oX4 h0 q0 q1 mo), (aI g q0 24 f)]) (cc := cX4_pledge) (maxL := 2) (ret := none) (fun A => va_Qv (fun (u : Unit) => True) (fun u t => he_post g A ((fun (u : Unit) => [(oX4 h0 q0 q1 mo), (aI g q0 24 (fcF f cv mo))]) u) t) A) (by decide) rfl (Nat.le_of_ble_eq_true rfl) ?_
  intro p e s m args below meth c A ls H locs Q hQ hB
  obtain ⟨hx, hb, hr, hml, hown, hts, hlk, hin, hP, hK, hD, hS, hA, hE, hl⟩ := hB
  have hl : lv_has ls 2 [(0, .ref h0), (1, .int cv)] := hl
  have f9 := hts (.fieldLink RX4 9 "HiredEnemy$Course" "now" "[I") (iwoX4_pledge (k := 0) rfl)
  have inX4 : ∀ w ∈ wsX40, w ∈ wsX4_pledge := innX4_pledge_X4
  have f18 := hts (.fieldLink RX4 18 "HiredEnemy$Course" "month" "I") (iwoX4_pledge (k := 1) rfl)
  refine lv_aload_n hx hb dX4_pledge_0 rfl (lv_at hl 0 rfl) ?_
  refine va_get (v := .ref q0) (T := TX4) (N := 3) hx hb hts inX4 hown hK hP 0 rfl rfl 0 (by decide) f9 (fun _ h9 => h9) rfl dX4_pledge_1 ?_
  refine lv_bipush (v := 10) hx hb dX4_pledge_4 (by decide) ?_
  refine lv_iload_n hx hb dX4_pledge_6 rfl (lv_at hl 1 rfl) ?_
  refine he_iast hx hb hK hP hD hS 1 rfl (10) (by decide) (by decide) (by first | decide | assumption) dX4_pledge_7 (fun H locs hP hD hS => ?_)
  have hP : va_P g.1 vwCl [(oX4 h0 q0 q1 mo), (aI g q0 24 (upd f 10 cv))] H := hP
  have hD : va_D A [(oX4 h0 q0 q1 mo), (aI g q0 24 (upd f 10 cv))] := hD
  refine lv_aload_n hx hb dX4_pledge_8 rfl (lv_at hl 0 rfl) ?_
  refine va_get (v := .ref q0) (T := TX4) (N := 3) hx hb hts inX4 hown hK hP 0 rfl rfl 0 (by decide) f9 (fun _ h9 => h9) rfl dX4_pledge_9 ?_
  refine lv_bipush (v := 11) hx hb dX4_pledge_12 (by decide) ?_
  refine lv_aload_n hx hb dX4_pledge_14 rfl (lv_at hl 0 rfl) ?_
  refine va_get (v := .int mo) (T := TX4) (N := 3) hx hb hts inX4 hown hK hP 0 rfl rfl 2 (by decide) f18 (fun _ h9 => h9) rfl dX4_pledge_15 ?_
  refine he_iast hx hb hK hP hD hS 1 rfl (11) (by decide) (by decide) (by first | decide | assumption) dX4_pledge_18 (fun H locs hP hD hS => ?_)
  have hP : va_P g.1 vwCl [(oX4 h0 q0 q1 mo), (aI g q0 24 (upd (upd f 10 cv) 11 mo))] H := hP
  have hD : va_D A [(oX4 h0 q0 q1 mo), (aI g q0 24 (upd (upd f 10 cv) 11 mo))] := hD
  exact he_rv hQ hx hb hr hlk hP hD hS dX4_pledge_19 (Nat.le_of_ble_eq_true rfl) (Nat.le_of_ble_eq_true rfl) (()) (rfl) (trivial)
set_option maxHeartbeats 4000000 in
set_option maxRecDepth 100000 in
theorem c_X4_frighten (l : Launch) (g : he_G) (h0 : Nat) (q0 : Nat) (q1 : Nat) (mo : Int32) (f : Nat → Int32) (d : Int32)  : he_V l yX4_frighten wsX4_frighten 1 15 0 0 g [.ref h0, .int d] [(oX4 h0 q0 q1 mo), (aI g q0 24 f)] (fun (u : Unit) => True) (fun (u : Unit) => [(oX4 h0 q0 q1 mo), (aI g q0 24 (frF f d))]) := by
  refine he_begin (l := l) (g := g) (y := yX4_frighten) (wl := wsX4_frighten) (fr := 1) (lo := 15) (mc := 0) (ms := 0) (av := [.ref h0, .int d]) (ws := [(oX4 h0 q0 q1 mo), (aI g q0 24 f)]) (cc := cX4_frighten) (maxL := 2) (ret := none) (fun A => va_Qv (fun (u : Unit) => True) (fun u t => he_post g A ((fun (u : Unit) => [(oX4 h0 q0 q1 mo), (aI g q0 24 (frF f d))]) u) t) A) (by decide) rfl (Nat.le_of_ble_eq_true rfl) ?_
  intro p e s m args below meth c A ls H locs Q hQ hB
  obtain ⟨hx, hb, hr, hml, hown, hts, hlk, hin, hP, hK, hD, hS, hA, hE, hl⟩ := hB
  have hl : lv_has ls 2 [(0, .ref h0), (1, .int d)] := hl
  have f9 := hts (.fieldLink RX4 9 "HiredEnemy$Course" "now" "[I") (iwoX4_frighten (k := 0) rfl)
  have inX4 : ∀ w ∈ wsX40, w ∈ wsX4_frighten := innX4_frighten_X4
  have ml81 := hts (.methodLink RX4 81 Lib.Math.min.name) (iwoX4_frighten (k := 1) rfl)
  have msmin := hts (.static Lib.Math.min.name) (iwoX4_frighten (k := 2) rfl)
  have mi := hts (.initialized "java/lang/Math") (iwoX4_frighten (k := 3) rfl)
  have mcmin := hts (.code Lib.Math.min.name Lib.Math.min.code 2 (some .int)) (iwoX4_frighten (k := 4) rfl)
  refine lv_aload_n hx hb dX4_frighten_0 rfl (lv_at hl 0 rfl) ?_
  refine va_get (v := .ref q0) (T := TX4) (N := 3) hx hb hts inX4 hown hK hP 0 rfl rfl 0 (by decide) f9 (fun _ h9 => h9) rfl dX4_frighten_1 ?_
  refine lv_iconst (v := 5) hx hb dX4_frighten_4 (by decide) ?_
  refine lv_bipush (v := 100) hx hb dX4_frighten_5 (by decide) ?_
  refine lv_aload_n hx hb dX4_frighten_7 rfl (lv_at hl 0 rfl) ?_
  refine va_get (v := .ref q0) (T := TX4) (N := 3) hx hb hts inX4 hown hK hP 0 rfl rfl 0 (by decide) f9 (fun _ h9 => h9) rfl dX4_frighten_8 ?_
  refine lv_iconst (v := 5) hx hb dX4_frighten_11 (by decide) ?_
  refine he_iald hx hb hK hP 1 rfl (5) (by decide) (by decide) (by first | decide | assumption) (f 5) rfl dX4_frighten_12 ?_
  refine lv_iload_n hx hb dX4_frighten_13 rfl (lv_at hl 1 rfl) ?_
  refine lv_iadd hx hb dX4_frighten_14 ?_
  refine va_mmin hx hb (by rw [hml]; exact hl.1.symm) hown ml81 msmin mi mcmin (by decide) (Nat.le_of_ble_eq_true rfl) (Nat.le_of_ble_eq_true rfl) (Nat.le_of_ble_eq_true rfl) dX4_frighten_15 ?_
  refine he_iast hx hb hK hP hD hS 1 rfl (5) (by decide) (by decide) (by first | decide | assumption) dX4_frighten_18 (fun H locs hP hD hS => ?_)
  have hP : va_P g.1 vwCl [(oX4 h0 q0 q1 mo), (aI g q0 24 (upd f 5 (if ((f 5) + d) < 100 then (f 5) + d else 100)))] H := hP
  have hD : va_D A [(oX4 h0 q0 q1 mo), (aI g q0 24 (upd f 5 (if ((f 5) + d) < 100 then (f 5) + d else 100)))] := hD
  exact he_rv hQ hx hb hr hlk hP hD hS dX4_frighten_19 (Nat.le_of_ble_eq_true rfl) (Nat.le_of_ble_eq_true rfl) (()) (rfl) (trivial)
set_option maxHeartbeats 4000000 in
set_option maxRecDepth 100000 in
theorem c_X4_desert (l : Launch) (g : he_G) (h0 : Nat) (q0 : Nat) (q1 : Nat) (mo : Int32) (f : Nat → Int32) (d : Int32)  : he_V l yX4_desert wsX4_desert 1 14 0 0 g [.ref h0, .int d] [(oX4 h0 q0 q1 mo), (aI g q0 24 f)] (fun (u : Unit) => True) (fun (u : Unit) => [(oX4 h0 q0 q1 mo), (aI g q0 24 (dsF f d))]) := by
  refine he_begin (l := l) (g := g) (y := yX4_desert) (wl := wsX4_desert) (fr := 1) (lo := 14) (mc := 0) (ms := 0) (av := [.ref h0, .int d]) (ws := [(oX4 h0 q0 q1 mo), (aI g q0 24 f)]) (cc := cX4_desert) (maxL := 5) (ret := none) (fun A => va_Qv (fun (u : Unit) => True) (fun u t => he_post g A ((fun (u : Unit) => [(oX4 h0 q0 q1 mo), (aI g q0 24 (dsF f d))]) u) t) A) (by decide) rfl (Nat.le_of_ble_eq_true rfl) ?_
  intro p e s m args below meth c A ls H locs Q hQ hB
  obtain ⟨hx, hb, hr, hml, hown, hts, hlk, hin, hP, hK, hD, hS, hA, hE, hl⟩ := hB
  have hl : lv_has ls 5 [(0, .ref h0), (1, .int d)] := hl
  have f9 := hts (.fieldLink RX4 9 "HiredEnemy$Course" "now" "[I") (iwoX4_desert (k := 0) rfl)
  have inX4 : ∀ w ∈ wsX40, w ∈ wsX4_desert := innX4_desert_X4
  have ml100 := hts (.methodLink RX4 100 Lib.Math.abs.name) (iwoX4_desert (k := 1) rfl)
  have msabs := hts (.static Lib.Math.abs.name) (iwoX4_desert (k := 2) rfl)
  have mi := hts (.initialized "java/lang/Math") (iwoX4_desert (k := 3) rfl)
  have mcabs := hts (.code Lib.Math.abs.name Lib.Math.abs.code 1 (some .int)) (iwoX4_desert (k := 4) rfl)
  refine lv_iload_n hx hb dX4_desert_0 rfl (lv_at hl 1 rfl) ?_
  refine lv_if_le (tgt := 8) hx hb dX4_desert_1 (by decide) (fun c_1 => ?_) (fun c_1 => ?_)
  · refine lv_iconst (v := 4) hx hb dX4_desert_8 (by decide) ?_
    refine lv_istore_n (lv' := [(2, .int 4), (0, .ref h0), (1, .int d)]) hx hb dX4_desert_9 rfl hl (by decide) rfl (fun ls hl => ?_)
    refine lv_iload_n hx hb dX4_desert_10 rfl (lv_at hl 2 rfl) ?_
    refine lv_if_le (tgt := 18) hx hb dX4_desert_11 (by decide) (fun c_2 => ?_) (fun c_2 => ?_)
    · refine lv_iconst (v := 3) hx hb dX4_desert_18 (by decide) ?_
      refine lv_istore_n (lv' := [(3, .int 3), (2, .int 4), (0, .ref h0), (1, .int d)]) hx hb dX4_desert_19 rfl hl (by decide) rfl (fun ls hl => ?_)
      refine lv_aload_n hx hb dX4_desert_20 rfl (lv_at hl 2 rfl) ?_
      refine va_get (v := .ref q0) (T := TX4) (N := 3) hx hb hts inX4 hown hK hP 0 rfl rfl 0 (by decide) f9 (fun _ h9 => h9) rfl dX4_desert_21 ?_
      refine lv_iload_n hx hb dX4_desert_24 rfl (lv_at hl 1 rfl) ?_
      refine he_iald hx hb hK hP 1 rfl (4) (by decide) (by decide) (by first | decide | assumption) (f 4) rfl dX4_desert_25 ?_
      refine lv_iload_n hx hb dX4_desert_26 rfl (lv_at hl 3 rfl) ?_
      refine va_mabs hx hb (by rw [hml]; exact hl.1.symm) hown ml100 msabs mi mcabs (by decide) (Nat.le_of_ble_eq_true rfl) (Nat.le_of_ble_eq_true rfl) (Nat.le_of_ble_eq_true rfl) dX4_desert_27 ?_
      refine lv_imul hx hb dX4_desert_30 ?_
      refine lv_bipush (v := 100) hx hb dX4_desert_31 (by decide) ?_
      refine lv_idiv hx hb dX4_desert_33 (by decide) ?_
      refine lv_istore (lv' := [(4, .int (((f 4) * (if 0 ≤ d then d else 0 - d)) / 100)), (3, .int 3), (2, .int 4), (0, .ref h0), (1, .int d)]) hx hb dX4_desert_34 hl (by decide) rfl (fun ls hl => ?_)
      refine lv_aload_n hx hb dX4_desert_36 rfl (lv_at hl 3 rfl) ?_
      refine va_get (v := .ref q0) (T := TX4) (N := 3) hx hb hts inX4 hown hK hP 0 rfl rfl 0 (by decide) f9 (fun _ h9 => h9) rfl dX4_desert_37 ?_
      refine lv_iload_n hx hb dX4_desert_40 rfl (lv_at hl 2 rfl) ?_
      refine lv_dup2_11 hx hb dX4_desert_41 rfl rfl ?_
      refine he_iald hx hb hK hP 1 rfl (4) (by decide) (by decide) (by first | decide | assumption) (f 4) rfl dX4_desert_42 ?_
      refine lv_iload hx hb dX4_desert_43 (lv_at hl 0 rfl) ?_
      refine lv_isub hx hb dX4_desert_45 ?_
      refine he_iast hx hb hK hP hD hS 1 rfl (4) (by decide) (by decide) (by first | decide | assumption) dX4_desert_46 (fun H locs hP hD hS => ?_)
      have hP : va_P g.1 vwCl [(oX4 h0 q0 q1 mo), (aI g q0 24 (upd f 4 ((f 4) - (((f 4) * (if 0 ≤ d then d else 0 - d)) / 100))))] H := hP
      have hD : va_D A [(oX4 h0 q0 q1 mo), (aI g q0 24 (upd f 4 ((f 4) - (((f 4) * (if 0 ≤ d then d else 0 - d)) / 100))))] := hD
      refine lv_aload_n hx hb dX4_desert_47 rfl (lv_at hl 3 rfl) ?_
      refine va_get (v := .ref q0) (T := TX4) (N := 3) hx hb hts inX4 hown hK hP 0 rfl rfl 0 (by decide) f9 (fun _ h9 => h9) rfl dX4_desert_48 ?_
      refine lv_iload_n hx hb dX4_desert_51 rfl (lv_at hl 1 rfl) ?_
      refine lv_dup2_11 hx hb dX4_desert_52 rfl rfl ?_
      refine he_iald hx hb hK hP 1 rfl (3) (by decide) (by decide) (by first | decide | assumption) ((upd f 4 ((f 4) - (((f 4) * (if 0 ≤ d then d else 0 - d)) / 100))) 3) rfl dX4_desert_53 ?_
      refine lv_iload hx hb dX4_desert_54 (lv_at hl 0 rfl) ?_
      refine lv_iadd hx hb dX4_desert_56 ?_
      refine he_iast hx hb hK hP hD hS 1 rfl (3) (by decide) (by decide) (by first | decide | assumption) dX4_desert_57 (fun H locs hP hD hS => ?_)
      have hP : va_P g.1 vwCl [(oX4 h0 q0 q1 mo), (aI g q0 24 (upd (upd f 4 ((f 4) - (((f 4) * (if 0 ≤ d then d else 0 - d)) / 100))) 3 (((upd f 4 ((f 4) - (((f 4) * (if 0 ≤ d then d else 0 - d)) / 100))) 3) + (((f 4) * (if 0 ≤ d then d else 0 - d)) / 100))))] H := hP
      have hD : va_D A [(oX4 h0 q0 q1 mo), (aI g q0 24 (upd (upd f 4 ((f 4) - (((f 4) * (if 0 ≤ d then d else 0 - d)) / 100))) 3 (((upd f 4 ((f 4) - (((f 4) * (if 0 ≤ d then d else 0 - d)) / 100))) 3) + (((f 4) * (if 0 ≤ d then d else 0 - d)) / 100))))] := hD
      exact he_rv hQ hx hb hr hlk hP hD hS dX4_desert_58 (Nat.le_of_ble_eq_true rfl) (Nat.le_of_ble_eq_true rfl) (()) (by simp [dsF, mnF, c_1, c_2]) (trivial)
    · exact absurd c_1 c_2
  · refine lv_iconst (v := 3) hx hb dX4_desert_4 (by decide) ?_
    refine lv_goto (tgt := 9) hx hb dX4_desert_5 (by decide) ?_
    refine lv_istore_n (lv' := [(2, .int 3), (0, .ref h0), (1, .int d)]) hx hb dX4_desert_9 rfl hl (by decide) rfl (fun ls hl => ?_)
    refine lv_iload_n hx hb dX4_desert_10 rfl (lv_at hl 2 rfl) ?_
    refine lv_if_le (tgt := 18) hx hb dX4_desert_11 (by decide) (fun c_3 => ?_) (fun c_3 => ?_)
    · exact absurd c_3 c_1
    · refine lv_iconst (v := 4) hx hb dX4_desert_14 (by decide) ?_
      refine lv_goto (tgt := 19) hx hb dX4_desert_15 (by decide) ?_
      refine lv_istore_n (lv' := [(3, .int 4), (2, .int 3), (0, .ref h0), (1, .int d)]) hx hb dX4_desert_19 rfl hl (by decide) rfl (fun ls hl => ?_)
      refine lv_aload_n hx hb dX4_desert_20 rfl (lv_at hl 2 rfl) ?_
      refine va_get (v := .ref q0) (T := TX4) (N := 3) hx hb hts inX4 hown hK hP 0 rfl rfl 0 (by decide) f9 (fun _ h9 => h9) rfl dX4_desert_21 ?_
      refine lv_iload_n hx hb dX4_desert_24 rfl (lv_at hl 1 rfl) ?_
      refine he_iald hx hb hK hP 1 rfl (3) (by decide) (by decide) (by first | decide | assumption) (f 3) rfl dX4_desert_25 ?_
      refine lv_iload_n hx hb dX4_desert_26 rfl (lv_at hl 3 rfl) ?_
      refine va_mabs hx hb (by rw [hml]; exact hl.1.symm) hown ml100 msabs mi mcabs (by decide) (Nat.le_of_ble_eq_true rfl) (Nat.le_of_ble_eq_true rfl) (Nat.le_of_ble_eq_true rfl) dX4_desert_27 ?_
      refine lv_imul hx hb dX4_desert_30 ?_
      refine lv_bipush (v := 100) hx hb dX4_desert_31 (by decide) ?_
      refine lv_idiv hx hb dX4_desert_33 (by decide) ?_
      refine lv_istore (lv' := [(4, .int (((f 3) * (if 0 ≤ d then d else 0 - d)) / 100)), (3, .int 4), (2, .int 3), (0, .ref h0), (1, .int d)]) hx hb dX4_desert_34 hl (by decide) rfl (fun ls hl => ?_)
      refine lv_aload_n hx hb dX4_desert_36 rfl (lv_at hl 3 rfl) ?_
      refine va_get (v := .ref q0) (T := TX4) (N := 3) hx hb hts inX4 hown hK hP 0 rfl rfl 0 (by decide) f9 (fun _ h9 => h9) rfl dX4_desert_37 ?_
      refine lv_iload_n hx hb dX4_desert_40 rfl (lv_at hl 2 rfl) ?_
      refine lv_dup2_11 hx hb dX4_desert_41 rfl rfl ?_
      refine he_iald hx hb hK hP 1 rfl (3) (by decide) (by decide) (by first | decide | assumption) (f 3) rfl dX4_desert_42 ?_
      refine lv_iload hx hb dX4_desert_43 (lv_at hl 0 rfl) ?_
      refine lv_isub hx hb dX4_desert_45 ?_
      refine he_iast hx hb hK hP hD hS 1 rfl (3) (by decide) (by decide) (by first | decide | assumption) dX4_desert_46 (fun H locs hP hD hS => ?_)
      have hP : va_P g.1 vwCl [(oX4 h0 q0 q1 mo), (aI g q0 24 (upd f 3 ((f 3) - (((f 3) * (if 0 ≤ d then d else 0 - d)) / 100))))] H := hP
      have hD : va_D A [(oX4 h0 q0 q1 mo), (aI g q0 24 (upd f 3 ((f 3) - (((f 3) * (if 0 ≤ d then d else 0 - d)) / 100))))] := hD
      refine lv_aload_n hx hb dX4_desert_47 rfl (lv_at hl 3 rfl) ?_
      refine va_get (v := .ref q0) (T := TX4) (N := 3) hx hb hts inX4 hown hK hP 0 rfl rfl 0 (by decide) f9 (fun _ h9 => h9) rfl dX4_desert_48 ?_
      refine lv_iload_n hx hb dX4_desert_51 rfl (lv_at hl 1 rfl) ?_
      refine lv_dup2_11 hx hb dX4_desert_52 rfl rfl ?_
      refine he_iald hx hb hK hP 1 rfl (4) (by decide) (by decide) (by first | decide | assumption) ((upd f 3 ((f 3) - (((f 3) * (if 0 ≤ d then d else 0 - d)) / 100))) 4) rfl dX4_desert_53 ?_
      refine lv_iload hx hb dX4_desert_54 (lv_at hl 0 rfl) ?_
      refine lv_iadd hx hb dX4_desert_56 ?_
      refine he_iast hx hb hK hP hD hS 1 rfl (4) (by decide) (by decide) (by first | decide | assumption) dX4_desert_57 (fun H locs hP hD hS => ?_)
      have hP : va_P g.1 vwCl [(oX4 h0 q0 q1 mo), (aI g q0 24 (upd (upd f 3 ((f 3) - (((f 3) * (if 0 ≤ d then d else 0 - d)) / 100))) 4 (((upd f 3 ((f 3) - (((f 3) * (if 0 ≤ d then d else 0 - d)) / 100))) 4) + (((f 3) * (if 0 ≤ d then d else 0 - d)) / 100))))] H := hP
      have hD : va_D A [(oX4 h0 q0 q1 mo), (aI g q0 24 (upd (upd f 3 ((f 3) - (((f 3) * (if 0 ≤ d then d else 0 - d)) / 100))) 4 (((upd f 3 ((f 3) - (((f 3) * (if 0 ≤ d then d else 0 - d)) / 100))) 4) + (((f 3) * (if 0 ≤ d then d else 0 - d)) / 100))))] := hD
      exact he_rv hQ hx hb hr hlk hP hD hS dX4_desert_58 (Nat.le_of_ble_eq_true rfl) (Nat.le_of_ble_eq_true rfl) (()) (by simp [dsF, mnF, c_1, c_3]) (trivial)
set_option maxHeartbeats 4000000 in
set_option maxRecDepth 100000 in
/-- Arrays.fill -/
theorem c_J7_fill_53178 (l : Launch) (g : he_G) (a0 : Nat) (n : Nat) (f : Nat → Int32) (v : Int32) (hn : n < 2147483648) : he_V l yJ7_fill_53178 wsJ7_fill_53178 0 0 0 0 g [.ref a0, .int v] [(aI g a0 n f)] (fun (u : Unit) => True) (fun (u : Unit) => [(aI g a0 n (flF (fun _ => v) f n))]) := by
  refine he_begin (l := l) (g := g) (y := yJ7_fill_53178) (wl := wsJ7_fill_53178) (fr := 0) (lo := 0) (mc := 0) (ms := 0) (av := [.ref a0, .int v]) (ws := [(aI g a0 n f)]) (cc := cJ7_fill_53178) (maxL := 4) (ret := none) (fun A => va_Qv (fun (u : Unit) => True) (fun u t => he_post g A ((fun (u : Unit) => [(aI g a0 n (flF (fun _ => v) f n))]) u) t) A) (by decide) rfl (Nat.le_of_ble_eq_true rfl) ?_
  intro p e s m args below meth c A ls H locs Q hQ hB
  obtain ⟨hx, hb, hr, hml, hown, hts, hlk, hin, hP, hK, hD, hS, hA, hE, hl⟩ := hB
  have hl : lv_has ls 4 [(0, .ref a0), (1, .int v)] := hl
  refine lv_iconst (v := 0) hx hb dJ7_fill_53178_0 (by decide) ?_
  refine lv_istore_n (lv' := [(2, .int 0), (0, .ref a0), (1, .int v)]) hx hb dJ7_fill_53178_1 rfl hl (by decide) rfl (fun ls hl => ?_)
  refine lv_aload_n hx hb dJ7_fill_53178_2 rfl (lv_at hl 1 rfl) ?_
  refine va_alen (v := nI n) hx hb hK hP 0 1 rfl rfl rfl dJ7_fill_53178_3 ?_
  refine lv_istore_n (lv' := [(3, .int (nI n)), (2, .int 0), (0, .ref a0), (1, .int v)]) hx hb dJ7_fill_53178_4 rfl hl (by decide) rfl (fun ls hl => ?_)
  have loop5 : ∀ (n9 : Nat) (j : Nat), n - j < n9 → (j ≤ n) → ∀ (H : Heap) (locs : List Loc) (ls : Array Slot), va_P g.1 vwCl [(aI g a0 n (flF (fun _ => v) f j))] H → va_D A [(aI g a0 n (flF (fun _ => v) f j))] → va_S A s.heap H locs → lv_has ls 4 [(0, .ref a0), (1, .int v), (2, .int (nI j)), (3, .int (nI n))] → W p l e (he_room 0 0 0 0) s m args below meth c H locs 0 0 Q (F0 m 5 ls []) := by
    intro n9
    induction n9 with
    | zero => intro j hm9; exact absurd hm9 (Nat.not_lt_zero _)
    | succ n9 ih5 =>
      intro j hm9 hj H locs ls hP hD hS hl
      refine lv_iload_n hx hb dJ7_fill_53178_5 rfl (lv_at hl 2 rfl) ?_
      refine lv_iload_n hx hb dJ7_fill_53178_6 rfl (lv_at hl 3 rfl) ?_
      refine lv_icmp_ge (tgt := 20) hx hb dJ7_fill_53178_7 (by decide) (fun c_1 => ?_) (fun c_1 => ?_)
      · have k_2 : n ≤ j := (he_cle (a := n) (b := j) rfl rfl (by omega) (by omega)).mp c_1
        exact he_rv hQ hx hb hr hlk hP hD hS dJ7_fill_53178_20 (Nat.le_of_ble_eq_true rfl) (Nat.le_of_ble_eq_true rfl) (()) (by rw [show n = j by omega]) (trivial)
      · have k_3 : ¬ (n ≤ j) := fun h9 => c_1 ((he_cle (a := n) (b := j) rfl rfl (by omega) (by omega)).mpr h9)
        refine lv_aload_n hx hb dJ7_fill_53178_10 rfl (lv_at hl 0 rfl) ?_
        refine lv_iload_n hx hb dJ7_fill_53178_11 rfl (lv_at hl 2 rfl) ?_
        refine lv_iload_n hx hb dJ7_fill_53178_12 rfl (lv_at hl 1 rfl) ?_
        refine he_iast hx hb hK hP hD hS 0 rfl (j) rfl (by first | assumption | decide | omega) (by first | decide | assumption) dJ7_fill_53178_13 (fun H locs hP hD hS => ?_)
        have hP : va_P g.1 vwCl [(aI g a0 n (upd (flF (fun _ => v) f j) j v))] H := hP
        have hD : va_D A [(aI g a0 n (upd (flF (fun _ => v) f j) j v))] := hD
        refine lv_iinc (v := nI (j + 1)) (lv' := [(2, .int (nI (j + 1))), (0, .ref a0), (1, .int v), (3, .int (nI n))]) hx hb dJ7_fill_53178_14 hl (k := 2) rfl (nI_1 j) (by decide) rfl (fun ls hl => ?_)
        refine lv_goto (tgt := 5) hx hb dJ7_fill_53178_17 (by decide) ?_
        have hP : va_P g.1 vwCl [(aI g a0 n (flF (fun _ => v) f (j + 1)))] H := by rw [← flF_s]; exact hP
        have hD : va_D A [(aI g a0 n (flF (fun _ => v) f (j + 1)))] := by rw [← flF_s]; exact hD
        exact ih5 (j + 1) (by omega) (by omega) _ _ _ hP hD hS (lv_sub hl [1, 2, 0, 3] rfl)
  have hP : va_P g.1 vwCl [(aI g a0 n (flF (fun _ => v) f 0))] H := by rw [flF_0]; exact hP
  have hD : va_D A [(aI g a0 n (flF (fun _ => v) f 0))] := by rw [flF_0]; exact hD
  exact loop5 ((n - 0) + 1) 0 (Nat.lt_succ_self _) (Nat.zero_le _) _ _ _ hP hD hS (lv_sub hl [2, 3, 1, 0] rfl)
set_option maxHeartbeats 4000000 in
set_option maxRecDepth 100000 in
theorem c_X9_init (l : Launch) (g : he_G) (h0 : Nat)  : he_V l yX9_init wsX9_init 1 12 0 0 g [.ref h0] [] (fun (u : Unit) => True) (fun (u : Unit) => []) := by
  refine he_begin (l := l) (g := g) (y := yX9_init) (wl := wsX9_init) (fr := 1) (lo := 12) (mc := 0) (ms := 0) (av := [.ref h0]) (ws := []) (cc := cX9_init) (maxL := 1) (ret := none) (fun A => va_Qv (fun (u : Unit) => True) (fun u t => he_post g A ((fun (u : Unit) => []) u) t) A) (by decide) rfl (Nat.le_of_ble_eq_true rfl) ?_
  intro p e s m args below meth c A ls H locs Q hQ hB
  obtain ⟨hx, hb, hr, hml, hown, hts, hlk, hin, hP, hK, hD, hS, hA, hE, hl⟩ := hB
  have hl : lv_has ls 1 [(0, .ref h0)] := hl
  have oi1 := hts (.methodLink RX9 1 objectInit) (iwoX9_init (k := 0) rfl)
  have oim := hts (.instanceMethod objectInit) (iwoX9_init (k := 1) rfl)
  have oic := hts (.code objectInit ⟨#[0xb1]⟩ 1 none) (iwoX9_init (k := 2) rfl)
  refine lv_aload_n hx hb dX9_init_0 rfl (lv_at hl 0 rfl) ?_
  refine W.objInit hx hb hown oi1 oim oic rfl (by rw [hml]; exact hl.1) rfl dX9_init_1 (Nat.le_of_ble_eq_true rfl) (Nat.le_of_ble_eq_true rfl) ?_
  refine W.eq (g2 := F0 m 4 ls []) rfl ?_
  exact he_rv hQ hx hb hr hlk hP hD hS dX9_init_4 (Nat.le_of_ble_eq_true rfl) (Nat.le_of_ble_eq_true rfl) (()) (rfl) (trivial)
set_option maxHeartbeats 4000000 in
set_option maxRecDepth 100000 in
theorem c_X4_init (l : Launch) (g : he_G) (h0 : Nat)  : he_V l yX4_init wsX4_init 1 12 2 30 g [.ref h0] [(h0, .inr (4, [.null, .null, .int 0]))] (fun (u : Nat × Nat) => True) (fun (u : Nat × Nat) => [(oX4 h0 u.1 u.2 0), (aI g u.1 24 (fun _ => 0)), (aI g u.2 6 (fun _ => 0))]) := by
  refine he_begin (l := l) (g := g) (y := yX4_init) (wl := wsX4_init) (fr := 1) (lo := 12) (mc := 2) (ms := 30) (av := [.ref h0]) (ws := [(h0, .inr (4, [.null, .null, .int 0]))]) (cc := cX4_init) (maxL := 1) (ret := none) (fun A => va_Qv (fun (u : Nat × Nat) => True) (fun u t => he_post g A ((fun (u : Nat × Nat) => [(oX4 h0 u.1 u.2 0), (aI g u.1 24 (fun _ => 0)), (aI g u.2 6 (fun _ => 0))]) u) t) A) (by decide) rfl (Nat.le_of_ble_eq_true rfl) ?_
  intro p e s m args below meth c A ls H locs Q hQ hB
  obtain ⟨hx, hb, hr, hml, hown, hts, hlk, hin, hP, hK, hD, hS, hA, hE, hl⟩ := hB
  have hl : lv_has ls 1 [(0, .ref h0)] := hl
  have oi3 := hts (.methodLink RX4 3 objectInit) (iwoX4_init (k := 0) rfl)
  have oim := hts (.instanceMethod objectInit) (iwoX4_init (k := 1) rfl)
  have oic := hts (.code objectInit ⟨#[0xb1]⟩ 1 none) (iwoX4_init (k := 2) rfl)
  have harr_int := hts (.arrayClass .int) (iwoX4_init (k := 3) rfl)
  have f9 := hts (.fieldLink RX4 9 "HiredEnemy$Course" "now" "[I") (iwoX4_init (k := 4) rfl)
  have inX4 : ∀ w ∈ wsX40, w ∈ wsX4_init := innX4_init_X4
  have f15 := hts (.fieldLink RX4 15 "HiredEnemy$Course" "shot" "[I") (iwoX4_init (k := 5) rfl)
  refine lv_aload_n hx hb dX4_init_0 rfl (lv_at hl 0 rfl) ?_
  refine W.objInit hx hb hown oi3 oim oic rfl (by rw [hml]; exact hl.1) rfl dX4_init_1 (Nat.le_of_ble_eq_true rfl) (Nat.le_of_ble_eq_true rfl) ?_
  refine W.eq (g2 := F0 m 4 ls []) rfl ?_
  refine lv_aload_n hx hb dX4_init_4 rfl (lv_at hl 0 rfl) ?_
  refine lv_bipush (v := 24) hx hb dX4_init_5 (by decide) ?_
  refine he_newi hx hb harr_int hK hP hD hS hA 24 (by decide) (by decide) (by decide) (Nat.le_of_ble_eq_true rfl) (Nat.le_of_ble_eq_true rfl) dX4_init_7 (fun q_1 H hP hD hS => ?_)
  have hP : va_P g.1 vwCl [(h0, .inr (4, [.null, .null, .int 0])), (aI g q_1 24 (fun _ => 0))] H := hP
  have hD : va_D A [(h0, .inr (4, [.null, .null, .int 0])), (aI g q_1 24 (fun _ => 0))] := hD
  refine W.widen (k := 1) (n := 24) (Nat.le_of_ble_eq_true rfl) (Nat.le_of_ble_eq_true rfl) ?_
  refine va_putF (v := .ref q_1) (ty := tyX4 0) (T := TX4) (N := 3) hx hb hts inX4 tyX4 tyX4_ok nmX4 hown hK hP hD hS 0 rfl rfl 0 (by decide) f9 (fun _ h9 => h9) rfl hin rfl (by decide +kernel) rfl rfl (Nat.le_of_ble_eq_true rfl) dX4_init_9 (fun H locs hP hD hS => ?_)
  have hP : va_P g.1 vwCl [(h0, .inr (4, [.ref q_1, .null, .int 0])), (aI g q_1 24 (fun _ => 0))] H := hP
  have hD : va_D A [(h0, .inr (4, [.ref q_1, .null, .int 0])), (aI g q_1 24 (fun _ => 0))] := hD
  refine lv_aload_n hx hb dX4_init_12 rfl (lv_at hl 0 rfl) ?_
  refine lv_bipush (v := 6) hx hb dX4_init_13 (by decide) ?_
  refine he_newi hx hb harr_int hK hP hD hS hA 6 (by decide) (by decide) (by decide) (Nat.le_of_ble_eq_true rfl) (Nat.le_of_ble_eq_true rfl) dX4_init_15 (fun q_2 H hP hD hS => ?_)
  have hP : va_P g.1 vwCl [(h0, .inr (4, [.ref q_1, .null, .int 0])), (aI g q_1 24 (fun _ => 0)), (aI g q_2 6 (fun _ => 0))] H := hP
  have hD : va_D A [(h0, .inr (4, [.ref q_1, .null, .int 0])), (aI g q_1 24 (fun _ => 0)), (aI g q_2 6 (fun _ => 0))] := hD
  refine W.widen (k := 2) (n := 30) (Nat.le_of_ble_eq_true rfl) (Nat.le_of_ble_eq_true rfl) ?_
  refine va_putF (v := .ref q_2) (ty := tyX4 1) (T := TX4) (N := 3) hx hb hts inX4 tyX4 tyX4_ok nmX4 hown hK hP hD hS 0 rfl rfl 1 (by decide) f15 (fun _ h9 => h9) rfl hin rfl (by decide +kernel) rfl rfl (Nat.le_of_ble_eq_true rfl) dX4_init_17 (fun H locs hP hD hS => ?_)
  have hP : va_P g.1 vwCl [(oX4 h0 q_1 q_2 0), (aI g q_1 24 (fun _ => 0)), (aI g q_2 6 (fun _ => 0))] H := hP
  have hD : va_D A [(oX4 h0 q_1 q_2 0), (aI g q_1 24 (fun _ => 0)), (aI g q_2 6 (fun _ => 0))] := hD
  exact he_rv hQ hx hb hr hlk hP hD hS dX4_init_20 (Nat.le_of_ble_eq_true rfl) (Nat.le_of_ble_eq_true rfl) ((q_1, q_2)) (rfl) (trivial)
set_option maxHeartbeats 4000000 in
set_option maxRecDepth 100000 in
theorem c_X0_init (l : Launch) (g : he_G) (h0 : Nat)  : he_V l yX0_init wsX0_init 1 12 1 3600 g [.ref h0] [(h0, .inr (0, [.null]))] (fun (u : Nat) => True) (fun (u : Nat) => [(oX0 h0 u), (aI g u 3600 (fun _ => 0))]) := by
  refine he_begin (l := l) (g := g) (y := yX0_init) (wl := wsX0_init) (fr := 1) (lo := 12) (mc := 1) (ms := 3600) (av := [.ref h0]) (ws := [(h0, .inr (0, [.null]))]) (cc := cX0_init) (maxL := 1) (ret := none) (fun A => va_Qv (fun (u : Nat) => True) (fun u t => he_post g A ((fun (u : Nat) => [(oX0 h0 u), (aI g u 3600 (fun _ => 0))]) u) t) A) (by decide) rfl (Nat.le_of_ble_eq_true rfl) ?_
  intro p e s m args below meth c A ls H locs Q hQ hB
  obtain ⟨hx, hb, hr, hml, hown, hts, hlk, hin, hP, hK, hD, hS, hA, hE, hl⟩ := hB
  have hl : lv_has ls 1 [(0, .ref h0)] := hl
  have oi3 := hts (.methodLink RX0 3 objectInit) (iwoX0_init (k := 0) rfl)
  have oim := hts (.instanceMethod objectInit) (iwoX0_init (k := 1) rfl)
  have oic := hts (.code objectInit ⟨#[0xb1]⟩ 1 none) (iwoX0_init (k := 2) rfl)
  have harr_int := hts (.arrayClass .int) (iwoX0_init (k := 3) rfl)
  have f11 := hts (.fieldLink RX0 11 "HiredEnemy$Annals" "lines" "[I") (iwoX0_init (k := 4) rfl)
  have inX0 : ∀ w ∈ wsX00, w ∈ wsX0_init := innX0_init_X0
  refine lv_aload_n hx hb dX0_init_0 rfl (lv_at hl 0 rfl) ?_
  refine W.objInit hx hb hown oi3 oim oic rfl (by rw [hml]; exact hl.1) rfl dX0_init_1 (Nat.le_of_ble_eq_true rfl) (Nat.le_of_ble_eq_true rfl) ?_
  refine W.eq (g2 := F0 m 4 ls []) rfl ?_
  refine lv_aload_n hx hb dX0_init_4 rfl (lv_at hl 0 rfl) ?_
  refine lv_sipush (v := 3600) hx hb dX0_init_5 (by decide) ?_
  refine he_newi hx hb harr_int hK hP hD hS hA 3600 (by decide) (by decide) (by decide) (Nat.le_of_ble_eq_true rfl) (Nat.le_of_ble_eq_true rfl) dX0_init_8 (fun q_1 H hP hD hS => ?_)
  have hP : va_P g.1 vwCl [(h0, .inr (0, [.null])), (aI g q_1 3600 (fun _ => 0))] H := hP
  have hD : va_D A [(h0, .inr (0, [.null])), (aI g q_1 3600 (fun _ => 0))] := hD
  refine W.widen (k := 1) (n := 3600) (Nat.le_of_ble_eq_true rfl) (Nat.le_of_ble_eq_true rfl) ?_
  refine va_putF (v := .ref q_1) (ty := tyX0 0) (T := TX0) (N := 1) hx hb hts inX0 tyX0 tyX0_ok nmX0 hown hK hP hD hS 0 rfl rfl 0 (by decide) f11 (fun _ h9 => h9) rfl hin rfl (by decide +kernel) rfl rfl (Nat.le_of_ble_eq_true rfl) dX0_init_10 (fun H locs hP hD hS => ?_)
  have hP : va_P g.1 vwCl [(oX0 h0 q_1), (aI g q_1 3600 (fun _ => 0))] H := hP
  have hD : va_D A [(oX0 h0 q_1), (aI g q_1 3600 (fun _ => 0))] := hD
  exact he_rv hQ hx hb hr hlk hP hD hS dX0_init_13 (Nat.le_of_ble_eq_true rfl) (Nat.le_of_ble_eq_true rfl) (q_1) (rfl) (trivial)
set_option maxHeartbeats 4000000 in
set_option maxRecDepth 100000 in
theorem c_X1_init (l : Launch) (g : he_G) (h0 : Nat)  : he_V l yX1_init wsX1_init 1 12 3 9 g [.ref h0] [(h0, .inr (1, [.null, .null, .null, .int 0, .int 0]))] (fun (u : Nat × Nat × Nat) => True) (fun (u : Nat × Nat × Nat) => [(oX1 h0 u.1 u.2.1 u.2.2 0 0), (aI g u.1 3 (fun _ => 0)), (aI g u.2.1 3 (fun _ => 0)), (aI g u.2.2 3 (fun _ => 0))]) := by
  refine he_begin (l := l) (g := g) (y := yX1_init) (wl := wsX1_init) (fr := 1) (lo := 12) (mc := 3) (ms := 9) (av := [.ref h0]) (ws := [(h0, .inr (1, [.null, .null, .null, .int 0, .int 0]))]) (cc := cX1_init) (maxL := 1) (ret := none) (fun A => va_Qv (fun (u : Nat × Nat × Nat) => True) (fun u t => he_post g A ((fun (u : Nat × Nat × Nat) => [(oX1 h0 u.1 u.2.1 u.2.2 0 0), (aI g u.1 3 (fun _ => 0)), (aI g u.2.1 3 (fun _ => 0)), (aI g u.2.2 3 (fun _ => 0))]) u) t) A) (by decide) rfl (Nat.le_of_ble_eq_true rfl) ?_
  intro p e s m args below meth c A ls H locs Q hQ hB
  obtain ⟨hx, hb, hr, hml, hown, hts, hlk, hin, hP, hK, hD, hS, hA, hE, hl⟩ := hB
  have hl : lv_has ls 1 [(0, .ref h0)] := hl
  have oi5 := hts (.methodLink RX1 5 objectInit) (iwoX1_init (k := 0) rfl)
  have oim := hts (.instanceMethod objectInit) (iwoX1_init (k := 1) rfl)
  have oic := hts (.code objectInit ⟨#[0xb1]⟩ 1 none) (iwoX1_init (k := 2) rfl)
  have harr_int := hts (.arrayClass .int) (iwoX1_init (k := 3) rfl)
  have f11 := hts (.fieldLink RX1 11 "HiredEnemy$Battle" "worth" "[I") (iwoX1_init (k := 4) rfl)
  have inX1 : ∀ w ∈ wsX10, w ∈ wsX1_init := innX1_init_X1
  have f15 := hts (.fieldLink RX1 15 "HiredEnemy$Battle" "held" "[I") (iwoX1_init (k := 5) rfl)
  have f18 := hts (.fieldLink RX1 18 "HiredEnemy$Battle" "put" "[I") (iwoX1_init (k := 6) rfl)
  refine lv_aload_n hx hb dX1_init_0 rfl (lv_at hl 0 rfl) ?_
  refine W.objInit hx hb hown oi5 oim oic rfl (by rw [hml]; exact hl.1) rfl dX1_init_1 (Nat.le_of_ble_eq_true rfl) (Nat.le_of_ble_eq_true rfl) ?_
  refine W.eq (g2 := F0 m 4 ls []) rfl ?_
  refine lv_aload_n hx hb dX1_init_4 rfl (lv_at hl 0 rfl) ?_
  refine lv_iconst (v := 3) hx hb dX1_init_5 (by decide) ?_
  refine he_newi hx hb harr_int hK hP hD hS hA 3 (by decide) (by decide) (by decide) (Nat.le_of_ble_eq_true rfl) (Nat.le_of_ble_eq_true rfl) dX1_init_6 (fun q_1 H hP hD hS => ?_)
  have hP : va_P g.1 vwCl [(h0, .inr (1, [.null, .null, .null, .int 0, .int 0])), (aI g q_1 3 (fun _ => 0))] H := hP
  have hD : va_D A [(h0, .inr (1, [.null, .null, .null, .int 0, .int 0])), (aI g q_1 3 (fun _ => 0))] := hD
  refine W.widen (k := 1) (n := 3) (Nat.le_of_ble_eq_true rfl) (Nat.le_of_ble_eq_true rfl) ?_
  refine va_putF (v := .ref q_1) (ty := tyX1 0) (T := TX1) (N := 5) hx hb hts inX1 tyX1 tyX1_ok nmX1 hown hK hP hD hS 0 rfl rfl 0 (by decide) f11 (fun _ h9 => h9) rfl hin rfl (by decide +kernel) rfl rfl (Nat.le_of_ble_eq_true rfl) dX1_init_8 (fun H locs hP hD hS => ?_)
  have hP : va_P g.1 vwCl [(h0, .inr (1, [.ref q_1, .null, .null, .int 0, .int 0])), (aI g q_1 3 (fun _ => 0))] H := hP
  have hD : va_D A [(h0, .inr (1, [.ref q_1, .null, .null, .int 0, .int 0])), (aI g q_1 3 (fun _ => 0))] := hD
  refine lv_aload_n hx hb dX1_init_11 rfl (lv_at hl 0 rfl) ?_
  refine lv_iconst (v := 3) hx hb dX1_init_12 (by decide) ?_
  refine he_newi hx hb harr_int hK hP hD hS hA 3 (by decide) (by decide) (by decide) (Nat.le_of_ble_eq_true rfl) (Nat.le_of_ble_eq_true rfl) dX1_init_13 (fun q_2 H hP hD hS => ?_)
  have hP : va_P g.1 vwCl [(h0, .inr (1, [.ref q_1, .null, .null, .int 0, .int 0])), (aI g q_1 3 (fun _ => 0)), (aI g q_2 3 (fun _ => 0))] H := hP
  have hD : va_D A [(h0, .inr (1, [.ref q_1, .null, .null, .int 0, .int 0])), (aI g q_1 3 (fun _ => 0)), (aI g q_2 3 (fun _ => 0))] := hD
  refine W.widen (k := 2) (n := 6) (Nat.le_of_ble_eq_true rfl) (Nat.le_of_ble_eq_true rfl) ?_
  refine va_putF (v := .ref q_2) (ty := tyX1 1) (T := TX1) (N := 5) hx hb hts inX1 tyX1 tyX1_ok nmX1 hown hK hP hD hS 0 rfl rfl 1 (by decide) f15 (fun _ h9 => h9) rfl hin rfl (by decide +kernel) rfl rfl (Nat.le_of_ble_eq_true rfl) dX1_init_15 (fun H locs hP hD hS => ?_)
  have hP : va_P g.1 vwCl [(h0, .inr (1, [.ref q_1, .ref q_2, .null, .int 0, .int 0])), (aI g q_1 3 (fun _ => 0)), (aI g q_2 3 (fun _ => 0))] H := hP
  have hD : va_D A [(h0, .inr (1, [.ref q_1, .ref q_2, .null, .int 0, .int 0])), (aI g q_1 3 (fun _ => 0)), (aI g q_2 3 (fun _ => 0))] := hD
  refine lv_aload_n hx hb dX1_init_18 rfl (lv_at hl 0 rfl) ?_
  refine lv_iconst (v := 3) hx hb dX1_init_19 (by decide) ?_
  refine he_newi hx hb harr_int hK hP hD hS hA 3 (by decide) (by decide) (by decide) (Nat.le_of_ble_eq_true rfl) (Nat.le_of_ble_eq_true rfl) dX1_init_20 (fun q_3 H hP hD hS => ?_)
  have hP : va_P g.1 vwCl [(h0, .inr (1, [.ref q_1, .ref q_2, .null, .int 0, .int 0])), (aI g q_1 3 (fun _ => 0)), (aI g q_2 3 (fun _ => 0)), (aI g q_3 3 (fun _ => 0))] H := hP
  have hD : va_D A [(h0, .inr (1, [.ref q_1, .ref q_2, .null, .int 0, .int 0])), (aI g q_1 3 (fun _ => 0)), (aI g q_2 3 (fun _ => 0)), (aI g q_3 3 (fun _ => 0))] := hD
  refine W.widen (k := 3) (n := 9) (Nat.le_of_ble_eq_true rfl) (Nat.le_of_ble_eq_true rfl) ?_
  refine va_putF (v := .ref q_3) (ty := tyX1 2) (T := TX1) (N := 5) hx hb hts inX1 tyX1 tyX1_ok nmX1 hown hK hP hD hS 0 rfl rfl 2 (by decide) f18 (fun _ h9 => h9) rfl hin rfl (by decide +kernel) rfl rfl (Nat.le_of_ble_eq_true rfl) dX1_init_22 (fun H locs hP hD hS => ?_)
  have hP : va_P g.1 vwCl [(oX1 h0 q_1 q_2 q_3 0 0), (aI g q_1 3 (fun _ => 0)), (aI g q_2 3 (fun _ => 0)), (aI g q_3 3 (fun _ => 0))] H := hP
  have hD : va_D A [(oX1 h0 q_1 q_2 q_3 0 0), (aI g q_1 3 (fun _ => 0)), (aI g q_2 3 (fun _ => 0)), (aI g q_3 3 (fun _ => 0))] := hD
  exact he_rv hQ hx hb hr hlk hP hD hS dX1_init_25 (Nat.le_of_ble_eq_true rfl) (Nat.le_of_ble_eq_true rfl) ((q_1, q_2, q_3)) (rfl) (trivial)
set_option maxHeartbeats 4000000 in
set_option maxRecDepth 100000 in
theorem c_X2_init (l : Launch) (g : he_G) (h0 : Nat)  : he_V l yX2_init wsX2_init 1 12 2 8 g [.ref h0] [(h0, .inr (2, [.null, .null, .int 0, .int 0, .long 0, .long 0, .int 0]))] (fun (u : Nat × Nat) => True) (fun (u : Nat × Nat) => [(oX2 h0 u.1 u.2 1 1 1 1 0), (aI g u.1 4 (upd (upd (upd (upd (fun _ => 0) 0 8) 1 8) 2 8) 3 8)), (aI g u.2 4 (upd (upd (upd (upd (fun _ => 0) 0 8) 1 8) 2 8) 3 8))]) := by
  refine he_begin (l := l) (g := g) (y := yX2_init) (wl := wsX2_init) (fr := 1) (lo := 12) (mc := 2) (ms := 8) (av := [.ref h0]) (ws := [(h0, .inr (2, [.null, .null, .int 0, .int 0, .long 0, .long 0, .int 0]))]) (cc := cX2_init) (maxL := 1) (ret := none) (fun A => va_Qv (fun (u : Nat × Nat) => True) (fun u t => he_post g A ((fun (u : Nat × Nat) => [(oX2 h0 u.1 u.2 1 1 1 1 0), (aI g u.1 4 (upd (upd (upd (upd (fun _ => 0) 0 8) 1 8) 2 8) 3 8)), (aI g u.2 4 (upd (upd (upd (upd (fun _ => 0) 0 8) 1 8) 2 8) 3 8))]) u) t) A) (by decide) rfl (Nat.le_of_ble_eq_true rfl) ?_
  intro p e s m args below meth c A ls H locs Q hQ hB
  obtain ⟨hx, hb, hr, hml, hown, hts, hlk, hin, hP, hK, hD, hS, hA, hE, hl⟩ := hB
  have hl : lv_has ls 1 [(0, .ref h0)] := hl
  have oi1 := hts (.methodLink RX2 1 objectInit) (iwoX2_init (k := 0) rfl)
  have oim := hts (.instanceMethod objectInit) (iwoX2_init (k := 1) rfl)
  have oic := hts (.code objectInit ⟨#[0xb1]⟩ 1 none) (iwoX2_init (k := 2) rfl)
  have harr_int := hts (.arrayClass .int) (iwoX2_init (k := 3) rfl)
  have f7 := hts (.fieldLink RX2 7 "HiredEnemy$Belief" "ifReal" "[I") (iwoX2_init (k := 4) rfl)
  have inX2 : ∀ w ∈ wsX20, w ∈ wsX2_init := innX2_init_X2
  have f13 := hts (.fieldLink RX2 13 "HiredEnemy$Belief" "ifHired" "[I") (iwoX2_init (k := 5) rfl)
  have f16 := hts (.fieldLink RX2 16 "HiredEnemy$Belief" "firstReal" "I") (iwoX2_init (k := 6) rfl)
  have f20 := hts (.fieldLink RX2 20 "HiredEnemy$Belief" "firstHired" "I") (iwoX2_init (k := 7) rfl)
  have f23 := hts (.fieldLink RX2 23 "HiredEnemy$Belief" "real" "J") (iwoX2_init (k := 8) rfl)
  have f27 := hts (.fieldLink RX2 27 "HiredEnemy$Belief" "hired" "J") (iwoX2_init (k := 9) rfl)
  refine lv_aload_n hx hb dX2_init_0 rfl (lv_at hl 0 rfl) ?_
  refine W.objInit hx hb hown oi1 oim oic rfl (by rw [hml]; exact hl.1) rfl dX2_init_1 (Nat.le_of_ble_eq_true rfl) (Nat.le_of_ble_eq_true rfl) ?_
  refine W.eq (g2 := F0 m 4 ls []) rfl ?_
  refine lv_aload_n hx hb dX2_init_4 rfl (lv_at hl 0 rfl) ?_
  refine lv_iconst (v := 4) hx hb dX2_init_5 (by decide) ?_
  refine he_newi hx hb harr_int hK hP hD hS hA 4 (by decide) (by decide) (by decide) (Nat.le_of_ble_eq_true rfl) (Nat.le_of_ble_eq_true rfl) dX2_init_6 (fun q_1 H hP hD hS => ?_)
  have hP : va_P g.1 vwCl [(h0, .inr (2, [.null, .null, .int 0, .int 0, .long 0, .long 0, .int 0])), (aI g q_1 4 (fun _ => 0))] H := hP
  have hD : va_D A [(h0, .inr (2, [.null, .null, .int 0, .int 0, .long 0, .long 0, .int 0])), (aI g q_1 4 (fun _ => 0))] := hD
  refine W.widen (k := 1) (n := 4) (Nat.le_of_ble_eq_true rfl) (Nat.le_of_ble_eq_true rfl) ?_
  refine lv_dup hx hb dX2_init_8 rfl ?_
  refine lv_iconst (v := 0) hx hb dX2_init_9 (by decide) ?_
  refine lv_bipush (v := 8) hx hb dX2_init_10 (by decide) ?_
  refine he_iast hx hb hK hP hD hS 1 rfl (0) (by decide) (by decide) (by first | decide | assumption) dX2_init_12 (fun H locs hP hD hS => ?_)
  have hP : va_P g.1 vwCl [(h0, .inr (2, [.null, .null, .int 0, .int 0, .long 0, .long 0, .int 0])), (aI g q_1 4 (upd (fun _ => 0) 0 8))] H := hP
  have hD : va_D A [(h0, .inr (2, [.null, .null, .int 0, .int 0, .long 0, .long 0, .int 0])), (aI g q_1 4 (upd (fun _ => 0) 0 8))] := hD
  refine lv_dup hx hb dX2_init_13 rfl ?_
  refine lv_iconst (v := 1) hx hb dX2_init_14 (by decide) ?_
  refine lv_bipush (v := 8) hx hb dX2_init_15 (by decide) ?_
  refine he_iast hx hb hK hP hD hS 1 rfl (1) (by decide) (by decide) (by first | decide | assumption) dX2_init_17 (fun H locs hP hD hS => ?_)
  have hP : va_P g.1 vwCl [(h0, .inr (2, [.null, .null, .int 0, .int 0, .long 0, .long 0, .int 0])), (aI g q_1 4 (upd (upd (fun _ => 0) 0 8) 1 8))] H := hP
  have hD : va_D A [(h0, .inr (2, [.null, .null, .int 0, .int 0, .long 0, .long 0, .int 0])), (aI g q_1 4 (upd (upd (fun _ => 0) 0 8) 1 8))] := hD
  refine lv_dup hx hb dX2_init_18 rfl ?_
  refine lv_iconst (v := 2) hx hb dX2_init_19 (by decide) ?_
  refine lv_bipush (v := 8) hx hb dX2_init_20 (by decide) ?_
  refine he_iast hx hb hK hP hD hS 1 rfl (2) (by decide) (by decide) (by first | decide | assumption) dX2_init_22 (fun H locs hP hD hS => ?_)
  have hP : va_P g.1 vwCl [(h0, .inr (2, [.null, .null, .int 0, .int 0, .long 0, .long 0, .int 0])), (aI g q_1 4 (upd (upd (upd (fun _ => 0) 0 8) 1 8) 2 8))] H := hP
  have hD : va_D A [(h0, .inr (2, [.null, .null, .int 0, .int 0, .long 0, .long 0, .int 0])), (aI g q_1 4 (upd (upd (upd (fun _ => 0) 0 8) 1 8) 2 8))] := hD
  refine lv_dup hx hb dX2_init_23 rfl ?_
  refine lv_iconst (v := 3) hx hb dX2_init_24 (by decide) ?_
  refine lv_bipush (v := 8) hx hb dX2_init_25 (by decide) ?_
  refine he_iast hx hb hK hP hD hS 1 rfl (3) (by decide) (by decide) (by first | decide | assumption) dX2_init_27 (fun H locs hP hD hS => ?_)
  have hP : va_P g.1 vwCl [(h0, .inr (2, [.null, .null, .int 0, .int 0, .long 0, .long 0, .int 0])), (aI g q_1 4 (upd (upd (upd (upd (fun _ => 0) 0 8) 1 8) 2 8) 3 8))] H := hP
  have hD : va_D A [(h0, .inr (2, [.null, .null, .int 0, .int 0, .long 0, .long 0, .int 0])), (aI g q_1 4 (upd (upd (upd (upd (fun _ => 0) 0 8) 1 8) 2 8) 3 8))] := hD
  refine va_putF (v := .ref q_1) (ty := tyX2 0) (T := TX2) (N := 7) hx hb hts inX2 tyX2 tyX2_ok nmX2 hown hK hP hD hS 0 rfl rfl 0 (by decide) f7 (fun _ h9 => h9) rfl hin rfl (by decide +kernel) rfl rfl (Nat.le_of_ble_eq_true rfl) dX2_init_28 (fun H locs hP hD hS => ?_)
  have hP : va_P g.1 vwCl [(h0, .inr (2, [.ref q_1, .null, .int 0, .int 0, .long 0, .long 0, .int 0])), (aI g q_1 4 (upd (upd (upd (upd (fun _ => 0) 0 8) 1 8) 2 8) 3 8))] H := hP
  have hD : va_D A [(h0, .inr (2, [.ref q_1, .null, .int 0, .int 0, .long 0, .long 0, .int 0])), (aI g q_1 4 (upd (upd (upd (upd (fun _ => 0) 0 8) 1 8) 2 8) 3 8))] := hD
  refine lv_aload_n hx hb dX2_init_31 rfl (lv_at hl 0 rfl) ?_
  refine lv_iconst (v := 4) hx hb dX2_init_32 (by decide) ?_
  refine he_newi hx hb harr_int hK hP hD hS hA 4 (by decide) (by decide) (by decide) (Nat.le_of_ble_eq_true rfl) (Nat.le_of_ble_eq_true rfl) dX2_init_33 (fun q_2 H hP hD hS => ?_)
  have hP : va_P g.1 vwCl [(h0, .inr (2, [.ref q_1, .null, .int 0, .int 0, .long 0, .long 0, .int 0])), (aI g q_1 4 (upd (upd (upd (upd (fun _ => 0) 0 8) 1 8) 2 8) 3 8)), (aI g q_2 4 (fun _ => 0))] H := hP
  have hD : va_D A [(h0, .inr (2, [.ref q_1, .null, .int 0, .int 0, .long 0, .long 0, .int 0])), (aI g q_1 4 (upd (upd (upd (upd (fun _ => 0) 0 8) 1 8) 2 8) 3 8)), (aI g q_2 4 (fun _ => 0))] := hD
  refine W.widen (k := 2) (n := 8) (Nat.le_of_ble_eq_true rfl) (Nat.le_of_ble_eq_true rfl) ?_
  refine lv_dup hx hb dX2_init_35 rfl ?_
  refine lv_iconst (v := 0) hx hb dX2_init_36 (by decide) ?_
  refine lv_bipush (v := 8) hx hb dX2_init_37 (by decide) ?_
  refine he_iast hx hb hK hP hD hS 2 rfl (0) (by decide) (by decide) (by first | decide | assumption) dX2_init_39 (fun H locs hP hD hS => ?_)
  have hP : va_P g.1 vwCl [(h0, .inr (2, [.ref q_1, .null, .int 0, .int 0, .long 0, .long 0, .int 0])), (aI g q_1 4 (upd (upd (upd (upd (fun _ => 0) 0 8) 1 8) 2 8) 3 8)), (aI g q_2 4 (upd (fun _ => 0) 0 8))] H := hP
  have hD : va_D A [(h0, .inr (2, [.ref q_1, .null, .int 0, .int 0, .long 0, .long 0, .int 0])), (aI g q_1 4 (upd (upd (upd (upd (fun _ => 0) 0 8) 1 8) 2 8) 3 8)), (aI g q_2 4 (upd (fun _ => 0) 0 8))] := hD
  refine lv_dup hx hb dX2_init_40 rfl ?_
  refine lv_iconst (v := 1) hx hb dX2_init_41 (by decide) ?_
  refine lv_bipush (v := 8) hx hb dX2_init_42 (by decide) ?_
  refine he_iast hx hb hK hP hD hS 2 rfl (1) (by decide) (by decide) (by first | decide | assumption) dX2_init_44 (fun H locs hP hD hS => ?_)
  have hP : va_P g.1 vwCl [(h0, .inr (2, [.ref q_1, .null, .int 0, .int 0, .long 0, .long 0, .int 0])), (aI g q_1 4 (upd (upd (upd (upd (fun _ => 0) 0 8) 1 8) 2 8) 3 8)), (aI g q_2 4 (upd (upd (fun _ => 0) 0 8) 1 8))] H := hP
  have hD : va_D A [(h0, .inr (2, [.ref q_1, .null, .int 0, .int 0, .long 0, .long 0, .int 0])), (aI g q_1 4 (upd (upd (upd (upd (fun _ => 0) 0 8) 1 8) 2 8) 3 8)), (aI g q_2 4 (upd (upd (fun _ => 0) 0 8) 1 8))] := hD
  refine lv_dup hx hb dX2_init_45 rfl ?_
  refine lv_iconst (v := 2) hx hb dX2_init_46 (by decide) ?_
  refine lv_bipush (v := 8) hx hb dX2_init_47 (by decide) ?_
  refine he_iast hx hb hK hP hD hS 2 rfl (2) (by decide) (by decide) (by first | decide | assumption) dX2_init_49 (fun H locs hP hD hS => ?_)
  have hP : va_P g.1 vwCl [(h0, .inr (2, [.ref q_1, .null, .int 0, .int 0, .long 0, .long 0, .int 0])), (aI g q_1 4 (upd (upd (upd (upd (fun _ => 0) 0 8) 1 8) 2 8) 3 8)), (aI g q_2 4 (upd (upd (upd (fun _ => 0) 0 8) 1 8) 2 8))] H := hP
  have hD : va_D A [(h0, .inr (2, [.ref q_1, .null, .int 0, .int 0, .long 0, .long 0, .int 0])), (aI g q_1 4 (upd (upd (upd (upd (fun _ => 0) 0 8) 1 8) 2 8) 3 8)), (aI g q_2 4 (upd (upd (upd (fun _ => 0) 0 8) 1 8) 2 8))] := hD
  refine lv_dup hx hb dX2_init_50 rfl ?_
  refine lv_iconst (v := 3) hx hb dX2_init_51 (by decide) ?_
  refine lv_bipush (v := 8) hx hb dX2_init_52 (by decide) ?_
  refine he_iast hx hb hK hP hD hS 2 rfl (3) (by decide) (by decide) (by first | decide | assumption) dX2_init_54 (fun H locs hP hD hS => ?_)
  have hP : va_P g.1 vwCl [(h0, .inr (2, [.ref q_1, .null, .int 0, .int 0, .long 0, .long 0, .int 0])), (aI g q_1 4 (upd (upd (upd (upd (fun _ => 0) 0 8) 1 8) 2 8) 3 8)), (aI g q_2 4 (upd (upd (upd (upd (fun _ => 0) 0 8) 1 8) 2 8) 3 8))] H := hP
  have hD : va_D A [(h0, .inr (2, [.ref q_1, .null, .int 0, .int 0, .long 0, .long 0, .int 0])), (aI g q_1 4 (upd (upd (upd (upd (fun _ => 0) 0 8) 1 8) 2 8) 3 8)), (aI g q_2 4 (upd (upd (upd (upd (fun _ => 0) 0 8) 1 8) 2 8) 3 8))] := hD
  refine va_putF (v := .ref q_2) (ty := tyX2 1) (T := TX2) (N := 7) hx hb hts inX2 tyX2 tyX2_ok nmX2 hown hK hP hD hS 0 rfl rfl 1 (by decide) f13 (fun _ h9 => h9) rfl hin rfl (by decide +kernel) rfl rfl (Nat.le_of_ble_eq_true rfl) dX2_init_55 (fun H locs hP hD hS => ?_)
  have hP : va_P g.1 vwCl [(oX2 h0 q_1 q_2 0 0 0 0 0), (aI g q_1 4 (upd (upd (upd (upd (fun _ => 0) 0 8) 1 8) 2 8) 3 8)), (aI g q_2 4 (upd (upd (upd (upd (fun _ => 0) 0 8) 1 8) 2 8) 3 8))] H := hP
  have hD : va_D A [(oX2 h0 q_1 q_2 0 0 0 0 0), (aI g q_1 4 (upd (upd (upd (upd (fun _ => 0) 0 8) 1 8) 2 8) 3 8)), (aI g q_2 4 (upd (upd (upd (upd (fun _ => 0) 0 8) 1 8) 2 8) 3 8))] := hD
  refine lv_aload_n hx hb dX2_init_58 rfl (lv_at hl 0 rfl) ?_
  refine lv_iconst (v := 1) hx hb dX2_init_59 (by decide) ?_
  refine va_put (v := .int 1) (ty := .int) (T := TX2) (N := 7) hx hb hts inX2 tyX2 tyX2_ok nmX2 hown hK hP hD hS 0 rfl rfl 2 (by decide) f16 (fun _ h9 => h9) rfl (by decide +kernel) rfl rfl (Nat.le_of_ble_eq_true rfl) dX2_init_60 (fun H locs hP hD hS => ?_)
  have hP : va_P g.1 vwCl [(oX2 h0 q_1 q_2 1 0 0 0 0), (aI g q_1 4 (upd (upd (upd (upd (fun _ => 0) 0 8) 1 8) 2 8) 3 8)), (aI g q_2 4 (upd (upd (upd (upd (fun _ => 0) 0 8) 1 8) 2 8) 3 8))] H := hP
  have hD : va_D A [(oX2 h0 q_1 q_2 1 0 0 0 0), (aI g q_1 4 (upd (upd (upd (upd (fun _ => 0) 0 8) 1 8) 2 8) 3 8)), (aI g q_2 4 (upd (upd (upd (upd (fun _ => 0) 0 8) 1 8) 2 8) 3 8))] := hD
  refine lv_aload_n hx hb dX2_init_63 rfl (lv_at hl 0 rfl) ?_
  refine lv_iconst (v := 1) hx hb dX2_init_64 (by decide) ?_
  refine va_put (v := .int 1) (ty := .int) (T := TX2) (N := 7) hx hb hts inX2 tyX2 tyX2_ok nmX2 hown hK hP hD hS 0 rfl rfl 3 (by decide) f20 (fun _ h9 => h9) rfl (by decide +kernel) rfl rfl (Nat.le_of_ble_eq_true rfl) dX2_init_65 (fun H locs hP hD hS => ?_)
  have hP : va_P g.1 vwCl [(oX2 h0 q_1 q_2 1 1 0 0 0), (aI g q_1 4 (upd (upd (upd (upd (fun _ => 0) 0 8) 1 8) 2 8) 3 8)), (aI g q_2 4 (upd (upd (upd (upd (fun _ => 0) 0 8) 1 8) 2 8) 3 8))] H := hP
  have hD : va_D A [(oX2 h0 q_1 q_2 1 1 0 0 0), (aI g q_1 4 (upd (upd (upd (upd (fun _ => 0) 0 8) 1 8) 2 8) 3 8)), (aI g q_2 4 (upd (upd (upd (upd (fun _ => 0) 0 8) 1 8) 2 8) 3 8))] := hD
  refine lv_aload_n hx hb dX2_init_68 rfl (lv_at hl 0 rfl) ?_
  refine lv_lconst (v := 1) hx hb dX2_init_69 (by decide) ?_
  refine va_put (v := .long 1) (ty := .long) (T := TX2) (N := 7) hx hb hts inX2 tyX2 tyX2_ok nmX2 hown hK hP hD hS 0 rfl rfl 4 (by decide) f23 (fun _ h9 => h9) rfl (by decide +kernel) rfl rfl (Nat.le_of_ble_eq_true rfl) dX2_init_70 (fun H locs hP hD hS => ?_)
  have hP : va_P g.1 vwCl [(oX2 h0 q_1 q_2 1 1 1 0 0), (aI g q_1 4 (upd (upd (upd (upd (fun _ => 0) 0 8) 1 8) 2 8) 3 8)), (aI g q_2 4 (upd (upd (upd (upd (fun _ => 0) 0 8) 1 8) 2 8) 3 8))] H := hP
  have hD : va_D A [(oX2 h0 q_1 q_2 1 1 1 0 0), (aI g q_1 4 (upd (upd (upd (upd (fun _ => 0) 0 8) 1 8) 2 8) 3 8)), (aI g q_2 4 (upd (upd (upd (upd (fun _ => 0) 0 8) 1 8) 2 8) 3 8))] := hD
  refine lv_aload_n hx hb dX2_init_73 rfl (lv_at hl 0 rfl) ?_
  refine lv_lconst (v := 1) hx hb dX2_init_74 (by decide) ?_
  refine va_put (v := .long 1) (ty := .long) (T := TX2) (N := 7) hx hb hts inX2 tyX2 tyX2_ok nmX2 hown hK hP hD hS 0 rfl rfl 5 (by decide) f27 (fun _ h9 => h9) rfl (by decide +kernel) rfl rfl (Nat.le_of_ble_eq_true rfl) dX2_init_75 (fun H locs hP hD hS => ?_)
  have hP : va_P g.1 vwCl [(oX2 h0 q_1 q_2 1 1 1 1 0), (aI g q_1 4 (upd (upd (upd (upd (fun _ => 0) 0 8) 1 8) 2 8) 3 8)), (aI g q_2 4 (upd (upd (upd (upd (fun _ => 0) 0 8) 1 8) 2 8) 3 8))] H := hP
  have hD : va_D A [(oX2 h0 q_1 q_2 1 1 1 1 0), (aI g q_1 4 (upd (upd (upd (upd (fun _ => 0) 0 8) 1 8) 2 8) 3 8)), (aI g q_2 4 (upd (upd (upd (upd (fun _ => 0) 0 8) 1 8) 2 8) 3 8))] := hD
  exact he_rv hQ hx hb hr hlk hP hD hS dX2_init_78 (Nat.le_of_ble_eq_true rfl) (Nat.le_of_ble_eq_true rfl) ((q_1, q_2)) (rfl) (trivial)
set_option maxHeartbeats 4000000 in
set_option maxRecDepth 100000 in
theorem c_X3_init (l : Launch) (g : he_G) (h0 : Nat)  : he_V l yX3_init wsX3_init 1 12 2 75 g [.ref h0] [(h0, .inr (3, [.null, .null]))] (fun (u : Nat × Nat) => True) (fun (u : Nat × Nat) => [(oX3 h0 u.1 u.2), (aI g u.1 36 (fun _ => 0)), (aI g u.2 39 (fun _ => 0))]) := by
  refine he_begin (l := l) (g := g) (y := yX3_init) (wl := wsX3_init) (fr := 1) (lo := 12) (mc := 2) (ms := 75) (av := [.ref h0]) (ws := [(h0, .inr (3, [.null, .null]))]) (cc := cX3_init) (maxL := 1) (ret := none) (fun A => va_Qv (fun (u : Nat × Nat) => True) (fun u t => he_post g A ((fun (u : Nat × Nat) => [(oX3 h0 u.1 u.2), (aI g u.1 36 (fun _ => 0)), (aI g u.2 39 (fun _ => 0))]) u) t) A) (by decide) rfl (Nat.le_of_ble_eq_true rfl) ?_
  intro p e s m args below meth c A ls H locs Q hQ hB
  obtain ⟨hx, hb, hr, hml, hown, hts, hlk, hin, hP, hK, hD, hS, hA, hE, hl⟩ := hB
  have hl : lv_has ls 1 [(0, .ref h0)] := hl
  have oi1 := hts (.methodLink RX3 1 objectInit) (iwoX3_init (k := 0) rfl)
  have oim := hts (.instanceMethod objectInit) (iwoX3_init (k := 1) rfl)
  have oic := hts (.code objectInit ⟨#[0xb1]⟩ 1 none) (iwoX3_init (k := 2) rfl)
  have harr_int := hts (.arrayClass .int) (iwoX3_init (k := 3) rfl)
  have f9 := hts (.fieldLink RX3 9 "HiredEnemy$Bids" "coins" "[I") (iwoX3_init (k := 4) rfl)
  have inX3 : ∀ w ∈ wsX30, w ∈ wsX3_init := innX3_init_X3
  have f13 := hts (.fieldLink RX3 13 "HiredEnemy$Bids" "rest" "[I") (iwoX3_init (k := 5) rfl)
  refine lv_aload_n hx hb dX3_init_0 rfl (lv_at hl 0 rfl) ?_
  refine W.objInit hx hb hown oi1 oim oic rfl (by rw [hml]; exact hl.1) rfl dX3_init_1 (Nat.le_of_ble_eq_true rfl) (Nat.le_of_ble_eq_true rfl) ?_
  refine W.eq (g2 := F0 m 4 ls []) rfl ?_
  refine lv_aload_n hx hb dX3_init_4 rfl (lv_at hl 0 rfl) ?_
  refine lv_bipush (v := 36) hx hb dX3_init_5 (by decide) ?_
  refine he_newi hx hb harr_int hK hP hD hS hA 36 (by decide) (by decide) (by decide) (Nat.le_of_ble_eq_true rfl) (Nat.le_of_ble_eq_true rfl) dX3_init_7 (fun q_1 H hP hD hS => ?_)
  have hP : va_P g.1 vwCl [(h0, .inr (3, [.null, .null])), (aI g q_1 36 (fun _ => 0))] H := hP
  have hD : va_D A [(h0, .inr (3, [.null, .null])), (aI g q_1 36 (fun _ => 0))] := hD
  refine W.widen (k := 1) (n := 36) (Nat.le_of_ble_eq_true rfl) (Nat.le_of_ble_eq_true rfl) ?_
  refine va_putF (v := .ref q_1) (ty := tyX3 0) (T := TX3) (N := 2) hx hb hts inX3 tyX3 tyX3_ok nmX3 hown hK hP hD hS 0 rfl rfl 0 (by decide) f9 (fun _ h9 => h9) rfl hin rfl (by decide +kernel) rfl rfl (Nat.le_of_ble_eq_true rfl) dX3_init_9 (fun H locs hP hD hS => ?_)
  have hP : va_P g.1 vwCl [(h0, .inr (3, [.ref q_1, .null])), (aI g q_1 36 (fun _ => 0))] H := hP
  have hD : va_D A [(h0, .inr (3, [.ref q_1, .null])), (aI g q_1 36 (fun _ => 0))] := hD
  refine lv_aload_n hx hb dX3_init_12 rfl (lv_at hl 0 rfl) ?_
  refine lv_bipush (v := 39) hx hb dX3_init_13 (by decide) ?_
  refine he_newi hx hb harr_int hK hP hD hS hA 39 (by decide) (by decide) (by decide) (Nat.le_of_ble_eq_true rfl) (Nat.le_of_ble_eq_true rfl) dX3_init_15 (fun q_2 H hP hD hS => ?_)
  have hP : va_P g.1 vwCl [(h0, .inr (3, [.ref q_1, .null])), (aI g q_1 36 (fun _ => 0)), (aI g q_2 39 (fun _ => 0))] H := hP
  have hD : va_D A [(h0, .inr (3, [.ref q_1, .null])), (aI g q_1 36 (fun _ => 0)), (aI g q_2 39 (fun _ => 0))] := hD
  refine W.widen (k := 2) (n := 75) (Nat.le_of_ble_eq_true rfl) (Nat.le_of_ble_eq_true rfl) ?_
  refine va_putF (v := .ref q_2) (ty := tyX3 1) (T := TX3) (N := 2) hx hb hts inX3 tyX3 tyX3_ok nmX3 hown hK hP hD hS 0 rfl rfl 1 (by decide) f13 (fun _ h9 => h9) rfl hin rfl (by decide +kernel) rfl rfl (Nat.le_of_ble_eq_true rfl) dX3_init_17 (fun H locs hP hD hS => ?_)
  have hP : va_P g.1 vwCl [(oX3 h0 q_1 q_2), (aI g q_1 36 (fun _ => 0)), (aI g q_2 39 (fun _ => 0))] H := hP
  have hD : va_D A [(oX3 h0 q_1 q_2), (aI g q_1 36 (fun _ => 0)), (aI g q_2 39 (fun _ => 0))] := hD
  exact he_rv hQ hx hb hr hlk hP hD hS dX3_init_20 (Nat.le_of_ble_eq_true rfl) (Nat.le_of_ble_eq_true rfl) ((q_1, q_2)) (rfl) (trivial)
set_option maxHeartbeats 4000000 in
set_option maxRecDepth 100000 in
theorem c_X5_init (l : Launch) (g : he_G) (h0 : Nat)  : he_V l yX5_init wsX5_init 2 32 2 42 g [.ref h0] [(h0, .inr (5, [.null, .null, .int 0]))] (fun (u : Nat × Nat) => True) (fun (u : Nat × Nat) => [(oX5 h0 u.1 u.2 0), (aI g u.1 6 (fun _ => 0)), (aI g u.2 36 (fun _ => 0))]) := by
  refine he_begin (l := l) (g := g) (y := yX5_init) (wl := wsX5_init) (fr := 2) (lo := 32) (mc := 2) (ms := 42) (av := [.ref h0]) (ws := [(h0, .inr (5, [.null, .null, .int 0]))]) (cc := cX5_init) (maxL := 1) (ret := none) (fun A => va_Qv (fun (u : Nat × Nat) => True) (fun u t => he_post g A ((fun (u : Nat × Nat) => [(oX5 h0 u.1 u.2 0), (aI g u.1 6 (fun _ => 0)), (aI g u.2 36 (fun _ => 0))]) u) t) A) (by decide) rfl (Nat.le_of_ble_eq_true rfl) ?_
  intro p e s m args below meth c A ls H locs Q hQ hB
  obtain ⟨hx, hb, hr, hml, hown, hts, hlk, hin, hP, hK, hD, hS, hA, hE, hl⟩ := hB
  have hl : lv_has ls 1 [(0, .ref h0)] := hl
  have nl3 := hE.nest (RX5, 3, yX9_init) (by decide +kernel)
  have iniX9 := hts (.initialized RX9) (iwoX5_init (k := 4) rfl)
  have im_yX9_init := hts (.instanceMethod yX9_init) (iwoX5_init (k := 3) rfl)
  have harr_int := hts (.arrayClass .int) (iwoX5_init (k := 0) rfl)
  have f11 := hts (.fieldLink RX5 11 "HiredEnemy$Pact" "said" "[I") (iwoX5_init (k := 1) rfl)
  have inX5 : ∀ w ∈ wsX50, w ∈ wsX5_init := innX5_init_X5
  have f15 := hts (.fieldLink RX5 15 "HiredEnemy$Pact" "wallByMonth" "[I") (iwoX5_init (k := 2) rfl)
  refine lv_aload_n hx hb dX5_init_0 rfl (lv_at hl 0 rfl) ?_
  refine he_cv (wc := []) (wr := [(h0, .inr (5, [.null, .null, .int 0]))]) (va_runIN (As := []) (rest := []) ⟨hx, hb, hml, hown, hts⟩ (c_X9_init l g h0 H.size) ⟨(va_cnB 0 hts gX5_init_X9_init_n3 rfl rfl rfl nl3 iniX9 (by decide +kernel) ⟨Nat.le_of_ble_eq_true rfl, Nat.le_of_ble_eq_true rfl⟩), rfl, im_yX9_init⟩ (he_preS (wc := []) hK hP hD hS hA hE [] rfl rfl) rfl rfl hl.1 rfl (lv_room (Nat.le_of_ble_eq_true rfl)) dX5_init_1 ⟨(Nat.le_of_ble_eq_true rfl), (Nat.le_of_ble_eq_true rfl)⟩) hP hD hS hA [] [0] rfl rfl rfl (by decide) (fun u_2 H locs h_3 hP hD hS => ?_)
  have hP : va_P g.1 vwCl [(h0, .inr (5, [.null, .null, .int 0]))] H := hP
  have hD : va_D A [(h0, .inr (5, [.null, .null, .int 0]))] := hD
  refine lv_aload_n hx hb dX5_init_4 rfl (lv_at hl 0 rfl) ?_
  refine lv_bipush (v := 6) hx hb dX5_init_5 (by decide) ?_
  refine he_newi hx hb harr_int hK hP hD hS hA 6 (by decide) (by decide) (by decide) (Nat.le_of_ble_eq_true rfl) (Nat.le_of_ble_eq_true rfl) dX5_init_7 (fun q_4 H hP hD hS => ?_)
  have hP : va_P g.1 vwCl [(h0, .inr (5, [.null, .null, .int 0])), (aI g q_4 6 (fun _ => 0))] H := hP
  have hD : va_D A [(h0, .inr (5, [.null, .null, .int 0])), (aI g q_4 6 (fun _ => 0))] := hD
  refine W.widen (k := 1) (n := 6) (Nat.le_of_ble_eq_true rfl) (Nat.le_of_ble_eq_true rfl) ?_
  refine va_putF (v := .ref q_4) (ty := tyX5 0) (T := TX5) (N := 3) hx hb hts inX5 tyX5 tyX5_ok nmX5 hown hK hP hD hS 0 rfl rfl 0 (by decide) f11 (fun _ h9 => h9) rfl hin rfl (by decide +kernel) rfl rfl (Nat.le_of_ble_eq_true rfl) dX5_init_9 (fun H locs hP hD hS => ?_)
  have hP : va_P g.1 vwCl [(h0, .inr (5, [.ref q_4, .null, .int 0])), (aI g q_4 6 (fun _ => 0))] H := hP
  have hD : va_D A [(h0, .inr (5, [.ref q_4, .null, .int 0])), (aI g q_4 6 (fun _ => 0))] := hD
  refine lv_aload_n hx hb dX5_init_12 rfl (lv_at hl 0 rfl) ?_
  refine lv_bipush (v := 36) hx hb dX5_init_13 (by decide) ?_
  refine he_newi hx hb harr_int hK hP hD hS hA 36 (by decide) (by decide) (by decide) (Nat.le_of_ble_eq_true rfl) (Nat.le_of_ble_eq_true rfl) dX5_init_15 (fun q_5 H hP hD hS => ?_)
  have hP : va_P g.1 vwCl [(h0, .inr (5, [.ref q_4, .null, .int 0])), (aI g q_4 6 (fun _ => 0)), (aI g q_5 36 (fun _ => 0))] H := hP
  have hD : va_D A [(h0, .inr (5, [.ref q_4, .null, .int 0])), (aI g q_4 6 (fun _ => 0)), (aI g q_5 36 (fun _ => 0))] := hD
  refine W.widen (k := 2) (n := 42) (Nat.le_of_ble_eq_true rfl) (Nat.le_of_ble_eq_true rfl) ?_
  refine va_putF (v := .ref q_5) (ty := tyX5 1) (T := TX5) (N := 3) hx hb hts inX5 tyX5 tyX5_ok nmX5 hown hK hP hD hS 0 rfl rfl 1 (by decide) f15 (fun _ h9 => h9) rfl hin rfl (by decide +kernel) rfl rfl (Nat.le_of_ble_eq_true rfl) dX5_init_17 (fun H locs hP hD hS => ?_)
  have hP : va_P g.1 vwCl [(oX5 h0 q_4 q_5 0), (aI g q_4 6 (fun _ => 0)), (aI g q_5 36 (fun _ => 0))] H := hP
  have hD : va_D A [(oX5 h0 q_4 q_5 0), (aI g q_4 6 (fun _ => 0)), (aI g q_5 36 (fun _ => 0))] := hD
  exact he_rv hQ hx hb hr hlk hP hD hS dX5_init_20 (Nat.le_of_ble_eq_true rfl) (Nat.le_of_ble_eq_true rfl) ((q_4, q_5)) (rfl) (trivial)
set_option maxHeartbeats 4000000 in
set_option maxRecDepth 100000 in
theorem c_X7_init (l : Launch) (g : he_G) (h0 : Nat)  : he_V l yX7_init wsX7_init 1 12 2 3 g [.ref h0] [(h0, .inr (7, [.null, .int 0, .int 0, .int 0, .int 0, .null]))] (fun (u : Nat × Nat) => True) (fun (u : Nat × Nat) => [(oX7 h0 u.1 0 0 0 (-1) u.2), (aB g u.1 0 (fun _ => 0)), (aI g u.2 3 (fun _ => 0))]) := by
  refine he_begin (l := l) (g := g) (y := yX7_init) (wl := wsX7_init) (fr := 1) (lo := 12) (mc := 2) (ms := 3) (av := [.ref h0]) (ws := [(h0, .inr (7, [.null, .int 0, .int 0, .int 0, .int 0, .null]))]) (cc := cX7_init) (maxL := 1) (ret := none) (fun A => va_Qv (fun (u : Nat × Nat) => True) (fun u t => he_post g A ((fun (u : Nat × Nat) => [(oX7 h0 u.1 0 0 0 (-1) u.2), (aB g u.1 0 (fun _ => 0)), (aI g u.2 3 (fun _ => 0))]) u) t) A) (by decide) rfl (Nat.le_of_ble_eq_true rfl) ?_
  intro p e s m args below meth c A ls H locs Q hQ hB
  obtain ⟨hx, hb, hr, hml, hown, hts, hlk, hin, hP, hK, hD, hS, hA, hE, hl⟩ := hB
  have hl : lv_has ls 1 [(0, .ref h0)] := hl
  have oi3 := hts (.methodLink RX7 3 objectInit) (iwoX7_init (k := 0) rfl)
  have oim := hts (.instanceMethod objectInit) (iwoX7_init (k := 1) rfl)
  have oic := hts (.code objectInit ⟨#[0xb1]⟩ 1 none) (iwoX7_init (k := 2) rfl)
  have harr_byte := hts (.arrayClass .byte) (iwoX7_init (k := 3) rfl)
  have f9 := hts (.fieldLink RX7 9 "HiredEnemy$Reader" "bytes" "[B") (iwoX7_init (k := 4) rfl)
  have inX7 : ∀ w ∈ wsX70, w ∈ wsX7_init := innX7_init_X7
  have f15 := hts (.fieldLink RX7 15 "HiredEnemy$Reader" "place" "I") (iwoX7_init (k := 5) rfl)
  have harr_int := hts (.arrayClass .int) (iwoX7_init (k := 6) rfl)
  have f19 := hts (.fieldLink RX7 19 "HiredEnemy$Reader" "numbers" "[I") (iwoX7_init (k := 7) rfl)
  refine lv_aload_n hx hb dX7_init_0 rfl (lv_at hl 0 rfl) ?_
  refine W.objInit hx hb hown oi3 oim oic rfl (by rw [hml]; exact hl.1) rfl dX7_init_1 (Nat.le_of_ble_eq_true rfl) (Nat.le_of_ble_eq_true rfl) ?_
  refine W.eq (g2 := F0 m 4 ls []) rfl ?_
  refine lv_aload_n hx hb dX7_init_4 rfl (lv_at hl 0 rfl) ?_
  refine lv_iconst (v := 0) hx hb dX7_init_5 (by decide) ?_
  refine he_newb hx hb harr_byte hK hP hD hS hA 0 (by decide) (by decide) (by decide) (Nat.le_of_ble_eq_true rfl) (Nat.le_of_ble_eq_true rfl) dX7_init_6 (fun q_1 H hP hD hS => ?_)
  have hP : va_P g.1 vwCl [(h0, .inr (7, [.null, .int 0, .int 0, .int 0, .int 0, .null])), (aB g q_1 0 (fun _ => 0))] H := hP
  have hD : va_D A [(h0, .inr (7, [.null, .int 0, .int 0, .int 0, .int 0, .null])), (aB g q_1 0 (fun _ => 0))] := hD
  refine W.widen (k := 1) (n := 0) (Nat.le_of_ble_eq_true rfl) (Nat.le_of_ble_eq_true rfl) ?_
  refine va_put (v := .ref q_1) (ty := tyX7 0) (T := TX7) (N := 6) hx hb hts inX7 tyX7 tyX7_ok nmX7 hown hK hP hD hS 0 rfl rfl 0 (by decide) f9 (fun _ h9 => h9) rfl (by decide +kernel) rfl rfl (Nat.le_of_ble_eq_true rfl) dX7_init_8 (fun H locs hP hD hS => ?_)
  have hP : va_P g.1 vwCl [(h0, .inr (7, [.ref q_1, .int 0, .int 0, .int 0, .int 0, .null])), (aB g q_1 0 (fun _ => 0))] H := hP
  have hD : va_D A [(h0, .inr (7, [.ref q_1, .int 0, .int 0, .int 0, .int 0, .null])), (aB g q_1 0 (fun _ => 0))] := hD
  refine lv_aload_n hx hb dX7_init_11 rfl (lv_at hl 0 rfl) ?_
  refine lv_iconst (v := (-1)) hx hb dX7_init_12 (by decide) ?_
  refine va_put (v := .int (-1)) (ty := .int) (T := TX7) (N := 6) hx hb hts inX7 tyX7 tyX7_ok nmX7 hown hK hP hD hS 0 rfl rfl 4 (by decide) f15 (fun _ h9 => h9) rfl (by decide +kernel) rfl rfl (Nat.le_of_ble_eq_true rfl) dX7_init_13 (fun H locs hP hD hS => ?_)
  have hP : va_P g.1 vwCl [(h0, .inr (7, [.ref q_1, .int 0, .int 0, .int 0, .int (-1), .null])), (aB g q_1 0 (fun _ => 0))] H := hP
  have hD : va_D A [(h0, .inr (7, [.ref q_1, .int 0, .int 0, .int 0, .int (-1), .null])), (aB g q_1 0 (fun _ => 0))] := hD
  refine lv_aload_n hx hb dX7_init_16 rfl (lv_at hl 0 rfl) ?_
  refine lv_iconst (v := 3) hx hb dX7_init_17 (by decide) ?_
  refine he_newi hx hb harr_int hK hP hD hS hA 3 (by decide) (by decide) (by decide) (Nat.le_of_ble_eq_true rfl) (Nat.le_of_ble_eq_true rfl) dX7_init_18 (fun q_2 H hP hD hS => ?_)
  have hP : va_P g.1 vwCl [(h0, .inr (7, [.ref q_1, .int 0, .int 0, .int 0, .int (-1), .null])), (aB g q_1 0 (fun _ => 0)), (aI g q_2 3 (fun _ => 0))] H := hP
  have hD : va_D A [(h0, .inr (7, [.ref q_1, .int 0, .int 0, .int 0, .int (-1), .null])), (aB g q_1 0 (fun _ => 0)), (aI g q_2 3 (fun _ => 0))] := hD
  refine W.widen (k := 2) (n := 3) (Nat.le_of_ble_eq_true rfl) (Nat.le_of_ble_eq_true rfl) ?_
  refine va_putF (v := .ref q_2) (ty := tyX7 5) (T := TX7) (N := 6) hx hb hts inX7 tyX7 tyX7_ok nmX7 hown hK hP hD hS 0 rfl rfl 5 (by decide) f19 (fun _ h9 => h9) rfl hin rfl (by decide +kernel) rfl rfl (Nat.le_of_ble_eq_true rfl) dX7_init_20 (fun H locs hP hD hS => ?_)
  have hP : va_P g.1 vwCl [(oX7 h0 q_1 0 0 0 (-1) q_2), (aB g q_1 0 (fun _ => 0)), (aI g q_2 3 (fun _ => 0))] H := hP
  have hD : va_D A [(oX7 h0 q_1 0 0 0 (-1) q_2), (aB g q_1 0 (fun _ => 0)), (aI g q_2 3 (fun _ => 0))] := hD
  exact he_rv hQ hx hb hr hlk hP hD hS dX7_init_23 (Nat.le_of_ble_eq_true rfl) (Nat.le_of_ble_eq_true rfl) ((q_1, q_2)) (rfl) (trivial)
set_option maxHeartbeats 4000000 in
set_option maxRecDepth 100000 in
theorem c_X6_clear (l : Launch) (g : he_G) (h0 : Nat) (q0 : Nat) (q1 : Nat) (q2 : Nat) (q3 : Nat) (w : Int32) (f0 : Nat → Int32) (f1 : Nat → Int32)  : he_V l yX6_clear wsX6_clear 0 0 0 0 g [.ref h0] [(oX6 h0 q0 q1 q2 q3 w), (aI g q0 24 f0), (aI g q1 10 f1)] (fun (u : Unit) => True) (fun (u : Unit) => [(oX6 h0 q0 q1 q2 q3 0), (aI g q0 24 (flF unF f0 24)), (aI g q1 10 (flF nrF f1 10))]) := by
  refine he_begin (l := l) (g := g) (y := yX6_clear) (wl := wsX6_clear) (fr := 0) (lo := 0) (mc := 0) (ms := 0) (av := [.ref h0]) (ws := [(oX6 h0 q0 q1 q2 q3 w), (aI g q0 24 f0), (aI g q1 10 f1)]) (cc := cX6_clear) (maxL := 2) (ret := none) (fun A => va_Qv (fun (u : Unit) => True) (fun u t => he_post g A ((fun (u : Unit) => [(oX6 h0 q0 q1 q2 q3 0), (aI g q0 24 (flF unF f0 24)), (aI g q1 10 (flF nrF f1 10))]) u) t) A) (by decide) rfl (Nat.le_of_ble_eq_true rfl) ?_
  intro p e s m args below meth c A ls H locs Q hQ hB
  obtain ⟨hx, hb, hr, hml, hown, hts, hlk, hin, hP, hK, hD, hS, hA, hE, hl⟩ := hB
  have hl : lv_has ls 2 [(0, .ref h0)] := hl
  have f30 := hts (.fieldLink RX6 30 "HiredEnemy$Plan" "walls" "I") (iwoX6_clear (k := 0) rfl)
  have inX6 : ∀ w ∈ wsX60, w ∈ wsX6_clear := innX6_clear_X6
  have f15 := hts (.fieldLink RX6 15 "HiredEnemy$Plan" "said" "[I") (iwoX6_clear (k := 1) rfl)
  have f18 := hts (.fieldLink RX6 18 "HiredEnemy$Plan" "fearByNear" "[I") (iwoX6_clear (k := 3) rfl)
  have f9 := hts (.fieldLink RX6 9 "HiredEnemy$Plan" "UNTOLD" "[I") (iwoX6_clear (k := 2) rfl)
  obtain ⟨t_un, hZ_un, hT_un⟩ := hE.1
  refine lv_aload_n hx hb dX6_clear_0 rfl (lv_at hl 0 rfl) ?_
  refine lv_iconst (v := 0) hx hb dX6_clear_1 (by decide) ?_
  refine va_put (v := .int 0) (ty := .int) (T := TX6) (N := 5) hx hb hts inX6 tyX6 tyX6_ok nmX6 hown hK hP hD hS 0 rfl rfl 4 (by decide) f30 (fun _ h9 => h9) rfl (by decide +kernel) rfl rfl (Nat.le_of_ble_eq_true rfl) dX6_clear_2 (fun H locs hP hD hS => ?_)
  have hP : va_P g.1 vwCl [(oX6 h0 q0 q1 q2 q3 0), (aI g q0 24 f0), (aI g q1 10 f1)] H := hP
  have hD : va_D A [(oX6 h0 q0 q1 q2 q3 0), (aI g q0 24 f0), (aI g q1 10 f1)] := hD
  refine lv_iconst (v := 0) hx hb dX6_clear_5 (by decide) ?_
  refine lv_istore_n (lv' := [(1, .int 0), (0, .ref h0)]) hx hb dX6_clear_6 rfl hl (by decide) rfl (fun ls hl => ?_)
  have loop7 : ∀ (n9 : Nat) (j : Nat), 24 - j < n9 → (j ≤ 24) → ∀ (H : Heap) (locs : List Loc) (ls : Array Slot), va_P g.1 vwCl [(oX6 h0 q0 q1 q2 q3 0), (aI g q0 24 (flF unF f0 j)), (aI g q1 10 f1)] H → va_D A [(oX6 h0 q0 q1 q2 q3 0), (aI g q0 24 (flF unF f0 j)), (aI g q1 10 f1)] → va_S A s.heap H locs → lv_has ls 2 [(0, .ref h0), (1, .int (nI j))] → W p l e (he_room 0 0 0 0) s m args below meth c H locs 0 0 Q (F0 m 7 ls []) := by
    intro n9
    induction n9 with
    | zero => intro j hm9; exact absurd hm9 (Nat.not_lt_zero _)
    | succ n9 ih7 =>
      intro j hm9 hj H locs ls hP hD hS hl
      refine lv_iload_n hx hb dX6_clear_7 rfl (lv_at hl 1 rfl) ?_
      refine lv_aload_n hx hb dX6_clear_8 rfl (lv_at hl 0 rfl) ?_
      refine va_get (v := .ref q0) (T := TX6) (N := 5) hx hb hts inX6 hown hK hP 0 rfl rfl 0 (by decide) f15 (fun _ h9 => h9) rfl dX6_clear_9 ?_
      refine va_alen (v := 24) hx hb hK hP 1 1 rfl rfl rfl dX6_clear_12 ?_
      refine lv_icmp_ge (tgt := 33) hx hb dX6_clear_13 (by decide) (fun c_1 => ?_) (fun c_1 => ?_)
      · have k_2 : 24 ≤ j := (he_cle (a := 24) (b := j) (by decide) rfl (by omega) (by omega)).mp c_1
        obtain rfl : j = 24 := by omega
        refine lv_iconst (v := 0) hx hb dX6_clear_33 (by decide) ?_
        refine lv_istore_n (lv' := [(1, .int 0), (0, .ref h0)]) hx hb dX6_clear_34 rfl hl (by decide) rfl (fun ls hl => ?_)
        have loop35 : ∀ (n9 : Nat) (j2 : Nat), 10 - j2 < n9 → (j2 ≤ 10) → ∀ (H : Heap) (locs : List Loc) (ls : Array Slot), va_P g.1 vwCl [(oX6 h0 q0 q1 q2 q3 0), (aI g q0 24 (flF unF f0 24)), (aI g q1 10 (flF nrF f1 j2))] H → va_D A [(oX6 h0 q0 q1 q2 q3 0), (aI g q0 24 (flF unF f0 24)), (aI g q1 10 (flF nrF f1 j2))] → va_S A s.heap H locs → lv_has ls 2 [(0, .ref h0), (1, .int (nI j2))] → W p l e (he_room 0 0 0 0) s m args below meth c H locs 0 0 Q (F0 m 35 ls []) := by
          intro n9
          induction n9 with
          | zero => intro j2 hm9; exact absurd hm9 (Nat.not_lt_zero _)
          | succ n9 ih35 =>
            intro j2 hm9 hj2 H locs ls hP hD hS hl
            refine lv_iload_n hx hb dX6_clear_35 rfl (lv_at hl 1 rfl) ?_
            refine lv_aload_n hx hb dX6_clear_36 rfl (lv_at hl 0 rfl) ?_
            refine va_get (v := .ref q1) (T := TX6) (N := 5) hx hb hts inX6 hown hK hP 0 rfl rfl 1 (by decide) f18 (fun _ h9 => h9) rfl dX6_clear_37 ?_
            refine va_alen (v := 10) hx hb hK hP 2 1 rfl rfl rfl dX6_clear_40 ?_
            refine lv_icmp_ge (tgt := 60) hx hb dX6_clear_41 (by decide) (fun c_3 => ?_) (fun c_3 => ?_)
            · have k_4 : 10 ≤ j2 := (he_cle (a := 10) (b := j2) (by decide) rfl (by omega) (by omega)).mp c_3
              obtain rfl : j2 = 10 := by omega
              exact he_rv hQ hx hb hr hlk hP hD hS dX6_clear_60 (Nat.le_of_ble_eq_true rfl) (Nat.le_of_ble_eq_true rfl) (()) (rfl) (trivial)
            · have k_5 : ¬ (10 ≤ j2) := fun h9 => c_3 ((he_cle (a := 10) (b := j2) (by decide) rfl (by omega) (by omega)).mpr h9)
              refine lv_aload_n hx hb dX6_clear_44 rfl (lv_at hl 0 rfl) ?_
              refine va_get (v := .ref q1) (T := TX6) (N := 5) hx hb hts inX6 hown hK hP 0 rfl rfl 1 (by decide) f18 (fun _ h9 => h9) rfl dX6_clear_45 ?_
              refine lv_iload_n hx hb dX6_clear_48 rfl (lv_at hl 1 rfl) ?_
              refine lv_bipush (v := 9) hx hb dX6_clear_49 (by decide) ?_
              refine lv_iload_n hx hb dX6_clear_51 rfl (lv_at hl 1 rfl) ?_
              refine lv_isub hx hb dX6_clear_52 ?_
              refine he_iast hx hb hK hP hD hS 2 rfl (j2) rfl (by first | assumption | decide | omega) (by first | decide | assumption) dX6_clear_53 (fun H locs hP hD hS => ?_)
              have hP : va_P g.1 vwCl [(oX6 h0 q0 q1 q2 q3 0), (aI g q0 24 (flF unF f0 24)), (aI g q1 10 (upd (flF nrF f1 j2) j2 (9 - (nI j2))))] H := hP
              have hD : va_D A [(oX6 h0 q0 q1 q2 q3 0), (aI g q0 24 (flF unF f0 24)), (aI g q1 10 (upd (flF nrF f1 j2) j2 (9 - (nI j2))))] := hD
              refine lv_iinc (v := nI (j2 + 1)) (lv' := [(1, .int (nI (j2 + 1))), (0, .ref h0)]) hx hb dX6_clear_54 hl (k := 1) rfl (nI_1 j2) (by decide) rfl (fun ls hl => ?_)
              refine lv_goto (tgt := 35) hx hb dX6_clear_57 (by decide) ?_
              have hP : va_P g.1 vwCl [(oX6 h0 q0 q1 q2 q3 0), (aI g q0 24 (flF unF f0 24)), (aI g q1 10 (flF nrF f1 (j2 + 1)))] H := by rw [← flF_s nrF f1 j2]; exact hP
              have hD : va_D A [(oX6 h0 q0 q1 q2 q3 0), (aI g q0 24 (flF unF f0 24)), (aI g q1 10 (flF nrF f1 (j2 + 1)))] := by rw [← flF_s nrF f1 j2]; exact hD
              exact ih35 (j2 + 1) (by omega) (by omega) _ _ _ hP hD hS (lv_sub hl [1, 0] rfl)
        have hP : va_P g.1 vwCl [(oX6 h0 q0 q1 q2 q3 0), (aI g q0 24 (flF unF f0 24)), (aI g q1 10 (flF nrF f1 0))] H := by rw [flF_0]; exact hP
        have hD : va_D A [(oX6 h0 q0 q1 q2 q3 0), (aI g q0 24 (flF unF f0 24)), (aI g q1 10 (flF nrF f1 0))] := by rw [flF_0]; exact hD
        exact loop35 ((10 - 0) + 1) 0 (Nat.lt_succ_self _) (Nat.zero_le _) _ _ _ hP hD hS (lv_sub hl [1, 0] rfl)
      · have k_6 : ¬ (24 ≤ j) := fun h9 => c_1 ((he_cle (a := 24) (b := j) (by decide) rfl (by omega) (by omega)).mpr h9)
        refine lv_aload_n hx hb dX6_clear_16 rfl (lv_at hl 0 rfl) ?_
        refine va_get (v := .ref q0) (T := TX6) (N := 5) hx hb hts inX6 hown hK hP 0 rfl rfl 0 (by decide) f15 (fun _ h9 => h9) rfl dX6_clear_17 ?_
        refine lv_iload_n hx hb dX6_clear_20 rfl (lv_at hl 1 rfl) ?_
        refine va_gets hx hb hZ_un hS hown f9 (fun _ h9 => h9) dX6_clear_21 ?_
        refine lv_iload_n hx hb dX6_clear_24 rfl (lv_at hl 1 rfl) ?_
        refine he_tald hx hb hT_un hS (j) rfl (by first | assumption | decide | omega) (by decide) (he_untold.getD j 0) rfl dX6_clear_25 ?_
        refine he_iast hx hb hK hP hD hS 1 rfl (j) rfl (by first | assumption | decide | omega) (by first | decide | assumption) dX6_clear_26 (fun H locs hP hD hS => ?_)
        have hP : va_P g.1 vwCl [(oX6 h0 q0 q1 q2 q3 0), (aI g q0 24 (upd (flF unF f0 j) j (he_untold.getD j 0))), (aI g q1 10 f1)] H := hP
        have hD : va_D A [(oX6 h0 q0 q1 q2 q3 0), (aI g q0 24 (upd (flF unF f0 j) j (he_untold.getD j 0))), (aI g q1 10 f1)] := hD
        refine lv_iinc (v := nI (j + 1)) (lv' := [(1, .int (nI (j + 1))), (0, .ref h0)]) hx hb dX6_clear_27 hl (k := 1) rfl (nI_1 j) (by decide) rfl (fun ls hl => ?_)
        refine lv_goto (tgt := 7) hx hb dX6_clear_30 (by decide) ?_
        have hP : va_P g.1 vwCl [(oX6 h0 q0 q1 q2 q3 0), (aI g q0 24 (flF unF f0 (j + 1))), (aI g q1 10 f1)] H := by rw [← flF_s unF f0 j]; exact hP
        have hD : va_D A [(oX6 h0 q0 q1 q2 q3 0), (aI g q0 24 (flF unF f0 (j + 1))), (aI g q1 10 f1)] := by rw [← flF_s unF f0 j]; exact hD
        exact ih7 (j + 1) (by omega) (by omega) _ _ _ hP hD hS (lv_sub hl [1, 0] rfl)
  have hP : va_P g.1 vwCl [(oX6 h0 q0 q1 q2 q3 0), (aI g q0 24 (flF unF f0 0)), (aI g q1 10 f1)] H := by rw [flF_0]; exact hP
  have hD : va_D A [(oX6 h0 q0 q1 q2 q3 0), (aI g q0 24 (flF unF f0 0)), (aI g q1 10 f1)] := by rw [flF_0]; exact hD
  exact loop7 ((24 - 0) + 1) 0 (Nat.lt_succ_self _) (Nat.zero_le _) _ _ _ hP hD hS (lv_sub hl [1, 0] rfl)
set_option maxHeartbeats 4000000 in
set_option maxRecDepth 100000 in
theorem c_X6_init (l : Launch) (g : he_G) (h0 : Nat)  : he_V l yX6_init wsX6_init 2 32 4 46 g [.ref h0] [(h0, .inr (6, [.null, .null, .null, .null, .int 0]))] (fun (u : Nat × Nat × Nat × Nat) => True) (fun (u : Nat × Nat × Nat × Nat) => [(oX6 h0 u.1 u.2.1 u.2.2.1 u.2.2.2 0), (aI g u.1 24 (flF unF (fun _ => 0) 24)), (aI g u.2.1 10 (flF nrF (fun _ => 0) 10)), (aI g u.2.2.1 6 (fun _ => 0)), (aI g u.2.2.2 6 (fun _ => 0))]) := by
  refine he_begin (l := l) (g := g) (y := yX6_init) (wl := wsX6_init) (fr := 2) (lo := 32) (mc := 4) (ms := 46) (av := [.ref h0]) (ws := [(h0, .inr (6, [.null, .null, .null, .null, .int 0]))]) (cc := cX6_init) (maxL := 1) (ret := none) (fun A => va_Qv (fun (u : Nat × Nat × Nat × Nat) => True) (fun u t => he_post g A ((fun (u : Nat × Nat × Nat × Nat) => [(oX6 h0 u.1 u.2.1 u.2.2.1 u.2.2.2 0), (aI g u.1 24 (flF unF (fun _ => 0) 24)), (aI g u.2.1 10 (flF nrF (fun _ => 0) 10)), (aI g u.2.2.1 6 (fun _ => 0)), (aI g u.2.2.2 6 (fun _ => 0))]) u) t) A) (by decide) rfl (Nat.le_of_ble_eq_true rfl) ?_
  intro p e s m args below meth c A ls H locs Q hQ hB
  obtain ⟨hx, hb, hr, hml, hown, hts, hlk, hin, hP, hK, hD, hS, hA, hE, hl⟩ := hB
  have hl : lv_has ls 1 [(0, .ref h0)] := hl
  have nl3 := hE.nest (RX6, 3, yX9_init) (by decide +kernel)
  have iniX9 := hts (.initialized RX9) (iwoX6_init (k := 7) rfl)
  have im_yX9_init := hts (.instanceMethod yX9_init) (iwoX6_init (k := 6) rfl)
  have f9 := hts (.fieldLink RX6 9 "HiredEnemy$Plan" "UNTOLD" "[I") (iwoX6_init (k := 0) rfl)
  obtain ⟨t_un, hZ_un, hT_un⟩ := hE.1
  have harr_int := hts (.arrayClass .int) (iwoX6_init (k := 1) rfl)
  have f15 := hts (.fieldLink RX6 15 "HiredEnemy$Plan" "said" "[I") (iwoX6_init (k := 2) rfl)
  have inX6 : ∀ w ∈ wsX60, w ∈ wsX6_init := innX6_init_X6
  have f18 := hts (.fieldLink RX6 18 "HiredEnemy$Plan" "fearByNear" "[I") (iwoX6_init (k := 3) rfl)
  have f21 := hts (.fieldLink RX6 21 "HiredEnemy$Plan" "strength" "[I") (iwoX6_init (k := 4) rfl)
  have f24 := hts (.fieldLink RX6 24 "HiredEnemy$Plan" "mended" "[I") (iwoX6_init (k := 5) rfl)
  refine lv_aload_n hx hb dX6_init_0 rfl (lv_at hl 0 rfl) ?_
  refine he_cv (wc := []) (wr := [(h0, .inr (6, [.null, .null, .null, .null, .int 0]))]) (va_runIN (As := []) (rest := []) ⟨hx, hb, hml, hown, hts⟩ (c_X9_init l g h0 H.size) ⟨(va_cnB 0 hts gX6_init_X9_init_n3 rfl rfl rfl nl3 iniX9 (by decide +kernel) ⟨Nat.le_of_ble_eq_true rfl, Nat.le_of_ble_eq_true rfl⟩), rfl, im_yX9_init⟩ (he_preS (wc := []) hK hP hD hS hA hE [] rfl rfl) rfl rfl hl.1 rfl (lv_room (Nat.le_of_ble_eq_true rfl)) dX6_init_1 ⟨(Nat.le_of_ble_eq_true rfl), (Nat.le_of_ble_eq_true rfl)⟩) hP hD hS hA [] [0] rfl rfl rfl (by decide) (fun u_2 H locs h_3 hP hD hS => ?_)
  have hP : va_P g.1 vwCl [(h0, .inr (6, [.null, .null, .null, .null, .int 0]))] H := hP
  have hD : va_D A [(h0, .inr (6, [.null, .null, .null, .null, .int 0]))] := hD
  refine lv_aload_n hx hb dX6_init_4 rfl (lv_at hl 0 rfl) ?_
  refine va_gets hx hb hZ_un hS hown f9 (fun _ h9 => h9) dX6_init_5 ?_
  refine va_tlen (v := 24) hx hb hT_un hS (by decide) dX6_init_8 ?_
  refine he_newi hx hb harr_int hK hP hD hS hA 24 (by decide) (by decide) (by decide) (Nat.le_of_ble_eq_true rfl) (Nat.le_of_ble_eq_true rfl) dX6_init_9 (fun q_4 H hP hD hS => ?_)
  have hP : va_P g.1 vwCl [(h0, .inr (6, [.null, .null, .null, .null, .int 0])), (aI g q_4 24 (fun _ => 0))] H := hP
  have hD : va_D A [(h0, .inr (6, [.null, .null, .null, .null, .int 0])), (aI g q_4 24 (fun _ => 0))] := hD
  refine W.widen (k := 1) (n := 24) (Nat.le_of_ble_eq_true rfl) (Nat.le_of_ble_eq_true rfl) ?_
  refine va_putF (v := .ref q_4) (ty := tyX6 0) (T := TX6) (N := 5) hx hb hts inX6 tyX6 tyX6_ok nmX6 hown hK hP hD hS 0 rfl rfl 0 (by decide) f15 (fun _ h9 => h9) rfl hin rfl (by decide +kernel) rfl rfl (Nat.le_of_ble_eq_true rfl) dX6_init_11 (fun H locs hP hD hS => ?_)
  have hP : va_P g.1 vwCl [(h0, .inr (6, [.ref q_4, .null, .null, .null, .int 0])), (aI g q_4 24 (fun _ => 0))] H := hP
  have hD : va_D A [(h0, .inr (6, [.ref q_4, .null, .null, .null, .int 0])), (aI g q_4 24 (fun _ => 0))] := hD
  refine lv_aload_n hx hb dX6_init_14 rfl (lv_at hl 0 rfl) ?_
  refine lv_bipush (v := 10) hx hb dX6_init_15 (by decide) ?_
  refine he_newi hx hb harr_int hK hP hD hS hA 10 (by decide) (by decide) (by decide) (Nat.le_of_ble_eq_true rfl) (Nat.le_of_ble_eq_true rfl) dX6_init_17 (fun q_5 H hP hD hS => ?_)
  have hP : va_P g.1 vwCl [(h0, .inr (6, [.ref q_4, .null, .null, .null, .int 0])), (aI g q_4 24 (fun _ => 0)), (aI g q_5 10 (fun _ => 0))] H := hP
  have hD : va_D A [(h0, .inr (6, [.ref q_4, .null, .null, .null, .int 0])), (aI g q_4 24 (fun _ => 0)), (aI g q_5 10 (fun _ => 0))] := hD
  refine W.widen (k := 2) (n := 34) (Nat.le_of_ble_eq_true rfl) (Nat.le_of_ble_eq_true rfl) ?_
  refine va_putF (v := .ref q_5) (ty := tyX6 1) (T := TX6) (N := 5) hx hb hts inX6 tyX6 tyX6_ok nmX6 hown hK hP hD hS 0 rfl rfl 1 (by decide) f18 (fun _ h9 => h9) rfl hin rfl (by decide +kernel) rfl rfl (Nat.le_of_ble_eq_true rfl) dX6_init_19 (fun H locs hP hD hS => ?_)
  have hP : va_P g.1 vwCl [(h0, .inr (6, [.ref q_4, .ref q_5, .null, .null, .int 0])), (aI g q_4 24 (fun _ => 0)), (aI g q_5 10 (fun _ => 0))] H := hP
  have hD : va_D A [(h0, .inr (6, [.ref q_4, .ref q_5, .null, .null, .int 0])), (aI g q_4 24 (fun _ => 0)), (aI g q_5 10 (fun _ => 0))] := hD
  refine lv_aload_n hx hb dX6_init_22 rfl (lv_at hl 0 rfl) ?_
  refine lv_bipush (v := 6) hx hb dX6_init_23 (by decide) ?_
  refine he_newi hx hb harr_int hK hP hD hS hA 6 (by decide) (by decide) (by decide) (Nat.le_of_ble_eq_true rfl) (Nat.le_of_ble_eq_true rfl) dX6_init_25 (fun q_6 H hP hD hS => ?_)
  have hP : va_P g.1 vwCl [(h0, .inr (6, [.ref q_4, .ref q_5, .null, .null, .int 0])), (aI g q_4 24 (fun _ => 0)), (aI g q_5 10 (fun _ => 0)), (aI g q_6 6 (fun _ => 0))] H := hP
  have hD : va_D A [(h0, .inr (6, [.ref q_4, .ref q_5, .null, .null, .int 0])), (aI g q_4 24 (fun _ => 0)), (aI g q_5 10 (fun _ => 0)), (aI g q_6 6 (fun _ => 0))] := hD
  refine W.widen (k := 3) (n := 40) (Nat.le_of_ble_eq_true rfl) (Nat.le_of_ble_eq_true rfl) ?_
  refine va_putF (v := .ref q_6) (ty := tyX6 2) (T := TX6) (N := 5) hx hb hts inX6 tyX6 tyX6_ok nmX6 hown hK hP hD hS 0 rfl rfl 2 (by decide) f21 (fun _ h9 => h9) rfl hin rfl (by decide +kernel) rfl rfl (Nat.le_of_ble_eq_true rfl) dX6_init_27 (fun H locs hP hD hS => ?_)
  have hP : va_P g.1 vwCl [(h0, .inr (6, [.ref q_4, .ref q_5, .ref q_6, .null, .int 0])), (aI g q_4 24 (fun _ => 0)), (aI g q_5 10 (fun _ => 0)), (aI g q_6 6 (fun _ => 0))] H := hP
  have hD : va_D A [(h0, .inr (6, [.ref q_4, .ref q_5, .ref q_6, .null, .int 0])), (aI g q_4 24 (fun _ => 0)), (aI g q_5 10 (fun _ => 0)), (aI g q_6 6 (fun _ => 0))] := hD
  refine lv_aload_n hx hb dX6_init_30 rfl (lv_at hl 0 rfl) ?_
  refine lv_bipush (v := 6) hx hb dX6_init_31 (by decide) ?_
  refine he_newi hx hb harr_int hK hP hD hS hA 6 (by decide) (by decide) (by decide) (Nat.le_of_ble_eq_true rfl) (Nat.le_of_ble_eq_true rfl) dX6_init_33 (fun q_7 H hP hD hS => ?_)
  have hP : va_P g.1 vwCl [(h0, .inr (6, [.ref q_4, .ref q_5, .ref q_6, .null, .int 0])), (aI g q_4 24 (fun _ => 0)), (aI g q_5 10 (fun _ => 0)), (aI g q_6 6 (fun _ => 0)), (aI g q_7 6 (fun _ => 0))] H := hP
  have hD : va_D A [(h0, .inr (6, [.ref q_4, .ref q_5, .ref q_6, .null, .int 0])), (aI g q_4 24 (fun _ => 0)), (aI g q_5 10 (fun _ => 0)), (aI g q_6 6 (fun _ => 0)), (aI g q_7 6 (fun _ => 0))] := hD
  refine W.widen (k := 4) (n := 46) (Nat.le_of_ble_eq_true rfl) (Nat.le_of_ble_eq_true rfl) ?_
  refine va_putF (v := .ref q_7) (ty := tyX6 3) (T := TX6) (N := 5) hx hb hts inX6 tyX6 tyX6_ok nmX6 hown hK hP hD hS 0 rfl rfl 3 (by decide) f24 (fun _ h9 => h9) rfl hin rfl (by decide +kernel) rfl rfl (Nat.le_of_ble_eq_true rfl) dX6_init_35 (fun H locs hP hD hS => ?_)
  have hP : va_P g.1 vwCl [(oX6 h0 q_4 q_5 q_6 q_7 0), (aI g q_4 24 (fun _ => 0)), (aI g q_5 10 (fun _ => 0)), (aI g q_6 6 (fun _ => 0)), (aI g q_7 6 (fun _ => 0))] H := hP
  have hD : va_D A [(oX6 h0 q_4 q_5 q_6 q_7 0), (aI g q_4 24 (fun _ => 0)), (aI g q_5 10 (fun _ => 0)), (aI g q_6 6 (fun _ => 0)), (aI g q_7 6 (fun _ => 0))] := hD
  refine lv_aload_n hx hb dX6_init_38 rfl (lv_at hl 0 rfl) ?_
  refine he_cv (wc := [(oX6 h0 q_4 q_5 q_6 q_7 0), (aI g q_4 24 (fun _ => 0)), (aI g q_5 10 (fun _ => 0))]) (wr := [(aI g q_6 6 (fun _ => 0)), (aI g q_7 6 (fun _ => 0))]) (va_runV (As := []) (rest := []) ⟨hx, hb, hml, hown, hts⟩ (c_X6_clear l g h0 q_4 q_5 q_6 q_7 0 (fun _ => 0) (fun _ => 0) H.size) (cwV 0 hts gX6_init_X6_clear rfl rfl rfl (by decide +kernel) ⟨Nat.le_of_ble_eq_true rfl, Nat.le_of_ble_eq_true rfl⟩) (he_preV (wc := [(oX6 h0 q_4 q_5 q_6 q_7 0), (aI g q_4 24 (fun _ => 0)), (aI g q_5 10 (fun _ => 0))]) hK hP hD hS hA hE [0, 1, 2] rfl rfl 0 rfl rfl) rfl rfl hl.1 rfl (lv_room (Nat.le_of_ble_eq_true rfl)) dX6_init_39 ⟨(Nat.le_of_ble_eq_true rfl), (Nat.le_of_ble_eq_true rfl)⟩) hP hD hS hA [0, 1, 2] [3, 4] rfl rfl rfl (by decide) (fun u_9 H locs h_10 hP hD hS => ?_)
  have hP : va_P g.1 vwCl [(aI g q_6 6 (fun _ => 0)), (aI g q_7 6 (fun _ => 0)), (oX6 h0 q_4 q_5 q_6 q_7 0), (aI g q_4 24 (flF unF (fun _ => 0) 24)), (aI g q_5 10 (flF nrF (fun _ => 0) 10))] H := hP
  have hD : va_D A [(aI g q_6 6 (fun _ => 0)), (aI g q_7 6 (fun _ => 0)), (oX6 h0 q_4 q_5 q_6 q_7 0), (aI g q_4 24 (flF unF (fun _ => 0) 24)), (aI g q_5 10 (flF nrF (fun _ => 0) 10))] := hD
  have hP := hP.sub (ws' := [(oX6 h0 q_4 q_5 q_6 q_7 0), (aI g q_4 24 (flF unF (fun _ => 0) 24)), (aI g q_5 10 (flF nrF (fun _ => 0) 10)), (aI g q_6 6 (fun _ => 0)), (aI g q_7 6 (fun _ => 0))]) [2, 3, 4, 0, 1] rfl
  have hD := hD.sub (ws' := [(oX6 h0 q_4 q_5 q_6 q_7 0), (aI g q_4 24 (flF unF (fun _ => 0) 24)), (aI g q_5 10 (flF nrF (fun _ => 0) 10)), (aI g q_6 6 (fun _ => 0)), (aI g q_7 6 (fun _ => 0))]) [2, 3, 4, 0, 1] (by decide) rfl
  exact he_rv hQ hx hb hr hlk hP hD hS dX6_init_42 (Nat.le_of_ble_eq_true rfl) (Nat.le_of_ble_eq_true rfl) ((q_4, q_5, q_6, q_7)) (rfl) (trivial)
set_option maxHeartbeats 4000000 in
set_option maxRecDepth 100000 in
theorem c_X8_init (l : Launch) (g : he_G) (h0 : Nat)  : he_V l yX8_init wsX8_init 2 32 11 3726 g [.ref h0] [(h0, .inr (8, [.null, .null, .null, .null]))] (fun (u : Nat × Nat × Nat × Nat × Nat × Nat × Nat × Nat × Nat × Nat × Nat) => True) (fun (u : Nat × Nat × Nat × Nat × Nat × Nat × Nat × Nat × Nat × Nat × Nat) => [(oX8 h0 u.1 u.2.2.2.1 u.2.2.2.2.2.1 u.2.2.2.2.2.2.2.2.1), (oX4 u.1 u.2.1 u.2.2.1 0), (aI g u.2.1 24 (fun _ => 0)), (aI g u.2.2.1 6 (fun _ => 0)), (oX0 u.2.2.2.1 u.2.2.2.2.1), (aI g u.2.2.2.2.1 3600 (fun _ => 0)), (oX2 u.2.2.2.2.2.1 u.2.2.2.2.2.2.1 u.2.2.2.2.2.2.2.1 1 1 1 1 0), (aI g u.2.2.2.2.2.2.1 4 (upd (upd (upd (upd (fun _ => 0) 0 8) 1 8) 2 8) 3 8)), (aI g u.2.2.2.2.2.2.2.1 4 (upd (upd (upd (upd (fun _ => 0) 0 8) 1 8) 2 8) 3 8)), (oX3 u.2.2.2.2.2.2.2.2.1 u.2.2.2.2.2.2.2.2.2.1 u.2.2.2.2.2.2.2.2.2.2), (aI g u.2.2.2.2.2.2.2.2.2.1 36 (fun _ => 0)), (aI g u.2.2.2.2.2.2.2.2.2.2 39 (fun _ => 0))]) := by
  refine he_begin (l := l) (g := g) (y := yX8_init) (wl := wsX8_init) (fr := 2) (lo := 32) (mc := 11) (ms := 3726) (av := [.ref h0]) (ws := [(h0, .inr (8, [.null, .null, .null, .null]))]) (cc := cX8_init) (maxL := 1) (ret := none) (fun A => va_Qv (fun (u : Nat × Nat × Nat × Nat × Nat × Nat × Nat × Nat × Nat × Nat × Nat) => True) (fun u t => he_post g A ((fun (u : Nat × Nat × Nat × Nat × Nat × Nat × Nat × Nat × Nat × Nat × Nat) => [(oX8 h0 u.1 u.2.2.2.1 u.2.2.2.2.2.1 u.2.2.2.2.2.2.2.2.1), (oX4 u.1 u.2.1 u.2.2.1 0), (aI g u.2.1 24 (fun _ => 0)), (aI g u.2.2.1 6 (fun _ => 0)), (oX0 u.2.2.2.1 u.2.2.2.2.1), (aI g u.2.2.2.2.1 3600 (fun _ => 0)), (oX2 u.2.2.2.2.2.1 u.2.2.2.2.2.2.1 u.2.2.2.2.2.2.2.1 1 1 1 1 0), (aI g u.2.2.2.2.2.2.1 4 (upd (upd (upd (upd (fun _ => 0) 0 8) 1 8) 2 8) 3 8)), (aI g u.2.2.2.2.2.2.2.1 4 (upd (upd (upd (upd (fun _ => 0) 0 8) 1 8) 2 8) 3 8)), (oX3 u.2.2.2.2.2.2.2.2.1 u.2.2.2.2.2.2.2.2.2.1 u.2.2.2.2.2.2.2.2.2.2), (aI g u.2.2.2.2.2.2.2.2.2.1 36 (fun _ => 0)), (aI g u.2.2.2.2.2.2.2.2.2.2 39 (fun _ => 0))]) u) t) A) (by decide) rfl (Nat.le_of_ble_eq_true rfl) ?_
  intro p e s m args below meth c A ls H locs Q hQ hB
  obtain ⟨hx, hb, hr, hml, hown, hts, hlk, hin, hP, hK, hD, hS, hA, hE, hl⟩ := hB
  have hl : lv_has ls 1 [(0, .ref h0)] := hl
  have oi1 := hts (.methodLink RX8 1 objectInit) (iwoX8_init (k := 0) rfl)
  have oim := hts (.instanceMethod objectInit) (iwoX8_init (k := 1) rfl)
  have oic := hts (.code objectInit ⟨#[0xb1]⟩ 1 none) (by decide +kernel)
  have cl7 := hts (.classLink RX8 7 RX4) (iwoX8_init (k := 2) rfl)
  have instX4 := hts (.instantiable RX4 3) (iwoX8_init (k := 3) rfl)
  have iniX4 := hts (.initialized RX4) (iwoX8_init (k := 4) rfl)
  have inX4 : ∀ w ∈ wsX40, w ∈ wsX8_init := innX8_init_X4
  have nl9 := hE.nest (RX8, 9, yX4_init) (by decide +kernel)
  have im_yX4_init := hts (.instanceMethod yX4_init) (iwoX8_init (k := 18) rfl)
  have f10 := hts (.fieldLink RX8 10 "HiredEnemy$Scene" "course" "LHiredEnemy$Course;") (iwoX8_init (k := 5) rfl)
  have inX8 : ∀ w ∈ wsX80, w ∈ wsX8_init := innX8_init_X8
  have cl16 := hts (.classLink RX8 16 RX0) (iwoX8_init (k := 6) rfl)
  have instX0 := hts (.instantiable RX0 1) (iwoX8_init (k := 7) rfl)
  have iniX0 := hts (.initialized RX0) (iwoX8_init (k := 8) rfl)
  have inX0 : ∀ w ∈ wsX00, w ∈ wsX8_init := innX8_init_X0
  have nl18 := hE.nest (RX8, 18, yX0_init) (by decide +kernel)
  have im_yX0_init := hts (.instanceMethod yX0_init) (iwoX8_init (k := 20) rfl)
  have f19 := hts (.fieldLink RX8 19 "HiredEnemy$Scene" "annals" "LHiredEnemy$Annals;") (iwoX8_init (k := 9) rfl)
  have cl23 := hts (.classLink RX8 23 RX2) (iwoX8_init (k := 10) rfl)
  have instX2 := hts (.instantiable RX2 7) (iwoX8_init (k := 11) rfl)
  have iniX2 := hts (.initialized RX2) (iwoX8_init (k := 12) rfl)
  have inX2 : ∀ w ∈ wsX20, w ∈ wsX8_init := innX8_init_X2
  have nl25 := hE.nest (RX8, 25, yX2_init) (by decide +kernel)
  have im_yX2_init := hts (.instanceMethod yX2_init) (iwoX8_init (k := 21) rfl)
  have f26 := hts (.fieldLink RX8 26 "HiredEnemy$Scene" "belief" "LHiredEnemy$Belief;") (iwoX8_init (k := 13) rfl)
  have cl30 := hts (.classLink RX8 30 RX3) (iwoX8_init (k := 14) rfl)
  have instX3 := hts (.instantiable RX3 2) (iwoX8_init (k := 15) rfl)
  have iniX3 := hts (.initialized RX3) (iwoX8_init (k := 16) rfl)
  have inX3 : ∀ w ∈ wsX30, w ∈ wsX8_init := innX8_init_X3
  have nl32 := hE.nest (RX8, 32, yX3_init) (by decide +kernel)
  have im_yX3_init := hts (.instanceMethod yX3_init) (iwoX8_init (k := 22) rfl)
  have f33 := hts (.fieldLink RX8 33 "HiredEnemy$Scene" "bids" "LHiredEnemy$Bids;") (iwoX8_init (k := 17) rfl)
  refine lv_aload_n hx hb dX8_init_0 rfl (lv_at hl 0 rfl) ?_
  refine W.objInit hx hb hown oi1 oim oic rfl (by rw [hml]; exact hl.1) rfl dX8_init_1 (Nat.le_of_ble_eq_true rfl) (Nat.le_of_ble_eq_true rfl) ?_
  refine W.eq (g2 := F0 m 4 ls []) rfl ?_
  refine lv_aload_n hx hb dX8_init_4 rfl (lv_at hl 0 rfl) ?_
  refine va_new (ci := 4) (fs := [.null, .null, .int 0]) (T := TX4) (N := 3) hx hb hts inX4 tyX4 tyX4_ok hown cl7 instX4 iniX4 hK hP hD hS hA rfl (by decide) (Nat.le_of_ble_eq_true rfl) (Nat.le_of_ble_eq_true rfl) dX8_init_5 (fun q_1 H hP hD hS => ?_)
  have hP : va_P g.1 vwCl [(h0, .inr (8, [.null, .null, .null, .null])), (q_1, .inr (4, [.null, .null, .int 0]))] H := hP
  have hD : va_D A [(h0, .inr (8, [.null, .null, .null, .null])), (q_1, .inr (4, [.null, .null, .int 0]))] := hD
  refine W.widen (k := 1) (n := 3) (Nat.le_of_ble_eq_true rfl) (Nat.le_of_ble_eq_true rfl) ?_
  refine lv_dup hx hb dX8_init_8 rfl ?_
  refine he_cv (wc := [(q_1, .inr (4, [.null, .null, .int 0]))]) (wr := [(h0, .inr (8, [.null, .null, .null, .null]))]) (va_runIN (As := []) (rest := [.ref q_1, .ref h0]) ⟨hx, hb, hml, hown, hts⟩ (c_X4_init l g q_1 H.size) ⟨(va_cnB 0 hts gX8_init_X4_init_n9 rfl rfl rfl nl9 iniX4 (by decide +kernel) ⟨Nat.le_of_ble_eq_true rfl, Nat.le_of_ble_eq_true rfl⟩), rfl, im_yX4_init⟩ (he_preS (wc := [(q_1, .inr (4, [.null, .null, .int 0]))]) hK hP hD hS hA hE [1] rfl rfl) rfl rfl hl.1 rfl (lv_room (Nat.le_of_ble_eq_true rfl)) dX8_init_9 ⟨(Nat.le_of_ble_eq_true rfl), (Nat.le_of_ble_eq_true rfl)⟩) hP hD hS hA [1] [0] rfl rfl rfl (by decide) (fun u_3 H locs h_4 hP hD hS => ?_)
  obtain ⟨q0_5, q1_6⟩ := u_3
  have hP : va_P g.1 vwCl [(h0, .inr (8, [.null, .null, .null, .null])), (oX4 q_1 q0_5 q1_6 0), (aI g q0_5 24 (fun _ => 0)), (aI g q1_6 6 (fun _ => 0))] H := hP
  have hD : va_D A [(h0, .inr (8, [.null, .null, .null, .null])), (oX4 q_1 q0_5 q1_6 0), (aI g q0_5 24 (fun _ => 0)), (aI g q1_6 6 (fun _ => 0))] := hD
  refine W.widen (k := 3) (n := 33) (Nat.le_of_ble_eq_true rfl) (Nat.le_of_ble_eq_true rfl) ?_
  refine va_putF (v := .ref q_1) (ty := tyX8 0) (T := TX8) (N := 4) hx hb hts inX8 tyX8 tyX8_ok nmX8 hown hK hP hD hS 0 rfl rfl 0 (by decide) f10 (fun _ h9 => h9) rfl hin rfl (by decide +kernel) rfl rfl (Nat.le_of_ble_eq_true rfl) dX8_init_12 (fun H locs hP hD hS => ?_)
  have hP : va_P g.1 vwCl [(h0, .inr (8, [.ref q_1, .null, .null, .null])), (oX4 q_1 q0_5 q1_6 0), (aI g q0_5 24 (fun _ => 0)), (aI g q1_6 6 (fun _ => 0))] H := hP
  have hD : va_D A [(h0, .inr (8, [.ref q_1, .null, .null, .null])), (oX4 q_1 q0_5 q1_6 0), (aI g q0_5 24 (fun _ => 0)), (aI g q1_6 6 (fun _ => 0))] := hD
  refine lv_aload_n hx hb dX8_init_15 rfl (lv_at hl 0 rfl) ?_
  refine va_new (ci := 0) (fs := [.null]) (T := TX0) (N := 1) hx hb hts inX0 tyX0 tyX0_ok hown cl16 instX0 iniX0 hK hP hD hS hA rfl (by decide) (Nat.le_of_ble_eq_true rfl) (Nat.le_of_ble_eq_true rfl) dX8_init_16 (fun q_7 H hP hD hS => ?_)
  have hP : va_P g.1 vwCl [(h0, .inr (8, [.ref q_1, .null, .null, .null])), (oX4 q_1 q0_5 q1_6 0), (aI g q0_5 24 (fun _ => 0)), (aI g q1_6 6 (fun _ => 0)), (q_7, .inr (0, [.null]))] H := hP
  have hD : va_D A [(h0, .inr (8, [.ref q_1, .null, .null, .null])), (oX4 q_1 q0_5 q1_6 0), (aI g q0_5 24 (fun _ => 0)), (aI g q1_6 6 (fun _ => 0)), (q_7, .inr (0, [.null]))] := hD
  refine W.widen (k := 4) (n := 34) (Nat.le_of_ble_eq_true rfl) (Nat.le_of_ble_eq_true rfl) ?_
  refine lv_dup hx hb dX8_init_19 rfl ?_
  refine he_cv (wc := [(q_7, .inr (0, [.null]))]) (wr := [(h0, .inr (8, [.ref q_1, .null, .null, .null])), (oX4 q_1 q0_5 q1_6 0), (aI g q0_5 24 (fun _ => 0)), (aI g q1_6 6 (fun _ => 0))]) (va_runIN (As := []) (rest := [.ref q_7, .ref h0]) ⟨hx, hb, hml, hown, hts⟩ (c_X0_init l g q_7 H.size) ⟨(va_cnB 0 hts gX8_init_X0_init_n18 rfl rfl rfl nl18 iniX0 (by decide +kernel) ⟨Nat.le_of_ble_eq_true rfl, Nat.le_of_ble_eq_true rfl⟩), rfl, im_yX0_init⟩ (he_preS (wc := [(q_7, .inr (0, [.null]))]) hK hP hD hS hA hE [4] rfl rfl) rfl rfl hl.1 rfl (lv_room (Nat.le_of_ble_eq_true rfl)) dX8_init_20 ⟨(Nat.le_of_ble_eq_true rfl), (Nat.le_of_ble_eq_true rfl)⟩) hP hD hS hA [4] [0, 1, 2, 3] rfl rfl rfl (by decide) (fun u_9 H locs h_10 hP hD hS => ?_)
  obtain ⟨q0_11, rfl⟩ : ∃ z, z = u_9 := ⟨_, rfl⟩
  have hP : va_P g.1 vwCl [(h0, .inr (8, [.ref q_1, .null, .null, .null])), (oX4 q_1 q0_5 q1_6 0), (aI g q0_5 24 (fun _ => 0)), (aI g q1_6 6 (fun _ => 0)), (oX0 q_7 q0_11), (aI g q0_11 3600 (fun _ => 0))] H := hP
  have hD : va_D A [(h0, .inr (8, [.ref q_1, .null, .null, .null])), (oX4 q_1 q0_5 q1_6 0), (aI g q0_5 24 (fun _ => 0)), (aI g q1_6 6 (fun _ => 0)), (oX0 q_7 q0_11), (aI g q0_11 3600 (fun _ => 0))] := hD
  refine W.widen (k := 5) (n := 3634) (Nat.le_of_ble_eq_true rfl) (Nat.le_of_ble_eq_true rfl) ?_
  refine va_putF (v := .ref q_7) (ty := tyX8 1) (T := TX8) (N := 4) hx hb hts inX8 tyX8 tyX8_ok nmX8 hown hK hP hD hS 0 rfl rfl 1 (by decide) f19 (fun _ h9 => h9) rfl hin rfl (by decide +kernel) rfl rfl (Nat.le_of_ble_eq_true rfl) dX8_init_23 (fun H locs hP hD hS => ?_)
  have hP : va_P g.1 vwCl [(h0, .inr (8, [.ref q_1, .ref q_7, .null, .null])), (oX4 q_1 q0_5 q1_6 0), (aI g q0_5 24 (fun _ => 0)), (aI g q1_6 6 (fun _ => 0)), (oX0 q_7 q0_11), (aI g q0_11 3600 (fun _ => 0))] H := hP
  have hD : va_D A [(h0, .inr (8, [.ref q_1, .ref q_7, .null, .null])), (oX4 q_1 q0_5 q1_6 0), (aI g q0_5 24 (fun _ => 0)), (aI g q1_6 6 (fun _ => 0)), (oX0 q_7 q0_11), (aI g q0_11 3600 (fun _ => 0))] := hD
  refine lv_aload_n hx hb dX8_init_26 rfl (lv_at hl 0 rfl) ?_
  refine va_new (ci := 2) (fs := [.null, .null, .int 0, .int 0, .long 0, .long 0, .int 0]) (T := TX2) (N := 7) hx hb hts inX2 tyX2 tyX2_ok hown cl23 instX2 iniX2 hK hP hD hS hA rfl (by decide) (Nat.le_of_ble_eq_true rfl) (Nat.le_of_ble_eq_true rfl) dX8_init_27 (fun q_12 H hP hD hS => ?_)
  have hP : va_P g.1 vwCl [(h0, .inr (8, [.ref q_1, .ref q_7, .null, .null])), (oX4 q_1 q0_5 q1_6 0), (aI g q0_5 24 (fun _ => 0)), (aI g q1_6 6 (fun _ => 0)), (oX0 q_7 q0_11), (aI g q0_11 3600 (fun _ => 0)), (q_12, .inr (2, [.null, .null, .int 0, .int 0, .long 0, .long 0, .int 0]))] H := hP
  have hD : va_D A [(h0, .inr (8, [.ref q_1, .ref q_7, .null, .null])), (oX4 q_1 q0_5 q1_6 0), (aI g q0_5 24 (fun _ => 0)), (aI g q1_6 6 (fun _ => 0)), (oX0 q_7 q0_11), (aI g q0_11 3600 (fun _ => 0)), (q_12, .inr (2, [.null, .null, .int 0, .int 0, .long 0, .long 0, .int 0]))] := hD
  refine W.widen (k := 6) (n := 3641) (Nat.le_of_ble_eq_true rfl) (Nat.le_of_ble_eq_true rfl) ?_
  refine lv_dup hx hb dX8_init_30 rfl ?_
  refine he_cv (wc := [(q_12, .inr (2, [.null, .null, .int 0, .int 0, .long 0, .long 0, .int 0]))]) (wr := [(h0, .inr (8, [.ref q_1, .ref q_7, .null, .null])), (oX4 q_1 q0_5 q1_6 0), (aI g q0_5 24 (fun _ => 0)), (aI g q1_6 6 (fun _ => 0)), (oX0 q_7 q0_11), (aI g q0_11 3600 (fun _ => 0))]) (va_runIN (As := []) (rest := [.ref q_12, .ref h0]) ⟨hx, hb, hml, hown, hts⟩ (c_X2_init l g q_12 H.size) ⟨(va_cnB 0 hts gX8_init_X2_init_n25 rfl rfl rfl nl25 iniX2 (by decide +kernel) ⟨Nat.le_of_ble_eq_true rfl, Nat.le_of_ble_eq_true rfl⟩), rfl, im_yX2_init⟩ (he_preS (wc := [(q_12, .inr (2, [.null, .null, .int 0, .int 0, .long 0, .long 0, .int 0]))]) hK hP hD hS hA hE [6] rfl rfl) rfl rfl hl.1 rfl (lv_room (Nat.le_of_ble_eq_true rfl)) dX8_init_31 ⟨(Nat.le_of_ble_eq_true rfl), (Nat.le_of_ble_eq_true rfl)⟩) hP hD hS hA [6] [0, 1, 2, 3, 4, 5] rfl rfl rfl (by decide) (fun u_14 H locs h_15 hP hD hS => ?_)
  obtain ⟨q0_16, q1_17⟩ := u_14
  have hP : va_P g.1 vwCl [(h0, .inr (8, [.ref q_1, .ref q_7, .null, .null])), (oX4 q_1 q0_5 q1_6 0), (aI g q0_5 24 (fun _ => 0)), (aI g q1_6 6 (fun _ => 0)), (oX0 q_7 q0_11), (aI g q0_11 3600 (fun _ => 0)), (oX2 q_12 q0_16 q1_17 1 1 1 1 0), (aI g q0_16 4 (upd (upd (upd (upd (fun _ => 0) 0 8) 1 8) 2 8) 3 8)), (aI g q1_17 4 (upd (upd (upd (upd (fun _ => 0) 0 8) 1 8) 2 8) 3 8))] H := hP
  have hD : va_D A [(h0, .inr (8, [.ref q_1, .ref q_7, .null, .null])), (oX4 q_1 q0_5 q1_6 0), (aI g q0_5 24 (fun _ => 0)), (aI g q1_6 6 (fun _ => 0)), (oX0 q_7 q0_11), (aI g q0_11 3600 (fun _ => 0)), (oX2 q_12 q0_16 q1_17 1 1 1 1 0), (aI g q0_16 4 (upd (upd (upd (upd (fun _ => 0) 0 8) 1 8) 2 8) 3 8)), (aI g q1_17 4 (upd (upd (upd (upd (fun _ => 0) 0 8) 1 8) 2 8) 3 8))] := hD
  refine W.widen (k := 8) (n := 3649) (Nat.le_of_ble_eq_true rfl) (Nat.le_of_ble_eq_true rfl) ?_
  refine va_putF (v := .ref q_12) (ty := tyX8 2) (T := TX8) (N := 4) hx hb hts inX8 tyX8 tyX8_ok nmX8 hown hK hP hD hS 0 rfl rfl 2 (by decide) f26 (fun _ h9 => h9) rfl hin rfl (by decide +kernel) rfl rfl (Nat.le_of_ble_eq_true rfl) dX8_init_34 (fun H locs hP hD hS => ?_)
  have hP : va_P g.1 vwCl [(h0, .inr (8, [.ref q_1, .ref q_7, .ref q_12, .null])), (oX4 q_1 q0_5 q1_6 0), (aI g q0_5 24 (fun _ => 0)), (aI g q1_6 6 (fun _ => 0)), (oX0 q_7 q0_11), (aI g q0_11 3600 (fun _ => 0)), (oX2 q_12 q0_16 q1_17 1 1 1 1 0), (aI g q0_16 4 (upd (upd (upd (upd (fun _ => 0) 0 8) 1 8) 2 8) 3 8)), (aI g q1_17 4 (upd (upd (upd (upd (fun _ => 0) 0 8) 1 8) 2 8) 3 8))] H := hP
  have hD : va_D A [(h0, .inr (8, [.ref q_1, .ref q_7, .ref q_12, .null])), (oX4 q_1 q0_5 q1_6 0), (aI g q0_5 24 (fun _ => 0)), (aI g q1_6 6 (fun _ => 0)), (oX0 q_7 q0_11), (aI g q0_11 3600 (fun _ => 0)), (oX2 q_12 q0_16 q1_17 1 1 1 1 0), (aI g q0_16 4 (upd (upd (upd (upd (fun _ => 0) 0 8) 1 8) 2 8) 3 8)), (aI g q1_17 4 (upd (upd (upd (upd (fun _ => 0) 0 8) 1 8) 2 8) 3 8))] := hD
  refine lv_aload_n hx hb dX8_init_37 rfl (lv_at hl 0 rfl) ?_
  refine va_new (ci := 3) (fs := [.null, .null]) (T := TX3) (N := 2) hx hb hts inX3 tyX3 tyX3_ok hown cl30 instX3 iniX3 hK hP hD hS hA rfl (by decide) (Nat.le_of_ble_eq_true rfl) (Nat.le_of_ble_eq_true rfl) dX8_init_38 (fun q_18 H hP hD hS => ?_)
  have hP : va_P g.1 vwCl [(h0, .inr (8, [.ref q_1, .ref q_7, .ref q_12, .null])), (oX4 q_1 q0_5 q1_6 0), (aI g q0_5 24 (fun _ => 0)), (aI g q1_6 6 (fun _ => 0)), (oX0 q_7 q0_11), (aI g q0_11 3600 (fun _ => 0)), (oX2 q_12 q0_16 q1_17 1 1 1 1 0), (aI g q0_16 4 (upd (upd (upd (upd (fun _ => 0) 0 8) 1 8) 2 8) 3 8)), (aI g q1_17 4 (upd (upd (upd (upd (fun _ => 0) 0 8) 1 8) 2 8) 3 8)), (q_18, .inr (3, [.null, .null]))] H := hP
  have hD : va_D A [(h0, .inr (8, [.ref q_1, .ref q_7, .ref q_12, .null])), (oX4 q_1 q0_5 q1_6 0), (aI g q0_5 24 (fun _ => 0)), (aI g q1_6 6 (fun _ => 0)), (oX0 q_7 q0_11), (aI g q0_11 3600 (fun _ => 0)), (oX2 q_12 q0_16 q1_17 1 1 1 1 0), (aI g q0_16 4 (upd (upd (upd (upd (fun _ => 0) 0 8) 1 8) 2 8) 3 8)), (aI g q1_17 4 (upd (upd (upd (upd (fun _ => 0) 0 8) 1 8) 2 8) 3 8)), (q_18, .inr (3, [.null, .null]))] := hD
  refine W.widen (k := 9) (n := 3651) (Nat.le_of_ble_eq_true rfl) (Nat.le_of_ble_eq_true rfl) ?_
  refine lv_dup hx hb dX8_init_41 rfl ?_
  refine he_cv (wc := [(q_18, .inr (3, [.null, .null]))]) (wr := [(h0, .inr (8, [.ref q_1, .ref q_7, .ref q_12, .null])), (oX4 q_1 q0_5 q1_6 0), (aI g q0_5 24 (fun _ => 0)), (aI g q1_6 6 (fun _ => 0)), (oX0 q_7 q0_11), (aI g q0_11 3600 (fun _ => 0)), (oX2 q_12 q0_16 q1_17 1 1 1 1 0), (aI g q0_16 4 (upd (upd (upd (upd (fun _ => 0) 0 8) 1 8) 2 8) 3 8)), (aI g q1_17 4 (upd (upd (upd (upd (fun _ => 0) 0 8) 1 8) 2 8) 3 8))]) (va_runIN (As := []) (rest := [.ref q_18, .ref h0]) ⟨hx, hb, hml, hown, hts⟩ (c_X3_init l g q_18 H.size) ⟨(va_cnB 0 hts gX8_init_X3_init_n32 rfl rfl rfl nl32 iniX3 (by decide +kernel) ⟨Nat.le_of_ble_eq_true rfl, Nat.le_of_ble_eq_true rfl⟩), rfl, im_yX3_init⟩ (he_preS (wc := [(q_18, .inr (3, [.null, .null]))]) hK hP hD hS hA hE [9] rfl rfl) rfl rfl hl.1 rfl (lv_room (Nat.le_of_ble_eq_true rfl)) dX8_init_42 ⟨(Nat.le_of_ble_eq_true rfl), (Nat.le_of_ble_eq_true rfl)⟩) hP hD hS hA [9] [0, 1, 2, 3, 4, 5, 6, 7, 8] rfl rfl rfl (by decide) (fun u_20 H locs h_21 hP hD hS => ?_)
  obtain ⟨q0_22, q1_23⟩ := u_20
  have hP : va_P g.1 vwCl [(h0, .inr (8, [.ref q_1, .ref q_7, .ref q_12, .null])), (oX4 q_1 q0_5 q1_6 0), (aI g q0_5 24 (fun _ => 0)), (aI g q1_6 6 (fun _ => 0)), (oX0 q_7 q0_11), (aI g q0_11 3600 (fun _ => 0)), (oX2 q_12 q0_16 q1_17 1 1 1 1 0), (aI g q0_16 4 (upd (upd (upd (upd (fun _ => 0) 0 8) 1 8) 2 8) 3 8)), (aI g q1_17 4 (upd (upd (upd (upd (fun _ => 0) 0 8) 1 8) 2 8) 3 8)), (oX3 q_18 q0_22 q1_23), (aI g q0_22 36 (fun _ => 0)), (aI g q1_23 39 (fun _ => 0))] H := hP
  have hD : va_D A [(h0, .inr (8, [.ref q_1, .ref q_7, .ref q_12, .null])), (oX4 q_1 q0_5 q1_6 0), (aI g q0_5 24 (fun _ => 0)), (aI g q1_6 6 (fun _ => 0)), (oX0 q_7 q0_11), (aI g q0_11 3600 (fun _ => 0)), (oX2 q_12 q0_16 q1_17 1 1 1 1 0), (aI g q0_16 4 (upd (upd (upd (upd (fun _ => 0) 0 8) 1 8) 2 8) 3 8)), (aI g q1_17 4 (upd (upd (upd (upd (fun _ => 0) 0 8) 1 8) 2 8) 3 8)), (oX3 q_18 q0_22 q1_23), (aI g q0_22 36 (fun _ => 0)), (aI g q1_23 39 (fun _ => 0))] := hD
  refine W.widen (k := 11) (n := 3726) (Nat.le_of_ble_eq_true rfl) (Nat.le_of_ble_eq_true rfl) ?_
  refine va_putF (v := .ref q_18) (ty := tyX8 3) (T := TX8) (N := 4) hx hb hts inX8 tyX8 tyX8_ok nmX8 hown hK hP hD hS 0 rfl rfl 3 (by decide) f33 (fun _ h9 => h9) rfl hin rfl (by decide +kernel) rfl rfl (Nat.le_of_ble_eq_true rfl) dX8_init_45 (fun H locs hP hD hS => ?_)
  have hP : va_P g.1 vwCl [(oX8 h0 q_1 q_7 q_12 q_18), (oX4 q_1 q0_5 q1_6 0), (aI g q0_5 24 (fun _ => 0)), (aI g q1_6 6 (fun _ => 0)), (oX0 q_7 q0_11), (aI g q0_11 3600 (fun _ => 0)), (oX2 q_12 q0_16 q1_17 1 1 1 1 0), (aI g q0_16 4 (upd (upd (upd (upd (fun _ => 0) 0 8) 1 8) 2 8) 3 8)), (aI g q1_17 4 (upd (upd (upd (upd (fun _ => 0) 0 8) 1 8) 2 8) 3 8)), (oX3 q_18 q0_22 q1_23), (aI g q0_22 36 (fun _ => 0)), (aI g q1_23 39 (fun _ => 0))] H := hP
  have hD : va_D A [(oX8 h0 q_1 q_7 q_12 q_18), (oX4 q_1 q0_5 q1_6 0), (aI g q0_5 24 (fun _ => 0)), (aI g q1_6 6 (fun _ => 0)), (oX0 q_7 q0_11), (aI g q0_11 3600 (fun _ => 0)), (oX2 q_12 q0_16 q1_17 1 1 1 1 0), (aI g q0_16 4 (upd (upd (upd (upd (fun _ => 0) 0 8) 1 8) 2 8) 3 8)), (aI g q1_17 4 (upd (upd (upd (upd (fun _ => 0) 0 8) 1 8) 2 8) 3 8)), (oX3 q_18 q0_22 q1_23), (aI g q0_22 36 (fun _ => 0)), (aI g q1_23 39 (fun _ => 0))] := hD
  exact he_rv hQ hx hb hr hlk hP hD hS dX8_init_48 (Nat.le_of_ble_eq_true rfl) (Nat.le_of_ble_eq_true rfl) ((q_1, q0_5, q1_6, q_7, q0_11, q_12, q0_16, q1_17, q_18, q0_22, q1_23)) (rfl) (trivial)
