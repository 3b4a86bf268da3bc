def lw15 (b : Nat → Int32) (i : Nat) : Nat → Int32 := fun k => if 15 ≤ k ∧ k < 15 + i then nrF (k - 15) else b k
theorem lw15_0 (b : Nat → Int32) : lw15 b 0 = b := by funext k; simp only [lw15]; rw [if_neg (by omega)]
theorem lw15_s (b : Nat → Int32) (i : Nat) : upd (lw15 b i) (15 + i) (nrF i) = lw15 b (i + 1) := by
  funext k
  unfold upd lw15
  by_cases h : k = 15 + i
  · subst h; simp
  · by_cases h2 : 15 ≤ k ∧ k < 15 + i
    · simp [h, h2, show k < 15 + (i + 1) by omega]
    · simp [h, h2, show ¬ (15 ≤ k ∧ k < 15 + (i + 1)) by omega]
def mdL : List Int32 := [0, 1000, 100, 3, 0, 100, 5, 5000, 20, 20, 10, 5, 1, 5, 1]
def mdV (k : Nat) : Int32 := mdL.getD k 0
def tnF (f : Nat → Int32) : Nat → Int32 := lw15 (flF mdV f 15) 10
def sbF (rt f : Nat → Int32) : Nat → Int32 := upd (upd (upd (upd (upd (upd (upd (upd (flF (fun _ => 0) f 25) 0 (rt 1)) 1 (rt 4)) 2 (rt 7)) 3 (rt 2)) 4 (rt 5)) 5 (rt 9)) 10 (-1)) 11 (-1)
theorem mdV_eq : (upd (upd (upd (upd (upd (upd (upd (upd (upd (upd (upd (upd (upd (upd (upd (fun _ => 0) 0 0) 1 1000) 2 100) 3 3) 4 0) 5 100) 6 5) 7 5000) 8 20) 9 20) 10 10) 11 5) 12 1) 13 5) 14 1) = mdV := by
  funext k
  rcases Nat.lt_or_ge k 15 with h | h
  · have h9 : ∀ k, k < 15 → (upd (upd (upd (upd (upd (upd (upd (upd (upd (upd (upd (upd (upd (upd (upd (fun _ => 0) 0 0) 1 1000) 2 100) 3 3) 4 0) 5 100) 6 5) 7 5000) 8 20) 9 20) 10 10) 11 5) 12 1) 13 5) 14 1) k = mdV k := by decide
    exact h9 k h
  · unfold mdV
    rw [List.getD_eq_getElem?_getD, List.getElem?_eq_none (by simpa [mdL] using h)]
    simp only [upd]
    repeat rw [if_neg (by omega)]
    rfl
theorem less_1 {x y : Int32} (h : y ≤ x) : y = if y < x then y else x := by
  by_cases h1 : y < x
  · rw [if_pos h1]
  · rw [if_neg h1]; exact Int32.le_antisymm h (Int32.not_lt.mp h1)
theorem less_2 {x y : Int32} (h : ¬ y ≤ x) : x = if y < x then y else x := by rw [if_neg (fun h1 => h (Int32.le_of_lt h1))]
def sgF (f : Nat → Int32) (c : Int32) : Nat → Int32 := upd (upd f 10 c) 11 (if c = -1 then -1 else 0)
def mwF (tl : Nat → Int32) (x k : Int32) : Int32 := tl 13 * (10 - x) + tl 14 * k
theorem he_wnar (x a b : Int32) : narrow .boolean (.int (he_within x a b)) = .int (he_within x a b) := by
  unfold he_within
  split
  · rfl
  · split <;> rfl
theorem sgF_10 (f : Nat → Int32) (c : Int32) : sgF f c 10 = c := by unfold sgF; rw [upd_n (by decide), upd_s]
set_option maxHeartbeats 4000000 in
set_option maxRecDepth 100000 in
theorem c_X11_in (l : Launch) (g : he_G) (x : Int32) (a : Int32) (b : Int32)  : he_I l yX11_in wsX11_in 0 0 0 0 g [.int x, .int a, .int b] [] (fun (r : Int32) (u : Unit) => r = he_within x a b) (fun (u : Unit) => []) := by
  refine he_begin (l := l) (g := g) (y := yX11_in) (wl := wsX11_in) (fr := 0) (lo := 0) (mc := 0) (ms := 0) (av := [.int x, .int a, .int b]) (ws := []) (cc := cX11_in) (maxL := 3) (ret := (some .boolean)) (fun A => va_Qi (fun (r : Int32) (u : Unit) => r = he_within x a b) (fun u t => he_post g A ((fun (u : Unit) => []) u) t) A) (by decide) rfl (Nat.le_of_ble_eq_true rfl) ?_
  intro p e s m args below meth c A ls H locs Q hQ hB
  obtain ⟨hx, hb, hr, hml, hown, hts, hlk, hin, hP, hK, hD, hS, hA, hE, hl⟩ := hB
  have hl : lv_has ls 3 [(0, .int x), (1, .int a), (2, .int b)] := hl
  refine lv_iload_n hx hb dX11_in_0 rfl (lv_at hl 0 rfl) ?_
  refine lv_iload_n hx hb dX11_in_1 rfl (lv_at hl 1 rfl) ?_
  refine lv_icmp_lt (tgt := 14) hx hb dX11_in_2 (by decide) (fun c_1 => ?_) (fun c_1 => ?_)
  · refine lv_iconst (v := 0) hx hb dX11_in_14 (by decide) ?_
    exact he_rz hQ hx hb hr hlk hP hD hS dX11_in_15 (Nat.le_of_ble_eq_true rfl) (Nat.le_of_ble_eq_true rfl) rfl (()) (rfl) (by simp [he_within, c_1])
  · refine lv_iload_n hx hb dX11_in_5 rfl (lv_at hl 0 rfl) ?_
    refine lv_iload_n hx hb dX11_in_6 rfl (lv_at hl 2 rfl) ?_
    refine lv_icmp_gt (tgt := 14) hx hb dX11_in_7 (by decide) (fun c_2 => ?_) (fun c_2 => ?_)
    · refine lv_iconst (v := 0) hx hb dX11_in_14 (by decide) ?_
      exact he_rz hQ hx hb hr hlk hP hD hS dX11_in_15 (Nat.le_of_ble_eq_true rfl) (Nat.le_of_ble_eq_true rfl) rfl (()) (rfl) (by simp [he_within, c_1, c_2])
    · refine lv_iconst (v := 1) hx hb dX11_in_10 (by decide) ?_
      refine lv_goto (tgt := 15) hx hb dX11_in_11 (by decide) ?_
      exact he_rz hQ hx hb hr hlk hP hD hS dX11_in_15 (Nat.le_of_ble_eq_true rfl) (Nat.le_of_ble_eq_true rfl) rfl (()) (rfl) (by simp [he_within, c_1, c_2])
set_option maxHeartbeats 4000000 in
set_option maxRecDepth 100000 in
theorem c_X11_bad0 (l : Launch) (g : he_G) (m0 : Nat) (fd : Nat) (rfm : Nat) (rt_ : Nat) (to_ : Nat) (rw_ : Nat) (wa : Nat) (rk : Nat) (rb : Nat) (cn : Nat) (br : Nat) (sm : Nat) (as_ : Nat) (go : Nat) (sh_ : Nat) (ki : Nat) (tg : Nat) (of_ : Nat) (kp : Nat) (rs : Nat) (ta : Int32) (sz_ : Int32) (pl : Int32) (at_ : Int32) (fa : Int32) (fw : Int32) (cs : Int32) (ct : Int32) (ir : Int32) (oa : Int32) (ob : Int32) (th : Int32) (ig : Int32) (sp_ : Int32) (sf : Int32) (x : Int32) (y : Int32)  : he_I l yX11_bad wsX11_bad 0 0 0 0 g [.ref m0, .int 0, .int x, .int y] [(oX11 m0 0 ta sz_ pl at_ fa fw cs fd rfm rt_ to_ rw_ wa ct rk rb cn br sm as_ go sh_ ir oa ob th ig sp_ ki tg of_ kp sf rs)] (fun (r : Int32) (u : Unit) => r = 0) (fun (u : Unit) => [(oX11 m0 0 ta sz_ pl at_ fa fw cs fd rfm rt_ to_ rw_ wa ct rk rb cn br sm as_ go sh_ ir oa ob th ig sp_ ki tg of_ kp sf rs)]) := by
  refine he_begin (l := l) (g := g) (y := yX11_bad) (wl := wsX11_bad) (fr := 0) (lo := 0) (mc := 0) (ms := 0) (av := [.ref m0, .int 0, .int x, .int y]) (ws := [(oX11 m0 0 ta sz_ pl at_ fa fw cs fd rfm rt_ to_ rw_ wa ct rk rb cn br sm as_ go sh_ ir oa ob th ig sp_ ki tg of_ kp sf rs)]) (cc := cX11_bad) (maxL := 4) (ret := (some .boolean)) (fun A => va_Qi (fun (r : Int32) (u : Unit) => r = 0) (fun u t => he_post g A ((fun (u : Unit) => [(oX11 m0 0 ta sz_ pl at_ fa fw cs fd rfm rt_ to_ rw_ wa ct rk rb cn br sm as_ go sh_ ir oa ob th ig sp_ ki tg of_ kp sf rs)]) u) t) A) (by decide) rfl (Nat.le_of_ble_eq_true rfl) ?_
  intro p e s m args below meth c A ls H locs Q hQ hB
  obtain ⟨hx, hb, hr, hml, hown, hts, hlk, hin, hP, hK, hD, hS, hA, hE, hl⟩ := hB
  have hl : lv_has ls 4 [(0, .ref m0), (1, .int 0), (2, .int x), (3, .int y)] := hl
  have f85 := hts (.fieldLink RX11 85 "HiredEnemyModel" "thrown" "I") (iwoX11_bad (k := 0) rfl)
  have inX11 : ∀ w ∈ wsX110, w ∈ wsX11_bad := innX11_bad_X11
  refine lv_iload_n hx hb dX11_bad_0 rfl (lv_at hl 1 rfl) ?_
  refine lv_if_eq (tgt := 26) hx hb dX11_bad_1 (by decide) (fun c_1 => ?_) (fun c_1 => ?_)
  · refine lv_aload_n hx hb dX11_bad_26 rfl (lv_at hl 0 rfl) ?_
    refine va_get (v := .int 0) (T := TX11) (N := 35) hx hb hts inX11 hown hK hP 0 rfl rfl 0 (by decide) f85 (fun _ h9 => h9) rfl dX11_bad_27 ?_
    refine lv_if_eq (tgt := 37) hx hb dX11_bad_30 (by decide) (fun c_2 => ?_) (fun c_2 => ?_)
    · refine lv_iconst (v := 0) hx hb dX11_bad_37 (by decide) ?_
      exact he_rz hQ hx hb hr hlk hP hD hS dX11_bad_38 (Nat.le_of_ble_eq_true rfl) (Nat.le_of_ble_eq_true rfl) rfl (()) (rfl) (rfl)
    · exact absurd (by decide) c_2
  · exact absurd (by decide) c_1
set_option maxHeartbeats 4000000 in
set_option maxRecDepth 100000 in
theorem c_X11_bad1 (l : Launch) (g : he_G) (m0 : Nat) (fd : Nat) (rfm : Nat) (rt_ : Nat) (to_ : Nat) (rw_ : Nat) (wa : Nat) (rk : Nat) (rb : Nat) (cn : Nat) (br : Nat) (sm : Nat) (as_ : Nat) (go : Nat) (sh_ : Nat) (ki : Nat) (tg : Nat) (of_ : Nat) (kp : Nat) (rs : Nat) (ta : Int32) (sz_ : Int32) (pl : Int32) (at_ : Int32) (fa : Int32) (fw : Int32) (cs : Int32) (ct : Int32) (ir : Int32) (oa : Int32) (ob : Int32) (th : Int32) (ig : Int32) (sp_ : Int32) (sf : Int32) (x : Int32) (k : Nat) (rc : Nat → Int32) (hk : k < 3) (hx0 : ¬ x = 0) : he_I l yX11_bad wsX11_bad 0 0 0 0 g [.ref m0, .int 1, .int x, .int (nI k)] [(oX11 m0 0 ta sz_ pl at_ fa fw cs fd rfm rt_ to_ rw_ wa ct rk rb cn br sm as_ go sh_ ir oa ob th ig sp_ ki tg of_ kp sf rs), (aI g rfm 3 rc)] (fun (r : Int32) (u : Unit) => r = 1) (fun (u : Unit) => [(oX11 m0 x ta sz_ pl at_ fa fw cs fd rfm rt_ to_ rw_ wa ct rk rb cn br sm as_ go sh_ ir oa ob th ig sp_ ki tg of_ kp sf rs), (aI g rfm 3 (upd rc k (rc k + 1)))]) := by
  refine he_begin (l := l) (g := g) (y := yX11_bad) (wl := wsX11_bad) (fr := 0) (lo := 0) (mc := 0) (ms := 0) (av := [.ref m0, .int 1, .int x, .int (nI k)]) (ws := [(oX11 m0 0 ta sz_ pl at_ fa fw cs fd rfm rt_ to_ rw_ wa ct rk rb cn br sm as_ go sh_ ir oa ob th ig sp_ ki tg of_ kp sf rs), (aI g rfm 3 rc)]) (cc := cX11_bad) (maxL := 4) (ret := (some .boolean)) (fun A => va_Qi (fun (r : Int32) (u : Unit) => r = 1) (fun u t => he_post g A ((fun (u : Unit) => [(oX11 m0 x ta sz_ pl at_ fa fw cs fd rfm rt_ to_ rw_ wa ct rk rb cn br sm as_ go sh_ ir oa ob th ig sp_ ki tg of_ kp sf rs), (aI g rfm 3 (upd rc k (rc k + 1)))]) u) t) A) (by decide) rfl (Nat.le_of_ble_eq_true rfl) ?_
  intro p e s m args below meth c A ls H locs Q hQ hB
  obtain ⟨hx, hb, hr, hml, hown, hts, hlk, hin, hP, hK, hD, hS, hA, hE, hl⟩ := hB
  have hl : lv_has ls 4 [(0, .ref m0), (1, .int 1), (2, .int x), (3, .int (nI k))] := hl
  have f85 := hts (.fieldLink RX11 85 "HiredEnemyModel" "thrown" "I") (iwoX11_bad (k := 0) rfl)
  have inX11 : ∀ w ∈ wsX110, w ∈ wsX11_bad := innX11_bad_X11
  have f17 := hts (.fieldLink RX11 17 "HiredEnemyModel" "refused" "[I") (iwoX11_bad (k := 1) rfl)
  refine lv_iload_n hx hb dX11_bad_0 rfl (lv_at hl 1 rfl) ?_
  refine lv_if_eq (tgt := 26) hx hb dX11_bad_1 (by decide) (fun c_1 => ?_) (fun c_1 => ?_)
  · exact absurd c_1 (by decide)
  · refine lv_aload_n hx hb dX11_bad_4 rfl (lv_at hl 0 rfl) ?_
    refine va_get (v := .int 0) (T := TX11) (N := 35) hx hb hts inX11 hown hK hP 0 rfl rfl 0 (by decide) f85 (fun _ h9 => h9) rfl dX11_bad_5 ?_
    refine lv_if_ne (tgt := 26) hx hb dX11_bad_8 (by decide) (fun c_2 => ?_) (fun c_2 => ?_)
    · exact absurd (by decide) c_2
    · refine lv_aload_n hx hb dX11_bad_11 rfl (lv_at hl 0 rfl) ?_
      refine lv_iload_n hx hb dX11_bad_12 rfl (lv_at hl 2 rfl) ?_
      refine va_put (v := .int x) (ty := .int) (T := TX11) (N := 35) hx hb hts inX11 tyX11 tyX11_ok nmX11 hown hK hP hD hS 0 rfl rfl 0 (by decide) f85 (fun _ h9 => h9) rfl (by decide +kernel) rfl rfl (Nat.le_of_ble_eq_true rfl) dX11_bad_13 (fun H locs hP hD hS => ?_)
      have hP : va_P g.1 vwCl [(oX11 m0 x ta sz_ pl at_ fa fw cs fd rfm rt_ to_ rw_ wa ct rk rb cn br sm as_ go sh_ ir oa ob th ig sp_ ki tg of_ kp sf rs), (aI g rfm 3 rc)] H := hP
      have hD : va_D A [(oX11 m0 x ta sz_ pl at_ fa fw cs fd rfm rt_ to_ rw_ wa ct rk rb cn br sm as_ go sh_ ir oa ob th ig sp_ ki tg of_ kp sf rs), (aI g rfm 3 rc)] := hD
      refine lv_aload_n hx hb dX11_bad_16 rfl (lv_at hl 0 rfl) ?_
      refine va_get (v := .ref rfm) (T := TX11) (N := 35) hx hb hts inX11 hown hK hP 0 rfl rfl 9 (by decide) f17 (fun _ h9 => h9) rfl dX11_bad_17 ?_
      refine lv_iload_n hx hb dX11_bad_20 rfl (lv_at hl 3 rfl) ?_
      refine lv_dup2_11 hx hb dX11_bad_21 rfl rfl ?_
      refine he_iald hx hb hK hP 1 rfl (k) rfl (by first | assumption | decide | omega) (by first | decide | assumption) (rc k) rfl dX11_bad_22 ?_
      refine lv_iconst (v := 1) hx hb dX11_bad_23 (by decide) ?_
      refine lv_iadd hx hb dX11_bad_24 ?_
      refine he_iast hx hb hK hP hD hS 1 rfl (k) rfl (by first | assumption | decide | omega) (by first | decide | assumption) dX11_bad_25 (fun H locs hP hD hS => ?_)
      have hP : va_P g.1 vwCl [(oX11 m0 x ta sz_ pl at_ fa fw cs fd rfm rt_ to_ rw_ wa ct rk rb cn br sm as_ go sh_ ir oa ob th ig sp_ ki tg of_ kp sf rs), (aI g rfm 3 (upd rc k ((rc k) + 1)))] H := hP
      have hD : va_D A [(oX11 m0 x ta sz_ pl at_ fa fw cs fd rfm rt_ to_ rw_ wa ct rk rb cn br sm as_ go sh_ ir oa ob th ig sp_ ki tg of_ kp sf rs), (aI g rfm 3 (upd rc k ((rc k) + 1)))] := hD
      refine lv_aload_n hx hb dX11_bad_26 rfl (lv_at hl 0 rfl) ?_
      refine va_get (v := .int x) (T := TX11) (N := 35) hx hb hts inX11 hown hK hP 0 rfl rfl 0 (by decide) f85 (fun _ h9 => h9) rfl dX11_bad_27 ?_
      refine lv_if_eq (tgt := 37) hx hb dX11_bad_30 (by decide) (fun c_3 => ?_) (fun c_3 => ?_)
      · exact absurd c_3 hx0
      · refine lv_iconst (v := 1) hx hb dX11_bad_33 (by decide) ?_
        refine lv_goto (tgt := 38) hx hb dX11_bad_34 (by decide) ?_
        exact he_rz hQ hx hb hr hlk hP hD hS dX11_bad_38 (Nat.le_of_ble_eq_true rfl) (Nat.le_of_ble_eq_true rfl) rfl (()) (rfl) (rfl)
set_option maxHeartbeats 4000000 in
set_option maxRecDepth 100000 in
theorem c_X11_tellsNothing (l : Launch) (g : he_G) (m0 : Nat) (fd : Nat) (rfm : Nat) (rt_ : Nat) (to_ : Nat) (rw_ : Nat) (wa : Nat) (rk : Nat) (rb : Nat) (cn : Nat) (br : Nat) (sm : Nat) (as_ : Nat) (go : Nat) (sh_ : Nat) (ki : Nat) (tg : Nat) (of_ : Nat) (kp : Nat) (rs : Nat) (ta : Int32) (sz_ : Int32) (pl : Int32) (at_ : Int32) (fa : Int32) (fw : Int32) (cs : Int32) (ct : Int32) (ir : Int32) (oa : Int32) (ob : Int32) (th : Int32) (ig : Int32) (sp_ : Int32) (sf : Int32) (tw : Int32) (f : Nat → Int32)  : he_V l yX11_tellsNothing wsX11_tellsNothing 0 0 1 15 g [.ref m0] [(oX11 m0 tw ta sz_ pl at_ fa fw cs fd rfm rt_ to_ rw_ wa ct rk rb cn br sm as_ go sh_ ir oa ob th ig sp_ ki tg of_ kp sf rs), (aI g rt_ 25 f)] (fun (u : Unit) => True) (fun (u : Unit) => [(oX11 m0 tw ta sz_ pl at_ fa fw cs fd rfm rt_ to_ rw_ wa ct rk rb cn br sm as_ go sh_ ir oa ob th ig sp_ ki tg of_ kp sf rs), (aI g rt_ 25 (tnF f))]) := by
  refine he_begin (l := l) (g := g) (y := yX11_tellsNothing) (wl := wsX11_tellsNothing) (fr := 0) (lo := 0) (mc := 1) (ms := 15) (av := [.ref m0]) (ws := [(oX11 m0 tw ta sz_ pl at_ fa fw cs fd rfm rt_ to_ rw_ wa ct rk rb cn br sm as_ go sh_ ir oa ob th ig sp_ ki tg of_ kp sf rs), (aI g rt_ 25 f)]) (cc := cX11_tellsNothing) (maxL := 3) (ret := none) (fun A => va_Qv (fun (u : Unit) => True) (fun u t => he_post g A ((fun (u : Unit) => [(oX11 m0 tw ta sz_ pl at_ fa fw cs fd rfm rt_ to_ rw_ wa ct rk rb cn br sm as_ go sh_ ir oa ob th ig sp_ ki tg of_ kp sf rs), (aI g rt_ 25 (tnF f))]) u) t) A) (by decide) rfl (Nat.le_of_ble_eq_true rfl) ?_
  intro p e s m args below meth c A ls H locs Q hQ hB
  obtain ⟨hx, hb, hr, hml, hown, hts, hlk, hin, hP, hK, hD, hS, hA, hE, hl⟩ := hB
  have hl : lv_has ls 3 [(0, .ref m0)] := hl
  have harr_int := hts (.arrayClass .int) (iwoX11_tellsNothing (k := 0) rfl)
  have f20 := hts (.fieldLink RX11 20 "HiredEnemyModel" "readTold" "[I") (iwoX11_tellsNothing (k := 1) rfl)
  have inX11 : ∀ w ∈ wsX110, w ∈ wsX11_tellsNothing := innX11_tellsNothing_X11
  refine lv_bipush (v := 15) hx hb dX11_tellsNothing_0 (by decide) ?_
  refine he_newi hx hb harr_int hK hP hD hS hA 15 (by decide) (by decide) (by decide) (Nat.le_of_ble_eq_true rfl) (Nat.le_of_ble_eq_true rfl) dX11_tellsNothing_2 (fun q_1 H hP hD hS => ?_)
  have hP : va_P g.1 vwCl [(oX11 m0 tw ta sz_ pl at_ fa fw cs fd rfm rt_ to_ rw_ wa ct rk rb cn br sm as_ go sh_ ir oa ob th ig sp_ ki tg of_ kp sf rs), (aI g rt_ 25 f), (aI g q_1 15 (fun _ => 0))] H := hP
  have hD : va_D A [(oX11 m0 tw ta sz_ pl at_ fa fw cs fd rfm rt_ to_ rw_ wa ct rk rb cn br sm as_ go sh_ ir oa ob th ig sp_ ki tg of_ kp sf rs), (aI g rt_ 25 f), (aI g q_1 15 (fun _ => 0))] := hD
  refine W.widen (k := 1) (n := 15) (Nat.le_of_ble_eq_true rfl) (Nat.le_of_ble_eq_true rfl) ?_
  refine lv_dup hx hb dX11_tellsNothing_4 rfl ?_
  refine lv_iconst (v := 0) hx hb dX11_tellsNothing_5 (by decide) ?_
  refine lv_iconst (v := 0) hx hb dX11_tellsNothing_6 (by decide) ?_
  refine he_iast hx hb hK hP hD hS 2 rfl (0) (by decide) (by decide) (by first | decide | assumption) dX11_tellsNothing_7 (fun H locs hP hD hS => ?_)
  have hP : va_P g.1 vwCl [(oX11 m0 tw ta sz_ pl at_ fa fw cs fd rfm rt_ to_ rw_ wa ct rk rb cn br sm as_ go sh_ ir oa ob th ig sp_ ki tg of_ kp sf rs), (aI g rt_ 25 f), (aI g q_1 15 (upd (fun _ => 0) 0 0))] H := hP
  have hD : va_D A [(oX11 m0 tw ta sz_ pl at_ fa fw cs fd rfm rt_ to_ rw_ wa ct rk rb cn br sm as_ go sh_ ir oa ob th ig sp_ ki tg of_ kp sf rs), (aI g rt_ 25 f), (aI g q_1 15 (upd (fun _ => 0) 0 0))] := hD
  refine lv_dup hx hb dX11_tellsNothing_8 rfl ?_
  refine lv_iconst (v := 1) hx hb dX11_tellsNothing_9 (by decide) ?_
  refine lv_sipush (v := 1000) hx hb dX11_tellsNothing_10 (by decide) ?_
  refine he_iast hx hb hK hP hD hS 2 rfl (1) (by decide) (by decide) (by first | decide | assumption) dX11_tellsNothing_13 (fun H locs hP hD hS => ?_)
  have hP : va_P g.1 vwCl [(oX11 m0 tw ta sz_ pl at_ fa fw cs fd rfm rt_ to_ rw_ wa ct rk rb cn br sm as_ go sh_ ir oa ob th ig sp_ ki tg of_ kp sf rs), (aI g rt_ 25 f), (aI g q_1 15 (upd (upd (fun _ => 0) 0 0) 1 1000))] H := hP
  have hD : va_D A [(oX11 m0 tw ta sz_ pl at_ fa fw cs fd rfm rt_ to_ rw_ wa ct rk rb cn br sm as_ go sh_ ir oa ob th ig sp_ ki tg of_ kp sf rs), (aI g rt_ 25 f), (aI g q_1 15 (upd (upd (fun _ => 0) 0 0) 1 1000))] := hD
  refine lv_dup hx hb dX11_tellsNothing_14 rfl ?_
  refine lv_iconst (v := 2) hx hb dX11_tellsNothing_15 (by decide) ?_
  refine lv_bipush (v := 100) hx hb dX11_tellsNothing_16 (by decide) ?_
  refine he_iast hx hb hK hP hD hS 2 rfl (2) (by decide) (by decide) (by first | decide | assumption) dX11_tellsNothing_18 (fun H locs hP hD hS => ?_)
  have hP : va_P g.1 vwCl [(oX11 m0 tw ta sz_ pl at_ fa fw cs fd rfm rt_ to_ rw_ wa ct rk rb cn br sm as_ go sh_ ir oa ob th ig sp_ ki tg of_ kp sf rs), (aI g rt_ 25 f), (aI g q_1 15 (upd (upd (upd (fun _ => 0) 0 0) 1 1000) 2 100))] H := hP
  have hD : va_D A [(oX11 m0 tw ta sz_ pl at_ fa fw cs fd rfm rt_ to_ rw_ wa ct rk rb cn br sm as_ go sh_ ir oa ob th ig sp_ ki tg of_ kp sf rs), (aI g rt_ 25 f), (aI g q_1 15 (upd (upd (upd (fun _ => 0) 0 0) 1 1000) 2 100))] := hD
  refine lv_dup hx hb dX11_tellsNothing_19 rfl ?_
  refine lv_iconst (v := 3) hx hb dX11_tellsNothing_20 (by decide) ?_
  refine lv_iconst (v := 3) hx hb dX11_tellsNothing_21 (by decide) ?_
  refine he_iast hx hb hK hP hD hS 2 rfl (3) (by decide) (by decide) (by first | decide | assumption) dX11_tellsNothing_22 (fun H locs hP hD hS => ?_)
  have hP : va_P g.1 vwCl [(oX11 m0 tw ta sz_ pl at_ fa fw cs fd rfm rt_ to_ rw_ wa ct rk rb cn br sm as_ go sh_ ir oa ob th ig sp_ ki tg of_ kp sf rs), (aI g rt_ 25 f), (aI g q_1 15 (upd (upd (upd (upd (fun _ => 0) 0 0) 1 1000) 2 100) 3 3))] H := hP
  have hD : va_D A [(oX11 m0 tw ta sz_ pl at_ fa fw cs fd rfm rt_ to_ rw_ wa ct rk rb cn br sm as_ go sh_ ir oa ob th ig sp_ ki tg of_ kp sf rs), (aI g rt_ 25 f), (aI g q_1 15 (upd (upd (upd (upd (fun _ => 0) 0 0) 1 1000) 2 100) 3 3))] := hD
  refine lv_dup hx hb dX11_tellsNothing_23 rfl ?_
  refine lv_iconst (v := 4) hx hb dX11_tellsNothing_24 (by decide) ?_
  refine lv_iconst (v := 0) hx hb dX11_tellsNothing_25 (by decide) ?_
  refine he_iast hx hb hK hP hD hS 2 rfl (4) (by decide) (by decide) (by first | decide | assumption) dX11_tellsNothing_26 (fun H locs hP hD hS => ?_)
  have hP : va_P g.1 vwCl [(oX11 m0 tw ta sz_ pl at_ fa fw cs fd rfm rt_ to_ rw_ wa ct rk rb cn br sm as_ go sh_ ir oa ob th ig sp_ ki tg of_ kp sf rs), (aI g rt_ 25 f), (aI g q_1 15 (upd (upd (upd (upd (upd (fun _ => 0) 0 0) 1 1000) 2 100) 3 3) 4 0))] H := hP
  have hD : va_D A [(oX11 m0 tw ta sz_ pl at_ fa fw cs fd rfm rt_ to_ rw_ wa ct rk rb cn br sm as_ go sh_ ir oa ob th ig sp_ ki tg of_ kp sf rs), (aI g rt_ 25 f), (aI g q_1 15 (upd (upd (upd (upd (upd (fun _ => 0) 0 0) 1 1000) 2 100) 3 3) 4 0))] := hD
  refine lv_dup hx hb dX11_tellsNothing_27 rfl ?_
  refine lv_iconst (v := 5) hx hb dX11_tellsNothing_28 (by decide) ?_
  refine lv_bipush (v := 100) hx hb dX11_tellsNothing_29 (by decide) ?_
  refine he_iast hx hb hK hP hD hS 2 rfl (5) (by decide) (by decide) (by first | decide | assumption) dX11_tellsNothing_31 (fun H locs hP hD hS => ?_)
  have hP : va_P g.1 vwCl [(oX11 m0 tw ta sz_ pl at_ fa fw cs fd rfm rt_ to_ rw_ wa ct rk rb cn br sm as_ go sh_ ir oa ob th ig sp_ ki tg of_ kp sf rs), (aI g rt_ 25 f), (aI g q_1 15 (upd (upd (upd (upd (upd (upd (fun _ => 0) 0 0) 1 1000) 2 100) 3 3) 4 0) 5 100))] H := hP
  have hD : va_D A [(oX11 m0 tw ta sz_ pl at_ fa fw cs fd rfm rt_ to_ rw_ wa ct rk rb cn br sm as_ go sh_ ir oa ob th ig sp_ ki tg of_ kp sf rs), (aI g rt_ 25 f), (aI g q_1 15 (upd (upd (upd (upd (upd (upd (fun _ => 0) 0 0) 1 1000) 2 100) 3 3) 4 0) 5 100))] := hD
  refine lv_dup hx hb dX11_tellsNothing_32 rfl ?_
  refine lv_bipush (v := 6) hx hb dX11_tellsNothing_33 (by decide) ?_
  refine lv_iconst (v := 5) hx hb dX11_tellsNothing_35 (by decide) ?_
  refine he_iast hx hb hK hP hD hS 2 rfl (6) (by decide) (by decide) (by first | decide | assumption) dX11_tellsNothing_36 (fun H locs hP hD hS => ?_)
  have hP : va_P g.1 vwCl [(oX11 m0 tw ta sz_ pl at_ fa fw cs fd rfm rt_ to_ rw_ wa ct rk rb cn br sm as_ go sh_ ir oa ob th ig sp_ ki tg of_ kp sf rs), (aI g rt_ 25 f), (aI g q_1 15 (upd (upd (upd (upd (upd (upd (upd (fun _ => 0) 0 0) 1 1000) 2 100) 3 3) 4 0) 5 100) 6 5))] H := hP
  have hD : va_D A [(oX11 m0 tw ta sz_ pl at_ fa fw cs fd rfm rt_ to_ rw_ wa ct rk rb cn br sm as_ go sh_ ir oa ob th ig sp_ ki tg of_ kp sf rs), (aI g rt_ 25 f), (aI g q_1 15 (upd (upd (upd (upd (upd (upd (upd (fun _ => 0) 0 0) 1 1000) 2 100) 3 3) 4 0) 5 100) 6 5))] := hD
  refine lv_dup hx hb dX11_tellsNothing_37 rfl ?_
  refine lv_bipush (v := 7) hx hb dX11_tellsNothing_38 (by decide) ?_
  refine lv_sipush (v := 5000) hx hb dX11_tellsNothing_40 (by decide) ?_
  refine he_iast hx hb hK hP hD hS 2 rfl (7) (by decide) (by decide) (by first | decide | assumption) dX11_tellsNothing_43 (fun H locs hP hD hS => ?_)
  have hP : va_P g.1 vwCl [(oX11 m0 tw ta sz_ pl at_ fa fw cs fd rfm rt_ to_ rw_ wa ct rk rb cn br sm as_ go sh_ ir oa ob th ig sp_ ki tg of_ kp sf rs), (aI g rt_ 25 f), (aI g q_1 15 (upd (upd (upd (upd (upd (upd (upd (upd (fun _ => 0) 0 0) 1 1000) 2 100) 3 3) 4 0) 5 100) 6 5) 7 5000))] H := hP
  have hD : va_D A [(oX11 m0 tw ta sz_ pl at_ fa fw cs fd rfm rt_ to_ rw_ wa ct rk rb cn br sm as_ go sh_ ir oa ob th ig sp_ ki tg of_ kp sf rs), (aI g rt_ 25 f), (aI g q_1 15 (upd (upd (upd (upd (upd (upd (upd (upd (fun _ => 0) 0 0) 1 1000) 2 100) 3 3) 4 0) 5 100) 6 5) 7 5000))] := hD
  refine lv_dup hx hb dX11_tellsNothing_44 rfl ?_
  refine lv_bipush (v := 8) hx hb dX11_tellsNothing_45 (by decide) ?_
  refine lv_bipush (v := 20) hx hb dX11_tellsNothing_47 (by decide) ?_
  refine he_iast hx hb hK hP hD hS 2 rfl (8) (by decide) (by decide) (by first | decide | assumption) dX11_tellsNothing_49 (fun H locs hP hD hS => ?_)
  have hP : va_P g.1 vwCl [(oX11 m0 tw ta sz_ pl at_ fa fw cs fd rfm rt_ to_ rw_ wa ct rk rb cn br sm as_ go sh_ ir oa ob th ig sp_ ki tg of_ kp sf rs), (aI g rt_ 25 f), (aI g q_1 15 (upd (upd (upd (upd (upd (upd (upd (upd (upd (fun _ => 0) 0 0) 1 1000) 2 100) 3 3) 4 0) 5 100) 6 5) 7 5000) 8 20))] H := hP
  have hD : va_D A [(oX11 m0 tw ta sz_ pl at_ fa fw cs fd rfm rt_ to_ rw_ wa ct rk rb cn br sm as_ go sh_ ir oa ob th ig sp_ ki tg of_ kp sf rs), (aI g rt_ 25 f), (aI g q_1 15 (upd (upd (upd (upd (upd (upd (upd (upd (upd (fun _ => 0) 0 0) 1 1000) 2 100) 3 3) 4 0) 5 100) 6 5) 7 5000) 8 20))] := hD
  refine lv_dup hx hb dX11_tellsNothing_50 rfl ?_
  refine lv_bipush (v := 9) hx hb dX11_tellsNothing_51 (by decide) ?_
  refine lv_bipush (v := 20) hx hb dX11_tellsNothing_53 (by decide) ?_
  refine he_iast hx hb hK hP hD hS 2 rfl (9) (by decide) (by decide) (by first | decide | assumption) dX11_tellsNothing_55 (fun H locs hP hD hS => ?_)
  have hP : va_P g.1 vwCl [(oX11 m0 tw ta sz_ pl at_ fa fw cs fd rfm rt_ to_ rw_ wa ct rk rb cn br sm as_ go sh_ ir oa ob th ig sp_ ki tg of_ kp sf rs), (aI g rt_ 25 f), (aI g q_1 15 (upd (upd (upd (upd (upd (upd (upd (upd (upd (upd (fun _ => 0) 0 0) 1 1000) 2 100) 3 3) 4 0) 5 100) 6 5) 7 5000) 8 20) 9 20))] H := hP
  have hD : va_D A [(oX11 m0 tw ta sz_ pl at_ fa fw cs fd rfm rt_ to_ rw_ wa ct rk rb cn br sm as_ go sh_ ir oa ob th ig sp_ ki tg of_ kp sf rs), (aI g rt_ 25 f), (aI g q_1 15 (upd (upd (upd (upd (upd (upd (upd (upd (upd (upd (fun _ => 0) 0 0) 1 1000) 2 100) 3 3) 4 0) 5 100) 6 5) 7 5000) 8 20) 9 20))] := hD
  refine lv_dup hx hb dX11_tellsNothing_56 rfl ?_
  refine lv_bipush (v := 10) hx hb dX11_tellsNothing_57 (by decide) ?_
  refine lv_bipush (v := 10) hx hb dX11_tellsNothing_59 (by decide) ?_
  refine he_iast hx hb hK hP hD hS 2 rfl (10) (by decide) (by decide) (by first | decide | assumption) dX11_tellsNothing_61 (fun H locs hP hD hS => ?_)
  have hP : va_P g.1 vwCl [(oX11 m0 tw ta sz_ pl at_ fa fw cs fd rfm rt_ to_ rw_ wa ct rk rb cn br sm as_ go sh_ ir oa ob th ig sp_ ki tg of_ kp sf rs), (aI g rt_ 25 f), (aI g q_1 15 (upd (upd (upd (upd (upd (upd (upd (upd (upd (upd (upd (fun _ => 0) 0 0) 1 1000) 2 100) 3 3) 4 0) 5 100) 6 5) 7 5000) 8 20) 9 20) 10 10))] H := hP
  have hD : va_D A [(oX11 m0 tw ta sz_ pl at_ fa fw cs fd rfm rt_ to_ rw_ wa ct rk rb cn br sm as_ go sh_ ir oa ob th ig sp_ ki tg of_ kp sf rs), (aI g rt_ 25 f), (aI g q_1 15 (upd (upd (upd (upd (upd (upd (upd (upd (upd (upd (upd (fun _ => 0) 0 0) 1 1000) 2 100) 3 3) 4 0) 5 100) 6 5) 7 5000) 8 20) 9 20) 10 10))] := hD
  refine lv_dup hx hb dX11_tellsNothing_62 rfl ?_
  refine lv_bipush (v := 11) hx hb dX11_tellsNothing_63 (by decide) ?_
  refine lv_iconst (v := 5) hx hb dX11_tellsNothing_65 (by decide) ?_
  refine he_iast hx hb hK hP hD hS 2 rfl (11) (by decide) (by decide) (by first | decide | assumption) dX11_tellsNothing_66 (fun H locs hP hD hS => ?_)
  have hP : va_P g.1 vwCl [(oX11 m0 tw ta sz_ pl at_ fa fw cs fd rfm rt_ to_ rw_ wa ct rk rb cn br sm as_ go sh_ ir oa ob th ig sp_ ki tg of_ kp sf rs), (aI g rt_ 25 f), (aI g q_1 15 (upd (upd (upd (upd (upd (upd (upd (upd (upd (upd (upd (upd (fun _ => 0) 0 0) 1 1000) 2 100) 3 3) 4 0) 5 100) 6 5) 7 5000) 8 20) 9 20) 10 10) 11 5))] H := hP
  have hD : va_D A [(oX11 m0 tw ta sz_ pl at_ fa fw cs fd rfm rt_ to_ rw_ wa ct rk rb cn br sm as_ go sh_ ir oa ob th ig sp_ ki tg of_ kp sf rs), (aI g rt_ 25 f), (aI g q_1 15 (upd (upd (upd (upd (upd (upd (upd (upd (upd (upd (upd (upd (fun _ => 0) 0 0) 1 1000) 2 100) 3 3) 4 0) 5 100) 6 5) 7 5000) 8 20) 9 20) 10 10) 11 5))] := hD
  refine lv_dup hx hb dX11_tellsNothing_67 rfl ?_
  refine lv_bipush (v := 12) hx hb dX11_tellsNothing_68 (by decide) ?_
  refine lv_iconst (v := 1) hx hb dX11_tellsNothing_70 (by decide) ?_
  refine he_iast hx hb hK hP hD hS 2 rfl (12) (by decide) (by decide) (by first | decide | assumption) dX11_tellsNothing_71 (fun H locs hP hD hS => ?_)
  have hP : va_P g.1 vwCl [(oX11 m0 tw ta sz_ pl at_ fa fw cs fd rfm rt_ to_ rw_ wa ct rk rb cn br sm as_ go sh_ ir oa ob th ig sp_ ki tg of_ kp sf rs), (aI g rt_ 25 f), (aI g q_1 15 (upd (upd (upd (upd (upd (upd (upd (upd (upd (upd (upd (upd (upd (fun _ => 0) 0 0) 1 1000) 2 100) 3 3) 4 0) 5 100) 6 5) 7 5000) 8 20) 9 20) 10 10) 11 5) 12 1))] H := hP
  have hD : va_D A [(oX11 m0 tw ta sz_ pl at_ fa fw cs fd rfm rt_ to_ rw_ wa ct rk rb cn br sm as_ go sh_ ir oa ob th ig sp_ ki tg of_ kp sf rs), (aI g rt_ 25 f), (aI g q_1 15 (upd (upd (upd (upd (upd (upd (upd (upd (upd (upd (upd (upd (upd (fun _ => 0) 0 0) 1 1000) 2 100) 3 3) 4 0) 5 100) 6 5) 7 5000) 8 20) 9 20) 10 10) 11 5) 12 1))] := hD
  refine lv_dup hx hb dX11_tellsNothing_72 rfl ?_
  refine lv_bipush (v := 13) hx hb dX11_tellsNothing_73 (by decide) ?_
  refine lv_iconst (v := 5) hx hb dX11_tellsNothing_75 (by decide) ?_
  refine he_iast hx hb hK hP hD hS 2 rfl (13) (by decide) (by decide) (by first | decide | assumption) dX11_tellsNothing_76 (fun H locs hP hD hS => ?_)
  have hP : va_P g.1 vwCl [(oX11 m0 tw ta sz_ pl at_ fa fw cs fd rfm rt_ to_ rw_ wa ct rk rb cn br sm as_ go sh_ ir oa ob th ig sp_ ki tg of_ kp sf rs), (aI g rt_ 25 f), (aI g q_1 15 (upd (upd (upd (upd (upd (upd (upd (upd (upd (upd (upd (upd (upd (upd (fun _ => 0) 0 0) 1 1000) 2 100) 3 3) 4 0) 5 100) 6 5) 7 5000) 8 20) 9 20) 10 10) 11 5) 12 1) 13 5))] H := hP
  have hD : va_D A [(oX11 m0 tw ta sz_ pl at_ fa fw cs fd rfm rt_ to_ rw_ wa ct rk rb cn br sm as_ go sh_ ir oa ob th ig sp_ ki tg of_ kp sf rs), (aI g rt_ 25 f), (aI g q_1 15 (upd (upd (upd (upd (upd (upd (upd (upd (upd (upd (upd (upd (upd (upd (fun _ => 0) 0 0) 1 1000) 2 100) 3 3) 4 0) 5 100) 6 5) 7 5000) 8 20) 9 20) 10 10) 11 5) 12 1) 13 5))] := hD
  refine lv_dup hx hb dX11_tellsNothing_77 rfl ?_
  refine lv_bipush (v := 14) hx hb dX11_tellsNothing_78 (by decide) ?_
  refine lv_iconst (v := 1) hx hb dX11_tellsNothing_80 (by decide) ?_
  refine he_iast hx hb hK hP hD hS 2 rfl (14) (by decide) (by decide) (by first | decide | assumption) dX11_tellsNothing_81 (fun H locs hP hD hS => ?_)
  have hP : va_P g.1 vwCl [(oX11 m0 tw ta sz_ pl at_ fa fw cs fd rfm rt_ to_ rw_ wa ct rk rb cn br sm as_ go sh_ ir oa ob th ig sp_ ki tg of_ kp sf rs), (aI g rt_ 25 f), (aI g q_1 15 (upd (upd (upd (upd (upd (upd (upd (upd (upd (upd (upd (upd (upd (upd (upd (fun _ => 0) 0 0) 1 1000) 2 100) 3 3) 4 0) 5 100) 6 5) 7 5000) 8 20) 9 20) 10 10) 11 5) 12 1) 13 5) 14 1))] H := hP
  have hD : va_D A [(oX11 m0 tw ta sz_ pl at_ fa fw cs fd rfm rt_ to_ rw_ wa ct rk rb cn br sm as_ go sh_ ir oa ob th ig sp_ ki tg of_ kp sf rs), (aI g rt_ 25 f), (aI g q_1 15 (upd (upd (upd (upd (upd (upd (upd (upd (upd (upd (upd (upd (upd (upd (upd (fun _ => 0) 0 0) 1 1000) 2 100) 3 3) 4 0) 5 100) 6 5) 7 5000) 8 20) 9 20) 10 10) 11 5) 12 1) 13 5) 14 1))] := hD
  have hn9 : upd (upd (upd (upd (upd (upd (upd (upd (upd (upd (upd (upd (upd (upd (upd (fun _ => 0) 0 0) 1 1000) 2 100) 3 3) 4 0) 5 100) 6 5) 7 5000) 8 20) 9 20) 10 10) 11 5) 12 1) 13 5) 14 1 = mdV := mdV_eq
  rw [hn9] at hP hD
  have hP : va_P g.1 vwCl [(oX11 m0 tw ta sz_ pl at_ fa fw cs fd rfm rt_ to_ rw_ wa ct rk rb cn br sm as_ go sh_ ir oa ob th ig sp_ ki tg of_ kp sf rs), (aI g rt_ 25 f), (aI g q_1 15 mdV)] H := hP
  have hD : va_D A [(oX11 m0 tw ta sz_ pl at_ fa fw cs fd rfm rt_ to_ rw_ wa ct rk rb cn br sm as_ go sh_ ir oa ob th ig sp_ ki tg of_ kp sf rs), (aI g rt_ 25 f), (aI g q_1 15 mdV)] := hD
  refine lv_astore_n (lv' := [(1, .ref q_1), (0, .ref m0)]) hx hb dX11_tellsNothing_82 rfl hl (by decide) rfl (fun ls hl => ?_)
  refine lv_iconst (v := 0) hx hb dX11_tellsNothing_83 (by decide) ?_
  refine lv_istore_n (lv' := [(2, .int 0), (1, .ref q_1), (0, .ref m0)]) hx hb dX11_tellsNothing_84 rfl hl (by decide) rfl (fun ls hl => ?_)
  have loop85 : ∀ (n9 : Nat) (j : Nat), 15 - j < n9 → (j ≤ 15) → ∀ (H : Heap) (locs : List Loc) (ls : Array Slot), va_P g.1 vwCl [(oX11 m0 tw ta sz_ pl at_ fa fw cs fd rfm rt_ to_ rw_ wa ct rk rb cn br sm as_ go sh_ ir oa ob th ig sp_ ki tg of_ kp sf rs), (aI g rt_ 25 (flF mdV f j)), (aI g q_1 15 mdV)] H → va_D A [(oX11 m0 tw ta sz_ pl at_ fa fw cs fd rfm rt_ to_ rw_ wa ct rk rb cn br sm as_ go sh_ ir oa ob th ig sp_ ki tg of_ kp sf rs), (aI g rt_ 25 (flF mdV f j)), (aI g q_1 15 mdV)] → va_S A s.heap H locs → lv_has ls 3 [(0, .ref m0), (1, .ref q_1), (2, .int (nI j))] → W p l e (he_room 0 0 1 15) s m args below meth c H locs 1 15 Q (F0 m 85 ls []) := by
    intro n9
    induction n9 with
    | zero => intro j hm9; exact absurd hm9 (Nat.not_lt_zero _)
    | succ n9 ih85 =>
      intro j hm9 hj H locs ls hP hD hS hl
      refine lv_iload_n hx hb dX11_tellsNothing_85 rfl (lv_at hl 2 rfl) ?_
      refine lv_bipush (v := 15) hx hb dX11_tellsNothing_86 (by decide) ?_
      refine lv_icmp_ge (tgt := 106) hx hb dX11_tellsNothing_88 (by decide) (fun c_2 => ?_) (fun c_2 => ?_)
      · have k_3 : 15 ≤ j := (he_cle (a := 15) (b := j) (by decide) rfl (by omega) (by omega)).mp c_2
        obtain rfl : j = 15 := by omega
        refine lv_iconst (v := 0) hx hb dX11_tellsNothing_106 (by decide) ?_
        refine lv_istore_n (lv' := [(2, .int 0), (0, .ref m0), (1, .ref q_1)]) hx hb dX11_tellsNothing_107 rfl hl (by decide) rfl (fun ls hl => ?_)
        have loop108 : ∀ (n9 : Nat) (j2 : Nat), 10 - j2 < n9 → (j2 ≤ 10) → ∀ (H : Heap) (locs : List Loc) (ls : Array Slot), va_P g.1 vwCl [(oX11 m0 tw ta sz_ pl at_ fa fw cs fd rfm rt_ to_ rw_ wa ct rk rb cn br sm as_ go sh_ ir oa ob th ig sp_ ki tg of_ kp sf rs), (aI g rt_ 25 (lw15 (flF mdV f 15) j2))] H → va_D A [(oX11 m0 tw ta sz_ pl at_ fa fw cs fd rfm rt_ to_ rw_ wa ct rk rb cn br sm as_ go sh_ ir oa ob th ig sp_ ki tg of_ kp sf rs), (aI g rt_ 25 (lw15 (flF mdV f 15) j2))] → va_S A s.heap H locs → lv_has ls 3 [(0, .ref m0), (2, .int (nI j2))] → W p l e (he_room 0 0 1 15) s m args below meth c H locs 1 15 Q (F0 m 108 ls []) := by
          intro n9
          induction n9 with
          | zero => intro j2 hm9; exact absurd hm9 (Nat.not_lt_zero _)
          | succ n9 ih108 =>
            intro j2 hm9 hj2 H locs ls hP hD hS hl
            refine lv_iload_n hx hb dX11_tellsNothing_108 rfl (lv_at hl 1 rfl) ?_
            refine lv_bipush (v := 10) hx hb dX11_tellsNothing_109 (by decide) ?_
            refine lv_icmp_ge (tgt := 133) hx hb dX11_tellsNothing_111 (by decide) (fun c_4 => ?_) (fun c_4 => ?_)
            · have k_5 : 10 ≤ j2 := (he_cle (a := 10) (b := j2) (by decide) rfl (by omega) (by omega)).mp c_4
              obtain rfl : j2 = 10 := by omega
              exact he_rv hQ hx hb hr hlk hP hD hS dX11_tellsNothing_133 (Nat.le_of_ble_eq_true rfl) (Nat.le_of_ble_eq_true rfl) (()) (rfl) (trivial)
            · have k_6 : ¬ (10 ≤ j2) := fun h9 => c_4 ((he_cle (a := 10) (b := j2) (by decide) rfl (by omega) (by omega)).mpr h9)
              refine lv_aload_n hx hb dX11_tellsNothing_114 rfl (lv_at hl 0 rfl) ?_
              refine va_get (v := .ref rt_) (T := TX11) (N := 35) hx hb hts inX11 hown hK hP 0 rfl rfl 10 (by decide) f20 (fun _ h9 => h9) rfl dX11_tellsNothing_115 ?_
              refine lv_bipush (v := 15) hx hb dX11_tellsNothing_118 (by decide) ?_
              refine lv_iload_n hx hb dX11_tellsNothing_120 rfl (lv_at hl 1 rfl) ?_
              refine lv_iadd hx hb dX11_tellsNothing_121 ?_
              refine he_top (nI (15 + j2)) (nI_add 15 j2) ?_
              refine lv_bipush (v := 9) hx hb dX11_tellsNothing_122 (by decide) ?_
              refine lv_iload_n hx hb dX11_tellsNothing_124 rfl (lv_at hl 1 rfl) ?_
              refine lv_isub hx hb dX11_tellsNothing_125 ?_
              refine he_iast hx hb hK hP hD hS 1 rfl (15 + j2) rfl (by first | assumption | decide | omega) (by first | decide | assumption) dX11_tellsNothing_126 (fun H locs hP hD hS => ?_)
              have hP : va_P g.1 vwCl [(oX11 m0 tw ta sz_ pl at_ fa fw cs fd rfm rt_ to_ rw_ wa ct rk rb cn br sm as_ go sh_ ir oa ob th ig sp_ ki tg of_ kp sf rs), (aI g rt_ 25 (upd (lw15 (flF mdV f 15) j2) (15 + j2) (9 - (nI j2))))] H := hP
              have hD : va_D A [(oX11 m0 tw ta sz_ pl at_ fa fw cs fd rfm rt_ to_ rw_ wa ct rk rb cn br sm as_ go sh_ ir oa ob th ig sp_ ki tg of_ kp sf rs), (aI g rt_ 25 (upd (lw15 (flF mdV f 15) j2) (15 + j2) (9 - (nI j2))))] := hD
              refine lv_iinc (v := nI (j2 + 1)) (lv' := [(2, .int (nI (j2 + 1))), (0, .ref m0)]) hx hb dX11_tellsNothing_127 hl (k := 1) rfl (nI_1 j2) (by decide) rfl (fun ls hl => ?_)
              refine lv_goto (tgt := 108) hx hb dX11_tellsNothing_130 (by decide) ?_
              have hP : va_P g.1 vwCl [(oX11 m0 tw ta sz_ pl at_ fa fw cs fd rfm rt_ to_ rw_ wa ct rk rb cn br sm as_ go sh_ ir oa ob th ig sp_ ki tg of_ kp sf rs), (aI g rt_ 25 (lw15 (flF mdV f 15) (j2 + 1)))] H := by rw [← lw15_s]; exact hP
              have hD : va_D A [(oX11 m0 tw ta sz_ pl at_ fa fw cs fd rfm rt_ to_ rw_ wa ct rk rb cn br sm as_ go sh_ ir oa ob th ig sp_ ki tg of_ kp sf rs), (aI g rt_ 25 (lw15 (flF mdV f 15) (j2 + 1)))] := by rw [← lw15_s]; exact hD
              exact ih108 (j2 + 1) (by omega) (by omega) _ _ _ hP hD hS (lv_sub hl [1, 0] rfl)
        have hP : va_P g.1 vwCl [(oX11 m0 tw ta sz_ pl at_ fa fw cs fd rfm rt_ to_ rw_ wa ct rk rb cn br sm as_ go sh_ ir oa ob th ig sp_ ki tg of_ kp sf rs), (aI g rt_ 25 (lw15 (flF mdV f 15) 0)), (aI g q_1 15 mdV)] H := by rw [lw15_0]; exact hP
        have hD : va_D A [(oX11 m0 tw ta sz_ pl at_ fa fw cs fd rfm rt_ to_ rw_ wa ct rk rb cn br sm as_ go sh_ ir oa ob th ig sp_ ki tg of_ kp sf rs), (aI g rt_ 25 (lw15 (flF mdV f 15) 0)), (aI g q_1 15 mdV)] := by rw [lw15_0]; exact hD
        exact loop108 ((10 - 0) + 1) 0 (Nat.lt_succ_self _) (Nat.zero_le _) _ _ _ (hP.sub [0, 1] rfl) (hD.sub [0, 1] (by decide) rfl) hS (lv_sub hl [1, 0] rfl)
      · have k_7 : ¬ (15 ≤ j) := fun h9 => c_2 ((he_cle (a := 15) (b := j) (by decide) rfl (by omega) (by omega)).mpr h9)
        refine lv_aload_n hx hb dX11_tellsNothing_91 rfl (lv_at hl 0 rfl) ?_
        refine va_get (v := .ref rt_) (T := TX11) (N := 35) hx hb hts inX11 hown hK hP 0 rfl rfl 10 (by decide) f20 (fun _ h9 => h9) rfl dX11_tellsNothing_92 ?_
        refine lv_iload_n hx hb dX11_tellsNothing_95 rfl (lv_at hl 2 rfl) ?_
        refine lv_aload_n hx hb dX11_tellsNothing_96 rfl (lv_at hl 1 rfl) ?_
        refine lv_iload_n hx hb dX11_tellsNothing_97 rfl (lv_at hl 2 rfl) ?_
        refine he_iald hx hb hK hP 2 rfl (j) rfl (by first | assumption | decide | omega) (by first | decide | assumption) (mdV j) rfl dX11_tellsNothing_98 ?_
        refine he_iast hx hb hK hP hD hS 1 rfl (j) rfl (by first | assumption | decide | omega) (by first | decide | assumption) dX11_tellsNothing_99 (fun H locs hP hD hS => ?_)
        have hP : va_P g.1 vwCl [(oX11 m0 tw ta sz_ pl at_ fa fw cs fd rfm rt_ to_ rw_ wa ct rk rb cn br sm as_ go sh_ ir oa ob th ig sp_ ki tg of_ kp sf rs), (aI g rt_ 25 (upd (flF mdV f j) j (mdV j))), (aI g q_1 15 mdV)] H := hP
        have hD : va_D A [(oX11 m0 tw ta sz_ pl at_ fa fw cs fd rfm rt_ to_ rw_ wa ct rk rb cn br sm as_ go sh_ ir oa ob th ig sp_ ki tg of_ kp sf rs), (aI g rt_ 25 (upd (flF mdV f j) j (mdV j))), (aI g q_1 15 mdV)] := hD
        refine lv_iinc (v := nI (j + 1)) (lv' := [(2, .int (nI (j + 1))), (0, .ref m0), (1, .ref q_1)]) hx hb dX11_tellsNothing_100 hl (k := 2) rfl (nI_1 j) (by decide) rfl (fun ls hl => ?_)
        refine lv_goto (tgt := 85) hx hb dX11_tellsNothing_103 (by decide) ?_
        have hP : va_P g.1 vwCl [(oX11 m0 tw ta sz_ pl at_ fa fw cs fd rfm rt_ to_ rw_ wa ct rk rb cn br sm as_ go sh_ ir oa ob th ig sp_ ki tg of_ kp sf rs), (aI g rt_ 25 (flF mdV f (j + 1))), (aI g q_1 15 mdV)] H := by rw [← flF_s]; exact hP
        have hD : va_D A [(oX11 m0 tw ta sz_ pl at_ fa fw cs fd rfm rt_ to_ rw_ wa ct rk rb cn br sm as_ go sh_ ir oa ob th ig sp_ ki tg of_ kp sf rs), (aI g rt_ 25 (flF mdV f (j + 1))), (aI g q_1 15 mdV)] := by rw [← flF_s]; exact hD
        exact ih85 (j + 1) (by omega) (by omega) _ _ _ hP hD hS (lv_sub hl [1, 2, 0] rfl)
  have hP : va_P g.1 vwCl [(oX11 m0 tw ta sz_ pl at_ fa fw cs fd rfm rt_ to_ rw_ wa ct rk rb cn br sm as_ go sh_ ir oa ob th ig sp_ ki tg of_ kp sf rs), (aI g rt_ 25 (flF mdV f 0)), (aI g q_1 15 mdV)] H := by rw [flF_0]; exact hP
  have hD : va_D A [(oX11 m0 tw ta sz_ pl at_ fa fw cs fd rfm rt_ to_ rw_ wa ct rk rb cn br sm as_ go sh_ ir oa ob th ig sp_ ki tg of_ kp sf rs), (aI g rt_ 25 (flF mdV f 0)), (aI g q_1 15 mdV)] := by rw [flF_0]; exact hD
  exact loop85 ((15 - 0) + 1) 0 (Nat.lt_succ_self _) (Nat.zero_le _) _ _ _ hP hD hS (lv_sub hl [2, 1, 0] rfl)
set_option maxHeartbeats 4000000 in
set_option maxRecDepth 100000 in
theorem c_X11_less (l : Launch) (g : he_G) (x : Int32) (y : Int32)  : he_I l yX11_less wsX11_less 0 0 0 0 g [.int x, .int y] [] (fun (r : Int32) (u : Unit) => r = if y < x then y else x) (fun (u : Unit) => []) := by
  refine he_begin (l := l) (g := g) (y := yX11_less) (wl := wsX11_less) (fr := 0) (lo := 0) (mc := 0) (ms := 0) (av := [.int x, .int y]) (ws := []) (cc := cX11_less) (maxL := 2) (ret := (some .int)) (fun A => va_Qi (fun (r : Int32) (u : Unit) => r = if y < x then y else x) (fun u t => he_post g A ((fun (u : Unit) => []) u) t) A) (by decide) rfl (Nat.le_of_ble_eq_true rfl) ?_
  intro p e s m args below meth c A ls H locs Q hQ hB
  obtain ⟨hx, hb, hr, hml, hown, hts, hlk, hin, hP, hK, hD, hS, hA, hE, hl⟩ := hB
  have hl : lv_has ls 2 [(0, .int x), (1, .int y)] := hl
  refine lv_iload_n hx hb dX11_less_0 rfl (lv_at hl 0 rfl) ?_
  refine lv_iload_n hx hb dX11_less_1 rfl (lv_at hl 1 rfl) ?_
  refine lv_icmp_ge (tgt := 9) hx hb dX11_less_2 (by decide) (fun c_1 => ?_) (fun c_1 => ?_)
  · refine lv_iload_n hx hb dX11_less_9 rfl (lv_at hl 1 rfl) ?_
    exact he_ri hQ hx hb hr hlk hP hD hS dX11_less_10 (Nat.le_of_ble_eq_true rfl) (Nat.le_of_ble_eq_true rfl) (()) (rfl) (less_1 c_1)
  · refine lv_iload_n hx hb dX11_less_5 rfl (lv_at hl 0 rfl) ?_
    refine lv_goto (tgt := 10) hx hb dX11_less_6 (by decide) ?_
    exact he_ri hQ hx hb hr hlk hP hD hS dX11_less_10 (Nat.le_of_ble_eq_true rfl) (Nat.le_of_ble_eq_true rfl) (()) (rfl) (less_2 c_1)
set_option maxHeartbeats 4000000 in
set_option maxRecDepth 100000 in
theorem c_X11_wantsFor (l : Launch) (g : he_G) (m0 : Nat) (fd : Nat) (rfm : Nat) (rt_ : Nat) (to_ : Nat) (rw_ : Nat) (wa : Nat) (rk : Nat) (rb : Nat) (cn : Nat) (br : Nat) (sm : Nat) (as_ : Nat) (go : Nat) (sh_ : Nat) (ki : Nat) (tg : Nat) (of_ : Nat) (kp : Nat) (rs : Nat) (ta : Int32) (sz_ : Int32) (pl : Int32) (at_ : Int32) (fa : Int32) (fw : Int32) (cs : Int32) (ct : Int32) (ir : Int32) (oa : Int32) (ob : Int32) (th : Int32) (ig : Int32) (sp_ : Int32) (sf : Int32) (tw : Int32) (tl : Nat → Int32) (x : Int32) (k : Int32)  : he_I l yX11_wantsFor wsX11_wantsFor 0 0 0 0 g [.ref m0, .int x, .int k] [(oX11 m0 tw ta sz_ pl at_ fa fw cs fd rfm rt_ to_ rw_ wa ct rk rb cn br sm as_ go sh_ ir oa ob th ig sp_ ki tg of_ kp sf rs), (aI g to_ 25 tl)] (fun (r : Int32) (u : Unit) => r = mwF tl x k) (fun (u : Unit) => [(oX11 m0 tw ta sz_ pl at_ fa fw cs fd rfm rt_ to_ rw_ wa ct rk rb cn br sm as_ go sh_ ir oa ob th ig sp_ ki tg of_ kp sf rs), (aI g to_ 25 tl)]) := by
  refine he_begin (l := l) (g := g) (y := yX11_wantsFor) (wl := wsX11_wantsFor) (fr := 0) (lo := 0) (mc := 0) (ms := 0) (av := [.ref m0, .int x, .int k]) (ws := [(oX11 m0 tw ta sz_ pl at_ fa fw cs fd rfm rt_ to_ rw_ wa ct rk rb cn br sm as_ go sh_ ir oa ob th ig sp_ ki tg of_ kp sf rs), (aI g to_ 25 tl)]) (cc := cX11_wantsFor) (maxL := 3) (ret := (some .int)) (fun A => va_Qi (fun (r : Int32) (u : Unit) => r = mwF tl x k) (fun u t => he_post g A ((fun (u : Unit) => [(oX11 m0 tw ta sz_ pl at_ fa fw cs fd rfm rt_ to_ rw_ wa ct rk rb cn br sm as_ go sh_ ir oa ob th ig sp_ ki tg of_ kp sf rs), (aI g to_ 25 tl)]) u) t) A) (by decide) rfl (Nat.le_of_ble_eq_true rfl) ?_
  intro p e s m args below meth c A ls H locs Q hQ hB
  obtain ⟨hx, hb, hr, hml, hown, hts, hlk, hin, hP, hK, hD, hS, hA, hE, hl⟩ := hB
  have hl : lv_has ls 3 [(0, .ref m0), (1, .int x), (2, .int k)] := hl
  have f23 := hts (.fieldLink RX11 23 "HiredEnemyModel" "told" "[I") (iwoX11_wantsFor (k := 0) rfl)
  have inX11 : ∀ w ∈ wsX110, w ∈ wsX11_wantsFor := innX11_wantsFor_X11
  refine lv_aload_n hx hb dX11_wantsFor_0 rfl (lv_at hl 0 rfl) ?_
  refine va_get (v := .ref to_) (T := TX11) (N := 35) hx hb hts inX11 hown hK hP 0 rfl rfl 11 (by decide) f23 (fun _ h9 => h9) rfl dX11_wantsFor_1 ?_
  refine lv_bipush (v := 13) hx hb dX11_wantsFor_4 (by decide) ?_
  refine he_iald hx hb hK hP 1 rfl (13) (by decide) (by decide) (by first | decide | assumption) (tl 13) rfl dX11_wantsFor_6 ?_
  refine lv_bipush (v := 10) hx hb dX11_wantsFor_7 (by decide) ?_
  refine lv_iload_n hx hb dX11_wantsFor_9 rfl (lv_at hl 1 rfl) ?_
  refine lv_isub hx hb dX11_wantsFor_10 ?_
  refine lv_imul hx hb dX11_wantsFor_11 ?_
  refine lv_aload_n hx hb dX11_wantsFor_12 rfl (lv_at hl 0 rfl) ?_
  refine va_get (v := .ref to_) (T := TX11) (N := 35) hx hb hts inX11 hown hK hP 0 rfl rfl 11 (by decide) f23 (fun _ h9 => h9) rfl dX11_wantsFor_13 ?_
  refine lv_bipush (v := 14) hx hb dX11_wantsFor_16 (by decide) ?_
  refine he_iald hx hb hK hP 1 rfl (14) (by decide) (by decide) (by first | decide | assumption) (tl 14) rfl dX11_wantsFor_18 ?_
  refine lv_iload_n hx hb dX11_wantsFor_19 rfl (lv_at hl 2 rfl) ?_
  refine lv_imul hx hb dX11_wantsFor_20 ?_
  refine lv_iadd hx hb dX11_wantsFor_21 ?_
  exact he_ri hQ hx hb hr hlk hP hD hS dX11_wantsFor_22 (Nat.le_of_ble_eq_true rfl) (Nat.le_of_ble_eq_true rfl) (()) (rfl) (rfl)
set_option maxHeartbeats 4000000 in
set_option maxRecDepth 100000 in
theorem c_X11_signs (l : Launch) (g : he_G) (m0 : Nat) (fd : Nat) (rfm : Nat) (rt_ : Nat) (to_ : Nat) (rw_ : Nat) (wa : Nat) (rk : Nat) (rb : Nat) (cn : Nat) (br : Nat) (sm : Nat) (as_ : Nat) (go : Nat) (sh_ : Nat) (ki : Nat) (tg : Nat) (of_ : Nat) (kp : Nat) (rs : Nat) (ta : Int32) (sz_ : Int32) (pl : Int32) (at_ : Int32) (fa : Int32) (fw : Int32) (cs : Int32) (ct : Int32) (ir : Int32) (oa : Int32) (ob : Int32) (th : Int32) (ig : Int32) (sp_ : Int32) (sf : Int32) (tw : Int32) (f : Nat → Int32) (x : Int32)  : he_V l yX11_signs wsX11_signs 0 0 0 0 g [.ref m0, .int x] [(oX11 m0 tw ta sz_ pl at_ fa fw cs fd rfm rt_ to_ rw_ wa ct rk rb cn br sm as_ go sh_ ir oa ob th ig sp_ ki tg of_ kp sf rs), (aI g sm 25 f)] (fun (u : Unit) => True) (fun (u : Unit) => [(oX11 m0 tw ta sz_ pl at_ fa fw cs fd rfm rt_ to_ rw_ wa ct rk rb cn br sm as_ go sh_ ir oa ob th ig sp_ ki tg of_ kp sf rs), (aI g sm 25 (sgF f x))]) := by
  refine he_begin (l := l) (g := g) (y := yX11_signs) (wl := wsX11_signs) (fr := 0) (lo := 0) (mc := 0) (ms := 0) (av := [.ref m0, .int x]) (ws := [(oX11 m0 tw ta sz_ pl at_ fa fw cs fd rfm rt_ to_ rw_ wa ct rk rb cn br sm as_ go sh_ ir oa ob th ig sp_ ki tg of_ kp sf rs), (aI g sm 25 f)]) (cc := cX11_signs) (maxL := 2) (ret := none) (fun A => va_Qv (fun (u : Unit) => True) (fun u t => he_post g A ((fun (u : Unit) => [(oX11 m0 tw ta sz_ pl at_ fa fw cs fd rfm rt_ to_ rw_ wa ct rk rb cn br sm as_ go sh_ ir oa ob th ig sp_ ki tg of_ kp sf rs), (aI g sm 25 (sgF f x))]) u) t) A) (by decide) rfl (Nat.le_of_ble_eq_true rfl) ?_
  intro p e s m args below meth c A ls H locs Q hQ hB
  obtain ⟨hx, hb, hr, hml, hown, hts, hlk, hin, hP, hK, hD, hS, hA, hE, hl⟩ := hB
  have hl : lv_has ls 2 [(0, .ref m0), (1, .int x)] := hl
  have f46 := hts (.fieldLink RX11 46 "HiredEnemyModel" "s" "[I") (iwoX11_signs (k := 0) rfl)
  have inX11 : ∀ w ∈ wsX110, w ∈ wsX11_signs := innX11_signs_X11
  refine lv_aload_n hx hb dX11_signs_0 rfl (lv_at hl 0 rfl) ?_
  refine va_get (v := .ref sm) (T := TX11) (N := 35) hx hb hts inX11 hown hK hP 0 rfl rfl 19 (by decide) f46 (fun _ h9 => h9) rfl dX11_signs_1 ?_
  refine lv_bipush (v := 10) hx hb dX11_signs_4 (by decide) ?_
  refine lv_iload_n hx hb dX11_signs_6 rfl (lv_at hl 1 rfl) ?_
  refine he_iast hx hb hK hP hD hS 1 rfl (10) (by decide) (by decide) (by first | decide | assumption) dX11_signs_7 (fun H locs hP hD hS => ?_)
  have hP : va_P g.1 vwCl [(oX11 m0 tw ta sz_ pl at_ fa fw cs fd rfm rt_ to_ rw_ wa ct rk rb cn br sm as_ go sh_ ir oa ob th ig sp_ ki tg of_ kp sf rs), (aI g sm 25 (upd f 10 x))] H := hP
  have hD : va_D A [(oX11 m0 tw ta sz_ pl at_ fa fw cs fd rfm rt_ to_ rw_ wa ct rk rb cn br sm as_ go sh_ ir oa ob th ig sp_ ki tg of_ kp sf rs), (aI g sm 25 (upd f 10 x))] := hD
  refine lv_aload_n hx hb dX11_signs_8 rfl (lv_at hl 0 rfl) ?_
  refine va_get (v := .ref sm) (T := TX11) (N := 35) hx hb hts inX11 hown hK hP 0 rfl rfl 19 (by decide) f46 (fun _ h9 => h9) rfl dX11_signs_9 ?_
  refine lv_bipush (v := 11) hx hb dX11_signs_12 (by decide) ?_
  refine lv_iload_n hx hb dX11_signs_14 rfl (lv_at hl 1 rfl) ?_
  refine lv_iconst (v := (-1)) hx hb dX11_signs_15 (by decide) ?_
  refine lv_icmp_ne (tgt := 23) hx hb dX11_signs_16 (by decide) (fun c_1 => ?_) (fun c_1 => ?_)
  · refine lv_iconst (v := 0) hx hb dX11_signs_23 (by decide) ?_
    refine he_iast hx hb hK hP hD hS 1 rfl (11) (by decide) (by decide) (by first | decide | assumption) dX11_signs_24 (fun H locs hP hD hS => ?_)
    have hP : va_P g.1 vwCl [(oX11 m0 tw ta sz_ pl at_ fa fw cs fd rfm rt_ to_ rw_ wa ct rk rb cn br sm as_ go sh_ ir oa ob th ig sp_ ki tg of_ kp sf rs), (aI g sm 25 (upd (upd f 10 x) 11 0))] H := hP
    have hD : va_D A [(oX11 m0 tw ta sz_ pl at_ fa fw cs fd rfm rt_ to_ rw_ wa ct rk rb cn br sm as_ go sh_ ir oa ob th ig sp_ ki tg of_ kp sf rs), (aI g sm 25 (upd (upd f 10 x) 11 0))] := hD
    exact he_rv hQ hx hb hr hlk hP hD hS dX11_signs_25 (Nat.le_of_ble_eq_true rfl) (Nat.le_of_ble_eq_true rfl) (()) (by simp only [sgF, if_neg c_1]) (trivial)
  · refine lv_iconst (v := (-1)) hx hb dX11_signs_19 (by decide) ?_
    refine lv_goto (tgt := 24) hx hb dX11_signs_20 (by decide) ?_
    refine he_iast hx hb hK hP hD hS 1 rfl (11) (by decide) (by decide) (by first | decide | assumption) dX11_signs_24 (fun H locs hP hD hS => ?_)
    have hP : va_P g.1 vwCl [(oX11 m0 tw ta sz_ pl at_ fa fw cs fd rfm rt_ to_ rw_ wa ct rk rb cn br sm as_ go sh_ ir oa ob th ig sp_ ki tg of_ kp sf rs), (aI g sm 25 (upd (upd f 10 x) 11 (-1)))] H := hP
    have hD : va_D A [(oX11 m0 tw ta sz_ pl at_ fa fw cs fd rfm rt_ to_ rw_ wa ct rk rb cn br sm as_ go sh_ ir oa ob th ig sp_ ki tg of_ kp sf rs), (aI g sm 25 (upd (upd f 10 x) 11 (-1)))] := hD
    exact he_rv hQ hx hb hr hlk hP hD hS dX11_signs_25 (Nat.le_of_ble_eq_true rfl) (Nat.le_of_ble_eq_true rfl) (()) (by simp only [sgF, if_pos c_1]) (trivial)
set_option maxHeartbeats 4000000 in
set_option maxRecDepth 100000 in
theorem c_X11_pays (l : Launch) (g : he_G) (m0 : Nat) (fd : Nat) (rfm : Nat) (rt_ : Nat) (to_ : Nat) (rw_ : Nat) (wa : Nat) (rk : Nat) (rb : Nat) (cn : Nat) (br : Nat) (sm : Nat) (as_ : Nat) (go : Nat) (sh_ : Nat) (ki : Nat) (tg : Nat) (of_ : Nat) (kp : Nat) (rs : Nat) (ta : Int32) (sz_ : Int32) (pl : Int32) (at_ : Int32) (fa : Int32) (fw : Int32) (cs : Int32) (ct : Int32) (ir : Int32) (oa : Int32) (ob : Int32) (th : Int32) (ig : Int32) (sp_ : Int32) (sf : Int32) (tw : Int32) (f : Nat → Int32) (i : Nat) (j : Nat) (d : Int32) (hi : i < 25) (hj : j < 25) : he_V l yX11_pays wsX11_pays 1 21 0 0 g [.ref m0, .int (nI i), .int (nI j), .int d] [(oX11 m0 tw ta sz_ pl at_ fa fw cs fd rfm rt_ to_ rw_ wa ct rk rb cn br sm as_ go sh_ ir oa ob th ig sp_ ki tg of_ kp sf rs), (aI g sm 25 f)] (fun (u : Unit) => True) (fun (u : Unit) => [(oX11 m0 tw ta sz_ pl at_ fa fw cs fd rfm rt_ to_ rw_ wa ct rk rb cn br sm as_ go sh_ ir oa ob th ig sp_ ki tg of_ kp sf rs), (aI g sm 25 (mvF f i j d))]) := by
  refine he_begin (l := l) (g := g) (y := yX11_pays) (wl := wsX11_pays) (fr := 1) (lo := 21) (mc := 0) (ms := 0) (av := [.ref m0, .int (nI i), .int (nI j), .int d]) (ws := [(oX11 m0 tw ta sz_ pl at_ fa fw cs fd rfm rt_ to_ rw_ wa ct rk rb cn br sm as_ go sh_ ir oa ob th ig sp_ ki tg of_ kp sf rs), (aI g sm 25 f)]) (cc := cX11_pays) (maxL := 5) (ret := none) (fun A => va_Qv (fun (u : Unit) => True) (fun u t => he_post g A ((fun (u : Unit) => [(oX11 m0 tw ta sz_ pl at_ fa fw cs fd rfm rt_ to_ rw_ wa ct rk rb cn br sm as_ go sh_ ir oa ob th ig sp_ ki tg of_ kp sf rs), (aI g sm 25 (mvF f i j d))]) u) t) A) (by decide) rfl (Nat.le_of_ble_eq_true rfl) ?_
  intro p e s m args below meth c A ls H locs Q hQ hB
  obtain ⟨hx, hb, hr, hml, hown, hts, hlk, hin, hP, hK, hD, hS, hA, hE, hl⟩ := hB
  have hl : lv_has ls 5 [(0, .ref m0), (1, .int (nI i)), (2, .int (nI j)), (3, .int d)] := hl
  have f46 := hts (.fieldLink RX11 46 "HiredEnemyModel" "s" "[I") (iwoX11_pays (k := 0) rfl)
  have inX11 : ∀ w ∈ wsX110, w ∈ wsX11_pays := innX11_pays_X11
  refine lv_iload_n hx hb dX11_pays_0 rfl (lv_at hl 3 rfl) ?_
  refine lv_aload_n hx hb dX11_pays_1 rfl (lv_at hl 0 rfl) ?_
  refine va_get (v := .ref sm) (T := TX11) (N := 35) hx hb hts inX11 hown hK hP 0 rfl rfl 19 (by decide) f46 (fun _ h9 => h9) rfl dX11_pays_2 ?_
  refine lv_iload_n hx hb dX11_pays_5 rfl (lv_at hl 1 rfl) ?_
  refine he_iald hx hb hK hP 1 rfl (i) rfl (by first | assumption | decide | omega) (by first | decide | assumption) (f i) rfl dX11_pays_6 ?_
  refine he_ci (wc := []) (wr := [(oX11 m0 tw ta sz_ pl at_ fa fw cs fd rfm rt_ to_ rw_ wa ct rk rb cn br sm as_ go sh_ ir oa ob th ig sp_ ki tg of_ kp sf rs), (aI g sm 25 f)]) (va_runS (As := [.int d, .int (f i)]) (rest := []) ⟨hx, hb, hml, hown, hts⟩ (c_X11_less l g d (f i) H.size) (va_cwS 2 hts gX11_pays_X11_less rfl rfl rfl (by decide +kernel) ⟨Nat.le_of_ble_eq_true rfl, Nat.le_of_ble_eq_true rfl⟩) (he_preS (wc := []) hK hP hD hS hA hE [] rfl rfl) rfl rfl hl.1 rfl (lv_room (Nat.le_of_ble_eq_true rfl)) dX11_pays_7 ⟨(Nat.le_of_ble_eq_true rfl), (Nat.le_of_ble_eq_true rfl)⟩) hP hD hS hA [] [0, 1] rfl rfl rfl (by decide) (fun r_1 u_2 H locs h_3 hP hD hS => ?_)
  subst h_3
  have hP : va_P g.1 vwCl [(oX11 m0 tw ta sz_ pl at_ fa fw cs fd rfm rt_ to_ rw_ wa ct rk rb cn br sm as_ go sh_ ir oa ob th ig sp_ ki tg of_ kp sf rs), (aI g sm 25 f)] H := hP
  have hD : va_D A [(oX11 m0 tw ta sz_ pl at_ fa fw cs fd rfm rt_ to_ rw_ wa ct rk rb cn br sm as_ go sh_ ir oa ob th ig sp_ ki tg of_ kp sf rs), (aI g sm 25 f)] := hD
  refine lv_istore (lv' := [(4, .int (if (f i) < d then (f i) else d)), (0, .ref m0), (1, .int (nI i)), (2, .int (nI j)), (3, .int d)]) hx hb dX11_pays_10 hl (by decide) rfl (fun ls hl => ?_)
  refine lv_aload_n hx hb dX11_pays_12 rfl (lv_at hl 1 rfl) ?_
  refine va_get (v := .ref sm) (T := TX11) (N := 35) hx hb hts inX11 hown hK hP 0 rfl rfl 19 (by decide) f46 (fun _ h9 => h9) rfl dX11_pays_13 ?_
  refine lv_iload_n hx hb dX11_pays_16 rfl (lv_at hl 2 rfl) ?_
  refine lv_dup2_11 hx hb dX11_pays_17 rfl rfl ?_
  refine he_iald hx hb hK hP 1 rfl (i) rfl (by first | assumption | decide | omega) (by first | decide | assumption) (f i) rfl dX11_pays_18 ?_
  refine lv_iload hx hb dX11_pays_19 (lv_at hl 0 rfl) ?_
  refine lv_isub hx hb dX11_pays_21 ?_
  refine he_iast hx hb hK hP hD hS 1 rfl (i) rfl (by first | assumption | decide | omega) (by first | decide | assumption) dX11_pays_22 (fun H locs hP hD hS => ?_)
  have hP : va_P g.1 vwCl [(oX11 m0 tw ta sz_ pl at_ fa fw cs fd rfm rt_ to_ rw_ wa ct rk rb cn br sm as_ go sh_ ir oa ob th ig sp_ ki tg of_ kp sf rs), (aI g sm 25 (upd f i ((f i) - (if (f i) < d then (f i) else d))))] H := hP
  have hD : va_D A [(oX11 m0 tw ta sz_ pl at_ fa fw cs fd rfm rt_ to_ rw_ wa ct rk rb cn br sm as_ go sh_ ir oa ob th ig sp_ ki tg of_ kp sf rs), (aI g sm 25 (upd f i ((f i) - (if (f i) < d then (f i) else d))))] := hD
  refine lv_aload_n hx hb dX11_pays_23 rfl (lv_at hl 1 rfl) ?_
  refine va_get (v := .ref sm) (T := TX11) (N := 35) hx hb hts inX11 hown hK hP 0 rfl rfl 19 (by decide) f46 (fun _ h9 => h9) rfl dX11_pays_24 ?_
  refine lv_iload_n hx hb dX11_pays_27 rfl (lv_at hl 3 rfl) ?_
  refine lv_dup2_11 hx hb dX11_pays_28 rfl rfl ?_
  refine he_iald hx hb hK hP 1 rfl (j) rfl (by first | assumption | decide | omega) (by first | decide | assumption) ((upd f i ((f i) - (if (f i) < d then (f i) else d))) j) rfl dX11_pays_29 ?_
  refine lv_iload hx hb dX11_pays_30 (lv_at hl 0 rfl) ?_
  refine lv_iadd hx hb dX11_pays_32 ?_
  refine he_iast hx hb hK hP hD hS 1 rfl (j) rfl (by first | assumption | decide | omega) (by first | decide | assumption) dX11_pays_33 (fun H locs hP hD hS => ?_)
  have hP : va_P g.1 vwCl [(oX11 m0 tw ta sz_ pl at_ fa fw cs fd rfm rt_ to_ rw_ wa ct rk rb cn br sm as_ go sh_ ir oa ob th ig sp_ ki tg of_ kp sf rs), (aI g sm 25 (upd (upd f i ((f i) - (if (f i) < d then (f i) else d))) j (((upd f i ((f i) - (if (f i) < d then (f i) else d))) j) + (if (f i) < d then (f i) else d))))] H := hP
  have hD : va_D A [(oX11 m0 tw ta sz_ pl at_ fa fw cs fd rfm rt_ to_ rw_ wa ct rk rb cn br sm as_ go sh_ ir oa ob th ig sp_ ki tg of_ kp sf rs), (aI g sm 25 (upd (upd f i ((f i) - (if (f i) < d then (f i) else d))) j (((upd f i ((f i) - (if (f i) < d then (f i) else d))) j) + (if (f i) < d then (f i) else d))))] := hD
  exact he_rv hQ hx hb hr hlk hP hD hS dX11_pays_34 (Nat.le_of_ble_eq_true rfl) (Nat.le_of_ble_eq_true rfl) (()) (rfl) (trivial)
set_option maxHeartbeats 4000000 in
set_option maxRecDepth 100000 in
theorem c_X11_puts (l : Launch) (g : he_G) (m0 : Nat) (fd : Nat) (rfm : Nat) (rt_ : Nat) (to_ : Nat) (rw_ : Nat) (wa : Nat) (rk : Nat) (rb : Nat) (cn : Nat) (br : Nat) (sm : Nat) (as_ : Nat) (go : Nat) (sh_ : Nat) (ki : Nat) (tg : Nat) (of_ : Nat) (kp : Nat) (rs : Nat) (ta : Int32) (sz_ : Int32) (pl : Int32) (at_ : Int32) (fa : Int32) (fw : Int32) (cs : Int32) (ct : Int32) (ir : Int32) (oa : Int32) (ob : Int32) (th : Int32) (ig : Int32) (sp_ : Int32) (sf : Int32) (tw : Int32) (f : Nat → Int32) (g0 : Nat → Int32)  : he_V l yX11_puts wsX11_puts 0 0 0 0 g [.ref m0] [(oX11 m0 tw ta sz_ pl at_ fa fw cs fd rfm rt_ to_ rw_ wa ct rk rb cn br sm as_ go sh_ ir oa ob th ig sp_ ki tg of_ kp sf rs), (aI g sm 25 f), (aI g as_ 25 g0)] (fun (u : Unit) => True) (fun (u : Unit) => [(oX11 m0 tw ta sz_ pl at_ fa fw cs fd rfm rt_ to_ rw_ wa ct rk rb cn br sm as_ go sh_ ir oa ob th ig sp_ ki tg of_ kp sf rs), (aI g sm 25 f), (aI g as_ 25 (flF f g0 25))]) := by
  refine he_begin (l := l) (g := g) (y := yX11_puts) (wl := wsX11_puts) (fr := 0) (lo := 0) (mc := 0) (ms := 0) (av := [.ref m0]) (ws := [(oX11 m0 tw ta sz_ pl at_ fa fw cs fd rfm rt_ to_ rw_ wa ct rk rb cn br sm as_ go sh_ ir oa ob th ig sp_ ki tg of_ kp sf rs), (aI g sm 25 f), (aI g as_ 25 g0)]) (cc := cX11_puts) (maxL := 2) (ret := none) (fun A => va_Qv (fun (u : Unit) => True) (fun u t => he_post g A ((fun (u : Unit) => [(oX11 m0 tw ta sz_ pl at_ fa fw cs fd rfm rt_ to_ rw_ wa ct rk rb cn br sm as_ go sh_ ir oa ob th ig sp_ ki tg of_ kp sf rs), (aI g sm 25 f), (aI g as_ 25 (flF f g0 25))]) u) t) A) (by decide) rfl (Nat.le_of_ble_eq_true rfl) ?_
  intro p e s m args below meth c A ls H locs Q hQ hB
  obtain ⟨hx, hb, hr, hml, hown, hts, hlk, hin, hP, hK, hD, hS, hA, hE, hl⟩ := hB
  have hl : lv_has ls 2 [(0, .ref m0)] := hl
  have f49 := hts (.fieldLink RX11 49 "HiredEnemyModel" "aside" "[I") (iwoX11_puts (k := 0) rfl)
  have inX11 : ∀ w ∈ wsX110, w ∈ wsX11_puts := innX11_puts_X11
  have f46 := hts (.fieldLink RX11 46 "HiredEnemyModel" "s" "[I") (iwoX11_puts (k := 1) rfl)
  refine lv_iconst (v := 0) hx hb dX11_puts_0 (by decide) ?_
  refine lv_istore_n (lv' := [(1, .int 0), (0, .ref m0)]) hx hb dX11_puts_1 rfl hl (by decide) rfl (fun ls hl => ?_)
  have loop2 : ∀ (n9 : Nat) (j : Nat), 25 - j < n9 → (j ≤ 25) → ∀ (H : Heap) (locs : List Loc) (ls : Array Slot), va_P g.1 vwCl [(oX11 m0 tw ta sz_ pl at_ fa fw cs fd rfm rt_ to_ rw_ wa ct rk rb cn br sm as_ go sh_ ir oa ob th ig sp_ ki tg of_ kp sf rs), (aI g sm 25 f), (aI g as_ 25 (flF f g0 j))] H → va_D A [(oX11 m0 tw ta sz_ pl at_ fa fw cs fd rfm rt_ to_ rw_ wa ct rk rb cn br sm as_ go sh_ ir oa ob th ig sp_ ki tg of_ kp sf rs), (aI g sm 25 f), (aI g as_ 25 (flF f g0 j))] → va_S A s.heap H locs → lv_has ls 2 [(0, .ref m0), (1, .int (nI j))] → W p l e (he_room 0 0 0 0) s m args below meth c H locs 0 0 Q (F0 m 2 ls []) := by
    intro n9
    induction n9 with
    | zero => intro j hm9; exact absurd hm9 (Nat.not_lt_zero _)
    | succ n9 ih2 =>
      intro j hm9 hj H locs ls hP hD hS hl
      refine lv_iload_n hx hb dX11_puts_2 rfl (lv_at hl 1 rfl) ?_
      refine lv_bipush (v := 25) hx hb dX11_puts_3 (by decide) ?_
      refine lv_icmp_ge (tgt := 26) hx hb dX11_puts_5 (by decide) (fun c_1 => ?_) (fun c_1 => ?_)
      · have k_2 : 25 ≤ j := (he_cle (a := 25) (b := j) (by decide) rfl (by omega) (by omega)).mp c_1
        obtain rfl : j = 25 := by omega
        exact he_rv hQ hx hb hr hlk hP hD hS dX11_puts_26 (Nat.le_of_ble_eq_true rfl) (Nat.le_of_ble_eq_true rfl) (()) (rfl) (trivial)
      · have k_3 : ¬ (25 ≤ j) := fun h9 => c_1 ((he_cle (a := 25) (b := j) (by decide) rfl (by omega) (by omega)).mpr h9)
        refine lv_aload_n hx hb dX11_puts_8 rfl (lv_at hl 0 rfl) ?_
        refine va_get (v := .ref as_) (T := TX11) (N := 35) hx hb hts inX11 hown hK hP 0 rfl rfl 20 (by decide) f49 (fun _ h9 => h9) rfl dX11_puts_9 ?_
        refine lv_iload_n hx hb dX11_puts_12 rfl (lv_at hl 1 rfl) ?_
        refine lv_aload_n hx hb dX11_puts_13 rfl (lv_at hl 0 rfl) ?_
        refine va_get (v := .ref sm) (T := TX11) (N := 35) hx hb hts inX11 hown hK hP 0 rfl rfl 19 (by decide) f46 (fun _ h9 => h9) rfl dX11_puts_14 ?_
        refine lv_iload_n hx hb dX11_puts_17 rfl (lv_at hl 1 rfl) ?_
        refine he_iald hx hb hK hP 1 rfl (j) rfl (by first | assumption | decide | omega) (by first | decide | assumption) (f j) rfl dX11_puts_18 ?_
        refine he_iast hx hb hK hP hD hS 2 rfl (j) rfl (by first | assumption | decide | omega) (by first | decide | assumption) dX11_puts_19 (fun H locs hP hD hS => ?_)
        have hP : va_P g.1 vwCl [(oX11 m0 tw ta sz_ pl at_ fa fw cs fd rfm rt_ to_ rw_ wa ct rk rb cn br sm as_ go sh_ ir oa ob th ig sp_ ki tg of_ kp sf rs), (aI g sm 25 f), (aI g as_ 25 (upd (flF f g0 j) j (f j)))] H := hP
        have hD : va_D A [(oX11 m0 tw ta sz_ pl at_ fa fw cs fd rfm rt_ to_ rw_ wa ct rk rb cn br sm as_ go sh_ ir oa ob th ig sp_ ki tg of_ kp sf rs), (aI g sm 25 f), (aI g as_ 25 (upd (flF f g0 j) j (f j)))] := hD
        refine lv_iinc (v := nI (j + 1)) (lv' := [(1, .int (nI (j + 1))), (0, .ref m0)]) hx hb dX11_puts_20 hl (k := 1) rfl (nI_1 j) (by decide) rfl (fun ls hl => ?_)
        refine lv_goto (tgt := 2) hx hb dX11_puts_23 (by decide) ?_
        have hP : va_P g.1 vwCl [(oX11 m0 tw ta sz_ pl at_ fa fw cs fd rfm rt_ to_ rw_ wa ct rk rb cn br sm as_ go sh_ ir oa ob th ig sp_ ki tg of_ kp sf rs), (aI g sm 25 f), (aI g as_ 25 (flF f g0 (j + 1)))] H := by rw [← flF_s]; exact hP
        have hD : va_D A [(oX11 m0 tw ta sz_ pl at_ fa fw cs fd rfm rt_ to_ rw_ wa ct rk rb cn br sm as_ go sh_ ir oa ob th ig sp_ ki tg of_ kp sf rs), (aI g sm 25 f), (aI g as_ 25 (flF f g0 (j + 1)))] := by rw [← flF_s]; exact hD
        exact ih2 (j + 1) (by omega) (by omega) _ _ _ hP hD hS (lv_sub hl [1, 0] rfl)
  have hP : va_P g.1 vwCl [(oX11 m0 tw ta sz_ pl at_ fa fw cs fd rfm rt_ to_ rw_ wa ct rk rb cn br sm as_ go sh_ ir oa ob th ig sp_ ki tg of_ kp sf rs), (aI g sm 25 f), (aI g as_ 25 (flF f g0 0))] H := by rw [flF_0]; exact hP
  have hD : va_D A [(oX11 m0 tw ta sz_ pl at_ fa fw cs fd rfm rt_ to_ rw_ wa ct rk rb cn br sm as_ go sh_ ir oa ob th ig sp_ ki tg of_ kp sf rs), (aI g sm 25 f), (aI g as_ 25 (flF f g0 0))] := by rw [flF_0]; exact hD
  exact loop2 ((25 - 0) + 1) 0 (Nat.lt_succ_self _) (Nat.zero_le _) _ _ _ hP hD hS (lv_sub hl [1, 0] rfl)
set_option maxHeartbeats 4000000 in
set_option maxRecDepth 100000 in
theorem c_X11_takes (l : Launch) (g : he_G) (m0 : Nat) (fd : Nat) (rfm : Nat) (rt_ : Nat) (to_ : Nat) (rw_ : Nat) (wa : Nat) (rk : Nat) (rb : Nat) (cn : Nat) (br : Nat) (sm : Nat) (as_ : Nat) (go : Nat) (sh_ : Nat) (ki : Nat) (tg : Nat) (of_ : Nat) (kp : Nat) (rs : Nat) (ta : Int32) (sz_ : Int32) (pl : Int32) (at_ : Int32) (fa : Int32) (fw : Int32) (cs : Int32) (ct : Int32) (ir : Int32) (oa : Int32) (ob : Int32) (th : Int32) (ig : Int32) (sp_ : Int32) (sf : Int32) (tw : Int32) (f : Nat → Int32) (g0 : Nat → Int32)  : he_V l yX11_takes wsX11_takes 0 0 0 0 g [.ref m0] [(oX11 m0 tw ta sz_ pl at_ fa fw cs fd rfm rt_ to_ rw_ wa ct rk rb cn br sm as_ go sh_ ir oa ob th ig sp_ ki tg of_ kp sf rs), (aI g sm 25 f), (aI g as_ 25 g0)] (fun (u : Unit) => True) (fun (u : Unit) => [(oX11 m0 tw ta sz_ pl at_ fa fw cs fd rfm rt_ to_ rw_ wa ct rk rb cn br sm as_ go sh_ ir oa ob th ig sp_ ki tg of_ kp sf rs), (aI g sm 25 (flF g0 f 25)), (aI g as_ 25 g0)]) := by
  refine he_begin (l := l) (g := g) (y := yX11_takes) (wl := wsX11_takes) (fr := 0) (lo := 0) (mc := 0) (ms := 0) (av := [.ref m0]) (ws := [(oX11 m0 tw ta sz_ pl at_ fa fw cs fd rfm rt_ to_ rw_ wa ct rk rb cn br sm as_ go sh_ ir oa ob th ig sp_ ki tg of_ kp sf rs), (aI g sm 25 f), (aI g as_ 25 g0)]) (cc := cX11_takes) (maxL := 2) (ret := none) (fun A => va_Qv (fun (u : Unit) => True) (fun u t => he_post g A ((fun (u : Unit) => [(oX11 m0 tw ta sz_ pl at_ fa fw cs fd rfm rt_ to_ rw_ wa ct rk rb cn br sm as_ go sh_ ir oa ob th ig sp_ ki tg of_ kp sf rs), (aI g sm 25 (flF g0 f 25)), (aI g as_ 25 g0)]) u) t) A) (by decide) rfl (Nat.le_of_ble_eq_true rfl) ?_
  intro p e s m args below meth c A ls H locs Q hQ hB
  obtain ⟨hx, hb, hr, hml, hown, hts, hlk, hin, hP, hK, hD, hS, hA, hE, hl⟩ := hB
  have hl : lv_has ls 2 [(0, .ref m0)] := hl
  have f46 := hts (.fieldLink RX11 46 "HiredEnemyModel" "s" "[I") (iwoX11_takes (k := 0) rfl)
  have inX11 : ∀ w ∈ wsX110, w ∈ wsX11_takes := innX11_takes_X11
  have f49 := hts (.fieldLink RX11 49 "HiredEnemyModel" "aside" "[I") (iwoX11_takes (k := 1) rfl)
  refine lv_iconst (v := 0) hx hb dX11_takes_0 (by decide) ?_
  refine lv_istore_n (lv' := [(1, .int 0), (0, .ref m0)]) hx hb dX11_takes_1 rfl hl (by decide) rfl (fun ls hl => ?_)
  have loop2 : ∀ (n9 : Nat) (j : Nat), 25 - j < n9 → (j ≤ 25) → ∀ (H : Heap) (locs : List Loc) (ls : Array Slot), va_P g.1 vwCl [(oX11 m0 tw ta sz_ pl at_ fa fw cs fd rfm rt_ to_ rw_ wa ct rk rb cn br sm as_ go sh_ ir oa ob th ig sp_ ki tg of_ kp sf rs), (aI g sm 25 (flF g0 f j)), (aI g as_ 25 g0)] H → va_D A [(oX11 m0 tw ta sz_ pl at_ fa fw cs fd rfm rt_ to_ rw_ wa ct rk rb cn br sm as_ go sh_ ir oa ob th ig sp_ ki tg of_ kp sf rs), (aI g sm 25 (flF g0 f j)), (aI g as_ 25 g0)] → va_S A s.heap H locs → lv_has ls 2 [(0, .ref m0), (1, .int (nI j))] → W p l e (he_room 0 0 0 0) s m args below meth c H locs 0 0 Q (F0 m 2 ls []) := by
    intro n9
    induction n9 with
    | zero => intro j hm9; exact absurd hm9 (Nat.not_lt_zero _)
    | succ n9 ih2 =>
      intro j hm9 hj H locs ls hP hD hS hl
      refine lv_iload_n hx hb dX11_takes_2 rfl (lv_at hl 1 rfl) ?_
      refine lv_bipush (v := 25) hx hb dX11_takes_3 (by decide) ?_
      refine lv_icmp_ge (tgt := 26) hx hb dX11_takes_5 (by decide) (fun c_1 => ?_) (fun c_1 => ?_)
      · have k_2 : 25 ≤ j := (he_cle (a := 25) (b := j) (by decide) rfl (by omega) (by omega)).mp c_1
        obtain rfl : j = 25 := by omega
        exact he_rv hQ hx hb hr hlk hP hD hS dX11_takes_26 (Nat.le_of_ble_eq_true rfl) (Nat.le_of_ble_eq_true rfl) (()) (rfl) (trivial)
      · have k_3 : ¬ (25 ≤ j) := fun h9 => c_1 ((he_cle (a := 25) (b := j) (by decide) rfl (by omega) (by omega)).mpr h9)
        refine lv_aload_n hx hb dX11_takes_8 rfl (lv_at hl 0 rfl) ?_
        refine va_get (v := .ref sm) (T := TX11) (N := 35) hx hb hts inX11 hown hK hP 0 rfl rfl 19 (by decide) f46 (fun _ h9 => h9) rfl dX11_takes_9 ?_
        refine lv_iload_n hx hb dX11_takes_12 rfl (lv_at hl 1 rfl) ?_
        refine lv_aload_n hx hb dX11_takes_13 rfl (lv_at hl 0 rfl) ?_
        refine va_get (v := .ref as_) (T := TX11) (N := 35) hx hb hts inX11 hown hK hP 0 rfl rfl 20 (by decide) f49 (fun _ h9 => h9) rfl dX11_takes_14 ?_
        refine lv_iload_n hx hb dX11_takes_17 rfl (lv_at hl 1 rfl) ?_
        refine he_iald hx hb hK hP 2 rfl (j) rfl (by first | assumption | decide | omega) (by first | decide | assumption) (g0 j) rfl dX11_takes_18 ?_
        refine he_iast hx hb hK hP hD hS 1 rfl (j) rfl (by first | assumption | decide | omega) (by first | decide | assumption) dX11_takes_19 (fun H locs hP hD hS => ?_)
        have hP : va_P g.1 vwCl [(oX11 m0 tw ta sz_ pl at_ fa fw cs fd rfm rt_ to_ rw_ wa ct rk rb cn br sm as_ go sh_ ir oa ob th ig sp_ ki tg of_ kp sf rs), (aI g sm 25 (upd (flF g0 f j) j (g0 j))), (aI g as_ 25 g0)] H := hP
        have hD : va_D A [(oX11 m0 tw ta sz_ pl at_ fa fw cs fd rfm rt_ to_ rw_ wa ct rk rb cn br sm as_ go sh_ ir oa ob th ig sp_ ki tg of_ kp sf rs), (aI g sm 25 (upd (flF g0 f j) j (g0 j))), (aI g as_ 25 g0)] := hD
        refine lv_iinc (v := nI (j + 1)) (lv' := [(1, .int (nI (j + 1))), (0, .ref m0)]) hx hb dX11_takes_20 hl (k := 1) rfl (nI_1 j) (by decide) rfl (fun ls hl => ?_)
        refine lv_goto (tgt := 2) hx hb dX11_takes_23 (by decide) ?_
        have hP : va_P g.1 vwCl [(oX11 m0 tw ta sz_ pl at_ fa fw cs fd rfm rt_ to_ rw_ wa ct rk rb cn br sm as_ go sh_ ir oa ob th ig sp_ ki tg of_ kp sf rs), (aI g sm 25 (flF g0 f (j + 1))), (aI g as_ 25 g0)] H := by rw [← flF_s]; exact hP
        have hD : va_D A [(oX11 m0 tw ta sz_ pl at_ fa fw cs fd rfm rt_ to_ rw_ wa ct rk rb cn br sm as_ go sh_ ir oa ob th ig sp_ ki tg of_ kp sf rs), (aI g sm 25 (flF g0 f (j + 1))), (aI g as_ 25 g0)] := by rw [← flF_s]; exact hD
        exact ih2 (j + 1) (by omega) (by omega) _ _ _ hP hD hS (lv_sub hl [1, 0] rfl)
  have hP : va_P g.1 vwCl [(oX11 m0 tw ta sz_ pl at_ fa fw cs fd rfm rt_ to_ rw_ wa ct rk rb cn br sm as_ go sh_ ir oa ob th ig sp_ ki tg of_ kp sf rs), (aI g sm 25 (flF g0 f 0)), (aI g as_ 25 g0)] H := by rw [flF_0]; exact hP
  have hD : va_D A [(oX11 m0 tw ta sz_ pl at_ fa fw cs fd rfm rt_ to_ rw_ wa ct rk rb cn br sm as_ go sh_ ir oa ob th ig sp_ ki tg of_ kp sf rs), (aI g sm 25 (flF g0 f 0)), (aI g as_ 25 g0)] := by rw [flF_0]; exact hD
  exact loop2 ((25 - 0) + 1) 0 (Nat.lt_succ_self _) (Nat.zero_le _) _ _ _ hP hD hS (lv_sub hl [1, 0] rfl)
set_option maxHeartbeats 4000000 in
set_option maxRecDepth 100000 in
theorem c_X11_areMonths (l : Launch) (g : he_G) (x : Int32)  : he_I l yX11_areMonths wsX11_areMonths 1 22 0 0 g [.int x] [] (fun (r : Int32) (u : Unit) => r = he_within x 1 60) (fun (u : Unit) => []) := by
  refine he_begin (l := l) (g := g) (y := yX11_areMonths) (wl := wsX11_areMonths) (fr := 1) (lo := 22) (mc := 0) (ms := 0) (av := [.int x]) (ws := []) (cc := cX11_areMonths) (maxL := 1) (ret := (some .boolean)) (fun A => va_Qi (fun (r : Int32) (u : Unit) => r = he_within x 1 60) (fun u t => he_post g A ((fun (u : Unit) => []) u) t) A) (by decide) rfl (Nat.le_of_ble_eq_true rfl) ?_
  intro p e s m args below meth c A ls H locs Q hQ hB
  obtain ⟨hx, hb, hr, hml, hown, hts, hlk, hin, hP, hK, hD, hS, hA, hE, hl⟩ := hB
  have hl : lv_has ls 1 [(0, .int x)] := hl
  refine lv_iload_n hx hb dX11_areMonths_0 rfl (lv_at hl 0 rfl) ?_
  refine lv_iconst (v := 1) hx hb dX11_areMonths_1 (by decide) ?_
  refine lv_bipush (v := 60) hx hb dX11_areMonths_2 (by decide) ?_
  refine he_ci (wc := []) (wr := []) (va_runS (As := [.int x, .int 1, .int 60]) (rest := []) ⟨hx, hb, hml, hown, hts⟩ (c_X11_in l g x 1 60 H.size) (va_cwS 3 hts gX11_areMonths_X11_in rfl rfl rfl (by decide +kernel) ⟨Nat.le_of_ble_eq_true rfl, Nat.le_of_ble_eq_true rfl⟩) (he_preS (wc := []) hK hP hD hS hA hE [] rfl rfl) rfl rfl hl.1 rfl (lv_room (Nat.le_of_ble_eq_true rfl)) dX11_areMonths_4 ⟨(Nat.le_of_ble_eq_true rfl), (Nat.le_of_ble_eq_true rfl)⟩) hP hD hS hA [] [] rfl rfl rfl (by decide) (fun r_1 u_2 H locs h_3 hP hD hS => ?_)
  subst h_3
  have hP : va_P g.1 vwCl [] H := hP
  have hD : va_D A [] := hD
  exact he_rz hQ hx hb hr hlk hP hD hS dX11_areMonths_7 (Nat.le_of_ble_eq_true rfl) (Nat.le_of_ble_eq_true rfl) (he_wnar _ _ _) (()) (rfl) (rfl)
set_option maxHeartbeats 4000000 in
set_option maxRecDepth 100000 in
theorem c_X11_fears (l : Launch) (g : he_G) (m0 : Nat) (fd : Nat) (rfm : Nat) (rt_ : Nat) (to_ : Nat) (rw_ : Nat) (wa : Nat) (rk : Nat) (rb : Nat) (cn : Nat) (br : Nat) (sm : Nat) (as_ : Nat) (go : Nat) (sh_ : Nat) (ki : Nat) (tg : Nat) (of_ : Nat) (kp : Nat) (rs : Nat) (ta : Int32) (sz_ : Int32) (pl : Int32) (at_ : Int32) (fa : Int32) (fw : Int32) (cs : Int32) (ct : Int32) (ir : Int32) (oa : Int32) (ob : Int32) (th : Int32) (ig : Int32) (sp_ : Int32) (sf : Int32) (tw : Int32) (f : Nat → Int32) (x : Int32)  : he_V l yX11_fears wsX11_fears 1 21 0 0 g [.ref m0, .int x] [(oX11 m0 tw ta sz_ pl at_ fa fw cs fd rfm rt_ to_ rw_ wa ct rk rb cn br sm as_ go sh_ ir oa ob th ig sp_ ki tg of_ kp sf rs), (aI g sm 25 f)] (fun (u : Unit) => True) (fun (u : Unit) => [(oX11 m0 tw ta sz_ pl at_ fa fw cs fd rfm rt_ to_ rw_ wa ct rk rb cn br sm as_ go sh_ ir oa ob th ig sp_ ki tg of_ kp sf rs), (aI g sm 25 (frF f x))]) := by
  refine he_begin (l := l) (g := g) (y := yX11_fears) (wl := wsX11_fears) (fr := 1) (lo := 21) (mc := 0) (ms := 0) (av := [.ref m0, .int x]) (ws := [(oX11 m0 tw ta sz_ pl at_ fa fw cs fd rfm rt_ to_ rw_ wa ct rk rb cn br sm as_ go sh_ ir oa ob th ig sp_ ki tg of_ kp sf rs), (aI g sm 25 f)]) (cc := cX11_fears) (maxL := 2) (ret := none) (fun A => va_Qv (fun (u : Unit) => True) (fun u t => he_post g A ((fun (u : Unit) => [(oX11 m0 tw ta sz_ pl at_ fa fw cs fd rfm rt_ to_ rw_ wa ct rk rb cn br sm as_ go sh_ ir oa ob th ig sp_ ki tg of_ kp sf rs), (aI g sm 25 (frF f x))]) u) t) A) (by decide) rfl (Nat.le_of_ble_eq_true rfl) ?_
  intro p e s m args below meth c A ls H locs Q hQ hB
  obtain ⟨hx, hb, hr, hml, hown, hts, hlk, hin, hP, hK, hD, hS, hA, hE, hl⟩ := hB
  have hl : lv_has ls 2 [(0, .ref m0), (1, .int x)] := hl
  have f46 := hts (.fieldLink RX11 46 "HiredEnemyModel" "s" "[I") (iwoX11_fears (k := 0) rfl)
  have inX11 : ∀ w ∈ wsX110, w ∈ wsX11_fears := innX11_fears_X11
  refine lv_aload_n hx hb dX11_fears_0 rfl (lv_at hl 0 rfl) ?_
  refine va_get (v := .ref sm) (T := TX11) (N := 35) hx hb hts inX11 hown hK hP 0 rfl rfl 19 (by decide) f46 (fun _ h9 => h9) rfl dX11_fears_1 ?_
  refine lv_iconst (v := 5) hx hb dX11_fears_4 (by decide) ?_
  refine lv_bipush (v := 100) hx hb dX11_fears_5 (by decide) ?_
  refine lv_aload_n hx hb dX11_fears_7 rfl (lv_at hl 0 rfl) ?_
  refine va_get (v := .ref sm) (T := TX11) (N := 35) hx hb hts inX11 hown hK hP 0 rfl rfl 19 (by decide) f46 (fun _ h9 => h9) rfl dX11_fears_8 ?_
  refine lv_iconst (v := 5) hx hb dX11_fears_11 (by decide) ?_
  refine he_iald hx hb hK hP 1 rfl (5) (by decide) (by decide) (by first | decide | assumption) (f 5) rfl dX11_fears_12 ?_
  refine lv_iload_n hx hb dX11_fears_13 rfl (lv_at hl 1 rfl) ?_
  refine lv_iadd hx hb dX11_fears_14 ?_
  refine he_ci (wc := []) (wr := [(oX11 m0 tw ta sz_ pl at_ fa fw cs fd rfm rt_ to_ rw_ wa ct rk rb cn br sm as_ go sh_ ir oa ob th ig sp_ ki tg of_ kp sf rs), (aI g sm 25 f)]) (va_runS (As := [.int 100, .int ((f 5) + x)]) (rest := [.int 5, .ref sm]) ⟨hx, hb, hml, hown, hts⟩ (c_X11_less l g 100 ((f 5) + x) H.size) (va_cwS 2 hts gX11_fears_X11_less rfl rfl rfl (by decide +kernel) ⟨Nat.le_of_ble_eq_true rfl, Nat.le_of_ble_eq_true rfl⟩) (he_preS (wc := []) hK hP hD hS hA hE [] rfl rfl) rfl rfl hl.1 rfl (lv_room (Nat.le_of_ble_eq_true rfl)) dX11_fears_15 ⟨(Nat.le_of_ble_eq_true rfl), (Nat.le_of_ble_eq_true rfl)⟩) hP hD hS hA [] [0, 1] rfl rfl rfl (by decide) (fun r_1 u_2 H locs h_3 hP hD hS => ?_)
  subst h_3
  have hP : va_P g.1 vwCl [(oX11 m0 tw ta sz_ pl at_ fa fw cs fd rfm rt_ to_ rw_ wa ct rk rb cn br sm as_ go sh_ ir oa ob th ig sp_ ki tg of_ kp sf rs), (aI g sm 25 f)] H := hP
  have hD : va_D A [(oX11 m0 tw ta sz_ pl at_ fa fw cs fd rfm rt_ to_ rw_ wa ct rk rb cn br sm as_ go sh_ ir oa ob th ig sp_ ki tg of_ kp sf rs), (aI g sm 25 f)] := hD
  refine he_iast hx hb hK hP hD hS 1 rfl (5) (by decide) (by decide) (by first | decide | assumption) dX11_fears_18 (fun H locs hP hD hS => ?_)
  have hP : va_P g.1 vwCl [(oX11 m0 tw ta sz_ pl at_ fa fw cs fd rfm rt_ to_ rw_ wa ct rk rb cn br sm as_ go sh_ ir oa ob th ig sp_ ki tg of_ kp sf rs), (aI g sm 25 (upd f 5 (if ((f 5) + x) < 100 then ((f 5) + x) else 100)))] H := hP
  have hD : va_D A [(oX11 m0 tw ta sz_ pl at_ fa fw cs fd rfm rt_ to_ rw_ wa ct rk rb cn br sm as_ go sh_ ir oa ob th ig sp_ ki tg of_ kp sf rs), (aI g sm 25 (upd f 5 (if ((f 5) + x) < 100 then ((f 5) + x) else 100)))] := hD
  exact he_rv hQ hx hb hr hlk hP hD hS dX11_fears_19 (Nat.le_of_ble_eq_true rfl) (Nat.le_of_ble_eq_true rfl) (()) (rfl) (trivial)
set_option maxHeartbeats 4000000 in
set_option maxRecDepth 100000 in
theorem c_X11_mayServe (l : Launch) (g : he_G) (i : Nat) (j : Nat) (hi : i < 3) (hj : j < 3) : he_I l yX11_mayServe wsX11_mayServe 0 0 0 0 g [.int (nI i), .int (nI j)] [] (fun (r : Int32) (u : Unit) => r = mfF i j) (fun (u : Unit) => []) := by
  refine he_begin (l := l) (g := g) (y := yX11_mayServe) (wl := wsX11_mayServe) (fr := 0) (lo := 0) (mc := 0) (ms := 0) (av := [.int (nI i), .int (nI j)]) (ws := []) (cc := cX11_mayServe) (maxL := 2) (ret := (some .boolean)) (fun A => va_Qi (fun (r : Int32) (u : Unit) => r = mfF i j) (fun u t => he_post g A ((fun (u : Unit) => []) u) t) A) (by decide) rfl (Nat.le_of_ble_eq_true rfl) ?_
  intro p e s m args below meth c A ls H locs Q hQ hB
  obtain ⟨hx, hb, hr, hml, hown, hts, hlk, hin, hP, hK, hD, hS, hA, hE, hl⟩ := hB
  have hl : lv_has ls 2 [(0, .int (nI i)), (1, .int (nI j))] := hl
  refine lv_iload_n hx hb dX11_mayServe_0 rfl (lv_at hl 0 rfl) ?_
  refine lv_if_eq (tgt := 13) hx hb dX11_mayServe_1 (by decide) (fun c_1 => ?_) (fun c_1 => ?_)
  · have k_2 : i = 0 := (he_ceq (a := i) (b := 0) rfl (by decide) (by omega) (by omega)).mp c_1
    refine lv_iconst (v := 1) hx hb dX11_mayServe_13 (by decide) ?_
    refine lv_goto (tgt := 18) hx hb dX11_mayServe_14 (by decide) ?_
    exact he_rz hQ hx hb hr hlk hP hD hS dX11_mayServe_18 (Nat.le_of_ble_eq_true rfl) (Nat.le_of_ble_eq_true rfl) rfl (()) (rfl) (by simp [mfF]; omega)
  · have k_3 : ¬ (i = 0) := fun h9 => c_1 ((he_ceq (a := i) (b := 0) rfl (by decide) (by omega) (by omega)).mpr h9)
    refine lv_iload_n hx hb dX11_mayServe_4 rfl (lv_at hl 1 rfl) ?_
    refine lv_if_eq (tgt := 13) hx hb dX11_mayServe_5 (by decide) (fun c_4 => ?_) (fun c_4 => ?_)
    · have k_5 : j = 0 := (he_ceq (a := j) (b := 0) rfl (by decide) (by omega) (by omega)).mp c_4
      refine lv_iconst (v := 1) hx hb dX11_mayServe_13 (by decide) ?_
      refine lv_goto (tgt := 18) hx hb dX11_mayServe_14 (by decide) ?_
      exact he_rz hQ hx hb hr hlk hP hD hS dX11_mayServe_18 (Nat.le_of_ble_eq_true rfl) (Nat.le_of_ble_eq_true rfl) rfl (()) (rfl) (by simp [mfF]; omega)
    · have k_6 : ¬ (j = 0) := fun h9 => c_4 ((he_ceq (a := j) (b := 0) rfl (by decide) (by omega) (by omega)).mpr h9)
      refine lv_iload_n hx hb dX11_mayServe_8 rfl (lv_at hl 0 rfl) ?_
      refine lv_iload_n hx hb dX11_mayServe_9 rfl (lv_at hl 1 rfl) ?_
      refine lv_icmp_ne (tgt := 17) hx hb dX11_mayServe_10 (by decide) (fun c_7 => ?_) (fun c_7 => ?_)
      · have k_8 : ¬ (i = j) := fun h9 => c_7 ((he_ceq (a := i) (b := j) rfl rfl (by omega) (by omega)).mpr h9)
        refine lv_iconst (v := 0) hx hb dX11_mayServe_17 (by decide) ?_
        exact he_rz hQ hx hb hr hlk hP hD hS dX11_mayServe_18 (Nat.le_of_ble_eq_true rfl) (Nat.le_of_ble_eq_true rfl) rfl (()) (rfl) (by simp [mfF]; omega)
      · have k_9 : i = j := (he_ceq (a := i) (b := j) rfl rfl (by omega) (by omega)).mp c_7
        refine lv_iconst (v := 1) hx hb dX11_mayServe_13 (by decide) ?_
        refine lv_goto (tgt := 18) hx hb dX11_mayServe_14 (by decide) ?_
        exact he_rz hQ hx hb hr hlk hP hD hS dX11_mayServe_18 (Nat.le_of_ble_eq_true rfl) (Nat.le_of_ble_eq_true rfl) rfl (()) (rfl) (by simp [mfF]; omega)
set_option maxHeartbeats 4000000 in
set_option maxRecDepth 100000 in
theorem c_X11_areTens1 (l : Launch) (g : he_G) (x : Int32) (y : Int32) (hok0 : ¬ he_within x 0 6 = 0) (hok1 : ¬ he_within y 0 6 = 0) : he_I l yX11_areTens wsX11_areTens 1 22 0 0 g [.int x, .int y] [] (fun (r : Int32) (u : Unit) => r = 1) (fun (u : Unit) => []) := by
  refine he_begin (l := l) (g := g) (y := yX11_areTens) (wl := wsX11_areTens) (fr := 1) (lo := 22) (mc := 0) (ms := 0) (av := [.int x, .int y]) (ws := []) (cc := cX11_areTens) (maxL := 2) (ret := (some .boolean)) (fun A => va_Qi (fun (r : Int32) (u : Unit) => r = 1) (fun u t => he_post g A ((fun (u : Unit) => []) u) t) A) (by decide) rfl (Nat.le_of_ble_eq_true rfl) ?_
  intro p e s m args below meth c A ls H locs Q hQ hB
  obtain ⟨hx, hb, hr, hml, hown, hts, hlk, hin, hP, hK, hD, hS, hA, hE, hl⟩ := hB
  have hl : lv_has ls 2 [(0, .int x), (1, .int y)] := hl
  refine lv_iload_n hx hb dX11_areTens_0 rfl (lv_at hl 0 rfl) ?_
  refine lv_iconst (v := 0) hx hb dX11_areTens_1 (by decide) ?_
  refine lv_bipush (v := 6) hx hb dX11_areTens_2 (by decide) ?_
  refine he_ci (wc := []) (wr := []) (va_runS (As := [.int x, .int 0, .int 6]) (rest := []) ⟨hx, hb, hml, hown, hts⟩ (c_X11_in l g x 0 6 H.size) (va_cwS 3 hts gX11_areTens_X11_in rfl rfl rfl (by decide +kernel) ⟨Nat.le_of_ble_eq_true rfl, Nat.le_of_ble_eq_true rfl⟩) (he_preS (wc := []) hK hP hD hS hA hE [] rfl rfl) rfl rfl hl.1 rfl (lv_room (Nat.le_of_ble_eq_true rfl)) dX11_areTens_4 ⟨(Nat.le_of_ble_eq_true rfl), (Nat.le_of_ble_eq_true rfl)⟩) hP hD hS hA [] [] rfl rfl rfl (by decide) (fun r_1 u_2 H locs h_3 hP hD hS => ?_)
  subst h_3
  have hP : va_P g.1 vwCl [] H := hP
  have hD : va_D A [] := hD
  refine he_top (1) (he_within_1 hok0) ?_
  refine lv_if_eq (tgt := 24) hx hb dX11_areTens_7 (by decide) (fun c_4 => ?_) (fun c_4 => ?_)
  · exact absurd c_4 (by decide)
  · refine lv_iload_n hx hb dX11_areTens_10 rfl (lv_at hl 1 rfl) ?_
    refine lv_iconst (v := 0) hx hb dX11_areTens_11 (by decide) ?_
    refine lv_bipush (v := 6) hx hb dX11_areTens_12 (by decide) ?_
    refine he_ci (wc := []) (wr := []) (va_runS (As := [.int y, .int 0, .int 6]) (rest := []) ⟨hx, hb, hml, hown, hts⟩ (c_X11_in l g y 0 6 H.size) (va_cwS 3 hts gX11_areTens_X11_in rfl rfl rfl (by decide +kernel) ⟨Nat.le_of_ble_eq_true rfl, Nat.le_of_ble_eq_true rfl⟩) (he_preS (wc := []) hK hP hD hS hA hE [] rfl rfl) rfl rfl hl.1 rfl (lv_room (Nat.le_of_ble_eq_true rfl)) dX11_areTens_14 ⟨(Nat.le_of_ble_eq_true rfl), (Nat.le_of_ble_eq_true rfl)⟩) hP hD hS hA [] [] rfl rfl rfl (by decide) (fun r_5 u_6 H locs h_7 hP hD hS => ?_)
    subst h_7
    have hP : va_P g.1 vwCl [] H := hP
    have hD : va_D A [] := hD
    refine he_top (1) (he_within_1 hok1) ?_
    refine lv_if_eq (tgt := 24) hx hb dX11_areTens_17 (by decide) (fun c_8 => ?_) (fun c_8 => ?_)
    · exact absurd c_8 (by decide)
    · refine lv_iconst (v := 1) hx hb dX11_areTens_20 (by decide) ?_
      refine lv_goto (tgt := 25) hx hb dX11_areTens_21 (by decide) ?_
      exact he_rz hQ hx hb hr hlk hP hD hS dX11_areTens_25 (Nat.le_of_ble_eq_true rfl) (Nat.le_of_ble_eq_true rfl) rfl (()) (rfl) (rfl)
set_option maxHeartbeats 4000000 in
set_option maxRecDepth 100000 in
theorem c_X11_areTens0 (l : Launch) (g : he_G) (x : Int32) (y : Int32) (hb6 : he_within x 0 6 = 0 ∨ he_within y 0 6 = 0) : he_I l yX11_areTens wsX11_areTens 1 22 0 0 g [.int x, .int y] [] (fun (r : Int32) (u : Unit) => r = 0) (fun (u : Unit) => []) := by
  refine he_begin (l := l) (g := g) (y := yX11_areTens) (wl := wsX11_areTens) (fr := 1) (lo := 22) (mc := 0) (ms := 0) (av := [.int x, .int y]) (ws := []) (cc := cX11_areTens) (maxL := 2) (ret := (some .boolean)) (fun A => va_Qi (fun (r : Int32) (u : Unit) => r = 0) (fun u t => he_post g A ((fun (u : Unit) => []) u) t) A) (by decide) rfl (Nat.le_of_ble_eq_true rfl) ?_
  intro p e s m args below meth c A ls H locs Q hQ hB
  obtain ⟨hx, hb, hr, hml, hown, hts, hlk, hin, hP, hK, hD, hS, hA, hE, hl⟩ := hB
  have hl : lv_has ls 2 [(0, .int x), (1, .int y)] := hl
  refine lv_iload_n hx hb dX11_areTens_0 rfl (lv_at hl 0 rfl) ?_
  refine lv_iconst (v := 0) hx hb dX11_areTens_1 (by decide) ?_
  refine lv_bipush (v := 6) hx hb dX11_areTens_2 (by decide) ?_
  refine he_ci (wc := []) (wr := []) (va_runS (As := [.int x, .int 0, .int 6]) (rest := []) ⟨hx, hb, hml, hown, hts⟩ (c_X11_in l g x 0 6 H.size) (va_cwS 3 hts gX11_areTens_X11_in rfl rfl rfl (by decide +kernel) ⟨Nat.le_of_ble_eq_true rfl, Nat.le_of_ble_eq_true rfl⟩) (he_preS (wc := []) hK hP hD hS hA hE [] rfl rfl) rfl rfl hl.1 rfl (lv_room (Nat.le_of_ble_eq_true rfl)) dX11_areTens_4 ⟨(Nat.le_of_ble_eq_true rfl), (Nat.le_of_ble_eq_true rfl)⟩) hP hD hS hA [] [] rfl rfl rfl (by decide) (fun r_1 u_2 H locs h_3 hP hD hS => ?_)
  subst h_3
  have hP : va_P g.1 vwCl [] H := hP
  have hD : va_D A [] := hD
  refine lv_if_eq (tgt := 24) hx hb dX11_areTens_7 (by decide) (fun c_4 => ?_) (fun c_4 => ?_)
  · refine lv_iconst (v := 0) hx hb dX11_areTens_24 (by decide) ?_
    exact he_rz hQ hx hb hr hlk hP hD hS dX11_areTens_25 (Nat.le_of_ble_eq_true rfl) (Nat.le_of_ble_eq_true rfl) rfl (()) (rfl) (rfl)
  · refine lv_iload_n hx hb dX11_areTens_10 rfl (lv_at hl 1 rfl) ?_
    refine lv_iconst (v := 0) hx hb dX11_areTens_11 (by decide) ?_
    refine lv_bipush (v := 6) hx hb dX11_areTens_12 (by decide) ?_
    refine he_ci (wc := []) (wr := []) (va_runS (As := [.int y, .int 0, .int 6]) (rest := []) ⟨hx, hb, hml, hown, hts⟩ (c_X11_in l g y 0 6 H.size) (va_cwS 3 hts gX11_areTens_X11_in rfl rfl rfl (by decide +kernel) ⟨Nat.le_of_ble_eq_true rfl, Nat.le_of_ble_eq_true rfl⟩) (he_preS (wc := []) hK hP hD hS hA hE [] rfl rfl) rfl rfl hl.1 rfl (lv_room (Nat.le_of_ble_eq_true rfl)) dX11_areTens_14 ⟨(Nat.le_of_ble_eq_true rfl), (Nat.le_of_ble_eq_true rfl)⟩) hP hD hS hA [] [] rfl rfl rfl (by decide) (fun r_5 u_6 H locs h_7 hP hD hS => ?_)
    subst h_7
    have hP : va_P g.1 vwCl [] H := hP
    have hD : va_D A [] := hD
    refine lv_if_eq (tgt := 24) hx hb dX11_areTens_17 (by decide) (fun c_8 => ?_) (fun c_8 => ?_)
    · refine lv_iconst (v := 0) hx hb dX11_areTens_24 (by decide) ?_
      exact he_rz hQ hx hb hr hlk hP hD hS dX11_areTens_25 (Nat.le_of_ble_eq_true rfl) (Nat.le_of_ble_eq_true rfl) rfl (()) (rfl) (rfl)
    · refine lv_iconst (v := 1) hx hb dX11_areTens_20 (by decide) ?_
      refine lv_goto (tgt := 25) hx hb dX11_areTens_21 (by decide) ?_
      exact he_rz hQ hx hb hr hlk hP hD hS dX11_areTens_25 (Nat.le_of_ble_eq_true rfl) (Nat.le_of_ble_eq_true rfl) rfl (()) (rfl) ((absurd hb6 (by rintro (h9 | h9) <;> contradiction)))
