theorem ww5 : ∀ q, q < 7 → ((wl5.getD q []).length = (ws5.getD q (0, 0)).2 - (ws5.getD q (0, 0)).1) ∧ ∀ i, i < 8 → i < (wl5.getD q []).length → (he_w5.getD ((ws5.getD q (0, 0)).1 + i) 0 = nI ((wl5.getD q []).getD i 0) ∧ (wl5.getD q []).getD i 0 < 123) := by decide +kernel
theorem sw5 {T : Nat → Nat} {tp : Nat → Int32} {n b e q : Nat} (hT : ∀ j, j < n → T j < 256 ∧ tp j = sbI (T j)) (hbe : b ≤ e) (he : e ≤ n) (hq : q < 7) : sameW he_w5 tp b e (ws5.getD q (0, 0)).1 (ws5.getD q (0, 0)).2 ↔ wdB T b e (wl5.getD q []) = true := by
  obtain ⟨h1, h2⟩ := ww5 q hq
  have h8 : (wl5.getD q []).length < 8 := by have : ∀ q, q < 7 → (wl5.getD q []).length < 8 := by decide
                                             exact this q hq
  rw [wdB_iff, h1]
  unfold sameW
  constructor
  · rintro ⟨a, c⟩
    refine ⟨a.symm, fun i hi => ?_⟩
    have h3 := h2 i (by omega) (by omega)
    have h4 := c i hi
    rw [h3.1, (hT (b + i) (by omega)).2] at h4
    have h5 := sb_eq (T (b + i)) (hT (b + i) (by omega)).1 _ h3.2
    rw [decide_eq_true h4.symm] at h5
    exact of_decide_eq_true h5.symm
  · rintro ⟨a, c⟩
    refine ⟨a.symm, fun i hi => ?_⟩
    have h3 := h2 i (by omega) (by omega)
    have h4 := c i hi
    rw [h3.1, (hT (b + i) (by omega)).2, h4]
    have h5 := sb_eq (T (b + i)) (hT (b + i) (by omega)).1 _ h3.2
    rw [decide_eq_true h4] at h5
    have h6 := of_decide_eq_true h5
    rw [h4] at h6
    exact h6.symm
theorem kd5 {T : Nat → Nat} {tp : Nat → Int32} {n b e : Nat} {r : Int32} (hT : ∀ j, j < n → T j < 256 ∧ tp j = sbI (T j)) (hbe : b ≤ e) (he : e ≤ n) (h : (∃ q, q < 7 ∧ r = nI q ∧ sameW he_w5 tp b e (ws5.getD q (0, 0)).1 (ws5.getD q (0, 0)).2 ∧ ∀ j, j < q → ¬ sameW he_w5 tp b e (ws5.getD j (0, 0)).1 (ws5.getD j (0, 0)).2) ∨ (r = -1 ∧ ∀ q, q < 7 → ¬ sameW he_w5 tp b e (ws5.getD q (0, 0)).1 (ws5.getD q (0, 0)).2)) : (wrdF T b e wl5 = none ∧ r = -1) ∨ ∃ q, q < 7 ∧ wrdF T b e wl5 = some q ∧ r = nI q := by
  rcases h with ⟨q, h1, h2, h3, h4⟩ | ⟨h1, h2⟩
  · exact Or.inr ⟨q, h1, wrd_some (by have : wl5.length = 7 := rfl; omega) ((sw5 hT hbe he h1).mp h3) (fun j hj h9 => h4 j hj ((sw5 hT hbe he (by omega)).mpr h9)), h2⟩
  · exact Or.inl ⟨wrd_none (fun j hj h9 => h2 j hj ((sw5 hT hbe he hj).mpr h9)), h1⟩
theorem kd7 {W : Option Nat} {r : Int32} (h : (W = none ∧ r = -1) ∨ ∃ q, q < 7 ∧ W = some q ∧ r = nI q) : (W = none ∧ r = -1) ∨ (W = some 0 ∧ r = 0) ∨ (W = some 1 ∧ r = 1) ∨ (W = some 2 ∧ r = 2) ∨ (W = some 3 ∧ r = 3) ∨ (W = some 4 ∧ r = 4) ∨ (W = some 5 ∧ r = 5) ∨ (W = some 6 ∧ r = 6) := by
  rcases h with h | ⟨q, h1, h2, h3⟩
  · exact Or.inl h
  · rcases (show q = 0 ∨ q = 1 ∨ q = 2 ∨ q = 3 ∨ q = 4 ∨ q = 5 ∨ q = 6 by omega) with rfl | rfl | rfl | rfl | rfl | rfl | rfl
    · exact Or.inr (Or.inl ⟨h2, h3⟩)
    · exact Or.inr (Or.inr (Or.inl ⟨h2, h3⟩))
    · exact Or.inr (Or.inr (Or.inr (Or.inl ⟨h2, h3⟩)))
    · exact Or.inr (Or.inr (Or.inr (Or.inr (Or.inl ⟨h2, h3⟩))))
    · exact Or.inr (Or.inr (Or.inr (Or.inr (Or.inr (Or.inl ⟨h2, h3⟩)))))
    · exact Or.inr (Or.inr (Or.inr (Or.inr (Or.inr (Or.inr (Or.inl ⟨h2, h3⟩))))))
    · exact Or.inr (Or.inr (Or.inr (Or.inr (Or.inr (Or.inr (Or.inr ⟨h2, h3⟩))))))
def fl5 (bf : Nat) (_ : Nat) : Bool := decide (20 ≤ bf)
theorem fl5_t {bf q : Nat} (h : 20 ≤ bf) : fl5 bf q = true := decide_eq_true h
theorem fl5_f {bf q : Nat} (h : ¬ 20 ≤ bf) : fl5 bf q = false := decide_eq_false h
/-- what a part tells, laid into a contract's numbers -/
def rlD (q : Nat) (vs : List Nat) (pd : Nat → Int32) : Nat → Int32 := if q = 6 then pd else upd pd q (nI (vs.getD 0 0))
def rlB (q : Nat) (vs : List Nat) (wb : Nat → Int32) : Nat → Int32 := if q = 6 then upd wb (vs.getD 1 0) (nI (vs.getD 0 0)) else wb
set_option maxHeartbeats 4000000 in
set_option maxRecDepth 100000 in
theorem p_X5_isFull (l : Launch) (g : he_G) (t0 : Nat) (t1 : Nat) (t2 : Nat) (w : Nat) (x : Int32)  : he_I l yX5_isFull wsX5_isFull 0 0 0 0 g [.ref t0, .int x] [(oX5 t0 t1 t2 (nI w))] (fun (r : Int32) (u : Unit) => r = 0) (fun (u : Unit) => [(oX5 t0 t1 t2 (nI w))]) := by
  refine he_begin (l := l) (g := g) (y := yX5_isFull) (wl := wsX5_isFull) (fr := 0) (lo := 0) (mc := 0) (ms := 0) (av := [.ref t0, .int x]) (ws := [(oX5 t0 t1 t2 (nI w))]) (cc := cX5_isFull) (maxL := 2) (ret := (some .boolean)) (fun A => va_Qi (fun (r : Int32) (u : Unit) => r = 0) (fun u t => he_post g A ((fun (u : Unit) => [(oX5 t0 t1 t2 (nI w))]) u) t) A) (by decide) rfl (Nat.le_of_ble_eq_true rfl) ?_
  intro p e s m args below meth c A ls H locs Q hQ hB
  obtain ⟨hx, hb, hr, hml, hown, hts, hlk, hin, hP, hK, hD, hS, hA, hE, hl⟩ := hB
  have hl : lv_has ls 2 [(0, .ref t0), (1, .int x)] := hl
  refine lv_iconst (v := 0) hx hb dX5_isFull_0 (by decide) ?_
  exact he_rz hQ hx hb hr hlk hP hD hS dX5_isFull_1 (Nat.le_of_ble_eq_true rfl) (Nat.le_of_ble_eq_true rfl) rfl (()) (rfl) (rfl)
set_option maxHeartbeats 4000000 in
set_option maxRecDepth 100000 in
theorem p_X5_numbers_0 (l : Launch) (g : he_G) (t0 : Nat) (t1 : Nat) (t2 : Nat) (w : Nat)  : he_I l yX5_numbers wsX5_numbers 0 0 0 0 g [.ref t0, .int 0] [(oX5 t0 t1 t2 (nI w))] (fun (r : Int32) (u : Unit) => r = 1) (fun (u : Unit) => [(oX5 t0 t1 t2 (nI w))]) := by
  refine he_begin (l := l) (g := g) (y := yX5_numbers) (wl := wsX5_numbers) (fr := 0) (lo := 0) (mc := 0) (ms := 0) (av := [.ref t0, .int 0]) (ws := [(oX5 t0 t1 t2 (nI w))]) (cc := cX5_numbers) (maxL := 2) (ret := (some .int)) (fun A => va_Qi (fun (r : Int32) (u : Unit) => r = 1) (fun u t => he_post g A ((fun (u : Unit) => [(oX5 t0 t1 t2 (nI w))]) u) t) A) (by decide) rfl (Nat.le_of_ble_eq_true rfl) ?_
  intro p e s m args below meth c A ls H locs Q hQ hB
  obtain ⟨hx, hb, hr, hml, hown, hts, hlk, hin, hP, hK, hD, hS, hA, hE, hl⟩ := hB
  have hl : lv_has ls 2 [(0, .ref t0), (1, .int 0)] := hl
  refine lv_iload_n hx hb dX5_numbers_0 rfl (lv_at hl 1 rfl) ?_
  refine lv_bipush (v := 6) hx hb dX5_numbers_1 (by decide) ?_
  refine lv_icmp_ne (tgt := 10) hx hb dX5_numbers_3 (by decide) (fun c_1 => ?_) (fun c_1 => ?_)
  · refine lv_iconst (v := 1) hx hb dX5_numbers_10 (by decide) ?_
    exact he_ri hQ hx hb hr hlk hP hD hS dX5_numbers_11 (Nat.le_of_ble_eq_true rfl) (Nat.le_of_ble_eq_true rfl) (()) (rfl) (rfl)
  · exact absurd c_1 (by decide)
set_option maxHeartbeats 4000000 in
set_option maxRecDepth 100000 in
theorem p_X5_low_0_0 (l : Launch) (g : he_G) (t0 : Nat) (t1 : Nat) (t2 : Nat) (w : Nat)  : he_I l yX5_low wsX5_low 0 0 0 0 g [.ref t0, .int 0, .int 0] [(oX5 t0 t1 t2 (nI w))] (fun (r : Int32) (u : Unit) => r = 0) (fun (u : Unit) => [(oX5 t0 t1 t2 (nI w))]) := by
  refine he_begin (l := l) (g := g) (y := yX5_low) (wl := wsX5_low) (fr := 0) (lo := 0) (mc := 0) (ms := 0) (av := [.ref t0, .int 0, .int 0]) (ws := [(oX5 t0 t1 t2 (nI w))]) (cc := cX5_low) (maxL := 3) (ret := (some .int)) (fun A => va_Qi (fun (r : Int32) (u : Unit) => r = 0) (fun u t => he_post g A ((fun (u : Unit) => [(oX5 t0 t1 t2 (nI w))]) u) t) A) (by decide) rfl (Nat.le_of_ble_eq_true rfl) ?_
  intro p e s m args below meth c A ls H locs Q hQ hB
  obtain ⟨hx, hb, hr, hml, hown, hts, hlk, hin, hP, hK, hD, hS, hA, hE, hl⟩ := hB
  have hl : lv_has ls 3 [(0, .ref t0), (1, .int 0), (2, .int 0)] := hl
  refine lv_iload_n hx hb dX5_low_0 rfl (lv_at hl 1 rfl) ?_
  refine lv_iconst (v := 5) hx hb dX5_low_1 (by decide) ?_
  refine lv_icmp_ne (tgt := 9) hx hb dX5_low_2 (by decide) (fun c_1 => ?_) (fun c_1 => ?_)
  · refine lv_iconst (v := 0) hx hb dX5_low_9 (by decide) ?_
    exact he_ri hQ hx hb hr hlk hP hD hS dX5_low_10 (Nat.le_of_ble_eq_true rfl) (Nat.le_of_ble_eq_true rfl) (()) (rfl) (rfl)
  · exact absurd c_1 (by decide)
set_option maxHeartbeats 4000000 in
set_option maxRecDepth 100000 in
theorem p_X5_high_0_0 (l : Launch) (g : he_G) (t0 : Nat) (t1 : Nat) (t2 : Nat) (w : Nat)  : he_I l yX5_high wsX5_high 1 22 0 0 g [.ref t0, .int 0, .int 0] [(oX5 t0 t1 t2 (nI w))] (fun (r : Int32) (u : Unit) => r = 999) (fun (u : Unit) => [(oX5 t0 t1 t2 (nI w))]) := by
  refine he_begin (l := l) (g := g) (y := yX5_high) (wl := wsX5_high) (fr := 1) (lo := 22) (mc := 0) (ms := 0) (av := [.ref t0, .int 0, .int 0]) (ws := [(oX5 t0 t1 t2 (nI w))]) (cc := cX5_high) (maxL := 3) (ret := (some .int)) (fun A => va_Qi (fun (r : Int32) (u : Unit) => r = 999) (fun u t => he_post g A ((fun (u : Unit) => [(oX5 t0 t1 t2 (nI w))]) u) t) A) (by decide) rfl (Nat.le_of_ble_eq_true rfl) ?_
  intro p e s m args below meth c A ls H locs Q hQ hB
  obtain ⟨hx, hb, hr, hml, hown, hts, hlk, hin, hP, hK, hD, hS, hA, hE, hl⟩ := hB
  have hl : lv_has ls 3 [(0, .ref t0), (1, .int 0), (2, .int 0)] := hl
  have f34 := hts (.fieldLink RX5 34 "HiredEnemy$Pact" "HIGH" "[I") (iwoX5_high (k := 1) rfl)
  obtain ⟨t_ph, hZ_ph, hT_ph⟩ := hE.2.2.2.1
  have nl37 := hE.nest (RX5, 37, yX10_within) (by decide +kernel)
  have iniX10 := hts (.initialized RX10) (iwoX5_high (k := 3) rfl)
  have st_yX10_within := hts (.static yX10_within) (iwoX5_high (k := 2) rfl)
  refine lv_iload_n hx hb dX5_high_0 rfl (lv_at hl 1 rfl) ?_
  refine lv_bipush (v := 6) hx hb dX5_high_1 (by decide) ?_
  refine lv_icmp_ne (tgt := 22) hx hb dX5_high_3 (by decide) (fun c_1 => ?_) (fun c_1 => ?_)
  · refine lv_iload_n hx hb dX5_high_22 rfl (lv_at hl 1 rfl) ?_
    refine lv_iconst (v := 0) hx hb dX5_high_23 (by decide) ?_
    refine va_gets hx hb hZ_ph hS hown f34 (fun _ h9 => h9) dX5_high_24 ?_
    refine va_tlen (v := 6) hx hb hT_ph hS (by decide) dX5_high_27 ?_
    refine lv_iconst (v := 1) hx hb dX5_high_28 (by decide) ?_
    refine lv_isub hx hb dX5_high_29 ?_
    refine he_top (5) (by decide) ?_
    refine he_ci (wc := []) (wr := [(oX5 t0 t1 t2 (nI w))]) (va_runSN (As := [.int 0, .int 0, .int 5]) (rest := []) ⟨hx, hb, hml, hown, hts⟩ (c_X10_within l g 0 0 5 H.size) ⟨(va_cnB 3 hts gX5_high_X10_within_n37 rfl rfl rfl nl37 iniX10 (by decide +kernel) ⟨Nat.le_of_ble_eq_true rfl, Nat.le_of_ble_eq_true rfl⟩), st_yX10_within, trivial⟩ (he_preS (wc := []) hK hP hD hS hA hE [] rfl rfl) rfl rfl hl.1 rfl (lv_room (Nat.le_of_ble_eq_true rfl)) dX5_high_30 ⟨(Nat.le_of_ble_eq_true rfl), (Nat.le_of_ble_eq_true rfl)⟩) hP hD hS hA [] [0] rfl rfl rfl (by decide) (fun r_2 u_3 H locs h_4 hP hD hS => ?_)
    subst h_4
    have hP : va_P g.1 vwCl [(oX5 t0 t1 t2 (nI w))] H := hP
    have hD : va_D A [(oX5 t0 t1 t2 (nI w))] := hD
    refine he_top (1) (by decide) ?_
    refine lv_if_eq (tgt := 44) hx hb dX5_high_33 (by decide) (fun c_5 => ?_) (fun c_5 => ?_)
    · exact absurd c_5 (by decide)
    · refine va_gets hx hb hZ_ph hS hown f34 (fun _ h9 => h9) dX5_high_36 ?_
      refine lv_iload_n hx hb dX5_high_39 rfl (lv_at hl 1 rfl) ?_
      refine he_tald hx hb hT_ph hS (0) (by decide) (by decide) (by decide) (999) rfl dX5_high_40 ?_
      refine lv_goto (tgt := 45) hx hb dX5_high_41 (by decide) ?_
      exact he_ri hQ hx hb hr hlk hP hD hS dX5_high_45 (Nat.le_of_ble_eq_true rfl) (Nat.le_of_ble_eq_true rfl) (()) (rfl) (rfl)
  · exact absurd c_1 (by decide)
set_option maxHeartbeats 4000000 in
set_option maxRecDepth 100000 in
theorem p_X5_store_0 (l : Launch) (g : he_G) (t0 : Nat) (t1 : Nat) (t2 : Nat) (w : Nat) (pd : Nat → Int32) (wb : Nat → Int32) (z1 : Nat) (nu : Nat → Int32)  : he_V l yX5_store wsX5_store 1 22 0 0 g [.ref t0, .int 0, .ref z1] [(oX5 t0 t1 t2 (nI w)), (aI g t1 6 pd), (aI g t2 36 wb), (aI g z1 3 nu)] (fun (u : Unit) => True) (fun (u : Unit) => [(oX5 t0 t1 t2 (nI w)), (aI g t1 6 (upd pd 0 (nu 0))), (aI g t2 36 wb), (aI g z1 3 nu)]) := by
  refine he_begin (l := l) (g := g) (y := yX5_store) (wl := wsX5_store) (fr := 1) (lo := 22) (mc := 0) (ms := 0) (av := [.ref t0, .int 0, .ref z1]) (ws := [(oX5 t0 t1 t2 (nI w)), (aI g t1 6 pd), (aI g t2 36 wb), (aI g z1 3 nu)]) (cc := cX5_store) (maxL := 3) (ret := none) (fun A => va_Qv (fun (u : Unit) => True) (fun u t => he_post g A ((fun (u : Unit) => [(oX5 t0 t1 t2 (nI w)), (aI g t1 6 (upd pd 0 (nu 0))), (aI g t2 36 wb), (aI g z1 3 nu)]) u) t) A) (by decide) rfl (Nat.le_of_ble_eq_true rfl) ?_
  intro p e s m args below meth c A ls H locs Q hQ hB
  obtain ⟨hx, hb, hr, hml, hown, hts, hlk, hin, hP, hK, hD, hS, hA, hE, hl⟩ := hB
  have hl : lv_has ls 3 [(0, .ref t0), (1, .int 0), (2, .ref z1)] := hl
  have f11 := hts (.fieldLink RX5 11 "HiredEnemy$Pact" "said" "[I") (iwoX5_store (k := 1) rfl)
  have inX5 : ∀ w ∈ wsX50, w ∈ wsX5_store := innX5_store_X5
  have nl37 := hE.nest (RX5, 37, yX10_within) (by decide +kernel)
  have iniX10 := hts (.initialized RX10) (iwoX5_store (k := 3) rfl)
  have st_yX10_within := hts (.static yX10_within) (iwoX5_store (k := 2) rfl)
  refine lv_iload_n hx hb dX5_store_0 rfl (lv_at hl 1 rfl) ?_
  refine lv_bipush (v := 6) hx hb dX5_store_1 (by decide) ?_
  refine lv_icmp_ne (tgt := 32) hx hb dX5_store_3 (by decide) (fun c_1 => ?_) (fun c_1 => ?_)
  · refine lv_iload_n hx hb dX5_store_32 rfl (lv_at hl 1 rfl) ?_
    refine lv_iconst (v := 0) hx hb dX5_store_33 (by decide) ?_
    refine lv_aload_n hx hb dX5_store_34 rfl (lv_at hl 0 rfl) ?_
    refine va_get (v := .ref t1) (T := TX5) (N := 3) hx hb hts inX5 hown hK hP 0 rfl rfl 0 (by decide) f11 (fun _ h9 => h9) rfl dX5_store_35 ?_
    refine va_alen (v := 6) hx hb hK hP 1 1 rfl rfl rfl dX5_store_38 ?_
    refine lv_iconst (v := 1) hx hb dX5_store_39 (by decide) ?_
    refine lv_isub hx hb dX5_store_40 ?_
    refine he_top (5) (by decide) ?_
    refine he_ci (wc := []) (wr := [(oX5 t0 t1 t2 (nI w)), (aI g t1 6 pd), (aI g t2 36 wb), (aI g z1 3 nu)]) (va_runSN (As := [.int 0, .int 0, .int 5]) (rest := []) ⟨hx, hb, hml, hown, hts⟩ (c_X10_within l g 0 0 5 H.size) ⟨(va_cnB 3 hts gX5_store_X10_within_n37 rfl rfl rfl nl37 iniX10 (by decide +kernel) ⟨Nat.le_of_ble_eq_true rfl, Nat.le_of_ble_eq_true rfl⟩), st_yX10_within, trivial⟩ (he_preS (wc := []) hK hP hD hS hA hE [] rfl rfl) rfl rfl hl.1 rfl (lv_room (Nat.le_of_ble_eq_true rfl)) dX5_store_41 ⟨(Nat.le_of_ble_eq_true rfl), (Nat.le_of_ble_eq_true rfl)⟩) hP hD hS hA [] [0, 1, 2, 3] rfl rfl rfl (by decide) (fun r_2 u_3 H locs h_4 hP hD hS => ?_)
    subst h_4
    have hP : va_P g.1 vwCl [(oX5 t0 t1 t2 (nI w)), (aI g t1 6 pd), (aI g t2 36 wb), (aI g z1 3 nu)] H := hP
    have hD : va_D A [(oX5 t0 t1 t2 (nI w)), (aI g t1 6 pd), (aI g t2 36 wb), (aI g z1 3 nu)] := hD
    refine he_top (1) (by decide) ?_
    refine lv_if_eq (tgt := 56) hx hb dX5_store_44 (by decide) (fun c_5 => ?_) (fun c_5 => ?_)
    · exact absurd c_5 (by decide)
    · refine lv_aload_n hx hb dX5_store_47 rfl (lv_at hl 0 rfl) ?_
      refine va_get (v := .ref t1) (T := TX5) (N := 3) hx hb hts inX5 hown hK hP 0 rfl rfl 0 (by decide) f11 (fun _ h9 => h9) rfl dX5_store_48 ?_
      refine lv_iload_n hx hb dX5_store_51 rfl (lv_at hl 1 rfl) ?_
      refine lv_aload_n hx hb dX5_store_52 rfl (lv_at hl 2 rfl) ?_
      refine lv_iconst (v := 0) hx hb dX5_store_53 (by decide) ?_
      refine he_iald hx hb hK hP 3 rfl (0) (by decide) (by decide) (by first | decide | assumption) (nu 0) rfl dX5_store_54 ?_
      refine he_iast hx hb hK hP hD hS 1 rfl (0) (by decide) (by decide) (by first | decide | assumption) dX5_store_55 (fun H locs hP hD hS => ?_)
      have hP : va_P g.1 vwCl [(oX5 t0 t1 t2 (nI w)), (aI g t1 6 (upd pd 0 (nu 0))), (aI g t2 36 wb), (aI g z1 3 nu)] H := hP
      have hD : va_D A [(oX5 t0 t1 t2 (nI w)), (aI g t1 6 (upd pd 0 (nu 0))), (aI g t2 36 wb), (aI g z1 3 nu)] := hD
      exact he_rv hQ hx hb hr hlk hP hD hS dX5_store_56 (Nat.le_of_ble_eq_true rfl) (Nat.le_of_ble_eq_true rfl) (()) (rfl) (trivial)
  · exact absurd c_1 (by decide)
set_option maxHeartbeats 4000000 in
set_option maxRecDepth 100000 in
theorem p_X5_numbers_1 (l : Launch) (g : he_G) (t0 : Nat) (t1 : Nat) (t2 : Nat) (w : Nat)  : he_I l yX5_numbers wsX5_numbers 0 0 0 0 g [.ref t0, .int 1] [(oX5 t0 t1 t2 (nI w))] (fun (r : Int32) (u : Unit) => r = 1) (fun (u : Unit) => [(oX5 t0 t1 t2 (nI w))]) := by
  refine he_begin (l := l) (g := g) (y := yX5_numbers) (wl := wsX5_numbers) (fr := 0) (lo := 0) (mc := 0) (ms := 0) (av := [.ref t0, .int 1]) (ws := [(oX5 t0 t1 t2 (nI w))]) (cc := cX5_numbers) (maxL := 2) (ret := (some .int)) (fun A => va_Qi (fun (r : Int32) (u : Unit) => r = 1) (fun u t => he_post g A ((fun (u : Unit) => [(oX5 t0 t1 t2 (nI w))]) u) t) A) (by decide) rfl (Nat.le_of_ble_eq_true rfl) ?_
  intro p e s m args below meth c A ls H locs Q hQ hB
  obtain ⟨hx, hb, hr, hml, hown, hts, hlk, hin, hP, hK, hD, hS, hA, hE, hl⟩ := hB
  have hl : lv_has ls 2 [(0, .ref t0), (1, .int 1)] := hl
  refine lv_iload_n hx hb dX5_numbers_0 rfl (lv_at hl 1 rfl) ?_
  refine lv_bipush (v := 6) hx hb dX5_numbers_1 (by decide) ?_
  refine lv_icmp_ne (tgt := 10) hx hb dX5_numbers_3 (by decide) (fun c_1 => ?_) (fun c_1 => ?_)
  · refine lv_iconst (v := 1) hx hb dX5_numbers_10 (by decide) ?_
    exact he_ri hQ hx hb hr hlk hP hD hS dX5_numbers_11 (Nat.le_of_ble_eq_true rfl) (Nat.le_of_ble_eq_true rfl) (()) (rfl) (rfl)
  · exact absurd c_1 (by decide)
set_option maxHeartbeats 4000000 in
set_option maxRecDepth 100000 in
theorem p_X5_low_1_0 (l : Launch) (g : he_G) (t0 : Nat) (t1 : Nat) (t2 : Nat) (w : Nat)  : he_I l yX5_low wsX5_low 0 0 0 0 g [.ref t0, .int 1, .int 0] [(oX5 t0 t1 t2 (nI w))] (fun (r : Int32) (u : Unit) => r = 0) (fun (u : Unit) => [(oX5 t0 t1 t2 (nI w))]) := by
  refine he_begin (l := l) (g := g) (y := yX5_low) (wl := wsX5_low) (fr := 0) (lo := 0) (mc := 0) (ms := 0) (av := [.ref t0, .int 1, .int 0]) (ws := [(oX5 t0 t1 t2 (nI w))]) (cc := cX5_low) (maxL := 3) (ret := (some .int)) (fun A => va_Qi (fun (r : Int32) (u : Unit) => r = 0) (fun u t => he_post g A ((fun (u : Unit) => [(oX5 t0 t1 t2 (nI w))]) u) t) A) (by decide) rfl (Nat.le_of_ble_eq_true rfl) ?_
  intro p e s m args below meth c A ls H locs Q hQ hB
  obtain ⟨hx, hb, hr, hml, hown, hts, hlk, hin, hP, hK, hD, hS, hA, hE, hl⟩ := hB
  have hl : lv_has ls 3 [(0, .ref t0), (1, .int 1), (2, .int 0)] := hl
  refine lv_iload_n hx hb dX5_low_0 rfl (lv_at hl 1 rfl) ?_
  refine lv_iconst (v := 5) hx hb dX5_low_1 (by decide) ?_
  refine lv_icmp_ne (tgt := 9) hx hb dX5_low_2 (by decide) (fun c_1 => ?_) (fun c_1 => ?_)
  · refine lv_iconst (v := 0) hx hb dX5_low_9 (by decide) ?_
    exact he_ri hQ hx hb hr hlk hP hD hS dX5_low_10 (Nat.le_of_ble_eq_true rfl) (Nat.le_of_ble_eq_true rfl) (()) (rfl) (rfl)
  · exact absurd c_1 (by decide)
set_option maxHeartbeats 4000000 in
set_option maxRecDepth 100000 in
theorem p_X5_high_1_0 (l : Launch) (g : he_G) (t0 : Nat) (t1 : Nat) (t2 : Nat) (w : Nat)  : he_I l yX5_high wsX5_high 1 22 0 0 g [.ref t0, .int 1, .int 0] [(oX5 t0 t1 t2 (nI w))] (fun (r : Int32) (u : Unit) => r = 999) (fun (u : Unit) => [(oX5 t0 t1 t2 (nI w))]) := by
  refine he_begin (l := l) (g := g) (y := yX5_high) (wl := wsX5_high) (fr := 1) (lo := 22) (mc := 0) (ms := 0) (av := [.ref t0, .int 1, .int 0]) (ws := [(oX5 t0 t1 t2 (nI w))]) (cc := cX5_high) (maxL := 3) (ret := (some .int)) (fun A => va_Qi (fun (r : Int32) (u : Unit) => r = 999) (fun u t => he_post g A ((fun (u : Unit) => [(oX5 t0 t1 t2 (nI w))]) u) t) A) (by decide) rfl (Nat.le_of_ble_eq_true rfl) ?_
  intro p e s m args below meth c A ls H locs Q hQ hB
  obtain ⟨hx, hb, hr, hml, hown, hts, hlk, hin, hP, hK, hD, hS, hA, hE, hl⟩ := hB
  have hl : lv_has ls 3 [(0, .ref t0), (1, .int 1), (2, .int 0)] := hl
  have f34 := hts (.fieldLink RX5 34 "HiredEnemy$Pact" "HIGH" "[I") (iwoX5_high (k := 1) rfl)
  obtain ⟨t_ph, hZ_ph, hT_ph⟩ := hE.2.2.2.1
  have nl37 := hE.nest (RX5, 37, yX10_within) (by decide +kernel)
  have iniX10 := hts (.initialized RX10) (iwoX5_high (k := 3) rfl)
  have st_yX10_within := hts (.static yX10_within) (iwoX5_high (k := 2) rfl)
  refine lv_iload_n hx hb dX5_high_0 rfl (lv_at hl 1 rfl) ?_
  refine lv_bipush (v := 6) hx hb dX5_high_1 (by decide) ?_
  refine lv_icmp_ne (tgt := 22) hx hb dX5_high_3 (by decide) (fun c_1 => ?_) (fun c_1 => ?_)
  · refine lv_iload_n hx hb dX5_high_22 rfl (lv_at hl 1 rfl) ?_
    refine lv_iconst (v := 0) hx hb dX5_high_23 (by decide) ?_
    refine va_gets hx hb hZ_ph hS hown f34 (fun _ h9 => h9) dX5_high_24 ?_
    refine va_tlen (v := 6) hx hb hT_ph hS (by decide) dX5_high_27 ?_
    refine lv_iconst (v := 1) hx hb dX5_high_28 (by decide) ?_
    refine lv_isub hx hb dX5_high_29 ?_
    refine he_top (5) (by decide) ?_
    refine he_ci (wc := []) (wr := [(oX5 t0 t1 t2 (nI w))]) (va_runSN (As := [.int 1, .int 0, .int 5]) (rest := []) ⟨hx, hb, hml, hown, hts⟩ (c_X10_within l g 1 0 5 H.size) ⟨(va_cnB 3 hts gX5_high_X10_within_n37 rfl rfl rfl nl37 iniX10 (by decide +kernel) ⟨Nat.le_of_ble_eq_true rfl, Nat.le_of_ble_eq_true rfl⟩), st_yX10_within, trivial⟩ (he_preS (wc := []) hK hP hD hS hA hE [] rfl rfl) rfl rfl hl.1 rfl (lv_room (Nat.le_of_ble_eq_true rfl)) dX5_high_30 ⟨(Nat.le_of_ble_eq_true rfl), (Nat.le_of_ble_eq_true rfl)⟩) hP hD hS hA [] [0] rfl rfl rfl (by decide) (fun r_2 u_3 H locs h_4 hP hD hS => ?_)
    subst h_4
    have hP : va_P g.1 vwCl [(oX5 t0 t1 t2 (nI w))] H := hP
    have hD : va_D A [(oX5 t0 t1 t2 (nI w))] := hD
    refine he_top (1) (by decide) ?_
    refine lv_if_eq (tgt := 44) hx hb dX5_high_33 (by decide) (fun c_5 => ?_) (fun c_5 => ?_)
    · exact absurd c_5 (by decide)
    · refine va_gets hx hb hZ_ph hS hown f34 (fun _ h9 => h9) dX5_high_36 ?_
      refine lv_iload_n hx hb dX5_high_39 rfl (lv_at hl 1 rfl) ?_
      refine he_tald hx hb hT_ph hS (1) (by decide) (by decide) (by decide) (999) rfl dX5_high_40 ?_
      refine lv_goto (tgt := 45) hx hb dX5_high_41 (by decide) ?_
      exact he_ri hQ hx hb hr hlk hP hD hS dX5_high_45 (Nat.le_of_ble_eq_true rfl) (Nat.le_of_ble_eq_true rfl) (()) (rfl) (rfl)
  · exact absurd c_1 (by decide)
set_option maxHeartbeats 4000000 in
set_option maxRecDepth 100000 in
theorem p_X5_store_1 (l : Launch) (g : he_G) (t0 : Nat) (t1 : Nat) (t2 : Nat) (w : Nat) (pd : Nat → Int32) (wb : Nat → Int32) (z1 : Nat) (nu : Nat → Int32)  : he_V l yX5_store wsX5_store 1 22 0 0 g [.ref t0, .int 1, .ref z1] [(oX5 t0 t1 t2 (nI w)), (aI g t1 6 pd), (aI g t2 36 wb), (aI g z1 3 nu)] (fun (u : Unit) => True) (fun (u : Unit) => [(oX5 t0 t1 t2 (nI w)), (aI g t1 6 (upd pd 1 (nu 0))), (aI g t2 36 wb), (aI g z1 3 nu)]) := by
  refine he_begin (l := l) (g := g) (y := yX5_store) (wl := wsX5_store) (fr := 1) (lo := 22) (mc := 0) (ms := 0) (av := [.ref t0, .int 1, .ref z1]) (ws := [(oX5 t0 t1 t2 (nI w)), (aI g t1 6 pd), (aI g t2 36 wb), (aI g z1 3 nu)]) (cc := cX5_store) (maxL := 3) (ret := none) (fun A => va_Qv (fun (u : Unit) => True) (fun u t => he_post g A ((fun (u : Unit) => [(oX5 t0 t1 t2 (nI w)), (aI g t1 6 (upd pd 1 (nu 0))), (aI g t2 36 wb), (aI g z1 3 nu)]) u) t) A) (by decide) rfl (Nat.le_of_ble_eq_true rfl) ?_
  intro p e s m args below meth c A ls H locs Q hQ hB
  obtain ⟨hx, hb, hr, hml, hown, hts, hlk, hin, hP, hK, hD, hS, hA, hE, hl⟩ := hB
  have hl : lv_has ls 3 [(0, .ref t0), (1, .int 1), (2, .ref z1)] := hl
  have f11 := hts (.fieldLink RX5 11 "HiredEnemy$Pact" "said" "[I") (iwoX5_store (k := 1) rfl)
  have inX5 : ∀ w ∈ wsX50, w ∈ wsX5_store := innX5_store_X5
  have nl37 := hE.nest (RX5, 37, yX10_within) (by decide +kernel)
  have iniX10 := hts (.initialized RX10) (iwoX5_store (k := 3) rfl)
  have st_yX10_within := hts (.static yX10_within) (iwoX5_store (k := 2) rfl)
  refine lv_iload_n hx hb dX5_store_0 rfl (lv_at hl 1 rfl) ?_
  refine lv_bipush (v := 6) hx hb dX5_store_1 (by decide) ?_
  refine lv_icmp_ne (tgt := 32) hx hb dX5_store_3 (by decide) (fun c_1 => ?_) (fun c_1 => ?_)
  · refine lv_iload_n hx hb dX5_store_32 rfl (lv_at hl 1 rfl) ?_
    refine lv_iconst (v := 0) hx hb dX5_store_33 (by decide) ?_
    refine lv_aload_n hx hb dX5_store_34 rfl (lv_at hl 0 rfl) ?_
    refine va_get (v := .ref t1) (T := TX5) (N := 3) hx hb hts inX5 hown hK hP 0 rfl rfl 0 (by decide) f11 (fun _ h9 => h9) rfl dX5_store_35 ?_
    refine va_alen (v := 6) hx hb hK hP 1 1 rfl rfl rfl dX5_store_38 ?_
    refine lv_iconst (v := 1) hx hb dX5_store_39 (by decide) ?_
    refine lv_isub hx hb dX5_store_40 ?_
    refine he_top (5) (by decide) ?_
    refine he_ci (wc := []) (wr := [(oX5 t0 t1 t2 (nI w)), (aI g t1 6 pd), (aI g t2 36 wb), (aI g z1 3 nu)]) (va_runSN (As := [.int 1, .int 0, .int 5]) (rest := []) ⟨hx, hb, hml, hown, hts⟩ (c_X10_within l g 1 0 5 H.size) ⟨(va_cnB 3 hts gX5_store_X10_within_n37 rfl rfl rfl nl37 iniX10 (by decide +kernel) ⟨Nat.le_of_ble_eq_true rfl, Nat.le_of_ble_eq_true rfl⟩), st_yX10_within, trivial⟩ (he_preS (wc := []) hK hP hD hS hA hE [] rfl rfl) rfl rfl hl.1 rfl (lv_room (Nat.le_of_ble_eq_true rfl)) dX5_store_41 ⟨(Nat.le_of_ble_eq_true rfl), (Nat.le_of_ble_eq_true rfl)⟩) hP hD hS hA [] [0, 1, 2, 3] rfl rfl rfl (by decide) (fun r_2 u_3 H locs h_4 hP hD hS => ?_)
    subst h_4
    have hP : va_P g.1 vwCl [(oX5 t0 t1 t2 (nI w)), (aI g t1 6 pd), (aI g t2 36 wb), (aI g z1 3 nu)] H := hP
    have hD : va_D A [(oX5 t0 t1 t2 (nI w)), (aI g t1 6 pd), (aI g t2 36 wb), (aI g z1 3 nu)] := hD
    refine he_top (1) (by decide) ?_
    refine lv_if_eq (tgt := 56) hx hb dX5_store_44 (by decide) (fun c_5 => ?_) (fun c_5 => ?_)
    · exact absurd c_5 (by decide)
    · refine lv_aload_n hx hb dX5_store_47 rfl (lv_at hl 0 rfl) ?_
      refine va_get (v := .ref t1) (T := TX5) (N := 3) hx hb hts inX5 hown hK hP 0 rfl rfl 0 (by decide) f11 (fun _ h9 => h9) rfl dX5_store_48 ?_
      refine lv_iload_n hx hb dX5_store_51 rfl (lv_at hl 1 rfl) ?_
      refine lv_aload_n hx hb dX5_store_52 rfl (lv_at hl 2 rfl) ?_
      refine lv_iconst (v := 0) hx hb dX5_store_53 (by decide) ?_
      refine he_iald hx hb hK hP 3 rfl (0) (by decide) (by decide) (by first | decide | assumption) (nu 0) rfl dX5_store_54 ?_
      refine he_iast hx hb hK hP hD hS 1 rfl (1) (by decide) (by decide) (by first | decide | assumption) dX5_store_55 (fun H locs hP hD hS => ?_)
      have hP : va_P g.1 vwCl [(oX5 t0 t1 t2 (nI w)), (aI g t1 6 (upd pd 1 (nu 0))), (aI g t2 36 wb), (aI g z1 3 nu)] H := hP
      have hD : va_D A [(oX5 t0 t1 t2 (nI w)), (aI g t1 6 (upd pd 1 (nu 0))), (aI g t2 36 wb), (aI g z1 3 nu)] := hD
      exact he_rv hQ hx hb hr hlk hP hD hS dX5_store_56 (Nat.le_of_ble_eq_true rfl) (Nat.le_of_ble_eq_true rfl) (()) (rfl) (trivial)
  · exact absurd c_1 (by decide)
set_option maxHeartbeats 4000000 in
set_option maxRecDepth 100000 in
theorem p_X5_numbers_2 (l : Launch) (g : he_G) (t0 : Nat) (t1 : Nat) (t2 : Nat) (w : Nat)  : he_I l yX5_numbers wsX5_numbers 0 0 0 0 g [.ref t0, .int 2] [(oX5 t0 t1 t2 (nI w))] (fun (r : Int32) (u : Unit) => r = 1) (fun (u : Unit) => [(oX5 t0 t1 t2 (nI w))]) := by
  refine he_begin (l := l) (g := g) (y := yX5_numbers) (wl := wsX5_numbers) (fr := 0) (lo := 0) (mc := 0) (ms := 0) (av := [.ref t0, .int 2]) (ws := [(oX5 t0 t1 t2 (nI w))]) (cc := cX5_numbers) (maxL := 2) (ret := (some .int)) (fun A => va_Qi (fun (r : Int32) (u : Unit) => r = 1) (fun u t => he_post g A ((fun (u : Unit) => [(oX5 t0 t1 t2 (nI w))]) u) t) A) (by decide) rfl (Nat.le_of_ble_eq_true rfl) ?_
  intro p e s m args below meth c A ls H locs Q hQ hB
  obtain ⟨hx, hb, hr, hml, hown, hts, hlk, hin, hP, hK, hD, hS, hA, hE, hl⟩ := hB
  have hl : lv_has ls 2 [(0, .ref t0), (1, .int 2)] := hl
  refine lv_iload_n hx hb dX5_numbers_0 rfl (lv_at hl 1 rfl) ?_
  refine lv_bipush (v := 6) hx hb dX5_numbers_1 (by decide) ?_
  refine lv_icmp_ne (tgt := 10) hx hb dX5_numbers_3 (by decide) (fun c_1 => ?_) (fun c_1 => ?_)
  · refine lv_iconst (v := 1) hx hb dX5_numbers_10 (by decide) ?_
    exact he_ri hQ hx hb hr hlk hP hD hS dX5_numbers_11 (Nat.le_of_ble_eq_true rfl) (Nat.le_of_ble_eq_true rfl) (()) (rfl) (rfl)
  · exact absurd c_1 (by decide)
set_option maxHeartbeats 4000000 in
set_option maxRecDepth 100000 in
theorem p_X5_low_2_0 (l : Launch) (g : he_G) (t0 : Nat) (t1 : Nat) (t2 : Nat) (w : Nat)  : he_I l yX5_low wsX5_low 0 0 0 0 g [.ref t0, .int 2, .int 0] [(oX5 t0 t1 t2 (nI w))] (fun (r : Int32) (u : Unit) => r = 0) (fun (u : Unit) => [(oX5 t0 t1 t2 (nI w))]) := by
  refine he_begin (l := l) (g := g) (y := yX5_low) (wl := wsX5_low) (fr := 0) (lo := 0) (mc := 0) (ms := 0) (av := [.ref t0, .int 2, .int 0]) (ws := [(oX5 t0 t1 t2 (nI w))]) (cc := cX5_low) (maxL := 3) (ret := (some .int)) (fun A => va_Qi (fun (r : Int32) (u : Unit) => r = 0) (fun u t => he_post g A ((fun (u : Unit) => [(oX5 t0 t1 t2 (nI w))]) u) t) A) (by decide) rfl (Nat.le_of_ble_eq_true rfl) ?_
  intro p e s m args below meth c A ls H locs Q hQ hB
  obtain ⟨hx, hb, hr, hml, hown, hts, hlk, hin, hP, hK, hD, hS, hA, hE, hl⟩ := hB
  have hl : lv_has ls 3 [(0, .ref t0), (1, .int 2), (2, .int 0)] := hl
  refine lv_iload_n hx hb dX5_low_0 rfl (lv_at hl 1 rfl) ?_
  refine lv_iconst (v := 5) hx hb dX5_low_1 (by decide) ?_
  refine lv_icmp_ne (tgt := 9) hx hb dX5_low_2 (by decide) (fun c_1 => ?_) (fun c_1 => ?_)
  · refine lv_iconst (v := 0) hx hb dX5_low_9 (by decide) ?_
    exact he_ri hQ hx hb hr hlk hP hD hS dX5_low_10 (Nat.le_of_ble_eq_true rfl) (Nat.le_of_ble_eq_true rfl) (()) (rfl) (rfl)
  · exact absurd c_1 (by decide)
set_option maxHeartbeats 4000000 in
set_option maxRecDepth 100000 in
theorem p_X5_high_2_0 (l : Launch) (g : he_G) (t0 : Nat) (t1 : Nat) (t2 : Nat) (w : Nat)  : he_I l yX5_high wsX5_high 1 22 0 0 g [.ref t0, .int 2, .int 0] [(oX5 t0 t1 t2 (nI w))] (fun (r : Int32) (u : Unit) => r = 9) (fun (u : Unit) => [(oX5 t0 t1 t2 (nI w))]) := by
  refine he_begin (l := l) (g := g) (y := yX5_high) (wl := wsX5_high) (fr := 1) (lo := 22) (mc := 0) (ms := 0) (av := [.ref t0, .int 2, .int 0]) (ws := [(oX5 t0 t1 t2 (nI w))]) (cc := cX5_high) (maxL := 3) (ret := (some .int)) (fun A => va_Qi (fun (r : Int32) (u : Unit) => r = 9) (fun u t => he_post g A ((fun (u : Unit) => [(oX5 t0 t1 t2 (nI w))]) u) t) A) (by decide) rfl (Nat.le_of_ble_eq_true rfl) ?_
  intro p e s m args below meth c A ls H locs Q hQ hB
  obtain ⟨hx, hb, hr, hml, hown, hts, hlk, hin, hP, hK, hD, hS, hA, hE, hl⟩ := hB
  have hl : lv_has ls 3 [(0, .ref t0), (1, .int 2), (2, .int 0)] := hl
  have f34 := hts (.fieldLink RX5 34 "HiredEnemy$Pact" "HIGH" "[I") (iwoX5_high (k := 1) rfl)
  obtain ⟨t_ph, hZ_ph, hT_ph⟩ := hE.2.2.2.1
  have nl37 := hE.nest (RX5, 37, yX10_within) (by decide +kernel)
  have iniX10 := hts (.initialized RX10) (iwoX5_high (k := 3) rfl)
  have st_yX10_within := hts (.static yX10_within) (iwoX5_high (k := 2) rfl)
  refine lv_iload_n hx hb dX5_high_0 rfl (lv_at hl 1 rfl) ?_
  refine lv_bipush (v := 6) hx hb dX5_high_1 (by decide) ?_
  refine lv_icmp_ne (tgt := 22) hx hb dX5_high_3 (by decide) (fun c_1 => ?_) (fun c_1 => ?_)
  · refine lv_iload_n hx hb dX5_high_22 rfl (lv_at hl 1 rfl) ?_
    refine lv_iconst (v := 0) hx hb dX5_high_23 (by decide) ?_
    refine va_gets hx hb hZ_ph hS hown f34 (fun _ h9 => h9) dX5_high_24 ?_
    refine va_tlen (v := 6) hx hb hT_ph hS (by decide) dX5_high_27 ?_
    refine lv_iconst (v := 1) hx hb dX5_high_28 (by decide) ?_
    refine lv_isub hx hb dX5_high_29 ?_
    refine he_top (5) (by decide) ?_
    refine he_ci (wc := []) (wr := [(oX5 t0 t1 t2 (nI w))]) (va_runSN (As := [.int 2, .int 0, .int 5]) (rest := []) ⟨hx, hb, hml, hown, hts⟩ (c_X10_within l g 2 0 5 H.size) ⟨(va_cnB 3 hts gX5_high_X10_within_n37 rfl rfl rfl nl37 iniX10 (by decide +kernel) ⟨Nat.le_of_ble_eq_true rfl, Nat.le_of_ble_eq_true rfl⟩), st_yX10_within, trivial⟩ (he_preS (wc := []) hK hP hD hS hA hE [] rfl rfl) rfl rfl hl.1 rfl (lv_room (Nat.le_of_ble_eq_true rfl)) dX5_high_30 ⟨(Nat.le_of_ble_eq_true rfl), (Nat.le_of_ble_eq_true rfl)⟩) hP hD hS hA [] [0] rfl rfl rfl (by decide) (fun r_2 u_3 H locs h_4 hP hD hS => ?_)
    subst h_4
    have hP : va_P g.1 vwCl [(oX5 t0 t1 t2 (nI w))] H := hP
    have hD : va_D A [(oX5 t0 t1 t2 (nI w))] := hD
    refine he_top (1) (by decide) ?_
    refine lv_if_eq (tgt := 44) hx hb dX5_high_33 (by decide) (fun c_5 => ?_) (fun c_5 => ?_)
    · exact absurd c_5 (by decide)
    · refine va_gets hx hb hZ_ph hS hown f34 (fun _ h9 => h9) dX5_high_36 ?_
      refine lv_iload_n hx hb dX5_high_39 rfl (lv_at hl 1 rfl) ?_
      refine he_tald hx hb hT_ph hS (2) (by decide) (by decide) (by decide) (9) rfl dX5_high_40 ?_
      refine lv_goto (tgt := 45) hx hb dX5_high_41 (by decide) ?_
      exact he_ri hQ hx hb hr hlk hP hD hS dX5_high_45 (Nat.le_of_ble_eq_true rfl) (Nat.le_of_ble_eq_true rfl) (()) (rfl) (rfl)
  · exact absurd c_1 (by decide)
set_option maxHeartbeats 4000000 in
set_option maxRecDepth 100000 in
theorem p_X5_store_2 (l : Launch) (g : he_G) (t0 : Nat) (t1 : Nat) (t2 : Nat) (w : Nat) (pd : Nat → Int32) (wb : Nat → Int32) (z1 : Nat) (nu : Nat → Int32)  : he_V l yX5_store wsX5_store 1 22 0 0 g [.ref t0, .int 2, .ref z1] [(oX5 t0 t1 t2 (nI w)), (aI g t1 6 pd), (aI g t2 36 wb), (aI g z1 3 nu)] (fun (u : Unit) => True) (fun (u : Unit) => [(oX5 t0 t1 t2 (nI w)), (aI g t1 6 (upd pd 2 (nu 0))), (aI g t2 36 wb), (aI g z1 3 nu)]) := by
  refine he_begin (l := l) (g := g) (y := yX5_store) (wl := wsX5_store) (fr := 1) (lo := 22) (mc := 0) (ms := 0) (av := [.ref t0, .int 2, .ref z1]) (ws := [(oX5 t0 t1 t2 (nI w)), (aI g t1 6 pd), (aI g t2 36 wb), (aI g z1 3 nu)]) (cc := cX5_store) (maxL := 3) (ret := none) (fun A => va_Qv (fun (u : Unit) => True) (fun u t => he_post g A ((fun (u : Unit) => [(oX5 t0 t1 t2 (nI w)), (aI g t1 6 (upd pd 2 (nu 0))), (aI g t2 36 wb), (aI g z1 3 nu)]) u) t) A) (by decide) rfl (Nat.le_of_ble_eq_true rfl) ?_
  intro p e s m args below meth c A ls H locs Q hQ hB
  obtain ⟨hx, hb, hr, hml, hown, hts, hlk, hin, hP, hK, hD, hS, hA, hE, hl⟩ := hB
  have hl : lv_has ls 3 [(0, .ref t0), (1, .int 2), (2, .ref z1)] := hl
  have f11 := hts (.fieldLink RX5 11 "HiredEnemy$Pact" "said" "[I") (iwoX5_store (k := 1) rfl)
  have inX5 : ∀ w ∈ wsX50, w ∈ wsX5_store := innX5_store_X5
  have nl37 := hE.nest (RX5, 37, yX10_within) (by decide +kernel)
  have iniX10 := hts (.initialized RX10) (iwoX5_store (k := 3) rfl)
  have st_yX10_within := hts (.static yX10_within) (iwoX5_store (k := 2) rfl)
  refine lv_iload_n hx hb dX5_store_0 rfl (lv_at hl 1 rfl) ?_
  refine lv_bipush (v := 6) hx hb dX5_store_1 (by decide) ?_
  refine lv_icmp_ne (tgt := 32) hx hb dX5_store_3 (by decide) (fun c_1 => ?_) (fun c_1 => ?_)
  · refine lv_iload_n hx hb dX5_store_32 rfl (lv_at hl 1 rfl) ?_
    refine lv_iconst (v := 0) hx hb dX5_store_33 (by decide) ?_
    refine lv_aload_n hx hb dX5_store_34 rfl (lv_at hl 0 rfl) ?_
    refine va_get (v := .ref t1) (T := TX5) (N := 3) hx hb hts inX5 hown hK hP 0 rfl rfl 0 (by decide) f11 (fun _ h9 => h9) rfl dX5_store_35 ?_
    refine va_alen (v := 6) hx hb hK hP 1 1 rfl rfl rfl dX5_store_38 ?_
    refine lv_iconst (v := 1) hx hb dX5_store_39 (by decide) ?_
    refine lv_isub hx hb dX5_store_40 ?_
    refine he_top (5) (by decide) ?_
    refine he_ci (wc := []) (wr := [(oX5 t0 t1 t2 (nI w)), (aI g t1 6 pd), (aI g t2 36 wb), (aI g z1 3 nu)]) (va_runSN (As := [.int 2, .int 0, .int 5]) (rest := []) ⟨hx, hb, hml, hown, hts⟩ (c_X10_within l g 2 0 5 H.size) ⟨(va_cnB 3 hts gX5_store_X10_within_n37 rfl rfl rfl nl37 iniX10 (by decide +kernel) ⟨Nat.le_of_ble_eq_true rfl, Nat.le_of_ble_eq_true rfl⟩), st_yX10_within, trivial⟩ (he_preS (wc := []) hK hP hD hS hA hE [] rfl rfl) rfl rfl hl.1 rfl (lv_room (Nat.le_of_ble_eq_true rfl)) dX5_store_41 ⟨(Nat.le_of_ble_eq_true rfl), (Nat.le_of_ble_eq_true rfl)⟩) hP hD hS hA [] [0, 1, 2, 3] rfl rfl rfl (by decide) (fun r_2 u_3 H locs h_4 hP hD hS => ?_)
    subst h_4
    have hP : va_P g.1 vwCl [(oX5 t0 t1 t2 (nI w)), (aI g t1 6 pd), (aI g t2 36 wb), (aI g z1 3 nu)] H := hP
    have hD : va_D A [(oX5 t0 t1 t2 (nI w)), (aI g t1 6 pd), (aI g t2 36 wb), (aI g z1 3 nu)] := hD
    refine he_top (1) (by decide) ?_
    refine lv_if_eq (tgt := 56) hx hb dX5_store_44 (by decide) (fun c_5 => ?_) (fun c_5 => ?_)
    · exact absurd c_5 (by decide)
    · refine lv_aload_n hx hb dX5_store_47 rfl (lv_at hl 0 rfl) ?_
      refine va_get (v := .ref t1) (T := TX5) (N := 3) hx hb hts inX5 hown hK hP 0 rfl rfl 0 (by decide) f11 (fun _ h9 => h9) rfl dX5_store_48 ?_
      refine lv_iload_n hx hb dX5_store_51 rfl (lv_at hl 1 rfl) ?_
      refine lv_aload_n hx hb dX5_store_52 rfl (lv_at hl 2 rfl) ?_
      refine lv_iconst (v := 0) hx hb dX5_store_53 (by decide) ?_
      refine he_iald hx hb hK hP 3 rfl (0) (by decide) (by decide) (by first | decide | assumption) (nu 0) rfl dX5_store_54 ?_
      refine he_iast hx hb hK hP hD hS 1 rfl (2) (by decide) (by decide) (by first | decide | assumption) dX5_store_55 (fun H locs hP hD hS => ?_)
      have hP : va_P g.1 vwCl [(oX5 t0 t1 t2 (nI w)), (aI g t1 6 (upd pd 2 (nu 0))), (aI g t2 36 wb), (aI g z1 3 nu)] H := hP
      have hD : va_D A [(oX5 t0 t1 t2 (nI w)), (aI g t1 6 (upd pd 2 (nu 0))), (aI g t2 36 wb), (aI g z1 3 nu)] := hD
      exact he_rv hQ hx hb hr hlk hP hD hS dX5_store_56 (Nat.le_of_ble_eq_true rfl) (Nat.le_of_ble_eq_true rfl) (()) (rfl) (trivial)
  · exact absurd c_1 (by decide)
set_option maxHeartbeats 4000000 in
set_option maxRecDepth 100000 in
theorem p_X5_numbers_3 (l : Launch) (g : he_G) (t0 : Nat) (t1 : Nat) (t2 : Nat) (w : Nat)  : he_I l yX5_numbers wsX5_numbers 0 0 0 0 g [.ref t0, .int 3] [(oX5 t0 t1 t2 (nI w))] (fun (r : Int32) (u : Unit) => r = 1) (fun (u : Unit) => [(oX5 t0 t1 t2 (nI w))]) := by
  refine he_begin (l := l) (g := g) (y := yX5_numbers) (wl := wsX5_numbers) (fr := 0) (lo := 0) (mc := 0) (ms := 0) (av := [.ref t0, .int 3]) (ws := [(oX5 t0 t1 t2 (nI w))]) (cc := cX5_numbers) (maxL := 2) (ret := (some .int)) (fun A => va_Qi (fun (r : Int32) (u : Unit) => r = 1) (fun u t => he_post g A ((fun (u : Unit) => [(oX5 t0 t1 t2 (nI w))]) u) t) A) (by decide) rfl (Nat.le_of_ble_eq_true rfl) ?_
  intro p e s m args below meth c A ls H locs Q hQ hB
  obtain ⟨hx, hb, hr, hml, hown, hts, hlk, hin, hP, hK, hD, hS, hA, hE, hl⟩ := hB
  have hl : lv_has ls 2 [(0, .ref t0), (1, .int 3)] := hl
  refine lv_iload_n hx hb dX5_numbers_0 rfl (lv_at hl 1 rfl) ?_
  refine lv_bipush (v := 6) hx hb dX5_numbers_1 (by decide) ?_
  refine lv_icmp_ne (tgt := 10) hx hb dX5_numbers_3 (by decide) (fun c_1 => ?_) (fun c_1 => ?_)
  · refine lv_iconst (v := 1) hx hb dX5_numbers_10 (by decide) ?_
    exact he_ri hQ hx hb hr hlk hP hD hS dX5_numbers_11 (Nat.le_of_ble_eq_true rfl) (Nat.le_of_ble_eq_true rfl) (()) (rfl) (rfl)
  · exact absurd c_1 (by decide)
set_option maxHeartbeats 4000000 in
set_option maxRecDepth 100000 in
theorem p_X5_low_3_0 (l : Launch) (g : he_G) (t0 : Nat) (t1 : Nat) (t2 : Nat) (w : Nat)  : he_I l yX5_low wsX5_low 0 0 0 0 g [.ref t0, .int 3, .int 0] [(oX5 t0 t1 t2 (nI w))] (fun (r : Int32) (u : Unit) => r = 0) (fun (u : Unit) => [(oX5 t0 t1 t2 (nI w))]) := by
  refine he_begin (l := l) (g := g) (y := yX5_low) (wl := wsX5_low) (fr := 0) (lo := 0) (mc := 0) (ms := 0) (av := [.ref t0, .int 3, .int 0]) (ws := [(oX5 t0 t1 t2 (nI w))]) (cc := cX5_low) (maxL := 3) (ret := (some .int)) (fun A => va_Qi (fun (r : Int32) (u : Unit) => r = 0) (fun u t => he_post g A ((fun (u : Unit) => [(oX5 t0 t1 t2 (nI w))]) u) t) A) (by decide) rfl (Nat.le_of_ble_eq_true rfl) ?_
  intro p e s m args below meth c A ls H locs Q hQ hB
  obtain ⟨hx, hb, hr, hml, hown, hts, hlk, hin, hP, hK, hD, hS, hA, hE, hl⟩ := hB
  have hl : lv_has ls 3 [(0, .ref t0), (1, .int 3), (2, .int 0)] := hl
  refine lv_iload_n hx hb dX5_low_0 rfl (lv_at hl 1 rfl) ?_
  refine lv_iconst (v := 5) hx hb dX5_low_1 (by decide) ?_
  refine lv_icmp_ne (tgt := 9) hx hb dX5_low_2 (by decide) (fun c_1 => ?_) (fun c_1 => ?_)
  · refine lv_iconst (v := 0) hx hb dX5_low_9 (by decide) ?_
    exact he_ri hQ hx hb hr hlk hP hD hS dX5_low_10 (Nat.le_of_ble_eq_true rfl) (Nat.le_of_ble_eq_true rfl) (()) (rfl) (rfl)
  · exact absurd c_1 (by decide)
set_option maxHeartbeats 4000000 in
set_option maxRecDepth 100000 in
theorem p_X5_high_3_0 (l : Launch) (g : he_G) (t0 : Nat) (t1 : Nat) (t2 : Nat) (w : Nat)  : he_I l yX5_high wsX5_high 1 22 0 0 g [.ref t0, .int 3, .int 0] [(oX5 t0 t1 t2 (nI w))] (fun (r : Int32) (u : Unit) => r = 99) (fun (u : Unit) => [(oX5 t0 t1 t2 (nI w))]) := by
  refine he_begin (l := l) (g := g) (y := yX5_high) (wl := wsX5_high) (fr := 1) (lo := 22) (mc := 0) (ms := 0) (av := [.ref t0, .int 3, .int 0]) (ws := [(oX5 t0 t1 t2 (nI w))]) (cc := cX5_high) (maxL := 3) (ret := (some .int)) (fun A => va_Qi (fun (r : Int32) (u : Unit) => r = 99) (fun u t => he_post g A ((fun (u : Unit) => [(oX5 t0 t1 t2 (nI w))]) u) t) A) (by decide) rfl (Nat.le_of_ble_eq_true rfl) ?_
  intro p e s m args below meth c A ls H locs Q hQ hB
  obtain ⟨hx, hb, hr, hml, hown, hts, hlk, hin, hP, hK, hD, hS, hA, hE, hl⟩ := hB
  have hl : lv_has ls 3 [(0, .ref t0), (1, .int 3), (2, .int 0)] := hl
  have f34 := hts (.fieldLink RX5 34 "HiredEnemy$Pact" "HIGH" "[I") (iwoX5_high (k := 1) rfl)
  obtain ⟨t_ph, hZ_ph, hT_ph⟩ := hE.2.2.2.1
  have nl37 := hE.nest (RX5, 37, yX10_within) (by decide +kernel)
  have iniX10 := hts (.initialized RX10) (iwoX5_high (k := 3) rfl)
  have st_yX10_within := hts (.static yX10_within) (iwoX5_high (k := 2) rfl)
  refine lv_iload_n hx hb dX5_high_0 rfl (lv_at hl 1 rfl) ?_
  refine lv_bipush (v := 6) hx hb dX5_high_1 (by decide) ?_
  refine lv_icmp_ne (tgt := 22) hx hb dX5_high_3 (by decide) (fun c_1 => ?_) (fun c_1 => ?_)
  · refine lv_iload_n hx hb dX5_high_22 rfl (lv_at hl 1 rfl) ?_
    refine lv_iconst (v := 0) hx hb dX5_high_23 (by decide) ?_
    refine va_gets hx hb hZ_ph hS hown f34 (fun _ h9 => h9) dX5_high_24 ?_
    refine va_tlen (v := 6) hx hb hT_ph hS (by decide) dX5_high_27 ?_
    refine lv_iconst (v := 1) hx hb dX5_high_28 (by decide) ?_
    refine lv_isub hx hb dX5_high_29 ?_
    refine he_top (5) (by decide) ?_
    refine he_ci (wc := []) (wr := [(oX5 t0 t1 t2 (nI w))]) (va_runSN (As := [.int 3, .int 0, .int 5]) (rest := []) ⟨hx, hb, hml, hown, hts⟩ (c_X10_within l g 3 0 5 H.size) ⟨(va_cnB 3 hts gX5_high_X10_within_n37 rfl rfl rfl nl37 iniX10 (by decide +kernel) ⟨Nat.le_of_ble_eq_true rfl, Nat.le_of_ble_eq_true rfl⟩), st_yX10_within, trivial⟩ (he_preS (wc := []) hK hP hD hS hA hE [] rfl rfl) rfl rfl hl.1 rfl (lv_room (Nat.le_of_ble_eq_true rfl)) dX5_high_30 ⟨(Nat.le_of_ble_eq_true rfl), (Nat.le_of_ble_eq_true rfl)⟩) hP hD hS hA [] [0] rfl rfl rfl (by decide) (fun r_2 u_3 H locs h_4 hP hD hS => ?_)
    subst h_4
    have hP : va_P g.1 vwCl [(oX5 t0 t1 t2 (nI w))] H := hP
    have hD : va_D A [(oX5 t0 t1 t2 (nI w))] := hD
    refine he_top (1) (by decide) ?_
    refine lv_if_eq (tgt := 44) hx hb dX5_high_33 (by decide) (fun c_5 => ?_) (fun c_5 => ?_)
    · exact absurd c_5 (by decide)
    · refine va_gets hx hb hZ_ph hS hown f34 (fun _ h9 => h9) dX5_high_36 ?_
      refine lv_iload_n hx hb dX5_high_39 rfl (lv_at hl 1 rfl) ?_
      refine he_tald hx hb hT_ph hS (3) (by decide) (by decide) (by decide) (99) rfl dX5_high_40 ?_
      refine lv_goto (tgt := 45) hx hb dX5_high_41 (by decide) ?_
      exact he_ri hQ hx hb hr hlk hP hD hS dX5_high_45 (Nat.le_of_ble_eq_true rfl) (Nat.le_of_ble_eq_true rfl) (()) (rfl) (rfl)
  · exact absurd c_1 (by decide)
set_option maxHeartbeats 4000000 in
set_option maxRecDepth 100000 in
theorem p_X5_store_3 (l : Launch) (g : he_G) (t0 : Nat) (t1 : Nat) (t2 : Nat) (w : Nat) (pd : Nat → Int32) (wb : Nat → Int32) (z1 : Nat) (nu : Nat → Int32)  : he_V l yX5_store wsX5_store 1 22 0 0 g [.ref t0, .int 3, .ref z1] [(oX5 t0 t1 t2 (nI w)), (aI g t1 6 pd), (aI g t2 36 wb), (aI g z1 3 nu)] (fun (u : Unit) => True) (fun (u : Unit) => [(oX5 t0 t1 t2 (nI w)), (aI g t1 6 (upd pd 3 (nu 0))), (aI g t2 36 wb), (aI g z1 3 nu)]) := by
  refine he_begin (l := l) (g := g) (y := yX5_store) (wl := wsX5_store) (fr := 1) (lo := 22) (mc := 0) (ms := 0) (av := [.ref t0, .int 3, .ref z1]) (ws := [(oX5 t0 t1 t2 (nI w)), (aI g t1 6 pd), (aI g t2 36 wb), (aI g z1 3 nu)]) (cc := cX5_store) (maxL := 3) (ret := none) (fun A => va_Qv (fun (u : Unit) => True) (fun u t => he_post g A ((fun (u : Unit) => [(oX5 t0 t1 t2 (nI w)), (aI g t1 6 (upd pd 3 (nu 0))), (aI g t2 36 wb), (aI g z1 3 nu)]) u) t) A) (by decide) rfl (Nat.le_of_ble_eq_true rfl) ?_
  intro p e s m args below meth c A ls H locs Q hQ hB
  obtain ⟨hx, hb, hr, hml, hown, hts, hlk, hin, hP, hK, hD, hS, hA, hE, hl⟩ := hB
  have hl : lv_has ls 3 [(0, .ref t0), (1, .int 3), (2, .ref z1)] := hl
  have f11 := hts (.fieldLink RX5 11 "HiredEnemy$Pact" "said" "[I") (iwoX5_store (k := 1) rfl)
  have inX5 : ∀ w ∈ wsX50, w ∈ wsX5_store := innX5_store_X5
  have nl37 := hE.nest (RX5, 37, yX10_within) (by decide +kernel)
  have iniX10 := hts (.initialized RX10) (iwoX5_store (k := 3) rfl)
  have st_yX10_within := hts (.static yX10_within) (iwoX5_store (k := 2) rfl)
  refine lv_iload_n hx hb dX5_store_0 rfl (lv_at hl 1 rfl) ?_
  refine lv_bipush (v := 6) hx hb dX5_store_1 (by decide) ?_
  refine lv_icmp_ne (tgt := 32) hx hb dX5_store_3 (by decide) (fun c_1 => ?_) (fun c_1 => ?_)
  · refine lv_iload_n hx hb dX5_store_32 rfl (lv_at hl 1 rfl) ?_
    refine lv_iconst (v := 0) hx hb dX5_store_33 (by decide) ?_
    refine lv_aload_n hx hb dX5_store_34 rfl (lv_at hl 0 rfl) ?_
    refine va_get (v := .ref t1) (T := TX5) (N := 3) hx hb hts inX5 hown hK hP 0 rfl rfl 0 (by decide) f11 (fun _ h9 => h9) rfl dX5_store_35 ?_
    refine va_alen (v := 6) hx hb hK hP 1 1 rfl rfl rfl dX5_store_38 ?_
    refine lv_iconst (v := 1) hx hb dX5_store_39 (by decide) ?_
    refine lv_isub hx hb dX5_store_40 ?_
    refine he_top (5) (by decide) ?_
    refine he_ci (wc := []) (wr := [(oX5 t0 t1 t2 (nI w)), (aI g t1 6 pd), (aI g t2 36 wb), (aI g z1 3 nu)]) (va_runSN (As := [.int 3, .int 0, .int 5]) (rest := []) ⟨hx, hb, hml, hown, hts⟩ (c_X10_within l g 3 0 5 H.size) ⟨(va_cnB 3 hts gX5_store_X10_within_n37 rfl rfl rfl nl37 iniX10 (by decide +kernel) ⟨Nat.le_of_ble_eq_true rfl, Nat.le_of_ble_eq_true rfl⟩), st_yX10_within, trivial⟩ (he_preS (wc := []) hK hP hD hS hA hE [] rfl rfl) rfl rfl hl.1 rfl (lv_room (Nat.le_of_ble_eq_true rfl)) dX5_store_41 ⟨(Nat.le_of_ble_eq_true rfl), (Nat.le_of_ble_eq_true rfl)⟩) hP hD hS hA [] [0, 1, 2, 3] rfl rfl rfl (by decide) (fun r_2 u_3 H locs h_4 hP hD hS => ?_)
    subst h_4
    have hP : va_P g.1 vwCl [(oX5 t0 t1 t2 (nI w)), (aI g t1 6 pd), (aI g t2 36 wb), (aI g z1 3 nu)] H := hP
    have hD : va_D A [(oX5 t0 t1 t2 (nI w)), (aI g t1 6 pd), (aI g t2 36 wb), (aI g z1 3 nu)] := hD
    refine he_top (1) (by decide) ?_
    refine lv_if_eq (tgt := 56) hx hb dX5_store_44 (by decide) (fun c_5 => ?_) (fun c_5 => ?_)
    · exact absurd c_5 (by decide)
    · refine lv_aload_n hx hb dX5_store_47 rfl (lv_at hl 0 rfl) ?_
      refine va_get (v := .ref t1) (T := TX5) (N := 3) hx hb hts inX5 hown hK hP 0 rfl rfl 0 (by decide) f11 (fun _ h9 => h9) rfl dX5_store_48 ?_
      refine lv_iload_n hx hb dX5_store_51 rfl (lv_at hl 1 rfl) ?_
      refine lv_aload_n hx hb dX5_store_52 rfl (lv_at hl 2 rfl) ?_
      refine lv_iconst (v := 0) hx hb dX5_store_53 (by decide) ?_
      refine he_iald hx hb hK hP 3 rfl (0) (by decide) (by decide) (by first | decide | assumption) (nu 0) rfl dX5_store_54 ?_
      refine he_iast hx hb hK hP hD hS 1 rfl (3) (by decide) (by decide) (by first | decide | assumption) dX5_store_55 (fun H locs hP hD hS => ?_)
      have hP : va_P g.1 vwCl [(oX5 t0 t1 t2 (nI w)), (aI g t1 6 (upd pd 3 (nu 0))), (aI g t2 36 wb), (aI g z1 3 nu)] H := hP
      have hD : va_D A [(oX5 t0 t1 t2 (nI w)), (aI g t1 6 (upd pd 3 (nu 0))), (aI g t2 36 wb), (aI g z1 3 nu)] := hD
      exact he_rv hQ hx hb hr hlk hP hD hS dX5_store_56 (Nat.le_of_ble_eq_true rfl) (Nat.le_of_ble_eq_true rfl) (()) (rfl) (trivial)
  · exact absurd c_1 (by decide)
set_option maxHeartbeats 4000000 in
set_option maxRecDepth 100000 in
theorem p_X5_numbers_4 (l : Launch) (g : he_G) (t0 : Nat) (t1 : Nat) (t2 : Nat) (w : Nat)  : he_I l yX5_numbers wsX5_numbers 0 0 0 0 g [.ref t0, .int 4] [(oX5 t0 t1 t2 (nI w))] (fun (r : Int32) (u : Unit) => r = 1) (fun (u : Unit) => [(oX5 t0 t1 t2 (nI w))]) := by
  refine he_begin (l := l) (g := g) (y := yX5_numbers) (wl := wsX5_numbers) (fr := 0) (lo := 0) (mc := 0) (ms := 0) (av := [.ref t0, .int 4]) (ws := [(oX5 t0 t1 t2 (nI w))]) (cc := cX5_numbers) (maxL := 2) (ret := (some .int)) (fun A => va_Qi (fun (r : Int32) (u : Unit) => r = 1) (fun u t => he_post g A ((fun (u : Unit) => [(oX5 t0 t1 t2 (nI w))]) u) t) A) (by decide) rfl (Nat.le_of_ble_eq_true rfl) ?_
  intro p e s m args below meth c A ls H locs Q hQ hB
  obtain ⟨hx, hb, hr, hml, hown, hts, hlk, hin, hP, hK, hD, hS, hA, hE, hl⟩ := hB
  have hl : lv_has ls 2 [(0, .ref t0), (1, .int 4)] := hl
  refine lv_iload_n hx hb dX5_numbers_0 rfl (lv_at hl 1 rfl) ?_
  refine lv_bipush (v := 6) hx hb dX5_numbers_1 (by decide) ?_
  refine lv_icmp_ne (tgt := 10) hx hb dX5_numbers_3 (by decide) (fun c_1 => ?_) (fun c_1 => ?_)
  · refine lv_iconst (v := 1) hx hb dX5_numbers_10 (by decide) ?_
    exact he_ri hQ hx hb hr hlk hP hD hS dX5_numbers_11 (Nat.le_of_ble_eq_true rfl) (Nat.le_of_ble_eq_true rfl) (()) (rfl) (rfl)
  · exact absurd c_1 (by decide)
set_option maxHeartbeats 4000000 in
set_option maxRecDepth 100000 in
theorem p_X5_low_4_0 (l : Launch) (g : he_G) (t0 : Nat) (t1 : Nat) (t2 : Nat) (w : Nat)  : he_I l yX5_low wsX5_low 0 0 0 0 g [.ref t0, .int 4, .int 0] [(oX5 t0 t1 t2 (nI w))] (fun (r : Int32) (u : Unit) => r = 0) (fun (u : Unit) => [(oX5 t0 t1 t2 (nI w))]) := by
  refine he_begin (l := l) (g := g) (y := yX5_low) (wl := wsX5_low) (fr := 0) (lo := 0) (mc := 0) (ms := 0) (av := [.ref t0, .int 4, .int 0]) (ws := [(oX5 t0 t1 t2 (nI w))]) (cc := cX5_low) (maxL := 3) (ret := (some .int)) (fun A => va_Qi (fun (r : Int32) (u : Unit) => r = 0) (fun u t => he_post g A ((fun (u : Unit) => [(oX5 t0 t1 t2 (nI w))]) u) t) A) (by decide) rfl (Nat.le_of_ble_eq_true rfl) ?_
  intro p e s m args below meth c A ls H locs Q hQ hB
  obtain ⟨hx, hb, hr, hml, hown, hts, hlk, hin, hP, hK, hD, hS, hA, hE, hl⟩ := hB
  have hl : lv_has ls 3 [(0, .ref t0), (1, .int 4), (2, .int 0)] := hl
  refine lv_iload_n hx hb dX5_low_0 rfl (lv_at hl 1 rfl) ?_
  refine lv_iconst (v := 5) hx hb dX5_low_1 (by decide) ?_
  refine lv_icmp_ne (tgt := 9) hx hb dX5_low_2 (by decide) (fun c_1 => ?_) (fun c_1 => ?_)
  · refine lv_iconst (v := 0) hx hb dX5_low_9 (by decide) ?_
    exact he_ri hQ hx hb hr hlk hP hD hS dX5_low_10 (Nat.le_of_ble_eq_true rfl) (Nat.le_of_ble_eq_true rfl) (()) (rfl) (rfl)
  · exact absurd c_1 (by decide)
set_option maxHeartbeats 4000000 in
set_option maxRecDepth 100000 in
theorem p_X5_high_4_0 (l : Launch) (g : he_G) (t0 : Nat) (t1 : Nat) (t2 : Nat) (w : Nat)  : he_I l yX5_high wsX5_high 1 22 0 0 g [.ref t0, .int 4, .int 0] [(oX5 t0 t1 t2 (nI w))] (fun (r : Int32) (u : Unit) => r = 99) (fun (u : Unit) => [(oX5 t0 t1 t2 (nI w))]) := by
  refine he_begin (l := l) (g := g) (y := yX5_high) (wl := wsX5_high) (fr := 1) (lo := 22) (mc := 0) (ms := 0) (av := [.ref t0, .int 4, .int 0]) (ws := [(oX5 t0 t1 t2 (nI w))]) (cc := cX5_high) (maxL := 3) (ret := (some .int)) (fun A => va_Qi (fun (r : Int32) (u : Unit) => r = 99) (fun u t => he_post g A ((fun (u : Unit) => [(oX5 t0 t1 t2 (nI w))]) u) t) A) (by decide) rfl (Nat.le_of_ble_eq_true rfl) ?_
  intro p e s m args below meth c A ls H locs Q hQ hB
  obtain ⟨hx, hb, hr, hml, hown, hts, hlk, hin, hP, hK, hD, hS, hA, hE, hl⟩ := hB
  have hl : lv_has ls 3 [(0, .ref t0), (1, .int 4), (2, .int 0)] := hl
  have f34 := hts (.fieldLink RX5 34 "HiredEnemy$Pact" "HIGH" "[I") (iwoX5_high (k := 1) rfl)
  obtain ⟨t_ph, hZ_ph, hT_ph⟩ := hE.2.2.2.1
  have nl37 := hE.nest (RX5, 37, yX10_within) (by decide +kernel)
  have iniX10 := hts (.initialized RX10) (iwoX5_high (k := 3) rfl)
  have st_yX10_within := hts (.static yX10_within) (iwoX5_high (k := 2) rfl)
  refine lv_iload_n hx hb dX5_high_0 rfl (lv_at hl 1 rfl) ?_
  refine lv_bipush (v := 6) hx hb dX5_high_1 (by decide) ?_
  refine lv_icmp_ne (tgt := 22) hx hb dX5_high_3 (by decide) (fun c_1 => ?_) (fun c_1 => ?_)
  · refine lv_iload_n hx hb dX5_high_22 rfl (lv_at hl 1 rfl) ?_
    refine lv_iconst (v := 0) hx hb dX5_high_23 (by decide) ?_
    refine va_gets hx hb hZ_ph hS hown f34 (fun _ h9 => h9) dX5_high_24 ?_
    refine va_tlen (v := 6) hx hb hT_ph hS (by decide) dX5_high_27 ?_
    refine lv_iconst (v := 1) hx hb dX5_high_28 (by decide) ?_
    refine lv_isub hx hb dX5_high_29 ?_
    refine he_top (5) (by decide) ?_
    refine he_ci (wc := []) (wr := [(oX5 t0 t1 t2 (nI w))]) (va_runSN (As := [.int 4, .int 0, .int 5]) (rest := []) ⟨hx, hb, hml, hown, hts⟩ (c_X10_within l g 4 0 5 H.size) ⟨(va_cnB 3 hts gX5_high_X10_within_n37 rfl rfl rfl nl37 iniX10 (by decide +kernel) ⟨Nat.le_of_ble_eq_true rfl, Nat.le_of_ble_eq_true rfl⟩), st_yX10_within, trivial⟩ (he_preS (wc := []) hK hP hD hS hA hE [] rfl rfl) rfl rfl hl.1 rfl (lv_room (Nat.le_of_ble_eq_true rfl)) dX5_high_30 ⟨(Nat.le_of_ble_eq_true rfl), (Nat.le_of_ble_eq_true rfl)⟩) hP hD hS hA [] [0] rfl rfl rfl (by decide) (fun r_2 u_3 H locs h_4 hP hD hS => ?_)
    subst h_4
    have hP : va_P g.1 vwCl [(oX5 t0 t1 t2 (nI w))] H := hP
    have hD : va_D A [(oX5 t0 t1 t2 (nI w))] := hD
    refine he_top (1) (by decide) ?_
    refine lv_if_eq (tgt := 44) hx hb dX5_high_33 (by decide) (fun c_5 => ?_) (fun c_5 => ?_)
    · exact absurd c_5 (by decide)
    · refine va_gets hx hb hZ_ph hS hown f34 (fun _ h9 => h9) dX5_high_36 ?_
      refine lv_iload_n hx hb dX5_high_39 rfl (lv_at hl 1 rfl) ?_
      refine he_tald hx hb hT_ph hS (4) (by decide) (by decide) (by decide) (99) rfl dX5_high_40 ?_
      refine lv_goto (tgt := 45) hx hb dX5_high_41 (by decide) ?_
      exact he_ri hQ hx hb hr hlk hP hD hS dX5_high_45 (Nat.le_of_ble_eq_true rfl) (Nat.le_of_ble_eq_true rfl) (()) (rfl) (rfl)
  · exact absurd c_1 (by decide)
set_option maxHeartbeats 4000000 in
set_option maxRecDepth 100000 in
theorem p_X5_store_4 (l : Launch) (g : he_G) (t0 : Nat) (t1 : Nat) (t2 : Nat) (w : Nat) (pd : Nat → Int32) (wb : Nat → Int32) (z1 : Nat) (nu : Nat → Int32)  : he_V l yX5_store wsX5_store 1 22 0 0 g [.ref t0, .int 4, .ref z1] [(oX5 t0 t1 t2 (nI w)), (aI g t1 6 pd), (aI g t2 36 wb), (aI g z1 3 nu)] (fun (u : Unit) => True) (fun (u : Unit) => [(oX5 t0 t1 t2 (nI w)), (aI g t1 6 (upd pd 4 (nu 0))), (aI g t2 36 wb), (aI g z1 3 nu)]) := by
  refine he_begin (l := l) (g := g) (y := yX5_store) (wl := wsX5_store) (fr := 1) (lo := 22) (mc := 0) (ms := 0) (av := [.ref t0, .int 4, .ref z1]) (ws := [(oX5 t0 t1 t2 (nI w)), (aI g t1 6 pd), (aI g t2 36 wb), (aI g z1 3 nu)]) (cc := cX5_store) (maxL := 3) (ret := none) (fun A => va_Qv (fun (u : Unit) => True) (fun u t => he_post g A ((fun (u : Unit) => [(oX5 t0 t1 t2 (nI w)), (aI g t1 6 (upd pd 4 (nu 0))), (aI g t2 36 wb), (aI g z1 3 nu)]) u) t) A) (by decide) rfl (Nat.le_of_ble_eq_true rfl) ?_
  intro p e s m args below meth c A ls H locs Q hQ hB
  obtain ⟨hx, hb, hr, hml, hown, hts, hlk, hin, hP, hK, hD, hS, hA, hE, hl⟩ := hB
  have hl : lv_has ls 3 [(0, .ref t0), (1, .int 4), (2, .ref z1)] := hl
  have f11 := hts (.fieldLink RX5 11 "HiredEnemy$Pact" "said" "[I") (iwoX5_store (k := 1) rfl)
  have inX5 : ∀ w ∈ wsX50, w ∈ wsX5_store := innX5_store_X5
  have nl37 := hE.nest (RX5, 37, yX10_within) (by decide +kernel)
  have iniX10 := hts (.initialized RX10) (iwoX5_store (k := 3) rfl)
  have st_yX10_within := hts (.static yX10_within) (iwoX5_store (k := 2) rfl)
  refine lv_iload_n hx hb dX5_store_0 rfl (lv_at hl 1 rfl) ?_
  refine lv_bipush (v := 6) hx hb dX5_store_1 (by decide) ?_
  refine lv_icmp_ne (tgt := 32) hx hb dX5_store_3 (by decide) (fun c_1 => ?_) (fun c_1 => ?_)
  · refine lv_iload_n hx hb dX5_store_32 rfl (lv_at hl 1 rfl) ?_
    refine lv_iconst (v := 0) hx hb dX5_store_33 (by decide) ?_
    refine lv_aload_n hx hb dX5_store_34 rfl (lv_at hl 0 rfl) ?_
    refine va_get (v := .ref t1) (T := TX5) (N := 3) hx hb hts inX5 hown hK hP 0 rfl rfl 0 (by decide) f11 (fun _ h9 => h9) rfl dX5_store_35 ?_
    refine va_alen (v := 6) hx hb hK hP 1 1 rfl rfl rfl dX5_store_38 ?_
    refine lv_iconst (v := 1) hx hb dX5_store_39 (by decide) ?_
    refine lv_isub hx hb dX5_store_40 ?_
    refine he_top (5) (by decide) ?_
    refine he_ci (wc := []) (wr := [(oX5 t0 t1 t2 (nI w)), (aI g t1 6 pd), (aI g t2 36 wb), (aI g z1 3 nu)]) (va_runSN (As := [.int 4, .int 0, .int 5]) (rest := []) ⟨hx, hb, hml, hown, hts⟩ (c_X10_within l g 4 0 5 H.size) ⟨(va_cnB 3 hts gX5_store_X10_within_n37 rfl rfl rfl nl37 iniX10 (by decide +kernel) ⟨Nat.le_of_ble_eq_true rfl, Nat.le_of_ble_eq_true rfl⟩), st_yX10_within, trivial⟩ (he_preS (wc := []) hK hP hD hS hA hE [] rfl rfl) rfl rfl hl.1 rfl (lv_room (Nat.le_of_ble_eq_true rfl)) dX5_store_41 ⟨(Nat.le_of_ble_eq_true rfl), (Nat.le_of_ble_eq_true rfl)⟩) hP hD hS hA [] [0, 1, 2, 3] rfl rfl rfl (by decide) (fun r_2 u_3 H locs h_4 hP hD hS => ?_)
    subst h_4
    have hP : va_P g.1 vwCl [(oX5 t0 t1 t2 (nI w)), (aI g t1 6 pd), (aI g t2 36 wb), (aI g z1 3 nu)] H := hP
    have hD : va_D A [(oX5 t0 t1 t2 (nI w)), (aI g t1 6 pd), (aI g t2 36 wb), (aI g z1 3 nu)] := hD
    refine he_top (1) (by decide) ?_
    refine lv_if_eq (tgt := 56) hx hb dX5_store_44 (by decide) (fun c_5 => ?_) (fun c_5 => ?_)
    · exact absurd c_5 (by decide)
    · refine lv_aload_n hx hb dX5_store_47 rfl (lv_at hl 0 rfl) ?_
      refine va_get (v := .ref t1) (T := TX5) (N := 3) hx hb hts inX5 hown hK hP 0 rfl rfl 0 (by decide) f11 (fun _ h9 => h9) rfl dX5_store_48 ?_
      refine lv_iload_n hx hb dX5_store_51 rfl (lv_at hl 1 rfl) ?_
      refine lv_aload_n hx hb dX5_store_52 rfl (lv_at hl 2 rfl) ?_
      refine lv_iconst (v := 0) hx hb dX5_store_53 (by decide) ?_
      refine he_iald hx hb hK hP 3 rfl (0) (by decide) (by decide) (by first | decide | assumption) (nu 0) rfl dX5_store_54 ?_
      refine he_iast hx hb hK hP hD hS 1 rfl (4) (by decide) (by decide) (by first | decide | assumption) dX5_store_55 (fun H locs hP hD hS => ?_)
      have hP : va_P g.1 vwCl [(oX5 t0 t1 t2 (nI w)), (aI g t1 6 (upd pd 4 (nu 0))), (aI g t2 36 wb), (aI g z1 3 nu)] H := hP
      have hD : va_D A [(oX5 t0 t1 t2 (nI w)), (aI g t1 6 (upd pd 4 (nu 0))), (aI g t2 36 wb), (aI g z1 3 nu)] := hD
      exact he_rv hQ hx hb hr hlk hP hD hS dX5_store_56 (Nat.le_of_ble_eq_true rfl) (Nat.le_of_ble_eq_true rfl) (()) (rfl) (trivial)
  · exact absurd c_1 (by decide)
set_option maxHeartbeats 4000000 in
set_option maxRecDepth 100000 in
theorem p_X5_numbers_5 (l : Launch) (g : he_G) (t0 : Nat) (t1 : Nat) (t2 : Nat) (w : Nat)  : he_I l yX5_numbers wsX5_numbers 0 0 0 0 g [.ref t0, .int 5] [(oX5 t0 t1 t2 (nI w))] (fun (r : Int32) (u : Unit) => r = 1) (fun (u : Unit) => [(oX5 t0 t1 t2 (nI w))]) := by
  refine he_begin (l := l) (g := g) (y := yX5_numbers) (wl := wsX5_numbers) (fr := 0) (lo := 0) (mc := 0) (ms := 0) (av := [.ref t0, .int 5]) (ws := [(oX5 t0 t1 t2 (nI w))]) (cc := cX5_numbers) (maxL := 2) (ret := (some .int)) (fun A => va_Qi (fun (r : Int32) (u : Unit) => r = 1) (fun u t => he_post g A ((fun (u : Unit) => [(oX5 t0 t1 t2 (nI w))]) u) t) A) (by decide) rfl (Nat.le_of_ble_eq_true rfl) ?_
  intro p e s m args below meth c A ls H locs Q hQ hB
  obtain ⟨hx, hb, hr, hml, hown, hts, hlk, hin, hP, hK, hD, hS, hA, hE, hl⟩ := hB
  have hl : lv_has ls 2 [(0, .ref t0), (1, .int 5)] := hl
  refine lv_iload_n hx hb dX5_numbers_0 rfl (lv_at hl 1 rfl) ?_
  refine lv_bipush (v := 6) hx hb dX5_numbers_1 (by decide) ?_
  refine lv_icmp_ne (tgt := 10) hx hb dX5_numbers_3 (by decide) (fun c_1 => ?_) (fun c_1 => ?_)
  · refine lv_iconst (v := 1) hx hb dX5_numbers_10 (by decide) ?_
    exact he_ri hQ hx hb hr hlk hP hD hS dX5_numbers_11 (Nat.le_of_ble_eq_true rfl) (Nat.le_of_ble_eq_true rfl) (()) (rfl) (rfl)
  · exact absurd c_1 (by decide)
set_option maxHeartbeats 4000000 in
set_option maxRecDepth 100000 in
theorem p_X5_low_5_0 (l : Launch) (g : he_G) (t0 : Nat) (t1 : Nat) (t2 : Nat) (w : Nat)  : he_I l yX5_low wsX5_low 0 0 0 0 g [.ref t0, .int 5, .int 0] [(oX5 t0 t1 t2 (nI w))] (fun (r : Int32) (u : Unit) => r = 1) (fun (u : Unit) => [(oX5 t0 t1 t2 (nI w))]) := by
  refine he_begin (l := l) (g := g) (y := yX5_low) (wl := wsX5_low) (fr := 0) (lo := 0) (mc := 0) (ms := 0) (av := [.ref t0, .int 5, .int 0]) (ws := [(oX5 t0 t1 t2 (nI w))]) (cc := cX5_low) (maxL := 3) (ret := (some .int)) (fun A => va_Qi (fun (r : Int32) (u : Unit) => r = 1) (fun u t => he_post g A ((fun (u : Unit) => [(oX5 t0 t1 t2 (nI w))]) u) t) A) (by decide) rfl (Nat.le_of_ble_eq_true rfl) ?_
  intro p e s m args below meth c A ls H locs Q hQ hB
  obtain ⟨hx, hb, hr, hml, hown, hts, hlk, hin, hP, hK, hD, hS, hA, hE, hl⟩ := hB
  have hl : lv_has ls 3 [(0, .ref t0), (1, .int 5), (2, .int 0)] := hl
  refine lv_iload_n hx hb dX5_low_0 rfl (lv_at hl 1 rfl) ?_
  refine lv_iconst (v := 5) hx hb dX5_low_1 (by decide) ?_
  refine lv_icmp_ne (tgt := 9) hx hb dX5_low_2 (by decide) (fun c_1 => ?_) (fun c_1 => ?_)
  · exact absurd (by decide) c_1
  · refine lv_iconst (v := 1) hx hb dX5_low_5 (by decide) ?_
    refine lv_goto (tgt := 10) hx hb dX5_low_6 (by decide) ?_
    exact he_ri hQ hx hb hr hlk hP hD hS dX5_low_10 (Nat.le_of_ble_eq_true rfl) (Nat.le_of_ble_eq_true rfl) (()) (rfl) (rfl)
set_option maxHeartbeats 4000000 in
set_option maxRecDepth 100000 in
theorem p_X5_high_5_0 (l : Launch) (g : he_G) (t0 : Nat) (t1 : Nat) (t2 : Nat) (w : Nat)  : he_I l yX5_high wsX5_high 1 22 0 0 g [.ref t0, .int 5, .int 0] [(oX5 t0 t1 t2 (nI w))] (fun (r : Int32) (u : Unit) => r = 36) (fun (u : Unit) => [(oX5 t0 t1 t2 (nI w))]) := by
  refine he_begin (l := l) (g := g) (y := yX5_high) (wl := wsX5_high) (fr := 1) (lo := 22) (mc := 0) (ms := 0) (av := [.ref t0, .int 5, .int 0]) (ws := [(oX5 t0 t1 t2 (nI w))]) (cc := cX5_high) (maxL := 3) (ret := (some .int)) (fun A => va_Qi (fun (r : Int32) (u : Unit) => r = 36) (fun u t => he_post g A ((fun (u : Unit) => [(oX5 t0 t1 t2 (nI w))]) u) t) A) (by decide) rfl (Nat.le_of_ble_eq_true rfl) ?_
  intro p e s m args below meth c A ls H locs Q hQ hB
  obtain ⟨hx, hb, hr, hml, hown, hts, hlk, hin, hP, hK, hD, hS, hA, hE, hl⟩ := hB
  have hl : lv_has ls 3 [(0, .ref t0), (1, .int 5), (2, .int 0)] := hl
  have f34 := hts (.fieldLink RX5 34 "HiredEnemy$Pact" "HIGH" "[I") (iwoX5_high (k := 1) rfl)
  obtain ⟨t_ph, hZ_ph, hT_ph⟩ := hE.2.2.2.1
  have nl37 := hE.nest (RX5, 37, yX10_within) (by decide +kernel)
  have iniX10 := hts (.initialized RX10) (iwoX5_high (k := 3) rfl)
  have st_yX10_within := hts (.static yX10_within) (iwoX5_high (k := 2) rfl)
  refine lv_iload_n hx hb dX5_high_0 rfl (lv_at hl 1 rfl) ?_
  refine lv_bipush (v := 6) hx hb dX5_high_1 (by decide) ?_
  refine lv_icmp_ne (tgt := 22) hx hb dX5_high_3 (by decide) (fun c_1 => ?_) (fun c_1 => ?_)
  · refine lv_iload_n hx hb dX5_high_22 rfl (lv_at hl 1 rfl) ?_
    refine lv_iconst (v := 0) hx hb dX5_high_23 (by decide) ?_
    refine va_gets hx hb hZ_ph hS hown f34 (fun _ h9 => h9) dX5_high_24 ?_
    refine va_tlen (v := 6) hx hb hT_ph hS (by decide) dX5_high_27 ?_
    refine lv_iconst (v := 1) hx hb dX5_high_28 (by decide) ?_
    refine lv_isub hx hb dX5_high_29 ?_
    refine he_top (5) (by decide) ?_
    refine he_ci (wc := []) (wr := [(oX5 t0 t1 t2 (nI w))]) (va_runSN (As := [.int 5, .int 0, .int 5]) (rest := []) ⟨hx, hb, hml, hown, hts⟩ (c_X10_within l g 5 0 5 H.size) ⟨(va_cnB 3 hts gX5_high_X10_within_n37 rfl rfl rfl nl37 iniX10 (by decide +kernel) ⟨Nat.le_of_ble_eq_true rfl, Nat.le_of_ble_eq_true rfl⟩), st_yX10_within, trivial⟩ (he_preS (wc := []) hK hP hD hS hA hE [] rfl rfl) rfl rfl hl.1 rfl (lv_room (Nat.le_of_ble_eq_true rfl)) dX5_high_30 ⟨(Nat.le_of_ble_eq_true rfl), (Nat.le_of_ble_eq_true rfl)⟩) hP hD hS hA [] [0] rfl rfl rfl (by decide) (fun r_2 u_3 H locs h_4 hP hD hS => ?_)
    subst h_4
    have hP : va_P g.1 vwCl [(oX5 t0 t1 t2 (nI w))] H := hP
    have hD : va_D A [(oX5 t0 t1 t2 (nI w))] := hD
    refine he_top (1) (by decide) ?_
    refine lv_if_eq (tgt := 44) hx hb dX5_high_33 (by decide) (fun c_5 => ?_) (fun c_5 => ?_)
    · exact absurd c_5 (by decide)
    · refine va_gets hx hb hZ_ph hS hown f34 (fun _ h9 => h9) dX5_high_36 ?_
      refine lv_iload_n hx hb dX5_high_39 rfl (lv_at hl 1 rfl) ?_
      refine he_tald hx hb hT_ph hS (5) (by decide) (by decide) (by decide) (36) rfl dX5_high_40 ?_
      refine lv_goto (tgt := 45) hx hb dX5_high_41 (by decide) ?_
      exact he_ri hQ hx hb hr hlk hP hD hS dX5_high_45 (Nat.le_of_ble_eq_true rfl) (Nat.le_of_ble_eq_true rfl) (()) (rfl) (rfl)
  · exact absurd c_1 (by decide)
set_option maxHeartbeats 4000000 in
set_option maxRecDepth 100000 in
theorem p_X5_store_5 (l : Launch) (g : he_G) (t0 : Nat) (t1 : Nat) (t2 : Nat) (w : Nat) (pd : Nat → Int32) (wb : Nat → Int32) (z1 : Nat) (nu : Nat → Int32)  : he_V l yX5_store wsX5_store 1 22 0 0 g [.ref t0, .int 5, .ref z1] [(oX5 t0 t1 t2 (nI w)), (aI g t1 6 pd), (aI g t2 36 wb), (aI g z1 3 nu)] (fun (u : Unit) => True) (fun (u : Unit) => [(oX5 t0 t1 t2 (nI w)), (aI g t1 6 (upd pd 5 (nu 0))), (aI g t2 36 wb), (aI g z1 3 nu)]) := by
  refine he_begin (l := l) (g := g) (y := yX5_store) (wl := wsX5_store) (fr := 1) (lo := 22) (mc := 0) (ms := 0) (av := [.ref t0, .int 5, .ref z1]) (ws := [(oX5 t0 t1 t2 (nI w)), (aI g t1 6 pd), (aI g t2 36 wb), (aI g z1 3 nu)]) (cc := cX5_store) (maxL := 3) (ret := none) (fun A => va_Qv (fun (u : Unit) => True) (fun u t => he_post g A ((fun (u : Unit) => [(oX5 t0 t1 t2 (nI w)), (aI g t1 6 (upd pd 5 (nu 0))), (aI g t2 36 wb), (aI g z1 3 nu)]) u) t) A) (by decide) rfl (Nat.le_of_ble_eq_true rfl) ?_
  intro p e s m args below meth c A ls H locs Q hQ hB
  obtain ⟨hx, hb, hr, hml, hown, hts, hlk, hin, hP, hK, hD, hS, hA, hE, hl⟩ := hB
  have hl : lv_has ls 3 [(0, .ref t0), (1, .int 5), (2, .ref z1)] := hl
  have f11 := hts (.fieldLink RX5 11 "HiredEnemy$Pact" "said" "[I") (iwoX5_store (k := 1) rfl)
  have inX5 : ∀ w ∈ wsX50, w ∈ wsX5_store := innX5_store_X5
  have nl37 := hE.nest (RX5, 37, yX10_within) (by decide +kernel)
  have iniX10 := hts (.initialized RX10) (iwoX5_store (k := 3) rfl)
  have st_yX10_within := hts (.static yX10_within) (iwoX5_store (k := 2) rfl)
  refine lv_iload_n hx hb dX5_store_0 rfl (lv_at hl 1 rfl) ?_
  refine lv_bipush (v := 6) hx hb dX5_store_1 (by decide) ?_
  refine lv_icmp_ne (tgt := 32) hx hb dX5_store_3 (by decide) (fun c_1 => ?_) (fun c_1 => ?_)
  · refine lv_iload_n hx hb dX5_store_32 rfl (lv_at hl 1 rfl) ?_
    refine lv_iconst (v := 0) hx hb dX5_store_33 (by decide) ?_
    refine lv_aload_n hx hb dX5_store_34 rfl (lv_at hl 0 rfl) ?_
    refine va_get (v := .ref t1) (T := TX5) (N := 3) hx hb hts inX5 hown hK hP 0 rfl rfl 0 (by decide) f11 (fun _ h9 => h9) rfl dX5_store_35 ?_
    refine va_alen (v := 6) hx hb hK hP 1 1 rfl rfl rfl dX5_store_38 ?_
    refine lv_iconst (v := 1) hx hb dX5_store_39 (by decide) ?_
    refine lv_isub hx hb dX5_store_40 ?_
    refine he_top (5) (by decide) ?_
    refine he_ci (wc := []) (wr := [(oX5 t0 t1 t2 (nI w)), (aI g t1 6 pd), (aI g t2 36 wb), (aI g z1 3 nu)]) (va_runSN (As := [.int 5, .int 0, .int 5]) (rest := []) ⟨hx, hb, hml, hown, hts⟩ (c_X10_within l g 5 0 5 H.size) ⟨(va_cnB 3 hts gX5_store_X10_within_n37 rfl rfl rfl nl37 iniX10 (by decide +kernel) ⟨Nat.le_of_ble_eq_true rfl, Nat.le_of_ble_eq_true rfl⟩), st_yX10_within, trivial⟩ (he_preS (wc := []) hK hP hD hS hA hE [] rfl rfl) rfl rfl hl.1 rfl (lv_room (Nat.le_of_ble_eq_true rfl)) dX5_store_41 ⟨(Nat.le_of_ble_eq_true rfl), (Nat.le_of_ble_eq_true rfl)⟩) hP hD hS hA [] [0, 1, 2, 3] rfl rfl rfl (by decide) (fun r_2 u_3 H locs h_4 hP hD hS => ?_)
    subst h_4
    have hP : va_P g.1 vwCl [(oX5 t0 t1 t2 (nI w)), (aI g t1 6 pd), (aI g t2 36 wb), (aI g z1 3 nu)] H := hP
    have hD : va_D A [(oX5 t0 t1 t2 (nI w)), (aI g t1 6 pd), (aI g t2 36 wb), (aI g z1 3 nu)] := hD
    refine he_top (1) (by decide) ?_
    refine lv_if_eq (tgt := 56) hx hb dX5_store_44 (by decide) (fun c_5 => ?_) (fun c_5 => ?_)
    · exact absurd c_5 (by decide)
    · refine lv_aload_n hx hb dX5_store_47 rfl (lv_at hl 0 rfl) ?_
      refine va_get (v := .ref t1) (T := TX5) (N := 3) hx hb hts inX5 hown hK hP 0 rfl rfl 0 (by decide) f11 (fun _ h9 => h9) rfl dX5_store_48 ?_
      refine lv_iload_n hx hb dX5_store_51 rfl (lv_at hl 1 rfl) ?_
      refine lv_aload_n hx hb dX5_store_52 rfl (lv_at hl 2 rfl) ?_
      refine lv_iconst (v := 0) hx hb dX5_store_53 (by decide) ?_
      refine he_iald hx hb hK hP 3 rfl (0) (by decide) (by decide) (by first | decide | assumption) (nu 0) rfl dX5_store_54 ?_
      refine he_iast hx hb hK hP hD hS 1 rfl (5) (by decide) (by decide) (by first | decide | assumption) dX5_store_55 (fun H locs hP hD hS => ?_)
      have hP : va_P g.1 vwCl [(oX5 t0 t1 t2 (nI w)), (aI g t1 6 (upd pd 5 (nu 0))), (aI g t2 36 wb), (aI g z1 3 nu)] H := hP
      have hD : va_D A [(oX5 t0 t1 t2 (nI w)), (aI g t1 6 (upd pd 5 (nu 0))), (aI g t2 36 wb), (aI g z1 3 nu)] := hD
      exact he_rv hQ hx hb hr hlk hP hD hS dX5_store_56 (Nat.le_of_ble_eq_true rfl) (Nat.le_of_ble_eq_true rfl) (()) (rfl) (trivial)
  · exact absurd c_1 (by decide)
set_option maxHeartbeats 4000000 in
set_option maxRecDepth 100000 in
theorem p_X5_numbers_6 (l : Launch) (g : he_G) (t0 : Nat) (t1 : Nat) (t2 : Nat) (w : Nat)  : he_I l yX5_numbers wsX5_numbers 0 0 0 0 g [.ref t0, .int 6] [(oX5 t0 t1 t2 (nI w))] (fun (r : Int32) (u : Unit) => r = 2) (fun (u : Unit) => [(oX5 t0 t1 t2 (nI w))]) := by
  refine he_begin (l := l) (g := g) (y := yX5_numbers) (wl := wsX5_numbers) (fr := 0) (lo := 0) (mc := 0) (ms := 0) (av := [.ref t0, .int 6]) (ws := [(oX5 t0 t1 t2 (nI w))]) (cc := cX5_numbers) (maxL := 2) (ret := (some .int)) (fun A => va_Qi (fun (r : Int32) (u : Unit) => r = 2) (fun u t => he_post g A ((fun (u : Unit) => [(oX5 t0 t1 t2 (nI w))]) u) t) A) (by decide) rfl (Nat.le_of_ble_eq_true rfl) ?_
  intro p e s m args below meth c A ls H locs Q hQ hB
  obtain ⟨hx, hb, hr, hml, hown, hts, hlk, hin, hP, hK, hD, hS, hA, hE, hl⟩ := hB
  have hl : lv_has ls 2 [(0, .ref t0), (1, .int 6)] := hl
  refine lv_iload_n hx hb dX5_numbers_0 rfl (lv_at hl 1 rfl) ?_
  refine lv_bipush (v := 6) hx hb dX5_numbers_1 (by decide) ?_
  refine lv_icmp_ne (tgt := 10) hx hb dX5_numbers_3 (by decide) (fun c_1 => ?_) (fun c_1 => ?_)
  · exact absurd (by decide) c_1
  · refine lv_iconst (v := 2) hx hb dX5_numbers_6 (by decide) ?_
    refine lv_goto (tgt := 11) hx hb dX5_numbers_7 (by decide) ?_
    exact he_ri hQ hx hb hr hlk hP hD hS dX5_numbers_11 (Nat.le_of_ble_eq_true rfl) (Nat.le_of_ble_eq_true rfl) (()) (rfl) (rfl)
set_option maxHeartbeats 4000000 in
set_option maxRecDepth 100000 in
theorem p_X5_low_6_0 (l : Launch) (g : he_G) (t0 : Nat) (t1 : Nat) (t2 : Nat) (w : Nat)  : he_I l yX5_low wsX5_low 0 0 0 0 g [.ref t0, .int 6, .int 0] [(oX5 t0 t1 t2 (nI w))] (fun (r : Int32) (u : Unit) => r = 0) (fun (u : Unit) => [(oX5 t0 t1 t2 (nI w))]) := by
  refine he_begin (l := l) (g := g) (y := yX5_low) (wl := wsX5_low) (fr := 0) (lo := 0) (mc := 0) (ms := 0) (av := [.ref t0, .int 6, .int 0]) (ws := [(oX5 t0 t1 t2 (nI w))]) (cc := cX5_low) (maxL := 3) (ret := (some .int)) (fun A => va_Qi (fun (r : Int32) (u : Unit) => r = 0) (fun u t => he_post g A ((fun (u : Unit) => [(oX5 t0 t1 t2 (nI w))]) u) t) A) (by decide) rfl (Nat.le_of_ble_eq_true rfl) ?_
  intro p e s m args below meth c A ls H locs Q hQ hB
  obtain ⟨hx, hb, hr, hml, hown, hts, hlk, hin, hP, hK, hD, hS, hA, hE, hl⟩ := hB
  have hl : lv_has ls 3 [(0, .ref t0), (1, .int 6), (2, .int 0)] := hl
  refine lv_iload_n hx hb dX5_low_0 rfl (lv_at hl 1 rfl) ?_
  refine lv_iconst (v := 5) hx hb dX5_low_1 (by decide) ?_
  refine lv_icmp_ne (tgt := 9) hx hb dX5_low_2 (by decide) (fun c_1 => ?_) (fun c_1 => ?_)
  · refine lv_iconst (v := 0) hx hb dX5_low_9 (by decide) ?_
    exact he_ri hQ hx hb hr hlk hP hD hS dX5_low_10 (Nat.le_of_ble_eq_true rfl) (Nat.le_of_ble_eq_true rfl) (()) (rfl) (rfl)
  · exact absurd c_1 (by decide)
set_option maxHeartbeats 4000000 in
set_option maxRecDepth 100000 in
theorem p_X5_high_6_0 (l : Launch) (g : he_G) (t0 : Nat) (t1 : Nat) (t2 : Nat) (w : Nat)  : he_I l yX5_high wsX5_high 0 0 0 0 g [.ref t0, .int 6, .int 0] [(oX5 t0 t1 t2 (nI w))] (fun (r : Int32) (u : Unit) => r = nI w - 1) (fun (u : Unit) => [(oX5 t0 t1 t2 (nI w))]) := by
  refine he_begin (l := l) (g := g) (y := yX5_high) (wl := wsX5_high) (fr := 0) (lo := 0) (mc := 0) (ms := 0) (av := [.ref t0, .int 6, .int 0]) (ws := [(oX5 t0 t1 t2 (nI w))]) (cc := cX5_high) (maxL := 3) (ret := (some .int)) (fun A => va_Qi (fun (r : Int32) (u : Unit) => r = nI w - 1) (fun u t => he_post g A ((fun (u : Unit) => [(oX5 t0 t1 t2 (nI w))]) u) t) A) (by decide) rfl (Nat.le_of_ble_eq_true rfl) ?_
  intro p e s m args below meth c A ls H locs Q hQ hB
  obtain ⟨hx, hb, hr, hml, hown, hts, hlk, hin, hP, hK, hD, hS, hA, hE, hl⟩ := hB
  have hl : lv_has ls 3 [(0, .ref t0), (1, .int 6), (2, .int 0)] := hl
  have f18 := hts (.fieldLink RX5 18 "HiredEnemy$Pact" "walls" "I") (iwoX5_high (k := 0) rfl)
  have inX5 : ∀ w ∈ wsX50, w ∈ wsX5_high := innX5_high_X5
  refine lv_iload_n hx hb dX5_high_0 rfl (lv_at hl 1 rfl) ?_
  refine lv_bipush (v := 6) hx hb dX5_high_1 (by decide) ?_
  refine lv_icmp_ne (tgt := 22) hx hb dX5_high_3 (by decide) (fun c_1 => ?_) (fun c_1 => ?_)
  · exact absurd (by decide) c_1
  · refine lv_iload_n hx hb dX5_high_6 rfl (lv_at hl 2 rfl) ?_
    refine lv_if_ne (tgt := 19) hx hb dX5_high_7 (by decide) (fun c_2 => ?_) (fun c_2 => ?_)
    · exact absurd (by decide) c_2
    · refine lv_aload_n hx hb dX5_high_10 rfl (lv_at hl 0 rfl) ?_
      refine va_get (v := .int (nI w)) (T := TX5) (N := 3) hx hb hts inX5 hown hK hP 0 rfl rfl 2 (by decide) f18 (fun _ h9 => h9) rfl dX5_high_11 ?_
      refine lv_iconst (v := 1) hx hb dX5_high_14 (by decide) ?_
      refine lv_isub hx hb dX5_high_15 ?_
      refine lv_goto (tgt := 21) hx hb dX5_high_16 (by decide) ?_
      exact he_ri hQ hx hb hr hlk hP hD hS dX5_high_21 (Nat.le_of_ble_eq_true rfl) (Nat.le_of_ble_eq_true rfl) (()) (rfl) (rfl)
set_option maxHeartbeats 4000000 in
set_option maxRecDepth 100000 in
theorem p_X5_low_6_1 (l : Launch) (g : he_G) (t0 : Nat) (t1 : Nat) (t2 : Nat) (w : Nat)  : he_I l yX5_low wsX5_low 0 0 0 0 g [.ref t0, .int 6, .int 1] [(oX5 t0 t1 t2 (nI w))] (fun (r : Int32) (u : Unit) => r = 0) (fun (u : Unit) => [(oX5 t0 t1 t2 (nI w))]) := by
  refine he_begin (l := l) (g := g) (y := yX5_low) (wl := wsX5_low) (fr := 0) (lo := 0) (mc := 0) (ms := 0) (av := [.ref t0, .int 6, .int 1]) (ws := [(oX5 t0 t1 t2 (nI w))]) (cc := cX5_low) (maxL := 3) (ret := (some .int)) (fun A => va_Qi (fun (r : Int32) (u : Unit) => r = 0) (fun u t => he_post g A ((fun (u : Unit) => [(oX5 t0 t1 t2 (nI w))]) u) t) A) (by decide) rfl (Nat.le_of_ble_eq_true rfl) ?_
  intro p e s m args below meth c A ls H locs Q hQ hB
  obtain ⟨hx, hb, hr, hml, hown, hts, hlk, hin, hP, hK, hD, hS, hA, hE, hl⟩ := hB
  have hl : lv_has ls 3 [(0, .ref t0), (1, .int 6), (2, .int 1)] := hl
  refine lv_iload_n hx hb dX5_low_0 rfl (lv_at hl 1 rfl) ?_
  refine lv_iconst (v := 5) hx hb dX5_low_1 (by decide) ?_
  refine lv_icmp_ne (tgt := 9) hx hb dX5_low_2 (by decide) (fun c_1 => ?_) (fun c_1 => ?_)
  · refine lv_iconst (v := 0) hx hb dX5_low_9 (by decide) ?_
    exact he_ri hQ hx hb hr hlk hP hD hS dX5_low_10 (Nat.le_of_ble_eq_true rfl) (Nat.le_of_ble_eq_true rfl) (()) (rfl) (rfl)
  · exact absurd c_1 (by decide)
set_option maxHeartbeats 4000000 in
set_option maxRecDepth 100000 in
theorem p_X5_high_6_1 (l : Launch) (g : he_G) (t0 : Nat) (t1 : Nat) (t2 : Nat) (w : Nat)  : he_I l yX5_high wsX5_high 0 0 0 0 g [.ref t0, .int 6, .int 1] [(oX5 t0 t1 t2 (nI w))] (fun (r : Int32) (u : Unit) => r = 35) (fun (u : Unit) => [(oX5 t0 t1 t2 (nI w))]) := by
  refine he_begin (l := l) (g := g) (y := yX5_high) (wl := wsX5_high) (fr := 0) (lo := 0) (mc := 0) (ms := 0) (av := [.ref t0, .int 6, .int 1]) (ws := [(oX5 t0 t1 t2 (nI w))]) (cc := cX5_high) (maxL := 3) (ret := (some .int)) (fun A => va_Qi (fun (r : Int32) (u : Unit) => r = 35) (fun u t => he_post g A ((fun (u : Unit) => [(oX5 t0 t1 t2 (nI w))]) u) t) A) (by decide) rfl (Nat.le_of_ble_eq_true rfl) ?_
  intro p e s m args below meth c A ls H locs Q hQ hB
  obtain ⟨hx, hb, hr, hml, hown, hts, hlk, hin, hP, hK, hD, hS, hA, hE, hl⟩ := hB
  have hl : lv_has ls 3 [(0, .ref t0), (1, .int 6), (2, .int 1)] := hl
  refine lv_iload_n hx hb dX5_high_0 rfl (lv_at hl 1 rfl) ?_
  refine lv_bipush (v := 6) hx hb dX5_high_1 (by decide) ?_
  refine lv_icmp_ne (tgt := 22) hx hb dX5_high_3 (by decide) (fun c_1 => ?_) (fun c_1 => ?_)
  · exact absurd (by decide) c_1
  · refine lv_iload_n hx hb dX5_high_6 rfl (lv_at hl 2 rfl) ?_
    refine lv_if_ne (tgt := 19) hx hb dX5_high_7 (by decide) (fun c_2 => ?_) (fun c_2 => ?_)
    · refine lv_bipush (v := 35) hx hb dX5_high_19 (by decide) ?_
      exact he_ri hQ hx hb hr hlk hP hD hS dX5_high_21 (Nat.le_of_ble_eq_true rfl) (Nat.le_of_ble_eq_true rfl) (()) (rfl) (rfl)
    · exact absurd c_2 (by decide)
set_option maxHeartbeats 4000000 in
set_option maxRecDepth 100000 in
theorem p_X5_store_6 (l : Launch) (g : he_G) (t0 : Nat) (t1 : Nat) (t2 : Nat) (w : Nat) (pd : Nat → Int32) (wb : Nat → Int32) (z1 : Nat) (v1 : Nat) (nu : Nat → Int32) (hv : v1 ≤ 35) (hn1 : nu 1 = nI v1) : he_V l yX5_store wsX5_store 1 22 0 0 g [.ref t0, .int 6, .ref z1] [(oX5 t0 t1 t2 (nI w)), (aI g t1 6 pd), (aI g t2 36 wb), (aI g z1 3 nu)] (fun (u : Unit) => True) (fun (u : Unit) => [(oX5 t0 t1 t2 (nI w)), (aI g t1 6 pd), (aI g t2 36 (upd wb v1 (nu 0))), (aI g z1 3 nu)]) := by
  refine he_begin (l := l) (g := g) (y := yX5_store) (wl := wsX5_store) (fr := 1) (lo := 22) (mc := 0) (ms := 0) (av := [.ref t0, .int 6, .ref z1]) (ws := [(oX5 t0 t1 t2 (nI w)), (aI g t1 6 pd), (aI g t2 36 wb), (aI g z1 3 nu)]) (cc := cX5_store) (maxL := 3) (ret := none) (fun A => va_Qv (fun (u : Unit) => True) (fun u t => he_post g A ((fun (u : Unit) => [(oX5 t0 t1 t2 (nI w)), (aI g t1 6 pd), (aI g t2 36 (upd wb v1 (nu 0))), (aI g z1 3 nu)]) u) t) A) (by decide) rfl (Nat.le_of_ble_eq_true rfl) ?_
  intro p e s m args below meth c A ls H locs Q hQ hB
  obtain ⟨hx, hb, hr, hml, hown, hts, hlk, hin, hP, hK, hD, hS, hA, hE, hl⟩ := hB
  have hl : lv_has ls 3 [(0, .ref t0), (1, .int 6), (2, .ref z1)] := hl
  have nl37 := hE.nest (RX5, 37, yX10_within) (by decide +kernel)
  have iniX10 := hts (.initialized RX10) (iwoX5_store (k := 3) rfl)
  have st_yX10_within := hts (.static yX10_within) (iwoX5_store (k := 2) rfl)
  have f15 := hts (.fieldLink RX5 15 "HiredEnemy$Pact" "wallByMonth" "[I") (iwoX5_store (k := 0) rfl)
  have inX5 : ∀ w ∈ wsX50, w ∈ wsX5_store := innX5_store_X5
  refine lv_iload_n hx hb dX5_store_0 rfl (lv_at hl 1 rfl) ?_
  refine lv_bipush (v := 6) hx hb dX5_store_1 (by decide) ?_
  refine lv_icmp_ne (tgt := 32) hx hb dX5_store_3 (by decide) (fun c_1 => ?_) (fun c_1 => ?_)
  · exact absurd (by decide) c_1
  · refine lv_aload_n hx hb dX5_store_6 rfl (lv_at hl 2 rfl) ?_
    refine lv_iconst (v := 1) hx hb dX5_store_7 (by decide) ?_
    refine he_iald hx hb hK hP 3 rfl (1) (by decide) (by decide) (by first | decide | assumption) (nI v1) hn1 dX5_store_8 ?_
    refine lv_iconst (v := 0) hx hb dX5_store_9 (by decide) ?_
    refine lv_bipush (v := 35) hx hb dX5_store_10 (by decide) ?_
    refine he_ci (wc := []) (wr := [(oX5 t0 t1 t2 (nI w)), (aI g t1 6 pd), (aI g t2 36 wb), (aI g z1 3 nu)]) (va_runSN (As := [.int (nI v1), .int 0, .int 35]) (rest := []) ⟨hx, hb, hml, hown, hts⟩ (c_X10_within l g (nI v1) 0 35 H.size) ⟨(va_cnB 3 hts gX5_store_X10_within_n37 rfl rfl rfl nl37 iniX10 (by decide +kernel) ⟨Nat.le_of_ble_eq_true rfl, Nat.le_of_ble_eq_true rfl⟩), st_yX10_within, trivial⟩ (he_preS (wc := []) hK hP hD hS hA hE [] rfl rfl) rfl rfl hl.1 rfl (lv_room (Nat.le_of_ble_eq_true rfl)) dX5_store_12 ⟨(Nat.le_of_ble_eq_true rfl), (Nat.le_of_ble_eq_true rfl)⟩) hP hD hS hA [] [0, 1, 2, 3] rfl rfl rfl (by decide) (fun r_2 u_3 H locs h_4 hP hD hS => ?_)
    subst h_4
    have hP : va_P g.1 vwCl [(oX5 t0 t1 t2 (nI w)), (aI g t1 6 pd), (aI g t2 36 wb), (aI g z1 3 nu)] H := hP
    have hD : va_D A [(oX5 t0 t1 t2 (nI w)), (aI g t1 6 pd), (aI g t2 36 wb), (aI g z1 3 nu)] := hD
    refine he_top (1) (he_within_in (a0 := 0) (B := 35) rfl rfl (by omega) (by omega) (by decide)) ?_
    refine lv_if_eq (tgt := 56) hx hb dX5_store_15 (by decide) (fun c_5 => ?_) (fun c_5 => ?_)
    · exact absurd c_5 (by decide)
    · refine lv_aload_n hx hb dX5_store_18 rfl (lv_at hl 0 rfl) ?_
      refine va_get (v := .ref t2) (T := TX5) (N := 3) hx hb hts inX5 hown hK hP 0 rfl rfl 1 (by decide) f15 (fun _ h9 => h9) rfl dX5_store_19 ?_
      refine lv_aload_n hx hb dX5_store_22 rfl (lv_at hl 2 rfl) ?_
      refine lv_iconst (v := 1) hx hb dX5_store_23 (by decide) ?_
      refine he_iald hx hb hK hP 3 rfl (1) (by decide) (by decide) (by first | decide | assumption) (nI v1) hn1 dX5_store_24 ?_
      refine lv_aload_n hx hb dX5_store_25 rfl (lv_at hl 2 rfl) ?_
      refine lv_iconst (v := 0) hx hb dX5_store_26 (by decide) ?_
      refine he_iald hx hb hK hP 3 rfl (0) (by decide) (by decide) (by first | decide | assumption) (nu 0) rfl dX5_store_27 ?_
      refine he_iast hx hb hK hP hD hS 2 rfl (v1) rfl (by first | assumption | decide | omega) (by first | decide | assumption) dX5_store_28 (fun H locs hP hD hS => ?_)
      have hP : va_P g.1 vwCl [(oX5 t0 t1 t2 (nI w)), (aI g t1 6 pd), (aI g t2 36 (upd wb v1 (nu 0))), (aI g z1 3 nu)] H := hP
      have hD : va_D A [(oX5 t0 t1 t2 (nI w)), (aI g t1 6 pd), (aI g t2 36 (upd wb v1 (nu 0))), (aI g z1 3 nu)] := hD
      refine lv_goto (tgt := 56) hx hb dX5_store_29 (by decide) ?_
      exact he_rv hQ hx hb hr hlk hP hD hS dX5_store_56 (Nat.le_of_ble_eq_true rfl) (Nat.le_of_ble_eq_true rfl) (()) (rfl) (trivial)
set_option maxHeartbeats 4000000 in
set_option maxRecDepth 100000 in
theorem p_X7_readPart5 (l : Launch) (g : he_G) (z0 : Nat) (z1 : Nat) (y0 : Nat) (n : Nat) (k : Nat) (fa : Int32) (pl : Int32) (tp : Nat → Int32) (T : Nat → Nat) (nu : Nat → Int32) (t0 : Nat) (t1 : Nat) (t2 : Nat) (w : Nat) (pd : Nat → Int32) (wb : Nat → Int32) (bf : Nat) (hk : k ≤ n) (hn : n ≤ 500) (hT : ∀ j, j < n → T j < 256 ∧ tp j = sbI (T j)) (hw6 : w ≤ 6) (hbf : bf ≤ 20) : he_I l yX7_readPart wsX7_readPart 6 135 0 0 g [.ref z0, .ref t0, .int (nI bf)] [(oX7 z0 y0 (nI n) (nI k) fa pl z1), (aB g y0 500 tp), (aI g z1 3 nu), (oX5 t0 t1 t2 (nI w)), (aI g t1 6 pd), (aI g t2 36 wb)] (fun (r : Int32) (u : Nat × Int32 × Int32 × (Nat → Int32) × (Nat → Int32) × (Nat → Int32)) => u.1 = (ptS T n wl5 (bd5 w) (fl5 bf) k).2.1 ∧ ((∃ c9 p9, (ptS T n wl5 (bd5 w) (fl5 bf) k).1 = some (c9, p9) ∧ r = 0 ∧ u.2.1 = nI c9 ∧ u.2.2.1 = nI p9 ∧ u.2.2.2.2.1 = pd ∧ u.2.2.2.2.2 = wb) ∨ (∃ q9 vs, (ptS T n wl5 (bd5 w) (fl5 bf) k).1 = none ∧ (ptS T n wl5 (bd5 w) (fl5 bf) k).2.2 = some (q9, vs) ∧ r = 1 ∧ u.2.1 = fa ∧ u.2.2.1 = pl ∧ u.2.2.2.2.1 = rlD q9 vs pd ∧ u.2.2.2.2.2 = rlB q9 vs wb))) (fun (u : Nat × Int32 × Int32 × (Nat → Int32) × (Nat → Int32) × (Nat → Int32)) => [(oX7 z0 y0 (nI n) (nI u.1) u.2.1 u.2.2.1 z1), (aB g y0 500 tp), (aI g z1 3 u.2.2.2.1), (oX5 t0 t1 t2 (nI w)), (aI g t1 6 u.2.2.2.2.1), (aI g t2 36 u.2.2.2.2.2)]) := by
  refine he_begin (l := l) (g := g) (y := yX7_readPart) (wl := wsX7_readPart) (fr := 6) (lo := 135) (mc := 0) (ms := 0) (av := [.ref z0, .ref t0, .int (nI bf)]) (ws := [(oX7 z0 y0 (nI n) (nI k) fa pl z1), (aB g y0 500 tp), (aI g z1 3 nu), (oX5 t0 t1 t2 (nI w)), (aI g t1 6 pd), (aI g t2 36 wb)]) (cc := cX7_readPart) (maxL := 7) (ret := (some .boolean)) (fun A => va_Qi (fun (r : Int32) (u : Nat × Int32 × Int32 × (Nat → Int32) × (Nat → Int32) × (Nat → Int32)) => u.1 = (ptS T n wl5 (bd5 w) (fl5 bf) k).2.1 ∧ ((∃ c9 p9, (ptS T n wl5 (bd5 w) (fl5 bf) k).1 = some (c9, p9) ∧ r = 0 ∧ u.2.1 = nI c9 ∧ u.2.2.1 = nI p9 ∧ u.2.2.2.2.1 = pd ∧ u.2.2.2.2.2 = wb) ∨ (∃ q9 vs, (ptS T n wl5 (bd5 w) (fl5 bf) k).1 = none ∧ (ptS T n wl5 (bd5 w) (fl5 bf) k).2.2 = some (q9, vs) ∧ r = 1 ∧ u.2.1 = fa ∧ u.2.2.1 = pl ∧ u.2.2.2.2.1 = rlD q9 vs pd ∧ u.2.2.2.2.2 = rlB q9 vs wb))) (fun u t => he_post g A ((fun (u : Nat × Int32 × Int32 × (Nat → Int32) × (Nat → Int32) × (Nat → Int32)) => [(oX7 z0 y0 (nI n) (nI u.1) u.2.1 u.2.2.1 z1), (aB g y0 500 tp), (aI g z1 3 u.2.2.2.1), (oX5 t0 t1 t2 (nI w)), (aI g t1 6 u.2.2.2.2.1), (aI g t2 36 u.2.2.2.2.2)]) u) t) A) (by decide) rfl (Nat.le_of_ble_eq_true rfl) ?_
  intro p e s m args below meth c A ls H locs Q hQ hB
  obtain ⟨hx, hb, hr, hml, hown, hts, hlk, hin, hP, hK, hD, hS, hA, hE, hl⟩ := hB
  have hl : lv_has ls 7 [(0, .ref z0), (1, .ref t0), (2, .int (nI bf))] := hl
  have f32 := hts (.fieldLink RX7 32 "HiredEnemy$Reader" "at" "I") (iwoX7_readPart (k := 0) rfl)
  have inX7 : ∀ w ∈ wsX70, w ∈ wsX7_readPart := innX7_readPart_X7
  have dc54 := hE.decl ⟨RX9, "words", "()Ljava/lang/String;"⟩ (by decide +kernel)
  have dc38 := hE.decl ⟨RX9, "mostParts", "()I"⟩ (by decide +kernel)
  have dc66 := hE.decl ⟨RX9, "isFull", "(I)Z"⟩ (by decide +kernel)
  have dc70 := hE.decl ⟨RX9, "numbers", "(I)I"⟩ (by decide +kernel)
  have f19 := hts (.fieldLink RX7 19 "HiredEnemy$Reader" "numbers" "[I") (iwoX7_readPart (k := 1) rfl)
  have ml23 := hts (.methodLink RX7 23 Lib.Math.min.name) (iwoX7_readPart (k := 2) rfl)
  have msmin := hts (.static Lib.Math.min.name) (iwoX7_readPart (k := 3) rfl)
  have mi := hts (.initialized "java/lang/Math") (iwoX7_readPart (k := 4) rfl)
  have mcmin := hts (.code Lib.Math.min.name Lib.Math.min.code 2 (some .int)) (by decide +kernel)
  have dc73 := hE.decl ⟨RX9, "low", "(II)I"⟩ (by decide +kernel)
  have dc76 := hE.decl ⟨RX9, "high", "(II)I"⟩ (by decide +kernel)
  have f29 := hts (.fieldLink RX7 29 "HiredEnemy$Reader" "length" "I") (iwoX7_readPart (k := 5) rfl)
  have f9 := hts (.fieldLink RX7 9 "HiredEnemy$Reader" "bytes" "[B") (iwoX7_readPart (k := 6) rfl)
  have dc83 := hE.decl ⟨RX9, "store", "(I[I)V"⟩ (by decide +kernel)
  refine lv_aload_n hx hb dX7_readPart_0 rfl (lv_at hl 0 rfl) ?_
  refine va_get (v := .int (nI k)) (T := TX7) (N := 6) hx hb hts inX7 hown hK hP 0 rfl rfl 2 (by decide) f32 (fun _ h9 => h9) rfl dX7_readPart_1 ?_
  refine lv_istore_n (lv' := [(3, .int (nI k)), (0, .ref z0), (1, .ref t0), (2, .int (nI bf))]) hx hb dX7_readPart_4 rfl hl (by decide) rfl (fun ls hl => ?_)
  refine lv_aload_n hx hb dX7_readPart_5 rfl (lv_at hl 1 rfl) ?_
  refine he_cv (wc := [(oX7 z0 y0 (nI n) (nI k) fa pl z1), (aB g y0 500 tp)]) (wr := [(aI g z1 3 nu), (oX5 t0 t1 t2 (nI w)), (aI g t1 6 pd), (aI g t2 36 wb)]) (va_runV (As := []) (rest := []) ⟨hx, hb, hml, hown, hts⟩ (p_X7_skipLetters l g z0 z1 y0 n k fa pl tp T (by first | assumption | decide | omega) (by first | assumption | decide | omega) (by first | assumption | decide | omega) H.size) (cwV 0 hts gX7_readPart_X7_skipLetters rfl rfl rfl (by decide +kernel) ⟨Nat.le_of_ble_eq_true rfl, Nat.le_of_ble_eq_true rfl⟩) (he_preV (wc := [(oX7 z0 y0 (nI n) (nI k) fa pl z1), (aB g y0 500 tp)]) hK hP hD hS hA hE [0, 1] rfl rfl 0 rfl rfl) rfl rfl hl.1 rfl (lv_room (Nat.le_of_ble_eq_true rfl)) dX7_readPart_6 ⟨(Nat.le_of_ble_eq_true rfl), (Nat.le_of_ble_eq_true rfl)⟩) hP hD hS hA [0, 1] [2, 3, 4, 5] rfl rfl rfl (by decide) (fun u_2 H locs h_3 hP hD hS => ?_)
  have hP : va_P g.1 vwCl [(aI g z1 3 nu), (oX5 t0 t1 t2 (nI w)), (aI g t1 6 pd), (aI g t2 36 wb), (oX7 z0 y0 (nI n) (nI (rn isLt T n k)) fa pl z1), (aB g y0 500 tp)] H := hP
  have hD : va_D A [(aI g z1 3 nu), (oX5 t0 t1 t2 (nI w)), (aI g t1 6 pd), (aI g t2 36 wb), (oX7 z0 y0 (nI n) (nI (rn isLt T n k)) fa pl z1), (aB g y0 500 tp)] := hD
  refine lv_aload_n hx hb dX7_readPart_9 rfl (lv_at hl 1 rfl) ?_
  refine lv_aload_n hx hb dX7_readPart_10 rfl (lv_at hl 2 rfl) ?_
  refine he_cq (wc := [(oX5 t0 t1 t2 (nI w))]) (wr := [(aI g z1 3 nu), (aI g t1 6 pd), (aI g t2 36 wb), (oX7 z0 y0 (nI n) (nI (rn isLt T n k)) fa pl z1), (aB g y0 500 tp)]) (va_runU (As := []) (rest := [.ref z0]) ⟨hx, hb, hml, hown, hts⟩ (g_X5_words l g t0 t1 t2 (nI w) H.size) (va_cwA 0 hts gX7_readPart_X5_words_u54X5 rfl rfl rfl dc54 (by decide +kernel) ⟨Nat.le_of_ble_eq_true rfl, Nat.le_of_ble_eq_true rfl⟩) (he_preV (wc := [(oX5 t0 t1 t2 (nI w))]) hK hP hD hS hA hE [1] rfl rfl 1 rfl rfl) rfl rfl hl.1 rfl (lv_room (Nat.le_of_ble_eq_true rfl)) dX7_readPart_11 ⟨(Nat.le_of_ble_eq_true rfl), (Nat.le_of_ble_eq_true rfl)⟩) hP hD hS hA [1] [0, 2, 3, 4, 5] rfl rfl rfl (by decide) (fun r_4 u_5 H locs h_6 hP hD hS => ?_)
  subst h_6
  have hP : va_P g.1 vwCl [(aI g z1 3 nu), (aI g t1 6 pd), (aI g t2 36 wb), (oX7 z0 y0 (nI n) (nI (rn isLt T n k)) fa pl z1), (aB g y0 500 tp), (oX5 t0 t1 t2 (nI w))] H := hP
  have hD : va_D A [(aI g z1 3 nu), (aI g t1 6 pd), (aI g t2 36 wb), (oX7 z0 y0 (nI n) (nI (rn isLt T n k)) fa pl z1), (aB g y0 500 tp), (oX5 t0 t1 t2 (nI w))] := hD
  refine lv_iload_n hx hb dX7_readPart_14 rfl (lv_at hl 0 rfl) ?_
  refine he_ci (wc := [(oX7 z0 y0 (nI n) (nI (rn isLt T n k)) fa pl z1), (aB g y0 500 tp)]) (wr := [(aI g z1 3 nu), (aI g t1 6 pd), (aI g t2 36 wb), (oX5 t0 t1 t2 (nI w))]) (va_runV (As := [.ref (g.2 11), .int (nI k)]) (rest := []) ⟨hx, hb, hml, hown, hts⟩ (p_X7_kindOf5 l g z0 z1 y0 n (rn isLt T n k) fa pl tp k (rn_le hk) (by first | assumption | decide | omega) (rn_ge isLt T n k) H.size) (cwV 2 hts gX7_readPart_X7_kindOf rfl rfl rfl (by decide +kernel) ⟨Nat.le_of_ble_eq_true rfl, Nat.le_of_ble_eq_true rfl⟩) (he_preV (wc := [(oX7 z0 y0 (nI n) (nI (rn isLt T n k)) fa pl z1), (aB g y0 500 tp)]) hK hP hD hS hA hE [3, 4] rfl rfl 3 rfl rfl) rfl rfl hl.1 rfl (lv_room (Nat.le_of_ble_eq_true rfl)) dX7_readPart_15 ⟨(Nat.le_of_ble_eq_true rfl), (Nat.le_of_ble_eq_true rfl)⟩) hP hD hS hA [3, 4] [0, 1, 2, 5] rfl rfl rfl (by decide) (fun r_7 u_8 H locs h_9 hP hD hS => ?_)
  try dsimp only at h_9
  have hf_10 := h_9
  have hP : va_P g.1 vwCl [(aI g z1 3 nu), (aI g t1 6 pd), (aI g t2 36 wb), (oX5 t0 t1 t2 (nI w)), (oX7 z0 y0 (nI n) (nI (rn isLt T n k)) fa pl z1), (aB g y0 500 tp)] H := hP
  have hD : va_D A [(aI g z1 3 nu), (aI g t1 6 pd), (aI g t2 36 wb), (oX5 t0 t1 t2 (nI w)), (oX7 z0 y0 (nI n) (nI (rn isLt T n k)) fa pl z1), (aB g y0 500 tp)] := hD
  refine lv_istore (lv' := [(4, .int r_7), (3, .int (nI k)), (0, .ref z0), (1, .ref t0), (2, .int (nI bf))]) hx hb dX7_readPart_18 hl (by decide) rfl (fun ls hl => ?_)
  have hkd := kd5 hT (rn_ge isLt T n k) (rn_le hk) hf_10
  have hkd : (wrdF T k (rn isLt T n k) wl5 = none ∧ r_7 = -1) ∨ (wrdF T k (rn isLt T n k) wl5 = some 0 ∧ r_7 = 0) ∨ (wrdF T k (rn isLt T n k) wl5 = some 1 ∧ r_7 = 1) ∨ (wrdF T k (rn isLt T n k) wl5 = some 2 ∧ r_7 = 2) ∨ (wrdF T k (rn isLt T n k) wl5 = some 3 ∧ r_7 = 3) ∨ (wrdF T k (rn isLt T n k) wl5 = some 4 ∧ r_7 = 4) ∨ (wrdF T k (rn isLt T n k) wl5 = some 5 ∧ r_7 = 5) ∨ (wrdF T k (rn isLt T n k) wl5 = some 6 ∧ r_7 = 6) := kd7 hkd
  rcases hkd with ⟨hw, rfl⟩ | ⟨hw, rfl⟩ | ⟨hw, rfl⟩ | ⟨hw, rfl⟩ | ⟨hw, rfl⟩ | ⟨hw, rfl⟩ | ⟨hw, rfl⟩ | ⟨hw, rfl⟩
  · skip
    refine lv_iload hx hb dX7_readPart_20 (lv_at hl 0 rfl) ?_
    refine lv_iconst (v := (-1)) hx hb dX7_readPart_22 (by decide) ?_
    refine lv_icmp_ne (tgt := 33) hx hb dX7_readPart_23 (by decide) (fun c_11 => ?_) (fun c_11 => ?_)
    · exact absurd (by decide) c_11
    · refine lv_aload_n hx hb dX7_readPart_26 rfl (lv_at hl 2 rfl) ?_
      refine lv_iconst (v := 1) hx hb dX7_readPart_27 (by decide) ?_
      refine lv_iload_n hx hb dX7_readPart_28 rfl (lv_at hl 1 rfl) ?_
      refine he_ci (wc := [(oX7 z0 y0 (nI n) (nI (rn isLt T n k)) fa pl z1), (aB g y0 500 tp)]) (wr := [(aI g z1 3 nu), (aI g t1 6 pd), (aI g t2 36 wb), (oX5 t0 t1 t2 (nI w))]) (va_runV (As := [.int 1, .int (nI k)]) (rest := []) ⟨hx, hb, hml, hown, hts⟩ (g_X7_fail l g z0 z1 y0 n (rn isLt T n k) fa pl tp 1 (nI k) H.size) (cwV 2 hts gX7_readPart_X7_fail rfl rfl rfl (by decide +kernel) ⟨Nat.le_of_ble_eq_true rfl, Nat.le_of_ble_eq_true rfl⟩) (he_preV (wc := [(oX7 z0 y0 (nI n) (nI (rn isLt T n k)) fa pl z1), (aB g y0 500 tp)]) hK hP hD hS hA hE [4, 5] rfl rfl 4 rfl rfl) rfl rfl hl.1 rfl (lv_room (Nat.le_of_ble_eq_true rfl)) dX7_readPart_29 ⟨(Nat.le_of_ble_eq_true rfl), (Nat.le_of_ble_eq_true rfl)⟩) hP hD hS hA [4, 5] [0, 1, 2, 3] rfl rfl rfl (by decide) (fun r_12 u_13 H locs h_14 hP hD hS => ?_)
      subst h_14
      have hP : va_P g.1 vwCl [(aI g z1 3 nu), (aI g t1 6 pd), (aI g t2 36 wb), (oX5 t0 t1 t2 (nI w)), (oX7 z0 y0 (nI n) (nI (rn isLt T n k)) 1 (nI k) z1), (aB g y0 500 tp)] H := hP
      have hD : va_D A [(aI g z1 3 nu), (aI g t1 6 pd), (aI g t2 36 wb), (oX5 t0 t1 t2 (nI w)), (oX7 z0 y0 (nI n) (nI (rn isLt T n k)) 1 (nI k) z1), (aB g y0 500 tp)] := hD
      have hP := hP.sub (ws' := [(oX7 z0 y0 (nI n) (nI (rn isLt T n k)) 1 (nI k) z1), (aB g y0 500 tp), (aI g z1 3 nu), (oX5 t0 t1 t2 (nI w)), (aI g t1 6 pd), (aI g t2 36 wb)]) [4, 5, 0, 3, 1, 2] rfl
      have hD := hD.sub (ws' := [(oX7 z0 y0 (nI n) (nI (rn isLt T n k)) 1 (nI k) z1), (aB g y0 500 tp), (aI g z1 3 nu), (oX5 t0 t1 t2 (nI w)), (aI g t1 6 pd), (aI g t2 36 wb)]) [4, 5, 0, 3, 1, 2] (by decide) rfl
      exact he_rz hQ hx hb hr hlk hP hD hS dX7_readPart_32 (Nat.le_of_ble_eq_true rfl) (Nat.le_of_ble_eq_true rfl) rfl (((rn isLt T n k), 1, nI k, nu, pd, wb)) (rfl) ((by have hP9 : ptS T n wl5 (bd5 w) (fl5 bf) k = _ := ptS_n hw; exact ⟨by rw [hP9], Or.inl ⟨1, k, by rw [hP9], rfl, rfl, rfl, rfl, rfl⟩⟩))
  · skip
    refine lv_iload hx hb dX7_readPart_20 (lv_at hl 0 rfl) ?_
    refine lv_iconst (v := (-1)) hx hb dX7_readPart_22 (by decide) ?_
    refine lv_icmp_ne (tgt := 33) hx hb dX7_readPart_23 (by decide) (fun c_15 => ?_) (fun c_15 => ?_)
    · have join50 : ∀ (_ : Unit), (fl5 bf 0 = true) → ∀ (H : Heap) (locs : List Loc) (ls : Array Slot), va_P g.1 vwCl [(aI g z1 3 nu), (aI g t1 6 pd), (aI g t2 36 wb), (oX5 t0 t1 t2 (nI w)), (oX7 z0 y0 (nI n) (nI (rn isLt T n k)) fa pl z1), (aB g y0 500 tp)] H → va_D A [(aI g z1 3 nu), (aI g t1 6 pd), (aI g t2 36 wb), (oX5 t0 t1 t2 (nI w)), (oX7 z0 y0 (nI n) (nI (rn isLt T n k)) fa pl z1), (aB g y0 500 tp)] → va_S A s.heap H locs → lv_has ls 7 [(4, .int 0), (3, .int (nI k)), (0, .ref z0), (1, .ref t0), (2, .int (nI bf))] → W p l e (he_room 6 135 0 0) s m args below meth c H locs 0 0 Q (F0 m 50 ls []) := by
        intro _ hfl H locs ls hP hD hS hl
        refine lv_aload_n hx hb dX7_readPart_50 rfl (lv_at hl 2 rfl) ?_
        refine lv_iconst (v := 3) hx hb dX7_readPart_51 (by decide) ?_
        refine lv_iload_n hx hb dX7_readPart_52 rfl (lv_at hl 1 rfl) ?_
        refine he_ci (wc := [(oX7 z0 y0 (nI n) (nI (rn isLt T n k)) fa pl z1), (aB g y0 500 tp)]) (wr := [(aI g z1 3 nu), (aI g t1 6 pd), (aI g t2 36 wb), (oX5 t0 t1 t2 (nI w))]) (va_runV (As := [.int 3, .int (nI k)]) (rest := []) ⟨hx, hb, hml, hown, hts⟩ (g_X7_fail l g z0 z1 y0 n (rn isLt T n k) fa pl tp 3 (nI k) H.size) (cwV 2 hts gX7_readPart_X7_fail rfl rfl rfl (by decide +kernel) ⟨Nat.le_of_ble_eq_true rfl, Nat.le_of_ble_eq_true rfl⟩) (he_preV (wc := [(oX7 z0 y0 (nI n) (nI (rn isLt T n k)) fa pl z1), (aB g y0 500 tp)]) hK hP hD hS hA hE [4, 5] rfl rfl 4 rfl rfl) rfl rfl hl.1 rfl (lv_room (Nat.le_of_ble_eq_true rfl)) dX7_readPart_53 ⟨(Nat.le_of_ble_eq_true rfl), (Nat.le_of_ble_eq_true rfl)⟩) hP hD hS hA [4, 5] [0, 1, 2, 3] rfl rfl rfl (by decide) (fun r_16 u_17 H locs h_18 hP hD hS => ?_)
        subst h_18
        have hP : va_P g.1 vwCl [(aI g z1 3 nu), (aI g t1 6 pd), (aI g t2 36 wb), (oX5 t0 t1 t2 (nI w)), (oX7 z0 y0 (nI n) (nI (rn isLt T n k)) 3 (nI k) z1), (aB g y0 500 tp)] H := hP
        have hD : va_D A [(aI g z1 3 nu), (aI g t1 6 pd), (aI g t2 36 wb), (oX5 t0 t1 t2 (nI w)), (oX7 z0 y0 (nI n) (nI (rn isLt T n k)) 3 (nI k) z1), (aB g y0 500 tp)] := hD
        have hP := hP.sub (ws' := [(oX7 z0 y0 (nI n) (nI (rn isLt T n k)) 3 (nI k) z1), (aB g y0 500 tp), (aI g z1 3 nu), (oX5 t0 t1 t2 (nI w)), (aI g t1 6 pd), (aI g t2 36 wb)]) [4, 5, 0, 3, 1, 2] rfl
        have hD := hD.sub (ws' := [(oX7 z0 y0 (nI n) (nI (rn isLt T n k)) 3 (nI k) z1), (aB g y0 500 tp), (aI g z1 3 nu), (oX5 t0 t1 t2 (nI w)), (aI g t1 6 pd), (aI g t2 36 wb)]) [4, 5, 0, 3, 1, 2] (by decide) rfl
        exact he_rz hQ hx hb hr hlk hP hD hS dX7_readPart_56 (Nat.le_of_ble_eq_true rfl) (Nat.le_of_ble_eq_true rfl) rfl (((rn isLt T n k), 3, nI k, nu, pd, wb)) (rfl) ((by have hP9 : ptS T n wl5 (bd5 w) (fl5 bf) k = _ := ptS_3 hw hfl; exact ⟨by rw [hP9], Or.inl ⟨3, k, by rw [hP9], rfl, rfl, rfl, rfl, rfl⟩⟩))
      refine lv_iload_n hx hb dX7_readPart_33 rfl (lv_at hl 4 rfl) ?_
      refine lv_aload_n hx hb dX7_readPart_34 rfl (lv_at hl 3 rfl) ?_
      refine he_ci (wc := [(oX5 t0 t1 t2 (nI w))]) (wr := [(aI g z1 3 nu), (aI g t1 6 pd), (aI g t2 36 wb), (oX7 z0 y0 (nI n) (nI (rn isLt T n k)) fa pl z1), (aB g y0 500 tp)]) (va_runU (As := []) (rest := [.int (nI bf)]) ⟨hx, hb, hml, hown, hts⟩ (c_X5_mostParts l g t0 t1 t2 (nI w) H.size) (va_cwA 0 hts gX7_readPart_X5_mostParts_u38X5 rfl rfl rfl dc38 (by decide +kernel) ⟨Nat.le_of_ble_eq_true rfl, Nat.le_of_ble_eq_true rfl⟩) (he_preV (wc := [(oX5 t0 t1 t2 (nI w))]) hK hP hD hS hA hE [3] rfl rfl 3 rfl rfl) rfl rfl hl.1 rfl (lv_room (Nat.le_of_ble_eq_true rfl)) dX7_readPart_35 ⟨(Nat.le_of_ble_eq_true rfl), (Nat.le_of_ble_eq_true rfl)⟩) hP hD hS hA [3] [0, 1, 2, 4, 5] rfl rfl rfl (by decide) (fun r_19 u_20 H locs h_21 hP hD hS => ?_)
      subst h_21
      have hP : va_P g.1 vwCl [(aI g z1 3 nu), (aI g t1 6 pd), (aI g t2 36 wb), (oX7 z0 y0 (nI n) (nI (rn isLt T n k)) fa pl z1), (aB g y0 500 tp), (oX5 t0 t1 t2 (nI w))] H := hP
      have hD : va_D A [(aI g z1 3 nu), (aI g t1 6 pd), (aI g t2 36 wb), (oX7 z0 y0 (nI n) (nI (rn isLt T n k)) fa pl z1), (aB g y0 500 tp), (oX5 t0 t1 t2 (nI w))] := hD
      refine lv_icmp_ge (tgt := 50) hx hb dX7_readPart_38 (by decide) (fun c_22 => ?_) (fun c_22 => ?_)
      · have k_23 : 20 ≤ bf := (he_cle (a := 20) (b := bf) (by decide) rfl (by omega) (by omega)).mp c_22
        exact join50 () (fl5_t (by omega)) _ _ _ (hP.sub [0, 1, 2, 5, 3, 4] rfl) (hD.sub [0, 1, 2, 5, 3, 4] (by decide) rfl) hS (lv_sub hl [0, 1, 2, 3, 4] rfl)
      · have k_24 : ¬ (20 ≤ bf) := fun h9 => c_22 ((he_cle (a := 20) (b := bf) (by decide) rfl (by omega) (by omega)).mpr h9)
        refine lv_aload_n hx hb dX7_readPart_41 rfl (lv_at hl 3 rfl) ?_
        refine lv_iload hx hb dX7_readPart_42 (lv_at hl 0 rfl) ?_
        refine he_ci (wc := [(oX5 t0 t1 t2 (nI w))]) (wr := [(aI g z1 3 nu), (aI g t1 6 pd), (aI g t2 36 wb), (oX7 z0 y0 (nI n) (nI (rn isLt T n k)) fa pl z1), (aB g y0 500 tp)]) (va_runU (As := [.int 0]) (rest := []) ⟨hx, hb, hml, hown, hts⟩ (p_X5_isFull l g t0 t1 t2 w 0 H.size) (va_cwA 1 hts gX7_readPart_X5_isFull_u66X5 rfl rfl rfl dc66 (by decide +kernel) ⟨Nat.le_of_ble_eq_true rfl, Nat.le_of_ble_eq_true rfl⟩) (he_preV (wc := [(oX5 t0 t1 t2 (nI w))]) hK hP hD hS hA hE [5] rfl rfl 5 rfl rfl) rfl rfl hl.1 rfl (lv_room (Nat.le_of_ble_eq_true rfl)) dX7_readPart_44 ⟨(Nat.le_of_ble_eq_true rfl), (Nat.le_of_ble_eq_true rfl)⟩) hP hD hS hA [5] [0, 1, 2, 3, 4] rfl rfl rfl (by decide) (fun r_25 u_26 H locs h_27 hP hD hS => ?_)
        subst h_27
        have hP : va_P g.1 vwCl [(aI g z1 3 nu), (aI g t1 6 pd), (aI g t2 36 wb), (oX7 z0 y0 (nI n) (nI (rn isLt T n k)) fa pl z1), (aB g y0 500 tp), (oX5 t0 t1 t2 (nI w))] H := hP
        have hD : va_D A [(aI g z1 3 nu), (aI g t1 6 pd), (aI g t2 36 wb), (oX7 z0 y0 (nI n) (nI (rn isLt T n k)) fa pl z1), (aB g y0 500 tp), (oX5 t0 t1 t2 (nI w))] := hD
        refine lv_if_eq (tgt := 57) hx hb dX7_readPart_47 (by decide) (fun c_28 => ?_) (fun c_28 => ?_)
        · have hfl0 : fl5 bf 0 = false := fl5_f (fun h9 => by omega)
          refine lv_aload_n hx hb dX7_readPart_57 rfl (lv_at hl 3 rfl) ?_
          refine lv_iload hx hb dX7_readPart_58 (lv_at hl 0 rfl) ?_
          refine he_ci (wc := [(oX5 t0 t1 t2 (nI w))]) (wr := [(aI g z1 3 nu), (aI g t1 6 pd), (aI g t2 36 wb), (oX7 z0 y0 (nI n) (nI (rn isLt T n k)) fa pl z1), (aB g y0 500 tp)]) (va_runU (As := [.int 0]) (rest := []) ⟨hx, hb, hml, hown, hts⟩ (p_X5_numbers_0 l g t0 t1 t2 w H.size) (va_cwA 1 hts gX7_readPart_X5_numbers_u70X5 rfl rfl rfl dc70 (by decide +kernel) ⟨Nat.le_of_ble_eq_true rfl, Nat.le_of_ble_eq_true rfl⟩) (he_preV (wc := [(oX5 t0 t1 t2 (nI w))]) hK hP hD hS hA hE [5] rfl rfl 5 rfl rfl) rfl rfl hl.1 rfl (lv_room (Nat.le_of_ble_eq_true rfl)) dX7_readPart_60 ⟨(Nat.le_of_ble_eq_true rfl), (Nat.le_of_ble_eq_true rfl)⟩) hP hD hS hA [5] [0, 1, 2, 3, 4] rfl rfl rfl (by decide) (fun r_29 u_30 H locs h_31 hP hD hS => ?_)
          subst h_31
          have hP : va_P g.1 vwCl [(aI g z1 3 nu), (aI g t1 6 pd), (aI g t2 36 wb), (oX7 z0 y0 (nI n) (nI (rn isLt T n k)) fa pl z1), (aB g y0 500 tp), (oX5 t0 t1 t2 (nI w))] H := hP
          have hD : va_D A [(aI g z1 3 nu), (aI g t1 6 pd), (aI g t2 36 wb), (oX7 z0 y0 (nI n) (nI (rn isLt T n k)) fa pl z1), (aB g y0 500 tp), (oX5 t0 t1 t2 (nI w))] := hD
          refine lv_aload_n hx hb dX7_readPart_63 rfl (lv_at hl 2 rfl) ?_
          refine va_get (v := .ref z1) (T := TX7) (N := 6) hx hb hts inX7 hown hK hP 3 rfl rfl 5 (by decide) f19 (fun _ h9 => h9) rfl dX7_readPart_64 ?_
          refine va_alen (v := 3) hx hb hK hP 0 1 rfl rfl rfl dX7_readPart_67 ?_
          refine va_mmin hx hb (by rw [hml]; exact hl.1.symm) hown ml23 msmin mi mcmin (by decide) (Nat.le_of_ble_eq_true rfl) (Nat.le_of_ble_eq_true rfl) (Nat.le_of_ble_eq_true rfl) dX7_readPart_68 ?_
          refine he_top (1) (by decide) ?_
          refine lv_istore (lv' := [(5, .int 1), (4, .int 0), (3, .int (nI k)), (0, .ref z0), (1, .ref t0), (2, .int (nI bf))]) hx hb dX7_readPart_71 hl (by decide) rfl (fun ls hl => ?_)
          refine lv_iconst (v := 0) hx hb dX7_readPart_73 (by decide) ?_
          refine lv_istore (lv' := [(6, .int 0), (5, .int 1), (4, .int 0), (3, .int (nI k)), (0, .ref z0), (1, .ref t0), (2, .int (nI bf))]) hx hb dX7_readPart_74 hl (by decide) rfl (fun ls hl => ?_)
          refine lv_iload hx hb dX7_readPart_76 (lv_at hl 0 rfl) ?_
          refine lv_iload hx hb dX7_readPart_78 (lv_at hl 1 rfl) ?_
          refine lv_icmp_ge (tgt := 116) hx hb dX7_readPart_80 (by decide) (fun c_32 => ?_) (fun c_32 => ?_)
          · exact absurd c_32 (by decide)
          · refine lv_aload_n hx hb dX7_readPart_83 rfl (lv_at hl 4 rfl) ?_
            refine lv_iload hx hb dX7_readPart_84 (lv_at hl 0 rfl) ?_
            refine lv_aload_n hx hb dX7_readPart_86 rfl (lv_at hl 5 rfl) ?_
            refine lv_iload hx hb dX7_readPart_87 (lv_at hl 2 rfl) ?_
            refine lv_iload hx hb dX7_readPart_89 (lv_at hl 0 rfl) ?_
            refine he_ci (wc := [(oX5 t0 t1 t2 (nI w))]) (wr := [(aI g z1 3 nu), (aI g t1 6 pd), (aI g t2 36 wb), (oX7 z0 y0 (nI n) (nI (rn isLt T n k)) fa pl z1), (aB g y0 500 tp)]) (va_runU (As := [.int 0, .int 0]) (rest := [.int 0, .ref z0]) ⟨hx, hb, hml, hown, hts⟩ (p_X5_low_0_0 l g t0 t1 t2 w H.size) (va_cwA 2 hts gX7_readPart_X5_low_u73X5 rfl rfl rfl dc73 (by decide +kernel) ⟨Nat.le_of_ble_eq_true rfl, Nat.le_of_ble_eq_true rfl⟩) (he_preV (wc := [(oX5 t0 t1 t2 (nI w))]) hK hP hD hS hA hE [5] rfl rfl 5 rfl rfl) rfl rfl hl.1 rfl (lv_room (Nat.le_of_ble_eq_true rfl)) dX7_readPart_91 ⟨(Nat.le_of_ble_eq_true rfl), (Nat.le_of_ble_eq_true rfl)⟩) hP hD hS hA [5] [0, 1, 2, 3, 4] rfl rfl rfl (by decide) (fun r_33 u_34 H locs h_35 hP hD hS => ?_)
            subst h_35
            have hP : va_P g.1 vwCl [(aI g z1 3 nu), (aI g t1 6 pd), (aI g t2 36 wb), (oX7 z0 y0 (nI n) (nI (rn isLt T n k)) fa pl z1), (aB g y0 500 tp), (oX5 t0 t1 t2 (nI w))] H := hP
            have hD : va_D A [(aI g z1 3 nu), (aI g t1 6 pd), (aI g t2 36 wb), (oX7 z0 y0 (nI n) (nI (rn isLt T n k)) fa pl z1), (aB g y0 500 tp), (oX5 t0 t1 t2 (nI w))] := hD
            refine lv_aload_n hx hb dX7_readPart_94 rfl (lv_at hl 5 rfl) ?_
            refine lv_iload hx hb dX7_readPart_95 (lv_at hl 2 rfl) ?_
            refine lv_iload hx hb dX7_readPart_97 (lv_at hl 0 rfl) ?_
            refine he_ci (wc := [(oX5 t0 t1 t2 (nI w))]) (wr := [(aI g z1 3 nu), (aI g t1 6 pd), (aI g t2 36 wb), (oX7 z0 y0 (nI n) (nI (rn isLt T n k)) fa pl z1), (aB g y0 500 tp)]) (va_runU (As := [.int 0, .int 0]) (rest := [.int 0, .int 0, .ref z0]) ⟨hx, hb, hml, hown, hts⟩ (p_X5_high_0_0 l g t0 t1 t2 w H.size) (va_cwA 2 hts gX7_readPart_X5_high_u76X5 rfl rfl rfl dc76 (by decide +kernel) ⟨Nat.le_of_ble_eq_true rfl, Nat.le_of_ble_eq_true rfl⟩) (he_preV (wc := [(oX5 t0 t1 t2 (nI w))]) hK hP hD hS hA hE [5] rfl rfl 5 rfl rfl) rfl rfl hl.1 rfl (lv_room (Nat.le_of_ble_eq_true rfl)) dX7_readPart_99 ⟨(Nat.le_of_ble_eq_true rfl), (Nat.le_of_ble_eq_true rfl)⟩) hP hD hS hA [5] [0, 1, 2, 3, 4] rfl rfl rfl (by decide) (fun r_36 u_37 H locs h_38 hP hD hS => ?_)
            subst h_38
            have hP : va_P g.1 vwCl [(aI g z1 3 nu), (aI g t1 6 pd), (aI g t2 36 wb), (oX7 z0 y0 (nI n) (nI (rn isLt T n k)) fa pl z1), (aB g y0 500 tp), (oX5 t0 t1 t2 (nI w))] H := hP
            have hD : va_D A [(aI g z1 3 nu), (aI g t1 6 pd), (aI g t2 36 wb), (oX7 z0 y0 (nI n) (nI (rn isLt T n k)) fa pl z1), (aB g y0 500 tp), (oX5 t0 t1 t2 (nI w))] := hD
            refine he_ci (wc := [(oX7 z0 y0 (nI n) (nI (rn isLt T n k)) fa pl z1), (aB g y0 500 tp), (aI g z1 3 nu)]) (wr := [(aI g t1 6 pd), (aI g t2 36 wb), (oX5 t0 t1 t2 (nI w))]) (va_runV (As := [.int 0, .int 0, .int 999]) (rest := []) ⟨hx, hb, hml, hown, hts⟩ (p_X7_readNumber l g z0 z1 y0 n (rn isLt T n k) fa pl tp T nu 0 0 999 (by have h0 := rn_le (P := isLt) (T := T) hk; exact h0) (by first | assumption | decide | omega) (by first | assumption | decide | omega) (by decide) H.size) (cwV 3 hts gX7_readPart_X7_readNumber rfl rfl rfl (by decide +kernel) ⟨Nat.le_of_ble_eq_true rfl, Nat.le_of_ble_eq_true rfl⟩) (he_preV (wc := [(oX7 z0 y0 (nI n) (nI (rn isLt T n k)) fa pl z1), (aB g y0 500 tp), (aI g z1 3 nu)]) hK hP hD hS hA hE [3, 4, 0] rfl rfl 3 rfl rfl) rfl rfl hl.1 rfl (lv_room (Nat.le_of_ble_eq_true rfl)) dX7_readPart_102 ⟨(Nat.le_of_ble_eq_true rfl), (Nat.le_of_ble_eq_true rfl)⟩) hP hD hS hA [3, 4, 0] [1, 2, 5] rfl rfl rfl (by decide) (fun r_39 u_40 H locs h_41 hP hD hS => ?_)
            obtain ⟨k2_42, fb_43, pb_44, nv_45⟩ := u_40
            try dsimp only at h_41
            obtain ⟨hf_46, hf_47⟩ := h_41
            have hP : va_P g.1 vwCl [(aI g t1 6 pd), (aI g t2 36 wb), (oX5 t0 t1 t2 (nI w)), (oX7 z0 y0 (nI n) (nI k2_42) fb_43 pb_44 z1), (aB g y0 500 tp), (aI g z1 3 nv_45)] H := hP
            have hD : va_D A [(aI g t1 6 pd), (aI g t2 36 wb), (oX5 t0 t1 t2 (nI w)), (oX7 z0 y0 (nI n) (nI k2_42) fb_43 pb_44 z1), (aB g y0 500 tp), (aI g z1 3 nv_45)] := hD
            have hk2 := hf_46
            rcases hf_47 with ⟨hm0, hr9, hf9, hp9, hn9⟩ | ⟨hm0, hv0, hr9, hf9, hp9, hn9⟩ | ⟨hm0, hv0, hr9, hf9, hp9, hn9⟩
            · subst k2_42 r_39 fb_43 pb_44 nv_45
              have hP : va_P g.1 vwCl [(aI g t1 6 pd), (aI g t2 36 wb), (oX5 t0 t1 t2 (nI w)), (oX7 z0 y0 (nI n) (nI (rn isDg T n (rn isBl T n (rn isLt T n k)))) 1 (nI (rn isBl T n (rn isLt T n k))) z1), (aB g y0 500 tp), (aI g z1 3 nu)] H := hP
              have hD : va_D A [(aI g t1 6 pd), (aI g t2 36 wb), (oX5 t0 t1 t2 (nI w)), (oX7 z0 y0 (nI n) (nI (rn isDg T n (rn isBl T n (rn isLt T n k)))) 1 (nI (rn isBl T n (rn isLt T n k))) z1), (aB g y0 500 tp), (aI g z1 3 nu)] := hD
              refine lv_if_ne (tgt := 110) hx hb dX7_readPart_105 (by decide) (fun c_48 => ?_) (fun c_48 => ?_)
              · exact absurd (by decide) c_48
              · refine lv_iconst (v := 0) hx hb dX7_readPart_108 (by decide) ?_
                have hP := hP.sub (ws' := [(oX7 z0 y0 (nI n) (nI (rn isDg T n (rn isBl T n (rn isLt T n k)))) 1 (nI (rn isBl T n (rn isLt T n k))) z1), (aB g y0 500 tp), (aI g z1 3 nu), (oX5 t0 t1 t2 (nI w)), (aI g t1 6 pd), (aI g t2 36 wb)]) [3, 4, 5, 2, 0, 1] rfl
                have hD := hD.sub (ws' := [(oX7 z0 y0 (nI n) (nI (rn isDg T n (rn isBl T n (rn isLt T n k)))) 1 (nI (rn isBl T n (rn isLt T n k))) z1), (aB g y0 500 tp), (aI g z1 3 nu), (oX5 t0 t1 t2 (nI w)), (aI g t1 6 pd), (aI g t2 36 wb)]) [3, 4, 5, 2, 0, 1] (by decide) rfl
                exact he_rz hQ hx hb hr hlk hP hD hS dX7_readPart_109 (Nat.le_of_ble_eq_true rfl) (Nat.le_of_ble_eq_true rfl) rfl (((rn isDg T n (rn isBl T n (rn isLt T n k))), 1, nI (rn isBl T n (rn isLt T n k)), nu, pd, wb)) (rfl) ((by have hP9 : ptS T n wl5 (bd5 w) (fl5 bf) k = _ := ptS_f (bd := bd5 w) hw hfl0 (nmS_1 hm0); exact ⟨by rw [hP9], Or.inl ⟨1, _, by rw [hP9], rfl, rfl, rfl, rfl, rfl⟩⟩))
            · subst k2_42 r_39 fb_43 pb_44 nv_45
              have hP : va_P g.1 vwCl [(aI g t1 6 pd), (aI g t2 36 wb), (oX5 t0 t1 t2 (nI w)), (oX7 z0 y0 (nI n) (nI (rn isDg T n (rn isBl T n (rn isLt T n k)))) 2 (nI (rn isBl T n (rn isLt T n k))) z1), (aB g y0 500 tp), (aI g z1 3 nu)] H := hP
              have hD : va_D A [(aI g t1 6 pd), (aI g t2 36 wb), (oX5 t0 t1 t2 (nI w)), (oX7 z0 y0 (nI n) (nI (rn isDg T n (rn isBl T n (rn isLt T n k)))) 2 (nI (rn isBl T n (rn isLt T n k))) z1), (aB g y0 500 tp), (aI g z1 3 nu)] := hD
              refine lv_if_ne (tgt := 110) hx hb dX7_readPart_105 (by decide) (fun c_49 => ?_) (fun c_49 => ?_)
              · exact absurd (by decide) c_49
              · refine lv_iconst (v := 0) hx hb dX7_readPart_108 (by decide) ?_
                have hP := hP.sub (ws' := [(oX7 z0 y0 (nI n) (nI (rn isDg T n (rn isBl T n (rn isLt T n k)))) 2 (nI (rn isBl T n (rn isLt T n k))) z1), (aB g y0 500 tp), (aI g z1 3 nu), (oX5 t0 t1 t2 (nI w)), (aI g t1 6 pd), (aI g t2 36 wb)]) [3, 4, 5, 2, 0, 1] rfl
                have hD := hD.sub (ws' := [(oX7 z0 y0 (nI n) (nI (rn isDg T n (rn isBl T n (rn isLt T n k)))) 2 (nI (rn isBl T n (rn isLt T n k))) z1), (aB g y0 500 tp), (aI g z1 3 nu), (oX5 t0 t1 t2 (nI w)), (aI g t1 6 pd), (aI g t2 36 wb)]) [3, 4, 5, 2, 0, 1] (by decide) rfl
                exact he_rz hQ hx hb hr hlk hP hD hS dX7_readPart_109 (Nat.le_of_ble_eq_true rfl) (Nat.le_of_ble_eq_true rfl) rfl (((rn isDg T n (rn isBl T n (rn isLt T n k))), 2, nI (rn isBl T n (rn isLt T n k)), nu, pd, wb)) (rfl) ((by have hP9 : ptS T n wl5 (bd5 w) (fl5 bf) k = _ := ptS_f (bd := bd5 w) hw hfl0 (nmS_2 hm0 (fun h9 => absurd hv0 ((wi_b (lo := 0) (hx := 1000) (by (try dsimp only); decide) (by (try dsimp only); decide) (by (try dsimp only); decide) (by (try dsimp only); decide) (nv_le _ _ _)).mpr h9))); exact ⟨by rw [hP9], Or.inl ⟨2, _, by rw [hP9], rfl, rfl, rfl, rfl, rfl⟩⟩))
            · subst k2_42 r_39 fb_43 pb_44 nv_45
              have hP : va_P g.1 vwCl [(aI g t1 6 pd), (aI g t2 36 wb), (oX5 t0 t1 t2 (nI w)), (oX7 z0 y0 (nI n) (nI (rn isDg T n (rn isBl T n (rn isLt T n k)))) fa pl z1), (aB g y0 500 tp), (aI g z1 3 (upd nu 0 (nI (nvF T (rn isBl T n (rn isLt T n k)) (rn isDg T n (rn isBl T n (rn isLt T n k)) - rn isBl T n (rn isLt T n k))))))] H := hP
              have hD : va_D A [(aI g t1 6 pd), (aI g t2 36 wb), (oX5 t0 t1 t2 (nI w)), (oX7 z0 y0 (nI n) (nI (rn isDg T n (rn isBl T n (rn isLt T n k)))) fa pl z1), (aB g y0 500 tp), (aI g z1 3 (upd nu 0 (nI (nvF T (rn isBl T n (rn isLt T n k)) (rn isDg T n (rn isBl T n (rn isLt T n k)) - rn isBl T n (rn isLt T n k))))))] := hD
              refine lv_if_ne (tgt := 110) hx hb dX7_readPart_105 (by decide) (fun c_50 => ?_) (fun c_50 => ?_)
              · refine lv_iinc (v := 1) (lv' := [(6, .int 1), (5, .int 1), (4, .int 0), (3, .int (nI k)), (0, .ref z0), (1, .ref t0), (2, .int (nI bf))]) hx hb dX7_readPart_110 hl (k := 0) rfl (by decide) (by decide) rfl (fun ls hl => ?_)
                refine lv_goto (tgt := 76) hx hb dX7_readPart_113 (by decide) ?_
                refine lv_iload hx hb dX7_readPart_76 (lv_at hl 0 rfl) ?_
                refine lv_iload hx hb dX7_readPart_78 (lv_at hl 1 rfl) ?_
                refine lv_icmp_ge (tgt := 116) hx hb dX7_readPart_80 (by decide) (fun c_51 => ?_) (fun c_51 => ?_)
                · refine lv_aload_n hx hb dX7_readPart_116 rfl (lv_at hl 4 rfl) ?_
                  refine he_cv (wc := [(oX7 z0 y0 (nI n) (nI (rn isDg T n (rn isBl T n (rn isLt T n k)))) fa pl z1), (aB g y0 500 tp)]) (wr := [(aI g t1 6 pd), (aI g t2 36 wb), (oX5 t0 t1 t2 (nI w)), (aI g z1 3 (upd nu 0 (nI (nvF T (rn isBl T n (rn isLt T n k)) (rn isDg T n (rn isBl T n (rn isLt T n k)) - rn isBl T n (rn isLt T n k))))))]) (va_runV (As := []) (rest := []) ⟨hx, hb, hml, hown, hts⟩ (p_X7_skipBlanks l g z0 z1 y0 n (rn isDg T n (rn isBl T n (rn isLt T n k))) fa pl tp T (by have h0 := rn_le (P := isLt) (T := T) hk; exact (rn_le (rn_le h0))) (by first | assumption | decide | omega) (by first | assumption | decide | omega) H.size) (cwV 0 hts gX7_readPart_X7_skipBlanks rfl rfl rfl (by decide +kernel) ⟨Nat.le_of_ble_eq_true rfl, Nat.le_of_ble_eq_true rfl⟩) (he_preV (wc := [(oX7 z0 y0 (nI n) (nI (rn isDg T n (rn isBl T n (rn isLt T n k)))) fa pl z1), (aB g y0 500 tp)]) hK hP hD hS hA hE [3, 4] rfl rfl 3 rfl rfl) rfl rfl hl.1 rfl (lv_room (Nat.le_of_ble_eq_true rfl)) dX7_readPart_117 ⟨(Nat.le_of_ble_eq_true rfl), (Nat.le_of_ble_eq_true rfl)⟩) hP hD hS hA [3, 4] [0, 1, 2, 5] rfl rfl rfl (by decide) (fun u_53 H locs h_54 hP hD hS => ?_)
                  have hP : va_P g.1 vwCl [(aI g t1 6 pd), (aI g t2 36 wb), (oX5 t0 t1 t2 (nI w)), (aI g z1 3 (upd nu 0 (nI (nvF T (rn isBl T n (rn isLt T n k)) (rn isDg T n (rn isBl T n (rn isLt T n k)) - rn isBl T n (rn isLt T n k)))))), (oX7 z0 y0 (nI n) (nI (rn isBl T n (rn isDg T n (rn isBl T n (rn isLt T n k))))) fa pl z1), (aB g y0 500 tp)] H := hP
                  have hD : va_D A [(aI g t1 6 pd), (aI g t2 36 wb), (oX5 t0 t1 t2 (nI w)), (aI g z1 3 (upd nu 0 (nI (nvF T (rn isBl T n (rn isLt T n k)) (rn isDg T n (rn isBl T n (rn isLt T n k)) - rn isBl T n (rn isLt T n k)))))), (oX7 z0 y0 (nI n) (nI (rn isBl T n (rn isDg T n (rn isBl T n (rn isLt T n k))))) fa pl z1), (aB g y0 500 tp)] := hD
                  have hAt : rn isBl T n (rn isDg T n (rn isBl T n (rn isLt T n k))) ≤ n := by have h0 := rn_le (P := isLt) (T := T) hk; exact rn_le (rn_le (rn_le h0))
                  have join145 : ∀ (_ : Unit), (¬ (rn isBl T n (rn isDg T n (rn isBl T n (rn isLt T n k))) < n ∧ T (rn isBl T n (rn isDg T n (rn isBl T n (rn isLt T n k)))) = 59)) → ∀ (H : Heap) (locs : List Loc) (ls : Array Slot), va_P g.1 vwCl [(aI g t1 6 pd), (aI g t2 36 wb), (oX5 t0 t1 t2 (nI w)), (aI g z1 3 (upd nu 0 (nI (nvF T (rn isBl T n (rn isLt T n k)) (rn isDg T n (rn isBl T n (rn isLt T n k)) - rn isBl T n (rn isLt T n k)))))), (oX7 z0 y0 (nI n) (nI (rn isBl T n (rn isDg T n (rn isBl T n (rn isLt T n k))))) fa pl z1), (aB g y0 500 tp)] H → va_D A [(aI g t1 6 pd), (aI g t2 36 wb), (oX5 t0 t1 t2 (nI w)), (aI g z1 3 (upd nu 0 (nI (nvF T (rn isBl T n (rn isLt T n k)) (rn isDg T n (rn isBl T n (rn isLt T n k)) - rn isBl T n (rn isLt T n k)))))), (oX7 z0 y0 (nI n) (nI (rn isBl T n (rn isDg T n (rn isBl T n (rn isLt T n k))))) fa pl z1), (aB g y0 500 tp)] → va_S A s.heap H locs → lv_has ls 7 [(6, .int 1), (5, .int 1), (4, .int 0), (3, .int (nI k)), (0, .ref z0), (1, .ref t0), (2, .int (nI bf))] → W p l e (he_room 6 135 0 0) s m args below meth c H locs 0 0 Q (F0 m 145 ls []) := by
                    intro _ hsc H locs ls hP hD hS hl
                    refine lv_aload_n hx hb dX7_readPart_145 rfl (lv_at hl 4 rfl) ?_
                    refine lv_iconst (v := 1) hx hb dX7_readPart_146 (by decide) ?_
                    refine lv_aload_n hx hb dX7_readPart_147 rfl (lv_at hl 4 rfl) ?_
                    refine va_get (v := .int (nI (rn isBl T n (rn isDg T n (rn isBl T n (rn isLt T n k)))))) (T := TX7) (N := 6) hx hb hts inX7 hown hK hP 4 rfl rfl 2 (by decide) f32 (fun _ h9 => h9) rfl dX7_readPart_148 ?_
                    refine he_ci (wc := [(oX7 z0 y0 (nI n) (nI (rn isBl T n (rn isDg T n (rn isBl T n (rn isLt T n k))))) fa pl z1), (aB g y0 500 tp)]) (wr := [(aI g t1 6 pd), (aI g t2 36 wb), (oX5 t0 t1 t2 (nI w)), (aI g z1 3 (upd nu 0 (nI (nvF T (rn isBl T n (rn isLt T n k)) (rn isDg T n (rn isBl T n (rn isLt T n k)) - rn isBl T n (rn isLt T n k))))))]) (va_runV (As := [.int 1, .int (nI (rn isBl T n (rn isDg T n (rn isBl T n (rn isLt T n k)))))]) (rest := []) ⟨hx, hb, hml, hown, hts⟩ (g_X7_fail l g z0 z1 y0 n (rn isBl T n (rn isDg T n (rn isBl T n (rn isLt T n k)))) fa pl tp 1 (nI (rn isBl T n (rn isDg T n (rn isBl T n (rn isLt T n k))))) H.size) (cwV 2 hts gX7_readPart_X7_fail rfl rfl rfl (by decide +kernel) ⟨Nat.le_of_ble_eq_true rfl, Nat.le_of_ble_eq_true rfl⟩) (he_preV (wc := [(oX7 z0 y0 (nI n) (nI (rn isBl T n (rn isDg T n (rn isBl T n (rn isLt T n k))))) fa pl z1), (aB g y0 500 tp)]) hK hP hD hS hA hE [4, 5] rfl rfl 4 rfl rfl) rfl rfl hl.1 rfl (lv_room (Nat.le_of_ble_eq_true rfl)) dX7_readPart_151 ⟨(Nat.le_of_ble_eq_true rfl), (Nat.le_of_ble_eq_true rfl)⟩) hP hD hS hA [4, 5] [0, 1, 2, 3] rfl rfl rfl (by decide) (fun r_55 u_56 H locs h_57 hP hD hS => ?_)
                    subst h_57
                    have hP : va_P g.1 vwCl [(aI g t1 6 pd), (aI g t2 36 wb), (oX5 t0 t1 t2 (nI w)), (aI g z1 3 (upd nu 0 (nI (nvF T (rn isBl T n (rn isLt T n k)) (rn isDg T n (rn isBl T n (rn isLt T n k)) - rn isBl T n (rn isLt T n k)))))), (oX7 z0 y0 (nI n) (nI (rn isBl T n (rn isDg T n (rn isBl T n (rn isLt T n k))))) 1 (nI (rn isBl T n (rn isDg T n (rn isBl T n (rn isLt T n k))))) z1), (aB g y0 500 tp)] H := hP
                    have hD : va_D A [(aI g t1 6 pd), (aI g t2 36 wb), (oX5 t0 t1 t2 (nI w)), (aI g z1 3 (upd nu 0 (nI (nvF T (rn isBl T n (rn isLt T n k)) (rn isDg T n (rn isBl T n (rn isLt T n k)) - rn isBl T n (rn isLt T n k)))))), (oX7 z0 y0 (nI n) (nI (rn isBl T n (rn isDg T n (rn isBl T n (rn isLt T n k))))) 1 (nI (rn isBl T n (rn isDg T n (rn isBl T n (rn isLt T n k))))) z1), (aB g y0 500 tp)] := hD
                    have hP := hP.sub (ws' := [(oX7 z0 y0 (nI n) (nI (rn isBl T n (rn isDg T n (rn isBl T n (rn isLt T n k))))) 1 (nI (rn isBl T n (rn isDg T n (rn isBl T n (rn isLt T n k))))) z1), (aB g y0 500 tp), (aI g z1 3 (upd nu 0 (nI (nvF T (rn isBl T n (rn isLt T n k)) (rn isDg T n (rn isBl T n (rn isLt T n k)) - rn isBl T n (rn isLt T n k)))))), (oX5 t0 t1 t2 (nI w)), (aI g t1 6 pd), (aI g t2 36 wb)]) [4, 5, 3, 2, 0, 1] rfl
                    have hD := hD.sub (ws' := [(oX7 z0 y0 (nI n) (nI (rn isBl T n (rn isDg T n (rn isBl T n (rn isLt T n k))))) 1 (nI (rn isBl T n (rn isDg T n (rn isBl T n (rn isLt T n k))))) z1), (aB g y0 500 tp), (aI g z1 3 (upd nu 0 (nI (nvF T (rn isBl T n (rn isLt T n k)) (rn isDg T n (rn isBl T n (rn isLt T n k)) - rn isBl T n (rn isLt T n k)))))), (oX5 t0 t1 t2 (nI w)), (aI g t1 6 pd), (aI g t2 36 wb)]) [4, 5, 3, 2, 0, 1] (by decide) rfl
                    exact he_rz hQ hx hb hr hlk hP hD hS dX7_readPart_154 (Nat.le_of_ble_eq_true rfl) (Nat.le_of_ble_eq_true rfl) rfl (((rn isBl T n (rn isDg T n (rn isBl T n (rn isLt T n k)))), 1, nI (rn isBl T n (rn isDg T n (rn isBl T n (rn isLt T n k)))), upd nu 0 (nI (nvF T (rn isBl T n (rn isLt T n k)) (rn isDg T n (rn isBl T n (rn isLt T n k)) - rn isBl T n (rn isLt T n k)))), pd, wb)) (rfl) ((by have hP9 : ptS T n wl5 (bd5 w) (fl5 bf) k = _ := ptS_c (bd := bd5 w) hw hfl0 (nmS_s hm0 ((wi_b (lo := 0) (hx := 1000) (by (try dsimp only); decide) (by (try dsimp only); decide) (by (try dsimp only); decide) (by (try dsimp only); decide) (nv_le _ _ _)).mp hv0) rfl) hsc; exact ⟨by rw [hP9], Or.inl ⟨1, _, by rw [hP9], rfl, rfl, rfl, rfl, rfl⟩⟩))
                  refine lv_aload_n hx hb dX7_readPart_120 rfl (lv_at hl 4 rfl) ?_
                  refine va_get (v := .int (nI (rn isBl T n (rn isDg T n (rn isBl T n (rn isLt T n k)))))) (T := TX7) (N := 6) hx hb hts inX7 hown hK hP 4 rfl rfl 2 (by decide) f32 (fun _ h9 => h9) rfl dX7_readPart_121 ?_
                  refine lv_aload_n hx hb dX7_readPart_124 rfl (lv_at hl 4 rfl) ?_
                  refine va_get (v := .int (nI n)) (T := TX7) (N := 6) hx hb hts inX7 hown hK hP 4 rfl rfl 1 (by decide) f29 (fun _ h9 => h9) rfl dX7_readPart_125 ?_
                  refine lv_icmp_ge (tgt := 145) hx hb dX7_readPart_128 (by decide) (fun c_58 => ?_) (fun c_58 => ?_)
                  · have k_59 : n ≤ rn isBl T n (rn isDg T n (rn isBl T n (rn isLt T n k))) := (he_cle (a := n) (b := rn isBl T n (rn isDg T n (rn isBl T n (rn isLt T n k)))) rfl rfl (by omega) (by omega)).mp c_58
                    exact join145 () (fun h9 => absurd h9.1 (by omega)) _ _ _ hP hD hS (lv_sub hl [0, 1, 2, 3, 4, 5, 6] rfl)
                  · have k_60 : ¬ (n ≤ rn isBl T n (rn isDg T n (rn isBl T n (rn isLt T n k)))) := fun h9 => c_58 ((he_cle (a := n) (b := rn isBl T n (rn isDg T n (rn isBl T n (rn isLt T n k)))) rfl rfl (by omega) (by omega)).mpr h9)
                    refine lv_aload_n hx hb dX7_readPart_131 rfl (lv_at hl 4 rfl) ?_
                    refine va_get (v := .ref y0) (T := TX7) (N := 6) hx hb hts inX7 hown hK hP 4 rfl rfl 0 (by decide) f9 (fun _ h9 => h9) rfl dX7_readPart_132 ?_
                    refine lv_aload_n hx hb dX7_readPart_135 rfl (lv_at hl 4 rfl) ?_
                    refine va_get (v := .int (nI (rn isBl T n (rn isDg T n (rn isBl T n (rn isLt T n k)))))) (T := TX7) (N := 6) hx hb hts inX7 hown hK hP 4 rfl rfl 2 (by decide) f32 (fun _ h9 => h9) rfl dX7_readPart_136 ?_
                    refine he_bald hx hb hK hP 5 rfl (rn isBl T n (rn isDg T n (rn isBl T n (rn isLt T n k)))) rfl (by first | assumption | decide | omega) (by first | decide | assumption) (tp (rn isBl T n (rn isDg T n (rn isBl T n (rn isLt T n k))))) rfl dX7_readPart_139 ?_
                    refine lv_bipush (v := 59) hx hb dX7_readPart_140 (by decide) ?_
                    refine lv_icmp_eq (tgt := 155) hx hb dX7_readPart_142 (by decide) (fun c_61 => ?_) (fun c_61 => ?_)
                    · have hso : rn isBl T n (rn isDg T n (rn isBl T n (rn isLt T n k))) < n ∧ T (rn isBl T n (rn isDg T n (rn isBl T n (rn isLt T n k)))) = 59 := ⟨by omega, (cB (hT _ (by omega))).1.2.mp c_61⟩
                      refine lv_aload_n hx hb dX7_readPart_155 rfl (lv_at hl 4 rfl) ?_
                      refine lv_dup hx hb dX7_readPart_156 rfl ?_
                      refine va_get (v := .int (nI (rn isBl T n (rn isDg T n (rn isBl T n (rn isLt T n k)))))) (T := TX7) (N := 6) hx hb hts inX7 hown hK hP 4 rfl rfl 2 (by decide) f32 (fun _ h9 => h9) rfl dX7_readPart_157 ?_
                      refine lv_iconst (v := 1) hx hb dX7_readPart_160 (by decide) ?_
                      refine lv_iadd hx hb dX7_readPart_161 ?_
                      refine he_top (nI (rn isBl T n (rn isDg T n (rn isBl T n (rn isLt T n k))) + 1)) (nI_add (rn isBl T n (rn isDg T n (rn isBl T n (rn isLt T n k)))) 1) ?_
                      refine va_put (v := .int (nI (rn isBl T n (rn isDg T n (rn isBl T n (rn isLt T n k))) + 1))) (ty := .int) (T := TX7) (N := 6) hx hb hts inX7 tyX7 tyX7_ok nmX7 hown hK hP hD hS 4 rfl rfl 2 (by decide) f32 (fun _ h9 => h9) rfl (by decide +kernel) rfl rfl (Nat.le_of_ble_eq_true rfl) dX7_readPart_162 (fun H locs hP hD hS => ?_)
                      have hP : va_P g.1 vwCl [(aI g t1 6 pd), (aI g t2 36 wb), (oX5 t0 t1 t2 (nI w)), (aI g z1 3 (upd nu 0 (nI (nvF T (rn isBl T n (rn isLt T n k)) (rn isDg T n (rn isBl T n (rn isLt T n k)) - rn isBl T n (rn isLt T n k)))))), (oX7 z0 y0 (nI n) (nI (rn isBl T n (rn isDg T n (rn isBl T n (rn isLt T n k))) + 1)) fa pl z1), (aB g y0 500 tp)] H := hP
                      have hD : va_D A [(aI g t1 6 pd), (aI g t2 36 wb), (oX5 t0 t1 t2 (nI w)), (aI g z1 3 (upd nu 0 (nI (nvF T (rn isBl T n (rn isLt T n k)) (rn isDg T n (rn isBl T n (rn isLt T n k)) - rn isBl T n (rn isLt T n k)))))), (oX7 z0 y0 (nI n) (nI (rn isBl T n (rn isDg T n (rn isBl T n (rn isLt T n k))) + 1)) fa pl z1), (aB g y0 500 tp)] := hD
                      refine lv_aload_n hx hb dX7_readPart_165 rfl (lv_at hl 5 rfl) ?_
                      refine lv_iload hx hb dX7_readPart_166 (lv_at hl 2 rfl) ?_
                      refine lv_aload_n hx hb dX7_readPart_168 rfl (lv_at hl 4 rfl) ?_
                      refine va_get (v := .ref z1) (T := TX7) (N := 6) hx hb hts inX7 hown hK hP 4 rfl rfl 5 (by decide) f19 (fun _ h9 => h9) rfl dX7_readPart_169 ?_
                      refine he_cv (wc := [(oX5 t0 t1 t2 (nI w)), (aI g t1 6 pd), (aI g t2 36 wb), (aI g z1 3 (upd nu 0 (nI (nvF T (rn isBl T n (rn isLt T n k)) (rn isDg T n (rn isBl T n (rn isLt T n k)) - rn isBl T n (rn isLt T n k))))))]) (wr := [(oX7 z0 y0 (nI n) (nI (rn isBl T n (rn isDg T n (rn isBl T n (rn isLt T n k))) + 1)) fa pl z1), (aB g y0 500 tp)]) (va_runU (As := [.int 0, .ref z1]) (rest := []) ⟨hx, hb, hml, hown, hts⟩ (p_X5_store_0 l g t0 t1 t2 w pd wb z1 (upd nu 0 (nI (nvF T (rn isBl T n (rn isLt T n k)) (rn isDg T n (rn isBl T n (rn isLt T n k)) - rn isBl T n (rn isLt T n k))))) H.size) (va_cwA 2 hts gX7_readPart_X5_store_u83X5 rfl rfl rfl dc83 (by decide +kernel) ⟨Nat.le_of_ble_eq_true rfl, Nat.le_of_ble_eq_true rfl⟩) (he_preV (wc := [(oX5 t0 t1 t2 (nI w)), (aI g t1 6 pd), (aI g t2 36 wb), (aI g z1 3 (upd nu 0 (nI (nvF T (rn isBl T n (rn isLt T n k)) (rn isDg T n (rn isBl T n (rn isLt T n k)) - rn isBl T n (rn isLt T n k))))))]) hK hP hD hS hA hE [2, 0, 1, 3] rfl rfl 2 rfl rfl) rfl rfl hl.1 rfl (lv_room (Nat.le_of_ble_eq_true rfl)) dX7_readPart_172 ⟨(Nat.le_of_ble_eq_true rfl), (Nat.le_of_ble_eq_true rfl)⟩) hP hD hS hA [2, 0, 1, 3] [4, 5] rfl rfl rfl (by decide) (fun u_63 H locs h_64 hP hD hS => ?_)
                      have hP : va_P g.1 vwCl [(oX7 z0 y0 (nI n) (nI (rn isBl T n (rn isDg T n (rn isBl T n (rn isLt T n k))) + 1)) fa pl z1), (aB g y0 500 tp), (oX5 t0 t1 t2 (nI w)), (aI g t1 6 (upd pd 0 ((upd nu 0 (nI (nvF T (rn isBl T n (rn isLt T n k)) (rn isDg T n (rn isBl T n (rn isLt T n k)) - rn isBl T n (rn isLt T n k))))) 0))), (aI g t2 36 wb), (aI g z1 3 (upd nu 0 (nI (nvF T (rn isBl T n (rn isLt T n k)) (rn isDg T n (rn isBl T n (rn isLt T n k)) - rn isBl T n (rn isLt T n k))))))] H := hP
                      have hD : va_D A [(oX7 z0 y0 (nI n) (nI (rn isBl T n (rn isDg T n (rn isBl T n (rn isLt T n k))) + 1)) fa pl z1), (aB g y0 500 tp), (oX5 t0 t1 t2 (nI w)), (aI g t1 6 (upd pd 0 ((upd nu 0 (nI (nvF T (rn isBl T n (rn isLt T n k)) (rn isDg T n (rn isBl T n (rn isLt T n k)) - rn isBl T n (rn isLt T n k))))) 0))), (aI g t2 36 wb), (aI g z1 3 (upd nu 0 (nI (nvF T (rn isBl T n (rn isLt T n k)) (rn isDg T n (rn isBl T n (rn isLt T n k)) - rn isBl T n (rn isLt T n k))))))] := hD
                      refine lv_iconst (v := 1) hx hb dX7_readPart_175 (by decide) ?_
                      have hP := hP.sub (ws' := [(oX7 z0 y0 (nI n) (nI (rn isBl T n (rn isDg T n (rn isBl T n (rn isLt T n k))) + 1)) fa pl z1), (aB g y0 500 tp), (aI g z1 3 (upd nu 0 (nI (nvF T (rn isBl T n (rn isLt T n k)) (rn isDg T n (rn isBl T n (rn isLt T n k)) - rn isBl T n (rn isLt T n k)))))), (oX5 t0 t1 t2 (nI w)), (aI g t1 6 (upd pd 0 ((upd nu 0 (nI (nvF T (rn isBl T n (rn isLt T n k)) (rn isDg T n (rn isBl T n (rn isLt T n k)) - rn isBl T n (rn isLt T n k))))) 0))), (aI g t2 36 wb)]) [0, 1, 5, 2, 3, 4] rfl
                      have hD := hD.sub (ws' := [(oX7 z0 y0 (nI n) (nI (rn isBl T n (rn isDg T n (rn isBl T n (rn isLt T n k))) + 1)) fa pl z1), (aB g y0 500 tp), (aI g z1 3 (upd nu 0 (nI (nvF T (rn isBl T n (rn isLt T n k)) (rn isDg T n (rn isBl T n (rn isLt T n k)) - rn isBl T n (rn isLt T n k)))))), (oX5 t0 t1 t2 (nI w)), (aI g t1 6 (upd pd 0 ((upd nu 0 (nI (nvF T (rn isBl T n (rn isLt T n k)) (rn isDg T n (rn isBl T n (rn isLt T n k)) - rn isBl T n (rn isLt T n k))))) 0))), (aI g t2 36 wb)]) [0, 1, 5, 2, 3, 4] (by decide) rfl
                      exact he_rz hQ hx hb hr hlk hP hD hS dX7_readPart_176 (Nat.le_of_ble_eq_true rfl) (Nat.le_of_ble_eq_true rfl) rfl ((rn isBl T n (rn isDg T n (rn isBl T n (rn isLt T n k))) + 1, fa, pl, upd nu 0 (nI (nvF T (rn isBl T n (rn isLt T n k)) (rn isDg T n (rn isBl T n (rn isLt T n k)) - rn isBl T n (rn isLt T n k)))), upd pd 0 ((upd nu 0 (nI (nvF T (rn isBl T n (rn isLt T n k)) (rn isDg T n (rn isBl T n (rn isLt T n k)) - rn isBl T n (rn isLt T n k))))) 0), wb)) (rfl) ((by have hP9 : ptS T n wl5 (bd5 w) (fl5 bf) k = _ := ptS_o (bd := bd5 w) hw hfl0 (nmS_s hm0 ((wi_b (lo := 0) (hx := 1000) (by (try dsimp only); decide) (by (try dsimp only); decide) (by (try dsimp only); decide) (by (try dsimp only); decide) (nv_le _ _ _)).mp hv0) rfl) hso; exact ⟨by rw [hP9], Or.inr ⟨0, _, by rw [hP9], by rw [hP9], rfl, rfl, rfl, rfl, rfl⟩⟩))
                    · exact join145 () (fun h9 => c_61 ((cB (hT _ h9.1)).1.2.mpr h9.2)) _ _ _ hP hD hS (lv_sub hl [0, 1, 2, 3, 4, 5, 6] rfl)
                · exact absurd (by decide) c_51
              · exact absurd c_50 (by decide)
        · exact absurd (by decide) c_28
    · exact absurd c_15 (by decide)
  · skip
    refine lv_iload hx hb dX7_readPart_20 (lv_at hl 0 rfl) ?_
    refine lv_iconst (v := (-1)) hx hb dX7_readPart_22 (by decide) ?_
    refine lv_icmp_ne (tgt := 33) hx hb dX7_readPart_23 (by decide) (fun c_65 => ?_) (fun c_65 => ?_)
    · have join50 : ∀ (_ : Unit), (fl5 bf 1 = true) → ∀ (H : Heap) (locs : List Loc) (ls : Array Slot), va_P g.1 vwCl [(aI g z1 3 nu), (aI g t1 6 pd), (aI g t2 36 wb), (oX5 t0 t1 t2 (nI w)), (oX7 z0 y0 (nI n) (nI (rn isLt T n k)) fa pl z1), (aB g y0 500 tp)] H → va_D A [(aI g z1 3 nu), (aI g t1 6 pd), (aI g t2 36 wb), (oX5 t0 t1 t2 (nI w)), (oX7 z0 y0 (nI n) (nI (rn isLt T n k)) fa pl z1), (aB g y0 500 tp)] → va_S A s.heap H locs → lv_has ls 7 [(4, .int 1), (3, .int (nI k)), (0, .ref z0), (1, .ref t0), (2, .int (nI bf))] → W p l e (he_room 6 135 0 0) s m args below meth c H locs 0 0 Q (F0 m 50 ls []) := by
        intro _ hfl H locs ls hP hD hS hl
        refine lv_aload_n hx hb dX7_readPart_50 rfl (lv_at hl 2 rfl) ?_
        refine lv_iconst (v := 3) hx hb dX7_readPart_51 (by decide) ?_
        refine lv_iload_n hx hb dX7_readPart_52 rfl (lv_at hl 1 rfl) ?_
        refine he_ci (wc := [(oX7 z0 y0 (nI n) (nI (rn isLt T n k)) fa pl z1), (aB g y0 500 tp)]) (wr := [(aI g z1 3 nu), (aI g t1 6 pd), (aI g t2 36 wb), (oX5 t0 t1 t2 (nI w))]) (va_runV (As := [.int 3, .int (nI k)]) (rest := []) ⟨hx, hb, hml, hown, hts⟩ (g_X7_fail l g z0 z1 y0 n (rn isLt T n k) fa pl tp 3 (nI k) H.size) (cwV 2 hts gX7_readPart_X7_fail rfl rfl rfl (by decide +kernel) ⟨Nat.le_of_ble_eq_true rfl, Nat.le_of_ble_eq_true rfl⟩) (he_preV (wc := [(oX7 z0 y0 (nI n) (nI (rn isLt T n k)) fa pl z1), (aB g y0 500 tp)]) hK hP hD hS hA hE [4, 5] rfl rfl 4 rfl rfl) rfl rfl hl.1 rfl (lv_room (Nat.le_of_ble_eq_true rfl)) dX7_readPart_53 ⟨(Nat.le_of_ble_eq_true rfl), (Nat.le_of_ble_eq_true rfl)⟩) hP hD hS hA [4, 5] [0, 1, 2, 3] rfl rfl rfl (by decide) (fun r_66 u_67 H locs h_68 hP hD hS => ?_)
        subst h_68
        have hP : va_P g.1 vwCl [(aI g z1 3 nu), (aI g t1 6 pd), (aI g t2 36 wb), (oX5 t0 t1 t2 (nI w)), (oX7 z0 y0 (nI n) (nI (rn isLt T n k)) 3 (nI k) z1), (aB g y0 500 tp)] H := hP
        have hD : va_D A [(aI g z1 3 nu), (aI g t1 6 pd), (aI g t2 36 wb), (oX5 t0 t1 t2 (nI w)), (oX7 z0 y0 (nI n) (nI (rn isLt T n k)) 3 (nI k) z1), (aB g y0 500 tp)] := hD
        have hP := hP.sub (ws' := [(oX7 z0 y0 (nI n) (nI (rn isLt T n k)) 3 (nI k) z1), (aB g y0 500 tp), (aI g z1 3 nu), (oX5 t0 t1 t2 (nI w)), (aI g t1 6 pd), (aI g t2 36 wb)]) [4, 5, 0, 3, 1, 2] rfl
        have hD := hD.sub (ws' := [(oX7 z0 y0 (nI n) (nI (rn isLt T n k)) 3 (nI k) z1), (aB g y0 500 tp), (aI g z1 3 nu), (oX5 t0 t1 t2 (nI w)), (aI g t1 6 pd), (aI g t2 36 wb)]) [4, 5, 0, 3, 1, 2] (by decide) rfl
        exact he_rz hQ hx hb hr hlk hP hD hS dX7_readPart_56 (Nat.le_of_ble_eq_true rfl) (Nat.le_of_ble_eq_true rfl) rfl (((rn isLt T n k), 3, nI k, nu, pd, wb)) (rfl) ((by have hP9 : ptS T n wl5 (bd5 w) (fl5 bf) k = _ := ptS_3 hw hfl; exact ⟨by rw [hP9], Or.inl ⟨3, k, by rw [hP9], rfl, rfl, rfl, rfl, rfl⟩⟩))
      refine lv_iload_n hx hb dX7_readPart_33 rfl (lv_at hl 4 rfl) ?_
      refine lv_aload_n hx hb dX7_readPart_34 rfl (lv_at hl 3 rfl) ?_
      refine he_ci (wc := [(oX5 t0 t1 t2 (nI w))]) (wr := [(aI g z1 3 nu), (aI g t1 6 pd), (aI g t2 36 wb), (oX7 z0 y0 (nI n) (nI (rn isLt T n k)) fa pl z1), (aB g y0 500 tp)]) (va_runU (As := []) (rest := [.int (nI bf)]) ⟨hx, hb, hml, hown, hts⟩ (c_X5_mostParts l g t0 t1 t2 (nI w) H.size) (va_cwA 0 hts gX7_readPart_X5_mostParts_u38X5 rfl rfl rfl dc38 (by decide +kernel) ⟨Nat.le_of_ble_eq_true rfl, Nat.le_of_ble_eq_true rfl⟩) (he_preV (wc := [(oX5 t0 t1 t2 (nI w))]) hK hP hD hS hA hE [3] rfl rfl 3 rfl rfl) rfl rfl hl.1 rfl (lv_room (Nat.le_of_ble_eq_true rfl)) dX7_readPart_35 ⟨(Nat.le_of_ble_eq_true rfl), (Nat.le_of_ble_eq_true rfl)⟩) hP hD hS hA [3] [0, 1, 2, 4, 5] rfl rfl rfl (by decide) (fun r_69 u_70 H locs h_71 hP hD hS => ?_)
      subst h_71
      have hP : va_P g.1 vwCl [(aI g z1 3 nu), (aI g t1 6 pd), (aI g t2 36 wb), (oX7 z0 y0 (nI n) (nI (rn isLt T n k)) fa pl z1), (aB g y0 500 tp), (oX5 t0 t1 t2 (nI w))] H := hP
      have hD : va_D A [(aI g z1 3 nu), (aI g t1 6 pd), (aI g t2 36 wb), (oX7 z0 y0 (nI n) (nI (rn isLt T n k)) fa pl z1), (aB g y0 500 tp), (oX5 t0 t1 t2 (nI w))] := hD
      refine lv_icmp_ge (tgt := 50) hx hb dX7_readPart_38 (by decide) (fun c_72 => ?_) (fun c_72 => ?_)
      · have k_73 : 20 ≤ bf := (he_cle (a := 20) (b := bf) (by decide) rfl (by omega) (by omega)).mp c_72
        exact join50 () (fl5_t (by omega)) _ _ _ (hP.sub [0, 1, 2, 5, 3, 4] rfl) (hD.sub [0, 1, 2, 5, 3, 4] (by decide) rfl) hS (lv_sub hl [0, 1, 2, 3, 4] rfl)
      · have k_74 : ¬ (20 ≤ bf) := fun h9 => c_72 ((he_cle (a := 20) (b := bf) (by decide) rfl (by omega) (by omega)).mpr h9)
        refine lv_aload_n hx hb dX7_readPart_41 rfl (lv_at hl 3 rfl) ?_
        refine lv_iload hx hb dX7_readPart_42 (lv_at hl 0 rfl) ?_
        refine he_ci (wc := [(oX5 t0 t1 t2 (nI w))]) (wr := [(aI g z1 3 nu), (aI g t1 6 pd), (aI g t2 36 wb), (oX7 z0 y0 (nI n) (nI (rn isLt T n k)) fa pl z1), (aB g y0 500 tp)]) (va_runU (As := [.int 1]) (rest := []) ⟨hx, hb, hml, hown, hts⟩ (p_X5_isFull l g t0 t1 t2 w 1 H.size) (va_cwA 1 hts gX7_readPart_X5_isFull_u66X5 rfl rfl rfl dc66 (by decide +kernel) ⟨Nat.le_of_ble_eq_true rfl, Nat.le_of_ble_eq_true rfl⟩) (he_preV (wc := [(oX5 t0 t1 t2 (nI w))]) hK hP hD hS hA hE [5] rfl rfl 5 rfl rfl) rfl rfl hl.1 rfl (lv_room (Nat.le_of_ble_eq_true rfl)) dX7_readPart_44 ⟨(Nat.le_of_ble_eq_true rfl), (Nat.le_of_ble_eq_true rfl)⟩) hP hD hS hA [5] [0, 1, 2, 3, 4] rfl rfl rfl (by decide) (fun r_75 u_76 H locs h_77 hP hD hS => ?_)
        subst h_77
        have hP : va_P g.1 vwCl [(aI g z1 3 nu), (aI g t1 6 pd), (aI g t2 36 wb), (oX7 z0 y0 (nI n) (nI (rn isLt T n k)) fa pl z1), (aB g y0 500 tp), (oX5 t0 t1 t2 (nI w))] H := hP
        have hD : va_D A [(aI g z1 3 nu), (aI g t1 6 pd), (aI g t2 36 wb), (oX7 z0 y0 (nI n) (nI (rn isLt T n k)) fa pl z1), (aB g y0 500 tp), (oX5 t0 t1 t2 (nI w))] := hD
        refine lv_if_eq (tgt := 57) hx hb dX7_readPart_47 (by decide) (fun c_78 => ?_) (fun c_78 => ?_)
        · have hfl0 : fl5 bf 1 = false := fl5_f (fun h9 => by omega)
          refine lv_aload_n hx hb dX7_readPart_57 rfl (lv_at hl 3 rfl) ?_
          refine lv_iload hx hb dX7_readPart_58 (lv_at hl 0 rfl) ?_
          refine he_ci (wc := [(oX5 t0 t1 t2 (nI w))]) (wr := [(aI g z1 3 nu), (aI g t1 6 pd), (aI g t2 36 wb), (oX7 z0 y0 (nI n) (nI (rn isLt T n k)) fa pl z1), (aB g y0 500 tp)]) (va_runU (As := [.int 1]) (rest := []) ⟨hx, hb, hml, hown, hts⟩ (p_X5_numbers_1 l g t0 t1 t2 w H.size) (va_cwA 1 hts gX7_readPart_X5_numbers_u70X5 rfl rfl rfl dc70 (by decide +kernel) ⟨Nat.le_of_ble_eq_true rfl, Nat.le_of_ble_eq_true rfl⟩) (he_preV (wc := [(oX5 t0 t1 t2 (nI w))]) hK hP hD hS hA hE [5] rfl rfl 5 rfl rfl) rfl rfl hl.1 rfl (lv_room (Nat.le_of_ble_eq_true rfl)) dX7_readPart_60 ⟨(Nat.le_of_ble_eq_true rfl), (Nat.le_of_ble_eq_true rfl)⟩) hP hD hS hA [5] [0, 1, 2, 3, 4] rfl rfl rfl (by decide) (fun r_79 u_80 H locs h_81 hP hD hS => ?_)
          subst h_81
          have hP : va_P g.1 vwCl [(aI g z1 3 nu), (aI g t1 6 pd), (aI g t2 36 wb), (oX7 z0 y0 (nI n) (nI (rn isLt T n k)) fa pl z1), (aB g y0 500 tp), (oX5 t0 t1 t2 (nI w))] H := hP
          have hD : va_D A [(aI g z1 3 nu), (aI g t1 6 pd), (aI g t2 36 wb), (oX7 z0 y0 (nI n) (nI (rn isLt T n k)) fa pl z1), (aB g y0 500 tp), (oX5 t0 t1 t2 (nI w))] := hD
          refine lv_aload_n hx hb dX7_readPart_63 rfl (lv_at hl 2 rfl) ?_
          refine va_get (v := .ref z1) (T := TX7) (N := 6) hx hb hts inX7 hown hK hP 3 rfl rfl 5 (by decide) f19 (fun _ h9 => h9) rfl dX7_readPart_64 ?_
          refine va_alen (v := 3) hx hb hK hP 0 1 rfl rfl rfl dX7_readPart_67 ?_
          refine va_mmin hx hb (by rw [hml]; exact hl.1.symm) hown ml23 msmin mi mcmin (by decide) (Nat.le_of_ble_eq_true rfl) (Nat.le_of_ble_eq_true rfl) (Nat.le_of_ble_eq_true rfl) dX7_readPart_68 ?_
          refine he_top (1) (by decide) ?_
          refine lv_istore (lv' := [(5, .int 1), (4, .int 1), (3, .int (nI k)), (0, .ref z0), (1, .ref t0), (2, .int (nI bf))]) hx hb dX7_readPart_71 hl (by decide) rfl (fun ls hl => ?_)
          refine lv_iconst (v := 0) hx hb dX7_readPart_73 (by decide) ?_
          refine lv_istore (lv' := [(6, .int 0), (5, .int 1), (4, .int 1), (3, .int (nI k)), (0, .ref z0), (1, .ref t0), (2, .int (nI bf))]) hx hb dX7_readPart_74 hl (by decide) rfl (fun ls hl => ?_)
          refine lv_iload hx hb dX7_readPart_76 (lv_at hl 0 rfl) ?_
          refine lv_iload hx hb dX7_readPart_78 (lv_at hl 1 rfl) ?_
          refine lv_icmp_ge (tgt := 116) hx hb dX7_readPart_80 (by decide) (fun c_82 => ?_) (fun c_82 => ?_)
          · exact absurd c_82 (by decide)
          · refine lv_aload_n hx hb dX7_readPart_83 rfl (lv_at hl 4 rfl) ?_
            refine lv_iload hx hb dX7_readPart_84 (lv_at hl 0 rfl) ?_
            refine lv_aload_n hx hb dX7_readPart_86 rfl (lv_at hl 5 rfl) ?_
            refine lv_iload hx hb dX7_readPart_87 (lv_at hl 2 rfl) ?_
            refine lv_iload hx hb dX7_readPart_89 (lv_at hl 0 rfl) ?_
            refine he_ci (wc := [(oX5 t0 t1 t2 (nI w))]) (wr := [(aI g z1 3 nu), (aI g t1 6 pd), (aI g t2 36 wb), (oX7 z0 y0 (nI n) (nI (rn isLt T n k)) fa pl z1), (aB g y0 500 tp)]) (va_runU (As := [.int 1, .int 0]) (rest := [.int 0, .ref z0]) ⟨hx, hb, hml, hown, hts⟩ (p_X5_low_1_0 l g t0 t1 t2 w H.size) (va_cwA 2 hts gX7_readPart_X5_low_u73X5 rfl rfl rfl dc73 (by decide +kernel) ⟨Nat.le_of_ble_eq_true rfl, Nat.le_of_ble_eq_true rfl⟩) (he_preV (wc := [(oX5 t0 t1 t2 (nI w))]) hK hP hD hS hA hE [5] rfl rfl 5 rfl rfl) rfl rfl hl.1 rfl (lv_room (Nat.le_of_ble_eq_true rfl)) dX7_readPart_91 ⟨(Nat.le_of_ble_eq_true rfl), (Nat.le_of_ble_eq_true rfl)⟩) hP hD hS hA [5] [0, 1, 2, 3, 4] rfl rfl rfl (by decide) (fun r_83 u_84 H locs h_85 hP hD hS => ?_)
            subst h_85
            have hP : va_P g.1 vwCl [(aI g z1 3 nu), (aI g t1 6 pd), (aI g t2 36 wb), (oX7 z0 y0 (nI n) (nI (rn isLt T n k)) fa pl z1), (aB g y0 500 tp), (oX5 t0 t1 t2 (nI w))] H := hP
            have hD : va_D A [(aI g z1 3 nu), (aI g t1 6 pd), (aI g t2 36 wb), (oX7 z0 y0 (nI n) (nI (rn isLt T n k)) fa pl z1), (aB g y0 500 tp), (oX5 t0 t1 t2 (nI w))] := hD
            refine lv_aload_n hx hb dX7_readPart_94 rfl (lv_at hl 5 rfl) ?_
            refine lv_iload hx hb dX7_readPart_95 (lv_at hl 2 rfl) ?_
            refine lv_iload hx hb dX7_readPart_97 (lv_at hl 0 rfl) ?_
            refine he_ci (wc := [(oX5 t0 t1 t2 (nI w))]) (wr := [(aI g z1 3 nu), (aI g t1 6 pd), (aI g t2 36 wb), (oX7 z0 y0 (nI n) (nI (rn isLt T n k)) fa pl z1), (aB g y0 500 tp)]) (va_runU (As := [.int 1, .int 0]) (rest := [.int 0, .int 0, .ref z0]) ⟨hx, hb, hml, hown, hts⟩ (p_X5_high_1_0 l g t0 t1 t2 w H.size) (va_cwA 2 hts gX7_readPart_X5_high_u76X5 rfl rfl rfl dc76 (by decide +kernel) ⟨Nat.le_of_ble_eq_true rfl, Nat.le_of_ble_eq_true rfl⟩) (he_preV (wc := [(oX5 t0 t1 t2 (nI w))]) hK hP hD hS hA hE [5] rfl rfl 5 rfl rfl) rfl rfl hl.1 rfl (lv_room (Nat.le_of_ble_eq_true rfl)) dX7_readPart_99 ⟨(Nat.le_of_ble_eq_true rfl), (Nat.le_of_ble_eq_true rfl)⟩) hP hD hS hA [5] [0, 1, 2, 3, 4] rfl rfl rfl (by decide) (fun r_86 u_87 H locs h_88 hP hD hS => ?_)
            subst h_88
            have hP : va_P g.1 vwCl [(aI g z1 3 nu), (aI g t1 6 pd), (aI g t2 36 wb), (oX7 z0 y0 (nI n) (nI (rn isLt T n k)) fa pl z1), (aB g y0 500 tp), (oX5 t0 t1 t2 (nI w))] H := hP
            have hD : va_D A [(aI g z1 3 nu), (aI g t1 6 pd), (aI g t2 36 wb), (oX7 z0 y0 (nI n) (nI (rn isLt T n k)) fa pl z1), (aB g y0 500 tp), (oX5 t0 t1 t2 (nI w))] := hD
            refine he_ci (wc := [(oX7 z0 y0 (nI n) (nI (rn isLt T n k)) fa pl z1), (aB g y0 500 tp), (aI g z1 3 nu)]) (wr := [(aI g t1 6 pd), (aI g t2 36 wb), (oX5 t0 t1 t2 (nI w))]) (va_runV (As := [.int 0, .int 0, .int 999]) (rest := []) ⟨hx, hb, hml, hown, hts⟩ (p_X7_readNumber l g z0 z1 y0 n (rn isLt T n k) fa pl tp T nu 0 0 999 (by have h0 := rn_le (P := isLt) (T := T) hk; exact h0) (by first | assumption | decide | omega) (by first | assumption | decide | omega) (by decide) H.size) (cwV 3 hts gX7_readPart_X7_readNumber rfl rfl rfl (by decide +kernel) ⟨Nat.le_of_ble_eq_true rfl, Nat.le_of_ble_eq_true rfl⟩) (he_preV (wc := [(oX7 z0 y0 (nI n) (nI (rn isLt T n k)) fa pl z1), (aB g y0 500 tp), (aI g z1 3 nu)]) hK hP hD hS hA hE [3, 4, 0] rfl rfl 3 rfl rfl) rfl rfl hl.1 rfl (lv_room (Nat.le_of_ble_eq_true rfl)) dX7_readPart_102 ⟨(Nat.le_of_ble_eq_true rfl), (Nat.le_of_ble_eq_true rfl)⟩) hP hD hS hA [3, 4, 0] [1, 2, 5] rfl rfl rfl (by decide) (fun r_89 u_90 H locs h_91 hP hD hS => ?_)
            obtain ⟨k2_92, fb_93, pb_94, nv_95⟩ := u_90
            try dsimp only at h_91
            obtain ⟨hf_96, hf_97⟩ := h_91
            have hP : va_P g.1 vwCl [(aI g t1 6 pd), (aI g t2 36 wb), (oX5 t0 t1 t2 (nI w)), (oX7 z0 y0 (nI n) (nI k2_92) fb_93 pb_94 z1), (aB g y0 500 tp), (aI g z1 3 nv_95)] H := hP
            have hD : va_D A [(aI g t1 6 pd), (aI g t2 36 wb), (oX5 t0 t1 t2 (nI w)), (oX7 z0 y0 (nI n) (nI k2_92) fb_93 pb_94 z1), (aB g y0 500 tp), (aI g z1 3 nv_95)] := hD
            have hk2 := hf_96
            rcases hf_97 with ⟨hm0, hr9, hf9, hp9, hn9⟩ | ⟨hm0, hv0, hr9, hf9, hp9, hn9⟩ | ⟨hm0, hv0, hr9, hf9, hp9, hn9⟩
            · subst k2_92 r_89 fb_93 pb_94 nv_95
              have hP : va_P g.1 vwCl [(aI g t1 6 pd), (aI g t2 36 wb), (oX5 t0 t1 t2 (nI w)), (oX7 z0 y0 (nI n) (nI (rn isDg T n (rn isBl T n (rn isLt T n k)))) 1 (nI (rn isBl T n (rn isLt T n k))) z1), (aB g y0 500 tp), (aI g z1 3 nu)] H := hP
              have hD : va_D A [(aI g t1 6 pd), (aI g t2 36 wb), (oX5 t0 t1 t2 (nI w)), (oX7 z0 y0 (nI n) (nI (rn isDg T n (rn isBl T n (rn isLt T n k)))) 1 (nI (rn isBl T n (rn isLt T n k))) z1), (aB g y0 500 tp), (aI g z1 3 nu)] := hD
              refine lv_if_ne (tgt := 110) hx hb dX7_readPart_105 (by decide) (fun c_98 => ?_) (fun c_98 => ?_)
              · exact absurd (by decide) c_98
              · refine lv_iconst (v := 0) hx hb dX7_readPart_108 (by decide) ?_
                have hP := hP.sub (ws' := [(oX7 z0 y0 (nI n) (nI (rn isDg T n (rn isBl T n (rn isLt T n k)))) 1 (nI (rn isBl T n (rn isLt T n k))) z1), (aB g y0 500 tp), (aI g z1 3 nu), (oX5 t0 t1 t2 (nI w)), (aI g t1 6 pd), (aI g t2 36 wb)]) [3, 4, 5, 2, 0, 1] rfl
                have hD := hD.sub (ws' := [(oX7 z0 y0 (nI n) (nI (rn isDg T n (rn isBl T n (rn isLt T n k)))) 1 (nI (rn isBl T n (rn isLt T n k))) z1), (aB g y0 500 tp), (aI g z1 3 nu), (oX5 t0 t1 t2 (nI w)), (aI g t1 6 pd), (aI g t2 36 wb)]) [3, 4, 5, 2, 0, 1] (by decide) rfl
                exact he_rz hQ hx hb hr hlk hP hD hS dX7_readPart_109 (Nat.le_of_ble_eq_true rfl) (Nat.le_of_ble_eq_true rfl) rfl (((rn isDg T n (rn isBl T n (rn isLt T n k))), 1, nI (rn isBl T n (rn isLt T n k)), nu, pd, wb)) (rfl) ((by have hP9 : ptS T n wl5 (bd5 w) (fl5 bf) k = _ := ptS_f (bd := bd5 w) hw hfl0 (nmS_1 hm0); exact ⟨by rw [hP9], Or.inl ⟨1, _, by rw [hP9], rfl, rfl, rfl, rfl, rfl⟩⟩))
            · subst k2_92 r_89 fb_93 pb_94 nv_95
              have hP : va_P g.1 vwCl [(aI g t1 6 pd), (aI g t2 36 wb), (oX5 t0 t1 t2 (nI w)), (oX7 z0 y0 (nI n) (nI (rn isDg T n (rn isBl T n (rn isLt T n k)))) 2 (nI (rn isBl T n (rn isLt T n k))) z1), (aB g y0 500 tp), (aI g z1 3 nu)] H := hP
              have hD : va_D A [(aI g t1 6 pd), (aI g t2 36 wb), (oX5 t0 t1 t2 (nI w)), (oX7 z0 y0 (nI n) (nI (rn isDg T n (rn isBl T n (rn isLt T n k)))) 2 (nI (rn isBl T n (rn isLt T n k))) z1), (aB g y0 500 tp), (aI g z1 3 nu)] := hD
              refine lv_if_ne (tgt := 110) hx hb dX7_readPart_105 (by decide) (fun c_99 => ?_) (fun c_99 => ?_)
              · exact absurd (by decide) c_99
              · refine lv_iconst (v := 0) hx hb dX7_readPart_108 (by decide) ?_
                have hP := hP.sub (ws' := [(oX7 z0 y0 (nI n) (nI (rn isDg T n (rn isBl T n (rn isLt T n k)))) 2 (nI (rn isBl T n (rn isLt T n k))) z1), (aB g y0 500 tp), (aI g z1 3 nu), (oX5 t0 t1 t2 (nI w)), (aI g t1 6 pd), (aI g t2 36 wb)]) [3, 4, 5, 2, 0, 1] rfl
                have hD := hD.sub (ws' := [(oX7 z0 y0 (nI n) (nI (rn isDg T n (rn isBl T n (rn isLt T n k)))) 2 (nI (rn isBl T n (rn isLt T n k))) z1), (aB g y0 500 tp), (aI g z1 3 nu), (oX5 t0 t1 t2 (nI w)), (aI g t1 6 pd), (aI g t2 36 wb)]) [3, 4, 5, 2, 0, 1] (by decide) rfl
                exact he_rz hQ hx hb hr hlk hP hD hS dX7_readPart_109 (Nat.le_of_ble_eq_true rfl) (Nat.le_of_ble_eq_true rfl) rfl (((rn isDg T n (rn isBl T n (rn isLt T n k))), 2, nI (rn isBl T n (rn isLt T n k)), nu, pd, wb)) (rfl) ((by have hP9 : ptS T n wl5 (bd5 w) (fl5 bf) k = _ := ptS_f (bd := bd5 w) hw hfl0 (nmS_2 hm0 (fun h9 => absurd hv0 ((wi_b (lo := 0) (hx := 1000) (by (try dsimp only); decide) (by (try dsimp only); decide) (by (try dsimp only); decide) (by (try dsimp only); decide) (nv_le _ _ _)).mpr h9))); exact ⟨by rw [hP9], Or.inl ⟨2, _, by rw [hP9], rfl, rfl, rfl, rfl, rfl⟩⟩))
            · subst k2_92 r_89 fb_93 pb_94 nv_95
              have hP : va_P g.1 vwCl [(aI g t1 6 pd), (aI g t2 36 wb), (oX5 t0 t1 t2 (nI w)), (oX7 z0 y0 (nI n) (nI (rn isDg T n (rn isBl T n (rn isLt T n k)))) fa pl z1), (aB g y0 500 tp), (aI g z1 3 (upd nu 0 (nI (nvF T (rn isBl T n (rn isLt T n k)) (rn isDg T n (rn isBl T n (rn isLt T n k)) - rn isBl T n (rn isLt T n k))))))] H := hP
              have hD : va_D A [(aI g t1 6 pd), (aI g t2 36 wb), (oX5 t0 t1 t2 (nI w)), (oX7 z0 y0 (nI n) (nI (rn isDg T n (rn isBl T n (rn isLt T n k)))) fa pl z1), (aB g y0 500 tp), (aI g z1 3 (upd nu 0 (nI (nvF T (rn isBl T n (rn isLt T n k)) (rn isDg T n (rn isBl T n (rn isLt T n k)) - rn isBl T n (rn isLt T n k))))))] := hD
              refine lv_if_ne (tgt := 110) hx hb dX7_readPart_105 (by decide) (fun c_100 => ?_) (fun c_100 => ?_)
              · refine lv_iinc (v := 1) (lv' := [(6, .int 1), (5, .int 1), (4, .int 1), (3, .int (nI k)), (0, .ref z0), (1, .ref t0), (2, .int (nI bf))]) hx hb dX7_readPart_110 hl (k := 0) rfl (by decide) (by decide) rfl (fun ls hl => ?_)
                refine lv_goto (tgt := 76) hx hb dX7_readPart_113 (by decide) ?_
                refine lv_iload hx hb dX7_readPart_76 (lv_at hl 0 rfl) ?_
                refine lv_iload hx hb dX7_readPart_78 (lv_at hl 1 rfl) ?_
                refine lv_icmp_ge (tgt := 116) hx hb dX7_readPart_80 (by decide) (fun c_101 => ?_) (fun c_101 => ?_)
                · refine lv_aload_n hx hb dX7_readPart_116 rfl (lv_at hl 4 rfl) ?_
                  refine he_cv (wc := [(oX7 z0 y0 (nI n) (nI (rn isDg T n (rn isBl T n (rn isLt T n k)))) fa pl z1), (aB g y0 500 tp)]) (wr := [(aI g t1 6 pd), (aI g t2 36 wb), (oX5 t0 t1 t2 (nI w)), (aI g z1 3 (upd nu 0 (nI (nvF T (rn isBl T n (rn isLt T n k)) (rn isDg T n (rn isBl T n (rn isLt T n k)) - rn isBl T n (rn isLt T n k))))))]) (va_runV (As := []) (rest := []) ⟨hx, hb, hml, hown, hts⟩ (p_X7_skipBlanks l g z0 z1 y0 n (rn isDg T n (rn isBl T n (rn isLt T n k))) fa pl tp T (by have h0 := rn_le (P := isLt) (T := T) hk; exact (rn_le (rn_le h0))) (by first | assumption | decide | omega) (by first | assumption | decide | omega) H.size) (cwV 0 hts gX7_readPart_X7_skipBlanks rfl rfl rfl (by decide +kernel) ⟨Nat.le_of_ble_eq_true rfl, Nat.le_of_ble_eq_true rfl⟩) (he_preV (wc := [(oX7 z0 y0 (nI n) (nI (rn isDg T n (rn isBl T n (rn isLt T n k)))) fa pl z1), (aB g y0 500 tp)]) hK hP hD hS hA hE [3, 4] rfl rfl 3 rfl rfl) rfl rfl hl.1 rfl (lv_room (Nat.le_of_ble_eq_true rfl)) dX7_readPart_117 ⟨(Nat.le_of_ble_eq_true rfl), (Nat.le_of_ble_eq_true rfl)⟩) hP hD hS hA [3, 4] [0, 1, 2, 5] rfl rfl rfl (by decide) (fun u_103 H locs h_104 hP hD hS => ?_)
                  have hP : va_P g.1 vwCl [(aI g t1 6 pd), (aI g t2 36 wb), (oX5 t0 t1 t2 (nI w)), (aI g z1 3 (upd nu 0 (nI (nvF T (rn isBl T n (rn isLt T n k)) (rn isDg T n (rn isBl T n (rn isLt T n k)) - rn isBl T n (rn isLt T n k)))))), (oX7 z0 y0 (nI n) (nI (rn isBl T n (rn isDg T n (rn isBl T n (rn isLt T n k))))) fa pl z1), (aB g y0 500 tp)] H := hP
                  have hD : va_D A [(aI g t1 6 pd), (aI g t2 36 wb), (oX5 t0 t1 t2 (nI w)), (aI g z1 3 (upd nu 0 (nI (nvF T (rn isBl T n (rn isLt T n k)) (rn isDg T n (rn isBl T n (rn isLt T n k)) - rn isBl T n (rn isLt T n k)))))), (oX7 z0 y0 (nI n) (nI (rn isBl T n (rn isDg T n (rn isBl T n (rn isLt T n k))))) fa pl z1), (aB g y0 500 tp)] := hD
                  have hAt : rn isBl T n (rn isDg T n (rn isBl T n (rn isLt T n k))) ≤ n := by have h0 := rn_le (P := isLt) (T := T) hk; exact rn_le (rn_le (rn_le h0))
                  have join145 : ∀ (_ : Unit), (¬ (rn isBl T n (rn isDg T n (rn isBl T n (rn isLt T n k))) < n ∧ T (rn isBl T n (rn isDg T n (rn isBl T n (rn isLt T n k)))) = 59)) → ∀ (H : Heap) (locs : List Loc) (ls : Array Slot), va_P g.1 vwCl [(aI g t1 6 pd), (aI g t2 36 wb), (oX5 t0 t1 t2 (nI w)), (aI g z1 3 (upd nu 0 (nI (nvF T (rn isBl T n (rn isLt T n k)) (rn isDg T n (rn isBl T n (rn isLt T n k)) - rn isBl T n (rn isLt T n k)))))), (oX7 z0 y0 (nI n) (nI (rn isBl T n (rn isDg T n (rn isBl T n (rn isLt T n k))))) fa pl z1), (aB g y0 500 tp)] H → va_D A [(aI g t1 6 pd), (aI g t2 36 wb), (oX5 t0 t1 t2 (nI w)), (aI g z1 3 (upd nu 0 (nI (nvF T (rn isBl T n (rn isLt T n k)) (rn isDg T n (rn isBl T n (rn isLt T n k)) - rn isBl T n (rn isLt T n k)))))), (oX7 z0 y0 (nI n) (nI (rn isBl T n (rn isDg T n (rn isBl T n (rn isLt T n k))))) fa pl z1), (aB g y0 500 tp)] → va_S A s.heap H locs → lv_has ls 7 [(6, .int 1), (5, .int 1), (4, .int 1), (3, .int (nI k)), (0, .ref z0), (1, .ref t0), (2, .int (nI bf))] → W p l e (he_room 6 135 0 0) s m args below meth c H locs 0 0 Q (F0 m 145 ls []) := by
                    intro _ hsc H locs ls hP hD hS hl
                    refine lv_aload_n hx hb dX7_readPart_145 rfl (lv_at hl 4 rfl) ?_
                    refine lv_iconst (v := 1) hx hb dX7_readPart_146 (by decide) ?_
                    refine lv_aload_n hx hb dX7_readPart_147 rfl (lv_at hl 4 rfl) ?_
                    refine va_get (v := .int (nI (rn isBl T n (rn isDg T n (rn isBl T n (rn isLt T n k)))))) (T := TX7) (N := 6) hx hb hts inX7 hown hK hP 4 rfl rfl 2 (by decide) f32 (fun _ h9 => h9) rfl dX7_readPart_148 ?_
                    refine he_ci (wc := [(oX7 z0 y0 (nI n) (nI (rn isBl T n (rn isDg T n (rn isBl T n (rn isLt T n k))))) fa pl z1), (aB g y0 500 tp)]) (wr := [(aI g t1 6 pd), (aI g t2 36 wb), (oX5 t0 t1 t2 (nI w)), (aI g z1 3 (upd nu 0 (nI (nvF T (rn isBl T n (rn isLt T n k)) (rn isDg T n (rn isBl T n (rn isLt T n k)) - rn isBl T n (rn isLt T n k))))))]) (va_runV (As := [.int 1, .int (nI (rn isBl T n (rn isDg T n (rn isBl T n (rn isLt T n k)))))]) (rest := []) ⟨hx, hb, hml, hown, hts⟩ (g_X7_fail l g z0 z1 y0 n (rn isBl T n (rn isDg T n (rn isBl T n (rn isLt T n k)))) fa pl tp 1 (nI (rn isBl T n (rn isDg T n (rn isBl T n (rn isLt T n k))))) H.size) (cwV 2 hts gX7_readPart_X7_fail rfl rfl rfl (by decide +kernel) ⟨Nat.le_of_ble_eq_true rfl, Nat.le_of_ble_eq_true rfl⟩) (he_preV (wc := [(oX7 z0 y0 (nI n) (nI (rn isBl T n (rn isDg T n (rn isBl T n (rn isLt T n k))))) fa pl z1), (aB g y0 500 tp)]) hK hP hD hS hA hE [4, 5] rfl rfl 4 rfl rfl) rfl rfl hl.1 rfl (lv_room (Nat.le_of_ble_eq_true rfl)) dX7_readPart_151 ⟨(Nat.le_of_ble_eq_true rfl), (Nat.le_of_ble_eq_true rfl)⟩) hP hD hS hA [4, 5] [0, 1, 2, 3] rfl rfl rfl (by decide) (fun r_105 u_106 H locs h_107 hP hD hS => ?_)
                    subst h_107
                    have hP : va_P g.1 vwCl [(aI g t1 6 pd), (aI g t2 36 wb), (oX5 t0 t1 t2 (nI w)), (aI g z1 3 (upd nu 0 (nI (nvF T (rn isBl T n (rn isLt T n k)) (rn isDg T n (rn isBl T n (rn isLt T n k)) - rn isBl T n (rn isLt T n k)))))), (oX7 z0 y0 (nI n) (nI (rn isBl T n (rn isDg T n (rn isBl T n (rn isLt T n k))))) 1 (nI (rn isBl T n (rn isDg T n (rn isBl T n (rn isLt T n k))))) z1), (aB g y0 500 tp)] H := hP
                    have hD : va_D A [(aI g t1 6 pd), (aI g t2 36 wb), (oX5 t0 t1 t2 (nI w)), (aI g z1 3 (upd nu 0 (nI (nvF T (rn isBl T n (rn isLt T n k)) (rn isDg T n (rn isBl T n (rn isLt T n k)) - rn isBl T n (rn isLt T n k)))))), (oX7 z0 y0 (nI n) (nI (rn isBl T n (rn isDg T n (rn isBl T n (rn isLt T n k))))) 1 (nI (rn isBl T n (rn isDg T n (rn isBl T n (rn isLt T n k))))) z1), (aB g y0 500 tp)] := hD
                    have hP := hP.sub (ws' := [(oX7 z0 y0 (nI n) (nI (rn isBl T n (rn isDg T n (rn isBl T n (rn isLt T n k))))) 1 (nI (rn isBl T n (rn isDg T n (rn isBl T n (rn isLt T n k))))) z1), (aB g y0 500 tp), (aI g z1 3 (upd nu 0 (nI (nvF T (rn isBl T n (rn isLt T n k)) (rn isDg T n (rn isBl T n (rn isLt T n k)) - rn isBl T n (rn isLt T n k)))))), (oX5 t0 t1 t2 (nI w)), (aI g t1 6 pd), (aI g t2 36 wb)]) [4, 5, 3, 2, 0, 1] rfl
                    have hD := hD.sub (ws' := [(oX7 z0 y0 (nI n) (nI (rn isBl T n (rn isDg T n (rn isBl T n (rn isLt T n k))))) 1 (nI (rn isBl T n (rn isDg T n (rn isBl T n (rn isLt T n k))))) z1), (aB g y0 500 tp), (aI g z1 3 (upd nu 0 (nI (nvF T (rn isBl T n (rn isLt T n k)) (rn isDg T n (rn isBl T n (rn isLt T n k)) - rn isBl T n (rn isLt T n k)))))), (oX5 t0 t1 t2 (nI w)), (aI g t1 6 pd), (aI g t2 36 wb)]) [4, 5, 3, 2, 0, 1] (by decide) rfl
                    exact he_rz hQ hx hb hr hlk hP hD hS dX7_readPart_154 (Nat.le_of_ble_eq_true rfl) (Nat.le_of_ble_eq_true rfl) rfl (((rn isBl T n (rn isDg T n (rn isBl T n (rn isLt T n k)))), 1, nI (rn isBl T n (rn isDg T n (rn isBl T n (rn isLt T n k)))), upd nu 0 (nI (nvF T (rn isBl T n (rn isLt T n k)) (rn isDg T n (rn isBl T n (rn isLt T n k)) - rn isBl T n (rn isLt T n k)))), pd, wb)) (rfl) ((by have hP9 : ptS T n wl5 (bd5 w) (fl5 bf) k = _ := ptS_c (bd := bd5 w) hw hfl0 (nmS_s hm0 ((wi_b (lo := 0) (hx := 1000) (by (try dsimp only); decide) (by (try dsimp only); decide) (by (try dsimp only); decide) (by (try dsimp only); decide) (nv_le _ _ _)).mp hv0) rfl) hsc; exact ⟨by rw [hP9], Or.inl ⟨1, _, by rw [hP9], rfl, rfl, rfl, rfl, rfl⟩⟩))
                  refine lv_aload_n hx hb dX7_readPart_120 rfl (lv_at hl 4 rfl) ?_
                  refine va_get (v := .int (nI (rn isBl T n (rn isDg T n (rn isBl T n (rn isLt T n k)))))) (T := TX7) (N := 6) hx hb hts inX7 hown hK hP 4 rfl rfl 2 (by decide) f32 (fun _ h9 => h9) rfl dX7_readPart_121 ?_
                  refine lv_aload_n hx hb dX7_readPart_124 rfl (lv_at hl 4 rfl) ?_
                  refine va_get (v := .int (nI n)) (T := TX7) (N := 6) hx hb hts inX7 hown hK hP 4 rfl rfl 1 (by decide) f29 (fun _ h9 => h9) rfl dX7_readPart_125 ?_
                  refine lv_icmp_ge (tgt := 145) hx hb dX7_readPart_128 (by decide) (fun c_108 => ?_) (fun c_108 => ?_)
                  · have k_109 : n ≤ rn isBl T n (rn isDg T n (rn isBl T n (rn isLt T n k))) := (he_cle (a := n) (b := rn isBl T n (rn isDg T n (rn isBl T n (rn isLt T n k)))) rfl rfl (by omega) (by omega)).mp c_108
                    exact join145 () (fun h9 => absurd h9.1 (by omega)) _ _ _ hP hD hS (lv_sub hl [0, 1, 2, 3, 4, 5, 6] rfl)
                  · have k_110 : ¬ (n ≤ rn isBl T n (rn isDg T n (rn isBl T n (rn isLt T n k)))) := fun h9 => c_108 ((he_cle (a := n) (b := rn isBl T n (rn isDg T n (rn isBl T n (rn isLt T n k)))) rfl rfl (by omega) (by omega)).mpr h9)
                    refine lv_aload_n hx hb dX7_readPart_131 rfl (lv_at hl 4 rfl) ?_
                    refine va_get (v := .ref y0) (T := TX7) (N := 6) hx hb hts inX7 hown hK hP 4 rfl rfl 0 (by decide) f9 (fun _ h9 => h9) rfl dX7_readPart_132 ?_
                    refine lv_aload_n hx hb dX7_readPart_135 rfl (lv_at hl 4 rfl) ?_
                    refine va_get (v := .int (nI (rn isBl T n (rn isDg T n (rn isBl T n (rn isLt T n k)))))) (T := TX7) (N := 6) hx hb hts inX7 hown hK hP 4 rfl rfl 2 (by decide) f32 (fun _ h9 => h9) rfl dX7_readPart_136 ?_
                    refine he_bald hx hb hK hP 5 rfl (rn isBl T n (rn isDg T n (rn isBl T n (rn isLt T n k)))) rfl (by first | assumption | decide | omega) (by first | decide | assumption) (tp (rn isBl T n (rn isDg T n (rn isBl T n (rn isLt T n k))))) rfl dX7_readPart_139 ?_
                    refine lv_bipush (v := 59) hx hb dX7_readPart_140 (by decide) ?_
                    refine lv_icmp_eq (tgt := 155) hx hb dX7_readPart_142 (by decide) (fun c_111 => ?_) (fun c_111 => ?_)
                    · have hso : rn isBl T n (rn isDg T n (rn isBl T n (rn isLt T n k))) < n ∧ T (rn isBl T n (rn isDg T n (rn isBl T n (rn isLt T n k)))) = 59 := ⟨by omega, (cB (hT _ (by omega))).1.2.mp c_111⟩
                      refine lv_aload_n hx hb dX7_readPart_155 rfl (lv_at hl 4 rfl) ?_
                      refine lv_dup hx hb dX7_readPart_156 rfl ?_
                      refine va_get (v := .int (nI (rn isBl T n (rn isDg T n (rn isBl T n (rn isLt T n k)))))) (T := TX7) (N := 6) hx hb hts inX7 hown hK hP 4 rfl rfl 2 (by decide) f32 (fun _ h9 => h9) rfl dX7_readPart_157 ?_
                      refine lv_iconst (v := 1) hx hb dX7_readPart_160 (by decide) ?_
                      refine lv_iadd hx hb dX7_readPart_161 ?_
                      refine he_top (nI (rn isBl T n (rn isDg T n (rn isBl T n (rn isLt T n k))) + 1)) (nI_add (rn isBl T n (rn isDg T n (rn isBl T n (rn isLt T n k)))) 1) ?_
                      refine va_put (v := .int (nI (rn isBl T n (rn isDg T n (rn isBl T n (rn isLt T n k))) + 1))) (ty := .int) (T := TX7) (N := 6) hx hb hts inX7 tyX7 tyX7_ok nmX7 hown hK hP hD hS 4 rfl rfl 2 (by decide) f32 (fun _ h9 => h9) rfl (by decide +kernel) rfl rfl (Nat.le_of_ble_eq_true rfl) dX7_readPart_162 (fun H locs hP hD hS => ?_)
                      have hP : va_P g.1 vwCl [(aI g t1 6 pd), (aI g t2 36 wb), (oX5 t0 t1 t2 (nI w)), (aI g z1 3 (upd nu 0 (nI (nvF T (rn isBl T n (rn isLt T n k)) (rn isDg T n (rn isBl T n (rn isLt T n k)) - rn isBl T n (rn isLt T n k)))))), (oX7 z0 y0 (nI n) (nI (rn isBl T n (rn isDg T n (rn isBl T n (rn isLt T n k))) + 1)) fa pl z1), (aB g y0 500 tp)] H := hP
                      have hD : va_D A [(aI g t1 6 pd), (aI g t2 36 wb), (oX5 t0 t1 t2 (nI w)), (aI g z1 3 (upd nu 0 (nI (nvF T (rn isBl T n (rn isLt T n k)) (rn isDg T n (rn isBl T n (rn isLt T n k)) - rn isBl T n (rn isLt T n k)))))), (oX7 z0 y0 (nI n) (nI (rn isBl T n (rn isDg T n (rn isBl T n (rn isLt T n k))) + 1)) fa pl z1), (aB g y0 500 tp)] := hD
                      refine lv_aload_n hx hb dX7_readPart_165 rfl (lv_at hl 5 rfl) ?_
                      refine lv_iload hx hb dX7_readPart_166 (lv_at hl 2 rfl) ?_
                      refine lv_aload_n hx hb dX7_readPart_168 rfl (lv_at hl 4 rfl) ?_
                      refine va_get (v := .ref z1) (T := TX7) (N := 6) hx hb hts inX7 hown hK hP 4 rfl rfl 5 (by decide) f19 (fun _ h9 => h9) rfl dX7_readPart_169 ?_
                      refine he_cv (wc := [(oX5 t0 t1 t2 (nI w)), (aI g t1 6 pd), (aI g t2 36 wb), (aI g z1 3 (upd nu 0 (nI (nvF T (rn isBl T n (rn isLt T n k)) (rn isDg T n (rn isBl T n (rn isLt T n k)) - rn isBl T n (rn isLt T n k))))))]) (wr := [(oX7 z0 y0 (nI n) (nI (rn isBl T n (rn isDg T n (rn isBl T n (rn isLt T n k))) + 1)) fa pl z1), (aB g y0 500 tp)]) (va_runU (As := [.int 1, .ref z1]) (rest := []) ⟨hx, hb, hml, hown, hts⟩ (p_X5_store_1 l g t0 t1 t2 w pd wb z1 (upd nu 0 (nI (nvF T (rn isBl T n (rn isLt T n k)) (rn isDg T n (rn isBl T n (rn isLt T n k)) - rn isBl T n (rn isLt T n k))))) H.size) (va_cwA 2 hts gX7_readPart_X5_store_u83X5 rfl rfl rfl dc83 (by decide +kernel) ⟨Nat.le_of_ble_eq_true rfl, Nat.le_of_ble_eq_true rfl⟩) (he_preV (wc := [(oX5 t0 t1 t2 (nI w)), (aI g t1 6 pd), (aI g t2 36 wb), (aI g z1 3 (upd nu 0 (nI (nvF T (rn isBl T n (rn isLt T n k)) (rn isDg T n (rn isBl T n (rn isLt T n k)) - rn isBl T n (rn isLt T n k))))))]) hK hP hD hS hA hE [2, 0, 1, 3] rfl rfl 2 rfl rfl) rfl rfl hl.1 rfl (lv_room (Nat.le_of_ble_eq_true rfl)) dX7_readPart_172 ⟨(Nat.le_of_ble_eq_true rfl), (Nat.le_of_ble_eq_true rfl)⟩) hP hD hS hA [2, 0, 1, 3] [4, 5] rfl rfl rfl (by decide) (fun u_113 H locs h_114 hP hD hS => ?_)
                      have hP : va_P g.1 vwCl [(oX7 z0 y0 (nI n) (nI (rn isBl T n (rn isDg T n (rn isBl T n (rn isLt T n k))) + 1)) fa pl z1), (aB g y0 500 tp), (oX5 t0 t1 t2 (nI w)), (aI g t1 6 (upd pd 1 ((upd nu 0 (nI (nvF T (rn isBl T n (rn isLt T n k)) (rn isDg T n (rn isBl T n (rn isLt T n k)) - rn isBl T n (rn isLt T n k))))) 0))), (aI g t2 36 wb), (aI g z1 3 (upd nu 0 (nI (nvF T (rn isBl T n (rn isLt T n k)) (rn isDg T n (rn isBl T n (rn isLt T n k)) - rn isBl T n (rn isLt T n k))))))] H := hP
                      have hD : va_D A [(oX7 z0 y0 (nI n) (nI (rn isBl T n (rn isDg T n (rn isBl T n (rn isLt T n k))) + 1)) fa pl z1), (aB g y0 500 tp), (oX5 t0 t1 t2 (nI w)), (aI g t1 6 (upd pd 1 ((upd nu 0 (nI (nvF T (rn isBl T n (rn isLt T n k)) (rn isDg T n (rn isBl T n (rn isLt T n k)) - rn isBl T n (rn isLt T n k))))) 0))), (aI g t2 36 wb), (aI g z1 3 (upd nu 0 (nI (nvF T (rn isBl T n (rn isLt T n k)) (rn isDg T n (rn isBl T n (rn isLt T n k)) - rn isBl T n (rn isLt T n k))))))] := hD
                      refine lv_iconst (v := 1) hx hb dX7_readPart_175 (by decide) ?_
                      have hP := hP.sub (ws' := [(oX7 z0 y0 (nI n) (nI (rn isBl T n (rn isDg T n (rn isBl T n (rn isLt T n k))) + 1)) fa pl z1), (aB g y0 500 tp), (aI g z1 3 (upd nu 0 (nI (nvF T (rn isBl T n (rn isLt T n k)) (rn isDg T n (rn isBl T n (rn isLt T n k)) - rn isBl T n (rn isLt T n k)))))), (oX5 t0 t1 t2 (nI w)), (aI g t1 6 (upd pd 1 ((upd nu 0 (nI (nvF T (rn isBl T n (rn isLt T n k)) (rn isDg T n (rn isBl T n (rn isLt T n k)) - rn isBl T n (rn isLt T n k))))) 0))), (aI g t2 36 wb)]) [0, 1, 5, 2, 3, 4] rfl
                      have hD := hD.sub (ws' := [(oX7 z0 y0 (nI n) (nI (rn isBl T n (rn isDg T n (rn isBl T n (rn isLt T n k))) + 1)) fa pl z1), (aB g y0 500 tp), (aI g z1 3 (upd nu 0 (nI (nvF T (rn isBl T n (rn isLt T n k)) (rn isDg T n (rn isBl T n (rn isLt T n k)) - rn isBl T n (rn isLt T n k)))))), (oX5 t0 t1 t2 (nI w)), (aI g t1 6 (upd pd 1 ((upd nu 0 (nI (nvF T (rn isBl T n (rn isLt T n k)) (rn isDg T n (rn isBl T n (rn isLt T n k)) - rn isBl T n (rn isLt T n k))))) 0))), (aI g t2 36 wb)]) [0, 1, 5, 2, 3, 4] (by decide) rfl
                      exact he_rz hQ hx hb hr hlk hP hD hS dX7_readPart_176 (Nat.le_of_ble_eq_true rfl) (Nat.le_of_ble_eq_true rfl) rfl ((rn isBl T n (rn isDg T n (rn isBl T n (rn isLt T n k))) + 1, fa, pl, upd nu 0 (nI (nvF T (rn isBl T n (rn isLt T n k)) (rn isDg T n (rn isBl T n (rn isLt T n k)) - rn isBl T n (rn isLt T n k)))), upd pd 1 ((upd nu 0 (nI (nvF T (rn isBl T n (rn isLt T n k)) (rn isDg T n (rn isBl T n (rn isLt T n k)) - rn isBl T n (rn isLt T n k))))) 0), wb)) (rfl) ((by have hP9 : ptS T n wl5 (bd5 w) (fl5 bf) k = _ := ptS_o (bd := bd5 w) hw hfl0 (nmS_s hm0 ((wi_b (lo := 0) (hx := 1000) (by (try dsimp only); decide) (by (try dsimp only); decide) (by (try dsimp only); decide) (by (try dsimp only); decide) (nv_le _ _ _)).mp hv0) rfl) hso; exact ⟨by rw [hP9], Or.inr ⟨1, _, by rw [hP9], by rw [hP9], rfl, rfl, rfl, rfl, rfl⟩⟩))
                    · exact join145 () (fun h9 => c_111 ((cB (hT _ h9.1)).1.2.mpr h9.2)) _ _ _ hP hD hS (lv_sub hl [0, 1, 2, 3, 4, 5, 6] rfl)
                · exact absurd (by decide) c_101
              · exact absurd c_100 (by decide)
        · exact absurd (by decide) c_78
    · exact absurd c_65 (by decide)
  · skip
    refine lv_iload hx hb dX7_readPart_20 (lv_at hl 0 rfl) ?_
    refine lv_iconst (v := (-1)) hx hb dX7_readPart_22 (by decide) ?_
    refine lv_icmp_ne (tgt := 33) hx hb dX7_readPart_23 (by decide) (fun c_115 => ?_) (fun c_115 => ?_)
    · have join50 : ∀ (_ : Unit), (fl5 bf 2 = true) → ∀ (H : Heap) (locs : List Loc) (ls : Array Slot), va_P g.1 vwCl [(aI g z1 3 nu), (aI g t1 6 pd), (aI g t2 36 wb), (oX5 t0 t1 t2 (nI w)), (oX7 z0 y0 (nI n) (nI (rn isLt T n k)) fa pl z1), (aB g y0 500 tp)] H → va_D A [(aI g z1 3 nu), (aI g t1 6 pd), (aI g t2 36 wb), (oX5 t0 t1 t2 (nI w)), (oX7 z0 y0 (nI n) (nI (rn isLt T n k)) fa pl z1), (aB g y0 500 tp)] → va_S A s.heap H locs → lv_has ls 7 [(4, .int 2), (3, .int (nI k)), (0, .ref z0), (1, .ref t0), (2, .int (nI bf))] → W p l e (he_room 6 135 0 0) s m args below meth c H locs 0 0 Q (F0 m 50 ls []) := by
        intro _ hfl H locs ls hP hD hS hl
        refine lv_aload_n hx hb dX7_readPart_50 rfl (lv_at hl 2 rfl) ?_
        refine lv_iconst (v := 3) hx hb dX7_readPart_51 (by decide) ?_
        refine lv_iload_n hx hb dX7_readPart_52 rfl (lv_at hl 1 rfl) ?_
        refine he_ci (wc := [(oX7 z0 y0 (nI n) (nI (rn isLt T n k)) fa pl z1), (aB g y0 500 tp)]) (wr := [(aI g z1 3 nu), (aI g t1 6 pd), (aI g t2 36 wb), (oX5 t0 t1 t2 (nI w))]) (va_runV (As := [.int 3, .int (nI k)]) (rest := []) ⟨hx, hb, hml, hown, hts⟩ (g_X7_fail l g z0 z1 y0 n (rn isLt T n k) fa pl tp 3 (nI k) H.size) (cwV 2 hts gX7_readPart_X7_fail rfl rfl rfl (by decide +kernel) ⟨Nat.le_of_ble_eq_true rfl, Nat.le_of_ble_eq_true rfl⟩) (he_preV (wc := [(oX7 z0 y0 (nI n) (nI (rn isLt T n k)) fa pl z1), (aB g y0 500 tp)]) hK hP hD hS hA hE [4, 5] rfl rfl 4 rfl rfl) rfl rfl hl.1 rfl (lv_room (Nat.le_of_ble_eq_true rfl)) dX7_readPart_53 ⟨(Nat.le_of_ble_eq_true rfl), (Nat.le_of_ble_eq_true rfl)⟩) hP hD hS hA [4, 5] [0, 1, 2, 3] rfl rfl rfl (by decide) (fun r_116 u_117 H locs h_118 hP hD hS => ?_)
        subst h_118
        have hP : va_P g.1 vwCl [(aI g z1 3 nu), (aI g t1 6 pd), (aI g t2 36 wb), (oX5 t0 t1 t2 (nI w)), (oX7 z0 y0 (nI n) (nI (rn isLt T n k)) 3 (nI k) z1), (aB g y0 500 tp)] H := hP
        have hD : va_D A [(aI g z1 3 nu), (aI g t1 6 pd), (aI g t2 36 wb), (oX5 t0 t1 t2 (nI w)), (oX7 z0 y0 (nI n) (nI (rn isLt T n k)) 3 (nI k) z1), (aB g y0 500 tp)] := hD
        have hP := hP.sub (ws' := [(oX7 z0 y0 (nI n) (nI (rn isLt T n k)) 3 (nI k) z1), (aB g y0 500 tp), (aI g z1 3 nu), (oX5 t0 t1 t2 (nI w)), (aI g t1 6 pd), (aI g t2 36 wb)]) [4, 5, 0, 3, 1, 2] rfl
        have hD := hD.sub (ws' := [(oX7 z0 y0 (nI n) (nI (rn isLt T n k)) 3 (nI k) z1), (aB g y0 500 tp), (aI g z1 3 nu), (oX5 t0 t1 t2 (nI w)), (aI g t1 6 pd), (aI g t2 36 wb)]) [4, 5, 0, 3, 1, 2] (by decide) rfl
        exact he_rz hQ hx hb hr hlk hP hD hS dX7_readPart_56 (Nat.le_of_ble_eq_true rfl) (Nat.le_of_ble_eq_true rfl) rfl (((rn isLt T n k), 3, nI k, nu, pd, wb)) (rfl) ((by have hP9 : ptS T n wl5 (bd5 w) (fl5 bf) k = _ := ptS_3 hw hfl; exact ⟨by rw [hP9], Or.inl ⟨3, k, by rw [hP9], rfl, rfl, rfl, rfl, rfl⟩⟩))
      refine lv_iload_n hx hb dX7_readPart_33 rfl (lv_at hl 4 rfl) ?_
      refine lv_aload_n hx hb dX7_readPart_34 rfl (lv_at hl 3 rfl) ?_
      refine he_ci (wc := [(oX5 t0 t1 t2 (nI w))]) (wr := [(aI g z1 3 nu), (aI g t1 6 pd), (aI g t2 36 wb), (oX7 z0 y0 (nI n) (nI (rn isLt T n k)) fa pl z1), (aB g y0 500 tp)]) (va_runU (As := []) (rest := [.int (nI bf)]) ⟨hx, hb, hml, hown, hts⟩ (c_X5_mostParts l g t0 t1 t2 (nI w) H.size) (va_cwA 0 hts gX7_readPart_X5_mostParts_u38X5 rfl rfl rfl dc38 (by decide +kernel) ⟨Nat.le_of_ble_eq_true rfl, Nat.le_of_ble_eq_true rfl⟩) (he_preV (wc := [(oX5 t0 t1 t2 (nI w))]) hK hP hD hS hA hE [3] rfl rfl 3 rfl rfl) rfl rfl hl.1 rfl (lv_room (Nat.le_of_ble_eq_true rfl)) dX7_readPart_35 ⟨(Nat.le_of_ble_eq_true rfl), (Nat.le_of_ble_eq_true rfl)⟩) hP hD hS hA [3] [0, 1, 2, 4, 5] rfl rfl rfl (by decide) (fun r_119 u_120 H locs h_121 hP hD hS => ?_)
      subst h_121
      have hP : va_P g.1 vwCl [(aI g z1 3 nu), (aI g t1 6 pd), (aI g t2 36 wb), (oX7 z0 y0 (nI n) (nI (rn isLt T n k)) fa pl z1), (aB g y0 500 tp), (oX5 t0 t1 t2 (nI w))] H := hP
      have hD : va_D A [(aI g z1 3 nu), (aI g t1 6 pd), (aI g t2 36 wb), (oX7 z0 y0 (nI n) (nI (rn isLt T n k)) fa pl z1), (aB g y0 500 tp), (oX5 t0 t1 t2 (nI w))] := hD
      refine lv_icmp_ge (tgt := 50) hx hb dX7_readPart_38 (by decide) (fun c_122 => ?_) (fun c_122 => ?_)
      · have k_123 : 20 ≤ bf := (he_cle (a := 20) (b := bf) (by decide) rfl (by omega) (by omega)).mp c_122
        exact join50 () (fl5_t (by omega)) _ _ _ (hP.sub [0, 1, 2, 5, 3, 4] rfl) (hD.sub [0, 1, 2, 5, 3, 4] (by decide) rfl) hS (lv_sub hl [0, 1, 2, 3, 4] rfl)
      · have k_124 : ¬ (20 ≤ bf) := fun h9 => c_122 ((he_cle (a := 20) (b := bf) (by decide) rfl (by omega) (by omega)).mpr h9)
        refine lv_aload_n hx hb dX7_readPart_41 rfl (lv_at hl 3 rfl) ?_
        refine lv_iload hx hb dX7_readPart_42 (lv_at hl 0 rfl) ?_
        refine he_ci (wc := [(oX5 t0 t1 t2 (nI w))]) (wr := [(aI g z1 3 nu), (aI g t1 6 pd), (aI g t2 36 wb), (oX7 z0 y0 (nI n) (nI (rn isLt T n k)) fa pl z1), (aB g y0 500 tp)]) (va_runU (As := [.int 2]) (rest := []) ⟨hx, hb, hml, hown, hts⟩ (p_X5_isFull l g t0 t1 t2 w 2 H.size) (va_cwA 1 hts gX7_readPart_X5_isFull_u66X5 rfl rfl rfl dc66 (by decide +kernel) ⟨Nat.le_of_ble_eq_true rfl, Nat.le_of_ble_eq_true rfl⟩) (he_preV (wc := [(oX5 t0 t1 t2 (nI w))]) hK hP hD hS hA hE [5] rfl rfl 5 rfl rfl) rfl rfl hl.1 rfl (lv_room (Nat.le_of_ble_eq_true rfl)) dX7_readPart_44 ⟨(Nat.le_of_ble_eq_true rfl), (Nat.le_of_ble_eq_true rfl)⟩) hP hD hS hA [5] [0, 1, 2, 3, 4] rfl rfl rfl (by decide) (fun r_125 u_126 H locs h_127 hP hD hS => ?_)
        subst h_127
        have hP : va_P g.1 vwCl [(aI g z1 3 nu), (aI g t1 6 pd), (aI g t2 36 wb), (oX7 z0 y0 (nI n) (nI (rn isLt T n k)) fa pl z1), (aB g y0 500 tp), (oX5 t0 t1 t2 (nI w))] H := hP
        have hD : va_D A [(aI g z1 3 nu), (aI g t1 6 pd), (aI g t2 36 wb), (oX7 z0 y0 (nI n) (nI (rn isLt T n k)) fa pl z1), (aB g y0 500 tp), (oX5 t0 t1 t2 (nI w))] := hD
        refine lv_if_eq (tgt := 57) hx hb dX7_readPart_47 (by decide) (fun c_128 => ?_) (fun c_128 => ?_)
        · have hfl0 : fl5 bf 2 = false := fl5_f (fun h9 => by omega)
          refine lv_aload_n hx hb dX7_readPart_57 rfl (lv_at hl 3 rfl) ?_
          refine lv_iload hx hb dX7_readPart_58 (lv_at hl 0 rfl) ?_
          refine he_ci (wc := [(oX5 t0 t1 t2 (nI w))]) (wr := [(aI g z1 3 nu), (aI g t1 6 pd), (aI g t2 36 wb), (oX7 z0 y0 (nI n) (nI (rn isLt T n k)) fa pl z1), (aB g y0 500 tp)]) (va_runU (As := [.int 2]) (rest := []) ⟨hx, hb, hml, hown, hts⟩ (p_X5_numbers_2 l g t0 t1 t2 w H.size) (va_cwA 1 hts gX7_readPart_X5_numbers_u70X5 rfl rfl rfl dc70 (by decide +kernel) ⟨Nat.le_of_ble_eq_true rfl, Nat.le_of_ble_eq_true rfl⟩) (he_preV (wc := [(oX5 t0 t1 t2 (nI w))]) hK hP hD hS hA hE [5] rfl rfl 5 rfl rfl) rfl rfl hl.1 rfl (lv_room (Nat.le_of_ble_eq_true rfl)) dX7_readPart_60 ⟨(Nat.le_of_ble_eq_true rfl), (Nat.le_of_ble_eq_true rfl)⟩) hP hD hS hA [5] [0, 1, 2, 3, 4] rfl rfl rfl (by decide) (fun r_129 u_130 H locs h_131 hP hD hS => ?_)
          subst h_131
          have hP : va_P g.1 vwCl [(aI g z1 3 nu), (aI g t1 6 pd), (aI g t2 36 wb), (oX7 z0 y0 (nI n) (nI (rn isLt T n k)) fa pl z1), (aB g y0 500 tp), (oX5 t0 t1 t2 (nI w))] H := hP
          have hD : va_D A [(aI g z1 3 nu), (aI g t1 6 pd), (aI g t2 36 wb), (oX7 z0 y0 (nI n) (nI (rn isLt T n k)) fa pl z1), (aB g y0 500 tp), (oX5 t0 t1 t2 (nI w))] := hD
          refine lv_aload_n hx hb dX7_readPart_63 rfl (lv_at hl 2 rfl) ?_
          refine va_get (v := .ref z1) (T := TX7) (N := 6) hx hb hts inX7 hown hK hP 3 rfl rfl 5 (by decide) f19 (fun _ h9 => h9) rfl dX7_readPart_64 ?_
          refine va_alen (v := 3) hx hb hK hP 0 1 rfl rfl rfl dX7_readPart_67 ?_
          refine va_mmin hx hb (by rw [hml]; exact hl.1.symm) hown ml23 msmin mi mcmin (by decide) (Nat.le_of_ble_eq_true rfl) (Nat.le_of_ble_eq_true rfl) (Nat.le_of_ble_eq_true rfl) dX7_readPart_68 ?_
          refine he_top (1) (by decide) ?_
          refine lv_istore (lv' := [(5, .int 1), (4, .int 2), (3, .int (nI k)), (0, .ref z0), (1, .ref t0), (2, .int (nI bf))]) hx hb dX7_readPart_71 hl (by decide) rfl (fun ls hl => ?_)
          refine lv_iconst (v := 0) hx hb dX7_readPart_73 (by decide) ?_
          refine lv_istore (lv' := [(6, .int 0), (5, .int 1), (4, .int 2), (3, .int (nI k)), (0, .ref z0), (1, .ref t0), (2, .int (nI bf))]) hx hb dX7_readPart_74 hl (by decide) rfl (fun ls hl => ?_)
          refine lv_iload hx hb dX7_readPart_76 (lv_at hl 0 rfl) ?_
          refine lv_iload hx hb dX7_readPart_78 (lv_at hl 1 rfl) ?_
          refine lv_icmp_ge (tgt := 116) hx hb dX7_readPart_80 (by decide) (fun c_132 => ?_) (fun c_132 => ?_)
          · exact absurd c_132 (by decide)
          · refine lv_aload_n hx hb dX7_readPart_83 rfl (lv_at hl 4 rfl) ?_
            refine lv_iload hx hb dX7_readPart_84 (lv_at hl 0 rfl) ?_
            refine lv_aload_n hx hb dX7_readPart_86 rfl (lv_at hl 5 rfl) ?_
            refine lv_iload hx hb dX7_readPart_87 (lv_at hl 2 rfl) ?_
            refine lv_iload hx hb dX7_readPart_89 (lv_at hl 0 rfl) ?_
            refine he_ci (wc := [(oX5 t0 t1 t2 (nI w))]) (wr := [(aI g z1 3 nu), (aI g t1 6 pd), (aI g t2 36 wb), (oX7 z0 y0 (nI n) (nI (rn isLt T n k)) fa pl z1), (aB g y0 500 tp)]) (va_runU (As := [.int 2, .int 0]) (rest := [.int 0, .ref z0]) ⟨hx, hb, hml, hown, hts⟩ (p_X5_low_2_0 l g t0 t1 t2 w H.size) (va_cwA 2 hts gX7_readPart_X5_low_u73X5 rfl rfl rfl dc73 (by decide +kernel) ⟨Nat.le_of_ble_eq_true rfl, Nat.le_of_ble_eq_true rfl⟩) (he_preV (wc := [(oX5 t0 t1 t2 (nI w))]) hK hP hD hS hA hE [5] rfl rfl 5 rfl rfl) rfl rfl hl.1 rfl (lv_room (Nat.le_of_ble_eq_true rfl)) dX7_readPart_91 ⟨(Nat.le_of_ble_eq_true rfl), (Nat.le_of_ble_eq_true rfl)⟩) hP hD hS hA [5] [0, 1, 2, 3, 4] rfl rfl rfl (by decide) (fun r_133 u_134 H locs h_135 hP hD hS => ?_)
            subst h_135
            have hP : va_P g.1 vwCl [(aI g z1 3 nu), (aI g t1 6 pd), (aI g t2 36 wb), (oX7 z0 y0 (nI n) (nI (rn isLt T n k)) fa pl z1), (aB g y0 500 tp), (oX5 t0 t1 t2 (nI w))] H := hP
            have hD : va_D A [(aI g z1 3 nu), (aI g t1 6 pd), (aI g t2 36 wb), (oX7 z0 y0 (nI n) (nI (rn isLt T n k)) fa pl z1), (aB g y0 500 tp), (oX5 t0 t1 t2 (nI w))] := hD
            refine lv_aload_n hx hb dX7_readPart_94 rfl (lv_at hl 5 rfl) ?_
            refine lv_iload hx hb dX7_readPart_95 (lv_at hl 2 rfl) ?_
            refine lv_iload hx hb dX7_readPart_97 (lv_at hl 0 rfl) ?_
            refine he_ci (wc := [(oX5 t0 t1 t2 (nI w))]) (wr := [(aI g z1 3 nu), (aI g t1 6 pd), (aI g t2 36 wb), (oX7 z0 y0 (nI n) (nI (rn isLt T n k)) fa pl z1), (aB g y0 500 tp)]) (va_runU (As := [.int 2, .int 0]) (rest := [.int 0, .int 0, .ref z0]) ⟨hx, hb, hml, hown, hts⟩ (p_X5_high_2_0 l g t0 t1 t2 w H.size) (va_cwA 2 hts gX7_readPart_X5_high_u76X5 rfl rfl rfl dc76 (by decide +kernel) ⟨Nat.le_of_ble_eq_true rfl, Nat.le_of_ble_eq_true rfl⟩) (he_preV (wc := [(oX5 t0 t1 t2 (nI w))]) hK hP hD hS hA hE [5] rfl rfl 5 rfl rfl) rfl rfl hl.1 rfl (lv_room (Nat.le_of_ble_eq_true rfl)) dX7_readPart_99 ⟨(Nat.le_of_ble_eq_true rfl), (Nat.le_of_ble_eq_true rfl)⟩) hP hD hS hA [5] [0, 1, 2, 3, 4] rfl rfl rfl (by decide) (fun r_136 u_137 H locs h_138 hP hD hS => ?_)
            subst h_138
            have hP : va_P g.1 vwCl [(aI g z1 3 nu), (aI g t1 6 pd), (aI g t2 36 wb), (oX7 z0 y0 (nI n) (nI (rn isLt T n k)) fa pl z1), (aB g y0 500 tp), (oX5 t0 t1 t2 (nI w))] H := hP
            have hD : va_D A [(aI g z1 3 nu), (aI g t1 6 pd), (aI g t2 36 wb), (oX7 z0 y0 (nI n) (nI (rn isLt T n k)) fa pl z1), (aB g y0 500 tp), (oX5 t0 t1 t2 (nI w))] := hD
            refine he_ci (wc := [(oX7 z0 y0 (nI n) (nI (rn isLt T n k)) fa pl z1), (aB g y0 500 tp), (aI g z1 3 nu)]) (wr := [(aI g t1 6 pd), (aI g t2 36 wb), (oX5 t0 t1 t2 (nI w))]) (va_runV (As := [.int 0, .int 0, .int 9]) (rest := []) ⟨hx, hb, hml, hown, hts⟩ (p_X7_readNumber l g z0 z1 y0 n (rn isLt T n k) fa pl tp T nu 0 0 9 (by have h0 := rn_le (P := isLt) (T := T) hk; exact h0) (by first | assumption | decide | omega) (by first | assumption | decide | omega) (by decide) H.size) (cwV 3 hts gX7_readPart_X7_readNumber rfl rfl rfl (by decide +kernel) ⟨Nat.le_of_ble_eq_true rfl, Nat.le_of_ble_eq_true rfl⟩) (he_preV (wc := [(oX7 z0 y0 (nI n) (nI (rn isLt T n k)) fa pl z1), (aB g y0 500 tp), (aI g z1 3 nu)]) hK hP hD hS hA hE [3, 4, 0] rfl rfl 3 rfl rfl) rfl rfl hl.1 rfl (lv_room (Nat.le_of_ble_eq_true rfl)) dX7_readPart_102 ⟨(Nat.le_of_ble_eq_true rfl), (Nat.le_of_ble_eq_true rfl)⟩) hP hD hS hA [3, 4, 0] [1, 2, 5] rfl rfl rfl (by decide) (fun r_139 u_140 H locs h_141 hP hD hS => ?_)
            obtain ⟨k2_142, fb_143, pb_144, nv_145⟩ := u_140
            try dsimp only at h_141
            obtain ⟨hf_146, hf_147⟩ := h_141
            have hP : va_P g.1 vwCl [(aI g t1 6 pd), (aI g t2 36 wb), (oX5 t0 t1 t2 (nI w)), (oX7 z0 y0 (nI n) (nI k2_142) fb_143 pb_144 z1), (aB g y0 500 tp), (aI g z1 3 nv_145)] H := hP
            have hD : va_D A [(aI g t1 6 pd), (aI g t2 36 wb), (oX5 t0 t1 t2 (nI w)), (oX7 z0 y0 (nI n) (nI k2_142) fb_143 pb_144 z1), (aB g y0 500 tp), (aI g z1 3 nv_145)] := hD
            have hk2 := hf_146
            rcases hf_147 with ⟨hm0, hr9, hf9, hp9, hn9⟩ | ⟨hm0, hv0, hr9, hf9, hp9, hn9⟩ | ⟨hm0, hv0, hr9, hf9, hp9, hn9⟩
            · subst k2_142 r_139 fb_143 pb_144 nv_145
              have hP : va_P g.1 vwCl [(aI g t1 6 pd), (aI g t2 36 wb), (oX5 t0 t1 t2 (nI w)), (oX7 z0 y0 (nI n) (nI (rn isDg T n (rn isBl T n (rn isLt T n k)))) 1 (nI (rn isBl T n (rn isLt T n k))) z1), (aB g y0 500 tp), (aI g z1 3 nu)] H := hP
              have hD : va_D A [(aI g t1 6 pd), (aI g t2 36 wb), (oX5 t0 t1 t2 (nI w)), (oX7 z0 y0 (nI n) (nI (rn isDg T n (rn isBl T n (rn isLt T n k)))) 1 (nI (rn isBl T n (rn isLt T n k))) z1), (aB g y0 500 tp), (aI g z1 3 nu)] := hD
              refine lv_if_ne (tgt := 110) hx hb dX7_readPart_105 (by decide) (fun c_148 => ?_) (fun c_148 => ?_)
              · exact absurd (by decide) c_148
              · refine lv_iconst (v := 0) hx hb dX7_readPart_108 (by decide) ?_
                have hP := hP.sub (ws' := [(oX7 z0 y0 (nI n) (nI (rn isDg T n (rn isBl T n (rn isLt T n k)))) 1 (nI (rn isBl T n (rn isLt T n k))) z1), (aB g y0 500 tp), (aI g z1 3 nu), (oX5 t0 t1 t2 (nI w)), (aI g t1 6 pd), (aI g t2 36 wb)]) [3, 4, 5, 2, 0, 1] rfl
                have hD := hD.sub (ws' := [(oX7 z0 y0 (nI n) (nI (rn isDg T n (rn isBl T n (rn isLt T n k)))) 1 (nI (rn isBl T n (rn isLt T n k))) z1), (aB g y0 500 tp), (aI g z1 3 nu), (oX5 t0 t1 t2 (nI w)), (aI g t1 6 pd), (aI g t2 36 wb)]) [3, 4, 5, 2, 0, 1] (by decide) rfl
                exact he_rz hQ hx hb hr hlk hP hD hS dX7_readPart_109 (Nat.le_of_ble_eq_true rfl) (Nat.le_of_ble_eq_true rfl) rfl (((rn isDg T n (rn isBl T n (rn isLt T n k))), 1, nI (rn isBl T n (rn isLt T n k)), nu, pd, wb)) (rfl) ((by have hP9 : ptS T n wl5 (bd5 w) (fl5 bf) k = _ := ptS_f (bd := bd5 w) hw hfl0 (nmS_1 hm0); exact ⟨by rw [hP9], Or.inl ⟨1, _, by rw [hP9], rfl, rfl, rfl, rfl, rfl⟩⟩))
            · subst k2_142 r_139 fb_143 pb_144 nv_145
              have hP : va_P g.1 vwCl [(aI g t1 6 pd), (aI g t2 36 wb), (oX5 t0 t1 t2 (nI w)), (oX7 z0 y0 (nI n) (nI (rn isDg T n (rn isBl T n (rn isLt T n k)))) 2 (nI (rn isBl T n (rn isLt T n k))) z1), (aB g y0 500 tp), (aI g z1 3 nu)] H := hP
              have hD : va_D A [(aI g t1 6 pd), (aI g t2 36 wb), (oX5 t0 t1 t2 (nI w)), (oX7 z0 y0 (nI n) (nI (rn isDg T n (rn isBl T n (rn isLt T n k)))) 2 (nI (rn isBl T n (rn isLt T n k))) z1), (aB g y0 500 tp), (aI g z1 3 nu)] := hD
              refine lv_if_ne (tgt := 110) hx hb dX7_readPart_105 (by decide) (fun c_149 => ?_) (fun c_149 => ?_)
              · exact absurd (by decide) c_149
              · refine lv_iconst (v := 0) hx hb dX7_readPart_108 (by decide) ?_
                have hP := hP.sub (ws' := [(oX7 z0 y0 (nI n) (nI (rn isDg T n (rn isBl T n (rn isLt T n k)))) 2 (nI (rn isBl T n (rn isLt T n k))) z1), (aB g y0 500 tp), (aI g z1 3 nu), (oX5 t0 t1 t2 (nI w)), (aI g t1 6 pd), (aI g t2 36 wb)]) [3, 4, 5, 2, 0, 1] rfl
                have hD := hD.sub (ws' := [(oX7 z0 y0 (nI n) (nI (rn isDg T n (rn isBl T n (rn isLt T n k)))) 2 (nI (rn isBl T n (rn isLt T n k))) z1), (aB g y0 500 tp), (aI g z1 3 nu), (oX5 t0 t1 t2 (nI w)), (aI g t1 6 pd), (aI g t2 36 wb)]) [3, 4, 5, 2, 0, 1] (by decide) rfl
                exact he_rz hQ hx hb hr hlk hP hD hS dX7_readPart_109 (Nat.le_of_ble_eq_true rfl) (Nat.le_of_ble_eq_true rfl) rfl (((rn isDg T n (rn isBl T n (rn isLt T n k))), 2, nI (rn isBl T n (rn isLt T n k)), nu, pd, wb)) (rfl) ((by have hP9 : ptS T n wl5 (bd5 w) (fl5 bf) k = _ := ptS_f (bd := bd5 w) hw hfl0 (nmS_2 hm0 (fun h9 => absurd hv0 ((wi_b (lo := 0) (hx := 10) (by (try dsimp only); decide) (by (try dsimp only); decide) (by (try dsimp only); decide) (by (try dsimp only); decide) (nv_le _ _ _)).mpr h9))); exact ⟨by rw [hP9], Or.inl ⟨2, _, by rw [hP9], rfl, rfl, rfl, rfl, rfl⟩⟩))
            · subst k2_142 r_139 fb_143 pb_144 nv_145
              have hP : va_P g.1 vwCl [(aI g t1 6 pd), (aI g t2 36 wb), (oX5 t0 t1 t2 (nI w)), (oX7 z0 y0 (nI n) (nI (rn isDg T n (rn isBl T n (rn isLt T n k)))) fa pl z1), (aB g y0 500 tp), (aI g z1 3 (upd nu 0 (nI (nvF T (rn isBl T n (rn isLt T n k)) (rn isDg T n (rn isBl T n (rn isLt T n k)) - rn isBl T n (rn isLt T n k))))))] H := hP
              have hD : va_D A [(aI g t1 6 pd), (aI g t2 36 wb), (oX5 t0 t1 t2 (nI w)), (oX7 z0 y0 (nI n) (nI (rn isDg T n (rn isBl T n (rn isLt T n k)))) fa pl z1), (aB g y0 500 tp), (aI g z1 3 (upd nu 0 (nI (nvF T (rn isBl T n (rn isLt T n k)) (rn isDg T n (rn isBl T n (rn isLt T n k)) - rn isBl T n (rn isLt T n k))))))] := hD
              refine lv_if_ne (tgt := 110) hx hb dX7_readPart_105 (by decide) (fun c_150 => ?_) (fun c_150 => ?_)
              · refine lv_iinc (v := 1) (lv' := [(6, .int 1), (5, .int 1), (4, .int 2), (3, .int (nI k)), (0, .ref z0), (1, .ref t0), (2, .int (nI bf))]) hx hb dX7_readPart_110 hl (k := 0) rfl (by decide) (by decide) rfl (fun ls hl => ?_)
                refine lv_goto (tgt := 76) hx hb dX7_readPart_113 (by decide) ?_
                refine lv_iload hx hb dX7_readPart_76 (lv_at hl 0 rfl) ?_
                refine lv_iload hx hb dX7_readPart_78 (lv_at hl 1 rfl) ?_
                refine lv_icmp_ge (tgt := 116) hx hb dX7_readPart_80 (by decide) (fun c_151 => ?_) (fun c_151 => ?_)
                · refine lv_aload_n hx hb dX7_readPart_116 rfl (lv_at hl 4 rfl) ?_
                  refine he_cv (wc := [(oX7 z0 y0 (nI n) (nI (rn isDg T n (rn isBl T n (rn isLt T n k)))) fa pl z1), (aB g y0 500 tp)]) (wr := [(aI g t1 6 pd), (aI g t2 36 wb), (oX5 t0 t1 t2 (nI w)), (aI g z1 3 (upd nu 0 (nI (nvF T (rn isBl T n (rn isLt T n k)) (rn isDg T n (rn isBl T n (rn isLt T n k)) - rn isBl T n (rn isLt T n k))))))]) (va_runV (As := []) (rest := []) ⟨hx, hb, hml, hown, hts⟩ (p_X7_skipBlanks l g z0 z1 y0 n (rn isDg T n (rn isBl T n (rn isLt T n k))) fa pl tp T (by have h0 := rn_le (P := isLt) (T := T) hk; exact (rn_le (rn_le h0))) (by first | assumption | decide | omega) (by first | assumption | decide | omega) H.size) (cwV 0 hts gX7_readPart_X7_skipBlanks rfl rfl rfl (by decide +kernel) ⟨Nat.le_of_ble_eq_true rfl, Nat.le_of_ble_eq_true rfl⟩) (he_preV (wc := [(oX7 z0 y0 (nI n) (nI (rn isDg T n (rn isBl T n (rn isLt T n k)))) fa pl z1), (aB g y0 500 tp)]) hK hP hD hS hA hE [3, 4] rfl rfl 3 rfl rfl) rfl rfl hl.1 rfl (lv_room (Nat.le_of_ble_eq_true rfl)) dX7_readPart_117 ⟨(Nat.le_of_ble_eq_true rfl), (Nat.le_of_ble_eq_true rfl)⟩) hP hD hS hA [3, 4] [0, 1, 2, 5] rfl rfl rfl (by decide) (fun u_153 H locs h_154 hP hD hS => ?_)
                  have hP : va_P g.1 vwCl [(aI g t1 6 pd), (aI g t2 36 wb), (oX5 t0 t1 t2 (nI w)), (aI g z1 3 (upd nu 0 (nI (nvF T (rn isBl T n (rn isLt T n k)) (rn isDg T n (rn isBl T n (rn isLt T n k)) - rn isBl T n (rn isLt T n k)))))), (oX7 z0 y0 (nI n) (nI (rn isBl T n (rn isDg T n (rn isBl T n (rn isLt T n k))))) fa pl z1), (aB g y0 500 tp)] H := hP
                  have hD : va_D A [(aI g t1 6 pd), (aI g t2 36 wb), (oX5 t0 t1 t2 (nI w)), (aI g z1 3 (upd nu 0 (nI (nvF T (rn isBl T n (rn isLt T n k)) (rn isDg T n (rn isBl T n (rn isLt T n k)) - rn isBl T n (rn isLt T n k)))))), (oX7 z0 y0 (nI n) (nI (rn isBl T n (rn isDg T n (rn isBl T n (rn isLt T n k))))) fa pl z1), (aB g y0 500 tp)] := hD
                  have hAt : rn isBl T n (rn isDg T n (rn isBl T n (rn isLt T n k))) ≤ n := by have h0 := rn_le (P := isLt) (T := T) hk; exact rn_le (rn_le (rn_le h0))
                  have join145 : ∀ (_ : Unit), (¬ (rn isBl T n (rn isDg T n (rn isBl T n (rn isLt T n k))) < n ∧ T (rn isBl T n (rn isDg T n (rn isBl T n (rn isLt T n k)))) = 59)) → ∀ (H : Heap) (locs : List Loc) (ls : Array Slot), va_P g.1 vwCl [(aI g t1 6 pd), (aI g t2 36 wb), (oX5 t0 t1 t2 (nI w)), (aI g z1 3 (upd nu 0 (nI (nvF T (rn isBl T n (rn isLt T n k)) (rn isDg T n (rn isBl T n (rn isLt T n k)) - rn isBl T n (rn isLt T n k)))))), (oX7 z0 y0 (nI n) (nI (rn isBl T n (rn isDg T n (rn isBl T n (rn isLt T n k))))) fa pl z1), (aB g y0 500 tp)] H → va_D A [(aI g t1 6 pd), (aI g t2 36 wb), (oX5 t0 t1 t2 (nI w)), (aI g z1 3 (upd nu 0 (nI (nvF T (rn isBl T n (rn isLt T n k)) (rn isDg T n (rn isBl T n (rn isLt T n k)) - rn isBl T n (rn isLt T n k)))))), (oX7 z0 y0 (nI n) (nI (rn isBl T n (rn isDg T n (rn isBl T n (rn isLt T n k))))) fa pl z1), (aB g y0 500 tp)] → va_S A s.heap H locs → lv_has ls 7 [(6, .int 1), (5, .int 1), (4, .int 2), (3, .int (nI k)), (0, .ref z0), (1, .ref t0), (2, .int (nI bf))] → W p l e (he_room 6 135 0 0) s m args below meth c H locs 0 0 Q (F0 m 145 ls []) := by
                    intro _ hsc H locs ls hP hD hS hl
                    refine lv_aload_n hx hb dX7_readPart_145 rfl (lv_at hl 4 rfl) ?_
                    refine lv_iconst (v := 1) hx hb dX7_readPart_146 (by decide) ?_
                    refine lv_aload_n hx hb dX7_readPart_147 rfl (lv_at hl 4 rfl) ?_
                    refine va_get (v := .int (nI (rn isBl T n (rn isDg T n (rn isBl T n (rn isLt T n k)))))) (T := TX7) (N := 6) hx hb hts inX7 hown hK hP 4 rfl rfl 2 (by decide) f32 (fun _ h9 => h9) rfl dX7_readPart_148 ?_
                    refine he_ci (wc := [(oX7 z0 y0 (nI n) (nI (rn isBl T n (rn isDg T n (rn isBl T n (rn isLt T n k))))) fa pl z1), (aB g y0 500 tp)]) (wr := [(aI g t1 6 pd), (aI g t2 36 wb), (oX5 t0 t1 t2 (nI w)), (aI g z1 3 (upd nu 0 (nI (nvF T (rn isBl T n (rn isLt T n k)) (rn isDg T n (rn isBl T n (rn isLt T n k)) - rn isBl T n (rn isLt T n k))))))]) (va_runV (As := [.int 1, .int (nI (rn isBl T n (rn isDg T n (rn isBl T n (rn isLt T n k)))))]) (rest := []) ⟨hx, hb, hml, hown, hts⟩ (g_X7_fail l g z0 z1 y0 n (rn isBl T n (rn isDg T n (rn isBl T n (rn isLt T n k)))) fa pl tp 1 (nI (rn isBl T n (rn isDg T n (rn isBl T n (rn isLt T n k))))) H.size) (cwV 2 hts gX7_readPart_X7_fail rfl rfl rfl (by decide +kernel) ⟨Nat.le_of_ble_eq_true rfl, Nat.le_of_ble_eq_true rfl⟩) (he_preV (wc := [(oX7 z0 y0 (nI n) (nI (rn isBl T n (rn isDg T n (rn isBl T n (rn isLt T n k))))) fa pl z1), (aB g y0 500 tp)]) hK hP hD hS hA hE [4, 5] rfl rfl 4 rfl rfl) rfl rfl hl.1 rfl (lv_room (Nat.le_of_ble_eq_true rfl)) dX7_readPart_151 ⟨(Nat.le_of_ble_eq_true rfl), (Nat.le_of_ble_eq_true rfl)⟩) hP hD hS hA [4, 5] [0, 1, 2, 3] rfl rfl rfl (by decide) (fun r_155 u_156 H locs h_157 hP hD hS => ?_)
                    subst h_157
                    have hP : va_P g.1 vwCl [(aI g t1 6 pd), (aI g t2 36 wb), (oX5 t0 t1 t2 (nI w)), (aI g z1 3 (upd nu 0 (nI (nvF T (rn isBl T n (rn isLt T n k)) (rn isDg T n (rn isBl T n (rn isLt T n k)) - rn isBl T n (rn isLt T n k)))))), (oX7 z0 y0 (nI n) (nI (rn isBl T n (rn isDg T n (rn isBl T n (rn isLt T n k))))) 1 (nI (rn isBl T n (rn isDg T n (rn isBl T n (rn isLt T n k))))) z1), (aB g y0 500 tp)] H := hP
                    have hD : va_D A [(aI g t1 6 pd), (aI g t2 36 wb), (oX5 t0 t1 t2 (nI w)), (aI g z1 3 (upd nu 0 (nI (nvF T (rn isBl T n (rn isLt T n k)) (rn isDg T n (rn isBl T n (rn isLt T n k)) - rn isBl T n (rn isLt T n k)))))), (oX7 z0 y0 (nI n) (nI (rn isBl T n (rn isDg T n (rn isBl T n (rn isLt T n k))))) 1 (nI (rn isBl T n (rn isDg T n (rn isBl T n (rn isLt T n k))))) z1), (aB g y0 500 tp)] := hD
                    have hP := hP.sub (ws' := [(oX7 z0 y0 (nI n) (nI (rn isBl T n (rn isDg T n (rn isBl T n (rn isLt T n k))))) 1 (nI (rn isBl T n (rn isDg T n (rn isBl T n (rn isLt T n k))))) z1), (aB g y0 500 tp), (aI g z1 3 (upd nu 0 (nI (nvF T (rn isBl T n (rn isLt T n k)) (rn isDg T n (rn isBl T n (rn isLt T n k)) - rn isBl T n (rn isLt T n k)))))), (oX5 t0 t1 t2 (nI w)), (aI g t1 6 pd), (aI g t2 36 wb)]) [4, 5, 3, 2, 0, 1] rfl
                    have hD := hD.sub (ws' := [(oX7 z0 y0 (nI n) (nI (rn isBl T n (rn isDg T n (rn isBl T n (rn isLt T n k))))) 1 (nI (rn isBl T n (rn isDg T n (rn isBl T n (rn isLt T n k))))) z1), (aB g y0 500 tp), (aI g z1 3 (upd nu 0 (nI (nvF T (rn isBl T n (rn isLt T n k)) (rn isDg T n (rn isBl T n (rn isLt T n k)) - rn isBl T n (rn isLt T n k)))))), (oX5 t0 t1 t2 (nI w)), (aI g t1 6 pd), (aI g t2 36 wb)]) [4, 5, 3, 2, 0, 1] (by decide) rfl
                    exact he_rz hQ hx hb hr hlk hP hD hS dX7_readPart_154 (Nat.le_of_ble_eq_true rfl) (Nat.le_of_ble_eq_true rfl) rfl (((rn isBl T n (rn isDg T n (rn isBl T n (rn isLt T n k)))), 1, nI (rn isBl T n (rn isDg T n (rn isBl T n (rn isLt T n k)))), upd nu 0 (nI (nvF T (rn isBl T n (rn isLt T n k)) (rn isDg T n (rn isBl T n (rn isLt T n k)) - rn isBl T n (rn isLt T n k)))), pd, wb)) (rfl) ((by have hP9 : ptS T n wl5 (bd5 w) (fl5 bf) k = _ := ptS_c (bd := bd5 w) hw hfl0 (nmS_s hm0 ((wi_b (lo := 0) (hx := 10) (by (try dsimp only); decide) (by (try dsimp only); decide) (by (try dsimp only); decide) (by (try dsimp only); decide) (nv_le _ _ _)).mp hv0) rfl) hsc; exact ⟨by rw [hP9], Or.inl ⟨1, _, by rw [hP9], rfl, rfl, rfl, rfl, rfl⟩⟩))
                  refine lv_aload_n hx hb dX7_readPart_120 rfl (lv_at hl 4 rfl) ?_
                  refine va_get (v := .int (nI (rn isBl T n (rn isDg T n (rn isBl T n (rn isLt T n k)))))) (T := TX7) (N := 6) hx hb hts inX7 hown hK hP 4 rfl rfl 2 (by decide) f32 (fun _ h9 => h9) rfl dX7_readPart_121 ?_
                  refine lv_aload_n hx hb dX7_readPart_124 rfl (lv_at hl 4 rfl) ?_
                  refine va_get (v := .int (nI n)) (T := TX7) (N := 6) hx hb hts inX7 hown hK hP 4 rfl rfl 1 (by decide) f29 (fun _ h9 => h9) rfl dX7_readPart_125 ?_
                  refine lv_icmp_ge (tgt := 145) hx hb dX7_readPart_128 (by decide) (fun c_158 => ?_) (fun c_158 => ?_)
                  · have k_159 : n ≤ rn isBl T n (rn isDg T n (rn isBl T n (rn isLt T n k))) := (he_cle (a := n) (b := rn isBl T n (rn isDg T n (rn isBl T n (rn isLt T n k)))) rfl rfl (by omega) (by omega)).mp c_158
                    exact join145 () (fun h9 => absurd h9.1 (by omega)) _ _ _ hP hD hS (lv_sub hl [0, 1, 2, 3, 4, 5, 6] rfl)
                  · have k_160 : ¬ (n ≤ rn isBl T n (rn isDg T n (rn isBl T n (rn isLt T n k)))) := fun h9 => c_158 ((he_cle (a := n) (b := rn isBl T n (rn isDg T n (rn isBl T n (rn isLt T n k)))) rfl rfl (by omega) (by omega)).mpr h9)
                    refine lv_aload_n hx hb dX7_readPart_131 rfl (lv_at hl 4 rfl) ?_
                    refine va_get (v := .ref y0) (T := TX7) (N := 6) hx hb hts inX7 hown hK hP 4 rfl rfl 0 (by decide) f9 (fun _ h9 => h9) rfl dX7_readPart_132 ?_
                    refine lv_aload_n hx hb dX7_readPart_135 rfl (lv_at hl 4 rfl) ?_
                    refine va_get (v := .int (nI (rn isBl T n (rn isDg T n (rn isBl T n (rn isLt T n k)))))) (T := TX7) (N := 6) hx hb hts inX7 hown hK hP 4 rfl rfl 2 (by decide) f32 (fun _ h9 => h9) rfl dX7_readPart_136 ?_
                    refine he_bald hx hb hK hP 5 rfl (rn isBl T n (rn isDg T n (rn isBl T n (rn isLt T n k)))) rfl (by first | assumption | decide | omega) (by first | decide | assumption) (tp (rn isBl T n (rn isDg T n (rn isBl T n (rn isLt T n k))))) rfl dX7_readPart_139 ?_
                    refine lv_bipush (v := 59) hx hb dX7_readPart_140 (by decide) ?_
                    refine lv_icmp_eq (tgt := 155) hx hb dX7_readPart_142 (by decide) (fun c_161 => ?_) (fun c_161 => ?_)
                    · have hso : rn isBl T n (rn isDg T n (rn isBl T n (rn isLt T n k))) < n ∧ T (rn isBl T n (rn isDg T n (rn isBl T n (rn isLt T n k)))) = 59 := ⟨by omega, (cB (hT _ (by omega))).1.2.mp c_161⟩
                      refine lv_aload_n hx hb dX7_readPart_155 rfl (lv_at hl 4 rfl) ?_
                      refine lv_dup hx hb dX7_readPart_156 rfl ?_
                      refine va_get (v := .int (nI (rn isBl T n (rn isDg T n (rn isBl T n (rn isLt T n k)))))) (T := TX7) (N := 6) hx hb hts inX7 hown hK hP 4 rfl rfl 2 (by decide) f32 (fun _ h9 => h9) rfl dX7_readPart_157 ?_
                      refine lv_iconst (v := 1) hx hb dX7_readPart_160 (by decide) ?_
                      refine lv_iadd hx hb dX7_readPart_161 ?_
                      refine he_top (nI (rn isBl T n (rn isDg T n (rn isBl T n (rn isLt T n k))) + 1)) (nI_add (rn isBl T n (rn isDg T n (rn isBl T n (rn isLt T n k)))) 1) ?_
                      refine va_put (v := .int (nI (rn isBl T n (rn isDg T n (rn isBl T n (rn isLt T n k))) + 1))) (ty := .int) (T := TX7) (N := 6) hx hb hts inX7 tyX7 tyX7_ok nmX7 hown hK hP hD hS 4 rfl rfl 2 (by decide) f32 (fun _ h9 => h9) rfl (by decide +kernel) rfl rfl (Nat.le_of_ble_eq_true rfl) dX7_readPart_162 (fun H locs hP hD hS => ?_)
                      have hP : va_P g.1 vwCl [(aI g t1 6 pd), (aI g t2 36 wb), (oX5 t0 t1 t2 (nI w)), (aI g z1 3 (upd nu 0 (nI (nvF T (rn isBl T n (rn isLt T n k)) (rn isDg T n (rn isBl T n (rn isLt T n k)) - rn isBl T n (rn isLt T n k)))))), (oX7 z0 y0 (nI n) (nI (rn isBl T n (rn isDg T n (rn isBl T n (rn isLt T n k))) + 1)) fa pl z1), (aB g y0 500 tp)] H := hP
                      have hD : va_D A [(aI g t1 6 pd), (aI g t2 36 wb), (oX5 t0 t1 t2 (nI w)), (aI g z1 3 (upd nu 0 (nI (nvF T (rn isBl T n (rn isLt T n k)) (rn isDg T n (rn isBl T n (rn isLt T n k)) - rn isBl T n (rn isLt T n k)))))), (oX7 z0 y0 (nI n) (nI (rn isBl T n (rn isDg T n (rn isBl T n (rn isLt T n k))) + 1)) fa pl z1), (aB g y0 500 tp)] := hD
                      refine lv_aload_n hx hb dX7_readPart_165 rfl (lv_at hl 5 rfl) ?_
                      refine lv_iload hx hb dX7_readPart_166 (lv_at hl 2 rfl) ?_
                      refine lv_aload_n hx hb dX7_readPart_168 rfl (lv_at hl 4 rfl) ?_
                      refine va_get (v := .ref z1) (T := TX7) (N := 6) hx hb hts inX7 hown hK hP 4 rfl rfl 5 (by decide) f19 (fun _ h9 => h9) rfl dX7_readPart_169 ?_
                      refine he_cv (wc := [(oX5 t0 t1 t2 (nI w)), (aI g t1 6 pd), (aI g t2 36 wb), (aI g z1 3 (upd nu 0 (nI (nvF T (rn isBl T n (rn isLt T n k)) (rn isDg T n (rn isBl T n (rn isLt T n k)) - rn isBl T n (rn isLt T n k))))))]) (wr := [(oX7 z0 y0 (nI n) (nI (rn isBl T n (rn isDg T n (rn isBl T n (rn isLt T n k))) + 1)) fa pl z1), (aB g y0 500 tp)]) (va_runU (As := [.int 2, .ref z1]) (rest := []) ⟨hx, hb, hml, hown, hts⟩ (p_X5_store_2 l g t0 t1 t2 w pd wb z1 (upd nu 0 (nI (nvF T (rn isBl T n (rn isLt T n k)) (rn isDg T n (rn isBl T n (rn isLt T n k)) - rn isBl T n (rn isLt T n k))))) H.size) (va_cwA 2 hts gX7_readPart_X5_store_u83X5 rfl rfl rfl dc83 (by decide +kernel) ⟨Nat.le_of_ble_eq_true rfl, Nat.le_of_ble_eq_true rfl⟩) (he_preV (wc := [(oX5 t0 t1 t2 (nI w)), (aI g t1 6 pd), (aI g t2 36 wb), (aI g z1 3 (upd nu 0 (nI (nvF T (rn isBl T n (rn isLt T n k)) (rn isDg T n (rn isBl T n (rn isLt T n k)) - rn isBl T n (rn isLt T n k))))))]) hK hP hD hS hA hE [2, 0, 1, 3] rfl rfl 2 rfl rfl) rfl rfl hl.1 rfl (lv_room (Nat.le_of_ble_eq_true rfl)) dX7_readPart_172 ⟨(Nat.le_of_ble_eq_true rfl), (Nat.le_of_ble_eq_true rfl)⟩) hP hD hS hA [2, 0, 1, 3] [4, 5] rfl rfl rfl (by decide) (fun u_163 H locs h_164 hP hD hS => ?_)
                      have hP : va_P g.1 vwCl [(oX7 z0 y0 (nI n) (nI (rn isBl T n (rn isDg T n (rn isBl T n (rn isLt T n k))) + 1)) fa pl z1), (aB g y0 500 tp), (oX5 t0 t1 t2 (nI w)), (aI g t1 6 (upd pd 2 ((upd nu 0 (nI (nvF T (rn isBl T n (rn isLt T n k)) (rn isDg T n (rn isBl T n (rn isLt T n k)) - rn isBl T n (rn isLt T n k))))) 0))), (aI g t2 36 wb), (aI g z1 3 (upd nu 0 (nI (nvF T (rn isBl T n (rn isLt T n k)) (rn isDg T n (rn isBl T n (rn isLt T n k)) - rn isBl T n (rn isLt T n k))))))] H := hP
                      have hD : va_D A [(oX7 z0 y0 (nI n) (nI (rn isBl T n (rn isDg T n (rn isBl T n (rn isLt T n k))) + 1)) fa pl z1), (aB g y0 500 tp), (oX5 t0 t1 t2 (nI w)), (aI g t1 6 (upd pd 2 ((upd nu 0 (nI (nvF T (rn isBl T n (rn isLt T n k)) (rn isDg T n (rn isBl T n (rn isLt T n k)) - rn isBl T n (rn isLt T n k))))) 0))), (aI g t2 36 wb), (aI g z1 3 (upd nu 0 (nI (nvF T (rn isBl T n (rn isLt T n k)) (rn isDg T n (rn isBl T n (rn isLt T n k)) - rn isBl T n (rn isLt T n k))))))] := hD
                      refine lv_iconst (v := 1) hx hb dX7_readPart_175 (by decide) ?_
                      have hP := hP.sub (ws' := [(oX7 z0 y0 (nI n) (nI (rn isBl T n (rn isDg T n (rn isBl T n (rn isLt T n k))) + 1)) fa pl z1), (aB g y0 500 tp), (aI g z1 3 (upd nu 0 (nI (nvF T (rn isBl T n (rn isLt T n k)) (rn isDg T n (rn isBl T n (rn isLt T n k)) - rn isBl T n (rn isLt T n k)))))), (oX5 t0 t1 t2 (nI w)), (aI g t1 6 (upd pd 2 ((upd nu 0 (nI (nvF T (rn isBl T n (rn isLt T n k)) (rn isDg T n (rn isBl T n (rn isLt T n k)) - rn isBl T n (rn isLt T n k))))) 0))), (aI g t2 36 wb)]) [0, 1, 5, 2, 3, 4] rfl
                      have hD := hD.sub (ws' := [(oX7 z0 y0 (nI n) (nI (rn isBl T n (rn isDg T n (rn isBl T n (rn isLt T n k))) + 1)) fa pl z1), (aB g y0 500 tp), (aI g z1 3 (upd nu 0 (nI (nvF T (rn isBl T n (rn isLt T n k)) (rn isDg T n (rn isBl T n (rn isLt T n k)) - rn isBl T n (rn isLt T n k)))))), (oX5 t0 t1 t2 (nI w)), (aI g t1 6 (upd pd 2 ((upd nu 0 (nI (nvF T (rn isBl T n (rn isLt T n k)) (rn isDg T n (rn isBl T n (rn isLt T n k)) - rn isBl T n (rn isLt T n k))))) 0))), (aI g t2 36 wb)]) [0, 1, 5, 2, 3, 4] (by decide) rfl
                      exact he_rz hQ hx hb hr hlk hP hD hS dX7_readPart_176 (Nat.le_of_ble_eq_true rfl) (Nat.le_of_ble_eq_true rfl) rfl ((rn isBl T n (rn isDg T n (rn isBl T n (rn isLt T n k))) + 1, fa, pl, upd nu 0 (nI (nvF T (rn isBl T n (rn isLt T n k)) (rn isDg T n (rn isBl T n (rn isLt T n k)) - rn isBl T n (rn isLt T n k)))), upd pd 2 ((upd nu 0 (nI (nvF T (rn isBl T n (rn isLt T n k)) (rn isDg T n (rn isBl T n (rn isLt T n k)) - rn isBl T n (rn isLt T n k))))) 0), wb)) (rfl) ((by have hP9 : ptS T n wl5 (bd5 w) (fl5 bf) k = _ := ptS_o (bd := bd5 w) hw hfl0 (nmS_s hm0 ((wi_b (lo := 0) (hx := 10) (by (try dsimp only); decide) (by (try dsimp only); decide) (by (try dsimp only); decide) (by (try dsimp only); decide) (nv_le _ _ _)).mp hv0) rfl) hso; exact ⟨by rw [hP9], Or.inr ⟨2, _, by rw [hP9], by rw [hP9], rfl, rfl, rfl, rfl, rfl⟩⟩))
                    · exact join145 () (fun h9 => c_161 ((cB (hT _ h9.1)).1.2.mpr h9.2)) _ _ _ hP hD hS (lv_sub hl [0, 1, 2, 3, 4, 5, 6] rfl)
                · exact absurd (by decide) c_151
              · exact absurd c_150 (by decide)
        · exact absurd (by decide) c_128
    · exact absurd c_115 (by decide)
  · skip
    refine lv_iload hx hb dX7_readPart_20 (lv_at hl 0 rfl) ?_
    refine lv_iconst (v := (-1)) hx hb dX7_readPart_22 (by decide) ?_
    refine lv_icmp_ne (tgt := 33) hx hb dX7_readPart_23 (by decide) (fun c_165 => ?_) (fun c_165 => ?_)
    · have join50 : ∀ (_ : Unit), (fl5 bf 3 = true) → ∀ (H : Heap) (locs : List Loc) (ls : Array Slot), va_P g.1 vwCl [(aI g z1 3 nu), (aI g t1 6 pd), (aI g t2 36 wb), (oX5 t0 t1 t2 (nI w)), (oX7 z0 y0 (nI n) (nI (rn isLt T n k)) fa pl z1), (aB g y0 500 tp)] H → va_D A [(aI g z1 3 nu), (aI g t1 6 pd), (aI g t2 36 wb), (oX5 t0 t1 t2 (nI w)), (oX7 z0 y0 (nI n) (nI (rn isLt T n k)) fa pl z1), (aB g y0 500 tp)] → va_S A s.heap H locs → lv_has ls 7 [(4, .int 3), (3, .int (nI k)), (0, .ref z0), (1, .ref t0), (2, .int (nI bf))] → W p l e (he_room 6 135 0 0) s m args below meth c H locs 0 0 Q (F0 m 50 ls []) := by
        intro _ hfl H locs ls hP hD hS hl
        refine lv_aload_n hx hb dX7_readPart_50 rfl (lv_at hl 2 rfl) ?_
        refine lv_iconst (v := 3) hx hb dX7_readPart_51 (by decide) ?_
        refine lv_iload_n hx hb dX7_readPart_52 rfl (lv_at hl 1 rfl) ?_
        refine he_ci (wc := [(oX7 z0 y0 (nI n) (nI (rn isLt T n k)) fa pl z1), (aB g y0 500 tp)]) (wr := [(aI g z1 3 nu), (aI g t1 6 pd), (aI g t2 36 wb), (oX5 t0 t1 t2 (nI w))]) (va_runV (As := [.int 3, .int (nI k)]) (rest := []) ⟨hx, hb, hml, hown, hts⟩ (g_X7_fail l g z0 z1 y0 n (rn isLt T n k) fa pl tp 3 (nI k) H.size) (cwV 2 hts gX7_readPart_X7_fail rfl rfl rfl (by decide +kernel) ⟨Nat.le_of_ble_eq_true rfl, Nat.le_of_ble_eq_true rfl⟩) (he_preV (wc := [(oX7 z0 y0 (nI n) (nI (rn isLt T n k)) fa pl z1), (aB g y0 500 tp)]) hK hP hD hS hA hE [4, 5] rfl rfl 4 rfl rfl) rfl rfl hl.1 rfl (lv_room (Nat.le_of_ble_eq_true rfl)) dX7_readPart_53 ⟨(Nat.le_of_ble_eq_true rfl), (Nat.le_of_ble_eq_true rfl)⟩) hP hD hS hA [4, 5] [0, 1, 2, 3] rfl rfl rfl (by decide) (fun r_166 u_167 H locs h_168 hP hD hS => ?_)
        subst h_168
        have hP : va_P g.1 vwCl [(aI g z1 3 nu), (aI g t1 6 pd), (aI g t2 36 wb), (oX5 t0 t1 t2 (nI w)), (oX7 z0 y0 (nI n) (nI (rn isLt T n k)) 3 (nI k) z1), (aB g y0 500 tp)] H := hP
        have hD : va_D A [(aI g z1 3 nu), (aI g t1 6 pd), (aI g t2 36 wb), (oX5 t0 t1 t2 (nI w)), (oX7 z0 y0 (nI n) (nI (rn isLt T n k)) 3 (nI k) z1), (aB g y0 500 tp)] := hD
        have hP := hP.sub (ws' := [(oX7 z0 y0 (nI n) (nI (rn isLt T n k)) 3 (nI k) z1), (aB g y0 500 tp), (aI g z1 3 nu), (oX5 t0 t1 t2 (nI w)), (aI g t1 6 pd), (aI g t2 36 wb)]) [4, 5, 0, 3, 1, 2] rfl
        have hD := hD.sub (ws' := [(oX7 z0 y0 (nI n) (nI (rn isLt T n k)) 3 (nI k) z1), (aB g y0 500 tp), (aI g z1 3 nu), (oX5 t0 t1 t2 (nI w)), (aI g t1 6 pd), (aI g t2 36 wb)]) [4, 5, 0, 3, 1, 2] (by decide) rfl
        exact he_rz hQ hx hb hr hlk hP hD hS dX7_readPart_56 (Nat.le_of_ble_eq_true rfl) (Nat.le_of_ble_eq_true rfl) rfl (((rn isLt T n k), 3, nI k, nu, pd, wb)) (rfl) ((by have hP9 : ptS T n wl5 (bd5 w) (fl5 bf) k = _ := ptS_3 hw hfl; exact ⟨by rw [hP9], Or.inl ⟨3, k, by rw [hP9], rfl, rfl, rfl, rfl, rfl⟩⟩))
      refine lv_iload_n hx hb dX7_readPart_33 rfl (lv_at hl 4 rfl) ?_
      refine lv_aload_n hx hb dX7_readPart_34 rfl (lv_at hl 3 rfl) ?_
      refine he_ci (wc := [(oX5 t0 t1 t2 (nI w))]) (wr := [(aI g z1 3 nu), (aI g t1 6 pd), (aI g t2 36 wb), (oX7 z0 y0 (nI n) (nI (rn isLt T n k)) fa pl z1), (aB g y0 500 tp)]) (va_runU (As := []) (rest := [.int (nI bf)]) ⟨hx, hb, hml, hown, hts⟩ (c_X5_mostParts l g t0 t1 t2 (nI w) H.size) (va_cwA 0 hts gX7_readPart_X5_mostParts_u38X5 rfl rfl rfl dc38 (by decide +kernel) ⟨Nat.le_of_ble_eq_true rfl, Nat.le_of_ble_eq_true rfl⟩) (he_preV (wc := [(oX5 t0 t1 t2 (nI w))]) hK hP hD hS hA hE [3] rfl rfl 3 rfl rfl) rfl rfl hl.1 rfl (lv_room (Nat.le_of_ble_eq_true rfl)) dX7_readPart_35 ⟨(Nat.le_of_ble_eq_true rfl), (Nat.le_of_ble_eq_true rfl)⟩) hP hD hS hA [3] [0, 1, 2, 4, 5] rfl rfl rfl (by decide) (fun r_169 u_170 H locs h_171 hP hD hS => ?_)
      subst h_171
      have hP : va_P g.1 vwCl [(aI g z1 3 nu), (aI g t1 6 pd), (aI g t2 36 wb), (oX7 z0 y0 (nI n) (nI (rn isLt T n k)) fa pl z1), (aB g y0 500 tp), (oX5 t0 t1 t2 (nI w))] H := hP
      have hD : va_D A [(aI g z1 3 nu), (aI g t1 6 pd), (aI g t2 36 wb), (oX7 z0 y0 (nI n) (nI (rn isLt T n k)) fa pl z1), (aB g y0 500 tp), (oX5 t0 t1 t2 (nI w))] := hD
      refine lv_icmp_ge (tgt := 50) hx hb dX7_readPart_38 (by decide) (fun c_172 => ?_) (fun c_172 => ?_)
      · have k_173 : 20 ≤ bf := (he_cle (a := 20) (b := bf) (by decide) rfl (by omega) (by omega)).mp c_172
        exact join50 () (fl5_t (by omega)) _ _ _ (hP.sub [0, 1, 2, 5, 3, 4] rfl) (hD.sub [0, 1, 2, 5, 3, 4] (by decide) rfl) hS (lv_sub hl [0, 1, 2, 3, 4] rfl)
      · have k_174 : ¬ (20 ≤ bf) := fun h9 => c_172 ((he_cle (a := 20) (b := bf) (by decide) rfl (by omega) (by omega)).mpr h9)
        refine lv_aload_n hx hb dX7_readPart_41 rfl (lv_at hl 3 rfl) ?_
        refine lv_iload hx hb dX7_readPart_42 (lv_at hl 0 rfl) ?_
        refine he_ci (wc := [(oX5 t0 t1 t2 (nI w))]) (wr := [(aI g z1 3 nu), (aI g t1 6 pd), (aI g t2 36 wb), (oX7 z0 y0 (nI n) (nI (rn isLt T n k)) fa pl z1), (aB g y0 500 tp)]) (va_runU (As := [.int 3]) (rest := []) ⟨hx, hb, hml, hown, hts⟩ (p_X5_isFull l g t0 t1 t2 w 3 H.size) (va_cwA 1 hts gX7_readPart_X5_isFull_u66X5 rfl rfl rfl dc66 (by decide +kernel) ⟨Nat.le_of_ble_eq_true rfl, Nat.le_of_ble_eq_true rfl⟩) (he_preV (wc := [(oX5 t0 t1 t2 (nI w))]) hK hP hD hS hA hE [5] rfl rfl 5 rfl rfl) rfl rfl hl.1 rfl (lv_room (Nat.le_of_ble_eq_true rfl)) dX7_readPart_44 ⟨(Nat.le_of_ble_eq_true rfl), (Nat.le_of_ble_eq_true rfl)⟩) hP hD hS hA [5] [0, 1, 2, 3, 4] rfl rfl rfl (by decide) (fun r_175 u_176 H locs h_177 hP hD hS => ?_)
        subst h_177
        have hP : va_P g.1 vwCl [(aI g z1 3 nu), (aI g t1 6 pd), (aI g t2 36 wb), (oX7 z0 y0 (nI n) (nI (rn isLt T n k)) fa pl z1), (aB g y0 500 tp), (oX5 t0 t1 t2 (nI w))] H := hP
        have hD : va_D A [(aI g z1 3 nu), (aI g t1 6 pd), (aI g t2 36 wb), (oX7 z0 y0 (nI n) (nI (rn isLt T n k)) fa pl z1), (aB g y0 500 tp), (oX5 t0 t1 t2 (nI w))] := hD
        refine lv_if_eq (tgt := 57) hx hb dX7_readPart_47 (by decide) (fun c_178 => ?_) (fun c_178 => ?_)
        · have hfl0 : fl5 bf 3 = false := fl5_f (fun h9 => by omega)
          refine lv_aload_n hx hb dX7_readPart_57 rfl (lv_at hl 3 rfl) ?_
          refine lv_iload hx hb dX7_readPart_58 (lv_at hl 0 rfl) ?_
          refine he_ci (wc := [(oX5 t0 t1 t2 (nI w))]) (wr := [(aI g z1 3 nu), (aI g t1 6 pd), (aI g t2 36 wb), (oX7 z0 y0 (nI n) (nI (rn isLt T n k)) fa pl z1), (aB g y0 500 tp)]) (va_runU (As := [.int 3]) (rest := []) ⟨hx, hb, hml, hown, hts⟩ (p_X5_numbers_3 l g t0 t1 t2 w H.size) (va_cwA 1 hts gX7_readPart_X5_numbers_u70X5 rfl rfl rfl dc70 (by decide +kernel) ⟨Nat.le_of_ble_eq_true rfl, Nat.le_of_ble_eq_true rfl⟩) (he_preV (wc := [(oX5 t0 t1 t2 (nI w))]) hK hP hD hS hA hE [5] rfl rfl 5 rfl rfl) rfl rfl hl.1 rfl (lv_room (Nat.le_of_ble_eq_true rfl)) dX7_readPart_60 ⟨(Nat.le_of_ble_eq_true rfl), (Nat.le_of_ble_eq_true rfl)⟩) hP hD hS hA [5] [0, 1, 2, 3, 4] rfl rfl rfl (by decide) (fun r_179 u_180 H locs h_181 hP hD hS => ?_)
          subst h_181
          have hP : va_P g.1 vwCl [(aI g z1 3 nu), (aI g t1 6 pd), (aI g t2 36 wb), (oX7 z0 y0 (nI n) (nI (rn isLt T n k)) fa pl z1), (aB g y0 500 tp), (oX5 t0 t1 t2 (nI w))] H := hP
          have hD : va_D A [(aI g z1 3 nu), (aI g t1 6 pd), (aI g t2 36 wb), (oX7 z0 y0 (nI n) (nI (rn isLt T n k)) fa pl z1), (aB g y0 500 tp), (oX5 t0 t1 t2 (nI w))] := hD
          refine lv_aload_n hx hb dX7_readPart_63 rfl (lv_at hl 2 rfl) ?_
          refine va_get (v := .ref z1) (T := TX7) (N := 6) hx hb hts inX7 hown hK hP 3 rfl rfl 5 (by decide) f19 (fun _ h9 => h9) rfl dX7_readPart_64 ?_
          refine va_alen (v := 3) hx hb hK hP 0 1 rfl rfl rfl dX7_readPart_67 ?_
          refine va_mmin hx hb (by rw [hml]; exact hl.1.symm) hown ml23 msmin mi mcmin (by decide) (Nat.le_of_ble_eq_true rfl) (Nat.le_of_ble_eq_true rfl) (Nat.le_of_ble_eq_true rfl) dX7_readPart_68 ?_
          refine he_top (1) (by decide) ?_
          refine lv_istore (lv' := [(5, .int 1), (4, .int 3), (3, .int (nI k)), (0, .ref z0), (1, .ref t0), (2, .int (nI bf))]) hx hb dX7_readPart_71 hl (by decide) rfl (fun ls hl => ?_)
          refine lv_iconst (v := 0) hx hb dX7_readPart_73 (by decide) ?_
          refine lv_istore (lv' := [(6, .int 0), (5, .int 1), (4, .int 3), (3, .int (nI k)), (0, .ref z0), (1, .ref t0), (2, .int (nI bf))]) hx hb dX7_readPart_74 hl (by decide) rfl (fun ls hl => ?_)
          refine lv_iload hx hb dX7_readPart_76 (lv_at hl 0 rfl) ?_
          refine lv_iload hx hb dX7_readPart_78 (lv_at hl 1 rfl) ?_
          refine lv_icmp_ge (tgt := 116) hx hb dX7_readPart_80 (by decide) (fun c_182 => ?_) (fun c_182 => ?_)
          · exact absurd c_182 (by decide)
          · refine lv_aload_n hx hb dX7_readPart_83 rfl (lv_at hl 4 rfl) ?_
            refine lv_iload hx hb dX7_readPart_84 (lv_at hl 0 rfl) ?_
            refine lv_aload_n hx hb dX7_readPart_86 rfl (lv_at hl 5 rfl) ?_
            refine lv_iload hx hb dX7_readPart_87 (lv_at hl 2 rfl) ?_
            refine lv_iload hx hb dX7_readPart_89 (lv_at hl 0 rfl) ?_
            refine he_ci (wc := [(oX5 t0 t1 t2 (nI w))]) (wr := [(aI g z1 3 nu), (aI g t1 6 pd), (aI g t2 36 wb), (oX7 z0 y0 (nI n) (nI (rn isLt T n k)) fa pl z1), (aB g y0 500 tp)]) (va_runU (As := [.int 3, .int 0]) (rest := [.int 0, .ref z0]) ⟨hx, hb, hml, hown, hts⟩ (p_X5_low_3_0 l g t0 t1 t2 w H.size) (va_cwA 2 hts gX7_readPart_X5_low_u73X5 rfl rfl rfl dc73 (by decide +kernel) ⟨Nat.le_of_ble_eq_true rfl, Nat.le_of_ble_eq_true rfl⟩) (he_preV (wc := [(oX5 t0 t1 t2 (nI w))]) hK hP hD hS hA hE [5] rfl rfl 5 rfl rfl) rfl rfl hl.1 rfl (lv_room (Nat.le_of_ble_eq_true rfl)) dX7_readPart_91 ⟨(Nat.le_of_ble_eq_true rfl), (Nat.le_of_ble_eq_true rfl)⟩) hP hD hS hA [5] [0, 1, 2, 3, 4] rfl rfl rfl (by decide) (fun r_183 u_184 H locs h_185 hP hD hS => ?_)
            subst h_185
            have hP : va_P g.1 vwCl [(aI g z1 3 nu), (aI g t1 6 pd), (aI g t2 36 wb), (oX7 z0 y0 (nI n) (nI (rn isLt T n k)) fa pl z1), (aB g y0 500 tp), (oX5 t0 t1 t2 (nI w))] H := hP
            have hD : va_D A [(aI g z1 3 nu), (aI g t1 6 pd), (aI g t2 36 wb), (oX7 z0 y0 (nI n) (nI (rn isLt T n k)) fa pl z1), (aB g y0 500 tp), (oX5 t0 t1 t2 (nI w))] := hD
            refine lv_aload_n hx hb dX7_readPart_94 rfl (lv_at hl 5 rfl) ?_
            refine lv_iload hx hb dX7_readPart_95 (lv_at hl 2 rfl) ?_
            refine lv_iload hx hb dX7_readPart_97 (lv_at hl 0 rfl) ?_
            refine he_ci (wc := [(oX5 t0 t1 t2 (nI w))]) (wr := [(aI g z1 3 nu), (aI g t1 6 pd), (aI g t2 36 wb), (oX7 z0 y0 (nI n) (nI (rn isLt T n k)) fa pl z1), (aB g y0 500 tp)]) (va_runU (As := [.int 3, .int 0]) (rest := [.int 0, .int 0, .ref z0]) ⟨hx, hb, hml, hown, hts⟩ (p_X5_high_3_0 l g t0 t1 t2 w H.size) (va_cwA 2 hts gX7_readPart_X5_high_u76X5 rfl rfl rfl dc76 (by decide +kernel) ⟨Nat.le_of_ble_eq_true rfl, Nat.le_of_ble_eq_true rfl⟩) (he_preV (wc := [(oX5 t0 t1 t2 (nI w))]) hK hP hD hS hA hE [5] rfl rfl 5 rfl rfl) rfl rfl hl.1 rfl (lv_room (Nat.le_of_ble_eq_true rfl)) dX7_readPart_99 ⟨(Nat.le_of_ble_eq_true rfl), (Nat.le_of_ble_eq_true rfl)⟩) hP hD hS hA [5] [0, 1, 2, 3, 4] rfl rfl rfl (by decide) (fun r_186 u_187 H locs h_188 hP hD hS => ?_)
            subst h_188
            have hP : va_P g.1 vwCl [(aI g z1 3 nu), (aI g t1 6 pd), (aI g t2 36 wb), (oX7 z0 y0 (nI n) (nI (rn isLt T n k)) fa pl z1), (aB g y0 500 tp), (oX5 t0 t1 t2 (nI w))] H := hP
            have hD : va_D A [(aI g z1 3 nu), (aI g t1 6 pd), (aI g t2 36 wb), (oX7 z0 y0 (nI n) (nI (rn isLt T n k)) fa pl z1), (aB g y0 500 tp), (oX5 t0 t1 t2 (nI w))] := hD
            refine he_ci (wc := [(oX7 z0 y0 (nI n) (nI (rn isLt T n k)) fa pl z1), (aB g y0 500 tp), (aI g z1 3 nu)]) (wr := [(aI g t1 6 pd), (aI g t2 36 wb), (oX5 t0 t1 t2 (nI w))]) (va_runV (As := [.int 0, .int 0, .int 99]) (rest := []) ⟨hx, hb, hml, hown, hts⟩ (p_X7_readNumber l g z0 z1 y0 n (rn isLt T n k) fa pl tp T nu 0 0 99 (by have h0 := rn_le (P := isLt) (T := T) hk; exact h0) (by first | assumption | decide | omega) (by first | assumption | decide | omega) (by decide) H.size) (cwV 3 hts gX7_readPart_X7_readNumber rfl rfl rfl (by decide +kernel) ⟨Nat.le_of_ble_eq_true rfl, Nat.le_of_ble_eq_true rfl⟩) (he_preV (wc := [(oX7 z0 y0 (nI n) (nI (rn isLt T n k)) fa pl z1), (aB g y0 500 tp), (aI g z1 3 nu)]) hK hP hD hS hA hE [3, 4, 0] rfl rfl 3 rfl rfl) rfl rfl hl.1 rfl (lv_room (Nat.le_of_ble_eq_true rfl)) dX7_readPart_102 ⟨(Nat.le_of_ble_eq_true rfl), (Nat.le_of_ble_eq_true rfl)⟩) hP hD hS hA [3, 4, 0] [1, 2, 5] rfl rfl rfl (by decide) (fun r_189 u_190 H locs h_191 hP hD hS => ?_)
            obtain ⟨k2_192, fb_193, pb_194, nv_195⟩ := u_190
            try dsimp only at h_191
            obtain ⟨hf_196, hf_197⟩ := h_191
            have hP : va_P g.1 vwCl [(aI g t1 6 pd), (aI g t2 36 wb), (oX5 t0 t1 t2 (nI w)), (oX7 z0 y0 (nI n) (nI k2_192) fb_193 pb_194 z1), (aB g y0 500 tp), (aI g z1 3 nv_195)] H := hP
            have hD : va_D A [(aI g t1 6 pd), (aI g t2 36 wb), (oX5 t0 t1 t2 (nI w)), (oX7 z0 y0 (nI n) (nI k2_192) fb_193 pb_194 z1), (aB g y0 500 tp), (aI g z1 3 nv_195)] := hD
            have hk2 := hf_196
            rcases hf_197 with ⟨hm0, hr9, hf9, hp9, hn9⟩ | ⟨hm0, hv0, hr9, hf9, hp9, hn9⟩ | ⟨hm0, hv0, hr9, hf9, hp9, hn9⟩
            · subst k2_192 r_189 fb_193 pb_194 nv_195
              have hP : va_P g.1 vwCl [(aI g t1 6 pd), (aI g t2 36 wb), (oX5 t0 t1 t2 (nI w)), (oX7 z0 y0 (nI n) (nI (rn isDg T n (rn isBl T n (rn isLt T n k)))) 1 (nI (rn isBl T n (rn isLt T n k))) z1), (aB g y0 500 tp), (aI g z1 3 nu)] H := hP
              have hD : va_D A [(aI g t1 6 pd), (aI g t2 36 wb), (oX5 t0 t1 t2 (nI w)), (oX7 z0 y0 (nI n) (nI (rn isDg T n (rn isBl T n (rn isLt T n k)))) 1 (nI (rn isBl T n (rn isLt T n k))) z1), (aB g y0 500 tp), (aI g z1 3 nu)] := hD
              refine lv_if_ne (tgt := 110) hx hb dX7_readPart_105 (by decide) (fun c_198 => ?_) (fun c_198 => ?_)
              · exact absurd (by decide) c_198
              · refine lv_iconst (v := 0) hx hb dX7_readPart_108 (by decide) ?_
                have hP := hP.sub (ws' := [(oX7 z0 y0 (nI n) (nI (rn isDg T n (rn isBl T n (rn isLt T n k)))) 1 (nI (rn isBl T n (rn isLt T n k))) z1), (aB g y0 500 tp), (aI g z1 3 nu), (oX5 t0 t1 t2 (nI w)), (aI g t1 6 pd), (aI g t2 36 wb)]) [3, 4, 5, 2, 0, 1] rfl
                have hD := hD.sub (ws' := [(oX7 z0 y0 (nI n) (nI (rn isDg T n (rn isBl T n (rn isLt T n k)))) 1 (nI (rn isBl T n (rn isLt T n k))) z1), (aB g y0 500 tp), (aI g z1 3 nu), (oX5 t0 t1 t2 (nI w)), (aI g t1 6 pd), (aI g t2 36 wb)]) [3, 4, 5, 2, 0, 1] (by decide) rfl
                exact he_rz hQ hx hb hr hlk hP hD hS dX7_readPart_109 (Nat.le_of_ble_eq_true rfl) (Nat.le_of_ble_eq_true rfl) rfl (((rn isDg T n (rn isBl T n (rn isLt T n k))), 1, nI (rn isBl T n (rn isLt T n k)), nu, pd, wb)) (rfl) ((by have hP9 : ptS T n wl5 (bd5 w) (fl5 bf) k = _ := ptS_f (bd := bd5 w) hw hfl0 (nmS_1 hm0); exact ⟨by rw [hP9], Or.inl ⟨1, _, by rw [hP9], rfl, rfl, rfl, rfl, rfl⟩⟩))
            · subst k2_192 r_189 fb_193 pb_194 nv_195
              have hP : va_P g.1 vwCl [(aI g t1 6 pd), (aI g t2 36 wb), (oX5 t0 t1 t2 (nI w)), (oX7 z0 y0 (nI n) (nI (rn isDg T n (rn isBl T n (rn isLt T n k)))) 2 (nI (rn isBl T n (rn isLt T n k))) z1), (aB g y0 500 tp), (aI g z1 3 nu)] H := hP
              have hD : va_D A [(aI g t1 6 pd), (aI g t2 36 wb), (oX5 t0 t1 t2 (nI w)), (oX7 z0 y0 (nI n) (nI (rn isDg T n (rn isBl T n (rn isLt T n k)))) 2 (nI (rn isBl T n (rn isLt T n k))) z1), (aB g y0 500 tp), (aI g z1 3 nu)] := hD
              refine lv_if_ne (tgt := 110) hx hb dX7_readPart_105 (by decide) (fun c_199 => ?_) (fun c_199 => ?_)
              · exact absurd (by decide) c_199
              · refine lv_iconst (v := 0) hx hb dX7_readPart_108 (by decide) ?_
                have hP := hP.sub (ws' := [(oX7 z0 y0 (nI n) (nI (rn isDg T n (rn isBl T n (rn isLt T n k)))) 2 (nI (rn isBl T n (rn isLt T n k))) z1), (aB g y0 500 tp), (aI g z1 3 nu), (oX5 t0 t1 t2 (nI w)), (aI g t1 6 pd), (aI g t2 36 wb)]) [3, 4, 5, 2, 0, 1] rfl
                have hD := hD.sub (ws' := [(oX7 z0 y0 (nI n) (nI (rn isDg T n (rn isBl T n (rn isLt T n k)))) 2 (nI (rn isBl T n (rn isLt T n k))) z1), (aB g y0 500 tp), (aI g z1 3 nu), (oX5 t0 t1 t2 (nI w)), (aI g t1 6 pd), (aI g t2 36 wb)]) [3, 4, 5, 2, 0, 1] (by decide) rfl
                exact he_rz hQ hx hb hr hlk hP hD hS dX7_readPart_109 (Nat.le_of_ble_eq_true rfl) (Nat.le_of_ble_eq_true rfl) rfl (((rn isDg T n (rn isBl T n (rn isLt T n k))), 2, nI (rn isBl T n (rn isLt T n k)), nu, pd, wb)) (rfl) ((by have hP9 : ptS T n wl5 (bd5 w) (fl5 bf) k = _ := ptS_f (bd := bd5 w) hw hfl0 (nmS_2 hm0 (fun h9 => absurd hv0 ((wi_b (lo := 0) (hx := 100) (by (try dsimp only); decide) (by (try dsimp only); decide) (by (try dsimp only); decide) (by (try dsimp only); decide) (nv_le _ _ _)).mpr h9))); exact ⟨by rw [hP9], Or.inl ⟨2, _, by rw [hP9], rfl, rfl, rfl, rfl, rfl⟩⟩))
            · subst k2_192 r_189 fb_193 pb_194 nv_195
              have hP : va_P g.1 vwCl [(aI g t1 6 pd), (aI g t2 36 wb), (oX5 t0 t1 t2 (nI w)), (oX7 z0 y0 (nI n) (nI (rn isDg T n (rn isBl T n (rn isLt T n k)))) fa pl z1), (aB g y0 500 tp), (aI g z1 3 (upd nu 0 (nI (nvF T (rn isBl T n (rn isLt T n k)) (rn isDg T n (rn isBl T n (rn isLt T n k)) - rn isBl T n (rn isLt T n k))))))] H := hP
              have hD : va_D A [(aI g t1 6 pd), (aI g t2 36 wb), (oX5 t0 t1 t2 (nI w)), (oX7 z0 y0 (nI n) (nI (rn isDg T n (rn isBl T n (rn isLt T n k)))) fa pl z1), (aB g y0 500 tp), (aI g z1 3 (upd nu 0 (nI (nvF T (rn isBl T n (rn isLt T n k)) (rn isDg T n (rn isBl T n (rn isLt T n k)) - rn isBl T n (rn isLt T n k))))))] := hD
              refine lv_if_ne (tgt := 110) hx hb dX7_readPart_105 (by decide) (fun c_200 => ?_) (fun c_200 => ?_)
              · refine lv_iinc (v := 1) (lv' := [(6, .int 1), (5, .int 1), (4, .int 3), (3, .int (nI k)), (0, .ref z0), (1, .ref t0), (2, .int (nI bf))]) hx hb dX7_readPart_110 hl (k := 0) rfl (by decide) (by decide) rfl (fun ls hl => ?_)
                refine lv_goto (tgt := 76) hx hb dX7_readPart_113 (by decide) ?_
                refine lv_iload hx hb dX7_readPart_76 (lv_at hl 0 rfl) ?_
                refine lv_iload hx hb dX7_readPart_78 (lv_at hl 1 rfl) ?_
                refine lv_icmp_ge (tgt := 116) hx hb dX7_readPart_80 (by decide) (fun c_201 => ?_) (fun c_201 => ?_)
                · refine lv_aload_n hx hb dX7_readPart_116 rfl (lv_at hl 4 rfl) ?_
                  refine he_cv (wc := [(oX7 z0 y0 (nI n) (nI (rn isDg T n (rn isBl T n (rn isLt T n k)))) fa pl z1), (aB g y0 500 tp)]) (wr := [(aI g t1 6 pd), (aI g t2 36 wb), (oX5 t0 t1 t2 (nI w)), (aI g z1 3 (upd nu 0 (nI (nvF T (rn isBl T n (rn isLt T n k)) (rn isDg T n (rn isBl T n (rn isLt T n k)) - rn isBl T n (rn isLt T n k))))))]) (va_runV (As := []) (rest := []) ⟨hx, hb, hml, hown, hts⟩ (p_X7_skipBlanks l g z0 z1 y0 n (rn isDg T n (rn isBl T n (rn isLt T n k))) fa pl tp T (by have h0 := rn_le (P := isLt) (T := T) hk; exact (rn_le (rn_le h0))) (by first | assumption | decide | omega) (by first | assumption | decide | omega) H.size) (cwV 0 hts gX7_readPart_X7_skipBlanks rfl rfl rfl (by decide +kernel) ⟨Nat.le_of_ble_eq_true rfl, Nat.le_of_ble_eq_true rfl⟩) (he_preV (wc := [(oX7 z0 y0 (nI n) (nI (rn isDg T n (rn isBl T n (rn isLt T n k)))) fa pl z1), (aB g y0 500 tp)]) hK hP hD hS hA hE [3, 4] rfl rfl 3 rfl rfl) rfl rfl hl.1 rfl (lv_room (Nat.le_of_ble_eq_true rfl)) dX7_readPart_117 ⟨(Nat.le_of_ble_eq_true rfl), (Nat.le_of_ble_eq_true rfl)⟩) hP hD hS hA [3, 4] [0, 1, 2, 5] rfl rfl rfl (by decide) (fun u_203 H locs h_204 hP hD hS => ?_)
                  have hP : va_P g.1 vwCl [(aI g t1 6 pd), (aI g t2 36 wb), (oX5 t0 t1 t2 (nI w)), (aI g z1 3 (upd nu 0 (nI (nvF T (rn isBl T n (rn isLt T n k)) (rn isDg T n (rn isBl T n (rn isLt T n k)) - rn isBl T n (rn isLt T n k)))))), (oX7 z0 y0 (nI n) (nI (rn isBl T n (rn isDg T n (rn isBl T n (rn isLt T n k))))) fa pl z1), (aB g y0 500 tp)] H := hP
                  have hD : va_D A [(aI g t1 6 pd), (aI g t2 36 wb), (oX5 t0 t1 t2 (nI w)), (aI g z1 3 (upd nu 0 (nI (nvF T (rn isBl T n (rn isLt T n k)) (rn isDg T n (rn isBl T n (rn isLt T n k)) - rn isBl T n (rn isLt T n k)))))), (oX7 z0 y0 (nI n) (nI (rn isBl T n (rn isDg T n (rn isBl T n (rn isLt T n k))))) fa pl z1), (aB g y0 500 tp)] := hD
                  have hAt : rn isBl T n (rn isDg T n (rn isBl T n (rn isLt T n k))) ≤ n := by have h0 := rn_le (P := isLt) (T := T) hk; exact rn_le (rn_le (rn_le h0))
                  have join145 : ∀ (_ : Unit), (¬ (rn isBl T n (rn isDg T n (rn isBl T n (rn isLt T n k))) < n ∧ T (rn isBl T n (rn isDg T n (rn isBl T n (rn isLt T n k)))) = 59)) → ∀ (H : Heap) (locs : List Loc) (ls : Array Slot), va_P g.1 vwCl [(aI g t1 6 pd), (aI g t2 36 wb), (oX5 t0 t1 t2 (nI w)), (aI g z1 3 (upd nu 0 (nI (nvF T (rn isBl T n (rn isLt T n k)) (rn isDg T n (rn isBl T n (rn isLt T n k)) - rn isBl T n (rn isLt T n k)))))), (oX7 z0 y0 (nI n) (nI (rn isBl T n (rn isDg T n (rn isBl T n (rn isLt T n k))))) fa pl z1), (aB g y0 500 tp)] H → va_D A [(aI g t1 6 pd), (aI g t2 36 wb), (oX5 t0 t1 t2 (nI w)), (aI g z1 3 (upd nu 0 (nI (nvF T (rn isBl T n (rn isLt T n k)) (rn isDg T n (rn isBl T n (rn isLt T n k)) - rn isBl T n (rn isLt T n k)))))), (oX7 z0 y0 (nI n) (nI (rn isBl T n (rn isDg T n (rn isBl T n (rn isLt T n k))))) fa pl z1), (aB g y0 500 tp)] → va_S A s.heap H locs → lv_has ls 7 [(6, .int 1), (5, .int 1), (4, .int 3), (3, .int (nI k)), (0, .ref z0), (1, .ref t0), (2, .int (nI bf))] → W p l e (he_room 6 135 0 0) s m args below meth c H locs 0 0 Q (F0 m 145 ls []) := by
                    intro _ hsc H locs ls hP hD hS hl
                    refine lv_aload_n hx hb dX7_readPart_145 rfl (lv_at hl 4 rfl) ?_
                    refine lv_iconst (v := 1) hx hb dX7_readPart_146 (by decide) ?_
                    refine lv_aload_n hx hb dX7_readPart_147 rfl (lv_at hl 4 rfl) ?_
                    refine va_get (v := .int (nI (rn isBl T n (rn isDg T n (rn isBl T n (rn isLt T n k)))))) (T := TX7) (N := 6) hx hb hts inX7 hown hK hP 4 rfl rfl 2 (by decide) f32 (fun _ h9 => h9) rfl dX7_readPart_148 ?_
                    refine he_ci (wc := [(oX7 z0 y0 (nI n) (nI (rn isBl T n (rn isDg T n (rn isBl T n (rn isLt T n k))))) fa pl z1), (aB g y0 500 tp)]) (wr := [(aI g t1 6 pd), (aI g t2 36 wb), (oX5 t0 t1 t2 (nI w)), (aI g z1 3 (upd nu 0 (nI (nvF T (rn isBl T n (rn isLt T n k)) (rn isDg T n (rn isBl T n (rn isLt T n k)) - rn isBl T n (rn isLt T n k))))))]) (va_runV (As := [.int 1, .int (nI (rn isBl T n (rn isDg T n (rn isBl T n (rn isLt T n k)))))]) (rest := []) ⟨hx, hb, hml, hown, hts⟩ (g_X7_fail l g z0 z1 y0 n (rn isBl T n (rn isDg T n (rn isBl T n (rn isLt T n k)))) fa pl tp 1 (nI (rn isBl T n (rn isDg T n (rn isBl T n (rn isLt T n k))))) H.size) (cwV 2 hts gX7_readPart_X7_fail rfl rfl rfl (by decide +kernel) ⟨Nat.le_of_ble_eq_true rfl, Nat.le_of_ble_eq_true rfl⟩) (he_preV (wc := [(oX7 z0 y0 (nI n) (nI (rn isBl T n (rn isDg T n (rn isBl T n (rn isLt T n k))))) fa pl z1), (aB g y0 500 tp)]) hK hP hD hS hA hE [4, 5] rfl rfl 4 rfl rfl) rfl rfl hl.1 rfl (lv_room (Nat.le_of_ble_eq_true rfl)) dX7_readPart_151 ⟨(Nat.le_of_ble_eq_true rfl), (Nat.le_of_ble_eq_true rfl)⟩) hP hD hS hA [4, 5] [0, 1, 2, 3] rfl rfl rfl (by decide) (fun r_205 u_206 H locs h_207 hP hD hS => ?_)
                    subst h_207
                    have hP : va_P g.1 vwCl [(aI g t1 6 pd), (aI g t2 36 wb), (oX5 t0 t1 t2 (nI w)), (aI g z1 3 (upd nu 0 (nI (nvF T (rn isBl T n (rn isLt T n k)) (rn isDg T n (rn isBl T n (rn isLt T n k)) - rn isBl T n (rn isLt T n k)))))), (oX7 z0 y0 (nI n) (nI (rn isBl T n (rn isDg T n (rn isBl T n (rn isLt T n k))))) 1 (nI (rn isBl T n (rn isDg T n (rn isBl T n (rn isLt T n k))))) z1), (aB g y0 500 tp)] H := hP
                    have hD : va_D A [(aI g t1 6 pd), (aI g t2 36 wb), (oX5 t0 t1 t2 (nI w)), (aI g z1 3 (upd nu 0 (nI (nvF T (rn isBl T n (rn isLt T n k)) (rn isDg T n (rn isBl T n (rn isLt T n k)) - rn isBl T n (rn isLt T n k)))))), (oX7 z0 y0 (nI n) (nI (rn isBl T n (rn isDg T n (rn isBl T n (rn isLt T n k))))) 1 (nI (rn isBl T n (rn isDg T n (rn isBl T n (rn isLt T n k))))) z1), (aB g y0 500 tp)] := hD
                    have hP := hP.sub (ws' := [(oX7 z0 y0 (nI n) (nI (rn isBl T n (rn isDg T n (rn isBl T n (rn isLt T n k))))) 1 (nI (rn isBl T n (rn isDg T n (rn isBl T n (rn isLt T n k))))) z1), (aB g y0 500 tp), (aI g z1 3 (upd nu 0 (nI (nvF T (rn isBl T n (rn isLt T n k)) (rn isDg T n (rn isBl T n (rn isLt T n k)) - rn isBl T n (rn isLt T n k)))))), (oX5 t0 t1 t2 (nI w)), (aI g t1 6 pd), (aI g t2 36 wb)]) [4, 5, 3, 2, 0, 1] rfl
                    have hD := hD.sub (ws' := [(oX7 z0 y0 (nI n) (nI (rn isBl T n (rn isDg T n (rn isBl T n (rn isLt T n k))))) 1 (nI (rn isBl T n (rn isDg T n (rn isBl T n (rn isLt T n k))))) z1), (aB g y0 500 tp), (aI g z1 3 (upd nu 0 (nI (nvF T (rn isBl T n (rn isLt T n k)) (rn isDg T n (rn isBl T n (rn isLt T n k)) - rn isBl T n (rn isLt T n k)))))), (oX5 t0 t1 t2 (nI w)), (aI g t1 6 pd), (aI g t2 36 wb)]) [4, 5, 3, 2, 0, 1] (by decide) rfl
                    exact he_rz hQ hx hb hr hlk hP hD hS dX7_readPart_154 (Nat.le_of_ble_eq_true rfl) (Nat.le_of_ble_eq_true rfl) rfl (((rn isBl T n (rn isDg T n (rn isBl T n (rn isLt T n k)))), 1, nI (rn isBl T n (rn isDg T n (rn isBl T n (rn isLt T n k)))), upd nu 0 (nI (nvF T (rn isBl T n (rn isLt T n k)) (rn isDg T n (rn isBl T n (rn isLt T n k)) - rn isBl T n (rn isLt T n k)))), pd, wb)) (rfl) ((by have hP9 : ptS T n wl5 (bd5 w) (fl5 bf) k = _ := ptS_c (bd := bd5 w) hw hfl0 (nmS_s hm0 ((wi_b (lo := 0) (hx := 100) (by (try dsimp only); decide) (by (try dsimp only); decide) (by (try dsimp only); decide) (by (try dsimp only); decide) (nv_le _ _ _)).mp hv0) rfl) hsc; exact ⟨by rw [hP9], Or.inl ⟨1, _, by rw [hP9], rfl, rfl, rfl, rfl, rfl⟩⟩))
                  refine lv_aload_n hx hb dX7_readPart_120 rfl (lv_at hl 4 rfl) ?_
                  refine va_get (v := .int (nI (rn isBl T n (rn isDg T n (rn isBl T n (rn isLt T n k)))))) (T := TX7) (N := 6) hx hb hts inX7 hown hK hP 4 rfl rfl 2 (by decide) f32 (fun _ h9 => h9) rfl dX7_readPart_121 ?_
                  refine lv_aload_n hx hb dX7_readPart_124 rfl (lv_at hl 4 rfl) ?_
                  refine va_get (v := .int (nI n)) (T := TX7) (N := 6) hx hb hts inX7 hown hK hP 4 rfl rfl 1 (by decide) f29 (fun _ h9 => h9) rfl dX7_readPart_125 ?_
                  refine lv_icmp_ge (tgt := 145) hx hb dX7_readPart_128 (by decide) (fun c_208 => ?_) (fun c_208 => ?_)
                  · have k_209 : n ≤ rn isBl T n (rn isDg T n (rn isBl T n (rn isLt T n k))) := (he_cle (a := n) (b := rn isBl T n (rn isDg T n (rn isBl T n (rn isLt T n k)))) rfl rfl (by omega) (by omega)).mp c_208
                    exact join145 () (fun h9 => absurd h9.1 (by omega)) _ _ _ hP hD hS (lv_sub hl [0, 1, 2, 3, 4, 5, 6] rfl)
                  · have k_210 : ¬ (n ≤ rn isBl T n (rn isDg T n (rn isBl T n (rn isLt T n k)))) := fun h9 => c_208 ((he_cle (a := n) (b := rn isBl T n (rn isDg T n (rn isBl T n (rn isLt T n k)))) rfl rfl (by omega) (by omega)).mpr h9)
                    refine lv_aload_n hx hb dX7_readPart_131 rfl (lv_at hl 4 rfl) ?_
                    refine va_get (v := .ref y0) (T := TX7) (N := 6) hx hb hts inX7 hown hK hP 4 rfl rfl 0 (by decide) f9 (fun _ h9 => h9) rfl dX7_readPart_132 ?_
                    refine lv_aload_n hx hb dX7_readPart_135 rfl (lv_at hl 4 rfl) ?_
                    refine va_get (v := .int (nI (rn isBl T n (rn isDg T n (rn isBl T n (rn isLt T n k)))))) (T := TX7) (N := 6) hx hb hts inX7 hown hK hP 4 rfl rfl 2 (by decide) f32 (fun _ h9 => h9) rfl dX7_readPart_136 ?_
                    refine he_bald hx hb hK hP 5 rfl (rn isBl T n (rn isDg T n (rn isBl T n (rn isLt T n k)))) rfl (by first | assumption | decide | omega) (by first | decide | assumption) (tp (rn isBl T n (rn isDg T n (rn isBl T n (rn isLt T n k))))) rfl dX7_readPart_139 ?_
                    refine lv_bipush (v := 59) hx hb dX7_readPart_140 (by decide) ?_
                    refine lv_icmp_eq (tgt := 155) hx hb dX7_readPart_142 (by decide) (fun c_211 => ?_) (fun c_211 => ?_)
                    · have hso : rn isBl T n (rn isDg T n (rn isBl T n (rn isLt T n k))) < n ∧ T (rn isBl T n (rn isDg T n (rn isBl T n (rn isLt T n k)))) = 59 := ⟨by omega, (cB (hT _ (by omega))).1.2.mp c_211⟩
                      refine lv_aload_n hx hb dX7_readPart_155 rfl (lv_at hl 4 rfl) ?_
                      refine lv_dup hx hb dX7_readPart_156 rfl ?_
                      refine va_get (v := .int (nI (rn isBl T n (rn isDg T n (rn isBl T n (rn isLt T n k)))))) (T := TX7) (N := 6) hx hb hts inX7 hown hK hP 4 rfl rfl 2 (by decide) f32 (fun _ h9 => h9) rfl dX7_readPart_157 ?_
                      refine lv_iconst (v := 1) hx hb dX7_readPart_160 (by decide) ?_
                      refine lv_iadd hx hb dX7_readPart_161 ?_
                      refine he_top (nI (rn isBl T n (rn isDg T n (rn isBl T n (rn isLt T n k))) + 1)) (nI_add (rn isBl T n (rn isDg T n (rn isBl T n (rn isLt T n k)))) 1) ?_
                      refine va_put (v := .int (nI (rn isBl T n (rn isDg T n (rn isBl T n (rn isLt T n k))) + 1))) (ty := .int) (T := TX7) (N := 6) hx hb hts inX7 tyX7 tyX7_ok nmX7 hown hK hP hD hS 4 rfl rfl 2 (by decide) f32 (fun _ h9 => h9) rfl (by decide +kernel) rfl rfl (Nat.le_of_ble_eq_true rfl) dX7_readPart_162 (fun H locs hP hD hS => ?_)
                      have hP : va_P g.1 vwCl [(aI g t1 6 pd), (aI g t2 36 wb), (oX5 t0 t1 t2 (nI w)), (aI g z1 3 (upd nu 0 (nI (nvF T (rn isBl T n (rn isLt T n k)) (rn isDg T n (rn isBl T n (rn isLt T n k)) - rn isBl T n (rn isLt T n k)))))), (oX7 z0 y0 (nI n) (nI (rn isBl T n (rn isDg T n (rn isBl T n (rn isLt T n k))) + 1)) fa pl z1), (aB g y0 500 tp)] H := hP
                      have hD : va_D A [(aI g t1 6 pd), (aI g t2 36 wb), (oX5 t0 t1 t2 (nI w)), (aI g z1 3 (upd nu 0 (nI (nvF T (rn isBl T n (rn isLt T n k)) (rn isDg T n (rn isBl T n (rn isLt T n k)) - rn isBl T n (rn isLt T n k)))))), (oX7 z0 y0 (nI n) (nI (rn isBl T n (rn isDg T n (rn isBl T n (rn isLt T n k))) + 1)) fa pl z1), (aB g y0 500 tp)] := hD
                      refine lv_aload_n hx hb dX7_readPart_165 rfl (lv_at hl 5 rfl) ?_
                      refine lv_iload hx hb dX7_readPart_166 (lv_at hl 2 rfl) ?_
                      refine lv_aload_n hx hb dX7_readPart_168 rfl (lv_at hl 4 rfl) ?_
                      refine va_get (v := .ref z1) (T := TX7) (N := 6) hx hb hts inX7 hown hK hP 4 rfl rfl 5 (by decide) f19 (fun _ h9 => h9) rfl dX7_readPart_169 ?_
                      refine he_cv (wc := [(oX5 t0 t1 t2 (nI w)), (aI g t1 6 pd), (aI g t2 36 wb), (aI g z1 3 (upd nu 0 (nI (nvF T (rn isBl T n (rn isLt T n k)) (rn isDg T n (rn isBl T n (rn isLt T n k)) - rn isBl T n (rn isLt T n k))))))]) (wr := [(oX7 z0 y0 (nI n) (nI (rn isBl T n (rn isDg T n (rn isBl T n (rn isLt T n k))) + 1)) fa pl z1), (aB g y0 500 tp)]) (va_runU (As := [.int 3, .ref z1]) (rest := []) ⟨hx, hb, hml, hown, hts⟩ (p_X5_store_3 l g t0 t1 t2 w pd wb z1 (upd nu 0 (nI (nvF T (rn isBl T n (rn isLt T n k)) (rn isDg T n (rn isBl T n (rn isLt T n k)) - rn isBl T n (rn isLt T n k))))) H.size) (va_cwA 2 hts gX7_readPart_X5_store_u83X5 rfl rfl rfl dc83 (by decide +kernel) ⟨Nat.le_of_ble_eq_true rfl, Nat.le_of_ble_eq_true rfl⟩) (he_preV (wc := [(oX5 t0 t1 t2 (nI w)), (aI g t1 6 pd), (aI g t2 36 wb), (aI g z1 3 (upd nu 0 (nI (nvF T (rn isBl T n (rn isLt T n k)) (rn isDg T n (rn isBl T n (rn isLt T n k)) - rn isBl T n (rn isLt T n k))))))]) hK hP hD hS hA hE [2, 0, 1, 3] rfl rfl 2 rfl rfl) rfl rfl hl.1 rfl (lv_room (Nat.le_of_ble_eq_true rfl)) dX7_readPart_172 ⟨(Nat.le_of_ble_eq_true rfl), (Nat.le_of_ble_eq_true rfl)⟩) hP hD hS hA [2, 0, 1, 3] [4, 5] rfl rfl rfl (by decide) (fun u_213 H locs h_214 hP hD hS => ?_)
                      have hP : va_P g.1 vwCl [(oX7 z0 y0 (nI n) (nI (rn isBl T n (rn isDg T n (rn isBl T n (rn isLt T n k))) + 1)) fa pl z1), (aB g y0 500 tp), (oX5 t0 t1 t2 (nI w)), (aI g t1 6 (upd pd 3 ((upd nu 0 (nI (nvF T (rn isBl T n (rn isLt T n k)) (rn isDg T n (rn isBl T n (rn isLt T n k)) - rn isBl T n (rn isLt T n k))))) 0))), (aI g t2 36 wb), (aI g z1 3 (upd nu 0 (nI (nvF T (rn isBl T n (rn isLt T n k)) (rn isDg T n (rn isBl T n (rn isLt T n k)) - rn isBl T n (rn isLt T n k))))))] H := hP
                      have hD : va_D A [(oX7 z0 y0 (nI n) (nI (rn isBl T n (rn isDg T n (rn isBl T n (rn isLt T n k))) + 1)) fa pl z1), (aB g y0 500 tp), (oX5 t0 t1 t2 (nI w)), (aI g t1 6 (upd pd 3 ((upd nu 0 (nI (nvF T (rn isBl T n (rn isLt T n k)) (rn isDg T n (rn isBl T n (rn isLt T n k)) - rn isBl T n (rn isLt T n k))))) 0))), (aI g t2 36 wb), (aI g z1 3 (upd nu 0 (nI (nvF T (rn isBl T n (rn isLt T n k)) (rn isDg T n (rn isBl T n (rn isLt T n k)) - rn isBl T n (rn isLt T n k))))))] := hD
                      refine lv_iconst (v := 1) hx hb dX7_readPart_175 (by decide) ?_
                      have hP := hP.sub (ws' := [(oX7 z0 y0 (nI n) (nI (rn isBl T n (rn isDg T n (rn isBl T n (rn isLt T n k))) + 1)) fa pl z1), (aB g y0 500 tp), (aI g z1 3 (upd nu 0 (nI (nvF T (rn isBl T n (rn isLt T n k)) (rn isDg T n (rn isBl T n (rn isLt T n k)) - rn isBl T n (rn isLt T n k)))))), (oX5 t0 t1 t2 (nI w)), (aI g t1 6 (upd pd 3 ((upd nu 0 (nI (nvF T (rn isBl T n (rn isLt T n k)) (rn isDg T n (rn isBl T n (rn isLt T n k)) - rn isBl T n (rn isLt T n k))))) 0))), (aI g t2 36 wb)]) [0, 1, 5, 2, 3, 4] rfl
                      have hD := hD.sub (ws' := [(oX7 z0 y0 (nI n) (nI (rn isBl T n (rn isDg T n (rn isBl T n (rn isLt T n k))) + 1)) fa pl z1), (aB g y0 500 tp), (aI g z1 3 (upd nu 0 (nI (nvF T (rn isBl T n (rn isLt T n k)) (rn isDg T n (rn isBl T n (rn isLt T n k)) - rn isBl T n (rn isLt T n k)))))), (oX5 t0 t1 t2 (nI w)), (aI g t1 6 (upd pd 3 ((upd nu 0 (nI (nvF T (rn isBl T n (rn isLt T n k)) (rn isDg T n (rn isBl T n (rn isLt T n k)) - rn isBl T n (rn isLt T n k))))) 0))), (aI g t2 36 wb)]) [0, 1, 5, 2, 3, 4] (by decide) rfl
                      exact he_rz hQ hx hb hr hlk hP hD hS dX7_readPart_176 (Nat.le_of_ble_eq_true rfl) (Nat.le_of_ble_eq_true rfl) rfl ((rn isBl T n (rn isDg T n (rn isBl T n (rn isLt T n k))) + 1, fa, pl, upd nu 0 (nI (nvF T (rn isBl T n (rn isLt T n k)) (rn isDg T n (rn isBl T n (rn isLt T n k)) - rn isBl T n (rn isLt T n k)))), upd pd 3 ((upd nu 0 (nI (nvF T (rn isBl T n (rn isLt T n k)) (rn isDg T n (rn isBl T n (rn isLt T n k)) - rn isBl T n (rn isLt T n k))))) 0), wb)) (rfl) ((by have hP9 : ptS T n wl5 (bd5 w) (fl5 bf) k = _ := ptS_o (bd := bd5 w) hw hfl0 (nmS_s hm0 ((wi_b (lo := 0) (hx := 100) (by (try dsimp only); decide) (by (try dsimp only); decide) (by (try dsimp only); decide) (by (try dsimp only); decide) (nv_le _ _ _)).mp hv0) rfl) hso; exact ⟨by rw [hP9], Or.inr ⟨3, _, by rw [hP9], by rw [hP9], rfl, rfl, rfl, rfl, rfl⟩⟩))
                    · exact join145 () (fun h9 => c_211 ((cB (hT _ h9.1)).1.2.mpr h9.2)) _ _ _ hP hD hS (lv_sub hl [0, 1, 2, 3, 4, 5, 6] rfl)
                · exact absurd (by decide) c_201
              · exact absurd c_200 (by decide)
        · exact absurd (by decide) c_178
    · exact absurd c_165 (by decide)
  · skip
    refine lv_iload hx hb dX7_readPart_20 (lv_at hl 0 rfl) ?_
    refine lv_iconst (v := (-1)) hx hb dX7_readPart_22 (by decide) ?_
    refine lv_icmp_ne (tgt := 33) hx hb dX7_readPart_23 (by decide) (fun c_215 => ?_) (fun c_215 => ?_)
    · have join50 : ∀ (_ : Unit), (fl5 bf 4 = true) → ∀ (H : Heap) (locs : List Loc) (ls : Array Slot), va_P g.1 vwCl [(aI g z1 3 nu), (aI g t1 6 pd), (aI g t2 36 wb), (oX5 t0 t1 t2 (nI w)), (oX7 z0 y0 (nI n) (nI (rn isLt T n k)) fa pl z1), (aB g y0 500 tp)] H → va_D A [(aI g z1 3 nu), (aI g t1 6 pd), (aI g t2 36 wb), (oX5 t0 t1 t2 (nI w)), (oX7 z0 y0 (nI n) (nI (rn isLt T n k)) fa pl z1), (aB g y0 500 tp)] → va_S A s.heap H locs → lv_has ls 7 [(4, .int 4), (3, .int (nI k)), (0, .ref z0), (1, .ref t0), (2, .int (nI bf))] → W p l e (he_room 6 135 0 0) s m args below meth c H locs 0 0 Q (F0 m 50 ls []) := by
        intro _ hfl H locs ls hP hD hS hl
        refine lv_aload_n hx hb dX7_readPart_50 rfl (lv_at hl 2 rfl) ?_
        refine lv_iconst (v := 3) hx hb dX7_readPart_51 (by decide) ?_
        refine lv_iload_n hx hb dX7_readPart_52 rfl (lv_at hl 1 rfl) ?_
        refine he_ci (wc := [(oX7 z0 y0 (nI n) (nI (rn isLt T n k)) fa pl z1), (aB g y0 500 tp)]) (wr := [(aI g z1 3 nu), (aI g t1 6 pd), (aI g t2 36 wb), (oX5 t0 t1 t2 (nI w))]) (va_runV (As := [.int 3, .int (nI k)]) (rest := []) ⟨hx, hb, hml, hown, hts⟩ (g_X7_fail l g z0 z1 y0 n (rn isLt T n k) fa pl tp 3 (nI k) H.size) (cwV 2 hts gX7_readPart_X7_fail rfl rfl rfl (by decide +kernel) ⟨Nat.le_of_ble_eq_true rfl, Nat.le_of_ble_eq_true rfl⟩) (he_preV (wc := [(oX7 z0 y0 (nI n) (nI (rn isLt T n k)) fa pl z1), (aB g y0 500 tp)]) hK hP hD hS hA hE [4, 5] rfl rfl 4 rfl rfl) rfl rfl hl.1 rfl (lv_room (Nat.le_of_ble_eq_true rfl)) dX7_readPart_53 ⟨(Nat.le_of_ble_eq_true rfl), (Nat.le_of_ble_eq_true rfl)⟩) hP hD hS hA [4, 5] [0, 1, 2, 3] rfl rfl rfl (by decide) (fun r_216 u_217 H locs h_218 hP hD hS => ?_)
        subst h_218
        have hP : va_P g.1 vwCl [(aI g z1 3 nu), (aI g t1 6 pd), (aI g t2 36 wb), (oX5 t0 t1 t2 (nI w)), (oX7 z0 y0 (nI n) (nI (rn isLt T n k)) 3 (nI k) z1), (aB g y0 500 tp)] H := hP
        have hD : va_D A [(aI g z1 3 nu), (aI g t1 6 pd), (aI g t2 36 wb), (oX5 t0 t1 t2 (nI w)), (oX7 z0 y0 (nI n) (nI (rn isLt T n k)) 3 (nI k) z1), (aB g y0 500 tp)] := hD
        have hP := hP.sub (ws' := [(oX7 z0 y0 (nI n) (nI (rn isLt T n k)) 3 (nI k) z1), (aB g y0 500 tp), (aI g z1 3 nu), (oX5 t0 t1 t2 (nI w)), (aI g t1 6 pd), (aI g t2 36 wb)]) [4, 5, 0, 3, 1, 2] rfl
        have hD := hD.sub (ws' := [(oX7 z0 y0 (nI n) (nI (rn isLt T n k)) 3 (nI k) z1), (aB g y0 500 tp), (aI g z1 3 nu), (oX5 t0 t1 t2 (nI w)), (aI g t1 6 pd), (aI g t2 36 wb)]) [4, 5, 0, 3, 1, 2] (by decide) rfl
        exact he_rz hQ hx hb hr hlk hP hD hS dX7_readPart_56 (Nat.le_of_ble_eq_true rfl) (Nat.le_of_ble_eq_true rfl) rfl (((rn isLt T n k), 3, nI k, nu, pd, wb)) (rfl) ((by have hP9 : ptS T n wl5 (bd5 w) (fl5 bf) k = _ := ptS_3 hw hfl; exact ⟨by rw [hP9], Or.inl ⟨3, k, by rw [hP9], rfl, rfl, rfl, rfl, rfl⟩⟩))
      refine lv_iload_n hx hb dX7_readPart_33 rfl (lv_at hl 4 rfl) ?_
      refine lv_aload_n hx hb dX7_readPart_34 rfl (lv_at hl 3 rfl) ?_
      refine he_ci (wc := [(oX5 t0 t1 t2 (nI w))]) (wr := [(aI g z1 3 nu), (aI g t1 6 pd), (aI g t2 36 wb), (oX7 z0 y0 (nI n) (nI (rn isLt T n k)) fa pl z1), (aB g y0 500 tp)]) (va_runU (As := []) (rest := [.int (nI bf)]) ⟨hx, hb, hml, hown, hts⟩ (c_X5_mostParts l g t0 t1 t2 (nI w) H.size) (va_cwA 0 hts gX7_readPart_X5_mostParts_u38X5 rfl rfl rfl dc38 (by decide +kernel) ⟨Nat.le_of_ble_eq_true rfl, Nat.le_of_ble_eq_true rfl⟩) (he_preV (wc := [(oX5 t0 t1 t2 (nI w))]) hK hP hD hS hA hE [3] rfl rfl 3 rfl rfl) rfl rfl hl.1 rfl (lv_room (Nat.le_of_ble_eq_true rfl)) dX7_readPart_35 ⟨(Nat.le_of_ble_eq_true rfl), (Nat.le_of_ble_eq_true rfl)⟩) hP hD hS hA [3] [0, 1, 2, 4, 5] rfl rfl rfl (by decide) (fun r_219 u_220 H locs h_221 hP hD hS => ?_)
      subst h_221
      have hP : va_P g.1 vwCl [(aI g z1 3 nu), (aI g t1 6 pd), (aI g t2 36 wb), (oX7 z0 y0 (nI n) (nI (rn isLt T n k)) fa pl z1), (aB g y0 500 tp), (oX5 t0 t1 t2 (nI w))] H := hP
      have hD : va_D A [(aI g z1 3 nu), (aI g t1 6 pd), (aI g t2 36 wb), (oX7 z0 y0 (nI n) (nI (rn isLt T n k)) fa pl z1), (aB g y0 500 tp), (oX5 t0 t1 t2 (nI w))] := hD
      refine lv_icmp_ge (tgt := 50) hx hb dX7_readPart_38 (by decide) (fun c_222 => ?_) (fun c_222 => ?_)
      · have k_223 : 20 ≤ bf := (he_cle (a := 20) (b := bf) (by decide) rfl (by omega) (by omega)).mp c_222
        exact join50 () (fl5_t (by omega)) _ _ _ (hP.sub [0, 1, 2, 5, 3, 4] rfl) (hD.sub [0, 1, 2, 5, 3, 4] (by decide) rfl) hS (lv_sub hl [0, 1, 2, 3, 4] rfl)
      · have k_224 : ¬ (20 ≤ bf) := fun h9 => c_222 ((he_cle (a := 20) (b := bf) (by decide) rfl (by omega) (by omega)).mpr h9)
        refine lv_aload_n hx hb dX7_readPart_41 rfl (lv_at hl 3 rfl) ?_
        refine lv_iload hx hb dX7_readPart_42 (lv_at hl 0 rfl) ?_
        refine he_ci (wc := [(oX5 t0 t1 t2 (nI w))]) (wr := [(aI g z1 3 nu), (aI g t1 6 pd), (aI g t2 36 wb), (oX7 z0 y0 (nI n) (nI (rn isLt T n k)) fa pl z1), (aB g y0 500 tp)]) (va_runU (As := [.int 4]) (rest := []) ⟨hx, hb, hml, hown, hts⟩ (p_X5_isFull l g t0 t1 t2 w 4 H.size) (va_cwA 1 hts gX7_readPart_X5_isFull_u66X5 rfl rfl rfl dc66 (by decide +kernel) ⟨Nat.le_of_ble_eq_true rfl, Nat.le_of_ble_eq_true rfl⟩) (he_preV (wc := [(oX5 t0 t1 t2 (nI w))]) hK hP hD hS hA hE [5] rfl rfl 5 rfl rfl) rfl rfl hl.1 rfl (lv_room (Nat.le_of_ble_eq_true rfl)) dX7_readPart_44 ⟨(Nat.le_of_ble_eq_true rfl), (Nat.le_of_ble_eq_true rfl)⟩) hP hD hS hA [5] [0, 1, 2, 3, 4] rfl rfl rfl (by decide) (fun r_225 u_226 H locs h_227 hP hD hS => ?_)
        subst h_227
        have hP : va_P g.1 vwCl [(aI g z1 3 nu), (aI g t1 6 pd), (aI g t2 36 wb), (oX7 z0 y0 (nI n) (nI (rn isLt T n k)) fa pl z1), (aB g y0 500 tp), (oX5 t0 t1 t2 (nI w))] H := hP
        have hD : va_D A [(aI g z1 3 nu), (aI g t1 6 pd), (aI g t2 36 wb), (oX7 z0 y0 (nI n) (nI (rn isLt T n k)) fa pl z1), (aB g y0 500 tp), (oX5 t0 t1 t2 (nI w))] := hD
        refine lv_if_eq (tgt := 57) hx hb dX7_readPart_47 (by decide) (fun c_228 => ?_) (fun c_228 => ?_)
        · have hfl0 : fl5 bf 4 = false := fl5_f (fun h9 => by omega)
          refine lv_aload_n hx hb dX7_readPart_57 rfl (lv_at hl 3 rfl) ?_
          refine lv_iload hx hb dX7_readPart_58 (lv_at hl 0 rfl) ?_
          refine he_ci (wc := [(oX5 t0 t1 t2 (nI w))]) (wr := [(aI g z1 3 nu), (aI g t1 6 pd), (aI g t2 36 wb), (oX7 z0 y0 (nI n) (nI (rn isLt T n k)) fa pl z1), (aB g y0 500 tp)]) (va_runU (As := [.int 4]) (rest := []) ⟨hx, hb, hml, hown, hts⟩ (p_X5_numbers_4 l g t0 t1 t2 w H.size) (va_cwA 1 hts gX7_readPart_X5_numbers_u70X5 rfl rfl rfl dc70 (by decide +kernel) ⟨Nat.le_of_ble_eq_true rfl, Nat.le_of_ble_eq_true rfl⟩) (he_preV (wc := [(oX5 t0 t1 t2 (nI w))]) hK hP hD hS hA hE [5] rfl rfl 5 rfl rfl) rfl rfl hl.1 rfl (lv_room (Nat.le_of_ble_eq_true rfl)) dX7_readPart_60 ⟨(Nat.le_of_ble_eq_true rfl), (Nat.le_of_ble_eq_true rfl)⟩) hP hD hS hA [5] [0, 1, 2, 3, 4] rfl rfl rfl (by decide) (fun r_229 u_230 H locs h_231 hP hD hS => ?_)
          subst h_231
          have hP : va_P g.1 vwCl [(aI g z1 3 nu), (aI g t1 6 pd), (aI g t2 36 wb), (oX7 z0 y0 (nI n) (nI (rn isLt T n k)) fa pl z1), (aB g y0 500 tp), (oX5 t0 t1 t2 (nI w))] H := hP
          have hD : va_D A [(aI g z1 3 nu), (aI g t1 6 pd), (aI g t2 36 wb), (oX7 z0 y0 (nI n) (nI (rn isLt T n k)) fa pl z1), (aB g y0 500 tp), (oX5 t0 t1 t2 (nI w))] := hD
          refine lv_aload_n hx hb dX7_readPart_63 rfl (lv_at hl 2 rfl) ?_
          refine va_get (v := .ref z1) (T := TX7) (N := 6) hx hb hts inX7 hown hK hP 3 rfl rfl 5 (by decide) f19 (fun _ h9 => h9) rfl dX7_readPart_64 ?_
          refine va_alen (v := 3) hx hb hK hP 0 1 rfl rfl rfl dX7_readPart_67 ?_
          refine va_mmin hx hb (by rw [hml]; exact hl.1.symm) hown ml23 msmin mi mcmin (by decide) (Nat.le_of_ble_eq_true rfl) (Nat.le_of_ble_eq_true rfl) (Nat.le_of_ble_eq_true rfl) dX7_readPart_68 ?_
          refine he_top (1) (by decide) ?_
          refine lv_istore (lv' := [(5, .int 1), (4, .int 4), (3, .int (nI k)), (0, .ref z0), (1, .ref t0), (2, .int (nI bf))]) hx hb dX7_readPart_71 hl (by decide) rfl (fun ls hl => ?_)
          refine lv_iconst (v := 0) hx hb dX7_readPart_73 (by decide) ?_
          refine lv_istore (lv' := [(6, .int 0), (5, .int 1), (4, .int 4), (3, .int (nI k)), (0, .ref z0), (1, .ref t0), (2, .int (nI bf))]) hx hb dX7_readPart_74 hl (by decide) rfl (fun ls hl => ?_)
          refine lv_iload hx hb dX7_readPart_76 (lv_at hl 0 rfl) ?_
          refine lv_iload hx hb dX7_readPart_78 (lv_at hl 1 rfl) ?_
          refine lv_icmp_ge (tgt := 116) hx hb dX7_readPart_80 (by decide) (fun c_232 => ?_) (fun c_232 => ?_)
          · exact absurd c_232 (by decide)
          · refine lv_aload_n hx hb dX7_readPart_83 rfl (lv_at hl 4 rfl) ?_
            refine lv_iload hx hb dX7_readPart_84 (lv_at hl 0 rfl) ?_
            refine lv_aload_n hx hb dX7_readPart_86 rfl (lv_at hl 5 rfl) ?_
            refine lv_iload hx hb dX7_readPart_87 (lv_at hl 2 rfl) ?_
            refine lv_iload hx hb dX7_readPart_89 (lv_at hl 0 rfl) ?_
            refine he_ci (wc := [(oX5 t0 t1 t2 (nI w))]) (wr := [(aI g z1 3 nu), (aI g t1 6 pd), (aI g t2 36 wb), (oX7 z0 y0 (nI n) (nI (rn isLt T n k)) fa pl z1), (aB g y0 500 tp)]) (va_runU (As := [.int 4, .int 0]) (rest := [.int 0, .ref z0]) ⟨hx, hb, hml, hown, hts⟩ (p_X5_low_4_0 l g t0 t1 t2 w H.size) (va_cwA 2 hts gX7_readPart_X5_low_u73X5 rfl rfl rfl dc73 (by decide +kernel) ⟨Nat.le_of_ble_eq_true rfl, Nat.le_of_ble_eq_true rfl⟩) (he_preV (wc := [(oX5 t0 t1 t2 (nI w))]) hK hP hD hS hA hE [5] rfl rfl 5 rfl rfl) rfl rfl hl.1 rfl (lv_room (Nat.le_of_ble_eq_true rfl)) dX7_readPart_91 ⟨(Nat.le_of_ble_eq_true rfl), (Nat.le_of_ble_eq_true rfl)⟩) hP hD hS hA [5] [0, 1, 2, 3, 4] rfl rfl rfl (by decide) (fun r_233 u_234 H locs h_235 hP hD hS => ?_)
            subst h_235
            have hP : va_P g.1 vwCl [(aI g z1 3 nu), (aI g t1 6 pd), (aI g t2 36 wb), (oX7 z0 y0 (nI n) (nI (rn isLt T n k)) fa pl z1), (aB g y0 500 tp), (oX5 t0 t1 t2 (nI w))] H := hP
            have hD : va_D A [(aI g z1 3 nu), (aI g t1 6 pd), (aI g t2 36 wb), (oX7 z0 y0 (nI n) (nI (rn isLt T n k)) fa pl z1), (aB g y0 500 tp), (oX5 t0 t1 t2 (nI w))] := hD
            refine lv_aload_n hx hb dX7_readPart_94 rfl (lv_at hl 5 rfl) ?_
            refine lv_iload hx hb dX7_readPart_95 (lv_at hl 2 rfl) ?_
            refine lv_iload hx hb dX7_readPart_97 (lv_at hl 0 rfl) ?_
            refine he_ci (wc := [(oX5 t0 t1 t2 (nI w))]) (wr := [(aI g z1 3 nu), (aI g t1 6 pd), (aI g t2 36 wb), (oX7 z0 y0 (nI n) (nI (rn isLt T n k)) fa pl z1), (aB g y0 500 tp)]) (va_runU (As := [.int 4, .int 0]) (rest := [.int 0, .int 0, .ref z0]) ⟨hx, hb, hml, hown, hts⟩ (p_X5_high_4_0 l g t0 t1 t2 w H.size) (va_cwA 2 hts gX7_readPart_X5_high_u76X5 rfl rfl rfl dc76 (by decide +kernel) ⟨Nat.le_of_ble_eq_true rfl, Nat.le_of_ble_eq_true rfl⟩) (he_preV (wc := [(oX5 t0 t1 t2 (nI w))]) hK hP hD hS hA hE [5] rfl rfl 5 rfl rfl) rfl rfl hl.1 rfl (lv_room (Nat.le_of_ble_eq_true rfl)) dX7_readPart_99 ⟨(Nat.le_of_ble_eq_true rfl), (Nat.le_of_ble_eq_true rfl)⟩) hP hD hS hA [5] [0, 1, 2, 3, 4] rfl rfl rfl (by decide) (fun r_236 u_237 H locs h_238 hP hD hS => ?_)
            subst h_238
            have hP : va_P g.1 vwCl [(aI g z1 3 nu), (aI g t1 6 pd), (aI g t2 36 wb), (oX7 z0 y0 (nI n) (nI (rn isLt T n k)) fa pl z1), (aB g y0 500 tp), (oX5 t0 t1 t2 (nI w))] H := hP
            have hD : va_D A [(aI g z1 3 nu), (aI g t1 6 pd), (aI g t2 36 wb), (oX7 z0 y0 (nI n) (nI (rn isLt T n k)) fa pl z1), (aB g y0 500 tp), (oX5 t0 t1 t2 (nI w))] := hD
            refine he_ci (wc := [(oX7 z0 y0 (nI n) (nI (rn isLt T n k)) fa pl z1), (aB g y0 500 tp), (aI g z1 3 nu)]) (wr := [(aI g t1 6 pd), (aI g t2 36 wb), (oX5 t0 t1 t2 (nI w))]) (va_runV (As := [.int 0, .int 0, .int 99]) (rest := []) ⟨hx, hb, hml, hown, hts⟩ (p_X7_readNumber l g z0 z1 y0 n (rn isLt T n k) fa pl tp T nu 0 0 99 (by have h0 := rn_le (P := isLt) (T := T) hk; exact h0) (by first | assumption | decide | omega) (by first | assumption | decide | omega) (by decide) H.size) (cwV 3 hts gX7_readPart_X7_readNumber rfl rfl rfl (by decide +kernel) ⟨Nat.le_of_ble_eq_true rfl, Nat.le_of_ble_eq_true rfl⟩) (he_preV (wc := [(oX7 z0 y0 (nI n) (nI (rn isLt T n k)) fa pl z1), (aB g y0 500 tp), (aI g z1 3 nu)]) hK hP hD hS hA hE [3, 4, 0] rfl rfl 3 rfl rfl) rfl rfl hl.1 rfl (lv_room (Nat.le_of_ble_eq_true rfl)) dX7_readPart_102 ⟨(Nat.le_of_ble_eq_true rfl), (Nat.le_of_ble_eq_true rfl)⟩) hP hD hS hA [3, 4, 0] [1, 2, 5] rfl rfl rfl (by decide) (fun r_239 u_240 H locs h_241 hP hD hS => ?_)
            obtain ⟨k2_242, fb_243, pb_244, nv_245⟩ := u_240
            try dsimp only at h_241
            obtain ⟨hf_246, hf_247⟩ := h_241
            have hP : va_P g.1 vwCl [(aI g t1 6 pd), (aI g t2 36 wb), (oX5 t0 t1 t2 (nI w)), (oX7 z0 y0 (nI n) (nI k2_242) fb_243 pb_244 z1), (aB g y0 500 tp), (aI g z1 3 nv_245)] H := hP
            have hD : va_D A [(aI g t1 6 pd), (aI g t2 36 wb), (oX5 t0 t1 t2 (nI w)), (oX7 z0 y0 (nI n) (nI k2_242) fb_243 pb_244 z1), (aB g y0 500 tp), (aI g z1 3 nv_245)] := hD
            have hk2 := hf_246
            rcases hf_247 with ⟨hm0, hr9, hf9, hp9, hn9⟩ | ⟨hm0, hv0, hr9, hf9, hp9, hn9⟩ | ⟨hm0, hv0, hr9, hf9, hp9, hn9⟩
            · subst k2_242 r_239 fb_243 pb_244 nv_245
              have hP : va_P g.1 vwCl [(aI g t1 6 pd), (aI g t2 36 wb), (oX5 t0 t1 t2 (nI w)), (oX7 z0 y0 (nI n) (nI (rn isDg T n (rn isBl T n (rn isLt T n k)))) 1 (nI (rn isBl T n (rn isLt T n k))) z1), (aB g y0 500 tp), (aI g z1 3 nu)] H := hP
              have hD : va_D A [(aI g t1 6 pd), (aI g t2 36 wb), (oX5 t0 t1 t2 (nI w)), (oX7 z0 y0 (nI n) (nI (rn isDg T n (rn isBl T n (rn isLt T n k)))) 1 (nI (rn isBl T n (rn isLt T n k))) z1), (aB g y0 500 tp), (aI g z1 3 nu)] := hD
              refine lv_if_ne (tgt := 110) hx hb dX7_readPart_105 (by decide) (fun c_248 => ?_) (fun c_248 => ?_)
              · exact absurd (by decide) c_248
              · refine lv_iconst (v := 0) hx hb dX7_readPart_108 (by decide) ?_
                have hP := hP.sub (ws' := [(oX7 z0 y0 (nI n) (nI (rn isDg T n (rn isBl T n (rn isLt T n k)))) 1 (nI (rn isBl T n (rn isLt T n k))) z1), (aB g y0 500 tp), (aI g z1 3 nu), (oX5 t0 t1 t2 (nI w)), (aI g t1 6 pd), (aI g t2 36 wb)]) [3, 4, 5, 2, 0, 1] rfl
                have hD := hD.sub (ws' := [(oX7 z0 y0 (nI n) (nI (rn isDg T n (rn isBl T n (rn isLt T n k)))) 1 (nI (rn isBl T n (rn isLt T n k))) z1), (aB g y0 500 tp), (aI g z1 3 nu), (oX5 t0 t1 t2 (nI w)), (aI g t1 6 pd), (aI g t2 36 wb)]) [3, 4, 5, 2, 0, 1] (by decide) rfl
                exact he_rz hQ hx hb hr hlk hP hD hS dX7_readPart_109 (Nat.le_of_ble_eq_true rfl) (Nat.le_of_ble_eq_true rfl) rfl (((rn isDg T n (rn isBl T n (rn isLt T n k))), 1, nI (rn isBl T n (rn isLt T n k)), nu, pd, wb)) (rfl) ((by have hP9 : ptS T n wl5 (bd5 w) (fl5 bf) k = _ := ptS_f (bd := bd5 w) hw hfl0 (nmS_1 hm0); exact ⟨by rw [hP9], Or.inl ⟨1, _, by rw [hP9], rfl, rfl, rfl, rfl, rfl⟩⟩))
            · subst k2_242 r_239 fb_243 pb_244 nv_245
              have hP : va_P g.1 vwCl [(aI g t1 6 pd), (aI g t2 36 wb), (oX5 t0 t1 t2 (nI w)), (oX7 z0 y0 (nI n) (nI (rn isDg T n (rn isBl T n (rn isLt T n k)))) 2 (nI (rn isBl T n (rn isLt T n k))) z1), (aB g y0 500 tp), (aI g z1 3 nu)] H := hP
              have hD : va_D A [(aI g t1 6 pd), (aI g t2 36 wb), (oX5 t0 t1 t2 (nI w)), (oX7 z0 y0 (nI n) (nI (rn isDg T n (rn isBl T n (rn isLt T n k)))) 2 (nI (rn isBl T n (rn isLt T n k))) z1), (aB g y0 500 tp), (aI g z1 3 nu)] := hD
              refine lv_if_ne (tgt := 110) hx hb dX7_readPart_105 (by decide) (fun c_249 => ?_) (fun c_249 => ?_)
              · exact absurd (by decide) c_249
              · refine lv_iconst (v := 0) hx hb dX7_readPart_108 (by decide) ?_
                have hP := hP.sub (ws' := [(oX7 z0 y0 (nI n) (nI (rn isDg T n (rn isBl T n (rn isLt T n k)))) 2 (nI (rn isBl T n (rn isLt T n k))) z1), (aB g y0 500 tp), (aI g z1 3 nu), (oX5 t0 t1 t2 (nI w)), (aI g t1 6 pd), (aI g t2 36 wb)]) [3, 4, 5, 2, 0, 1] rfl
                have hD := hD.sub (ws' := [(oX7 z0 y0 (nI n) (nI (rn isDg T n (rn isBl T n (rn isLt T n k)))) 2 (nI (rn isBl T n (rn isLt T n k))) z1), (aB g y0 500 tp), (aI g z1 3 nu), (oX5 t0 t1 t2 (nI w)), (aI g t1 6 pd), (aI g t2 36 wb)]) [3, 4, 5, 2, 0, 1] (by decide) rfl
                exact he_rz hQ hx hb hr hlk hP hD hS dX7_readPart_109 (Nat.le_of_ble_eq_true rfl) (Nat.le_of_ble_eq_true rfl) rfl (((rn isDg T n (rn isBl T n (rn isLt T n k))), 2, nI (rn isBl T n (rn isLt T n k)), nu, pd, wb)) (rfl) ((by have hP9 : ptS T n wl5 (bd5 w) (fl5 bf) k = _ := ptS_f (bd := bd5 w) hw hfl0 (nmS_2 hm0 (fun h9 => absurd hv0 ((wi_b (lo := 0) (hx := 100) (by (try dsimp only); decide) (by (try dsimp only); decide) (by (try dsimp only); decide) (by (try dsimp only); decide) (nv_le _ _ _)).mpr h9))); exact ⟨by rw [hP9], Or.inl ⟨2, _, by rw [hP9], rfl, rfl, rfl, rfl, rfl⟩⟩))
            · subst k2_242 r_239 fb_243 pb_244 nv_245
              have hP : va_P g.1 vwCl [(aI g t1 6 pd), (aI g t2 36 wb), (oX5 t0 t1 t2 (nI w)), (oX7 z0 y0 (nI n) (nI (rn isDg T n (rn isBl T n (rn isLt T n k)))) fa pl z1), (aB g y0 500 tp), (aI g z1 3 (upd nu 0 (nI (nvF T (rn isBl T n (rn isLt T n k)) (rn isDg T n (rn isBl T n (rn isLt T n k)) - rn isBl T n (rn isLt T n k))))))] H := hP
              have hD : va_D A [(aI g t1 6 pd), (aI g t2 36 wb), (oX5 t0 t1 t2 (nI w)), (oX7 z0 y0 (nI n) (nI (rn isDg T n (rn isBl T n (rn isLt T n k)))) fa pl z1), (aB g y0 500 tp), (aI g z1 3 (upd nu 0 (nI (nvF T (rn isBl T n (rn isLt T n k)) (rn isDg T n (rn isBl T n (rn isLt T n k)) - rn isBl T n (rn isLt T n k))))))] := hD
              refine lv_if_ne (tgt := 110) hx hb dX7_readPart_105 (by decide) (fun c_250 => ?_) (fun c_250 => ?_)
              · refine lv_iinc (v := 1) (lv' := [(6, .int 1), (5, .int 1), (4, .int 4), (3, .int (nI k)), (0, .ref z0), (1, .ref t0), (2, .int (nI bf))]) hx hb dX7_readPart_110 hl (k := 0) rfl (by decide) (by decide) rfl (fun ls hl => ?_)
                refine lv_goto (tgt := 76) hx hb dX7_readPart_113 (by decide) ?_
                refine lv_iload hx hb dX7_readPart_76 (lv_at hl 0 rfl) ?_
                refine lv_iload hx hb dX7_readPart_78 (lv_at hl 1 rfl) ?_
                refine lv_icmp_ge (tgt := 116) hx hb dX7_readPart_80 (by decide) (fun c_251 => ?_) (fun c_251 => ?_)
                · refine lv_aload_n hx hb dX7_readPart_116 rfl (lv_at hl 4 rfl) ?_
                  refine he_cv (wc := [(oX7 z0 y0 (nI n) (nI (rn isDg T n (rn isBl T n (rn isLt T n k)))) fa pl z1), (aB g y0 500 tp)]) (wr := [(aI g t1 6 pd), (aI g t2 36 wb), (oX5 t0 t1 t2 (nI w)), (aI g z1 3 (upd nu 0 (nI (nvF T (rn isBl T n (rn isLt T n k)) (rn isDg T n (rn isBl T n (rn isLt T n k)) - rn isBl T n (rn isLt T n k))))))]) (va_runV (As := []) (rest := []) ⟨hx, hb, hml, hown, hts⟩ (p_X7_skipBlanks l g z0 z1 y0 n (rn isDg T n (rn isBl T n (rn isLt T n k))) fa pl tp T (by have h0 := rn_le (P := isLt) (T := T) hk; exact (rn_le (rn_le h0))) (by first | assumption | decide | omega) (by first | assumption | decide | omega) H.size) (cwV 0 hts gX7_readPart_X7_skipBlanks rfl rfl rfl (by decide +kernel) ⟨Nat.le_of_ble_eq_true rfl, Nat.le_of_ble_eq_true rfl⟩) (he_preV (wc := [(oX7 z0 y0 (nI n) (nI (rn isDg T n (rn isBl T n (rn isLt T n k)))) fa pl z1), (aB g y0 500 tp)]) hK hP hD hS hA hE [3, 4] rfl rfl 3 rfl rfl) rfl rfl hl.1 rfl (lv_room (Nat.le_of_ble_eq_true rfl)) dX7_readPart_117 ⟨(Nat.le_of_ble_eq_true rfl), (Nat.le_of_ble_eq_true rfl)⟩) hP hD hS hA [3, 4] [0, 1, 2, 5] rfl rfl rfl (by decide) (fun u_253 H locs h_254 hP hD hS => ?_)
                  have hP : va_P g.1 vwCl [(aI g t1 6 pd), (aI g t2 36 wb), (oX5 t0 t1 t2 (nI w)), (aI g z1 3 (upd nu 0 (nI (nvF T (rn isBl T n (rn isLt T n k)) (rn isDg T n (rn isBl T n (rn isLt T n k)) - rn isBl T n (rn isLt T n k)))))), (oX7 z0 y0 (nI n) (nI (rn isBl T n (rn isDg T n (rn isBl T n (rn isLt T n k))))) fa pl z1), (aB g y0 500 tp)] H := hP
                  have hD : va_D A [(aI g t1 6 pd), (aI g t2 36 wb), (oX5 t0 t1 t2 (nI w)), (aI g z1 3 (upd nu 0 (nI (nvF T (rn isBl T n (rn isLt T n k)) (rn isDg T n (rn isBl T n (rn isLt T n k)) - rn isBl T n (rn isLt T n k)))))), (oX7 z0 y0 (nI n) (nI (rn isBl T n (rn isDg T n (rn isBl T n (rn isLt T n k))))) fa pl z1), (aB g y0 500 tp)] := hD
                  have hAt : rn isBl T n (rn isDg T n (rn isBl T n (rn isLt T n k))) ≤ n := by have h0 := rn_le (P := isLt) (T := T) hk; exact rn_le (rn_le (rn_le h0))
                  have join145 : ∀ (_ : Unit), (¬ (rn isBl T n (rn isDg T n (rn isBl T n (rn isLt T n k))) < n ∧ T (rn isBl T n (rn isDg T n (rn isBl T n (rn isLt T n k)))) = 59)) → ∀ (H : Heap) (locs : List Loc) (ls : Array Slot), va_P g.1 vwCl [(aI g t1 6 pd), (aI g t2 36 wb), (oX5 t0 t1 t2 (nI w)), (aI g z1 3 (upd nu 0 (nI (nvF T (rn isBl T n (rn isLt T n k)) (rn isDg T n (rn isBl T n (rn isLt T n k)) - rn isBl T n (rn isLt T n k)))))), (oX7 z0 y0 (nI n) (nI (rn isBl T n (rn isDg T n (rn isBl T n (rn isLt T n k))))) fa pl z1), (aB g y0 500 tp)] H → va_D A [(aI g t1 6 pd), (aI g t2 36 wb), (oX5 t0 t1 t2 (nI w)), (aI g z1 3 (upd nu 0 (nI (nvF T (rn isBl T n (rn isLt T n k)) (rn isDg T n (rn isBl T n (rn isLt T n k)) - rn isBl T n (rn isLt T n k)))))), (oX7 z0 y0 (nI n) (nI (rn isBl T n (rn isDg T n (rn isBl T n (rn isLt T n k))))) fa pl z1), (aB g y0 500 tp)] → va_S A s.heap H locs → lv_has ls 7 [(6, .int 1), (5, .int 1), (4, .int 4), (3, .int (nI k)), (0, .ref z0), (1, .ref t0), (2, .int (nI bf))] → W p l e (he_room 6 135 0 0) s m args below meth c H locs 0 0 Q (F0 m 145 ls []) := by
                    intro _ hsc H locs ls hP hD hS hl
                    refine lv_aload_n hx hb dX7_readPart_145 rfl (lv_at hl 4 rfl) ?_
                    refine lv_iconst (v := 1) hx hb dX7_readPart_146 (by decide) ?_
                    refine lv_aload_n hx hb dX7_readPart_147 rfl (lv_at hl 4 rfl) ?_
                    refine va_get (v := .int (nI (rn isBl T n (rn isDg T n (rn isBl T n (rn isLt T n k)))))) (T := TX7) (N := 6) hx hb hts inX7 hown hK hP 4 rfl rfl 2 (by decide) f32 (fun _ h9 => h9) rfl dX7_readPart_148 ?_
                    refine he_ci (wc := [(oX7 z0 y0 (nI n) (nI (rn isBl T n (rn isDg T n (rn isBl T n (rn isLt T n k))))) fa pl z1), (aB g y0 500 tp)]) (wr := [(aI g t1 6 pd), (aI g t2 36 wb), (oX5 t0 t1 t2 (nI w)), (aI g z1 3 (upd nu 0 (nI (nvF T (rn isBl T n (rn isLt T n k)) (rn isDg T n (rn isBl T n (rn isLt T n k)) - rn isBl T n (rn isLt T n k))))))]) (va_runV (As := [.int 1, .int (nI (rn isBl T n (rn isDg T n (rn isBl T n (rn isLt T n k)))))]) (rest := []) ⟨hx, hb, hml, hown, hts⟩ (g_X7_fail l g z0 z1 y0 n (rn isBl T n (rn isDg T n (rn isBl T n (rn isLt T n k)))) fa pl tp 1 (nI (rn isBl T n (rn isDg T n (rn isBl T n (rn isLt T n k))))) H.size) (cwV 2 hts gX7_readPart_X7_fail rfl rfl rfl (by decide +kernel) ⟨Nat.le_of_ble_eq_true rfl, Nat.le_of_ble_eq_true rfl⟩) (he_preV (wc := [(oX7 z0 y0 (nI n) (nI (rn isBl T n (rn isDg T n (rn isBl T n (rn isLt T n k))))) fa pl z1), (aB g y0 500 tp)]) hK hP hD hS hA hE [4, 5] rfl rfl 4 rfl rfl) rfl rfl hl.1 rfl (lv_room (Nat.le_of_ble_eq_true rfl)) dX7_readPart_151 ⟨(Nat.le_of_ble_eq_true rfl), (Nat.le_of_ble_eq_true rfl)⟩) hP hD hS hA [4, 5] [0, 1, 2, 3] rfl rfl rfl (by decide) (fun r_255 u_256 H locs h_257 hP hD hS => ?_)
                    subst h_257
                    have hP : va_P g.1 vwCl [(aI g t1 6 pd), (aI g t2 36 wb), (oX5 t0 t1 t2 (nI w)), (aI g z1 3 (upd nu 0 (nI (nvF T (rn isBl T n (rn isLt T n k)) (rn isDg T n (rn isBl T n (rn isLt T n k)) - rn isBl T n (rn isLt T n k)))))), (oX7 z0 y0 (nI n) (nI (rn isBl T n (rn isDg T n (rn isBl T n (rn isLt T n k))))) 1 (nI (rn isBl T n (rn isDg T n (rn isBl T n (rn isLt T n k))))) z1), (aB g y0 500 tp)] H := hP
                    have hD : va_D A [(aI g t1 6 pd), (aI g t2 36 wb), (oX5 t0 t1 t2 (nI w)), (aI g z1 3 (upd nu 0 (nI (nvF T (rn isBl T n (rn isLt T n k)) (rn isDg T n (rn isBl T n (rn isLt T n k)) - rn isBl T n (rn isLt T n k)))))), (oX7 z0 y0 (nI n) (nI (rn isBl T n (rn isDg T n (rn isBl T n (rn isLt T n k))))) 1 (nI (rn isBl T n (rn isDg T n (rn isBl T n (rn isLt T n k))))) z1), (aB g y0 500 tp)] := hD
                    have hP := hP.sub (ws' := [(oX7 z0 y0 (nI n) (nI (rn isBl T n (rn isDg T n (rn isBl T n (rn isLt T n k))))) 1 (nI (rn isBl T n (rn isDg T n (rn isBl T n (rn isLt T n k))))) z1), (aB g y0 500 tp), (aI g z1 3 (upd nu 0 (nI (nvF T (rn isBl T n (rn isLt T n k)) (rn isDg T n (rn isBl T n (rn isLt T n k)) - rn isBl T n (rn isLt T n k)))))), (oX5 t0 t1 t2 (nI w)), (aI g t1 6 pd), (aI g t2 36 wb)]) [4, 5, 3, 2, 0, 1] rfl
                    have hD := hD.sub (ws' := [(oX7 z0 y0 (nI n) (nI (rn isBl T n (rn isDg T n (rn isBl T n (rn isLt T n k))))) 1 (nI (rn isBl T n (rn isDg T n (rn isBl T n (rn isLt T n k))))) z1), (aB g y0 500 tp), (aI g z1 3 (upd nu 0 (nI (nvF T (rn isBl T n (rn isLt T n k)) (rn isDg T n (rn isBl T n (rn isLt T n k)) - rn isBl T n (rn isLt T n k)))))), (oX5 t0 t1 t2 (nI w)), (aI g t1 6 pd), (aI g t2 36 wb)]) [4, 5, 3, 2, 0, 1] (by decide) rfl
                    exact he_rz hQ hx hb hr hlk hP hD hS dX7_readPart_154 (Nat.le_of_ble_eq_true rfl) (Nat.le_of_ble_eq_true rfl) rfl (((rn isBl T n (rn isDg T n (rn isBl T n (rn isLt T n k)))), 1, nI (rn isBl T n (rn isDg T n (rn isBl T n (rn isLt T n k)))), upd nu 0 (nI (nvF T (rn isBl T n (rn isLt T n k)) (rn isDg T n (rn isBl T n (rn isLt T n k)) - rn isBl T n (rn isLt T n k)))), pd, wb)) (rfl) ((by have hP9 : ptS T n wl5 (bd5 w) (fl5 bf) k = _ := ptS_c (bd := bd5 w) hw hfl0 (nmS_s hm0 ((wi_b (lo := 0) (hx := 100) (by (try dsimp only); decide) (by (try dsimp only); decide) (by (try dsimp only); decide) (by (try dsimp only); decide) (nv_le _ _ _)).mp hv0) rfl) hsc; exact ⟨by rw [hP9], Or.inl ⟨1, _, by rw [hP9], rfl, rfl, rfl, rfl, rfl⟩⟩))
                  refine lv_aload_n hx hb dX7_readPart_120 rfl (lv_at hl 4 rfl) ?_
                  refine va_get (v := .int (nI (rn isBl T n (rn isDg T n (rn isBl T n (rn isLt T n k)))))) (T := TX7) (N := 6) hx hb hts inX7 hown hK hP 4 rfl rfl 2 (by decide) f32 (fun _ h9 => h9) rfl dX7_readPart_121 ?_
                  refine lv_aload_n hx hb dX7_readPart_124 rfl (lv_at hl 4 rfl) ?_
                  refine va_get (v := .int (nI n)) (T := TX7) (N := 6) hx hb hts inX7 hown hK hP 4 rfl rfl 1 (by decide) f29 (fun _ h9 => h9) rfl dX7_readPart_125 ?_
                  refine lv_icmp_ge (tgt := 145) hx hb dX7_readPart_128 (by decide) (fun c_258 => ?_) (fun c_258 => ?_)
                  · have k_259 : n ≤ rn isBl T n (rn isDg T n (rn isBl T n (rn isLt T n k))) := (he_cle (a := n) (b := rn isBl T n (rn isDg T n (rn isBl T n (rn isLt T n k)))) rfl rfl (by omega) (by omega)).mp c_258
                    exact join145 () (fun h9 => absurd h9.1 (by omega)) _ _ _ hP hD hS (lv_sub hl [0, 1, 2, 3, 4, 5, 6] rfl)
                  · have k_260 : ¬ (n ≤ rn isBl T n (rn isDg T n (rn isBl T n (rn isLt T n k)))) := fun h9 => c_258 ((he_cle (a := n) (b := rn isBl T n (rn isDg T n (rn isBl T n (rn isLt T n k)))) rfl rfl (by omega) (by omega)).mpr h9)
                    refine lv_aload_n hx hb dX7_readPart_131 rfl (lv_at hl 4 rfl) ?_
                    refine va_get (v := .ref y0) (T := TX7) (N := 6) hx hb hts inX7 hown hK hP 4 rfl rfl 0 (by decide) f9 (fun _ h9 => h9) rfl dX7_readPart_132 ?_
                    refine lv_aload_n hx hb dX7_readPart_135 rfl (lv_at hl 4 rfl) ?_
                    refine va_get (v := .int (nI (rn isBl T n (rn isDg T n (rn isBl T n (rn isLt T n k)))))) (T := TX7) (N := 6) hx hb hts inX7 hown hK hP 4 rfl rfl 2 (by decide) f32 (fun _ h9 => h9) rfl dX7_readPart_136 ?_
                    refine he_bald hx hb hK hP 5 rfl (rn isBl T n (rn isDg T n (rn isBl T n (rn isLt T n k)))) rfl (by first | assumption | decide | omega) (by first | decide | assumption) (tp (rn isBl T n (rn isDg T n (rn isBl T n (rn isLt T n k))))) rfl dX7_readPart_139 ?_
                    refine lv_bipush (v := 59) hx hb dX7_readPart_140 (by decide) ?_
                    refine lv_icmp_eq (tgt := 155) hx hb dX7_readPart_142 (by decide) (fun c_261 => ?_) (fun c_261 => ?_)
                    · have hso : rn isBl T n (rn isDg T n (rn isBl T n (rn isLt T n k))) < n ∧ T (rn isBl T n (rn isDg T n (rn isBl T n (rn isLt T n k)))) = 59 := ⟨by omega, (cB (hT _ (by omega))).1.2.mp c_261⟩
                      refine lv_aload_n hx hb dX7_readPart_155 rfl (lv_at hl 4 rfl) ?_
                      refine lv_dup hx hb dX7_readPart_156 rfl ?_
                      refine va_get (v := .int (nI (rn isBl T n (rn isDg T n (rn isBl T n (rn isLt T n k)))))) (T := TX7) (N := 6) hx hb hts inX7 hown hK hP 4 rfl rfl 2 (by decide) f32 (fun _ h9 => h9) rfl dX7_readPart_157 ?_
                      refine lv_iconst (v := 1) hx hb dX7_readPart_160 (by decide) ?_
                      refine lv_iadd hx hb dX7_readPart_161 ?_
                      refine he_top (nI (rn isBl T n (rn isDg T n (rn isBl T n (rn isLt T n k))) + 1)) (nI_add (rn isBl T n (rn isDg T n (rn isBl T n (rn isLt T n k)))) 1) ?_
                      refine va_put (v := .int (nI (rn isBl T n (rn isDg T n (rn isBl T n (rn isLt T n k))) + 1))) (ty := .int) (T := TX7) (N := 6) hx hb hts inX7 tyX7 tyX7_ok nmX7 hown hK hP hD hS 4 rfl rfl 2 (by decide) f32 (fun _ h9 => h9) rfl (by decide +kernel) rfl rfl (Nat.le_of_ble_eq_true rfl) dX7_readPart_162 (fun H locs hP hD hS => ?_)
                      have hP : va_P g.1 vwCl [(aI g t1 6 pd), (aI g t2 36 wb), (oX5 t0 t1 t2 (nI w)), (aI g z1 3 (upd nu 0 (nI (nvF T (rn isBl T n (rn isLt T n k)) (rn isDg T n (rn isBl T n (rn isLt T n k)) - rn isBl T n (rn isLt T n k)))))), (oX7 z0 y0 (nI n) (nI (rn isBl T n (rn isDg T n (rn isBl T n (rn isLt T n k))) + 1)) fa pl z1), (aB g y0 500 tp)] H := hP
                      have hD : va_D A [(aI g t1 6 pd), (aI g t2 36 wb), (oX5 t0 t1 t2 (nI w)), (aI g z1 3 (upd nu 0 (nI (nvF T (rn isBl T n (rn isLt T n k)) (rn isDg T n (rn isBl T n (rn isLt T n k)) - rn isBl T n (rn isLt T n k)))))), (oX7 z0 y0 (nI n) (nI (rn isBl T n (rn isDg T n (rn isBl T n (rn isLt T n k))) + 1)) fa pl z1), (aB g y0 500 tp)] := hD
                      refine lv_aload_n hx hb dX7_readPart_165 rfl (lv_at hl 5 rfl) ?_
                      refine lv_iload hx hb dX7_readPart_166 (lv_at hl 2 rfl) ?_
                      refine lv_aload_n hx hb dX7_readPart_168 rfl (lv_at hl 4 rfl) ?_
                      refine va_get (v := .ref z1) (T := TX7) (N := 6) hx hb hts inX7 hown hK hP 4 rfl rfl 5 (by decide) f19 (fun _ h9 => h9) rfl dX7_readPart_169 ?_
                      refine he_cv (wc := [(oX5 t0 t1 t2 (nI w)), (aI g t1 6 pd), (aI g t2 36 wb), (aI g z1 3 (upd nu 0 (nI (nvF T (rn isBl T n (rn isLt T n k)) (rn isDg T n (rn isBl T n (rn isLt T n k)) - rn isBl T n (rn isLt T n k))))))]) (wr := [(oX7 z0 y0 (nI n) (nI (rn isBl T n (rn isDg T n (rn isBl T n (rn isLt T n k))) + 1)) fa pl z1), (aB g y0 500 tp)]) (va_runU (As := [.int 4, .ref z1]) (rest := []) ⟨hx, hb, hml, hown, hts⟩ (p_X5_store_4 l g t0 t1 t2 w pd wb z1 (upd nu 0 (nI (nvF T (rn isBl T n (rn isLt T n k)) (rn isDg T n (rn isBl T n (rn isLt T n k)) - rn isBl T n (rn isLt T n k))))) H.size) (va_cwA 2 hts gX7_readPart_X5_store_u83X5 rfl rfl rfl dc83 (by decide +kernel) ⟨Nat.le_of_ble_eq_true rfl, Nat.le_of_ble_eq_true rfl⟩) (he_preV (wc := [(oX5 t0 t1 t2 (nI w)), (aI g t1 6 pd), (aI g t2 36 wb), (aI g z1 3 (upd nu 0 (nI (nvF T (rn isBl T n (rn isLt T n k)) (rn isDg T n (rn isBl T n (rn isLt T n k)) - rn isBl T n (rn isLt T n k))))))]) hK hP hD hS hA hE [2, 0, 1, 3] rfl rfl 2 rfl rfl) rfl rfl hl.1 rfl (lv_room (Nat.le_of_ble_eq_true rfl)) dX7_readPart_172 ⟨(Nat.le_of_ble_eq_true rfl), (Nat.le_of_ble_eq_true rfl)⟩) hP hD hS hA [2, 0, 1, 3] [4, 5] rfl rfl rfl (by decide) (fun u_263 H locs h_264 hP hD hS => ?_)
                      have hP : va_P g.1 vwCl [(oX7 z0 y0 (nI n) (nI (rn isBl T n (rn isDg T n (rn isBl T n (rn isLt T n k))) + 1)) fa pl z1), (aB g y0 500 tp), (oX5 t0 t1 t2 (nI w)), (aI g t1 6 (upd pd 4 ((upd nu 0 (nI (nvF T (rn isBl T n (rn isLt T n k)) (rn isDg T n (rn isBl T n (rn isLt T n k)) - rn isBl T n (rn isLt T n k))))) 0))), (aI g t2 36 wb), (aI g z1 3 (upd nu 0 (nI (nvF T (rn isBl T n (rn isLt T n k)) (rn isDg T n (rn isBl T n (rn isLt T n k)) - rn isBl T n (rn isLt T n k))))))] H := hP
                      have hD : va_D A [(oX7 z0 y0 (nI n) (nI (rn isBl T n (rn isDg T n (rn isBl T n (rn isLt T n k))) + 1)) fa pl z1), (aB g y0 500 tp), (oX5 t0 t1 t2 (nI w)), (aI g t1 6 (upd pd 4 ((upd nu 0 (nI (nvF T (rn isBl T n (rn isLt T n k)) (rn isDg T n (rn isBl T n (rn isLt T n k)) - rn isBl T n (rn isLt T n k))))) 0))), (aI g t2 36 wb), (aI g z1 3 (upd nu 0 (nI (nvF T (rn isBl T n (rn isLt T n k)) (rn isDg T n (rn isBl T n (rn isLt T n k)) - rn isBl T n (rn isLt T n k))))))] := hD
                      refine lv_iconst (v := 1) hx hb dX7_readPart_175 (by decide) ?_
                      have hP := hP.sub (ws' := [(oX7 z0 y0 (nI n) (nI (rn isBl T n (rn isDg T n (rn isBl T n (rn isLt T n k))) + 1)) fa pl z1), (aB g y0 500 tp), (aI g z1 3 (upd nu 0 (nI (nvF T (rn isBl T n (rn isLt T n k)) (rn isDg T n (rn isBl T n (rn isLt T n k)) - rn isBl T n (rn isLt T n k)))))), (oX5 t0 t1 t2 (nI w)), (aI g t1 6 (upd pd 4 ((upd nu 0 (nI (nvF T (rn isBl T n (rn isLt T n k)) (rn isDg T n (rn isBl T n (rn isLt T n k)) - rn isBl T n (rn isLt T n k))))) 0))), (aI g t2 36 wb)]) [0, 1, 5, 2, 3, 4] rfl
                      have hD := hD.sub (ws' := [(oX7 z0 y0 (nI n) (nI (rn isBl T n (rn isDg T n (rn isBl T n (rn isLt T n k))) + 1)) fa pl z1), (aB g y0 500 tp), (aI g z1 3 (upd nu 0 (nI (nvF T (rn isBl T n (rn isLt T n k)) (rn isDg T n (rn isBl T n (rn isLt T n k)) - rn isBl T n (rn isLt T n k)))))), (oX5 t0 t1 t2 (nI w)), (aI g t1 6 (upd pd 4 ((upd nu 0 (nI (nvF T (rn isBl T n (rn isLt T n k)) (rn isDg T n (rn isBl T n (rn isLt T n k)) - rn isBl T n (rn isLt T n k))))) 0))), (aI g t2 36 wb)]) [0, 1, 5, 2, 3, 4] (by decide) rfl
                      exact he_rz hQ hx hb hr hlk hP hD hS dX7_readPart_176 (Nat.le_of_ble_eq_true rfl) (Nat.le_of_ble_eq_true rfl) rfl ((rn isBl T n (rn isDg T n (rn isBl T n (rn isLt T n k))) + 1, fa, pl, upd nu 0 (nI (nvF T (rn isBl T n (rn isLt T n k)) (rn isDg T n (rn isBl T n (rn isLt T n k)) - rn isBl T n (rn isLt T n k)))), upd pd 4 ((upd nu 0 (nI (nvF T (rn isBl T n (rn isLt T n k)) (rn isDg T n (rn isBl T n (rn isLt T n k)) - rn isBl T n (rn isLt T n k))))) 0), wb)) (rfl) ((by have hP9 : ptS T n wl5 (bd5 w) (fl5 bf) k = _ := ptS_o (bd := bd5 w) hw hfl0 (nmS_s hm0 ((wi_b (lo := 0) (hx := 100) (by (try dsimp only); decide) (by (try dsimp only); decide) (by (try dsimp only); decide) (by (try dsimp only); decide) (nv_le _ _ _)).mp hv0) rfl) hso; exact ⟨by rw [hP9], Or.inr ⟨4, _, by rw [hP9], by rw [hP9], rfl, rfl, rfl, rfl, rfl⟩⟩))
                    · exact join145 () (fun h9 => c_261 ((cB (hT _ h9.1)).1.2.mpr h9.2)) _ _ _ hP hD hS (lv_sub hl [0, 1, 2, 3, 4, 5, 6] rfl)
                · exact absurd (by decide) c_251
              · exact absurd c_250 (by decide)
        · exact absurd (by decide) c_228
    · exact absurd c_215 (by decide)
  · skip
    refine lv_iload hx hb dX7_readPart_20 (lv_at hl 0 rfl) ?_
    refine lv_iconst (v := (-1)) hx hb dX7_readPart_22 (by decide) ?_
    refine lv_icmp_ne (tgt := 33) hx hb dX7_readPart_23 (by decide) (fun c_265 => ?_) (fun c_265 => ?_)
    · have join50 : ∀ (_ : Unit), (fl5 bf 5 = true) → ∀ (H : Heap) (locs : List Loc) (ls : Array Slot), va_P g.1 vwCl [(aI g z1 3 nu), (aI g t1 6 pd), (aI g t2 36 wb), (oX5 t0 t1 t2 (nI w)), (oX7 z0 y0 (nI n) (nI (rn isLt T n k)) fa pl z1), (aB g y0 500 tp)] H → va_D A [(aI g z1 3 nu), (aI g t1 6 pd), (aI g t2 36 wb), (oX5 t0 t1 t2 (nI w)), (oX7 z0 y0 (nI n) (nI (rn isLt T n k)) fa pl z1), (aB g y0 500 tp)] → va_S A s.heap H locs → lv_has ls 7 [(4, .int 5), (3, .int (nI k)), (0, .ref z0), (1, .ref t0), (2, .int (nI bf))] → W p l e (he_room 6 135 0 0) s m args below meth c H locs 0 0 Q (F0 m 50 ls []) := by
        intro _ hfl H locs ls hP hD hS hl
        refine lv_aload_n hx hb dX7_readPart_50 rfl (lv_at hl 2 rfl) ?_
        refine lv_iconst (v := 3) hx hb dX7_readPart_51 (by decide) ?_
        refine lv_iload_n hx hb dX7_readPart_52 rfl (lv_at hl 1 rfl) ?_
        refine he_ci (wc := [(oX7 z0 y0 (nI n) (nI (rn isLt T n k)) fa pl z1), (aB g y0 500 tp)]) (wr := [(aI g z1 3 nu), (aI g t1 6 pd), (aI g t2 36 wb), (oX5 t0 t1 t2 (nI w))]) (va_runV (As := [.int 3, .int (nI k)]) (rest := []) ⟨hx, hb, hml, hown, hts⟩ (g_X7_fail l g z0 z1 y0 n (rn isLt T n k) fa pl tp 3 (nI k) H.size) (cwV 2 hts gX7_readPart_X7_fail rfl rfl rfl (by decide +kernel) ⟨Nat.le_of_ble_eq_true rfl, Nat.le_of_ble_eq_true rfl⟩) (he_preV (wc := [(oX7 z0 y0 (nI n) (nI (rn isLt T n k)) fa pl z1), (aB g y0 500 tp)]) hK hP hD hS hA hE [4, 5] rfl rfl 4 rfl rfl) rfl rfl hl.1 rfl (lv_room (Nat.le_of_ble_eq_true rfl)) dX7_readPart_53 ⟨(Nat.le_of_ble_eq_true rfl), (Nat.le_of_ble_eq_true rfl)⟩) hP hD hS hA [4, 5] [0, 1, 2, 3] rfl rfl rfl (by decide) (fun r_266 u_267 H locs h_268 hP hD hS => ?_)
        subst h_268
        have hP : va_P g.1 vwCl [(aI g z1 3 nu), (aI g t1 6 pd), (aI g t2 36 wb), (oX5 t0 t1 t2 (nI w)), (oX7 z0 y0 (nI n) (nI (rn isLt T n k)) 3 (nI k) z1), (aB g y0 500 tp)] H := hP
        have hD : va_D A [(aI g z1 3 nu), (aI g t1 6 pd), (aI g t2 36 wb), (oX5 t0 t1 t2 (nI w)), (oX7 z0 y0 (nI n) (nI (rn isLt T n k)) 3 (nI k) z1), (aB g y0 500 tp)] := hD
        have hP := hP.sub (ws' := [(oX7 z0 y0 (nI n) (nI (rn isLt T n k)) 3 (nI k) z1), (aB g y0 500 tp), (aI g z1 3 nu), (oX5 t0 t1 t2 (nI w)), (aI g t1 6 pd), (aI g t2 36 wb)]) [4, 5, 0, 3, 1, 2] rfl
        have hD := hD.sub (ws' := [(oX7 z0 y0 (nI n) (nI (rn isLt T n k)) 3 (nI k) z1), (aB g y0 500 tp), (aI g z1 3 nu), (oX5 t0 t1 t2 (nI w)), (aI g t1 6 pd), (aI g t2 36 wb)]) [4, 5, 0, 3, 1, 2] (by decide) rfl
        exact he_rz hQ hx hb hr hlk hP hD hS dX7_readPart_56 (Nat.le_of_ble_eq_true rfl) (Nat.le_of_ble_eq_true rfl) rfl (((rn isLt T n k), 3, nI k, nu, pd, wb)) (rfl) ((by have hP9 : ptS T n wl5 (bd5 w) (fl5 bf) k = _ := ptS_3 hw hfl; exact ⟨by rw [hP9], Or.inl ⟨3, k, by rw [hP9], rfl, rfl, rfl, rfl, rfl⟩⟩))
      refine lv_iload_n hx hb dX7_readPart_33 rfl (lv_at hl 4 rfl) ?_
      refine lv_aload_n hx hb dX7_readPart_34 rfl (lv_at hl 3 rfl) ?_
      refine he_ci (wc := [(oX5 t0 t1 t2 (nI w))]) (wr := [(aI g z1 3 nu), (aI g t1 6 pd), (aI g t2 36 wb), (oX7 z0 y0 (nI n) (nI (rn isLt T n k)) fa pl z1), (aB g y0 500 tp)]) (va_runU (As := []) (rest := [.int (nI bf)]) ⟨hx, hb, hml, hown, hts⟩ (c_X5_mostParts l g t0 t1 t2 (nI w) H.size) (va_cwA 0 hts gX7_readPart_X5_mostParts_u38X5 rfl rfl rfl dc38 (by decide +kernel) ⟨Nat.le_of_ble_eq_true rfl, Nat.le_of_ble_eq_true rfl⟩) (he_preV (wc := [(oX5 t0 t1 t2 (nI w))]) hK hP hD hS hA hE [3] rfl rfl 3 rfl rfl) rfl rfl hl.1 rfl (lv_room (Nat.le_of_ble_eq_true rfl)) dX7_readPart_35 ⟨(Nat.le_of_ble_eq_true rfl), (Nat.le_of_ble_eq_true rfl)⟩) hP hD hS hA [3] [0, 1, 2, 4, 5] rfl rfl rfl (by decide) (fun r_269 u_270 H locs h_271 hP hD hS => ?_)
      subst h_271
      have hP : va_P g.1 vwCl [(aI g z1 3 nu), (aI g t1 6 pd), (aI g t2 36 wb), (oX7 z0 y0 (nI n) (nI (rn isLt T n k)) fa pl z1), (aB g y0 500 tp), (oX5 t0 t1 t2 (nI w))] H := hP
      have hD : va_D A [(aI g z1 3 nu), (aI g t1 6 pd), (aI g t2 36 wb), (oX7 z0 y0 (nI n) (nI (rn isLt T n k)) fa pl z1), (aB g y0 500 tp), (oX5 t0 t1 t2 (nI w))] := hD
      refine lv_icmp_ge (tgt := 50) hx hb dX7_readPart_38 (by decide) (fun c_272 => ?_) (fun c_272 => ?_)
      · have k_273 : 20 ≤ bf := (he_cle (a := 20) (b := bf) (by decide) rfl (by omega) (by omega)).mp c_272
        exact join50 () (fl5_t (by omega)) _ _ _ (hP.sub [0, 1, 2, 5, 3, 4] rfl) (hD.sub [0, 1, 2, 5, 3, 4] (by decide) rfl) hS (lv_sub hl [0, 1, 2, 3, 4] rfl)
      · have k_274 : ¬ (20 ≤ bf) := fun h9 => c_272 ((he_cle (a := 20) (b := bf) (by decide) rfl (by omega) (by omega)).mpr h9)
        refine lv_aload_n hx hb dX7_readPart_41 rfl (lv_at hl 3 rfl) ?_
        refine lv_iload hx hb dX7_readPart_42 (lv_at hl 0 rfl) ?_
        refine he_ci (wc := [(oX5 t0 t1 t2 (nI w))]) (wr := [(aI g z1 3 nu), (aI g t1 6 pd), (aI g t2 36 wb), (oX7 z0 y0 (nI n) (nI (rn isLt T n k)) fa pl z1), (aB g y0 500 tp)]) (va_runU (As := [.int 5]) (rest := []) ⟨hx, hb, hml, hown, hts⟩ (p_X5_isFull l g t0 t1 t2 w 5 H.size) (va_cwA 1 hts gX7_readPart_X5_isFull_u66X5 rfl rfl rfl dc66 (by decide +kernel) ⟨Nat.le_of_ble_eq_true rfl, Nat.le_of_ble_eq_true rfl⟩) (he_preV (wc := [(oX5 t0 t1 t2 (nI w))]) hK hP hD hS hA hE [5] rfl rfl 5 rfl rfl) rfl rfl hl.1 rfl (lv_room (Nat.le_of_ble_eq_true rfl)) dX7_readPart_44 ⟨(Nat.le_of_ble_eq_true rfl), (Nat.le_of_ble_eq_true rfl)⟩) hP hD hS hA [5] [0, 1, 2, 3, 4] rfl rfl rfl (by decide) (fun r_275 u_276 H locs h_277 hP hD hS => ?_)
        subst h_277
        have hP : va_P g.1 vwCl [(aI g z1 3 nu), (aI g t1 6 pd), (aI g t2 36 wb), (oX7 z0 y0 (nI n) (nI (rn isLt T n k)) fa pl z1), (aB g y0 500 tp), (oX5 t0 t1 t2 (nI w))] H := hP
        have hD : va_D A [(aI g z1 3 nu), (aI g t1 6 pd), (aI g t2 36 wb), (oX7 z0 y0 (nI n) (nI (rn isLt T n k)) fa pl z1), (aB g y0 500 tp), (oX5 t0 t1 t2 (nI w))] := hD
        refine lv_if_eq (tgt := 57) hx hb dX7_readPart_47 (by decide) (fun c_278 => ?_) (fun c_278 => ?_)
        · have hfl0 : fl5 bf 5 = false := fl5_f (fun h9 => by omega)
          refine lv_aload_n hx hb dX7_readPart_57 rfl (lv_at hl 3 rfl) ?_
          refine lv_iload hx hb dX7_readPart_58 (lv_at hl 0 rfl) ?_
          refine he_ci (wc := [(oX5 t0 t1 t2 (nI w))]) (wr := [(aI g z1 3 nu), (aI g t1 6 pd), (aI g t2 36 wb), (oX7 z0 y0 (nI n) (nI (rn isLt T n k)) fa pl z1), (aB g y0 500 tp)]) (va_runU (As := [.int 5]) (rest := []) ⟨hx, hb, hml, hown, hts⟩ (p_X5_numbers_5 l g t0 t1 t2 w H.size) (va_cwA 1 hts gX7_readPart_X5_numbers_u70X5 rfl rfl rfl dc70 (by decide +kernel) ⟨Nat.le_of_ble_eq_true rfl, Nat.le_of_ble_eq_true rfl⟩) (he_preV (wc := [(oX5 t0 t1 t2 (nI w))]) hK hP hD hS hA hE [5] rfl rfl 5 rfl rfl) rfl rfl hl.1 rfl (lv_room (Nat.le_of_ble_eq_true rfl)) dX7_readPart_60 ⟨(Nat.le_of_ble_eq_true rfl), (Nat.le_of_ble_eq_true rfl)⟩) hP hD hS hA [5] [0, 1, 2, 3, 4] rfl rfl rfl (by decide) (fun r_279 u_280 H locs h_281 hP hD hS => ?_)
          subst h_281
          have hP : va_P g.1 vwCl [(aI g z1 3 nu), (aI g t1 6 pd), (aI g t2 36 wb), (oX7 z0 y0 (nI n) (nI (rn isLt T n k)) fa pl z1), (aB g y0 500 tp), (oX5 t0 t1 t2 (nI w))] H := hP
          have hD : va_D A [(aI g z1 3 nu), (aI g t1 6 pd), (aI g t2 36 wb), (oX7 z0 y0 (nI n) (nI (rn isLt T n k)) fa pl z1), (aB g y0 500 tp), (oX5 t0 t1 t2 (nI w))] := hD
          refine lv_aload_n hx hb dX7_readPart_63 rfl (lv_at hl 2 rfl) ?_
          refine va_get (v := .ref z1) (T := TX7) (N := 6) hx hb hts inX7 hown hK hP 3 rfl rfl 5 (by decide) f19 (fun _ h9 => h9) rfl dX7_readPart_64 ?_
          refine va_alen (v := 3) hx hb hK hP 0 1 rfl rfl rfl dX7_readPart_67 ?_
          refine va_mmin hx hb (by rw [hml]; exact hl.1.symm) hown ml23 msmin mi mcmin (by decide) (Nat.le_of_ble_eq_true rfl) (Nat.le_of_ble_eq_true rfl) (Nat.le_of_ble_eq_true rfl) dX7_readPart_68 ?_
          refine he_top (1) (by decide) ?_
          refine lv_istore (lv' := [(5, .int 1), (4, .int 5), (3, .int (nI k)), (0, .ref z0), (1, .ref t0), (2, .int (nI bf))]) hx hb dX7_readPart_71 hl (by decide) rfl (fun ls hl => ?_)
          refine lv_iconst (v := 0) hx hb dX7_readPart_73 (by decide) ?_
          refine lv_istore (lv' := [(6, .int 0), (5, .int 1), (4, .int 5), (3, .int (nI k)), (0, .ref z0), (1, .ref t0), (2, .int (nI bf))]) hx hb dX7_readPart_74 hl (by decide) rfl (fun ls hl => ?_)
          refine lv_iload hx hb dX7_readPart_76 (lv_at hl 0 rfl) ?_
          refine lv_iload hx hb dX7_readPart_78 (lv_at hl 1 rfl) ?_
          refine lv_icmp_ge (tgt := 116) hx hb dX7_readPart_80 (by decide) (fun c_282 => ?_) (fun c_282 => ?_)
          · exact absurd c_282 (by decide)
          · refine lv_aload_n hx hb dX7_readPart_83 rfl (lv_at hl 4 rfl) ?_
            refine lv_iload hx hb dX7_readPart_84 (lv_at hl 0 rfl) ?_
            refine lv_aload_n hx hb dX7_readPart_86 rfl (lv_at hl 5 rfl) ?_
            refine lv_iload hx hb dX7_readPart_87 (lv_at hl 2 rfl) ?_
            refine lv_iload hx hb dX7_readPart_89 (lv_at hl 0 rfl) ?_
            refine he_ci (wc := [(oX5 t0 t1 t2 (nI w))]) (wr := [(aI g z1 3 nu), (aI g t1 6 pd), (aI g t2 36 wb), (oX7 z0 y0 (nI n) (nI (rn isLt T n k)) fa pl z1), (aB g y0 500 tp)]) (va_runU (As := [.int 5, .int 0]) (rest := [.int 0, .ref z0]) ⟨hx, hb, hml, hown, hts⟩ (p_X5_low_5_0 l g t0 t1 t2 w H.size) (va_cwA 2 hts gX7_readPart_X5_low_u73X5 rfl rfl rfl dc73 (by decide +kernel) ⟨Nat.le_of_ble_eq_true rfl, Nat.le_of_ble_eq_true rfl⟩) (he_preV (wc := [(oX5 t0 t1 t2 (nI w))]) hK hP hD hS hA hE [5] rfl rfl 5 rfl rfl) rfl rfl hl.1 rfl (lv_room (Nat.le_of_ble_eq_true rfl)) dX7_readPart_91 ⟨(Nat.le_of_ble_eq_true rfl), (Nat.le_of_ble_eq_true rfl)⟩) hP hD hS hA [5] [0, 1, 2, 3, 4] rfl rfl rfl (by decide) (fun r_283 u_284 H locs h_285 hP hD hS => ?_)
            subst h_285
            have hP : va_P g.1 vwCl [(aI g z1 3 nu), (aI g t1 6 pd), (aI g t2 36 wb), (oX7 z0 y0 (nI n) (nI (rn isLt T n k)) fa pl z1), (aB g y0 500 tp), (oX5 t0 t1 t2 (nI w))] H := hP
            have hD : va_D A [(aI g z1 3 nu), (aI g t1 6 pd), (aI g t2 36 wb), (oX7 z0 y0 (nI n) (nI (rn isLt T n k)) fa pl z1), (aB g y0 500 tp), (oX5 t0 t1 t2 (nI w))] := hD
            refine lv_aload_n hx hb dX7_readPart_94 rfl (lv_at hl 5 rfl) ?_
            refine lv_iload hx hb dX7_readPart_95 (lv_at hl 2 rfl) ?_
            refine lv_iload hx hb dX7_readPart_97 (lv_at hl 0 rfl) ?_
            refine he_ci (wc := [(oX5 t0 t1 t2 (nI w))]) (wr := [(aI g z1 3 nu), (aI g t1 6 pd), (aI g t2 36 wb), (oX7 z0 y0 (nI n) (nI (rn isLt T n k)) fa pl z1), (aB g y0 500 tp)]) (va_runU (As := [.int 5, .int 0]) (rest := [.int 1, .int 0, .ref z0]) ⟨hx, hb, hml, hown, hts⟩ (p_X5_high_5_0 l g t0 t1 t2 w H.size) (va_cwA 2 hts gX7_readPart_X5_high_u76X5 rfl rfl rfl dc76 (by decide +kernel) ⟨Nat.le_of_ble_eq_true rfl, Nat.le_of_ble_eq_true rfl⟩) (he_preV (wc := [(oX5 t0 t1 t2 (nI w))]) hK hP hD hS hA hE [5] rfl rfl 5 rfl rfl) rfl rfl hl.1 rfl (lv_room (Nat.le_of_ble_eq_true rfl)) dX7_readPart_99 ⟨(Nat.le_of_ble_eq_true rfl), (Nat.le_of_ble_eq_true rfl)⟩) hP hD hS hA [5] [0, 1, 2, 3, 4] rfl rfl rfl (by decide) (fun r_286 u_287 H locs h_288 hP hD hS => ?_)
            subst h_288
            have hP : va_P g.1 vwCl [(aI g z1 3 nu), (aI g t1 6 pd), (aI g t2 36 wb), (oX7 z0 y0 (nI n) (nI (rn isLt T n k)) fa pl z1), (aB g y0 500 tp), (oX5 t0 t1 t2 (nI w))] H := hP
            have hD : va_D A [(aI g z1 3 nu), (aI g t1 6 pd), (aI g t2 36 wb), (oX7 z0 y0 (nI n) (nI (rn isLt T n k)) fa pl z1), (aB g y0 500 tp), (oX5 t0 t1 t2 (nI w))] := hD
            refine he_ci (wc := [(oX7 z0 y0 (nI n) (nI (rn isLt T n k)) fa pl z1), (aB g y0 500 tp), (aI g z1 3 nu)]) (wr := [(aI g t1 6 pd), (aI g t2 36 wb), (oX5 t0 t1 t2 (nI w))]) (va_runV (As := [.int 0, .int 1, .int 36]) (rest := []) ⟨hx, hb, hml, hown, hts⟩ (p_X7_readNumber l g z0 z1 y0 n (rn isLt T n k) fa pl tp T nu 0 1 36 (by have h0 := rn_le (P := isLt) (T := T) hk; exact h0) (by first | assumption | decide | omega) (by first | assumption | decide | omega) (by decide) H.size) (cwV 3 hts gX7_readPart_X7_readNumber rfl rfl rfl (by decide +kernel) ⟨Nat.le_of_ble_eq_true rfl, Nat.le_of_ble_eq_true rfl⟩) (he_preV (wc := [(oX7 z0 y0 (nI n) (nI (rn isLt T n k)) fa pl z1), (aB g y0 500 tp), (aI g z1 3 nu)]) hK hP hD hS hA hE [3, 4, 0] rfl rfl 3 rfl rfl) rfl rfl hl.1 rfl (lv_room (Nat.le_of_ble_eq_true rfl)) dX7_readPart_102 ⟨(Nat.le_of_ble_eq_true rfl), (Nat.le_of_ble_eq_true rfl)⟩) hP hD hS hA [3, 4, 0] [1, 2, 5] rfl rfl rfl (by decide) (fun r_289 u_290 H locs h_291 hP hD hS => ?_)
            obtain ⟨k2_292, fb_293, pb_294, nv_295⟩ := u_290
            try dsimp only at h_291
            obtain ⟨hf_296, hf_297⟩ := h_291
            have hP : va_P g.1 vwCl [(aI g t1 6 pd), (aI g t2 36 wb), (oX5 t0 t1 t2 (nI w)), (oX7 z0 y0 (nI n) (nI k2_292) fb_293 pb_294 z1), (aB g y0 500 tp), (aI g z1 3 nv_295)] H := hP
            have hD : va_D A [(aI g t1 6 pd), (aI g t2 36 wb), (oX5 t0 t1 t2 (nI w)), (oX7 z0 y0 (nI n) (nI k2_292) fb_293 pb_294 z1), (aB g y0 500 tp), (aI g z1 3 nv_295)] := hD
            have hk2 := hf_296
            rcases hf_297 with ⟨hm0, hr9, hf9, hp9, hn9⟩ | ⟨hm0, hv0, hr9, hf9, hp9, hn9⟩ | ⟨hm0, hv0, hr9, hf9, hp9, hn9⟩
            · subst k2_292 r_289 fb_293 pb_294 nv_295
              have hP : va_P g.1 vwCl [(aI g t1 6 pd), (aI g t2 36 wb), (oX5 t0 t1 t2 (nI w)), (oX7 z0 y0 (nI n) (nI (rn isDg T n (rn isBl T n (rn isLt T n k)))) 1 (nI (rn isBl T n (rn isLt T n k))) z1), (aB g y0 500 tp), (aI g z1 3 nu)] H := hP
              have hD : va_D A [(aI g t1 6 pd), (aI g t2 36 wb), (oX5 t0 t1 t2 (nI w)), (oX7 z0 y0 (nI n) (nI (rn isDg T n (rn isBl T n (rn isLt T n k)))) 1 (nI (rn isBl T n (rn isLt T n k))) z1), (aB g y0 500 tp), (aI g z1 3 nu)] := hD
              refine lv_if_ne (tgt := 110) hx hb dX7_readPart_105 (by decide) (fun c_298 => ?_) (fun c_298 => ?_)
              · exact absurd (by decide) c_298
              · refine lv_iconst (v := 0) hx hb dX7_readPart_108 (by decide) ?_
                have hP := hP.sub (ws' := [(oX7 z0 y0 (nI n) (nI (rn isDg T n (rn isBl T n (rn isLt T n k)))) 1 (nI (rn isBl T n (rn isLt T n k))) z1), (aB g y0 500 tp), (aI g z1 3 nu), (oX5 t0 t1 t2 (nI w)), (aI g t1 6 pd), (aI g t2 36 wb)]) [3, 4, 5, 2, 0, 1] rfl
                have hD := hD.sub (ws' := [(oX7 z0 y0 (nI n) (nI (rn isDg T n (rn isBl T n (rn isLt T n k)))) 1 (nI (rn isBl T n (rn isLt T n k))) z1), (aB g y0 500 tp), (aI g z1 3 nu), (oX5 t0 t1 t2 (nI w)), (aI g t1 6 pd), (aI g t2 36 wb)]) [3, 4, 5, 2, 0, 1] (by decide) rfl
                exact he_rz hQ hx hb hr hlk hP hD hS dX7_readPart_109 (Nat.le_of_ble_eq_true rfl) (Nat.le_of_ble_eq_true rfl) rfl (((rn isDg T n (rn isBl T n (rn isLt T n k))), 1, nI (rn isBl T n (rn isLt T n k)), nu, pd, wb)) (rfl) ((by have hP9 : ptS T n wl5 (bd5 w) (fl5 bf) k = _ := ptS_f (bd := bd5 w) hw hfl0 (nmS_1 hm0); exact ⟨by rw [hP9], Or.inl ⟨1, _, by rw [hP9], rfl, rfl, rfl, rfl, rfl⟩⟩))
            · subst k2_292 r_289 fb_293 pb_294 nv_295
              have hP : va_P g.1 vwCl [(aI g t1 6 pd), (aI g t2 36 wb), (oX5 t0 t1 t2 (nI w)), (oX7 z0 y0 (nI n) (nI (rn isDg T n (rn isBl T n (rn isLt T n k)))) 2 (nI (rn isBl T n (rn isLt T n k))) z1), (aB g y0 500 tp), (aI g z1 3 nu)] H := hP
              have hD : va_D A [(aI g t1 6 pd), (aI g t2 36 wb), (oX5 t0 t1 t2 (nI w)), (oX7 z0 y0 (nI n) (nI (rn isDg T n (rn isBl T n (rn isLt T n k)))) 2 (nI (rn isBl T n (rn isLt T n k))) z1), (aB g y0 500 tp), (aI g z1 3 nu)] := hD
              refine lv_if_ne (tgt := 110) hx hb dX7_readPart_105 (by decide) (fun c_299 => ?_) (fun c_299 => ?_)
              · exact absurd (by decide) c_299
              · refine lv_iconst (v := 0) hx hb dX7_readPart_108 (by decide) ?_
                have hP := hP.sub (ws' := [(oX7 z0 y0 (nI n) (nI (rn isDg T n (rn isBl T n (rn isLt T n k)))) 2 (nI (rn isBl T n (rn isLt T n k))) z1), (aB g y0 500 tp), (aI g z1 3 nu), (oX5 t0 t1 t2 (nI w)), (aI g t1 6 pd), (aI g t2 36 wb)]) [3, 4, 5, 2, 0, 1] rfl
                have hD := hD.sub (ws' := [(oX7 z0 y0 (nI n) (nI (rn isDg T n (rn isBl T n (rn isLt T n k)))) 2 (nI (rn isBl T n (rn isLt T n k))) z1), (aB g y0 500 tp), (aI g z1 3 nu), (oX5 t0 t1 t2 (nI w)), (aI g t1 6 pd), (aI g t2 36 wb)]) [3, 4, 5, 2, 0, 1] (by decide) rfl
                exact he_rz hQ hx hb hr hlk hP hD hS dX7_readPart_109 (Nat.le_of_ble_eq_true rfl) (Nat.le_of_ble_eq_true rfl) rfl (((rn isDg T n (rn isBl T n (rn isLt T n k))), 2, nI (rn isBl T n (rn isLt T n k)), nu, pd, wb)) (rfl) ((by have hP9 : ptS T n wl5 (bd5 w) (fl5 bf) k = _ := ptS_f (bd := bd5 w) hw hfl0 (nmS_2 hm0 (fun h9 => absurd hv0 ((wi_b (lo := 1) (hx := 37) (by (try dsimp only); decide) (by (try dsimp only); decide) (by (try dsimp only); decide) (by (try dsimp only); decide) (nv_le _ _ _)).mpr h9))); exact ⟨by rw [hP9], Or.inl ⟨2, _, by rw [hP9], rfl, rfl, rfl, rfl, rfl⟩⟩))
            · subst k2_292 r_289 fb_293 pb_294 nv_295
              have hP : va_P g.1 vwCl [(aI g t1 6 pd), (aI g t2 36 wb), (oX5 t0 t1 t2 (nI w)), (oX7 z0 y0 (nI n) (nI (rn isDg T n (rn isBl T n (rn isLt T n k)))) fa pl z1), (aB g y0 500 tp), (aI g z1 3 (upd nu 0 (nI (nvF T (rn isBl T n (rn isLt T n k)) (rn isDg T n (rn isBl T n (rn isLt T n k)) - rn isBl T n (rn isLt T n k))))))] H := hP
              have hD : va_D A [(aI g t1 6 pd), (aI g t2 36 wb), (oX5 t0 t1 t2 (nI w)), (oX7 z0 y0 (nI n) (nI (rn isDg T n (rn isBl T n (rn isLt T n k)))) fa pl z1), (aB g y0 500 tp), (aI g z1 3 (upd nu 0 (nI (nvF T (rn isBl T n (rn isLt T n k)) (rn isDg T n (rn isBl T n (rn isLt T n k)) - rn isBl T n (rn isLt T n k))))))] := hD
              refine lv_if_ne (tgt := 110) hx hb dX7_readPart_105 (by decide) (fun c_300 => ?_) (fun c_300 => ?_)
              · refine lv_iinc (v := 1) (lv' := [(6, .int 1), (5, .int 1), (4, .int 5), (3, .int (nI k)), (0, .ref z0), (1, .ref t0), (2, .int (nI bf))]) hx hb dX7_readPart_110 hl (k := 0) rfl (by decide) (by decide) rfl (fun ls hl => ?_)
                refine lv_goto (tgt := 76) hx hb dX7_readPart_113 (by decide) ?_
                refine lv_iload hx hb dX7_readPart_76 (lv_at hl 0 rfl) ?_
                refine lv_iload hx hb dX7_readPart_78 (lv_at hl 1 rfl) ?_
                refine lv_icmp_ge (tgt := 116) hx hb dX7_readPart_80 (by decide) (fun c_301 => ?_) (fun c_301 => ?_)
                · refine lv_aload_n hx hb dX7_readPart_116 rfl (lv_at hl 4 rfl) ?_
                  refine he_cv (wc := [(oX7 z0 y0 (nI n) (nI (rn isDg T n (rn isBl T n (rn isLt T n k)))) fa pl z1), (aB g y0 500 tp)]) (wr := [(aI g t1 6 pd), (aI g t2 36 wb), (oX5 t0 t1 t2 (nI w)), (aI g z1 3 (upd nu 0 (nI (nvF T (rn isBl T n (rn isLt T n k)) (rn isDg T n (rn isBl T n (rn isLt T n k)) - rn isBl T n (rn isLt T n k))))))]) (va_runV (As := []) (rest := []) ⟨hx, hb, hml, hown, hts⟩ (p_X7_skipBlanks l g z0 z1 y0 n (rn isDg T n (rn isBl T n (rn isLt T n k))) fa pl tp T (by have h0 := rn_le (P := isLt) (T := T) hk; exact (rn_le (rn_le h0))) (by first | assumption | decide | omega) (by first | assumption | decide | omega) H.size) (cwV 0 hts gX7_readPart_X7_skipBlanks rfl rfl rfl (by decide +kernel) ⟨Nat.le_of_ble_eq_true rfl, Nat.le_of_ble_eq_true rfl⟩) (he_preV (wc := [(oX7 z0 y0 (nI n) (nI (rn isDg T n (rn isBl T n (rn isLt T n k)))) fa pl z1), (aB g y0 500 tp)]) hK hP hD hS hA hE [3, 4] rfl rfl 3 rfl rfl) rfl rfl hl.1 rfl (lv_room (Nat.le_of_ble_eq_true rfl)) dX7_readPart_117 ⟨(Nat.le_of_ble_eq_true rfl), (Nat.le_of_ble_eq_true rfl)⟩) hP hD hS hA [3, 4] [0, 1, 2, 5] rfl rfl rfl (by decide) (fun u_303 H locs h_304 hP hD hS => ?_)
                  have hP : va_P g.1 vwCl [(aI g t1 6 pd), (aI g t2 36 wb), (oX5 t0 t1 t2 (nI w)), (aI g z1 3 (upd nu 0 (nI (nvF T (rn isBl T n (rn isLt T n k)) (rn isDg T n (rn isBl T n (rn isLt T n k)) - rn isBl T n (rn isLt T n k)))))), (oX7 z0 y0 (nI n) (nI (rn isBl T n (rn isDg T n (rn isBl T n (rn isLt T n k))))) fa pl z1), (aB g y0 500 tp)] H := hP
                  have hD : va_D A [(aI g t1 6 pd), (aI g t2 36 wb), (oX5 t0 t1 t2 (nI w)), (aI g z1 3 (upd nu 0 (nI (nvF T (rn isBl T n (rn isLt T n k)) (rn isDg T n (rn isBl T n (rn isLt T n k)) - rn isBl T n (rn isLt T n k)))))), (oX7 z0 y0 (nI n) (nI (rn isBl T n (rn isDg T n (rn isBl T n (rn isLt T n k))))) fa pl z1), (aB g y0 500 tp)] := hD
                  have hAt : rn isBl T n (rn isDg T n (rn isBl T n (rn isLt T n k))) ≤ n := by have h0 := rn_le (P := isLt) (T := T) hk; exact rn_le (rn_le (rn_le h0))
                  have join145 : ∀ (_ : Unit), (¬ (rn isBl T n (rn isDg T n (rn isBl T n (rn isLt T n k))) < n ∧ T (rn isBl T n (rn isDg T n (rn isBl T n (rn isLt T n k)))) = 59)) → ∀ (H : Heap) (locs : List Loc) (ls : Array Slot), va_P g.1 vwCl [(aI g t1 6 pd), (aI g t2 36 wb), (oX5 t0 t1 t2 (nI w)), (aI g z1 3 (upd nu 0 (nI (nvF T (rn isBl T n (rn isLt T n k)) (rn isDg T n (rn isBl T n (rn isLt T n k)) - rn isBl T n (rn isLt T n k)))))), (oX7 z0 y0 (nI n) (nI (rn isBl T n (rn isDg T n (rn isBl T n (rn isLt T n k))))) fa pl z1), (aB g y0 500 tp)] H → va_D A [(aI g t1 6 pd), (aI g t2 36 wb), (oX5 t0 t1 t2 (nI w)), (aI g z1 3 (upd nu 0 (nI (nvF T (rn isBl T n (rn isLt T n k)) (rn isDg T n (rn isBl T n (rn isLt T n k)) - rn isBl T n (rn isLt T n k)))))), (oX7 z0 y0 (nI n) (nI (rn isBl T n (rn isDg T n (rn isBl T n (rn isLt T n k))))) fa pl z1), (aB g y0 500 tp)] → va_S A s.heap H locs → lv_has ls 7 [(6, .int 1), (5, .int 1), (4, .int 5), (3, .int (nI k)), (0, .ref z0), (1, .ref t0), (2, .int (nI bf))] → W p l e (he_room 6 135 0 0) s m args below meth c H locs 0 0 Q (F0 m 145 ls []) := by
                    intro _ hsc H locs ls hP hD hS hl
                    refine lv_aload_n hx hb dX7_readPart_145 rfl (lv_at hl 4 rfl) ?_
                    refine lv_iconst (v := 1) hx hb dX7_readPart_146 (by decide) ?_
                    refine lv_aload_n hx hb dX7_readPart_147 rfl (lv_at hl 4 rfl) ?_
                    refine va_get (v := .int (nI (rn isBl T n (rn isDg T n (rn isBl T n (rn isLt T n k)))))) (T := TX7) (N := 6) hx hb hts inX7 hown hK hP 4 rfl rfl 2 (by decide) f32 (fun _ h9 => h9) rfl dX7_readPart_148 ?_
                    refine he_ci (wc := [(oX7 z0 y0 (nI n) (nI (rn isBl T n (rn isDg T n (rn isBl T n (rn isLt T n k))))) fa pl z1), (aB g y0 500 tp)]) (wr := [(aI g t1 6 pd), (aI g t2 36 wb), (oX5 t0 t1 t2 (nI w)), (aI g z1 3 (upd nu 0 (nI (nvF T (rn isBl T n (rn isLt T n k)) (rn isDg T n (rn isBl T n (rn isLt T n k)) - rn isBl T n (rn isLt T n k))))))]) (va_runV (As := [.int 1, .int (nI (rn isBl T n (rn isDg T n (rn isBl T n (rn isLt T n k)))))]) (rest := []) ⟨hx, hb, hml, hown, hts⟩ (g_X7_fail l g z0 z1 y0 n (rn isBl T n (rn isDg T n (rn isBl T n (rn isLt T n k)))) fa pl tp 1 (nI (rn isBl T n (rn isDg T n (rn isBl T n (rn isLt T n k))))) H.size) (cwV 2 hts gX7_readPart_X7_fail rfl rfl rfl (by decide +kernel) ⟨Nat.le_of_ble_eq_true rfl, Nat.le_of_ble_eq_true rfl⟩) (he_preV (wc := [(oX7 z0 y0 (nI n) (nI (rn isBl T n (rn isDg T n (rn isBl T n (rn isLt T n k))))) fa pl z1), (aB g y0 500 tp)]) hK hP hD hS hA hE [4, 5] rfl rfl 4 rfl rfl) rfl rfl hl.1 rfl (lv_room (Nat.le_of_ble_eq_true rfl)) dX7_readPart_151 ⟨(Nat.le_of_ble_eq_true rfl), (Nat.le_of_ble_eq_true rfl)⟩) hP hD hS hA [4, 5] [0, 1, 2, 3] rfl rfl rfl (by decide) (fun r_305 u_306 H locs h_307 hP hD hS => ?_)
                    subst h_307
                    have hP : va_P g.1 vwCl [(aI g t1 6 pd), (aI g t2 36 wb), (oX5 t0 t1 t2 (nI w)), (aI g z1 3 (upd nu 0 (nI (nvF T (rn isBl T n (rn isLt T n k)) (rn isDg T n (rn isBl T n (rn isLt T n k)) - rn isBl T n (rn isLt T n k)))))), (oX7 z0 y0 (nI n) (nI (rn isBl T n (rn isDg T n (rn isBl T n (rn isLt T n k))))) 1 (nI (rn isBl T n (rn isDg T n (rn isBl T n (rn isLt T n k))))) z1), (aB g y0 500 tp)] H := hP
                    have hD : va_D A [(aI g t1 6 pd), (aI g t2 36 wb), (oX5 t0 t1 t2 (nI w)), (aI g z1 3 (upd nu 0 (nI (nvF T (rn isBl T n (rn isLt T n k)) (rn isDg T n (rn isBl T n (rn isLt T n k)) - rn isBl T n (rn isLt T n k)))))), (oX7 z0 y0 (nI n) (nI (rn isBl T n (rn isDg T n (rn isBl T n (rn isLt T n k))))) 1 (nI (rn isBl T n (rn isDg T n (rn isBl T n (rn isLt T n k))))) z1), (aB g y0 500 tp)] := hD
                    have hP := hP.sub (ws' := [(oX7 z0 y0 (nI n) (nI (rn isBl T n (rn isDg T n (rn isBl T n (rn isLt T n k))))) 1 (nI (rn isBl T n (rn isDg T n (rn isBl T n (rn isLt T n k))))) z1), (aB g y0 500 tp), (aI g z1 3 (upd nu 0 (nI (nvF T (rn isBl T n (rn isLt T n k)) (rn isDg T n (rn isBl T n (rn isLt T n k)) - rn isBl T n (rn isLt T n k)))))), (oX5 t0 t1 t2 (nI w)), (aI g t1 6 pd), (aI g t2 36 wb)]) [4, 5, 3, 2, 0, 1] rfl
                    have hD := hD.sub (ws' := [(oX7 z0 y0 (nI n) (nI (rn isBl T n (rn isDg T n (rn isBl T n (rn isLt T n k))))) 1 (nI (rn isBl T n (rn isDg T n (rn isBl T n (rn isLt T n k))))) z1), (aB g y0 500 tp), (aI g z1 3 (upd nu 0 (nI (nvF T (rn isBl T n (rn isLt T n k)) (rn isDg T n (rn isBl T n (rn isLt T n k)) - rn isBl T n (rn isLt T n k)))))), (oX5 t0 t1 t2 (nI w)), (aI g t1 6 pd), (aI g t2 36 wb)]) [4, 5, 3, 2, 0, 1] (by decide) rfl
                    exact he_rz hQ hx hb hr hlk hP hD hS dX7_readPart_154 (Nat.le_of_ble_eq_true rfl) (Nat.le_of_ble_eq_true rfl) rfl (((rn isBl T n (rn isDg T n (rn isBl T n (rn isLt T n k)))), 1, nI (rn isBl T n (rn isDg T n (rn isBl T n (rn isLt T n k)))), upd nu 0 (nI (nvF T (rn isBl T n (rn isLt T n k)) (rn isDg T n (rn isBl T n (rn isLt T n k)) - rn isBl T n (rn isLt T n k)))), pd, wb)) (rfl) ((by have hP9 : ptS T n wl5 (bd5 w) (fl5 bf) k = _ := ptS_c (bd := bd5 w) hw hfl0 (nmS_s hm0 ((wi_b (lo := 1) (hx := 37) (by (try dsimp only); decide) (by (try dsimp only); decide) (by (try dsimp only); decide) (by (try dsimp only); decide) (nv_le _ _ _)).mp hv0) rfl) hsc; exact ⟨by rw [hP9], Or.inl ⟨1, _, by rw [hP9], rfl, rfl, rfl, rfl, rfl⟩⟩))
                  refine lv_aload_n hx hb dX7_readPart_120 rfl (lv_at hl 4 rfl) ?_
                  refine va_get (v := .int (nI (rn isBl T n (rn isDg T n (rn isBl T n (rn isLt T n k)))))) (T := TX7) (N := 6) hx hb hts inX7 hown hK hP 4 rfl rfl 2 (by decide) f32 (fun _ h9 => h9) rfl dX7_readPart_121 ?_
                  refine lv_aload_n hx hb dX7_readPart_124 rfl (lv_at hl 4 rfl) ?_
                  refine va_get (v := .int (nI n)) (T := TX7) (N := 6) hx hb hts inX7 hown hK hP 4 rfl rfl 1 (by decide) f29 (fun _ h9 => h9) rfl dX7_readPart_125 ?_
                  refine lv_icmp_ge (tgt := 145) hx hb dX7_readPart_128 (by decide) (fun c_308 => ?_) (fun c_308 => ?_)
                  · have k_309 : n ≤ rn isBl T n (rn isDg T n (rn isBl T n (rn isLt T n k))) := (he_cle (a := n) (b := rn isBl T n (rn isDg T n (rn isBl T n (rn isLt T n k)))) rfl rfl (by omega) (by omega)).mp c_308
                    exact join145 () (fun h9 => absurd h9.1 (by omega)) _ _ _ hP hD hS (lv_sub hl [0, 1, 2, 3, 4, 5, 6] rfl)
                  · have k_310 : ¬ (n ≤ rn isBl T n (rn isDg T n (rn isBl T n (rn isLt T n k)))) := fun h9 => c_308 ((he_cle (a := n) (b := rn isBl T n (rn isDg T n (rn isBl T n (rn isLt T n k)))) rfl rfl (by omega) (by omega)).mpr h9)
                    refine lv_aload_n hx hb dX7_readPart_131 rfl (lv_at hl 4 rfl) ?_
                    refine va_get (v := .ref y0) (T := TX7) (N := 6) hx hb hts inX7 hown hK hP 4 rfl rfl 0 (by decide) f9 (fun _ h9 => h9) rfl dX7_readPart_132 ?_
                    refine lv_aload_n hx hb dX7_readPart_135 rfl (lv_at hl 4 rfl) ?_
                    refine va_get (v := .int (nI (rn isBl T n (rn isDg T n (rn isBl T n (rn isLt T n k)))))) (T := TX7) (N := 6) hx hb hts inX7 hown hK hP 4 rfl rfl 2 (by decide) f32 (fun _ h9 => h9) rfl dX7_readPart_136 ?_
                    refine he_bald hx hb hK hP 5 rfl (rn isBl T n (rn isDg T n (rn isBl T n (rn isLt T n k)))) rfl (by first | assumption | decide | omega) (by first | decide | assumption) (tp (rn isBl T n (rn isDg T n (rn isBl T n (rn isLt T n k))))) rfl dX7_readPart_139 ?_
                    refine lv_bipush (v := 59) hx hb dX7_readPart_140 (by decide) ?_
                    refine lv_icmp_eq (tgt := 155) hx hb dX7_readPart_142 (by decide) (fun c_311 => ?_) (fun c_311 => ?_)
                    · have hso : rn isBl T n (rn isDg T n (rn isBl T n (rn isLt T n k))) < n ∧ T (rn isBl T n (rn isDg T n (rn isBl T n (rn isLt T n k)))) = 59 := ⟨by omega, (cB (hT _ (by omega))).1.2.mp c_311⟩
                      refine lv_aload_n hx hb dX7_readPart_155 rfl (lv_at hl 4 rfl) ?_
                      refine lv_dup hx hb dX7_readPart_156 rfl ?_
                      refine va_get (v := .int (nI (rn isBl T n (rn isDg T n (rn isBl T n (rn isLt T n k)))))) (T := TX7) (N := 6) hx hb hts inX7 hown hK hP 4 rfl rfl 2 (by decide) f32 (fun _ h9 => h9) rfl dX7_readPart_157 ?_
                      refine lv_iconst (v := 1) hx hb dX7_readPart_160 (by decide) ?_
                      refine lv_iadd hx hb dX7_readPart_161 ?_
                      refine he_top (nI (rn isBl T n (rn isDg T n (rn isBl T n (rn isLt T n k))) + 1)) (nI_add (rn isBl T n (rn isDg T n (rn isBl T n (rn isLt T n k)))) 1) ?_
                      refine va_put (v := .int (nI (rn isBl T n (rn isDg T n (rn isBl T n (rn isLt T n k))) + 1))) (ty := .int) (T := TX7) (N := 6) hx hb hts inX7 tyX7 tyX7_ok nmX7 hown hK hP hD hS 4 rfl rfl 2 (by decide) f32 (fun _ h9 => h9) rfl (by decide +kernel) rfl rfl (Nat.le_of_ble_eq_true rfl) dX7_readPart_162 (fun H locs hP hD hS => ?_)
                      have hP : va_P g.1 vwCl [(aI g t1 6 pd), (aI g t2 36 wb), (oX5 t0 t1 t2 (nI w)), (aI g z1 3 (upd nu 0 (nI (nvF T (rn isBl T n (rn isLt T n k)) (rn isDg T n (rn isBl T n (rn isLt T n k)) - rn isBl T n (rn isLt T n k)))))), (oX7 z0 y0 (nI n) (nI (rn isBl T n (rn isDg T n (rn isBl T n (rn isLt T n k))) + 1)) fa pl z1), (aB g y0 500 tp)] H := hP
                      have hD : va_D A [(aI g t1 6 pd), (aI g t2 36 wb), (oX5 t0 t1 t2 (nI w)), (aI g z1 3 (upd nu 0 (nI (nvF T (rn isBl T n (rn isLt T n k)) (rn isDg T n (rn isBl T n (rn isLt T n k)) - rn isBl T n (rn isLt T n k)))))), (oX7 z0 y0 (nI n) (nI (rn isBl T n (rn isDg T n (rn isBl T n (rn isLt T n k))) + 1)) fa pl z1), (aB g y0 500 tp)] := hD
                      refine lv_aload_n hx hb dX7_readPart_165 rfl (lv_at hl 5 rfl) ?_
                      refine lv_iload hx hb dX7_readPart_166 (lv_at hl 2 rfl) ?_
                      refine lv_aload_n hx hb dX7_readPart_168 rfl (lv_at hl 4 rfl) ?_
                      refine va_get (v := .ref z1) (T := TX7) (N := 6) hx hb hts inX7 hown hK hP 4 rfl rfl 5 (by decide) f19 (fun _ h9 => h9) rfl dX7_readPart_169 ?_
                      refine he_cv (wc := [(oX5 t0 t1 t2 (nI w)), (aI g t1 6 pd), (aI g t2 36 wb), (aI g z1 3 (upd nu 0 (nI (nvF T (rn isBl T n (rn isLt T n k)) (rn isDg T n (rn isBl T n (rn isLt T n k)) - rn isBl T n (rn isLt T n k))))))]) (wr := [(oX7 z0 y0 (nI n) (nI (rn isBl T n (rn isDg T n (rn isBl T n (rn isLt T n k))) + 1)) fa pl z1), (aB g y0 500 tp)]) (va_runU (As := [.int 5, .ref z1]) (rest := []) ⟨hx, hb, hml, hown, hts⟩ (p_X5_store_5 l g t0 t1 t2 w pd wb z1 (upd nu 0 (nI (nvF T (rn isBl T n (rn isLt T n k)) (rn isDg T n (rn isBl T n (rn isLt T n k)) - rn isBl T n (rn isLt T n k))))) H.size) (va_cwA 2 hts gX7_readPart_X5_store_u83X5 rfl rfl rfl dc83 (by decide +kernel) ⟨Nat.le_of_ble_eq_true rfl, Nat.le_of_ble_eq_true rfl⟩) (he_preV (wc := [(oX5 t0 t1 t2 (nI w)), (aI g t1 6 pd), (aI g t2 36 wb), (aI g z1 3 (upd nu 0 (nI (nvF T (rn isBl T n (rn isLt T n k)) (rn isDg T n (rn isBl T n (rn isLt T n k)) - rn isBl T n (rn isLt T n k))))))]) hK hP hD hS hA hE [2, 0, 1, 3] rfl rfl 2 rfl rfl) rfl rfl hl.1 rfl (lv_room (Nat.le_of_ble_eq_true rfl)) dX7_readPart_172 ⟨(Nat.le_of_ble_eq_true rfl), (Nat.le_of_ble_eq_true rfl)⟩) hP hD hS hA [2, 0, 1, 3] [4, 5] rfl rfl rfl (by decide) (fun u_313 H locs h_314 hP hD hS => ?_)
                      have hP : va_P g.1 vwCl [(oX7 z0 y0 (nI n) (nI (rn isBl T n (rn isDg T n (rn isBl T n (rn isLt T n k))) + 1)) fa pl z1), (aB g y0 500 tp), (oX5 t0 t1 t2 (nI w)), (aI g t1 6 (upd pd 5 ((upd nu 0 (nI (nvF T (rn isBl T n (rn isLt T n k)) (rn isDg T n (rn isBl T n (rn isLt T n k)) - rn isBl T n (rn isLt T n k))))) 0))), (aI g t2 36 wb), (aI g z1 3 (upd nu 0 (nI (nvF T (rn isBl T n (rn isLt T n k)) (rn isDg T n (rn isBl T n (rn isLt T n k)) - rn isBl T n (rn isLt T n k))))))] H := hP
                      have hD : va_D A [(oX7 z0 y0 (nI n) (nI (rn isBl T n (rn isDg T n (rn isBl T n (rn isLt T n k))) + 1)) fa pl z1), (aB g y0 500 tp), (oX5 t0 t1 t2 (nI w)), (aI g t1 6 (upd pd 5 ((upd nu 0 (nI (nvF T (rn isBl T n (rn isLt T n k)) (rn isDg T n (rn isBl T n (rn isLt T n k)) - rn isBl T n (rn isLt T n k))))) 0))), (aI g t2 36 wb), (aI g z1 3 (upd nu 0 (nI (nvF T (rn isBl T n (rn isLt T n k)) (rn isDg T n (rn isBl T n (rn isLt T n k)) - rn isBl T n (rn isLt T n k))))))] := hD
                      refine lv_iconst (v := 1) hx hb dX7_readPart_175 (by decide) ?_
                      have hP := hP.sub (ws' := [(oX7 z0 y0 (nI n) (nI (rn isBl T n (rn isDg T n (rn isBl T n (rn isLt T n k))) + 1)) fa pl z1), (aB g y0 500 tp), (aI g z1 3 (upd nu 0 (nI (nvF T (rn isBl T n (rn isLt T n k)) (rn isDg T n (rn isBl T n (rn isLt T n k)) - rn isBl T n (rn isLt T n k)))))), (oX5 t0 t1 t2 (nI w)), (aI g t1 6 (upd pd 5 ((upd nu 0 (nI (nvF T (rn isBl T n (rn isLt T n k)) (rn isDg T n (rn isBl T n (rn isLt T n k)) - rn isBl T n (rn isLt T n k))))) 0))), (aI g t2 36 wb)]) [0, 1, 5, 2, 3, 4] rfl
                      have hD := hD.sub (ws' := [(oX7 z0 y0 (nI n) (nI (rn isBl T n (rn isDg T n (rn isBl T n (rn isLt T n k))) + 1)) fa pl z1), (aB g y0 500 tp), (aI g z1 3 (upd nu 0 (nI (nvF T (rn isBl T n (rn isLt T n k)) (rn isDg T n (rn isBl T n (rn isLt T n k)) - rn isBl T n (rn isLt T n k)))))), (oX5 t0 t1 t2 (nI w)), (aI g t1 6 (upd pd 5 ((upd nu 0 (nI (nvF T (rn isBl T n (rn isLt T n k)) (rn isDg T n (rn isBl T n (rn isLt T n k)) - rn isBl T n (rn isLt T n k))))) 0))), (aI g t2 36 wb)]) [0, 1, 5, 2, 3, 4] (by decide) rfl
                      exact he_rz hQ hx hb hr hlk hP hD hS dX7_readPart_176 (Nat.le_of_ble_eq_true rfl) (Nat.le_of_ble_eq_true rfl) rfl ((rn isBl T n (rn isDg T n (rn isBl T n (rn isLt T n k))) + 1, fa, pl, upd nu 0 (nI (nvF T (rn isBl T n (rn isLt T n k)) (rn isDg T n (rn isBl T n (rn isLt T n k)) - rn isBl T n (rn isLt T n k)))), upd pd 5 ((upd nu 0 (nI (nvF T (rn isBl T n (rn isLt T n k)) (rn isDg T n (rn isBl T n (rn isLt T n k)) - rn isBl T n (rn isLt T n k))))) 0), wb)) (rfl) ((by have hP9 : ptS T n wl5 (bd5 w) (fl5 bf) k = _ := ptS_o (bd := bd5 w) hw hfl0 (nmS_s hm0 ((wi_b (lo := 1) (hx := 37) (by (try dsimp only); decide) (by (try dsimp only); decide) (by (try dsimp only); decide) (by (try dsimp only); decide) (nv_le _ _ _)).mp hv0) rfl) hso; exact ⟨by rw [hP9], Or.inr ⟨5, _, by rw [hP9], by rw [hP9], rfl, rfl, rfl, rfl, rfl⟩⟩))
                    · exact join145 () (fun h9 => c_311 ((cB (hT _ h9.1)).1.2.mpr h9.2)) _ _ _ hP hD hS (lv_sub hl [0, 1, 2, 3, 4, 5, 6] rfl)
                · exact absurd (by decide) c_301
              · exact absurd c_300 (by decide)
        · exact absurd (by decide) c_278
    · exact absurd c_265 (by decide)
  · skip
    refine lv_iload hx hb dX7_readPart_20 (lv_at hl 0 rfl) ?_
    refine lv_iconst (v := (-1)) hx hb dX7_readPart_22 (by decide) ?_
    refine lv_icmp_ne (tgt := 33) hx hb dX7_readPart_23 (by decide) (fun c_315 => ?_) (fun c_315 => ?_)
    · have join50 : ∀ (_ : Unit), (fl5 bf 6 = true) → ∀ (H : Heap) (locs : List Loc) (ls : Array Slot), va_P g.1 vwCl [(aI g z1 3 nu), (aI g t1 6 pd), (aI g t2 36 wb), (oX5 t0 t1 t2 (nI w)), (oX7 z0 y0 (nI n) (nI (rn isLt T n k)) fa pl z1), (aB g y0 500 tp)] H → va_D A [(aI g z1 3 nu), (aI g t1 6 pd), (aI g t2 36 wb), (oX5 t0 t1 t2 (nI w)), (oX7 z0 y0 (nI n) (nI (rn isLt T n k)) fa pl z1), (aB g y0 500 tp)] → va_S A s.heap H locs → lv_has ls 7 [(4, .int 6), (3, .int (nI k)), (0, .ref z0), (1, .ref t0), (2, .int (nI bf))] → W p l e (he_room 6 135 0 0) s m args below meth c H locs 0 0 Q (F0 m 50 ls []) := by
        intro _ hfl H locs ls hP hD hS hl
        refine lv_aload_n hx hb dX7_readPart_50 rfl (lv_at hl 2 rfl) ?_
        refine lv_iconst (v := 3) hx hb dX7_readPart_51 (by decide) ?_
        refine lv_iload_n hx hb dX7_readPart_52 rfl (lv_at hl 1 rfl) ?_
        refine he_ci (wc := [(oX7 z0 y0 (nI n) (nI (rn isLt T n k)) fa pl z1), (aB g y0 500 tp)]) (wr := [(aI g z1 3 nu), (aI g t1 6 pd), (aI g t2 36 wb), (oX5 t0 t1 t2 (nI w))]) (va_runV (As := [.int 3, .int (nI k)]) (rest := []) ⟨hx, hb, hml, hown, hts⟩ (g_X7_fail l g z0 z1 y0 n (rn isLt T n k) fa pl tp 3 (nI k) H.size) (cwV 2 hts gX7_readPart_X7_fail rfl rfl rfl (by decide +kernel) ⟨Nat.le_of_ble_eq_true rfl, Nat.le_of_ble_eq_true rfl⟩) (he_preV (wc := [(oX7 z0 y0 (nI n) (nI (rn isLt T n k)) fa pl z1), (aB g y0 500 tp)]) hK hP hD hS hA hE [4, 5] rfl rfl 4 rfl rfl) rfl rfl hl.1 rfl (lv_room (Nat.le_of_ble_eq_true rfl)) dX7_readPart_53 ⟨(Nat.le_of_ble_eq_true rfl), (Nat.le_of_ble_eq_true rfl)⟩) hP hD hS hA [4, 5] [0, 1, 2, 3] rfl rfl rfl (by decide) (fun r_316 u_317 H locs h_318 hP hD hS => ?_)
        subst h_318
        have hP : va_P g.1 vwCl [(aI g z1 3 nu), (aI g t1 6 pd), (aI g t2 36 wb), (oX5 t0 t1 t2 (nI w)), (oX7 z0 y0 (nI n) (nI (rn isLt T n k)) 3 (nI k) z1), (aB g y0 500 tp)] H := hP
        have hD : va_D A [(aI g z1 3 nu), (aI g t1 6 pd), (aI g t2 36 wb), (oX5 t0 t1 t2 (nI w)), (oX7 z0 y0 (nI n) (nI (rn isLt T n k)) 3 (nI k) z1), (aB g y0 500 tp)] := hD
        have hP := hP.sub (ws' := [(oX7 z0 y0 (nI n) (nI (rn isLt T n k)) 3 (nI k) z1), (aB g y0 500 tp), (aI g z1 3 nu), (oX5 t0 t1 t2 (nI w)), (aI g t1 6 pd), (aI g t2 36 wb)]) [4, 5, 0, 3, 1, 2] rfl
        have hD := hD.sub (ws' := [(oX7 z0 y0 (nI n) (nI (rn isLt T n k)) 3 (nI k) z1), (aB g y0 500 tp), (aI g z1 3 nu), (oX5 t0 t1 t2 (nI w)), (aI g t1 6 pd), (aI g t2 36 wb)]) [4, 5, 0, 3, 1, 2] (by decide) rfl
        exact he_rz hQ hx hb hr hlk hP hD hS dX7_readPart_56 (Nat.le_of_ble_eq_true rfl) (Nat.le_of_ble_eq_true rfl) rfl (((rn isLt T n k), 3, nI k, nu, pd, wb)) (rfl) ((by have hP9 : ptS T n wl5 (bd5 w) (fl5 bf) k = _ := ptS_3 hw hfl; exact ⟨by rw [hP9], Or.inl ⟨3, k, by rw [hP9], rfl, rfl, rfl, rfl, rfl⟩⟩))
      refine lv_iload_n hx hb dX7_readPart_33 rfl (lv_at hl 4 rfl) ?_
      refine lv_aload_n hx hb dX7_readPart_34 rfl (lv_at hl 3 rfl) ?_
      refine he_ci (wc := [(oX5 t0 t1 t2 (nI w))]) (wr := [(aI g z1 3 nu), (aI g t1 6 pd), (aI g t2 36 wb), (oX7 z0 y0 (nI n) (nI (rn isLt T n k)) fa pl z1), (aB g y0 500 tp)]) (va_runU (As := []) (rest := [.int (nI bf)]) ⟨hx, hb, hml, hown, hts⟩ (c_X5_mostParts l g t0 t1 t2 (nI w) H.size) (va_cwA 0 hts gX7_readPart_X5_mostParts_u38X5 rfl rfl rfl dc38 (by decide +kernel) ⟨Nat.le_of_ble_eq_true rfl, Nat.le_of_ble_eq_true rfl⟩) (he_preV (wc := [(oX5 t0 t1 t2 (nI w))]) hK hP hD hS hA hE [3] rfl rfl 3 rfl rfl) rfl rfl hl.1 rfl (lv_room (Nat.le_of_ble_eq_true rfl)) dX7_readPart_35 ⟨(Nat.le_of_ble_eq_true rfl), (Nat.le_of_ble_eq_true rfl)⟩) hP hD hS hA [3] [0, 1, 2, 4, 5] rfl rfl rfl (by decide) (fun r_319 u_320 H locs h_321 hP hD hS => ?_)
      subst h_321
      have hP : va_P g.1 vwCl [(aI g z1 3 nu), (aI g t1 6 pd), (aI g t2 36 wb), (oX7 z0 y0 (nI n) (nI (rn isLt T n k)) fa pl z1), (aB g y0 500 tp), (oX5 t0 t1 t2 (nI w))] H := hP
      have hD : va_D A [(aI g z1 3 nu), (aI g t1 6 pd), (aI g t2 36 wb), (oX7 z0 y0 (nI n) (nI (rn isLt T n k)) fa pl z1), (aB g y0 500 tp), (oX5 t0 t1 t2 (nI w))] := hD
      refine lv_icmp_ge (tgt := 50) hx hb dX7_readPart_38 (by decide) (fun c_322 => ?_) (fun c_322 => ?_)
      · have k_323 : 20 ≤ bf := (he_cle (a := 20) (b := bf) (by decide) rfl (by omega) (by omega)).mp c_322
        exact join50 () (fl5_t (by omega)) _ _ _ (hP.sub [0, 1, 2, 5, 3, 4] rfl) (hD.sub [0, 1, 2, 5, 3, 4] (by decide) rfl) hS (lv_sub hl [0, 1, 2, 3, 4] rfl)
      · have k_324 : ¬ (20 ≤ bf) := fun h9 => c_322 ((he_cle (a := 20) (b := bf) (by decide) rfl (by omega) (by omega)).mpr h9)
        refine lv_aload_n hx hb dX7_readPart_41 rfl (lv_at hl 3 rfl) ?_
        refine lv_iload hx hb dX7_readPart_42 (lv_at hl 0 rfl) ?_
        refine he_ci (wc := [(oX5 t0 t1 t2 (nI w))]) (wr := [(aI g z1 3 nu), (aI g t1 6 pd), (aI g t2 36 wb), (oX7 z0 y0 (nI n) (nI (rn isLt T n k)) fa pl z1), (aB g y0 500 tp)]) (va_runU (As := [.int 6]) (rest := []) ⟨hx, hb, hml, hown, hts⟩ (p_X5_isFull l g t0 t1 t2 w 6 H.size) (va_cwA 1 hts gX7_readPart_X5_isFull_u66X5 rfl rfl rfl dc66 (by decide +kernel) ⟨Nat.le_of_ble_eq_true rfl, Nat.le_of_ble_eq_true rfl⟩) (he_preV (wc := [(oX5 t0 t1 t2 (nI w))]) hK hP hD hS hA hE [5] rfl rfl 5 rfl rfl) rfl rfl hl.1 rfl (lv_room (Nat.le_of_ble_eq_true rfl)) dX7_readPart_44 ⟨(Nat.le_of_ble_eq_true rfl), (Nat.le_of_ble_eq_true rfl)⟩) hP hD hS hA [5] [0, 1, 2, 3, 4] rfl rfl rfl (by decide) (fun r_325 u_326 H locs h_327 hP hD hS => ?_)
        subst h_327
        have hP : va_P g.1 vwCl [(aI g z1 3 nu), (aI g t1 6 pd), (aI g t2 36 wb), (oX7 z0 y0 (nI n) (nI (rn isLt T n k)) fa pl z1), (aB g y0 500 tp), (oX5 t0 t1 t2 (nI w))] H := hP
        have hD : va_D A [(aI g z1 3 nu), (aI g t1 6 pd), (aI g t2 36 wb), (oX7 z0 y0 (nI n) (nI (rn isLt T n k)) fa pl z1), (aB g y0 500 tp), (oX5 t0 t1 t2 (nI w))] := hD
        refine lv_if_eq (tgt := 57) hx hb dX7_readPart_47 (by decide) (fun c_328 => ?_) (fun c_328 => ?_)
        · have hfl0 : fl5 bf 6 = false := fl5_f (fun h9 => by omega)
          refine lv_aload_n hx hb dX7_readPart_57 rfl (lv_at hl 3 rfl) ?_
          refine lv_iload hx hb dX7_readPart_58 (lv_at hl 0 rfl) ?_
          refine he_ci (wc := [(oX5 t0 t1 t2 (nI w))]) (wr := [(aI g z1 3 nu), (aI g t1 6 pd), (aI g t2 36 wb), (oX7 z0 y0 (nI n) (nI (rn isLt T n k)) fa pl z1), (aB g y0 500 tp)]) (va_runU (As := [.int 6]) (rest := []) ⟨hx, hb, hml, hown, hts⟩ (p_X5_numbers_6 l g t0 t1 t2 w H.size) (va_cwA 1 hts gX7_readPart_X5_numbers_u70X5 rfl rfl rfl dc70 (by decide +kernel) ⟨Nat.le_of_ble_eq_true rfl, Nat.le_of_ble_eq_true rfl⟩) (he_preV (wc := [(oX5 t0 t1 t2 (nI w))]) hK hP hD hS hA hE [5] rfl rfl 5 rfl rfl) rfl rfl hl.1 rfl (lv_room (Nat.le_of_ble_eq_true rfl)) dX7_readPart_60 ⟨(Nat.le_of_ble_eq_true rfl), (Nat.le_of_ble_eq_true rfl)⟩) hP hD hS hA [5] [0, 1, 2, 3, 4] rfl rfl rfl (by decide) (fun r_329 u_330 H locs h_331 hP hD hS => ?_)
          subst h_331
          have hP : va_P g.1 vwCl [(aI g z1 3 nu), (aI g t1 6 pd), (aI g t2 36 wb), (oX7 z0 y0 (nI n) (nI (rn isLt T n k)) fa pl z1), (aB g y0 500 tp), (oX5 t0 t1 t2 (nI w))] H := hP
          have hD : va_D A [(aI g z1 3 nu), (aI g t1 6 pd), (aI g t2 36 wb), (oX7 z0 y0 (nI n) (nI (rn isLt T n k)) fa pl z1), (aB g y0 500 tp), (oX5 t0 t1 t2 (nI w))] := hD
          refine lv_aload_n hx hb dX7_readPart_63 rfl (lv_at hl 2 rfl) ?_
          refine va_get (v := .ref z1) (T := TX7) (N := 6) hx hb hts inX7 hown hK hP 3 rfl rfl 5 (by decide) f19 (fun _ h9 => h9) rfl dX7_readPart_64 ?_
          refine va_alen (v := 3) hx hb hK hP 0 1 rfl rfl rfl dX7_readPart_67 ?_
          refine va_mmin hx hb (by rw [hml]; exact hl.1.symm) hown ml23 msmin mi mcmin (by decide) (Nat.le_of_ble_eq_true rfl) (Nat.le_of_ble_eq_true rfl) (Nat.le_of_ble_eq_true rfl) dX7_readPart_68 ?_
          refine he_top (2) (by decide) ?_
          refine lv_istore (lv' := [(5, .int 2), (4, .int 6), (3, .int (nI k)), (0, .ref z0), (1, .ref t0), (2, .int (nI bf))]) hx hb dX7_readPart_71 hl (by decide) rfl (fun ls hl => ?_)
          refine lv_iconst (v := 0) hx hb dX7_readPart_73 (by decide) ?_
          refine lv_istore (lv' := [(6, .int 0), (5, .int 2), (4, .int 6), (3, .int (nI k)), (0, .ref z0), (1, .ref t0), (2, .int (nI bf))]) hx hb dX7_readPart_74 hl (by decide) rfl (fun ls hl => ?_)
          refine lv_iload hx hb dX7_readPart_76 (lv_at hl 0 rfl) ?_
          refine lv_iload hx hb dX7_readPart_78 (lv_at hl 1 rfl) ?_
          refine lv_icmp_ge (tgt := 116) hx hb dX7_readPart_80 (by decide) (fun c_332 => ?_) (fun c_332 => ?_)
          · exact absurd c_332 (by decide)
          · refine lv_aload_n hx hb dX7_readPart_83 rfl (lv_at hl 4 rfl) ?_
            refine lv_iload hx hb dX7_readPart_84 (lv_at hl 0 rfl) ?_
            refine lv_aload_n hx hb dX7_readPart_86 rfl (lv_at hl 5 rfl) ?_
            refine lv_iload hx hb dX7_readPart_87 (lv_at hl 2 rfl) ?_
            refine lv_iload hx hb dX7_readPart_89 (lv_at hl 0 rfl) ?_
            refine he_ci (wc := [(oX5 t0 t1 t2 (nI w))]) (wr := [(aI g z1 3 nu), (aI g t1 6 pd), (aI g t2 36 wb), (oX7 z0 y0 (nI n) (nI (rn isLt T n k)) fa pl z1), (aB g y0 500 tp)]) (va_runU (As := [.int 6, .int 0]) (rest := [.int 0, .ref z0]) ⟨hx, hb, hml, hown, hts⟩ (p_X5_low_6_0 l g t0 t1 t2 w H.size) (va_cwA 2 hts gX7_readPart_X5_low_u73X5 rfl rfl rfl dc73 (by decide +kernel) ⟨Nat.le_of_ble_eq_true rfl, Nat.le_of_ble_eq_true rfl⟩) (he_preV (wc := [(oX5 t0 t1 t2 (nI w))]) hK hP hD hS hA hE [5] rfl rfl 5 rfl rfl) rfl rfl hl.1 rfl (lv_room (Nat.le_of_ble_eq_true rfl)) dX7_readPart_91 ⟨(Nat.le_of_ble_eq_true rfl), (Nat.le_of_ble_eq_true rfl)⟩) hP hD hS hA [5] [0, 1, 2, 3, 4] rfl rfl rfl (by decide) (fun r_333 u_334 H locs h_335 hP hD hS => ?_)
            subst h_335
            have hP : va_P g.1 vwCl [(aI g z1 3 nu), (aI g t1 6 pd), (aI g t2 36 wb), (oX7 z0 y0 (nI n) (nI (rn isLt T n k)) fa pl z1), (aB g y0 500 tp), (oX5 t0 t1 t2 (nI w))] H := hP
            have hD : va_D A [(aI g z1 3 nu), (aI g t1 6 pd), (aI g t2 36 wb), (oX7 z0 y0 (nI n) (nI (rn isLt T n k)) fa pl z1), (aB g y0 500 tp), (oX5 t0 t1 t2 (nI w))] := hD
            refine lv_aload_n hx hb dX7_readPart_94 rfl (lv_at hl 5 rfl) ?_
            refine lv_iload hx hb dX7_readPart_95 (lv_at hl 2 rfl) ?_
            refine lv_iload hx hb dX7_readPart_97 (lv_at hl 0 rfl) ?_
            refine he_ci (wc := [(oX5 t0 t1 t2 (nI w))]) (wr := [(aI g z1 3 nu), (aI g t1 6 pd), (aI g t2 36 wb), (oX7 z0 y0 (nI n) (nI (rn isLt T n k)) fa pl z1), (aB g y0 500 tp)]) (va_runU (As := [.int 6, .int 0]) (rest := [.int 0, .int 0, .ref z0]) ⟨hx, hb, hml, hown, hts⟩ (p_X5_high_6_0 l g t0 t1 t2 w H.size) (va_cwA 2 hts gX7_readPart_X5_high_u76X5 rfl rfl rfl dc76 (by decide +kernel) ⟨Nat.le_of_ble_eq_true rfl, Nat.le_of_ble_eq_true rfl⟩) (he_preV (wc := [(oX5 t0 t1 t2 (nI w))]) hK hP hD hS hA hE [5] rfl rfl 5 rfl rfl) rfl rfl hl.1 rfl (lv_room (Nat.le_of_ble_eq_true rfl)) dX7_readPart_99 ⟨(Nat.le_of_ble_eq_true rfl), (Nat.le_of_ble_eq_true rfl)⟩) hP hD hS hA [5] [0, 1, 2, 3, 4] rfl rfl rfl (by decide) (fun r_336 u_337 H locs h_338 hP hD hS => ?_)
            subst h_338
            have hP : va_P g.1 vwCl [(aI g z1 3 nu), (aI g t1 6 pd), (aI g t2 36 wb), (oX7 z0 y0 (nI n) (nI (rn isLt T n k)) fa pl z1), (aB g y0 500 tp), (oX5 t0 t1 t2 (nI w))] H := hP
            have hD : va_D A [(aI g z1 3 nu), (aI g t1 6 pd), (aI g t2 36 wb), (oX7 z0 y0 (nI n) (nI (rn isLt T n k)) fa pl z1), (aB g y0 500 tp), (oX5 t0 t1 t2 (nI w))] := hD
            refine he_ci (wc := [(oX7 z0 y0 (nI n) (nI (rn isLt T n k)) fa pl z1), (aB g y0 500 tp), (aI g z1 3 nu)]) (wr := [(aI g t1 6 pd), (aI g t2 36 wb), (oX5 t0 t1 t2 (nI w))]) (va_runV (As := [.int 0, .int 0, .int (nI w - 1)]) (rest := []) ⟨hx, hb, hml, hown, hts⟩ (p_X7_readNumber l g z0 z1 y0 n (rn isLt T n k) fa pl tp T nu 0 0 (nI w - 1) (by have h0 := rn_le (P := isLt) (T := T) hk; exact h0) (by first | assumption | decide | omega) (by first | assumption | decide | omega) (by decide) H.size) (cwV 3 hts gX7_readPart_X7_readNumber rfl rfl rfl (by decide +kernel) ⟨Nat.le_of_ble_eq_true rfl, Nat.le_of_ble_eq_true rfl⟩) (he_preV (wc := [(oX7 z0 y0 (nI n) (nI (rn isLt T n k)) fa pl z1), (aB g y0 500 tp), (aI g z1 3 nu)]) hK hP hD hS hA hE [3, 4, 0] rfl rfl 3 rfl rfl) rfl rfl hl.1 rfl (lv_room (Nat.le_of_ble_eq_true rfl)) dX7_readPart_102 ⟨(Nat.le_of_ble_eq_true rfl), (Nat.le_of_ble_eq_true rfl)⟩) hP hD hS hA [3, 4, 0] [1, 2, 5] rfl rfl rfl (by decide) (fun r_339 u_340 H locs h_341 hP hD hS => ?_)
            obtain ⟨k2_342, fb_343, pb_344, nv_345⟩ := u_340
            try dsimp only at h_341
            obtain ⟨hf_346, hf_347⟩ := h_341
            have hP : va_P g.1 vwCl [(aI g t1 6 pd), (aI g t2 36 wb), (oX5 t0 t1 t2 (nI w)), (oX7 z0 y0 (nI n) (nI k2_342) fb_343 pb_344 z1), (aB g y0 500 tp), (aI g z1 3 nv_345)] H := hP
            have hD : va_D A [(aI g t1 6 pd), (aI g t2 36 wb), (oX5 t0 t1 t2 (nI w)), (oX7 z0 y0 (nI n) (nI k2_342) fb_343 pb_344 z1), (aB g y0 500 tp), (aI g z1 3 nv_345)] := hD
            have hk2 := hf_346
            rcases hf_347 with ⟨hm0, hr9, hf9, hp9, hn9⟩ | ⟨hm0, hv0, hr9, hf9, hp9, hn9⟩ | ⟨hm0, hv0, hr9, hf9, hp9, hn9⟩
            · subst k2_342 r_339 fb_343 pb_344 nv_345
              have hP : va_P g.1 vwCl [(aI g t1 6 pd), (aI g t2 36 wb), (oX5 t0 t1 t2 (nI w)), (oX7 z0 y0 (nI n) (nI (rn isDg T n (rn isBl T n (rn isLt T n k)))) 1 (nI (rn isBl T n (rn isLt T n k))) z1), (aB g y0 500 tp), (aI g z1 3 nu)] H := hP
              have hD : va_D A [(aI g t1 6 pd), (aI g t2 36 wb), (oX5 t0 t1 t2 (nI w)), (oX7 z0 y0 (nI n) (nI (rn isDg T n (rn isBl T n (rn isLt T n k)))) 1 (nI (rn isBl T n (rn isLt T n k))) z1), (aB g y0 500 tp), (aI g z1 3 nu)] := hD
              refine lv_if_ne (tgt := 110) hx hb dX7_readPart_105 (by decide) (fun c_348 => ?_) (fun c_348 => ?_)
              · exact absurd (by decide) c_348
              · refine lv_iconst (v := 0) hx hb dX7_readPart_108 (by decide) ?_
                have hP := hP.sub (ws' := [(oX7 z0 y0 (nI n) (nI (rn isDg T n (rn isBl T n (rn isLt T n k)))) 1 (nI (rn isBl T n (rn isLt T n k))) z1), (aB g y0 500 tp), (aI g z1 3 nu), (oX5 t0 t1 t2 (nI w)), (aI g t1 6 pd), (aI g t2 36 wb)]) [3, 4, 5, 2, 0, 1] rfl
                have hD := hD.sub (ws' := [(oX7 z0 y0 (nI n) (nI (rn isDg T n (rn isBl T n (rn isLt T n k)))) 1 (nI (rn isBl T n (rn isLt T n k))) z1), (aB g y0 500 tp), (aI g z1 3 nu), (oX5 t0 t1 t2 (nI w)), (aI g t1 6 pd), (aI g t2 36 wb)]) [3, 4, 5, 2, 0, 1] (by decide) rfl
                exact he_rz hQ hx hb hr hlk hP hD hS dX7_readPart_109 (Nat.le_of_ble_eq_true rfl) (Nat.le_of_ble_eq_true rfl) rfl (((rn isDg T n (rn isBl T n (rn isLt T n k))), 1, nI (rn isBl T n (rn isLt T n k)), nu, pd, wb)) (rfl) ((by have hP9 : ptS T n wl5 (bd5 w) (fl5 bf) k = _ := ptS_f (bd := bd5 w) hw hfl0 (nmS_1 hm0); exact ⟨by rw [hP9], Or.inl ⟨1, _, by rw [hP9], rfl, rfl, rfl, rfl, rfl⟩⟩))
            · subst k2_342 r_339 fb_343 pb_344 nv_345
              have hP : va_P g.1 vwCl [(aI g t1 6 pd), (aI g t2 36 wb), (oX5 t0 t1 t2 (nI w)), (oX7 z0 y0 (nI n) (nI (rn isDg T n (rn isBl T n (rn isLt T n k)))) 2 (nI (rn isBl T n (rn isLt T n k))) z1), (aB g y0 500 tp), (aI g z1 3 nu)] H := hP
              have hD : va_D A [(aI g t1 6 pd), (aI g t2 36 wb), (oX5 t0 t1 t2 (nI w)), (oX7 z0 y0 (nI n) (nI (rn isDg T n (rn isBl T n (rn isLt T n k)))) 2 (nI (rn isBl T n (rn isLt T n k))) z1), (aB g y0 500 tp), (aI g z1 3 nu)] := hD
              refine lv_if_ne (tgt := 110) hx hb dX7_readPart_105 (by decide) (fun c_349 => ?_) (fun c_349 => ?_)
              · exact absurd (by decide) c_349
              · refine lv_iconst (v := 0) hx hb dX7_readPart_108 (by decide) ?_
                have hP := hP.sub (ws' := [(oX7 z0 y0 (nI n) (nI (rn isDg T n (rn isBl T n (rn isLt T n k)))) 2 (nI (rn isBl T n (rn isLt T n k))) z1), (aB g y0 500 tp), (aI g z1 3 nu), (oX5 t0 t1 t2 (nI w)), (aI g t1 6 pd), (aI g t2 36 wb)]) [3, 4, 5, 2, 0, 1] rfl
                have hD := hD.sub (ws' := [(oX7 z0 y0 (nI n) (nI (rn isDg T n (rn isBl T n (rn isLt T n k)))) 2 (nI (rn isBl T n (rn isLt T n k))) z1), (aB g y0 500 tp), (aI g z1 3 nu), (oX5 t0 t1 t2 (nI w)), (aI g t1 6 pd), (aI g t2 36 wb)]) [3, 4, 5, 2, 0, 1] (by decide) rfl
                exact he_rz hQ hx hb hr hlk hP hD hS dX7_readPart_109 (Nat.le_of_ble_eq_true rfl) (Nat.le_of_ble_eq_true rfl) rfl (((rn isDg T n (rn isBl T n (rn isLt T n k))), 2, nI (rn isBl T n (rn isLt T n k)), nu, pd, wb)) (rfl) ((by have hP9 : ptS T n wl5 (bd5 w) (fl5 bf) k = _ := ptS_f (bd := bd5 w) hw hfl0 (nmS_2 hm0 (fun h9 => absurd hv0 ((wi_b (lo := 0) (hx := w) (by (try dsimp only); decide) rfl (by (try dsimp only); decide) (by (try dsimp only); omega) (nv_le _ _ _)).mpr h9))); exact ⟨by rw [hP9], Or.inl ⟨2, _, by rw [hP9], rfl, rfl, rfl, rfl, rfl⟩⟩))
            · subst k2_342 r_339 fb_343 pb_344 nv_345
              have hP : va_P g.1 vwCl [(aI g t1 6 pd), (aI g t2 36 wb), (oX5 t0 t1 t2 (nI w)), (oX7 z0 y0 (nI n) (nI (rn isDg T n (rn isBl T n (rn isLt T n k)))) fa pl z1), (aB g y0 500 tp), (aI g z1 3 (upd nu 0 (nI (nvF T (rn isBl T n (rn isLt T n k)) (rn isDg T n (rn isBl T n (rn isLt T n k)) - rn isBl T n (rn isLt T n k))))))] H := hP
              have hD : va_D A [(aI g t1 6 pd), (aI g t2 36 wb), (oX5 t0 t1 t2 (nI w)), (oX7 z0 y0 (nI n) (nI (rn isDg T n (rn isBl T n (rn isLt T n k)))) fa pl z1), (aB g y0 500 tp), (aI g z1 3 (upd nu 0 (nI (nvF T (rn isBl T n (rn isLt T n k)) (rn isDg T n (rn isBl T n (rn isLt T n k)) - rn isBl T n (rn isLt T n k))))))] := hD
              refine lv_if_ne (tgt := 110) hx hb dX7_readPart_105 (by decide) (fun c_350 => ?_) (fun c_350 => ?_)
              · refine lv_iinc (v := 1) (lv' := [(6, .int 1), (5, .int 2), (4, .int 6), (3, .int (nI k)), (0, .ref z0), (1, .ref t0), (2, .int (nI bf))]) hx hb dX7_readPart_110 hl (k := 0) rfl (by decide) (by decide) rfl (fun ls hl => ?_)
                refine lv_goto (tgt := 76) hx hb dX7_readPart_113 (by decide) ?_
                refine lv_iload hx hb dX7_readPart_76 (lv_at hl 0 rfl) ?_
                refine lv_iload hx hb dX7_readPart_78 (lv_at hl 1 rfl) ?_
                refine lv_icmp_ge (tgt := 116) hx hb dX7_readPart_80 (by decide) (fun c_351 => ?_) (fun c_351 => ?_)
                · exact absurd c_351 (by decide)
                · refine lv_aload_n hx hb dX7_readPart_83 rfl (lv_at hl 4 rfl) ?_
                  refine lv_iload hx hb dX7_readPart_84 (lv_at hl 0 rfl) ?_
                  refine lv_aload_n hx hb dX7_readPart_86 rfl (lv_at hl 5 rfl) ?_
                  refine lv_iload hx hb dX7_readPart_87 (lv_at hl 2 rfl) ?_
                  refine lv_iload hx hb dX7_readPart_89 (lv_at hl 0 rfl) ?_
                  refine he_ci (wc := [(oX5 t0 t1 t2 (nI w))]) (wr := [(aI g t1 6 pd), (aI g t2 36 wb), (oX7 z0 y0 (nI n) (nI (rn isDg T n (rn isBl T n (rn isLt T n k)))) fa pl z1), (aB g y0 500 tp), (aI g z1 3 (upd nu 0 (nI (nvF T (rn isBl T n (rn isLt T n k)) (rn isDg T n (rn isBl T n (rn isLt T n k)) - rn isBl T n (rn isLt T n k))))))]) (va_runU (As := [.int 6, .int 1]) (rest := [.int 1, .ref z0]) ⟨hx, hb, hml, hown, hts⟩ (p_X5_low_6_1 l g t0 t1 t2 w H.size) (va_cwA 2 hts gX7_readPart_X5_low_u73X5 rfl rfl rfl dc73 (by decide +kernel) ⟨Nat.le_of_ble_eq_true rfl, Nat.le_of_ble_eq_true rfl⟩) (he_preV (wc := [(oX5 t0 t1 t2 (nI w))]) hK hP hD hS hA hE [2] rfl rfl 2 rfl rfl) rfl rfl hl.1 rfl (lv_room (Nat.le_of_ble_eq_true rfl)) dX7_readPart_91 ⟨(Nat.le_of_ble_eq_true rfl), (Nat.le_of_ble_eq_true rfl)⟩) hP hD hS hA [2] [0, 1, 3, 4, 5] rfl rfl rfl (by decide) (fun r_352 u_353 H locs h_354 hP hD hS => ?_)
                  subst h_354
                  have hP : va_P g.1 vwCl [(aI g t1 6 pd), (aI g t2 36 wb), (oX7 z0 y0 (nI n) (nI (rn isDg T n (rn isBl T n (rn isLt T n k)))) fa pl z1), (aB g y0 500 tp), (aI g z1 3 (upd nu 0 (nI (nvF T (rn isBl T n (rn isLt T n k)) (rn isDg T n (rn isBl T n (rn isLt T n k)) - rn isBl T n (rn isLt T n k)))))), (oX5 t0 t1 t2 (nI w))] H := hP
                  have hD : va_D A [(aI g t1 6 pd), (aI g t2 36 wb), (oX7 z0 y0 (nI n) (nI (rn isDg T n (rn isBl T n (rn isLt T n k)))) fa pl z1), (aB g y0 500 tp), (aI g z1 3 (upd nu 0 (nI (nvF T (rn isBl T n (rn isLt T n k)) (rn isDg T n (rn isBl T n (rn isLt T n k)) - rn isBl T n (rn isLt T n k)))))), (oX5 t0 t1 t2 (nI w))] := hD
                  refine lv_aload_n hx hb dX7_readPart_94 rfl (lv_at hl 5 rfl) ?_
                  refine lv_iload hx hb dX7_readPart_95 (lv_at hl 2 rfl) ?_
                  refine lv_iload hx hb dX7_readPart_97 (lv_at hl 0 rfl) ?_
                  refine he_ci (wc := [(oX5 t0 t1 t2 (nI w))]) (wr := [(aI g t1 6 pd), (aI g t2 36 wb), (oX7 z0 y0 (nI n) (nI (rn isDg T n (rn isBl T n (rn isLt T n k)))) fa pl z1), (aB g y0 500 tp), (aI g z1 3 (upd nu 0 (nI (nvF T (rn isBl T n (rn isLt T n k)) (rn isDg T n (rn isBl T n (rn isLt T n k)) - rn isBl T n (rn isLt T n k))))))]) (va_runU (As := [.int 6, .int 1]) (rest := [.int 0, .int 1, .ref z0]) ⟨hx, hb, hml, hown, hts⟩ (p_X5_high_6_1 l g t0 t1 t2 w H.size) (va_cwA 2 hts gX7_readPart_X5_high_u76X5 rfl rfl rfl dc76 (by decide +kernel) ⟨Nat.le_of_ble_eq_true rfl, Nat.le_of_ble_eq_true rfl⟩) (he_preV (wc := [(oX5 t0 t1 t2 (nI w))]) hK hP hD hS hA hE [5] rfl rfl 5 rfl rfl) rfl rfl hl.1 rfl (lv_room (Nat.le_of_ble_eq_true rfl)) dX7_readPart_99 ⟨(Nat.le_of_ble_eq_true rfl), (Nat.le_of_ble_eq_true rfl)⟩) hP hD hS hA [5] [0, 1, 2, 3, 4] rfl rfl rfl (by decide) (fun r_355 u_356 H locs h_357 hP hD hS => ?_)
                  subst h_357
                  have hP : va_P g.1 vwCl [(aI g t1 6 pd), (aI g t2 36 wb), (oX7 z0 y0 (nI n) (nI (rn isDg T n (rn isBl T n (rn isLt T n k)))) fa pl z1), (aB g y0 500 tp), (aI g z1 3 (upd nu 0 (nI (nvF T (rn isBl T n (rn isLt T n k)) (rn isDg T n (rn isBl T n (rn isLt T n k)) - rn isBl T n (rn isLt T n k)))))), (oX5 t0 t1 t2 (nI w))] H := hP
                  have hD : va_D A [(aI g t1 6 pd), (aI g t2 36 wb), (oX7 z0 y0 (nI n) (nI (rn isDg T n (rn isBl T n (rn isLt T n k)))) fa pl z1), (aB g y0 500 tp), (aI g z1 3 (upd nu 0 (nI (nvF T (rn isBl T n (rn isLt T n k)) (rn isDg T n (rn isBl T n (rn isLt T n k)) - rn isBl T n (rn isLt T n k)))))), (oX5 t0 t1 t2 (nI w))] := hD
                  refine he_ci (wc := [(oX7 z0 y0 (nI n) (nI (rn isDg T n (rn isBl T n (rn isLt T n k)))) fa pl z1), (aB g y0 500 tp), (aI g z1 3 (upd nu 0 (nI (nvF T (rn isBl T n (rn isLt T n k)) (rn isDg T n (rn isBl T n (rn isLt T n k)) - rn isBl T n (rn isLt T n k))))))]) (wr := [(aI g t1 6 pd), (aI g t2 36 wb), (oX5 t0 t1 t2 (nI w))]) (va_runV (As := [.int 1, .int 0, .int 35]) (rest := []) ⟨hx, hb, hml, hown, hts⟩ (p_X7_readNumber l g z0 z1 y0 n (rn isDg T n (rn isBl T n (rn isLt T n k))) fa pl tp T (upd nu 0 (nI (nvF T (rn isBl T n (rn isLt T n k)) (rn isDg T n (rn isBl T n (rn isLt T n k)) - rn isBl T n (rn isLt T n k))))) 1 0 35 (by have h0 := rn_le (P := isLt) (T := T) hk; exact (rn_le (rn_le h0))) (by first | assumption | decide | omega) (by first | assumption | decide | omega) (by decide) H.size) (cwV 3 hts gX7_readPart_X7_readNumber rfl rfl rfl (by decide +kernel) ⟨Nat.le_of_ble_eq_true rfl, Nat.le_of_ble_eq_true rfl⟩) (he_preV (wc := [(oX7 z0 y0 (nI n) (nI (rn isDg T n (rn isBl T n (rn isLt T n k)))) fa pl z1), (aB g y0 500 tp), (aI g z1 3 (upd nu 0 (nI (nvF T (rn isBl T n (rn isLt T n k)) (rn isDg T n (rn isBl T n (rn isLt T n k)) - rn isBl T n (rn isLt T n k))))))]) hK hP hD hS hA hE [2, 3, 4] rfl rfl 2 rfl rfl) rfl rfl hl.1 rfl (lv_room (Nat.le_of_ble_eq_true rfl)) dX7_readPart_102 ⟨(Nat.le_of_ble_eq_true rfl), (Nat.le_of_ble_eq_true rfl)⟩) hP hD hS hA [2, 3, 4] [0, 1, 5] rfl rfl rfl (by decide) (fun r_358 u_359 H locs h_360 hP hD hS => ?_)
                  obtain ⟨k2_361, fb_362, pb_363, nv_364⟩ := u_359
                  try dsimp only at h_360
                  obtain ⟨hf_365, hf_366⟩ := h_360
                  have hP : va_P g.1 vwCl [(aI g t1 6 pd), (aI g t2 36 wb), (oX5 t0 t1 t2 (nI w)), (oX7 z0 y0 (nI n) (nI k2_361) fb_362 pb_363 z1), (aB g y0 500 tp), (aI g z1 3 nv_364)] H := hP
                  have hD : va_D A [(aI g t1 6 pd), (aI g t2 36 wb), (oX5 t0 t1 t2 (nI w)), (oX7 z0 y0 (nI n) (nI k2_361) fb_362 pb_363 z1), (aB g y0 500 tp), (aI g z1 3 nv_364)] := hD
                  have hk2 := hf_365
                  rcases hf_366 with ⟨hm1, hr9, hf9, hp9, hn9⟩ | ⟨hm1, hv1, hr9, hf9, hp9, hn9⟩ | ⟨hm1, hv1, hr9, hf9, hp9, hn9⟩
                  · subst k2_361 r_358 fb_362 pb_363 nv_364
                    have hP : va_P g.1 vwCl [(aI g t1 6 pd), (aI g t2 36 wb), (oX5 t0 t1 t2 (nI w)), (oX7 z0 y0 (nI n) (nI (rn isDg T n (rn isBl T n (rn isDg T n (rn isBl T n (rn isLt T n k)))))) 1 (nI (rn isBl T n (rn isDg T n (rn isBl T n (rn isLt T n k))))) z1), (aB g y0 500 tp), (aI g z1 3 (upd nu 0 (nI (nvF T (rn isBl T n (rn isLt T n k)) (rn isDg T n (rn isBl T n (rn isLt T n k)) - rn isBl T n (rn isLt T n k))))))] H := hP
                    have hD : va_D A [(aI g t1 6 pd), (aI g t2 36 wb), (oX5 t0 t1 t2 (nI w)), (oX7 z0 y0 (nI n) (nI (rn isDg T n (rn isBl T n (rn isDg T n (rn isBl T n (rn isLt T n k)))))) 1 (nI (rn isBl T n (rn isDg T n (rn isBl T n (rn isLt T n k))))) z1), (aB g y0 500 tp), (aI g z1 3 (upd nu 0 (nI (nvF T (rn isBl T n (rn isLt T n k)) (rn isDg T n (rn isBl T n (rn isLt T n k)) - rn isBl T n (rn isLt T n k))))))] := hD
                    refine lv_if_ne (tgt := 110) hx hb dX7_readPart_105 (by decide) (fun c_367 => ?_) (fun c_367 => ?_)
                    · exact absurd (by decide) c_367
                    · refine lv_iconst (v := 0) hx hb dX7_readPart_108 (by decide) ?_
                      have hP := hP.sub (ws' := [(oX7 z0 y0 (nI n) (nI (rn isDg T n (rn isBl T n (rn isDg T n (rn isBl T n (rn isLt T n k)))))) 1 (nI (rn isBl T n (rn isDg T n (rn isBl T n (rn isLt T n k))))) z1), (aB g y0 500 tp), (aI g z1 3 (upd nu 0 (nI (nvF T (rn isBl T n (rn isLt T n k)) (rn isDg T n (rn isBl T n (rn isLt T n k)) - rn isBl T n (rn isLt T n k)))))), (oX5 t0 t1 t2 (nI w)), (aI g t1 6 pd), (aI g t2 36 wb)]) [3, 4, 5, 2, 0, 1] rfl
                      have hD := hD.sub (ws' := [(oX7 z0 y0 (nI n) (nI (rn isDg T n (rn isBl T n (rn isDg T n (rn isBl T n (rn isLt T n k)))))) 1 (nI (rn isBl T n (rn isDg T n (rn isBl T n (rn isLt T n k))))) z1), (aB g y0 500 tp), (aI g z1 3 (upd nu 0 (nI (nvF T (rn isBl T n (rn isLt T n k)) (rn isDg T n (rn isBl T n (rn isLt T n k)) - rn isBl T n (rn isLt T n k)))))), (oX5 t0 t1 t2 (nI w)), (aI g t1 6 pd), (aI g t2 36 wb)]) [3, 4, 5, 2, 0, 1] (by decide) rfl
                      exact he_rz hQ hx hb hr hlk hP hD hS dX7_readPart_109 (Nat.le_of_ble_eq_true rfl) (Nat.le_of_ble_eq_true rfl) rfl (((rn isDg T n (rn isBl T n (rn isDg T n (rn isBl T n (rn isLt T n k))))), 1, nI (rn isBl T n (rn isDg T n (rn isBl T n (rn isLt T n k)))), upd nu 0 (nI (nvF T (rn isBl T n (rn isLt T n k)) (rn isDg T n (rn isBl T n (rn isLt T n k)) - rn isBl T n (rn isLt T n k)))), pd, wb)) (rfl) ((by have hP9 : ptS T n wl5 (bd5 w) (fl5 bf) k = _ := ptS_f (bd := bd5 w) hw hfl0 (nmS_s hm0 ((wi_b (lo := 0) (hx := w) (by (try dsimp only); decide) rfl (by (try dsimp only); decide) (by (try dsimp only); omega) (nv_le _ _ _)).mp hv0) (nmS_1 hm1)); exact ⟨by rw [hP9], Or.inl ⟨1, _, by rw [hP9], rfl, rfl, rfl, rfl, rfl⟩⟩))
                  · subst k2_361 r_358 fb_362 pb_363 nv_364
                    have hP : va_P g.1 vwCl [(aI g t1 6 pd), (aI g t2 36 wb), (oX5 t0 t1 t2 (nI w)), (oX7 z0 y0 (nI n) (nI (rn isDg T n (rn isBl T n (rn isDg T n (rn isBl T n (rn isLt T n k)))))) 2 (nI (rn isBl T n (rn isDg T n (rn isBl T n (rn isLt T n k))))) z1), (aB g y0 500 tp), (aI g z1 3 (upd nu 0 (nI (nvF T (rn isBl T n (rn isLt T n k)) (rn isDg T n (rn isBl T n (rn isLt T n k)) - rn isBl T n (rn isLt T n k))))))] H := hP
                    have hD : va_D A [(aI g t1 6 pd), (aI g t2 36 wb), (oX5 t0 t1 t2 (nI w)), (oX7 z0 y0 (nI n) (nI (rn isDg T n (rn isBl T n (rn isDg T n (rn isBl T n (rn isLt T n k)))))) 2 (nI (rn isBl T n (rn isDg T n (rn isBl T n (rn isLt T n k))))) z1), (aB g y0 500 tp), (aI g z1 3 (upd nu 0 (nI (nvF T (rn isBl T n (rn isLt T n k)) (rn isDg T n (rn isBl T n (rn isLt T n k)) - rn isBl T n (rn isLt T n k))))))] := hD
                    refine lv_if_ne (tgt := 110) hx hb dX7_readPart_105 (by decide) (fun c_368 => ?_) (fun c_368 => ?_)
                    · exact absurd (by decide) c_368
                    · refine lv_iconst (v := 0) hx hb dX7_readPart_108 (by decide) ?_
                      have hP := hP.sub (ws' := [(oX7 z0 y0 (nI n) (nI (rn isDg T n (rn isBl T n (rn isDg T n (rn isBl T n (rn isLt T n k)))))) 2 (nI (rn isBl T n (rn isDg T n (rn isBl T n (rn isLt T n k))))) z1), (aB g y0 500 tp), (aI g z1 3 (upd nu 0 (nI (nvF T (rn isBl T n (rn isLt T n k)) (rn isDg T n (rn isBl T n (rn isLt T n k)) - rn isBl T n (rn isLt T n k)))))), (oX5 t0 t1 t2 (nI w)), (aI g t1 6 pd), (aI g t2 36 wb)]) [3, 4, 5, 2, 0, 1] rfl
                      have hD := hD.sub (ws' := [(oX7 z0 y0 (nI n) (nI (rn isDg T n (rn isBl T n (rn isDg T n (rn isBl T n (rn isLt T n k)))))) 2 (nI (rn isBl T n (rn isDg T n (rn isBl T n (rn isLt T n k))))) z1), (aB g y0 500 tp), (aI g z1 3 (upd nu 0 (nI (nvF T (rn isBl T n (rn isLt T n k)) (rn isDg T n (rn isBl T n (rn isLt T n k)) - rn isBl T n (rn isLt T n k)))))), (oX5 t0 t1 t2 (nI w)), (aI g t1 6 pd), (aI g t2 36 wb)]) [3, 4, 5, 2, 0, 1] (by decide) rfl
                      exact he_rz hQ hx hb hr hlk hP hD hS dX7_readPart_109 (Nat.le_of_ble_eq_true rfl) (Nat.le_of_ble_eq_true rfl) rfl (((rn isDg T n (rn isBl T n (rn isDg T n (rn isBl T n (rn isLt T n k))))), 2, nI (rn isBl T n (rn isDg T n (rn isBl T n (rn isLt T n k)))), upd nu 0 (nI (nvF T (rn isBl T n (rn isLt T n k)) (rn isDg T n (rn isBl T n (rn isLt T n k)) - rn isBl T n (rn isLt T n k)))), pd, wb)) (rfl) ((by have hP9 : ptS T n wl5 (bd5 w) (fl5 bf) k = _ := ptS_f (bd := bd5 w) hw hfl0 (nmS_s hm0 ((wi_b (lo := 0) (hx := w) (by (try dsimp only); decide) rfl (by (try dsimp only); decide) (by (try dsimp only); omega) (nv_le _ _ _)).mp hv0) (nmS_2 hm1 (fun h9 => absurd hv1 ((wi_b (lo := 0) (hx := 36) (by (try dsimp only); decide) (by (try dsimp only); decide) (by (try dsimp only); decide) (by (try dsimp only); decide) (nv_le _ _ _)).mpr h9)))); exact ⟨by rw [hP9], Or.inl ⟨2, _, by rw [hP9], rfl, rfl, rfl, rfl, rfl⟩⟩))
                  · subst k2_361 r_358 fb_362 pb_363 nv_364
                    have hP : va_P g.1 vwCl [(aI g t1 6 pd), (aI g t2 36 wb), (oX5 t0 t1 t2 (nI w)), (oX7 z0 y0 (nI n) (nI (rn isDg T n (rn isBl T n (rn isDg T n (rn isBl T n (rn isLt T n k)))))) fa pl z1), (aB g y0 500 tp), (aI g z1 3 (upd (upd nu 0 (nI (nvF T (rn isBl T n (rn isLt T n k)) (rn isDg T n (rn isBl T n (rn isLt T n k)) - rn isBl T n (rn isLt T n k))))) 1 (nI (nvF T (rn isBl T n (rn isDg T n (rn isBl T n (rn isLt T n k)))) (rn isDg T n (rn isBl T n (rn isDg T n (rn isBl T n (rn isLt T n k)))) - rn isBl T n (rn isDg T n (rn isBl T n (rn isLt T n k))))))))] H := hP
                    have hD : va_D A [(aI g t1 6 pd), (aI g t2 36 wb), (oX5 t0 t1 t2 (nI w)), (oX7 z0 y0 (nI n) (nI (rn isDg T n (rn isBl T n (rn isDg T n (rn isBl T n (rn isLt T n k)))))) fa pl z1), (aB g y0 500 tp), (aI g z1 3 (upd (upd nu 0 (nI (nvF T (rn isBl T n (rn isLt T n k)) (rn isDg T n (rn isBl T n (rn isLt T n k)) - rn isBl T n (rn isLt T n k))))) 1 (nI (nvF T (rn isBl T n (rn isDg T n (rn isBl T n (rn isLt T n k)))) (rn isDg T n (rn isBl T n (rn isDg T n (rn isBl T n (rn isLt T n k)))) - rn isBl T n (rn isDg T n (rn isBl T n (rn isLt T n k))))))))] := hD
                    refine lv_if_ne (tgt := 110) hx hb dX7_readPart_105 (by decide) (fun c_369 => ?_) (fun c_369 => ?_)
                    · refine lv_iinc (v := 2) (lv' := [(6, .int 2), (5, .int 2), (4, .int 6), (3, .int (nI k)), (0, .ref z0), (1, .ref t0), (2, .int (nI bf))]) hx hb dX7_readPart_110 hl (k := 0) rfl (by decide) (by decide) rfl (fun ls hl => ?_)
                      refine lv_goto (tgt := 76) hx hb dX7_readPart_113 (by decide) ?_
                      refine lv_iload hx hb dX7_readPart_76 (lv_at hl 0 rfl) ?_
                      refine lv_iload hx hb dX7_readPart_78 (lv_at hl 1 rfl) ?_
                      refine lv_icmp_ge (tgt := 116) hx hb dX7_readPart_80 (by decide) (fun c_370 => ?_) (fun c_370 => ?_)
                      · refine lv_aload_n hx hb dX7_readPart_116 rfl (lv_at hl 4 rfl) ?_
                        refine he_cv (wc := [(oX7 z0 y0 (nI n) (nI (rn isDg T n (rn isBl T n (rn isDg T n (rn isBl T n (rn isLt T n k)))))) fa pl z1), (aB g y0 500 tp)]) (wr := [(aI g t1 6 pd), (aI g t2 36 wb), (oX5 t0 t1 t2 (nI w)), (aI g z1 3 (upd (upd nu 0 (nI (nvF T (rn isBl T n (rn isLt T n k)) (rn isDg T n (rn isBl T n (rn isLt T n k)) - rn isBl T n (rn isLt T n k))))) 1 (nI (nvF T (rn isBl T n (rn isDg T n (rn isBl T n (rn isLt T n k)))) (rn isDg T n (rn isBl T n (rn isDg T n (rn isBl T n (rn isLt T n k)))) - rn isBl T n (rn isDg T n (rn isBl T n (rn isLt T n k))))))))]) (va_runV (As := []) (rest := []) ⟨hx, hb, hml, hown, hts⟩ (p_X7_skipBlanks l g z0 z1 y0 n (rn isDg T n (rn isBl T n (rn isDg T n (rn isBl T n (rn isLt T n k))))) fa pl tp T (by have h0 := rn_le (P := isLt) (T := T) hk; exact (rn_le (rn_le (rn_le (rn_le h0))))) (by first | assumption | decide | omega) (by first | assumption | decide | omega) H.size) (cwV 0 hts gX7_readPart_X7_skipBlanks rfl rfl rfl (by decide +kernel) ⟨Nat.le_of_ble_eq_true rfl, Nat.le_of_ble_eq_true rfl⟩) (he_preV (wc := [(oX7 z0 y0 (nI n) (nI (rn isDg T n (rn isBl T n (rn isDg T n (rn isBl T n (rn isLt T n k)))))) fa pl z1), (aB g y0 500 tp)]) hK hP hD hS hA hE [3, 4] rfl rfl 3 rfl rfl) rfl rfl hl.1 rfl (lv_room (Nat.le_of_ble_eq_true rfl)) dX7_readPart_117 ⟨(Nat.le_of_ble_eq_true rfl), (Nat.le_of_ble_eq_true rfl)⟩) hP hD hS hA [3, 4] [0, 1, 2, 5] rfl rfl rfl (by decide) (fun u_372 H locs h_373 hP hD hS => ?_)
                        have hP : va_P g.1 vwCl [(aI g t1 6 pd), (aI g t2 36 wb), (oX5 t0 t1 t2 (nI w)), (aI g z1 3 (upd (upd nu 0 (nI (nvF T (rn isBl T n (rn isLt T n k)) (rn isDg T n (rn isBl T n (rn isLt T n k)) - rn isBl T n (rn isLt T n k))))) 1 (nI (nvF T (rn isBl T n (rn isDg T n (rn isBl T n (rn isLt T n k)))) (rn isDg T n (rn isBl T n (rn isDg T n (rn isBl T n (rn isLt T n k)))) - rn isBl T n (rn isDg T n (rn isBl T n (rn isLt T n k)))))))), (oX7 z0 y0 (nI n) (nI (rn isBl T n (rn isDg T n (rn isBl T n (rn isDg T n (rn isBl T n (rn isLt T n k))))))) fa pl z1), (aB g y0 500 tp)] H := hP
                        have hD : va_D A [(aI g t1 6 pd), (aI g t2 36 wb), (oX5 t0 t1 t2 (nI w)), (aI g z1 3 (upd (upd nu 0 (nI (nvF T (rn isBl T n (rn isLt T n k)) (rn isDg T n (rn isBl T n (rn isLt T n k)) - rn isBl T n (rn isLt T n k))))) 1 (nI (nvF T (rn isBl T n (rn isDg T n (rn isBl T n (rn isLt T n k)))) (rn isDg T n (rn isBl T n (rn isDg T n (rn isBl T n (rn isLt T n k)))) - rn isBl T n (rn isDg T n (rn isBl T n (rn isLt T n k)))))))), (oX7 z0 y0 (nI n) (nI (rn isBl T n (rn isDg T n (rn isBl T n (rn isDg T n (rn isBl T n (rn isLt T n k))))))) fa pl z1), (aB g y0 500 tp)] := hD
                        have hAt : rn isBl T n (rn isDg T n (rn isBl T n (rn isDg T n (rn isBl T n (rn isLt T n k))))) ≤ n := by have h0 := rn_le (P := isLt) (T := T) hk; exact rn_le (rn_le (rn_le (rn_le (rn_le h0))))
                        have join145 : ∀ (_ : Unit), (¬ (rn isBl T n (rn isDg T n (rn isBl T n (rn isDg T n (rn isBl T n (rn isLt T n k))))) < n ∧ T (rn isBl T n (rn isDg T n (rn isBl T n (rn isDg T n (rn isBl T n (rn isLt T n k)))))) = 59)) → ∀ (H : Heap) (locs : List Loc) (ls : Array Slot), va_P g.1 vwCl [(aI g t1 6 pd), (aI g t2 36 wb), (oX5 t0 t1 t2 (nI w)), (aI g z1 3 (upd (upd nu 0 (nI (nvF T (rn isBl T n (rn isLt T n k)) (rn isDg T n (rn isBl T n (rn isLt T n k)) - rn isBl T n (rn isLt T n k))))) 1 (nI (nvF T (rn isBl T n (rn isDg T n (rn isBl T n (rn isLt T n k)))) (rn isDg T n (rn isBl T n (rn isDg T n (rn isBl T n (rn isLt T n k)))) - rn isBl T n (rn isDg T n (rn isBl T n (rn isLt T n k)))))))), (oX7 z0 y0 (nI n) (nI (rn isBl T n (rn isDg T n (rn isBl T n (rn isDg T n (rn isBl T n (rn isLt T n k))))))) fa pl z1), (aB g y0 500 tp)] H → va_D A [(aI g t1 6 pd), (aI g t2 36 wb), (oX5 t0 t1 t2 (nI w)), (aI g z1 3 (upd (upd nu 0 (nI (nvF T (rn isBl T n (rn isLt T n k)) (rn isDg T n (rn isBl T n (rn isLt T n k)) - rn isBl T n (rn isLt T n k))))) 1 (nI (nvF T (rn isBl T n (rn isDg T n (rn isBl T n (rn isLt T n k)))) (rn isDg T n (rn isBl T n (rn isDg T n (rn isBl T n (rn isLt T n k)))) - rn isBl T n (rn isDg T n (rn isBl T n (rn isLt T n k)))))))), (oX7 z0 y0 (nI n) (nI (rn isBl T n (rn isDg T n (rn isBl T n (rn isDg T n (rn isBl T n (rn isLt T n k))))))) fa pl z1), (aB g y0 500 tp)] → va_S A s.heap H locs → lv_has ls 7 [(6, .int 2), (5, .int 2), (4, .int 6), (3, .int (nI k)), (0, .ref z0), (1, .ref t0), (2, .int (nI bf))] → W p l e (he_room 6 135 0 0) s m args below meth c H locs 0 0 Q (F0 m 145 ls []) := by
                          intro _ hsc H locs ls hP hD hS hl
                          refine lv_aload_n hx hb dX7_readPart_145 rfl (lv_at hl 4 rfl) ?_
                          refine lv_iconst (v := 1) hx hb dX7_readPart_146 (by decide) ?_
                          refine lv_aload_n hx hb dX7_readPart_147 rfl (lv_at hl 4 rfl) ?_
                          refine va_get (v := .int (nI (rn isBl T n (rn isDg T n (rn isBl T n (rn isDg T n (rn isBl T n (rn isLt T n k)))))))) (T := TX7) (N := 6) hx hb hts inX7 hown hK hP 4 rfl rfl 2 (by decide) f32 (fun _ h9 => h9) rfl dX7_readPart_148 ?_
                          refine he_ci (wc := [(oX7 z0 y0 (nI n) (nI (rn isBl T n (rn isDg T n (rn isBl T n (rn isDg T n (rn isBl T n (rn isLt T n k))))))) fa pl z1), (aB g y0 500 tp)]) (wr := [(aI g t1 6 pd), (aI g t2 36 wb), (oX5 t0 t1 t2 (nI w)), (aI g z1 3 (upd (upd nu 0 (nI (nvF T (rn isBl T n (rn isLt T n k)) (rn isDg T n (rn isBl T n (rn isLt T n k)) - rn isBl T n (rn isLt T n k))))) 1 (nI (nvF T (rn isBl T n (rn isDg T n (rn isBl T n (rn isLt T n k)))) (rn isDg T n (rn isBl T n (rn isDg T n (rn isBl T n (rn isLt T n k)))) - rn isBl T n (rn isDg T n (rn isBl T n (rn isLt T n k))))))))]) (va_runV (As := [.int 1, .int (nI (rn isBl T n (rn isDg T n (rn isBl T n (rn isDg T n (rn isBl T n (rn isLt T n k)))))))]) (rest := []) ⟨hx, hb, hml, hown, hts⟩ (g_X7_fail l g z0 z1 y0 n (rn isBl T n (rn isDg T n (rn isBl T n (rn isDg T n (rn isBl T n (rn isLt T n k)))))) fa pl tp 1 (nI (rn isBl T n (rn isDg T n (rn isBl T n (rn isDg T n (rn isBl T n (rn isLt T n k))))))) H.size) (cwV 2 hts gX7_readPart_X7_fail rfl rfl rfl (by decide +kernel) ⟨Nat.le_of_ble_eq_true rfl, Nat.le_of_ble_eq_true rfl⟩) (he_preV (wc := [(oX7 z0 y0 (nI n) (nI (rn isBl T n (rn isDg T n (rn isBl T n (rn isDg T n (rn isBl T n (rn isLt T n k))))))) fa pl z1), (aB g y0 500 tp)]) hK hP hD hS hA hE [4, 5] rfl rfl 4 rfl rfl) rfl rfl hl.1 rfl (lv_room (Nat.le_of_ble_eq_true rfl)) dX7_readPart_151 ⟨(Nat.le_of_ble_eq_true rfl), (Nat.le_of_ble_eq_true rfl)⟩) hP hD hS hA [4, 5] [0, 1, 2, 3] rfl rfl rfl (by decide) (fun r_374 u_375 H locs h_376 hP hD hS => ?_)
                          subst h_376
                          have hP : va_P g.1 vwCl [(aI g t1 6 pd), (aI g t2 36 wb), (oX5 t0 t1 t2 (nI w)), (aI g z1 3 (upd (upd nu 0 (nI (nvF T (rn isBl T n (rn isLt T n k)) (rn isDg T n (rn isBl T n (rn isLt T n k)) - rn isBl T n (rn isLt T n k))))) 1 (nI (nvF T (rn isBl T n (rn isDg T n (rn isBl T n (rn isLt T n k)))) (rn isDg T n (rn isBl T n (rn isDg T n (rn isBl T n (rn isLt T n k)))) - rn isBl T n (rn isDg T n (rn isBl T n (rn isLt T n k)))))))), (oX7 z0 y0 (nI n) (nI (rn isBl T n (rn isDg T n (rn isBl T n (rn isDg T n (rn isBl T n (rn isLt T n k))))))) 1 (nI (rn isBl T n (rn isDg T n (rn isBl T n (rn isDg T n (rn isBl T n (rn isLt T n k))))))) z1), (aB g y0 500 tp)] H := hP
                          have hD : va_D A [(aI g t1 6 pd), (aI g t2 36 wb), (oX5 t0 t1 t2 (nI w)), (aI g z1 3 (upd (upd nu 0 (nI (nvF T (rn isBl T n (rn isLt T n k)) (rn isDg T n (rn isBl T n (rn isLt T n k)) - rn isBl T n (rn isLt T n k))))) 1 (nI (nvF T (rn isBl T n (rn isDg T n (rn isBl T n (rn isLt T n k)))) (rn isDg T n (rn isBl T n (rn isDg T n (rn isBl T n (rn isLt T n k)))) - rn isBl T n (rn isDg T n (rn isBl T n (rn isLt T n k)))))))), (oX7 z0 y0 (nI n) (nI (rn isBl T n (rn isDg T n (rn isBl T n (rn isDg T n (rn isBl T n (rn isLt T n k))))))) 1 (nI (rn isBl T n (rn isDg T n (rn isBl T n (rn isDg T n (rn isBl T n (rn isLt T n k))))))) z1), (aB g y0 500 tp)] := hD
                          have hP := hP.sub (ws' := [(oX7 z0 y0 (nI n) (nI (rn isBl T n (rn isDg T n (rn isBl T n (rn isDg T n (rn isBl T n (rn isLt T n k))))))) 1 (nI (rn isBl T n (rn isDg T n (rn isBl T n (rn isDg T n (rn isBl T n (rn isLt T n k))))))) z1), (aB g y0 500 tp), (aI g z1 3 (upd (upd nu 0 (nI (nvF T (rn isBl T n (rn isLt T n k)) (rn isDg T n (rn isBl T n (rn isLt T n k)) - rn isBl T n (rn isLt T n k))))) 1 (nI (nvF T (rn isBl T n (rn isDg T n (rn isBl T n (rn isLt T n k)))) (rn isDg T n (rn isBl T n (rn isDg T n (rn isBl T n (rn isLt T n k)))) - rn isBl T n (rn isDg T n (rn isBl T n (rn isLt T n k)))))))), (oX5 t0 t1 t2 (nI w)), (aI g t1 6 pd), (aI g t2 36 wb)]) [4, 5, 3, 2, 0, 1] rfl
                          have hD := hD.sub (ws' := [(oX7 z0 y0 (nI n) (nI (rn isBl T n (rn isDg T n (rn isBl T n (rn isDg T n (rn isBl T n (rn isLt T n k))))))) 1 (nI (rn isBl T n (rn isDg T n (rn isBl T n (rn isDg T n (rn isBl T n (rn isLt T n k))))))) z1), (aB g y0 500 tp), (aI g z1 3 (upd (upd nu 0 (nI (nvF T (rn isBl T n (rn isLt T n k)) (rn isDg T n (rn isBl T n (rn isLt T n k)) - rn isBl T n (rn isLt T n k))))) 1 (nI (nvF T (rn isBl T n (rn isDg T n (rn isBl T n (rn isLt T n k)))) (rn isDg T n (rn isBl T n (rn isDg T n (rn isBl T n (rn isLt T n k)))) - rn isBl T n (rn isDg T n (rn isBl T n (rn isLt T n k)))))))), (oX5 t0 t1 t2 (nI w)), (aI g t1 6 pd), (aI g t2 36 wb)]) [4, 5, 3, 2, 0, 1] (by decide) rfl
                          exact he_rz hQ hx hb hr hlk hP hD hS dX7_readPart_154 (Nat.le_of_ble_eq_true rfl) (Nat.le_of_ble_eq_true rfl) rfl (((rn isBl T n (rn isDg T n (rn isBl T n (rn isDg T n (rn isBl T n (rn isLt T n k)))))), 1, nI (rn isBl T n (rn isDg T n (rn isBl T n (rn isDg T n (rn isBl T n (rn isLt T n k)))))), upd (upd nu 0 (nI (nvF T (rn isBl T n (rn isLt T n k)) (rn isDg T n (rn isBl T n (rn isLt T n k)) - rn isBl T n (rn isLt T n k))))) 1 (nI (nvF T (rn isBl T n (rn isDg T n (rn isBl T n (rn isLt T n k)))) (rn isDg T n (rn isBl T n (rn isDg T n (rn isBl T n (rn isLt T n k)))) - rn isBl T n (rn isDg T n (rn isBl T n (rn isLt T n k)))))), pd, wb)) (rfl) ((by have hP9 : ptS T n wl5 (bd5 w) (fl5 bf) k = _ := ptS_c (bd := bd5 w) hw hfl0 (nmS_s hm0 ((wi_b (lo := 0) (hx := w) (by (try dsimp only); decide) rfl (by (try dsimp only); decide) (by (try dsimp only); omega) (nv_le _ _ _)).mp hv0) (nmS_s hm1 ((wi_b (lo := 0) (hx := 36) (by (try dsimp only); decide) (by (try dsimp only); decide) (by (try dsimp only); decide) (by (try dsimp only); decide) (nv_le _ _ _)).mp hv1) rfl)) hsc; exact ⟨by rw [hP9], Or.inl ⟨1, _, by rw [hP9], rfl, rfl, rfl, rfl, rfl⟩⟩))
                        refine lv_aload_n hx hb dX7_readPart_120 rfl (lv_at hl 4 rfl) ?_
                        refine va_get (v := .int (nI (rn isBl T n (rn isDg T n (rn isBl T n (rn isDg T n (rn isBl T n (rn isLt T n k)))))))) (T := TX7) (N := 6) hx hb hts inX7 hown hK hP 4 rfl rfl 2 (by decide) f32 (fun _ h9 => h9) rfl dX7_readPart_121 ?_
                        refine lv_aload_n hx hb dX7_readPart_124 rfl (lv_at hl 4 rfl) ?_
                        refine va_get (v := .int (nI n)) (T := TX7) (N := 6) hx hb hts inX7 hown hK hP 4 rfl rfl 1 (by decide) f29 (fun _ h9 => h9) rfl dX7_readPart_125 ?_
                        refine lv_icmp_ge (tgt := 145) hx hb dX7_readPart_128 (by decide) (fun c_377 => ?_) (fun c_377 => ?_)
                        · have k_378 : n ≤ rn isBl T n (rn isDg T n (rn isBl T n (rn isDg T n (rn isBl T n (rn isLt T n k))))) := (he_cle (a := n) (b := rn isBl T n (rn isDg T n (rn isBl T n (rn isDg T n (rn isBl T n (rn isLt T n k)))))) rfl rfl (by omega) (by omega)).mp c_377
                          exact join145 () (fun h9 => absurd h9.1 (by omega)) _ _ _ hP hD hS (lv_sub hl [0, 1, 2, 3, 4, 5, 6] rfl)
                        · have k_379 : ¬ (n ≤ rn isBl T n (rn isDg T n (rn isBl T n (rn isDg T n (rn isBl T n (rn isLt T n k)))))) := fun h9 => c_377 ((he_cle (a := n) (b := rn isBl T n (rn isDg T n (rn isBl T n (rn isDg T n (rn isBl T n (rn isLt T n k)))))) rfl rfl (by omega) (by omega)).mpr h9)
                          refine lv_aload_n hx hb dX7_readPart_131 rfl (lv_at hl 4 rfl) ?_
                          refine va_get (v := .ref y0) (T := TX7) (N := 6) hx hb hts inX7 hown hK hP 4 rfl rfl 0 (by decide) f9 (fun _ h9 => h9) rfl dX7_readPart_132 ?_
                          refine lv_aload_n hx hb dX7_readPart_135 rfl (lv_at hl 4 rfl) ?_
                          refine va_get (v := .int (nI (rn isBl T n (rn isDg T n (rn isBl T n (rn isDg T n (rn isBl T n (rn isLt T n k)))))))) (T := TX7) (N := 6) hx hb hts inX7 hown hK hP 4 rfl rfl 2 (by decide) f32 (fun _ h9 => h9) rfl dX7_readPart_136 ?_
                          refine he_bald hx hb hK hP 5 rfl (rn isBl T n (rn isDg T n (rn isBl T n (rn isDg T n (rn isBl T n (rn isLt T n k)))))) rfl (by first | assumption | decide | omega) (by first | decide | assumption) (tp (rn isBl T n (rn isDg T n (rn isBl T n (rn isDg T n (rn isBl T n (rn isLt T n k))))))) rfl dX7_readPart_139 ?_
                          refine lv_bipush (v := 59) hx hb dX7_readPart_140 (by decide) ?_
                          refine lv_icmp_eq (tgt := 155) hx hb dX7_readPart_142 (by decide) (fun c_380 => ?_) (fun c_380 => ?_)
                          · have hso : rn isBl T n (rn isDg T n (rn isBl T n (rn isDg T n (rn isBl T n (rn isLt T n k))))) < n ∧ T (rn isBl T n (rn isDg T n (rn isBl T n (rn isDg T n (rn isBl T n (rn isLt T n k)))))) = 59 := ⟨by omega, (cB (hT _ (by omega))).1.2.mp c_380⟩
                            refine lv_aload_n hx hb dX7_readPart_155 rfl (lv_at hl 4 rfl) ?_
                            refine lv_dup hx hb dX7_readPart_156 rfl ?_
                            refine va_get (v := .int (nI (rn isBl T n (rn isDg T n (rn isBl T n (rn isDg T n (rn isBl T n (rn isLt T n k)))))))) (T := TX7) (N := 6) hx hb hts inX7 hown hK hP 4 rfl rfl 2 (by decide) f32 (fun _ h9 => h9) rfl dX7_readPart_157 ?_
                            refine lv_iconst (v := 1) hx hb dX7_readPart_160 (by decide) ?_
                            refine lv_iadd hx hb dX7_readPart_161 ?_
                            refine he_top (nI (rn isBl T n (rn isDg T n (rn isBl T n (rn isDg T n (rn isBl T n (rn isLt T n k))))) + 1)) (nI_add (rn isBl T n (rn isDg T n (rn isBl T n (rn isDg T n (rn isBl T n (rn isLt T n k)))))) 1) ?_
                            refine va_put (v := .int (nI (rn isBl T n (rn isDg T n (rn isBl T n (rn isDg T n (rn isBl T n (rn isLt T n k))))) + 1))) (ty := .int) (T := TX7) (N := 6) hx hb hts inX7 tyX7 tyX7_ok nmX7 hown hK hP hD hS 4 rfl rfl 2 (by decide) f32 (fun _ h9 => h9) rfl (by decide +kernel) rfl rfl (Nat.le_of_ble_eq_true rfl) dX7_readPart_162 (fun H locs hP hD hS => ?_)
                            have hP : va_P g.1 vwCl [(aI g t1 6 pd), (aI g t2 36 wb), (oX5 t0 t1 t2 (nI w)), (aI g z1 3 (upd (upd nu 0 (nI (nvF T (rn isBl T n (rn isLt T n k)) (rn isDg T n (rn isBl T n (rn isLt T n k)) - rn isBl T n (rn isLt T n k))))) 1 (nI (nvF T (rn isBl T n (rn isDg T n (rn isBl T n (rn isLt T n k)))) (rn isDg T n (rn isBl T n (rn isDg T n (rn isBl T n (rn isLt T n k)))) - rn isBl T n (rn isDg T n (rn isBl T n (rn isLt T n k)))))))), (oX7 z0 y0 (nI n) (nI (rn isBl T n (rn isDg T n (rn isBl T n (rn isDg T n (rn isBl T n (rn isLt T n k))))) + 1)) fa pl z1), (aB g y0 500 tp)] H := hP
                            have hD : va_D A [(aI g t1 6 pd), (aI g t2 36 wb), (oX5 t0 t1 t2 (nI w)), (aI g z1 3 (upd (upd nu 0 (nI (nvF T (rn isBl T n (rn isLt T n k)) (rn isDg T n (rn isBl T n (rn isLt T n k)) - rn isBl T n (rn isLt T n k))))) 1 (nI (nvF T (rn isBl T n (rn isDg T n (rn isBl T n (rn isLt T n k)))) (rn isDg T n (rn isBl T n (rn isDg T n (rn isBl T n (rn isLt T n k)))) - rn isBl T n (rn isDg T n (rn isBl T n (rn isLt T n k)))))))), (oX7 z0 y0 (nI n) (nI (rn isBl T n (rn isDg T n (rn isBl T n (rn isDg T n (rn isBl T n (rn isLt T n k))))) + 1)) fa pl z1), (aB g y0 500 tp)] := hD
                            refine lv_aload_n hx hb dX7_readPart_165 rfl (lv_at hl 5 rfl) ?_
                            refine lv_iload hx hb dX7_readPart_166 (lv_at hl 2 rfl) ?_
                            refine lv_aload_n hx hb dX7_readPart_168 rfl (lv_at hl 4 rfl) ?_
                            refine va_get (v := .ref z1) (T := TX7) (N := 6) hx hb hts inX7 hown hK hP 4 rfl rfl 5 (by decide) f19 (fun _ h9 => h9) rfl dX7_readPart_169 ?_
                            refine he_cv (wc := [(oX5 t0 t1 t2 (nI w)), (aI g t1 6 pd), (aI g t2 36 wb), (aI g z1 3 (upd (upd nu 0 (nI (nvF T (rn isBl T n (rn isLt T n k)) (rn isDg T n (rn isBl T n (rn isLt T n k)) - rn isBl T n (rn isLt T n k))))) 1 (nI (nvF T (rn isBl T n (rn isDg T n (rn isBl T n (rn isLt T n k)))) (rn isDg T n (rn isBl T n (rn isDg T n (rn isBl T n (rn isLt T n k)))) - rn isBl T n (rn isDg T n (rn isBl T n (rn isLt T n k))))))))]) (wr := [(oX7 z0 y0 (nI n) (nI (rn isBl T n (rn isDg T n (rn isBl T n (rn isDg T n (rn isBl T n (rn isLt T n k))))) + 1)) fa pl z1), (aB g y0 500 tp)]) (va_runU (As := [.int 6, .ref z1]) (rest := []) ⟨hx, hb, hml, hown, hts⟩ (p_X5_store_6 l g t0 t1 t2 w pd wb z1 (nvF T (rn isBl T n (rn isDg T n (rn isBl T n (rn isLt T n k)))) (rn isDg T n (rn isBl T n (rn isDg T n (rn isBl T n (rn isLt T n k)))) - rn isBl T n (rn isDg T n (rn isBl T n (rn isLt T n k))))) (upd (upd nu 0 (nI (nvF T (rn isBl T n (rn isLt T n k)) (rn isDg T n (rn isBl T n (rn isLt T n k)) - rn isBl T n (rn isLt T n k))))) 1 (nI (nvF T (rn isBl T n (rn isDg T n (rn isBl T n (rn isLt T n k)))) (rn isDg T n (rn isBl T n (rn isDg T n (rn isBl T n (rn isLt T n k)))) - rn isBl T n (rn isDg T n (rn isBl T n (rn isLt T n k))))))) (by have := ((wi_b (lo := 0) (hx := 36) (by decide) (by decide) (by decide) (by decide) (nv_le _ _ _)).mp hv1); omega) (by rw [upd_s]) H.size) (va_cwA 2 hts gX7_readPart_X5_store_u83X5 rfl rfl rfl dc83 (by decide +kernel) ⟨Nat.le_of_ble_eq_true rfl, Nat.le_of_ble_eq_true rfl⟩) (he_preV (wc := [(oX5 t0 t1 t2 (nI w)), (aI g t1 6 pd), (aI g t2 36 wb), (aI g z1 3 (upd (upd nu 0 (nI (nvF T (rn isBl T n (rn isLt T n k)) (rn isDg T n (rn isBl T n (rn isLt T n k)) - rn isBl T n (rn isLt T n k))))) 1 (nI (nvF T (rn isBl T n (rn isDg T n (rn isBl T n (rn isLt T n k)))) (rn isDg T n (rn isBl T n (rn isDg T n (rn isBl T n (rn isLt T n k)))) - rn isBl T n (rn isDg T n (rn isBl T n (rn isLt T n k))))))))]) hK hP hD hS hA hE [2, 0, 1, 3] rfl rfl 2 rfl rfl) rfl rfl hl.1 rfl (lv_room (Nat.le_of_ble_eq_true rfl)) dX7_readPart_172 ⟨(Nat.le_of_ble_eq_true rfl), (Nat.le_of_ble_eq_true rfl)⟩) hP hD hS hA [2, 0, 1, 3] [4, 5] rfl rfl rfl (by decide) (fun u_382 H locs h_383 hP hD hS => ?_)
                            have hP : va_P g.1 vwCl [(oX7 z0 y0 (nI n) (nI (rn isBl T n (rn isDg T n (rn isBl T n (rn isDg T n (rn isBl T n (rn isLt T n k))))) + 1)) fa pl z1), (aB g y0 500 tp), (oX5 t0 t1 t2 (nI w)), (aI g t1 6 pd), (aI g t2 36 (upd wb (nvF T (rn isBl T n (rn isDg T n (rn isBl T n (rn isLt T n k)))) (rn isDg T n (rn isBl T n (rn isDg T n (rn isBl T n (rn isLt T n k)))) - rn isBl T n (rn isDg T n (rn isBl T n (rn isLt T n k))))) ((upd (upd nu 0 (nI (nvF T (rn isBl T n (rn isLt T n k)) (rn isDg T n (rn isBl T n (rn isLt T n k)) - rn isBl T n (rn isLt T n k))))) 1 (nI (nvF T (rn isBl T n (rn isDg T n (rn isBl T n (rn isLt T n k)))) (rn isDg T n (rn isBl T n (rn isDg T n (rn isBl T n (rn isLt T n k)))) - rn isBl T n (rn isDg T n (rn isBl T n (rn isLt T n k))))))) 0))), (aI g z1 3 (upd (upd nu 0 (nI (nvF T (rn isBl T n (rn isLt T n k)) (rn isDg T n (rn isBl T n (rn isLt T n k)) - rn isBl T n (rn isLt T n k))))) 1 (nI (nvF T (rn isBl T n (rn isDg T n (rn isBl T n (rn isLt T n k)))) (rn isDg T n (rn isBl T n (rn isDg T n (rn isBl T n (rn isLt T n k)))) - rn isBl T n (rn isDg T n (rn isBl T n (rn isLt T n k))))))))] H := hP
                            have hD : va_D A [(oX7 z0 y0 (nI n) (nI (rn isBl T n (rn isDg T n (rn isBl T n (rn isDg T n (rn isBl T n (rn isLt T n k))))) + 1)) fa pl z1), (aB g y0 500 tp), (oX5 t0 t1 t2 (nI w)), (aI g t1 6 pd), (aI g t2 36 (upd wb (nvF T (rn isBl T n (rn isDg T n (rn isBl T n (rn isLt T n k)))) (rn isDg T n (rn isBl T n (rn isDg T n (rn isBl T n (rn isLt T n k)))) - rn isBl T n (rn isDg T n (rn isBl T n (rn isLt T n k))))) ((upd (upd nu 0 (nI (nvF T (rn isBl T n (rn isLt T n k)) (rn isDg T n (rn isBl T n (rn isLt T n k)) - rn isBl T n (rn isLt T n k))))) 1 (nI (nvF T (rn isBl T n (rn isDg T n (rn isBl T n (rn isLt T n k)))) (rn isDg T n (rn isBl T n (rn isDg T n (rn isBl T n (rn isLt T n k)))) - rn isBl T n (rn isDg T n (rn isBl T n (rn isLt T n k))))))) 0))), (aI g z1 3 (upd (upd nu 0 (nI (nvF T (rn isBl T n (rn isLt T n k)) (rn isDg T n (rn isBl T n (rn isLt T n k)) - rn isBl T n (rn isLt T n k))))) 1 (nI (nvF T (rn isBl T n (rn isDg T n (rn isBl T n (rn isLt T n k)))) (rn isDg T n (rn isBl T n (rn isDg T n (rn isBl T n (rn isLt T n k)))) - rn isBl T n (rn isDg T n (rn isBl T n (rn isLt T n k))))))))] := hD
                            refine lv_iconst (v := 1) hx hb dX7_readPart_175 (by decide) ?_
                            have hP := hP.sub (ws' := [(oX7 z0 y0 (nI n) (nI (rn isBl T n (rn isDg T n (rn isBl T n (rn isDg T n (rn isBl T n (rn isLt T n k))))) + 1)) fa pl z1), (aB g y0 500 tp), (aI g z1 3 (upd (upd nu 0 (nI (nvF T (rn isBl T n (rn isLt T n k)) (rn isDg T n (rn isBl T n (rn isLt T n k)) - rn isBl T n (rn isLt T n k))))) 1 (nI (nvF T (rn isBl T n (rn isDg T n (rn isBl T n (rn isLt T n k)))) (rn isDg T n (rn isBl T n (rn isDg T n (rn isBl T n (rn isLt T n k)))) - rn isBl T n (rn isDg T n (rn isBl T n (rn isLt T n k)))))))), (oX5 t0 t1 t2 (nI w)), (aI g t1 6 pd), (aI g t2 36 (upd wb (nvF T (rn isBl T n (rn isDg T n (rn isBl T n (rn isLt T n k)))) (rn isDg T n (rn isBl T n (rn isDg T n (rn isBl T n (rn isLt T n k)))) - rn isBl T n (rn isDg T n (rn isBl T n (rn isLt T n k))))) ((upd (upd nu 0 (nI (nvF T (rn isBl T n (rn isLt T n k)) (rn isDg T n (rn isBl T n (rn isLt T n k)) - rn isBl T n (rn isLt T n k))))) 1 (nI (nvF T (rn isBl T n (rn isDg T n (rn isBl T n (rn isLt T n k)))) (rn isDg T n (rn isBl T n (rn isDg T n (rn isBl T n (rn isLt T n k)))) - rn isBl T n (rn isDg T n (rn isBl T n (rn isLt T n k))))))) 0)))]) [0, 1, 5, 2, 3, 4] rfl
                            have hD := hD.sub (ws' := [(oX7 z0 y0 (nI n) (nI (rn isBl T n (rn isDg T n (rn isBl T n (rn isDg T n (rn isBl T n (rn isLt T n k))))) + 1)) fa pl z1), (aB g y0 500 tp), (aI g z1 3 (upd (upd nu 0 (nI (nvF T (rn isBl T n (rn isLt T n k)) (rn isDg T n (rn isBl T n (rn isLt T n k)) - rn isBl T n (rn isLt T n k))))) 1 (nI (nvF T (rn isBl T n (rn isDg T n (rn isBl T n (rn isLt T n k)))) (rn isDg T n (rn isBl T n (rn isDg T n (rn isBl T n (rn isLt T n k)))) - rn isBl T n (rn isDg T n (rn isBl T n (rn isLt T n k)))))))), (oX5 t0 t1 t2 (nI w)), (aI g t1 6 pd), (aI g t2 36 (upd wb (nvF T (rn isBl T n (rn isDg T n (rn isBl T n (rn isLt T n k)))) (rn isDg T n (rn isBl T n (rn isDg T n (rn isBl T n (rn isLt T n k)))) - rn isBl T n (rn isDg T n (rn isBl T n (rn isLt T n k))))) ((upd (upd nu 0 (nI (nvF T (rn isBl T n (rn isLt T n k)) (rn isDg T n (rn isBl T n (rn isLt T n k)) - rn isBl T n (rn isLt T n k))))) 1 (nI (nvF T (rn isBl T n (rn isDg T n (rn isBl T n (rn isLt T n k)))) (rn isDg T n (rn isBl T n (rn isDg T n (rn isBl T n (rn isLt T n k)))) - rn isBl T n (rn isDg T n (rn isBl T n (rn isLt T n k))))))) 0)))]) [0, 1, 5, 2, 3, 4] (by decide) rfl
                            exact he_rz hQ hx hb hr hlk hP hD hS dX7_readPart_176 (Nat.le_of_ble_eq_true rfl) (Nat.le_of_ble_eq_true rfl) rfl ((rn isBl T n (rn isDg T n (rn isBl T n (rn isDg T n (rn isBl T n (rn isLt T n k))))) + 1, fa, pl, upd (upd nu 0 (nI (nvF T (rn isBl T n (rn isLt T n k)) (rn isDg T n (rn isBl T n (rn isLt T n k)) - rn isBl T n (rn isLt T n k))))) 1 (nI (nvF T (rn isBl T n (rn isDg T n (rn isBl T n (rn isLt T n k)))) (rn isDg T n (rn isBl T n (rn isDg T n (rn isBl T n (rn isLt T n k)))) - rn isBl T n (rn isDg T n (rn isBl T n (rn isLt T n k)))))), pd, upd wb (nvF T (rn isBl T n (rn isDg T n (rn isBl T n (rn isLt T n k)))) (rn isDg T n (rn isBl T n (rn isDg T n (rn isBl T n (rn isLt T n k)))) - rn isBl T n (rn isDg T n (rn isBl T n (rn isLt T n k))))) ((upd (upd nu 0 (nI (nvF T (rn isBl T n (rn isLt T n k)) (rn isDg T n (rn isBl T n (rn isLt T n k)) - rn isBl T n (rn isLt T n k))))) 1 (nI (nvF T (rn isBl T n (rn isDg T n (rn isBl T n (rn isLt T n k)))) (rn isDg T n (rn isBl T n (rn isDg T n (rn isBl T n (rn isLt T n k)))) - rn isBl T n (rn isDg T n (rn isBl T n (rn isLt T n k))))))) 0))) (rfl) ((by have hP9 : ptS T n wl5 (bd5 w) (fl5 bf) k = _ := ptS_o (bd := bd5 w) hw hfl0 (nmS_s hm0 ((wi_b (lo := 0) (hx := w) (by (try dsimp only); decide) rfl (by (try dsimp only); decide) (by (try dsimp only); omega) (nv_le _ _ _)).mp hv0) (nmS_s hm1 ((wi_b (lo := 0) (hx := 36) (by (try dsimp only); decide) (by (try dsimp only); decide) (by (try dsimp only); decide) (by (try dsimp only); decide) (nv_le _ _ _)).mp hv1) rfl)) hso; exact ⟨by rw [hP9], Or.inr ⟨6, _, by rw [hP9], by rw [hP9], rfl, rfl, rfl, rfl, rfl⟩⟩))
                          · exact join145 () (fun h9 => c_380 ((cB (hT _ h9.1)).1.2.mpr h9.2)) _ _ _ hP hD hS (lv_sub hl [0, 1, 2, 3, 4, 5, 6] rfl)
                      · exact absurd (by decide) c_370
                    · exact absurd c_369 (by decide)
              · exact absurd c_350 (by decide)
        · exact absurd (by decide) c_328
    · exact absurd c_315 (by decide)
