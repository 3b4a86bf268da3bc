def pasP (sd fn st me pd f : Nat → Int32) (mo : Int32) : Nat → Int32 := if payF pd mo ≤ taxF sd f 0 then tlF pd (psT sd st me 0 (frF (mvF (taxF sd f) 0 1 (payF pd mo)) (faF fn (pd 2)))) (mo + 1) else tlF pd (psT sd st me 0 (dfF (taxF sd f))) (mo + 1)
theorem upd_z (k : Nat) : upd (fun _ => (0 : Int32)) k 0 = fun _ => 0 := by funext j; unfold upd; split <;> rfl
def mfF (i j : Nat) : Int32 := if i = 0 ∨ j = 0 ∨ i = j then 1 else 0
theorem he_down {i : Nat} {x : Int32} (hm : x = nI i - 1) (h : ¬ x < 0) : ∃ k, i = k + 1 ∧ x = nI k := by
  cases i with
  | zero => subst hm; exact absurd (by decide) h
  | succ k => exact ⟨k, rfl, by rw [hm, nI_pred]⟩
theorem he_dec (k : Nat) : nI k + (-1) = nI k - 1 := by rw [Int32.sub_eq_add_neg]
theorem he_within_1 {x a b : Int32} (h : ¬ he_within x a b = 0) : he_within x a b = 1 := by
  unfold he_within at h ⊢
  by_cases h1 : x < a
  · simp [h1] at h
  · by_cases h2 : b < x
    · simp [h1, h2] at h
    · rw [if_neg h1, if_neg h2]
theorem he_within_m1 (x : Int32) : he_within x 0 (-1) = 0 := by
  unfold he_within
  split
  · rfl
  · rename_i h
    rw [if_pos (Int32.lt_of_lt_of_le (by decide) (Int32.not_lt.mp h))]
theorem he_zero {x : Int32} (h1 : ¬ x < 0) (h2 : ¬ 0 < x) : x = 0 := Int32.le_antisymm (Int32.not_lt.mp h2) (Int32.not_lt.mp h1)
theorem upd_s {f : Nat → Int32} {k : Nat} {x : Int32} : upd f k x k = x := by simp [upd]
theorem upd_n {f : Nat → Int32} {k j : Nat} {x : Int32} (h : j ≠ k) : upd f k x j = f j := by simp [upd, h]
theorem mvF_n (f : Nat → Int32) (i j k : Nat) (d : Int32) (h1 : k ≠ i) (h2 : k ≠ j) : mvF f i j d k = f k := by unfold mvF; rw [upd_n h2, upd_n h1]
theorem dsF_n (f : Nat → Int32) (k : Nat) (d : Int32) (h1 : k ≠ 3) (h2 : k ≠ 4) : dsF f d k = f k := by
  unfold dsF mnF
  split
  · rw [upd_n h1, upd_n h2]
  · rw [upd_n h2, upd_n h1]
theorem mendF_n (sd st me f : Nat → Int32) (k : Nat) (h0 : k ≠ 0) (h2 : k ≠ 2) (hk : k < 12) : ∀ w, mendF sd st me f w k = f k
  | 0 => rfl
  | w + 1 => by rw [mendF_s, mendS, mvF_n _ _ _ _ _ h0 h2, upd_n (by omega), mendF_n sd st me f k h0 h2 hk w]
def stpF (sd st me : Nat → Int32) (w : Nat) (f : Nat → Int32) : Nat → Int32 := psT sd st me w (taxF sd f)
theorem psT_n (sd st me : Nat → Int32) (w : Nat) (f : Nat → Int32) (k : Nat) (h : 6 ≤ k) (hk : k < 12) : psT sd st me w f k = f k := by
  unfold psT psD psC psB psA
  rw [dsF_n _ _ _ (by omega) (by omega), mvF_n _ _ _ _ _ (by omega) (by omega), mvF_n _ _ _ _ _ (by omega) (by omega), mendF_n _ _ _ _ _ (by omega) (by omega) hk, upd_n (by omega)]
theorem taxF_n (sd f : Nat → Int32) (k : Nat) (h : 6 ≤ k) : taxF sd f k = f k := by unfold taxF; rw [mvF_n _ _ _ _ _ (by omega) (by omega)]
theorem stpF_n (sd st me : Nat → Int32) (w : Nat) (f : Nat → Int32) (k : Nat) (h : 6 ≤ k) (hk : k < 12) : stpF sd st me w f k = f k := by unfold stpF; rw [psT_n _ _ _ _ _ _ h hk, taxF_n _ _ _ h]
def itF (sd st me : Nat → Int32) (w : Nat) (f : Nat → Int32) : Nat → Nat → Int32
  | 0 => f
  | n + 1 => stpF sd st me w (itF sd st me w f n)
theorem itF_n (sd st me : Nat → Int32) (w : Nat) (f : Nat → Int32) (k : Nat) (h : 6 ≤ k) (hk : k < 12) : ∀ n, itF sd st me w f n k = f k
  | 0 => rfl
  | n + 1 => by rw [itF, stpF_n _ _ _ _ _ _ h hk, itF_n sd st me w f k h hk n]
theorem fcF_10 (f : Nat → Int32) (c m : Int32) : fcF f c m 10 = c := by unfold fcF; rw [upd_n (by decide), upd_s]
def nearF (sd : Nat → Int32) (a k : Int32) : Nat → Nat → Int32
  | 0, _ => -1
  | n + 1, x => if a < wantF sd (nI x) k then nearF sd a k n (x + 1) else nI x
set_option maxHeartbeats 4000000 in
set_option maxRecDepth 100000 in
theorem c_X0_keep (l : Launch) (g : he_G) (a0 : Nat) (a1 : Nat) (ln : Nat → Int32) (h0 : Nat) (q0 : Nat) (q1 : Nat) (k : Nat) (f : Nat → Int32) (hk : k < 120) : he_V l yX0_keep wsX0_keep 1 22 0 0 g [.ref a0, .ref h0] [(oX0 a0 a1), (aI g a1 3600 ln), (oX4 h0 q0 q1 (nI k)), (aI g q0 24 f)] (fun (u : Unit) => True) (fun (u : Unit) => [(oX0 a0 a1), (aI g a1 3600 (va_cpy f ln 0 (k * 30) 24)), (oX4 h0 q0 q1 (nI k)), (aI g q0 24 f)]) := by
  refine he_begin (l := l) (g := g) (y := yX0_keep) (wl := wsX0_keep) (fr := 1) (lo := 22) (mc := 0) (ms := 0) (av := [.ref a0, .ref h0]) (ws := [(oX0 a0 a1), (aI g a1 3600 ln), (oX4 h0 q0 q1 (nI k)), (aI g q0 24 f)]) (cc := cX0_keep) (maxL := 2) (ret := none) (fun A => va_Qv (fun (u : Unit) => True) (fun u t => he_post g A ((fun (u : Unit) => [(oX0 a0 a1), (aI g a1 3600 (va_cpy f ln 0 (k * 30) 24)), (oX4 h0 q0 q1 (nI k)), (aI g q0 24 f)]) u) t) A) (by decide) rfl (Nat.le_of_ble_eq_true rfl) ?_
  intro p e s m args below meth c A ls H locs Q hQ hB
  obtain ⟨hx, hb, hr, hml, hown, hts, hlk, hin, hP, hK, hD, hS, hA, hE, hl⟩ := hB
  have hl : lv_has ls 2 [(0, .ref a0), (1, .ref h0)] := hl
  have f15 := hts (.fieldLink RX0 15 "HiredEnemy$Course" "month" "I") (iwoX0_keep (k := 0) rfl)
  have inX4 : ∀ w ∈ wsX40, w ∈ wsX0_keep := innX0_keep_X4
  have nl21 := hE.nest (RX0, 21, yX10_within) (by decide +kernel)
  have iniX10 := hts (.initialized RX10) (iwoX0_keep (k := 8) rfl)
  have st_yX10_within := hts (.static yX10_within) (iwoX0_keep (k := 7) rfl)
  have f25 := hts (.fieldLink RX0 25 "HiredEnemy$Course" "now" "[I") (iwoX0_keep (k := 1) rfl)
  have f11 := hts (.fieldLink RX0 11 "HiredEnemy$Annals" "lines" "[I") (iwoX0_keep (k := 2) rfl)
  have inX0 : ∀ w ∈ wsX00, w ∈ wsX0_keep := innX0_keep_X0
  have al28 := hts (.methodLink RX0 28 arraycopyName) (iwoX0_keep (k := 3) rfl)
  have an := hts (.native arraycopyName) (iwoX0_keep (k := 4) rfl)
  have ast := hts (.static arraycopyName) (iwoX0_keep (k := 5) rfl)
  have ai := hts (.initialized "java/lang/System") (iwoX0_keep (k := 6) rfl)
  refine lv_aload_n hx hb dX0_keep_0 rfl (lv_at hl 1 rfl) ?_
  refine va_get (v := .int (nI k)) (T := TX4) (N := 3) hx hb hts inX4 hown hK hP 2 rfl rfl 2 (by decide) f15 (fun _ h9 => h9) rfl dX0_keep_1 ?_
  refine lv_iconst (v := 0) hx hb dX0_keep_4 (by decide) ?_
  refine lv_bipush (v := 119) hx hb dX0_keep_5 (by decide) ?_
  refine he_ci (wc := []) (wr := [(oX0 a0 a1), (aI g a1 3600 ln), (oX4 h0 q0 q1 (nI k)), (aI g q0 24 f)]) (va_runSN (As := [.int (nI k), .int 0, .int 119]) (rest := []) ⟨hx, hb, hml, hown, hts⟩ (c_X10_within l g (nI k) 0 119 H.size) ⟨(va_cnB 3 hts gX0_keep_X10_within_n21 rfl rfl rfl nl21 iniX10 (by decide +kernel) ⟨Nat.le_of_ble_eq_true rfl, Nat.le_of_ble_eq_true rfl⟩), st_yX10_within, trivial⟩ (he_preS (wc := []) hK hP hD hS hA hE [] rfl rfl) rfl rfl hl.1 rfl (lv_room (Nat.le_of_ble_eq_true rfl)) dX0_keep_7 ⟨(Nat.le_of_ble_eq_true rfl), (Nat.le_of_ble_eq_true rfl)⟩) hP hD hS hA [] [0, 1, 2, 3] rfl rfl rfl (by decide) (fun r_1 u_2 H locs h_3 hP hD hS => ?_)
  subst h_3
  have hP : va_P g.1 vwCl [(oX0 a0 a1), (aI g a1 3600 ln), (oX4 h0 q0 q1 (nI k)), (aI g q0 24 f)] H := hP
  have hD : va_D A [(oX0 a0 a1), (aI g a1 3600 ln), (oX4 h0 q0 q1 (nI k)), (aI g q0 24 f)] := hD
  refine he_top (1) (he_within_in (a0 := 0) (B := 119) rfl rfl (by omega) (by omega) (by decide)) ?_
  refine lv_if_eq (tgt := 34) hx hb dX0_keep_10 (by decide) (fun c_4 => ?_) (fun c_4 => ?_)
  · exact absurd c_4 (by decide)
  · refine lv_aload_n hx hb dX0_keep_13 rfl (lv_at hl 1 rfl) ?_
    refine va_get (v := .ref q0) (T := TX4) (N := 3) hx hb hts inX4 hown hK hP 2 rfl rfl 0 (by decide) f25 (fun _ h9 => h9) rfl dX0_keep_14 ?_
    refine lv_iconst (v := 0) hx hb dX0_keep_17 (by decide) ?_
    refine lv_aload_n hx hb dX0_keep_18 rfl (lv_at hl 0 rfl) ?_
    refine va_get (v := .ref a1) (T := TX0) (N := 1) hx hb hts inX0 hown hK hP 0 rfl rfl 0 (by decide) f11 (fun _ h9 => h9) rfl dX0_keep_19 ?_
    refine lv_aload_n hx hb dX0_keep_22 rfl (lv_at hl 1 rfl) ?_
    refine va_get (v := .int (nI k)) (T := TX4) (N := 3) hx hb hts inX4 hown hK hP 2 rfl rfl 2 (by decide) f15 (fun _ h9 => h9) rfl dX0_keep_23 ?_
    refine lv_bipush (v := 30) hx hb dX0_keep_26 (by decide) ?_
    refine lv_imul hx hb dX0_keep_28 ?_
    refine he_top (nI (k * 30)) (pk_mul k 30) ?_
    refine lv_bipush (v := 24) hx hb dX0_keep_29 (by decide) ?_
    refine he_copy hx hb (by rw [hml]; exact hl.1.symm) hown al28 an ast ai hK hP hD hS 3 1 rfl rfl (0) (k * 30) (24) (by decide) rfl (by decide) (by first | decide | omega) (by first | decide | omega) (by decide) (by decide) (Nat.le_of_ble_eq_true rfl) (Nat.le_of_ble_eq_true rfl) dX0_keep_31 (fun H locs hP hD hS => ?_)
    have hP : va_P g.1 vwCl [(oX0 a0 a1), (aI g a1 3600 (va_cpy f ln 0 (k * 30) 24)), (oX4 h0 q0 q1 (nI k)), (aI g q0 24 f)] H := hP
    have hD : va_D A [(oX0 a0 a1), (aI g a1 3600 (va_cpy f ln 0 (k * 30) 24)), (oX4 h0 q0 q1 (nI k)), (aI g q0 24 f)] := hD
    exact he_rv hQ hx hb hr hlk hP hD hS dX0_keep_34 (Nat.le_of_ble_eq_true rfl) (Nat.le_of_ble_eq_true rfl) (()) (rfl) (trivial)
set_option maxHeartbeats 4000000 in
set_option maxRecDepth 100000 in
theorem c_X0_lead (l : Launch) (g : he_G) (a0 : Nat) (a1 : Nat) (ln : Nat → Int32) (h0 : Nat) (q0 : Nat) (q1 : Nat) (k : Nat) (sh : Nat → Int32) (hk : k < 120) : he_V l yX0_lead wsX0_lead 1 22 0 0 g [.ref a0, .ref h0] [(oX0 a0 a1), (aI g a1 3600 ln), (oX4 h0 q0 q1 (nI (k + 1))), (aI g q1 6 sh)] (fun (u : Unit) => True) (fun (u : Unit) => [(oX0 a0 a1), (aI g a1 3600 (va_cpy sh ln 0 (k * 30 + 24) 6)), (oX4 h0 q0 q1 (nI (k + 1))), (aI g q1 6 sh)]) := by
  refine he_begin (l := l) (g := g) (y := yX0_lead) (wl := wsX0_lead) (fr := 1) (lo := 22) (mc := 0) (ms := 0) (av := [.ref a0, .ref h0]) (ws := [(oX0 a0 a1), (aI g a1 3600 ln), (oX4 h0 q0 q1 (nI (k + 1))), (aI g q1 6 sh)]) (cc := cX0_lead) (maxL := 2) (ret := none) (fun A => va_Qv (fun (u : Unit) => True) (fun u t => he_post g A ((fun (u : Unit) => [(oX0 a0 a1), (aI g a1 3600 (va_cpy sh ln 0 (k * 30 + 24) 6)), (oX4 h0 q0 q1 (nI (k + 1))), (aI g q1 6 sh)]) u) t) A) (by decide) rfl (Nat.le_of_ble_eq_true rfl) ?_
  intro p e s m args below meth c A ls H locs Q hQ hB
  obtain ⟨hx, hb, hr, hml, hown, hts, hlk, hin, hP, hK, hD, hS, hA, hE, hl⟩ := hB
  have hl : lv_has ls 2 [(0, .ref a0), (1, .ref h0)] := hl
  have f15 := hts (.fieldLink RX0 15 "HiredEnemy$Course" "month" "I") (iwoX0_lead (k := 0) rfl)
  have inX4 : ∀ w ∈ wsX40, w ∈ wsX0_lead := innX0_lead_X4
  have nl21 := hE.nest (RX0, 21, yX10_within) (by decide +kernel)
  have iniX10 := hts (.initialized RX10) (iwoX0_lead (k := 8) rfl)
  have st_yX10_within := hts (.static yX10_within) (iwoX0_lead (k := 7) rfl)
  have f34 := hts (.fieldLink RX0 34 "HiredEnemy$Course" "shot" "[I") (iwoX0_lead (k := 1) rfl)
  have f11 := hts (.fieldLink RX0 11 "HiredEnemy$Annals" "lines" "[I") (iwoX0_lead (k := 2) rfl)
  have inX0 : ∀ w ∈ wsX00, w ∈ wsX0_lead := innX0_lead_X0
  have al28 := hts (.methodLink RX0 28 arraycopyName) (iwoX0_lead (k := 3) rfl)
  have an := hts (.native arraycopyName) (iwoX0_lead (k := 4) rfl)
  have ast := hts (.static arraycopyName) (iwoX0_lead (k := 5) rfl)
  have ai := hts (.initialized "java/lang/System") (iwoX0_lead (k := 6) rfl)
  refine lv_aload_n hx hb dX0_lead_0 rfl (lv_at hl 1 rfl) ?_
  refine va_get (v := .int (nI (k + 1))) (T := TX4) (N := 3) hx hb hts inX4 hown hK hP 2 rfl rfl 2 (by decide) f15 (fun _ h9 => h9) rfl dX0_lead_1 ?_
  refine lv_iconst (v := 1) hx hb dX0_lead_4 (by decide) ?_
  refine lv_bipush (v := 120) hx hb dX0_lead_5 (by decide) ?_
  refine he_ci (wc := []) (wr := [(oX0 a0 a1), (aI g a1 3600 ln), (oX4 h0 q0 q1 (nI (k + 1))), (aI g q1 6 sh)]) (va_runSN (As := [.int (nI (k + 1)), .int 1, .int 120]) (rest := []) ⟨hx, hb, hml, hown, hts⟩ (c_X10_within l g (nI (k + 1)) 1 120 H.size) ⟨(va_cnB 3 hts gX0_lead_X10_within_n21 rfl rfl rfl nl21 iniX10 (by decide +kernel) ⟨Nat.le_of_ble_eq_true rfl, Nat.le_of_ble_eq_true rfl⟩), st_yX10_within, trivial⟩ (he_preS (wc := []) hK hP hD hS hA hE [] rfl rfl) rfl rfl hl.1 rfl (lv_room (Nat.le_of_ble_eq_true rfl)) dX0_lead_7 ⟨(Nat.le_of_ble_eq_true rfl), (Nat.le_of_ble_eq_true rfl)⟩) hP hD hS hA [] [0, 1, 2, 3] rfl rfl rfl (by decide) (fun r_1 u_2 H locs h_3 hP hD hS => ?_)
  subst h_3
  have hP : va_P g.1 vwCl [(oX0 a0 a1), (aI g a1 3600 ln), (oX4 h0 q0 q1 (nI (k + 1))), (aI g q1 6 sh)] H := hP
  have hD : va_D A [(oX0 a0 a1), (aI g a1 3600 ln), (oX4 h0 q0 q1 (nI (k + 1))), (aI g q1 6 sh)] := hD
  refine he_top (1) (he_within_in (a0 := 1) (B := 120) rfl rfl (by omega) (by omega) (by decide)) ?_
  refine lv_if_eq (tgt := 39) hx hb dX0_lead_10 (by decide) (fun c_4 => ?_) (fun c_4 => ?_)
  · exact absurd c_4 (by decide)
  · refine lv_aload_n hx hb dX0_lead_13 rfl (lv_at hl 1 rfl) ?_
    refine va_get (v := .ref q1) (T := TX4) (N := 3) hx hb hts inX4 hown hK hP 2 rfl rfl 1 (by decide) f34 (fun _ h9 => h9) rfl dX0_lead_14 ?_
    refine lv_iconst (v := 0) hx hb dX0_lead_17 (by decide) ?_
    refine lv_aload_n hx hb dX0_lead_18 rfl (lv_at hl 0 rfl) ?_
    refine va_get (v := .ref a1) (T := TX0) (N := 1) hx hb hts inX0 hown hK hP 0 rfl rfl 0 (by decide) f11 (fun _ h9 => h9) rfl dX0_lead_19 ?_
    refine lv_aload_n hx hb dX0_lead_22 rfl (lv_at hl 1 rfl) ?_
    refine va_get (v := .int (nI (k + 1))) (T := TX4) (N := 3) hx hb hts inX4 hown hK hP 2 rfl rfl 2 (by decide) f15 (fun _ h9 => h9) rfl dX0_lead_23 ?_
    refine lv_iconst (v := 1) hx hb dX0_lead_26 (by decide) ?_
    refine lv_isub hx hb dX0_lead_27 ?_
    refine he_top (nI k) (nI_pred k) ?_
    refine lv_bipush (v := 30) hx hb dX0_lead_28 (by decide) ?_
    refine lv_imul hx hb dX0_lead_30 ?_
    refine he_top (nI (k * 30)) (pk_mul k 30) ?_
    refine lv_bipush (v := 24) hx hb dX0_lead_31 (by decide) ?_
    refine lv_iadd hx hb dX0_lead_33 ?_
    refine he_top (nI (k * 30 + 24)) (nI_add (k * 30) 24) ?_
    refine lv_bipush (v := 6) hx hb dX0_lead_34 (by decide) ?_
    refine he_copy hx hb (by rw [hml]; exact hl.1.symm) hown al28 an ast ai hK hP hD hS 3 1 rfl rfl (0) (k * 30 + 24) (6) (by decide) rfl (by decide) (by first | decide | omega) (by first | decide | omega) (by decide) (by decide) (Nat.le_of_ble_eq_true rfl) (Nat.le_of_ble_eq_true rfl) dX0_lead_36 (fun H locs hP hD hS => ?_)
    have hP : va_P g.1 vwCl [(oX0 a0 a1), (aI g a1 3600 (va_cpy sh ln 0 (k * 30 + 24) 6)), (oX4 h0 q0 q1 (nI (k + 1))), (aI g q1 6 sh)] H := hP
    have hD : va_D A [(oX0 a0 a1), (aI g a1 3600 (va_cpy sh ln 0 (k * 30 + 24) 6)), (oX4 h0 q0 q1 (nI (k + 1))), (aI g q1 6 sh)] := hD
    exact he_rv hQ hx hb hr hlk hP hD hS dX0_lead_39 (Nat.le_of_ble_eq_true rfl) (Nat.le_of_ble_eq_true rfl) (()) (rfl) (trivial)
set_option maxHeartbeats 4000000 in
set_option maxRecDepth 100000 in
theorem c_X0_take (l : Launch) (g : he_G) (a0 : Nat) (a1 : Nat) (ln : Nat → Int32) (b0 : Nat) (b1 : Nat) (ln1 : Nat → Int32) (k : Nat) (hk : k ≤ 120) : he_V l yX0_take wsX0_take 1 22 0 0 g [.ref a0, .ref b0, .int (nI k)] [(oX0 a0 a1), (aI g a1 3600 ln), (oX0 b0 b1), (aI g b1 3600 ln1)] (fun (u : Unit) => True) (fun (u : Unit) => [(oX0 a0 a1), (aI g a1 3600 (va_cpy ln1 ln 0 0 (k * 30))), (oX0 b0 b1), (aI g b1 3600 ln1)]) := by
  refine he_begin (l := l) (g := g) (y := yX0_take) (wl := wsX0_take) (fr := 1) (lo := 22) (mc := 0) (ms := 0) (av := [.ref a0, .ref b0, .int (nI k)]) (ws := [(oX0 a0 a1), (aI g a1 3600 ln), (oX0 b0 b1), (aI g b1 3600 ln1)]) (cc := cX0_take) (maxL := 3) (ret := none) (fun A => va_Qv (fun (u : Unit) => True) (fun u t => he_post g A ((fun (u : Unit) => [(oX0 a0 a1), (aI g a1 3600 (va_cpy ln1 ln 0 0 (k * 30))), (oX0 b0 b1), (aI g b1 3600 ln1)]) u) t) A) (by decide) rfl (Nat.le_of_ble_eq_true rfl) ?_
  intro p e s m args below meth c A ls H locs Q hQ hB
  obtain ⟨hx, hb, hr, hml, hown, hts, hlk, hin, hP, hK, hD, hS, hA, hE, hl⟩ := hB
  have hl : lv_has ls 3 [(0, .ref a0), (1, .ref b0), (2, .int (nI k))] := hl
  have nl21 := hE.nest (RX0, 21, yX10_within) (by decide +kernel)
  have iniX10 := hts (.initialized RX10) (iwoX0_take (k := 6) rfl)
  have st_yX10_within := hts (.static yX10_within) (iwoX0_take (k := 5) rfl)
  have f11 := hts (.fieldLink RX0 11 "HiredEnemy$Annals" "lines" "[I") (iwoX0_take (k := 0) rfl)
  have inX0 : ∀ w ∈ wsX00, w ∈ wsX0_take := innX0_take_X0
  have al28 := hts (.methodLink RX0 28 arraycopyName) (iwoX0_take (k := 1) rfl)
  have an := hts (.native arraycopyName) (iwoX0_take (k := 2) rfl)
  have ast := hts (.static arraycopyName) (iwoX0_take (k := 3) rfl)
  have ai := hts (.initialized "java/lang/System") (iwoX0_take (k := 4) rfl)
  refine lv_iload_n hx hb dX0_take_0 rfl (lv_at hl 2 rfl) ?_
  refine lv_iconst (v := 0) hx hb dX0_take_1 (by decide) ?_
  refine lv_bipush (v := 120) hx hb dX0_take_2 (by decide) ?_
  refine he_ci (wc := []) (wr := [(oX0 a0 a1), (aI g a1 3600 ln), (oX0 b0 b1), (aI g b1 3600 ln1)]) (va_runSN (As := [.int (nI k), .int 0, .int 120]) (rest := []) ⟨hx, hb, hml, hown, hts⟩ (c_X10_within l g (nI k) 0 120 H.size) ⟨(va_cnB 3 hts gX0_take_X10_within_n21 rfl rfl rfl nl21 iniX10 (by decide +kernel) ⟨Nat.le_of_ble_eq_true rfl, Nat.le_of_ble_eq_true rfl⟩), st_yX10_within, trivial⟩ (he_preS (wc := []) hK hP hD hS hA hE [] rfl rfl) rfl rfl hl.1 rfl (lv_room (Nat.le_of_ble_eq_true rfl)) dX0_take_4 ⟨(Nat.le_of_ble_eq_true rfl), (Nat.le_of_ble_eq_true rfl)⟩) hP hD hS hA [] [0, 1, 2, 3] rfl rfl rfl (by decide) (fun r_1 u_2 H locs h_3 hP hD hS => ?_)
  subst h_3
  have hP : va_P g.1 vwCl [(oX0 a0 a1), (aI g a1 3600 ln), (oX0 b0 b1), (aI g b1 3600 ln1)] H := hP
  have hD : va_D A [(oX0 a0 a1), (aI g a1 3600 ln), (oX0 b0 b1), (aI g b1 3600 ln1)] := hD
  refine he_top (1) (he_within_in (a0 := 0) (B := 120) rfl rfl (by omega) (by omega) (by decide)) ?_
  refine lv_if_eq (tgt := 27) hx hb dX0_take_7 (by decide) (fun c_4 => ?_) (fun c_4 => ?_)
  · exact absurd c_4 (by decide)
  · refine lv_aload_n hx hb dX0_take_10 rfl (lv_at hl 1 rfl) ?_
    refine va_get (v := .ref b1) (T := TX0) (N := 1) hx hb hts inX0 hown hK hP 2 rfl rfl 0 (by decide) f11 (fun _ h9 => h9) rfl dX0_take_11 ?_
    refine lv_iconst (v := 0) hx hb dX0_take_14 (by decide) ?_
    refine lv_aload_n hx hb dX0_take_15 rfl (lv_at hl 0 rfl) ?_
    refine va_get (v := .ref a1) (T := TX0) (N := 1) hx hb hts inX0 hown hK hP 0 rfl rfl 0 (by decide) f11 (fun _ h9 => h9) rfl dX0_take_16 ?_
    refine lv_iconst (v := 0) hx hb dX0_take_19 (by decide) ?_
    refine lv_iload_n hx hb dX0_take_20 rfl (lv_at hl 2 rfl) ?_
    refine lv_bipush (v := 30) hx hb dX0_take_21 (by decide) ?_
    refine lv_imul hx hb dX0_take_23 ?_
    refine he_top (nI (k * 30)) (pk_mul k 30) ?_
    refine he_copy hx hb (by rw [hml]; exact hl.1.symm) hown al28 an ast ai hK hP hD hS 3 1 rfl rfl (0) (0) (k * 30) (by decide) (by decide) rfl (by first | decide | omega) (by first | decide | omega) (by decide) (by decide) (Nat.le_of_ble_eq_true rfl) (Nat.le_of_ble_eq_true rfl) dX0_take_24 (fun H locs hP hD hS => ?_)
    have hP : va_P g.1 vwCl [(oX0 a0 a1), (aI g a1 3600 (va_cpy ln1 ln 0 0 (k * 30))), (oX0 b0 b1), (aI g b1 3600 ln1)] H := hP
    have hD : va_D A [(oX0 a0 a1), (aI g a1 3600 (va_cpy ln1 ln 0 0 (k * 30))), (oX0 b0 b1), (aI g b1 3600 ln1)] := hD
    exact he_rv hQ hx hb hr hlk hP hD hS dX0_take_27 (Nat.le_of_ble_eq_true rfl) (Nat.le_of_ble_eq_true rfl) (()) (rfl) (trivial)
set_option maxHeartbeats 4000000 in
set_option maxRecDepth 100000 in
theorem c_X2_forget (l : Launch) (g : he_G) (b0 : Nat) (b1 : Nat) (b2 : Nat) (x : Int32) (y : Int32) (rl : Int64) (hd : Int64) (th : Int32)  : he_V l yX2_forget wsX2_forget 0 0 0 0 g [.ref b0] [(oX2 b0 b1 b2 x y rl hd th)] (fun (u : Unit) => True) (fun (u : Unit) => [(oX2 b0 b1 b2 x y (Int32.toInt64 x) (Int32.toInt64 y) 0)]) := by
  refine he_begin (l := l) (g := g) (y := yX2_forget) (wl := wsX2_forget) (fr := 0) (lo := 0) (mc := 0) (ms := 0) (av := [.ref b0]) (ws := [(oX2 b0 b1 b2 x y rl hd th)]) (cc := cX2_forget) (maxL := 1) (ret := none) (fun A => va_Qv (fun (u : Unit) => True) (fun u t => he_post g A ((fun (u : Unit) => [(oX2 b0 b1 b2 x y (Int32.toInt64 x) (Int32.toInt64 y) 0)]) u) t) A) (by decide) rfl (Nat.le_of_ble_eq_true rfl) ?_
  intro p e s m args below meth c A ls H locs Q hQ hB
  obtain ⟨hx, hb, hr, hml, hown, hts, hlk, hin, hP, hK, hD, hS, hA, hE, hl⟩ := hB
  have hl : lv_has ls 1 [(0, .ref b0)] := hl
  have f16 := hts (.fieldLink RX2 16 "HiredEnemy$Belief" "firstReal" "I") (iwoX2_forget (k := 0) rfl)
  have inX2 : ∀ w ∈ wsX20, w ∈ wsX2_forget := innX2_forget_X2
  have f23 := hts (.fieldLink RX2 23 "HiredEnemy$Belief" "real" "J") (iwoX2_forget (k := 1) rfl)
  have f20 := hts (.fieldLink RX2 20 "HiredEnemy$Belief" "firstHired" "I") (iwoX2_forget (k := 2) rfl)
  have f27 := hts (.fieldLink RX2 27 "HiredEnemy$Belief" "hired" "J") (iwoX2_forget (k := 3) rfl)
  have f33 := hts (.fieldLink RX2 33 "HiredEnemy$Belief" "things" "I") (iwoX2_forget (k := 4) rfl)
  refine lv_aload_n hx hb dX2_forget_0 rfl (lv_at hl 0 rfl) ?_
  refine lv_aload_n hx hb dX2_forget_1 rfl (lv_at hl 0 rfl) ?_
  refine va_get (v := .int x) (T := TX2) (N := 7) hx hb hts inX2 hown hK hP 0 rfl rfl 2 (by decide) f16 (fun _ h9 => h9) rfl dX2_forget_2 ?_
  refine lv_i2l (v := Int32.toInt64 x) hx hb dX2_forget_5 rfl ?_
  refine va_put (v := .long (Int32.toInt64 x)) (ty := .long) (T := TX2) (N := 7) hx hb hts inX2 tyX2 tyX2_ok nmX2 hown hK hP hD hS 0 rfl rfl 4 (by decide) f23 (fun _ h9 => h9) rfl (by decide +kernel) rfl rfl (Nat.le_of_ble_eq_true rfl) dX2_forget_6 (fun H locs hP hD hS => ?_)
  have hP : va_P g.1 vwCl [(oX2 b0 b1 b2 x y (Int32.toInt64 x) hd th)] H := hP
  have hD : va_D A [(oX2 b0 b1 b2 x y (Int32.toInt64 x) hd th)] := hD
  refine lv_aload_n hx hb dX2_forget_9 rfl (lv_at hl 0 rfl) ?_
  refine lv_aload_n hx hb dX2_forget_10 rfl (lv_at hl 0 rfl) ?_
  refine va_get (v := .int y) (T := TX2) (N := 7) hx hb hts inX2 hown hK hP 0 rfl rfl 3 (by decide) f20 (fun _ h9 => h9) rfl dX2_forget_11 ?_
  refine lv_i2l (v := Int32.toInt64 y) hx hb dX2_forget_14 rfl ?_
  refine va_put (v := .long (Int32.toInt64 y)) (ty := .long) (T := TX2) (N := 7) hx hb hts inX2 tyX2 tyX2_ok nmX2 hown hK hP hD hS 0 rfl rfl 5 (by decide) f27 (fun _ h9 => h9) rfl (by decide +kernel) rfl rfl (Nat.le_of_ble_eq_true rfl) dX2_forget_15 (fun H locs hP hD hS => ?_)
  have hP : va_P g.1 vwCl [(oX2 b0 b1 b2 x y (Int32.toInt64 x) (Int32.toInt64 y) th)] H := hP
  have hD : va_D A [(oX2 b0 b1 b2 x y (Int32.toInt64 x) (Int32.toInt64 y) th)] := hD
  refine lv_aload_n hx hb dX2_forget_18 rfl (lv_at hl 0 rfl) ?_
  refine lv_iconst (v := 0) hx hb dX2_forget_19 (by decide) ?_
  refine va_put (v := .int 0) (ty := .int) (T := TX2) (N := 7) hx hb hts inX2 tyX2 tyX2_ok nmX2 hown hK hP hD hS 0 rfl rfl 6 (by decide) f33 (fun _ h9 => h9) rfl (by decide +kernel) rfl rfl (Nat.le_of_ble_eq_true rfl) dX2_forget_20 (fun H locs hP hD hS => ?_)
  have hP : va_P g.1 vwCl [(oX2 b0 b1 b2 x y (Int32.toInt64 x) (Int32.toInt64 y) 0)] H := hP
  have hD : va_D A [(oX2 b0 b1 b2 x y (Int32.toInt64 x) (Int32.toInt64 y) 0)] := hD
  exact he_rv hQ hx hb hr hlk hP hD hS dX2_forget_23 (Nat.le_of_ble_eq_true rfl) (Nat.le_of_ble_eq_true rfl) (()) (rfl) (trivial)
set_option maxHeartbeats 4000000 in
set_option maxRecDepth 100000 in
theorem c_X2_start (l : Launch) (g : he_G) (b0 : Nat) (b1 : Nat) (b2 : Nat) (x : Int32) (y : Int32) (rl : Int64) (hd : Int64) (th : Int32) (a : Int32) (b : Int32)  : he_V l yX2_start wsX2_start 1 20 0 0 g [.ref b0, .int a, .int b] [(oX2 b0 b1 b2 x y rl hd th)] (fun (u : Unit) => True) (fun (u : Unit) => [(oX2 b0 b1 b2 a b (Int32.toInt64 a) (Int32.toInt64 b) 0)]) := by
  refine he_begin (l := l) (g := g) (y := yX2_start) (wl := wsX2_start) (fr := 1) (lo := 20) (mc := 0) (ms := 0) (av := [.ref b0, .int a, .int b]) (ws := [(oX2 b0 b1 b2 x y rl hd th)]) (cc := cX2_start) (maxL := 3) (ret := none) (fun A => va_Qv (fun (u : Unit) => True) (fun u t => he_post g A ((fun (u : Unit) => [(oX2 b0 b1 b2 a b (Int32.toInt64 a) (Int32.toInt64 b) 0)]) u) t) A) (by decide) rfl (Nat.le_of_ble_eq_true rfl) ?_
  intro p e s m args below meth c A ls H locs Q hQ hB
  obtain ⟨hx, hb, hr, hml, hown, hts, hlk, hin, hP, hK, hD, hS, hA, hE, hl⟩ := hB
  have hl : lv_has ls 3 [(0, .ref b0), (1, .int a), (2, .int b)] := hl
  have f16 := hts (.fieldLink RX2 16 "HiredEnemy$Belief" "firstReal" "I") (iwoX2_start (k := 0) rfl)
  have inX2 : ∀ w ∈ wsX20, w ∈ wsX2_start := innX2_start_X2
  have f20 := hts (.fieldLink RX2 20 "HiredEnemy$Belief" "firstHired" "I") (iwoX2_start (k := 1) rfl)
  refine lv_aload_n hx hb dX2_start_0 rfl (lv_at hl 0 rfl) ?_
  refine lv_iload_n hx hb dX2_start_1 rfl (lv_at hl 1 rfl) ?_
  refine va_put (v := .int a) (ty := .int) (T := TX2) (N := 7) hx hb hts inX2 tyX2 tyX2_ok nmX2 hown hK hP hD hS 0 rfl rfl 2 (by decide) f16 (fun _ h9 => h9) rfl (by decide +kernel) rfl rfl (Nat.le_of_ble_eq_true rfl) dX2_start_2 (fun H locs hP hD hS => ?_)
  have hP : va_P g.1 vwCl [(oX2 b0 b1 b2 a y rl hd th)] H := hP
  have hD : va_D A [(oX2 b0 b1 b2 a y rl hd th)] := hD
  refine lv_aload_n hx hb dX2_start_5 rfl (lv_at hl 0 rfl) ?_
  refine lv_iload_n hx hb dX2_start_6 rfl (lv_at hl 2 rfl) ?_
  refine va_put (v := .int b) (ty := .int) (T := TX2) (N := 7) hx hb hts inX2 tyX2 tyX2_ok nmX2 hown hK hP hD hS 0 rfl rfl 3 (by decide) f20 (fun _ h9 => h9) rfl (by decide +kernel) rfl rfl (Nat.le_of_ble_eq_true rfl) dX2_start_7 (fun H locs hP hD hS => ?_)
  have hP : va_P g.1 vwCl [(oX2 b0 b1 b2 a b rl hd th)] H := hP
  have hD : va_D A [(oX2 b0 b1 b2 a b rl hd th)] := hD
  refine lv_aload_n hx hb dX2_start_10 rfl (lv_at hl 0 rfl) ?_
  refine he_cv (wc := [(oX2 b0 b1 b2 a b rl hd th)]) (wr := []) (va_runV (As := []) (rest := []) ⟨hx, hb, hml, hown, hts⟩ (c_X2_forget l g b0 b1 b2 a b rl hd th H.size) (cwV 0 hts gX2_start_X2_forget rfl rfl rfl (by decide +kernel) ⟨Nat.le_of_ble_eq_true rfl, Nat.le_of_ble_eq_true rfl⟩) (he_preV (wc := [(oX2 b0 b1 b2 a b rl hd th)]) hK hP hD hS hA hE [0] rfl rfl 0 rfl rfl) rfl rfl hl.1 rfl (lv_room (Nat.le_of_ble_eq_true rfl)) dX2_start_11 ⟨(Nat.le_of_ble_eq_true rfl), (Nat.le_of_ble_eq_true rfl)⟩) hP hD hS hA [0] [] rfl rfl rfl (by decide) (fun u_2 H locs h_3 hP hD hS => ?_)
  have hP : va_P g.1 vwCl [(oX2 b0 b1 b2 a b (Int32.toInt64 a) (Int32.toInt64 b) 0)] H := hP
  have hD : va_D A [(oX2 b0 b1 b2 a b (Int32.toInt64 a) (Int32.toInt64 b) 0)] := hD
  exact he_rv hQ hx hb hr hlk hP hD hS dX2_start_14 (Nat.le_of_ble_eq_true rfl) (Nat.le_of_ble_eq_true rfl) (()) (rfl) (trivial)
set_option maxHeartbeats 4000000 in
set_option maxRecDepth 100000 in
theorem c_X2_take (l : Launch) (g : he_G) (b0 : Nat) (b1 : Nat) (b2 : Nat) (x : Int32) (y : Int32) (rl : Int64) (hd : Int64) (th : Int32) (fr : Nat → Int32) (fh : Nat → Int32) (d0 : Nat) (d1 : Nat) (d2 : Nat) (x1 : Int32) (y1 : Int32) (r1 : Int64) (g1 : Int64) (t1 : Int32) (fr1 : Nat → Int32) (fh1 : Nat → Int32)  : he_V l yX2_take wsX2_take 1 18 0 0 g [.ref b0, .ref d0] [(oX2 b0 b1 b2 x y rl hd th), (aI g b1 4 fr), (aI g b2 4 fh), (oX2 d0 d1 d2 x1 y1 r1 g1 t1), (aI g d1 4 fr1), (aI g d2 4 fh1)] (fun (u : Unit) => True) (fun (u : Unit) => [(oX2 b0 b1 b2 x1 y1 r1 g1 t1), (aI g b1 4 (va_cpy fr1 fr 0 0 4)), (aI g b2 4 (va_cpy fh1 fh 0 0 4)), (oX2 d0 d1 d2 x1 y1 r1 g1 t1), (aI g d1 4 fr1), (aI g d2 4 fh1)]) := by
  refine he_begin (l := l) (g := g) (y := yX2_take) (wl := wsX2_take) (fr := 1) (lo := 18) (mc := 0) (ms := 0) (av := [.ref b0, .ref d0]) (ws := [(oX2 b0 b1 b2 x y rl hd th), (aI g b1 4 fr), (aI g b2 4 fh), (oX2 d0 d1 d2 x1 y1 r1 g1 t1), (aI g d1 4 fr1), (aI g d2 4 fh1)]) (cc := cX2_take) (maxL := 2) (ret := none) (fun A => va_Qv (fun (u : Unit) => True) (fun u t => he_post g A ((fun (u : Unit) => [(oX2 b0 b1 b2 x1 y1 r1 g1 t1), (aI g b1 4 (va_cpy fr1 fr 0 0 4)), (aI g b2 4 (va_cpy fh1 fh 0 0 4)), (oX2 d0 d1 d2 x1 y1 r1 g1 t1), (aI g d1 4 fr1), (aI g d2 4 fh1)]) u) t) A) (by decide) rfl (Nat.le_of_ble_eq_true rfl) ?_
  intro p e s m args below meth c A ls H locs Q hQ hB
  obtain ⟨hx, hb, hr, hml, hown, hts, hlk, hin, hP, hK, hD, hS, hA, hE, hl⟩ := hB
  have hl : lv_has ls 2 [(0, .ref b0), (1, .ref d0)] := hl
  have f7 := hts (.fieldLink RX2 7 "HiredEnemy$Belief" "ifReal" "[I") (iwoX2_take (k := 0) rfl)
  have inX2 : ∀ w ∈ wsX20, w ∈ wsX2_take := innX2_take_X2
  have al36 := hts (.methodLink RX2 36 arraycopyName) (iwoX2_take (k := 1) rfl)
  have an := hts (.native arraycopyName) (iwoX2_take (k := 2) rfl)
  have ast := hts (.static arraycopyName) (iwoX2_take (k := 3) rfl)
  have ai := hts (.initialized "java/lang/System") (iwoX2_take (k := 4) rfl)
  have f13 := hts (.fieldLink RX2 13 "HiredEnemy$Belief" "ifHired" "[I") (iwoX2_take (k := 5) rfl)
  have f16 := hts (.fieldLink RX2 16 "HiredEnemy$Belief" "firstReal" "I") (iwoX2_take (k := 6) rfl)
  have f20 := hts (.fieldLink RX2 20 "HiredEnemy$Belief" "firstHired" "I") (iwoX2_take (k := 7) rfl)
  have f23 := hts (.fieldLink RX2 23 "HiredEnemy$Belief" "real" "J") (iwoX2_take (k := 8) rfl)
  have f27 := hts (.fieldLink RX2 27 "HiredEnemy$Belief" "hired" "J") (iwoX2_take (k := 9) rfl)
  have f33 := hts (.fieldLink RX2 33 "HiredEnemy$Belief" "things" "I") (iwoX2_take (k := 10) rfl)
  refine lv_aload_n hx hb dX2_take_0 rfl (lv_at hl 1 rfl) ?_
  refine va_get (v := .ref d1) (T := TX2) (N := 7) hx hb hts inX2 hown hK hP 3 rfl rfl 0 (by decide) f7 (fun _ h9 => h9) rfl dX2_take_1 ?_
  refine lv_iconst (v := 0) hx hb dX2_take_4 (by decide) ?_
  refine lv_aload_n hx hb dX2_take_5 rfl (lv_at hl 0 rfl) ?_
  refine va_get (v := .ref b1) (T := TX2) (N := 7) hx hb hts inX2 hown hK hP 0 rfl rfl 0 (by decide) f7 (fun _ h9 => h9) rfl dX2_take_6 ?_
  refine lv_iconst (v := 0) hx hb dX2_take_9 (by decide) ?_
  refine lv_iconst (v := 4) hx hb dX2_take_10 (by decide) ?_
  refine he_copy hx hb (by rw [hml]; exact hl.1.symm) hown al36 an ast ai hK hP hD hS 4 1 rfl rfl (0) (0) (4) (by decide) (by decide) (by decide) (by first | decide | omega) (by first | decide | omega) (by decide) (by decide) (Nat.le_of_ble_eq_true rfl) (Nat.le_of_ble_eq_true rfl) dX2_take_11 (fun H locs hP hD hS => ?_)
  have hP : va_P g.1 vwCl [(oX2 b0 b1 b2 x y rl hd th), (aI g b1 4 (va_cpy fr1 fr 0 0 4)), (aI g b2 4 fh), (oX2 d0 d1 d2 x1 y1 r1 g1 t1), (aI g d1 4 fr1), (aI g d2 4 fh1)] H := hP
  have hD : va_D A [(oX2 b0 b1 b2 x y rl hd th), (aI g b1 4 (va_cpy fr1 fr 0 0 4)), (aI g b2 4 fh), (oX2 d0 d1 d2 x1 y1 r1 g1 t1), (aI g d1 4 fr1), (aI g d2 4 fh1)] := hD
  refine lv_aload_n hx hb dX2_take_14 rfl (lv_at hl 1 rfl) ?_
  refine va_get (v := .ref d2) (T := TX2) (N := 7) hx hb hts inX2 hown hK hP 3 rfl rfl 1 (by decide) f13 (fun _ h9 => h9) rfl dX2_take_15 ?_
  refine lv_iconst (v := 0) hx hb dX2_take_18 (by decide) ?_
  refine lv_aload_n hx hb dX2_take_19 rfl (lv_at hl 0 rfl) ?_
  refine va_get (v := .ref b2) (T := TX2) (N := 7) hx hb hts inX2 hown hK hP 0 rfl rfl 1 (by decide) f13 (fun _ h9 => h9) rfl dX2_take_20 ?_
  refine lv_iconst (v := 0) hx hb dX2_take_23 (by decide) ?_
  refine lv_iconst (v := 4) hx hb dX2_take_24 (by decide) ?_
  refine he_copy hx hb (by rw [hml]; exact hl.1.symm) hown al36 an ast ai hK hP hD hS 5 2 rfl rfl (0) (0) (4) (by decide) (by decide) (by decide) (by first | decide | omega) (by first | decide | omega) (by decide) (by decide) (Nat.le_of_ble_eq_true rfl) (Nat.le_of_ble_eq_true rfl) dX2_take_25 (fun H locs hP hD hS => ?_)
  have hP : va_P g.1 vwCl [(oX2 b0 b1 b2 x y rl hd th), (aI g b1 4 (va_cpy fr1 fr 0 0 4)), (aI g b2 4 (va_cpy fh1 fh 0 0 4)), (oX2 d0 d1 d2 x1 y1 r1 g1 t1), (aI g d1 4 fr1), (aI g d2 4 fh1)] H := hP
  have hD : va_D A [(oX2 b0 b1 b2 x y rl hd th), (aI g b1 4 (va_cpy fr1 fr 0 0 4)), (aI g b2 4 (va_cpy fh1 fh 0 0 4)), (oX2 d0 d1 d2 x1 y1 r1 g1 t1), (aI g d1 4 fr1), (aI g d2 4 fh1)] := hD
  refine lv_aload_n hx hb dX2_take_28 rfl (lv_at hl 0 rfl) ?_
  refine lv_aload_n hx hb dX2_take_29 rfl (lv_at hl 1 rfl) ?_
  refine va_get (v := .int x1) (T := TX2) (N := 7) hx hb hts inX2 hown hK hP 3 rfl rfl 2 (by decide) f16 (fun _ h9 => h9) rfl dX2_take_30 ?_
  refine va_put (v := .int x1) (ty := .int) (T := TX2) (N := 7) hx hb hts inX2 tyX2 tyX2_ok nmX2 hown hK hP hD hS 0 rfl rfl 2 (by decide) f16 (fun _ h9 => h9) rfl (by decide +kernel) rfl rfl (Nat.le_of_ble_eq_true rfl) dX2_take_33 (fun H locs hP hD hS => ?_)
  have hP : va_P g.1 vwCl [(oX2 b0 b1 b2 x1 y rl hd th), (aI g b1 4 (va_cpy fr1 fr 0 0 4)), (aI g b2 4 (va_cpy fh1 fh 0 0 4)), (oX2 d0 d1 d2 x1 y1 r1 g1 t1), (aI g d1 4 fr1), (aI g d2 4 fh1)] H := hP
  have hD : va_D A [(oX2 b0 b1 b2 x1 y rl hd th), (aI g b1 4 (va_cpy fr1 fr 0 0 4)), (aI g b2 4 (va_cpy fh1 fh 0 0 4)), (oX2 d0 d1 d2 x1 y1 r1 g1 t1), (aI g d1 4 fr1), (aI g d2 4 fh1)] := hD
  refine lv_aload_n hx hb dX2_take_36 rfl (lv_at hl 0 rfl) ?_
  refine lv_aload_n hx hb dX2_take_37 rfl (lv_at hl 1 rfl) ?_
  refine va_get (v := .int y1) (T := TX2) (N := 7) hx hb hts inX2 hown hK hP 3 rfl rfl 3 (by decide) f20 (fun _ h9 => h9) rfl dX2_take_38 ?_
  refine va_put (v := .int y1) (ty := .int) (T := TX2) (N := 7) hx hb hts inX2 tyX2 tyX2_ok nmX2 hown hK hP hD hS 0 rfl rfl 3 (by decide) f20 (fun _ h9 => h9) rfl (by decide +kernel) rfl rfl (Nat.le_of_ble_eq_true rfl) dX2_take_41 (fun H locs hP hD hS => ?_)
  have hP : va_P g.1 vwCl [(oX2 b0 b1 b2 x1 y1 rl hd th), (aI g b1 4 (va_cpy fr1 fr 0 0 4)), (aI g b2 4 (va_cpy fh1 fh 0 0 4)), (oX2 d0 d1 d2 x1 y1 r1 g1 t1), (aI g d1 4 fr1), (aI g d2 4 fh1)] H := hP
  have hD : va_D A [(oX2 b0 b1 b2 x1 y1 rl hd th), (aI g b1 4 (va_cpy fr1 fr 0 0 4)), (aI g b2 4 (va_cpy fh1 fh 0 0 4)), (oX2 d0 d1 d2 x1 y1 r1 g1 t1), (aI g d1 4 fr1), (aI g d2 4 fh1)] := hD
  refine lv_aload_n hx hb dX2_take_44 rfl (lv_at hl 0 rfl) ?_
  refine lv_aload_n hx hb dX2_take_45 rfl (lv_at hl 1 rfl) ?_
  refine va_get (v := .long r1) (T := TX2) (N := 7) hx hb hts inX2 hown hK hP 3 rfl rfl 4 (by decide) f23 (fun _ h9 => h9) rfl dX2_take_46 ?_
  refine va_put (v := .long r1) (ty := .long) (T := TX2) (N := 7) hx hb hts inX2 tyX2 tyX2_ok nmX2 hown hK hP hD hS 0 rfl rfl 4 (by decide) f23 (fun _ h9 => h9) rfl (by decide +kernel) rfl rfl (Nat.le_of_ble_eq_true rfl) dX2_take_49 (fun H locs hP hD hS => ?_)
  have hP : va_P g.1 vwCl [(oX2 b0 b1 b2 x1 y1 r1 hd th), (aI g b1 4 (va_cpy fr1 fr 0 0 4)), (aI g b2 4 (va_cpy fh1 fh 0 0 4)), (oX2 d0 d1 d2 x1 y1 r1 g1 t1), (aI g d1 4 fr1), (aI g d2 4 fh1)] H := hP
  have hD : va_D A [(oX2 b0 b1 b2 x1 y1 r1 hd th), (aI g b1 4 (va_cpy fr1 fr 0 0 4)), (aI g b2 4 (va_cpy fh1 fh 0 0 4)), (oX2 d0 d1 d2 x1 y1 r1 g1 t1), (aI g d1 4 fr1), (aI g d2 4 fh1)] := hD
  refine lv_aload_n hx hb dX2_take_52 rfl (lv_at hl 0 rfl) ?_
  refine lv_aload_n hx hb dX2_take_53 rfl (lv_at hl 1 rfl) ?_
  refine va_get (v := .long g1) (T := TX2) (N := 7) hx hb hts inX2 hown hK hP 3 rfl rfl 5 (by decide) f27 (fun _ h9 => h9) rfl dX2_take_54 ?_
  refine va_put (v := .long g1) (ty := .long) (T := TX2) (N := 7) hx hb hts inX2 tyX2 tyX2_ok nmX2 hown hK hP hD hS 0 rfl rfl 5 (by decide) f27 (fun _ h9 => h9) rfl (by decide +kernel) rfl rfl (Nat.le_of_ble_eq_true rfl) dX2_take_57 (fun H locs hP hD hS => ?_)
  have hP : va_P g.1 vwCl [(oX2 b0 b1 b2 x1 y1 r1 g1 th), (aI g b1 4 (va_cpy fr1 fr 0 0 4)), (aI g b2 4 (va_cpy fh1 fh 0 0 4)), (oX2 d0 d1 d2 x1 y1 r1 g1 t1), (aI g d1 4 fr1), (aI g d2 4 fh1)] H := hP
  have hD : va_D A [(oX2 b0 b1 b2 x1 y1 r1 g1 th), (aI g b1 4 (va_cpy fr1 fr 0 0 4)), (aI g b2 4 (va_cpy fh1 fh 0 0 4)), (oX2 d0 d1 d2 x1 y1 r1 g1 t1), (aI g d1 4 fr1), (aI g d2 4 fh1)] := hD
  refine lv_aload_n hx hb dX2_take_60 rfl (lv_at hl 0 rfl) ?_
  refine lv_aload_n hx hb dX2_take_61 rfl (lv_at hl 1 rfl) ?_
  refine va_get (v := .int t1) (T := TX2) (N := 7) hx hb hts inX2 hown hK hP 3 rfl rfl 6 (by decide) f33 (fun _ h9 => h9) rfl dX2_take_62 ?_
  refine va_put (v := .int t1) (ty := .int) (T := TX2) (N := 7) hx hb hts inX2 tyX2 tyX2_ok nmX2 hown hK hP hD hS 0 rfl rfl 6 (by decide) f33 (fun _ h9 => h9) rfl (by decide +kernel) rfl rfl (Nat.le_of_ble_eq_true rfl) dX2_take_65 (fun H locs hP hD hS => ?_)
  have hP : va_P g.1 vwCl [(oX2 b0 b1 b2 x1 y1 r1 g1 t1), (aI g b1 4 (va_cpy fr1 fr 0 0 4)), (aI g b2 4 (va_cpy fh1 fh 0 0 4)), (oX2 d0 d1 d2 x1 y1 r1 g1 t1), (aI g d1 4 fr1), (aI g d2 4 fh1)] H := hP
  have hD : va_D A [(oX2 b0 b1 b2 x1 y1 r1 g1 t1), (aI g b1 4 (va_cpy fr1 fr 0 0 4)), (aI g b2 4 (va_cpy fh1 fh 0 0 4)), (oX2 d0 d1 d2 x1 y1 r1 g1 t1), (aI g d1 4 fr1), (aI g d2 4 fh1)] := hD
  exact he_rv hQ hx hb hr hlk hP hD hS dX2_take_68 (Nat.le_of_ble_eq_true rfl) (Nat.le_of_ble_eq_true rfl) (()) (rfl) (trivial)
set_option maxHeartbeats 4000000 in
set_option maxRecDepth 100000 in
theorem c_X3_clear (l : Launch) (g : he_G) (e0 : Nat) (e1 : Nat) (e2 : Nat) (co : Nat → Int32)  : he_V l yX3_clear wsX3_clear 1 23 0 0 g [.ref e0] [(oX3 e0 e1 e2), (aI g e1 36 co)] (fun (u : Unit) => True) (fun (u : Unit) => [(oX3 e0 e1 e2), (aI g e1 36 (flF (fun _ => 0) co 36))]) := by
  refine he_begin (l := l) (g := g) (y := yX3_clear) (wl := wsX3_clear) (fr := 1) (lo := 23) (mc := 0) (ms := 0) (av := [.ref e0]) (ws := [(oX3 e0 e1 e2), (aI g e1 36 co)]) (cc := cX3_clear) (maxL := 1) (ret := none) (fun A => va_Qv (fun (u : Unit) => True) (fun u t => he_post g A ((fun (u : Unit) => [(oX3 e0 e1 e2), (aI g e1 36 (flF (fun _ => 0) co 36))]) u) t) A) (by decide) rfl (Nat.le_of_ble_eq_true rfl) ?_
  intro p e s m args below meth c A ls H locs Q hQ hB
  obtain ⟨hx, hb, hr, hml, hown, hts, hlk, hin, hP, hK, hD, hS, hA, hE, hl⟩ := hB
  have hl : lv_has ls 1 [(0, .ref e0)] := hl
  have f9 := hts (.fieldLink RX3 9 "HiredEnemy$Bids" "coins" "[I") (iwoX3_clear (k := 0) rfl)
  have inX3 : ∀ w ∈ wsX30, w ∈ wsX3_clear := innX3_clear_X3
  refine lv_aload_n hx hb dX3_clear_0 rfl (lv_at hl 0 rfl) ?_
  refine va_get (v := .ref e1) (T := TX3) (N := 2) hx hb hts inX3 hown hK hP 0 rfl rfl 0 (by decide) f9 (fun _ h9 => h9) rfl dX3_clear_1 ?_
  refine lv_iconst (v := 0) hx hb dX3_clear_4 (by decide) ?_
  refine he_cv (wc := [(aI g e1 36 co)]) (wr := [(oX3 e0 e1 e2)]) (va_runS (As := [.ref e1, .int 0]) (rest := []) ⟨hx, hb, hml, hown, hts⟩ (c_J7_fill_53178 l g e1 36 co 0 (by first | assumption | decide | omega) H.size) (va_cwS 2 hts gX3_clear_J7_fill_53178 rfl rfl rfl (by decide +kernel) ⟨Nat.le_of_ble_eq_true rfl, Nat.le_of_ble_eq_true rfl⟩) (he_preS (wc := [(aI g e1 36 co)]) hK hP hD hS hA hE [1] rfl rfl) rfl rfl hl.1 rfl (lv_room (Nat.le_of_ble_eq_true rfl)) dX3_clear_5 ⟨(Nat.le_of_ble_eq_true rfl), (Nat.le_of_ble_eq_true rfl)⟩) hP hD hS hA [1] [0] rfl rfl rfl (by decide) (fun u_2 H locs h_3 hP hD hS => ?_)
  have hP : va_P g.1 vwCl [(oX3 e0 e1 e2), (aI g e1 36 (flF (fun _ => 0) co 36))] H := hP
  have hD : va_D A [(oX3 e0 e1 e2), (aI g e1 36 (flF (fun _ => 0) co 36))] := hD
  exact he_rv hQ hx hb hr hlk hP hD hS dX3_clear_8 (Nat.le_of_ble_eq_true rfl) (Nat.le_of_ble_eq_true rfl) (()) (rfl) (trivial)
set_option maxHeartbeats 4000000 in
set_option maxRecDepth 100000 in
theorem c_X3_bid (l : Launch) (g : he_G) (e0 : Nat) (e1 : Nat) (e2 : Nat) (co : Nat → Int32) (i : Nat) (j : Nat) (v : Int32) (hi : i < 3) (hj : j < 12) : he_I l yX3_bid wsX3_bid 0 0 0 0 g [.ref e0, .int (nI i), .int (nI j), .int v] [(oX3 e0 e1 e2), (aI g e1 36 co)] (fun (r : Int32) (u : Unit) => r = co (j * 3 + i)) (fun (u : Unit) => [(oX3 e0 e1 e2), (aI g e1 36 (upd co (j * 3 + i) v))]) := by
  refine he_begin (l := l) (g := g) (y := yX3_bid) (wl := wsX3_bid) (fr := 0) (lo := 0) (mc := 0) (ms := 0) (av := [.ref e0, .int (nI i), .int (nI j), .int v]) (ws := [(oX3 e0 e1 e2), (aI g e1 36 co)]) (cc := cX3_bid) (maxL := 6) (ret := (some .int)) (fun A => va_Qi (fun (r : Int32) (u : Unit) => r = co (j * 3 + i)) (fun u t => he_post g A ((fun (u : Unit) => [(oX3 e0 e1 e2), (aI g e1 36 (upd co (j * 3 + i) v))]) u) t) A) (by decide) rfl (Nat.le_of_ble_eq_true rfl) ?_
  intro p e s m args below meth c A ls H locs Q hQ hB
  obtain ⟨hx, hb, hr, hml, hown, hts, hlk, hin, hP, hK, hD, hS, hA, hE, hl⟩ := hB
  have hl : lv_has ls 6 [(0, .ref e0), (1, .int (nI i)), (2, .int (nI j)), (3, .int v)] := hl
  have f9 := hts (.fieldLink RX3 9 "HiredEnemy$Bids" "coins" "[I") (iwoX3_bid (k := 0) rfl)
  have inX3 : ∀ w ∈ wsX30, w ∈ wsX3_bid := innX3_bid_X3
  refine lv_iload_n hx hb dX3_bid_0 rfl (lv_at hl 2 rfl) ?_
  refine lv_iconst (v := 3) hx hb dX3_bid_1 (by decide) ?_
  refine lv_imul hx hb dX3_bid_2 ?_
  refine he_top (nI (j * 3)) (pk_mul j 3) ?_
  refine lv_iload_n hx hb dX3_bid_3 rfl (lv_at hl 1 rfl) ?_
  refine lv_iadd hx hb dX3_bid_4 ?_
  refine he_top (nI (j * 3 + i)) (nI_add (j * 3) i) ?_
  refine lv_istore (lv' := [(4, .int (nI (j * 3 + i))), (0, .ref e0), (1, .int (nI i)), (2, .int (nI j)), (3, .int v)]) hx hb dX3_bid_5 hl (by decide) rfl (fun ls hl => ?_)
  refine lv_aload_n hx hb dX3_bid_7 rfl (lv_at hl 1 rfl) ?_
  refine va_get (v := .ref e1) (T := TX3) (N := 2) hx hb hts inX3 hown hK hP 0 rfl rfl 0 (by decide) f9 (fun _ h9 => h9) rfl dX3_bid_8 ?_
  refine lv_iload hx hb dX3_bid_11 (lv_at hl 0 rfl) ?_
  refine he_iald hx hb hK hP 1 rfl (j * 3 + i) rfl (by first | assumption | decide | omega) (by first | decide | assumption) (co (j * 3 + i)) rfl dX3_bid_13 ?_
  refine lv_istore (lv' := [(5, .int (co (j * 3 + i))), (4, .int (nI (j * 3 + i))), (0, .ref e0), (1, .int (nI i)), (2, .int (nI j)), (3, .int v)]) hx hb dX3_bid_14 hl (by decide) rfl (fun ls hl => ?_)
  refine lv_aload_n hx hb dX3_bid_16 rfl (lv_at hl 2 rfl) ?_
  refine va_get (v := .ref e1) (T := TX3) (N := 2) hx hb hts inX3 hown hK hP 0 rfl rfl 0 (by decide) f9 (fun _ h9 => h9) rfl dX3_bid_17 ?_
  refine lv_iload hx hb dX3_bid_20 (lv_at hl 1 rfl) ?_
  refine lv_iload_n hx hb dX3_bid_22 rfl (lv_at hl 5 rfl) ?_
  refine he_iast hx hb hK hP hD hS 1 rfl (j * 3 + i) rfl (by first | assumption | decide | omega) (by first | decide | assumption) dX3_bid_23 (fun H locs hP hD hS => ?_)
  have hP : va_P g.1 vwCl [(oX3 e0 e1 e2), (aI g e1 36 (upd co (j * 3 + i) v))] H := hP
  have hD : va_D A [(oX3 e0 e1 e2), (aI g e1 36 (upd co (j * 3 + i) v))] := hD
  refine lv_iload hx hb dX3_bid_24 (lv_at hl 0 rfl) ?_
  exact he_ri hQ hx hb hr hlk hP hD hS dX3_bid_26 (Nat.le_of_ble_eq_true rfl) (Nat.le_of_ble_eq_true rfl) (()) (rfl) (rfl)
set_option maxHeartbeats 4000000 in
set_option maxRecDepth 100000 in
theorem c_X3_take (l : Launch) (g : he_G) (e0 : Nat) (e1 : Nat) (e2 : Nat) (co : Nat → Int32) (d0 : Nat) (d1 : Nat) (d2 : Nat) (co1 : Nat → Int32)  : he_V l yX3_take wsX3_take 1 18 0 0 g [.ref e0, .ref d0] [(oX3 e0 e1 e2), (aI g e1 36 co), (oX3 d0 d1 d2), (aI g d1 36 co1)] (fun (u : Unit) => True) (fun (u : Unit) => [(oX3 e0 e1 e2), (aI g e1 36 (va_cpy co1 co 0 0 36)), (oX3 d0 d1 d2), (aI g d1 36 co1)]) := by
  refine he_begin (l := l) (g := g) (y := yX3_take) (wl := wsX3_take) (fr := 1) (lo := 18) (mc := 0) (ms := 0) (av := [.ref e0, .ref d0]) (ws := [(oX3 e0 e1 e2), (aI g e1 36 co), (oX3 d0 d1 d2), (aI g d1 36 co1)]) (cc := cX3_take) (maxL := 2) (ret := none) (fun A => va_Qv (fun (u : Unit) => True) (fun u t => he_post g A ((fun (u : Unit) => [(oX3 e0 e1 e2), (aI g e1 36 (va_cpy co1 co 0 0 36)), (oX3 d0 d1 d2), (aI g d1 36 co1)]) u) t) A) (by decide) rfl (Nat.le_of_ble_eq_true rfl) ?_
  intro p e s m args below meth c A ls H locs Q hQ hB
  obtain ⟨hx, hb, hr, hml, hown, hts, hlk, hin, hP, hK, hD, hS, hA, hE, hl⟩ := hB
  have hl : lv_has ls 2 [(0, .ref e0), (1, .ref d0)] := hl
  have f9 := hts (.fieldLink RX3 9 "HiredEnemy$Bids" "coins" "[I") (iwoX3_take (k := 0) rfl)
  have inX3 : ∀ w ∈ wsX30, w ∈ wsX3_take := innX3_take_X3
  have al45 := hts (.methodLink RX3 45 arraycopyName) (iwoX3_take (k := 1) rfl)
  have an := hts (.native arraycopyName) (iwoX3_take (k := 2) rfl)
  have ast := hts (.static arraycopyName) (iwoX3_take (k := 3) rfl)
  have ai := hts (.initialized "java/lang/System") (iwoX3_take (k := 4) rfl)
  refine lv_aload_n hx hb dX3_take_0 rfl (lv_at hl 1 rfl) ?_
  refine va_get (v := .ref d1) (T := TX3) (N := 2) hx hb hts inX3 hown hK hP 2 rfl rfl 0 (by decide) f9 (fun _ h9 => h9) rfl dX3_take_1 ?_
  refine lv_iconst (v := 0) hx hb dX3_take_4 (by decide) ?_
  refine lv_aload_n hx hb dX3_take_5 rfl (lv_at hl 0 rfl) ?_
  refine va_get (v := .ref e1) (T := TX3) (N := 2) hx hb hts inX3 hown hK hP 0 rfl rfl 0 (by decide) f9 (fun _ h9 => h9) rfl dX3_take_6 ?_
  refine lv_iconst (v := 0) hx hb dX3_take_9 (by decide) ?_
  refine lv_aload_n hx hb dX3_take_10 rfl (lv_at hl 0 rfl) ?_
  refine va_get (v := .ref e1) (T := TX3) (N := 2) hx hb hts inX3 hown hK hP 0 rfl rfl 0 (by decide) f9 (fun _ h9 => h9) rfl dX3_take_11 ?_
  refine va_alen (v := 36) hx hb hK hP 1 1 rfl rfl rfl dX3_take_14 ?_
  refine he_copy hx hb (by rw [hml]; exact hl.1.symm) hown al45 an ast ai hK hP hD hS 3 1 rfl rfl (0) (0) (36) (by decide) (by decide) (by decide) (by first | decide | omega) (by first | decide | omega) (by decide) (by decide) (Nat.le_of_ble_eq_true rfl) (Nat.le_of_ble_eq_true rfl) dX3_take_15 (fun H locs hP hD hS => ?_)
  have hP : va_P g.1 vwCl [(oX3 e0 e1 e2), (aI g e1 36 (va_cpy co1 co 0 0 36)), (oX3 d0 d1 d2), (aI g d1 36 co1)] H := hP
  have hD : va_D A [(oX3 e0 e1 e2), (aI g e1 36 (va_cpy co1 co 0 0 36)), (oX3 d0 d1 d2), (aI g d1 36 co1)] := hD
  exact he_rv hQ hx hb hr hlk hP hD hS dX3_take_18 (Nat.le_of_ble_eq_true rfl) (Nat.le_of_ble_eq_true rfl) (()) (rfl) (trivial)
set_option maxHeartbeats 4000000 in
set_option maxRecDepth 100000 in
theorem c_X3_mayFollow (l : Launch) (g : he_G) (i : Nat) (j : Nat) (hi : i < 3) (hj : j < 3) : he_I l yX3_mayFollow wsX3_mayFollow 0 0 0 0 g [.int (nI i), .int (nI j)] [] (fun (r : Int32) (u : Unit) => r = mfF i j) (fun (u : Unit) => []) := by
  refine he_begin (l := l) (g := g) (y := yX3_mayFollow) (wl := wsX3_mayFollow) (fr := 0) (lo := 0) (mc := 0) (ms := 0) (av := [.int (nI i), .int (nI j)]) (ws := []) (cc := cX3_mayFollow) (maxL := 2) (ret := (some .boolean)) (fun A => va_Qi (fun (r : Int32) (u : Unit) => r = mfF i j) (fun u t => he_post g A ((fun (u : Unit) => []) u) t) A) (by decide) rfl (Nat.le_of_ble_eq_true rfl) ?_
  intro p e s m args below meth c A ls H locs Q hQ hB
  obtain ⟨hx, hb, hr, hml, hown, hts, hlk, hin, hP, hK, hD, hS, hA, hE, hl⟩ := hB
  have hl : lv_has ls 2 [(0, .int (nI i)), (1, .int (nI j))] := hl
  refine lv_iload_n hx hb dX3_mayFollow_0 rfl (lv_at hl 0 rfl) ?_
  refine lv_if_eq (tgt := 13) hx hb dX3_mayFollow_1 (by decide) (fun c_1 => ?_) (fun c_1 => ?_)
  · have k_2 : i = 0 := (he_ceq (a := i) (b := 0) rfl (by decide) (by omega) (by omega)).mp c_1
    refine lv_iconst (v := 1) hx hb dX3_mayFollow_13 (by decide) ?_
    refine lv_goto (tgt := 18) hx hb dX3_mayFollow_14 (by decide) ?_
    exact he_rz hQ hx hb hr hlk hP hD hS dX3_mayFollow_18 (Nat.le_of_ble_eq_true rfl) (Nat.le_of_ble_eq_true rfl) rfl (()) (rfl) (by simp [mfF]; omega)
  · have k_3 : ¬ (i = 0) := fun h9 => c_1 ((he_ceq (a := i) (b := 0) rfl (by decide) (by omega) (by omega)).mpr h9)
    refine lv_iload_n hx hb dX3_mayFollow_4 rfl (lv_at hl 1 rfl) ?_
    refine lv_if_eq (tgt := 13) hx hb dX3_mayFollow_5 (by decide) (fun c_4 => ?_) (fun c_4 => ?_)
    · have k_5 : j = 0 := (he_ceq (a := j) (b := 0) rfl (by decide) (by omega) (by omega)).mp c_4
      refine lv_iconst (v := 1) hx hb dX3_mayFollow_13 (by decide) ?_
      refine lv_goto (tgt := 18) hx hb dX3_mayFollow_14 (by decide) ?_
      exact he_rz hQ hx hb hr hlk hP hD hS dX3_mayFollow_18 (Nat.le_of_ble_eq_true rfl) (Nat.le_of_ble_eq_true rfl) rfl (()) (rfl) (by simp [mfF]; omega)
    · have k_6 : ¬ (j = 0) := fun h9 => c_4 ((he_ceq (a := j) (b := 0) rfl (by decide) (by omega) (by omega)).mpr h9)
      refine lv_iload_n hx hb dX3_mayFollow_8 rfl (lv_at hl 0 rfl) ?_
      refine lv_iload_n hx hb dX3_mayFollow_9 rfl (lv_at hl 1 rfl) ?_
      refine lv_icmp_ne (tgt := 17) hx hb dX3_mayFollow_10 (by decide) (fun c_7 => ?_) (fun c_7 => ?_)
      · have k_8 : ¬ (i = j) := fun h9 => c_7 ((he_ceq (a := i) (b := j) rfl rfl (by omega) (by omega)).mpr h9)
        refine lv_iconst (v := 0) hx hb dX3_mayFollow_17 (by decide) ?_
        exact he_rz hQ hx hb hr hlk hP hD hS dX3_mayFollow_18 (Nat.le_of_ble_eq_true rfl) (Nat.le_of_ble_eq_true rfl) rfl (()) (rfl) (by simp [mfF]; omega)
      · have k_9 : i = j := (he_ceq (a := i) (b := j) rfl rfl (by omega) (by omega)).mp c_7
        refine lv_iconst (v := 1) hx hb dX3_mayFollow_13 (by decide) ?_
        refine lv_goto (tgt := 18) hx hb dX3_mayFollow_14 (by decide) ?_
        exact he_rz hQ hx hb hr hlk hP hD hS dX3_mayFollow_18 (Nat.le_of_ble_eq_true rfl) (Nat.le_of_ble_eq_true rfl) rfl (()) (rfl) (by simp [mfF]; omega)
set_option maxHeartbeats 4000000 in
set_option maxRecDepth 100000 in
theorem c_X6_mostParts (l : Launch) (g : he_G) (p0 : Nat) (p1 : Nat) (p2 : Nat) (p3 : Nat) (p4 : Nat) (w : Int32)  : he_I l yX6_mostParts wsX6_mostParts 0 0 0 0 g [.ref p0] [(oX6 p0 p1 p2 p3 p4 w)] (fun (r : Int32) (u : Unit) => r = 60) (fun (u : Unit) => [(oX6 p0 p1 p2 p3 p4 w)]) := by
  refine he_begin (l := l) (g := g) (y := yX6_mostParts) (wl := wsX6_mostParts) (fr := 0) (lo := 0) (mc := 0) (ms := 0) (av := [.ref p0]) (ws := [(oX6 p0 p1 p2 p3 p4 w)]) (cc := cX6_mostParts) (maxL := 1) (ret := (some .int)) (fun A => va_Qi (fun (r : Int32) (u : Unit) => r = 60) (fun u t => he_post g A ((fun (u : Unit) => [(oX6 p0 p1 p2 p3 p4 w)]) u) t) A) (by decide) rfl (Nat.le_of_ble_eq_true rfl) ?_
  intro p e s m args below meth c A ls H locs Q hQ hB
  obtain ⟨hx, hb, hr, hml, hown, hts, hlk, hin, hP, hK, hD, hS, hA, hE, hl⟩ := hB
  have hl : lv_has ls 1 [(0, .ref p0)] := hl
  refine lv_bipush (v := 60) hx hb dX6_mostParts_0 (by decide) ?_
  exact he_ri hQ hx hb hr hlk hP hD hS dX6_mostParts_2 (Nat.le_of_ble_eq_true rfl) (Nat.le_of_ble_eq_true rfl) (()) (rfl) (rfl)
set_option maxHeartbeats 4000000 in
set_option maxRecDepth 100000 in
theorem c_X5_mostParts (l : Launch) (g : he_G) (t0 : Nat) (t1 : Nat) (t2 : Nat) (pw : Int32)  : he_I l yX5_mostParts wsX5_mostParts 0 0 0 0 g [.ref t0] [(oX5 t0 t1 t2 pw)] (fun (r : Int32) (u : Unit) => r = 20) (fun (u : Unit) => [(oX5 t0 t1 t2 pw)]) := by
  refine he_begin (l := l) (g := g) (y := yX5_mostParts) (wl := wsX5_mostParts) (fr := 0) (lo := 0) (mc := 0) (ms := 0) (av := [.ref t0]) (ws := [(oX5 t0 t1 t2 pw)]) (cc := cX5_mostParts) (maxL := 1) (ret := (some .int)) (fun A => va_Qi (fun (r : Int32) (u : Unit) => r = 20) (fun u t => he_post g A ((fun (u : Unit) => [(oX5 t0 t1 t2 pw)]) u) t) A) (by decide) rfl (Nat.le_of_ble_eq_true rfl) ?_
  intro p e s m args below meth c A ls H locs Q hQ hB
  obtain ⟨hx, hb, hr, hml, hown, hts, hlk, hin, hP, hK, hD, hS, hA, hE, hl⟩ := hB
  have hl : lv_has ls 1 [(0, .ref t0)] := hl
  refine lv_bipush (v := 20) hx hb dX5_mostParts_0 (by decide) ?_
  exact he_ri hQ hx hb hr hlk hP hD hS dX5_mostParts_2 (Nat.le_of_ble_eq_true rfl) (Nat.le_of_ble_eq_true rfl) (()) (rfl) (rfl)
set_option maxHeartbeats 4000000 in
set_option maxRecDepth 100000 in
theorem c_X8_begin (l : Launch) (g : he_G) (s0 : Nat) (a0 : Nat) (h0 : Nat) (q0 : Nat) (q1 : Nat) (mo : Int32) (f : Nat → Int32) (b0 : Nat) (b1 : Nat) (b2 : Nat) (x : Int32) (y : Int32) (rl : Int64) (hd : Int64) (th : Int32) (e0 : Nat) (e1 : Nat) (e2 : Nat) (co : Nat → Int32) (p0 : Nat) (p1 : Nat) (p2 : Nat) (p3 : Nat) (p4 : Nat) (w : Nat) (sd : Nat → Int32) (st : Nat → Int32) (hw6 : w ≤ 6) : he_V l yX8_begin wsX8_begin 2 45 0 0 g [.ref s0, .ref p0] [(oX8 s0 h0 a0 b0 e0), (oX4 h0 q0 q1 mo), (aI g q0 24 f), (oX2 b0 b1 b2 x y rl hd th), (oX3 e0 e1 e2), (aI g e1 36 co), (oX6 p0 p1 p2 p3 p4 (nI w)), (aI g p1 24 sd), (aI g p3 6 st)] (fun (u : Unit) => True) (fun (u : Unit) => [(oX8 s0 h0 a0 b0 e0), (oX4 h0 q0 q1 0), (aI g q0 24 (beginF sd st w f)), (oX2 b0 b1 b2 x y (Int32.toInt64 x) (Int32.toInt64 y) 0), (oX3 e0 e1 e2), (aI g e1 36 (flF (fun _ => 0) co 36)), (oX6 p0 p1 p2 p3 p4 (nI w)), (aI g p1 24 sd), (aI g p3 6 st)]) := by
  refine he_begin (l := l) (g := g) (y := yX8_begin) (wl := wsX8_begin) (fr := 2) (lo := 45) (mc := 0) (ms := 0) (av := [.ref s0, .ref p0]) (ws := [(oX8 s0 h0 a0 b0 e0), (oX4 h0 q0 q1 mo), (aI g q0 24 f), (oX2 b0 b1 b2 x y rl hd th), (oX3 e0 e1 e2), (aI g e1 36 co), (oX6 p0 p1 p2 p3 p4 (nI w)), (aI g p1 24 sd), (aI g p3 6 st)]) (cc := cX8_begin) (maxL := 2) (ret := none) (fun A => va_Qv (fun (u : Unit) => True) (fun u t => he_post g A ((fun (u : Unit) => [(oX8 s0 h0 a0 b0 e0), (oX4 h0 q0 q1 0), (aI g q0 24 (beginF sd st w f)), (oX2 b0 b1 b2 x y (Int32.toInt64 x) (Int32.toInt64 y) 0), (oX3 e0 e1 e2), (aI g e1 36 (flF (fun _ => 0) co 36)), (oX6 p0 p1 p2 p3 p4 (nI w)), (aI g p1 24 sd), (aI g p3 6 st)]) u) t) A) (by decide) rfl (Nat.le_of_ble_eq_true rfl) ?_
  intro p e s m args below meth c A ls H locs Q hQ hB
  obtain ⟨hx, hb, hr, hml, hown, hts, hlk, hin, hP, hK, hD, hS, hA, hE, hl⟩ := hB
  have hl : lv_has ls 2 [(0, .ref s0), (1, .ref p0)] := hl
  have f10 := hts (.fieldLink RX8 10 "HiredEnemy$Scene" "course" "LHiredEnemy$Course;") (iwoX8_begin (k := 0) rfl)
  have inX8 : ∀ w ∈ wsX80, w ∈ wsX8_begin := innX8_begin_X8
  have f26 := hts (.fieldLink RX8 26 "HiredEnemy$Scene" "belief" "LHiredEnemy$Belief;") (iwoX8_begin (k := 1) rfl)
  have f33 := hts (.fieldLink RX8 33 "HiredEnemy$Scene" "bids" "LHiredEnemy$Bids;") (iwoX8_begin (k := 2) rfl)
  refine lv_aload_n hx hb dX8_begin_0 rfl (lv_at hl 0 rfl) ?_
  refine va_get (v := .ref h0) (T := TX8) (N := 4) hx hb hts inX8 hown hK hP 0 rfl rfl 0 (by decide) f10 (fun _ h9 => h9) rfl dX8_begin_1 ?_
  refine lv_aload_n hx hb dX8_begin_4 rfl (lv_at hl 1 rfl) ?_
  refine he_cv (wc := [(oX4 h0 q0 q1 mo), (aI g q0 24 f), (oX6 p0 p1 p2 p3 p4 (nI w)), (aI g p1 24 sd), (aI g p3 6 st)]) (wr := [(oX8 s0 h0 a0 b0 e0), (oX2 b0 b1 b2 x y rl hd th), (oX3 e0 e1 e2), (aI g e1 36 co)]) (va_runV (As := [.ref p0]) (rest := []) ⟨hx, hb, hml, hown, hts⟩ (c_X4_begin l g h0 q0 q1 mo f p0 p1 p2 p3 p4 w sd st (by first | assumption | decide | omega) H.size) (cwV 1 hts gX8_begin_X4_begin rfl rfl rfl (by decide +kernel) ⟨Nat.le_of_ble_eq_true rfl, Nat.le_of_ble_eq_true rfl⟩) (he_preV (wc := [(oX4 h0 q0 q1 mo), (aI g q0 24 f), (oX6 p0 p1 p2 p3 p4 (nI w)), (aI g p1 24 sd), (aI g p3 6 st)]) hK hP hD hS hA hE [1, 2, 6, 7, 8] rfl rfl 1 rfl rfl) rfl rfl hl.1 rfl (lv_room (Nat.le_of_ble_eq_true rfl)) dX8_begin_5 ⟨(Nat.le_of_ble_eq_true rfl), (Nat.le_of_ble_eq_true rfl)⟩) hP hD hS hA [1, 2, 6, 7, 8] [0, 3, 4, 5] rfl rfl rfl (by decide) (fun u_2 H locs h_3 hP hD hS => ?_)
  have hP : va_P g.1 vwCl [(oX8 s0 h0 a0 b0 e0), (oX2 b0 b1 b2 x y rl hd th), (oX3 e0 e1 e2), (aI g e1 36 co), (oX4 h0 q0 q1 0), (aI g q0 24 (beginF sd st w f)), (oX6 p0 p1 p2 p3 p4 (nI w)), (aI g p1 24 sd), (aI g p3 6 st)] H := hP
  have hD : va_D A [(oX8 s0 h0 a0 b0 e0), (oX2 b0 b1 b2 x y rl hd th), (oX3 e0 e1 e2), (aI g e1 36 co), (oX4 h0 q0 q1 0), (aI g q0 24 (beginF sd st w f)), (oX6 p0 p1 p2 p3 p4 (nI w)), (aI g p1 24 sd), (aI g p3 6 st)] := hD
  refine lv_aload_n hx hb dX8_begin_8 rfl (lv_at hl 0 rfl) ?_
  refine va_get (v := .ref b0) (T := TX8) (N := 4) hx hb hts inX8 hown hK hP 0 rfl rfl 2 (by decide) f26 (fun _ h9 => h9) rfl dX8_begin_9 ?_
  refine he_cv (wc := [(oX2 b0 b1 b2 x y rl hd th)]) (wr := [(oX8 s0 h0 a0 b0 e0), (oX3 e0 e1 e2), (aI g e1 36 co), (oX4 h0 q0 q1 0), (aI g q0 24 (beginF sd st w f)), (oX6 p0 p1 p2 p3 p4 (nI w)), (aI g p1 24 sd), (aI g p3 6 st)]) (va_runV (As := []) (rest := []) ⟨hx, hb, hml, hown, hts⟩ (c_X2_forget l g b0 b1 b2 x y rl hd th H.size) (cwV 0 hts gX8_begin_X2_forget rfl rfl rfl (by decide +kernel) ⟨Nat.le_of_ble_eq_true rfl, Nat.le_of_ble_eq_true rfl⟩) (he_preV (wc := [(oX2 b0 b1 b2 x y rl hd th)]) hK hP hD hS hA hE [1] rfl rfl 1 rfl rfl) rfl rfl hl.1 rfl (lv_room (Nat.le_of_ble_eq_true rfl)) dX8_begin_12 ⟨(Nat.le_of_ble_eq_true rfl), (Nat.le_of_ble_eq_true rfl)⟩) hP hD hS hA [1] [0, 2, 3, 4, 5, 6, 7, 8] rfl rfl rfl (by decide) (fun u_5 H locs h_6 hP hD hS => ?_)
  have hP : va_P g.1 vwCl [(oX8 s0 h0 a0 b0 e0), (oX3 e0 e1 e2), (aI g e1 36 co), (oX4 h0 q0 q1 0), (aI g q0 24 (beginF sd st w f)), (oX6 p0 p1 p2 p3 p4 (nI w)), (aI g p1 24 sd), (aI g p3 6 st), (oX2 b0 b1 b2 x y (Int32.toInt64 x) (Int32.toInt64 y) 0)] H := hP
  have hD : va_D A [(oX8 s0 h0 a0 b0 e0), (oX3 e0 e1 e2), (aI g e1 36 co), (oX4 h0 q0 q1 0), (aI g q0 24 (beginF sd st w f)), (oX6 p0 p1 p2 p3 p4 (nI w)), (aI g p1 24 sd), (aI g p3 6 st), (oX2 b0 b1 b2 x y (Int32.toInt64 x) (Int32.toInt64 y) 0)] := hD
  refine lv_aload_n hx hb dX8_begin_15 rfl (lv_at hl 0 rfl) ?_
  refine va_get (v := .ref e0) (T := TX8) (N := 4) hx hb hts inX8 hown hK hP 0 rfl rfl 3 (by decide) f33 (fun _ h9 => h9) rfl dX8_begin_16 ?_
  refine he_cv (wc := [(oX3 e0 e1 e2), (aI g e1 36 co)]) (wr := [(oX8 s0 h0 a0 b0 e0), (oX4 h0 q0 q1 0), (aI g q0 24 (beginF sd st w f)), (oX6 p0 p1 p2 p3 p4 (nI w)), (aI g p1 24 sd), (aI g p3 6 st), (oX2 b0 b1 b2 x y (Int32.toInt64 x) (Int32.toInt64 y) 0)]) (va_runV (As := []) (rest := []) ⟨hx, hb, hml, hown, hts⟩ (c_X3_clear l g e0 e1 e2 co H.size) (cwV 0 hts gX8_begin_X3_clear rfl rfl rfl (by decide +kernel) ⟨Nat.le_of_ble_eq_true rfl, Nat.le_of_ble_eq_true rfl⟩) (he_preV (wc := [(oX3 e0 e1 e2), (aI g e1 36 co)]) hK hP hD hS hA hE [1, 2] rfl rfl 1 rfl rfl) rfl rfl hl.1 rfl (lv_room (Nat.le_of_ble_eq_true rfl)) dX8_begin_19 ⟨(Nat.le_of_ble_eq_true rfl), (Nat.le_of_ble_eq_true rfl)⟩) hP hD hS hA [1, 2] [0, 3, 4, 5, 6, 7, 8] rfl rfl rfl (by decide) (fun u_8 H locs h_9 hP hD hS => ?_)
  have hP : va_P g.1 vwCl [(oX8 s0 h0 a0 b0 e0), (oX4 h0 q0 q1 0), (aI g q0 24 (beginF sd st w f)), (oX6 p0 p1 p2 p3 p4 (nI w)), (aI g p1 24 sd), (aI g p3 6 st), (oX2 b0 b1 b2 x y (Int32.toInt64 x) (Int32.toInt64 y) 0), (oX3 e0 e1 e2), (aI g e1 36 (flF (fun _ => 0) co 36))] H := hP
  have hD : va_D A [(oX8 s0 h0 a0 b0 e0), (oX4 h0 q0 q1 0), (aI g q0 24 (beginF sd st w f)), (oX6 p0 p1 p2 p3 p4 (nI w)), (aI g p1 24 sd), (aI g p3 6 st), (oX2 b0 b1 b2 x y (Int32.toInt64 x) (Int32.toInt64 y) 0), (oX3 e0 e1 e2), (aI g e1 36 (flF (fun _ => 0) co 36))] := hD
  have hP := hP.sub (ws' := [(oX8 s0 h0 a0 b0 e0), (oX4 h0 q0 q1 0), (aI g q0 24 (beginF sd st w f)), (oX2 b0 b1 b2 x y (Int32.toInt64 x) (Int32.toInt64 y) 0), (oX3 e0 e1 e2), (aI g e1 36 (flF (fun _ => 0) co 36)), (oX6 p0 p1 p2 p3 p4 (nI w)), (aI g p1 24 sd), (aI g p3 6 st)]) [0, 1, 2, 6, 7, 8, 3, 4, 5] rfl
  have hD := hD.sub (ws' := [(oX8 s0 h0 a0 b0 e0), (oX4 h0 q0 q1 0), (aI g q0 24 (beginF sd st w f)), (oX2 b0 b1 b2 x y (Int32.toInt64 x) (Int32.toInt64 y) 0), (oX3 e0 e1 e2), (aI g e1 36 (flF (fun _ => 0) co 36)), (oX6 p0 p1 p2 p3 p4 (nI w)), (aI g p1 24 sd), (aI g p3 6 st)]) [0, 1, 2, 6, 7, 8, 3, 4, 5] (by decide) rfl
  exact he_rv hQ hx hb hr hlk hP hD hS dX8_begin_22 (Nat.le_of_ble_eq_true rfl) (Nat.le_of_ble_eq_true rfl) (()) (rfl) (trivial)
set_option maxHeartbeats 4000000 in
set_option maxRecDepth 100000 in
theorem c_X8_take (l : Launch) (g : he_G) (s0 : Nat) (h0 : Nat) (q0 : Nat) (q1 : Nat) (mo : Int32) (f : Nat → Int32) (a0 : Nat) (a1 : Nat) (ln : Nat → Int32) (b0 : Nat) (b1 : Nat) (b2 : Nat) (x : Int32) (y : Int32) (rl : Int64) (hd : Int64) (th : Int32) (fr : Nat → Int32) (fh : Nat → Int32) (e0 : Nat) (e1 : Nat) (e2 : Nat) (co : Nat → Int32) (s2 : Nat) (h2 : Nat) (q2 : Nat) (r2 : Nat) (k : Nat) (f2 : Nat → Int32) (a2 : Nat) (a3 : Nat) (ln2 : Nat → Int32) (d0 : Nat) (d1 : Nat) (d2 : Nat) (x1 : Int32) (y1 : Int32) (r1 : Int64) (g1 : Int64) (t1 : Int32) (fr1 : Nat → Int32) (fh1 : Nat → Int32) (e4 : Nat) (e5 : Nat) (e6 : Nat) (co2 : Nat → Int32) (hk : k ≤ 120) : he_V l yX8_take wsX8_take 2 44 0 0 g [.ref s0, .ref s2] [(oX8 s0 h0 a0 b0 e0), (oX4 h0 q0 q1 mo), (aI g q0 24 f), (oX0 a0 a1), (aI g a1 3600 ln), (oX2 b0 b1 b2 x y rl hd th), (aI g b1 4 fr), (aI g b2 4 fh), (oX3 e0 e1 e2), (aI g e1 36 co), (oX8 s2 h2 a2 d0 e4), (oX4 h2 q2 r2 (nI k)), (aI g q2 24 f2), (oX0 a2 a3), (aI g a3 3600 ln2), (oX2 d0 d1 d2 x1 y1 r1 g1 t1), (aI g d1 4 fr1), (aI g d2 4 fh1), (oX3 e4 e5 e6), (aI g e5 36 co2)] (fun (u : Unit) => True) (fun (u : Unit) => [(oX8 s0 h0 a0 b0 e0), (oX4 h0 q0 q1 (nI k)), (aI g q0 24 (va_cpy f2 f 0 0 24)), (oX0 a0 a1), (aI g a1 3600 (va_cpy ln2 ln 0 0 (k * 30))), (oX2 b0 b1 b2 x1 y1 r1 g1 t1), (aI g b1 4 (va_cpy fr1 fr 0 0 4)), (aI g b2 4 (va_cpy fh1 fh 0 0 4)), (oX3 e0 e1 e2), (aI g e1 36 (va_cpy co2 co 0 0 36)), (oX8 s2 h2 a2 d0 e4), (oX4 h2 q2 r2 (nI k)), (aI g q2 24 f2), (oX0 a2 a3), (aI g a3 3600 ln2), (oX2 d0 d1 d2 x1 y1 r1 g1 t1), (aI g d1 4 fr1), (aI g d2 4 fh1), (oX3 e4 e5 e6), (aI g e5 36 co2)]) := by
  refine he_begin (l := l) (g := g) (y := yX8_take) (wl := wsX8_take) (fr := 2) (lo := 44) (mc := 0) (ms := 0) (av := [.ref s0, .ref s2]) (ws := [(oX8 s0 h0 a0 b0 e0), (oX4 h0 q0 q1 mo), (aI g q0 24 f), (oX0 a0 a1), (aI g a1 3600 ln), (oX2 b0 b1 b2 x y rl hd th), (aI g b1 4 fr), (aI g b2 4 fh), (oX3 e0 e1 e2), (aI g e1 36 co), (oX8 s2 h2 a2 d0 e4), (oX4 h2 q2 r2 (nI k)), (aI g q2 24 f2), (oX0 a2 a3), (aI g a3 3600 ln2), (oX2 d0 d1 d2 x1 y1 r1 g1 t1), (aI g d1 4 fr1), (aI g d2 4 fh1), (oX3 e4 e5 e6), (aI g e5 36 co2)]) (cc := cX8_take) (maxL := 2) (ret := none) (fun A => va_Qv (fun (u : Unit) => True) (fun u t => he_post g A ((fun (u : Unit) => [(oX8 s0 h0 a0 b0 e0), (oX4 h0 q0 q1 (nI k)), (aI g q0 24 (va_cpy f2 f 0 0 24)), (oX0 a0 a1), (aI g a1 3600 (va_cpy ln2 ln 0 0 (k * 30))), (oX2 b0 b1 b2 x1 y1 r1 g1 t1), (aI g b1 4 (va_cpy fr1 fr 0 0 4)), (aI g b2 4 (va_cpy fh1 fh 0 0 4)), (oX3 e0 e1 e2), (aI g e1 36 (va_cpy co2 co 0 0 36)), (oX8 s2 h2 a2 d0 e4), (oX4 h2 q2 r2 (nI k)), (aI g q2 24 f2), (oX0 a2 a3), (aI g a3 3600 ln2), (oX2 d0 d1 d2 x1 y1 r1 g1 t1), (aI g d1 4 fr1), (aI g d2 4 fh1), (oX3 e4 e5 e6), (aI g e5 36 co2)]) u) t) A) (by decide) rfl (Nat.le_of_ble_eq_true rfl) ?_
  intro p e s m args below meth c A ls H locs Q hQ hB
  obtain ⟨hx, hb, hr, hml, hown, hts, hlk, hin, hP, hK, hD, hS, hA, hE, hl⟩ := hB
  have hl : lv_has ls 2 [(0, .ref s0), (1, .ref s2)] := hl
  have f10 := hts (.fieldLink RX8 10 "HiredEnemy$Scene" "course" "LHiredEnemy$Course;") (iwoX8_take (k := 0) rfl)
  have inX8 : ∀ w ∈ wsX80, w ∈ wsX8_take := innX8_take_X8
  have f19 := hts (.fieldLink RX8 19 "HiredEnemy$Scene" "annals" "LHiredEnemy$Annals;") (iwoX8_take (k := 1) rfl)
  have f51 := hts (.fieldLink RX8 51 "HiredEnemy$Course" "month" "I") (iwoX8_take (k := 2) rfl)
  have inX4 : ∀ w ∈ wsX40, w ∈ wsX8_take := innX8_take_X4
  have f26 := hts (.fieldLink RX8 26 "HiredEnemy$Scene" "belief" "LHiredEnemy$Belief;") (iwoX8_take (k := 3) rfl)
  have f33 := hts (.fieldLink RX8 33 "HiredEnemy$Scene" "bids" "LHiredEnemy$Bids;") (iwoX8_take (k := 4) rfl)
  refine lv_aload_n hx hb dX8_take_0 rfl (lv_at hl 0 rfl) ?_
  refine va_get (v := .ref h0) (T := TX8) (N := 4) hx hb hts inX8 hown hK hP 0 rfl rfl 0 (by decide) f10 (fun _ h9 => h9) rfl dX8_take_1 ?_
  refine lv_aload_n hx hb dX8_take_4 rfl (lv_at hl 1 rfl) ?_
  refine va_get (v := .ref h2) (T := TX8) (N := 4) hx hb hts inX8 hown hK hP 10 rfl rfl 0 (by decide) f10 (fun _ h9 => h9) rfl dX8_take_5 ?_
  refine he_cv (wc := [(oX4 h0 q0 q1 mo), (aI g q0 24 f), (oX4 h2 q2 r2 (nI k)), (aI g q2 24 f2)]) (wr := [(oX8 s0 h0 a0 b0 e0), (oX0 a0 a1), (aI g a1 3600 ln), (oX2 b0 b1 b2 x y rl hd th), (aI g b1 4 fr), (aI g b2 4 fh), (oX3 e0 e1 e2), (aI g e1 36 co), (oX8 s2 h2 a2 d0 e4), (oX0 a2 a3), (aI g a3 3600 ln2), (oX2 d0 d1 d2 x1 y1 r1 g1 t1), (aI g d1 4 fr1), (aI g d2 4 fh1), (oX3 e4 e5 e6), (aI g e5 36 co2)]) (va_runV (As := [.ref h2]) (rest := []) ⟨hx, hb, hml, hown, hts⟩ (c_X4_take l g h0 q0 q1 mo f h2 q2 r2 (nI k) f2 H.size) (cwV 1 hts gX8_take_X4_take rfl rfl rfl (by decide +kernel) ⟨Nat.le_of_ble_eq_true rfl, Nat.le_of_ble_eq_true rfl⟩) (he_preV (wc := [(oX4 h0 q0 q1 mo), (aI g q0 24 f), (oX4 h2 q2 r2 (nI k)), (aI g q2 24 f2)]) hK hP hD hS hA hE [1, 2, 11, 12] rfl rfl 1 rfl rfl) rfl rfl hl.1 rfl (lv_room (Nat.le_of_ble_eq_true rfl)) dX8_take_8 ⟨(Nat.le_of_ble_eq_true rfl), (Nat.le_of_ble_eq_true rfl)⟩) hP hD hS hA [1, 2, 11, 12] [0, 3, 4, 5, 6, 7, 8, 9, 10, 13, 14, 15, 16, 17, 18, 19] rfl rfl rfl (by decide) (fun u_2 H locs h_3 hP hD hS => ?_)
  have hP : va_P g.1 vwCl [(oX8 s0 h0 a0 b0 e0), (oX0 a0 a1), (aI g a1 3600 ln), (oX2 b0 b1 b2 x y rl hd th), (aI g b1 4 fr), (aI g b2 4 fh), (oX3 e0 e1 e2), (aI g e1 36 co), (oX8 s2 h2 a2 d0 e4), (oX0 a2 a3), (aI g a3 3600 ln2), (oX2 d0 d1 d2 x1 y1 r1 g1 t1), (aI g d1 4 fr1), (aI g d2 4 fh1), (oX3 e4 e5 e6), (aI g e5 36 co2), (oX4 h0 q0 q1 (nI k)), (aI g q0 24 (va_cpy f2 f 0 0 24)), (oX4 h2 q2 r2 (nI k)), (aI g q2 24 f2)] H := hP
  have hD : va_D A [(oX8 s0 h0 a0 b0 e0), (oX0 a0 a1), (aI g a1 3600 ln), (oX2 b0 b1 b2 x y rl hd th), (aI g b1 4 fr), (aI g b2 4 fh), (oX3 e0 e1 e2), (aI g e1 36 co), (oX8 s2 h2 a2 d0 e4), (oX0 a2 a3), (aI g a3 3600 ln2), (oX2 d0 d1 d2 x1 y1 r1 g1 t1), (aI g d1 4 fr1), (aI g d2 4 fh1), (oX3 e4 e5 e6), (aI g e5 36 co2), (oX4 h0 q0 q1 (nI k)), (aI g q0 24 (va_cpy f2 f 0 0 24)), (oX4 h2 q2 r2 (nI k)), (aI g q2 24 f2)] := hD
  refine lv_aload_n hx hb dX8_take_11 rfl (lv_at hl 0 rfl) ?_
  refine va_get (v := .ref a0) (T := TX8) (N := 4) hx hb hts inX8 hown hK hP 0 rfl rfl 1 (by decide) f19 (fun _ h9 => h9) rfl dX8_take_12 ?_
  refine lv_aload_n hx hb dX8_take_15 rfl (lv_at hl 1 rfl) ?_
  refine va_get (v := .ref a2) (T := TX8) (N := 4) hx hb hts inX8 hown hK hP 8 rfl rfl 1 (by decide) f19 (fun _ h9 => h9) rfl dX8_take_16 ?_
  refine lv_aload_n hx hb dX8_take_19 rfl (lv_at hl 1 rfl) ?_
  refine va_get (v := .ref h2) (T := TX8) (N := 4) hx hb hts inX8 hown hK hP 8 rfl rfl 0 (by decide) f10 (fun _ h9 => h9) rfl dX8_take_20 ?_
  refine va_get (v := .int (nI k)) (T := TX4) (N := 3) hx hb hts inX4 hown hK hP 18 rfl rfl 2 (by decide) f51 (fun _ h9 => h9) rfl dX8_take_23 ?_
  refine he_cv (wc := [(oX0 a0 a1), (aI g a1 3600 ln), (oX0 a2 a3), (aI g a3 3600 ln2)]) (wr := [(oX8 s0 h0 a0 b0 e0), (oX2 b0 b1 b2 x y rl hd th), (aI g b1 4 fr), (aI g b2 4 fh), (oX3 e0 e1 e2), (aI g e1 36 co), (oX8 s2 h2 a2 d0 e4), (oX2 d0 d1 d2 x1 y1 r1 g1 t1), (aI g d1 4 fr1), (aI g d2 4 fh1), (oX3 e4 e5 e6), (aI g e5 36 co2), (oX4 h0 q0 q1 (nI k)), (aI g q0 24 (va_cpy f2 f 0 0 24)), (oX4 h2 q2 r2 (nI k)), (aI g q2 24 f2)]) (va_runV (As := [.ref a2, .int (nI k)]) (rest := []) ⟨hx, hb, hml, hown, hts⟩ (c_X0_take l g a0 a1 ln a2 a3 ln2 k (by first | assumption | decide | omega) H.size) (cwV 2 hts gX8_take_X0_take rfl rfl rfl (by decide +kernel) ⟨Nat.le_of_ble_eq_true rfl, Nat.le_of_ble_eq_true rfl⟩) (he_preV (wc := [(oX0 a0 a1), (aI g a1 3600 ln), (oX0 a2 a3), (aI g a3 3600 ln2)]) hK hP hD hS hA hE [1, 2, 9, 10] rfl rfl 1 rfl rfl) rfl rfl hl.1 rfl (lv_room (Nat.le_of_ble_eq_true rfl)) dX8_take_26 ⟨(Nat.le_of_ble_eq_true rfl), (Nat.le_of_ble_eq_true rfl)⟩) hP hD hS hA [1, 2, 9, 10] [0, 3, 4, 5, 6, 7, 8, 11, 12, 13, 14, 15, 16, 17, 18, 19] rfl rfl rfl (by decide) (fun u_5 H locs h_6 hP hD hS => ?_)
  have hP : va_P g.1 vwCl [(oX8 s0 h0 a0 b0 e0), (oX2 b0 b1 b2 x y rl hd th), (aI g b1 4 fr), (aI g b2 4 fh), (oX3 e0 e1 e2), (aI g e1 36 co), (oX8 s2 h2 a2 d0 e4), (oX2 d0 d1 d2 x1 y1 r1 g1 t1), (aI g d1 4 fr1), (aI g d2 4 fh1), (oX3 e4 e5 e6), (aI g e5 36 co2), (oX4 h0 q0 q1 (nI k)), (aI g q0 24 (va_cpy f2 f 0 0 24)), (oX4 h2 q2 r2 (nI k)), (aI g q2 24 f2), (oX0 a0 a1), (aI g a1 3600 (va_cpy ln2 ln 0 0 (k * 30))), (oX0 a2 a3), (aI g a3 3600 ln2)] H := hP
  have hD : va_D A [(oX8 s0 h0 a0 b0 e0), (oX2 b0 b1 b2 x y rl hd th), (aI g b1 4 fr), (aI g b2 4 fh), (oX3 e0 e1 e2), (aI g e1 36 co), (oX8 s2 h2 a2 d0 e4), (oX2 d0 d1 d2 x1 y1 r1 g1 t1), (aI g d1 4 fr1), (aI g d2 4 fh1), (oX3 e4 e5 e6), (aI g e5 36 co2), (oX4 h0 q0 q1 (nI k)), (aI g q0 24 (va_cpy f2 f 0 0 24)), (oX4 h2 q2 r2 (nI k)), (aI g q2 24 f2), (oX0 a0 a1), (aI g a1 3600 (va_cpy ln2 ln 0 0 (k * 30))), (oX0 a2 a3), (aI g a3 3600 ln2)] := hD
  refine lv_aload_n hx hb dX8_take_29 rfl (lv_at hl 0 rfl) ?_
  refine va_get (v := .ref b0) (T := TX8) (N := 4) hx hb hts inX8 hown hK hP 0 rfl rfl 2 (by decide) f26 (fun _ h9 => h9) rfl dX8_take_30 ?_
  refine lv_aload_n hx hb dX8_take_33 rfl (lv_at hl 1 rfl) ?_
  refine va_get (v := .ref d0) (T := TX8) (N := 4) hx hb hts inX8 hown hK hP 6 rfl rfl 2 (by decide) f26 (fun _ h9 => h9) rfl dX8_take_34 ?_
  refine he_cv (wc := [(oX2 b0 b1 b2 x y rl hd th), (aI g b1 4 fr), (aI g b2 4 fh), (oX2 d0 d1 d2 x1 y1 r1 g1 t1), (aI g d1 4 fr1), (aI g d2 4 fh1)]) (wr := [(oX8 s0 h0 a0 b0 e0), (oX3 e0 e1 e2), (aI g e1 36 co), (oX8 s2 h2 a2 d0 e4), (oX3 e4 e5 e6), (aI g e5 36 co2), (oX4 h0 q0 q1 (nI k)), (aI g q0 24 (va_cpy f2 f 0 0 24)), (oX4 h2 q2 r2 (nI k)), (aI g q2 24 f2), (oX0 a0 a1), (aI g a1 3600 (va_cpy ln2 ln 0 0 (k * 30))), (oX0 a2 a3), (aI g a3 3600 ln2)]) (va_runV (As := [.ref d0]) (rest := []) ⟨hx, hb, hml, hown, hts⟩ (c_X2_take l g b0 b1 b2 x y rl hd th fr fh d0 d1 d2 x1 y1 r1 g1 t1 fr1 fh1 H.size) (cwV 1 hts gX8_take_X2_take rfl rfl rfl (by decide +kernel) ⟨Nat.le_of_ble_eq_true rfl, Nat.le_of_ble_eq_true rfl⟩) (he_preV (wc := [(oX2 b0 b1 b2 x y rl hd th), (aI g b1 4 fr), (aI g b2 4 fh), (oX2 d0 d1 d2 x1 y1 r1 g1 t1), (aI g d1 4 fr1), (aI g d2 4 fh1)]) hK hP hD hS hA hE [1, 2, 3, 7, 8, 9] rfl rfl 1 rfl rfl) rfl rfl hl.1 rfl (lv_room (Nat.le_of_ble_eq_true rfl)) dX8_take_37 ⟨(Nat.le_of_ble_eq_true rfl), (Nat.le_of_ble_eq_true rfl)⟩) hP hD hS hA [1, 2, 3, 7, 8, 9] [0, 4, 5, 6, 10, 11, 12, 13, 14, 15, 16, 17, 18, 19] rfl rfl rfl (by decide) (fun u_8 H locs h_9 hP hD hS => ?_)
  have hP : va_P g.1 vwCl [(oX8 s0 h0 a0 b0 e0), (oX3 e0 e1 e2), (aI g e1 36 co), (oX8 s2 h2 a2 d0 e4), (oX3 e4 e5 e6), (aI g e5 36 co2), (oX4 h0 q0 q1 (nI k)), (aI g q0 24 (va_cpy f2 f 0 0 24)), (oX4 h2 q2 r2 (nI k)), (aI g q2 24 f2), (oX0 a0 a1), (aI g a1 3600 (va_cpy ln2 ln 0 0 (k * 30))), (oX0 a2 a3), (aI g a3 3600 ln2), (oX2 b0 b1 b2 x1 y1 r1 g1 t1), (aI g b1 4 (va_cpy fr1 fr 0 0 4)), (aI g b2 4 (va_cpy fh1 fh 0 0 4)), (oX2 d0 d1 d2 x1 y1 r1 g1 t1), (aI g d1 4 fr1), (aI g d2 4 fh1)] H := hP
  have hD : va_D A [(oX8 s0 h0 a0 b0 e0), (oX3 e0 e1 e2), (aI g e1 36 co), (oX8 s2 h2 a2 d0 e4), (oX3 e4 e5 e6), (aI g e5 36 co2), (oX4 h0 q0 q1 (nI k)), (aI g q0 24 (va_cpy f2 f 0 0 24)), (oX4 h2 q2 r2 (nI k)), (aI g q2 24 f2), (oX0 a0 a1), (aI g a1 3600 (va_cpy ln2 ln 0 0 (k * 30))), (oX0 a2 a3), (aI g a3 3600 ln2), (oX2 b0 b1 b2 x1 y1 r1 g1 t1), (aI g b1 4 (va_cpy fr1 fr 0 0 4)), (aI g b2 4 (va_cpy fh1 fh 0 0 4)), (oX2 d0 d1 d2 x1 y1 r1 g1 t1), (aI g d1 4 fr1), (aI g d2 4 fh1)] := hD
  refine lv_aload_n hx hb dX8_take_40 rfl (lv_at hl 0 rfl) ?_
  refine va_get (v := .ref e0) (T := TX8) (N := 4) hx hb hts inX8 hown hK hP 0 rfl rfl 3 (by decide) f33 (fun _ h9 => h9) rfl dX8_take_41 ?_
  refine lv_aload_n hx hb dX8_take_44 rfl (lv_at hl 1 rfl) ?_
  refine va_get (v := .ref e4) (T := TX8) (N := 4) hx hb hts inX8 hown hK hP 3 rfl rfl 3 (by decide) f33 (fun _ h9 => h9) rfl dX8_take_45 ?_
  refine he_cv (wc := [(oX3 e0 e1 e2), (aI g e1 36 co), (oX3 e4 e5 e6), (aI g e5 36 co2)]) (wr := [(oX8 s0 h0 a0 b0 e0), (oX8 s2 h2 a2 d0 e4), (oX4 h0 q0 q1 (nI k)), (aI g q0 24 (va_cpy f2 f 0 0 24)), (oX4 h2 q2 r2 (nI k)), (aI g q2 24 f2), (oX0 a0 a1), (aI g a1 3600 (va_cpy ln2 ln 0 0 (k * 30))), (oX0 a2 a3), (aI g a3 3600 ln2), (oX2 b0 b1 b2 x1 y1 r1 g1 t1), (aI g b1 4 (va_cpy fr1 fr 0 0 4)), (aI g b2 4 (va_cpy fh1 fh 0 0 4)), (oX2 d0 d1 d2 x1 y1 r1 g1 t1), (aI g d1 4 fr1), (aI g d2 4 fh1)]) (va_runV (As := [.ref e4]) (rest := []) ⟨hx, hb, hml, hown, hts⟩ (c_X3_take l g e0 e1 e2 co e4 e5 e6 co2 H.size) (cwV 1 hts gX8_take_X3_take rfl rfl rfl (by decide +kernel) ⟨Nat.le_of_ble_eq_true rfl, Nat.le_of_ble_eq_true rfl⟩) (he_preV (wc := [(oX3 e0 e1 e2), (aI g e1 36 co), (oX3 e4 e5 e6), (aI g e5 36 co2)]) hK hP hD hS hA hE [1, 2, 4, 5] rfl rfl 1 rfl rfl) rfl rfl hl.1 rfl (lv_room (Nat.le_of_ble_eq_true rfl)) dX8_take_48 ⟨(Nat.le_of_ble_eq_true rfl), (Nat.le_of_ble_eq_true rfl)⟩) hP hD hS hA [1, 2, 4, 5] [0, 3, 6, 7, 8, 9, 10, 11, 12, 13, 14, 15, 16, 17, 18, 19] rfl rfl rfl (by decide) (fun u_11 H locs h_12 hP hD hS => ?_)
  have hP : va_P g.1 vwCl [(oX8 s0 h0 a0 b0 e0), (oX8 s2 h2 a2 d0 e4), (oX4 h0 q0 q1 (nI k)), (aI g q0 24 (va_cpy f2 f 0 0 24)), (oX4 h2 q2 r2 (nI k)), (aI g q2 24 f2), (oX0 a0 a1), (aI g a1 3600 (va_cpy ln2 ln 0 0 (k * 30))), (oX0 a2 a3), (aI g a3 3600 ln2), (oX2 b0 b1 b2 x1 y1 r1 g1 t1), (aI g b1 4 (va_cpy fr1 fr 0 0 4)), (aI g b2 4 (va_cpy fh1 fh 0 0 4)), (oX2 d0 d1 d2 x1 y1 r1 g1 t1), (aI g d1 4 fr1), (aI g d2 4 fh1), (oX3 e0 e1 e2), (aI g e1 36 (va_cpy co2 co 0 0 36)), (oX3 e4 e5 e6), (aI g e5 36 co2)] H := hP
  have hD : va_D A [(oX8 s0 h0 a0 b0 e0), (oX8 s2 h2 a2 d0 e4), (oX4 h0 q0 q1 (nI k)), (aI g q0 24 (va_cpy f2 f 0 0 24)), (oX4 h2 q2 r2 (nI k)), (aI g q2 24 f2), (oX0 a0 a1), (aI g a1 3600 (va_cpy ln2 ln 0 0 (k * 30))), (oX0 a2 a3), (aI g a3 3600 ln2), (oX2 b0 b1 b2 x1 y1 r1 g1 t1), (aI g b1 4 (va_cpy fr1 fr 0 0 4)), (aI g b2 4 (va_cpy fh1 fh 0 0 4)), (oX2 d0 d1 d2 x1 y1 r1 g1 t1), (aI g d1 4 fr1), (aI g d2 4 fh1), (oX3 e0 e1 e2), (aI g e1 36 (va_cpy co2 co 0 0 36)), (oX3 e4 e5 e6), (aI g e5 36 co2)] := hD
  have hP := hP.sub (ws' := [(oX8 s0 h0 a0 b0 e0), (oX4 h0 q0 q1 (nI k)), (aI g q0 24 (va_cpy f2 f 0 0 24)), (oX0 a0 a1), (aI g a1 3600 (va_cpy ln2 ln 0 0 (k * 30))), (oX2 b0 b1 b2 x1 y1 r1 g1 t1), (aI g b1 4 (va_cpy fr1 fr 0 0 4)), (aI g b2 4 (va_cpy fh1 fh 0 0 4)), (oX3 e0 e1 e2), (aI g e1 36 (va_cpy co2 co 0 0 36)), (oX8 s2 h2 a2 d0 e4), (oX4 h2 q2 r2 (nI k)), (aI g q2 24 f2), (oX0 a2 a3), (aI g a3 3600 ln2), (oX2 d0 d1 d2 x1 y1 r1 g1 t1), (aI g d1 4 fr1), (aI g d2 4 fh1), (oX3 e4 e5 e6), (aI g e5 36 co2)]) [0, 2, 3, 6, 7, 10, 11, 12, 16, 17, 1, 4, 5, 8, 9, 13, 14, 15, 18, 19] rfl
  have hD := hD.sub (ws' := [(oX8 s0 h0 a0 b0 e0), (oX4 h0 q0 q1 (nI k)), (aI g q0 24 (va_cpy f2 f 0 0 24)), (oX0 a0 a1), (aI g a1 3600 (va_cpy ln2 ln 0 0 (k * 30))), (oX2 b0 b1 b2 x1 y1 r1 g1 t1), (aI g b1 4 (va_cpy fr1 fr 0 0 4)), (aI g b2 4 (va_cpy fh1 fh 0 0 4)), (oX3 e0 e1 e2), (aI g e1 36 (va_cpy co2 co 0 0 36)), (oX8 s2 h2 a2 d0 e4), (oX4 h2 q2 r2 (nI k)), (aI g q2 24 f2), (oX0 a2 a3), (aI g a3 3600 ln2), (oX2 d0 d1 d2 x1 y1 r1 g1 t1), (aI g d1 4 fr1), (aI g d2 4 fh1), (oX3 e4 e5 e6), (aI g e5 36 co2)]) [0, 2, 3, 6, 7, 10, 11, 12, 16, 17, 1, 4, 5, 8, 9, 13, 14, 15, 18, 19] (by decide) rfl
  exact he_rv hQ hx hb hr hlk hP hD hS dX8_take_51 (Nat.le_of_ble_eq_true rfl) (Nat.le_of_ble_eq_true rfl) (()) (rfl) (trivial)
set_option maxHeartbeats 4000000 in
set_option maxRecDepth 100000 in
theorem c_X10_demand1 (l : Launch) (g : he_G) (x0 : Nat)  : he_V l yX10_demand wsX10_demand 0 0 0 0 g [.ref x0, .int 1] [] (fun (u : Unit) => True) (fun (u : Unit) => []) := by
  refine he_begin (l := l) (g := g) (y := yX10_demand) (wl := wsX10_demand) (fr := 0) (lo := 0) (mc := 0) (ms := 0) (av := [.ref x0, .int 1]) (ws := []) (cc := cX10_demand) (maxL := 2) (ret := none) (fun A => va_Qv (fun (u : Unit) => True) (fun u t => he_post g A ((fun (u : Unit) => []) u) t) A) (by decide) rfl (Nat.le_of_ble_eq_true rfl) ?_
  intro p e s m args below meth c A ls H locs Q hQ hB
  obtain ⟨hx, hb, hr, hml, hown, hts, hlk, hin, hP, hK, hD, hS, hA, hE, hl⟩ := hB
  have hl : lv_has ls 2 [(0, .ref x0), (1, .int 1)] := hl
  refine lv_iload_n hx hb dX10_demand_0 rfl (lv_at hl 1 rfl) ?_
  refine lv_if_ne (tgt := 24) hx hb dX10_demand_1 (by decide) (fun c_1 => ?_) (fun c_1 => ?_)
  · exact he_rv hQ hx hb hr hlk hP hD hS dX10_demand_24 (Nat.le_of_ble_eq_true rfl) (Nat.le_of_ble_eq_true rfl) (()) (rfl) (trivial)
  · exact absurd c_1 (by decide)
