section
def mfF (i j : Nat) : Int32 := if i = 0 ∨ j = 0 ∨ i = j then 1 else 0
theorem he_down {i : Nat} {x : Int32} (hm : x = nI i - 1) (h : ¬ x < 0) : ∃ k, i = k + 1 ∧ x = nI k := by
  cases i with
  | zero => subst hm; exact absurd (by decide) h
  | succ k => exact ⟨k, rfl, by rw [hm, nI_pred]⟩
theorem he_dec (k : Nat) : nI k + (-1) = nI k - 1 := by rw [Int32.sub_eq_add_neg]
theorem he_within_1 {x a b : Int32} (h : ¬ he_within x a b = 0) : he_within x a b = 1 := by
  unfold he_within at h ⊢
  by_cases h1 : x < a
  · simp [h1] at h
  · by_cases h2 : b < x
    · simp [h1, h2] at h
    · rw [if_neg h1, if_neg h2]
theorem upd_s {f : Nat → Int32} {k : Nat} {x : Int32} : upd f k x k = x := by simp [upd]
theorem upd_n {f : Nat → Int32} {k j : Nat} {x : Int32} (h : j ≠ k) : upd f k x j = f j := by simp [upd, h]
theorem mvF_n (f : Nat → Int32) (i j k : Nat) (d : Int32) (h1 : k ≠ i) (h2 : k ≠ j) : mvF f i j d k = f k := by unfold mvF; rw [upd_n h2, upd_n h1]
theorem dsF_n (f : Nat → Int32) (k : Nat) (d : Int32) (h1 : k ≠ 3) (h2 : k ≠ 4) : dsF f d k = f k := by
  unfold dsF mnF
  split
  · rw [upd_n h1, upd_n h2]
  · rw [upd_n h2, upd_n h1]
theorem mendF_n (sd st me f : Nat → Int32) (k : Nat) (h0 : k ≠ 0) (h2 : k ≠ 2) (hk : k < 12) : ∀ w, mendF sd st me f w k = f k
  | 0 => rfl
  | w + 1 => by rw [mendF_s, mendS, mvF_n _ _ _ _ _ h0 h2, upd_n (by omega), mendF_n sd st me f k h0 h2 hk w]
theorem fcF_10 (f : Nat → Int32) (c m : Int32) : fcF f c m 10 = c := by unfold fcF; rw [upd_n (by decide), upd_s]
set_option maxHeartbeats 4000000 in
set_option maxRecDepth 100000 in
theorem c_X0_keep (l : Launch) (g : he_G) (a0 : Nat) (a1 : Nat) (ln : Nat → Int32) (h0 : Nat) (q0 : Nat) (q1 : Nat) (k : Nat) (f : Nat → Int32) (hk : k < 120) : he_V l yX0_keep wsX0_keep 1 22 0 0 g [.ref a0, .ref h0] [(oX0 a0 a1), (aI g a1 3600 ln), (oX4 h0 q0 q1 (nI k)), (aI g q0 24 f)] (fun (u : Unit) => True) (fun (u : Unit) => [(oX0 a0 a1), (aI g a1 3600 (va_cpy f ln 0 (k * 30) 24)), (oX4 h0 q0 q1 (nI k)), (aI g q0 24 f)]) := by
  refine he_begin (l := l) (g := g) (y := yX0_keep) (wl := wsX0_keep) (fr := 1) (lo := 22) (mc := 0) (ms := 0) (av := [.ref a0, .ref h0]) (ws := [(oX0 a0 a1), (aI g a1 3600 ln), (oX4 h0 q0 q1 (nI k)), (aI g q0 24 f)]) (cc := cX0_keep) (maxL := 2) (ret := none) (fun A => va_Qv (fun (u : Unit) => True) (fun u t => he_post g A ((fun (u : Unit) => [(oX0 a0 a1), (aI g a1 3600 (va_cpy f ln 0 (k * 30) 24)), (oX4 h0 q0 q1 (nI k)), (aI g q0 24 f)]) u) t) A) (by decide) rfl (Nat.le_of_ble_eq_true rfl) ?_
  intro p e s m args below meth c A ls H locs Q hQ hB
  obtain ⟨hx, hb, hr, hml, hown, hts, hlk, hin, hP, hK, hD, hS, hA, hE, hl⟩ := hB
  have hl : lv_has ls 2 [(0, .ref a0), (1, .ref h0)] := hl
  have f15 := hts (.fieldLink RX0 15 "HiredEnemy$Course" "month" "I") (iwoX0_keep (k := 0) rfl)
  have inX4 : ∀ w ∈ wsX40, w ∈ wsX0_keep := innX0_keep_X4
  have nl21 := hE.nest (RX0, 21, yX10_within) (by decide +kernel)
  have iniX10 := hts (.initialized RX10) (iwoX0_keep (k := 8) rfl)
  have st_yX10_within := hts (.static yX10_within) (iwoX0_keep (k := 7) rfl)
  have f25 := hts (.fieldLink RX0 25 "HiredEnemy$Course" "now" "[I") (iwoX0_keep (k := 1) rfl)
  have f11 := hts (.fieldLink RX0 11 "HiredEnemy$Annals" "lines" "[I") (iwoX0_keep (k := 2) rfl)
  have inX0 : ∀ w ∈ wsX00, w ∈ wsX0_keep := innX0_keep_X0
  have al28 := hts (.methodLink RX0 28 arraycopyName) (iwoX0_keep (k := 3) rfl)
  have an := hts (.native arraycopyName) (iwoX0_keep (k := 4) rfl)
  have ast := hts (.static arraycopyName) (iwoX0_keep (k := 5) rfl)
  have ai := hts (.initialized "java/lang/System") (iwoX0_keep (k := 6) rfl)
  refine lv_aload_n hx hb dX0_keep_0 rfl (lv_at hl 1 rfl) ?_
  refine va_get (v := .int (nI k)) (T := TX4) (N := 3) hx hb hts inX4 hown hK hP 2 rfl rfl 2 (by decide) f15 (fun _ h9 => h9) rfl dX0_keep_1 ?_
  refine lv_iconst (v := 0) hx hb dX0_keep_4 (by decide) ?_
  refine lv_bipush (v := 119) hx hb dX0_keep_5 (by decide) ?_
  refine he_ci (wc := []) (wr := [(oX0 a0 a1), (aI g a1 3600 ln), (oX4 h0 q0 q1 (nI k)), (aI g q0 24 f)]) (va_runSN (As := [.int (nI k), .int 0, .int 119]) (rest := []) ⟨hx, hb, hml, hown, hts⟩ (c_X10_within l g (nI k) 0 119 H.size) ⟨(va_cnB 3 hts gX0_keep_X10_within_n21 rfl rfl rfl nl21 iniX10 (by decide +kernel) ⟨Nat.le_of_ble_eq_true rfl, Nat.le_of_ble_eq_true rfl⟩), st_yX10_within, trivial⟩ (he_preS (wc := []) hK hP hD hS hA hE [] rfl rfl) rfl rfl hl.1 rfl (lv_room (Nat.le_of_ble_eq_true rfl)) dX0_keep_7 ⟨(Nat.le_of_ble_eq_true rfl), (Nat.le_of_ble_eq_true rfl)⟩) hP hD hS hA [] [0, 1, 2, 3] rfl rfl rfl (by decide) (fun r_1 u_2 H locs h_3 hP hD hS => ?_)
  subst h_3
  have hP : va_P g.1 vwCl [(oX0 a0 a1), (aI g a1 3600 ln), (oX4 h0 q0 q1 (nI k)), (aI g q0 24 f)] H := hP
  have hD : va_D A [(oX0 a0 a1), (aI g a1 3600 ln), (oX4 h0 q0 q1 (nI k)), (aI g q0 24 f)] := hD
  refine he_top (1) (he_within_in (a0 := 0) (B := 119) rfl rfl (by omega) (by omega) (by decide)) ?_
  refine lv_if_eq (tgt := 34) hx hb dX0_keep_10 (by decide) (fun c_4 => ?_) (fun c_4 => ?_)
  · exact absurd c_4 (by decide)
  · refine lv_aload_n hx hb dX0_keep_13 rfl (lv_at hl 1 rfl) ?_
    refine va_get (v := .ref q0) (T := TX4) (N := 3) hx hb hts inX4 hown hK hP 2 rfl rfl 0 (by decide) f25 (fun _ h9 => h9) rfl dX0_keep_14 ?_
    refine lv_iconst (v := 0) hx hb dX0_keep_17 (by decide) ?_
    refine lv_aload_n hx hb dX0_keep_18 rfl (lv_at hl 0 rfl) ?_
    refine va_get (v := .ref a1) (T := TX0) (N := 1) hx hb hts inX0 hown hK hP 0 rfl rfl 0 (by decide) f11 (fun _ h9 => h9) rfl dX0_keep_19 ?_
    refine lv_aload_n hx hb dX0_keep_22 rfl (lv_at hl 1 rfl) ?_
    refine va_get (v := .int (nI k)) (T := TX4) (N := 3) hx hb hts inX4 hown hK hP 2 rfl rfl 2 (by decide) f15 (fun _ h9 => h9) rfl dX0_keep_23 ?_
    refine lv_bipush (v := 30) hx hb dX0_keep_26 (by decide) ?_
    refine lv_imul hx hb dX0_keep_28 ?_
    refine he_top (nI (k * 30)) (pk_mul k 30) ?_
    refine lv_bipush (v := 24) hx hb dX0_keep_29 (by decide) ?_
    refine he_copy hx hb (by rw [hml]; exact hl.1.symm) hown al28 an ast ai hK hP hD hS 3 1 rfl rfl (0) (k * 30) (24) (by decide) rfl (by decide) (by first | decide | omega) (by first | decide | omega) (by decide) (by decide) (Nat.le_of_ble_eq_true rfl) (Nat.le_of_ble_eq_true rfl) dX0_keep_31 (fun H locs hP hD hS => ?_)
    have hP : va_P g.1 vwCl [(oX0 a0 a1), (aI g a1 3600 (va_cpy f ln 0 (k * 30) 24)), (oX4 h0 q0 q1 (nI k)), (aI g q0 24 f)] H := hP
    have hD : va_D A [(oX0 a0 a1), (aI g a1 3600 (va_cpy f ln 0 (k * 30) 24)), (oX4 h0 q0 q1 (nI k)), (aI g q0 24 f)] := hD
    exact he_rv hQ hx hb hr hlk hP hD hS dX0_keep_34 (Nat.le_of_ble_eq_true rfl) (Nat.le_of_ble_eq_true rfl) (()) (rfl) (trivial)
set_option maxHeartbeats 4000000 in
set_option maxRecDepth 100000 in
theorem c_X0_lead (l : Launch) (g : he_G) (a0 : Nat) (a1 : Nat) (ln : Nat → Int32) (h0 : Nat) (q0 : Nat) (q1 : Nat) (k : Nat) (sh : Nat → Int32) (hk : k < 120) : he_V l yX0_lead wsX0_lead 1 22 0 0 g [.ref a0, .ref h0] [(oX0 a0 a1), (aI g a1 3600 ln), (oX4 h0 q0 q1 (nI (k + 1))), (aI g q1 6 sh)] (fun (u : Unit) => True) (fun (u : Unit) => [(oX0 a0 a1), (aI g a1 3600 (va_cpy sh ln 0 (k * 30 + 24) 6)), (oX4 h0 q0 q1 (nI (k + 1))), (aI g q1 6 sh)]) := by
  refine he_begin (l := l) (g := g) (y := yX0_lead) (wl := wsX0_lead) (fr := 1) (lo := 22) (mc := 0) (ms := 0) (av := [.ref a0, .ref h0]) (ws := [(oX0 a0 a1), (aI g a1 3600 ln), (oX4 h0 q0 q1 (nI (k + 1))), (aI g q1 6 sh)]) (cc := cX0_lead) (maxL := 2) (ret := none) (fun A => va_Qv (fun (u : Unit) => True) (fun u t => he_post g A ((fun (u : Unit) => [(oX0 a0 a1), (aI g a1 3600 (va_cpy sh ln 0 (k * 30 + 24) 6)), (oX4 h0 q0 q1 (nI (k + 1))), (aI g q1 6 sh)]) u) t) A) (by decide) rfl (Nat.le_of_ble_eq_true rfl) ?_
  intro p e s m args below meth c A ls H locs Q hQ hB
  obtain ⟨hx, hb, hr, hml, hown, hts, hlk, hin, hP, hK, hD, hS, hA, hE, hl⟩ := hB
  have hl : lv_has ls 2 [(0, .ref a0), (1, .ref h0)] := hl
  have f15 := hts (.fieldLink RX0 15 "HiredEnemy$Course" "month" "I") (iwoX0_lead (k := 0) rfl)
  have inX4 : ∀ w ∈ wsX40, w ∈ wsX0_lead := innX0_lead_X4
  have nl21 := hE.nest (RX0, 21, yX10_within) (by decide +kernel)
  have iniX10 := hts (.initialized RX10) (iwoX0_lead (k := 8) rfl)
  have st_yX10_within := hts (.static yX10_within) (iwoX0_lead (k := 7) rfl)
  have f34 := hts (.fieldLink RX0 34 "HiredEnemy$Course" "shot" "[I") (iwoX0_lead (k := 1) rfl)
  have f11 := hts (.fieldLink RX0 11 "HiredEnemy$Annals" "lines" "[I") (iwoX0_lead (k := 2) rfl)
  have inX0 : ∀ w ∈ wsX00, w ∈ wsX0_lead := innX0_lead_X0
  have al28 := hts (.methodLink RX0 28 arraycopyName) (iwoX0_lead (k := 3) rfl)
  have an := hts (.native arraycopyName) (iwoX0_lead (k := 4) rfl)
  have ast := hts (.static arraycopyName) (iwoX0_lead (k := 5) rfl)
  have ai := hts (.initialized "java/lang/System") (iwoX0_lead (k := 6) rfl)
  refine lv_aload_n hx hb dX0_lead_0 rfl (lv_at hl 1 rfl) ?_
  refine va_get (v := .int (nI (k + 1))) (T := TX4) (N := 3) hx hb hts inX4 hown hK hP 2 rfl rfl 2 (by decide) f15 (fun _ h9 => h9) rfl dX0_lead_1 ?_
  refine lv_iconst (v := 1) hx hb dX0_lead_4 (by decide) ?_
  refine lv_bipush (v := 120) hx hb dX0_lead_5 (by decide) ?_
  refine he_ci (wc := []) (wr := [(oX0 a0 a1), (aI g a1 3600 ln), (oX4 h0 q0 q1 (nI (k + 1))), (aI g q1 6 sh)]) (va_runSN (As := [.int (nI (k + 1)), .int 1, .int 120]) (rest := []) ⟨hx, hb, hml, hown, hts⟩ (c_X10_within l g (nI (k + 1)) 1 120 H.size) ⟨(va_cnB 3 hts gX0_lead_X10_within_n21 rfl rfl rfl nl21 iniX10 (by decide +kernel) ⟨Nat.le_of_ble_eq_true rfl, Nat.le_of_ble_eq_true rfl⟩), st_yX10_within, trivial⟩ (he_preS (wc := []) hK hP hD hS hA hE [] rfl rfl) rfl rfl hl.1 rfl (lv_room (Nat.le_of_ble_eq_true rfl)) dX0_lead_7 ⟨(Nat.le_of_ble_eq_true rfl), (Nat.le_of_ble_eq_true rfl)⟩) hP hD hS hA [] [0, 1, 2, 3] rfl rfl rfl (by decide) (fun r_1 u_2 H locs h_3 hP hD hS => ?_)
  subst h_3
  have hP : va_P g.1 vwCl [(oX0 a0 a1), (aI g a1 3600 ln), (oX4 h0 q0 q1 (nI (k + 1))), (aI g q1 6 sh)] H := hP
  have hD : va_D A [(oX0 a0 a1), (aI g a1 3600 ln), (oX4 h0 q0 q1 (nI (k + 1))), (aI g q1 6 sh)] := hD
  refine he_top (1) (he_within_in (a0 := 1) (B := 120) rfl rfl (by omega) (by omega) (by decide)) ?_
  refine lv_if_eq (tgt := 39) hx hb dX0_lead_10 (by decide) (fun c_4 => ?_) (fun c_4 => ?_)
  · exact absurd c_4 (by decide)
  · refine lv_aload_n hx hb dX0_lead_13 rfl (lv_at hl 1 rfl) ?_
    refine va_get (v := .ref q1) (T := TX4) (N := 3) hx hb hts inX4 hown hK hP 2 rfl rfl 1 (by decide) f34 (fun _ h9 => h9) rfl dX0_lead_14 ?_
    refine lv_iconst (v := 0) hx hb dX0_lead_17 (by decide) ?_
    refine lv_aload_n hx hb dX0_lead_18 rfl (lv_at hl 0 rfl) ?_
    refine va_get (v := .ref a1) (T := TX0) (N := 1) hx hb hts inX0 hown hK hP 0 rfl rfl 0 (by decide) f11 (fun _ h9 => h9) rfl dX0_lead_19 ?_
    refine lv_aload_n hx hb dX0_lead_22 rfl (lv_at hl 1 rfl) ?_
    refine va_get (v := .int (nI (k + 1))) (T := TX4) (N := 3) hx hb hts inX4 hown hK hP 2 rfl rfl 2 (by decide) f15 (fun _ h9 => h9) rfl dX0_lead_23 ?_
    refine lv_iconst (v := 1) hx hb dX0_lead_26 (by decide) ?_
    refine lv_isub hx hb dX0_lead_27 ?_
    refine he_top (nI k) (nI_pred k) ?_
    refine lv_bipush (v := 30) hx hb dX0_lead_28 (by decide) ?_
    refine lv_imul hx hb dX0_lead_30 ?_
    refine he_top (nI (k * 30)) (pk_mul k 30) ?_
    refine lv_bipush (v := 24) hx hb dX0_lead_31 (by decide) ?_
    refine lv_iadd hx hb dX0_lead_33 ?_
    refine he_top (nI (k * 30 + 24)) (nI_add (k * 30) 24) ?_
    refine lv_bipush (v := 6) hx hb dX0_lead_34 (by decide) ?_
    refine he_copy hx hb (by rw [hml]; exact hl.1.symm) hown al28 an ast ai hK hP hD hS 3 1 rfl rfl (0) (k * 30 + 24) (6) (by decide) rfl (by decide) (by first | decide | omega) (by first | decide | omega) (by decide) (by decide) (Nat.le_of_ble_eq_true rfl) (Nat.le_of_ble_eq_true rfl) dX0_lead_36 (fun H locs hP hD hS => ?_)
    have hP : va_P g.1 vwCl [(oX0 a0 a1), (aI g a1 3600 (va_cpy sh ln 0 (k * 30 + 24) 6)), (oX4 h0 q0 q1 (nI (k + 1))), (aI g q1 6 sh)] H := hP
    have hD : va_D A [(oX0 a0 a1), (aI g a1 3600 (va_cpy sh ln 0 (k * 30 + 24) 6)), (oX4 h0 q0 q1 (nI (k + 1))), (aI g q1 6 sh)] := hD
    exact he_rv hQ hx hb hr hlk hP hD hS dX0_lead_39 (Nat.le_of_ble_eq_true rfl) (Nat.le_of_ble_eq_true rfl) (()) (rfl) (trivial)
set_option maxHeartbeats 4000000 in
set_option maxRecDepth 100000 in
theorem c_X0_take (l : Launch) (g : he_G) (a0 : Nat) (a1 : Nat) (ln : Nat → Int32) (b0 : Nat) (b1 : Nat) (ln1 : Nat → Int32) (k : Nat) (hk : k ≤ 120) : he_V l yX0_take wsX0_take 1 22 0 0 g [.ref a0, .ref b0, .int (nI k)] [(oX0 a0 a1), (aI g a1 3600 ln), (oX0 b0 b1), (aI g b1 3600 ln1)] (fun (u : Unit) => True) (fun (u : Unit) => [(oX0 a0 a1), (aI g a1 3600 (va_cpy ln1 ln 0 0 (k * 30))), (oX0 b0 b1), (aI g b1 3600 ln1)]) := by
  refine he_begin (l := l) (g := g) (y := yX0_take) (wl := wsX0_take) (fr := 1) (lo := 22) (mc := 0) (ms := 0) (av := [.ref a0, .ref b0, .int (nI k)]) (ws := [(oX0 a0 a1), (aI g a1 3600 ln), (oX0 b0 b1), (aI g b1 3600 ln1)]) (cc := cX0_take) (maxL := 3) (ret := none) (fun A => va_Qv (fun (u : Unit) => True) (fun u t => he_post g A ((fun (u : Unit) => [(oX0 a0 a1), (aI g a1 3600 (va_cpy ln1 ln 0 0 (k * 30))), (oX0 b0 b1), (aI g b1 3600 ln1)]) u) t) A) (by decide) rfl (Nat.le_of_ble_eq_true rfl) ?_
  intro p e s m args below meth c A ls H locs Q hQ hB
  obtain ⟨hx, hb, hr, hml, hown, hts, hlk, hin, hP, hK, hD, hS, hA, hE, hl⟩ := hB
  have hl : lv_has ls 3 [(0, .ref a0), (1, .ref b0), (2, .int (nI k))] := hl
  have nl21 := hE.nest (RX0, 21, yX10_within) (by decide +kernel)
  have iniX10 := hts (.initialized RX10) (iwoX0_take (k := 6) rfl)
  have st_yX10_within := hts (.static yX10_within) (iwoX0_take (k := 5) rfl)
  have f11 := hts (.fieldLink RX0 11 "HiredEnemy$Annals" "lines" "[I") (iwoX0_take (k := 0) rfl)
  have inX0 : ∀ w ∈ wsX00, w ∈ wsX0_take := innX0_take_X0
  have al28 := hts (.methodLink RX0 28 arraycopyName) (iwoX0_take (k := 1) rfl)
  have an := hts (.native arraycopyName) (iwoX0_take (k := 2) rfl)
  have ast := hts (.static arraycopyName) (iwoX0_take (k := 3) rfl)
  have ai := hts (.initialized "java/lang/System") (iwoX0_take (k := 4) rfl)
  refine lv_iload_n hx hb dX0_take_0 rfl (lv_at hl 2 rfl) ?_
  refine lv_iconst (v := 0) hx hb dX0_take_1 (by decide) ?_
  refine lv_bipush (v := 120) hx hb dX0_take_2 (by decide) ?_
  refine he_ci (wc := []) (wr := [(oX0 a0 a1), (aI g a1 3600 ln), (oX0 b0 b1), (aI g b1 3600 ln1)]) (va_runSN (As := [.int (nI k), .int 0, .int 120]) (rest := []) ⟨hx, hb, hml, hown, hts⟩ (c_X10_within l g (nI k) 0 120 H.size) ⟨(va_cnB 3 hts gX0_take_X10_within_n21 rfl rfl rfl nl21 iniX10 (by decide +kernel) ⟨Nat.le_of_ble_eq_true rfl, Nat.le_of_ble_eq_true rfl⟩), st_yX10_within, trivial⟩ (he_preS (wc := []) hK hP hD hS hA hE [] rfl rfl) rfl rfl hl.1 rfl (lv_room (Nat.le_of_ble_eq_true rfl)) dX0_take_4 ⟨(Nat.le_of_ble_eq_true rfl), (Nat.le_of_ble_eq_true rfl)⟩) hP hD hS hA [] [0, 1, 2, 3] rfl rfl rfl (by decide) (fun r_1 u_2 H locs h_3 hP hD hS => ?_)
  subst h_3
  have hP : va_P g.1 vwCl [(oX0 a0 a1), (aI g a1 3600 ln), (oX0 b0 b1), (aI g b1 3600 ln1)] H := hP
  have hD : va_D A [(oX0 a0 a1), (aI g a1 3600 ln), (oX0 b0 b1), (aI g b1 3600 ln1)] := hD
  refine he_top (1) (he_within_in (a0 := 0) (B := 120) rfl rfl (by omega) (by omega) (by decide)) ?_
  refine lv_if_eq (tgt := 27) hx hb dX0_take_7 (by decide) (fun c_4 => ?_) (fun c_4 => ?_)
  · exact absurd c_4 (by decide)
  · refine lv_aload_n hx hb dX0_take_10 rfl (lv_at hl 1 rfl) ?_
    refine va_get (v := .ref b1) (T := TX0) (N := 1) hx hb hts inX0 hown hK hP 2 rfl rfl 0 (by decide) f11 (fun _ h9 => h9) rfl dX0_take_11 ?_
    refine lv_iconst (v := 0) hx hb dX0_take_14 (by decide) ?_
    refine lv_aload_n hx hb dX0_take_15 rfl (lv_at hl 0 rfl) ?_
    refine va_get (v := .ref a1) (T := TX0) (N := 1) hx hb hts inX0 hown hK hP 0 rfl rfl 0 (by decide) f11 (fun _ h9 => h9) rfl dX0_take_16 ?_
    refine lv_iconst (v := 0) hx hb dX0_take_19 (by decide) ?_
    refine lv_iload_n hx hb dX0_take_20 rfl (lv_at hl 2 rfl) ?_
    refine lv_bipush (v := 30) hx hb dX0_take_21 (by decide) ?_
    refine lv_imul hx hb dX0_take_23 ?_
    refine he_top (nI (k * 30)) (pk_mul k 30) ?_
    refine he_copy hx hb (by rw [hml]; exact hl.1.symm) hown al28 an ast ai hK hP hD hS 3 1 rfl rfl (0) (0) (k * 30) (by decide) (by decide) rfl (by first | decide | omega) (by first | decide | omega) (by decide) (by decide) (Nat.le_of_ble_eq_true rfl) (Nat.le_of_ble_eq_true rfl) dX0_take_24 (fun H locs hP hD hS => ?_)
    have hP : va_P g.1 vwCl [(oX0 a0 a1), (aI g a1 3600 (va_cpy ln1 ln 0 0 (k * 30))), (oX0 b0 b1), (aI g b1 3600 ln1)] H := hP
    have hD : va_D A [(oX0 a0 a1), (aI g a1 3600 (va_cpy ln1 ln 0 0 (k * 30))), (oX0 b0 b1), (aI g b1 3600 ln1)] := hD
    exact he_rv hQ hx hb hr hlk hP hD hS dX0_take_27 (Nat.le_of_ble_eq_true rfl) (Nat.le_of_ble_eq_true rfl) (()) (rfl) (trivial)
set_option maxHeartbeats 4000000 in
set_option maxRecDepth 100000 in
theorem c_X2_forget (l : Launch) (g : he_G) (b0 : Nat) (b1 : Nat) (b2 : Nat) (x : Int32) (y : Int32) (rl : Int64) (hd : Int64) (th : Int32)  : he_V l yX2_forget wsX2_forget 0 0 0 0 g [.ref b0] [(oX2 b0 b1 b2 x y rl hd th)] (fun (u : Unit) => True) (fun (u : Unit) => [(oX2 b0 b1 b2 x y (Int32.toInt64 x) (Int32.toInt64 y) 0)]) := by
  refine he_begin (l := l) (g := g) (y := yX2_forget) (wl := wsX2_forget) (fr := 0) (lo := 0) (mc := 0) (ms := 0) (av := [.ref b0]) (ws := [(oX2 b0 b1 b2 x y rl hd th)]) (cc := cX2_forget) (maxL := 1) (ret := none) (fun A => va_Qv (fun (u : Unit) => True) (fun u t => he_post g A ((fun (u : Unit) => [(oX2 b0 b1 b2 x y (Int32.toInt64 x) (Int32.toInt64 y) 0)]) u) t) A) (by decide) rfl (Nat.le_of_ble_eq_true rfl) ?_
  intro p e s m args below meth c A ls H locs Q hQ hB
  obtain ⟨hx, hb, hr, hml, hown, hts, hlk, hin, hP, hK, hD, hS, hA, hE, hl⟩ := hB
  have hl : lv_has ls 1 [(0, .ref b0)] := hl
  have f16 := hts (.fieldLink RX2 16 "HiredEnemy$Belief" "firstReal" "I") (iwoX2_forget (k := 0) rfl)
  have inX2 : ∀ w ∈ wsX20, w ∈ wsX2_forget := innX2_forget_X2
  have f23 := hts (.fieldLink RX2 23 "HiredEnemy$Belief" "real" "J") (iwoX2_forget (k := 1) rfl)
  have f20 := hts (.fieldLink RX2 20 "HiredEnemy$Belief" "firstHired" "I") (iwoX2_forget (k := 2) rfl)
  have f27 := hts (.fieldLink RX2 27 "HiredEnemy$Belief" "hired" "J") (iwoX2_forget (k := 3) rfl)
  have f33 := hts (.fieldLink RX2 33 "HiredEnemy$Belief" "things" "I") (iwoX2_forget (k := 4) rfl)
  refine lv_aload_n hx hb dX2_forget_0 rfl (lv_at hl 0 rfl) ?_
  refine lv_aload_n hx hb dX2_forget_1 rfl (lv_at hl 0 rfl) ?_
  refine va_get (v := .int x) (T := TX2) (N := 7) hx hb hts inX2 hown hK hP 0 rfl rfl 2 (by decide) f16 (fun _ h9 => h9) rfl dX2_forget_2 ?_
  refine lv_i2l (v := Int32.toInt64 x) hx hb dX2_forget_5 rfl ?_
  refine va_put (v := .long (Int32.toInt64 x)) (ty := .long) (T := TX2) (N := 7) hx hb hts inX2 tyX2 tyX2_ok nmX2 hown hK hP hD hS 0 rfl rfl 4 (by decide) f23 (fun _ h9 => h9) rfl (by decide +kernel) rfl rfl (Nat.le_of_ble_eq_true rfl) dX2_forget_6 (fun H locs hP hD hS => ?_)
  have hP : va_P g.1 vwCl [(oX2 b0 b1 b2 x y (Int32.toInt64 x) hd th)] H := hP
  have hD : va_D A [(oX2 b0 b1 b2 x y (Int32.toInt64 x) hd th)] := hD
  refine lv_aload_n hx hb dX2_forget_9 rfl (lv_at hl 0 rfl) ?_
  refine lv_aload_n hx hb dX2_forget_10 rfl (lv_at hl 0 rfl) ?_
  refine va_get (v := .int y) (T := TX2) (N := 7) hx hb hts inX2 hown hK hP 0 rfl rfl 3 (by decide) f20 (fun _ h9 => h9) rfl dX2_forget_11 ?_
  refine lv_i2l (v := Int32.toInt64 y) hx hb dX2_forget_14 rfl ?_
  refine va_put (v := .long (Int32.toInt64 y)) (ty := .long) (T := TX2) (N := 7) hx hb hts inX2 tyX2 tyX2_ok nmX2 hown hK hP hD hS 0 rfl rfl 5 (by decide) f27 (fun _ h9 => h9) rfl (by decide +kernel) rfl rfl (Nat.le_of_ble_eq_true rfl) dX2_forget_15 (fun H locs hP hD hS => ?_)
  have hP : va_P g.1 vwCl [(oX2 b0 b1 b2 x y (Int32.toInt64 x) (Int32.toInt64 y) th)] H := hP
  have hD : va_D A [(oX2 b0 b1 b2 x y (Int32.toInt64 x) (Int32.toInt64 y) th)] := hD
  refine lv_aload_n hx hb dX2_forget_18 rfl (lv_at hl 0 rfl) ?_
  refine lv_iconst (v := 0) hx hb dX2_forget_19 (by decide) ?_
  refine va_put (v := .int 0) (ty := .int) (T := TX2) (N := 7) hx hb hts inX2 tyX2 tyX2_ok nmX2 hown hK hP hD hS 0 rfl rfl 6 (by decide) f33 (fun _ h9 => h9) rfl (by decide +kernel) rfl rfl (Nat.le_of_ble_eq_true rfl) dX2_forget_20 (fun H locs hP hD hS => ?_)
  have hP : va_P g.1 vwCl [(oX2 b0 b1 b2 x y (Int32.toInt64 x) (Int32.toInt64 y) 0)] H := hP
  have hD : va_D A [(oX2 b0 b1 b2 x y (Int32.toInt64 x) (Int32.toInt64 y) 0)] := hD
  exact he_rv hQ hx hb hr hlk hP hD hS dX2_forget_23 (Nat.le_of_ble_eq_true rfl) (Nat.le_of_ble_eq_true rfl) (()) (rfl) (trivial)
set_option maxHeartbeats 4000000 in
set_option maxRecDepth 100000 in
theorem c_X2_start (l : Launch) (g : he_G) (b0 : Nat) (b1 : Nat) (b2 : Nat) (x : Int32) (y : Int32) (rl : Int64) (hd : Int64) (th : Int32) (a : Int32) (b : Int32)  : he_V l yX2_start wsX2_start 1 20 0 0 g [.ref b0, .int a, .int b] [(oX2 b0 b1 b2 x y rl hd th)] (fun (u : Unit) => True) (fun (u : Unit) => [(oX2 b0 b1 b2 a b (Int32.toInt64 a) (Int32.toInt64 b) 0)]) := by
  refine he_begin (l := l) (g := g) (y := yX2_start) (wl := wsX2_start) (fr := 1) (lo := 20) (mc := 0) (ms := 0) (av := [.ref b0, .int a, .int b]) (ws := [(oX2 b0 b1 b2 x y rl hd th)]) (cc := cX2_start) (maxL := 3) (ret := none) (fun A => va_Qv (fun (u : Unit) => True) (fun u t => he_post g A ((fun (u : Unit) => [(oX2 b0 b1 b2 a b (Int32.toInt64 a) (Int32.toInt64 b) 0)]) u) t) A) (by decide) rfl (Nat.le_of_ble_eq_true rfl) ?_
  intro p e s m args below meth c A ls H locs Q hQ hB
  obtain ⟨hx, hb, hr, hml, hown, hts, hlk, hin, hP, hK, hD, hS, hA, hE, hl⟩ := hB
  have hl : lv_has ls 3 [(0, .ref b0), (1, .int a), (2, .int b)] := hl
  have f16 := hts (.fieldLink RX2 16 "HiredEnemy$Belief" "firstReal" "I") (iwoX2_start (k := 0) rfl)
  have inX2 : ∀ w ∈ wsX20, w ∈ wsX2_start := innX2_start_X2
  have f20 := hts (.fieldLink RX2 20 "HiredEnemy$Belief" "firstHired" "I") (iwoX2_start (k := 1) rfl)
  refine lv_aload_n hx hb dX2_start_0 rfl (lv_at hl 0 rfl) ?_
  refine lv_iload_n hx hb dX2_start_1 rfl (lv_at hl 1 rfl) ?_
  refine va_put (v := .int a) (ty := .int) (T := TX2) (N := 7) hx hb hts inX2 tyX2 tyX2_ok nmX2 hown hK hP hD hS 0 rfl rfl 2 (by decide) f16 (fun _ h9 => h9) rfl (by decide +kernel) rfl rfl (Nat.le_of_ble_eq_true rfl) dX2_start_2 (fun H locs hP hD hS => ?_)
  have hP : va_P g.1 vwCl [(oX2 b0 b1 b2 a y rl hd th)] H := hP
  have hD : va_D A [(oX2 b0 b1 b2 a y rl hd th)] := hD
  refine lv_aload_n hx hb dX2_start_5 rfl (lv_at hl 0 rfl) ?_
  refine lv_iload_n hx hb dX2_start_6 rfl (lv_at hl 2 rfl) ?_
  refine va_put (v := .int b) (ty := .int) (T := TX2) (N := 7) hx hb hts inX2 tyX2 tyX2_ok nmX2 hown hK hP hD hS 0 rfl rfl 3 (by decide) f20 (fun _ h9 => h9) rfl (by decide +kernel) rfl rfl (Nat.le_of_ble_eq_true rfl) dX2_start_7 (fun H locs hP hD hS => ?_)
  have hP : va_P g.1 vwCl [(oX2 b0 b1 b2 a b rl hd th)] H := hP
  have hD : va_D A [(oX2 b0 b1 b2 a b rl hd th)] := hD
  refine lv_aload_n hx hb dX2_start_10 rfl (lv_at hl 0 rfl) ?_
  refine he_cv (wc := [(oX2 b0 b1 b2 a b rl hd th)]) (wr := []) (va_runV (As := []) (rest := []) ⟨hx, hb, hml, hown, hts⟩ (c_X2_forget l g b0 b1 b2 a b rl hd th H.size) (cwV 0 hts gX2_start_X2_forget rfl rfl rfl (by decide +kernel) ⟨Nat.le_of_ble_eq_true rfl, Nat.le_of_ble_eq_true rfl⟩) (he_preV (wc := [(oX2 b0 b1 b2 a b rl hd th)]) hK hP hD hS hA hE [0] rfl rfl 0 rfl rfl) rfl rfl hl.1 rfl (lv_room (Nat.le_of_ble_eq_true rfl)) dX2_start_11 ⟨(Nat.le_of_ble_eq_true rfl), (Nat.le_of_ble_eq_true rfl)⟩) hP hD hS hA [0] [] rfl rfl rfl (by decide) (fun u_2 H locs h_3 hP hD hS => ?_)
  have hP : va_P g.1 vwCl [(oX2 b0 b1 b2 a b (Int32.toInt64 a) (Int32.toInt64 b) 0)] H := hP
  have hD : va_D A [(oX2 b0 b1 b2 a b (Int32.toInt64 a) (Int32.toInt64 b) 0)] := hD
  exact he_rv hQ hx hb hr hlk hP hD hS dX2_start_14 (Nat.le_of_ble_eq_true rfl) (Nat.le_of_ble_eq_true rfl) (()) (rfl) (trivial)
set_option maxHeartbeats 4000000 in
set_option maxRecDepth 100000 in
theorem c_X2_take (l : Launch) (g : he_G) (b0 : Nat) (b1 : Nat) (b2 : Nat) (x : Int32) (y : Int32) (rl : Int64) (hd : Int64) (th : Int32) (fr : Nat → Int32) (fh : Nat → Int32) (d0 : Nat) (d1 : Nat) (d2 : Nat) (x1 : Int32) (y1 : Int32) (r1 : Int64) (g1 : Int64) (t1 : Int32) (fr1 : Nat → Int32) (fh1 : Nat → Int32)  : he_V l yX2_take wsX2_take 1 18 0 0 g [.ref b0, .ref d0] [(oX2 b0 b1 b2 x y rl hd th), (aI g b1 4 fr), (aI g b2 4 fh), (oX2 d0 d1 d2 x1 y1 r1 g1 t1), (aI g d1 4 fr1), (aI g d2 4 fh1)] (fun (u : Unit) => True) (fun (u : Unit) => [(oX2 b0 b1 b2 x1 y1 r1 g1 t1), (aI g b1 4 (va_cpy fr1 fr 0 0 4)), (aI g b2 4 (va_cpy fh1 fh 0 0 4)), (oX2 d0 d1 d2 x1 y1 r1 g1 t1), (aI g d1 4 fr1), (aI g d2 4 fh1)]) := by
  refine he_begin (l := l) (g := g) (y := yX2_take) (wl := wsX2_take) (fr := 1) (lo := 18) (mc := 0) (ms := 0) (av := [.ref b0, .ref d0]) (ws := [(oX2 b0 b1 b2 x y rl hd th), (aI g b1 4 fr), (aI g b2 4 fh), (oX2 d0 d1 d2 x1 y1 r1 g1 t1), (aI g d1 4 fr1), (aI g d2 4 fh1)]) (cc := cX2_take) (maxL := 2) (ret := none) (fun A => va_Qv (fun (u : Unit) => True) (fun u t => he_post g A ((fun (u : Unit) => [(oX2 b0 b1 b2 x1 y1 r1 g1 t1), (aI g b1 4 (va_cpy fr1 fr 0 0 4)), (aI g b2 4 (va_cpy fh1 fh 0 0 4)), (oX2 d0 d1 d2 x1 y1 r1 g1 t1), (aI g d1 4 fr1), (aI g d2 4 fh1)]) u) t) A) (by decide) rfl (Nat.le_of_ble_eq_true rfl) ?_
  intro p e s m args below meth c A ls H locs Q hQ hB
  obtain ⟨hx, hb, hr, hml, hown, hts, hlk, hin, hP, hK, hD, hS, hA, hE, hl⟩ := hB
  have hl : lv_has ls 2 [(0, .ref b0), (1, .ref d0)] := hl
  have f7 := hts (.fieldLink RX2 7 "HiredEnemy$Belief" "ifReal" "[I") (iwoX2_take (k := 0) rfl)
  have inX2 : ∀ w ∈ wsX20, w ∈ wsX2_take := innX2_take_X2
  have al36 := hts (.methodLink RX2 36 arraycopyName) (iwoX2_take (k := 1) rfl)
  have an := hts (.native arraycopyName) (iwoX2_take (k := 2) rfl)
  have ast := hts (.static arraycopyName) (iwoX2_take (k := 3) rfl)
  have ai := hts (.initialized "java/lang/System") (iwoX2_take (k := 4) rfl)
  have f13 := hts (.fieldLink RX2 13 "HiredEnemy$Belief" "ifHired" "[I") (iwoX2_take (k := 5) rfl)
  have f16 := hts (.fieldLink RX2 16 "HiredEnemy$Belief" "firstReal" "I") (iwoX2_take (k := 6) rfl)
  have f20 := hts (.fieldLink RX2 20 "HiredEnemy$Belief" "firstHired" "I") (iwoX2_take (k := 7) rfl)
  have f23 := hts (.fieldLink RX2 23 "HiredEnemy$Belief" "real" "J") (iwoX2_take (k := 8) rfl)
  have f27 := hts (.fieldLink RX2 27 "HiredEnemy$Belief" "hired" "J") (iwoX2_take (k := 9) rfl)
  have f33 := hts (.fieldLink RX2 33 "HiredEnemy$Belief" "things" "I") (iwoX2_take (k := 10) rfl)
  refine lv_aload_n hx hb dX2_take_0 rfl (lv_at hl 1 rfl) ?_
  refine va_get (v := .ref d1) (T := TX2) (N := 7) hx hb hts inX2 hown hK hP 3 rfl rfl 0 (by decide) f7 (fun _ h9 => h9) rfl dX2_take_1 ?_
  refine lv_iconst (v := 0) hx hb dX2_take_4 (by decide) ?_
  refine lv_aload_n hx hb dX2_take_5 rfl (lv_at hl 0 rfl) ?_
  refine va_get (v := .ref b1) (T := TX2) (N := 7) hx hb hts inX2 hown hK hP 0 rfl rfl 0 (by decide) f7 (fun _ h9 => h9) rfl dX2_take_6 ?_
  refine lv_iconst (v := 0) hx hb dX2_take_9 (by decide) ?_
  refine lv_iconst (v := 4) hx hb dX2_take_10 (by decide) ?_
  refine he_copy hx hb (by rw [hml]; exact hl.1.symm) hown al36 an ast ai hK hP hD hS 4 1 rfl rfl (0) (0) (4) (by decide) (by decide) (by decide) (by first | decide | omega) (by first | decide | omega) (by decide) (by decide) (Nat.le_of_ble_eq_true rfl) (Nat.le_of_ble_eq_true rfl) dX2_take_11 (fun H locs hP hD hS => ?_)
  have hP : va_P g.1 vwCl [(oX2 b0 b1 b2 x y rl hd th), (aI g b1 4 (va_cpy fr1 fr 0 0 4)), (aI g b2 4 fh), (oX2 d0 d1 d2 x1 y1 r1 g1 t1), (aI g d1 4 fr1), (aI g d2 4 fh1)] H := hP
  have hD : va_D A [(oX2 b0 b1 b2 x y rl hd th), (aI g b1 4 (va_cpy fr1 fr 0 0 4)), (aI g b2 4 fh), (oX2 d0 d1 d2 x1 y1 r1 g1 t1), (aI g d1 4 fr1), (aI g d2 4 fh1)] := hD
  refine lv_aload_n hx hb dX2_take_14 rfl (lv_at hl 1 rfl) ?_
  refine va_get (v := .ref d2) (T := TX2) (N := 7) hx hb hts inX2 hown hK hP 3 rfl rfl 1 (by decide) f13 (fun _ h9 => h9) rfl dX2_take_15 ?_
  refine lv_iconst (v := 0) hx hb dX2_take_18 (by decide) ?_
  refine lv_aload_n hx hb dX2_take_19 rfl (lv_at hl 0 rfl) ?_
  refine va_get (v := .ref b2) (T := TX2) (N := 7) hx hb hts inX2 hown hK hP 0 rfl rfl 1 (by decide) f13 (fun _ h9 => h9) rfl dX2_take_20 ?_
  refine lv_iconst (v := 0) hx hb dX2_take_23 (by decide) ?_
  refine lv_iconst (v := 4) hx hb dX2_take_24 (by decide) ?_
  refine he_copy hx hb (by rw [hml]; exact hl.1.symm) hown al36 an ast ai hK hP hD hS 5 2 rfl rfl (0) (0) (4) (by decide) (by decide) (by decide) (by first | decide | omega) (by first | decide | omega) (by decide) (by decide) (Nat.le_of_ble_eq_true rfl) (Nat.le_of_ble_eq_true rfl) dX2_take_25 (fun H locs hP hD hS => ?_)
  have hP : va_P g.1 vwCl [(oX2 b0 b1 b2 x y rl hd th), (aI g b1 4 (va_cpy fr1 fr 0 0 4)), (aI g b2 4 (va_cpy fh1 fh 0 0 4)), (oX2 d0 d1 d2 x1 y1 r1 g1 t1), (aI g d1 4 fr1), (aI g d2 4 fh1)] H := hP
  have hD : va_D A [(oX2 b0 b1 b2 x y rl hd th), (aI g b1 4 (va_cpy fr1 fr 0 0 4)), (aI g b2 4 (va_cpy fh1 fh 0 0 4)), (oX2 d0 d1 d2 x1 y1 r1 g1 t1), (aI g d1 4 fr1), (aI g d2 4 fh1)] := hD
  refine lv_aload_n hx hb dX2_take_28 rfl (lv_at hl 0 rfl) ?_
  refine lv_aload_n hx hb dX2_take_29 rfl (lv_at hl 1 rfl) ?_
  refine va_get (v := .int x1) (T := TX2) (N := 7) hx hb hts inX2 hown hK hP 3 rfl rfl 2 (by decide) f16 (fun _ h9 => h9) rfl dX2_take_30 ?_
  refine va_put (v := .int x1) (ty := .int) (T := TX2) (N := 7) hx hb hts inX2 tyX2 tyX2_ok nmX2 hown hK hP hD hS 0 rfl rfl 2 (by decide) f16 (fun _ h9 => h9) rfl (by decide +kernel) rfl rfl (Nat.le_of_ble_eq_true rfl) dX2_take_33 (fun H locs hP hD hS => ?_)
  have hP : va_P g.1 vwCl [(oX2 b0 b1 b2 x1 y rl hd th), (aI g b1 4 (va_cpy fr1 fr 0 0 4)), (aI g b2 4 (va_cpy fh1 fh 0 0 4)), (oX2 d0 d1 d2 x1 y1 r1 g1 t1), (aI g d1 4 fr1), (aI g d2 4 fh1)] H := hP
  have hD : va_D A [(oX2 b0 b1 b2 x1 y rl hd th), (aI g b1 4 (va_cpy fr1 fr 0 0 4)), (aI g b2 4 (va_cpy fh1 fh 0 0 4)), (oX2 d0 d1 d2 x1 y1 r1 g1 t1), (aI g d1 4 fr1), (aI g d2 4 fh1)] := hD
  refine lv_aload_n hx hb dX2_take_36 rfl (lv_at hl 0 rfl) ?_
  refine lv_aload_n hx hb dX2_take_37 rfl (lv_at hl 1 rfl) ?_
  refine va_get (v := .int y1) (T := TX2) (N := 7) hx hb hts inX2 hown hK hP 3 rfl rfl 3 (by decide) f20 (fun _ h9 => h9) rfl dX2_take_38 ?_
  refine va_put (v := .int y1) (ty := .int) (T := TX2) (N := 7) hx hb hts inX2 tyX2 tyX2_ok nmX2 hown hK hP hD hS 0 rfl rfl 3 (by decide) f20 (fun _ h9 => h9) rfl (by decide +kernel) rfl rfl (Nat.le_of_ble_eq_true rfl) dX2_take_41 (fun H locs hP hD hS => ?_)
  have hP : va_P g.1 vwCl [(oX2 b0 b1 b2 x1 y1 rl hd th), (aI g b1 4 (va_cpy fr1 fr 0 0 4)), (aI g b2 4 (va_cpy fh1 fh 0 0 4)), (oX2 d0 d1 d2 x1 y1 r1 g1 t1), (aI g d1 4 fr1), (aI g d2 4 fh1)] H := hP
  have hD : va_D A [(oX2 b0 b1 b2 x1 y1 rl hd th), (aI g b1 4 (va_cpy fr1 fr 0 0 4)), (aI g b2 4 (va_cpy fh1 fh 0 0 4)), (oX2 d0 d1 d2 x1 y1 r1 g1 t1), (aI g d1 4 fr1), (aI g d2 4 fh1)] := hD
  refine lv_aload_n hx hb dX2_take_44 rfl (lv_at hl 0 rfl) ?_
  refine lv_aload_n hx hb dX2_take_45 rfl (lv_at hl 1 rfl) ?_
  refine va_get (v := .long r1) (T := TX2) (N := 7) hx hb hts inX2 hown hK hP 3 rfl rfl 4 (by decide) f23 (fun _ h9 => h9) rfl dX2_take_46 ?_
  refine va_put (v := .long r1) (ty := .long) (T := TX2) (N := 7) hx hb hts inX2 tyX2 tyX2_ok nmX2 hown hK hP hD hS 0 rfl rfl 4 (by decide) f23 (fun _ h9 => h9) rfl (by decide +kernel) rfl rfl (Nat.le_of_ble_eq_true rfl) dX2_take_49 (fun H locs hP hD hS => ?_)
  have hP : va_P g.1 vwCl [(oX2 b0 b1 b2 x1 y1 r1 hd th), (aI g b1 4 (va_cpy fr1 fr 0 0 4)), (aI g b2 4 (va_cpy fh1 fh 0 0 4)), (oX2 d0 d1 d2 x1 y1 r1 g1 t1), (aI g d1 4 fr1), (aI g d2 4 fh1)] H := hP
  have hD : va_D A [(oX2 b0 b1 b2 x1 y1 r1 hd th), (aI g b1 4 (va_cpy fr1 fr 0 0 4)), (aI g b2 4 (va_cpy fh1 fh 0 0 4)), (oX2 d0 d1 d2 x1 y1 r1 g1 t1), (aI g d1 4 fr1), (aI g d2 4 fh1)] := hD
  refine lv_aload_n hx hb dX2_take_52 rfl (lv_at hl 0 rfl) ?_
  refine lv_aload_n hx hb dX2_take_53 rfl (lv_at hl 1 rfl) ?_
  refine va_get (v := .long g1) (T := TX2) (N := 7) hx hb hts inX2 hown hK hP 3 rfl rfl 5 (by decide) f27 (fun _ h9 => h9) rfl dX2_take_54 ?_
  refine va_put (v := .long g1) (ty := .long) (T := TX2) (N := 7) hx hb hts inX2 tyX2 tyX2_ok nmX2 hown hK hP hD hS 0 rfl rfl 5 (by decide) f27 (fun _ h9 => h9) rfl (by decide +kernel) rfl rfl (Nat.le_of_ble_eq_true rfl) dX2_take_57 (fun H locs hP hD hS => ?_)
  have hP : va_P g.1 vwCl [(oX2 b0 b1 b2 x1 y1 r1 g1 th), (aI g b1 4 (va_cpy fr1 fr 0 0 4)), (aI g b2 4 (va_cpy fh1 fh 0 0 4)), (oX2 d0 d1 d2 x1 y1 r1 g1 t1), (aI g d1 4 fr1), (aI g d2 4 fh1)] H := hP
  have hD : va_D A [(oX2 b0 b1 b2 x1 y1 r1 g1 th), (aI g b1 4 (va_cpy fr1 fr 0 0 4)), (aI g b2 4 (va_cpy fh1 fh 0 0 4)), (oX2 d0 d1 d2 x1 y1 r1 g1 t1), (aI g d1 4 fr1), (aI g d2 4 fh1)] := hD
  refine lv_aload_n hx hb dX2_take_60 rfl (lv_at hl 0 rfl) ?_
  refine lv_aload_n hx hb dX2_take_61 rfl (lv_at hl 1 rfl) ?_
  refine va_get (v := .int t1) (T := TX2) (N := 7) hx hb hts inX2 hown hK hP 3 rfl rfl 6 (by decide) f33 (fun _ h9 => h9) rfl dX2_take_62 ?_
  refine va_put (v := .int t1) (ty := .int) (T := TX2) (N := 7) hx hb hts inX2 tyX2 tyX2_ok nmX2 hown hK hP hD hS 0 rfl rfl 6 (by decide) f33 (fun _ h9 => h9) rfl (by decide +kernel) rfl rfl (Nat.le_of_ble_eq_true rfl) dX2_take_65 (fun H locs hP hD hS => ?_)
  have hP : va_P g.1 vwCl [(oX2 b0 b1 b2 x1 y1 r1 g1 t1), (aI g b1 4 (va_cpy fr1 fr 0 0 4)), (aI g b2 4 (va_cpy fh1 fh 0 0 4)), (oX2 d0 d1 d2 x1 y1 r1 g1 t1), (aI g d1 4 fr1), (aI g d2 4 fh1)] H := hP
  have hD : va_D A [(oX2 b0 b1 b2 x1 y1 r1 g1 t1), (aI g b1 4 (va_cpy fr1 fr 0 0 4)), (aI g b2 4 (va_cpy fh1 fh 0 0 4)), (oX2 d0 d1 d2 x1 y1 r1 g1 t1), (aI g d1 4 fr1), (aI g d2 4 fh1)] := hD
  exact he_rv hQ hx hb hr hlk hP hD hS dX2_take_68 (Nat.le_of_ble_eq_true rfl) (Nat.le_of_ble_eq_true rfl) (()) (rfl) (trivial)
set_option maxHeartbeats 4000000 in
set_option maxRecDepth 100000 in
theorem c_X3_clear (l : Launch) (g : he_G) (e0 : Nat) (e1 : Nat) (e2 : Nat) (co : Nat → Int32)  : he_V l yX3_clear wsX3_clear 1 23 0 0 g [.ref e0] [(oX3 e0 e1 e2), (aI g e1 36 co)] (fun (u : Unit) => True) (fun (u : Unit) => [(oX3 e0 e1 e2), (aI g e1 36 (flF (fun _ => 0) co 36))]) := by
  refine he_begin (l := l) (g := g) (y := yX3_clear) (wl := wsX3_clear) (fr := 1) (lo := 23) (mc := 0) (ms := 0) (av := [.ref e0]) (ws := [(oX3 e0 e1 e2), (aI g e1 36 co)]) (cc := cX3_clear) (maxL := 1) (ret := none) (fun A => va_Qv (fun (u : Unit) => True) (fun u t => he_post g A ((fun (u : Unit) => [(oX3 e0 e1 e2), (aI g e1 36 (flF (fun _ => 0) co 36))]) u) t) A) (by decide) rfl (Nat.le_of_ble_eq_true rfl) ?_
  intro p e s m args below meth c A ls H locs Q hQ hB
  obtain ⟨hx, hb, hr, hml, hown, hts, hlk, hin, hP, hK, hD, hS, hA, hE, hl⟩ := hB
  have hl : lv_has ls 1 [(0, .ref e0)] := hl
  have f9 := hts (.fieldLink RX3 9 "HiredEnemy$Bids" "coins" "[I") (iwoX3_clear (k := 0) rfl)
  have inX3 : ∀ w ∈ wsX30, w ∈ wsX3_clear := innX3_clear_X3
  refine lv_aload_n hx hb dX3_clear_0 rfl (lv_at hl 0 rfl) ?_
  refine va_get (v := .ref e1) (T := TX3) (N := 2) hx hb hts inX3 hown hK hP 0 rfl rfl 0 (by decide) f9 (fun _ h9 => h9) rfl dX3_clear_1 ?_
  refine lv_iconst (v := 0) hx hb dX3_clear_4 (by decide) ?_
  refine he_cv (wc := [(aI g e1 36 co)]) (wr := [(oX3 e0 e1 e2)]) (va_runS (As := [.ref e1, .int 0]) (rest := []) ⟨hx, hb, hml, hown, hts⟩ (c_J7_fill_53178 l g e1 36 co 0 (by first | assumption | decide | omega) H.size) (va_cwS 2 hts gX3_clear_J7_fill_53178 rfl rfl rfl (by decide +kernel) ⟨Nat.le_of_ble_eq_true rfl, Nat.le_of_ble_eq_true rfl⟩) (he_preS (wc := [(aI g e1 36 co)]) hK hP hD hS hA hE [1] rfl rfl) rfl rfl hl.1 rfl (lv_room (Nat.le_of_ble_eq_true rfl)) dX3_clear_5 ⟨(Nat.le_of_ble_eq_true rfl), (Nat.le_of_ble_eq_true rfl)⟩) hP hD hS hA [1] [0] rfl rfl rfl (by decide) (fun u_2 H locs h_3 hP hD hS => ?_)
  have hP : va_P g.1 vwCl [(oX3 e0 e1 e2), (aI g e1 36 (flF (fun _ => 0) co 36))] H := hP
  have hD : va_D A [(oX3 e0 e1 e2), (aI g e1 36 (flF (fun _ => 0) co 36))] := hD
  exact he_rv hQ hx hb hr hlk hP hD hS dX3_clear_8 (Nat.le_of_ble_eq_true rfl) (Nat.le_of_ble_eq_true rfl) (()) (rfl) (trivial)
set_option maxHeartbeats 4000000 in
set_option maxRecDepth 100000 in
theorem c_X3_bid (l : Launch) (g : he_G) (e0 : Nat) (e1 : Nat) (e2 : Nat) (co : Nat → Int32) (i : Nat) (j : Nat) (v : Int32) (hi : i < 3) (hj : j < 12) : he_I l yX3_bid wsX3_bid 0 0 0 0 g [.ref e0, .int (nI i), .int (nI j), .int v] [(oX3 e0 e1 e2), (aI g e1 36 co)] (fun (r : Int32) (u : Unit) => r = co (j * 3 + i)) (fun (u : Unit) => [(oX3 e0 e1 e2), (aI g e1 36 (upd co (j * 3 + i) v))]) := by
  refine he_begin (l := l) (g := g) (y := yX3_bid) (wl := wsX3_bid) (fr := 0) (lo := 0) (mc := 0) (ms := 0) (av := [.ref e0, .int (nI i), .int (nI j), .int v]) (ws := [(oX3 e0 e1 e2), (aI g e1 36 co)]) (cc := cX3_bid) (maxL := 6) (ret := (some .int)) (fun A => va_Qi (fun (r : Int32) (u : Unit) => r = co (j * 3 + i)) (fun u t => he_post g A ((fun (u : Unit) => [(oX3 e0 e1 e2), (aI g e1 36 (upd co (j * 3 + i) v))]) u) t) A) (by decide) rfl (Nat.le_of_ble_eq_true rfl) ?_
  intro p e s m args below meth c A ls H locs Q hQ hB
  obtain ⟨hx, hb, hr, hml, hown, hts, hlk, hin, hP, hK, hD, hS, hA, hE, hl⟩ := hB
  have hl : lv_has ls 6 [(0, .ref e0), (1, .int (nI i)), (2, .int (nI j)), (3, .int v)] := hl
  have f9 := hts (.fieldLink RX3 9 "HiredEnemy$Bids" "coins" "[I") (iwoX3_bid (k := 0) rfl)
  have inX3 : ∀ w ∈ wsX30, w ∈ wsX3_bid := innX3_bid_X3
  refine lv_iload_n hx hb dX3_bid_0 rfl (lv_at hl 2 rfl) ?_
  refine lv_iconst (v := 3) hx hb dX3_bid_1 (by decide) ?_
  refine lv_imul hx hb dX3_bid_2 ?_
  refine he_top (nI (j * 3)) (pk_mul j 3) ?_
  refine lv_iload_n hx hb dX3_bid_3 rfl (lv_at hl 1 rfl) ?_
  refine lv_iadd hx hb dX3_bid_4 ?_
  refine he_top (nI (j * 3 + i)) (nI_add (j * 3) i) ?_
  refine lv_istore (lv' := [(4, .int (nI (j * 3 + i))), (0, .ref e0), (1, .int (nI i)), (2, .int (nI j)), (3, .int v)]) hx hb dX3_bid_5 hl (by decide) rfl (fun ls hl => ?_)
  refine lv_aload_n hx hb dX3_bid_7 rfl (lv_at hl 1 rfl) ?_
  refine va_get (v := .ref e1) (T := TX3) (N := 2) hx hb hts inX3 hown hK hP 0 rfl rfl 0 (by decide) f9 (fun _ h9 => h9) rfl dX3_bid_8 ?_
  refine lv_iload hx hb dX3_bid_11 (lv_at hl 0 rfl) ?_
  refine he_iald hx hb hK hP 1 rfl (j * 3 + i) rfl (by first | assumption | decide | omega) (by first | decide | assumption) (co (j * 3 + i)) rfl dX3_bid_13 ?_
  refine lv_istore (lv' := [(5, .int (co (j * 3 + i))), (4, .int (nI (j * 3 + i))), (0, .ref e0), (1, .int (nI i)), (2, .int (nI j)), (3, .int v)]) hx hb dX3_bid_14 hl (by decide) rfl (fun ls hl => ?_)
  refine lv_aload_n hx hb dX3_bid_16 rfl (lv_at hl 2 rfl) ?_
  refine va_get (v := .ref e1) (T := TX3) (N := 2) hx hb hts inX3 hown hK hP 0 rfl rfl 0 (by decide) f9 (fun _ h9 => h9) rfl dX3_bid_17 ?_
  refine lv_iload hx hb dX3_bid_20 (lv_at hl 1 rfl) ?_
  refine lv_iload_n hx hb dX3_bid_22 rfl (lv_at hl 5 rfl) ?_
  refine he_iast hx hb hK hP hD hS 1 rfl (j * 3 + i) rfl (by first | assumption | decide | omega) (by first | decide | assumption) dX3_bid_23 (fun H locs hP hD hS => ?_)
  have hP : va_P g.1 vwCl [(oX3 e0 e1 e2), (aI g e1 36 (upd co (j * 3 + i) v))] H := hP
  have hD : va_D A [(oX3 e0 e1 e2), (aI g e1 36 (upd co (j * 3 + i) v))] := hD
  refine lv_iload hx hb dX3_bid_24 (lv_at hl 0 rfl) ?_
  exact he_ri hQ hx hb hr hlk hP hD hS dX3_bid_26 (Nat.le_of_ble_eq_true rfl) (Nat.le_of_ble_eq_true rfl) (()) (rfl) (rfl)
set_option maxHeartbeats 4000000 in
set_option maxRecDepth 100000 in
theorem c_X3_take (l : Launch) (g : he_G) (e0 : Nat) (e1 : Nat) (e2 : Nat) (co : Nat → Int32) (d0 : Nat) (d1 : Nat) (d2 : Nat) (co1 : Nat → Int32)  : he_V l yX3_take wsX3_take 1 18 0 0 g [.ref e0, .ref d0] [(oX3 e0 e1 e2), (aI g e1 36 co), (oX3 d0 d1 d2), (aI g d1 36 co1)] (fun (u : Unit) => True) (fun (u : Unit) => [(oX3 e0 e1 e2), (aI g e1 36 (va_cpy co1 co 0 0 36)), (oX3 d0 d1 d2), (aI g d1 36 co1)]) := by
  refine he_begin (l := l) (g := g) (y := yX3_take) (wl := wsX3_take) (fr := 1) (lo := 18) (mc := 0) (ms := 0) (av := [.ref e0, .ref d0]) (ws := [(oX3 e0 e1 e2), (aI g e1 36 co), (oX3 d0 d1 d2), (aI g d1 36 co1)]) (cc := cX3_take) (maxL := 2) (ret := none) (fun A => va_Qv (fun (u : Unit) => True) (fun u t => he_post g A ((fun (u : Unit) => [(oX3 e0 e1 e2), (aI g e1 36 (va_cpy co1 co 0 0 36)), (oX3 d0 d1 d2), (aI g d1 36 co1)]) u) t) A) (by decide) rfl (Nat.le_of_ble_eq_true rfl) ?_
  intro p e s m args below meth c A ls H locs Q hQ hB
  obtain ⟨hx, hb, hr, hml, hown, hts, hlk, hin, hP, hK, hD, hS, hA, hE, hl⟩ := hB
  have hl : lv_has ls 2 [(0, .ref e0), (1, .ref d0)] := hl
  have f9 := hts (.fieldLink RX3 9 "HiredEnemy$Bids" "coins" "[I") (iwoX3_take (k := 0) rfl)
  have inX3 : ∀ w ∈ wsX30, w ∈ wsX3_take := innX3_take_X3
  have al45 := hts (.methodLink RX3 45 arraycopyName) (iwoX3_take (k := 1) rfl)
  have an := hts (.native arraycopyName) (iwoX3_take (k := 2) rfl)
  have ast := hts (.static arraycopyName) (iwoX3_take (k := 3) rfl)
  have ai := hts (.initialized "java/lang/System") (iwoX3_take (k := 4) rfl)
  refine lv_aload_n hx hb dX3_take_0 rfl (lv_at hl 1 rfl) ?_
  refine va_get (v := .ref d1) (T := TX3) (N := 2) hx hb hts inX3 hown hK hP 2 rfl rfl 0 (by decide) f9 (fun _ h9 => h9) rfl dX3_take_1 ?_
  refine lv_iconst (v := 0) hx hb dX3_take_4 (by decide) ?_
  refine lv_aload_n hx hb dX3_take_5 rfl (lv_at hl 0 rfl) ?_
  refine va_get (v := .ref e1) (T := TX3) (N := 2) hx hb hts inX3 hown hK hP 0 rfl rfl 0 (by decide) f9 (fun _ h9 => h9) rfl dX3_take_6 ?_
  refine lv_iconst (v := 0) hx hb dX3_take_9 (by decide) ?_
  refine lv_aload_n hx hb dX3_take_10 rfl (lv_at hl 0 rfl) ?_
  refine va_get (v := .ref e1) (T := TX3) (N := 2) hx hb hts inX3 hown hK hP 0 rfl rfl 0 (by decide) f9 (fun _ h9 => h9) rfl dX3_take_11 ?_
  refine va_alen (v := 36) hx hb hK hP 1 1 rfl rfl rfl dX3_take_14 ?_
  refine he_copy hx hb (by rw [hml]; exact hl.1.symm) hown al45 an ast ai hK hP hD hS 3 1 rfl rfl (0) (0) (36) (by decide) (by decide) (by decide) (by first | decide | omega) (by first | decide | omega) (by decide) (by decide) (Nat.le_of_ble_eq_true rfl) (Nat.le_of_ble_eq_true rfl) dX3_take_15 (fun H locs hP hD hS => ?_)
  have hP : va_P g.1 vwCl [(oX3 e0 e1 e2), (aI g e1 36 (va_cpy co1 co 0 0 36)), (oX3 d0 d1 d2), (aI g d1 36 co1)] H := hP
  have hD : va_D A [(oX3 e0 e1 e2), (aI g e1 36 (va_cpy co1 co 0 0 36)), (oX3 d0 d1 d2), (aI g d1 36 co1)] := hD
  exact he_rv hQ hx hb hr hlk hP hD hS dX3_take_18 (Nat.le_of_ble_eq_true rfl) (Nat.le_of_ble_eq_true rfl) (()) (rfl) (trivial)
set_option maxHeartbeats 4000000 in
set_option maxRecDepth 100000 in
theorem c_X3_mayFollow (l : Launch) (g : he_G) (i : Nat) (j : Nat) (hi : i < 3) (hj : j < 3) : he_I l yX3_mayFollow wsX3_mayFollow 0 0 0 0 g [.int (nI i), .int (nI j)] [] (fun (r : Int32) (u : Unit) => r = mfF i j) (fun (u : Unit) => []) := by
  refine he_begin (l := l) (g := g) (y := yX3_mayFollow) (wl := wsX3_mayFollow) (fr := 0) (lo := 0) (mc := 0) (ms := 0) (av := [.int (nI i), .int (nI j)]) (ws := []) (cc := cX3_mayFollow) (maxL := 2) (ret := (some .boolean)) (fun A => va_Qi (fun (r : Int32) (u : Unit) => r = mfF i j) (fun u t => he_post g A ((fun (u : Unit) => []) u) t) A) (by decide) rfl (Nat.le_of_ble_eq_true rfl) ?_
  intro p e s m args below meth c A ls H locs Q hQ hB
  obtain ⟨hx, hb, hr, hml, hown, hts, hlk, hin, hP, hK, hD, hS, hA, hE, hl⟩ := hB
  have hl : lv_has ls 2 [(0, .int (nI i)), (1, .int (nI j))] := hl
  refine lv_iload_n hx hb dX3_mayFollow_0 rfl (lv_at hl 0 rfl) ?_
  refine lv_if_eq (tgt := 13) hx hb dX3_mayFollow_1 (by decide) (fun c_1 => ?_) (fun c_1 => ?_)
  · have k_2 : i = 0 := (he_ceq (a := i) (b := 0) rfl (by decide) (by omega) (by omega)).mp c_1
    refine lv_iconst (v := 1) hx hb dX3_mayFollow_13 (by decide) ?_
    refine lv_goto (tgt := 18) hx hb dX3_mayFollow_14 (by decide) ?_
    exact he_rz hQ hx hb hr hlk hP hD hS dX3_mayFollow_18 (Nat.le_of_ble_eq_true rfl) (Nat.le_of_ble_eq_true rfl) rfl (()) (rfl) (by simp [mfF]; omega)
  · have k_3 : ¬ (i = 0) := fun h9 => c_1 ((he_ceq (a := i) (b := 0) rfl (by decide) (by omega) (by omega)).mpr h9)
    refine lv_iload_n hx hb dX3_mayFollow_4 rfl (lv_at hl 1 rfl) ?_
    refine lv_if_eq (tgt := 13) hx hb dX3_mayFollow_5 (by decide) (fun c_4 => ?_) (fun c_4 => ?_)
    · have k_5 : j = 0 := (he_ceq (a := j) (b := 0) rfl (by decide) (by omega) (by omega)).mp c_4
      refine lv_iconst (v := 1) hx hb dX3_mayFollow_13 (by decide) ?_
      refine lv_goto (tgt := 18) hx hb dX3_mayFollow_14 (by decide) ?_
      exact he_rz hQ hx hb hr hlk hP hD hS dX3_mayFollow_18 (Nat.le_of_ble_eq_true rfl) (Nat.le_of_ble_eq_true rfl) rfl (()) (rfl) (by simp [mfF]; omega)
    · have k_6 : ¬ (j = 0) := fun h9 => c_4 ((he_ceq (a := j) (b := 0) rfl (by decide) (by omega) (by omega)).mpr h9)
      refine lv_iload_n hx hb dX3_mayFollow_8 rfl (lv_at hl 0 rfl) ?_
      refine lv_iload_n hx hb dX3_mayFollow_9 rfl (lv_at hl 1 rfl) ?_
      refine lv_icmp_ne (tgt := 17) hx hb dX3_mayFollow_10 (by decide) (fun c_7 => ?_) (fun c_7 => ?_)
      · have k_8 : ¬ (i = j) := fun h9 => c_7 ((he_ceq (a := i) (b := j) rfl rfl (by omega) (by omega)).mpr h9)
        refine lv_iconst (v := 0) hx hb dX3_mayFollow_17 (by decide) ?_
        exact he_rz hQ hx hb hr hlk hP hD hS dX3_mayFollow_18 (Nat.le_of_ble_eq_true rfl) (Nat.le_of_ble_eq_true rfl) rfl (()) (rfl) (by simp [mfF]; omega)
      · have k_9 : i = j := (he_ceq (a := i) (b := j) rfl rfl (by omega) (by omega)).mp c_7
        refine lv_iconst (v := 1) hx hb dX3_mayFollow_13 (by decide) ?_
        refine lv_goto (tgt := 18) hx hb dX3_mayFollow_14 (by decide) ?_
        exact he_rz hQ hx hb hr hlk hP hD hS dX3_mayFollow_18 (Nat.le_of_ble_eq_true rfl) (Nat.le_of_ble_eq_true rfl) rfl (()) (rfl) (by simp [mfF]; omega)
set_option maxHeartbeats 4000000 in
set_option maxRecDepth 100000 in
theorem c_X6_mostParts (l : Launch) (g : he_G) (p0 : Nat) (p1 : Nat) (p2 : Nat) (p3 : Nat) (p4 : Nat) (w : Int32)  : he_I l yX6_mostParts wsX6_mostParts 0 0 0 0 g [.ref p0] [(oX6 p0 p1 p2 p3 p4 w)] (fun (r : Int32) (u : Unit) => r = 60) (fun (u : Unit) => [(oX6 p0 p1 p2 p3 p4 w)]) := by
  refine he_begin (l := l) (g := g) (y := yX6_mostParts) (wl := wsX6_mostParts) (fr := 0) (lo := 0) (mc := 0) (ms := 0) (av := [.ref p0]) (ws := [(oX6 p0 p1 p2 p3 p4 w)]) (cc := cX6_mostParts) (maxL := 1) (ret := (some .int)) (fun A => va_Qi (fun (r : Int32) (u : Unit) => r = 60) (fun u t => he_post g A ((fun (u : Unit) => [(oX6 p0 p1 p2 p3 p4 w)]) u) t) A) (by decide) rfl (Nat.le_of_ble_eq_true rfl) ?_
  intro p e s m args below meth c A ls H locs Q hQ hB
  obtain ⟨hx, hb, hr, hml, hown, hts, hlk, hin, hP, hK, hD, hS, hA, hE, hl⟩ := hB
  have hl : lv_has ls 1 [(0, .ref p0)] := hl
  refine lv_bipush (v := 60) hx hb dX6_mostParts_0 (by decide) ?_
  exact he_ri hQ hx hb hr hlk hP hD hS dX6_mostParts_2 (Nat.le_of_ble_eq_true rfl) (Nat.le_of_ble_eq_true rfl) (()) (rfl) (rfl)
set_option maxHeartbeats 4000000 in
set_option maxRecDepth 100000 in
theorem c_X5_mostParts (l : Launch) (g : he_G) (t0 : Nat) (t1 : Nat) (t2 : Nat) (pw : Int32)  : he_I l yX5_mostParts wsX5_mostParts 0 0 0 0 g [.ref t0] [(oX5 t0 t1 t2 pw)] (fun (r : Int32) (u : Unit) => r = 20) (fun (u : Unit) => [(oX5 t0 t1 t2 pw)]) := by
  refine he_begin (l := l) (g := g) (y := yX5_mostParts) (wl := wsX5_mostParts) (fr := 0) (lo := 0) (mc := 0) (ms := 0) (av := [.ref t0]) (ws := [(oX5 t0 t1 t2 pw)]) (cc := cX5_mostParts) (maxL := 1) (ret := (some .int)) (fun A => va_Qi (fun (r : Int32) (u : Unit) => r = 20) (fun u t => he_post g A ((fun (u : Unit) => [(oX5 t0 t1 t2 pw)]) u) t) A) (by decide) rfl (Nat.le_of_ble_eq_true rfl) ?_
  intro p e s m args below meth c A ls H locs Q hQ hB
  obtain ⟨hx, hb, hr, hml, hown, hts, hlk, hin, hP, hK, hD, hS, hA, hE, hl⟩ := hB
  have hl : lv_has ls 1 [(0, .ref t0)] := hl
  refine lv_bipush (v := 20) hx hb dX5_mostParts_0 (by decide) ?_
  exact he_ri hQ hx hb hr hlk hP hD hS dX5_mostParts_2 (Nat.le_of_ble_eq_true rfl) (Nat.le_of_ble_eq_true rfl) (()) (rfl) (rfl)
set_option maxHeartbeats 4000000 in
set_option maxRecDepth 100000 in
theorem c_X8_begin (l : Launch) (g : he_G) (s0 : Nat) (a0 : Nat) (h0 : Nat) (q0 : Nat) (q1 : Nat) (mo : Int32) (f : Nat → Int32) (b0 : Nat) (b1 : Nat) (b2 : Nat) (x : Int32) (y : Int32) (rl : Int64) (hd : Int64) (th : Int32) (e0 : Nat) (e1 : Nat) (e2 : Nat) (co : Nat → Int32) (p0 : Nat) (p1 : Nat) (p2 : Nat) (p3 : Nat) (p4 : Nat) (w : Nat) (sd : Nat → Int32) (st : Nat → Int32) (hw6 : w ≤ 6) : he_V l yX8_begin wsX8_begin 2 45 0 0 g [.ref s0, .ref p0] [(oX8 s0 h0 a0 b0 e0), (oX4 h0 q0 q1 mo), (aI g q0 24 f), (oX2 b0 b1 b2 x y rl hd th), (oX3 e0 e1 e2), (aI g e1 36 co), (oX6 p0 p1 p2 p3 p4 (nI w)), (aI g p1 24 sd), (aI g p3 6 st)] (fun (u : Unit) => True) (fun (u : Unit) => [(oX8 s0 h0 a0 b0 e0), (oX4 h0 q0 q1 0), (aI g q0 24 (beginF sd st w f)), (oX2 b0 b1 b2 x y (Int32.toInt64 x) (Int32.toInt64 y) 0), (oX3 e0 e1 e2), (aI g e1 36 (flF (fun _ => 0) co 36)), (oX6 p0 p1 p2 p3 p4 (nI w)), (aI g p1 24 sd), (aI g p3 6 st)]) := by
  refine he_begin (l := l) (g := g) (y := yX8_begin) (wl := wsX8_begin) (fr := 2) (lo := 45) (mc := 0) (ms := 0) (av := [.ref s0, .ref p0]) (ws := [(oX8 s0 h0 a0 b0 e0), (oX4 h0 q0 q1 mo), (aI g q0 24 f), (oX2 b0 b1 b2 x y rl hd th), (oX3 e0 e1 e2), (aI g e1 36 co), (oX6 p0 p1 p2 p3 p4 (nI w)), (aI g p1 24 sd), (aI g p3 6 st)]) (cc := cX8_begin) (maxL := 2) (ret := none) (fun A => va_Qv (fun (u : Unit) => True) (fun u t => he_post g A ((fun (u : Unit) => [(oX8 s0 h0 a0 b0 e0), (oX4 h0 q0 q1 0), (aI g q0 24 (beginF sd st w f)), (oX2 b0 b1 b2 x y (Int32.toInt64 x) (Int32.toInt64 y) 0), (oX3 e0 e1 e2), (aI g e1 36 (flF (fun _ => 0) co 36)), (oX6 p0 p1 p2 p3 p4 (nI w)), (aI g p1 24 sd), (aI g p3 6 st)]) u) t) A) (by decide) rfl (Nat.le_of_ble_eq_true rfl) ?_
  intro p e s m args below meth c A ls H locs Q hQ hB
  obtain ⟨hx, hb, hr, hml, hown, hts, hlk, hin, hP, hK, hD, hS, hA, hE, hl⟩ := hB
  have hl : lv_has ls 2 [(0, .ref s0), (1, .ref p0)] := hl
  have f10 := hts (.fieldLink RX8 10 "HiredEnemy$Scene" "course" "LHiredEnemy$Course;") (iwoX8_begin (k := 0) rfl)
  have inX8 : ∀ w ∈ wsX80, w ∈ wsX8_begin := innX8_begin_X8
  have f26 := hts (.fieldLink RX8 26 "HiredEnemy$Scene" "belief" "LHiredEnemy$Belief;") (iwoX8_begin (k := 1) rfl)
  have f33 := hts (.fieldLink RX8 33 "HiredEnemy$Scene" "bids" "LHiredEnemy$Bids;") (iwoX8_begin (k := 2) rfl)
  refine lv_aload_n hx hb dX8_begin_0 rfl (lv_at hl 0 rfl) ?_
  refine va_get (v := .ref h0) (T := TX8) (N := 4) hx hb hts inX8 hown hK hP 0 rfl rfl 0 (by decide) f10 (fun _ h9 => h9) rfl dX8_begin_1 ?_
  refine lv_aload_n hx hb dX8_begin_4 rfl (lv_at hl 1 rfl) ?_
  refine he_cv (wc := [(oX4 h0 q0 q1 mo), (aI g q0 24 f), (oX6 p0 p1 p2 p3 p4 (nI w)), (aI g p1 24 sd), (aI g p3 6 st)]) (wr := [(oX8 s0 h0 a0 b0 e0), (oX2 b0 b1 b2 x y rl hd th), (oX3 e0 e1 e2), (aI g e1 36 co)]) (va_runV (As := [.ref p0]) (rest := []) ⟨hx, hb, hml, hown, hts⟩ (c_X4_begin l g h0 q0 q1 mo f p0 p1 p2 p3 p4 w sd st (by first | assumption | decide | omega) H.size) (cwV 1 hts gX8_begin_X4_begin rfl rfl rfl (by decide +kernel) ⟨Nat.le_of_ble_eq_true rfl, Nat.le_of_ble_eq_true rfl⟩) (he_preV (wc := [(oX4 h0 q0 q1 mo), (aI g q0 24 f), (oX6 p0 p1 p2 p3 p4 (nI w)), (aI g p1 24 sd), (aI g p3 6 st)]) hK hP hD hS hA hE [1, 2, 6, 7, 8] rfl rfl 1 rfl rfl) rfl rfl hl.1 rfl (lv_room (Nat.le_of_ble_eq_true rfl)) dX8_begin_5 ⟨(Nat.le_of_ble_eq_true rfl), (Nat.le_of_ble_eq_true rfl)⟩) hP hD hS hA [1, 2, 6, 7, 8] [0, 3, 4, 5] rfl rfl rfl (by decide) (fun u_2 H locs h_3 hP hD hS => ?_)
  have hP : va_P g.1 vwCl [(oX8 s0 h0 a0 b0 e0), (oX2 b0 b1 b2 x y rl hd th), (oX3 e0 e1 e2), (aI g e1 36 co), (oX4 h0 q0 q1 0), (aI g q0 24 (beginF sd st w f)), (oX6 p0 p1 p2 p3 p4 (nI w)), (aI g p1 24 sd), (aI g p3 6 st)] H := hP
  have hD : va_D A [(oX8 s0 h0 a0 b0 e0), (oX2 b0 b1 b2 x y rl hd th), (oX3 e0 e1 e2), (aI g e1 36 co), (oX4 h0 q0 q1 0), (aI g q0 24 (beginF sd st w f)), (oX6 p0 p1 p2 p3 p4 (nI w)), (aI g p1 24 sd), (aI g p3 6 st)] := hD
  refine lv_aload_n hx hb dX8_begin_8 rfl (lv_at hl 0 rfl) ?_
  refine va_get (v := .ref b0) (T := TX8) (N := 4) hx hb hts inX8 hown hK hP 0 rfl rfl 2 (by decide) f26 (fun _ h9 => h9) rfl dX8_begin_9 ?_
  refine he_cv (wc := [(oX2 b0 b1 b2 x y rl hd th)]) (wr := [(oX8 s0 h0 a0 b0 e0), (oX3 e0 e1 e2), (aI g e1 36 co), (oX4 h0 q0 q1 0), (aI g q0 24 (beginF sd st w f)), (oX6 p0 p1 p2 p3 p4 (nI w)), (aI g p1 24 sd), (aI g p3 6 st)]) (va_runV (As := []) (rest := []) ⟨hx, hb, hml, hown, hts⟩ (c_X2_forget l g b0 b1 b2 x y rl hd th H.size) (cwV 0 hts gX8_begin_X2_forget rfl rfl rfl (by decide +kernel) ⟨Nat.le_of_ble_eq_true rfl, Nat.le_of_ble_eq_true rfl⟩) (he_preV (wc := [(oX2 b0 b1 b2 x y rl hd th)]) hK hP hD hS hA hE [1] rfl rfl 1 rfl rfl) rfl rfl hl.1 rfl (lv_room (Nat.le_of_ble_eq_true rfl)) dX8_begin_12 ⟨(Nat.le_of_ble_eq_true rfl), (Nat.le_of_ble_eq_true rfl)⟩) hP hD hS hA [1] [0, 2, 3, 4, 5, 6, 7, 8] rfl rfl rfl (by decide) (fun u_5 H locs h_6 hP hD hS => ?_)
  have hP : va_P g.1 vwCl [(oX8 s0 h0 a0 b0 e0), (oX3 e0 e1 e2), (aI g e1 36 co), (oX4 h0 q0 q1 0), (aI g q0 24 (beginF sd st w f)), (oX6 p0 p1 p2 p3 p4 (nI w)), (aI g p1 24 sd), (aI g p3 6 st), (oX2 b0 b1 b2 x y (Int32.toInt64 x) (Int32.toInt64 y) 0)] H := hP
  have hD : va_D A [(oX8 s0 h0 a0 b0 e0), (oX3 e0 e1 e2), (aI g e1 36 co), (oX4 h0 q0 q1 0), (aI g q0 24 (beginF sd st w f)), (oX6 p0 p1 p2 p3 p4 (nI w)), (aI g p1 24 sd), (aI g p3 6 st), (oX2 b0 b1 b2 x y (Int32.toInt64 x) (Int32.toInt64 y) 0)] := hD
  refine lv_aload_n hx hb dX8_begin_15 rfl (lv_at hl 0 rfl) ?_
  refine va_get (v := .ref e0) (T := TX8) (N := 4) hx hb hts inX8 hown hK hP 0 rfl rfl 3 (by decide) f33 (fun _ h9 => h9) rfl dX8_begin_16 ?_
  refine he_cv (wc := [(oX3 e0 e1 e2), (aI g e1 36 co)]) (wr := [(oX8 s0 h0 a0 b0 e0), (oX4 h0 q0 q1 0), (aI g q0 24 (beginF sd st w f)), (oX6 p0 p1 p2 p3 p4 (nI w)), (aI g p1 24 sd), (aI g p3 6 st), (oX2 b0 b1 b2 x y (Int32.toInt64 x) (Int32.toInt64 y) 0)]) (va_runV (As := []) (rest := []) ⟨hx, hb, hml, hown, hts⟩ (c_X3_clear l g e0 e1 e2 co H.size) (cwV 0 hts gX8_begin_X3_clear rfl rfl rfl (by decide +kernel) ⟨Nat.le_of_ble_eq_true rfl, Nat.le_of_ble_eq_true rfl⟩) (he_preV (wc := [(oX3 e0 e1 e2), (aI g e1 36 co)]) hK hP hD hS hA hE [1, 2] rfl rfl 1 rfl rfl) rfl rfl hl.1 rfl (lv_room (Nat.le_of_ble_eq_true rfl)) dX8_begin_19 ⟨(Nat.le_of_ble_eq_true rfl), (Nat.le_of_ble_eq_true rfl)⟩) hP hD hS hA [1, 2] [0, 3, 4, 5, 6, 7, 8] rfl rfl rfl (by decide) (fun u_8 H locs h_9 hP hD hS => ?_)
  have hP : va_P g.1 vwCl [(oX8 s0 h0 a0 b0 e0), (oX4 h0 q0 q1 0), (aI g q0 24 (beginF sd st w f)), (oX6 p0 p1 p2 p3 p4 (nI w)), (aI g p1 24 sd), (aI g p3 6 st), (oX2 b0 b1 b2 x y (Int32.toInt64 x) (Int32.toInt64 y) 0), (oX3 e0 e1 e2), (aI g e1 36 (flF (fun _ => 0) co 36))] H := hP
  have hD : va_D A [(oX8 s0 h0 a0 b0 e0), (oX4 h0 q0 q1 0), (aI g q0 24 (beginF sd st w f)), (oX6 p0 p1 p2 p3 p4 (nI w)), (aI g p1 24 sd), (aI g p3 6 st), (oX2 b0 b1 b2 x y (Int32.toInt64 x) (Int32.toInt64 y) 0), (oX3 e0 e1 e2), (aI g e1 36 (flF (fun _ => 0) co 36))] := hD
  have hP := hP.sub (ws' := [(oX8 s0 h0 a0 b0 e0), (oX4 h0 q0 q1 0), (aI g q0 24 (beginF sd st w f)), (oX2 b0 b1 b2 x y (Int32.toInt64 x) (Int32.toInt64 y) 0), (oX3 e0 e1 e2), (aI g e1 36 (flF (fun _ => 0) co 36)), (oX6 p0 p1 p2 p3 p4 (nI w)), (aI g p1 24 sd), (aI g p3 6 st)]) [0, 1, 2, 6, 7, 8, 3, 4, 5] rfl
  have hD := hD.sub (ws' := [(oX8 s0 h0 a0 b0 e0), (oX4 h0 q0 q1 0), (aI g q0 24 (beginF sd st w f)), (oX2 b0 b1 b2 x y (Int32.toInt64 x) (Int32.toInt64 y) 0), (oX3 e0 e1 e2), (aI g e1 36 (flF (fun _ => 0) co 36)), (oX6 p0 p1 p2 p3 p4 (nI w)), (aI g p1 24 sd), (aI g p3 6 st)]) [0, 1, 2, 6, 7, 8, 3, 4, 5] (by decide) rfl
  exact he_rv hQ hx hb hr hlk hP hD hS dX8_begin_22 (Nat.le_of_ble_eq_true rfl) (Nat.le_of_ble_eq_true rfl) (()) (rfl) (trivial)
set_option maxHeartbeats 4000000 in
set_option maxRecDepth 100000 in
theorem c_X8_take (l : Launch) (g : he_G) (s0 : Nat) (h0 : Nat) (q0 : Nat) (q1 : Nat) (mo : Int32) (f : Nat → Int32) (a0 : Nat) (a1 : Nat) (ln : Nat → Int32) (b0 : Nat) (b1 : Nat) (b2 : Nat) (x : Int32) (y : Int32) (rl : Int64) (hd : Int64) (th : Int32) (fr : Nat → Int32) (fh : Nat → Int32) (e0 : Nat) (e1 : Nat) (e2 : Nat) (co : Nat → Int32) (s2 : Nat) (h2 : Nat) (q2 : Nat) (r2 : Nat) (k : Nat) (f2 : Nat → Int32) (a2 : Nat) (a3 : Nat) (ln2 : Nat → Int32) (d0 : Nat) (d1 : Nat) (d2 : Nat) (x1 : Int32) (y1 : Int32) (r1 : Int64) (g1 : Int64) (t1 : Int32) (fr1 : Nat → Int32) (fh1 : Nat → Int32) (e4 : Nat) (e5 : Nat) (e6 : Nat) (co2 : Nat → Int32) (hk : k ≤ 120) : he_V l yX8_take wsX8_take 2 44 0 0 g [.ref s0, .ref s2] [(oX8 s0 h0 a0 b0 e0), (oX4 h0 q0 q1 mo), (aI g q0 24 f), (oX0 a0 a1), (aI g a1 3600 ln), (oX2 b0 b1 b2 x y rl hd th), (aI g b1 4 fr), (aI g b2 4 fh), (oX3 e0 e1 e2), (aI g e1 36 co), (oX8 s2 h2 a2 d0 e4), (oX4 h2 q2 r2 (nI k)), (aI g q2 24 f2), (oX0 a2 a3), (aI g a3 3600 ln2), (oX2 d0 d1 d2 x1 y1 r1 g1 t1), (aI g d1 4 fr1), (aI g d2 4 fh1), (oX3 e4 e5 e6), (aI g e5 36 co2)] (fun (u : Unit) => True) (fun (u : Unit) => [(oX8 s0 h0 a0 b0 e0), (oX4 h0 q0 q1 (nI k)), (aI g q0 24 (va_cpy f2 f 0 0 24)), (oX0 a0 a1), (aI g a1 3600 (va_cpy ln2 ln 0 0 (k * 30))), (oX2 b0 b1 b2 x1 y1 r1 g1 t1), (aI g b1 4 (va_cpy fr1 fr 0 0 4)), (aI g b2 4 (va_cpy fh1 fh 0 0 4)), (oX3 e0 e1 e2), (aI g e1 36 (va_cpy co2 co 0 0 36)), (oX8 s2 h2 a2 d0 e4), (oX4 h2 q2 r2 (nI k)), (aI g q2 24 f2), (oX0 a2 a3), (aI g a3 3600 ln2), (oX2 d0 d1 d2 x1 y1 r1 g1 t1), (aI g d1 4 fr1), (aI g d2 4 fh1), (oX3 e4 e5 e6), (aI g e5 36 co2)]) := by
  refine he_begin (l := l) (g := g) (y := yX8_take) (wl := wsX8_take) (fr := 2) (lo := 44) (mc := 0) (ms := 0) (av := [.ref s0, .ref s2]) (ws := [(oX8 s0 h0 a0 b0 e0), (oX4 h0 q0 q1 mo), (aI g q0 24 f), (oX0 a0 a1), (aI g a1 3600 ln), (oX2 b0 b1 b2 x y rl hd th), (aI g b1 4 fr), (aI g b2 4 fh), (oX3 e0 e1 e2), (aI g e1 36 co), (oX8 s2 h2 a2 d0 e4), (oX4 h2 q2 r2 (nI k)), (aI g q2 24 f2), (oX0 a2 a3), (aI g a3 3600 ln2), (oX2 d0 d1 d2 x1 y1 r1 g1 t1), (aI g d1 4 fr1), (aI g d2 4 fh1), (oX3 e4 e5 e6), (aI g e5 36 co2)]) (cc := cX8_take) (maxL := 2) (ret := none) (fun A => va_Qv (fun (u : Unit) => True) (fun u t => he_post g A ((fun (u : Unit) => [(oX8 s0 h0 a0 b0 e0), (oX4 h0 q0 q1 (nI k)), (aI g q0 24 (va_cpy f2 f 0 0 24)), (oX0 a0 a1), (aI g a1 3600 (va_cpy ln2 ln 0 0 (k * 30))), (oX2 b0 b1 b2 x1 y1 r1 g1 t1), (aI g b1 4 (va_cpy fr1 fr 0 0 4)), (aI g b2 4 (va_cpy fh1 fh 0 0 4)), (oX3 e0 e1 e2), (aI g e1 36 (va_cpy co2 co 0 0 36)), (oX8 s2 h2 a2 d0 e4), (oX4 h2 q2 r2 (nI k)), (aI g q2 24 f2), (oX0 a2 a3), (aI g a3 3600 ln2), (oX2 d0 d1 d2 x1 y1 r1 g1 t1), (aI g d1 4 fr1), (aI g d2 4 fh1), (oX3 e4 e5 e6), (aI g e5 36 co2)]) u) t) A) (by decide) rfl (Nat.le_of_ble_eq_true rfl) ?_
  intro p e s m args below meth c A ls H locs Q hQ hB
  obtain ⟨hx, hb, hr, hml, hown, hts, hlk, hin, hP, hK, hD, hS, hA, hE, hl⟩ := hB
  have hl : lv_has ls 2 [(0, .ref s0), (1, .ref s2)] := hl
  have f10 := hts (.fieldLink RX8 10 "HiredEnemy$Scene" "course" "LHiredEnemy$Course;") (iwoX8_take (k := 0) rfl)
  have inX8 : ∀ w ∈ wsX80, w ∈ wsX8_take := innX8_take_X8
  have f19 := hts (.fieldLink RX8 19 "HiredEnemy$Scene" "annals" "LHiredEnemy$Annals;") (iwoX8_take (k := 1) rfl)
  have f51 := hts (.fieldLink RX8 51 "HiredEnemy$Course" "month" "I") (iwoX8_take (k := 2) rfl)
  have inX4 : ∀ w ∈ wsX40, w ∈ wsX8_take := innX8_take_X4
  have f26 := hts (.fieldLink RX8 26 "HiredEnemy$Scene" "belief" "LHiredEnemy$Belief;") (iwoX8_take (k := 3) rfl)
  have f33 := hts (.fieldLink RX8 33 "HiredEnemy$Scene" "bids" "LHiredEnemy$Bids;") (iwoX8_take (k := 4) rfl)
  refine lv_aload_n hx hb dX8_take_0 rfl (lv_at hl 0 rfl) ?_
  refine va_get (v := .ref h0) (T := TX8) (N := 4) hx hb hts inX8 hown hK hP 0 rfl rfl 0 (by decide) f10 (fun _ h9 => h9) rfl dX8_take_1 ?_
  refine lv_aload_n hx hb dX8_take_4 rfl (lv_at hl 1 rfl) ?_
  refine va_get (v := .ref h2) (T := TX8) (N := 4) hx hb hts inX8 hown hK hP 10 rfl rfl 0 (by decide) f10 (fun _ h9 => h9) rfl dX8_take_5 ?_
  refine he_cv (wc := [(oX4 h0 q0 q1 mo), (aI g q0 24 f), (oX4 h2 q2 r2 (nI k)), (aI g q2 24 f2)]) (wr := [(oX8 s0 h0 a0 b0 e0), (oX0 a0 a1), (aI g a1 3600 ln), (oX2 b0 b1 b2 x y rl hd th), (aI g b1 4 fr), (aI g b2 4 fh), (oX3 e0 e1 e2), (aI g e1 36 co), (oX8 s2 h2 a2 d0 e4), (oX0 a2 a3), (aI g a3 3600 ln2), (oX2 d0 d1 d2 x1 y1 r1 g1 t1), (aI g d1 4 fr1), (aI g d2 4 fh1), (oX3 e4 e5 e6), (aI g e5 36 co2)]) (va_runV (As := [.ref h2]) (rest := []) ⟨hx, hb, hml, hown, hts⟩ (c_X4_take l g h0 q0 q1 mo f h2 q2 r2 (nI k) f2 H.size) (cwV 1 hts gX8_take_X4_take rfl rfl rfl (by decide +kernel) ⟨Nat.le_of_ble_eq_true rfl, Nat.le_of_ble_eq_true rfl⟩) (he_preV (wc := [(oX4 h0 q0 q1 mo), (aI g q0 24 f), (oX4 h2 q2 r2 (nI k)), (aI g q2 24 f2)]) hK hP hD hS hA hE [1, 2, 11, 12] rfl rfl 1 rfl rfl) rfl rfl hl.1 rfl (lv_room (Nat.le_of_ble_eq_true rfl)) dX8_take_8 ⟨(Nat.le_of_ble_eq_true rfl), (Nat.le_of_ble_eq_true rfl)⟩) hP hD hS hA [1, 2, 11, 12] [0, 3, 4, 5, 6, 7, 8, 9, 10, 13, 14, 15, 16, 17, 18, 19] rfl rfl rfl (by decide) (fun u_2 H locs h_3 hP hD hS => ?_)
  have hP : va_P g.1 vwCl [(oX8 s0 h0 a0 b0 e0), (oX0 a0 a1), (aI g a1 3600 ln), (oX2 b0 b1 b2 x y rl hd th), (aI g b1 4 fr), (aI g b2 4 fh), (oX3 e0 e1 e2), (aI g e1 36 co), (oX8 s2 h2 a2 d0 e4), (oX0 a2 a3), (aI g a3 3600 ln2), (oX2 d0 d1 d2 x1 y1 r1 g1 t1), (aI g d1 4 fr1), (aI g d2 4 fh1), (oX3 e4 e5 e6), (aI g e5 36 co2), (oX4 h0 q0 q1 (nI k)), (aI g q0 24 (va_cpy f2 f 0 0 24)), (oX4 h2 q2 r2 (nI k)), (aI g q2 24 f2)] H := hP
  have hD : va_D A [(oX8 s0 h0 a0 b0 e0), (oX0 a0 a1), (aI g a1 3600 ln), (oX2 b0 b1 b2 x y rl hd th), (aI g b1 4 fr), (aI g b2 4 fh), (oX3 e0 e1 e2), (aI g e1 36 co), (oX8 s2 h2 a2 d0 e4), (oX0 a2 a3), (aI g a3 3600 ln2), (oX2 d0 d1 d2 x1 y1 r1 g1 t1), (aI g d1 4 fr1), (aI g d2 4 fh1), (oX3 e4 e5 e6), (aI g e5 36 co2), (oX4 h0 q0 q1 (nI k)), (aI g q0 24 (va_cpy f2 f 0 0 24)), (oX4 h2 q2 r2 (nI k)), (aI g q2 24 f2)] := hD
  refine lv_aload_n hx hb dX8_take_11 rfl (lv_at hl 0 rfl) ?_
  refine va_get (v := .ref a0) (T := TX8) (N := 4) hx hb hts inX8 hown hK hP 0 rfl rfl 1 (by decide) f19 (fun _ h9 => h9) rfl dX8_take_12 ?_
  refine lv_aload_n hx hb dX8_take_15 rfl (lv_at hl 1 rfl) ?_
  refine va_get (v := .ref a2) (T := TX8) (N := 4) hx hb hts inX8 hown hK hP 8 rfl rfl 1 (by decide) f19 (fun _ h9 => h9) rfl dX8_take_16 ?_
  refine lv_aload_n hx hb dX8_take_19 rfl (lv_at hl 1 rfl) ?_
  refine va_get (v := .ref h2) (T := TX8) (N := 4) hx hb hts inX8 hown hK hP 8 rfl rfl 0 (by decide) f10 (fun _ h9 => h9) rfl dX8_take_20 ?_
  refine va_get (v := .int (nI k)) (T := TX4) (N := 3) hx hb hts inX4 hown hK hP 18 rfl rfl 2 (by decide) f51 (fun _ h9 => h9) rfl dX8_take_23 ?_
  refine he_cv (wc := [(oX0 a0 a1), (aI g a1 3600 ln), (oX0 a2 a3), (aI g a3 3600 ln2)]) (wr := [(oX8 s0 h0 a0 b0 e0), (oX2 b0 b1 b2 x y rl hd th), (aI g b1 4 fr), (aI g b2 4 fh), (oX3 e0 e1 e2), (aI g e1 36 co), (oX8 s2 h2 a2 d0 e4), (oX2 d0 d1 d2 x1 y1 r1 g1 t1), (aI g d1 4 fr1), (aI g d2 4 fh1), (oX3 e4 e5 e6), (aI g e5 36 co2), (oX4 h0 q0 q1 (nI k)), (aI g q0 24 (va_cpy f2 f 0 0 24)), (oX4 h2 q2 r2 (nI k)), (aI g q2 24 f2)]) (va_runV (As := [.ref a2, .int (nI k)]) (rest := []) ⟨hx, hb, hml, hown, hts⟩ (c_X0_take l g a0 a1 ln a2 a3 ln2 k (by first | assumption | decide | omega) H.size) (cwV 2 hts gX8_take_X0_take rfl rfl rfl (by decide +kernel) ⟨Nat.le_of_ble_eq_true rfl, Nat.le_of_ble_eq_true rfl⟩) (he_preV (wc := [(oX0 a0 a1), (aI g a1 3600 ln), (oX0 a2 a3), (aI g a3 3600 ln2)]) hK hP hD hS hA hE [1, 2, 9, 10] rfl rfl 1 rfl rfl) rfl rfl hl.1 rfl (lv_room (Nat.le_of_ble_eq_true rfl)) dX8_take_26 ⟨(Nat.le_of_ble_eq_true rfl), (Nat.le_of_ble_eq_true rfl)⟩) hP hD hS hA [1, 2, 9, 10] [0, 3, 4, 5, 6, 7, 8, 11, 12, 13, 14, 15, 16, 17, 18, 19] rfl rfl rfl (by decide) (fun u_5 H locs h_6 hP hD hS => ?_)
  have hP : va_P g.1 vwCl [(oX8 s0 h0 a0 b0 e0), (oX2 b0 b1 b2 x y rl hd th), (aI g b1 4 fr), (aI g b2 4 fh), (oX3 e0 e1 e2), (aI g e1 36 co), (oX8 s2 h2 a2 d0 e4), (oX2 d0 d1 d2 x1 y1 r1 g1 t1), (aI g d1 4 fr1), (aI g d2 4 fh1), (oX3 e4 e5 e6), (aI g e5 36 co2), (oX4 h0 q0 q1 (nI k)), (aI g q0 24 (va_cpy f2 f 0 0 24)), (oX4 h2 q2 r2 (nI k)), (aI g q2 24 f2), (oX0 a0 a1), (aI g a1 3600 (va_cpy ln2 ln 0 0 (k * 30))), (oX0 a2 a3), (aI g a3 3600 ln2)] H := hP
  have hD : va_D A [(oX8 s0 h0 a0 b0 e0), (oX2 b0 b1 b2 x y rl hd th), (aI g b1 4 fr), (aI g b2 4 fh), (oX3 e0 e1 e2), (aI g e1 36 co), (oX8 s2 h2 a2 d0 e4), (oX2 d0 d1 d2 x1 y1 r1 g1 t1), (aI g d1 4 fr1), (aI g d2 4 fh1), (oX3 e4 e5 e6), (aI g e5 36 co2), (oX4 h0 q0 q1 (nI k)), (aI g q0 24 (va_cpy f2 f 0 0 24)), (oX4 h2 q2 r2 (nI k)), (aI g q2 24 f2), (oX0 a0 a1), (aI g a1 3600 (va_cpy ln2 ln 0 0 (k * 30))), (oX0 a2 a3), (aI g a3 3600 ln2)] := hD
  refine lv_aload_n hx hb dX8_take_29 rfl (lv_at hl 0 rfl) ?_
  refine va_get (v := .ref b0) (T := TX8) (N := 4) hx hb hts inX8 hown hK hP 0 rfl rfl 2 (by decide) f26 (fun _ h9 => h9) rfl dX8_take_30 ?_
  refine lv_aload_n hx hb dX8_take_33 rfl (lv_at hl 1 rfl) ?_
  refine va_get (v := .ref d0) (T := TX8) (N := 4) hx hb hts inX8 hown hK hP 6 rfl rfl 2 (by decide) f26 (fun _ h9 => h9) rfl dX8_take_34 ?_
  refine he_cv (wc := [(oX2 b0 b1 b2 x y rl hd th), (aI g b1 4 fr), (aI g b2 4 fh), (oX2 d0 d1 d2 x1 y1 r1 g1 t1), (aI g d1 4 fr1), (aI g d2 4 fh1)]) (wr := [(oX8 s0 h0 a0 b0 e0), (oX3 e0 e1 e2), (aI g e1 36 co), (oX8 s2 h2 a2 d0 e4), (oX3 e4 e5 e6), (aI g e5 36 co2), (oX4 h0 q0 q1 (nI k)), (aI g q0 24 (va_cpy f2 f 0 0 24)), (oX4 h2 q2 r2 (nI k)), (aI g q2 24 f2), (oX0 a0 a1), (aI g a1 3600 (va_cpy ln2 ln 0 0 (k * 30))), (oX0 a2 a3), (aI g a3 3600 ln2)]) (va_runV (As := [.ref d0]) (rest := []) ⟨hx, hb, hml, hown, hts⟩ (c_X2_take l g b0 b1 b2 x y rl hd th fr fh d0 d1 d2 x1 y1 r1 g1 t1 fr1 fh1 H.size) (cwV 1 hts gX8_take_X2_take rfl rfl rfl (by decide +kernel) ⟨Nat.le_of_ble_eq_true rfl, Nat.le_of_ble_eq_true rfl⟩) (he_preV (wc := [(oX2 b0 b1 b2 x y rl hd th), (aI g b1 4 fr), (aI g b2 4 fh), (oX2 d0 d1 d2 x1 y1 r1 g1 t1), (aI g d1 4 fr1), (aI g d2 4 fh1)]) hK hP hD hS hA hE [1, 2, 3, 7, 8, 9] rfl rfl 1 rfl rfl) rfl rfl hl.1 rfl (lv_room (Nat.le_of_ble_eq_true rfl)) dX8_take_37 ⟨(Nat.le_of_ble_eq_true rfl), (Nat.le_of_ble_eq_true rfl)⟩) hP hD hS hA [1, 2, 3, 7, 8, 9] [0, 4, 5, 6, 10, 11, 12, 13, 14, 15, 16, 17, 18, 19] rfl rfl rfl (by decide) (fun u_8 H locs h_9 hP hD hS => ?_)
  have hP : va_P g.1 vwCl [(oX8 s0 h0 a0 b0 e0), (oX3 e0 e1 e2), (aI g e1 36 co), (oX8 s2 h2 a2 d0 e4), (oX3 e4 e5 e6), (aI g e5 36 co2), (oX4 h0 q0 q1 (nI k)), (aI g q0 24 (va_cpy f2 f 0 0 24)), (oX4 h2 q2 r2 (nI k)), (aI g q2 24 f2), (oX0 a0 a1), (aI g a1 3600 (va_cpy ln2 ln 0 0 (k * 30))), (oX0 a2 a3), (aI g a3 3600 ln2), (oX2 b0 b1 b2 x1 y1 r1 g1 t1), (aI g b1 4 (va_cpy fr1 fr 0 0 4)), (aI g b2 4 (va_cpy fh1 fh 0 0 4)), (oX2 d0 d1 d2 x1 y1 r1 g1 t1), (aI g d1 4 fr1), (aI g d2 4 fh1)] H := hP
  have hD : va_D A [(oX8 s0 h0 a0 b0 e0), (oX3 e0 e1 e2), (aI g e1 36 co), (oX8 s2 h2 a2 d0 e4), (oX3 e4 e5 e6), (aI g e5 36 co2), (oX4 h0 q0 q1 (nI k)), (aI g q0 24 (va_cpy f2 f 0 0 24)), (oX4 h2 q2 r2 (nI k)), (aI g q2 24 f2), (oX0 a0 a1), (aI g a1 3600 (va_cpy ln2 ln 0 0 (k * 30))), (oX0 a2 a3), (aI g a3 3600 ln2), (oX2 b0 b1 b2 x1 y1 r1 g1 t1), (aI g b1 4 (va_cpy fr1 fr 0 0 4)), (aI g b2 4 (va_cpy fh1 fh 0 0 4)), (oX2 d0 d1 d2 x1 y1 r1 g1 t1), (aI g d1 4 fr1), (aI g d2 4 fh1)] := hD
  refine lv_aload_n hx hb dX8_take_40 rfl (lv_at hl 0 rfl) ?_
  refine va_get (v := .ref e0) (T := TX8) (N := 4) hx hb hts inX8 hown hK hP 0 rfl rfl 3 (by decide) f33 (fun _ h9 => h9) rfl dX8_take_41 ?_
  refine lv_aload_n hx hb dX8_take_44 rfl (lv_at hl 1 rfl) ?_
  refine va_get (v := .ref e4) (T := TX8) (N := 4) hx hb hts inX8 hown hK hP 3 rfl rfl 3 (by decide) f33 (fun _ h9 => h9) rfl dX8_take_45 ?_
  refine he_cv (wc := [(oX3 e0 e1 e2), (aI g e1 36 co), (oX3 e4 e5 e6), (aI g e5 36 co2)]) (wr := [(oX8 s0 h0 a0 b0 e0), (oX8 s2 h2 a2 d0 e4), (oX4 h0 q0 q1 (nI k)), (aI g q0 24 (va_cpy f2 f 0 0 24)), (oX4 h2 q2 r2 (nI k)), (aI g q2 24 f2), (oX0 a0 a1), (aI g a1 3600 (va_cpy ln2 ln 0 0 (k * 30))), (oX0 a2 a3), (aI g a3 3600 ln2), (oX2 b0 b1 b2 x1 y1 r1 g1 t1), (aI g b1 4 (va_cpy fr1 fr 0 0 4)), (aI g b2 4 (va_cpy fh1 fh 0 0 4)), (oX2 d0 d1 d2 x1 y1 r1 g1 t1), (aI g d1 4 fr1), (aI g d2 4 fh1)]) (va_runV (As := [.ref e4]) (rest := []) ⟨hx, hb, hml, hown, hts⟩ (c_X3_take l g e0 e1 e2 co e4 e5 e6 co2 H.size) (cwV 1 hts gX8_take_X3_take rfl rfl rfl (by decide +kernel) ⟨Nat.le_of_ble_eq_true rfl, Nat.le_of_ble_eq_true rfl⟩) (he_preV (wc := [(oX3 e0 e1 e2), (aI g e1 36 co), (oX3 e4 e5 e6), (aI g e5 36 co2)]) hK hP hD hS hA hE [1, 2, 4, 5] rfl rfl 1 rfl rfl) rfl rfl hl.1 rfl (lv_room (Nat.le_of_ble_eq_true rfl)) dX8_take_48 ⟨(Nat.le_of_ble_eq_true rfl), (Nat.le_of_ble_eq_true rfl)⟩) hP hD hS hA [1, 2, 4, 5] [0, 3, 6, 7, 8, 9, 10, 11, 12, 13, 14, 15, 16, 17, 18, 19] rfl rfl rfl (by decide) (fun u_11 H locs h_12 hP hD hS => ?_)
  have hP : va_P g.1 vwCl [(oX8 s0 h0 a0 b0 e0), (oX8 s2 h2 a2 d0 e4), (oX4 h0 q0 q1 (nI k)), (aI g q0 24 (va_cpy f2 f 0 0 24)), (oX4 h2 q2 r2 (nI k)), (aI g q2 24 f2), (oX0 a0 a1), (aI g a1 3600 (va_cpy ln2 ln 0 0 (k * 30))), (oX0 a2 a3), (aI g a3 3600 ln2), (oX2 b0 b1 b2 x1 y1 r1 g1 t1), (aI g b1 4 (va_cpy fr1 fr 0 0 4)), (aI g b2 4 (va_cpy fh1 fh 0 0 4)), (oX2 d0 d1 d2 x1 y1 r1 g1 t1), (aI g d1 4 fr1), (aI g d2 4 fh1), (oX3 e0 e1 e2), (aI g e1 36 (va_cpy co2 co 0 0 36)), (oX3 e4 e5 e6), (aI g e5 36 co2)] H := hP
  have hD : va_D A [(oX8 s0 h0 a0 b0 e0), (oX8 s2 h2 a2 d0 e4), (oX4 h0 q0 q1 (nI k)), (aI g q0 24 (va_cpy f2 f 0 0 24)), (oX4 h2 q2 r2 (nI k)), (aI g q2 24 f2), (oX0 a0 a1), (aI g a1 3600 (va_cpy ln2 ln 0 0 (k * 30))), (oX0 a2 a3), (aI g a3 3600 ln2), (oX2 b0 b1 b2 x1 y1 r1 g1 t1), (aI g b1 4 (va_cpy fr1 fr 0 0 4)), (aI g b2 4 (va_cpy fh1 fh 0 0 4)), (oX2 d0 d1 d2 x1 y1 r1 g1 t1), (aI g d1 4 fr1), (aI g d2 4 fh1), (oX3 e0 e1 e2), (aI g e1 36 (va_cpy co2 co 0 0 36)), (oX3 e4 e5 e6), (aI g e5 36 co2)] := hD
  have hP := hP.sub (ws' := [(oX8 s0 h0 a0 b0 e0), (oX4 h0 q0 q1 (nI k)), (aI g q0 24 (va_cpy f2 f 0 0 24)), (oX0 a0 a1), (aI g a1 3600 (va_cpy ln2 ln 0 0 (k * 30))), (oX2 b0 b1 b2 x1 y1 r1 g1 t1), (aI g b1 4 (va_cpy fr1 fr 0 0 4)), (aI g b2 4 (va_cpy fh1 fh 0 0 4)), (oX3 e0 e1 e2), (aI g e1 36 (va_cpy co2 co 0 0 36)), (oX8 s2 h2 a2 d0 e4), (oX4 h2 q2 r2 (nI k)), (aI g q2 24 f2), (oX0 a2 a3), (aI g a3 3600 ln2), (oX2 d0 d1 d2 x1 y1 r1 g1 t1), (aI g d1 4 fr1), (aI g d2 4 fh1), (oX3 e4 e5 e6), (aI g e5 36 co2)]) [0, 2, 3, 6, 7, 10, 11, 12, 16, 17, 1, 4, 5, 8, 9, 13, 14, 15, 18, 19] rfl
  have hD := hD.sub (ws' := [(oX8 s0 h0 a0 b0 e0), (oX4 h0 q0 q1 (nI k)), (aI g q0 24 (va_cpy f2 f 0 0 24)), (oX0 a0 a1), (aI g a1 3600 (va_cpy ln2 ln 0 0 (k * 30))), (oX2 b0 b1 b2 x1 y1 r1 g1 t1), (aI g b1 4 (va_cpy fr1 fr 0 0 4)), (aI g b2 4 (va_cpy fh1 fh 0 0 4)), (oX3 e0 e1 e2), (aI g e1 36 (va_cpy co2 co 0 0 36)), (oX8 s2 h2 a2 d0 e4), (oX4 h2 q2 r2 (nI k)), (aI g q2 24 f2), (oX0 a2 a3), (aI g a3 3600 ln2), (oX2 d0 d1 d2 x1 y1 r1 g1 t1), (aI g d1 4 fr1), (aI g d2 4 fh1), (oX3 e4 e5 e6), (aI g e5 36 co2)]) [0, 2, 3, 6, 7, 10, 11, 12, 16, 17, 1, 4, 5, 8, 9, 13, 14, 15, 18, 19] (by decide) rfl
  exact he_rv hQ hx hb hr hlk hP hD hS dX8_take_51 (Nat.le_of_ble_eq_true rfl) (Nat.le_of_ble_eq_true rfl) (()) (rfl) (trivial)
set_option maxHeartbeats 4000000 in
set_option maxRecDepth 100000 in
theorem c_X10_demand1 (l : Launch) (g : he_G) (x0 : Nat)  : he_V l yX10_demand wsX10_demand 0 0 0 0 g [.ref x0, .int 1] [] (fun (u : Unit) => True) (fun (u : Unit) => []) := by
  refine he_begin (l := l) (g := g) (y := yX10_demand) (wl := wsX10_demand) (fr := 0) (lo := 0) (mc := 0) (ms := 0) (av := [.ref x0, .int 1]) (ws := []) (cc := cX10_demand) (maxL := 2) (ret := none) (fun A => va_Qv (fun (u : Unit) => True) (fun u t => he_post g A ((fun (u : Unit) => []) u) t) A) (by decide) rfl (Nat.le_of_ble_eq_true rfl) ?_
  intro p e s m args below meth c A ls H locs Q hQ hB
  obtain ⟨hx, hb, hr, hml, hown, hts, hlk, hin, hP, hK, hD, hS, hA, hE, hl⟩ := hB
  have hl : lv_has ls 2 [(0, .ref x0), (1, .int 1)] := hl
  refine lv_iload_n hx hb dX10_demand_0 rfl (lv_at hl 1 rfl) ?_
  refine lv_if_ne (tgt := 24) hx hb dX10_demand_1 (by decide) (fun c_1 => ?_) (fun c_1 => ?_)
  · exact he_rv hQ hx hb hr hlk hP hD hS dX10_demand_24 (Nat.le_of_ble_eq_true rfl) (Nat.le_of_ble_eq_true rfl) (()) (rfl) (trivial)
  · exact absurd c_1 (by decide)
end
section
/-! reading a text, as both sides do it: T the tape's letters (0 .. 255), n the text's length -/
def chA (T : Nat → Nat) (n k : Nat) : Nat := if k < n then T k else 256
def isBl (x : Nat) : Bool := x == 32
def isLt (x : Nat) : Bool := 97 ≤ x && x ≤ 122
def isDg (x : Nat) : Bool := 48 ≤ x && x ≤ 57
/-- where a run ends -/
def rnE (P : Nat → Bool) (T : Nat → Nat) (n : Nat) : Nat → Nat → Nat
  | 0, k => k
  | f + 1, k => if P (chA T n k) = true then rnE P T n f (k + 1) else k
def rn (P : Nat → Bool) (T : Nat → Nat) (n k : Nat) : Nat := rnE P T n (n - k) k
theorem rn_step {P : Nat → Bool} {T : Nat → Nat} {n k : Nat} (hk : k < n) (h : P (T k) = true) : rn P T n k = rn P T n (k + 1) := by
  unfold rn
  obtain ⟨f, hf⟩ : ∃ f, n - k = f + 1 := ⟨n - k - 1, by omega⟩
  rw [hf, rnE, show chA T n k = T k from if_pos hk, if_pos h, show n - (k + 1) = f by omega]
theorem rn_stop {P : Nat → Bool} {T : Nat → Nat} {n k : Nat} (h : k < n → P (T k) = false) : rn P T n k = k := by
  unfold rn
  cases hf : n - k with
  | zero => rfl
  | succ f =>
    have hk : k < n := by omega
    rw [rnE, show chA T n k = T k from if_pos hk, h hk, if_neg (by decide)]
theorem rnE_ge (P : Nat → Bool) (T : Nat → Nat) (n : Nat) : ∀ f k, k ≤ rnE P T n f k ∧ rnE P T n f k ≤ k + f
  | 0, k => ⟨Nat.le_refl _, Nat.le_refl _⟩
  | f + 1, k => by
    rw [rnE]
    split
    · have := rnE_ge P T n f (k + 1); omega
    · omega
theorem rn_ge (P : Nat → Bool) (T : Nat → Nat) (n k : Nat) : k ≤ rn P T n k := (rnE_ge P T n _ k).1
theorem rn_le {P : Nat → Bool} {T : Nat → Nat} {n k : Nat} (hk : k ≤ n) : rn P T n k ≤ n := by have := (rnE_ge P T n (n - k) k).2; unfold rn; omega
theorem rnE_in {P : Nat → Bool} {T : Nat → Nat} {n : Nat} : ∀ f k j, k + f ≤ n → k ≤ j → j < rnE P T n f k → P (T j) = true
  | 0, k, j, _, h1, h2 => absurd h2 (by rw [rnE]; omega)
  | f + 1, k, j, hn, h1, h2 => by
    rw [rnE] at h2
    split at h2
    · rename_i h
      rw [show chA T n k = T k from if_pos (by omega)] at h
      rcases Nat.eq_or_lt_of_le h1 with e | e
      · rw [← e]; exact h
      · exact rnE_in f (k + 1) j (by omega) e h2
    · omega
theorem rn_in {P : Nat → Bool} {T : Nat → Nat} {n k j : Nat} (hk : k ≤ n) (h1 : k ≤ j) (h2 : j < rn P T n k) : P (T j) = true := rnE_in (n - k) k j (by omega) h1 h2
/-- a letter as a byte -/
def sbI (x : Nat) : Int32 := if x < 128 then nI x else nI x - 256
theorem sb_tab : ∀ x : Nat, x < 256 → ((sbI x = 32 ↔ x = 32) ∧ (sbI x = 59 ↔ x = 59)) ∧ ((97 ≤ sbI x ∧ sbI x ≤ 122) ↔ (97 ≤ x ∧ x ≤ 122)) ∧ ((48 ≤ sbI x ∧ sbI x ≤ 57) ↔ (48 ≤ x ∧ x ≤ 57)) := by decide +kernel
/-- the number that a run of digits says, at most 100000 -/
def nvF (T : Nat → Nat) (b : Nat) : Nat → Nat
  | 0 => 0
  | j + 1 => min (10 * nvF T b j + (T (b + j) - 48)) 100000
theorem nv_le (T : Nat → Nat) (b : Nat) : ∀ j, nvF T b j ≤ 100000
  | 0 => by rw [nvF]; omega
  | j + 1 => by rw [nvF]; omega
/-- the number of a word, as the reference counts it: its first six letters -/
def hsF (T : Nat → Nat) (b : Nat) : Nat → Nat
  | 0 => 0
  | j + 1 => if j < 6 then 27 * hsF T b j + (T (b + j) - 96) else hsF T b j
def sixN (w : List Nat) : Nat := w.foldl (fun a c => 27 * a + (c - 96)) 0
theorem sixN_c (w : List Nat) (c : Nat) : sixN (w ++ [c]) = 27 * sixN w + (c - 96) := by unfold sixN; rw [List.foldl_append]; rfl
/-- a word of at most six letters by its number -/
theorem hs_inj {T : Nat → Nat} {b : Nat} : ∀ (m : Nat) (w : List Nat), m ≤ 6 → (∀ i, i < m → 97 ≤ T (b + i) ∧ T (b + i) ≤ 122) → (∀ c ∈ w, 97 ≤ c ∧ c ≤ 122) → (hsF T b m = sixN w ↔ (m = w.length ∧ ∀ i, i < w.length → T (b + i) = w.getD i 0)) := by
  intro m
  induction m with
  | zero =>
    intro w _ _ hw
    rcases List.eq_nil_or_concat w with rfl | ⟨w', c, rfl⟩
    · exact ⟨fun _ => ⟨rfl, fun i hi => absurd hi (Nat.not_lt_zero i)⟩, fun _ => rfl⟩
    · rw [List.concat_eq_append] at hw ⊢
      have hc := hw c (by simp)
      rw [sixN_c, hsF]
      constructor
      · intro h; omega
      · intro h; simp at h
  | succ m ih =>
    intro w hm hT hw
    have ht := hT m (by omega)
    rw [hsF, if_pos (by omega)]
    rcases List.eq_nil_or_concat w with rfl | ⟨w', c, rfl⟩
    · constructor
      · intro h; unfold sixN at h; simp at h; omega
      · intro h; simp at h
    · rw [List.concat_eq_append] at hw ⊢
      have hc := hw c (by simp)
      have ihw := ih w' (by omega) (fun i hi => hT i (by omega)) (fun q hq => hw q (by simp [hq]))
      rw [sixN_c, List.length_append, List.length_singleton]
      constructor
      · intro h
        have h1 : hsF T b m = sixN w' := by omega
        have h2 : T (b + m) = c := by omega
        obtain ⟨e1, e2⟩ := ihw.mp h1
        refine ⟨by omega, fun i hi => ?_⟩
        rcases Nat.lt_or_ge i w'.length with q | q
        · rw [List.getD_eq_getElem?_getD, List.getElem?_append_left q, ← List.getD_eq_getElem?_getD]; exact e2 i q
        · rw [List.getD_eq_getElem?_getD, List.getElem?_append_right q, show i - w'.length = 0 by omega, show i = m by omega]; exact h2
      · rintro ⟨e1, e2⟩
        have h1 : hsF T b m = sixN w' := ihw.mpr ⟨by omega, fun i hi => by
          have := e2 i (by omega)
          rw [List.getD_eq_getElem?_getD, List.getElem?_append_left hi, ← List.getD_eq_getElem?_getD] at this
          exact this⟩
        have h2 := e2 m (by omega)
        rw [List.getD_eq_getElem?_getD, List.getElem?_append_right (by omega), show m - w'.length = 0 by omega] at h2
        have h3 : T (b + m) = c := h2
        rw [h1, h3]
theorem hs_7 {T : Nat → Nat} {b m : Nat} (h : 6 ≤ m) : hsF T b m = hsF T b 6 := by
  induction m with
  | zero => omega
  | succ m ih =>
    rcases Nat.eq_or_lt_of_le h with e | e
    · rw [← e]
    · rw [hsF, if_neg (by omega)]; exact ih (by omega)
theorem hs_le {T : Nat → Nat} {b : Nat} : ∀ m, (∀ i, i < m → T (b + i) ≤ 122) → hsF T b m ≤ 27 ^ 6 := by
  have key : ∀ m, m ≤ 6 → (∀ i, i < m → T (b + i) ≤ 122) → hsF T b m < 27 ^ m := by
    intro m
    induction m with
    | zero => intro _ _; rw [hsF]; decide
    | succ m ih =>
      intro h1 h2
      have := ih (by omega) (fun i hi => h2 i (by omega))
      have := h2 m (by omega)
      rw [hsF, if_pos (by omega), Nat.pow_succ]
      omega
  intro m hT
  rcases Nat.lt_or_ge m 6 with q | q
  · have h1 := key m (by omega) hT
    have h2 : 27 ^ m ≤ 27 ^ 6 := Nat.pow_le_pow_right (by decide) (by omega)
    omega
  · rw [hs_7 q]
    have h1 := key 6 (Nat.le_refl 6) (fun i hi => hT i (by omega))
    omega
/-- the numbers of a part, one behind the other, each with its bounds lo ≤ v < hx: the fault and its place, or none; where it ends; the numbers -/
def nmS (T : Nat → Nat) (n : Nat) : List (Nat × Nat) → Nat → Option (Nat × Nat) × Nat × List Nat
  | [], p => (none, p, [])
  | q :: L, p =>
    if rn isDg T n (rn isBl T n p) = rn isBl T n p then (some (1, rn isBl T n p), rn isDg T n (rn isBl T n p), [])
    else if q.1 ≤ nvF T (rn isBl T n p) (rn isDg T n (rn isBl T n p) - rn isBl T n p) ∧ nvF T (rn isBl T n p) (rn isDg T n (rn isBl T n p) - rn isBl T n p) < q.2 then
      ((nmS T n L (rn isDg T n (rn isBl T n p))).1, (nmS T n L (rn isDg T n (rn isBl T n p))).2.1, nvF T (rn isBl T n p) (rn isDg T n (rn isBl T n p) - rn isBl T n p) :: (nmS T n L (rn isDg T n (rn isBl T n p))).2.2)
    else (some (2, rn isBl T n p), rn isDg T n (rn isBl T n p), [])
/-- which of the words lies from b to e -/
def wdB (T : Nat → Nat) (b e : Nat) (w : List Nat) : Bool := (e - b == w.length) && (List.range w.length).all (fun i => T (b + i) == w.getD i 0)
theorem wdB_iff {T : Nat → Nat} {b e : Nat} {w : List Nat} : wdB T b e w = true ↔ (e - b = w.length ∧ ∀ i, i < w.length → T (b + i) = w.getD i 0) := by
  unfold wdB
  rw [Bool.and_eq_true, List.all_eq_true]
  constructor
  · rintro ⟨h1, h2⟩
    exact ⟨by simpa using h1, fun i hi => by have := h2 i (List.mem_range.mpr hi); simpa using this⟩
  · rintro ⟨h1, h2⟩
    exact ⟨by simpa using h1, fun i hi => by have := h2 i (List.mem_range.mp hi); simpa using this⟩
def wrdF (T : Nat → Nat) (b e : Nat) (wl : List (List Nat)) : Option Nat := wl.findIdx? (fun w => wdB T b e w)
/-- a part: the fault and its place, or none; where it ends; what it tells -/
def ptS (T : Nat → Nat) (n : Nat) (wl : List (List Nat)) (bd : Nat → List (Nat × Nat)) (full : Nat → Bool) (k : Nat) : Option (Nat × Nat) × Nat × Option (Nat × List Nat) :=
  match wrdF T k (rn isLt T n k) wl with
  | none => (some (1, k), rn isLt T n k, none)
  | some q =>
    if full q = true then (some (3, k), rn isLt T n k, none)
    else match nmS T n (bd q) (rn isLt T n k) with
      | (some f, p, _) => (some f, p, none)
      | (none, p, vs) => if rn isBl T n p < n ∧ T (rn isBl T n p) = 59 then (none, rn isBl T n p + 1, some (q, vs)) else (some (1, rn isBl T n p), rn isBl T n p, none)
/-- a siege's text: bounds, what is told, how a part changes it: walls, their numbers, the duke's .. cost's, the fears by nearness -/
def bd6 : Nat → List (Nat × Nat) := fun q => [[(1, 100), (0, 51)], [(0, 10000), (0, 1000), (0, 10)], [(0, 10000), (0, 1000), (0, 10)], [(0, 10000), (0, 101)], [(0, 101), (0, 51), (0, 51)], [(0, 10), (0, 21)], [(0, 10)], [(0, 100), (0, 100)]].getD q []
def bd5 (w : Nat) : Nat → List (Nat × Nat) := fun q => [[(0, 1000)], [(0, 1000)], [(0, 10)], [(0, 100)], [(0, 100)], [(1, 37)], [(0, w), (0, 36)]].getD q []
end
section
/-! the four letters that a number brings to the tape -/
def btN (v : Int32) (i : Nat) : Nat := v.toBitVec.toNat / 2 ^ (24 - 8 * i) % 256
theorem bt_lt (v : Int32) (i : Nat) : btN v i < 256 := Nat.mod_lt _ (by decide)
theorem t8_of (x : Int32) : x.toInt8 = Int8.ofBitVec (BitVec.ofNat 8 (x.toBitVec.toNat % 256)) := by
  apply Int8.toBitVec_inj.mp
  rw [Int32.toBitVec_toInt8, BitVec.signExtend_eq_setWidth_of_le _ (by decide)]
  apply BitVec.eq_of_toNat_eq
  rw [BitVec.toNat_setWidth]
  show _ = (BitVec.ofNat 8 (x.toBitVec.toNat % 256)).toNat
  rw [BitVec.toNat_ofNat]
  omega
theorem bc_tab : ∀ m : Nat, m < 256 → vp_nar .byte ((Int8.ofBitVec (BitVec.ofNat 8 m)).toInt32) = sbI m := by decide +kernel
theorem bc_put {v y : Int32} {i : Nat} (hy : (y.toUInt32 &&& Int32.toUInt32 31).toNat % 32 = 24 - 8 * i) : vp_nar .byte ((Int32.toInt8 ((Int32.toUInt32 v >>> (y.toUInt32 &&& Int32.toUInt32 31)).toInt32)).toInt32) = sbI (btN v i) := by
  rw [t8_of, bc_tab _ (Nat.mod_lt _ (by decide))]
  have e : (Int32.toUInt32 v >>> (y.toUInt32 &&& Int32.toUInt32 31)).toInt32.toBitVec.toNat = v.toBitVec.toNat / 2 ^ (24 - 8 * i) := by
    show (Int32.toUInt32 v >>> (y.toUInt32 &&& Int32.toUInt32 31)).toNat = _
    rw [UInt32.toNat_shiftRight, hy, Nat.shiftRight_eq_div_pow]
    rfl
  rw [e]
  rfl
theorem bm_get {v y : Int32} {d : Nat} (hy : (y.toBitVec.smod 32).toNat = d) (hd : d = 24 ∨ d = 16 ∨ d = 8 ∨ d = 0) : (v >>> y) &&& 255 = nI (v.toBitVec.toNat / 2 ^ d % 256) := by
  apply Int32.toBitVec_inj.mp
  apply BitVec.eq_of_toNat_eq
  rw [Int32.toBitVec_and, BitVec.toNat_and]
  have e : (v >>> y).toBitVec.toNat = (v.toBitVec.sshiftRight d).toNat := by rw [← hy]; rfl
  have e2 : (255 : Int32).toBitVec.toNat = 2 ^ 8 - 1 := by decide
  have e3 : (nI (v.toBitVec.toNat / 2 ^ d % 256)).toBitVec.toNat = v.toBitVec.toNat / 2 ^ d % 256 := by
    show (BitVec.ofNat 32 (v.toBitVec.toNat / 2 ^ d % 256)).toNat = _
    rw [BitVec.toNat_ofNat]
    have := Nat.mod_lt (v.toBitVec.toNat / 2 ^ d) (by decide : 256 > 0)
    omega
  rw [e, e2, e3, Nat.and_two_pow_sub_one_eq_mod, BitVec.toNat_sshiftRight]
  have hv := v.toBitVec.isLt
  simp only [Nat.shiftRight_eq_div_pow]
  split
  · rename_i hm
    rcases hd with rfl | rfl | rfl | rfl <;> omega
  · rfl
/-- four letters more -/
def ptT (f : Nat → Int32) (k : Nat) (v : Int32) : Nat → Int32 := upd (upd (upd (upd f k (sbI (btN v 0))) (k + 1) (sbI (btN v 1))) (k + 1 + 1) (sbI (btN v 2))) (k + 1 + 1 + 1) (sbI (btN v 3))
def pnT (T : Nat → Nat) (k : Nat) (v : Int32) : Nat → Nat := fun j => if j < k then T j else btN v (j - k)
theorem pt_ok {T : Nat → Nat} {f : Nat → Int32} {k : Nat} {v : Int32} (h : ∀ j, j < k → T j < 256 ∧ f j = sbI (T j)) : ∀ j, j < k + 4 → pnT T k v j < 256 ∧ ptT f k v j = sbI (pnT T k v j) := by
  intro j hj
  unfold pnT ptT upd
  rcases Nat.lt_or_ge j k with q | q
  · rw [if_pos q, if_neg (by omega), if_neg (by omega), if_neg (by omega), if_neg (by omega)]
    exact h j q
  · rw [if_neg (by omega)]
    refine ⟨bt_lt _ _, ?_⟩
    rcases (show j = k ∨ j = k + 1 ∨ j = k + 1 + 1 ∨ j = k + 1 + 1 + 1 by omega) with e | e | e | e
    · rw [if_neg (by omega), if_neg (by omega), if_neg (by omega), if_pos e, show j - k = 0 by omega]
    · rw [if_neg (by omega), if_neg (by omega), if_pos e, show j - k = 1 by omega]
    · rw [if_neg (by omega), if_pos e, show j - k = 2 by omega]
    · rw [if_pos e, show j - k = 3 by omega]
/-- twenty letters more -/
def ptT5 (f : Nat → Int32) (k : Nat) (v1 v2 v3 v4 v5 : Int32) : Nat → Int32 := ptT (ptT (ptT (ptT (ptT f k v1) (k + 4) v2) (k + 4 + 4) v3) (k + 4 + 4 + 4) v4) (k + 4 + 4 + 4 + 4) v5
def pnT5 (T : Nat → Nat) (k : Nat) (v1 v2 v3 v4 v5 : Int32) : Nat → Nat := pnT (pnT (pnT (pnT (pnT T k v1) (k + 4) v2) (k + 4 + 4) v3) (k + 4 + 4 + 4) v4) (k + 4 + 4 + 4 + 4) v5
theorem pt_ok5 {T : Nat → Nat} {f : Nat → Int32} {k : Nat} {v1 v2 v3 v4 v5 : Int32} (h : ∀ j, j < k → T j < 256 ∧ f j = sbI (T j)) : ∀ j, j < k + 20 → pnT5 T k v1 v2 v3 v4 v5 j < 256 ∧ ptT5 f k v1 v2 v3 v4 v5 j = sbI (pnT5 T k v1 v2 v3 v4 v5 j) := fun j hj => pt_ok (pt_ok (pt_ok (pt_ok (pt_ok h)))) j (by omega)
section FM
variable {T : Nat → Nat} {k j : Nat} {v1 v2 v3 v4 v5 : Int32}
theorem pn_0 (h : j < k) : pnT5 T k v1 v2 v3 v4 v5 j = T j := by
  unfold pnT5 pnT
  rw [if_pos (by omega), if_pos (by omega), if_pos (by omega), if_pos (by omega), if_pos (by omega)]
theorem pn_lt (h : ∀ j, j < k → T j < 256) (hj : j < k + 20) : pnT5 T k v1 v2 v3 v4 v5 j < 256 := by
  unfold pnT5 pnT
  (repeat' split) <;> first | exact bt_lt _ _ | exact h j (by omega)
theorem sh_tab : ∀ j : Nat, j < 20 → (((24 - (8 * ((nI j) - (nI j) / 4 * 4))) &&& 31 : Int32).toBitVec.smod 32).toNat = 24 - 8 * (j % 4) := by decide +kernel
theorem fm_v {v : Int32} {i : Nat} (hj : j < 20) (hi : j % 4 = i) : (v >>> ((24 - (8 * ((nI j) - (nI j) / 4 * 4))) &&& 31)) &&& 255 = nI (btN v i) := by
  have h := sh_tab j hj
  rw [hi] at h
  exact bm_get h (by omega)
theorem fm_1 (h1 : 0 ≤ j) (h2 : j < 4) : (v1 >>> ((24 - (8 * ((nI j) - (nI j) / 4 * 4))) &&& 31)) &&& 255 = nI (pnT5 T k v1 v2 v3 v4 v5 (k + j)) := by
  have e : pnT5 T k v1 v2 v3 v4 v5 (k + j) = btN v1 (k + j - k) := by
    unfold pnT5 pnT
    rw [if_pos (by omega), if_pos (by omega), if_pos (by omega), if_pos (by omega), if_neg (by omega)]
  rw [e]
  exact fm_v (by omega) (by omega)
theorem fm_2 (h1 : 4 ≤ j) (h2 : j < 8) : (v2 >>> ((24 - (8 * ((nI j) - (nI j) / 4 * 4))) &&& 31)) &&& 255 = nI (pnT5 T k v1 v2 v3 v4 v5 (k + j)) := by
  have e : pnT5 T k v1 v2 v3 v4 v5 (k + j) = btN v2 (k + j - (k + 4)) := by
    unfold pnT5 pnT
    rw [if_pos (by omega), if_pos (by omega), if_pos (by omega), if_neg (by omega)]
  rw [e]
  exact fm_v (by omega) (by omega)
theorem fm_3 (h1 : 8 ≤ j) (h2 : j < 12) : (v3 >>> ((24 - (8 * ((nI j) - (nI j) / 4 * 4))) &&& 31)) &&& 255 = nI (pnT5 T k v1 v2 v3 v4 v5 (k + j)) := by
  have e : pnT5 T k v1 v2 v3 v4 v5 (k + j) = btN v3 (k + j - (k + 4 + 4)) := by
    unfold pnT5 pnT
    rw [if_pos (by omega), if_pos (by omega), if_neg (by omega)]
  rw [e]
  exact fm_v (by omega) (by omega)
theorem fm_4 (h1 : 12 ≤ j) (h2 : j < 16) : (v4 >>> ((24 - (8 * ((nI j) - (nI j) / 4 * 4))) &&& 31)) &&& 255 = nI (pnT5 T k v1 v2 v3 v4 v5 (k + j)) := by
  have e : pnT5 T k v1 v2 v3 v4 v5 (k + j) = btN v4 (k + j - (k + 4 + 4 + 4)) := by
    unfold pnT5 pnT
    rw [if_pos (by omega), if_neg (by omega)]
  rw [e]
  exact fm_v (by omega) (by omega)
theorem fm_5 (h1 : 16 ≤ j) (h2 : j < 20) : (v5 >>> ((24 - (8 * ((nI j) - (nI j) / 4 * 4))) &&& 31)) &&& 255 = nI (pnT5 T k v1 v2 v3 v4 v5 (k + j)) := by
  have e : pnT5 T k v1 v2 v3 v4 v5 (k + j) = btN v5 (k + j - (k + 4 + 4 + 4 + 4)) := by
    unfold pnT5 pnT
    rw [if_neg (by omega)]
  rw [e]
  exact fm_v (by omega) (by omega)
theorem fd_step {G : Nat → Nat} {cj : Nat → Int32} {x : Int32} (h : ∀ i, i < k + j → cj i = nI (G i)) (hx : x = nI (G (k + j))) : ∀ i, i < k + (j + 1) → upd cj (k + j) x i = nI (G i) := by
  intro i hi
  unfold upd
  by_cases e : i = k + j
  · rw [if_pos e, e]; exact hx
  · rw [if_neg e]; exact h i (by omega)
end FM
end
section
/-- the weakest of the walls 0 .. i -/
def wkI (f : Nat → Int32) : Nat → Nat
  | 0 => 0
  | i + 1 => if f (12 + wkI f i) ≤ f (12 + (i + 1)) then wkI f i else i + 1
theorem wkI_le (f : Nat → Int32) : ∀ i, wkI f i ≤ i
  | 0 => Nat.le_refl 0
  | i + 1 => by
    rw [wkI]
    have := wkI_le f i
    split <;> omega
theorem wkI_s {f : Nat → Int32} {i : Nat} (h : 1 ≤ i) : wkI f i = if f (12 + wkI f (i - 1)) ≤ f (12 + i) then wkI f (i - 1) else i := by
  obtain ⟨k, rfl⟩ : ∃ k, i = k + 1 := ⟨i - 1, by omega⟩
  rfl
/-- a wall that is due: none, or one of them -/
theorem wd_in {wb : Nat → Int32} {x : Int32} {w : Nat} (hw : w ≤ 6) (hb : ∀ k, k < 36 → -1 ≤ wb k) : wdF wb x (nI w) = -1 ∨ ∃ k, k < w ∧ wdF wb x (nI w) = nI k := by
  unfold wdF
  split
  · exact Or.inl rfl
  · rename_i h
    have h1 : -1 ≤ wdX wb x := by
      unfold wdX
      split
      · decide
      · rename_i h2
        exact hb _ (by have := (he_within_nat (B := 35) rfl (by decide) h2).2; omega)
    rcases Decidable.em (wdX wb x < 0) with h3 | h3
    · left
      rw [Int32.le_iff_toInt_le] at h1
      rw [Int32.lt_iff_toInt_lt] at h3
      rw [← Int32.toInt_inj]
      have e1 : (-1 : Int32).toInt = -1 := by decide
      have e0 : (0 : Int32).toInt = 0 := by decide
      omega
    · right
      obtain ⟨j, hj, e⟩ := nI_of h3
      rw [e] at h ⊢
      refine ⟨j, Nat.lt_of_not_le (fun h9 => h ((nI_leI (by omega) hj).mpr h9)), rfl⟩
theorem nI_nm1 {k : Nat} (h : k < 2147483648) : ¬ nI k = -1 := fun h9 => nI_pos h (by rw [h9]; decide)
theorem nI_le0 {k : Nat} (h : k < 2147483648) (h1 : nI k ≤ 0) : k = 0 := by
  have := (nI_leI h (b := 0) (by decide)).mp h1
  omega
set_option maxHeartbeats 4000000 in
set_option maxRecDepth 100000 in
theorem g_X4_weakest (l : Launch) (g : he_G) (h0 : Nat) (q0 : Nat) (q1 : Nat) (mo : Int32) (f : Nat → Int32) (w : Nat) (hw6 : w ≤ 6) : he_I l yX4_weakest wsX4_weakest 0 0 0 0 g [.ref h0, .int (nI w)] [(oX4 h0 q0 q1 mo), (aI g q0 24 f)] (fun (r : Int32) (u : Nat) => r = nI u ∧ (u < w ∨ u = 0)) (fun (u : Nat) => [(oX4 h0 q0 q1 mo), (aI g q0 24 f)]) := by
  refine he_begin (l := l) (g := g) (y := yX4_weakest) (wl := wsX4_weakest) (fr := 0) (lo := 0) (mc := 0) (ms := 0) (av := [.ref h0, .int (nI w)]) (ws := [(oX4 h0 q0 q1 mo), (aI g q0 24 f)]) (cc := cX4_weakest) (maxL := 4) (ret := (some .int)) (fun A => va_Qi (fun (r : Int32) (u : Nat) => r = nI u ∧ (u < w ∨ u = 0)) (fun u t => he_post g A ((fun (u : Nat) => [(oX4 h0 q0 q1 mo), (aI g q0 24 f)]) u) t) A) (by decide) rfl (Nat.le_of_ble_eq_true rfl) ?_
  intro p e s m args below meth c A ls H locs Q hQ hB
  obtain ⟨hx, hb, hr, hml, hown, hts, hlk, hin, hP, hK, hD, hS, hA, hE, hl⟩ := hB
  have hl : lv_has ls 4 [(0, .ref h0), (1, .int (nI w))] := hl
  have f9 := hts (.fieldLink RX4 9 "HiredEnemy$Course" "now" "[I") (iwoX4_weakest (k := 0) rfl)
  have inX4 : ∀ w ∈ wsX40, w ∈ wsX4_weakest := innX4_weakest_X4
  refine lv_iconst (v := 0) hx hb dX4_weakest_0 (by decide) ?_
  refine lv_istore_n (lv' := [(2, .int 0), (0, .ref h0), (1, .int (nI w))]) hx hb dX4_weakest_1 rfl hl (by decide) rfl (fun ls hl => ?_)
  refine lv_iconst (v := 1) hx hb dX4_weakest_2 (by decide) ?_
  refine lv_istore_n (lv' := [(3, .int 1), (2, .int 0), (0, .ref h0), (1, .int (nI w))]) hx hb dX4_weakest_3 rfl hl (by decide) rfl (fun ls hl => ?_)
  have loop4 : ∀ (n9 : Nat) (j : Nat) (b : Nat), w + 1 - j < n9 → (1 ≤ j) → (j ≤ w ∨ j = 1) → (b < 6) → (b < w ∨ b = 0) → ∀ (H : Heap) (locs : List Loc) (ls : Array Slot), va_P g.1 vwCl [(oX4 h0 q0 q1 mo), (aI g q0 24 f)] H → va_D A [(oX4 h0 q0 q1 mo), (aI g q0 24 f)] → va_S A s.heap H locs → lv_has ls 4 [(0, .ref h0), (1, .int (nI w)), (2, .int (nI b)), (3, .int (nI j))] → W p l e (he_room 0 0 0 0) s m args below meth c H locs 0 0 Q (F0 m 4 ls []) := by
    intro n9
    induction n9 with
    | zero => intro j b hm9; exact absurd hm9 (Nat.not_lt_zero _)
    | succ n9 ih4 =>
      intro j b hm9 hj1 hj hb6 hb0 H locs ls hP hD hS hl
      refine lv_iload_n hx hb dX4_weakest_4 rfl (lv_at hl 3 rfl) ?_
      refine lv_iload_n hx hb dX4_weakest_5 rfl (lv_at hl 1 rfl) ?_
      refine lv_icmp_ge (tgt := 38) hx hb dX4_weakest_6 (by decide) (fun c_1 => ?_) (fun c_1 => ?_)
      · have k_2 : w ≤ j := (he_cle (a := w) (b := j) rfl rfl (by omega) (by omega)).mp c_1
        refine lv_iload_n hx hb dX4_weakest_38 rfl (lv_at hl 2 rfl) ?_
        exact he_ri hQ hx hb hr hlk hP hD hS dX4_weakest_39 (Nat.le_of_ble_eq_true rfl) (Nat.le_of_ble_eq_true rfl) (b) (rfl) (⟨rfl, hb0⟩)
      · have k_3 : ¬ (w ≤ j) := fun h9 => c_1 ((he_cle (a := w) (b := j) rfl rfl (by omega) (by omega)).mpr h9)
        refine lv_aload_n hx hb dX4_weakest_9 rfl (lv_at hl 0 rfl) ?_
        refine va_get (v := .ref q0) (T := TX4) (N := 3) hx hb hts inX4 hown hK hP 0 rfl rfl 0 (by decide) f9 (fun _ h9 => h9) rfl dX4_weakest_10 ?_
        refine lv_bipush (v := 12) hx hb dX4_weakest_13 (by decide) ?_
        refine lv_iload_n hx hb dX4_weakest_15 rfl (lv_at hl 3 rfl) ?_
        refine lv_iadd hx hb dX4_weakest_16 ?_
        refine he_top (nI (12 + j)) (nI_add 12 j) ?_
        refine he_iald hx hb hK hP 1 rfl (12 + j) rfl (by first | assumption | decide | omega) (by first | decide | assumption) (f (12 + j)) rfl dX4_weakest_17 ?_
        refine lv_aload_n hx hb dX4_weakest_18 rfl (lv_at hl 0 rfl) ?_
        refine va_get (v := .ref q0) (T := TX4) (N := 3) hx hb hts inX4 hown hK hP 0 rfl rfl 0 (by decide) f9 (fun _ h9 => h9) rfl dX4_weakest_19 ?_
        refine lv_bipush (v := 12) hx hb dX4_weakest_22 (by decide) ?_
        refine lv_iload_n hx hb dX4_weakest_24 rfl (lv_at hl 2 rfl) ?_
        refine lv_iadd hx hb dX4_weakest_25 ?_
        refine he_top (nI (12 + b)) (nI_add 12 b) ?_
        refine he_iald hx hb hK hP 1 rfl (12 + b) rfl (by first | assumption | decide | omega) (by first | decide | assumption) (f (12 + b)) rfl dX4_weakest_26 ?_
        refine lv_icmp_ge (tgt := 32) hx hb dX4_weakest_27 (by decide) (fun c_4 => ?_) (fun c_4 => ?_)
        · refine lv_iinc (v := nI (j + 1)) (lv' := [(3, .int (nI (j + 1))), (0, .ref h0), (1, .int (nI w)), (2, .int (nI b))]) hx hb dX4_weakest_32 hl (k := 3) rfl (nI_1 j) (by decide) rfl (fun ls hl => ?_)
          refine lv_goto (tgt := 4) hx hb dX4_weakest_35 (by decide) ?_
          exact ih4 (j + 1) b (by omega) (by omega) (by omega) (by omega) (by omega) _ _ _ hP hD hS (lv_sub hl [1, 2, 3, 0] rfl)
        · refine lv_iload_n hx hb dX4_weakest_30 rfl (lv_at hl 3 rfl) ?_
          refine lv_istore_n (lv' := [(2, .int (nI j)), (0, .ref h0), (1, .int (nI w)), (3, .int (nI j))]) hx hb dX4_weakest_31 rfl hl (by decide) rfl (fun ls hl => ?_)
          refine lv_iinc (v := nI (j + 1)) (lv' := [(3, .int (nI (j + 1))), (2, .int (nI j)), (0, .ref h0), (1, .int (nI w))]) hx hb dX4_weakest_32 hl (k := 3) rfl (nI_1 j) (by decide) rfl (fun ls hl => ?_)
          refine lv_goto (tgt := 4) hx hb dX4_weakest_35 (by decide) ?_
          exact ih4 (j + 1) j (by omega) (by omega) (by omega) (by omega) (by omega) _ _ _ hP hD hS (lv_sub hl [2, 3, 1, 0] rfl)
  exact loop4 ((w + 1 - 1) + 1) 1 0 (Nat.lt_succ_self _) (Nat.le_refl 1) (Or.inr rfl) (by decide) (Or.inr rfl) _ _ _ hP hD hS (lv_sub hl [2, 3, 1, 0] rfl)
set_option maxHeartbeats 4000000 in
set_option maxRecDepth 100000 in
theorem g_X4_breach (l : Launch) (g : he_G) (h0 : Nat) (q0 : Nat) (q1 : Nat) (mo : Int32) (f : Nat → Int32) (p0 : Nat) (p1 : Nat) (p2 : Nat) (p3 : Nat) (p4 : Nat) (w : Int32) (sd : Nat → Int32) (st : Nat → Int32) (t0 : Nat) (t1 : Nat) (t2 : Nat) (pw : Int32) (pd : Nat → Int32) (k : Nat) (hk : k < 6) : he_V l yX4_breach wsX4_breach 2 37 0 0 g [.ref h0, .ref p0, .ref t0, .int (nI k)] [(oX4 h0 q0 q1 mo), (aI g q0 24 f), (oX6 p0 p1 p2 p3 p4 w), (aI g p1 24 sd), (aI g p3 6 st), (oX5 t0 t1 t2 pw), (aI g t1 6 pd)] (fun (u : Nat → Int32) => u 10 = f 10) (fun (u : Nat → Int32) => [(oX4 h0 q0 q1 mo), (aI g q0 24 u), (oX6 p0 p1 p2 p3 p4 w), (aI g p1 24 sd), (aI g p3 6 st), (oX5 t0 t1 t2 pw), (aI g t1 6 pd)]) := by
  refine he_begin (l := l) (g := g) (y := yX4_breach) (wl := wsX4_breach) (fr := 2) (lo := 37) (mc := 0) (ms := 0) (av := [.ref h0, .ref p0, .ref t0, .int (nI k)]) (ws := [(oX4 h0 q0 q1 mo), (aI g q0 24 f), (oX6 p0 p1 p2 p3 p4 w), (aI g p1 24 sd), (aI g p3 6 st), (oX5 t0 t1 t2 pw), (aI g t1 6 pd)]) (cc := cX4_breach) (maxL := 4) (ret := none) (fun A => va_Qv (fun (u : Nat → Int32) => u 10 = f 10) (fun u t => he_post g A ((fun (u : Nat → Int32) => [(oX4 h0 q0 q1 mo), (aI g q0 24 u), (oX6 p0 p1 p2 p3 p4 w), (aI g p1 24 sd), (aI g p3 6 st), (oX5 t0 t1 t2 pw), (aI g t1 6 pd)]) u) t) A) (by decide) rfl (Nat.le_of_ble_eq_true rfl) ?_
  intro p e s m args below meth c A ls H locs Q hQ hB
  obtain ⟨hx, hb, hr, hml, hown, hts, hlk, hin, hP, hK, hD, hS, hA, hE, hl⟩ := hB
  have hl : lv_has ls 4 [(0, .ref h0), (1, .ref p0), (2, .ref t0), (3, .int (nI k))] := hl
  have f9 := hts (.fieldLink RX4 9 "HiredEnemy$Course" "now" "[I") (iwoX4_breach (k := 0) rfl)
  have inX4 : ∀ w ∈ wsX40, w ∈ wsX4_breach := innX4_breach_X4
  have f36 := hts (.fieldLink RX4 36 "HiredEnemy$Plan" "strength" "[I") (iwoX4_breach (k := 1) rfl)
  have inX6 : ∀ w ∈ wsX60, w ∈ wsX4_breach := innX4_breach_X6
  have f28 := hts (.fieldLink RX4 28 "HiredEnemy$Plan" "said" "[I") (iwoX4_breach (k := 2) rfl)
  have f57 := hts (.fieldLink RX4 57 "HiredEnemy$Pact" "said" "[I") (iwoX4_breach (k := 3) rfl)
  have inX5 : ∀ w ∈ wsX50, w ∈ wsX4_breach := innX4_breach_X5
  refine lv_aload_n hx hb dX4_breach_0 rfl (lv_at hl 0 rfl) ?_
  refine va_get (v := .ref q0) (T := TX4) (N := 3) hx hb hts inX4 hown hK hP 0 rfl rfl 0 (by decide) f9 (fun _ h9 => h9) rfl dX4_breach_1 ?_
  refine lv_bipush (v := 6) hx hb dX4_breach_4 (by decide) ?_
  refine lv_dup2_11 hx hb dX4_breach_6 rfl rfl ?_
  refine he_iald hx hb hK hP 1 rfl (6) (by decide) (by decide) (by first | decide | assumption) (f 6) rfl dX4_breach_7 ?_
  refine lv_iconst (v := 1) hx hb dX4_breach_8 (by decide) ?_
  refine lv_iadd hx hb dX4_breach_9 ?_
  refine he_iast hx hb hK hP hD hS 1 rfl (6) (by decide) (by decide) (by first | decide | assumption) dX4_breach_10 (fun H locs hP hD hS => ?_)
  have hP : va_P g.1 vwCl [(oX4 h0 q0 q1 mo), (aI g q0 24 (upd f 6 ((f 6) + 1))), (oX6 p0 p1 p2 p3 p4 w), (aI g p1 24 sd), (aI g p3 6 st), (oX5 t0 t1 t2 pw), (aI g t1 6 pd)] H := hP
  have hD : va_D A [(oX4 h0 q0 q1 mo), (aI g q0 24 (upd f 6 ((f 6) + 1))), (oX6 p0 p1 p2 p3 p4 w), (aI g p1 24 sd), (aI g p3 6 st), (oX5 t0 t1 t2 pw), (aI g t1 6 pd)] := hD
  refine lv_aload_n hx hb dX4_breach_11 rfl (lv_at hl 0 rfl) ?_
  refine va_get (v := .ref q0) (T := TX4) (N := 3) hx hb hts inX4 hown hK hP 0 rfl rfl 0 (by decide) f9 (fun _ h9 => h9) rfl dX4_breach_12 ?_
  refine lv_bipush (v := 18) hx hb dX4_breach_15 (by decide) ?_
  refine lv_iload_n hx hb dX4_breach_17 rfl (lv_at hl 3 rfl) ?_
  refine lv_iadd hx hb dX4_breach_18 ?_
  refine he_top (nI (18 + k)) (nI_add 18 k) ?_
  refine lv_dup2_11 hx hb dX4_breach_19 rfl rfl ?_
  refine he_iald hx hb hK hP 1 rfl (18 + k) rfl (by first | assumption | decide | omega) (by first | decide | assumption) ((upd f 6 ((f 6) + 1)) (18 + k)) rfl dX4_breach_20 ?_
  refine lv_iconst (v := 1) hx hb dX4_breach_21 (by decide) ?_
  refine lv_iadd hx hb dX4_breach_22 ?_
  refine he_iast hx hb hK hP hD hS 1 rfl (18 + k) rfl (by first | assumption | decide | omega) (by first | decide | assumption) dX4_breach_23 (fun H locs hP hD hS => ?_)
  have hP : va_P g.1 vwCl [(oX4 h0 q0 q1 mo), (aI g q0 24 (upd (upd f 6 ((f 6) + 1)) (18 + k) (((upd f 6 ((f 6) + 1)) (18 + k)) + 1))), (oX6 p0 p1 p2 p3 p4 w), (aI g p1 24 sd), (aI g p3 6 st), (oX5 t0 t1 t2 pw), (aI g t1 6 pd)] H := hP
  have hD : va_D A [(oX4 h0 q0 q1 mo), (aI g q0 24 (upd (upd f 6 ((f 6) + 1)) (18 + k) (((upd f 6 ((f 6) + 1)) (18 + k)) + 1))), (oX6 p0 p1 p2 p3 p4 w), (aI g p1 24 sd), (aI g p3 6 st), (oX5 t0 t1 t2 pw), (aI g t1 6 pd)] := hD
  refine lv_aload_n hx hb dX4_breach_24 rfl (lv_at hl 0 rfl) ?_
  refine va_get (v := .ref q0) (T := TX4) (N := 3) hx hb hts inX4 hown hK hP 0 rfl rfl 0 (by decide) f9 (fun _ h9 => h9) rfl dX4_breach_25 ?_
  refine lv_bipush (v := 12) hx hb dX4_breach_28 (by decide) ?_
  refine lv_iload_n hx hb dX4_breach_30 rfl (lv_at hl 3 rfl) ?_
  refine lv_iadd hx hb dX4_breach_31 ?_
  refine he_top (nI (12 + k)) (nI_add 12 k) ?_
  refine lv_aload_n hx hb dX4_breach_32 rfl (lv_at hl 1 rfl) ?_
  refine va_get (v := .ref p3) (T := TX6) (N := 5) hx hb hts inX6 hown hK hP 2 rfl rfl 2 (by decide) f36 (fun _ h9 => h9) rfl dX4_breach_33 ?_
  refine lv_iload_n hx hb dX4_breach_36 rfl (lv_at hl 3 rfl) ?_
  refine he_iald hx hb hK hP 4 rfl (k) rfl (by first | assumption | decide | omega) (by first | decide | assumption) (st k) rfl dX4_breach_37 ?_
  refine he_iast hx hb hK hP hD hS 1 rfl (12 + k) rfl (by first | assumption | decide | omega) (by first | decide | assumption) dX4_breach_38 (fun H locs hP hD hS => ?_)
  have hP : va_P g.1 vwCl [(oX4 h0 q0 q1 mo), (aI g q0 24 (upd (upd (upd f 6 ((f 6) + 1)) (18 + k) (((upd f 6 ((f 6) + 1)) (18 + k)) + 1)) (12 + k) (st k))), (oX6 p0 p1 p2 p3 p4 w), (aI g p1 24 sd), (aI g p3 6 st), (oX5 t0 t1 t2 pw), (aI g t1 6 pd)] H := hP
  have hD : va_D A [(oX4 h0 q0 q1 mo), (aI g q0 24 (upd (upd (upd f 6 ((f 6) + 1)) (18 + k) (((upd f 6 ((f 6) + 1)) (18 + k)) + 1)) (12 + k) (st k))), (oX6 p0 p1 p2 p3 p4 w), (aI g p1 24 sd), (aI g p3 6 st), (oX5 t0 t1 t2 pw), (aI g t1 6 pd)] := hD
  refine lv_aload_n hx hb dX4_breach_39 rfl (lv_at hl 0 rfl) ?_
  refine lv_aload_n hx hb dX4_breach_40 rfl (lv_at hl 1 rfl) ?_
  refine va_get (v := .ref p1) (T := TX6) (N := 5) hx hb hts inX6 hown hK hP 2 rfl rfl 0 (by decide) f28 (fun _ h9 => h9) rfl dX4_breach_41 ?_
  refine lv_bipush (v := 13) hx hb dX4_breach_44 (by decide) ?_
  refine he_iald hx hb hK hP 3 rfl (13) (by decide) (by decide) (by first | decide | assumption) (sd 13) rfl dX4_breach_46 ?_
  refine he_cv (wc := [(oX4 h0 q0 q1 mo), (aI g q0 24 (upd (upd (upd f 6 ((f 6) + 1)) (18 + k) (((upd f 6 ((f 6) + 1)) (18 + k)) + 1)) (12 + k) (st k)))]) (wr := [(oX6 p0 p1 p2 p3 p4 w), (aI g p1 24 sd), (aI g p3 6 st), (oX5 t0 t1 t2 pw), (aI g t1 6 pd)]) (va_runV (As := [.int (sd 13)]) (rest := []) ⟨hx, hb, hml, hown, hts⟩ (c_X4_frighten l g h0 q0 q1 mo (upd (upd (upd f 6 ((f 6) + 1)) (18 + k) (((upd f 6 ((f 6) + 1)) (18 + k)) + 1)) (12 + k) (st k)) (sd 13) H.size) (cwV 1 hts gX4_breach_X4_frighten rfl rfl rfl (by decide +kernel) ⟨Nat.le_of_ble_eq_true rfl, Nat.le_of_ble_eq_true rfl⟩) (he_preV (wc := [(oX4 h0 q0 q1 mo), (aI g q0 24 (upd (upd (upd f 6 ((f 6) + 1)) (18 + k) (((upd f 6 ((f 6) + 1)) (18 + k)) + 1)) (12 + k) (st k)))]) hK hP hD hS hA hE [0, 1] rfl rfl 0 rfl rfl) rfl rfl hl.1 rfl (lv_room (Nat.le_of_ble_eq_true rfl)) dX4_breach_47 ⟨(Nat.le_of_ble_eq_true rfl), (Nat.le_of_ble_eq_true rfl)⟩) hP hD hS hA [0, 1] [2, 3, 4, 5, 6] rfl rfl rfl (by decide) (fun u_2 H locs h_3 hP hD hS => ?_)
  have hP : va_P g.1 vwCl [(oX6 p0 p1 p2 p3 p4 w), (aI g p1 24 sd), (aI g p3 6 st), (oX5 t0 t1 t2 pw), (aI g t1 6 pd), (oX4 h0 q0 q1 mo), (aI g q0 24 (frF (upd (upd (upd f 6 ((f 6) + 1)) (18 + k) (((upd f 6 ((f 6) + 1)) (18 + k)) + 1)) (12 + k) (st k)) (sd 13)))] H := hP
  have hD : va_D A [(oX6 p0 p1 p2 p3 p4 w), (aI g p1 24 sd), (aI g p3 6 st), (oX5 t0 t1 t2 pw), (aI g t1 6 pd), (oX4 h0 q0 q1 mo), (aI g q0 24 (frF (upd (upd (upd f 6 ((f 6) + 1)) (18 + k) (((upd f 6 ((f 6) + 1)) (18 + k)) + 1)) (12 + k) (st k)) (sd 13)))] := hD
  refine lv_aload_n hx hb dX4_breach_50 rfl (lv_at hl 0 rfl) ?_
  refine lv_iconst (v := 0) hx hb dX4_breach_51 (by decide) ?_
  refine lv_iconst (v := 1) hx hb dX4_breach_52 (by decide) ?_
  refine lv_aload_n hx hb dX4_breach_53 rfl (lv_at hl 2 rfl) ?_
  refine va_get (v := .ref t1) (T := TX5) (N := 3) hx hb hts inX5 hown hK hP 3 rfl rfl 0 (by decide) f57 (fun _ h9 => h9) rfl dX4_breach_54 ?_
  refine lv_iconst (v := 4) hx hb dX4_breach_57 (by decide) ?_
  refine he_iald hx hb hK hP 4 rfl (4) (by decide) (by decide) (by first | decide | assumption) (pd 4) rfl dX4_breach_58 ?_
  refine he_cv (wc := [(oX4 h0 q0 q1 mo), (aI g q0 24 (frF (upd (upd (upd f 6 ((f 6) + 1)) (18 + k) (((upd f 6 ((f 6) + 1)) (18 + k)) + 1)) (12 + k) (st k)) (sd 13)))]) (wr := [(oX6 p0 p1 p2 p3 p4 w), (aI g p1 24 sd), (aI g p3 6 st), (oX5 t0 t1 t2 pw), (aI g t1 6 pd)]) (va_runV (As := [.int 0, .int 1, .int (pd 4)]) (rest := []) ⟨hx, hb, hml, hown, hts⟩ (c_X4_move l g h0 q0 q1 mo (frF (upd (upd (upd f 6 ((f 6) + 1)) (18 + k) (((upd f 6 ((f 6) + 1)) (18 + k)) + 1)) (12 + k) (st k)) (sd 13)) 0 1 (pd 4) (by first | assumption | decide | omega) (by first | assumption | decide | omega) H.size) (cwV 3 hts gX4_breach_X4_move rfl rfl rfl (by decide +kernel) ⟨Nat.le_of_ble_eq_true rfl, Nat.le_of_ble_eq_true rfl⟩) (he_preV (wc := [(oX4 h0 q0 q1 mo), (aI g q0 24 (frF (upd (upd (upd f 6 ((f 6) + 1)) (18 + k) (((upd f 6 ((f 6) + 1)) (18 + k)) + 1)) (12 + k) (st k)) (sd 13)))]) hK hP hD hS hA hE [5, 6] rfl rfl 5 rfl rfl) rfl rfl hl.1 rfl (lv_room (Nat.le_of_ble_eq_true rfl)) dX4_breach_59 ⟨(Nat.le_of_ble_eq_true rfl), (Nat.le_of_ble_eq_true rfl)⟩) hP hD hS hA [5, 6] [0, 1, 2, 3, 4] rfl rfl rfl (by decide) (fun u_5 H locs h_6 hP hD hS => ?_)
  have hP : va_P g.1 vwCl [(oX6 p0 p1 p2 p3 p4 w), (aI g p1 24 sd), (aI g p3 6 st), (oX5 t0 t1 t2 pw), (aI g t1 6 pd), (oX4 h0 q0 q1 mo), (aI g q0 24 (mvF (frF (upd (upd (upd f 6 ((f 6) + 1)) (18 + k) (((upd f 6 ((f 6) + 1)) (18 + k)) + 1)) (12 + k) (st k)) (sd 13)) 0 1 (pd 4)))] H := hP
  have hD : va_D A [(oX6 p0 p1 p2 p3 p4 w), (aI g p1 24 sd), (aI g p3 6 st), (oX5 t0 t1 t2 pw), (aI g t1 6 pd), (oX4 h0 q0 q1 mo), (aI g q0 24 (mvF (frF (upd (upd (upd f 6 ((f 6) + 1)) (18 + k) (((upd f 6 ((f 6) + 1)) (18 + k)) + 1)) (12 + k) (st k)) (sd 13)) 0 1 (pd 4)))] := hD
  have hP := hP.sub (ws' := [(oX4 h0 q0 q1 mo), (aI g q0 24 (mvF (frF (upd (upd (upd f 6 ((f 6) + 1)) (18 + k) (((upd f 6 ((f 6) + 1)) (18 + k)) + 1)) (12 + k) (st k)) (sd 13)) 0 1 (pd 4))), (oX6 p0 p1 p2 p3 p4 w), (aI g p1 24 sd), (aI g p3 6 st), (oX5 t0 t1 t2 pw), (aI g t1 6 pd)]) [5, 6, 0, 1, 2, 3, 4] rfl
  have hD := hD.sub (ws' := [(oX4 h0 q0 q1 mo), (aI g q0 24 (mvF (frF (upd (upd (upd f 6 ((f 6) + 1)) (18 + k) (((upd f 6 ((f 6) + 1)) (18 + k)) + 1)) (12 + k) (st k)) (sd 13)) 0 1 (pd 4))), (oX6 p0 p1 p2 p3 p4 w), (aI g p1 24 sd), (aI g p3 6 st), (oX5 t0 t1 t2 pw), (aI g t1 6 pd)]) [5, 6, 0, 1, 2, 3, 4] (by decide) rfl
  exact he_rv hQ hx hb hr hlk hP hD hS dX4_breach_62 (Nat.le_of_ble_eq_true rfl) (Nat.le_of_ble_eq_true rfl) (mvF (frF (upd (upd (upd f 6 ((f 6) + 1)) (18 + k) (((upd f 6 ((f 6) + 1)) (18 + k)) + 1)) (12 + k) (st k)) (sd 13)) 0 1 (pd 4)) (rfl) ((by rw [mvF_n _ _ _ _ _ (by decide) (by decide), frF, upd_n (by decide), upd_n (by omega), upd_n (by omega), upd_n (by decide)]))
set_option maxHeartbeats 4000000 in
set_option maxRecDepth 100000 in
theorem g_X4_shoot (l : Launch) (g : he_G) (h0 : Nat) (q0 : Nat) (q1 : Nat) (mo : Int32) (f : Nat → Int32) (sh : Nat → Int32) (p0 : Nat) (p1 : Nat) (p2 : Nat) (p3 : Nat) (p4 : Nat) (w : Nat) (sd : Nat → Int32) (st : Nat → Int32) (t0 : Nat) (t1 : Nat) (t2 : Nat) (pw : Int32) (pd : Nat → Int32) (wb : Nat → Int32) (ck : Nat) (hw6 : w ≤ 6) (hwb : ∀ k, k < 36 → -1 ≤ wb k) (hck : pd 3 = nI ck) (hc99 : ck ≤ 99) : he_V l yX4_shoot wsX4_shoot 3 60 0 0 g [.ref h0, .ref p0, .ref t0] [(oX4 h0 q0 q1 mo), (aI g q0 24 f), (aI g q1 6 sh), (oX6 p0 p1 p2 p3 p4 (nI w)), (aI g p1 24 sd), (aI g p3 6 st), (oX5 t0 t1 t2 pw), (aI g t1 6 pd), (aI g t2 36 wb)] (fun (u : (Nat → Int32) × (Nat → Int32)) => u.1 10 = f 10) (fun (u : (Nat → Int32) × (Nat → Int32)) => [(oX4 h0 q0 q1 mo), (aI g q0 24 u.1), (aI g q1 6 u.2), (oX6 p0 p1 p2 p3 p4 (nI w)), (aI g p1 24 sd), (aI g p3 6 st), (oX5 t0 t1 t2 pw), (aI g t1 6 pd), (aI g t2 36 wb)]) := by
  refine he_begin (l := l) (g := g) (y := yX4_shoot) (wl := wsX4_shoot) (fr := 3) (lo := 60) (mc := 0) (ms := 0) (av := [.ref h0, .ref p0, .ref t0]) (ws := [(oX4 h0 q0 q1 mo), (aI g q0 24 f), (aI g q1 6 sh), (oX6 p0 p1 p2 p3 p4 (nI w)), (aI g p1 24 sd), (aI g p3 6 st), (oX5 t0 t1 t2 pw), (aI g t1 6 pd), (aI g t2 36 wb)]) (cc := cX4_shoot) (maxL := 9) (ret := none) (fun A => va_Qv (fun (u : (Nat → Int32) × (Nat → Int32)) => u.1 10 = f 10) (fun u t => he_post g A ((fun (u : (Nat → Int32) × (Nat → Int32)) => [(oX4 h0 q0 q1 mo), (aI g q0 24 u.1), (aI g q1 6 u.2), (oX6 p0 p1 p2 p3 p4 (nI w)), (aI g p1 24 sd), (aI g p3 6 st), (oX5 t0 t1 t2 pw), (aI g t1 6 pd), (aI g t2 36 wb)]) u) t) A) (by decide) rfl (Nat.le_of_ble_eq_true rfl) ?_
  intro p e s m args below meth c A ls H locs Q hQ hB
  obtain ⟨hx, hb, hr, hml, hown, hts, hlk, hin, hP, hK, hD, hS, hA, hE, hl⟩ := hB
  have hl : lv_has ls 9 [(0, .ref h0), (1, .ref p0), (2, .ref t0)] := hl
  have f18 := hts (.fieldLink RX4 18 "HiredEnemy$Course" "month" "I") (iwoX4_shoot (k := 0) rfl)
  have inX4 : ∀ w ∈ wsX40, w ∈ wsX4_shoot := innX4_shoot_X4
  have f9 := hts (.fieldLink RX4 9 "HiredEnemy$Course" "now" "[I") (iwoX4_shoot (k := 1) rfl)
  have f33 := hts (.fieldLink RX4 33 "HiredEnemy$Plan" "walls" "I") (iwoX4_shoot (k := 2) rfl)
  have inX6 : ∀ w ∈ wsX60, w ∈ wsX4_shoot := innX4_shoot_X6
  have f15 := hts (.fieldLink RX4 15 "HiredEnemy$Course" "shot" "[I") (iwoX4_shoot (k := 4) rfl)
  have f57 := hts (.fieldLink RX4 57 "HiredEnemy$Pact" "said" "[I") (iwoX4_shoot (k := 3) rfl)
  have inX5 : ∀ w ∈ wsX50, w ∈ wsX4_shoot := innX4_shoot_X5
  refine lv_aload_n hx hb dX4_shoot_0 rfl (lv_at hl 2 rfl) ?_
  refine lv_aload_n hx hb dX4_shoot_1 rfl (lv_at hl 0 rfl) ?_
  refine va_get (v := .int mo) (T := TX4) (N := 3) hx hb hts inX4 hown hK hP 0 rfl rfl 2 (by decide) f18 (fun _ h9 => h9) rfl dX4_shoot_2 ?_
  refine lv_aload_n hx hb dX4_shoot_5 rfl (lv_at hl 0 rfl) ?_
  refine va_get (v := .ref q0) (T := TX4) (N := 3) hx hb hts inX4 hown hK hP 0 rfl rfl 0 (by decide) f9 (fun _ h9 => h9) rfl dX4_shoot_6 ?_
  refine lv_bipush (v := 11) hx hb dX4_shoot_9 (by decide) ?_
  refine he_iald hx hb hK hP 1 rfl (11) (by decide) (by decide) (by first | decide | assumption) (f 11) rfl dX4_shoot_11 ?_
  refine lv_isub hx hb dX4_shoot_12 ?_
  refine lv_aload_n hx hb dX4_shoot_13 rfl (lv_at hl 1 rfl) ?_
  refine va_get (v := .int (nI w)) (T := TX6) (N := 5) hx hb hts inX6 hown hK hP 3 rfl rfl 4 (by decide) f33 (fun _ h9 => h9) rfl dX4_shoot_14 ?_
  refine he_ci (wc := [(oX5 t0 t1 t2 pw), (aI g t2 36 wb)]) (wr := [(oX4 h0 q0 q1 mo), (aI g q0 24 f), (aI g q1 6 sh), (oX6 p0 p1 p2 p3 p4 (nI w)), (aI g p1 24 sd), (aI g p3 6 st), (aI g t1 6 pd)]) (va_runV (As := [.int (mo - (f 11)), .int (nI w)]) (rest := []) ⟨hx, hb, hml, hown, hts⟩ (c_X5_wallDue l g t0 t1 t2 pw wb (mo - (f 11)) (nI w) H.size) (cwV 2 hts gX4_shoot_X5_wallDue rfl rfl rfl (by decide +kernel) ⟨Nat.le_of_ble_eq_true rfl, Nat.le_of_ble_eq_true rfl⟩) (he_preV (wc := [(oX5 t0 t1 t2 pw), (aI g t2 36 wb)]) hK hP hD hS hA hE [6, 8] rfl rfl 6 rfl rfl) rfl rfl hl.1 rfl (lv_room (Nat.le_of_ble_eq_true rfl)) dX4_shoot_17 ⟨(Nat.le_of_ble_eq_true rfl), (Nat.le_of_ble_eq_true rfl)⟩) hP hD hS hA [6, 8] [0, 1, 2, 3, 4, 5, 7] rfl rfl rfl (by decide) (fun r_1 u_2 H locs h_3 hP hD hS => ?_)
  subst h_3
  have hP : va_P g.1 vwCl [(oX4 h0 q0 q1 mo), (aI g q0 24 f), (aI g q1 6 sh), (oX6 p0 p1 p2 p3 p4 (nI w)), (aI g p1 24 sd), (aI g p3 6 st), (aI g t1 6 pd), (oX5 t0 t1 t2 pw), (aI g t2 36 wb)] H := hP
  have hD : va_D A [(oX4 h0 q0 q1 mo), (aI g q0 24 f), (aI g q1 6 sh), (oX6 p0 p1 p2 p3 p4 (nI w)), (aI g p1 24 sd), (aI g p3 6 st), (aI g t1 6 pd), (oX5 t0 t1 t2 pw), (aI g t2 36 wb)] := hD
  rcases wd_in (x := mo - f 11) hw6 hwb with hdu | ⟨dk, hdk, hdu⟩
  · refine he_top ((-1)) hdu ?_
    refine lv_istore_n (lv' := [(3, .int (-1)), (0, .ref h0), (1, .ref p0), (2, .ref t0)]) hx hb dX4_shoot_20 rfl hl (by decide) rfl (fun ls hl => ?_)
    have join77 : ∀ (fb : Int32) (c9 : Nat) (cl : Int32), (c9 ≤ 99) → (c9 = 0 ∨ 0 < w) → ∀ (H : Heap) (locs : List Loc) (ls : Array Slot), va_P g.1 vwCl [(oX4 h0 q0 q1 mo), (aI g q0 24 f), (aI g q1 6 sh), (oX6 p0 p1 p2 p3 p4 (nI w)), (aI g p1 24 sd), (aI g p3 6 st), (aI g t1 6 pd), (oX5 t0 t1 t2 pw), (aI g t2 36 wb)] H → va_D A [(oX4 h0 q0 q1 mo), (aI g q0 24 f), (aI g q1 6 sh), (oX6 p0 p1 p2 p3 p4 (nI w)), (aI g p1 24 sd), (aI g p3 6 st), (aI g t1 6 pd), (oX5 t0 t1 t2 pw), (aI g t2 36 wb)] → va_S A s.heap H locs → lv_has ls 9 [(0, .ref h0), (1, .ref p0), (2, .ref t0), (3, .int (-1)), (4, .int fb), (5, .int (nI c9)), (6, .int cl)] → W p l e (he_room 3 60 0 0) s m args below meth c H locs 0 0 Q (F0 m 77 ls []) := by
      intro fb c9 cl hc9 hcw H locs ls hP hD hS hl
      refine lv_iconst (v := (-1)) hx hb dX4_shoot_77 (by decide) ?_
      refine lv_istore (lv' := [(7, .int (-1)), (0, .ref h0), (1, .ref p0), (2, .ref t0), (3, .int (-1)), (4, .int fb), (5, .int (nI c9)), (6, .int cl)]) hx hb dX4_shoot_78 hl (by decide) rfl (fun ls hl => ?_)
      refine lv_iconst (v := 1) hx hb dX4_shoot_80 (by decide) ?_
      refine lv_istore (lv' := [(8, .int 1), (7, .int (-1)), (0, .ref h0), (1, .ref p0), (2, .ref t0), (3, .int (-1)), (4, .int fb), (5, .int (nI c9)), (6, .int cl)]) hx hb dX4_shoot_81 hl (by decide) rfl (fun ls hl => ?_)
      have loop83 : ∀ (n9 : Nat) (i : Nat) (t : Int32) (F : Nat → Int32) (G : Nat → Int32), c9 + 1 - i < n9 → (1 ≤ i) → (i ≤ c9 + 1) → (t = -1 ∨ ∃ k, k < 6 ∧ t = nI k) → (F 10 = f 10) → ∀ (H : Heap) (locs : List Loc) (ls : Array Slot), va_P g.1 vwCl [(oX4 h0 q0 q1 mo), (aI g q0 24 F), (aI g q1 6 G), (oX6 p0 p1 p2 p3 p4 (nI w)), (aI g p1 24 sd), (aI g p3 6 st), (oX5 t0 t1 t2 pw), (aI g t1 6 pd), (aI g t2 36 wb)] H → va_D A [(oX4 h0 q0 q1 mo), (aI g q0 24 F), (aI g q1 6 G), (oX6 p0 p1 p2 p3 p4 (nI w)), (aI g p1 24 sd), (aI g p3 6 st), (oX5 t0 t1 t2 pw), (aI g t1 6 pd), (aI g t2 36 wb)] → va_S A s.heap H locs → lv_has ls 9 [(0, .ref h0), (1, .ref p0), (2, .ref t0), (3, .int (-1)), (4, .int fb), (5, .int (nI c9)), (6, .int cl), (7, .int t), (8, .int (nI i))] → W p l e (he_room 3 60 0 0) s m args below meth c H locs 0 0 Q (F0 m 83 ls []) := by
        intro n9
        induction n9 with
        | zero => intro i t F G hm9; exact absurd hm9 (Nat.not_lt_zero _)
        | succ n9 ih83 =>
          intro i t F G hm9 hi1 hi ht hF H locs ls hP hD hS hl
          refine lv_iload hx hb dX4_shoot_83 (lv_at hl 8 rfl) ?_
          refine lv_iload hx hb dX4_shoot_85 (lv_at hl 5 rfl) ?_
          refine lv_icmp_gt (tgt := 197) hx hb dX4_shoot_87 (by decide) (fun c_4 => ?_) (fun c_4 => ?_)
          · have k_5 : c9 < i := (he_clt (a := c9) (b := i) rfl rfl (by omega) (by omega)).mp c_4
            refine lv_iload_n hx hb dX4_shoot_197 rfl (lv_at hl 3 rfl) ?_
            refine lv_iconst (v := (-1)) hx hb dX4_shoot_198 (by decide) ?_
            refine lv_icmp_eq (tgt := 227) hx hb dX4_shoot_199 (by decide) (fun c_6 => ?_) (fun c_6 => ?_)
            · exact he_rv hQ hx hb hr hlk hP hD hS dX4_shoot_227 (Nat.le_of_ble_eq_true rfl) (Nat.le_of_ble_eq_true rfl) ((F, G)) (rfl) (hF)
            · exact absurd (by decide) c_6
          · have k_7 : ¬ (c9 < i) := fun h9 => c_4 ((he_clt (a := c9) (b := i) rfl rfl (by omega) (by omega)).mpr h9)
            have join115 : ∀ (k : Nat), (k < 6) → ∀ (H : Heap) (locs : List Loc) (ls : Array Slot), va_P g.1 vwCl [(oX4 h0 q0 q1 mo), (aI g q0 24 F), (aI g q1 6 G), (oX6 p0 p1 p2 p3 p4 (nI w)), (aI g p1 24 sd), (aI g p3 6 st), (oX5 t0 t1 t2 pw), (aI g t1 6 pd), (aI g t2 36 wb)] H → va_D A [(oX4 h0 q0 q1 mo), (aI g q0 24 F), (aI g q1 6 G), (oX6 p0 p1 p2 p3 p4 (nI w)), (aI g p1 24 sd), (aI g p3 6 st), (oX5 t0 t1 t2 pw), (aI g t1 6 pd), (aI g t2 36 wb)] → va_S A s.heap H locs → lv_has ls 9 [(0, .ref h0), (1, .ref p0), (2, .ref t0), (3, .int (-1)), (4, .int fb), (5, .int (nI c9)), (6, .int cl), (7, .int (nI k)), (8, .int (nI i))] → W p l e (he_room 3 60 0 0) s m args below meth c H locs 0 0 Q (F0 m 115 ls []) := by
              intro k hk H locs ls hP hD hS hl
              refine lv_aload_n hx hb dX4_shoot_115 rfl (lv_at hl 0 rfl) ?_
              refine va_get (v := .ref q1) (T := TX4) (N := 3) hx hb hts inX4 hown hK hP 0 rfl rfl 1 (by decide) f15 (fun _ h9 => h9) rfl dX4_shoot_116 ?_
              refine lv_iload hx hb dX4_shoot_119 (lv_at hl 7 rfl) ?_
              refine lv_dup2_11 hx hb dX4_shoot_121 rfl rfl ?_
              refine he_iald hx hb hK hP 2 rfl (k) rfl (by first | assumption | decide | omega) (by first | decide | assumption) (G k) rfl dX4_shoot_122 ?_
              refine lv_iconst (v := 1) hx hb dX4_shoot_123 (by decide) ?_
              refine lv_iadd hx hb dX4_shoot_124 ?_
              refine he_iast hx hb hK hP hD hS 2 rfl (k) rfl (by first | assumption | decide | omega) (by first | decide | assumption) dX4_shoot_125 (fun H locs hP hD hS => ?_)
              have hP : va_P g.1 vwCl [(oX4 h0 q0 q1 mo), (aI g q0 24 F), (aI g q1 6 (upd G k ((G k) + 1))), (oX6 p0 p1 p2 p3 p4 (nI w)), (aI g p1 24 sd), (aI g p3 6 st), (oX5 t0 t1 t2 pw), (aI g t1 6 pd), (aI g t2 36 wb)] H := hP
              have hD : va_D A [(oX4 h0 q0 q1 mo), (aI g q0 24 F), (aI g q1 6 (upd G k ((G k) + 1))), (oX6 p0 p1 p2 p3 p4 (nI w)), (aI g p1 24 sd), (aI g p3 6 st), (oX5 t0 t1 t2 pw), (aI g t1 6 pd), (aI g t2 36 wb)] := hD
              refine lv_aload_n hx hb dX4_shoot_126 rfl (lv_at hl 0 rfl) ?_
              refine va_get (v := .ref q0) (T := TX4) (N := 3) hx hb hts inX4 hown hK hP 0 rfl rfl 0 (by decide) f9 (fun _ h9 => h9) rfl dX4_shoot_127 ?_
              refine lv_bipush (v := 9) hx hb dX4_shoot_130 (by decide) ?_
              refine lv_dup2_11 hx hb dX4_shoot_132 rfl rfl ?_
              refine he_iald hx hb hK hP 1 rfl (9) (by decide) (by decide) (by first | decide | assumption) (F 9) rfl dX4_shoot_133 ?_
              refine lv_iconst (v := 1) hx hb dX4_shoot_134 (by decide) ?_
              refine lv_iadd hx hb dX4_shoot_135 ?_
              refine he_iast hx hb hK hP hD hS 1 rfl (9) (by decide) (by decide) (by first | decide | assumption) dX4_shoot_136 (fun H locs hP hD hS => ?_)
              have hP : va_P g.1 vwCl [(oX4 h0 q0 q1 mo), (aI g q0 24 (upd F 9 ((F 9) + 1))), (aI g q1 6 (upd G k ((G k) + 1))), (oX6 p0 p1 p2 p3 p4 (nI w)), (aI g p1 24 sd), (aI g p3 6 st), (oX5 t0 t1 t2 pw), (aI g t1 6 pd), (aI g t2 36 wb)] H := hP
              have hD : va_D A [(oX4 h0 q0 q1 mo), (aI g q0 24 (upd F 9 ((F 9) + 1))), (aI g q1 6 (upd G k ((G k) + 1))), (oX6 p0 p1 p2 p3 p4 (nI w)), (aI g p1 24 sd), (aI g p3 6 st), (oX5 t0 t1 t2 pw), (aI g t1 6 pd), (aI g t2 36 wb)] := hD
              refine lv_aload_n hx hb dX4_shoot_137 rfl (lv_at hl 0 rfl) ?_
              refine va_get (v := .ref q0) (T := TX4) (N := 3) hx hb hts inX4 hown hK hP 0 rfl rfl 0 (by decide) f9 (fun _ h9 => h9) rfl dX4_shoot_138 ?_
              refine lv_bipush (v := 12) hx hb dX4_shoot_141 (by decide) ?_
              refine lv_iload hx hb dX4_shoot_143 (lv_at hl 7 rfl) ?_
              refine lv_iadd hx hb dX4_shoot_145 ?_
              refine he_top (nI (12 + k)) (nI_add 12 k) ?_
              refine lv_dup2_11 hx hb dX4_shoot_146 rfl rfl ?_
              refine he_iald hx hb hK hP 1 rfl (12 + k) rfl (by first | assumption | decide | omega) (by first | decide | assumption) ((upd F 9 ((F 9) + 1)) (12 + k)) rfl dX4_shoot_147 ?_
              have join165 : ∀ (dm : Int32), ∀ (H : Heap) (locs : List Loc) (ls : Array Slot), va_P g.1 vwCl [(oX4 h0 q0 q1 mo), (aI g q0 24 (upd F 9 ((F 9) + 1))), (aI g q1 6 (upd G k ((G k) + 1))), (oX6 p0 p1 p2 p3 p4 (nI w)), (aI g p1 24 sd), (aI g p3 6 st), (oX5 t0 t1 t2 pw), (aI g t1 6 pd), (aI g t2 36 wb)] H → va_D A [(oX4 h0 q0 q1 mo), (aI g q0 24 (upd F 9 ((F 9) + 1))), (aI g q1 6 (upd G k ((G k) + 1))), (oX6 p0 p1 p2 p3 p4 (nI w)), (aI g p1 24 sd), (aI g p3 6 st), (oX5 t0 t1 t2 pw), (aI g t1 6 pd), (aI g t2 36 wb)] → va_S A s.heap H locs → lv_has ls 9 [(0, .ref h0), (1, .ref p0), (2, .ref t0), (3, .int (-1)), (4, .int fb), (5, .int (nI c9)), (6, .int cl), (7, .int (nI k)), (8, .int (nI i))] → W p l e (he_room 3 60 0 0) s m args below meth c H locs 0 0 Q (F0 m 165 ls [.int dm, .int ((upd F 9 ((F 9) + 1)) (12 + k)), .int (nI (12 + k)), .ref q0]) := by
                intro dm H locs ls hP hD hS hl
                refine lv_isub hx hb dX4_shoot_165 ?_
                refine he_iast hx hb hK hP hD hS 1 rfl (12 + k) rfl (by first | assumption | decide | omega) (by first | decide | assumption) dX4_shoot_166 (fun H locs hP hD hS => ?_)
                have hP : va_P g.1 vwCl [(oX4 h0 q0 q1 mo), (aI g q0 24 (upd (upd F 9 ((F 9) + 1)) (12 + k) (((upd F 9 ((F 9) + 1)) (12 + k)) - dm))), (aI g q1 6 (upd G k ((G k) + 1))), (oX6 p0 p1 p2 p3 p4 (nI w)), (aI g p1 24 sd), (aI g p3 6 st), (oX5 t0 t1 t2 pw), (aI g t1 6 pd), (aI g t2 36 wb)] H := hP
                have hD : va_D A [(oX4 h0 q0 q1 mo), (aI g q0 24 (upd (upd F 9 ((F 9) + 1)) (12 + k) (((upd F 9 ((F 9) + 1)) (12 + k)) - dm))), (aI g q1 6 (upd G k ((G k) + 1))), (oX6 p0 p1 p2 p3 p4 (nI w)), (aI g p1 24 sd), (aI g p3 6 st), (oX5 t0 t1 t2 pw), (aI g t1 6 pd), (aI g t2 36 wb)] := hD
                refine lv_aload_n hx hb dX4_shoot_167 rfl (lv_at hl 0 rfl) ?_
                refine va_get (v := .ref q0) (T := TX4) (N := 3) hx hb hts inX4 hown hK hP 0 rfl rfl 0 (by decide) f9 (fun _ h9 => h9) rfl dX4_shoot_168 ?_
                refine lv_bipush (v := 12) hx hb dX4_shoot_171 (by decide) ?_
                refine lv_iload hx hb dX4_shoot_173 (lv_at hl 7 rfl) ?_
                refine lv_iadd hx hb dX4_shoot_175 ?_
                refine he_top (nI (12 + k)) (nI_add 12 k) ?_
                refine he_iald hx hb hK hP 1 rfl (12 + k) rfl (by first | assumption | decide | omega) (by first | decide | assumption) ((upd (upd F 9 ((F 9) + 1)) (12 + k) (((upd F 9 ((F 9) + 1)) (12 + k)) - dm)) (12 + k)) rfl dX4_shoot_176 ?_
                refine lv_if_gt (tgt := 191) hx hb dX4_shoot_177 (by decide) (fun c_8 => ?_) (fun c_8 => ?_)
                · refine lv_iinc (v := nI (i + 1)) (lv' := [(8, .int (nI (i + 1))), (0, .ref h0), (1, .ref p0), (2, .ref t0), (3, .int (-1)), (4, .int fb), (5, .int (nI c9)), (6, .int cl), (7, .int (nI k))]) hx hb dX4_shoot_191 hl (k := 8) rfl (nI_1 i) (by decide) rfl (fun ls hl => ?_)
                  refine lv_goto (tgt := 83) hx hb dX4_shoot_194 (by decide) ?_
                  exact ih83 (i + 1) (nI k) (upd (upd F 9 ((F 9) + 1)) (12 + k) (((upd F 9 ((F 9) + 1)) (12 + k)) - dm)) (upd G k ((G k) + 1)) (by omega) (by omega) (by omega) (Or.inr ⟨_, by omega, rfl⟩) (by rw [upd_n (by omega), upd_n (by decide)]; exact hF) _ _ _ hP hD hS (lv_sub hl [1, 2, 3, 4, 5, 6, 7, 8, 0] rfl)
                · refine lv_aload_n hx hb dX4_shoot_180 rfl (lv_at hl 0 rfl) ?_
                  refine lv_aload_n hx hb dX4_shoot_181 rfl (lv_at hl 1 rfl) ?_
                  refine lv_aload_n hx hb dX4_shoot_182 rfl (lv_at hl 2 rfl) ?_
                  refine lv_iload hx hb dX4_shoot_183 (lv_at hl 7 rfl) ?_
                  refine he_cv (wc := [(oX4 h0 q0 q1 mo), (aI g q0 24 (upd (upd F 9 ((F 9) + 1)) (12 + k) (((upd F 9 ((F 9) + 1)) (12 + k)) - dm))), (oX6 p0 p1 p2 p3 p4 (nI w)), (aI g p1 24 sd), (aI g p3 6 st), (oX5 t0 t1 t2 pw), (aI g t1 6 pd)]) (wr := [(aI g q1 6 (upd G k ((G k) + 1))), (aI g t2 36 wb)]) (va_runV (As := [.ref p0, .ref t0, .int (nI k)]) (rest := []) ⟨hx, hb, hml, hown, hts⟩ (g_X4_breach l g h0 q0 q1 mo (upd (upd F 9 ((F 9) + 1)) (12 + k) (((upd F 9 ((F 9) + 1)) (12 + k)) - dm)) p0 p1 p2 p3 p4 (nI w) sd st t0 t1 t2 pw pd k (by first | assumption | decide | omega) H.size) (cwV 3 hts gX4_shoot_X4_breach rfl rfl rfl (by decide +kernel) ⟨Nat.le_of_ble_eq_true rfl, Nat.le_of_ble_eq_true rfl⟩) (he_preV (wc := [(oX4 h0 q0 q1 mo), (aI g q0 24 (upd (upd F 9 ((F 9) + 1)) (12 + k) (((upd F 9 ((F 9) + 1)) (12 + k)) - dm))), (oX6 p0 p1 p2 p3 p4 (nI w)), (aI g p1 24 sd), (aI g p3 6 st), (oX5 t0 t1 t2 pw), (aI g t1 6 pd)]) hK hP hD hS hA hE [0, 1, 3, 4, 5, 6, 7] rfl rfl 0 rfl rfl) rfl rfl hl.1 rfl (lv_room (Nat.le_of_ble_eq_true rfl)) dX4_shoot_185 ⟨(Nat.le_of_ble_eq_true rfl), (Nat.le_of_ble_eq_true rfl)⟩) hP hD hS hA [0, 1, 3, 4, 5, 6, 7] [2, 8] rfl rfl rfl (by decide) (fun u_10 H locs h_11 hP hD hS => ?_)
                  obtain ⟨uf_12, rfl⟩ : ∃ z, z = u_10 := ⟨_, rfl⟩
                  try dsimp only at h_11
                  have hf_13 := h_11
                  have hP : va_P g.1 vwCl [(aI g q1 6 (upd G k ((G k) + 1))), (aI g t2 36 wb), (oX4 h0 q0 q1 mo), (aI g q0 24 uf_12), (oX6 p0 p1 p2 p3 p4 (nI w)), (aI g p1 24 sd), (aI g p3 6 st), (oX5 t0 t1 t2 pw), (aI g t1 6 pd)] H := hP
                  have hD : va_D A [(aI g q1 6 (upd G k ((G k) + 1))), (aI g t2 36 wb), (oX4 h0 q0 q1 mo), (aI g q0 24 uf_12), (oX6 p0 p1 p2 p3 p4 (nI w)), (aI g p1 24 sd), (aI g p3 6 st), (oX5 t0 t1 t2 pw), (aI g t1 6 pd)] := hD
                  refine lv_iconst (v := (-1)) hx hb dX4_shoot_188 (by decide) ?_
                  refine lv_istore (lv' := [(7, .int (-1)), (0, .ref h0), (1, .ref p0), (2, .ref t0), (3, .int (-1)), (4, .int fb), (5, .int (nI c9)), (6, .int cl), (8, .int (nI i))]) hx hb dX4_shoot_189 hl (by decide) rfl (fun ls hl => ?_)
                  refine lv_iinc (v := nI (i + 1)) (lv' := [(8, .int (nI (i + 1))), (7, .int (-1)), (0, .ref h0), (1, .ref p0), (2, .ref t0), (3, .int (-1)), (4, .int fb), (5, .int (nI c9)), (6, .int cl)]) hx hb dX4_shoot_191 hl (k := 8) rfl (nI_1 i) (by decide) rfl (fun ls hl => ?_)
                  refine lv_goto (tgt := 83) hx hb dX4_shoot_194 (by decide) ?_
                  exact ih83 (i + 1) (-1) uf_12 (upd G k ((G k) + 1)) (by omega) (by omega) (by omega) (Or.inl rfl) (by rw [hf_13, upd_n (by omega), upd_n (by decide)]; exact hF) _ _ _ (hP.sub [2, 3, 0, 4, 5, 6, 7, 8, 1] rfl) (hD.sub [2, 3, 0, 4, 5, 6, 7, 8, 1] (by decide) rfl) hS (lv_sub hl [2, 3, 4, 5, 6, 7, 8, 1, 0] rfl)
              refine lv_iload hx hb dX4_shoot_148 (lv_at hl 6 rfl) ?_
              refine lv_if_eq (tgt := 164) hx hb dX4_shoot_150 (by decide) (fun c_14 => ?_) (fun c_14 => ?_)
              · refine lv_iconst (v := 1) hx hb dX4_shoot_164 (by decide) ?_
                exact join165 1  _ _ _ hP hD hS (lv_sub hl [0, 1, 2, 3, 4, 5, 6, 7, 8] rfl)
              · refine lv_iload hx hb dX4_shoot_153 (lv_at hl 8 rfl) ?_
                refine lv_iconst (v := 2) hx hb dX4_shoot_155 (by decide) ?_
                refine lv_irem hx hb dX4_shoot_156 (by decide) ?_
                refine lv_if_ne (tgt := 164) hx hb dX4_shoot_157 (by decide) (fun c_15 => ?_) (fun c_15 => ?_)
                · refine lv_iconst (v := 1) hx hb dX4_shoot_164 (by decide) ?_
                  exact join165 1  _ _ _ hP hD hS (lv_sub hl [0, 1, 2, 3, 4, 5, 6, 7, 8] rfl)
                · refine lv_iconst (v := 2) hx hb dX4_shoot_160 (by decide) ?_
                  refine lv_goto (tgt := 165) hx hb dX4_shoot_161 (by decide) ?_
                  exact join165 2  _ _ _ hP hD hS (lv_sub hl [0, 1, 2, 3, 4, 5, 6, 7, 8] rfl)
            refine lv_iload hx hb dX4_shoot_90 (lv_at hl 7 rfl) ?_
            refine lv_iconst (v := (-1)) hx hb dX4_shoot_92 (by decide) ?_
            refine lv_icmp_ne (tgt := 115) hx hb dX4_shoot_93 (by decide) (fun c_16 => ?_) (fun c_16 => ?_)
            · obtain ⟨k, hk, rfl⟩ := ht.resolve_left c_16
              exact join115 k (by omega) _ _ _ hP hD hS (lv_sub hl [0, 1, 2, 3, 4, 5, 6, 7, 8] rfl)
            · refine lv_iload_n hx hb dX4_shoot_96 rfl (lv_at hl 3 rfl) ?_
              refine lv_iconst (v := (-1)) hx hb dX4_shoot_97 (by decide) ?_
              refine lv_icmp_ne (tgt := 112) hx hb dX4_shoot_98 (by decide) (fun c_17 => ?_) (fun c_17 => ?_)
              · exact absurd (by decide) c_17
              · refine lv_aload_n hx hb dX4_shoot_101 rfl (lv_at hl 0 rfl) ?_
                refine lv_aload_n hx hb dX4_shoot_102 rfl (lv_at hl 1 rfl) ?_
                refine va_get (v := .int (nI w)) (T := TX6) (N := 5) hx hb hts inX6 hown hK hP 3 rfl rfl 4 (by decide) f33 (fun _ h9 => h9) rfl dX4_shoot_103 ?_
                refine he_ci (wc := [(oX4 h0 q0 q1 mo), (aI g q0 24 F)]) (wr := [(aI g q1 6 G), (oX6 p0 p1 p2 p3 p4 (nI w)), (aI g p1 24 sd), (aI g p3 6 st), (oX5 t0 t1 t2 pw), (aI g t1 6 pd), (aI g t2 36 wb)]) (va_runV (As := [.int (nI w)]) (rest := []) ⟨hx, hb, hml, hown, hts⟩ (g_X4_weakest l g h0 q0 q1 mo F w (by first | assumption | decide | omega) H.size) (cwV 1 hts gX4_shoot_X4_weakest rfl rfl rfl (by decide +kernel) ⟨Nat.le_of_ble_eq_true rfl, Nat.le_of_ble_eq_true rfl⟩) (he_preV (wc := [(oX4 h0 q0 q1 mo), (aI g q0 24 F)]) hK hP hD hS hA hE [0, 1] rfl rfl 0 rfl rfl) rfl rfl hl.1 rfl (lv_room (Nat.le_of_ble_eq_true rfl)) dX4_shoot_106 ⟨(Nat.le_of_ble_eq_true rfl), (Nat.le_of_ble_eq_true rfl)⟩) hP hD hS hA [0, 1] [2, 3, 4, 5, 6, 7, 8] rfl rfl rfl (by decide) (fun r_18 u_19 H locs h_20 hP hD hS => ?_)
                obtain ⟨k_21, rfl⟩ : ∃ z, z = u_19 := ⟨_, rfl⟩
                try dsimp only at h_20
                obtain ⟨rfl, hf_22⟩ := h_20
                have hP : va_P g.1 vwCl [(aI g q1 6 G), (oX6 p0 p1 p2 p3 p4 (nI w)), (aI g p1 24 sd), (aI g p3 6 st), (oX5 t0 t1 t2 pw), (aI g t1 6 pd), (aI g t2 36 wb), (oX4 h0 q0 q1 mo), (aI g q0 24 F)] H := hP
                have hD : va_D A [(aI g q1 6 G), (oX6 p0 p1 p2 p3 p4 (nI w)), (aI g p1 24 sd), (aI g p3 6 st), (oX5 t0 t1 t2 pw), (aI g t1 6 pd), (aI g t2 36 wb), (oX4 h0 q0 q1 mo), (aI g q0 24 F)] := hD
                refine lv_goto (tgt := 113) hx hb dX4_shoot_109 (by decide) ?_
                refine lv_istore (lv' := [(7, .int (nI k_21)), (0, .ref h0), (1, .ref p0), (2, .ref t0), (3, .int (-1)), (4, .int fb), (5, .int (nI c9)), (6, .int cl), (8, .int (nI i))]) hx hb dX4_shoot_113 hl (by decide) rfl (fun ls hl => ?_)
                exact join115 k_21 (by omega) _ _ _ (hP.sub [7, 8, 0, 1, 2, 3, 4, 5, 6] rfl) (hD.sub [7, 8, 0, 1, 2, 3, 4, 5, 6] (by decide) rfl) hS (lv_sub hl [1, 2, 3, 4, 5, 6, 7, 0, 8] rfl)
      exact loop83 ((c9 + 1 - 1) + 1) 1 (-1) f sh (Nat.lt_succ_self _) (Nat.le_refl 1) (by omega) (Or.inl rfl) rfl _ _ _ (hP.sub [0, 1, 2, 3, 4, 5, 7, 6, 8] rfl) (hD.sub [0, 1, 2, 3, 4, 5, 7, 6, 8] (by decide) rfl) hS (lv_sub hl [2, 3, 4, 5, 6, 7, 8, 1, 0] rfl)
    refine lv_iload_n hx hb dX4_shoot_21 rfl (lv_at hl 0 rfl) ?_
    refine lv_iconst (v := (-1)) hx hb dX4_shoot_22 (by decide) ?_
    refine lv_icmp_ne (tgt := 30) hx hb dX4_shoot_23 (by decide) (fun c_23 => ?_) (fun c_23 => ?_)
    · exact absurd (by decide) c_23
    · refine lv_iconst (v := 0) hx hb dX4_shoot_26 (by decide) ?_
      refine lv_goto (tgt := 39) hx hb dX4_shoot_27 (by decide) ?_
      refine lv_istore (lv' := [(4, .int 0), (3, .int (-1)), (0, .ref h0), (1, .ref p0), (2, .ref t0)]) hx hb dX4_shoot_39 hl (by decide) rfl (fun ls hl => ?_)
      refine lv_aload_n hx hb dX4_shoot_41 rfl (lv_at hl 3 rfl) ?_
      refine va_get (v := .int (nI w)) (T := TX6) (N := 5) hx hb hts inX6 hown hK hP 3 rfl rfl 4 (by decide) f33 (fun _ h9 => h9) rfl dX4_shoot_42 ?_
      refine lv_if_le (tgt := 57) hx hb dX4_shoot_45 (by decide) (fun c_24 => ?_) (fun c_24 => ?_)
      · have k_25 : w ≤ 0 := (he_cle (a := w) (b := 0) rfl (by decide) (by omega) (by omega)).mp c_24
        refine lv_iconst (v := 0) hx hb dX4_shoot_57 (by decide) ?_
        refine lv_istore (lv' := [(5, .int 0), (4, .int 0), (3, .int (-1)), (0, .ref h0), (1, .ref p0), (2, .ref t0)]) hx hb dX4_shoot_58 hl (by decide) rfl (fun ls hl => ?_)
        refine lv_aload_n hx hb dX4_shoot_60 rfl (lv_at hl 5 rfl) ?_
        refine va_get (v := .ref t1) (T := TX5) (N := 3) hx hb hts inX5 hown hK hP 7 rfl rfl 0 (by decide) f57 (fun _ h9 => h9) rfl dX4_shoot_61 ?_
        refine lv_iconst (v := 2) hx hb dX4_shoot_64 (by decide) ?_
        refine he_iald hx hb hK hP 6 rfl (2) (by decide) (by decide) (by first | decide | assumption) (pd 2) rfl dX4_shoot_65 ?_
        refine lv_iconst (v := 4) hx hb dX4_shoot_66 (by decide) ?_
        refine lv_icmp_gt (tgt := 74) hx hb dX4_shoot_67 (by decide) (fun c_26 => ?_) (fun c_26 => ?_)
        · refine lv_iconst (v := 0) hx hb dX4_shoot_74 (by decide) ?_
          refine lv_istore (lv' := [(6, .int 0), (5, .int 0), (4, .int 0), (3, .int (-1)), (0, .ref h0), (1, .ref p0), (2, .ref t0)]) hx hb dX4_shoot_75 hl (by decide) rfl (fun ls hl => ?_)
          exact join77 0 0 0 (by omega) (by omega) _ _ _ hP hD hS (lv_sub hl [4, 5, 6, 3, 2, 1, 0] rfl)
        · refine lv_iconst (v := 1) hx hb dX4_shoot_70 (by decide) ?_
          refine lv_goto (tgt := 75) hx hb dX4_shoot_71 (by decide) ?_
          refine lv_istore (lv' := [(6, .int 1), (5, .int 0), (4, .int 0), (3, .int (-1)), (0, .ref h0), (1, .ref p0), (2, .ref t0)]) hx hb dX4_shoot_75 hl (by decide) rfl (fun ls hl => ?_)
          exact join77 0 0 1 (by omega) (by omega) _ _ _ hP hD hS (lv_sub hl [4, 5, 6, 3, 2, 1, 0] rfl)
      · have k_27 : ¬ (w ≤ 0) := fun h9 => c_24 ((he_cle (a := w) (b := 0) rfl (by decide) (by omega) (by omega)).mpr h9)
        have hw0 : 0 < w := Nat.pos_of_ne_zero (fun h9 => c_24 (by rw [h9]; decide))
        refine lv_aload_n hx hb dX4_shoot_48 rfl (lv_at hl 4 rfl) ?_
        refine va_get (v := .ref t1) (T := TX5) (N := 3) hx hb hts inX5 hown hK hP 7 rfl rfl 0 (by decide) f57 (fun _ h9 => h9) rfl dX4_shoot_49 ?_
        refine lv_iconst (v := 3) hx hb dX4_shoot_52 (by decide) ?_
        refine he_iald hx hb hK hP 6 rfl (3) (by decide) (by decide) (by first | decide | assumption) (nI ck) hck dX4_shoot_53 ?_
        refine lv_goto (tgt := 58) hx hb dX4_shoot_54 (by decide) ?_
        refine lv_istore (lv' := [(5, .int (nI ck)), (4, .int 0), (3, .int (-1)), (0, .ref h0), (1, .ref p0), (2, .ref t0)]) hx hb dX4_shoot_58 hl (by decide) rfl (fun ls hl => ?_)
        refine lv_aload_n hx hb dX4_shoot_60 rfl (lv_at hl 5 rfl) ?_
        refine va_get (v := .ref t1) (T := TX5) (N := 3) hx hb hts inX5 hown hK hP 7 rfl rfl 0 (by decide) f57 (fun _ h9 => h9) rfl dX4_shoot_61 ?_
        refine lv_iconst (v := 2) hx hb dX4_shoot_64 (by decide) ?_
        refine he_iald hx hb hK hP 6 rfl (2) (by decide) (by decide) (by first | decide | assumption) (pd 2) rfl dX4_shoot_65 ?_
        refine lv_iconst (v := 4) hx hb dX4_shoot_66 (by decide) ?_
        refine lv_icmp_gt (tgt := 74) hx hb dX4_shoot_67 (by decide) (fun c_28 => ?_) (fun c_28 => ?_)
        · refine lv_iconst (v := 0) hx hb dX4_shoot_74 (by decide) ?_
          refine lv_istore (lv' := [(6, .int 0), (5, .int (nI ck)), (4, .int 0), (3, .int (-1)), (0, .ref h0), (1, .ref p0), (2, .ref t0)]) hx hb dX4_shoot_75 hl (by decide) rfl (fun ls hl => ?_)
          exact join77 0 ck 0 (by omega) (by omega) _ _ _ hP hD hS (lv_sub hl [4, 5, 6, 3, 2, 1, 0] rfl)
        · refine lv_iconst (v := 1) hx hb dX4_shoot_70 (by decide) ?_
          refine lv_goto (tgt := 75) hx hb dX4_shoot_71 (by decide) ?_
          refine lv_istore (lv' := [(6, .int 1), (5, .int (nI ck)), (4, .int 0), (3, .int (-1)), (0, .ref h0), (1, .ref p0), (2, .ref t0)]) hx hb dX4_shoot_75 hl (by decide) rfl (fun ls hl => ?_)
          exact join77 0 ck 1 (by omega) (by omega) _ _ _ hP hD hS (lv_sub hl [4, 5, 6, 3, 2, 1, 0] rfl)
  · refine he_top (nI dk) hdu ?_
    refine lv_istore_n (lv' := [(3, .int (nI dk)), (0, .ref h0), (1, .ref p0), (2, .ref t0)]) hx hb dX4_shoot_20 rfl hl (by decide) rfl (fun ls hl => ?_)
    have join77 : ∀ (fb : Int32) (c9 : Nat) (cl : Int32), (c9 ≤ 99) → (c9 = 0 ∨ 0 < w) → ∀ (H : Heap) (locs : List Loc) (ls : Array Slot), va_P g.1 vwCl [(oX4 h0 q0 q1 mo), (aI g q0 24 f), (aI g q1 6 sh), (oX6 p0 p1 p2 p3 p4 (nI w)), (aI g p1 24 sd), (aI g p3 6 st), (aI g t1 6 pd), (oX5 t0 t1 t2 pw), (aI g t2 36 wb)] H → va_D A [(oX4 h0 q0 q1 mo), (aI g q0 24 f), (aI g q1 6 sh), (oX6 p0 p1 p2 p3 p4 (nI w)), (aI g p1 24 sd), (aI g p3 6 st), (aI g t1 6 pd), (oX5 t0 t1 t2 pw), (aI g t2 36 wb)] → va_S A s.heap H locs → lv_has ls 9 [(0, .ref h0), (1, .ref p0), (2, .ref t0), (3, .int (nI dk)), (4, .int fb), (5, .int (nI c9)), (6, .int cl)] → W p l e (he_room 3 60 0 0) s m args below meth c H locs 0 0 Q (F0 m 77 ls []) := by
      intro fb c9 cl hc9 hcw H locs ls hP hD hS hl
      refine lv_iconst (v := (-1)) hx hb dX4_shoot_77 (by decide) ?_
      refine lv_istore (lv' := [(7, .int (-1)), (0, .ref h0), (1, .ref p0), (2, .ref t0), (3, .int (nI dk)), (4, .int fb), (5, .int (nI c9)), (6, .int cl)]) hx hb dX4_shoot_78 hl (by decide) rfl (fun ls hl => ?_)
      refine lv_iconst (v := 1) hx hb dX4_shoot_80 (by decide) ?_
      refine lv_istore (lv' := [(8, .int 1), (7, .int (-1)), (0, .ref h0), (1, .ref p0), (2, .ref t0), (3, .int (nI dk)), (4, .int fb), (5, .int (nI c9)), (6, .int cl)]) hx hb dX4_shoot_81 hl (by decide) rfl (fun ls hl => ?_)
      have loop83 : ∀ (n9 : Nat) (i : Nat) (t : Int32) (F : Nat → Int32) (G : Nat → Int32), c9 + 1 - i < n9 → (1 ≤ i) → (i ≤ c9 + 1) → (t = -1 ∨ ∃ k, k < 6 ∧ t = nI k) → (F 10 = f 10) → ∀ (H : Heap) (locs : List Loc) (ls : Array Slot), va_P g.1 vwCl [(oX4 h0 q0 q1 mo), (aI g q0 24 F), (aI g q1 6 G), (oX6 p0 p1 p2 p3 p4 (nI w)), (aI g p1 24 sd), (aI g p3 6 st), (oX5 t0 t1 t2 pw), (aI g t1 6 pd), (aI g t2 36 wb)] H → va_D A [(oX4 h0 q0 q1 mo), (aI g q0 24 F), (aI g q1 6 G), (oX6 p0 p1 p2 p3 p4 (nI w)), (aI g p1 24 sd), (aI g p3 6 st), (oX5 t0 t1 t2 pw), (aI g t1 6 pd), (aI g t2 36 wb)] → va_S A s.heap H locs → lv_has ls 9 [(0, .ref h0), (1, .ref p0), (2, .ref t0), (3, .int (nI dk)), (4, .int fb), (5, .int (nI c9)), (6, .int cl), (7, .int t), (8, .int (nI i))] → W p l e (he_room 3 60 0 0) s m args below meth c H locs 0 0 Q (F0 m 83 ls []) := by
        intro n9
        induction n9 with
        | zero => intro i t F G hm9; exact absurd hm9 (Nat.not_lt_zero _)
        | succ n9 ih83 =>
          intro i t F G hm9 hi1 hi ht hF H locs ls hP hD hS hl
          refine lv_iload hx hb dX4_shoot_83 (lv_at hl 8 rfl) ?_
          refine lv_iload hx hb dX4_shoot_85 (lv_at hl 5 rfl) ?_
          refine lv_icmp_gt (tgt := 197) hx hb dX4_shoot_87 (by decide) (fun c_29 => ?_) (fun c_29 => ?_)
          · have k_30 : c9 < i := (he_clt (a := c9) (b := i) rfl rfl (by omega) (by omega)).mp c_29
            refine lv_iload_n hx hb dX4_shoot_197 rfl (lv_at hl 3 rfl) ?_
            refine lv_iconst (v := (-1)) hx hb dX4_shoot_198 (by decide) ?_
            refine lv_icmp_eq (tgt := 227) hx hb dX4_shoot_199 (by decide) (fun c_31 => ?_) (fun c_31 => ?_)
            · exact absurd c_31 (nI_nm1 (by omega))
            · refine lv_aload_n hx hb dX4_shoot_202 rfl (lv_at hl 0 rfl) ?_
              refine va_get (v := .ref q0) (T := TX4) (N := 3) hx hb hts inX4 hown hK hP 0 rfl rfl 0 (by decide) f9 (fun _ h9 => h9) rfl dX4_shoot_203 ?_
              refine lv_bipush (v := 18) hx hb dX4_shoot_206 (by decide) ?_
              refine lv_iload_n hx hb dX4_shoot_208 rfl (lv_at hl 3 rfl) ?_
              refine lv_iadd hx hb dX4_shoot_209 ?_
              refine he_top (nI (18 + dk)) (nI_add 18 dk) ?_
              refine he_iald hx hb hK hP 1 rfl (18 + dk) rfl (by first | assumption | decide | omega) (by first | decide | assumption) (F (18 + dk)) rfl dX4_shoot_210 ?_
              refine lv_iload hx hb dX4_shoot_211 (lv_at hl 4 rfl) ?_
              refine lv_icmp_ne (tgt := 227) hx hb dX4_shoot_213 (by decide) (fun c_32 => ?_) (fun c_32 => ?_)
              · exact he_rv hQ hx hb hr hlk hP hD hS dX4_shoot_227 (Nat.le_of_ble_eq_true rfl) (Nat.le_of_ble_eq_true rfl) ((F, G)) (rfl) (hF)
              · refine lv_aload_n hx hb dX4_shoot_216 rfl (lv_at hl 0 rfl) ?_
                refine va_get (v := .ref q0) (T := TX4) (N := 3) hx hb hts inX4 hown hK hP 0 rfl rfl 0 (by decide) f9 (fun _ h9 => h9) rfl dX4_shoot_217 ?_
                refine lv_bipush (v := 7) hx hb dX4_shoot_220 (by decide) ?_
                refine lv_dup2_11 hx hb dX4_shoot_222 rfl rfl ?_
                refine he_iald hx hb hK hP 1 rfl (7) (by decide) (by decide) (by first | decide | assumption) (F 7) rfl dX4_shoot_223 ?_
                refine lv_iconst (v := 1) hx hb dX4_shoot_224 (by decide) ?_
                refine lv_iadd hx hb dX4_shoot_225 ?_
                refine he_iast hx hb hK hP hD hS 1 rfl (7) (by decide) (by decide) (by first | decide | assumption) dX4_shoot_226 (fun H locs hP hD hS => ?_)
                have hP : va_P g.1 vwCl [(oX4 h0 q0 q1 mo), (aI g q0 24 (upd F 7 ((F 7) + 1))), (aI g q1 6 G), (oX6 p0 p1 p2 p3 p4 (nI w)), (aI g p1 24 sd), (aI g p3 6 st), (oX5 t0 t1 t2 pw), (aI g t1 6 pd), (aI g t2 36 wb)] H := hP
                have hD : va_D A [(oX4 h0 q0 q1 mo), (aI g q0 24 (upd F 7 ((F 7) + 1))), (aI g q1 6 G), (oX6 p0 p1 p2 p3 p4 (nI w)), (aI g p1 24 sd), (aI g p3 6 st), (oX5 t0 t1 t2 pw), (aI g t1 6 pd), (aI g t2 36 wb)] := hD
                exact he_rv hQ hx hb hr hlk hP hD hS dX4_shoot_227 (Nat.le_of_ble_eq_true rfl) (Nat.le_of_ble_eq_true rfl) ((upd F 7 ((F 7) + 1), G)) (rfl) ((by (try dsimp only); rw [upd_n (by (try dsimp only); decide)]; exact hF))
          · have k_33 : ¬ (c9 < i) := fun h9 => c_29 ((he_clt (a := c9) (b := i) rfl rfl (by omega) (by omega)).mpr h9)
            have join115 : ∀ (k : Nat), (k < 6) → ∀ (H : Heap) (locs : List Loc) (ls : Array Slot), va_P g.1 vwCl [(oX4 h0 q0 q1 mo), (aI g q0 24 F), (aI g q1 6 G), (oX6 p0 p1 p2 p3 p4 (nI w)), (aI g p1 24 sd), (aI g p3 6 st), (oX5 t0 t1 t2 pw), (aI g t1 6 pd), (aI g t2 36 wb)] H → va_D A [(oX4 h0 q0 q1 mo), (aI g q0 24 F), (aI g q1 6 G), (oX6 p0 p1 p2 p3 p4 (nI w)), (aI g p1 24 sd), (aI g p3 6 st), (oX5 t0 t1 t2 pw), (aI g t1 6 pd), (aI g t2 36 wb)] → va_S A s.heap H locs → lv_has ls 9 [(0, .ref h0), (1, .ref p0), (2, .ref t0), (3, .int (nI dk)), (4, .int fb), (5, .int (nI c9)), (6, .int cl), (7, .int (nI k)), (8, .int (nI i))] → W p l e (he_room 3 60 0 0) s m args below meth c H locs 0 0 Q (F0 m 115 ls []) := by
              intro k hk H locs ls hP hD hS hl
              refine lv_aload_n hx hb dX4_shoot_115 rfl (lv_at hl 0 rfl) ?_
              refine va_get (v := .ref q1) (T := TX4) (N := 3) hx hb hts inX4 hown hK hP 0 rfl rfl 1 (by decide) f15 (fun _ h9 => h9) rfl dX4_shoot_116 ?_
              refine lv_iload hx hb dX4_shoot_119 (lv_at hl 7 rfl) ?_
              refine lv_dup2_11 hx hb dX4_shoot_121 rfl rfl ?_
              refine he_iald hx hb hK hP 2 rfl (k) rfl (by first | assumption | decide | omega) (by first | decide | assumption) (G k) rfl dX4_shoot_122 ?_
              refine lv_iconst (v := 1) hx hb dX4_shoot_123 (by decide) ?_
              refine lv_iadd hx hb dX4_shoot_124 ?_
              refine he_iast hx hb hK hP hD hS 2 rfl (k) rfl (by first | assumption | decide | omega) (by first | decide | assumption) dX4_shoot_125 (fun H locs hP hD hS => ?_)
              have hP : va_P g.1 vwCl [(oX4 h0 q0 q1 mo), (aI g q0 24 F), (aI g q1 6 (upd G k ((G k) + 1))), (oX6 p0 p1 p2 p3 p4 (nI w)), (aI g p1 24 sd), (aI g p3 6 st), (oX5 t0 t1 t2 pw), (aI g t1 6 pd), (aI g t2 36 wb)] H := hP
              have hD : va_D A [(oX4 h0 q0 q1 mo), (aI g q0 24 F), (aI g q1 6 (upd G k ((G k) + 1))), (oX6 p0 p1 p2 p3 p4 (nI w)), (aI g p1 24 sd), (aI g p3 6 st), (oX5 t0 t1 t2 pw), (aI g t1 6 pd), (aI g t2 36 wb)] := hD
              refine lv_aload_n hx hb dX4_shoot_126 rfl (lv_at hl 0 rfl) ?_
              refine va_get (v := .ref q0) (T := TX4) (N := 3) hx hb hts inX4 hown hK hP 0 rfl rfl 0 (by decide) f9 (fun _ h9 => h9) rfl dX4_shoot_127 ?_
              refine lv_bipush (v := 9) hx hb dX4_shoot_130 (by decide) ?_
              refine lv_dup2_11 hx hb dX4_shoot_132 rfl rfl ?_
              refine he_iald hx hb hK hP 1 rfl (9) (by decide) (by decide) (by first | decide | assumption) (F 9) rfl dX4_shoot_133 ?_
              refine lv_iconst (v := 1) hx hb dX4_shoot_134 (by decide) ?_
              refine lv_iadd hx hb dX4_shoot_135 ?_
              refine he_iast hx hb hK hP hD hS 1 rfl (9) (by decide) (by decide) (by first | decide | assumption) dX4_shoot_136 (fun H locs hP hD hS => ?_)
              have hP : va_P g.1 vwCl [(oX4 h0 q0 q1 mo), (aI g q0 24 (upd F 9 ((F 9) + 1))), (aI g q1 6 (upd G k ((G k) + 1))), (oX6 p0 p1 p2 p3 p4 (nI w)), (aI g p1 24 sd), (aI g p3 6 st), (oX5 t0 t1 t2 pw), (aI g t1 6 pd), (aI g t2 36 wb)] H := hP
              have hD : va_D A [(oX4 h0 q0 q1 mo), (aI g q0 24 (upd F 9 ((F 9) + 1))), (aI g q1 6 (upd G k ((G k) + 1))), (oX6 p0 p1 p2 p3 p4 (nI w)), (aI g p1 24 sd), (aI g p3 6 st), (oX5 t0 t1 t2 pw), (aI g t1 6 pd), (aI g t2 36 wb)] := hD
              refine lv_aload_n hx hb dX4_shoot_137 rfl (lv_at hl 0 rfl) ?_
              refine va_get (v := .ref q0) (T := TX4) (N := 3) hx hb hts inX4 hown hK hP 0 rfl rfl 0 (by decide) f9 (fun _ h9 => h9) rfl dX4_shoot_138 ?_
              refine lv_bipush (v := 12) hx hb dX4_shoot_141 (by decide) ?_
              refine lv_iload hx hb dX4_shoot_143 (lv_at hl 7 rfl) ?_
              refine lv_iadd hx hb dX4_shoot_145 ?_
              refine he_top (nI (12 + k)) (nI_add 12 k) ?_
              refine lv_dup2_11 hx hb dX4_shoot_146 rfl rfl ?_
              refine he_iald hx hb hK hP 1 rfl (12 + k) rfl (by first | assumption | decide | omega) (by first | decide | assumption) ((upd F 9 ((F 9) + 1)) (12 + k)) rfl dX4_shoot_147 ?_
              have join165 : ∀ (dm : Int32), ∀ (H : Heap) (locs : List Loc) (ls : Array Slot), va_P g.1 vwCl [(oX4 h0 q0 q1 mo), (aI g q0 24 (upd F 9 ((F 9) + 1))), (aI g q1 6 (upd G k ((G k) + 1))), (oX6 p0 p1 p2 p3 p4 (nI w)), (aI g p1 24 sd), (aI g p3 6 st), (oX5 t0 t1 t2 pw), (aI g t1 6 pd), (aI g t2 36 wb)] H → va_D A [(oX4 h0 q0 q1 mo), (aI g q0 24 (upd F 9 ((F 9) + 1))), (aI g q1 6 (upd G k ((G k) + 1))), (oX6 p0 p1 p2 p3 p4 (nI w)), (aI g p1 24 sd), (aI g p3 6 st), (oX5 t0 t1 t2 pw), (aI g t1 6 pd), (aI g t2 36 wb)] → va_S A s.heap H locs → lv_has ls 9 [(0, .ref h0), (1, .ref p0), (2, .ref t0), (3, .int (nI dk)), (4, .int fb), (5, .int (nI c9)), (6, .int cl), (7, .int (nI k)), (8, .int (nI i))] → W p l e (he_room 3 60 0 0) s m args below meth c H locs 0 0 Q (F0 m 165 ls [.int dm, .int ((upd F 9 ((F 9) + 1)) (12 + k)), .int (nI (12 + k)), .ref q0]) := by
                intro dm H locs ls hP hD hS hl
                refine lv_isub hx hb dX4_shoot_165 ?_
                refine he_iast hx hb hK hP hD hS 1 rfl (12 + k) rfl (by first | assumption | decide | omega) (by first | decide | assumption) dX4_shoot_166 (fun H locs hP hD hS => ?_)
                have hP : va_P g.1 vwCl [(oX4 h0 q0 q1 mo), (aI g q0 24 (upd (upd F 9 ((F 9) + 1)) (12 + k) (((upd F 9 ((F 9) + 1)) (12 + k)) - dm))), (aI g q1 6 (upd G k ((G k) + 1))), (oX6 p0 p1 p2 p3 p4 (nI w)), (aI g p1 24 sd), (aI g p3 6 st), (oX5 t0 t1 t2 pw), (aI g t1 6 pd), (aI g t2 36 wb)] H := hP
                have hD : va_D A [(oX4 h0 q0 q1 mo), (aI g q0 24 (upd (upd F 9 ((F 9) + 1)) (12 + k) (((upd F 9 ((F 9) + 1)) (12 + k)) - dm))), (aI g q1 6 (upd G k ((G k) + 1))), (oX6 p0 p1 p2 p3 p4 (nI w)), (aI g p1 24 sd), (aI g p3 6 st), (oX5 t0 t1 t2 pw), (aI g t1 6 pd), (aI g t2 36 wb)] := hD
                refine lv_aload_n hx hb dX4_shoot_167 rfl (lv_at hl 0 rfl) ?_
                refine va_get (v := .ref q0) (T := TX4) (N := 3) hx hb hts inX4 hown hK hP 0 rfl rfl 0 (by decide) f9 (fun _ h9 => h9) rfl dX4_shoot_168 ?_
                refine lv_bipush (v := 12) hx hb dX4_shoot_171 (by decide) ?_
                refine lv_iload hx hb dX4_shoot_173 (lv_at hl 7 rfl) ?_
                refine lv_iadd hx hb dX4_shoot_175 ?_
                refine he_top (nI (12 + k)) (nI_add 12 k) ?_
                refine he_iald hx hb hK hP 1 rfl (12 + k) rfl (by first | assumption | decide | omega) (by first | decide | assumption) ((upd (upd F 9 ((F 9) + 1)) (12 + k) (((upd F 9 ((F 9) + 1)) (12 + k)) - dm)) (12 + k)) rfl dX4_shoot_176 ?_
                refine lv_if_gt (tgt := 191) hx hb dX4_shoot_177 (by decide) (fun c_34 => ?_) (fun c_34 => ?_)
                · refine lv_iinc (v := nI (i + 1)) (lv' := [(8, .int (nI (i + 1))), (0, .ref h0), (1, .ref p0), (2, .ref t0), (3, .int (nI dk)), (4, .int fb), (5, .int (nI c9)), (6, .int cl), (7, .int (nI k))]) hx hb dX4_shoot_191 hl (k := 8) rfl (nI_1 i) (by decide) rfl (fun ls hl => ?_)
                  refine lv_goto (tgt := 83) hx hb dX4_shoot_194 (by decide) ?_
                  exact ih83 (i + 1) (nI k) (upd (upd F 9 ((F 9) + 1)) (12 + k) (((upd F 9 ((F 9) + 1)) (12 + k)) - dm)) (upd G k ((G k) + 1)) (by omega) (by omega) (by omega) (Or.inr ⟨_, by omega, rfl⟩) (by rw [upd_n (by omega), upd_n (by decide)]; exact hF) _ _ _ hP hD hS (lv_sub hl [1, 2, 3, 4, 5, 6, 7, 8, 0] rfl)
                · refine lv_aload_n hx hb dX4_shoot_180 rfl (lv_at hl 0 rfl) ?_
                  refine lv_aload_n hx hb dX4_shoot_181 rfl (lv_at hl 1 rfl) ?_
                  refine lv_aload_n hx hb dX4_shoot_182 rfl (lv_at hl 2 rfl) ?_
                  refine lv_iload hx hb dX4_shoot_183 (lv_at hl 7 rfl) ?_
                  refine he_cv (wc := [(oX4 h0 q0 q1 mo), (aI g q0 24 (upd (upd F 9 ((F 9) + 1)) (12 + k) (((upd F 9 ((F 9) + 1)) (12 + k)) - dm))), (oX6 p0 p1 p2 p3 p4 (nI w)), (aI g p1 24 sd), (aI g p3 6 st), (oX5 t0 t1 t2 pw), (aI g t1 6 pd)]) (wr := [(aI g q1 6 (upd G k ((G k) + 1))), (aI g t2 36 wb)]) (va_runV (As := [.ref p0, .ref t0, .int (nI k)]) (rest := []) ⟨hx, hb, hml, hown, hts⟩ (g_X4_breach l g h0 q0 q1 mo (upd (upd F 9 ((F 9) + 1)) (12 + k) (((upd F 9 ((F 9) + 1)) (12 + k)) - dm)) p0 p1 p2 p3 p4 (nI w) sd st t0 t1 t2 pw pd k (by first | assumption | decide | omega) H.size) (cwV 3 hts gX4_shoot_X4_breach rfl rfl rfl (by decide +kernel) ⟨Nat.le_of_ble_eq_true rfl, Nat.le_of_ble_eq_true rfl⟩) (he_preV (wc := [(oX4 h0 q0 q1 mo), (aI g q0 24 (upd (upd F 9 ((F 9) + 1)) (12 + k) (((upd F 9 ((F 9) + 1)) (12 + k)) - dm))), (oX6 p0 p1 p2 p3 p4 (nI w)), (aI g p1 24 sd), (aI g p3 6 st), (oX5 t0 t1 t2 pw), (aI g t1 6 pd)]) hK hP hD hS hA hE [0, 1, 3, 4, 5, 6, 7] rfl rfl 0 rfl rfl) rfl rfl hl.1 rfl (lv_room (Nat.le_of_ble_eq_true rfl)) dX4_shoot_185 ⟨(Nat.le_of_ble_eq_true rfl), (Nat.le_of_ble_eq_true rfl)⟩) hP hD hS hA [0, 1, 3, 4, 5, 6, 7] [2, 8] rfl rfl rfl (by decide) (fun u_36 H locs h_37 hP hD hS => ?_)
                  obtain ⟨uf_38, rfl⟩ : ∃ z, z = u_36 := ⟨_, rfl⟩
                  try dsimp only at h_37
                  have hf_39 := h_37
                  have hP : va_P g.1 vwCl [(aI g q1 6 (upd G k ((G k) + 1))), (aI g t2 36 wb), (oX4 h0 q0 q1 mo), (aI g q0 24 uf_38), (oX6 p0 p1 p2 p3 p4 (nI w)), (aI g p1 24 sd), (aI g p3 6 st), (oX5 t0 t1 t2 pw), (aI g t1 6 pd)] H := hP
                  have hD : va_D A [(aI g q1 6 (upd G k ((G k) + 1))), (aI g t2 36 wb), (oX4 h0 q0 q1 mo), (aI g q0 24 uf_38), (oX6 p0 p1 p2 p3 p4 (nI w)), (aI g p1 24 sd), (aI g p3 6 st), (oX5 t0 t1 t2 pw), (aI g t1 6 pd)] := hD
                  refine lv_iconst (v := (-1)) hx hb dX4_shoot_188 (by decide) ?_
                  refine lv_istore (lv' := [(7, .int (-1)), (0, .ref h0), (1, .ref p0), (2, .ref t0), (3, .int (nI dk)), (4, .int fb), (5, .int (nI c9)), (6, .int cl), (8, .int (nI i))]) hx hb dX4_shoot_189 hl (by decide) rfl (fun ls hl => ?_)
                  refine lv_iinc (v := nI (i + 1)) (lv' := [(8, .int (nI (i + 1))), (7, .int (-1)), (0, .ref h0), (1, .ref p0), (2, .ref t0), (3, .int (nI dk)), (4, .int fb), (5, .int (nI c9)), (6, .int cl)]) hx hb dX4_shoot_191 hl (k := 8) rfl (nI_1 i) (by decide) rfl (fun ls hl => ?_)
                  refine lv_goto (tgt := 83) hx hb dX4_shoot_194 (by decide) ?_
                  exact ih83 (i + 1) (-1) uf_38 (upd G k ((G k) + 1)) (by omega) (by omega) (by omega) (Or.inl rfl) (by rw [hf_39, upd_n (by omega), upd_n (by decide)]; exact hF) _ _ _ (hP.sub [2, 3, 0, 4, 5, 6, 7, 8, 1] rfl) (hD.sub [2, 3, 0, 4, 5, 6, 7, 8, 1] (by decide) rfl) hS (lv_sub hl [2, 3, 4, 5, 6, 7, 8, 1, 0] rfl)
              refine lv_iload hx hb dX4_shoot_148 (lv_at hl 6 rfl) ?_
              refine lv_if_eq (tgt := 164) hx hb dX4_shoot_150 (by decide) (fun c_40 => ?_) (fun c_40 => ?_)
              · refine lv_iconst (v := 1) hx hb dX4_shoot_164 (by decide) ?_
                exact join165 1  _ _ _ hP hD hS (lv_sub hl [0, 1, 2, 3, 4, 5, 6, 7, 8] rfl)
              · refine lv_iload hx hb dX4_shoot_153 (lv_at hl 8 rfl) ?_
                refine lv_iconst (v := 2) hx hb dX4_shoot_155 (by decide) ?_
                refine lv_irem hx hb dX4_shoot_156 (by decide) ?_
                refine lv_if_ne (tgt := 164) hx hb dX4_shoot_157 (by decide) (fun c_41 => ?_) (fun c_41 => ?_)
                · refine lv_iconst (v := 1) hx hb dX4_shoot_164 (by decide) ?_
                  exact join165 1  _ _ _ hP hD hS (lv_sub hl [0, 1, 2, 3, 4, 5, 6, 7, 8] rfl)
                · refine lv_iconst (v := 2) hx hb dX4_shoot_160 (by decide) ?_
                  refine lv_goto (tgt := 165) hx hb dX4_shoot_161 (by decide) ?_
                  exact join165 2  _ _ _ hP hD hS (lv_sub hl [0, 1, 2, 3, 4, 5, 6, 7, 8] rfl)
            refine lv_iload hx hb dX4_shoot_90 (lv_at hl 7 rfl) ?_
            refine lv_iconst (v := (-1)) hx hb dX4_shoot_92 (by decide) ?_
            refine lv_icmp_ne (tgt := 115) hx hb dX4_shoot_93 (by decide) (fun c_42 => ?_) (fun c_42 => ?_)
            · obtain ⟨k, hk, rfl⟩ := ht.resolve_left c_42
              exact join115 k (by omega) _ _ _ hP hD hS (lv_sub hl [0, 1, 2, 3, 4, 5, 6, 7, 8] rfl)
            · refine lv_iload_n hx hb dX4_shoot_96 rfl (lv_at hl 3 rfl) ?_
              refine lv_iconst (v := (-1)) hx hb dX4_shoot_97 (by decide) ?_
              refine lv_icmp_ne (tgt := 112) hx hb dX4_shoot_98 (by decide) (fun c_43 => ?_) (fun c_43 => ?_)
              · refine lv_iload_n hx hb dX4_shoot_112 rfl (lv_at hl 3 rfl) ?_
                refine lv_istore (lv' := [(7, .int (nI dk)), (0, .ref h0), (1, .ref p0), (2, .ref t0), (3, .int (nI dk)), (4, .int fb), (5, .int (nI c9)), (6, .int cl), (8, .int (nI i))]) hx hb dX4_shoot_113 hl (by decide) rfl (fun ls hl => ?_)
                exact join115 dk (by omega) _ _ _ hP hD hS (lv_sub hl [1, 2, 3, 4, 5, 6, 7, 0, 8] rfl)
              · exact absurd c_43 (nI_nm1 (by omega))
      exact loop83 ((c9 + 1 - 1) + 1) 1 (-1) f sh (Nat.lt_succ_self _) (Nat.le_refl 1) (by omega) (Or.inl rfl) rfl _ _ _ (hP.sub [0, 1, 2, 3, 4, 5, 7, 6, 8] rfl) (hD.sub [0, 1, 2, 3, 4, 5, 7, 6, 8] (by decide) rfl) hS (lv_sub hl [2, 3, 4, 5, 6, 7, 8, 1, 0] rfl)
    refine lv_iload_n hx hb dX4_shoot_21 rfl (lv_at hl 0 rfl) ?_
    refine lv_iconst (v := (-1)) hx hb dX4_shoot_22 (by decide) ?_
    refine lv_icmp_ne (tgt := 30) hx hb dX4_shoot_23 (by decide) (fun c_44 => ?_) (fun c_44 => ?_)
    · refine lv_aload_n hx hb dX4_shoot_30 rfl (lv_at hl 1 rfl) ?_
      refine va_get (v := .ref q0) (T := TX4) (N := 3) hx hb hts inX4 hown hK hP 0 rfl rfl 0 (by decide) f9 (fun _ h9 => h9) rfl dX4_shoot_31 ?_
      refine lv_bipush (v := 18) hx hb dX4_shoot_34 (by decide) ?_
      refine lv_iload_n hx hb dX4_shoot_36 rfl (lv_at hl 0 rfl) ?_
      refine lv_iadd hx hb dX4_shoot_37 ?_
      refine he_top (nI (18 + dk)) (nI_add 18 dk) ?_
      refine he_iald hx hb hK hP 1 rfl (18 + dk) rfl (by first | assumption | decide | omega) (by first | decide | assumption) (f (18 + dk)) rfl dX4_shoot_38 ?_
      refine lv_istore (lv' := [(4, .int (f (18 + dk))), (3, .int (nI dk)), (0, .ref h0), (1, .ref p0), (2, .ref t0)]) hx hb dX4_shoot_39 hl (by decide) rfl (fun ls hl => ?_)
      refine lv_aload_n hx hb dX4_shoot_41 rfl (lv_at hl 3 rfl) ?_
      refine va_get (v := .int (nI w)) (T := TX6) (N := 5) hx hb hts inX6 hown hK hP 3 rfl rfl 4 (by decide) f33 (fun _ h9 => h9) rfl dX4_shoot_42 ?_
      refine lv_if_le (tgt := 57) hx hb dX4_shoot_45 (by decide) (fun c_45 => ?_) (fun c_45 => ?_)
      · have k_46 : w ≤ 0 := (he_cle (a := w) (b := 0) rfl (by decide) (by omega) (by omega)).mp c_45
        refine lv_iconst (v := 0) hx hb dX4_shoot_57 (by decide) ?_
        refine lv_istore (lv' := [(5, .int 0), (4, .int (f (18 + dk))), (3, .int (nI dk)), (0, .ref h0), (1, .ref p0), (2, .ref t0)]) hx hb dX4_shoot_58 hl (by decide) rfl (fun ls hl => ?_)
        refine lv_aload_n hx hb dX4_shoot_60 rfl (lv_at hl 5 rfl) ?_
        refine va_get (v := .ref t1) (T := TX5) (N := 3) hx hb hts inX5 hown hK hP 7 rfl rfl 0 (by decide) f57 (fun _ h9 => h9) rfl dX4_shoot_61 ?_
        refine lv_iconst (v := 2) hx hb dX4_shoot_64 (by decide) ?_
        refine he_iald hx hb hK hP 6 rfl (2) (by decide) (by decide) (by first | decide | assumption) (pd 2) rfl dX4_shoot_65 ?_
        refine lv_iconst (v := 4) hx hb dX4_shoot_66 (by decide) ?_
        refine lv_icmp_gt (tgt := 74) hx hb dX4_shoot_67 (by decide) (fun c_47 => ?_) (fun c_47 => ?_)
        · refine lv_iconst (v := 0) hx hb dX4_shoot_74 (by decide) ?_
          refine lv_istore (lv' := [(6, .int 0), (5, .int 0), (4, .int (f (18 + dk))), (3, .int (nI dk)), (0, .ref h0), (1, .ref p0), (2, .ref t0)]) hx hb dX4_shoot_75 hl (by decide) rfl (fun ls hl => ?_)
          exact join77 (f (18 + dk)) 0 0 (by omega) (by omega) _ _ _ hP hD hS (lv_sub hl [4, 5, 6, 3, 2, 1, 0] rfl)
        · refine lv_iconst (v := 1) hx hb dX4_shoot_70 (by decide) ?_
          refine lv_goto (tgt := 75) hx hb dX4_shoot_71 (by decide) ?_
          refine lv_istore (lv' := [(6, .int 1), (5, .int 0), (4, .int (f (18 + dk))), (3, .int (nI dk)), (0, .ref h0), (1, .ref p0), (2, .ref t0)]) hx hb dX4_shoot_75 hl (by decide) rfl (fun ls hl => ?_)
          exact join77 (f (18 + dk)) 0 1 (by omega) (by omega) _ _ _ hP hD hS (lv_sub hl [4, 5, 6, 3, 2, 1, 0] rfl)
      · have k_48 : ¬ (w ≤ 0) := fun h9 => c_45 ((he_cle (a := w) (b := 0) rfl (by decide) (by omega) (by omega)).mpr h9)
        have hw0 : 0 < w := Nat.pos_of_ne_zero (fun h9 => c_45 (by rw [h9]; decide))
        refine lv_aload_n hx hb dX4_shoot_48 rfl (lv_at hl 4 rfl) ?_
        refine va_get (v := .ref t1) (T := TX5) (N := 3) hx hb hts inX5 hown hK hP 7 rfl rfl 0 (by decide) f57 (fun _ h9 => h9) rfl dX4_shoot_49 ?_
        refine lv_iconst (v := 3) hx hb dX4_shoot_52 (by decide) ?_
        refine he_iald hx hb hK hP 6 rfl (3) (by decide) (by decide) (by first | decide | assumption) (nI ck) hck dX4_shoot_53 ?_
        refine lv_goto (tgt := 58) hx hb dX4_shoot_54 (by decide) ?_
        refine lv_istore (lv' := [(5, .int (nI ck)), (4, .int (f (18 + dk))), (3, .int (nI dk)), (0, .ref h0), (1, .ref p0), (2, .ref t0)]) hx hb dX4_shoot_58 hl (by decide) rfl (fun ls hl => ?_)
        refine lv_aload_n hx hb dX4_shoot_60 rfl (lv_at hl 5 rfl) ?_
        refine va_get (v := .ref t1) (T := TX5) (N := 3) hx hb hts inX5 hown hK hP 7 rfl rfl 0 (by decide) f57 (fun _ h9 => h9) rfl dX4_shoot_61 ?_
        refine lv_iconst (v := 2) hx hb dX4_shoot_64 (by decide) ?_
        refine he_iald hx hb hK hP 6 rfl (2) (by decide) (by decide) (by first | decide | assumption) (pd 2) rfl dX4_shoot_65 ?_
        refine lv_iconst (v := 4) hx hb dX4_shoot_66 (by decide) ?_
        refine lv_icmp_gt (tgt := 74) hx hb dX4_shoot_67 (by decide) (fun c_49 => ?_) (fun c_49 => ?_)
        · refine lv_iconst (v := 0) hx hb dX4_shoot_74 (by decide) ?_
          refine lv_istore (lv' := [(6, .int 0), (5, .int (nI ck)), (4, .int (f (18 + dk))), (3, .int (nI dk)), (0, .ref h0), (1, .ref p0), (2, .ref t0)]) hx hb dX4_shoot_75 hl (by decide) rfl (fun ls hl => ?_)
          exact join77 (f (18 + dk)) ck 0 (by omega) (by omega) _ _ _ hP hD hS (lv_sub hl [4, 5, 6, 3, 2, 1, 0] rfl)
        · refine lv_iconst (v := 1) hx hb dX4_shoot_70 (by decide) ?_
          refine lv_goto (tgt := 75) hx hb dX4_shoot_71 (by decide) ?_
          refine lv_istore (lv' := [(6, .int 1), (5, .int (nI ck)), (4, .int (f (18 + dk))), (3, .int (nI dk)), (0, .ref h0), (1, .ref p0), (2, .ref t0)]) hx hb dX4_shoot_75 hl (by decide) rfl (fun ls hl => ?_)
          exact join77 (f (18 + dk)) ck 1 (by omega) (by omega) _ _ _ hP hD hS (lv_sub hl [4, 5, 6, 3, 2, 1, 0] rfl)
    · exact absurd c_44 (nI_nm1 (by omega))
set_option maxHeartbeats 4000000 in
set_option maxRecDepth 100000 in
theorem g_X4_isPaid (l : Launch) (g : he_G) (h0 : Nat) (q0 : Nat) (q1 : Nat) (mo : Int32) (f : Nat → Int32) (t0 : Nat) (t1 : Nat) (t2 : Nat) (pw : Int32) (pd : Nat → Int32)  : he_I l yX4_isPaid wsX4_isPaid 2 42 0 0 g [.ref h0, .ref t0] [(oX4 h0 q0 q1 mo), (aI g q0 24 f), (oX5 t0 t1 t2 pw), (aI g t1 6 pd)] (fun (r : Int32) (u : Nat → Int32) => (r = 0 ∨ r = 1) ∧ (u 10 = f 10 ∨ u 10 = -1)) (fun (u : Nat → Int32) => [(oX4 h0 q0 q1 mo), (aI g q0 24 u), (oX5 t0 t1 t2 pw), (aI g t1 6 pd)]) := by
  refine he_begin (l := l) (g := g) (y := yX4_isPaid) (wl := wsX4_isPaid) (fr := 2) (lo := 42) (mc := 0) (ms := 0) (av := [.ref h0, .ref t0]) (ws := [(oX4 h0 q0 q1 mo), (aI g q0 24 f), (oX5 t0 t1 t2 pw), (aI g t1 6 pd)]) (cc := cX4_isPaid) (maxL := 3) (ret := (some .boolean)) (fun A => va_Qi (fun (r : Int32) (u : Nat → Int32) => (r = 0 ∨ r = 1) ∧ (u 10 = f 10 ∨ u 10 = -1)) (fun u t => he_post g A ((fun (u : Nat → Int32) => [(oX4 h0 q0 q1 mo), (aI g q0 24 u), (oX5 t0 t1 t2 pw), (aI g t1 6 pd)]) u) t) A) (by decide) rfl (Nat.le_of_ble_eq_true rfl) ?_
  intro p e s m args below meth c A ls H locs Q hQ hB
  obtain ⟨hx, hb, hr, hml, hown, hts, hlk, hin, hP, hK, hD, hS, hA, hE, hl⟩ := hB
  have hl : lv_has ls 3 [(0, .ref h0), (1, .ref t0)] := hl
  have f18 := hts (.fieldLink RX4 18 "HiredEnemy$Course" "month" "I") (iwoX4_isPaid (k := 0) rfl)
  have inX4 : ∀ w ∈ wsX40, w ∈ wsX4_isPaid := innX4_isPaid_X4
  have f9 := hts (.fieldLink RX4 9 "HiredEnemy$Course" "now" "[I") (iwoX4_isPaid (k := 1) rfl)
  refine lv_aload_n hx hb dX4_isPaid_0 rfl (lv_at hl 1 rfl) ?_
  refine lv_aload_n hx hb dX4_isPaid_1 rfl (lv_at hl 0 rfl) ?_
  refine va_get (v := .int mo) (T := TX4) (N := 3) hx hb hts inX4 hown hK hP 0 rfl rfl 2 (by decide) f18 (fun _ h9 => h9) rfl dX4_isPaid_2 ?_
  refine he_ci (wc := [(oX5 t0 t1 t2 pw), (aI g t1 6 pd)]) (wr := [(oX4 h0 q0 q1 mo), (aI g q0 24 f)]) (va_runV (As := [.int mo]) (rest := []) ⟨hx, hb, hml, hown, hts⟩ (c_X5_payIn l g t0 t1 t2 pw pd mo H.size) (cwV 1 hts gX4_isPaid_X5_payIn rfl rfl rfl (by decide +kernel) ⟨Nat.le_of_ble_eq_true rfl, Nat.le_of_ble_eq_true rfl⟩) (he_preV (wc := [(oX5 t0 t1 t2 pw), (aI g t1 6 pd)]) hK hP hD hS hA hE [2, 3] rfl rfl 2 rfl rfl) rfl rfl hl.1 rfl (lv_room (Nat.le_of_ble_eq_true rfl)) dX4_isPaid_5 ⟨(Nat.le_of_ble_eq_true rfl), (Nat.le_of_ble_eq_true rfl)⟩) hP hD hS hA [2, 3] [0, 1] rfl rfl rfl (by decide) (fun r_1 u_2 H locs h_3 hP hD hS => ?_)
  subst h_3
  have hP : va_P g.1 vwCl [(oX4 h0 q0 q1 mo), (aI g q0 24 f), (oX5 t0 t1 t2 pw), (aI g t1 6 pd)] H := hP
  have hD : va_D A [(oX4 h0 q0 q1 mo), (aI g q0 24 f), (oX5 t0 t1 t2 pw), (aI g t1 6 pd)] := hD
  refine lv_istore_n (lv' := [(2, .int (payF pd mo)), (0, .ref h0), (1, .ref t0)]) hx hb dX4_isPaid_8 rfl hl (by decide) rfl (fun ls hl => ?_)
  refine lv_aload_n hx hb dX4_isPaid_9 rfl (lv_at hl 1 rfl) ?_
  refine va_get (v := .ref q0) (T := TX4) (N := 3) hx hb hts inX4 hown hK hP 0 rfl rfl 0 (by decide) f9 (fun _ h9 => h9) rfl dX4_isPaid_10 ?_
  refine lv_iconst (v := 0) hx hb dX4_isPaid_13 (by decide) ?_
  refine he_iald hx hb hK hP 1 rfl (0) (by decide) (by decide) (by first | decide | assumption) (f 0) rfl dX4_isPaid_14 ?_
  refine lv_iload_n hx hb dX4_isPaid_15 rfl (lv_at hl 0 rfl) ?_
  refine lv_icmp_ge (tgt := 40) hx hb dX4_isPaid_16 (by decide) (fun c_4 => ?_) (fun c_4 => ?_)
  · refine lv_aload_n hx hb dX4_isPaid_40 rfl (lv_at hl 1 rfl) ?_
    refine lv_iconst (v := 0) hx hb dX4_isPaid_41 (by decide) ?_
    refine lv_iconst (v := 1) hx hb dX4_isPaid_42 (by decide) ?_
    refine lv_iload_n hx hb dX4_isPaid_43 rfl (lv_at hl 0 rfl) ?_
    refine he_cv (wc := [(oX4 h0 q0 q1 mo), (aI g q0 24 f)]) (wr := [(oX5 t0 t1 t2 pw), (aI g t1 6 pd)]) (va_runV (As := [.int 0, .int 1, .int (payF pd mo)]) (rest := []) ⟨hx, hb, hml, hown, hts⟩ (c_X4_move l g h0 q0 q1 mo f 0 1 (payF pd mo) (by first | assumption | decide | omega) (by first | assumption | decide | omega) H.size) (cwV 3 hts gX4_isPaid_X4_move rfl rfl rfl (by decide +kernel) ⟨Nat.le_of_ble_eq_true rfl, Nat.le_of_ble_eq_true rfl⟩) (he_preV (wc := [(oX4 h0 q0 q1 mo), (aI g q0 24 f)]) hK hP hD hS hA hE [0, 1] rfl rfl 0 rfl rfl) rfl rfl hl.1 rfl (lv_room (Nat.le_of_ble_eq_true rfl)) dX4_isPaid_44 ⟨(Nat.le_of_ble_eq_true rfl), (Nat.le_of_ble_eq_true rfl)⟩) hP hD hS hA [0, 1] [2, 3] rfl rfl rfl (by decide) (fun u_6 H locs h_7 hP hD hS => ?_)
    have hP : va_P g.1 vwCl [(oX5 t0 t1 t2 pw), (aI g t1 6 pd), (oX4 h0 q0 q1 mo), (aI g q0 24 (mvF f 0 1 (payF pd mo)))] H := hP
    have hD : va_D A [(oX5 t0 t1 t2 pw), (aI g t1 6 pd), (oX4 h0 q0 q1 mo), (aI g q0 24 (mvF f 0 1 (payF pd mo)))] := hD
    refine lv_iconst (v := 1) hx hb dX4_isPaid_47 (by decide) ?_
    have hP := hP.sub (ws' := [(oX4 h0 q0 q1 mo), (aI g q0 24 (mvF f 0 1 (payF pd mo))), (oX5 t0 t1 t2 pw), (aI g t1 6 pd)]) [2, 3, 0, 1] rfl
    have hD := hD.sub (ws' := [(oX4 h0 q0 q1 mo), (aI g q0 24 (mvF f 0 1 (payF pd mo))), (oX5 t0 t1 t2 pw), (aI g t1 6 pd)]) [2, 3, 0, 1] (by decide) rfl
    exact he_rz hQ hx hb hr hlk hP hD hS dX4_isPaid_48 (Nat.le_of_ble_eq_true rfl) (Nat.le_of_ble_eq_true rfl) rfl (mvF f 0 1 (payF pd mo)) (rfl) (⟨Or.inr rfl, Or.inl (mvF_n _ _ _ _ _ (by decide) (by decide))⟩)
  · refine lv_aload_n hx hb dX4_isPaid_19 rfl (lv_at hl 1 rfl) ?_
    refine va_get (v := .ref q0) (T := TX4) (N := 3) hx hb hts inX4 hown hK hP 0 rfl rfl 0 (by decide) f9 (fun _ h9 => h9) rfl dX4_isPaid_20 ?_
    refine lv_bipush (v := 8) hx hb dX4_isPaid_23 (by decide) ?_
    refine lv_dup2_11 hx hb dX4_isPaid_25 rfl rfl ?_
    refine he_iald hx hb hK hP 1 rfl (8) (by decide) (by decide) (by first | decide | assumption) (f 8) rfl dX4_isPaid_26 ?_
    refine lv_iconst (v := 1) hx hb dX4_isPaid_27 (by decide) ?_
    refine lv_iadd hx hb dX4_isPaid_28 ?_
    refine he_iast hx hb hK hP hD hS 1 rfl (8) (by decide) (by decide) (by first | decide | assumption) dX4_isPaid_29 (fun H locs hP hD hS => ?_)
    have hP : va_P g.1 vwCl [(oX4 h0 q0 q1 mo), (aI g q0 24 (upd f 8 ((f 8) + 1))), (oX5 t0 t1 t2 pw), (aI g t1 6 pd)] H := hP
    have hD : va_D A [(oX4 h0 q0 q1 mo), (aI g q0 24 (upd f 8 ((f 8) + 1))), (oX5 t0 t1 t2 pw), (aI g t1 6 pd)] := hD
    refine lv_aload_n hx hb dX4_isPaid_30 rfl (lv_at hl 1 rfl) ?_
    refine va_get (v := .ref q0) (T := TX4) (N := 3) hx hb hts inX4 hown hK hP 0 rfl rfl 0 (by decide) f9 (fun _ h9 => h9) rfl dX4_isPaid_31 ?_
    refine lv_bipush (v := 10) hx hb dX4_isPaid_34 (by decide) ?_
    refine lv_iconst (v := (-1)) hx hb dX4_isPaid_36 (by decide) ?_
    refine he_iast hx hb hK hP hD hS 1 rfl (10) (by decide) (by decide) (by first | decide | assumption) dX4_isPaid_37 (fun H locs hP hD hS => ?_)
    have hP : va_P g.1 vwCl [(oX4 h0 q0 q1 mo), (aI g q0 24 (upd (upd f 8 ((f 8) + 1)) 10 (-1))), (oX5 t0 t1 t2 pw), (aI g t1 6 pd)] H := hP
    have hD : va_D A [(oX4 h0 q0 q1 mo), (aI g q0 24 (upd (upd f 8 ((f 8) + 1)) 10 (-1))), (oX5 t0 t1 t2 pw), (aI g t1 6 pd)] := hD
    refine lv_iconst (v := 0) hx hb dX4_isPaid_38 (by decide) ?_
    exact he_rz hQ hx hb hr hlk hP hD hS dX4_isPaid_39 (Nat.le_of_ble_eq_true rfl) (Nat.le_of_ble_eq_true rfl) rfl (upd (upd f 8 ((f 8) + 1)) 10 (-1)) (rfl) (⟨Or.inl rfl, Or.inr upd_s⟩)
set_option maxHeartbeats 4000000 in
set_option maxRecDepth 100000 in
theorem g_X4_passP (l : Launch) (g : he_G) (h0 : Nat) (q0 : Nat) (q1 : Nat) (mo : Int32) (f : Nat → Int32) (sh : Nat → Int32) (p0 : Nat) (p1 : Nat) (p2 : Nat) (p3 : Nat) (p4 : Nat) (w : Nat) (sd : Nat → Int32) (fn : Nat → Int32) (st : Nat → Int32) (me : Nat → Int32) (t0 : Nat) (t1 : Nat) (t2 : Nat) (pw : Int32) (pd : Nat → Int32) (wb : Nat → Int32) (ck : Nat) (hw6 : w ≤ 6) (hwb : ∀ k, k < 36 → -1 ≤ wb k) (hck : pd 3 = nI ck) (hc99 : ck ≤ 99) : he_V l yX4_pass wsX4_pass 4 88 0 0 g [.ref h0, .ref p0, .ref t0] [(oX4 h0 q0 q1 mo), (aI g q0 24 f), (aI g q1 6 sh), (oX6 p0 p1 p2 p3 p4 (nI w)), (aI g p1 24 sd), (aI g p2 10 fn), (aI g p3 6 st), (aI g p4 6 me), (oX5 t0 t1 t2 pw), (aI g t1 6 pd), (aI g t2 36 wb)] (fun (u : (Nat → Int32) × (Nat → Int32)) => u.1 10 = f 10 ∨ u.1 10 = -1) (fun (u : (Nat → Int32) × (Nat → Int32)) => [(oX4 h0 q0 q1 (mo + 1)), (aI g q0 24 u.1), (aI g q1 6 u.2), (oX6 p0 p1 p2 p3 p4 (nI w)), (aI g p1 24 sd), (aI g p2 10 fn), (aI g p3 6 st), (aI g p4 6 me), (oX5 t0 t1 t2 pw), (aI g t1 6 pd), (aI g t2 36 wb)]) := by
  refine he_begin (l := l) (g := g) (y := yX4_pass) (wl := wsX4_pass) (fr := 4) (lo := 88) (mc := 0) (ms := 0) (av := [.ref h0, .ref p0, .ref t0]) (ws := [(oX4 h0 q0 q1 mo), (aI g q0 24 f), (aI g q1 6 sh), (oX6 p0 p1 p2 p3 p4 (nI w)), (aI g p1 24 sd), (aI g p2 10 fn), (aI g p3 6 st), (aI g p4 6 me), (oX5 t0 t1 t2 pw), (aI g t1 6 pd), (aI g t2 36 wb)]) (cc := cX4_pass) (maxL := 3) (ret := none) (fun A => va_Qv (fun (u : (Nat → Int32) × (Nat → Int32)) => u.1 10 = f 10 ∨ u.1 10 = -1) (fun u t => he_post g A ((fun (u : (Nat → Int32) × (Nat → Int32)) => [(oX4 h0 q0 q1 (mo + 1)), (aI g q0 24 u.1), (aI g q1 6 u.2), (oX6 p0 p1 p2 p3 p4 (nI w)), (aI g p1 24 sd), (aI g p2 10 fn), (aI g p3 6 st), (aI g p4 6 me), (oX5 t0 t1 t2 pw), (aI g t1 6 pd), (aI g t2 36 wb)]) u) t) A) (by decide) rfl (Nat.le_of_ble_eq_true rfl) ?_
  intro p e s m args below meth c A ls H locs Q hQ hB
  obtain ⟨hx, hb, hr, hml, hown, hts, hlk, hin, hP, hK, hD, hS, hA, hE, hl⟩ := hB
  have hl : lv_has ls 3 [(0, .ref h0), (1, .ref p0), (2, .ref t0)] := hl
  have f15 := hts (.fieldLink RX4 15 "HiredEnemy$Course" "shot" "[I") (iwoX4_pass (k := 0) rfl)
  have inX4 : ∀ w ∈ wsX40, w ∈ wsX4_pass := innX4_pass_X4
  have f9 := hts (.fieldLink RX4 9 "HiredEnemy$Course" "now" "[I") (iwoX4_pass (k := 1) rfl)
  have f28 := hts (.fieldLink RX4 28 "HiredEnemy$Plan" "said" "[I") (iwoX4_pass (k := 2) rfl)
  have inX6 : ∀ w ∈ wsX60, w ∈ wsX4_pass := innX4_pass_X6
  have ml68 := hts (.methodLink RX4 68 Lib.Math.max.name) (iwoX4_pass (k := 4) rfl)
  have msmax := hts (.static Lib.Math.max.name) (iwoX4_pass (k := 5) rfl)
  have mi := hts (.initialized "java/lang/Math") (iwoX4_pass (k := 6) rfl)
  have mcmax := hts (.code Lib.Math.max.name Lib.Math.max.code 2 (some .int)) (iwoX4_pass (k := 7) rfl)
  have f18 := hts (.fieldLink RX4 18 "HiredEnemy$Course" "month" "I") (iwoX4_pass (k := 8) rfl)
  have f57 := hts (.fieldLink RX4 57 "HiredEnemy$Pact" "said" "[I") (iwoX4_pass (k := 3) rfl)
  have inX5 : ∀ w ∈ wsX50, w ∈ wsX4_pass := innX4_pass_X5
  refine lv_aload_n hx hb dX4_pass_0 rfl (lv_at hl 0 rfl) ?_
  refine va_get (v := .ref q1) (T := TX4) (N := 3) hx hb hts inX4 hown hK hP 0 rfl rfl 1 (by decide) f15 (fun _ h9 => h9) rfl dX4_pass_1 ?_
  refine lv_iconst (v := 0) hx hb dX4_pass_4 (by decide) ?_
  refine he_cv (wc := [(aI g q1 6 sh)]) (wr := [(oX4 h0 q0 q1 mo), (aI g q0 24 f), (oX6 p0 p1 p2 p3 p4 (nI w)), (aI g p1 24 sd), (aI g p2 10 fn), (aI g p3 6 st), (aI g p4 6 me), (oX5 t0 t1 t2 pw), (aI g t1 6 pd), (aI g t2 36 wb)]) (va_runS (As := [.ref q1, .int 0]) (rest := []) ⟨hx, hb, hml, hown, hts⟩ (c_J7_fill_53178 l g q1 6 sh 0 (by first | assumption | decide | omega) H.size) (va_cwS 2 hts gX4_pass_J7_fill_53178 rfl rfl rfl (by decide +kernel) ⟨Nat.le_of_ble_eq_true rfl, Nat.le_of_ble_eq_true rfl⟩) (he_preS (wc := [(aI g q1 6 sh)]) hK hP hD hS hA hE [2] rfl rfl) rfl rfl hl.1 rfl (lv_room (Nat.le_of_ble_eq_true rfl)) dX4_pass_5 ⟨(Nat.le_of_ble_eq_true rfl), (Nat.le_of_ble_eq_true rfl)⟩) hP hD hS hA [2] [0, 1, 3, 4, 5, 6, 7, 8, 9, 10] rfl rfl rfl (by decide) (fun u_2 H locs h_3 hP hD hS => ?_)
  have hP : va_P g.1 vwCl [(oX4 h0 q0 q1 mo), (aI g q0 24 f), (oX6 p0 p1 p2 p3 p4 (nI w)), (aI g p1 24 sd), (aI g p2 10 fn), (aI g p3 6 st), (aI g p4 6 me), (oX5 t0 t1 t2 pw), (aI g t1 6 pd), (aI g t2 36 wb), (aI g q1 6 (flF (fun _ => 0) sh 6))] H := hP
  have hD : va_D A [(oX4 h0 q0 q1 mo), (aI g q0 24 f), (oX6 p0 p1 p2 p3 p4 (nI w)), (aI g p1 24 sd), (aI g p2 10 fn), (aI g p3 6 st), (aI g p4 6 me), (oX5 t0 t1 t2 pw), (aI g t1 6 pd), (aI g t2 36 wb), (aI g q1 6 (flF (fun _ => 0) sh 6))] := hD
  refine lv_aload_n hx hb dX4_pass_8 rfl (lv_at hl 0 rfl) ?_
  refine lv_iconst (v := 2) hx hb dX4_pass_9 (by decide) ?_
  refine lv_iconst (v := 0) hx hb dX4_pass_10 (by decide) ?_
  refine lv_aload_n hx hb dX4_pass_11 rfl (lv_at hl 0 rfl) ?_
  refine va_get (v := .ref q0) (T := TX4) (N := 3) hx hb hts inX4 hown hK hP 0 rfl rfl 0 (by decide) f9 (fun _ h9 => h9) rfl dX4_pass_12 ?_
  refine lv_iconst (v := 3) hx hb dX4_pass_15 (by decide) ?_
  refine he_iald hx hb hK hP 1 rfl (3) (by decide) (by decide) (by first | decide | assumption) (f 3) rfl dX4_pass_16 ?_
  refine lv_aload_n hx hb dX4_pass_17 rfl (lv_at hl 1 rfl) ?_
  refine va_get (v := .ref p1) (T := TX6) (N := 5) hx hb hts inX6 hown hK hP 2 rfl rfl 0 (by decide) f28 (fun _ h9 => h9) rfl dX4_pass_18 ?_
  refine lv_bipush (v := 10) hx hb dX4_pass_21 (by decide) ?_
  refine he_iald hx hb hK hP 3 rfl (10) (by decide) (by decide) (by first | decide | assumption) (sd 10) rfl dX4_pass_23 ?_
  refine lv_imul hx hb dX4_pass_24 ?_
  refine lv_aload_n hx hb dX4_pass_25 rfl (lv_at hl 0 rfl) ?_
  refine va_get (v := .ref q0) (T := TX4) (N := 3) hx hb hts inX4 hown hK hP 0 rfl rfl 0 (by decide) f9 (fun _ h9 => h9) rfl dX4_pass_26 ?_
  refine lv_iconst (v := 5) hx hb dX4_pass_29 (by decide) ?_
  refine he_iald hx hb hK hP 1 rfl (5) (by decide) (by decide) (by first | decide | assumption) (f 5) rfl dX4_pass_30 ?_
  refine lv_imul hx hb dX4_pass_31 ?_
  refine lv_sipush (v := 10000) hx hb dX4_pass_32 (by decide) ?_
  refine lv_idiv hx hb dX4_pass_35 (by decide) ?_
  refine he_cv (wc := [(oX4 h0 q0 q1 mo), (aI g q0 24 f)]) (wr := [(oX6 p0 p1 p2 p3 p4 (nI w)), (aI g p1 24 sd), (aI g p2 10 fn), (aI g p3 6 st), (aI g p4 6 me), (oX5 t0 t1 t2 pw), (aI g t1 6 pd), (aI g t2 36 wb), (aI g q1 6 (flF (fun _ => 0) sh 6))]) (va_runV (As := [.int 2, .int 0, .int ((((f 3) * (sd 10)) * (f 5)) / 10000)]) (rest := []) ⟨hx, hb, hml, hown, hts⟩ (c_X4_move l g h0 q0 q1 mo f 2 0 ((((f 3) * (sd 10)) * (f 5)) / 10000) (by first | assumption | decide | omega) (by first | assumption | decide | omega) H.size) (cwV 3 hts gX4_pass_X4_move rfl rfl rfl (by decide +kernel) ⟨Nat.le_of_ble_eq_true rfl, Nat.le_of_ble_eq_true rfl⟩) (he_preV (wc := [(oX4 h0 q0 q1 mo), (aI g q0 24 f)]) hK hP hD hS hA hE [0, 1] rfl rfl 0 rfl rfl) rfl rfl hl.1 rfl (lv_room (Nat.le_of_ble_eq_true rfl)) dX4_pass_36 ⟨(Nat.le_of_ble_eq_true rfl), (Nat.le_of_ble_eq_true rfl)⟩) hP hD hS hA [0, 1] [2, 3, 4, 5, 6, 7, 8, 9, 10] rfl rfl rfl (by decide) (fun u_5 H locs h_6 hP hD hS => ?_)
  have hP : va_P g.1 vwCl [(oX6 p0 p1 p2 p3 p4 (nI w)), (aI g p1 24 sd), (aI g p2 10 fn), (aI g p3 6 st), (aI g p4 6 me), (oX5 t0 t1 t2 pw), (aI g t1 6 pd), (aI g t2 36 wb), (aI g q1 6 (flF (fun _ => 0) sh 6)), (oX4 h0 q0 q1 mo), (aI g q0 24 (mvF f 2 0 ((((f 3) * (sd 10)) * (f 5)) / 10000)))] H := hP
  have hD : va_D A [(oX6 p0 p1 p2 p3 p4 (nI w)), (aI g p1 24 sd), (aI g p2 10 fn), (aI g p3 6 st), (aI g p4 6 me), (oX5 t0 t1 t2 pw), (aI g t1 6 pd), (aI g t2 36 wb), (aI g q1 6 (flF (fun _ => 0) sh 6)), (oX4 h0 q0 q1 mo), (aI g q0 24 (mvF f 2 0 ((((f 3) * (sd 10)) * (f 5)) / 10000)))] := hD
  have join71 : ∀ (F : Nat → Int32) (G : Nat → Int32), (F 10 = f 10 ∨ F 10 = -1) → ∀ (H : Heap) (locs : List Loc) (ls : Array Slot), va_P g.1 vwCl [(oX6 p0 p1 p2 p3 p4 (nI w)), (aI g p1 24 sd), (aI g p2 10 fn), (aI g p3 6 st), (aI g p4 6 me), (oX5 t0 t1 t2 pw), (aI g t1 6 pd), (aI g t2 36 wb), (aI g q1 6 G), (oX4 h0 q0 q1 mo), (aI g q0 24 F)] H → va_D A [(oX6 p0 p1 p2 p3 p4 (nI w)), (aI g p1 24 sd), (aI g p2 10 fn), (aI g p3 6 st), (aI g p4 6 me), (oX5 t0 t1 t2 pw), (aI g t1 6 pd), (aI g t2 36 wb), (aI g q1 6 G), (oX4 h0 q0 q1 mo), (aI g q0 24 F)] → va_S A s.heap H locs → lv_has ls 3 [(0, .ref h0), (1, .ref p0), (2, .ref t0)] → W p l e (he_room 4 88 0 0) s m args below meth c H locs 0 0 Q (F0 m 71 ls []) := by
    intro F G hF H locs ls hP hD hS hl
    refine lv_aload_n hx hb dX4_pass_71 rfl (lv_at hl 0 rfl) ?_
    refine va_get (v := .ref q0) (T := TX4) (N := 3) hx hb hts inX4 hown hK hP 9 rfl rfl 0 (by decide) f9 (fun _ h9 => h9) rfl dX4_pass_72 ?_
    refine lv_iconst (v := 5) hx hb dX4_pass_75 (by decide) ?_
    refine lv_iconst (v := 0) hx hb dX4_pass_76 (by decide) ?_
    refine lv_aload_n hx hb dX4_pass_77 rfl (lv_at hl 0 rfl) ?_
    refine va_get (v := .ref q0) (T := TX4) (N := 3) hx hb hts inX4 hown hK hP 9 rfl rfl 0 (by decide) f9 (fun _ h9 => h9) rfl dX4_pass_78 ?_
    refine lv_iconst (v := 5) hx hb dX4_pass_81 (by decide) ?_
    refine he_iald hx hb hK hP 10 rfl (5) (by decide) (by decide) (by first | decide | assumption) (F 5) rfl dX4_pass_82 ?_
    refine lv_aload_n hx hb dX4_pass_83 rfl (lv_at hl 1 rfl) ?_
    refine va_get (v := .ref p1) (T := TX6) (N := 5) hx hb hts inX6 hown hK hP 0 rfl rfl 0 (by decide) f28 (fun _ h9 => h9) rfl dX4_pass_84 ?_
    refine lv_bipush (v := 14) hx hb dX4_pass_87 (by decide) ?_
    refine he_iald hx hb hK hP 1 rfl (14) (by decide) (by decide) (by first | decide | assumption) (sd 14) rfl dX4_pass_89 ?_
    refine lv_isub hx hb dX4_pass_90 ?_
    refine va_mmax hx hb (by rw [hml]; exact hl.1.symm) hown ml68 msmax mi mcmax (by decide) (Nat.le_of_ble_eq_true rfl) (Nat.le_of_ble_eq_true rfl) (Nat.le_of_ble_eq_true rfl) dX4_pass_91 ?_
    refine he_iast hx hb hK hP hD hS 10 rfl (5) (by decide) (by decide) (by first | decide | assumption) dX4_pass_94 (fun H locs hP hD hS => ?_)
    have hP : va_P g.1 vwCl [(oX6 p0 p1 p2 p3 p4 (nI w)), (aI g p1 24 sd), (aI g p2 10 fn), (aI g p3 6 st), (aI g p4 6 me), (oX5 t0 t1 t2 pw), (aI g t1 6 pd), (aI g t2 36 wb), (aI g q1 6 G), (oX4 h0 q0 q1 mo), (aI g q0 24 (upd F 5 (if 0 < ((F 5) - (sd 14)) then (F 5) - (sd 14) else 0)))] H := hP
    have hD : va_D A [(oX6 p0 p1 p2 p3 p4 (nI w)), (aI g p1 24 sd), (aI g p2 10 fn), (aI g p3 6 st), (aI g p4 6 me), (oX5 t0 t1 t2 pw), (aI g t1 6 pd), (aI g t2 36 wb), (aI g q1 6 G), (oX4 h0 q0 q1 mo), (aI g q0 24 (upd F 5 (if 0 < ((F 5) - (sd 14)) then (F 5) - (sd 14) else 0)))] := hD
    refine lv_aload_n hx hb dX4_pass_95 rfl (lv_at hl 0 rfl) ?_
    refine lv_aload_n hx hb dX4_pass_96 rfl (lv_at hl 1 rfl) ?_
    refine he_cv (wc := [(oX4 h0 q0 q1 mo), (aI g q0 24 (upd F 5 (if 0 < ((F 5) - (sd 14)) then (F 5) - (sd 14) else 0))), (oX6 p0 p1 p2 p3 p4 (nI w)), (aI g p1 24 sd), (aI g p3 6 st), (aI g p4 6 me)]) (wr := [(aI g p2 10 fn), (oX5 t0 t1 t2 pw), (aI g t1 6 pd), (aI g t2 36 wb), (aI g q1 6 G)]) (va_runV (As := [.ref p0]) (rest := []) ⟨hx, hb, hml, hown, hts⟩ (c_X4_mend l g h0 q0 q1 mo (upd F 5 (if 0 < ((F 5) - (sd 14)) then (F 5) - (sd 14) else 0)) p0 p1 p2 p3 p4 w sd st me (by first | assumption | decide | omega) H.size) (cwV 1 hts gX4_pass_X4_mend rfl rfl rfl (by decide +kernel) ⟨Nat.le_of_ble_eq_true rfl, Nat.le_of_ble_eq_true rfl⟩) (he_preV (wc := [(oX4 h0 q0 q1 mo), (aI g q0 24 (upd F 5 (if 0 < ((F 5) - (sd 14)) then (F 5) - (sd 14) else 0))), (oX6 p0 p1 p2 p3 p4 (nI w)), (aI g p1 24 sd), (aI g p3 6 st), (aI g p4 6 me)]) hK hP hD hS hA hE [9, 10, 0, 1, 3, 4] rfl rfl 9 rfl rfl) rfl rfl hl.1 rfl (lv_room (Nat.le_of_ble_eq_true rfl)) dX4_pass_97 ⟨(Nat.le_of_ble_eq_true rfl), (Nat.le_of_ble_eq_true rfl)⟩) hP hD hS hA [9, 10, 0, 1, 3, 4] [2, 5, 6, 7, 8] rfl rfl rfl (by decide) (fun u_8 H locs h_9 hP hD hS => ?_)
    have hP : va_P g.1 vwCl [(aI g p2 10 fn), (oX5 t0 t1 t2 pw), (aI g t1 6 pd), (aI g t2 36 wb), (aI g q1 6 G), (oX4 h0 q0 q1 mo), (aI g q0 24 (mendF sd st me (upd F 5 (if 0 < ((F 5) - (sd 14)) then (F 5) - (sd 14) else 0)) w)), (oX6 p0 p1 p2 p3 p4 (nI w)), (aI g p1 24 sd), (aI g p3 6 st), (aI g p4 6 me)] H := hP
    have hD : va_D A [(aI g p2 10 fn), (oX5 t0 t1 t2 pw), (aI g t1 6 pd), (aI g t2 36 wb), (aI g q1 6 G), (oX4 h0 q0 q1 mo), (aI g q0 24 (mendF sd st me (upd F 5 (if 0 < ((F 5) - (sd 14)) then (F 5) - (sd 14) else 0)) w)), (oX6 p0 p1 p2 p3 p4 (nI w)), (aI g p1 24 sd), (aI g p3 6 st), (aI g p4 6 me)] := hD
    refine lv_aload_n hx hb dX4_pass_100 rfl (lv_at hl 0 rfl) ?_
    refine lv_iconst (v := 0) hx hb dX4_pass_101 (by decide) ?_
    refine lv_iconst (v := 2) hx hb dX4_pass_102 (by decide) ?_
    refine lv_aload_n hx hb dX4_pass_103 rfl (lv_at hl 1 rfl) ?_
    refine va_get (v := .ref p1) (T := TX6) (N := 5) hx hb hts inX6 hown hK hP 7 rfl rfl 0 (by decide) f28 (fun _ h9 => h9) rfl dX4_pass_104 ?_
    refine lv_iconst (v := 5) hx hb dX4_pass_107 (by decide) ?_
    refine he_iald hx hb hK hP 8 rfl (5) (by decide) (by decide) (by first | decide | assumption) (sd 5) rfl dX4_pass_108 ?_
    refine lv_aload_n hx hb dX4_pass_109 rfl (lv_at hl 0 rfl) ?_
    refine va_get (v := .ref q0) (T := TX4) (N := 3) hx hb hts inX4 hown hK hP 5 rfl rfl 0 (by decide) f9 (fun _ h9 => h9) rfl dX4_pass_110 ?_
    refine lv_iconst (v := 3) hx hb dX4_pass_113 (by decide) ?_
    refine he_iald hx hb hK hP 6 rfl (3) (by decide) (by decide) (by first | decide | assumption) ((mendF sd st me (upd F 5 (if 0 < ((F 5) - (sd 14)) then (F 5) - (sd 14) else 0)) w) 3) rfl dX4_pass_114 ?_
    refine lv_bipush (v := 10) hx hb dX4_pass_115 (by decide) ?_
    refine lv_idiv hx hb dX4_pass_117 (by decide) ?_
    refine lv_imul hx hb dX4_pass_118 ?_
    refine he_cv (wc := [(oX4 h0 q0 q1 mo), (aI g q0 24 (mendF sd st me (upd F 5 (if 0 < ((F 5) - (sd 14)) then (F 5) - (sd 14) else 0)) w))]) (wr := [(aI g p2 10 fn), (oX5 t0 t1 t2 pw), (aI g t1 6 pd), (aI g t2 36 wb), (aI g q1 6 G), (oX6 p0 p1 p2 p3 p4 (nI w)), (aI g p1 24 sd), (aI g p3 6 st), (aI g p4 6 me)]) (va_runV (As := [.int 0, .int 2, .int ((sd 5) * (((mendF sd st me (upd F 5 (if 0 < ((F 5) - (sd 14)) then (F 5) - (sd 14) else 0)) w) 3) / 10))]) (rest := []) ⟨hx, hb, hml, hown, hts⟩ (c_X4_move l g h0 q0 q1 mo (mendF sd st me (upd F 5 (if 0 < ((F 5) - (sd 14)) then (F 5) - (sd 14) else 0)) w) 0 2 ((sd 5) * (((mendF sd st me (upd F 5 (if 0 < ((F 5) - (sd 14)) then (F 5) - (sd 14) else 0)) w) 3) / 10)) (by first | assumption | decide | omega) (by first | assumption | decide | omega) H.size) (cwV 3 hts gX4_pass_X4_move rfl rfl rfl (by decide +kernel) ⟨Nat.le_of_ble_eq_true rfl, Nat.le_of_ble_eq_true rfl⟩) (he_preV (wc := [(oX4 h0 q0 q1 mo), (aI g q0 24 (mendF sd st me (upd F 5 (if 0 < ((F 5) - (sd 14)) then (F 5) - (sd 14) else 0)) w))]) hK hP hD hS hA hE [5, 6] rfl rfl 5 rfl rfl) rfl rfl hl.1 rfl (lv_room (Nat.le_of_ble_eq_true rfl)) dX4_pass_119 ⟨(Nat.le_of_ble_eq_true rfl), (Nat.le_of_ble_eq_true rfl)⟩) hP hD hS hA [5, 6] [0, 1, 2, 3, 4, 7, 8, 9, 10] rfl rfl rfl (by decide) (fun u_11 H locs h_12 hP hD hS => ?_)
    have hP : va_P g.1 vwCl [(aI g p2 10 fn), (oX5 t0 t1 t2 pw), (aI g t1 6 pd), (aI g t2 36 wb), (aI g q1 6 G), (oX6 p0 p1 p2 p3 p4 (nI w)), (aI g p1 24 sd), (aI g p3 6 st), (aI g p4 6 me), (oX4 h0 q0 q1 mo), (aI g q0 24 (mvF (mendF sd st me (upd F 5 (if 0 < ((F 5) - (sd 14)) then (F 5) - (sd 14) else 0)) w) 0 2 ((sd 5) * (((mendF sd st me (upd F 5 (if 0 < ((F 5) - (sd 14)) then (F 5) - (sd 14) else 0)) w) 3) / 10))))] H := hP
    have hD : va_D A [(aI g p2 10 fn), (oX5 t0 t1 t2 pw), (aI g t1 6 pd), (aI g t2 36 wb), (aI g q1 6 G), (oX6 p0 p1 p2 p3 p4 (nI w)), (aI g p1 24 sd), (aI g p3 6 st), (aI g p4 6 me), (oX4 h0 q0 q1 mo), (aI g q0 24 (mvF (mendF sd st me (upd F 5 (if 0 < ((F 5) - (sd 14)) then (F 5) - (sd 14) else 0)) w) 0 2 ((sd 5) * (((mendF sd st me (upd F 5 (if 0 < ((F 5) - (sd 14)) then (F 5) - (sd 14) else 0)) w) 3) / 10))))] := hD
    refine lv_aload_n hx hb dX4_pass_122 rfl (lv_at hl 0 rfl) ?_
    refine lv_iconst (v := 1) hx hb dX4_pass_123 (by decide) ?_
    refine lv_iconst (v := 2) hx hb dX4_pass_124 (by decide) ?_
    refine lv_aload_n hx hb dX4_pass_125 rfl (lv_at hl 1 rfl) ?_
    refine va_get (v := .ref p1) (T := TX6) (N := 5) hx hb hts inX6 hown hK hP 5 rfl rfl 0 (by decide) f28 (fun _ h9 => h9) rfl dX4_pass_126 ?_
    refine lv_bipush (v := 8) hx hb dX4_pass_129 (by decide) ?_
    refine he_iald hx hb hK hP 6 rfl (8) (by decide) (by decide) (by first | decide | assumption) (sd 8) rfl dX4_pass_131 ?_
    refine lv_aload_n hx hb dX4_pass_132 rfl (lv_at hl 0 rfl) ?_
    refine va_get (v := .ref q0) (T := TX4) (N := 3) hx hb hts inX4 hown hK hP 9 rfl rfl 0 (by decide) f9 (fun _ h9 => h9) rfl dX4_pass_133 ?_
    refine lv_iconst (v := 4) hx hb dX4_pass_136 (by decide) ?_
    refine he_iald hx hb hK hP 10 rfl (4) (by decide) (by decide) (by first | decide | assumption) ((mvF (mendF sd st me (upd F 5 (if 0 < ((F 5) - (sd 14)) then (F 5) - (sd 14) else 0)) w) 0 2 ((sd 5) * (((mendF sd st me (upd F 5 (if 0 < ((F 5) - (sd 14)) then (F 5) - (sd 14) else 0)) w) 3) / 10))) 4) rfl dX4_pass_137 ?_
    refine lv_bipush (v := 10) hx hb dX4_pass_138 (by decide) ?_
    refine lv_idiv hx hb dX4_pass_140 (by decide) ?_
    refine lv_imul hx hb dX4_pass_141 ?_
    refine he_cv (wc := [(oX4 h0 q0 q1 mo), (aI g q0 24 (mvF (mendF sd st me (upd F 5 (if 0 < ((F 5) - (sd 14)) then (F 5) - (sd 14) else 0)) w) 0 2 ((sd 5) * (((mendF sd st me (upd F 5 (if 0 < ((F 5) - (sd 14)) then (F 5) - (sd 14) else 0)) w) 3) / 10))))]) (wr := [(aI g p2 10 fn), (oX5 t0 t1 t2 pw), (aI g t1 6 pd), (aI g t2 36 wb), (aI g q1 6 G), (oX6 p0 p1 p2 p3 p4 (nI w)), (aI g p1 24 sd), (aI g p3 6 st), (aI g p4 6 me)]) (va_runV (As := [.int 1, .int 2, .int ((sd 8) * (((mvF (mendF sd st me (upd F 5 (if 0 < ((F 5) - (sd 14)) then (F 5) - (sd 14) else 0)) w) 0 2 ((sd 5) * (((mendF sd st me (upd F 5 (if 0 < ((F 5) - (sd 14)) then (F 5) - (sd 14) else 0)) w) 3) / 10))) 4) / 10))]) (rest := []) ⟨hx, hb, hml, hown, hts⟩ (c_X4_move l g h0 q0 q1 mo (mvF (mendF sd st me (upd F 5 (if 0 < ((F 5) - (sd 14)) then (F 5) - (sd 14) else 0)) w) 0 2 ((sd 5) * (((mendF sd st me (upd F 5 (if 0 < ((F 5) - (sd 14)) then (F 5) - (sd 14) else 0)) w) 3) / 10))) 1 2 ((sd 8) * (((mvF (mendF sd st me (upd F 5 (if 0 < ((F 5) - (sd 14)) then (F 5) - (sd 14) else 0)) w) 0 2 ((sd 5) * (((mendF sd st me (upd F 5 (if 0 < ((F 5) - (sd 14)) then (F 5) - (sd 14) else 0)) w) 3) / 10))) 4) / 10)) (by first | assumption | decide | omega) (by first | assumption | decide | omega) H.size) (cwV 3 hts gX4_pass_X4_move rfl rfl rfl (by decide +kernel) ⟨Nat.le_of_ble_eq_true rfl, Nat.le_of_ble_eq_true rfl⟩) (he_preV (wc := [(oX4 h0 q0 q1 mo), (aI g q0 24 (mvF (mendF sd st me (upd F 5 (if 0 < ((F 5) - (sd 14)) then (F 5) - (sd 14) else 0)) w) 0 2 ((sd 5) * (((mendF sd st me (upd F 5 (if 0 < ((F 5) - (sd 14)) then (F 5) - (sd 14) else 0)) w) 3) / 10))))]) hK hP hD hS hA hE [9, 10] rfl rfl 9 rfl rfl) rfl rfl hl.1 rfl (lv_room (Nat.le_of_ble_eq_true rfl)) dX4_pass_142 ⟨(Nat.le_of_ble_eq_true rfl), (Nat.le_of_ble_eq_true rfl)⟩) hP hD hS hA [9, 10] [0, 1, 2, 3, 4, 5, 6, 7, 8] rfl rfl rfl (by decide) (fun u_14 H locs h_15 hP hD hS => ?_)
    have hP : va_P g.1 vwCl [(aI g p2 10 fn), (oX5 t0 t1 t2 pw), (aI g t1 6 pd), (aI g t2 36 wb), (aI g q1 6 G), (oX6 p0 p1 p2 p3 p4 (nI w)), (aI g p1 24 sd), (aI g p3 6 st), (aI g p4 6 me), (oX4 h0 q0 q1 mo), (aI g q0 24 (mvF (mvF (mendF sd st me (upd F 5 (if 0 < ((F 5) - (sd 14)) then (F 5) - (sd 14) else 0)) w) 0 2 ((sd 5) * (((mendF sd st me (upd F 5 (if 0 < ((F 5) - (sd 14)) then (F 5) - (sd 14) else 0)) w) 3) / 10))) 1 2 ((sd 8) * (((mvF (mendF sd st me (upd F 5 (if 0 < ((F 5) - (sd 14)) then (F 5) - (sd 14) else 0)) w) 0 2 ((sd 5) * (((mendF sd st me (upd F 5 (if 0 < ((F 5) - (sd 14)) then (F 5) - (sd 14) else 0)) w) 3) / 10))) 4) / 10))))] H := hP
    have hD : va_D A [(aI g p2 10 fn), (oX5 t0 t1 t2 pw), (aI g t1 6 pd), (aI g t2 36 wb), (aI g q1 6 G), (oX6 p0 p1 p2 p3 p4 (nI w)), (aI g p1 24 sd), (aI g p3 6 st), (aI g p4 6 me), (oX4 h0 q0 q1 mo), (aI g q0 24 (mvF (mvF (mendF sd st me (upd F 5 (if 0 < ((F 5) - (sd 14)) then (F 5) - (sd 14) else 0)) w) 0 2 ((sd 5) * (((mendF sd st me (upd F 5 (if 0 < ((F 5) - (sd 14)) then (F 5) - (sd 14) else 0)) w) 3) / 10))) 1 2 ((sd 8) * (((mvF (mendF sd st me (upd F 5 (if 0 < ((F 5) - (sd 14)) then (F 5) - (sd 14) else 0)) w) 0 2 ((sd 5) * (((mendF sd st me (upd F 5 (if 0 < ((F 5) - (sd 14)) then (F 5) - (sd 14) else 0)) w) 3) / 10))) 4) / 10))))] := hD
    refine lv_aload_n hx hb dX4_pass_145 rfl (lv_at hl 0 rfl) ?_
    refine lv_aload_n hx hb dX4_pass_146 rfl (lv_at hl 1 rfl) ?_
    refine va_get (v := .ref p1) (T := TX6) (N := 5) hx hb hts inX6 hown hK hP 5 rfl rfl 0 (by decide) f28 (fun _ h9 => h9) rfl dX4_pass_147 ?_
    refine lv_bipush (v := 8) hx hb dX4_pass_150 (by decide) ?_
    refine he_iald hx hb hK hP 6 rfl (8) (by decide) (by decide) (by first | decide | assumption) (sd 8) rfl dX4_pass_152 ?_
    refine lv_aload_n hx hb dX4_pass_153 rfl (lv_at hl 1 rfl) ?_
    refine va_get (v := .ref p1) (T := TX6) (N := 5) hx hb hts inX6 hown hK hP 5 rfl rfl 0 (by decide) f28 (fun _ h9 => h9) rfl dX4_pass_154 ?_
    refine lv_iconst (v := 5) hx hb dX4_pass_157 (by decide) ?_
    refine he_iald hx hb hK hP 6 rfl (5) (by decide) (by decide) (by first | decide | assumption) (sd 5) rfl dX4_pass_158 ?_
    refine lv_isub hx hb dX4_pass_159 ?_
    refine he_cv (wc := [(oX4 h0 q0 q1 mo), (aI g q0 24 (mvF (mvF (mendF sd st me (upd F 5 (if 0 < ((F 5) - (sd 14)) then (F 5) - (sd 14) else 0)) w) 0 2 ((sd 5) * (((mendF sd st me (upd F 5 (if 0 < ((F 5) - (sd 14)) then (F 5) - (sd 14) else 0)) w) 3) / 10))) 1 2 ((sd 8) * (((mvF (mendF sd st me (upd F 5 (if 0 < ((F 5) - (sd 14)) then (F 5) - (sd 14) else 0)) w) 0 2 ((sd 5) * (((mendF sd st me (upd F 5 (if 0 < ((F 5) - (sd 14)) then (F 5) - (sd 14) else 0)) w) 3) / 10))) 4) / 10))))]) (wr := [(aI g p2 10 fn), (oX5 t0 t1 t2 pw), (aI g t1 6 pd), (aI g t2 36 wb), (aI g q1 6 G), (oX6 p0 p1 p2 p3 p4 (nI w)), (aI g p1 24 sd), (aI g p3 6 st), (aI g p4 6 me)]) (va_runV (As := [.int ((sd 8) - (sd 5))]) (rest := []) ⟨hx, hb, hml, hown, hts⟩ (c_X4_desert l g h0 q0 q1 mo (mvF (mvF (mendF sd st me (upd F 5 (if 0 < ((F 5) - (sd 14)) then (F 5) - (sd 14) else 0)) w) 0 2 ((sd 5) * (((mendF sd st me (upd F 5 (if 0 < ((F 5) - (sd 14)) then (F 5) - (sd 14) else 0)) w) 3) / 10))) 1 2 ((sd 8) * (((mvF (mendF sd st me (upd F 5 (if 0 < ((F 5) - (sd 14)) then (F 5) - (sd 14) else 0)) w) 0 2 ((sd 5) * (((mendF sd st me (upd F 5 (if 0 < ((F 5) - (sd 14)) then (F 5) - (sd 14) else 0)) w) 3) / 10))) 4) / 10))) ((sd 8) - (sd 5)) H.size) (cwV 1 hts gX4_pass_X4_desert rfl rfl rfl (by decide +kernel) ⟨Nat.le_of_ble_eq_true rfl, Nat.le_of_ble_eq_true rfl⟩) (he_preV (wc := [(oX4 h0 q0 q1 mo), (aI g q0 24 (mvF (mvF (mendF sd st me (upd F 5 (if 0 < ((F 5) - (sd 14)) then (F 5) - (sd 14) else 0)) w) 0 2 ((sd 5) * (((mendF sd st me (upd F 5 (if 0 < ((F 5) - (sd 14)) then (F 5) - (sd 14) else 0)) w) 3) / 10))) 1 2 ((sd 8) * (((mvF (mendF sd st me (upd F 5 (if 0 < ((F 5) - (sd 14)) then (F 5) - (sd 14) else 0)) w) 0 2 ((sd 5) * (((mendF sd st me (upd F 5 (if 0 < ((F 5) - (sd 14)) then (F 5) - (sd 14) else 0)) w) 3) / 10))) 4) / 10))))]) hK hP hD hS hA hE [9, 10] rfl rfl 9 rfl rfl) rfl rfl hl.1 rfl (lv_room (Nat.le_of_ble_eq_true rfl)) dX4_pass_160 ⟨(Nat.le_of_ble_eq_true rfl), (Nat.le_of_ble_eq_true rfl)⟩) hP hD hS hA [9, 10] [0, 1, 2, 3, 4, 5, 6, 7, 8] rfl rfl rfl (by decide) (fun u_17 H locs h_18 hP hD hS => ?_)
    have hP : va_P g.1 vwCl [(aI g p2 10 fn), (oX5 t0 t1 t2 pw), (aI g t1 6 pd), (aI g t2 36 wb), (aI g q1 6 G), (oX6 p0 p1 p2 p3 p4 (nI w)), (aI g p1 24 sd), (aI g p3 6 st), (aI g p4 6 me), (oX4 h0 q0 q1 mo), (aI g q0 24 (dsF (mvF (mvF (mendF sd st me (upd F 5 (if 0 < ((F 5) - (sd 14)) then (F 5) - (sd 14) else 0)) w) 0 2 ((sd 5) * (((mendF sd st me (upd F 5 (if 0 < ((F 5) - (sd 14)) then (F 5) - (sd 14) else 0)) w) 3) / 10))) 1 2 ((sd 8) * (((mvF (mendF sd st me (upd F 5 (if 0 < ((F 5) - (sd 14)) then (F 5) - (sd 14) else 0)) w) 0 2 ((sd 5) * (((mendF sd st me (upd F 5 (if 0 < ((F 5) - (sd 14)) then (F 5) - (sd 14) else 0)) w) 3) / 10))) 4) / 10))) ((sd 8) - (sd 5))))] H := hP
    have hD : va_D A [(aI g p2 10 fn), (oX5 t0 t1 t2 pw), (aI g t1 6 pd), (aI g t2 36 wb), (aI g q1 6 G), (oX6 p0 p1 p2 p3 p4 (nI w)), (aI g p1 24 sd), (aI g p3 6 st), (aI g p4 6 me), (oX4 h0 q0 q1 mo), (aI g q0 24 (dsF (mvF (mvF (mendF sd st me (upd F 5 (if 0 < ((F 5) - (sd 14)) then (F 5) - (sd 14) else 0)) w) 0 2 ((sd 5) * (((mendF sd st me (upd F 5 (if 0 < ((F 5) - (sd 14)) then (F 5) - (sd 14) else 0)) w) 3) / 10))) 1 2 ((sd 8) * (((mvF (mendF sd st me (upd F 5 (if 0 < ((F 5) - (sd 14)) then (F 5) - (sd 14) else 0)) w) 0 2 ((sd 5) * (((mendF sd st me (upd F 5 (if 0 < ((F 5) - (sd 14)) then (F 5) - (sd 14) else 0)) w) 3) / 10))) 4) / 10))) ((sd 8) - (sd 5))))] := hD
    refine lv_aload_n hx hb dX4_pass_163 rfl (lv_at hl 0 rfl) ?_
    refine lv_dup hx hb dX4_pass_164 rfl ?_
    refine va_get (v := .int mo) (T := TX4) (N := 3) hx hb hts inX4 hown hK hP 9 rfl rfl 2 (by decide) f18 (fun _ h9 => h9) rfl dX4_pass_165 ?_
    refine lv_iconst (v := 1) hx hb dX4_pass_168 (by decide) ?_
    refine lv_iadd hx hb dX4_pass_169 ?_
    refine va_put (v := .int (mo + 1)) (ty := .int) (T := TX4) (N := 3) hx hb hts inX4 tyX4 tyX4_ok nmX4 hown hK hP hD hS 9 rfl rfl 2 (by decide) f18 (fun _ h9 => h9) rfl (by decide +kernel) rfl rfl (Nat.le_of_ble_eq_true rfl) dX4_pass_170 (fun H locs hP hD hS => ?_)
    have hP : va_P g.1 vwCl [(aI g p2 10 fn), (oX5 t0 t1 t2 pw), (aI g t1 6 pd), (aI g t2 36 wb), (aI g q1 6 G), (oX6 p0 p1 p2 p3 p4 (nI w)), (aI g p1 24 sd), (aI g p3 6 st), (aI g p4 6 me), (oX4 h0 q0 q1 (mo + 1)), (aI g q0 24 (dsF (mvF (mvF (mendF sd st me (upd F 5 (if 0 < ((F 5) - (sd 14)) then (F 5) - (sd 14) else 0)) w) 0 2 ((sd 5) * (((mendF sd st me (upd F 5 (if 0 < ((F 5) - (sd 14)) then (F 5) - (sd 14) else 0)) w) 3) / 10))) 1 2 ((sd 8) * (((mvF (mendF sd st me (upd F 5 (if 0 < ((F 5) - (sd 14)) then (F 5) - (sd 14) else 0)) w) 0 2 ((sd 5) * (((mendF sd st me (upd F 5 (if 0 < ((F 5) - (sd 14)) then (F 5) - (sd 14) else 0)) w) 3) / 10))) 4) / 10))) ((sd 8) - (sd 5))))] H := hP
    have hD : va_D A [(aI g p2 10 fn), (oX5 t0 t1 t2 pw), (aI g t1 6 pd), (aI g t2 36 wb), (aI g q1 6 G), (oX6 p0 p1 p2 p3 p4 (nI w)), (aI g p1 24 sd), (aI g p3 6 st), (aI g p4 6 me), (oX4 h0 q0 q1 (mo + 1)), (aI g q0 24 (dsF (mvF (mvF (mendF sd st me (upd F 5 (if 0 < ((F 5) - (sd 14)) then (F 5) - (sd 14) else 0)) w) 0 2 ((sd 5) * (((mendF sd st me (upd F 5 (if 0 < ((F 5) - (sd 14)) then (F 5) - (sd 14) else 0)) w) 3) / 10))) 1 2 ((sd 8) * (((mvF (mendF sd st me (upd F 5 (if 0 < ((F 5) - (sd 14)) then (F 5) - (sd 14) else 0)) w) 0 2 ((sd 5) * (((mendF sd st me (upd F 5 (if 0 < ((F 5) - (sd 14)) then (F 5) - (sd 14) else 0)) w) 3) / 10))) 4) / 10))) ((sd 8) - (sd 5))))] := hD
    refine lv_aload_n hx hb dX4_pass_173 rfl (lv_at hl 2 rfl) ?_
    refine lv_ifnull hx hb dX4_pass_174 ?_
    refine lv_aload_n hx hb dX4_pass_177 rfl (lv_at hl 0 rfl) ?_
    refine va_get (v := .int (mo + 1)) (T := TX4) (N := 3) hx hb hts inX4 hown hK hP 9 rfl rfl 2 (by decide) f18 (fun _ h9 => h9) rfl dX4_pass_178 ?_
    refine lv_aload_n hx hb dX4_pass_181 rfl (lv_at hl 0 rfl) ?_
    refine va_get (v := .ref q0) (T := TX4) (N := 3) hx hb hts inX4 hown hK hP 9 rfl rfl 0 (by decide) f9 (fun _ h9 => h9) rfl dX4_pass_182 ?_
    refine lv_bipush (v := 11) hx hb dX4_pass_185 (by decide) ?_
    refine he_iald hx hb hK hP 10 rfl (11) (by decide) (by decide) (by first | decide | assumption) ((dsF (mvF (mvF (mendF sd st me (upd F 5 (if 0 < ((F 5) - (sd 14)) then (F 5) - (sd 14) else 0)) w) 0 2 ((sd 5) * (((mendF sd st me (upd F 5 (if 0 < ((F 5) - (sd 14)) then (F 5) - (sd 14) else 0)) w) 3) / 10))) 1 2 ((sd 8) * (((mvF (mendF sd st me (upd F 5 (if 0 < ((F 5) - (sd 14)) then (F 5) - (sd 14) else 0)) w) 0 2 ((sd 5) * (((mendF sd st me (upd F 5 (if 0 < ((F 5) - (sd 14)) then (F 5) - (sd 14) else 0)) w) 3) / 10))) 4) / 10))) ((sd 8) - (sd 5))) 11) rfl dX4_pass_187 ?_
    refine lv_isub hx hb dX4_pass_188 ?_
    refine lv_aload_n hx hb dX4_pass_189 rfl (lv_at hl 2 rfl) ?_
    refine va_get (v := .ref t1) (T := TX5) (N := 3) hx hb hts inX5 hown hK hP 1 rfl rfl 0 (by decide) f57 (fun _ h9 => h9) rfl dX4_pass_190 ?_
    refine lv_iconst (v := 5) hx hb dX4_pass_193 (by decide) ?_
    refine he_iald hx hb hK hP 2 rfl (5) (by decide) (by decide) (by first | decide | assumption) (pd 5) rfl dX4_pass_194 ?_
    refine lv_icmp_lt (tgt := 206) hx hb dX4_pass_195 (by decide) (fun c_19 => ?_) (fun c_19 => ?_)
    · have hP := hP.sub (ws' := [(oX4 h0 q0 q1 (mo + 1)), (aI g q0 24 (dsF (mvF (mvF (mendF sd st me (upd F 5 (if 0 < ((F 5) - (sd 14)) then (F 5) - (sd 14) else 0)) w) 0 2 ((sd 5) * (((mendF sd st me (upd F 5 (if 0 < ((F 5) - (sd 14)) then (F 5) - (sd 14) else 0)) w) 3) / 10))) 1 2 ((sd 8) * (((mvF (mendF sd st me (upd F 5 (if 0 < ((F 5) - (sd 14)) then (F 5) - (sd 14) else 0)) w) 0 2 ((sd 5) * (((mendF sd st me (upd F 5 (if 0 < ((F 5) - (sd 14)) then (F 5) - (sd 14) else 0)) w) 3) / 10))) 4) / 10))) ((sd 8) - (sd 5)))), (aI g q1 6 G), (oX6 p0 p1 p2 p3 p4 (nI w)), (aI g p1 24 sd), (aI g p2 10 fn), (aI g p3 6 st), (aI g p4 6 me), (oX5 t0 t1 t2 pw), (aI g t1 6 pd), (aI g t2 36 wb)]) [9, 10, 4, 5, 6, 0, 7, 8, 1, 2, 3] rfl
      have hD := hD.sub (ws' := [(oX4 h0 q0 q1 (mo + 1)), (aI g q0 24 (dsF (mvF (mvF (mendF sd st me (upd F 5 (if 0 < ((F 5) - (sd 14)) then (F 5) - (sd 14) else 0)) w) 0 2 ((sd 5) * (((mendF sd st me (upd F 5 (if 0 < ((F 5) - (sd 14)) then (F 5) - (sd 14) else 0)) w) 3) / 10))) 1 2 ((sd 8) * (((mvF (mendF sd st me (upd F 5 (if 0 < ((F 5) - (sd 14)) then (F 5) - (sd 14) else 0)) w) 0 2 ((sd 5) * (((mendF sd st me (upd F 5 (if 0 < ((F 5) - (sd 14)) then (F 5) - (sd 14) else 0)) w) 3) / 10))) 4) / 10))) ((sd 8) - (sd 5)))), (aI g q1 6 G), (oX6 p0 p1 p2 p3 p4 (nI w)), (aI g p1 24 sd), (aI g p2 10 fn), (aI g p3 6 st), (aI g p4 6 me), (oX5 t0 t1 t2 pw), (aI g t1 6 pd), (aI g t2 36 wb)]) [9, 10, 4, 5, 6, 0, 7, 8, 1, 2, 3] (by decide) rfl
      exact he_rv hQ hx hb hr hlk hP hD hS dX4_pass_206 (Nat.le_of_ble_eq_true rfl) (Nat.le_of_ble_eq_true rfl) ((dsF (mvF (mvF (mendF sd st me (upd F 5 (if 0 < ((F 5) - (sd 14)) then (F 5) - (sd 14) else 0)) w) 0 2 ((sd 5) * (((mendF sd st me (upd F 5 (if 0 < ((F 5) - (sd 14)) then (F 5) - (sd 14) else 0)) w) 3) / 10))) 1 2 ((sd 8) * (((mvF (mendF sd st me (upd F 5 (if 0 < ((F 5) - (sd 14)) then (F 5) - (sd 14) else 0)) w) 0 2 ((sd 5) * (((mendF sd st me (upd F 5 (if 0 < ((F 5) - (sd 14)) then (F 5) - (sd 14) else 0)) w) 3) / 10))) 4) / 10))) ((sd 8) - (sd 5)), G)) (rfl) ((by (try dsimp only); rw [dsF_n _ _ _ (by (try dsimp only); decide) (by (try dsimp only); decide), mvF_n _ _ _ _ _ (by (try dsimp only); decide) (by (try dsimp only); decide), mvF_n _ _ _ _ _ (by (try dsimp only); decide) (by (try dsimp only); decide), mendF_n _ _ _ _ _ (by (try dsimp only); decide) (by (try dsimp only); decide) (by (try dsimp only); decide), upd_n (by (try dsimp only); decide)]; exact hF))
    · refine lv_aload_n hx hb dX4_pass_198 rfl (lv_at hl 0 rfl) ?_
      refine va_get (v := .ref q0) (T := TX4) (N := 3) hx hb hts inX4 hown hK hP 9 rfl rfl 0 (by decide) f9 (fun _ h9 => h9) rfl dX4_pass_199 ?_
      refine lv_bipush (v := 10) hx hb dX4_pass_202 (by decide) ?_
      refine lv_iconst (v := (-1)) hx hb dX4_pass_204 (by decide) ?_
      refine he_iast hx hb hK hP hD hS 10 rfl (10) (by decide) (by decide) (by first | decide | assumption) dX4_pass_205 (fun H locs hP hD hS => ?_)
      have hP : va_P g.1 vwCl [(aI g p2 10 fn), (oX5 t0 t1 t2 pw), (aI g t1 6 pd), (aI g t2 36 wb), (aI g q1 6 G), (oX6 p0 p1 p2 p3 p4 (nI w)), (aI g p1 24 sd), (aI g p3 6 st), (aI g p4 6 me), (oX4 h0 q0 q1 (mo + 1)), (aI g q0 24 (upd (dsF (mvF (mvF (mendF sd st me (upd F 5 (if 0 < ((F 5) - (sd 14)) then (F 5) - (sd 14) else 0)) w) 0 2 ((sd 5) * (((mendF sd st me (upd F 5 (if 0 < ((F 5) - (sd 14)) then (F 5) - (sd 14) else 0)) w) 3) / 10))) 1 2 ((sd 8) * (((mvF (mendF sd st me (upd F 5 (if 0 < ((F 5) - (sd 14)) then (F 5) - (sd 14) else 0)) w) 0 2 ((sd 5) * (((mendF sd st me (upd F 5 (if 0 < ((F 5) - (sd 14)) then (F 5) - (sd 14) else 0)) w) 3) / 10))) 4) / 10))) ((sd 8) - (sd 5))) 10 (-1)))] H := hP
      have hD : va_D A [(aI g p2 10 fn), (oX5 t0 t1 t2 pw), (aI g t1 6 pd), (aI g t2 36 wb), (aI g q1 6 G), (oX6 p0 p1 p2 p3 p4 (nI w)), (aI g p1 24 sd), (aI g p3 6 st), (aI g p4 6 me), (oX4 h0 q0 q1 (mo + 1)), (aI g q0 24 (upd (dsF (mvF (mvF (mendF sd st me (upd F 5 (if 0 < ((F 5) - (sd 14)) then (F 5) - (sd 14) else 0)) w) 0 2 ((sd 5) * (((mendF sd st me (upd F 5 (if 0 < ((F 5) - (sd 14)) then (F 5) - (sd 14) else 0)) w) 3) / 10))) 1 2 ((sd 8) * (((mvF (mendF sd st me (upd F 5 (if 0 < ((F 5) - (sd 14)) then (F 5) - (sd 14) else 0)) w) 0 2 ((sd 5) * (((mendF sd st me (upd F 5 (if 0 < ((F 5) - (sd 14)) then (F 5) - (sd 14) else 0)) w) 3) / 10))) 4) / 10))) ((sd 8) - (sd 5))) 10 (-1)))] := hD
      have hP := hP.sub (ws' := [(oX4 h0 q0 q1 (mo + 1)), (aI g q0 24 (upd (dsF (mvF (mvF (mendF sd st me (upd F 5 (if 0 < ((F 5) - (sd 14)) then (F 5) - (sd 14) else 0)) w) 0 2 ((sd 5) * (((mendF sd st me (upd F 5 (if 0 < ((F 5) - (sd 14)) then (F 5) - (sd 14) else 0)) w) 3) / 10))) 1 2 ((sd 8) * (((mvF (mendF sd st me (upd F 5 (if 0 < ((F 5) - (sd 14)) then (F 5) - (sd 14) else 0)) w) 0 2 ((sd 5) * (((mendF sd st me (upd F 5 (if 0 < ((F 5) - (sd 14)) then (F 5) - (sd 14) else 0)) w) 3) / 10))) 4) / 10))) ((sd 8) - (sd 5))) 10 (-1))), (aI g q1 6 G), (oX6 p0 p1 p2 p3 p4 (nI w)), (aI g p1 24 sd), (aI g p2 10 fn), (aI g p3 6 st), (aI g p4 6 me), (oX5 t0 t1 t2 pw), (aI g t1 6 pd), (aI g t2 36 wb)]) [9, 10, 4, 5, 6, 0, 7, 8, 1, 2, 3] rfl
      have hD := hD.sub (ws' := [(oX4 h0 q0 q1 (mo + 1)), (aI g q0 24 (upd (dsF (mvF (mvF (mendF sd st me (upd F 5 (if 0 < ((F 5) - (sd 14)) then (F 5) - (sd 14) else 0)) w) 0 2 ((sd 5) * (((mendF sd st me (upd F 5 (if 0 < ((F 5) - (sd 14)) then (F 5) - (sd 14) else 0)) w) 3) / 10))) 1 2 ((sd 8) * (((mvF (mendF sd st me (upd F 5 (if 0 < ((F 5) - (sd 14)) then (F 5) - (sd 14) else 0)) w) 0 2 ((sd 5) * (((mendF sd st me (upd F 5 (if 0 < ((F 5) - (sd 14)) then (F 5) - (sd 14) else 0)) w) 3) / 10))) 4) / 10))) ((sd 8) - (sd 5))) 10 (-1))), (aI g q1 6 G), (oX6 p0 p1 p2 p3 p4 (nI w)), (aI g p1 24 sd), (aI g p2 10 fn), (aI g p3 6 st), (aI g p4 6 me), (oX5 t0 t1 t2 pw), (aI g t1 6 pd), (aI g t2 36 wb)]) [9, 10, 4, 5, 6, 0, 7, 8, 1, 2, 3] (by decide) rfl
      exact he_rv hQ hx hb hr hlk hP hD hS dX4_pass_206 (Nat.le_of_ble_eq_true rfl) (Nat.le_of_ble_eq_true rfl) ((upd (dsF (mvF (mvF (mendF sd st me (upd F 5 (if 0 < ((F 5) - (sd 14)) then (F 5) - (sd 14) else 0)) w) 0 2 ((sd 5) * (((mendF sd st me (upd F 5 (if 0 < ((F 5) - (sd 14)) then (F 5) - (sd 14) else 0)) w) 3) / 10))) 1 2 ((sd 8) * (((mvF (mendF sd st me (upd F 5 (if 0 < ((F 5) - (sd 14)) then (F 5) - (sd 14) else 0)) w) 0 2 ((sd 5) * (((mendF sd st me (upd F 5 (if 0 < ((F 5) - (sd 14)) then (F 5) - (sd 14) else 0)) w) 3) / 10))) 4) / 10))) ((sd 8) - (sd 5))) 10 (-1), G)) (rfl) ((Or.inr (by dsimp only; exact upd_s)))
  refine lv_aload_n hx hb dX4_pass_39 rfl (lv_at hl 2 rfl) ?_
  refine lv_ifnull hx hb dX4_pass_40 ?_
  refine lv_aload_n hx hb dX4_pass_43 rfl (lv_at hl 0 rfl) ?_
  refine lv_aload_n hx hb dX4_pass_44 rfl (lv_at hl 2 rfl) ?_
  refine he_ci (wc := [(oX4 h0 q0 q1 mo), (aI g q0 24 (mvF f 2 0 ((((f 3) * (sd 10)) * (f 5)) / 10000))), (oX5 t0 t1 t2 pw), (aI g t1 6 pd)]) (wr := [(oX6 p0 p1 p2 p3 p4 (nI w)), (aI g p1 24 sd), (aI g p2 10 fn), (aI g p3 6 st), (aI g p4 6 me), (aI g t2 36 wb), (aI g q1 6 (flF (fun _ => 0) sh 6))]) (va_runV (As := [.ref t0]) (rest := []) ⟨hx, hb, hml, hown, hts⟩ (g_X4_isPaid l g h0 q0 q1 mo (mvF f 2 0 ((((f 3) * (sd 10)) * (f 5)) / 10000)) t0 t1 t2 pw pd H.size) (cwV 1 hts gX4_pass_X4_isPaid rfl rfl rfl (by decide +kernel) ⟨Nat.le_of_ble_eq_true rfl, Nat.le_of_ble_eq_true rfl⟩) (he_preV (wc := [(oX4 h0 q0 q1 mo), (aI g q0 24 (mvF f 2 0 ((((f 3) * (sd 10)) * (f 5)) / 10000))), (oX5 t0 t1 t2 pw), (aI g t1 6 pd)]) hK hP hD hS hA hE [9, 10, 5, 6] rfl rfl 9 rfl rfl) rfl rfl hl.1 rfl (lv_room (Nat.le_of_ble_eq_true rfl)) dX4_pass_45 ⟨(Nat.le_of_ble_eq_true rfl), (Nat.le_of_ble_eq_true rfl)⟩) hP hD hS hA [9, 10, 5, 6] [0, 1, 2, 3, 4, 7, 8] rfl rfl rfl (by decide) (fun r_20 u_21 H locs h_22 hP hD hS => ?_)
  obtain ⟨uf_23, rfl⟩ : ∃ z, z = u_21 := ⟨_, rfl⟩
  try dsimp only at h_22
  obtain ⟨hf_24, hf_25⟩ := h_22
  have hP : va_P g.1 vwCl [(oX6 p0 p1 p2 p3 p4 (nI w)), (aI g p1 24 sd), (aI g p2 10 fn), (aI g p3 6 st), (aI g p4 6 me), (aI g t2 36 wb), (aI g q1 6 (flF (fun _ => 0) sh 6)), (oX4 h0 q0 q1 mo), (aI g q0 24 uf_23), (oX5 t0 t1 t2 pw), (aI g t1 6 pd)] H := hP
  have hD : va_D A [(oX6 p0 p1 p2 p3 p4 (nI w)), (aI g p1 24 sd), (aI g p2 10 fn), (aI g p3 6 st), (aI g p4 6 me), (aI g t2 36 wb), (aI g q1 6 (flF (fun _ => 0) sh 6)), (oX4 h0 q0 q1 mo), (aI g q0 24 uf_23), (oX5 t0 t1 t2 pw), (aI g t1 6 pd)] := hD
  refine lv_if_eq (tgt := 71) hx hb dX4_pass_48 (by decide) (fun c_26 => ?_) (fun c_26 => ?_)
  · exact join71 uf_23 (flF (fun _ => 0) sh 6) (by rw [← mvF_n f 2 0 10 (f 3 * sd 10 * f 5 / 10000) (by decide) (by decide)]; exact hf_25) _ _ _ (hP.sub [0, 1, 2, 3, 4, 9, 10, 5, 6, 7, 8] rfl) (hD.sub [0, 1, 2, 3, 4, 9, 10, 5, 6, 7, 8] (by decide) rfl) hS (lv_sub hl [0, 1, 2] rfl)
  · refine lv_aload_n hx hb dX4_pass_51 rfl (lv_at hl 0 rfl) ?_
    refine lv_aload_n hx hb dX4_pass_52 rfl (lv_at hl 1 rfl) ?_
    refine lv_aload_n hx hb dX4_pass_53 rfl (lv_at hl 2 rfl) ?_
    refine he_cv (wc := [(oX4 h0 q0 q1 mo), (aI g q0 24 uf_23), (aI g q1 6 (flF (fun _ => 0) sh 6)), (oX6 p0 p1 p2 p3 p4 (nI w)), (aI g p1 24 sd), (aI g p3 6 st), (oX5 t0 t1 t2 pw), (aI g t1 6 pd), (aI g t2 36 wb)]) (wr := [(aI g p2 10 fn), (aI g p4 6 me)]) (va_runV (As := [.ref p0, .ref t0]) (rest := []) ⟨hx, hb, hml, hown, hts⟩ (g_X4_shoot l g h0 q0 q1 mo uf_23 (flF (fun _ => 0) sh 6) p0 p1 p2 p3 p4 w sd st t0 t1 t2 pw pd wb ck (by first | assumption | decide | omega) (by first | assumption | decide | omega) (by first | assumption | decide | omega) (by first | assumption | decide | omega) H.size) (cwV 2 hts gX4_pass_X4_shoot rfl rfl rfl (by decide +kernel) ⟨Nat.le_of_ble_eq_true rfl, Nat.le_of_ble_eq_true rfl⟩) (he_preV (wc := [(oX4 h0 q0 q1 mo), (aI g q0 24 uf_23), (aI g q1 6 (flF (fun _ => 0) sh 6)), (oX6 p0 p1 p2 p3 p4 (nI w)), (aI g p1 24 sd), (aI g p3 6 st), (oX5 t0 t1 t2 pw), (aI g t1 6 pd), (aI g t2 36 wb)]) hK hP hD hS hA hE [7, 8, 6, 0, 1, 3, 9, 10, 5] rfl rfl 7 rfl rfl) rfl rfl hl.1 rfl (lv_room (Nat.le_of_ble_eq_true rfl)) dX4_pass_54 ⟨(Nat.le_of_ble_eq_true rfl), (Nat.le_of_ble_eq_true rfl)⟩) hP hD hS hA [7, 8, 6, 0, 1, 3, 9, 10, 5] [2, 4] rfl rfl rfl (by decide) (fun u_28 H locs h_29 hP hD hS => ?_)
    obtain ⟨uf_30, us_31⟩ := u_28
    try dsimp only at h_29
    have hf_32 := h_29
    have hP : va_P g.1 vwCl [(aI g p2 10 fn), (aI g p4 6 me), (oX4 h0 q0 q1 mo), (aI g q0 24 uf_30), (aI g q1 6 us_31), (oX6 p0 p1 p2 p3 p4 (nI w)), (aI g p1 24 sd), (aI g p3 6 st), (oX5 t0 t1 t2 pw), (aI g t1 6 pd), (aI g t2 36 wb)] H := hP
    have hD : va_D A [(aI g p2 10 fn), (aI g p4 6 me), (oX4 h0 q0 q1 mo), (aI g q0 24 uf_30), (aI g q1 6 us_31), (oX6 p0 p1 p2 p3 p4 (nI w)), (aI g p1 24 sd), (aI g p3 6 st), (oX5 t0 t1 t2 pw), (aI g t1 6 pd), (aI g t2 36 wb)] := hD
    refine lv_aload_n hx hb dX4_pass_57 rfl (lv_at hl 0 rfl) ?_
    refine lv_aload_n hx hb dX4_pass_58 rfl (lv_at hl 1 rfl) ?_
    refine lv_aload_n hx hb dX4_pass_59 rfl (lv_at hl 2 rfl) ?_
    refine va_get (v := .ref t1) (T := TX5) (N := 3) hx hb hts inX5 hown hK hP 8 rfl rfl 0 (by decide) f57 (fun _ h9 => h9) rfl dX4_pass_60 ?_
    refine lv_iconst (v := 2) hx hb dX4_pass_63 (by decide) ?_
    refine he_iald hx hb hK hP 9 rfl (2) (by decide) (by decide) (by first | decide | assumption) (pd 2) rfl dX4_pass_64 ?_
    refine he_ci (wc := [(oX6 p0 p1 p2 p3 p4 (nI w)), (aI g p2 10 fn)]) (wr := [(aI g p4 6 me), (oX4 h0 q0 q1 mo), (aI g q0 24 uf_30), (aI g q1 6 us_31), (aI g p1 24 sd), (aI g p3 6 st), (oX5 t0 t1 t2 pw), (aI g t1 6 pd), (aI g t2 36 wb)]) (va_runV (As := [.int (pd 2)]) (rest := [.ref h0]) ⟨hx, hb, hml, hown, hts⟩ (c_X6_fearAt l g p0 p1 p2 p3 p4 (nI w) fn (pd 2) H.size) (cwV 1 hts gX4_pass_X6_fearAt rfl rfl rfl (by decide +kernel) ⟨Nat.le_of_ble_eq_true rfl, Nat.le_of_ble_eq_true rfl⟩) (he_preV (wc := [(oX6 p0 p1 p2 p3 p4 (nI w)), (aI g p2 10 fn)]) hK hP hD hS hA hE [5, 0] rfl rfl 5 rfl rfl) rfl rfl hl.1 rfl (lv_room (Nat.le_of_ble_eq_true rfl)) dX4_pass_65 ⟨(Nat.le_of_ble_eq_true rfl), (Nat.le_of_ble_eq_true rfl)⟩) hP hD hS hA [5, 0] [1, 2, 3, 4, 6, 7, 8, 9, 10] rfl rfl rfl (by decide) (fun r_33 u_34 H locs h_35 hP hD hS => ?_)
    subst h_35
    have hP : va_P g.1 vwCl [(aI g p4 6 me), (oX4 h0 q0 q1 mo), (aI g q0 24 uf_30), (aI g q1 6 us_31), (aI g p1 24 sd), (aI g p3 6 st), (oX5 t0 t1 t2 pw), (aI g t1 6 pd), (aI g t2 36 wb), (oX6 p0 p1 p2 p3 p4 (nI w)), (aI g p2 10 fn)] H := hP
    have hD : va_D A [(aI g p4 6 me), (oX4 h0 q0 q1 mo), (aI g q0 24 uf_30), (aI g q1 6 us_31), (aI g p1 24 sd), (aI g p3 6 st), (oX5 t0 t1 t2 pw), (aI g t1 6 pd), (aI g t2 36 wb), (oX6 p0 p1 p2 p3 p4 (nI w)), (aI g p2 10 fn)] := hD
    refine he_cv (wc := [(oX4 h0 q0 q1 mo), (aI g q0 24 uf_30)]) (wr := [(aI g p4 6 me), (aI g q1 6 us_31), (aI g p1 24 sd), (aI g p3 6 st), (oX5 t0 t1 t2 pw), (aI g t1 6 pd), (aI g t2 36 wb), (oX6 p0 p1 p2 p3 p4 (nI w)), (aI g p2 10 fn)]) (va_runV (As := [.int (faF fn (pd 2))]) (rest := []) ⟨hx, hb, hml, hown, hts⟩ (c_X4_frighten l g h0 q0 q1 mo uf_30 (faF fn (pd 2)) H.size) (cwV 1 hts gX4_pass_X4_frighten rfl rfl rfl (by decide +kernel) ⟨Nat.le_of_ble_eq_true rfl, Nat.le_of_ble_eq_true rfl⟩) (he_preV (wc := [(oX4 h0 q0 q1 mo), (aI g q0 24 uf_30)]) hK hP hD hS hA hE [1, 2] rfl rfl 1 rfl rfl) rfl rfl hl.1 rfl (lv_room (Nat.le_of_ble_eq_true rfl)) dX4_pass_68 ⟨(Nat.le_of_ble_eq_true rfl), (Nat.le_of_ble_eq_true rfl)⟩) hP hD hS hA [1, 2] [0, 3, 4, 5, 6, 7, 8, 9, 10] rfl rfl rfl (by decide) (fun u_37 H locs h_38 hP hD hS => ?_)
    have hP : va_P g.1 vwCl [(aI g p4 6 me), (aI g q1 6 us_31), (aI g p1 24 sd), (aI g p3 6 st), (oX5 t0 t1 t2 pw), (aI g t1 6 pd), (aI g t2 36 wb), (oX6 p0 p1 p2 p3 p4 (nI w)), (aI g p2 10 fn), (oX4 h0 q0 q1 mo), (aI g q0 24 (frF uf_30 (faF fn (pd 2))))] H := hP
    have hD : va_D A [(aI g p4 6 me), (aI g q1 6 us_31), (aI g p1 24 sd), (aI g p3 6 st), (oX5 t0 t1 t2 pw), (aI g t1 6 pd), (aI g t2 36 wb), (oX6 p0 p1 p2 p3 p4 (nI w)), (aI g p2 10 fn), (oX4 h0 q0 q1 mo), (aI g q0 24 (frF uf_30 (faF fn (pd 2))))] := hD
    exact join71 (frF uf_30 (faF fn (pd 2))) us_31 (by rw [frF, upd_n (by decide), hf_32, ← mvF_n f 2 0 10 (f 3 * sd 10 * f 5 / 10000) (by decide) (by decide)]; exact hf_25) _ _ _ (hP.sub [7, 2, 8, 3, 0, 4, 5, 6, 1, 9, 10] rfl) (hD.sub [7, 2, 8, 3, 0, 4, 5, 6, 1, 9, 10] (by decide) rfl) hS (lv_sub hl [0, 1, 2] rfl)
set_option maxHeartbeats 4000000 in
set_option maxRecDepth 100000 in
theorem g_X4_passN (l : Launch) (g : he_G) (h0 : Nat) (q0 : Nat) (q1 : Nat) (mo : Int32) (f : Nat → Int32) (sh : Nat → Int32) (p0 : Nat) (p1 : Nat) (p2 : Nat) (p3 : Nat) (p4 : Nat) (w : Nat) (sd : Nat → Int32) (st : Nat → Int32) (me : Nat → Int32) (hw6 : w ≤ 6) : he_V l yX4_pass wsX4_pass 3 61 0 0 g [.ref h0, .ref p0, .null] [(oX4 h0 q0 q1 mo), (aI g q0 24 f), (aI g q1 6 sh), (oX6 p0 p1 p2 p3 p4 (nI w)), (aI g p1 24 sd), (aI g p3 6 st), (aI g p4 6 me)] (fun (u : (Nat → Int32) × (Nat → Int32)) => u.1 10 = f 10) (fun (u : (Nat → Int32) × (Nat → Int32)) => [(oX4 h0 q0 q1 (mo + 1)), (aI g q0 24 u.1), (aI g q1 6 u.2), (oX6 p0 p1 p2 p3 p4 (nI w)), (aI g p1 24 sd), (aI g p3 6 st), (aI g p4 6 me)]) := by
  refine he_begin (l := l) (g := g) (y := yX4_pass) (wl := wsX4_pass) (fr := 3) (lo := 61) (mc := 0) (ms := 0) (av := [.ref h0, .ref p0, .null]) (ws := [(oX4 h0 q0 q1 mo), (aI g q0 24 f), (aI g q1 6 sh), (oX6 p0 p1 p2 p3 p4 (nI w)), (aI g p1 24 sd), (aI g p3 6 st), (aI g p4 6 me)]) (cc := cX4_pass) (maxL := 3) (ret := none) (fun A => va_Qv (fun (u : (Nat → Int32) × (Nat → Int32)) => u.1 10 = f 10) (fun u t => he_post g A ((fun (u : (Nat → Int32) × (Nat → Int32)) => [(oX4 h0 q0 q1 (mo + 1)), (aI g q0 24 u.1), (aI g q1 6 u.2), (oX6 p0 p1 p2 p3 p4 (nI w)), (aI g p1 24 sd), (aI g p3 6 st), (aI g p4 6 me)]) u) t) A) (by decide) rfl (Nat.le_of_ble_eq_true rfl) ?_
  intro p e s m args below meth c A ls H locs Q hQ hB
  obtain ⟨hx, hb, hr, hml, hown, hts, hlk, hin, hP, hK, hD, hS, hA, hE, hl⟩ := hB
  have hl : lv_has ls 3 [(0, .ref h0), (1, .ref p0), (2, .null)] := hl
  have f15 := hts (.fieldLink RX4 15 "HiredEnemy$Course" "shot" "[I") (iwoX4_pass (k := 0) rfl)
  have inX4 : ∀ w ∈ wsX40, w ∈ wsX4_pass := innX4_pass_X4
  have f9 := hts (.fieldLink RX4 9 "HiredEnemy$Course" "now" "[I") (iwoX4_pass (k := 1) rfl)
  have f28 := hts (.fieldLink RX4 28 "HiredEnemy$Plan" "said" "[I") (iwoX4_pass (k := 2) rfl)
  have inX6 : ∀ w ∈ wsX60, w ∈ wsX4_pass := innX4_pass_X6
  have ml68 := hts (.methodLink RX4 68 Lib.Math.max.name) (iwoX4_pass (k := 4) rfl)
  have msmax := hts (.static Lib.Math.max.name) (iwoX4_pass (k := 5) rfl)
  have mi := hts (.initialized "java/lang/Math") (iwoX4_pass (k := 6) rfl)
  have mcmax := hts (.code Lib.Math.max.name Lib.Math.max.code 2 (some .int)) (iwoX4_pass (k := 7) rfl)
  have f18 := hts (.fieldLink RX4 18 "HiredEnemy$Course" "month" "I") (iwoX4_pass (k := 8) rfl)
  refine lv_aload_n hx hb dX4_pass_0 rfl (lv_at hl 0 rfl) ?_
  refine va_get (v := .ref q1) (T := TX4) (N := 3) hx hb hts inX4 hown hK hP 0 rfl rfl 1 (by decide) f15 (fun _ h9 => h9) rfl dX4_pass_1 ?_
  refine lv_iconst (v := 0) hx hb dX4_pass_4 (by decide) ?_
  refine he_cv (wc := [(aI g q1 6 sh)]) (wr := [(oX4 h0 q0 q1 mo), (aI g q0 24 f), (oX6 p0 p1 p2 p3 p4 (nI w)), (aI g p1 24 sd), (aI g p3 6 st), (aI g p4 6 me)]) (va_runS (As := [.ref q1, .int 0]) (rest := []) ⟨hx, hb, hml, hown, hts⟩ (c_J7_fill_53178 l g q1 6 sh 0 (by first | assumption | decide | omega) H.size) (va_cwS 2 hts gX4_pass_J7_fill_53178 rfl rfl rfl (by decide +kernel) ⟨Nat.le_of_ble_eq_true rfl, Nat.le_of_ble_eq_true rfl⟩) (he_preS (wc := [(aI g q1 6 sh)]) hK hP hD hS hA hE [2] rfl rfl) rfl rfl hl.1 rfl (lv_room (Nat.le_of_ble_eq_true rfl)) dX4_pass_5 ⟨(Nat.le_of_ble_eq_true rfl), (Nat.le_of_ble_eq_true rfl)⟩) hP hD hS hA [2] [0, 1, 3, 4, 5, 6] rfl rfl rfl (by decide) (fun u_2 H locs h_3 hP hD hS => ?_)
  have hP : va_P g.1 vwCl [(oX4 h0 q0 q1 mo), (aI g q0 24 f), (oX6 p0 p1 p2 p3 p4 (nI w)), (aI g p1 24 sd), (aI g p3 6 st), (aI g p4 6 me), (aI g q1 6 (flF (fun _ => 0) sh 6))] H := hP
  have hD : va_D A [(oX4 h0 q0 q1 mo), (aI g q0 24 f), (oX6 p0 p1 p2 p3 p4 (nI w)), (aI g p1 24 sd), (aI g p3 6 st), (aI g p4 6 me), (aI g q1 6 (flF (fun _ => 0) sh 6))] := hD
  refine lv_aload_n hx hb dX4_pass_8 rfl (lv_at hl 0 rfl) ?_
  refine lv_iconst (v := 2) hx hb dX4_pass_9 (by decide) ?_
  refine lv_iconst (v := 0) hx hb dX4_pass_10 (by decide) ?_
  refine lv_aload_n hx hb dX4_pass_11 rfl (lv_at hl 0 rfl) ?_
  refine va_get (v := .ref q0) (T := TX4) (N := 3) hx hb hts inX4 hown hK hP 0 rfl rfl 0 (by decide) f9 (fun _ h9 => h9) rfl dX4_pass_12 ?_
  refine lv_iconst (v := 3) hx hb dX4_pass_15 (by decide) ?_
  refine he_iald hx hb hK hP 1 rfl (3) (by decide) (by decide) (by first | decide | assumption) (f 3) rfl dX4_pass_16 ?_
  refine lv_aload_n hx hb dX4_pass_17 rfl (lv_at hl 1 rfl) ?_
  refine va_get (v := .ref p1) (T := TX6) (N := 5) hx hb hts inX6 hown hK hP 2 rfl rfl 0 (by decide) f28 (fun _ h9 => h9) rfl dX4_pass_18 ?_
  refine lv_bipush (v := 10) hx hb dX4_pass_21 (by decide) ?_
  refine he_iald hx hb hK hP 3 rfl (10) (by decide) (by decide) (by first | decide | assumption) (sd 10) rfl dX4_pass_23 ?_
  refine lv_imul hx hb dX4_pass_24 ?_
  refine lv_aload_n hx hb dX4_pass_25 rfl (lv_at hl 0 rfl) ?_
  refine va_get (v := .ref q0) (T := TX4) (N := 3) hx hb hts inX4 hown hK hP 0 rfl rfl 0 (by decide) f9 (fun _ h9 => h9) rfl dX4_pass_26 ?_
  refine lv_iconst (v := 5) hx hb dX4_pass_29 (by decide) ?_
  refine he_iald hx hb hK hP 1 rfl (5) (by decide) (by decide) (by first | decide | assumption) (f 5) rfl dX4_pass_30 ?_
  refine lv_imul hx hb dX4_pass_31 ?_
  refine lv_sipush (v := 10000) hx hb dX4_pass_32 (by decide) ?_
  refine lv_idiv hx hb dX4_pass_35 (by decide) ?_
  refine he_cv (wc := [(oX4 h0 q0 q1 mo), (aI g q0 24 f)]) (wr := [(oX6 p0 p1 p2 p3 p4 (nI w)), (aI g p1 24 sd), (aI g p3 6 st), (aI g p4 6 me), (aI g q1 6 (flF (fun _ => 0) sh 6))]) (va_runV (As := [.int 2, .int 0, .int ((((f 3) * (sd 10)) * (f 5)) / 10000)]) (rest := []) ⟨hx, hb, hml, hown, hts⟩ (c_X4_move l g h0 q0 q1 mo f 2 0 ((((f 3) * (sd 10)) * (f 5)) / 10000) (by first | assumption | decide | omega) (by first | assumption | decide | omega) H.size) (cwV 3 hts gX4_pass_X4_move rfl rfl rfl (by decide +kernel) ⟨Nat.le_of_ble_eq_true rfl, Nat.le_of_ble_eq_true rfl⟩) (he_preV (wc := [(oX4 h0 q0 q1 mo), (aI g q0 24 f)]) hK hP hD hS hA hE [0, 1] rfl rfl 0 rfl rfl) rfl rfl hl.1 rfl (lv_room (Nat.le_of_ble_eq_true rfl)) dX4_pass_36 ⟨(Nat.le_of_ble_eq_true rfl), (Nat.le_of_ble_eq_true rfl)⟩) hP hD hS hA [0, 1] [2, 3, 4, 5, 6] rfl rfl rfl (by decide) (fun u_5 H locs h_6 hP hD hS => ?_)
  have hP : va_P g.1 vwCl [(oX6 p0 p1 p2 p3 p4 (nI w)), (aI g p1 24 sd), (aI g p3 6 st), (aI g p4 6 me), (aI g q1 6 (flF (fun _ => 0) sh 6)), (oX4 h0 q0 q1 mo), (aI g q0 24 (mvF f 2 0 ((((f 3) * (sd 10)) * (f 5)) / 10000)))] H := hP
  have hD : va_D A [(oX6 p0 p1 p2 p3 p4 (nI w)), (aI g p1 24 sd), (aI g p3 6 st), (aI g p4 6 me), (aI g q1 6 (flF (fun _ => 0) sh 6)), (oX4 h0 q0 q1 mo), (aI g q0 24 (mvF f 2 0 ((((f 3) * (sd 10)) * (f 5)) / 10000)))] := hD
  refine lv_aload_nN hx hb dX4_pass_39 rfl (lv_at hl 2 rfl) ?_
  refine lv_ifnullN (tgt := 71) hx hb dX4_pass_40 (by decide) ?_
  refine lv_aload_n hx hb dX4_pass_71 rfl (lv_at hl 0 rfl) ?_
  refine va_get (v := .ref q0) (T := TX4) (N := 3) hx hb hts inX4 hown hK hP 5 rfl rfl 0 (by decide) f9 (fun _ h9 => h9) rfl dX4_pass_72 ?_
  refine lv_iconst (v := 5) hx hb dX4_pass_75 (by decide) ?_
  refine lv_iconst (v := 0) hx hb dX4_pass_76 (by decide) ?_
  refine lv_aload_n hx hb dX4_pass_77 rfl (lv_at hl 0 rfl) ?_
  refine va_get (v := .ref q0) (T := TX4) (N := 3) hx hb hts inX4 hown hK hP 5 rfl rfl 0 (by decide) f9 (fun _ h9 => h9) rfl dX4_pass_78 ?_
  refine lv_iconst (v := 5) hx hb dX4_pass_81 (by decide) ?_
  refine he_iald hx hb hK hP 6 rfl (5) (by decide) (by decide) (by first | decide | assumption) ((mvF f 2 0 ((((f 3) * (sd 10)) * (f 5)) / 10000)) 5) rfl dX4_pass_82 ?_
  refine lv_aload_n hx hb dX4_pass_83 rfl (lv_at hl 1 rfl) ?_
  refine va_get (v := .ref p1) (T := TX6) (N := 5) hx hb hts inX6 hown hK hP 0 rfl rfl 0 (by decide) f28 (fun _ h9 => h9) rfl dX4_pass_84 ?_
  refine lv_bipush (v := 14) hx hb dX4_pass_87 (by decide) ?_
  refine he_iald hx hb hK hP 1 rfl (14) (by decide) (by decide) (by first | decide | assumption) (sd 14) rfl dX4_pass_89 ?_
  refine lv_isub hx hb dX4_pass_90 ?_
  refine va_mmax hx hb (by rw [hml]; exact hl.1.symm) hown ml68 msmax mi mcmax (by decide) (Nat.le_of_ble_eq_true rfl) (Nat.le_of_ble_eq_true rfl) (Nat.le_of_ble_eq_true rfl) dX4_pass_91 ?_
  refine he_iast hx hb hK hP hD hS 6 rfl (5) (by decide) (by decide) (by first | decide | assumption) dX4_pass_94 (fun H locs hP hD hS => ?_)
  have hP : va_P g.1 vwCl [(oX6 p0 p1 p2 p3 p4 (nI w)), (aI g p1 24 sd), (aI g p3 6 st), (aI g p4 6 me), (aI g q1 6 (flF (fun _ => 0) sh 6)), (oX4 h0 q0 q1 mo), (aI g q0 24 (upd (mvF f 2 0 ((((f 3) * (sd 10)) * (f 5)) / 10000)) 5 (if 0 < (((mvF f 2 0 ((((f 3) * (sd 10)) * (f 5)) / 10000)) 5) - (sd 14)) then ((mvF f 2 0 ((((f 3) * (sd 10)) * (f 5)) / 10000)) 5) - (sd 14) else 0)))] H := hP
  have hD : va_D A [(oX6 p0 p1 p2 p3 p4 (nI w)), (aI g p1 24 sd), (aI g p3 6 st), (aI g p4 6 me), (aI g q1 6 (flF (fun _ => 0) sh 6)), (oX4 h0 q0 q1 mo), (aI g q0 24 (upd (mvF f 2 0 ((((f 3) * (sd 10)) * (f 5)) / 10000)) 5 (if 0 < (((mvF f 2 0 ((((f 3) * (sd 10)) * (f 5)) / 10000)) 5) - (sd 14)) then ((mvF f 2 0 ((((f 3) * (sd 10)) * (f 5)) / 10000)) 5) - (sd 14) else 0)))] := hD
  refine lv_aload_n hx hb dX4_pass_95 rfl (lv_at hl 0 rfl) ?_
  refine lv_aload_n hx hb dX4_pass_96 rfl (lv_at hl 1 rfl) ?_
  refine he_cv (wc := [(oX4 h0 q0 q1 mo), (aI g q0 24 (upd (mvF f 2 0 ((((f 3) * (sd 10)) * (f 5)) / 10000)) 5 (if 0 < (((mvF f 2 0 ((((f 3) * (sd 10)) * (f 5)) / 10000)) 5) - (sd 14)) then ((mvF f 2 0 ((((f 3) * (sd 10)) * (f 5)) / 10000)) 5) - (sd 14) else 0))), (oX6 p0 p1 p2 p3 p4 (nI w)), (aI g p1 24 sd), (aI g p3 6 st), (aI g p4 6 me)]) (wr := [(aI g q1 6 (flF (fun _ => 0) sh 6))]) (va_runV (As := [.ref p0]) (rest := []) ⟨hx, hb, hml, hown, hts⟩ (c_X4_mend l g h0 q0 q1 mo (upd (mvF f 2 0 ((((f 3) * (sd 10)) * (f 5)) / 10000)) 5 (if 0 < (((mvF f 2 0 ((((f 3) * (sd 10)) * (f 5)) / 10000)) 5) - (sd 14)) then ((mvF f 2 0 ((((f 3) * (sd 10)) * (f 5)) / 10000)) 5) - (sd 14) else 0)) p0 p1 p2 p3 p4 w sd st me (by first | assumption | decide | omega) H.size) (cwV 1 hts gX4_pass_X4_mend rfl rfl rfl (by decide +kernel) ⟨Nat.le_of_ble_eq_true rfl, Nat.le_of_ble_eq_true rfl⟩) (he_preV (wc := [(oX4 h0 q0 q1 mo), (aI g q0 24 (upd (mvF f 2 0 ((((f 3) * (sd 10)) * (f 5)) / 10000)) 5 (if 0 < (((mvF f 2 0 ((((f 3) * (sd 10)) * (f 5)) / 10000)) 5) - (sd 14)) then ((mvF f 2 0 ((((f 3) * (sd 10)) * (f 5)) / 10000)) 5) - (sd 14) else 0))), (oX6 p0 p1 p2 p3 p4 (nI w)), (aI g p1 24 sd), (aI g p3 6 st), (aI g p4 6 me)]) hK hP hD hS hA hE [5, 6, 0, 1, 2, 3] rfl rfl 5 rfl rfl) rfl rfl hl.1 rfl (lv_room (Nat.le_of_ble_eq_true rfl)) dX4_pass_97 ⟨(Nat.le_of_ble_eq_true rfl), (Nat.le_of_ble_eq_true rfl)⟩) hP hD hS hA [5, 6, 0, 1, 2, 3] [4] rfl rfl rfl (by decide) (fun u_8 H locs h_9 hP hD hS => ?_)
  have hP : va_P g.1 vwCl [(aI g q1 6 (flF (fun _ => 0) sh 6)), (oX4 h0 q0 q1 mo), (aI g q0 24 (mendF sd st me (upd (mvF f 2 0 ((((f 3) * (sd 10)) * (f 5)) / 10000)) 5 (if 0 < (((mvF f 2 0 ((((f 3) * (sd 10)) * (f 5)) / 10000)) 5) - (sd 14)) then ((mvF f 2 0 ((((f 3) * (sd 10)) * (f 5)) / 10000)) 5) - (sd 14) else 0)) w)), (oX6 p0 p1 p2 p3 p4 (nI w)), (aI g p1 24 sd), (aI g p3 6 st), (aI g p4 6 me)] H := hP
  have hD : va_D A [(aI g q1 6 (flF (fun _ => 0) sh 6)), (oX4 h0 q0 q1 mo), (aI g q0 24 (mendF sd st me (upd (mvF f 2 0 ((((f 3) * (sd 10)) * (f 5)) / 10000)) 5 (if 0 < (((mvF f 2 0 ((((f 3) * (sd 10)) * (f 5)) / 10000)) 5) - (sd 14)) then ((mvF f 2 0 ((((f 3) * (sd 10)) * (f 5)) / 10000)) 5) - (sd 14) else 0)) w)), (oX6 p0 p1 p2 p3 p4 (nI w)), (aI g p1 24 sd), (aI g p3 6 st), (aI g p4 6 me)] := hD
  refine lv_aload_n hx hb dX4_pass_100 rfl (lv_at hl 0 rfl) ?_
  refine lv_iconst (v := 0) hx hb dX4_pass_101 (by decide) ?_
  refine lv_iconst (v := 2) hx hb dX4_pass_102 (by decide) ?_
  refine lv_aload_n hx hb dX4_pass_103 rfl (lv_at hl 1 rfl) ?_
  refine va_get (v := .ref p1) (T := TX6) (N := 5) hx hb hts inX6 hown hK hP 3 rfl rfl 0 (by decide) f28 (fun _ h9 => h9) rfl dX4_pass_104 ?_
  refine lv_iconst (v := 5) hx hb dX4_pass_107 (by decide) ?_
  refine he_iald hx hb hK hP 4 rfl (5) (by decide) (by decide) (by first | decide | assumption) (sd 5) rfl dX4_pass_108 ?_
  refine lv_aload_n hx hb dX4_pass_109 rfl (lv_at hl 0 rfl) ?_
  refine va_get (v := .ref q0) (T := TX4) (N := 3) hx hb hts inX4 hown hK hP 1 rfl rfl 0 (by decide) f9 (fun _ h9 => h9) rfl dX4_pass_110 ?_
  refine lv_iconst (v := 3) hx hb dX4_pass_113 (by decide) ?_
  refine he_iald hx hb hK hP 2 rfl (3) (by decide) (by decide) (by first | decide | assumption) ((mendF sd st me (upd (mvF f 2 0 ((((f 3) * (sd 10)) * (f 5)) / 10000)) 5 (if 0 < (((mvF f 2 0 ((((f 3) * (sd 10)) * (f 5)) / 10000)) 5) - (sd 14)) then ((mvF f 2 0 ((((f 3) * (sd 10)) * (f 5)) / 10000)) 5) - (sd 14) else 0)) w) 3) rfl dX4_pass_114 ?_
  refine lv_bipush (v := 10) hx hb dX4_pass_115 (by decide) ?_
  refine lv_idiv hx hb dX4_pass_117 (by decide) ?_
  refine lv_imul hx hb dX4_pass_118 ?_
  refine he_cv (wc := [(oX4 h0 q0 q1 mo), (aI g q0 24 (mendF sd st me (upd (mvF f 2 0 ((((f 3) * (sd 10)) * (f 5)) / 10000)) 5 (if 0 < (((mvF f 2 0 ((((f 3) * (sd 10)) * (f 5)) / 10000)) 5) - (sd 14)) then ((mvF f 2 0 ((((f 3) * (sd 10)) * (f 5)) / 10000)) 5) - (sd 14) else 0)) w))]) (wr := [(aI g q1 6 (flF (fun _ => 0) sh 6)), (oX6 p0 p1 p2 p3 p4 (nI w)), (aI g p1 24 sd), (aI g p3 6 st), (aI g p4 6 me)]) (va_runV (As := [.int 0, .int 2, .int ((sd 5) * (((mendF sd st me (upd (mvF f 2 0 ((((f 3) * (sd 10)) * (f 5)) / 10000)) 5 (if 0 < (((mvF f 2 0 ((((f 3) * (sd 10)) * (f 5)) / 10000)) 5) - (sd 14)) then ((mvF f 2 0 ((((f 3) * (sd 10)) * (f 5)) / 10000)) 5) - (sd 14) else 0)) w) 3) / 10))]) (rest := []) ⟨hx, hb, hml, hown, hts⟩ (c_X4_move l g h0 q0 q1 mo (mendF sd st me (upd (mvF f 2 0 ((((f 3) * (sd 10)) * (f 5)) / 10000)) 5 (if 0 < (((mvF f 2 0 ((((f 3) * (sd 10)) * (f 5)) / 10000)) 5) - (sd 14)) then ((mvF f 2 0 ((((f 3) * (sd 10)) * (f 5)) / 10000)) 5) - (sd 14) else 0)) w) 0 2 ((sd 5) * (((mendF sd st me (upd (mvF f 2 0 ((((f 3) * (sd 10)) * (f 5)) / 10000)) 5 (if 0 < (((mvF f 2 0 ((((f 3) * (sd 10)) * (f 5)) / 10000)) 5) - (sd 14)) then ((mvF f 2 0 ((((f 3) * (sd 10)) * (f 5)) / 10000)) 5) - (sd 14) else 0)) w) 3) / 10)) (by first | assumption | decide | omega) (by first | assumption | decide | omega) H.size) (cwV 3 hts gX4_pass_X4_move rfl rfl rfl (by decide +kernel) ⟨Nat.le_of_ble_eq_true rfl, Nat.le_of_ble_eq_true rfl⟩) (he_preV (wc := [(oX4 h0 q0 q1 mo), (aI g q0 24 (mendF sd st me (upd (mvF f 2 0 ((((f 3) * (sd 10)) * (f 5)) / 10000)) 5 (if 0 < (((mvF f 2 0 ((((f 3) * (sd 10)) * (f 5)) / 10000)) 5) - (sd 14)) then ((mvF f 2 0 ((((f 3) * (sd 10)) * (f 5)) / 10000)) 5) - (sd 14) else 0)) w))]) hK hP hD hS hA hE [1, 2] rfl rfl 1 rfl rfl) rfl rfl hl.1 rfl (lv_room (Nat.le_of_ble_eq_true rfl)) dX4_pass_119 ⟨(Nat.le_of_ble_eq_true rfl), (Nat.le_of_ble_eq_true rfl)⟩) hP hD hS hA [1, 2] [0, 3, 4, 5, 6] rfl rfl rfl (by decide) (fun u_11 H locs h_12 hP hD hS => ?_)
  have hP : va_P g.1 vwCl [(aI g q1 6 (flF (fun _ => 0) sh 6)), (oX6 p0 p1 p2 p3 p4 (nI w)), (aI g p1 24 sd), (aI g p3 6 st), (aI g p4 6 me), (oX4 h0 q0 q1 mo), (aI g q0 24 (mvF (mendF sd st me (upd (mvF f 2 0 ((((f 3) * (sd 10)) * (f 5)) / 10000)) 5 (if 0 < (((mvF f 2 0 ((((f 3) * (sd 10)) * (f 5)) / 10000)) 5) - (sd 14)) then ((mvF f 2 0 ((((f 3) * (sd 10)) * (f 5)) / 10000)) 5) - (sd 14) else 0)) w) 0 2 ((sd 5) * (((mendF sd st me (upd (mvF f 2 0 ((((f 3) * (sd 10)) * (f 5)) / 10000)) 5 (if 0 < (((mvF f 2 0 ((((f 3) * (sd 10)) * (f 5)) / 10000)) 5) - (sd 14)) then ((mvF f 2 0 ((((f 3) * (sd 10)) * (f 5)) / 10000)) 5) - (sd 14) else 0)) w) 3) / 10))))] H := hP
  have hD : va_D A [(aI g q1 6 (flF (fun _ => 0) sh 6)), (oX6 p0 p1 p2 p3 p4 (nI w)), (aI g p1 24 sd), (aI g p3 6 st), (aI g p4 6 me), (oX4 h0 q0 q1 mo), (aI g q0 24 (mvF (mendF sd st me (upd (mvF f 2 0 ((((f 3) * (sd 10)) * (f 5)) / 10000)) 5 (if 0 < (((mvF f 2 0 ((((f 3) * (sd 10)) * (f 5)) / 10000)) 5) - (sd 14)) then ((mvF f 2 0 ((((f 3) * (sd 10)) * (f 5)) / 10000)) 5) - (sd 14) else 0)) w) 0 2 ((sd 5) * (((mendF sd st me (upd (mvF f 2 0 ((((f 3) * (sd 10)) * (f 5)) / 10000)) 5 (if 0 < (((mvF f 2 0 ((((f 3) * (sd 10)) * (f 5)) / 10000)) 5) - (sd 14)) then ((mvF f 2 0 ((((f 3) * (sd 10)) * (f 5)) / 10000)) 5) - (sd 14) else 0)) w) 3) / 10))))] := hD
  refine lv_aload_n hx hb dX4_pass_122 rfl (lv_at hl 0 rfl) ?_
  refine lv_iconst (v := 1) hx hb dX4_pass_123 (by decide) ?_
  refine lv_iconst (v := 2) hx hb dX4_pass_124 (by decide) ?_
  refine lv_aload_n hx hb dX4_pass_125 rfl (lv_at hl 1 rfl) ?_
  refine va_get (v := .ref p1) (T := TX6) (N := 5) hx hb hts inX6 hown hK hP 1 rfl rfl 0 (by decide) f28 (fun _ h9 => h9) rfl dX4_pass_126 ?_
  refine lv_bipush (v := 8) hx hb dX4_pass_129 (by decide) ?_
  refine he_iald hx hb hK hP 2 rfl (8) (by decide) (by decide) (by first | decide | assumption) (sd 8) rfl dX4_pass_131 ?_
  refine lv_aload_n hx hb dX4_pass_132 rfl (lv_at hl 0 rfl) ?_
  refine va_get (v := .ref q0) (T := TX4) (N := 3) hx hb hts inX4 hown hK hP 5 rfl rfl 0 (by decide) f9 (fun _ h9 => h9) rfl dX4_pass_133 ?_
  refine lv_iconst (v := 4) hx hb dX4_pass_136 (by decide) ?_
  refine he_iald hx hb hK hP 6 rfl (4) (by decide) (by decide) (by first | decide | assumption) ((mvF (mendF sd st me (upd (mvF f 2 0 ((((f 3) * (sd 10)) * (f 5)) / 10000)) 5 (if 0 < (((mvF f 2 0 ((((f 3) * (sd 10)) * (f 5)) / 10000)) 5) - (sd 14)) then ((mvF f 2 0 ((((f 3) * (sd 10)) * (f 5)) / 10000)) 5) - (sd 14) else 0)) w) 0 2 ((sd 5) * (((mendF sd st me (upd (mvF f 2 0 ((((f 3) * (sd 10)) * (f 5)) / 10000)) 5 (if 0 < (((mvF f 2 0 ((((f 3) * (sd 10)) * (f 5)) / 10000)) 5) - (sd 14)) then ((mvF f 2 0 ((((f 3) * (sd 10)) * (f 5)) / 10000)) 5) - (sd 14) else 0)) w) 3) / 10))) 4) rfl dX4_pass_137 ?_
  refine lv_bipush (v := 10) hx hb dX4_pass_138 (by decide) ?_
  refine lv_idiv hx hb dX4_pass_140 (by decide) ?_
  refine lv_imul hx hb dX4_pass_141 ?_
  refine he_cv (wc := [(oX4 h0 q0 q1 mo), (aI g q0 24 (mvF (mendF sd st me (upd (mvF f 2 0 ((((f 3) * (sd 10)) * (f 5)) / 10000)) 5 (if 0 < (((mvF f 2 0 ((((f 3) * (sd 10)) * (f 5)) / 10000)) 5) - (sd 14)) then ((mvF f 2 0 ((((f 3) * (sd 10)) * (f 5)) / 10000)) 5) - (sd 14) else 0)) w) 0 2 ((sd 5) * (((mendF sd st me (upd (mvF f 2 0 ((((f 3) * (sd 10)) * (f 5)) / 10000)) 5 (if 0 < (((mvF f 2 0 ((((f 3) * (sd 10)) * (f 5)) / 10000)) 5) - (sd 14)) then ((mvF f 2 0 ((((f 3) * (sd 10)) * (f 5)) / 10000)) 5) - (sd 14) else 0)) w) 3) / 10))))]) (wr := [(aI g q1 6 (flF (fun _ => 0) sh 6)), (oX6 p0 p1 p2 p3 p4 (nI w)), (aI g p1 24 sd), (aI g p3 6 st), (aI g p4 6 me)]) (va_runV (As := [.int 1, .int 2, .int ((sd 8) * (((mvF (mendF sd st me (upd (mvF f 2 0 ((((f 3) * (sd 10)) * (f 5)) / 10000)) 5 (if 0 < (((mvF f 2 0 ((((f 3) * (sd 10)) * (f 5)) / 10000)) 5) - (sd 14)) then ((mvF f 2 0 ((((f 3) * (sd 10)) * (f 5)) / 10000)) 5) - (sd 14) else 0)) w) 0 2 ((sd 5) * (((mendF sd st me (upd (mvF f 2 0 ((((f 3) * (sd 10)) * (f 5)) / 10000)) 5 (if 0 < (((mvF f 2 0 ((((f 3) * (sd 10)) * (f 5)) / 10000)) 5) - (sd 14)) then ((mvF f 2 0 ((((f 3) * (sd 10)) * (f 5)) / 10000)) 5) - (sd 14) else 0)) w) 3) / 10))) 4) / 10))]) (rest := []) ⟨hx, hb, hml, hown, hts⟩ (c_X4_move l g h0 q0 q1 mo (mvF (mendF sd st me (upd (mvF f 2 0 ((((f 3) * (sd 10)) * (f 5)) / 10000)) 5 (if 0 < (((mvF f 2 0 ((((f 3) * (sd 10)) * (f 5)) / 10000)) 5) - (sd 14)) then ((mvF f 2 0 ((((f 3) * (sd 10)) * (f 5)) / 10000)) 5) - (sd 14) else 0)) w) 0 2 ((sd 5) * (((mendF sd st me (upd (mvF f 2 0 ((((f 3) * (sd 10)) * (f 5)) / 10000)) 5 (if 0 < (((mvF f 2 0 ((((f 3) * (sd 10)) * (f 5)) / 10000)) 5) - (sd 14)) then ((mvF f 2 0 ((((f 3) * (sd 10)) * (f 5)) / 10000)) 5) - (sd 14) else 0)) w) 3) / 10))) 1 2 ((sd 8) * (((mvF (mendF sd st me (upd (mvF f 2 0 ((((f 3) * (sd 10)) * (f 5)) / 10000)) 5 (if 0 < (((mvF f 2 0 ((((f 3) * (sd 10)) * (f 5)) / 10000)) 5) - (sd 14)) then ((mvF f 2 0 ((((f 3) * (sd 10)) * (f 5)) / 10000)) 5) - (sd 14) else 0)) w) 0 2 ((sd 5) * (((mendF sd st me (upd (mvF f 2 0 ((((f 3) * (sd 10)) * (f 5)) / 10000)) 5 (if 0 < (((mvF f 2 0 ((((f 3) * (sd 10)) * (f 5)) / 10000)) 5) - (sd 14)) then ((mvF f 2 0 ((((f 3) * (sd 10)) * (f 5)) / 10000)) 5) - (sd 14) else 0)) w) 3) / 10))) 4) / 10)) (by first | assumption | decide | omega) (by first | assumption | decide | omega) H.size) (cwV 3 hts gX4_pass_X4_move rfl rfl rfl (by decide +kernel) ⟨Nat.le_of_ble_eq_true rfl, Nat.le_of_ble_eq_true rfl⟩) (he_preV (wc := [(oX4 h0 q0 q1 mo), (aI g q0 24 (mvF (mendF sd st me (upd (mvF f 2 0 ((((f 3) * (sd 10)) * (f 5)) / 10000)) 5 (if 0 < (((mvF f 2 0 ((((f 3) * (sd 10)) * (f 5)) / 10000)) 5) - (sd 14)) then ((mvF f 2 0 ((((f 3) * (sd 10)) * (f 5)) / 10000)) 5) - (sd 14) else 0)) w) 0 2 ((sd 5) * (((mendF sd st me (upd (mvF f 2 0 ((((f 3) * (sd 10)) * (f 5)) / 10000)) 5 (if 0 < (((mvF f 2 0 ((((f 3) * (sd 10)) * (f 5)) / 10000)) 5) - (sd 14)) then ((mvF f 2 0 ((((f 3) * (sd 10)) * (f 5)) / 10000)) 5) - (sd 14) else 0)) w) 3) / 10))))]) hK hP hD hS hA hE [5, 6] rfl rfl 5 rfl rfl) rfl rfl hl.1 rfl (lv_room (Nat.le_of_ble_eq_true rfl)) dX4_pass_142 ⟨(Nat.le_of_ble_eq_true rfl), (Nat.le_of_ble_eq_true rfl)⟩) hP hD hS hA [5, 6] [0, 1, 2, 3, 4] rfl rfl rfl (by decide) (fun u_14 H locs h_15 hP hD hS => ?_)
  have hP : va_P g.1 vwCl [(aI g q1 6 (flF (fun _ => 0) sh 6)), (oX6 p0 p1 p2 p3 p4 (nI w)), (aI g p1 24 sd), (aI g p3 6 st), (aI g p4 6 me), (oX4 h0 q0 q1 mo), (aI g q0 24 (mvF (mvF (mendF sd st me (upd (mvF f 2 0 ((((f 3) * (sd 10)) * (f 5)) / 10000)) 5 (if 0 < (((mvF f 2 0 ((((f 3) * (sd 10)) * (f 5)) / 10000)) 5) - (sd 14)) then ((mvF f 2 0 ((((f 3) * (sd 10)) * (f 5)) / 10000)) 5) - (sd 14) else 0)) w) 0 2 ((sd 5) * (((mendF sd st me (upd (mvF f 2 0 ((((f 3) * (sd 10)) * (f 5)) / 10000)) 5 (if 0 < (((mvF f 2 0 ((((f 3) * (sd 10)) * (f 5)) / 10000)) 5) - (sd 14)) then ((mvF f 2 0 ((((f 3) * (sd 10)) * (f 5)) / 10000)) 5) - (sd 14) else 0)) w) 3) / 10))) 1 2 ((sd 8) * (((mvF (mendF sd st me (upd (mvF f 2 0 ((((f 3) * (sd 10)) * (f 5)) / 10000)) 5 (if 0 < (((mvF f 2 0 ((((f 3) * (sd 10)) * (f 5)) / 10000)) 5) - (sd 14)) then ((mvF f 2 0 ((((f 3) * (sd 10)) * (f 5)) / 10000)) 5) - (sd 14) else 0)) w) 0 2 ((sd 5) * (((mendF sd st me (upd (mvF f 2 0 ((((f 3) * (sd 10)) * (f 5)) / 10000)) 5 (if 0 < (((mvF f 2 0 ((((f 3) * (sd 10)) * (f 5)) / 10000)) 5) - (sd 14)) then ((mvF f 2 0 ((((f 3) * (sd 10)) * (f 5)) / 10000)) 5) - (sd 14) else 0)) w) 3) / 10))) 4) / 10))))] H := hP
  have hD : va_D A [(aI g q1 6 (flF (fun _ => 0) sh 6)), (oX6 p0 p1 p2 p3 p4 (nI w)), (aI g p1 24 sd), (aI g p3 6 st), (aI g p4 6 me), (oX4 h0 q0 q1 mo), (aI g q0 24 (mvF (mvF (mendF sd st me (upd (mvF f 2 0 ((((f 3) * (sd 10)) * (f 5)) / 10000)) 5 (if 0 < (((mvF f 2 0 ((((f 3) * (sd 10)) * (f 5)) / 10000)) 5) - (sd 14)) then ((mvF f 2 0 ((((f 3) * (sd 10)) * (f 5)) / 10000)) 5) - (sd 14) else 0)) w) 0 2 ((sd 5) * (((mendF sd st me (upd (mvF f 2 0 ((((f 3) * (sd 10)) * (f 5)) / 10000)) 5 (if 0 < (((mvF f 2 0 ((((f 3) * (sd 10)) * (f 5)) / 10000)) 5) - (sd 14)) then ((mvF f 2 0 ((((f 3) * (sd 10)) * (f 5)) / 10000)) 5) - (sd 14) else 0)) w) 3) / 10))) 1 2 ((sd 8) * (((mvF (mendF sd st me (upd (mvF f 2 0 ((((f 3) * (sd 10)) * (f 5)) / 10000)) 5 (if 0 < (((mvF f 2 0 ((((f 3) * (sd 10)) * (f 5)) / 10000)) 5) - (sd 14)) then ((mvF f 2 0 ((((f 3) * (sd 10)) * (f 5)) / 10000)) 5) - (sd 14) else 0)) w) 0 2 ((sd 5) * (((mendF sd st me (upd (mvF f 2 0 ((((f 3) * (sd 10)) * (f 5)) / 10000)) 5 (if 0 < (((mvF f 2 0 ((((f 3) * (sd 10)) * (f 5)) / 10000)) 5) - (sd 14)) then ((mvF f 2 0 ((((f 3) * (sd 10)) * (f 5)) / 10000)) 5) - (sd 14) else 0)) w) 3) / 10))) 4) / 10))))] := hD
  refine lv_aload_n hx hb dX4_pass_145 rfl (lv_at hl 0 rfl) ?_
  refine lv_aload_n hx hb dX4_pass_146 rfl (lv_at hl 1 rfl) ?_
  refine va_get (v := .ref p1) (T := TX6) (N := 5) hx hb hts inX6 hown hK hP 1 rfl rfl 0 (by decide) f28 (fun _ h9 => h9) rfl dX4_pass_147 ?_
  refine lv_bipush (v := 8) hx hb dX4_pass_150 (by decide) ?_
  refine he_iald hx hb hK hP 2 rfl (8) (by decide) (by decide) (by first | decide | assumption) (sd 8) rfl dX4_pass_152 ?_
  refine lv_aload_n hx hb dX4_pass_153 rfl (lv_at hl 1 rfl) ?_
  refine va_get (v := .ref p1) (T := TX6) (N := 5) hx hb hts inX6 hown hK hP 1 rfl rfl 0 (by decide) f28 (fun _ h9 => h9) rfl dX4_pass_154 ?_
  refine lv_iconst (v := 5) hx hb dX4_pass_157 (by decide) ?_
  refine he_iald hx hb hK hP 2 rfl (5) (by decide) (by decide) (by first | decide | assumption) (sd 5) rfl dX4_pass_158 ?_
  refine lv_isub hx hb dX4_pass_159 ?_
  refine he_cv (wc := [(oX4 h0 q0 q1 mo), (aI g q0 24 (mvF (mvF (mendF sd st me (upd (mvF f 2 0 ((((f 3) * (sd 10)) * (f 5)) / 10000)) 5 (if 0 < (((mvF f 2 0 ((((f 3) * (sd 10)) * (f 5)) / 10000)) 5) - (sd 14)) then ((mvF f 2 0 ((((f 3) * (sd 10)) * (f 5)) / 10000)) 5) - (sd 14) else 0)) w) 0 2 ((sd 5) * (((mendF sd st me (upd (mvF f 2 0 ((((f 3) * (sd 10)) * (f 5)) / 10000)) 5 (if 0 < (((mvF f 2 0 ((((f 3) * (sd 10)) * (f 5)) / 10000)) 5) - (sd 14)) then ((mvF f 2 0 ((((f 3) * (sd 10)) * (f 5)) / 10000)) 5) - (sd 14) else 0)) w) 3) / 10))) 1 2 ((sd 8) * (((mvF (mendF sd st me (upd (mvF f 2 0 ((((f 3) * (sd 10)) * (f 5)) / 10000)) 5 (if 0 < (((mvF f 2 0 ((((f 3) * (sd 10)) * (f 5)) / 10000)) 5) - (sd 14)) then ((mvF f 2 0 ((((f 3) * (sd 10)) * (f 5)) / 10000)) 5) - (sd 14) else 0)) w) 0 2 ((sd 5) * (((mendF sd st me (upd (mvF f 2 0 ((((f 3) * (sd 10)) * (f 5)) / 10000)) 5 (if 0 < (((mvF f 2 0 ((((f 3) * (sd 10)) * (f 5)) / 10000)) 5) - (sd 14)) then ((mvF f 2 0 ((((f 3) * (sd 10)) * (f 5)) / 10000)) 5) - (sd 14) else 0)) w) 3) / 10))) 4) / 10))))]) (wr := [(aI g q1 6 (flF (fun _ => 0) sh 6)), (oX6 p0 p1 p2 p3 p4 (nI w)), (aI g p1 24 sd), (aI g p3 6 st), (aI g p4 6 me)]) (va_runV (As := [.int ((sd 8) - (sd 5))]) (rest := []) ⟨hx, hb, hml, hown, hts⟩ (c_X4_desert l g h0 q0 q1 mo (mvF (mvF (mendF sd st me (upd (mvF f 2 0 ((((f 3) * (sd 10)) * (f 5)) / 10000)) 5 (if 0 < (((mvF f 2 0 ((((f 3) * (sd 10)) * (f 5)) / 10000)) 5) - (sd 14)) then ((mvF f 2 0 ((((f 3) * (sd 10)) * (f 5)) / 10000)) 5) - (sd 14) else 0)) w) 0 2 ((sd 5) * (((mendF sd st me (upd (mvF f 2 0 ((((f 3) * (sd 10)) * (f 5)) / 10000)) 5 (if 0 < (((mvF f 2 0 ((((f 3) * (sd 10)) * (f 5)) / 10000)) 5) - (sd 14)) then ((mvF f 2 0 ((((f 3) * (sd 10)) * (f 5)) / 10000)) 5) - (sd 14) else 0)) w) 3) / 10))) 1 2 ((sd 8) * (((mvF (mendF sd st me (upd (mvF f 2 0 ((((f 3) * (sd 10)) * (f 5)) / 10000)) 5 (if 0 < (((mvF f 2 0 ((((f 3) * (sd 10)) * (f 5)) / 10000)) 5) - (sd 14)) then ((mvF f 2 0 ((((f 3) * (sd 10)) * (f 5)) / 10000)) 5) - (sd 14) else 0)) w) 0 2 ((sd 5) * (((mendF sd st me (upd (mvF f 2 0 ((((f 3) * (sd 10)) * (f 5)) / 10000)) 5 (if 0 < (((mvF f 2 0 ((((f 3) * (sd 10)) * (f 5)) / 10000)) 5) - (sd 14)) then ((mvF f 2 0 ((((f 3) * (sd 10)) * (f 5)) / 10000)) 5) - (sd 14) else 0)) w) 3) / 10))) 4) / 10))) ((sd 8) - (sd 5)) H.size) (cwV 1 hts gX4_pass_X4_desert rfl rfl rfl (by decide +kernel) ⟨Nat.le_of_ble_eq_true rfl, Nat.le_of_ble_eq_true rfl⟩) (he_preV (wc := [(oX4 h0 q0 q1 mo), (aI g q0 24 (mvF (mvF (mendF sd st me (upd (mvF f 2 0 ((((f 3) * (sd 10)) * (f 5)) / 10000)) 5 (if 0 < (((mvF f 2 0 ((((f 3) * (sd 10)) * (f 5)) / 10000)) 5) - (sd 14)) then ((mvF f 2 0 ((((f 3) * (sd 10)) * (f 5)) / 10000)) 5) - (sd 14) else 0)) w) 0 2 ((sd 5) * (((mendF sd st me (upd (mvF f 2 0 ((((f 3) * (sd 10)) * (f 5)) / 10000)) 5 (if 0 < (((mvF f 2 0 ((((f 3) * (sd 10)) * (f 5)) / 10000)) 5) - (sd 14)) then ((mvF f 2 0 ((((f 3) * (sd 10)) * (f 5)) / 10000)) 5) - (sd 14) else 0)) w) 3) / 10))) 1 2 ((sd 8) * (((mvF (mendF sd st me (upd (mvF f 2 0 ((((f 3) * (sd 10)) * (f 5)) / 10000)) 5 (if 0 < (((mvF f 2 0 ((((f 3) * (sd 10)) * (f 5)) / 10000)) 5) - (sd 14)) then ((mvF f 2 0 ((((f 3) * (sd 10)) * (f 5)) / 10000)) 5) - (sd 14) else 0)) w) 0 2 ((sd 5) * (((mendF sd st me (upd (mvF f 2 0 ((((f 3) * (sd 10)) * (f 5)) / 10000)) 5 (if 0 < (((mvF f 2 0 ((((f 3) * (sd 10)) * (f 5)) / 10000)) 5) - (sd 14)) then ((mvF f 2 0 ((((f 3) * (sd 10)) * (f 5)) / 10000)) 5) - (sd 14) else 0)) w) 3) / 10))) 4) / 10))))]) hK hP hD hS hA hE [5, 6] rfl rfl 5 rfl rfl) rfl rfl hl.1 rfl (lv_room (Nat.le_of_ble_eq_true rfl)) dX4_pass_160 ⟨(Nat.le_of_ble_eq_true rfl), (Nat.le_of_ble_eq_true rfl)⟩) hP hD hS hA [5, 6] [0, 1, 2, 3, 4] rfl rfl rfl (by decide) (fun u_17 H locs h_18 hP hD hS => ?_)
  have hP : va_P g.1 vwCl [(aI g q1 6 (flF (fun _ => 0) sh 6)), (oX6 p0 p1 p2 p3 p4 (nI w)), (aI g p1 24 sd), (aI g p3 6 st), (aI g p4 6 me), (oX4 h0 q0 q1 mo), (aI g q0 24 (dsF (mvF (mvF (mendF sd st me (upd (mvF f 2 0 ((((f 3) * (sd 10)) * (f 5)) / 10000)) 5 (if 0 < (((mvF f 2 0 ((((f 3) * (sd 10)) * (f 5)) / 10000)) 5) - (sd 14)) then ((mvF f 2 0 ((((f 3) * (sd 10)) * (f 5)) / 10000)) 5) - (sd 14) else 0)) w) 0 2 ((sd 5) * (((mendF sd st me (upd (mvF f 2 0 ((((f 3) * (sd 10)) * (f 5)) / 10000)) 5 (if 0 < (((mvF f 2 0 ((((f 3) * (sd 10)) * (f 5)) / 10000)) 5) - (sd 14)) then ((mvF f 2 0 ((((f 3) * (sd 10)) * (f 5)) / 10000)) 5) - (sd 14) else 0)) w) 3) / 10))) 1 2 ((sd 8) * (((mvF (mendF sd st me (upd (mvF f 2 0 ((((f 3) * (sd 10)) * (f 5)) / 10000)) 5 (if 0 < (((mvF f 2 0 ((((f 3) * (sd 10)) * (f 5)) / 10000)) 5) - (sd 14)) then ((mvF f 2 0 ((((f 3) * (sd 10)) * (f 5)) / 10000)) 5) - (sd 14) else 0)) w) 0 2 ((sd 5) * (((mendF sd st me (upd (mvF f 2 0 ((((f 3) * (sd 10)) * (f 5)) / 10000)) 5 (if 0 < (((mvF f 2 0 ((((f 3) * (sd 10)) * (f 5)) / 10000)) 5) - (sd 14)) then ((mvF f 2 0 ((((f 3) * (sd 10)) * (f 5)) / 10000)) 5) - (sd 14) else 0)) w) 3) / 10))) 4) / 10))) ((sd 8) - (sd 5))))] H := hP
  have hD : va_D A [(aI g q1 6 (flF (fun _ => 0) sh 6)), (oX6 p0 p1 p2 p3 p4 (nI w)), (aI g p1 24 sd), (aI g p3 6 st), (aI g p4 6 me), (oX4 h0 q0 q1 mo), (aI g q0 24 (dsF (mvF (mvF (mendF sd st me (upd (mvF f 2 0 ((((f 3) * (sd 10)) * (f 5)) / 10000)) 5 (if 0 < (((mvF f 2 0 ((((f 3) * (sd 10)) * (f 5)) / 10000)) 5) - (sd 14)) then ((mvF f 2 0 ((((f 3) * (sd 10)) * (f 5)) / 10000)) 5) - (sd 14) else 0)) w) 0 2 ((sd 5) * (((mendF sd st me (upd (mvF f 2 0 ((((f 3) * (sd 10)) * (f 5)) / 10000)) 5 (if 0 < (((mvF f 2 0 ((((f 3) * (sd 10)) * (f 5)) / 10000)) 5) - (sd 14)) then ((mvF f 2 0 ((((f 3) * (sd 10)) * (f 5)) / 10000)) 5) - (sd 14) else 0)) w) 3) / 10))) 1 2 ((sd 8) * (((mvF (mendF sd st me (upd (mvF f 2 0 ((((f 3) * (sd 10)) * (f 5)) / 10000)) 5 (if 0 < (((mvF f 2 0 ((((f 3) * (sd 10)) * (f 5)) / 10000)) 5) - (sd 14)) then ((mvF f 2 0 ((((f 3) * (sd 10)) * (f 5)) / 10000)) 5) - (sd 14) else 0)) w) 0 2 ((sd 5) * (((mendF sd st me (upd (mvF f 2 0 ((((f 3) * (sd 10)) * (f 5)) / 10000)) 5 (if 0 < (((mvF f 2 0 ((((f 3) * (sd 10)) * (f 5)) / 10000)) 5) - (sd 14)) then ((mvF f 2 0 ((((f 3) * (sd 10)) * (f 5)) / 10000)) 5) - (sd 14) else 0)) w) 3) / 10))) 4) / 10))) ((sd 8) - (sd 5))))] := hD
  refine lv_aload_n hx hb dX4_pass_163 rfl (lv_at hl 0 rfl) ?_
  refine lv_dup hx hb dX4_pass_164 rfl ?_
  refine va_get (v := .int mo) (T := TX4) (N := 3) hx hb hts inX4 hown hK hP 5 rfl rfl 2 (by decide) f18 (fun _ h9 => h9) rfl dX4_pass_165 ?_
  refine lv_iconst (v := 1) hx hb dX4_pass_168 (by decide) ?_
  refine lv_iadd hx hb dX4_pass_169 ?_
  refine va_put (v := .int (mo + 1)) (ty := .int) (T := TX4) (N := 3) hx hb hts inX4 tyX4 tyX4_ok nmX4 hown hK hP hD hS 5 rfl rfl 2 (by decide) f18 (fun _ h9 => h9) rfl (by decide +kernel) rfl rfl (Nat.le_of_ble_eq_true rfl) dX4_pass_170 (fun H locs hP hD hS => ?_)
  have hP : va_P g.1 vwCl [(aI g q1 6 (flF (fun _ => 0) sh 6)), (oX6 p0 p1 p2 p3 p4 (nI w)), (aI g p1 24 sd), (aI g p3 6 st), (aI g p4 6 me), (oX4 h0 q0 q1 (mo + 1)), (aI g q0 24 (dsF (mvF (mvF (mendF sd st me (upd (mvF f 2 0 ((((f 3) * (sd 10)) * (f 5)) / 10000)) 5 (if 0 < (((mvF f 2 0 ((((f 3) * (sd 10)) * (f 5)) / 10000)) 5) - (sd 14)) then ((mvF f 2 0 ((((f 3) * (sd 10)) * (f 5)) / 10000)) 5) - (sd 14) else 0)) w) 0 2 ((sd 5) * (((mendF sd st me (upd (mvF f 2 0 ((((f 3) * (sd 10)) * (f 5)) / 10000)) 5 (if 0 < (((mvF f 2 0 ((((f 3) * (sd 10)) * (f 5)) / 10000)) 5) - (sd 14)) then ((mvF f 2 0 ((((f 3) * (sd 10)) * (f 5)) / 10000)) 5) - (sd 14) else 0)) w) 3) / 10))) 1 2 ((sd 8) * (((mvF (mendF sd st me (upd (mvF f 2 0 ((((f 3) * (sd 10)) * (f 5)) / 10000)) 5 (if 0 < (((mvF f 2 0 ((((f 3) * (sd 10)) * (f 5)) / 10000)) 5) - (sd 14)) then ((mvF f 2 0 ((((f 3) * (sd 10)) * (f 5)) / 10000)) 5) - (sd 14) else 0)) w) 0 2 ((sd 5) * (((mendF sd st me (upd (mvF f 2 0 ((((f 3) * (sd 10)) * (f 5)) / 10000)) 5 (if 0 < (((mvF f 2 0 ((((f 3) * (sd 10)) * (f 5)) / 10000)) 5) - (sd 14)) then ((mvF f 2 0 ((((f 3) * (sd 10)) * (f 5)) / 10000)) 5) - (sd 14) else 0)) w) 3) / 10))) 4) / 10))) ((sd 8) - (sd 5))))] H := hP
  have hD : va_D A [(aI g q1 6 (flF (fun _ => 0) sh 6)), (oX6 p0 p1 p2 p3 p4 (nI w)), (aI g p1 24 sd), (aI g p3 6 st), (aI g p4 6 me), (oX4 h0 q0 q1 (mo + 1)), (aI g q0 24 (dsF (mvF (mvF (mendF sd st me (upd (mvF f 2 0 ((((f 3) * (sd 10)) * (f 5)) / 10000)) 5 (if 0 < (((mvF f 2 0 ((((f 3) * (sd 10)) * (f 5)) / 10000)) 5) - (sd 14)) then ((mvF f 2 0 ((((f 3) * (sd 10)) * (f 5)) / 10000)) 5) - (sd 14) else 0)) w) 0 2 ((sd 5) * (((mendF sd st me (upd (mvF f 2 0 ((((f 3) * (sd 10)) * (f 5)) / 10000)) 5 (if 0 < (((mvF f 2 0 ((((f 3) * (sd 10)) * (f 5)) / 10000)) 5) - (sd 14)) then ((mvF f 2 0 ((((f 3) * (sd 10)) * (f 5)) / 10000)) 5) - (sd 14) else 0)) w) 3) / 10))) 1 2 ((sd 8) * (((mvF (mendF sd st me (upd (mvF f 2 0 ((((f 3) * (sd 10)) * (f 5)) / 10000)) 5 (if 0 < (((mvF f 2 0 ((((f 3) * (sd 10)) * (f 5)) / 10000)) 5) - (sd 14)) then ((mvF f 2 0 ((((f 3) * (sd 10)) * (f 5)) / 10000)) 5) - (sd 14) else 0)) w) 0 2 ((sd 5) * (((mendF sd st me (upd (mvF f 2 0 ((((f 3) * (sd 10)) * (f 5)) / 10000)) 5 (if 0 < (((mvF f 2 0 ((((f 3) * (sd 10)) * (f 5)) / 10000)) 5) - (sd 14)) then ((mvF f 2 0 ((((f 3) * (sd 10)) * (f 5)) / 10000)) 5) - (sd 14) else 0)) w) 3) / 10))) 4) / 10))) ((sd 8) - (sd 5))))] := hD
  refine lv_aload_nN hx hb dX4_pass_173 rfl (lv_at hl 2 rfl) ?_
  refine lv_ifnullN (tgt := 206) hx hb dX4_pass_174 (by decide) ?_
  have hP := hP.sub (ws' := [(oX4 h0 q0 q1 (mo + 1)), (aI g q0 24 (dsF (mvF (mvF (mendF sd st me (upd (mvF f 2 0 ((((f 3) * (sd 10)) * (f 5)) / 10000)) 5 (if 0 < (((mvF f 2 0 ((((f 3) * (sd 10)) * (f 5)) / 10000)) 5) - (sd 14)) then ((mvF f 2 0 ((((f 3) * (sd 10)) * (f 5)) / 10000)) 5) - (sd 14) else 0)) w) 0 2 ((sd 5) * (((mendF sd st me (upd (mvF f 2 0 ((((f 3) * (sd 10)) * (f 5)) / 10000)) 5 (if 0 < (((mvF f 2 0 ((((f 3) * (sd 10)) * (f 5)) / 10000)) 5) - (sd 14)) then ((mvF f 2 0 ((((f 3) * (sd 10)) * (f 5)) / 10000)) 5) - (sd 14) else 0)) w) 3) / 10))) 1 2 ((sd 8) * (((mvF (mendF sd st me (upd (mvF f 2 0 ((((f 3) * (sd 10)) * (f 5)) / 10000)) 5 (if 0 < (((mvF f 2 0 ((((f 3) * (sd 10)) * (f 5)) / 10000)) 5) - (sd 14)) then ((mvF f 2 0 ((((f 3) * (sd 10)) * (f 5)) / 10000)) 5) - (sd 14) else 0)) w) 0 2 ((sd 5) * (((mendF sd st me (upd (mvF f 2 0 ((((f 3) * (sd 10)) * (f 5)) / 10000)) 5 (if 0 < (((mvF f 2 0 ((((f 3) * (sd 10)) * (f 5)) / 10000)) 5) - (sd 14)) then ((mvF f 2 0 ((((f 3) * (sd 10)) * (f 5)) / 10000)) 5) - (sd 14) else 0)) w) 3) / 10))) 4) / 10))) ((sd 8) - (sd 5)))), (aI g q1 6 (flF (fun _ => 0) sh 6)), (oX6 p0 p1 p2 p3 p4 (nI w)), (aI g p1 24 sd), (aI g p3 6 st), (aI g p4 6 me)]) [5, 6, 0, 1, 2, 3, 4] rfl
  have hD := hD.sub (ws' := [(oX4 h0 q0 q1 (mo + 1)), (aI g q0 24 (dsF (mvF (mvF (mendF sd st me (upd (mvF f 2 0 ((((f 3) * (sd 10)) * (f 5)) / 10000)) 5 (if 0 < (((mvF f 2 0 ((((f 3) * (sd 10)) * (f 5)) / 10000)) 5) - (sd 14)) then ((mvF f 2 0 ((((f 3) * (sd 10)) * (f 5)) / 10000)) 5) - (sd 14) else 0)) w) 0 2 ((sd 5) * (((mendF sd st me (upd (mvF f 2 0 ((((f 3) * (sd 10)) * (f 5)) / 10000)) 5 (if 0 < (((mvF f 2 0 ((((f 3) * (sd 10)) * (f 5)) / 10000)) 5) - (sd 14)) then ((mvF f 2 0 ((((f 3) * (sd 10)) * (f 5)) / 10000)) 5) - (sd 14) else 0)) w) 3) / 10))) 1 2 ((sd 8) * (((mvF (mendF sd st me (upd (mvF f 2 0 ((((f 3) * (sd 10)) * (f 5)) / 10000)) 5 (if 0 < (((mvF f 2 0 ((((f 3) * (sd 10)) * (f 5)) / 10000)) 5) - (sd 14)) then ((mvF f 2 0 ((((f 3) * (sd 10)) * (f 5)) / 10000)) 5) - (sd 14) else 0)) w) 0 2 ((sd 5) * (((mendF sd st me (upd (mvF f 2 0 ((((f 3) * (sd 10)) * (f 5)) / 10000)) 5 (if 0 < (((mvF f 2 0 ((((f 3) * (sd 10)) * (f 5)) / 10000)) 5) - (sd 14)) then ((mvF f 2 0 ((((f 3) * (sd 10)) * (f 5)) / 10000)) 5) - (sd 14) else 0)) w) 3) / 10))) 4) / 10))) ((sd 8) - (sd 5)))), (aI g q1 6 (flF (fun _ => 0) sh 6)), (oX6 p0 p1 p2 p3 p4 (nI w)), (aI g p1 24 sd), (aI g p3 6 st), (aI g p4 6 me)]) [5, 6, 0, 1, 2, 3, 4] (by decide) rfl
  exact he_rv hQ hx hb hr hlk hP hD hS dX4_pass_206 (Nat.le_of_ble_eq_true rfl) (Nat.le_of_ble_eq_true rfl) ((dsF (mvF (mvF (mendF sd st me (upd (mvF f 2 0 ((((f 3) * (sd 10)) * (f 5)) / 10000)) 5 (if 0 < (((mvF f 2 0 ((((f 3) * (sd 10)) * (f 5)) / 10000)) 5) - (sd 14)) then ((mvF f 2 0 ((((f 3) * (sd 10)) * (f 5)) / 10000)) 5) - (sd 14) else 0)) w) 0 2 ((sd 5) * (((mendF sd st me (upd (mvF f 2 0 ((((f 3) * (sd 10)) * (f 5)) / 10000)) 5 (if 0 < (((mvF f 2 0 ((((f 3) * (sd 10)) * (f 5)) / 10000)) 5) - (sd 14)) then ((mvF f 2 0 ((((f 3) * (sd 10)) * (f 5)) / 10000)) 5) - (sd 14) else 0)) w) 3) / 10))) 1 2 ((sd 8) * (((mvF (mendF sd st me (upd (mvF f 2 0 ((((f 3) * (sd 10)) * (f 5)) / 10000)) 5 (if 0 < (((mvF f 2 0 ((((f 3) * (sd 10)) * (f 5)) / 10000)) 5) - (sd 14)) then ((mvF f 2 0 ((((f 3) * (sd 10)) * (f 5)) / 10000)) 5) - (sd 14) else 0)) w) 0 2 ((sd 5) * (((mendF sd st me (upd (mvF f 2 0 ((((f 3) * (sd 10)) * (f 5)) / 10000)) 5 (if 0 < (((mvF f 2 0 ((((f 3) * (sd 10)) * (f 5)) / 10000)) 5) - (sd 14)) then ((mvF f 2 0 ((((f 3) * (sd 10)) * (f 5)) / 10000)) 5) - (sd 14) else 0)) w) 3) / 10))) 4) / 10))) ((sd 8) - (sd 5)), flF (fun _ => 0) sh 6)) (rfl) ((by (try dsimp only); rw [dsF_n _ _ _ (by (try dsimp only); decide) (by (try dsimp only); decide), mvF_n _ _ _ _ _ (by (try dsimp only); decide) (by (try dsimp only); decide), mvF_n _ _ _ _ _ (by (try dsimp only); decide) (by (try dsimp only); decide), mendF_n _ _ _ _ _ (by (try dsimp only); decide) (by (try dsimp only); decide) (by (try dsimp only); decide), upd_n (by (try dsimp only); decide), mvF_n _ _ _ _ _ (by (try dsimp only); decide) (by (try dsimp only); decide)]))
end
section
theorem nI_min3 {w : Nat} (h : w ≤ 6) : (if (3 : Int32) < nI w then 3 else nI w) = nI (if 3 < w then 3 else w) := by
  rcases (show w = 0 ∨ w = 1 ∨ w = 2 ∨ w = 3 ∨ w = 4 ∨ w = 5 ∨ w = 6 by omega) with rfl | rfl | rfl | rfl | rfl | rfl | rfl <;> decide
def allN (v : Nat) : Nat := 2 ^ v - 1
theorem all_N {v : Nat} (h : v ≤ 3) : ((1 : Int32) <<< (nI v &&& 31)) - 1 = nI (allN v) := by
  rcases (show v = 0 ∨ v = 1 ∨ v = 2 ∨ v = 3 by omega) with rfl | rfl | rfl | rfl <;> decide
theorem all_7 {v : Nat} (h : v ≤ 3) : allN v ≤ 7 := by
  rcases (show v = 0 ∨ v = 1 ∨ v = 2 ∨ v = 3 by omega) with rfl | rfl | rfl | rfl <;> decide
set_option maxHeartbeats 4000000 in
set_option maxRecDepth 100000 in
theorem g_X1_all (l : Launch) (g : he_G) (v0 : Nat) (v1 : Nat) (v2 : Nat) (v3 : Nat) (v : Nat) (dg : Int32) (wo : Nat → Int32) (he_ : Nat → Int32) (pf : Nat → Int32) (hv3 : v ≤ 3) : he_I l yX1_all wsX1_all 0 0 0 0 g [.ref v0] [(oX1 v0 v1 v2 v3 (nI v) dg), (aI g v1 3 wo), (aI g v2 3 he_), (aI g v3 3 pf)] (fun (r : Int32) (u : Unit) => r = nI (allN v)) (fun (u : Unit) => [(oX1 v0 v1 v2 v3 (nI v) dg), (aI g v1 3 wo), (aI g v2 3 he_), (aI g v3 3 pf)]) := by
  refine he_begin (l := l) (g := g) (y := yX1_all) (wl := wsX1_all) (fr := 0) (lo := 0) (mc := 0) (ms := 0) (av := [.ref v0]) (ws := [(oX1 v0 v1 v2 v3 (nI v) dg), (aI g v1 3 wo), (aI g v2 3 he_), (aI g v3 3 pf)]) (cc := cX1_all) (maxL := 1) (ret := (some .int)) (fun A => va_Qi (fun (r : Int32) (u : Unit) => r = nI (allN v)) (fun u t => he_post g A ((fun (u : Unit) => [(oX1 v0 v1 v2 v3 (nI v) dg), (aI g v1 3 wo), (aI g v2 3 he_), (aI g v3 3 pf)]) u) t) A) (by decide) rfl (Nat.le_of_ble_eq_true rfl) ?_
  intro p e s m args below meth c A ls H locs Q hQ hB
  obtain ⟨hx, hb, hr, hml, hown, hts, hlk, hin, hP, hK, hD, hS, hA, hE, hl⟩ := hB
  have hl : lv_has ls 1 [(0, .ref v0)] := hl
  have f33 := hts (.fieldLink RX1 33 "HiredEnemy$Battle" "walls" "I") (iwoX1_all (k := 0) rfl)
  have inX1 : ∀ w ∈ wsX10, w ∈ wsX1_all := innX1_all_X1
  refine lv_iconst (v := 1) hx hb dX1_all_0 (by decide) ?_
  refine lv_aload_n hx hb dX1_all_1 rfl (lv_at hl 0 rfl) ?_
  refine va_get (v := .int (nI v)) (T := TX1) (N := 5) hx hb hts inX1 hown hK hP 0 rfl rfl 3 (by decide) f33 (fun _ h9 => h9) rfl dX1_all_2 ?_
  refine lv_ishl hx hb dX1_all_5 ?_
  refine lv_iconst (v := 1) hx hb dX1_all_6 (by decide) ?_
  refine lv_isub hx hb dX1_all_7 ?_
  refine he_top (nI (allN v)) (all_N hv3) ?_
  exact he_ri hQ hx hb hr hlk hP hD hS dX1_all_8 (Nat.le_of_ble_eq_true rfl) (Nat.le_of_ble_eq_true rfl) (()) (rfl) (rfl)
set_option maxHeartbeats 4000000 in
set_option maxRecDepth 100000 in
theorem g_X2_addF (l : Launch) (g : he_G) (b0 : Nat) (b1 : Nat) (b2 : Nat) (x : Int32) (y : Int32) (rl : Int64) (hd : Int64) (th : Int32) (a : Int32) (b : Int32) (hth : ¬ th < 12) : he_I l yX2_add wsX2_add 0 0 0 0 g [.ref b0, .int a, .int b] [(oX2 b0 b1 b2 x y rl hd th)] (fun (r : Int32) (u : Unit) => r = (-1)) (fun (u : Unit) => [(oX2 b0 b1 b2 x y rl hd th)]) := by
  refine he_begin (l := l) (g := g) (y := yX2_add) (wl := wsX2_add) (fr := 0) (lo := 0) (mc := 0) (ms := 0) (av := [.ref b0, .int a, .int b]) (ws := [(oX2 b0 b1 b2 x y rl hd th)]) (cc := cX2_add) (maxL := 3) (ret := (some .int)) (fun A => va_Qi (fun (r : Int32) (u : Unit) => r = (-1)) (fun u t => he_post g A ((fun (u : Unit) => [(oX2 b0 b1 b2 x y rl hd th)]) u) t) A) (by decide) rfl (Nat.le_of_ble_eq_true rfl) ?_
  intro p e s m args below meth c A ls H locs Q hQ hB
  obtain ⟨hx, hb, hr, hml, hown, hts, hlk, hin, hP, hK, hD, hS, hA, hE, hl⟩ := hB
  have hl : lv_has ls 3 [(0, .ref b0), (1, .int a), (2, .int b)] := hl
  have f33 := hts (.fieldLink RX2 33 "HiredEnemy$Belief" "things" "I") (iwoX2_add (k := 0) rfl)
  have inX2 : ∀ w ∈ wsX20, w ∈ wsX2_add := innX2_add_X2
  refine lv_aload_n hx hb dX2_add_0 rfl (lv_at hl 0 rfl) ?_
  refine va_get (v := .int th) (T := TX2) (N := 7) hx hb hts inX2 hown hK hP 0 rfl rfl 6 (by decide) f33 (fun _ h9 => h9) rfl dX2_add_1 ?_
  refine lv_bipush (v := 12) hx hb dX2_add_4 (by decide) ?_
  refine lv_icmp_lt (tgt := 11) hx hb dX2_add_6 (by decide) (fun c_1 => ?_) (fun c_1 => ?_)
  · exact absurd c_1 hth
  · refine lv_iconst (v := (-1)) hx hb dX2_add_9 (by decide) ?_
    exact he_ri hQ hx hb hr hlk hP hD hS dX2_add_10 (Nat.le_of_ble_eq_true rfl) (Nat.le_of_ble_eq_true rfl) (()) (rfl) (rfl)
set_option maxHeartbeats 4000000 in
set_option maxRecDepth 100000 in
theorem g_X2_add (l : Launch) (g : he_G) (b0 : Nat) (b1 : Nat) (b2 : Nat) (x : Int32) (y : Int32) (rl : Int64) (hd : Int64) (th : Int32) (a : Int32) (b : Int32) (hth : th < 12) : he_I l yX2_add wsX2_add 0 0 0 0 g [.ref b0, .int a, .int b] [(oX2 b0 b1 b2 x y rl hd th)] (fun (r : Int32) (u : Unit) => r = th + 1) (fun (u : Unit) => [(oX2 b0 b1 b2 x y (rl * Int32.toInt64 a) (hd * Int32.toInt64 b) (th + 1))]) := by
  refine he_begin (l := l) (g := g) (y := yX2_add) (wl := wsX2_add) (fr := 0) (lo := 0) (mc := 0) (ms := 0) (av := [.ref b0, .int a, .int b]) (ws := [(oX2 b0 b1 b2 x y rl hd th)]) (cc := cX2_add) (maxL := 3) (ret := (some .int)) (fun A => va_Qi (fun (r : Int32) (u : Unit) => r = th + 1) (fun u t => he_post g A ((fun (u : Unit) => [(oX2 b0 b1 b2 x y (rl * Int32.toInt64 a) (hd * Int32.toInt64 b) (th + 1))]) u) t) A) (by decide) rfl (Nat.le_of_ble_eq_true rfl) ?_
  intro p e s m args below meth c A ls H locs Q hQ hB
  obtain ⟨hx, hb, hr, hml, hown, hts, hlk, hin, hP, hK, hD, hS, hA, hE, hl⟩ := hB
  have hl : lv_has ls 3 [(0, .ref b0), (1, .int a), (2, .int b)] := hl
  have f33 := hts (.fieldLink RX2 33 "HiredEnemy$Belief" "things" "I") (iwoX2_add (k := 0) rfl)
  have inX2 : ∀ w ∈ wsX20, w ∈ wsX2_add := innX2_add_X2
  have f23 := hts (.fieldLink RX2 23 "HiredEnemy$Belief" "real" "J") (iwoX2_add (k := 1) rfl)
  have f27 := hts (.fieldLink RX2 27 "HiredEnemy$Belief" "hired" "J") (iwoX2_add (k := 2) rfl)
  refine lv_aload_n hx hb dX2_add_0 rfl (lv_at hl 0 rfl) ?_
  refine va_get (v := .int th) (T := TX2) (N := 7) hx hb hts inX2 hown hK hP 0 rfl rfl 6 (by decide) f33 (fun _ h9 => h9) rfl dX2_add_1 ?_
  refine lv_bipush (v := 12) hx hb dX2_add_4 (by decide) ?_
  refine lv_icmp_lt (tgt := 11) hx hb dX2_add_6 (by decide) (fun c_1 => ?_) (fun c_1 => ?_)
  · refine lv_aload_n hx hb dX2_add_11 rfl (lv_at hl 0 rfl) ?_
    refine lv_dup hx hb dX2_add_12 rfl ?_
    refine va_get (v := .long rl) (T := TX2) (N := 7) hx hb hts inX2 hown hK hP 0 rfl rfl 4 (by decide) f23 (fun _ h9 => h9) rfl dX2_add_13 ?_
    refine lv_iload_n hx hb dX2_add_16 rfl (lv_at hl 1 rfl) ?_
    refine lv_i2l (v := Int32.toInt64 a) hx hb dX2_add_17 rfl ?_
    refine lv_lmul hx hb dX2_add_18 ?_
    refine va_put (v := .long (rl * (Int32.toInt64 a))) (ty := .long) (T := TX2) (N := 7) hx hb hts inX2 tyX2 tyX2_ok nmX2 hown hK hP hD hS 0 rfl rfl 4 (by decide) f23 (fun _ h9 => h9) rfl (by decide +kernel) rfl rfl (Nat.le_of_ble_eq_true rfl) dX2_add_19 (fun H locs hP hD hS => ?_)
    have hP : va_P g.1 vwCl [(oX2 b0 b1 b2 x y (rl * (Int32.toInt64 a)) hd th)] H := hP
    have hD : va_D A [(oX2 b0 b1 b2 x y (rl * (Int32.toInt64 a)) hd th)] := hD
    refine lv_aload_n hx hb dX2_add_22 rfl (lv_at hl 0 rfl) ?_
    refine lv_dup hx hb dX2_add_23 rfl ?_
    refine va_get (v := .long hd) (T := TX2) (N := 7) hx hb hts inX2 hown hK hP 0 rfl rfl 5 (by decide) f27 (fun _ h9 => h9) rfl dX2_add_24 ?_
    refine lv_iload_n hx hb dX2_add_27 rfl (lv_at hl 2 rfl) ?_
    refine lv_i2l (v := Int32.toInt64 b) hx hb dX2_add_28 rfl ?_
    refine lv_lmul hx hb dX2_add_29 ?_
    refine va_put (v := .long (hd * (Int32.toInt64 b))) (ty := .long) (T := TX2) (N := 7) hx hb hts inX2 tyX2 tyX2_ok nmX2 hown hK hP hD hS 0 rfl rfl 5 (by decide) f27 (fun _ h9 => h9) rfl (by decide +kernel) rfl rfl (Nat.le_of_ble_eq_true rfl) dX2_add_30 (fun H locs hP hD hS => ?_)
    have hP : va_P g.1 vwCl [(oX2 b0 b1 b2 x y (rl * (Int32.toInt64 a)) (hd * (Int32.toInt64 b)) th)] H := hP
    have hD : va_D A [(oX2 b0 b1 b2 x y (rl * (Int32.toInt64 a)) (hd * (Int32.toInt64 b)) th)] := hD
    refine lv_aload_n hx hb dX2_add_33 rfl (lv_at hl 0 rfl) ?_
    refine lv_dup hx hb dX2_add_34 rfl ?_
    refine va_get (v := .int th) (T := TX2) (N := 7) hx hb hts inX2 hown hK hP 0 rfl rfl 6 (by decide) f33 (fun _ h9 => h9) rfl dX2_add_35 ?_
    refine lv_iconst (v := 1) hx hb dX2_add_38 (by decide) ?_
    refine lv_iadd hx hb dX2_add_39 ?_
    refine va_put (v := .int (th + 1)) (ty := .int) (T := TX2) (N := 7) hx hb hts inX2 tyX2 tyX2_ok nmX2 hown hK hP hD hS 0 rfl rfl 6 (by decide) f33 (fun _ h9 => h9) rfl (by decide +kernel) rfl rfl (Nat.le_of_ble_eq_true rfl) dX2_add_40 (fun H locs hP hD hS => ?_)
    have hP : va_P g.1 vwCl [(oX2 b0 b1 b2 x y (rl * (Int32.toInt64 a)) (hd * (Int32.toInt64 b)) (th + 1))] H := hP
    have hD : va_D A [(oX2 b0 b1 b2 x y (rl * (Int32.toInt64 a)) (hd * (Int32.toInt64 b)) (th + 1))] := hD
    refine lv_aload_n hx hb dX2_add_43 rfl (lv_at hl 0 rfl) ?_
    refine va_get (v := .int (th + 1)) (T := TX2) (N := 7) hx hb hts inX2 hown hK hP 0 rfl rfl 6 (by decide) f33 (fun _ h9 => h9) rfl dX2_add_44 ?_
    exact he_ri hQ hx hb hr hlk hP hD hS dX2_add_47 (Nat.le_of_ble_eq_true rfl) (Nat.le_of_ble_eq_true rfl) (()) (rfl) (rfl)
  · exact absurd hth c_1
set_option maxHeartbeats 4000000 in
set_option maxRecDepth 100000 in
theorem g_X2_least (l : Launch) (g : he_G) (b0 : Nat) (b1 : Nat) (b2 : Nat) (x : Int32) (y : Int32) (rl : Int64) (hd : Int64) (th : Int32) (v : Int32)  : he_J l yX2_leastTerm wsX2_leastTerm 0 0 0 0 g [.ref b0, .int v] [(oX2 b0 b1 b2 x y rl hd th)] (fun (r : Int64) (u : Unit) => True) (fun (u : Unit) => [(oX2 b0 b1 b2 x y rl hd th)]) := by
  refine he_begin (l := l) (g := g) (y := yX2_leastTerm) (wl := wsX2_leastTerm) (fr := 0) (lo := 0) (mc := 0) (ms := 0) (av := [.ref b0, .int v]) (ws := [(oX2 b0 b1 b2 x y rl hd th)]) (cc := cX2_leastTerm) (maxL := 9) (ret := (some .long)) (fun A => va_Ql (fun (r : Int64) (u : Unit) => True) (fun u t => he_post g A ((fun (u : Unit) => [(oX2 b0 b1 b2 x y rl hd th)]) u) t) A) (by decide) rfl (Nat.le_of_ble_eq_true rfl) ?_
  intro p e s m args below meth c A ls H locs Q hQ hB
  obtain ⟨hx, hb, hr, hml, hown, hts, hlk, hin, hP, hK, hD, hS, hA, hE, hl⟩ := hB
  have hl : lv_has ls 9 [(0, .ref b0), (1, .int v)] := hl
  have f23 := hts (.fieldLink RX2 23 "HiredEnemy$Belief" "real" "J") (iwoX2_leastTerm (k := 0) rfl)
  have inX2 : ∀ w ∈ wsX20, w ∈ wsX2_leastTerm := innX2_leastTerm_X2
  have f27 := hts (.fieldLink RX2 27 "HiredEnemy$Belief" "hired" "J") (iwoX2_leastTerm (k := 1) rfl)
  refine lv_aload_n hx hb dX2_leastTerm_0 rfl (lv_at hl 0 rfl) ?_
  refine va_get (v := .long rl) (T := TX2) (N := 7) hx hb hts inX2 hown hK hP 0 rfl rfl 4 (by decide) f23 (fun _ h9 => h9) rfl dX2_leastTerm_1 ?_
  refine lv_lstore_n (lv' := [(2, .long rl), (0, .ref b0), (1, .int v)]) hx hb dX2_leastTerm_4 rfl hl (by decide) rfl (fun ls hl => ?_)
  refine lv_aload_n hx hb dX2_leastTerm_5 rfl (lv_at hl 1 rfl) ?_
  refine va_get (v := .long hd) (T := TX2) (N := 7) hx hb hts inX2 hown hK hP 0 rfl rfl 5 (by decide) f27 (fun _ h9 => h9) rfl dX2_leastTerm_6 ?_
  refine lv_lstore (lv' := [(4, .long hd), (2, .long rl), (0, .ref b0), (1, .int v)]) hx hb dX2_leastTerm_9 hl (by decide) rfl (fun ls hl => ?_)
  refine lv_iconst (v := 0) hx hb dX2_leastTerm_11 (by decide) ?_
  refine lv_istore (lv' := [(6, .int 0), (4, .long hd), (2, .long rl), (0, .ref b0), (1, .int v)]) hx hb dX2_leastTerm_12 hl (by decide) rfl (fun ls hl => ?_)
  have loop14 : ∀ (n9 : Nat) (j : Nat) (ea : Int64) (eb : Int64), 200 - j < n9 → (j ≤ 200) → ∀ (H : Heap) (locs : List Loc) (ls : Array Slot), va_P g.1 vwCl [(oX2 b0 b1 b2 x y rl hd th)] H → va_D A [(oX2 b0 b1 b2 x y rl hd th)] → va_S A s.heap H locs → lv_has ls 9 [(0, .ref b0), (1, .int v), (2, .long ea), (4, .long eb), (6, .int (nI j))] → W p l e (he_room 0 0 0 0) s m args below meth c H locs 0 0 Q (F0 m 14 ls []) := by
    intro n9
    induction n9 with
    | zero => intro j ea eb hm9; exact absurd hm9 (Nat.not_lt_zero _)
    | succ n9 ih14 =>
      intro j ea eb hm9 hj H locs ls hP hD hS hl
      refine lv_iload hx hb dX2_leastTerm_14 (lv_at hl 4 rfl) ?_
      refine lv_sipush (v := 200) hx hb dX2_leastTerm_16 (by decide) ?_
      refine lv_icmp_ge (tgt := 48) hx hb dX2_leastTerm_19 (by decide) (fun c_1 => ?_) (fun c_1 => ?_)
      · have k_2 : 200 ≤ j := (he_cle (a := 200) (b := j) (by decide) rfl (by omega) (by omega)).mp c_1
        have join63 : ∀ (tm : Int64), ∀ (H : Heap) (locs : List Loc) (ls : Array Slot), va_P g.1 vwCl [(oX2 b0 b1 b2 x y rl hd th)] H → va_D A [(oX2 b0 b1 b2 x y rl hd th)] → va_S A s.heap H locs → lv_has ls 9 [(0, .ref b0), (1, .int v), (2, .long ea), (4, .long eb)] → W p l e (he_room 0 0 0 0) s m args below meth c H locs 0 0 Q (F0 m 63 ls [.long tm]) := by
          intro tm H locs ls hP hD hS hl
          refine lv_lstore (lv' := [(6, .long tm), (0, .ref b0), (1, .int v), (2, .long ea), (4, .long eb)]) hx hb dX2_leastTerm_63 hl (by decide) rfl (fun ls hl => ?_)
          refine lv_lload_n hx hb dX2_leastTerm_65 rfl (lv_at hl 3 rfl) ?_
          refine lv_lconst (v := 0) hx hb dX2_leastTerm_66 (by decide) ?_
          refine W.lcmp hx hb dX2_leastTerm_67 ?_
          refine lv_if_le (tgt := 78) hx hb dX2_leastTerm_68 (by decide) (fun c_3 => ?_) (fun c_3 => ?_)
          · refine lv_lload hx hb dX2_leastTerm_78 (lv_at hl 0 rfl) ?_
            exact he_rj hQ hx hb hr hlk hP hD hS dX2_leastTerm_80 (Nat.le_of_ble_eq_true rfl) (Nat.le_of_ble_eq_true rfl) (()) (rfl) (trivial)
          · refine lv_lload hx hb dX2_leastTerm_71 (lv_at hl 0 rfl) ?_
            refine lv_lload_n hx hb dX2_leastTerm_73 rfl (lv_at hl 3 rfl) ?_
            refine lv_ldiv hx hb dX2_leastTerm_74 (fun h9 => c_3 (by rw [h9]; decide)) ?_
            refine lv_goto (tgt := 80) hx hb dX2_leastTerm_75 (by decide) ?_
            exact he_rj hQ hx hb hr hlk hP hD hS dX2_leastTerm_80 (Nat.le_of_ble_eq_true rfl) (Nat.le_of_ble_eq_true rfl) (()) (rfl) (trivial)
        refine lv_iload_n hx hb dX2_leastTerm_48 rfl (lv_at hl 1 rfl) ?_
        refine lv_if_eq (tgt := 59) hx hb dX2_leastTerm_49 (by decide) (fun c_4 => ?_) (fun c_4 => ?_)
        · refine lv_aload_n hx hb dX2_leastTerm_59 rfl (lv_at hl 0 rfl) ?_
          refine va_get (v := .long hd) (T := TX2) (N := 7) hx hb hts inX2 hown hK hP 0 rfl rfl 5 (by decide) f27 (fun _ h9 => h9) rfl dX2_leastTerm_60 ?_
          exact join63 hd  _ _ _ hP hD hS (lv_sub hl [0, 1, 2, 3] rfl)
        · refine lv_aload_n hx hb dX2_leastTerm_52 rfl (lv_at hl 0 rfl) ?_
          refine va_get (v := .long rl) (T := TX2) (N := 7) hx hb hts inX2 hown hK hP 0 rfl rfl 4 (by decide) f23 (fun _ h9 => h9) rfl dX2_leastTerm_53 ?_
          refine lv_goto (tgt := 63) hx hb dX2_leastTerm_56 (by decide) ?_
          exact join63 rl  _ _ _ hP hD hS (lv_sub hl [0, 1, 2, 3] rfl)
      · have k_5 : ¬ (200 ≤ j) := fun h9 => c_1 ((he_cle (a := 200) (b := j) (by decide) rfl (by omega) (by omega)).mpr h9)
        refine lv_lload hx hb dX2_leastTerm_22 (lv_at hl 3 rfl) ?_
        refine lv_lconst (v := 0) hx hb dX2_leastTerm_24 (by decide) ?_
        refine W.lcmp hx hb dX2_leastTerm_25 ?_
        refine lv_if_eq (tgt := 48) hx hb dX2_leastTerm_26 (by decide) (fun c_6 => ?_) (fun c_6 => ?_)
        · have join63 : ∀ (tm : Int64), ∀ (H : Heap) (locs : List Loc) (ls : Array Slot), va_P g.1 vwCl [(oX2 b0 b1 b2 x y rl hd th)] H → va_D A [(oX2 b0 b1 b2 x y rl hd th)] → va_S A s.heap H locs → lv_has ls 9 [(0, .ref b0), (1, .int v), (2, .long ea), (4, .long eb)] → W p l e (he_room 0 0 0 0) s m args below meth c H locs 0 0 Q (F0 m 63 ls [.long tm]) := by
            intro tm H locs ls hP hD hS hl
            refine lv_lstore (lv' := [(6, .long tm), (0, .ref b0), (1, .int v), (2, .long ea), (4, .long eb)]) hx hb dX2_leastTerm_63 hl (by decide) rfl (fun ls hl => ?_)
            refine lv_lload_n hx hb dX2_leastTerm_65 rfl (lv_at hl 3 rfl) ?_
            refine lv_lconst (v := 0) hx hb dX2_leastTerm_66 (by decide) ?_
            refine W.lcmp hx hb dX2_leastTerm_67 ?_
            refine lv_if_le (tgt := 78) hx hb dX2_leastTerm_68 (by decide) (fun c_7 => ?_) (fun c_7 => ?_)
            · refine lv_lload hx hb dX2_leastTerm_78 (lv_at hl 0 rfl) ?_
              exact he_rj hQ hx hb hr hlk hP hD hS dX2_leastTerm_80 (Nat.le_of_ble_eq_true rfl) (Nat.le_of_ble_eq_true rfl) (()) (rfl) (trivial)
            · refine lv_lload hx hb dX2_leastTerm_71 (lv_at hl 0 rfl) ?_
              refine lv_lload_n hx hb dX2_leastTerm_73 rfl (lv_at hl 3 rfl) ?_
              refine lv_ldiv hx hb dX2_leastTerm_74 (fun h9 => c_7 (by rw [h9]; decide)) ?_
              refine lv_goto (tgt := 80) hx hb dX2_leastTerm_75 (by decide) ?_
              exact he_rj hQ hx hb hr hlk hP hD hS dX2_leastTerm_80 (Nat.le_of_ble_eq_true rfl) (Nat.le_of_ble_eq_true rfl) (()) (rfl) (trivial)
          refine lv_iload_n hx hb dX2_leastTerm_48 rfl (lv_at hl 1 rfl) ?_
          refine lv_if_eq (tgt := 59) hx hb dX2_leastTerm_49 (by decide) (fun c_8 => ?_) (fun c_8 => ?_)
          · refine lv_aload_n hx hb dX2_leastTerm_59 rfl (lv_at hl 0 rfl) ?_
            refine va_get (v := .long hd) (T := TX2) (N := 7) hx hb hts inX2 hown hK hP 0 rfl rfl 5 (by decide) f27 (fun _ h9 => h9) rfl dX2_leastTerm_60 ?_
            exact join63 hd  _ _ _ hP hD hS (lv_sub hl [0, 1, 2, 3] rfl)
          · refine lv_aload_n hx hb dX2_leastTerm_52 rfl (lv_at hl 0 rfl) ?_
            refine va_get (v := .long rl) (T := TX2) (N := 7) hx hb hts inX2 hown hK hP 0 rfl rfl 4 (by decide) f23 (fun _ h9 => h9) rfl dX2_leastTerm_53 ?_
            refine lv_goto (tgt := 63) hx hb dX2_leastTerm_56 (by decide) ?_
            exact join63 rl  _ _ _ hP hD hS (lv_sub hl [0, 1, 2, 3] rfl)
        · refine lv_lload_n hx hb dX2_leastTerm_29 rfl (lv_at hl 2 rfl) ?_
          refine lv_lload hx hb dX2_leastTerm_30 (lv_at hl 3 rfl) ?_
          refine lv_lrem hx hb dX2_leastTerm_32 (fun h9 => c_6 (lcmp_0 h9)) ?_
          refine lv_lstore (lv' := [(7, .long (ea - ea / eb * eb)), (0, .ref b0), (1, .int v), (2, .long ea), (4, .long eb), (6, .int (nI j))]) hx hb dX2_leastTerm_33 hl (by decide) rfl (fun ls hl => ?_)
          refine lv_lload hx hb dX2_leastTerm_35 (lv_at hl 4 rfl) ?_
          refine lv_lstore_n (lv' := [(2, .long eb), (7, .long (ea - ea / eb * eb)), (0, .ref b0), (1, .int v), (4, .long eb), (6, .int (nI j))]) hx hb dX2_leastTerm_37 rfl hl (by decide) rfl (fun ls hl => ?_)
          refine lv_lload hx hb dX2_leastTerm_38 (lv_at hl 1 rfl) ?_
          refine lv_lstore (lv' := [(4, .long (ea - ea / eb * eb)), (2, .long eb), (7, .long (ea - ea / eb * eb)), (0, .ref b0), (1, .int v), (6, .int (nI j))]) hx hb dX2_leastTerm_40 hl (by decide) rfl (fun ls hl => ?_)
          refine lv_iinc (v := nI (j + 1)) (lv' := [(6, .int (nI (j + 1))), (4, .long (ea - ea / eb * eb)), (2, .long eb), (7, .long (ea - ea / eb * eb)), (0, .ref b0), (1, .int v)]) hx hb dX2_leastTerm_42 hl (k := 5) rfl (nI_1 j) (by decide) rfl (fun ls hl => ?_)
          refine lv_goto (tgt := 14) hx hb dX2_leastTerm_45 (by decide) ?_
          exact ih14 (j + 1) eb (ea - ea / eb * eb) (by omega) (by omega) _ _ _ hP hD hS (lv_sub hl [4, 5, 2, 1, 0] rfl)
  exact loop14 ((200 - 0) + 1) 0 rl hd (Nat.lt_succ_self _) (Nat.zero_le _) _ _ _ hP hD hS (lv_sub hl [3, 4, 2, 1, 0] rfl)
set_option maxHeartbeats 4000000 in
set_option maxRecDepth 100000 in
theorem g_X0_giveBack (l : Launch) (g : he_G) (a0 : Nat) (a1 : Nat) (ln : Nat → Int32) (h0 : Nat) (q0 : Nat) (q1 : Nat) (mo : Int32) (k : Nat) (f : Nat → Int32) (hk : k < 120) : he_V l yX0_giveBack wsX0_giveBack 1 22 0 0 g [.ref a0, .ref h0, .int (nI k)] [(oX0 a0 a1), (aI g a1 3600 ln), (oX4 h0 q0 q1 mo), (aI g q0 24 f)] (fun (u : Unit) => True) (fun (u : Unit) => [(oX0 a0 a1), (aI g a1 3600 ln), (oX4 h0 q0 q1 (nI k)), (aI g q0 24 (va_cpy ln f (k * 30) 0 24))]) := by
  refine he_begin (l := l) (g := g) (y := yX0_giveBack) (wl := wsX0_giveBack) (fr := 1) (lo := 22) (mc := 0) (ms := 0) (av := [.ref a0, .ref h0, .int (nI k)]) (ws := [(oX0 a0 a1), (aI g a1 3600 ln), (oX4 h0 q0 q1 mo), (aI g q0 24 f)]) (cc := cX0_giveBack) (maxL := 3) (ret := none) (fun A => va_Qv (fun (u : Unit) => True) (fun u t => he_post g A ((fun (u : Unit) => [(oX0 a0 a1), (aI g a1 3600 ln), (oX4 h0 q0 q1 (nI k)), (aI g q0 24 (va_cpy ln f (k * 30) 0 24))]) u) t) A) (by decide) rfl (Nat.le_of_ble_eq_true rfl) ?_
  intro p e s m args below meth c A ls H locs Q hQ hB
  obtain ⟨hx, hb, hr, hml, hown, hts, hlk, hin, hP, hK, hD, hS, hA, hE, hl⟩ := hB
  have hl : lv_has ls 3 [(0, .ref a0), (1, .ref h0), (2, .int (nI k))] := hl
  have nl21 := hE.nest (RX0, 21, yX10_within) (by decide +kernel)
  have iniX10 := hts (.initialized RX10) (iwoX0_giveBack (k := 8) rfl)
  have st_yX10_within := hts (.static yX10_within) (iwoX0_giveBack (k := 7) rfl)
  have f11 := hts (.fieldLink RX0 11 "HiredEnemy$Annals" "lines" "[I") (iwoX0_giveBack (k := 0) rfl)
  have inX0 : ∀ w ∈ wsX00, w ∈ wsX0_giveBack := innX0_giveBack_X0
  have f25 := hts (.fieldLink RX0 25 "HiredEnemy$Course" "now" "[I") (iwoX0_giveBack (k := 1) rfl)
  have inX4 : ∀ w ∈ wsX40, w ∈ wsX0_giveBack := innX0_giveBack_X4
  have al28 := hts (.methodLink RX0 28 arraycopyName) (iwoX0_giveBack (k := 2) rfl)
  have an := hts (.native arraycopyName) (iwoX0_giveBack (k := 3) rfl)
  have ast := hts (.static arraycopyName) (iwoX0_giveBack (k := 4) rfl)
  have ai := hts (.initialized "java/lang/System") (iwoX0_giveBack (k := 5) rfl)
  have f15 := hts (.fieldLink RX0 15 "HiredEnemy$Course" "month" "I") (iwoX0_giveBack (k := 6) rfl)
  refine lv_iload_n hx hb dX0_giveBack_0 rfl (lv_at hl 2 rfl) ?_
  refine lv_iconst (v := 0) hx hb dX0_giveBack_1 (by decide) ?_
  refine lv_bipush (v := 119) hx hb dX0_giveBack_2 (by decide) ?_
  refine he_ci (wc := []) (wr := [(oX0 a0 a1), (aI g a1 3600 ln), (oX4 h0 q0 q1 mo), (aI g q0 24 f)]) (va_runSN (As := [.int (nI k), .int 0, .int 119]) (rest := []) ⟨hx, hb, hml, hown, hts⟩ (c_X10_within l g (nI k) 0 119 H.size) ⟨(va_cnB 3 hts gX0_giveBack_X10_within_n21 rfl rfl rfl nl21 iniX10 (by decide +kernel) ⟨Nat.le_of_ble_eq_true rfl, Nat.le_of_ble_eq_true rfl⟩), st_yX10_within, trivial⟩ (he_preS (wc := []) hK hP hD hS hA hE [] rfl rfl) rfl rfl hl.1 rfl (lv_room (Nat.le_of_ble_eq_true rfl)) dX0_giveBack_4 ⟨(Nat.le_of_ble_eq_true rfl), (Nat.le_of_ble_eq_true rfl)⟩) hP hD hS hA [] [0, 1, 2, 3] rfl rfl rfl (by decide) (fun r_1 u_2 H locs h_3 hP hD hS => ?_)
  subst h_3
  have hP : va_P g.1 vwCl [(oX0 a0 a1), (aI g a1 3600 ln), (oX4 h0 q0 q1 mo), (aI g q0 24 f)] H := hP
  have hD : va_D A [(oX0 a0 a1), (aI g a1 3600 ln), (oX4 h0 q0 q1 mo), (aI g q0 24 f)] := hD
  refine he_top (1) (he_within_in (a0 := 0) (B := 119) rfl rfl (by omega) (by omega) (by decide)) ?_
  refine lv_if_eq (tgt := 33) hx hb dX0_giveBack_7 (by decide) (fun c_4 => ?_) (fun c_4 => ?_)
  · exact absurd c_4 (by decide)
  · refine lv_aload_n hx hb dX0_giveBack_10 rfl (lv_at hl 0 rfl) ?_
    refine va_get (v := .ref a1) (T := TX0) (N := 1) hx hb hts inX0 hown hK hP 0 rfl rfl 0 (by decide) f11 (fun _ h9 => h9) rfl dX0_giveBack_11 ?_
    refine lv_iload_n hx hb dX0_giveBack_14 rfl (lv_at hl 2 rfl) ?_
    refine lv_bipush (v := 30) hx hb dX0_giveBack_15 (by decide) ?_
    refine lv_imul hx hb dX0_giveBack_17 ?_
    refine he_top (nI (k * 30)) (pk_mul k 30) ?_
    refine lv_aload_n hx hb dX0_giveBack_18 rfl (lv_at hl 1 rfl) ?_
    refine va_get (v := .ref q0) (T := TX4) (N := 3) hx hb hts inX4 hown hK hP 2 rfl rfl 0 (by decide) f25 (fun _ h9 => h9) rfl dX0_giveBack_19 ?_
    refine lv_iconst (v := 0) hx hb dX0_giveBack_22 (by decide) ?_
    refine lv_bipush (v := 24) hx hb dX0_giveBack_23 (by decide) ?_
    refine he_copy hx hb (by rw [hml]; exact hl.1.symm) hown al28 an ast ai hK hP hD hS 1 3 rfl rfl (k * 30) (0) (24) rfl (by decide) (by decide) (by first | decide | omega) (by first | decide | omega) (by decide) (by decide) (Nat.le_of_ble_eq_true rfl) (Nat.le_of_ble_eq_true rfl) dX0_giveBack_25 (fun H locs hP hD hS => ?_)
    have hP : va_P g.1 vwCl [(oX0 a0 a1), (aI g a1 3600 ln), (oX4 h0 q0 q1 mo), (aI g q0 24 (va_cpy ln f (k * 30) 0 24))] H := hP
    have hD : va_D A [(oX0 a0 a1), (aI g a1 3600 ln), (oX4 h0 q0 q1 mo), (aI g q0 24 (va_cpy ln f (k * 30) 0 24))] := hD
    refine lv_aload_n hx hb dX0_giveBack_28 rfl (lv_at hl 1 rfl) ?_
    refine lv_iload_n hx hb dX0_giveBack_29 rfl (lv_at hl 2 rfl) ?_
    refine va_put (v := .int (nI k)) (ty := .int) (T := TX4) (N := 3) hx hb hts inX4 tyX4 tyX4_ok nmX4 hown hK hP hD hS 2 rfl rfl 2 (by decide) f15 (fun _ h9 => h9) rfl (by decide +kernel) rfl rfl (Nat.le_of_ble_eq_true rfl) dX0_giveBack_30 (fun H locs hP hD hS => ?_)
    have hP : va_P g.1 vwCl [(oX0 a0 a1), (aI g a1 3600 ln), (oX4 h0 q0 q1 (nI k)), (aI g q0 24 (va_cpy ln f (k * 30) 0 24))] H := hP
    have hD : va_D A [(oX0 a0 a1), (aI g a1 3600 ln), (oX4 h0 q0 q1 (nI k)), (aI g q0 24 (va_cpy ln f (k * 30) 0 24))] := hD
    exact he_rv hQ hx hb hr hlk hP hD hS dX0_giveBack_33 (Nat.le_of_ble_eq_true rfl) (Nat.le_of_ble_eq_true rfl) (()) (rfl) (trivial)
set_option maxHeartbeats 4000000 in
set_option maxRecDepth 100000 in
theorem g_X0_shotAt (l : Launch) (g : he_G) (a0 : Nat) (a1 : Nat) (ln : Nat → Int32) (k : Nat) (j : Nat) (hk : k < 120) (hj : j < 6) : he_I l yX0_shotAt wsX0_shotAt 0 0 0 0 g [.ref a0, .int (nI k), .int (nI j)] [(oX0 a0 a1), (aI g a1 3600 ln)] (fun (r : Int32) (u : Unit) => r = ln (k * 30 + 24 + j)) (fun (u : Unit) => [(oX0 a0 a1), (aI g a1 3600 ln)]) := by
  refine he_begin (l := l) (g := g) (y := yX0_shotAt) (wl := wsX0_shotAt) (fr := 0) (lo := 0) (mc := 0) (ms := 0) (av := [.ref a0, .int (nI k), .int (nI j)]) (ws := [(oX0 a0 a1), (aI g a1 3600 ln)]) (cc := cX0_shotAt) (maxL := 3) (ret := (some .int)) (fun A => va_Qi (fun (r : Int32) (u : Unit) => r = ln (k * 30 + 24 + j)) (fun u t => he_post g A ((fun (u : Unit) => [(oX0 a0 a1), (aI g a1 3600 ln)]) u) t) A) (by decide) rfl (Nat.le_of_ble_eq_true rfl) ?_
  intro p e s m args below meth c A ls H locs Q hQ hB
  obtain ⟨hx, hb, hr, hml, hown, hts, hlk, hin, hP, hK, hD, hS, hA, hE, hl⟩ := hB
  have hl : lv_has ls 3 [(0, .ref a0), (1, .int (nI k)), (2, .int (nI j))] := hl
  have f11 := hts (.fieldLink RX0 11 "HiredEnemy$Annals" "lines" "[I") (iwoX0_shotAt (k := 0) rfl)
  have inX0 : ∀ w ∈ wsX00, w ∈ wsX0_shotAt := innX0_shotAt_X0
  refine lv_aload_n hx hb dX0_shotAt_0 rfl (lv_at hl 0 rfl) ?_
  refine va_get (v := .ref a1) (T := TX0) (N := 1) hx hb hts inX0 hown hK hP 0 rfl rfl 0 (by decide) f11 (fun _ h9 => h9) rfl dX0_shotAt_1 ?_
  refine lv_iload_n hx hb dX0_shotAt_4 rfl (lv_at hl 1 rfl) ?_
  refine lv_bipush (v := 30) hx hb dX0_shotAt_5 (by decide) ?_
  refine lv_imul hx hb dX0_shotAt_7 ?_
  refine he_top (nI (k * 30)) (pk_mul k 30) ?_
  refine lv_bipush (v := 24) hx hb dX0_shotAt_8 (by decide) ?_
  refine lv_iadd hx hb dX0_shotAt_10 ?_
  refine he_top (nI (k * 30 + 24)) (nI_add (k * 30) 24) ?_
  refine lv_iload_n hx hb dX0_shotAt_11 rfl (lv_at hl 2 rfl) ?_
  refine lv_iadd hx hb dX0_shotAt_12 ?_
  refine he_top (nI (k * 30 + 24 + j)) (nI_add (k * 30 + 24) j) ?_
  refine he_iald hx hb hK hP 1 rfl (k * 30 + 24 + j) rfl (by first | assumption | decide | omega) (by first | decide | assumption) (ln (k * 30 + 24 + j)) rfl dX0_shotAt_13 ?_
  exact he_ri hQ hx hb hr hlk hP hD hS dX0_shotAt_14 (Nat.le_of_ble_eq_true rfl) (Nat.le_of_ble_eq_true rfl) (()) (rfl) (rfl)
end
section
theorem he_ch6 : ∀ k, k < 41 → ((he_w6.getD k 0 &&& 255).toUInt32 % 65536).toInt32 = he_w6.getD k 0 ∧ narrow .char (.int (he_w6.getD k 0)) = .int (he_w6.getD k 0) := by decide +kernel
theorem he_ch5 : ∀ k, k < 39 → ((he_w5.getD k 0 &&& 255).toUInt32 % 65536).toInt32 = he_w5.getD k 0 ∧ narrow .char (.int (he_w5.getD k 0)) = .int (he_w5.getD k 0) := by decide +kernel
theorem he_min500 {n : Nat} (h : n ≤ 500) : (if (500 : Int32) < nI n then 500 else nI n) = nI n := by
  rw [if_neg]
  intro h9
  have := (nI_ltI (a := 500) (by decide) (by omega)).mp h9
  omega
set_option maxHeartbeats 4000000 in
set_option maxRecDepth 100000 in
theorem g_J3_checkIndexN (l : Launch) (g : he_G) (k : Nat) (n : Nat) (hk : k < n) (hn : n < 2147483648) : he_I l yJ3_checkIndex_8e157 wsJ3_checkIndex_8e157 0 0 0 0 g [.int (nI k), .int (nI n), .null] [] (fun (r : Int32) (u : Unit) => r = nI k) (fun (u : Unit) => []) := by
  refine he_begin (l := l) (g := g) (y := yJ3_checkIndex_8e157) (wl := wsJ3_checkIndex_8e157) (fr := 0) (lo := 0) (mc := 0) (ms := 0) (av := [.int (nI k), .int (nI n), .null]) (ws := []) (cc := cJ3_checkIndex_8e157) (maxL := 3) (ret := (some .int)) (fun A => va_Qi (fun (r : Int32) (u : Unit) => r = nI k) (fun u t => he_post g A ((fun (u : Unit) => []) u) t) A) (by decide) rfl (Nat.le_of_ble_eq_true rfl) ?_
  intro p e s m args below meth c A ls H locs Q hQ hB
  obtain ⟨hx, hb, hr, hml, hown, hts, hlk, hin, hP, hK, hD, hS, hA, hE, hl⟩ := hB
  have hl : lv_has ls 3 [(0, .int (nI k)), (1, .int (nI n)), (2, .null)] := hl
  refine lv_iload_n hx hb dJ3_checkIndex_8e157_0 rfl (lv_at hl 0 rfl) ?_
  refine lv_if_lt (tgt := 9) hx hb dJ3_checkIndex_8e157_1 (by decide) (fun c_1 => ?_) (fun c_1 => ?_)
  · exact absurd c_1 (nI_pos (by omega))
  · refine lv_iload_n hx hb dJ3_checkIndex_8e157_4 rfl (lv_at hl 0 rfl) ?_
    refine lv_iload_n hx hb dJ3_checkIndex_8e157_5 rfl (lv_at hl 1 rfl) ?_
    refine lv_icmp_lt (tgt := 16) hx hb dJ3_checkIndex_8e157_6 (by decide) (fun c_2 => ?_) (fun c_2 => ?_)
    · refine lv_iload_n hx hb dJ3_checkIndex_8e157_16 rfl (lv_at hl 0 rfl) ?_
      exact he_ri hQ hx hb hr hlk hP hD hS dJ3_checkIndex_8e157_17 (Nat.le_of_ble_eq_true rfl) (Nat.le_of_ble_eq_true rfl) (()) (rfl) (rfl)
    · exact absurd ((nI_ltI (by omega) (by omega)).mpr hk) c_2
set_option maxHeartbeats 4000000 in
set_option maxRecDepth 100000 in
theorem g_J3_checkIndexR (l : Launch) (g : he_G) (k : Nat) (n : Nat) (t : Nat) (hk : k < n) (hn : n < 2147483648) : he_I l yJ3_checkIndex_8e157 wsJ3_checkIndex_8e157 0 0 0 0 g [.int (nI k), .int (nI n), .ref t] [] (fun (r : Int32) (u : Unit) => r = nI k) (fun (u : Unit) => []) := by
  refine he_begin (l := l) (g := g) (y := yJ3_checkIndex_8e157) (wl := wsJ3_checkIndex_8e157) (fr := 0) (lo := 0) (mc := 0) (ms := 0) (av := [.int (nI k), .int (nI n), .ref t]) (ws := []) (cc := cJ3_checkIndex_8e157) (maxL := 3) (ret := (some .int)) (fun A => va_Qi (fun (r : Int32) (u : Unit) => r = nI k) (fun u t => he_post g A ((fun (u : Unit) => []) u) t) A) (by decide) rfl (Nat.le_of_ble_eq_true rfl) ?_
  intro p e s m args below meth c A ls H locs Q hQ hB
  obtain ⟨hx, hb, hr, hml, hown, hts, hlk, hin, hP, hK, hD, hS, hA, hE, hl⟩ := hB
  have hl : lv_has ls 3 [(0, .int (nI k)), (1, .int (nI n)), (2, .ref t)] := hl
  refine lv_iload_n hx hb dJ3_checkIndex_8e157_0 rfl (lv_at hl 0 rfl) ?_
  refine lv_if_lt (tgt := 9) hx hb dJ3_checkIndex_8e157_1 (by decide) (fun c_1 => ?_) (fun c_1 => ?_)
  · exact absurd c_1 (nI_pos (by omega))
  · refine lv_iload_n hx hb dJ3_checkIndex_8e157_4 rfl (lv_at hl 0 rfl) ?_
    refine lv_iload_n hx hb dJ3_checkIndex_8e157_5 rfl (lv_at hl 1 rfl) ?_
    refine lv_icmp_lt (tgt := 16) hx hb dJ3_checkIndex_8e157_6 (by decide) (fun c_2 => ?_) (fun c_2 => ?_)
    · refine lv_iload_n hx hb dJ3_checkIndex_8e157_16 rfl (lv_at hl 0 rfl) ?_
      exact he_ri hQ hx hb hr hlk hP hD hS dJ3_checkIndex_8e157_17 (Nat.le_of_ble_eq_true rfl) (Nat.le_of_ble_eq_true rfl) (()) (rfl) (rfl)
    · exact absurd ((nI_ltI (by omega) (by omega)).mpr hk) c_2
set_option maxHeartbeats 4000000 in
set_option maxRecDepth 100000 in
theorem g_J0_checkIndex (l : Launch) (g : he_G) (k : Nat) (n : Nat) (hk : k < n) (hn : n < 2147483648) : he_V l yJ0_checkIndex_df160 wsJ0_checkIndex_df160 1 22 0 0 g [.int (nI k), .int (nI n)] [] (fun (u : Unit) => True) (fun (u : Unit) => []) := by
  refine he_begin (l := l) (g := g) (y := yJ0_checkIndex_df160) (wl := wsJ0_checkIndex_df160) (fr := 1) (lo := 22) (mc := 0) (ms := 0) (av := [.int (nI k), .int (nI n)]) (ws := []) (cc := cJ0_checkIndex_df160) (maxL := 2) (ret := none) (fun A => va_Qv (fun (u : Unit) => True) (fun u t => he_post g A ((fun (u : Unit) => []) u) t) A) (by decide) rfl (Nat.le_of_ble_eq_true rfl) ?_
  intro p e s m args below meth c A ls H locs Q hQ hB
  obtain ⟨hx, hb, hr, hml, hown, hts, hlk, hin, hP, hK, hD, hS, hA, hE, hl⟩ := hB
  have hl : lv_has ls 2 [(0, .int (nI k)), (1, .int (nI n))] := hl
  have f1053 := hts (.fieldLink RJ0 1053 "jdk/internal/util/Preconditions" "SIOOBE_FORMATTER" "Ljava/util/function/BiFunction;") (iwoJ0_checkIndex_df160 (k := 0) rfl)
  refine lv_iload_n hx hb dJ0_checkIndex_df160_0 rfl (lv_at hl 0 rfl) ?_
  refine lv_iload_n hx hb dJ0_checkIndex_df160_1 rfl (lv_at hl 1 rfl) ?_
  obtain hZ9 | ⟨t9, hZ9⟩ := hE.words.1.2
  · refine va_gets hx hb hZ9 hS hown f1053 (fun _ h9 => h9) dJ0_checkIndex_df160_2 ?_
    refine he_ci (wc := []) (wr := []) (va_runS (As := [.int (nI k), .int (nI n), .null]) (rest := []) ⟨hx, hb, hml, hown, hts⟩ (g_J3_checkIndexN l g k n (by first | assumption | decide | omega) (by first | assumption | decide | omega) H.size) (va_cwS 3 hts gJ0_checkIndex_df160_J3_checkIndex_8e157 rfl rfl rfl (by decide +kernel) ⟨Nat.le_of_ble_eq_true rfl, Nat.le_of_ble_eq_true rfl⟩) (he_preS (wc := []) hK hP hD hS hA hE [] rfl rfl) rfl rfl hl.1 rfl (lv_room (Nat.le_of_ble_eq_true rfl)) dJ0_checkIndex_df160_5 ⟨(Nat.le_of_ble_eq_true rfl), (Nat.le_of_ble_eq_true rfl)⟩) hP hD hS hA [] [] rfl rfl rfl (by decide) (fun r_1 u_2 H locs h_3 hP hD hS => ?_)
    subst h_3
    have hP : va_P g.1 vwCl [] H := hP
    have hD : va_D A [] := hD
    refine lv_pop hx hb dJ0_checkIndex_df160_8 rfl ?_
    exact he_rv hQ hx hb hr hlk hP hD hS dJ0_checkIndex_df160_9 (Nat.le_of_ble_eq_true rfl) (Nat.le_of_ble_eq_true rfl) (()) (rfl) (trivial)
  · refine va_gets hx hb hZ9 hS hown f1053 (fun _ h9 => h9) dJ0_checkIndex_df160_2 ?_
    refine he_ci (wc := []) (wr := []) (va_runS (As := [.int (nI k), .int (nI n), .ref t9]) (rest := []) ⟨hx, hb, hml, hown, hts⟩ (g_J3_checkIndexR l g k n t9 (by first | assumption | decide | omega) (by first | assumption | decide | omega) H.size) (va_cwS 3 hts gJ0_checkIndex_df160_J3_checkIndex_8e157 rfl rfl rfl (by decide +kernel) ⟨Nat.le_of_ble_eq_true rfl, Nat.le_of_ble_eq_true rfl⟩) (he_preS (wc := []) hK hP hD hS hA hE [] rfl rfl) rfl rfl hl.1 rfl (lv_room (Nat.le_of_ble_eq_true rfl)) dJ0_checkIndex_df160_5 ⟨(Nat.le_of_ble_eq_true rfl), (Nat.le_of_ble_eq_true rfl)⟩) hP hD hS hA [] [] rfl rfl rfl (by decide) (fun r_4 u_5 H locs h_6 hP hD hS => ?_)
    subst h_6
    have hP : va_P g.1 vwCl [] H := hP
    have hD : va_D A [] := hD
    refine lv_pop hx hb dJ0_checkIndex_df160_8 rfl ?_
    exact he_rv hQ hx hb hr hlk hP hD hS dJ0_checkIndex_df160_9 (Nat.le_of_ble_eq_true rfl) (Nat.le_of_ble_eq_true rfl) (()) (rfl) (trivial)
set_option maxHeartbeats 4000000 in
set_option maxRecDepth 100000 in
theorem g_J0_coder6 (l : Launch) (g : he_G)   : he_I l yJ0_coder_7d493 wsJ0_coder_7d493 0 0 0 0 g [.ref (g.2 10)] [] (fun (r : Int32) (u : Unit) => r = 0) (fun (u : Unit) => []) := by
  refine he_begin (l := l) (g := g) (y := yJ0_coder_7d493) (wl := wsJ0_coder_7d493) (fr := 0) (lo := 0) (mc := 0) (ms := 0) (av := [.ref (g.2 10)]) (ws := []) (cc := cJ0_coder_7d493) (maxL := 1) (ret := (some .byte)) (fun A => va_Qi (fun (r : Int32) (u : Unit) => r = 0) (fun u t => he_post g A ((fun (u : Unit) => []) u) t) A) (by decide) rfl (Nat.le_of_ble_eq_true rfl) ?_
  intro p e s m args below meth c A ls H locs Q hQ hB
  obtain ⟨hx, hb, hr, hml, hown, hts, hlk, hin, hP, hK, hD, hS, hA, hE, hl⟩ := hB
  have hl : lv_has ls 1 [(0, .ref (g.2 10))] := hl
  have f38 := hts (.fieldLink RJ0 38 "java/lang/String" "COMPACT_STRINGS" "Z") (iwoJ0_coder_7d493 (k := 0) rfl)
  have f15 := hts (.fieldLink RJ0 15 "java/lang/String" "coder" "B") (iwoJ0_coder_7d493 (k := 1) rfl)
  refine va_gets hx hb hE.words.1.1 hS hown f38 (fun _ h9 => h9) dJ0_coder_7d493_0 ?_
  refine lv_if_eq (tgt := 13) hx hb dJ0_coder_7d493_3 (by decide) (fun c_1 => ?_) (fun c_1 => ?_)
  · exact absurd c_1 (by decide)
  · refine lv_aload_n hx hb dJ0_coder_7d493_6 rfl (lv_at hl 0 rfl) ?_
    refine vk_getf (v := .int 0) hx hb hE.words.2.1.2.2.1 hS hown f15 (fun _ h9 => h9) dJ0_coder_7d493_7 ?_
    refine lv_goto (tgt := 14) hx hb dJ0_coder_7d493_10 (by decide) ?_
    exact he_rn hQ hx hb hr hlk hP hD hS dJ0_coder_7d493_14 (Nat.le_of_ble_eq_true rfl) (Nat.le_of_ble_eq_true rfl) rfl (()) (rfl) (rfl)
set_option maxHeartbeats 4000000 in
set_option maxRecDepth 100000 in
theorem g_J0_length6 (l : Launch) (g : he_G)   : he_I l yJ0_length_8abf5 wsJ0_length_8abf5 1 20 0 0 g [.ref (g.2 10)] [] (fun (r : Int32) (u : Unit) => r = 41) (fun (u : Unit) => []) := by
  refine he_begin (l := l) (g := g) (y := yJ0_length_8abf5) (wl := wsJ0_length_8abf5) (fr := 1) (lo := 20) (mc := 0) (ms := 0) (av := [.ref (g.2 10)]) (ws := []) (cc := cJ0_length_8abf5) (maxL := 1) (ret := (some .int)) (fun A => va_Qi (fun (r : Int32) (u : Unit) => r = 41) (fun u t => he_post g A ((fun (u : Unit) => []) u) t) A) (by decide) rfl (Nat.le_of_ble_eq_true rfl) ?_
  intro p e s m args below meth c A ls H locs Q hQ hB
  obtain ⟨hx, hb, hr, hml, hown, hts, hlk, hin, hP, hK, hD, hS, hA, hE, hl⟩ := hB
  have hl : lv_has ls 1 [(0, .ref (g.2 10))] := hl
  have f9 := hts (.fieldLink RJ0 9 "java/lang/String" "value" "[B") (iwoJ0_length_8abf5 (k := 0) rfl)
  refine lv_aload_n hx hb dJ0_length_8abf5_0 rfl (lv_at hl 0 rfl) ?_
  refine vk_getf (v := .ref (g.2 20)) hx hb hE.words.2.1.2.2.2.1 hS hown f9 (fun _ h9 => h9) dJ0_length_8abf5_1 ?_
  refine va_tlen (v := 41) hx hb hE.words.2.1.2.2.2.2 hS (by decide) dJ0_length_8abf5_4 ?_
  refine lv_aload_n hx hb dJ0_length_8abf5_5 rfl (lv_at hl 0 rfl) ?_
  refine he_ci (wc := []) (wr := []) (va_runV (As := []) (rest := [.int 41]) ⟨hx, hb, hml, hown, hts⟩ (g_J0_coder6 l g  H.size) (cwV 0 hts gJ0_length_8abf5_J0_coder_7d493 rfl rfl rfl (by decide +kernel) ⟨Nat.le_of_ble_eq_true rfl, Nat.le_of_ble_eq_true rfl⟩) (he_preO (wc := []) hK hP hD hS hA hE [] rfl rfl hE.words.2.1.2.1) rfl rfl hl.1 rfl (lv_room (Nat.le_of_ble_eq_true rfl)) dJ0_length_8abf5_6 ⟨(Nat.le_of_ble_eq_true rfl), (Nat.le_of_ble_eq_true rfl)⟩) hP hD hS hA [] [] rfl rfl rfl (by decide) (fun r_1 u_2 H locs h_3 hP hD hS => ?_)
  subst h_3
  have hP : va_P g.1 vwCl [] H := hP
  have hD : va_D A [] := hD
  refine lv_ishr hx hb dJ0_length_8abf5_9 ?_
  refine he_top (41) (by decide) ?_
  exact he_ri hQ hx hb hr hlk hP hD hS dJ0_length_8abf5_10 (Nat.le_of_ble_eq_true rfl) (Nat.le_of_ble_eq_true rfl) (()) (rfl) (rfl)
set_option maxHeartbeats 4000000 in
set_option maxRecDepth 100000 in
theorem g_J0_isLatin6 (l : Launch) (g : he_G)   : he_I l yJ0_isLatin1_aae02 wsJ0_isLatin1_aae02 0 0 0 0 g [.ref (g.2 10)] [] (fun (r : Int32) (u : Unit) => r = 1) (fun (u : Unit) => []) := by
  refine he_begin (l := l) (g := g) (y := yJ0_isLatin1_aae02) (wl := wsJ0_isLatin1_aae02) (fr := 0) (lo := 0) (mc := 0) (ms := 0) (av := [.ref (g.2 10)]) (ws := []) (cc := cJ0_isLatin1_aae02) (maxL := 1) (ret := (some .boolean)) (fun A => va_Qi (fun (r : Int32) (u : Unit) => r = 1) (fun u t => he_post g A ((fun (u : Unit) => []) u) t) A) (by decide) rfl (Nat.le_of_ble_eq_true rfl) ?_
  intro p e s m args below meth c A ls H locs Q hQ hB
  obtain ⟨hx, hb, hr, hml, hown, hts, hlk, hin, hP, hK, hD, hS, hA, hE, hl⟩ := hB
  have hl : lv_has ls 1 [(0, .ref (g.2 10))] := hl
  have f38 := hts (.fieldLink RJ0 38 "java/lang/String" "COMPACT_STRINGS" "Z") (iwoJ0_isLatin1_aae02 (k := 0) rfl)
  have f15 := hts (.fieldLink RJ0 15 "java/lang/String" "coder" "B") (iwoJ0_isLatin1_aae02 (k := 1) rfl)
  refine va_gets hx hb hE.words.1.1 hS hown f38 (fun _ h9 => h9) dJ0_isLatin1_aae02_0 ?_
  refine lv_if_eq (tgt := 17) hx hb dJ0_isLatin1_aae02_3 (by decide) (fun c_1 => ?_) (fun c_1 => ?_)
  · exact absurd c_1 (by decide)
  · refine lv_aload_n hx hb dJ0_isLatin1_aae02_6 rfl (lv_at hl 0 rfl) ?_
    refine vk_getf (v := .int 0) hx hb hE.words.2.1.2.2.1 hS hown f15 (fun _ h9 => h9) dJ0_isLatin1_aae02_7 ?_
    refine lv_if_ne (tgt := 17) hx hb dJ0_isLatin1_aae02_10 (by decide) (fun c_2 => ?_) (fun c_2 => ?_)
    · exact absurd (by decide) c_2
    · refine lv_iconst (v := 1) hx hb dJ0_isLatin1_aae02_13 (by decide) ?_
      refine lv_goto (tgt := 18) hx hb dJ0_isLatin1_aae02_14 (by decide) ?_
      exact he_rz hQ hx hb hr hlk hP hD hS dJ0_isLatin1_aae02_18 (Nat.le_of_ble_eq_true rfl) (Nat.le_of_ble_eq_true rfl) rfl (()) (rfl) (rfl)
set_option maxHeartbeats 4000000 in
set_option maxRecDepth 100000 in
theorem g_J1_charAt6 (l : Launch) (g : he_G) (k : Nat) (hk : k < 41) : he_I l yJ1_charAt_3b067 wsJ1_charAt_3b067 2 43 0 0 g [.ref (g.2 20), .int (nI k)] [] (fun (r : Int32) (u : Unit) => r = he_w6.getD k 0) (fun (u : Unit) => []) := by
  refine he_begin (l := l) (g := g) (y := yJ1_charAt_3b067) (wl := wsJ1_charAt_3b067) (fr := 2) (lo := 43) (mc := 0) (ms := 0) (av := [.ref (g.2 20), .int (nI k)]) (ws := []) (cc := cJ1_charAt_3b067) (maxL := 2) (ret := (some .char)) (fun A => va_Qi (fun (r : Int32) (u : Unit) => r = he_w6.getD k 0) (fun u t => he_post g A ((fun (u : Unit) => []) u) t) A) (by decide) rfl (Nat.le_of_ble_eq_true rfl) ?_
  intro p e s m args below meth c A ls H locs Q hQ hB
  obtain ⟨hx, hb, hr, hml, hown, hts, hlk, hin, hP, hK, hD, hS, hA, hE, hl⟩ := hB
  have hl : lv_has ls 2 [(0, .ref (g.2 20)), (1, .int (nI k))] := hl
  refine lv_iload_n hx hb dJ1_charAt_3b067_0 rfl (lv_at hl 1 rfl) ?_
  refine lv_aload_n hx hb dJ1_charAt_3b067_1 rfl (lv_at hl 0 rfl) ?_
  refine va_tlen (v := 41) hx hb hE.words.2.1.2.2.2.2 hS (by decide) dJ1_charAt_3b067_2 ?_
  refine he_cv (wc := []) (wr := []) (va_runS (As := [.int (nI k), .int 41]) (rest := []) ⟨hx, hb, hml, hown, hts⟩ (g_J0_checkIndex l g k 41 (by first | assumption | decide | omega) (by first | assumption | decide | omega) H.size) (va_cwS 2 hts gJ1_charAt_3b067_J0_checkIndex_df160 rfl rfl rfl (by decide +kernel) ⟨Nat.le_of_ble_eq_true rfl, Nat.le_of_ble_eq_true rfl⟩) (he_preS (wc := []) hK hP hD hS hA hE [] rfl rfl) rfl rfl hl.1 rfl (lv_room (Nat.le_of_ble_eq_true rfl)) dJ1_charAt_3b067_3 ⟨(Nat.le_of_ble_eq_true rfl), (Nat.le_of_ble_eq_true rfl)⟩) hP hD hS hA [] [] rfl rfl rfl (by decide) (fun u_2 H locs h_3 hP hD hS => ?_)
  have hP : va_P g.1 vwCl [] H := hP
  have hD : va_D A [] := hD
  refine lv_aload_n hx hb dJ1_charAt_3b067_6 rfl (lv_at hl 0 rfl) ?_
  refine lv_iload_n hx hb dJ1_charAt_3b067_7 rfl (lv_at hl 1 rfl) ?_
  refine he_tbld hx hb hE.words.2.1.2.2.2.2 hS (k) rfl (by first | assumption | decide | omega) (by decide) (he_w6.getD k 0) rfl dJ1_charAt_3b067_8 ?_
  refine lv_sipush (v := 255) hx hb dJ1_charAt_3b067_9 (by decide) ?_
  refine lv_iand hx hb dJ1_charAt_3b067_12 ?_
  refine lv_i2c (v := he_w6.getD k 0) hx hb dJ1_charAt_3b067_13 (he_ch6 k hk).1 ?_
  exact he_rn hQ hx hb hr hlk hP hD hS dJ1_charAt_3b067_14 (Nat.le_of_ble_eq_true rfl) (Nat.le_of_ble_eq_true rfl) (he_ch6 k hk).2 (()) (rfl) (rfl)
set_option maxHeartbeats 4000000 in
set_option maxRecDepth 100000 in
theorem g_J0_charAt6 (l : Launch) (g : he_G) (k : Nat) (hk : k < 41) : he_I l yJ0_charAt_5068e wsJ0_charAt_5068e 3 64 0 0 g [.ref (g.2 10), .int (nI k)] [] (fun (r : Int32) (u : Unit) => r = he_w6.getD k 0) (fun (u : Unit) => []) := by
  refine he_begin (l := l) (g := g) (y := yJ0_charAt_5068e) (wl := wsJ0_charAt_5068e) (fr := 3) (lo := 64) (mc := 0) (ms := 0) (av := [.ref (g.2 10), .int (nI k)]) (ws := []) (cc := cJ0_charAt_5068e) (maxL := 2) (ret := (some .char)) (fun A => va_Qi (fun (r : Int32) (u : Unit) => r = he_w6.getD k 0) (fun u t => he_post g A ((fun (u : Unit) => []) u) t) A) (by decide) rfl (Nat.le_of_ble_eq_true rfl) ?_
  intro p e s m args below meth c A ls H locs Q hQ hB
  obtain ⟨hx, hb, hr, hml, hown, hts, hlk, hin, hP, hK, hD, hS, hA, hE, hl⟩ := hB
  have hl : lv_has ls 2 [(0, .ref (g.2 10)), (1, .int (nI k))] := hl
  have f9 := hts (.fieldLink RJ0 9 "java/lang/String" "value" "[B") (iwoJ0_charAt_5068e (k := 0) rfl)
  refine lv_aload_n hx hb dJ0_charAt_5068e_0 rfl (lv_at hl 0 rfl) ?_
  refine he_ci (wc := []) (wr := []) (va_runV (As := []) (rest := []) ⟨hx, hb, hml, hown, hts⟩ (g_J0_isLatin6 l g  H.size) (cwV 0 hts gJ0_charAt_5068e_J0_isLatin1_aae02 rfl rfl rfl (by decide +kernel) ⟨Nat.le_of_ble_eq_true rfl, Nat.le_of_ble_eq_true rfl⟩) (he_preO (wc := []) hK hP hD hS hA hE [] rfl rfl hE.words.2.1.2.1) rfl rfl hl.1 rfl (lv_room (Nat.le_of_ble_eq_true rfl)) dJ0_charAt_5068e_1 ⟨(Nat.le_of_ble_eq_true rfl), (Nat.le_of_ble_eq_true rfl)⟩) hP hD hS hA [] [] rfl rfl rfl (by decide) (fun r_1 u_2 H locs h_3 hP hD hS => ?_)
  subst h_3
  have hP : va_P g.1 vwCl [] H := hP
  have hD : va_D A [] := hD
  refine lv_if_eq (tgt := 16) hx hb dJ0_charAt_5068e_4 (by decide) (fun c_4 => ?_) (fun c_4 => ?_)
  · exact absurd c_4 (by decide)
  · refine lv_aload_n hx hb dJ0_charAt_5068e_7 rfl (lv_at hl 0 rfl) ?_
    refine vk_getf (v := .ref (g.2 20)) hx hb hE.words.2.1.2.2.2.1 hS hown f9 (fun _ h9 => h9) dJ0_charAt_5068e_8 ?_
    refine lv_iload_n hx hb dJ0_charAt_5068e_11 rfl (lv_at hl 1 rfl) ?_
    refine he_ci (wc := []) (wr := []) (va_runS (As := [.ref (g.2 20), .int (nI k)]) (rest := []) ⟨hx, hb, hml, hown, hts⟩ (g_J1_charAt6 l g k (by first | assumption | decide | omega) H.size) (va_cwS 2 hts gJ0_charAt_5068e_J1_charAt_3b067 rfl rfl rfl (by decide +kernel) ⟨Nat.le_of_ble_eq_true rfl, Nat.le_of_ble_eq_true rfl⟩) (he_preS (wc := []) hK hP hD hS hA hE [] rfl rfl) rfl rfl hl.1 rfl (lv_room (Nat.le_of_ble_eq_true rfl)) dJ0_charAt_5068e_12 ⟨(Nat.le_of_ble_eq_true rfl), (Nat.le_of_ble_eq_true rfl)⟩) hP hD hS hA [] [] rfl rfl rfl (by decide) (fun r_5 u_6 H locs h_7 hP hD hS => ?_)
    subst h_7
    have hP : va_P g.1 vwCl [] H := hP
    have hD : va_D A [] := hD
    exact he_rn hQ hx hb hr hlk hP hD hS dJ0_charAt_5068e_15 (Nat.le_of_ble_eq_true rfl) (Nat.le_of_ble_eq_true rfl) (he_ch6 k hk).2 (()) (rfl) (rfl)
set_option maxHeartbeats 4000000 in
set_option maxRecDepth 100000 in
theorem g_J0_coder5 (l : Launch) (g : he_G)   : he_I l yJ0_coder_7d493 wsJ0_coder_7d493 0 0 0 0 g [.ref (g.2 11)] [] (fun (r : Int32) (u : Unit) => r = 0) (fun (u : Unit) => []) := by
  refine he_begin (l := l) (g := g) (y := yJ0_coder_7d493) (wl := wsJ0_coder_7d493) (fr := 0) (lo := 0) (mc := 0) (ms := 0) (av := [.ref (g.2 11)]) (ws := []) (cc := cJ0_coder_7d493) (maxL := 1) (ret := (some .byte)) (fun A => va_Qi (fun (r : Int32) (u : Unit) => r = 0) (fun u t => he_post g A ((fun (u : Unit) => []) u) t) A) (by decide) rfl (Nat.le_of_ble_eq_true rfl) ?_
  intro p e s m args below meth c A ls H locs Q hQ hB
  obtain ⟨hx, hb, hr, hml, hown, hts, hlk, hin, hP, hK, hD, hS, hA, hE, hl⟩ := hB
  have hl : lv_has ls 1 [(0, .ref (g.2 11))] := hl
  have f38 := hts (.fieldLink RJ0 38 "java/lang/String" "COMPACT_STRINGS" "Z") (iwoJ0_coder_7d493 (k := 0) rfl)
  have f15 := hts (.fieldLink RJ0 15 "java/lang/String" "coder" "B") (iwoJ0_coder_7d493 (k := 1) rfl)
  refine va_gets hx hb hE.words.1.1 hS hown f38 (fun _ h9 => h9) dJ0_coder_7d493_0 ?_
  refine lv_if_eq (tgt := 13) hx hb dJ0_coder_7d493_3 (by decide) (fun c_1 => ?_) (fun c_1 => ?_)
  · exact absurd c_1 (by decide)
  · refine lv_aload_n hx hb dJ0_coder_7d493_6 rfl (lv_at hl 0 rfl) ?_
    refine vk_getf (v := .int 0) hx hb hE.words.2.2.2.2.1 hS hown f15 (fun _ h9 => h9) dJ0_coder_7d493_7 ?_
    refine lv_goto (tgt := 14) hx hb dJ0_coder_7d493_10 (by decide) ?_
    exact he_rn hQ hx hb hr hlk hP hD hS dJ0_coder_7d493_14 (Nat.le_of_ble_eq_true rfl) (Nat.le_of_ble_eq_true rfl) rfl (()) (rfl) (rfl)
set_option maxHeartbeats 4000000 in
set_option maxRecDepth 100000 in
theorem g_J0_length5 (l : Launch) (g : he_G)   : he_I l yJ0_length_8abf5 wsJ0_length_8abf5 1 20 0 0 g [.ref (g.2 11)] [] (fun (r : Int32) (u : Unit) => r = 39) (fun (u : Unit) => []) := by
  refine he_begin (l := l) (g := g) (y := yJ0_length_8abf5) (wl := wsJ0_length_8abf5) (fr := 1) (lo := 20) (mc := 0) (ms := 0) (av := [.ref (g.2 11)]) (ws := []) (cc := cJ0_length_8abf5) (maxL := 1) (ret := (some .int)) (fun A => va_Qi (fun (r : Int32) (u : Unit) => r = 39) (fun u t => he_post g A ((fun (u : Unit) => []) u) t) A) (by decide) rfl (Nat.le_of_ble_eq_true rfl) ?_
  intro p e s m args below meth c A ls H locs Q hQ hB
  obtain ⟨hx, hb, hr, hml, hown, hts, hlk, hin, hP, hK, hD, hS, hA, hE, hl⟩ := hB
  have hl : lv_has ls 1 [(0, .ref (g.2 11))] := hl
  have f9 := hts (.fieldLink RJ0 9 "java/lang/String" "value" "[B") (iwoJ0_length_8abf5 (k := 0) rfl)
  refine lv_aload_n hx hb dJ0_length_8abf5_0 rfl (lv_at hl 0 rfl) ?_
  refine vk_getf (v := .ref (g.2 21)) hx hb hE.words.2.2.2.2.2.1 hS hown f9 (fun _ h9 => h9) dJ0_length_8abf5_1 ?_
  refine va_tlen (v := 39) hx hb hE.words.2.2.2.2.2.2 hS (by decide) dJ0_length_8abf5_4 ?_
  refine lv_aload_n hx hb dJ0_length_8abf5_5 rfl (lv_at hl 0 rfl) ?_
  refine he_ci (wc := []) (wr := []) (va_runV (As := []) (rest := [.int 39]) ⟨hx, hb, hml, hown, hts⟩ (g_J0_coder5 l g  H.size) (cwV 0 hts gJ0_length_8abf5_J0_coder_7d493 rfl rfl rfl (by decide +kernel) ⟨Nat.le_of_ble_eq_true rfl, Nat.le_of_ble_eq_true rfl⟩) (he_preO (wc := []) hK hP hD hS hA hE [] rfl rfl hE.words.2.2.2.1) rfl rfl hl.1 rfl (lv_room (Nat.le_of_ble_eq_true rfl)) dJ0_length_8abf5_6 ⟨(Nat.le_of_ble_eq_true rfl), (Nat.le_of_ble_eq_true rfl)⟩) hP hD hS hA [] [] rfl rfl rfl (by decide) (fun r_1 u_2 H locs h_3 hP hD hS => ?_)
  subst h_3
  have hP : va_P g.1 vwCl [] H := hP
  have hD : va_D A [] := hD
  refine lv_ishr hx hb dJ0_length_8abf5_9 ?_
  refine he_top (39) (by decide) ?_
  exact he_ri hQ hx hb hr hlk hP hD hS dJ0_length_8abf5_10 (Nat.le_of_ble_eq_true rfl) (Nat.le_of_ble_eq_true rfl) (()) (rfl) (rfl)
set_option maxHeartbeats 4000000 in
set_option maxRecDepth 100000 in
theorem g_J0_isLatin5 (l : Launch) (g : he_G)   : he_I l yJ0_isLatin1_aae02 wsJ0_isLatin1_aae02 0 0 0 0 g [.ref (g.2 11)] [] (fun (r : Int32) (u : Unit) => r = 1) (fun (u : Unit) => []) := by
  refine he_begin (l := l) (g := g) (y := yJ0_isLatin1_aae02) (wl := wsJ0_isLatin1_aae02) (fr := 0) (lo := 0) (mc := 0) (ms := 0) (av := [.ref (g.2 11)]) (ws := []) (cc := cJ0_isLatin1_aae02) (maxL := 1) (ret := (some .boolean)) (fun A => va_Qi (fun (r : Int32) (u : Unit) => r = 1) (fun u t => he_post g A ((fun (u : Unit) => []) u) t) A) (by decide) rfl (Nat.le_of_ble_eq_true rfl) ?_
  intro p e s m args below meth c A ls H locs Q hQ hB
  obtain ⟨hx, hb, hr, hml, hown, hts, hlk, hin, hP, hK, hD, hS, hA, hE, hl⟩ := hB
  have hl : lv_has ls 1 [(0, .ref (g.2 11))] := hl
  have f38 := hts (.fieldLink RJ0 38 "java/lang/String" "COMPACT_STRINGS" "Z") (iwoJ0_isLatin1_aae02 (k := 0) rfl)
  have f15 := hts (.fieldLink RJ0 15 "java/lang/String" "coder" "B") (iwoJ0_isLatin1_aae02 (k := 1) rfl)
  refine va_gets hx hb hE.words.1.1 hS hown f38 (fun _ h9 => h9) dJ0_isLatin1_aae02_0 ?_
  refine lv_if_eq (tgt := 17) hx hb dJ0_isLatin1_aae02_3 (by decide) (fun c_1 => ?_) (fun c_1 => ?_)
  · exact absurd c_1 (by decide)
  · refine lv_aload_n hx hb dJ0_isLatin1_aae02_6 rfl (lv_at hl 0 rfl) ?_
    refine vk_getf (v := .int 0) hx hb hE.words.2.2.2.2.1 hS hown f15 (fun _ h9 => h9) dJ0_isLatin1_aae02_7 ?_
    refine lv_if_ne (tgt := 17) hx hb dJ0_isLatin1_aae02_10 (by decide) (fun c_2 => ?_) (fun c_2 => ?_)
    · exact absurd (by decide) c_2
    · refine lv_iconst (v := 1) hx hb dJ0_isLatin1_aae02_13 (by decide) ?_
      refine lv_goto (tgt := 18) hx hb dJ0_isLatin1_aae02_14 (by decide) ?_
      exact he_rz hQ hx hb hr hlk hP hD hS dJ0_isLatin1_aae02_18 (Nat.le_of_ble_eq_true rfl) (Nat.le_of_ble_eq_true rfl) rfl (()) (rfl) (rfl)
set_option maxHeartbeats 4000000 in
set_option maxRecDepth 100000 in
theorem g_J1_charAt5 (l : Launch) (g : he_G) (k : Nat) (hk : k < 39) : he_I l yJ1_charAt_3b067 wsJ1_charAt_3b067 2 43 0 0 g [.ref (g.2 21), .int (nI k)] [] (fun (r : Int32) (u : Unit) => r = he_w5.getD k 0) (fun (u : Unit) => []) := by
  refine he_begin (l := l) (g := g) (y := yJ1_charAt_3b067) (wl := wsJ1_charAt_3b067) (fr := 2) (lo := 43) (mc := 0) (ms := 0) (av := [.ref (g.2 21), .int (nI k)]) (ws := []) (cc := cJ1_charAt_3b067) (maxL := 2) (ret := (some .char)) (fun A => va_Qi (fun (r : Int32) (u : Unit) => r = he_w5.getD k 0) (fun u t => he_post g A ((fun (u : Unit) => []) u) t) A) (by decide) rfl (Nat.le_of_ble_eq_true rfl) ?_
  intro p e s m args below meth c A ls H locs Q hQ hB
  obtain ⟨hx, hb, hr, hml, hown, hts, hlk, hin, hP, hK, hD, hS, hA, hE, hl⟩ := hB
  have hl : lv_has ls 2 [(0, .ref (g.2 21)), (1, .int (nI k))] := hl
  refine lv_iload_n hx hb dJ1_charAt_3b067_0 rfl (lv_at hl 1 rfl) ?_
  refine lv_aload_n hx hb dJ1_charAt_3b067_1 rfl (lv_at hl 0 rfl) ?_
  refine va_tlen (v := 39) hx hb hE.words.2.2.2.2.2.2 hS (by decide) dJ1_charAt_3b067_2 ?_
  refine he_cv (wc := []) (wr := []) (va_runS (As := [.int (nI k), .int 39]) (rest := []) ⟨hx, hb, hml, hown, hts⟩ (g_J0_checkIndex l g k 39 (by first | assumption | decide | omega) (by first | assumption | decide | omega) H.size) (va_cwS 2 hts gJ1_charAt_3b067_J0_checkIndex_df160 rfl rfl rfl (by decide +kernel) ⟨Nat.le_of_ble_eq_true rfl, Nat.le_of_ble_eq_true rfl⟩) (he_preS (wc := []) hK hP hD hS hA hE [] rfl rfl) rfl rfl hl.1 rfl (lv_room (Nat.le_of_ble_eq_true rfl)) dJ1_charAt_3b067_3 ⟨(Nat.le_of_ble_eq_true rfl), (Nat.le_of_ble_eq_true rfl)⟩) hP hD hS hA [] [] rfl rfl rfl (by decide) (fun u_2 H locs h_3 hP hD hS => ?_)
  have hP : va_P g.1 vwCl [] H := hP
  have hD : va_D A [] := hD
  refine lv_aload_n hx hb dJ1_charAt_3b067_6 rfl (lv_at hl 0 rfl) ?_
  refine lv_iload_n hx hb dJ1_charAt_3b067_7 rfl (lv_at hl 1 rfl) ?_
  refine he_tbld hx hb hE.words.2.2.2.2.2.2 hS (k) rfl (by first | assumption | decide | omega) (by decide) (he_w5.getD k 0) rfl dJ1_charAt_3b067_8 ?_
  refine lv_sipush (v := 255) hx hb dJ1_charAt_3b067_9 (by decide) ?_
  refine lv_iand hx hb dJ1_charAt_3b067_12 ?_
  refine lv_i2c (v := he_w5.getD k 0) hx hb dJ1_charAt_3b067_13 (he_ch5 k hk).1 ?_
  exact he_rn hQ hx hb hr hlk hP hD hS dJ1_charAt_3b067_14 (Nat.le_of_ble_eq_true rfl) (Nat.le_of_ble_eq_true rfl) (he_ch5 k hk).2 (()) (rfl) (rfl)
set_option maxHeartbeats 4000000 in
set_option maxRecDepth 100000 in
theorem g_J0_charAt5 (l : Launch) (g : he_G) (k : Nat) (hk : k < 39) : he_I l yJ0_charAt_5068e wsJ0_charAt_5068e 3 64 0 0 g [.ref (g.2 11), .int (nI k)] [] (fun (r : Int32) (u : Unit) => r = he_w5.getD k 0) (fun (u : Unit) => []) := by
  refine he_begin (l := l) (g := g) (y := yJ0_charAt_5068e) (wl := wsJ0_charAt_5068e) (fr := 3) (lo := 64) (mc := 0) (ms := 0) (av := [.ref (g.2 11), .int (nI k)]) (ws := []) (cc := cJ0_charAt_5068e) (maxL := 2) (ret := (some .char)) (fun A => va_Qi (fun (r : Int32) (u : Unit) => r = he_w5.getD k 0) (fun u t => he_post g A ((fun (u : Unit) => []) u) t) A) (by decide) rfl (Nat.le_of_ble_eq_true rfl) ?_
  intro p e s m args below meth c A ls H locs Q hQ hB
  obtain ⟨hx, hb, hr, hml, hown, hts, hlk, hin, hP, hK, hD, hS, hA, hE, hl⟩ := hB
  have hl : lv_has ls 2 [(0, .ref (g.2 11)), (1, .int (nI k))] := hl
  have f9 := hts (.fieldLink RJ0 9 "java/lang/String" "value" "[B") (iwoJ0_charAt_5068e (k := 0) rfl)
  refine lv_aload_n hx hb dJ0_charAt_5068e_0 rfl (lv_at hl 0 rfl) ?_
  refine he_ci (wc := []) (wr := []) (va_runV (As := []) (rest := []) ⟨hx, hb, hml, hown, hts⟩ (g_J0_isLatin5 l g  H.size) (cwV 0 hts gJ0_charAt_5068e_J0_isLatin1_aae02 rfl rfl rfl (by decide +kernel) ⟨Nat.le_of_ble_eq_true rfl, Nat.le_of_ble_eq_true rfl⟩) (he_preO (wc := []) hK hP hD hS hA hE [] rfl rfl hE.words.2.2.2.1) rfl rfl hl.1 rfl (lv_room (Nat.le_of_ble_eq_true rfl)) dJ0_charAt_5068e_1 ⟨(Nat.le_of_ble_eq_true rfl), (Nat.le_of_ble_eq_true rfl)⟩) hP hD hS hA [] [] rfl rfl rfl (by decide) (fun r_1 u_2 H locs h_3 hP hD hS => ?_)
  subst h_3
  have hP : va_P g.1 vwCl [] H := hP
  have hD : va_D A [] := hD
  refine lv_if_eq (tgt := 16) hx hb dJ0_charAt_5068e_4 (by decide) (fun c_4 => ?_) (fun c_4 => ?_)
  · exact absurd c_4 (by decide)
  · refine lv_aload_n hx hb dJ0_charAt_5068e_7 rfl (lv_at hl 0 rfl) ?_
    refine vk_getf (v := .ref (g.2 21)) hx hb hE.words.2.2.2.2.2.1 hS hown f9 (fun _ h9 => h9) dJ0_charAt_5068e_8 ?_
    refine lv_iload_n hx hb dJ0_charAt_5068e_11 rfl (lv_at hl 1 rfl) ?_
    refine he_ci (wc := []) (wr := []) (va_runS (As := [.ref (g.2 21), .int (nI k)]) (rest := []) ⟨hx, hb, hml, hown, hts⟩ (g_J1_charAt5 l g k (by first | assumption | decide | omega) H.size) (va_cwS 2 hts gJ0_charAt_5068e_J1_charAt_3b067 rfl rfl rfl (by decide +kernel) ⟨Nat.le_of_ble_eq_true rfl, Nat.le_of_ble_eq_true rfl⟩) (he_preS (wc := []) hK hP hD hS hA hE [] rfl rfl) rfl rfl hl.1 rfl (lv_room (Nat.le_of_ble_eq_true rfl)) dJ0_charAt_5068e_12 ⟨(Nat.le_of_ble_eq_true rfl), (Nat.le_of_ble_eq_true rfl)⟩) hP hD hS hA [] [] rfl rfl rfl (by decide) (fun r_5 u_6 H locs h_7 hP hD hS => ?_)
    subst h_7
    have hP : va_P g.1 vwCl [] H := hP
    have hD : va_D A [] := hD
    exact he_rn hQ hx hb hr hlk hP hD hS dJ0_charAt_5068e_15 (Nat.le_of_ble_eq_true rfl) (Nat.le_of_ble_eq_true rfl) (he_ch5 k hk).2 (()) (rfl) (rfl)
set_option maxHeartbeats 4000000 in
set_option maxRecDepth 100000 in
theorem g_X6_words (l : Launch) (g : he_G) (p0 : Nat) (p1 : Nat) (p2 : Nat) (p3 : Nat) (p4 : Nat) (w : Int32)  : he_O l yX6_words wsX6_words 0 0 0 0 g [.ref p0] [(oX6 p0 p1 p2 p3 p4 w)] (fun (r : Option Nat) (u : Unit) => r = some (g.2 10)) (fun (u : Unit) => [(oX6 p0 p1 p2 p3 p4 w)]) := by
  refine he_begin (l := l) (g := g) (y := yX6_words) (wl := wsX6_words) (fr := 0) (lo := 0) (mc := 0) (ms := 0) (av := [.ref p0]) (ws := [(oX6 p0 p1 p2 p3 p4 w)]) (cc := cX6_words) (maxL := 1) (ret := (some (.object "java/lang/String"))) (fun A => va_Qq (fun (r : Option Nat) (u : Unit) => r = some (g.2 10)) (fun u t => he_post g A ((fun (u : Unit) => [(oX6 p0 p1 p2 p3 p4 w)]) u) t) A) (by decide) rfl (Nat.le_of_ble_eq_true rfl) ?_
  intro p e s m args below meth c A ls H locs Q hQ hB
  obtain ⟨hx, hb, hr, hml, hown, hts, hlk, hin, hP, hK, hD, hS, hA, hE, hl⟩ := hB
  have hl : lv_has ls 1 [(0, .ref p0)] := hl
  refine va_ldcS hx hb hown hE.words.2.1.1 dX6_words_0 ?_
  exact he_ra hQ hx hb hr hlk hP hD hS dX6_words_2 (Nat.le_of_ble_eq_true rfl) (Nat.le_of_ble_eq_true rfl) (Or.inl ⟨_, rfl⟩) (some (g.2 10)) rfl (()) (rfl) (rfl)
set_option maxHeartbeats 4000000 in
set_option maxRecDepth 100000 in
theorem g_X5_words (l : Launch) (g : he_G) (t0 : Nat) (t1 : Nat) (t2 : Nat) (pw : Int32)  : he_O l yX5_words wsX5_words 0 0 0 0 g [.ref t0] [(oX5 t0 t1 t2 pw)] (fun (r : Option Nat) (u : Unit) => r = some (g.2 11)) (fun (u : Unit) => [(oX5 t0 t1 t2 pw)]) := by
  refine he_begin (l := l) (g := g) (y := yX5_words) (wl := wsX5_words) (fr := 0) (lo := 0) (mc := 0) (ms := 0) (av := [.ref t0]) (ws := [(oX5 t0 t1 t2 pw)]) (cc := cX5_words) (maxL := 1) (ret := (some (.object "java/lang/String"))) (fun A => va_Qq (fun (r : Option Nat) (u : Unit) => r = some (g.2 11)) (fun u t => he_post g A ((fun (u : Unit) => [(oX5 t0 t1 t2 pw)]) u) t) A) (by decide) rfl (Nat.le_of_ble_eq_true rfl) ?_
  intro p e s m args below meth c A ls H locs Q hQ hB
  obtain ⟨hx, hb, hr, hml, hown, hts, hlk, hin, hP, hK, hD, hS, hA, hE, hl⟩ := hB
  have hl : lv_has ls 1 [(0, .ref t0)] := hl
  refine va_ldcS hx hb hown hE.words.2.2.1 dX5_words_0 ?_
  exact he_ra hQ hx hb hr hlk hP hD hS dX5_words_2 (Nat.le_of_ble_eq_true rfl) (Nat.le_of_ble_eq_true rfl) (Or.inl ⟨_, rfl⟩) (some (g.2 11)) rfl (()) (rfl) (rfl)
end
section
/-- what a number read gives: within its bounds, where it was taken -/
theorem within_le {x a b : Int32} (h : ¬ he_within x a b = 0) : a ≤ x ∧ x ≤ b := by
  unfold he_within at h
  by_cases h1 : x < a
  · simp [h1] at h
  · by_cases h2 : b < x
    · simp [h1, h2] at h
    · exact ⟨Int32.not_lt.mp h1, Int32.not_lt.mp h2⟩
set_option maxHeartbeats 4000000 in
set_option maxRecDepth 100000 in
theorem g_X7_fail (l : Launch) (g : he_G) (z0 : Nat) (z1 : Nat) (y0 : Nat) (n : Nat) (k : Nat) (fa : Int32) (pl : Int32) (tp : Nat → Int32) (a : Int32) (b : Int32)  : he_I l yX7_fail wsX7_fail 0 0 0 0 g [.ref z0, .int a, .int b] [(oX7 z0 y0 (nI n) (nI k) fa pl z1), (aB g y0 500 tp)] (fun (r : Int32) (u : Unit) => r = 0) (fun (u : Unit) => [(oX7 z0 y0 (nI n) (nI k) a b z1), (aB g y0 500 tp)]) := by
  refine he_begin (l := l) (g := g) (y := yX7_fail) (wl := wsX7_fail) (fr := 0) (lo := 0) (mc := 0) (ms := 0) (av := [.ref z0, .int a, .int b]) (ws := [(oX7 z0 y0 (nI n) (nI k) fa pl z1), (aB g y0 500 tp)]) (cc := cX7_fail) (maxL := 3) (ret := (some .boolean)) (fun A => va_Qi (fun (r : Int32) (u : Unit) => r = 0) (fun u t => he_post g A ((fun (u : Unit) => [(oX7 z0 y0 (nI n) (nI k) a b z1), (aB g y0 500 tp)]) u) t) A) (by decide) rfl (Nat.le_of_ble_eq_true rfl) ?_
  intro p e s m args below meth c A ls H locs Q hQ hB
  obtain ⟨hx, hb, hr, hml, hown, hts, hlk, hin, hP, hK, hD, hS, hA, hE, hl⟩ := hB
  have hl : lv_has ls 3 [(0, .ref z0), (1, .int a), (2, .int b)] := hl
  have f35 := hts (.fieldLink RX7 35 "HiredEnemy$Reader" "fault" "I") (iwoX7_fail (k := 0) rfl)
  have inX7 : ∀ w ∈ wsX70, w ∈ wsX7_fail := innX7_fail_X7
  have f15 := hts (.fieldLink RX7 15 "HiredEnemy$Reader" "place" "I") (iwoX7_fail (k := 1) rfl)
  refine lv_aload_n hx hb dX7_fail_0 rfl (lv_at hl 0 rfl) ?_
  refine lv_iload_n hx hb dX7_fail_1 rfl (lv_at hl 1 rfl) ?_
  refine va_put (v := .int a) (ty := .int) (T := TX7) (N := 6) hx hb hts inX7 tyX7 tyX7_ok nmX7 hown hK hP hD hS 0 rfl rfl 3 (by decide) f35 (fun _ h9 => h9) rfl (by decide +kernel) rfl rfl (Nat.le_of_ble_eq_true rfl) dX7_fail_2 (fun H locs hP hD hS => ?_)
  have hP : va_P g.1 vwCl [(oX7 z0 y0 (nI n) (nI k) a pl z1), (aB g y0 500 tp)] H := hP
  have hD : va_D A [(oX7 z0 y0 (nI n) (nI k) a pl z1), (aB g y0 500 tp)] := hD
  refine lv_aload_n hx hb dX7_fail_5 rfl (lv_at hl 0 rfl) ?_
  refine lv_iload_n hx hb dX7_fail_6 rfl (lv_at hl 2 rfl) ?_
  refine va_put (v := .int b) (ty := .int) (T := TX7) (N := 6) hx hb hts inX7 tyX7 tyX7_ok nmX7 hown hK hP hD hS 0 rfl rfl 4 (by decide) f15 (fun _ h9 => h9) rfl (by decide +kernel) rfl rfl (Nat.le_of_ble_eq_true rfl) dX7_fail_7 (fun H locs hP hD hS => ?_)
  have hP : va_P g.1 vwCl [(oX7 z0 y0 (nI n) (nI k) a b z1), (aB g y0 500 tp)] H := hP
  have hD : va_D A [(oX7 z0 y0 (nI n) (nI k) a b z1), (aB g y0 500 tp)] := hD
  refine lv_iconst (v := 0) hx hb dX7_fail_10 (by decide) ?_
  exact he_rz hQ hx hb hr hlk hP hD hS dX7_fail_11 (Nat.le_of_ble_eq_true rfl) (Nat.le_of_ble_eq_true rfl) rfl (()) (rfl) (rfl)
end
