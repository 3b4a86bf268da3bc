def pasP (sd fn st me pd f : Nat → Int32) (mo : Int32) : Nat → Int32 := if payF pd mo ≤ taxF sd f 0 then tlF pd (psT sd st me 0 (frF (mvF (taxF sd f) 0 1 (payF pd mo)) (faF fn (pd 2)))) (mo + 1) else tlF pd (psT sd st me 0 (dfF (taxF sd f))) (mo + 1)
theorem upd_z (k : Nat) : upd (fun _ => (0 : Int32)) k 0 = fun _ => 0 := by funext j; unfold upd; split <;> rfl
def mfF (i j : Nat) : Int32 := if i = 0 ∨ j = 0 ∨ i = j then 1 else 0
set_option maxHeartbeats 4000000 in
set_option maxRecDepth 100000 in
theorem c_X0_keep (l : Launch) (g : he_G) (a0 : Nat) (a1 : Nat) (ln : Nat → Int32) (h0 : Nat) (q0 : Nat) (q1 : Nat) (k : Nat) (f : Nat → Int32) (hk : k < 120) : he_V l yX0_keep wsX0_keep 1 22 0 0 g [.ref a0, .ref h0] [(a0, .inr (0, [.ref a1])), (a1, .inl (g.2 1, 3600, .inl ln)), (h0, .inr (4, [.ref q0, .ref q1, .int (nI k)])), (q0, .inl (g.2 1, 24, .inl f))] (fun (u : Unit) => True) (fun (u : Unit) => [(a0, .inr (0, [.ref a1])), (a1, .inl (g.2 1, 3600, .inl (va_cpy f ln 0 (k * 30) 24))), (h0, .inr (4, [.ref q0, .ref q1, .int (nI k)])), (q0, .inl (g.2 1, 24, .inl f))]) := by
  refine he_begin (l := l) (g := g) (y := yX0_keep) (wl := wsX0_keep) (fr := 1) (lo := 22) (mc := 0) (ms := 0) (av := [.ref a0, .ref h0]) (ws := [(a0, .inr (0, [.ref a1])), (a1, .inl (g.2 1, 3600, .inl ln)), (h0, .inr (4, [.ref q0, .ref q1, .int (nI k)])), (q0, .inl (g.2 1, 24, .inl f))]) (cc := cX0_keep) (maxL := 2) (ret := none) (fun A => va_Qv (fun (u : Unit) => True) (fun u t => he_post g A ((fun (u : Unit) => [(a0, .inr (0, [.ref a1])), (a1, .inl (g.2 1, 3600, .inl (va_cpy f ln 0 (k * 30) 24))), (h0, .inr (4, [.ref q0, .ref q1, .int (nI k)])), (q0, .inl (g.2 1, 24, .inl f))]) u) t) A) (by decide) rfl (Nat.le_of_ble_eq_true rfl) ?_
  intro p e s m args below meth c A ls H locs Q hQ hB
  obtain ⟨hx, hb, hr, hml, hown, hts, hlk, hin, hP, hK, hD, hS, hA, hE, hl⟩ := hB
  have hl : lv_has ls 2 [(0, .ref a0), (1, .ref h0)] := hl
  have f15 := hts (.fieldLink RX0 15 "HiredEnemy$Course" "month" "I") (by decide +kernel)
  have inX4 : ∀ w ∈ wsX40, w ∈ wsX0_keep := by decide +kernel
  have nl21 := hE.nest (RX0, 21, yX10_within) (by decide +kernel)
  have iniX10 := hts (.initialized RX10) (by decide +kernel)
  have st_yX10_within := hts (.static yX10_within) (by decide +kernel)
  have f25 := hts (.fieldLink RX0 25 "HiredEnemy$Course" "now" "[I") (by decide +kernel)
  have f11 := hts (.fieldLink RX0 11 "HiredEnemy$Annals" "lines" "[I") (by decide +kernel)
  have inX0 : ∀ w ∈ wsX00, w ∈ wsX0_keep := by decide +kernel
  have al28 := hts (.methodLink RX0 28 arraycopyName) (by decide +kernel)
  have an := hts (.native arraycopyName) (by decide +kernel)
  have ast := hts (.static arraycopyName) (by decide +kernel)
  have ai := hts (.initialized "java/lang/System") (by decide +kernel)
  refine lv_aload_n hx hb dX0_keep_0 rfl (lv_at hl 1 rfl) ?_
  refine va_get (v := .int (nI k)) (T := TX4) (N := 3) hx hb hts inX4 hown hK hP 2 rfl rfl 2 (by decide) f15 (fun _ h9 => h9) rfl dX0_keep_1 ?_
  refine lv_iconst (v := 0) hx hb dX0_keep_4 (by decide) ?_
  refine lv_bipush (v := 119) hx hb dX0_keep_5 (by decide) ?_
  refine he_ci (wc := []) (wr := [(a0, .inr (0, [.ref a1])), (a1, .inl (g.2 1, 3600, .inl ln)), (h0, .inr (4, [.ref q0, .ref q1, .int (nI k)])), (q0, .inl (g.2 1, 24, .inl f))]) (va_runSN (As := [.int (nI k), .int 0, .int 119]) (rest := []) ⟨hx, hb, hml, hown, hts⟩ (c_X10_within l g (nI k) 0 119 H.size) ⟨(va_cnB 3 hts gX0_keep_X10_within_n21 rfl rfl rfl nl21 iniX10 (by decide +kernel) ⟨Nat.le_of_ble_eq_true rfl, Nat.le_of_ble_eq_true rfl⟩), st_yX10_within, trivial⟩ (he_preS (wc := []) hK hP hD hS hA hE [] rfl rfl) rfl rfl hl.1 rfl (lv_room (Nat.le_of_ble_eq_true rfl)) dX0_keep_7 ⟨(Nat.le_of_ble_eq_true rfl), (Nat.le_of_ble_eq_true rfl)⟩) hP hD hS hA [] [0, 1, 2, 3] rfl rfl rfl (by decide) (fun r_1 u_2 H locs h_3 hP hD hS => ?_)
  subst h_3
  have hP : va_P g.1 vwCl [(a0, .inr (0, [.ref a1])), (a1, .inl (g.2 1, 3600, .inl ln)), (h0, .inr (4, [.ref q0, .ref q1, .int (nI k)])), (q0, .inl (g.2 1, 24, .inl f))] H := hP
  have hD : va_D A [(a0, .inr (0, [.ref a1])), (a1, .inl (g.2 1, 3600, .inl ln)), (h0, .inr (4, [.ref q0, .ref q1, .int (nI k)])), (q0, .inl (g.2 1, 24, .inl f))] := hD
  refine he_top (1) (he_within_in (a0 := 0) (B := 119) rfl rfl (by omega) (by omega) (by decide)) ?_
  refine lv_if_eq (tgt := 34) hx hb dX0_keep_10 (by decide) (fun c_4 => ?_) (fun c_4 => ?_)
  · exact absurd c_4 (by decide)
  · refine lv_aload_n hx hb dX0_keep_13 rfl (lv_at hl 1 rfl) ?_
    refine va_get (v := .ref q0) (T := TX4) (N := 3) hx hb hts inX4 hown hK hP 2 rfl rfl 0 (by decide) f25 (fun _ h9 => h9) rfl dX0_keep_14 ?_
    refine lv_iconst (v := 0) hx hb dX0_keep_17 (by decide) ?_
    refine lv_aload_n hx hb dX0_keep_18 rfl (lv_at hl 0 rfl) ?_
    refine va_get (v := .ref a1) (T := TX0) (N := 1) hx hb hts inX0 hown hK hP 0 rfl rfl 0 (by decide) f11 (fun _ h9 => h9) rfl dX0_keep_19 ?_
    refine lv_aload_n hx hb dX0_keep_22 rfl (lv_at hl 1 rfl) ?_
    refine va_get (v := .int (nI k)) (T := TX4) (N := 3) hx hb hts inX4 hown hK hP 2 rfl rfl 2 (by decide) f15 (fun _ h9 => h9) rfl dX0_keep_23 ?_
    refine lv_bipush (v := 30) hx hb dX0_keep_26 (by decide) ?_
    refine lv_imul hx hb dX0_keep_28 ?_
    refine he_top (nI (k * 30)) (pk_mul k 30) ?_
    refine lv_bipush (v := 24) hx hb dX0_keep_29 (by decide) ?_
    refine he_copy hx hb (by rw [hml]; exact hl.1.symm) hown al28 an ast ai hK hP hD hS 3 1 rfl rfl (0) (k * 30) (24) (by decide) rfl (by decide) (by first | decide | omega) (by first | decide | omega) (by decide) (by decide) (Nat.le_of_ble_eq_true rfl) (Nat.le_of_ble_eq_true rfl) dX0_keep_31 (fun H locs hP hD hS => ?_)
    have hP : va_P g.1 vwCl [(a0, .inr (0, [.ref a1])), (a1, .inl (g.2 1, 3600, .inl (va_cpy f ln 0 (k * 30) 24))), (h0, .inr (4, [.ref q0, .ref q1, .int (nI k)])), (q0, .inl (g.2 1, 24, .inl f))] H := hP
    have hD : va_D A [(a0, .inr (0, [.ref a1])), (a1, .inl (g.2 1, 3600, .inl (va_cpy f ln 0 (k * 30) 24))), (h0, .inr (4, [.ref q0, .ref q1, .int (nI k)])), (q0, .inl (g.2 1, 24, .inl f))] := hD
    exact he_rv hQ hx hb hr hlk hP hD hS dX0_keep_34 (Nat.le_of_ble_eq_true rfl) (Nat.le_of_ble_eq_true rfl) (()) (rfl) (trivial)
set_option maxHeartbeats 4000000 in
set_option maxRecDepth 100000 in
theorem c_X0_lead (l : Launch) (g : he_G) (a0 : Nat) (a1 : Nat) (ln : Nat → Int32) (h0 : Nat) (q0 : Nat) (q1 : Nat) (k : Nat) (sh : Nat → Int32) (hk : k < 120) : he_V l yX0_lead wsX0_lead 1 22 0 0 g [.ref a0, .ref h0] [(a0, .inr (0, [.ref a1])), (a1, .inl (g.2 1, 3600, .inl ln)), (h0, .inr (4, [.ref q0, .ref q1, .int (nI (k + 1))])), (q1, .inl (g.2 1, 6, .inl sh))] (fun (u : Unit) => True) (fun (u : Unit) => [(a0, .inr (0, [.ref a1])), (a1, .inl (g.2 1, 3600, .inl (va_cpy sh ln 0 (k * 30 + 24) 6))), (h0, .inr (4, [.ref q0, .ref q1, .int (nI (k + 1))])), (q1, .inl (g.2 1, 6, .inl sh))]) := by
  refine he_begin (l := l) (g := g) (y := yX0_lead) (wl := wsX0_lead) (fr := 1) (lo := 22) (mc := 0) (ms := 0) (av := [.ref a0, .ref h0]) (ws := [(a0, .inr (0, [.ref a1])), (a1, .inl (g.2 1, 3600, .inl ln)), (h0, .inr (4, [.ref q0, .ref q1, .int (nI (k + 1))])), (q1, .inl (g.2 1, 6, .inl sh))]) (cc := cX0_lead) (maxL := 2) (ret := none) (fun A => va_Qv (fun (u : Unit) => True) (fun u t => he_post g A ((fun (u : Unit) => [(a0, .inr (0, [.ref a1])), (a1, .inl (g.2 1, 3600, .inl (va_cpy sh ln 0 (k * 30 + 24) 6))), (h0, .inr (4, [.ref q0, .ref q1, .int (nI (k + 1))])), (q1, .inl (g.2 1, 6, .inl sh))]) u) t) A) (by decide) rfl (Nat.le_of_ble_eq_true rfl) ?_
  intro p e s m args below meth c A ls H locs Q hQ hB
  obtain ⟨hx, hb, hr, hml, hown, hts, hlk, hin, hP, hK, hD, hS, hA, hE, hl⟩ := hB
  have hl : lv_has ls 2 [(0, .ref a0), (1, .ref h0)] := hl
  have f15 := hts (.fieldLink RX0 15 "HiredEnemy$Course" "month" "I") (by decide +kernel)
  have inX4 : ∀ w ∈ wsX40, w ∈ wsX0_lead := by decide +kernel
  have nl21 := hE.nest (RX0, 21, yX10_within) (by decide +kernel)
  have iniX10 := hts (.initialized RX10) (by decide +kernel)
  have st_yX10_within := hts (.static yX10_within) (by decide +kernel)
  have f34 := hts (.fieldLink RX0 34 "HiredEnemy$Course" "shot" "[I") (by decide +kernel)
  have f11 := hts (.fieldLink RX0 11 "HiredEnemy$Annals" "lines" "[I") (by decide +kernel)
  have inX0 : ∀ w ∈ wsX00, w ∈ wsX0_lead := by decide +kernel
  have al28 := hts (.methodLink RX0 28 arraycopyName) (by decide +kernel)
  have an := hts (.native arraycopyName) (by decide +kernel)
  have ast := hts (.static arraycopyName) (by decide +kernel)
  have ai := hts (.initialized "java/lang/System") (by decide +kernel)
  refine lv_aload_n hx hb dX0_lead_0 rfl (lv_at hl 1 rfl) ?_
  refine va_get (v := .int (nI (k + 1))) (T := TX4) (N := 3) hx hb hts inX4 hown hK hP 2 rfl rfl 2 (by decide) f15 (fun _ h9 => h9) rfl dX0_lead_1 ?_
  refine lv_iconst (v := 1) hx hb dX0_lead_4 (by decide) ?_
  refine lv_bipush (v := 120) hx hb dX0_lead_5 (by decide) ?_
  refine he_ci (wc := []) (wr := [(a0, .inr (0, [.ref a1])), (a1, .inl (g.2 1, 3600, .inl ln)), (h0, .inr (4, [.ref q0, .ref q1, .int (nI (k + 1))])), (q1, .inl (g.2 1, 6, .inl sh))]) (va_runSN (As := [.int (nI (k + 1)), .int 1, .int 120]) (rest := []) ⟨hx, hb, hml, hown, hts⟩ (c_X10_within l g (nI (k + 1)) 1 120 H.size) ⟨(va_cnB 3 hts gX0_lead_X10_within_n21 rfl rfl rfl nl21 iniX10 (by decide +kernel) ⟨Nat.le_of_ble_eq_true rfl, Nat.le_of_ble_eq_true rfl⟩), st_yX10_within, trivial⟩ (he_preS (wc := []) hK hP hD hS hA hE [] rfl rfl) rfl rfl hl.1 rfl (lv_room (Nat.le_of_ble_eq_true rfl)) dX0_lead_7 ⟨(Nat.le_of_ble_eq_true rfl), (Nat.le_of_ble_eq_true rfl)⟩) hP hD hS hA [] [0, 1, 2, 3] rfl rfl rfl (by decide) (fun r_1 u_2 H locs h_3 hP hD hS => ?_)
  subst h_3
  have hP : va_P g.1 vwCl [(a0, .inr (0, [.ref a1])), (a1, .inl (g.2 1, 3600, .inl ln)), (h0, .inr (4, [.ref q0, .ref q1, .int (nI (k + 1))])), (q1, .inl (g.2 1, 6, .inl sh))] H := hP
  have hD : va_D A [(a0, .inr (0, [.ref a1])), (a1, .inl (g.2 1, 3600, .inl ln)), (h0, .inr (4, [.ref q0, .ref q1, .int (nI (k + 1))])), (q1, .inl (g.2 1, 6, .inl sh))] := hD
  refine he_top (1) (he_within_in (a0 := 1) (B := 120) rfl rfl (by omega) (by omega) (by decide)) ?_
  refine lv_if_eq (tgt := 39) hx hb dX0_lead_10 (by decide) (fun c_4 => ?_) (fun c_4 => ?_)
  · exact absurd c_4 (by decide)
  · refine lv_aload_n hx hb dX0_lead_13 rfl (lv_at hl 1 rfl) ?_
    refine va_get (v := .ref q1) (T := TX4) (N := 3) hx hb hts inX4 hown hK hP 2 rfl rfl 1 (by decide) f34 (fun _ h9 => h9) rfl dX0_lead_14 ?_
    refine lv_iconst (v := 0) hx hb dX0_lead_17 (by decide) ?_
    refine lv_aload_n hx hb dX0_lead_18 rfl (lv_at hl 0 rfl) ?_
    refine va_get (v := .ref a1) (T := TX0) (N := 1) hx hb hts inX0 hown hK hP 0 rfl rfl 0 (by decide) f11 (fun _ h9 => h9) rfl dX0_lead_19 ?_
    refine lv_aload_n hx hb dX0_lead_22 rfl (lv_at hl 1 rfl) ?_
    refine va_get (v := .int (nI (k + 1))) (T := TX4) (N := 3) hx hb hts inX4 hown hK hP 2 rfl rfl 2 (by decide) f15 (fun _ h9 => h9) rfl dX0_lead_23 ?_
    refine lv_iconst (v := 1) hx hb dX0_lead_26 (by decide) ?_
    refine lv_isub hx hb dX0_lead_27 ?_
    refine he_top (nI k) (nI_pred k) ?_
    refine lv_bipush (v := 30) hx hb dX0_lead_28 (by decide) ?_
    refine lv_imul hx hb dX0_lead_30 ?_
    refine he_top (nI (k * 30)) (pk_mul k 30) ?_
    refine lv_bipush (v := 24) hx hb dX0_lead_31 (by decide) ?_
    refine lv_iadd hx hb dX0_lead_33 ?_
    refine he_top (nI (k * 30 + 24)) (nI_add (k * 30) 24) ?_
    refine lv_bipush (v := 6) hx hb dX0_lead_34 (by decide) ?_
    refine he_copy hx hb (by rw [hml]; exact hl.1.symm) hown al28 an ast ai hK hP hD hS 3 1 rfl rfl (0) (k * 30 + 24) (6) (by decide) rfl (by decide) (by first | decide | omega) (by first | decide | omega) (by decide) (by decide) (Nat.le_of_ble_eq_true rfl) (Nat.le_of_ble_eq_true rfl) dX0_lead_36 (fun H locs hP hD hS => ?_)
    have hP : va_P g.1 vwCl [(a0, .inr (0, [.ref a1])), (a1, .inl (g.2 1, 3600, .inl (va_cpy sh ln 0 (k * 30 + 24) 6))), (h0, .inr (4, [.ref q0, .ref q1, .int (nI (k + 1))])), (q1, .inl (g.2 1, 6, .inl sh))] H := hP
    have hD : va_D A [(a0, .inr (0, [.ref a1])), (a1, .inl (g.2 1, 3600, .inl (va_cpy sh ln 0 (k * 30 + 24) 6))), (h0, .inr (4, [.ref q0, .ref q1, .int (nI (k + 1))])), (q1, .inl (g.2 1, 6, .inl sh))] := hD
    exact he_rv hQ hx hb hr hlk hP hD hS dX0_lead_39 (Nat.le_of_ble_eq_true rfl) (Nat.le_of_ble_eq_true rfl) (()) (rfl) (trivial)
set_option maxHeartbeats 4000000 in
set_option maxRecDepth 100000 in
theorem c_X0_take (l : Launch) (g : he_G) (a0 : Nat) (a1 : Nat) (ln : Nat → Int32) (b0 : Nat) (b1 : Nat) (ln1 : Nat → Int32) (k : Nat) (hk : k ≤ 120) : he_V l yX0_take wsX0_take 1 22 0 0 g [.ref a0, .ref b0, .int (nI k)] [(a0, .inr (0, [.ref a1])), (a1, .inl (g.2 1, 3600, .inl ln)), (b0, .inr (0, [.ref b1])), (b1, .inl (g.2 1, 3600, .inl ln1))] (fun (u : Unit) => True) (fun (u : Unit) => [(a0, .inr (0, [.ref a1])), (a1, .inl (g.2 1, 3600, .inl (va_cpy ln1 ln 0 0 (k * 30)))), (b0, .inr (0, [.ref b1])), (b1, .inl (g.2 1, 3600, .inl ln1))]) := by
  refine he_begin (l := l) (g := g) (y := yX0_take) (wl := wsX0_take) (fr := 1) (lo := 22) (mc := 0) (ms := 0) (av := [.ref a0, .ref b0, .int (nI k)]) (ws := [(a0, .inr (0, [.ref a1])), (a1, .inl (g.2 1, 3600, .inl ln)), (b0, .inr (0, [.ref b1])), (b1, .inl (g.2 1, 3600, .inl ln1))]) (cc := cX0_take) (maxL := 3) (ret := none) (fun A => va_Qv (fun (u : Unit) => True) (fun u t => he_post g A ((fun (u : Unit) => [(a0, .inr (0, [.ref a1])), (a1, .inl (g.2 1, 3600, .inl (va_cpy ln1 ln 0 0 (k * 30)))), (b0, .inr (0, [.ref b1])), (b1, .inl (g.2 1, 3600, .inl ln1))]) u) t) A) (by decide) rfl (Nat.le_of_ble_eq_true rfl) ?_
  intro p e s m args below meth c A ls H locs Q hQ hB
  obtain ⟨hx, hb, hr, hml, hown, hts, hlk, hin, hP, hK, hD, hS, hA, hE, hl⟩ := hB
  have hl : lv_has ls 3 [(0, .ref a0), (1, .ref b0), (2, .int (nI k))] := hl
  have nl21 := hE.nest (RX0, 21, yX10_within) (by decide +kernel)
  have iniX10 := hts (.initialized RX10) (by decide +kernel)
  have st_yX10_within := hts (.static yX10_within) (by decide +kernel)
  have f11 := hts (.fieldLink RX0 11 "HiredEnemy$Annals" "lines" "[I") (by decide +kernel)
  have inX0 : ∀ w ∈ wsX00, w ∈ wsX0_take := by decide +kernel
  have al28 := hts (.methodLink RX0 28 arraycopyName) (by decide +kernel)
  have an := hts (.native arraycopyName) (by decide +kernel)
  have ast := hts (.static arraycopyName) (by decide +kernel)
  have ai := hts (.initialized "java/lang/System") (by decide +kernel)
  refine lv_iload_n hx hb dX0_take_0 rfl (lv_at hl 2 rfl) ?_
  refine lv_iconst (v := 0) hx hb dX0_take_1 (by decide) ?_
  refine lv_bipush (v := 120) hx hb dX0_take_2 (by decide) ?_
  refine he_ci (wc := []) (wr := [(a0, .inr (0, [.ref a1])), (a1, .inl (g.2 1, 3600, .inl ln)), (b0, .inr (0, [.ref b1])), (b1, .inl (g.2 1, 3600, .inl ln1))]) (va_runSN (As := [.int (nI k), .int 0, .int 120]) (rest := []) ⟨hx, hb, hml, hown, hts⟩ (c_X10_within l g (nI k) 0 120 H.size) ⟨(va_cnB 3 hts gX0_take_X10_within_n21 rfl rfl rfl nl21 iniX10 (by decide +kernel) ⟨Nat.le_of_ble_eq_true rfl, Nat.le_of_ble_eq_true rfl⟩), st_yX10_within, trivial⟩ (he_preS (wc := []) hK hP hD hS hA hE [] rfl rfl) rfl rfl hl.1 rfl (lv_room (Nat.le_of_ble_eq_true rfl)) dX0_take_4 ⟨(Nat.le_of_ble_eq_true rfl), (Nat.le_of_ble_eq_true rfl)⟩) hP hD hS hA [] [0, 1, 2, 3] rfl rfl rfl (by decide) (fun r_1 u_2 H locs h_3 hP hD hS => ?_)
  subst h_3
  have hP : va_P g.1 vwCl [(a0, .inr (0, [.ref a1])), (a1, .inl (g.2 1, 3600, .inl ln)), (b0, .inr (0, [.ref b1])), (b1, .inl (g.2 1, 3600, .inl ln1))] H := hP
  have hD : va_D A [(a0, .inr (0, [.ref a1])), (a1, .inl (g.2 1, 3600, .inl ln)), (b0, .inr (0, [.ref b1])), (b1, .inl (g.2 1, 3600, .inl ln1))] := hD
  refine he_top (1) (he_within_in (a0 := 0) (B := 120) rfl rfl (by omega) (by omega) (by decide)) ?_
  refine lv_if_eq (tgt := 27) hx hb dX0_take_7 (by decide) (fun c_4 => ?_) (fun c_4 => ?_)
  · exact absurd c_4 (by decide)
  · refine lv_aload_n hx hb dX0_take_10 rfl (lv_at hl 1 rfl) ?_
    refine va_get (v := .ref b1) (T := TX0) (N := 1) hx hb hts inX0 hown hK hP 2 rfl rfl 0 (by decide) f11 (fun _ h9 => h9) rfl dX0_take_11 ?_
    refine lv_iconst (v := 0) hx hb dX0_take_14 (by decide) ?_
    refine lv_aload_n hx hb dX0_take_15 rfl (lv_at hl 0 rfl) ?_
    refine va_get (v := .ref a1) (T := TX0) (N := 1) hx hb hts inX0 hown hK hP 0 rfl rfl 0 (by decide) f11 (fun _ h9 => h9) rfl dX0_take_16 ?_
    refine lv_iconst (v := 0) hx hb dX0_take_19 (by decide) ?_
    refine lv_iload_n hx hb dX0_take_20 rfl (lv_at hl 2 rfl) ?_
    refine lv_bipush (v := 30) hx hb dX0_take_21 (by decide) ?_
    refine lv_imul hx hb dX0_take_23 ?_
    refine he_top (nI (k * 30)) (pk_mul k 30) ?_
    refine he_copy hx hb (by rw [hml]; exact hl.1.symm) hown al28 an ast ai hK hP hD hS 3 1 rfl rfl (0) (0) (k * 30) (by decide) (by decide) rfl (by first | decide | omega) (by first | decide | omega) (by decide) (by decide) (Nat.le_of_ble_eq_true rfl) (Nat.le_of_ble_eq_true rfl) dX0_take_24 (fun H locs hP hD hS => ?_)
    have hP : va_P g.1 vwCl [(a0, .inr (0, [.ref a1])), (a1, .inl (g.2 1, 3600, .inl (va_cpy ln1 ln 0 0 (k * 30)))), (b0, .inr (0, [.ref b1])), (b1, .inl (g.2 1, 3600, .inl ln1))] H := hP
    have hD : va_D A [(a0, .inr (0, [.ref a1])), (a1, .inl (g.2 1, 3600, .inl (va_cpy ln1 ln 0 0 (k * 30)))), (b0, .inr (0, [.ref b1])), (b1, .inl (g.2 1, 3600, .inl ln1))] := hD
    exact he_rv hQ hx hb hr hlk hP hD hS dX0_take_27 (Nat.le_of_ble_eq_true rfl) (Nat.le_of_ble_eq_true rfl) (()) (rfl) (trivial)
set_option maxHeartbeats 4000000 in
set_option maxRecDepth 100000 in
theorem c_X2_forget (l : Launch) (g : he_G) (b0 : Nat) (b1 : Nat) (b2 : Nat) (x : Int32) (y : Int32) (rl : Int64) (hd : Int64) (th : Int32)  : he_V l yX2_forget wsX2_forget 0 0 0 0 g [.ref b0] [(b0, .inr (2, [.ref b1, .ref b2, .int x, .int y, .long rl, .long hd, .int th]))] (fun (u : Unit) => True) (fun (u : Unit) => [(b0, .inr (2, [.ref b1, .ref b2, .int x, .int y, .long (Int32.toInt64 x), .long (Int32.toInt64 y), .int 0]))]) := by
  refine he_begin (l := l) (g := g) (y := yX2_forget) (wl := wsX2_forget) (fr := 0) (lo := 0) (mc := 0) (ms := 0) (av := [.ref b0]) (ws := [(b0, .inr (2, [.ref b1, .ref b2, .int x, .int y, .long rl, .long hd, .int th]))]) (cc := cX2_forget) (maxL := 1) (ret := none) (fun A => va_Qv (fun (u : Unit) => True) (fun u t => he_post g A ((fun (u : Unit) => [(b0, .inr (2, [.ref b1, .ref b2, .int x, .int y, .long (Int32.toInt64 x), .long (Int32.toInt64 y), .int 0]))]) u) t) A) (by decide) rfl (Nat.le_of_ble_eq_true rfl) ?_
  intro p e s m args below meth c A ls H locs Q hQ hB
  obtain ⟨hx, hb, hr, hml, hown, hts, hlk, hin, hP, hK, hD, hS, hA, hE, hl⟩ := hB
  have hl : lv_has ls 1 [(0, .ref b0)] := hl
  have f16 := hts (.fieldLink RX2 16 "HiredEnemy$Belief" "firstReal" "I") (by decide +kernel)
  have inX2 : ∀ w ∈ wsX20, w ∈ wsX2_forget := by decide +kernel
  have f23 := hts (.fieldLink RX2 23 "HiredEnemy$Belief" "real" "J") (by decide +kernel)
  have f20 := hts (.fieldLink RX2 20 "HiredEnemy$Belief" "firstHired" "I") (by decide +kernel)
  have f27 := hts (.fieldLink RX2 27 "HiredEnemy$Belief" "hired" "J") (by decide +kernel)
  have f33 := hts (.fieldLink RX2 33 "HiredEnemy$Belief" "things" "I") (by decide +kernel)
  refine lv_aload_n hx hb dX2_forget_0 rfl (lv_at hl 0 rfl) ?_
  refine lv_aload_n hx hb dX2_forget_1 rfl (lv_at hl 0 rfl) ?_
  refine va_get (v := .int x) (T := TX2) (N := 7) hx hb hts inX2 hown hK hP 0 rfl rfl 2 (by decide) f16 (fun _ h9 => h9) rfl dX2_forget_2 ?_
  refine lv_i2l (v := Int32.toInt64 x) hx hb dX2_forget_5 rfl ?_
  refine va_put (v := .long (Int32.toInt64 x)) (ty := .long) (T := TX2) (N := 7) hx hb hts inX2 tyX2 tyX2_ok nmX2 hown hK hP hD hS 0 rfl rfl 4 (by decide) f23 (fun _ h9 => h9) rfl (by decide +kernel) rfl rfl (Nat.le_of_ble_eq_true rfl) dX2_forget_6 (fun H locs hP hD hS => ?_)
  have hP : va_P g.1 vwCl [(b0, .inr (2, [.ref b1, .ref b2, .int x, .int y, .long (Int32.toInt64 x), .long hd, .int th]))] H := hP
  have hD : va_D A [(b0, .inr (2, [.ref b1, .ref b2, .int x, .int y, .long (Int32.toInt64 x), .long hd, .int th]))] := hD
  refine lv_aload_n hx hb dX2_forget_9 rfl (lv_at hl 0 rfl) ?_
  refine lv_aload_n hx hb dX2_forget_10 rfl (lv_at hl 0 rfl) ?_
  refine va_get (v := .int y) (T := TX2) (N := 7) hx hb hts inX2 hown hK hP 0 rfl rfl 3 (by decide) f20 (fun _ h9 => h9) rfl dX2_forget_11 ?_
  refine lv_i2l (v := Int32.toInt64 y) hx hb dX2_forget_14 rfl ?_
  refine va_put (v := .long (Int32.toInt64 y)) (ty := .long) (T := TX2) (N := 7) hx hb hts inX2 tyX2 tyX2_ok nmX2 hown hK hP hD hS 0 rfl rfl 5 (by decide) f27 (fun _ h9 => h9) rfl (by decide +kernel) rfl rfl (Nat.le_of_ble_eq_true rfl) dX2_forget_15 (fun H locs hP hD hS => ?_)
  have hP : va_P g.1 vwCl [(b0, .inr (2, [.ref b1, .ref b2, .int x, .int y, .long (Int32.toInt64 x), .long (Int32.toInt64 y), .int th]))] H := hP
  have hD : va_D A [(b0, .inr (2, [.ref b1, .ref b2, .int x, .int y, .long (Int32.toInt64 x), .long (Int32.toInt64 y), .int th]))] := hD
  refine lv_aload_n hx hb dX2_forget_18 rfl (lv_at hl 0 rfl) ?_
  refine lv_iconst (v := 0) hx hb dX2_forget_19 (by decide) ?_
  refine va_put (v := .int 0) (ty := .int) (T := TX2) (N := 7) hx hb hts inX2 tyX2 tyX2_ok nmX2 hown hK hP hD hS 0 rfl rfl 6 (by decide) f33 (fun _ h9 => h9) rfl (by decide +kernel) rfl rfl (Nat.le_of_ble_eq_true rfl) dX2_forget_20 (fun H locs hP hD hS => ?_)
  have hP : va_P g.1 vwCl [(b0, .inr (2, [.ref b1, .ref b2, .int x, .int y, .long (Int32.toInt64 x), .long (Int32.toInt64 y), .int 0]))] H := hP
  have hD : va_D A [(b0, .inr (2, [.ref b1, .ref b2, .int x, .int y, .long (Int32.toInt64 x), .long (Int32.toInt64 y), .int 0]))] := hD
  exact he_rv hQ hx hb hr hlk hP hD hS dX2_forget_23 (Nat.le_of_ble_eq_true rfl) (Nat.le_of_ble_eq_true rfl) (()) (rfl) (trivial)
set_option maxHeartbeats 4000000 in
set_option maxRecDepth 100000 in
theorem c_X2_start (l : Launch) (g : he_G) (b0 : Nat) (b1 : Nat) (b2 : Nat) (x : Int32) (y : Int32) (rl : Int64) (hd : Int64) (th : Int32) (a : Int32) (b : Int32)  : he_V l yX2_start wsX2_start 1 20 0 0 g [.ref b0, .int a, .int b] [(b0, .inr (2, [.ref b1, .ref b2, .int x, .int y, .long rl, .long hd, .int th]))] (fun (u : Unit) => True) (fun (u : Unit) => [(b0, .inr (2, [.ref b1, .ref b2, .int a, .int b, .long (Int32.toInt64 a), .long (Int32.toInt64 b), .int 0]))]) := by
  refine he_begin (l := l) (g := g) (y := yX2_start) (wl := wsX2_start) (fr := 1) (lo := 20) (mc := 0) (ms := 0) (av := [.ref b0, .int a, .int b]) (ws := [(b0, .inr (2, [.ref b1, .ref b2, .int x, .int y, .long rl, .long hd, .int th]))]) (cc := cX2_start) (maxL := 3) (ret := none) (fun A => va_Qv (fun (u : Unit) => True) (fun u t => he_post g A ((fun (u : Unit) => [(b0, .inr (2, [.ref b1, .ref b2, .int a, .int b, .long (Int32.toInt64 a), .long (Int32.toInt64 b), .int 0]))]) u) t) A) (by decide) rfl (Nat.le_of_ble_eq_true rfl) ?_
  intro p e s m args below meth c A ls H locs Q hQ hB
  obtain ⟨hx, hb, hr, hml, hown, hts, hlk, hin, hP, hK, hD, hS, hA, hE, hl⟩ := hB
  have hl : lv_has ls 3 [(0, .ref b0), (1, .int a), (2, .int b)] := hl
  have f16 := hts (.fieldLink RX2 16 "HiredEnemy$Belief" "firstReal" "I") (by decide +kernel)
  have inX2 : ∀ w ∈ wsX20, w ∈ wsX2_start := by decide +kernel
  have f20 := hts (.fieldLink RX2 20 "HiredEnemy$Belief" "firstHired" "I") (by decide +kernel)
  refine lv_aload_n hx hb dX2_start_0 rfl (lv_at hl 0 rfl) ?_
  refine lv_iload_n hx hb dX2_start_1 rfl (lv_at hl 1 rfl) ?_
  refine va_put (v := .int a) (ty := .int) (T := TX2) (N := 7) hx hb hts inX2 tyX2 tyX2_ok nmX2 hown hK hP hD hS 0 rfl rfl 2 (by decide) f16 (fun _ h9 => h9) rfl (by decide +kernel) rfl rfl (Nat.le_of_ble_eq_true rfl) dX2_start_2 (fun H locs hP hD hS => ?_)
  have hP : va_P g.1 vwCl [(b0, .inr (2, [.ref b1, .ref b2, .int a, .int y, .long rl, .long hd, .int th]))] H := hP
  have hD : va_D A [(b0, .inr (2, [.ref b1, .ref b2, .int a, .int y, .long rl, .long hd, .int th]))] := hD
  refine lv_aload_n hx hb dX2_start_5 rfl (lv_at hl 0 rfl) ?_
  refine lv_iload_n hx hb dX2_start_6 rfl (lv_at hl 2 rfl) ?_
  refine va_put (v := .int b) (ty := .int) (T := TX2) (N := 7) hx hb hts inX2 tyX2 tyX2_ok nmX2 hown hK hP hD hS 0 rfl rfl 3 (by decide) f20 (fun _ h9 => h9) rfl (by decide +kernel) rfl rfl (Nat.le_of_ble_eq_true rfl) dX2_start_7 (fun H locs hP hD hS => ?_)
  have hP : va_P g.1 vwCl [(b0, .inr (2, [.ref b1, .ref b2, .int a, .int b, .long rl, .long hd, .int th]))] H := hP
  have hD : va_D A [(b0, .inr (2, [.ref b1, .ref b2, .int a, .int b, .long rl, .long hd, .int th]))] := hD
  refine lv_aload_n hx hb dX2_start_10 rfl (lv_at hl 0 rfl) ?_
  refine he_cv (wc := [(b0, .inr (2, [.ref b1, .ref b2, .int a, .int b, .long rl, .long hd, .int th]))]) (wr := []) (va_runV (As := []) (rest := []) ⟨hx, hb, hml, hown, hts⟩ (c_X2_forget l g b0 b1 b2 a b rl hd th H.size) (cwV 0 hts gX2_start_X2_forget rfl rfl rfl (by decide +kernel) ⟨Nat.le_of_ble_eq_true rfl, Nat.le_of_ble_eq_true rfl⟩) (he_preV (wc := [(b0, .inr (2, [.ref b1, .ref b2, .int a, .int b, .long rl, .long hd, .int th]))]) hK hP hD hS hA hE [0] rfl rfl 0 rfl rfl) rfl rfl hl.1 rfl (lv_room (Nat.le_of_ble_eq_true rfl)) dX2_start_11 ⟨(Nat.le_of_ble_eq_true rfl), (Nat.le_of_ble_eq_true rfl)⟩) hP hD hS hA [0] [] rfl rfl rfl (by decide) (fun u_2 H locs h_3 hP hD hS => ?_)
  have hP : va_P g.1 vwCl [(b0, .inr (2, [.ref b1, .ref b2, .int a, .int b, .long (Int32.toInt64 a), .long (Int32.toInt64 b), .int 0]))] H := hP
  have hD : va_D A [(b0, .inr (2, [.ref b1, .ref b2, .int a, .int b, .long (Int32.toInt64 a), .long (Int32.toInt64 b), .int 0]))] := hD
  exact he_rv hQ hx hb hr hlk hP hD hS dX2_start_14 (Nat.le_of_ble_eq_true rfl) (Nat.le_of_ble_eq_true rfl) (()) (rfl) (trivial)
set_option maxHeartbeats 4000000 in
set_option maxRecDepth 100000 in
theorem c_X2_add (l : Launch) (g : he_G) (b0 : Nat) (b1 : Nat) (b2 : Nat) (x : Int32) (y : Int32) (rl : Int64) (hd : Int64) (k : Nat) (a : Int32) (b : Int32) (hk : k < 12) : he_I l yX2_add wsX2_add 0 0 0 0 g [.ref b0, .int a, .int b] [(b0, .inr (2, [.ref b1, .ref b2, .int x, .int y, .long rl, .long hd, .int (nI k)]))] (fun (r : Int32) (u : Unit) => r = nI (k + 1)) (fun (u : Unit) => [(b0, .inr (2, [.ref b1, .ref b2, .int x, .int y, .long (rl * Int32.toInt64 a), .long (hd * Int32.toInt64 b), .int (nI (k + 1))]))]) := by
  refine he_begin (l := l) (g := g) (y := yX2_add) (wl := wsX2_add) (fr := 0) (lo := 0) (mc := 0) (ms := 0) (av := [.ref b0, .int a, .int b]) (ws := [(b0, .inr (2, [.ref b1, .ref b2, .int x, .int y, .long rl, .long hd, .int (nI k)]))]) (cc := cX2_add) (maxL := 3) (ret := (some .int)) (fun A => va_Qi (fun (r : Int32) (u : Unit) => r = nI (k + 1)) (fun u t => he_post g A ((fun (u : Unit) => [(b0, .inr (2, [.ref b1, .ref b2, .int x, .int y, .long (rl * Int32.toInt64 a), .long (hd * Int32.toInt64 b), .int (nI (k + 1))]))]) u) t) A) (by decide) rfl (Nat.le_of_ble_eq_true rfl) ?_
  intro p e s m args below meth c A ls H locs Q hQ hB
  obtain ⟨hx, hb, hr, hml, hown, hts, hlk, hin, hP, hK, hD, hS, hA, hE, hl⟩ := hB
  have hl : lv_has ls 3 [(0, .ref b0), (1, .int a), (2, .int b)] := hl
  have f33 := hts (.fieldLink RX2 33 "HiredEnemy$Belief" "things" "I") (by decide +kernel)
  have inX2 : ∀ w ∈ wsX20, w ∈ wsX2_add := by decide +kernel
  have f23 := hts (.fieldLink RX2 23 "HiredEnemy$Belief" "real" "J") (by decide +kernel)
  have f27 := hts (.fieldLink RX2 27 "HiredEnemy$Belief" "hired" "J") (by decide +kernel)
  refine lv_aload_n hx hb dX2_add_0 rfl (lv_at hl 0 rfl) ?_
  refine va_get (v := .int (nI k)) (T := TX2) (N := 7) hx hb hts inX2 hown hK hP 0 rfl rfl 6 (by decide) f33 (fun _ h9 => h9) rfl dX2_add_1 ?_
  refine lv_bipush (v := 12) hx hb dX2_add_4 (by decide) ?_
  refine lv_icmp_lt (tgt := 11) hx hb dX2_add_6 (by decide) (fun c_1 => ?_) (fun c_1 => ?_)
  · refine lv_aload_n hx hb dX2_add_11 rfl (lv_at hl 0 rfl) ?_
    refine lv_dup hx hb dX2_add_12 rfl ?_
    refine va_get (v := .long rl) (T := TX2) (N := 7) hx hb hts inX2 hown hK hP 0 rfl rfl 4 (by decide) f23 (fun _ h9 => h9) rfl dX2_add_13 ?_
    refine lv_iload_n hx hb dX2_add_16 rfl (lv_at hl 1 rfl) ?_
    refine lv_i2l (v := Int32.toInt64 a) hx hb dX2_add_17 rfl ?_
    refine lv_lmul hx hb dX2_add_18 ?_
    refine va_put (v := .long (rl * (Int32.toInt64 a))) (ty := .long) (T := TX2) (N := 7) hx hb hts inX2 tyX2 tyX2_ok nmX2 hown hK hP hD hS 0 rfl rfl 4 (by decide) f23 (fun _ h9 => h9) rfl (by decide +kernel) rfl rfl (Nat.le_of_ble_eq_true rfl) dX2_add_19 (fun H locs hP hD hS => ?_)
    have hP : va_P g.1 vwCl [(b0, .inr (2, [.ref b1, .ref b2, .int x, .int y, .long (rl * (Int32.toInt64 a)), .long hd, .int (nI k)]))] H := hP
    have hD : va_D A [(b0, .inr (2, [.ref b1, .ref b2, .int x, .int y, .long (rl * (Int32.toInt64 a)), .long hd, .int (nI k)]))] := hD
    refine lv_aload_n hx hb dX2_add_22 rfl (lv_at hl 0 rfl) ?_
    refine lv_dup hx hb dX2_add_23 rfl ?_
    refine va_get (v := .long hd) (T := TX2) (N := 7) hx hb hts inX2 hown hK hP 0 rfl rfl 5 (by decide) f27 (fun _ h9 => h9) rfl dX2_add_24 ?_
    refine lv_iload_n hx hb dX2_add_27 rfl (lv_at hl 2 rfl) ?_
    refine lv_i2l (v := Int32.toInt64 b) hx hb dX2_add_28 rfl ?_
    refine lv_lmul hx hb dX2_add_29 ?_
    refine va_put (v := .long (hd * (Int32.toInt64 b))) (ty := .long) (T := TX2) (N := 7) hx hb hts inX2 tyX2 tyX2_ok nmX2 hown hK hP hD hS 0 rfl rfl 5 (by decide) f27 (fun _ h9 => h9) rfl (by decide +kernel) rfl rfl (Nat.le_of_ble_eq_true rfl) dX2_add_30 (fun H locs hP hD hS => ?_)
    have hP : va_P g.1 vwCl [(b0, .inr (2, [.ref b1, .ref b2, .int x, .int y, .long (rl * (Int32.toInt64 a)), .long (hd * (Int32.toInt64 b)), .int (nI k)]))] H := hP
    have hD : va_D A [(b0, .inr (2, [.ref b1, .ref b2, .int x, .int y, .long (rl * (Int32.toInt64 a)), .long (hd * (Int32.toInt64 b)), .int (nI k)]))] := hD
    refine lv_aload_n hx hb dX2_add_33 rfl (lv_at hl 0 rfl) ?_
    refine lv_dup hx hb dX2_add_34 rfl ?_
    refine va_get (v := .int (nI k)) (T := TX2) (N := 7) hx hb hts inX2 hown hK hP 0 rfl rfl 6 (by decide) f33 (fun _ h9 => h9) rfl dX2_add_35 ?_
    refine lv_iconst (v := 1) hx hb dX2_add_38 (by decide) ?_
    refine lv_iadd hx hb dX2_add_39 ?_
    refine he_top (nI (k + 1)) (nI_add k 1) ?_
    refine va_put (v := .int (nI (k + 1))) (ty := .int) (T := TX2) (N := 7) hx hb hts inX2 tyX2 tyX2_ok nmX2 hown hK hP hD hS 0 rfl rfl 6 (by decide) f33 (fun _ h9 => h9) rfl (by decide +kernel) rfl rfl (Nat.le_of_ble_eq_true rfl) dX2_add_40 (fun H locs hP hD hS => ?_)
    have hP : va_P g.1 vwCl [(b0, .inr (2, [.ref b1, .ref b2, .int x, .int y, .long (rl * (Int32.toInt64 a)), .long (hd * (Int32.toInt64 b)), .int (nI (k + 1))]))] H := hP
    have hD : va_D A [(b0, .inr (2, [.ref b1, .ref b2, .int x, .int y, .long (rl * (Int32.toInt64 a)), .long (hd * (Int32.toInt64 b)), .int (nI (k + 1))]))] := hD
    refine lv_aload_n hx hb dX2_add_43 rfl (lv_at hl 0 rfl) ?_
    refine va_get (v := .int (nI (k + 1))) (T := TX2) (N := 7) hx hb hts inX2 hown hK hP 0 rfl rfl 6 (by decide) f33 (fun _ h9 => h9) rfl dX2_add_44 ?_
    exact he_ri hQ hx hb hr hlk hP hD hS dX2_add_47 (Nat.le_of_ble_eq_true rfl) (Nat.le_of_ble_eq_true rfl) (()) (rfl) (rfl)
  · exact absurd ((he_clt (a := k) (b := 12) rfl (by decide) (by omega) (by decide)).mpr hk) c_1
set_option maxHeartbeats 4000000 in
set_option maxRecDepth 100000 in
theorem c_X2_least1 (l : Launch) (g : he_G) (b0 : Nat) (b1 : Nat) (b2 : Nat) (x : Int32) (y : Int32) (th : Int32) (v : Int32)  : he_J l yX2_leastTerm wsX2_leastTerm 0 0 0 0 g [.ref b0, .int v] [(b0, .inr (2, [.ref b1, .ref b2, .int x, .int y, .long 1, .long 1, .int th]))] (fun (r : Int64) (u : Unit) => r = 1) (fun (u : Unit) => [(b0, .inr (2, [.ref b1, .ref b2, .int x, .int y, .long 1, .long 1, .int th]))]) := by
  refine he_begin (l := l) (g := g) (y := yX2_leastTerm) (wl := wsX2_leastTerm) (fr := 0) (lo := 0) (mc := 0) (ms := 0) (av := [.ref b0, .int v]) (ws := [(b0, .inr (2, [.ref b1, .ref b2, .int x, .int y, .long 1, .long 1, .int th]))]) (cc := cX2_leastTerm) (maxL := 9) (ret := (some .long)) (fun A => va_Ql (fun (r : Int64) (u : Unit) => r = 1) (fun u t => he_post g A ((fun (u : Unit) => [(b0, .inr (2, [.ref b1, .ref b2, .int x, .int y, .long 1, .long 1, .int th]))]) u) t) A) (by decide) rfl (Nat.le_of_ble_eq_true rfl) ?_
  intro p e s m args below meth c A ls H locs Q hQ hB
  obtain ⟨hx, hb, hr, hml, hown, hts, hlk, hin, hP, hK, hD, hS, hA, hE, hl⟩ := hB
  have hl : lv_has ls 9 [(0, .ref b0), (1, .int v)] := hl
  have f23 := hts (.fieldLink RX2 23 "HiredEnemy$Belief" "real" "J") (by decide +kernel)
  have inX2 : ∀ w ∈ wsX20, w ∈ wsX2_leastTerm := by decide +kernel
  have f27 := hts (.fieldLink RX2 27 "HiredEnemy$Belief" "hired" "J") (by decide +kernel)
  refine lv_aload_n hx hb dX2_leastTerm_0 rfl (lv_at hl 0 rfl) ?_
  refine va_get (v := .long 1) (T := TX2) (N := 7) hx hb hts inX2 hown hK hP 0 rfl rfl 4 (by decide) f23 (fun _ h9 => h9) rfl dX2_leastTerm_1 ?_
  refine lv_lstore_n (lv' := [(2, .long 1), (0, .ref b0), (1, .int v)]) hx hb dX2_leastTerm_4 rfl hl (by decide) rfl (fun ls hl => ?_)
  refine lv_aload_n hx hb dX2_leastTerm_5 rfl (lv_at hl 1 rfl) ?_
  refine va_get (v := .long 1) (T := TX2) (N := 7) hx hb hts inX2 hown hK hP 0 rfl rfl 5 (by decide) f27 (fun _ h9 => h9) rfl dX2_leastTerm_6 ?_
  refine lv_lstore (lv' := [(4, .long 1), (2, .long 1), (0, .ref b0), (1, .int v)]) hx hb dX2_leastTerm_9 hl (by decide) rfl (fun ls hl => ?_)
  refine lv_iconst (v := 0) hx hb dX2_leastTerm_11 (by decide) ?_
  refine lv_istore (lv' := [(6, .int 0), (4, .long 1), (2, .long 1), (0, .ref b0), (1, .int v)]) hx hb dX2_leastTerm_12 hl (by decide) rfl (fun ls hl => ?_)
  refine lv_iload hx hb dX2_leastTerm_14 (lv_at hl 0 rfl) ?_
  refine lv_sipush (v := 200) hx hb dX2_leastTerm_16 (by decide) ?_
  refine lv_icmp_ge (tgt := 48) hx hb dX2_leastTerm_19 (by decide) (fun c_1 => ?_) (fun c_1 => ?_)
  · exact absurd c_1 (by decide)
  · refine lv_lload hx hb dX2_leastTerm_22 (lv_at hl 1 rfl) ?_
    refine lv_lconst (v := 0) hx hb dX2_leastTerm_24 (by decide) ?_
    refine W.lcmp hx hb dX2_leastTerm_25 ?_
    refine he_top (1) (by decide) ?_
    refine lv_if_eq (tgt := 48) hx hb dX2_leastTerm_26 (by decide) (fun c_2 => ?_) (fun c_2 => ?_)
    · exact absurd c_2 (by decide)
    · refine lv_lload_n hx hb dX2_leastTerm_29 rfl (lv_at hl 2 rfl) ?_
      refine lv_lload hx hb dX2_leastTerm_30 (lv_at hl 1 rfl) ?_
      refine lv_lrem hx hb dX2_leastTerm_32 (by decide) ?_
      refine he_topl (0) (by decide) ?_
      refine lv_lstore (lv' := [(7, .long 0), (6, .int 0), (4, .long 1), (2, .long 1), (0, .ref b0), (1, .int v)]) hx hb dX2_leastTerm_33 hl (by decide) rfl (fun ls hl => ?_)
      refine lv_lload hx hb dX2_leastTerm_35 (lv_at hl 2 rfl) ?_
      refine lv_lstore_n (lv' := [(2, .long 1), (7, .long 0), (6, .int 0), (4, .long 1), (0, .ref b0), (1, .int v)]) hx hb dX2_leastTerm_37 rfl hl (by decide) rfl (fun ls hl => ?_)
      refine lv_lload hx hb dX2_leastTerm_38 (lv_at hl 1 rfl) ?_
      refine lv_lstore (lv' := [(4, .long 0), (2, .long 1), (7, .long 0), (6, .int 0), (0, .ref b0), (1, .int v)]) hx hb dX2_leastTerm_40 hl (by decide) rfl (fun ls hl => ?_)
      refine lv_iinc (v := 1) (lv' := [(6, .int 1), (4, .long 0), (2, .long 1), (7, .long 0), (0, .ref b0), (1, .int v)]) hx hb dX2_leastTerm_42 hl (k := 3) rfl (by decide) (by decide) rfl (fun ls hl => ?_)
      refine lv_goto (tgt := 14) hx hb dX2_leastTerm_45 (by decide) ?_
      refine lv_iload hx hb dX2_leastTerm_14 (lv_at hl 0 rfl) ?_
      refine lv_sipush (v := 200) hx hb dX2_leastTerm_16 (by decide) ?_
      refine lv_icmp_ge (tgt := 48) hx hb dX2_leastTerm_19 (by decide) (fun c_3 => ?_) (fun c_3 => ?_)
      · exact absurd c_3 (by decide)
      · refine lv_lload hx hb dX2_leastTerm_22 (lv_at hl 1 rfl) ?_
        refine lv_lconst (v := 0) hx hb dX2_leastTerm_24 (by decide) ?_
        refine W.lcmp hx hb dX2_leastTerm_25 ?_
        refine he_top (0) (by decide) ?_
        refine lv_if_eq (tgt := 48) hx hb dX2_leastTerm_26 (by decide) (fun c_4 => ?_) (fun c_4 => ?_)
        · refine lv_iload_n hx hb dX2_leastTerm_48 rfl (lv_at hl 5 rfl) ?_
          refine lv_if_eq (tgt := 59) hx hb dX2_leastTerm_49 (by decide) (fun c_5 => ?_) (fun c_5 => ?_)
          · refine lv_aload_n hx hb dX2_leastTerm_59 rfl (lv_at hl 4 rfl) ?_
            refine va_get (v := .long 1) (T := TX2) (N := 7) hx hb hts inX2 hown hK hP 0 rfl rfl 5 (by decide) f27 (fun _ h9 => h9) rfl dX2_leastTerm_60 ?_
            refine lv_lstore (lv' := [(6, .long 1), (4, .long 0), (2, .long 1), (0, .ref b0), (1, .int v)]) hx hb dX2_leastTerm_63 hl (by decide) rfl (fun ls hl => ?_)
            refine lv_lload_n hx hb dX2_leastTerm_65 rfl (lv_at hl 2 rfl) ?_
            refine lv_lconst (v := 0) hx hb dX2_leastTerm_66 (by decide) ?_
            refine W.lcmp hx hb dX2_leastTerm_67 ?_
            refine he_top (1) (by decide) ?_
            refine lv_if_le (tgt := 78) hx hb dX2_leastTerm_68 (by decide) (fun c_6 => ?_) (fun c_6 => ?_)
            · exact absurd c_6 (by decide)
            · refine lv_lload hx hb dX2_leastTerm_71 (lv_at hl 0 rfl) ?_
              refine lv_lload_n hx hb dX2_leastTerm_73 rfl (lv_at hl 2 rfl) ?_
              refine lv_ldiv hx hb dX2_leastTerm_74 (by decide) ?_
              refine he_topl (1) (by decide) ?_
              refine lv_goto (tgt := 80) hx hb dX2_leastTerm_75 (by decide) ?_
              exact he_rj hQ hx hb hr hlk hP hD hS dX2_leastTerm_80 (Nat.le_of_ble_eq_true rfl) (Nat.le_of_ble_eq_true rfl) (()) (rfl) (rfl)
          · refine lv_aload_n hx hb dX2_leastTerm_52 rfl (lv_at hl 4 rfl) ?_
            refine va_get (v := .long 1) (T := TX2) (N := 7) hx hb hts inX2 hown hK hP 0 rfl rfl 4 (by decide) f23 (fun _ h9 => h9) rfl dX2_leastTerm_53 ?_
            refine lv_goto (tgt := 63) hx hb dX2_leastTerm_56 (by decide) ?_
            refine lv_lstore (lv' := [(6, .long 1), (4, .long 0), (2, .long 1), (0, .ref b0), (1, .int v)]) hx hb dX2_leastTerm_63 hl (by decide) rfl (fun ls hl => ?_)
            refine lv_lload_n hx hb dX2_leastTerm_65 rfl (lv_at hl 2 rfl) ?_
            refine lv_lconst (v := 0) hx hb dX2_leastTerm_66 (by decide) ?_
            refine W.lcmp hx hb dX2_leastTerm_67 ?_
            refine he_top (1) (by decide) ?_
            refine lv_if_le (tgt := 78) hx hb dX2_leastTerm_68 (by decide) (fun c_7 => ?_) (fun c_7 => ?_)
            · exact absurd c_7 (by decide)
            · refine lv_lload hx hb dX2_leastTerm_71 (lv_at hl 0 rfl) ?_
              refine lv_lload_n hx hb dX2_leastTerm_73 rfl (lv_at hl 2 rfl) ?_
              refine lv_ldiv hx hb dX2_leastTerm_74 (by decide) ?_
              refine he_topl (1) (by decide) ?_
              refine lv_goto (tgt := 80) hx hb dX2_leastTerm_75 (by decide) ?_
              exact he_rj hQ hx hb hr hlk hP hD hS dX2_leastTerm_80 (Nat.le_of_ble_eq_true rfl) (Nat.le_of_ble_eq_true rfl) (()) (rfl) (rfl)
        · exact absurd (by decide) c_4
set_option maxHeartbeats 4000000 in
set_option maxRecDepth 100000 in
theorem c_X2_take (l : Launch) (g : he_G) (b0 : Nat) (b1 : Nat) (b2 : Nat) (x : Int32) (y : Int32) (rl : Int64) (hd : Int64) (th : Int32) (fr : Nat → Int32) (fh : Nat → Int32) (d0 : Nat) (d1 : Nat) (d2 : Nat) (x1 : Int32) (y1 : Int32) (r1 : Int64) (g1 : Int64) (t1 : Int32) (fr1 : Nat → Int32) (fh1 : Nat → Int32)  : he_V l yX2_take wsX2_take 1 18 0 0 g [.ref b0, .ref d0] [(b0, .inr (2, [.ref b1, .ref b2, .int x, .int y, .long rl, .long hd, .int th])), (b1, .inl (g.2 1, 4, .inl fr)), (b2, .inl (g.2 1, 4, .inl fh)), (d0, .inr (2, [.ref d1, .ref d2, .int x1, .int y1, .long r1, .long g1, .int t1])), (d1, .inl (g.2 1, 4, .inl fr1)), (d2, .inl (g.2 1, 4, .inl fh1))] (fun (u : Unit) => True) (fun (u : Unit) => [(b0, .inr (2, [.ref b1, .ref b2, .int x1, .int y1, .long r1, .long g1, .int t1])), (b1, .inl (g.2 1, 4, .inl (va_cpy fr1 fr 0 0 4))), (b2, .inl (g.2 1, 4, .inl (va_cpy fh1 fh 0 0 4))), (d0, .inr (2, [.ref d1, .ref d2, .int x1, .int y1, .long r1, .long g1, .int t1])), (d1, .inl (g.2 1, 4, .inl fr1)), (d2, .inl (g.2 1, 4, .inl fh1))]) := by
  refine he_begin (l := l) (g := g) (y := yX2_take) (wl := wsX2_take) (fr := 1) (lo := 18) (mc := 0) (ms := 0) (av := [.ref b0, .ref d0]) (ws := [(b0, .inr (2, [.ref b1, .ref b2, .int x, .int y, .long rl, .long hd, .int th])), (b1, .inl (g.2 1, 4, .inl fr)), (b2, .inl (g.2 1, 4, .inl fh)), (d0, .inr (2, [.ref d1, .ref d2, .int x1, .int y1, .long r1, .long g1, .int t1])), (d1, .inl (g.2 1, 4, .inl fr1)), (d2, .inl (g.2 1, 4, .inl fh1))]) (cc := cX2_take) (maxL := 2) (ret := none) (fun A => va_Qv (fun (u : Unit) => True) (fun u t => he_post g A ((fun (u : Unit) => [(b0, .inr (2, [.ref b1, .ref b2, .int x1, .int y1, .long r1, .long g1, .int t1])), (b1, .inl (g.2 1, 4, .inl (va_cpy fr1 fr 0 0 4))), (b2, .inl (g.2 1, 4, .inl (va_cpy fh1 fh 0 0 4))), (d0, .inr (2, [.ref d1, .ref d2, .int x1, .int y1, .long r1, .long g1, .int t1])), (d1, .inl (g.2 1, 4, .inl fr1)), (d2, .inl (g.2 1, 4, .inl fh1))]) u) t) A) (by decide) rfl (Nat.le_of_ble_eq_true rfl) ?_
  intro p e s m args below meth c A ls H locs Q hQ hB
  obtain ⟨hx, hb, hr, hml, hown, hts, hlk, hin, hP, hK, hD, hS, hA, hE, hl⟩ := hB
  have hl : lv_has ls 2 [(0, .ref b0), (1, .ref d0)] := hl
  have f7 := hts (.fieldLink RX2 7 "HiredEnemy$Belief" "ifReal" "[I") (by decide +kernel)
  have inX2 : ∀ w ∈ wsX20, w ∈ wsX2_take := by decide +kernel
  have al36 := hts (.methodLink RX2 36 arraycopyName) (by decide +kernel)
  have an := hts (.native arraycopyName) (by decide +kernel)
  have ast := hts (.static arraycopyName) (by decide +kernel)
  have ai := hts (.initialized "java/lang/System") (by decide +kernel)
  have f13 := hts (.fieldLink RX2 13 "HiredEnemy$Belief" "ifHired" "[I") (by decide +kernel)
  have f16 := hts (.fieldLink RX2 16 "HiredEnemy$Belief" "firstReal" "I") (by decide +kernel)
  have f20 := hts (.fieldLink RX2 20 "HiredEnemy$Belief" "firstHired" "I") (by decide +kernel)
  have f23 := hts (.fieldLink RX2 23 "HiredEnemy$Belief" "real" "J") (by decide +kernel)
  have f27 := hts (.fieldLink RX2 27 "HiredEnemy$Belief" "hired" "J") (by decide +kernel)
  have f33 := hts (.fieldLink RX2 33 "HiredEnemy$Belief" "things" "I") (by decide +kernel)
  refine lv_aload_n hx hb dX2_take_0 rfl (lv_at hl 1 rfl) ?_
  refine va_get (v := .ref d1) (T := TX2) (N := 7) hx hb hts inX2 hown hK hP 3 rfl rfl 0 (by decide) f7 (fun _ h9 => h9) rfl dX2_take_1 ?_
  refine lv_iconst (v := 0) hx hb dX2_take_4 (by decide) ?_
  refine lv_aload_n hx hb dX2_take_5 rfl (lv_at hl 0 rfl) ?_
  refine va_get (v := .ref b1) (T := TX2) (N := 7) hx hb hts inX2 hown hK hP 0 rfl rfl 0 (by decide) f7 (fun _ h9 => h9) rfl dX2_take_6 ?_
  refine lv_iconst (v := 0) hx hb dX2_take_9 (by decide) ?_
  refine lv_iconst (v := 4) hx hb dX2_take_10 (by decide) ?_
  refine he_copy hx hb (by rw [hml]; exact hl.1.symm) hown al36 an ast ai hK hP hD hS 4 1 rfl rfl (0) (0) (4) (by decide) (by decide) (by decide) (by first | decide | omega) (by first | decide | omega) (by decide) (by decide) (Nat.le_of_ble_eq_true rfl) (Nat.le_of_ble_eq_true rfl) dX2_take_11 (fun H locs hP hD hS => ?_)
  have hP : va_P g.1 vwCl [(b0, .inr (2, [.ref b1, .ref b2, .int x, .int y, .long rl, .long hd, .int th])), (b1, .inl (g.2 1, 4, .inl (va_cpy fr1 fr 0 0 4))), (b2, .inl (g.2 1, 4, .inl fh)), (d0, .inr (2, [.ref d1, .ref d2, .int x1, .int y1, .long r1, .long g1, .int t1])), (d1, .inl (g.2 1, 4, .inl fr1)), (d2, .inl (g.2 1, 4, .inl fh1))] H := hP
  have hD : va_D A [(b0, .inr (2, [.ref b1, .ref b2, .int x, .int y, .long rl, .long hd, .int th])), (b1, .inl (g.2 1, 4, .inl (va_cpy fr1 fr 0 0 4))), (b2, .inl (g.2 1, 4, .inl fh)), (d0, .inr (2, [.ref d1, .ref d2, .int x1, .int y1, .long r1, .long g1, .int t1])), (d1, .inl (g.2 1, 4, .inl fr1)), (d2, .inl (g.2 1, 4, .inl fh1))] := hD
  refine lv_aload_n hx hb dX2_take_14 rfl (lv_at hl 1 rfl) ?_
  refine va_get (v := .ref d2) (T := TX2) (N := 7) hx hb hts inX2 hown hK hP 3 rfl rfl 1 (by decide) f13 (fun _ h9 => h9) rfl dX2_take_15 ?_
  refine lv_iconst (v := 0) hx hb dX2_take_18 (by decide) ?_
  refine lv_aload_n hx hb dX2_take_19 rfl (lv_at hl 0 rfl) ?_
  refine va_get (v := .ref b2) (T := TX2) (N := 7) hx hb hts inX2 hown hK hP 0 rfl rfl 1 (by decide) f13 (fun _ h9 => h9) rfl dX2_take_20 ?_
  refine lv_iconst (v := 0) hx hb dX2_take_23 (by decide) ?_
  refine lv_iconst (v := 4) hx hb dX2_take_24 (by decide) ?_
  refine he_copy hx hb (by rw [hml]; exact hl.1.symm) hown al36 an ast ai hK hP hD hS 5 2 rfl rfl (0) (0) (4) (by decide) (by decide) (by decide) (by first | decide | omega) (by first | decide | omega) (by decide) (by decide) (Nat.le_of_ble_eq_true rfl) (Nat.le_of_ble_eq_true rfl) dX2_take_25 (fun H locs hP hD hS => ?_)
  have hP : va_P g.1 vwCl [(b0, .inr (2, [.ref b1, .ref b2, .int x, .int y, .long rl, .long hd, .int th])), (b1, .inl (g.2 1, 4, .inl (va_cpy fr1 fr 0 0 4))), (b2, .inl (g.2 1, 4, .inl (va_cpy fh1 fh 0 0 4))), (d0, .inr (2, [.ref d1, .ref d2, .int x1, .int y1, .long r1, .long g1, .int t1])), (d1, .inl (g.2 1, 4, .inl fr1)), (d2, .inl (g.2 1, 4, .inl fh1))] H := hP
  have hD : va_D A [(b0, .inr (2, [.ref b1, .ref b2, .int x, .int y, .long rl, .long hd, .int th])), (b1, .inl (g.2 1, 4, .inl (va_cpy fr1 fr 0 0 4))), (b2, .inl (g.2 1, 4, .inl (va_cpy fh1 fh 0 0 4))), (d0, .inr (2, [.ref d1, .ref d2, .int x1, .int y1, .long r1, .long g1, .int t1])), (d1, .inl (g.2 1, 4, .inl fr1)), (d2, .inl (g.2 1, 4, .inl fh1))] := hD
  refine lv_aload_n hx hb dX2_take_28 rfl (lv_at hl 0 rfl) ?_
  refine lv_aload_n hx hb dX2_take_29 rfl (lv_at hl 1 rfl) ?_
  refine va_get (v := .int x1) (T := TX2) (N := 7) hx hb hts inX2 hown hK hP 3 rfl rfl 2 (by decide) f16 (fun _ h9 => h9) rfl dX2_take_30 ?_
  refine va_put (v := .int x1) (ty := .int) (T := TX2) (N := 7) hx hb hts inX2 tyX2 tyX2_ok nmX2 hown hK hP hD hS 0 rfl rfl 2 (by decide) f16 (fun _ h9 => h9) rfl (by decide +kernel) rfl rfl (Nat.le_of_ble_eq_true rfl) dX2_take_33 (fun H locs hP hD hS => ?_)
  have hP : va_P g.1 vwCl [(b0, .inr (2, [.ref b1, .ref b2, .int x1, .int y, .long rl, .long hd, .int th])), (b1, .inl (g.2 1, 4, .inl (va_cpy fr1 fr 0 0 4))), (b2, .inl (g.2 1, 4, .inl (va_cpy fh1 fh 0 0 4))), (d0, .inr (2, [.ref d1, .ref d2, .int x1, .int y1, .long r1, .long g1, .int t1])), (d1, .inl (g.2 1, 4, .inl fr1)), (d2, .inl (g.2 1, 4, .inl fh1))] H := hP
  have hD : va_D A [(b0, .inr (2, [.ref b1, .ref b2, .int x1, .int y, .long rl, .long hd, .int th])), (b1, .inl (g.2 1, 4, .inl (va_cpy fr1 fr 0 0 4))), (b2, .inl (g.2 1, 4, .inl (va_cpy fh1 fh 0 0 4))), (d0, .inr (2, [.ref d1, .ref d2, .int x1, .int y1, .long r1, .long g1, .int t1])), (d1, .inl (g.2 1, 4, .inl fr1)), (d2, .inl (g.2 1, 4, .inl fh1))] := hD
  refine lv_aload_n hx hb dX2_take_36 rfl (lv_at hl 0 rfl) ?_
  refine lv_aload_n hx hb dX2_take_37 rfl (lv_at hl 1 rfl) ?_
  refine va_get (v := .int y1) (T := TX2) (N := 7) hx hb hts inX2 hown hK hP 3 rfl rfl 3 (by decide) f20 (fun _ h9 => h9) rfl dX2_take_38 ?_
  refine va_put (v := .int y1) (ty := .int) (T := TX2) (N := 7) hx hb hts inX2 tyX2 tyX2_ok nmX2 hown hK hP hD hS 0 rfl rfl 3 (by decide) f20 (fun _ h9 => h9) rfl (by decide +kernel) rfl rfl (Nat.le_of_ble_eq_true rfl) dX2_take_41 (fun H locs hP hD hS => ?_)
  have hP : va_P g.1 vwCl [(b0, .inr (2, [.ref b1, .ref b2, .int x1, .int y1, .long rl, .long hd, .int th])), (b1, .inl (g.2 1, 4, .inl (va_cpy fr1 fr 0 0 4))), (b2, .inl (g.2 1, 4, .inl (va_cpy fh1 fh 0 0 4))), (d0, .inr (2, [.ref d1, .ref d2, .int x1, .int y1, .long r1, .long g1, .int t1])), (d1, .inl (g.2 1, 4, .inl fr1)), (d2, .inl (g.2 1, 4, .inl fh1))] H := hP
  have hD : va_D A [(b0, .inr (2, [.ref b1, .ref b2, .int x1, .int y1, .long rl, .long hd, .int th])), (b1, .inl (g.2 1, 4, .inl (va_cpy fr1 fr 0 0 4))), (b2, .inl (g.2 1, 4, .inl (va_cpy fh1 fh 0 0 4))), (d0, .inr (2, [.ref d1, .ref d2, .int x1, .int y1, .long r1, .long g1, .int t1])), (d1, .inl (g.2 1, 4, .inl fr1)), (d2, .inl (g.2 1, 4, .inl fh1))] := hD
  refine lv_aload_n hx hb dX2_take_44 rfl (lv_at hl 0 rfl) ?_
  refine lv_aload_n hx hb dX2_take_45 rfl (lv_at hl 1 rfl) ?_
  refine va_get (v := .long r1) (T := TX2) (N := 7) hx hb hts inX2 hown hK hP 3 rfl rfl 4 (by decide) f23 (fun _ h9 => h9) rfl dX2_take_46 ?_
  refine va_put (v := .long r1) (ty := .long) (T := TX2) (N := 7) hx hb hts inX2 tyX2 tyX2_ok nmX2 hown hK hP hD hS 0 rfl rfl 4 (by decide) f23 (fun _ h9 => h9) rfl (by decide +kernel) rfl rfl (Nat.le_of_ble_eq_true rfl) dX2_take_49 (fun H locs hP hD hS => ?_)
  have hP : va_P g.1 vwCl [(b0, .inr (2, [.ref b1, .ref b2, .int x1, .int y1, .long r1, .long hd, .int th])), (b1, .inl (g.2 1, 4, .inl (va_cpy fr1 fr 0 0 4))), (b2, .inl (g.2 1, 4, .inl (va_cpy fh1 fh 0 0 4))), (d0, .inr (2, [.ref d1, .ref d2, .int x1, .int y1, .long r1, .long g1, .int t1])), (d1, .inl (g.2 1, 4, .inl fr1)), (d2, .inl (g.2 1, 4, .inl fh1))] H := hP
  have hD : va_D A [(b0, .inr (2, [.ref b1, .ref b2, .int x1, .int y1, .long r1, .long hd, .int th])), (b1, .inl (g.2 1, 4, .inl (va_cpy fr1 fr 0 0 4))), (b2, .inl (g.2 1, 4, .inl (va_cpy fh1 fh 0 0 4))), (d0, .inr (2, [.ref d1, .ref d2, .int x1, .int y1, .long r1, .long g1, .int t1])), (d1, .inl (g.2 1, 4, .inl fr1)), (d2, .inl (g.2 1, 4, .inl fh1))] := hD
  refine lv_aload_n hx hb dX2_take_52 rfl (lv_at hl 0 rfl) ?_
  refine lv_aload_n hx hb dX2_take_53 rfl (lv_at hl 1 rfl) ?_
  refine va_get (v := .long g1) (T := TX2) (N := 7) hx hb hts inX2 hown hK hP 3 rfl rfl 5 (by decide) f27 (fun _ h9 => h9) rfl dX2_take_54 ?_
  refine va_put (v := .long g1) (ty := .long) (T := TX2) (N := 7) hx hb hts inX2 tyX2 tyX2_ok nmX2 hown hK hP hD hS 0 rfl rfl 5 (by decide) f27 (fun _ h9 => h9) rfl (by decide +kernel) rfl rfl (Nat.le_of_ble_eq_true rfl) dX2_take_57 (fun H locs hP hD hS => ?_)
  have hP : va_P g.1 vwCl [(b0, .inr (2, [.ref b1, .ref b2, .int x1, .int y1, .long r1, .long g1, .int th])), (b1, .inl (g.2 1, 4, .inl (va_cpy fr1 fr 0 0 4))), (b2, .inl (g.2 1, 4, .inl (va_cpy fh1 fh 0 0 4))), (d0, .inr (2, [.ref d1, .ref d2, .int x1, .int y1, .long r1, .long g1, .int t1])), (d1, .inl (g.2 1, 4, .inl fr1)), (d2, .inl (g.2 1, 4, .inl fh1))] H := hP
  have hD : va_D A [(b0, .inr (2, [.ref b1, .ref b2, .int x1, .int y1, .long r1, .long g1, .int th])), (b1, .inl (g.2 1, 4, .inl (va_cpy fr1 fr 0 0 4))), (b2, .inl (g.2 1, 4, .inl (va_cpy fh1 fh 0 0 4))), (d0, .inr (2, [.ref d1, .ref d2, .int x1, .int y1, .long r1, .long g1, .int t1])), (d1, .inl (g.2 1, 4, .inl fr1)), (d2, .inl (g.2 1, 4, .inl fh1))] := hD
  refine lv_aload_n hx hb dX2_take_60 rfl (lv_at hl 0 rfl) ?_
  refine lv_aload_n hx hb dX2_take_61 rfl (lv_at hl 1 rfl) ?_
  refine va_get (v := .int t1) (T := TX2) (N := 7) hx hb hts inX2 hown hK hP 3 rfl rfl 6 (by decide) f33 (fun _ h9 => h9) rfl dX2_take_62 ?_
  refine va_put (v := .int t1) (ty := .int) (T := TX2) (N := 7) hx hb hts inX2 tyX2 tyX2_ok nmX2 hown hK hP hD hS 0 rfl rfl 6 (by decide) f33 (fun _ h9 => h9) rfl (by decide +kernel) rfl rfl (Nat.le_of_ble_eq_true rfl) dX2_take_65 (fun H locs hP hD hS => ?_)
  have hP : va_P g.1 vwCl [(b0, .inr (2, [.ref b1, .ref b2, .int x1, .int y1, .long r1, .long g1, .int t1])), (b1, .inl (g.2 1, 4, .inl (va_cpy fr1 fr 0 0 4))), (b2, .inl (g.2 1, 4, .inl (va_cpy fh1 fh 0 0 4))), (d0, .inr (2, [.ref d1, .ref d2, .int x1, .int y1, .long r1, .long g1, .int t1])), (d1, .inl (g.2 1, 4, .inl fr1)), (d2, .inl (g.2 1, 4, .inl fh1))] H := hP
  have hD : va_D A [(b0, .inr (2, [.ref b1, .ref b2, .int x1, .int y1, .long r1, .long g1, .int t1])), (b1, .inl (g.2 1, 4, .inl (va_cpy fr1 fr 0 0 4))), (b2, .inl (g.2 1, 4, .inl (va_cpy fh1 fh 0 0 4))), (d0, .inr (2, [.ref d1, .ref d2, .int x1, .int y1, .long r1, .long g1, .int t1])), (d1, .inl (g.2 1, 4, .inl fr1)), (d2, .inl (g.2 1, 4, .inl fh1))] := hD
  exact he_rv hQ hx hb hr hlk hP hD hS dX2_take_68 (Nat.le_of_ble_eq_true rfl) (Nat.le_of_ble_eq_true rfl) (()) (rfl) (trivial)
set_option maxHeartbeats 4000000 in
set_option maxRecDepth 100000 in
theorem c_X3_clear (l : Launch) (g : he_G) (e0 : Nat) (e1 : Nat) (e2 : Nat) (co : Nat → Int32)  : he_V l yX3_clear wsX3_clear 1 23 0 0 g [.ref e0] [(e0, .inr (3, [.ref e1, .ref e2])), (e1, .inl (g.2 1, 36, .inl co))] (fun (u : Unit) => True) (fun (u : Unit) => [(e0, .inr (3, [.ref e1, .ref e2])), (e1, .inl (g.2 1, 36, .inl (flF (fun _ => 0) co 36)))]) := by
  refine he_begin (l := l) (g := g) (y := yX3_clear) (wl := wsX3_clear) (fr := 1) (lo := 23) (mc := 0) (ms := 0) (av := [.ref e0]) (ws := [(e0, .inr (3, [.ref e1, .ref e2])), (e1, .inl (g.2 1, 36, .inl co))]) (cc := cX3_clear) (maxL := 1) (ret := none) (fun A => va_Qv (fun (u : Unit) => True) (fun u t => he_post g A ((fun (u : Unit) => [(e0, .inr (3, [.ref e1, .ref e2])), (e1, .inl (g.2 1, 36, .inl (flF (fun _ => 0) co 36)))]) u) t) A) (by decide) rfl (Nat.le_of_ble_eq_true rfl) ?_
  intro p e s m args below meth c A ls H locs Q hQ hB
  obtain ⟨hx, hb, hr, hml, hown, hts, hlk, hin, hP, hK, hD, hS, hA, hE, hl⟩ := hB
  have hl : lv_has ls 1 [(0, .ref e0)] := hl
  have f9 := hts (.fieldLink RX3 9 "HiredEnemy$Bids" "coins" "[I") (by decide +kernel)
  have inX3 : ∀ w ∈ wsX30, w ∈ wsX3_clear := by decide +kernel
  refine lv_aload_n hx hb dX3_clear_0 rfl (lv_at hl 0 rfl) ?_
  refine va_get (v := .ref e1) (T := TX3) (N := 2) hx hb hts inX3 hown hK hP 0 rfl rfl 0 (by decide) f9 (fun _ h9 => h9) rfl dX3_clear_1 ?_
  refine lv_iconst (v := 0) hx hb dX3_clear_4 (by decide) ?_
  refine he_cv (wc := [(e1, .inl (g.2 1, 36, .inl co))]) (wr := [(e0, .inr (3, [.ref e1, .ref e2]))]) (va_runS (As := [.ref e1, .int 0]) (rest := []) ⟨hx, hb, hml, hown, hts⟩ (c_J7_fill_53178 l g e1 36 co 0 (by first | assumption | decide | omega) H.size) (va_cwS 2 hts gX3_clear_J7_fill_53178 rfl rfl rfl (by decide +kernel) ⟨Nat.le_of_ble_eq_true rfl, Nat.le_of_ble_eq_true rfl⟩) (he_preS (wc := [(e1, .inl (g.2 1, 36, .inl co))]) hK hP hD hS hA hE [1] rfl rfl) rfl rfl hl.1 rfl (lv_room (Nat.le_of_ble_eq_true rfl)) dX3_clear_5 ⟨(Nat.le_of_ble_eq_true rfl), (Nat.le_of_ble_eq_true rfl)⟩) hP hD hS hA [1] [0] rfl rfl rfl (by decide) (fun u_2 H locs h_3 hP hD hS => ?_)
  have hP : va_P g.1 vwCl [(e0, .inr (3, [.ref e1, .ref e2])), (e1, .inl (g.2 1, 36, .inl (flF (fun _ => 0) co 36)))] H := hP
  have hD : va_D A [(e0, .inr (3, [.ref e1, .ref e2])), (e1, .inl (g.2 1, 36, .inl (flF (fun _ => 0) co 36)))] := hD
  exact he_rv hQ hx hb hr hlk hP hD hS dX3_clear_8 (Nat.le_of_ble_eq_true rfl) (Nat.le_of_ble_eq_true rfl) (()) (rfl) (trivial)
set_option maxHeartbeats 4000000 in
set_option maxRecDepth 100000 in
theorem c_X3_bid (l : Launch) (g : he_G) (e0 : Nat) (e1 : Nat) (e2 : Nat) (co : Nat → Int32) (i : Nat) (j : Nat) (v : Int32) (hi : i < 3) (hj : j < 12) : he_I l yX3_bid wsX3_bid 0 0 0 0 g [.ref e0, .int (nI i), .int (nI j), .int v] [(e0, .inr (3, [.ref e1, .ref e2])), (e1, .inl (g.2 1, 36, .inl co))] (fun (r : Int32) (u : Unit) => r = co (j * 3 + i)) (fun (u : Unit) => [(e0, .inr (3, [.ref e1, .ref e2])), (e1, .inl (g.2 1, 36, .inl (upd co (j * 3 + i) v)))]) := by
  refine he_begin (l := l) (g := g) (y := yX3_bid) (wl := wsX3_bid) (fr := 0) (lo := 0) (mc := 0) (ms := 0) (av := [.ref e0, .int (nI i), .int (nI j), .int v]) (ws := [(e0, .inr (3, [.ref e1, .ref e2])), (e1, .inl (g.2 1, 36, .inl co))]) (cc := cX3_bid) (maxL := 6) (ret := (some .int)) (fun A => va_Qi (fun (r : Int32) (u : Unit) => r = co (j * 3 + i)) (fun u t => he_post g A ((fun (u : Unit) => [(e0, .inr (3, [.ref e1, .ref e2])), (e1, .inl (g.2 1, 36, .inl (upd co (j * 3 + i) v)))]) u) t) A) (by decide) rfl (Nat.le_of_ble_eq_true rfl) ?_
  intro p e s m args below meth c A ls H locs Q hQ hB
  obtain ⟨hx, hb, hr, hml, hown, hts, hlk, hin, hP, hK, hD, hS, hA, hE, hl⟩ := hB
  have hl : lv_has ls 6 [(0, .ref e0), (1, .int (nI i)), (2, .int (nI j)), (3, .int v)] := hl
  have f9 := hts (.fieldLink RX3 9 "HiredEnemy$Bids" "coins" "[I") (by decide +kernel)
  have inX3 : ∀ w ∈ wsX30, w ∈ wsX3_bid := by decide +kernel
  refine lv_iload_n hx hb dX3_bid_0 rfl (lv_at hl 2 rfl) ?_
  refine lv_iconst (v := 3) hx hb dX3_bid_1 (by decide) ?_
  refine lv_imul hx hb dX3_bid_2 ?_
  refine he_top (nI (j * 3)) (pk_mul j 3) ?_
  refine lv_iload_n hx hb dX3_bid_3 rfl (lv_at hl 1 rfl) ?_
  refine lv_iadd hx hb dX3_bid_4 ?_
  refine he_top (nI (j * 3 + i)) (nI_add (j * 3) i) ?_
  refine lv_istore (lv' := [(4, .int (nI (j * 3 + i))), (0, .ref e0), (1, .int (nI i)), (2, .int (nI j)), (3, .int v)]) hx hb dX3_bid_5 hl (by decide) rfl (fun ls hl => ?_)
  refine lv_aload_n hx hb dX3_bid_7 rfl (lv_at hl 1 rfl) ?_
  refine va_get (v := .ref e1) (T := TX3) (N := 2) hx hb hts inX3 hown hK hP 0 rfl rfl 0 (by decide) f9 (fun _ h9 => h9) rfl dX3_bid_8 ?_
  refine lv_iload hx hb dX3_bid_11 (lv_at hl 0 rfl) ?_
  refine he_iald hx hb hK hP 1 rfl (j * 3 + i) rfl (by first | assumption | decide | omega) (by first | decide | assumption) (co (j * 3 + i)) rfl dX3_bid_13 ?_
  refine lv_istore (lv' := [(5, .int (co (j * 3 + i))), (4, .int (nI (j * 3 + i))), (0, .ref e0), (1, .int (nI i)), (2, .int (nI j)), (3, .int v)]) hx hb dX3_bid_14 hl (by decide) rfl (fun ls hl => ?_)
  refine lv_aload_n hx hb dX3_bid_16 rfl (lv_at hl 2 rfl) ?_
  refine va_get (v := .ref e1) (T := TX3) (N := 2) hx hb hts inX3 hown hK hP 0 rfl rfl 0 (by decide) f9 (fun _ h9 => h9) rfl dX3_bid_17 ?_
  refine lv_iload hx hb dX3_bid_20 (lv_at hl 1 rfl) ?_
  refine lv_iload_n hx hb dX3_bid_22 rfl (lv_at hl 5 rfl) ?_
  refine he_iast hx hb hK hP hD hS 1 rfl (j * 3 + i) rfl (by first | assumption | decide | omega) (by first | decide | assumption) dX3_bid_23 (fun H locs hP hD hS => ?_)
  have hP : va_P g.1 vwCl [(e0, .inr (3, [.ref e1, .ref e2])), (e1, .inl (g.2 1, 36, .inl (upd co (j * 3 + i) v)))] H := hP
  have hD : va_D A [(e0, .inr (3, [.ref e1, .ref e2])), (e1, .inl (g.2 1, 36, .inl (upd co (j * 3 + i) v)))] := hD
  refine lv_iload hx hb dX3_bid_24 (lv_at hl 0 rfl) ?_
  exact he_ri hQ hx hb hr hlk hP hD hS dX3_bid_26 (Nat.le_of_ble_eq_true rfl) (Nat.le_of_ble_eq_true rfl) (()) (rfl) (rfl)
set_option maxHeartbeats 4000000 in
set_option maxRecDepth 100000 in
theorem c_X3_take (l : Launch) (g : he_G) (e0 : Nat) (e1 : Nat) (e2 : Nat) (co : Nat → Int32) (d0 : Nat) (d1 : Nat) (d2 : Nat) (co1 : Nat → Int32)  : he_V l yX3_take wsX3_take 1 18 0 0 g [.ref e0, .ref d0] [(e0, .inr (3, [.ref e1, .ref e2])), (e1, .inl (g.2 1, 36, .inl co)), (d0, .inr (3, [.ref d1, .ref d2])), (d1, .inl (g.2 1, 36, .inl co1))] (fun (u : Unit) => True) (fun (u : Unit) => [(e0, .inr (3, [.ref e1, .ref e2])), (e1, .inl (g.2 1, 36, .inl (va_cpy co1 co 0 0 36))), (d0, .inr (3, [.ref d1, .ref d2])), (d1, .inl (g.2 1, 36, .inl co1))]) := by
  refine he_begin (l := l) (g := g) (y := yX3_take) (wl := wsX3_take) (fr := 1) (lo := 18) (mc := 0) (ms := 0) (av := [.ref e0, .ref d0]) (ws := [(e0, .inr (3, [.ref e1, .ref e2])), (e1, .inl (g.2 1, 36, .inl co)), (d0, .inr (3, [.ref d1, .ref d2])), (d1, .inl (g.2 1, 36, .inl co1))]) (cc := cX3_take) (maxL := 2) (ret := none) (fun A => va_Qv (fun (u : Unit) => True) (fun u t => he_post g A ((fun (u : Unit) => [(e0, .inr (3, [.ref e1, .ref e2])), (e1, .inl (g.2 1, 36, .inl (va_cpy co1 co 0 0 36))), (d0, .inr (3, [.ref d1, .ref d2])), (d1, .inl (g.2 1, 36, .inl co1))]) u) t) A) (by decide) rfl (Nat.le_of_ble_eq_true rfl) ?_
  intro p e s m args below meth c A ls H locs Q hQ hB
  obtain ⟨hx, hb, hr, hml, hown, hts, hlk, hin, hP, hK, hD, hS, hA, hE, hl⟩ := hB
  have hl : lv_has ls 2 [(0, .ref e0), (1, .ref d0)] := hl
  have f9 := hts (.fieldLink RX3 9 "HiredEnemy$Bids" "coins" "[I") (by decide +kernel)
  have inX3 : ∀ w ∈ wsX30, w ∈ wsX3_take := by decide +kernel
  have al45 := hts (.methodLink RX3 45 arraycopyName) (by decide +kernel)
  have an := hts (.native arraycopyName) (by decide +kernel)
  have ast := hts (.static arraycopyName) (by decide +kernel)
  have ai := hts (.initialized "java/lang/System") (by decide +kernel)
  refine lv_aload_n hx hb dX3_take_0 rfl (lv_at hl 1 rfl) ?_
  refine va_get (v := .ref d1) (T := TX3) (N := 2) hx hb hts inX3 hown hK hP 2 rfl rfl 0 (by decide) f9 (fun _ h9 => h9) rfl dX3_take_1 ?_
  refine lv_iconst (v := 0) hx hb dX3_take_4 (by decide) ?_
  refine lv_aload_n hx hb dX3_take_5 rfl (lv_at hl 0 rfl) ?_
  refine va_get (v := .ref e1) (T := TX3) (N := 2) hx hb hts inX3 hown hK hP 0 rfl rfl 0 (by decide) f9 (fun _ h9 => h9) rfl dX3_take_6 ?_
  refine lv_iconst (v := 0) hx hb dX3_take_9 (by decide) ?_
  refine lv_aload_n hx hb dX3_take_10 rfl (lv_at hl 0 rfl) ?_
  refine va_get (v := .ref e1) (T := TX3) (N := 2) hx hb hts inX3 hown hK hP 0 rfl rfl 0 (by decide) f9 (fun _ h9 => h9) rfl dX3_take_11 ?_
  refine va_alen (v := 36) hx hb hK hP 1 1 rfl rfl rfl dX3_take_14 ?_
  refine he_copy hx hb (by rw [hml]; exact hl.1.symm) hown al45 an ast ai hK hP hD hS 3 1 rfl rfl (0) (0) (36) (by decide) (by decide) (by decide) (by first | decide | omega) (by first | decide | omega) (by decide) (by decide) (Nat.le_of_ble_eq_true rfl) (Nat.le_of_ble_eq_true rfl) dX3_take_15 (fun H locs hP hD hS => ?_)
  have hP : va_P g.1 vwCl [(e0, .inr (3, [.ref e1, .ref e2])), (e1, .inl (g.2 1, 36, .inl (va_cpy co1 co 0 0 36))), (d0, .inr (3, [.ref d1, .ref d2])), (d1, .inl (g.2 1, 36, .inl co1))] H := hP
  have hD : va_D A [(e0, .inr (3, [.ref e1, .ref e2])), (e1, .inl (g.2 1, 36, .inl (va_cpy co1 co 0 0 36))), (d0, .inr (3, [.ref d1, .ref d2])), (d1, .inl (g.2 1, 36, .inl co1))] := hD
  exact he_rv hQ hx hb hr hlk hP hD hS dX3_take_18 (Nat.le_of_ble_eq_true rfl) (Nat.le_of_ble_eq_true rfl) (()) (rfl) (trivial)
set_option maxHeartbeats 4000000 in
set_option maxRecDepth 100000 in
theorem c_X3_mayFollow (l : Launch) (g : he_G) (i : Nat) (j : Nat) (hi : i < 3) (hj : j < 3) : he_I l yX3_mayFollow wsX3_mayFollow 0 0 0 0 g [.int (nI i), .int (nI j)] [] (fun (r : Int32) (u : Unit) => r = mfF i j) (fun (u : Unit) => []) := by
  refine he_begin (l := l) (g := g) (y := yX3_mayFollow) (wl := wsX3_mayFollow) (fr := 0) (lo := 0) (mc := 0) (ms := 0) (av := [.int (nI i), .int (nI j)]) (ws := []) (cc := cX3_mayFollow) (maxL := 2) (ret := (some .boolean)) (fun A => va_Qi (fun (r : Int32) (u : Unit) => r = mfF i j) (fun u t => he_post g A ((fun (u : Unit) => []) u) t) A) (by decide) rfl (Nat.le_of_ble_eq_true rfl) ?_
  intro p e s m args below meth c A ls H locs Q hQ hB
  obtain ⟨hx, hb, hr, hml, hown, hts, hlk, hin, hP, hK, hD, hS, hA, hE, hl⟩ := hB
  have hl : lv_has ls 2 [(0, .int (nI i)), (1, .int (nI j))] := hl
  refine lv_iload_n hx hb dX3_mayFollow_0 rfl (lv_at hl 0 rfl) ?_
  refine lv_if_eq (tgt := 13) hx hb dX3_mayFollow_1 (by decide) (fun c_1 => ?_) (fun c_1 => ?_)
  · have k_2 : i = 0 := (he_ceq (a := i) (b := 0) rfl (by decide) (by omega) (by omega)).mp c_1
    refine lv_iconst (v := 1) hx hb dX3_mayFollow_13 (by decide) ?_
    refine lv_goto (tgt := 18) hx hb dX3_mayFollow_14 (by decide) ?_
    exact he_rz hQ hx hb hr hlk hP hD hS dX3_mayFollow_18 (Nat.le_of_ble_eq_true rfl) (Nat.le_of_ble_eq_true rfl) rfl (()) (rfl) (by simp [mfF]; omega)
  · have k_3 : ¬ (i = 0) := fun h9 => c_1 ((he_ceq (a := i) (b := 0) rfl (by decide) (by omega) (by omega)).mpr h9)
    refine lv_iload_n hx hb dX3_mayFollow_4 rfl (lv_at hl 1 rfl) ?_
    refine lv_if_eq (tgt := 13) hx hb dX3_mayFollow_5 (by decide) (fun c_4 => ?_) (fun c_4 => ?_)
    · have k_5 : j = 0 := (he_ceq (a := j) (b := 0) rfl (by decide) (by omega) (by omega)).mp c_4
      refine lv_iconst (v := 1) hx hb dX3_mayFollow_13 (by decide) ?_
      refine lv_goto (tgt := 18) hx hb dX3_mayFollow_14 (by decide) ?_
      exact he_rz hQ hx hb hr hlk hP hD hS dX3_mayFollow_18 (Nat.le_of_ble_eq_true rfl) (Nat.le_of_ble_eq_true rfl) rfl (()) (rfl) (by simp [mfF]; omega)
    · have k_6 : ¬ (j = 0) := fun h9 => c_4 ((he_ceq (a := j) (b := 0) rfl (by decide) (by omega) (by omega)).mpr h9)
      refine lv_iload_n hx hb dX3_mayFollow_8 rfl (lv_at hl 0 rfl) ?_
      refine lv_iload_n hx hb dX3_mayFollow_9 rfl (lv_at hl 1 rfl) ?_
      refine lv_icmp_ne (tgt := 17) hx hb dX3_mayFollow_10 (by decide) (fun c_7 => ?_) (fun c_7 => ?_)
      · have k_8 : ¬ (i = j) := fun h9 => c_7 ((he_ceq (a := i) (b := j) rfl rfl (by omega) (by omega)).mpr h9)
        refine lv_iconst (v := 0) hx hb dX3_mayFollow_17 (by decide) ?_
        exact he_rz hQ hx hb hr hlk hP hD hS dX3_mayFollow_18 (Nat.le_of_ble_eq_true rfl) (Nat.le_of_ble_eq_true rfl) rfl (()) (rfl) (by simp [mfF]; omega)
      · have k_9 : i = j := (he_ceq (a := i) (b := j) rfl rfl (by omega) (by omega)).mp c_7
        refine lv_iconst (v := 1) hx hb dX3_mayFollow_13 (by decide) ?_
        refine lv_goto (tgt := 18) hx hb dX3_mayFollow_14 (by decide) ?_
        exact he_rz hQ hx hb hr hlk hP hD hS dX3_mayFollow_18 (Nat.le_of_ble_eq_true rfl) (Nat.le_of_ble_eq_true rfl) rfl (()) (rfl) (by simp [mfF]; omega)
set_option maxHeartbeats 4000000 in
set_option maxRecDepth 100000 in
theorem c_X3_through0 (l : Launch) (g : he_G) (e0 : Nat) (e1 : Nat) (e2 : Nat) (i : Nat) (j : Nat) (hi : i < 12) (hj : j < 3) : he_I l yX3_through wsX3_through 0 0 0 0 g [.ref e0, .int (nI i), .int (nI j)] [(e0, .inr (3, [.ref e1, .ref e2])), (e1, .inl (g.2 1, 36, .inl (fun _ => 0))), (e2, .inl (g.2 1, 39, .inl (fun _ => 0)))] (fun (r : Int32) (u : Unit) => r = 0) (fun (u : Unit) => [(e0, .inr (3, [.ref e1, .ref e2])), (e1, .inl (g.2 1, 36, .inl (fun _ => 0))), (e2, .inl (g.2 1, 39, .inl (fun _ => 0)))]) := by
  refine he_begin (l := l) (g := g) (y := yX3_through) (wl := wsX3_through) (fr := 0) (lo := 0) (mc := 0) (ms := 0) (av := [.ref e0, .int (nI i), .int (nI j)]) (ws := [(e0, .inr (3, [.ref e1, .ref e2])), (e1, .inl (g.2 1, 36, .inl (fun _ => 0))), (e2, .inl (g.2 1, 39, .inl (fun _ => 0)))]) (cc := cX3_through) (maxL := 3) (ret := (some .int)) (fun A => va_Qi (fun (r : Int32) (u : Unit) => r = 0) (fun u t => he_post g A ((fun (u : Unit) => [(e0, .inr (3, [.ref e1, .ref e2])), (e1, .inl (g.2 1, 36, .inl (fun _ => 0))), (e2, .inl (g.2 1, 39, .inl (fun _ => 0)))]) u) t) A) (by decide) rfl (Nat.le_of_ble_eq_true rfl) ?_
  intro p e s m args below meth c A ls H locs Q hQ hB
  obtain ⟨hx, hb, hr, hml, hown, hts, hlk, hin, hP, hK, hD, hS, hA, hE, hl⟩ := hB
  have hl : lv_has ls 3 [(0, .ref e0), (1, .int (nI i)), (2, .int (nI j))] := hl
  have f9 := hts (.fieldLink RX3 9 "HiredEnemy$Bids" "coins" "[I") (by decide +kernel)
  have inX3 : ∀ w ∈ wsX30, w ∈ wsX3_through := by decide +kernel
  have f13 := hts (.fieldLink RX3 13 "HiredEnemy$Bids" "rest" "[I") (by decide +kernel)
  refine lv_aload_n hx hb dX3_through_0 rfl (lv_at hl 0 rfl) ?_
  refine va_get (v := .ref e1) (T := TX3) (N := 2) hx hb hts inX3 hown hK hP 0 rfl rfl 0 (by decide) f9 (fun _ h9 => h9) rfl dX3_through_1 ?_
  refine lv_iload_n hx hb dX3_through_4 rfl (lv_at hl 1 rfl) ?_
  refine lv_iconst (v := 3) hx hb dX3_through_5 (by decide) ?_
  refine lv_imul hx hb dX3_through_6 ?_
  refine he_top (nI (i * 3)) (pk_mul i 3) ?_
  refine lv_iload_n hx hb dX3_through_7 rfl (lv_at hl 2 rfl) ?_
  refine lv_iadd hx hb dX3_through_8 ?_
  refine he_top (nI (i * 3 + j)) (nI_add (i * 3) j) ?_
  refine he_iald hx hb hK hP 1 rfl (i * 3 + j) rfl (by first | assumption | decide | omega) (by first | decide | assumption) (0) rfl dX3_through_9 ?_
  refine lv_aload_n hx hb dX3_through_10 rfl (lv_at hl 0 rfl) ?_
  refine va_get (v := .ref e2) (T := TX3) (N := 2) hx hb hts inX3 hown hK hP 0 rfl rfl 1 (by decide) f13 (fun _ h9 => h9) rfl dX3_through_11 ?_
  refine lv_iload_n hx hb dX3_through_14 rfl (lv_at hl 1 rfl) ?_
  refine lv_iconst (v := 1) hx hb dX3_through_15 (by decide) ?_
  refine lv_iadd hx hb dX3_through_16 ?_
  refine he_top (nI (i + 1)) (nI_add i 1) ?_
  refine lv_iconst (v := 3) hx hb dX3_through_17 (by decide) ?_
  refine lv_imul hx hb dX3_through_18 ?_
  refine he_top (nI ((i + 1) * 3)) (pk_mul (i + 1) 3) ?_
  refine lv_iload_n hx hb dX3_through_19 rfl (lv_at hl 2 rfl) ?_
  refine lv_iadd hx hb dX3_through_20 ?_
  refine he_top (nI ((i + 1) * 3 + j)) (nI_add ((i + 1) * 3) j) ?_
  refine he_iald hx hb hK hP 2 rfl ((i + 1) * 3 + j) rfl (by first | assumption | decide | omega) (by first | decide | assumption) (0) rfl dX3_through_21 ?_
  refine lv_iadd hx hb dX3_through_22 ?_
  refine he_top (0) (by decide) ?_
  exact he_ri hQ hx hb hr hlk hP hD hS dX3_through_23 (Nat.le_of_ble_eq_true rfl) (Nat.le_of_ble_eq_true rfl) (()) (rfl) (rfl)
set_option maxHeartbeats 4000000 in
set_option maxRecDepth 100000 in
theorem c_X3_mostFrom0 (l : Launch) (g : he_G) (e0 : Nat) (e1 : Nat) (e2 : Nat) (i : Nat) (j : Nat) (hi : i < 12) (hj : j < 3) : he_I l yX3_mostFrom wsX3_mostFrom 1 22 0 0 g [.ref e0, .int (nI i), .int (nI j)] [(e0, .inr (3, [.ref e1, .ref e2])), (e1, .inl (g.2 1, 36, .inl (fun _ => 0))), (e2, .inl (g.2 1, 39, .inl (fun _ => 0)))] (fun (r : Int32) (u : Unit) => r = 0) (fun (u : Unit) => [(e0, .inr (3, [.ref e1, .ref e2])), (e1, .inl (g.2 1, 36, .inl (fun _ => 0))), (e2, .inl (g.2 1, 39, .inl (fun _ => 0)))]) := by
  refine he_begin (l := l) (g := g) (y := yX3_mostFrom) (wl := wsX3_mostFrom) (fr := 1) (lo := 22) (mc := 0) (ms := 0) (av := [.ref e0, .int (nI i), .int (nI j)]) (ws := [(e0, .inr (3, [.ref e1, .ref e2])), (e1, .inl (g.2 1, 36, .inl (fun _ => 0))), (e2, .inl (g.2 1, 39, .inl (fun _ => 0)))]) (cc := cX3_mostFrom) (maxL := 5) (ret := (some .int)) (fun A => va_Qi (fun (r : Int32) (u : Unit) => r = 0) (fun u t => he_post g A ((fun (u : Unit) => [(e0, .inr (3, [.ref e1, .ref e2])), (e1, .inl (g.2 1, 36, .inl (fun _ => 0))), (e2, .inl (g.2 1, 39, .inl (fun _ => 0)))]) u) t) A) (by decide) rfl (Nat.le_of_ble_eq_true rfl) ?_
  intro p e s m args below meth c A ls H locs Q hQ hB
  obtain ⟨hx, hb, hr, hml, hown, hts, hlk, hin, hP, hK, hD, hS, hA, hE, hl⟩ := hB
  have hl : lv_has ls 5 [(0, .ref e0), (1, .int (nI i)), (2, .int (nI j))] := hl
  have ml33 := hts (.methodLink RX3 33 Lib.Math.max.name) (by decide +kernel)
  have msmax := hts (.static Lib.Math.max.name) (by decide +kernel)
  have mi := hts (.initialized "java/lang/Math") (by decide +kernel)
  have mcmax := hts (.code Lib.Math.max.name Lib.Math.max.code 2 (some .int)) (by decide +kernel)
  refine lv_iconst (v := 0) hx hb dX3_mostFrom_0 (by decide) ?_
  refine lv_istore_n (lv' := [(3, .int 0), (0, .ref e0), (1, .int (nI i)), (2, .int (nI j))]) hx hb dX3_mostFrom_1 rfl hl (by decide) rfl (fun ls hl => ?_)
  refine lv_iconst (v := 0) hx hb dX3_mostFrom_2 (by decide) ?_
  refine lv_istore (lv' := [(4, .int 0), (3, .int 0), (0, .ref e0), (1, .int (nI i)), (2, .int (nI j))]) hx hb dX3_mostFrom_3 hl (by decide) rfl (fun ls hl => ?_)
  have loop5 : ∀ (n9 : Nat) (k : Nat), 3 - k < n9 → (k ≤ 3) → ∀ (H : Heap) (locs : List Loc) (ls : Array Slot), va_P g.1 vwCl [(e0, .inr (3, [.ref e1, .ref e2])), (e1, .inl (g.2 1, 36, .inl (fun _ => 0))), (e2, .inl (g.2 1, 39, .inl (fun _ => 0)))] H → va_D A [(e0, .inr (3, [.ref e1, .ref e2])), (e1, .inl (g.2 1, 36, .inl (fun _ => 0))), (e2, .inl (g.2 1, 39, .inl (fun _ => 0)))] → va_S A s.heap H locs → lv_has ls 5 [(0, .ref e0), (1, .int (nI i)), (2, .int (nI j)), (3, .int 0), (4, .int (nI k))] → W p l e (he_room 1 22 0 0) s m args below meth c H locs 0 0 Q (F0 m 5 ls []) := by
    intro n9
    induction n9 with
    | zero => intro k hm9; exact absurd hm9 (Nat.not_lt_zero _)
    | succ n9 ih5 =>
      intro k hm9 hk H locs ls hP hD hS hl
      refine lv_iload hx hb dX3_mostFrom_5 (lv_at hl 4 rfl) ?_
      refine lv_iconst (v := 3) hx hb dX3_mostFrom_7 (by decide) ?_
      refine lv_icmp_ge (tgt := 38) hx hb dX3_mostFrom_8 (by decide) (fun c_1 => ?_) (fun c_1 => ?_)
      · have k_2 : 3 ≤ k := (he_cle (a := 3) (b := k) (by decide) rfl (by omega) (by omega)).mp c_1
        refine lv_iload_n hx hb dX3_mostFrom_38 rfl (lv_at hl 3 rfl) ?_
        exact he_ri hQ hx hb hr hlk hP hD hS dX3_mostFrom_39 (Nat.le_of_ble_eq_true rfl) (Nat.le_of_ble_eq_true rfl) (()) (rfl) (rfl)
      · have k_3 : ¬ (3 ≤ k) := fun h9 => c_1 ((he_cle (a := 3) (b := k) (by decide) rfl (by omega) (by omega)).mpr h9)
        refine lv_iload_n hx hb dX3_mostFrom_11 rfl (lv_at hl 2 rfl) ?_
        refine lv_iload hx hb dX3_mostFrom_12 (lv_at hl 4 rfl) ?_
        refine he_ci (wc := []) (wr := [(e0, .inr (3, [.ref e1, .ref e2])), (e1, .inl (g.2 1, 36, .inl (fun _ => 0))), (e2, .inl (g.2 1, 39, .inl (fun _ => 0)))]) (va_runS (As := [.int (nI j), .int (nI k)]) (rest := []) ⟨hx, hb, hml, hown, hts⟩ (c_X3_mayFollow l g j k (by first | assumption | decide | omega) (by first | assumption | decide | omega) H.size) (va_cwS 2 hts gX3_mostFrom_X3_mayFollow rfl rfl rfl (by decide +kernel) ⟨Nat.le_of_ble_eq_true rfl, Nat.le_of_ble_eq_true rfl⟩) (he_preS (wc := []) hK hP hD hS hA hE [] rfl rfl) rfl rfl hl.1 rfl (lv_room (Nat.le_of_ble_eq_true rfl)) dX3_mostFrom_14 ⟨(Nat.le_of_ble_eq_true rfl), (Nat.le_of_ble_eq_true rfl)⟩) hP hD hS hA [] [0, 1, 2] rfl rfl rfl (by decide) (fun r_4 u_5 H locs h_6 hP hD hS => ?_)
        subst h_6
        have hP : va_P g.1 vwCl [(e0, .inr (3, [.ref e1, .ref e2])), (e1, .inl (g.2 1, 36, .inl (fun _ => 0))), (e2, .inl (g.2 1, 39, .inl (fun _ => 0)))] H := hP
        have hD : va_D A [(e0, .inr (3, [.ref e1, .ref e2])), (e1, .inl (g.2 1, 36, .inl (fun _ => 0))), (e2, .inl (g.2 1, 39, .inl (fun _ => 0)))] := hD
        refine lv_if_eq (tgt := 32) hx hb dX3_mostFrom_17 (by decide) (fun c_7 => ?_) (fun c_7 => ?_)
        · refine lv_iinc (v := nI (k + 1)) (lv' := [(4, .int (nI (k + 1))), (0, .ref e0), (1, .int (nI i)), (2, .int (nI j)), (3, .int 0)]) hx hb dX3_mostFrom_32 hl (k := 4) rfl (nI_1 k) (by decide) rfl (fun ls hl => ?_)
          refine lv_goto (tgt := 5) hx hb dX3_mostFrom_35 (by decide) ?_
          exact ih5 (k + 1) (by omega) (by omega) _ _ _ hP hD hS (lv_sub hl [1, 2, 3, 4, 0] rfl)
        · refine lv_iload_n hx hb dX3_mostFrom_20 rfl (lv_at hl 3 rfl) ?_
          refine lv_aload_n hx hb dX3_mostFrom_21 rfl (lv_at hl 0 rfl) ?_
          refine lv_iload_n hx hb dX3_mostFrom_22 rfl (lv_at hl 1 rfl) ?_
          refine lv_iload hx hb dX3_mostFrom_23 (lv_at hl 4 rfl) ?_
          refine he_ci (wc := [(e0, .inr (3, [.ref e1, .ref e2])), (e1, .inl (g.2 1, 36, .inl (fun _ => 0))), (e2, .inl (g.2 1, 39, .inl (fun _ => 0)))]) (wr := []) (va_runV (As := [.int (nI i), .int (nI k)]) (rest := [.int 0]) ⟨hx, hb, hml, hown, hts⟩ (c_X3_through0 l g e0 e1 e2 i k (by first | assumption | decide | omega) (by first | assumption | decide | omega) H.size) (cwV 2 hts gX3_mostFrom_X3_through rfl rfl rfl (by decide +kernel) ⟨Nat.le_of_ble_eq_true rfl, Nat.le_of_ble_eq_true rfl⟩) (he_preV (wc := [(e0, .inr (3, [.ref e1, .ref e2])), (e1, .inl (g.2 1, 36, .inl (fun _ => 0))), (e2, .inl (g.2 1, 39, .inl (fun _ => 0)))]) hK hP hD hS hA hE [0, 1, 2] rfl rfl 0 rfl rfl) rfl rfl hl.1 rfl (lv_room (Nat.le_of_ble_eq_true rfl)) dX3_mostFrom_25 ⟨(Nat.le_of_ble_eq_true rfl), (Nat.le_of_ble_eq_true rfl)⟩) hP hD hS hA [0, 1, 2] [] rfl rfl rfl (by decide) (fun r_8 u_9 H locs h_10 hP hD hS => ?_)
          subst h_10
          have hP : va_P g.1 vwCl [(e0, .inr (3, [.ref e1, .ref e2])), (e1, .inl (g.2 1, 36, .inl (fun _ => 0))), (e2, .inl (g.2 1, 39, .inl (fun _ => 0)))] H := hP
          have hD : va_D A [(e0, .inr (3, [.ref e1, .ref e2])), (e1, .inl (g.2 1, 36, .inl (fun _ => 0))), (e2, .inl (g.2 1, 39, .inl (fun _ => 0)))] := hD
          refine va_mmax hx hb (by rw [hml]; exact hl.1.symm) hown ml33 msmax mi mcmax (by decide) (Nat.le_of_ble_eq_true rfl) (Nat.le_of_ble_eq_true rfl) (Nat.le_of_ble_eq_true rfl) dX3_mostFrom_28 ?_
          refine he_top (0) (by decide) ?_
          refine lv_istore_n (lv' := [(3, .int 0), (0, .ref e0), (1, .int (nI i)), (2, .int (nI j)), (4, .int (nI k))]) hx hb dX3_mostFrom_31 rfl hl (by decide) rfl (fun ls hl => ?_)
          refine lv_iinc (v := nI (k + 1)) (lv' := [(4, .int (nI (k + 1))), (3, .int 0), (0, .ref e0), (1, .int (nI i)), (2, .int (nI j))]) hx hb dX3_mostFrom_32 hl (k := 4) rfl (nI_1 k) (by decide) rfl (fun ls hl => ?_)
          refine lv_goto (tgt := 5) hx hb dX3_mostFrom_35 (by decide) ?_
          exact ih5 (k + 1) (by omega) (by omega) _ _ _ hP hD hS (lv_sub hl [2, 3, 4, 1, 0] rfl)
  exact loop5 ((3 - 0) + 1) 0 (Nat.lt_succ_self _) (Nat.zero_le _) _ _ _ hP hD hS (lv_sub hl [2, 3, 4, 1, 0] rfl)
set_option maxHeartbeats 4000000 in
set_option maxRecDepth 100000 in
theorem c_X4_passP (l : Launch) (g : he_G) (h0 : Nat) (q0 : Nat) (q1 : Nat) (mo : Int32) (f : Nat → Int32) (sh : Nat → Int32) (p0 : Nat) (p1 : Nat) (p2 : Nat) (p3 : Nat) (p4 : Nat) (sd : Nat → Int32) (fn : Nat → Int32) (st : Nat → Int32) (me : Nat → Int32) (t0 : Nat) (t1 : Nat) (t2 : Nat) (pw : Int32) (pd : Nat → Int32) (wb : Nat → Int32) (hwd : ∀ x, wdF wb x 0 = -1) : he_V l yX4_pass wsX4_pass 3 73 0 0 g [.ref h0, .ref p0, .ref t0] [(h0, .inr (4, [.ref q0, .ref q1, .int mo])), (q0, .inl (g.2 1, 24, .inl f)), (q1, .inl (g.2 1, 6, .inl sh)), (p0, .inr (6, [.ref p1, .ref p2, .ref p3, .ref p4, .int 0])), (p1, .inl (g.2 1, 24, .inl sd)), (p2, .inl (g.2 1, 10, .inl fn)), (p3, .inl (g.2 1, 6, .inl st)), (p4, .inl (g.2 1, 6, .inl me)), (t0, .inr (5, [.ref t1, .ref t2, .int pw])), (t1, .inl (g.2 1, 6, .inl pd)), (t2, .inl (g.2 1, 36, .inl wb))] (fun (u : Unit) => True) (fun (u : Unit) => [(h0, .inr (4, [.ref q0, .ref q1, .int (mo + 1)])), (q0, .inl (g.2 1, 24, .inl (pasP sd fn st me pd f mo))), (q1, .inl (g.2 1, 6, .inl (flF (fun _ => 0) sh 6))), (p0, .inr (6, [.ref p1, .ref p2, .ref p3, .ref p4, .int 0])), (p1, .inl (g.2 1, 24, .inl sd)), (p2, .inl (g.2 1, 10, .inl fn)), (p3, .inl (g.2 1, 6, .inl st)), (p4, .inl (g.2 1, 6, .inl me)), (t0, .inr (5, [.ref t1, .ref t2, .int pw])), (t1, .inl (g.2 1, 6, .inl pd)), (t2, .inl (g.2 1, 36, .inl wb))]) := by
  refine he_begin (l := l) (g := g) (y := yX4_pass) (wl := wsX4_pass) (fr := 3) (lo := 73) (mc := 0) (ms := 0) (av := [.ref h0, .ref p0, .ref t0]) (ws := [(h0, .inr (4, [.ref q0, .ref q1, .int mo])), (q0, .inl (g.2 1, 24, .inl f)), (q1, .inl (g.2 1, 6, .inl sh)), (p0, .inr (6, [.ref p1, .ref p2, .ref p3, .ref p4, .int 0])), (p1, .inl (g.2 1, 24, .inl sd)), (p2, .inl (g.2 1, 10, .inl fn)), (p3, .inl (g.2 1, 6, .inl st)), (p4, .inl (g.2 1, 6, .inl me)), (t0, .inr (5, [.ref t1, .ref t2, .int pw])), (t1, .inl (g.2 1, 6, .inl pd)), (t2, .inl (g.2 1, 36, .inl wb))]) (cc := cX4_pass) (maxL := 3) (ret := none) (fun A => va_Qv (fun (u : Unit) => True) (fun u t => he_post g A ((fun (u : Unit) => [(h0, .inr (4, [.ref q0, .ref q1, .int (mo + 1)])), (q0, .inl (g.2 1, 24, .inl (pasP sd fn st me pd f mo))), (q1, .inl (g.2 1, 6, .inl (flF (fun _ => 0) sh 6))), (p0, .inr (6, [.ref p1, .ref p2, .ref p3, .ref p4, .int 0])), (p1, .inl (g.2 1, 24, .inl sd)), (p2, .inl (g.2 1, 10, .inl fn)), (p3, .inl (g.2 1, 6, .inl st)), (p4, .inl (g.2 1, 6, .inl me)), (t0, .inr (5, [.ref t1, .ref t2, .int pw])), (t1, .inl (g.2 1, 6, .inl pd)), (t2, .inl (g.2 1, 36, .inl wb))]) u) t) A) (by decide) rfl (Nat.le_of_ble_eq_true rfl) ?_
  intro p e s m args below meth c A ls H locs Q hQ hB
  obtain ⟨hx, hb, hr, hml, hown, hts, hlk, hin, hP, hK, hD, hS, hA, hE, hl⟩ := hB
  have hl : lv_has ls 3 [(0, .ref h0), (1, .ref p0), (2, .ref t0)] := hl
  have f15 := hts (.fieldLink RX4 15 "HiredEnemy$Course" "shot" "[I") (by decide +kernel)
  have inX4 : ∀ w ∈ wsX40, w ∈ wsX4_pass := by decide +kernel
  have f9 := hts (.fieldLink RX4 9 "HiredEnemy$Course" "now" "[I") (by decide +kernel)
  have f28 := hts (.fieldLink RX4 28 "HiredEnemy$Plan" "said" "[I") (by decide +kernel)
  have inX6 : ∀ w ∈ wsX60, w ∈ wsX4_pass := by decide +kernel
  have f57 := hts (.fieldLink RX4 57 "HiredEnemy$Pact" "said" "[I") (by decide +kernel)
  have inX5 : ∀ w ∈ wsX50, w ∈ wsX4_pass := by decide +kernel
  have ml68 := hts (.methodLink RX4 68 Lib.Math.max.name) (by decide +kernel)
  have msmax := hts (.static Lib.Math.max.name) (by decide +kernel)
  have mi := hts (.initialized "java/lang/Math") (by decide +kernel)
  have mcmax := hts (.code Lib.Math.max.name Lib.Math.max.code 2 (some .int)) (by decide +kernel)
  have f18 := hts (.fieldLink RX4 18 "HiredEnemy$Course" "month" "I") (by decide +kernel)
  refine lv_aload_n hx hb dX4_pass_0 rfl (lv_at hl 0 rfl) ?_
  refine va_get (v := .ref q1) (T := TX4) (N := 3) hx hb hts inX4 hown hK hP 0 rfl rfl 1 (by decide) f15 (fun _ h9 => h9) rfl dX4_pass_1 ?_
  refine lv_iconst (v := 0) hx hb dX4_pass_4 (by decide) ?_
  refine he_cv (wc := [(q1, .inl (g.2 1, 6, .inl sh))]) (wr := [(h0, .inr (4, [.ref q0, .ref q1, .int mo])), (q0, .inl (g.2 1, 24, .inl f)), (p0, .inr (6, [.ref p1, .ref p2, .ref p3, .ref p4, .int 0])), (p1, .inl (g.2 1, 24, .inl sd)), (p2, .inl (g.2 1, 10, .inl fn)), (p3, .inl (g.2 1, 6, .inl st)), (p4, .inl (g.2 1, 6, .inl me)), (t0, .inr (5, [.ref t1, .ref t2, .int pw])), (t1, .inl (g.2 1, 6, .inl pd)), (t2, .inl (g.2 1, 36, .inl wb))]) (va_runS (As := [.ref q1, .int 0]) (rest := []) ⟨hx, hb, hml, hown, hts⟩ (c_J7_fill_53178 l g q1 6 sh 0 (by first | assumption | decide | omega) H.size) (va_cwS 2 hts gX4_pass_J7_fill_53178 rfl rfl rfl (by decide +kernel) ⟨Nat.le_of_ble_eq_true rfl, Nat.le_of_ble_eq_true rfl⟩) (he_preS (wc := [(q1, .inl (g.2 1, 6, .inl sh))]) hK hP hD hS hA hE [2] rfl rfl) rfl rfl hl.1 rfl (lv_room (Nat.le_of_ble_eq_true rfl)) dX4_pass_5 ⟨(Nat.le_of_ble_eq_true rfl), (Nat.le_of_ble_eq_true rfl)⟩) hP hD hS hA [2] [0, 1, 3, 4, 5, 6, 7, 8, 9, 10] rfl rfl rfl (by decide) (fun u_2 H locs h_3 hP hD hS => ?_)
  have hP : va_P g.1 vwCl [(h0, .inr (4, [.ref q0, .ref q1, .int mo])), (q0, .inl (g.2 1, 24, .inl f)), (p0, .inr (6, [.ref p1, .ref p2, .ref p3, .ref p4, .int 0])), (p1, .inl (g.2 1, 24, .inl sd)), (p2, .inl (g.2 1, 10, .inl fn)), (p3, .inl (g.2 1, 6, .inl st)), (p4, .inl (g.2 1, 6, .inl me)), (t0, .inr (5, [.ref t1, .ref t2, .int pw])), (t1, .inl (g.2 1, 6, .inl pd)), (t2, .inl (g.2 1, 36, .inl wb)), (q1, .inl (g.2 1, 6, .inl (flF (fun _ => 0) sh 6)))] H := hP
  have hD : va_D A [(h0, .inr (4, [.ref q0, .ref q1, .int mo])), (q0, .inl (g.2 1, 24, .inl f)), (p0, .inr (6, [.ref p1, .ref p2, .ref p3, .ref p4, .int 0])), (p1, .inl (g.2 1, 24, .inl sd)), (p2, .inl (g.2 1, 10, .inl fn)), (p3, .inl (g.2 1, 6, .inl st)), (p4, .inl (g.2 1, 6, .inl me)), (t0, .inr (5, [.ref t1, .ref t2, .int pw])), (t1, .inl (g.2 1, 6, .inl pd)), (t2, .inl (g.2 1, 36, .inl wb)), (q1, .inl (g.2 1, 6, .inl (flF (fun _ => 0) sh 6)))] := hD
  refine lv_aload_n hx hb dX4_pass_8 rfl (lv_at hl 0 rfl) ?_
  refine lv_iconst (v := 2) hx hb dX4_pass_9 (by decide) ?_
  refine lv_iconst (v := 0) hx hb dX4_pass_10 (by decide) ?_
  refine lv_aload_n hx hb dX4_pass_11 rfl (lv_at hl 0 rfl) ?_
  refine va_get (v := .ref q0) (T := TX4) (N := 3) hx hb hts inX4 hown hK hP 0 rfl rfl 0 (by decide) f9 (fun _ h9 => h9) rfl dX4_pass_12 ?_
  refine lv_iconst (v := 3) hx hb dX4_pass_15 (by decide) ?_
  refine he_iald hx hb hK hP 1 rfl (3) (by decide) (by decide) (by first | decide | assumption) (f 3) rfl dX4_pass_16 ?_
  refine lv_aload_n hx hb dX4_pass_17 rfl (lv_at hl 1 rfl) ?_
  refine va_get (v := .ref p1) (T := TX6) (N := 5) hx hb hts inX6 hown hK hP 2 rfl rfl 0 (by decide) f28 (fun _ h9 => h9) rfl dX4_pass_18 ?_
  refine lv_bipush (v := 10) hx hb dX4_pass_21 (by decide) ?_
  refine he_iald hx hb hK hP 3 rfl (10) (by decide) (by decide) (by first | decide | assumption) (sd 10) rfl dX4_pass_23 ?_
  refine lv_imul hx hb dX4_pass_24 ?_
  refine lv_aload_n hx hb dX4_pass_25 rfl (lv_at hl 0 rfl) ?_
  refine va_get (v := .ref q0) (T := TX4) (N := 3) hx hb hts inX4 hown hK hP 0 rfl rfl 0 (by decide) f9 (fun _ h9 => h9) rfl dX4_pass_26 ?_
  refine lv_iconst (v := 5) hx hb dX4_pass_29 (by decide) ?_
  refine he_iald hx hb hK hP 1 rfl (5) (by decide) (by decide) (by first | decide | assumption) (f 5) rfl dX4_pass_30 ?_
  refine lv_imul hx hb dX4_pass_31 ?_
  refine lv_sipush (v := 10000) hx hb dX4_pass_32 (by decide) ?_
  refine lv_idiv hx hb dX4_pass_35 (by decide) ?_
  refine he_cv (wc := [(h0, .inr (4, [.ref q0, .ref q1, .int mo])), (q0, .inl (g.2 1, 24, .inl f))]) (wr := [(p0, .inr (6, [.ref p1, .ref p2, .ref p3, .ref p4, .int 0])), (p1, .inl (g.2 1, 24, .inl sd)), (p2, .inl (g.2 1, 10, .inl fn)), (p3, .inl (g.2 1, 6, .inl st)), (p4, .inl (g.2 1, 6, .inl me)), (t0, .inr (5, [.ref t1, .ref t2, .int pw])), (t1, .inl (g.2 1, 6, .inl pd)), (t2, .inl (g.2 1, 36, .inl wb)), (q1, .inl (g.2 1, 6, .inl (flF (fun _ => 0) sh 6)))]) (va_runV (As := [.int 2, .int 0, .int ((((f 3) * (sd 10)) * (f 5)) / 10000)]) (rest := []) ⟨hx, hb, hml, hown, hts⟩ (c_X4_move l g h0 q0 q1 mo f 2 0 ((((f 3) * (sd 10)) * (f 5)) / 10000) (by first | assumption | decide | omega) (by first | assumption | decide | omega) H.size) (cwV 3 hts gX4_pass_X4_move rfl rfl rfl (by decide +kernel) ⟨Nat.le_of_ble_eq_true rfl, Nat.le_of_ble_eq_true rfl⟩) (he_preV (wc := [(h0, .inr (4, [.ref q0, .ref q1, .int mo])), (q0, .inl (g.2 1, 24, .inl f))]) hK hP hD hS hA hE [0, 1] rfl rfl 0 rfl rfl) rfl rfl hl.1 rfl (lv_room (Nat.le_of_ble_eq_true rfl)) dX4_pass_36 ⟨(Nat.le_of_ble_eq_true rfl), (Nat.le_of_ble_eq_true rfl)⟩) hP hD hS hA [0, 1] [2, 3, 4, 5, 6, 7, 8, 9, 10] rfl rfl rfl (by decide) (fun u_5 H locs h_6 hP hD hS => ?_)
  have hP : va_P g.1 vwCl [(p0, .inr (6, [.ref p1, .ref p2, .ref p3, .ref p4, .int 0])), (p1, .inl (g.2 1, 24, .inl sd)), (p2, .inl (g.2 1, 10, .inl fn)), (p3, .inl (g.2 1, 6, .inl st)), (p4, .inl (g.2 1, 6, .inl me)), (t0, .inr (5, [.ref t1, .ref t2, .int pw])), (t1, .inl (g.2 1, 6, .inl pd)), (t2, .inl (g.2 1, 36, .inl wb)), (q1, .inl (g.2 1, 6, .inl (flF (fun _ => 0) sh 6))), (h0, .inr (4, [.ref q0, .ref q1, .int mo])), (q0, .inl (g.2 1, 24, .inl (mvF f 2 0 ((((f 3) * (sd 10)) * (f 5)) / 10000))))] H := hP
  have hD : va_D A [(p0, .inr (6, [.ref p1, .ref p2, .ref p3, .ref p4, .int 0])), (p1, .inl (g.2 1, 24, .inl sd)), (p2, .inl (g.2 1, 10, .inl fn)), (p3, .inl (g.2 1, 6, .inl st)), (p4, .inl (g.2 1, 6, .inl me)), (t0, .inr (5, [.ref t1, .ref t2, .int pw])), (t1, .inl (g.2 1, 6, .inl pd)), (t2, .inl (g.2 1, 36, .inl wb)), (q1, .inl (g.2 1, 6, .inl (flF (fun _ => 0) sh 6))), (h0, .inr (4, [.ref q0, .ref q1, .int mo])), (q0, .inl (g.2 1, 24, .inl (mvF f 2 0 ((((f 3) * (sd 10)) * (f 5)) / 10000))))] := hD
  have hP : va_P g.1 vwCl [(p0, .inr (6, [.ref p1, .ref p2, .ref p3, .ref p4, .int 0])), (p1, .inl (g.2 1, 24, .inl sd)), (p2, .inl (g.2 1, 10, .inl fn)), (p3, .inl (g.2 1, 6, .inl st)), (p4, .inl (g.2 1, 6, .inl me)), (t0, .inr (5, [.ref t1, .ref t2, .int pw])), (t1, .inl (g.2 1, 6, .inl pd)), (t2, .inl (g.2 1, 36, .inl wb)), (q1, .inl (g.2 1, 6, .inl (flF (fun _ => 0) sh 6))), (h0, .inr (4, [.ref q0, .ref q1, .int mo])), (q0, .inl (g.2 1, 24, .inl (taxF sd f)))] H := hP
  have hD : va_D A [(p0, .inr (6, [.ref p1, .ref p2, .ref p3, .ref p4, .int 0])), (p1, .inl (g.2 1, 24, .inl sd)), (p2, .inl (g.2 1, 10, .inl fn)), (p3, .inl (g.2 1, 6, .inl st)), (p4, .inl (g.2 1, 6, .inl me)), (t0, .inr (5, [.ref t1, .ref t2, .int pw])), (t1, .inl (g.2 1, 6, .inl pd)), (t2, .inl (g.2 1, 36, .inl wb)), (q1, .inl (g.2 1, 6, .inl (flF (fun _ => 0) sh 6))), (h0, .inr (4, [.ref q0, .ref q1, .int mo])), (q0, .inl (g.2 1, 24, .inl (taxF sd f)))] := hD
  refine lv_aload_n hx hb dX4_pass_39 rfl (lv_at hl 2 rfl) ?_
  refine lv_ifnull hx hb dX4_pass_40 ?_
  refine lv_aload_n hx hb dX4_pass_43 rfl (lv_at hl 0 rfl) ?_
  refine lv_aload_n hx hb dX4_pass_44 rfl (lv_at hl 2 rfl) ?_
  rcases Decidable.em (payF pd mo ≤ taxF sd f 0) with hs_7 | hs_7
  · refine he_ci (wc := [(h0, .inr (4, [.ref q0, .ref q1, .int mo])), (q0, .inl (g.2 1, 24, .inl (taxF sd f))), (t0, .inr (5, [.ref t1, .ref t2, .int pw])), (t1, .inl (g.2 1, 6, .inl pd))]) (wr := [(p0, .inr (6, [.ref p1, .ref p2, .ref p3, .ref p4, .int 0])), (p1, .inl (g.2 1, 24, .inl sd)), (p2, .inl (g.2 1, 10, .inl fn)), (p3, .inl (g.2 1, 6, .inl st)), (p4, .inl (g.2 1, 6, .inl me)), (t2, .inl (g.2 1, 36, .inl wb)), (q1, .inl (g.2 1, 6, .inl (flF (fun _ => 0) sh 6)))]) (va_runV (As := [.ref t0]) (rest := []) ⟨hx, hb, hml, hown, hts⟩ (c_X4_isPaid1 l g h0 q0 q1 mo (taxF sd f) t0 t1 t2 pw pd (by first | assumption | decide | omega) H.size) (cwV 1 hts gX4_pass_X4_isPaid rfl rfl rfl (by decide +kernel) ⟨Nat.le_of_ble_eq_true rfl, Nat.le_of_ble_eq_true rfl⟩) (he_preV (wc := [(h0, .inr (4, [.ref q0, .ref q1, .int mo])), (q0, .inl (g.2 1, 24, .inl (taxF sd f))), (t0, .inr (5, [.ref t1, .ref t2, .int pw])), (t1, .inl (g.2 1, 6, .inl pd))]) hK hP hD hS hA hE [9, 10, 5, 6] rfl rfl 9 rfl rfl) rfl rfl hl.1 rfl (lv_room (Nat.le_of_ble_eq_true rfl)) dX4_pass_45 ⟨(Nat.le_of_ble_eq_true rfl), (Nat.le_of_ble_eq_true rfl)⟩) hP hD hS hA [9, 10, 5, 6] [0, 1, 2, 3, 4, 7, 8] rfl rfl rfl (by decide) (fun r_8 u_9 H locs h_10 hP hD hS => ?_)
    subst h_10
    have hP : va_P g.1 vwCl [(p0, .inr (6, [.ref p1, .ref p2, .ref p3, .ref p4, .int 0])), (p1, .inl (g.2 1, 24, .inl sd)), (p2, .inl (g.2 1, 10, .inl fn)), (p3, .inl (g.2 1, 6, .inl st)), (p4, .inl (g.2 1, 6, .inl me)), (t2, .inl (g.2 1, 36, .inl wb)), (q1, .inl (g.2 1, 6, .inl (flF (fun _ => 0) sh 6))), (h0, .inr (4, [.ref q0, .ref q1, .int mo])), (q0, .inl (g.2 1, 24, .inl (mvF (taxF sd f) 0 1 (payF pd mo)))), (t0, .inr (5, [.ref t1, .ref t2, .int pw])), (t1, .inl (g.2 1, 6, .inl pd))] H := hP
    have hD : va_D A [(p0, .inr (6, [.ref p1, .ref p2, .ref p3, .ref p4, .int 0])), (p1, .inl (g.2 1, 24, .inl sd)), (p2, .inl (g.2 1, 10, .inl fn)), (p3, .inl (g.2 1, 6, .inl st)), (p4, .inl (g.2 1, 6, .inl me)), (t2, .inl (g.2 1, 36, .inl wb)), (q1, .inl (g.2 1, 6, .inl (flF (fun _ => 0) sh 6))), (h0, .inr (4, [.ref q0, .ref q1, .int mo])), (q0, .inl (g.2 1, 24, .inl (mvF (taxF sd f) 0 1 (payF pd mo)))), (t0, .inr (5, [.ref t1, .ref t2, .int pw])), (t1, .inl (g.2 1, 6, .inl pd))] := hD
    have hP : va_P g.1 vwCl [(p0, .inr (6, [.ref p1, .ref p2, .ref p3, .ref p4, .int 0])), (p1, .inl (g.2 1, 24, .inl sd)), (p2, .inl (g.2 1, 10, .inl fn)), (p3, .inl (g.2 1, 6, .inl st)), (p4, .inl (g.2 1, 6, .inl me)), (t2, .inl (g.2 1, 36, .inl wb)), (q1, .inl (g.2 1, 6, .inl (flF (fun _ => 0) sh 6))), (h0, .inr (4, [.ref q0, .ref q1, .int mo])), (q0, .inl (g.2 1, 24, .inl (mvF (taxF sd f) 0 1 (payF pd mo)))), (t0, .inr (5, [.ref t1, .ref t2, .int pw])), (t1, .inl (g.2 1, 6, .inl pd))] H := hP
    have hD : va_D A [(p0, .inr (6, [.ref p1, .ref p2, .ref p3, .ref p4, .int 0])), (p1, .inl (g.2 1, 24, .inl sd)), (p2, .inl (g.2 1, 10, .inl fn)), (p3, .inl (g.2 1, 6, .inl st)), (p4, .inl (g.2 1, 6, .inl me)), (t2, .inl (g.2 1, 36, .inl wb)), (q1, .inl (g.2 1, 6, .inl (flF (fun _ => 0) sh 6))), (h0, .inr (4, [.ref q0, .ref q1, .int mo])), (q0, .inl (g.2 1, 24, .inl (mvF (taxF sd f) 0 1 (payF pd mo)))), (t0, .inr (5, [.ref t1, .ref t2, .int pw])), (t1, .inl (g.2 1, 6, .inl pd))] := hD
    refine lv_if_eq (tgt := 71) hx hb dX4_pass_48 (by decide) (fun c_11 => ?_) (fun c_11 => ?_)
    · exact absurd c_11 (by decide)
    · refine lv_aload_n hx hb dX4_pass_51 rfl (lv_at hl 0 rfl) ?_
      refine lv_aload_n hx hb dX4_pass_52 rfl (lv_at hl 1 rfl) ?_
      refine lv_aload_n hx hb dX4_pass_53 rfl (lv_at hl 2 rfl) ?_
      refine he_cv (wc := [(h0, .inr (4, [.ref q0, .ref q1, .int mo])), (q0, .inl (g.2 1, 24, .inl (mvF (taxF sd f) 0 1 (payF pd mo)))), (p0, .inr (6, [.ref p1, .ref p2, .ref p3, .ref p4, .int 0])), (t0, .inr (5, [.ref t1, .ref t2, .int pw])), (t1, .inl (g.2 1, 6, .inl pd)), (t2, .inl (g.2 1, 36, .inl wb))]) (wr := [(p1, .inl (g.2 1, 24, .inl sd)), (p2, .inl (g.2 1, 10, .inl fn)), (p3, .inl (g.2 1, 6, .inl st)), (p4, .inl (g.2 1, 6, .inl me)), (q1, .inl (g.2 1, 6, .inl (flF (fun _ => 0) sh 6)))]) (va_runV (As := [.ref p0, .ref t0]) (rest := []) ⟨hx, hb, hml, hown, hts⟩ (c_X4_shoot0 l g h0 q0 q1 mo (mvF (taxF sd f) 0 1 (payF pd mo)) p0 p1 p2 p3 p4 t0 t1 t2 pw pd wb (hwd _) H.size) (cwV 2 hts gX4_pass_X4_shoot rfl rfl rfl (by decide +kernel) ⟨Nat.le_of_ble_eq_true rfl, Nat.le_of_ble_eq_true rfl⟩) (he_preV (wc := [(h0, .inr (4, [.ref q0, .ref q1, .int mo])), (q0, .inl (g.2 1, 24, .inl (mvF (taxF sd f) 0 1 (payF pd mo)))), (p0, .inr (6, [.ref p1, .ref p2, .ref p3, .ref p4, .int 0])), (t0, .inr (5, [.ref t1, .ref t2, .int pw])), (t1, .inl (g.2 1, 6, .inl pd)), (t2, .inl (g.2 1, 36, .inl wb))]) hK hP hD hS hA hE [7, 8, 0, 9, 10, 5] rfl rfl 7 rfl rfl) rfl rfl hl.1 rfl (lv_room (Nat.le_of_ble_eq_true rfl)) dX4_pass_54 ⟨(Nat.le_of_ble_eq_true rfl), (Nat.le_of_ble_eq_true rfl)⟩) hP hD hS hA [7, 8, 0, 9, 10, 5] [1, 2, 3, 4, 6] rfl rfl rfl (by decide) (fun u_13 H locs h_14 hP hD hS => ?_)
      have hP : va_P g.1 vwCl [(p1, .inl (g.2 1, 24, .inl sd)), (p2, .inl (g.2 1, 10, .inl fn)), (p3, .inl (g.2 1, 6, .inl st)), (p4, .inl (g.2 1, 6, .inl me)), (q1, .inl (g.2 1, 6, .inl (flF (fun _ => 0) sh 6))), (h0, .inr (4, [.ref q0, .ref q1, .int mo])), (q0, .inl (g.2 1, 24, .inl (mvF (taxF sd f) 0 1 (payF pd mo)))), (p0, .inr (6, [.ref p1, .ref p2, .ref p3, .ref p4, .int 0])), (t0, .inr (5, [.ref t1, .ref t2, .int pw])), (t1, .inl (g.2 1, 6, .inl pd)), (t2, .inl (g.2 1, 36, .inl wb))] H := hP
      have hD : va_D A [(p1, .inl (g.2 1, 24, .inl sd)), (p2, .inl (g.2 1, 10, .inl fn)), (p3, .inl (g.2 1, 6, .inl st)), (p4, .inl (g.2 1, 6, .inl me)), (q1, .inl (g.2 1, 6, .inl (flF (fun _ => 0) sh 6))), (h0, .inr (4, [.ref q0, .ref q1, .int mo])), (q0, .inl (g.2 1, 24, .inl (mvF (taxF sd f) 0 1 (payF pd mo)))), (p0, .inr (6, [.ref p1, .ref p2, .ref p3, .ref p4, .int 0])), (t0, .inr (5, [.ref t1, .ref t2, .int pw])), (t1, .inl (g.2 1, 6, .inl pd)), (t2, .inl (g.2 1, 36, .inl wb))] := hD
      refine lv_aload_n hx hb dX4_pass_57 rfl (lv_at hl 0 rfl) ?_
      refine lv_aload_n hx hb dX4_pass_58 rfl (lv_at hl 1 rfl) ?_
      refine lv_aload_n hx hb dX4_pass_59 rfl (lv_at hl 2 rfl) ?_
      refine va_get (v := .ref t1) (T := TX5) (N := 3) hx hb hts inX5 hown hK hP 8 rfl rfl 0 (by decide) f57 (fun _ h9 => h9) rfl dX4_pass_60 ?_
      refine lv_iconst (v := 2) hx hb dX4_pass_63 (by decide) ?_
      refine he_iald hx hb hK hP 9 rfl (2) (by decide) (by decide) (by first | decide | assumption) (pd 2) rfl dX4_pass_64 ?_
      refine he_ci (wc := [(p0, .inr (6, [.ref p1, .ref p2, .ref p3, .ref p4, .int 0])), (p2, .inl (g.2 1, 10, .inl fn))]) (wr := [(p1, .inl (g.2 1, 24, .inl sd)), (p3, .inl (g.2 1, 6, .inl st)), (p4, .inl (g.2 1, 6, .inl me)), (q1, .inl (g.2 1, 6, .inl (flF (fun _ => 0) sh 6))), (h0, .inr (4, [.ref q0, .ref q1, .int mo])), (q0, .inl (g.2 1, 24, .inl (mvF (taxF sd f) 0 1 (payF pd mo)))), (t0, .inr (5, [.ref t1, .ref t2, .int pw])), (t1, .inl (g.2 1, 6, .inl pd)), (t2, .inl (g.2 1, 36, .inl wb))]) (va_runV (As := [.int (pd 2)]) (rest := [.ref h0]) ⟨hx, hb, hml, hown, hts⟩ (c_X6_fearAt l g p0 p1 p2 p3 p4 0 fn (pd 2) H.size) (cwV 1 hts gX4_pass_X6_fearAt rfl rfl rfl (by decide +kernel) ⟨Nat.le_of_ble_eq_true rfl, Nat.le_of_ble_eq_true rfl⟩) (he_preV (wc := [(p0, .inr (6, [.ref p1, .ref p2, .ref p3, .ref p4, .int 0])), (p2, .inl (g.2 1, 10, .inl fn))]) hK hP hD hS hA hE [7, 1] rfl rfl 7 rfl rfl) rfl rfl hl.1 rfl (lv_room (Nat.le_of_ble_eq_true rfl)) dX4_pass_65 ⟨(Nat.le_of_ble_eq_true rfl), (Nat.le_of_ble_eq_true rfl)⟩) hP hD hS hA [7, 1] [0, 2, 3, 4, 5, 6, 8, 9, 10] rfl rfl rfl (by decide) (fun r_15 u_16 H locs h_17 hP hD hS => ?_)
      subst h_17
      have hP : va_P g.1 vwCl [(p1, .inl (g.2 1, 24, .inl sd)), (p3, .inl (g.2 1, 6, .inl st)), (p4, .inl (g.2 1, 6, .inl me)), (q1, .inl (g.2 1, 6, .inl (flF (fun _ => 0) sh 6))), (h0, .inr (4, [.ref q0, .ref q1, .int mo])), (q0, .inl (g.2 1, 24, .inl (mvF (taxF sd f) 0 1 (payF pd mo)))), (t0, .inr (5, [.ref t1, .ref t2, .int pw])), (t1, .inl (g.2 1, 6, .inl pd)), (t2, .inl (g.2 1, 36, .inl wb)), (p0, .inr (6, [.ref p1, .ref p2, .ref p3, .ref p4, .int 0])), (p2, .inl (g.2 1, 10, .inl fn))] H := hP
      have hD : va_D A [(p1, .inl (g.2 1, 24, .inl sd)), (p3, .inl (g.2 1, 6, .inl st)), (p4, .inl (g.2 1, 6, .inl me)), (q1, .inl (g.2 1, 6, .inl (flF (fun _ => 0) sh 6))), (h0, .inr (4, [.ref q0, .ref q1, .int mo])), (q0, .inl (g.2 1, 24, .inl (mvF (taxF sd f) 0 1 (payF pd mo)))), (t0, .inr (5, [.ref t1, .ref t2, .int pw])), (t1, .inl (g.2 1, 6, .inl pd)), (t2, .inl (g.2 1, 36, .inl wb)), (p0, .inr (6, [.ref p1, .ref p2, .ref p3, .ref p4, .int 0])), (p2, .inl (g.2 1, 10, .inl fn))] := hD
      refine he_cv (wc := [(h0, .inr (4, [.ref q0, .ref q1, .int mo])), (q0, .inl (g.2 1, 24, .inl (mvF (taxF sd f) 0 1 (payF pd mo))))]) (wr := [(p1, .inl (g.2 1, 24, .inl sd)), (p3, .inl (g.2 1, 6, .inl st)), (p4, .inl (g.2 1, 6, .inl me)), (q1, .inl (g.2 1, 6, .inl (flF (fun _ => 0) sh 6))), (t0, .inr (5, [.ref t1, .ref t2, .int pw])), (t1, .inl (g.2 1, 6, .inl pd)), (t2, .inl (g.2 1, 36, .inl wb)), (p0, .inr (6, [.ref p1, .ref p2, .ref p3, .ref p4, .int 0])), (p2, .inl (g.2 1, 10, .inl fn))]) (va_runV (As := [.int (faF fn (pd 2))]) (rest := []) ⟨hx, hb, hml, hown, hts⟩ (c_X4_frighten l g h0 q0 q1 mo (mvF (taxF sd f) 0 1 (payF pd mo)) (faF fn (pd 2)) H.size) (cwV 1 hts gX4_pass_X4_frighten rfl rfl rfl (by decide +kernel) ⟨Nat.le_of_ble_eq_true rfl, Nat.le_of_ble_eq_true rfl⟩) (he_preV (wc := [(h0, .inr (4, [.ref q0, .ref q1, .int mo])), (q0, .inl (g.2 1, 24, .inl (mvF (taxF sd f) 0 1 (payF pd mo))))]) hK hP hD hS hA hE [4, 5] rfl rfl 4 rfl rfl) rfl rfl hl.1 rfl (lv_room (Nat.le_of_ble_eq_true rfl)) dX4_pass_68 ⟨(Nat.le_of_ble_eq_true rfl), (Nat.le_of_ble_eq_true rfl)⟩) hP hD hS hA [4, 5] [0, 1, 2, 3, 6, 7, 8, 9, 10] rfl rfl rfl (by decide) (fun u_19 H locs h_20 hP hD hS => ?_)
      have hP : va_P g.1 vwCl [(p1, .inl (g.2 1, 24, .inl sd)), (p3, .inl (g.2 1, 6, .inl st)), (p4, .inl (g.2 1, 6, .inl me)), (q1, .inl (g.2 1, 6, .inl (flF (fun _ => 0) sh 6))), (t0, .inr (5, [.ref t1, .ref t2, .int pw])), (t1, .inl (g.2 1, 6, .inl pd)), (t2, .inl (g.2 1, 36, .inl wb)), (p0, .inr (6, [.ref p1, .ref p2, .ref p3, .ref p4, .int 0])), (p2, .inl (g.2 1, 10, .inl fn)), (h0, .inr (4, [.ref q0, .ref q1, .int mo])), (q0, .inl (g.2 1, 24, .inl (frF (mvF (taxF sd f) 0 1 (payF pd mo)) (faF fn (pd 2)))))] H := hP
      have hD : va_D A [(p1, .inl (g.2 1, 24, .inl sd)), (p3, .inl (g.2 1, 6, .inl st)), (p4, .inl (g.2 1, 6, .inl me)), (q1, .inl (g.2 1, 6, .inl (flF (fun _ => 0) sh 6))), (t0, .inr (5, [.ref t1, .ref t2, .int pw])), (t1, .inl (g.2 1, 6, .inl pd)), (t2, .inl (g.2 1, 36, .inl wb)), (p0, .inr (6, [.ref p1, .ref p2, .ref p3, .ref p4, .int 0])), (p2, .inl (g.2 1, 10, .inl fn)), (h0, .inr (4, [.ref q0, .ref q1, .int mo])), (q0, .inl (g.2 1, 24, .inl (frF (mvF (taxF sd f) 0 1 (payF pd mo)) (faF fn (pd 2)))))] := hD
      have hP : va_P g.1 vwCl [(p1, .inl (g.2 1, 24, .inl sd)), (p3, .inl (g.2 1, 6, .inl st)), (p4, .inl (g.2 1, 6, .inl me)), (q1, .inl (g.2 1, 6, .inl (flF (fun _ => 0) sh 6))), (t0, .inr (5, [.ref t1, .ref t2, .int pw])), (t1, .inl (g.2 1, 6, .inl pd)), (t2, .inl (g.2 1, 36, .inl wb)), (p0, .inr (6, [.ref p1, .ref p2, .ref p3, .ref p4, .int 0])), (p2, .inl (g.2 1, 10, .inl fn)), (h0, .inr (4, [.ref q0, .ref q1, .int mo])), (q0, .inl (g.2 1, 24, .inl (frF (mvF (taxF sd f) 0 1 (payF pd mo)) (faF fn (pd 2)))))] H := hP
      have hD : va_D A [(p1, .inl (g.2 1, 24, .inl sd)), (p3, .inl (g.2 1, 6, .inl st)), (p4, .inl (g.2 1, 6, .inl me)), (q1, .inl (g.2 1, 6, .inl (flF (fun _ => 0) sh 6))), (t0, .inr (5, [.ref t1, .ref t2, .int pw])), (t1, .inl (g.2 1, 6, .inl pd)), (t2, .inl (g.2 1, 36, .inl wb)), (p0, .inr (6, [.ref p1, .ref p2, .ref p3, .ref p4, .int 0])), (p2, .inl (g.2 1, 10, .inl fn)), (h0, .inr (4, [.ref q0, .ref q1, .int mo])), (q0, .inl (g.2 1, 24, .inl (frF (mvF (taxF sd f) 0 1 (payF pd mo)) (faF fn (pd 2)))))] := hD
      refine lv_aload_n hx hb dX4_pass_71 rfl (lv_at hl 0 rfl) ?_
      refine va_get (v := .ref q0) (T := TX4) (N := 3) hx hb hts inX4 hown hK hP 9 rfl rfl 0 (by decide) f9 (fun _ h9 => h9) rfl dX4_pass_72 ?_
      refine lv_iconst (v := 5) hx hb dX4_pass_75 (by decide) ?_
      refine lv_iconst (v := 0) hx hb dX4_pass_76 (by decide) ?_
      refine lv_aload_n hx hb dX4_pass_77 rfl (lv_at hl 0 rfl) ?_
      refine va_get (v := .ref q0) (T := TX4) (N := 3) hx hb hts inX4 hown hK hP 9 rfl rfl 0 (by decide) f9 (fun _ h9 => h9) rfl dX4_pass_78 ?_
      refine lv_iconst (v := 5) hx hb dX4_pass_81 (by decide) ?_
      refine he_iald hx hb hK hP 10 rfl (5) (by decide) (by decide) (by first | decide | assumption) ((frF (mvF (taxF sd f) 0 1 (payF pd mo)) (faF fn (pd 2))) 5) rfl dX4_pass_82 ?_
      refine lv_aload_n hx hb dX4_pass_83 rfl (lv_at hl 1 rfl) ?_
      refine va_get (v := .ref p1) (T := TX6) (N := 5) hx hb hts inX6 hown hK hP 7 rfl rfl 0 (by decide) f28 (fun _ h9 => h9) rfl dX4_pass_84 ?_
      refine lv_bipush (v := 14) hx hb dX4_pass_87 (by decide) ?_
      refine he_iald hx hb hK hP 0 rfl (14) (by decide) (by decide) (by first | decide | assumption) (sd 14) rfl dX4_pass_89 ?_
      refine lv_isub hx hb dX4_pass_90 ?_
      refine va_mmax hx hb (by rw [hml]; exact hl.1.symm) hown ml68 msmax mi mcmax (by decide) (Nat.le_of_ble_eq_true rfl) (Nat.le_of_ble_eq_true rfl) (Nat.le_of_ble_eq_true rfl) dX4_pass_91 ?_
      refine he_iast hx hb hK hP hD hS 10 rfl (5) (by decide) (by decide) (by first | decide | assumption) dX4_pass_94 (fun H locs hP hD hS => ?_)
      have hP : va_P g.1 vwCl [(p1, .inl (g.2 1, 24, .inl sd)), (p3, .inl (g.2 1, 6, .inl st)), (p4, .inl (g.2 1, 6, .inl me)), (q1, .inl (g.2 1, 6, .inl (flF (fun _ => 0) sh 6))), (t0, .inr (5, [.ref t1, .ref t2, .int pw])), (t1, .inl (g.2 1, 6, .inl pd)), (t2, .inl (g.2 1, 36, .inl wb)), (p0, .inr (6, [.ref p1, .ref p2, .ref p3, .ref p4, .int 0])), (p2, .inl (g.2 1, 10, .inl fn)), (h0, .inr (4, [.ref q0, .ref q1, .int mo])), (q0, .inl (g.2 1, 24, .inl (upd (frF (mvF (taxF sd f) 0 1 (payF pd mo)) (faF fn (pd 2))) 5 (if 0 < (((frF (mvF (taxF sd f) 0 1 (payF pd mo)) (faF fn (pd 2))) 5) - (sd 14)) then ((frF (mvF (taxF sd f) 0 1 (payF pd mo)) (faF fn (pd 2))) 5) - (sd 14) else 0))))] H := hP
      have hD : va_D A [(p1, .inl (g.2 1, 24, .inl sd)), (p3, .inl (g.2 1, 6, .inl st)), (p4, .inl (g.2 1, 6, .inl me)), (q1, .inl (g.2 1, 6, .inl (flF (fun _ => 0) sh 6))), (t0, .inr (5, [.ref t1, .ref t2, .int pw])), (t1, .inl (g.2 1, 6, .inl pd)), (t2, .inl (g.2 1, 36, .inl wb)), (p0, .inr (6, [.ref p1, .ref p2, .ref p3, .ref p4, .int 0])), (p2, .inl (g.2 1, 10, .inl fn)), (h0, .inr (4, [.ref q0, .ref q1, .int mo])), (q0, .inl (g.2 1, 24, .inl (upd (frF (mvF (taxF sd f) 0 1 (payF pd mo)) (faF fn (pd 2))) 5 (if 0 < (((frF (mvF (taxF sd f) 0 1 (payF pd mo)) (faF fn (pd 2))) 5) - (sd 14)) then ((frF (mvF (taxF sd f) 0 1 (payF pd mo)) (faF fn (pd 2))) 5) - (sd 14) else 0))))] := hD
      have hP : va_P g.1 vwCl [(p1, .inl (g.2 1, 24, .inl sd)), (p3, .inl (g.2 1, 6, .inl st)), (p4, .inl (g.2 1, 6, .inl me)), (q1, .inl (g.2 1, 6, .inl (flF (fun _ => 0) sh 6))), (t0, .inr (5, [.ref t1, .ref t2, .int pw])), (t1, .inl (g.2 1, 6, .inl pd)), (t2, .inl (g.2 1, 36, .inl wb)), (p0, .inr (6, [.ref p1, .ref p2, .ref p3, .ref p4, .int 0])), (p2, .inl (g.2 1, 10, .inl fn)), (h0, .inr (4, [.ref q0, .ref q1, .int mo])), (q0, .inl (g.2 1, 24, .inl (psA sd (frF (mvF (taxF sd f) 0 1 (payF pd mo)) (faF fn (pd 2))))))] H := hP
      have hD : va_D A [(p1, .inl (g.2 1, 24, .inl sd)), (p3, .inl (g.2 1, 6, .inl st)), (p4, .inl (g.2 1, 6, .inl me)), (q1, .inl (g.2 1, 6, .inl (flF (fun _ => 0) sh 6))), (t0, .inr (5, [.ref t1, .ref t2, .int pw])), (t1, .inl (g.2 1, 6, .inl pd)), (t2, .inl (g.2 1, 36, .inl wb)), (p0, .inr (6, [.ref p1, .ref p2, .ref p3, .ref p4, .int 0])), (p2, .inl (g.2 1, 10, .inl fn)), (h0, .inr (4, [.ref q0, .ref q1, .int mo])), (q0, .inl (g.2 1, 24, .inl (psA sd (frF (mvF (taxF sd f) 0 1 (payF pd mo)) (faF fn (pd 2))))))] := hD
      refine lv_aload_n hx hb dX4_pass_95 rfl (lv_at hl 0 rfl) ?_
      refine lv_aload_n hx hb dX4_pass_96 rfl (lv_at hl 1 rfl) ?_
      refine he_cv (wc := [(h0, .inr (4, [.ref q0, .ref q1, .int mo])), (q0, .inl (g.2 1, 24, .inl (psA sd (frF (mvF (taxF sd f) 0 1 (payF pd mo)) (faF fn (pd 2)))))), (p0, .inr (6, [.ref p1, .ref p2, .ref p3, .ref p4, .int 0])), (p1, .inl (g.2 1, 24, .inl sd)), (p3, .inl (g.2 1, 6, .inl st)), (p4, .inl (g.2 1, 6, .inl me))]) (wr := [(q1, .inl (g.2 1, 6, .inl (flF (fun _ => 0) sh 6))), (t0, .inr (5, [.ref t1, .ref t2, .int pw])), (t1, .inl (g.2 1, 6, .inl pd)), (t2, .inl (g.2 1, 36, .inl wb)), (p2, .inl (g.2 1, 10, .inl fn))]) (va_runV (As := [.ref p0]) (rest := []) ⟨hx, hb, hml, hown, hts⟩ (c_X4_mend l g h0 q0 q1 mo (psA sd (frF (mvF (taxF sd f) 0 1 (payF pd mo)) (faF fn (pd 2)))) p0 p1 p2 p3 p4 0 sd st me (by first | assumption | decide | omega) H.size) (cwV 1 hts gX4_pass_X4_mend rfl rfl rfl (by decide +kernel) ⟨Nat.le_of_ble_eq_true rfl, Nat.le_of_ble_eq_true rfl⟩) (he_preV (wc := [(h0, .inr (4, [.ref q0, .ref q1, .int mo])), (q0, .inl (g.2 1, 24, .inl (psA sd (frF (mvF (taxF sd f) 0 1 (payF pd mo)) (faF fn (pd 2)))))), (p0, .inr (6, [.ref p1, .ref p2, .ref p3, .ref p4, .int 0])), (p1, .inl (g.2 1, 24, .inl sd)), (p3, .inl (g.2 1, 6, .inl st)), (p4, .inl (g.2 1, 6, .inl me))]) hK hP hD hS hA hE [9, 10, 7, 0, 1, 2] rfl rfl 9 rfl rfl) rfl rfl hl.1 rfl (lv_room (Nat.le_of_ble_eq_true rfl)) dX4_pass_97 ⟨(Nat.le_of_ble_eq_true rfl), (Nat.le_of_ble_eq_true rfl)⟩) hP hD hS hA [9, 10, 7, 0, 1, 2] [3, 4, 5, 6, 8] rfl rfl rfl (by decide) (fun u_22 H locs h_23 hP hD hS => ?_)
      have hP : va_P g.1 vwCl [(q1, .inl (g.2 1, 6, .inl (flF (fun _ => 0) sh 6))), (t0, .inr (5, [.ref t1, .ref t2, .int pw])), (t1, .inl (g.2 1, 6, .inl pd)), (t2, .inl (g.2 1, 36, .inl wb)), (p2, .inl (g.2 1, 10, .inl fn)), (h0, .inr (4, [.ref q0, .ref q1, .int mo])), (q0, .inl (g.2 1, 24, .inl (mendF sd st me (psA sd (frF (mvF (taxF sd f) 0 1 (payF pd mo)) (faF fn (pd 2)))) 0))), (p0, .inr (6, [.ref p1, .ref p2, .ref p3, .ref p4, .int 0])), (p1, .inl (g.2 1, 24, .inl sd)), (p3, .inl (g.2 1, 6, .inl st)), (p4, .inl (g.2 1, 6, .inl me))] H := hP
      have hD : va_D A [(q1, .inl (g.2 1, 6, .inl (flF (fun _ => 0) sh 6))), (t0, .inr (5, [.ref t1, .ref t2, .int pw])), (t1, .inl (g.2 1, 6, .inl pd)), (t2, .inl (g.2 1, 36, .inl wb)), (p2, .inl (g.2 1, 10, .inl fn)), (h0, .inr (4, [.ref q0, .ref q1, .int mo])), (q0, .inl (g.2 1, 24, .inl (mendF sd st me (psA sd (frF (mvF (taxF sd f) 0 1 (payF pd mo)) (faF fn (pd 2)))) 0))), (p0, .inr (6, [.ref p1, .ref p2, .ref p3, .ref p4, .int 0])), (p1, .inl (g.2 1, 24, .inl sd)), (p3, .inl (g.2 1, 6, .inl st)), (p4, .inl (g.2 1, 6, .inl me))] := hD
      refine lv_aload_n hx hb dX4_pass_100 rfl (lv_at hl 0 rfl) ?_
      refine lv_iconst (v := 0) hx hb dX4_pass_101 (by decide) ?_
      refine lv_iconst (v := 2) hx hb dX4_pass_102 (by decide) ?_
      refine lv_aload_n hx hb dX4_pass_103 rfl (lv_at hl 1 rfl) ?_
      refine va_get (v := .ref p1) (T := TX6) (N := 5) hx hb hts inX6 hown hK hP 7 rfl rfl 0 (by decide) f28 (fun _ h9 => h9) rfl dX4_pass_104 ?_
      refine lv_iconst (v := 5) hx hb dX4_pass_107 (by decide) ?_
      refine he_iald hx hb hK hP 8 rfl (5) (by decide) (by decide) (by first | decide | assumption) (sd 5) rfl dX4_pass_108 ?_
      refine lv_aload_n hx hb dX4_pass_109 rfl (lv_at hl 0 rfl) ?_
      refine va_get (v := .ref q0) (T := TX4) (N := 3) hx hb hts inX4 hown hK hP 5 rfl rfl 0 (by decide) f9 (fun _ h9 => h9) rfl dX4_pass_110 ?_
      refine lv_iconst (v := 3) hx hb dX4_pass_113 (by decide) ?_
      refine he_iald hx hb hK hP 6 rfl (3) (by decide) (by decide) (by first | decide | assumption) ((mendF sd st me (psA sd (frF (mvF (taxF sd f) 0 1 (payF pd mo)) (faF fn (pd 2)))) 0) 3) rfl dX4_pass_114 ?_
      refine lv_bipush (v := 10) hx hb dX4_pass_115 (by decide) ?_
      refine lv_idiv hx hb dX4_pass_117 (by decide) ?_
      refine lv_imul hx hb dX4_pass_118 ?_
      refine he_cv (wc := [(h0, .inr (4, [.ref q0, .ref q1, .int mo])), (q0, .inl (g.2 1, 24, .inl (mendF sd st me (psA sd (frF (mvF (taxF sd f) 0 1 (payF pd mo)) (faF fn (pd 2)))) 0)))]) (wr := [(q1, .inl (g.2 1, 6, .inl (flF (fun _ => 0) sh 6))), (t0, .inr (5, [.ref t1, .ref t2, .int pw])), (t1, .inl (g.2 1, 6, .inl pd)), (t2, .inl (g.2 1, 36, .inl wb)), (p2, .inl (g.2 1, 10, .inl fn)), (p0, .inr (6, [.ref p1, .ref p2, .ref p3, .ref p4, .int 0])), (p1, .inl (g.2 1, 24, .inl sd)), (p3, .inl (g.2 1, 6, .inl st)), (p4, .inl (g.2 1, 6, .inl me))]) (va_runV (As := [.int 0, .int 2, .int ((sd 5) * (((mendF sd st me (psA sd (frF (mvF (taxF sd f) 0 1 (payF pd mo)) (faF fn (pd 2)))) 0) 3) / 10))]) (rest := []) ⟨hx, hb, hml, hown, hts⟩ (c_X4_move l g h0 q0 q1 mo (mendF sd st me (psA sd (frF (mvF (taxF sd f) 0 1 (payF pd mo)) (faF fn (pd 2)))) 0) 0 2 ((sd 5) * (((mendF sd st me (psA sd (frF (mvF (taxF sd f) 0 1 (payF pd mo)) (faF fn (pd 2)))) 0) 3) / 10)) (by first | assumption | decide | omega) (by first | assumption | decide | omega) H.size) (cwV 3 hts gX4_pass_X4_move rfl rfl rfl (by decide +kernel) ⟨Nat.le_of_ble_eq_true rfl, Nat.le_of_ble_eq_true rfl⟩) (he_preV (wc := [(h0, .inr (4, [.ref q0, .ref q1, .int mo])), (q0, .inl (g.2 1, 24, .inl (mendF sd st me (psA sd (frF (mvF (taxF sd f) 0 1 (payF pd mo)) (faF fn (pd 2)))) 0)))]) hK hP hD hS hA hE [5, 6] rfl rfl 5 rfl rfl) rfl rfl hl.1 rfl (lv_room (Nat.le_of_ble_eq_true rfl)) dX4_pass_119 ⟨(Nat.le_of_ble_eq_true rfl), (Nat.le_of_ble_eq_true rfl)⟩) hP hD hS hA [5, 6] [0, 1, 2, 3, 4, 7, 8, 9, 10] rfl rfl rfl (by decide) (fun u_25 H locs h_26 hP hD hS => ?_)
      have hP : va_P g.1 vwCl [(q1, .inl (g.2 1, 6, .inl (flF (fun _ => 0) sh 6))), (t0, .inr (5, [.ref t1, .ref t2, .int pw])), (t1, .inl (g.2 1, 6, .inl pd)), (t2, .inl (g.2 1, 36, .inl wb)), (p2, .inl (g.2 1, 10, .inl fn)), (p0, .inr (6, [.ref p1, .ref p2, .ref p3, .ref p4, .int 0])), (p1, .inl (g.2 1, 24, .inl sd)), (p3, .inl (g.2 1, 6, .inl st)), (p4, .inl (g.2 1, 6, .inl me)), (h0, .inr (4, [.ref q0, .ref q1, .int mo])), (q0, .inl (g.2 1, 24, .inl (mvF (mendF sd st me (psA sd (frF (mvF (taxF sd f) 0 1 (payF pd mo)) (faF fn (pd 2)))) 0) 0 2 ((sd 5) * (((mendF sd st me (psA sd (frF (mvF (taxF sd f) 0 1 (payF pd mo)) (faF fn (pd 2)))) 0) 3) / 10)))))] H := hP
      have hD : va_D A [(q1, .inl (g.2 1, 6, .inl (flF (fun _ => 0) sh 6))), (t0, .inr (5, [.ref t1, .ref t2, .int pw])), (t1, .inl (g.2 1, 6, .inl pd)), (t2, .inl (g.2 1, 36, .inl wb)), (p2, .inl (g.2 1, 10, .inl fn)), (p0, .inr (6, [.ref p1, .ref p2, .ref p3, .ref p4, .int 0])), (p1, .inl (g.2 1, 24, .inl sd)), (p3, .inl (g.2 1, 6, .inl st)), (p4, .inl (g.2 1, 6, .inl me)), (h0, .inr (4, [.ref q0, .ref q1, .int mo])), (q0, .inl (g.2 1, 24, .inl (mvF (mendF sd st me (psA sd (frF (mvF (taxF sd f) 0 1 (payF pd mo)) (faF fn (pd 2)))) 0) 0 2 ((sd 5) * (((mendF sd st me (psA sd (frF (mvF (taxF sd f) 0 1 (payF pd mo)) (faF fn (pd 2)))) 0) 3) / 10)))))] := hD
      have hP : va_P g.1 vwCl [(q1, .inl (g.2 1, 6, .inl (flF (fun _ => 0) sh 6))), (t0, .inr (5, [.ref t1, .ref t2, .int pw])), (t1, .inl (g.2 1, 6, .inl pd)), (t2, .inl (g.2 1, 36, .inl wb)), (p2, .inl (g.2 1, 10, .inl fn)), (p0, .inr (6, [.ref p1, .ref p2, .ref p3, .ref p4, .int 0])), (p1, .inl (g.2 1, 24, .inl sd)), (p3, .inl (g.2 1, 6, .inl st)), (p4, .inl (g.2 1, 6, .inl me)), (h0, .inr (4, [.ref q0, .ref q1, .int mo])), (q0, .inl (g.2 1, 24, .inl (psB sd (mendF sd st me (psA sd (frF (mvF (taxF sd f) 0 1 (payF pd mo)) (faF fn (pd 2)))) 0))))] H := hP
      have hD : va_D A [(q1, .inl (g.2 1, 6, .inl (flF (fun _ => 0) sh 6))), (t0, .inr (5, [.ref t1, .ref t2, .int pw])), (t1, .inl (g.2 1, 6, .inl pd)), (t2, .inl (g.2 1, 36, .inl wb)), (p2, .inl (g.2 1, 10, .inl fn)), (p0, .inr (6, [.ref p1, .ref p2, .ref p3, .ref p4, .int 0])), (p1, .inl (g.2 1, 24, .inl sd)), (p3, .inl (g.2 1, 6, .inl st)), (p4, .inl (g.2 1, 6, .inl me)), (h0, .inr (4, [.ref q0, .ref q1, .int mo])), (q0, .inl (g.2 1, 24, .inl (psB sd (mendF sd st me (psA sd (frF (mvF (taxF sd f) 0 1 (payF pd mo)) (faF fn (pd 2)))) 0))))] := hD
      refine lv_aload_n hx hb dX4_pass_122 rfl (lv_at hl 0 rfl) ?_
      refine lv_iconst (v := 1) hx hb dX4_pass_123 (by decide) ?_
      refine lv_iconst (v := 2) hx hb dX4_pass_124 (by decide) ?_
      refine lv_aload_n hx hb dX4_pass_125 rfl (lv_at hl 1 rfl) ?_
      refine va_get (v := .ref p1) (T := TX6) (N := 5) hx hb hts inX6 hown hK hP 5 rfl rfl 0 (by decide) f28 (fun _ h9 => h9) rfl dX4_pass_126 ?_
      refine lv_bipush (v := 8) hx hb dX4_pass_129 (by decide) ?_
      refine he_iald hx hb hK hP 6 rfl (8) (by decide) (by decide) (by first | decide | assumption) (sd 8) rfl dX4_pass_131 ?_
      refine lv_aload_n hx hb dX4_pass_132 rfl (lv_at hl 0 rfl) ?_
      refine va_get (v := .ref q0) (T := TX4) (N := 3) hx hb hts inX4 hown hK hP 9 rfl rfl 0 (by decide) f9 (fun _ h9 => h9) rfl dX4_pass_133 ?_
      refine lv_iconst (v := 4) hx hb dX4_pass_136 (by decide) ?_
      refine he_iald hx hb hK hP 10 rfl (4) (by decide) (by decide) (by first | decide | assumption) ((psB sd (mendF sd st me (psA sd (frF (mvF (taxF sd f) 0 1 (payF pd mo)) (faF fn (pd 2)))) 0)) 4) rfl dX4_pass_137 ?_
      refine lv_bipush (v := 10) hx hb dX4_pass_138 (by decide) ?_
      refine lv_idiv hx hb dX4_pass_140 (by decide) ?_
      refine lv_imul hx hb dX4_pass_141 ?_
      refine he_cv (wc := [(h0, .inr (4, [.ref q0, .ref q1, .int mo])), (q0, .inl (g.2 1, 24, .inl (psB sd (mendF sd st me (psA sd (frF (mvF (taxF sd f) 0 1 (payF pd mo)) (faF fn (pd 2)))) 0))))]) (wr := [(q1, .inl (g.2 1, 6, .inl (flF (fun _ => 0) sh 6))), (t0, .inr (5, [.ref t1, .ref t2, .int pw])), (t1, .inl (g.2 1, 6, .inl pd)), (t2, .inl (g.2 1, 36, .inl wb)), (p2, .inl (g.2 1, 10, .inl fn)), (p0, .inr (6, [.ref p1, .ref p2, .ref p3, .ref p4, .int 0])), (p1, .inl (g.2 1, 24, .inl sd)), (p3, .inl (g.2 1, 6, .inl st)), (p4, .inl (g.2 1, 6, .inl me))]) (va_runV (As := [.int 1, .int 2, .int ((sd 8) * (((psB sd (mendF sd st me (psA sd (frF (mvF (taxF sd f) 0 1 (payF pd mo)) (faF fn (pd 2)))) 0)) 4) / 10))]) (rest := []) ⟨hx, hb, hml, hown, hts⟩ (c_X4_move l g h0 q0 q1 mo (psB sd (mendF sd st me (psA sd (frF (mvF (taxF sd f) 0 1 (payF pd mo)) (faF fn (pd 2)))) 0)) 1 2 ((sd 8) * (((psB sd (mendF sd st me (psA sd (frF (mvF (taxF sd f) 0 1 (payF pd mo)) (faF fn (pd 2)))) 0)) 4) / 10)) (by first | assumption | decide | omega) (by first | assumption | decide | omega) H.size) (cwV 3 hts gX4_pass_X4_move rfl rfl rfl (by decide +kernel) ⟨Nat.le_of_ble_eq_true rfl, Nat.le_of_ble_eq_true rfl⟩) (he_preV (wc := [(h0, .inr (4, [.ref q0, .ref q1, .int mo])), (q0, .inl (g.2 1, 24, .inl (psB sd (mendF sd st me (psA sd (frF (mvF (taxF sd f) 0 1 (payF pd mo)) (faF fn (pd 2)))) 0))))]) hK hP hD hS hA hE [9, 10] rfl rfl 9 rfl rfl) rfl rfl hl.1 rfl (lv_room (Nat.le_of_ble_eq_true rfl)) dX4_pass_142 ⟨(Nat.le_of_ble_eq_true rfl), (Nat.le_of_ble_eq_true rfl)⟩) hP hD hS hA [9, 10] [0, 1, 2, 3, 4, 5, 6, 7, 8] rfl rfl rfl (by decide) (fun u_28 H locs h_29 hP hD hS => ?_)
      have hP : va_P g.1 vwCl [(q1, .inl (g.2 1, 6, .inl (flF (fun _ => 0) sh 6))), (t0, .inr (5, [.ref t1, .ref t2, .int pw])), (t1, .inl (g.2 1, 6, .inl pd)), (t2, .inl (g.2 1, 36, .inl wb)), (p2, .inl (g.2 1, 10, .inl fn)), (p0, .inr (6, [.ref p1, .ref p2, .ref p3, .ref p4, .int 0])), (p1, .inl (g.2 1, 24, .inl sd)), (p3, .inl (g.2 1, 6, .inl st)), (p4, .inl (g.2 1, 6, .inl me)), (h0, .inr (4, [.ref q0, .ref q1, .int mo])), (q0, .inl (g.2 1, 24, .inl (mvF (psB sd (mendF sd st me (psA sd (frF (mvF (taxF sd f) 0 1 (payF pd mo)) (faF fn (pd 2)))) 0)) 1 2 ((sd 8) * (((psB sd (mendF sd st me (psA sd (frF (mvF (taxF sd f) 0 1 (payF pd mo)) (faF fn (pd 2)))) 0)) 4) / 10)))))] H := hP
      have hD : va_D A [(q1, .inl (g.2 1, 6, .inl (flF (fun _ => 0) sh 6))), (t0, .inr (5, [.ref t1, .ref t2, .int pw])), (t1, .inl (g.2 1, 6, .inl pd)), (t2, .inl (g.2 1, 36, .inl wb)), (p2, .inl (g.2 1, 10, .inl fn)), (p0, .inr (6, [.ref p1, .ref p2, .ref p3, .ref p4, .int 0])), (p1, .inl (g.2 1, 24, .inl sd)), (p3, .inl (g.2 1, 6, .inl st)), (p4, .inl (g.2 1, 6, .inl me)), (h0, .inr (4, [.ref q0, .ref q1, .int mo])), (q0, .inl (g.2 1, 24, .inl (mvF (psB sd (mendF sd st me (psA sd (frF (mvF (taxF sd f) 0 1 (payF pd mo)) (faF fn (pd 2)))) 0)) 1 2 ((sd 8) * (((psB sd (mendF sd st me (psA sd (frF (mvF (taxF sd f) 0 1 (payF pd mo)) (faF fn (pd 2)))) 0)) 4) / 10)))))] := hD
      have hP : va_P g.1 vwCl [(q1, .inl (g.2 1, 6, .inl (flF (fun _ => 0) sh 6))), (t0, .inr (5, [.ref t1, .ref t2, .int pw])), (t1, .inl (g.2 1, 6, .inl pd)), (t2, .inl (g.2 1, 36, .inl wb)), (p2, .inl (g.2 1, 10, .inl fn)), (p0, .inr (6, [.ref p1, .ref p2, .ref p3, .ref p4, .int 0])), (p1, .inl (g.2 1, 24, .inl sd)), (p3, .inl (g.2 1, 6, .inl st)), (p4, .inl (g.2 1, 6, .inl me)), (h0, .inr (4, [.ref q0, .ref q1, .int mo])), (q0, .inl (g.2 1, 24, .inl (psC sd (psB sd (mendF sd st me (psA sd (frF (mvF (taxF sd f) 0 1 (payF pd mo)) (faF fn (pd 2)))) 0)))))] H := hP
      have hD : va_D A [(q1, .inl (g.2 1, 6, .inl (flF (fun _ => 0) sh 6))), (t0, .inr (5, [.ref t1, .ref t2, .int pw])), (t1, .inl (g.2 1, 6, .inl pd)), (t2, .inl (g.2 1, 36, .inl wb)), (p2, .inl (g.2 1, 10, .inl fn)), (p0, .inr (6, [.ref p1, .ref p2, .ref p3, .ref p4, .int 0])), (p1, .inl (g.2 1, 24, .inl sd)), (p3, .inl (g.2 1, 6, .inl st)), (p4, .inl (g.2 1, 6, .inl me)), (h0, .inr (4, [.ref q0, .ref q1, .int mo])), (q0, .inl (g.2 1, 24, .inl (psC sd (psB sd (mendF sd st me (psA sd (frF (mvF (taxF sd f) 0 1 (payF pd mo)) (faF fn (pd 2)))) 0)))))] := hD
      refine lv_aload_n hx hb dX4_pass_145 rfl (lv_at hl 0 rfl) ?_
      refine lv_aload_n hx hb dX4_pass_146 rfl (lv_at hl 1 rfl) ?_
      refine va_get (v := .ref p1) (T := TX6) (N := 5) hx hb hts inX6 hown hK hP 5 rfl rfl 0 (by decide) f28 (fun _ h9 => h9) rfl dX4_pass_147 ?_
      refine lv_bipush (v := 8) hx hb dX4_pass_150 (by decide) ?_
      refine he_iald hx hb hK hP 6 rfl (8) (by decide) (by decide) (by first | decide | assumption) (sd 8) rfl dX4_pass_152 ?_
      refine lv_aload_n hx hb dX4_pass_153 rfl (lv_at hl 1 rfl) ?_
      refine va_get (v := .ref p1) (T := TX6) (N := 5) hx hb hts inX6 hown hK hP 5 rfl rfl 0 (by decide) f28 (fun _ h9 => h9) rfl dX4_pass_154 ?_
      refine lv_iconst (v := 5) hx hb dX4_pass_157 (by decide) ?_
      refine he_iald hx hb hK hP 6 rfl (5) (by decide) (by decide) (by first | decide | assumption) (sd 5) rfl dX4_pass_158 ?_
      refine lv_isub hx hb dX4_pass_159 ?_
      refine he_cv (wc := [(h0, .inr (4, [.ref q0, .ref q1, .int mo])), (q0, .inl (g.2 1, 24, .inl (psC sd (psB sd (mendF sd st me (psA sd (frF (mvF (taxF sd f) 0 1 (payF pd mo)) (faF fn (pd 2)))) 0)))))]) (wr := [(q1, .inl (g.2 1, 6, .inl (flF (fun _ => 0) sh 6))), (t0, .inr (5, [.ref t1, .ref t2, .int pw])), (t1, .inl (g.2 1, 6, .inl pd)), (t2, .inl (g.2 1, 36, .inl wb)), (p2, .inl (g.2 1, 10, .inl fn)), (p0, .inr (6, [.ref p1, .ref p2, .ref p3, .ref p4, .int 0])), (p1, .inl (g.2 1, 24, .inl sd)), (p3, .inl (g.2 1, 6, .inl st)), (p4, .inl (g.2 1, 6, .inl me))]) (va_runV (As := [.int ((sd 8) - (sd 5))]) (rest := []) ⟨hx, hb, hml, hown, hts⟩ (c_X4_desert l g h0 q0 q1 mo (psC sd (psB sd (mendF sd st me (psA sd (frF (mvF (taxF sd f) 0 1 (payF pd mo)) (faF fn (pd 2)))) 0))) ((sd 8) - (sd 5)) H.size) (cwV 1 hts gX4_pass_X4_desert rfl rfl rfl (by decide +kernel) ⟨Nat.le_of_ble_eq_true rfl, Nat.le_of_ble_eq_true rfl⟩) (he_preV (wc := [(h0, .inr (4, [.ref q0, .ref q1, .int mo])), (q0, .inl (g.2 1, 24, .inl (psC sd (psB sd (mendF sd st me (psA sd (frF (mvF (taxF sd f) 0 1 (payF pd mo)) (faF fn (pd 2)))) 0)))))]) hK hP hD hS hA hE [9, 10] rfl rfl 9 rfl rfl) rfl rfl hl.1 rfl (lv_room (Nat.le_of_ble_eq_true rfl)) dX4_pass_160 ⟨(Nat.le_of_ble_eq_true rfl), (Nat.le_of_ble_eq_true rfl)⟩) hP hD hS hA [9, 10] [0, 1, 2, 3, 4, 5, 6, 7, 8] rfl rfl rfl (by decide) (fun u_31 H locs h_32 hP hD hS => ?_)
      have hP : va_P g.1 vwCl [(q1, .inl (g.2 1, 6, .inl (flF (fun _ => 0) sh 6))), (t0, .inr (5, [.ref t1, .ref t2, .int pw])), (t1, .inl (g.2 1, 6, .inl pd)), (t2, .inl (g.2 1, 36, .inl wb)), (p2, .inl (g.2 1, 10, .inl fn)), (p0, .inr (6, [.ref p1, .ref p2, .ref p3, .ref p4, .int 0])), (p1, .inl (g.2 1, 24, .inl sd)), (p3, .inl (g.2 1, 6, .inl st)), (p4, .inl (g.2 1, 6, .inl me)), (h0, .inr (4, [.ref q0, .ref q1, .int mo])), (q0, .inl (g.2 1, 24, .inl (dsF (psC sd (psB sd (mendF sd st me (psA sd (frF (mvF (taxF sd f) 0 1 (payF pd mo)) (faF fn (pd 2)))) 0))) ((sd 8) - (sd 5)))))] H := hP
      have hD : va_D A [(q1, .inl (g.2 1, 6, .inl (flF (fun _ => 0) sh 6))), (t0, .inr (5, [.ref t1, .ref t2, .int pw])), (t1, .inl (g.2 1, 6, .inl pd)), (t2, .inl (g.2 1, 36, .inl wb)), (p2, .inl (g.2 1, 10, .inl fn)), (p0, .inr (6, [.ref p1, .ref p2, .ref p3, .ref p4, .int 0])), (p1, .inl (g.2 1, 24, .inl sd)), (p3, .inl (g.2 1, 6, .inl st)), (p4, .inl (g.2 1, 6, .inl me)), (h0, .inr (4, [.ref q0, .ref q1, .int mo])), (q0, .inl (g.2 1, 24, .inl (dsF (psC sd (psB sd (mendF sd st me (psA sd (frF (mvF (taxF sd f) 0 1 (payF pd mo)) (faF fn (pd 2)))) 0))) ((sd 8) - (sd 5)))))] := hD
      have hP : va_P g.1 vwCl [(q1, .inl (g.2 1, 6, .inl (flF (fun _ => 0) sh 6))), (t0, .inr (5, [.ref t1, .ref t2, .int pw])), (t1, .inl (g.2 1, 6, .inl pd)), (t2, .inl (g.2 1, 36, .inl wb)), (p2, .inl (g.2 1, 10, .inl fn)), (p0, .inr (6, [.ref p1, .ref p2, .ref p3, .ref p4, .int 0])), (p1, .inl (g.2 1, 24, .inl sd)), (p3, .inl (g.2 1, 6, .inl st)), (p4, .inl (g.2 1, 6, .inl me)), (h0, .inr (4, [.ref q0, .ref q1, .int mo])), (q0, .inl (g.2 1, 24, .inl (psT sd st me 0 (frF (mvF (taxF sd f) 0 1 (payF pd mo)) (faF fn (pd 2))))))] H := hP
      have hD : va_D A [(q1, .inl (g.2 1, 6, .inl (flF (fun _ => 0) sh 6))), (t0, .inr (5, [.ref t1, .ref t2, .int pw])), (t1, .inl (g.2 1, 6, .inl pd)), (t2, .inl (g.2 1, 36, .inl wb)), (p2, .inl (g.2 1, 10, .inl fn)), (p0, .inr (6, [.ref p1, .ref p2, .ref p3, .ref p4, .int 0])), (p1, .inl (g.2 1, 24, .inl sd)), (p3, .inl (g.2 1, 6, .inl st)), (p4, .inl (g.2 1, 6, .inl me)), (h0, .inr (4, [.ref q0, .ref q1, .int mo])), (q0, .inl (g.2 1, 24, .inl (psT sd st me 0 (frF (mvF (taxF sd f) 0 1 (payF pd mo)) (faF fn (pd 2))))))] := hD
      refine lv_aload_n hx hb dX4_pass_163 rfl (lv_at hl 0 rfl) ?_
      refine lv_dup hx hb dX4_pass_164 rfl ?_
      refine va_get (v := .int mo) (T := TX4) (N := 3) hx hb hts inX4 hown hK hP 9 rfl rfl 2 (by decide) f18 (fun _ h9 => h9) rfl dX4_pass_165 ?_
      refine lv_iconst (v := 1) hx hb dX4_pass_168 (by decide) ?_
      refine lv_iadd hx hb dX4_pass_169 ?_
      refine va_put (v := .int (mo + 1)) (ty := .int) (T := TX4) (N := 3) hx hb hts inX4 tyX4 tyX4_ok nmX4 hown hK hP hD hS 9 rfl rfl 2 (by decide) f18 (fun _ h9 => h9) rfl (by decide +kernel) rfl rfl (Nat.le_of_ble_eq_true rfl) dX4_pass_170 (fun H locs hP hD hS => ?_)
      have hP : va_P g.1 vwCl [(q1, .inl (g.2 1, 6, .inl (flF (fun _ => 0) sh 6))), (t0, .inr (5, [.ref t1, .ref t2, .int pw])), (t1, .inl (g.2 1, 6, .inl pd)), (t2, .inl (g.2 1, 36, .inl wb)), (p2, .inl (g.2 1, 10, .inl fn)), (p0, .inr (6, [.ref p1, .ref p2, .ref p3, .ref p4, .int 0])), (p1, .inl (g.2 1, 24, .inl sd)), (p3, .inl (g.2 1, 6, .inl st)), (p4, .inl (g.2 1, 6, .inl me)), (h0, .inr (4, [.ref q0, .ref q1, .int (mo + 1)])), (q0, .inl (g.2 1, 24, .inl (psT sd st me 0 (frF (mvF (taxF sd f) 0 1 (payF pd mo)) (faF fn (pd 2))))))] H := hP
      have hD : va_D A [(q1, .inl (g.2 1, 6, .inl (flF (fun _ => 0) sh 6))), (t0, .inr (5, [.ref t1, .ref t2, .int pw])), (t1, .inl (g.2 1, 6, .inl pd)), (t2, .inl (g.2 1, 36, .inl wb)), (p2, .inl (g.2 1, 10, .inl fn)), (p0, .inr (6, [.ref p1, .ref p2, .ref p3, .ref p4, .int 0])), (p1, .inl (g.2 1, 24, .inl sd)), (p3, .inl (g.2 1, 6, .inl st)), (p4, .inl (g.2 1, 6, .inl me)), (h0, .inr (4, [.ref q0, .ref q1, .int (mo + 1)])), (q0, .inl (g.2 1, 24, .inl (psT sd st me 0 (frF (mvF (taxF sd f) 0 1 (payF pd mo)) (faF fn (pd 2))))))] := hD
      refine lv_aload_n hx hb dX4_pass_173 rfl (lv_at hl 2 rfl) ?_
      refine lv_ifnull hx hb dX4_pass_174 ?_
      refine lv_aload_n hx hb dX4_pass_177 rfl (lv_at hl 0 rfl) ?_
      refine va_get (v := .int (mo + 1)) (T := TX4) (N := 3) hx hb hts inX4 hown hK hP 9 rfl rfl 2 (by decide) f18 (fun _ h9 => h9) rfl dX4_pass_178 ?_
      refine lv_aload_n hx hb dX4_pass_181 rfl (lv_at hl 0 rfl) ?_
      refine va_get (v := .ref q0) (T := TX4) (N := 3) hx hb hts inX4 hown hK hP 9 rfl rfl 0 (by decide) f9 (fun _ h9 => h9) rfl dX4_pass_182 ?_
      refine lv_bipush (v := 11) hx hb dX4_pass_185 (by decide) ?_
      refine he_iald hx hb hK hP 10 rfl (11) (by decide) (by decide) (by first | decide | assumption) ((psT sd st me 0 (frF (mvF (taxF sd f) 0 1 (payF pd mo)) (faF fn (pd 2)))) 11) rfl dX4_pass_187 ?_
      refine lv_isub hx hb dX4_pass_188 ?_
      refine lv_aload_n hx hb dX4_pass_189 rfl (lv_at hl 2 rfl) ?_
      refine va_get (v := .ref t1) (T := TX5) (N := 3) hx hb hts inX5 hown hK hP 1 rfl rfl 0 (by decide) f57 (fun _ h9 => h9) rfl dX4_pass_190 ?_
      refine lv_iconst (v := 5) hx hb dX4_pass_193 (by decide) ?_
      refine he_iald hx hb hK hP 2 rfl (5) (by decide) (by decide) (by first | decide | assumption) (pd 5) rfl dX4_pass_194 ?_
      refine lv_icmp_lt (tgt := 206) hx hb dX4_pass_195 (by decide) (fun c_33 => ?_) (fun c_33 => ?_)
      · have hP := hP.sub (ws' := [(h0, .inr (4, [.ref q0, .ref q1, .int (mo + 1)])), (q0, .inl (g.2 1, 24, .inl (psT sd st me 0 (frF (mvF (taxF sd f) 0 1 (payF pd mo)) (faF fn (pd 2)))))), (q1, .inl (g.2 1, 6, .inl (flF (fun _ => 0) sh 6))), (p0, .inr (6, [.ref p1, .ref p2, .ref p3, .ref p4, .int 0])), (p1, .inl (g.2 1, 24, .inl sd)), (p2, .inl (g.2 1, 10, .inl fn)), (p3, .inl (g.2 1, 6, .inl st)), (p4, .inl (g.2 1, 6, .inl me)), (t0, .inr (5, [.ref t1, .ref t2, .int pw])), (t1, .inl (g.2 1, 6, .inl pd)), (t2, .inl (g.2 1, 36, .inl wb))]) [9, 10, 0, 5, 6, 4, 7, 8, 1, 2, 3] rfl
        have hD := hD.sub (ws' := [(h0, .inr (4, [.ref q0, .ref q1, .int (mo + 1)])), (q0, .inl (g.2 1, 24, .inl (psT sd st me 0 (frF (mvF (taxF sd f) 0 1 (payF pd mo)) (faF fn (pd 2)))))), (q1, .inl (g.2 1, 6, .inl (flF (fun _ => 0) sh 6))), (p0, .inr (6, [.ref p1, .ref p2, .ref p3, .ref p4, .int 0])), (p1, .inl (g.2 1, 24, .inl sd)), (p2, .inl (g.2 1, 10, .inl fn)), (p3, .inl (g.2 1, 6, .inl st)), (p4, .inl (g.2 1, 6, .inl me)), (t0, .inr (5, [.ref t1, .ref t2, .int pw])), (t1, .inl (g.2 1, 6, .inl pd)), (t2, .inl (g.2 1, 36, .inl wb))]) [9, 10, 0, 5, 6, 4, 7, 8, 1, 2, 3] (by decide) rfl
        exact he_rv hQ hx hb hr hlk hP hD hS dX4_pass_206 (Nat.le_of_ble_eq_true rfl) (Nat.le_of_ble_eq_true rfl) (()) (by simp only [pasP, tlF, if_pos hs_7, if_neg c_11, if_pos c_33]) (trivial)
      · refine lv_aload_n hx hb dX4_pass_198 rfl (lv_at hl 0 rfl) ?_
        refine va_get (v := .ref q0) (T := TX4) (N := 3) hx hb hts inX4 hown hK hP 9 rfl rfl 0 (by decide) f9 (fun _ h9 => h9) rfl dX4_pass_199 ?_
        refine lv_bipush (v := 10) hx hb dX4_pass_202 (by decide) ?_
        refine lv_iconst (v := (-1)) hx hb dX4_pass_204 (by decide) ?_
        refine he_iast hx hb hK hP hD hS 10 rfl (10) (by decide) (by decide) (by first | decide | assumption) dX4_pass_205 (fun H locs hP hD hS => ?_)
        have hP : va_P g.1 vwCl [(q1, .inl (g.2 1, 6, .inl (flF (fun _ => 0) sh 6))), (t0, .inr (5, [.ref t1, .ref t2, .int pw])), (t1, .inl (g.2 1, 6, .inl pd)), (t2, .inl (g.2 1, 36, .inl wb)), (p2, .inl (g.2 1, 10, .inl fn)), (p0, .inr (6, [.ref p1, .ref p2, .ref p3, .ref p4, .int 0])), (p1, .inl (g.2 1, 24, .inl sd)), (p3, .inl (g.2 1, 6, .inl st)), (p4, .inl (g.2 1, 6, .inl me)), (h0, .inr (4, [.ref q0, .ref q1, .int (mo + 1)])), (q0, .inl (g.2 1, 24, .inl (upd (psT sd st me 0 (frF (mvF (taxF sd f) 0 1 (payF pd mo)) (faF fn (pd 2)))) 10 (-1))))] H := hP
        have hD : va_D A [(q1, .inl (g.2 1, 6, .inl (flF (fun _ => 0) sh 6))), (t0, .inr (5, [.ref t1, .ref t2, .int pw])), (t1, .inl (g.2 1, 6, .inl pd)), (t2, .inl (g.2 1, 36, .inl wb)), (p2, .inl (g.2 1, 10, .inl fn)), (p0, .inr (6, [.ref p1, .ref p2, .ref p3, .ref p4, .int 0])), (p1, .inl (g.2 1, 24, .inl sd)), (p3, .inl (g.2 1, 6, .inl st)), (p4, .inl (g.2 1, 6, .inl me)), (h0, .inr (4, [.ref q0, .ref q1, .int (mo + 1)])), (q0, .inl (g.2 1, 24, .inl (upd (psT sd st me 0 (frF (mvF (taxF sd f) 0 1 (payF pd mo)) (faF fn (pd 2)))) 10 (-1))))] := hD
        have hP := hP.sub (ws' := [(h0, .inr (4, [.ref q0, .ref q1, .int (mo + 1)])), (q0, .inl (g.2 1, 24, .inl (upd (psT sd st me 0 (frF (mvF (taxF sd f) 0 1 (payF pd mo)) (faF fn (pd 2)))) 10 (-1)))), (q1, .inl (g.2 1, 6, .inl (flF (fun _ => 0) sh 6))), (p0, .inr (6, [.ref p1, .ref p2, .ref p3, .ref p4, .int 0])), (p1, .inl (g.2 1, 24, .inl sd)), (p2, .inl (g.2 1, 10, .inl fn)), (p3, .inl (g.2 1, 6, .inl st)), (p4, .inl (g.2 1, 6, .inl me)), (t0, .inr (5, [.ref t1, .ref t2, .int pw])), (t1, .inl (g.2 1, 6, .inl pd)), (t2, .inl (g.2 1, 36, .inl wb))]) [9, 10, 0, 5, 6, 4, 7, 8, 1, 2, 3] rfl
        have hD := hD.sub (ws' := [(h0, .inr (4, [.ref q0, .ref q1, .int (mo + 1)])), (q0, .inl (g.2 1, 24, .inl (upd (psT sd st me 0 (frF (mvF (taxF sd f) 0 1 (payF pd mo)) (faF fn (pd 2)))) 10 (-1)))), (q1, .inl (g.2 1, 6, .inl (flF (fun _ => 0) sh 6))), (p0, .inr (6, [.ref p1, .ref p2, .ref p3, .ref p4, .int 0])), (p1, .inl (g.2 1, 24, .inl sd)), (p2, .inl (g.2 1, 10, .inl fn)), (p3, .inl (g.2 1, 6, .inl st)), (p4, .inl (g.2 1, 6, .inl me)), (t0, .inr (5, [.ref t1, .ref t2, .int pw])), (t1, .inl (g.2 1, 6, .inl pd)), (t2, .inl (g.2 1, 36, .inl wb))]) [9, 10, 0, 5, 6, 4, 7, 8, 1, 2, 3] (by decide) rfl
        exact he_rv hQ hx hb hr hlk hP hD hS dX4_pass_206 (Nat.le_of_ble_eq_true rfl) (Nat.le_of_ble_eq_true rfl) (()) (by simp only [pasP, tlF, if_pos hs_7, if_neg c_11, if_neg c_33]) (trivial)
  · refine he_ci (wc := [(h0, .inr (4, [.ref q0, .ref q1, .int mo])), (q0, .inl (g.2 1, 24, .inl (taxF sd f))), (t0, .inr (5, [.ref t1, .ref t2, .int pw])), (t1, .inl (g.2 1, 6, .inl pd))]) (wr := [(p0, .inr (6, [.ref p1, .ref p2, .ref p3, .ref p4, .int 0])), (p1, .inl (g.2 1, 24, .inl sd)), (p2, .inl (g.2 1, 10, .inl fn)), (p3, .inl (g.2 1, 6, .inl st)), (p4, .inl (g.2 1, 6, .inl me)), (t2, .inl (g.2 1, 36, .inl wb)), (q1, .inl (g.2 1, 6, .inl (flF (fun _ => 0) sh 6)))]) (va_runV (As := [.ref t0]) (rest := []) ⟨hx, hb, hml, hown, hts⟩ (c_X4_isPaid0 l g h0 q0 q1 mo (taxF sd f) t0 t1 t2 pw pd (by first | assumption | decide | omega) H.size) (cwV 1 hts gX4_pass_X4_isPaid rfl rfl rfl (by decide +kernel) ⟨Nat.le_of_ble_eq_true rfl, Nat.le_of_ble_eq_true rfl⟩) (he_preV (wc := [(h0, .inr (4, [.ref q0, .ref q1, .int mo])), (q0, .inl (g.2 1, 24, .inl (taxF sd f))), (t0, .inr (5, [.ref t1, .ref t2, .int pw])), (t1, .inl (g.2 1, 6, .inl pd))]) hK hP hD hS hA hE [9, 10, 5, 6] rfl rfl 9 rfl rfl) rfl rfl hl.1 rfl (lv_room (Nat.le_of_ble_eq_true rfl)) dX4_pass_45 ⟨(Nat.le_of_ble_eq_true rfl), (Nat.le_of_ble_eq_true rfl)⟩) hP hD hS hA [9, 10, 5, 6] [0, 1, 2, 3, 4, 7, 8] rfl rfl rfl (by decide) (fun r_34 u_35 H locs h_36 hP hD hS => ?_)
    subst h_36
    have hP : va_P g.1 vwCl [(p0, .inr (6, [.ref p1, .ref p2, .ref p3, .ref p4, .int 0])), (p1, .inl (g.2 1, 24, .inl sd)), (p2, .inl (g.2 1, 10, .inl fn)), (p3, .inl (g.2 1, 6, .inl st)), (p4, .inl (g.2 1, 6, .inl me)), (t2, .inl (g.2 1, 36, .inl wb)), (q1, .inl (g.2 1, 6, .inl (flF (fun _ => 0) sh 6))), (h0, .inr (4, [.ref q0, .ref q1, .int mo])), (q0, .inl (g.2 1, 24, .inl (dfF (taxF sd f)))), (t0, .inr (5, [.ref t1, .ref t2, .int pw])), (t1, .inl (g.2 1, 6, .inl pd))] H := hP
    have hD : va_D A [(p0, .inr (6, [.ref p1, .ref p2, .ref p3, .ref p4, .int 0])), (p1, .inl (g.2 1, 24, .inl sd)), (p2, .inl (g.2 1, 10, .inl fn)), (p3, .inl (g.2 1, 6, .inl st)), (p4, .inl (g.2 1, 6, .inl me)), (t2, .inl (g.2 1, 36, .inl wb)), (q1, .inl (g.2 1, 6, .inl (flF (fun _ => 0) sh 6))), (h0, .inr (4, [.ref q0, .ref q1, .int mo])), (q0, .inl (g.2 1, 24, .inl (dfF (taxF sd f)))), (t0, .inr (5, [.ref t1, .ref t2, .int pw])), (t1, .inl (g.2 1, 6, .inl pd))] := hD
    have hP : va_P g.1 vwCl [(p0, .inr (6, [.ref p1, .ref p2, .ref p3, .ref p4, .int 0])), (p1, .inl (g.2 1, 24, .inl sd)), (p2, .inl (g.2 1, 10, .inl fn)), (p3, .inl (g.2 1, 6, .inl st)), (p4, .inl (g.2 1, 6, .inl me)), (t2, .inl (g.2 1, 36, .inl wb)), (q1, .inl (g.2 1, 6, .inl (flF (fun _ => 0) sh 6))), (h0, .inr (4, [.ref q0, .ref q1, .int mo])), (q0, .inl (g.2 1, 24, .inl (dfF (taxF sd f)))), (t0, .inr (5, [.ref t1, .ref t2, .int pw])), (t1, .inl (g.2 1, 6, .inl pd))] H := hP
    have hD : va_D A [(p0, .inr (6, [.ref p1, .ref p2, .ref p3, .ref p4, .int 0])), (p1, .inl (g.2 1, 24, .inl sd)), (p2, .inl (g.2 1, 10, .inl fn)), (p3, .inl (g.2 1, 6, .inl st)), (p4, .inl (g.2 1, 6, .inl me)), (t2, .inl (g.2 1, 36, .inl wb)), (q1, .inl (g.2 1, 6, .inl (flF (fun _ => 0) sh 6))), (h0, .inr (4, [.ref q0, .ref q1, .int mo])), (q0, .inl (g.2 1, 24, .inl (dfF (taxF sd f)))), (t0, .inr (5, [.ref t1, .ref t2, .int pw])), (t1, .inl (g.2 1, 6, .inl pd))] := hD
    refine lv_if_eq (tgt := 71) hx hb dX4_pass_48 (by decide) (fun c_37 => ?_) (fun c_37 => ?_)
    · refine lv_aload_n hx hb dX4_pass_71 rfl (lv_at hl 0 rfl) ?_
      refine va_get (v := .ref q0) (T := TX4) (N := 3) hx hb hts inX4 hown hK hP 7 rfl rfl 0 (by decide) f9 (fun _ h9 => h9) rfl dX4_pass_72 ?_
      refine lv_iconst (v := 5) hx hb dX4_pass_75 (by decide) ?_
      refine lv_iconst (v := 0) hx hb dX4_pass_76 (by decide) ?_
      refine lv_aload_n hx hb dX4_pass_77 rfl (lv_at hl 0 rfl) ?_
      refine va_get (v := .ref q0) (T := TX4) (N := 3) hx hb hts inX4 hown hK hP 7 rfl rfl 0 (by decide) f9 (fun _ h9 => h9) rfl dX4_pass_78 ?_
      refine lv_iconst (v := 5) hx hb dX4_pass_81 (by decide) ?_
      refine he_iald hx hb hK hP 8 rfl (5) (by decide) (by decide) (by first | decide | assumption) ((dfF (taxF sd f)) 5) rfl dX4_pass_82 ?_
      refine lv_aload_n hx hb dX4_pass_83 rfl (lv_at hl 1 rfl) ?_
      refine va_get (v := .ref p1) (T := TX6) (N := 5) hx hb hts inX6 hown hK hP 0 rfl rfl 0 (by decide) f28 (fun _ h9 => h9) rfl dX4_pass_84 ?_
      refine lv_bipush (v := 14) hx hb dX4_pass_87 (by decide) ?_
      refine he_iald hx hb hK hP 1 rfl (14) (by decide) (by decide) (by first | decide | assumption) (sd 14) rfl dX4_pass_89 ?_
      refine lv_isub hx hb dX4_pass_90 ?_
      refine va_mmax hx hb (by rw [hml]; exact hl.1.symm) hown ml68 msmax mi mcmax (by decide) (Nat.le_of_ble_eq_true rfl) (Nat.le_of_ble_eq_true rfl) (Nat.le_of_ble_eq_true rfl) dX4_pass_91 ?_
      refine he_iast hx hb hK hP hD hS 8 rfl (5) (by decide) (by decide) (by first | decide | assumption) dX4_pass_94 (fun H locs hP hD hS => ?_)
      have hP : va_P g.1 vwCl [(p0, .inr (6, [.ref p1, .ref p2, .ref p3, .ref p4, .int 0])), (p1, .inl (g.2 1, 24, .inl sd)), (p2, .inl (g.2 1, 10, .inl fn)), (p3, .inl (g.2 1, 6, .inl st)), (p4, .inl (g.2 1, 6, .inl me)), (t2, .inl (g.2 1, 36, .inl wb)), (q1, .inl (g.2 1, 6, .inl (flF (fun _ => 0) sh 6))), (h0, .inr (4, [.ref q0, .ref q1, .int mo])), (q0, .inl (g.2 1, 24, .inl (upd (dfF (taxF sd f)) 5 (if 0 < (((dfF (taxF sd f)) 5) - (sd 14)) then ((dfF (taxF sd f)) 5) - (sd 14) else 0)))), (t0, .inr (5, [.ref t1, .ref t2, .int pw])), (t1, .inl (g.2 1, 6, .inl pd))] H := hP
      have hD : va_D A [(p0, .inr (6, [.ref p1, .ref p2, .ref p3, .ref p4, .int 0])), (p1, .inl (g.2 1, 24, .inl sd)), (p2, .inl (g.2 1, 10, .inl fn)), (p3, .inl (g.2 1, 6, .inl st)), (p4, .inl (g.2 1, 6, .inl me)), (t2, .inl (g.2 1, 36, .inl wb)), (q1, .inl (g.2 1, 6, .inl (flF (fun _ => 0) sh 6))), (h0, .inr (4, [.ref q0, .ref q1, .int mo])), (q0, .inl (g.2 1, 24, .inl (upd (dfF (taxF sd f)) 5 (if 0 < (((dfF (taxF sd f)) 5) - (sd 14)) then ((dfF (taxF sd f)) 5) - (sd 14) else 0)))), (t0, .inr (5, [.ref t1, .ref t2, .int pw])), (t1, .inl (g.2 1, 6, .inl pd))] := hD
      have hP : va_P g.1 vwCl [(p0, .inr (6, [.ref p1, .ref p2, .ref p3, .ref p4, .int 0])), (p1, .inl (g.2 1, 24, .inl sd)), (p2, .inl (g.2 1, 10, .inl fn)), (p3, .inl (g.2 1, 6, .inl st)), (p4, .inl (g.2 1, 6, .inl me)), (t2, .inl (g.2 1, 36, .inl wb)), (q1, .inl (g.2 1, 6, .inl (flF (fun _ => 0) sh 6))), (h0, .inr (4, [.ref q0, .ref q1, .int mo])), (q0, .inl (g.2 1, 24, .inl (psA sd (dfF (taxF sd f))))), (t0, .inr (5, [.ref t1, .ref t2, .int pw])), (t1, .inl (g.2 1, 6, .inl pd))] H := hP
      have hD : va_D A [(p0, .inr (6, [.ref p1, .ref p2, .ref p3, .ref p4, .int 0])), (p1, .inl (g.2 1, 24, .inl sd)), (p2, .inl (g.2 1, 10, .inl fn)), (p3, .inl (g.2 1, 6, .inl st)), (p4, .inl (g.2 1, 6, .inl me)), (t2, .inl (g.2 1, 36, .inl wb)), (q1, .inl (g.2 1, 6, .inl (flF (fun _ => 0) sh 6))), (h0, .inr (4, [.ref q0, .ref q1, .int mo])), (q0, .inl (g.2 1, 24, .inl (psA sd (dfF (taxF sd f))))), (t0, .inr (5, [.ref t1, .ref t2, .int pw])), (t1, .inl (g.2 1, 6, .inl pd))] := hD
      refine lv_aload_n hx hb dX4_pass_95 rfl (lv_at hl 0 rfl) ?_
      refine lv_aload_n hx hb dX4_pass_96 rfl (lv_at hl 1 rfl) ?_
      refine he_cv (wc := [(h0, .inr (4, [.ref q0, .ref q1, .int mo])), (q0, .inl (g.2 1, 24, .inl (psA sd (dfF (taxF sd f))))), (p0, .inr (6, [.ref p1, .ref p2, .ref p3, .ref p4, .int 0])), (p1, .inl (g.2 1, 24, .inl sd)), (p3, .inl (g.2 1, 6, .inl st)), (p4, .inl (g.2 1, 6, .inl me))]) (wr := [(p2, .inl (g.2 1, 10, .inl fn)), (t2, .inl (g.2 1, 36, .inl wb)), (q1, .inl (g.2 1, 6, .inl (flF (fun _ => 0) sh 6))), (t0, .inr (5, [.ref t1, .ref t2, .int pw])), (t1, .inl (g.2 1, 6, .inl pd))]) (va_runV (As := [.ref p0]) (rest := []) ⟨hx, hb, hml, hown, hts⟩ (c_X4_mend l g h0 q0 q1 mo (psA sd (dfF (taxF sd f))) p0 p1 p2 p3 p4 0 sd st me (by first | assumption | decide | omega) H.size) (cwV 1 hts gX4_pass_X4_mend rfl rfl rfl (by decide +kernel) ⟨Nat.le_of_ble_eq_true rfl, Nat.le_of_ble_eq_true rfl⟩) (he_preV (wc := [(h0, .inr (4, [.ref q0, .ref q1, .int mo])), (q0, .inl (g.2 1, 24, .inl (psA sd (dfF (taxF sd f))))), (p0, .inr (6, [.ref p1, .ref p2, .ref p3, .ref p4, .int 0])), (p1, .inl (g.2 1, 24, .inl sd)), (p3, .inl (g.2 1, 6, .inl st)), (p4, .inl (g.2 1, 6, .inl me))]) hK hP hD hS hA hE [7, 8, 0, 1, 3, 4] rfl rfl 7 rfl rfl) rfl rfl hl.1 rfl (lv_room (Nat.le_of_ble_eq_true rfl)) dX4_pass_97 ⟨(Nat.le_of_ble_eq_true rfl), (Nat.le_of_ble_eq_true rfl)⟩) hP hD hS hA [7, 8, 0, 1, 3, 4] [2, 5, 6, 9, 10] rfl rfl rfl (by decide) (fun u_39 H locs h_40 hP hD hS => ?_)
      have hP : va_P g.1 vwCl [(p2, .inl (g.2 1, 10, .inl fn)), (t2, .inl (g.2 1, 36, .inl wb)), (q1, .inl (g.2 1, 6, .inl (flF (fun _ => 0) sh 6))), (t0, .inr (5, [.ref t1, .ref t2, .int pw])), (t1, .inl (g.2 1, 6, .inl pd)), (h0, .inr (4, [.ref q0, .ref q1, .int mo])), (q0, .inl (g.2 1, 24, .inl (mendF sd st me (psA sd (dfF (taxF sd f))) 0))), (p0, .inr (6, [.ref p1, .ref p2, .ref p3, .ref p4, .int 0])), (p1, .inl (g.2 1, 24, .inl sd)), (p3, .inl (g.2 1, 6, .inl st)), (p4, .inl (g.2 1, 6, .inl me))] H := hP
      have hD : va_D A [(p2, .inl (g.2 1, 10, .inl fn)), (t2, .inl (g.2 1, 36, .inl wb)), (q1, .inl (g.2 1, 6, .inl (flF (fun _ => 0) sh 6))), (t0, .inr (5, [.ref t1, .ref t2, .int pw])), (t1, .inl (g.2 1, 6, .inl pd)), (h0, .inr (4, [.ref q0, .ref q1, .int mo])), (q0, .inl (g.2 1, 24, .inl (mendF sd st me (psA sd (dfF (taxF sd f))) 0))), (p0, .inr (6, [.ref p1, .ref p2, .ref p3, .ref p4, .int 0])), (p1, .inl (g.2 1, 24, .inl sd)), (p3, .inl (g.2 1, 6, .inl st)), (p4, .inl (g.2 1, 6, .inl me))] := hD
      refine lv_aload_n hx hb dX4_pass_100 rfl (lv_at hl 0 rfl) ?_
      refine lv_iconst (v := 0) hx hb dX4_pass_101 (by decide) ?_
      refine lv_iconst (v := 2) hx hb dX4_pass_102 (by decide) ?_
      refine lv_aload_n hx hb dX4_pass_103 rfl (lv_at hl 1 rfl) ?_
      refine va_get (v := .ref p1) (T := TX6) (N := 5) hx hb hts inX6 hown hK hP 7 rfl rfl 0 (by decide) f28 (fun _ h9 => h9) rfl dX4_pass_104 ?_
      refine lv_iconst (v := 5) hx hb dX4_pass_107 (by decide) ?_
      refine he_iald hx hb hK hP 8 rfl (5) (by decide) (by decide) (by first | decide | assumption) (sd 5) rfl dX4_pass_108 ?_
      refine lv_aload_n hx hb dX4_pass_109 rfl (lv_at hl 0 rfl) ?_
      refine va_get (v := .ref q0) (T := TX4) (N := 3) hx hb hts inX4 hown hK hP 5 rfl rfl 0 (by decide) f9 (fun _ h9 => h9) rfl dX4_pass_110 ?_
      refine lv_iconst (v := 3) hx hb dX4_pass_113 (by decide) ?_
      refine he_iald hx hb hK hP 6 rfl (3) (by decide) (by decide) (by first | decide | assumption) ((mendF sd st me (psA sd (dfF (taxF sd f))) 0) 3) rfl dX4_pass_114 ?_
      refine lv_bipush (v := 10) hx hb dX4_pass_115 (by decide) ?_
      refine lv_idiv hx hb dX4_pass_117 (by decide) ?_
      refine lv_imul hx hb dX4_pass_118 ?_
      refine he_cv (wc := [(h0, .inr (4, [.ref q0, .ref q1, .int mo])), (q0, .inl (g.2 1, 24, .inl (mendF sd st me (psA sd (dfF (taxF sd f))) 0)))]) (wr := [(p2, .inl (g.2 1, 10, .inl fn)), (t2, .inl (g.2 1, 36, .inl wb)), (q1, .inl (g.2 1, 6, .inl (flF (fun _ => 0) sh 6))), (t0, .inr (5, [.ref t1, .ref t2, .int pw])), (t1, .inl (g.2 1, 6, .inl pd)), (p0, .inr (6, [.ref p1, .ref p2, .ref p3, .ref p4, .int 0])), (p1, .inl (g.2 1, 24, .inl sd)), (p3, .inl (g.2 1, 6, .inl st)), (p4, .inl (g.2 1, 6, .inl me))]) (va_runV (As := [.int 0, .int 2, .int ((sd 5) * (((mendF sd st me (psA sd (dfF (taxF sd f))) 0) 3) / 10))]) (rest := []) ⟨hx, hb, hml, hown, hts⟩ (c_X4_move l g h0 q0 q1 mo (mendF sd st me (psA sd (dfF (taxF sd f))) 0) 0 2 ((sd 5) * (((mendF sd st me (psA sd (dfF (taxF sd f))) 0) 3) / 10)) (by first | assumption | decide | omega) (by first | assumption | decide | omega) H.size) (cwV 3 hts gX4_pass_X4_move rfl rfl rfl (by decide +kernel) ⟨Nat.le_of_ble_eq_true rfl, Nat.le_of_ble_eq_true rfl⟩) (he_preV (wc := [(h0, .inr (4, [.ref q0, .ref q1, .int mo])), (q0, .inl (g.2 1, 24, .inl (mendF sd st me (psA sd (dfF (taxF sd f))) 0)))]) hK hP hD hS hA hE [5, 6] rfl rfl 5 rfl rfl) rfl rfl hl.1 rfl (lv_room (Nat.le_of_ble_eq_true rfl)) dX4_pass_119 ⟨(Nat.le_of_ble_eq_true rfl), (Nat.le_of_ble_eq_true rfl)⟩) hP hD hS hA [5, 6] [0, 1, 2, 3, 4, 7, 8, 9, 10] rfl rfl rfl (by decide) (fun u_42 H locs h_43 hP hD hS => ?_)
      have hP : va_P g.1 vwCl [(p2, .inl (g.2 1, 10, .inl fn)), (t2, .inl (g.2 1, 36, .inl wb)), (q1, .inl (g.2 1, 6, .inl (flF (fun _ => 0) sh 6))), (t0, .inr (5, [.ref t1, .ref t2, .int pw])), (t1, .inl (g.2 1, 6, .inl pd)), (p0, .inr (6, [.ref p1, .ref p2, .ref p3, .ref p4, .int 0])), (p1, .inl (g.2 1, 24, .inl sd)), (p3, .inl (g.2 1, 6, .inl st)), (p4, .inl (g.2 1, 6, .inl me)), (h0, .inr (4, [.ref q0, .ref q1, .int mo])), (q0, .inl (g.2 1, 24, .inl (mvF (mendF sd st me (psA sd (dfF (taxF sd f))) 0) 0 2 ((sd 5) * (((mendF sd st me (psA sd (dfF (taxF sd f))) 0) 3) / 10)))))] H := hP
      have hD : va_D A [(p2, .inl (g.2 1, 10, .inl fn)), (t2, .inl (g.2 1, 36, .inl wb)), (q1, .inl (g.2 1, 6, .inl (flF (fun _ => 0) sh 6))), (t0, .inr (5, [.ref t1, .ref t2, .int pw])), (t1, .inl (g.2 1, 6, .inl pd)), (p0, .inr (6, [.ref p1, .ref p2, .ref p3, .ref p4, .int 0])), (p1, .inl (g.2 1, 24, .inl sd)), (p3, .inl (g.2 1, 6, .inl st)), (p4, .inl (g.2 1, 6, .inl me)), (h0, .inr (4, [.ref q0, .ref q1, .int mo])), (q0, .inl (g.2 1, 24, .inl (mvF (mendF sd st me (psA sd (dfF (taxF sd f))) 0) 0 2 ((sd 5) * (((mendF sd st me (psA sd (dfF (taxF sd f))) 0) 3) / 10)))))] := hD
      have hP : va_P g.1 vwCl [(p2, .inl (g.2 1, 10, .inl fn)), (t2, .inl (g.2 1, 36, .inl wb)), (q1, .inl (g.2 1, 6, .inl (flF (fun _ => 0) sh 6))), (t0, .inr (5, [.ref t1, .ref t2, .int pw])), (t1, .inl (g.2 1, 6, .inl pd)), (p0, .inr (6, [.ref p1, .ref p2, .ref p3, .ref p4, .int 0])), (p1, .inl (g.2 1, 24, .inl sd)), (p3, .inl (g.2 1, 6, .inl st)), (p4, .inl (g.2 1, 6, .inl me)), (h0, .inr (4, [.ref q0, .ref q1, .int mo])), (q0, .inl (g.2 1, 24, .inl (psB sd (mendF sd st me (psA sd (dfF (taxF sd f))) 0))))] H := hP
      have hD : va_D A [(p2, .inl (g.2 1, 10, .inl fn)), (t2, .inl (g.2 1, 36, .inl wb)), (q1, .inl (g.2 1, 6, .inl (flF (fun _ => 0) sh 6))), (t0, .inr (5, [.ref t1, .ref t2, .int pw])), (t1, .inl (g.2 1, 6, .inl pd)), (p0, .inr (6, [.ref p1, .ref p2, .ref p3, .ref p4, .int 0])), (p1, .inl (g.2 1, 24, .inl sd)), (p3, .inl (g.2 1, 6, .inl st)), (p4, .inl (g.2 1, 6, .inl me)), (h0, .inr (4, [.ref q0, .ref q1, .int mo])), (q0, .inl (g.2 1, 24, .inl (psB sd (mendF sd st me (psA sd (dfF (taxF sd f))) 0))))] := hD
      refine lv_aload_n hx hb dX4_pass_122 rfl (lv_at hl 0 rfl) ?_
      refine lv_iconst (v := 1) hx hb dX4_pass_123 (by decide) ?_
      refine lv_iconst (v := 2) hx hb dX4_pass_124 (by decide) ?_
      refine lv_aload_n hx hb dX4_pass_125 rfl (lv_at hl 1 rfl) ?_
      refine va_get (v := .ref p1) (T := TX6) (N := 5) hx hb hts inX6 hown hK hP 5 rfl rfl 0 (by decide) f28 (fun _ h9 => h9) rfl dX4_pass_126 ?_
      refine lv_bipush (v := 8) hx hb dX4_pass_129 (by decide) ?_
      refine he_iald hx hb hK hP 6 rfl (8) (by decide) (by decide) (by first | decide | assumption) (sd 8) rfl dX4_pass_131 ?_
      refine lv_aload_n hx hb dX4_pass_132 rfl (lv_at hl 0 rfl) ?_
      refine va_get (v := .ref q0) (T := TX4) (N := 3) hx hb hts inX4 hown hK hP 9 rfl rfl 0 (by decide) f9 (fun _ h9 => h9) rfl dX4_pass_133 ?_
      refine lv_iconst (v := 4) hx hb dX4_pass_136 (by decide) ?_
      refine he_iald hx hb hK hP 10 rfl (4) (by decide) (by decide) (by first | decide | assumption) ((psB sd (mendF sd st me (psA sd (dfF (taxF sd f))) 0)) 4) rfl dX4_pass_137 ?_
      refine lv_bipush (v := 10) hx hb dX4_pass_138 (by decide) ?_
      refine lv_idiv hx hb dX4_pass_140 (by decide) ?_
      refine lv_imul hx hb dX4_pass_141 ?_
      refine he_cv (wc := [(h0, .inr (4, [.ref q0, .ref q1, .int mo])), (q0, .inl (g.2 1, 24, .inl (psB sd (mendF sd st me (psA sd (dfF (taxF sd f))) 0))))]) (wr := [(p2, .inl (g.2 1, 10, .inl fn)), (t2, .inl (g.2 1, 36, .inl wb)), (q1, .inl (g.2 1, 6, .inl (flF (fun _ => 0) sh 6))), (t0, .inr (5, [.ref t1, .ref t2, .int pw])), (t1, .inl (g.2 1, 6, .inl pd)), (p0, .inr (6, [.ref p1, .ref p2, .ref p3, .ref p4, .int 0])), (p1, .inl (g.2 1, 24, .inl sd)), (p3, .inl (g.2 1, 6, .inl st)), (p4, .inl (g.2 1, 6, .inl me))]) (va_runV (As := [.int 1, .int 2, .int ((sd 8) * (((psB sd (mendF sd st me (psA sd (dfF (taxF sd f))) 0)) 4) / 10))]) (rest := []) ⟨hx, hb, hml, hown, hts⟩ (c_X4_move l g h0 q0 q1 mo (psB sd (mendF sd st me (psA sd (dfF (taxF sd f))) 0)) 1 2 ((sd 8) * (((psB sd (mendF sd st me (psA sd (dfF (taxF sd f))) 0)) 4) / 10)) (by first | assumption | decide | omega) (by first | assumption | decide | omega) H.size) (cwV 3 hts gX4_pass_X4_move rfl rfl rfl (by decide +kernel) ⟨Nat.le_of_ble_eq_true rfl, Nat.le_of_ble_eq_true rfl⟩) (he_preV (wc := [(h0, .inr (4, [.ref q0, .ref q1, .int mo])), (q0, .inl (g.2 1, 24, .inl (psB sd (mendF sd st me (psA sd (dfF (taxF sd f))) 0))))]) hK hP hD hS hA hE [9, 10] rfl rfl 9 rfl rfl) rfl rfl hl.1 rfl (lv_room (Nat.le_of_ble_eq_true rfl)) dX4_pass_142 ⟨(Nat.le_of_ble_eq_true rfl), (Nat.le_of_ble_eq_true rfl)⟩) hP hD hS hA [9, 10] [0, 1, 2, 3, 4, 5, 6, 7, 8] rfl rfl rfl (by decide) (fun u_45 H locs h_46 hP hD hS => ?_)
      have hP : va_P g.1 vwCl [(p2, .inl (g.2 1, 10, .inl fn)), (t2, .inl (g.2 1, 36, .inl wb)), (q1, .inl (g.2 1, 6, .inl (flF (fun _ => 0) sh 6))), (t0, .inr (5, [.ref t1, .ref t2, .int pw])), (t1, .inl (g.2 1, 6, .inl pd)), (p0, .inr (6, [.ref p1, .ref p2, .ref p3, .ref p4, .int 0])), (p1, .inl (g.2 1, 24, .inl sd)), (p3, .inl (g.2 1, 6, .inl st)), (p4, .inl (g.2 1, 6, .inl me)), (h0, .inr (4, [.ref q0, .ref q1, .int mo])), (q0, .inl (g.2 1, 24, .inl (mvF (psB sd (mendF sd st me (psA sd (dfF (taxF sd f))) 0)) 1 2 ((sd 8) * (((psB sd (mendF sd st me (psA sd (dfF (taxF sd f))) 0)) 4) / 10)))))] H := hP
      have hD : va_D A [(p2, .inl (g.2 1, 10, .inl fn)), (t2, .inl (g.2 1, 36, .inl wb)), (q1, .inl (g.2 1, 6, .inl (flF (fun _ => 0) sh 6))), (t0, .inr (5, [.ref t1, .ref t2, .int pw])), (t1, .inl (g.2 1, 6, .inl pd)), (p0, .inr (6, [.ref p1, .ref p2, .ref p3, .ref p4, .int 0])), (p1, .inl (g.2 1, 24, .inl sd)), (p3, .inl (g.2 1, 6, .inl st)), (p4, .inl (g.2 1, 6, .inl me)), (h0, .inr (4, [.ref q0, .ref q1, .int mo])), (q0, .inl (g.2 1, 24, .inl (mvF (psB sd (mendF sd st me (psA sd (dfF (taxF sd f))) 0)) 1 2 ((sd 8) * (((psB sd (mendF sd st me (psA sd (dfF (taxF sd f))) 0)) 4) / 10)))))] := hD
      have hP : va_P g.1 vwCl [(p2, .inl (g.2 1, 10, .inl fn)), (t2, .inl (g.2 1, 36, .inl wb)), (q1, .inl (g.2 1, 6, .inl (flF (fun _ => 0) sh 6))), (t0, .inr (5, [.ref t1, .ref t2, .int pw])), (t1, .inl (g.2 1, 6, .inl pd)), (p0, .inr (6, [.ref p1, .ref p2, .ref p3, .ref p4, .int 0])), (p1, .inl (g.2 1, 24, .inl sd)), (p3, .inl (g.2 1, 6, .inl st)), (p4, .inl (g.2 1, 6, .inl me)), (h0, .inr (4, [.ref q0, .ref q1, .int mo])), (q0, .inl (g.2 1, 24, .inl (psC sd (psB sd (mendF sd st me (psA sd (dfF (taxF sd f))) 0)))))] H := hP
      have hD : va_D A [(p2, .inl (g.2 1, 10, .inl fn)), (t2, .inl (g.2 1, 36, .inl wb)), (q1, .inl (g.2 1, 6, .inl (flF (fun _ => 0) sh 6))), (t0, .inr (5, [.ref t1, .ref t2, .int pw])), (t1, .inl (g.2 1, 6, .inl pd)), (p0, .inr (6, [.ref p1, .ref p2, .ref p3, .ref p4, .int 0])), (p1, .inl (g.2 1, 24, .inl sd)), (p3, .inl (g.2 1, 6, .inl st)), (p4, .inl (g.2 1, 6, .inl me)), (h0, .inr (4, [.ref q0, .ref q1, .int mo])), (q0, .inl (g.2 1, 24, .inl (psC sd (psB sd (mendF sd st me (psA sd (dfF (taxF sd f))) 0)))))] := hD
      refine lv_aload_n hx hb dX4_pass_145 rfl (lv_at hl 0 rfl) ?_
      refine lv_aload_n hx hb dX4_pass_146 rfl (lv_at hl 1 rfl) ?_
      refine va_get (v := .ref p1) (T := TX6) (N := 5) hx hb hts inX6 hown hK hP 5 rfl rfl 0 (by decide) f28 (fun _ h9 => h9) rfl dX4_pass_147 ?_
      refine lv_bipush (v := 8) hx hb dX4_pass_150 (by decide) ?_
      refine he_iald hx hb hK hP 6 rfl (8) (by decide) (by decide) (by first | decide | assumption) (sd 8) rfl dX4_pass_152 ?_
      refine lv_aload_n hx hb dX4_pass_153 rfl (lv_at hl 1 rfl) ?_
      refine va_get (v := .ref p1) (T := TX6) (N := 5) hx hb hts inX6 hown hK hP 5 rfl rfl 0 (by decide) f28 (fun _ h9 => h9) rfl dX4_pass_154 ?_
      refine lv_iconst (v := 5) hx hb dX4_pass_157 (by decide) ?_
      refine he_iald hx hb hK hP 6 rfl (5) (by decide) (by decide) (by first | decide | assumption) (sd 5) rfl dX4_pass_158 ?_
      refine lv_isub hx hb dX4_pass_159 ?_
      refine he_cv (wc := [(h0, .inr (4, [.ref q0, .ref q1, .int mo])), (q0, .inl (g.2 1, 24, .inl (psC sd (psB sd (mendF sd st me (psA sd (dfF (taxF sd f))) 0)))))]) (wr := [(p2, .inl (g.2 1, 10, .inl fn)), (t2, .inl (g.2 1, 36, .inl wb)), (q1, .inl (g.2 1, 6, .inl (flF (fun _ => 0) sh 6))), (t0, .inr (5, [.ref t1, .ref t2, .int pw])), (t1, .inl (g.2 1, 6, .inl pd)), (p0, .inr (6, [.ref p1, .ref p2, .ref p3, .ref p4, .int 0])), (p1, .inl (g.2 1, 24, .inl sd)), (p3, .inl (g.2 1, 6, .inl st)), (p4, .inl (g.2 1, 6, .inl me))]) (va_runV (As := [.int ((sd 8) - (sd 5))]) (rest := []) ⟨hx, hb, hml, hown, hts⟩ (c_X4_desert l g h0 q0 q1 mo (psC sd (psB sd (mendF sd st me (psA sd (dfF (taxF sd f))) 0))) ((sd 8) - (sd 5)) H.size) (cwV 1 hts gX4_pass_X4_desert rfl rfl rfl (by decide +kernel) ⟨Nat.le_of_ble_eq_true rfl, Nat.le_of_ble_eq_true rfl⟩) (he_preV (wc := [(h0, .inr (4, [.ref q0, .ref q1, .int mo])), (q0, .inl (g.2 1, 24, .inl (psC sd (psB sd (mendF sd st me (psA sd (dfF (taxF sd f))) 0)))))]) hK hP hD hS hA hE [9, 10] rfl rfl 9 rfl rfl) rfl rfl hl.1 rfl (lv_room (Nat.le_of_ble_eq_true rfl)) dX4_pass_160 ⟨(Nat.le_of_ble_eq_true rfl), (Nat.le_of_ble_eq_true rfl)⟩) hP hD hS hA [9, 10] [0, 1, 2, 3, 4, 5, 6, 7, 8] rfl rfl rfl (by decide) (fun u_48 H locs h_49 hP hD hS => ?_)
      have hP : va_P g.1 vwCl [(p2, .inl (g.2 1, 10, .inl fn)), (t2, .inl (g.2 1, 36, .inl wb)), (q1, .inl (g.2 1, 6, .inl (flF (fun _ => 0) sh 6))), (t0, .inr (5, [.ref t1, .ref t2, .int pw])), (t1, .inl (g.2 1, 6, .inl pd)), (p0, .inr (6, [.ref p1, .ref p2, .ref p3, .ref p4, .int 0])), (p1, .inl (g.2 1, 24, .inl sd)), (p3, .inl (g.2 1, 6, .inl st)), (p4, .inl (g.2 1, 6, .inl me)), (h0, .inr (4, [.ref q0, .ref q1, .int mo])), (q0, .inl (g.2 1, 24, .inl (dsF (psC sd (psB sd (mendF sd st me (psA sd (dfF (taxF sd f))) 0))) ((sd 8) - (sd 5)))))] H := hP
      have hD : va_D A [(p2, .inl (g.2 1, 10, .inl fn)), (t2, .inl (g.2 1, 36, .inl wb)), (q1, .inl (g.2 1, 6, .inl (flF (fun _ => 0) sh 6))), (t0, .inr (5, [.ref t1, .ref t2, .int pw])), (t1, .inl (g.2 1, 6, .inl pd)), (p0, .inr (6, [.ref p1, .ref p2, .ref p3, .ref p4, .int 0])), (p1, .inl (g.2 1, 24, .inl sd)), (p3, .inl (g.2 1, 6, .inl st)), (p4, .inl (g.2 1, 6, .inl me)), (h0, .inr (4, [.ref q0, .ref q1, .int mo])), (q0, .inl (g.2 1, 24, .inl (dsF (psC sd (psB sd (mendF sd st me (psA sd (dfF (taxF sd f))) 0))) ((sd 8) - (sd 5)))))] := hD
      have hP : va_P g.1 vwCl [(p2, .inl (g.2 1, 10, .inl fn)), (t2, .inl (g.2 1, 36, .inl wb)), (q1, .inl (g.2 1, 6, .inl (flF (fun _ => 0) sh 6))), (t0, .inr (5, [.ref t1, .ref t2, .int pw])), (t1, .inl (g.2 1, 6, .inl pd)), (p0, .inr (6, [.ref p1, .ref p2, .ref p3, .ref p4, .int 0])), (p1, .inl (g.2 1, 24, .inl sd)), (p3, .inl (g.2 1, 6, .inl st)), (p4, .inl (g.2 1, 6, .inl me)), (h0, .inr (4, [.ref q0, .ref q1, .int mo])), (q0, .inl (g.2 1, 24, .inl (psT sd st me 0 (dfF (taxF sd f)))))] H := hP
      have hD : va_D A [(p2, .inl (g.2 1, 10, .inl fn)), (t2, .inl (g.2 1, 36, .inl wb)), (q1, .inl (g.2 1, 6, .inl (flF (fun _ => 0) sh 6))), (t0, .inr (5, [.ref t1, .ref t2, .int pw])), (t1, .inl (g.2 1, 6, .inl pd)), (p0, .inr (6, [.ref p1, .ref p2, .ref p3, .ref p4, .int 0])), (p1, .inl (g.2 1, 24, .inl sd)), (p3, .inl (g.2 1, 6, .inl st)), (p4, .inl (g.2 1, 6, .inl me)), (h0, .inr (4, [.ref q0, .ref q1, .int mo])), (q0, .inl (g.2 1, 24, .inl (psT sd st me 0 (dfF (taxF sd f)))))] := hD
      refine lv_aload_n hx hb dX4_pass_163 rfl (lv_at hl 0 rfl) ?_
      refine lv_dup hx hb dX4_pass_164 rfl ?_
      refine va_get (v := .int mo) (T := TX4) (N := 3) hx hb hts inX4 hown hK hP 9 rfl rfl 2 (by decide) f18 (fun _ h9 => h9) rfl dX4_pass_165 ?_
      refine lv_iconst (v := 1) hx hb dX4_pass_168 (by decide) ?_
      refine lv_iadd hx hb dX4_pass_169 ?_
      refine va_put (v := .int (mo + 1)) (ty := .int) (T := TX4) (N := 3) hx hb hts inX4 tyX4 tyX4_ok nmX4 hown hK hP hD hS 9 rfl rfl 2 (by decide) f18 (fun _ h9 => h9) rfl (by decide +kernel) rfl rfl (Nat.le_of_ble_eq_true rfl) dX4_pass_170 (fun H locs hP hD hS => ?_)
      have hP : va_P g.1 vwCl [(p2, .inl (g.2 1, 10, .inl fn)), (t2, .inl (g.2 1, 36, .inl wb)), (q1, .inl (g.2 1, 6, .inl (flF (fun _ => 0) sh 6))), (t0, .inr (5, [.ref t1, .ref t2, .int pw])), (t1, .inl (g.2 1, 6, .inl pd)), (p0, .inr (6, [.ref p1, .ref p2, .ref p3, .ref p4, .int 0])), (p1, .inl (g.2 1, 24, .inl sd)), (p3, .inl (g.2 1, 6, .inl st)), (p4, .inl (g.2 1, 6, .inl me)), (h0, .inr (4, [.ref q0, .ref q1, .int (mo + 1)])), (q0, .inl (g.2 1, 24, .inl (psT sd st me 0 (dfF (taxF sd f)))))] H := hP
      have hD : va_D A [(p2, .inl (g.2 1, 10, .inl fn)), (t2, .inl (g.2 1, 36, .inl wb)), (q1, .inl (g.2 1, 6, .inl (flF (fun _ => 0) sh 6))), (t0, .inr (5, [.ref t1, .ref t2, .int pw])), (t1, .inl (g.2 1, 6, .inl pd)), (p0, .inr (6, [.ref p1, .ref p2, .ref p3, .ref p4, .int 0])), (p1, .inl (g.2 1, 24, .inl sd)), (p3, .inl (g.2 1, 6, .inl st)), (p4, .inl (g.2 1, 6, .inl me)), (h0, .inr (4, [.ref q0, .ref q1, .int (mo + 1)])), (q0, .inl (g.2 1, 24, .inl (psT sd st me 0 (dfF (taxF sd f)))))] := hD
      refine lv_aload_n hx hb dX4_pass_173 rfl (lv_at hl 2 rfl) ?_
      refine lv_ifnull hx hb dX4_pass_174 ?_
      refine lv_aload_n hx hb dX4_pass_177 rfl (lv_at hl 0 rfl) ?_
      refine va_get (v := .int (mo + 1)) (T := TX4) (N := 3) hx hb hts inX4 hown hK hP 9 rfl rfl 2 (by decide) f18 (fun _ h9 => h9) rfl dX4_pass_178 ?_
      refine lv_aload_n hx hb dX4_pass_181 rfl (lv_at hl 0 rfl) ?_
      refine va_get (v := .ref q0) (T := TX4) (N := 3) hx hb hts inX4 hown hK hP 9 rfl rfl 0 (by decide) f9 (fun _ h9 => h9) rfl dX4_pass_182 ?_
      refine lv_bipush (v := 11) hx hb dX4_pass_185 (by decide) ?_
      refine he_iald hx hb hK hP 10 rfl (11) (by decide) (by decide) (by first | decide | assumption) ((psT sd st me 0 (dfF (taxF sd f))) 11) rfl dX4_pass_187 ?_
      refine lv_isub hx hb dX4_pass_188 ?_
      refine lv_aload_n hx hb dX4_pass_189 rfl (lv_at hl 2 rfl) ?_
      refine va_get (v := .ref t1) (T := TX5) (N := 3) hx hb hts inX5 hown hK hP 3 rfl rfl 0 (by decide) f57 (fun _ h9 => h9) rfl dX4_pass_190 ?_
      refine lv_iconst (v := 5) hx hb dX4_pass_193 (by decide) ?_
      refine he_iald hx hb hK hP 4 rfl (5) (by decide) (by decide) (by first | decide | assumption) (pd 5) rfl dX4_pass_194 ?_
      refine lv_icmp_lt (tgt := 206) hx hb dX4_pass_195 (by decide) (fun c_50 => ?_) (fun c_50 => ?_)
      · have hP := hP.sub (ws' := [(h0, .inr (4, [.ref q0, .ref q1, .int (mo + 1)])), (q0, .inl (g.2 1, 24, .inl (psT sd st me 0 (dfF (taxF sd f))))), (q1, .inl (g.2 1, 6, .inl (flF (fun _ => 0) sh 6))), (p0, .inr (6, [.ref p1, .ref p2, .ref p3, .ref p4, .int 0])), (p1, .inl (g.2 1, 24, .inl sd)), (p2, .inl (g.2 1, 10, .inl fn)), (p3, .inl (g.2 1, 6, .inl st)), (p4, .inl (g.2 1, 6, .inl me)), (t0, .inr (5, [.ref t1, .ref t2, .int pw])), (t1, .inl (g.2 1, 6, .inl pd)), (t2, .inl (g.2 1, 36, .inl wb))]) [9, 10, 2, 5, 6, 0, 7, 8, 3, 4, 1] rfl
        have hD := hD.sub (ws' := [(h0, .inr (4, [.ref q0, .ref q1, .int (mo + 1)])), (q0, .inl (g.2 1, 24, .inl (psT sd st me 0 (dfF (taxF sd f))))), (q1, .inl (g.2 1, 6, .inl (flF (fun _ => 0) sh 6))), (p0, .inr (6, [.ref p1, .ref p2, .ref p3, .ref p4, .int 0])), (p1, .inl (g.2 1, 24, .inl sd)), (p2, .inl (g.2 1, 10, .inl fn)), (p3, .inl (g.2 1, 6, .inl st)), (p4, .inl (g.2 1, 6, .inl me)), (t0, .inr (5, [.ref t1, .ref t2, .int pw])), (t1, .inl (g.2 1, 6, .inl pd)), (t2, .inl (g.2 1, 36, .inl wb))]) [9, 10, 2, 5, 6, 0, 7, 8, 3, 4, 1] (by decide) rfl
        exact he_rv hQ hx hb hr hlk hP hD hS dX4_pass_206 (Nat.le_of_ble_eq_true rfl) (Nat.le_of_ble_eq_true rfl) (()) (by simp only [pasP, tlF, if_neg hs_7, if_pos c_37, if_pos c_50]) (trivial)
      · refine lv_aload_n hx hb dX4_pass_198 rfl (lv_at hl 0 rfl) ?_
        refine va_get (v := .ref q0) (T := TX4) (N := 3) hx hb hts inX4 hown hK hP 9 rfl rfl 0 (by decide) f9 (fun _ h9 => h9) rfl dX4_pass_199 ?_
        refine lv_bipush (v := 10) hx hb dX4_pass_202 (by decide) ?_
        refine lv_iconst (v := (-1)) hx hb dX4_pass_204 (by decide) ?_
        refine he_iast hx hb hK hP hD hS 10 rfl (10) (by decide) (by decide) (by first | decide | assumption) dX4_pass_205 (fun H locs hP hD hS => ?_)
        have hP : va_P g.1 vwCl [(p2, .inl (g.2 1, 10, .inl fn)), (t2, .inl (g.2 1, 36, .inl wb)), (q1, .inl (g.2 1, 6, .inl (flF (fun _ => 0) sh 6))), (t0, .inr (5, [.ref t1, .ref t2, .int pw])), (t1, .inl (g.2 1, 6, .inl pd)), (p0, .inr (6, [.ref p1, .ref p2, .ref p3, .ref p4, .int 0])), (p1, .inl (g.2 1, 24, .inl sd)), (p3, .inl (g.2 1, 6, .inl st)), (p4, .inl (g.2 1, 6, .inl me)), (h0, .inr (4, [.ref q0, .ref q1, .int (mo + 1)])), (q0, .inl (g.2 1, 24, .inl (upd (psT sd st me 0 (dfF (taxF sd f))) 10 (-1))))] H := hP
        have hD : va_D A [(p2, .inl (g.2 1, 10, .inl fn)), (t2, .inl (g.2 1, 36, .inl wb)), (q1, .inl (g.2 1, 6, .inl (flF (fun _ => 0) sh 6))), (t0, .inr (5, [.ref t1, .ref t2, .int pw])), (t1, .inl (g.2 1, 6, .inl pd)), (p0, .inr (6, [.ref p1, .ref p2, .ref p3, .ref p4, .int 0])), (p1, .inl (g.2 1, 24, .inl sd)), (p3, .inl (g.2 1, 6, .inl st)), (p4, .inl (g.2 1, 6, .inl me)), (h0, .inr (4, [.ref q0, .ref q1, .int (mo + 1)])), (q0, .inl (g.2 1, 24, .inl (upd (psT sd st me 0 (dfF (taxF sd f))) 10 (-1))))] := hD
        have hP := hP.sub (ws' := [(h0, .inr (4, [.ref q0, .ref q1, .int (mo + 1)])), (q0, .inl (g.2 1, 24, .inl (upd (psT sd st me 0 (dfF (taxF sd f))) 10 (-1)))), (q1, .inl (g.2 1, 6, .inl (flF (fun _ => 0) sh 6))), (p0, .inr (6, [.ref p1, .ref p2, .ref p3, .ref p4, .int 0])), (p1, .inl (g.2 1, 24, .inl sd)), (p2, .inl (g.2 1, 10, .inl fn)), (p3, .inl (g.2 1, 6, .inl st)), (p4, .inl (g.2 1, 6, .inl me)), (t0, .inr (5, [.ref t1, .ref t2, .int pw])), (t1, .inl (g.2 1, 6, .inl pd)), (t2, .inl (g.2 1, 36, .inl wb))]) [9, 10, 2, 5, 6, 0, 7, 8, 3, 4, 1] rfl
        have hD := hD.sub (ws' := [(h0, .inr (4, [.ref q0, .ref q1, .int (mo + 1)])), (q0, .inl (g.2 1, 24, .inl (upd (psT sd st me 0 (dfF (taxF sd f))) 10 (-1)))), (q1, .inl (g.2 1, 6, .inl (flF (fun _ => 0) sh 6))), (p0, .inr (6, [.ref p1, .ref p2, .ref p3, .ref p4, .int 0])), (p1, .inl (g.2 1, 24, .inl sd)), (p2, .inl (g.2 1, 10, .inl fn)), (p3, .inl (g.2 1, 6, .inl st)), (p4, .inl (g.2 1, 6, .inl me)), (t0, .inr (5, [.ref t1, .ref t2, .int pw])), (t1, .inl (g.2 1, 6, .inl pd)), (t2, .inl (g.2 1, 36, .inl wb))]) [9, 10, 2, 5, 6, 0, 7, 8, 3, 4, 1] (by decide) rfl
        exact he_rv hQ hx hb hr hlk hP hD hS dX4_pass_206 (Nat.le_of_ble_eq_true rfl) (Nat.le_of_ble_eq_true rfl) (()) (by simp only [pasP, tlF, if_neg hs_7, if_pos c_37, if_neg c_50]) (trivial)
    · exact absurd (by decide) c_37
