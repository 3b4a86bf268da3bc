def puI (ro n an : Nat) : Int32 := if puB ro n an = true then 1 else 0
theorem puI_y {ro n an : Nat} (h : ¬ puI ro n an = 0) : puB ro n an = true := by
  unfold puI at h
  split at h
  · assumption
  · exact absurd rfl h
theorem puI_n {ro n an : Nat} (h : puI ro n an = 0) : ¬ puB ro n an = true := fun h9 => by
  unfold puI at h
  rw [if_pos h9] at h
  exact absurd h (by decide)
theorem pu_1 {ro n an : Nat} (h : ∀ k, k < 3 → bt an k = true ∨ dgt ro k = 0) (h2 : dgt ro 0 + dgt ro 1 + dgt ro 2 = n ∨ an = 0) : puI ro n an = 1 := by
  unfold puI puB
  rw [if_pos]
  have h0 := h 0 (by decide)
  have h1 := h 1 (by decide)
  have h3 := h 2 (by decide)
  simp only [Bool.and_eq_true, Bool.or_eq_true, beq_iff_eq]
  exact ⟨⟨⟨h0, h1⟩, h3⟩, h2⟩
theorem pu_0a {ro n an : Nat} (h : ¬ dgt ro 0 + dgt ro 1 + dgt ro 2 = n) (h2 : ¬ an = 0) : puI ro n an = 0 := by
  unfold puI puB
  rw [if_neg]
  simp only [Bool.and_eq_true, Bool.or_eq_true, beq_iff_eq]
  rintro ⟨-, h9⟩
  exact h9.elim h h2
theorem pu_0b {ro n an k : Nat} (hk : k < 3) (h1 : ¬ bt an k = true) (h2 : ¬ dgt ro k = 0) : puI ro n an = 0 := by
  unfold puI puB
  rw [if_neg]
  simp only [Bool.and_eq_true, Bool.or_eq_true, beq_iff_eq]
  rintro ⟨⟨⟨a0, a1⟩, a2⟩, -⟩
  rcases (show k = 0 ∨ k = 1 ∨ k = 2 by omega) with rfl | rfl | rfl
  · exact a0.elim h1 h2
  · exact a1.elim h1 h2
  · exact a2.elim h1 h2
theorem mxF_g {P : Nat → Bool} {v : Nat → Nat} {j m x : Nat} (h : m = mxF P v j) (hp : P j = true) (hx : v j = x) (hl : m < x) : x = mxF P v (j + 1) := by
  rw [mxF, if_pos ⟨hp, by rw [← h, hx]; exact hl⟩, hx]
theorem mxF_l {P : Nat → Bool} {v : Nat → Nat} {j m x : Nat} (h : m = mxF P v j) (hx : v j = x) (hl : x ≤ m) : m = mxF P v (j + 1) := by
  rw [mxF, if_neg (fun h9 => by have := h9.2; rw [hx, ← h] at this; omega)]
  exact h
theorem sfO_n {P : Nat → Bool} {v : Nat → Nat} {j : Nat} (h : ¬ P j = true) : sfO P v (j + 1) = sfO P v j := by rw [sfO, if_neg h]
theorem sfO_y {P : Nat → Bool} {v : Nat → Nat} {j : Nat} (h : P j = true) : sfO P v (j + 1) = stF v (sfO P v j) j := by rw [sfO, if_pos h]
theorem ro_lt : ∀ (L : List Nat) (v : Nat → Nat) (o : Option (Nat × Nat)), (∀ r ∈ L, r < 343) → roN o < 343 → roN (L.foldl (stF v) o) < 343
  | [], _, _, _, h => h
  | r :: L, v, o, hL, h => by
    refine ro_lt L v (stF v o r) (fun q hq => hL q (List.mem_cons_of_mem _ hq)) ?_
    have hr := hL r List.mem_cons_self
    unfold stF
    cases o with
    | none => exact hr
    | some q =>
      show roN (if v r < q.1 then some (v r, r) else some q) < 343
      split
      · exact hr
      · exact h
theorem cl_lt : ∀ n, n < 7 → ∀ A, A < 8 → (clL n A).all (fun r => decide (r < 343)) = true := by decide +kernel
theorem foC_ro {Wr : Nat → Nat} {an a d : Nat} (h8 : an < 8) (hd : d ≤ 6) : roN (foC Wr an a d) < 343 := by
  refine ro_lt (clL d an) _ none (fun r hr => ?_) (by show 0 < 343; decide)
  exact of_decide_eq_true (List.all_eq_true.mp (cl_lt d (by omega) an h8) r hr)
theorem le3 {w : Nat} (h : w ≤ 6) : (if nI w < 3 then nI w else 3) = nI (if 3 < w then 3 else w) := by
  rcases (show w = 0 ∨ w = 1 ∨ w = 2 ∨ w = 3 ∨ w = 4 ∨ w = 5 ∨ w = 6 by omega) with rfl | rfl | rfl | rfl | rfl | rfl | rfl <;> decide
set_option maxHeartbeats 4000000 in
set_option maxRecDepth 100000 in
theorem r_X11_digit (l : Launch) (g : he_G) (ro : Nat) (k : Nat) (hro : ro < 343) (hk : k < 3) : he_I l yX11_digit wsX11_digit 0 0 0 0 g [.int (nI ro), .int (nI k)] [] (fun (r : Int32) (u : Unit) => r = nI (dgt ro k)) (fun (u : Unit) => []) := by
  refine he_begin (l := l) (g := g) (y := yX11_digit) (wl := wsX11_digit) (fr := 0) (lo := 0) (mc := 0) (ms := 0) (av := [.int (nI ro), .int (nI k)]) (ws := []) (cc := cX11_digit) (maxL := 2) (ret := (some .int)) (fun A => va_Qi (fun (r : Int32) (u : Unit) => r = nI (dgt ro k)) (fun u t => he_post g A ((fun (u : Unit) => []) u) t) A) (by decide) rfl (Nat.le_of_ble_eq_true rfl) ?_
  intro p e s m args below meth c A ls H locs Q hQ hB
  obtain ⟨hx, hb, hr, hml, hown, hts, hlk, hin, hP, hK, hD, hS, hA, hE, hl⟩ := hB
  have hl : lv_has ls 2 [(0, .int (nI ro)), (1, .int (nI k))] := hl
  refine lv_iload_n hx hb dX11_digit_0 rfl (lv_at hl 1 rfl) ?_
  refine lv_if_ne (tgt := 11) hx hb dX11_digit_1 (by decide) (fun c_1 => ?_) (fun c_1 => ?_)
  · have k_2 : ¬ (k = 0) := fun h9 => c_1 ((he_ceq (a := k) (b := 0) rfl (by decide) (by omega) (by omega)).mpr h9)
    refine lv_iload_n hx hb dX11_digit_11 rfl (lv_at hl 1 rfl) ?_
    refine lv_iconst (v := 1) hx hb dX11_digit_12 (by decide) ?_
    refine lv_icmp_ne (tgt := 26) hx hb dX11_digit_13 (by decide) (fun c_3 => ?_) (fun c_3 => ?_)
    · have k_4 : ¬ (k = 1) := fun h9 => c_3 ((he_ceq (a := k) (b := 1) rfl (by decide) (by omega) (by omega)).mpr h9)
      refine lv_iload_n hx hb dX11_digit_26 rfl (lv_at hl 0 rfl) ?_
      refine lv_bipush (v := 7) hx hb dX11_digit_27 (by decide) ?_
      refine lv_irem hx hb dX11_digit_29 (by decide) ?_
      refine he_top (nI (ro % 7)) (dgF ro hro) ?_
      exact he_ri hQ hx hb hr hlk hP hD hS dX11_digit_30 (Nat.le_of_ble_eq_true rfl) (Nat.le_of_ble_eq_true rfl) (()) (rfl) ((congrArg nI (by unfold dgt; rw [if_neg (by omega), if_neg (by omega)])))
    · have k_5 : k = 1 := (he_ceq (a := k) (b := 1) rfl (by decide) (by omega) (by omega)).mp c_3
      refine lv_iload_n hx hb dX11_digit_16 rfl (lv_at hl 0 rfl) ?_
      refine lv_bipush (v := 7) hx hb dX11_digit_17 (by decide) ?_
      refine lv_idiv hx hb dX11_digit_19 (by decide) ?_
      refine he_top (nI ro / 7) rfl ?_
      refine lv_bipush (v := 7) hx hb dX11_digit_20 (by decide) ?_
      refine lv_irem hx hb dX11_digit_22 (by decide) ?_
      refine he_top (nI (ro / 7 % 7)) (dgE ro hro) ?_
      refine lv_goto (tgt := 30) hx hb dX11_digit_23 (by decide) ?_
      exact he_ri hQ hx hb hr hlk hP hD hS dX11_digit_30 (Nat.le_of_ble_eq_true rfl) (Nat.le_of_ble_eq_true rfl) (()) (rfl) ((congrArg nI (by unfold dgt; rw [if_neg (by omega), if_pos (by omega)])))
  · have k_6 : k = 0 := (he_ceq (a := k) (b := 0) rfl (by decide) (by omega) (by omega)).mp c_1
    refine lv_iload_n hx hb dX11_digit_4 rfl (lv_at hl 0 rfl) ?_
    refine lv_bipush (v := 49) hx hb dX11_digit_5 (by decide) ?_
    refine lv_idiv hx hb dX11_digit_7 (by decide) ?_
    refine he_top (nI (ro / 49)) (dgD ro hro) ?_
    refine lv_goto (tgt := 30) hx hb dX11_digit_8 (by decide) ?_
    exact he_ri hQ hx hb hr hlk hP hD hS dX11_digit_30 (Nat.le_of_ble_eq_true rfl) (Nat.le_of_ble_eq_true rfl) (()) (rfl) ((congrArg nI (by unfold dgt; rw [if_pos (by omega)])))
set_option maxHeartbeats 4000000 in
set_option maxRecDepth 100000 in
theorem r_X11_puts0 (l : Launch) (g : he_G) (ro : Nat) (n : Nat) (an : Nat) (hro : ro < 343) (han : an < 8) (hn6 : n ≤ 6) : he_I l yX11_puts0 wsX11_puts0 1 21 0 0 g [.int (nI ro), .int (nI n), .int (nI an)] [] (fun (r : Int32) (u : Unit) => r = puI ro n an) (fun (u : Unit) => []) := by
  refine he_begin (l := l) (g := g) (y := yX11_puts0) (wl := wsX11_puts0) (fr := 1) (lo := 21) (mc := 0) (ms := 0) (av := [.int (nI ro), .int (nI n), .int (nI an)]) (ws := []) (cc := cX11_puts0) (maxL := 5) (ret := (some .boolean)) (fun A => va_Qi (fun (r : Int32) (u : Unit) => r = puI ro n an) (fun u t => he_post g A ((fun (u : Unit) => []) u) t) A) (by decide) rfl (Nat.le_of_ble_eq_true rfl) ?_
  intro p e s m args below meth c A ls H locs Q hQ hB
  obtain ⟨hx, hb, hr, hml, hown, hts, hlk, hin, hP, hK, hD, hS, hA, hE, hl⟩ := hB
  have hl : lv_has ls 5 [(0, .int (nI ro)), (1, .int (nI n)), (2, .int (nI an))] := hl
  refine lv_iconst (v := 0) hx hb dX11_puts0_0 (by decide) ?_
  refine lv_istore_n (lv' := [(3, .int 0), (0, .int (nI ro)), (1, .int (nI n)), (2, .int (nI an))]) hx hb dX11_puts0_1 rfl hl (by decide) rfl (fun ls hl => ?_)
  refine lv_iconst (v := 0) hx hb dX11_puts0_2 (by decide) ?_
  refine lv_istore (lv' := [(4, .int 0), (3, .int 0), (0, .int (nI ro)), (1, .int (nI n)), (2, .int (nI an))]) hx hb dX11_puts0_3 hl (by decide) rfl (fun ls hl => ?_)
  have loop5 : ∀ (n9 : Nat) (j : Nat) (ac : Nat), 3 - j < n9 → (j ≤ 3) → (ac = sP (dgt ro) j) → (∀ k, k < j → bt an k = true ∨ dgt ro k = 0) → ∀ (H : Heap) (locs : List Loc) (ls : Array Slot), va_P g.1 vwCl [] H → va_D A [] → va_S A s.heap H locs → lv_has ls 5 [(0, .int (nI ro)), (1, .int (nI n)), (2, .int (nI an)), (3, .int (nI ac)), (4, .int (nI j))] → W p l e (he_room 1 21 0 0) s m args below meth c H locs 0 0 Q (F0 m 5 ls []) := by
    intro n9
    induction n9 with
    | zero => intro j ac hm9; exact absurd hm9 (Nat.not_lt_zero _)
    | succ n9 ih5 =>
      intro j ac hm9 hj hac hpl H locs ls hP hD hS hl
      refine lv_iload hx hb dX11_puts0_5 (lv_at hl 4 rfl) ?_
      refine lv_iconst (v := 3) hx hb dX11_puts0_7 (by decide) ?_
      refine lv_icmp_ge (tgt := 46) hx hb dX11_puts0_8 (by decide) (fun c_1 => ?_) (fun c_1 => ?_)
      · have k_2 : 3 ≤ j := (he_cle (a := 3) (b := j) (by decide) rfl (by omega) (by omega)).mp c_1
        refine lv_iload_n hx hb dX11_puts0_46 rfl (lv_at hl 3 rfl) ?_
        refine lv_iload_n hx hb dX11_puts0_47 rfl (lv_at hl 1 rfl) ?_
        have ha9 : ac = dgt ro 0 + dgt ro 1 + dgt ro 2 := sP_e hac hj (by omega)
        have hb0 := dgt_le hro 0
        have hb1 := dgt_le hro 1
        have hb2 := dgt_le hro 2
        refine lv_icmp_eq (tgt := 55) hx hb dX11_puts0_48 (by decide) (fun c_3 => ?_) (fun c_3 => ?_)
        · have k_4 : ac = n := (he_ceq (a := ac) (b := n) rfl rfl (by omega) (by omega)).mp c_3
          refine lv_iconst (v := 1) hx hb dX11_puts0_55 (by decide) ?_
          refine lv_goto (tgt := 60) hx hb dX11_puts0_56 (by decide) ?_
          exact he_rz hQ hx hb hr hlk hP hD hS dX11_puts0_60 (Nat.le_of_ble_eq_true rfl) (Nat.le_of_ble_eq_true rfl) rfl (()) (rfl) ((pu_1 (fun k9 h9 => hpl k9 (by omega)) (by omega)).symm)
        · have k_5 : ¬ (ac = n) := fun h9 => c_3 ((he_ceq (a := ac) (b := n) rfl rfl (by omega) (by omega)).mpr h9)
          refine lv_iload_n hx hb dX11_puts0_51 rfl (lv_at hl 2 rfl) ?_
          refine lv_if_ne (tgt := 59) hx hb dX11_puts0_52 (by decide) (fun c_6 => ?_) (fun c_6 => ?_)
          · have k_7 : ¬ (an = 0) := fun h9 => c_6 ((he_ceq (a := an) (b := 0) rfl (by decide) (by omega) (by omega)).mpr h9)
            refine lv_iconst (v := 0) hx hb dX11_puts0_59 (by decide) ?_
            exact he_rz hQ hx hb hr hlk hP hD hS dX11_puts0_60 (Nat.le_of_ble_eq_true rfl) (Nat.le_of_ble_eq_true rfl) rfl (()) (rfl) ((pu_0a (by omega) (by omega)).symm)
          · have k_8 : an = 0 := (he_ceq (a := an) (b := 0) rfl (by decide) (by omega) (by omega)).mp c_6
            refine lv_iconst (v := 1) hx hb dX11_puts0_55 (by decide) ?_
            refine lv_goto (tgt := 60) hx hb dX11_puts0_56 (by decide) ?_
            exact he_rz hQ hx hb hr hlk hP hD hS dX11_puts0_60 (Nat.le_of_ble_eq_true rfl) (Nat.le_of_ble_eq_true rfl) rfl (()) (rfl) ((pu_1 (fun k9 h9 => hpl k9 (by omega)) (by omega)).symm)
      · have k_9 : ¬ (3 ≤ j) := fun h9 => c_1 ((he_cle (a := 3) (b := j) (by decide) rfl (by omega) (by omega)).mpr h9)
        have join31 : ∀ (_ : Unit), (bt an j = true ∨ dgt ro j = 0) → ∀ (H : Heap) (locs : List Loc) (ls : Array Slot), va_P g.1 vwCl [] H → va_D A [] → va_S A s.heap H locs → lv_has ls 5 [(0, .int (nI ro)), (1, .int (nI n)), (2, .int (nI an)), (3, .int (nI ac)), (4, .int (nI j))] → W p l e (he_room 1 21 0 0) s m args below meth c H locs 0 0 Q (F0 m 31 ls []) := by
          intro _ hor H locs ls hP hD hS hl
          refine lv_iload_n hx hb dX11_puts0_31 rfl (lv_at hl 3 rfl) ?_
          refine lv_iload_n hx hb dX11_puts0_32 rfl (lv_at hl 0 rfl) ?_
          refine lv_iload hx hb dX11_puts0_33 (lv_at hl 4 rfl) ?_
          refine he_ci (wc := []) (wr := []) (va_runS (As := [.int (nI ro), .int (nI j)]) (rest := [.int (nI ac)]) ⟨hx, hb, hml, hown, hts⟩ (r_X11_digit l g ro j (by first | assumption | decide | omega) (by first | assumption | decide | omega) H.size) (va_cwS 2 hts gX11_puts0_X11_digit rfl rfl rfl (by decide +kernel) ⟨Nat.le_of_ble_eq_true rfl, Nat.le_of_ble_eq_true rfl⟩) (he_preS (wc := []) hK hP hD hS hA hE [] rfl rfl) rfl rfl hl.1 rfl (lv_room (Nat.le_of_ble_eq_true rfl)) dX11_puts0_35 ⟨(Nat.le_of_ble_eq_true rfl), (Nat.le_of_ble_eq_true rfl)⟩) hP hD hS hA [] [] rfl rfl rfl (by decide) (fun r_10 u_11 H locs h_12 hP hD hS => ?_)
          subst h_12
          have hP : va_P g.1 vwCl [] H := hP
          have hD : va_D A [] := hD
          refine lv_iadd hx hb dX11_puts0_38 ?_
          refine he_top (nI (ac + dgt ro j)) (nI_add ac (dgt ro j)) ?_
          refine lv_istore_n (lv' := [(3, .int (nI (ac + dgt ro j))), (0, .int (nI ro)), (1, .int (nI n)), (2, .int (nI an)), (4, .int (nI j))]) hx hb dX11_puts0_39 rfl hl (by decide) rfl (fun ls hl => ?_)
          refine lv_iinc (v := nI (j + 1)) (lv' := [(4, .int (nI (j + 1))), (3, .int (nI (ac + dgt ro j))), (0, .int (nI ro)), (1, .int (nI n)), (2, .int (nI an))]) hx hb dX11_puts0_40 hl (k := 4) rfl (nI_1 j) (by decide) rfl (fun ls hl => ?_)
          refine lv_goto (tgt := 5) hx hb dX11_puts0_43 (by decide) ?_
          exact ih5 (j + 1) (ac + dgt ro j) (by omega) (by omega) (sP_y hac rfl) (pl_s hpl hor) _ _ _ hP hD hS (lv_sub hl [2, 3, 4, 1, 0] rfl)
        refine lv_iload_n hx hb dX11_puts0_11 rfl (lv_at hl 2 rfl) ?_
        refine lv_iload hx hb dX11_puts0_12 (lv_at hl 4 rfl) ?_
        refine lv_ishr hx hb dX11_puts0_14 ?_
        refine lv_iconst (v := 1) hx hb dX11_puts0_15 (by decide) ?_
        refine lv_iand hx hb dX11_puts0_16 ?_
        refine he_top (bI an j) (bI_e an han j (by omega)) ?_
        refine lv_if_ne (tgt := 31) hx hb dX11_puts0_17 (by decide) (fun c_13 => ?_) (fun c_13 => ?_)
        · have hbt : bt an j = true := bI_n0 c_13
          exact join31 () (Or.inl hbt) _ _ _ hP hD hS (lv_sub hl [0, 1, 2, 3, 4] rfl)
        · have hbt : ¬ bt an j = true := bI_0 c_13
          refine lv_iload_n hx hb dX11_puts0_20 rfl (lv_at hl 0 rfl) ?_
          refine lv_iload hx hb dX11_puts0_21 (lv_at hl 4 rfl) ?_
          refine he_ci (wc := []) (wr := []) (va_runS (As := [.int (nI ro), .int (nI j)]) (rest := []) ⟨hx, hb, hml, hown, hts⟩ (r_X11_digit l g ro j (by first | assumption | decide | omega) (by first | assumption | decide | omega) H.size) (va_cwS 2 hts gX11_puts0_X11_digit rfl rfl rfl (by decide +kernel) ⟨Nat.le_of_ble_eq_true rfl, Nat.le_of_ble_eq_true rfl⟩) (he_preS (wc := []) hK hP hD hS hA hE [] rfl rfl) rfl rfl hl.1 rfl (lv_room (Nat.le_of_ble_eq_true rfl)) dX11_puts0_23 ⟨(Nat.le_of_ble_eq_true rfl), (Nat.le_of_ble_eq_true rfl)⟩) hP hD hS hA [] [] rfl rfl rfl (by decide) (fun r_14 u_15 H locs h_16 hP hD hS => ?_)
          subst h_16
          have hP : va_P g.1 vwCl [] H := hP
          have hD : va_D A [] := hD
          have hd9 := dgt_le hro j
          refine lv_if_le (tgt := 31) hx hb dX11_puts0_26 (by decide) (fun c_17 => ?_) (fun c_17 => ?_)
          · have k_18 : dgt ro j ≤ 0 := (he_cle (a := dgt ro j) (b := 0) rfl (by decide) (by omega) (by omega)).mp c_17
            exact join31 () (Or.inr (by omega)) _ _ _ hP hD hS (lv_sub hl [0, 1, 2, 3, 4] rfl)
          · have k_19 : ¬ (dgt ro j ≤ 0) := fun h9 => c_17 ((he_cle (a := dgt ro j) (b := 0) rfl (by decide) (by omega) (by omega)).mpr h9)
            refine lv_iconst (v := 0) hx hb dX11_puts0_29 (by decide) ?_
            exact he_rz hQ hx hb hr hlk hP hD hS dX11_puts0_30 (Nat.le_of_ble_eq_true rfl) (Nat.le_of_ble_eq_true rfl) rfl (()) (rfl) ((pu_0b (k := j) (by omega) hbt (by omega)).symm)
  exact loop5 ((3 - 0) + 1) 0 0 (Nat.lt_succ_self _) (Nat.zero_le _) rfl (fun k9 h9 => absurd h9 (Nat.not_lt_zero k9)) _ _ _ hP hD hS (lv_sub hl [2, 3, 4, 1, 0] rfl)
set_option maxHeartbeats 4000000 in
set_option maxRecDepth 100000 in
theorem r_X11_falls (l : Launch) (g : he_G) (m0 : Nat) (fd : Nat) (rfm : Nat) (rt_ : Nat) (to_ : Nat) (rw_ : Nat) (wa : Nat) (rk : Nat) (rb : Nat) (cn : Nat) (br : Nat) (sm : Nat) (as_ : Nat) (go : Nat) (sh_ : Nat) (ki : Nat) (tg : Nat) (of_ : Nat) (kp : Nat) (rs : Nat) (ta : Int32) (sz_ : Int32) (pl : Int32) (at_ : Int32) (fa : Int32) (fw : Int32) (cs : Int32) (ct : Int32) (ir : Int32) (oa : Int32) (ob : Int32) (th : Int32) (ig : Int32) (sp_ : Int32) (sf : Int32) (tw : Int32) (L : List Nat) (ln : Nat → Nat) (M : Nat → Nat → Int32) (r2 : Nat → Nat) (er : Nat) (dr_ : Nat) (an : Nat) (Wr : Nat → Nat) (F_r2 : ∀ i, i < 6 → r2 i ∈ L ∧ ln (r2 i) = 2 ∧ True) (her : er < 343) (hdr : dr_ < 343) (han : an < 8) (hWm : ∀ k, k < 3 → bt an k = true → M (r2 k) 0 = nI (Wr k)) (hW9 : ∀ k, Wr k ≤ 99) : he_I l yX11_falls wsX11_falls 1 21 0 0 g [.ref m0, .int (nI er), .int (nI dr_), .int (nI an)] ([(oX11 m0 tw ta sz_ pl at_ fa fw cs fd rfm rt_ to_ rw_ wa ct rk rb cn br sm as_ go sh_ ir oa ob th ig sp_ ki tg of_ kp sf rs), (aM g wa 6 (he_ro 6 r2))] ++ he_pl g L ln M) (fun (r : Int32) (u : Unit) => r = nI (fal Wr an (dgt er) (dgt dr_))) (fun (u : Unit) => [(oX11 m0 tw ta sz_ pl at_ fa fw cs fd rfm rt_ to_ rw_ wa ct rk rb cn br sm as_ go sh_ ir oa ob th ig sp_ ki tg of_ kp sf rs), (aM g wa 6 (he_ro 6 r2))] ++ he_pl g L ln M) := by
  refine he_begin (l := l) (g := g) (y := yX11_falls) (wl := wsX11_falls) (fr := 1) (lo := 21) (mc := 0) (ms := 0) (av := [.ref m0, .int (nI er), .int (nI dr_), .int (nI an)]) (ws := ([(oX11 m0 tw ta sz_ pl at_ fa fw cs fd rfm rt_ to_ rw_ wa ct rk rb cn br sm as_ go sh_ ir oa ob th ig sp_ ki tg of_ kp sf rs), (aM g wa 6 (he_ro 6 r2))] ++ he_pl g L ln M)) (cc := cX11_falls) (maxL := 6) (ret := (some .int)) (fun A => va_Qi (fun (r : Int32) (u : Unit) => r = nI (fal Wr an (dgt er) (dgt dr_))) (fun u t => he_post g A ((fun (u : Unit) => [(oX11 m0 tw ta sz_ pl at_ fa fw cs fd rfm rt_ to_ rw_ wa ct rk rb cn br sm as_ go sh_ ir oa ob th ig sp_ ki tg of_ kp sf rs), (aM g wa 6 (he_ro 6 r2))] ++ he_pl g L ln M) u) t) A) (by decide) rfl (Nat.le_of_ble_eq_true rfl) ?_
  intro p e s m args below meth c A ls H locs Q hQ hB
  obtain ⟨hx, hb, hr, hml, hown, hts, hlk, hin, hP, hK, hD, hS, hA, hE, hl⟩ := hB
  have hl : lv_has ls 6 [(0, .ref m0), (1, .int (nI er)), (2, .int (nI dr_)), (3, .int (nI an))] := hl
  have f31 := hts (.fieldLink RX11 31 "HiredEnemyModel" "wall" "[[I") (iwoX11_falls (k := 0) rfl)
  have inX11 : ∀ w ∈ wsX110, w ∈ wsX11_falls := innX11_falls_X11
  refine lv_iconst (v := 0) hx hb dX11_falls_0 (by decide) ?_
  refine lv_istore (lv' := [(4, .int 0), (0, .ref m0), (1, .int (nI er)), (2, .int (nI dr_)), (3, .int (nI an))]) hx hb dX11_falls_1 hl (by decide) rfl (fun ls hl => ?_)
  refine lv_iconst (v := 0) hx hb dX11_falls_3 (by decide) ?_
  refine lv_istore (lv' := [(5, .int 0), (4, .int 0), (0, .ref m0), (1, .int (nI er)), (2, .int (nI dr_)), (3, .int (nI an))]) hx hb dX11_falls_4 hl (by decide) rfl (fun ls hl => ?_)
  have loop6 : ∀ (n9 : Nat) (j : Nat) (ac : Nat), 3 - j < n9 → (j ≤ 3) → (ac = sP (fun k => if bt an k = true ∧ dgt dr_ k + Wr k / 25 < dgt er k then Wr k else 0) j) → ∀ (H : Heap) (locs : List Loc) (ls : Array Slot), va_P g.1 vwCl ([(oX11 m0 tw ta sz_ pl at_ fa fw cs fd rfm rt_ to_ rw_ wa ct rk rb cn br sm as_ go sh_ ir oa ob th ig sp_ ki tg of_ kp sf rs), (aM g wa 6 (he_ro 6 r2))] ++ he_pl g L ln M) H → va_D A ([(oX11 m0 tw ta sz_ pl at_ fa fw cs fd rfm rt_ to_ rw_ wa ct rk rb cn br sm as_ go sh_ ir oa ob th ig sp_ ki tg of_ kp sf rs), (aM g wa 6 (he_ro 6 r2))] ++ he_pl g L ln M) → va_S A s.heap H locs → lv_has ls 6 [(0, .ref m0), (1, .int (nI er)), (2, .int (nI dr_)), (3, .int (nI an)), (4, .int (nI ac)), (5, .int (nI j))] → W p l e (he_room 1 21 0 0) s m args below meth c H locs 0 0 Q (F0 m 6 ls []) := by
    intro n9
    induction n9 with
    | zero => intro j ac hm9; exact absurd hm9 (Nat.not_lt_zero _)
    | succ n9 ih6 =>
      intro j ac hm9 hj hac H locs ls hP hD hS hl
      refine lv_iload hx hb dX11_falls_6 (lv_at hl 5 rfl) ?_
      refine lv_iconst (v := 3) hx hb dX11_falls_8 (by decide) ?_
      refine lv_icmp_ge (tgt := 70) hx hb dX11_falls_9 (by decide) (fun c_1 => ?_) (fun c_1 => ?_)
      · have k_2 : 3 ≤ j := (he_cle (a := 3) (b := j) (by decide) rfl (by omega) (by omega)).mp c_1
        refine lv_iload hx hb dX11_falls_70 (lv_at hl 4 rfl) ?_
        exact he_ri hQ hx hb hr hlk hP hD hS dX11_falls_72 (Nat.le_of_ble_eq_true rfl) (Nat.le_of_ble_eq_true rfl) (()) (rfl) ((congrArg nI (sP_e hac hj (by omega))))
      · have k_3 : ¬ (3 ≤ j) := fun h9 => c_1 ((he_cle (a := 3) (b := j) (by decide) rfl (by omega) (by omega)).mpr h9)
        refine lv_iload_n hx hb dX11_falls_12 rfl (lv_at hl 3 rfl) ?_
        refine lv_iload hx hb dX11_falls_13 (lv_at hl 5 rfl) ?_
        refine lv_ishr hx hb dX11_falls_15 ?_
        refine lv_iconst (v := 1) hx hb dX11_falls_16 (by decide) ?_
        refine lv_iand hx hb dX11_falls_17 ?_
        refine he_top (bI an j) (bI_e an han j (by omega)) ?_
        refine lv_iconst (v := 1) hx hb dX11_falls_18 (by decide) ?_
        refine lv_icmp_ne (tgt := 64) hx hb dX11_falls_19 (by decide) (fun c_4 => ?_) (fun c_4 => ?_)
        · have hbt : ¬ bt an j = true := bI_n1 c_4
          refine lv_iinc (v := nI (j + 1)) (lv' := [(5, .int (nI (j + 1))), (0, .ref m0), (1, .int (nI er)), (2, .int (nI dr_)), (3, .int (nI an)), (4, .int (nI ac))]) hx hb dX11_falls_64 hl (k := 5) rfl (nI_1 j) (by decide) rfl (fun ls hl => ?_)
          refine lv_goto (tgt := 6) hx hb dX11_falls_67 (by decide) ?_
          exact ih6 (j + 1) ac (by omega) (by omega) (sP_n hac (if_neg (fun h9 => hbt h9.1))) _ _ _ hP hD hS (lv_sub hl [1, 2, 3, 4, 5, 0] rfl)
        · have hbt : bt an j = true := bI_1 c_4
          refine lv_iload_n hx hb dX11_falls_22 rfl (lv_at hl 1 rfl) ?_
          refine lv_iload hx hb dX11_falls_23 (lv_at hl 5 rfl) ?_
          refine he_ci (wc := []) (wr := ([(oX11 m0 tw ta sz_ pl at_ fa fw cs fd rfm rt_ to_ rw_ wa ct rk rb cn br sm as_ go sh_ ir oa ob th ig sp_ ki tg of_ kp sf rs), (aM g wa 6 (he_ro 6 r2))] ++ (he_pl g L ln M))) (va_runS (As := [.int (nI er), .int (nI j)]) (rest := []) ⟨hx, hb, hml, hown, hts⟩ (r_X11_digit l g er j (by first | assumption | decide | omega) (by first | assumption | decide | omega) H.size) (va_cwS 2 hts gX11_falls_X11_digit rfl rfl rfl (by decide +kernel) ⟨Nat.le_of_ble_eq_true rfl, Nat.le_of_ble_eq_true rfl⟩) (he_preS (wc := []) hK hP hD hS hA hE [] rfl rfl) rfl rfl hl.1 rfl (lv_room (Nat.le_of_ble_eq_true rfl)) dX11_falls_25 ⟨(Nat.le_of_ble_eq_true rfl), (Nat.le_of_ble_eq_true rfl)⟩) hP hD hS hA [] (he_is [0, 1] [(oX11 m0 tw ta sz_ pl at_ fa fw cs fd rfm rt_ to_ rw_ wa ct rk rb cn br sm as_ go sh_ ir oa ob th ig sp_ ki tg of_ kp sf rs), (aM g wa 6 (he_ro 6 r2))] (he_pl g L ln M)) rfl (he_ixP rfl) (he_ndP rfl rfl) (he_disN (by decide) rfl) (fun r_5 u_6 H locs h_7 hP hD hS => ?_)
          have hP := va_P.swap hP
          have hD := va_D.swap hD
          subst h_7
          have hP : va_P g.1 vwCl ([(oX11 m0 tw ta sz_ pl at_ fa fw cs fd rfm rt_ to_ rw_ wa ct rk rb cn br sm as_ go sh_ ir oa ob th ig sp_ ki tg of_ kp sf rs), (aM g wa 6 (he_ro 6 r2))] ++ he_pl g L ln M) H := hP
          have hD : va_D A ([(oX11 m0 tw ta sz_ pl at_ fa fw cs fd rfm rt_ to_ rw_ wa ct rk rb cn br sm as_ go sh_ ir oa ob th ig sp_ ki tg of_ kp sf rs), (aM g wa 6 (he_ro 6 r2))] ++ he_pl g L ln M) := hD
          refine lv_iload_n hx hb dX11_falls_28 rfl (lv_at hl 2 rfl) ?_
          refine lv_iload hx hb dX11_falls_29 (lv_at hl 5 rfl) ?_
          refine he_ci (wc := []) (wr := ([(oX11 m0 tw ta sz_ pl at_ fa fw cs fd rfm rt_ to_ rw_ wa ct rk rb cn br sm as_ go sh_ ir oa ob th ig sp_ ki tg of_ kp sf rs), (aM g wa 6 (he_ro 6 r2))] ++ (he_pl g L ln M))) (va_runS (As := [.int (nI dr_), .int (nI j)]) (rest := [.int (nI (dgt er j))]) ⟨hx, hb, hml, hown, hts⟩ (r_X11_digit l g dr_ j (by first | assumption | decide | omega) (by first | assumption | decide | omega) H.size) (va_cwS 2 hts gX11_falls_X11_digit rfl rfl rfl (by decide +kernel) ⟨Nat.le_of_ble_eq_true rfl, Nat.le_of_ble_eq_true rfl⟩) (he_preS (wc := []) hK hP hD hS hA hE [] rfl rfl) rfl rfl hl.1 rfl (lv_room (Nat.le_of_ble_eq_true rfl)) dX11_falls_31 ⟨(Nat.le_of_ble_eq_true rfl), (Nat.le_of_ble_eq_true rfl)⟩) hP hD hS hA [] (he_is [0, 1] [(oX11 m0 tw ta sz_ pl at_ fa fw cs fd rfm rt_ to_ rw_ wa ct rk rb cn br sm as_ go sh_ ir oa ob th ig sp_ ki tg of_ kp sf rs), (aM g wa 6 (he_ro 6 r2))] (he_pl g L ln M)) rfl (he_ixP rfl) (he_ndP rfl rfl) (he_disN (by decide) rfl) (fun r_8 u_9 H locs h_10 hP hD hS => ?_)
          have hP := va_P.swap hP
          have hD := va_D.swap hD
          subst h_10
          have hP : va_P g.1 vwCl ([(oX11 m0 tw ta sz_ pl at_ fa fw cs fd rfm rt_ to_ rw_ wa ct rk rb cn br sm as_ go sh_ ir oa ob th ig sp_ ki tg of_ kp sf rs), (aM g wa 6 (he_ro 6 r2))] ++ he_pl g L ln M) H := hP
          have hD : va_D A ([(oX11 m0 tw ta sz_ pl at_ fa fw cs fd rfm rt_ to_ rw_ wa ct rk rb cn br sm as_ go sh_ ir oa ob th ig sp_ ki tg of_ kp sf rs), (aM g wa 6 (he_ro 6 r2))] ++ he_pl g L ln M) := hD
          refine lv_aload_n hx hb dX11_falls_34 rfl (lv_at hl 0 rfl) ?_
          refine va_get (v := .ref wa) (T := TX11) (N := 35) hx hb hts inX11 hown hK hP 0 rfl rfl 13 (by decide) f31 (fun _ h9 => h9) rfl dX11_falls_35 ?_
          refine lv_iload hx hb dX11_falls_38 (lv_at hl 5 rfl) ?_
          refine he_aldm hx hb hK hP 1 rfl (j) rfl (by first | assumption | decide | omega) (by decide) dX11_falls_40 ?_
          refine lv_iconst (v := 0) hx hb dX11_falls_41 (by decide) ?_
          refine he_pald hx hb hK hP (F_r2 j (by first | assumption | decide | omega)).1 (0) (by decide) (by rw [(F_r2 j (by first | assumption | decide | omega)).2.1]; exact (by decide)) (by rw [(F_r2 j (by first | assumption | decide | omega)).2.1]; decide) (nI (Wr j)) (hWm j (by omega) hbt) dX11_falls_42 ?_
          refine lv_bipush (v := 25) hx hb dX11_falls_43 (by decide) ?_
          refine lv_idiv hx hb dX11_falls_45 (by decide) ?_
          refine he_top (nI (Wr j / 25)) (w25 (Wr j) (by have := hW9 j; omega)) ?_
          refine lv_iadd hx hb dX11_falls_46 ?_
          refine he_top (nI (dgt dr_ j + Wr j / 25)) (nI_add (dgt dr_ j) (Wr j / 25)) ?_
          have hd8 := dgt_le her j
          have hd9 := dgt_le hdr j
          have hw8 := hW9 j
          refine lv_icmp_le (tgt := 64) hx hb dX11_falls_47 (by decide) (fun c_11 => ?_) (fun c_11 => ?_)
          · have k_12 : dgt er j ≤ dgt dr_ j + Wr j / 25 := (he_cle (a := dgt er j) (b := dgt dr_ j + Wr j / 25) rfl rfl (by omega) (by omega)).mp c_11
            refine lv_iinc (v := nI (j + 1)) (lv' := [(5, .int (nI (j + 1))), (0, .ref m0), (1, .int (nI er)), (2, .int (nI dr_)), (3, .int (nI an)), (4, .int (nI ac))]) hx hb dX11_falls_64 hl (k := 5) rfl (nI_1 j) (by decide) rfl (fun ls hl => ?_)
            refine lv_goto (tgt := 6) hx hb dX11_falls_67 (by decide) ?_
            exact ih6 (j + 1) ac (by omega) (by omega) (sP_n hac (if_neg (fun h9 => absurd h9.2 (by omega)))) _ _ _ hP hD hS (lv_sub hl [1, 2, 3, 4, 5, 0] rfl)
          · have k_13 : ¬ (dgt er j ≤ dgt dr_ j + Wr j / 25) := fun h9 => c_11 ((he_cle (a := dgt er j) (b := dgt dr_ j + Wr j / 25) rfl rfl (by omega) (by omega)).mpr h9)
            refine lv_iload hx hb dX11_falls_50 (lv_at hl 4 rfl) ?_
            refine lv_aload_n hx hb dX11_falls_52 rfl (lv_at hl 0 rfl) ?_
            refine va_get (v := .ref wa) (T := TX11) (N := 35) hx hb hts inX11 hown hK hP 0 rfl rfl 13 (by decide) f31 (fun _ h9 => h9) rfl dX11_falls_53 ?_
            refine lv_iload hx hb dX11_falls_56 (lv_at hl 5 rfl) ?_
            refine he_aldm hx hb hK hP 1 rfl (j) rfl (by first | assumption | decide | omega) (by decide) dX11_falls_58 ?_
            refine lv_iconst (v := 0) hx hb dX11_falls_59 (by decide) ?_
            refine he_pald hx hb hK hP (F_r2 j (by first | assumption | decide | omega)).1 (0) (by decide) (by rw [(F_r2 j (by first | assumption | decide | omega)).2.1]; exact (by decide)) (by rw [(F_r2 j (by first | assumption | decide | omega)).2.1]; decide) (nI (Wr j)) (hWm j (by omega) hbt) dX11_falls_60 ?_
            refine lv_iadd hx hb dX11_falls_61 ?_
            refine he_top (nI (ac + Wr j)) (nI_add ac (Wr j)) ?_
            refine lv_istore (lv' := [(4, .int (nI (ac + Wr j))), (0, .ref m0), (1, .int (nI er)), (2, .int (nI dr_)), (3, .int (nI an)), (5, .int (nI j))]) hx hb dX11_falls_62 hl (by decide) rfl (fun ls hl => ?_)
            refine lv_iinc (v := nI (j + 1)) (lv' := [(5, .int (nI (j + 1))), (4, .int (nI (ac + Wr j))), (0, .ref m0), (1, .int (nI er)), (2, .int (nI dr_)), (3, .int (nI an))]) hx hb dX11_falls_64 hl (k := 5) rfl (nI_1 j) (by decide) rfl (fun ls hl => ?_)
            refine lv_goto (tgt := 6) hx hb dX11_falls_67 (by decide) ?_
            exact ih6 (j + 1) (ac + Wr j) (by omega) (by omega) (sP_y hac (if_pos ⟨hbt, by omega⟩)) _ _ _ hP hD hS (lv_sub hl [2, 3, 4, 5, 1, 0] rfl)
  exact loop6 ((3 - 0) + 1) 0 0 (Nat.lt_succ_self _) (Nat.zero_le _) rfl _ _ _ hP hD hS (lv_sub hl [2, 3, 4, 5, 1, 0] rfl)
set_option maxHeartbeats 4000000 in
set_option maxRecDepth 100000 in
theorem r_X11_firstWalls (l : Launch) (g : he_G) (m0 : Nat) (fd : Nat) (rfm : Nat) (rt_ : Nat) (to_ : Nat) (rw_ : Nat) (wa : Nat) (rk : Nat) (rb : Nat) (cn : Nat) (br : Nat) (sm : Nat) (as_ : Nat) (go : Nat) (sh_ : Nat) (ki : Nat) (tg : Nat) (of_ : Nat) (kp : Nat) (rs : Nat) (ta : Int32) (sz_ : Int32) (pl : Int32) (at_ : Int32) (fa : Int32) (fw : Int32) (cs : Int32) (ct : Int32) (ir : Int32) (oa : Int32) (ob : Int32) (th : Int32) (ig : Int32) (sp_ : Int32) (sf : Int32) (tw : Int32) (tl : Nat → Int32) (w : Nat) (v : Nat) (htl : tl 0 = nI w) (hw6 : w ≤ 6) (hv : v = if 3 < w then 3 else w) (hv3 : v ≤ 3) : he_I l yX11_firstWalls wsX11_firstWalls 1 21 0 0 g [.ref m0] [(oX11 m0 tw ta sz_ pl at_ fa fw cs fd rfm rt_ to_ rw_ wa ct rk rb cn br sm as_ go sh_ ir oa ob th ig sp_ ki tg of_ kp sf rs), (aI g to_ 25 tl)] (fun (r : Int32) (u : Unit) => r = nI (allN v)) (fun (u : Unit) => [(oX11 m0 tw ta sz_ pl at_ fa fw cs fd rfm rt_ to_ rw_ wa ct rk rb cn br sm as_ go sh_ ir oa ob th ig sp_ ki tg of_ kp sf rs), (aI g to_ 25 tl)]) := by
  refine he_begin (l := l) (g := g) (y := yX11_firstWalls) (wl := wsX11_firstWalls) (fr := 1) (lo := 21) (mc := 0) (ms := 0) (av := [.ref m0]) (ws := [(oX11 m0 tw ta sz_ pl at_ fa fw cs fd rfm rt_ to_ rw_ wa ct rk rb cn br sm as_ go sh_ ir oa ob th ig sp_ ki tg of_ kp sf rs), (aI g to_ 25 tl)]) (cc := cX11_firstWalls) (maxL := 1) (ret := (some .int)) (fun A => va_Qi (fun (r : Int32) (u : Unit) => r = nI (allN v)) (fun u t => he_post g A ((fun (u : Unit) => [(oX11 m0 tw ta sz_ pl at_ fa fw cs fd rfm rt_ to_ rw_ wa ct rk rb cn br sm as_ go sh_ ir oa ob th ig sp_ ki tg of_ kp sf rs), (aI g to_ 25 tl)]) u) t) A) (by decide) rfl (Nat.le_of_ble_eq_true rfl) ?_
  intro p e s m args below meth c A ls H locs Q hQ hB
  obtain ⟨hx, hb, hr, hml, hown, hts, hlk, hin, hP, hK, hD, hS, hA, hE, hl⟩ := hB
  have hl : lv_has ls 1 [(0, .ref m0)] := hl
  have f23 := hts (.fieldLink RX11 23 "HiredEnemyModel" "told" "[I") (iwoX11_firstWalls (k := 0) rfl)
  have inX11 : ∀ w ∈ wsX110, w ∈ wsX11_firstWalls := innX11_firstWalls_X11
  refine lv_iconst (v := 1) hx hb dX11_firstWalls_0 (by decide) ?_
  refine lv_iconst (v := 3) hx hb dX11_firstWalls_1 (by decide) ?_
  refine lv_aload_n hx hb dX11_firstWalls_2 rfl (lv_at hl 0 rfl) ?_
  refine va_get (v := .ref to_) (T := TX11) (N := 35) hx hb hts inX11 hown hK hP 0 rfl rfl 11 (by decide) f23 (fun _ h9 => h9) rfl dX11_firstWalls_3 ?_
  refine lv_iconst (v := 0) hx hb dX11_firstWalls_6 (by decide) ?_
  refine he_iald hx hb hK hP 1 rfl (0) (by decide) (by decide) (by first | decide | assumption) (nI w) htl dX11_firstWalls_7 ?_
  refine he_ci (wc := []) (wr := [(oX11 m0 tw ta sz_ pl at_ fa fw cs fd rfm rt_ to_ rw_ wa ct rk rb cn br sm as_ go sh_ ir oa ob th ig sp_ ki tg of_ kp sf rs), (aI g to_ 25 tl)]) (va_runS (As := [.int 3, .int (nI w)]) (rest := [.int 1]) ⟨hx, hb, hml, hown, hts⟩ (c_X11_less l g 3 (nI w) H.size) (va_cwS 2 hts gX11_firstWalls_X11_less rfl rfl rfl (by decide +kernel) ⟨Nat.le_of_ble_eq_true rfl, Nat.le_of_ble_eq_true rfl⟩) (he_preS (wc := []) hK hP hD hS hA hE [] rfl rfl) rfl rfl hl.1 rfl (lv_room (Nat.le_of_ble_eq_true rfl)) dX11_firstWalls_8 ⟨(Nat.le_of_ble_eq_true rfl), (Nat.le_of_ble_eq_true rfl)⟩) hP hD hS hA [] [0, 1] rfl rfl rfl (by decide) (fun r_1 u_2 H locs h_3 hP hD hS => ?_)
  subst h_3
  have hP : va_P g.1 vwCl [(oX11 m0 tw ta sz_ pl at_ fa fw cs fd rfm rt_ to_ rw_ wa ct rk rb cn br sm as_ go sh_ ir oa ob th ig sp_ ki tg of_ kp sf rs), (aI g to_ 25 tl)] H := hP
  have hD : va_D A [(oX11 m0 tw ta sz_ pl at_ fa fw cs fd rfm rt_ to_ rw_ wa ct rk rb cn br sm as_ go sh_ ir oa ob th ig sp_ ki tg of_ kp sf rs), (aI g to_ 25 tl)] := hD
  refine he_top (nI v) ((le3 hw6).trans (congrArg nI hv.symm)) ?_
  refine lv_ishl hx hb dX11_firstWalls_11 ?_
  refine lv_iconst (v := 1) hx hb dX11_firstWalls_12 (by decide) ?_
  refine lv_isub hx hb dX11_firstWalls_13 ?_
  refine he_top (nI (allN v)) (all_N hv3) ?_
  exact he_ri hQ hx hb hr hlk hP hD hS dX11_firstWalls_14 (Nat.le_of_ble_eq_true rfl) (Nat.le_of_ble_eq_true rfl) (()) (rfl) (rfl)
set_option maxHeartbeats 4000000 in
set_option maxRecDepth 100000 in
theorem r_X11_safeBy (l : Launch) (g : he_G) (m0 : Nat) (fd : Nat) (rfm : Nat) (rt_ : Nat) (to_ : Nat) (rw_ : Nat) (wa : Nat) (rk : Nat) (rb : Nat) (cn : Nat) (br : Nat) (sm : Nat) (as_ : Nat) (go : Nat) (sh_ : Nat) (ki : Nat) (tg : Nat) (of_ : Nat) (kp : Nat) (rs : Nat) (ta : Int32) (sz_ : Int32) (pl : Int32) (at_ : Int32) (fa : Int32) (fw : Int32) (cs : Int32) (ct : Int32) (ir : Int32) (oa : Int32) (ob : Int32) (th : Int32) (ig : Int32) (sp_ : Int32) (sf : Int32) (tw : Int32) (L : List Nat) (ln : Nat → Nat) (M : Nat → Nat → Int32) (r2 : Nat → Nat) (a : Nat) (d : Nat) (an : Nat) (Wr : Nat → Nat) (F_r2 : ∀ i, i < 6 → r2 i ∈ L ∧ ln (r2 i) = 2 ∧ True) (han : an < 8) (ha6 : a ≤ 6) (hd6 : d ≤ 6) (hWm : ∀ k, k < 3 → bt an k = true → M (r2 k) 0 = nI (Wr k)) (hW9 : ∀ k, Wr k ≤ 99) : he_I l yX11_safeBy wsX11_safeBy 2 46 0 0 g [.ref m0, .int (nI a), .int (nI d), .int (nI an)] ([(oX11 m0 tw ta sz_ pl at_ fa fw cs fd rfm rt_ to_ rw_ wa ct rk rb cn br sm as_ go sh_ ir oa ob th ig sp_ ki tg of_ kp sf rs), (aM g wa 6 (he_ro 6 r2))] ++ he_pl g L ln M) (fun (r : Int32) (u : Int32) => r = nI (leN (foC Wr an a d)) ∧ u = nI (roN (foC Wr an a d))) (fun (u : Int32) => [(oX11 m0 tw ta sz_ pl at_ fa fw cs fd rfm rt_ to_ rw_ wa ct rk rb cn br sm as_ go sh_ ir oa ob th ig sp_ ki tg of_ kp u rs), (aM g wa 6 (he_ro 6 r2))] ++ he_pl g L ln M) := by
  refine he_begin (l := l) (g := g) (y := yX11_safeBy) (wl := wsX11_safeBy) (fr := 2) (lo := 46) (mc := 0) (ms := 0) (av := [.ref m0, .int (nI a), .int (nI d), .int (nI an)]) (ws := ([(oX11 m0 tw ta sz_ pl at_ fa fw cs fd rfm rt_ to_ rw_ wa ct rk rb cn br sm as_ go sh_ ir oa ob th ig sp_ ki tg of_ kp sf rs), (aM g wa 6 (he_ro 6 r2))] ++ he_pl g L ln M)) (cc := cX11_safeBy) (maxL := 8) (ret := (some .int)) (fun A => va_Qi (fun (r : Int32) (u : Int32) => r = nI (leN (foC Wr an a d)) ∧ u = nI (roN (foC Wr an a d))) (fun u t => he_post g A ((fun (u : Int32) => [(oX11 m0 tw ta sz_ pl at_ fa fw cs fd rfm rt_ to_ rw_ wa ct rk rb cn br sm as_ go sh_ ir oa ob th ig sp_ ki tg of_ kp u rs), (aM g wa 6 (he_ro 6 r2))] ++ he_pl g L ln M) u) t) A) (by decide) rfl (Nat.le_of_ble_eq_true rfl) ?_
  intro p e s m args below meth c A ls H locs Q hQ hB
  obtain ⟨hx, hb, hr, hml, hown, hts, hlk, hin, hP, hK, hD, hS, hA, hE, hl⟩ := hB
  have hl : lv_has ls 8 [(0, .ref m0), (1, .int (nI a)), (2, .int (nI d)), (3, .int (nI an))] := hl
  have f244 := hts (.fieldLink RX11 244 "HiredEnemyModel" "safeRow" "I") (iwoX11_safeBy (k := 0) rfl)
  have inX11 : ∀ w ∈ wsX110, w ∈ wsX11_safeBy := innX11_safeBy_X11
  refine lv_iconst (v := (-1)) hx hb dX11_safeBy_0 (by decide) ?_
  refine lv_istore (lv' := [(4, .int (-1)), (0, .ref m0), (1, .int (nI a)), (2, .int (nI d)), (3, .int (nI an))]) hx hb dX11_safeBy_1 hl (by decide) rfl (fun ls hl => ?_)
  refine lv_aload_n hx hb dX11_safeBy_3 rfl (lv_at hl 1 rfl) ?_
  refine lv_iconst (v := 0) hx hb dX11_safeBy_4 (by decide) ?_
  refine va_put (v := .int 0) (ty := .int) (T := TX11) (N := 35) hx hb hts inX11 tyX11 tyX11_ok nmX11 hown hK hP hD hS 0 rfl rfl 33 (by decide) f244 (fun _ h9 => h9) rfl (by decide +kernel) rfl rfl (Nat.le_of_ble_eq_true rfl) dX11_safeBy_5 (fun H locs hP hD hS => ?_)
  have hP : va_P g.1 vwCl ([(oX11 m0 tw ta sz_ pl at_ fa fw cs fd rfm rt_ to_ rw_ wa ct rk rb cn br sm as_ go sh_ ir oa ob th ig sp_ ki tg of_ kp 0 rs), (aM g wa 6 (he_ro 6 r2))] ++ he_pl g L ln M) H := hP
  have hD : va_D A ([(oX11 m0 tw ta sz_ pl at_ fa fw cs fd rfm rt_ to_ rw_ wa ct rk rb cn br sm as_ go sh_ ir oa ob th ig sp_ ki tg of_ kp 0 rs), (aM g wa 6 (he_ro 6 r2))] ++ he_pl g L ln M) := hD
  refine lv_iconst (v := 0) hx hb dX11_safeBy_8 (by decide) ?_
  refine lv_istore (lv' := [(5, .int 0), (4, .int (-1)), (0, .ref m0), (1, .int (nI a)), (2, .int (nI d)), (3, .int (nI an))]) hx hb dX11_safeBy_9 hl (by decide) rfl (fun ls hl => ?_)
  have loop11 : ∀ (n9 : Nat) (j : Nat) (be : Int32) (sr : Int32), 343 - j < n9 → (j ≤ 343) → (be = leI (sfO (fun r9 => puB r9 d an) (vD Wr an a) j)) → (sr = nI (roN (sfO (fun r9 => puB r9 d an) (vD Wr an a) j))) → ∀ (H : Heap) (locs : List Loc) (ls : Array Slot), va_P g.1 vwCl ([(oX11 m0 tw ta sz_ pl at_ fa fw cs fd rfm rt_ to_ rw_ wa ct rk rb cn br sm as_ go sh_ ir oa ob th ig sp_ ki tg of_ kp sr rs), (aM g wa 6 (he_ro 6 r2))] ++ he_pl g L ln M) H → va_D A ([(oX11 m0 tw ta sz_ pl at_ fa fw cs fd rfm rt_ to_ rw_ wa ct rk rb cn br sm as_ go sh_ ir oa ob th ig sp_ ki tg of_ kp sr rs), (aM g wa 6 (he_ro 6 r2))] ++ he_pl g L ln M) → va_S A s.heap H locs → lv_has ls 8 [(0, .ref m0), (1, .int (nI a)), (2, .int (nI d)), (3, .int (nI an)), (4, .int be), (5, .int (nI j))] → W p l e (he_room 2 46 0 0) s m args below meth c H locs 0 0 Q (F0 m 11 ls []) := by
    intro n9
    induction n9 with
    | zero => intro j be sr hm9; exact absurd hm9 (Nat.not_lt_zero _)
    | succ n9 ih11 =>
      intro j be sr hm9 hj hbe hsr H locs ls hP hD hS hl
      refine lv_iload hx hb dX11_safeBy_11 (lv_at hl 5 rfl) ?_
      refine lv_sipush (v := 343) hx hb dX11_safeBy_13 (by decide) ?_
      refine lv_icmp_ge (tgt := 124) hx hb dX11_safeBy_16 (by decide) (fun c_1 => ?_) (fun c_1 => ?_)
      · have k_2 : 343 ≤ j := (he_cle (a := 343) (b := j) (by decide) rfl (by omega) (by omega)).mp c_1
        refine lv_iload hx hb dX11_safeBy_124 (lv_at hl 4 rfl) ?_
        exact he_ri hQ hx hb hr hlk hP hD hS dX11_safeBy_126 (Nat.le_of_ble_eq_true rfl) (Nat.le_of_ble_eq_true rfl) (sr) (rfl) (⟨hbe.trans (by rw [show j = 343 by omega]; exact (safe_eq han ha6 hd6).1), hsr.trans (by rw [show j = 343 by omega]; exact congrArg nI (safe_eq han ha6 hd6).2)⟩)
      · have k_3 : ¬ (343 ≤ j) := fun h9 => c_1 ((he_cle (a := 343) (b := j) (by decide) rfl (by omega) (by omega)).mpr h9)
        refine lv_iload hx hb dX11_safeBy_19 (lv_at hl 5 rfl) ?_
        refine lv_iload_n hx hb dX11_safeBy_21 rfl (lv_at hl 2 rfl) ?_
        refine lv_iload_n hx hb dX11_safeBy_22 rfl (lv_at hl 3 rfl) ?_
        refine he_ci (wc := []) (wr := ([(oX11 m0 tw ta sz_ pl at_ fa fw cs fd rfm rt_ to_ rw_ wa ct rk rb cn br sm as_ go sh_ ir oa ob th ig sp_ ki tg of_ kp sr rs), (aM g wa 6 (he_ro 6 r2))] ++ (he_pl g L ln M))) (va_runS (As := [.int (nI j), .int (nI d), .int (nI an)]) (rest := []) ⟨hx, hb, hml, hown, hts⟩ (r_X11_puts0 l g j d an (by first | assumption | decide | omega) (by first | assumption | decide | omega) (by first | assumption | decide | omega) H.size) (va_cwS 3 hts gX11_safeBy_X11_puts0 rfl rfl rfl (by decide +kernel) ⟨Nat.le_of_ble_eq_true rfl, Nat.le_of_ble_eq_true rfl⟩) (he_preS (wc := []) hK hP hD hS hA hE [] rfl rfl) rfl rfl hl.1 rfl (lv_room (Nat.le_of_ble_eq_true rfl)) dX11_safeBy_23 ⟨(Nat.le_of_ble_eq_true rfl), (Nat.le_of_ble_eq_true rfl)⟩) hP hD hS hA [] (he_is [0, 1] [(oX11 m0 tw ta sz_ pl at_ fa fw cs fd rfm rt_ to_ rw_ wa ct rk rb cn br sm as_ go sh_ ir oa ob th ig sp_ ki tg of_ kp sr rs), (aM g wa 6 (he_ro 6 r2))] (he_pl g L ln M)) rfl (he_ixP rfl) (he_ndP rfl rfl) (he_disN (by decide) rfl) (fun r_4 u_5 H locs h_6 hP hD hS => ?_)
        have hP := va_P.swap hP
        have hD := va_D.swap hD
        subst h_6
        have hP : va_P g.1 vwCl ([(oX11 m0 tw ta sz_ pl at_ fa fw cs fd rfm rt_ to_ rw_ wa ct rk rb cn br sm as_ go sh_ ir oa ob th ig sp_ ki tg of_ kp sr rs), (aM g wa 6 (he_ro 6 r2))] ++ he_pl g L ln M) H := hP
        have hD : va_D A ([(oX11 m0 tw ta sz_ pl at_ fa fw cs fd rfm rt_ to_ rw_ wa ct rk rb cn br sm as_ go sh_ ir oa ob th ig sp_ ki tg of_ kp sr rs), (aM g wa 6 (he_ro 6 r2))] ++ he_pl g L ln M) := hD
        refine lv_if_ne (tgt := 32) hx hb dX11_safeBy_26 (by decide) (fun c_7 => ?_) (fun c_7 => ?_)
        · have hpu : puB j d an = true := puI_y c_7
          refine lv_iconst (v := 0) hx hb dX11_safeBy_32 (by decide) ?_
          refine lv_istore (lv' := [(6, .int 0), (0, .ref m0), (1, .int (nI a)), (2, .int (nI d)), (3, .int (nI an)), (4, .int be), (5, .int (nI j))]) hx hb dX11_safeBy_33 hl (by decide) rfl (fun ls hl => ?_)
          refine lv_iconst (v := 0) hx hb dX11_safeBy_35 (by decide) ?_
          refine lv_istore (lv' := [(7, .int 0), (6, .int 0), (0, .ref m0), (1, .int (nI a)), (2, .int (nI d)), (3, .int (nI an)), (4, .int be), (5, .int (nI j))]) hx hb dX11_safeBy_36 hl (by decide) rfl (fun ls hl => ?_)
          have loop38 : ∀ (n9 : Nat) (i : Nat) (wo : Nat), 343 - i < n9 → (i ≤ 343) → (wo = mxF (fun r9 => puB r9 a an) (fun r9 => fal Wr an (dgt r9) (dgt j)) i) → ∀ (H : Heap) (locs : List Loc) (ls : Array Slot), va_P g.1 vwCl ([(oX11 m0 tw ta sz_ pl at_ fa fw cs fd rfm rt_ to_ rw_ wa ct rk rb cn br sm as_ go sh_ ir oa ob th ig sp_ ki tg of_ kp sr rs), (aM g wa 6 (he_ro 6 r2))] ++ he_pl g L ln M) H → va_D A ([(oX11 m0 tw ta sz_ pl at_ fa fw cs fd rfm rt_ to_ rw_ wa ct rk rb cn br sm as_ go sh_ ir oa ob th ig sp_ ki tg of_ kp sr rs), (aM g wa 6 (he_ro 6 r2))] ++ he_pl g L ln M) → va_S A s.heap H locs → lv_has ls 8 [(0, .ref m0), (1, .int (nI a)), (2, .int (nI d)), (3, .int (nI an)), (4, .int be), (5, .int (nI j)), (6, .int (nI wo)), (7, .int (nI i))] → W p l e (he_room 2 46 0 0) s m args below meth c H locs 0 0 Q (F0 m 38 ls []) := by
            intro n9
            induction n9 with
            | zero => intro i wo hm9; exact absurd hm9 (Nat.not_lt_zero _)
            | succ n9 ih38 =>
              intro i wo hm9 hi hwo H locs ls hP hD hS hl
              refine lv_iload hx hb dX11_safeBy_38 (lv_at hl 7 rfl) ?_
              refine lv_sipush (v := 343) hx hb dX11_safeBy_40 (by decide) ?_
              refine lv_icmp_ge (tgt := 92) hx hb dX11_safeBy_43 (by decide) (fun c_8 => ?_) (fun c_8 => ?_)
              · have k_9 : 343 ≤ i := (he_cle (a := 343) (b := i) (by decide) rfl (by omega) (by omega)).mp c_8
                have hwV : wo = vD Wr an a j := by rw [hwo, show i = 343 by omega]; rfl
                have join108 : ∀ (_ : Unit), ((sfO (fun r9 => puB r9 d an) (vD Wr an a) (j + 1)) = some (wo, j)) → ∀ (H : Heap) (locs : List Loc) (ls : Array Slot), va_P g.1 vwCl ([(oX11 m0 tw ta sz_ pl at_ fa fw cs fd rfm rt_ to_ rw_ wa ct rk rb cn br sm as_ go sh_ ir oa ob th ig sp_ ki tg of_ kp sr rs), (aM g wa 6 (he_ro 6 r2))] ++ he_pl g L ln M) H → va_D A ([(oX11 m0 tw ta sz_ pl at_ fa fw cs fd rfm rt_ to_ rw_ wa ct rk rb cn br sm as_ go sh_ ir oa ob th ig sp_ ki tg of_ kp sr rs), (aM g wa 6 (he_ro 6 r2))] ++ he_pl g L ln M) → va_S A s.heap H locs → lv_has ls 8 [(0, .ref m0), (1, .int (nI a)), (2, .int (nI d)), (3, .int (nI an)), (4, .int be), (5, .int (nI j)), (6, .int (nI wo)), (7, .int (nI i))] → W p l e (he_room 2 46 0 0) s m args below meth c H locs 0 0 Q (F0 m 108 ls []) := by
                  intro _ hup H locs ls hP hD hS hl
                  refine lv_iload hx hb dX11_safeBy_108 (lv_at hl 6 rfl) ?_
                  refine lv_istore (lv' := [(4, .int (nI wo)), (0, .ref m0), (1, .int (nI a)), (2, .int (nI d)), (3, .int (nI an)), (5, .int (nI j)), (6, .int (nI wo)), (7, .int (nI i))]) hx hb dX11_safeBy_110 hl (by decide) rfl (fun ls hl => ?_)
                  refine lv_aload_n hx hb dX11_safeBy_112 rfl (lv_at hl 1 rfl) ?_
                  refine lv_iload hx hb dX11_safeBy_113 (lv_at hl 5 rfl) ?_
                  refine va_put (v := .int (nI j)) (ty := .int) (T := TX11) (N := 35) hx hb hts inX11 tyX11 tyX11_ok nmX11 hown hK hP hD hS 0 rfl rfl 33 (by decide) f244 (fun _ h9 => h9) rfl (by decide +kernel) rfl rfl (Nat.le_of_ble_eq_true rfl) dX11_safeBy_115 (fun H locs hP hD hS => ?_)
                  have hP : va_P g.1 vwCl ([(oX11 m0 tw ta sz_ pl at_ fa fw cs fd rfm rt_ to_ rw_ wa ct rk rb cn br sm as_ go sh_ ir oa ob th ig sp_ ki tg of_ kp (nI j) rs), (aM g wa 6 (he_ro 6 r2))] ++ he_pl g L ln M) H := hP
                  have hD : va_D A ([(oX11 m0 tw ta sz_ pl at_ fa fw cs fd rfm rt_ to_ rw_ wa ct rk rb cn br sm as_ go sh_ ir oa ob th ig sp_ ki tg of_ kp (nI j) rs), (aM g wa 6 (he_ro 6 r2))] ++ he_pl g L ln M) := hD
                  refine lv_iinc (v := nI (j + 1)) (lv' := [(5, .int (nI (j + 1))), (4, .int (nI wo)), (0, .ref m0), (1, .int (nI a)), (2, .int (nI d)), (3, .int (nI an)), (6, .int (nI wo)), (7, .int (nI i))]) hx hb dX11_safeBy_118 hl (k := 5) rfl (nI_1 j) (by decide) rfl (fun ls hl => ?_)
                  refine lv_goto (tgt := 11) hx hb dX11_safeBy_121 (by decide) ?_
                  exact ih11 (j + 1) (nI wo) (nI j) (by omega) (by omega) (by rw [hup]; rfl) (by rw [hup]; rfl) _ _ _ hP hD hS (lv_sub hl [2, 3, 4, 5, 1, 0] rfl)
                refine lv_iload hx hb dX11_safeBy_92 (lv_at hl 4 rfl) ?_
                refine lv_iconst (v := (-1)) hx hb dX11_safeBy_94 (by decide) ?_
                refine lv_icmp_eq (tgt := 108) hx hb dX11_safeBy_95 (by decide) (fun c_10 => ?_) (fun c_10 => ?_)
                · exact join108 () (by rw [sfO_y (P := (fun r9 => puB r9 d an)) (j := j) hpu, hwV]; exact st_y (v := (vD Wr an a)) (bo_sf (B := 297) (P := (fun r9 => puB r9 d an)) (fun r9 => vD_le hW9 an a r9) j) (by decide) (Nat.lt_of_le_of_lt (vD_le hW9 an a j) (by decide)) (Or.inl (by rw [← hbe]; exact c_10))) _ _ _ hP hD hS (lv_sub hl [0, 1, 2, 3, 4, 5, 6, 7] rfl)
                · refine lv_iload hx hb dX11_safeBy_98 (lv_at hl 6 rfl) ?_
                  refine lv_iload hx hb dX11_safeBy_100 (lv_at hl 4 rfl) ?_
                  refine lv_icmp_lt (tgt := 108) hx hb dX11_safeBy_102 (by decide) (fun c_11 => ?_) (fun c_11 => ?_)
                  · exact join108 () (by rw [sfO_y (P := (fun r9 => puB r9 d an)) (j := j) hpu, hwV]; exact st_y (v := (vD Wr an a)) (bo_sf (B := 297) (P := (fun r9 => puB r9 d an)) (fun r9 => vD_le hW9 an a r9) j) (by decide) (Nat.lt_of_le_of_lt (vD_le hW9 an a j) (by decide)) (Or.inr (by rw [← hbe, ← hwV]; exact Int32.not_le.mpr c_11))) _ _ _ hP hD hS (lv_sub hl [0, 1, 2, 3, 4, 5, 6, 7] rfl)
                  · refine lv_goto (tgt := 118) hx hb dX11_safeBy_105 (by decide) ?_
                    refine lv_iinc (v := nI (j + 1)) (lv' := [(5, .int (nI (j + 1))), (0, .ref m0), (1, .int (nI a)), (2, .int (nI d)), (3, .int (nI an)), (4, .int be), (6, .int (nI wo)), (7, .int (nI i))]) hx hb dX11_safeBy_118 hl (k := 5) rfl (nI_1 j) (by decide) rfl (fun ls hl => ?_)
                    refine lv_goto (tgt := 11) hx hb dX11_safeBy_121 (by decide) ?_
                    exact ih11 (j + 1) be sr (by omega) (by omega) (by rw [(sfO_y (P := (fun r9 => puB r9 d an)) (j := j) hpu).trans (st_n (v := (vD Wr an a)) (bo_sf (B := 297) (P := (fun r9 => puB r9 d an)) (fun r9 => vD_le hW9 an a r9) j) (by decide) (Nat.lt_of_le_of_lt (vD_le hW9 an a j) (by decide)) (by rw [← hbe]; exact c_10) (by rw [← hbe, ← hwV]; exact Int32.not_lt.mp c_11))]; exact hbe) (by rw [(sfO_y (P := (fun r9 => puB r9 d an)) (j := j) hpu).trans (st_n (v := (vD Wr an a)) (bo_sf (B := 297) (P := (fun r9 => puB r9 d an)) (fun r9 => vD_le hW9 an a r9) j) (by decide) (Nat.lt_of_le_of_lt (vD_le hW9 an a j) (by decide)) (by rw [← hbe]; exact c_10) (by rw [← hbe, ← hwV]; exact Int32.not_lt.mp c_11))]; exact hsr) _ _ _ hP hD hS (lv_sub hl [1, 2, 3, 4, 5, 0] rfl)
              · have k_12 : ¬ (343 ≤ i) := fun h9 => c_8 ((he_cle (a := 343) (b := i) (by decide) rfl (by omega) (by omega)).mpr h9)
                have join84 : ∀ (tv : Nat), (tv = mxF (fun r9 => puB r9 a an) (fun r9 => fal Wr an (dgt r9) (dgt j)) (i + 1)) → ∀ (H : Heap) (locs : List Loc) (ls : Array Slot), va_P g.1 vwCl ([(oX11 m0 tw ta sz_ pl at_ fa fw cs fd rfm rt_ to_ rw_ wa ct rk rb cn br sm as_ go sh_ ir oa ob th ig sp_ ki tg of_ kp sr rs), (aM g wa 6 (he_ro 6 r2))] ++ he_pl g L ln M) H → va_D A ([(oX11 m0 tw ta sz_ pl at_ fa fw cs fd rfm rt_ to_ rw_ wa ct rk rb cn br sm as_ go sh_ ir oa ob th ig sp_ ki tg of_ kp sr rs), (aM g wa 6 (he_ro 6 r2))] ++ he_pl g L ln M) → va_S A s.heap H locs → lv_has ls 8 [(0, .ref m0), (1, .int (nI a)), (2, .int (nI d)), (3, .int (nI an)), (4, .int be), (5, .int (nI j)), (6, .int (nI wo)), (7, .int (nI i))] → W p l e (he_room 2 46 0 0) s m args below meth c H locs 0 0 Q (F0 m 84 ls [.int (nI tv)]) := by
                  intro tv htv H locs ls hP hD hS hl
                  refine lv_istore (lv' := [(6, .int (nI tv)), (0, .ref m0), (1, .int (nI a)), (2, .int (nI d)), (3, .int (nI an)), (4, .int be), (5, .int (nI j)), (7, .int (nI i))]) hx hb dX11_safeBy_84 hl (by decide) rfl (fun ls hl => ?_)
                  refine lv_iinc (v := nI (i + 1)) (lv' := [(7, .int (nI (i + 1))), (6, .int (nI tv)), (0, .ref m0), (1, .int (nI a)), (2, .int (nI d)), (3, .int (nI an)), (4, .int be), (5, .int (nI j))]) hx hb dX11_safeBy_86 hl (k := 7) rfl (nI_1 i) (by decide) rfl (fun ls hl => ?_)
                  refine lv_goto (tgt := 38) hx hb dX11_safeBy_89 (by decide) ?_
                  exact ih38 (i + 1) tv (by omega) (by omega) htv _ _ _ hP hD hS (lv_sub hl [2, 3, 4, 5, 6, 7, 1, 0] rfl)
                refine lv_iload hx hb dX11_safeBy_46 (lv_at hl 7 rfl) ?_
                refine lv_iload_n hx hb dX11_safeBy_48 rfl (lv_at hl 1 rfl) ?_
                refine lv_iload_n hx hb dX11_safeBy_49 rfl (lv_at hl 3 rfl) ?_
                refine he_ci (wc := []) (wr := ([(oX11 m0 tw ta sz_ pl at_ fa fw cs fd rfm rt_ to_ rw_ wa ct rk rb cn br sm as_ go sh_ ir oa ob th ig sp_ ki tg of_ kp sr rs), (aM g wa 6 (he_ro 6 r2))] ++ (he_pl g L ln M))) (va_runS (As := [.int (nI i), .int (nI a), .int (nI an)]) (rest := []) ⟨hx, hb, hml, hown, hts⟩ (r_X11_puts0 l g i a an (by first | assumption | decide | omega) (by first | assumption | decide | omega) (by first | assumption | decide | omega) H.size) (va_cwS 3 hts gX11_safeBy_X11_puts0 rfl rfl rfl (by decide +kernel) ⟨Nat.le_of_ble_eq_true rfl, Nat.le_of_ble_eq_true rfl⟩) (he_preS (wc := []) hK hP hD hS hA hE [] rfl rfl) rfl rfl hl.1 rfl (lv_room (Nat.le_of_ble_eq_true rfl)) dX11_safeBy_50 ⟨(Nat.le_of_ble_eq_true rfl), (Nat.le_of_ble_eq_true rfl)⟩) hP hD hS hA [] (he_is [0, 1] [(oX11 m0 tw ta sz_ pl at_ fa fw cs fd rfm rt_ to_ rw_ wa ct rk rb cn br sm as_ go sh_ ir oa ob th ig sp_ ki tg of_ kp sr rs), (aM g wa 6 (he_ro 6 r2))] (he_pl g L ln M)) rfl (he_ixP rfl) (he_ndP rfl rfl) (he_disN (by decide) rfl) (fun r_13 u_14 H locs h_15 hP hD hS => ?_)
                have hP := va_P.swap hP
                have hD := va_D.swap hD
                subst h_15
                have hP : va_P g.1 vwCl ([(oX11 m0 tw ta sz_ pl at_ fa fw cs fd rfm rt_ to_ rw_ wa ct rk rb cn br sm as_ go sh_ ir oa ob th ig sp_ ki tg of_ kp sr rs), (aM g wa 6 (he_ro 6 r2))] ++ he_pl g L ln M) H := hP
                have hD : va_D A ([(oX11 m0 tw ta sz_ pl at_ fa fw cs fd rfm rt_ to_ rw_ wa ct rk rb cn br sm as_ go sh_ ir oa ob th ig sp_ ki tg of_ kp sr rs), (aM g wa 6 (he_ro 6 r2))] ++ he_pl g L ln M) := hD
                refine lv_if_eq (tgt := 82) hx hb dX11_safeBy_53 (by decide) (fun c_16 => ?_) (fun c_16 => ?_)
                · have hqu : ¬ puB i a an = true := puI_n c_16
                  refine lv_iload hx hb dX11_safeBy_82 (lv_at hl 6 rfl) ?_
                  exact join84 wo (mxF_n hwo hqu) _ _ _ hP hD hS (lv_sub hl [0, 1, 2, 3, 4, 5, 6, 7] rfl)
                · have hqu : puB i a an = true := puI_y c_16
                  refine lv_aload_n hx hb dX11_safeBy_56 rfl (lv_at hl 0 rfl) ?_
                  refine lv_iload hx hb dX11_safeBy_57 (lv_at hl 7 rfl) ?_
                  refine lv_iload hx hb dX11_safeBy_59 (lv_at hl 5 rfl) ?_
                  refine lv_iload_n hx hb dX11_safeBy_61 rfl (lv_at hl 3 rfl) ?_
                  refine he_ci (wc := ([(oX11 m0 tw ta sz_ pl at_ fa fw cs fd rfm rt_ to_ rw_ wa ct rk rb cn br sm as_ go sh_ ir oa ob th ig sp_ ki tg of_ kp sr rs), (aM g wa 6 (he_ro 6 r2))] ++ (he_pl g L ln M))) (wr := []) (va_runV (As := [.int (nI i), .int (nI j), .int (nI an)]) (rest := []) ⟨hx, hb, hml, hown, hts⟩ (r_X11_falls l g m0 fd rfm rt_ to_ rw_ wa rk rb cn br sm as_ go sh_ ki tg of_ kp rs ta sz_ pl at_ fa fw cs ct ir oa ob th ig sp_ sr tw L ln M r2 i j an Wr (by first | assumption | decide | omega) (by first | assumption | decide | omega) (by first | assumption | decide | omega) (by first | assumption | decide | omega) (by first | assumption | decide | omega) (by first | assumption | decide | omega) H.size) (cwV 3 hts gX11_safeBy_X11_falls rfl rfl rfl (by decide +kernel) ⟨Nat.le_of_ble_eq_true rfl, Nat.le_of_ble_eq_true rfl⟩) (he_preV (wc := ([(oX11 m0 tw ta sz_ pl at_ fa fw cs fd rfm rt_ to_ rw_ wa ct rk rb cn br sm as_ go sh_ ir oa ob th ig sp_ ki tg of_ kp sr rs), (aM g wa 6 (he_ro 6 r2))] ++ (he_pl g L ln M))) hK hP hD hS hA hE (he_is [0, 1] [(oX11 m0 tw ta sz_ pl at_ fa fw cs fd rfm rt_ to_ rw_ wa ct rk rb cn br sm as_ go sh_ ir oa ob th ig sp_ ki tg of_ kp sr rs), (aM g wa 6 (he_ro 6 r2))] (he_pl g L ln M)) (he_ixP rfl) (he_ndP rfl rfl) 0 rfl rfl) rfl rfl hl.1 rfl (lv_room (Nat.le_of_ble_eq_true rfl)) dX11_safeBy_62 ⟨(Nat.le_of_ble_eq_true rfl), (Nat.le_of_ble_eq_true rfl)⟩) hP hD hS hA (he_is [0, 1] [(oX11 m0 tw ta sz_ pl at_ fa fw cs fd rfm rt_ to_ rw_ wa ct rk rb cn br sm as_ go sh_ ir oa ob th ig sp_ ki tg of_ kp sr rs), (aM g wa 6 (he_ro 6 r2))] (he_pl g L ln M)) [] (he_ixP rfl) rfl rfl (he_disP (by decide) rfl) (fun r_17 u_18 H locs h_19 hP hD hS => ?_)
                  subst h_19
                  have hP : va_P g.1 vwCl ([(oX11 m0 tw ta sz_ pl at_ fa fw cs fd rfm rt_ to_ rw_ wa ct rk rb cn br sm as_ go sh_ ir oa ob th ig sp_ ki tg of_ kp sr rs), (aM g wa 6 (he_ro 6 r2))] ++ he_pl g L ln M) H := hP
                  have hD : va_D A ([(oX11 m0 tw ta sz_ pl at_ fa fw cs fd rfm rt_ to_ rw_ wa ct rk rb cn br sm as_ go sh_ ir oa ob th ig sp_ ki tg of_ kp sr rs), (aM g wa 6 (he_ro 6 r2))] ++ he_pl g L ln M) := hD
                  refine lv_iload hx hb dX11_safeBy_65 (lv_at hl 6 rfl) ?_
                  have hf9 := fal_le (Wr := Wr) (e := dgt i) (p := dgt j) (an := an) hW9
                  have hw9 : wo ≤ 297 := by rw [hwo]; exact mx_le i (fun _ _ _ => fal_le hW9)
                  refine lv_icmp_le (tgt := 82) hx hb dX11_safeBy_67 (by decide) (fun c_20 => ?_) (fun c_20 => ?_)
                  · have k_21 : fal Wr an (dgt i) (dgt j) ≤ wo := (he_cle (a := fal Wr an (dgt i) (dgt j)) (b := wo) rfl rfl (by omega) (by omega)).mp c_20
                    refine lv_iload hx hb dX11_safeBy_82 (lv_at hl 6 rfl) ?_
                    exact join84 wo (mxF_l hwo rfl (by omega)) _ _ _ hP hD hS (lv_sub hl [0, 1, 2, 3, 4, 5, 6, 7] rfl)
                  · have k_22 : ¬ (fal Wr an (dgt i) (dgt j) ≤ wo) := fun h9 => c_20 ((he_cle (a := fal Wr an (dgt i) (dgt j)) (b := wo) rfl rfl (by omega) (by omega)).mpr h9)
                    refine lv_aload_n hx hb dX11_safeBy_70 rfl (lv_at hl 0 rfl) ?_
                    refine lv_iload hx hb dX11_safeBy_71 (lv_at hl 7 rfl) ?_
                    refine lv_iload hx hb dX11_safeBy_73 (lv_at hl 5 rfl) ?_
                    refine lv_iload_n hx hb dX11_safeBy_75 rfl (lv_at hl 3 rfl) ?_
                    refine he_ci (wc := ([(oX11 m0 tw ta sz_ pl at_ fa fw cs fd rfm rt_ to_ rw_ wa ct rk rb cn br sm as_ go sh_ ir oa ob th ig sp_ ki tg of_ kp sr rs), (aM g wa 6 (he_ro 6 r2))] ++ (he_pl g L ln M))) (wr := []) (va_runV (As := [.int (nI i), .int (nI j), .int (nI an)]) (rest := []) ⟨hx, hb, hml, hown, hts⟩ (r_X11_falls l g m0 fd rfm rt_ to_ rw_ wa rk rb cn br sm as_ go sh_ ki tg of_ kp rs ta sz_ pl at_ fa fw cs ct ir oa ob th ig sp_ sr tw L ln M r2 i j an Wr (by first | assumption | decide | omega) (by first | assumption | decide | omega) (by first | assumption | decide | omega) (by first | assumption | decide | omega) (by first | assumption | decide | omega) (by first | assumption | decide | omega) H.size) (cwV 3 hts gX11_safeBy_X11_falls rfl rfl rfl (by decide +kernel) ⟨Nat.le_of_ble_eq_true rfl, Nat.le_of_ble_eq_true rfl⟩) (he_preV (wc := ([(oX11 m0 tw ta sz_ pl at_ fa fw cs fd rfm rt_ to_ rw_ wa ct rk rb cn br sm as_ go sh_ ir oa ob th ig sp_ ki tg of_ kp sr rs), (aM g wa 6 (he_ro 6 r2))] ++ (he_pl g L ln M))) hK hP hD hS hA hE (he_is [0, 1] [(oX11 m0 tw ta sz_ pl at_ fa fw cs fd rfm rt_ to_ rw_ wa ct rk rb cn br sm as_ go sh_ ir oa ob th ig sp_ ki tg of_ kp sr rs), (aM g wa 6 (he_ro 6 r2))] (he_pl g L ln M)) (he_ixP rfl) (he_ndP rfl rfl) 0 rfl rfl) rfl rfl hl.1 rfl (lv_room (Nat.le_of_ble_eq_true rfl)) dX11_safeBy_76 ⟨(Nat.le_of_ble_eq_true rfl), (Nat.le_of_ble_eq_true rfl)⟩) hP hD hS hA (he_is [0, 1] [(oX11 m0 tw ta sz_ pl at_ fa fw cs fd rfm rt_ to_ rw_ wa ct rk rb cn br sm as_ go sh_ ir oa ob th ig sp_ ki tg of_ kp sr rs), (aM g wa 6 (he_ro 6 r2))] (he_pl g L ln M)) [] (he_ixP rfl) rfl rfl (he_disP (by decide) rfl) (fun r_23 u_24 H locs h_25 hP hD hS => ?_)
                    subst h_25
                    have hP : va_P g.1 vwCl ([(oX11 m0 tw ta sz_ pl at_ fa fw cs fd rfm rt_ to_ rw_ wa ct rk rb cn br sm as_ go sh_ ir oa ob th ig sp_ ki tg of_ kp sr rs), (aM g wa 6 (he_ro 6 r2))] ++ he_pl g L ln M) H := hP
                    have hD : va_D A ([(oX11 m0 tw ta sz_ pl at_ fa fw cs fd rfm rt_ to_ rw_ wa ct rk rb cn br sm as_ go sh_ ir oa ob th ig sp_ ki tg of_ kp sr rs), (aM g wa 6 (he_ro 6 r2))] ++ he_pl g L ln M) := hD
                    refine lv_goto (tgt := 84) hx hb dX11_safeBy_79 (by decide) ?_
                    exact join84 (fal Wr an (dgt i) (dgt j)) (mxF_g hwo hqu rfl (by omega)) _ _ _ hP hD hS (lv_sub hl [0, 1, 2, 3, 4, 5, 6, 7] rfl)
          exact loop38 ((343 - 0) + 1) 0 0 (Nat.lt_succ_self _) (Nat.zero_le _) rfl _ _ _ hP hD hS (lv_sub hl [2, 3, 4, 5, 6, 7, 1, 0] rfl)
        · have hpu : ¬ puB j d an = true := puI_n c_7
          refine lv_goto (tgt := 118) hx hb dX11_safeBy_29 (by decide) ?_
          refine lv_iinc (v := nI (j + 1)) (lv' := [(5, .int (nI (j + 1))), (0, .ref m0), (1, .int (nI a)), (2, .int (nI d)), (3, .int (nI an)), (4, .int be)]) hx hb dX11_safeBy_118 hl (k := 5) rfl (nI_1 j) (by decide) rfl (fun ls hl => ?_)
          refine lv_goto (tgt := 11) hx hb dX11_safeBy_121 (by decide) ?_
          exact ih11 (j + 1) be sr (by omega) (by omega) (by rw [sfO_n (P := (fun r9 => puB r9 d an)) (j := j) hpu]; exact hbe) (by rw [sfO_n (P := (fun r9 => puB r9 d an)) (j := j) hpu]; exact hsr) _ _ _ hP hD hS (lv_sub hl [1, 2, 3, 4, 5, 0] rfl)
  exact loop11 ((343 - 0) + 1) 0 (-1) 0 (Nat.lt_succ_self _) (Nat.zero_le _) rfl rfl _ _ _ hP hD hS (lv_sub hl [2, 3, 4, 5, 1, 0] rfl)
set_option maxHeartbeats 4000000 in
set_option maxRecDepth 100000 in
theorem r_X11_sureBy (l : Launch) (g : he_G) (m0 : Nat) (fd : Nat) (rfm : Nat) (rt_ : Nat) (to_ : Nat) (rw_ : Nat) (wa : Nat) (rk : Nat) (rb : Nat) (cn : Nat) (br : Nat) (sm : Nat) (as_ : Nat) (go : Nat) (sh_ : Nat) (ki : Nat) (tg : Nat) (of_ : Nat) (kp : Nat) (rs : Nat) (ta : Int32) (sz_ : Int32) (pl : Int32) (at_ : Int32) (fa : Int32) (fw : Int32) (cs : Int32) (ct : Int32) (ir : Int32) (oa : Int32) (ob : Int32) (th : Int32) (ig : Int32) (sp_ : Int32) (sf : Int32) (tw : Int32) (L : List Nat) (ln : Nat → Nat) (M : Nat → Nat → Int32) (r2 : Nat → Nat) (a : Nat) (d : Nat) (an : Nat) (Wr : Nat → Nat) (F_r2 : ∀ i, i < 6 → r2 i ∈ L ∧ ln (r2 i) = 2 ∧ True) (han : an < 8) (ha6 : a ≤ 6) (hd6 : d ≤ 6) (hWm : ∀ k, k < 3 → bt an k = true → M (r2 k) 0 = nI (Wr k)) (hW9 : ∀ k, Wr k ≤ 99) : he_I l yX11_sureBy wsX11_sureBy 2 46 0 0 g [.ref m0, .int (nI a), .int (nI d), .int (nI an)] ([(oX11 m0 tw ta sz_ pl at_ fa fw cs fd rfm rt_ to_ rw_ wa ct rk rb cn br sm as_ go sh_ ir oa ob th ig sp_ ki tg of_ kp sf rs), (aM g wa 6 (he_ro 6 r2))] ++ he_pl g L ln M) (fun (r : Int32) (u : Unit) => r = nI (moC Wr an a d)) (fun (u : Unit) => [(oX11 m0 tw ta sz_ pl at_ fa fw cs fd rfm rt_ to_ rw_ wa ct rk rb cn br sm as_ go sh_ ir oa ob th ig sp_ ki tg of_ kp sf rs), (aM g wa 6 (he_ro 6 r2))] ++ he_pl g L ln M) := by
  refine he_begin (l := l) (g := g) (y := yX11_sureBy) (wl := wsX11_sureBy) (fr := 2) (lo := 46) (mc := 0) (ms := 0) (av := [.ref m0, .int (nI a), .int (nI d), .int (nI an)]) (ws := ([(oX11 m0 tw ta sz_ pl at_ fa fw cs fd rfm rt_ to_ rw_ wa ct rk rb cn br sm as_ go sh_ ir oa ob th ig sp_ ki tg of_ kp sf rs), (aM g wa 6 (he_ro 6 r2))] ++ he_pl g L ln M)) (cc := cX11_sureBy) (maxL := 8) (ret := (some .int)) (fun A => va_Qi (fun (r : Int32) (u : Unit) => r = nI (moC Wr an a d)) (fun u t => he_post g A ((fun (u : Unit) => [(oX11 m0 tw ta sz_ pl at_ fa fw cs fd rfm rt_ to_ rw_ wa ct rk rb cn br sm as_ go sh_ ir oa ob th ig sp_ ki tg of_ kp sf rs), (aM g wa 6 (he_ro 6 r2))] ++ he_pl g L ln M) u) t) A) (by decide) rfl (Nat.le_of_ble_eq_true rfl) ?_
  intro p e s m args below meth c A ls H locs Q hQ hB
  obtain ⟨hx, hb, hr, hml, hown, hts, hlk, hin, hP, hK, hD, hS, hA, hE, hl⟩ := hB
  have hl : lv_has ls 8 [(0, .ref m0), (1, .int (nI a)), (2, .int (nI d)), (3, .int (nI an))] := hl
  refine lv_iconst (v := 0) hx hb dX11_sureBy_0 (by decide) ?_
  refine lv_istore (lv' := [(4, .int 0), (0, .ref m0), (1, .int (nI a)), (2, .int (nI d)), (3, .int (nI an))]) hx hb dX11_sureBy_1 hl (by decide) rfl (fun ls hl => ?_)
  refine lv_iconst (v := 0) hx hb dX11_sureBy_3 (by decide) ?_
  refine lv_istore (lv' := [(5, .int 0), (4, .int 0), (0, .ref m0), (1, .int (nI a)), (2, .int (nI d)), (3, .int (nI an))]) hx hb dX11_sureBy_4 hl (by decide) rfl (fun ls hl => ?_)
  have loop6 : ∀ (n9 : Nat) (j : Nat) (be : Nat), 343 - j < n9 → (j ≤ 343) → (be = mxF (fun r9 => puB r9 a an) (uD Wr an d) j) → ∀ (H : Heap) (locs : List Loc) (ls : Array Slot), va_P g.1 vwCl ([(oX11 m0 tw ta sz_ pl at_ fa fw cs fd rfm rt_ to_ rw_ wa ct rk rb cn br sm as_ go sh_ ir oa ob th ig sp_ ki tg of_ kp sf rs), (aM g wa 6 (he_ro 6 r2))] ++ he_pl g L ln M) H → va_D A ([(oX11 m0 tw ta sz_ pl at_ fa fw cs fd rfm rt_ to_ rw_ wa ct rk rb cn br sm as_ go sh_ ir oa ob th ig sp_ ki tg of_ kp sf rs), (aM g wa 6 (he_ro 6 r2))] ++ he_pl g L ln M) → va_S A s.heap H locs → lv_has ls 8 [(0, .ref m0), (1, .int (nI a)), (2, .int (nI d)), (3, .int (nI an)), (4, .int (nI be)), (5, .int (nI j))] → W p l e (he_room 2 46 0 0) s m args below meth c H locs 0 0 Q (F0 m 6 ls []) := by
    intro n9
    induction n9 with
    | zero => intro j be hm9; exact absurd hm9 (Nat.not_lt_zero _)
    | succ n9 ih6 =>
      intro j be hm9 hj hbe H locs ls hP hD hS hl
      refine lv_iload hx hb dX11_sureBy_6 (lv_at hl 5 rfl) ?_
      refine lv_sipush (v := 343) hx hb dX11_sureBy_8 (by decide) ?_
      refine lv_icmp_ge (tgt := 110) hx hb dX11_sureBy_11 (by decide) (fun c_1 => ?_) (fun c_1 => ?_)
      · have k_2 : 343 ≤ j := (he_cle (a := 343) (b := j) (by decide) rfl (by omega) (by omega)).mp c_1
        refine lv_iload hx hb dX11_sureBy_110 (lv_at hl 4 rfl) ?_
        exact he_ri hQ hx hb hr hlk hP hD hS dX11_sureBy_112 (Nat.le_of_ble_eq_true rfl) (Nat.le_of_ble_eq_true rfl) (()) (rfl) ((congrArg nI (by rw [hbe, show j = 343 by omega]; exact sure_eq han ha6 hd6)))
      · have k_3 : ¬ (343 ≤ j) := fun h9 => c_1 ((he_cle (a := 343) (b := j) (by decide) rfl (by omega) (by omega)).mpr h9)
        refine lv_iload hx hb dX11_sureBy_14 (lv_at hl 5 rfl) ?_
        refine lv_iload_n hx hb dX11_sureBy_16 rfl (lv_at hl 1 rfl) ?_
        refine lv_iload_n hx hb dX11_sureBy_17 rfl (lv_at hl 3 rfl) ?_
        refine he_ci (wc := []) (wr := ([(oX11 m0 tw ta sz_ pl at_ fa fw cs fd rfm rt_ to_ rw_ wa ct rk rb cn br sm as_ go sh_ ir oa ob th ig sp_ ki tg of_ kp sf rs), (aM g wa 6 (he_ro 6 r2))] ++ (he_pl g L ln M))) (va_runS (As := [.int (nI j), .int (nI a), .int (nI an)]) (rest := []) ⟨hx, hb, hml, hown, hts⟩ (r_X11_puts0 l g j a an (by first | assumption | decide | omega) (by first | assumption | decide | omega) (by first | assumption | decide | omega) H.size) (va_cwS 3 hts gX11_sureBy_X11_puts0 rfl rfl rfl (by decide +kernel) ⟨Nat.le_of_ble_eq_true rfl, Nat.le_of_ble_eq_true rfl⟩) (he_preS (wc := []) hK hP hD hS hA hE [] rfl rfl) rfl rfl hl.1 rfl (lv_room (Nat.le_of_ble_eq_true rfl)) dX11_sureBy_18 ⟨(Nat.le_of_ble_eq_true rfl), (Nat.le_of_ble_eq_true rfl)⟩) hP hD hS hA [] (he_is [0, 1] [(oX11 m0 tw ta sz_ pl at_ fa fw cs fd rfm rt_ to_ rw_ wa ct rk rb cn br sm as_ go sh_ ir oa ob th ig sp_ ki tg of_ kp sf rs), (aM g wa 6 (he_ro 6 r2))] (he_pl g L ln M)) rfl (he_ixP rfl) (he_ndP rfl rfl) (he_disN (by decide) rfl) (fun r_4 u_5 H locs h_6 hP hD hS => ?_)
        have hP := va_P.swap hP
        have hD := va_D.swap hD
        subst h_6
        have hP : va_P g.1 vwCl ([(oX11 m0 tw ta sz_ pl at_ fa fw cs fd rfm rt_ to_ rw_ wa ct rk rb cn br sm as_ go sh_ ir oa ob th ig sp_ ki tg of_ kp sf rs), (aM g wa 6 (he_ro 6 r2))] ++ he_pl g L ln M) H := hP
        have hD : va_D A ([(oX11 m0 tw ta sz_ pl at_ fa fw cs fd rfm rt_ to_ rw_ wa ct rk rb cn br sm as_ go sh_ ir oa ob th ig sp_ ki tg of_ kp sf rs), (aM g wa 6 (he_ro 6 r2))] ++ he_pl g L ln M) := hD
        refine lv_if_ne (tgt := 27) hx hb dX11_sureBy_21 (by decide) (fun c_7 => ?_) (fun c_7 => ?_)
        · have hpu : puB j a an = true := puI_y c_7
          refine lv_iconst (v := (-1)) hx hb dX11_sureBy_27 (by decide) ?_
          refine lv_istore (lv' := [(6, .int (-1)), (0, .ref m0), (1, .int (nI a)), (2, .int (nI d)), (3, .int (nI an)), (4, .int (nI be)), (5, .int (nI j))]) hx hb dX11_sureBy_28 hl (by decide) rfl (fun ls hl => ?_)
          refine lv_iconst (v := 0) hx hb dX11_sureBy_30 (by decide) ?_
          refine lv_istore (lv' := [(7, .int 0), (6, .int (-1)), (0, .ref m0), (1, .int (nI a)), (2, .int (nI d)), (3, .int (nI an)), (4, .int (nI be)), (5, .int (nI j))]) hx hb dX11_sureBy_31 hl (by decide) rfl (fun ls hl => ?_)
          have loop33 : ∀ (n9 : Nat) (i : Nat) (wo : Int32), 343 - i < n9 → (i ≤ 343) → (wo = mnI (mnO (fun r9 => puB r9 d an) (fun r9 => fal Wr an (dgt j) (dgt r9)) i)) → ∀ (H : Heap) (locs : List Loc) (ls : Array Slot), va_P g.1 vwCl ([(oX11 m0 tw ta sz_ pl at_ fa fw cs fd rfm rt_ to_ rw_ wa ct rk rb cn br sm as_ go sh_ ir oa ob th ig sp_ ki tg of_ kp sf rs), (aM g wa 6 (he_ro 6 r2))] ++ he_pl g L ln M) H → va_D A ([(oX11 m0 tw ta sz_ pl at_ fa fw cs fd rfm rt_ to_ rw_ wa ct rk rb cn br sm as_ go sh_ ir oa ob th ig sp_ ki tg of_ kp sf rs), (aM g wa 6 (he_ro 6 r2))] ++ he_pl g L ln M) → va_S A s.heap H locs → lv_has ls 8 [(0, .ref m0), (1, .int (nI a)), (2, .int (nI d)), (3, .int (nI an)), (4, .int (nI be)), (5, .int (nI j)), (6, .int wo), (7, .int (nI i))] → W p l e (he_room 2 46 0 0) s m args below meth c H locs 0 0 Q (F0 m 33 ls []) := by
            intro n9
            induction n9 with
            | zero => intro i wo hm9; exact absurd hm9 (Nat.not_lt_zero _)
            | succ n9 ih33 =>
              intro i wo hm9 hi hwo H locs ls hP hD hS hl
              refine lv_iload hx hb dX11_sureBy_33 (lv_at hl 7 rfl) ?_
              refine lv_sipush (v := 343) hx hb dX11_sureBy_35 (by decide) ?_
              refine lv_icmp_ge (tgt := 88) hx hb dX11_sureBy_38 (by decide) (fun c_8 => ?_) (fun c_8 => ?_)
              · have k_9 : 343 ≤ i := (he_cle (a := 343) (b := i) (by decide) rfl (by omega) (by omega)).mp c_8
                have hwN : wo = nI (uD Wr an d j) := by rw [hwo, show i = 343 by omega, mn_s han hd6]; rfl
                have join102 : ∀ (tv : Nat), (tv = mxF (fun r9 => puB r9 a an) (uD Wr an d) (j + 1)) → ∀ (H : Heap) (locs : List Loc) (ls : Array Slot), va_P g.1 vwCl ([(oX11 m0 tw ta sz_ pl at_ fa fw cs fd rfm rt_ to_ rw_ wa ct rk rb cn br sm as_ go sh_ ir oa ob th ig sp_ ki tg of_ kp sf rs), (aM g wa 6 (he_ro 6 r2))] ++ he_pl g L ln M) H → va_D A ([(oX11 m0 tw ta sz_ pl at_ fa fw cs fd rfm rt_ to_ rw_ wa ct rk rb cn br sm as_ go sh_ ir oa ob th ig sp_ ki tg of_ kp sf rs), (aM g wa 6 (he_ro 6 r2))] ++ he_pl g L ln M) → va_S A s.heap H locs → lv_has ls 8 [(0, .ref m0), (1, .int (nI a)), (2, .int (nI d)), (3, .int (nI an)), (4, .int (nI be)), (5, .int (nI j)), (6, .int wo), (7, .int (nI i))] → W p l e (he_room 2 46 0 0) s m args below meth c H locs 0 0 Q (F0 m 102 ls [.int (nI tv)]) := by
                  intro tv htv H locs ls hP hD hS hl
                  refine lv_istore (lv' := [(4, .int (nI tv)), (0, .ref m0), (1, .int (nI a)), (2, .int (nI d)), (3, .int (nI an)), (5, .int (nI j)), (6, .int wo), (7, .int (nI i))]) hx hb dX11_sureBy_102 hl (by decide) rfl (fun ls hl => ?_)
                  refine lv_iinc (v := nI (j + 1)) (lv' := [(5, .int (nI (j + 1))), (4, .int (nI tv)), (0, .ref m0), (1, .int (nI a)), (2, .int (nI d)), (3, .int (nI an)), (6, .int wo), (7, .int (nI i))]) hx hb dX11_sureBy_104 hl (k := 5) rfl (nI_1 j) (by decide) rfl (fun ls hl => ?_)
                  refine lv_goto (tgt := 6) hx hb dX11_sureBy_107 (by decide) ?_
                  exact ih6 (j + 1) tv (by omega) (by omega) htv _ _ _ hP hD hS (lv_sub hl [2, 3, 4, 5, 1, 0] rfl)
                refine lv_iload hx hb dX11_sureBy_88 (lv_at hl 6 rfl) ?_
                refine lv_iload hx hb dX11_sureBy_90 (lv_at hl 4 rfl) ?_
                refine lv_icmp_le (tgt := 100) hx hb dX11_sureBy_92 (by decide) (fun c_10 => ?_) (fun c_10 => ?_)
                · have hcm : uD Wr an d j ≤ be := (nI_leI (Nat.lt_of_le_of_lt (uD_le hW9) (by decide)) (by rw [hbe]; exact Nat.lt_of_le_of_lt (mx_le j (fun _ _ _ => uD_le hW9)) (by decide))).mp (hwN ▸ c_10)
                  refine lv_iload hx hb dX11_sureBy_100 (lv_at hl 4 rfl) ?_
                  exact join102 be (mxF_l hbe rfl hcm) _ _ _ hP hD hS (lv_sub hl [0, 1, 2, 3, 4, 5, 6, 7] rfl)
                · have hcm : ¬ uD Wr an d j ≤ be := fun h9 => c_10 (hwN ▸ (nI_leI (Nat.lt_of_le_of_lt (uD_le hW9) (by decide)) (by rw [hbe]; exact Nat.lt_of_le_of_lt (mx_le j (fun _ _ _ => uD_le hW9)) (by decide))).mpr h9)
                  refine lv_iload hx hb dX11_sureBy_95 (lv_at hl 6 rfl) ?_
                  refine he_top (nI (uD Wr an d j)) hwN ?_
                  refine lv_goto (tgt := 102) hx hb dX11_sureBy_97 (by decide) ?_
                  exact join102 (uD Wr an d j) (mxF_g hbe hpu rfl (by omega)) _ _ _ hP hD hS (lv_sub hl [0, 1, 2, 3, 4, 5, 6, 7] rfl)
              · have k_11 : ¬ (343 ≤ i) := fun h9 => c_8 ((he_cle (a := 343) (b := i) (by decide) rfl (by omega) (by omega)).mpr h9)
                refine lv_iload hx hb dX11_sureBy_41 (lv_at hl 7 rfl) ?_
                refine lv_iload_n hx hb dX11_sureBy_43 rfl (lv_at hl 2 rfl) ?_
                refine lv_iload_n hx hb dX11_sureBy_44 rfl (lv_at hl 3 rfl) ?_
                refine he_ci (wc := []) (wr := ([(oX11 m0 tw ta sz_ pl at_ fa fw cs fd rfm rt_ to_ rw_ wa ct rk rb cn br sm as_ go sh_ ir oa ob th ig sp_ ki tg of_ kp sf rs), (aM g wa 6 (he_ro 6 r2))] ++ (he_pl g L ln M))) (va_runS (As := [.int (nI i), .int (nI d), .int (nI an)]) (rest := []) ⟨hx, hb, hml, hown, hts⟩ (r_X11_puts0 l g i d an (by first | assumption | decide | omega) (by first | assumption | decide | omega) (by first | assumption | decide | omega) H.size) (va_cwS 3 hts gX11_sureBy_X11_puts0 rfl rfl rfl (by decide +kernel) ⟨Nat.le_of_ble_eq_true rfl, Nat.le_of_ble_eq_true rfl⟩) (he_preS (wc := []) hK hP hD hS hA hE [] rfl rfl) rfl rfl hl.1 rfl (lv_room (Nat.le_of_ble_eq_true rfl)) dX11_sureBy_45 ⟨(Nat.le_of_ble_eq_true rfl), (Nat.le_of_ble_eq_true rfl)⟩) hP hD hS hA [] (he_is [0, 1] [(oX11 m0 tw ta sz_ pl at_ fa fw cs fd rfm rt_ to_ rw_ wa ct rk rb cn br sm as_ go sh_ ir oa ob th ig sp_ ki tg of_ kp sf rs), (aM g wa 6 (he_ro 6 r2))] (he_pl g L ln M)) rfl (he_ixP rfl) (he_ndP rfl rfl) (he_disN (by decide) rfl) (fun r_12 u_13 H locs h_14 hP hD hS => ?_)
                have hP := va_P.swap hP
                have hD := va_D.swap hD
                subst h_14
                have hP : va_P g.1 vwCl ([(oX11 m0 tw ta sz_ pl at_ fa fw cs fd rfm rt_ to_ rw_ wa ct rk rb cn br sm as_ go sh_ ir oa ob th ig sp_ ki tg of_ kp sf rs), (aM g wa 6 (he_ro 6 r2))] ++ he_pl g L ln M) H := hP
                have hD : va_D A ([(oX11 m0 tw ta sz_ pl at_ fa fw cs fd rfm rt_ to_ rw_ wa ct rk rb cn br sm as_ go sh_ ir oa ob th ig sp_ ki tg of_ kp sf rs), (aM g wa 6 (he_ro 6 r2))] ++ he_pl g L ln M) := hD
                refine lv_if_eq (tgt := 82) hx hb dX11_sureBy_48 (by decide) (fun c_15 => ?_) (fun c_15 => ?_)
                · have hqu : ¬ puB i d an = true := puI_n c_15
                  refine lv_iinc (v := nI (i + 1)) (lv' := [(7, .int (nI (i + 1))), (0, .ref m0), (1, .int (nI a)), (2, .int (nI d)), (3, .int (nI an)), (4, .int (nI be)), (5, .int (nI j)), (6, .int wo)]) hx hb dX11_sureBy_82 hl (k := 7) rfl (nI_1 i) (by decide) rfl (fun ls hl => ?_)
                  refine lv_goto (tgt := 33) hx hb dX11_sureBy_85 (by decide) ?_
                  exact ih33 (i + 1) wo (by omega) (by omega) (hwo.trans (mn_p hqu)) _ _ _ hP hD hS (lv_sub hl [1, 2, 3, 4, 5, 6, 7, 0] rfl)
                · have hqu : puB i d an = true := puI_y c_15
                  have join71 : ∀ (_ : Unit), (nI (fal Wr an (dgt j) (dgt i)) = mnI (mnO (fun r9 => puB r9 d an) (fun r9 => fal Wr an (dgt j) (dgt r9)) (i + 1))) → ∀ (H : Heap) (locs : List Loc) (ls : Array Slot), va_P g.1 vwCl ([(oX11 m0 tw ta sz_ pl at_ fa fw cs fd rfm rt_ to_ rw_ wa ct rk rb cn br sm as_ go sh_ ir oa ob th ig sp_ ki tg of_ kp sf rs), (aM g wa 6 (he_ro 6 r2))] ++ he_pl g L ln M) H → va_D A ([(oX11 m0 tw ta sz_ pl at_ fa fw cs fd rfm rt_ to_ rw_ wa ct rk rb cn br sm as_ go sh_ ir oa ob th ig sp_ ki tg of_ kp sf rs), (aM g wa 6 (he_ro 6 r2))] ++ he_pl g L ln M) → va_S A s.heap H locs → lv_has ls 8 [(0, .ref m0), (1, .int (nI a)), (2, .int (nI d)), (3, .int (nI an)), (4, .int (nI be)), (5, .int (nI j)), (6, .int wo), (7, .int (nI i))] → W p l e (he_room 2 46 0 0) s m args below meth c H locs 0 0 Q (F0 m 71 ls []) := by
                    intro _ hup H locs ls hP hD hS hl
                    refine lv_aload_n hx hb dX11_sureBy_71 rfl (lv_at hl 0 rfl) ?_
                    refine lv_iload hx hb dX11_sureBy_72 (lv_at hl 5 rfl) ?_
                    refine lv_iload hx hb dX11_sureBy_74 (lv_at hl 7 rfl) ?_
                    refine lv_iload_n hx hb dX11_sureBy_76 rfl (lv_at hl 3 rfl) ?_
                    refine he_ci (wc := ([(oX11 m0 tw ta sz_ pl at_ fa fw cs fd rfm rt_ to_ rw_ wa ct rk rb cn br sm as_ go sh_ ir oa ob th ig sp_ ki tg of_ kp sf rs), (aM g wa 6 (he_ro 6 r2))] ++ (he_pl g L ln M))) (wr := []) (va_runV (As := [.int (nI j), .int (nI i), .int (nI an)]) (rest := []) ⟨hx, hb, hml, hown, hts⟩ (r_X11_falls l g m0 fd rfm rt_ to_ rw_ wa rk rb cn br sm as_ go sh_ ki tg of_ kp rs ta sz_ pl at_ fa fw cs ct ir oa ob th ig sp_ sf tw L ln M r2 j i an Wr (by first | assumption | decide | omega) (by first | assumption | decide | omega) (by first | assumption | decide | omega) (by first | assumption | decide | omega) (by first | assumption | decide | omega) (by first | assumption | decide | omega) H.size) (cwV 3 hts gX11_sureBy_X11_falls rfl rfl rfl (by decide +kernel) ⟨Nat.le_of_ble_eq_true rfl, Nat.le_of_ble_eq_true rfl⟩) (he_preV (wc := ([(oX11 m0 tw ta sz_ pl at_ fa fw cs fd rfm rt_ to_ rw_ wa ct rk rb cn br sm as_ go sh_ ir oa ob th ig sp_ ki tg of_ kp sf rs), (aM g wa 6 (he_ro 6 r2))] ++ (he_pl g L ln M))) hK hP hD hS hA hE (he_is [0, 1] [(oX11 m0 tw ta sz_ pl at_ fa fw cs fd rfm rt_ to_ rw_ wa ct rk rb cn br sm as_ go sh_ ir oa ob th ig sp_ ki tg of_ kp sf rs), (aM g wa 6 (he_ro 6 r2))] (he_pl g L ln M)) (he_ixP rfl) (he_ndP rfl rfl) 0 rfl rfl) rfl rfl hl.1 rfl (lv_room (Nat.le_of_ble_eq_true rfl)) dX11_sureBy_77 ⟨(Nat.le_of_ble_eq_true rfl), (Nat.le_of_ble_eq_true rfl)⟩) hP hD hS hA (he_is [0, 1] [(oX11 m0 tw ta sz_ pl at_ fa fw cs fd rfm rt_ to_ rw_ wa ct rk rb cn br sm as_ go sh_ ir oa ob th ig sp_ ki tg of_ kp sf rs), (aM g wa 6 (he_ro 6 r2))] (he_pl g L ln M)) [] (he_ixP rfl) rfl rfl (he_disP (by decide) rfl) (fun r_16 u_17 H locs h_18 hP hD hS => ?_)
                    subst h_18
                    have hP : va_P g.1 vwCl ([(oX11 m0 tw ta sz_ pl at_ fa fw cs fd rfm rt_ to_ rw_ wa ct rk rb cn br sm as_ go sh_ ir oa ob th ig sp_ ki tg of_ kp sf rs), (aM g wa 6 (he_ro 6 r2))] ++ he_pl g L ln M) H := hP
                    have hD : va_D A ([(oX11 m0 tw ta sz_ pl at_ fa fw cs fd rfm rt_ to_ rw_ wa ct rk rb cn br sm as_ go sh_ ir oa ob th ig sp_ ki tg of_ kp sf rs), (aM g wa 6 (he_ro 6 r2))] ++ he_pl g L ln M) := hD
                    refine lv_istore (lv' := [(6, .int (nI (fal Wr an (dgt j) (dgt i)))), (0, .ref m0), (1, .int (nI a)), (2, .int (nI d)), (3, .int (nI an)), (4, .int (nI be)), (5, .int (nI j)), (7, .int (nI i))]) hx hb dX11_sureBy_80 hl (by decide) rfl (fun ls hl => ?_)
                    refine lv_iinc (v := nI (i + 1)) (lv' := [(7, .int (nI (i + 1))), (6, .int (nI (fal Wr an (dgt j) (dgt i)))), (0, .ref m0), (1, .int (nI a)), (2, .int (nI d)), (3, .int (nI an)), (4, .int (nI be)), (5, .int (nI j))]) hx hb dX11_sureBy_82 hl (k := 7) rfl (nI_1 i) (by decide) rfl (fun ls hl => ?_)
                    refine lv_goto (tgt := 33) hx hb dX11_sureBy_85 (by decide) ?_
                    exact ih33 (i + 1) (nI (fal Wr an (dgt j) (dgt i))) (by omega) (by omega) hup _ _ _ hP hD hS (lv_sub hl [2, 3, 4, 5, 6, 7, 1, 0] rfl)
                  refine lv_iload hx hb dX11_sureBy_51 (lv_at hl 6 rfl) ?_
                  refine lv_iconst (v := (-1)) hx hb dX11_sureBy_53 (by decide) ?_
                  refine lv_icmp_eq (tgt := 71) hx hb dX11_sureBy_54 (by decide) (fun c_19 => ?_) (fun c_19 => ?_)
                  · exact join71 () (mn_y (P := (fun r9 => puB r9 d an)) (v := (fun r9 => fal Wr an (dgt j) (dgt r9))) (bn_n (B := 297) (fun r9 => fal_le hW9) i) (by decide) (Nat.lt_of_le_of_lt (fal_le hW9) (by decide)) hqu (Or.inl (by rw [← hwo]; exact c_19))) _ _ _ hP hD hS (lv_sub hl [0, 1, 2, 3, 4, 5, 6, 7] rfl)
                  · refine lv_aload_n hx hb dX11_sureBy_57 rfl (lv_at hl 0 rfl) ?_
                    refine lv_iload hx hb dX11_sureBy_58 (lv_at hl 5 rfl) ?_
                    refine lv_iload hx hb dX11_sureBy_60 (lv_at hl 7 rfl) ?_
                    refine lv_iload_n hx hb dX11_sureBy_62 rfl (lv_at hl 3 rfl) ?_
                    refine he_ci (wc := ([(oX11 m0 tw ta sz_ pl at_ fa fw cs fd rfm rt_ to_ rw_ wa ct rk rb cn br sm as_ go sh_ ir oa ob th ig sp_ ki tg of_ kp sf rs), (aM g wa 6 (he_ro 6 r2))] ++ (he_pl g L ln M))) (wr := []) (va_runV (As := [.int (nI j), .int (nI i), .int (nI an)]) (rest := []) ⟨hx, hb, hml, hown, hts⟩ (r_X11_falls l g m0 fd rfm rt_ to_ rw_ wa rk rb cn br sm as_ go sh_ ki tg of_ kp rs ta sz_ pl at_ fa fw cs ct ir oa ob th ig sp_ sf tw L ln M r2 j i an Wr (by first | assumption | decide | omega) (by first | assumption | decide | omega) (by first | assumption | decide | omega) (by first | assumption | decide | omega) (by first | assumption | decide | omega) (by first | assumption | decide | omega) H.size) (cwV 3 hts gX11_sureBy_X11_falls rfl rfl rfl (by decide +kernel) ⟨Nat.le_of_ble_eq_true rfl, Nat.le_of_ble_eq_true rfl⟩) (he_preV (wc := ([(oX11 m0 tw ta sz_ pl at_ fa fw cs fd rfm rt_ to_ rw_ wa ct rk rb cn br sm as_ go sh_ ir oa ob th ig sp_ ki tg of_ kp sf rs), (aM g wa 6 (he_ro 6 r2))] ++ (he_pl g L ln M))) hK hP hD hS hA hE (he_is [0, 1] [(oX11 m0 tw ta sz_ pl at_ fa fw cs fd rfm rt_ to_ rw_ wa ct rk rb cn br sm as_ go sh_ ir oa ob th ig sp_ ki tg of_ kp sf rs), (aM g wa 6 (he_ro 6 r2))] (he_pl g L ln M)) (he_ixP rfl) (he_ndP rfl rfl) 0 rfl rfl) rfl rfl hl.1 rfl (lv_room (Nat.le_of_ble_eq_true rfl)) dX11_sureBy_63 ⟨(Nat.le_of_ble_eq_true rfl), (Nat.le_of_ble_eq_true rfl)⟩) hP hD hS hA (he_is [0, 1] [(oX11 m0 tw ta sz_ pl at_ fa fw cs fd rfm rt_ to_ rw_ wa ct rk rb cn br sm as_ go sh_ ir oa ob th ig sp_ ki tg of_ kp sf rs), (aM g wa 6 (he_ro 6 r2))] (he_pl g L ln M)) [] (he_ixP rfl) rfl rfl (he_disP (by decide) rfl) (fun r_20 u_21 H locs h_22 hP hD hS => ?_)
                    subst h_22
                    have hP : va_P g.1 vwCl ([(oX11 m0 tw ta sz_ pl at_ fa fw cs fd rfm rt_ to_ rw_ wa ct rk rb cn br sm as_ go sh_ ir oa ob th ig sp_ ki tg of_ kp sf rs), (aM g wa 6 (he_ro 6 r2))] ++ he_pl g L ln M) H := hP
                    have hD : va_D A ([(oX11 m0 tw ta sz_ pl at_ fa fw cs fd rfm rt_ to_ rw_ wa ct rk rb cn br sm as_ go sh_ ir oa ob th ig sp_ ki tg of_ kp sf rs), (aM g wa 6 (he_ro 6 r2))] ++ he_pl g L ln M) := hD
                    refine lv_iload hx hb dX11_sureBy_66 (lv_at hl 6 rfl) ?_
                    refine lv_icmp_ge (tgt := 82) hx hb dX11_sureBy_68 (by decide) (fun c_23 => ?_) (fun c_23 => ?_)
                    · refine lv_iinc (v := nI (i + 1)) (lv' := [(7, .int (nI (i + 1))), (0, .ref m0), (1, .int (nI a)), (2, .int (nI d)), (3, .int (nI an)), (4, .int (nI be)), (5, .int (nI j)), (6, .int wo)]) hx hb dX11_sureBy_82 hl (k := 7) rfl (nI_1 i) (by decide) rfl (fun ls hl => ?_)
                      refine lv_goto (tgt := 33) hx hb dX11_sureBy_85 (by decide) ?_
                      exact ih33 (i + 1) wo (by omega) (by omega) (hwo.trans (mn_n (P := (fun r9 => puB r9 d an)) (v := (fun r9 => fal Wr an (dgt j) (dgt r9))) (bn_n (B := 297) (fun r9 => fal_le hW9) i) (by decide) (Nat.lt_of_le_of_lt (fal_le hW9) (by decide)) (by rw [← hwo]; exact c_19) (by rw [← hwo]; exact c_23))) _ _ _ hP hD hS (lv_sub hl [1, 2, 3, 4, 5, 6, 7, 0] rfl)
                    · exact join71 () (mn_y (P := (fun r9 => puB r9 d an)) (v := (fun r9 => fal Wr an (dgt j) (dgt r9))) (bn_n (B := 297) (fun r9 => fal_le hW9) i) (by decide) (Nat.lt_of_le_of_lt (fal_le hW9) (by decide)) hqu (Or.inr (by rw [← hwo]; exact c_23))) _ _ _ hP hD hS (lv_sub hl [0, 1, 2, 3, 4, 5, 6, 7] rfl)
          exact loop33 ((343 - 0) + 1) 0 (-1) (Nat.lt_succ_self _) (Nat.zero_le _) rfl _ _ _ hP hD hS (lv_sub hl [2, 3, 4, 5, 6, 7, 1, 0] rfl)
        · have hpu : ¬ puB j a an = true := puI_n c_7
          refine lv_goto (tgt := 104) hx hb dX11_sureBy_24 (by decide) ?_
          refine lv_iinc (v := nI (j + 1)) (lv' := [(5, .int (nI (j + 1))), (0, .ref m0), (1, .int (nI a)), (2, .int (nI d)), (3, .int (nI an)), (4, .int (nI be))]) hx hb dX11_sureBy_104 hl (k := 5) rfl (nI_1 j) (by decide) rfl (fun ls hl => ?_)
          refine lv_goto (tgt := 6) hx hb dX11_sureBy_107 (by decide) ?_
          exact ih6 (j + 1) be (by omega) (by omega) (mxF_n hbe hpu) _ _ _ hP hD hS (lv_sub hl [1, 2, 3, 4, 5, 0] rfl)
  exact loop6 ((343 - 0) + 1) 0 0 (Nat.lt_succ_self _) (Nat.zero_le _) rfl _ _ _ hP hD hS (lv_sub hl [2, 3, 4, 5, 1, 0] rfl)
set_option maxHeartbeats 4000000 in
set_option maxRecDepth 100000 in
theorem r_X11_earnest0 (l : Launch) (g : he_G) (m0 : Nat) (fd : Nat) (rfm : Nat) (rt_ : Nat) (to_ : Nat) (rw_ : Nat) (wa : Nat) (rk : Nat) (rb : Nat) (cn : Nat) (br : Nat) (sm : Nat) (as_ : Nat) (go : Nat) (sh_ : Nat) (ki : Nat) (tg : Nat) (of_ : Nat) (kp : Nat) (rs : Nat) (ta : Int32) (sz_ : Int32) (pl : Int32) (at_ : Int32) (fa : Int32) (fw : Int32) (cs : Int32) (ct : Int32) (ir : Int32) (oa : Int32) (ob : Int32) (th : Int32) (ig : Int32) (sp_ : Int32) (sf : Int32) (tw : Int32) (tl : Nat → Int32) (w : Nat) (v : Nat) (L : List Nat) (ln : Nat → Nat) (M : Nat → Nat → Int32) (r2 : Nat → Nat) (a : Nat) (d : Nat) (Wr : Nat → Nat) (htl : tl 0 = nI w) (hw6 : w ≤ 6) (hv : v = if 3 < w then 3 else w) (hv3 : v ≤ 3) (F_r2 : ∀ i, i < 6 → r2 i ∈ L ∧ ln (r2 i) = 2 ∧ True) (ha6 : a ≤ 6) (hd6 : d ≤ 6) (hWm : ∀ k, k < 3 → bt (allN v) k = true → M (r2 k) 0 = nI (Wr k)) (hW9 : ∀ k, Wr k ≤ 99) : he_I l yX11_earnest wsX11_earnest 3 73 0 0 g [.ref m0, .int (nI a), .int (nI d), .int 0] ([(oX11 m0 tw ta sz_ pl at_ fa fw cs fd rfm rt_ to_ rw_ wa ct rk rb cn br sm as_ go sh_ ir oa ob th ig sp_ ki tg of_ kp sf rs), (aI g to_ 25 tl), (aM g wa 6 (he_ro 6 r2))] ++ he_pl g L ln M) (fun (r : Int32) (u : Int32) => r = nI (leN (foC Wr (allN v) a d))) (fun (u : Int32) => [(oX11 m0 0 ta sz_ pl at_ fa fw cs fd rfm rt_ to_ rw_ wa ct rk rb cn br sm as_ go sh_ ir oa ob th ig sp_ ki tg of_ kp u rs), (aI g to_ 25 tl), (aM g wa 6 (he_ro 6 r2))] ++ he_pl g L ln M) := by
  refine he_begin (l := l) (g := g) (y := yX11_earnest) (wl := wsX11_earnest) (fr := 3) (lo := 73) (mc := 0) (ms := 0) (av := [.ref m0, .int (nI a), .int (nI d), .int 0]) (ws := ([(oX11 m0 tw ta sz_ pl at_ fa fw cs fd rfm rt_ to_ rw_ wa ct rk rb cn br sm as_ go sh_ ir oa ob th ig sp_ ki tg of_ kp sf rs), (aI g to_ 25 tl), (aM g wa 6 (he_ro 6 r2))] ++ he_pl g L ln M)) (cc := cX11_earnest) (maxL := 4) (ret := (some .int)) (fun A => va_Qi (fun (r : Int32) (u : Int32) => r = nI (leN (foC Wr (allN v) a d))) (fun u t => he_post g A ((fun (u : Int32) => [(oX11 m0 0 ta sz_ pl at_ fa fw cs fd rfm rt_ to_ rw_ wa ct rk rb cn br sm as_ go sh_ ir oa ob th ig sp_ ki tg of_ kp u rs), (aI g to_ 25 tl), (aM g wa 6 (he_ro 6 r2))] ++ he_pl g L ln M) u) t) A) (by decide) rfl (Nat.le_of_ble_eq_true rfl) ?_
  intro p e s m args below meth c A ls H locs Q hQ hB
  obtain ⟨hx, hb, hr, hml, hown, hts, hlk, hin, hP, hK, hD, hS, hA, hE, hl⟩ := hB
  have hl : lv_has ls 4 [(0, .ref m0), (1, .int (nI a)), (2, .int (nI d)), (3, .int 0)] := hl
  have h79 := all_7 hv3
  have f85 := hts (.fieldLink RX11 85 "HiredEnemyModel" "thrown" "I") (iwoX11_earnest (k := 0) rfl)
  have inX11 : ∀ w ∈ wsX110, w ∈ wsX11_earnest := innX11_earnest_X11
  refine lv_aload_n hx hb dX11_earnest_0 rfl (lv_at hl 0 rfl) ?_
  refine lv_iconst (v := 0) hx hb dX11_earnest_1 (by decide) ?_
  refine va_put (v := .int 0) (ty := .int) (T := TX11) (N := 35) hx hb hts inX11 tyX11 tyX11_ok nmX11 hown hK hP hD hS 0 rfl rfl 0 (by decide) f85 (fun _ h9 => h9) rfl (by decide +kernel) rfl rfl (Nat.le_of_ble_eq_true rfl) dX11_earnest_2 (fun H locs hP hD hS => ?_)
  have hP : va_P g.1 vwCl ([(oX11 m0 0 ta sz_ pl at_ fa fw cs fd rfm rt_ to_ rw_ wa ct rk rb cn br sm as_ go sh_ ir oa ob th ig sp_ ki tg of_ kp sf rs), (aI g to_ 25 tl), (aM g wa 6 (he_ro 6 r2))] ++ he_pl g L ln M) H := hP
  have hD : va_D A ([(oX11 m0 0 ta sz_ pl at_ fa fw cs fd rfm rt_ to_ rw_ wa ct rk rb cn br sm as_ go sh_ ir oa ob th ig sp_ ki tg of_ kp sf rs), (aI g to_ 25 tl), (aM g wa 6 (he_ro 6 r2))] ++ he_pl g L ln M) := hD
  refine lv_aload_n hx hb dX11_earnest_5 rfl (lv_at hl 0 rfl) ?_
  refine lv_iload_n hx hb dX11_earnest_6 rfl (lv_at hl 1 rfl) ?_
  refine lv_iload_n hx hb dX11_earnest_7 rfl (lv_at hl 2 rfl) ?_
  refine he_ci (wc := []) (wr := ([(oX11 m0 0 ta sz_ pl at_ fa fw cs fd rfm rt_ to_ rw_ wa ct rk rb cn br sm as_ go sh_ ir oa ob th ig sp_ ki tg of_ kp sf rs), (aI g to_ 25 tl), (aM g wa 6 (he_ro 6 r2))] ++ (he_pl g L ln M))) (va_runS (As := [.int (nI a), .int (nI d)]) (rest := [.ref m0]) ⟨hx, hb, hml, hown, hts⟩ (c_X11_areTens1 l g (nI a) (nI d) (fun h9 => absurd (he_within_in (k := a) (a := 0) (b := 6) (a0 := 0) (B := 6) rfl rfl (by omega) (by omega) (by decide)) (by rw [h9]; decide)) (fun h9 => absurd (he_within_in (k := d) (a := 0) (b := 6) (a0 := 0) (B := 6) rfl rfl (by omega) (by omega) (by decide)) (by rw [h9]; decide)) H.size) (va_cwS 2 hts gX11_earnest_X11_areTens rfl rfl rfl (by decide +kernel) ⟨Nat.le_of_ble_eq_true rfl, Nat.le_of_ble_eq_true rfl⟩) (he_preS (wc := []) hK hP hD hS hA hE [] rfl rfl) rfl rfl hl.1 rfl (lv_room (Nat.le_of_ble_eq_true rfl)) dX11_earnest_8 ⟨(Nat.le_of_ble_eq_true rfl), (Nat.le_of_ble_eq_true rfl)⟩) hP hD hS hA [] (he_is [0, 1, 2] [(oX11 m0 0 ta sz_ pl at_ fa fw cs fd rfm rt_ to_ rw_ wa ct rk rb cn br sm as_ go sh_ ir oa ob th ig sp_ ki tg of_ kp sf rs), (aI g to_ 25 tl), (aM g wa 6 (he_ro 6 r2))] (he_pl g L ln M)) rfl (he_ixP rfl) (he_ndP rfl rfl) (he_disN (by decide) rfl) (fun r_1 u_2 H locs h_3 hP hD hS => ?_)
  have hP := va_P.swap hP
  have hD := va_D.swap hD
  subst h_3
  have hP : va_P g.1 vwCl ([(oX11 m0 0 ta sz_ pl at_ fa fw cs fd rfm rt_ to_ rw_ wa ct rk rb cn br sm as_ go sh_ ir oa ob th ig sp_ ki tg of_ kp sf rs), (aI g to_ 25 tl), (aM g wa 6 (he_ro 6 r2))] ++ he_pl g L ln M) H := hP
  have hD : va_D A ([(oX11 m0 0 ta sz_ pl at_ fa fw cs fd rfm rt_ to_ rw_ wa ct rk rb cn br sm as_ go sh_ ir oa ob th ig sp_ ki tg of_ kp sf rs), (aI g to_ 25 tl), (aM g wa 6 (he_ro 6 r2))] ++ he_pl g L ln M) := hD
  refine lv_if_eq (tgt := 23) hx hb dX11_earnest_11 (by decide) (fun c_4 => ?_) (fun c_4 => ?_)
  · exact absurd c_4 (by decide)
  · refine lv_iload_n hx hb dX11_earnest_14 rfl (lv_at hl 3 rfl) ?_
    refine lv_iconst (v := 0) hx hb dX11_earnest_15 (by decide) ?_
    refine lv_iconst (v := 1) hx hb dX11_earnest_16 (by decide) ?_
    refine he_ci (wc := []) (wr := ([(oX11 m0 0 ta sz_ pl at_ fa fw cs fd rfm rt_ to_ rw_ wa ct rk rb cn br sm as_ go sh_ ir oa ob th ig sp_ ki tg of_ kp sf rs), (aI g to_ 25 tl), (aM g wa 6 (he_ro 6 r2))] ++ (he_pl g L ln M))) (va_runS (As := [.int 0, .int 0, .int 1]) (rest := [.ref m0]) ⟨hx, hb, hml, hown, hts⟩ (c_X11_in l g 0 0 1 H.size) (va_cwS 3 hts gX11_earnest_X11_in rfl rfl rfl (by decide +kernel) ⟨Nat.le_of_ble_eq_true rfl, Nat.le_of_ble_eq_true rfl⟩) (he_preS (wc := []) hK hP hD hS hA hE [] rfl rfl) rfl rfl hl.1 rfl (lv_room (Nat.le_of_ble_eq_true rfl)) dX11_earnest_17 ⟨(Nat.le_of_ble_eq_true rfl), (Nat.le_of_ble_eq_true rfl)⟩) hP hD hS hA [] (he_is [0, 1, 2] [(oX11 m0 0 ta sz_ pl at_ fa fw cs fd rfm rt_ to_ rw_ wa ct rk rb cn br sm as_ go sh_ ir oa ob th ig sp_ ki tg of_ kp sf rs), (aI g to_ 25 tl), (aM g wa 6 (he_ro 6 r2))] (he_pl g L ln M)) rfl (he_ixP rfl) (he_ndP rfl rfl) (he_disN (by decide) rfl) (fun r_5 u_6 H locs h_7 hP hD hS => ?_)
    have hP := va_P.swap hP
    have hD := va_D.swap hD
    subst h_7
    have hP : va_P g.1 vwCl ([(oX11 m0 0 ta sz_ pl at_ fa fw cs fd rfm rt_ to_ rw_ wa ct rk rb cn br sm as_ go sh_ ir oa ob th ig sp_ ki tg of_ kp sf rs), (aI g to_ 25 tl), (aM g wa 6 (he_ro 6 r2))] ++ he_pl g L ln M) H := hP
    have hD : va_D A ([(oX11 m0 0 ta sz_ pl at_ fa fw cs fd rfm rt_ to_ rw_ wa ct rk rb cn br sm as_ go sh_ ir oa ob th ig sp_ ki tg of_ kp sf rs), (aI g to_ 25 tl), (aM g wa 6 (he_ro 6 r2))] ++ he_pl g L ln M) := hD
    refine he_top (1) (by decide) ?_
    refine lv_if_ne (tgt := 27) hx hb dX11_earnest_20 (by decide) (fun c_8 => ?_) (fun c_8 => ?_)
    · refine lv_iconst (v := 0) hx hb dX11_earnest_27 (by decide) ?_
      refine lv_iconst (v := 1) hx hb dX11_earnest_28 (by decide) ?_
      refine lv_iconst (v := 2) hx hb dX11_earnest_29 (by decide) ?_
      refine he_ci (wc := [(oX11 m0 0 ta sz_ pl at_ fa fw cs fd rfm rt_ to_ rw_ wa ct rk rb cn br sm as_ go sh_ ir oa ob th ig sp_ ki tg of_ kp sf rs)]) (wr := ([(aI g to_ 25 tl), (aM g wa 6 (he_ro 6 r2))] ++ (he_pl g L ln M))) (va_runV (As := [.int 0, .int 1, .int 2]) (rest := []) ⟨hx, hb, hml, hown, hts⟩ (c_X11_bad0 l g m0 fd rfm rt_ to_ rw_ wa rk rb cn br sm as_ go sh_ ki tg of_ kp rs ta sz_ pl at_ fa fw cs ct ir oa ob th ig sp_ sf 1 2 H.size) (cwV 3 hts gX11_earnest_X11_bad rfl rfl rfl (by decide +kernel) ⟨Nat.le_of_ble_eq_true rfl, Nat.le_of_ble_eq_true rfl⟩) (he_preV (wc := [(oX11 m0 0 ta sz_ pl at_ fa fw cs fd rfm rt_ to_ rw_ wa ct rk rb cn br sm as_ go sh_ ir oa ob th ig sp_ ki tg of_ kp sf rs)]) hK hP hD hS hA hE [0] rfl rfl 0 rfl rfl) rfl rfl hl.1 rfl (lv_room (Nat.le_of_ble_eq_true rfl)) dX11_earnest_30 ⟨(Nat.le_of_ble_eq_true rfl), (Nat.le_of_ble_eq_true rfl)⟩) hP hD hS hA [0] (he_is [1, 2] [(oX11 m0 0 ta sz_ pl at_ fa fw cs fd rfm rt_ to_ rw_ wa ct rk rb cn br sm as_ go sh_ ir oa ob th ig sp_ ki tg of_ kp sf rs), (aI g to_ 25 tl), (aM g wa 6 (he_ro 6 r2))] (he_pl g L ln M)) rfl (he_ixP rfl) (he_ndP rfl rfl) (he_disN (by decide) rfl) (fun r_9 u_10 H locs h_11 hP hD hS => ?_)
      have hP := va_P.swap hP
      have hD := va_D.swap hD
      subst h_11
      have hP : va_P g.1 vwCl ([(aI g to_ 25 tl), (aM g wa 6 (he_ro 6 r2)), (oX11 m0 0 ta sz_ pl at_ fa fw cs fd rfm rt_ to_ rw_ wa ct rk rb cn br sm as_ go sh_ ir oa ob th ig sp_ ki tg of_ kp sf rs)] ++ he_pl g L ln M) H := hP
      have hD : va_D A ([(aI g to_ 25 tl), (aM g wa 6 (he_ro 6 r2)), (oX11 m0 0 ta sz_ pl at_ fa fw cs fd rfm rt_ to_ rw_ wa ct rk rb cn br sm as_ go sh_ ir oa ob th ig sp_ ki tg of_ kp sf rs)] ++ he_pl g L ln M) := hD
      refine lv_if_eq (tgt := 38) hx hb dX11_earnest_33 (by decide) (fun c_12 => ?_) (fun c_12 => ?_)
      · refine lv_iload_n hx hb dX11_earnest_38 rfl (lv_at hl 3 rfl) ?_
        refine lv_if_ne (tgt := 55) hx hb dX11_earnest_39 (by decide) (fun c_13 => ?_) (fun c_13 => ?_)
        · exact absurd (by decide) c_13
        · refine lv_aload_n hx hb dX11_earnest_42 rfl (lv_at hl 0 rfl) ?_
          refine lv_iload_n hx hb dX11_earnest_43 rfl (lv_at hl 1 rfl) ?_
          refine lv_iload_n hx hb dX11_earnest_44 rfl (lv_at hl 2 rfl) ?_
          refine lv_aload_n hx hb dX11_earnest_45 rfl (lv_at hl 0 rfl) ?_
          refine he_ci (wc := [(oX11 m0 0 ta sz_ pl at_ fa fw cs fd rfm rt_ to_ rw_ wa ct rk rb cn br sm as_ go sh_ ir oa ob th ig sp_ ki tg of_ kp sf rs), (aI g to_ 25 tl)]) (wr := ([(aM g wa 6 (he_ro 6 r2))] ++ (he_pl g L ln M))) (va_runV (As := []) (rest := [.int (nI d), .int (nI a), .ref m0]) ⟨hx, hb, hml, hown, hts⟩ (r_X11_firstWalls l g m0 fd rfm rt_ to_ rw_ wa rk rb cn br sm as_ go sh_ ki tg of_ kp rs ta sz_ pl at_ fa fw cs ct ir oa ob th ig sp_ sf 0 tl w v (by first | assumption | decide | omega) (by first | assumption | decide | omega) (by first | assumption | decide | omega) (by first | assumption | decide | omega) H.size) (cwV 0 hts gX11_earnest_X11_firstWalls rfl rfl rfl (by decide +kernel) ⟨Nat.le_of_ble_eq_true rfl, Nat.le_of_ble_eq_true rfl⟩) (he_preV (wc := [(oX11 m0 0 ta sz_ pl at_ fa fw cs fd rfm rt_ to_ rw_ wa ct rk rb cn br sm as_ go sh_ ir oa ob th ig sp_ ki tg of_ kp sf rs), (aI g to_ 25 tl)]) hK hP hD hS hA hE [2, 0] rfl rfl 2 rfl rfl) rfl rfl hl.1 rfl (lv_room (Nat.le_of_ble_eq_true rfl)) dX11_earnest_46 ⟨(Nat.le_of_ble_eq_true rfl), (Nat.le_of_ble_eq_true rfl)⟩) hP hD hS hA [2, 0] (he_is [1] [(aI g to_ 25 tl), (aM g wa 6 (he_ro 6 r2)), (oX11 m0 0 ta sz_ pl at_ fa fw cs fd rfm rt_ to_ rw_ wa ct rk rb cn br sm as_ go sh_ ir oa ob th ig sp_ ki tg of_ kp sf rs)] (he_pl g L ln M)) rfl (he_ixP rfl) (he_ndP rfl rfl) (he_disN (by decide) rfl) (fun r_14 u_15 H locs h_16 hP hD hS => ?_)
          have hP := va_P.swap hP
          have hD := va_D.swap hD
          subst h_16
          have hP : va_P g.1 vwCl ([(aM g wa 6 (he_ro 6 r2)), (oX11 m0 0 ta sz_ pl at_ fa fw cs fd rfm rt_ to_ rw_ wa ct rk rb cn br sm as_ go sh_ ir oa ob th ig sp_ ki tg of_ kp sf rs), (aI g to_ 25 tl)] ++ he_pl g L ln M) H := hP
          have hD : va_D A ([(aM g wa 6 (he_ro 6 r2)), (oX11 m0 0 ta sz_ pl at_ fa fw cs fd rfm rt_ to_ rw_ wa ct rk rb cn br sm as_ go sh_ ir oa ob th ig sp_ ki tg of_ kp sf rs), (aI g to_ 25 tl)] ++ he_pl g L ln M) := hD
          refine he_ci (wc := ([(oX11 m0 0 ta sz_ pl at_ fa fw cs fd rfm rt_ to_ rw_ wa ct rk rb cn br sm as_ go sh_ ir oa ob th ig sp_ ki tg of_ kp sf rs), (aM g wa 6 (he_ro 6 r2))] ++ (he_pl g L ln M))) (wr := [(aI g to_ 25 tl)]) (va_runV (As := [.int (nI a), .int (nI d), .int (nI (allN v))]) (rest := []) ⟨hx, hb, hml, hown, hts⟩ (r_X11_safeBy l g m0 fd rfm rt_ to_ rw_ wa rk rb cn br sm as_ go sh_ ki tg of_ kp rs ta sz_ pl at_ fa fw cs ct ir oa ob th ig sp_ sf 0 L ln M r2 a d (allN v) Wr (by first | assumption | decide | omega) (by omega) (by first | assumption | decide | omega) (by first | assumption | decide | omega) (by first | assumption | decide | omega) (by first | assumption | decide | omega) H.size) (cwV 3 hts gX11_earnest_X11_safeBy rfl rfl rfl (by decide +kernel) ⟨Nat.le_of_ble_eq_true rfl, Nat.le_of_ble_eq_true rfl⟩) (he_preV (wc := ([(oX11 m0 0 ta sz_ pl at_ fa fw cs fd rfm rt_ to_ rw_ wa ct rk rb cn br sm as_ go sh_ ir oa ob th ig sp_ ki tg of_ kp sf rs), (aM g wa 6 (he_ro 6 r2))] ++ (he_pl g L ln M))) hK hP hD hS hA hE (he_is [1, 0] [(aM g wa 6 (he_ro 6 r2)), (oX11 m0 0 ta sz_ pl at_ fa fw cs fd rfm rt_ to_ rw_ wa ct rk rb cn br sm as_ go sh_ ir oa ob th ig sp_ ki tg of_ kp sf rs), (aI g to_ 25 tl)] (he_pl g L ln M)) (he_ixP rfl) (he_ndP rfl rfl) 1 rfl rfl) rfl rfl hl.1 rfl (lv_room (Nat.le_of_ble_eq_true rfl)) dX11_earnest_49 ⟨(Nat.le_of_ble_eq_true rfl), (Nat.le_of_ble_eq_true rfl)⟩) hP hD hS hA (he_is [1, 0] [(aM g wa 6 (he_ro 6 r2)), (oX11 m0 0 ta sz_ pl at_ fa fw cs fd rfm rt_ to_ rw_ wa ct rk rb cn br sm as_ go sh_ ir oa ob th ig sp_ ki tg of_ kp sf rs), (aI g to_ 25 tl)] (he_pl g L ln M)) [2] (he_ixP rfl) rfl rfl (he_disP (by decide) rfl) (fun r_17 u_18 H locs h_19 hP hD hS => ?_)
          obtain ⟨sr_20, rfl⟩ : ∃ z, z = u_18 := ⟨_, rfl⟩
          try dsimp only at h_19
          obtain ⟨rfl, hf_21⟩ := h_19
          have hP : va_P g.1 vwCl ([(aI g to_ 25 tl), (oX11 m0 0 ta sz_ pl at_ fa fw cs fd rfm rt_ to_ rw_ wa ct rk rb cn br sm as_ go sh_ ir oa ob th ig sp_ ki tg of_ kp sr_20 rs), (aM g wa 6 (he_ro 6 r2))] ++ he_pl g L ln M) H := hP
          have hD : va_D A ([(aI g to_ 25 tl), (oX11 m0 0 ta sz_ pl at_ fa fw cs fd rfm rt_ to_ rw_ wa ct rk rb cn br sm as_ go sh_ ir oa ob th ig sp_ ki tg of_ kp sr_20 rs), (aM g wa 6 (he_ro 6 r2))] ++ he_pl g L ln M) := hD
          refine lv_goto (tgt := 65) hx hb dX11_earnest_52 (by decide) ?_
          have hP := he_Psub (X := [(aI g to_ 25 tl), (oX11 m0 0 ta sz_ pl at_ fa fw cs fd rfm rt_ to_ rw_ wa ct rk rb cn br sm as_ go sh_ ir oa ob th ig sp_ ki tg of_ kp sr_20 rs), (aM g wa 6 (he_ro 6 r2))]) (X2 := [(oX11 m0 0 ta sz_ pl at_ fa fw cs fd rfm rt_ to_ rw_ wa ct rk rb cn br sm as_ go sh_ ir oa ob th ig sp_ ki tg of_ kp sr_20 rs), (aI g to_ 25 tl), (aM g wa 6 (he_ro 6 r2))]) (P := (he_pl g L ln M)) hP [1, 0, 2] rfl
          have hD := he_Dsub (X := [(aI g to_ 25 tl), (oX11 m0 0 ta sz_ pl at_ fa fw cs fd rfm rt_ to_ rw_ wa ct rk rb cn br sm as_ go sh_ ir oa ob th ig sp_ ki tg of_ kp sr_20 rs), (aM g wa 6 (he_ro 6 r2))]) (X2 := [(oX11 m0 0 ta sz_ pl at_ fa fw cs fd rfm rt_ to_ rw_ wa ct rk rb cn br sm as_ go sh_ ir oa ob th ig sp_ ki tg of_ kp sr_20 rs), (aI g to_ 25 tl), (aM g wa 6 (he_ro 6 r2))]) (P := (he_pl g L ln M)) hD [1, 0, 2] rfl rfl rfl
          exact he_ri hQ hx hb hr hlk hP hD hS dX11_earnest_65 (Nat.le_of_ble_eq_true rfl) (Nat.le_of_ble_eq_true rfl) (sr_20) (rfl) (rfl)
      · exact absurd (by decide) c_12
    · exact absurd c_8 (by decide)
set_option maxHeartbeats 4000000 in
set_option maxRecDepth 100000 in
theorem r_X11_earnest1 (l : Launch) (g : he_G) (m0 : Nat) (fd : Nat) (rfm : Nat) (rt_ : Nat) (to_ : Nat) (rw_ : Nat) (wa : Nat) (rk : Nat) (rb : Nat) (cn : Nat) (br : Nat) (sm : Nat) (as_ : Nat) (go : Nat) (sh_ : Nat) (ki : Nat) (tg : Nat) (of_ : Nat) (kp : Nat) (rs : Nat) (ta : Int32) (sz_ : Int32) (pl : Int32) (at_ : Int32) (fa : Int32) (fw : Int32) (cs : Int32) (ct : Int32) (ir : Int32) (oa : Int32) (ob : Int32) (th : Int32) (ig : Int32) (sp_ : Int32) (sf : Int32) (tw : Int32) (tl : Nat → Int32) (w : Nat) (v : Nat) (L : List Nat) (ln : Nat → Nat) (M : Nat → Nat → Int32) (r2 : Nat → Nat) (a : Nat) (d : Nat) (Wr : Nat → Nat) (htl : tl 0 = nI w) (hw6 : w ≤ 6) (hv : v = if 3 < w then 3 else w) (hv3 : v ≤ 3) (F_r2 : ∀ i, i < 6 → r2 i ∈ L ∧ ln (r2 i) = 2 ∧ True) (ha6 : a ≤ 6) (hd6 : d ≤ 6) (hWm : ∀ k, k < 3 → bt (allN v) k = true → M (r2 k) 0 = nI (Wr k)) (hW9 : ∀ k, Wr k ≤ 99) : he_I l yX11_earnest wsX11_earnest 3 73 0 0 g [.ref m0, .int (nI a), .int (nI d), .int 1] ([(oX11 m0 tw ta sz_ pl at_ fa fw cs fd rfm rt_ to_ rw_ wa ct rk rb cn br sm as_ go sh_ ir oa ob th ig sp_ ki tg of_ kp sf rs), (aI g to_ 25 tl), (aM g wa 6 (he_ro 6 r2))] ++ he_pl g L ln M) (fun (r : Int32) (u : Int32) => r = nI (moC Wr (allN v) a d)) (fun (u : Int32) => [(oX11 m0 0 ta sz_ pl at_ fa fw cs fd rfm rt_ to_ rw_ wa ct rk rb cn br sm as_ go sh_ ir oa ob th ig sp_ ki tg of_ kp u rs), (aI g to_ 25 tl), (aM g wa 6 (he_ro 6 r2))] ++ he_pl g L ln M) := by
  refine he_begin (l := l) (g := g) (y := yX11_earnest) (wl := wsX11_earnest) (fr := 3) (lo := 73) (mc := 0) (ms := 0) (av := [.ref m0, .int (nI a), .int (nI d), .int 1]) (ws := ([(oX11 m0 tw ta sz_ pl at_ fa fw cs fd rfm rt_ to_ rw_ wa ct rk rb cn br sm as_ go sh_ ir oa ob th ig sp_ ki tg of_ kp sf rs), (aI g to_ 25 tl), (aM g wa 6 (he_ro 6 r2))] ++ he_pl g L ln M)) (cc := cX11_earnest) (maxL := 4) (ret := (some .int)) (fun A => va_Qi (fun (r : Int32) (u : Int32) => r = nI (moC Wr (allN v) a d)) (fun u t => he_post g A ((fun (u : Int32) => [(oX11 m0 0 ta sz_ pl at_ fa fw cs fd rfm rt_ to_ rw_ wa ct rk rb cn br sm as_ go sh_ ir oa ob th ig sp_ ki tg of_ kp u rs), (aI g to_ 25 tl), (aM g wa 6 (he_ro 6 r2))] ++ he_pl g L ln M) u) t) A) (by decide) rfl (Nat.le_of_ble_eq_true rfl) ?_
  intro p e s m args below meth c A ls H locs Q hQ hB
  obtain ⟨hx, hb, hr, hml, hown, hts, hlk, hin, hP, hK, hD, hS, hA, hE, hl⟩ := hB
  have hl : lv_has ls 4 [(0, .ref m0), (1, .int (nI a)), (2, .int (nI d)), (3, .int 1)] := hl
  have h79 := all_7 hv3
  have f85 := hts (.fieldLink RX11 85 "HiredEnemyModel" "thrown" "I") (iwoX11_earnest (k := 0) rfl)
  have inX11 : ∀ w ∈ wsX110, w ∈ wsX11_earnest := innX11_earnest_X11
  refine lv_aload_n hx hb dX11_earnest_0 rfl (lv_at hl 0 rfl) ?_
  refine lv_iconst (v := 0) hx hb dX11_earnest_1 (by decide) ?_
  refine va_put (v := .int 0) (ty := .int) (T := TX11) (N := 35) hx hb hts inX11 tyX11 tyX11_ok nmX11 hown hK hP hD hS 0 rfl rfl 0 (by decide) f85 (fun _ h9 => h9) rfl (by decide +kernel) rfl rfl (Nat.le_of_ble_eq_true rfl) dX11_earnest_2 (fun H locs hP hD hS => ?_)
  have hP : va_P g.1 vwCl ([(oX11 m0 0 ta sz_ pl at_ fa fw cs fd rfm rt_ to_ rw_ wa ct rk rb cn br sm as_ go sh_ ir oa ob th ig sp_ ki tg of_ kp sf rs), (aI g to_ 25 tl), (aM g wa 6 (he_ro 6 r2))] ++ he_pl g L ln M) H := hP
  have hD : va_D A ([(oX11 m0 0 ta sz_ pl at_ fa fw cs fd rfm rt_ to_ rw_ wa ct rk rb cn br sm as_ go sh_ ir oa ob th ig sp_ ki tg of_ kp sf rs), (aI g to_ 25 tl), (aM g wa 6 (he_ro 6 r2))] ++ he_pl g L ln M) := hD
  refine lv_aload_n hx hb dX11_earnest_5 rfl (lv_at hl 0 rfl) ?_
  refine lv_iload_n hx hb dX11_earnest_6 rfl (lv_at hl 1 rfl) ?_
  refine lv_iload_n hx hb dX11_earnest_7 rfl (lv_at hl 2 rfl) ?_
  refine he_ci (wc := []) (wr := ([(oX11 m0 0 ta sz_ pl at_ fa fw cs fd rfm rt_ to_ rw_ wa ct rk rb cn br sm as_ go sh_ ir oa ob th ig sp_ ki tg of_ kp sf rs), (aI g to_ 25 tl), (aM g wa 6 (he_ro 6 r2))] ++ (he_pl g L ln M))) (va_runS (As := [.int (nI a), .int (nI d)]) (rest := [.ref m0]) ⟨hx, hb, hml, hown, hts⟩ (c_X11_areTens1 l g (nI a) (nI d) (fun h9 => absurd (he_within_in (k := a) (a := 0) (b := 6) (a0 := 0) (B := 6) rfl rfl (by omega) (by omega) (by decide)) (by rw [h9]; decide)) (fun h9 => absurd (he_within_in (k := d) (a := 0) (b := 6) (a0 := 0) (B := 6) rfl rfl (by omega) (by omega) (by decide)) (by rw [h9]; decide)) H.size) (va_cwS 2 hts gX11_earnest_X11_areTens rfl rfl rfl (by decide +kernel) ⟨Nat.le_of_ble_eq_true rfl, Nat.le_of_ble_eq_true rfl⟩) (he_preS (wc := []) hK hP hD hS hA hE [] rfl rfl) rfl rfl hl.1 rfl (lv_room (Nat.le_of_ble_eq_true rfl)) dX11_earnest_8 ⟨(Nat.le_of_ble_eq_true rfl), (Nat.le_of_ble_eq_true rfl)⟩) hP hD hS hA [] (he_is [0, 1, 2] [(oX11 m0 0 ta sz_ pl at_ fa fw cs fd rfm rt_ to_ rw_ wa ct rk rb cn br sm as_ go sh_ ir oa ob th ig sp_ ki tg of_ kp sf rs), (aI g to_ 25 tl), (aM g wa 6 (he_ro 6 r2))] (he_pl g L ln M)) rfl (he_ixP rfl) (he_ndP rfl rfl) (he_disN (by decide) rfl) (fun r_1 u_2 H locs h_3 hP hD hS => ?_)
  have hP := va_P.swap hP
  have hD := va_D.swap hD
  subst h_3
  have hP : va_P g.1 vwCl ([(oX11 m0 0 ta sz_ pl at_ fa fw cs fd rfm rt_ to_ rw_ wa ct rk rb cn br sm as_ go sh_ ir oa ob th ig sp_ ki tg of_ kp sf rs), (aI g to_ 25 tl), (aM g wa 6 (he_ro 6 r2))] ++ he_pl g L ln M) H := hP
  have hD : va_D A ([(oX11 m0 0 ta sz_ pl at_ fa fw cs fd rfm rt_ to_ rw_ wa ct rk rb cn br sm as_ go sh_ ir oa ob th ig sp_ ki tg of_ kp sf rs), (aI g to_ 25 tl), (aM g wa 6 (he_ro 6 r2))] ++ he_pl g L ln M) := hD
  refine lv_if_eq (tgt := 23) hx hb dX11_earnest_11 (by decide) (fun c_4 => ?_) (fun c_4 => ?_)
  · exact absurd c_4 (by decide)
  · refine lv_iload_n hx hb dX11_earnest_14 rfl (lv_at hl 3 rfl) ?_
    refine lv_iconst (v := 0) hx hb dX11_earnest_15 (by decide) ?_
    refine lv_iconst (v := 1) hx hb dX11_earnest_16 (by decide) ?_
    refine he_ci (wc := []) (wr := ([(oX11 m0 0 ta sz_ pl at_ fa fw cs fd rfm rt_ to_ rw_ wa ct rk rb cn br sm as_ go sh_ ir oa ob th ig sp_ ki tg of_ kp sf rs), (aI g to_ 25 tl), (aM g wa 6 (he_ro 6 r2))] ++ (he_pl g L ln M))) (va_runS (As := [.int 1, .int 0, .int 1]) (rest := [.ref m0]) ⟨hx, hb, hml, hown, hts⟩ (c_X11_in l g 1 0 1 H.size) (va_cwS 3 hts gX11_earnest_X11_in rfl rfl rfl (by decide +kernel) ⟨Nat.le_of_ble_eq_true rfl, Nat.le_of_ble_eq_true rfl⟩) (he_preS (wc := []) hK hP hD hS hA hE [] rfl rfl) rfl rfl hl.1 rfl (lv_room (Nat.le_of_ble_eq_true rfl)) dX11_earnest_17 ⟨(Nat.le_of_ble_eq_true rfl), (Nat.le_of_ble_eq_true rfl)⟩) hP hD hS hA [] (he_is [0, 1, 2] [(oX11 m0 0 ta sz_ pl at_ fa fw cs fd rfm rt_ to_ rw_ wa ct rk rb cn br sm as_ go sh_ ir oa ob th ig sp_ ki tg of_ kp sf rs), (aI g to_ 25 tl), (aM g wa 6 (he_ro 6 r2))] (he_pl g L ln M)) rfl (he_ixP rfl) (he_ndP rfl rfl) (he_disN (by decide) rfl) (fun r_5 u_6 H locs h_7 hP hD hS => ?_)
    have hP := va_P.swap hP
    have hD := va_D.swap hD
    subst h_7
    have hP : va_P g.1 vwCl ([(oX11 m0 0 ta sz_ pl at_ fa fw cs fd rfm rt_ to_ rw_ wa ct rk rb cn br sm as_ go sh_ ir oa ob th ig sp_ ki tg of_ kp sf rs), (aI g to_ 25 tl), (aM g wa 6 (he_ro 6 r2))] ++ he_pl g L ln M) H := hP
    have hD : va_D A ([(oX11 m0 0 ta sz_ pl at_ fa fw cs fd rfm rt_ to_ rw_ wa ct rk rb cn br sm as_ go sh_ ir oa ob th ig sp_ ki tg of_ kp sf rs), (aI g to_ 25 tl), (aM g wa 6 (he_ro 6 r2))] ++ he_pl g L ln M) := hD
    refine he_top (1) (by decide) ?_
    refine lv_if_ne (tgt := 27) hx hb dX11_earnest_20 (by decide) (fun c_8 => ?_) (fun c_8 => ?_)
    · refine lv_iconst (v := 0) hx hb dX11_earnest_27 (by decide) ?_
      refine lv_iconst (v := 1) hx hb dX11_earnest_28 (by decide) ?_
      refine lv_iconst (v := 2) hx hb dX11_earnest_29 (by decide) ?_
      refine he_ci (wc := [(oX11 m0 0 ta sz_ pl at_ fa fw cs fd rfm rt_ to_ rw_ wa ct rk rb cn br sm as_ go sh_ ir oa ob th ig sp_ ki tg of_ kp sf rs)]) (wr := ([(aI g to_ 25 tl), (aM g wa 6 (he_ro 6 r2))] ++ (he_pl g L ln M))) (va_runV (As := [.int 0, .int 1, .int 2]) (rest := []) ⟨hx, hb, hml, hown, hts⟩ (c_X11_bad0 l g m0 fd rfm rt_ to_ rw_ wa rk rb cn br sm as_ go sh_ ki tg of_ kp rs ta sz_ pl at_ fa fw cs ct ir oa ob th ig sp_ sf 1 2 H.size) (cwV 3 hts gX11_earnest_X11_bad rfl rfl rfl (by decide +kernel) ⟨Nat.le_of_ble_eq_true rfl, Nat.le_of_ble_eq_true rfl⟩) (he_preV (wc := [(oX11 m0 0 ta sz_ pl at_ fa fw cs fd rfm rt_ to_ rw_ wa ct rk rb cn br sm as_ go sh_ ir oa ob th ig sp_ ki tg of_ kp sf rs)]) hK hP hD hS hA hE [0] rfl rfl 0 rfl rfl) rfl rfl hl.1 rfl (lv_room (Nat.le_of_ble_eq_true rfl)) dX11_earnest_30 ⟨(Nat.le_of_ble_eq_true rfl), (Nat.le_of_ble_eq_true rfl)⟩) hP hD hS hA [0] (he_is [1, 2] [(oX11 m0 0 ta sz_ pl at_ fa fw cs fd rfm rt_ to_ rw_ wa ct rk rb cn br sm as_ go sh_ ir oa ob th ig sp_ ki tg of_ kp sf rs), (aI g to_ 25 tl), (aM g wa 6 (he_ro 6 r2))] (he_pl g L ln M)) rfl (he_ixP rfl) (he_ndP rfl rfl) (he_disN (by decide) rfl) (fun r_9 u_10 H locs h_11 hP hD hS => ?_)
      have hP := va_P.swap hP
      have hD := va_D.swap hD
      subst h_11
      have hP : va_P g.1 vwCl ([(aI g to_ 25 tl), (aM g wa 6 (he_ro 6 r2)), (oX11 m0 0 ta sz_ pl at_ fa fw cs fd rfm rt_ to_ rw_ wa ct rk rb cn br sm as_ go sh_ ir oa ob th ig sp_ ki tg of_ kp sf rs)] ++ he_pl g L ln M) H := hP
      have hD : va_D A ([(aI g to_ 25 tl), (aM g wa 6 (he_ro 6 r2)), (oX11 m0 0 ta sz_ pl at_ fa fw cs fd rfm rt_ to_ rw_ wa ct rk rb cn br sm as_ go sh_ ir oa ob th ig sp_ ki tg of_ kp sf rs)] ++ he_pl g L ln M) := hD
      refine lv_if_eq (tgt := 38) hx hb dX11_earnest_33 (by decide) (fun c_12 => ?_) (fun c_12 => ?_)
      · refine lv_iload_n hx hb dX11_earnest_38 rfl (lv_at hl 3 rfl) ?_
        refine lv_if_ne (tgt := 55) hx hb dX11_earnest_39 (by decide) (fun c_13 => ?_) (fun c_13 => ?_)
        · refine lv_aload_n hx hb dX11_earnest_55 rfl (lv_at hl 0 rfl) ?_
          refine lv_iload_n hx hb dX11_earnest_56 rfl (lv_at hl 1 rfl) ?_
          refine lv_iload_n hx hb dX11_earnest_57 rfl (lv_at hl 2 rfl) ?_
          refine lv_aload_n hx hb dX11_earnest_58 rfl (lv_at hl 0 rfl) ?_
          refine he_ci (wc := [(oX11 m0 0 ta sz_ pl at_ fa fw cs fd rfm rt_ to_ rw_ wa ct rk rb cn br sm as_ go sh_ ir oa ob th ig sp_ ki tg of_ kp sf rs), (aI g to_ 25 tl)]) (wr := ([(aM g wa 6 (he_ro 6 r2))] ++ (he_pl g L ln M))) (va_runV (As := []) (rest := [.int (nI d), .int (nI a), .ref m0]) ⟨hx, hb, hml, hown, hts⟩ (r_X11_firstWalls l g m0 fd rfm rt_ to_ rw_ wa rk rb cn br sm as_ go sh_ ki tg of_ kp rs ta sz_ pl at_ fa fw cs ct ir oa ob th ig sp_ sf 0 tl w v (by first | assumption | decide | omega) (by first | assumption | decide | omega) (by first | assumption | decide | omega) (by first | assumption | decide | omega) H.size) (cwV 0 hts gX11_earnest_X11_firstWalls rfl rfl rfl (by decide +kernel) ⟨Nat.le_of_ble_eq_true rfl, Nat.le_of_ble_eq_true rfl⟩) (he_preV (wc := [(oX11 m0 0 ta sz_ pl at_ fa fw cs fd rfm rt_ to_ rw_ wa ct rk rb cn br sm as_ go sh_ ir oa ob th ig sp_ ki tg of_ kp sf rs), (aI g to_ 25 tl)]) hK hP hD hS hA hE [2, 0] rfl rfl 2 rfl rfl) rfl rfl hl.1 rfl (lv_room (Nat.le_of_ble_eq_true rfl)) dX11_earnest_59 ⟨(Nat.le_of_ble_eq_true rfl), (Nat.le_of_ble_eq_true rfl)⟩) hP hD hS hA [2, 0] (he_is [1] [(aI g to_ 25 tl), (aM g wa 6 (he_ro 6 r2)), (oX11 m0 0 ta sz_ pl at_ fa fw cs fd rfm rt_ to_ rw_ wa ct rk rb cn br sm as_ go sh_ ir oa ob th ig sp_ ki tg of_ kp sf rs)] (he_pl g L ln M)) rfl (he_ixP rfl) (he_ndP rfl rfl) (he_disN (by decide) rfl) (fun r_14 u_15 H locs h_16 hP hD hS => ?_)
          have hP := va_P.swap hP
          have hD := va_D.swap hD
          subst h_16
          have hP : va_P g.1 vwCl ([(aM g wa 6 (he_ro 6 r2)), (oX11 m0 0 ta sz_ pl at_ fa fw cs fd rfm rt_ to_ rw_ wa ct rk rb cn br sm as_ go sh_ ir oa ob th ig sp_ ki tg of_ kp sf rs), (aI g to_ 25 tl)] ++ he_pl g L ln M) H := hP
          have hD : va_D A ([(aM g wa 6 (he_ro 6 r2)), (oX11 m0 0 ta sz_ pl at_ fa fw cs fd rfm rt_ to_ rw_ wa ct rk rb cn br sm as_ go sh_ ir oa ob th ig sp_ ki tg of_ kp sf rs), (aI g to_ 25 tl)] ++ he_pl g L ln M) := hD
          refine he_ci (wc := ([(oX11 m0 0 ta sz_ pl at_ fa fw cs fd rfm rt_ to_ rw_ wa ct rk rb cn br sm as_ go sh_ ir oa ob th ig sp_ ki tg of_ kp sf rs), (aM g wa 6 (he_ro 6 r2))] ++ (he_pl g L ln M))) (wr := [(aI g to_ 25 tl)]) (va_runV (As := [.int (nI a), .int (nI d), .int (nI (allN v))]) (rest := []) ⟨hx, hb, hml, hown, hts⟩ (r_X11_sureBy l g m0 fd rfm rt_ to_ rw_ wa rk rb cn br sm as_ go sh_ ki tg of_ kp rs ta sz_ pl at_ fa fw cs ct ir oa ob th ig sp_ sf 0 L ln M r2 a d (allN v) Wr (by first | assumption | decide | omega) (by omega) (by first | assumption | decide | omega) (by first | assumption | decide | omega) (by first | assumption | decide | omega) (by first | assumption | decide | omega) H.size) (cwV 3 hts gX11_earnest_X11_sureBy rfl rfl rfl (by decide +kernel) ⟨Nat.le_of_ble_eq_true rfl, Nat.le_of_ble_eq_true rfl⟩) (he_preV (wc := ([(oX11 m0 0 ta sz_ pl at_ fa fw cs fd rfm rt_ to_ rw_ wa ct rk rb cn br sm as_ go sh_ ir oa ob th ig sp_ ki tg of_ kp sf rs), (aM g wa 6 (he_ro 6 r2))] ++ (he_pl g L ln M))) hK hP hD hS hA hE (he_is [1, 0] [(aM g wa 6 (he_ro 6 r2)), (oX11 m0 0 ta sz_ pl at_ fa fw cs fd rfm rt_ to_ rw_ wa ct rk rb cn br sm as_ go sh_ ir oa ob th ig sp_ ki tg of_ kp sf rs), (aI g to_ 25 tl)] (he_pl g L ln M)) (he_ixP rfl) (he_ndP rfl rfl) 1 rfl rfl) rfl rfl hl.1 rfl (lv_room (Nat.le_of_ble_eq_true rfl)) dX11_earnest_62 ⟨(Nat.le_of_ble_eq_true rfl), (Nat.le_of_ble_eq_true rfl)⟩) hP hD hS hA (he_is [1, 0] [(aM g wa 6 (he_ro 6 r2)), (oX11 m0 0 ta sz_ pl at_ fa fw cs fd rfm rt_ to_ rw_ wa ct rk rb cn br sm as_ go sh_ ir oa ob th ig sp_ ki tg of_ kp sf rs), (aI g to_ 25 tl)] (he_pl g L ln M)) [2] (he_ixP rfl) rfl rfl (he_disP (by decide) rfl) (fun r_17 u_18 H locs h_19 hP hD hS => ?_)
          subst h_19
          have hP : va_P g.1 vwCl ([(aI g to_ 25 tl), (oX11 m0 0 ta sz_ pl at_ fa fw cs fd rfm rt_ to_ rw_ wa ct rk rb cn br sm as_ go sh_ ir oa ob th ig sp_ ki tg of_ kp sf rs), (aM g wa 6 (he_ro 6 r2))] ++ he_pl g L ln M) H := hP
          have hD : va_D A ([(aI g to_ 25 tl), (oX11 m0 0 ta sz_ pl at_ fa fw cs fd rfm rt_ to_ rw_ wa ct rk rb cn br sm as_ go sh_ ir oa ob th ig sp_ ki tg of_ kp sf rs), (aM g wa 6 (he_ro 6 r2))] ++ he_pl g L ln M) := hD
          have hP := he_Psub (X := [(aI g to_ 25 tl), (oX11 m0 0 ta sz_ pl at_ fa fw cs fd rfm rt_ to_ rw_ wa ct rk rb cn br sm as_ go sh_ ir oa ob th ig sp_ ki tg of_ kp sf rs), (aM g wa 6 (he_ro 6 r2))]) (X2 := [(oX11 m0 0 ta sz_ pl at_ fa fw cs fd rfm rt_ to_ rw_ wa ct rk rb cn br sm as_ go sh_ ir oa ob th ig sp_ ki tg of_ kp sf rs), (aI g to_ 25 tl), (aM g wa 6 (he_ro 6 r2))]) (P := (he_pl g L ln M)) hP [1, 0, 2] rfl
          have hD := he_Dsub (X := [(aI g to_ 25 tl), (oX11 m0 0 ta sz_ pl at_ fa fw cs fd rfm rt_ to_ rw_ wa ct rk rb cn br sm as_ go sh_ ir oa ob th ig sp_ ki tg of_ kp sf rs), (aM g wa 6 (he_ro 6 r2))]) (X2 := [(oX11 m0 0 ta sz_ pl at_ fa fw cs fd rfm rt_ to_ rw_ wa ct rk rb cn br sm as_ go sh_ ir oa ob th ig sp_ ki tg of_ kp sf rs), (aI g to_ 25 tl), (aM g wa 6 (he_ro 6 r2))]) (P := (he_pl g L ln M)) hD [1, 0, 2] rfl rfl rfl
          exact he_ri hQ hx hb hr hlk hP hD hS dX11_earnest_65 (Nat.le_of_ble_eq_true rfl) (Nat.le_of_ble_eq_true rfl) (sf) (rfl) (rfl)
        · exact absurd c_13 (by decide)
      · exact absurd (by decide) c_12
    · exact absurd c_8 (by decide)
set_option maxHeartbeats 4000000 in
set_option maxRecDepth 100000 in
theorem r_X11_stands (l : Launch) (g : he_G) (m0 : Nat) (fd : Nat) (rfm : Nat) (rt_ : Nat) (to_ : Nat) (rw_ : Nat) (wa : Nat) (rk : Nat) (rb : Nat) (cn : Nat) (br : Nat) (sm : Nat) (as_ : Nat) (go : Nat) (sh_ : Nat) (ki : Nat) (tg : Nat) (of_ : Nat) (kp : Nat) (rs : Nat) (ta : Int32) (sz_ : Int32) (pl : Int32) (at_ : Int32) (fa : Int32) (fw : Int32) (cs : Int32) (ct : Int32) (ir : Int32) (oa : Int32) (ob : Int32) (th : Int32) (ig : Int32) (sp_ : Int32) (sf : Int32) (tw : Int32) (tl : Nat → Int32) (w : Nat) (v : Nat) (L : List Nat) (ln : Nat → Nat) (M : Nat → Nat → Int32) (r2 : Nat → Nat) (a : Nat) (d : Nat) (Wr : Nat → Nat) (htl : tl 0 = nI w) (hw6 : w ≤ 6) (hv : v = if 3 < w then 3 else w) (hv3 : v ≤ 3) (F_r2 : ∀ i, i < 6 → r2 i ∈ L ∧ ln (r2 i) = 2 ∧ True) (ha6 : a ≤ 6) (hd6 : d ≤ 6) (hWm : ∀ k, k < 3 → bt (allN v) k = true → M (r2 k) 0 = nI (Wr k)) (hW9 : ∀ k, Wr k ≤ 99) : he_I l yX11_stands wsX11_stands 3 73 0 0 g [.ref m0, .int (nI a), .int (nI d)] ([(oX11 m0 tw ta sz_ pl at_ fa fw cs fd rfm rt_ to_ rw_ wa ct rk rb cn br sm as_ go sh_ ir oa ob th ig sp_ ki tg of_ kp sf rs), (aI g to_ 25 tl), (aM g wa 6 (he_ro 6 r2))] ++ he_pl g L ln M) (fun (r : Int32) (u : Int32) => r = nI (dsN (dgt (roN (foC Wr (allN v) a d))) v)) (fun (u : Int32) => [(oX11 m0 0 ta sz_ pl at_ fa fw cs fd rfm rt_ to_ rw_ wa ct rk rb cn br sm as_ go sh_ ir oa ob th ig sp_ ki tg of_ kp u rs), (aI g to_ 25 tl), (aM g wa 6 (he_ro 6 r2))] ++ he_pl g L ln M) := by
  refine he_begin (l := l) (g := g) (y := yX11_stands) (wl := wsX11_stands) (fr := 3) (lo := 73) (mc := 0) (ms := 0) (av := [.ref m0, .int (nI a), .int (nI d)]) (ws := ([(oX11 m0 tw ta sz_ pl at_ fa fw cs fd rfm rt_ to_ rw_ wa ct rk rb cn br sm as_ go sh_ ir oa ob th ig sp_ ki tg of_ kp sf rs), (aI g to_ 25 tl), (aM g wa 6 (he_ro 6 r2))] ++ he_pl g L ln M)) (cc := cX11_stands) (maxL := 5) (ret := (some .int)) (fun A => va_Qi (fun (r : Int32) (u : Int32) => r = nI (dsN (dgt (roN (foC Wr (allN v) a d))) v)) (fun u t => he_post g A ((fun (u : Int32) => [(oX11 m0 0 ta sz_ pl at_ fa fw cs fd rfm rt_ to_ rw_ wa ct rk rb cn br sm as_ go sh_ ir oa ob th ig sp_ ki tg of_ kp u rs), (aI g to_ 25 tl), (aM g wa 6 (he_ro 6 r2))] ++ he_pl g L ln M) u) t) A) (by decide) rfl (Nat.le_of_ble_eq_true rfl) ?_
  intro p e s m args below meth c A ls H locs Q hQ hB
  obtain ⟨hx, hb, hr, hml, hown, hts, hlk, hin, hP, hK, hD, hS, hA, hE, hl⟩ := hB
  have hl : lv_has ls 5 [(0, .ref m0), (1, .int (nI a)), (2, .int (nI d))] := hl
  have h79 := all_7 hv3
  have f85 := hts (.fieldLink RX11 85 "HiredEnemyModel" "thrown" "I") (iwoX11_stands (k := 0) rfl)
  have inX11 : ∀ w ∈ wsX110, w ∈ wsX11_stands := innX11_stands_X11
  have f23 := hts (.fieldLink RX11 23 "HiredEnemyModel" "told" "[I") (iwoX11_stands (k := 1) rfl)
  have f244 := hts (.fieldLink RX11 244 "HiredEnemyModel" "safeRow" "I") (iwoX11_stands (k := 2) rfl)
  refine lv_aload_n hx hb dX11_stands_0 rfl (lv_at hl 0 rfl) ?_
  refine lv_iconst (v := 0) hx hb dX11_stands_1 (by decide) ?_
  refine va_put (v := .int 0) (ty := .int) (T := TX11) (N := 35) hx hb hts inX11 tyX11 tyX11_ok nmX11 hown hK hP hD hS 0 rfl rfl 0 (by decide) f85 (fun _ h9 => h9) rfl (by decide +kernel) rfl rfl (Nat.le_of_ble_eq_true rfl) dX11_stands_2 (fun H locs hP hD hS => ?_)
  have hP : va_P g.1 vwCl ([(oX11 m0 0 ta sz_ pl at_ fa fw cs fd rfm rt_ to_ rw_ wa ct rk rb cn br sm as_ go sh_ ir oa ob th ig sp_ ki tg of_ kp sf rs), (aI g to_ 25 tl), (aM g wa 6 (he_ro 6 r2))] ++ he_pl g L ln M) H := hP
  have hD : va_D A ([(oX11 m0 0 ta sz_ pl at_ fa fw cs fd rfm rt_ to_ rw_ wa ct rk rb cn br sm as_ go sh_ ir oa ob th ig sp_ ki tg of_ kp sf rs), (aI g to_ 25 tl), (aM g wa 6 (he_ro 6 r2))] ++ he_pl g L ln M) := hD
  refine lv_aload_n hx hb dX11_stands_5 rfl (lv_at hl 0 rfl) ?_
  refine lv_iload_n hx hb dX11_stands_6 rfl (lv_at hl 1 rfl) ?_
  refine lv_iload_n hx hb dX11_stands_7 rfl (lv_at hl 2 rfl) ?_
  refine he_ci (wc := []) (wr := ([(oX11 m0 0 ta sz_ pl at_ fa fw cs fd rfm rt_ to_ rw_ wa ct rk rb cn br sm as_ go sh_ ir oa ob th ig sp_ ki tg of_ kp sf rs), (aI g to_ 25 tl), (aM g wa 6 (he_ro 6 r2))] ++ (he_pl g L ln M))) (va_runS (As := [.int (nI a), .int (nI d)]) (rest := [.ref m0]) ⟨hx, hb, hml, hown, hts⟩ (c_X11_areTens1 l g (nI a) (nI d) (fun h9 => absurd (he_within_in (k := a) (a := 0) (b := 6) (a0 := 0) (B := 6) rfl rfl (by omega) (by omega) (by decide)) (by rw [h9]; decide)) (fun h9 => absurd (he_within_in (k := d) (a := 0) (b := 6) (a0 := 0) (B := 6) rfl rfl (by omega) (by omega) (by decide)) (by rw [h9]; decide)) H.size) (va_cwS 2 hts gX11_stands_X11_areTens rfl rfl rfl (by decide +kernel) ⟨Nat.le_of_ble_eq_true rfl, Nat.le_of_ble_eq_true rfl⟩) (he_preS (wc := []) hK hP hD hS hA hE [] rfl rfl) rfl rfl hl.1 rfl (lv_room (Nat.le_of_ble_eq_true rfl)) dX11_stands_8 ⟨(Nat.le_of_ble_eq_true rfl), (Nat.le_of_ble_eq_true rfl)⟩) hP hD hS hA [] (he_is [0, 1, 2] [(oX11 m0 0 ta sz_ pl at_ fa fw cs fd rfm rt_ to_ rw_ wa ct rk rb cn br sm as_ go sh_ ir oa ob th ig sp_ ki tg of_ kp sf rs), (aI g to_ 25 tl), (aM g wa 6 (he_ro 6 r2))] (he_pl g L ln M)) rfl (he_ixP rfl) (he_ndP rfl rfl) (he_disN (by decide) rfl) (fun r_1 u_2 H locs h_3 hP hD hS => ?_)
  have hP := va_P.swap hP
  have hD := va_D.swap hD
  subst h_3
  have hP : va_P g.1 vwCl ([(oX11 m0 0 ta sz_ pl at_ fa fw cs fd rfm rt_ to_ rw_ wa ct rk rb cn br sm as_ go sh_ ir oa ob th ig sp_ ki tg of_ kp sf rs), (aI g to_ 25 tl), (aM g wa 6 (he_ro 6 r2))] ++ he_pl g L ln M) H := hP
  have hD : va_D A ([(oX11 m0 0 ta sz_ pl at_ fa fw cs fd rfm rt_ to_ rw_ wa ct rk rb cn br sm as_ go sh_ ir oa ob th ig sp_ ki tg of_ kp sf rs), (aI g to_ 25 tl), (aM g wa 6 (he_ro 6 r2))] ++ he_pl g L ln M) := hD
  refine lv_if_ne (tgt := 18) hx hb dX11_stands_11 (by decide) (fun c_4 => ?_) (fun c_4 => ?_)
  · refine lv_iconst (v := 0) hx hb dX11_stands_18 (by decide) ?_
    refine lv_iconst (v := 1) hx hb dX11_stands_19 (by decide) ?_
    refine lv_iconst (v := 2) hx hb dX11_stands_20 (by decide) ?_
    refine he_ci (wc := [(oX11 m0 0 ta sz_ pl at_ fa fw cs fd rfm rt_ to_ rw_ wa ct rk rb cn br sm as_ go sh_ ir oa ob th ig sp_ ki tg of_ kp sf rs)]) (wr := ([(aI g to_ 25 tl), (aM g wa 6 (he_ro 6 r2))] ++ (he_pl g L ln M))) (va_runV (As := [.int 0, .int 1, .int 2]) (rest := []) ⟨hx, hb, hml, hown, hts⟩ (c_X11_bad0 l g m0 fd rfm rt_ to_ rw_ wa rk rb cn br sm as_ go sh_ ki tg of_ kp rs ta sz_ pl at_ fa fw cs ct ir oa ob th ig sp_ sf 1 2 H.size) (cwV 3 hts gX11_stands_X11_bad rfl rfl rfl (by decide +kernel) ⟨Nat.le_of_ble_eq_true rfl, Nat.le_of_ble_eq_true rfl⟩) (he_preV (wc := [(oX11 m0 0 ta sz_ pl at_ fa fw cs fd rfm rt_ to_ rw_ wa ct rk rb cn br sm as_ go sh_ ir oa ob th ig sp_ ki tg of_ kp sf rs)]) hK hP hD hS hA hE [0] rfl rfl 0 rfl rfl) rfl rfl hl.1 rfl (lv_room (Nat.le_of_ble_eq_true rfl)) dX11_stands_21 ⟨(Nat.le_of_ble_eq_true rfl), (Nat.le_of_ble_eq_true rfl)⟩) hP hD hS hA [0] (he_is [1, 2] [(oX11 m0 0 ta sz_ pl at_ fa fw cs fd rfm rt_ to_ rw_ wa ct rk rb cn br sm as_ go sh_ ir oa ob th ig sp_ ki tg of_ kp sf rs), (aI g to_ 25 tl), (aM g wa 6 (he_ro 6 r2))] (he_pl g L ln M)) rfl (he_ixP rfl) (he_ndP rfl rfl) (he_disN (by decide) rfl) (fun r_5 u_6 H locs h_7 hP hD hS => ?_)
    have hP := va_P.swap hP
    have hD := va_D.swap hD
    subst h_7
    have hP : va_P g.1 vwCl ([(aI g to_ 25 tl), (aM g wa 6 (he_ro 6 r2)), (oX11 m0 0 ta sz_ pl at_ fa fw cs fd rfm rt_ to_ rw_ wa ct rk rb cn br sm as_ go sh_ ir oa ob th ig sp_ ki tg of_ kp sf rs)] ++ he_pl g L ln M) H := hP
    have hD : va_D A ([(aI g to_ 25 tl), (aM g wa 6 (he_ro 6 r2)), (oX11 m0 0 ta sz_ pl at_ fa fw cs fd rfm rt_ to_ rw_ wa ct rk rb cn br sm as_ go sh_ ir oa ob th ig sp_ ki tg of_ kp sf rs)] ++ he_pl g L ln M) := hD
    refine lv_if_eq (tgt := 29) hx hb dX11_stands_24 (by decide) (fun c_8 => ?_) (fun c_8 => ?_)
    · refine lv_aload_n hx hb dX11_stands_29 rfl (lv_at hl 0 rfl) ?_
      refine lv_iload_n hx hb dX11_stands_30 rfl (lv_at hl 1 rfl) ?_
      refine lv_iload_n hx hb dX11_stands_31 rfl (lv_at hl 2 rfl) ?_
      refine lv_aload_n hx hb dX11_stands_32 rfl (lv_at hl 0 rfl) ?_
      refine he_ci (wc := [(oX11 m0 0 ta sz_ pl at_ fa fw cs fd rfm rt_ to_ rw_ wa ct rk rb cn br sm as_ go sh_ ir oa ob th ig sp_ ki tg of_ kp sf rs), (aI g to_ 25 tl)]) (wr := ([(aM g wa 6 (he_ro 6 r2))] ++ (he_pl g L ln M))) (va_runV (As := []) (rest := [.int (nI d), .int (nI a), .ref m0]) ⟨hx, hb, hml, hown, hts⟩ (r_X11_firstWalls l g m0 fd rfm rt_ to_ rw_ wa rk rb cn br sm as_ go sh_ ki tg of_ kp rs ta sz_ pl at_ fa fw cs ct ir oa ob th ig sp_ sf 0 tl w v (by first | assumption | decide | omega) (by first | assumption | decide | omega) (by first | assumption | decide | omega) (by first | assumption | decide | omega) H.size) (cwV 0 hts gX11_stands_X11_firstWalls rfl rfl rfl (by decide +kernel) ⟨Nat.le_of_ble_eq_true rfl, Nat.le_of_ble_eq_true rfl⟩) (he_preV (wc := [(oX11 m0 0 ta sz_ pl at_ fa fw cs fd rfm rt_ to_ rw_ wa ct rk rb cn br sm as_ go sh_ ir oa ob th ig sp_ ki tg of_ kp sf rs), (aI g to_ 25 tl)]) hK hP hD hS hA hE [2, 0] rfl rfl 2 rfl rfl) rfl rfl hl.1 rfl (lv_room (Nat.le_of_ble_eq_true rfl)) dX11_stands_33 ⟨(Nat.le_of_ble_eq_true rfl), (Nat.le_of_ble_eq_true rfl)⟩) hP hD hS hA [2, 0] (he_is [1] [(aI g to_ 25 tl), (aM g wa 6 (he_ro 6 r2)), (oX11 m0 0 ta sz_ pl at_ fa fw cs fd rfm rt_ to_ rw_ wa ct rk rb cn br sm as_ go sh_ ir oa ob th ig sp_ ki tg of_ kp sf rs)] (he_pl g L ln M)) rfl (he_ixP rfl) (he_ndP rfl rfl) (he_disN (by decide) rfl) (fun r_9 u_10 H locs h_11 hP hD hS => ?_)
      have hP := va_P.swap hP
      have hD := va_D.swap hD
      subst h_11
      have hP : va_P g.1 vwCl ([(aM g wa 6 (he_ro 6 r2)), (oX11 m0 0 ta sz_ pl at_ fa fw cs fd rfm rt_ to_ rw_ wa ct rk rb cn br sm as_ go sh_ ir oa ob th ig sp_ ki tg of_ kp sf rs), (aI g to_ 25 tl)] ++ he_pl g L ln M) H := hP
      have hD : va_D A ([(aM g wa 6 (he_ro 6 r2)), (oX11 m0 0 ta sz_ pl at_ fa fw cs fd rfm rt_ to_ rw_ wa ct rk rb cn br sm as_ go sh_ ir oa ob th ig sp_ ki tg of_ kp sf rs), (aI g to_ 25 tl)] ++ he_pl g L ln M) := hD
      refine he_ci (wc := ([(oX11 m0 0 ta sz_ pl at_ fa fw cs fd rfm rt_ to_ rw_ wa ct rk rb cn br sm as_ go sh_ ir oa ob th ig sp_ ki tg of_ kp sf rs), (aM g wa 6 (he_ro 6 r2))] ++ (he_pl g L ln M))) (wr := [(aI g to_ 25 tl)]) (va_runV (As := [.int (nI a), .int (nI d), .int (nI (allN v))]) (rest := []) ⟨hx, hb, hml, hown, hts⟩ (r_X11_safeBy l g m0 fd rfm rt_ to_ rw_ wa rk rb cn br sm as_ go sh_ ki tg of_ kp rs ta sz_ pl at_ fa fw cs ct ir oa ob th ig sp_ sf 0 L ln M r2 a d (allN v) Wr (by first | assumption | decide | omega) (by omega) (by first | assumption | decide | omega) (by first | assumption | decide | omega) (by first | assumption | decide | omega) (by first | assumption | decide | omega) H.size) (cwV 3 hts gX11_stands_X11_safeBy rfl rfl rfl (by decide +kernel) ⟨Nat.le_of_ble_eq_true rfl, Nat.le_of_ble_eq_true rfl⟩) (he_preV (wc := ([(oX11 m0 0 ta sz_ pl at_ fa fw cs fd rfm rt_ to_ rw_ wa ct rk rb cn br sm as_ go sh_ ir oa ob th ig sp_ ki tg of_ kp sf rs), (aM g wa 6 (he_ro 6 r2))] ++ (he_pl g L ln M))) hK hP hD hS hA hE (he_is [1, 0] [(aM g wa 6 (he_ro 6 r2)), (oX11 m0 0 ta sz_ pl at_ fa fw cs fd rfm rt_ to_ rw_ wa ct rk rb cn br sm as_ go sh_ ir oa ob th ig sp_ ki tg of_ kp sf rs), (aI g to_ 25 tl)] (he_pl g L ln M)) (he_ixP rfl) (he_ndP rfl rfl) 1 rfl rfl) rfl rfl hl.1 rfl (lv_room (Nat.le_of_ble_eq_true rfl)) dX11_stands_36 ⟨(Nat.le_of_ble_eq_true rfl), (Nat.le_of_ble_eq_true rfl)⟩) hP hD hS hA (he_is [1, 0] [(aM g wa 6 (he_ro 6 r2)), (oX11 m0 0 ta sz_ pl at_ fa fw cs fd rfm rt_ to_ rw_ wa ct rk rb cn br sm as_ go sh_ ir oa ob th ig sp_ ki tg of_ kp sf rs), (aI g to_ 25 tl)] (he_pl g L ln M)) [2] (he_ixP rfl) rfl rfl (he_disP (by decide) rfl) (fun r_12 u_13 H locs h_14 hP hD hS => ?_)
      obtain ⟨sr_15, rfl⟩ : ∃ z, z = u_13 := ⟨_, rfl⟩
      try dsimp only at h_14
      obtain ⟨rfl, hf_16⟩ := h_14
      have hP : va_P g.1 vwCl ([(aI g to_ 25 tl), (oX11 m0 0 ta sz_ pl at_ fa fw cs fd rfm rt_ to_ rw_ wa ct rk rb cn br sm as_ go sh_ ir oa ob th ig sp_ ki tg of_ kp sr_15 rs), (aM g wa 6 (he_ro 6 r2))] ++ he_pl g L ln M) H := hP
      have hD : va_D A ([(aI g to_ 25 tl), (oX11 m0 0 ta sz_ pl at_ fa fw cs fd rfm rt_ to_ rw_ wa ct rk rb cn br sm as_ go sh_ ir oa ob th ig sp_ ki tg of_ kp sr_15 rs), (aM g wa 6 (he_ro 6 r2))] ++ he_pl g L ln M) := hD
      subst hf_16
      have hP : va_P g.1 vwCl ([(aI g to_ 25 tl), (oX11 m0 0 ta sz_ pl at_ fa fw cs fd rfm rt_ to_ rw_ wa ct rk rb cn br sm as_ go sh_ ir oa ob th ig sp_ ki tg of_ kp (nI (roN (foC Wr (allN v) a d))) rs), (aM g wa 6 (he_ro 6 r2))] ++ he_pl g L ln M) H := hP
      have hD : va_D A ([(aI g to_ 25 tl), (oX11 m0 0 ta sz_ pl at_ fa fw cs fd rfm rt_ to_ rw_ wa ct rk rb cn br sm as_ go sh_ ir oa ob th ig sp_ ki tg of_ kp (nI (roN (foC Wr (allN v) a d))) rs), (aM g wa 6 (he_ro 6 r2))] ++ he_pl g L ln M) := hD
      refine lv_pop hx hb dX11_stands_39 rfl ?_
      refine lv_iconst (v := 0) hx hb dX11_stands_40 (by decide) ?_
      refine lv_istore_n (lv' := [(3, .int 0), (0, .ref m0), (1, .int (nI a)), (2, .int (nI d))]) hx hb dX11_stands_41 rfl hl (by decide) rfl (fun ls hl => ?_)
      refine lv_iconst (v := 0) hx hb dX11_stands_42 (by decide) ?_
      refine lv_istore (lv' := [(4, .int 0), (3, .int 0), (0, .ref m0), (1, .int (nI a)), (2, .int (nI d))]) hx hb dX11_stands_43 hl (by decide) rfl (fun ls hl => ?_)
      have loop45 : ∀ (n9 : Nat) (j : Nat) (ac : Nat), v - j < n9 → (j ≤ v) → (ac = dsN (dgt (roN (foC Wr (allN v) a d))) j) → ∀ (H : Heap) (locs : List Loc) (ls : Array Slot), va_P g.1 vwCl ([(aI g to_ 25 tl), (oX11 m0 0 ta sz_ pl at_ fa fw cs fd rfm rt_ to_ rw_ wa ct rk rb cn br sm as_ go sh_ ir oa ob th ig sp_ ki tg of_ kp (nI (roN (foC Wr (allN v) a d))) rs), (aM g wa 6 (he_ro 6 r2))] ++ he_pl g L ln M) H → va_D A ([(aI g to_ 25 tl), (oX11 m0 0 ta sz_ pl at_ fa fw cs fd rfm rt_ to_ rw_ wa ct rk rb cn br sm as_ go sh_ ir oa ob th ig sp_ ki tg of_ kp (nI (roN (foC Wr (allN v) a d))) rs), (aM g wa 6 (he_ro 6 r2))] ++ he_pl g L ln M) → va_S A s.heap H locs → lv_has ls 5 [(0, .ref m0), (3, .int (nI ac)), (4, .int (nI j))] → W p l e (he_room 3 73 0 0) s m args below meth c H locs 0 0 Q (F0 m 45 ls []) := by
        intro n9
        induction n9 with
        | zero => intro j ac hm9; exact absurd hm9 (Nat.not_lt_zero _)
        | succ n9 ih45 =>
          intro j ac hm9 hj hac H locs ls hP hD hS hl
          refine lv_iload hx hb dX11_stands_45 (lv_at hl 2 rfl) ?_
          refine lv_iconst (v := 3) hx hb dX11_stands_47 (by decide) ?_
          refine lv_aload_n hx hb dX11_stands_48 rfl (lv_at hl 0 rfl) ?_
          refine va_get (v := .ref to_) (T := TX11) (N := 35) hx hb hts inX11 hown hK hP 1 rfl rfl 11 (by decide) f23 (fun _ h9 => h9) rfl dX11_stands_49 ?_
          refine lv_iconst (v := 0) hx hb dX11_stands_52 (by decide) ?_
          refine he_iald hx hb hK hP 0 rfl (0) (by decide) (by decide) (by first | decide | assumption) (nI w) htl dX11_stands_53 ?_
          refine he_ci (wc := []) (wr := ([(aI g to_ 25 tl), (oX11 m0 0 ta sz_ pl at_ fa fw cs fd rfm rt_ to_ rw_ wa ct rk rb cn br sm as_ go sh_ ir oa ob th ig sp_ ki tg of_ kp (nI (roN (foC Wr (allN v) a d))) rs), (aM g wa 6 (he_ro 6 r2))] ++ (he_pl g L ln M))) (va_runS (As := [.int 3, .int (nI w)]) (rest := [.int (nI j)]) ⟨hx, hb, hml, hown, hts⟩ (c_X11_less l g 3 (nI w) H.size) (va_cwS 2 hts gX11_stands_X11_less rfl rfl rfl (by decide +kernel) ⟨Nat.le_of_ble_eq_true rfl, Nat.le_of_ble_eq_true rfl⟩) (he_preS (wc := []) hK hP hD hS hA hE [] rfl rfl) rfl rfl hl.1 rfl (lv_room (Nat.le_of_ble_eq_true rfl)) dX11_stands_54 ⟨(Nat.le_of_ble_eq_true rfl), (Nat.le_of_ble_eq_true rfl)⟩) hP hD hS hA [] (he_is [0, 1, 2] [(aI g to_ 25 tl), (oX11 m0 0 ta sz_ pl at_ fa fw cs fd rfm rt_ to_ rw_ wa ct rk rb cn br sm as_ go sh_ ir oa ob th ig sp_ ki tg of_ kp (nI (roN (foC Wr (allN v) a d))) rs), (aM g wa 6 (he_ro 6 r2))] (he_pl g L ln M)) rfl (he_ixP rfl) (he_ndP rfl rfl) (he_disN (by decide) rfl) (fun r_17 u_18 H locs h_19 hP hD hS => ?_)
          have hP := va_P.swap hP
          have hD := va_D.swap hD
          subst h_19
          have hP : va_P g.1 vwCl ([(aI g to_ 25 tl), (oX11 m0 0 ta sz_ pl at_ fa fw cs fd rfm rt_ to_ rw_ wa ct rk rb cn br sm as_ go sh_ ir oa ob th ig sp_ ki tg of_ kp (nI (roN (foC Wr (allN v) a d))) rs), (aM g wa 6 (he_ro 6 r2))] ++ he_pl g L ln M) H := hP
          have hD : va_D A ([(aI g to_ 25 tl), (oX11 m0 0 ta sz_ pl at_ fa fw cs fd rfm rt_ to_ rw_ wa ct rk rb cn br sm as_ go sh_ ir oa ob th ig sp_ ki tg of_ kp (nI (roN (foC Wr (allN v) a d))) rs), (aM g wa 6 (he_ro 6 r2))] ++ he_pl g L ln M) := hD
          refine he_top (nI v) ((le3 hw6).trans (congrArg nI hv.symm)) ?_
          refine lv_icmp_ge (tgt := 81) hx hb dX11_stands_57 (by decide) (fun c_20 => ?_) (fun c_20 => ?_)
          · have k_21 : v ≤ j := (he_cle (a := v) (b := j) rfl rfl (by omega) (by omega)).mp c_20
            refine lv_iload_n hx hb dX11_stands_81 rfl (lv_at hl 1 rfl) ?_
            have hP := he_Psub (X := [(aI g to_ 25 tl), (oX11 m0 0 ta sz_ pl at_ fa fw cs fd rfm rt_ to_ rw_ wa ct rk rb cn br sm as_ go sh_ ir oa ob th ig sp_ ki tg of_ kp (nI (roN (foC Wr (allN v) a d))) rs), (aM g wa 6 (he_ro 6 r2))]) (X2 := [(oX11 m0 0 ta sz_ pl at_ fa fw cs fd rfm rt_ to_ rw_ wa ct rk rb cn br sm as_ go sh_ ir oa ob th ig sp_ ki tg of_ kp (nI (roN (foC Wr (allN v) a d))) rs), (aI g to_ 25 tl), (aM g wa 6 (he_ro 6 r2))]) (P := (he_pl g L ln M)) hP [1, 0, 2] rfl
            have hD := he_Dsub (X := [(aI g to_ 25 tl), (oX11 m0 0 ta sz_ pl at_ fa fw cs fd rfm rt_ to_ rw_ wa ct rk rb cn br sm as_ go sh_ ir oa ob th ig sp_ ki tg of_ kp (nI (roN (foC Wr (allN v) a d))) rs), (aM g wa 6 (he_ro 6 r2))]) (X2 := [(oX11 m0 0 ta sz_ pl at_ fa fw cs fd rfm rt_ to_ rw_ wa ct rk rb cn br sm as_ go sh_ ir oa ob th ig sp_ ki tg of_ kp (nI (roN (foC Wr (allN v) a d))) rs), (aI g to_ 25 tl), (aM g wa 6 (he_ro 6 r2))]) (P := (he_pl g L ln M)) hD [1, 0, 2] rfl rfl rfl
            exact he_ri hQ hx hb hr hlk hP hD hS dX11_stands_82 (Nat.le_of_ble_eq_true rfl) (Nat.le_of_ble_eq_true rfl) (nI (roN (foC Wr (allN v) a d))) (rfl) ((congrArg nI (by rw [hac, show j = v by omega])))
          · have k_22 : ¬ (v ≤ j) := fun h9 => c_20 ((he_cle (a := v) (b := j) rfl rfl (by omega) (by omega)).mpr h9)
            refine lv_bipush (v := 10) hx hb dX11_stands_60 (by decide) ?_
            refine lv_iload_n hx hb dX11_stands_62 rfl (lv_at hl 1 rfl) ?_
            refine lv_imul hx hb dX11_stands_63 ?_
            refine he_top (nI (10 * ac)) (pk_mul 10 ac) ?_
            refine lv_aload_n hx hb dX11_stands_64 rfl (lv_at hl 0 rfl) ?_
            refine va_get (v := .int (nI (roN (foC Wr (allN v) a d)))) (T := TX11) (N := 35) hx hb hts inX11 hown hK hP 1 rfl rfl 33 (by decide) f244 (fun _ h9 => h9) rfl dX11_stands_65 ?_
            refine lv_iload hx hb dX11_stands_68 (lv_at hl 2 rfl) ?_
            refine he_ci (wc := []) (wr := ([(aI g to_ 25 tl), (oX11 m0 0 ta sz_ pl at_ fa fw cs fd rfm rt_ to_ rw_ wa ct rk rb cn br sm as_ go sh_ ir oa ob th ig sp_ ki tg of_ kp (nI (roN (foC Wr (allN v) a d))) rs), (aM g wa 6 (he_ro 6 r2))] ++ (he_pl g L ln M))) (va_runS (As := [.int (nI (roN (foC Wr (allN v) a d))), .int (nI j)]) (rest := [.int (nI (10 * ac))]) ⟨hx, hb, hml, hown, hts⟩ (r_X11_digit l g (roN (foC Wr (allN v) a d)) j (foC_ro (by omega) hd6) (by first | assumption | decide | omega) H.size) (va_cwS 2 hts gX11_stands_X11_digit rfl rfl rfl (by decide +kernel) ⟨Nat.le_of_ble_eq_true rfl, Nat.le_of_ble_eq_true rfl⟩) (he_preS (wc := []) hK hP hD hS hA hE [] rfl rfl) rfl rfl hl.1 rfl (lv_room (Nat.le_of_ble_eq_true rfl)) dX11_stands_70 ⟨(Nat.le_of_ble_eq_true rfl), (Nat.le_of_ble_eq_true rfl)⟩) hP hD hS hA [] (he_is [0, 1, 2] [(aI g to_ 25 tl), (oX11 m0 0 ta sz_ pl at_ fa fw cs fd rfm rt_ to_ rw_ wa ct rk rb cn br sm as_ go sh_ ir oa ob th ig sp_ ki tg of_ kp (nI (roN (foC Wr (allN v) a d))) rs), (aM g wa 6 (he_ro 6 r2))] (he_pl g L ln M)) rfl (he_ixP rfl) (he_ndP rfl rfl) (he_disN (by decide) rfl) (fun r_23 u_24 H locs h_25 hP hD hS => ?_)
            have hP := va_P.swap hP
            have hD := va_D.swap hD
            subst h_25
            have hP : va_P g.1 vwCl ([(aI g to_ 25 tl), (oX11 m0 0 ta sz_ pl at_ fa fw cs fd rfm rt_ to_ rw_ wa ct rk rb cn br sm as_ go sh_ ir oa ob th ig sp_ ki tg of_ kp (nI (roN (foC Wr (allN v) a d))) rs), (aM g wa 6 (he_ro 6 r2))] ++ he_pl g L ln M) H := hP
            have hD : va_D A ([(aI g to_ 25 tl), (oX11 m0 0 ta sz_ pl at_ fa fw cs fd rfm rt_ to_ rw_ wa ct rk rb cn br sm as_ go sh_ ir oa ob th ig sp_ ki tg of_ kp (nI (roN (foC Wr (allN v) a d))) rs), (aM g wa 6 (he_ro 6 r2))] ++ he_pl g L ln M) := hD
            refine lv_iadd hx hb dX11_stands_73 ?_
            refine he_top (nI (10 * ac + dgt (roN (foC Wr (allN v) a d)) j)) (nI_add (10 * ac) (dgt (roN (foC Wr (allN v) a d)) j)) ?_
            refine lv_istore_n (lv' := [(3, .int (nI (10 * ac + dgt (roN (foC Wr (allN v) a d)) j))), (0, .ref m0), (4, .int (nI j))]) hx hb dX11_stands_74 rfl hl (by decide) rfl (fun ls hl => ?_)
            refine lv_iinc (v := nI (j + 1)) (lv' := [(4, .int (nI (j + 1))), (3, .int (nI (10 * ac + dgt (roN (foC Wr (allN v) a d)) j))), (0, .ref m0)]) hx hb dX11_stands_75 hl (k := 2) rfl (nI_1 j) (by decide) rfl (fun ls hl => ?_)
            refine lv_goto (tgt := 45) hx hb dX11_stands_78 (by decide) ?_
            exact ih45 (j + 1) (10 * ac + dgt (roN (foC Wr (allN v) a d)) j) (by omega) (by omega) (by rw [dsN, ← hac, Nat.mul_comm]) _ _ _ hP hD hS (lv_sub hl [2, 1, 0] rfl)
      exact loop45 ((v - 0) + 1) 0 0 (Nat.lt_succ_self _) (Nat.zero_le _) rfl _ _ _ hP hD hS (lv_sub hl [2, 1, 0] rfl)
    · exact absurd (by decide) c_8
  · exact absurd c_4 (by decide)
set_option maxHeartbeats 4000000 in
set_option maxRecDepth 100000 in
theorem r_X11_show (l : Launch) (g : he_G) (m0 : Nat) (fd : Nat) (rfm : Nat) (rt_ : Nat) (to_ : Nat) (rw_ : Nat) (wa : Nat) (rk : Nat) (rb : Nat) (cn : Nat) (br : Nat) (sm : Nat) (as_ : Nat) (go : Nat) (sh_ : Nat) (ki : Nat) (tg : Nat) (of_ : Nat) (kp : Nat) (rs : Nat) (ta : Int32) (sz_ : Int32) (pl : Int32) (at_ : Int32) (fa : Int32) (fw : Int32) (cs : Int32) (ct : Int32) (ir : Int32) (oa : Int32) (ob : Int32) (th : Int32) (ig : Int32) (sp_ : Int32) (sf : Int32) (tw : Int32) (tl : Nat → Int32) (w : Nat) (v : Nat) (L : List Nat) (ln : Nat → Nat) (M : Nat → Nat → Int32) (r2 : Nat → Nat) (a : Nat) (d : Nat) (Wr : Nat → Nat) (htl : tl 0 = nI w) (hw6 : w ≤ 6) (hv : v = if 3 < w then 3 else w) (hv3 : v ≤ 3) (F_r2 : ∀ i, i < 6 → r2 i ∈ L ∧ ln (r2 i) = 2 ∧ True) (ha6 : a ≤ 6) (hd6 : d ≤ 6) (hWm : ∀ k, k < 3 → bt (allN v) k = true → M (r2 k) 0 = nI (Wr k)) (hW9 : ∀ k, Wr k ≤ 99) : he_I l yX11_show wsX11_show 3 73 0 0 g [.ref m0, .int (nI a), .int (nI d)] ([(oX11 m0 tw ta sz_ pl at_ fa fw cs fd rfm rt_ to_ rw_ wa ct rk rb cn br sm as_ go sh_ ir oa ob th ig sp_ ki tg of_ kp sf rs), (aI g to_ 25 tl), (aM g wa 6 (he_ro 6 r2))] ++ he_pl g L ln M) (fun (r : Int32) (u : Int32) => r = nI (shC Wr v a d v)) (fun (u : Int32) => [(oX11 m0 0 ta sz_ pl at_ fa fw cs fd rfm rt_ to_ rw_ wa ct rk rb cn br sm as_ go sh_ ir oa ob th ig sp_ ki tg of_ kp u rs), (aI g to_ 25 tl), (aM g wa 6 (he_ro 6 r2))] ++ he_pl g L ln M) := by
  refine he_begin (l := l) (g := g) (y := yX11_show) (wl := wsX11_show) (fr := 3) (lo := 73) (mc := 0) (ms := 0) (av := [.ref m0, .int (nI a), .int (nI d)]) (ws := ([(oX11 m0 tw ta sz_ pl at_ fa fw cs fd rfm rt_ to_ rw_ wa ct rk rb cn br sm as_ go sh_ ir oa ob th ig sp_ ki tg of_ kp sf rs), (aI g to_ 25 tl), (aM g wa 6 (he_ro 6 r2))] ++ he_pl g L ln M)) (cc := cX11_show) (maxL := 7) (ret := (some .int)) (fun A => va_Qi (fun (r : Int32) (u : Int32) => r = nI (shC Wr v a d v)) (fun u t => he_post g A ((fun (u : Int32) => [(oX11 m0 0 ta sz_ pl at_ fa fw cs fd rfm rt_ to_ rw_ wa ct rk rb cn br sm as_ go sh_ ir oa ob th ig sp_ ki tg of_ kp u rs), (aI g to_ 25 tl), (aM g wa 6 (he_ro 6 r2))] ++ he_pl g L ln M) u) t) A) (by decide) rfl (Nat.le_of_ble_eq_true rfl) ?_
  intro p e s m args below meth c A ls H locs Q hQ hB
  obtain ⟨hx, hb, hr, hml, hown, hts, hlk, hin, hP, hK, hD, hS, hA, hE, hl⟩ := hB
  have hl : lv_has ls 7 [(0, .ref m0), (1, .int (nI a)), (2, .int (nI d))] := hl
  have h79 := all_7 hv3
  have f85 := hts (.fieldLink RX11 85 "HiredEnemyModel" "thrown" "I") (iwoX11_show (k := 0) rfl)
  have inX11 : ∀ w ∈ wsX110, w ∈ wsX11_show := innX11_show_X11
  refine lv_aload_n hx hb dX11_show_0 rfl (lv_at hl 0 rfl) ?_
  refine lv_iconst (v := 0) hx hb dX11_show_1 (by decide) ?_
  refine va_put (v := .int 0) (ty := .int) (T := TX11) (N := 35) hx hb hts inX11 tyX11 tyX11_ok nmX11 hown hK hP hD hS 0 rfl rfl 0 (by decide) f85 (fun _ h9 => h9) rfl (by decide +kernel) rfl rfl (Nat.le_of_ble_eq_true rfl) dX11_show_2 (fun H locs hP hD hS => ?_)
  have hP : va_P g.1 vwCl ([(oX11 m0 0 ta sz_ pl at_ fa fw cs fd rfm rt_ to_ rw_ wa ct rk rb cn br sm as_ go sh_ ir oa ob th ig sp_ ki tg of_ kp sf rs), (aI g to_ 25 tl), (aM g wa 6 (he_ro 6 r2))] ++ he_pl g L ln M) H := hP
  have hD : va_D A ([(oX11 m0 0 ta sz_ pl at_ fa fw cs fd rfm rt_ to_ rw_ wa ct rk rb cn br sm as_ go sh_ ir oa ob th ig sp_ ki tg of_ kp sf rs), (aI g to_ 25 tl), (aM g wa 6 (he_ro 6 r2))] ++ he_pl g L ln M) := hD
  refine lv_aload_n hx hb dX11_show_5 rfl (lv_at hl 0 rfl) ?_
  refine lv_iload_n hx hb dX11_show_6 rfl (lv_at hl 1 rfl) ?_
  refine lv_iload_n hx hb dX11_show_7 rfl (lv_at hl 2 rfl) ?_
  refine he_ci (wc := []) (wr := ([(oX11 m0 0 ta sz_ pl at_ fa fw cs fd rfm rt_ to_ rw_ wa ct rk rb cn br sm as_ go sh_ ir oa ob th ig sp_ ki tg of_ kp sf rs), (aI g to_ 25 tl), (aM g wa 6 (he_ro 6 r2))] ++ (he_pl g L ln M))) (va_runS (As := [.int (nI a), .int (nI d)]) (rest := [.ref m0]) ⟨hx, hb, hml, hown, hts⟩ (c_X11_areTens1 l g (nI a) (nI d) (fun h9 => absurd (he_within_in (k := a) (a := 0) (b := 6) (a0 := 0) (B := 6) rfl rfl (by omega) (by omega) (by decide)) (by rw [h9]; decide)) (fun h9 => absurd (he_within_in (k := d) (a := 0) (b := 6) (a0 := 0) (B := 6) rfl rfl (by omega) (by omega) (by decide)) (by rw [h9]; decide)) H.size) (va_cwS 2 hts gX11_show_X11_areTens rfl rfl rfl (by decide +kernel) ⟨Nat.le_of_ble_eq_true rfl, Nat.le_of_ble_eq_true rfl⟩) (he_preS (wc := []) hK hP hD hS hA hE [] rfl rfl) rfl rfl hl.1 rfl (lv_room (Nat.le_of_ble_eq_true rfl)) dX11_show_8 ⟨(Nat.le_of_ble_eq_true rfl), (Nat.le_of_ble_eq_true rfl)⟩) hP hD hS hA [] (he_is [0, 1, 2] [(oX11 m0 0 ta sz_ pl at_ fa fw cs fd rfm rt_ to_ rw_ wa ct rk rb cn br sm as_ go sh_ ir oa ob th ig sp_ ki tg of_ kp sf rs), (aI g to_ 25 tl), (aM g wa 6 (he_ro 6 r2))] (he_pl g L ln M)) rfl (he_ixP rfl) (he_ndP rfl rfl) (he_disN (by decide) rfl) (fun r_1 u_2 H locs h_3 hP hD hS => ?_)
  have hP := va_P.swap hP
  have hD := va_D.swap hD
  subst h_3
  have hP : va_P g.1 vwCl ([(oX11 m0 0 ta sz_ pl at_ fa fw cs fd rfm rt_ to_ rw_ wa ct rk rb cn br sm as_ go sh_ ir oa ob th ig sp_ ki tg of_ kp sf rs), (aI g to_ 25 tl), (aM g wa 6 (he_ro 6 r2))] ++ he_pl g L ln M) H := hP
  have hD : va_D A ([(oX11 m0 0 ta sz_ pl at_ fa fw cs fd rfm rt_ to_ rw_ wa ct rk rb cn br sm as_ go sh_ ir oa ob th ig sp_ ki tg of_ kp sf rs), (aI g to_ 25 tl), (aM g wa 6 (he_ro 6 r2))] ++ he_pl g L ln M) := hD
  refine lv_if_ne (tgt := 18) hx hb dX11_show_11 (by decide) (fun c_4 => ?_) (fun c_4 => ?_)
  · refine lv_iconst (v := 0) hx hb dX11_show_18 (by decide) ?_
    refine lv_iconst (v := 1) hx hb dX11_show_19 (by decide) ?_
    refine lv_iconst (v := 2) hx hb dX11_show_20 (by decide) ?_
    refine he_ci (wc := [(oX11 m0 0 ta sz_ pl at_ fa fw cs fd rfm rt_ to_ rw_ wa ct rk rb cn br sm as_ go sh_ ir oa ob th ig sp_ ki tg of_ kp sf rs)]) (wr := ([(aI g to_ 25 tl), (aM g wa 6 (he_ro 6 r2))] ++ (he_pl g L ln M))) (va_runV (As := [.int 0, .int 1, .int 2]) (rest := []) ⟨hx, hb, hml, hown, hts⟩ (c_X11_bad0 l g m0 fd rfm rt_ to_ rw_ wa rk rb cn br sm as_ go sh_ ki tg of_ kp rs ta sz_ pl at_ fa fw cs ct ir oa ob th ig sp_ sf 1 2 H.size) (cwV 3 hts gX11_show_X11_bad rfl rfl rfl (by decide +kernel) ⟨Nat.le_of_ble_eq_true rfl, Nat.le_of_ble_eq_true rfl⟩) (he_preV (wc := [(oX11 m0 0 ta sz_ pl at_ fa fw cs fd rfm rt_ to_ rw_ wa ct rk rb cn br sm as_ go sh_ ir oa ob th ig sp_ ki tg of_ kp sf rs)]) hK hP hD hS hA hE [0] rfl rfl 0 rfl rfl) rfl rfl hl.1 rfl (lv_room (Nat.le_of_ble_eq_true rfl)) dX11_show_21 ⟨(Nat.le_of_ble_eq_true rfl), (Nat.le_of_ble_eq_true rfl)⟩) hP hD hS hA [0] (he_is [1, 2] [(oX11 m0 0 ta sz_ pl at_ fa fw cs fd rfm rt_ to_ rw_ wa ct rk rb cn br sm as_ go sh_ ir oa ob th ig sp_ ki tg of_ kp sf rs), (aI g to_ 25 tl), (aM g wa 6 (he_ro 6 r2))] (he_pl g L ln M)) rfl (he_ixP rfl) (he_ndP rfl rfl) (he_disN (by decide) rfl) (fun r_5 u_6 H locs h_7 hP hD hS => ?_)
    have hP := va_P.swap hP
    have hD := va_D.swap hD
    subst h_7
    have hP : va_P g.1 vwCl ([(aI g to_ 25 tl), (aM g wa 6 (he_ro 6 r2)), (oX11 m0 0 ta sz_ pl at_ fa fw cs fd rfm rt_ to_ rw_ wa ct rk rb cn br sm as_ go sh_ ir oa ob th ig sp_ ki tg of_ kp sf rs)] ++ he_pl g L ln M) H := hP
    have hD : va_D A ([(aI g to_ 25 tl), (aM g wa 6 (he_ro 6 r2)), (oX11 m0 0 ta sz_ pl at_ fa fw cs fd rfm rt_ to_ rw_ wa ct rk rb cn br sm as_ go sh_ ir oa ob th ig sp_ ki tg of_ kp sf rs)] ++ he_pl g L ln M) := hD
    refine lv_if_eq (tgt := 29) hx hb dX11_show_24 (by decide) (fun c_8 => ?_) (fun c_8 => ?_)
    · refine lv_aload_n hx hb dX11_show_29 rfl (lv_at hl 0 rfl) ?_
      refine he_ci (wc := [(oX11 m0 0 ta sz_ pl at_ fa fw cs fd rfm rt_ to_ rw_ wa ct rk rb cn br sm as_ go sh_ ir oa ob th ig sp_ ki tg of_ kp sf rs), (aI g to_ 25 tl)]) (wr := ([(aM g wa 6 (he_ro 6 r2))] ++ (he_pl g L ln M))) (va_runV (As := []) (rest := []) ⟨hx, hb, hml, hown, hts⟩ (r_X11_firstWalls l g m0 fd rfm rt_ to_ rw_ wa rk rb cn br sm as_ go sh_ ki tg of_ kp rs ta sz_ pl at_ fa fw cs ct ir oa ob th ig sp_ sf 0 tl w v (by first | assumption | decide | omega) (by first | assumption | decide | omega) (by first | assumption | decide | omega) (by first | assumption | decide | omega) H.size) (cwV 0 hts gX11_show_X11_firstWalls rfl rfl rfl (by decide +kernel) ⟨Nat.le_of_ble_eq_true rfl, Nat.le_of_ble_eq_true rfl⟩) (he_preV (wc := [(oX11 m0 0 ta sz_ pl at_ fa fw cs fd rfm rt_ to_ rw_ wa ct rk rb cn br sm as_ go sh_ ir oa ob th ig sp_ ki tg of_ kp sf rs), (aI g to_ 25 tl)]) hK hP hD hS hA hE [2, 0] rfl rfl 2 rfl rfl) rfl rfl hl.1 rfl (lv_room (Nat.le_of_ble_eq_true rfl)) dX11_show_30 ⟨(Nat.le_of_ble_eq_true rfl), (Nat.le_of_ble_eq_true rfl)⟩) hP hD hS hA [2, 0] (he_is [1] [(aI g to_ 25 tl), (aM g wa 6 (he_ro 6 r2)), (oX11 m0 0 ta sz_ pl at_ fa fw cs fd rfm rt_ to_ rw_ wa ct rk rb cn br sm as_ go sh_ ir oa ob th ig sp_ ki tg of_ kp sf rs)] (he_pl g L ln M)) rfl (he_ixP rfl) (he_ndP rfl rfl) (he_disN (by decide) rfl) (fun r_9 u_10 H locs h_11 hP hD hS => ?_)
      have hP := va_P.swap hP
      have hD := va_D.swap hD
      subst h_11
      have hP : va_P g.1 vwCl ([(aM g wa 6 (he_ro 6 r2)), (oX11 m0 0 ta sz_ pl at_ fa fw cs fd rfm rt_ to_ rw_ wa ct rk rb cn br sm as_ go sh_ ir oa ob th ig sp_ ki tg of_ kp sf rs), (aI g to_ 25 tl)] ++ he_pl g L ln M) H := hP
      have hD : va_D A ([(aM g wa 6 (he_ro 6 r2)), (oX11 m0 0 ta sz_ pl at_ fa fw cs fd rfm rt_ to_ rw_ wa ct rk rb cn br sm as_ go sh_ ir oa ob th ig sp_ ki tg of_ kp sf rs), (aI g to_ 25 tl)] ++ he_pl g L ln M) := hD
      refine lv_istore_n (lv' := [(3, .int (nI (allN v))), (0, .ref m0), (1, .int (nI a)), (2, .int (nI d))]) hx hb dX11_show_33 rfl hl (by decide) rfl (fun ls hl => ?_)
      refine lv_aload_n hx hb dX11_show_34 rfl (lv_at hl 1 rfl) ?_
      refine lv_iload_n hx hb dX11_show_35 rfl (lv_at hl 2 rfl) ?_
      refine lv_iload_n hx hb dX11_show_36 rfl (lv_at hl 3 rfl) ?_
      refine lv_iload_n hx hb dX11_show_37 rfl (lv_at hl 0 rfl) ?_
      refine he_ci (wc := ([(oX11 m0 0 ta sz_ pl at_ fa fw cs fd rfm rt_ to_ rw_ wa ct rk rb cn br sm as_ go sh_ ir oa ob th ig sp_ ki tg of_ kp sf rs), (aM g wa 6 (he_ro 6 r2))] ++ (he_pl g L ln M))) (wr := [(aI g to_ 25 tl)]) (va_runV (As := [.int (nI a), .int (nI d), .int (nI (allN v))]) (rest := []) ⟨hx, hb, hml, hown, hts⟩ (r_X11_safeBy l g m0 fd rfm rt_ to_ rw_ wa rk rb cn br sm as_ go sh_ ki tg of_ kp rs ta sz_ pl at_ fa fw cs ct ir oa ob th ig sp_ sf 0 L ln M r2 a d (allN v) Wr (by first | assumption | decide | omega) (by omega) (by first | assumption | decide | omega) (by first | assumption | decide | omega) (by first | assumption | decide | omega) (by first | assumption | decide | omega) H.size) (cwV 3 hts gX11_show_X11_safeBy rfl rfl rfl (by decide +kernel) ⟨Nat.le_of_ble_eq_true rfl, Nat.le_of_ble_eq_true rfl⟩) (he_preV (wc := ([(oX11 m0 0 ta sz_ pl at_ fa fw cs fd rfm rt_ to_ rw_ wa ct rk rb cn br sm as_ go sh_ ir oa ob th ig sp_ ki tg of_ kp sf rs), (aM g wa 6 (he_ro 6 r2))] ++ (he_pl g L ln M))) hK hP hD hS hA hE (he_is [1, 0] [(aM g wa 6 (he_ro 6 r2)), (oX11 m0 0 ta sz_ pl at_ fa fw cs fd rfm rt_ to_ rw_ wa ct rk rb cn br sm as_ go sh_ ir oa ob th ig sp_ ki tg of_ kp sf rs), (aI g to_ 25 tl)] (he_pl g L ln M)) (he_ixP rfl) (he_ndP rfl rfl) 1 rfl rfl) rfl rfl hl.1 rfl (lv_room (Nat.le_of_ble_eq_true rfl)) dX11_show_38 ⟨(Nat.le_of_ble_eq_true rfl), (Nat.le_of_ble_eq_true rfl)⟩) hP hD hS hA (he_is [1, 0] [(aM g wa 6 (he_ro 6 r2)), (oX11 m0 0 ta sz_ pl at_ fa fw cs fd rfm rt_ to_ rw_ wa ct rk rb cn br sm as_ go sh_ ir oa ob th ig sp_ ki tg of_ kp sf rs), (aI g to_ 25 tl)] (he_pl g L ln M)) [2] (he_ixP rfl) rfl rfl (he_disP (by decide) rfl) (fun r_12 u_13 H locs h_14 hP hD hS => ?_)
      obtain ⟨sr_15, rfl⟩ : ∃ z, z = u_13 := ⟨_, rfl⟩
      try dsimp only at h_14
      obtain ⟨rfl, hf_16⟩ := h_14
      have hP : va_P g.1 vwCl ([(aI g to_ 25 tl), (oX11 m0 0 ta sz_ pl at_ fa fw cs fd rfm rt_ to_ rw_ wa ct rk rb cn br sm as_ go sh_ ir oa ob th ig sp_ ki tg of_ kp sr_15 rs), (aM g wa 6 (he_ro 6 r2))] ++ he_pl g L ln M) H := hP
      have hD : va_D A ([(aI g to_ 25 tl), (oX11 m0 0 ta sz_ pl at_ fa fw cs fd rfm rt_ to_ rw_ wa ct rk rb cn br sm as_ go sh_ ir oa ob th ig sp_ ki tg of_ kp sr_15 rs), (aM g wa 6 (he_ro 6 r2))] ++ he_pl g L ln M) := hD
      refine lv_istore (lv' := [(4, .int (nI (leN (foC Wr (allN v) a d)))), (3, .int (nI (allN v))), (0, .ref m0), (1, .int (nI a)), (2, .int (nI d))]) hx hb dX11_show_41 hl (by decide) rfl (fun ls hl => ?_)
      refine lv_iconst (v := 0) hx hb dX11_show_43 (by decide) ?_
      refine lv_istore (lv' := [(5, .int 0), (4, .int (nI (leN (foC Wr (allN v) a d)))), (3, .int (nI (allN v))), (0, .ref m0), (1, .int (nI a)), (2, .int (nI d))]) hx hb dX11_show_44 hl (by decide) rfl (fun ls hl => ?_)
      refine lv_iconst (v := 0) hx hb dX11_show_46 (by decide) ?_
      refine lv_istore (lv' := [(6, .int 0), (5, .int 0), (4, .int (nI (leN (foC Wr (allN v) a d)))), (3, .int (nI (allN v))), (0, .ref m0), (1, .int (nI a)), (2, .int (nI d))]) hx hb dX11_show_47 hl (by decide) rfl (fun ls hl => ?_)
      have loop49 : ∀ (n9 : Nat) (j : Nat) (bz : Nat) (sr : Int32), 3 - j < n9 → (j ≤ 3) → (bz = shC Wr v a d (min j v)) → ∀ (H : Heap) (locs : List Loc) (ls : Array Slot), va_P g.1 vwCl ([(oX11 m0 0 ta sz_ pl at_ fa fw cs fd rfm rt_ to_ rw_ wa ct rk rb cn br sm as_ go sh_ ir oa ob th ig sp_ ki tg of_ kp sr rs), (aI g to_ 25 tl), (aM g wa 6 (he_ro 6 r2))] ++ he_pl g L ln M) H → va_D A ([(oX11 m0 0 ta sz_ pl at_ fa fw cs fd rfm rt_ to_ rw_ wa ct rk rb cn br sm as_ go sh_ ir oa ob th ig sp_ ki tg of_ kp sr rs), (aI g to_ 25 tl), (aM g wa 6 (he_ro 6 r2))] ++ he_pl g L ln M) → va_S A s.heap H locs → lv_has ls 7 [(0, .ref m0), (1, .int (nI a)), (2, .int (nI d)), (3, .int (nI (allN v))), (4, .int (nI (leN (foC Wr (allN v) a d)))), (5, .int (nI bz)), (6, .int (nI j))] → W p l e (he_room 3 73 0 0) s m args below meth c H locs 0 0 Q (F0 m 49 ls []) := by
        intro n9
        induction n9 with
        | zero => intro j bz sr hm9; exact absurd hm9 (Nat.not_lt_zero _)
        | succ n9 ih49 =>
          intro j bz sr hm9 hj hrs H locs ls hP hD hS hl
          refine lv_iload hx hb dX11_show_49 (lv_at hl 6 rfl) ?_
          refine lv_iconst (v := 3) hx hb dX11_show_51 (by decide) ?_
          refine lv_icmp_ge (tgt := 99) hx hb dX11_show_52 (by decide) (fun c_17 => ?_) (fun c_17 => ?_)
          · have k_18 : 3 ≤ j := (he_cle (a := 3) (b := j) (by decide) rfl (by omega) (by omega)).mp c_17
            refine lv_iload hx hb dX11_show_99 (lv_at hl 5 rfl) ?_
            exact he_ri hQ hx hb hr hlk hP hD hS dX11_show_101 (Nat.le_of_ble_eq_true rfl) (Nat.le_of_ble_eq_true rfl) (sr) (rfl) ((congrArg nI (by rw [hrs, show min j v = v by omega])))
          · have k_19 : ¬ (3 ≤ j) := fun h9 => c_17 ((he_cle (a := 3) (b := j) (by decide) rfl (by omega) (by omega)).mpr h9)
            refine lv_iload_n hx hb dX11_show_55 rfl (lv_at hl 3 rfl) ?_
            refine lv_iload hx hb dX11_show_56 (lv_at hl 6 rfl) ?_
            refine lv_ishr hx hb dX11_show_58 ?_
            refine lv_iconst (v := 1) hx hb dX11_show_59 (by decide) ?_
            refine lv_iand hx hb dX11_show_60 ?_
            refine he_top (bI (allN v) j) (bI_e (allN v) (by omega) j (by omega)) ?_
            refine lv_iconst (v := 1) hx hb dX11_show_61 (by decide) ?_
            refine lv_icmp_ne (tgt := 93) hx hb dX11_show_62 (by decide) (fun c_20 => ?_) (fun c_20 => ?_)
            · have hbt : ¬ bt (allN v) j = true := bI_n1 c_20
              have hjv : ¬ j < v := fun h9 => hbt (bt_alY v hv3 j h9)
              refine lv_iinc (v := nI (j + 1)) (lv' := [(6, .int (nI (j + 1))), (0, .ref m0), (1, .int (nI a)), (2, .int (nI d)), (3, .int (nI (allN v))), (4, .int (nI (leN (foC Wr (allN v) a d)))), (5, .int (nI bz))]) hx hb dX11_show_93 hl (k := 6) rfl (nI_1 j) (by decide) rfl (fun ls hl => ?_)
              refine lv_goto (tgt := 49) hx hb dX11_show_96 (by decide) ?_
              exact ih49 (j + 1) bz sr (by omega) (by omega) (by rw [show min (j + 1) v = min j v by omega]; exact hrs) _ _ _ hP hD hS (lv_sub hl [1, 2, 3, 4, 5, 6, 0] rfl)
            · have hbt : bt (allN v) j = true := bI_1 c_20
              have hjv : j < v := bt_all v hv3 j (by omega) hbt
              refine lv_aload_n hx hb dX11_show_65 rfl (lv_at hl 0 rfl) ?_
              refine lv_iload_n hx hb dX11_show_66 rfl (lv_at hl 1 rfl) ?_
              refine lv_iload_n hx hb dX11_show_67 rfl (lv_at hl 2 rfl) ?_
              refine lv_iload_n hx hb dX11_show_68 rfl (lv_at hl 3 rfl) ?_
              refine lv_iconst (v := 1) hx hb dX11_show_69 (by decide) ?_
              refine lv_iload hx hb dX11_show_70 (lv_at hl 6 rfl) ?_
              refine lv_ishl hx hb dX11_show_72 ?_
              refine lv_iconst (v := (-1)) hx hb dX11_show_73 (by decide) ?_
              refine lv_ixor hx hb dX11_show_74 ?_
              refine lv_iand hx hb dX11_show_75 ?_
              refine he_top (nI (rmN (allN v) j)) (rm_e (allN v) (by omega) j (by omega)) ?_
              refine he_ci (wc := ([(oX11 m0 0 ta sz_ pl at_ fa fw cs fd rfm rt_ to_ rw_ wa ct rk rb cn br sm as_ go sh_ ir oa ob th ig sp_ ki tg of_ kp sr rs), (aM g wa 6 (he_ro 6 r2))] ++ (he_pl g L ln M))) (wr := [(aI g to_ 25 tl)]) (va_runV (As := [.int (nI a), .int (nI d), .int (nI (rmN (allN v) j))]) (rest := []) ⟨hx, hb, hml, hown, hts⟩ (r_X11_safeBy l g m0 fd rfm rt_ to_ rw_ wa rk rb cn br sm as_ go sh_ ki tg of_ kp rs ta sz_ pl at_ fa fw cs ct ir oa ob th ig sp_ sr 0 L ln M r2 a d (rmN (allN v) j) Wr (by first | assumption | decide | omega) (rm_lt (allN v) (by omega) j (by omega)) (by first | assumption | decide | omega) (by first | assumption | decide | omega) (fun k9 h9 h8 => hWm k9 h9 (rm_sub (allN v) (by omega) j (by omega) k9 h9 h8)) (by first | assumption | decide | omega) H.size) (cwV 3 hts gX11_show_X11_safeBy rfl rfl rfl (by decide +kernel) ⟨Nat.le_of_ble_eq_true rfl, Nat.le_of_ble_eq_true rfl⟩) (he_preV (wc := ([(oX11 m0 0 ta sz_ pl at_ fa fw cs fd rfm rt_ to_ rw_ wa ct rk rb cn br sm as_ go sh_ ir oa ob th ig sp_ ki tg of_ kp sr rs), (aM g wa 6 (he_ro 6 r2))] ++ (he_pl g L ln M))) hK hP hD hS hA hE (he_is [0, 2] [(oX11 m0 0 ta sz_ pl at_ fa fw cs fd rfm rt_ to_ rw_ wa ct rk rb cn br sm as_ go sh_ ir oa ob th ig sp_ ki tg of_ kp sr rs), (aI g to_ 25 tl), (aM g wa 6 (he_ro 6 r2))] (he_pl g L ln M)) (he_ixP rfl) (he_ndP rfl rfl) 0 rfl rfl) rfl rfl hl.1 rfl (lv_room (Nat.le_of_ble_eq_true rfl)) dX11_show_76 ⟨(Nat.le_of_ble_eq_true rfl), (Nat.le_of_ble_eq_true rfl)⟩) hP hD hS hA (he_is [0, 2] [(oX11 m0 0 ta sz_ pl at_ fa fw cs fd rfm rt_ to_ rw_ wa ct rk rb cn br sm as_ go sh_ ir oa ob th ig sp_ ki tg of_ kp sr rs), (aI g to_ 25 tl), (aM g wa 6 (he_ro 6 r2))] (he_pl g L ln M)) [1] (he_ixP rfl) rfl rfl (he_disP (by decide) rfl) (fun r_21 u_22 H locs h_23 hP hD hS => ?_)
              obtain ⟨sr_24, rfl⟩ : ∃ z, z = u_22 := ⟨_, rfl⟩
              try dsimp only at h_23
              obtain ⟨rfl, hf_25⟩ := h_23
              have hP : va_P g.1 vwCl ([(aI g to_ 25 tl), (oX11 m0 0 ta sz_ pl at_ fa fw cs fd rfm rt_ to_ rw_ wa ct rk rb cn br sm as_ go sh_ ir oa ob th ig sp_ ki tg of_ kp sr_24 rs), (aM g wa 6 (he_ro 6 r2))] ++ he_pl g L ln M) H := hP
              have hD : va_D A ([(aI g to_ 25 tl), (oX11 m0 0 ta sz_ pl at_ fa fw cs fd rfm rt_ to_ rw_ wa ct rk rb cn br sm as_ go sh_ ir oa ob th ig sp_ ki tg of_ kp sr_24 rs), (aM g wa 6 (he_ro 6 r2))] ++ he_pl g L ln M) := hD
              refine lv_iload hx hb dX11_show_79 (lv_at hl 4 rfl) ?_
              refine lv_icmp_ne (tgt := 93) hx hb dX11_show_81 (by decide) (fun c_26 => ?_) (fun c_26 => ?_)
              · have heq : ¬ leN (foC Wr (rmN (allN v) j) a d) = leN (foC Wr (allN v) a d) := fun h9 => c_26 (by rw [h9])
                refine lv_iinc (v := nI (j + 1)) (lv' := [(6, .int (nI (j + 1))), (0, .ref m0), (1, .int (nI a)), (2, .int (nI d)), (3, .int (nI (allN v))), (4, .int (nI (leN (foC Wr (allN v) a d)))), (5, .int (nI bz))]) hx hb dX11_show_93 hl (k := 6) rfl (nI_1 j) (by decide) rfl (fun ls hl => ?_)
                refine lv_goto (tgt := 49) hx hb dX11_show_96 (by decide) ?_
                have hP := he_Psub (X := [(aI g to_ 25 tl), (oX11 m0 0 ta sz_ pl at_ fa fw cs fd rfm rt_ to_ rw_ wa ct rk rb cn br sm as_ go sh_ ir oa ob th ig sp_ ki tg of_ kp sr_24 rs), (aM g wa 6 (he_ro 6 r2))]) (X2 := [(oX11 m0 0 ta sz_ pl at_ fa fw cs fd rfm rt_ to_ rw_ wa ct rk rb cn br sm as_ go sh_ ir oa ob th ig sp_ ki tg of_ kp sr_24 rs), (aI g to_ 25 tl), (aM g wa 6 (he_ro 6 r2))]) (P := (he_pl g L ln M)) hP [1, 0, 2] rfl
                have hD := he_Dsub (X := [(aI g to_ 25 tl), (oX11 m0 0 ta sz_ pl at_ fa fw cs fd rfm rt_ to_ rw_ wa ct rk rb cn br sm as_ go sh_ ir oa ob th ig sp_ ki tg of_ kp sr_24 rs), (aM g wa 6 (he_ro 6 r2))]) (X2 := [(oX11 m0 0 ta sz_ pl at_ fa fw cs fd rfm rt_ to_ rw_ wa ct rk rb cn br sm as_ go sh_ ir oa ob th ig sp_ ki tg of_ kp sr_24 rs), (aI g to_ 25 tl), (aM g wa 6 (he_ro 6 r2))]) (P := (he_pl g L ln M)) hD [1, 0, 2] rfl rfl rfl
                exact ih49 (j + 1) bz sr_24 (by omega) (by omega) (by rw [show min (j + 1) v = j + 1 by omega]; exact shC_n (by rw [hrs, show min j v = j by omega]) heq) _ _ _ hP hD hS (lv_sub hl [1, 2, 3, 4, 5, 6, 0] rfl)
              · have heq : leN (foC Wr (rmN (allN v) j) a d) = leN (foC Wr (allN v) a d) := nI_j (by have := leN_le (fo_bo hW9 (rmN (allN v) j) a d); omega) (by have := leN_le (fo_bo hW9 (allN v) a d); omega) c_26
                refine lv_iload hx hb dX11_show_84 (lv_at hl 5 rfl) ?_
                refine lv_iconst (v := 1) hx hb dX11_show_86 (by decide) ?_
                refine lv_iload hx hb dX11_show_87 (lv_at hl 6 rfl) ?_
                refine lv_ishl hx hb dX11_show_89 ?_
                refine lv_ior hx hb dX11_show_90 ?_
                refine he_top (nI (bz + 2 ^ j)) (or_e j (by omega) bz (by rw [hrs, show min j v = j by omega]; exact shC_lt j)) ?_
                refine lv_istore (lv' := [(5, .int (nI (bz + 2 ^ j))), (0, .ref m0), (1, .int (nI a)), (2, .int (nI d)), (3, .int (nI (allN v))), (4, .int (nI (leN (foC Wr (allN v) a d)))), (6, .int (nI j))]) hx hb dX11_show_91 hl (by decide) rfl (fun ls hl => ?_)
                refine lv_iinc (v := nI (j + 1)) (lv' := [(6, .int (nI (j + 1))), (5, .int (nI (bz + 2 ^ j))), (0, .ref m0), (1, .int (nI a)), (2, .int (nI d)), (3, .int (nI (allN v))), (4, .int (nI (leN (foC Wr (allN v) a d))))]) hx hb dX11_show_93 hl (k := 6) rfl (nI_1 j) (by decide) rfl (fun ls hl => ?_)
                refine lv_goto (tgt := 49) hx hb dX11_show_96 (by decide) ?_
                have hP := he_Psub (X := [(aI g to_ 25 tl), (oX11 m0 0 ta sz_ pl at_ fa fw cs fd rfm rt_ to_ rw_ wa ct rk rb cn br sm as_ go sh_ ir oa ob th ig sp_ ki tg of_ kp sr_24 rs), (aM g wa 6 (he_ro 6 r2))]) (X2 := [(oX11 m0 0 ta sz_ pl at_ fa fw cs fd rfm rt_ to_ rw_ wa ct rk rb cn br sm as_ go sh_ ir oa ob th ig sp_ ki tg of_ kp sr_24 rs), (aI g to_ 25 tl), (aM g wa 6 (he_ro 6 r2))]) (P := (he_pl g L ln M)) hP [1, 0, 2] rfl
                have hD := he_Dsub (X := [(aI g to_ 25 tl), (oX11 m0 0 ta sz_ pl at_ fa fw cs fd rfm rt_ to_ rw_ wa ct rk rb cn br sm as_ go sh_ ir oa ob th ig sp_ ki tg of_ kp sr_24 rs), (aM g wa 6 (he_ro 6 r2))]) (X2 := [(oX11 m0 0 ta sz_ pl at_ fa fw cs fd rfm rt_ to_ rw_ wa ct rk rb cn br sm as_ go sh_ ir oa ob th ig sp_ ki tg of_ kp sr_24 rs), (aI g to_ 25 tl), (aM g wa 6 (he_ro 6 r2))]) (P := (he_pl g L ln M)) hD [1, 0, 2] rfl rfl rfl
                exact ih49 (j + 1) (bz + 2 ^ j) sr_24 (by omega) (by omega) (by rw [show min (j + 1) v = j + 1 by omega]; exact shC_y (by rw [hrs, show min j v = j by omega]) heq) _ _ _ hP hD hS (lv_sub hl [2, 3, 4, 5, 6, 1, 0] rfl)
      have hP := he_Psub (X := [(aI g to_ 25 tl), (oX11 m0 0 ta sz_ pl at_ fa fw cs fd rfm rt_ to_ rw_ wa ct rk rb cn br sm as_ go sh_ ir oa ob th ig sp_ ki tg of_ kp sr_15 rs), (aM g wa 6 (he_ro 6 r2))]) (X2 := [(oX11 m0 0 ta sz_ pl at_ fa fw cs fd rfm rt_ to_ rw_ wa ct rk rb cn br sm as_ go sh_ ir oa ob th ig sp_ ki tg of_ kp sr_15 rs), (aI g to_ 25 tl), (aM g wa 6 (he_ro 6 r2))]) (P := (he_pl g L ln M)) hP [1, 0, 2] rfl
      have hD := he_Dsub (X := [(aI g to_ 25 tl), (oX11 m0 0 ta sz_ pl at_ fa fw cs fd rfm rt_ to_ rw_ wa ct rk rb cn br sm as_ go sh_ ir oa ob th ig sp_ ki tg of_ kp sr_15 rs), (aM g wa 6 (he_ro 6 r2))]) (X2 := [(oX11 m0 0 ta sz_ pl at_ fa fw cs fd rfm rt_ to_ rw_ wa ct rk rb cn br sm as_ go sh_ ir oa ob th ig sp_ ki tg of_ kp sr_15 rs), (aI g to_ 25 tl), (aM g wa 6 (he_ro 6 r2))]) (P := (he_pl g L ln M)) hD [1, 0, 2] rfl rfl rfl
      exact loop49 ((3 - 0) + 1) 0 0 sr_15 (Nat.lt_succ_self _) (Nat.zero_le _) (by rw [Nat.zero_min]; rfl) _ _ _ hP hD hS (lv_sub hl [4, 5, 6, 3, 2, 1, 0] rfl)
    · exact absurd (by decide) c_8
  · exact absurd c_4 (by decide)
