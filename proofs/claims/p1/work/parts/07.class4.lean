theorem he_down {i : Nat} {x : Int32} (hm : x = nI i - 1) (h : ¬ x < 0) : ∃ k, i = k + 1 ∧ x = nI k := by
  cases i with
  | zero => subst hm; exact absurd (by decide) h
  | succ k => exact ⟨k, rfl, by rw [hm, nI_pred]⟩
theorem he_dec (k : Nat) : nI k + (-1) = nI k - 1 := by rw [Int32.sub_eq_add_neg]
set_option maxHeartbeats 4000000 in
set_option maxRecDepth 100000 in
theorem c_X3_mostCoin0 (l : Launch) (g : he_G) (e0 : Nat) (e1 : Nat) (e2 : Nat)  : he_I l yX3_mostCoin wsX3_mostCoin 2 46 0 0 g [.ref e0] [(e0, .inr (3, [.ref e1, .ref e2])), (e1, .inl (g.2 1, 36, .inl (fun _ => 0))), (e2, .inl (g.2 1, 39, .inl (fun _ => 0)))] (fun (r : Int32) (u : Unit) => r = 0) (fun (u : Unit) => [(e0, .inr (3, [.ref e1, .ref e2])), (e1, .inl (g.2 1, 36, .inl (fun _ => 0))), (e2, .inl (g.2 1, 39, .inl (fun _ => 0)))]) := by
  refine he_begin (l := l) (g := g) (y := yX3_mostCoin) (wl := wsX3_mostCoin) (fr := 2) (lo := 46) (mc := 0) (ms := 0) (av := [.ref e0]) (ws := [(e0, .inr (3, [.ref e1, .ref e2])), (e1, .inl (g.2 1, 36, .inl (fun _ => 0))), (e2, .inl (g.2 1, 39, .inl (fun _ => 0)))]) (cc := cX3_mostCoin) (maxL := 3) (ret := (some .int)) (fun A => va_Qi (fun (r : Int32) (u : Unit) => r = 0) (fun u t => he_post g A ((fun (u : Unit) => [(e0, .inr (3, [.ref e1, .ref e2])), (e1, .inl (g.2 1, 36, .inl (fun _ => 0))), (e2, .inl (g.2 1, 39, .inl (fun _ => 0)))]) u) t) A) (by decide) rfl (Nat.le_of_ble_eq_true rfl) ?_
  intro p e s m args below meth c A ls H locs Q hQ hB
  obtain ⟨hx, hb, hr, hml, hown, hts, hlk, hin, hP, hK, hD, hS, hA, hE, hl⟩ := hB
  have hl : lv_has ls 3 [(0, .ref e0)] := hl
  have f13 := hts (.fieldLink RX3 13 "HiredEnemy$Bids" "rest" "[I") (by decide +kernel)
  have inX3 : ∀ w ∈ wsX30, w ∈ wsX3_mostCoin := by decide +kernel
  refine lv_bipush (v := 11) hx hb dX3_mostCoin_0 (by decide) ?_
  refine lv_istore_n (lv' := [(1, .int 11), (0, .ref e0)]) hx hb dX3_mostCoin_2 rfl hl (by decide) rfl (fun ls hl => ?_)
  have loop3 : ∀ (n9 : Nat) (i : Nat) (mo : Int32), i < n9 → (i ≤ 12) → (mo = nI i - 1) → ∀ (H : Heap) (locs : List Loc) (ls : Array Slot), va_P g.1 vwCl [(e0, .inr (3, [.ref e1, .ref e2])), (e1, .inl (g.2 1, 36, .inl (fun _ => 0))), (e2, .inl (g.2 1, 39, .inl (fun _ => 0)))] H → va_D A [(e0, .inr (3, [.ref e1, .ref e2])), (e1, .inl (g.2 1, 36, .inl (fun _ => 0))), (e2, .inl (g.2 1, 39, .inl (fun _ => 0)))] → va_S A s.heap H locs → lv_has ls 3 [(0, .ref e0), (1, .int mo)] → W p l e (he_room 2 46 0 0) s m args below meth c H locs 0 0 Q (F0 m 3 ls []) := by
    intro n9
    induction n9 with
    | zero => intro i mo hm9; exact absurd hm9 (Nat.not_lt_zero _)
    | succ n9 ih3 =>
      intro i mo hm9 hi hmo H locs ls hP hD hS hl
      refine lv_iload_n hx hb dX3_mostCoin_3 rfl (lv_at hl 1 rfl) ?_
      refine lv_if_lt (tgt := 42) hx hb dX3_mostCoin_4 (by decide) (fun c_1 => ?_) (fun c_1 => ?_)
      · refine lv_aload_n hx hb dX3_mostCoin_42 rfl (lv_at hl 0 rfl) ?_
        refine va_get (v := .ref e2) (T := TX3) (N := 2) hx hb hts inX3 hown hK hP 0 rfl rfl 1 (by decide) f13 (fun _ h9 => h9) rfl dX3_mostCoin_43 ?_
        refine lv_iconst (v := 0) hx hb dX3_mostCoin_46 (by decide) ?_
        refine he_iald hx hb hK hP 2 rfl (0) (by decide) (by decide) (by first | decide | assumption) (0) rfl dX3_mostCoin_47 ?_
        exact he_ri hQ hx hb hr hlk hP hD hS dX3_mostCoin_48 (Nat.le_of_ble_eq_true rfl) (Nat.le_of_ble_eq_true rfl) (()) (rfl) (rfl)
      · obtain ⟨k, rfl, rfl⟩ := he_down hmo c_1
        refine lv_iconst (v := 0) hx hb dX3_mostCoin_7 (by decide) ?_
        refine lv_istore_n (lv' := [(2, .int 0), (0, .ref e0), (1, .int (nI k))]) hx hb dX3_mostCoin_8 rfl hl (by decide) rfl (fun ls hl => ?_)
        have loop9 : ∀ (n9 : Nat) (j : Nat), 3 - j < n9 → (j ≤ 3) → ∀ (H : Heap) (locs : List Loc) (ls : Array Slot), va_P g.1 vwCl [(e0, .inr (3, [.ref e1, .ref e2])), (e1, .inl (g.2 1, 36, .inl (fun _ => 0))), (e2, .inl (g.2 1, 39, .inl (fun _ => 0)))] H → va_D A [(e0, .inr (3, [.ref e1, .ref e2])), (e1, .inl (g.2 1, 36, .inl (fun _ => 0))), (e2, .inl (g.2 1, 39, .inl (fun _ => 0)))] → va_S A s.heap H locs → lv_has ls 3 [(0, .ref e0), (1, .int (nI k)), (2, .int (nI j))] → W p l e (he_room 2 46 0 0) s m args below meth c H locs 0 0 Q (F0 m 9 ls []) := by
          intro n9
          induction n9 with
          | zero => intro j hm9; exact absurd hm9 (Nat.not_lt_zero _)
          | succ n9 ih9 =>
            intro j hm9 hj H locs ls hP hD hS hl
            refine lv_iload_n hx hb dX3_mostCoin_9 rfl (lv_at hl 2 rfl) ?_
            refine lv_iconst (v := 3) hx hb dX3_mostCoin_10 (by decide) ?_
            refine lv_icmp_ge (tgt := 36) hx hb dX3_mostCoin_11 (by decide) (fun c_2 => ?_) (fun c_2 => ?_)
            · have k_3 : 3 ≤ j := (he_cle (a := 3) (b := j) (by decide) rfl (by omega) (by omega)).mp c_2
              refine lv_iinc (v := nI k + (-1)) (lv' := [(1, .int (nI k + (-1))), (0, .ref e0), (2, .int (nI j))]) hx hb dX3_mostCoin_36 hl (k := 1) rfl rfl (by decide) rfl (fun ls hl => ?_)
              refine lv_goto (tgt := 3) hx hb dX3_mostCoin_39 (by decide) ?_
              exact ih3 k (nI k + (-1)) (by omega) (by omega) (he_dec k) _ _ _ hP hD hS (lv_sub hl [1, 0] rfl)
            · have k_4 : ¬ (3 ≤ j) := fun h9 => c_2 ((he_cle (a := 3) (b := j) (by decide) rfl (by omega) (by omega)).mpr h9)
              refine lv_aload_n hx hb dX3_mostCoin_14 rfl (lv_at hl 0 rfl) ?_
              refine va_get (v := .ref e2) (T := TX3) (N := 2) hx hb hts inX3 hown hK hP 0 rfl rfl 1 (by decide) f13 (fun _ h9 => h9) rfl dX3_mostCoin_15 ?_
              refine lv_iload_n hx hb dX3_mostCoin_18 rfl (lv_at hl 1 rfl) ?_
              refine lv_iconst (v := 3) hx hb dX3_mostCoin_19 (by decide) ?_
              refine lv_imul hx hb dX3_mostCoin_20 ?_
              refine he_top (nI (k * 3)) (pk_mul k 3) ?_
              refine lv_iload_n hx hb dX3_mostCoin_21 rfl (lv_at hl 2 rfl) ?_
              refine lv_iadd hx hb dX3_mostCoin_22 ?_
              refine he_top (nI (k * 3 + j)) (nI_add (k * 3) j) ?_
              refine lv_aload_n hx hb dX3_mostCoin_23 rfl (lv_at hl 0 rfl) ?_
              refine lv_iload_n hx hb dX3_mostCoin_24 rfl (lv_at hl 1 rfl) ?_
              refine lv_iload_n hx hb dX3_mostCoin_25 rfl (lv_at hl 2 rfl) ?_
              refine he_ci (wc := [(e0, .inr (3, [.ref e1, .ref e2])), (e1, .inl (g.2 1, 36, .inl (fun _ => 0))), (e2, .inl (g.2 1, 39, .inl (fun _ => 0)))]) (wr := []) (va_runV (As := [.int (nI k), .int (nI j)]) (rest := [.int (nI (k * 3 + j)), .ref e2]) ⟨hx, hb, hml, hown, hts⟩ (c_X3_mostFrom0 l g e0 e1 e2 k j (by first | assumption | decide | omega) (by first | assumption | decide | omega) H.size) (cwV 2 hts gX3_mostCoin_X3_mostFrom rfl rfl rfl (by decide +kernel) ⟨Nat.le_of_ble_eq_true rfl, Nat.le_of_ble_eq_true rfl⟩) (he_preV (wc := [(e0, .inr (3, [.ref e1, .ref e2])), (e1, .inl (g.2 1, 36, .inl (fun _ => 0))), (e2, .inl (g.2 1, 39, .inl (fun _ => 0)))]) hK hP hD hS hA hE [0, 1, 2] rfl rfl 0 rfl rfl) rfl rfl hl.1 rfl (lv_room (Nat.le_of_ble_eq_true rfl)) dX3_mostCoin_26 ⟨(Nat.le_of_ble_eq_true rfl), (Nat.le_of_ble_eq_true rfl)⟩) hP hD hS hA [0, 1, 2] [] rfl rfl rfl (by decide) (fun r_5 u_6 H locs h_7 hP hD hS => ?_)
              subst h_7
              have hP : va_P g.1 vwCl [(e0, .inr (3, [.ref e1, .ref e2])), (e1, .inl (g.2 1, 36, .inl (fun _ => 0))), (e2, .inl (g.2 1, 39, .inl (fun _ => 0)))] H := hP
              have hD : va_D A [(e0, .inr (3, [.ref e1, .ref e2])), (e1, .inl (g.2 1, 36, .inl (fun _ => 0))), (e2, .inl (g.2 1, 39, .inl (fun _ => 0)))] := hD
              refine he_iast hx hb hK hP hD hS 2 rfl (k * 3 + j) rfl (by first | assumption | decide | omega) (by first | decide | assumption) dX3_mostCoin_29 (fun H locs hP hD hS => ?_)
              have hP : va_P g.1 vwCl [(e0, .inr (3, [.ref e1, .ref e2])), (e1, .inl (g.2 1, 36, .inl (fun _ => 0))), (e2, .inl (g.2 1, 39, .inl (upd (fun _ => 0) (k * 3 + j) 0)))] H := hP
              have hD : va_D A [(e0, .inr (3, [.ref e1, .ref e2])), (e1, .inl (g.2 1, 36, .inl (fun _ => 0))), (e2, .inl (g.2 1, 39, .inl (upd (fun _ => 0) (k * 3 + j) 0)))] := hD
              have hn9 : upd (fun _ => 0) (k * 3 + j) 0 = fun _ => 0 := upd_z _
              rw [hn9] at hP hD
              have hP : va_P g.1 vwCl [(e0, .inr (3, [.ref e1, .ref e2])), (e1, .inl (g.2 1, 36, .inl (fun _ => 0))), (e2, .inl (g.2 1, 39, .inl (fun _ => 0)))] H := hP
              have hD : va_D A [(e0, .inr (3, [.ref e1, .ref e2])), (e1, .inl (g.2 1, 36, .inl (fun _ => 0))), (e2, .inl (g.2 1, 39, .inl (fun _ => 0)))] := hD
              refine lv_iinc (v := nI (j + 1)) (lv' := [(2, .int (nI (j + 1))), (0, .ref e0), (1, .int (nI k))]) hx hb dX3_mostCoin_30 hl (k := 2) rfl (nI_1 j) (by decide) rfl (fun ls hl => ?_)
              refine lv_goto (tgt := 9) hx hb dX3_mostCoin_33 (by decide) ?_
              exact ih9 (j + 1) (by omega) (by omega) _ _ _ hP hD hS (lv_sub hl [1, 2, 0] rfl)
        exact loop9 ((3 - 0) + 1) 0 (Nat.lt_succ_self _) (Nat.zero_le _) _ _ _ hP hD hS (lv_sub hl [1, 2, 0] rfl)
  exact loop3 ((12) + 1) 12 11 (Nat.lt_succ_self _) (by decide) (by decide) _ _ _ hP hD hS (lv_sub hl [1, 0] rfl)
set_option maxHeartbeats 4000000 in
set_option maxRecDepth 100000 in
theorem c_X3_firstWay0 (l : Launch) (g : he_G) (e0 : Nat) (e1 : Nat) (e2 : Nat) (i : Nat) (hi : i < 12) : he_I l yX3_firstWay wsX3_firstWay 1 22 0 0 g [.ref e0, .int (nI i), .int 0] [(e0, .inr (3, [.ref e1, .ref e2])), (e1, .inl (g.2 1, 36, .inl (fun _ => 0))), (e2, .inl (g.2 1, 39, .inl (fun _ => 0)))] (fun (r : Int32) (u : Unit) => r = 0) (fun (u : Unit) => [(e0, .inr (3, [.ref e1, .ref e2])), (e1, .inl (g.2 1, 36, .inl (fun _ => 0))), (e2, .inl (g.2 1, 39, .inl (fun _ => 0)))]) := by
  refine he_begin (l := l) (g := g) (y := yX3_firstWay) (wl := wsX3_firstWay) (fr := 1) (lo := 22) (mc := 0) (ms := 0) (av := [.ref e0, .int (nI i), .int 0]) (ws := [(e0, .inr (3, [.ref e1, .ref e2])), (e1, .inl (g.2 1, 36, .inl (fun _ => 0))), (e2, .inl (g.2 1, 39, .inl (fun _ => 0)))]) (cc := cX3_firstWay) (maxL := 4) (ret := (some .int)) (fun A => va_Qi (fun (r : Int32) (u : Unit) => r = 0) (fun u t => he_post g A ((fun (u : Unit) => [(e0, .inr (3, [.ref e1, .ref e2])), (e1, .inl (g.2 1, 36, .inl (fun _ => 0))), (e2, .inl (g.2 1, 39, .inl (fun _ => 0)))]) u) t) A) (by decide) rfl (Nat.le_of_ble_eq_true rfl) ?_
  intro p e s m args below meth c A ls H locs Q hQ hB
  obtain ⟨hx, hb, hr, hml, hown, hts, hlk, hin, hP, hK, hD, hS, hA, hE, hl⟩ := hB
  have hl : lv_has ls 4 [(0, .ref e0), (1, .int (nI i)), (2, .int 0)] := hl
  have f13 := hts (.fieldLink RX3 13 "HiredEnemy$Bids" "rest" "[I") (by decide +kernel)
  have inX3 : ∀ w ∈ wsX30, w ∈ wsX3_firstWay := by decide +kernel
  refine lv_iconst (v := 0) hx hb dX3_firstWay_0 (by decide) ?_
  refine lv_istore_n (lv' := [(3, .int 0), (0, .ref e0), (1, .int (nI i)), (2, .int 0)]) hx hb dX3_firstWay_1 rfl hl (by decide) rfl (fun ls hl => ?_)
  refine lv_iload_n hx hb dX3_firstWay_2 rfl (lv_at hl 0 rfl) ?_
  refine lv_iconst (v := 3) hx hb dX3_firstWay_3 (by decide) ?_
  refine lv_icmp_ge (tgt := 42) hx hb dX3_firstWay_4 (by decide) (fun c_1 => ?_) (fun c_1 => ?_)
  · exact absurd c_1 (by decide)
  · refine lv_iload_n hx hb dX3_firstWay_7 rfl (lv_at hl 3 rfl) ?_
    refine lv_iload_n hx hb dX3_firstWay_8 rfl (lv_at hl 0 rfl) ?_
    refine he_ci (wc := []) (wr := [(e0, .inr (3, [.ref e1, .ref e2])), (e1, .inl (g.2 1, 36, .inl (fun _ => 0))), (e2, .inl (g.2 1, 39, .inl (fun _ => 0)))]) (va_runS (As := [.int 0, .int 0]) (rest := []) ⟨hx, hb, hml, hown, hts⟩ (c_X3_mayFollow l g 0 0 (by first | assumption | decide | omega) (by first | assumption | decide | omega) H.size) (va_cwS 2 hts gX3_firstWay_X3_mayFollow rfl rfl rfl (by decide +kernel) ⟨Nat.le_of_ble_eq_true rfl, Nat.le_of_ble_eq_true rfl⟩) (he_preS (wc := []) hK hP hD hS hA hE [] rfl rfl) rfl rfl hl.1 rfl (lv_room (Nat.le_of_ble_eq_true rfl)) dX3_firstWay_9 ⟨(Nat.le_of_ble_eq_true rfl), (Nat.le_of_ble_eq_true rfl)⟩) hP hD hS hA [] [0, 1, 2] rfl rfl rfl (by decide) (fun r_2 u_3 H locs h_4 hP hD hS => ?_)
    subst h_4
    have hP : va_P g.1 vwCl [(e0, .inr (3, [.ref e1, .ref e2])), (e1, .inl (g.2 1, 36, .inl (fun _ => 0))), (e2, .inl (g.2 1, 39, .inl (fun _ => 0)))] H := hP
    have hD : va_D A [(e0, .inr (3, [.ref e1, .ref e2])), (e1, .inl (g.2 1, 36, .inl (fun _ => 0))), (e2, .inl (g.2 1, 39, .inl (fun _ => 0)))] := hD
    refine he_top (1) (by decide) ?_
    refine lv_if_eq (tgt := 36) hx hb dX3_firstWay_12 (by decide) (fun c_5 => ?_) (fun c_5 => ?_)
    · exact absurd c_5 (by decide)
    · refine lv_aload_n hx hb dX3_firstWay_15 rfl (lv_at hl 1 rfl) ?_
      refine lv_iload_n hx hb dX3_firstWay_16 rfl (lv_at hl 2 rfl) ?_
      refine lv_iload_n hx hb dX3_firstWay_17 rfl (lv_at hl 0 rfl) ?_
      refine he_ci (wc := [(e0, .inr (3, [.ref e1, .ref e2])), (e1, .inl (g.2 1, 36, .inl (fun _ => 0))), (e2, .inl (g.2 1, 39, .inl (fun _ => 0)))]) (wr := []) (va_runV (As := [.int (nI i), .int 0]) (rest := []) ⟨hx, hb, hml, hown, hts⟩ (c_X3_through0 l g e0 e1 e2 i 0 (by first | assumption | decide | omega) (by first | assumption | decide | omega) H.size) (cwV 2 hts gX3_firstWay_X3_through rfl rfl rfl (by decide +kernel) ⟨Nat.le_of_ble_eq_true rfl, Nat.le_of_ble_eq_true rfl⟩) (he_preV (wc := [(e0, .inr (3, [.ref e1, .ref e2])), (e1, .inl (g.2 1, 36, .inl (fun _ => 0))), (e2, .inl (g.2 1, 39, .inl (fun _ => 0)))]) hK hP hD hS hA hE [0, 1, 2] rfl rfl 0 rfl rfl) rfl rfl hl.1 rfl (lv_room (Nat.le_of_ble_eq_true rfl)) dX3_firstWay_18 ⟨(Nat.le_of_ble_eq_true rfl), (Nat.le_of_ble_eq_true rfl)⟩) hP hD hS hA [0, 1, 2] [] rfl rfl rfl (by decide) (fun r_6 u_7 H locs h_8 hP hD hS => ?_)
      subst h_8
      have hP : va_P g.1 vwCl [(e0, .inr (3, [.ref e1, .ref e2])), (e1, .inl (g.2 1, 36, .inl (fun _ => 0))), (e2, .inl (g.2 1, 39, .inl (fun _ => 0)))] H := hP
      have hD : va_D A [(e0, .inr (3, [.ref e1, .ref e2])), (e1, .inl (g.2 1, 36, .inl (fun _ => 0))), (e2, .inl (g.2 1, 39, .inl (fun _ => 0)))] := hD
      refine lv_aload_n hx hb dX3_firstWay_21 rfl (lv_at hl 1 rfl) ?_
      refine va_get (v := .ref e2) (T := TX3) (N := 2) hx hb hts inX3 hown hK hP 0 rfl rfl 1 (by decide) f13 (fun _ h9 => h9) rfl dX3_firstWay_22 ?_
      refine lv_iload_n hx hb dX3_firstWay_25 rfl (lv_at hl 2 rfl) ?_
      refine lv_iconst (v := 3) hx hb dX3_firstWay_26 (by decide) ?_
      refine lv_imul hx hb dX3_firstWay_27 ?_
      refine he_top (nI (i * 3)) (pk_mul i 3) ?_
      refine lv_iload_n hx hb dX3_firstWay_28 rfl (lv_at hl 3 rfl) ?_
      refine lv_iadd hx hb dX3_firstWay_29 ?_
      refine he_top (nI (i * 3 + 0)) (nI_add (i * 3) 0) ?_
      refine he_iald hx hb hK hP 2 rfl (i * 3 + 0) rfl (by first | assumption | decide | omega) (by first | decide | assumption) (0) rfl dX3_firstWay_30 ?_
      refine lv_icmp_ne (tgt := 36) hx hb dX3_firstWay_31 (by decide) (fun c_9 => ?_) (fun c_9 => ?_)
      · exact absurd (by decide) c_9
      · refine lv_iload_n hx hb dX3_firstWay_34 rfl (lv_at hl 0 rfl) ?_
        exact he_ri hQ hx hb hr hlk hP hD hS dX3_firstWay_35 (Nat.le_of_ble_eq_true rfl) (Nat.le_of_ble_eq_true rfl) (()) (rfl) (rfl)
set_option maxHeartbeats 4000000 in
set_option maxRecDepth 100000 in
theorem c_X3_served0 (l : Launch) (g : he_G) (e0 : Nat) (e1 : Nat) (e2 : Nat) (k : Nat) (hk : k < 12) : he_I l yX3_served wsX3_served 3 68 0 0 g [.ref e0, .int (nI k)] [(e0, .inr (3, [.ref e1, .ref e2])), (e1, .inl (g.2 1, 36, .inl (fun _ => 0))), (e2, .inl (g.2 1, 39, .inl (fun _ => 0)))] (fun (r : Int32) (u : Unit) => r = 0) (fun (u : Unit) => [(e0, .inr (3, [.ref e1, .ref e2])), (e1, .inl (g.2 1, 36, .inl (fun _ => 0))), (e2, .inl (g.2 1, 39, .inl (fun _ => 0)))]) := by
  refine he_begin (l := l) (g := g) (y := yX3_served) (wl := wsX3_served) (fr := 3) (lo := 68) (mc := 0) (ms := 0) (av := [.ref e0, .int (nI k)]) (ws := [(e0, .inr (3, [.ref e1, .ref e2])), (e1, .inl (g.2 1, 36, .inl (fun _ => 0))), (e2, .inl (g.2 1, 39, .inl (fun _ => 0)))]) (cc := cX3_served) (maxL := 4) (ret := (some .int)) (fun A => va_Qi (fun (r : Int32) (u : Unit) => r = 0) (fun u t => he_post g A ((fun (u : Unit) => [(e0, .inr (3, [.ref e1, .ref e2])), (e1, .inl (g.2 1, 36, .inl (fun _ => 0))), (e2, .inl (g.2 1, 39, .inl (fun _ => 0)))]) u) t) A) (by decide) rfl (Nat.le_of_ble_eq_true rfl) ?_
  intro p e s m args below meth c A ls H locs Q hQ hB
  obtain ⟨hx, hb, hr, hml, hown, hts, hlk, hin, hP, hK, hD, hS, hA, hE, hl⟩ := hB
  have hl : lv_has ls 4 [(0, .ref e0), (1, .int (nI k))] := hl
  refine lv_aload_n hx hb dX3_served_0 rfl (lv_at hl 0 rfl) ?_
  refine he_ci (wc := [(e0, .inr (3, [.ref e1, .ref e2])), (e1, .inl (g.2 1, 36, .inl (fun _ => 0))), (e2, .inl (g.2 1, 39, .inl (fun _ => 0)))]) (wr := []) (va_runV (As := []) (rest := []) ⟨hx, hb, hml, hown, hts⟩ (c_X3_mostCoin0 l g e0 e1 e2 H.size) (cwV 0 hts gX3_served_X3_mostCoin rfl rfl rfl (by decide +kernel) ⟨Nat.le_of_ble_eq_true rfl, Nat.le_of_ble_eq_true rfl⟩) (he_preV (wc := [(e0, .inr (3, [.ref e1, .ref e2])), (e1, .inl (g.2 1, 36, .inl (fun _ => 0))), (e2, .inl (g.2 1, 39, .inl (fun _ => 0)))]) hK hP hD hS hA hE [0, 1, 2] rfl rfl 0 rfl rfl) rfl rfl hl.1 rfl (lv_room (Nat.le_of_ble_eq_true rfl)) dX3_served_1 ⟨(Nat.le_of_ble_eq_true rfl), (Nat.le_of_ble_eq_true rfl)⟩) hP hD hS hA [0, 1, 2] [] rfl rfl rfl (by decide) (fun r_1 u_2 H locs h_3 hP hD hS => ?_)
  subst h_3
  have hP : va_P g.1 vwCl [(e0, .inr (3, [.ref e1, .ref e2])), (e1, .inl (g.2 1, 36, .inl (fun _ => 0))), (e2, .inl (g.2 1, 39, .inl (fun _ => 0)))] H := hP
  have hD : va_D A [(e0, .inr (3, [.ref e1, .ref e2])), (e1, .inl (g.2 1, 36, .inl (fun _ => 0))), (e2, .inl (g.2 1, 39, .inl (fun _ => 0)))] := hD
  refine lv_pop hx hb dX3_served_4 rfl ?_
  refine lv_iconst (v := 0) hx hb dX3_served_5 (by decide) ?_
  refine lv_istore_n (lv' := [(2, .int 0), (0, .ref e0), (1, .int (nI k))]) hx hb dX3_served_6 rfl hl (by decide) rfl (fun ls hl => ?_)
  refine lv_iconst (v := 0) hx hb dX3_served_7 (by decide) ?_
  refine lv_istore_n (lv' := [(3, .int 0), (2, .int 0), (0, .ref e0), (1, .int (nI k))]) hx hb dX3_served_8 rfl hl (by decide) rfl (fun ls hl => ?_)
  have loop9 : ∀ (n9 : Nat) (j : Nat), 12 - j < n9 → (j ≤ 12) → ∀ (H : Heap) (locs : List Loc) (ls : Array Slot), va_P g.1 vwCl [(e0, .inr (3, [.ref e1, .ref e2])), (e1, .inl (g.2 1, 36, .inl (fun _ => 0))), (e2, .inl (g.2 1, 39, .inl (fun _ => 0)))] H → va_D A [(e0, .inr (3, [.ref e1, .ref e2])), (e1, .inl (g.2 1, 36, .inl (fun _ => 0))), (e2, .inl (g.2 1, 39, .inl (fun _ => 0)))] → va_S A s.heap H locs → lv_has ls 4 [(0, .ref e0), (1, .int (nI k)), (2, .int 0), (3, .int (nI j))] → W p l e (he_room 3 68 0 0) s m args below meth c H locs 0 0 Q (F0 m 9 ls []) := by
    intro n9
    induction n9 with
    | zero => intro j hm9; exact absurd hm9 (Nat.not_lt_zero _)
    | succ n9 ih9 =>
      intro j hm9 hj H locs ls hP hD hS hl
      refine lv_iload_n hx hb dX3_served_9 rfl (lv_at hl 3 rfl) ?_
      refine lv_iload_n hx hb dX3_served_10 rfl (lv_at hl 1 rfl) ?_
      refine lv_icmp_gt (tgt := 33) hx hb dX3_served_11 (by decide) (fun c_4 => ?_) (fun c_4 => ?_)
      · have k_5 : k < j := (he_clt (a := k) (b := j) rfl rfl (by omega) (by omega)).mp c_4
        refine lv_iload_n hx hb dX3_served_33 rfl (lv_at hl 2 rfl) ?_
        exact he_ri hQ hx hb hr hlk hP hD hS dX3_served_34 (Nat.le_of_ble_eq_true rfl) (Nat.le_of_ble_eq_true rfl) (()) (rfl) (rfl)
      · have k_6 : ¬ (k < j) := fun h9 => c_4 ((he_clt (a := k) (b := j) rfl rfl (by omega) (by omega)).mpr h9)
        refine lv_iload_n hx hb dX3_served_14 rfl (lv_at hl 3 rfl) ?_
        refine lv_bipush (v := 12) hx hb dX3_served_15 (by decide) ?_
        refine lv_icmp_ge (tgt := 33) hx hb dX3_served_17 (by decide) (fun c_7 => ?_) (fun c_7 => ?_)
        · have k_8 : 12 ≤ j := (he_cle (a := 12) (b := j) (by decide) rfl (by omega) (by omega)).mp c_7
          refine lv_iload_n hx hb dX3_served_33 rfl (lv_at hl 2 rfl) ?_
          exact he_ri hQ hx hb hr hlk hP hD hS dX3_served_34 (Nat.le_of_ble_eq_true rfl) (Nat.le_of_ble_eq_true rfl) (()) (rfl) (rfl)
        · have k_9 : ¬ (12 ≤ j) := fun h9 => c_7 ((he_cle (a := 12) (b := j) (by decide) rfl (by omega) (by omega)).mpr h9)
          refine lv_aload_n hx hb dX3_served_20 rfl (lv_at hl 0 rfl) ?_
          refine lv_iload_n hx hb dX3_served_21 rfl (lv_at hl 3 rfl) ?_
          refine lv_iload_n hx hb dX3_served_22 rfl (lv_at hl 2 rfl) ?_
          refine he_ci (wc := [(e0, .inr (3, [.ref e1, .ref e2])), (e1, .inl (g.2 1, 36, .inl (fun _ => 0))), (e2, .inl (g.2 1, 39, .inl (fun _ => 0)))]) (wr := []) (va_runV (As := [.int (nI j), .int 0]) (rest := []) ⟨hx, hb, hml, hown, hts⟩ (c_X3_firstWay0 l g e0 e1 e2 j (by first | assumption | decide | omega) H.size) (cwV 2 hts gX3_served_X3_firstWay rfl rfl rfl (by decide +kernel) ⟨Nat.le_of_ble_eq_true rfl, Nat.le_of_ble_eq_true rfl⟩) (he_preV (wc := [(e0, .inr (3, [.ref e1, .ref e2])), (e1, .inl (g.2 1, 36, .inl (fun _ => 0))), (e2, .inl (g.2 1, 39, .inl (fun _ => 0)))]) hK hP hD hS hA hE [0, 1, 2] rfl rfl 0 rfl rfl) rfl rfl hl.1 rfl (lv_room (Nat.le_of_ble_eq_true rfl)) dX3_served_23 ⟨(Nat.le_of_ble_eq_true rfl), (Nat.le_of_ble_eq_true rfl)⟩) hP hD hS hA [0, 1, 2] [] rfl rfl rfl (by decide) (fun r_10 u_11 H locs h_12 hP hD hS => ?_)
          subst h_12
          have hP : va_P g.1 vwCl [(e0, .inr (3, [.ref e1, .ref e2])), (e1, .inl (g.2 1, 36, .inl (fun _ => 0))), (e2, .inl (g.2 1, 39, .inl (fun _ => 0)))] H := hP
          have hD : va_D A [(e0, .inr (3, [.ref e1, .ref e2])), (e1, .inl (g.2 1, 36, .inl (fun _ => 0))), (e2, .inl (g.2 1, 39, .inl (fun _ => 0)))] := hD
          refine lv_istore_n (lv' := [(2, .int 0), (0, .ref e0), (1, .int (nI k)), (3, .int (nI j))]) hx hb dX3_served_26 rfl hl (by decide) rfl (fun ls hl => ?_)
          refine lv_iinc (v := nI (j + 1)) (lv' := [(3, .int (nI (j + 1))), (2, .int 0), (0, .ref e0), (1, .int (nI k))]) hx hb dX3_served_27 hl (k := 3) rfl (nI_1 j) (by decide) rfl (fun ls hl => ?_)
          refine lv_goto (tgt := 9) hx hb dX3_served_30 (by decide) ?_
          exact ih9 (j + 1) (by omega) (by omega) _ _ _ hP hD hS (lv_sub hl [2, 3, 1, 0] rfl)
  exact loop9 ((12 - 0) + 1) 0 (Nat.lt_succ_self _) (Nat.zero_le _) _ _ _ hP hD hS (lv_sub hl [2, 3, 1, 0] rfl)
set_option maxHeartbeats 4000000 in
set_option maxRecDepth 100000 in
theorem c_X1_prepare0 (l : Launch) (g : he_G) (v0 : Nat) (v1 : Nat) (v2 : Nat) (v3 : Nat) (ww : Int32) (dg : Int32) (wo : Nat → Int32) (he_ : Nat → Int32) (pf : Nat → Int32) (p0 : Nat) (p1 : Nat) (p2 : Nat) (p3 : Nat) (p4 : Nat)  : he_V l yX1_prepare wsX1_prepare 1 14 0 0 g [.ref v0, .ref p0] [(v0, .inr (1, [.ref v1, .ref v2, .ref v3, .int ww, .int dg])), (v1, .inl (g.2 1, 3, .inl wo)), (v2, .inl (g.2 1, 3, .inl he_)), (v3, .inl (g.2 1, 3, .inl pf)), (p0, .inr (6, [.ref p1, .ref p2, .ref p3, .ref p4, .int 0]))] (fun (u : Unit) => True) (fun (u : Unit) => [(v0, .inr (1, [.ref v1, .ref v2, .ref v3, .int 0, .int dg])), (v1, .inl (g.2 1, 3, .inl wo)), (v2, .inl (g.2 1, 3, .inl he_)), (v3, .inl (g.2 1, 3, .inl pf)), (p0, .inr (6, [.ref p1, .ref p2, .ref p3, .ref p4, .int 0]))]) := by
  refine he_begin (l := l) (g := g) (y := yX1_prepare) (wl := wsX1_prepare) (fr := 1) (lo := 14) (mc := 0) (ms := 0) (av := [.ref v0, .ref p0]) (ws := [(v0, .inr (1, [.ref v1, .ref v2, .ref v3, .int ww, .int dg])), (v1, .inl (g.2 1, 3, .inl wo)), (v2, .inl (g.2 1, 3, .inl he_)), (v3, .inl (g.2 1, 3, .inl pf)), (p0, .inr (6, [.ref p1, .ref p2, .ref p3, .ref p4, .int 0]))]) (cc := cX1_prepare) (maxL := 3) (ret := none) (fun A => va_Qv (fun (u : Unit) => True) (fun u t => he_post g A ((fun (u : Unit) => [(v0, .inr (1, [.ref v1, .ref v2, .ref v3, .int 0, .int dg])), (v1, .inl (g.2 1, 3, .inl wo)), (v2, .inl (g.2 1, 3, .inl he_)), (v3, .inl (g.2 1, 3, .inl pf)), (p0, .inr (6, [.ref p1, .ref p2, .ref p3, .ref p4, .int 0]))]) u) t) A) (by decide) rfl (Nat.le_of_ble_eq_true rfl) ?_
  intro p e s m args below meth c A ls H locs Q hQ hB
  obtain ⟨hx, hb, hr, hml, hown, hts, hlk, hin, hP, hK, hD, hS, hA, hE, hl⟩ := hB
  have hl : lv_has ls 3 [(0, .ref v0), (1, .ref p0)] := hl
  have f21 := hts (.fieldLink RX1 21 "HiredEnemy$Plan" "walls" "I") (by decide +kernel)
  have inX6 : ∀ w ∈ wsX60, w ∈ wsX1_prepare := by decide +kernel
  have ml27 := hts (.methodLink RX1 27 Lib.Math.min.name) (by decide +kernel)
  have msmin := hts (.static Lib.Math.min.name) (by decide +kernel)
  have mi := hts (.initialized "java/lang/Math") (by decide +kernel)
  have mcmin := hts (.code Lib.Math.min.name Lib.Math.min.code 2 (some .int)) (by decide +kernel)
  have f33 := hts (.fieldLink RX1 33 "HiredEnemy$Battle" "walls" "I") (by decide +kernel)
  have inX1 : ∀ w ∈ wsX10, w ∈ wsX1_prepare := by decide +kernel
  refine lv_aload_n hx hb dX1_prepare_0 rfl (lv_at hl 0 rfl) ?_
  refine lv_aload_n hx hb dX1_prepare_1 rfl (lv_at hl 1 rfl) ?_
  refine va_get (v := .int 0) (T := TX6) (N := 5) hx hb hts inX6 hown hK hP 4 rfl rfl 4 (by decide) f21 (fun _ h9 => h9) rfl dX1_prepare_2 ?_
  refine lv_iconst (v := 3) hx hb dX1_prepare_5 (by decide) ?_
  refine va_mmin hx hb (by rw [hml]; exact hl.1.symm) hown ml27 msmin mi mcmin (by decide) (Nat.le_of_ble_eq_true rfl) (Nat.le_of_ble_eq_true rfl) (Nat.le_of_ble_eq_true rfl) dX1_prepare_6 ?_
  refine he_top (0) (by decide) ?_
  refine va_put (v := .int 0) (ty := .int) (T := TX1) (N := 5) hx hb hts inX1 tyX1 tyX1_ok nmX1 hown hK hP hD hS 0 rfl rfl 3 (by decide) f33 (fun _ h9 => h9) rfl (by decide +kernel) rfl rfl (Nat.le_of_ble_eq_true rfl) dX1_prepare_9 (fun H locs hP hD hS => ?_)
  have hP : va_P g.1 vwCl [(v0, .inr (1, [.ref v1, .ref v2, .ref v3, .int 0, .int dg])), (v1, .inl (g.2 1, 3, .inl wo)), (v2, .inl (g.2 1, 3, .inl he_)), (v3, .inl (g.2 1, 3, .inl pf)), (p0, .inr (6, [.ref p1, .ref p2, .ref p3, .ref p4, .int 0]))] H := hP
  have hD : va_D A [(v0, .inr (1, [.ref v1, .ref v2, .ref v3, .int 0, .int dg])), (v1, .inl (g.2 1, 3, .inl wo)), (v2, .inl (g.2 1, 3, .inl he_)), (v3, .inl (g.2 1, 3, .inl pf)), (p0, .inr (6, [.ref p1, .ref p2, .ref p3, .ref p4, .int 0]))] := hD
  refine lv_iconst (v := 0) hx hb dX1_prepare_12 (by decide) ?_
  refine lv_istore_n (lv' := [(2, .int 0), (0, .ref v0), (1, .ref p0)]) hx hb dX1_prepare_13 rfl hl (by decide) rfl (fun ls hl => ?_)
  refine lv_iload_n hx hb dX1_prepare_14 rfl (lv_at hl 0 rfl) ?_
  refine lv_aload_n hx hb dX1_prepare_15 rfl (lv_at hl 1 rfl) ?_
  refine va_get (v := .int 0) (T := TX1) (N := 5) hx hb hts inX1 hown hK hP 0 rfl rfl 3 (by decide) f33 (fun _ h9 => h9) rfl dX1_prepare_16 ?_
  refine lv_icmp_ge (tgt := 55) hx hb dX1_prepare_19 (by decide) (fun c_1 => ?_) (fun c_1 => ?_)
  · exact he_rv hQ hx hb hr hlk hP hD hS dX1_prepare_55 (Nat.le_of_ble_eq_true rfl) (Nat.le_of_ble_eq_true rfl) (()) (rfl) (trivial)
  · exact absurd (by decide) c_1
set_option maxHeartbeats 4000000 in
set_option maxRecDepth 100000 in
theorem c_X1_all0 (l : Launch) (g : he_G) (v0 : Nat) (v1 : Nat) (v2 : Nat) (v3 : Nat) (dg : Int32) (wo : Nat → Int32) (he_ : Nat → Int32) (pf : Nat → Int32)  : he_I l yX1_all wsX1_all 0 0 0 0 g [.ref v0] [(v0, .inr (1, [.ref v1, .ref v2, .ref v3, .int 0, .int dg])), (v1, .inl (g.2 1, 3, .inl wo)), (v2, .inl (g.2 1, 3, .inl he_)), (v3, .inl (g.2 1, 3, .inl pf))] (fun (r : Int32) (u : Unit) => r = 0) (fun (u : Unit) => [(v0, .inr (1, [.ref v1, .ref v2, .ref v3, .int 0, .int dg])), (v1, .inl (g.2 1, 3, .inl wo)), (v2, .inl (g.2 1, 3, .inl he_)), (v3, .inl (g.2 1, 3, .inl pf))]) := by
  refine he_begin (l := l) (g := g) (y := yX1_all) (wl := wsX1_all) (fr := 0) (lo := 0) (mc := 0) (ms := 0) (av := [.ref v0]) (ws := [(v0, .inr (1, [.ref v1, .ref v2, .ref v3, .int 0, .int dg])), (v1, .inl (g.2 1, 3, .inl wo)), (v2, .inl (g.2 1, 3, .inl he_)), (v3, .inl (g.2 1, 3, .inl pf))]) (cc := cX1_all) (maxL := 1) (ret := (some .int)) (fun A => va_Qi (fun (r : Int32) (u : Unit) => r = 0) (fun u t => he_post g A ((fun (u : Unit) => [(v0, .inr (1, [.ref v1, .ref v2, .ref v3, .int 0, .int dg])), (v1, .inl (g.2 1, 3, .inl wo)), (v2, .inl (g.2 1, 3, .inl he_)), (v3, .inl (g.2 1, 3, .inl pf))]) u) t) A) (by decide) rfl (Nat.le_of_ble_eq_true rfl) ?_
  intro p e s m args below meth c A ls H locs Q hQ hB
  obtain ⟨hx, hb, hr, hml, hown, hts, hlk, hin, hP, hK, hD, hS, hA, hE, hl⟩ := hB
  have hl : lv_has ls 1 [(0, .ref v0)] := hl
  have f33 := hts (.fieldLink RX1 33 "HiredEnemy$Battle" "walls" "I") (by decide +kernel)
  have inX1 : ∀ w ∈ wsX10, w ∈ wsX1_all := by decide +kernel
  refine lv_iconst (v := 1) hx hb dX1_all_0 (by decide) ?_
  refine lv_aload_n hx hb dX1_all_1 rfl (lv_at hl 0 rfl) ?_
  refine va_get (v := .int 0) (T := TX1) (N := 5) hx hb hts inX1 hown hK hP 0 rfl rfl 3 (by decide) f33 (fun _ h9 => h9) rfl dX1_all_2 ?_
  refine lv_ishl hx hb dX1_all_5 ?_
  refine he_top (1) (by decide) ?_
  refine lv_iconst (v := 1) hx hb dX1_all_6 (by decide) ?_
  refine lv_isub hx hb dX1_all_7 ?_
  refine he_top (0) (by decide) ?_
  exact he_ri hQ hx hb hr hlk hP hD hS dX1_all_8 (Nat.le_of_ble_eq_true rfl) (Nat.le_of_ble_eq_true rfl) (()) (rfl) (rfl)
set_option maxHeartbeats 4000000 in
set_option maxRecDepth 100000 in
theorem c_X1_place0 (l : Launch) (g : he_G) (v0 : Nat) (v1 : Nat) (v2 : Nat) (v3 : Nat) (dg : Int32) (wo : Nat → Int32) (he_ : Nat → Int32) (pf : Nat → Int32) (x : Int32) (y : Int32) (z : Int32)  : he_I l yX1_place wsX1_place 0 0 0 0 g [.ref v0, .int 0, .int x, .int y, .int z] [(v0, .inr (1, [.ref v1, .ref v2, .ref v3, .int 0, .int dg])), (v1, .inl (g.2 1, 3, .inl wo)), (v2, .inl (g.2 1, 3, .inl he_)), (v3, .inl (g.2 1, 3, .inl pf))] (fun (r : Int32) (u : Nat → Int32) => r = 0 ∨ r = 1) (fun (u : Nat → Int32) => [(v0, .inr (1, [.ref v1, .ref v2, .ref v3, .int 0, .int dg])), (v1, .inl (g.2 1, 3, .inl wo)), (v2, .inl (g.2 1, 3, .inl he_)), (v3, .inl (g.2 1, 3, .inl u))]) := by
  refine he_begin (l := l) (g := g) (y := yX1_place) (wl := wsX1_place) (fr := 0) (lo := 0) (mc := 0) (ms := 0) (av := [.ref v0, .int 0, .int x, .int y, .int z]) (ws := [(v0, .inr (1, [.ref v1, .ref v2, .ref v3, .int 0, .int dg])), (v1, .inl (g.2 1, 3, .inl wo)), (v2, .inl (g.2 1, 3, .inl he_)), (v3, .inl (g.2 1, 3, .inl pf))]) (cc := cX1_place) (maxL := 6) (ret := (some .boolean)) (fun A => va_Qi (fun (r : Int32) (u : Nat → Int32) => r = 0 ∨ r = 1) (fun u t => he_post g A ((fun (u : Nat → Int32) => [(v0, .inr (1, [.ref v1, .ref v2, .ref v3, .int 0, .int dg])), (v1, .inl (g.2 1, 3, .inl wo)), (v2, .inl (g.2 1, 3, .inl he_)), (v3, .inl (g.2 1, 3, .inl u))]) u) t) A) (by decide) rfl (Nat.le_of_ble_eq_true rfl) ?_
  intro p e s m args below meth c A ls H locs Q hQ hB
  obtain ⟨hx, hb, hr, hml, hown, hts, hlk, hin, hP, hK, hD, hS, hA, hE, hl⟩ := hB
  have hl : lv_has ls 6 [(0, .ref v0), (1, .int 0), (2, .int x), (3, .int y), (4, .int z)] := hl
  have f18 := hts (.fieldLink RX1 18 "HiredEnemy$Battle" "put" "[I") (by decide +kernel)
  have inX1 : ∀ w ∈ wsX10, w ∈ wsX1_place := by decide +kernel
  refine lv_aload_n hx hb dX1_place_0 rfl (lv_at hl 0 rfl) ?_
  refine va_get (v := .ref v3) (T := TX1) (N := 5) hx hb hts inX1 hown hK hP 0 rfl rfl 2 (by decide) f18 (fun _ h9 => h9) rfl dX1_place_1 ?_
  refine lv_iconst (v := 0) hx hb dX1_place_4 (by decide) ?_
  refine lv_iload_n hx hb dX1_place_5 rfl (lv_at hl 2 rfl) ?_
  refine he_iast hx hb hK hP hD hS 3 rfl (0) (by decide) (by decide) (by first | decide | assumption) dX1_place_6 (fun H locs hP hD hS => ?_)
  have hP : va_P g.1 vwCl [(v0, .inr (1, [.ref v1, .ref v2, .ref v3, .int 0, .int dg])), (v1, .inl (g.2 1, 3, .inl wo)), (v2, .inl (g.2 1, 3, .inl he_)), (v3, .inl (g.2 1, 3, .inl (upd pf 0 x)))] H := hP
  have hD : va_D A [(v0, .inr (1, [.ref v1, .ref v2, .ref v3, .int 0, .int dg])), (v1, .inl (g.2 1, 3, .inl wo)), (v2, .inl (g.2 1, 3, .inl he_)), (v3, .inl (g.2 1, 3, .inl (upd pf 0 x)))] := hD
  refine lv_aload_n hx hb dX1_place_7 rfl (lv_at hl 0 rfl) ?_
  refine va_get (v := .ref v3) (T := TX1) (N := 5) hx hb hts inX1 hown hK hP 0 rfl rfl 2 (by decide) f18 (fun _ h9 => h9) rfl dX1_place_8 ?_
  refine lv_iconst (v := 1) hx hb dX1_place_11 (by decide) ?_
  refine lv_iload_n hx hb dX1_place_12 rfl (lv_at hl 3 rfl) ?_
  refine he_iast hx hb hK hP hD hS 3 rfl (1) (by decide) (by decide) (by first | decide | assumption) dX1_place_13 (fun H locs hP hD hS => ?_)
  have hP : va_P g.1 vwCl [(v0, .inr (1, [.ref v1, .ref v2, .ref v3, .int 0, .int dg])), (v1, .inl (g.2 1, 3, .inl wo)), (v2, .inl (g.2 1, 3, .inl he_)), (v3, .inl (g.2 1, 3, .inl (upd (upd pf 0 x) 1 y)))] H := hP
  have hD : va_D A [(v0, .inr (1, [.ref v1, .ref v2, .ref v3, .int 0, .int dg])), (v1, .inl (g.2 1, 3, .inl wo)), (v2, .inl (g.2 1, 3, .inl he_)), (v3, .inl (g.2 1, 3, .inl (upd (upd pf 0 x) 1 y)))] := hD
  refine lv_aload_n hx hb dX1_place_14 rfl (lv_at hl 0 rfl) ?_
  refine va_get (v := .ref v3) (T := TX1) (N := 5) hx hb hts inX1 hown hK hP 0 rfl rfl 2 (by decide) f18 (fun _ h9 => h9) rfl dX1_place_15 ?_
  refine lv_iconst (v := 2) hx hb dX1_place_18 (by decide) ?_
  refine lv_iload hx hb dX1_place_19 (lv_at hl 4 rfl) ?_
  refine he_iast hx hb hK hP hD hS 3 rfl (2) (by decide) (by decide) (by first | decide | assumption) dX1_place_21 (fun H locs hP hD hS => ?_)
  have hP : va_P g.1 vwCl [(v0, .inr (1, [.ref v1, .ref v2, .ref v3, .int 0, .int dg])), (v1, .inl (g.2 1, 3, .inl wo)), (v2, .inl (g.2 1, 3, .inl he_)), (v3, .inl (g.2 1, 3, .inl (upd (upd (upd pf 0 x) 1 y) 2 z)))] H := hP
  have hD : va_D A [(v0, .inr (1, [.ref v1, .ref v2, .ref v3, .int 0, .int dg])), (v1, .inl (g.2 1, 3, .inl wo)), (v2, .inl (g.2 1, 3, .inl he_)), (v3, .inl (g.2 1, 3, .inl (upd (upd (upd pf 0 x) 1 y) 2 z)))] := hD
  refine lv_iconst (v := 0) hx hb dX1_place_22 (by decide) ?_
  refine lv_istore (lv' := [(5, .int 0), (0, .ref v0), (1, .int 0), (2, .int x), (3, .int y), (4, .int z)]) hx hb dX1_place_23 hl (by decide) rfl (fun ls hl => ?_)
  refine lv_iload hx hb dX1_place_25 (lv_at hl 0 rfl) ?_
  refine lv_iconst (v := 3) hx hb dX1_place_27 (by decide) ?_
  refine lv_icmp_ge (tgt := 58) hx hb dX1_place_28 (by decide) (fun c_1 => ?_) (fun c_1 => ?_)
  · exact absurd c_1 (by decide)
  · refine lv_aload_n hx hb dX1_place_31 rfl (lv_at hl 1 rfl) ?_
    refine va_get (v := .ref v3) (T := TX1) (N := 5) hx hb hts inX1 hown hK hP 0 rfl rfl 2 (by decide) f18 (fun _ h9 => h9) rfl dX1_place_32 ?_
    refine lv_iload hx hb dX1_place_35 (lv_at hl 0 rfl) ?_
    refine he_iald hx hb hK hP 3 rfl (0) (by decide) (by decide) (by first | decide | assumption) ((upd (upd (upd pf 0 x) 1 y) 2 z) 0) rfl dX1_place_37 ?_
    refine lv_if_le (tgt := 52) hx hb dX1_place_38 (by decide) (fun c_2 => ?_) (fun c_2 => ?_)
    · refine lv_iinc (v := 1) (lv' := [(5, .int 1), (0, .ref v0), (1, .int 0), (2, .int x), (3, .int y), (4, .int z)]) hx hb dX1_place_52 hl (k := 0) rfl (by decide) (by decide) rfl (fun ls hl => ?_)
      refine lv_goto (tgt := 25) hx hb dX1_place_55 (by decide) ?_
      refine lv_iload hx hb dX1_place_25 (lv_at hl 0 rfl) ?_
      refine lv_iconst (v := 3) hx hb dX1_place_27 (by decide) ?_
      refine lv_icmp_ge (tgt := 58) hx hb dX1_place_28 (by decide) (fun c_3 => ?_) (fun c_3 => ?_)
      · exact absurd c_3 (by decide)
      · refine lv_aload_n hx hb dX1_place_31 rfl (lv_at hl 1 rfl) ?_
        refine va_get (v := .ref v3) (T := TX1) (N := 5) hx hb hts inX1 hown hK hP 0 rfl rfl 2 (by decide) f18 (fun _ h9 => h9) rfl dX1_place_32 ?_
        refine lv_iload hx hb dX1_place_35 (lv_at hl 0 rfl) ?_
        refine he_iald hx hb hK hP 3 rfl (1) (by decide) (by decide) (by first | decide | assumption) ((upd (upd (upd pf 0 x) 1 y) 2 z) 1) rfl dX1_place_37 ?_
        refine lv_if_le (tgt := 52) hx hb dX1_place_38 (by decide) (fun c_4 => ?_) (fun c_4 => ?_)
        · refine lv_iinc (v := 2) (lv' := [(5, .int 2), (0, .ref v0), (1, .int 0), (2, .int x), (3, .int y), (4, .int z)]) hx hb dX1_place_52 hl (k := 0) rfl (by decide) (by decide) rfl (fun ls hl => ?_)
          refine lv_goto (tgt := 25) hx hb dX1_place_55 (by decide) ?_
          refine lv_iload hx hb dX1_place_25 (lv_at hl 0 rfl) ?_
          refine lv_iconst (v := 3) hx hb dX1_place_27 (by decide) ?_
          refine lv_icmp_ge (tgt := 58) hx hb dX1_place_28 (by decide) (fun c_5 => ?_) (fun c_5 => ?_)
          · exact absurd c_5 (by decide)
          · refine lv_aload_n hx hb dX1_place_31 rfl (lv_at hl 1 rfl) ?_
            refine va_get (v := .ref v3) (T := TX1) (N := 5) hx hb hts inX1 hown hK hP 0 rfl rfl 2 (by decide) f18 (fun _ h9 => h9) rfl dX1_place_32 ?_
            refine lv_iload hx hb dX1_place_35 (lv_at hl 0 rfl) ?_
            refine he_iald hx hb hK hP 3 rfl (2) (by decide) (by decide) (by first | decide | assumption) ((upd (upd (upd pf 0 x) 1 y) 2 z) 2) rfl dX1_place_37 ?_
            refine lv_if_le (tgt := 52) hx hb dX1_place_38 (by decide) (fun c_6 => ?_) (fun c_6 => ?_)
            · refine lv_iinc (v := 3) (lv' := [(5, .int 3), (0, .ref v0), (1, .int 0), (2, .int x), (3, .int y), (4, .int z)]) hx hb dX1_place_52 hl (k := 0) rfl (by decide) (by decide) rfl (fun ls hl => ?_)
              refine lv_goto (tgt := 25) hx hb dX1_place_55 (by decide) ?_
              refine lv_iload hx hb dX1_place_25 (lv_at hl 0 rfl) ?_
              refine lv_iconst (v := 3) hx hb dX1_place_27 (by decide) ?_
              refine lv_icmp_ge (tgt := 58) hx hb dX1_place_28 (by decide) (fun c_7 => ?_) (fun c_7 => ?_)
              · refine lv_iconst (v := 1) hx hb dX1_place_58 (by decide) ?_
                exact he_rz hQ hx hb hr hlk hP hD hS dX1_place_59 (Nat.le_of_ble_eq_true rfl) (Nat.le_of_ble_eq_true rfl) rfl (upd (upd (upd pf 0 x) 1 y) 2 z) (rfl) (by first | exact Or.inl rfl | exact Or.inr rfl)
              · exact absurd (by decide) c_7
            · refine lv_iload_n hx hb dX1_place_41 rfl (lv_at hl 2 rfl) ?_
              refine lv_iload hx hb dX1_place_42 (lv_at hl 0 rfl) ?_
              refine lv_ishr hx hb dX1_place_44 ?_
              refine he_top (0) (by decide) ?_
              refine lv_iconst (v := 1) hx hb dX1_place_45 (by decide) ?_
              refine lv_iand hx hb dX1_place_46 ?_
              refine he_top (0) (by decide) ?_
              refine lv_if_ne (tgt := 52) hx hb dX1_place_47 (by decide) (fun c_8 => ?_) (fun c_8 => ?_)
              · exact absurd (by decide) c_8
              · refine lv_iconst (v := 0) hx hb dX1_place_50 (by decide) ?_
                exact he_rz hQ hx hb hr hlk hP hD hS dX1_place_51 (Nat.le_of_ble_eq_true rfl) (Nat.le_of_ble_eq_true rfl) rfl (upd (upd (upd pf 0 x) 1 y) 2 z) (rfl) (by first | exact Or.inl rfl | exact Or.inr rfl)
        · refine lv_iload_n hx hb dX1_place_41 rfl (lv_at hl 2 rfl) ?_
          refine lv_iload hx hb dX1_place_42 (lv_at hl 0 rfl) ?_
          refine lv_ishr hx hb dX1_place_44 ?_
          refine he_top (0) (by decide) ?_
          refine lv_iconst (v := 1) hx hb dX1_place_45 (by decide) ?_
          refine lv_iand hx hb dX1_place_46 ?_
          refine he_top (0) (by decide) ?_
          refine lv_if_ne (tgt := 52) hx hb dX1_place_47 (by decide) (fun c_9 => ?_) (fun c_9 => ?_)
          · exact absurd (by decide) c_9
          · refine lv_iconst (v := 0) hx hb dX1_place_50 (by decide) ?_
            exact he_rz hQ hx hb hr hlk hP hD hS dX1_place_51 (Nat.le_of_ble_eq_true rfl) (Nat.le_of_ble_eq_true rfl) rfl (upd (upd (upd pf 0 x) 1 y) 2 z) (rfl) (by first | exact Or.inl rfl | exact Or.inr rfl)
    · refine lv_iload_n hx hb dX1_place_41 rfl (lv_at hl 2 rfl) ?_
      refine lv_iload hx hb dX1_place_42 (lv_at hl 0 rfl) ?_
      refine lv_ishr hx hb dX1_place_44 ?_
      refine he_top (0) (by decide) ?_
      refine lv_iconst (v := 1) hx hb dX1_place_45 (by decide) ?_
      refine lv_iand hx hb dX1_place_46 ?_
      refine he_top (0) (by decide) ?_
      refine lv_if_ne (tgt := 52) hx hb dX1_place_47 (by decide) (fun c_10 => ?_) (fun c_10 => ?_)
      · exact absurd (by decide) c_10
      · refine lv_iconst (v := 0) hx hb dX1_place_50 (by decide) ?_
        exact he_rz hQ hx hb hr hlk hP hD hS dX1_place_51 (Nat.le_of_ble_eq_true rfl) (Nat.le_of_ble_eq_true rfl) rfl (upd (upd (upd pf 0 x) 1 y) 2 z) (rfl) (by first | exact Or.inl rfl | exact Or.inr rfl)
set_option maxHeartbeats 4000000 in
set_option maxRecDepth 100000 in
theorem c_X1_digits0 (l : Launch) (g : he_G) (v0 : Nat) (v1 : Nat) (v2 : Nat) (v3 : Nat) (dg : Int32) (wo : Nat → Int32) (he_ : Nat → Int32) (pf : Nat → Int32)  : he_I l yX1_digits wsX1_digits 0 0 0 0 g [.ref v0] [(v0, .inr (1, [.ref v1, .ref v2, .ref v3, .int 0, .int dg])), (v1, .inl (g.2 1, 3, .inl wo)), (v2, .inl (g.2 1, 3, .inl he_)), (v3, .inl (g.2 1, 3, .inl pf))] (fun (r : Int32) (u : Unit) => r = 0) (fun (u : Unit) => [(v0, .inr (1, [.ref v1, .ref v2, .ref v3, .int 0, .int dg])), (v1, .inl (g.2 1, 3, .inl wo)), (v2, .inl (g.2 1, 3, .inl he_)), (v3, .inl (g.2 1, 3, .inl pf))]) := by
  refine he_begin (l := l) (g := g) (y := yX1_digits) (wl := wsX1_digits) (fr := 0) (lo := 0) (mc := 0) (ms := 0) (av := [.ref v0]) (ws := [(v0, .inr (1, [.ref v1, .ref v2, .ref v3, .int 0, .int dg])), (v1, .inl (g.2 1, 3, .inl wo)), (v2, .inl (g.2 1, 3, .inl he_)), (v3, .inl (g.2 1, 3, .inl pf))]) (cc := cX1_digits) (maxL := 3) (ret := (some .int)) (fun A => va_Qi (fun (r : Int32) (u : Unit) => r = 0) (fun u t => he_post g A ((fun (u : Unit) => [(v0, .inr (1, [.ref v1, .ref v2, .ref v3, .int 0, .int dg])), (v1, .inl (g.2 1, 3, .inl wo)), (v2, .inl (g.2 1, 3, .inl he_)), (v3, .inl (g.2 1, 3, .inl pf))]) u) t) A) (by decide) rfl (Nat.le_of_ble_eq_true rfl) ?_
  intro p e s m args below meth c A ls H locs Q hQ hB
  obtain ⟨hx, hb, hr, hml, hown, hts, hlk, hin, hP, hK, hD, hS, hA, hE, hl⟩ := hB
  have hl : lv_has ls 3 [(0, .ref v0)] := hl
  have f33 := hts (.fieldLink RX1 33 "HiredEnemy$Battle" "walls" "I") (by decide +kernel)
  have inX1 : ∀ w ∈ wsX10, w ∈ wsX1_digits := by decide +kernel
  refine lv_iconst (v := 0) hx hb dX1_digits_0 (by decide) ?_
  refine lv_istore_n (lv' := [(1, .int 0), (0, .ref v0)]) hx hb dX1_digits_1 rfl hl (by decide) rfl (fun ls hl => ?_)
  refine lv_iconst (v := 0) hx hb dX1_digits_2 (by decide) ?_
  refine lv_istore_n (lv' := [(2, .int 0), (1, .int 0), (0, .ref v0)]) hx hb dX1_digits_3 rfl hl (by decide) rfl (fun ls hl => ?_)
  refine lv_iload_n hx hb dX1_digits_4 rfl (lv_at hl 0 rfl) ?_
  refine lv_aload_n hx hb dX1_digits_5 rfl (lv_at hl 2 rfl) ?_
  refine va_get (v := .int 0) (T := TX1) (N := 5) hx hb hts inX1 hown hK hP 0 rfl rfl 3 (by decide) f33 (fun _ h9 => h9) rfl dX1_digits_6 ?_
  refine lv_icmp_ge (tgt := 30) hx hb dX1_digits_9 (by decide) (fun c_1 => ?_) (fun c_1 => ?_)
  · refine lv_iload_n hx hb dX1_digits_30 rfl (lv_at hl 1 rfl) ?_
    exact he_ri hQ hx hb hr hlk hP hD hS dX1_digits_31 (Nat.le_of_ble_eq_true rfl) (Nat.le_of_ble_eq_true rfl) (()) (rfl) (rfl)
  · exact absurd (by decide) c_1
set_option maxHeartbeats 4000000 in
set_option maxRecDepth 100000 in
theorem c_X1_menToFell0 (l : Launch) (g : he_G) (v0 : Nat) (v1 : Nat) (v2 : Nat) (v3 : Nat) (dg : Int32) (wo : Nat → Int32) (he_ : Nat → Int32) (pf : Nat → Int32)  : he_I l yX1_menToFell wsX1_menToFell 0 0 0 0 g [.ref v0, .int 0] [(v0, .inr (1, [.ref v1, .ref v2, .ref v3, .int 0, .int dg])), (v1, .inl (g.2 1, 3, .inl wo)), (v2, .inl (g.2 1, 3, .inl he_)), (v3, .inl (g.2 1, 3, .inl pf))] (fun (r : Int32) (u : Unit) => r = 0) (fun (u : Unit) => [(v0, .inr (1, [.ref v1, .ref v2, .ref v3, .int 0, .int dg])), (v1, .inl (g.2 1, 3, .inl wo)), (v2, .inl (g.2 1, 3, .inl he_)), (v3, .inl (g.2 1, 3, .inl pf))]) := by
  refine he_begin (l := l) (g := g) (y := yX1_menToFell) (wl := wsX1_menToFell) (fr := 0) (lo := 0) (mc := 0) (ms := 0) (av := [.ref v0, .int 0]) (ws := [(v0, .inr (1, [.ref v1, .ref v2, .ref v3, .int 0, .int dg])), (v1, .inl (g.2 1, 3, .inl wo)), (v2, .inl (g.2 1, 3, .inl he_)), (v3, .inl (g.2 1, 3, .inl pf))]) (cc := cX1_menToFell) (maxL := 4) (ret := (some .int)) (fun A => va_Qi (fun (r : Int32) (u : Unit) => r = 0) (fun u t => he_post g A ((fun (u : Unit) => [(v0, .inr (1, [.ref v1, .ref v2, .ref v3, .int 0, .int dg])), (v1, .inl (g.2 1, 3, .inl wo)), (v2, .inl (g.2 1, 3, .inl he_)), (v3, .inl (g.2 1, 3, .inl pf))]) u) t) A) (by decide) rfl (Nat.le_of_ble_eq_true rfl) ?_
  intro p e s m args below meth c A ls H locs Q hQ hB
  obtain ⟨hx, hb, hr, hml, hown, hts, hlk, hin, hP, hK, hD, hS, hA, hE, hl⟩ := hB
  have hl : lv_has ls 4 [(0, .ref v0), (1, .int 0)] := hl
  refine lv_iconst (v := 0) hx hb dX1_menToFell_0 (by decide) ?_
  refine lv_istore_n (lv' := [(2, .int 0), (0, .ref v0), (1, .int 0)]) hx hb dX1_menToFell_1 rfl hl (by decide) rfl (fun ls hl => ?_)
  refine lv_iconst (v := 0) hx hb dX1_menToFell_2 (by decide) ?_
  refine lv_istore_n (lv' := [(3, .int 0), (2, .int 0), (0, .ref v0), (1, .int 0)]) hx hb dX1_menToFell_3 rfl hl (by decide) rfl (fun ls hl => ?_)
  refine lv_iload_n hx hb dX1_menToFell_4 rfl (lv_at hl 0 rfl) ?_
  refine lv_iconst (v := 3) hx hb dX1_menToFell_5 (by decide) ?_
  refine lv_icmp_ge (tgt := 42) hx hb dX1_menToFell_6 (by decide) (fun c_1 => ?_) (fun c_1 => ?_)
  · exact absurd c_1 (by decide)
  · refine lv_iload_n hx hb dX1_menToFell_9 rfl (lv_at hl 3 rfl) ?_
    refine lv_iload_n hx hb dX1_menToFell_10 rfl (lv_at hl 0 rfl) ?_
    refine lv_ishr hx hb dX1_menToFell_11 ?_
    refine he_top (0) (by decide) ?_
    refine lv_iconst (v := 1) hx hb dX1_menToFell_12 (by decide) ?_
    refine lv_iand hx hb dX1_menToFell_13 ?_
    refine he_top (0) (by decide) ?_
    refine lv_iconst (v := 1) hx hb dX1_menToFell_14 (by decide) ?_
    refine lv_icmp_ne (tgt := 36) hx hb dX1_menToFell_15 (by decide) (fun c_2 => ?_) (fun c_2 => ?_)
    · refine lv_iinc (v := 1) (lv' := [(3, .int 1), (2, .int 0), (0, .ref v0), (1, .int 0)]) hx hb dX1_menToFell_36 hl (k := 0) rfl (by decide) (by decide) rfl (fun ls hl => ?_)
      refine lv_goto (tgt := 4) hx hb dX1_menToFell_39 (by decide) ?_
      refine lv_iload_n hx hb dX1_menToFell_4 rfl (lv_at hl 0 rfl) ?_
      refine lv_iconst (v := 3) hx hb dX1_menToFell_5 (by decide) ?_
      refine lv_icmp_ge (tgt := 42) hx hb dX1_menToFell_6 (by decide) (fun c_3 => ?_) (fun c_3 => ?_)
      · exact absurd c_3 (by decide)
      · refine lv_iload_n hx hb dX1_menToFell_9 rfl (lv_at hl 3 rfl) ?_
        refine lv_iload_n hx hb dX1_menToFell_10 rfl (lv_at hl 0 rfl) ?_
        refine lv_ishr hx hb dX1_menToFell_11 ?_
        refine he_top (0) (by decide) ?_
        refine lv_iconst (v := 1) hx hb dX1_menToFell_12 (by decide) ?_
        refine lv_iand hx hb dX1_menToFell_13 ?_
        refine he_top (0) (by decide) ?_
        refine lv_iconst (v := 1) hx hb dX1_menToFell_14 (by decide) ?_
        refine lv_icmp_ne (tgt := 36) hx hb dX1_menToFell_15 (by decide) (fun c_4 => ?_) (fun c_4 => ?_)
        · refine lv_iinc (v := 2) (lv' := [(3, .int 2), (2, .int 0), (0, .ref v0), (1, .int 0)]) hx hb dX1_menToFell_36 hl (k := 0) rfl (by decide) (by decide) rfl (fun ls hl => ?_)
          refine lv_goto (tgt := 4) hx hb dX1_menToFell_39 (by decide) ?_
          refine lv_iload_n hx hb dX1_menToFell_4 rfl (lv_at hl 0 rfl) ?_
          refine lv_iconst (v := 3) hx hb dX1_menToFell_5 (by decide) ?_
          refine lv_icmp_ge (tgt := 42) hx hb dX1_menToFell_6 (by decide) (fun c_5 => ?_) (fun c_5 => ?_)
          · exact absurd c_5 (by decide)
          · refine lv_iload_n hx hb dX1_menToFell_9 rfl (lv_at hl 3 rfl) ?_
            refine lv_iload_n hx hb dX1_menToFell_10 rfl (lv_at hl 0 rfl) ?_
            refine lv_ishr hx hb dX1_menToFell_11 ?_
            refine he_top (0) (by decide) ?_
            refine lv_iconst (v := 1) hx hb dX1_menToFell_12 (by decide) ?_
            refine lv_iand hx hb dX1_menToFell_13 ?_
            refine he_top (0) (by decide) ?_
            refine lv_iconst (v := 1) hx hb dX1_menToFell_14 (by decide) ?_
            refine lv_icmp_ne (tgt := 36) hx hb dX1_menToFell_15 (by decide) (fun c_6 => ?_) (fun c_6 => ?_)
            · refine lv_iinc (v := 3) (lv' := [(3, .int 3), (2, .int 0), (0, .ref v0), (1, .int 0)]) hx hb dX1_menToFell_36 hl (k := 0) rfl (by decide) (by decide) rfl (fun ls hl => ?_)
              refine lv_goto (tgt := 4) hx hb dX1_menToFell_39 (by decide) ?_
              refine lv_iload_n hx hb dX1_menToFell_4 rfl (lv_at hl 0 rfl) ?_
              refine lv_iconst (v := 3) hx hb dX1_menToFell_5 (by decide) ?_
              refine lv_icmp_ge (tgt := 42) hx hb dX1_menToFell_6 (by decide) (fun c_7 => ?_) (fun c_7 => ?_)
              · refine lv_iload_n hx hb dX1_menToFell_42 rfl (lv_at hl 1 rfl) ?_
                exact he_ri hQ hx hb hr hlk hP hD hS dX1_menToFell_43 (Nat.le_of_ble_eq_true rfl) (Nat.le_of_ble_eq_true rfl) (()) (rfl) (rfl)
              · exact absurd (by decide) c_7
            · exact absurd c_6 (by decide)
        · exact absurd c_4 (by decide)
    · exact absurd c_2 (by decide)
set_option maxHeartbeats 4000000 in
set_option maxRecDepth 100000 in
theorem c_X1_menToHold0 (l : Launch) (g : he_G) (v0 : Nat) (v1 : Nat) (v2 : Nat) (v3 : Nat) (dg : Int32) (wo : Nat → Int32) (he_ : Nat → Int32) (pf : Nat → Int32)  : he_I l yX1_menToHold wsX1_menToHold 0 0 0 0 g [.ref v0, .int 0] [(v0, .inr (1, [.ref v1, .ref v2, .ref v3, .int 0, .int dg])), (v1, .inl (g.2 1, 3, .inl wo)), (v2, .inl (g.2 1, 3, .inl he_)), (v3, .inl (g.2 1, 3, .inl pf))] (fun (r : Int32) (u : Unit) => r = 0) (fun (u : Unit) => [(v0, .inr (1, [.ref v1, .ref v2, .ref v3, .int 0, .int dg])), (v1, .inl (g.2 1, 3, .inl wo)), (v2, .inl (g.2 1, 3, .inl he_)), (v3, .inl (g.2 1, 3, .inl pf))]) := by
  refine he_begin (l := l) (g := g) (y := yX1_menToHold) (wl := wsX1_menToHold) (fr := 0) (lo := 0) (mc := 0) (ms := 0) (av := [.ref v0, .int 0]) (ws := [(v0, .inr (1, [.ref v1, .ref v2, .ref v3, .int 0, .int dg])), (v1, .inl (g.2 1, 3, .inl wo)), (v2, .inl (g.2 1, 3, .inl he_)), (v3, .inl (g.2 1, 3, .inl pf))]) (cc := cX1_menToHold) (maxL := 4) (ret := (some .int)) (fun A => va_Qi (fun (r : Int32) (u : Unit) => r = 0) (fun u t => he_post g A ((fun (u : Unit) => [(v0, .inr (1, [.ref v1, .ref v2, .ref v3, .int 0, .int dg])), (v1, .inl (g.2 1, 3, .inl wo)), (v2, .inl (g.2 1, 3, .inl he_)), (v3, .inl (g.2 1, 3, .inl pf))]) u) t) A) (by decide) rfl (Nat.le_of_ble_eq_true rfl) ?_
  intro p e s m args below meth c A ls H locs Q hQ hB
  obtain ⟨hx, hb, hr, hml, hown, hts, hlk, hin, hP, hK, hD, hS, hA, hE, hl⟩ := hB
  have hl : lv_has ls 4 [(0, .ref v0), (1, .int 0)] := hl
  refine lv_iconst (v := 0) hx hb dX1_menToHold_0 (by decide) ?_
  refine lv_istore_n (lv' := [(2, .int 0), (0, .ref v0), (1, .int 0)]) hx hb dX1_menToHold_1 rfl hl (by decide) rfl (fun ls hl => ?_)
  refine lv_iconst (v := 0) hx hb dX1_menToHold_2 (by decide) ?_
  refine lv_istore_n (lv' := [(3, .int 0), (2, .int 0), (0, .ref v0), (1, .int 0)]) hx hb dX1_menToHold_3 rfl hl (by decide) rfl (fun ls hl => ?_)
  refine lv_iload_n hx hb dX1_menToHold_4 rfl (lv_at hl 0 rfl) ?_
  refine lv_iconst (v := 3) hx hb dX1_menToHold_5 (by decide) ?_
  refine lv_icmp_ge (tgt := 44) hx hb dX1_menToHold_6 (by decide) (fun c_1 => ?_) (fun c_1 => ?_)
  · exact absurd c_1 (by decide)
  · refine lv_iload_n hx hb dX1_menToHold_9 rfl (lv_at hl 3 rfl) ?_
    refine lv_iload_n hx hb dX1_menToHold_10 rfl (lv_at hl 0 rfl) ?_
    refine lv_ishr hx hb dX1_menToHold_11 ?_
    refine he_top (0) (by decide) ?_
    refine lv_iconst (v := 1) hx hb dX1_menToHold_12 (by decide) ?_
    refine lv_iand hx hb dX1_menToHold_13 ?_
    refine he_top (0) (by decide) ?_
    refine lv_iconst (v := 1) hx hb dX1_menToHold_14 (by decide) ?_
    refine lv_icmp_ne (tgt := 38) hx hb dX1_menToHold_15 (by decide) (fun c_2 => ?_) (fun c_2 => ?_)
    · refine lv_iinc (v := 1) (lv' := [(3, .int 1), (2, .int 0), (0, .ref v0), (1, .int 0)]) hx hb dX1_menToHold_38 hl (k := 0) rfl (by decide) (by decide) rfl (fun ls hl => ?_)
      refine lv_goto (tgt := 4) hx hb dX1_menToHold_41 (by decide) ?_
      refine lv_iload_n hx hb dX1_menToHold_4 rfl (lv_at hl 0 rfl) ?_
      refine lv_iconst (v := 3) hx hb dX1_menToHold_5 (by decide) ?_
      refine lv_icmp_ge (tgt := 44) hx hb dX1_menToHold_6 (by decide) (fun c_3 => ?_) (fun c_3 => ?_)
      · exact absurd c_3 (by decide)
      · refine lv_iload_n hx hb dX1_menToHold_9 rfl (lv_at hl 3 rfl) ?_
        refine lv_iload_n hx hb dX1_menToHold_10 rfl (lv_at hl 0 rfl) ?_
        refine lv_ishr hx hb dX1_menToHold_11 ?_
        refine he_top (0) (by decide) ?_
        refine lv_iconst (v := 1) hx hb dX1_menToHold_12 (by decide) ?_
        refine lv_iand hx hb dX1_menToHold_13 ?_
        refine he_top (0) (by decide) ?_
        refine lv_iconst (v := 1) hx hb dX1_menToHold_14 (by decide) ?_
        refine lv_icmp_ne (tgt := 38) hx hb dX1_menToHold_15 (by decide) (fun c_4 => ?_) (fun c_4 => ?_)
        · refine lv_iinc (v := 2) (lv' := [(3, .int 2), (2, .int 0), (0, .ref v0), (1, .int 0)]) hx hb dX1_menToHold_38 hl (k := 0) rfl (by decide) (by decide) rfl (fun ls hl => ?_)
          refine lv_goto (tgt := 4) hx hb dX1_menToHold_41 (by decide) ?_
          refine lv_iload_n hx hb dX1_menToHold_4 rfl (lv_at hl 0 rfl) ?_
          refine lv_iconst (v := 3) hx hb dX1_menToHold_5 (by decide) ?_
          refine lv_icmp_ge (tgt := 44) hx hb dX1_menToHold_6 (by decide) (fun c_5 => ?_) (fun c_5 => ?_)
          · exact absurd c_5 (by decide)
          · refine lv_iload_n hx hb dX1_menToHold_9 rfl (lv_at hl 3 rfl) ?_
            refine lv_iload_n hx hb dX1_menToHold_10 rfl (lv_at hl 0 rfl) ?_
            refine lv_ishr hx hb dX1_menToHold_11 ?_
            refine he_top (0) (by decide) ?_
            refine lv_iconst (v := 1) hx hb dX1_menToHold_12 (by decide) ?_
            refine lv_iand hx hb dX1_menToHold_13 ?_
            refine he_top (0) (by decide) ?_
            refine lv_iconst (v := 1) hx hb dX1_menToHold_14 (by decide) ?_
            refine lv_icmp_ne (tgt := 38) hx hb dX1_menToHold_15 (by decide) (fun c_6 => ?_) (fun c_6 => ?_)
            · refine lv_iinc (v := 3) (lv' := [(3, .int 3), (2, .int 0), (0, .ref v0), (1, .int 0)]) hx hb dX1_menToHold_38 hl (k := 0) rfl (by decide) (by decide) rfl (fun ls hl => ?_)
              refine lv_goto (tgt := 4) hx hb dX1_menToHold_41 (by decide) ?_
              refine lv_iload_n hx hb dX1_menToHold_4 rfl (lv_at hl 0 rfl) ?_
              refine lv_iconst (v := 3) hx hb dX1_menToHold_5 (by decide) ?_
              refine lv_icmp_ge (tgt := 44) hx hb dX1_menToHold_6 (by decide) (fun c_7 => ?_) (fun c_7 => ?_)
              · refine lv_iload_n hx hb dX1_menToHold_44 rfl (lv_at hl 1 rfl) ?_
                exact he_ri hQ hx hb hr hlk hP hD hS dX1_menToHold_45 (Nat.le_of_ble_eq_true rfl) (Nat.le_of_ble_eq_true rfl) (()) (rfl) (rfl)
              · exact absurd (by decide) c_7
            · exact absurd c_6 (by decide)
        · exact absurd c_4 (by decide)
    · exact absurd c_2 (by decide)
set_option maxHeartbeats 4000000 in
set_option maxRecDepth 100000 in
theorem c_X1_worthOf0 (l : Launch) (g : he_G) (v0 : Nat) (v1 : Nat) (v2 : Nat) (v3 : Nat) (dg : Int32) (wo : Nat → Int32) (he_ : Nat → Int32) (pf : Nat → Int32)  : he_I l yX1_worthOf wsX1_worthOf 0 0 0 0 g [.ref v0, .int 0] [(v0, .inr (1, [.ref v1, .ref v2, .ref v3, .int 0, .int dg])), (v1, .inl (g.2 1, 3, .inl wo)), (v2, .inl (g.2 1, 3, .inl he_)), (v3, .inl (g.2 1, 3, .inl pf))] (fun (r : Int32) (u : Unit) => r = 0) (fun (u : Unit) => [(v0, .inr (1, [.ref v1, .ref v2, .ref v3, .int 0, .int dg])), (v1, .inl (g.2 1, 3, .inl wo)), (v2, .inl (g.2 1, 3, .inl he_)), (v3, .inl (g.2 1, 3, .inl pf))]) := by
  refine he_begin (l := l) (g := g) (y := yX1_worthOf) (wl := wsX1_worthOf) (fr := 0) (lo := 0) (mc := 0) (ms := 0) (av := [.ref v0, .int 0]) (ws := [(v0, .inr (1, [.ref v1, .ref v2, .ref v3, .int 0, .int dg])), (v1, .inl (g.2 1, 3, .inl wo)), (v2, .inl (g.2 1, 3, .inl he_)), (v3, .inl (g.2 1, 3, .inl pf))]) (cc := cX1_worthOf) (maxL := 4) (ret := (some .int)) (fun A => va_Qi (fun (r : Int32) (u : Unit) => r = 0) (fun u t => he_post g A ((fun (u : Unit) => [(v0, .inr (1, [.ref v1, .ref v2, .ref v3, .int 0, .int dg])), (v1, .inl (g.2 1, 3, .inl wo)), (v2, .inl (g.2 1, 3, .inl he_)), (v3, .inl (g.2 1, 3, .inl pf))]) u) t) A) (by decide) rfl (Nat.le_of_ble_eq_true rfl) ?_
  intro p e s m args below meth c A ls H locs Q hQ hB
  obtain ⟨hx, hb, hr, hml, hown, hts, hlk, hin, hP, hK, hD, hS, hA, hE, hl⟩ := hB
  have hl : lv_has ls 4 [(0, .ref v0), (1, .int 0)] := hl
  refine lv_iconst (v := 0) hx hb dX1_worthOf_0 (by decide) ?_
  refine lv_istore_n (lv' := [(2, .int 0), (0, .ref v0), (1, .int 0)]) hx hb dX1_worthOf_1 rfl hl (by decide) rfl (fun ls hl => ?_)
  refine lv_iconst (v := 0) hx hb dX1_worthOf_2 (by decide) ?_
  refine lv_istore_n (lv' := [(3, .int 0), (2, .int 0), (0, .ref v0), (1, .int 0)]) hx hb dX1_worthOf_3 rfl hl (by decide) rfl (fun ls hl => ?_)
  refine lv_iload_n hx hb dX1_worthOf_4 rfl (lv_at hl 0 rfl) ?_
  refine lv_iconst (v := 3) hx hb dX1_worthOf_5 (by decide) ?_
  refine lv_icmp_ge (tgt := 33) hx hb dX1_worthOf_6 (by decide) (fun c_1 => ?_) (fun c_1 => ?_)
  · exact absurd c_1 (by decide)
  · refine lv_iload_n hx hb dX1_worthOf_9 rfl (lv_at hl 3 rfl) ?_
    refine lv_iload_n hx hb dX1_worthOf_10 rfl (lv_at hl 0 rfl) ?_
    refine lv_ishr hx hb dX1_worthOf_11 ?_
    refine he_top (0) (by decide) ?_
    refine lv_iconst (v := 1) hx hb dX1_worthOf_12 (by decide) ?_
    refine lv_iand hx hb dX1_worthOf_13 ?_
    refine he_top (0) (by decide) ?_
    refine lv_iconst (v := 1) hx hb dX1_worthOf_14 (by decide) ?_
    refine lv_icmp_ne (tgt := 27) hx hb dX1_worthOf_15 (by decide) (fun c_2 => ?_) (fun c_2 => ?_)
    · refine lv_iinc (v := 1) (lv' := [(3, .int 1), (2, .int 0), (0, .ref v0), (1, .int 0)]) hx hb dX1_worthOf_27 hl (k := 0) rfl (by decide) (by decide) rfl (fun ls hl => ?_)
      refine lv_goto (tgt := 4) hx hb dX1_worthOf_30 (by decide) ?_
      refine lv_iload_n hx hb dX1_worthOf_4 rfl (lv_at hl 0 rfl) ?_
      refine lv_iconst (v := 3) hx hb dX1_worthOf_5 (by decide) ?_
      refine lv_icmp_ge (tgt := 33) hx hb dX1_worthOf_6 (by decide) (fun c_3 => ?_) (fun c_3 => ?_)
      · exact absurd c_3 (by decide)
      · refine lv_iload_n hx hb dX1_worthOf_9 rfl (lv_at hl 3 rfl) ?_
        refine lv_iload_n hx hb dX1_worthOf_10 rfl (lv_at hl 0 rfl) ?_
        refine lv_ishr hx hb dX1_worthOf_11 ?_
        refine he_top (0) (by decide) ?_
        refine lv_iconst (v := 1) hx hb dX1_worthOf_12 (by decide) ?_
        refine lv_iand hx hb dX1_worthOf_13 ?_
        refine he_top (0) (by decide) ?_
        refine lv_iconst (v := 1) hx hb dX1_worthOf_14 (by decide) ?_
        refine lv_icmp_ne (tgt := 27) hx hb dX1_worthOf_15 (by decide) (fun c_4 => ?_) (fun c_4 => ?_)
        · refine lv_iinc (v := 2) (lv' := [(3, .int 2), (2, .int 0), (0, .ref v0), (1, .int 0)]) hx hb dX1_worthOf_27 hl (k := 0) rfl (by decide) (by decide) rfl (fun ls hl => ?_)
          refine lv_goto (tgt := 4) hx hb dX1_worthOf_30 (by decide) ?_
          refine lv_iload_n hx hb dX1_worthOf_4 rfl (lv_at hl 0 rfl) ?_
          refine lv_iconst (v := 3) hx hb dX1_worthOf_5 (by decide) ?_
          refine lv_icmp_ge (tgt := 33) hx hb dX1_worthOf_6 (by decide) (fun c_5 => ?_) (fun c_5 => ?_)
          · exact absurd c_5 (by decide)
          · refine lv_iload_n hx hb dX1_worthOf_9 rfl (lv_at hl 3 rfl) ?_
            refine lv_iload_n hx hb dX1_worthOf_10 rfl (lv_at hl 0 rfl) ?_
            refine lv_ishr hx hb dX1_worthOf_11 ?_
            refine he_top (0) (by decide) ?_
            refine lv_iconst (v := 1) hx hb dX1_worthOf_12 (by decide) ?_
            refine lv_iand hx hb dX1_worthOf_13 ?_
            refine he_top (0) (by decide) ?_
            refine lv_iconst (v := 1) hx hb dX1_worthOf_14 (by decide) ?_
            refine lv_icmp_ne (tgt := 27) hx hb dX1_worthOf_15 (by decide) (fun c_6 => ?_) (fun c_6 => ?_)
            · refine lv_iinc (v := 3) (lv' := [(3, .int 3), (2, .int 0), (0, .ref v0), (1, .int 0)]) hx hb dX1_worthOf_27 hl (k := 0) rfl (by decide) (by decide) rfl (fun ls hl => ?_)
              refine lv_goto (tgt := 4) hx hb dX1_worthOf_30 (by decide) ?_
              refine lv_iload_n hx hb dX1_worthOf_4 rfl (lv_at hl 0 rfl) ?_
              refine lv_iconst (v := 3) hx hb dX1_worthOf_5 (by decide) ?_
              refine lv_icmp_ge (tgt := 33) hx hb dX1_worthOf_6 (by decide) (fun c_7 => ?_) (fun c_7 => ?_)
              · refine lv_iload_n hx hb dX1_worthOf_33 rfl (lv_at hl 1 rfl) ?_
                exact he_ri hQ hx hb hr hlk hP hD hS dX1_worthOf_34 (Nat.le_of_ble_eq_true rfl) (Nat.le_of_ble_eq_true rfl) (()) (rfl) (rfl)
              · exact absurd (by decide) c_7
            · exact absurd c_6 (by decide)
        · exact absurd c_4 (by decide)
    · exact absurd c_2 (by decide)
set_option maxHeartbeats 4000000 in
set_option maxRecDepth 100000 in
theorem c_X1_mostFelled0 (l : Launch) (g : he_G) (v0 : Nat) (v1 : Nat) (v2 : Nat) (v3 : Nat) (dg : Int32) (wo : Nat → Int32) (he_ : Nat → Int32) (pf : Nat → Int32) (a : Int32)  : he_I l yX1_mostFelled wsX1_mostFelled 1 23 0 0 g [.ref v0, .int 0, .int a] [(v0, .inr (1, [.ref v1, .ref v2, .ref v3, .int 0, .int dg])), (v1, .inl (g.2 1, 3, .inl wo)), (v2, .inl (g.2 1, 3, .inl he_)), (v3, .inl (g.2 1, 3, .inl pf))] (fun (r : Int32) (u : Unit) => r = 0) (fun (u : Unit) => [(v0, .inr (1, [.ref v1, .ref v2, .ref v3, .int 0, .int dg])), (v1, .inl (g.2 1, 3, .inl wo)), (v2, .inl (g.2 1, 3, .inl he_)), (v3, .inl (g.2 1, 3, .inl pf))]) := by
  refine he_begin (l := l) (g := g) (y := yX1_mostFelled) (wl := wsX1_mostFelled) (fr := 1) (lo := 23) (mc := 0) (ms := 0) (av := [.ref v0, .int 0, .int a]) (ws := [(v0, .inr (1, [.ref v1, .ref v2, .ref v3, .int 0, .int dg])), (v1, .inl (g.2 1, 3, .inl wo)), (v2, .inl (g.2 1, 3, .inl he_)), (v3, .inl (g.2 1, 3, .inl pf))]) (cc := cX1_mostFelled) (maxL := 5) (ret := (some .int)) (fun A => va_Qi (fun (r : Int32) (u : Unit) => r = 0) (fun u t => he_post g A ((fun (u : Unit) => [(v0, .inr (1, [.ref v1, .ref v2, .ref v3, .int 0, .int dg])), (v1, .inl (g.2 1, 3, .inl wo)), (v2, .inl (g.2 1, 3, .inl he_)), (v3, .inl (g.2 1, 3, .inl pf))]) u) t) A) (by decide) rfl (Nat.le_of_ble_eq_true rfl) ?_
  intro p e s m args below meth c A ls H locs Q hQ hB
  obtain ⟨hx, hb, hr, hml, hown, hts, hlk, hin, hP, hK, hD, hS, hA, hE, hl⟩ := hB
  have hl : lv_has ls 5 [(0, .ref v0), (1, .int 0), (2, .int a)] := hl
  have ml51 := hts (.methodLink RX1 51 Lib.Math.max.name) (by decide +kernel)
  have msmax := hts (.static Lib.Math.max.name) (by decide +kernel)
  have mi := hts (.initialized "java/lang/Math") (by decide +kernel)
  have mcmax := hts (.code Lib.Math.max.name Lib.Math.max.code 2 (some .int)) (by decide +kernel)
  refine lv_iconst (v := 0) hx hb dX1_mostFelled_0 (by decide) ?_
  refine lv_istore_n (lv' := [(3, .int 0), (0, .ref v0), (1, .int 0), (2, .int a)]) hx hb dX1_mostFelled_1 rfl hl (by decide) rfl (fun ls hl => ?_)
  refine lv_iconst (v := 0) hx hb dX1_mostFelled_2 (by decide) ?_
  refine lv_istore (lv' := [(4, .int 0), (3, .int 0), (0, .ref v0), (1, .int 0), (2, .int a)]) hx hb dX1_mostFelled_3 hl (by decide) rfl (fun ls hl => ?_)
  refine lv_iload hx hb dX1_mostFelled_5 (lv_at hl 0 rfl) ?_
  refine lv_bipush (v := 8) hx hb dX1_mostFelled_7 (by decide) ?_
  refine lv_icmp_ge (tgt := 48) hx hb dX1_mostFelled_9 (by decide) (fun c_1 => ?_) (fun c_1 => ?_)
  · exact absurd c_1 (by decide)
  · refine lv_iload hx hb dX1_mostFelled_12 (lv_at hl 0 rfl) ?_
    refine lv_iload_n hx hb dX1_mostFelled_14 rfl (lv_at hl 3 rfl) ?_
    refine lv_iconst (v := (-1)) hx hb dX1_mostFelled_15 (by decide) ?_
    refine lv_ixor hx hb dX1_mostFelled_16 ?_
    refine he_top ((-1)) (by decide) ?_
    refine lv_iand hx hb dX1_mostFelled_17 ?_
    refine he_top (0) (by decide) ?_
    refine lv_if_ne (tgt := 42) hx hb dX1_mostFelled_18 (by decide) (fun c_2 => ?_) (fun c_2 => ?_)
    · exact absurd (by decide) c_2
    · refine lv_aload_n hx hb dX1_mostFelled_21 rfl (lv_at hl 2 rfl) ?_
      refine lv_iload hx hb dX1_mostFelled_22 (lv_at hl 0 rfl) ?_
      refine he_ci (wc := [(v0, .inr (1, [.ref v1, .ref v2, .ref v3, .int 0, .int dg])), (v1, .inl (g.2 1, 3, .inl wo)), (v2, .inl (g.2 1, 3, .inl he_)), (v3, .inl (g.2 1, 3, .inl pf))]) (wr := []) (va_runV (As := [.int 0]) (rest := []) ⟨hx, hb, hml, hown, hts⟩ (c_X1_menToFell0 l g v0 v1 v2 v3 dg wo he_ pf H.size) (cwV 1 hts gX1_mostFelled_X1_menToFell rfl rfl rfl (by decide +kernel) ⟨Nat.le_of_ble_eq_true rfl, Nat.le_of_ble_eq_true rfl⟩) (he_preV (wc := [(v0, .inr (1, [.ref v1, .ref v2, .ref v3, .int 0, .int dg])), (v1, .inl (g.2 1, 3, .inl wo)), (v2, .inl (g.2 1, 3, .inl he_)), (v3, .inl (g.2 1, 3, .inl pf))]) hK hP hD hS hA hE [0, 1, 2, 3] rfl rfl 0 rfl rfl) rfl rfl hl.1 rfl (lv_room (Nat.le_of_ble_eq_true rfl)) dX1_mostFelled_24 ⟨(Nat.le_of_ble_eq_true rfl), (Nat.le_of_ble_eq_true rfl)⟩) hP hD hS hA [0, 1, 2, 3] [] rfl rfl rfl (by decide) (fun r_3 u_4 H locs h_5 hP hD hS => ?_)
      subst h_5
      have hP : va_P g.1 vwCl [(v0, .inr (1, [.ref v1, .ref v2, .ref v3, .int 0, .int dg])), (v1, .inl (g.2 1, 3, .inl wo)), (v2, .inl (g.2 1, 3, .inl he_)), (v3, .inl (g.2 1, 3, .inl pf))] H := hP
      have hD : va_D A [(v0, .inr (1, [.ref v1, .ref v2, .ref v3, .int 0, .int dg])), (v1, .inl (g.2 1, 3, .inl wo)), (v2, .inl (g.2 1, 3, .inl he_)), (v3, .inl (g.2 1, 3, .inl pf))] := hD
      refine lv_iload_n hx hb dX1_mostFelled_27 rfl (lv_at hl 4 rfl) ?_
      refine lv_icmp_gt (tgt := 42) hx hb dX1_mostFelled_28 (by decide) (fun c_6 => ?_) (fun c_6 => ?_)
      · refine lv_iinc (v := 1) (lv' := [(4, .int 1), (3, .int 0), (0, .ref v0), (1, .int 0), (2, .int a)]) hx hb dX1_mostFelled_42 hl (k := 0) rfl (by decide) (by decide) rfl (fun ls hl => ?_)
        refine lv_goto (tgt := 5) hx hb dX1_mostFelled_45 (by decide) ?_
        refine lv_iload hx hb dX1_mostFelled_5 (lv_at hl 0 rfl) ?_
        refine lv_bipush (v := 8) hx hb dX1_mostFelled_7 (by decide) ?_
        refine lv_icmp_ge (tgt := 48) hx hb dX1_mostFelled_9 (by decide) (fun c_7 => ?_) (fun c_7 => ?_)
        · exact absurd c_7 (by decide)
        · refine lv_iload hx hb dX1_mostFelled_12 (lv_at hl 0 rfl) ?_
          refine lv_iload_n hx hb dX1_mostFelled_14 rfl (lv_at hl 3 rfl) ?_
          refine lv_iconst (v := (-1)) hx hb dX1_mostFelled_15 (by decide) ?_
          refine lv_ixor hx hb dX1_mostFelled_16 ?_
          refine he_top ((-1)) (by decide) ?_
          refine lv_iand hx hb dX1_mostFelled_17 ?_
          refine he_top (1) (by decide) ?_
          refine lv_if_ne (tgt := 42) hx hb dX1_mostFelled_18 (by decide) (fun c_8 => ?_) (fun c_8 => ?_)
          · refine lv_iinc (v := 2) (lv' := [(4, .int 2), (3, .int 0), (0, .ref v0), (1, .int 0), (2, .int a)]) hx hb dX1_mostFelled_42 hl (k := 0) rfl (by decide) (by decide) rfl (fun ls hl => ?_)
            refine lv_goto (tgt := 5) hx hb dX1_mostFelled_45 (by decide) ?_
            refine lv_iload hx hb dX1_mostFelled_5 (lv_at hl 0 rfl) ?_
            refine lv_bipush (v := 8) hx hb dX1_mostFelled_7 (by decide) ?_
            refine lv_icmp_ge (tgt := 48) hx hb dX1_mostFelled_9 (by decide) (fun c_9 => ?_) (fun c_9 => ?_)
            · exact absurd c_9 (by decide)
            · refine lv_iload hx hb dX1_mostFelled_12 (lv_at hl 0 rfl) ?_
              refine lv_iload_n hx hb dX1_mostFelled_14 rfl (lv_at hl 3 rfl) ?_
              refine lv_iconst (v := (-1)) hx hb dX1_mostFelled_15 (by decide) ?_
              refine lv_ixor hx hb dX1_mostFelled_16 ?_
              refine he_top ((-1)) (by decide) ?_
              refine lv_iand hx hb dX1_mostFelled_17 ?_
              refine he_top (2) (by decide) ?_
              refine lv_if_ne (tgt := 42) hx hb dX1_mostFelled_18 (by decide) (fun c_10 => ?_) (fun c_10 => ?_)
              · refine lv_iinc (v := 3) (lv' := [(4, .int 3), (3, .int 0), (0, .ref v0), (1, .int 0), (2, .int a)]) hx hb dX1_mostFelled_42 hl (k := 0) rfl (by decide) (by decide) rfl (fun ls hl => ?_)
                refine lv_goto (tgt := 5) hx hb dX1_mostFelled_45 (by decide) ?_
                refine lv_iload hx hb dX1_mostFelled_5 (lv_at hl 0 rfl) ?_
                refine lv_bipush (v := 8) hx hb dX1_mostFelled_7 (by decide) ?_
                refine lv_icmp_ge (tgt := 48) hx hb dX1_mostFelled_9 (by decide) (fun c_11 => ?_) (fun c_11 => ?_)
                · exact absurd c_11 (by decide)
                · refine lv_iload hx hb dX1_mostFelled_12 (lv_at hl 0 rfl) ?_
                  refine lv_iload_n hx hb dX1_mostFelled_14 rfl (lv_at hl 3 rfl) ?_
                  refine lv_iconst (v := (-1)) hx hb dX1_mostFelled_15 (by decide) ?_
                  refine lv_ixor hx hb dX1_mostFelled_16 ?_
                  refine he_top ((-1)) (by decide) ?_
                  refine lv_iand hx hb dX1_mostFelled_17 ?_
                  refine he_top (3) (by decide) ?_
                  refine lv_if_ne (tgt := 42) hx hb dX1_mostFelled_18 (by decide) (fun c_12 => ?_) (fun c_12 => ?_)
                  · refine lv_iinc (v := 4) (lv' := [(4, .int 4), (3, .int 0), (0, .ref v0), (1, .int 0), (2, .int a)]) hx hb dX1_mostFelled_42 hl (k := 0) rfl (by decide) (by decide) rfl (fun ls hl => ?_)
                    refine lv_goto (tgt := 5) hx hb dX1_mostFelled_45 (by decide) ?_
                    refine lv_iload hx hb dX1_mostFelled_5 (lv_at hl 0 rfl) ?_
                    refine lv_bipush (v := 8) hx hb dX1_mostFelled_7 (by decide) ?_
                    refine lv_icmp_ge (tgt := 48) hx hb dX1_mostFelled_9 (by decide) (fun c_13 => ?_) (fun c_13 => ?_)
                    · exact absurd c_13 (by decide)
                    · refine lv_iload hx hb dX1_mostFelled_12 (lv_at hl 0 rfl) ?_
                      refine lv_iload_n hx hb dX1_mostFelled_14 rfl (lv_at hl 3 rfl) ?_
                      refine lv_iconst (v := (-1)) hx hb dX1_mostFelled_15 (by decide) ?_
                      refine lv_ixor hx hb dX1_mostFelled_16 ?_
                      refine he_top ((-1)) (by decide) ?_
                      refine lv_iand hx hb dX1_mostFelled_17 ?_
                      refine he_top (4) (by decide) ?_
                      refine lv_if_ne (tgt := 42) hx hb dX1_mostFelled_18 (by decide) (fun c_14 => ?_) (fun c_14 => ?_)
                      · refine lv_iinc (v := 5) (lv' := [(4, .int 5), (3, .int 0), (0, .ref v0), (1, .int 0), (2, .int a)]) hx hb dX1_mostFelled_42 hl (k := 0) rfl (by decide) (by decide) rfl (fun ls hl => ?_)
                        refine lv_goto (tgt := 5) hx hb dX1_mostFelled_45 (by decide) ?_
                        refine lv_iload hx hb dX1_mostFelled_5 (lv_at hl 0 rfl) ?_
                        refine lv_bipush (v := 8) hx hb dX1_mostFelled_7 (by decide) ?_
                        refine lv_icmp_ge (tgt := 48) hx hb dX1_mostFelled_9 (by decide) (fun c_15 => ?_) (fun c_15 => ?_)
                        · exact absurd c_15 (by decide)
                        · refine lv_iload hx hb dX1_mostFelled_12 (lv_at hl 0 rfl) ?_
                          refine lv_iload_n hx hb dX1_mostFelled_14 rfl (lv_at hl 3 rfl) ?_
                          refine lv_iconst (v := (-1)) hx hb dX1_mostFelled_15 (by decide) ?_
                          refine lv_ixor hx hb dX1_mostFelled_16 ?_
                          refine he_top ((-1)) (by decide) ?_
                          refine lv_iand hx hb dX1_mostFelled_17 ?_
                          refine he_top (5) (by decide) ?_
                          refine lv_if_ne (tgt := 42) hx hb dX1_mostFelled_18 (by decide) (fun c_16 => ?_) (fun c_16 => ?_)
                          · refine lv_iinc (v := 6) (lv' := [(4, .int 6), (3, .int 0), (0, .ref v0), (1, .int 0), (2, .int a)]) hx hb dX1_mostFelled_42 hl (k := 0) rfl (by decide) (by decide) rfl (fun ls hl => ?_)
                            refine lv_goto (tgt := 5) hx hb dX1_mostFelled_45 (by decide) ?_
                            refine lv_iload hx hb dX1_mostFelled_5 (lv_at hl 0 rfl) ?_
                            refine lv_bipush (v := 8) hx hb dX1_mostFelled_7 (by decide) ?_
                            refine lv_icmp_ge (tgt := 48) hx hb dX1_mostFelled_9 (by decide) (fun c_17 => ?_) (fun c_17 => ?_)
                            · exact absurd c_17 (by decide)
                            · refine lv_iload hx hb dX1_mostFelled_12 (lv_at hl 0 rfl) ?_
                              refine lv_iload_n hx hb dX1_mostFelled_14 rfl (lv_at hl 3 rfl) ?_
                              refine lv_iconst (v := (-1)) hx hb dX1_mostFelled_15 (by decide) ?_
                              refine lv_ixor hx hb dX1_mostFelled_16 ?_
                              refine he_top ((-1)) (by decide) ?_
                              refine lv_iand hx hb dX1_mostFelled_17 ?_
                              refine he_top (6) (by decide) ?_
                              refine lv_if_ne (tgt := 42) hx hb dX1_mostFelled_18 (by decide) (fun c_18 => ?_) (fun c_18 => ?_)
                              · refine lv_iinc (v := 7) (lv' := [(4, .int 7), (3, .int 0), (0, .ref v0), (1, .int 0), (2, .int a)]) hx hb dX1_mostFelled_42 hl (k := 0) rfl (by decide) (by decide) rfl (fun ls hl => ?_)
                                refine lv_goto (tgt := 5) hx hb dX1_mostFelled_45 (by decide) ?_
                                refine lv_iload hx hb dX1_mostFelled_5 (lv_at hl 0 rfl) ?_
                                refine lv_bipush (v := 8) hx hb dX1_mostFelled_7 (by decide) ?_
                                refine lv_icmp_ge (tgt := 48) hx hb dX1_mostFelled_9 (by decide) (fun c_19 => ?_) (fun c_19 => ?_)
                                · exact absurd c_19 (by decide)
                                · refine lv_iload hx hb dX1_mostFelled_12 (lv_at hl 0 rfl) ?_
                                  refine lv_iload_n hx hb dX1_mostFelled_14 rfl (lv_at hl 3 rfl) ?_
                                  refine lv_iconst (v := (-1)) hx hb dX1_mostFelled_15 (by decide) ?_
                                  refine lv_ixor hx hb dX1_mostFelled_16 ?_
                                  refine he_top ((-1)) (by decide) ?_
                                  refine lv_iand hx hb dX1_mostFelled_17 ?_
                                  refine he_top (7) (by decide) ?_
                                  refine lv_if_ne (tgt := 42) hx hb dX1_mostFelled_18 (by decide) (fun c_20 => ?_) (fun c_20 => ?_)
                                  · refine lv_iinc (v := 8) (lv' := [(4, .int 8), (3, .int 0), (0, .ref v0), (1, .int 0), (2, .int a)]) hx hb dX1_mostFelled_42 hl (k := 0) rfl (by decide) (by decide) rfl (fun ls hl => ?_)
                                    refine lv_goto (tgt := 5) hx hb dX1_mostFelled_45 (by decide) ?_
                                    refine lv_iload hx hb dX1_mostFelled_5 (lv_at hl 0 rfl) ?_
                                    refine lv_bipush (v := 8) hx hb dX1_mostFelled_7 (by decide) ?_
                                    refine lv_icmp_ge (tgt := 48) hx hb dX1_mostFelled_9 (by decide) (fun c_21 => ?_) (fun c_21 => ?_)
                                    · refine lv_iload_n hx hb dX1_mostFelled_48 rfl (lv_at hl 1 rfl) ?_
                                      exact he_ri hQ hx hb hr hlk hP hD hS dX1_mostFelled_49 (Nat.le_of_ble_eq_true rfl) (Nat.le_of_ble_eq_true rfl) (()) (rfl) (rfl)
                                    · exact absurd (by decide) c_21
                                  · exact absurd c_20 (by decide)
                              · exact absurd c_18 (by decide)
                          · exact absurd c_16 (by decide)
                      · exact absurd c_14 (by decide)
                  · exact absurd c_12 (by decide)
              · exact absurd c_10 (by decide)
          · exact absurd c_8 (by decide)
      · refine lv_iload_n hx hb dX1_mostFelled_31 rfl (lv_at hl 1 rfl) ?_
        refine lv_aload_n hx hb dX1_mostFelled_32 rfl (lv_at hl 2 rfl) ?_
        refine lv_iload hx hb dX1_mostFelled_33 (lv_at hl 0 rfl) ?_
        refine he_ci (wc := [(v0, .inr (1, [.ref v1, .ref v2, .ref v3, .int 0, .int dg])), (v1, .inl (g.2 1, 3, .inl wo)), (v2, .inl (g.2 1, 3, .inl he_)), (v3, .inl (g.2 1, 3, .inl pf))]) (wr := []) (va_runV (As := [.int 0]) (rest := [.int 0]) ⟨hx, hb, hml, hown, hts⟩ (c_X1_worthOf0 l g v0 v1 v2 v3 dg wo he_ pf H.size) (cwV 1 hts gX1_mostFelled_X1_worthOf rfl rfl rfl (by decide +kernel) ⟨Nat.le_of_ble_eq_true rfl, Nat.le_of_ble_eq_true rfl⟩) (he_preV (wc := [(v0, .inr (1, [.ref v1, .ref v2, .ref v3, .int 0, .int dg])), (v1, .inl (g.2 1, 3, .inl wo)), (v2, .inl (g.2 1, 3, .inl he_)), (v3, .inl (g.2 1, 3, .inl pf))]) hK hP hD hS hA hE [0, 1, 2, 3] rfl rfl 0 rfl rfl) rfl rfl hl.1 rfl (lv_room (Nat.le_of_ble_eq_true rfl)) dX1_mostFelled_35 ⟨(Nat.le_of_ble_eq_true rfl), (Nat.le_of_ble_eq_true rfl)⟩) hP hD hS hA [0, 1, 2, 3] [] rfl rfl rfl (by decide) (fun r_22 u_23 H locs h_24 hP hD hS => ?_)
        subst h_24
        have hP : va_P g.1 vwCl [(v0, .inr (1, [.ref v1, .ref v2, .ref v3, .int 0, .int dg])), (v1, .inl (g.2 1, 3, .inl wo)), (v2, .inl (g.2 1, 3, .inl he_)), (v3, .inl (g.2 1, 3, .inl pf))] H := hP
        have hD : va_D A [(v0, .inr (1, [.ref v1, .ref v2, .ref v3, .int 0, .int dg])), (v1, .inl (g.2 1, 3, .inl wo)), (v2, .inl (g.2 1, 3, .inl he_)), (v3, .inl (g.2 1, 3, .inl pf))] := hD
        refine va_mmax hx hb (by rw [hml]; exact hl.1.symm) hown ml51 msmax mi mcmax (by decide) (Nat.le_of_ble_eq_true rfl) (Nat.le_of_ble_eq_true rfl) (Nat.le_of_ble_eq_true rfl) dX1_mostFelled_38 ?_
        refine he_top (0) (by decide) ?_
        refine lv_istore_n (lv' := [(3, .int 0), (4, .int 0), (0, .ref v0), (1, .int 0), (2, .int a)]) hx hb dX1_mostFelled_41 rfl hl (by decide) rfl (fun ls hl => ?_)
        refine lv_iinc (v := 1) (lv' := [(4, .int 1), (3, .int 0), (0, .ref v0), (1, .int 0), (2, .int a)]) hx hb dX1_mostFelled_42 hl (k := 1) rfl (by decide) (by decide) rfl (fun ls hl => ?_)
        refine lv_goto (tgt := 5) hx hb dX1_mostFelled_45 (by decide) ?_
        refine lv_iload hx hb dX1_mostFelled_5 (lv_at hl 0 rfl) ?_
        refine lv_bipush (v := 8) hx hb dX1_mostFelled_7 (by decide) ?_
        refine lv_icmp_ge (tgt := 48) hx hb dX1_mostFelled_9 (by decide) (fun c_25 => ?_) (fun c_25 => ?_)
        · exact absurd c_25 (by decide)
        · refine lv_iload hx hb dX1_mostFelled_12 (lv_at hl 0 rfl) ?_
          refine lv_iload_n hx hb dX1_mostFelled_14 rfl (lv_at hl 3 rfl) ?_
          refine lv_iconst (v := (-1)) hx hb dX1_mostFelled_15 (by decide) ?_
          refine lv_ixor hx hb dX1_mostFelled_16 ?_
          refine he_top ((-1)) (by decide) ?_
          refine lv_iand hx hb dX1_mostFelled_17 ?_
          refine he_top (1) (by decide) ?_
          refine lv_if_ne (tgt := 42) hx hb dX1_mostFelled_18 (by decide) (fun c_26 => ?_) (fun c_26 => ?_)
          · refine lv_iinc (v := 2) (lv' := [(4, .int 2), (3, .int 0), (0, .ref v0), (1, .int 0), (2, .int a)]) hx hb dX1_mostFelled_42 hl (k := 0) rfl (by decide) (by decide) rfl (fun ls hl => ?_)
            refine lv_goto (tgt := 5) hx hb dX1_mostFelled_45 (by decide) ?_
            refine lv_iload hx hb dX1_mostFelled_5 (lv_at hl 0 rfl) ?_
            refine lv_bipush (v := 8) hx hb dX1_mostFelled_7 (by decide) ?_
            refine lv_icmp_ge (tgt := 48) hx hb dX1_mostFelled_9 (by decide) (fun c_27 => ?_) (fun c_27 => ?_)
            · exact absurd c_27 (by decide)
            · refine lv_iload hx hb dX1_mostFelled_12 (lv_at hl 0 rfl) ?_
              refine lv_iload_n hx hb dX1_mostFelled_14 rfl (lv_at hl 3 rfl) ?_
              refine lv_iconst (v := (-1)) hx hb dX1_mostFelled_15 (by decide) ?_
              refine lv_ixor hx hb dX1_mostFelled_16 ?_
              refine he_top ((-1)) (by decide) ?_
              refine lv_iand hx hb dX1_mostFelled_17 ?_
              refine he_top (2) (by decide) ?_
              refine lv_if_ne (tgt := 42) hx hb dX1_mostFelled_18 (by decide) (fun c_28 => ?_) (fun c_28 => ?_)
              · refine lv_iinc (v := 3) (lv' := [(4, .int 3), (3, .int 0), (0, .ref v0), (1, .int 0), (2, .int a)]) hx hb dX1_mostFelled_42 hl (k := 0) rfl (by decide) (by decide) rfl (fun ls hl => ?_)
                refine lv_goto (tgt := 5) hx hb dX1_mostFelled_45 (by decide) ?_
                refine lv_iload hx hb dX1_mostFelled_5 (lv_at hl 0 rfl) ?_
                refine lv_bipush (v := 8) hx hb dX1_mostFelled_7 (by decide) ?_
                refine lv_icmp_ge (tgt := 48) hx hb dX1_mostFelled_9 (by decide) (fun c_29 => ?_) (fun c_29 => ?_)
                · exact absurd c_29 (by decide)
                · refine lv_iload hx hb dX1_mostFelled_12 (lv_at hl 0 rfl) ?_
                  refine lv_iload_n hx hb dX1_mostFelled_14 rfl (lv_at hl 3 rfl) ?_
                  refine lv_iconst (v := (-1)) hx hb dX1_mostFelled_15 (by decide) ?_
                  refine lv_ixor hx hb dX1_mostFelled_16 ?_
                  refine he_top ((-1)) (by decide) ?_
                  refine lv_iand hx hb dX1_mostFelled_17 ?_
                  refine he_top (3) (by decide) ?_
                  refine lv_if_ne (tgt := 42) hx hb dX1_mostFelled_18 (by decide) (fun c_30 => ?_) (fun c_30 => ?_)
                  · refine lv_iinc (v := 4) (lv' := [(4, .int 4), (3, .int 0), (0, .ref v0), (1, .int 0), (2, .int a)]) hx hb dX1_mostFelled_42 hl (k := 0) rfl (by decide) (by decide) rfl (fun ls hl => ?_)
                    refine lv_goto (tgt := 5) hx hb dX1_mostFelled_45 (by decide) ?_
                    refine lv_iload hx hb dX1_mostFelled_5 (lv_at hl 0 rfl) ?_
                    refine lv_bipush (v := 8) hx hb dX1_mostFelled_7 (by decide) ?_
                    refine lv_icmp_ge (tgt := 48) hx hb dX1_mostFelled_9 (by decide) (fun c_31 => ?_) (fun c_31 => ?_)
                    · exact absurd c_31 (by decide)
                    · refine lv_iload hx hb dX1_mostFelled_12 (lv_at hl 0 rfl) ?_
                      refine lv_iload_n hx hb dX1_mostFelled_14 rfl (lv_at hl 3 rfl) ?_
                      refine lv_iconst (v := (-1)) hx hb dX1_mostFelled_15 (by decide) ?_
                      refine lv_ixor hx hb dX1_mostFelled_16 ?_
                      refine he_top ((-1)) (by decide) ?_
                      refine lv_iand hx hb dX1_mostFelled_17 ?_
                      refine he_top (4) (by decide) ?_
                      refine lv_if_ne (tgt := 42) hx hb dX1_mostFelled_18 (by decide) (fun c_32 => ?_) (fun c_32 => ?_)
                      · refine lv_iinc (v := 5) (lv' := [(4, .int 5), (3, .int 0), (0, .ref v0), (1, .int 0), (2, .int a)]) hx hb dX1_mostFelled_42 hl (k := 0) rfl (by decide) (by decide) rfl (fun ls hl => ?_)
                        refine lv_goto (tgt := 5) hx hb dX1_mostFelled_45 (by decide) ?_
                        refine lv_iload hx hb dX1_mostFelled_5 (lv_at hl 0 rfl) ?_
                        refine lv_bipush (v := 8) hx hb dX1_mostFelled_7 (by decide) ?_
                        refine lv_icmp_ge (tgt := 48) hx hb dX1_mostFelled_9 (by decide) (fun c_33 => ?_) (fun c_33 => ?_)
                        · exact absurd c_33 (by decide)
                        · refine lv_iload hx hb dX1_mostFelled_12 (lv_at hl 0 rfl) ?_
                          refine lv_iload_n hx hb dX1_mostFelled_14 rfl (lv_at hl 3 rfl) ?_
                          refine lv_iconst (v := (-1)) hx hb dX1_mostFelled_15 (by decide) ?_
                          refine lv_ixor hx hb dX1_mostFelled_16 ?_
                          refine he_top ((-1)) (by decide) ?_
                          refine lv_iand hx hb dX1_mostFelled_17 ?_
                          refine he_top (5) (by decide) ?_
                          refine lv_if_ne (tgt := 42) hx hb dX1_mostFelled_18 (by decide) (fun c_34 => ?_) (fun c_34 => ?_)
                          · refine lv_iinc (v := 6) (lv' := [(4, .int 6), (3, .int 0), (0, .ref v0), (1, .int 0), (2, .int a)]) hx hb dX1_mostFelled_42 hl (k := 0) rfl (by decide) (by decide) rfl (fun ls hl => ?_)
                            refine lv_goto (tgt := 5) hx hb dX1_mostFelled_45 (by decide) ?_
                            refine lv_iload hx hb dX1_mostFelled_5 (lv_at hl 0 rfl) ?_
                            refine lv_bipush (v := 8) hx hb dX1_mostFelled_7 (by decide) ?_
                            refine lv_icmp_ge (tgt := 48) hx hb dX1_mostFelled_9 (by decide) (fun c_35 => ?_) (fun c_35 => ?_)
                            · exact absurd c_35 (by decide)
                            · refine lv_iload hx hb dX1_mostFelled_12 (lv_at hl 0 rfl) ?_
                              refine lv_iload_n hx hb dX1_mostFelled_14 rfl (lv_at hl 3 rfl) ?_
                              refine lv_iconst (v := (-1)) hx hb dX1_mostFelled_15 (by decide) ?_
                              refine lv_ixor hx hb dX1_mostFelled_16 ?_
                              refine he_top ((-1)) (by decide) ?_
                              refine lv_iand hx hb dX1_mostFelled_17 ?_
                              refine he_top (6) (by decide) ?_
                              refine lv_if_ne (tgt := 42) hx hb dX1_mostFelled_18 (by decide) (fun c_36 => ?_) (fun c_36 => ?_)
                              · refine lv_iinc (v := 7) (lv' := [(4, .int 7), (3, .int 0), (0, .ref v0), (1, .int 0), (2, .int a)]) hx hb dX1_mostFelled_42 hl (k := 0) rfl (by decide) (by decide) rfl (fun ls hl => ?_)
                                refine lv_goto (tgt := 5) hx hb dX1_mostFelled_45 (by decide) ?_
                                refine lv_iload hx hb dX1_mostFelled_5 (lv_at hl 0 rfl) ?_
                                refine lv_bipush (v := 8) hx hb dX1_mostFelled_7 (by decide) ?_
                                refine lv_icmp_ge (tgt := 48) hx hb dX1_mostFelled_9 (by decide) (fun c_37 => ?_) (fun c_37 => ?_)
                                · exact absurd c_37 (by decide)
                                · refine lv_iload hx hb dX1_mostFelled_12 (lv_at hl 0 rfl) ?_
                                  refine lv_iload_n hx hb dX1_mostFelled_14 rfl (lv_at hl 3 rfl) ?_
                                  refine lv_iconst (v := (-1)) hx hb dX1_mostFelled_15 (by decide) ?_
                                  refine lv_ixor hx hb dX1_mostFelled_16 ?_
                                  refine he_top ((-1)) (by decide) ?_
                                  refine lv_iand hx hb dX1_mostFelled_17 ?_
                                  refine he_top (7) (by decide) ?_
                                  refine lv_if_ne (tgt := 42) hx hb dX1_mostFelled_18 (by decide) (fun c_38 => ?_) (fun c_38 => ?_)
                                  · refine lv_iinc (v := 8) (lv' := [(4, .int 8), (3, .int 0), (0, .ref v0), (1, .int 0), (2, .int a)]) hx hb dX1_mostFelled_42 hl (k := 0) rfl (by decide) (by decide) rfl (fun ls hl => ?_)
                                    refine lv_goto (tgt := 5) hx hb dX1_mostFelled_45 (by decide) ?_
                                    refine lv_iload hx hb dX1_mostFelled_5 (lv_at hl 0 rfl) ?_
                                    refine lv_bipush (v := 8) hx hb dX1_mostFelled_7 (by decide) ?_
                                    refine lv_icmp_ge (tgt := 48) hx hb dX1_mostFelled_9 (by decide) (fun c_39 => ?_) (fun c_39 => ?_)
                                    · refine lv_iload_n hx hb dX1_mostFelled_48 rfl (lv_at hl 1 rfl) ?_
                                      exact he_ri hQ hx hb hr hlk hP hD hS dX1_mostFelled_49 (Nat.le_of_ble_eq_true rfl) (Nat.le_of_ble_eq_true rfl) (()) (rfl) (rfl)
                                    · exact absurd (by decide) c_39
                                  · exact absurd c_38 (by decide)
                              · exact absurd c_36 (by decide)
                          · exact absurd c_34 (by decide)
                      · exact absurd c_32 (by decide)
                  · exact absurd c_30 (by decide)
              · exact absurd c_28 (by decide)
          · exact absurd c_26 (by decide)
set_option maxHeartbeats 4000000 in
set_option maxRecDepth 100000 in
theorem c_X1_leastFelled0 (l : Launch) (g : he_G) (v0 : Nat) (v1 : Nat) (v2 : Nat) (v3 : Nat) (dg : Int32) (wo : Nat → Int32) (he_ : Nat → Int32) (pf : Nat → Int32) (a : Int32)  : he_I l yX1_leastFelled wsX1_leastFelled 1 23 0 0 g [.ref v0, .int a] [(v0, .inr (1, [.ref v1, .ref v2, .ref v3, .int 0, .int dg])), (v1, .inl (g.2 1, 3, .inl wo)), (v2, .inl (g.2 1, 3, .inl he_)), (v3, .inl (g.2 1, 3, .inl pf))] (fun (r : Int32) (u : Unit) => r = 0) (fun (u : Unit) => [(v0, .inr (1, [.ref v1, .ref v2, .ref v3, .int 0, .int dg])), (v1, .inl (g.2 1, 3, .inl wo)), (v2, .inl (g.2 1, 3, .inl he_)), (v3, .inl (g.2 1, 3, .inl pf))]) := by
  refine he_begin (l := l) (g := g) (y := yX1_leastFelled) (wl := wsX1_leastFelled) (fr := 1) (lo := 23) (mc := 0) (ms := 0) (av := [.ref v0, .int a]) (ws := [(v0, .inr (1, [.ref v1, .ref v2, .ref v3, .int 0, .int dg])), (v1, .inl (g.2 1, 3, .inl wo)), (v2, .inl (g.2 1, 3, .inl he_)), (v3, .inl (g.2 1, 3, .inl pf))]) (cc := cX1_leastFelled) (maxL := 4) (ret := (some .int)) (fun A => va_Qi (fun (r : Int32) (u : Unit) => r = 0) (fun u t => he_post g A ((fun (u : Unit) => [(v0, .inr (1, [.ref v1, .ref v2, .ref v3, .int 0, .int dg])), (v1, .inl (g.2 1, 3, .inl wo)), (v2, .inl (g.2 1, 3, .inl he_)), (v3, .inl (g.2 1, 3, .inl pf))]) u) t) A) (by decide) rfl (Nat.le_of_ble_eq_true rfl) ?_
  intro p e s m args below meth c A ls H locs Q hQ hB
  obtain ⟨hx, hb, hr, hml, hown, hts, hlk, hin, hP, hK, hD, hS, hA, hE, hl⟩ := hB
  have hl : lv_has ls 4 [(0, .ref v0), (1, .int a)] := hl
  have ml51 := hts (.methodLink RX1 51 Lib.Math.max.name) (by decide +kernel)
  have msmax := hts (.static Lib.Math.max.name) (by decide +kernel)
  have mi := hts (.initialized "java/lang/Math") (by decide +kernel)
  have mcmax := hts (.code Lib.Math.max.name Lib.Math.max.code 2 (some .int)) (by decide +kernel)
  refine lv_iconst (v := 0) hx hb dX1_leastFelled_0 (by decide) ?_
  refine lv_istore_n (lv' := [(2, .int 0), (0, .ref v0), (1, .int a)]) hx hb dX1_leastFelled_1 rfl hl (by decide) rfl (fun ls hl => ?_)
  refine lv_iconst (v := 0) hx hb dX1_leastFelled_2 (by decide) ?_
  refine lv_istore_n (lv' := [(3, .int 0), (2, .int 0), (0, .ref v0), (1, .int a)]) hx hb dX1_leastFelled_3 rfl hl (by decide) rfl (fun ls hl => ?_)
  refine lv_iload_n hx hb dX1_leastFelled_4 rfl (lv_at hl 0 rfl) ?_
  refine lv_aload_n hx hb dX1_leastFelled_5 rfl (lv_at hl 2 rfl) ?_
  refine he_ci (wc := [(v0, .inr (1, [.ref v1, .ref v2, .ref v3, .int 0, .int dg])), (v1, .inl (g.2 1, 3, .inl wo)), (v2, .inl (g.2 1, 3, .inl he_)), (v3, .inl (g.2 1, 3, .inl pf))]) (wr := []) (va_runV (As := []) (rest := [.int 0]) ⟨hx, hb, hml, hown, hts⟩ (c_X1_all0 l g v0 v1 v2 v3 dg wo he_ pf H.size) (cwV 0 hts gX1_leastFelled_X1_all rfl rfl rfl (by decide +kernel) ⟨Nat.le_of_ble_eq_true rfl, Nat.le_of_ble_eq_true rfl⟩) (he_preV (wc := [(v0, .inr (1, [.ref v1, .ref v2, .ref v3, .int 0, .int dg])), (v1, .inl (g.2 1, 3, .inl wo)), (v2, .inl (g.2 1, 3, .inl he_)), (v3, .inl (g.2 1, 3, .inl pf))]) hK hP hD hS hA hE [0, 1, 2, 3] rfl rfl 0 rfl rfl) rfl rfl hl.1 rfl (lv_room (Nat.le_of_ble_eq_true rfl)) dX1_leastFelled_6 ⟨(Nat.le_of_ble_eq_true rfl), (Nat.le_of_ble_eq_true rfl)⟩) hP hD hS hA [0, 1, 2, 3] [] rfl rfl rfl (by decide) (fun r_1 u_2 H locs h_3 hP hD hS => ?_)
  subst h_3
  have hP : va_P g.1 vwCl [(v0, .inr (1, [.ref v1, .ref v2, .ref v3, .int 0, .int dg])), (v1, .inl (g.2 1, 3, .inl wo)), (v2, .inl (g.2 1, 3, .inl he_)), (v3, .inl (g.2 1, 3, .inl pf))] H := hP
  have hD : va_D A [(v0, .inr (1, [.ref v1, .ref v2, .ref v3, .int 0, .int dg])), (v1, .inl (g.2 1, 3, .inl wo)), (v2, .inl (g.2 1, 3, .inl he_)), (v3, .inl (g.2 1, 3, .inl pf))] := hD
  refine lv_icmp_gt (tgt := 37) hx hb dX1_leastFelled_9 (by decide) (fun c_4 => ?_) (fun c_4 => ?_)
  · exact absurd c_4 (by decide)
  · refine lv_aload_n hx hb dX1_leastFelled_12 rfl (lv_at hl 2 rfl) ?_
    refine lv_iload_n hx hb dX1_leastFelled_13 rfl (lv_at hl 0 rfl) ?_
    refine he_ci (wc := [(v0, .inr (1, [.ref v1, .ref v2, .ref v3, .int 0, .int dg])), (v1, .inl (g.2 1, 3, .inl wo)), (v2, .inl (g.2 1, 3, .inl he_)), (v3, .inl (g.2 1, 3, .inl pf))]) (wr := []) (va_runV (As := [.int 0]) (rest := []) ⟨hx, hb, hml, hown, hts⟩ (c_X1_menToHold0 l g v0 v1 v2 v3 dg wo he_ pf H.size) (cwV 1 hts gX1_leastFelled_X1_menToHold rfl rfl rfl (by decide +kernel) ⟨Nat.le_of_ble_eq_true rfl, Nat.le_of_ble_eq_true rfl⟩) (he_preV (wc := [(v0, .inr (1, [.ref v1, .ref v2, .ref v3, .int 0, .int dg])), (v1, .inl (g.2 1, 3, .inl wo)), (v2, .inl (g.2 1, 3, .inl he_)), (v3, .inl (g.2 1, 3, .inl pf))]) hK hP hD hS hA hE [0, 1, 2, 3] rfl rfl 0 rfl rfl) rfl rfl hl.1 rfl (lv_room (Nat.le_of_ble_eq_true rfl)) dX1_leastFelled_14 ⟨(Nat.le_of_ble_eq_true rfl), (Nat.le_of_ble_eq_true rfl)⟩) hP hD hS hA [0, 1, 2, 3] [] rfl rfl rfl (by decide) (fun r_5 u_6 H locs h_7 hP hD hS => ?_)
    subst h_7
    have hP : va_P g.1 vwCl [(v0, .inr (1, [.ref v1, .ref v2, .ref v3, .int 0, .int dg])), (v1, .inl (g.2 1, 3, .inl wo)), (v2, .inl (g.2 1, 3, .inl he_)), (v3, .inl (g.2 1, 3, .inl pf))] H := hP
    have hD : va_D A [(v0, .inr (1, [.ref v1, .ref v2, .ref v3, .int 0, .int dg])), (v1, .inl (g.2 1, 3, .inl wo)), (v2, .inl (g.2 1, 3, .inl he_)), (v3, .inl (g.2 1, 3, .inl pf))] := hD
    refine lv_iload_n hx hb dX1_leastFelled_17 rfl (lv_at hl 3 rfl) ?_
    refine lv_icmp_gt (tgt := 31) hx hb dX1_leastFelled_18 (by decide) (fun c_8 => ?_) (fun c_8 => ?_)
    · refine lv_iinc (v := 1) (lv' := [(3, .int 1), (2, .int 0), (0, .ref v0), (1, .int a)]) hx hb dX1_leastFelled_31 hl (k := 0) rfl (by decide) (by decide) rfl (fun ls hl => ?_)
      refine lv_goto (tgt := 4) hx hb dX1_leastFelled_34 (by decide) ?_
      refine lv_iload_n hx hb dX1_leastFelled_4 rfl (lv_at hl 0 rfl) ?_
      refine lv_aload_n hx hb dX1_leastFelled_5 rfl (lv_at hl 2 rfl) ?_
      refine he_ci (wc := [(v0, .inr (1, [.ref v1, .ref v2, .ref v3, .int 0, .int dg])), (v1, .inl (g.2 1, 3, .inl wo)), (v2, .inl (g.2 1, 3, .inl he_)), (v3, .inl (g.2 1, 3, .inl pf))]) (wr := []) (va_runV (As := []) (rest := [.int 1]) ⟨hx, hb, hml, hown, hts⟩ (c_X1_all0 l g v0 v1 v2 v3 dg wo he_ pf H.size) (cwV 0 hts gX1_leastFelled_X1_all rfl rfl rfl (by decide +kernel) ⟨Nat.le_of_ble_eq_true rfl, Nat.le_of_ble_eq_true rfl⟩) (he_preV (wc := [(v0, .inr (1, [.ref v1, .ref v2, .ref v3, .int 0, .int dg])), (v1, .inl (g.2 1, 3, .inl wo)), (v2, .inl (g.2 1, 3, .inl he_)), (v3, .inl (g.2 1, 3, .inl pf))]) hK hP hD hS hA hE [0, 1, 2, 3] rfl rfl 0 rfl rfl) rfl rfl hl.1 rfl (lv_room (Nat.le_of_ble_eq_true rfl)) dX1_leastFelled_6 ⟨(Nat.le_of_ble_eq_true rfl), (Nat.le_of_ble_eq_true rfl)⟩) hP hD hS hA [0, 1, 2, 3] [] rfl rfl rfl (by decide) (fun r_9 u_10 H locs h_11 hP hD hS => ?_)
      subst h_11
      have hP : va_P g.1 vwCl [(v0, .inr (1, [.ref v1, .ref v2, .ref v3, .int 0, .int dg])), (v1, .inl (g.2 1, 3, .inl wo)), (v2, .inl (g.2 1, 3, .inl he_)), (v3, .inl (g.2 1, 3, .inl pf))] H := hP
      have hD : va_D A [(v0, .inr (1, [.ref v1, .ref v2, .ref v3, .int 0, .int dg])), (v1, .inl (g.2 1, 3, .inl wo)), (v2, .inl (g.2 1, 3, .inl he_)), (v3, .inl (g.2 1, 3, .inl pf))] := hD
      refine lv_icmp_gt (tgt := 37) hx hb dX1_leastFelled_9 (by decide) (fun c_12 => ?_) (fun c_12 => ?_)
      · refine lv_aload_n hx hb dX1_leastFelled_37 rfl (lv_at hl 2 rfl) ?_
        refine lv_aload_n hx hb dX1_leastFelled_38 rfl (lv_at hl 2 rfl) ?_
        refine he_ci (wc := [(v0, .inr (1, [.ref v1, .ref v2, .ref v3, .int 0, .int dg])), (v1, .inl (g.2 1, 3, .inl wo)), (v2, .inl (g.2 1, 3, .inl he_)), (v3, .inl (g.2 1, 3, .inl pf))]) (wr := []) (va_runV (As := []) (rest := [.ref v0]) ⟨hx, hb, hml, hown, hts⟩ (c_X1_all0 l g v0 v1 v2 v3 dg wo he_ pf H.size) (cwV 0 hts gX1_leastFelled_X1_all rfl rfl rfl (by decide +kernel) ⟨Nat.le_of_ble_eq_true rfl, Nat.le_of_ble_eq_true rfl⟩) (he_preV (wc := [(v0, .inr (1, [.ref v1, .ref v2, .ref v3, .int 0, .int dg])), (v1, .inl (g.2 1, 3, .inl wo)), (v2, .inl (g.2 1, 3, .inl he_)), (v3, .inl (g.2 1, 3, .inl pf))]) hK hP hD hS hA hE [0, 1, 2, 3] rfl rfl 0 rfl rfl) rfl rfl hl.1 rfl (lv_room (Nat.le_of_ble_eq_true rfl)) dX1_leastFelled_39 ⟨(Nat.le_of_ble_eq_true rfl), (Nat.le_of_ble_eq_true rfl)⟩) hP hD hS hA [0, 1, 2, 3] [] rfl rfl rfl (by decide) (fun r_13 u_14 H locs h_15 hP hD hS => ?_)
        subst h_15
        have hP : va_P g.1 vwCl [(v0, .inr (1, [.ref v1, .ref v2, .ref v3, .int 0, .int dg])), (v1, .inl (g.2 1, 3, .inl wo)), (v2, .inl (g.2 1, 3, .inl he_)), (v3, .inl (g.2 1, 3, .inl pf))] H := hP
        have hD : va_D A [(v0, .inr (1, [.ref v1, .ref v2, .ref v3, .int 0, .int dg])), (v1, .inl (g.2 1, 3, .inl wo)), (v2, .inl (g.2 1, 3, .inl he_)), (v3, .inl (g.2 1, 3, .inl pf))] := hD
        refine he_ci (wc := [(v0, .inr (1, [.ref v1, .ref v2, .ref v3, .int 0, .int dg])), (v1, .inl (g.2 1, 3, .inl wo)), (v2, .inl (g.2 1, 3, .inl he_)), (v3, .inl (g.2 1, 3, .inl pf))]) (wr := []) (va_runV (As := [.int 0]) (rest := []) ⟨hx, hb, hml, hown, hts⟩ (c_X1_worthOf0 l g v0 v1 v2 v3 dg wo he_ pf H.size) (cwV 1 hts gX1_leastFelled_X1_worthOf rfl rfl rfl (by decide +kernel) ⟨Nat.le_of_ble_eq_true rfl, Nat.le_of_ble_eq_true rfl⟩) (he_preV (wc := [(v0, .inr (1, [.ref v1, .ref v2, .ref v3, .int 0, .int dg])), (v1, .inl (g.2 1, 3, .inl wo)), (v2, .inl (g.2 1, 3, .inl he_)), (v3, .inl (g.2 1, 3, .inl pf))]) hK hP hD hS hA hE [0, 1, 2, 3] rfl rfl 0 rfl rfl) rfl rfl hl.1 rfl (lv_room (Nat.le_of_ble_eq_true rfl)) dX1_leastFelled_42 ⟨(Nat.le_of_ble_eq_true rfl), (Nat.le_of_ble_eq_true rfl)⟩) hP hD hS hA [0, 1, 2, 3] [] rfl rfl rfl (by decide) (fun r_16 u_17 H locs h_18 hP hD hS => ?_)
        subst h_18
        have hP : va_P g.1 vwCl [(v0, .inr (1, [.ref v1, .ref v2, .ref v3, .int 0, .int dg])), (v1, .inl (g.2 1, 3, .inl wo)), (v2, .inl (g.2 1, 3, .inl he_)), (v3, .inl (g.2 1, 3, .inl pf))] H := hP
        have hD : va_D A [(v0, .inr (1, [.ref v1, .ref v2, .ref v3, .int 0, .int dg])), (v1, .inl (g.2 1, 3, .inl wo)), (v2, .inl (g.2 1, 3, .inl he_)), (v3, .inl (g.2 1, 3, .inl pf))] := hD
        refine lv_iload_n hx hb dX1_leastFelled_45 rfl (lv_at hl 1 rfl) ?_
        refine lv_isub hx hb dX1_leastFelled_46 ?_
        refine he_top (0) (by decide) ?_
        exact he_ri hQ hx hb hr hlk hP hD hS dX1_leastFelled_47 (Nat.le_of_ble_eq_true rfl) (Nat.le_of_ble_eq_true rfl) (()) (rfl) (rfl)
      · exact absurd (by decide) c_12
    · refine lv_iload_n hx hb dX1_leastFelled_21 rfl (lv_at hl 1 rfl) ?_
      refine lv_aload_n hx hb dX1_leastFelled_22 rfl (lv_at hl 2 rfl) ?_
      refine lv_iload_n hx hb dX1_leastFelled_23 rfl (lv_at hl 0 rfl) ?_
      refine he_ci (wc := [(v0, .inr (1, [.ref v1, .ref v2, .ref v3, .int 0, .int dg])), (v1, .inl (g.2 1, 3, .inl wo)), (v2, .inl (g.2 1, 3, .inl he_)), (v3, .inl (g.2 1, 3, .inl pf))]) (wr := []) (va_runV (As := [.int 0]) (rest := [.int 0]) ⟨hx, hb, hml, hown, hts⟩ (c_X1_worthOf0 l g v0 v1 v2 v3 dg wo he_ pf H.size) (cwV 1 hts gX1_leastFelled_X1_worthOf rfl rfl rfl (by decide +kernel) ⟨Nat.le_of_ble_eq_true rfl, Nat.le_of_ble_eq_true rfl⟩) (he_preV (wc := [(v0, .inr (1, [.ref v1, .ref v2, .ref v3, .int 0, .int dg])), (v1, .inl (g.2 1, 3, .inl wo)), (v2, .inl (g.2 1, 3, .inl he_)), (v3, .inl (g.2 1, 3, .inl pf))]) hK hP hD hS hA hE [0, 1, 2, 3] rfl rfl 0 rfl rfl) rfl rfl hl.1 rfl (lv_room (Nat.le_of_ble_eq_true rfl)) dX1_leastFelled_24 ⟨(Nat.le_of_ble_eq_true rfl), (Nat.le_of_ble_eq_true rfl)⟩) hP hD hS hA [0, 1, 2, 3] [] rfl rfl rfl (by decide) (fun r_19 u_20 H locs h_21 hP hD hS => ?_)
      subst h_21
      have hP : va_P g.1 vwCl [(v0, .inr (1, [.ref v1, .ref v2, .ref v3, .int 0, .int dg])), (v1, .inl (g.2 1, 3, .inl wo)), (v2, .inl (g.2 1, 3, .inl he_)), (v3, .inl (g.2 1, 3, .inl pf))] H := hP
      have hD : va_D A [(v0, .inr (1, [.ref v1, .ref v2, .ref v3, .int 0, .int dg])), (v1, .inl (g.2 1, 3, .inl wo)), (v2, .inl (g.2 1, 3, .inl he_)), (v3, .inl (g.2 1, 3, .inl pf))] := hD
      refine va_mmax hx hb (by rw [hml]; exact hl.1.symm) hown ml51 msmax mi mcmax (by decide) (Nat.le_of_ble_eq_true rfl) (Nat.le_of_ble_eq_true rfl) (Nat.le_of_ble_eq_true rfl) dX1_leastFelled_27 ?_
      refine he_top (0) (by decide) ?_
      refine lv_istore_n (lv' := [(2, .int 0), (3, .int 0), (0, .ref v0), (1, .int a)]) hx hb dX1_leastFelled_30 rfl hl (by decide) rfl (fun ls hl => ?_)
      refine lv_iinc (v := 1) (lv' := [(3, .int 1), (2, .int 0), (0, .ref v0), (1, .int a)]) hx hb dX1_leastFelled_31 hl (k := 1) rfl (by decide) (by decide) rfl (fun ls hl => ?_)
      refine lv_goto (tgt := 4) hx hb dX1_leastFelled_34 (by decide) ?_
      refine lv_iload_n hx hb dX1_leastFelled_4 rfl (lv_at hl 0 rfl) ?_
      refine lv_aload_n hx hb dX1_leastFelled_5 rfl (lv_at hl 2 rfl) ?_
      refine he_ci (wc := [(v0, .inr (1, [.ref v1, .ref v2, .ref v3, .int 0, .int dg])), (v1, .inl (g.2 1, 3, .inl wo)), (v2, .inl (g.2 1, 3, .inl he_)), (v3, .inl (g.2 1, 3, .inl pf))]) (wr := []) (va_runV (As := []) (rest := [.int 1]) ⟨hx, hb, hml, hown, hts⟩ (c_X1_all0 l g v0 v1 v2 v3 dg wo he_ pf H.size) (cwV 0 hts gX1_leastFelled_X1_all rfl rfl rfl (by decide +kernel) ⟨Nat.le_of_ble_eq_true rfl, Nat.le_of_ble_eq_true rfl⟩) (he_preV (wc := [(v0, .inr (1, [.ref v1, .ref v2, .ref v3, .int 0, .int dg])), (v1, .inl (g.2 1, 3, .inl wo)), (v2, .inl (g.2 1, 3, .inl he_)), (v3, .inl (g.2 1, 3, .inl pf))]) hK hP hD hS hA hE [0, 1, 2, 3] rfl rfl 0 rfl rfl) rfl rfl hl.1 rfl (lv_room (Nat.le_of_ble_eq_true rfl)) dX1_leastFelled_6 ⟨(Nat.le_of_ble_eq_true rfl), (Nat.le_of_ble_eq_true rfl)⟩) hP hD hS hA [0, 1, 2, 3] [] rfl rfl rfl (by decide) (fun r_22 u_23 H locs h_24 hP hD hS => ?_)
      subst h_24
      have hP : va_P g.1 vwCl [(v0, .inr (1, [.ref v1, .ref v2, .ref v3, .int 0, .int dg])), (v1, .inl (g.2 1, 3, .inl wo)), (v2, .inl (g.2 1, 3, .inl he_)), (v3, .inl (g.2 1, 3, .inl pf))] H := hP
      have hD : va_D A [(v0, .inr (1, [.ref v1, .ref v2, .ref v3, .int 0, .int dg])), (v1, .inl (g.2 1, 3, .inl wo)), (v2, .inl (g.2 1, 3, .inl he_)), (v3, .inl (g.2 1, 3, .inl pf))] := hD
      refine lv_icmp_gt (tgt := 37) hx hb dX1_leastFelled_9 (by decide) (fun c_25 => ?_) (fun c_25 => ?_)
      · refine lv_aload_n hx hb dX1_leastFelled_37 rfl (lv_at hl 2 rfl) ?_
        refine lv_aload_n hx hb dX1_leastFelled_38 rfl (lv_at hl 2 rfl) ?_
        refine he_ci (wc := [(v0, .inr (1, [.ref v1, .ref v2, .ref v3, .int 0, .int dg])), (v1, .inl (g.2 1, 3, .inl wo)), (v2, .inl (g.2 1, 3, .inl he_)), (v3, .inl (g.2 1, 3, .inl pf))]) (wr := []) (va_runV (As := []) (rest := [.ref v0]) ⟨hx, hb, hml, hown, hts⟩ (c_X1_all0 l g v0 v1 v2 v3 dg wo he_ pf H.size) (cwV 0 hts gX1_leastFelled_X1_all rfl rfl rfl (by decide +kernel) ⟨Nat.le_of_ble_eq_true rfl, Nat.le_of_ble_eq_true rfl⟩) (he_preV (wc := [(v0, .inr (1, [.ref v1, .ref v2, .ref v3, .int 0, .int dg])), (v1, .inl (g.2 1, 3, .inl wo)), (v2, .inl (g.2 1, 3, .inl he_)), (v3, .inl (g.2 1, 3, .inl pf))]) hK hP hD hS hA hE [0, 1, 2, 3] rfl rfl 0 rfl rfl) rfl rfl hl.1 rfl (lv_room (Nat.le_of_ble_eq_true rfl)) dX1_leastFelled_39 ⟨(Nat.le_of_ble_eq_true rfl), (Nat.le_of_ble_eq_true rfl)⟩) hP hD hS hA [0, 1, 2, 3] [] rfl rfl rfl (by decide) (fun r_26 u_27 H locs h_28 hP hD hS => ?_)
        subst h_28
        have hP : va_P g.1 vwCl [(v0, .inr (1, [.ref v1, .ref v2, .ref v3, .int 0, .int dg])), (v1, .inl (g.2 1, 3, .inl wo)), (v2, .inl (g.2 1, 3, .inl he_)), (v3, .inl (g.2 1, 3, .inl pf))] H := hP
        have hD : va_D A [(v0, .inr (1, [.ref v1, .ref v2, .ref v3, .int 0, .int dg])), (v1, .inl (g.2 1, 3, .inl wo)), (v2, .inl (g.2 1, 3, .inl he_)), (v3, .inl (g.2 1, 3, .inl pf))] := hD
        refine he_ci (wc := [(v0, .inr (1, [.ref v1, .ref v2, .ref v3, .int 0, .int dg])), (v1, .inl (g.2 1, 3, .inl wo)), (v2, .inl (g.2 1, 3, .inl he_)), (v3, .inl (g.2 1, 3, .inl pf))]) (wr := []) (va_runV (As := [.int 0]) (rest := []) ⟨hx, hb, hml, hown, hts⟩ (c_X1_worthOf0 l g v0 v1 v2 v3 dg wo he_ pf H.size) (cwV 1 hts gX1_leastFelled_X1_worthOf rfl rfl rfl (by decide +kernel) ⟨Nat.le_of_ble_eq_true rfl, Nat.le_of_ble_eq_true rfl⟩) (he_preV (wc := [(v0, .inr (1, [.ref v1, .ref v2, .ref v3, .int 0, .int dg])), (v1, .inl (g.2 1, 3, .inl wo)), (v2, .inl (g.2 1, 3, .inl he_)), (v3, .inl (g.2 1, 3, .inl pf))]) hK hP hD hS hA hE [0, 1, 2, 3] rfl rfl 0 rfl rfl) rfl rfl hl.1 rfl (lv_room (Nat.le_of_ble_eq_true rfl)) dX1_leastFelled_42 ⟨(Nat.le_of_ble_eq_true rfl), (Nat.le_of_ble_eq_true rfl)⟩) hP hD hS hA [0, 1, 2, 3] [] rfl rfl rfl (by decide) (fun r_29 u_30 H locs h_31 hP hD hS => ?_)
        subst h_31
        have hP : va_P g.1 vwCl [(v0, .inr (1, [.ref v1, .ref v2, .ref v3, .int 0, .int dg])), (v1, .inl (g.2 1, 3, .inl wo)), (v2, .inl (g.2 1, 3, .inl he_)), (v3, .inl (g.2 1, 3, .inl pf))] H := hP
        have hD : va_D A [(v0, .inr (1, [.ref v1, .ref v2, .ref v3, .int 0, .int dg])), (v1, .inl (g.2 1, 3, .inl wo)), (v2, .inl (g.2 1, 3, .inl he_)), (v3, .inl (g.2 1, 3, .inl pf))] := hD
        refine lv_iload_n hx hb dX1_leastFelled_45 rfl (lv_at hl 1 rfl) ?_
        refine lv_isub hx hb dX1_leastFelled_46 ?_
        refine he_top (0) (by decide) ?_
        exact he_ri hQ hx hb hr hlk hP hD hS dX1_leastFelled_47 (Nat.le_of_ble_eq_true rfl) (Nat.le_of_ble_eq_true rfl) (()) (rfl) (rfl)
      · exact absurd (by decide) c_25
set_option maxHeartbeats 4000000 in
set_option maxRecDepth 100000 in
theorem c_X1_safe0 (l : Launch) (g : he_G) (v0 : Nat) (v1 : Nat) (v2 : Nat) (v3 : Nat) (dg : Int32) (wo : Nat → Int32) (he_ : Nat → Int32) (pf : Nat → Int32) (a : Int32) (d : Nat) (hd6 : d ≤ 6) : he_I l yX1_safe wsX1_safe 2 47 0 0 g [.ref v0, .int 0, .int a, .int (nI d)] [(v0, .inr (1, [.ref v1, .ref v2, .ref v3, .int 0, .int dg])), (v1, .inl (g.2 1, 3, .inl wo)), (v2, .inl (g.2 1, 3, .inl he_)), (v3, .inl (g.2 1, 3, .inl pf))] (fun (r : Int32) (u : Nat → Int32) => r = 0) (fun (u : Nat → Int32) => [(v0, .inr (1, [.ref v1, .ref v2, .ref v3, .int 0, .int 0])), (v1, .inl (g.2 1, 3, .inl wo)), (v2, .inl (g.2 1, 3, .inl he_)), (v3, .inl (g.2 1, 3, .inl u))]) := by
  refine he_begin (l := l) (g := g) (y := yX1_safe) (wl := wsX1_safe) (fr := 2) (lo := 47) (mc := 0) (ms := 0) (av := [.ref v0, .int 0, .int a, .int (nI d)]) (ws := [(v0, .inr (1, [.ref v1, .ref v2, .ref v3, .int 0, .int dg])), (v1, .inl (g.2 1, 3, .inl wo)), (v2, .inl (g.2 1, 3, .inl he_)), (v3, .inl (g.2 1, 3, .inl pf))]) (cc := cX1_safe) (maxL := 8) (ret := (some .int)) (fun A => va_Qi (fun (r : Int32) (u : Nat → Int32) => r = 0) (fun u t => he_post g A ((fun (u : Nat → Int32) => [(v0, .inr (1, [.ref v1, .ref v2, .ref v3, .int 0, .int 0])), (v1, .inl (g.2 1, 3, .inl wo)), (v2, .inl (g.2 1, 3, .inl he_)), (v3, .inl (g.2 1, 3, .inl u))]) u) t) A) (by decide) rfl (Nat.le_of_ble_eq_true rfl) ?_
  intro p e s m args below meth c A ls H locs Q hQ hB
  obtain ⟨hx, hb, hr, hml, hown, hts, hlk, hin, hP, hK, hD, hS, hA, hE, hl⟩ := hB
  have hl : lv_has ls 8 [(0, .ref v0), (1, .int 0), (2, .int a), (3, .int (nI d))] := hl
  have f37 := hts (.fieldLink RX1 37 "HiredEnemy$Battle" "safeDigits" "I") (by decide +kernel)
  have inX1 : ∀ w ∈ wsX10, w ∈ wsX1_safe := by decide +kernel
  have ml51 := hts (.methodLink RX1 51 Lib.Math.max.name) (by decide +kernel)
  have msmax := hts (.static Lib.Math.max.name) (by decide +kernel)
  have mi := hts (.initialized "java/lang/Math") (by decide +kernel)
  have mcmax := hts (.code Lib.Math.max.name Lib.Math.max.code 2 (some .int)) (by decide +kernel)
  refine lv_iconst (v := (-1)) hx hb dX1_safe_0 (by decide) ?_
  refine lv_istore (lv' := [(4, .int (-1)), (0, .ref v0), (1, .int 0), (2, .int a), (3, .int (nI d))]) hx hb dX1_safe_1 hl (by decide) rfl (fun ls hl => ?_)
  refine lv_aload_n hx hb dX1_safe_3 rfl (lv_at hl 1 rfl) ?_
  refine lv_iconst (v := 0) hx hb dX1_safe_4 (by decide) ?_
  refine va_put (v := .int 0) (ty := .int) (T := TX1) (N := 5) hx hb hts inX1 tyX1 tyX1_ok nmX1 hown hK hP hD hS 0 rfl rfl 4 (by decide) f37 (fun _ h9 => h9) rfl (by decide +kernel) rfl rfl (Nat.le_of_ble_eq_true rfl) dX1_safe_5 (fun H locs hP hD hS => ?_)
  have hP : va_P g.1 vwCl [(v0, .inr (1, [.ref v1, .ref v2, .ref v3, .int 0, .int 0])), (v1, .inl (g.2 1, 3, .inl wo)), (v2, .inl (g.2 1, 3, .inl he_)), (v3, .inl (g.2 1, 3, .inl pf))] H := hP
  have hD : va_D A [(v0, .inr (1, [.ref v1, .ref v2, .ref v3, .int 0, .int 0])), (v1, .inl (g.2 1, 3, .inl wo)), (v2, .inl (g.2 1, 3, .inl he_)), (v3, .inl (g.2 1, 3, .inl pf))] := hD
  refine lv_iconst (v := 0) hx hb dX1_safe_8 (by decide) ?_
  refine lv_istore (lv' := [(5, .int 0), (4, .int (-1)), (0, .ref v0), (1, .int 0), (2, .int a), (3, .int (nI d))]) hx hb dX1_safe_9 hl (by decide) rfl (fun ls hl => ?_)
  have loop11 : ∀ (n9 : Nat) (x : Nat) (le : Int32) (pu : Nat → Int32), d + 1 - x < n9 → (x ≤ d + 1) → (le = -1 ∨ le = 0) → ∀ (H : Heap) (locs : List Loc) (ls : Array Slot), va_P g.1 vwCl [(v0, .inr (1, [.ref v1, .ref v2, .ref v3, .int 0, .int 0])), (v1, .inl (g.2 1, 3, .inl wo)), (v2, .inl (g.2 1, 3, .inl he_)), (v3, .inl (g.2 1, 3, .inl pu))] H → va_D A [(v0, .inr (1, [.ref v1, .ref v2, .ref v3, .int 0, .int 0])), (v1, .inl (g.2 1, 3, .inl wo)), (v2, .inl (g.2 1, 3, .inl he_)), (v3, .inl (g.2 1, 3, .inl pu))] → va_S A s.heap H locs → lv_has ls 8 [(0, .ref v0), (1, .int 0), (2, .int a), (3, .int (nI d)), (4, .int le), (5, .int (nI x))] → W p l e (he_room 2 47 0 0) s m args below meth c H locs 0 0 Q (F0 m 11 ls []) := by
    intro n9
    induction n9 with
    | zero => intro x le pu hm9; exact absurd hm9 (Nat.not_lt_zero _)
    | succ n9 ih11 =>
      intro x le pu hm9 hx6 hle H locs ls hP hD hS hl
      refine lv_iload hx hb dX1_safe_11 (lv_at hl 5 rfl) ?_
      refine lv_iload_n hx hb dX1_safe_13 rfl (lv_at hl 3 rfl) ?_
      refine lv_icmp_gt (tgt := 96) hx hb dX1_safe_14 (by decide) (fun c_1 => ?_) (fun c_1 => ?_)
      · have k_2 : d < x := (he_clt (a := d) (b := x) rfl rfl (by omega) (by omega)).mp c_1
        refine lv_iload hx hb dX1_safe_96 (lv_at hl 4 rfl) ?_
        refine lv_iconst (v := 0) hx hb dX1_safe_98 (by decide) ?_
        refine va_mmax hx hb (by rw [hml]; exact hl.1.symm) hown ml51 msmax mi mcmax (by decide) (Nat.le_of_ble_eq_true rfl) (Nat.le_of_ble_eq_true rfl) (Nat.le_of_ble_eq_true rfl) dX1_safe_99 ?_
        refine he_top (0) (by rcases hle with rfl | rfl <;> decide) ?_
        exact he_ri hQ hx hb hr hlk hP hD hS dX1_safe_102 (Nat.le_of_ble_eq_true rfl) (Nat.le_of_ble_eq_true rfl) (pu) (rfl) (rfl)
      · have k_3 : ¬ (d < x) := fun h9 => c_1 ((he_clt (a := d) (b := x) rfl rfl (by omega) (by omega)).mpr h9)
        refine lv_iconst (v := 0) hx hb dX1_safe_17 (by decide) ?_
        refine lv_istore (lv' := [(6, .int 0), (0, .ref v0), (1, .int 0), (2, .int a), (3, .int (nI d)), (4, .int le), (5, .int (nI x))]) hx hb dX1_safe_18 hl (by decide) rfl (fun ls hl => ?_)
        have loop20 : ∀ (n9 : Nat) (y : Nat) (le : Int32) (pu : Nat → Int32), d - x + 1 - y < n9 → (y ≤ d - x + 1) → (le = -1 ∨ le = 0) → ∀ (H : Heap) (locs : List Loc) (ls : Array Slot), va_P g.1 vwCl [(v0, .inr (1, [.ref v1, .ref v2, .ref v3, .int 0, .int 0])), (v1, .inl (g.2 1, 3, .inl wo)), (v2, .inl (g.2 1, 3, .inl he_)), (v3, .inl (g.2 1, 3, .inl pu))] H → va_D A [(v0, .inr (1, [.ref v1, .ref v2, .ref v3, .int 0, .int 0])), (v1, .inl (g.2 1, 3, .inl wo)), (v2, .inl (g.2 1, 3, .inl he_)), (v3, .inl (g.2 1, 3, .inl pu))] → va_S A s.heap H locs → lv_has ls 8 [(0, .ref v0), (1, .int 0), (2, .int a), (3, .int (nI d)), (4, .int le), (5, .int (nI x)), (6, .int (nI y))] → W p l e (he_room 2 47 0 0) s m args below meth c H locs 0 0 Q (F0 m 20 ls []) := by
          intro n9
          induction n9 with
          | zero => intro y le pu hm9; exact absurd hm9 (Nat.not_lt_zero _)
          | succ n9 ih20 =>
            intro y le pu hm9 hy6 hle H locs ls hP hD hS hl
            refine lv_iload hx hb dX1_safe_20 (lv_at hl 6 rfl) ?_
            refine lv_iload_n hx hb dX1_safe_22 rfl (lv_at hl 3 rfl) ?_
            refine lv_iload hx hb dX1_safe_23 (lv_at hl 5 rfl) ?_
            refine lv_isub hx hb dX1_safe_25 ?_
            refine he_top (nI (d - x)) (pk_sub (by omega)) ?_
            refine lv_icmp_gt (tgt := 90) hx hb dX1_safe_26 (by decide) (fun c_4 => ?_) (fun c_4 => ?_)
            · have k_5 : d - x < y := (he_clt (a := d - x) (b := y) rfl rfl (by omega) (by omega)).mp c_4
              refine lv_iinc (v := nI (x + 1)) (lv' := [(5, .int (nI (x + 1))), (0, .ref v0), (1, .int 0), (2, .int a), (3, .int (nI d)), (4, .int le), (6, .int (nI y))]) hx hb dX1_safe_90 hl (k := 5) rfl (nI_1 x) (by decide) rfl (fun ls hl => ?_)
              refine lv_goto (tgt := 11) hx hb dX1_safe_93 (by decide) ?_
              exact ih11 (x + 1) le pu (by omega) (by omega) hle _ _ _ hP hD hS (lv_sub hl [1, 2, 3, 4, 5, 0] rfl)
            · have k_6 : ¬ (d - x < y) := fun h9 => c_4 ((he_clt (a := d - x) (b := y) rfl rfl (by omega) (by omega)).mpr h9)
              refine lv_aload_n hx hb dX1_safe_29 rfl (lv_at hl 0 rfl) ?_
              refine lv_iload_n hx hb dX1_safe_30 rfl (lv_at hl 1 rfl) ?_
              refine lv_iload hx hb dX1_safe_31 (lv_at hl 5 rfl) ?_
              refine lv_iload hx hb dX1_safe_33 (lv_at hl 6 rfl) ?_
              refine lv_iload_n hx hb dX1_safe_35 rfl (lv_at hl 3 rfl) ?_
              refine lv_iload hx hb dX1_safe_36 (lv_at hl 5 rfl) ?_
              refine lv_isub hx hb dX1_safe_38 ?_
              refine he_top (nI (d - x)) (pk_sub (by omega)) ?_
              refine lv_iload hx hb dX1_safe_39 (lv_at hl 6 rfl) ?_
              refine lv_isub hx hb dX1_safe_41 ?_
              refine he_top (nI (d - x - y)) (pk_sub (by omega)) ?_
              refine he_ci (wc := [(v0, .inr (1, [.ref v1, .ref v2, .ref v3, .int 0, .int 0])), (v1, .inl (g.2 1, 3, .inl wo)), (v2, .inl (g.2 1, 3, .inl he_)), (v3, .inl (g.2 1, 3, .inl pu))]) (wr := []) (va_runV (As := [.int 0, .int (nI x), .int (nI y), .int (nI (d - x - y))]) (rest := []) ⟨hx, hb, hml, hown, hts⟩ (c_X1_place0 l g v0 v1 v2 v3 0 wo he_ pu (nI x) (nI y) (nI (d - x - y)) H.size) (cwV 4 hts gX1_safe_X1_place rfl rfl rfl (by decide +kernel) ⟨Nat.le_of_ble_eq_true rfl, Nat.le_of_ble_eq_true rfl⟩) (he_preV (wc := [(v0, .inr (1, [.ref v1, .ref v2, .ref v3, .int 0, .int 0])), (v1, .inl (g.2 1, 3, .inl wo)), (v2, .inl (g.2 1, 3, .inl he_)), (v3, .inl (g.2 1, 3, .inl pu))]) hK hP hD hS hA hE [0, 1, 2, 3] rfl rfl 0 rfl rfl) rfl rfl hl.1 rfl (lv_room (Nat.le_of_ble_eq_true rfl)) dX1_safe_42 ⟨(Nat.le_of_ble_eq_true rfl), (Nat.le_of_ble_eq_true rfl)⟩) hP hD hS hA [0, 1, 2, 3] [] rfl rfl rfl (by decide) (fun r_7 u_8 H locs h_9 hP hD hS => ?_)
              obtain ⟨uf_10, rfl⟩ : ∃ z, z = u_8 := ⟨_, rfl⟩
              try dsimp only at h_9
              have hf_11 := h_9
              have hP : va_P g.1 vwCl [(v0, .inr (1, [.ref v1, .ref v2, .ref v3, .int 0, .int 0])), (v1, .inl (g.2 1, 3, .inl wo)), (v2, .inl (g.2 1, 3, .inl he_)), (v3, .inl (g.2 1, 3, .inl uf_10))] H := hP
              have hD : va_D A [(v0, .inr (1, [.ref v1, .ref v2, .ref v3, .int 0, .int 0])), (v1, .inl (g.2 1, 3, .inl wo)), (v2, .inl (g.2 1, 3, .inl he_)), (v3, .inl (g.2 1, 3, .inl uf_10))] := hD
              refine lv_if_ne (tgt := 51) hx hb dX1_safe_45 (by decide) (fun c_12 => ?_) (fun c_12 => ?_)
              · refine lv_aload_n hx hb dX1_safe_51 rfl (lv_at hl 0 rfl) ?_
                refine lv_iload_n hx hb dX1_safe_52 rfl (lv_at hl 1 rfl) ?_
                refine lv_iload_n hx hb dX1_safe_53 rfl (lv_at hl 2 rfl) ?_
                refine he_ci (wc := [(v0, .inr (1, [.ref v1, .ref v2, .ref v3, .int 0, .int 0])), (v1, .inl (g.2 1, 3, .inl wo)), (v2, .inl (g.2 1, 3, .inl he_)), (v3, .inl (g.2 1, 3, .inl uf_10))]) (wr := []) (va_runV (As := [.int 0, .int a]) (rest := []) ⟨hx, hb, hml, hown, hts⟩ (c_X1_mostFelled0 l g v0 v1 v2 v3 0 wo he_ uf_10 a H.size) (cwV 2 hts gX1_safe_X1_mostFelled rfl rfl rfl (by decide +kernel) ⟨Nat.le_of_ble_eq_true rfl, Nat.le_of_ble_eq_true rfl⟩) (he_preV (wc := [(v0, .inr (1, [.ref v1, .ref v2, .ref v3, .int 0, .int 0])), (v1, .inl (g.2 1, 3, .inl wo)), (v2, .inl (g.2 1, 3, .inl he_)), (v3, .inl (g.2 1, 3, .inl uf_10))]) hK hP hD hS hA hE [0, 1, 2, 3] rfl rfl 0 rfl rfl) rfl rfl hl.1 rfl (lv_room (Nat.le_of_ble_eq_true rfl)) dX1_safe_54 ⟨(Nat.le_of_ble_eq_true rfl), (Nat.le_of_ble_eq_true rfl)⟩) hP hD hS hA [0, 1, 2, 3] [] rfl rfl rfl (by decide) (fun r_13 u_14 H locs h_15 hP hD hS => ?_)
                subst h_15
                have hP : va_P g.1 vwCl [(v0, .inr (1, [.ref v1, .ref v2, .ref v3, .int 0, .int 0])), (v1, .inl (g.2 1, 3, .inl wo)), (v2, .inl (g.2 1, 3, .inl he_)), (v3, .inl (g.2 1, 3, .inl uf_10))] H := hP
                have hD : va_D A [(v0, .inr (1, [.ref v1, .ref v2, .ref v3, .int 0, .int 0])), (v1, .inl (g.2 1, 3, .inl wo)), (v2, .inl (g.2 1, 3, .inl he_)), (v3, .inl (g.2 1, 3, .inl uf_10))] := hD
                refine lv_istore (lv' := [(7, .int 0), (0, .ref v0), (1, .int 0), (2, .int a), (3, .int (nI d)), (4, .int le), (5, .int (nI x)), (6, .int (nI y))]) hx hb dX1_safe_57 hl (by decide) rfl (fun ls hl => ?_)
                refine lv_iload hx hb dX1_safe_59 (lv_at hl 5 rfl) ?_
                refine lv_iconst (v := (-1)) hx hb dX1_safe_61 (by decide) ?_
                refine lv_icmp_eq (tgt := 72) hx hb dX1_safe_62 (by decide) (fun c_16 => ?_) (fun c_16 => ?_)
                · refine lv_iload hx hb dX1_safe_72 (lv_at hl 0 rfl) ?_
                  refine lv_istore (lv' := [(4, .int 0), (7, .int 0), (0, .ref v0), (1, .int 0), (2, .int a), (3, .int (nI d)), (5, .int (nI x)), (6, .int (nI y))]) hx hb dX1_safe_74 hl (by decide) rfl (fun ls hl => ?_)
                  refine lv_aload_n hx hb dX1_safe_76 rfl (lv_at hl 2 rfl) ?_
                  refine lv_aload_n hx hb dX1_safe_77 rfl (lv_at hl 2 rfl) ?_
                  refine he_ci (wc := [(v0, .inr (1, [.ref v1, .ref v2, .ref v3, .int 0, .int 0])), (v1, .inl (g.2 1, 3, .inl wo)), (v2, .inl (g.2 1, 3, .inl he_)), (v3, .inl (g.2 1, 3, .inl uf_10))]) (wr := []) (va_runV (As := []) (rest := [.ref v0]) ⟨hx, hb, hml, hown, hts⟩ (c_X1_digits0 l g v0 v1 v2 v3 0 wo he_ uf_10 H.size) (cwV 0 hts gX1_safe_X1_digits rfl rfl rfl (by decide +kernel) ⟨Nat.le_of_ble_eq_true rfl, Nat.le_of_ble_eq_true rfl⟩) (he_preV (wc := [(v0, .inr (1, [.ref v1, .ref v2, .ref v3, .int 0, .int 0])), (v1, .inl (g.2 1, 3, .inl wo)), (v2, .inl (g.2 1, 3, .inl he_)), (v3, .inl (g.2 1, 3, .inl uf_10))]) hK hP hD hS hA hE [0, 1, 2, 3] rfl rfl 0 rfl rfl) rfl rfl hl.1 rfl (lv_room (Nat.le_of_ble_eq_true rfl)) dX1_safe_78 ⟨(Nat.le_of_ble_eq_true rfl), (Nat.le_of_ble_eq_true rfl)⟩) hP hD hS hA [0, 1, 2, 3] [] rfl rfl rfl (by decide) (fun r_17 u_18 H locs h_19 hP hD hS => ?_)
                  subst h_19
                  have hP : va_P g.1 vwCl [(v0, .inr (1, [.ref v1, .ref v2, .ref v3, .int 0, .int 0])), (v1, .inl (g.2 1, 3, .inl wo)), (v2, .inl (g.2 1, 3, .inl he_)), (v3, .inl (g.2 1, 3, .inl uf_10))] H := hP
                  have hD : va_D A [(v0, .inr (1, [.ref v1, .ref v2, .ref v3, .int 0, .int 0])), (v1, .inl (g.2 1, 3, .inl wo)), (v2, .inl (g.2 1, 3, .inl he_)), (v3, .inl (g.2 1, 3, .inl uf_10))] := hD
                  refine va_put (v := .int 0) (ty := .int) (T := TX1) (N := 5) hx hb hts inX1 tyX1 tyX1_ok nmX1 hown hK hP hD hS 0 rfl rfl 4 (by decide) f37 (fun _ h9 => h9) rfl (by decide +kernel) rfl rfl (Nat.le_of_ble_eq_true rfl) dX1_safe_81 (fun H locs hP hD hS => ?_)
                  have hP : va_P g.1 vwCl [(v0, .inr (1, [.ref v1, .ref v2, .ref v3, .int 0, .int 0])), (v1, .inl (g.2 1, 3, .inl wo)), (v2, .inl (g.2 1, 3, .inl he_)), (v3, .inl (g.2 1, 3, .inl uf_10))] H := hP
                  have hD : va_D A [(v0, .inr (1, [.ref v1, .ref v2, .ref v3, .int 0, .int 0])), (v1, .inl (g.2 1, 3, .inl wo)), (v2, .inl (g.2 1, 3, .inl he_)), (v3, .inl (g.2 1, 3, .inl uf_10))] := hD
                  refine lv_iinc (v := nI (y + 1)) (lv' := [(6, .int (nI (y + 1))), (4, .int 0), (7, .int 0), (0, .ref v0), (1, .int 0), (2, .int a), (3, .int (nI d)), (5, .int (nI x))]) hx hb dX1_safe_84 hl (k := 7) rfl (nI_1 y) (by decide) rfl (fun ls hl => ?_)
                  refine lv_goto (tgt := 20) hx hb dX1_safe_87 (by decide) ?_
                  exact ih20 (y + 1) 0 uf_10 (by omega) (by omega) (Or.inr rfl) _ _ _ hP hD hS (lv_sub hl [3, 4, 5, 6, 1, 7, 0] rfl)
                · refine lv_iload hx hb dX1_safe_65 (lv_at hl 0 rfl) ?_
                  refine lv_iload hx hb dX1_safe_67 (lv_at hl 5 rfl) ?_
                  refine lv_icmp_ge (tgt := 84) hx hb dX1_safe_69 (by decide) (fun c_20 => ?_) (fun c_20 => ?_)
                  · refine lv_iinc (v := nI (y + 1)) (lv' := [(6, .int (nI (y + 1))), (7, .int 0), (0, .ref v0), (1, .int 0), (2, .int a), (3, .int (nI d)), (4, .int le), (5, .int (nI x))]) hx hb dX1_safe_84 hl (k := 7) rfl (nI_1 y) (by decide) rfl (fun ls hl => ?_)
                    refine lv_goto (tgt := 20) hx hb dX1_safe_87 (by decide) ?_
                    exact ih20 (y + 1) le uf_10 (by omega) (by omega) hle _ _ _ hP hD hS (lv_sub hl [2, 3, 4, 5, 6, 7, 0] rfl)
                  · refine lv_iload hx hb dX1_safe_72 (lv_at hl 0 rfl) ?_
                    refine lv_istore (lv' := [(4, .int 0), (7, .int 0), (0, .ref v0), (1, .int 0), (2, .int a), (3, .int (nI d)), (5, .int (nI x)), (6, .int (nI y))]) hx hb dX1_safe_74 hl (by decide) rfl (fun ls hl => ?_)
                    refine lv_aload_n hx hb dX1_safe_76 rfl (lv_at hl 2 rfl) ?_
                    refine lv_aload_n hx hb dX1_safe_77 rfl (lv_at hl 2 rfl) ?_
                    refine he_ci (wc := [(v0, .inr (1, [.ref v1, .ref v2, .ref v3, .int 0, .int 0])), (v1, .inl (g.2 1, 3, .inl wo)), (v2, .inl (g.2 1, 3, .inl he_)), (v3, .inl (g.2 1, 3, .inl uf_10))]) (wr := []) (va_runV (As := []) (rest := [.ref v0]) ⟨hx, hb, hml, hown, hts⟩ (c_X1_digits0 l g v0 v1 v2 v3 0 wo he_ uf_10 H.size) (cwV 0 hts gX1_safe_X1_digits rfl rfl rfl (by decide +kernel) ⟨Nat.le_of_ble_eq_true rfl, Nat.le_of_ble_eq_true rfl⟩) (he_preV (wc := [(v0, .inr (1, [.ref v1, .ref v2, .ref v3, .int 0, .int 0])), (v1, .inl (g.2 1, 3, .inl wo)), (v2, .inl (g.2 1, 3, .inl he_)), (v3, .inl (g.2 1, 3, .inl uf_10))]) hK hP hD hS hA hE [0, 1, 2, 3] rfl rfl 0 rfl rfl) rfl rfl hl.1 rfl (lv_room (Nat.le_of_ble_eq_true rfl)) dX1_safe_78 ⟨(Nat.le_of_ble_eq_true rfl), (Nat.le_of_ble_eq_true rfl)⟩) hP hD hS hA [0, 1, 2, 3] [] rfl rfl rfl (by decide) (fun r_21 u_22 H locs h_23 hP hD hS => ?_)
                    subst h_23
                    have hP : va_P g.1 vwCl [(v0, .inr (1, [.ref v1, .ref v2, .ref v3, .int 0, .int 0])), (v1, .inl (g.2 1, 3, .inl wo)), (v2, .inl (g.2 1, 3, .inl he_)), (v3, .inl (g.2 1, 3, .inl uf_10))] H := hP
                    have hD : va_D A [(v0, .inr (1, [.ref v1, .ref v2, .ref v3, .int 0, .int 0])), (v1, .inl (g.2 1, 3, .inl wo)), (v2, .inl (g.2 1, 3, .inl he_)), (v3, .inl (g.2 1, 3, .inl uf_10))] := hD
                    refine va_put (v := .int 0) (ty := .int) (T := TX1) (N := 5) hx hb hts inX1 tyX1 tyX1_ok nmX1 hown hK hP hD hS 0 rfl rfl 4 (by decide) f37 (fun _ h9 => h9) rfl (by decide +kernel) rfl rfl (Nat.le_of_ble_eq_true rfl) dX1_safe_81 (fun H locs hP hD hS => ?_)
                    have hP : va_P g.1 vwCl [(v0, .inr (1, [.ref v1, .ref v2, .ref v3, .int 0, .int 0])), (v1, .inl (g.2 1, 3, .inl wo)), (v2, .inl (g.2 1, 3, .inl he_)), (v3, .inl (g.2 1, 3, .inl uf_10))] H := hP
                    have hD : va_D A [(v0, .inr (1, [.ref v1, .ref v2, .ref v3, .int 0, .int 0])), (v1, .inl (g.2 1, 3, .inl wo)), (v2, .inl (g.2 1, 3, .inl he_)), (v3, .inl (g.2 1, 3, .inl uf_10))] := hD
                    refine lv_iinc (v := nI (y + 1)) (lv' := [(6, .int (nI (y + 1))), (4, .int 0), (7, .int 0), (0, .ref v0), (1, .int 0), (2, .int a), (3, .int (nI d)), (5, .int (nI x))]) hx hb dX1_safe_84 hl (k := 7) rfl (nI_1 y) (by decide) rfl (fun ls hl => ?_)
                    refine lv_goto (tgt := 20) hx hb dX1_safe_87 (by decide) ?_
                    exact ih20 (y + 1) 0 uf_10 (by omega) (by omega) (Or.inr rfl) _ _ _ hP hD hS (lv_sub hl [3, 4, 5, 6, 1, 7, 0] rfl)
              · refine lv_goto (tgt := 84) hx hb dX1_safe_48 (by decide) ?_
                refine lv_iinc (v := nI (y + 1)) (lv' := [(6, .int (nI (y + 1))), (0, .ref v0), (1, .int 0), (2, .int a), (3, .int (nI d)), (4, .int le), (5, .int (nI x))]) hx hb dX1_safe_84 hl (k := 6) rfl (nI_1 y) (by decide) rfl (fun ls hl => ?_)
                refine lv_goto (tgt := 20) hx hb dX1_safe_87 (by decide) ?_
                exact ih20 (y + 1) le uf_10 (by omega) (by omega) hle _ _ _ hP hD hS (lv_sub hl [1, 2, 3, 4, 5, 6, 0] rfl)
        exact loop20 ((d - x + 1 - 0) + 1) 0 le pu (Nat.lt_succ_self _) (Nat.zero_le _) hle _ _ _ hP hD hS (lv_sub hl [1, 2, 3, 4, 5, 6, 0] rfl)
  exact loop11 ((d + 1 - 0) + 1) 0 (-1) pf (Nat.lt_succ_self _) (Nat.zero_le _) (Or.inl rfl) _ _ _ hP hD hS (lv_sub hl [2, 3, 4, 5, 1, 0] rfl)
set_option maxHeartbeats 4000000 in
set_option maxRecDepth 100000 in
theorem c_X1_sure0 (l : Launch) (g : he_G) (v0 : Nat) (v1 : Nat) (v2 : Nat) (v3 : Nat) (dg : Int32) (wo : Nat → Int32) (he_ : Nat → Int32) (pf : Nat → Int32) (d : Nat) (a : Int32) (hd6 : d ≤ 6) : he_I l yX1_sure wsX1_sure 2 46 0 0 g [.ref v0, .int (nI d), .int a] [(v0, .inr (1, [.ref v1, .ref v2, .ref v3, .int 0, .int dg])), (v1, .inl (g.2 1, 3, .inl wo)), (v2, .inl (g.2 1, 3, .inl he_)), (v3, .inl (g.2 1, 3, .inl pf))] (fun (r : Int32) (u : Nat → Int32) => r = 0) (fun (u : Nat → Int32) => [(v0, .inr (1, [.ref v1, .ref v2, .ref v3, .int 0, .int dg])), (v1, .inl (g.2 1, 3, .inl wo)), (v2, .inl (g.2 1, 3, .inl he_)), (v3, .inl (g.2 1, 3, .inl u))]) := by
  refine he_begin (l := l) (g := g) (y := yX1_sure) (wl := wsX1_sure) (fr := 2) (lo := 46) (mc := 0) (ms := 0) (av := [.ref v0, .int (nI d), .int a]) (ws := [(v0, .inr (1, [.ref v1, .ref v2, .ref v3, .int 0, .int dg])), (v1, .inl (g.2 1, 3, .inl wo)), (v2, .inl (g.2 1, 3, .inl he_)), (v3, .inl (g.2 1, 3, .inl pf))]) (cc := cX1_sure) (maxL := 6) (ret := (some .int)) (fun A => va_Qi (fun (r : Int32) (u : Nat → Int32) => r = 0) (fun u t => he_post g A ((fun (u : Nat → Int32) => [(v0, .inr (1, [.ref v1, .ref v2, .ref v3, .int 0, .int dg])), (v1, .inl (g.2 1, 3, .inl wo)), (v2, .inl (g.2 1, 3, .inl he_)), (v3, .inl (g.2 1, 3, .inl u))]) u) t) A) (by decide) rfl (Nat.le_of_ble_eq_true rfl) ?_
  intro p e s m args below meth c A ls H locs Q hQ hB
  obtain ⟨hx, hb, hr, hml, hown, hts, hlk, hin, hP, hK, hD, hS, hA, hE, hl⟩ := hB
  have hl : lv_has ls 6 [(0, .ref v0), (1, .int (nI d)), (2, .int a)] := hl
  have ml51 := hts (.methodLink RX1 51 Lib.Math.max.name) (by decide +kernel)
  have msmax := hts (.static Lib.Math.max.name) (by decide +kernel)
  have mi := hts (.initialized "java/lang/Math") (by decide +kernel)
  have mcmax := hts (.code Lib.Math.max.name Lib.Math.max.code 2 (some .int)) (by decide +kernel)
  refine lv_iconst (v := 0) hx hb dX1_sure_0 (by decide) ?_
  refine lv_istore_n (lv' := [(3, .int 0), (0, .ref v0), (1, .int (nI d)), (2, .int a)]) hx hb dX1_sure_1 rfl hl (by decide) rfl (fun ls hl => ?_)
  refine lv_iconst (v := 0) hx hb dX1_sure_2 (by decide) ?_
  refine lv_istore (lv' := [(4, .int 0), (3, .int 0), (0, .ref v0), (1, .int (nI d)), (2, .int a)]) hx hb dX1_sure_3 hl (by decide) rfl (fun ls hl => ?_)
  have loop5 : ∀ (n9 : Nat) (x : Nat) (pu : Nat → Int32), d + 1 - x < n9 → (x ≤ d + 1) → ∀ (H : Heap) (locs : List Loc) (ls : Array Slot), va_P g.1 vwCl [(v0, .inr (1, [.ref v1, .ref v2, .ref v3, .int 0, .int dg])), (v1, .inl (g.2 1, 3, .inl wo)), (v2, .inl (g.2 1, 3, .inl he_)), (v3, .inl (g.2 1, 3, .inl pu))] H → va_D A [(v0, .inr (1, [.ref v1, .ref v2, .ref v3, .int 0, .int dg])), (v1, .inl (g.2 1, 3, .inl wo)), (v2, .inl (g.2 1, 3, .inl he_)), (v3, .inl (g.2 1, 3, .inl pu))] → va_S A s.heap H locs → lv_has ls 6 [(0, .ref v0), (1, .int (nI d)), (2, .int a), (3, .int 0), (4, .int (nI x))] → W p l e (he_room 2 46 0 0) s m args below meth c H locs 0 0 Q (F0 m 5 ls []) := by
    intro n9
    induction n9 with
    | zero => intro x pu hm9; exact absurd hm9 (Nat.not_lt_zero _)
    | succ n9 ih5 =>
      intro x pu hm9 hx6 H locs ls hP hD hS hl
      refine lv_iload hx hb dX1_sure_5 (lv_at hl 4 rfl) ?_
      refine lv_iload_n hx hb dX1_sure_7 rfl (lv_at hl 1 rfl) ?_
      refine lv_icmp_gt (tgt := 67) hx hb dX1_sure_8 (by decide) (fun c_1 => ?_) (fun c_1 => ?_)
      · have k_2 : d < x := (he_clt (a := d) (b := x) rfl rfl (by omega) (by omega)).mp c_1
        refine lv_iload_n hx hb dX1_sure_67 rfl (lv_at hl 3 rfl) ?_
        exact he_ri hQ hx hb hr hlk hP hD hS dX1_sure_68 (Nat.le_of_ble_eq_true rfl) (Nat.le_of_ble_eq_true rfl) (pu) (rfl) (rfl)
      · have k_3 : ¬ (d < x) := fun h9 => c_1 ((he_clt (a := d) (b := x) rfl rfl (by omega) (by omega)).mpr h9)
        refine lv_iconst (v := 0) hx hb dX1_sure_11 (by decide) ?_
        refine lv_istore (lv' := [(5, .int 0), (0, .ref v0), (1, .int (nI d)), (2, .int a), (3, .int 0), (4, .int (nI x))]) hx hb dX1_sure_12 hl (by decide) rfl (fun ls hl => ?_)
        have loop14 : ∀ (n9 : Nat) (y : Nat) (pu : Nat → Int32), d - x + 1 - y < n9 → (y ≤ d - x + 1) → ∀ (H : Heap) (locs : List Loc) (ls : Array Slot), va_P g.1 vwCl [(v0, .inr (1, [.ref v1, .ref v2, .ref v3, .int 0, .int dg])), (v1, .inl (g.2 1, 3, .inl wo)), (v2, .inl (g.2 1, 3, .inl he_)), (v3, .inl (g.2 1, 3, .inl pu))] H → va_D A [(v0, .inr (1, [.ref v1, .ref v2, .ref v3, .int 0, .int dg])), (v1, .inl (g.2 1, 3, .inl wo)), (v2, .inl (g.2 1, 3, .inl he_)), (v3, .inl (g.2 1, 3, .inl pu))] → va_S A s.heap H locs → lv_has ls 6 [(0, .ref v0), (1, .int (nI d)), (2, .int a), (3, .int 0), (4, .int (nI x)), (5, .int (nI y))] → W p l e (he_room 2 46 0 0) s m args below meth c H locs 0 0 Q (F0 m 14 ls []) := by
          intro n9
          induction n9 with
          | zero => intro y pu hm9; exact absurd hm9 (Nat.not_lt_zero _)
          | succ n9 ih14 =>
            intro y pu hm9 hy6 H locs ls hP hD hS hl
            refine lv_iload hx hb dX1_sure_14 (lv_at hl 5 rfl) ?_
            refine lv_iload_n hx hb dX1_sure_16 rfl (lv_at hl 1 rfl) ?_
            refine lv_iload hx hb dX1_sure_17 (lv_at hl 4 rfl) ?_
            refine lv_isub hx hb dX1_sure_19 ?_
            refine he_top (nI (d - x)) (pk_sub (by omega)) ?_
            refine lv_icmp_gt (tgt := 61) hx hb dX1_sure_20 (by decide) (fun c_4 => ?_) (fun c_4 => ?_)
            · have k_5 : d - x < y := (he_clt (a := d - x) (b := y) rfl rfl (by omega) (by omega)).mp c_4
              refine lv_iinc (v := nI (x + 1)) (lv' := [(4, .int (nI (x + 1))), (0, .ref v0), (1, .int (nI d)), (2, .int a), (3, .int 0), (5, .int (nI y))]) hx hb dX1_sure_61 hl (k := 4) rfl (nI_1 x) (by decide) rfl (fun ls hl => ?_)
              refine lv_goto (tgt := 5) hx hb dX1_sure_64 (by decide) ?_
              exact ih5 (x + 1) pu (by omega) (by omega) _ _ _ hP hD hS (lv_sub hl [1, 2, 3, 4, 0] rfl)
            · have k_6 : ¬ (d - x < y) := fun h9 => c_4 ((he_clt (a := d - x) (b := y) rfl rfl (by omega) (by omega)).mpr h9)
              refine lv_aload_n hx hb dX1_sure_23 rfl (lv_at hl 0 rfl) ?_
              refine lv_aload_n hx hb dX1_sure_24 rfl (lv_at hl 0 rfl) ?_
              refine he_ci (wc := [(v0, .inr (1, [.ref v1, .ref v2, .ref v3, .int 0, .int dg])), (v1, .inl (g.2 1, 3, .inl wo)), (v2, .inl (g.2 1, 3, .inl he_)), (v3, .inl (g.2 1, 3, .inl pu))]) (wr := []) (va_runV (As := []) (rest := [.ref v0]) ⟨hx, hb, hml, hown, hts⟩ (c_X1_all0 l g v0 v1 v2 v3 dg wo he_ pu H.size) (cwV 0 hts gX1_sure_X1_all rfl rfl rfl (by decide +kernel) ⟨Nat.le_of_ble_eq_true rfl, Nat.le_of_ble_eq_true rfl⟩) (he_preV (wc := [(v0, .inr (1, [.ref v1, .ref v2, .ref v3, .int 0, .int dg])), (v1, .inl (g.2 1, 3, .inl wo)), (v2, .inl (g.2 1, 3, .inl he_)), (v3, .inl (g.2 1, 3, .inl pu))]) hK hP hD hS hA hE [0, 1, 2, 3] rfl rfl 0 rfl rfl) rfl rfl hl.1 rfl (lv_room (Nat.le_of_ble_eq_true rfl)) dX1_sure_25 ⟨(Nat.le_of_ble_eq_true rfl), (Nat.le_of_ble_eq_true rfl)⟩) hP hD hS hA [0, 1, 2, 3] [] rfl rfl rfl (by decide) (fun r_7 u_8 H locs h_9 hP hD hS => ?_)
              subst h_9
              have hP : va_P g.1 vwCl [(v0, .inr (1, [.ref v1, .ref v2, .ref v3, .int 0, .int dg])), (v1, .inl (g.2 1, 3, .inl wo)), (v2, .inl (g.2 1, 3, .inl he_)), (v3, .inl (g.2 1, 3, .inl pu))] H := hP
              have hD : va_D A [(v0, .inr (1, [.ref v1, .ref v2, .ref v3, .int 0, .int dg])), (v1, .inl (g.2 1, 3, .inl wo)), (v2, .inl (g.2 1, 3, .inl he_)), (v3, .inl (g.2 1, 3, .inl pu))] := hD
              refine lv_iload hx hb dX1_sure_28 (lv_at hl 4 rfl) ?_
              refine lv_iload hx hb dX1_sure_30 (lv_at hl 5 rfl) ?_
              refine lv_iload_n hx hb dX1_sure_32 rfl (lv_at hl 1 rfl) ?_
              refine lv_iload hx hb dX1_sure_33 (lv_at hl 4 rfl) ?_
              refine lv_isub hx hb dX1_sure_35 ?_
              refine he_top (nI (d - x)) (pk_sub (by omega)) ?_
              refine lv_iload hx hb dX1_sure_36 (lv_at hl 5 rfl) ?_
              refine lv_isub hx hb dX1_sure_38 ?_
              refine he_top (nI (d - x - y)) (pk_sub (by omega)) ?_
              refine he_ci (wc := [(v0, .inr (1, [.ref v1, .ref v2, .ref v3, .int 0, .int dg])), (v1, .inl (g.2 1, 3, .inl wo)), (v2, .inl (g.2 1, 3, .inl he_)), (v3, .inl (g.2 1, 3, .inl pu))]) (wr := []) (va_runV (As := [.int 0, .int (nI x), .int (nI y), .int (nI (d - x - y))]) (rest := []) ⟨hx, hb, hml, hown, hts⟩ (c_X1_place0 l g v0 v1 v2 v3 dg wo he_ pu (nI x) (nI y) (nI (d - x - y)) H.size) (cwV 4 hts gX1_sure_X1_place rfl rfl rfl (by decide +kernel) ⟨Nat.le_of_ble_eq_true rfl, Nat.le_of_ble_eq_true rfl⟩) (he_preV (wc := [(v0, .inr (1, [.ref v1, .ref v2, .ref v3, .int 0, .int dg])), (v1, .inl (g.2 1, 3, .inl wo)), (v2, .inl (g.2 1, 3, .inl he_)), (v3, .inl (g.2 1, 3, .inl pu))]) hK hP hD hS hA hE [0, 1, 2, 3] rfl rfl 0 rfl rfl) rfl rfl hl.1 rfl (lv_room (Nat.le_of_ble_eq_true rfl)) dX1_sure_39 ⟨(Nat.le_of_ble_eq_true rfl), (Nat.le_of_ble_eq_true rfl)⟩) hP hD hS hA [0, 1, 2, 3] [] rfl rfl rfl (by decide) (fun r_10 u_11 H locs h_12 hP hD hS => ?_)
              obtain ⟨uf_13, rfl⟩ : ∃ z, z = u_11 := ⟨_, rfl⟩
              try dsimp only at h_12
              have hf_14 := h_12
              have hP : va_P g.1 vwCl [(v0, .inr (1, [.ref v1, .ref v2, .ref v3, .int 0, .int dg])), (v1, .inl (g.2 1, 3, .inl wo)), (v2, .inl (g.2 1, 3, .inl he_)), (v3, .inl (g.2 1, 3, .inl uf_13))] H := hP
              have hD : va_D A [(v0, .inr (1, [.ref v1, .ref v2, .ref v3, .int 0, .int dg])), (v1, .inl (g.2 1, 3, .inl wo)), (v2, .inl (g.2 1, 3, .inl he_)), (v3, .inl (g.2 1, 3, .inl uf_13))] := hD
              refine lv_if_eq (tgt := 55) hx hb dX1_sure_42 (by decide) (fun c_15 => ?_) (fun c_15 => ?_)
              · refine lv_iinc (v := nI (y + 1)) (lv' := [(5, .int (nI (y + 1))), (0, .ref v0), (1, .int (nI d)), (2, .int a), (3, .int 0), (4, .int (nI x))]) hx hb dX1_sure_55 hl (k := 5) rfl (nI_1 y) (by decide) rfl (fun ls hl => ?_)
                refine lv_goto (tgt := 14) hx hb dX1_sure_58 (by decide) ?_
                exact ih14 (y + 1) uf_13 (by omega) (by omega) _ _ _ hP hD hS (lv_sub hl [1, 2, 3, 4, 5, 0] rfl)
              · refine lv_iload_n hx hb dX1_sure_45 rfl (lv_at hl 3 rfl) ?_
                refine lv_aload_n hx hb dX1_sure_46 rfl (lv_at hl 0 rfl) ?_
                refine lv_iload_n hx hb dX1_sure_47 rfl (lv_at hl 2 rfl) ?_
                refine he_ci (wc := [(v0, .inr (1, [.ref v1, .ref v2, .ref v3, .int 0, .int dg])), (v1, .inl (g.2 1, 3, .inl wo)), (v2, .inl (g.2 1, 3, .inl he_)), (v3, .inl (g.2 1, 3, .inl uf_13))]) (wr := []) (va_runV (As := [.int a]) (rest := [.int 0]) ⟨hx, hb, hml, hown, hts⟩ (c_X1_leastFelled0 l g v0 v1 v2 v3 dg wo he_ uf_13 a H.size) (cwV 1 hts gX1_sure_X1_leastFelled rfl rfl rfl (by decide +kernel) ⟨Nat.le_of_ble_eq_true rfl, Nat.le_of_ble_eq_true rfl⟩) (he_preV (wc := [(v0, .inr (1, [.ref v1, .ref v2, .ref v3, .int 0, .int dg])), (v1, .inl (g.2 1, 3, .inl wo)), (v2, .inl (g.2 1, 3, .inl he_)), (v3, .inl (g.2 1, 3, .inl uf_13))]) hK hP hD hS hA hE [0, 1, 2, 3] rfl rfl 0 rfl rfl) rfl rfl hl.1 rfl (lv_room (Nat.le_of_ble_eq_true rfl)) dX1_sure_48 ⟨(Nat.le_of_ble_eq_true rfl), (Nat.le_of_ble_eq_true rfl)⟩) hP hD hS hA [0, 1, 2, 3] [] rfl rfl rfl (by decide) (fun r_16 u_17 H locs h_18 hP hD hS => ?_)
                subst h_18
                have hP : va_P g.1 vwCl [(v0, .inr (1, [.ref v1, .ref v2, .ref v3, .int 0, .int dg])), (v1, .inl (g.2 1, 3, .inl wo)), (v2, .inl (g.2 1, 3, .inl he_)), (v3, .inl (g.2 1, 3, .inl uf_13))] H := hP
                have hD : va_D A [(v0, .inr (1, [.ref v1, .ref v2, .ref v3, .int 0, .int dg])), (v1, .inl (g.2 1, 3, .inl wo)), (v2, .inl (g.2 1, 3, .inl he_)), (v3, .inl (g.2 1, 3, .inl uf_13))] := hD
                refine va_mmax hx hb (by rw [hml]; exact hl.1.symm) hown ml51 msmax mi mcmax (by decide) (Nat.le_of_ble_eq_true rfl) (Nat.le_of_ble_eq_true rfl) (Nat.le_of_ble_eq_true rfl) dX1_sure_51 ?_
                refine he_top (0) (by decide) ?_
                refine lv_istore_n (lv' := [(3, .int 0), (0, .ref v0), (1, .int (nI d)), (2, .int a), (4, .int (nI x)), (5, .int (nI y))]) hx hb dX1_sure_54 rfl hl (by decide) rfl (fun ls hl => ?_)
                refine lv_iinc (v := nI (y + 1)) (lv' := [(5, .int (nI (y + 1))), (3, .int 0), (0, .ref v0), (1, .int (nI d)), (2, .int a), (4, .int (nI x))]) hx hb dX1_sure_55 hl (k := 5) rfl (nI_1 y) (by decide) rfl (fun ls hl => ?_)
                refine lv_goto (tgt := 14) hx hb dX1_sure_58 (by decide) ?_
                exact ih14 (y + 1) uf_13 (by omega) (by omega) _ _ _ hP hD hS (lv_sub hl [2, 3, 4, 1, 5, 0] rfl)
        exact loop14 ((d - x + 1 - 0) + 1) 0 pu (Nat.lt_succ_self _) (Nat.zero_le _) _ _ _ hP hD hS (lv_sub hl [1, 2, 3, 4, 5, 0] rfl)
  exact loop5 ((d + 1 - 0) + 1) 0 pf (Nat.lt_succ_self _) (Nat.zero_le _) _ _ _ hP hD hS (lv_sub hl [2, 3, 4, 1, 0] rfl)
set_option maxHeartbeats 4000000 in
set_option maxRecDepth 100000 in
theorem c_X7_skip0 (l : Launch) (g : he_G) (z0 : Nat) (z1 : Nat) (y0 : Nat) (fa : Int32) (pl : Int32)  : he_V l yX7_skipBlanks wsX7_skipBlanks 0 0 0 0 g [.ref z0] [(z0, .inr (7, [.ref y0, .int 0, .int 0, .int fa, .int pl, .ref z1]))] (fun (u : Unit) => True) (fun (u : Unit) => [(z0, .inr (7, [.ref y0, .int 0, .int 0, .int fa, .int pl, .ref z1]))]) := by
  refine he_begin (l := l) (g := g) (y := yX7_skipBlanks) (wl := wsX7_skipBlanks) (fr := 0) (lo := 0) (mc := 0) (ms := 0) (av := [.ref z0]) (ws := [(z0, .inr (7, [.ref y0, .int 0, .int 0, .int fa, .int pl, .ref z1]))]) (cc := cX7_skipBlanks) (maxL := 1) (ret := none) (fun A => va_Qv (fun (u : Unit) => True) (fun u t => he_post g A ((fun (u : Unit) => [(z0, .inr (7, [.ref y0, .int 0, .int 0, .int fa, .int pl, .ref z1]))]) u) t) A) (by decide) rfl (Nat.le_of_ble_eq_true rfl) ?_
  intro p e s m args below meth c A ls H locs Q hQ hB
  obtain ⟨hx, hb, hr, hml, hown, hts, hlk, hin, hP, hK, hD, hS, hA, hE, hl⟩ := hB
  have hl : lv_has ls 1 [(0, .ref z0)] := hl
  have f32 := hts (.fieldLink RX7 32 "HiredEnemy$Reader" "at" "I") (by decide +kernel)
  have inX7 : ∀ w ∈ wsX70, w ∈ wsX7_skipBlanks := by decide +kernel
  have f29 := hts (.fieldLink RX7 29 "HiredEnemy$Reader" "length" "I") (by decide +kernel)
  refine lv_aload_n hx hb dX7_skipBlanks_0 rfl (lv_at hl 0 rfl) ?_
  refine va_get (v := .int 0) (T := TX7) (N := 6) hx hb hts inX7 hown hK hP 0 rfl rfl 2 (by decide) f32 (fun _ h9 => h9) rfl dX7_skipBlanks_1 ?_
  refine lv_aload_n hx hb dX7_skipBlanks_4 rfl (lv_at hl 0 rfl) ?_
  refine va_get (v := .int 0) (T := TX7) (N := 6) hx hb hts inX7 hown hK hP 0 rfl rfl 1 (by decide) f29 (fun _ h9 => h9) rfl dX7_skipBlanks_5 ?_
  refine lv_icmp_ge (tgt := 38) hx hb dX7_skipBlanks_8 (by decide) (fun c_1 => ?_) (fun c_1 => ?_)
  · exact he_rv hQ hx hb hr hlk hP hD hS dX7_skipBlanks_38 (Nat.le_of_ble_eq_true rfl) (Nat.le_of_ble_eq_true rfl) (()) (rfl) (trivial)
  · exact absurd (by decide) c_1
set_option maxHeartbeats 4000000 in
set_option maxRecDepth 100000 in
theorem c_X6_mostParts (l : Launch) (g : he_G) (p0 : Nat) (p1 : Nat) (p2 : Nat) (p3 : Nat) (p4 : Nat) (w : Int32)  : he_I l yX6_mostParts wsX6_mostParts 0 0 0 0 g [.ref p0] [(p0, .inr (6, [.ref p1, .ref p2, .ref p3, .ref p4, .int w]))] (fun (r : Int32) (u : Unit) => r = 60) (fun (u : Unit) => [(p0, .inr (6, [.ref p1, .ref p2, .ref p3, .ref p4, .int w]))]) := by
  refine he_begin (l := l) (g := g) (y := yX6_mostParts) (wl := wsX6_mostParts) (fr := 0) (lo := 0) (mc := 0) (ms := 0) (av := [.ref p0]) (ws := [(p0, .inr (6, [.ref p1, .ref p2, .ref p3, .ref p4, .int w]))]) (cc := cX6_mostParts) (maxL := 1) (ret := (some .int)) (fun A => va_Qi (fun (r : Int32) (u : Unit) => r = 60) (fun u t => he_post g A ((fun (u : Unit) => [(p0, .inr (6, [.ref p1, .ref p2, .ref p3, .ref p4, .int w]))]) u) t) A) (by decide) rfl (Nat.le_of_ble_eq_true rfl) ?_
  intro p e s m args below meth c A ls H locs Q hQ hB
  obtain ⟨hx, hb, hr, hml, hown, hts, hlk, hin, hP, hK, hD, hS, hA, hE, hl⟩ := hB
  have hl : lv_has ls 1 [(0, .ref p0)] := hl
  refine lv_bipush (v := 60) hx hb dX6_mostParts_0 (by decide) ?_
  exact he_ri hQ hx hb hr hlk hP hD hS dX6_mostParts_2 (Nat.le_of_ble_eq_true rfl) (Nat.le_of_ble_eq_true rfl) (()) (rfl) (rfl)
set_option maxHeartbeats 4000000 in
set_option maxRecDepth 100000 in
theorem c_X5_mostParts (l : Launch) (g : he_G) (t0 : Nat) (t1 : Nat) (t2 : Nat) (pw : Int32)  : he_I l yX5_mostParts wsX5_mostParts 0 0 0 0 g [.ref t0] [(t0, .inr (5, [.ref t1, .ref t2, .int pw]))] (fun (r : Int32) (u : Unit) => r = 20) (fun (u : Unit) => [(t0, .inr (5, [.ref t1, .ref t2, .int pw]))]) := by
  refine he_begin (l := l) (g := g) (y := yX5_mostParts) (wl := wsX5_mostParts) (fr := 0) (lo := 0) (mc := 0) (ms := 0) (av := [.ref t0]) (ws := [(t0, .inr (5, [.ref t1, .ref t2, .int pw]))]) (cc := cX5_mostParts) (maxL := 1) (ret := (some .int)) (fun A => va_Qi (fun (r : Int32) (u : Unit) => r = 20) (fun u t => he_post g A ((fun (u : Unit) => [(t0, .inr (5, [.ref t1, .ref t2, .int pw]))]) u) t) A) (by decide) rfl (Nat.le_of_ble_eq_true rfl) ?_
  intro p e s m args below meth c A ls H locs Q hQ hB
  obtain ⟨hx, hb, hr, hml, hown, hts, hlk, hin, hP, hK, hD, hS, hA, hE, hl⟩ := hB
  have hl : lv_has ls 1 [(0, .ref t0)] := hl
  refine lv_bipush (v := 20) hx hb dX5_mostParts_0 (by decide) ?_
  exact he_ri hQ hx hb hr hlk hP hD hS dX5_mostParts_2 (Nat.le_of_ble_eq_true rfl) (Nat.le_of_ble_eq_true rfl) (()) (rfl) (rfl)
set_option maxHeartbeats 4000000 in
set_option maxRecDepth 100000 in
theorem c_X7_read06 (l : Launch) (g : he_G) (z0 : Nat) (z1 : Nat) (y1 : Nat) (n1 : Int32) (at1 : Int32) (fa : Int32) (pl : Int32) (y0 : Nat) (tp : Nat → Int32) (p0 : Nat) (p1 : Nat) (p2 : Nat) (p3 : Nat) (p4 : Nat) (w : Int32)  : he_I l yX7_read wsX7_read 1 20 0 0 g [.ref z0, .ref y0, .int 0, .ref p0] [(z0, .inr (7, [.ref y1, .int n1, .int at1, .int fa, .int pl, .ref z1])), (y0, .inl (g.2 0, 500, .inl tp)), (p0, .inr (6, [.ref p1, .ref p2, .ref p3, .ref p4, .int w]))] (fun (r : Int32) (u : Unit) => r = 0) (fun (u : Unit) => [(z0, .inr (7, [.ref y0, .int 0, .int 0, .int 0, .int (-1), .ref z1])), (y0, .inl (g.2 0, 500, .inl tp)), (p0, .inr (6, [.ref p1, .ref p2, .ref p3, .ref p4, .int w]))]) := by
  refine he_begin (l := l) (g := g) (y := yX7_read) (wl := wsX7_read) (fr := 1) (lo := 20) (mc := 0) (ms := 0) (av := [.ref z0, .ref y0, .int 0, .ref p0]) (ws := [(z0, .inr (7, [.ref y1, .int n1, .int at1, .int fa, .int pl, .ref z1])), (y0, .inl (g.2 0, 500, .inl tp)), (p0, .inr (6, [.ref p1, .ref p2, .ref p3, .ref p4, .int w]))]) (cc := cX7_read) (maxL := 5) (ret := (some .int)) (fun A => va_Qi (fun (r : Int32) (u : Unit) => r = 0) (fun u t => he_post g A ((fun (u : Unit) => [(z0, .inr (7, [.ref y0, .int 0, .int 0, .int 0, .int (-1), .ref z1])), (y0, .inl (g.2 0, 500, .inl tp)), (p0, .inr (6, [.ref p1, .ref p2, .ref p3, .ref p4, .int w]))]) u) t) A) (by decide) rfl (Nat.le_of_ble_eq_true rfl) ?_
  intro p e s m args below meth c A ls H locs Q hQ hB
  obtain ⟨hx, hb, hr, hml, hown, hts, hlk, hin, hP, hK, hD, hS, hA, hE, hl⟩ := hB
  have hl : lv_has ls 5 [(0, .ref z0), (1, .ref y0), (2, .int 0), (3, .ref p0)] := hl
  have f9 := hts (.fieldLink RX7 9 "HiredEnemy$Reader" "bytes" "[B") (by decide +kernel)
  have inX7 : ∀ w ∈ wsX70, w ∈ wsX7_read := by decide +kernel
  have ml23 := hts (.methodLink RX7 23 Lib.Math.min.name) (by decide +kernel)
  have msmin := hts (.static Lib.Math.min.name) (by decide +kernel)
  have mi := hts (.initialized "java/lang/Math") (by decide +kernel)
  have mcmin := hts (.code Lib.Math.min.name Lib.Math.min.code 2 (some .int)) (by decide +kernel)
  have f29 := hts (.fieldLink RX7 29 "HiredEnemy$Reader" "length" "I") (by decide +kernel)
  have f32 := hts (.fieldLink RX7 32 "HiredEnemy$Reader" "at" "I") (by decide +kernel)
  have f35 := hts (.fieldLink RX7 35 "HiredEnemy$Reader" "fault" "I") (by decide +kernel)
  have f15 := hts (.fieldLink RX7 15 "HiredEnemy$Reader" "place" "I") (by decide +kernel)
  have dc38 := hE.decl ⟨RX9, "mostParts", "()I"⟩ (by decide +kernel)
  refine lv_aload_n hx hb dX7_read_0 rfl (lv_at hl 0 rfl) ?_
  refine lv_aload_n hx hb dX7_read_1 rfl (lv_at hl 1 rfl) ?_
  refine va_put (v := .ref y0) (ty := tyX7 0) (T := TX7) (N := 6) hx hb hts inX7 tyX7 tyX7_ok nmX7 hown hK hP hD hS 0 rfl rfl 0 (by decide) f9 (fun _ h9 => h9) rfl (by decide +kernel) rfl rfl (Nat.le_of_ble_eq_true rfl) dX7_read_2 (fun H locs hP hD hS => ?_)
  have hP : va_P g.1 vwCl [(z0, .inr (7, [.ref y0, .int n1, .int at1, .int fa, .int pl, .ref z1])), (y0, .inl (g.2 0, 500, .inl tp)), (p0, .inr (6, [.ref p1, .ref p2, .ref p3, .ref p4, .int w]))] H := hP
  have hD : va_D A [(z0, .inr (7, [.ref y0, .int n1, .int at1, .int fa, .int pl, .ref z1])), (y0, .inl (g.2 0, 500, .inl tp)), (p0, .inr (6, [.ref p1, .ref p2, .ref p3, .ref p4, .int w]))] := hD
  refine lv_aload_n hx hb dX7_read_5 rfl (lv_at hl 0 rfl) ?_
  refine lv_iload_n hx hb dX7_read_6 rfl (lv_at hl 2 rfl) ?_
  refine lv_aload_n hx hb dX7_read_7 rfl (lv_at hl 1 rfl) ?_
  refine va_alen (v := 500) hx hb hK hP 1 0 rfl rfl rfl dX7_read_8 ?_
  refine va_mmin hx hb (by rw [hml]; exact hl.1.symm) hown ml23 msmin mi mcmin (by decide) (Nat.le_of_ble_eq_true rfl) (Nat.le_of_ble_eq_true rfl) (Nat.le_of_ble_eq_true rfl) dX7_read_9 ?_
  refine he_top (0) (by decide) ?_
  refine va_put (v := .int 0) (ty := .int) (T := TX7) (N := 6) hx hb hts inX7 tyX7 tyX7_ok nmX7 hown hK hP hD hS 0 rfl rfl 1 (by decide) f29 (fun _ h9 => h9) rfl (by decide +kernel) rfl rfl (Nat.le_of_ble_eq_true rfl) dX7_read_12 (fun H locs hP hD hS => ?_)
  have hP : va_P g.1 vwCl [(z0, .inr (7, [.ref y0, .int 0, .int at1, .int fa, .int pl, .ref z1])), (y0, .inl (g.2 0, 500, .inl tp)), (p0, .inr (6, [.ref p1, .ref p2, .ref p3, .ref p4, .int w]))] H := hP
  have hD : va_D A [(z0, .inr (7, [.ref y0, .int 0, .int at1, .int fa, .int pl, .ref z1])), (y0, .inl (g.2 0, 500, .inl tp)), (p0, .inr (6, [.ref p1, .ref p2, .ref p3, .ref p4, .int w]))] := hD
  refine lv_aload_n hx hb dX7_read_15 rfl (lv_at hl 0 rfl) ?_
  refine lv_iconst (v := 0) hx hb dX7_read_16 (by decide) ?_
  refine va_put (v := .int 0) (ty := .int) (T := TX7) (N := 6) hx hb hts inX7 tyX7 tyX7_ok nmX7 hown hK hP hD hS 0 rfl rfl 2 (by decide) f32 (fun _ h9 => h9) rfl (by decide +kernel) rfl rfl (Nat.le_of_ble_eq_true rfl) dX7_read_17 (fun H locs hP hD hS => ?_)
  have hP : va_P g.1 vwCl [(z0, .inr (7, [.ref y0, .int 0, .int 0, .int fa, .int pl, .ref z1])), (y0, .inl (g.2 0, 500, .inl tp)), (p0, .inr (6, [.ref p1, .ref p2, .ref p3, .ref p4, .int w]))] H := hP
  have hD : va_D A [(z0, .inr (7, [.ref y0, .int 0, .int 0, .int fa, .int pl, .ref z1])), (y0, .inl (g.2 0, 500, .inl tp)), (p0, .inr (6, [.ref p1, .ref p2, .ref p3, .ref p4, .int w]))] := hD
  refine lv_aload_n hx hb dX7_read_20 rfl (lv_at hl 0 rfl) ?_
  refine lv_iconst (v := 0) hx hb dX7_read_21 (by decide) ?_
  refine va_put (v := .int 0) (ty := .int) (T := TX7) (N := 6) hx hb hts inX7 tyX7 tyX7_ok nmX7 hown hK hP hD hS 0 rfl rfl 3 (by decide) f35 (fun _ h9 => h9) rfl (by decide +kernel) rfl rfl (Nat.le_of_ble_eq_true rfl) dX7_read_22 (fun H locs hP hD hS => ?_)
  have hP : va_P g.1 vwCl [(z0, .inr (7, [.ref y0, .int 0, .int 0, .int 0, .int pl, .ref z1])), (y0, .inl (g.2 0, 500, .inl tp)), (p0, .inr (6, [.ref p1, .ref p2, .ref p3, .ref p4, .int w]))] H := hP
  have hD : va_D A [(z0, .inr (7, [.ref y0, .int 0, .int 0, .int 0, .int pl, .ref z1])), (y0, .inl (g.2 0, 500, .inl tp)), (p0, .inr (6, [.ref p1, .ref p2, .ref p3, .ref p4, .int w]))] := hD
  refine lv_aload_n hx hb dX7_read_25 rfl (lv_at hl 0 rfl) ?_
  refine lv_iconst (v := (-1)) hx hb dX7_read_26 (by decide) ?_
  refine va_put (v := .int (-1)) (ty := .int) (T := TX7) (N := 6) hx hb hts inX7 tyX7 tyX7_ok nmX7 hown hK hP hD hS 0 rfl rfl 4 (by decide) f15 (fun _ h9 => h9) rfl (by decide +kernel) rfl rfl (Nat.le_of_ble_eq_true rfl) dX7_read_27 (fun H locs hP hD hS => ?_)
  have hP : va_P g.1 vwCl [(z0, .inr (7, [.ref y0, .int 0, .int 0, .int 0, .int (-1), .ref z1])), (y0, .inl (g.2 0, 500, .inl tp)), (p0, .inr (6, [.ref p1, .ref p2, .ref p3, .ref p4, .int w]))] H := hP
  have hD : va_D A [(z0, .inr (7, [.ref y0, .int 0, .int 0, .int 0, .int (-1), .ref z1])), (y0, .inl (g.2 0, 500, .inl tp)), (p0, .inr (6, [.ref p1, .ref p2, .ref p3, .ref p4, .int w]))] := hD
  refine lv_iconst (v := 0) hx hb dX7_read_30 (by decide) ?_
  refine lv_istore (lv' := [(4, .int 0), (0, .ref z0), (1, .ref y0), (2, .int 0), (3, .ref p0)]) hx hb dX7_read_31 hl (by decide) rfl (fun ls hl => ?_)
  refine lv_iload hx hb dX7_read_33 (lv_at hl 0 rfl) ?_
  refine lv_aload_n hx hb dX7_read_35 rfl (lv_at hl 4 rfl) ?_
  refine he_ci (wc := [(p0, .inr (6, [.ref p1, .ref p2, .ref p3, .ref p4, .int w]))]) (wr := [(z0, .inr (7, [.ref y0, .int 0, .int 0, .int 0, .int (-1), .ref z1])), (y0, .inl (g.2 0, 500, .inl tp))]) (va_runU (As := []) (rest := [.int 0]) ⟨hx, hb, hml, hown, hts⟩ (c_X6_mostParts l g p0 p1 p2 p3 p4 w H.size) (va_cwA 0 hts gX7_read_X6_mostParts_u38X6 rfl rfl rfl dc38 (by decide +kernel) ⟨Nat.le_of_ble_eq_true rfl, Nat.le_of_ble_eq_true rfl⟩) (he_preV (wc := [(p0, .inr (6, [.ref p1, .ref p2, .ref p3, .ref p4, .int w]))]) hK hP hD hS hA hE [2] rfl rfl 2 rfl rfl) rfl rfl hl.1 rfl (lv_room (Nat.le_of_ble_eq_true rfl)) dX7_read_36 ⟨(Nat.le_of_ble_eq_true rfl), (Nat.le_of_ble_eq_true rfl)⟩) hP hD hS hA [2] [0, 1] rfl rfl rfl (by decide) (fun r_1 u_2 H locs h_3 hP hD hS => ?_)
  subst h_3
  have hP : va_P g.1 vwCl [(z0, .inr (7, [.ref y0, .int 0, .int 0, .int 0, .int (-1), .ref z1])), (y0, .inl (g.2 0, 500, .inl tp)), (p0, .inr (6, [.ref p1, .ref p2, .ref p3, .ref p4, .int w]))] H := hP
  have hD : va_D A [(z0, .inr (7, [.ref y0, .int 0, .int 0, .int 0, .int (-1), .ref z1])), (y0, .inl (g.2 0, 500, .inl tp)), (p0, .inr (6, [.ref p1, .ref p2, .ref p3, .ref p4, .int w]))] := hD
  refine lv_icmp_gt (tgt := 76) hx hb dX7_read_39 (by decide) (fun c_4 => ?_) (fun c_4 => ?_)
  · exact absurd c_4 (by decide)
  · refine lv_aload_n hx hb dX7_read_42 rfl (lv_at hl 1 rfl) ?_
    refine he_cv (wc := [(z0, .inr (7, [.ref y0, .int 0, .int 0, .int 0, .int (-1), .ref z1]))]) (wr := [(y0, .inl (g.2 0, 500, .inl tp)), (p0, .inr (6, [.ref p1, .ref p2, .ref p3, .ref p4, .int w]))]) (va_runV (As := []) (rest := []) ⟨hx, hb, hml, hown, hts⟩ (c_X7_skip0 l g z0 z1 y0 0 (-1) H.size) (cwV 0 hts gX7_read_X7_skipBlanks rfl rfl rfl (by decide +kernel) ⟨Nat.le_of_ble_eq_true rfl, Nat.le_of_ble_eq_true rfl⟩) (he_preV (wc := [(z0, .inr (7, [.ref y0, .int 0, .int 0, .int 0, .int (-1), .ref z1]))]) hK hP hD hS hA hE [0] rfl rfl 0 rfl rfl) rfl rfl hl.1 rfl (lv_room (Nat.le_of_ble_eq_true rfl)) dX7_read_43 ⟨(Nat.le_of_ble_eq_true rfl), (Nat.le_of_ble_eq_true rfl)⟩) hP hD hS hA [0] [1, 2] rfl rfl rfl (by decide) (fun u_6 H locs h_7 hP hD hS => ?_)
    have hP : va_P g.1 vwCl [(y0, .inl (g.2 0, 500, .inl tp)), (p0, .inr (6, [.ref p1, .ref p2, .ref p3, .ref p4, .int w])), (z0, .inr (7, [.ref y0, .int 0, .int 0, .int 0, .int (-1), .ref z1]))] H := hP
    have hD : va_D A [(y0, .inl (g.2 0, 500, .inl tp)), (p0, .inr (6, [.ref p1, .ref p2, .ref p3, .ref p4, .int w])), (z0, .inr (7, [.ref y0, .int 0, .int 0, .int 0, .int (-1), .ref z1]))] := hD
    refine lv_aload_n hx hb dX7_read_46 rfl (lv_at hl 1 rfl) ?_
    refine va_get (v := .int 0) (T := TX7) (N := 6) hx hb hts inX7 hown hK hP 2 rfl rfl 2 (by decide) f32 (fun _ h9 => h9) rfl dX7_read_47 ?_
    refine lv_aload_n hx hb dX7_read_50 rfl (lv_at hl 1 rfl) ?_
    refine va_get (v := .int 0) (T := TX7) (N := 6) hx hb hts inX7 hown hK hP 2 rfl rfl 1 (by decide) f29 (fun _ h9 => h9) rfl dX7_read_51 ?_
    refine lv_icmp_ge (tgt := 76) hx hb dX7_read_54 (by decide) (fun c_8 => ?_) (fun c_8 => ?_)
    · refine lv_aload_n hx hb dX7_read_76 rfl (lv_at hl 1 rfl) ?_
      refine va_get (v := .int 0) (T := TX7) (N := 6) hx hb hts inX7 hown hK hP 2 rfl rfl 3 (by decide) f35 (fun _ h9 => h9) rfl dX7_read_77 ?_
      have hP := hP.sub (ws' := [(z0, .inr (7, [.ref y0, .int 0, .int 0, .int 0, .int (-1), .ref z1])), (y0, .inl (g.2 0, 500, .inl tp)), (p0, .inr (6, [.ref p1, .ref p2, .ref p3, .ref p4, .int w]))]) [2, 0, 1] rfl
      have hD := hD.sub (ws' := [(z0, .inr (7, [.ref y0, .int 0, .int 0, .int 0, .int (-1), .ref z1])), (y0, .inl (g.2 0, 500, .inl tp)), (p0, .inr (6, [.ref p1, .ref p2, .ref p3, .ref p4, .int w]))]) [2, 0, 1] (by decide) rfl
      exact he_ri hQ hx hb hr hlk hP hD hS dX7_read_80 (Nat.le_of_ble_eq_true rfl) (Nat.le_of_ble_eq_true rfl) (()) (rfl) (rfl)
    · exact absurd (by decide) c_8
set_option maxHeartbeats 4000000 in
set_option maxRecDepth 100000 in
theorem c_X7_read05 (l : Launch) (g : he_G) (z0 : Nat) (z1 : Nat) (y1 : Nat) (n1 : Int32) (at1 : Int32) (fa : Int32) (pl : Int32) (y0 : Nat) (tp : Nat → Int32) (t0 : Nat) (t1 : Nat) (t2 : Nat) (pw : Int32)  : he_I l yX7_read wsX7_read 1 20 0 0 g [.ref z0, .ref y0, .int 0, .ref t0] [(z0, .inr (7, [.ref y1, .int n1, .int at1, .int fa, .int pl, .ref z1])), (y0, .inl (g.2 0, 500, .inl tp)), (t0, .inr (5, [.ref t1, .ref t2, .int pw]))] (fun (r : Int32) (u : Unit) => r = 0) (fun (u : Unit) => [(z0, .inr (7, [.ref y0, .int 0, .int 0, .int 0, .int (-1), .ref z1])), (y0, .inl (g.2 0, 500, .inl tp)), (t0, .inr (5, [.ref t1, .ref t2, .int pw]))]) := by
  refine he_begin (l := l) (g := g) (y := yX7_read) (wl := wsX7_read) (fr := 1) (lo := 20) (mc := 0) (ms := 0) (av := [.ref z0, .ref y0, .int 0, .ref t0]) (ws := [(z0, .inr (7, [.ref y1, .int n1, .int at1, .int fa, .int pl, .ref z1])), (y0, .inl (g.2 0, 500, .inl tp)), (t0, .inr (5, [.ref t1, .ref t2, .int pw]))]) (cc := cX7_read) (maxL := 5) (ret := (some .int)) (fun A => va_Qi (fun (r : Int32) (u : Unit) => r = 0) (fun u t => he_post g A ((fun (u : Unit) => [(z0, .inr (7, [.ref y0, .int 0, .int 0, .int 0, .int (-1), .ref z1])), (y0, .inl (g.2 0, 500, .inl tp)), (t0, .inr (5, [.ref t1, .ref t2, .int pw]))]) u) t) A) (by decide) rfl (Nat.le_of_ble_eq_true rfl) ?_
  intro p e s m args below meth c A ls H locs Q hQ hB
  obtain ⟨hx, hb, hr, hml, hown, hts, hlk, hin, hP, hK, hD, hS, hA, hE, hl⟩ := hB
  have hl : lv_has ls 5 [(0, .ref z0), (1, .ref y0), (2, .int 0), (3, .ref t0)] := hl
  have f9 := hts (.fieldLink RX7 9 "HiredEnemy$Reader" "bytes" "[B") (by decide +kernel)
  have inX7 : ∀ w ∈ wsX70, w ∈ wsX7_read := by decide +kernel
  have ml23 := hts (.methodLink RX7 23 Lib.Math.min.name) (by decide +kernel)
  have msmin := hts (.static Lib.Math.min.name) (by decide +kernel)
  have mi := hts (.initialized "java/lang/Math") (by decide +kernel)
  have mcmin := hts (.code Lib.Math.min.name Lib.Math.min.code 2 (some .int)) (by decide +kernel)
  have f29 := hts (.fieldLink RX7 29 "HiredEnemy$Reader" "length" "I") (by decide +kernel)
  have f32 := hts (.fieldLink RX7 32 "HiredEnemy$Reader" "at" "I") (by decide +kernel)
  have f35 := hts (.fieldLink RX7 35 "HiredEnemy$Reader" "fault" "I") (by decide +kernel)
  have f15 := hts (.fieldLink RX7 15 "HiredEnemy$Reader" "place" "I") (by decide +kernel)
  have dc38 := hE.decl ⟨RX9, "mostParts", "()I"⟩ (by decide +kernel)
  refine lv_aload_n hx hb dX7_read_0 rfl (lv_at hl 0 rfl) ?_
  refine lv_aload_n hx hb dX7_read_1 rfl (lv_at hl 1 rfl) ?_
  refine va_put (v := .ref y0) (ty := tyX7 0) (T := TX7) (N := 6) hx hb hts inX7 tyX7 tyX7_ok nmX7 hown hK hP hD hS 0 rfl rfl 0 (by decide) f9 (fun _ h9 => h9) rfl (by decide +kernel) rfl rfl (Nat.le_of_ble_eq_true rfl) dX7_read_2 (fun H locs hP hD hS => ?_)
  have hP : va_P g.1 vwCl [(z0, .inr (7, [.ref y0, .int n1, .int at1, .int fa, .int pl, .ref z1])), (y0, .inl (g.2 0, 500, .inl tp)), (t0, .inr (5, [.ref t1, .ref t2, .int pw]))] H := hP
  have hD : va_D A [(z0, .inr (7, [.ref y0, .int n1, .int at1, .int fa, .int pl, .ref z1])), (y0, .inl (g.2 0, 500, .inl tp)), (t0, .inr (5, [.ref t1, .ref t2, .int pw]))] := hD
  refine lv_aload_n hx hb dX7_read_5 rfl (lv_at hl 0 rfl) ?_
  refine lv_iload_n hx hb dX7_read_6 rfl (lv_at hl 2 rfl) ?_
  refine lv_aload_n hx hb dX7_read_7 rfl (lv_at hl 1 rfl) ?_
  refine va_alen (v := 500) hx hb hK hP 1 0 rfl rfl rfl dX7_read_8 ?_
  refine va_mmin hx hb (by rw [hml]; exact hl.1.symm) hown ml23 msmin mi mcmin (by decide) (Nat.le_of_ble_eq_true rfl) (Nat.le_of_ble_eq_true rfl) (Nat.le_of_ble_eq_true rfl) dX7_read_9 ?_
  refine he_top (0) (by decide) ?_
  refine va_put (v := .int 0) (ty := .int) (T := TX7) (N := 6) hx hb hts inX7 tyX7 tyX7_ok nmX7 hown hK hP hD hS 0 rfl rfl 1 (by decide) f29 (fun _ h9 => h9) rfl (by decide +kernel) rfl rfl (Nat.le_of_ble_eq_true rfl) dX7_read_12 (fun H locs hP hD hS => ?_)
  have hP : va_P g.1 vwCl [(z0, .inr (7, [.ref y0, .int 0, .int at1, .int fa, .int pl, .ref z1])), (y0, .inl (g.2 0, 500, .inl tp)), (t0, .inr (5, [.ref t1, .ref t2, .int pw]))] H := hP
  have hD : va_D A [(z0, .inr (7, [.ref y0, .int 0, .int at1, .int fa, .int pl, .ref z1])), (y0, .inl (g.2 0, 500, .inl tp)), (t0, .inr (5, [.ref t1, .ref t2, .int pw]))] := hD
  refine lv_aload_n hx hb dX7_read_15 rfl (lv_at hl 0 rfl) ?_
  refine lv_iconst (v := 0) hx hb dX7_read_16 (by decide) ?_
  refine va_put (v := .int 0) (ty := .int) (T := TX7) (N := 6) hx hb hts inX7 tyX7 tyX7_ok nmX7 hown hK hP hD hS 0 rfl rfl 2 (by decide) f32 (fun _ h9 => h9) rfl (by decide +kernel) rfl rfl (Nat.le_of_ble_eq_true rfl) dX7_read_17 (fun H locs hP hD hS => ?_)
  have hP : va_P g.1 vwCl [(z0, .inr (7, [.ref y0, .int 0, .int 0, .int fa, .int pl, .ref z1])), (y0, .inl (g.2 0, 500, .inl tp)), (t0, .inr (5, [.ref t1, .ref t2, .int pw]))] H := hP
  have hD : va_D A [(z0, .inr (7, [.ref y0, .int 0, .int 0, .int fa, .int pl, .ref z1])), (y0, .inl (g.2 0, 500, .inl tp)), (t0, .inr (5, [.ref t1, .ref t2, .int pw]))] := hD
  refine lv_aload_n hx hb dX7_read_20 rfl (lv_at hl 0 rfl) ?_
  refine lv_iconst (v := 0) hx hb dX7_read_21 (by decide) ?_
  refine va_put (v := .int 0) (ty := .int) (T := TX7) (N := 6) hx hb hts inX7 tyX7 tyX7_ok nmX7 hown hK hP hD hS 0 rfl rfl 3 (by decide) f35 (fun _ h9 => h9) rfl (by decide +kernel) rfl rfl (Nat.le_of_ble_eq_true rfl) dX7_read_22 (fun H locs hP hD hS => ?_)
  have hP : va_P g.1 vwCl [(z0, .inr (7, [.ref y0, .int 0, .int 0, .int 0, .int pl, .ref z1])), (y0, .inl (g.2 0, 500, .inl tp)), (t0, .inr (5, [.ref t1, .ref t2, .int pw]))] H := hP
  have hD : va_D A [(z0, .inr (7, [.ref y0, .int 0, .int 0, .int 0, .int pl, .ref z1])), (y0, .inl (g.2 0, 500, .inl tp)), (t0, .inr (5, [.ref t1, .ref t2, .int pw]))] := hD
  refine lv_aload_n hx hb dX7_read_25 rfl (lv_at hl 0 rfl) ?_
  refine lv_iconst (v := (-1)) hx hb dX7_read_26 (by decide) ?_
  refine va_put (v := .int (-1)) (ty := .int) (T := TX7) (N := 6) hx hb hts inX7 tyX7 tyX7_ok nmX7 hown hK hP hD hS 0 rfl rfl 4 (by decide) f15 (fun _ h9 => h9) rfl (by decide +kernel) rfl rfl (Nat.le_of_ble_eq_true rfl) dX7_read_27 (fun H locs hP hD hS => ?_)
  have hP : va_P g.1 vwCl [(z0, .inr (7, [.ref y0, .int 0, .int 0, .int 0, .int (-1), .ref z1])), (y0, .inl (g.2 0, 500, .inl tp)), (t0, .inr (5, [.ref t1, .ref t2, .int pw]))] H := hP
  have hD : va_D A [(z0, .inr (7, [.ref y0, .int 0, .int 0, .int 0, .int (-1), .ref z1])), (y0, .inl (g.2 0, 500, .inl tp)), (t0, .inr (5, [.ref t1, .ref t2, .int pw]))] := hD
  refine lv_iconst (v := 0) hx hb dX7_read_30 (by decide) ?_
  refine lv_istore (lv' := [(4, .int 0), (0, .ref z0), (1, .ref y0), (2, .int 0), (3, .ref t0)]) hx hb dX7_read_31 hl (by decide) rfl (fun ls hl => ?_)
  refine lv_iload hx hb dX7_read_33 (lv_at hl 0 rfl) ?_
  refine lv_aload_n hx hb dX7_read_35 rfl (lv_at hl 4 rfl) ?_
  refine he_ci (wc := [(t0, .inr (5, [.ref t1, .ref t2, .int pw]))]) (wr := [(z0, .inr (7, [.ref y0, .int 0, .int 0, .int 0, .int (-1), .ref z1])), (y0, .inl (g.2 0, 500, .inl tp))]) (va_runU (As := []) (rest := [.int 0]) ⟨hx, hb, hml, hown, hts⟩ (c_X5_mostParts l g t0 t1 t2 pw H.size) (va_cwA 0 hts gX7_read_X5_mostParts_u38X5 rfl rfl rfl dc38 (by decide +kernel) ⟨Nat.le_of_ble_eq_true rfl, Nat.le_of_ble_eq_true rfl⟩) (he_preV (wc := [(t0, .inr (5, [.ref t1, .ref t2, .int pw]))]) hK hP hD hS hA hE [2] rfl rfl 2 rfl rfl) rfl rfl hl.1 rfl (lv_room (Nat.le_of_ble_eq_true rfl)) dX7_read_36 ⟨(Nat.le_of_ble_eq_true rfl), (Nat.le_of_ble_eq_true rfl)⟩) hP hD hS hA [2] [0, 1] rfl rfl rfl (by decide) (fun r_1 u_2 H locs h_3 hP hD hS => ?_)
  subst h_3
  have hP : va_P g.1 vwCl [(z0, .inr (7, [.ref y0, .int 0, .int 0, .int 0, .int (-1), .ref z1])), (y0, .inl (g.2 0, 500, .inl tp)), (t0, .inr (5, [.ref t1, .ref t2, .int pw]))] H := hP
  have hD : va_D A [(z0, .inr (7, [.ref y0, .int 0, .int 0, .int 0, .int (-1), .ref z1])), (y0, .inl (g.2 0, 500, .inl tp)), (t0, .inr (5, [.ref t1, .ref t2, .int pw]))] := hD
  refine lv_icmp_gt (tgt := 76) hx hb dX7_read_39 (by decide) (fun c_4 => ?_) (fun c_4 => ?_)
  · exact absurd c_4 (by decide)
  · refine lv_aload_n hx hb dX7_read_42 rfl (lv_at hl 1 rfl) ?_
    refine he_cv (wc := [(z0, .inr (7, [.ref y0, .int 0, .int 0, .int 0, .int (-1), .ref z1]))]) (wr := [(y0, .inl (g.2 0, 500, .inl tp)), (t0, .inr (5, [.ref t1, .ref t2, .int pw]))]) (va_runV (As := []) (rest := []) ⟨hx, hb, hml, hown, hts⟩ (c_X7_skip0 l g z0 z1 y0 0 (-1) H.size) (cwV 0 hts gX7_read_X7_skipBlanks rfl rfl rfl (by decide +kernel) ⟨Nat.le_of_ble_eq_true rfl, Nat.le_of_ble_eq_true rfl⟩) (he_preV (wc := [(z0, .inr (7, [.ref y0, .int 0, .int 0, .int 0, .int (-1), .ref z1]))]) hK hP hD hS hA hE [0] rfl rfl 0 rfl rfl) rfl rfl hl.1 rfl (lv_room (Nat.le_of_ble_eq_true rfl)) dX7_read_43 ⟨(Nat.le_of_ble_eq_true rfl), (Nat.le_of_ble_eq_true rfl)⟩) hP hD hS hA [0] [1, 2] rfl rfl rfl (by decide) (fun u_6 H locs h_7 hP hD hS => ?_)
    have hP : va_P g.1 vwCl [(y0, .inl (g.2 0, 500, .inl tp)), (t0, .inr (5, [.ref t1, .ref t2, .int pw])), (z0, .inr (7, [.ref y0, .int 0, .int 0, .int 0, .int (-1), .ref z1]))] H := hP
    have hD : va_D A [(y0, .inl (g.2 0, 500, .inl tp)), (t0, .inr (5, [.ref t1, .ref t2, .int pw])), (z0, .inr (7, [.ref y0, .int 0, .int 0, .int 0, .int (-1), .ref z1]))] := hD
    refine lv_aload_n hx hb dX7_read_46 rfl (lv_at hl 1 rfl) ?_
    refine va_get (v := .int 0) (T := TX7) (N := 6) hx hb hts inX7 hown hK hP 2 rfl rfl 2 (by decide) f32 (fun _ h9 => h9) rfl dX7_read_47 ?_
    refine lv_aload_n hx hb dX7_read_50 rfl (lv_at hl 1 rfl) ?_
    refine va_get (v := .int 0) (T := TX7) (N := 6) hx hb hts inX7 hown hK hP 2 rfl rfl 1 (by decide) f29 (fun _ h9 => h9) rfl dX7_read_51 ?_
    refine lv_icmp_ge (tgt := 76) hx hb dX7_read_54 (by decide) (fun c_8 => ?_) (fun c_8 => ?_)
    · refine lv_aload_n hx hb dX7_read_76 rfl (lv_at hl 1 rfl) ?_
      refine va_get (v := .int 0) (T := TX7) (N := 6) hx hb hts inX7 hown hK hP 2 rfl rfl 3 (by decide) f35 (fun _ h9 => h9) rfl dX7_read_77 ?_
      have hP := hP.sub (ws' := [(z0, .inr (7, [.ref y0, .int 0, .int 0, .int 0, .int (-1), .ref z1])), (y0, .inl (g.2 0, 500, .inl tp)), (t0, .inr (5, [.ref t1, .ref t2, .int pw]))]) [2, 0, 1] rfl
      have hD := hD.sub (ws' := [(z0, .inr (7, [.ref y0, .int 0, .int 0, .int 0, .int (-1), .ref z1])), (y0, .inl (g.2 0, 500, .inl tp)), (t0, .inr (5, [.ref t1, .ref t2, .int pw]))]) [2, 0, 1] (by decide) rfl
      exact he_ri hQ hx hb hr hlk hP hD hS dX7_read_80 (Nat.le_of_ble_eq_true rfl) (Nat.le_of_ble_eq_true rfl) (()) (rfl) (rfl)
    · exact absurd (by decide) c_8
set_option maxHeartbeats 4000000 in
set_option maxRecDepth 100000 in
theorem c_X8_begin (l : Launch) (g : he_G) (s0 : Nat) (a0 : Nat) (h0 : Nat) (q0 : Nat) (q1 : Nat) (mo : Int32) (f : Nat → Int32) (b0 : Nat) (b1 : Nat) (b2 : Nat) (x : Int32) (y : Int32) (rl : Int64) (hd : Int64) (th : Int32) (e0 : Nat) (e1 : Nat) (e2 : Nat) (co : Nat → Int32) (p0 : Nat) (p1 : Nat) (p2 : Nat) (p3 : Nat) (p4 : Nat) (w : Nat) (sd : Nat → Int32) (st : Nat → Int32) (hw6 : w ≤ 6) : he_V l yX8_begin wsX8_begin 2 45 0 0 g [.ref s0, .ref p0] [(s0, .inr (8, [.ref h0, .ref a0, .ref b0, .ref e0])), (h0, .inr (4, [.ref q0, .ref q1, .int mo])), (q0, .inl (g.2 1, 24, .inl f)), (b0, .inr (2, [.ref b1, .ref b2, .int x, .int y, .long rl, .long hd, .int th])), (e0, .inr (3, [.ref e1, .ref e2])), (e1, .inl (g.2 1, 36, .inl co)), (p0, .inr (6, [.ref p1, .ref p2, .ref p3, .ref p4, .int (nI w)])), (p1, .inl (g.2 1, 24, .inl sd)), (p3, .inl (g.2 1, 6, .inl st))] (fun (u : Unit) => True) (fun (u : Unit) => [(s0, .inr (8, [.ref h0, .ref a0, .ref b0, .ref e0])), (h0, .inr (4, [.ref q0, .ref q1, .int 0])), (q0, .inl (g.2 1, 24, .inl (beginF sd st w f))), (b0, .inr (2, [.ref b1, .ref b2, .int x, .int y, .long (Int32.toInt64 x), .long (Int32.toInt64 y), .int 0])), (e0, .inr (3, [.ref e1, .ref e2])), (e1, .inl (g.2 1, 36, .inl (flF (fun _ => 0) co 36))), (p0, .inr (6, [.ref p1, .ref p2, .ref p3, .ref p4, .int (nI w)])), (p1, .inl (g.2 1, 24, .inl sd)), (p3, .inl (g.2 1, 6, .inl st))]) := by
  refine he_begin (l := l) (g := g) (y := yX8_begin) (wl := wsX8_begin) (fr := 2) (lo := 45) (mc := 0) (ms := 0) (av := [.ref s0, .ref p0]) (ws := [(s0, .inr (8, [.ref h0, .ref a0, .ref b0, .ref e0])), (h0, .inr (4, [.ref q0, .ref q1, .int mo])), (q0, .inl (g.2 1, 24, .inl f)), (b0, .inr (2, [.ref b1, .ref b2, .int x, .int y, .long rl, .long hd, .int th])), (e0, .inr (3, [.ref e1, .ref e2])), (e1, .inl (g.2 1, 36, .inl co)), (p0, .inr (6, [.ref p1, .ref p2, .ref p3, .ref p4, .int (nI w)])), (p1, .inl (g.2 1, 24, .inl sd)), (p3, .inl (g.2 1, 6, .inl st))]) (cc := cX8_begin) (maxL := 2) (ret := none) (fun A => va_Qv (fun (u : Unit) => True) (fun u t => he_post g A ((fun (u : Unit) => [(s0, .inr (8, [.ref h0, .ref a0, .ref b0, .ref e0])), (h0, .inr (4, [.ref q0, .ref q1, .int 0])), (q0, .inl (g.2 1, 24, .inl (beginF sd st w f))), (b0, .inr (2, [.ref b1, .ref b2, .int x, .int y, .long (Int32.toInt64 x), .long (Int32.toInt64 y), .int 0])), (e0, .inr (3, [.ref e1, .ref e2])), (e1, .inl (g.2 1, 36, .inl (flF (fun _ => 0) co 36))), (p0, .inr (6, [.ref p1, .ref p2, .ref p3, .ref p4, .int (nI w)])), (p1, .inl (g.2 1, 24, .inl sd)), (p3, .inl (g.2 1, 6, .inl st))]) u) t) A) (by decide) rfl (Nat.le_of_ble_eq_true rfl) ?_
  intro p e s m args below meth c A ls H locs Q hQ hB
  obtain ⟨hx, hb, hr, hml, hown, hts, hlk, hin, hP, hK, hD, hS, hA, hE, hl⟩ := hB
  have hl : lv_has ls 2 [(0, .ref s0), (1, .ref p0)] := hl
  have f10 := hts (.fieldLink RX8 10 "HiredEnemy$Scene" "course" "LHiredEnemy$Course;") (by decide +kernel)
  have inX8 : ∀ w ∈ wsX80, w ∈ wsX8_begin := by decide +kernel
  have f26 := hts (.fieldLink RX8 26 "HiredEnemy$Scene" "belief" "LHiredEnemy$Belief;") (by decide +kernel)
  have f33 := hts (.fieldLink RX8 33 "HiredEnemy$Scene" "bids" "LHiredEnemy$Bids;") (by decide +kernel)
  refine lv_aload_n hx hb dX8_begin_0 rfl (lv_at hl 0 rfl) ?_
  refine va_get (v := .ref h0) (T := TX8) (N := 4) hx hb hts inX8 hown hK hP 0 rfl rfl 0 (by decide) f10 (fun _ h9 => h9) rfl dX8_begin_1 ?_
  refine lv_aload_n hx hb dX8_begin_4 rfl (lv_at hl 1 rfl) ?_
  refine he_cv (wc := [(h0, .inr (4, [.ref q0, .ref q1, .int mo])), (q0, .inl (g.2 1, 24, .inl f)), (p0, .inr (6, [.ref p1, .ref p2, .ref p3, .ref p4, .int (nI w)])), (p1, .inl (g.2 1, 24, .inl sd)), (p3, .inl (g.2 1, 6, .inl st))]) (wr := [(s0, .inr (8, [.ref h0, .ref a0, .ref b0, .ref e0])), (b0, .inr (2, [.ref b1, .ref b2, .int x, .int y, .long rl, .long hd, .int th])), (e0, .inr (3, [.ref e1, .ref e2])), (e1, .inl (g.2 1, 36, .inl co))]) (va_runV (As := [.ref p0]) (rest := []) ⟨hx, hb, hml, hown, hts⟩ (c_X4_begin l g h0 q0 q1 mo f p0 p1 p2 p3 p4 w sd st (by first | assumption | decide | omega) H.size) (cwV 1 hts gX8_begin_X4_begin rfl rfl rfl (by decide +kernel) ⟨Nat.le_of_ble_eq_true rfl, Nat.le_of_ble_eq_true rfl⟩) (he_preV (wc := [(h0, .inr (4, [.ref q0, .ref q1, .int mo])), (q0, .inl (g.2 1, 24, .inl f)), (p0, .inr (6, [.ref p1, .ref p2, .ref p3, .ref p4, .int (nI w)])), (p1, .inl (g.2 1, 24, .inl sd)), (p3, .inl (g.2 1, 6, .inl st))]) hK hP hD hS hA hE [1, 2, 6, 7, 8] rfl rfl 1 rfl rfl) rfl rfl hl.1 rfl (lv_room (Nat.le_of_ble_eq_true rfl)) dX8_begin_5 ⟨(Nat.le_of_ble_eq_true rfl), (Nat.le_of_ble_eq_true rfl)⟩) hP hD hS hA [1, 2, 6, 7, 8] [0, 3, 4, 5] rfl rfl rfl (by decide) (fun u_2 H locs h_3 hP hD hS => ?_)
  have hP : va_P g.1 vwCl [(s0, .inr (8, [.ref h0, .ref a0, .ref b0, .ref e0])), (b0, .inr (2, [.ref b1, .ref b2, .int x, .int y, .long rl, .long hd, .int th])), (e0, .inr (3, [.ref e1, .ref e2])), (e1, .inl (g.2 1, 36, .inl co)), (h0, .inr (4, [.ref q0, .ref q1, .int 0])), (q0, .inl (g.2 1, 24, .inl (beginF sd st w f))), (p0, .inr (6, [.ref p1, .ref p2, .ref p3, .ref p4, .int (nI w)])), (p1, .inl (g.2 1, 24, .inl sd)), (p3, .inl (g.2 1, 6, .inl st))] H := hP
  have hD : va_D A [(s0, .inr (8, [.ref h0, .ref a0, .ref b0, .ref e0])), (b0, .inr (2, [.ref b1, .ref b2, .int x, .int y, .long rl, .long hd, .int th])), (e0, .inr (3, [.ref e1, .ref e2])), (e1, .inl (g.2 1, 36, .inl co)), (h0, .inr (4, [.ref q0, .ref q1, .int 0])), (q0, .inl (g.2 1, 24, .inl (beginF sd st w f))), (p0, .inr (6, [.ref p1, .ref p2, .ref p3, .ref p4, .int (nI w)])), (p1, .inl (g.2 1, 24, .inl sd)), (p3, .inl (g.2 1, 6, .inl st))] := hD
  refine lv_aload_n hx hb dX8_begin_8 rfl (lv_at hl 0 rfl) ?_
  refine va_get (v := .ref b0) (T := TX8) (N := 4) hx hb hts inX8 hown hK hP 0 rfl rfl 2 (by decide) f26 (fun _ h9 => h9) rfl dX8_begin_9 ?_
  refine he_cv (wc := [(b0, .inr (2, [.ref b1, .ref b2, .int x, .int y, .long rl, .long hd, .int th]))]) (wr := [(s0, .inr (8, [.ref h0, .ref a0, .ref b0, .ref e0])), (e0, .inr (3, [.ref e1, .ref e2])), (e1, .inl (g.2 1, 36, .inl co)), (h0, .inr (4, [.ref q0, .ref q1, .int 0])), (q0, .inl (g.2 1, 24, .inl (beginF sd st w f))), (p0, .inr (6, [.ref p1, .ref p2, .ref p3, .ref p4, .int (nI w)])), (p1, .inl (g.2 1, 24, .inl sd)), (p3, .inl (g.2 1, 6, .inl st))]) (va_runV (As := []) (rest := []) ⟨hx, hb, hml, hown, hts⟩ (c_X2_forget l g b0 b1 b2 x y rl hd th H.size) (cwV 0 hts gX8_begin_X2_forget rfl rfl rfl (by decide +kernel) ⟨Nat.le_of_ble_eq_true rfl, Nat.le_of_ble_eq_true rfl⟩) (he_preV (wc := [(b0, .inr (2, [.ref b1, .ref b2, .int x, .int y, .long rl, .long hd, .int th]))]) hK hP hD hS hA hE [1] rfl rfl 1 rfl rfl) rfl rfl hl.1 rfl (lv_room (Nat.le_of_ble_eq_true rfl)) dX8_begin_12 ⟨(Nat.le_of_ble_eq_true rfl), (Nat.le_of_ble_eq_true rfl)⟩) hP hD hS hA [1] [0, 2, 3, 4, 5, 6, 7, 8] rfl rfl rfl (by decide) (fun u_5 H locs h_6 hP hD hS => ?_)
  have hP : va_P g.1 vwCl [(s0, .inr (8, [.ref h0, .ref a0, .ref b0, .ref e0])), (e0, .inr (3, [.ref e1, .ref e2])), (e1, .inl (g.2 1, 36, .inl co)), (h0, .inr (4, [.ref q0, .ref q1, .int 0])), (q0, .inl (g.2 1, 24, .inl (beginF sd st w f))), (p0, .inr (6, [.ref p1, .ref p2, .ref p3, .ref p4, .int (nI w)])), (p1, .inl (g.2 1, 24, .inl sd)), (p3, .inl (g.2 1, 6, .inl st)), (b0, .inr (2, [.ref b1, .ref b2, .int x, .int y, .long (Int32.toInt64 x), .long (Int32.toInt64 y), .int 0]))] H := hP
  have hD : va_D A [(s0, .inr (8, [.ref h0, .ref a0, .ref b0, .ref e0])), (e0, .inr (3, [.ref e1, .ref e2])), (e1, .inl (g.2 1, 36, .inl co)), (h0, .inr (4, [.ref q0, .ref q1, .int 0])), (q0, .inl (g.2 1, 24, .inl (beginF sd st w f))), (p0, .inr (6, [.ref p1, .ref p2, .ref p3, .ref p4, .int (nI w)])), (p1, .inl (g.2 1, 24, .inl sd)), (p3, .inl (g.2 1, 6, .inl st)), (b0, .inr (2, [.ref b1, .ref b2, .int x, .int y, .long (Int32.toInt64 x), .long (Int32.toInt64 y), .int 0]))] := hD
  refine lv_aload_n hx hb dX8_begin_15 rfl (lv_at hl 0 rfl) ?_
  refine va_get (v := .ref e0) (T := TX8) (N := 4) hx hb hts inX8 hown hK hP 0 rfl rfl 3 (by decide) f33 (fun _ h9 => h9) rfl dX8_begin_16 ?_
  refine he_cv (wc := [(e0, .inr (3, [.ref e1, .ref e2])), (e1, .inl (g.2 1, 36, .inl co))]) (wr := [(s0, .inr (8, [.ref h0, .ref a0, .ref b0, .ref e0])), (h0, .inr (4, [.ref q0, .ref q1, .int 0])), (q0, .inl (g.2 1, 24, .inl (beginF sd st w f))), (p0, .inr (6, [.ref p1, .ref p2, .ref p3, .ref p4, .int (nI w)])), (p1, .inl (g.2 1, 24, .inl sd)), (p3, .inl (g.2 1, 6, .inl st)), (b0, .inr (2, [.ref b1, .ref b2, .int x, .int y, .long (Int32.toInt64 x), .long (Int32.toInt64 y), .int 0]))]) (va_runV (As := []) (rest := []) ⟨hx, hb, hml, hown, hts⟩ (c_X3_clear l g e0 e1 e2 co H.size) (cwV 0 hts gX8_begin_X3_clear rfl rfl rfl (by decide +kernel) ⟨Nat.le_of_ble_eq_true rfl, Nat.le_of_ble_eq_true rfl⟩) (he_preV (wc := [(e0, .inr (3, [.ref e1, .ref e2])), (e1, .inl (g.2 1, 36, .inl co))]) hK hP hD hS hA hE [1, 2] rfl rfl 1 rfl rfl) rfl rfl hl.1 rfl (lv_room (Nat.le_of_ble_eq_true rfl)) dX8_begin_19 ⟨(Nat.le_of_ble_eq_true rfl), (Nat.le_of_ble_eq_true rfl)⟩) hP hD hS hA [1, 2] [0, 3, 4, 5, 6, 7, 8] rfl rfl rfl (by decide) (fun u_8 H locs h_9 hP hD hS => ?_)
  have hP : va_P g.1 vwCl [(s0, .inr (8, [.ref h0, .ref a0, .ref b0, .ref e0])), (h0, .inr (4, [.ref q0, .ref q1, .int 0])), (q0, .inl (g.2 1, 24, .inl (beginF sd st w f))), (p0, .inr (6, [.ref p1, .ref p2, .ref p3, .ref p4, .int (nI w)])), (p1, .inl (g.2 1, 24, .inl sd)), (p3, .inl (g.2 1, 6, .inl st)), (b0, .inr (2, [.ref b1, .ref b2, .int x, .int y, .long (Int32.toInt64 x), .long (Int32.toInt64 y), .int 0])), (e0, .inr (3, [.ref e1, .ref e2])), (e1, .inl (g.2 1, 36, .inl (flF (fun _ => 0) co 36)))] H := hP
  have hD : va_D A [(s0, .inr (8, [.ref h0, .ref a0, .ref b0, .ref e0])), (h0, .inr (4, [.ref q0, .ref q1, .int 0])), (q0, .inl (g.2 1, 24, .inl (beginF sd st w f))), (p0, .inr (6, [.ref p1, .ref p2, .ref p3, .ref p4, .int (nI w)])), (p1, .inl (g.2 1, 24, .inl sd)), (p3, .inl (g.2 1, 6, .inl st)), (b0, .inr (2, [.ref b1, .ref b2, .int x, .int y, .long (Int32.toInt64 x), .long (Int32.toInt64 y), .int 0])), (e0, .inr (3, [.ref e1, .ref e2])), (e1, .inl (g.2 1, 36, .inl (flF (fun _ => 0) co 36)))] := hD
  have hP := hP.sub (ws' := [(s0, .inr (8, [.ref h0, .ref a0, .ref b0, .ref e0])), (h0, .inr (4, [.ref q0, .ref q1, .int 0])), (q0, .inl (g.2 1, 24, .inl (beginF sd st w f))), (b0, .inr (2, [.ref b1, .ref b2, .int x, .int y, .long (Int32.toInt64 x), .long (Int32.toInt64 y), .int 0])), (e0, .inr (3, [.ref e1, .ref e2])), (e1, .inl (g.2 1, 36, .inl (flF (fun _ => 0) co 36))), (p0, .inr (6, [.ref p1, .ref p2, .ref p3, .ref p4, .int (nI w)])), (p1, .inl (g.2 1, 24, .inl sd)), (p3, .inl (g.2 1, 6, .inl st))]) [0, 1, 2, 6, 7, 8, 3, 4, 5] rfl
  have hD := hD.sub (ws' := [(s0, .inr (8, [.ref h0, .ref a0, .ref b0, .ref e0])), (h0, .inr (4, [.ref q0, .ref q1, .int 0])), (q0, .inl (g.2 1, 24, .inl (beginF sd st w f))), (b0, .inr (2, [.ref b1, .ref b2, .int x, .int y, .long (Int32.toInt64 x), .long (Int32.toInt64 y), .int 0])), (e0, .inr (3, [.ref e1, .ref e2])), (e1, .inl (g.2 1, 36, .inl (flF (fun _ => 0) co 36))), (p0, .inr (6, [.ref p1, .ref p2, .ref p3, .ref p4, .int (nI w)])), (p1, .inl (g.2 1, 24, .inl sd)), (p3, .inl (g.2 1, 6, .inl st))]) [0, 1, 2, 6, 7, 8, 3, 4, 5] (by decide) rfl
  exact he_rv hQ hx hb hr hlk hP hD hS dX8_begin_22 (Nat.le_of_ble_eq_true rfl) (Nat.le_of_ble_eq_true rfl) (()) (rfl) (trivial)
set_option maxHeartbeats 4000000 in
set_option maxRecDepth 100000 in
theorem c_X8_take (l : Launch) (g : he_G) (s0 : Nat) (h0 : Nat) (q0 : Nat) (q1 : Nat) (mo : Int32) (f : Nat → Int32) (a0 : Nat) (a1 : Nat) (ln : Nat → Int32) (b0 : Nat) (b1 : Nat) (b2 : Nat) (x : Int32) (y : Int32) (rl : Int64) (hd : Int64) (th : Int32) (fr : Nat → Int32) (fh : Nat → Int32) (e0 : Nat) (e1 : Nat) (e2 : Nat) (co : Nat → Int32) (s2 : Nat) (h2 : Nat) (q2 : Nat) (r2 : Nat) (k : Nat) (f2 : Nat → Int32) (a2 : Nat) (a3 : Nat) (ln2 : Nat → Int32) (d0 : Nat) (d1 : Nat) (d2 : Nat) (x1 : Int32) (y1 : Int32) (r1 : Int64) (g1 : Int64) (t1 : Int32) (fr1 : Nat → Int32) (fh1 : Nat → Int32) (e4 : Nat) (e5 : Nat) (e6 : Nat) (co2 : Nat → Int32) (hk : k ≤ 120) : he_V l yX8_take wsX8_take 2 44 0 0 g [.ref s0, .ref s2] [(s0, .inr (8, [.ref h0, .ref a0, .ref b0, .ref e0])), (h0, .inr (4, [.ref q0, .ref q1, .int mo])), (q0, .inl (g.2 1, 24, .inl f)), (a0, .inr (0, [.ref a1])), (a1, .inl (g.2 1, 3600, .inl ln)), (b0, .inr (2, [.ref b1, .ref b2, .int x, .int y, .long rl, .long hd, .int th])), (b1, .inl (g.2 1, 4, .inl fr)), (b2, .inl (g.2 1, 4, .inl fh)), (e0, .inr (3, [.ref e1, .ref e2])), (e1, .inl (g.2 1, 36, .inl co)), (s2, .inr (8, [.ref h2, .ref a2, .ref d0, .ref e4])), (h2, .inr (4, [.ref q2, .ref r2, .int (nI k)])), (q2, .inl (g.2 1, 24, .inl f2)), (a2, .inr (0, [.ref a3])), (a3, .inl (g.2 1, 3600, .inl ln2)), (d0, .inr (2, [.ref d1, .ref d2, .int x1, .int y1, .long r1, .long g1, .int t1])), (d1, .inl (g.2 1, 4, .inl fr1)), (d2, .inl (g.2 1, 4, .inl fh1)), (e4, .inr (3, [.ref e5, .ref e6])), (e5, .inl (g.2 1, 36, .inl co2))] (fun (u : Unit) => True) (fun (u : Unit) => [(s0, .inr (8, [.ref h0, .ref a0, .ref b0, .ref e0])), (h0, .inr (4, [.ref q0, .ref q1, .int (nI k)])), (q0, .inl (g.2 1, 24, .inl (va_cpy f2 f 0 0 24))), (a0, .inr (0, [.ref a1])), (a1, .inl (g.2 1, 3600, .inl (va_cpy ln2 ln 0 0 (k * 30)))), (b0, .inr (2, [.ref b1, .ref b2, .int x1, .int y1, .long r1, .long g1, .int t1])), (b1, .inl (g.2 1, 4, .inl (va_cpy fr1 fr 0 0 4))), (b2, .inl (g.2 1, 4, .inl (va_cpy fh1 fh 0 0 4))), (e0, .inr (3, [.ref e1, .ref e2])), (e1, .inl (g.2 1, 36, .inl (va_cpy co2 co 0 0 36))), (s2, .inr (8, [.ref h2, .ref a2, .ref d0, .ref e4])), (h2, .inr (4, [.ref q2, .ref r2, .int (nI k)])), (q2, .inl (g.2 1, 24, .inl f2)), (a2, .inr (0, [.ref a3])), (a3, .inl (g.2 1, 3600, .inl ln2)), (d0, .inr (2, [.ref d1, .ref d2, .int x1, .int y1, .long r1, .long g1, .int t1])), (d1, .inl (g.2 1, 4, .inl fr1)), (d2, .inl (g.2 1, 4, .inl fh1)), (e4, .inr (3, [.ref e5, .ref e6])), (e5, .inl (g.2 1, 36, .inl co2))]) := by
  refine he_begin (l := l) (g := g) (y := yX8_take) (wl := wsX8_take) (fr := 2) (lo := 44) (mc := 0) (ms := 0) (av := [.ref s0, .ref s2]) (ws := [(s0, .inr (8, [.ref h0, .ref a0, .ref b0, .ref e0])), (h0, .inr (4, [.ref q0, .ref q1, .int mo])), (q0, .inl (g.2 1, 24, .inl f)), (a0, .inr (0, [.ref a1])), (a1, .inl (g.2 1, 3600, .inl ln)), (b0, .inr (2, [.ref b1, .ref b2, .int x, .int y, .long rl, .long hd, .int th])), (b1, .inl (g.2 1, 4, .inl fr)), (b2, .inl (g.2 1, 4, .inl fh)), (e0, .inr (3, [.ref e1, .ref e2])), (e1, .inl (g.2 1, 36, .inl co)), (s2, .inr (8, [.ref h2, .ref a2, .ref d0, .ref e4])), (h2, .inr (4, [.ref q2, .ref r2, .int (nI k)])), (q2, .inl (g.2 1, 24, .inl f2)), (a2, .inr (0, [.ref a3])), (a3, .inl (g.2 1, 3600, .inl ln2)), (d0, .inr (2, [.ref d1, .ref d2, .int x1, .int y1, .long r1, .long g1, .int t1])), (d1, .inl (g.2 1, 4, .inl fr1)), (d2, .inl (g.2 1, 4, .inl fh1)), (e4, .inr (3, [.ref e5, .ref e6])), (e5, .inl (g.2 1, 36, .inl co2))]) (cc := cX8_take) (maxL := 2) (ret := none) (fun A => va_Qv (fun (u : Unit) => True) (fun u t => he_post g A ((fun (u : Unit) => [(s0, .inr (8, [.ref h0, .ref a0, .ref b0, .ref e0])), (h0, .inr (4, [.ref q0, .ref q1, .int (nI k)])), (q0, .inl (g.2 1, 24, .inl (va_cpy f2 f 0 0 24))), (a0, .inr (0, [.ref a1])), (a1, .inl (g.2 1, 3600, .inl (va_cpy ln2 ln 0 0 (k * 30)))), (b0, .inr (2, [.ref b1, .ref b2, .int x1, .int y1, .long r1, .long g1, .int t1])), (b1, .inl (g.2 1, 4, .inl (va_cpy fr1 fr 0 0 4))), (b2, .inl (g.2 1, 4, .inl (va_cpy fh1 fh 0 0 4))), (e0, .inr (3, [.ref e1, .ref e2])), (e1, .inl (g.2 1, 36, .inl (va_cpy co2 co 0 0 36))), (s2, .inr (8, [.ref h2, .ref a2, .ref d0, .ref e4])), (h2, .inr (4, [.ref q2, .ref r2, .int (nI k)])), (q2, .inl (g.2 1, 24, .inl f2)), (a2, .inr (0, [.ref a3])), (a3, .inl (g.2 1, 3600, .inl ln2)), (d0, .inr (2, [.ref d1, .ref d2, .int x1, .int y1, .long r1, .long g1, .int t1])), (d1, .inl (g.2 1, 4, .inl fr1)), (d2, .inl (g.2 1, 4, .inl fh1)), (e4, .inr (3, [.ref e5, .ref e6])), (e5, .inl (g.2 1, 36, .inl co2))]) u) t) A) (by decide) rfl (Nat.le_of_ble_eq_true rfl) ?_
  intro p e s m args below meth c A ls H locs Q hQ hB
  obtain ⟨hx, hb, hr, hml, hown, hts, hlk, hin, hP, hK, hD, hS, hA, hE, hl⟩ := hB
  have hl : lv_has ls 2 [(0, .ref s0), (1, .ref s2)] := hl
  have f10 := hts (.fieldLink RX8 10 "HiredEnemy$Scene" "course" "LHiredEnemy$Course;") (by decide +kernel)
  have inX8 : ∀ w ∈ wsX80, w ∈ wsX8_take := by decide +kernel
  have f19 := hts (.fieldLink RX8 19 "HiredEnemy$Scene" "annals" "LHiredEnemy$Annals;") (by decide +kernel)
  have f51 := hts (.fieldLink RX8 51 "HiredEnemy$Course" "month" "I") (by decide +kernel)
  have inX4 : ∀ w ∈ wsX40, w ∈ wsX8_take := by decide +kernel
  have f26 := hts (.fieldLink RX8 26 "HiredEnemy$Scene" "belief" "LHiredEnemy$Belief;") (by decide +kernel)
  have f33 := hts (.fieldLink RX8 33 "HiredEnemy$Scene" "bids" "LHiredEnemy$Bids;") (by decide +kernel)
  refine lv_aload_n hx hb dX8_take_0 rfl (lv_at hl 0 rfl) ?_
  refine va_get (v := .ref h0) (T := TX8) (N := 4) hx hb hts inX8 hown hK hP 0 rfl rfl 0 (by decide) f10 (fun _ h9 => h9) rfl dX8_take_1 ?_
  refine lv_aload_n hx hb dX8_take_4 rfl (lv_at hl 1 rfl) ?_
  refine va_get (v := .ref h2) (T := TX8) (N := 4) hx hb hts inX8 hown hK hP 10 rfl rfl 0 (by decide) f10 (fun _ h9 => h9) rfl dX8_take_5 ?_
  refine he_cv (wc := [(h0, .inr (4, [.ref q0, .ref q1, .int mo])), (q0, .inl (g.2 1, 24, .inl f)), (h2, .inr (4, [.ref q2, .ref r2, .int (nI k)])), (q2, .inl (g.2 1, 24, .inl f2))]) (wr := [(s0, .inr (8, [.ref h0, .ref a0, .ref b0, .ref e0])), (a0, .inr (0, [.ref a1])), (a1, .inl (g.2 1, 3600, .inl ln)), (b0, .inr (2, [.ref b1, .ref b2, .int x, .int y, .long rl, .long hd, .int th])), (b1, .inl (g.2 1, 4, .inl fr)), (b2, .inl (g.2 1, 4, .inl fh)), (e0, .inr (3, [.ref e1, .ref e2])), (e1, .inl (g.2 1, 36, .inl co)), (s2, .inr (8, [.ref h2, .ref a2, .ref d0, .ref e4])), (a2, .inr (0, [.ref a3])), (a3, .inl (g.2 1, 3600, .inl ln2)), (d0, .inr (2, [.ref d1, .ref d2, .int x1, .int y1, .long r1, .long g1, .int t1])), (d1, .inl (g.2 1, 4, .inl fr1)), (d2, .inl (g.2 1, 4, .inl fh1)), (e4, .inr (3, [.ref e5, .ref e6])), (e5, .inl (g.2 1, 36, .inl co2))]) (va_runV (As := [.ref h2]) (rest := []) ⟨hx, hb, hml, hown, hts⟩ (c_X4_take l g h0 q0 q1 mo f h2 q2 r2 (nI k) f2 H.size) (cwV 1 hts gX8_take_X4_take rfl rfl rfl (by decide +kernel) ⟨Nat.le_of_ble_eq_true rfl, Nat.le_of_ble_eq_true rfl⟩) (he_preV (wc := [(h0, .inr (4, [.ref q0, .ref q1, .int mo])), (q0, .inl (g.2 1, 24, .inl f)), (h2, .inr (4, [.ref q2, .ref r2, .int (nI k)])), (q2, .inl (g.2 1, 24, .inl f2))]) hK hP hD hS hA hE [1, 2, 11, 12] rfl rfl 1 rfl rfl) rfl rfl hl.1 rfl (lv_room (Nat.le_of_ble_eq_true rfl)) dX8_take_8 ⟨(Nat.le_of_ble_eq_true rfl), (Nat.le_of_ble_eq_true rfl)⟩) hP hD hS hA [1, 2, 11, 12] [0, 3, 4, 5, 6, 7, 8, 9, 10, 13, 14, 15, 16, 17, 18, 19] rfl rfl rfl (by decide) (fun u_2 H locs h_3 hP hD hS => ?_)
  have hP : va_P g.1 vwCl [(s0, .inr (8, [.ref h0, .ref a0, .ref b0, .ref e0])), (a0, .inr (0, [.ref a1])), (a1, .inl (g.2 1, 3600, .inl ln)), (b0, .inr (2, [.ref b1, .ref b2, .int x, .int y, .long rl, .long hd, .int th])), (b1, .inl (g.2 1, 4, .inl fr)), (b2, .inl (g.2 1, 4, .inl fh)), (e0, .inr (3, [.ref e1, .ref e2])), (e1, .inl (g.2 1, 36, .inl co)), (s2, .inr (8, [.ref h2, .ref a2, .ref d0, .ref e4])), (a2, .inr (0, [.ref a3])), (a3, .inl (g.2 1, 3600, .inl ln2)), (d0, .inr (2, [.ref d1, .ref d2, .int x1, .int y1, .long r1, .long g1, .int t1])), (d1, .inl (g.2 1, 4, .inl fr1)), (d2, .inl (g.2 1, 4, .inl fh1)), (e4, .inr (3, [.ref e5, .ref e6])), (e5, .inl (g.2 1, 36, .inl co2)), (h0, .inr (4, [.ref q0, .ref q1, .int (nI k)])), (q0, .inl (g.2 1, 24, .inl (va_cpy f2 f 0 0 24))), (h2, .inr (4, [.ref q2, .ref r2, .int (nI k)])), (q2, .inl (g.2 1, 24, .inl f2))] H := hP
  have hD : va_D A [(s0, .inr (8, [.ref h0, .ref a0, .ref b0, .ref e0])), (a0, .inr (0, [.ref a1])), (a1, .inl (g.2 1, 3600, .inl ln)), (b0, .inr (2, [.ref b1, .ref b2, .int x, .int y, .long rl, .long hd, .int th])), (b1, .inl (g.2 1, 4, .inl fr)), (b2, .inl (g.2 1, 4, .inl fh)), (e0, .inr (3, [.ref e1, .ref e2])), (e1, .inl (g.2 1, 36, .inl co)), (s2, .inr (8, [.ref h2, .ref a2, .ref d0, .ref e4])), (a2, .inr (0, [.ref a3])), (a3, .inl (g.2 1, 3600, .inl ln2)), (d0, .inr (2, [.ref d1, .ref d2, .int x1, .int y1, .long r1, .long g1, .int t1])), (d1, .inl (g.2 1, 4, .inl fr1)), (d2, .inl (g.2 1, 4, .inl fh1)), (e4, .inr (3, [.ref e5, .ref e6])), (e5, .inl (g.2 1, 36, .inl co2)), (h0, .inr (4, [.ref q0, .ref q1, .int (nI k)])), (q0, .inl (g.2 1, 24, .inl (va_cpy f2 f 0 0 24))), (h2, .inr (4, [.ref q2, .ref r2, .int (nI k)])), (q2, .inl (g.2 1, 24, .inl f2))] := hD
  refine lv_aload_n hx hb dX8_take_11 rfl (lv_at hl 0 rfl) ?_
  refine va_get (v := .ref a0) (T := TX8) (N := 4) hx hb hts inX8 hown hK hP 0 rfl rfl 1 (by decide) f19 (fun _ h9 => h9) rfl dX8_take_12 ?_
  refine lv_aload_n hx hb dX8_take_15 rfl (lv_at hl 1 rfl) ?_
  refine va_get (v := .ref a2) (T := TX8) (N := 4) hx hb hts inX8 hown hK hP 8 rfl rfl 1 (by decide) f19 (fun _ h9 => h9) rfl dX8_take_16 ?_
  refine lv_aload_n hx hb dX8_take_19 rfl (lv_at hl 1 rfl) ?_
  refine va_get (v := .ref h2) (T := TX8) (N := 4) hx hb hts inX8 hown hK hP 8 rfl rfl 0 (by decide) f10 (fun _ h9 => h9) rfl dX8_take_20 ?_
  refine va_get (v := .int (nI k)) (T := TX4) (N := 3) hx hb hts inX4 hown hK hP 18 rfl rfl 2 (by decide) f51 (fun _ h9 => h9) rfl dX8_take_23 ?_
  refine he_cv (wc := [(a0, .inr (0, [.ref a1])), (a1, .inl (g.2 1, 3600, .inl ln)), (a2, .inr (0, [.ref a3])), (a3, .inl (g.2 1, 3600, .inl ln2))]) (wr := [(s0, .inr (8, [.ref h0, .ref a0, .ref b0, .ref e0])), (b0, .inr (2, [.ref b1, .ref b2, .int x, .int y, .long rl, .long hd, .int th])), (b1, .inl (g.2 1, 4, .inl fr)), (b2, .inl (g.2 1, 4, .inl fh)), (e0, .inr (3, [.ref e1, .ref e2])), (e1, .inl (g.2 1, 36, .inl co)), (s2, .inr (8, [.ref h2, .ref a2, .ref d0, .ref e4])), (d0, .inr (2, [.ref d1, .ref d2, .int x1, .int y1, .long r1, .long g1, .int t1])), (d1, .inl (g.2 1, 4, .inl fr1)), (d2, .inl (g.2 1, 4, .inl fh1)), (e4, .inr (3, [.ref e5, .ref e6])), (e5, .inl (g.2 1, 36, .inl co2)), (h0, .inr (4, [.ref q0, .ref q1, .int (nI k)])), (q0, .inl (g.2 1, 24, .inl (va_cpy f2 f 0 0 24))), (h2, .inr (4, [.ref q2, .ref r2, .int (nI k)])), (q2, .inl (g.2 1, 24, .inl f2))]) (va_runV (As := [.ref a2, .int (nI k)]) (rest := []) ⟨hx, hb, hml, hown, hts⟩ (c_X0_take l g a0 a1 ln a2 a3 ln2 k (by first | assumption | decide | omega) H.size) (cwV 2 hts gX8_take_X0_take rfl rfl rfl (by decide +kernel) ⟨Nat.le_of_ble_eq_true rfl, Nat.le_of_ble_eq_true rfl⟩) (he_preV (wc := [(a0, .inr (0, [.ref a1])), (a1, .inl (g.2 1, 3600, .inl ln)), (a2, .inr (0, [.ref a3])), (a3, .inl (g.2 1, 3600, .inl ln2))]) hK hP hD hS hA hE [1, 2, 9, 10] rfl rfl 1 rfl rfl) rfl rfl hl.1 rfl (lv_room (Nat.le_of_ble_eq_true rfl)) dX8_take_26 ⟨(Nat.le_of_ble_eq_true rfl), (Nat.le_of_ble_eq_true rfl)⟩) hP hD hS hA [1, 2, 9, 10] [0, 3, 4, 5, 6, 7, 8, 11, 12, 13, 14, 15, 16, 17, 18, 19] rfl rfl rfl (by decide) (fun u_5 H locs h_6 hP hD hS => ?_)
  have hP : va_P g.1 vwCl [(s0, .inr (8, [.ref h0, .ref a0, .ref b0, .ref e0])), (b0, .inr (2, [.ref b1, .ref b2, .int x, .int y, .long rl, .long hd, .int th])), (b1, .inl (g.2 1, 4, .inl fr)), (b2, .inl (g.2 1, 4, .inl fh)), (e0, .inr (3, [.ref e1, .ref e2])), (e1, .inl (g.2 1, 36, .inl co)), (s2, .inr (8, [.ref h2, .ref a2, .ref d0, .ref e4])), (d0, .inr (2, [.ref d1, .ref d2, .int x1, .int y1, .long r1, .long g1, .int t1])), (d1, .inl (g.2 1, 4, .inl fr1)), (d2, .inl (g.2 1, 4, .inl fh1)), (e4, .inr (3, [.ref e5, .ref e6])), (e5, .inl (g.2 1, 36, .inl co2)), (h0, .inr (4, [.ref q0, .ref q1, .int (nI k)])), (q0, .inl (g.2 1, 24, .inl (va_cpy f2 f 0 0 24))), (h2, .inr (4, [.ref q2, .ref r2, .int (nI k)])), (q2, .inl (g.2 1, 24, .inl f2)), (a0, .inr (0, [.ref a1])), (a1, .inl (g.2 1, 3600, .inl (va_cpy ln2 ln 0 0 (k * 30)))), (a2, .inr (0, [.ref a3])), (a3, .inl (g.2 1, 3600, .inl ln2))] H := hP
  have hD : va_D A [(s0, .inr (8, [.ref h0, .ref a0, .ref b0, .ref e0])), (b0, .inr (2, [.ref b1, .ref b2, .int x, .int y, .long rl, .long hd, .int th])), (b1, .inl (g.2 1, 4, .inl fr)), (b2, .inl (g.2 1, 4, .inl fh)), (e0, .inr (3, [.ref e1, .ref e2])), (e1, .inl (g.2 1, 36, .inl co)), (s2, .inr (8, [.ref h2, .ref a2, .ref d0, .ref e4])), (d0, .inr (2, [.ref d1, .ref d2, .int x1, .int y1, .long r1, .long g1, .int t1])), (d1, .inl (g.2 1, 4, .inl fr1)), (d2, .inl (g.2 1, 4, .inl fh1)), (e4, .inr (3, [.ref e5, .ref e6])), (e5, .inl (g.2 1, 36, .inl co2)), (h0, .inr (4, [.ref q0, .ref q1, .int (nI k)])), (q0, .inl (g.2 1, 24, .inl (va_cpy f2 f 0 0 24))), (h2, .inr (4, [.ref q2, .ref r2, .int (nI k)])), (q2, .inl (g.2 1, 24, .inl f2)), (a0, .inr (0, [.ref a1])), (a1, .inl (g.2 1, 3600, .inl (va_cpy ln2 ln 0 0 (k * 30)))), (a2, .inr (0, [.ref a3])), (a3, .inl (g.2 1, 3600, .inl ln2))] := hD
  refine lv_aload_n hx hb dX8_take_29 rfl (lv_at hl 0 rfl) ?_
  refine va_get (v := .ref b0) (T := TX8) (N := 4) hx hb hts inX8 hown hK hP 0 rfl rfl 2 (by decide) f26 (fun _ h9 => h9) rfl dX8_take_30 ?_
  refine lv_aload_n hx hb dX8_take_33 rfl (lv_at hl 1 rfl) ?_
  refine va_get (v := .ref d0) (T := TX8) (N := 4) hx hb hts inX8 hown hK hP 6 rfl rfl 2 (by decide) f26 (fun _ h9 => h9) rfl dX8_take_34 ?_
  refine he_cv (wc := [(b0, .inr (2, [.ref b1, .ref b2, .int x, .int y, .long rl, .long hd, .int th])), (b1, .inl (g.2 1, 4, .inl fr)), (b2, .inl (g.2 1, 4, .inl fh)), (d0, .inr (2, [.ref d1, .ref d2, .int x1, .int y1, .long r1, .long g1, .int t1])), (d1, .inl (g.2 1, 4, .inl fr1)), (d2, .inl (g.2 1, 4, .inl fh1))]) (wr := [(s0, .inr (8, [.ref h0, .ref a0, .ref b0, .ref e0])), (e0, .inr (3, [.ref e1, .ref e2])), (e1, .inl (g.2 1, 36, .inl co)), (s2, .inr (8, [.ref h2, .ref a2, .ref d0, .ref e4])), (e4, .inr (3, [.ref e5, .ref e6])), (e5, .inl (g.2 1, 36, .inl co2)), (h0, .inr (4, [.ref q0, .ref q1, .int (nI k)])), (q0, .inl (g.2 1, 24, .inl (va_cpy f2 f 0 0 24))), (h2, .inr (4, [.ref q2, .ref r2, .int (nI k)])), (q2, .inl (g.2 1, 24, .inl f2)), (a0, .inr (0, [.ref a1])), (a1, .inl (g.2 1, 3600, .inl (va_cpy ln2 ln 0 0 (k * 30)))), (a2, .inr (0, [.ref a3])), (a3, .inl (g.2 1, 3600, .inl ln2))]) (va_runV (As := [.ref d0]) (rest := []) ⟨hx, hb, hml, hown, hts⟩ (c_X2_take l g b0 b1 b2 x y rl hd th fr fh d0 d1 d2 x1 y1 r1 g1 t1 fr1 fh1 H.size) (cwV 1 hts gX8_take_X2_take rfl rfl rfl (by decide +kernel) ⟨Nat.le_of_ble_eq_true rfl, Nat.le_of_ble_eq_true rfl⟩) (he_preV (wc := [(b0, .inr (2, [.ref b1, .ref b2, .int x, .int y, .long rl, .long hd, .int th])), (b1, .inl (g.2 1, 4, .inl fr)), (b2, .inl (g.2 1, 4, .inl fh)), (d0, .inr (2, [.ref d1, .ref d2, .int x1, .int y1, .long r1, .long g1, .int t1])), (d1, .inl (g.2 1, 4, .inl fr1)), (d2, .inl (g.2 1, 4, .inl fh1))]) hK hP hD hS hA hE [1, 2, 3, 7, 8, 9] rfl rfl 1 rfl rfl) rfl rfl hl.1 rfl (lv_room (Nat.le_of_ble_eq_true rfl)) dX8_take_37 ⟨(Nat.le_of_ble_eq_true rfl), (Nat.le_of_ble_eq_true rfl)⟩) hP hD hS hA [1, 2, 3, 7, 8, 9] [0, 4, 5, 6, 10, 11, 12, 13, 14, 15, 16, 17, 18, 19] rfl rfl rfl (by decide) (fun u_8 H locs h_9 hP hD hS => ?_)
  have hP : va_P g.1 vwCl [(s0, .inr (8, [.ref h0, .ref a0, .ref b0, .ref e0])), (e0, .inr (3, [.ref e1, .ref e2])), (e1, .inl (g.2 1, 36, .inl co)), (s2, .inr (8, [.ref h2, .ref a2, .ref d0, .ref e4])), (e4, .inr (3, [.ref e5, .ref e6])), (e5, .inl (g.2 1, 36, .inl co2)), (h0, .inr (4, [.ref q0, .ref q1, .int (nI k)])), (q0, .inl (g.2 1, 24, .inl (va_cpy f2 f 0 0 24))), (h2, .inr (4, [.ref q2, .ref r2, .int (nI k)])), (q2, .inl (g.2 1, 24, .inl f2)), (a0, .inr (0, [.ref a1])), (a1, .inl (g.2 1, 3600, .inl (va_cpy ln2 ln 0 0 (k * 30)))), (a2, .inr (0, [.ref a3])), (a3, .inl (g.2 1, 3600, .inl ln2)), (b0, .inr (2, [.ref b1, .ref b2, .int x1, .int y1, .long r1, .long g1, .int t1])), (b1, .inl (g.2 1, 4, .inl (va_cpy fr1 fr 0 0 4))), (b2, .inl (g.2 1, 4, .inl (va_cpy fh1 fh 0 0 4))), (d0, .inr (2, [.ref d1, .ref d2, .int x1, .int y1, .long r1, .long g1, .int t1])), (d1, .inl (g.2 1, 4, .inl fr1)), (d2, .inl (g.2 1, 4, .inl fh1))] H := hP
  have hD : va_D A [(s0, .inr (8, [.ref h0, .ref a0, .ref b0, .ref e0])), (e0, .inr (3, [.ref e1, .ref e2])), (e1, .inl (g.2 1, 36, .inl co)), (s2, .inr (8, [.ref h2, .ref a2, .ref d0, .ref e4])), (e4, .inr (3, [.ref e5, .ref e6])), (e5, .inl (g.2 1, 36, .inl co2)), (h0, .inr (4, [.ref q0, .ref q1, .int (nI k)])), (q0, .inl (g.2 1, 24, .inl (va_cpy f2 f 0 0 24))), (h2, .inr (4, [.ref q2, .ref r2, .int (nI k)])), (q2, .inl (g.2 1, 24, .inl f2)), (a0, .inr (0, [.ref a1])), (a1, .inl (g.2 1, 3600, .inl (va_cpy ln2 ln 0 0 (k * 30)))), (a2, .inr (0, [.ref a3])), (a3, .inl (g.2 1, 3600, .inl ln2)), (b0, .inr (2, [.ref b1, .ref b2, .int x1, .int y1, .long r1, .long g1, .int t1])), (b1, .inl (g.2 1, 4, .inl (va_cpy fr1 fr 0 0 4))), (b2, .inl (g.2 1, 4, .inl (va_cpy fh1 fh 0 0 4))), (d0, .inr (2, [.ref d1, .ref d2, .int x1, .int y1, .long r1, .long g1, .int t1])), (d1, .inl (g.2 1, 4, .inl fr1)), (d2, .inl (g.2 1, 4, .inl fh1))] := hD
  refine lv_aload_n hx hb dX8_take_40 rfl (lv_at hl 0 rfl) ?_
  refine va_get (v := .ref e0) (T := TX8) (N := 4) hx hb hts inX8 hown hK hP 0 rfl rfl 3 (by decide) f33 (fun _ h9 => h9) rfl dX8_take_41 ?_
  refine lv_aload_n hx hb dX8_take_44 rfl (lv_at hl 1 rfl) ?_
  refine va_get (v := .ref e4) (T := TX8) (N := 4) hx hb hts inX8 hown hK hP 3 rfl rfl 3 (by decide) f33 (fun _ h9 => h9) rfl dX8_take_45 ?_
  refine he_cv (wc := [(e0, .inr (3, [.ref e1, .ref e2])), (e1, .inl (g.2 1, 36, .inl co)), (e4, .inr (3, [.ref e5, .ref e6])), (e5, .inl (g.2 1, 36, .inl co2))]) (wr := [(s0, .inr (8, [.ref h0, .ref a0, .ref b0, .ref e0])), (s2, .inr (8, [.ref h2, .ref a2, .ref d0, .ref e4])), (h0, .inr (4, [.ref q0, .ref q1, .int (nI k)])), (q0, .inl (g.2 1, 24, .inl (va_cpy f2 f 0 0 24))), (h2, .inr (4, [.ref q2, .ref r2, .int (nI k)])), (q2, .inl (g.2 1, 24, .inl f2)), (a0, .inr (0, [.ref a1])), (a1, .inl (g.2 1, 3600, .inl (va_cpy ln2 ln 0 0 (k * 30)))), (a2, .inr (0, [.ref a3])), (a3, .inl (g.2 1, 3600, .inl ln2)), (b0, .inr (2, [.ref b1, .ref b2, .int x1, .int y1, .long r1, .long g1, .int t1])), (b1, .inl (g.2 1, 4, .inl (va_cpy fr1 fr 0 0 4))), (b2, .inl (g.2 1, 4, .inl (va_cpy fh1 fh 0 0 4))), (d0, .inr (2, [.ref d1, .ref d2, .int x1, .int y1, .long r1, .long g1, .int t1])), (d1, .inl (g.2 1, 4, .inl fr1)), (d2, .inl (g.2 1, 4, .inl fh1))]) (va_runV (As := [.ref e4]) (rest := []) ⟨hx, hb, hml, hown, hts⟩ (c_X3_take l g e0 e1 e2 co e4 e5 e6 co2 H.size) (cwV 1 hts gX8_take_X3_take rfl rfl rfl (by decide +kernel) ⟨Nat.le_of_ble_eq_true rfl, Nat.le_of_ble_eq_true rfl⟩) (he_preV (wc := [(e0, .inr (3, [.ref e1, .ref e2])), (e1, .inl (g.2 1, 36, .inl co)), (e4, .inr (3, [.ref e5, .ref e6])), (e5, .inl (g.2 1, 36, .inl co2))]) hK hP hD hS hA hE [1, 2, 4, 5] rfl rfl 1 rfl rfl) rfl rfl hl.1 rfl (lv_room (Nat.le_of_ble_eq_true rfl)) dX8_take_48 ⟨(Nat.le_of_ble_eq_true rfl), (Nat.le_of_ble_eq_true rfl)⟩) hP hD hS hA [1, 2, 4, 5] [0, 3, 6, 7, 8, 9, 10, 11, 12, 13, 14, 15, 16, 17, 18, 19] rfl rfl rfl (by decide) (fun u_11 H locs h_12 hP hD hS => ?_)
  have hP : va_P g.1 vwCl [(s0, .inr (8, [.ref h0, .ref a0, .ref b0, .ref e0])), (s2, .inr (8, [.ref h2, .ref a2, .ref d0, .ref e4])), (h0, .inr (4, [.ref q0, .ref q1, .int (nI k)])), (q0, .inl (g.2 1, 24, .inl (va_cpy f2 f 0 0 24))), (h2, .inr (4, [.ref q2, .ref r2, .int (nI k)])), (q2, .inl (g.2 1, 24, .inl f2)), (a0, .inr (0, [.ref a1])), (a1, .inl (g.2 1, 3600, .inl (va_cpy ln2 ln 0 0 (k * 30)))), (a2, .inr (0, [.ref a3])), (a3, .inl (g.2 1, 3600, .inl ln2)), (b0, .inr (2, [.ref b1, .ref b2, .int x1, .int y1, .long r1, .long g1, .int t1])), (b1, .inl (g.2 1, 4, .inl (va_cpy fr1 fr 0 0 4))), (b2, .inl (g.2 1, 4, .inl (va_cpy fh1 fh 0 0 4))), (d0, .inr (2, [.ref d1, .ref d2, .int x1, .int y1, .long r1, .long g1, .int t1])), (d1, .inl (g.2 1, 4, .inl fr1)), (d2, .inl (g.2 1, 4, .inl fh1)), (e0, .inr (3, [.ref e1, .ref e2])), (e1, .inl (g.2 1, 36, .inl (va_cpy co2 co 0 0 36))), (e4, .inr (3, [.ref e5, .ref e6])), (e5, .inl (g.2 1, 36, .inl co2))] H := hP
  have hD : va_D A [(s0, .inr (8, [.ref h0, .ref a0, .ref b0, .ref e0])), (s2, .inr (8, [.ref h2, .ref a2, .ref d0, .ref e4])), (h0, .inr (4, [.ref q0, .ref q1, .int (nI k)])), (q0, .inl (g.2 1, 24, .inl (va_cpy f2 f 0 0 24))), (h2, .inr (4, [.ref q2, .ref r2, .int (nI k)])), (q2, .inl (g.2 1, 24, .inl f2)), (a0, .inr (0, [.ref a1])), (a1, .inl (g.2 1, 3600, .inl (va_cpy ln2 ln 0 0 (k * 30)))), (a2, .inr (0, [.ref a3])), (a3, .inl (g.2 1, 3600, .inl ln2)), (b0, .inr (2, [.ref b1, .ref b2, .int x1, .int y1, .long r1, .long g1, .int t1])), (b1, .inl (g.2 1, 4, .inl (va_cpy fr1 fr 0 0 4))), (b2, .inl (g.2 1, 4, .inl (va_cpy fh1 fh 0 0 4))), (d0, .inr (2, [.ref d1, .ref d2, .int x1, .int y1, .long r1, .long g1, .int t1])), (d1, .inl (g.2 1, 4, .inl fr1)), (d2, .inl (g.2 1, 4, .inl fh1)), (e0, .inr (3, [.ref e1, .ref e2])), (e1, .inl (g.2 1, 36, .inl (va_cpy co2 co 0 0 36))), (e4, .inr (3, [.ref e5, .ref e6])), (e5, .inl (g.2 1, 36, .inl co2))] := hD
  have hP := hP.sub (ws' := [(s0, .inr (8, [.ref h0, .ref a0, .ref b0, .ref e0])), (h0, .inr (4, [.ref q0, .ref q1, .int (nI k)])), (q0, .inl (g.2 1, 24, .inl (va_cpy f2 f 0 0 24))), (a0, .inr (0, [.ref a1])), (a1, .inl (g.2 1, 3600, .inl (va_cpy ln2 ln 0 0 (k * 30)))), (b0, .inr (2, [.ref b1, .ref b2, .int x1, .int y1, .long r1, .long g1, .int t1])), (b1, .inl (g.2 1, 4, .inl (va_cpy fr1 fr 0 0 4))), (b2, .inl (g.2 1, 4, .inl (va_cpy fh1 fh 0 0 4))), (e0, .inr (3, [.ref e1, .ref e2])), (e1, .inl (g.2 1, 36, .inl (va_cpy co2 co 0 0 36))), (s2, .inr (8, [.ref h2, .ref a2, .ref d0, .ref e4])), (h2, .inr (4, [.ref q2, .ref r2, .int (nI k)])), (q2, .inl (g.2 1, 24, .inl f2)), (a2, .inr (0, [.ref a3])), (a3, .inl (g.2 1, 3600, .inl ln2)), (d0, .inr (2, [.ref d1, .ref d2, .int x1, .int y1, .long r1, .long g1, .int t1])), (d1, .inl (g.2 1, 4, .inl fr1)), (d2, .inl (g.2 1, 4, .inl fh1)), (e4, .inr (3, [.ref e5, .ref e6])), (e5, .inl (g.2 1, 36, .inl co2))]) [0, 2, 3, 6, 7, 10, 11, 12, 16, 17, 1, 4, 5, 8, 9, 13, 14, 15, 18, 19] rfl
  have hD := hD.sub (ws' := [(s0, .inr (8, [.ref h0, .ref a0, .ref b0, .ref e0])), (h0, .inr (4, [.ref q0, .ref q1, .int (nI k)])), (q0, .inl (g.2 1, 24, .inl (va_cpy f2 f 0 0 24))), (a0, .inr (0, [.ref a1])), (a1, .inl (g.2 1, 3600, .inl (va_cpy ln2 ln 0 0 (k * 30)))), (b0, .inr (2, [.ref b1, .ref b2, .int x1, .int y1, .long r1, .long g1, .int t1])), (b1, .inl (g.2 1, 4, .inl (va_cpy fr1 fr 0 0 4))), (b2, .inl (g.2 1, 4, .inl (va_cpy fh1 fh 0 0 4))), (e0, .inr (3, [.ref e1, .ref e2])), (e1, .inl (g.2 1, 36, .inl (va_cpy co2 co 0 0 36))), (s2, .inr (8, [.ref h2, .ref a2, .ref d0, .ref e4])), (h2, .inr (4, [.ref q2, .ref r2, .int (nI k)])), (q2, .inl (g.2 1, 24, .inl f2)), (a2, .inr (0, [.ref a3])), (a3, .inl (g.2 1, 3600, .inl ln2)), (d0, .inr (2, [.ref d1, .ref d2, .int x1, .int y1, .long r1, .long g1, .int t1])), (d1, .inl (g.2 1, 4, .inl fr1)), (d2, .inl (g.2 1, 4, .inl fh1)), (e4, .inr (3, [.ref e5, .ref e6])), (e5, .inl (g.2 1, 36, .inl co2))]) [0, 2, 3, 6, 7, 10, 11, 12, 16, 17, 1, 4, 5, 8, 9, 13, 14, 15, 18, 19] (by decide) rfl
  exact he_rv hQ hx hb hr hlk hP hD hS dX8_take_51 (Nat.le_of_ble_eq_true rfl) (Nat.le_of_ble_eq_true rfl) (()) (rfl) (trivial)
