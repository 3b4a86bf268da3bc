set_option maxHeartbeats 4000000 in
set_option maxRecDepth 100000 in
theorem s_X4_weakest (l : Launch) (g : he_G) (h0 : Nat) (q0 : Nat) (q1 : Nat) (mo : Int32) (f : Nat → Int32) (w : Nat) (hw6 : w ≤ 6) (hw0 : 0 < w) : he_I l yX4_weakest wsX4_weakest 0 0 0 0 g [.ref h0, .int (nI w)] [(oX4 h0 q0 q1 mo), (aI g q0 24 f)] (fun (r : Int32) (u : Unit) => r = nI (wkI f (w - 1))) (fun (u : Unit) => [(oX4 h0 q0 q1 mo), (aI g q0 24 f)]) := by
  refine he_begin (l := l) (g := g) (y := yX4_weakest) (wl := wsX4_weakest) (fr := 0) (lo := 0) (mc := 0) (ms := 0) (av := [.ref h0, .int (nI w)]) (ws := [(oX4 h0 q0 q1 mo), (aI g q0 24 f)]) (cc := cX4_weakest) (maxL := 4) (ret := (some .int)) (fun A => va_Qi (fun (r : Int32) (u : Unit) => r = nI (wkI f (w - 1))) (fun u t => he_post g A ((fun (u : Unit) => [(oX4 h0 q0 q1 mo), (aI g q0 24 f)]) u) t) A) (by decide) rfl (Nat.le_of_ble_eq_true rfl) ?_
  intro p e s m args below meth c A ls H locs Q hQ hB
  obtain ⟨hx, hb, hr, hml, hown, hts, hlk, hin, hP, hK, hD, hS, hA, hE, hl⟩ := hB
  have hl : lv_has ls 4 [(0, .ref h0), (1, .int (nI w))] := hl
  have f9 := hts (.fieldLink RX4 9 "HiredEnemy$Course" "now" "[I") (iwoX4_weakest (k := 0) rfl)
  have inX4 : ∀ w ∈ wsX40, w ∈ wsX4_weakest := innX4_weakest_X4
  refine lv_iconst (v := 0) hx hb dX4_weakest_0 (by decide) ?_
  refine lv_istore_n (lv' := [(2, .int 0), (0, .ref h0), (1, .int (nI w))]) hx hb dX4_weakest_1 rfl hl (by decide) rfl (fun ls hl => ?_)
  refine lv_iconst (v := 1) hx hb dX4_weakest_2 (by decide) ?_
  refine lv_istore_n (lv' := [(3, .int 1), (2, .int 0), (0, .ref h0), (1, .int (nI w))]) hx hb dX4_weakest_3 rfl hl (by decide) rfl (fun ls hl => ?_)
  have loop4 : ∀ (n9 : Nat) (j : Nat) (b : Nat), w + 1 - j < n9 → (1 ≤ j) → (j ≤ w) → (b = wkI f (j - 1)) → ∀ (H : Heap) (locs : List Loc) (ls : Array Slot), va_P g.1 vwCl [(oX4 h0 q0 q1 mo), (aI g q0 24 f)] H → va_D A [(oX4 h0 q0 q1 mo), (aI g q0 24 f)] → va_S A s.heap H locs → lv_has ls 4 [(0, .ref h0), (1, .int (nI w)), (2, .int (nI b)), (3, .int (nI j))] → W p l e (he_room 0 0 0 0) s m args below meth c H locs 0 0 Q (F0 m 4 ls []) := by
    intro n9
    induction n9 with
    | zero => intro j b hm9; exact absurd hm9 (Nat.not_lt_zero _)
    | succ n9 ih4 =>
      intro j b hm9 hj1 hj hbk H locs ls hP hD hS hl
      refine lv_iload_n hx hb dX4_weakest_4 rfl (lv_at hl 3 rfl) ?_
      refine lv_iload_n hx hb dX4_weakest_5 rfl (lv_at hl 1 rfl) ?_
      refine lv_icmp_ge (tgt := 38) hx hb dX4_weakest_6 (by decide) (fun c_1 => ?_) (fun c_1 => ?_)
      · have k_2 : w ≤ j := (he_cle (a := w) (b := j) rfl rfl (by omega) (by omega)).mp c_1
        refine lv_iload_n hx hb dX4_weakest_38 rfl (lv_at hl 2 rfl) ?_
        exact he_ri hQ hx hb hr hlk hP hD hS dX4_weakest_39 (Nat.le_of_ble_eq_true rfl) (Nat.le_of_ble_eq_true rfl) (()) (rfl) (congrArg nI (by rw [hbk, show j = w by omega]))
      · have k_3 : ¬ (w ≤ j) := fun h9 => c_1 ((he_cle (a := w) (b := j) rfl rfl (by omega) (by omega)).mpr h9)
        refine lv_aload_n hx hb dX4_weakest_9 rfl (lv_at hl 0 rfl) ?_
        refine va_get (v := .ref q0) (T := TX4) (N := 3) hx hb hts inX4 hown hK hP 0 rfl rfl 0 (by decide) f9 (fun _ h9 => h9) rfl dX4_weakest_10 ?_
        refine lv_bipush (v := 12) hx hb dX4_weakest_13 (by decide) ?_
        refine lv_iload_n hx hb dX4_weakest_15 rfl (lv_at hl 3 rfl) ?_
        refine lv_iadd hx hb dX4_weakest_16 ?_
        refine he_top (nI (12 + j)) (nI_add 12 j) ?_
        have hb6 : b < 6 := by have := wkI_le f (j - 1); omega
        refine he_iald hx hb hK hP 1 rfl (12 + j) rfl (by first | assumption | decide | omega) (by first | decide | assumption) (f (12 + j)) rfl dX4_weakest_17 ?_
        refine lv_aload_n hx hb dX4_weakest_18 rfl (lv_at hl 0 rfl) ?_
        refine va_get (v := .ref q0) (T := TX4) (N := 3) hx hb hts inX4 hown hK hP 0 rfl rfl 0 (by decide) f9 (fun _ h9 => h9) rfl dX4_weakest_19 ?_
        refine lv_bipush (v := 12) hx hb dX4_weakest_22 (by decide) ?_
        refine lv_iload_n hx hb dX4_weakest_24 rfl (lv_at hl 2 rfl) ?_
        refine lv_iadd hx hb dX4_weakest_25 ?_
        refine he_top (nI (12 + b)) (nI_add 12 b) ?_
        refine he_iald hx hb hK hP 1 rfl (12 + b) rfl (by first | assumption | decide | omega) (by first | decide | assumption) (f (12 + b)) rfl dX4_weakest_26 ?_
        refine lv_icmp_ge (tgt := 32) hx hb dX4_weakest_27 (by decide) (fun c_4 => ?_) (fun c_4 => ?_)
        · refine lv_iinc (v := nI (j + 1)) (lv' := [(3, .int (nI (j + 1))), (0, .ref h0), (1, .int (nI w)), (2, .int (nI b))]) hx hb dX4_weakest_32 hl (k := 3) rfl (nI_1 j) (by decide) rfl (fun ls hl => ?_)
          refine lv_goto (tgt := 4) hx hb dX4_weakest_35 (by decide) ?_
          exact ih4 (j + 1) b (by omega) (by omega) (by omega) (by rw [show j + 1 - 1 = j by omega, wkI_s hj1, ← hbk, if_pos c_4]) _ _ _ hP hD hS (lv_sub hl [1, 2, 3, 0] rfl)
        · refine lv_iload_n hx hb dX4_weakest_30 rfl (lv_at hl 3 rfl) ?_
          refine lv_istore_n (lv' := [(2, .int (nI j)), (0, .ref h0), (1, .int (nI w)), (3, .int (nI j))]) hx hb dX4_weakest_31 rfl hl (by decide) rfl (fun ls hl => ?_)
          refine lv_iinc (v := nI (j + 1)) (lv' := [(3, .int (nI (j + 1))), (2, .int (nI j)), (0, .ref h0), (1, .int (nI w))]) hx hb dX4_weakest_32 hl (k := 3) rfl (nI_1 j) (by decide) rfl (fun ls hl => ?_)
          refine lv_goto (tgt := 4) hx hb dX4_weakest_35 (by decide) ?_
          exact ih4 (j + 1) j (by omega) (by omega) (by omega) (by rw [show j + 1 - 1 = j by omega, wkI_s hj1, ← hbk, if_neg c_4]) _ _ _ hP hD hS (lv_sub hl [2, 3, 1, 0] rfl)
  exact loop4 ((w + 1 - 1) + 1) 1 0 (Nat.lt_succ_self _) (Nat.le_refl 1) (by omega) rfl _ _ _ hP hD hS (lv_sub hl [2, 3, 1, 0] rfl)
set_option maxHeartbeats 4000000 in
set_option maxRecDepth 100000 in
theorem s_X4_breach (l : Launch) (g : he_G) (h0 : Nat) (q0 : Nat) (q1 : Nat) (mo : Int32) (f : Nat → Int32) (p0 : Nat) (p1 : Nat) (p2 : Nat) (p3 : Nat) (p4 : Nat) (w : Int32) (sd : Nat → Int32) (st : Nat → Int32) (t0 : Nat) (t1 : Nat) (t2 : Nat) (pw : Int32) (pd : Nat → Int32) (k : Nat) (hk : k < 6) : he_V l yX4_breach wsX4_breach 2 37 0 0 g [.ref h0, .ref p0, .ref t0, .int (nI k)] [(oX4 h0 q0 q1 mo), (aI g q0 24 f), (oX6 p0 p1 p2 p3 p4 w), (aI g p1 24 sd), (aI g p3 6 st), (oX5 t0 t1 t2 pw), (aI g t1 6 pd)] (fun (u : Unit) => True) (fun (u : Unit) => [(oX4 h0 q0 q1 mo), (aI g q0 24 (mvF (frF (upd (upd (upd f 6 (f 6 + 1)) (18 + k) (upd f 6 (f 6 + 1) (18 + k) + 1)) (12 + k) (st k)) (sd 13)) 0 1 (pd 4))), (oX6 p0 p1 p2 p3 p4 w), (aI g p1 24 sd), (aI g p3 6 st), (oX5 t0 t1 t2 pw), (aI g t1 6 pd)]) := by
  refine he_begin (l := l) (g := g) (y := yX4_breach) (wl := wsX4_breach) (fr := 2) (lo := 37) (mc := 0) (ms := 0) (av := [.ref h0, .ref p0, .ref t0, .int (nI k)]) (ws := [(oX4 h0 q0 q1 mo), (aI g q0 24 f), (oX6 p0 p1 p2 p3 p4 w), (aI g p1 24 sd), (aI g p3 6 st), (oX5 t0 t1 t2 pw), (aI g t1 6 pd)]) (cc := cX4_breach) (maxL := 4) (ret := none) (fun A => va_Qv (fun (u : Unit) => True) (fun u t => he_post g A ((fun (u : Unit) => [(oX4 h0 q0 q1 mo), (aI g q0 24 (mvF (frF (upd (upd (upd f 6 (f 6 + 1)) (18 + k) (upd f 6 (f 6 + 1) (18 + k) + 1)) (12 + k) (st k)) (sd 13)) 0 1 (pd 4))), (oX6 p0 p1 p2 p3 p4 w), (aI g p1 24 sd), (aI g p3 6 st), (oX5 t0 t1 t2 pw), (aI g t1 6 pd)]) u) t) A) (by decide) rfl (Nat.le_of_ble_eq_true rfl) ?_
  intro p e s m args below meth c A ls H locs Q hQ hB
  obtain ⟨hx, hb, hr, hml, hown, hts, hlk, hin, hP, hK, hD, hS, hA, hE, hl⟩ := hB
  have hl : lv_has ls 4 [(0, .ref h0), (1, .ref p0), (2, .ref t0), (3, .int (nI k))] := hl
  have f9 := hts (.fieldLink RX4 9 "HiredEnemy$Course" "now" "[I") (iwoX4_breach (k := 0) rfl)
  have inX4 : ∀ w ∈ wsX40, w ∈ wsX4_breach := innX4_breach_X4
  have f36 := hts (.fieldLink RX4 36 "HiredEnemy$Plan" "strength" "[I") (iwoX4_breach (k := 1) rfl)
  have inX6 : ∀ w ∈ wsX60, w ∈ wsX4_breach := innX4_breach_X6
  have f28 := hts (.fieldLink RX4 28 "HiredEnemy$Plan" "said" "[I") (iwoX4_breach (k := 2) rfl)
  have f57 := hts (.fieldLink RX4 57 "HiredEnemy$Pact" "said" "[I") (iwoX4_breach (k := 3) rfl)
  have inX5 : ∀ w ∈ wsX50, w ∈ wsX4_breach := innX4_breach_X5
  refine lv_aload_n hx hb dX4_breach_0 rfl (lv_at hl 0 rfl) ?_
  refine va_get (v := .ref q0) (T := TX4) (N := 3) hx hb hts inX4 hown hK hP 0 rfl rfl 0 (by decide) f9 (fun _ h9 => h9) rfl dX4_breach_1 ?_
  refine lv_bipush (v := 6) hx hb dX4_breach_4 (by decide) ?_
  refine lv_dup2_11 hx hb dX4_breach_6 rfl rfl ?_
  refine he_iald hx hb hK hP 1 rfl (6) (by decide) (by decide) (by first | decide | assumption) (f 6) rfl dX4_breach_7 ?_
  refine lv_iconst (v := 1) hx hb dX4_breach_8 (by decide) ?_
  refine lv_iadd hx hb dX4_breach_9 ?_
  refine he_iast hx hb hK hP hD hS 1 rfl (6) (by decide) (by decide) (by first | decide | assumption) dX4_breach_10 (fun H locs hP hD hS => ?_)
  have hP : va_P g.1 vwCl [(oX4 h0 q0 q1 mo), (aI g q0 24 (upd f 6 ((f 6) + 1))), (oX6 p0 p1 p2 p3 p4 w), (aI g p1 24 sd), (aI g p3 6 st), (oX5 t0 t1 t2 pw), (aI g t1 6 pd)] H := hP
  have hD : va_D A [(oX4 h0 q0 q1 mo), (aI g q0 24 (upd f 6 ((f 6) + 1))), (oX6 p0 p1 p2 p3 p4 w), (aI g p1 24 sd), (aI g p3 6 st), (oX5 t0 t1 t2 pw), (aI g t1 6 pd)] := hD
  refine lv_aload_n hx hb dX4_breach_11 rfl (lv_at hl 0 rfl) ?_
  refine va_get (v := .ref q0) (T := TX4) (N := 3) hx hb hts inX4 hown hK hP 0 rfl rfl 0 (by decide) f9 (fun _ h9 => h9) rfl dX4_breach_12 ?_
  refine lv_bipush (v := 18) hx hb dX4_breach_15 (by decide) ?_
  refine lv_iload_n hx hb dX4_breach_17 rfl (lv_at hl 3 rfl) ?_
  refine lv_iadd hx hb dX4_breach_18 ?_
  refine he_top (nI (18 + k)) (nI_add 18 k) ?_
  refine lv_dup2_11 hx hb dX4_breach_19 rfl rfl ?_
  refine he_iald hx hb hK hP 1 rfl (18 + k) rfl (by first | assumption | decide | omega) (by first | decide | assumption) ((upd f 6 ((f 6) + 1)) (18 + k)) rfl dX4_breach_20 ?_
  refine lv_iconst (v := 1) hx hb dX4_breach_21 (by decide) ?_
  refine lv_iadd hx hb dX4_breach_22 ?_
  refine he_iast hx hb hK hP hD hS 1 rfl (18 + k) rfl (by first | assumption | decide | omega) (by first | decide | assumption) dX4_breach_23 (fun H locs hP hD hS => ?_)
  have hP : va_P g.1 vwCl [(oX4 h0 q0 q1 mo), (aI g q0 24 (upd (upd f 6 ((f 6) + 1)) (18 + k) (((upd f 6 ((f 6) + 1)) (18 + k)) + 1))), (oX6 p0 p1 p2 p3 p4 w), (aI g p1 24 sd), (aI g p3 6 st), (oX5 t0 t1 t2 pw), (aI g t1 6 pd)] H := hP
  have hD : va_D A [(oX4 h0 q0 q1 mo), (aI g q0 24 (upd (upd f 6 ((f 6) + 1)) (18 + k) (((upd f 6 ((f 6) + 1)) (18 + k)) + 1))), (oX6 p0 p1 p2 p3 p4 w), (aI g p1 24 sd), (aI g p3 6 st), (oX5 t0 t1 t2 pw), (aI g t1 6 pd)] := hD
  refine lv_aload_n hx hb dX4_breach_24 rfl (lv_at hl 0 rfl) ?_
  refine va_get (v := .ref q0) (T := TX4) (N := 3) hx hb hts inX4 hown hK hP 0 rfl rfl 0 (by decide) f9 (fun _ h9 => h9) rfl dX4_breach_25 ?_
  refine lv_bipush (v := 12) hx hb dX4_breach_28 (by decide) ?_
  refine lv_iload_n hx hb dX4_breach_30 rfl (lv_at hl 3 rfl) ?_
  refine lv_iadd hx hb dX4_breach_31 ?_
  refine he_top (nI (12 + k)) (nI_add 12 k) ?_
  refine lv_aload_n hx hb dX4_breach_32 rfl (lv_at hl 1 rfl) ?_
  refine va_get (v := .ref p3) (T := TX6) (N := 5) hx hb hts inX6 hown hK hP 2 rfl rfl 2 (by decide) f36 (fun _ h9 => h9) rfl dX4_breach_33 ?_
  refine lv_iload_n hx hb dX4_breach_36 rfl (lv_at hl 3 rfl) ?_
  refine he_iald hx hb hK hP 4 rfl (k) rfl (by first | assumption | decide | omega) (by first | decide | assumption) (st k) rfl dX4_breach_37 ?_
  refine he_iast hx hb hK hP hD hS 1 rfl (12 + k) rfl (by first | assumption | decide | omega) (by first | decide | assumption) dX4_breach_38 (fun H locs hP hD hS => ?_)
  have hP : va_P g.1 vwCl [(oX4 h0 q0 q1 mo), (aI g q0 24 (upd (upd (upd f 6 ((f 6) + 1)) (18 + k) (((upd f 6 ((f 6) + 1)) (18 + k)) + 1)) (12 + k) (st k))), (oX6 p0 p1 p2 p3 p4 w), (aI g p1 24 sd), (aI g p3 6 st), (oX5 t0 t1 t2 pw), (aI g t1 6 pd)] H := hP
  have hD : va_D A [(oX4 h0 q0 q1 mo), (aI g q0 24 (upd (upd (upd f 6 ((f 6) + 1)) (18 + k) (((upd f 6 ((f 6) + 1)) (18 + k)) + 1)) (12 + k) (st k))), (oX6 p0 p1 p2 p3 p4 w), (aI g p1 24 sd), (aI g p3 6 st), (oX5 t0 t1 t2 pw), (aI g t1 6 pd)] := hD
  refine lv_aload_n hx hb dX4_breach_39 rfl (lv_at hl 0 rfl) ?_
  refine lv_aload_n hx hb dX4_breach_40 rfl (lv_at hl 1 rfl) ?_
  refine va_get (v := .ref p1) (T := TX6) (N := 5) hx hb hts inX6 hown hK hP 2 rfl rfl 0 (by decide) f28 (fun _ h9 => h9) rfl dX4_breach_41 ?_
  refine lv_bipush (v := 13) hx hb dX4_breach_44 (by decide) ?_
  refine he_iald hx hb hK hP 3 rfl (13) (by decide) (by decide) (by first | decide | assumption) (sd 13) rfl dX4_breach_46 ?_
  refine he_cv (wc := [(oX4 h0 q0 q1 mo), (aI g q0 24 (upd (upd (upd f 6 ((f 6) + 1)) (18 + k) (((upd f 6 ((f 6) + 1)) (18 + k)) + 1)) (12 + k) (st k)))]) (wr := [(oX6 p0 p1 p2 p3 p4 w), (aI g p1 24 sd), (aI g p3 6 st), (oX5 t0 t1 t2 pw), (aI g t1 6 pd)]) (va_runV (As := [.int (sd 13)]) (rest := []) ⟨hx, hb, hml, hown, hts⟩ (c_X4_frighten l g h0 q0 q1 mo (upd (upd (upd f 6 ((f 6) + 1)) (18 + k) (((upd f 6 ((f 6) + 1)) (18 + k)) + 1)) (12 + k) (st k)) (sd 13) H.size) (cwV 1 hts gX4_breach_X4_frighten rfl rfl rfl (by decide +kernel) ⟨Nat.le_of_ble_eq_true rfl, Nat.le_of_ble_eq_true rfl⟩) (he_preV (wc := [(oX4 h0 q0 q1 mo), (aI g q0 24 (upd (upd (upd f 6 ((f 6) + 1)) (18 + k) (((upd f 6 ((f 6) + 1)) (18 + k)) + 1)) (12 + k) (st k)))]) hK hP hD hS hA hE [0, 1] rfl rfl 0 rfl rfl) rfl rfl hl.1 rfl (lv_room (Nat.le_of_ble_eq_true rfl)) dX4_breach_47 ⟨(Nat.le_of_ble_eq_true rfl), (Nat.le_of_ble_eq_true rfl)⟩) hP hD hS hA [0, 1] [2, 3, 4, 5, 6] rfl rfl rfl (by decide) (fun u_2 H locs h_3 hP hD hS => ?_)
  have hP : va_P g.1 vwCl [(oX6 p0 p1 p2 p3 p4 w), (aI g p1 24 sd), (aI g p3 6 st), (oX5 t0 t1 t2 pw), (aI g t1 6 pd), (oX4 h0 q0 q1 mo), (aI g q0 24 (frF (upd (upd (upd f 6 ((f 6) + 1)) (18 + k) (((upd f 6 ((f 6) + 1)) (18 + k)) + 1)) (12 + k) (st k)) (sd 13)))] H := hP
  have hD : va_D A [(oX6 p0 p1 p2 p3 p4 w), (aI g p1 24 sd), (aI g p3 6 st), (oX5 t0 t1 t2 pw), (aI g t1 6 pd), (oX4 h0 q0 q1 mo), (aI g q0 24 (frF (upd (upd (upd f 6 ((f 6) + 1)) (18 + k) (((upd f 6 ((f 6) + 1)) (18 + k)) + 1)) (12 + k) (st k)) (sd 13)))] := hD
  refine lv_aload_n hx hb dX4_breach_50 rfl (lv_at hl 0 rfl) ?_
  refine lv_iconst (v := 0) hx hb dX4_breach_51 (by decide) ?_
  refine lv_iconst (v := 1) hx hb dX4_breach_52 (by decide) ?_
  refine lv_aload_n hx hb dX4_breach_53 rfl (lv_at hl 2 rfl) ?_
  refine va_get (v := .ref t1) (T := TX5) (N := 3) hx hb hts inX5 hown hK hP 3 rfl rfl 0 (by decide) f57 (fun _ h9 => h9) rfl dX4_breach_54 ?_
  refine lv_iconst (v := 4) hx hb dX4_breach_57 (by decide) ?_
  refine he_iald hx hb hK hP 4 rfl (4) (by decide) (by decide) (by first | decide | assumption) (pd 4) rfl dX4_breach_58 ?_
  refine he_cv (wc := [(oX4 h0 q0 q1 mo), (aI g q0 24 (frF (upd (upd (upd f 6 ((f 6) + 1)) (18 + k) (((upd f 6 ((f 6) + 1)) (18 + k)) + 1)) (12 + k) (st k)) (sd 13)))]) (wr := [(oX6 p0 p1 p2 p3 p4 w), (aI g p1 24 sd), (aI g p3 6 st), (oX5 t0 t1 t2 pw), (aI g t1 6 pd)]) (va_runV (As := [.int 0, .int 1, .int (pd 4)]) (rest := []) ⟨hx, hb, hml, hown, hts⟩ (c_X4_move l g h0 q0 q1 mo (frF (upd (upd (upd f 6 ((f 6) + 1)) (18 + k) (((upd f 6 ((f 6) + 1)) (18 + k)) + 1)) (12 + k) (st k)) (sd 13)) 0 1 (pd 4) (by first | assumption | decide | omega) (by first | assumption | decide | omega) H.size) (cwV 3 hts gX4_breach_X4_move rfl rfl rfl (by decide +kernel) ⟨Nat.le_of_ble_eq_true rfl, Nat.le_of_ble_eq_true rfl⟩) (he_preV (wc := [(oX4 h0 q0 q1 mo), (aI g q0 24 (frF (upd (upd (upd f 6 ((f 6) + 1)) (18 + k) (((upd f 6 ((f 6) + 1)) (18 + k)) + 1)) (12 + k) (st k)) (sd 13)))]) hK hP hD hS hA hE [5, 6] rfl rfl 5 rfl rfl) rfl rfl hl.1 rfl (lv_room (Nat.le_of_ble_eq_true rfl)) dX4_breach_59 ⟨(Nat.le_of_ble_eq_true rfl), (Nat.le_of_ble_eq_true rfl)⟩) hP hD hS hA [5, 6] [0, 1, 2, 3, 4] rfl rfl rfl (by decide) (fun u_5 H locs h_6 hP hD hS => ?_)
  have hP : va_P g.1 vwCl [(oX6 p0 p1 p2 p3 p4 w), (aI g p1 24 sd), (aI g p3 6 st), (oX5 t0 t1 t2 pw), (aI g t1 6 pd), (oX4 h0 q0 q1 mo), (aI g q0 24 (mvF (frF (upd (upd (upd f 6 ((f 6) + 1)) (18 + k) (((upd f 6 ((f 6) + 1)) (18 + k)) + 1)) (12 + k) (st k)) (sd 13)) 0 1 (pd 4)))] H := hP
  have hD : va_D A [(oX6 p0 p1 p2 p3 p4 w), (aI g p1 24 sd), (aI g p3 6 st), (oX5 t0 t1 t2 pw), (aI g t1 6 pd), (oX4 h0 q0 q1 mo), (aI g q0 24 (mvF (frF (upd (upd (upd f 6 ((f 6) + 1)) (18 + k) (((upd f 6 ((f 6) + 1)) (18 + k)) + 1)) (12 + k) (st k)) (sd 13)) 0 1 (pd 4)))] := hD
  have hP := hP.sub (ws' := [(oX4 h0 q0 q1 mo), (aI g q0 24 (mvF (frF (upd (upd (upd f 6 ((f 6) + 1)) (18 + k) (((upd f 6 ((f 6) + 1)) (18 + k)) + 1)) (12 + k) (st k)) (sd 13)) 0 1 (pd 4))), (oX6 p0 p1 p2 p3 p4 w), (aI g p1 24 sd), (aI g p3 6 st), (oX5 t0 t1 t2 pw), (aI g t1 6 pd)]) [5, 6, 0, 1, 2, 3, 4] rfl
  have hD := hD.sub (ws' := [(oX4 h0 q0 q1 mo), (aI g q0 24 (mvF (frF (upd (upd (upd f 6 ((f 6) + 1)) (18 + k) (((upd f 6 ((f 6) + 1)) (18 + k)) + 1)) (12 + k) (st k)) (sd 13)) 0 1 (pd 4))), (oX6 p0 p1 p2 p3 p4 w), (aI g p1 24 sd), (aI g p3 6 st), (oX5 t0 t1 t2 pw), (aI g t1 6 pd)]) [5, 6, 0, 1, 2, 3, 4] (by decide) rfl
  exact he_rv hQ hx hb hr hlk hP hD hS dX4_breach_62 (Nat.le_of_ble_eq_true rfl) (Nat.le_of_ble_eq_true rfl) (()) (rfl) (trivial)
set_option maxHeartbeats 4000000 in
set_option maxRecDepth 100000 in
theorem s_X4_shoot (l : Launch) (g : he_G) (h0 : Nat) (q0 : Nat) (q1 : Nat) (mo : Int32) (f : Nat → Int32) (sh : Nat → Int32) (p0 : Nat) (p1 : Nat) (p2 : Nat) (p3 : Nat) (p4 : Nat) (w : Nat) (sd : Nat → Int32) (st : Nat → Int32) (t0 : Nat) (t1 : Nat) (t2 : Nat) (pw : Int32) (pd : Nat → Int32) (wb : Nat → Int32) (ck : Nat) (q2 : Nat) (it : Nat) (T : Nat → Int32) (hw6 : w ≤ 6) (hck : pd 3 = nI ck) (hc99 : ck ≤ 99) (hq2 : pd 2 = nI q2) (hq9 : q2 ≤ 9) (hit36 : it < 36) (hmo : mo - f 11 = nI it) (hbw : wb it = -1 ∨ ∃ k, k < w ∧ wb it = nI k) (hst : ∀ k, k < w → 0 < st k) (hBd : ∀ k, k < w → 0 < f (12 + k)) (hT10 : T 10 = sd 13) : he_V l yX4_shoot wsX4_shoot 3 60 0 0 g [.ref h0, .ref p0, .ref t0] [(oX4 h0 q0 q1 mo), (aI g q0 24 f), (aI g q1 6 sh), (oX6 p0 p1 p2 p3 p4 (nI w)), (aI g p1 24 sd), (aI g p3 6 st), (oX5 t0 t1 t2 pw), (aI g t1 6 pd), (aI g t2 36 wb)] (fun (u : (Nat → Int32) × (Nat → Int32)) => u.1 = upd (rSh T st (pd 4) (wb it) q2 w f sh (nSh w ck)).1 7 ((rSh T st (pd 4) (wb it) q2 w f sh (nSh w ck)).1 7 + rMiss (wb it) (rSh T st (pd 4) (wb it) q2 w f sh (nSh w ck)).2.2) ∧ u.2 = (rSh T st (pd 4) (wb it) q2 w f sh (nSh w ck)).2.1) (fun (u : (Nat → Int32) × (Nat → Int32)) => [(oX4 h0 q0 q1 mo), (aI g q0 24 u.1), (aI g q1 6 u.2), (oX6 p0 p1 p2 p3 p4 (nI w)), (aI g p1 24 sd), (aI g p3 6 st), (oX5 t0 t1 t2 pw), (aI g t1 6 pd), (aI g t2 36 wb)]) := by
  refine he_begin (l := l) (g := g) (y := yX4_shoot) (wl := wsX4_shoot) (fr := 3) (lo := 60) (mc := 0) (ms := 0) (av := [.ref h0, .ref p0, .ref t0]) (ws := [(oX4 h0 q0 q1 mo), (aI g q0 24 f), (aI g q1 6 sh), (oX6 p0 p1 p2 p3 p4 (nI w)), (aI g p1 24 sd), (aI g p3 6 st), (oX5 t0 t1 t2 pw), (aI g t1 6 pd), (aI g t2 36 wb)]) (cc := cX4_shoot) (maxL := 9) (ret := none) (fun A => va_Qv (fun (u : (Nat → Int32) × (Nat → Int32)) => u.1 = upd (rSh T st (pd 4) (wb it) q2 w f sh (nSh w ck)).1 7 ((rSh T st (pd 4) (wb it) q2 w f sh (nSh w ck)).1 7 + rMiss (wb it) (rSh T st (pd 4) (wb it) q2 w f sh (nSh w ck)).2.2) ∧ u.2 = (rSh T st (pd 4) (wb it) q2 w f sh (nSh w ck)).2.1) (fun u t => he_post g A ((fun (u : (Nat → Int32) × (Nat → Int32)) => [(oX4 h0 q0 q1 mo), (aI g q0 24 u.1), (aI g q1 6 u.2), (oX6 p0 p1 p2 p3 p4 (nI w)), (aI g p1 24 sd), (aI g p3 6 st), (oX5 t0 t1 t2 pw), (aI g t1 6 pd), (aI g t2 36 wb)]) u) t) A) (by decide) rfl (Nat.le_of_ble_eq_true rfl) ?_
  intro p e s m args below meth c A ls H locs Q hQ hB
  obtain ⟨hx, hb, hr, hml, hown, hts, hlk, hin, hP, hK, hD, hS, hA, hE, hl⟩ := hB
  have hl : lv_has ls 9 [(0, .ref h0), (1, .ref p0), (2, .ref t0)] := hl
  have f18 := hts (.fieldLink RX4 18 "HiredEnemy$Course" "month" "I") (iwoX4_shoot (k := 0) rfl)
  have inX4 : ∀ w ∈ wsX40, w ∈ wsX4_shoot := innX4_shoot_X4
  have f9 := hts (.fieldLink RX4 9 "HiredEnemy$Course" "now" "[I") (iwoX4_shoot (k := 1) rfl)
  have f33 := hts (.fieldLink RX4 33 "HiredEnemy$Plan" "walls" "I") (iwoX4_shoot (k := 2) rfl)
  have inX6 : ∀ w ∈ wsX60, w ∈ wsX4_shoot := innX4_shoot_X6
  have f15 := hts (.fieldLink RX4 15 "HiredEnemy$Course" "shot" "[I") (iwoX4_shoot (k := 4) rfl)
  have f57 := hts (.fieldLink RX4 57 "HiredEnemy$Pact" "said" "[I") (iwoX4_shoot (k := 3) rfl)
  have inX5 : ∀ w ∈ wsX50, w ∈ wsX4_shoot := innX4_shoot_X5
  refine lv_aload_n hx hb dX4_shoot_0 rfl (lv_at hl 2 rfl) ?_
  refine lv_aload_n hx hb dX4_shoot_1 rfl (lv_at hl 0 rfl) ?_
  refine va_get (v := .int mo) (T := TX4) (N := 3) hx hb hts inX4 hown hK hP 0 rfl rfl 2 (by decide) f18 (fun _ h9 => h9) rfl dX4_shoot_2 ?_
  refine lv_aload_n hx hb dX4_shoot_5 rfl (lv_at hl 0 rfl) ?_
  refine va_get (v := .ref q0) (T := TX4) (N := 3) hx hb hts inX4 hown hK hP 0 rfl rfl 0 (by decide) f9 (fun _ h9 => h9) rfl dX4_shoot_6 ?_
  refine lv_bipush (v := 11) hx hb dX4_shoot_9 (by decide) ?_
  refine he_iald hx hb hK hP 1 rfl (11) (by decide) (by decide) (by first | decide | assumption) (f 11) rfl dX4_shoot_11 ?_
  refine lv_isub hx hb dX4_shoot_12 ?_
  refine lv_aload_n hx hb dX4_shoot_13 rfl (lv_at hl 1 rfl) ?_
  refine va_get (v := .int (nI w)) (T := TX6) (N := 5) hx hb hts inX6 hown hK hP 3 rfl rfl 4 (by decide) f33 (fun _ h9 => h9) rfl dX4_shoot_14 ?_
  refine he_ci (wc := [(oX5 t0 t1 t2 pw), (aI g t2 36 wb)]) (wr := [(oX4 h0 q0 q1 mo), (aI g q0 24 f), (aI g q1 6 sh), (oX6 p0 p1 p2 p3 p4 (nI w)), (aI g p1 24 sd), (aI g p3 6 st), (aI g t1 6 pd)]) (va_runV (As := [.int (mo - (f 11)), .int (nI w)]) (rest := []) ⟨hx, hb, hml, hown, hts⟩ (c_X5_wallDue l g t0 t1 t2 pw wb (mo - (f 11)) (nI w) H.size) (cwV 2 hts gX4_shoot_X5_wallDue rfl rfl rfl (by decide +kernel) ⟨Nat.le_of_ble_eq_true rfl, Nat.le_of_ble_eq_true rfl⟩) (he_preV (wc := [(oX5 t0 t1 t2 pw), (aI g t2 36 wb)]) hK hP hD hS hA hE [6, 8] rfl rfl 6 rfl rfl) rfl rfl hl.1 rfl (lv_room (Nat.le_of_ble_eq_true rfl)) dX4_shoot_17 ⟨(Nat.le_of_ble_eq_true rfl), (Nat.le_of_ble_eq_true rfl)⟩) hP hD hS hA [6, 8] [0, 1, 2, 3, 4, 5, 7] rfl rfl rfl (by decide) (fun r_1 u_2 H locs h_3 hP hD hS => ?_)
  subst h_3
  have hP : va_P g.1 vwCl [(oX4 h0 q0 q1 mo), (aI g q0 24 f), (aI g q1 6 sh), (oX6 p0 p1 p2 p3 p4 (nI w)), (aI g p1 24 sd), (aI g p3 6 st), (aI g t1 6 pd), (oX5 t0 t1 t2 pw), (aI g t2 36 wb)] H := hP
  have hD : va_D A [(oX4 h0 q0 q1 mo), (aI g q0 24 f), (aI g q1 6 sh), (oX6 p0 p1 p2 p3 p4 (nI w)), (aI g p1 24 sd), (aI g p3 6 st), (aI g t1 6 pd), (oX5 t0 t1 t2 pw), (aI g t2 36 wb)] := hD
  have hbw9 := hbw
  rcases hbw9 with hdu | ⟨dk, hdk, hdu⟩
  · refine he_top ((-1)) (by rw [hmo, wd_eq hit36 hw6 (Or.inl hdu)]; exact hdu) ?_
    refine lv_istore_n (lv' := [(3, .int (-1)), (0, .ref h0), (1, .ref p0), (2, .ref t0)]) hx hb dX4_shoot_20 rfl hl (by decide) rfl (fun ls hl => ?_)
    have join77 : ∀ (fb : Int32) (c9 : Nat) (cl : Int32), (c9 ≤ 99) → (c9 = 0 ∨ 0 < w) → (c9 = nSh w ck) → (cl = if q2 ≤ 4 then 1 else 0) → ∀ (H : Heap) (locs : List Loc) (ls : Array Slot), va_P g.1 vwCl [(oX4 h0 q0 q1 mo), (aI g q0 24 f), (aI g q1 6 sh), (oX6 p0 p1 p2 p3 p4 (nI w)), (aI g p1 24 sd), (aI g p3 6 st), (aI g t1 6 pd), (oX5 t0 t1 t2 pw), (aI g t2 36 wb)] H → va_D A [(oX4 h0 q0 q1 mo), (aI g q0 24 f), (aI g q1 6 sh), (oX6 p0 p1 p2 p3 p4 (nI w)), (aI g p1 24 sd), (aI g p3 6 st), (aI g t1 6 pd), (oX5 t0 t1 t2 pw), (aI g t2 36 wb)] → va_S A s.heap H locs → lv_has ls 9 [(0, .ref h0), (1, .ref p0), (2, .ref t0), (3, .int (-1)), (4, .int fb), (5, .int (nI c9)), (6, .int cl)] → W p l e (he_room 3 60 0 0) s m args below meth c H locs 0 0 Q (F0 m 77 ls []) := by
      intro fb c9 cl hc9 hcw hc9e hcl H locs ls hP hD hS hl
      refine lv_iconst (v := (-1)) hx hb dX4_shoot_77 (by decide) ?_
      refine lv_istore (lv' := [(7, .int (-1)), (0, .ref h0), (1, .ref p0), (2, .ref t0), (3, .int (-1)), (4, .int fb), (5, .int (nI c9)), (6, .int cl)]) hx hb dX4_shoot_78 hl (by decide) rfl (fun ls hl => ?_)
      refine lv_iconst (v := 1) hx hb dX4_shoot_80 (by decide) ?_
      refine lv_istore (lv' := [(8, .int 1), (7, .int (-1)), (0, .ref h0), (1, .ref p0), (2, .ref t0), (3, .int (-1)), (4, .int fb), (5, .int (nI c9)), (6, .int cl)]) hx hb dX4_shoot_81 hl (by decide) rfl (fun ls hl => ?_)
      have loop83 : ∀ (n9 : Nat) (n : Nat) (t : Int32) (F : Nat → Int32) (G : Nat → Int32), c9 + 1 - n < n9 → (n ≤ c9) → (shR T st (pd 4) (wb it) q2 w f sh n t F G) → ∀ (H : Heap) (locs : List Loc) (ls : Array Slot), va_P g.1 vwCl [(oX4 h0 q0 q1 mo), (aI g q0 24 F), (aI g q1 6 G), (oX6 p0 p1 p2 p3 p4 (nI w)), (aI g p1 24 sd), (aI g p3 6 st), (oX5 t0 t1 t2 pw), (aI g t1 6 pd), (aI g t2 36 wb)] H → va_D A [(oX4 h0 q0 q1 mo), (aI g q0 24 F), (aI g q1 6 G), (oX6 p0 p1 p2 p3 p4 (nI w)), (aI g p1 24 sd), (aI g p3 6 st), (oX5 t0 t1 t2 pw), (aI g t1 6 pd), (aI g t2 36 wb)] → va_S A s.heap H locs → lv_has ls 9 [(0, .ref h0), (1, .ref p0), (2, .ref t0), (3, .int (-1)), (4, .int fb), (5, .int (nI c9)), (6, .int cl), (7, .int t), (8, .int (nI (n + 1)))] → W p l e (he_room 3 60 0 0) s m args below meth c H locs 0 0 Q (F0 m 83 ls []) := by
        intro n9
        induction n9 with
        | zero => intro n t F G hm9; exact absurd hm9 (Nat.not_lt_zero _)
        | succ n9 ih83 =>
          intro n t F G hm9 hn hR H locs ls hP hD hS hl
          refine lv_iload hx hb dX4_shoot_83 (lv_at hl 8 rfl) ?_
          refine lv_iload hx hb dX4_shoot_85 (lv_at hl 5 rfl) ?_
          refine lv_icmp_gt (tgt := 197) hx hb dX4_shoot_87 (by decide) (fun c_4 => ?_) (fun c_4 => ?_)
          · have k_5 : c9 < n + 1 := (he_clt (a := c9) (b := n + 1) rfl rfl (by omega) (by omega)).mp c_4
            have hnn : n = nSh w ck := by omega
            refine lv_iload_n hx hb dX4_shoot_197 rfl (lv_at hl 3 rfl) ?_
            refine lv_iconst (v := (-1)) hx hb dX4_shoot_198 (by decide) ?_
            refine lv_icmp_eq (tgt := 227) hx hb dX4_shoot_199 (by decide) (fun c_6 => ?_) (fun c_6 => ?_)
            · exact he_rv hQ hx hb hr hlk hP hD hS dX4_shoot_227 (Nat.le_of_ble_eq_true rfl) (Nat.le_of_ble_eq_true rfl) ((F, G)) (rfl) (⟨by dsimp only; rw [← hnn]; exact shR_e0 hdu hR, by dsimp only; rw [← hnn]; exact hR.2.1⟩)
            · exact absurd (by decide) c_6
          · have k_7 : ¬ (c9 < n + 1) := fun h9 => c_4 ((he_clt (a := c9) (b := n + 1) rfl rfl (by omega) (by omega)).mpr h9)
            have hw0 : 0 < w := hcw.resolve_left (by omega)
            have join115 : ∀ (k : Nat), (k < 6) → (k = aimK (wb it) F w) → ∀ (H : Heap) (locs : List Loc) (ls : Array Slot), va_P g.1 vwCl [(oX4 h0 q0 q1 mo), (aI g q0 24 F), (aI g q1 6 G), (oX6 p0 p1 p2 p3 p4 (nI w)), (aI g p1 24 sd), (aI g p3 6 st), (oX5 t0 t1 t2 pw), (aI g t1 6 pd), (aI g t2 36 wb)] H → va_D A [(oX4 h0 q0 q1 mo), (aI g q0 24 F), (aI g q1 6 G), (oX6 p0 p1 p2 p3 p4 (nI w)), (aI g p1 24 sd), (aI g p3 6 st), (oX5 t0 t1 t2 pw), (aI g t1 6 pd), (aI g t2 36 wb)] → va_S A s.heap H locs → lv_has ls 9 [(0, .ref h0), (1, .ref p0), (2, .ref t0), (3, .int (-1)), (4, .int fb), (5, .int (nI c9)), (6, .int cl), (7, .int (nI k)), (8, .int (nI (n + 1)))] → W p l e (he_room 3 60 0 0) s m args below meth c H locs 0 0 Q (F0 m 115 ls []) := by
              intro k hk hka H locs ls hP hD hS hl
              refine lv_aload_n hx hb dX4_shoot_115 rfl (lv_at hl 0 rfl) ?_
              refine va_get (v := .ref q1) (T := TX4) (N := 3) hx hb hts inX4 hown hK hP 0 rfl rfl 1 (by decide) f15 (fun _ h9 => h9) rfl dX4_shoot_116 ?_
              refine lv_iload hx hb dX4_shoot_119 (lv_at hl 7 rfl) ?_
              refine lv_dup2_11 hx hb dX4_shoot_121 rfl rfl ?_
              refine he_iald hx hb hK hP 2 rfl (k) rfl (by first | assumption | decide | omega) (by first | decide | assumption) (G k) rfl dX4_shoot_122 ?_
              refine lv_iconst (v := 1) hx hb dX4_shoot_123 (by decide) ?_
              refine lv_iadd hx hb dX4_shoot_124 ?_
              refine he_iast hx hb hK hP hD hS 2 rfl (k) rfl (by first | assumption | decide | omega) (by first | decide | assumption) dX4_shoot_125 (fun H locs hP hD hS => ?_)
              have hP : va_P g.1 vwCl [(oX4 h0 q0 q1 mo), (aI g q0 24 F), (aI g q1 6 (upd G k ((G k) + 1))), (oX6 p0 p1 p2 p3 p4 (nI w)), (aI g p1 24 sd), (aI g p3 6 st), (oX5 t0 t1 t2 pw), (aI g t1 6 pd), (aI g t2 36 wb)] H := hP
              have hD : va_D A [(oX4 h0 q0 q1 mo), (aI g q0 24 F), (aI g q1 6 (upd G k ((G k) + 1))), (oX6 p0 p1 p2 p3 p4 (nI w)), (aI g p1 24 sd), (aI g p3 6 st), (oX5 t0 t1 t2 pw), (aI g t1 6 pd), (aI g t2 36 wb)] := hD
              refine lv_aload_n hx hb dX4_shoot_126 rfl (lv_at hl 0 rfl) ?_
              refine va_get (v := .ref q0) (T := TX4) (N := 3) hx hb hts inX4 hown hK hP 0 rfl rfl 0 (by decide) f9 (fun _ h9 => h9) rfl dX4_shoot_127 ?_
              refine lv_bipush (v := 9) hx hb dX4_shoot_130 (by decide) ?_
              refine lv_dup2_11 hx hb dX4_shoot_132 rfl rfl ?_
              refine he_iald hx hb hK hP 1 rfl (9) (by decide) (by decide) (by first | decide | assumption) (F 9) rfl dX4_shoot_133 ?_
              refine lv_iconst (v := 1) hx hb dX4_shoot_134 (by decide) ?_
              refine lv_iadd hx hb dX4_shoot_135 ?_
              refine he_iast hx hb hK hP hD hS 1 rfl (9) (by decide) (by decide) (by first | decide | assumption) dX4_shoot_136 (fun H locs hP hD hS => ?_)
              have hP : va_P g.1 vwCl [(oX4 h0 q0 q1 mo), (aI g q0 24 (upd F 9 ((F 9) + 1))), (aI g q1 6 (upd G k ((G k) + 1))), (oX6 p0 p1 p2 p3 p4 (nI w)), (aI g p1 24 sd), (aI g p3 6 st), (oX5 t0 t1 t2 pw), (aI g t1 6 pd), (aI g t2 36 wb)] H := hP
              have hD : va_D A [(oX4 h0 q0 q1 mo), (aI g q0 24 (upd F 9 ((F 9) + 1))), (aI g q1 6 (upd G k ((G k) + 1))), (oX6 p0 p1 p2 p3 p4 (nI w)), (aI g p1 24 sd), (aI g p3 6 st), (oX5 t0 t1 t2 pw), (aI g t1 6 pd), (aI g t2 36 wb)] := hD
              refine lv_aload_n hx hb dX4_shoot_137 rfl (lv_at hl 0 rfl) ?_
              refine va_get (v := .ref q0) (T := TX4) (N := 3) hx hb hts inX4 hown hK hP 0 rfl rfl 0 (by decide) f9 (fun _ h9 => h9) rfl dX4_shoot_138 ?_
              refine lv_bipush (v := 12) hx hb dX4_shoot_141 (by decide) ?_
              refine lv_iload hx hb dX4_shoot_143 (lv_at hl 7 rfl) ?_
              refine lv_iadd hx hb dX4_shoot_145 ?_
              refine he_top (nI (12 + k)) (nI_add 12 k) ?_
              refine lv_dup2_11 hx hb dX4_shoot_146 rfl rfl ?_
              refine he_iald hx hb hK hP 1 rfl (12 + k) rfl (by first | assumption | decide | omega) (by first | decide | assumption) ((upd F 9 ((F 9) + 1)) (12 + k)) rfl dX4_shoot_147 ?_
              have join165 : ∀ (dm : Int32), (dm = dmI q2 (n + 1)) → ∀ (H : Heap) (locs : List Loc) (ls : Array Slot), va_P g.1 vwCl [(oX4 h0 q0 q1 mo), (aI g q0 24 (upd F 9 ((F 9) + 1))), (aI g q1 6 (upd G k ((G k) + 1))), (oX6 p0 p1 p2 p3 p4 (nI w)), (aI g p1 24 sd), (aI g p3 6 st), (oX5 t0 t1 t2 pw), (aI g t1 6 pd), (aI g t2 36 wb)] H → va_D A [(oX4 h0 q0 q1 mo), (aI g q0 24 (upd F 9 ((F 9) + 1))), (aI g q1 6 (upd G k ((G k) + 1))), (oX6 p0 p1 p2 p3 p4 (nI w)), (aI g p1 24 sd), (aI g p3 6 st), (oX5 t0 t1 t2 pw), (aI g t1 6 pd), (aI g t2 36 wb)] → va_S A s.heap H locs → lv_has ls 9 [(0, .ref h0), (1, .ref p0), (2, .ref t0), (3, .int (-1)), (4, .int fb), (5, .int (nI c9)), (6, .int cl), (7, .int (nI k)), (8, .int (nI (n + 1)))] → W p l e (he_room 3 60 0 0) s m args below meth c H locs 0 0 Q (F0 m 165 ls [.int dm, .int ((upd F 9 ((F 9) + 1)) (12 + k)), .int (nI (12 + k)), .ref q0]) := by
                intro dm hdm H locs ls hP hD hS hl
                subst hdm
                refine lv_isub hx hb dX4_shoot_165 ?_
                refine he_iast hx hb hK hP hD hS 1 rfl (12 + k) rfl (by first | assumption | decide | omega) (by first | decide | assumption) dX4_shoot_166 (fun H locs hP hD hS => ?_)
                have hP : va_P g.1 vwCl [(oX4 h0 q0 q1 mo), (aI g q0 24 (upd (upd F 9 ((F 9) + 1)) (12 + k) (((upd F 9 ((F 9) + 1)) (12 + k)) - (dmI q2 (n + 1))))), (aI g q1 6 (upd G k ((G k) + 1))), (oX6 p0 p1 p2 p3 p4 (nI w)), (aI g p1 24 sd), (aI g p3 6 st), (oX5 t0 t1 t2 pw), (aI g t1 6 pd), (aI g t2 36 wb)] H := hP
                have hD : va_D A [(oX4 h0 q0 q1 mo), (aI g q0 24 (upd (upd F 9 ((F 9) + 1)) (12 + k) (((upd F 9 ((F 9) + 1)) (12 + k)) - (dmI q2 (n + 1))))), (aI g q1 6 (upd G k ((G k) + 1))), (oX6 p0 p1 p2 p3 p4 (nI w)), (aI g p1 24 sd), (aI g p3 6 st), (oX5 t0 t1 t2 pw), (aI g t1 6 pd), (aI g t2 36 wb)] := hD
                refine lv_aload_n hx hb dX4_shoot_167 rfl (lv_at hl 0 rfl) ?_
                refine va_get (v := .ref q0) (T := TX4) (N := 3) hx hb hts inX4 hown hK hP 0 rfl rfl 0 (by decide) f9 (fun _ h9 => h9) rfl dX4_shoot_168 ?_
                refine lv_bipush (v := 12) hx hb dX4_shoot_171 (by decide) ?_
                refine lv_iload hx hb dX4_shoot_173 (lv_at hl 7 rfl) ?_
                refine lv_iadd hx hb dX4_shoot_175 ?_
                refine he_top (nI (12 + k)) (nI_add 12 k) ?_
                refine he_iald hx hb hK hP 1 rfl (12 + k) rfl (by first | assumption | decide | omega) (by first | decide | assumption) ((upd (upd F 9 ((F 9) + 1)) (12 + k) (((upd F 9 ((F 9) + 1)) (12 + k)) - (dmI q2 (n + 1)))) (12 + k)) rfl dX4_shoot_176 ?_
                refine lv_if_gt (tgt := 191) hx hb dX4_shoot_177 (by decide) (fun c_8 => ?_) (fun c_8 => ?_)
                · refine lv_iinc (v := nI (n + 1 + 1)) (lv' := [(8, .int (nI (n + 1 + 1))), (0, .ref h0), (1, .ref p0), (2, .ref t0), (3, .int (-1)), (4, .int fb), (5, .int (nI c9)), (6, .int cl), (7, .int (nI k))]) hx hb dX4_shoot_191 hl (k := 8) rfl (nI_1 (n + 1)) (by decide) rfl (fun ls hl => ?_)
                  refine lv_goto (tgt := 83) hx hb dX4_shoot_194 (by decide) ?_
                  have hP : va_P g.1 vwCl [(oX4 h0 q0 q1 mo), (aI g q0 24 (hitF F k (dmI q2 (n + 1)))), (aI g q1 6 (upd G k (G k + 1))), (oX6 p0 p1 p2 p3 p4 (nI w)), (aI g p1 24 sd), (aI g p3 6 st), (oX5 t0 t1 t2 pw), (aI g t1 6 pd), (aI g t2 36 wb)] H := by skip; exact hP
                  have hD : va_D A [(oX4 h0 q0 q1 mo), (aI g q0 24 (hitF F k (dmI q2 (n + 1)))), (aI g q1 6 (upd G k (G k + 1))), (oX6 p0 p1 p2 p3 p4 (nI w)), (aI g p1 24 sd), (aI g p3 6 st), (oX5 t0 t1 t2 pw), (aI g t1 6 pd), (aI g t2 36 wb)] := by skip; exact hD
                  exact ih83 (n + 1) (nI k) (hitF F k (dmI q2 (n + 1))) (upd G k (G k + 1)) (by omega) (by omega) (shR_s hw0 hw6 hbw hR hka c_8) _ _ _ hP hD hS (lv_sub hl [1, 2, 3, 4, 5, 6, 7, 8, 0] rfl)
                · refine lv_aload_n hx hb dX4_shoot_180 rfl (lv_at hl 0 rfl) ?_
                  refine lv_aload_n hx hb dX4_shoot_181 rfl (lv_at hl 1 rfl) ?_
                  refine lv_aload_n hx hb dX4_shoot_182 rfl (lv_at hl 2 rfl) ?_
                  refine lv_iload hx hb dX4_shoot_183 (lv_at hl 7 rfl) ?_
                  refine he_cv (wc := [(oX4 h0 q0 q1 mo), (aI g q0 24 (upd (upd F 9 ((F 9) + 1)) (12 + k) (((upd F 9 ((F 9) + 1)) (12 + k)) - (dmI q2 (n + 1))))), (oX6 p0 p1 p2 p3 p4 (nI w)), (aI g p1 24 sd), (aI g p3 6 st), (oX5 t0 t1 t2 pw), (aI g t1 6 pd)]) (wr := [(aI g q1 6 (upd G k ((G k) + 1))), (aI g t2 36 wb)]) (va_runV (As := [.ref p0, .ref t0, .int (nI k)]) (rest := []) ⟨hx, hb, hml, hown, hts⟩ (s_X4_breach l g h0 q0 q1 mo (upd (upd F 9 ((F 9) + 1)) (12 + k) (((upd F 9 ((F 9) + 1)) (12 + k)) - (dmI q2 (n + 1)))) p0 p1 p2 p3 p4 (nI w) sd st t0 t1 t2 pw pd k (by first | assumption | decide | omega) H.size) (cwV 3 hts gX4_shoot_X4_breach rfl rfl rfl (by decide +kernel) ⟨Nat.le_of_ble_eq_true rfl, Nat.le_of_ble_eq_true rfl⟩) (he_preV (wc := [(oX4 h0 q0 q1 mo), (aI g q0 24 (upd (upd F 9 ((F 9) + 1)) (12 + k) (((upd F 9 ((F 9) + 1)) (12 + k)) - (dmI q2 (n + 1))))), (oX6 p0 p1 p2 p3 p4 (nI w)), (aI g p1 24 sd), (aI g p3 6 st), (oX5 t0 t1 t2 pw), (aI g t1 6 pd)]) hK hP hD hS hA hE [0, 1, 3, 4, 5, 6, 7] rfl rfl 0 rfl rfl) rfl rfl hl.1 rfl (lv_room (Nat.le_of_ble_eq_true rfl)) dX4_shoot_185 ⟨(Nat.le_of_ble_eq_true rfl), (Nat.le_of_ble_eq_true rfl)⟩) hP hD hS hA [0, 1, 3, 4, 5, 6, 7] [2, 8] rfl rfl rfl (by decide) (fun u_10 H locs h_11 hP hD hS => ?_)
                  have hP : va_P g.1 vwCl [(aI g q1 6 (upd G k ((G k) + 1))), (aI g t2 36 wb), (oX4 h0 q0 q1 mo), (aI g q0 24 (mvF (frF (upd (upd (upd (upd (upd F 9 ((F 9) + 1)) (12 + k) (((upd F 9 ((F 9) + 1)) (12 + k)) - (dmI q2 (n + 1)))) 6 ((upd (upd F 9 ((F 9) + 1)) (12 + k) (((upd F 9 ((F 9) + 1)) (12 + k)) - (dmI q2 (n + 1)))) 6 + 1)) (18 + k) (upd (upd (upd F 9 ((F 9) + 1)) (12 + k) (((upd F 9 ((F 9) + 1)) (12 + k)) - (dmI q2 (n + 1)))) 6 ((upd (upd F 9 ((F 9) + 1)) (12 + k) (((upd F 9 ((F 9) + 1)) (12 + k)) - (dmI q2 (n + 1)))) 6 + 1) (18 + k) + 1)) (12 + k) (st k)) (sd 13)) 0 1 (pd 4))), (oX6 p0 p1 p2 p3 p4 (nI w)), (aI g p1 24 sd), (aI g p3 6 st), (oX5 t0 t1 t2 pw), (aI g t1 6 pd)] H := hP
                  have hD : va_D A [(aI g q1 6 (upd G k ((G k) + 1))), (aI g t2 36 wb), (oX4 h0 q0 q1 mo), (aI g q0 24 (mvF (frF (upd (upd (upd (upd (upd F 9 ((F 9) + 1)) (12 + k) (((upd F 9 ((F 9) + 1)) (12 + k)) - (dmI q2 (n + 1)))) 6 ((upd (upd F 9 ((F 9) + 1)) (12 + k) (((upd F 9 ((F 9) + 1)) (12 + k)) - (dmI q2 (n + 1)))) 6 + 1)) (18 + k) (upd (upd (upd F 9 ((F 9) + 1)) (12 + k) (((upd F 9 ((F 9) + 1)) (12 + k)) - (dmI q2 (n + 1)))) 6 ((upd (upd F 9 ((F 9) + 1)) (12 + k) (((upd F 9 ((F 9) + 1)) (12 + k)) - (dmI q2 (n + 1)))) 6 + 1) (18 + k) + 1)) (12 + k) (st k)) (sd 13)) 0 1 (pd 4))), (oX6 p0 p1 p2 p3 p4 (nI w)), (aI g p1 24 sd), (aI g p3 6 st), (oX5 t0 t1 t2 pw), (aI g t1 6 pd)] := hD
                  refine lv_iconst (v := (-1)) hx hb dX4_shoot_188 (by decide) ?_
                  refine lv_istore (lv' := [(7, .int (-1)), (0, .ref h0), (1, .ref p0), (2, .ref t0), (3, .int (-1)), (4, .int fb), (5, .int (nI c9)), (6, .int cl), (8, .int (nI (n + 1)))]) hx hb dX4_shoot_189 hl (by decide) rfl (fun ls hl => ?_)
                  refine lv_iinc (v := nI (n + 1 + 1)) (lv' := [(8, .int (nI (n + 1 + 1))), (7, .int (-1)), (0, .ref h0), (1, .ref p0), (2, .ref t0), (3, .int (-1)), (4, .int fb), (5, .int (nI c9)), (6, .int cl)]) hx hb dX4_shoot_191 hl (k := 8) rfl (nI_1 (n + 1)) (by decide) rfl (fun ls hl => ?_)
                  refine lv_goto (tgt := 83) hx hb dX4_shoot_194 (by decide) ?_
                  have hP : va_P g.1 vwCl [(aI g q1 6 (upd G k (G k + 1))), (aI g t2 36 wb), (oX4 h0 q0 q1 mo), (aI g q0 24 (rBr T st (pd 4) (hitF F k (dmI q2 (n + 1))) k)), (oX6 p0 p1 p2 p3 p4 (nI w)), (aI g p1 24 sd), (aI g p3 6 st), (oX5 t0 t1 t2 pw), (aI g t1 6 pd)] H := by rw [← br_eq sd st T (pd 4) (hitF F k (dmI q2 (n + 1))) k hk hT10]; exact hP
                  have hD : va_D A [(aI g q1 6 (upd G k (G k + 1))), (aI g t2 36 wb), (oX4 h0 q0 q1 mo), (aI g q0 24 (rBr T st (pd 4) (hitF F k (dmI q2 (n + 1))) k)), (oX6 p0 p1 p2 p3 p4 (nI w)), (aI g p1 24 sd), (aI g p3 6 st), (oX5 t0 t1 t2 pw), (aI g t1 6 pd)] := by rw [← br_eq sd st T (pd 4) (hitF F k (dmI q2 (n + 1))) k hk hT10]; exact hD
                  exact ih83 (n + 1) (-1) (rBr T st (pd 4) (hitF F k (dmI q2 (n + 1))) k) (upd G k (G k + 1)) (by omega) (by omega) (shR_b hw0 hw6 hbw hst (by omega) hR hka c_8) _ _ _ (hP.sub [2, 3, 0, 4, 5, 6, 7, 8, 1] rfl) (hD.sub [2, 3, 0, 4, 5, 6, 7, 8, 1] (by decide) rfl) hS (lv_sub hl [2, 3, 4, 5, 6, 7, 8, 1, 0] rfl)
              refine lv_iload hx hb dX4_shoot_148 (lv_at hl 6 rfl) ?_
              refine lv_if_eq (tgt := 164) hx hb dX4_shoot_150 (by decide) (fun c_12 => ?_) (fun c_12 => ?_)
              · refine lv_iconst (v := 1) hx hb dX4_shoot_164 (by decide) ?_
                exact join165 1 (dm_a hcl c_12) _ _ _ hP hD hS (lv_sub hl [0, 1, 2, 3, 4, 5, 6, 7, 8] rfl)
              · refine lv_iload hx hb dX4_shoot_153 (lv_at hl 8 rfl) ?_
                refine lv_iconst (v := 2) hx hb dX4_shoot_155 (by decide) ?_
                refine lv_irem hx hb dX4_shoot_156 (by decide) ?_
                refine lv_if_ne (tgt := 164) hx hb dX4_shoot_157 (by decide) (fun c_13 => ?_) (fun c_13 => ?_)
                · refine lv_iconst (v := 1) hx hb dX4_shoot_164 (by decide) ?_
                  exact join165 1 (dm_b (by omega) c_13) _ _ _ hP hD hS (lv_sub hl [0, 1, 2, 3, 4, 5, 6, 7, 8] rfl)
                · refine lv_iconst (v := 2) hx hb dX4_shoot_160 (by decide) ?_
                  refine lv_goto (tgt := 165) hx hb dX4_shoot_161 (by decide) ?_
                  exact join165 2 (dm_c hcl c_12 (by omega) c_13) _ _ _ hP hD hS (lv_sub hl [0, 1, 2, 3, 4, 5, 6, 7, 8] rfl)
            refine lv_iload hx hb dX4_shoot_90 (lv_at hl 7 rfl) ?_
            refine lv_iconst (v := (-1)) hx hb dX4_shoot_92 (by decide) ?_
            refine lv_icmp_ne (tgt := 115) hx hb dX4_shoot_93 (by decide) (fun c_14 => ?_) (fun c_14 => ?_)
            · obtain ⟨k, hk, rfl, hka⟩ := hR.2.2.1.resolve_left c_14
              exact join115 k hk hka _ _ _ hP hD hS (lv_sub hl [0, 1, 2, 3, 4, 5, 6, 7, 8] rfl)
            · refine lv_iload_n hx hb dX4_shoot_96 rfl (lv_at hl 3 rfl) ?_
              refine lv_iconst (v := (-1)) hx hb dX4_shoot_97 (by decide) ?_
              refine lv_icmp_ne (tgt := 112) hx hb dX4_shoot_98 (by decide) (fun c_15 => ?_) (fun c_15 => ?_)
              · exact absurd (by decide) c_15
              · refine lv_aload_n hx hb dX4_shoot_101 rfl (lv_at hl 0 rfl) ?_
                refine lv_aload_n hx hb dX4_shoot_102 rfl (lv_at hl 1 rfl) ?_
                refine va_get (v := .int (nI w)) (T := TX6) (N := 5) hx hb hts inX6 hown hK hP 3 rfl rfl 4 (by decide) f33 (fun _ h9 => h9) rfl dX4_shoot_103 ?_
                refine he_ci (wc := [(oX4 h0 q0 q1 mo), (aI g q0 24 F)]) (wr := [(aI g q1 6 G), (oX6 p0 p1 p2 p3 p4 (nI w)), (aI g p1 24 sd), (aI g p3 6 st), (oX5 t0 t1 t2 pw), (aI g t1 6 pd), (aI g t2 36 wb)]) (va_runV (As := [.int (nI w)]) (rest := []) ⟨hx, hb, hml, hown, hts⟩ (s_X4_weakest l g h0 q0 q1 mo F w (by first | assumption | decide | omega) (by first | assumption | decide | omega) H.size) (cwV 1 hts gX4_shoot_X4_weakest rfl rfl rfl (by decide +kernel) ⟨Nat.le_of_ble_eq_true rfl, Nat.le_of_ble_eq_true rfl⟩) (he_preV (wc := [(oX4 h0 q0 q1 mo), (aI g q0 24 F)]) hK hP hD hS hA hE [0, 1] rfl rfl 0 rfl rfl) rfl rfl hl.1 rfl (lv_room (Nat.le_of_ble_eq_true rfl)) dX4_shoot_106 ⟨(Nat.le_of_ble_eq_true rfl), (Nat.le_of_ble_eq_true rfl)⟩) hP hD hS hA [0, 1] [2, 3, 4, 5, 6, 7, 8] rfl rfl rfl (by decide) (fun r_16 u_17 H locs h_18 hP hD hS => ?_)
                subst h_18
                have hP : va_P g.1 vwCl [(aI g q1 6 G), (oX6 p0 p1 p2 p3 p4 (nI w)), (aI g p1 24 sd), (aI g p3 6 st), (oX5 t0 t1 t2 pw), (aI g t1 6 pd), (aI g t2 36 wb), (oX4 h0 q0 q1 mo), (aI g q0 24 F)] H := hP
                have hD : va_D A [(aI g q1 6 G), (oX6 p0 p1 p2 p3 p4 (nI w)), (aI g p1 24 sd), (aI g p3 6 st), (oX5 t0 t1 t2 pw), (aI g t1 6 pd), (aI g t2 36 wb), (oX4 h0 q0 q1 mo), (aI g q0 24 F)] := hD
                refine lv_goto (tgt := 113) hx hb dX4_shoot_109 (by decide) ?_
                refine lv_istore (lv' := [(7, .int (nI (wkI F (w - 1)))), (0, .ref h0), (1, .ref p0), (2, .ref t0), (3, .int (-1)), (4, .int fb), (5, .int (nI c9)), (6, .int cl), (8, .int (nI (n + 1)))]) hx hb dX4_shoot_113 hl (by decide) rfl (fun ls hl => ?_)
                exact join115 (wkI F (w - 1)) (by have := wkI_le F (w - 1); omega) (by unfold aimK; rw [if_pos hdu]) _ _ _ (hP.sub [7, 8, 0, 1, 2, 3, 4, 5, 6] rfl) (hD.sub [7, 8, 0, 1, 2, 3, 4, 5, 6] (by decide) rfl) hS (lv_sub hl [1, 2, 3, 4, 5, 6, 7, 0, 8] rfl)
      exact loop83 ((c9 + 1 - 0) + 1) 0 (-1) f sh (Nat.lt_succ_self _) (Nat.zero_le _) (shR_0 hBd) _ _ _ (hP.sub [0, 1, 2, 3, 4, 5, 7, 6, 8] rfl) (hD.sub [0, 1, 2, 3, 4, 5, 7, 6, 8] (by decide) rfl) hS (lv_sub hl [2, 3, 4, 5, 6, 7, 8, 1, 0] rfl)
    refine lv_iload_n hx hb dX4_shoot_21 rfl (lv_at hl 0 rfl) ?_
    refine lv_iconst (v := (-1)) hx hb dX4_shoot_22 (by decide) ?_
    refine lv_icmp_ne (tgt := 30) hx hb dX4_shoot_23 (by decide) (fun c_19 => ?_) (fun c_19 => ?_)
    · exact absurd (by decide) c_19
    · refine lv_iconst (v := 0) hx hb dX4_shoot_26 (by decide) ?_
      refine lv_goto (tgt := 39) hx hb dX4_shoot_27 (by decide) ?_
      refine lv_istore (lv' := [(4, .int 0), (3, .int (-1)), (0, .ref h0), (1, .ref p0), (2, .ref t0)]) hx hb dX4_shoot_39 hl (by decide) rfl (fun ls hl => ?_)
      refine lv_aload_n hx hb dX4_shoot_41 rfl (lv_at hl 3 rfl) ?_
      refine va_get (v := .int (nI w)) (T := TX6) (N := 5) hx hb hts inX6 hown hK hP 3 rfl rfl 4 (by decide) f33 (fun _ h9 => h9) rfl dX4_shoot_42 ?_
      refine lv_if_le (tgt := 57) hx hb dX4_shoot_45 (by decide) (fun c_20 => ?_) (fun c_20 => ?_)
      · have k_21 : w ≤ 0 := (he_cle (a := w) (b := 0) rfl (by decide) (by omega) (by omega)).mp c_20
        refine lv_iconst (v := 0) hx hb dX4_shoot_57 (by decide) ?_
        refine lv_istore (lv' := [(5, .int 0), (4, .int 0), (3, .int (-1)), (0, .ref h0), (1, .ref p0), (2, .ref t0)]) hx hb dX4_shoot_58 hl (by decide) rfl (fun ls hl => ?_)
        refine lv_aload_n hx hb dX4_shoot_60 rfl (lv_at hl 5 rfl) ?_
        refine va_get (v := .ref t1) (T := TX5) (N := 3) hx hb hts inX5 hown hK hP 7 rfl rfl 0 (by decide) f57 (fun _ h9 => h9) rfl dX4_shoot_61 ?_
        refine lv_iconst (v := 2) hx hb dX4_shoot_64 (by decide) ?_
        refine he_iald hx hb hK hP 6 rfl (2) (by decide) (by decide) (by first | decide | assumption) (nI q2) hq2 dX4_shoot_65 ?_
        refine lv_iconst (v := 4) hx hb dX4_shoot_66 (by decide) ?_
        refine lv_icmp_gt (tgt := 74) hx hb dX4_shoot_67 (by decide) (fun c_22 => ?_) (fun c_22 => ?_)
        · have k_23 : 4 < q2 := (he_clt (a := 4) (b := q2) (by decide) rfl (by omega) (by omega)).mp c_22
          refine lv_iconst (v := 0) hx hb dX4_shoot_74 (by decide) ?_
          refine lv_istore (lv' := [(6, .int 0), (5, .int 0), (4, .int 0), (3, .int (-1)), (0, .ref h0), (1, .ref p0), (2, .ref t0)]) hx hb dX4_shoot_75 hl (by decide) rfl (fun ls hl => ?_)
          exact join77 0 0 0 (by omega) (by omega) (by unfold nSh; rw [if_pos (by omega)]) (by rw [if_neg (by omega)]) _ _ _ hP hD hS (lv_sub hl [4, 5, 6, 3, 2, 1, 0] rfl)
        · have k_24 : ¬ (4 < q2) := fun h9 => c_22 ((he_clt (a := 4) (b := q2) (by decide) rfl (by omega) (by omega)).mpr h9)
          refine lv_iconst (v := 1) hx hb dX4_shoot_70 (by decide) ?_
          refine lv_goto (tgt := 75) hx hb dX4_shoot_71 (by decide) ?_
          refine lv_istore (lv' := [(6, .int 1), (5, .int 0), (4, .int 0), (3, .int (-1)), (0, .ref h0), (1, .ref p0), (2, .ref t0)]) hx hb dX4_shoot_75 hl (by decide) rfl (fun ls hl => ?_)
          exact join77 0 0 1 (by omega) (by omega) (by unfold nSh; rw [if_pos (by omega)]) (by rw [if_pos (by omega)]) _ _ _ hP hD hS (lv_sub hl [4, 5, 6, 3, 2, 1, 0] rfl)
      · have k_25 : ¬ (w ≤ 0) := fun h9 => c_20 ((he_cle (a := w) (b := 0) rfl (by decide) (by omega) (by omega)).mpr h9)
        refine lv_aload_n hx hb dX4_shoot_48 rfl (lv_at hl 4 rfl) ?_
        refine va_get (v := .ref t1) (T := TX5) (N := 3) hx hb hts inX5 hown hK hP 7 rfl rfl 0 (by decide) f57 (fun _ h9 => h9) rfl dX4_shoot_49 ?_
        refine lv_iconst (v := 3) hx hb dX4_shoot_52 (by decide) ?_
        refine he_iald hx hb hK hP 6 rfl (3) (by decide) (by decide) (by first | decide | assumption) (nI ck) hck dX4_shoot_53 ?_
        refine lv_goto (tgt := 58) hx hb dX4_shoot_54 (by decide) ?_
        refine lv_istore (lv' := [(5, .int (nI ck)), (4, .int 0), (3, .int (-1)), (0, .ref h0), (1, .ref p0), (2, .ref t0)]) hx hb dX4_shoot_58 hl (by decide) rfl (fun ls hl => ?_)
        refine lv_aload_n hx hb dX4_shoot_60 rfl (lv_at hl 5 rfl) ?_
        refine va_get (v := .ref t1) (T := TX5) (N := 3) hx hb hts inX5 hown hK hP 7 rfl rfl 0 (by decide) f57 (fun _ h9 => h9) rfl dX4_shoot_61 ?_
        refine lv_iconst (v := 2) hx hb dX4_shoot_64 (by decide) ?_
        refine he_iald hx hb hK hP 6 rfl (2) (by decide) (by decide) (by first | decide | assumption) (nI q2) hq2 dX4_shoot_65 ?_
        refine lv_iconst (v := 4) hx hb dX4_shoot_66 (by decide) ?_
        refine lv_icmp_gt (tgt := 74) hx hb dX4_shoot_67 (by decide) (fun c_26 => ?_) (fun c_26 => ?_)
        · have k_27 : 4 < q2 := (he_clt (a := 4) (b := q2) (by decide) rfl (by omega) (by omega)).mp c_26
          refine lv_iconst (v := 0) hx hb dX4_shoot_74 (by decide) ?_
          refine lv_istore (lv' := [(6, .int 0), (5, .int (nI ck)), (4, .int 0), (3, .int (-1)), (0, .ref h0), (1, .ref p0), (2, .ref t0)]) hx hb dX4_shoot_75 hl (by decide) rfl (fun ls hl => ?_)
          exact join77 0 ck 0 (by omega) (by omega) (by unfold nSh; rw [if_neg (by omega)]) (by rw [if_neg (by omega)]) _ _ _ hP hD hS (lv_sub hl [4, 5, 6, 3, 2, 1, 0] rfl)
        · have k_28 : ¬ (4 < q2) := fun h9 => c_26 ((he_clt (a := 4) (b := q2) (by decide) rfl (by omega) (by omega)).mpr h9)
          refine lv_iconst (v := 1) hx hb dX4_shoot_70 (by decide) ?_
          refine lv_goto (tgt := 75) hx hb dX4_shoot_71 (by decide) ?_
          refine lv_istore (lv' := [(6, .int 1), (5, .int (nI ck)), (4, .int 0), (3, .int (-1)), (0, .ref h0), (1, .ref p0), (2, .ref t0)]) hx hb dX4_shoot_75 hl (by decide) rfl (fun ls hl => ?_)
          exact join77 0 ck 1 (by omega) (by omega) (by unfold nSh; rw [if_neg (by omega)]) (by rw [if_pos (by omega)]) _ _ _ hP hD hS (lv_sub hl [4, 5, 6, 3, 2, 1, 0] rfl)
  · refine he_top (nI dk) (by rw [hmo, wd_eq hit36 hw6 (Or.inr ⟨dk, hdk, hdu⟩)]; exact hdu) ?_
    refine lv_istore_n (lv' := [(3, .int (nI dk)), (0, .ref h0), (1, .ref p0), (2, .ref t0)]) hx hb dX4_shoot_20 rfl hl (by decide) rfl (fun ls hl => ?_)
    have join77 : ∀ (fb : Int32) (c9 : Nat) (cl : Int32), (c9 ≤ 99) → (c9 = 0 ∨ 0 < w) → (c9 = nSh w ck) → (cl = if q2 ≤ 4 then 1 else 0) → (fb = f (18 + dk)) → ∀ (H : Heap) (locs : List Loc) (ls : Array Slot), va_P g.1 vwCl [(oX4 h0 q0 q1 mo), (aI g q0 24 f), (aI g q1 6 sh), (oX6 p0 p1 p2 p3 p4 (nI w)), (aI g p1 24 sd), (aI g p3 6 st), (aI g t1 6 pd), (oX5 t0 t1 t2 pw), (aI g t2 36 wb)] H → va_D A [(oX4 h0 q0 q1 mo), (aI g q0 24 f), (aI g q1 6 sh), (oX6 p0 p1 p2 p3 p4 (nI w)), (aI g p1 24 sd), (aI g p3 6 st), (aI g t1 6 pd), (oX5 t0 t1 t2 pw), (aI g t2 36 wb)] → va_S A s.heap H locs → lv_has ls 9 [(0, .ref h0), (1, .ref p0), (2, .ref t0), (3, .int (nI dk)), (4, .int fb), (5, .int (nI c9)), (6, .int cl)] → W p l e (he_room 3 60 0 0) s m args below meth c H locs 0 0 Q (F0 m 77 ls []) := by
      intro fb c9 cl hc9 hcw hc9e hcl hfb H locs ls hP hD hS hl
      refine lv_iconst (v := (-1)) hx hb dX4_shoot_77 (by decide) ?_
      refine lv_istore (lv' := [(7, .int (-1)), (0, .ref h0), (1, .ref p0), (2, .ref t0), (3, .int (nI dk)), (4, .int fb), (5, .int (nI c9)), (6, .int cl)]) hx hb dX4_shoot_78 hl (by decide) rfl (fun ls hl => ?_)
      refine lv_iconst (v := 1) hx hb dX4_shoot_80 (by decide) ?_
      refine lv_istore (lv' := [(8, .int 1), (7, .int (-1)), (0, .ref h0), (1, .ref p0), (2, .ref t0), (3, .int (nI dk)), (4, .int fb), (5, .int (nI c9)), (6, .int cl)]) hx hb dX4_shoot_81 hl (by decide) rfl (fun ls hl => ?_)
      have loop83 : ∀ (n9 : Nat) (n : Nat) (t : Int32) (F : Nat → Int32) (G : Nat → Int32), c9 + 1 - n < n9 → (n ≤ c9) → (shR T st (pd 4) (wb it) q2 w f sh n t F G) → ∀ (H : Heap) (locs : List Loc) (ls : Array Slot), va_P g.1 vwCl [(oX4 h0 q0 q1 mo), (aI g q0 24 F), (aI g q1 6 G), (oX6 p0 p1 p2 p3 p4 (nI w)), (aI g p1 24 sd), (aI g p3 6 st), (oX5 t0 t1 t2 pw), (aI g t1 6 pd), (aI g t2 36 wb)] H → va_D A [(oX4 h0 q0 q1 mo), (aI g q0 24 F), (aI g q1 6 G), (oX6 p0 p1 p2 p3 p4 (nI w)), (aI g p1 24 sd), (aI g p3 6 st), (oX5 t0 t1 t2 pw), (aI g t1 6 pd), (aI g t2 36 wb)] → va_S A s.heap H locs → lv_has ls 9 [(0, .ref h0), (1, .ref p0), (2, .ref t0), (3, .int (nI dk)), (4, .int fb), (5, .int (nI c9)), (6, .int cl), (7, .int t), (8, .int (nI (n + 1)))] → W p l e (he_room 3 60 0 0) s m args below meth c H locs 0 0 Q (F0 m 83 ls []) := by
        intro n9
        induction n9 with
        | zero => intro n t F G hm9; exact absurd hm9 (Nat.not_lt_zero _)
        | succ n9 ih83 =>
          intro n t F G hm9 hn hR H locs ls hP hD hS hl
          refine lv_iload hx hb dX4_shoot_83 (lv_at hl 8 rfl) ?_
          refine lv_iload hx hb dX4_shoot_85 (lv_at hl 5 rfl) ?_
          refine lv_icmp_gt (tgt := 197) hx hb dX4_shoot_87 (by decide) (fun c_29 => ?_) (fun c_29 => ?_)
          · have k_30 : c9 < n + 1 := (he_clt (a := c9) (b := n + 1) rfl rfl (by omega) (by omega)).mp c_29
            have hnn : n = nSh w ck := by omega
            refine lv_iload_n hx hb dX4_shoot_197 rfl (lv_at hl 3 rfl) ?_
            refine lv_iconst (v := (-1)) hx hb dX4_shoot_198 (by decide) ?_
            refine lv_icmp_eq (tgt := 227) hx hb dX4_shoot_199 (by decide) (fun c_31 => ?_) (fun c_31 => ?_)
            · exact absurd c_31 (nI_nm1 (by omega))
            · refine lv_aload_n hx hb dX4_shoot_202 rfl (lv_at hl 0 rfl) ?_
              refine va_get (v := .ref q0) (T := TX4) (N := 3) hx hb hts inX4 hown hK hP 0 rfl rfl 0 (by decide) f9 (fun _ h9 => h9) rfl dX4_shoot_203 ?_
              refine lv_bipush (v := 18) hx hb dX4_shoot_206 (by decide) ?_
              refine lv_iload_n hx hb dX4_shoot_208 rfl (lv_at hl 3 rfl) ?_
              refine lv_iadd hx hb dX4_shoot_209 ?_
              refine he_top (nI (18 + dk)) (nI_add 18 dk) ?_
              refine he_iald hx hb hK hP 1 rfl (18 + dk) rfl (by first | assumption | decide | omega) (by first | decide | assumption) (F (18 + dk)) rfl dX4_shoot_210 ?_
              refine lv_iload hx hb dX4_shoot_211 (lv_at hl 4 rfl) ?_
              refine lv_icmp_ne (tgt := 227) hx hb dX4_shoot_213 (by decide) (fun c_32 => ?_) (fun c_32 => ?_)
              · exact he_rv hQ hx hb hr hlk hP hD hS dX4_shoot_227 (Nat.le_of_ble_eq_true rfl) (Nat.le_of_ble_eq_true rfl) ((F, G)) (rfl) (⟨by dsimp only; rw [← hnn]; exact shR_e2 (by (try dsimp only); omega) hdu hR (fun h9 => c_32 (h9.trans hfb.symm)), by dsimp only; rw [← hnn]; exact hR.2.1⟩)
              · refine lv_aload_n hx hb dX4_shoot_216 rfl (lv_at hl 0 rfl) ?_
                refine va_get (v := .ref q0) (T := TX4) (N := 3) hx hb hts inX4 hown hK hP 0 rfl rfl 0 (by decide) f9 (fun _ h9 => h9) rfl dX4_shoot_217 ?_
                refine lv_bipush (v := 7) hx hb dX4_shoot_220 (by decide) ?_
                refine lv_dup2_11 hx hb dX4_shoot_222 rfl rfl ?_
                refine he_iald hx hb hK hP 1 rfl (7) (by decide) (by decide) (by first | decide | assumption) (F 7) rfl dX4_shoot_223 ?_
                refine lv_iconst (v := 1) hx hb dX4_shoot_224 (by decide) ?_
                refine lv_iadd hx hb dX4_shoot_225 ?_
                refine he_iast hx hb hK hP hD hS 1 rfl (7) (by decide) (by decide) (by first | decide | assumption) dX4_shoot_226 (fun H locs hP hD hS => ?_)
                have hP : va_P g.1 vwCl [(oX4 h0 q0 q1 mo), (aI g q0 24 (upd F 7 ((F 7) + 1))), (aI g q1 6 G), (oX6 p0 p1 p2 p3 p4 (nI w)), (aI g p1 24 sd), (aI g p3 6 st), (oX5 t0 t1 t2 pw), (aI g t1 6 pd), (aI g t2 36 wb)] H := hP
                have hD : va_D A [(oX4 h0 q0 q1 mo), (aI g q0 24 (upd F 7 ((F 7) + 1))), (aI g q1 6 G), (oX6 p0 p1 p2 p3 p4 (nI w)), (aI g p1 24 sd), (aI g p3 6 st), (oX5 t0 t1 t2 pw), (aI g t1 6 pd), (aI g t2 36 wb)] := hD
                exact he_rv hQ hx hb hr hlk hP hD hS dX4_shoot_227 (Nat.le_of_ble_eq_true rfl) (Nat.le_of_ble_eq_true rfl) ((upd F 7 ((F 7) + 1), G)) (rfl) (⟨by dsimp only; rw [← hnn]; exact shR_e1 (by (try dsimp only); omega) hdu (by (try dsimp only); omega) hR (c_32.trans hfb), by dsimp only; rw [← hnn]; exact hR.2.1⟩)
          · have k_33 : ¬ (c9 < n + 1) := fun h9 => c_29 ((he_clt (a := c9) (b := n + 1) rfl rfl (by omega) (by omega)).mpr h9)
            have hw0 : 0 < w := hcw.resolve_left (by omega)
            have join115 : ∀ (k : Nat), (k < 6) → (k = aimK (wb it) F w) → ∀ (H : Heap) (locs : List Loc) (ls : Array Slot), va_P g.1 vwCl [(oX4 h0 q0 q1 mo), (aI g q0 24 F), (aI g q1 6 G), (oX6 p0 p1 p2 p3 p4 (nI w)), (aI g p1 24 sd), (aI g p3 6 st), (oX5 t0 t1 t2 pw), (aI g t1 6 pd), (aI g t2 36 wb)] H → va_D A [(oX4 h0 q0 q1 mo), (aI g q0 24 F), (aI g q1 6 G), (oX6 p0 p1 p2 p3 p4 (nI w)), (aI g p1 24 sd), (aI g p3 6 st), (oX5 t0 t1 t2 pw), (aI g t1 6 pd), (aI g t2 36 wb)] → va_S A s.heap H locs → lv_has ls 9 [(0, .ref h0), (1, .ref p0), (2, .ref t0), (3, .int (nI dk)), (4, .int fb), (5, .int (nI c9)), (6, .int cl), (7, .int (nI k)), (8, .int (nI (n + 1)))] → W p l e (he_room 3 60 0 0) s m args below meth c H locs 0 0 Q (F0 m 115 ls []) := by
              intro k hk hka H locs ls hP hD hS hl
              refine lv_aload_n hx hb dX4_shoot_115 rfl (lv_at hl 0 rfl) ?_
              refine va_get (v := .ref q1) (T := TX4) (N := 3) hx hb hts inX4 hown hK hP 0 rfl rfl 1 (by decide) f15 (fun _ h9 => h9) rfl dX4_shoot_116 ?_
              refine lv_iload hx hb dX4_shoot_119 (lv_at hl 7 rfl) ?_
              refine lv_dup2_11 hx hb dX4_shoot_121 rfl rfl ?_
              refine he_iald hx hb hK hP 2 rfl (k) rfl (by first | assumption | decide | omega) (by first | decide | assumption) (G k) rfl dX4_shoot_122 ?_
              refine lv_iconst (v := 1) hx hb dX4_shoot_123 (by decide) ?_
              refine lv_iadd hx hb dX4_shoot_124 ?_
              refine he_iast hx hb hK hP hD hS 2 rfl (k) rfl (by first | assumption | decide | omega) (by first | decide | assumption) dX4_shoot_125 (fun H locs hP hD hS => ?_)
              have hP : va_P g.1 vwCl [(oX4 h0 q0 q1 mo), (aI g q0 24 F), (aI g q1 6 (upd G k ((G k) + 1))), (oX6 p0 p1 p2 p3 p4 (nI w)), (aI g p1 24 sd), (aI g p3 6 st), (oX5 t0 t1 t2 pw), (aI g t1 6 pd), (aI g t2 36 wb)] H := hP
              have hD : va_D A [(oX4 h0 q0 q1 mo), (aI g q0 24 F), (aI g q1 6 (upd G k ((G k) + 1))), (oX6 p0 p1 p2 p3 p4 (nI w)), (aI g p1 24 sd), (aI g p3 6 st), (oX5 t0 t1 t2 pw), (aI g t1 6 pd), (aI g t2 36 wb)] := hD
              refine lv_aload_n hx hb dX4_shoot_126 rfl (lv_at hl 0 rfl) ?_
              refine va_get (v := .ref q0) (T := TX4) (N := 3) hx hb hts inX4 hown hK hP 0 rfl rfl 0 (by decide) f9 (fun _ h9 => h9) rfl dX4_shoot_127 ?_
              refine lv_bipush (v := 9) hx hb dX4_shoot_130 (by decide) ?_
              refine lv_dup2_11 hx hb dX4_shoot_132 rfl rfl ?_
              refine he_iald hx hb hK hP 1 rfl (9) (by decide) (by decide) (by first | decide | assumption) (F 9) rfl dX4_shoot_133 ?_
              refine lv_iconst (v := 1) hx hb dX4_shoot_134 (by decide) ?_
              refine lv_iadd hx hb dX4_shoot_135 ?_
              refine he_iast hx hb hK hP hD hS 1 rfl (9) (by decide) (by decide) (by first | decide | assumption) dX4_shoot_136 (fun H locs hP hD hS => ?_)
              have hP : va_P g.1 vwCl [(oX4 h0 q0 q1 mo), (aI g q0 24 (upd F 9 ((F 9) + 1))), (aI g q1 6 (upd G k ((G k) + 1))), (oX6 p0 p1 p2 p3 p4 (nI w)), (aI g p1 24 sd), (aI g p3 6 st), (oX5 t0 t1 t2 pw), (aI g t1 6 pd), (aI g t2 36 wb)] H := hP
              have hD : va_D A [(oX4 h0 q0 q1 mo), (aI g q0 24 (upd F 9 ((F 9) + 1))), (aI g q1 6 (upd G k ((G k) + 1))), (oX6 p0 p1 p2 p3 p4 (nI w)), (aI g p1 24 sd), (aI g p3 6 st), (oX5 t0 t1 t2 pw), (aI g t1 6 pd), (aI g t2 36 wb)] := hD
              refine lv_aload_n hx hb dX4_shoot_137 rfl (lv_at hl 0 rfl) ?_
              refine va_get (v := .ref q0) (T := TX4) (N := 3) hx hb hts inX4 hown hK hP 0 rfl rfl 0 (by decide) f9 (fun _ h9 => h9) rfl dX4_shoot_138 ?_
              refine lv_bipush (v := 12) hx hb dX4_shoot_141 (by decide) ?_
              refine lv_iload hx hb dX4_shoot_143 (lv_at hl 7 rfl) ?_
              refine lv_iadd hx hb dX4_shoot_145 ?_
              refine he_top (nI (12 + k)) (nI_add 12 k) ?_
              refine lv_dup2_11 hx hb dX4_shoot_146 rfl rfl ?_
              refine he_iald hx hb hK hP 1 rfl (12 + k) rfl (by first | assumption | decide | omega) (by first | decide | assumption) ((upd F 9 ((F 9) + 1)) (12 + k)) rfl dX4_shoot_147 ?_
              have join165 : ∀ (dm : Int32), (dm = dmI q2 (n + 1)) → ∀ (H : Heap) (locs : List Loc) (ls : Array Slot), va_P g.1 vwCl [(oX4 h0 q0 q1 mo), (aI g q0 24 (upd F 9 ((F 9) + 1))), (aI g q1 6 (upd G k ((G k) + 1))), (oX6 p0 p1 p2 p3 p4 (nI w)), (aI g p1 24 sd), (aI g p3 6 st), (oX5 t0 t1 t2 pw), (aI g t1 6 pd), (aI g t2 36 wb)] H → va_D A [(oX4 h0 q0 q1 mo), (aI g q0 24 (upd F 9 ((F 9) + 1))), (aI g q1 6 (upd G k ((G k) + 1))), (oX6 p0 p1 p2 p3 p4 (nI w)), (aI g p1 24 sd), (aI g p3 6 st), (oX5 t0 t1 t2 pw), (aI g t1 6 pd), (aI g t2 36 wb)] → va_S A s.heap H locs → lv_has ls 9 [(0, .ref h0), (1, .ref p0), (2, .ref t0), (3, .int (nI dk)), (4, .int fb), (5, .int (nI c9)), (6, .int cl), (7, .int (nI k)), (8, .int (nI (n + 1)))] → W p l e (he_room 3 60 0 0) s m args below meth c H locs 0 0 Q (F0 m 165 ls [.int dm, .int ((upd F 9 ((F 9) + 1)) (12 + k)), .int (nI (12 + k)), .ref q0]) := by
                intro dm hdm H locs ls hP hD hS hl
                subst hdm
                refine lv_isub hx hb dX4_shoot_165 ?_
                refine he_iast hx hb hK hP hD hS 1 rfl (12 + k) rfl (by first | assumption | decide | omega) (by first | decide | assumption) dX4_shoot_166 (fun H locs hP hD hS => ?_)
                have hP : va_P g.1 vwCl [(oX4 h0 q0 q1 mo), (aI g q0 24 (upd (upd F 9 ((F 9) + 1)) (12 + k) (((upd F 9 ((F 9) + 1)) (12 + k)) - (dmI q2 (n + 1))))), (aI g q1 6 (upd G k ((G k) + 1))), (oX6 p0 p1 p2 p3 p4 (nI w)), (aI g p1 24 sd), (aI g p3 6 st), (oX5 t0 t1 t2 pw), (aI g t1 6 pd), (aI g t2 36 wb)] H := hP
                have hD : va_D A [(oX4 h0 q0 q1 mo), (aI g q0 24 (upd (upd F 9 ((F 9) + 1)) (12 + k) (((upd F 9 ((F 9) + 1)) (12 + k)) - (dmI q2 (n + 1))))), (aI g q1 6 (upd G k ((G k) + 1))), (oX6 p0 p1 p2 p3 p4 (nI w)), (aI g p1 24 sd), (aI g p3 6 st), (oX5 t0 t1 t2 pw), (aI g t1 6 pd), (aI g t2 36 wb)] := hD
                refine lv_aload_n hx hb dX4_shoot_167 rfl (lv_at hl 0 rfl) ?_
                refine va_get (v := .ref q0) (T := TX4) (N := 3) hx hb hts inX4 hown hK hP 0 rfl rfl 0 (by decide) f9 (fun _ h9 => h9) rfl dX4_shoot_168 ?_
                refine lv_bipush (v := 12) hx hb dX4_shoot_171 (by decide) ?_
                refine lv_iload hx hb dX4_shoot_173 (lv_at hl 7 rfl) ?_
                refine lv_iadd hx hb dX4_shoot_175 ?_
                refine he_top (nI (12 + k)) (nI_add 12 k) ?_
                refine he_iald hx hb hK hP 1 rfl (12 + k) rfl (by first | assumption | decide | omega) (by first | decide | assumption) ((upd (upd F 9 ((F 9) + 1)) (12 + k) (((upd F 9 ((F 9) + 1)) (12 + k)) - (dmI q2 (n + 1)))) (12 + k)) rfl dX4_shoot_176 ?_
                refine lv_if_gt (tgt := 191) hx hb dX4_shoot_177 (by decide) (fun c_34 => ?_) (fun c_34 => ?_)
                · refine lv_iinc (v := nI (n + 1 + 1)) (lv' := [(8, .int (nI (n + 1 + 1))), (0, .ref h0), (1, .ref p0), (2, .ref t0), (3, .int (nI dk)), (4, .int fb), (5, .int (nI c9)), (6, .int cl), (7, .int (nI k))]) hx hb dX4_shoot_191 hl (k := 8) rfl (nI_1 (n + 1)) (by decide) rfl (fun ls hl => ?_)
                  refine lv_goto (tgt := 83) hx hb dX4_shoot_194 (by decide) ?_
                  have hP : va_P g.1 vwCl [(oX4 h0 q0 q1 mo), (aI g q0 24 (hitF F k (dmI q2 (n + 1)))), (aI g q1 6 (upd G k (G k + 1))), (oX6 p0 p1 p2 p3 p4 (nI w)), (aI g p1 24 sd), (aI g p3 6 st), (oX5 t0 t1 t2 pw), (aI g t1 6 pd), (aI g t2 36 wb)] H := by skip; exact hP
                  have hD : va_D A [(oX4 h0 q0 q1 mo), (aI g q0 24 (hitF F k (dmI q2 (n + 1)))), (aI g q1 6 (upd G k (G k + 1))), (oX6 p0 p1 p2 p3 p4 (nI w)), (aI g p1 24 sd), (aI g p3 6 st), (oX5 t0 t1 t2 pw), (aI g t1 6 pd), (aI g t2 36 wb)] := by skip; exact hD
                  exact ih83 (n + 1) (nI k) (hitF F k (dmI q2 (n + 1))) (upd G k (G k + 1)) (by omega) (by omega) (shR_s hw0 hw6 hbw hR hka c_34) _ _ _ hP hD hS (lv_sub hl [1, 2, 3, 4, 5, 6, 7, 8, 0] rfl)
                · refine lv_aload_n hx hb dX4_shoot_180 rfl (lv_at hl 0 rfl) ?_
                  refine lv_aload_n hx hb dX4_shoot_181 rfl (lv_at hl 1 rfl) ?_
                  refine lv_aload_n hx hb dX4_shoot_182 rfl (lv_at hl 2 rfl) ?_
                  refine lv_iload hx hb dX4_shoot_183 (lv_at hl 7 rfl) ?_
                  refine he_cv (wc := [(oX4 h0 q0 q1 mo), (aI g q0 24 (upd (upd F 9 ((F 9) + 1)) (12 + k) (((upd F 9 ((F 9) + 1)) (12 + k)) - (dmI q2 (n + 1))))), (oX6 p0 p1 p2 p3 p4 (nI w)), (aI g p1 24 sd), (aI g p3 6 st), (oX5 t0 t1 t2 pw), (aI g t1 6 pd)]) (wr := [(aI g q1 6 (upd G k ((G k) + 1))), (aI g t2 36 wb)]) (va_runV (As := [.ref p0, .ref t0, .int (nI k)]) (rest := []) ⟨hx, hb, hml, hown, hts⟩ (s_X4_breach l g h0 q0 q1 mo (upd (upd F 9 ((F 9) + 1)) (12 + k) (((upd F 9 ((F 9) + 1)) (12 + k)) - (dmI q2 (n + 1)))) p0 p1 p2 p3 p4 (nI w) sd st t0 t1 t2 pw pd k (by first | assumption | decide | omega) H.size) (cwV 3 hts gX4_shoot_X4_breach rfl rfl rfl (by decide +kernel) ⟨Nat.le_of_ble_eq_true rfl, Nat.le_of_ble_eq_true rfl⟩) (he_preV (wc := [(oX4 h0 q0 q1 mo), (aI g q0 24 (upd (upd F 9 ((F 9) + 1)) (12 + k) (((upd F 9 ((F 9) + 1)) (12 + k)) - (dmI q2 (n + 1))))), (oX6 p0 p1 p2 p3 p4 (nI w)), (aI g p1 24 sd), (aI g p3 6 st), (oX5 t0 t1 t2 pw), (aI g t1 6 pd)]) hK hP hD hS hA hE [0, 1, 3, 4, 5, 6, 7] rfl rfl 0 rfl rfl) rfl rfl hl.1 rfl (lv_room (Nat.le_of_ble_eq_true rfl)) dX4_shoot_185 ⟨(Nat.le_of_ble_eq_true rfl), (Nat.le_of_ble_eq_true rfl)⟩) hP hD hS hA [0, 1, 3, 4, 5, 6, 7] [2, 8] rfl rfl rfl (by decide) (fun u_36 H locs h_37 hP hD hS => ?_)
                  have hP : va_P g.1 vwCl [(aI g q1 6 (upd G k ((G k) + 1))), (aI g t2 36 wb), (oX4 h0 q0 q1 mo), (aI g q0 24 (mvF (frF (upd (upd (upd (upd (upd F 9 ((F 9) + 1)) (12 + k) (((upd F 9 ((F 9) + 1)) (12 + k)) - (dmI q2 (n + 1)))) 6 ((upd (upd F 9 ((F 9) + 1)) (12 + k) (((upd F 9 ((F 9) + 1)) (12 + k)) - (dmI q2 (n + 1)))) 6 + 1)) (18 + k) (upd (upd (upd F 9 ((F 9) + 1)) (12 + k) (((upd F 9 ((F 9) + 1)) (12 + k)) - (dmI q2 (n + 1)))) 6 ((upd (upd F 9 ((F 9) + 1)) (12 + k) (((upd F 9 ((F 9) + 1)) (12 + k)) - (dmI q2 (n + 1)))) 6 + 1) (18 + k) + 1)) (12 + k) (st k)) (sd 13)) 0 1 (pd 4))), (oX6 p0 p1 p2 p3 p4 (nI w)), (aI g p1 24 sd), (aI g p3 6 st), (oX5 t0 t1 t2 pw), (aI g t1 6 pd)] H := hP
                  have hD : va_D A [(aI g q1 6 (upd G k ((G k) + 1))), (aI g t2 36 wb), (oX4 h0 q0 q1 mo), (aI g q0 24 (mvF (frF (upd (upd (upd (upd (upd F 9 ((F 9) + 1)) (12 + k) (((upd F 9 ((F 9) + 1)) (12 + k)) - (dmI q2 (n + 1)))) 6 ((upd (upd F 9 ((F 9) + 1)) (12 + k) (((upd F 9 ((F 9) + 1)) (12 + k)) - (dmI q2 (n + 1)))) 6 + 1)) (18 + k) (upd (upd (upd F 9 ((F 9) + 1)) (12 + k) (((upd F 9 ((F 9) + 1)) (12 + k)) - (dmI q2 (n + 1)))) 6 ((upd (upd F 9 ((F 9) + 1)) (12 + k) (((upd F 9 ((F 9) + 1)) (12 + k)) - (dmI q2 (n + 1)))) 6 + 1) (18 + k) + 1)) (12 + k) (st k)) (sd 13)) 0 1 (pd 4))), (oX6 p0 p1 p2 p3 p4 (nI w)), (aI g p1 24 sd), (aI g p3 6 st), (oX5 t0 t1 t2 pw), (aI g t1 6 pd)] := hD
                  refine lv_iconst (v := (-1)) hx hb dX4_shoot_188 (by decide) ?_
                  refine lv_istore (lv' := [(7, .int (-1)), (0, .ref h0), (1, .ref p0), (2, .ref t0), (3, .int (nI dk)), (4, .int fb), (5, .int (nI c9)), (6, .int cl), (8, .int (nI (n + 1)))]) hx hb dX4_shoot_189 hl (by decide) rfl (fun ls hl => ?_)
                  refine lv_iinc (v := nI (n + 1 + 1)) (lv' := [(8, .int (nI (n + 1 + 1))), (7, .int (-1)), (0, .ref h0), (1, .ref p0), (2, .ref t0), (3, .int (nI dk)), (4, .int fb), (5, .int (nI c9)), (6, .int cl)]) hx hb dX4_shoot_191 hl (k := 8) rfl (nI_1 (n + 1)) (by decide) rfl (fun ls hl => ?_)
                  refine lv_goto (tgt := 83) hx hb dX4_shoot_194 (by decide) ?_
                  have hP : va_P g.1 vwCl [(aI g q1 6 (upd G k (G k + 1))), (aI g t2 36 wb), (oX4 h0 q0 q1 mo), (aI g q0 24 (rBr T st (pd 4) (hitF F k (dmI q2 (n + 1))) k)), (oX6 p0 p1 p2 p3 p4 (nI w)), (aI g p1 24 sd), (aI g p3 6 st), (oX5 t0 t1 t2 pw), (aI g t1 6 pd)] H := by rw [← br_eq sd st T (pd 4) (hitF F k (dmI q2 (n + 1))) k hk hT10]; exact hP
                  have hD : va_D A [(aI g q1 6 (upd G k (G k + 1))), (aI g t2 36 wb), (oX4 h0 q0 q1 mo), (aI g q0 24 (rBr T st (pd 4) (hitF F k (dmI q2 (n + 1))) k)), (oX6 p0 p1 p2 p3 p4 (nI w)), (aI g p1 24 sd), (aI g p3 6 st), (oX5 t0 t1 t2 pw), (aI g t1 6 pd)] := by rw [← br_eq sd st T (pd 4) (hitF F k (dmI q2 (n + 1))) k hk hT10]; exact hD
                  exact ih83 (n + 1) (-1) (rBr T st (pd 4) (hitF F k (dmI q2 (n + 1))) k) (upd G k (G k + 1)) (by omega) (by omega) (shR_b hw0 hw6 hbw hst (by omega) hR hka c_34) _ _ _ (hP.sub [2, 3, 0, 4, 5, 6, 7, 8, 1] rfl) (hD.sub [2, 3, 0, 4, 5, 6, 7, 8, 1] (by decide) rfl) hS (lv_sub hl [2, 3, 4, 5, 6, 7, 8, 1, 0] rfl)
              refine lv_iload hx hb dX4_shoot_148 (lv_at hl 6 rfl) ?_
              refine lv_if_eq (tgt := 164) hx hb dX4_shoot_150 (by decide) (fun c_38 => ?_) (fun c_38 => ?_)
              · refine lv_iconst (v := 1) hx hb dX4_shoot_164 (by decide) ?_
                exact join165 1 (dm_a hcl c_38) _ _ _ hP hD hS (lv_sub hl [0, 1, 2, 3, 4, 5, 6, 7, 8] rfl)
              · refine lv_iload hx hb dX4_shoot_153 (lv_at hl 8 rfl) ?_
                refine lv_iconst (v := 2) hx hb dX4_shoot_155 (by decide) ?_
                refine lv_irem hx hb dX4_shoot_156 (by decide) ?_
                refine lv_if_ne (tgt := 164) hx hb dX4_shoot_157 (by decide) (fun c_39 => ?_) (fun c_39 => ?_)
                · refine lv_iconst (v := 1) hx hb dX4_shoot_164 (by decide) ?_
                  exact join165 1 (dm_b (by omega) c_39) _ _ _ hP hD hS (lv_sub hl [0, 1, 2, 3, 4, 5, 6, 7, 8] rfl)
                · refine lv_iconst (v := 2) hx hb dX4_shoot_160 (by decide) ?_
                  refine lv_goto (tgt := 165) hx hb dX4_shoot_161 (by decide) ?_
                  exact join165 2 (dm_c hcl c_38 (by omega) c_39) _ _ _ hP hD hS (lv_sub hl [0, 1, 2, 3, 4, 5, 6, 7, 8] rfl)
            refine lv_iload hx hb dX4_shoot_90 (lv_at hl 7 rfl) ?_
            refine lv_iconst (v := (-1)) hx hb dX4_shoot_92 (by decide) ?_
            refine lv_icmp_ne (tgt := 115) hx hb dX4_shoot_93 (by decide) (fun c_40 => ?_) (fun c_40 => ?_)
            · obtain ⟨k, hk, rfl, hka⟩ := hR.2.2.1.resolve_left c_40
              exact join115 k hk hka _ _ _ hP hD hS (lv_sub hl [0, 1, 2, 3, 4, 5, 6, 7, 8] rfl)
            · refine lv_iload_n hx hb dX4_shoot_96 rfl (lv_at hl 3 rfl) ?_
              refine lv_iconst (v := (-1)) hx hb dX4_shoot_97 (by decide) ?_
              refine lv_icmp_ne (tgt := 112) hx hb dX4_shoot_98 (by decide) (fun c_41 => ?_) (fun c_41 => ?_)
              · refine lv_iload_n hx hb dX4_shoot_112 rfl (lv_at hl 3 rfl) ?_
                refine lv_istore (lv' := [(7, .int (nI dk)), (0, .ref h0), (1, .ref p0), (2, .ref t0), (3, .int (nI dk)), (4, .int fb), (5, .int (nI c9)), (6, .int cl), (8, .int (nI (n + 1)))]) hx hb dX4_shoot_113 hl (by decide) rfl (fun ls hl => ?_)
                exact join115 dk (by omega) (by unfold aimK; rw [hdu, if_neg (nI_nm1 (by omega)), nI_clamp (by omega)]) _ _ _ hP hD hS (lv_sub hl [1, 2, 3, 4, 5, 6, 7, 0, 8] rfl)
              · exact absurd c_41 (nI_nm1 (by omega))
      exact loop83 ((c9 + 1 - 0) + 1) 0 (-1) f sh (Nat.lt_succ_self _) (Nat.zero_le _) (shR_0 hBd) _ _ _ (hP.sub [0, 1, 2, 3, 4, 5, 7, 6, 8] rfl) (hD.sub [0, 1, 2, 3, 4, 5, 7, 6, 8] (by decide) rfl) hS (lv_sub hl [2, 3, 4, 5, 6, 7, 8, 1, 0] rfl)
    refine lv_iload_n hx hb dX4_shoot_21 rfl (lv_at hl 0 rfl) ?_
    refine lv_iconst (v := (-1)) hx hb dX4_shoot_22 (by decide) ?_
    refine lv_icmp_ne (tgt := 30) hx hb dX4_shoot_23 (by decide) (fun c_42 => ?_) (fun c_42 => ?_)
    · refine lv_aload_n hx hb dX4_shoot_30 rfl (lv_at hl 1 rfl) ?_
      refine va_get (v := .ref q0) (T := TX4) (N := 3) hx hb hts inX4 hown hK hP 0 rfl rfl 0 (by decide) f9 (fun _ h9 => h9) rfl dX4_shoot_31 ?_
      refine lv_bipush (v := 18) hx hb dX4_shoot_34 (by decide) ?_
      refine lv_iload_n hx hb dX4_shoot_36 rfl (lv_at hl 0 rfl) ?_
      refine lv_iadd hx hb dX4_shoot_37 ?_
      refine he_top (nI (18 + dk)) (nI_add 18 dk) ?_
      refine he_iald hx hb hK hP 1 rfl (18 + dk) rfl (by first | assumption | decide | omega) (by first | decide | assumption) (f (18 + dk)) rfl dX4_shoot_38 ?_
      refine lv_istore (lv' := [(4, .int (f (18 + dk))), (3, .int (nI dk)), (0, .ref h0), (1, .ref p0), (2, .ref t0)]) hx hb dX4_shoot_39 hl (by decide) rfl (fun ls hl => ?_)
      refine lv_aload_n hx hb dX4_shoot_41 rfl (lv_at hl 3 rfl) ?_
      refine va_get (v := .int (nI w)) (T := TX6) (N := 5) hx hb hts inX6 hown hK hP 3 rfl rfl 4 (by decide) f33 (fun _ h9 => h9) rfl dX4_shoot_42 ?_
      refine lv_if_le (tgt := 57) hx hb dX4_shoot_45 (by decide) (fun c_43 => ?_) (fun c_43 => ?_)
      · have k_44 : w ≤ 0 := (he_cle (a := w) (b := 0) rfl (by decide) (by omega) (by omega)).mp c_43
        refine lv_iconst (v := 0) hx hb dX4_shoot_57 (by decide) ?_
        refine lv_istore (lv' := [(5, .int 0), (4, .int (f (18 + dk))), (3, .int (nI dk)), (0, .ref h0), (1, .ref p0), (2, .ref t0)]) hx hb dX4_shoot_58 hl (by decide) rfl (fun ls hl => ?_)
        refine lv_aload_n hx hb dX4_shoot_60 rfl (lv_at hl 5 rfl) ?_
        refine va_get (v := .ref t1) (T := TX5) (N := 3) hx hb hts inX5 hown hK hP 7 rfl rfl 0 (by decide) f57 (fun _ h9 => h9) rfl dX4_shoot_61 ?_
        refine lv_iconst (v := 2) hx hb dX4_shoot_64 (by decide) ?_
        refine he_iald hx hb hK hP 6 rfl (2) (by decide) (by decide) (by first | decide | assumption) (nI q2) hq2 dX4_shoot_65 ?_
        refine lv_iconst (v := 4) hx hb dX4_shoot_66 (by decide) ?_
        refine lv_icmp_gt (tgt := 74) hx hb dX4_shoot_67 (by decide) (fun c_45 => ?_) (fun c_45 => ?_)
        · have k_46 : 4 < q2 := (he_clt (a := 4) (b := q2) (by decide) rfl (by omega) (by omega)).mp c_45
          refine lv_iconst (v := 0) hx hb dX4_shoot_74 (by decide) ?_
          refine lv_istore (lv' := [(6, .int 0), (5, .int 0), (4, .int (f (18 + dk))), (3, .int (nI dk)), (0, .ref h0), (1, .ref p0), (2, .ref t0)]) hx hb dX4_shoot_75 hl (by decide) rfl (fun ls hl => ?_)
          exact join77 (f (18 + dk)) 0 0 (by omega) (by omega) (by unfold nSh; rw [if_pos (by omega)]) (by rw [if_neg (by omega)]) rfl _ _ _ hP hD hS (lv_sub hl [4, 5, 6, 3, 2, 1, 0] rfl)
        · have k_47 : ¬ (4 < q2) := fun h9 => c_45 ((he_clt (a := 4) (b := q2) (by decide) rfl (by omega) (by omega)).mpr h9)
          refine lv_iconst (v := 1) hx hb dX4_shoot_70 (by decide) ?_
          refine lv_goto (tgt := 75) hx hb dX4_shoot_71 (by decide) ?_
          refine lv_istore (lv' := [(6, .int 1), (5, .int 0), (4, .int (f (18 + dk))), (3, .int (nI dk)), (0, .ref h0), (1, .ref p0), (2, .ref t0)]) hx hb dX4_shoot_75 hl (by decide) rfl (fun ls hl => ?_)
          exact join77 (f (18 + dk)) 0 1 (by omega) (by omega) (by unfold nSh; rw [if_pos (by omega)]) (by rw [if_pos (by omega)]) rfl _ _ _ hP hD hS (lv_sub hl [4, 5, 6, 3, 2, 1, 0] rfl)
      · have k_48 : ¬ (w ≤ 0) := fun h9 => c_43 ((he_cle (a := w) (b := 0) rfl (by decide) (by omega) (by omega)).mpr h9)
        refine lv_aload_n hx hb dX4_shoot_48 rfl (lv_at hl 4 rfl) ?_
        refine va_get (v := .ref t1) (T := TX5) (N := 3) hx hb hts inX5 hown hK hP 7 rfl rfl 0 (by decide) f57 (fun _ h9 => h9) rfl dX4_shoot_49 ?_
        refine lv_iconst (v := 3) hx hb dX4_shoot_52 (by decide) ?_
        refine he_iald hx hb hK hP 6 rfl (3) (by decide) (by decide) (by first | decide | assumption) (nI ck) hck dX4_shoot_53 ?_
        refine lv_goto (tgt := 58) hx hb dX4_shoot_54 (by decide) ?_
        refine lv_istore (lv' := [(5, .int (nI ck)), (4, .int (f (18 + dk))), (3, .int (nI dk)), (0, .ref h0), (1, .ref p0), (2, .ref t0)]) hx hb dX4_shoot_58 hl (by decide) rfl (fun ls hl => ?_)
        refine lv_aload_n hx hb dX4_shoot_60 rfl (lv_at hl 5 rfl) ?_
        refine va_get (v := .ref t1) (T := TX5) (N := 3) hx hb hts inX5 hown hK hP 7 rfl rfl 0 (by decide) f57 (fun _ h9 => h9) rfl dX4_shoot_61 ?_
        refine lv_iconst (v := 2) hx hb dX4_shoot_64 (by decide) ?_
        refine he_iald hx hb hK hP 6 rfl (2) (by decide) (by decide) (by first | decide | assumption) (nI q2) hq2 dX4_shoot_65 ?_
        refine lv_iconst (v := 4) hx hb dX4_shoot_66 (by decide) ?_
        refine lv_icmp_gt (tgt := 74) hx hb dX4_shoot_67 (by decide) (fun c_49 => ?_) (fun c_49 => ?_)
        · have k_50 : 4 < q2 := (he_clt (a := 4) (b := q2) (by decide) rfl (by omega) (by omega)).mp c_49
          refine lv_iconst (v := 0) hx hb dX4_shoot_74 (by decide) ?_
          refine lv_istore (lv' := [(6, .int 0), (5, .int (nI ck)), (4, .int (f (18 + dk))), (3, .int (nI dk)), (0, .ref h0), (1, .ref p0), (2, .ref t0)]) hx hb dX4_shoot_75 hl (by decide) rfl (fun ls hl => ?_)
          exact join77 (f (18 + dk)) ck 0 (by omega) (by omega) (by unfold nSh; rw [if_neg (by omega)]) (by rw [if_neg (by omega)]) rfl _ _ _ hP hD hS (lv_sub hl [4, 5, 6, 3, 2, 1, 0] rfl)
        · have k_51 : ¬ (4 < q2) := fun h9 => c_49 ((he_clt (a := 4) (b := q2) (by decide) rfl (by omega) (by omega)).mpr h9)
          refine lv_iconst (v := 1) hx hb dX4_shoot_70 (by decide) ?_
          refine lv_goto (tgt := 75) hx hb dX4_shoot_71 (by decide) ?_
          refine lv_istore (lv' := [(6, .int 1), (5, .int (nI ck)), (4, .int (f (18 + dk))), (3, .int (nI dk)), (0, .ref h0), (1, .ref p0), (2, .ref t0)]) hx hb dX4_shoot_75 hl (by decide) rfl (fun ls hl => ?_)
          exact join77 (f (18 + dk)) ck 1 (by omega) (by omega) (by unfold nSh; rw [if_neg (by omega)]) (by rw [if_pos (by omega)]) rfl _ _ _ hP hD hS (lv_sub hl [4, 5, 6, 3, 2, 1, 0] rfl)
    · exact absurd c_42 (nI_nm1 (by omega))
set_option maxHeartbeats 4000000 in
set_option maxRecDepth 100000 in
theorem s_X4_passP (l : Launch) (g : he_G) (h0 : Nat) (q0 : Nat) (q1 : Nat) (mm : Nat) (f : Nat → Int32) (sh : Nat → Int32) (p0 : Nat) (p1 : Nat) (p2 : Nat) (p3 : Nat) (p4 : Nat) (w : Nat) (sd : Nat → Int32) (fn : Nat → Int32) (st : Nat → Int32) (me : Nat → Int32) (t0 : Nat) (t1 : Nat) (t2 : Nat) (pw : Int32) (pd : Nat → Int32) (wb : Nat → Int32) (ck : Nat) (q2 : Nat) (sg : Nat) (q5 : Nat) (hw6 : w ≤ 6) (hck : pd 3 = nI ck) (hc99 : ck ≤ 99) (hq2 : pd 2 = nI q2) (hq9 : q2 ≤ 9) (hq5 : pd 5 = nI q5) (hq36 : q5 ≤ 36) (h11 : f 11 = nI sg) (hsg : sg ≤ mm) (hiq : mm - sg < q5) (hbw : wb (mm - sg) = -1 ∨ ∃ k, k < w ∧ wb (mm - sg) = nI k) (hT : bdT (tOf sd fn)) (hC : bdC (cOf pd)) (hBd : bdF w st f) (hm : mm < 1000) : he_V l yX4_pass wsX4_pass 4 88 0 0 g [.ref h0, .ref p0, .ref t0] [(oX4 h0 q0 q1 (nI mm)), (aI g q0 24 f), (aI g q1 6 sh), (oX6 p0 p1 p2 p3 p4 (nI w)), (aI g p1 24 sd), (aI g p2 10 fn), (aI g p3 6 st), (aI g p4 6 me), (oX5 t0 t1 t2 pw), (aI g t1 6 pd), (aI g t2 36 wb)] (fun (u : (Nat → Int32) × (Nat → Int32)) => (eqP nP u.1 (rMonP (tOf sd fn) st me (cOf pd) (wb (mm - sg)) q2 ck q5 (mm - sg) w mm f (flF (fun _ => 0) sh 6))) ∧ (∀ j, j < 6 → u.2 j = (rMonG (tOf sd fn) st (cOf pd) (wb (mm - sg)) q2 ck w mm f (flF (fun _ => 0) sh 6)) j) ∧ u.1 11 = f 11) (fun (u : (Nat → Int32) × (Nat → Int32)) => [(oX4 h0 q0 q1 (nI (mm + 1))), (aI g q0 24 u.1), (aI g q1 6 u.2), (oX6 p0 p1 p2 p3 p4 (nI w)), (aI g p1 24 sd), (aI g p2 10 fn), (aI g p3 6 st), (aI g p4 6 me), (oX5 t0 t1 t2 pw), (aI g t1 6 pd), (aI g t2 36 wb)]) := by
  refine he_begin (l := l) (g := g) (y := yX4_pass) (wl := wsX4_pass) (fr := 4) (lo := 88) (mc := 0) (ms := 0) (av := [.ref h0, .ref p0, .ref t0]) (ws := [(oX4 h0 q0 q1 (nI mm)), (aI g q0 24 f), (aI g q1 6 sh), (oX6 p0 p1 p2 p3 p4 (nI w)), (aI g p1 24 sd), (aI g p2 10 fn), (aI g p3 6 st), (aI g p4 6 me), (oX5 t0 t1 t2 pw), (aI g t1 6 pd), (aI g t2 36 wb)]) (cc := cX4_pass) (maxL := 3) (ret := none) (fun A => va_Qv (fun (u : (Nat → Int32) × (Nat → Int32)) => (eqP nP u.1 (rMonP (tOf sd fn) st me (cOf pd) (wb (mm - sg)) q2 ck q5 (mm - sg) w mm f (flF (fun _ => 0) sh 6))) ∧ (∀ j, j < 6 → u.2 j = (rMonG (tOf sd fn) st (cOf pd) (wb (mm - sg)) q2 ck w mm f (flF (fun _ => 0) sh 6)) j) ∧ u.1 11 = f 11) (fun u t => he_post g A ((fun (u : (Nat → Int32) × (Nat → Int32)) => [(oX4 h0 q0 q1 (nI (mm + 1))), (aI g q0 24 u.1), (aI g q1 6 u.2), (oX6 p0 p1 p2 p3 p4 (nI w)), (aI g p1 24 sd), (aI g p2 10 fn), (aI g p3 6 st), (aI g p4 6 me), (oX5 t0 t1 t2 pw), (aI g t1 6 pd), (aI g t2 36 wb)]) u) t) A) (by decide) rfl (Nat.le_of_ble_eq_true rfl) ?_
  intro p e s m args below meth c A ls H locs Q hQ hB
  obtain ⟨hx, hb, hr, hml, hown, hts, hlk, hin, hP, hK, hD, hS, hA, hE, hl⟩ := hB
  have hl : lv_has ls 3 [(0, .ref h0), (1, .ref p0), (2, .ref t0)] := hl
  have f15 := hts (.fieldLink RX4 15 "HiredEnemy$Course" "shot" "[I") (iwoX4_pass (k := 0) rfl)
  have inX4 : ∀ w ∈ wsX40, w ∈ wsX4_pass := innX4_pass_X4
  have f9 := hts (.fieldLink RX4 9 "HiredEnemy$Course" "now" "[I") (iwoX4_pass (k := 1) rfl)
  have f28 := hts (.fieldLink RX4 28 "HiredEnemy$Plan" "said" "[I") (iwoX4_pass (k := 2) rfl)
  have inX6 : ∀ w ∈ wsX60, w ∈ wsX4_pass := innX4_pass_X6
  have ml68 := hts (.methodLink RX4 68 Lib.Math.max.name) (iwoX4_pass (k := 4) rfl)
  have msmax := hts (.static Lib.Math.max.name) (iwoX4_pass (k := 5) rfl)
  have mi := hts (.initialized "java/lang/Math") (iwoX4_pass (k := 6) rfl)
  have mcmax := hts (.code Lib.Math.max.name Lib.Math.max.code 2 (some .int)) (iwoX4_pass (k := 7) rfl)
  have f18 := hts (.fieldLink RX4 18 "HiredEnemy$Course" "month" "I") (iwoX4_pass (k := 8) rfl)
  have f57 := hts (.fieldLink RX4 57 "HiredEnemy$Pact" "said" "[I") (iwoX4_pass (k := 3) rfl)
  have inX5 : ∀ w ∈ wsX50, w ∈ wsX4_pass := innX4_pass_X5
  refine lv_aload_n hx hb dX4_pass_0 rfl (lv_at hl 0 rfl) ?_
  refine va_get (v := .ref q1) (T := TX4) (N := 3) hx hb hts inX4 hown hK hP 0 rfl rfl 1 (by decide) f15 (fun _ h9 => h9) rfl dX4_pass_1 ?_
  refine lv_iconst (v := 0) hx hb dX4_pass_4 (by decide) ?_
  refine he_cv (wc := [(aI g q1 6 sh)]) (wr := [(oX4 h0 q0 q1 (nI mm)), (aI g q0 24 f), (oX6 p0 p1 p2 p3 p4 (nI w)), (aI g p1 24 sd), (aI g p2 10 fn), (aI g p3 6 st), (aI g p4 6 me), (oX5 t0 t1 t2 pw), (aI g t1 6 pd), (aI g t2 36 wb)]) (va_runS (As := [.ref q1, .int 0]) (rest := []) ⟨hx, hb, hml, hown, hts⟩ (c_J7_fill_53178 l g q1 6 sh 0 (by first | assumption | decide | omega) H.size) (va_cwS 2 hts gX4_pass_J7_fill_53178 rfl rfl rfl (by decide +kernel) ⟨Nat.le_of_ble_eq_true rfl, Nat.le_of_ble_eq_true rfl⟩) (he_preS (wc := [(aI g q1 6 sh)]) hK hP hD hS hA hE [2] rfl rfl) rfl rfl hl.1 rfl (lv_room (Nat.le_of_ble_eq_true rfl)) dX4_pass_5 ⟨(Nat.le_of_ble_eq_true rfl), (Nat.le_of_ble_eq_true rfl)⟩) hP hD hS hA [2] [0, 1, 3, 4, 5, 6, 7, 8, 9, 10] rfl rfl rfl (by decide) (fun u_2 H locs h_3 hP hD hS => ?_)
  have hP : va_P g.1 vwCl [(oX4 h0 q0 q1 (nI mm)), (aI g q0 24 f), (oX6 p0 p1 p2 p3 p4 (nI w)), (aI g p1 24 sd), (aI g p2 10 fn), (aI g p3 6 st), (aI g p4 6 me), (oX5 t0 t1 t2 pw), (aI g t1 6 pd), (aI g t2 36 wb), (aI g q1 6 (flF (fun _ => 0) sh 6))] H := hP
  have hD : va_D A [(oX4 h0 q0 q1 (nI mm)), (aI g q0 24 f), (oX6 p0 p1 p2 p3 p4 (nI w)), (aI g p1 24 sd), (aI g p2 10 fn), (aI g p3 6 st), (aI g p4 6 me), (oX5 t0 t1 t2 pw), (aI g t1 6 pd), (aI g t2 36 wb), (aI g q1 6 (flF (fun _ => 0) sh 6))] := hD
  refine lv_aload_n hx hb dX4_pass_8 rfl (lv_at hl 0 rfl) ?_
  refine lv_iconst (v := 2) hx hb dX4_pass_9 (by decide) ?_
  refine lv_iconst (v := 0) hx hb dX4_pass_10 (by decide) ?_
  refine lv_aload_n hx hb dX4_pass_11 rfl (lv_at hl 0 rfl) ?_
  refine va_get (v := .ref q0) (T := TX4) (N := 3) hx hb hts inX4 hown hK hP 0 rfl rfl 0 (by decide) f9 (fun _ h9 => h9) rfl dX4_pass_12 ?_
  refine lv_iconst (v := 3) hx hb dX4_pass_15 (by decide) ?_
  refine he_iald hx hb hK hP 1 rfl (3) (by decide) (by decide) (by first | decide | assumption) (f 3) rfl dX4_pass_16 ?_
  refine lv_aload_n hx hb dX4_pass_17 rfl (lv_at hl 1 rfl) ?_
  refine va_get (v := .ref p1) (T := TX6) (N := 5) hx hb hts inX6 hown hK hP 2 rfl rfl 0 (by decide) f28 (fun _ h9 => h9) rfl dX4_pass_18 ?_
  refine lv_bipush (v := 10) hx hb dX4_pass_21 (by decide) ?_
  refine he_iald hx hb hK hP 3 rfl (10) (by decide) (by decide) (by first | decide | assumption) (sd 10) rfl dX4_pass_23 ?_
  refine lv_imul hx hb dX4_pass_24 ?_
  refine lv_aload_n hx hb dX4_pass_25 rfl (lv_at hl 0 rfl) ?_
  refine va_get (v := .ref q0) (T := TX4) (N := 3) hx hb hts inX4 hown hK hP 0 rfl rfl 0 (by decide) f9 (fun _ h9 => h9) rfl dX4_pass_26 ?_
  refine lv_iconst (v := 5) hx hb dX4_pass_29 (by decide) ?_
  refine he_iald hx hb hK hP 1 rfl (5) (by decide) (by decide) (by first | decide | assumption) (f 5) rfl dX4_pass_30 ?_
  refine lv_imul hx hb dX4_pass_31 ?_
  refine lv_sipush (v := 10000) hx hb dX4_pass_32 (by decide) ?_
  refine lv_idiv hx hb dX4_pass_35 (by decide) ?_
  refine he_cv (wc := [(oX4 h0 q0 q1 (nI mm)), (aI g q0 24 f)]) (wr := [(oX6 p0 p1 p2 p3 p4 (nI w)), (aI g p1 24 sd), (aI g p2 10 fn), (aI g p3 6 st), (aI g p4 6 me), (oX5 t0 t1 t2 pw), (aI g t1 6 pd), (aI g t2 36 wb), (aI g q1 6 (flF (fun _ => 0) sh 6))]) (va_runV (As := [.int 2, .int 0, .int ((((f 3) * (sd 10)) * (f 5)) / 10000)]) (rest := []) ⟨hx, hb, hml, hown, hts⟩ (c_X4_move l g h0 q0 q1 (nI mm) f 2 0 ((((f 3) * (sd 10)) * (f 5)) / 10000) (by first | assumption | decide | omega) (by first | assumption | decide | omega) H.size) (cwV 3 hts gX4_pass_X4_move rfl rfl rfl (by decide +kernel) ⟨Nat.le_of_ble_eq_true rfl, Nat.le_of_ble_eq_true rfl⟩) (he_preV (wc := [(oX4 h0 q0 q1 (nI mm)), (aI g q0 24 f)]) hK hP hD hS hA hE [0, 1] rfl rfl 0 rfl rfl) rfl rfl hl.1 rfl (lv_room (Nat.le_of_ble_eq_true rfl)) dX4_pass_36 ⟨(Nat.le_of_ble_eq_true rfl), (Nat.le_of_ble_eq_true rfl)⟩) hP hD hS hA [0, 1] [2, 3, 4, 5, 6, 7, 8, 9, 10] rfl rfl rfl (by decide) (fun u_5 H locs h_6 hP hD hS => ?_)
  have hP : va_P g.1 vwCl [(oX6 p0 p1 p2 p3 p4 (nI w)), (aI g p1 24 sd), (aI g p2 10 fn), (aI g p3 6 st), (aI g p4 6 me), (oX5 t0 t1 t2 pw), (aI g t1 6 pd), (aI g t2 36 wb), (aI g q1 6 (flF (fun _ => 0) sh 6)), (oX4 h0 q0 q1 (nI mm)), (aI g q0 24 (mvF f 2 0 ((((f 3) * (sd 10)) * (f 5)) / 10000)))] H := hP
  have hD : va_D A [(oX6 p0 p1 p2 p3 p4 (nI w)), (aI g p1 24 sd), (aI g p2 10 fn), (aI g p3 6 st), (aI g p4 6 me), (oX5 t0 t1 t2 pw), (aI g t1 6 pd), (aI g t2 36 wb), (aI g q1 6 (flF (fun _ => 0) sh 6)), (oX4 h0 q0 q1 (nI mm)), (aI g q0 24 (mvF f 2 0 ((((f 3) * (sd 10)) * (f 5)) / 10000)))] := hD
  have hP : va_P g.1 vwCl [(oX6 p0 p1 p2 p3 p4 (nI w)), (aI g p1 24 sd), (aI g p2 10 fn), (aI g p3 6 st), (aI g p4 6 me), (oX5 t0 t1 t2 pw), (aI g t1 6 pd), (aI g t2 36 wb), (aI g q1 6 (flF (fun _ => 0) sh 6)), (oX4 h0 q0 q1 (nI mm)), (aI g q0 24 (rTax (tOf sd fn) f))] H := hP
  have hD : va_D A [(oX6 p0 p1 p2 p3 p4 (nI w)), (aI g p1 24 sd), (aI g p2 10 fn), (aI g p3 6 st), (aI g p4 6 me), (oX5 t0 t1 t2 pw), (aI g t1 6 pd), (aI g t2 36 wb), (aI g q1 6 (flF (fun _ => 0) sh 6)), (oX4 h0 q0 q1 (nI mm)), (aI g q0 24 (rTax (tOf sd fn) f))] := hD
  have join71 : ∀ (F : Nat → Int32) (G : Nat → Int32), (eqP nP F (rUnd (tOf sd fn) st (cOf pd) (wb (mm - sg)) q2 ck w (nI mm) (rTax (tOf sd fn) f) (flF (fun _ => 0) sh 6))) → (∀ j, j < 6 → G j = (rUndG (tOf sd fn) st (cOf pd) (wb (mm - sg)) q2 ck w (nI mm) (rTax (tOf sd fn) f) (flF (fun _ => 0) sh 6)) j) → (F 11 = f 11) → ∀ (H : Heap) (locs : List Loc) (ls : Array Slot), va_P g.1 vwCl [(oX6 p0 p1 p2 p3 p4 (nI w)), (aI g p1 24 sd), (aI g p2 10 fn), (aI g p3 6 st), (aI g p4 6 me), (oX5 t0 t1 t2 pw), (aI g t1 6 pd), (aI g t2 36 wb), (aI g q1 6 G), (oX4 h0 q0 q1 (nI mm)), (aI g q0 24 F)] H → va_D A [(oX6 p0 p1 p2 p3 p4 (nI w)), (aI g p1 24 sd), (aI g p2 10 fn), (aI g p3 6 st), (aI g p4 6 me), (oX5 t0 t1 t2 pw), (aI g t1 6 pd), (aI g t2 36 wb), (aI g q1 6 G), (oX4 h0 q0 q1 (nI mm)), (aI g q0 24 F)] → va_S A s.heap H locs → lv_has ls 3 [(0, .ref h0), (1, .ref p0), (2, .ref t0)] → W p l e (he_room 4 88 0 0) s m args below meth c H locs 0 0 Q (F0 m 71 ls []) := by
    intro F G hU hG hs9 H locs ls hP hD hS hl
    have h5 : ∃ x, x ≤ 100 ∧ F 5 = nI x := by rw [hU 5 ⟨by decide, by decide⟩]; exact (bd_und hbw hw6 (by omega) hT hC (bd_tax hT hBd)).2.2.1
    have hZ : eqP nP (psT sd st me w F) (rTail (tOf sd fn) st me w (rUnd (tOf sd fn) st (cOf pd) (wb (mm - sg)) q2 ck w (nI mm) (rTax (tOf sd fn) f) (flF (fun _ => 0) sh 6))) := by rw [tail_eq hT h5]; exact cg_tail nP_in (fun _ _ _ => rfl) (fun _ _ => rfl) (fun _ _ => rfl) hw6 hU
    refine lv_aload_n hx hb dX4_pass_71 rfl (lv_at hl 0 rfl) ?_
    refine va_get (v := .ref q0) (T := TX4) (N := 3) hx hb hts inX4 hown hK hP 9 rfl rfl 0 (by decide) f9 (fun _ h9 => h9) rfl dX4_pass_72 ?_
    refine lv_iconst (v := 5) hx hb dX4_pass_75 (by decide) ?_
    refine lv_iconst (v := 0) hx hb dX4_pass_76 (by decide) ?_
    refine lv_aload_n hx hb dX4_pass_77 rfl (lv_at hl 0 rfl) ?_
    refine va_get (v := .ref q0) (T := TX4) (N := 3) hx hb hts inX4 hown hK hP 9 rfl rfl 0 (by decide) f9 (fun _ h9 => h9) rfl dX4_pass_78 ?_
    refine lv_iconst (v := 5) hx hb dX4_pass_81 (by decide) ?_
    refine he_iald hx hb hK hP 10 rfl (5) (by decide) (by decide) (by first | decide | assumption) (F 5) rfl dX4_pass_82 ?_
    refine lv_aload_n hx hb dX4_pass_83 rfl (lv_at hl 1 rfl) ?_
    refine va_get (v := .ref p1) (T := TX6) (N := 5) hx hb hts inX6 hown hK hP 0 rfl rfl 0 (by decide) f28 (fun _ h9 => h9) rfl dX4_pass_84 ?_
    refine lv_bipush (v := 14) hx hb dX4_pass_87 (by decide) ?_
    refine he_iald hx hb hK hP 1 rfl (14) (by decide) (by decide) (by first | decide | assumption) (sd 14) rfl dX4_pass_89 ?_
    refine lv_isub hx hb dX4_pass_90 ?_
    refine va_mmax hx hb (by rw [hml]; exact hl.1.symm) hown ml68 msmax mi mcmax (by decide) (Nat.le_of_ble_eq_true rfl) (Nat.le_of_ble_eq_true rfl) (Nat.le_of_ble_eq_true rfl) dX4_pass_91 ?_
    refine he_iast hx hb hK hP hD hS 10 rfl (5) (by decide) (by decide) (by first | decide | assumption) dX4_pass_94 (fun H locs hP hD hS => ?_)
    have hP : va_P g.1 vwCl [(oX6 p0 p1 p2 p3 p4 (nI w)), (aI g p1 24 sd), (aI g p2 10 fn), (aI g p3 6 st), (aI g p4 6 me), (oX5 t0 t1 t2 pw), (aI g t1 6 pd), (aI g t2 36 wb), (aI g q1 6 G), (oX4 h0 q0 q1 (nI mm)), (aI g q0 24 (upd F 5 (if 0 < ((F 5) - (sd 14)) then (F 5) - (sd 14) else 0)))] H := hP
    have hD : va_D A [(oX6 p0 p1 p2 p3 p4 (nI w)), (aI g p1 24 sd), (aI g p2 10 fn), (aI g p3 6 st), (aI g p4 6 me), (oX5 t0 t1 t2 pw), (aI g t1 6 pd), (aI g t2 36 wb), (aI g q1 6 G), (oX4 h0 q0 q1 (nI mm)), (aI g q0 24 (upd F 5 (if 0 < ((F 5) - (sd 14)) then (F 5) - (sd 14) else 0)))] := hD
    have hP : va_P g.1 vwCl [(oX6 p0 p1 p2 p3 p4 (nI w)), (aI g p1 24 sd), (aI g p2 10 fn), (aI g p3 6 st), (aI g p4 6 me), (oX5 t0 t1 t2 pw), (aI g t1 6 pd), (aI g t2 36 wb), (aI g q1 6 G), (oX4 h0 q0 q1 (nI mm)), (aI g q0 24 (psA sd F))] H := hP
    have hD : va_D A [(oX6 p0 p1 p2 p3 p4 (nI w)), (aI g p1 24 sd), (aI g p2 10 fn), (aI g p3 6 st), (aI g p4 6 me), (oX5 t0 t1 t2 pw), (aI g t1 6 pd), (aI g t2 36 wb), (aI g q1 6 G), (oX4 h0 q0 q1 (nI mm)), (aI g q0 24 (psA sd F))] := hD
    refine lv_aload_n hx hb dX4_pass_95 rfl (lv_at hl 0 rfl) ?_
    refine lv_aload_n hx hb dX4_pass_96 rfl (lv_at hl 1 rfl) ?_
    refine he_cv (wc := [(oX4 h0 q0 q1 (nI mm)), (aI g q0 24 (psA sd F)), (oX6 p0 p1 p2 p3 p4 (nI w)), (aI g p1 24 sd), (aI g p3 6 st), (aI g p4 6 me)]) (wr := [(aI g p2 10 fn), (oX5 t0 t1 t2 pw), (aI g t1 6 pd), (aI g t2 36 wb), (aI g q1 6 G)]) (va_runV (As := [.ref p0]) (rest := []) ⟨hx, hb, hml, hown, hts⟩ (c_X4_mend l g h0 q0 q1 (nI mm) (psA sd F) p0 p1 p2 p3 p4 w sd st me (by first | assumption | decide | omega) H.size) (cwV 1 hts gX4_pass_X4_mend rfl rfl rfl (by decide +kernel) ⟨Nat.le_of_ble_eq_true rfl, Nat.le_of_ble_eq_true rfl⟩) (he_preV (wc := [(oX4 h0 q0 q1 (nI mm)), (aI g q0 24 (psA sd F)), (oX6 p0 p1 p2 p3 p4 (nI w)), (aI g p1 24 sd), (aI g p3 6 st), (aI g p4 6 me)]) hK hP hD hS hA hE [9, 10, 0, 1, 3, 4] rfl rfl 9 rfl rfl) rfl rfl hl.1 rfl (lv_room (Nat.le_of_ble_eq_true rfl)) dX4_pass_97 ⟨(Nat.le_of_ble_eq_true rfl), (Nat.le_of_ble_eq_true rfl)⟩) hP hD hS hA [9, 10, 0, 1, 3, 4] [2, 5, 6, 7, 8] rfl rfl rfl (by decide) (fun u_8 H locs h_9 hP hD hS => ?_)
    have hP : va_P g.1 vwCl [(aI g p2 10 fn), (oX5 t0 t1 t2 pw), (aI g t1 6 pd), (aI g t2 36 wb), (aI g q1 6 G), (oX4 h0 q0 q1 (nI mm)), (aI g q0 24 (mendF sd st me (psA sd F) w)), (oX6 p0 p1 p2 p3 p4 (nI w)), (aI g p1 24 sd), (aI g p3 6 st), (aI g p4 6 me)] H := hP
    have hD : va_D A [(aI g p2 10 fn), (oX5 t0 t1 t2 pw), (aI g t1 6 pd), (aI g t2 36 wb), (aI g q1 6 G), (oX4 h0 q0 q1 (nI mm)), (aI g q0 24 (mendF sd st me (psA sd F) w)), (oX6 p0 p1 p2 p3 p4 (nI w)), (aI g p1 24 sd), (aI g p3 6 st), (aI g p4 6 me)] := hD
    refine lv_aload_n hx hb dX4_pass_100 rfl (lv_at hl 0 rfl) ?_
    refine lv_iconst (v := 0) hx hb dX4_pass_101 (by decide) ?_
    refine lv_iconst (v := 2) hx hb dX4_pass_102 (by decide) ?_
    refine lv_aload_n hx hb dX4_pass_103 rfl (lv_at hl 1 rfl) ?_
    refine va_get (v := .ref p1) (T := TX6) (N := 5) hx hb hts inX6 hown hK hP 7 rfl rfl 0 (by decide) f28 (fun _ h9 => h9) rfl dX4_pass_104 ?_
    refine lv_iconst (v := 5) hx hb dX4_pass_107 (by decide) ?_
    refine he_iald hx hb hK hP 8 rfl (5) (by decide) (by decide) (by first | decide | assumption) (sd 5) rfl dX4_pass_108 ?_
    refine lv_aload_n hx hb dX4_pass_109 rfl (lv_at hl 0 rfl) ?_
    refine va_get (v := .ref q0) (T := TX4) (N := 3) hx hb hts inX4 hown hK hP 5 rfl rfl 0 (by decide) f9 (fun _ h9 => h9) rfl dX4_pass_110 ?_
    refine lv_iconst (v := 3) hx hb dX4_pass_113 (by decide) ?_
    refine he_iald hx hb hK hP 6 rfl (3) (by decide) (by decide) (by first | decide | assumption) ((mendF sd st me (psA sd F) w) 3) rfl dX4_pass_114 ?_
    refine lv_bipush (v := 10) hx hb dX4_pass_115 (by decide) ?_
    refine lv_idiv hx hb dX4_pass_117 (by decide) ?_
    refine lv_imul hx hb dX4_pass_118 ?_
    refine he_cv (wc := [(oX4 h0 q0 q1 (nI mm)), (aI g q0 24 (mendF sd st me (psA sd F) w))]) (wr := [(aI g p2 10 fn), (oX5 t0 t1 t2 pw), (aI g t1 6 pd), (aI g t2 36 wb), (aI g q1 6 G), (oX6 p0 p1 p2 p3 p4 (nI w)), (aI g p1 24 sd), (aI g p3 6 st), (aI g p4 6 me)]) (va_runV (As := [.int 0, .int 2, .int ((sd 5) * (((mendF sd st me (psA sd F) w) 3) / 10))]) (rest := []) ⟨hx, hb, hml, hown, hts⟩ (c_X4_move l g h0 q0 q1 (nI mm) (mendF sd st me (psA sd F) w) 0 2 ((sd 5) * (((mendF sd st me (psA sd F) w) 3) / 10)) (by first | assumption | decide | omega) (by first | assumption | decide | omega) H.size) (cwV 3 hts gX4_pass_X4_move rfl rfl rfl (by decide +kernel) ⟨Nat.le_of_ble_eq_true rfl, Nat.le_of_ble_eq_true rfl⟩) (he_preV (wc := [(oX4 h0 q0 q1 (nI mm)), (aI g q0 24 (mendF sd st me (psA sd F) w))]) hK hP hD hS hA hE [5, 6] rfl rfl 5 rfl rfl) rfl rfl hl.1 rfl (lv_room (Nat.le_of_ble_eq_true rfl)) dX4_pass_119 ⟨(Nat.le_of_ble_eq_true rfl), (Nat.le_of_ble_eq_true rfl)⟩) hP hD hS hA [5, 6] [0, 1, 2, 3, 4, 7, 8, 9, 10] rfl rfl rfl (by decide) (fun u_11 H locs h_12 hP hD hS => ?_)
    have hP : va_P g.1 vwCl [(aI g p2 10 fn), (oX5 t0 t1 t2 pw), (aI g t1 6 pd), (aI g t2 36 wb), (aI g q1 6 G), (oX6 p0 p1 p2 p3 p4 (nI w)), (aI g p1 24 sd), (aI g p3 6 st), (aI g p4 6 me), (oX4 h0 q0 q1 (nI mm)), (aI g q0 24 (mvF (mendF sd st me (psA sd F) w) 0 2 ((sd 5) * (((mendF sd st me (psA sd F) w) 3) / 10))))] H := hP
    have hD : va_D A [(aI g p2 10 fn), (oX5 t0 t1 t2 pw), (aI g t1 6 pd), (aI g t2 36 wb), (aI g q1 6 G), (oX6 p0 p1 p2 p3 p4 (nI w)), (aI g p1 24 sd), (aI g p3 6 st), (aI g p4 6 me), (oX4 h0 q0 q1 (nI mm)), (aI g q0 24 (mvF (mendF sd st me (psA sd F) w) 0 2 ((sd 5) * (((mendF sd st me (psA sd F) w) 3) / 10))))] := hD
    have hP : va_P g.1 vwCl [(aI g p2 10 fn), (oX5 t0 t1 t2 pw), (aI g t1 6 pd), (aI g t2 36 wb), (aI g q1 6 G), (oX6 p0 p1 p2 p3 p4 (nI w)), (aI g p1 24 sd), (aI g p3 6 st), (aI g p4 6 me), (oX4 h0 q0 q1 (nI mm)), (aI g q0 24 (psB sd (mendF sd st me (psA sd F) w)))] H := hP
    have hD : va_D A [(aI g p2 10 fn), (oX5 t0 t1 t2 pw), (aI g t1 6 pd), (aI g t2 36 wb), (aI g q1 6 G), (oX6 p0 p1 p2 p3 p4 (nI w)), (aI g p1 24 sd), (aI g p3 6 st), (aI g p4 6 me), (oX4 h0 q0 q1 (nI mm)), (aI g q0 24 (psB sd (mendF sd st me (psA sd F) w)))] := hD
    refine lv_aload_n hx hb dX4_pass_122 rfl (lv_at hl 0 rfl) ?_
    refine lv_iconst (v := 1) hx hb dX4_pass_123 (by decide) ?_
    refine lv_iconst (v := 2) hx hb dX4_pass_124 (by decide) ?_
    refine lv_aload_n hx hb dX4_pass_125 rfl (lv_at hl 1 rfl) ?_
    refine va_get (v := .ref p1) (T := TX6) (N := 5) hx hb hts inX6 hown hK hP 5 rfl rfl 0 (by decide) f28 (fun _ h9 => h9) rfl dX4_pass_126 ?_
    refine lv_bipush (v := 8) hx hb dX4_pass_129 (by decide) ?_
    refine he_iald hx hb hK hP 6 rfl (8) (by decide) (by decide) (by first | decide | assumption) (sd 8) rfl dX4_pass_131 ?_
    refine lv_aload_n hx hb dX4_pass_132 rfl (lv_at hl 0 rfl) ?_
    refine va_get (v := .ref q0) (T := TX4) (N := 3) hx hb hts inX4 hown hK hP 9 rfl rfl 0 (by decide) f9 (fun _ h9 => h9) rfl dX4_pass_133 ?_
    refine lv_iconst (v := 4) hx hb dX4_pass_136 (by decide) ?_
    refine he_iald hx hb hK hP 10 rfl (4) (by decide) (by decide) (by first | decide | assumption) ((psB sd (mendF sd st me (psA sd F) w)) 4) rfl dX4_pass_137 ?_
    refine lv_bipush (v := 10) hx hb dX4_pass_138 (by decide) ?_
    refine lv_idiv hx hb dX4_pass_140 (by decide) ?_
    refine lv_imul hx hb dX4_pass_141 ?_
    refine he_cv (wc := [(oX4 h0 q0 q1 (nI mm)), (aI g q0 24 (psB sd (mendF sd st me (psA sd F) w)))]) (wr := [(aI g p2 10 fn), (oX5 t0 t1 t2 pw), (aI g t1 6 pd), (aI g t2 36 wb), (aI g q1 6 G), (oX6 p0 p1 p2 p3 p4 (nI w)), (aI g p1 24 sd), (aI g p3 6 st), (aI g p4 6 me)]) (va_runV (As := [.int 1, .int 2, .int ((sd 8) * (((psB sd (mendF sd st me (psA sd F) w)) 4) / 10))]) (rest := []) ⟨hx, hb, hml, hown, hts⟩ (c_X4_move l g h0 q0 q1 (nI mm) (psB sd (mendF sd st me (psA sd F) w)) 1 2 ((sd 8) * (((psB sd (mendF sd st me (psA sd F) w)) 4) / 10)) (by first | assumption | decide | omega) (by first | assumption | decide | omega) H.size) (cwV 3 hts gX4_pass_X4_move rfl rfl rfl (by decide +kernel) ⟨Nat.le_of_ble_eq_true rfl, Nat.le_of_ble_eq_true rfl⟩) (he_preV (wc := [(oX4 h0 q0 q1 (nI mm)), (aI g q0 24 (psB sd (mendF sd st me (psA sd F) w)))]) hK hP hD hS hA hE [9, 10] rfl rfl 9 rfl rfl) rfl rfl hl.1 rfl (lv_room (Nat.le_of_ble_eq_true rfl)) dX4_pass_142 ⟨(Nat.le_of_ble_eq_true rfl), (Nat.le_of_ble_eq_true rfl)⟩) hP hD hS hA [9, 10] [0, 1, 2, 3, 4, 5, 6, 7, 8] rfl rfl rfl (by decide) (fun u_14 H locs h_15 hP hD hS => ?_)
    have hP : va_P g.1 vwCl [(aI g p2 10 fn), (oX5 t0 t1 t2 pw), (aI g t1 6 pd), (aI g t2 36 wb), (aI g q1 6 G), (oX6 p0 p1 p2 p3 p4 (nI w)), (aI g p1 24 sd), (aI g p3 6 st), (aI g p4 6 me), (oX4 h0 q0 q1 (nI mm)), (aI g q0 24 (mvF (psB sd (mendF sd st me (psA sd F) w)) 1 2 ((sd 8) * (((psB sd (mendF sd st me (psA sd F) w)) 4) / 10))))] H := hP
    have hD : va_D A [(aI g p2 10 fn), (oX5 t0 t1 t2 pw), (aI g t1 6 pd), (aI g t2 36 wb), (aI g q1 6 G), (oX6 p0 p1 p2 p3 p4 (nI w)), (aI g p1 24 sd), (aI g p3 6 st), (aI g p4 6 me), (oX4 h0 q0 q1 (nI mm)), (aI g q0 24 (mvF (psB sd (mendF sd st me (psA sd F) w)) 1 2 ((sd 8) * (((psB sd (mendF sd st me (psA sd F) w)) 4) / 10))))] := hD
    have hP : va_P g.1 vwCl [(aI g p2 10 fn), (oX5 t0 t1 t2 pw), (aI g t1 6 pd), (aI g t2 36 wb), (aI g q1 6 G), (oX6 p0 p1 p2 p3 p4 (nI w)), (aI g p1 24 sd), (aI g p3 6 st), (aI g p4 6 me), (oX4 h0 q0 q1 (nI mm)), (aI g q0 24 (psC sd (psB sd (mendF sd st me (psA sd F) w))))] H := hP
    have hD : va_D A [(aI g p2 10 fn), (oX5 t0 t1 t2 pw), (aI g t1 6 pd), (aI g t2 36 wb), (aI g q1 6 G), (oX6 p0 p1 p2 p3 p4 (nI w)), (aI g p1 24 sd), (aI g p3 6 st), (aI g p4 6 me), (oX4 h0 q0 q1 (nI mm)), (aI g q0 24 (psC sd (psB sd (mendF sd st me (psA sd F) w))))] := hD
    refine lv_aload_n hx hb dX4_pass_145 rfl (lv_at hl 0 rfl) ?_
    refine lv_aload_n hx hb dX4_pass_146 rfl (lv_at hl 1 rfl) ?_
    refine va_get (v := .ref p1) (T := TX6) (N := 5) hx hb hts inX6 hown hK hP 5 rfl rfl 0 (by decide) f28 (fun _ h9 => h9) rfl dX4_pass_147 ?_
    refine lv_bipush (v := 8) hx hb dX4_pass_150 (by decide) ?_
    refine he_iald hx hb hK hP 6 rfl (8) (by decide) (by decide) (by first | decide | assumption) (sd 8) rfl dX4_pass_152 ?_
    refine lv_aload_n hx hb dX4_pass_153 rfl (lv_at hl 1 rfl) ?_
    refine va_get (v := .ref p1) (T := TX6) (N := 5) hx hb hts inX6 hown hK hP 5 rfl rfl 0 (by decide) f28 (fun _ h9 => h9) rfl dX4_pass_154 ?_
    refine lv_iconst (v := 5) hx hb dX4_pass_157 (by decide) ?_
    refine he_iald hx hb hK hP 6 rfl (5) (by decide) (by decide) (by first | decide | assumption) (sd 5) rfl dX4_pass_158 ?_
    refine lv_isub hx hb dX4_pass_159 ?_
    refine he_cv (wc := [(oX4 h0 q0 q1 (nI mm)), (aI g q0 24 (psC sd (psB sd (mendF sd st me (psA sd F) w))))]) (wr := [(aI g p2 10 fn), (oX5 t0 t1 t2 pw), (aI g t1 6 pd), (aI g t2 36 wb), (aI g q1 6 G), (oX6 p0 p1 p2 p3 p4 (nI w)), (aI g p1 24 sd), (aI g p3 6 st), (aI g p4 6 me)]) (va_runV (As := [.int ((sd 8) - (sd 5))]) (rest := []) ⟨hx, hb, hml, hown, hts⟩ (c_X4_desert l g h0 q0 q1 (nI mm) (psC sd (psB sd (mendF sd st me (psA sd F) w))) ((sd 8) - (sd 5)) H.size) (cwV 1 hts gX4_pass_X4_desert rfl rfl rfl (by decide +kernel) ⟨Nat.le_of_ble_eq_true rfl, Nat.le_of_ble_eq_true rfl⟩) (he_preV (wc := [(oX4 h0 q0 q1 (nI mm)), (aI g q0 24 (psC sd (psB sd (mendF sd st me (psA sd F) w))))]) hK hP hD hS hA hE [9, 10] rfl rfl 9 rfl rfl) rfl rfl hl.1 rfl (lv_room (Nat.le_of_ble_eq_true rfl)) dX4_pass_160 ⟨(Nat.le_of_ble_eq_true rfl), (Nat.le_of_ble_eq_true rfl)⟩) hP hD hS hA [9, 10] [0, 1, 2, 3, 4, 5, 6, 7, 8] rfl rfl rfl (by decide) (fun u_17 H locs h_18 hP hD hS => ?_)
    have hP : va_P g.1 vwCl [(aI g p2 10 fn), (oX5 t0 t1 t2 pw), (aI g t1 6 pd), (aI g t2 36 wb), (aI g q1 6 G), (oX6 p0 p1 p2 p3 p4 (nI w)), (aI g p1 24 sd), (aI g p3 6 st), (aI g p4 6 me), (oX4 h0 q0 q1 (nI mm)), (aI g q0 24 (dsF (psC sd (psB sd (mendF sd st me (psA sd F) w))) ((sd 8) - (sd 5))))] H := hP
    have hD : va_D A [(aI g p2 10 fn), (oX5 t0 t1 t2 pw), (aI g t1 6 pd), (aI g t2 36 wb), (aI g q1 6 G), (oX6 p0 p1 p2 p3 p4 (nI w)), (aI g p1 24 sd), (aI g p3 6 st), (aI g p4 6 me), (oX4 h0 q0 q1 (nI mm)), (aI g q0 24 (dsF (psC sd (psB sd (mendF sd st me (psA sd F) w))) ((sd 8) - (sd 5))))] := hD
    have hP : va_P g.1 vwCl [(aI g p2 10 fn), (oX5 t0 t1 t2 pw), (aI g t1 6 pd), (aI g t2 36 wb), (aI g q1 6 G), (oX6 p0 p1 p2 p3 p4 (nI w)), (aI g p1 24 sd), (aI g p3 6 st), (aI g p4 6 me), (oX4 h0 q0 q1 (nI mm)), (aI g q0 24 (psT sd st me w F))] H := hP
    have hD : va_D A [(aI g p2 10 fn), (oX5 t0 t1 t2 pw), (aI g t1 6 pd), (aI g t2 36 wb), (aI g q1 6 G), (oX6 p0 p1 p2 p3 p4 (nI w)), (aI g p1 24 sd), (aI g p3 6 st), (aI g p4 6 me), (oX4 h0 q0 q1 (nI mm)), (aI g q0 24 (psT sd st me w F))] := hD
    refine lv_aload_n hx hb dX4_pass_163 rfl (lv_at hl 0 rfl) ?_
    refine lv_dup hx hb dX4_pass_164 rfl ?_
    refine va_get (v := .int (nI mm)) (T := TX4) (N := 3) hx hb hts inX4 hown hK hP 9 rfl rfl 2 (by decide) f18 (fun _ h9 => h9) rfl dX4_pass_165 ?_
    refine lv_iconst (v := 1) hx hb dX4_pass_168 (by decide) ?_
    refine lv_iadd hx hb dX4_pass_169 ?_
    refine he_top (nI (mm + 1)) (nI_add mm 1) ?_
    refine va_put (v := .int (nI (mm + 1))) (ty := .int) (T := TX4) (N := 3) hx hb hts inX4 tyX4 tyX4_ok nmX4 hown hK hP hD hS 9 rfl rfl 2 (by decide) f18 (fun _ h9 => h9) rfl (by decide +kernel) rfl rfl (Nat.le_of_ble_eq_true rfl) dX4_pass_170 (fun H locs hP hD hS => ?_)
    have hP : va_P g.1 vwCl [(aI g p2 10 fn), (oX5 t0 t1 t2 pw), (aI g t1 6 pd), (aI g t2 36 wb), (aI g q1 6 G), (oX6 p0 p1 p2 p3 p4 (nI w)), (aI g p1 24 sd), (aI g p3 6 st), (aI g p4 6 me), (oX4 h0 q0 q1 (nI (mm + 1))), (aI g q0 24 (psT sd st me w F))] H := hP
    have hD : va_D A [(aI g p2 10 fn), (oX5 t0 t1 t2 pw), (aI g t1 6 pd), (aI g t2 36 wb), (aI g q1 6 G), (oX6 p0 p1 p2 p3 p4 (nI w)), (aI g p1 24 sd), (aI g p3 6 st), (aI g p4 6 me), (oX4 h0 q0 q1 (nI (mm + 1))), (aI g q0 24 (psT sd st me w F))] := hD
    refine lv_aload_n hx hb dX4_pass_173 rfl (lv_at hl 2 rfl) ?_
    refine lv_ifnull hx hb dX4_pass_174 ?_
    refine lv_aload_n hx hb dX4_pass_177 rfl (lv_at hl 0 rfl) ?_
    refine va_get (v := .int (nI (mm + 1))) (T := TX4) (N := 3) hx hb hts inX4 hown hK hP 9 rfl rfl 2 (by decide) f18 (fun _ h9 => h9) rfl dX4_pass_178 ?_
    refine lv_aload_n hx hb dX4_pass_181 rfl (lv_at hl 0 rfl) ?_
    refine va_get (v := .ref q0) (T := TX4) (N := 3) hx hb hts inX4 hown hK hP 9 rfl rfl 0 (by decide) f9 (fun _ h9 => h9) rfl dX4_pass_182 ?_
    refine lv_bipush (v := 11) hx hb dX4_pass_185 (by decide) ?_
    refine he_iald hx hb hK hP 10 rfl (11) (by decide) (by decide) (by first | decide | assumption) (nI sg) (by rw [ps_n (by decide) (by decide)]; exact hs9.trans h11) dX4_pass_187 ?_
    refine lv_isub hx hb dX4_pass_188 ?_
    refine he_top (nI (mm + 1 - sg)) (pk_sub (by omega)) ?_
    refine lv_aload_n hx hb dX4_pass_189 rfl (lv_at hl 2 rfl) ?_
    refine va_get (v := .ref t1) (T := TX5) (N := 3) hx hb hts inX5 hown hK hP 1 rfl rfl 0 (by decide) f57 (fun _ h9 => h9) rfl dX4_pass_190 ?_
    refine lv_iconst (v := 5) hx hb dX4_pass_193 (by decide) ?_
    refine he_iald hx hb hK hP 2 rfl (5) (by decide) (by decide) (by first | decide | assumption) (nI q5) hq5 dX4_pass_194 ?_
    refine lv_icmp_lt (tgt := 206) hx hb dX4_pass_195 (by decide) (fun c_19 => ?_) (fun c_19 => ?_)
    · have k_20 : mm + 1 - sg < q5 := (he_clt (a := mm + 1 - sg) (b := q5) rfl rfl (by omega) (by omega)).mp c_19
      have hP := hP.sub (ws' := [(oX4 h0 q0 q1 (nI (mm + 1))), (aI g q0 24 (psT sd st me w F)), (aI g q1 6 G), (oX6 p0 p1 p2 p3 p4 (nI w)), (aI g p1 24 sd), (aI g p2 10 fn), (aI g p3 6 st), (aI g p4 6 me), (oX5 t0 t1 t2 pw), (aI g t1 6 pd), (aI g t2 36 wb)]) [9, 10, 4, 5, 6, 0, 7, 8, 1, 2, 3] rfl
      have hD := hD.sub (ws' := [(oX4 h0 q0 q1 (nI (mm + 1))), (aI g q0 24 (psT sd st me w F)), (aI g q1 6 G), (oX6 p0 p1 p2 p3 p4 (nI w)), (aI g p1 24 sd), (aI g p2 10 fn), (aI g p3 6 st), (aI g p4 6 me), (oX5 t0 t1 t2 pw), (aI g t1 6 pd), (aI g t2 36 wb)]) [9, 10, 4, 5, 6, 0, 7, 8, 1, 2, 3] (by decide) rfl
      exact he_rv hQ hx hb hr hlk hP hD hS dX4_pass_206 (Nat.le_of_ble_eq_true rfl) (Nat.le_of_ble_eq_true rfl) ((psT sd st me w F, G)) (rfl) (⟨end_n (by (try dsimp only); omega) hZ, hG, by (try dsimp only); rw [ps_n (by (try dsimp only); decide) (by (try dsimp only); decide)]; exact hs9⟩)
    · have k_21 : ¬ (mm + 1 - sg < q5) := fun h9 => c_19 ((he_clt (a := mm + 1 - sg) (b := q5) rfl rfl (by omega) (by omega)).mpr h9)
      refine lv_aload_n hx hb dX4_pass_198 rfl (lv_at hl 0 rfl) ?_
      refine va_get (v := .ref q0) (T := TX4) (N := 3) hx hb hts inX4 hown hK hP 9 rfl rfl 0 (by decide) f9 (fun _ h9 => h9) rfl dX4_pass_199 ?_
      refine lv_bipush (v := 10) hx hb dX4_pass_202 (by decide) ?_
      refine lv_iconst (v := (-1)) hx hb dX4_pass_204 (by decide) ?_
      refine he_iast hx hb hK hP hD hS 10 rfl (10) (by decide) (by decide) (by first | decide | assumption) dX4_pass_205 (fun H locs hP hD hS => ?_)
      have hP : va_P g.1 vwCl [(aI g p2 10 fn), (oX5 t0 t1 t2 pw), (aI g t1 6 pd), (aI g t2 36 wb), (aI g q1 6 G), (oX6 p0 p1 p2 p3 p4 (nI w)), (aI g p1 24 sd), (aI g p3 6 st), (aI g p4 6 me), (oX4 h0 q0 q1 (nI (mm + 1))), (aI g q0 24 (upd (psT sd st me w F) 10 (-1)))] H := hP
      have hD : va_D A [(aI g p2 10 fn), (oX5 t0 t1 t2 pw), (aI g t1 6 pd), (aI g t2 36 wb), (aI g q1 6 G), (oX6 p0 p1 p2 p3 p4 (nI w)), (aI g p1 24 sd), (aI g p3 6 st), (aI g p4 6 me), (oX4 h0 q0 q1 (nI (mm + 1))), (aI g q0 24 (upd (psT sd st me w F) 10 (-1)))] := hD
      have hP := hP.sub (ws' := [(oX4 h0 q0 q1 (nI (mm + 1))), (aI g q0 24 (upd (psT sd st me w F) 10 (-1))), (aI g q1 6 G), (oX6 p0 p1 p2 p3 p4 (nI w)), (aI g p1 24 sd), (aI g p2 10 fn), (aI g p3 6 st), (aI g p4 6 me), (oX5 t0 t1 t2 pw), (aI g t1 6 pd), (aI g t2 36 wb)]) [9, 10, 4, 5, 6, 0, 7, 8, 1, 2, 3] rfl
      have hD := hD.sub (ws' := [(oX4 h0 q0 q1 (nI (mm + 1))), (aI g q0 24 (upd (psT sd st me w F) 10 (-1))), (aI g q1 6 G), (oX6 p0 p1 p2 p3 p4 (nI w)), (aI g p1 24 sd), (aI g p2 10 fn), (aI g p3 6 st), (aI g p4 6 me), (oX5 t0 t1 t2 pw), (aI g t1 6 pd), (aI g t2 36 wb)]) [9, 10, 4, 5, 6, 0, 7, 8, 1, 2, 3] (by decide) rfl
      exact he_rv hQ hx hb hr hlk hP hD hS dX4_pass_206 (Nat.le_of_ble_eq_true rfl) (Nat.le_of_ble_eq_true rfl) ((upd (psT sd st me w F) 10 (-1), G)) (rfl) (⟨end_p (by (try dsimp only); omega) hZ, hG, by (try dsimp only); rw [upd_n (by (try dsimp only); decide), ps_n (by (try dsimp only); decide) (by (try dsimp only); decide)]; exact hs9⟩)
  refine lv_aload_n hx hb dX4_pass_39 rfl (lv_at hl 2 rfl) ?_
  refine lv_ifnull hx hb dX4_pass_40 ?_
  refine lv_aload_n hx hb dX4_pass_43 rfl (lv_at hl 0 rfl) ?_
  refine lv_aload_n hx hb dX4_pass_44 rfl (lv_at hl 2 rfl) ?_
  rcases Decidable.em (payF pd (nI mm) ≤ (rTax (tOf sd fn) f) 0) with hs_22 | hs_22
  · refine he_ci (wc := [(oX4 h0 q0 q1 (nI mm)), (aI g q0 24 (rTax (tOf sd fn) f)), (oX5 t0 t1 t2 pw), (aI g t1 6 pd)]) (wr := [(oX6 p0 p1 p2 p3 p4 (nI w)), (aI g p1 24 sd), (aI g p2 10 fn), (aI g p3 6 st), (aI g p4 6 me), (aI g t2 36 wb), (aI g q1 6 (flF (fun _ => 0) sh 6))]) (va_runV (As := [.ref t0]) (rest := []) ⟨hx, hb, hml, hown, hts⟩ (c_X4_isPaid1 l g h0 q0 q1 (nI mm) (rTax (tOf sd fn) f) t0 t1 t2 pw pd (by first | assumption | decide | omega) H.size) (cwV 1 hts gX4_pass_X4_isPaid rfl rfl rfl (by decide +kernel) ⟨Nat.le_of_ble_eq_true rfl, Nat.le_of_ble_eq_true rfl⟩) (he_preV (wc := [(oX4 h0 q0 q1 (nI mm)), (aI g q0 24 (rTax (tOf sd fn) f)), (oX5 t0 t1 t2 pw), (aI g t1 6 pd)]) hK hP hD hS hA hE [9, 10, 5, 6] rfl rfl 9 rfl rfl) rfl rfl hl.1 rfl (lv_room (Nat.le_of_ble_eq_true rfl)) dX4_pass_45 ⟨(Nat.le_of_ble_eq_true rfl), (Nat.le_of_ble_eq_true rfl)⟩) hP hD hS hA [9, 10, 5, 6] [0, 1, 2, 3, 4, 7, 8] rfl rfl rfl (by decide) (fun r_23 u_24 H locs h_25 hP hD hS => ?_)
    subst h_25
    have hP : va_P g.1 vwCl [(oX6 p0 p1 p2 p3 p4 (nI w)), (aI g p1 24 sd), (aI g p2 10 fn), (aI g p3 6 st), (aI g p4 6 me), (aI g t2 36 wb), (aI g q1 6 (flF (fun _ => 0) sh 6)), (oX4 h0 q0 q1 (nI mm)), (aI g q0 24 (mvF (rTax (tOf sd fn) f) 0 1 (payF pd (nI mm)))), (oX5 t0 t1 t2 pw), (aI g t1 6 pd)] H := hP
    have hD : va_D A [(oX6 p0 p1 p2 p3 p4 (nI w)), (aI g p1 24 sd), (aI g p2 10 fn), (aI g p3 6 st), (aI g p4 6 me), (aI g t2 36 wb), (aI g q1 6 (flF (fun _ => 0) sh 6)), (oX4 h0 q0 q1 (nI mm)), (aI g q0 24 (mvF (rTax (tOf sd fn) f) 0 1 (payF pd (nI mm)))), (oX5 t0 t1 t2 pw), (aI g t1 6 pd)] := hD
    refine lv_if_eq (tgt := 71) hx hb dX4_pass_48 (by decide) (fun c_26 => ?_) (fun c_26 => ?_)
    · exact absurd c_26 (by decide)
    · refine lv_aload_n hx hb dX4_pass_51 rfl (lv_at hl 0 rfl) ?_
      refine lv_aload_n hx hb dX4_pass_52 rfl (lv_at hl 1 rfl) ?_
      refine lv_aload_n hx hb dX4_pass_53 rfl (lv_at hl 2 rfl) ?_
      have hB1 : bdF w st (mvF (rTax (tOf sd fn) f) 0 1 (payF pd (nI mm))) := bd_mv (by decide) (by decide) (by decide) (bd_pay hC _) (bd_tax hT hBd)
      refine he_cv (wc := [(oX4 h0 q0 q1 (nI mm)), (aI g q0 24 (mvF (rTax (tOf sd fn) f) 0 1 (payF pd (nI mm)))), (aI g q1 6 (flF (fun _ => 0) sh 6)), (oX6 p0 p1 p2 p3 p4 (nI w)), (aI g p1 24 sd), (aI g p3 6 st), (oX5 t0 t1 t2 pw), (aI g t1 6 pd), (aI g t2 36 wb)]) (wr := [(aI g p2 10 fn), (aI g p4 6 me)]) (va_runV (As := [.ref p0, .ref t0]) (rest := []) ⟨hx, hb, hml, hown, hts⟩ (s_X4_shoot l g h0 q0 q1 (nI mm) (mvF (rTax (tOf sd fn) f) 0 1 (payF pd (nI mm))) (flF (fun _ => 0) sh 6) p0 p1 p2 p3 p4 w sd st t0 t1 t2 pw pd wb ck q2 (mm - sg) (tOf sd fn) (by first | assumption | decide | omega) (by first | assumption | decide | omega) (by first | assumption | decide | omega) (by first | assumption | decide | omega) (by first | assumption | decide | omega) (by omega) (by rw [mvF_n _ _ _ _ _ (by decide) (by decide), show rTax (tOf sd fn) f 11 = f 11 from mvF_n _ _ _ _ _ (by decide) (by decide), h11, pk_sub hsg]) (by first | assumption | decide | omega) (bd_st hBd) (bd_pos hB1) rfl H.size) (cwV 2 hts gX4_pass_X4_shoot rfl rfl rfl (by decide +kernel) ⟨Nat.le_of_ble_eq_true rfl, Nat.le_of_ble_eq_true rfl⟩) (he_preV (wc := [(oX4 h0 q0 q1 (nI mm)), (aI g q0 24 (mvF (rTax (tOf sd fn) f) 0 1 (payF pd (nI mm)))), (aI g q1 6 (flF (fun _ => 0) sh 6)), (oX6 p0 p1 p2 p3 p4 (nI w)), (aI g p1 24 sd), (aI g p3 6 st), (oX5 t0 t1 t2 pw), (aI g t1 6 pd), (aI g t2 36 wb)]) hK hP hD hS hA hE [7, 8, 6, 0, 1, 3, 9, 10, 5] rfl rfl 7 rfl rfl) rfl rfl hl.1 rfl (lv_room (Nat.le_of_ble_eq_true rfl)) dX4_pass_54 ⟨(Nat.le_of_ble_eq_true rfl), (Nat.le_of_ble_eq_true rfl)⟩) hP hD hS hA [7, 8, 6, 0, 1, 3, 9, 10, 5] [2, 4] rfl rfl rfl (by decide) (fun u_28 H locs h_29 hP hD hS => ?_)
      obtain ⟨uf_30, us_31⟩ := u_28
      try dsimp only at h_29
      obtain ⟨hf_32, hf_33⟩ := h_29
      have hP : va_P g.1 vwCl [(aI g p2 10 fn), (aI g p4 6 me), (oX4 h0 q0 q1 (nI mm)), (aI g q0 24 uf_30), (aI g q1 6 us_31), (oX6 p0 p1 p2 p3 p4 (nI w)), (aI g p1 24 sd), (aI g p3 6 st), (oX5 t0 t1 t2 pw), (aI g t1 6 pd), (aI g t2 36 wb)] H := hP
      have hD : va_D A [(aI g p2 10 fn), (aI g p4 6 me), (oX4 h0 q0 q1 (nI mm)), (aI g q0 24 uf_30), (aI g q1 6 us_31), (oX6 p0 p1 p2 p3 p4 (nI w)), (aI g p1 24 sd), (aI g p3 6 st), (oX5 t0 t1 t2 pw), (aI g t1 6 pd), (aI g t2 36 wb)] := hD
      refine lv_aload_n hx hb dX4_pass_57 rfl (lv_at hl 0 rfl) ?_
      refine lv_aload_n hx hb dX4_pass_58 rfl (lv_at hl 1 rfl) ?_
      refine lv_aload_n hx hb dX4_pass_59 rfl (lv_at hl 2 rfl) ?_
      refine va_get (v := .ref t1) (T := TX5) (N := 3) hx hb hts inX5 hown hK hP 8 rfl rfl 0 (by decide) f57 (fun _ h9 => h9) rfl dX4_pass_60 ?_
      refine lv_iconst (v := 2) hx hb dX4_pass_63 (by decide) ?_
      refine he_iald hx hb hK hP 9 rfl (2) (by decide) (by decide) (by first | decide | assumption) (nI q2) hq2 dX4_pass_64 ?_
      refine he_ci (wc := [(oX6 p0 p1 p2 p3 p4 (nI w)), (aI g p2 10 fn)]) (wr := [(aI g p4 6 me), (oX4 h0 q0 q1 (nI mm)), (aI g q0 24 uf_30), (aI g q1 6 us_31), (aI g p1 24 sd), (aI g p3 6 st), (oX5 t0 t1 t2 pw), (aI g t1 6 pd), (aI g t2 36 wb)]) (va_runV (As := [.int (nI q2)]) (rest := [.ref h0]) ⟨hx, hb, hml, hown, hts⟩ (c_X6_fearAt l g p0 p1 p2 p3 p4 (nI w) fn (nI q2) H.size) (cwV 1 hts gX4_pass_X6_fearAt rfl rfl rfl (by decide +kernel) ⟨Nat.le_of_ble_eq_true rfl, Nat.le_of_ble_eq_true rfl⟩) (he_preV (wc := [(oX6 p0 p1 p2 p3 p4 (nI w)), (aI g p2 10 fn)]) hK hP hD hS hA hE [5, 0] rfl rfl 5 rfl rfl) rfl rfl hl.1 rfl (lv_room (Nat.le_of_ble_eq_true rfl)) dX4_pass_65 ⟨(Nat.le_of_ble_eq_true rfl), (Nat.le_of_ble_eq_true rfl)⟩) hP hD hS hA [5, 0] [1, 2, 3, 4, 6, 7, 8, 9, 10] rfl rfl rfl (by decide) (fun r_34 u_35 H locs h_36 hP hD hS => ?_)
      subst h_36
      have hP : va_P g.1 vwCl [(aI g p4 6 me), (oX4 h0 q0 q1 (nI mm)), (aI g q0 24 uf_30), (aI g q1 6 us_31), (aI g p1 24 sd), (aI g p3 6 st), (oX5 t0 t1 t2 pw), (aI g t1 6 pd), (aI g t2 36 wb), (oX6 p0 p1 p2 p3 p4 (nI w)), (aI g p2 10 fn)] H := hP
      have hD : va_D A [(aI g p4 6 me), (oX4 h0 q0 q1 (nI mm)), (aI g q0 24 uf_30), (aI g q1 6 us_31), (aI g p1 24 sd), (aI g p3 6 st), (oX5 t0 t1 t2 pw), (aI g t1 6 pd), (aI g t2 36 wb), (oX6 p0 p1 p2 p3 p4 (nI w)), (aI g p2 10 fn)] := hD
      refine he_cv (wc := [(oX4 h0 q0 q1 (nI mm)), (aI g q0 24 uf_30)]) (wr := [(aI g p4 6 me), (aI g q1 6 us_31), (aI g p1 24 sd), (aI g p3 6 st), (oX5 t0 t1 t2 pw), (aI g t1 6 pd), (aI g t2 36 wb), (oX6 p0 p1 p2 p3 p4 (nI w)), (aI g p2 10 fn)]) (va_runV (As := [.int (faF fn (nI q2))]) (rest := []) ⟨hx, hb, hml, hown, hts⟩ (c_X4_frighten l g h0 q0 q1 (nI mm) uf_30 (faF fn (nI q2)) H.size) (cwV 1 hts gX4_pass_X4_frighten rfl rfl rfl (by decide +kernel) ⟨Nat.le_of_ble_eq_true rfl, Nat.le_of_ble_eq_true rfl⟩) (he_preV (wc := [(oX4 h0 q0 q1 (nI mm)), (aI g q0 24 uf_30)]) hK hP hD hS hA hE [1, 2] rfl rfl 1 rfl rfl) rfl rfl hl.1 rfl (lv_room (Nat.le_of_ble_eq_true rfl)) dX4_pass_68 ⟨(Nat.le_of_ble_eq_true rfl), (Nat.le_of_ble_eq_true rfl)⟩) hP hD hS hA [1, 2] [0, 3, 4, 5, 6, 7, 8, 9, 10] rfl rfl rfl (by decide) (fun u_38 H locs h_39 hP hD hS => ?_)
      have hP : va_P g.1 vwCl [(aI g p4 6 me), (aI g q1 6 us_31), (aI g p1 24 sd), (aI g p3 6 st), (oX5 t0 t1 t2 pw), (aI g t1 6 pd), (aI g t2 36 wb), (oX6 p0 p1 p2 p3 p4 (nI w)), (aI g p2 10 fn), (oX4 h0 q0 q1 (nI mm)), (aI g q0 24 (frF uf_30 (faF fn (nI q2))))] H := hP
      have hD : va_D A [(aI g p4 6 me), (aI g q1 6 us_31), (aI g p1 24 sd), (aI g p3 6 st), (oX5 t0 t1 t2 pw), (aI g t1 6 pd), (aI g t2 36 wb), (oX6 p0 p1 p2 p3 p4 (nI w)), (aI g p2 10 fn), (oX4 h0 q0 q1 (nI mm)), (aI g q0 24 (frF uf_30 (faF fn (nI q2))))] := hD
      exact join71 (frF uf_30 (faF fn (nI q2))) us_31 (by rw [fa_eq hq9, und_p hs_22 hf_32]; exact cg_r) (fun j _ => by rw [und_pG hs_22, hf_33]) ((und_11 hbw hw6 hf_32).trans (mvF_n _ _ _ _ _ (by decide) (by decide))) _ _ _ (hP.sub [7, 2, 8, 3, 0, 4, 5, 6, 1, 9, 10] rfl) (hD.sub [7, 2, 8, 3, 0, 4, 5, 6, 1, 9, 10] (by decide) rfl) hS (lv_sub hl [0, 1, 2] rfl)
  · refine he_ci (wc := [(oX4 h0 q0 q1 (nI mm)), (aI g q0 24 (rTax (tOf sd fn) f)), (oX5 t0 t1 t2 pw), (aI g t1 6 pd)]) (wr := [(oX6 p0 p1 p2 p3 p4 (nI w)), (aI g p1 24 sd), (aI g p2 10 fn), (aI g p3 6 st), (aI g p4 6 me), (aI g t2 36 wb), (aI g q1 6 (flF (fun _ => 0) sh 6))]) (va_runV (As := [.ref t0]) (rest := []) ⟨hx, hb, hml, hown, hts⟩ (c_X4_isPaid0 l g h0 q0 q1 (nI mm) (rTax (tOf sd fn) f) t0 t1 t2 pw pd (by first | assumption | decide | omega) H.size) (cwV 1 hts gX4_pass_X4_isPaid rfl rfl rfl (by decide +kernel) ⟨Nat.le_of_ble_eq_true rfl, Nat.le_of_ble_eq_true rfl⟩) (he_preV (wc := [(oX4 h0 q0 q1 (nI mm)), (aI g q0 24 (rTax (tOf sd fn) f)), (oX5 t0 t1 t2 pw), (aI g t1 6 pd)]) hK hP hD hS hA hE [9, 10, 5, 6] rfl rfl 9 rfl rfl) rfl rfl hl.1 rfl (lv_room (Nat.le_of_ble_eq_true rfl)) dX4_pass_45 ⟨(Nat.le_of_ble_eq_true rfl), (Nat.le_of_ble_eq_true rfl)⟩) hP hD hS hA [9, 10, 5, 6] [0, 1, 2, 3, 4, 7, 8] rfl rfl rfl (by decide) (fun r_40 u_41 H locs h_42 hP hD hS => ?_)
    subst h_42
    have hP : va_P g.1 vwCl [(oX6 p0 p1 p2 p3 p4 (nI w)), (aI g p1 24 sd), (aI g p2 10 fn), (aI g p3 6 st), (aI g p4 6 me), (aI g t2 36 wb), (aI g q1 6 (flF (fun _ => 0) sh 6)), (oX4 h0 q0 q1 (nI mm)), (aI g q0 24 (dfF (rTax (tOf sd fn) f))), (oX5 t0 t1 t2 pw), (aI g t1 6 pd)] H := hP
    have hD : va_D A [(oX6 p0 p1 p2 p3 p4 (nI w)), (aI g p1 24 sd), (aI g p2 10 fn), (aI g p3 6 st), (aI g p4 6 me), (aI g t2 36 wb), (aI g q1 6 (flF (fun _ => 0) sh 6)), (oX4 h0 q0 q1 (nI mm)), (aI g q0 24 (dfF (rTax (tOf sd fn) f))), (oX5 t0 t1 t2 pw), (aI g t1 6 pd)] := hD
    refine lv_if_eq (tgt := 71) hx hb dX4_pass_48 (by decide) (fun c_43 => ?_) (fun c_43 => ?_)
    · exact join71 (dfF (rTax (tOf sd fn) f)) (flF (fun _ => 0) sh 6) (und_d hs_22).1 (fun j _ => by rw [(und_d (sd := sd) (fn := fn) (st := st) (due := wb (mm - sg)) (q := q2) (ck := ck) (w := w) (g := (flF (fun _ => 0) sh 6)) hs_22).2]) (by unfold dfF; rw [upd_n (by decide), upd_n (by decide)]; exact mvF_n _ _ _ _ _ (by decide) (by decide)) _ _ _ (hP.sub [0, 1, 2, 3, 4, 9, 10, 5, 6, 7, 8] rfl) (hD.sub [0, 1, 2, 3, 4, 9, 10, 5, 6, 7, 8] (by decide) rfl) hS (lv_sub hl [0, 1, 2] rfl)
    · exact absurd (by decide) c_43
