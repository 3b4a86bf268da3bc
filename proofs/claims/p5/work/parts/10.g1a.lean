/-- the weakest of the walls 0 .. i -/
def wkI (f : Nat → Int32) : Nat → Nat
  | 0 => 0
  | i + 1 => if f (12 + wkI f i) ≤ f (12 + (i + 1)) then wkI f i else i + 1
theorem wkI_le (f : Nat → Int32) : ∀ i, wkI f i ≤ i
  | 0 => Nat.le_refl 0
  | i + 1 => by
    rw [wkI]
    have := wkI_le f i
    split <;> omega
theorem wkI_s {f : Nat → Int32} {i : Nat} (h : 1 ≤ i) : wkI f i = if f (12 + wkI f (i - 1)) ≤ f (12 + i) then wkI f (i - 1) else i := by
  obtain ⟨k, rfl⟩ : ∃ k, i = k + 1 := ⟨i - 1, by omega⟩
  rfl
/-- a wall that is due: none, or one of them -/
theorem wd_in {wb : Nat → Int32} {x : Int32} {w : Nat} (hw : w ≤ 6) (hb : ∀ k, k < 36 → -1 ≤ wb k) : wdF wb x (nI w) = -1 ∨ ∃ k, k < w ∧ wdF wb x (nI w) = nI k := by
  unfold wdF
  split
  · exact Or.inl rfl
  · rename_i h
    have h1 : -1 ≤ wdX wb x := by
      unfold wdX
      split
      · decide
      · rename_i h2
        exact hb _ (by have := (he_within_nat (B := 35) rfl (by decide) h2).2; omega)
    rcases Decidable.em (wdX wb x < 0) with h3 | h3
    · left
      rw [Int32.le_iff_toInt_le] at h1
      rw [Int32.lt_iff_toInt_lt] at h3
      rw [← Int32.toInt_inj]
      have e1 : (-1 : Int32).toInt = -1 := by decide
      have e0 : (0 : Int32).toInt = 0 := by decide
      omega
    · right
      obtain ⟨j, hj, e⟩ := nI_of h3
      rw [e] at h ⊢
      refine ⟨j, Nat.lt_of_not_le (fun h9 => h ((nI_leI (by omega) hj).mpr h9)), rfl⟩
theorem nI_nm1 {k : Nat} (h : k < 2147483648) : ¬ nI k = -1 := fun h9 => nI_pos h (by rw [h9]; decide)
theorem nI_le0 {k : Nat} (h : k < 2147483648) (h1 : nI k ≤ 0) : k = 0 := by
  have := (nI_leI h (b := 0) (by decide)).mp h1
  omega
set_option maxHeartbeats 4000000 in
set_option maxRecDepth 100000 in
theorem g_X4_weakest (l : Launch) (g : he_G) (h0 : Nat) (q0 : Nat) (q1 : Nat) (mo : Int32) (f : Nat → Int32) (w : Nat) (hw6 : w ≤ 6) : he_I l yX4_weakest wsX4_weakest 0 0 0 0 g [.ref h0, .int (nI w)] [(oX4 h0 q0 q1 mo), (aI g q0 24 f)] (fun (r : Int32) (u : Nat) => r = nI u ∧ (u < w ∨ u = 0)) (fun (u : Nat) => [(oX4 h0 q0 q1 mo), (aI g q0 24 f)]) := by
  refine he_begin (l := l) (g := g) (y := yX4_weakest) (wl := wsX4_weakest) (fr := 0) (lo := 0) (mc := 0) (ms := 0) (av := [.ref h0, .int (nI w)]) (ws := [(oX4 h0 q0 q1 mo), (aI g q0 24 f)]) (cc := cX4_weakest) (maxL := 4) (ret := (some .int)) (fun A => va_Qi (fun (r : Int32) (u : Nat) => r = nI u ∧ (u < w ∨ u = 0)) (fun u t => he_post g A ((fun (u : Nat) => [(oX4 h0 q0 q1 mo), (aI g q0 24 f)]) u) t) A) (by decide) rfl (Nat.le_of_ble_eq_true rfl) ?_
  intro p e s m args below meth c A ls H locs Q hQ hB
  obtain ⟨hx, hb, hr, hml, hown, hts, hlk, hin, hP, hK, hD, hS, hA, hE, hl⟩ := hB
  have hl : lv_has ls 4 [(0, .ref h0), (1, .int (nI w))] := hl
  have f9 := hts (.fieldLink RX4 9 "HiredEnemy$Course" "now" "[I") (iwoX4_weakest (k := 0) rfl)
  have inX4 : ∀ w ∈ wsX40, w ∈ wsX4_weakest := innX4_weakest_X4
  refine lv_iconst (v := 0) hx hb dX4_weakest_0 (by decide) ?_
  refine lv_istore_n (lv' := [(2, .int 0), (0, .ref h0), (1, .int (nI w))]) hx hb dX4_weakest_1 rfl hl (by decide) rfl (fun ls hl => ?_)
  refine lv_iconst (v := 1) hx hb dX4_weakest_2 (by decide) ?_
  refine lv_istore_n (lv' := [(3, .int 1), (2, .int 0), (0, .ref h0), (1, .int (nI w))]) hx hb dX4_weakest_3 rfl hl (by decide) rfl (fun ls hl => ?_)
  have loop4 : ∀ (n9 : Nat) (j : Nat) (b : Nat), w + 1 - j < n9 → (1 ≤ j) → (j ≤ w ∨ j = 1) → (b < 6) → (b < w ∨ b = 0) → ∀ (H : Heap) (locs : List Loc) (ls : Array Slot), va_P g.1 vwCl [(oX4 h0 q0 q1 mo), (aI g q0 24 f)] H → va_D A [(oX4 h0 q0 q1 mo), (aI g q0 24 f)] → va_S A s.heap H locs → lv_has ls 4 [(0, .ref h0), (1, .int (nI w)), (2, .int (nI b)), (3, .int (nI j))] → W p l e (he_room 0 0 0 0) s m args below meth c H locs 0 0 Q (F0 m 4 ls []) := by
    intro n9
    induction n9 with
    | zero => intro j b hm9; exact absurd hm9 (Nat.not_lt_zero _)
    | succ n9 ih4 =>
      intro j b hm9 hj1 hj hb6 hb0 H locs ls hP hD hS hl
      refine lv_iload_n hx hb dX4_weakest_4 rfl (lv_at hl 3 rfl) ?_
      refine lv_iload_n hx hb dX4_weakest_5 rfl (lv_at hl 1 rfl) ?_
      refine lv_icmp_ge (tgt := 38) hx hb dX4_weakest_6 (by decide) (fun c_1 => ?_) (fun c_1 => ?_)
      · have k_2 : w ≤ j := (he_cle (a := w) (b := j) rfl rfl (by omega) (by omega)).mp c_1
        refine lv_iload_n hx hb dX4_weakest_38 rfl (lv_at hl 2 rfl) ?_
        exact he_ri hQ hx hb hr hlk hP hD hS dX4_weakest_39 (Nat.le_of_ble_eq_true rfl) (Nat.le_of_ble_eq_true rfl) (b) (rfl) (⟨rfl, hb0⟩)
      · have k_3 : ¬ (w ≤ j) := fun h9 => c_1 ((he_cle (a := w) (b := j) rfl rfl (by omega) (by omega)).mpr h9)
        refine lv_aload_n hx hb dX4_weakest_9 rfl (lv_at hl 0 rfl) ?_
        refine va_get (v := .ref q0) (T := TX4) (N := 3) hx hb hts inX4 hown hK hP 0 rfl rfl 0 (by decide) f9 (fun _ h9 => h9) rfl dX4_weakest_10 ?_
        refine lv_bipush (v := 12) hx hb dX4_weakest_13 (by decide) ?_
        refine lv_iload_n hx hb dX4_weakest_15 rfl (lv_at hl 3 rfl) ?_
        refine lv_iadd hx hb dX4_weakest_16 ?_
        refine he_top (nI (12 + j)) (nI_add 12 j) ?_
        refine he_iald hx hb hK hP 1 rfl (12 + j) rfl (by first | assumption | decide | omega) (by first | decide | assumption) (f (12 + j)) rfl dX4_weakest_17 ?_
        refine lv_aload_n hx hb dX4_weakest_18 rfl (lv_at hl 0 rfl) ?_
        refine va_get (v := .ref q0) (T := TX4) (N := 3) hx hb hts inX4 hown hK hP 0 rfl rfl 0 (by decide) f9 (fun _ h9 => h9) rfl dX4_weakest_19 ?_
        refine lv_bipush (v := 12) hx hb dX4_weakest_22 (by decide) ?_
        refine lv_iload_n hx hb dX4_weakest_24 rfl (lv_at hl 2 rfl) ?_
        refine lv_iadd hx hb dX4_weakest_25 ?_
        refine he_top (nI (12 + b)) (nI_add 12 b) ?_
        refine he_iald hx hb hK hP 1 rfl (12 + b) rfl (by first | assumption | decide | omega) (by first | decide | assumption) (f (12 + b)) rfl dX4_weakest_26 ?_
        refine lv_icmp_ge (tgt := 32) hx hb dX4_weakest_27 (by decide) (fun c_4 => ?_) (fun c_4 => ?_)
        · refine lv_iinc (v := nI (j + 1)) (lv' := [(3, .int (nI (j + 1))), (0, .ref h0), (1, .int (nI w)), (2, .int (nI b))]) hx hb dX4_weakest_32 hl (k := 3) rfl (nI_1 j) (by decide) rfl (fun ls hl => ?_)
          refine lv_goto (tgt := 4) hx hb dX4_weakest_35 (by decide) ?_
          exact ih4 (j + 1) b (by omega) (by omega) (by omega) (by omega) (by omega) _ _ _ hP hD hS (lv_sub hl [1, 2, 3, 0] rfl)
        · refine lv_iload_n hx hb dX4_weakest_30 rfl (lv_at hl 3 rfl) ?_
          refine lv_istore_n (lv' := [(2, .int (nI j)), (0, .ref h0), (1, .int (nI w)), (3, .int (nI j))]) hx hb dX4_weakest_31 rfl hl (by decide) rfl (fun ls hl => ?_)
          refine lv_iinc (v := nI (j + 1)) (lv' := [(3, .int (nI (j + 1))), (2, .int (nI j)), (0, .ref h0), (1, .int (nI w))]) hx hb dX4_weakest_32 hl (k := 3) rfl (nI_1 j) (by decide) rfl (fun ls hl => ?_)
          refine lv_goto (tgt := 4) hx hb dX4_weakest_35 (by decide) ?_
          exact ih4 (j + 1) j (by omega) (by omega) (by omega) (by omega) (by omega) _ _ _ hP hD hS (lv_sub hl [2, 3, 1, 0] rfl)
  exact loop4 ((w + 1 - 1) + 1) 1 0 (Nat.lt_succ_self _) (Nat.le_refl 1) (Or.inr rfl) (by decide) (Or.inr rfl) _ _ _ hP hD hS (lv_sub hl [2, 3, 1, 0] rfl)
set_option maxHeartbeats 4000000 in
set_option maxRecDepth 100000 in
theorem g_X4_breach (l : Launch) (g : he_G) (h0 : Nat) (q0 : Nat) (q1 : Nat) (mo : Int32) (f : Nat → Int32) (p0 : Nat) (p1 : Nat) (p2 : Nat) (p3 : Nat) (p4 : Nat) (w : Int32) (sd : Nat → Int32) (st : Nat → Int32) (t0 : Nat) (t1 : Nat) (t2 : Nat) (pw : Int32) (pd : Nat → Int32) (k : Nat) (hk : k < 6) : he_V l yX4_breach wsX4_breach 2 37 0 0 g [.ref h0, .ref p0, .ref t0, .int (nI k)] [(oX4 h0 q0 q1 mo), (aI g q0 24 f), (oX6 p0 p1 p2 p3 p4 w), (aI g p1 24 sd), (aI g p3 6 st), (oX5 t0 t1 t2 pw), (aI g t1 6 pd)] (fun (u : Nat → Int32) => u 10 = f 10) (fun (u : Nat → Int32) => [(oX4 h0 q0 q1 mo), (aI g q0 24 u), (oX6 p0 p1 p2 p3 p4 w), (aI g p1 24 sd), (aI g p3 6 st), (oX5 t0 t1 t2 pw), (aI g t1 6 pd)]) := by
  refine he_begin (l := l) (g := g) (y := yX4_breach) (wl := wsX4_breach) (fr := 2) (lo := 37) (mc := 0) (ms := 0) (av := [.ref h0, .ref p0, .ref t0, .int (nI k)]) (ws := [(oX4 h0 q0 q1 mo), (aI g q0 24 f), (oX6 p0 p1 p2 p3 p4 w), (aI g p1 24 sd), (aI g p3 6 st), (oX5 t0 t1 t2 pw), (aI g t1 6 pd)]) (cc := cX4_breach) (maxL := 4) (ret := none) (fun A => va_Qv (fun (u : Nat → Int32) => u 10 = f 10) (fun u t => he_post g A ((fun (u : Nat → Int32) => [(oX4 h0 q0 q1 mo), (aI g q0 24 u), (oX6 p0 p1 p2 p3 p4 w), (aI g p1 24 sd), (aI g p3 6 st), (oX5 t0 t1 t2 pw), (aI g t1 6 pd)]) u) t) A) (by decide) rfl (Nat.le_of_ble_eq_true rfl) ?_
  intro p e s m args below meth c A ls H locs Q hQ hB
  obtain ⟨hx, hb, hr, hml, hown, hts, hlk, hin, hP, hK, hD, hS, hA, hE, hl⟩ := hB
  have hl : lv_has ls 4 [(0, .ref h0), (1, .ref p0), (2, .ref t0), (3, .int (nI k))] := hl
  have f9 := hts (.fieldLink RX4 9 "HiredEnemy$Course" "now" "[I") (iwoX4_breach (k := 0) rfl)
  have inX4 : ∀ w ∈ wsX40, w ∈ wsX4_breach := innX4_breach_X4
  have f36 := hts (.fieldLink RX4 36 "HiredEnemy$Plan" "strength" "[I") (iwoX4_breach (k := 1) rfl)
  have inX6 : ∀ w ∈ wsX60, w ∈ wsX4_breach := innX4_breach_X6
  have f28 := hts (.fieldLink RX4 28 "HiredEnemy$Plan" "said" "[I") (iwoX4_breach (k := 2) rfl)
  have f57 := hts (.fieldLink RX4 57 "HiredEnemy$Pact" "said" "[I") (iwoX4_breach (k := 3) rfl)
  have inX5 : ∀ w ∈ wsX50, w ∈ wsX4_breach := innX4_breach_X5
  refine lv_aload_n hx hb dX4_breach_0 rfl (lv_at hl 0 rfl) ?_
  refine va_get (v := .ref q0) (T := TX4) (N := 3) hx hb hts inX4 hown hK hP 0 rfl rfl 0 (by decide) f9 (fun _ h9 => h9) rfl dX4_breach_1 ?_
  refine lv_bipush (v := 6) hx hb dX4_breach_4 (by decide) ?_
  refine lv_dup2_11 hx hb dX4_breach_6 rfl rfl ?_
  refine he_iald hx hb hK hP 1 rfl (6) (by decide) (by decide) (by first | decide | assumption) (f 6) rfl dX4_breach_7 ?_
  refine lv_iconst (v := 1) hx hb dX4_breach_8 (by decide) ?_
  refine lv_iadd hx hb dX4_breach_9 ?_
  refine he_iast hx hb hK hP hD hS 1 rfl (6) (by decide) (by decide) (by first | decide | assumption) dX4_breach_10 (fun H locs hP hD hS => ?_)
  have hP : va_P g.1 vwCl [(oX4 h0 q0 q1 mo), (aI g q0 24 (upd f 6 ((f 6) + 1))), (oX6 p0 p1 p2 p3 p4 w), (aI g p1 24 sd), (aI g p3 6 st), (oX5 t0 t1 t2 pw), (aI g t1 6 pd)] H := hP
  have hD : va_D A [(oX4 h0 q0 q1 mo), (aI g q0 24 (upd f 6 ((f 6) + 1))), (oX6 p0 p1 p2 p3 p4 w), (aI g p1 24 sd), (aI g p3 6 st), (oX5 t0 t1 t2 pw), (aI g t1 6 pd)] := hD
  refine lv_aload_n hx hb dX4_breach_11 rfl (lv_at hl 0 rfl) ?_
  refine va_get (v := .ref q0) (T := TX4) (N := 3) hx hb hts inX4 hown hK hP 0 rfl rfl 0 (by decide) f9 (fun _ h9 => h9) rfl dX4_breach_12 ?_
  refine lv_bipush (v := 18) hx hb dX4_breach_15 (by decide) ?_
  refine lv_iload_n hx hb dX4_breach_17 rfl (lv_at hl 3 rfl) ?_
  refine lv_iadd hx hb dX4_breach_18 ?_
  refine he_top (nI (18 + k)) (nI_add 18 k) ?_
  refine lv_dup2_11 hx hb dX4_breach_19 rfl rfl ?_
  refine he_iald hx hb hK hP 1 rfl (18 + k) rfl (by first | assumption | decide | omega) (by first | decide | assumption) ((upd f 6 ((f 6) + 1)) (18 + k)) rfl dX4_breach_20 ?_
  refine lv_iconst (v := 1) hx hb dX4_breach_21 (by decide) ?_
  refine lv_iadd hx hb dX4_breach_22 ?_
  refine he_iast hx hb hK hP hD hS 1 rfl (18 + k) rfl (by first | assumption | decide | omega) (by first | decide | assumption) dX4_breach_23 (fun H locs hP hD hS => ?_)
  have hP : va_P g.1 vwCl [(oX4 h0 q0 q1 mo), (aI g q0 24 (upd (upd f 6 ((f 6) + 1)) (18 + k) (((upd f 6 ((f 6) + 1)) (18 + k)) + 1))), (oX6 p0 p1 p2 p3 p4 w), (aI g p1 24 sd), (aI g p3 6 st), (oX5 t0 t1 t2 pw), (aI g t1 6 pd)] H := hP
  have hD : va_D A [(oX4 h0 q0 q1 mo), (aI g q0 24 (upd (upd f 6 ((f 6) + 1)) (18 + k) (((upd f 6 ((f 6) + 1)) (18 + k)) + 1))), (oX6 p0 p1 p2 p3 p4 w), (aI g p1 24 sd), (aI g p3 6 st), (oX5 t0 t1 t2 pw), (aI g t1 6 pd)] := hD
  refine lv_aload_n hx hb dX4_breach_24 rfl (lv_at hl 0 rfl) ?_
  refine va_get (v := .ref q0) (T := TX4) (N := 3) hx hb hts inX4 hown hK hP 0 rfl rfl 0 (by decide) f9 (fun _ h9 => h9) rfl dX4_breach_25 ?_
  refine lv_bipush (v := 12) hx hb dX4_breach_28 (by decide) ?_
  refine lv_iload_n hx hb dX4_breach_30 rfl (lv_at hl 3 rfl) ?_
  refine lv_iadd hx hb dX4_breach_31 ?_
  refine he_top (nI (12 + k)) (nI_add 12 k) ?_
  refine lv_aload_n hx hb dX4_breach_32 rfl (lv_at hl 1 rfl) ?_
  refine va_get (v := .ref p3) (T := TX6) (N := 5) hx hb hts inX6 hown hK hP 2 rfl rfl 2 (by decide) f36 (fun _ h9 => h9) rfl dX4_breach_33 ?_
  refine lv_iload_n hx hb dX4_breach_36 rfl (lv_at hl 3 rfl) ?_
  refine he_iald hx hb hK hP 4 rfl (k) rfl (by first | assumption | decide | omega) (by first | decide | assumption) (st k) rfl dX4_breach_37 ?_
  refine he_iast hx hb hK hP hD hS 1 rfl (12 + k) rfl (by first | assumption | decide | omega) (by first | decide | assumption) dX4_breach_38 (fun H locs hP hD hS => ?_)
  have hP : va_P g.1 vwCl [(oX4 h0 q0 q1 mo), (aI g q0 24 (upd (upd (upd f 6 ((f 6) + 1)) (18 + k) (((upd f 6 ((f 6) + 1)) (18 + k)) + 1)) (12 + k) (st k))), (oX6 p0 p1 p2 p3 p4 w), (aI g p1 24 sd), (aI g p3 6 st), (oX5 t0 t1 t2 pw), (aI g t1 6 pd)] H := hP
  have hD : va_D A [(oX4 h0 q0 q1 mo), (aI g q0 24 (upd (upd (upd f 6 ((f 6) + 1)) (18 + k) (((upd f 6 ((f 6) + 1)) (18 + k)) + 1)) (12 + k) (st k))), (oX6 p0 p1 p2 p3 p4 w), (aI g p1 24 sd), (aI g p3 6 st), (oX5 t0 t1 t2 pw), (aI g t1 6 pd)] := hD
  refine lv_aload_n hx hb dX4_breach_39 rfl (lv_at hl 0 rfl) ?_
  refine lv_aload_n hx hb dX4_breach_40 rfl (lv_at hl 1 rfl) ?_
  refine va_get (v := .ref p1) (T := TX6) (N := 5) hx hb hts inX6 hown hK hP 2 rfl rfl 0 (by decide) f28 (fun _ h9 => h9) rfl dX4_breach_41 ?_
  refine lv_bipush (v := 13) hx hb dX4_breach_44 (by decide) ?_
  refine he_iald hx hb hK hP 3 rfl (13) (by decide) (by decide) (by first | decide | assumption) (sd 13) rfl dX4_breach_46 ?_
  refine he_cv (wc := [(oX4 h0 q0 q1 mo), (aI g q0 24 (upd (upd (upd f 6 ((f 6) + 1)) (18 + k) (((upd f 6 ((f 6) + 1)) (18 + k)) + 1)) (12 + k) (st k)))]) (wr := [(oX6 p0 p1 p2 p3 p4 w), (aI g p1 24 sd), (aI g p3 6 st), (oX5 t0 t1 t2 pw), (aI g t1 6 pd)]) (va_runV (As := [.int (sd 13)]) (rest := []) ⟨hx, hb, hml, hown, hts⟩ (c_X4_frighten l g h0 q0 q1 mo (upd (upd (upd f 6 ((f 6) + 1)) (18 + k) (((upd f 6 ((f 6) + 1)) (18 + k)) + 1)) (12 + k) (st k)) (sd 13) H.size) (cwV 1 hts gX4_breach_X4_frighten rfl rfl rfl (by decide +kernel) ⟨Nat.le_of_ble_eq_true rfl, Nat.le_of_ble_eq_true rfl⟩) (he_preV (wc := [(oX4 h0 q0 q1 mo), (aI g q0 24 (upd (upd (upd f 6 ((f 6) + 1)) (18 + k) (((upd f 6 ((f 6) + 1)) (18 + k)) + 1)) (12 + k) (st k)))]) hK hP hD hS hA hE [0, 1] rfl rfl 0 rfl rfl) rfl rfl hl.1 rfl (lv_room (Nat.le_of_ble_eq_true rfl)) dX4_breach_47 ⟨(Nat.le_of_ble_eq_true rfl), (Nat.le_of_ble_eq_true rfl)⟩) hP hD hS hA [0, 1] [2, 3, 4, 5, 6] rfl rfl rfl (by decide) (fun u_2 H locs h_3 hP hD hS => ?_)
  have hP : va_P g.1 vwCl [(oX6 p0 p1 p2 p3 p4 w), (aI g p1 24 sd), (aI g p3 6 st), (oX5 t0 t1 t2 pw), (aI g t1 6 pd), (oX4 h0 q0 q1 mo), (aI g q0 24 (frF (upd (upd (upd f 6 ((f 6) + 1)) (18 + k) (((upd f 6 ((f 6) + 1)) (18 + k)) + 1)) (12 + k) (st k)) (sd 13)))] H := hP
  have hD : va_D A [(oX6 p0 p1 p2 p3 p4 w), (aI g p1 24 sd), (aI g p3 6 st), (oX5 t0 t1 t2 pw), (aI g t1 6 pd), (oX4 h0 q0 q1 mo), (aI g q0 24 (frF (upd (upd (upd f 6 ((f 6) + 1)) (18 + k) (((upd f 6 ((f 6) + 1)) (18 + k)) + 1)) (12 + k) (st k)) (sd 13)))] := hD
  refine lv_aload_n hx hb dX4_breach_50 rfl (lv_at hl 0 rfl) ?_
  refine lv_iconst (v := 0) hx hb dX4_breach_51 (by decide) ?_
  refine lv_iconst (v := 1) hx hb dX4_breach_52 (by decide) ?_
  refine lv_aload_n hx hb dX4_breach_53 rfl (lv_at hl 2 rfl) ?_
  refine va_get (v := .ref t1) (T := TX5) (N := 3) hx hb hts inX5 hown hK hP 3 rfl rfl 0 (by decide) f57 (fun _ h9 => h9) rfl dX4_breach_54 ?_
  refine lv_iconst (v := 4) hx hb dX4_breach_57 (by decide) ?_
  refine he_iald hx hb hK hP 4 rfl (4) (by decide) (by decide) (by first | decide | assumption) (pd 4) rfl dX4_breach_58 ?_
  refine he_cv (wc := [(oX4 h0 q0 q1 mo), (aI g q0 24 (frF (upd (upd (upd f 6 ((f 6) + 1)) (18 + k) (((upd f 6 ((f 6) + 1)) (18 + k)) + 1)) (12 + k) (st k)) (sd 13)))]) (wr := [(oX6 p0 p1 p2 p3 p4 w), (aI g p1 24 sd), (aI g p3 6 st), (oX5 t0 t1 t2 pw), (aI g t1 6 pd)]) (va_runV (As := [.int 0, .int 1, .int (pd 4)]) (rest := []) ⟨hx, hb, hml, hown, hts⟩ (c_X4_move l g h0 q0 q1 mo (frF (upd (upd (upd f 6 ((f 6) + 1)) (18 + k) (((upd f 6 ((f 6) + 1)) (18 + k)) + 1)) (12 + k) (st k)) (sd 13)) 0 1 (pd 4) (by first | assumption | decide | omega) (by first | assumption | decide | omega) H.size) (cwV 3 hts gX4_breach_X4_move rfl rfl rfl (by decide +kernel) ⟨Nat.le_of_ble_eq_true rfl, Nat.le_of_ble_eq_true rfl⟩) (he_preV (wc := [(oX4 h0 q0 q1 mo), (aI g q0 24 (frF (upd (upd (upd f 6 ((f 6) + 1)) (18 + k) (((upd f 6 ((f 6) + 1)) (18 + k)) + 1)) (12 + k) (st k)) (sd 13)))]) hK hP hD hS hA hE [5, 6] rfl rfl 5 rfl rfl) rfl rfl hl.1 rfl (lv_room (Nat.le_of_ble_eq_true rfl)) dX4_breach_59 ⟨(Nat.le_of_ble_eq_true rfl), (Nat.le_of_ble_eq_true rfl)⟩) hP hD hS hA [5, 6] [0, 1, 2, 3, 4] rfl rfl rfl (by decide) (fun u_5 H locs h_6 hP hD hS => ?_)
  have hP : va_P g.1 vwCl [(oX6 p0 p1 p2 p3 p4 w), (aI g p1 24 sd), (aI g p3 6 st), (oX5 t0 t1 t2 pw), (aI g t1 6 pd), (oX4 h0 q0 q1 mo), (aI g q0 24 (mvF (frF (upd (upd (upd f 6 ((f 6) + 1)) (18 + k) (((upd f 6 ((f 6) + 1)) (18 + k)) + 1)) (12 + k) (st k)) (sd 13)) 0 1 (pd 4)))] H := hP
  have hD : va_D A [(oX6 p0 p1 p2 p3 p4 w), (aI g p1 24 sd), (aI g p3 6 st), (oX5 t0 t1 t2 pw), (aI g t1 6 pd), (oX4 h0 q0 q1 mo), (aI g q0 24 (mvF (frF (upd (upd (upd f 6 ((f 6) + 1)) (18 + k) (((upd f 6 ((f 6) + 1)) (18 + k)) + 1)) (12 + k) (st k)) (sd 13)) 0 1 (pd 4)))] := hD
  have hP := hP.sub (ws' := [(oX4 h0 q0 q1 mo), (aI g q0 24 (mvF (frF (upd (upd (upd f 6 ((f 6) + 1)) (18 + k) (((upd f 6 ((f 6) + 1)) (18 + k)) + 1)) (12 + k) (st k)) (sd 13)) 0 1 (pd 4))), (oX6 p0 p1 p2 p3 p4 w), (aI g p1 24 sd), (aI g p3 6 st), (oX5 t0 t1 t2 pw), (aI g t1 6 pd)]) [5, 6, 0, 1, 2, 3, 4] rfl
  have hD := hD.sub (ws' := [(oX4 h0 q0 q1 mo), (aI g q0 24 (mvF (frF (upd (upd (upd f 6 ((f 6) + 1)) (18 + k) (((upd f 6 ((f 6) + 1)) (18 + k)) + 1)) (12 + k) (st k)) (sd 13)) 0 1 (pd 4))), (oX6 p0 p1 p2 p3 p4 w), (aI g p1 24 sd), (aI g p3 6 st), (oX5 t0 t1 t2 pw), (aI g t1 6 pd)]) [5, 6, 0, 1, 2, 3, 4] (by decide) rfl
  exact he_rv hQ hx hb hr hlk hP hD hS dX4_breach_62 (Nat.le_of_ble_eq_true rfl) (Nat.le_of_ble_eq_true rfl) (mvF (frF (upd (upd (upd f 6 ((f 6) + 1)) (18 + k) (((upd f 6 ((f 6) + 1)) (18 + k)) + 1)) (12 + k) (st k)) (sd 13)) 0 1 (pd 4)) (rfl) ((by rw [mvF_n _ _ _ _ _ (by decide) (by decide), frF, upd_n (by decide), upd_n (by omega), upd_n (by omega), upd_n (by decide)]))
set_option maxHeartbeats 4000000 in
set_option maxRecDepth 100000 in
theorem g_X4_shoot (l : Launch) (g : he_G) (h0 : Nat) (q0 : Nat) (q1 : Nat) (mo : Int32) (f : Nat → Int32) (sh : Nat → Int32) (p0 : Nat) (p1 : Nat) (p2 : Nat) (p3 : Nat) (p4 : Nat) (w : Nat) (sd : Nat → Int32) (st : Nat → Int32) (t0 : Nat) (t1 : Nat) (t2 : Nat) (pw : Int32) (pd : Nat → Int32) (wb : Nat → Int32) (ck : Nat) (hw6 : w ≤ 6) (hwb : ∀ k, k < 36 → -1 ≤ wb k) (hck : pd 3 = nI ck) (hc99 : ck ≤ 99) : he_V l yX4_shoot wsX4_shoot 3 60 0 0 g [.ref h0, .ref p0, .ref t0] [(oX4 h0 q0 q1 mo), (aI g q0 24 f), (aI g q1 6 sh), (oX6 p0 p1 p2 p3 p4 (nI w)), (aI g p1 24 sd), (aI g p3 6 st), (oX5 t0 t1 t2 pw), (aI g t1 6 pd), (aI g t2 36 wb)] (fun (u : (Nat → Int32) × (Nat → Int32)) => u.1 10 = f 10) (fun (u : (Nat → Int32) × (Nat → Int32)) => [(oX4 h0 q0 q1 mo), (aI g q0 24 u.1), (aI g q1 6 u.2), (oX6 p0 p1 p2 p3 p4 (nI w)), (aI g p1 24 sd), (aI g p3 6 st), (oX5 t0 t1 t2 pw), (aI g t1 6 pd), (aI g t2 36 wb)]) := by
  refine he_begin (l := l) (g := g) (y := yX4_shoot) (wl := wsX4_shoot) (fr := 3) (lo := 60) (mc := 0) (ms := 0) (av := [.ref h0, .ref p0, .ref t0]) (ws := [(oX4 h0 q0 q1 mo), (aI g q0 24 f), (aI g q1 6 sh), (oX6 p0 p1 p2 p3 p4 (nI w)), (aI g p1 24 sd), (aI g p3 6 st), (oX5 t0 t1 t2 pw), (aI g t1 6 pd), (aI g t2 36 wb)]) (cc := cX4_shoot) (maxL := 9) (ret := none) (fun A => va_Qv (fun (u : (Nat → Int32) × (Nat → Int32)) => u.1 10 = f 10) (fun u t => he_post g A ((fun (u : (Nat → Int32) × (Nat → Int32)) => [(oX4 h0 q0 q1 mo), (aI g q0 24 u.1), (aI g q1 6 u.2), (oX6 p0 p1 p2 p3 p4 (nI w)), (aI g p1 24 sd), (aI g p3 6 st), (oX5 t0 t1 t2 pw), (aI g t1 6 pd), (aI g t2 36 wb)]) u) t) A) (by decide) rfl (Nat.le_of_ble_eq_true rfl) ?_
  intro p e s m args below meth c A ls H locs Q hQ hB
  obtain ⟨hx, hb, hr, hml, hown, hts, hlk, hin, hP, hK, hD, hS, hA, hE, hl⟩ := hB
  have hl : lv_has ls 9 [(0, .ref h0), (1, .ref p0), (2, .ref t0)] := hl
  have f18 := hts (.fieldLink RX4 18 "HiredEnemy$Course" "month" "I") (iwoX4_shoot (k := 0) rfl)
  have inX4 : ∀ w ∈ wsX40, w ∈ wsX4_shoot := innX4_shoot_X4
  have f9 := hts (.fieldLink RX4 9 "HiredEnemy$Course" "now" "[I") (iwoX4_shoot (k := 1) rfl)
  have f33 := hts (.fieldLink RX4 33 "HiredEnemy$Plan" "walls" "I") (iwoX4_shoot (k := 2) rfl)
  have inX6 : ∀ w ∈ wsX60, w ∈ wsX4_shoot := innX4_shoot_X6
  have f15 := hts (.fieldLink RX4 15 "HiredEnemy$Course" "shot" "[I") (iwoX4_shoot (k := 4) rfl)
  have f57 := hts (.fieldLink RX4 57 "HiredEnemy$Pact" "said" "[I") (iwoX4_shoot (k := 3) rfl)
  have inX5 : ∀ w ∈ wsX50, w ∈ wsX4_shoot := innX4_shoot_X5
  refine lv_aload_n hx hb dX4_shoot_0 rfl (lv_at hl 2 rfl) ?_
  refine lv_aload_n hx hb dX4_shoot_1 rfl (lv_at hl 0 rfl) ?_
  refine va_get (v := .int mo) (T := TX4) (N := 3) hx hb hts inX4 hown hK hP 0 rfl rfl 2 (by decide) f18 (fun _ h9 => h9) rfl dX4_shoot_2 ?_
  refine lv_aload_n hx hb dX4_shoot_5 rfl (lv_at hl 0 rfl) ?_
  refine va_get (v := .ref q0) (T := TX4) (N := 3) hx hb hts inX4 hown hK hP 0 rfl rfl 0 (by decide) f9 (fun _ h9 => h9) rfl dX4_shoot_6 ?_
  refine lv_bipush (v := 11) hx hb dX4_shoot_9 (by decide) ?_
  refine he_iald hx hb hK hP 1 rfl (11) (by decide) (by decide) (by first | decide | assumption) (f 11) rfl dX4_shoot_11 ?_
  refine lv_isub hx hb dX4_shoot_12 ?_
  refine lv_aload_n hx hb dX4_shoot_13 rfl (lv_at hl 1 rfl) ?_
  refine va_get (v := .int (nI w)) (T := TX6) (N := 5) hx hb hts inX6 hown hK hP 3 rfl rfl 4 (by decide) f33 (fun _ h9 => h9) rfl dX4_shoot_14 ?_
  refine he_ci (wc := [(oX5 t0 t1 t2 pw), (aI g t2 36 wb)]) (wr := [(oX4 h0 q0 q1 mo), (aI g q0 24 f), (aI g q1 6 sh), (oX6 p0 p1 p2 p3 p4 (nI w)), (aI g p1 24 sd), (aI g p3 6 st), (aI g t1 6 pd)]) (va_runV (As := [.int (mo - (f 11)), .int (nI w)]) (rest := []) ⟨hx, hb, hml, hown, hts⟩ (c_X5_wallDue l g t0 t1 t2 pw wb (mo - (f 11)) (nI w) H.size) (cwV 2 hts gX4_shoot_X5_wallDue rfl rfl rfl (by decide +kernel) ⟨Nat.le_of_ble_eq_true rfl, Nat.le_of_ble_eq_true rfl⟩) (he_preV (wc := [(oX5 t0 t1 t2 pw), (aI g t2 36 wb)]) hK hP hD hS hA hE [6, 8] rfl rfl 6 rfl rfl) rfl rfl hl.1 rfl (lv_room (Nat.le_of_ble_eq_true rfl)) dX4_shoot_17 ⟨(Nat.le_of_ble_eq_true rfl), (Nat.le_of_ble_eq_true rfl)⟩) hP hD hS hA [6, 8] [0, 1, 2, 3, 4, 5, 7] rfl rfl rfl (by decide) (fun r_1 u_2 H locs h_3 hP hD hS => ?_)
  subst h_3
  have hP : va_P g.1 vwCl [(oX4 h0 q0 q1 mo), (aI g q0 24 f), (aI g q1 6 sh), (oX6 p0 p1 p2 p3 p4 (nI w)), (aI g p1 24 sd), (aI g p3 6 st), (aI g t1 6 pd), (oX5 t0 t1 t2 pw), (aI g t2 36 wb)] H := hP
  have hD : va_D A [(oX4 h0 q0 q1 mo), (aI g q0 24 f), (aI g q1 6 sh), (oX6 p0 p1 p2 p3 p4 (nI w)), (aI g p1 24 sd), (aI g p3 6 st), (aI g t1 6 pd), (oX5 t0 t1 t2 pw), (aI g t2 36 wb)] := hD
  rcases wd_in (x := mo - f 11) hw6 hwb with hdu | ⟨dk, hdk, hdu⟩
  · refine he_top ((-1)) hdu ?_
    refine lv_istore_n (lv' := [(3, .int (-1)), (0, .ref h0), (1, .ref p0), (2, .ref t0)]) hx hb dX4_shoot_20 rfl hl (by decide) rfl (fun ls hl => ?_)
    have join77 : ∀ (fb : Int32) (c9 : Nat) (cl : Int32), (c9 ≤ 99) → (c9 = 0 ∨ 0 < w) → ∀ (H : Heap) (locs : List Loc) (ls : Array Slot), va_P g.1 vwCl [(oX4 h0 q0 q1 mo), (aI g q0 24 f), (aI g q1 6 sh), (oX6 p0 p1 p2 p3 p4 (nI w)), (aI g p1 24 sd), (aI g p3 6 st), (aI g t1 6 pd), (oX5 t0 t1 t2 pw), (aI g t2 36 wb)] H → va_D A [(oX4 h0 q0 q1 mo), (aI g q0 24 f), (aI g q1 6 sh), (oX6 p0 p1 p2 p3 p4 (nI w)), (aI g p1 24 sd), (aI g p3 6 st), (aI g t1 6 pd), (oX5 t0 t1 t2 pw), (aI g t2 36 wb)] → va_S A s.heap H locs → lv_has ls 9 [(0, .ref h0), (1, .ref p0), (2, .ref t0), (3, .int (-1)), (4, .int fb), (5, .int (nI c9)), (6, .int cl)] → W p l e (he_room 3 60 0 0) s m args below meth c H locs 0 0 Q (F0 m 77 ls []) := by
      intro fb c9 cl hc9 hcw H locs ls hP hD hS hl
      refine lv_iconst (v := (-1)) hx hb dX4_shoot_77 (by decide) ?_
      refine lv_istore (lv' := [(7, .int (-1)), (0, .ref h0), (1, .ref p0), (2, .ref t0), (3, .int (-1)), (4, .int fb), (5, .int (nI c9)), (6, .int cl)]) hx hb dX4_shoot_78 hl (by decide) rfl (fun ls hl => ?_)
      refine lv_iconst (v := 1) hx hb dX4_shoot_80 (by decide) ?_
      refine lv_istore (lv' := [(8, .int 1), (7, .int (-1)), (0, .ref h0), (1, .ref p0), (2, .ref t0), (3, .int (-1)), (4, .int fb), (5, .int (nI c9)), (6, .int cl)]) hx hb dX4_shoot_81 hl (by decide) rfl (fun ls hl => ?_)
      have loop83 : ∀ (n9 : Nat) (i : Nat) (t : Int32) (F : Nat → Int32) (G : Nat → Int32), c9 + 1 - i < n9 → (1 ≤ i) → (i ≤ c9 + 1) → (t = -1 ∨ ∃ k, k < 6 ∧ t = nI k) → (F 10 = f 10) → ∀ (H : Heap) (locs : List Loc) (ls : Array Slot), va_P g.1 vwCl [(oX4 h0 q0 q1 mo), (aI g q0 24 F), (aI g q1 6 G), (oX6 p0 p1 p2 p3 p4 (nI w)), (aI g p1 24 sd), (aI g p3 6 st), (oX5 t0 t1 t2 pw), (aI g t1 6 pd), (aI g t2 36 wb)] H → va_D A [(oX4 h0 q0 q1 mo), (aI g q0 24 F), (aI g q1 6 G), (oX6 p0 p1 p2 p3 p4 (nI w)), (aI g p1 24 sd), (aI g p3 6 st), (oX5 t0 t1 t2 pw), (aI g t1 6 pd), (aI g t2 36 wb)] → va_S A s.heap H locs → lv_has ls 9 [(0, .ref h0), (1, .ref p0), (2, .ref t0), (3, .int (-1)), (4, .int fb), (5, .int (nI c9)), (6, .int cl), (7, .int t), (8, .int (nI i))] → W p l e (he_room 3 60 0 0) s m args below meth c H locs 0 0 Q (F0 m 83 ls []) := by
        intro n9
        induction n9 with
        | zero => intro i t F G hm9; exact absurd hm9 (Nat.not_lt_zero _)
        | succ n9 ih83 =>
          intro i t F G hm9 hi1 hi ht hF H locs ls hP hD hS hl
          refine lv_iload hx hb dX4_shoot_83 (lv_at hl 8 rfl) ?_
          refine lv_iload hx hb dX4_shoot_85 (lv_at hl 5 rfl) ?_
          refine lv_icmp_gt (tgt := 197) hx hb dX4_shoot_87 (by decide) (fun c_4 => ?_) (fun c_4 => ?_)
          · have k_5 : c9 < i := (he_clt (a := c9) (b := i) rfl rfl (by omega) (by omega)).mp c_4
            refine lv_iload_n hx hb dX4_shoot_197 rfl (lv_at hl 3 rfl) ?_
            refine lv_iconst (v := (-1)) hx hb dX4_shoot_198 (by decide) ?_
            refine lv_icmp_eq (tgt := 227) hx hb dX4_shoot_199 (by decide) (fun c_6 => ?_) (fun c_6 => ?_)
            · exact he_rv hQ hx hb hr hlk hP hD hS dX4_shoot_227 (Nat.le_of_ble_eq_true rfl) (Nat.le_of_ble_eq_true rfl) ((F, G)) (rfl) (hF)
            · exact absurd (by decide) c_6
          · have k_7 : ¬ (c9 < i) := fun h9 => c_4 ((he_clt (a := c9) (b := i) rfl rfl (by omega) (by omega)).mpr h9)
            have join115 : ∀ (k : Nat), (k < 6) → ∀ (H : Heap) (locs : List Loc) (ls : Array Slot), va_P g.1 vwCl [(oX4 h0 q0 q1 mo), (aI g q0 24 F), (aI g q1 6 G), (oX6 p0 p1 p2 p3 p4 (nI w)), (aI g p1 24 sd), (aI g p3 6 st), (oX5 t0 t1 t2 pw), (aI g t1 6 pd), (aI g t2 36 wb)] H → va_D A [(oX4 h0 q0 q1 mo), (aI g q0 24 F), (aI g q1 6 G), (oX6 p0 p1 p2 p3 p4 (nI w)), (aI g p1 24 sd), (aI g p3 6 st), (oX5 t0 t1 t2 pw), (aI g t1 6 pd), (aI g t2 36 wb)] → va_S A s.heap H locs → lv_has ls 9 [(0, .ref h0), (1, .ref p0), (2, .ref t0), (3, .int (-1)), (4, .int fb), (5, .int (nI c9)), (6, .int cl), (7, .int (nI k)), (8, .int (nI i))] → W p l e (he_room 3 60 0 0) s m args below meth c H locs 0 0 Q (F0 m 115 ls []) := by
              intro k hk H locs ls hP hD hS hl
              refine lv_aload_n hx hb dX4_shoot_115 rfl (lv_at hl 0 rfl) ?_
              refine va_get (v := .ref q1) (T := TX4) (N := 3) hx hb hts inX4 hown hK hP 0 rfl rfl 1 (by decide) f15 (fun _ h9 => h9) rfl dX4_shoot_116 ?_
              refine lv_iload hx hb dX4_shoot_119 (lv_at hl 7 rfl) ?_
              refine lv_dup2_11 hx hb dX4_shoot_121 rfl rfl ?_
              refine he_iald hx hb hK hP 2 rfl (k) rfl (by first | assumption | decide | omega) (by first | decide | assumption) (G k) rfl dX4_shoot_122 ?_
              refine lv_iconst (v := 1) hx hb dX4_shoot_123 (by decide) ?_
              refine lv_iadd hx hb dX4_shoot_124 ?_
              refine he_iast hx hb hK hP hD hS 2 rfl (k) rfl (by first | assumption | decide | omega) (by first | decide | assumption) dX4_shoot_125 (fun H locs hP hD hS => ?_)
              have hP : va_P g.1 vwCl [(oX4 h0 q0 q1 mo), (aI g q0 24 F), (aI g q1 6 (upd G k ((G k) + 1))), (oX6 p0 p1 p2 p3 p4 (nI w)), (aI g p1 24 sd), (aI g p3 6 st), (oX5 t0 t1 t2 pw), (aI g t1 6 pd), (aI g t2 36 wb)] H := hP
              have hD : va_D A [(oX4 h0 q0 q1 mo), (aI g q0 24 F), (aI g q1 6 (upd G k ((G k) + 1))), (oX6 p0 p1 p2 p3 p4 (nI w)), (aI g p1 24 sd), (aI g p3 6 st), (oX5 t0 t1 t2 pw), (aI g t1 6 pd), (aI g t2 36 wb)] := hD
              refine lv_aload_n hx hb dX4_shoot_126 rfl (lv_at hl 0 rfl) ?_
              refine va_get (v := .ref q0) (T := TX4) (N := 3) hx hb hts inX4 hown hK hP 0 rfl rfl 0 (by decide) f9 (fun _ h9 => h9) rfl dX4_shoot_127 ?_
              refine lv_bipush (v := 9) hx hb dX4_shoot_130 (by decide) ?_
              refine lv_dup2_11 hx hb dX4_shoot_132 rfl rfl ?_
              refine he_iald hx hb hK hP 1 rfl (9) (by decide) (by decide) (by first | decide | assumption) (F 9) rfl dX4_shoot_133 ?_
              refine lv_iconst (v := 1) hx hb dX4_shoot_134 (by decide) ?_
              refine lv_iadd hx hb dX4_shoot_135 ?_
              refine he_iast hx hb hK hP hD hS 1 rfl (9) (by decide) (by decide) (by first | decide | assumption) dX4_shoot_136 (fun H locs hP hD hS => ?_)
              have hP : va_P g.1 vwCl [(oX4 h0 q0 q1 mo), (aI g q0 24 (upd F 9 ((F 9) + 1))), (aI g q1 6 (upd G k ((G k) + 1))), (oX6 p0 p1 p2 p3 p4 (nI w)), (aI g p1 24 sd), (aI g p3 6 st), (oX5 t0 t1 t2 pw), (aI g t1 6 pd), (aI g t2 36 wb)] H := hP
              have hD : va_D A [(oX4 h0 q0 q1 mo), (aI g q0 24 (upd F 9 ((F 9) + 1))), (aI g q1 6 (upd G k ((G k) + 1))), (oX6 p0 p1 p2 p3 p4 (nI w)), (aI g p1 24 sd), (aI g p3 6 st), (oX5 t0 t1 t2 pw), (aI g t1 6 pd), (aI g t2 36 wb)] := hD
              refine lv_aload_n hx hb dX4_shoot_137 rfl (lv_at hl 0 rfl) ?_
              refine va_get (v := .ref q0) (T := TX4) (N := 3) hx hb hts inX4 hown hK hP 0 rfl rfl 0 (by decide) f9 (fun _ h9 => h9) rfl dX4_shoot_138 ?_
              refine lv_bipush (v := 12) hx hb dX4_shoot_141 (by decide) ?_
              refine lv_iload hx hb dX4_shoot_143 (lv_at hl 7 rfl) ?_
              refine lv_iadd hx hb dX4_shoot_145 ?_
              refine he_top (nI (12 + k)) (nI_add 12 k) ?_
              refine lv_dup2_11 hx hb dX4_shoot_146 rfl rfl ?_
              refine he_iald hx hb hK hP 1 rfl (12 + k) rfl (by first | assumption | decide | omega) (by first | decide | assumption) ((upd F 9 ((F 9) + 1)) (12 + k)) rfl dX4_shoot_147 ?_
              have join165 : ∀ (dm : Int32), ∀ (H : Heap) (locs : List Loc) (ls : Array Slot), va_P g.1 vwCl [(oX4 h0 q0 q1 mo), (aI g q0 24 (upd F 9 ((F 9) + 1))), (aI g q1 6 (upd G k ((G k) + 1))), (oX6 p0 p1 p2 p3 p4 (nI w)), (aI g p1 24 sd), (aI g p3 6 st), (oX5 t0 t1 t2 pw), (aI g t1 6 pd), (aI g t2 36 wb)] H → va_D A [(oX4 h0 q0 q1 mo), (aI g q0 24 (upd F 9 ((F 9) + 1))), (aI g q1 6 (upd G k ((G k) + 1))), (oX6 p0 p1 p2 p3 p4 (nI w)), (aI g p1 24 sd), (aI g p3 6 st), (oX5 t0 t1 t2 pw), (aI g t1 6 pd), (aI g t2 36 wb)] → va_S A s.heap H locs → lv_has ls 9 [(0, .ref h0), (1, .ref p0), (2, .ref t0), (3, .int (-1)), (4, .int fb), (5, .int (nI c9)), (6, .int cl), (7, .int (nI k)), (8, .int (nI i))] → W p l e (he_room 3 60 0 0) s m args below meth c H locs 0 0 Q (F0 m 165 ls [.int dm, .int ((upd F 9 ((F 9) + 1)) (12 + k)), .int (nI (12 + k)), .ref q0]) := by
                intro dm H locs ls hP hD hS hl
                refine lv_isub hx hb dX4_shoot_165 ?_
                refine he_iast hx hb hK hP hD hS 1 rfl (12 + k) rfl (by first | assumption | decide | omega) (by first | decide | assumption) dX4_shoot_166 (fun H locs hP hD hS => ?_)
                have hP : va_P g.1 vwCl [(oX4 h0 q0 q1 mo), (aI g q0 24 (upd (upd F 9 ((F 9) + 1)) (12 + k) (((upd F 9 ((F 9) + 1)) (12 + k)) - dm))), (aI g q1 6 (upd G k ((G k) + 1))), (oX6 p0 p1 p2 p3 p4 (nI w)), (aI g p1 24 sd), (aI g p3 6 st), (oX5 t0 t1 t2 pw), (aI g t1 6 pd), (aI g t2 36 wb)] H := hP
                have hD : va_D A [(oX4 h0 q0 q1 mo), (aI g q0 24 (upd (upd F 9 ((F 9) + 1)) (12 + k) (((upd F 9 ((F 9) + 1)) (12 + k)) - dm))), (aI g q1 6 (upd G k ((G k) + 1))), (oX6 p0 p1 p2 p3 p4 (nI w)), (aI g p1 24 sd), (aI g p3 6 st), (oX5 t0 t1 t2 pw), (aI g t1 6 pd), (aI g t2 36 wb)] := hD
                refine lv_aload_n hx hb dX4_shoot_167 rfl (lv_at hl 0 rfl) ?_
                refine va_get (v := .ref q0) (T := TX4) (N := 3) hx hb hts inX4 hown hK hP 0 rfl rfl 0 (by decide) f9 (fun _ h9 => h9) rfl dX4_shoot_168 ?_
                refine lv_bipush (v := 12) hx hb dX4_shoot_171 (by decide) ?_
                refine lv_iload hx hb dX4_shoot_173 (lv_at hl 7 rfl) ?_
                refine lv_iadd hx hb dX4_shoot_175 ?_
                refine he_top (nI (12 + k)) (nI_add 12 k) ?_
                refine he_iald hx hb hK hP 1 rfl (12 + k) rfl (by first | assumption | decide | omega) (by first | decide | assumption) ((upd (upd F 9 ((F 9) + 1)) (12 + k) (((upd F 9 ((F 9) + 1)) (12 + k)) - dm)) (12 + k)) rfl dX4_shoot_176 ?_
                refine lv_if_gt (tgt := 191) hx hb dX4_shoot_177 (by decide) (fun c_8 => ?_) (fun c_8 => ?_)
                · refine lv_iinc (v := nI (i + 1)) (lv' := [(8, .int (nI (i + 1))), (0, .ref h0), (1, .ref p0), (2, .ref t0), (3, .int (-1)), (4, .int fb), (5, .int (nI c9)), (6, .int cl), (7, .int (nI k))]) hx hb dX4_shoot_191 hl (k := 8) rfl (nI_1 i) (by decide) rfl (fun ls hl => ?_)
                  refine lv_goto (tgt := 83) hx hb dX4_shoot_194 (by decide) ?_
                  exact ih83 (i + 1) (nI k) (upd (upd F 9 ((F 9) + 1)) (12 + k) (((upd F 9 ((F 9) + 1)) (12 + k)) - dm)) (upd G k ((G k) + 1)) (by omega) (by omega) (by omega) (Or.inr ⟨_, by omega, rfl⟩) (by rw [upd_n (by omega), upd_n (by decide)]; exact hF) _ _ _ hP hD hS (lv_sub hl [1, 2, 3, 4, 5, 6, 7, 8, 0] rfl)
                · refine lv_aload_n hx hb dX4_shoot_180 rfl (lv_at hl 0 rfl) ?_
                  refine lv_aload_n hx hb dX4_shoot_181 rfl (lv_at hl 1 rfl) ?_
                  refine lv_aload_n hx hb dX4_shoot_182 rfl (lv_at hl 2 rfl) ?_
                  refine lv_iload hx hb dX4_shoot_183 (lv_at hl 7 rfl) ?_
                  refine he_cv (wc := [(oX4 h0 q0 q1 mo), (aI g q0 24 (upd (upd F 9 ((F 9) + 1)) (12 + k) (((upd F 9 ((F 9) + 1)) (12 + k)) - dm))), (oX6 p0 p1 p2 p3 p4 (nI w)), (aI g p1 24 sd), (aI g p3 6 st), (oX5 t0 t1 t2 pw), (aI g t1 6 pd)]) (wr := [(aI g q1 6 (upd G k ((G k) + 1))), (aI g t2 36 wb)]) (va_runV (As := [.ref p0, .ref t0, .int (nI k)]) (rest := []) ⟨hx, hb, hml, hown, hts⟩ (g_X4_breach l g h0 q0 q1 mo (upd (upd F 9 ((F 9) + 1)) (12 + k) (((upd F 9 ((F 9) + 1)) (12 + k)) - dm)) p0 p1 p2 p3 p4 (nI w) sd st t0 t1 t2 pw pd k (by first | assumption | decide | omega) H.size) (cwV 3 hts gX4_shoot_X4_breach rfl rfl rfl (by decide +kernel) ⟨Nat.le_of_ble_eq_true rfl, Nat.le_of_ble_eq_true rfl⟩) (he_preV (wc := [(oX4 h0 q0 q1 mo), (aI g q0 24 (upd (upd F 9 ((F 9) + 1)) (12 + k) (((upd F 9 ((F 9) + 1)) (12 + k)) - dm))), (oX6 p0 p1 p2 p3 p4 (nI w)), (aI g p1 24 sd), (aI g p3 6 st), (oX5 t0 t1 t2 pw), (aI g t1 6 pd)]) hK hP hD hS hA hE [0, 1, 3, 4, 5, 6, 7] rfl rfl 0 rfl rfl) rfl rfl hl.1 rfl (lv_room (Nat.le_of_ble_eq_true rfl)) dX4_shoot_185 ⟨(Nat.le_of_ble_eq_true rfl), (Nat.le_of_ble_eq_true rfl)⟩) hP hD hS hA [0, 1, 3, 4, 5, 6, 7] [2, 8] rfl rfl rfl (by decide) (fun u_10 H locs h_11 hP hD hS => ?_)
                  obtain ⟨uf_12, rfl⟩ : ∃ z, z = u_10 := ⟨_, rfl⟩
                  try dsimp only at h_11
                  have hf_13 := h_11
                  have hP : va_P g.1 vwCl [(aI g q1 6 (upd G k ((G k) + 1))), (aI g t2 36 wb), (oX4 h0 q0 q1 mo), (aI g q0 24 uf_12), (oX6 p0 p1 p2 p3 p4 (nI w)), (aI g p1 24 sd), (aI g p3 6 st), (oX5 t0 t1 t2 pw), (aI g t1 6 pd)] H := hP
                  have hD : va_D A [(aI g q1 6 (upd G k ((G k) + 1))), (aI g t2 36 wb), (oX4 h0 q0 q1 mo), (aI g q0 24 uf_12), (oX6 p0 p1 p2 p3 p4 (nI w)), (aI g p1 24 sd), (aI g p3 6 st), (oX5 t0 t1 t2 pw), (aI g t1 6 pd)] := hD
                  refine lv_iconst (v := (-1)) hx hb dX4_shoot_188 (by decide) ?_
                  refine lv_istore (lv' := [(7, .int (-1)), (0, .ref h0), (1, .ref p0), (2, .ref t0), (3, .int (-1)), (4, .int fb), (5, .int (nI c9)), (6, .int cl), (8, .int (nI i))]) hx hb dX4_shoot_189 hl (by decide) rfl (fun ls hl => ?_)
                  refine lv_iinc (v := nI (i + 1)) (lv' := [(8, .int (nI (i + 1))), (7, .int (-1)), (0, .ref h0), (1, .ref p0), (2, .ref t0), (3, .int (-1)), (4, .int fb), (5, .int (nI c9)), (6, .int cl)]) hx hb dX4_shoot_191 hl (k := 8) rfl (nI_1 i) (by decide) rfl (fun ls hl => ?_)
                  refine lv_goto (tgt := 83) hx hb dX4_shoot_194 (by decide) ?_
                  exact ih83 (i + 1) (-1) uf_12 (upd G k ((G k) + 1)) (by omega) (by omega) (by omega) (Or.inl rfl) (by rw [hf_13, upd_n (by omega), upd_n (by decide)]; exact hF) _ _ _ (hP.sub [2, 3, 0, 4, 5, 6, 7, 8, 1] rfl) (hD.sub [2, 3, 0, 4, 5, 6, 7, 8, 1] (by decide) rfl) hS (lv_sub hl [2, 3, 4, 5, 6, 7, 8, 1, 0] rfl)
              refine lv_iload hx hb dX4_shoot_148 (lv_at hl 6 rfl) ?_
              refine lv_if_eq (tgt := 164) hx hb dX4_shoot_150 (by decide) (fun c_14 => ?_) (fun c_14 => ?_)
              · refine lv_iconst (v := 1) hx hb dX4_shoot_164 (by decide) ?_
                exact join165 1  _ _ _ hP hD hS (lv_sub hl [0, 1, 2, 3, 4, 5, 6, 7, 8] rfl)
              · refine lv_iload hx hb dX4_shoot_153 (lv_at hl 8 rfl) ?_
                refine lv_iconst (v := 2) hx hb dX4_shoot_155 (by decide) ?_
                refine lv_irem hx hb dX4_shoot_156 (by decide) ?_
                refine lv_if_ne (tgt := 164) hx hb dX4_shoot_157 (by decide) (fun c_15 => ?_) (fun c_15 => ?_)
                · refine lv_iconst (v := 1) hx hb dX4_shoot_164 (by decide) ?_
                  exact join165 1  _ _ _ hP hD hS (lv_sub hl [0, 1, 2, 3, 4, 5, 6, 7, 8] rfl)
                · refine lv_iconst (v := 2) hx hb dX4_shoot_160 (by decide) ?_
                  refine lv_goto (tgt := 165) hx hb dX4_shoot_161 (by decide) ?_
                  exact join165 2  _ _ _ hP hD hS (lv_sub hl [0, 1, 2, 3, 4, 5, 6, 7, 8] rfl)
            refine lv_iload hx hb dX4_shoot_90 (lv_at hl 7 rfl) ?_
            refine lv_iconst (v := (-1)) hx hb dX4_shoot_92 (by decide) ?_
            refine lv_icmp_ne (tgt := 115) hx hb dX4_shoot_93 (by decide) (fun c_16 => ?_) (fun c_16 => ?_)
            · obtain ⟨k, hk, rfl⟩ := ht.resolve_left c_16
              exact join115 k (by omega) _ _ _ hP hD hS (lv_sub hl [0, 1, 2, 3, 4, 5, 6, 7, 8] rfl)
            · refine lv_iload_n hx hb dX4_shoot_96 rfl (lv_at hl 3 rfl) ?_
              refine lv_iconst (v := (-1)) hx hb dX4_shoot_97 (by decide) ?_
              refine lv_icmp_ne (tgt := 112) hx hb dX4_shoot_98 (by decide) (fun c_17 => ?_) (fun c_17 => ?_)
              · exact absurd (by decide) c_17
              · refine lv_aload_n hx hb dX4_shoot_101 rfl (lv_at hl 0 rfl) ?_
                refine lv_aload_n hx hb dX4_shoot_102 rfl (lv_at hl 1 rfl) ?_
                refine va_get (v := .int (nI w)) (T := TX6) (N := 5) hx hb hts inX6 hown hK hP 3 rfl rfl 4 (by decide) f33 (fun _ h9 => h9) rfl dX4_shoot_103 ?_
                refine he_ci (wc := [(oX4 h0 q0 q1 mo), (aI g q0 24 F)]) (wr := [(aI g q1 6 G), (oX6 p0 p1 p2 p3 p4 (nI w)), (aI g p1 24 sd), (aI g p3 6 st), (oX5 t0 t1 t2 pw), (aI g t1 6 pd), (aI g t2 36 wb)]) (va_runV (As := [.int (nI w)]) (rest := []) ⟨hx, hb, hml, hown, hts⟩ (g_X4_weakest l g h0 q0 q1 mo F w (by first | assumption | decide | omega) H.size) (cwV 1 hts gX4_shoot_X4_weakest rfl rfl rfl (by decide +kernel) ⟨Nat.le_of_ble_eq_true rfl, Nat.le_of_ble_eq_true rfl⟩) (he_preV (wc := [(oX4 h0 q0 q1 mo), (aI g q0 24 F)]) hK hP hD hS hA hE [0, 1] rfl rfl 0 rfl rfl) rfl rfl hl.1 rfl (lv_room (Nat.le_of_ble_eq_true rfl)) dX4_shoot_106 ⟨(Nat.le_of_ble_eq_true rfl), (Nat.le_of_ble_eq_true rfl)⟩) hP hD hS hA [0, 1] [2, 3, 4, 5, 6, 7, 8] rfl rfl rfl (by decide) (fun r_18 u_19 H locs h_20 hP hD hS => ?_)
                obtain ⟨k_21, rfl⟩ : ∃ z, z = u_19 := ⟨_, rfl⟩
                try dsimp only at h_20
                obtain ⟨rfl, hf_22⟩ := h_20
                have hP : va_P g.1 vwCl [(aI g q1 6 G), (oX6 p0 p1 p2 p3 p4 (nI w)), (aI g p1 24 sd), (aI g p3 6 st), (oX5 t0 t1 t2 pw), (aI g t1 6 pd), (aI g t2 36 wb), (oX4 h0 q0 q1 mo), (aI g q0 24 F)] H := hP
                have hD : va_D A [(aI g q1 6 G), (oX6 p0 p1 p2 p3 p4 (nI w)), (aI g p1 24 sd), (aI g p3 6 st), (oX5 t0 t1 t2 pw), (aI g t1 6 pd), (aI g t2 36 wb), (oX4 h0 q0 q1 mo), (aI g q0 24 F)] := hD
                refine lv_goto (tgt := 113) hx hb dX4_shoot_109 (by decide) ?_
                refine lv_istore (lv' := [(7, .int (nI k_21)), (0, .ref h0), (1, .ref p0), (2, .ref t0), (3, .int (-1)), (4, .int fb), (5, .int (nI c9)), (6, .int cl), (8, .int (nI i))]) hx hb dX4_shoot_113 hl (by decide) rfl (fun ls hl => ?_)
                exact join115 k_21 (by omega) _ _ _ (hP.sub [7, 8, 0, 1, 2, 3, 4, 5, 6] rfl) (hD.sub [7, 8, 0, 1, 2, 3, 4, 5, 6] (by decide) rfl) hS (lv_sub hl [1, 2, 3, 4, 5, 6, 7, 0, 8] rfl)
      exact loop83 ((c9 + 1 - 1) + 1) 1 (-1) f sh (Nat.lt_succ_self _) (Nat.le_refl 1) (by omega) (Or.inl rfl) rfl _ _ _ (hP.sub [0, 1, 2, 3, 4, 5, 7, 6, 8] rfl) (hD.sub [0, 1, 2, 3, 4, 5, 7, 6, 8] (by decide) rfl) hS (lv_sub hl [2, 3, 4, 5, 6, 7, 8, 1, 0] rfl)
    refine lv_iload_n hx hb dX4_shoot_21 rfl (lv_at hl 0 rfl) ?_
    refine lv_iconst (v := (-1)) hx hb dX4_shoot_22 (by decide) ?_
    refine lv_icmp_ne (tgt := 30) hx hb dX4_shoot_23 (by decide) (fun c_23 => ?_) (fun c_23 => ?_)
    · exact absurd (by decide) c_23
    · refine lv_iconst (v := 0) hx hb dX4_shoot_26 (by decide) ?_
      refine lv_goto (tgt := 39) hx hb dX4_shoot_27 (by decide) ?_
      refine lv_istore (lv' := [(4, .int 0), (3, .int (-1)), (0, .ref h0), (1, .ref p0), (2, .ref t0)]) hx hb dX4_shoot_39 hl (by decide) rfl (fun ls hl => ?_)
      refine lv_aload_n hx hb dX4_shoot_41 rfl (lv_at hl 3 rfl) ?_
      refine va_get (v := .int (nI w)) (T := TX6) (N := 5) hx hb hts inX6 hown hK hP 3 rfl rfl 4 (by decide) f33 (fun _ h9 => h9) rfl dX4_shoot_42 ?_
      refine lv_if_le (tgt := 57) hx hb dX4_shoot_45 (by decide) (fun c_24 => ?_) (fun c_24 => ?_)
      · have k_25 : w ≤ 0 := (he_cle (a := w) (b := 0) rfl (by decide) (by omega) (by omega)).mp c_24
        refine lv_iconst (v := 0) hx hb dX4_shoot_57 (by decide) ?_
        refine lv_istore (lv' := [(5, .int 0), (4, .int 0), (3, .int (-1)), (0, .ref h0), (1, .ref p0), (2, .ref t0)]) hx hb dX4_shoot_58 hl (by decide) rfl (fun ls hl => ?_)
        refine lv_aload_n hx hb dX4_shoot_60 rfl (lv_at hl 5 rfl) ?_
        refine va_get (v := .ref t1) (T := TX5) (N := 3) hx hb hts inX5 hown hK hP 7 rfl rfl 0 (by decide) f57 (fun _ h9 => h9) rfl dX4_shoot_61 ?_
        refine lv_iconst (v := 2) hx hb dX4_shoot_64 (by decide) ?_
        refine he_iald hx hb hK hP 6 rfl (2) (by decide) (by decide) (by first | decide | assumption) (pd 2) rfl dX4_shoot_65 ?_
        refine lv_iconst (v := 4) hx hb dX4_shoot_66 (by decide) ?_
        refine lv_icmp_gt (tgt := 74) hx hb dX4_shoot_67 (by decide) (fun c_26 => ?_) (fun c_26 => ?_)
        · refine lv_iconst (v := 0) hx hb dX4_shoot_74 (by decide) ?_
          refine lv_istore (lv' := [(6, .int 0), (5, .int 0), (4, .int 0), (3, .int (-1)), (0, .ref h0), (1, .ref p0), (2, .ref t0)]) hx hb dX4_shoot_75 hl (by decide) rfl (fun ls hl => ?_)
          exact join77 0 0 0 (by omega) (by omega) _ _ _ hP hD hS (lv_sub hl [4, 5, 6, 3, 2, 1, 0] rfl)
        · refine lv_iconst (v := 1) hx hb dX4_shoot_70 (by decide) ?_
          refine lv_goto (tgt := 75) hx hb dX4_shoot_71 (by decide) ?_
          refine lv_istore (lv' := [(6, .int 1), (5, .int 0), (4, .int 0), (3, .int (-1)), (0, .ref h0), (1, .ref p0), (2, .ref t0)]) hx hb dX4_shoot_75 hl (by decide) rfl (fun ls hl => ?_)
          exact join77 0 0 1 (by omega) (by omega) _ _ _ hP hD hS (lv_sub hl [4, 5, 6, 3, 2, 1, 0] rfl)
      · have k_27 : ¬ (w ≤ 0) := fun h9 => c_24 ((he_cle (a := w) (b := 0) rfl (by decide) (by omega) (by omega)).mpr h9)
        have hw0 : 0 < w := Nat.pos_of_ne_zero (fun h9 => c_24 (by rw [h9]; decide))
        refine lv_aload_n hx hb dX4_shoot_48 rfl (lv_at hl 4 rfl) ?_
        refine va_get (v := .ref t1) (T := TX5) (N := 3) hx hb hts inX5 hown hK hP 7 rfl rfl 0 (by decide) f57 (fun _ h9 => h9) rfl dX4_shoot_49 ?_
        refine lv_iconst (v := 3) hx hb dX4_shoot_52 (by decide) ?_
        refine he_iald hx hb hK hP 6 rfl (3) (by decide) (by decide) (by first | decide | assumption) (nI ck) hck dX4_shoot_53 ?_
        refine lv_goto (tgt := 58) hx hb dX4_shoot_54 (by decide) ?_
        refine lv_istore (lv' := [(5, .int (nI ck)), (4, .int 0), (3, .int (-1)), (0, .ref h0), (1, .ref p0), (2, .ref t0)]) hx hb dX4_shoot_58 hl (by decide) rfl (fun ls hl => ?_)
        refine lv_aload_n hx hb dX4_shoot_60 rfl (lv_at hl 5 rfl) ?_
        refine va_get (v := .ref t1) (T := TX5) (N := 3) hx hb hts inX5 hown hK hP 7 rfl rfl 0 (by decide) f57 (fun _ h9 => h9) rfl dX4_shoot_61 ?_
        refine lv_iconst (v := 2) hx hb dX4_shoot_64 (by decide) ?_
        refine he_iald hx hb hK hP 6 rfl (2) (by decide) (by decide) (by first | decide | assumption) (pd 2) rfl dX4_shoot_65 ?_
        refine lv_iconst (v := 4) hx hb dX4_shoot_66 (by decide) ?_
        refine lv_icmp_gt (tgt := 74) hx hb dX4_shoot_67 (by decide) (fun c_28 => ?_) (fun c_28 => ?_)
        · refine lv_iconst (v := 0) hx hb dX4_shoot_74 (by decide) ?_
          refine lv_istore (lv' := [(6, .int 0), (5, .int (nI ck)), (4, .int 0), (3, .int (-1)), (0, .ref h0), (1, .ref p0), (2, .ref t0)]) hx hb dX4_shoot_75 hl (by decide) rfl (fun ls hl => ?_)
          exact join77 0 ck 0 (by omega) (by omega) _ _ _ hP hD hS (lv_sub hl [4, 5, 6, 3, 2, 1, 0] rfl)
        · refine lv_iconst (v := 1) hx hb dX4_shoot_70 (by decide) ?_
          refine lv_goto (tgt := 75) hx hb dX4_shoot_71 (by decide) ?_
          refine lv_istore (lv' := [(6, .int 1), (5, .int (nI ck)), (4, .int 0), (3, .int (-1)), (0, .ref h0), (1, .ref p0), (2, .ref t0)]) hx hb dX4_shoot_75 hl (by decide) rfl (fun ls hl => ?_)
          exact join77 0 ck 1 (by omega) (by omega) _ _ _ hP hD hS (lv_sub hl [4, 5, 6, 3, 2, 1, 0] rfl)
  · refine he_top (nI dk) hdu ?_
    refine lv_istore_n (lv' := [(3, .int (nI dk)), (0, .ref h0), (1, .ref p0), (2, .ref t0)]) hx hb dX4_shoot_20 rfl hl (by decide) rfl (fun ls hl => ?_)
    have join77 : ∀ (fb : Int32) (c9 : Nat) (cl : Int32), (c9 ≤ 99) → (c9 = 0 ∨ 0 < w) → ∀ (H : Heap) (locs : List Loc) (ls : Array Slot), va_P g.1 vwCl [(oX4 h0 q0 q1 mo), (aI g q0 24 f), (aI g q1 6 sh), (oX6 p0 p1 p2 p3 p4 (nI w)), (aI g p1 24 sd), (aI g p3 6 st), (aI g t1 6 pd), (oX5 t0 t1 t2 pw), (aI g t2 36 wb)] H → va_D A [(oX4 h0 q0 q1 mo), (aI g q0 24 f), (aI g q1 6 sh), (oX6 p0 p1 p2 p3 p4 (nI w)), (aI g p1 24 sd), (aI g p3 6 st), (aI g t1 6 pd), (oX5 t0 t1 t2 pw), (aI g t2 36 wb)] → va_S A s.heap H locs → lv_has ls 9 [(0, .ref h0), (1, .ref p0), (2, .ref t0), (3, .int (nI dk)), (4, .int fb), (5, .int (nI c9)), (6, .int cl)] → W p l e (he_room 3 60 0 0) s m args below meth c H locs 0 0 Q (F0 m 77 ls []) := by
      intro fb c9 cl hc9 hcw H locs ls hP hD hS hl
      refine lv_iconst (v := (-1)) hx hb dX4_shoot_77 (by decide) ?_
      refine lv_istore (lv' := [(7, .int (-1)), (0, .ref h0), (1, .ref p0), (2, .ref t0), (3, .int (nI dk)), (4, .int fb), (5, .int (nI c9)), (6, .int cl)]) hx hb dX4_shoot_78 hl (by decide) rfl (fun ls hl => ?_)
      refine lv_iconst (v := 1) hx hb dX4_shoot_80 (by decide) ?_
      refine lv_istore (lv' := [(8, .int 1), (7, .int (-1)), (0, .ref h0), (1, .ref p0), (2, .ref t0), (3, .int (nI dk)), (4, .int fb), (5, .int (nI c9)), (6, .int cl)]) hx hb dX4_shoot_81 hl (by decide) rfl (fun ls hl => ?_)
      have loop83 : ∀ (n9 : Nat) (i : Nat) (t : Int32) (F : Nat → Int32) (G : Nat → Int32), c9 + 1 - i < n9 → (1 ≤ i) → (i ≤ c9 + 1) → (t = -1 ∨ ∃ k, k < 6 ∧ t = nI k) → (F 10 = f 10) → ∀ (H : Heap) (locs : List Loc) (ls : Array Slot), va_P g.1 vwCl [(oX4 h0 q0 q1 mo), (aI g q0 24 F), (aI g q1 6 G), (oX6 p0 p1 p2 p3 p4 (nI w)), (aI g p1 24 sd), (aI g p3 6 st), (oX5 t0 t1 t2 pw), (aI g t1 6 pd), (aI g t2 36 wb)] H → va_D A [(oX4 h0 q0 q1 mo), (aI g q0 24 F), (aI g q1 6 G), (oX6 p0 p1 p2 p3 p4 (nI w)), (aI g p1 24 sd), (aI g p3 6 st), (oX5 t0 t1 t2 pw), (aI g t1 6 pd), (aI g t2 36 wb)] → va_S A s.heap H locs → lv_has ls 9 [(0, .ref h0), (1, .ref p0), (2, .ref t0), (3, .int (nI dk)), (4, .int fb), (5, .int (nI c9)), (6, .int cl), (7, .int t), (8, .int (nI i))] → W p l e (he_room 3 60 0 0) s m args below meth c H locs 0 0 Q (F0 m 83 ls []) := by
        intro n9
        induction n9 with
        | zero => intro i t F G hm9; exact absurd hm9 (Nat.not_lt_zero _)
        | succ n9 ih83 =>
          intro i t F G hm9 hi1 hi ht hF H locs ls hP hD hS hl
          refine lv_iload hx hb dX4_shoot_83 (lv_at hl 8 rfl) ?_
          refine lv_iload hx hb dX4_shoot_85 (lv_at hl 5 rfl) ?_
          refine lv_icmp_gt (tgt := 197) hx hb dX4_shoot_87 (by decide) (fun c_29 => ?_) (fun c_29 => ?_)
          · have k_30 : c9 < i := (he_clt (a := c9) (b := i) rfl rfl (by omega) (by omega)).mp c_29
            refine lv_iload_n hx hb dX4_shoot_197 rfl (lv_at hl 3 rfl) ?_
            refine lv_iconst (v := (-1)) hx hb dX4_shoot_198 (by decide) ?_
            refine lv_icmp_eq (tgt := 227) hx hb dX4_shoot_199 (by decide) (fun c_31 => ?_) (fun c_31 => ?_)
            · exact absurd c_31 (nI_nm1 (by omega))
            · refine lv_aload_n hx hb dX4_shoot_202 rfl (lv_at hl 0 rfl) ?_
              refine va_get (v := .ref q0) (T := TX4) (N := 3) hx hb hts inX4 hown hK hP 0 rfl rfl 0 (by decide) f9 (fun _ h9 => h9) rfl dX4_shoot_203 ?_
              refine lv_bipush (v := 18) hx hb dX4_shoot_206 (by decide) ?_
              refine lv_iload_n hx hb dX4_shoot_208 rfl (lv_at hl 3 rfl) ?_
              refine lv_iadd hx hb dX4_shoot_209 ?_
              refine he_top (nI (18 + dk)) (nI_add 18 dk) ?_
              refine he_iald hx hb hK hP 1 rfl (18 + dk) rfl (by first | assumption | decide | omega) (by first | decide | assumption) (F (18 + dk)) rfl dX4_shoot_210 ?_
              refine lv_iload hx hb dX4_shoot_211 (lv_at hl 4 rfl) ?_
              refine lv_icmp_ne (tgt := 227) hx hb dX4_shoot_213 (by decide) (fun c_32 => ?_) (fun c_32 => ?_)
              · exact he_rv hQ hx hb hr hlk hP hD hS dX4_shoot_227 (Nat.le_of_ble_eq_true rfl) (Nat.le_of_ble_eq_true rfl) ((F, G)) (rfl) (hF)
              · refine lv_aload_n hx hb dX4_shoot_216 rfl (lv_at hl 0 rfl) ?_
                refine va_get (v := .ref q0) (T := TX4) (N := 3) hx hb hts inX4 hown hK hP 0 rfl rfl 0 (by decide) f9 (fun _ h9 => h9) rfl dX4_shoot_217 ?_
                refine lv_bipush (v := 7) hx hb dX4_shoot_220 (by decide) ?_
                refine lv_dup2_11 hx hb dX4_shoot_222 rfl rfl ?_
                refine he_iald hx hb hK hP 1 rfl (7) (by decide) (by decide) (by first | decide | assumption) (F 7) rfl dX4_shoot_223 ?_
                refine lv_iconst (v := 1) hx hb dX4_shoot_224 (by decide) ?_
                refine lv_iadd hx hb dX4_shoot_225 ?_
                refine he_iast hx hb hK hP hD hS 1 rfl (7) (by decide) (by decide) (by first | decide | assumption) dX4_shoot_226 (fun H locs hP hD hS => ?_)
                have hP : va_P g.1 vwCl [(oX4 h0 q0 q1 mo), (aI g q0 24 (upd F 7 ((F 7) + 1))), (aI g q1 6 G), (oX6 p0 p1 p2 p3 p4 (nI w)), (aI g p1 24 sd), (aI g p3 6 st), (oX5 t0 t1 t2 pw), (aI g t1 6 pd), (aI g t2 36 wb)] H := hP
                have hD : va_D A [(oX4 h0 q0 q1 mo), (aI g q0 24 (upd F 7 ((F 7) + 1))), (aI g q1 6 G), (oX6 p0 p1 p2 p3 p4 (nI w)), (aI g p1 24 sd), (aI g p3 6 st), (oX5 t0 t1 t2 pw), (aI g t1 6 pd), (aI g t2 36 wb)] := hD
                exact he_rv hQ hx hb hr hlk hP hD hS dX4_shoot_227 (Nat.le_of_ble_eq_true rfl) (Nat.le_of_ble_eq_true rfl) ((upd F 7 ((F 7) + 1), G)) (rfl) ((by (try dsimp only); rw [upd_n (by (try dsimp only); decide)]; exact hF))
          · have k_33 : ¬ (c9 < i) := fun h9 => c_29 ((he_clt (a := c9) (b := i) rfl rfl (by omega) (by omega)).mpr h9)
            have join115 : ∀ (k : Nat), (k < 6) → ∀ (H : Heap) (locs : List Loc) (ls : Array Slot), va_P g.1 vwCl [(oX4 h0 q0 q1 mo), (aI g q0 24 F), (aI g q1 6 G), (oX6 p0 p1 p2 p3 p4 (nI w)), (aI g p1 24 sd), (aI g p3 6 st), (oX5 t0 t1 t2 pw), (aI g t1 6 pd), (aI g t2 36 wb)] H → va_D A [(oX4 h0 q0 q1 mo), (aI g q0 24 F), (aI g q1 6 G), (oX6 p0 p1 p2 p3 p4 (nI w)), (aI g p1 24 sd), (aI g p3 6 st), (oX5 t0 t1 t2 pw), (aI g t1 6 pd), (aI g t2 36 wb)] → va_S A s.heap H locs → lv_has ls 9 [(0, .ref h0), (1, .ref p0), (2, .ref t0), (3, .int (nI dk)), (4, .int fb), (5, .int (nI c9)), (6, .int cl), (7, .int (nI k)), (8, .int (nI i))] → W p l e (he_room 3 60 0 0) s m args below meth c H locs 0 0 Q (F0 m 115 ls []) := by
              intro k hk H locs ls hP hD hS hl
              refine lv_aload_n hx hb dX4_shoot_115 rfl (lv_at hl 0 rfl) ?_
              refine va_get (v := .ref q1) (T := TX4) (N := 3) hx hb hts inX4 hown hK hP 0 rfl rfl 1 (by decide) f15 (fun _ h9 => h9) rfl dX4_shoot_116 ?_
              refine lv_iload hx hb dX4_shoot_119 (lv_at hl 7 rfl) ?_
              refine lv_dup2_11 hx hb dX4_shoot_121 rfl rfl ?_
              refine he_iald hx hb hK hP 2 rfl (k) rfl (by first | assumption | decide | omega) (by first | decide | assumption) (G k) rfl dX4_shoot_122 ?_
              refine lv_iconst (v := 1) hx hb dX4_shoot_123 (by decide) ?_
              refine lv_iadd hx hb dX4_shoot_124 ?_
              refine he_iast hx hb hK hP hD hS 2 rfl (k) rfl (by first | assumption | decide | omega) (by first | decide | assumption) dX4_shoot_125 (fun H locs hP hD hS => ?_)
              have hP : va_P g.1 vwCl [(oX4 h0 q0 q1 mo), (aI g q0 24 F), (aI g q1 6 (upd G k ((G k) + 1))), (oX6 p0 p1 p2 p3 p4 (nI w)), (aI g p1 24 sd), (aI g p3 6 st), (oX5 t0 t1 t2 pw), (aI g t1 6 pd), (aI g t2 36 wb)] H := hP
              have hD : va_D A [(oX4 h0 q0 q1 mo), (aI g q0 24 F), (aI g q1 6 (upd G k ((G k) + 1))), (oX6 p0 p1 p2 p3 p4 (nI w)), (aI g p1 24 sd), (aI g p3 6 st), (oX5 t0 t1 t2 pw), (aI g t1 6 pd), (aI g t2 36 wb)] := hD
              refine lv_aload_n hx hb dX4_shoot_126 rfl (lv_at hl 0 rfl) ?_
              refine va_get (v := .ref q0) (T := TX4) (N := 3) hx hb hts inX4 hown hK hP 0 rfl rfl 0 (by decide) f9 (fun _ h9 => h9) rfl dX4_shoot_127 ?_
              refine lv_bipush (v := 9) hx hb dX4_shoot_130 (by decide) ?_
              refine lv_dup2_11 hx hb dX4_shoot_132 rfl rfl ?_
              refine he_iald hx hb hK hP 1 rfl (9) (by decide) (by decide) (by first | decide | assumption) (F 9) rfl dX4_shoot_133 ?_
              refine lv_iconst (v := 1) hx hb dX4_shoot_134 (by decide) ?_
              refine lv_iadd hx hb dX4_shoot_135 ?_
              refine he_iast hx hb hK hP hD hS 1 rfl (9) (by decide) (by decide) (by first | decide | assumption) dX4_shoot_136 (fun H locs hP hD hS => ?_)
              have hP : va_P g.1 vwCl [(oX4 h0 q0 q1 mo), (aI g q0 24 (upd F 9 ((F 9) + 1))), (aI g q1 6 (upd G k ((G k) + 1))), (oX6 p0 p1 p2 p3 p4 (nI w)), (aI g p1 24 sd), (aI g p3 6 st), (oX5 t0 t1 t2 pw), (aI g t1 6 pd), (aI g t2 36 wb)] H := hP
              have hD : va_D A [(oX4 h0 q0 q1 mo), (aI g q0 24 (upd F 9 ((F 9) + 1))), (aI g q1 6 (upd G k ((G k) + 1))), (oX6 p0 p1 p2 p3 p4 (nI w)), (aI g p1 24 sd), (aI g p3 6 st), (oX5 t0 t1 t2 pw), (aI g t1 6 pd), (aI g t2 36 wb)] := hD
              refine lv_aload_n hx hb dX4_shoot_137 rfl (lv_at hl 0 rfl) ?_
              refine va_get (v := .ref q0) (T := TX4) (N := 3) hx hb hts inX4 hown hK hP 0 rfl rfl 0 (by decide) f9 (fun _ h9 => h9) rfl dX4_shoot_138 ?_
              refine lv_bipush (v := 12) hx hb dX4_shoot_141 (by decide) ?_
              refine lv_iload hx hb dX4_shoot_143 (lv_at hl 7 rfl) ?_
              refine lv_iadd hx hb dX4_shoot_145 ?_
              refine he_top (nI (12 + k)) (nI_add 12 k) ?_
              refine lv_dup2_11 hx hb dX4_shoot_146 rfl rfl ?_
              refine he_iald hx hb hK hP 1 rfl (12 + k) rfl (by first | assumption | decide | omega) (by first | decide | assumption) ((upd F 9 ((F 9) + 1)) (12 + k)) rfl dX4_shoot_147 ?_
              have join165 : ∀ (dm : Int32), ∀ (H : Heap) (locs : List Loc) (ls : Array Slot), va_P g.1 vwCl [(oX4 h0 q0 q1 mo), (aI g q0 24 (upd F 9 ((F 9) + 1))), (aI g q1 6 (upd G k ((G k) + 1))), (oX6 p0 p1 p2 p3 p4 (nI w)), (aI g p1 24 sd), (aI g p3 6 st), (oX5 t0 t1 t2 pw), (aI g t1 6 pd), (aI g t2 36 wb)] H → va_D A [(oX4 h0 q0 q1 mo), (aI g q0 24 (upd F 9 ((F 9) + 1))), (aI g q1 6 (upd G k ((G k) + 1))), (oX6 p0 p1 p2 p3 p4 (nI w)), (aI g p1 24 sd), (aI g p3 6 st), (oX5 t0 t1 t2 pw), (aI g t1 6 pd), (aI g t2 36 wb)] → va_S A s.heap H locs → lv_has ls 9 [(0, .ref h0), (1, .ref p0), (2, .ref t0), (3, .int (nI dk)), (4, .int fb), (5, .int (nI c9)), (6, .int cl), (7, .int (nI k)), (8, .int (nI i))] → W p l e (he_room 3 60 0 0) s m args below meth c H locs 0 0 Q (F0 m 165 ls [.int dm, .int ((upd F 9 ((F 9) + 1)) (12 + k)), .int (nI (12 + k)), .ref q0]) := by
                intro dm H locs ls hP hD hS hl
                refine lv_isub hx hb dX4_shoot_165 ?_
                refine he_iast hx hb hK hP hD hS 1 rfl (12 + k) rfl (by first | assumption | decide | omega) (by first | decide | assumption) dX4_shoot_166 (fun H locs hP hD hS => ?_)
                have hP : va_P g.1 vwCl [(oX4 h0 q0 q1 mo), (aI g q0 24 (upd (upd F 9 ((F 9) + 1)) (12 + k) (((upd F 9 ((F 9) + 1)) (12 + k)) - dm))), (aI g q1 6 (upd G k ((G k) + 1))), (oX6 p0 p1 p2 p3 p4 (nI w)), (aI g p1 24 sd), (aI g p3 6 st), (oX5 t0 t1 t2 pw), (aI g t1 6 pd), (aI g t2 36 wb)] H := hP
                have hD : va_D A [(oX4 h0 q0 q1 mo), (aI g q0 24 (upd (upd F 9 ((F 9) + 1)) (12 + k) (((upd F 9 ((F 9) + 1)) (12 + k)) - dm))), (aI g q1 6 (upd G k ((G k) + 1))), (oX6 p0 p1 p2 p3 p4 (nI w)), (aI g p1 24 sd), (aI g p3 6 st), (oX5 t0 t1 t2 pw), (aI g t1 6 pd), (aI g t2 36 wb)] := hD
                refine lv_aload_n hx hb dX4_shoot_167 rfl (lv_at hl 0 rfl) ?_
                refine va_get (v := .ref q0) (T := TX4) (N := 3) hx hb hts inX4 hown hK hP 0 rfl rfl 0 (by decide) f9 (fun _ h9 => h9) rfl dX4_shoot_168 ?_
                refine lv_bipush (v := 12) hx hb dX4_shoot_171 (by decide) ?_
                refine lv_iload hx hb dX4_shoot_173 (lv_at hl 7 rfl) ?_
                refine lv_iadd hx hb dX4_shoot_175 ?_
                refine he_top (nI (12 + k)) (nI_add 12 k) ?_
                refine he_iald hx hb hK hP 1 rfl (12 + k) rfl (by first | assumption | decide | omega) (by first | decide | assumption) ((upd (upd F 9 ((F 9) + 1)) (12 + k) (((upd F 9 ((F 9) + 1)) (12 + k)) - dm)) (12 + k)) rfl dX4_shoot_176 ?_
                refine lv_if_gt (tgt := 191) hx hb dX4_shoot_177 (by decide) (fun c_34 => ?_) (fun c_34 => ?_)
                · refine lv_iinc (v := nI (i + 1)) (lv' := [(8, .int (nI (i + 1))), (0, .ref h0), (1, .ref p0), (2, .ref t0), (3, .int (nI dk)), (4, .int fb), (5, .int (nI c9)), (6, .int cl), (7, .int (nI k))]) hx hb dX4_shoot_191 hl (k := 8) rfl (nI_1 i) (by decide) rfl (fun ls hl => ?_)
                  refine lv_goto (tgt := 83) hx hb dX4_shoot_194 (by decide) ?_
                  exact ih83 (i + 1) (nI k) (upd (upd F 9 ((F 9) + 1)) (12 + k) (((upd F 9 ((F 9) + 1)) (12 + k)) - dm)) (upd G k ((G k) + 1)) (by omega) (by omega) (by omega) (Or.inr ⟨_, by omega, rfl⟩) (by rw [upd_n (by omega), upd_n (by decide)]; exact hF) _ _ _ hP hD hS (lv_sub hl [1, 2, 3, 4, 5, 6, 7, 8, 0] rfl)
                · refine lv_aload_n hx hb dX4_shoot_180 rfl (lv_at hl 0 rfl) ?_
                  refine lv_aload_n hx hb dX4_shoot_181 rfl (lv_at hl 1 rfl) ?_
                  refine lv_aload_n hx hb dX4_shoot_182 rfl (lv_at hl 2 rfl) ?_
                  refine lv_iload hx hb dX4_shoot_183 (lv_at hl 7 rfl) ?_
                  refine he_cv (wc := [(oX4 h0 q0 q1 mo), (aI g q0 24 (upd (upd F 9 ((F 9) + 1)) (12 + k) (((upd F 9 ((F 9) + 1)) (12 + k)) - dm))), (oX6 p0 p1 p2 p3 p4 (nI w)), (aI g p1 24 sd), (aI g p3 6 st), (oX5 t0 t1 t2 pw), (aI g t1 6 pd)]) (wr := [(aI g q1 6 (upd G k ((G k) + 1))), (aI g t2 36 wb)]) (va_runV (As := [.ref p0, .ref t0, .int (nI k)]) (rest := []) ⟨hx, hb, hml, hown, hts⟩ (g_X4_breach l g h0 q0 q1 mo (upd (upd F 9 ((F 9) + 1)) (12 + k) (((upd F 9 ((F 9) + 1)) (12 + k)) - dm)) p0 p1 p2 p3 p4 (nI w) sd st t0 t1 t2 pw pd k (by first | assumption | decide | omega) H.size) (cwV 3 hts gX4_shoot_X4_breach rfl rfl rfl (by decide +kernel) ⟨Nat.le_of_ble_eq_true rfl, Nat.le_of_ble_eq_true rfl⟩) (he_preV (wc := [(oX4 h0 q0 q1 mo), (aI g q0 24 (upd (upd F 9 ((F 9) + 1)) (12 + k) (((upd F 9 ((F 9) + 1)) (12 + k)) - dm))), (oX6 p0 p1 p2 p3 p4 (nI w)), (aI g p1 24 sd), (aI g p3 6 st), (oX5 t0 t1 t2 pw), (aI g t1 6 pd)]) hK hP hD hS hA hE [0, 1, 3, 4, 5, 6, 7] rfl rfl 0 rfl rfl) rfl rfl hl.1 rfl (lv_room (Nat.le_of_ble_eq_true rfl)) dX4_shoot_185 ⟨(Nat.le_of_ble_eq_true rfl), (Nat.le_of_ble_eq_true rfl)⟩) hP hD hS hA [0, 1, 3, 4, 5, 6, 7] [2, 8] rfl rfl rfl (by decide) (fun u_36 H locs h_37 hP hD hS => ?_)
                  obtain ⟨uf_38, rfl⟩ : ∃ z, z = u_36 := ⟨_, rfl⟩
                  try dsimp only at h_37
                  have hf_39 := h_37
                  have hP : va_P g.1 vwCl [(aI g q1 6 (upd G k ((G k) + 1))), (aI g t2 36 wb), (oX4 h0 q0 q1 mo), (aI g q0 24 uf_38), (oX6 p0 p1 p2 p3 p4 (nI w)), (aI g p1 24 sd), (aI g p3 6 st), (oX5 t0 t1 t2 pw), (aI g t1 6 pd)] H := hP
                  have hD : va_D A [(aI g q1 6 (upd G k ((G k) + 1))), (aI g t2 36 wb), (oX4 h0 q0 q1 mo), (aI g q0 24 uf_38), (oX6 p0 p1 p2 p3 p4 (nI w)), (aI g p1 24 sd), (aI g p3 6 st), (oX5 t0 t1 t2 pw), (aI g t1 6 pd)] := hD
                  refine lv_iconst (v := (-1)) hx hb dX4_shoot_188 (by decide) ?_
                  refine lv_istore (lv' := [(7, .int (-1)), (0, .ref h0), (1, .ref p0), (2, .ref t0), (3, .int (nI dk)), (4, .int fb), (5, .int (nI c9)), (6, .int cl), (8, .int (nI i))]) hx hb dX4_shoot_189 hl (by decide) rfl (fun ls hl => ?_)
                  refine lv_iinc (v := nI (i + 1)) (lv' := [(8, .int (nI (i + 1))), (7, .int (-1)), (0, .ref h0), (1, .ref p0), (2, .ref t0), (3, .int (nI dk)), (4, .int fb), (5, .int (nI c9)), (6, .int cl)]) hx hb dX4_shoot_191 hl (k := 8) rfl (nI_1 i) (by decide) rfl (fun ls hl => ?_)
                  refine lv_goto (tgt := 83) hx hb dX4_shoot_194 (by decide) ?_
                  exact ih83 (i + 1) (-1) uf_38 (upd G k ((G k) + 1)) (by omega) (by omega) (by omega) (Or.inl rfl) (by rw [hf_39, upd_n (by omega), upd_n (by decide)]; exact hF) _ _ _ (hP.sub [2, 3, 0, 4, 5, 6, 7, 8, 1] rfl) (hD.sub [2, 3, 0, 4, 5, 6, 7, 8, 1] (by decide) rfl) hS (lv_sub hl [2, 3, 4, 5, 6, 7, 8, 1, 0] rfl)
              refine lv_iload hx hb dX4_shoot_148 (lv_at hl 6 rfl) ?_
              refine lv_if_eq (tgt := 164) hx hb dX4_shoot_150 (by decide) (fun c_40 => ?_) (fun c_40 => ?_)
              · refine lv_iconst (v := 1) hx hb dX4_shoot_164 (by decide) ?_
                exact join165 1  _ _ _ hP hD hS (lv_sub hl [0, 1, 2, 3, 4, 5, 6, 7, 8] rfl)
              · refine lv_iload hx hb dX4_shoot_153 (lv_at hl 8 rfl) ?_
                refine lv_iconst (v := 2) hx hb dX4_shoot_155 (by decide) ?_
                refine lv_irem hx hb dX4_shoot_156 (by decide) ?_
                refine lv_if_ne (tgt := 164) hx hb dX4_shoot_157 (by decide) (fun c_41 => ?_) (fun c_41 => ?_)
                · refine lv_iconst (v := 1) hx hb dX4_shoot_164 (by decide) ?_
                  exact join165 1  _ _ _ hP hD hS (lv_sub hl [0, 1, 2, 3, 4, 5, 6, 7, 8] rfl)
                · refine lv_iconst (v := 2) hx hb dX4_shoot_160 (by decide) ?_
                  refine lv_goto (tgt := 165) hx hb dX4_shoot_161 (by decide) ?_
                  exact join165 2  _ _ _ hP hD hS (lv_sub hl [0, 1, 2, 3, 4, 5, 6, 7, 8] rfl)
            refine lv_iload hx hb dX4_shoot_90 (lv_at hl 7 rfl) ?_
            refine lv_iconst (v := (-1)) hx hb dX4_shoot_92 (by decide) ?_
            refine lv_icmp_ne (tgt := 115) hx hb dX4_shoot_93 (by decide) (fun c_42 => ?_) (fun c_42 => ?_)
            · obtain ⟨k, hk, rfl⟩ := ht.resolve_left c_42
              exact join115 k (by omega) _ _ _ hP hD hS (lv_sub hl [0, 1, 2, 3, 4, 5, 6, 7, 8] rfl)
            · refine lv_iload_n hx hb dX4_shoot_96 rfl (lv_at hl 3 rfl) ?_
              refine lv_iconst (v := (-1)) hx hb dX4_shoot_97 (by decide) ?_
              refine lv_icmp_ne (tgt := 112) hx hb dX4_shoot_98 (by decide) (fun c_43 => ?_) (fun c_43 => ?_)
              · refine lv_iload_n hx hb dX4_shoot_112 rfl (lv_at hl 3 rfl) ?_
                refine lv_istore (lv' := [(7, .int (nI dk)), (0, .ref h0), (1, .ref p0), (2, .ref t0), (3, .int (nI dk)), (4, .int fb), (5, .int (nI c9)), (6, .int cl), (8, .int (nI i))]) hx hb dX4_shoot_113 hl (by decide) rfl (fun ls hl => ?_)
                exact join115 dk (by omega) _ _ _ hP hD hS (lv_sub hl [1, 2, 3, 4, 5, 6, 7, 0, 8] rfl)
              · exact absurd c_43 (nI_nm1 (by omega))
      exact loop83 ((c9 + 1 - 1) + 1) 1 (-1) f sh (Nat.lt_succ_self _) (Nat.le_refl 1) (by omega) (Or.inl rfl) rfl _ _ _ (hP.sub [0, 1, 2, 3, 4, 5, 7, 6, 8] rfl) (hD.sub [0, 1, 2, 3, 4, 5, 7, 6, 8] (by decide) rfl) hS (lv_sub hl [2, 3, 4, 5, 6, 7, 8, 1, 0] rfl)
    refine lv_iload_n hx hb dX4_shoot_21 rfl (lv_at hl 0 rfl) ?_
    refine lv_iconst (v := (-1)) hx hb dX4_shoot_22 (by decide) ?_
    refine lv_icmp_ne (tgt := 30) hx hb dX4_shoot_23 (by decide) (fun c_44 => ?_) (fun c_44 => ?_)
    · refine lv_aload_n hx hb dX4_shoot_30 rfl (lv_at hl 1 rfl) ?_
      refine va_get (v := .ref q0) (T := TX4) (N := 3) hx hb hts inX4 hown hK hP 0 rfl rfl 0 (by decide) f9 (fun _ h9 => h9) rfl dX4_shoot_31 ?_
      refine lv_bipush (v := 18) hx hb dX4_shoot_34 (by decide) ?_
      refine lv_iload_n hx hb dX4_shoot_36 rfl (lv_at hl 0 rfl) ?_
      refine lv_iadd hx hb dX4_shoot_37 ?_
      refine he_top (nI (18 + dk)) (nI_add 18 dk) ?_
      refine he_iald hx hb hK hP 1 rfl (18 + dk) rfl (by first | assumption | decide | omega) (by first | decide | assumption) (f (18 + dk)) rfl dX4_shoot_38 ?_
      refine lv_istore (lv' := [(4, .int (f (18 + dk))), (3, .int (nI dk)), (0, .ref h0), (1, .ref p0), (2, .ref t0)]) hx hb dX4_shoot_39 hl (by decide) rfl (fun ls hl => ?_)
      refine lv_aload_n hx hb dX4_shoot_41 rfl (lv_at hl 3 rfl) ?_
      refine va_get (v := .int (nI w)) (T := TX6) (N := 5) hx hb hts inX6 hown hK hP 3 rfl rfl 4 (by decide) f33 (fun _ h9 => h9) rfl dX4_shoot_42 ?_
      refine lv_if_le (tgt := 57) hx hb dX4_shoot_45 (by decide) (fun c_45 => ?_) (fun c_45 => ?_)
      · have k_46 : w ≤ 0 := (he_cle (a := w) (b := 0) rfl (by decide) (by omega) (by omega)).mp c_45
        refine lv_iconst (v := 0) hx hb dX4_shoot_57 (by decide) ?_
        refine lv_istore (lv' := [(5, .int 0), (4, .int (f (18 + dk))), (3, .int (nI dk)), (0, .ref h0), (1, .ref p0), (2, .ref t0)]) hx hb dX4_shoot_58 hl (by decide) rfl (fun ls hl => ?_)
        refine lv_aload_n hx hb dX4_shoot_60 rfl (lv_at hl 5 rfl) ?_
        refine va_get (v := .ref t1) (T := TX5) (N := 3) hx hb hts inX5 hown hK hP 7 rfl rfl 0 (by decide) f57 (fun _ h9 => h9) rfl dX4_shoot_61 ?_
        refine lv_iconst (v := 2) hx hb dX4_shoot_64 (by decide) ?_
        refine he_iald hx hb hK hP 6 rfl (2) (by decide) (by decide) (by first | decide | assumption) (pd 2) rfl dX4_shoot_65 ?_
        refine lv_iconst (v := 4) hx hb dX4_shoot_66 (by decide) ?_
        refine lv_icmp_gt (tgt := 74) hx hb dX4_shoot_67 (by decide) (fun c_47 => ?_) (fun c_47 => ?_)
        · refine lv_iconst (v := 0) hx hb dX4_shoot_74 (by decide) ?_
          refine lv_istore (lv' := [(6, .int 0), (5, .int 0), (4, .int (f (18 + dk))), (3, .int (nI dk)), (0, .ref h0), (1, .ref p0), (2, .ref t0)]) hx hb dX4_shoot_75 hl (by decide) rfl (fun ls hl => ?_)
          exact join77 (f (18 + dk)) 0 0 (by omega) (by omega) _ _ _ hP hD hS (lv_sub hl [4, 5, 6, 3, 2, 1, 0] rfl)
        · refine lv_iconst (v := 1) hx hb dX4_shoot_70 (by decide) ?_
          refine lv_goto (tgt := 75) hx hb dX4_shoot_71 (by decide) ?_
          refine lv_istore (lv' := [(6, .int 1), (5, .int 0), (4, .int (f (18 + dk))), (3, .int (nI dk)), (0, .ref h0), (1, .ref p0), (2, .ref t0)]) hx hb dX4_shoot_75 hl (by decide) rfl (fun ls hl => ?_)
          exact join77 (f (18 + dk)) 0 1 (by omega) (by omega) _ _ _ hP hD hS (lv_sub hl [4, 5, 6, 3, 2, 1, 0] rfl)
      · have k_48 : ¬ (w ≤ 0) := fun h9 => c_45 ((he_cle (a := w) (b := 0) rfl (by decide) (by omega) (by omega)).mpr h9)
        have hw0 : 0 < w := Nat.pos_of_ne_zero (fun h9 => c_45 (by rw [h9]; decide))
        refine lv_aload_n hx hb dX4_shoot_48 rfl (lv_at hl 4 rfl) ?_
        refine va_get (v := .ref t1) (T := TX5) (N := 3) hx hb hts inX5 hown hK hP 7 rfl rfl 0 (by decide) f57 (fun _ h9 => h9) rfl dX4_shoot_49 ?_
        refine lv_iconst (v := 3) hx hb dX4_shoot_52 (by decide) ?_
        refine he_iald hx hb hK hP 6 rfl (3) (by decide) (by decide) (by first | decide | assumption) (nI ck) hck dX4_shoot_53 ?_
        refine lv_goto (tgt := 58) hx hb dX4_shoot_54 (by decide) ?_
        refine lv_istore (lv' := [(5, .int (nI ck)), (4, .int (f (18 + dk))), (3, .int (nI dk)), (0, .ref h0), (1, .ref p0), (2, .ref t0)]) hx hb dX4_shoot_58 hl (by decide) rfl (fun ls hl => ?_)
        refine lv_aload_n hx hb dX4_shoot_60 rfl (lv_at hl 5 rfl) ?_
        refine va_get (v := .ref t1) (T := TX5) (N := 3) hx hb hts inX5 hown hK hP 7 rfl rfl 0 (by decide) f57 (fun _ h9 => h9) rfl dX4_shoot_61 ?_
        refine lv_iconst (v := 2) hx hb dX4_shoot_64 (by decide) ?_
        refine he_iald hx hb hK hP 6 rfl (2) (by decide) (by decide) (by first | decide | assumption) (pd 2) rfl dX4_shoot_65 ?_
        refine lv_iconst (v := 4) hx hb dX4_shoot_66 (by decide) ?_
        refine lv_icmp_gt (tgt := 74) hx hb dX4_shoot_67 (by decide) (fun c_49 => ?_) (fun c_49 => ?_)
        · refine lv_iconst (v := 0) hx hb dX4_shoot_74 (by decide) ?_
          refine lv_istore (lv' := [(6, .int 0), (5, .int (nI ck)), (4, .int (f (18 + dk))), (3, .int (nI dk)), (0, .ref h0), (1, .ref p0), (2, .ref t0)]) hx hb dX4_shoot_75 hl (by decide) rfl (fun ls hl => ?_)
          exact join77 (f (18 + dk)) ck 0 (by omega) (by omega) _ _ _ hP hD hS (lv_sub hl [4, 5, 6, 3, 2, 1, 0] rfl)
        · refine lv_iconst (v := 1) hx hb dX4_shoot_70 (by decide) ?_
          refine lv_goto (tgt := 75) hx hb dX4_shoot_71 (by decide) ?_
          refine lv_istore (lv' := [(6, .int 1), (5, .int (nI ck)), (4, .int (f (18 + dk))), (3, .int (nI dk)), (0, .ref h0), (1, .ref p0), (2, .ref t0)]) hx hb dX4_shoot_75 hl (by decide) rfl (fun ls hl => ?_)
          exact join77 (f (18 + dk)) ck 1 (by omega) (by omega) _ _ _ hP hD hS (lv_sub hl [4, 5, 6, 3, 2, 1, 0] rfl)
    · exact absurd c_44 (nI_nm1 (by omega))
set_option maxHeartbeats 4000000 in
set_option maxRecDepth 100000 in
theorem g_X4_isPaid (l : Launch) (g : he_G) (h0 : Nat) (q0 : Nat) (q1 : Nat) (mo : Int32) (f : Nat → Int32) (t0 : Nat) (t1 : Nat) (t2 : Nat) (pw : Int32) (pd : Nat → Int32)  : he_I l yX4_isPaid wsX4_isPaid 2 42 0 0 g [.ref h0, .ref t0] [(oX4 h0 q0 q1 mo), (aI g q0 24 f), (oX5 t0 t1 t2 pw), (aI g t1 6 pd)] (fun (r : Int32) (u : Nat → Int32) => (r = 0 ∨ r = 1) ∧ (u 10 = f 10 ∨ u 10 = -1)) (fun (u : Nat → Int32) => [(oX4 h0 q0 q1 mo), (aI g q0 24 u), (oX5 t0 t1 t2 pw), (aI g t1 6 pd)]) := by
  refine he_begin (l := l) (g := g) (y := yX4_isPaid) (wl := wsX4_isPaid) (fr := 2) (lo := 42) (mc := 0) (ms := 0) (av := [.ref h0, .ref t0]) (ws := [(oX4 h0 q0 q1 mo), (aI g q0 24 f), (oX5 t0 t1 t2 pw), (aI g t1 6 pd)]) (cc := cX4_isPaid) (maxL := 3) (ret := (some .boolean)) (fun A => va_Qi (fun (r : Int32) (u : Nat → Int32) => (r = 0 ∨ r = 1) ∧ (u 10 = f 10 ∨ u 10 = -1)) (fun u t => he_post g A ((fun (u : Nat → Int32) => [(oX4 h0 q0 q1 mo), (aI g q0 24 u), (oX5 t0 t1 t2 pw), (aI g t1 6 pd)]) u) t) A) (by decide) rfl (Nat.le_of_ble_eq_true rfl) ?_
  intro p e s m args below meth c A ls H locs Q hQ hB
  obtain ⟨hx, hb, hr, hml, hown, hts, hlk, hin, hP, hK, hD, hS, hA, hE, hl⟩ := hB
  have hl : lv_has ls 3 [(0, .ref h0), (1, .ref t0)] := hl
  have f18 := hts (.fieldLink RX4 18 "HiredEnemy$Course" "month" "I") (iwoX4_isPaid (k := 0) rfl)
  have inX4 : ∀ w ∈ wsX40, w ∈ wsX4_isPaid := innX4_isPaid_X4
  have f9 := hts (.fieldLink RX4 9 "HiredEnemy$Course" "now" "[I") (iwoX4_isPaid (k := 1) rfl)
  refine lv_aload_n hx hb dX4_isPaid_0 rfl (lv_at hl 1 rfl) ?_
  refine lv_aload_n hx hb dX4_isPaid_1 rfl (lv_at hl 0 rfl) ?_
  refine va_get (v := .int mo) (T := TX4) (N := 3) hx hb hts inX4 hown hK hP 0 rfl rfl 2 (by decide) f18 (fun _ h9 => h9) rfl dX4_isPaid_2 ?_
  refine he_ci (wc := [(oX5 t0 t1 t2 pw), (aI g t1 6 pd)]) (wr := [(oX4 h0 q0 q1 mo), (aI g q0 24 f)]) (va_runV (As := [.int mo]) (rest := []) ⟨hx, hb, hml, hown, hts⟩ (c_X5_payIn l g t0 t1 t2 pw pd mo H.size) (cwV 1 hts gX4_isPaid_X5_payIn rfl rfl rfl (by decide +kernel) ⟨Nat.le_of_ble_eq_true rfl, Nat.le_of_ble_eq_true rfl⟩) (he_preV (wc := [(oX5 t0 t1 t2 pw), (aI g t1 6 pd)]) hK hP hD hS hA hE [2, 3] rfl rfl 2 rfl rfl) rfl rfl hl.1 rfl (lv_room (Nat.le_of_ble_eq_true rfl)) dX4_isPaid_5 ⟨(Nat.le_of_ble_eq_true rfl), (Nat.le_of_ble_eq_true rfl)⟩) hP hD hS hA [2, 3] [0, 1] rfl rfl rfl (by decide) (fun r_1 u_2 H locs h_3 hP hD hS => ?_)
  subst h_3
  have hP : va_P g.1 vwCl [(oX4 h0 q0 q1 mo), (aI g q0 24 f), (oX5 t0 t1 t2 pw), (aI g t1 6 pd)] H := hP
  have hD : va_D A [(oX4 h0 q0 q1 mo), (aI g q0 24 f), (oX5 t0 t1 t2 pw), (aI g t1 6 pd)] := hD
  refine lv_istore_n (lv' := [(2, .int (payF pd mo)), (0, .ref h0), (1, .ref t0)]) hx hb dX4_isPaid_8 rfl hl (by decide) rfl (fun ls hl => ?_)
  refine lv_aload_n hx hb dX4_isPaid_9 rfl (lv_at hl 1 rfl) ?_
  refine va_get (v := .ref q0) (T := TX4) (N := 3) hx hb hts inX4 hown hK hP 0 rfl rfl 0 (by decide) f9 (fun _ h9 => h9) rfl dX4_isPaid_10 ?_
  refine lv_iconst (v := 0) hx hb dX4_isPaid_13 (by decide) ?_
  refine he_iald hx hb hK hP 1 rfl (0) (by decide) (by decide) (by first | decide | assumption) (f 0) rfl dX4_isPaid_14 ?_
  refine lv_iload_n hx hb dX4_isPaid_15 rfl (lv_at hl 0 rfl) ?_
  refine lv_icmp_ge (tgt := 40) hx hb dX4_isPaid_16 (by decide) (fun c_4 => ?_) (fun c_4 => ?_)
  · refine lv_aload_n hx hb dX4_isPaid_40 rfl (lv_at hl 1 rfl) ?_
    refine lv_iconst (v := 0) hx hb dX4_isPaid_41 (by decide) ?_
    refine lv_iconst (v := 1) hx hb dX4_isPaid_42 (by decide) ?_
    refine lv_iload_n hx hb dX4_isPaid_43 rfl (lv_at hl 0 rfl) ?_
    refine he_cv (wc := [(oX4 h0 q0 q1 mo), (aI g q0 24 f)]) (wr := [(oX5 t0 t1 t2 pw), (aI g t1 6 pd)]) (va_runV (As := [.int 0, .int 1, .int (payF pd mo)]) (rest := []) ⟨hx, hb, hml, hown, hts⟩ (c_X4_move l g h0 q0 q1 mo f 0 1 (payF pd mo) (by first | assumption | decide | omega) (by first | assumption | decide | omega) H.size) (cwV 3 hts gX4_isPaid_X4_move rfl rfl rfl (by decide +kernel) ⟨Nat.le_of_ble_eq_true rfl, Nat.le_of_ble_eq_true rfl⟩) (he_preV (wc := [(oX4 h0 q0 q1 mo), (aI g q0 24 f)]) hK hP hD hS hA hE [0, 1] rfl rfl 0 rfl rfl) rfl rfl hl.1 rfl (lv_room (Nat.le_of_ble_eq_true rfl)) dX4_isPaid_44 ⟨(Nat.le_of_ble_eq_true rfl), (Nat.le_of_ble_eq_true rfl)⟩) hP hD hS hA [0, 1] [2, 3] rfl rfl rfl (by decide) (fun u_6 H locs h_7 hP hD hS => ?_)
    have hP : va_P g.1 vwCl [(oX5 t0 t1 t2 pw), (aI g t1 6 pd), (oX4 h0 q0 q1 mo), (aI g q0 24 (mvF f 0 1 (payF pd mo)))] H := hP
    have hD : va_D A [(oX5 t0 t1 t2 pw), (aI g t1 6 pd), (oX4 h0 q0 q1 mo), (aI g q0 24 (mvF f 0 1 (payF pd mo)))] := hD
    refine lv_iconst (v := 1) hx hb dX4_isPaid_47 (by decide) ?_
    have hP := hP.sub (ws' := [(oX4 h0 q0 q1 mo), (aI g q0 24 (mvF f 0 1 (payF pd mo))), (oX5 t0 t1 t2 pw), (aI g t1 6 pd)]) [2, 3, 0, 1] rfl
    have hD := hD.sub (ws' := [(oX4 h0 q0 q1 mo), (aI g q0 24 (mvF f 0 1 (payF pd mo))), (oX5 t0 t1 t2 pw), (aI g t1 6 pd)]) [2, 3, 0, 1] (by decide) rfl
    exact he_rz hQ hx hb hr hlk hP hD hS dX4_isPaid_48 (Nat.le_of_ble_eq_true rfl) (Nat.le_of_ble_eq_true rfl) rfl (mvF f 0 1 (payF pd mo)) (rfl) (⟨Or.inr rfl, Or.inl (mvF_n _ _ _ _ _ (by decide) (by decide))⟩)
  · refine lv_aload_n hx hb dX4_isPaid_19 rfl (lv_at hl 1 rfl) ?_
    refine va_get (v := .ref q0) (T := TX4) (N := 3) hx hb hts inX4 hown hK hP 0 rfl rfl 0 (by decide) f9 (fun _ h9 => h9) rfl dX4_isPaid_20 ?_
    refine lv_bipush (v := 8) hx hb dX4_isPaid_23 (by decide) ?_
    refine lv_dup2_11 hx hb dX4_isPaid_25 rfl rfl ?_
    refine he_iald hx hb hK hP 1 rfl (8) (by decide) (by decide) (by first | decide | assumption) (f 8) rfl dX4_isPaid_26 ?_
    refine lv_iconst (v := 1) hx hb dX4_isPaid_27 (by decide) ?_
    refine lv_iadd hx hb dX4_isPaid_28 ?_
    refine he_iast hx hb hK hP hD hS 1 rfl (8) (by decide) (by decide) (by first | decide | assumption) dX4_isPaid_29 (fun H locs hP hD hS => ?_)
    have hP : va_P g.1 vwCl [(oX4 h0 q0 q1 mo), (aI g q0 24 (upd f 8 ((f 8) + 1))), (oX5 t0 t1 t2 pw), (aI g t1 6 pd)] H := hP
    have hD : va_D A [(oX4 h0 q0 q1 mo), (aI g q0 24 (upd f 8 ((f 8) + 1))), (oX5 t0 t1 t2 pw), (aI g t1 6 pd)] := hD
    refine lv_aload_n hx hb dX4_isPaid_30 rfl (lv_at hl 1 rfl) ?_
    refine va_get (v := .ref q0) (T := TX4) (N := 3) hx hb hts inX4 hown hK hP 0 rfl rfl 0 (by decide) f9 (fun _ h9 => h9) rfl dX4_isPaid_31 ?_
    refine lv_bipush (v := 10) hx hb dX4_isPaid_34 (by decide) ?_
    refine lv_iconst (v := (-1)) hx hb dX4_isPaid_36 (by decide) ?_
    refine he_iast hx hb hK hP hD hS 1 rfl (10) (by decide) (by decide) (by first | decide | assumption) dX4_isPaid_37 (fun H locs hP hD hS => ?_)
    have hP : va_P g.1 vwCl [(oX4 h0 q0 q1 mo), (aI g q0 24 (upd (upd f 8 ((f 8) + 1)) 10 (-1))), (oX5 t0 t1 t2 pw), (aI g t1 6 pd)] H := hP
    have hD : va_D A [(oX4 h0 q0 q1 mo), (aI g q0 24 (upd (upd f 8 ((f 8) + 1)) 10 (-1))), (oX5 t0 t1 t2 pw), (aI g t1 6 pd)] := hD
    refine lv_iconst (v := 0) hx hb dX4_isPaid_38 (by decide) ?_
    exact he_rz hQ hx hb hr hlk hP hD hS dX4_isPaid_39 (Nat.le_of_ble_eq_true rfl) (Nat.le_of_ble_eq_true rfl) rfl (upd (upd f 8 ((f 8) + 1)) 10 (-1)) (rfl) (⟨Or.inl rfl, Or.inr upd_s⟩)
set_option maxHeartbeats 4000000 in
set_option maxRecDepth 100000 in
theorem g_X4_passP (l : Launch) (g : he_G) (h0 : Nat) (q0 : Nat) (q1 : Nat) (mo : Int32) (f : Nat → Int32) (sh : Nat → Int32) (p0 : Nat) (p1 : Nat) (p2 : Nat) (p3 : Nat) (p4 : Nat) (w : Nat) (sd : Nat → Int32) (fn : Nat → Int32) (st : Nat → Int32) (me : Nat → Int32) (t0 : Nat) (t1 : Nat) (t2 : Nat) (pw : Int32) (pd : Nat → Int32) (wb : Nat → Int32) (ck : Nat) (hw6 : w ≤ 6) (hwb : ∀ k, k < 36 → -1 ≤ wb k) (hck : pd 3 = nI ck) (hc99 : ck ≤ 99) : he_V l yX4_pass wsX4_pass 4 88 0 0 g [.ref h0, .ref p0, .ref t0] [(oX4 h0 q0 q1 mo), (aI g q0 24 f), (aI g q1 6 sh), (oX6 p0 p1 p2 p3 p4 (nI w)), (aI g p1 24 sd), (aI g p2 10 fn), (aI g p3 6 st), (aI g p4 6 me), (oX5 t0 t1 t2 pw), (aI g t1 6 pd), (aI g t2 36 wb)] (fun (u : (Nat → Int32) × (Nat → Int32)) => u.1 10 = f 10 ∨ u.1 10 = -1) (fun (u : (Nat → Int32) × (Nat → Int32)) => [(oX4 h0 q0 q1 (mo + 1)), (aI g q0 24 u.1), (aI g q1 6 u.2), (oX6 p0 p1 p2 p3 p4 (nI w)), (aI g p1 24 sd), (aI g p2 10 fn), (aI g p3 6 st), (aI g p4 6 me), (oX5 t0 t1 t2 pw), (aI g t1 6 pd), (aI g t2 36 wb)]) := by
  refine he_begin (l := l) (g := g) (y := yX4_pass) (wl := wsX4_pass) (fr := 4) (lo := 88) (mc := 0) (ms := 0) (av := [.ref h0, .ref p0, .ref t0]) (ws := [(oX4 h0 q0 q1 mo), (aI g q0 24 f), (aI g q1 6 sh), (oX6 p0 p1 p2 p3 p4 (nI w)), (aI g p1 24 sd), (aI g p2 10 fn), (aI g p3 6 st), (aI g p4 6 me), (oX5 t0 t1 t2 pw), (aI g t1 6 pd), (aI g t2 36 wb)]) (cc := cX4_pass) (maxL := 3) (ret := none) (fun A => va_Qv (fun (u : (Nat → Int32) × (Nat → Int32)) => u.1 10 = f 10 ∨ u.1 10 = -1) (fun u t => he_post g A ((fun (u : (Nat → Int32) × (Nat → Int32)) => [(oX4 h0 q0 q1 (mo + 1)), (aI g q0 24 u.1), (aI g q1 6 u.2), (oX6 p0 p1 p2 p3 p4 (nI w)), (aI g p1 24 sd), (aI g p2 10 fn), (aI g p3 6 st), (aI g p4 6 me), (oX5 t0 t1 t2 pw), (aI g t1 6 pd), (aI g t2 36 wb)]) u) t) A) (by decide) rfl (Nat.le_of_ble_eq_true rfl) ?_
  intro p e s m args below meth c A ls H locs Q hQ hB
  obtain ⟨hx, hb, hr, hml, hown, hts, hlk, hin, hP, hK, hD, hS, hA, hE, hl⟩ := hB
  have hl : lv_has ls 3 [(0, .ref h0), (1, .ref p0), (2, .ref t0)] := hl
  have f15 := hts (.fieldLink RX4 15 "HiredEnemy$Course" "shot" "[I") (iwoX4_pass (k := 0) rfl)
  have inX4 : ∀ w ∈ wsX40, w ∈ wsX4_pass := innX4_pass_X4
  have f9 := hts (.fieldLink RX4 9 "HiredEnemy$Course" "now" "[I") (iwoX4_pass (k := 1) rfl)
  have f28 := hts (.fieldLink RX4 28 "HiredEnemy$Plan" "said" "[I") (iwoX4_pass (k := 2) rfl)
  have inX6 : ∀ w ∈ wsX60, w ∈ wsX4_pass := innX4_pass_X6
  have ml68 := hts (.methodLink RX4 68 Lib.Math.max.name) (iwoX4_pass (k := 4) rfl)
  have msmax := hts (.static Lib.Math.max.name) (iwoX4_pass (k := 5) rfl)
  have mi := hts (.initialized "java/lang/Math") (iwoX4_pass (k := 6) rfl)
  have mcmax := hts (.code Lib.Math.max.name Lib.Math.max.code 2 (some .int)) (iwoX4_pass (k := 7) rfl)
  have f18 := hts (.fieldLink RX4 18 "HiredEnemy$Course" "month" "I") (iwoX4_pass (k := 8) rfl)
  have f57 := hts (.fieldLink RX4 57 "HiredEnemy$Pact" "said" "[I") (iwoX4_pass (k := 3) rfl)
  have inX5 : ∀ w ∈ wsX50, w ∈ wsX4_pass := innX4_pass_X5
  refine lv_aload_n hx hb dX4_pass_0 rfl (lv_at hl 0 rfl) ?_
  refine va_get (v := .ref q1) (T := TX4) (N := 3) hx hb hts inX4 hown hK hP 0 rfl rfl 1 (by decide) f15 (fun _ h9 => h9) rfl dX4_pass_1 ?_
  refine lv_iconst (v := 0) hx hb dX4_pass_4 (by decide) ?_
  refine he_cv (wc := [(aI g q1 6 sh)]) (wr := [(oX4 h0 q0 q1 mo), (aI g q0 24 f), (oX6 p0 p1 p2 p3 p4 (nI w)), (aI g p1 24 sd), (aI g p2 10 fn), (aI g p3 6 st), (aI g p4 6 me), (oX5 t0 t1 t2 pw), (aI g t1 6 pd), (aI g t2 36 wb)]) (va_runS (As := [.ref q1, .int 0]) (rest := []) ⟨hx, hb, hml, hown, hts⟩ (c_J7_fill_53178 l g q1 6 sh 0 (by first | assumption | decide | omega) H.size) (va_cwS 2 hts gX4_pass_J7_fill_53178 rfl rfl rfl (by decide +kernel) ⟨Nat.le_of_ble_eq_true rfl, Nat.le_of_ble_eq_true rfl⟩) (he_preS (wc := [(aI g q1 6 sh)]) hK hP hD hS hA hE [2] rfl rfl) rfl rfl hl.1 rfl (lv_room (Nat.le_of_ble_eq_true rfl)) dX4_pass_5 ⟨(Nat.le_of_ble_eq_true rfl), (Nat.le_of_ble_eq_true rfl)⟩) hP hD hS hA [2] [0, 1, 3, 4, 5, 6, 7, 8, 9, 10] rfl rfl rfl (by decide) (fun u_2 H locs h_3 hP hD hS => ?_)
  have hP : va_P g.1 vwCl [(oX4 h0 q0 q1 mo), (aI g q0 24 f), (oX6 p0 p1 p2 p3 p4 (nI w)), (aI g p1 24 sd), (aI g p2 10 fn), (aI g p3 6 st), (aI g p4 6 me), (oX5 t0 t1 t2 pw), (aI g t1 6 pd), (aI g t2 36 wb), (aI g q1 6 (flF (fun _ => 0) sh 6))] H := hP
  have hD : va_D A [(oX4 h0 q0 q1 mo), (aI g q0 24 f), (oX6 p0 p1 p2 p3 p4 (nI w)), (aI g p1 24 sd), (aI g p2 10 fn), (aI g p3 6 st), (aI g p4 6 me), (oX5 t0 t1 t2 pw), (aI g t1 6 pd), (aI g t2 36 wb), (aI g q1 6 (flF (fun _ => 0) sh 6))] := hD
  refine lv_aload_n hx hb dX4_pass_8 rfl (lv_at hl 0 rfl) ?_
  refine lv_iconst (v := 2) hx hb dX4_pass_9 (by decide) ?_
  refine lv_iconst (v := 0) hx hb dX4_pass_10 (by decide) ?_
  refine lv_aload_n hx hb dX4_pass_11 rfl (lv_at hl 0 rfl) ?_
  refine va_get (v := .ref q0) (T := TX4) (N := 3) hx hb hts inX4 hown hK hP 0 rfl rfl 0 (by decide) f9 (fun _ h9 => h9) rfl dX4_pass_12 ?_
  refine lv_iconst (v := 3) hx hb dX4_pass_15 (by decide) ?_
  refine he_iald hx hb hK hP 1 rfl (3) (by decide) (by decide) (by first | decide | assumption) (f 3) rfl dX4_pass_16 ?_
  refine lv_aload_n hx hb dX4_pass_17 rfl (lv_at hl 1 rfl) ?_
  refine va_get (v := .ref p1) (T := TX6) (N := 5) hx hb hts inX6 hown hK hP 2 rfl rfl 0 (by decide) f28 (fun _ h9 => h9) rfl dX4_pass_18 ?_
  refine lv_bipush (v := 10) hx hb dX4_pass_21 (by decide) ?_
  refine he_iald hx hb hK hP 3 rfl (10) (by decide) (by decide) (by first | decide | assumption) (sd 10) rfl dX4_pass_23 ?_
  refine lv_imul hx hb dX4_pass_24 ?_
  refine lv_aload_n hx hb dX4_pass_25 rfl (lv_at hl 0 rfl) ?_
  refine va_get (v := .ref q0) (T := TX4) (N := 3) hx hb hts inX4 hown hK hP 0 rfl rfl 0 (by decide) f9 (fun _ h9 => h9) rfl dX4_pass_26 ?_
  refine lv_iconst (v := 5) hx hb dX4_pass_29 (by decide) ?_
  refine he_iald hx hb hK hP 1 rfl (5) (by decide) (by decide) (by first | decide | assumption) (f 5) rfl dX4_pass_30 ?_
  refine lv_imul hx hb dX4_pass_31 ?_
  refine lv_sipush (v := 10000) hx hb dX4_pass_32 (by decide) ?_
  refine lv_idiv hx hb dX4_pass_35 (by decide) ?_
  refine he_cv (wc := [(oX4 h0 q0 q1 mo), (aI g q0 24 f)]) (wr := [(oX6 p0 p1 p2 p3 p4 (nI w)), (aI g p1 24 sd), (aI g p2 10 fn), (aI g p3 6 st), (aI g p4 6 me), (oX5 t0 t1 t2 pw), (aI g t1 6 pd), (aI g t2 36 wb), (aI g q1 6 (flF (fun _ => 0) sh 6))]) (va_runV (As := [.int 2, .int 0, .int ((((f 3) * (sd 10)) * (f 5)) / 10000)]) (rest := []) ⟨hx, hb, hml, hown, hts⟩ (c_X4_move l g h0 q0 q1 mo f 2 0 ((((f 3) * (sd 10)) * (f 5)) / 10000) (by first | assumption | decide | omega) (by first | assumption | decide | omega) H.size) (cwV 3 hts gX4_pass_X4_move rfl rfl rfl (by decide +kernel) ⟨Nat.le_of_ble_eq_true rfl, Nat.le_of_ble_eq_true rfl⟩) (he_preV (wc := [(oX4 h0 q0 q1 mo), (aI g q0 24 f)]) hK hP hD hS hA hE [0, 1] rfl rfl 0 rfl rfl) rfl rfl hl.1 rfl (lv_room (Nat.le_of_ble_eq_true rfl)) dX4_pass_36 ⟨(Nat.le_of_ble_eq_true rfl), (Nat.le_of_ble_eq_true rfl)⟩) hP hD hS hA [0, 1] [2, 3, 4, 5, 6, 7, 8, 9, 10] rfl rfl rfl (by decide) (fun u_5 H locs h_6 hP hD hS => ?_)
  have hP : va_P g.1 vwCl [(oX6 p0 p1 p2 p3 p4 (nI w)), (aI g p1 24 sd), (aI g p2 10 fn), (aI g p3 6 st), (aI g p4 6 me), (oX5 t0 t1 t2 pw), (aI g t1 6 pd), (aI g t2 36 wb), (aI g q1 6 (flF (fun _ => 0) sh 6)), (oX4 h0 q0 q1 mo), (aI g q0 24 (mvF f 2 0 ((((f 3) * (sd 10)) * (f 5)) / 10000)))] H := hP
  have hD : va_D A [(oX6 p0 p1 p2 p3 p4 (nI w)), (aI g p1 24 sd), (aI g p2 10 fn), (aI g p3 6 st), (aI g p4 6 me), (oX5 t0 t1 t2 pw), (aI g t1 6 pd), (aI g t2 36 wb), (aI g q1 6 (flF (fun _ => 0) sh 6)), (oX4 h0 q0 q1 mo), (aI g q0 24 (mvF f 2 0 ((((f 3) * (sd 10)) * (f 5)) / 10000)))] := hD
  have join71 : ∀ (F : Nat → Int32) (G : Nat → Int32), (F 10 = f 10 ∨ F 10 = -1) → ∀ (H : Heap) (locs : List Loc) (ls : Array Slot), va_P g.1 vwCl [(oX6 p0 p1 p2 p3 p4 (nI w)), (aI g p1 24 sd), (aI g p2 10 fn), (aI g p3 6 st), (aI g p4 6 me), (oX5 t0 t1 t2 pw), (aI g t1 6 pd), (aI g t2 36 wb), (aI g q1 6 G), (oX4 h0 q0 q1 mo), (aI g q0 24 F)] H → va_D A [(oX6 p0 p1 p2 p3 p4 (nI w)), (aI g p1 24 sd), (aI g p2 10 fn), (aI g p3 6 st), (aI g p4 6 me), (oX5 t0 t1 t2 pw), (aI g t1 6 pd), (aI g t2 36 wb), (aI g q1 6 G), (oX4 h0 q0 q1 mo), (aI g q0 24 F)] → va_S A s.heap H locs → lv_has ls 3 [(0, .ref h0), (1, .ref p0), (2, .ref t0)] → W p l e (he_room 4 88 0 0) s m args below meth c H locs 0 0 Q (F0 m 71 ls []) := by
    intro F G hF H locs ls hP hD hS hl
    refine lv_aload_n hx hb dX4_pass_71 rfl (lv_at hl 0 rfl) ?_
    refine va_get (v := .ref q0) (T := TX4) (N := 3) hx hb hts inX4 hown hK hP 9 rfl rfl 0 (by decide) f9 (fun _ h9 => h9) rfl dX4_pass_72 ?_
    refine lv_iconst (v := 5) hx hb dX4_pass_75 (by decide) ?_
    refine lv_iconst (v := 0) hx hb dX4_pass_76 (by decide) ?_
    refine lv_aload_n hx hb dX4_pass_77 rfl (lv_at hl 0 rfl) ?_
    refine va_get (v := .ref q0) (T := TX4) (N := 3) hx hb hts inX4 hown hK hP 9 rfl rfl 0 (by decide) f9 (fun _ h9 => h9) rfl dX4_pass_78 ?_
    refine lv_iconst (v := 5) hx hb dX4_pass_81 (by decide) ?_
    refine he_iald hx hb hK hP 10 rfl (5) (by decide) (by decide) (by first | decide | assumption) (F 5) rfl dX4_pass_82 ?_
    refine lv_aload_n hx hb dX4_pass_83 rfl (lv_at hl 1 rfl) ?_
    refine va_get (v := .ref p1) (T := TX6) (N := 5) hx hb hts inX6 hown hK hP 0 rfl rfl 0 (by decide) f28 (fun _ h9 => h9) rfl dX4_pass_84 ?_
    refine lv_bipush (v := 14) hx hb dX4_pass_87 (by decide) ?_
    refine he_iald hx hb hK hP 1 rfl (14) (by decide) (by decide) (by first | decide | assumption) (sd 14) rfl dX4_pass_89 ?_
    refine lv_isub hx hb dX4_pass_90 ?_
    refine va_mmax hx hb (by rw [hml]; exact hl.1.symm) hown ml68 msmax mi mcmax (by decide) (Nat.le_of_ble_eq_true rfl) (Nat.le_of_ble_eq_true rfl) (Nat.le_of_ble_eq_true rfl) dX4_pass_91 ?_
    refine he_iast hx hb hK hP hD hS 10 rfl (5) (by decide) (by decide) (by first | decide | assumption) dX4_pass_94 (fun H locs hP hD hS => ?_)
    have hP : va_P g.1 vwCl [(oX6 p0 p1 p2 p3 p4 (nI w)), (aI g p1 24 sd), (aI g p2 10 fn), (aI g p3 6 st), (aI g p4 6 me), (oX5 t0 t1 t2 pw), (aI g t1 6 pd), (aI g t2 36 wb), (aI g q1 6 G), (oX4 h0 q0 q1 mo), (aI g q0 24 (upd F 5 (if 0 < ((F 5) - (sd 14)) then (F 5) - (sd 14) else 0)))] H := hP
    have hD : va_D A [(oX6 p0 p1 p2 p3 p4 (nI w)), (aI g p1 24 sd), (aI g p2 10 fn), (aI g p3 6 st), (aI g p4 6 me), (oX5 t0 t1 t2 pw), (aI g t1 6 pd), (aI g t2 36 wb), (aI g q1 6 G), (oX4 h0 q0 q1 mo), (aI g q0 24 (upd F 5 (if 0 < ((F 5) - (sd 14)) then (F 5) - (sd 14) else 0)))] := hD
    refine lv_aload_n hx hb dX4_pass_95 rfl (lv_at hl 0 rfl) ?_
    refine lv_aload_n hx hb dX4_pass_96 rfl (lv_at hl 1 rfl) ?_
    refine he_cv (wc := [(oX4 h0 q0 q1 mo), (aI g q0 24 (upd F 5 (if 0 < ((F 5) - (sd 14)) then (F 5) - (sd 14) else 0))), (oX6 p0 p1 p2 p3 p4 (nI w)), (aI g p1 24 sd), (aI g p3 6 st), (aI g p4 6 me)]) (wr := [(aI g p2 10 fn), (oX5 t0 t1 t2 pw), (aI g t1 6 pd), (aI g t2 36 wb), (aI g q1 6 G)]) (va_runV (As := [.ref p0]) (rest := []) ⟨hx, hb, hml, hown, hts⟩ (c_X4_mend l g h0 q0 q1 mo (upd F 5 (if 0 < ((F 5) - (sd 14)) then (F 5) - (sd 14) else 0)) p0 p1 p2 p3 p4 w sd st me (by first | assumption | decide | omega) H.size) (cwV 1 hts gX4_pass_X4_mend rfl rfl rfl (by decide +kernel) ⟨Nat.le_of_ble_eq_true rfl, Nat.le_of_ble_eq_true rfl⟩) (he_preV (wc := [(oX4 h0 q0 q1 mo), (aI g q0 24 (upd F 5 (if 0 < ((F 5) - (sd 14)) then (F 5) - (sd 14) else 0))), (oX6 p0 p1 p2 p3 p4 (nI w)), (aI g p1 24 sd), (aI g p3 6 st), (aI g p4 6 me)]) hK hP hD hS hA hE [9, 10, 0, 1, 3, 4] rfl rfl 9 rfl rfl) rfl rfl hl.1 rfl (lv_room (Nat.le_of_ble_eq_true rfl)) dX4_pass_97 ⟨(Nat.le_of_ble_eq_true rfl), (Nat.le_of_ble_eq_true rfl)⟩) hP hD hS hA [9, 10, 0, 1, 3, 4] [2, 5, 6, 7, 8] rfl rfl rfl (by decide) (fun u_8 H locs h_9 hP hD hS => ?_)
    have hP : va_P g.1 vwCl [(aI g p2 10 fn), (oX5 t0 t1 t2 pw), (aI g t1 6 pd), (aI g t2 36 wb), (aI g q1 6 G), (oX4 h0 q0 q1 mo), (aI g q0 24 (mendF sd st me (upd F 5 (if 0 < ((F 5) - (sd 14)) then (F 5) - (sd 14) else 0)) w)), (oX6 p0 p1 p2 p3 p4 (nI w)), (aI g p1 24 sd), (aI g p3 6 st), (aI g p4 6 me)] H := hP
    have hD : va_D A [(aI g p2 10 fn), (oX5 t0 t1 t2 pw), (aI g t1 6 pd), (aI g t2 36 wb), (aI g q1 6 G), (oX4 h0 q0 q1 mo), (aI g q0 24 (mendF sd st me (upd F 5 (if 0 < ((F 5) - (sd 14)) then (F 5) - (sd 14) else 0)) w)), (oX6 p0 p1 p2 p3 p4 (nI w)), (aI g p1 24 sd), (aI g p3 6 st), (aI g p4 6 me)] := hD
    refine lv_aload_n hx hb dX4_pass_100 rfl (lv_at hl 0 rfl) ?_
    refine lv_iconst (v := 0) hx hb dX4_pass_101 (by decide) ?_
    refine lv_iconst (v := 2) hx hb dX4_pass_102 (by decide) ?_
    refine lv_aload_n hx hb dX4_pass_103 rfl (lv_at hl 1 rfl) ?_
    refine va_get (v := .ref p1) (T := TX6) (N := 5) hx hb hts inX6 hown hK hP 7 rfl rfl 0 (by decide) f28 (fun _ h9 => h9) rfl dX4_pass_104 ?_
    refine lv_iconst (v := 5) hx hb dX4_pass_107 (by decide) ?_
    refine he_iald hx hb hK hP 8 rfl (5) (by decide) (by decide) (by first | decide | assumption) (sd 5) rfl dX4_pass_108 ?_
    refine lv_aload_n hx hb dX4_pass_109 rfl (lv_at hl 0 rfl) ?_
    refine va_get (v := .ref q0) (T := TX4) (N := 3) hx hb hts inX4 hown hK hP 5 rfl rfl 0 (by decide) f9 (fun _ h9 => h9) rfl dX4_pass_110 ?_
    refine lv_iconst (v := 3) hx hb dX4_pass_113 (by decide) ?_
    refine he_iald hx hb hK hP 6 rfl (3) (by decide) (by decide) (by first | decide | assumption) ((mendF sd st me (upd F 5 (if 0 < ((F 5) - (sd 14)) then (F 5) - (sd 14) else 0)) w) 3) rfl dX4_pass_114 ?_
    refine lv_bipush (v := 10) hx hb dX4_pass_115 (by decide) ?_
    refine lv_idiv hx hb dX4_pass_117 (by decide) ?_
    refine lv_imul hx hb dX4_pass_118 ?_
    refine he_cv (wc := [(oX4 h0 q0 q1 mo), (aI g q0 24 (mendF sd st me (upd F 5 (if 0 < ((F 5) - (sd 14)) then (F 5) - (sd 14) else 0)) w))]) (wr := [(aI g p2 10 fn), (oX5 t0 t1 t2 pw), (aI g t1 6 pd), (aI g t2 36 wb), (aI g q1 6 G), (oX6 p0 p1 p2 p3 p4 (nI w)), (aI g p1 24 sd), (aI g p3 6 st), (aI g p4 6 me)]) (va_runV (As := [.int 0, .int 2, .int ((sd 5) * (((mendF sd st me (upd F 5 (if 0 < ((F 5) - (sd 14)) then (F 5) - (sd 14) else 0)) w) 3) / 10))]) (rest := []) ⟨hx, hb, hml, hown, hts⟩ (c_X4_move l g h0 q0 q1 mo (mendF sd st me (upd F 5 (if 0 < ((F 5) - (sd 14)) then (F 5) - (sd 14) else 0)) w) 0 2 ((sd 5) * (((mendF sd st me (upd F 5 (if 0 < ((F 5) - (sd 14)) then (F 5) - (sd 14) else 0)) w) 3) / 10)) (by first | assumption | decide | omega) (by first | assumption | decide | omega) H.size) (cwV 3 hts gX4_pass_X4_move rfl rfl rfl (by decide +kernel) ⟨Nat.le_of_ble_eq_true rfl, Nat.le_of_ble_eq_true rfl⟩) (he_preV (wc := [(oX4 h0 q0 q1 mo), (aI g q0 24 (mendF sd st me (upd F 5 (if 0 < ((F 5) - (sd 14)) then (F 5) - (sd 14) else 0)) w))]) hK hP hD hS hA hE [5, 6] rfl rfl 5 rfl rfl) rfl rfl hl.1 rfl (lv_room (Nat.le_of_ble_eq_true rfl)) dX4_pass_119 ⟨(Nat.le_of_ble_eq_true rfl), (Nat.le_of_ble_eq_true rfl)⟩) hP hD hS hA [5, 6] [0, 1, 2, 3, 4, 7, 8, 9, 10] rfl rfl rfl (by decide) (fun u_11 H locs h_12 hP hD hS => ?_)
    have hP : va_P g.1 vwCl [(aI g p2 10 fn), (oX5 t0 t1 t2 pw), (aI g t1 6 pd), (aI g t2 36 wb), (aI g q1 6 G), (oX6 p0 p1 p2 p3 p4 (nI w)), (aI g p1 24 sd), (aI g p3 6 st), (aI g p4 6 me), (oX4 h0 q0 q1 mo), (aI g q0 24 (mvF (mendF sd st me (upd F 5 (if 0 < ((F 5) - (sd 14)) then (F 5) - (sd 14) else 0)) w) 0 2 ((sd 5) * (((mendF sd st me (upd F 5 (if 0 < ((F 5) - (sd 14)) then (F 5) - (sd 14) else 0)) w) 3) / 10))))] H := hP
    have hD : va_D A [(aI g p2 10 fn), (oX5 t0 t1 t2 pw), (aI g t1 6 pd), (aI g t2 36 wb), (aI g q1 6 G), (oX6 p0 p1 p2 p3 p4 (nI w)), (aI g p1 24 sd), (aI g p3 6 st), (aI g p4 6 me), (oX4 h0 q0 q1 mo), (aI g q0 24 (mvF (mendF sd st me (upd F 5 (if 0 < ((F 5) - (sd 14)) then (F 5) - (sd 14) else 0)) w) 0 2 ((sd 5) * (((mendF sd st me (upd F 5 (if 0 < ((F 5) - (sd 14)) then (F 5) - (sd 14) else 0)) w) 3) / 10))))] := hD
    refine lv_aload_n hx hb dX4_pass_122 rfl (lv_at hl 0 rfl) ?_
    refine lv_iconst (v := 1) hx hb dX4_pass_123 (by decide) ?_
    refine lv_iconst (v := 2) hx hb dX4_pass_124 (by decide) ?_
    refine lv_aload_n hx hb dX4_pass_125 rfl (lv_at hl 1 rfl) ?_
    refine va_get (v := .ref p1) (T := TX6) (N := 5) hx hb hts inX6 hown hK hP 5 rfl rfl 0 (by decide) f28 (fun _ h9 => h9) rfl dX4_pass_126 ?_
    refine lv_bipush (v := 8) hx hb dX4_pass_129 (by decide) ?_
    refine he_iald hx hb hK hP 6 rfl (8) (by decide) (by decide) (by first | decide | assumption) (sd 8) rfl dX4_pass_131 ?_
    refine lv_aload_n hx hb dX4_pass_132 rfl (lv_at hl 0 rfl) ?_
    refine va_get (v := .ref q0) (T := TX4) (N := 3) hx hb hts inX4 hown hK hP 9 rfl rfl 0 (by decide) f9 (fun _ h9 => h9) rfl dX4_pass_133 ?_
    refine lv_iconst (v := 4) hx hb dX4_pass_136 (by decide) ?_
    refine he_iald hx hb hK hP 10 rfl (4) (by decide) (by decide) (by first | decide | assumption) ((mvF (mendF sd st me (upd F 5 (if 0 < ((F 5) - (sd 14)) then (F 5) - (sd 14) else 0)) w) 0 2 ((sd 5) * (((mendF sd st me (upd F 5 (if 0 < ((F 5) - (sd 14)) then (F 5) - (sd 14) else 0)) w) 3) / 10))) 4) rfl dX4_pass_137 ?_
    refine lv_bipush (v := 10) hx hb dX4_pass_138 (by decide) ?_
    refine lv_idiv hx hb dX4_pass_140 (by decide) ?_
    refine lv_imul hx hb dX4_pass_141 ?_
    refine he_cv (wc := [(oX4 h0 q0 q1 mo), (aI g q0 24 (mvF (mendF sd st me (upd F 5 (if 0 < ((F 5) - (sd 14)) then (F 5) - (sd 14) else 0)) w) 0 2 ((sd 5) * (((mendF sd st me (upd F 5 (if 0 < ((F 5) - (sd 14)) then (F 5) - (sd 14) else 0)) w) 3) / 10))))]) (wr := [(aI g p2 10 fn), (oX5 t0 t1 t2 pw), (aI g t1 6 pd), (aI g t2 36 wb), (aI g q1 6 G), (oX6 p0 p1 p2 p3 p4 (nI w)), (aI g p1 24 sd), (aI g p3 6 st), (aI g p4 6 me)]) (va_runV (As := [.int 1, .int 2, .int ((sd 8) * (((mvF (mendF sd st me (upd F 5 (if 0 < ((F 5) - (sd 14)) then (F 5) - (sd 14) else 0)) w) 0 2 ((sd 5) * (((mendF sd st me (upd F 5 (if 0 < ((F 5) - (sd 14)) then (F 5) - (sd 14) else 0)) w) 3) / 10))) 4) / 10))]) (rest := []) ⟨hx, hb, hml, hown, hts⟩ (c_X4_move l g h0 q0 q1 mo (mvF (mendF sd st me (upd F 5 (if 0 < ((F 5) - (sd 14)) then (F 5) - (sd 14) else 0)) w) 0 2 ((sd 5) * (((mendF sd st me (upd F 5 (if 0 < ((F 5) - (sd 14)) then (F 5) - (sd 14) else 0)) w) 3) / 10))) 1 2 ((sd 8) * (((mvF (mendF sd st me (upd F 5 (if 0 < ((F 5) - (sd 14)) then (F 5) - (sd 14) else 0)) w) 0 2 ((sd 5) * (((mendF sd st me (upd F 5 (if 0 < ((F 5) - (sd 14)) then (F 5) - (sd 14) else 0)) w) 3) / 10))) 4) / 10)) (by first | assumption | decide | omega) (by first | assumption | decide | omega) H.size) (cwV 3 hts gX4_pass_X4_move rfl rfl rfl (by decide +kernel) ⟨Nat.le_of_ble_eq_true rfl, Nat.le_of_ble_eq_true rfl⟩) (he_preV (wc := [(oX4 h0 q0 q1 mo), (aI g q0 24 (mvF (mendF sd st me (upd F 5 (if 0 < ((F 5) - (sd 14)) then (F 5) - (sd 14) else 0)) w) 0 2 ((sd 5) * (((mendF sd st me (upd F 5 (if 0 < ((F 5) - (sd 14)) then (F 5) - (sd 14) else 0)) w) 3) / 10))))]) hK hP hD hS hA hE [9, 10] rfl rfl 9 rfl rfl) rfl rfl hl.1 rfl (lv_room (Nat.le_of_ble_eq_true rfl)) dX4_pass_142 ⟨(Nat.le_of_ble_eq_true rfl), (Nat.le_of_ble_eq_true rfl)⟩) hP hD hS hA [9, 10] [0, 1, 2, 3, 4, 5, 6, 7, 8] rfl rfl rfl (by decide) (fun u_14 H locs h_15 hP hD hS => ?_)
    have hP : va_P g.1 vwCl [(aI g p2 10 fn), (oX5 t0 t1 t2 pw), (aI g t1 6 pd), (aI g t2 36 wb), (aI g q1 6 G), (oX6 p0 p1 p2 p3 p4 (nI w)), (aI g p1 24 sd), (aI g p3 6 st), (aI g p4 6 me), (oX4 h0 q0 q1 mo), (aI g q0 24 (mvF (mvF (mendF sd st me (upd F 5 (if 0 < ((F 5) - (sd 14)) then (F 5) - (sd 14) else 0)) w) 0 2 ((sd 5) * (((mendF sd st me (upd F 5 (if 0 < ((F 5) - (sd 14)) then (F 5) - (sd 14) else 0)) w) 3) / 10))) 1 2 ((sd 8) * (((mvF (mendF sd st me (upd F 5 (if 0 < ((F 5) - (sd 14)) then (F 5) - (sd 14) else 0)) w) 0 2 ((sd 5) * (((mendF sd st me (upd F 5 (if 0 < ((F 5) - (sd 14)) then (F 5) - (sd 14) else 0)) w) 3) / 10))) 4) / 10))))] H := hP
    have hD : va_D A [(aI g p2 10 fn), (oX5 t0 t1 t2 pw), (aI g t1 6 pd), (aI g t2 36 wb), (aI g q1 6 G), (oX6 p0 p1 p2 p3 p4 (nI w)), (aI g p1 24 sd), (aI g p3 6 st), (aI g p4 6 me), (oX4 h0 q0 q1 mo), (aI g q0 24 (mvF (mvF (mendF sd st me (upd F 5 (if 0 < ((F 5) - (sd 14)) then (F 5) - (sd 14) else 0)) w) 0 2 ((sd 5) * (((mendF sd st me (upd F 5 (if 0 < ((F 5) - (sd 14)) then (F 5) - (sd 14) else 0)) w) 3) / 10))) 1 2 ((sd 8) * (((mvF (mendF sd st me (upd F 5 (if 0 < ((F 5) - (sd 14)) then (F 5) - (sd 14) else 0)) w) 0 2 ((sd 5) * (((mendF sd st me (upd F 5 (if 0 < ((F 5) - (sd 14)) then (F 5) - (sd 14) else 0)) w) 3) / 10))) 4) / 10))))] := hD
    refine lv_aload_n hx hb dX4_pass_145 rfl (lv_at hl 0 rfl) ?_
    refine lv_aload_n hx hb dX4_pass_146 rfl (lv_at hl 1 rfl) ?_
    refine va_get (v := .ref p1) (T := TX6) (N := 5) hx hb hts inX6 hown hK hP 5 rfl rfl 0 (by decide) f28 (fun _ h9 => h9) rfl dX4_pass_147 ?_
    refine lv_bipush (v := 8) hx hb dX4_pass_150 (by decide) ?_
    refine he_iald hx hb hK hP 6 rfl (8) (by decide) (by decide) (by first | decide | assumption) (sd 8) rfl dX4_pass_152 ?_
    refine lv_aload_n hx hb dX4_pass_153 rfl (lv_at hl 1 rfl) ?_
    refine va_get (v := .ref p1) (T := TX6) (N := 5) hx hb hts inX6 hown hK hP 5 rfl rfl 0 (by decide) f28 (fun _ h9 => h9) rfl dX4_pass_154 ?_
    refine lv_iconst (v := 5) hx hb dX4_pass_157 (by decide) ?_
    refine he_iald hx hb hK hP 6 rfl (5) (by decide) (by decide) (by first | decide | assumption) (sd 5) rfl dX4_pass_158 ?_
    refine lv_isub hx hb dX4_pass_159 ?_
    refine he_cv (wc := [(oX4 h0 q0 q1 mo), (aI g q0 24 (mvF (mvF (mendF sd st me (upd F 5 (if 0 < ((F 5) - (sd 14)) then (F 5) - (sd 14) else 0)) w) 0 2 ((sd 5) * (((mendF sd st me (upd F 5 (if 0 < ((F 5) - (sd 14)) then (F 5) - (sd 14) else 0)) w) 3) / 10))) 1 2 ((sd 8) * (((mvF (mendF sd st me (upd F 5 (if 0 < ((F 5) - (sd 14)) then (F 5) - (sd 14) else 0)) w) 0 2 ((sd 5) * (((mendF sd st me (upd F 5 (if 0 < ((F 5) - (sd 14)) then (F 5) - (sd 14) else 0)) w) 3) / 10))) 4) / 10))))]) (wr := [(aI g p2 10 fn), (oX5 t0 t1 t2 pw), (aI g t1 6 pd), (aI g t2 36 wb), (aI g q1 6 G), (oX6 p0 p1 p2 p3 p4 (nI w)), (aI g p1 24 sd), (aI g p3 6 st), (aI g p4 6 me)]) (va_runV (As := [.int ((sd 8) - (sd 5))]) (rest := []) ⟨hx, hb, hml, hown, hts⟩ (c_X4_desert l g h0 q0 q1 mo (mvF (mvF (mendF sd st me (upd F 5 (if 0 < ((F 5) - (sd 14)) then (F 5) - (sd 14) else 0)) w) 0 2 ((sd 5) * (((mendF sd st me (upd F 5 (if 0 < ((F 5) - (sd 14)) then (F 5) - (sd 14) else 0)) w) 3) / 10))) 1 2 ((sd 8) * (((mvF (mendF sd st me (upd F 5 (if 0 < ((F 5) - (sd 14)) then (F 5) - (sd 14) else 0)) w) 0 2 ((sd 5) * (((mendF sd st me (upd F 5 (if 0 < ((F 5) - (sd 14)) then (F 5) - (sd 14) else 0)) w) 3) / 10))) 4) / 10))) ((sd 8) - (sd 5)) H.size) (cwV 1 hts gX4_pass_X4_desert rfl rfl rfl (by decide +kernel) ⟨Nat.le_of_ble_eq_true rfl, Nat.le_of_ble_eq_true rfl⟩) (he_preV (wc := [(oX4 h0 q0 q1 mo), (aI g q0 24 (mvF (mvF (mendF sd st me (upd F 5 (if 0 < ((F 5) - (sd 14)) then (F 5) - (sd 14) else 0)) w) 0 2 ((sd 5) * (((mendF sd st me (upd F 5 (if 0 < ((F 5) - (sd 14)) then (F 5) - (sd 14) else 0)) w) 3) / 10))) 1 2 ((sd 8) * (((mvF (mendF sd st me (upd F 5 (if 0 < ((F 5) - (sd 14)) then (F 5) - (sd 14) else 0)) w) 0 2 ((sd 5) * (((mendF sd st me (upd F 5 (if 0 < ((F 5) - (sd 14)) then (F 5) - (sd 14) else 0)) w) 3) / 10))) 4) / 10))))]) hK hP hD hS hA hE [9, 10] rfl rfl 9 rfl rfl) rfl rfl hl.1 rfl (lv_room (Nat.le_of_ble_eq_true rfl)) dX4_pass_160 ⟨(Nat.le_of_ble_eq_true rfl), (Nat.le_of_ble_eq_true rfl)⟩) hP hD hS hA [9, 10] [0, 1, 2, 3, 4, 5, 6, 7, 8] rfl rfl rfl (by decide) (fun u_17 H locs h_18 hP hD hS => ?_)
    have hP : va_P g.1 vwCl [(aI g p2 10 fn), (oX5 t0 t1 t2 pw), (aI g t1 6 pd), (aI g t2 36 wb), (aI g q1 6 G), (oX6 p0 p1 p2 p3 p4 (nI w)), (aI g p1 24 sd), (aI g p3 6 st), (aI g p4 6 me), (oX4 h0 q0 q1 mo), (aI g q0 24 (dsF (mvF (mvF (mendF sd st me (upd F 5 (if 0 < ((F 5) - (sd 14)) then (F 5) - (sd 14) else 0)) w) 0 2 ((sd 5) * (((mendF sd st me (upd F 5 (if 0 < ((F 5) - (sd 14)) then (F 5) - (sd 14) else 0)) w) 3) / 10))) 1 2 ((sd 8) * (((mvF (mendF sd st me (upd F 5 (if 0 < ((F 5) - (sd 14)) then (F 5) - (sd 14) else 0)) w) 0 2 ((sd 5) * (((mendF sd st me (upd F 5 (if 0 < ((F 5) - (sd 14)) then (F 5) - (sd 14) else 0)) w) 3) / 10))) 4) / 10))) ((sd 8) - (sd 5))))] H := hP
    have hD : va_D A [(aI g p2 10 fn), (oX5 t0 t1 t2 pw), (aI g t1 6 pd), (aI g t2 36 wb), (aI g q1 6 G), (oX6 p0 p1 p2 p3 p4 (nI w)), (aI g p1 24 sd), (aI g p3 6 st), (aI g p4 6 me), (oX4 h0 q0 q1 mo), (aI g q0 24 (dsF (mvF (mvF (mendF sd st me (upd F 5 (if 0 < ((F 5) - (sd 14)) then (F 5) - (sd 14) else 0)) w) 0 2 ((sd 5) * (((mendF sd st me (upd F 5 (if 0 < ((F 5) - (sd 14)) then (F 5) - (sd 14) else 0)) w) 3) / 10))) 1 2 ((sd 8) * (((mvF (mendF sd st me (upd F 5 (if 0 < ((F 5) - (sd 14)) then (F 5) - (sd 14) else 0)) w) 0 2 ((sd 5) * (((mendF sd st me (upd F 5 (if 0 < ((F 5) - (sd 14)) then (F 5) - (sd 14) else 0)) w) 3) / 10))) 4) / 10))) ((sd 8) - (sd 5))))] := hD
    refine lv_aload_n hx hb dX4_pass_163 rfl (lv_at hl 0 rfl) ?_
    refine lv_dup hx hb dX4_pass_164 rfl ?_
    refine va_get (v := .int mo) (T := TX4) (N := 3) hx hb hts inX4 hown hK hP 9 rfl rfl 2 (by decide) f18 (fun _ h9 => h9) rfl dX4_pass_165 ?_
    refine lv_iconst (v := 1) hx hb dX4_pass_168 (by decide) ?_
    refine lv_iadd hx hb dX4_pass_169 ?_
    refine va_put (v := .int (mo + 1)) (ty := .int) (T := TX4) (N := 3) hx hb hts inX4 tyX4 tyX4_ok nmX4 hown hK hP hD hS 9 rfl rfl 2 (by decide) f18 (fun _ h9 => h9) rfl (by decide +kernel) rfl rfl (Nat.le_of_ble_eq_true rfl) dX4_pass_170 (fun H locs hP hD hS => ?_)
    have hP : va_P g.1 vwCl [(aI g p2 10 fn), (oX5 t0 t1 t2 pw), (aI g t1 6 pd), (aI g t2 36 wb), (aI g q1 6 G), (oX6 p0 p1 p2 p3 p4 (nI w)), (aI g p1 24 sd), (aI g p3 6 st), (aI g p4 6 me), (oX4 h0 q0 q1 (mo + 1)), (aI g q0 24 (dsF (mvF (mvF (mendF sd st me (upd F 5 (if 0 < ((F 5) - (sd 14)) then (F 5) - (sd 14) else 0)) w) 0 2 ((sd 5) * (((mendF sd st me (upd F 5 (if 0 < ((F 5) - (sd 14)) then (F 5) - (sd 14) else 0)) w) 3) / 10))) 1 2 ((sd 8) * (((mvF (mendF sd st me (upd F 5 (if 0 < ((F 5) - (sd 14)) then (F 5) - (sd 14) else 0)) w) 0 2 ((sd 5) * (((mendF sd st me (upd F 5 (if 0 < ((F 5) - (sd 14)) then (F 5) - (sd 14) else 0)) w) 3) / 10))) 4) / 10))) ((sd 8) - (sd 5))))] H := hP
    have hD : va_D A [(aI g p2 10 fn), (oX5 t0 t1 t2 pw), (aI g t1 6 pd), (aI g t2 36 wb), (aI g q1 6 G), (oX6 p0 p1 p2 p3 p4 (nI w)), (aI g p1 24 sd), (aI g p3 6 st), (aI g p4 6 me), (oX4 h0 q0 q1 (mo + 1)), (aI g q0 24 (dsF (mvF (mvF (mendF sd st me (upd F 5 (if 0 < ((F 5) - (sd 14)) then (F 5) - (sd 14) else 0)) w) 0 2 ((sd 5) * (((mendF sd st me (upd F 5 (if 0 < ((F 5) - (sd 14)) then (F 5) - (sd 14) else 0)) w) 3) / 10))) 1 2 ((sd 8) * (((mvF (mendF sd st me (upd F 5 (if 0 < ((F 5) - (sd 14)) then (F 5) - (sd 14) else 0)) w) 0 2 ((sd 5) * (((mendF sd st me (upd F 5 (if 0 < ((F 5) - (sd 14)) then (F 5) - (sd 14) else 0)) w) 3) / 10))) 4) / 10))) ((sd 8) - (sd 5))))] := hD
    refine lv_aload_n hx hb dX4_pass_173 rfl (lv_at hl 2 rfl) ?_
    refine lv_ifnull hx hb dX4_pass_174 ?_
    refine lv_aload_n hx hb dX4_pass_177 rfl (lv_at hl 0 rfl) ?_
    refine va_get (v := .int (mo + 1)) (T := TX4) (N := 3) hx hb hts inX4 hown hK hP 9 rfl rfl 2 (by decide) f18 (fun _ h9 => h9) rfl dX4_pass_178 ?_
    refine lv_aload_n hx hb dX4_pass_181 rfl (lv_at hl 0 rfl) ?_
    refine va_get (v := .ref q0) (T := TX4) (N := 3) hx hb hts inX4 hown hK hP 9 rfl rfl 0 (by decide) f9 (fun _ h9 => h9) rfl dX4_pass_182 ?_
    refine lv_bipush (v := 11) hx hb dX4_pass_185 (by decide) ?_
    refine he_iald hx hb hK hP 10 rfl (11) (by decide) (by decide) (by first | decide | assumption) ((dsF (mvF (mvF (mendF sd st me (upd F 5 (if 0 < ((F 5) - (sd 14)) then (F 5) - (sd 14) else 0)) w) 0 2 ((sd 5) * (((mendF sd st me (upd F 5 (if 0 < ((F 5) - (sd 14)) then (F 5) - (sd 14) else 0)) w) 3) / 10))) 1 2 ((sd 8) * (((mvF (mendF sd st me (upd F 5 (if 0 < ((F 5) - (sd 14)) then (F 5) - (sd 14) else 0)) w) 0 2 ((sd 5) * (((mendF sd st me (upd F 5 (if 0 < ((F 5) - (sd 14)) then (F 5) - (sd 14) else 0)) w) 3) / 10))) 4) / 10))) ((sd 8) - (sd 5))) 11) rfl dX4_pass_187 ?_
    refine lv_isub hx hb dX4_pass_188 ?_
    refine lv_aload_n hx hb dX4_pass_189 rfl (lv_at hl 2 rfl) ?_
    refine va_get (v := .ref t1) (T := TX5) (N := 3) hx hb hts inX5 hown hK hP 1 rfl rfl 0 (by decide) f57 (fun _ h9 => h9) rfl dX4_pass_190 ?_
    refine lv_iconst (v := 5) hx hb dX4_pass_193 (by decide) ?_
    refine he_iald hx hb hK hP 2 rfl (5) (by decide) (by decide) (by first | decide | assumption) (pd 5) rfl dX4_pass_194 ?_
    refine lv_icmp_lt (tgt := 206) hx hb dX4_pass_195 (by decide) (fun c_19 => ?_) (fun c_19 => ?_)
    · have hP := hP.sub (ws' := [(oX4 h0 q0 q1 (mo + 1)), (aI g q0 24 (dsF (mvF (mvF (mendF sd st me (upd F 5 (if 0 < ((F 5) - (sd 14)) then (F 5) - (sd 14) else 0)) w) 0 2 ((sd 5) * (((mendF sd st me (upd F 5 (if 0 < ((F 5) - (sd 14)) then (F 5) - (sd 14) else 0)) w) 3) / 10))) 1 2 ((sd 8) * (((mvF (mendF sd st me (upd F 5 (if 0 < ((F 5) - (sd 14)) then (F 5) - (sd 14) else 0)) w) 0 2 ((sd 5) * (((mendF sd st me (upd F 5 (if 0 < ((F 5) - (sd 14)) then (F 5) - (sd 14) else 0)) w) 3) / 10))) 4) / 10))) ((sd 8) - (sd 5)))), (aI g q1 6 G), (oX6 p0 p1 p2 p3 p4 (nI w)), (aI g p1 24 sd), (aI g p2 10 fn), (aI g p3 6 st), (aI g p4 6 me), (oX5 t0 t1 t2 pw), (aI g t1 6 pd), (aI g t2 36 wb)]) [9, 10, 4, 5, 6, 0, 7, 8, 1, 2, 3] rfl
      have hD := hD.sub (ws' := [(oX4 h0 q0 q1 (mo + 1)), (aI g q0 24 (dsF (mvF (mvF (mendF sd st me (upd F 5 (if 0 < ((F 5) - (sd 14)) then (F 5) - (sd 14) else 0)) w) 0 2 ((sd 5) * (((mendF sd st me (upd F 5 (if 0 < ((F 5) - (sd 14)) then (F 5) - (sd 14) else 0)) w) 3) / 10))) 1 2 ((sd 8) * (((mvF (mendF sd st me (upd F 5 (if 0 < ((F 5) - (sd 14)) then (F 5) - (sd 14) else 0)) w) 0 2 ((sd 5) * (((mendF sd st me (upd F 5 (if 0 < ((F 5) - (sd 14)) then (F 5) - (sd 14) else 0)) w) 3) / 10))) 4) / 10))) ((sd 8) - (sd 5)))), (aI g q1 6 G), (oX6 p0 p1 p2 p3 p4 (nI w)), (aI g p1 24 sd), (aI g p2 10 fn), (aI g p3 6 st), (aI g p4 6 me), (oX5 t0 t1 t2 pw), (aI g t1 6 pd), (aI g t2 36 wb)]) [9, 10, 4, 5, 6, 0, 7, 8, 1, 2, 3] (by decide) rfl
      exact he_rv hQ hx hb hr hlk hP hD hS dX4_pass_206 (Nat.le_of_ble_eq_true rfl) (Nat.le_of_ble_eq_true rfl) ((dsF (mvF (mvF (mendF sd st me (upd F 5 (if 0 < ((F 5) - (sd 14)) then (F 5) - (sd 14) else 0)) w) 0 2 ((sd 5) * (((mendF sd st me (upd F 5 (if 0 < ((F 5) - (sd 14)) then (F 5) - (sd 14) else 0)) w) 3) / 10))) 1 2 ((sd 8) * (((mvF (mendF sd st me (upd F 5 (if 0 < ((F 5) - (sd 14)) then (F 5) - (sd 14) else 0)) w) 0 2 ((sd 5) * (((mendF sd st me (upd F 5 (if 0 < ((F 5) - (sd 14)) then (F 5) - (sd 14) else 0)) w) 3) / 10))) 4) / 10))) ((sd 8) - (sd 5)), G)) (rfl) ((by (try dsimp only); rw [dsF_n _ _ _ (by (try dsimp only); decide) (by (try dsimp only); decide), mvF_n _ _ _ _ _ (by (try dsimp only); decide) (by (try dsimp only); decide), mvF_n _ _ _ _ _ (by (try dsimp only); decide) (by (try dsimp only); decide), mendF_n _ _ _ _ _ (by (try dsimp only); decide) (by (try dsimp only); decide) (by (try dsimp only); decide), upd_n (by (try dsimp only); decide)]; exact hF))
    · refine lv_aload_n hx hb dX4_pass_198 rfl (lv_at hl 0 rfl) ?_
      refine va_get (v := .ref q0) (T := TX4) (N := 3) hx hb hts inX4 hown hK hP 9 rfl rfl 0 (by decide) f9 (fun _ h9 => h9) rfl dX4_pass_199 ?_
      refine lv_bipush (v := 10) hx hb dX4_pass_202 (by decide) ?_
      refine lv_iconst (v := (-1)) hx hb dX4_pass_204 (by decide) ?_
      refine he_iast hx hb hK hP hD hS 10 rfl (10) (by decide) (by decide) (by first | decide | assumption) dX4_pass_205 (fun H locs hP hD hS => ?_)
      have hP : va_P g.1 vwCl [(aI g p2 10 fn), (oX5 t0 t1 t2 pw), (aI g t1 6 pd), (aI g t2 36 wb), (aI g q1 6 G), (oX6 p0 p1 p2 p3 p4 (nI w)), (aI g p1 24 sd), (aI g p3 6 st), (aI g p4 6 me), (oX4 h0 q0 q1 (mo + 1)), (aI g q0 24 (upd (dsF (mvF (mvF (mendF sd st me (upd F 5 (if 0 < ((F 5) - (sd 14)) then (F 5) - (sd 14) else 0)) w) 0 2 ((sd 5) * (((mendF sd st me (upd F 5 (if 0 < ((F 5) - (sd 14)) then (F 5) - (sd 14) else 0)) w) 3) / 10))) 1 2 ((sd 8) * (((mvF (mendF sd st me (upd F 5 (if 0 < ((F 5) - (sd 14)) then (F 5) - (sd 14) else 0)) w) 0 2 ((sd 5) * (((mendF sd st me (upd F 5 (if 0 < ((F 5) - (sd 14)) then (F 5) - (sd 14) else 0)) w) 3) / 10))) 4) / 10))) ((sd 8) - (sd 5))) 10 (-1)))] H := hP
      have hD : va_D A [(aI g p2 10 fn), (oX5 t0 t1 t2 pw), (aI g t1 6 pd), (aI g t2 36 wb), (aI g q1 6 G), (oX6 p0 p1 p2 p3 p4 (nI w)), (aI g p1 24 sd), (aI g p3 6 st), (aI g p4 6 me), (oX4 h0 q0 q1 (mo + 1)), (aI g q0 24 (upd (dsF (mvF (mvF (mendF sd st me (upd F 5 (if 0 < ((F 5) - (sd 14)) then (F 5) - (sd 14) else 0)) w) 0 2 ((sd 5) * (((mendF sd st me (upd F 5 (if 0 < ((F 5) - (sd 14)) then (F 5) - (sd 14) else 0)) w) 3) / 10))) 1 2 ((sd 8) * (((mvF (mendF sd st me (upd F 5 (if 0 < ((F 5) - (sd 14)) then (F 5) - (sd 14) else 0)) w) 0 2 ((sd 5) * (((mendF sd st me (upd F 5 (if 0 < ((F 5) - (sd 14)) then (F 5) - (sd 14) else 0)) w) 3) / 10))) 4) / 10))) ((sd 8) - (sd 5))) 10 (-1)))] := hD
      have hP := hP.sub (ws' := [(oX4 h0 q0 q1 (mo + 1)), (aI g q0 24 (upd (dsF (mvF (mvF (mendF sd st me (upd F 5 (if 0 < ((F 5) - (sd 14)) then (F 5) - (sd 14) else 0)) w) 0 2 ((sd 5) * (((mendF sd st me (upd F 5 (if 0 < ((F 5) - (sd 14)) then (F 5) - (sd 14) else 0)) w) 3) / 10))) 1 2 ((sd 8) * (((mvF (mendF sd st me (upd F 5 (if 0 < ((F 5) - (sd 14)) then (F 5) - (sd 14) else 0)) w) 0 2 ((sd 5) * (((mendF sd st me (upd F 5 (if 0 < ((F 5) - (sd 14)) then (F 5) - (sd 14) else 0)) w) 3) / 10))) 4) / 10))) ((sd 8) - (sd 5))) 10 (-1))), (aI g q1 6 G), (oX6 p0 p1 p2 p3 p4 (nI w)), (aI g p1 24 sd), (aI g p2 10 fn), (aI g p3 6 st), (aI g p4 6 me), (oX5 t0 t1 t2 pw), (aI g t1 6 pd), (aI g t2 36 wb)]) [9, 10, 4, 5, 6, 0, 7, 8, 1, 2, 3] rfl
      have hD := hD.sub (ws' := [(oX4 h0 q0 q1 (mo + 1)), (aI g q0 24 (upd (dsF (mvF (mvF (mendF sd st me (upd F 5 (if 0 < ((F 5) - (sd 14)) then (F 5) - (sd 14) else 0)) w) 0 2 ((sd 5) * (((mendF sd st me (upd F 5 (if 0 < ((F 5) - (sd 14)) then (F 5) - (sd 14) else 0)) w) 3) / 10))) 1 2 ((sd 8) * (((mvF (mendF sd st me (upd F 5 (if 0 < ((F 5) - (sd 14)) then (F 5) - (sd 14) else 0)) w) 0 2 ((sd 5) * (((mendF sd st me (upd F 5 (if 0 < ((F 5) - (sd 14)) then (F 5) - (sd 14) else 0)) w) 3) / 10))) 4) / 10))) ((sd 8) - (sd 5))) 10 (-1))), (aI g q1 6 G), (oX6 p0 p1 p2 p3 p4 (nI w)), (aI g p1 24 sd), (aI g p2 10 fn), (aI g p3 6 st), (aI g p4 6 me), (oX5 t0 t1 t2 pw), (aI g t1 6 pd), (aI g t2 36 wb)]) [9, 10, 4, 5, 6, 0, 7, 8, 1, 2, 3] (by decide) rfl
      exact he_rv hQ hx hb hr hlk hP hD hS dX4_pass_206 (Nat.le_of_ble_eq_true rfl) (Nat.le_of_ble_eq_true rfl) ((upd (dsF (mvF (mvF (mendF sd st me (upd F 5 (if 0 < ((F 5) - (sd 14)) then (F 5) - (sd 14) else 0)) w) 0 2 ((sd 5) * (((mendF sd st me (upd F 5 (if 0 < ((F 5) - (sd 14)) then (F 5) - (sd 14) else 0)) w) 3) / 10))) 1 2 ((sd 8) * (((mvF (mendF sd st me (upd F 5 (if 0 < ((F 5) - (sd 14)) then (F 5) - (sd 14) else 0)) w) 0 2 ((sd 5) * (((mendF sd st me (upd F 5 (if 0 < ((F 5) - (sd 14)) then (F 5) - (sd 14) else 0)) w) 3) / 10))) 4) / 10))) ((sd 8) - (sd 5))) 10 (-1), G)) (rfl) ((Or.inr (by dsimp only; exact upd_s)))
  refine lv_aload_n hx hb dX4_pass_39 rfl (lv_at hl 2 rfl) ?_
  refine lv_ifnull hx hb dX4_pass_40 ?_
  refine lv_aload_n hx hb dX4_pass_43 rfl (lv_at hl 0 rfl) ?_
  refine lv_aload_n hx hb dX4_pass_44 rfl (lv_at hl 2 rfl) ?_
  refine he_ci (wc := [(oX4 h0 q0 q1 mo), (aI g q0 24 (mvF f 2 0 ((((f 3) * (sd 10)) * (f 5)) / 10000))), (oX5 t0 t1 t2 pw), (aI g t1 6 pd)]) (wr := [(oX6 p0 p1 p2 p3 p4 (nI w)), (aI g p1 24 sd), (aI g p2 10 fn), (aI g p3 6 st), (aI g p4 6 me), (aI g t2 36 wb), (aI g q1 6 (flF (fun _ => 0) sh 6))]) (va_runV (As := [.ref t0]) (rest := []) ⟨hx, hb, hml, hown, hts⟩ (g_X4_isPaid l g h0 q0 q1 mo (mvF f 2 0 ((((f 3) * (sd 10)) * (f 5)) / 10000)) t0 t1 t2 pw pd H.size) (cwV 1 hts gX4_pass_X4_isPaid rfl rfl rfl (by decide +kernel) ⟨Nat.le_of_ble_eq_true rfl, Nat.le_of_ble_eq_true rfl⟩) (he_preV (wc := [(oX4 h0 q0 q1 mo), (aI g q0 24 (mvF f 2 0 ((((f 3) * (sd 10)) * (f 5)) / 10000))), (oX5 t0 t1 t2 pw), (aI g t1 6 pd)]) hK hP hD hS hA hE [9, 10, 5, 6] rfl rfl 9 rfl rfl) rfl rfl hl.1 rfl (lv_room (Nat.le_of_ble_eq_true rfl)) dX4_pass_45 ⟨(Nat.le_of_ble_eq_true rfl), (Nat.le_of_ble_eq_true rfl)⟩) hP hD hS hA [9, 10, 5, 6] [0, 1, 2, 3, 4, 7, 8] rfl rfl rfl (by decide) (fun r_20 u_21 H locs h_22 hP hD hS => ?_)
  obtain ⟨uf_23, rfl⟩ : ∃ z, z = u_21 := ⟨_, rfl⟩
  try dsimp only at h_22
  obtain ⟨hf_24, hf_25⟩ := h_22
  have hP : va_P g.1 vwCl [(oX6 p0 p1 p2 p3 p4 (nI w)), (aI g p1 24 sd), (aI g p2 10 fn), (aI g p3 6 st), (aI g p4 6 me), (aI g t2 36 wb), (aI g q1 6 (flF (fun _ => 0) sh 6)), (oX4 h0 q0 q1 mo), (aI g q0 24 uf_23), (oX5 t0 t1 t2 pw), (aI g t1 6 pd)] H := hP
  have hD : va_D A [(oX6 p0 p1 p2 p3 p4 (nI w)), (aI g p1 24 sd), (aI g p2 10 fn), (aI g p3 6 st), (aI g p4 6 me), (aI g t2 36 wb), (aI g q1 6 (flF (fun _ => 0) sh 6)), (oX4 h0 q0 q1 mo), (aI g q0 24 uf_23), (oX5 t0 t1 t2 pw), (aI g t1 6 pd)] := hD
  refine lv_if_eq (tgt := 71) hx hb dX4_pass_48 (by decide) (fun c_26 => ?_) (fun c_26 => ?_)
  · exact join71 uf_23 (flF (fun _ => 0) sh 6) (by rw [← mvF_n f 2 0 10 (f 3 * sd 10 * f 5 / 10000) (by decide) (by decide)]; exact hf_25) _ _ _ (hP.sub [0, 1, 2, 3, 4, 9, 10, 5, 6, 7, 8] rfl) (hD.sub [0, 1, 2, 3, 4, 9, 10, 5, 6, 7, 8] (by decide) rfl) hS (lv_sub hl [0, 1, 2] rfl)
  · refine lv_aload_n hx hb dX4_pass_51 rfl (lv_at hl 0 rfl) ?_
    refine lv_aload_n hx hb dX4_pass_52 rfl (lv_at hl 1 rfl) ?_
    refine lv_aload_n hx hb dX4_pass_53 rfl (lv_at hl 2 rfl) ?_
    refine he_cv (wc := [(oX4 h0 q0 q1 mo), (aI g q0 24 uf_23), (aI g q1 6 (flF (fun _ => 0) sh 6)), (oX6 p0 p1 p2 p3 p4 (nI w)), (aI g p1 24 sd), (aI g p3 6 st), (oX5 t0 t1 t2 pw), (aI g t1 6 pd), (aI g t2 36 wb)]) (wr := [(aI g p2 10 fn), (aI g p4 6 me)]) (va_runV (As := [.ref p0, .ref t0]) (rest := []) ⟨hx, hb, hml, hown, hts⟩ (g_X4_shoot l g h0 q0 q1 mo uf_23 (flF (fun _ => 0) sh 6) p0 p1 p2 p3 p4 w sd st t0 t1 t2 pw pd wb ck (by first | assumption | decide | omega) (by first | assumption | decide | omega) (by first | assumption | decide | omega) (by first | assumption | decide | omega) H.size) (cwV 2 hts gX4_pass_X4_shoot rfl rfl rfl (by decide +kernel) ⟨Nat.le_of_ble_eq_true rfl, Nat.le_of_ble_eq_true rfl⟩) (he_preV (wc := [(oX4 h0 q0 q1 mo), (aI g q0 24 uf_23), (aI g q1 6 (flF (fun _ => 0) sh 6)), (oX6 p0 p1 p2 p3 p4 (nI w)), (aI g p1 24 sd), (aI g p3 6 st), (oX5 t0 t1 t2 pw), (aI g t1 6 pd), (aI g t2 36 wb)]) hK hP hD hS hA hE [7, 8, 6, 0, 1, 3, 9, 10, 5] rfl rfl 7 rfl rfl) rfl rfl hl.1 rfl (lv_room (Nat.le_of_ble_eq_true rfl)) dX4_pass_54 ⟨(Nat.le_of_ble_eq_true rfl), (Nat.le_of_ble_eq_true rfl)⟩) hP hD hS hA [7, 8, 6, 0, 1, 3, 9, 10, 5] [2, 4] rfl rfl rfl (by decide) (fun u_28 H locs h_29 hP hD hS => ?_)
    obtain ⟨uf_30, us_31⟩ := u_28
    try dsimp only at h_29
    have hf_32 := h_29
    have hP : va_P g.1 vwCl [(aI g p2 10 fn), (aI g p4 6 me), (oX4 h0 q0 q1 mo), (aI g q0 24 uf_30), (aI g q1 6 us_31), (oX6 p0 p1 p2 p3 p4 (nI w)), (aI g p1 24 sd), (aI g p3 6 st), (oX5 t0 t1 t2 pw), (aI g t1 6 pd), (aI g t2 36 wb)] H := hP
    have hD : va_D A [(aI g p2 10 fn), (aI g p4 6 me), (oX4 h0 q0 q1 mo), (aI g q0 24 uf_30), (aI g q1 6 us_31), (oX6 p0 p1 p2 p3 p4 (nI w)), (aI g p1 24 sd), (aI g p3 6 st), (oX5 t0 t1 t2 pw), (aI g t1 6 pd), (aI g t2 36 wb)] := hD
    refine lv_aload_n hx hb dX4_pass_57 rfl (lv_at hl 0 rfl) ?_
    refine lv_aload_n hx hb dX4_pass_58 rfl (lv_at hl 1 rfl) ?_
    refine lv_aload_n hx hb dX4_pass_59 rfl (lv_at hl 2 rfl) ?_
    refine va_get (v := .ref t1) (T := TX5) (N := 3) hx hb hts inX5 hown hK hP 8 rfl rfl 0 (by decide) f57 (fun _ h9 => h9) rfl dX4_pass_60 ?_
    refine lv_iconst (v := 2) hx hb dX4_pass_63 (by decide) ?_
    refine he_iald hx hb hK hP 9 rfl (2) (by decide) (by decide) (by first | decide | assumption) (pd 2) rfl dX4_pass_64 ?_
    refine he_ci (wc := [(oX6 p0 p1 p2 p3 p4 (nI w)), (aI g p2 10 fn)]) (wr := [(aI g p4 6 me), (oX4 h0 q0 q1 mo), (aI g q0 24 uf_30), (aI g q1 6 us_31), (aI g p1 24 sd), (aI g p3 6 st), (oX5 t0 t1 t2 pw), (aI g t1 6 pd), (aI g t2 36 wb)]) (va_runV (As := [.int (pd 2)]) (rest := [.ref h0]) ⟨hx, hb, hml, hown, hts⟩ (c_X6_fearAt l g p0 p1 p2 p3 p4 (nI w) fn (pd 2) H.size) (cwV 1 hts gX4_pass_X6_fearAt rfl rfl rfl (by decide +kernel) ⟨Nat.le_of_ble_eq_true rfl, Nat.le_of_ble_eq_true rfl⟩) (he_preV (wc := [(oX6 p0 p1 p2 p3 p4 (nI w)), (aI g p2 10 fn)]) hK hP hD hS hA hE [5, 0] rfl rfl 5 rfl rfl) rfl rfl hl.1 rfl (lv_room (Nat.le_of_ble_eq_true rfl)) dX4_pass_65 ⟨(Nat.le_of_ble_eq_true rfl), (Nat.le_of_ble_eq_true rfl)⟩) hP hD hS hA [5, 0] [1, 2, 3, 4, 6, 7, 8, 9, 10] rfl rfl rfl (by decide) (fun r_33 u_34 H locs h_35 hP hD hS => ?_)
    subst h_35
    have hP : va_P g.1 vwCl [(aI g p4 6 me), (oX4 h0 q0 q1 mo), (aI g q0 24 uf_30), (aI g q1 6 us_31), (aI g p1 24 sd), (aI g p3 6 st), (oX5 t0 t1 t2 pw), (aI g t1 6 pd), (aI g t2 36 wb), (oX6 p0 p1 p2 p3 p4 (nI w)), (aI g p2 10 fn)] H := hP
    have hD : va_D A [(aI g p4 6 me), (oX4 h0 q0 q1 mo), (aI g q0 24 uf_30), (aI g q1 6 us_31), (aI g p1 24 sd), (aI g p3 6 st), (oX5 t0 t1 t2 pw), (aI g t1 6 pd), (aI g t2 36 wb), (oX6 p0 p1 p2 p3 p4 (nI w)), (aI g p2 10 fn)] := hD
    refine he_cv (wc := [(oX4 h0 q0 q1 mo), (aI g q0 24 uf_30)]) (wr := [(aI g p4 6 me), (aI g q1 6 us_31), (aI g p1 24 sd), (aI g p3 6 st), (oX5 t0 t1 t2 pw), (aI g t1 6 pd), (aI g t2 36 wb), (oX6 p0 p1 p2 p3 p4 (nI w)), (aI g p2 10 fn)]) (va_runV (As := [.int (faF fn (pd 2))]) (rest := []) ⟨hx, hb, hml, hown, hts⟩ (c_X4_frighten l g h0 q0 q1 mo uf_30 (faF fn (pd 2)) H.size) (cwV 1 hts gX4_pass_X4_frighten rfl rfl rfl (by decide +kernel) ⟨Nat.le_of_ble_eq_true rfl, Nat.le_of_ble_eq_true rfl⟩) (he_preV (wc := [(oX4 h0 q0 q1 mo), (aI g q0 24 uf_30)]) hK hP hD hS hA hE [1, 2] rfl rfl 1 rfl rfl) rfl rfl hl.1 rfl (lv_room (Nat.le_of_ble_eq_true rfl)) dX4_pass_68 ⟨(Nat.le_of_ble_eq_true rfl), (Nat.le_of_ble_eq_true rfl)⟩) hP hD hS hA [1, 2] [0, 3, 4, 5, 6, 7, 8, 9, 10] rfl rfl rfl (by decide) (fun u_37 H locs h_38 hP hD hS => ?_)
    have hP : va_P g.1 vwCl [(aI g p4 6 me), (aI g q1 6 us_31), (aI g p1 24 sd), (aI g p3 6 st), (oX5 t0 t1 t2 pw), (aI g t1 6 pd), (aI g t2 36 wb), (oX6 p0 p1 p2 p3 p4 (nI w)), (aI g p2 10 fn), (oX4 h0 q0 q1 mo), (aI g q0 24 (frF uf_30 (faF fn (pd 2))))] H := hP
    have hD : va_D A [(aI g p4 6 me), (aI g q1 6 us_31), (aI g p1 24 sd), (aI g p3 6 st), (oX5 t0 t1 t2 pw), (aI g t1 6 pd), (aI g t2 36 wb), (oX6 p0 p1 p2 p3 p4 (nI w)), (aI g p2 10 fn), (oX4 h0 q0 q1 mo), (aI g q0 24 (frF uf_30 (faF fn (pd 2))))] := hD
    exact join71 (frF uf_30 (faF fn (pd 2))) us_31 (by rw [frF, upd_n (by decide), hf_32, ← mvF_n f 2 0 10 (f 3 * sd 10 * f 5 / 10000) (by decide) (by decide)]; exact hf_25) _ _ _ (hP.sub [7, 2, 8, 3, 0, 4, 5, 6, 1, 9, 10] rfl) (hD.sub [7, 2, 8, 3, 0, 4, 5, 6, 1, 9, 10] (by decide) rfl) hS (lv_sub hl [0, 1, 2] rfl)
set_option maxHeartbeats 4000000 in
set_option maxRecDepth 100000 in
theorem g_X4_passN (l : Launch) (g : he_G) (h0 : Nat) (q0 : Nat) (q1 : Nat) (mo : Int32) (f : Nat → Int32) (sh : Nat → Int32) (p0 : Nat) (p1 : Nat) (p2 : Nat) (p3 : Nat) (p4 : Nat) (w : Nat) (sd : Nat → Int32) (st : Nat → Int32) (me : Nat → Int32) (hw6 : w ≤ 6) : he_V l yX4_pass wsX4_pass 3 61 0 0 g [.ref h0, .ref p0, .null] [(oX4 h0 q0 q1 mo), (aI g q0 24 f), (aI g q1 6 sh), (oX6 p0 p1 p2 p3 p4 (nI w)), (aI g p1 24 sd), (aI g p3 6 st), (aI g p4 6 me)] (fun (u : (Nat → Int32) × (Nat → Int32)) => u.1 10 = f 10) (fun (u : (Nat → Int32) × (Nat → Int32)) => [(oX4 h0 q0 q1 (mo + 1)), (aI g q0 24 u.1), (aI g q1 6 u.2), (oX6 p0 p1 p2 p3 p4 (nI w)), (aI g p1 24 sd), (aI g p3 6 st), (aI g p4 6 me)]) := by
  refine he_begin (l := l) (g := g) (y := yX4_pass) (wl := wsX4_pass) (fr := 3) (lo := 61) (mc := 0) (ms := 0) (av := [.ref h0, .ref p0, .null]) (ws := [(oX4 h0 q0 q1 mo), (aI g q0 24 f), (aI g q1 6 sh), (oX6 p0 p1 p2 p3 p4 (nI w)), (aI g p1 24 sd), (aI g p3 6 st), (aI g p4 6 me)]) (cc := cX4_pass) (maxL := 3) (ret := none) (fun A => va_Qv (fun (u : (Nat → Int32) × (Nat → Int32)) => u.1 10 = f 10) (fun u t => he_post g A ((fun (u : (Nat → Int32) × (Nat → Int32)) => [(oX4 h0 q0 q1 (mo + 1)), (aI g q0 24 u.1), (aI g q1 6 u.2), (oX6 p0 p1 p2 p3 p4 (nI w)), (aI g p1 24 sd), (aI g p3 6 st), (aI g p4 6 me)]) u) t) A) (by decide) rfl (Nat.le_of_ble_eq_true rfl) ?_
  intro p e s m args below meth c A ls H locs Q hQ hB
  obtain ⟨hx, hb, hr, hml, hown, hts, hlk, hin, hP, hK, hD, hS, hA, hE, hl⟩ := hB
  have hl : lv_has ls 3 [(0, .ref h0), (1, .ref p0), (2, .null)] := hl
  have f15 := hts (.fieldLink RX4 15 "HiredEnemy$Course" "shot" "[I") (iwoX4_pass (k := 0) rfl)
  have inX4 : ∀ w ∈ wsX40, w ∈ wsX4_pass := innX4_pass_X4
  have f9 := hts (.fieldLink RX4 9 "HiredEnemy$Course" "now" "[I") (iwoX4_pass (k := 1) rfl)
  have f28 := hts (.fieldLink RX4 28 "HiredEnemy$Plan" "said" "[I") (iwoX4_pass (k := 2) rfl)
  have inX6 : ∀ w ∈ wsX60, w ∈ wsX4_pass := innX4_pass_X6
  have ml68 := hts (.methodLink RX4 68 Lib.Math.max.name) (iwoX4_pass (k := 4) rfl)
  have msmax := hts (.static Lib.Math.max.name) (iwoX4_pass (k := 5) rfl)
  have mi := hts (.initialized "java/lang/Math") (iwoX4_pass (k := 6) rfl)
  have mcmax := hts (.code Lib.Math.max.name Lib.Math.max.code 2 (some .int)) (iwoX4_pass (k := 7) rfl)
  have f18 := hts (.fieldLink RX4 18 "HiredEnemy$Course" "month" "I") (iwoX4_pass (k := 8) rfl)
  refine lv_aload_n hx hb dX4_pass_0 rfl (lv_at hl 0 rfl) ?_
  refine va_get (v := .ref q1) (T := TX4) (N := 3) hx hb hts inX4 hown hK hP 0 rfl rfl 1 (by decide) f15 (fun _ h9 => h9) rfl dX4_pass_1 ?_
  refine lv_iconst (v := 0) hx hb dX4_pass_4 (by decide) ?_
  refine he_cv (wc := [(aI g q1 6 sh)]) (wr := [(oX4 h0 q0 q1 mo), (aI g q0 24 f), (oX6 p0 p1 p2 p3 p4 (nI w)), (aI g p1 24 sd), (aI g p3 6 st), (aI g p4 6 me)]) (va_runS (As := [.ref q1, .int 0]) (rest := []) ⟨hx, hb, hml, hown, hts⟩ (c_J7_fill_53178 l g q1 6 sh 0 (by first | assumption | decide | omega) H.size) (va_cwS 2 hts gX4_pass_J7_fill_53178 rfl rfl rfl (by decide +kernel) ⟨Nat.le_of_ble_eq_true rfl, Nat.le_of_ble_eq_true rfl⟩) (he_preS (wc := [(aI g q1 6 sh)]) hK hP hD hS hA hE [2] rfl rfl) rfl rfl hl.1 rfl (lv_room (Nat.le_of_ble_eq_true rfl)) dX4_pass_5 ⟨(Nat.le_of_ble_eq_true rfl), (Nat.le_of_ble_eq_true rfl)⟩) hP hD hS hA [2] [0, 1, 3, 4, 5, 6] rfl rfl rfl (by decide) (fun u_2 H locs h_3 hP hD hS => ?_)
  have hP : va_P g.1 vwCl [(oX4 h0 q0 q1 mo), (aI g q0 24 f), (oX6 p0 p1 p2 p3 p4 (nI w)), (aI g p1 24 sd), (aI g p3 6 st), (aI g p4 6 me), (aI g q1 6 (flF (fun _ => 0) sh 6))] H := hP
  have hD : va_D A [(oX4 h0 q0 q1 mo), (aI g q0 24 f), (oX6 p0 p1 p2 p3 p4 (nI w)), (aI g p1 24 sd), (aI g p3 6 st), (aI g p4 6 me), (aI g q1 6 (flF (fun _ => 0) sh 6))] := hD
  refine lv_aload_n hx hb dX4_pass_8 rfl (lv_at hl 0 rfl) ?_
  refine lv_iconst (v := 2) hx hb dX4_pass_9 (by decide) ?_
  refine lv_iconst (v := 0) hx hb dX4_pass_10 (by decide) ?_
  refine lv_aload_n hx hb dX4_pass_11 rfl (lv_at hl 0 rfl) ?_
  refine va_get (v := .ref q0) (T := TX4) (N := 3) hx hb hts inX4 hown hK hP 0 rfl rfl 0 (by decide) f9 (fun _ h9 => h9) rfl dX4_pass_12 ?_
  refine lv_iconst (v := 3) hx hb dX4_pass_15 (by decide) ?_
  refine he_iald hx hb hK hP 1 rfl (3) (by decide) (by decide) (by first | decide | assumption) (f 3) rfl dX4_pass_16 ?_
  refine lv_aload_n hx hb dX4_pass_17 rfl (lv_at hl 1 rfl) ?_
  refine va_get (v := .ref p1) (T := TX6) (N := 5) hx hb hts inX6 hown hK hP 2 rfl rfl 0 (by decide) f28 (fun _ h9 => h9) rfl dX4_pass_18 ?_
  refine lv_bipush (v := 10) hx hb dX4_pass_21 (by decide) ?_
  refine he_iald hx hb hK hP 3 rfl (10) (by decide) (by decide) (by first | decide | assumption) (sd 10) rfl dX4_pass_23 ?_
  refine lv_imul hx hb dX4_pass_24 ?_
  refine lv_aload_n hx hb dX4_pass_25 rfl (lv_at hl 0 rfl) ?_
  refine va_get (v := .ref q0) (T := TX4) (N := 3) hx hb hts inX4 hown hK hP 0 rfl rfl 0 (by decide) f9 (fun _ h9 => h9) rfl dX4_pass_26 ?_
  refine lv_iconst (v := 5) hx hb dX4_pass_29 (by decide) ?_
  refine he_iald hx hb hK hP 1 rfl (5) (by decide) (by decide) (by first | decide | assumption) (f 5) rfl dX4_pass_30 ?_
  refine lv_imul hx hb dX4_pass_31 ?_
  refine lv_sipush (v := 10000) hx hb dX4_pass_32 (by decide) ?_
  refine lv_idiv hx hb dX4_pass_35 (by decide) ?_
  refine he_cv (wc := [(oX4 h0 q0 q1 mo), (aI g q0 24 f)]) (wr := [(oX6 p0 p1 p2 p3 p4 (nI w)), (aI g p1 24 sd), (aI g p3 6 st), (aI g p4 6 me), (aI g q1 6 (flF (fun _ => 0) sh 6))]) (va_runV (As := [.int 2, .int 0, .int ((((f 3) * (sd 10)) * (f 5)) / 10000)]) (rest := []) ⟨hx, hb, hml, hown, hts⟩ (c_X4_move l g h0 q0 q1 mo f 2 0 ((((f 3) * (sd 10)) * (f 5)) / 10000) (by first | assumption | decide | omega) (by first | assumption | decide | omega) H.size) (cwV 3 hts gX4_pass_X4_move rfl rfl rfl (by decide +kernel) ⟨Nat.le_of_ble_eq_true rfl, Nat.le_of_ble_eq_true rfl⟩) (he_preV (wc := [(oX4 h0 q0 q1 mo), (aI g q0 24 f)]) hK hP hD hS hA hE [0, 1] rfl rfl 0 rfl rfl) rfl rfl hl.1 rfl (lv_room (Nat.le_of_ble_eq_true rfl)) dX4_pass_36 ⟨(Nat.le_of_ble_eq_true rfl), (Nat.le_of_ble_eq_true rfl)⟩) hP hD hS hA [0, 1] [2, 3, 4, 5, 6] rfl rfl rfl (by decide) (fun u_5 H locs h_6 hP hD hS => ?_)
  have hP : va_P g.1 vwCl [(oX6 p0 p1 p2 p3 p4 (nI w)), (aI g p1 24 sd), (aI g p3 6 st), (aI g p4 6 me), (aI g q1 6 (flF (fun _ => 0) sh 6)), (oX4 h0 q0 q1 mo), (aI g q0 24 (mvF f 2 0 ((((f 3) * (sd 10)) * (f 5)) / 10000)))] H := hP
  have hD : va_D A [(oX6 p0 p1 p2 p3 p4 (nI w)), (aI g p1 24 sd), (aI g p3 6 st), (aI g p4 6 me), (aI g q1 6 (flF (fun _ => 0) sh 6)), (oX4 h0 q0 q1 mo), (aI g q0 24 (mvF f 2 0 ((((f 3) * (sd 10)) * (f 5)) / 10000)))] := hD
  refine lv_aload_nN hx hb dX4_pass_39 rfl (lv_at hl 2 rfl) ?_
  refine lv_ifnullN (tgt := 71) hx hb dX4_pass_40 (by decide) ?_
  refine lv_aload_n hx hb dX4_pass_71 rfl (lv_at hl 0 rfl) ?_
  refine va_get (v := .ref q0) (T := TX4) (N := 3) hx hb hts inX4 hown hK hP 5 rfl rfl 0 (by decide) f9 (fun _ h9 => h9) rfl dX4_pass_72 ?_
  refine lv_iconst (v := 5) hx hb dX4_pass_75 (by decide) ?_
  refine lv_iconst (v := 0) hx hb dX4_pass_76 (by decide) ?_
  refine lv_aload_n hx hb dX4_pass_77 rfl (lv_at hl 0 rfl) ?_
  refine va_get (v := .ref q0) (T := TX4) (N := 3) hx hb hts inX4 hown hK hP 5 rfl rfl 0 (by decide) f9 (fun _ h9 => h9) rfl dX4_pass_78 ?_
  refine lv_iconst (v := 5) hx hb dX4_pass_81 (by decide) ?_
  refine he_iald hx hb hK hP 6 rfl (5) (by decide) (by decide) (by first | decide | assumption) ((mvF f 2 0 ((((f 3) * (sd 10)) * (f 5)) / 10000)) 5) rfl dX4_pass_82 ?_
  refine lv_aload_n hx hb dX4_pass_83 rfl (lv_at hl 1 rfl) ?_
  refine va_get (v := .ref p1) (T := TX6) (N := 5) hx hb hts inX6 hown hK hP 0 rfl rfl 0 (by decide) f28 (fun _ h9 => h9) rfl dX4_pass_84 ?_
  refine lv_bipush (v := 14) hx hb dX4_pass_87 (by decide) ?_
  refine he_iald hx hb hK hP 1 rfl (14) (by decide) (by decide) (by first | decide | assumption) (sd 14) rfl dX4_pass_89 ?_
  refine lv_isub hx hb dX4_pass_90 ?_
  refine va_mmax hx hb (by rw [hml]; exact hl.1.symm) hown ml68 msmax mi mcmax (by decide) (Nat.le_of_ble_eq_true rfl) (Nat.le_of_ble_eq_true rfl) (Nat.le_of_ble_eq_true rfl) dX4_pass_91 ?_
  refine he_iast hx hb hK hP hD hS 6 rfl (5) (by decide) (by decide) (by first | decide | assumption) dX4_pass_94 (fun H locs hP hD hS => ?_)
  have hP : va_P g.1 vwCl [(oX6 p0 p1 p2 p3 p4 (nI w)), (aI g p1 24 sd), (aI g p3 6 st), (aI g p4 6 me), (aI g q1 6 (flF (fun _ => 0) sh 6)), (oX4 h0 q0 q1 mo), (aI g q0 24 (upd (mvF f 2 0 ((((f 3) * (sd 10)) * (f 5)) / 10000)) 5 (if 0 < (((mvF f 2 0 ((((f 3) * (sd 10)) * (f 5)) / 10000)) 5) - (sd 14)) then ((mvF f 2 0 ((((f 3) * (sd 10)) * (f 5)) / 10000)) 5) - (sd 14) else 0)))] H := hP
  have hD : va_D A [(oX6 p0 p1 p2 p3 p4 (nI w)), (aI g p1 24 sd), (aI g p3 6 st), (aI g p4 6 me), (aI g q1 6 (flF (fun _ => 0) sh 6)), (oX4 h0 q0 q1 mo), (aI g q0 24 (upd (mvF f 2 0 ((((f 3) * (sd 10)) * (f 5)) / 10000)) 5 (if 0 < (((mvF f 2 0 ((((f 3) * (sd 10)) * (f 5)) / 10000)) 5) - (sd 14)) then ((mvF f 2 0 ((((f 3) * (sd 10)) * (f 5)) / 10000)) 5) - (sd 14) else 0)))] := hD
  refine lv_aload_n hx hb dX4_pass_95 rfl (lv_at hl 0 rfl) ?_
  refine lv_aload_n hx hb dX4_pass_96 rfl (lv_at hl 1 rfl) ?_
  refine he_cv (wc := [(oX4 h0 q0 q1 mo), (aI g q0 24 (upd (mvF f 2 0 ((((f 3) * (sd 10)) * (f 5)) / 10000)) 5 (if 0 < (((mvF f 2 0 ((((f 3) * (sd 10)) * (f 5)) / 10000)) 5) - (sd 14)) then ((mvF f 2 0 ((((f 3) * (sd 10)) * (f 5)) / 10000)) 5) - (sd 14) else 0))), (oX6 p0 p1 p2 p3 p4 (nI w)), (aI g p1 24 sd), (aI g p3 6 st), (aI g p4 6 me)]) (wr := [(aI g q1 6 (flF (fun _ => 0) sh 6))]) (va_runV (As := [.ref p0]) (rest := []) ⟨hx, hb, hml, hown, hts⟩ (c_X4_mend l g h0 q0 q1 mo (upd (mvF f 2 0 ((((f 3) * (sd 10)) * (f 5)) / 10000)) 5 (if 0 < (((mvF f 2 0 ((((f 3) * (sd 10)) * (f 5)) / 10000)) 5) - (sd 14)) then ((mvF f 2 0 ((((f 3) * (sd 10)) * (f 5)) / 10000)) 5) - (sd 14) else 0)) p0 p1 p2 p3 p4 w sd st me (by first | assumption | decide | omega) H.size) (cwV 1 hts gX4_pass_X4_mend rfl rfl rfl (by decide +kernel) ⟨Nat.le_of_ble_eq_true rfl, Nat.le_of_ble_eq_true rfl⟩) (he_preV (wc := [(oX4 h0 q0 q1 mo), (aI g q0 24 (upd (mvF f 2 0 ((((f 3) * (sd 10)) * (f 5)) / 10000)) 5 (if 0 < (((mvF f 2 0 ((((f 3) * (sd 10)) * (f 5)) / 10000)) 5) - (sd 14)) then ((mvF f 2 0 ((((f 3) * (sd 10)) * (f 5)) / 10000)) 5) - (sd 14) else 0))), (oX6 p0 p1 p2 p3 p4 (nI w)), (aI g p1 24 sd), (aI g p3 6 st), (aI g p4 6 me)]) hK hP hD hS hA hE [5, 6, 0, 1, 2, 3] rfl rfl 5 rfl rfl) rfl rfl hl.1 rfl (lv_room (Nat.le_of_ble_eq_true rfl)) dX4_pass_97 ⟨(Nat.le_of_ble_eq_true rfl), (Nat.le_of_ble_eq_true rfl)⟩) hP hD hS hA [5, 6, 0, 1, 2, 3] [4] rfl rfl rfl (by decide) (fun u_8 H locs h_9 hP hD hS => ?_)
  have hP : va_P g.1 vwCl [(aI g q1 6 (flF (fun _ => 0) sh 6)), (oX4 h0 q0 q1 mo), (aI g q0 24 (mendF sd st me (upd (mvF f 2 0 ((((f 3) * (sd 10)) * (f 5)) / 10000)) 5 (if 0 < (((mvF f 2 0 ((((f 3) * (sd 10)) * (f 5)) / 10000)) 5) - (sd 14)) then ((mvF f 2 0 ((((f 3) * (sd 10)) * (f 5)) / 10000)) 5) - (sd 14) else 0)) w)), (oX6 p0 p1 p2 p3 p4 (nI w)), (aI g p1 24 sd), (aI g p3 6 st), (aI g p4 6 me)] H := hP
  have hD : va_D A [(aI g q1 6 (flF (fun _ => 0) sh 6)), (oX4 h0 q0 q1 mo), (aI g q0 24 (mendF sd st me (upd (mvF f 2 0 ((((f 3) * (sd 10)) * (f 5)) / 10000)) 5 (if 0 < (((mvF f 2 0 ((((f 3) * (sd 10)) * (f 5)) / 10000)) 5) - (sd 14)) then ((mvF f 2 0 ((((f 3) * (sd 10)) * (f 5)) / 10000)) 5) - (sd 14) else 0)) w)), (oX6 p0 p1 p2 p3 p4 (nI w)), (aI g p1 24 sd), (aI g p3 6 st), (aI g p4 6 me)] := hD
  refine lv_aload_n hx hb dX4_pass_100 rfl (lv_at hl 0 rfl) ?_
  refine lv_iconst (v := 0) hx hb dX4_pass_101 (by decide) ?_
  refine lv_iconst (v := 2) hx hb dX4_pass_102 (by decide) ?_
  refine lv_aload_n hx hb dX4_pass_103 rfl (lv_at hl 1 rfl) ?_
  refine va_get (v := .ref p1) (T := TX6) (N := 5) hx hb hts inX6 hown hK hP 3 rfl rfl 0 (by decide) f28 (fun _ h9 => h9) rfl dX4_pass_104 ?_
  refine lv_iconst (v := 5) hx hb dX4_pass_107 (by decide) ?_
  refine he_iald hx hb hK hP 4 rfl (5) (by decide) (by decide) (by first | decide | assumption) (sd 5) rfl dX4_pass_108 ?_
  refine lv_aload_n hx hb dX4_pass_109 rfl (lv_at hl 0 rfl) ?_
  refine va_get (v := .ref q0) (T := TX4) (N := 3) hx hb hts inX4 hown hK hP 1 rfl rfl 0 (by decide) f9 (fun _ h9 => h9) rfl dX4_pass_110 ?_
  refine lv_iconst (v := 3) hx hb dX4_pass_113 (by decide) ?_
  refine he_iald hx hb hK hP 2 rfl (3) (by decide) (by decide) (by first | decide | assumption) ((mendF sd st me (upd (mvF f 2 0 ((((f 3) * (sd 10)) * (f 5)) / 10000)) 5 (if 0 < (((mvF f 2 0 ((((f 3) * (sd 10)) * (f 5)) / 10000)) 5) - (sd 14)) then ((mvF f 2 0 ((((f 3) * (sd 10)) * (f 5)) / 10000)) 5) - (sd 14) else 0)) w) 3) rfl dX4_pass_114 ?_
  refine lv_bipush (v := 10) hx hb dX4_pass_115 (by decide) ?_
  refine lv_idiv hx hb dX4_pass_117 (by decide) ?_
  refine lv_imul hx hb dX4_pass_118 ?_
  refine he_cv (wc := [(oX4 h0 q0 q1 mo), (aI g q0 24 (mendF sd st me (upd (mvF f 2 0 ((((f 3) * (sd 10)) * (f 5)) / 10000)) 5 (if 0 < (((mvF f 2 0 ((((f 3) * (sd 10)) * (f 5)) / 10000)) 5) - (sd 14)) then ((mvF f 2 0 ((((f 3) * (sd 10)) * (f 5)) / 10000)) 5) - (sd 14) else 0)) w))]) (wr := [(aI g q1 6 (flF (fun _ => 0) sh 6)), (oX6 p0 p1 p2 p3 p4 (nI w)), (aI g p1 24 sd), (aI g p3 6 st), (aI g p4 6 me)]) (va_runV (As := [.int 0, .int 2, .int ((sd 5) * (((mendF sd st me (upd (mvF f 2 0 ((((f 3) * (sd 10)) * (f 5)) / 10000)) 5 (if 0 < (((mvF f 2 0 ((((f 3) * (sd 10)) * (f 5)) / 10000)) 5) - (sd 14)) then ((mvF f 2 0 ((((f 3) * (sd 10)) * (f 5)) / 10000)) 5) - (sd 14) else 0)) w) 3) / 10))]) (rest := []) ⟨hx, hb, hml, hown, hts⟩ (c_X4_move l g h0 q0 q1 mo (mendF sd st me (upd (mvF f 2 0 ((((f 3) * (sd 10)) * (f 5)) / 10000)) 5 (if 0 < (((mvF f 2 0 ((((f 3) * (sd 10)) * (f 5)) / 10000)) 5) - (sd 14)) then ((mvF f 2 0 ((((f 3) * (sd 10)) * (f 5)) / 10000)) 5) - (sd 14) else 0)) w) 0 2 ((sd 5) * (((mendF sd st me (upd (mvF f 2 0 ((((f 3) * (sd 10)) * (f 5)) / 10000)) 5 (if 0 < (((mvF f 2 0 ((((f 3) * (sd 10)) * (f 5)) / 10000)) 5) - (sd 14)) then ((mvF f 2 0 ((((f 3) * (sd 10)) * (f 5)) / 10000)) 5) - (sd 14) else 0)) w) 3) / 10)) (by first | assumption | decide | omega) (by first | assumption | decide | omega) H.size) (cwV 3 hts gX4_pass_X4_move rfl rfl rfl (by decide +kernel) ⟨Nat.le_of_ble_eq_true rfl, Nat.le_of_ble_eq_true rfl⟩) (he_preV (wc := [(oX4 h0 q0 q1 mo), (aI g q0 24 (mendF sd st me (upd (mvF f 2 0 ((((f 3) * (sd 10)) * (f 5)) / 10000)) 5 (if 0 < (((mvF f 2 0 ((((f 3) * (sd 10)) * (f 5)) / 10000)) 5) - (sd 14)) then ((mvF f 2 0 ((((f 3) * (sd 10)) * (f 5)) / 10000)) 5) - (sd 14) else 0)) w))]) hK hP hD hS hA hE [1, 2] rfl rfl 1 rfl rfl) rfl rfl hl.1 rfl (lv_room (Nat.le_of_ble_eq_true rfl)) dX4_pass_119 ⟨(Nat.le_of_ble_eq_true rfl), (Nat.le_of_ble_eq_true rfl)⟩) hP hD hS hA [1, 2] [0, 3, 4, 5, 6] rfl rfl rfl (by decide) (fun u_11 H locs h_12 hP hD hS => ?_)
  have hP : va_P g.1 vwCl [(aI g q1 6 (flF (fun _ => 0) sh 6)), (oX6 p0 p1 p2 p3 p4 (nI w)), (aI g p1 24 sd), (aI g p3 6 st), (aI g p4 6 me), (oX4 h0 q0 q1 mo), (aI g q0 24 (mvF (mendF sd st me (upd (mvF f 2 0 ((((f 3) * (sd 10)) * (f 5)) / 10000)) 5 (if 0 < (((mvF f 2 0 ((((f 3) * (sd 10)) * (f 5)) / 10000)) 5) - (sd 14)) then ((mvF f 2 0 ((((f 3) * (sd 10)) * (f 5)) / 10000)) 5) - (sd 14) else 0)) w) 0 2 ((sd 5) * (((mendF sd st me (upd (mvF f 2 0 ((((f 3) * (sd 10)) * (f 5)) / 10000)) 5 (if 0 < (((mvF f 2 0 ((((f 3) * (sd 10)) * (f 5)) / 10000)) 5) - (sd 14)) then ((mvF f 2 0 ((((f 3) * (sd 10)) * (f 5)) / 10000)) 5) - (sd 14) else 0)) w) 3) / 10))))] H := hP
  have hD : va_D A [(aI g q1 6 (flF (fun _ => 0) sh 6)), (oX6 p0 p1 p2 p3 p4 (nI w)), (aI g p1 24 sd), (aI g p3 6 st), (aI g p4 6 me), (oX4 h0 q0 q1 mo), (aI g q0 24 (mvF (mendF sd st me (upd (mvF f 2 0 ((((f 3) * (sd 10)) * (f 5)) / 10000)) 5 (if 0 < (((mvF f 2 0 ((((f 3) * (sd 10)) * (f 5)) / 10000)) 5) - (sd 14)) then ((mvF f 2 0 ((((f 3) * (sd 10)) * (f 5)) / 10000)) 5) - (sd 14) else 0)) w) 0 2 ((sd 5) * (((mendF sd st me (upd (mvF f 2 0 ((((f 3) * (sd 10)) * (f 5)) / 10000)) 5 (if 0 < (((mvF f 2 0 ((((f 3) * (sd 10)) * (f 5)) / 10000)) 5) - (sd 14)) then ((mvF f 2 0 ((((f 3) * (sd 10)) * (f 5)) / 10000)) 5) - (sd 14) else 0)) w) 3) / 10))))] := hD
  refine lv_aload_n hx hb dX4_pass_122 rfl (lv_at hl 0 rfl) ?_
  refine lv_iconst (v := 1) hx hb dX4_pass_123 (by decide) ?_
  refine lv_iconst (v := 2) hx hb dX4_pass_124 (by decide) ?_
  refine lv_aload_n hx hb dX4_pass_125 rfl (lv_at hl 1 rfl) ?_
  refine va_get (v := .ref p1) (T := TX6) (N := 5) hx hb hts inX6 hown hK hP 1 rfl rfl 0 (by decide) f28 (fun _ h9 => h9) rfl dX4_pass_126 ?_
  refine lv_bipush (v := 8) hx hb dX4_pass_129 (by decide) ?_
  refine he_iald hx hb hK hP 2 rfl (8) (by decide) (by decide) (by first | decide | assumption) (sd 8) rfl dX4_pass_131 ?_
  refine lv_aload_n hx hb dX4_pass_132 rfl (lv_at hl 0 rfl) ?_
  refine va_get (v := .ref q0) (T := TX4) (N := 3) hx hb hts inX4 hown hK hP 5 rfl rfl 0 (by decide) f9 (fun _ h9 => h9) rfl dX4_pass_133 ?_
  refine lv_iconst (v := 4) hx hb dX4_pass_136 (by decide) ?_
  refine he_iald hx hb hK hP 6 rfl (4) (by decide) (by decide) (by first | decide | assumption) ((mvF (mendF sd st me (upd (mvF f 2 0 ((((f 3) * (sd 10)) * (f 5)) / 10000)) 5 (if 0 < (((mvF f 2 0 ((((f 3) * (sd 10)) * (f 5)) / 10000)) 5) - (sd 14)) then ((mvF f 2 0 ((((f 3) * (sd 10)) * (f 5)) / 10000)) 5) - (sd 14) else 0)) w) 0 2 ((sd 5) * (((mendF sd st me (upd (mvF f 2 0 ((((f 3) * (sd 10)) * (f 5)) / 10000)) 5 (if 0 < (((mvF f 2 0 ((((f 3) * (sd 10)) * (f 5)) / 10000)) 5) - (sd 14)) then ((mvF f 2 0 ((((f 3) * (sd 10)) * (f 5)) / 10000)) 5) - (sd 14) else 0)) w) 3) / 10))) 4) rfl dX4_pass_137 ?_
  refine lv_bipush (v := 10) hx hb dX4_pass_138 (by decide) ?_
  refine lv_idiv hx hb dX4_pass_140 (by decide) ?_
  refine lv_imul hx hb dX4_pass_141 ?_
  refine he_cv (wc := [(oX4 h0 q0 q1 mo), (aI g q0 24 (mvF (mendF sd st me (upd (mvF f 2 0 ((((f 3) * (sd 10)) * (f 5)) / 10000)) 5 (if 0 < (((mvF f 2 0 ((((f 3) * (sd 10)) * (f 5)) / 10000)) 5) - (sd 14)) then ((mvF f 2 0 ((((f 3) * (sd 10)) * (f 5)) / 10000)) 5) - (sd 14) else 0)) w) 0 2 ((sd 5) * (((mendF sd st me (upd (mvF f 2 0 ((((f 3) * (sd 10)) * (f 5)) / 10000)) 5 (if 0 < (((mvF f 2 0 ((((f 3) * (sd 10)) * (f 5)) / 10000)) 5) - (sd 14)) then ((mvF f 2 0 ((((f 3) * (sd 10)) * (f 5)) / 10000)) 5) - (sd 14) else 0)) w) 3) / 10))))]) (wr := [(aI g q1 6 (flF (fun _ => 0) sh 6)), (oX6 p0 p1 p2 p3 p4 (nI w)), (aI g p1 24 sd), (aI g p3 6 st), (aI g p4 6 me)]) (va_runV (As := [.int 1, .int 2, .int ((sd 8) * (((mvF (mendF sd st me (upd (mvF f 2 0 ((((f 3) * (sd 10)) * (f 5)) / 10000)) 5 (if 0 < (((mvF f 2 0 ((((f 3) * (sd 10)) * (f 5)) / 10000)) 5) - (sd 14)) then ((mvF f 2 0 ((((f 3) * (sd 10)) * (f 5)) / 10000)) 5) - (sd 14) else 0)) w) 0 2 ((sd 5) * (((mendF sd st me (upd (mvF f 2 0 ((((f 3) * (sd 10)) * (f 5)) / 10000)) 5 (if 0 < (((mvF f 2 0 ((((f 3) * (sd 10)) * (f 5)) / 10000)) 5) - (sd 14)) then ((mvF f 2 0 ((((f 3) * (sd 10)) * (f 5)) / 10000)) 5) - (sd 14) else 0)) w) 3) / 10))) 4) / 10))]) (rest := []) ⟨hx, hb, hml, hown, hts⟩ (c_X4_move l g h0 q0 q1 mo (mvF (mendF sd st me (upd (mvF f 2 0 ((((f 3) * (sd 10)) * (f 5)) / 10000)) 5 (if 0 < (((mvF f 2 0 ((((f 3) * (sd 10)) * (f 5)) / 10000)) 5) - (sd 14)) then ((mvF f 2 0 ((((f 3) * (sd 10)) * (f 5)) / 10000)) 5) - (sd 14) else 0)) w) 0 2 ((sd 5) * (((mendF sd st me (upd (mvF f 2 0 ((((f 3) * (sd 10)) * (f 5)) / 10000)) 5 (if 0 < (((mvF f 2 0 ((((f 3) * (sd 10)) * (f 5)) / 10000)) 5) - (sd 14)) then ((mvF f 2 0 ((((f 3) * (sd 10)) * (f 5)) / 10000)) 5) - (sd 14) else 0)) w) 3) / 10))) 1 2 ((sd 8) * (((mvF (mendF sd st me (upd (mvF f 2 0 ((((f 3) * (sd 10)) * (f 5)) / 10000)) 5 (if 0 < (((mvF f 2 0 ((((f 3) * (sd 10)) * (f 5)) / 10000)) 5) - (sd 14)) then ((mvF f 2 0 ((((f 3) * (sd 10)) * (f 5)) / 10000)) 5) - (sd 14) else 0)) w) 0 2 ((sd 5) * (((mendF sd st me (upd (mvF f 2 0 ((((f 3) * (sd 10)) * (f 5)) / 10000)) 5 (if 0 < (((mvF f 2 0 ((((f 3) * (sd 10)) * (f 5)) / 10000)) 5) - (sd 14)) then ((mvF f 2 0 ((((f 3) * (sd 10)) * (f 5)) / 10000)) 5) - (sd 14) else 0)) w) 3) / 10))) 4) / 10)) (by first | assumption | decide | omega) (by first | assumption | decide | omega) H.size) (cwV 3 hts gX4_pass_X4_move rfl rfl rfl (by decide +kernel) ⟨Nat.le_of_ble_eq_true rfl, Nat.le_of_ble_eq_true rfl⟩) (he_preV (wc := [(oX4 h0 q0 q1 mo), (aI g q0 24 (mvF (mendF sd st me (upd (mvF f 2 0 ((((f 3) * (sd 10)) * (f 5)) / 10000)) 5 (if 0 < (((mvF f 2 0 ((((f 3) * (sd 10)) * (f 5)) / 10000)) 5) - (sd 14)) then ((mvF f 2 0 ((((f 3) * (sd 10)) * (f 5)) / 10000)) 5) - (sd 14) else 0)) w) 0 2 ((sd 5) * (((mendF sd st me (upd (mvF f 2 0 ((((f 3) * (sd 10)) * (f 5)) / 10000)) 5 (if 0 < (((mvF f 2 0 ((((f 3) * (sd 10)) * (f 5)) / 10000)) 5) - (sd 14)) then ((mvF f 2 0 ((((f 3) * (sd 10)) * (f 5)) / 10000)) 5) - (sd 14) else 0)) w) 3) / 10))))]) hK hP hD hS hA hE [5, 6] rfl rfl 5 rfl rfl) rfl rfl hl.1 rfl (lv_room (Nat.le_of_ble_eq_true rfl)) dX4_pass_142 ⟨(Nat.le_of_ble_eq_true rfl), (Nat.le_of_ble_eq_true rfl)⟩) hP hD hS hA [5, 6] [0, 1, 2, 3, 4] rfl rfl rfl (by decide) (fun u_14 H locs h_15 hP hD hS => ?_)
  have hP : va_P g.1 vwCl [(aI g q1 6 (flF (fun _ => 0) sh 6)), (oX6 p0 p1 p2 p3 p4 (nI w)), (aI g p1 24 sd), (aI g p3 6 st), (aI g p4 6 me), (oX4 h0 q0 q1 mo), (aI g q0 24 (mvF (mvF (mendF sd st me (upd (mvF f 2 0 ((((f 3) * (sd 10)) * (f 5)) / 10000)) 5 (if 0 < (((mvF f 2 0 ((((f 3) * (sd 10)) * (f 5)) / 10000)) 5) - (sd 14)) then ((mvF f 2 0 ((((f 3) * (sd 10)) * (f 5)) / 10000)) 5) - (sd 14) else 0)) w) 0 2 ((sd 5) * (((mendF sd st me (upd (mvF f 2 0 ((((f 3) * (sd 10)) * (f 5)) / 10000)) 5 (if 0 < (((mvF f 2 0 ((((f 3) * (sd 10)) * (f 5)) / 10000)) 5) - (sd 14)) then ((mvF f 2 0 ((((f 3) * (sd 10)) * (f 5)) / 10000)) 5) - (sd 14) else 0)) w) 3) / 10))) 1 2 ((sd 8) * (((mvF (mendF sd st me (upd (mvF f 2 0 ((((f 3) * (sd 10)) * (f 5)) / 10000)) 5 (if 0 < (((mvF f 2 0 ((((f 3) * (sd 10)) * (f 5)) / 10000)) 5) - (sd 14)) then ((mvF f 2 0 ((((f 3) * (sd 10)) * (f 5)) / 10000)) 5) - (sd 14) else 0)) w) 0 2 ((sd 5) * (((mendF sd st me (upd (mvF f 2 0 ((((f 3) * (sd 10)) * (f 5)) / 10000)) 5 (if 0 < (((mvF f 2 0 ((((f 3) * (sd 10)) * (f 5)) / 10000)) 5) - (sd 14)) then ((mvF f 2 0 ((((f 3) * (sd 10)) * (f 5)) / 10000)) 5) - (sd 14) else 0)) w) 3) / 10))) 4) / 10))))] H := hP
  have hD : va_D A [(aI g q1 6 (flF (fun _ => 0) sh 6)), (oX6 p0 p1 p2 p3 p4 (nI w)), (aI g p1 24 sd), (aI g p3 6 st), (aI g p4 6 me), (oX4 h0 q0 q1 mo), (aI g q0 24 (mvF (mvF (mendF sd st me (upd (mvF f 2 0 ((((f 3) * (sd 10)) * (f 5)) / 10000)) 5 (if 0 < (((mvF f 2 0 ((((f 3) * (sd 10)) * (f 5)) / 10000)) 5) - (sd 14)) then ((mvF f 2 0 ((((f 3) * (sd 10)) * (f 5)) / 10000)) 5) - (sd 14) else 0)) w) 0 2 ((sd 5) * (((mendF sd st me (upd (mvF f 2 0 ((((f 3) * (sd 10)) * (f 5)) / 10000)) 5 (if 0 < (((mvF f 2 0 ((((f 3) * (sd 10)) * (f 5)) / 10000)) 5) - (sd 14)) then ((mvF f 2 0 ((((f 3) * (sd 10)) * (f 5)) / 10000)) 5) - (sd 14) else 0)) w) 3) / 10))) 1 2 ((sd 8) * (((mvF (mendF sd st me (upd (mvF f 2 0 ((((f 3) * (sd 10)) * (f 5)) / 10000)) 5 (if 0 < (((mvF f 2 0 ((((f 3) * (sd 10)) * (f 5)) / 10000)) 5) - (sd 14)) then ((mvF f 2 0 ((((f 3) * (sd 10)) * (f 5)) / 10000)) 5) - (sd 14) else 0)) w) 0 2 ((sd 5) * (((mendF sd st me (upd (mvF f 2 0 ((((f 3) * (sd 10)) * (f 5)) / 10000)) 5 (if 0 < (((mvF f 2 0 ((((f 3) * (sd 10)) * (f 5)) / 10000)) 5) - (sd 14)) then ((mvF f 2 0 ((((f 3) * (sd 10)) * (f 5)) / 10000)) 5) - (sd 14) else 0)) w) 3) / 10))) 4) / 10))))] := hD
  refine lv_aload_n hx hb dX4_pass_145 rfl (lv_at hl 0 rfl) ?_
  refine lv_aload_n hx hb dX4_pass_146 rfl (lv_at hl 1 rfl) ?_
  refine va_get (v := .ref p1) (T := TX6) (N := 5) hx hb hts inX6 hown hK hP 1 rfl rfl 0 (by decide) f28 (fun _ h9 => h9) rfl dX4_pass_147 ?_
  refine lv_bipush (v := 8) hx hb dX4_pass_150 (by decide) ?_
  refine he_iald hx hb hK hP 2 rfl (8) (by decide) (by decide) (by first | decide | assumption) (sd 8) rfl dX4_pass_152 ?_
  refine lv_aload_n hx hb dX4_pass_153 rfl (lv_at hl 1 rfl) ?_
  refine va_get (v := .ref p1) (T := TX6) (N := 5) hx hb hts inX6 hown hK hP 1 rfl rfl 0 (by decide) f28 (fun _ h9 => h9) rfl dX4_pass_154 ?_
  refine lv_iconst (v := 5) hx hb dX4_pass_157 (by decide) ?_
  refine he_iald hx hb hK hP 2 rfl (5) (by decide) (by decide) (by first | decide | assumption) (sd 5) rfl dX4_pass_158 ?_
  refine lv_isub hx hb dX4_pass_159 ?_
  refine he_cv (wc := [(oX4 h0 q0 q1 mo), (aI g q0 24 (mvF (mvF (mendF sd st me (upd (mvF f 2 0 ((((f 3) * (sd 10)) * (f 5)) / 10000)) 5 (if 0 < (((mvF f 2 0 ((((f 3) * (sd 10)) * (f 5)) / 10000)) 5) - (sd 14)) then ((mvF f 2 0 ((((f 3) * (sd 10)) * (f 5)) / 10000)) 5) - (sd 14) else 0)) w) 0 2 ((sd 5) * (((mendF sd st me (upd (mvF f 2 0 ((((f 3) * (sd 10)) * (f 5)) / 10000)) 5 (if 0 < (((mvF f 2 0 ((((f 3) * (sd 10)) * (f 5)) / 10000)) 5) - (sd 14)) then ((mvF f 2 0 ((((f 3) * (sd 10)) * (f 5)) / 10000)) 5) - (sd 14) else 0)) w) 3) / 10))) 1 2 ((sd 8) * (((mvF (mendF sd st me (upd (mvF f 2 0 ((((f 3) * (sd 10)) * (f 5)) / 10000)) 5 (if 0 < (((mvF f 2 0 ((((f 3) * (sd 10)) * (f 5)) / 10000)) 5) - (sd 14)) then ((mvF f 2 0 ((((f 3) * (sd 10)) * (f 5)) / 10000)) 5) - (sd 14) else 0)) w) 0 2 ((sd 5) * (((mendF sd st me (upd (mvF f 2 0 ((((f 3) * (sd 10)) * (f 5)) / 10000)) 5 (if 0 < (((mvF f 2 0 ((((f 3) * (sd 10)) * (f 5)) / 10000)) 5) - (sd 14)) then ((mvF f 2 0 ((((f 3) * (sd 10)) * (f 5)) / 10000)) 5) - (sd 14) else 0)) w) 3) / 10))) 4) / 10))))]) (wr := [(aI g q1 6 (flF (fun _ => 0) sh 6)), (oX6 p0 p1 p2 p3 p4 (nI w)), (aI g p1 24 sd), (aI g p3 6 st), (aI g p4 6 me)]) (va_runV (As := [.int ((sd 8) - (sd 5))]) (rest := []) ⟨hx, hb, hml, hown, hts⟩ (c_X4_desert l g h0 q0 q1 mo (mvF (mvF (mendF sd st me (upd (mvF f 2 0 ((((f 3) * (sd 10)) * (f 5)) / 10000)) 5 (if 0 < (((mvF f 2 0 ((((f 3) * (sd 10)) * (f 5)) / 10000)) 5) - (sd 14)) then ((mvF f 2 0 ((((f 3) * (sd 10)) * (f 5)) / 10000)) 5) - (sd 14) else 0)) w) 0 2 ((sd 5) * (((mendF sd st me (upd (mvF f 2 0 ((((f 3) * (sd 10)) * (f 5)) / 10000)) 5 (if 0 < (((mvF f 2 0 ((((f 3) * (sd 10)) * (f 5)) / 10000)) 5) - (sd 14)) then ((mvF f 2 0 ((((f 3) * (sd 10)) * (f 5)) / 10000)) 5) - (sd 14) else 0)) w) 3) / 10))) 1 2 ((sd 8) * (((mvF (mendF sd st me (upd (mvF f 2 0 ((((f 3) * (sd 10)) * (f 5)) / 10000)) 5 (if 0 < (((mvF f 2 0 ((((f 3) * (sd 10)) * (f 5)) / 10000)) 5) - (sd 14)) then ((mvF f 2 0 ((((f 3) * (sd 10)) * (f 5)) / 10000)) 5) - (sd 14) else 0)) w) 0 2 ((sd 5) * (((mendF sd st me (upd (mvF f 2 0 ((((f 3) * (sd 10)) * (f 5)) / 10000)) 5 (if 0 < (((mvF f 2 0 ((((f 3) * (sd 10)) * (f 5)) / 10000)) 5) - (sd 14)) then ((mvF f 2 0 ((((f 3) * (sd 10)) * (f 5)) / 10000)) 5) - (sd 14) else 0)) w) 3) / 10))) 4) / 10))) ((sd 8) - (sd 5)) H.size) (cwV 1 hts gX4_pass_X4_desert rfl rfl rfl (by decide +kernel) ⟨Nat.le_of_ble_eq_true rfl, Nat.le_of_ble_eq_true rfl⟩) (he_preV (wc := [(oX4 h0 q0 q1 mo), (aI g q0 24 (mvF (mvF (mendF sd st me (upd (mvF f 2 0 ((((f 3) * (sd 10)) * (f 5)) / 10000)) 5 (if 0 < (((mvF f 2 0 ((((f 3) * (sd 10)) * (f 5)) / 10000)) 5) - (sd 14)) then ((mvF f 2 0 ((((f 3) * (sd 10)) * (f 5)) / 10000)) 5) - (sd 14) else 0)) w) 0 2 ((sd 5) * (((mendF sd st me (upd (mvF f 2 0 ((((f 3) * (sd 10)) * (f 5)) / 10000)) 5 (if 0 < (((mvF f 2 0 ((((f 3) * (sd 10)) * (f 5)) / 10000)) 5) - (sd 14)) then ((mvF f 2 0 ((((f 3) * (sd 10)) * (f 5)) / 10000)) 5) - (sd 14) else 0)) w) 3) / 10))) 1 2 ((sd 8) * (((mvF (mendF sd st me (upd (mvF f 2 0 ((((f 3) * (sd 10)) * (f 5)) / 10000)) 5 (if 0 < (((mvF f 2 0 ((((f 3) * (sd 10)) * (f 5)) / 10000)) 5) - (sd 14)) then ((mvF f 2 0 ((((f 3) * (sd 10)) * (f 5)) / 10000)) 5) - (sd 14) else 0)) w) 0 2 ((sd 5) * (((mendF sd st me (upd (mvF f 2 0 ((((f 3) * (sd 10)) * (f 5)) / 10000)) 5 (if 0 < (((mvF f 2 0 ((((f 3) * (sd 10)) * (f 5)) / 10000)) 5) - (sd 14)) then ((mvF f 2 0 ((((f 3) * (sd 10)) * (f 5)) / 10000)) 5) - (sd 14) else 0)) w) 3) / 10))) 4) / 10))))]) hK hP hD hS hA hE [5, 6] rfl rfl 5 rfl rfl) rfl rfl hl.1 rfl (lv_room (Nat.le_of_ble_eq_true rfl)) dX4_pass_160 ⟨(Nat.le_of_ble_eq_true rfl), (Nat.le_of_ble_eq_true rfl)⟩) hP hD hS hA [5, 6] [0, 1, 2, 3, 4] rfl rfl rfl (by decide) (fun u_17 H locs h_18 hP hD hS => ?_)
  have hP : va_P g.1 vwCl [(aI g q1 6 (flF (fun _ => 0) sh 6)), (oX6 p0 p1 p2 p3 p4 (nI w)), (aI g p1 24 sd), (aI g p3 6 st), (aI g p4 6 me), (oX4 h0 q0 q1 mo), (aI g q0 24 (dsF (mvF (mvF (mendF sd st me (upd (mvF f 2 0 ((((f 3) * (sd 10)) * (f 5)) / 10000)) 5 (if 0 < (((mvF f 2 0 ((((f 3) * (sd 10)) * (f 5)) / 10000)) 5) - (sd 14)) then ((mvF f 2 0 ((((f 3) * (sd 10)) * (f 5)) / 10000)) 5) - (sd 14) else 0)) w) 0 2 ((sd 5) * (((mendF sd st me (upd (mvF f 2 0 ((((f 3) * (sd 10)) * (f 5)) / 10000)) 5 (if 0 < (((mvF f 2 0 ((((f 3) * (sd 10)) * (f 5)) / 10000)) 5) - (sd 14)) then ((mvF f 2 0 ((((f 3) * (sd 10)) * (f 5)) / 10000)) 5) - (sd 14) else 0)) w) 3) / 10))) 1 2 ((sd 8) * (((mvF (mendF sd st me (upd (mvF f 2 0 ((((f 3) * (sd 10)) * (f 5)) / 10000)) 5 (if 0 < (((mvF f 2 0 ((((f 3) * (sd 10)) * (f 5)) / 10000)) 5) - (sd 14)) then ((mvF f 2 0 ((((f 3) * (sd 10)) * (f 5)) / 10000)) 5) - (sd 14) else 0)) w) 0 2 ((sd 5) * (((mendF sd st me (upd (mvF f 2 0 ((((f 3) * (sd 10)) * (f 5)) / 10000)) 5 (if 0 < (((mvF f 2 0 ((((f 3) * (sd 10)) * (f 5)) / 10000)) 5) - (sd 14)) then ((mvF f 2 0 ((((f 3) * (sd 10)) * (f 5)) / 10000)) 5) - (sd 14) else 0)) w) 3) / 10))) 4) / 10))) ((sd 8) - (sd 5))))] H := hP
  have hD : va_D A [(aI g q1 6 (flF (fun _ => 0) sh 6)), (oX6 p0 p1 p2 p3 p4 (nI w)), (aI g p1 24 sd), (aI g p3 6 st), (aI g p4 6 me), (oX4 h0 q0 q1 mo), (aI g q0 24 (dsF (mvF (mvF (mendF sd st me (upd (mvF f 2 0 ((((f 3) * (sd 10)) * (f 5)) / 10000)) 5 (if 0 < (((mvF f 2 0 ((((f 3) * (sd 10)) * (f 5)) / 10000)) 5) - (sd 14)) then ((mvF f 2 0 ((((f 3) * (sd 10)) * (f 5)) / 10000)) 5) - (sd 14) else 0)) w) 0 2 ((sd 5) * (((mendF sd st me (upd (mvF f 2 0 ((((f 3) * (sd 10)) * (f 5)) / 10000)) 5 (if 0 < (((mvF f 2 0 ((((f 3) * (sd 10)) * (f 5)) / 10000)) 5) - (sd 14)) then ((mvF f 2 0 ((((f 3) * (sd 10)) * (f 5)) / 10000)) 5) - (sd 14) else 0)) w) 3) / 10))) 1 2 ((sd 8) * (((mvF (mendF sd st me (upd (mvF f 2 0 ((((f 3) * (sd 10)) * (f 5)) / 10000)) 5 (if 0 < (((mvF f 2 0 ((((f 3) * (sd 10)) * (f 5)) / 10000)) 5) - (sd 14)) then ((mvF f 2 0 ((((f 3) * (sd 10)) * (f 5)) / 10000)) 5) - (sd 14) else 0)) w) 0 2 ((sd 5) * (((mendF sd st me (upd (mvF f 2 0 ((((f 3) * (sd 10)) * (f 5)) / 10000)) 5 (if 0 < (((mvF f 2 0 ((((f 3) * (sd 10)) * (f 5)) / 10000)) 5) - (sd 14)) then ((mvF f 2 0 ((((f 3) * (sd 10)) * (f 5)) / 10000)) 5) - (sd 14) else 0)) w) 3) / 10))) 4) / 10))) ((sd 8) - (sd 5))))] := hD
  refine lv_aload_n hx hb dX4_pass_163 rfl (lv_at hl 0 rfl) ?_
  refine lv_dup hx hb dX4_pass_164 rfl ?_
  refine va_get (v := .int mo) (T := TX4) (N := 3) hx hb hts inX4 hown hK hP 5 rfl rfl 2 (by decide) f18 (fun _ h9 => h9) rfl dX4_pass_165 ?_
  refine lv_iconst (v := 1) hx hb dX4_pass_168 (by decide) ?_
  refine lv_iadd hx hb dX4_pass_169 ?_
  refine va_put (v := .int (mo + 1)) (ty := .int) (T := TX4) (N := 3) hx hb hts inX4 tyX4 tyX4_ok nmX4 hown hK hP hD hS 5 rfl rfl 2 (by decide) f18 (fun _ h9 => h9) rfl (by decide +kernel) rfl rfl (Nat.le_of_ble_eq_true rfl) dX4_pass_170 (fun H locs hP hD hS => ?_)
  have hP : va_P g.1 vwCl [(aI g q1 6 (flF (fun _ => 0) sh 6)), (oX6 p0 p1 p2 p3 p4 (nI w)), (aI g p1 24 sd), (aI g p3 6 st), (aI g p4 6 me), (oX4 h0 q0 q1 (mo + 1)), (aI g q0 24 (dsF (mvF (mvF (mendF sd st me (upd (mvF f 2 0 ((((f 3) * (sd 10)) * (f 5)) / 10000)) 5 (if 0 < (((mvF f 2 0 ((((f 3) * (sd 10)) * (f 5)) / 10000)) 5) - (sd 14)) then ((mvF f 2 0 ((((f 3) * (sd 10)) * (f 5)) / 10000)) 5) - (sd 14) else 0)) w) 0 2 ((sd 5) * (((mendF sd st me (upd (mvF f 2 0 ((((f 3) * (sd 10)) * (f 5)) / 10000)) 5 (if 0 < (((mvF f 2 0 ((((f 3) * (sd 10)) * (f 5)) / 10000)) 5) - (sd 14)) then ((mvF f 2 0 ((((f 3) * (sd 10)) * (f 5)) / 10000)) 5) - (sd 14) else 0)) w) 3) / 10))) 1 2 ((sd 8) * (((mvF (mendF sd st me (upd (mvF f 2 0 ((((f 3) * (sd 10)) * (f 5)) / 10000)) 5 (if 0 < (((mvF f 2 0 ((((f 3) * (sd 10)) * (f 5)) / 10000)) 5) - (sd 14)) then ((mvF f 2 0 ((((f 3) * (sd 10)) * (f 5)) / 10000)) 5) - (sd 14) else 0)) w) 0 2 ((sd 5) * (((mendF sd st me (upd (mvF f 2 0 ((((f 3) * (sd 10)) * (f 5)) / 10000)) 5 (if 0 < (((mvF f 2 0 ((((f 3) * (sd 10)) * (f 5)) / 10000)) 5) - (sd 14)) then ((mvF f 2 0 ((((f 3) * (sd 10)) * (f 5)) / 10000)) 5) - (sd 14) else 0)) w) 3) / 10))) 4) / 10))) ((sd 8) - (sd 5))))] H := hP
  have hD : va_D A [(aI g q1 6 (flF (fun _ => 0) sh 6)), (oX6 p0 p1 p2 p3 p4 (nI w)), (aI g p1 24 sd), (aI g p3 6 st), (aI g p4 6 me), (oX4 h0 q0 q1 (mo + 1)), (aI g q0 24 (dsF (mvF (mvF (mendF sd st me (upd (mvF f 2 0 ((((f 3) * (sd 10)) * (f 5)) / 10000)) 5 (if 0 < (((mvF f 2 0 ((((f 3) * (sd 10)) * (f 5)) / 10000)) 5) - (sd 14)) then ((mvF f 2 0 ((((f 3) * (sd 10)) * (f 5)) / 10000)) 5) - (sd 14) else 0)) w) 0 2 ((sd 5) * (((mendF sd st me (upd (mvF f 2 0 ((((f 3) * (sd 10)) * (f 5)) / 10000)) 5 (if 0 < (((mvF f 2 0 ((((f 3) * (sd 10)) * (f 5)) / 10000)) 5) - (sd 14)) then ((mvF f 2 0 ((((f 3) * (sd 10)) * (f 5)) / 10000)) 5) - (sd 14) else 0)) w) 3) / 10))) 1 2 ((sd 8) * (((mvF (mendF sd st me (upd (mvF f 2 0 ((((f 3) * (sd 10)) * (f 5)) / 10000)) 5 (if 0 < (((mvF f 2 0 ((((f 3) * (sd 10)) * (f 5)) / 10000)) 5) - (sd 14)) then ((mvF f 2 0 ((((f 3) * (sd 10)) * (f 5)) / 10000)) 5) - (sd 14) else 0)) w) 0 2 ((sd 5) * (((mendF sd st me (upd (mvF f 2 0 ((((f 3) * (sd 10)) * (f 5)) / 10000)) 5 (if 0 < (((mvF f 2 0 ((((f 3) * (sd 10)) * (f 5)) / 10000)) 5) - (sd 14)) then ((mvF f 2 0 ((((f 3) * (sd 10)) * (f 5)) / 10000)) 5) - (sd 14) else 0)) w) 3) / 10))) 4) / 10))) ((sd 8) - (sd 5))))] := hD
  refine lv_aload_nN hx hb dX4_pass_173 rfl (lv_at hl 2 rfl) ?_
  refine lv_ifnullN (tgt := 206) hx hb dX4_pass_174 (by decide) ?_
  have hP := hP.sub (ws' := [(oX4 h0 q0 q1 (mo + 1)), (aI g q0 24 (dsF (mvF (mvF (mendF sd st me (upd (mvF f 2 0 ((((f 3) * (sd 10)) * (f 5)) / 10000)) 5 (if 0 < (((mvF f 2 0 ((((f 3) * (sd 10)) * (f 5)) / 10000)) 5) - (sd 14)) then ((mvF f 2 0 ((((f 3) * (sd 10)) * (f 5)) / 10000)) 5) - (sd 14) else 0)) w) 0 2 ((sd 5) * (((mendF sd st me (upd (mvF f 2 0 ((((f 3) * (sd 10)) * (f 5)) / 10000)) 5 (if 0 < (((mvF f 2 0 ((((f 3) * (sd 10)) * (f 5)) / 10000)) 5) - (sd 14)) then ((mvF f 2 0 ((((f 3) * (sd 10)) * (f 5)) / 10000)) 5) - (sd 14) else 0)) w) 3) / 10))) 1 2 ((sd 8) * (((mvF (mendF sd st me (upd (mvF f 2 0 ((((f 3) * (sd 10)) * (f 5)) / 10000)) 5 (if 0 < (((mvF f 2 0 ((((f 3) * (sd 10)) * (f 5)) / 10000)) 5) - (sd 14)) then ((mvF f 2 0 ((((f 3) * (sd 10)) * (f 5)) / 10000)) 5) - (sd 14) else 0)) w) 0 2 ((sd 5) * (((mendF sd st me (upd (mvF f 2 0 ((((f 3) * (sd 10)) * (f 5)) / 10000)) 5 (if 0 < (((mvF f 2 0 ((((f 3) * (sd 10)) * (f 5)) / 10000)) 5) - (sd 14)) then ((mvF f 2 0 ((((f 3) * (sd 10)) * (f 5)) / 10000)) 5) - (sd 14) else 0)) w) 3) / 10))) 4) / 10))) ((sd 8) - (sd 5)))), (aI g q1 6 (flF (fun _ => 0) sh 6)), (oX6 p0 p1 p2 p3 p4 (nI w)), (aI g p1 24 sd), (aI g p3 6 st), (aI g p4 6 me)]) [5, 6, 0, 1, 2, 3, 4] rfl
  have hD := hD.sub (ws' := [(oX4 h0 q0 q1 (mo + 1)), (aI g q0 24 (dsF (mvF (mvF (mendF sd st me (upd (mvF f 2 0 ((((f 3) * (sd 10)) * (f 5)) / 10000)) 5 (if 0 < (((mvF f 2 0 ((((f 3) * (sd 10)) * (f 5)) / 10000)) 5) - (sd 14)) then ((mvF f 2 0 ((((f 3) * (sd 10)) * (f 5)) / 10000)) 5) - (sd 14) else 0)) w) 0 2 ((sd 5) * (((mendF sd st me (upd (mvF f 2 0 ((((f 3) * (sd 10)) * (f 5)) / 10000)) 5 (if 0 < (((mvF f 2 0 ((((f 3) * (sd 10)) * (f 5)) / 10000)) 5) - (sd 14)) then ((mvF f 2 0 ((((f 3) * (sd 10)) * (f 5)) / 10000)) 5) - (sd 14) else 0)) w) 3) / 10))) 1 2 ((sd 8) * (((mvF (mendF sd st me (upd (mvF f 2 0 ((((f 3) * (sd 10)) * (f 5)) / 10000)) 5 (if 0 < (((mvF f 2 0 ((((f 3) * (sd 10)) * (f 5)) / 10000)) 5) - (sd 14)) then ((mvF f 2 0 ((((f 3) * (sd 10)) * (f 5)) / 10000)) 5) - (sd 14) else 0)) w) 0 2 ((sd 5) * (((mendF sd st me (upd (mvF f 2 0 ((((f 3) * (sd 10)) * (f 5)) / 10000)) 5 (if 0 < (((mvF f 2 0 ((((f 3) * (sd 10)) * (f 5)) / 10000)) 5) - (sd 14)) then ((mvF f 2 0 ((((f 3) * (sd 10)) * (f 5)) / 10000)) 5) - (sd 14) else 0)) w) 3) / 10))) 4) / 10))) ((sd 8) - (sd 5)))), (aI g q1 6 (flF (fun _ => 0) sh 6)), (oX6 p0 p1 p2 p3 p4 (nI w)), (aI g p1 24 sd), (aI g p3 6 st), (aI g p4 6 me)]) [5, 6, 0, 1, 2, 3, 4] (by decide) rfl
  exact he_rv hQ hx hb hr hlk hP hD hS dX4_pass_206 (Nat.le_of_ble_eq_true rfl) (Nat.le_of_ble_eq_true rfl) ((dsF (mvF (mvF (mendF sd st me (upd (mvF f 2 0 ((((f 3) * (sd 10)) * (f 5)) / 10000)) 5 (if 0 < (((mvF f 2 0 ((((f 3) * (sd 10)) * (f 5)) / 10000)) 5) - (sd 14)) then ((mvF f 2 0 ((((f 3) * (sd 10)) * (f 5)) / 10000)) 5) - (sd 14) else 0)) w) 0 2 ((sd 5) * (((mendF sd st me (upd (mvF f 2 0 ((((f 3) * (sd 10)) * (f 5)) / 10000)) 5 (if 0 < (((mvF f 2 0 ((((f 3) * (sd 10)) * (f 5)) / 10000)) 5) - (sd 14)) then ((mvF f 2 0 ((((f 3) * (sd 10)) * (f 5)) / 10000)) 5) - (sd 14) else 0)) w) 3) / 10))) 1 2 ((sd 8) * (((mvF (mendF sd st me (upd (mvF f 2 0 ((((f 3) * (sd 10)) * (f 5)) / 10000)) 5 (if 0 < (((mvF f 2 0 ((((f 3) * (sd 10)) * (f 5)) / 10000)) 5) - (sd 14)) then ((mvF f 2 0 ((((f 3) * (sd 10)) * (f 5)) / 10000)) 5) - (sd 14) else 0)) w) 0 2 ((sd 5) * (((mendF sd st me (upd (mvF f 2 0 ((((f 3) * (sd 10)) * (f 5)) / 10000)) 5 (if 0 < (((mvF f 2 0 ((((f 3) * (sd 10)) * (f 5)) / 10000)) 5) - (sd 14)) then ((mvF f 2 0 ((((f 3) * (sd 10)) * (f 5)) / 10000)) 5) - (sd 14) else 0)) w) 3) / 10))) 4) / 10))) ((sd 8) - (sd 5)), flF (fun _ => 0) sh 6)) (rfl) ((by (try dsimp only); rw [dsF_n _ _ _ (by (try dsimp only); decide) (by (try dsimp only); decide), mvF_n _ _ _ _ _ (by (try dsimp only); decide) (by (try dsimp only); decide), mvF_n _ _ _ _ _ (by (try dsimp only); decide) (by (try dsimp only); decide), mendF_n _ _ _ _ _ (by (try dsimp only); decide) (by (try dsimp only); decide) (by (try dsimp only); decide), upd_n (by (try dsimp only); decide), mvF_n _ _ _ _ _ (by (try dsimp only); decide) (by (try dsimp only); decide)]))
set_option maxHeartbeats 4000000 in
set_option maxRecDepth 100000 in
theorem g_X3_through (l : Launch) (g : he_G) (e0 : Nat) (e1 : Nat) (e2 : Nat) (co : Nat → Int32) (re_ : Nat → Int32) (i : Nat) (j : Nat) (hi : i < 12) (hj : j < 3) : he_I l yX3_through wsX3_through 0 0 0 0 g [.ref e0, .int (nI i), .int (nI j)] [(oX3 e0 e1 e2), (aI g e1 36 co), (aI g e2 39 re_)] (fun (r : Int32) (u : Unit) => r = co (i * 3 + j) + re_ ((i + 1) * 3 + j)) (fun (u : Unit) => [(oX3 e0 e1 e2), (aI g e1 36 co), (aI g e2 39 re_)]) := by
  refine he_begin (l := l) (g := g) (y := yX3_through) (wl := wsX3_through) (fr := 0) (lo := 0) (mc := 0) (ms := 0) (av := [.ref e0, .int (nI i), .int (nI j)]) (ws := [(oX3 e0 e1 e2), (aI g e1 36 co), (aI g e2 39 re_)]) (cc := cX3_through) (maxL := 3) (ret := (some .int)) (fun A => va_Qi (fun (r : Int32) (u : Unit) => r = co (i * 3 + j) + re_ ((i + 1) * 3 + j)) (fun u t => he_post g A ((fun (u : Unit) => [(oX3 e0 e1 e2), (aI g e1 36 co), (aI g e2 39 re_)]) u) t) A) (by decide) rfl (Nat.le_of_ble_eq_true rfl) ?_
  intro p e s m args below meth c A ls H locs Q hQ hB
  obtain ⟨hx, hb, hr, hml, hown, hts, hlk, hin, hP, hK, hD, hS, hA, hE, hl⟩ := hB
  have hl : lv_has ls 3 [(0, .ref e0), (1, .int (nI i)), (2, .int (nI j))] := hl
  have f9 := hts (.fieldLink RX3 9 "HiredEnemy$Bids" "coins" "[I") (iwoX3_through (k := 0) rfl)
  have inX3 : ∀ w ∈ wsX30, w ∈ wsX3_through := innX3_through_X3
  have f13 := hts (.fieldLink RX3 13 "HiredEnemy$Bids" "rest" "[I") (iwoX3_through (k := 1) rfl)
  refine lv_aload_n hx hb dX3_through_0 rfl (lv_at hl 0 rfl) ?_
  refine va_get (v := .ref e1) (T := TX3) (N := 2) hx hb hts inX3 hown hK hP 0 rfl rfl 0 (by decide) f9 (fun _ h9 => h9) rfl dX3_through_1 ?_
  refine lv_iload_n hx hb dX3_through_4 rfl (lv_at hl 1 rfl) ?_
  refine lv_iconst (v := 3) hx hb dX3_through_5 (by decide) ?_
  refine lv_imul hx hb dX3_through_6 ?_
  refine he_top (nI (i * 3)) (pk_mul i 3) ?_
  refine lv_iload_n hx hb dX3_through_7 rfl (lv_at hl 2 rfl) ?_
  refine lv_iadd hx hb dX3_through_8 ?_
  refine he_top (nI (i * 3 + j)) (nI_add (i * 3) j) ?_
  refine he_iald hx hb hK hP 1 rfl (i * 3 + j) rfl (by first | assumption | decide | omega) (by first | decide | assumption) (co (i * 3 + j)) rfl dX3_through_9 ?_
  refine lv_aload_n hx hb dX3_through_10 rfl (lv_at hl 0 rfl) ?_
  refine va_get (v := .ref e2) (T := TX3) (N := 2) hx hb hts inX3 hown hK hP 0 rfl rfl 1 (by decide) f13 (fun _ h9 => h9) rfl dX3_through_11 ?_
  refine lv_iload_n hx hb dX3_through_14 rfl (lv_at hl 1 rfl) ?_
  refine lv_iconst (v := 1) hx hb dX3_through_15 (by decide) ?_
  refine lv_iadd hx hb dX3_through_16 ?_
  refine he_top (nI (i + 1)) (nI_add i 1) ?_
  refine lv_iconst (v := 3) hx hb dX3_through_17 (by decide) ?_
  refine lv_imul hx hb dX3_through_18 ?_
  refine he_top (nI ((i + 1) * 3)) (pk_mul (i + 1) 3) ?_
  refine lv_iload_n hx hb dX3_through_19 rfl (lv_at hl 2 rfl) ?_
  refine lv_iadd hx hb dX3_through_20 ?_
  refine he_top (nI ((i + 1) * 3 + j)) (nI_add ((i + 1) * 3) j) ?_
  refine he_iald hx hb hK hP 2 rfl ((i + 1) * 3 + j) rfl (by first | assumption | decide | omega) (by first | decide | assumption) (re_ ((i + 1) * 3 + j)) rfl dX3_through_21 ?_
  refine lv_iadd hx hb dX3_through_22 ?_
  exact he_ri hQ hx hb hr hlk hP hD hS dX3_through_23 (Nat.le_of_ble_eq_true rfl) (Nat.le_of_ble_eq_true rfl) (()) (rfl) (rfl)
set_option maxHeartbeats 4000000 in
set_option maxRecDepth 100000 in
theorem g_X3_mostFrom (l : Launch) (g : he_G) (e0 : Nat) (e1 : Nat) (e2 : Nat) (co : Nat → Int32) (re_ : Nat → Int32) (i : Nat) (j : Nat) (hi : i < 12) (hj : j < 3) : he_I l yX3_mostFrom wsX3_mostFrom 1 22 0 0 g [.ref e0, .int (nI i), .int (nI j)] [(oX3 e0 e1 e2), (aI g e1 36 co), (aI g e2 39 re_)] (fun (r : Int32) (u : Unit) => True) (fun (u : Unit) => [(oX3 e0 e1 e2), (aI g e1 36 co), (aI g e2 39 re_)]) := by
  refine he_begin (l := l) (g := g) (y := yX3_mostFrom) (wl := wsX3_mostFrom) (fr := 1) (lo := 22) (mc := 0) (ms := 0) (av := [.ref e0, .int (nI i), .int (nI j)]) (ws := [(oX3 e0 e1 e2), (aI g e1 36 co), (aI g e2 39 re_)]) (cc := cX3_mostFrom) (maxL := 5) (ret := (some .int)) (fun A => va_Qi (fun (r : Int32) (u : Unit) => True) (fun u t => he_post g A ((fun (u : Unit) => [(oX3 e0 e1 e2), (aI g e1 36 co), (aI g e2 39 re_)]) u) t) A) (by decide) rfl (Nat.le_of_ble_eq_true rfl) ?_
  intro p e s m args below meth c A ls H locs Q hQ hB
  obtain ⟨hx, hb, hr, hml, hown, hts, hlk, hin, hP, hK, hD, hS, hA, hE, hl⟩ := hB
  have hl : lv_has ls 5 [(0, .ref e0), (1, .int (nI i)), (2, .int (nI j))] := hl
  have ml33 := hts (.methodLink RX3 33 Lib.Math.max.name) (iwoX3_mostFrom (k := 0) rfl)
  have msmax := hts (.static Lib.Math.max.name) (iwoX3_mostFrom (k := 1) rfl)
  have mi := hts (.initialized "java/lang/Math") (iwoX3_mostFrom (k := 2) rfl)
  have mcmax := hts (.code Lib.Math.max.name Lib.Math.max.code 2 (some .int)) (iwoX3_mostFrom (k := 3) rfl)
  refine lv_iconst (v := 0) hx hb dX3_mostFrom_0 (by decide) ?_
  refine lv_istore_n (lv' := [(3, .int 0), (0, .ref e0), (1, .int (nI i)), (2, .int (nI j))]) hx hb dX3_mostFrom_1 rfl hl (by decide) rfl (fun ls hl => ?_)
  refine lv_iconst (v := 0) hx hb dX3_mostFrom_2 (by decide) ?_
  refine lv_istore (lv' := [(4, .int 0), (3, .int 0), (0, .ref e0), (1, .int (nI i)), (2, .int (nI j))]) hx hb dX3_mostFrom_3 hl (by decide) rfl (fun ls hl => ?_)
  have loop5 : ∀ (n9 : Nat) (k : Nat) (mx : Int32), 3 - k < n9 → (k ≤ 3) → ∀ (H : Heap) (locs : List Loc) (ls : Array Slot), va_P g.1 vwCl [(oX3 e0 e1 e2), (aI g e1 36 co), (aI g e2 39 re_)] H → va_D A [(oX3 e0 e1 e2), (aI g e1 36 co), (aI g e2 39 re_)] → va_S A s.heap H locs → lv_has ls 5 [(0, .ref e0), (1, .int (nI i)), (2, .int (nI j)), (3, .int mx), (4, .int (nI k))] → W p l e (he_room 1 22 0 0) s m args below meth c H locs 0 0 Q (F0 m 5 ls []) := by
    intro n9
    induction n9 with
    | zero => intro k mx hm9; exact absurd hm9 (Nat.not_lt_zero _)
    | succ n9 ih5 =>
      intro k mx hm9 hk H locs ls hP hD hS hl
      refine lv_iload hx hb dX3_mostFrom_5 (lv_at hl 4 rfl) ?_
      refine lv_iconst (v := 3) hx hb dX3_mostFrom_7 (by decide) ?_
      refine lv_icmp_ge (tgt := 38) hx hb dX3_mostFrom_8 (by decide) (fun c_1 => ?_) (fun c_1 => ?_)
      · have k_2 : 3 ≤ k := (he_cle (a := 3) (b := k) (by decide) rfl (by omega) (by omega)).mp c_1
        refine lv_iload_n hx hb dX3_mostFrom_38 rfl (lv_at hl 3 rfl) ?_
        exact he_ri hQ hx hb hr hlk hP hD hS dX3_mostFrom_39 (Nat.le_of_ble_eq_true rfl) (Nat.le_of_ble_eq_true rfl) (()) (rfl) (trivial)
      · have k_3 : ¬ (3 ≤ k) := fun h9 => c_1 ((he_cle (a := 3) (b := k) (by decide) rfl (by omega) (by omega)).mpr h9)
        refine lv_iload_n hx hb dX3_mostFrom_11 rfl (lv_at hl 2 rfl) ?_
        refine lv_iload hx hb dX3_mostFrom_12 (lv_at hl 4 rfl) ?_
        refine he_ci (wc := []) (wr := [(oX3 e0 e1 e2), (aI g e1 36 co), (aI g e2 39 re_)]) (va_runS (As := [.int (nI j), .int (nI k)]) (rest := []) ⟨hx, hb, hml, hown, hts⟩ (c_X3_mayFollow l g j k (by first | assumption | decide | omega) (by first | assumption | decide | omega) H.size) (va_cwS 2 hts gX3_mostFrom_X3_mayFollow rfl rfl rfl (by decide +kernel) ⟨Nat.le_of_ble_eq_true rfl, Nat.le_of_ble_eq_true rfl⟩) (he_preS (wc := []) hK hP hD hS hA hE [] rfl rfl) rfl rfl hl.1 rfl (lv_room (Nat.le_of_ble_eq_true rfl)) dX3_mostFrom_14 ⟨(Nat.le_of_ble_eq_true rfl), (Nat.le_of_ble_eq_true rfl)⟩) hP hD hS hA [] [0, 1, 2] rfl rfl rfl (by decide) (fun r_4 u_5 H locs h_6 hP hD hS => ?_)
        subst h_6
        have hP : va_P g.1 vwCl [(oX3 e0 e1 e2), (aI g e1 36 co), (aI g e2 39 re_)] H := hP
        have hD : va_D A [(oX3 e0 e1 e2), (aI g e1 36 co), (aI g e2 39 re_)] := hD
        refine lv_if_eq (tgt := 32) hx hb dX3_mostFrom_17 (by decide) (fun c_7 => ?_) (fun c_7 => ?_)
        · refine lv_iinc (v := nI (k + 1)) (lv' := [(4, .int (nI (k + 1))), (0, .ref e0), (1, .int (nI i)), (2, .int (nI j)), (3, .int mx)]) hx hb dX3_mostFrom_32 hl (k := 4) rfl (nI_1 k) (by decide) rfl (fun ls hl => ?_)
          refine lv_goto (tgt := 5) hx hb dX3_mostFrom_35 (by decide) ?_
          exact ih5 (k + 1) mx (by omega) (by omega) _ _ _ hP hD hS (lv_sub hl [1, 2, 3, 4, 0] rfl)
        · refine lv_iload_n hx hb dX3_mostFrom_20 rfl (lv_at hl 3 rfl) ?_
          refine lv_aload_n hx hb dX3_mostFrom_21 rfl (lv_at hl 0 rfl) ?_
          refine lv_iload_n hx hb dX3_mostFrom_22 rfl (lv_at hl 1 rfl) ?_
          refine lv_iload hx hb dX3_mostFrom_23 (lv_at hl 4 rfl) ?_
          refine he_ci (wc := [(oX3 e0 e1 e2), (aI g e1 36 co), (aI g e2 39 re_)]) (wr := []) (va_runV (As := [.int (nI i), .int (nI k)]) (rest := [.int mx]) ⟨hx, hb, hml, hown, hts⟩ (g_X3_through l g e0 e1 e2 co re_ i k (by first | assumption | decide | omega) (by first | assumption | decide | omega) H.size) (cwV 2 hts gX3_mostFrom_X3_through rfl rfl rfl (by decide +kernel) ⟨Nat.le_of_ble_eq_true rfl, Nat.le_of_ble_eq_true rfl⟩) (he_preV (wc := [(oX3 e0 e1 e2), (aI g e1 36 co), (aI g e2 39 re_)]) hK hP hD hS hA hE [0, 1, 2] rfl rfl 0 rfl rfl) rfl rfl hl.1 rfl (lv_room (Nat.le_of_ble_eq_true rfl)) dX3_mostFrom_25 ⟨(Nat.le_of_ble_eq_true rfl), (Nat.le_of_ble_eq_true rfl)⟩) hP hD hS hA [0, 1, 2] [] rfl rfl rfl (by decide) (fun r_8 u_9 H locs h_10 hP hD hS => ?_)
          subst h_10
          have hP : va_P g.1 vwCl [(oX3 e0 e1 e2), (aI g e1 36 co), (aI g e2 39 re_)] H := hP
          have hD : va_D A [(oX3 e0 e1 e2), (aI g e1 36 co), (aI g e2 39 re_)] := hD
          refine va_mmax hx hb (by rw [hml]; exact hl.1.symm) hown ml33 msmax mi mcmax (by decide) (Nat.le_of_ble_eq_true rfl) (Nat.le_of_ble_eq_true rfl) (Nat.le_of_ble_eq_true rfl) dX3_mostFrom_28 ?_
          refine lv_istore_n (lv' := [(3, .int (if mx < (co (i * 3 + k) + re_ ((i + 1) * 3 + k)) then co (i * 3 + k) + re_ ((i + 1) * 3 + k) else mx)), (0, .ref e0), (1, .int (nI i)), (2, .int (nI j)), (4, .int (nI k))]) hx hb dX3_mostFrom_31 rfl hl (by decide) rfl (fun ls hl => ?_)
          refine lv_iinc (v := nI (k + 1)) (lv' := [(4, .int (nI (k + 1))), (3, .int (if mx < (co (i * 3 + k) + re_ ((i + 1) * 3 + k)) then co (i * 3 + k) + re_ ((i + 1) * 3 + k) else mx)), (0, .ref e0), (1, .int (nI i)), (2, .int (nI j))]) hx hb dX3_mostFrom_32 hl (k := 4) rfl (nI_1 k) (by decide) rfl (fun ls hl => ?_)
          refine lv_goto (tgt := 5) hx hb dX3_mostFrom_35 (by decide) ?_
          exact ih5 (k + 1) (if mx < (co (i * 3 + k) + re_ ((i + 1) * 3 + k)) then co (i * 3 + k) + re_ ((i + 1) * 3 + k) else mx) (by omega) (by omega) _ _ _ hP hD hS (lv_sub hl [2, 3, 4, 1, 0] rfl)
  exact loop5 ((3 - 0) + 1) 0 0 (Nat.lt_succ_self _) (Nat.zero_le _) _ _ _ hP hD hS (lv_sub hl [2, 3, 4, 1, 0] rfl)
set_option maxHeartbeats 4000000 in
set_option maxRecDepth 100000 in
theorem g_X3_mostCoin (l : Launch) (g : he_G) (e0 : Nat) (e1 : Nat) (e2 : Nat) (co : Nat → Int32) (re_ : Nat → Int32)  : he_I l yX3_mostCoin wsX3_mostCoin 2 46 0 0 g [.ref e0] [(oX3 e0 e1 e2), (aI g e1 36 co), (aI g e2 39 re_)] (fun (r : Int32) (u : Nat → Int32) => True) (fun (u : Nat → Int32) => [(oX3 e0 e1 e2), (aI g e1 36 co), (aI g e2 39 u)]) := by
  refine he_begin (l := l) (g := g) (y := yX3_mostCoin) (wl := wsX3_mostCoin) (fr := 2) (lo := 46) (mc := 0) (ms := 0) (av := [.ref e0]) (ws := [(oX3 e0 e1 e2), (aI g e1 36 co), (aI g e2 39 re_)]) (cc := cX3_mostCoin) (maxL := 3) (ret := (some .int)) (fun A => va_Qi (fun (r : Int32) (u : Nat → Int32) => True) (fun u t => he_post g A ((fun (u : Nat → Int32) => [(oX3 e0 e1 e2), (aI g e1 36 co), (aI g e2 39 u)]) u) t) A) (by decide) rfl (Nat.le_of_ble_eq_true rfl) ?_
  intro p e s m args below meth c A ls H locs Q hQ hB
  obtain ⟨hx, hb, hr, hml, hown, hts, hlk, hin, hP, hK, hD, hS, hA, hE, hl⟩ := hB
  have hl : lv_has ls 3 [(0, .ref e0)] := hl
  have f13 := hts (.fieldLink RX3 13 "HiredEnemy$Bids" "rest" "[I") (iwoX3_mostCoin (k := 0) rfl)
  have inX3 : ∀ w ∈ wsX30, w ∈ wsX3_mostCoin := innX3_mostCoin_X3
  refine lv_bipush (v := 11) hx hb dX3_mostCoin_0 (by decide) ?_
  refine lv_istore_n (lv' := [(1, .int 11), (0, .ref e0)]) hx hb dX3_mostCoin_2 rfl hl (by decide) rfl (fun ls hl => ?_)
  have loop3 : ∀ (n9 : Nat) (i : Nat) (mo : Int32) (rj : Nat → Int32), i < n9 → (i ≤ 12) → (mo = nI i - 1) → ∀ (H : Heap) (locs : List Loc) (ls : Array Slot), va_P g.1 vwCl [(oX3 e0 e1 e2), (aI g e1 36 co), (aI g e2 39 rj)] H → va_D A [(oX3 e0 e1 e2), (aI g e1 36 co), (aI g e2 39 rj)] → va_S A s.heap H locs → lv_has ls 3 [(0, .ref e0), (1, .int mo)] → W p l e (he_room 2 46 0 0) s m args below meth c H locs 0 0 Q (F0 m 3 ls []) := by
    intro n9
    induction n9 with
    | zero => intro i mo rj hm9; exact absurd hm9 (Nat.not_lt_zero _)
    | succ n9 ih3 =>
      intro i mo rj hm9 hi hmo H locs ls hP hD hS hl
      refine lv_iload_n hx hb dX3_mostCoin_3 rfl (lv_at hl 1 rfl) ?_
      refine lv_if_lt (tgt := 42) hx hb dX3_mostCoin_4 (by decide) (fun c_1 => ?_) (fun c_1 => ?_)
      · refine lv_aload_n hx hb dX3_mostCoin_42 rfl (lv_at hl 0 rfl) ?_
        refine va_get (v := .ref e2) (T := TX3) (N := 2) hx hb hts inX3 hown hK hP 0 rfl rfl 1 (by decide) f13 (fun _ h9 => h9) rfl dX3_mostCoin_43 ?_
        refine lv_iconst (v := 0) hx hb dX3_mostCoin_46 (by decide) ?_
        refine he_iald hx hb hK hP 2 rfl (0) (by decide) (by decide) (by first | decide | assumption) (rj 0) rfl dX3_mostCoin_47 ?_
        exact he_ri hQ hx hb hr hlk hP hD hS dX3_mostCoin_48 (Nat.le_of_ble_eq_true rfl) (Nat.le_of_ble_eq_true rfl) (rj) (rfl) (trivial)
      · obtain ⟨k, rfl, rfl⟩ := he_down hmo c_1
        refine lv_iconst (v := 0) hx hb dX3_mostCoin_7 (by decide) ?_
        refine lv_istore_n (lv' := [(2, .int 0), (0, .ref e0), (1, .int (nI k))]) hx hb dX3_mostCoin_8 rfl hl (by decide) rfl (fun ls hl => ?_)
        have loop9 : ∀ (n9 : Nat) (j : Nat) (rj : Nat → Int32), 3 - j < n9 → (j ≤ 3) → ∀ (H : Heap) (locs : List Loc) (ls : Array Slot), va_P g.1 vwCl [(oX3 e0 e1 e2), (aI g e1 36 co), (aI g e2 39 rj)] H → va_D A [(oX3 e0 e1 e2), (aI g e1 36 co), (aI g e2 39 rj)] → va_S A s.heap H locs → lv_has ls 3 [(0, .ref e0), (1, .int (nI k)), (2, .int (nI j))] → W p l e (he_room 2 46 0 0) s m args below meth c H locs 0 0 Q (F0 m 9 ls []) := by
          intro n9
          induction n9 with
          | zero => intro j rj hm9; exact absurd hm9 (Nat.not_lt_zero _)
          | succ n9 ih9 =>
            intro j rj hm9 hj H locs ls hP hD hS hl
            refine lv_iload_n hx hb dX3_mostCoin_9 rfl (lv_at hl 2 rfl) ?_
            refine lv_iconst (v := 3) hx hb dX3_mostCoin_10 (by decide) ?_
            refine lv_icmp_ge (tgt := 36) hx hb dX3_mostCoin_11 (by decide) (fun c_2 => ?_) (fun c_2 => ?_)
            · have k_3 : 3 ≤ j := (he_cle (a := 3) (b := j) (by decide) rfl (by omega) (by omega)).mp c_2
              refine lv_iinc (v := nI k + (-1)) (lv' := [(1, .int (nI k + (-1))), (0, .ref e0), (2, .int (nI j))]) hx hb dX3_mostCoin_36 hl (k := 1) rfl rfl (by decide) rfl (fun ls hl => ?_)
              refine lv_goto (tgt := 3) hx hb dX3_mostCoin_39 (by decide) ?_
              exact ih3 k (nI k + (-1)) rj (by omega) (by omega) (he_dec k) _ _ _ hP hD hS (lv_sub hl [1, 0] rfl)
            · have k_4 : ¬ (3 ≤ j) := fun h9 => c_2 ((he_cle (a := 3) (b := j) (by decide) rfl (by omega) (by omega)).mpr h9)
              refine lv_aload_n hx hb dX3_mostCoin_14 rfl (lv_at hl 0 rfl) ?_
              refine va_get (v := .ref e2) (T := TX3) (N := 2) hx hb hts inX3 hown hK hP 0 rfl rfl 1 (by decide) f13 (fun _ h9 => h9) rfl dX3_mostCoin_15 ?_
              refine lv_iload_n hx hb dX3_mostCoin_18 rfl (lv_at hl 1 rfl) ?_
              refine lv_iconst (v := 3) hx hb dX3_mostCoin_19 (by decide) ?_
              refine lv_imul hx hb dX3_mostCoin_20 ?_
              refine he_top (nI (k * 3)) (pk_mul k 3) ?_
              refine lv_iload_n hx hb dX3_mostCoin_21 rfl (lv_at hl 2 rfl) ?_
              refine lv_iadd hx hb dX3_mostCoin_22 ?_
              refine he_top (nI (k * 3 + j)) (nI_add (k * 3) j) ?_
              refine lv_aload_n hx hb dX3_mostCoin_23 rfl (lv_at hl 0 rfl) ?_
              refine lv_iload_n hx hb dX3_mostCoin_24 rfl (lv_at hl 1 rfl) ?_
              refine lv_iload_n hx hb dX3_mostCoin_25 rfl (lv_at hl 2 rfl) ?_
              refine he_ci (wc := [(oX3 e0 e1 e2), (aI g e1 36 co), (aI g e2 39 rj)]) (wr := []) (va_runV (As := [.int (nI k), .int (nI j)]) (rest := [.int (nI (k * 3 + j)), .ref e2]) ⟨hx, hb, hml, hown, hts⟩ (g_X3_mostFrom l g e0 e1 e2 co rj k j (by first | assumption | decide | omega) (by first | assumption | decide | omega) H.size) (cwV 2 hts gX3_mostCoin_X3_mostFrom rfl rfl rfl (by decide +kernel) ⟨Nat.le_of_ble_eq_true rfl, Nat.le_of_ble_eq_true rfl⟩) (he_preV (wc := [(oX3 e0 e1 e2), (aI g e1 36 co), (aI g e2 39 rj)]) hK hP hD hS hA hE [0, 1, 2] rfl rfl 0 rfl rfl) rfl rfl hl.1 rfl (lv_room (Nat.le_of_ble_eq_true rfl)) dX3_mostCoin_26 ⟨(Nat.le_of_ble_eq_true rfl), (Nat.le_of_ble_eq_true rfl)⟩) hP hD hS hA [0, 1, 2] [] rfl rfl rfl (by decide) (fun r_5 u_6 H locs h_7 hP hD hS => ?_)
              have hP : va_P g.1 vwCl [(oX3 e0 e1 e2), (aI g e1 36 co), (aI g e2 39 rj)] H := hP
              have hD : va_D A [(oX3 e0 e1 e2), (aI g e1 36 co), (aI g e2 39 rj)] := hD
              refine he_iast hx hb hK hP hD hS 2 rfl (k * 3 + j) rfl (by first | assumption | decide | omega) (by first | decide | assumption) dX3_mostCoin_29 (fun H locs hP hD hS => ?_)
              have hP : va_P g.1 vwCl [(oX3 e0 e1 e2), (aI g e1 36 co), (aI g e2 39 (upd rj (k * 3 + j) r_5))] H := hP
              have hD : va_D A [(oX3 e0 e1 e2), (aI g e1 36 co), (aI g e2 39 (upd rj (k * 3 + j) r_5))] := hD
              refine lv_iinc (v := nI (j + 1)) (lv' := [(2, .int (nI (j + 1))), (0, .ref e0), (1, .int (nI k))]) hx hb dX3_mostCoin_30 hl (k := 2) rfl (nI_1 j) (by decide) rfl (fun ls hl => ?_)
              refine lv_goto (tgt := 9) hx hb dX3_mostCoin_33 (by decide) ?_
              exact ih9 (j + 1) (upd rj (k * 3 + j) r_5) (by omega) (by omega) _ _ _ hP hD hS (lv_sub hl [1, 2, 0] rfl)
        exact loop9 ((3 - 0) + 1) 0 rj (Nat.lt_succ_self _) (Nat.zero_le _) _ _ _ hP hD hS (lv_sub hl [1, 2, 0] rfl)
  exact loop3 ((12) + 1) 12 11 re_ (Nat.lt_succ_self _) (by decide) (by decide) _ _ _ hP hD hS (lv_sub hl [1, 0] rfl)
set_option maxHeartbeats 4000000 in
set_option maxRecDepth 100000 in
theorem g_X3_firstWay (l : Launch) (g : he_G) (e0 : Nat) (e1 : Nat) (e2 : Nat) (co : Nat → Int32) (re_ : Nat → Int32) (i : Nat) (b : Nat) (hi : i < 12) (hb9 : b < 3) : he_I l yX3_firstWay wsX3_firstWay 1 22 0 0 g [.ref e0, .int (nI i), .int (nI b)] [(oX3 e0 e1 e2), (aI g e1 36 co), (aI g e2 39 re_)] (fun (r : Int32) (u : Nat) => r = nI u ∧ u < 3) (fun (u : Nat) => [(oX3 e0 e1 e2), (aI g e1 36 co), (aI g e2 39 re_)]) := by
  refine he_begin (l := l) (g := g) (y := yX3_firstWay) (wl := wsX3_firstWay) (fr := 1) (lo := 22) (mc := 0) (ms := 0) (av := [.ref e0, .int (nI i), .int (nI b)]) (ws := [(oX3 e0 e1 e2), (aI g e1 36 co), (aI g e2 39 re_)]) (cc := cX3_firstWay) (maxL := 4) (ret := (some .int)) (fun A => va_Qi (fun (r : Int32) (u : Nat) => r = nI u ∧ u < 3) (fun u t => he_post g A ((fun (u : Nat) => [(oX3 e0 e1 e2), (aI g e1 36 co), (aI g e2 39 re_)]) u) t) A) (by decide) rfl (Nat.le_of_ble_eq_true rfl) ?_
  intro p e s m args below meth c A ls H locs Q hQ hB
  obtain ⟨hx, hb, hr, hml, hown, hts, hlk, hin, hP, hK, hD, hS, hA, hE, hl⟩ := hB
  have hl : lv_has ls 4 [(0, .ref e0), (1, .int (nI i)), (2, .int (nI b))] := hl
  have f13 := hts (.fieldLink RX3 13 "HiredEnemy$Bids" "rest" "[I") (iwoX3_firstWay (k := 0) rfl)
  have inX3 : ∀ w ∈ wsX30, w ∈ wsX3_firstWay := innX3_firstWay_X3
  refine lv_iconst (v := 0) hx hb dX3_firstWay_0 (by decide) ?_
  refine lv_istore_n (lv' := [(3, .int 0), (0, .ref e0), (1, .int (nI i)), (2, .int (nI b))]) hx hb dX3_firstWay_1 rfl hl (by decide) rfl (fun ls hl => ?_)
  have loop2 : ∀ (n9 : Nat) (j : Nat), 3 - j < n9 → (j ≤ 3) → ∀ (H : Heap) (locs : List Loc) (ls : Array Slot), va_P g.1 vwCl [(oX3 e0 e1 e2), (aI g e1 36 co), (aI g e2 39 re_)] H → va_D A [(oX3 e0 e1 e2), (aI g e1 36 co), (aI g e2 39 re_)] → va_S A s.heap H locs → lv_has ls 4 [(0, .ref e0), (1, .int (nI i)), (2, .int (nI b)), (3, .int (nI j))] → W p l e (he_room 1 22 0 0) s m args below meth c H locs 0 0 Q (F0 m 2 ls []) := by
    intro n9
    induction n9 with
    | zero => intro j hm9; exact absurd hm9 (Nat.not_lt_zero _)
    | succ n9 ih2 =>
      intro j hm9 hj H locs ls hP hD hS hl
      refine lv_iload_n hx hb dX3_firstWay_2 rfl (lv_at hl 3 rfl) ?_
      refine lv_iconst (v := 3) hx hb dX3_firstWay_3 (by decide) ?_
      refine lv_icmp_ge (tgt := 42) hx hb dX3_firstWay_4 (by decide) (fun c_1 => ?_) (fun c_1 => ?_)
      · have k_2 : 3 ≤ j := (he_cle (a := 3) (b := j) (by decide) rfl (by omega) (by omega)).mp c_1
        refine lv_iconst (v := 0) hx hb dX3_firstWay_42 (by decide) ?_
        exact he_ri hQ hx hb hr hlk hP hD hS dX3_firstWay_43 (Nat.le_of_ble_eq_true rfl) (Nat.le_of_ble_eq_true rfl) (0) (rfl) (⟨rfl, by decide⟩)
      · have k_3 : ¬ (3 ≤ j) := fun h9 => c_1 ((he_cle (a := 3) (b := j) (by decide) rfl (by omega) (by omega)).mpr h9)
        refine lv_iload_n hx hb dX3_firstWay_7 rfl (lv_at hl 2 rfl) ?_
        refine lv_iload_n hx hb dX3_firstWay_8 rfl (lv_at hl 3 rfl) ?_
        refine he_ci (wc := []) (wr := [(oX3 e0 e1 e2), (aI g e1 36 co), (aI g e2 39 re_)]) (va_runS (As := [.int (nI b), .int (nI j)]) (rest := []) ⟨hx, hb, hml, hown, hts⟩ (c_X3_mayFollow l g b j (by first | assumption | decide | omega) (by first | assumption | decide | omega) H.size) (va_cwS 2 hts gX3_firstWay_X3_mayFollow rfl rfl rfl (by decide +kernel) ⟨Nat.le_of_ble_eq_true rfl, Nat.le_of_ble_eq_true rfl⟩) (he_preS (wc := []) hK hP hD hS hA hE [] rfl rfl) rfl rfl hl.1 rfl (lv_room (Nat.le_of_ble_eq_true rfl)) dX3_firstWay_9 ⟨(Nat.le_of_ble_eq_true rfl), (Nat.le_of_ble_eq_true rfl)⟩) hP hD hS hA [] [0, 1, 2] rfl rfl rfl (by decide) (fun r_4 u_5 H locs h_6 hP hD hS => ?_)
        subst h_6
        have hP : va_P g.1 vwCl [(oX3 e0 e1 e2), (aI g e1 36 co), (aI g e2 39 re_)] H := hP
        have hD : va_D A [(oX3 e0 e1 e2), (aI g e1 36 co), (aI g e2 39 re_)] := hD
        refine lv_if_eq (tgt := 36) hx hb dX3_firstWay_12 (by decide) (fun c_7 => ?_) (fun c_7 => ?_)
        · refine lv_iinc (v := nI (j + 1)) (lv' := [(3, .int (nI (j + 1))), (0, .ref e0), (1, .int (nI i)), (2, .int (nI b))]) hx hb dX3_firstWay_36 hl (k := 3) rfl (nI_1 j) (by decide) rfl (fun ls hl => ?_)
          refine lv_goto (tgt := 2) hx hb dX3_firstWay_39 (by decide) ?_
          exact ih2 (j + 1) (by omega) (by omega) _ _ _ hP hD hS (lv_sub hl [1, 2, 3, 0] rfl)
        · refine lv_aload_n hx hb dX3_firstWay_15 rfl (lv_at hl 0 rfl) ?_
          refine lv_iload_n hx hb dX3_firstWay_16 rfl (lv_at hl 1 rfl) ?_
          refine lv_iload_n hx hb dX3_firstWay_17 rfl (lv_at hl 3 rfl) ?_
          refine he_ci (wc := [(oX3 e0 e1 e2), (aI g e1 36 co), (aI g e2 39 re_)]) (wr := []) (va_runV (As := [.int (nI i), .int (nI j)]) (rest := []) ⟨hx, hb, hml, hown, hts⟩ (g_X3_through l g e0 e1 e2 co re_ i j (by first | assumption | decide | omega) (by first | assumption | decide | omega) H.size) (cwV 2 hts gX3_firstWay_X3_through rfl rfl rfl (by decide +kernel) ⟨Nat.le_of_ble_eq_true rfl, Nat.le_of_ble_eq_true rfl⟩) (he_preV (wc := [(oX3 e0 e1 e2), (aI g e1 36 co), (aI g e2 39 re_)]) hK hP hD hS hA hE [0, 1, 2] rfl rfl 0 rfl rfl) rfl rfl hl.1 rfl (lv_room (Nat.le_of_ble_eq_true rfl)) dX3_firstWay_18 ⟨(Nat.le_of_ble_eq_true rfl), (Nat.le_of_ble_eq_true rfl)⟩) hP hD hS hA [0, 1, 2] [] rfl rfl rfl (by decide) (fun r_8 u_9 H locs h_10 hP hD hS => ?_)
          subst h_10
          have hP : va_P g.1 vwCl [(oX3 e0 e1 e2), (aI g e1 36 co), (aI g e2 39 re_)] H := hP
          have hD : va_D A [(oX3 e0 e1 e2), (aI g e1 36 co), (aI g e2 39 re_)] := hD
          refine lv_aload_n hx hb dX3_firstWay_21 rfl (lv_at hl 0 rfl) ?_
          refine va_get (v := .ref e2) (T := TX3) (N := 2) hx hb hts inX3 hown hK hP 0 rfl rfl 1 (by decide) f13 (fun _ h9 => h9) rfl dX3_firstWay_22 ?_
          refine lv_iload_n hx hb dX3_firstWay_25 rfl (lv_at hl 1 rfl) ?_
          refine lv_iconst (v := 3) hx hb dX3_firstWay_26 (by decide) ?_
          refine lv_imul hx hb dX3_firstWay_27 ?_
          refine he_top (nI (i * 3)) (pk_mul i 3) ?_
          refine lv_iload_n hx hb dX3_firstWay_28 rfl (lv_at hl 2 rfl) ?_
          refine lv_iadd hx hb dX3_firstWay_29 ?_
          refine he_top (nI (i * 3 + b)) (nI_add (i * 3) b) ?_
          refine he_iald hx hb hK hP 2 rfl (i * 3 + b) rfl (by first | assumption | decide | omega) (by first | decide | assumption) (re_ (i * 3 + b)) rfl dX3_firstWay_30 ?_
          refine lv_icmp_ne (tgt := 36) hx hb dX3_firstWay_31 (by decide) (fun c_11 => ?_) (fun c_11 => ?_)
          · refine lv_iinc (v := nI (j + 1)) (lv' := [(3, .int (nI (j + 1))), (0, .ref e0), (1, .int (nI i)), (2, .int (nI b))]) hx hb dX3_firstWay_36 hl (k := 3) rfl (nI_1 j) (by decide) rfl (fun ls hl => ?_)
            refine lv_goto (tgt := 2) hx hb dX3_firstWay_39 (by decide) ?_
            exact ih2 (j + 1) (by omega) (by omega) _ _ _ hP hD hS (lv_sub hl [1, 2, 3, 0] rfl)
          · refine lv_iload_n hx hb dX3_firstWay_34 rfl (lv_at hl 3 rfl) ?_
            exact he_ri hQ hx hb hr hlk hP hD hS dX3_firstWay_35 (Nat.le_of_ble_eq_true rfl) (Nat.le_of_ble_eq_true rfl) (j) (rfl) (⟨rfl, by omega⟩)
  exact loop2 ((3 - 0) + 1) 0 (Nat.lt_succ_self _) (Nat.zero_le _) _ _ _ hP hD hS (lv_sub hl [1, 2, 3, 0] rfl)
set_option maxHeartbeats 4000000 in
set_option maxRecDepth 100000 in
theorem g_X3_served (l : Launch) (g : he_G) (e0 : Nat) (e1 : Nat) (e2 : Nat) (co : Nat → Int32) (re_ : Nat → Int32) (k : Nat) (hk : k < 12) : he_I l yX3_served wsX3_served 3 68 0 0 g [.ref e0, .int (nI k)] [(oX3 e0 e1 e2), (aI g e1 36 co), (aI g e2 39 re_)] (fun (r : Int32) (u : Nat → Int32) => True) (fun (u : Nat → Int32) => [(oX3 e0 e1 e2), (aI g e1 36 co), (aI g e2 39 u)]) := by
  refine he_begin (l := l) (g := g) (y := yX3_served) (wl := wsX3_served) (fr := 3) (lo := 68) (mc := 0) (ms := 0) (av := [.ref e0, .int (nI k)]) (ws := [(oX3 e0 e1 e2), (aI g e1 36 co), (aI g e2 39 re_)]) (cc := cX3_served) (maxL := 4) (ret := (some .int)) (fun A => va_Qi (fun (r : Int32) (u : Nat → Int32) => True) (fun u t => he_post g A ((fun (u : Nat → Int32) => [(oX3 e0 e1 e2), (aI g e1 36 co), (aI g e2 39 u)]) u) t) A) (by decide) rfl (Nat.le_of_ble_eq_true rfl) ?_
  intro p e s m args below meth c A ls H locs Q hQ hB
  obtain ⟨hx, hb, hr, hml, hown, hts, hlk, hin, hP, hK, hD, hS, hA, hE, hl⟩ := hB
  have hl : lv_has ls 4 [(0, .ref e0), (1, .int (nI k))] := hl
  refine lv_aload_n hx hb dX3_served_0 rfl (lv_at hl 0 rfl) ?_
  refine he_ci (wc := [(oX3 e0 e1 e2), (aI g e1 36 co), (aI g e2 39 re_)]) (wr := []) (va_runV (As := []) (rest := []) ⟨hx, hb, hml, hown, hts⟩ (g_X3_mostCoin l g e0 e1 e2 co re_ H.size) (cwV 0 hts gX3_served_X3_mostCoin rfl rfl rfl (by decide +kernel) ⟨Nat.le_of_ble_eq_true rfl, Nat.le_of_ble_eq_true rfl⟩) (he_preV (wc := [(oX3 e0 e1 e2), (aI g e1 36 co), (aI g e2 39 re_)]) hK hP hD hS hA hE [0, 1, 2] rfl rfl 0 rfl rfl) rfl rfl hl.1 rfl (lv_room (Nat.le_of_ble_eq_true rfl)) dX3_served_1 ⟨(Nat.le_of_ble_eq_true rfl), (Nat.le_of_ble_eq_true rfl)⟩) hP hD hS hA [0, 1, 2] [] rfl rfl rfl (by decide) (fun r_1 u_2 H locs h_3 hP hD hS => ?_)
  obtain ⟨ur_4, rfl⟩ : ∃ z, z = u_2 := ⟨_, rfl⟩
  have hP : va_P g.1 vwCl [(oX3 e0 e1 e2), (aI g e1 36 co), (aI g e2 39 ur_4)] H := hP
  have hD : va_D A [(oX3 e0 e1 e2), (aI g e1 36 co), (aI g e2 39 ur_4)] := hD
  refine lv_pop hx hb dX3_served_4 rfl ?_
  refine lv_iconst (v := 0) hx hb dX3_served_5 (by decide) ?_
  refine lv_istore_n (lv' := [(2, .int 0), (0, .ref e0), (1, .int (nI k))]) hx hb dX3_served_6 rfl hl (by decide) rfl (fun ls hl => ?_)
  refine lv_iconst (v := 0) hx hb dX3_served_7 (by decide) ?_
  refine lv_istore_n (lv' := [(3, .int 0), (2, .int 0), (0, .ref e0), (1, .int (nI k))]) hx hb dX3_served_8 rfl hl (by decide) rfl (fun ls hl => ?_)
  have loop9 : ∀ (n9 : Nat) (j : Nat) (b : Nat) (rj : Nat → Int32), 12 - j < n9 → (j ≤ 12) → (b < 3) → ∀ (H : Heap) (locs : List Loc) (ls : Array Slot), va_P g.1 vwCl [(oX3 e0 e1 e2), (aI g e1 36 co), (aI g e2 39 rj)] H → va_D A [(oX3 e0 e1 e2), (aI g e1 36 co), (aI g e2 39 rj)] → va_S A s.heap H locs → lv_has ls 4 [(0, .ref e0), (1, .int (nI k)), (2, .int (nI b)), (3, .int (nI j))] → W p l e (he_room 3 68 0 0) s m args below meth c H locs 0 0 Q (F0 m 9 ls []) := by
    intro n9
    induction n9 with
    | zero => intro j b rj hm9; exact absurd hm9 (Nat.not_lt_zero _)
    | succ n9 ih9 =>
      intro j b rj hm9 hj hb9 H locs ls hP hD hS hl
      refine lv_iload_n hx hb dX3_served_9 rfl (lv_at hl 3 rfl) ?_
      refine lv_iload_n hx hb dX3_served_10 rfl (lv_at hl 1 rfl) ?_
      refine lv_icmp_gt (tgt := 33) hx hb dX3_served_11 (by decide) (fun c_5 => ?_) (fun c_5 => ?_)
      · have k_6 : k < j := (he_clt (a := k) (b := j) rfl rfl (by omega) (by omega)).mp c_5
        refine lv_iload_n hx hb dX3_served_33 rfl (lv_at hl 2 rfl) ?_
        exact he_ri hQ hx hb hr hlk hP hD hS dX3_served_34 (Nat.le_of_ble_eq_true rfl) (Nat.le_of_ble_eq_true rfl) (rj) (rfl) (trivial)
      · have k_7 : ¬ (k < j) := fun h9 => c_5 ((he_clt (a := k) (b := j) rfl rfl (by omega) (by omega)).mpr h9)
        refine lv_iload_n hx hb dX3_served_14 rfl (lv_at hl 3 rfl) ?_
        refine lv_bipush (v := 12) hx hb dX3_served_15 (by decide) ?_
        refine lv_icmp_ge (tgt := 33) hx hb dX3_served_17 (by decide) (fun c_8 => ?_) (fun c_8 => ?_)
        · have k_9 : 12 ≤ j := (he_cle (a := 12) (b := j) (by decide) rfl (by omega) (by omega)).mp c_8
          refine lv_iload_n hx hb dX3_served_33 rfl (lv_at hl 2 rfl) ?_
          exact he_ri hQ hx hb hr hlk hP hD hS dX3_served_34 (Nat.le_of_ble_eq_true rfl) (Nat.le_of_ble_eq_true rfl) (rj) (rfl) (trivial)
        · have k_10 : ¬ (12 ≤ j) := fun h9 => c_8 ((he_cle (a := 12) (b := j) (by decide) rfl (by omega) (by omega)).mpr h9)
          refine lv_aload_n hx hb dX3_served_20 rfl (lv_at hl 0 rfl) ?_
          refine lv_iload_n hx hb dX3_served_21 rfl (lv_at hl 3 rfl) ?_
          refine lv_iload_n hx hb dX3_served_22 rfl (lv_at hl 2 rfl) ?_
          refine he_ci (wc := [(oX3 e0 e1 e2), (aI g e1 36 co), (aI g e2 39 rj)]) (wr := []) (va_runV (As := [.int (nI j), .int (nI b)]) (rest := []) ⟨hx, hb, hml, hown, hts⟩ (g_X3_firstWay l g e0 e1 e2 co rj j b (by first | assumption | decide | omega) (by first | assumption | decide | omega) H.size) (cwV 2 hts gX3_served_X3_firstWay rfl rfl rfl (by decide +kernel) ⟨Nat.le_of_ble_eq_true rfl, Nat.le_of_ble_eq_true rfl⟩) (he_preV (wc := [(oX3 e0 e1 e2), (aI g e1 36 co), (aI g e2 39 rj)]) hK hP hD hS hA hE [0, 1, 2] rfl rfl 0 rfl rfl) rfl rfl hl.1 rfl (lv_room (Nat.le_of_ble_eq_true rfl)) dX3_served_23 ⟨(Nat.le_of_ble_eq_true rfl), (Nat.le_of_ble_eq_true rfl)⟩) hP hD hS hA [0, 1, 2] [] rfl rfl rfl (by decide) (fun r_11 u_12 H locs h_13 hP hD hS => ?_)
          obtain ⟨k_14, rfl⟩ : ∃ z, z = u_12 := ⟨_, rfl⟩
          try dsimp only at h_13
          obtain ⟨rfl, hf_15⟩ := h_13
          have hP : va_P g.1 vwCl [(oX3 e0 e1 e2), (aI g e1 36 co), (aI g e2 39 rj)] H := hP
          have hD : va_D A [(oX3 e0 e1 e2), (aI g e1 36 co), (aI g e2 39 rj)] := hD
          refine lv_istore_n (lv' := [(2, .int (nI k_14)), (0, .ref e0), (1, .int (nI k)), (3, .int (nI j))]) hx hb dX3_served_26 rfl hl (by decide) rfl (fun ls hl => ?_)
          refine lv_iinc (v := nI (j + 1)) (lv' := [(3, .int (nI (j + 1))), (2, .int (nI k_14)), (0, .ref e0), (1, .int (nI k))]) hx hb dX3_served_27 hl (k := 3) rfl (nI_1 j) (by decide) rfl (fun ls hl => ?_)
          refine lv_goto (tgt := 9) hx hb dX3_served_30 (by decide) ?_
          exact ih9 (j + 1) k_14 rj (by omega) (by omega) (by omega) _ _ _ hP hD hS (lv_sub hl [2, 3, 1, 0] rfl)
  exact loop9 ((12 - 0) + 1) 0 0 ur_4 (Nat.lt_succ_self _) (Nat.zero_le _) (by decide) _ _ _ hP hD hS (lv_sub hl [2, 3, 1, 0] rfl)
